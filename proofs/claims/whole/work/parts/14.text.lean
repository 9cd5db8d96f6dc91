/-! PART 14: Text: the letters and their reader -/
def chf (tx : Nat → Nat) (len p : Nat) : Nat := if p < len then tx p else 32
abbrev dig (c : Nat → Nat) (p : Nat) : Prop := 48 ≤ c p ∧ c p ≤ 57
def nln (c : Nat → Nat) (p : Nat) : Nat := if dig c (p + 1) then 2 else 1
def nvl (c : Nat → Nat) (p : Nat) : Nat := if dig c (p + 1) then 10 * (c p - 48) + (c (p + 1) - 48) else c p - 48
theorem nln_le (c : Nat → Nat) (p : Nat) : nln c p ≤ 2 := by unfold nln; split <;> omega
theorem nvl_le {c : Nat → Nat} {p : Nat} (h : dig c p) : nvl c p ≤ 99 := by unfold nvl; obtain ⟨h1, h2⟩ := h; split <;> omega
/-- behind one number and its sign, behind two -/
def e1 (c : Nat → Nat) (p : Nat) : Nat := p + nln c p + 1
def e2 (c : Nat → Nat) (p : Nat) : Nat := e1 c p + nln c (e1 c p) + 1
abbrev t1 (c : Nat → Nat) (p : Nat) : Prop := dig c p ∧ c (p + nln c p) = 59
abbrev t2 (c : Nat → Nat) (p : Nat) : Prop := dig c p ∧ c (p + nln c p) = 44 ∧ dig c (e1 c p) ∧ c (e1 c p + nln c (e1 c p)) = 59
abbrev okI (c : Nat → Nat) (p : Nat) : Prop :=
  (c p = 98 ∧ t2 c (p + 1) ∧ nvl c (p + 1) ≤ 10 ∧ nvl c (e1 c (p + 1)) ≤ 10) ∨ (c p = 104 ∧ t2 c (p + 1) ∧ nvl c (p + 1) ≤ 3 ∧ nvl c (e1 c (p + 1)) ≤ 4) ∨
  (c p = 108 ∧ t1 c (p + 1) ∧ nvl c (p + 1) ≤ 1) ∨ (c p = 101 ∧ t1 c (p + 1) ∧ 1 ≤ nvl c (p + 1) ∧ nvl c (p + 1) ≤ 9)
def nxt (c : Nat → Nat) (p : Nat) : Nat := if c p = 98 ∨ c p = 104 then e2 c (p + 1) else e1 c (p + 1)
def dupd (c : Nat → Nat) (p : Nat) (d : Nat → Nat) : Nat → Nat :=
  if c p = 98 then vup (vup d 0 (nvl c (p + 1))) 1 (nvl c (e1 c (p + 1)))
  else if c p = 104 then vup (vup d 3 (nvl c (p + 1))) 4 (nvl c (e1 c (p + 1)))
  else if c p = 108 then vup d 2 (nvl c (p + 1)) else vup d 5 (nvl c (p + 1))
/-- the reader: the first fault, if there is one, and what was told -/
def prs0 (c : Nat → Nat) (len : Nat) : Nat → Nat → (Nat → Nat) → Option Nat × (Nat → Nat)
  | 0, _, d => (none, d)
  | f + 1, p, d => if p < len then (if okI c p then prs0 c len f (nxt c p) (dupd c p d) else (some p, d)) else (none, d)
noncomputable def prs (c : Nat → Nat) (len f p : Nat) (d : Nat → Nat) : Option Nat × (Nat → Nat) := hide (prs0 c len f p d)
theorem prs_z (c : Nat → Nat) (len p : Nat) (d : Nat → Nat) : prs c len 0 p d = (none, d) := hide_eq _
theorem prs_s (c : Nat → Nat) (len f p : Nat) (d : Nat → Nat) : prs c len (f + 1) p d = if p < len then (if okI c p then prs c len f (nxt c p) (dupd c p d) else (some p, d)) else (none, d) := by
  rw [prs, hide_eq, prs0, prs, hide_eq]
def flt (o : Option Nat) : Int32 := match o with
  | none => -4
  | some p => nI p
def d0 : Nat → Nat := fun j => if j = 0 then 10 else if j = 1 then 10 else if j = 2 then 2 else if j = 3 then 0 else if j = 4 then 2 else 3
theorem chf_lt {tx : Nat → Nat} {len p : Nat} (h : ∀ j, tx j < 127) : chf tx len p < 127 := by unfold chf; have := h p; split <;> omega
theorem in_len {tx : Nat → Nat} {len p v : Nat} (h : chf tx len p = v) (hv : v ≠ 32) : p < len := by
  unfold chf at h; split at h
  · assumption
  · exact absurd h.symm hv
theorem e2_len {tx : Nat → Nat} {len p : Nat} (h : t2 (chf tx len) p) : e2 (chf tx len) p ≤ len := by
  have := in_len h.2.2.2 (by decide)
  unfold e2; omega
theorem e1_len {tx : Nat → Nat} {len p : Nat} (h : t1 (chf tx len) p) : e1 (chf tx len) p ≤ len := by
  have := in_len h.2 (by decide)
  unfold e1; omega
theorem nxt_len {tx : Nat → Nat} {len p : Nat} (h : okI (chf tx len) p) : nxt (chf tx len) p ≤ len ∧ p + 1 < nxt (chf tx len) p := by
  unfold nxt
  rcases h with ⟨h1, h2, _⟩ | ⟨h1, h2, _⟩ | ⟨h1, h2, _⟩ | ⟨h1, h2, _⟩
  · rw [if_pos (Or.inl h1)]; refine ⟨e2_len h2, ?_⟩; unfold e2 e1; omega
  · rw [if_pos (Or.inr h1)]; refine ⟨e2_len h2, ?_⟩; unfold e2 e1; omega
  · rw [if_neg (by omega)]; refine ⟨e1_len h2, ?_⟩; unfold e1; omega
  · rw [if_neg (by omega)]; refine ⟨e1_len h2, ?_⟩; unfold e1; omega
theorem lk_none {x : Int} (h1 : x ≠ 98) (h2 : x ≠ 101) (h3 : x ≠ 104) (h4 : x ≠ 108) : Op.lookupswitch.offset [(98, 44), (101, 104), (104, 64), (108, 84)] 124 x = 124 := by
  have g1 : ¬ (98 : Int) = x := fun z => h1 z.symm
  have g2 : ¬ (101 : Int) = x := fun z => h2 z.symm
  have g3 : ¬ (104 : Int) = x := fun z => h3 z.symm
  have g4 : ¬ (108 : Int) = x := fun z => h4 z.symm
  simp [Op.lookupswitch.offset, g1, g2, g3, g4, h1, h2, h3, h4]
abbrev rm_X4_withinN : Room := { frames := 0, cells := 0, slots := 0, locals := 0 }
set_option maxHeartbeats 4000000 in
set_option maxRecDepth 100000 in
theorem c_X4_withinN (lq : Launch) (D : va_G) (t : zT) (x a b : Nat) (hx : x < 2 ^ 31) (ha : a < 2 ^ 31) (hb : b < 2 ^ 31) : Ct lq D t yX4_within cX4_within 3 (some .boolean) rm_X4_withinN [.int (nI x), .int (nI a), .int (nI b)] [] 0 0 (fun rv rw_ => rv = some (.int (zb (a ≤ x ∧ x ≤ b))) ∧ rw_ = []) := by
  refine Ct.of (by decide) (Nat.le_of_ble_eq_true rfl) (fun k X hR => ?_)
  have X : zX D t k cX4_within 3 RX4 "within" rm_X4_withinN lq := X
  refine z_eq (lv2 := [(0, .int (nI x)), (1, .int (nI a)), (2, .int (nI b))]) rfl rfl rfl ?_
  refine z_iload_n X (pc := 0) 0 dX4_within_0 rfl ?_
  refine z_iload_n X (pc := 1) 1 dX4_within_1 rfl ?_
  refine z_icmp_ltN X (pc := 2) 14 (by omega) (by omega) dX4_within_2 (by decide) (fun c_2 => ?_) (fun c_2 => ?_)
  · skip
    refine z_iconst X (pc := 14) (nI 0) dX4_within_14 (by decide) ?_
    exact hR.z dX4_within_15 rfl ⟨some_zb_f (by omega), rfl⟩
  · skip
    refine z_iload_n X (pc := 5) 0 dX4_within_5 rfl ?_
    refine z_iload_n X (pc := 6) 2 dX4_within_6 rfl ?_
    refine z_icmp_gtN X (pc := 7) 14 (by omega) (by omega) dX4_within_7 (by decide) (fun c_7 => ?_) (fun c_7 => ?_)
    · skip
      refine z_iconst X (pc := 14) (nI 0) dX4_within_14 (by decide) ?_
      exact hR.z dX4_within_15 rfl ⟨some_zb_f (by omega), rfl⟩
    · skip
      refine z_iconst X (pc := 10) (nI 1) dX4_within_10 (by decide) ?_
      refine z_goto X (pc := 11) 15 dX4_within_11 (by decide) ?_
      exact hR.z dX4_within_15 rfl ⟨some_zb_t (by omega), rfl⟩

abbrev rm_X4_isSideN : Room := { frames := 1, cells := 0, slots := 0, locals := 22 }
set_option maxHeartbeats 4000000 in
set_option maxRecDepth 100000 in
theorem c_X4_isSideN (lq : Launch) (D : va_G) (t : zT) (x : Nat) (hx : x < 2 ^ 31) : Ct lq D t yX4_isSide cX4_isSide 1 (some .boolean) rm_X4_isSideN [.int (nI x)] [] 0 0 (fun rv rw_ => rv = some (.int (zb (x ≤ 1))) ∧ rw_ = []) := by
  refine Ct.of (by decide) (Nat.le_of_ble_eq_true rfl) (fun k X hR => ?_)
  have X : zX D t k cX4_isSide 1 RX4 "isSide" rm_X4_isSideN lq := X
  refine z_eq (lv2 := [(0, .int (nI x))]) rfl rfl rfl ?_
  refine z_iload_n X (pc := 0) 0 dX4_isSide_0 rfl ?_
  refine z_iconst X (pc := 1) (nI 0) dX4_isSide_1 (by decide) ?_
  refine z_iconst X (pc := 2) (nI 1) dX4_isSide_2 (by decide) ?_
  refine zc_S (as := [.int (nI x), .int (nI 0), .int (nI 1)]) X (pc := 3) (c_X4_withinN lq D t x 0 1 (by omega) (by decide) (by decide)) tw_180 tw_182 tw_1 tw_181 [] rfl rfl dX4_isSide_3 rfl zdX4_within ⟨rfl, rfl, Nat.le_of_ble_eq_true rfl, Nat.le_of_ble_eq_true rfl⟩ (Nat.le_of_ble_eq_true rfl) (Nat.zero_le _) (Nat.zero_le _) (fun v_1 w_2 hp_3 => ?_)
  obtain ⟨rfl, rfl⟩ := hp_3
  refine ⟨rfl, ?_⟩
  refine z_eq (ws2 := []) (st2 := [.int (zb (0 ≤ x ∧ x ≤ 1))]) rfl rfl rfl ?_
  exact hR.z dX4_isSide_6 (zb_nar _) ⟨congrArg (fun z => some (Value.int z)) (zb_congr (by omega)), rfl⟩

abbrev rm_X4_isKindN : Room := { frames := 1, cells := 0, slots := 0, locals := 22 }
set_option maxHeartbeats 4000000 in
set_option maxRecDepth 100000 in
theorem c_X4_isKindN (lq : Launch) (D : va_G) (t : zT) (x : Nat) (hx : x < 2 ^ 31) : Ct lq D t yX4_isKind cX4_isKind 1 (some .boolean) rm_X4_isKindN [.int (nI x)] [] 0 0 (fun rv rw_ => rv = some (.int (zb (x ≤ 3))) ∧ rw_ = []) := by
  refine Ct.of (by decide) (Nat.le_of_ble_eq_true rfl) (fun k X hR => ?_)
  have X : zX D t k cX4_isKind 1 RX4 "isKind" rm_X4_isKindN lq := X
  refine z_eq (lv2 := [(0, .int (nI x))]) rfl rfl rfl ?_
  refine z_iload_n X (pc := 0) 0 dX4_isKind_0 rfl ?_
  refine z_iconst X (pc := 1) (nI 0) dX4_isKind_1 (by decide) ?_
  refine z_iconst X (pc := 2) (nI 3) dX4_isKind_2 (by decide) ?_
  refine zc_S (as := [.int (nI x), .int (nI 0), .int (nI 3)]) X (pc := 3) (c_X4_withinN lq D t x 0 3 (by omega) (by decide) (by decide)) tw_180 tw_182 tw_1 tw_181 [] rfl rfl dX4_isKind_3 rfl zdX4_within ⟨rfl, rfl, Nat.le_of_ble_eq_true rfl, Nat.le_of_ble_eq_true rfl⟩ (Nat.le_of_ble_eq_true rfl) (Nat.zero_le _) (Nat.zero_le _) (fun v_1 w_2 hp_3 => ?_)
  obtain ⟨rfl, rfl⟩ := hp_3
  refine ⟨rfl, ?_⟩
  refine z_eq (ws2 := []) (st2 := [.int (zb (0 ≤ x ∧ x ≤ 3))]) rfl rfl rfl ?_
  exact hR.z dX4_isKind_6 (zb_nar _) ⟨congrArg (fun z => some (Value.int z)) (zb_congr (by omega)), rfl⟩

abbrev rm_X4_isHandN : Room := { frames := 2, cells := 0, slots := 0, locals := 42 }
set_option maxHeartbeats 4000000 in
set_option maxRecDepth 100000 in
theorem c_X4_isHandN (lq : Launch) (D : va_G) (t : zT) (kd x : Nat) (hkd : kd < 2 ^ 31) (hx : x < 2 ^ 31) : Ct lq D t yX4_isHand cX4_isHand 2 (some .boolean) rm_X4_isHandN [.int (nI kd), .int (nI x)] [] 0 0 (fun rv rw_ => rv = some (.int (zb (kd ≤ 3 ∧ x ≤ 4))) ∧ rw_ = []) := by
  refine Ct.of (by decide) (Nat.le_of_ble_eq_true rfl) (fun k X hR => ?_)
  have X : zX D t k cX4_isHand 2 RX4 "isHand" rm_X4_isHandN lq := X
  refine z_eq (lv2 := [(0, .int (nI kd)), (1, .int (nI x))]) rfl rfl rfl ?_
  refine z_iload_n X (pc := 0) 0 dX4_isHand_0 rfl ?_
  refine zc_S (as := [.int (nI kd)]) X (pc := 1) (c_X4_isKindN lq D t kd (by omega)) tw_245 tw_247 tw_1 tw_246 [] rfl rfl dX4_isHand_1 rfl zdX4_isKind ⟨rfl, rfl, Nat.le_of_ble_eq_true rfl, Nat.le_of_ble_eq_true rfl⟩ (Nat.le_of_ble_eq_true rfl) (Nat.zero_le _) (Nat.zero_le _) (fun v_1 w_2 hp_3 => ?_)
  obtain ⟨rfl, rfl⟩ := hp_3
  refine ⟨rfl, ?_⟩
  refine z_eq (ws2 := []) (st2 := [.int (zb (kd ≤ 3))]) rfl rfl rfl ?_
  refine z_if_eqB X (pc := 4) 20 dX4_isHand_4 (by decide) (fun c_4 => ?_) (fun c_4 => ?_)
  · skip
    refine z_iconst X (pc := 20) (nI 0) dX4_isHand_20 (by decide) ?_
    exact hR.z dX4_isHand_21 rfl ⟨some_zb_f (by omega), rfl⟩
  · skip
    refine z_iload_n X (pc := 7) 1 dX4_isHand_7 rfl ?_
    refine z_iconst X (pc := 8) (nI 0) dX4_isHand_8 (by decide) ?_
    refine z_iconst X (pc := 9) (nI 4) dX4_isHand_9 (by decide) ?_
    refine zc_S (as := [.int (nI x), .int (nI 0), .int (nI 4)]) X (pc := 10) (c_X4_withinN lq D t x 0 4 (by omega) (by decide) (by decide)) tw_180 tw_182 tw_1 tw_181 [] rfl rfl dX4_isHand_10 rfl zdX4_within ⟨rfl, rfl, Nat.le_of_ble_eq_true rfl, Nat.le_of_ble_eq_true rfl⟩ (Nat.le_of_ble_eq_true rfl) (Nat.zero_le _) (Nat.zero_le _) (fun v_4 w_5 hp_6 => ?_)
    obtain ⟨rfl, rfl⟩ := hp_6
    refine ⟨rfl, ?_⟩
    refine z_eq (ws2 := []) (st2 := [.int (zb (0 ≤ x ∧ x ≤ 4))]) rfl rfl rfl ?_
    refine z_if_eqB X (pc := 13) 20 dX4_isHand_13 (by decide) (fun c_13 => ?_) (fun c_13 => ?_)
    · skip
      refine z_iconst X (pc := 20) (nI 0) dX4_isHand_20 (by decide) ?_
      exact hR.z dX4_isHand_21 rfl ⟨some_zb_f (by omega), rfl⟩
    · skip
      refine z_iconst X (pc := 16) (nI 1) dX4_isHand_16 (by decide) ?_
      refine z_goto X (pc := 17) 21 dX4_isHand_17 (by decide) ?_
      exact hR.z dX4_isHand_21 rfl ⟨some_zb_t (by omega), rfl⟩

abbrev rm_X2_letterHere : Room := { frames := 0, cells := 0, slots := 0, locals := 0 }
set_option maxHeartbeats 4000000 in
set_option maxRecDepth 100000 in
theorem c_X2_letterHere (lq : Launch) (D : va_G) (t : zT) (h0 hl ht len pl : Nat) (fi se ev : Int32) (tx : Nat → Nat) (hlen : len ≤ 200) (hpl : pl < 1000) (htx : ∀ j, tx j < 127) : Ct lq D t yX2_letterHere cX2_letterHere 1 (some .char) rm_X2_letterHere [.ref h0] [eX2 h0 hl (nI len) (nI pl) fi se ht ev, eC t hl 200 (nf tx)] 0 0 (fun rv rw_ => rv = some (.int (nI (chf tx len pl))) ∧ rw_ = [eX2 h0 hl (nI len) (nI pl) fi se ht ev, eC t hl 200 (nf tx)]) := by
  refine Ct.of (by decide) (Nat.le_of_ble_eq_true rfl) (fun k X hR => ?_)
  have X : zX D t k cX2_letterHere 1 RX2 "letterHere" rm_X2_letterHere lq := X
  refine z_eq (lv2 := [(0, .ref h0)]) rfl rfl rfl ?_
  refine z_aload_n X (pc := 0) 0 dX2_letterHere_0 rfl ?_
  refine z_get X (pc := 1) 0 2 (.int (nI pl)) tu_2 tw_58 dX2_letterHere_1 rfl rfl (by decide) rfl rfl ?_
  refine z_if_ltN X (pc := 4) 40 (by omega) dX2_letterHere_4 (by decide) ?_
  refine z_aload_n X (pc := 7) 0 dX2_letterHere_7 rfl ?_
  refine z_get X (pc := 8) 0 2 (.int (nI pl)) tu_2 tw_58 dX2_letterHere_8 rfl rfl (by decide) rfl rfl ?_
  refine z_aload_n X (pc := 11) 0 dX2_letterHere_11 rfl ?_
  refine z_get X (pc := 12) 0 1 (.int (nI len)) tu_2 tw_57 dX2_letterHere_12 rfl rfl (by decide) rfl rfl ?_
  refine z_icmp_geN X (pc := 15) 40 (by omega) (by omega) dX2_letterHere_15 (by decide) (fun c_15 => ?_) (fun c_15 => ?_)
  · skip
    refine z_bipush X (pc := 40) (nI 32) dX2_letterHere_40 (by decide) ?_
    exact hR.z dX2_letterHere_42 (pk_charN (by first | decide | (have := htx pl; omega))).1 ⟨by rw [chf, if_neg (by omega)], rfl⟩
  · skip
    refine z_aload_n X (pc := 18) 0 dX2_letterHere_18 rfl ?_
    refine z_get X (pc := 19) 0 2 (.int (nI pl)) tu_2 tw_58 dX2_letterHere_19 rfl rfl (by decide) rfl rfl ?_
    refine z_sipush X (pc := 22) (nI 200) dX2_letterHere_22 (by decide) ?_
    refine z_icmp_geN X (pc := 25) 40 (by omega) (by omega) dX2_letterHere_25 (by decide) (fun c_25 => absurd c_25 (by omega)) (fun c_25 => ?_)
    refine z_aload_n X (pc := 28) 0 dX2_letterHere_28 rfl ?_
    refine z_get X (pc := 29) 0 0 (.ref hl) tu_2 tw_56 dX2_letterHere_29 rfl rfl (by decide) rfl rfl ?_
    refine z_aload_n X (pc := 32) 0 dX2_letterHere_32 rfl ?_
    refine z_get X (pc := 33) 0 2 (.int (nI pl)) tu_2 tw_58 dX2_letterHere_33 rfl rfl (by decide) rfl rfl ?_
    refine z_cald X (pc := 36) 1 pl (nI (tx pl)) dX2_letterHere_36 rfl rfl (Nat.le_of_ble_eq_true rfl) (by omega) rfl ?_
    refine z_goto X (pc := 37) 42 dX2_letterHere_37 (by decide) ?_
    exact hR.z dX2_letterHere_42 (pk_charN (by first | decide | (have := htx pl; omega))).1 ⟨by rw [chf, if_pos (by omega)], rfl⟩

abbrev rm_X2_readFigurey : Room := { frames := 1, cells := 0, slots := 0, locals := 20 }
set_option maxHeartbeats 4000000 in
set_option maxRecDepth 100000 in
theorem c_X2_readFigurey (lq : Launch) (D : va_G) (t : zT) (h0 hl ht len pl : Nat) (fi se ev : Int32) (tx : Nat → Nat) (hlen : len ≤ 200) (hpl : pl < 1000) (htx : ∀ j, tx j < 127) (hd : dig (chf tx len) pl) : Ct lq D t yX2_readFigure cX2_readFigure 2 (some .int) rm_X2_readFigurey [.ref h0] [eX2 h0 hl (nI len) (nI pl) fi se ht ev, eC t hl 200 (nf tx)] 0 0 (fun rv rw_ => rv = some (.int (nI (chf tx len pl - 48))) ∧ rw_ = [eX2 h0 hl (nI len) (nI (pl + 1)) fi se ht ev, eC t hl 200 (nf tx)]) := by
  refine Ct.of (by decide) (Nat.le_of_ble_eq_true rfl) (fun k X hR => ?_)
  have X : zX D t k cX2_readFigure 2 RX2 "readFigure" rm_X2_readFigurey lq := X
  refine z_eq (lv2 := [(0, .ref h0)]) rfl rfl rfl ?_
  refine z_aload_n X (pc := 0) 0 dX2_readFigure_0 rfl ?_
  refine zc_V (as := []) X (pc := 1) (c_X2_letterHere lq D t h0 hl ht len pl fi se ev tx (by omega) (by omega) (by omega)) tw_214 tw_217 tw_2 tw_216 tw_1001 0 2 rfl rfl [0, 1] rfl rfl dX2_readFigure_1 rfl zdX2_letterHere ⟨rfl, rfl, Nat.le_of_ble_eq_true rfl, Nat.le_of_ble_eq_true rfl⟩ (Nat.le_of_ble_eq_true rfl) (Nat.zero_le _) (Nat.zero_le _) (fun v_1 w_2 hp_3 => ?_)
  obtain ⟨rfl, rfl⟩ := hp_3
  refine ⟨rfl, ?_⟩
  refine z_eq (ws2 := [eX2 h0 hl (nI len) (nI pl) fi se ht ev, eC t hl 200 (nf tx)]) (st2 := [.int (nI (chf tx len pl))]) rfl rfl rfl ?_
  have hch := @chf_lt tx len pl htx
  refine z_istore_n X (pc := 4) (i := 1) [(1, .int (nI (chf tx len pl))), (0, .ref h0)] dX2_readFigure_4 rfl (by decide) rfl ?_
  refine z_iload_n X (pc := 5) 0 dX2_readFigure_5 rfl ?_
  refine z_bipush X (pc := 6) (nI 48) dX2_readFigure_6 (by decide) ?_
  refine z_icmp_ltN X (pc := 8) 17 (by omega) (by omega) dX2_readFigure_8 (by decide) (fun c_8 => absurd c_8 (by omega)) (fun c_8 => ?_)
  refine z_iload_n X (pc := 11) 0 dX2_readFigure_11 rfl ?_
  refine z_bipush X (pc := 12) (nI 57) dX2_readFigure_12 (by decide) ?_
  refine z_icmp_leN X (pc := 14) 19 (by omega) (by omega) dX2_readFigure_14 (by decide) (fun c_14 => ?_) (fun c_14 => absurd c_14 (by omega))
  refine z_aload_n X (pc := 19) 1 dX2_readFigure_19 rfl ?_
  refine z_dup X (pc := 20) dX2_readFigure_20 rfl ?_
  refine z_get X (pc := 21) 0 2 (.int (nI pl)) tu_2 tw_58 dX2_readFigure_21 rfl rfl (by decide) rfl rfl ?_
  refine z_iconst X (pc := 24) (nI 1) dX2_readFigure_24 (by decide) ?_
  refine z_iadd X (pc := 25) (v := (nI (pl + 1))) dX2_readFigure_25 (nI_add pl 1) ?_
  refine z_put X (pc := 26) 0 2 [eX2 h0 hl (nI len) (nI (pl + 1)) fi se ht ev, eC t hl 200 (nf tx)] tu_2 tyX2_ok nmX2 tw_58 dX2_readFigure_26 rfl rfl (by decide) rfl rfl rfl rfl (Nat.le_of_ble_eq_true rfl) rfl ?_
  refine z_iload_n X (pc := 29) 0 dX2_readFigure_29 rfl ?_
  refine z_bipush X (pc := 30) (nI 48) dX2_readFigure_30 (by decide) ?_
  refine z_isub X (pc := 32) (v := (nI ((chf tx len pl) - 48))) dX2_readFigure_32 (pk_sub (by omega)) ?_
  exact hR.i dX2_readFigure_33 ⟨rfl, rfl⟩

abbrev rm_X2_readFiguren : Room := { frames := 1, cells := 0, slots := 0, locals := 20 }
set_option maxHeartbeats 4000000 in
set_option maxRecDepth 100000 in
theorem c_X2_readFiguren (lq : Launch) (D : va_G) (t : zT) (h0 hl ht len pl : Nat) (fi se ev : Int32) (tx : Nat → Nat) (hlen : len ≤ 200) (hpl : pl < 1000) (htx : ∀ j, tx j < 127) (hd : ¬ dig (chf tx len) pl) : Ct lq D t yX2_readFigure cX2_readFigure 2 (some .int) rm_X2_readFiguren [.ref h0] [eX2 h0 hl (nI len) (nI pl) fi se ht ev, eC t hl 200 (nf tx)] 0 0 (fun rv rw_ => rv = some (.int (-1)) ∧ rw_ = [eX2 h0 hl (nI len) (nI pl) fi se ht ev, eC t hl 200 (nf tx)]) := by
  refine Ct.of (by decide) (Nat.le_of_ble_eq_true rfl) (fun k X hR => ?_)
  have X : zX D t k cX2_readFigure 2 RX2 "readFigure" rm_X2_readFiguren lq := X
  refine z_eq (lv2 := [(0, .ref h0)]) rfl rfl rfl ?_
  refine z_aload_n X (pc := 0) 0 dX2_readFigure_0 rfl ?_
  refine zc_V (as := []) X (pc := 1) (c_X2_letterHere lq D t h0 hl ht len pl fi se ev tx (by omega) (by omega) (by omega)) tw_214 tw_217 tw_2 tw_216 tw_1001 0 2 rfl rfl [0, 1] rfl rfl dX2_readFigure_1 rfl zdX2_letterHere ⟨rfl, rfl, Nat.le_of_ble_eq_true rfl, Nat.le_of_ble_eq_true rfl⟩ (Nat.le_of_ble_eq_true rfl) (Nat.zero_le _) (Nat.zero_le _) (fun v_1 w_2 hp_3 => ?_)
  obtain ⟨rfl, rfl⟩ := hp_3
  refine ⟨rfl, ?_⟩
  refine z_eq (ws2 := [eX2 h0 hl (nI len) (nI pl) fi se ht ev, eC t hl 200 (nf tx)]) (st2 := [.int (nI (chf tx len pl))]) rfl rfl rfl ?_
  have hch := @chf_lt tx len pl htx
  refine z_istore_n X (pc := 4) (i := 1) [(1, .int (nI (chf tx len pl))), (0, .ref h0)] dX2_readFigure_4 rfl (by decide) rfl ?_
  refine z_iload_n X (pc := 5) 0 dX2_readFigure_5 rfl ?_
  refine z_bipush X (pc := 6) (nI 48) dX2_readFigure_6 (by decide) ?_
  refine z_icmp_ltN X (pc := 8) 17 (by omega) (by omega) dX2_readFigure_8 (by decide) (fun c_8 => ?_) (fun c_8 => ?_)
  · skip
    refine z_iconst X (pc := 17) (-1) dX2_readFigure_17 (by decide) ?_
    exact hR.i dX2_readFigure_18 ⟨rfl, rfl⟩
  · skip
    refine z_iload_n X (pc := 11) 0 dX2_readFigure_11 rfl ?_
    refine z_bipush X (pc := 12) (nI 57) dX2_readFigure_12 (by decide) ?_
    refine z_icmp_leN X (pc := 14) 19 (by omega) (by omega) dX2_readFigure_14 (by decide) (fun c_14 => absurd c_14 (by omega)) (fun c_14 => ?_)
    refine z_iconst X (pc := 17) (-1) dX2_readFigure_17 (by decide) ?_
    exact hR.i dX2_readFigure_18 ⟨rfl, rfl⟩

abbrev rm_X2_readNumbery : Room := { frames := 2, cells := 0, slots := 0, locals := 41 }
set_option maxHeartbeats 4000000 in
set_option maxRecDepth 100000 in
theorem c_X2_readNumbery (lq : Launch) (D : va_G) (t : zT) (h0 hl ht len pl : Nat) (fi se ev : Int32) (tx : Nat → Nat) (hlen : len ≤ 200) (hpl : pl < 1000) (htx : ∀ j, tx j < 127) (hpl2 : pl < 900) (hd : dig (chf tx len) pl) : Ct lq D t yX2_readNumber cX2_readNumber 3 (some .int) rm_X2_readNumbery [.ref h0] [eX2 h0 hl (nI len) (nI pl) fi se ht ev, eC t hl 200 (nf tx)] 0 0 (fun rv rw_ => rv = some (.int (nI (nvl (chf tx len) pl))) ∧ rw_ = [eX2 h0 hl (nI len) (nI (pl + nln (chf tx len) pl)) fi se ht ev, eC t hl 200 (nf tx)]) := by
  refine Ct.of (by decide) (Nat.le_of_ble_eq_true rfl) (fun k X hR => ?_)
  have X : zX D t k cX2_readNumber 3 RX2 "readNumber" rm_X2_readNumbery lq := X
  refine z_eq (lv2 := [(0, .ref h0)]) rfl rfl rfl ?_
  refine z_aload_n X (pc := 0) 0 dX2_readNumber_0 rfl ?_
  refine zc_V (as := []) X (pc := 1) (c_X2_readFigurey lq D t h0 hl ht len pl fi se ev tx (by omega) (by omega) htx hd) tw_226 tw_229 tw_2 tw_228 tw_1004 0 2 rfl rfl [0, 1] rfl rfl dX2_readNumber_1 rfl zdX2_readFigure ⟨rfl, rfl, Nat.le_of_ble_eq_true rfl, Nat.le_of_ble_eq_true rfl⟩ (Nat.le_of_ble_eq_true rfl) (Nat.zero_le _) (Nat.zero_le _) (fun v_1 w_2 hp_3 => ?_)
  obtain ⟨rfl, rfl⟩ := hp_3
  refine ⟨rfl, ?_⟩
  refine z_eq (ws2 := [eX2 h0 hl (nI len) (nI (pl + 1)) fi se ht ev, eC t hl 200 (nf tx)]) (st2 := [.int (nI (chf tx len pl - 48))]) rfl rfl rfl ?_
  refine z_istore_n X (pc := 4) (i := 1) [(1, .int (nI (chf tx len pl - 48))), (0, .ref h0)] dX2_readNumber_4 rfl (by decide) rfl ?_
  have hch := @chf_lt tx len pl htx
  refine z_iload_n X (pc := 5) 0 dX2_readNumber_5 rfl ?_
  refine z_if_geN X (pc := 6) 11 (by omega) dX2_readNumber_6 (by decide) ?_
  by_cases hd2 : dig (chf tx len) (pl + 1)
  · skip
    refine z_aload_n X (pc := 11) 1 dX2_readNumber_11 rfl ?_
    refine zc_V (as := []) X (pc := 12) (c_X2_readFigurey lq D t h0 hl ht len (pl + 1) fi se ev tx (by omega) (by omega) htx hd2) tw_226 tw_229 tw_2 tw_228 tw_1004 0 2 rfl rfl [0, 1] rfl rfl dX2_readNumber_12 rfl zdX2_readFigure ⟨rfl, rfl, Nat.le_of_ble_eq_true rfl, Nat.le_of_ble_eq_true rfl⟩ (Nat.le_of_ble_eq_true rfl) (Nat.zero_le _) (Nat.zero_le _) (fun v_4 w_5 hp_6 => ?_)
    obtain ⟨rfl, rfl⟩ := hp_6
    refine ⟨rfl, ?_⟩
    refine z_eq (ws2 := [eX2 h0 hl (nI len) (nI ((pl + 1) + 1)) fi se ht ev, eC t hl 200 (nf tx)]) (st2 := [.int (nI (chf tx len (pl + 1) - 48))]) rfl rfl rfl ?_
    have hch2 := @chf_lt tx len (pl + 1) htx
    refine z_istore_n X (pc := 15) (i := 2) [(2, .int (nI (chf tx len (pl + 1) - 48))), (1, .int (nI (chf tx len pl - 48))), (0, .ref h0)] dX2_readNumber_15 rfl (by decide) rfl ?_
    refine z_iload_n X (pc := 16) 0 dX2_readNumber_16 rfl ?_
    refine z_if_geN X (pc := 17) 24 (by omega) dX2_readNumber_17 (by decide) ?_
    refine z_bipush X (pc := 24) (nI 10) dX2_readNumber_24 (by decide) ?_
    refine z_iload_n X (pc := 26) 1 dX2_readNumber_26 rfl ?_
    refine z_imul X (pc := 27) (v := (nI (10 * (chf tx len pl - 48)))) dX2_readNumber_27 (pk_mul _ _) ?_
    refine z_iload_n X (pc := 28) 0 dX2_readNumber_28 rfl ?_
    refine z_iadd X (pc := 29) (v := (nI ((10 * (chf tx len pl - 48)) + (chf tx len (pl + 1) - 48)))) dX2_readNumber_29 (nI_add (10 * (chf tx len pl - 48)) (chf tx len (pl + 1) - 48)) ?_
    exact hR.i dX2_readNumber_30 ⟨by rw [nvl, if_pos hd2], by rw [nln, if_pos hd2]⟩
  · skip
    refine z_aload_n X (pc := 11) 1 dX2_readNumber_11 rfl ?_
    refine zc_V (as := []) X (pc := 12) (c_X2_readFiguren lq D t h0 hl ht len (pl + 1) fi se ev tx (by omega) (by omega) htx hd2) tw_226 tw_229 tw_2 tw_228 tw_1004 0 2 rfl rfl [0, 1] rfl rfl dX2_readNumber_12 rfl zdX2_readFigure ⟨rfl, rfl, Nat.le_of_ble_eq_true rfl, Nat.le_of_ble_eq_true rfl⟩ (Nat.le_of_ble_eq_true rfl) (Nat.zero_le _) (Nat.zero_le _) (fun v_7 w_8 hp_9 => ?_)
    obtain ⟨rfl, rfl⟩ := hp_9
    refine ⟨rfl, ?_⟩
    refine z_eq (ws2 := [eX2 h0 hl (nI len) (nI (pl + 1)) fi se ht ev, eC t hl 200 (nf tx)]) (st2 := [.int (-1)]) rfl rfl rfl ?_
    have hch2 := @chf_lt tx len (pl + 1) htx
    refine z_istore_n X (pc := 15) (i := 2) [(2, .int (-1)), (1, .int (nI (chf tx len pl - 48))), (0, .ref h0)] dX2_readNumber_15 rfl (by decide) rfl ?_
    refine z_iload_n X (pc := 16) 0 dX2_readNumber_16 rfl ?_
    refine z_if_ge X (pc := 17) 24 dX2_readNumber_17 (by decide) (fun c_17 => absurd c_17 (by decide)) (fun c_17 => ?_)
    refine z_iload_n X (pc := 20) 1 dX2_readNumber_20 rfl ?_
    refine z_goto X (pc := 21) 30 dX2_readNumber_21 (by decide) ?_
    exact hR.i dX2_readNumber_30 ⟨by rw [nvl, if_neg hd2], by rw [nln, if_neg hd2]⟩

abbrev rm_X2_readNumbern : Room := { frames := 2, cells := 0, slots := 0, locals := 41 }
set_option maxHeartbeats 4000000 in
set_option maxRecDepth 100000 in
theorem c_X2_readNumbern (lq : Launch) (D : va_G) (t : zT) (h0 hl ht len pl : Nat) (fi se ev : Int32) (tx : Nat → Nat) (hlen : len ≤ 200) (hpl : pl < 1000) (htx : ∀ j, tx j < 127) (hd : ¬ dig (chf tx len) pl) : Ct lq D t yX2_readNumber cX2_readNumber 3 (some .int) rm_X2_readNumbern [.ref h0] [eX2 h0 hl (nI len) (nI pl) fi se ht ev, eC t hl 200 (nf tx)] 0 0 (fun rv rw_ => rv = some (.int (-1)) ∧ rw_ = [eX2 h0 hl (nI len) (nI pl) fi se ht ev, eC t hl 200 (nf tx)]) := by
  refine Ct.of (by decide) (Nat.le_of_ble_eq_true rfl) (fun k X hR => ?_)
  have X : zX D t k cX2_readNumber 3 RX2 "readNumber" rm_X2_readNumbern lq := X
  refine z_eq (lv2 := [(0, .ref h0)]) rfl rfl rfl ?_
  refine z_aload_n X (pc := 0) 0 dX2_readNumber_0 rfl ?_
  refine zc_V (as := []) X (pc := 1) (c_X2_readFiguren lq D t h0 hl ht len pl fi se ev tx (by omega) (by omega) htx hd) tw_226 tw_229 tw_2 tw_228 tw_1004 0 2 rfl rfl [0, 1] rfl rfl dX2_readNumber_1 rfl zdX2_readFigure ⟨rfl, rfl, Nat.le_of_ble_eq_true rfl, Nat.le_of_ble_eq_true rfl⟩ (Nat.le_of_ble_eq_true rfl) (Nat.zero_le _) (Nat.zero_le _) (fun v_1 w_2 hp_3 => ?_)
  obtain ⟨rfl, rfl⟩ := hp_3
  refine ⟨rfl, ?_⟩
  refine z_eq (ws2 := [eX2 h0 hl (nI len) (nI pl) fi se ht ev, eC t hl 200 (nf tx)]) (st2 := [.int (-1)]) rfl rfl rfl ?_
  refine z_istore_n X (pc := 4) (i := 1) [(1, .int (-1)), (0, .ref h0)] dX2_readNumber_4 rfl (by decide) rfl ?_
  refine z_iload_n X (pc := 5) 0 dX2_readNumber_5 rfl ?_
  refine z_if_ge X (pc := 6) 11 dX2_readNumber_6 (by decide) (fun c_6 => absurd c_6 (by decide)) (fun c_6 => ?_)
  refine z_iconst X (pc := 9) (-1) dX2_readNumber_9 (by decide) ?_
  exact hR.i dX2_readNumber_10 ⟨rfl, rfl⟩

abbrev rm_X2_readSigny : Room := { frames := 1, cells := 0, slots := 0, locals := 20 }
set_option maxHeartbeats 4000000 in
set_option maxRecDepth 100000 in
theorem c_X2_readSigny (lq : Launch) (D : va_G) (t : zT) (h0 hl ht len pl : Nat) (fi se ev : Int32) (tx : Nat → Nat) (sg : Nat) (hlen : len ≤ 200) (hpl : pl < 1000) (htx : ∀ j, tx j < 127) (hsg : sg < 1000) (hd : chf tx len pl = sg) : Ct lq D t yX2_readSign cX2_readSign 2 (some .boolean) rm_X2_readSigny [.ref h0, .int (nI sg)] [eX2 h0 hl (nI len) (nI pl) fi se ht ev, eC t hl 200 (nf tx)] 0 0 (fun rv rw_ => rv = some (.int (nI 1)) ∧ rw_ = [eX2 h0 hl (nI len) (nI (pl + 1)) fi se ht ev, eC t hl 200 (nf tx)]) := by
  refine Ct.of (by decide) (Nat.le_of_ble_eq_true rfl) (fun k X hR => ?_)
  have X : zX D t k cX2_readSign 2 RX2 "readSign" rm_X2_readSigny lq := X
  refine z_eq (lv2 := [(0, .ref h0), (1, .int (nI sg))]) rfl rfl rfl ?_
  refine z_aload_n X (pc := 0) 0 dX2_readSign_0 rfl ?_
  refine zc_V (as := []) X (pc := 1) (c_X2_letterHere lq D t h0 hl ht len pl fi se ev tx (by omega) (by omega) (by omega)) tw_214 tw_217 tw_2 tw_216 tw_1001 0 2 rfl rfl [0, 1] rfl rfl dX2_readSign_1 rfl zdX2_letterHere ⟨rfl, rfl, Nat.le_of_ble_eq_true rfl, Nat.le_of_ble_eq_true rfl⟩ (Nat.le_of_ble_eq_true rfl) (Nat.zero_le _) (Nat.zero_le _) (fun v_1 w_2 hp_3 => ?_)
  obtain ⟨rfl, rfl⟩ := hp_3
  refine ⟨rfl, ?_⟩
  refine z_eq (ws2 := [eX2 h0 hl (nI len) (nI pl) fi se ht ev, eC t hl 200 (nf tx)]) (st2 := [.int (nI (chf tx len pl))]) rfl rfl rfl ?_
  have hch := @chf_lt tx len pl htx
  refine z_iload_n X (pc := 4) 1 dX2_readSign_4 rfl ?_
  refine z_icmp_eqN X (pc := 5) 10 (by omega) (by omega) dX2_readSign_5 (by decide) (fun c_5 => ?_) (fun c_5 => absurd c_5 (by omega))
  refine z_aload_n X (pc := 10) 0 dX2_readSign_10 rfl ?_
  refine z_dup X (pc := 11) dX2_readSign_11 rfl ?_
  refine z_get X (pc := 12) 0 2 (.int (nI pl)) tu_2 tw_58 dX2_readSign_12 rfl rfl (by decide) rfl rfl ?_
  refine z_iconst X (pc := 15) (nI 1) dX2_readSign_15 (by decide) ?_
  refine z_iadd X (pc := 16) (v := (nI (pl + 1))) dX2_readSign_16 (nI_add pl 1) ?_
  refine z_put X (pc := 17) 0 2 [eX2 h0 hl (nI len) (nI (pl + 1)) fi se ht ev, eC t hl 200 (nf tx)] tu_2 tyX2_ok nmX2 tw_58 dX2_readSign_17 rfl rfl (by decide) rfl rfl rfl rfl (Nat.le_of_ble_eq_true rfl) rfl ?_
  refine z_iconst X (pc := 20) (nI 1) dX2_readSign_20 (by decide) ?_
  exact hR.z dX2_readSign_21 rfl ⟨rfl, rfl⟩

abbrev rm_X2_readSignn : Room := { frames := 1, cells := 0, slots := 0, locals := 20 }
set_option maxHeartbeats 4000000 in
set_option maxRecDepth 100000 in
theorem c_X2_readSignn (lq : Launch) (D : va_G) (t : zT) (h0 hl ht len pl : Nat) (fi se ev : Int32) (tx : Nat → Nat) (sg : Nat) (hlen : len ≤ 200) (hpl : pl < 1000) (htx : ∀ j, tx j < 127) (hsg : sg < 1000) (hd : ¬ chf tx len pl = sg) : Ct lq D t yX2_readSign cX2_readSign 2 (some .boolean) rm_X2_readSignn [.ref h0, .int (nI sg)] [eX2 h0 hl (nI len) (nI pl) fi se ht ev, eC t hl 200 (nf tx)] 0 0 (fun rv rw_ => rv = some (.int (nI 0)) ∧ rw_ = [eX2 h0 hl (nI len) (nI pl) fi se ht ev, eC t hl 200 (nf tx)]) := by
  refine Ct.of (by decide) (Nat.le_of_ble_eq_true rfl) (fun k X hR => ?_)
  have X : zX D t k cX2_readSign 2 RX2 "readSign" rm_X2_readSignn lq := X
  refine z_eq (lv2 := [(0, .ref h0), (1, .int (nI sg))]) rfl rfl rfl ?_
  refine z_aload_n X (pc := 0) 0 dX2_readSign_0 rfl ?_
  refine zc_V (as := []) X (pc := 1) (c_X2_letterHere lq D t h0 hl ht len pl fi se ev tx (by omega) (by omega) (by omega)) tw_214 tw_217 tw_2 tw_216 tw_1001 0 2 rfl rfl [0, 1] rfl rfl dX2_readSign_1 rfl zdX2_letterHere ⟨rfl, rfl, Nat.le_of_ble_eq_true rfl, Nat.le_of_ble_eq_true rfl⟩ (Nat.le_of_ble_eq_true rfl) (Nat.zero_le _) (Nat.zero_le _) (fun v_1 w_2 hp_3 => ?_)
  obtain ⟨rfl, rfl⟩ := hp_3
  refine ⟨rfl, ?_⟩
  refine z_eq (ws2 := [eX2 h0 hl (nI len) (nI pl) fi se ht ev, eC t hl 200 (nf tx)]) (st2 := [.int (nI (chf tx len pl))]) rfl rfl rfl ?_
  have hch := @chf_lt tx len pl htx
  refine z_iload_n X (pc := 4) 1 dX2_readSign_4 rfl ?_
  refine z_icmp_eqN X (pc := 5) 10 (by omega) (by omega) dX2_readSign_5 (by decide) (fun c_5 => absurd c_5 (by omega)) (fun c_5 => ?_)
  refine z_iconst X (pc := 8) (nI 0) dX2_readSign_8 (by decide) ?_
  exact hR.z dX2_readSign_9 rfl ⟨rfl, rfl⟩

abbrev rm_X2_readOney : Room := { frames := 3, cells := 0, slots := 0, locals := 63 }
set_option maxHeartbeats 4000000 in
set_option maxRecDepth 100000 in
theorem c_X2_readOney (lq : Launch) (D : va_G) (t : zT) (h0 hl ht len pl : Nat) (fi se ev : Int32) (tx : Nat → Nat) (hlen : len ≤ 200) (hpl : pl < 1000) (htx : ∀ j, tx j < 127) (hpl2 : pl < 800) (hd : t1 (chf tx len) pl) : Ct lq D t yX2_readOne cX2_readOne 1 (some .boolean) rm_X2_readOney [.ref h0] [eX2 h0 hl (nI len) (nI pl) fi se ht ev, eC t hl 200 (nf tx)] 0 0 (fun rv rw_ => rv = some (.int (nI 1)) ∧ rw_ = [eX2 h0 hl (nI len) (nI (e1 (chf tx len) pl)) (nI (nvl (chf tx len) pl)) se ht ev, eC t hl 200 (nf tx)]) := by
  refine Ct.of (by decide) (Nat.le_of_ble_eq_true rfl) (fun k X hR => ?_)
  have X : zX D t k cX2_readOne 1 RX2 "readOne" rm_X2_readOney lq := X
  refine z_eq (lv2 := [(0, .ref h0)]) rfl rfl rfl ?_
  have hn1 := nln_le (chf tx len) pl
  have hnv := nvl_le hd.1
  refine z_aload_n X (pc := 0) 0 dX2_readOne_0 rfl ?_
  refine z_aload_n X (pc := 1) 0 dX2_readOne_1 rfl ?_
  refine zc_V (as := []) X (pc := 2) (c_X2_readNumbery lq D t h0 hl ht len pl fi se ev tx (by omega) (by omega) htx (by omega) hd.1) tw_222 tw_225 tw_2 tw_224 tw_1003 0 2 rfl rfl [0, 1] rfl rfl dX2_readOne_2 rfl zdX2_readNumber ⟨rfl, rfl, Nat.le_of_ble_eq_true rfl, Nat.le_of_ble_eq_true rfl⟩ (Nat.le_of_ble_eq_true rfl) (Nat.zero_le _) (Nat.zero_le _) (fun v_1 w_2 hp_3 => ?_)
  obtain ⟨rfl, rfl⟩ := hp_3
  refine ⟨rfl, ?_⟩
  refine z_eq (ws2 := [eX2 h0 hl (nI len) (nI (pl + nln (chf tx len) pl)) fi se ht ev, eC t hl 200 (nf tx)]) (st2 := [.int (nI (nvl (chf tx len) pl)), .ref h0]) rfl rfl rfl ?_
  refine z_put X (pc := 5) 0 3 [eX2 h0 hl (nI len) (nI (pl + nln (chf tx len) pl)) (nI (nvl (chf tx len) pl)) se ht ev, eC t hl 200 (nf tx)] tu_2 tyX2_ok nmX2 tw_59 dX2_readOne_5 rfl rfl (by decide) rfl rfl rfl rfl (Nat.le_of_ble_eq_true rfl) rfl ?_
  refine z_aload_n X (pc := 8) 0 dX2_readOne_8 rfl ?_
  refine z_get X (pc := 9) 0 3 (.int (nI (nvl (chf tx len) pl))) tu_2 tw_59 dX2_readOne_9 rfl rfl (by decide) rfl rfl ?_
  refine z_if_ltN X (pc := 12) 28 (by omega) dX2_readOne_12 (by decide) ?_
  refine z_aload_n X (pc := 15) 0 dX2_readOne_15 rfl ?_
  refine z_bipush X (pc := 16) (nI 59) dX2_readOne_16 (by decide) ?_
  refine zc_V (as := [.int (nI 59)]) X (pc := 18) (c_X2_readSigny lq D t h0 hl ht len (pl + nln (chf tx len) pl) (nI (nvl (chf tx len) pl)) se ev tx 59 (by omega) (by omega) htx (by decide) hd.2) tw_230 tw_233 tw_2 tw_232 tw_1005 0 2 rfl rfl [0, 1] rfl rfl dX2_readOne_18 rfl zdX2_readSign ⟨rfl, rfl, Nat.le_of_ble_eq_true rfl, Nat.le_of_ble_eq_true rfl⟩ (Nat.le_of_ble_eq_true rfl) (Nat.zero_le _) (Nat.zero_le _) (fun v_4 w_5 hp_6 => ?_)
  obtain ⟨rfl, rfl⟩ := hp_6
  refine ⟨rfl, ?_⟩
  refine z_eq (ws2 := [eX2 h0 hl (nI len) (nI ((pl + nln (chf tx len) pl) + 1)) (nI (nvl (chf tx len) pl)) se ht ev, eC t hl 200 (nf tx)]) (st2 := [.int (nI 1)]) rfl rfl rfl ?_
  refine z_if_eqN X (pc := 21) 28 (by omega) dX2_readOne_21 (by decide) (fun c_21 => absurd c_21 (by decide)) (fun c_21 => ?_)
  refine z_iconst X (pc := 24) (nI 1) dX2_readOne_24 (by decide) ?_
  refine z_goto X (pc := 25) 29 dX2_readOne_25 (by decide) ?_
  exact hR.z dX2_readOne_29 rfl ⟨rfl, rfl⟩

abbrev rm_X2_readOnen : Room := { frames := 3, cells := 0, slots := 0, locals := 63 }
set_option maxHeartbeats 4000000 in
set_option maxRecDepth 100000 in
theorem c_X2_readOnen (lq : Launch) (D : va_G) (t : zT) (h0 hl ht len pl : Nat) (fi se ev : Int32) (tx : Nat → Nat) (hlen : len ≤ 200) (hpl : pl < 1000) (htx : ∀ j, tx j < 127) (hpl2 : pl < 800) (hd : ¬ t1 (chf tx len) pl) : Ct lq D t yX2_readOne cX2_readOne 1 (some .boolean) rm_X2_readOnen [.ref h0] [eX2 h0 hl (nI len) (nI pl) fi se ht ev, eC t hl 200 (nf tx)] 0 0 (fun rv rw_ => ∃ (pl2 : Int32) (fi2 : Int32) (se2 : Int32), rv = some (.int (nI 0)) ∧ rw_ = [eX2 h0 hl (nI len) pl2 fi2 se2 ht ev, eC t hl 200 (nf tx)]) := by
  refine Ct.of (by decide) (Nat.le_of_ble_eq_true rfl) (fun k X hR => ?_)
  have X : zX D t k cX2_readOne 1 RX2 "readOne" rm_X2_readOnen lq := X
  refine z_eq (lv2 := [(0, .ref h0)]) rfl rfl rfl ?_
  by_cases h1 : dig (chf tx len) pl
  · skip
    by_cases h2 : chf tx len (pl + nln (chf tx len) pl) = 59
    · skip
      refine z_aload_n X (pc := 0) 0 dX2_readOne_0 rfl ?_
      have hn1 := nln_le (chf tx len) pl
      refine z_aload_n X (pc := 1) 0 dX2_readOne_1 rfl ?_
      refine zc_V (as := []) X (pc := 2) (c_X2_readNumbery lq D t h0 hl ht len pl fi se ev tx (by omega) (by omega) htx (by omega) h1) tw_222 tw_225 tw_2 tw_224 tw_1003 0 2 rfl rfl [0, 1] rfl rfl dX2_readOne_2 rfl zdX2_readNumber ⟨rfl, rfl, Nat.le_of_ble_eq_true rfl, Nat.le_of_ble_eq_true rfl⟩ (Nat.le_of_ble_eq_true rfl) (Nat.zero_le _) (Nat.zero_le _) (fun v_1 w_2 hp_3 => ?_)
      obtain ⟨rfl, rfl⟩ := hp_3
      refine ⟨rfl, ?_⟩
      refine z_eq (ws2 := [eX2 h0 hl (nI len) (nI (pl + nln (chf tx len) pl)) fi se ht ev, eC t hl 200 (nf tx)]) (st2 := [.int (nI (nvl (chf tx len) pl)), .ref h0]) rfl rfl rfl ?_
      refine z_put X (pc := 5) 0 3 [eX2 h0 hl (nI len) (nI (pl + nln (chf tx len) pl)) (nI (nvl (chf tx len) pl)) se ht ev, eC t hl 200 (nf tx)] tu_2 tyX2_ok nmX2 tw_59 dX2_readOne_5 rfl rfl (by decide) rfl rfl rfl rfl (Nat.le_of_ble_eq_true rfl) rfl ?_
      refine z_aload_n X (pc := 8) 0 dX2_readOne_8 rfl ?_
      refine z_get X (pc := 9) 0 3 (.int (nI (nvl (chf tx len) pl))) tu_2 tw_59 dX2_readOne_9 rfl rfl (by decide) rfl rfl ?_
      refine z_if_ltN X (pc := 12) 28 (by have := nvl_le h1; omega) dX2_readOne_12 (by decide) ?_
      refine z_aload_n X (pc := 15) 0 dX2_readOne_15 rfl ?_
      refine z_bipush X (pc := 16) (nI 59) dX2_readOne_16 (by decide) ?_
      refine zc_V (as := [.int (nI 59)]) X (pc := 18) (c_X2_readSigny lq D t h0 hl ht len (pl + nln (chf tx len) pl) (nI (nvl (chf tx len) pl)) se ev tx 59 (by omega) (by omega) htx (by decide) h2) tw_230 tw_233 tw_2 tw_232 tw_1005 0 2 rfl rfl [0, 1] rfl rfl dX2_readOne_18 rfl zdX2_readSign ⟨rfl, rfl, Nat.le_of_ble_eq_true rfl, Nat.le_of_ble_eq_true rfl⟩ (Nat.le_of_ble_eq_true rfl) (Nat.zero_le _) (Nat.zero_le _) (fun v_4 w_5 hp_6 => ?_)
      obtain ⟨rfl, rfl⟩ := hp_6
      refine ⟨rfl, ?_⟩
      refine z_eq (ws2 := [eX2 h0 hl (nI len) (nI ((pl + nln (chf tx len) pl) + 1)) (nI (nvl (chf tx len) pl)) se ht ev, eC t hl 200 (nf tx)]) (st2 := [.int (nI 1)]) rfl rfl rfl ?_
      refine z_if_eqN X (pc := 21) 28 (by omega) dX2_readOne_21 (by decide) (fun c_21 => absurd c_21 (by decide)) (fun c_21 => ?_)
      exact absurd ⟨h1, h2⟩ hd
    · skip
      refine z_aload_n X (pc := 0) 0 dX2_readOne_0 rfl ?_
      have hn1 := nln_le (chf tx len) pl
      refine z_aload_n X (pc := 1) 0 dX2_readOne_1 rfl ?_
      refine zc_V (as := []) X (pc := 2) (c_X2_readNumbery lq D t h0 hl ht len pl fi se ev tx (by omega) (by omega) htx (by omega) h1) tw_222 tw_225 tw_2 tw_224 tw_1003 0 2 rfl rfl [0, 1] rfl rfl dX2_readOne_2 rfl zdX2_readNumber ⟨rfl, rfl, Nat.le_of_ble_eq_true rfl, Nat.le_of_ble_eq_true rfl⟩ (Nat.le_of_ble_eq_true rfl) (Nat.zero_le _) (Nat.zero_le _) (fun v_7 w_8 hp_9 => ?_)
      obtain ⟨rfl, rfl⟩ := hp_9
      refine ⟨rfl, ?_⟩
      refine z_eq (ws2 := [eX2 h0 hl (nI len) (nI (pl + nln (chf tx len) pl)) fi se ht ev, eC t hl 200 (nf tx)]) (st2 := [.int (nI (nvl (chf tx len) pl)), .ref h0]) rfl rfl rfl ?_
      refine z_put X (pc := 5) 0 3 [eX2 h0 hl (nI len) (nI (pl + nln (chf tx len) pl)) (nI (nvl (chf tx len) pl)) se ht ev, eC t hl 200 (nf tx)] tu_2 tyX2_ok nmX2 tw_59 dX2_readOne_5 rfl rfl (by decide) rfl rfl rfl rfl (Nat.le_of_ble_eq_true rfl) rfl ?_
      refine z_aload_n X (pc := 8) 0 dX2_readOne_8 rfl ?_
      refine z_get X (pc := 9) 0 3 (.int (nI (nvl (chf tx len) pl))) tu_2 tw_59 dX2_readOne_9 rfl rfl (by decide) rfl rfl ?_
      refine z_if_ltN X (pc := 12) 28 (by have := nvl_le h1; omega) dX2_readOne_12 (by decide) ?_
      refine z_aload_n X (pc := 15) 0 dX2_readOne_15 rfl ?_
      refine z_bipush X (pc := 16) (nI 59) dX2_readOne_16 (by decide) ?_
      refine zc_V (as := [.int (nI 59)]) X (pc := 18) (c_X2_readSignn lq D t h0 hl ht len (pl + nln (chf tx len) pl) (nI (nvl (chf tx len) pl)) se ev tx 59 (by omega) (by omega) htx (by decide) h2) tw_230 tw_233 tw_2 tw_232 tw_1005 0 2 rfl rfl [0, 1] rfl rfl dX2_readOne_18 rfl zdX2_readSign ⟨rfl, rfl, Nat.le_of_ble_eq_true rfl, Nat.le_of_ble_eq_true rfl⟩ (Nat.le_of_ble_eq_true rfl) (Nat.zero_le _) (Nat.zero_le _) (fun v_10 w_11 hp_12 => ?_)
      obtain ⟨rfl, rfl⟩ := hp_12
      refine ⟨rfl, ?_⟩
      refine z_eq (ws2 := [eX2 h0 hl (nI len) (nI (pl + nln (chf tx len) pl)) (nI (nvl (chf tx len) pl)) se ht ev, eC t hl 200 (nf tx)]) (st2 := [.int (nI 0)]) rfl rfl rfl ?_
      refine z_if_eqN X (pc := 21) 28 (by omega) dX2_readOne_21 (by decide) (fun c_21 => ?_) (fun c_21 => absurd c_21 (by decide))
      refine z_iconst X (pc := 28) (nI 0) dX2_readOne_28 (by decide) ?_
      exact hR.z dX2_readOne_29 rfl ⟨(nI (pl + nln (chf tx len) pl)), (nI (nvl (chf tx len) pl)), se, rfl, rfl⟩
  · skip
    refine z_aload_n X (pc := 0) 0 dX2_readOne_0 rfl ?_
    have hn1 := nln_le (chf tx len) pl
    refine z_aload_n X (pc := 1) 0 dX2_readOne_1 rfl ?_
    refine zc_V (as := []) X (pc := 2) (c_X2_readNumbern lq D t h0 hl ht len pl fi se ev tx (by omega) (by omega) htx h1) tw_222 tw_225 tw_2 tw_224 tw_1003 0 2 rfl rfl [0, 1] rfl rfl dX2_readOne_2 rfl zdX2_readNumber ⟨rfl, rfl, Nat.le_of_ble_eq_true rfl, Nat.le_of_ble_eq_true rfl⟩ (Nat.le_of_ble_eq_true rfl) (Nat.zero_le _) (Nat.zero_le _) (fun v_13 w_14 hp_15 => ?_)
    obtain ⟨rfl, rfl⟩ := hp_15
    refine ⟨rfl, ?_⟩
    refine z_eq (ws2 := [eX2 h0 hl (nI len) (nI pl) fi se ht ev, eC t hl 200 (nf tx)]) (st2 := [.int (-1), .ref h0]) rfl rfl rfl ?_
    refine z_put X (pc := 5) 0 3 [eX2 h0 hl (nI len) (nI pl) (-1) se ht ev, eC t hl 200 (nf tx)] tu_2 tyX2_ok nmX2 tw_59 dX2_readOne_5 rfl rfl (by decide) rfl rfl rfl rfl (Nat.le_of_ble_eq_true rfl) rfl ?_
    refine z_aload_n X (pc := 8) 0 dX2_readOne_8 rfl ?_
    refine z_get X (pc := 9) 0 3 (.int (-1)) tu_2 tw_59 dX2_readOne_9 rfl rfl (by decide) rfl rfl ?_
    refine z_if_lt X (pc := 12) 28 dX2_readOne_12 (by decide) (fun c_12 => ?_) (fun c_12 => absurd c_12 (by decide))
    refine z_iconst X (pc := 28) (nI 0) dX2_readOne_28 (by decide) ?_
    exact hR.z dX2_readOne_29 rfl ⟨(nI pl), (-1), se, rfl, rfl⟩
