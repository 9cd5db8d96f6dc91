/-! PART 22: the reference: text, boxes, acts, seen, kept -/
def lput (g : Nat → Nat) (a n : Nat) (s : Nat → Nat) : Nat → Nat := fun j => if a ≤ j ∧ j < a + n then s (j - a) else g j
theorem lput_0 (g : Nat → Nat) (a : Nat) (s : Nat → Nat) : g = lput g a 0 s := by funext j; unfold lput; rw [if_neg (by omega)]
theorem lput_step (g : Nat → Nat) (a n : Nat) (s : Nat → Nat) : vup (lput g a n s) (a + n) (s n) = lput g a (n + 1) s := by
  funext j
  unfold vup lput
  by_cases h : j = a + n
  · subst h; rw [if_pos rfl, if_pos (by omega), Nat.add_sub_cancel_left]
  · rw [if_neg h]
    by_cases h2 : a ≤ j ∧ j < a + n
    · rw [if_pos h2, if_pos (by omega)]
    · rw [if_neg h2, if_neg (by omega)]
def shf (g : Nat → Nat) (i : Nat) : Nat → Nat := fun j => if j < i then g (j + 5) else g j
theorem shf_0 (g : Nat → Nat) : g = shf g 0 := by funext j; unfold shf; rw [if_neg (by omega)]
theorem shf_at (g : Nat → Nat) (i : Nat) : shf g i (i + 5) = g (i + 5) := by unfold shf; rw [if_neg (by omega)]
theorem shf_step (g : Nat → Nat) (i : Nat) : vup (shf g i) i (g (i + 5)) = shf g (i + 1) := by
  funext j
  unfold vup shf
  by_cases h : j = i
  · subst h; rw [if_pos rfl, if_pos (by omega)]
  · rw [if_neg h]
    by_cases h2 : j < i
    · rw [if_pos h2, if_pos (by omega)]
    · rw [if_neg h2, if_neg (by omega)]
theorem pput_8 (g s : Nat → Nat) (j : Nat) (_ : j < 40) : lput (shf g 35) (5 * 7) 5 s j = pput g 8 s j := by
  unfold lput shf pput
  rw [if_pos rfl]
  by_cases h : j < 35
  · rw [if_neg (by omega), if_pos h, if_pos h]
  · rw [if_pos (by omega), if_neg h]
theorem pput_n (g s : Nat → Nat) {kn : Nat} (h : ¬ kn = 8) : lput g (5 * kn) 5 s = pput g kn s := by
  funext j; unfold lput pput; rw [if_neg h]
theorem kput_n (g s : Nat → Nat) (kn : Nat) : lput g (5 * kn) 5 s = kput g kn s := rfl
theorem nx_undo_pos {g : Nat → Nat} {kn : Nat} {s : Nat → Nat} (h : ¬ kn = 0) : nx_undo g kn s = fun j => g (5 * (kn - 1) + j) := by funext j; unfold nx_undo; rw [if_neg h]
theorem nx_undo_0 {g : Nat → Nat} {kn : Nat} {s : Nat → Nat} (h : kn = 0) : nx_undo g kn s = s := by funext j; unfold nx_undo; rw [if_pos h]
theorem vup_same {g : Nat → Nat} {j x : Nat} (h : g j = x) : vup g j x = g := by
  funext i; unfold vup; split
  · rename_i q; rw [q, h]
  · rfl
/-- a letter, or -1 behind the text -/
def lta (tx : Nat → Nat) (ty k : Nat) : Int32 := if k < ty then nI (tx k) else -1
theorem lta_fig {tx : Nat → Nat} {ty k : Nat} (h : ∀ j, tx j < 127) : (nI 48 ≤ lta tx ty k ∧ lta tx ty k ≤ nI 57) ↔ dig (chf tx ty) k := by
  unfold lta dig chf
  by_cases q : k < ty
  · have := h k
    rw [if_pos q, if_pos q, nI_leI (by decide) (by omega), nI_leI (by omega) (by decide)]
  · rw [if_neg q, if_neg q]; decide
theorem lta_dig {tx : Nat → Nat} {ty k : Nat} (h : dig (chf tx ty) k) : lta tx ty k = nI (chf tx ty k) := by
  have h1 : chf tx ty k ≠ 32 := by have := h.1; omega
  have h2 := in_len (tx := tx) (len := ty) (p := k) rfl h1
  unfold lta chf; rw [if_pos h2, if_pos h2]
theorem lta_eq {tx : Nat → Nat} {ty k e : Nat} (h : ∀ j, tx j < 127) (he : e ≠ 32) (he2 : e < 2 ^ 31) : lta tx ty k = nI e ↔ chf tx ty k = e := by
  unfold lta chf
  by_cases q : k < ty
  · have := h k
    rw [if_pos q, if_pos q, nI_eq (by omega) he2]
  · rw [if_neg q, if_neg q]
    constructor
    · intro z
      have h0 := nI_pos (n := e) he2
      rw [← z] at h0
      exact absurd (by decide) h0
    · intro z; exact absurd z.symm he
theorem prs_fuel {c : Nat → Nat} {len : Nat} (hc : ∀ p, okI c p → p < nxt c p) : ∀ {f f2 p : Nat} {d : Nat → Nat}, len ≤ p + f → len ≤ p + f2 → prs c len f p d = prs c len f2 p d
  | 0, f2, p, d, h, _ => by rw [prs_end (by omega), prs_end (by omega)]
  | f + 1, 0, p, d, _, h => by rw [prs_end (by omega), prs_end (by omega)]
  | f + 1, f2 + 1, p, d, h, h2 => by
    rw [prs_s, prs_s]
    by_cases q : p < len
    · rw [if_pos q, if_pos q]
      by_cases z : okI c p
      · have := hc p z
        rw [if_pos z, if_pos z]
        exact prs_fuel hc (by omega) (by omega)
      · rw [if_neg z, if_neg z]
    · rw [if_neg q, if_neg q]
theorem seen_up (sl sr : Nat → Nat) (g l r : Nat) : vup (fun j => 11 * sl j + sr j) g (11 * l + r) = fun j => 11 * (vup sl g l) j + (vup sr g r) j := by
  funext j; by_cases h : j = g <;> simp [vup, h]
abbrev rm_X5_in : Room := { frames := 0, cells := 0, slots := 0, locals := 0 }
set_option maxHeartbeats 4000000 in
set_option maxRecDepth 100000 in
theorem c_X5_in (lq : Launch) (D : va_G) (t : zT) (x a b : Int32)  : Ct lq D t yX5_in cX5_in 3 (some .boolean) rm_X5_in [.int x, .int a, .int b] [] 0 0 (fun rv rw_ => rv = some (.int (zb (a ≤ x ∧ x ≤ b))) ∧ rw_ = []) := by
  refine Ct.of (by decide) (Nat.le_of_ble_eq_true rfl) (fun k X hRet => ?_)
  have X : zX D t k cX5_in 3 RX5 "in" rm_X5_in lq := X
  refine z_eq (lv2 := [(0, .int x), (1, .int a), (2, .int b)]) rfl rfl rfl ?_
  refine z_iload_n X (pc := 0) 0 dX5_in_0 rfl ?_
  refine z_iload_n X (pc := 1) 1 dX5_in_1 rfl ?_
  refine z_icmp_lt X (pc := 2) 14 dX5_in_2 (by decide) (fun c_2 => ?_) (fun c_2 => ?_)
  · skip
    refine z_iconst X (pc := 14) (nI 0) dX5_in_14 (by decide) ?_
    exact hRet.z dX5_in_15 rfl ⟨some_zb_f (by simp only [Int32.lt_iff_toInt_lt, Int32.le_iff_toInt_le, ← Int32.toInt_inj] at c_2 ⊢; omega), rfl⟩
  · skip
    refine z_iload_n X (pc := 5) 0 dX5_in_5 rfl ?_
    refine z_iload_n X (pc := 6) 2 dX5_in_6 rfl ?_
    refine z_icmp_gt X (pc := 7) 14 dX5_in_7 (by decide) (fun c_7 => ?_) (fun c_7 => ?_)
    · skip
      refine z_iconst X (pc := 14) (nI 0) dX5_in_14 (by decide) ?_
      exact hRet.z dX5_in_15 rfl ⟨some_zb_f (by simp only [Int32.lt_iff_toInt_lt, Int32.le_iff_toInt_le, ← Int32.toInt_inj] at c_2 c_7 ⊢; omega), rfl⟩
    · skip
      refine z_iconst X (pc := 10) (nI 1) dX5_in_10 (by decide) ?_
      refine z_goto X (pc := 11) 15 dX5_in_11 (by decide) ?_
      exact hRet.z dX5_in_15 rfl ⟨some_zb_t (by simp only [Int32.lt_iff_toInt_lt, Int32.le_iff_toInt_le, ← Int32.toInt_inj] at c_2 c_7 ⊢; omega), rfl⟩

abbrev rm_X5_inN : Room := { frames := 0, cells := 0, slots := 0, locals := 0 }
set_option maxHeartbeats 4000000 in
set_option maxRecDepth 100000 in
theorem c_X5_inN (lq : Launch) (D : va_G) (t : zT) (x a b : Nat) (hx : x < 2 ^ 31) (ha : a < 2 ^ 31) (hb : b < 2 ^ 31) : Ct lq D t yX5_in cX5_in 3 (some .boolean) rm_X5_inN [.int (nI x), .int (nI a), .int (nI b)] [] 0 0 (fun rv rw_ => rv = some (.int (zb (a ≤ x ∧ x ≤ b))) ∧ rw_ = []) := by
  refine Ct.of (by decide) (Nat.le_of_ble_eq_true rfl) (fun k X hRet => ?_)
  have X : zX D t k cX5_in 3 RX5 "in" rm_X5_inN lq := X
  refine z_eq (lv2 := [(0, .int (nI x)), (1, .int (nI a)), (2, .int (nI b))]) rfl rfl rfl ?_
  refine z_iload_n X (pc := 0) 0 dX5_in_0 rfl ?_
  refine z_iload_n X (pc := 1) 1 dX5_in_1 rfl ?_
  refine z_icmp_ltN X (pc := 2) 14 (by omega) (by omega) dX5_in_2 (by decide) (fun c_2 => ?_) (fun c_2 => ?_)
  · skip
    refine z_iconst X (pc := 14) (nI 0) dX5_in_14 (by decide) ?_
    exact hRet.z dX5_in_15 rfl ⟨some_zb_f (by omega), rfl⟩
  · skip
    refine z_iload_n X (pc := 5) 0 dX5_in_5 rfl ?_
    refine z_iload_n X (pc := 6) 2 dX5_in_6 rfl ?_
    refine z_icmp_gtN X (pc := 7) 14 (by omega) (by omega) dX5_in_7 (by decide) (fun c_7 => ?_) (fun c_7 => ?_)
    · skip
      refine z_iconst X (pc := 14) (nI 0) dX5_in_14 (by decide) ?_
      exact hRet.z dX5_in_15 rfl ⟨some_zb_f (by omega), rfl⟩
    · skip
      refine z_iconst X (pc := 10) (nI 1) dX5_in_10 (by decide) ?_
      refine z_goto X (pc := 11) 15 dX5_in_11 (by decide) ?_
      exact hRet.z dX5_in_15 rfl ⟨some_zb_t (by omega), rfl⟩

abbrev rm_X5_write : Room := { frames := 1, cells := 0, slots := 0, locals := 22 }
set_option maxHeartbeats 4000000 in
set_option maxRecDepth 100000 in
theorem c_X5_write (lq : Launch) (D : va_G) (t : zT) (mq mT mD mS mP mI mE mH mX mR mO ty ev kn kp sg : Nat) (at_ : Int32) (fs : Int64) (tx : Nat → Nat) (e : Int32) (hty9 : ty ≤ 200) : Ct lq D t yX5_write cX5_write 2 (some .int) rm_X5_write [.ref mq, .int e] [eX5 mq mT (nI ty) mD mS (nI ev) mP (nI kn) mI (nI kp) mE (nI sg) at_ mH mX mR mO fs, eI t mT 200 (nf tx)] 0 0 (fun rv rw_ => rv = some (.int (an_write ty (dz 32 126 e))) ∧ rw_ = [eX5 mq mT (nI (nx_ty ty (dz 32 126 e))) mD mS (nI ev) mP (nI kn) mI (nI kp) mE (nI sg) at_ mH mX mR mO fs, eI t mT 200 (nf (nx_tx tx ty (dz 32 126 e)))]) := by
  refine Ct.of (by decide) (Nat.le_of_ble_eq_true rfl) (fun k X hRet => ?_)
  have X : zX D t k cX5_write 2 RX5 "write" rm_X5_write lq := X
  refine z_eq (lv2 := [(0, .ref mq), (1, .int e)]) rfl rfl rfl ?_
  refine z_iload_n X (pc := 0) 1 dX5_write_0 rfl ?_
  refine z_bipush X (pc := 1) (nI 32) dX5_write_1 (by decide) ?_
  refine z_bipush X (pc := 3) (nI 126) dX5_write_3 (by decide) ?_
  refine zc_S (as := [.int e, .int (nI 32), .int (nI 126)]) X (pc := 5) (c_X5_in lq D t e (nI 32) (nI 126) ) tw_615 tw_617 tw_7 tw_616 [] rfl rfl dX5_write_5 rfl zdX5_in ⟨rfl, rfl, Nat.le_of_ble_eq_true rfl, Nat.le_of_ble_eq_true rfl⟩ (Nat.le_of_ble_eq_true rfl) (Nat.zero_le _) (Nat.zero_le _) (fun v_1 w_2 hp_3 => ?_)
  obtain ⟨rfl, rfl⟩ := hp_3
  refine ⟨rfl, ?_⟩
  refine z_eq (ws2 := [eX5 mq mT (nI ty) mD mS (nI ev) mP (nI kn) mI (nI kp) mE (nI sg) at_ mH mX mR mO fs, eI t mT 200 (nf tx)]) (st2 := [.int (zb ((nI 32) ≤ e ∧ e ≤ (nI 126)))]) rfl rfl rfl ?_
  refine z_if_neB X (pc := 8) 13 dX5_write_8 (by decide) (fun c_8 => ?_) (fun c_8 => ?_)
  · skip
    obtain ⟨c, c_lo, c_hi, rfl⟩ := inR (by decide) (by decide) c_8
    refine z_aload_n X (pc := 13) 0 dX5_write_13 rfl ?_
    refine z_get X (pc := 14) 0 1 (.int (nI ty)) tu_5 tw_560 dX5_write_14 rfl rfl (by decide) rfl rfl ?_
    refine z_sipush X (pc := 17) (nI 200) dX5_write_17 (by decide) ?_
    refine z_icmp_neN X (pc := 20) 26 (by omega) (by omega) dX5_write_20 (by decide) (fun c_20 => ?_) (fun c_20 => ?_)
    · skip
      refine z_aload_n X (pc := 26) 0 dX5_write_26 rfl ?_
      refine z_get X (pc := 27) 0 0 (.ref mT) tu_5 tw_559 dX5_write_27 rfl rfl (by decide) rfl rfl ?_
      refine z_aload_n X (pc := 30) 0 dX5_write_30 rfl ?_
      refine z_get X (pc := 31) 0 1 (.int (nI ty)) tu_5 tw_560 dX5_write_31 rfl rfl (by decide) rfl rfl ?_
      refine z_iload_n X (pc := 34) 1 dX5_write_34 rfl ?_
      refine z_iast X (pc := 35) 1 ty (nf (vup tx ty c)) [eX5 mq mT (nI ty) mD mS (nI ev) mP (nI kn) mI (nI kp) mE (nI sg) at_ mH mX mR mO fs, eI t mT 200 (nf (vup tx ty c))] dX5_write_35 rfl rfl (Nat.le_of_ble_eq_true rfl) (by omega) (upd_nf _ _ _) rfl ?_
      refine z_aload_n X (pc := 36) 0 dX5_write_36 rfl ?_
      refine z_dup X (pc := 37) dX5_write_37 rfl ?_
      refine z_get X (pc := 38) 0 1 (.int (nI ty)) tu_5 tw_560 dX5_write_38 rfl rfl (by decide) rfl rfl ?_
      refine z_iconst X (pc := 41) (nI 1) dX5_write_41 (by decide) ?_
      refine z_iadd X (pc := 42) (v := (nI (ty + 1))) dX5_write_42 (nI_add ty 1) ?_
      refine z_put X (pc := 43) 0 1 [eX5 mq mT (nI (ty + 1)) mD mS (nI ev) mP (nI kn) mI (nI kp) mE (nI sg) at_ mH mX mR mO fs, eI t mT 200 (nf (vup tx ty c))] tu_5 tyX5_ok nmX5 tw_560 dX5_write_43 rfl rfl (by decide) rfl rfl rfl rfl (Nat.le_of_ble_eq_true rfl) rfl ?_
      refine z_aload_n X (pc := 46) 0 dX5_write_46 rfl ?_
      refine z_get X (pc := 47) 0 1 (.int (nI (ty + 1))) tu_5 tw_560 dX5_write_47 rfl rfl (by decide) rfl rfl ?_
      exact hRet.i dX5_write_50 ⟨by rw [dz_ok (by decide) c_lo c_hi]; simp only [an_write, if_pos (show ty < 200 by omega)], by rw [dz_ok (by decide) c_lo c_hi]; simp only [nx_ty, nx_tx, if_pos (show ty < 200 by omega)]⟩
    · skip
      refine z_bipush X (pc := 23) (-3) dX5_write_23 (by decide) ?_
      exact hRet.i dX5_write_25 ⟨by rw [dz_ok (by decide) c_lo c_hi]; simp only [an_write, if_neg (show ¬ ty < 200 by omega)], by rw [dz_ok (by decide) c_lo c_hi]; simp only [nx_ty, nx_tx, if_neg (show ¬ ty < 200 by omega)]⟩
  · skip
    refine z_iconst X (pc := 11) (-1) dX5_write_11 (by decide) ?_
    exact hRet.i dX5_write_12 ⟨by rw [dz_bad c_8]; rfl, by rw [dz_bad c_8]; rfl⟩

abbrev rm_X5_wipe : Room := { frames := 0, cells := 0, slots := 0, locals := 0 }
set_option maxHeartbeats 4000000 in
set_option maxRecDepth 100000 in
theorem c_X5_wipe (lq : Launch) (D : va_G) (t : zT) (mq mT mD mS mP mI mE mH mX mR mO ty ev kn kp sg : Nat) (at_ : Int32) (fs : Int64)  : Ct lq D t yX5_wipe cX5_wipe 2 (some .int) rm_X5_wipe [.ref mq] [eX5 mq mT (nI ty) mD mS (nI ev) mP (nI kn) mI (nI kp) mE (nI sg) at_ mH mX mR mO fs] 0 0 (fun rv rw_ => rv = some (.int (nI ty)) ∧ rw_ = [eX5 mq mT (nI 0) mD mS (nI ev) mP (nI kn) mI (nI kp) mE (nI sg) at_ mH mX mR mO fs]) := by
  refine Ct.of (by decide) (Nat.le_of_ble_eq_true rfl) (fun k X hRet => ?_)
  have X : zX D t k cX5_wipe 2 RX5 "wipe" rm_X5_wipe lq := X
  refine z_eq (lv2 := [(0, .ref mq)]) rfl rfl rfl ?_
  refine z_aload_n X (pc := 0) 0 dX5_wipe_0 rfl ?_
  refine z_get X (pc := 1) 0 1 (.int (nI ty)) tu_5 tw_560 dX5_wipe_1 rfl rfl (by decide) rfl rfl ?_
  refine z_istore_n X (pc := 4) (i := 1) [(1, .int (nI ty)), (0, .ref mq)] dX5_wipe_4 rfl (by decide) rfl ?_
  refine z_aload_n X (pc := 5) 1 dX5_wipe_5 rfl ?_
  refine z_iconst X (pc := 6) (nI 0) dX5_wipe_6 (by decide) ?_
  refine z_put X (pc := 7) 0 1 [eX5 mq mT (nI 0) mD mS (nI ev) mP (nI kn) mI (nI kp) mE (nI sg) at_ mH mX mR mO fs] tu_5 tyX5_ok nmX5 tw_560 dX5_wipe_7 rfl rfl (by decide) rfl rfl rfl rfl (Nat.le_of_ble_eq_true rfl) rfl ?_
  refine z_iload_n X (pc := 10) 0 dX5_wipe_10 rfl ?_
  exact hRet.i dX5_wipe_11 ⟨rfl, rfl⟩

abbrev rm_X5_letterAt : Room := { frames := 0, cells := 0, slots := 0, locals := 0 }
set_option maxHeartbeats 4000000 in
set_option maxRecDepth 100000 in
theorem c_X5_letterAt (lq : Launch) (D : va_G) (t : zT) (mq mT mD mS mP mI mE mH mX mR mO ty ev kn kp sg : Nat) (at_ : Int32) (fs : Int64) (tx : Nat → Nat) (k_ : Nat) (hty9 : ty ≤ 200) (hk : k_ < 2000) : Ct lq D t yX5_letterAt cX5_letterAt 2 (some .int) rm_X5_letterAt [.ref mq, .int (nI k_)] [eX5 mq mT (nI ty) mD mS (nI ev) mP (nI kn) mI (nI kp) mE (nI sg) at_ mH mX mR mO fs, eI t mT 200 (nf tx)] 0 0 (fun rv rw_ => rv = some (.int (lta tx ty k_)) ∧ rw_ = [eX5 mq mT (nI ty) mD mS (nI ev) mP (nI kn) mI (nI kp) mE (nI sg) at_ mH mX mR mO fs, eI t mT 200 (nf tx)]) := by
  refine Ct.of (by decide) (Nat.le_of_ble_eq_true rfl) (fun k X hRet => ?_)
  have X : zX D t k cX5_letterAt 2 RX5 "letterAt" rm_X5_letterAt lq := X
  refine z_eq (lv2 := [(0, .ref mq), (1, .int (nI k_))]) rfl rfl rfl ?_
  refine z_iload_n X (pc := 0) 1 dX5_letterAt_0 rfl ?_
  refine z_aload_n X (pc := 1) 0 dX5_letterAt_1 rfl ?_
  refine z_get X (pc := 2) 0 1 (.int (nI ty)) tu_5 tw_560 dX5_letterAt_2 rfl rfl (by decide) rfl rfl ?_
  refine z_icmp_geN X (pc := 5) 17 (by omega) (by omega) dX5_letterAt_5 (by decide) (fun c_5 => ?_) (fun c_5 => ?_)
  · skip
    refine z_iconst X (pc := 17) (-1) dX5_letterAt_17 (by decide) ?_
    exact hRet.i dX5_letterAt_18 ⟨by rw [lta, if_neg (by omega)], rfl⟩
  · skip
    refine z_aload_n X (pc := 8) 0 dX5_letterAt_8 rfl ?_
    refine z_get X (pc := 9) 0 0 (.ref mT) tu_5 tw_559 dX5_letterAt_9 rfl rfl (by decide) rfl rfl ?_
    refine z_iload_n X (pc := 12) 1 dX5_letterAt_12 rfl ?_
    refine z_iald X (pc := 13) 1 k_ (nI (tx k_)) dX5_letterAt_13 rfl rfl (Nat.le_of_ble_eq_true rfl) (by omega) rfl ?_
    refine z_goto X (pc := 14) 18 dX5_letterAt_14 (by decide) ?_
    exact hRet.i dX5_letterAt_18 ⟨by rw [lta, if_pos (by omega)], rfl⟩

abbrev rm_X5_isFigure : Room := { frames := 1, cells := 0, slots := 0, locals := 22 }
set_option maxHeartbeats 4000000 in
set_option maxRecDepth 100000 in
theorem c_X5_isFigure (lq : Launch) (D : va_G) (t : zT) (x : Int32)  : Ct lq D t yX5_isFigure cX5_isFigure 1 (some .boolean) rm_X5_isFigure [.int x] [] 0 0 (fun rv rw_ => rv = some (.int (zb (nI 48 ≤ x ∧ x ≤ nI 57))) ∧ rw_ = []) := by
  refine Ct.of (by decide) (Nat.le_of_ble_eq_true rfl) (fun k X hRet => ?_)
  have X : zX D t k cX5_isFigure 1 RX5 "isFigure" rm_X5_isFigure lq := X
  refine z_eq (lv2 := [(0, .int x)]) rfl rfl rfl ?_
  refine z_iload_n X (pc := 0) 0 dX5_isFigure_0 rfl ?_
  refine z_bipush X (pc := 1) (nI 48) dX5_isFigure_1 (by decide) ?_
  refine z_bipush X (pc := 3) (nI 57) dX5_isFigure_3 (by decide) ?_
  refine zc_S (as := [.int x, .int (nI 48), .int (nI 57)]) X (pc := 5) (c_X5_in lq D t x (nI 48) (nI 57) ) tw_615 tw_617 tw_7 tw_616 [] rfl rfl dX5_isFigure_5 rfl zdX5_in ⟨rfl, rfl, Nat.le_of_ble_eq_true rfl, Nat.le_of_ble_eq_true rfl⟩ (Nat.le_of_ble_eq_true rfl) (Nat.zero_le _) (Nat.zero_le _) (fun v_1 w_2 hp_3 => ?_)
  obtain ⟨rfl, rfl⟩ := hp_3
  refine ⟨rfl, ?_⟩
  refine z_eq (ws2 := []) (st2 := [.int (zb ((nI 48) ≤ x ∧ x ≤ (nI 57)))]) rfl rfl rfl ?_
  exact hRet.z dX5_isFigure_8 (zb_nar _) ⟨rfl, rfl⟩

abbrev rm_X5_numbery : Room := { frames := 2, cells := 0, slots := 0, locals := 42 }
set_option maxHeartbeats 4000000 in
set_option maxRecDepth 100000 in
theorem c_X5_numbery (lq : Launch) (D : va_G) (t : zT) (mq mT mD mS mP mI mE mH mX mR mO ty ev kn kp sg : Nat) (at_ : Int32) (fs : Int64) (tx : Nat → Nat) (p lo hi en : Nat) (hty9 : ty ≤ 200) (hp : p < 1000) (htx : ∀ j, tx j < 127) (hlo : lo ≤ 10) (hhi : hi ≤ 10) (hen : en ≠ 32 ∧ en < 1000) (hok : dig (chf tx ty) p ∧ chf tx ty (p + nln (chf tx ty) p) = en ∧ lo ≤ nvl (chf tx ty) p ∧ nvl (chf tx ty) p ≤ hi) : Ct lq D t yX5_number cX5_number 6 (some .int) rm_X5_numbery [.ref mq, .int (nI lo), .int (nI hi), .int (nI en)] [eX5 mq mT (nI ty) mD mS (nI ev) mP (nI kn) mI (nI kp) mE (nI sg) (nI p) mH mX mR mO fs, eI t mT 200 (nf tx)] 0 0 (fun rv rw_ => rv = some (.int (nI (nvl (chf tx ty) p))) ∧ rw_ = [eX5 mq mT (nI ty) mD mS (nI ev) mP (nI kn) mI (nI kp) mE (nI sg) (nI (e1 (chf tx ty) p)) mH mX mR mO fs, eI t mT 200 (nf tx)]) := by
  refine Ct.of (by decide) (Nat.le_of_ble_eq_true rfl) (fun k X hRet => ?_)
  have X : zX D t k cX5_number 6 RX5 "number" rm_X5_numbery lq := X
  refine z_eq (lv2 := [(0, .ref mq), (1, .int (nI lo)), (2, .int (nI hi)), (3, .int (nI en))]) rfl rfl rfl ?_
  obtain ⟨hd1, hok2, hok3, hok4⟩ := hok
  obtain ⟨hd8, hd9⟩ := id hd1
  have hn1 := nln_le (chf tx ty) p
  refine z_aload_n X (pc := 0) 0 dX5_number_0 rfl ?_
  refine z_aload_n X (pc := 1) 0 dX5_number_1 rfl ?_
  refine z_get X (pc := 2) 0 11 (.int (nI p)) tu_5 tw_570 dX5_number_2 rfl rfl (by decide) rfl rfl ?_
  refine zc_V (as := [.int (nI p)]) X (pc := 5) (c_X5_letterAt lq D t mq mT mD mS mP mI mE mH mX mR mO ty ev kn kp sg (nI p) fs tx p (by omega) (by omega)) tw_642 tw_645 tw_7 tw_644 tw_1028 0 5 rfl rfl [0, 1] rfl rfl dX5_number_5 rfl zdX5_letterAt ⟨rfl, rfl, Nat.le_of_ble_eq_true rfl, Nat.le_of_ble_eq_true rfl⟩ (Nat.le_of_ble_eq_true rfl) (Nat.zero_le _) (Nat.zero_le _) (fun v_1 w_2 hp_3 => ?_)
  obtain ⟨rfl, rfl⟩ := hp_3
  refine ⟨rfl, ?_⟩
  refine z_eq (ws2 := [eX5 mq mT (nI ty) mD mS (nI ev) mP (nI kn) mI (nI kp) mE (nI sg) (nI p) mH mX mR mO fs, eI t mT 200 (nf tx)]) (st2 := [.int (lta tx ty p)]) rfl rfl rfl ?_
  refine zc_S (as := [.int (lta tx ty p)]) X (pc := 8) (c_X5_isFigure lq D t (lta tx ty p) ) tw_646 tw_648 tw_7 tw_647 [] rfl rfl dX5_number_8 rfl zdX5_isFigure ⟨rfl, rfl, Nat.le_of_ble_eq_true rfl, Nat.le_of_ble_eq_true rfl⟩ (Nat.le_of_ble_eq_true rfl) (Nat.zero_le _) (Nat.zero_le _) (fun v_4 w_5 hp_6 => ?_)
  obtain ⟨rfl, rfl⟩ := hp_6
  refine ⟨rfl, ?_⟩
  refine z_eq (ws2 := [eX5 mq mT (nI ty) mD mS (nI ev) mP (nI kn) mI (nI kp) mE (nI sg) (nI p) mH mX mR mO fs, eI t mT 200 (nf tx)]) (st2 := [.int (zb (nI 48 ≤ (lta tx ty p) ∧ (lta tx ty p) ≤ nI 57))]) rfl rfl rfl ?_
  refine z_if_neB X (pc := 11) 16 dX5_number_11 (by decide) (fun c_11 => ?_) (fun c_11 => absurd c_11 (fun z => z ((lta_fig htx).mpr hd1)))
  refine z_aload_n X (pc := 16) 0 dX5_number_16 rfl ?_
  refine z_aload_n X (pc := 17) 0 dX5_number_17 rfl ?_
  refine z_get X (pc := 18) 0 11 (.int (nI p)) tu_5 tw_570 dX5_number_18 rfl rfl (by decide) rfl rfl ?_
  refine zc_V (as := [.int (nI p)]) X (pc := 21) (c_X5_letterAt lq D t mq mT mD mS mP mI mE mH mX mR mO ty ev kn kp sg (nI p) fs tx p (by omega) (by omega)) tw_642 tw_645 tw_7 tw_644 tw_1028 0 5 rfl rfl [0, 1] rfl rfl dX5_number_21 rfl zdX5_letterAt ⟨rfl, rfl, Nat.le_of_ble_eq_true rfl, Nat.le_of_ble_eq_true rfl⟩ (Nat.le_of_ble_eq_true rfl) (Nat.zero_le _) (Nat.zero_le _) (fun v_7 w_8 hp_9 => ?_)
  obtain ⟨rfl, rfl⟩ := hp_9
  refine ⟨rfl, ?_⟩
  refine z_eq (ws2 := [eX5 mq mT (nI ty) mD mS (nI ev) mP (nI kn) mI (nI kp) mE (nI sg) (nI p) mH mX mR mO fs, eI t mT 200 (nf tx)]) (st2 := [.int (lta tx ty p)]) rfl rfl rfl ?_
  refine z_topi (nI (chf tx ty p)) (lta_dig hd1) ?_
  refine z_bipush X (pc := 24) (nI 48) dX5_number_24 (by decide) ?_
  refine z_isub X (pc := 26) (v := (nI ((chf tx ty p) - 48))) dX5_number_26 (pk_sub (by omega)) ?_
  refine z_istore X (pc := 27) (i := 4) [(4, .int (nI ((chf tx ty p) - 48))), (0, .ref mq), (1, .int (nI lo)), (2, .int (nI hi)), (3, .int (nI en))] dX5_number_27 trivial (by decide) rfl ?_
  have hch := @chf_lt tx ty p htx
  have hch2 := @chf_lt tx ty (p + 1) htx
  refine z_aload_n X (pc := 29) 1 dX5_number_29 rfl ?_
  refine z_dup X (pc := 30) dX5_number_30 rfl ?_
  refine z_get X (pc := 31) 0 11 (.int (nI p)) tu_5 tw_570 dX5_number_31 rfl rfl (by decide) rfl rfl ?_
  refine z_iconst X (pc := 34) (nI 1) dX5_number_34 (by decide) ?_
  refine z_iadd X (pc := 35) (v := (nI (p + 1))) dX5_number_35 (nI_add p 1) ?_
  refine z_put X (pc := 36) 0 11 [eX5 mq mT (nI ty) mD mS (nI ev) mP (nI kn) mI (nI kp) mE (nI sg) (nI (p + 1)) mH mX mR mO fs, eI t mT 200 (nf tx)] tu_5 tyX5_ok nmX5 tw_570 dX5_number_36 rfl rfl (by decide) rfl rfl rfl rfl (Nat.le_of_ble_eq_true rfl) rfl ?_
  by_cases hd2 : dig (chf tx ty) (p + 1)
  · skip
    have hln : nln (chf tx ty) p = 2 := by rw [nln, if_pos hd2]
    have hnv9 : nvl (chf tx ty) p = 10 * (chf tx ty p - 48) + (chf tx ty (p + 1) - 48) := by rw [nvl, if_pos hd2]
    obtain ⟨hd3, hd4⟩ := id hd2
    refine z_aload_n X (pc := 39) 1 dX5_number_39 rfl ?_
    refine z_aload_n X (pc := 40) 1 dX5_number_40 rfl ?_
    refine z_get X (pc := 41) 0 11 (.int (nI (p + 1))) tu_5 tw_570 dX5_number_41 rfl rfl (by decide) rfl rfl ?_
    refine zc_V (as := [.int (nI (p + 1))]) X (pc := 44) (c_X5_letterAt lq D t mq mT mD mS mP mI mE mH mX mR mO ty ev kn kp sg (nI (p + 1)) fs tx (p + 1) (by omega) (by omega)) tw_642 tw_645 tw_7 tw_644 tw_1028 0 5 rfl rfl [0, 1] rfl rfl dX5_number_44 rfl zdX5_letterAt ⟨rfl, rfl, Nat.le_of_ble_eq_true rfl, Nat.le_of_ble_eq_true rfl⟩ (Nat.le_of_ble_eq_true rfl) (Nat.zero_le _) (Nat.zero_le _) (fun v_10 w_11 hp_12 => ?_)
    obtain ⟨rfl, rfl⟩ := hp_12
    refine ⟨rfl, ?_⟩
    refine z_eq (ws2 := [eX5 mq mT (nI ty) mD mS (nI ev) mP (nI kn) mI (nI kp) mE (nI sg) (nI (p + 1)) mH mX mR mO fs, eI t mT 200 (nf tx)]) (st2 := [.int (lta tx ty (p + 1))]) rfl rfl rfl ?_
    refine zc_S (as := [.int (lta tx ty (p + 1))]) X (pc := 47) (c_X5_isFigure lq D t (lta tx ty (p + 1)) ) tw_646 tw_648 tw_7 tw_647 [] rfl rfl dX5_number_47 rfl zdX5_isFigure ⟨rfl, rfl, Nat.le_of_ble_eq_true rfl, Nat.le_of_ble_eq_true rfl⟩ (Nat.le_of_ble_eq_true rfl) (Nat.zero_le _) (Nat.zero_le _) (fun v_13 w_14 hp_15 => ?_)
    obtain ⟨rfl, rfl⟩ := hp_15
    refine ⟨rfl, ?_⟩
    refine z_eq (ws2 := [eX5 mq mT (nI ty) mD mS (nI ev) mP (nI kn) mI (nI kp) mE (nI sg) (nI (p + 1)) mH mX mR mO fs, eI t mT 200 (nf tx)]) (st2 := [.int (zb (nI 48 ≤ (lta tx ty (p + 1)) ∧ (lta tx ty (p + 1)) ≤ nI 57))]) rfl rfl rfl ?_
    refine z_if_eqB X (pc := 50) 82 dX5_number_50 (by decide) (fun c_50 => absurd c_50 (fun z => z ((lta_fig htx).mpr hd2))) (fun c_50 => ?_)
    refine z_bipush X (pc := 53) (nI 10) dX5_number_53 (by decide) ?_
    refine z_iload X (pc := 55) 0 dX5_number_55 rfl ?_
    refine z_imul X (pc := 57) (v := (nI (10 * ((chf tx ty p) - 48)))) dX5_number_57 (pk_mul _ _) ?_
    refine z_aload_n X (pc := 58) 1 dX5_number_58 rfl ?_
    refine z_aload_n X (pc := 59) 1 dX5_number_59 rfl ?_
    refine z_get X (pc := 60) 0 11 (.int (nI (p + 1))) tu_5 tw_570 dX5_number_60 rfl rfl (by decide) rfl rfl ?_
    refine zc_V (as := [.int (nI (p + 1))]) X (pc := 63) (c_X5_letterAt lq D t mq mT mD mS mP mI mE mH mX mR mO ty ev kn kp sg (nI (p + 1)) fs tx (p + 1) (by omega) (by omega)) tw_642 tw_645 tw_7 tw_644 tw_1028 0 5 rfl rfl [0, 1] rfl rfl dX5_number_63 rfl zdX5_letterAt ⟨rfl, rfl, Nat.le_of_ble_eq_true rfl, Nat.le_of_ble_eq_true rfl⟩ (Nat.le_of_ble_eq_true rfl) (Nat.zero_le _) (Nat.zero_le _) (fun v_16 w_17 hp_18 => ?_)
    obtain ⟨rfl, rfl⟩ := hp_18
    refine ⟨rfl, ?_⟩
    refine z_eq (ws2 := [eX5 mq mT (nI ty) mD mS (nI ev) mP (nI kn) mI (nI kp) mE (nI sg) (nI (p + 1)) mH mX mR mO fs, eI t mT 200 (nf tx)]) (st2 := [.int (lta tx ty (p + 1)), .int (nI (10 * ((chf tx ty p) - 48)))]) rfl rfl rfl ?_
    refine z_topi (nI (chf tx ty (p + 1))) (lta_dig hd2) ?_
    refine z_iadd X (pc := 66) (v := (nI ((10 * ((chf tx ty p) - 48)) + (chf tx ty (p + 1))))) dX5_number_66 (nI_add (10 * ((chf tx ty p) - 48)) (chf tx ty (p + 1))) ?_
    refine z_bipush X (pc := 67) (nI 48) dX5_number_67 (by decide) ?_
    refine z_isub X (pc := 69) (v := (nI (((10 * ((chf tx ty p) - 48)) + (chf tx ty (p + 1))) - 48))) dX5_number_69 (pk_sub (by omega)) ?_
    refine z_topi (nI (nvl (chf tx ty) p)) (by rw [hnv9]; congr 1; omega) ?_
    refine z_istore X (pc := 70) (i := 4) [(4, .int (nI (nvl (chf tx ty) p))), (0, .ref mq), (1, .int (nI lo)), (2, .int (nI hi)), (3, .int (nI en))] dX5_number_70 trivial (by decide) rfl ?_
    refine z_aload_n X (pc := 72) 1 dX5_number_72 rfl ?_
    refine z_dup X (pc := 73) dX5_number_73 rfl ?_
    refine z_get X (pc := 74) 0 11 (.int (nI (p + 1))) tu_5 tw_570 dX5_number_74 rfl rfl (by decide) rfl rfl ?_
    refine z_iconst X (pc := 77) (nI 1) dX5_number_77 (by decide) ?_
    refine z_iadd X (pc := 78) (v := (nI (p + 1 + 1))) dX5_number_78 (nI_add (p + 1) 1) ?_
    refine z_put X (pc := 79) 0 11 [eX5 mq mT (nI ty) mD mS (nI ev) mP (nI kn) mI (nI kp) mE (nI sg) (nI (p + 1 + 1)) mH mX mR mO fs, eI t mT 200 (nf tx)] tu_5 tyX5_ok nmX5 tw_570 dX5_number_79 rfl rfl (by decide) rfl rfl rfl rfl (Nat.le_of_ble_eq_true rfl) rfl ?_
    refine z_eq (ws2 := [eX5 mq mT (nI ty) mD mS (nI ev) mP (nI kn) mI (nI kp) mE (nI sg) (nI (p + nln (chf tx ty) p)) mH mX mR mO fs, eI t mT 200 (nf tx)]) (lv2 := [(4, .int (nI (nvl (chf tx ty) p))), (0, .ref mq), (1, .int (nI lo)), (2, .int (nI hi)), (3, .int (nI en))]) (by rw [hln]) (by first | rfl | rw [hnv9]) rfl ?_
    have hnv := nvl_le hd1
    refine z_aload_n X (pc := 82) 1 dX5_number_82 rfl ?_
    refine z_aload_n X (pc := 83) 1 dX5_number_83 rfl ?_
    refine z_get X (pc := 84) 0 11 (.int (nI (p + nln (chf tx ty) p))) tu_5 tw_570 dX5_number_84 rfl rfl (by decide) rfl rfl ?_
    refine zc_V (as := [.int (nI (p + nln (chf tx ty) p))]) X (pc := 87) (c_X5_letterAt lq D t mq mT mD mS mP mI mE mH mX mR mO ty ev kn kp sg (nI (p + nln (chf tx ty) p)) fs tx (p + nln (chf tx ty) p) (by omega) (by omega)) tw_642 tw_645 tw_7 tw_644 tw_1028 0 5 rfl rfl [0, 1] rfl rfl dX5_number_87 rfl zdX5_letterAt ⟨rfl, rfl, Nat.le_of_ble_eq_true rfl, Nat.le_of_ble_eq_true rfl⟩ (Nat.le_of_ble_eq_true rfl) (Nat.zero_le _) (Nat.zero_le _) (fun v_19 w_20 hp_21 => ?_)
    obtain ⟨rfl, rfl⟩ := hp_21
    refine ⟨rfl, ?_⟩
    refine z_eq (ws2 := [eX5 mq mT (nI ty) mD mS (nI ev) mP (nI kn) mI (nI kp) mE (nI sg) (nI (p + nln (chf tx ty) p)) mH mX mR mO fs, eI t mT 200 (nf tx)]) (st2 := [.int (lta tx ty (p + nln (chf tx ty) p))]) rfl rfl rfl ?_
    refine z_iload_n X (pc := 90) 4 dX5_number_90 rfl ?_
    refine z_icmp_ne X (pc := 91) 108 dX5_number_91 (by decide) (fun c_91 => absurd c_91 (fun z => z ((lta_eq htx hen.1 (by omega)).mpr hok2))) (fun c_91 => ?_)
    refine z_iload X (pc := 94) 0 dX5_number_94 rfl ?_
    refine z_iload_n X (pc := 96) 2 dX5_number_96 rfl ?_
    refine z_iload_n X (pc := 97) 3 dX5_number_97 rfl ?_
    refine zc_S (as := [.int (nI (nvl (chf tx ty) p)), .int (nI lo), .int (nI hi)]) X (pc := 98) (c_X5_inN lq D t (nvl (chf tx ty) p) lo hi (by omega) (by omega) (by omega)) tw_615 tw_617 tw_7 tw_616 [] rfl rfl dX5_number_98 rfl zdX5_in ⟨rfl, rfl, Nat.le_of_ble_eq_true rfl, Nat.le_of_ble_eq_true rfl⟩ (Nat.le_of_ble_eq_true rfl) (Nat.zero_le _) (Nat.zero_le _) (fun v_22 w_23 hp_24 => ?_)
    obtain ⟨rfl, rfl⟩ := hp_24
    refine ⟨rfl, ?_⟩
    refine z_eq (ws2 := [eX5 mq mT (nI ty) mD mS (nI ev) mP (nI kn) mI (nI kp) mE (nI sg) (nI (p + nln (chf tx ty) p)) mH mX mR mO fs, eI t mT 200 (nf tx)]) (st2 := [.int (zb (lo ≤ (nvl (chf tx ty) p) ∧ (nvl (chf tx ty) p) ≤ hi))]) rfl rfl rfl ?_
    refine z_if_eqB X (pc := 101) 108 dX5_number_101 (by decide) (fun c_101 => absurd c_101 (by omega)) (fun c_101 => ?_)
    refine z_iconst X (pc := 104) (nI 1) dX5_number_104 (by decide) ?_
    refine z_goto X (pc := 105) 109 dX5_number_105 (by decide) ?_
    refine z_istore X (pc := 109) (i := 5) [(5, .int (nI 1)), (4, .int (nI (nvl (chf tx ty) p))), (0, .ref mq), (1, .int (nI lo)), (2, .int (nI hi)), (3, .int (nI en))] dX5_number_109 trivial (by decide) rfl ?_
    refine z_aload_n X (pc := 111) 2 dX5_number_111 rfl ?_
    refine z_dup X (pc := 112) dX5_number_112 rfl ?_
    refine z_get X (pc := 113) 0 11 (.int (nI (p + nln (chf tx ty) p))) tu_5 tw_570 dX5_number_113 rfl rfl (by decide) rfl rfl ?_
    refine z_iconst X (pc := 116) (nI 1) dX5_number_116 (by decide) ?_
    refine z_iadd X (pc := 117) (v := (nI (p + nln (chf tx ty) p + 1))) dX5_number_117 (nI_add (p + nln (chf tx ty) p) 1) ?_
    refine z_put X (pc := 118) 0 11 [eX5 mq mT (nI ty) mD mS (nI ev) mP (nI kn) mI (nI kp) mE (nI sg) (nI (p + nln (chf tx ty) p + 1)) mH mX mR mO fs, eI t mT 200 (nf tx)] tu_5 tyX5_ok nmX5 tw_570 dX5_number_118 rfl rfl (by decide) rfl rfl rfl rfl (Nat.le_of_ble_eq_true rfl) rfl ?_
    refine z_iload X (pc := 121) 0 dX5_number_121 rfl ?_
    refine z_if_eqN X (pc := 123) 131 (by omega) dX5_number_123 (by decide) (fun c_123 => absurd c_123 (by decide)) (fun c_123 => ?_)
    refine z_iload X (pc := 126) 1 dX5_number_126 rfl ?_
    refine z_goto X (pc := 128) 132 dX5_number_128 (by decide) ?_
    exact hRet.i dX5_number_132 ⟨rfl, rfl⟩
  · skip
    have hln : nln (chf tx ty) p = 1 := by rw [nln, if_neg hd2]
    have hnv9 : nvl (chf tx ty) p = chf tx ty p - 48 := by rw [nvl, if_neg hd2]
    refine z_aload_n X (pc := 39) 1 dX5_number_39 rfl ?_
    refine z_aload_n X (pc := 40) 1 dX5_number_40 rfl ?_
    refine z_get X (pc := 41) 0 11 (.int (nI (p + 1))) tu_5 tw_570 dX5_number_41 rfl rfl (by decide) rfl rfl ?_
    refine zc_V (as := [.int (nI (p + 1))]) X (pc := 44) (c_X5_letterAt lq D t mq mT mD mS mP mI mE mH mX mR mO ty ev kn kp sg (nI (p + 1)) fs tx (p + 1) (by omega) (by omega)) tw_642 tw_645 tw_7 tw_644 tw_1028 0 5 rfl rfl [0, 1] rfl rfl dX5_number_44 rfl zdX5_letterAt ⟨rfl, rfl, Nat.le_of_ble_eq_true rfl, Nat.le_of_ble_eq_true rfl⟩ (Nat.le_of_ble_eq_true rfl) (Nat.zero_le _) (Nat.zero_le _) (fun v_25 w_26 hp_27 => ?_)
    obtain ⟨rfl, rfl⟩ := hp_27
    refine ⟨rfl, ?_⟩
    refine z_eq (ws2 := [eX5 mq mT (nI ty) mD mS (nI ev) mP (nI kn) mI (nI kp) mE (nI sg) (nI (p + 1)) mH mX mR mO fs, eI t mT 200 (nf tx)]) (st2 := [.int (lta tx ty (p + 1))]) rfl rfl rfl ?_
    refine zc_S (as := [.int (lta tx ty (p + 1))]) X (pc := 47) (c_X5_isFigure lq D t (lta tx ty (p + 1)) ) tw_646 tw_648 tw_7 tw_647 [] rfl rfl dX5_number_47 rfl zdX5_isFigure ⟨rfl, rfl, Nat.le_of_ble_eq_true rfl, Nat.le_of_ble_eq_true rfl⟩ (Nat.le_of_ble_eq_true rfl) (Nat.zero_le _) (Nat.zero_le _) (fun v_28 w_29 hp_30 => ?_)
    obtain ⟨rfl, rfl⟩ := hp_30
    refine ⟨rfl, ?_⟩
    refine z_eq (ws2 := [eX5 mq mT (nI ty) mD mS (nI ev) mP (nI kn) mI (nI kp) mE (nI sg) (nI (p + 1)) mH mX mR mO fs, eI t mT 200 (nf tx)]) (st2 := [.int (zb (nI 48 ≤ (lta tx ty (p + 1)) ∧ (lta tx ty (p + 1)) ≤ nI 57))]) rfl rfl rfl ?_
    refine z_if_eqB X (pc := 50) 82 dX5_number_50 (by decide) (fun c_50 => ?_) (fun c_50 => absurd c_50 (fun z => hd2 ((lta_fig htx).mp z)))
    refine z_eq (ws2 := [eX5 mq mT (nI ty) mD mS (nI ev) mP (nI kn) mI (nI kp) mE (nI sg) (nI (p + nln (chf tx ty) p)) mH mX mR mO fs, eI t mT 200 (nf tx)]) (lv2 := [(4, .int (nI (nvl (chf tx ty) p))), (0, .ref mq), (1, .int (nI lo)), (2, .int (nI hi)), (3, .int (nI en))]) (by rw [hln]) (by first | rfl | rw [hnv9]) rfl ?_
    have hnv := nvl_le hd1
    refine z_aload_n X (pc := 82) 1 dX5_number_82 rfl ?_
    refine z_aload_n X (pc := 83) 1 dX5_number_83 rfl ?_
    refine z_get X (pc := 84) 0 11 (.int (nI (p + nln (chf tx ty) p))) tu_5 tw_570 dX5_number_84 rfl rfl (by decide) rfl rfl ?_
    refine zc_V (as := [.int (nI (p + nln (chf tx ty) p))]) X (pc := 87) (c_X5_letterAt lq D t mq mT mD mS mP mI mE mH mX mR mO ty ev kn kp sg (nI (p + nln (chf tx ty) p)) fs tx (p + nln (chf tx ty) p) (by omega) (by omega)) tw_642 tw_645 tw_7 tw_644 tw_1028 0 5 rfl rfl [0, 1] rfl rfl dX5_number_87 rfl zdX5_letterAt ⟨rfl, rfl, Nat.le_of_ble_eq_true rfl, Nat.le_of_ble_eq_true rfl⟩ (Nat.le_of_ble_eq_true rfl) (Nat.zero_le _) (Nat.zero_le _) (fun v_31 w_32 hp_33 => ?_)
    obtain ⟨rfl, rfl⟩ := hp_33
    refine ⟨rfl, ?_⟩
    refine z_eq (ws2 := [eX5 mq mT (nI ty) mD mS (nI ev) mP (nI kn) mI (nI kp) mE (nI sg) (nI (p + nln (chf tx ty) p)) mH mX mR mO fs, eI t mT 200 (nf tx)]) (st2 := [.int (lta tx ty (p + nln (chf tx ty) p))]) rfl rfl rfl ?_
    refine z_iload_n X (pc := 90) 4 dX5_number_90 rfl ?_
    refine z_icmp_ne X (pc := 91) 108 dX5_number_91 (by decide) (fun c_91 => absurd c_91 (fun z => z ((lta_eq htx hen.1 (by omega)).mpr hok2))) (fun c_91 => ?_)
    refine z_iload X (pc := 94) 0 dX5_number_94 rfl ?_
    refine z_iload_n X (pc := 96) 2 dX5_number_96 rfl ?_
    refine z_iload_n X (pc := 97) 3 dX5_number_97 rfl ?_
    refine zc_S (as := [.int (nI (nvl (chf tx ty) p)), .int (nI lo), .int (nI hi)]) X (pc := 98) (c_X5_inN lq D t (nvl (chf tx ty) p) lo hi (by omega) (by omega) (by omega)) tw_615 tw_617 tw_7 tw_616 [] rfl rfl dX5_number_98 rfl zdX5_in ⟨rfl, rfl, Nat.le_of_ble_eq_true rfl, Nat.le_of_ble_eq_true rfl⟩ (Nat.le_of_ble_eq_true rfl) (Nat.zero_le _) (Nat.zero_le _) (fun v_34 w_35 hp_36 => ?_)
    obtain ⟨rfl, rfl⟩ := hp_36
    refine ⟨rfl, ?_⟩
    refine z_eq (ws2 := [eX5 mq mT (nI ty) mD mS (nI ev) mP (nI kn) mI (nI kp) mE (nI sg) (nI (p + nln (chf tx ty) p)) mH mX mR mO fs, eI t mT 200 (nf tx)]) (st2 := [.int (zb (lo ≤ (nvl (chf tx ty) p) ∧ (nvl (chf tx ty) p) ≤ hi))]) rfl rfl rfl ?_
    refine z_if_eqB X (pc := 101) 108 dX5_number_101 (by decide) (fun c_101 => absurd c_101 (by omega)) (fun c_101 => ?_)
    refine z_iconst X (pc := 104) (nI 1) dX5_number_104 (by decide) ?_
    refine z_goto X (pc := 105) 109 dX5_number_105 (by decide) ?_
    refine z_istore X (pc := 109) (i := 5) [(5, .int (nI 1)), (4, .int (nI (nvl (chf tx ty) p))), (0, .ref mq), (1, .int (nI lo)), (2, .int (nI hi)), (3, .int (nI en))] dX5_number_109 trivial (by decide) rfl ?_
    refine z_aload_n X (pc := 111) 2 dX5_number_111 rfl ?_
    refine z_dup X (pc := 112) dX5_number_112 rfl ?_
    refine z_get X (pc := 113) 0 11 (.int (nI (p + nln (chf tx ty) p))) tu_5 tw_570 dX5_number_113 rfl rfl (by decide) rfl rfl ?_
    refine z_iconst X (pc := 116) (nI 1) dX5_number_116 (by decide) ?_
    refine z_iadd X (pc := 117) (v := (nI (p + nln (chf tx ty) p + 1))) dX5_number_117 (nI_add (p + nln (chf tx ty) p) 1) ?_
    refine z_put X (pc := 118) 0 11 [eX5 mq mT (nI ty) mD mS (nI ev) mP (nI kn) mI (nI kp) mE (nI sg) (nI (p + nln (chf tx ty) p + 1)) mH mX mR mO fs, eI t mT 200 (nf tx)] tu_5 tyX5_ok nmX5 tw_570 dX5_number_118 rfl rfl (by decide) rfl rfl rfl rfl (Nat.le_of_ble_eq_true rfl) rfl ?_
    refine z_iload X (pc := 121) 0 dX5_number_121 rfl ?_
    refine z_if_eqN X (pc := 123) 131 (by omega) dX5_number_123 (by decide) (fun c_123 => absurd c_123 (by decide)) (fun c_123 => ?_)
    refine z_iload X (pc := 126) 1 dX5_number_126 rfl ?_
    refine z_goto X (pc := 128) 132 dX5_number_128 (by decide) ?_
    exact hRet.i dX5_number_132 ⟨rfl, rfl⟩

abbrev rm_X5_numbern : Room := { frames := 2, cells := 0, slots := 0, locals := 42 }
set_option maxHeartbeats 4000000 in
set_option maxRecDepth 100000 in
theorem c_X5_numbern (lq : Launch) (D : va_G) (t : zT) (mq mT mD mS mP mI mE mH mX mR mO ty ev kn kp sg : Nat) (at_ : Int32) (fs : Int64) (tx : Nat → Nat) (p lo hi en : Nat) (hty9 : ty ≤ 200) (hp : p < 1000) (htx : ∀ j, tx j < 127) (hlo : lo ≤ 10) (hhi : hi ≤ 10) (hen : en ≠ 32 ∧ en < 1000) (hok : ¬ (dig (chf tx ty) p ∧ chf tx ty (p + nln (chf tx ty) p) = en ∧ lo ≤ nvl (chf tx ty) p ∧ nvl (chf tx ty) p ≤ hi)) : Ct lq D t yX5_number cX5_number 6 (some .int) rm_X5_numbern [.ref mq, .int (nI lo), .int (nI hi), .int (nI en)] [eX5 mq mT (nI ty) mD mS (nI ev) mP (nI kn) mI (nI kp) mE (nI sg) (nI p) mH mX mR mO fs, eI t mT 200 (nf tx)] 0 0 (fun rv rw_ => ∃ (at2 : Int32), rv = some (.int (-1)) ∧ rw_ = [eX5 mq mT (nI ty) mD mS (nI ev) mP (nI kn) mI (nI kp) mE (nI sg) at2 mH mX mR mO fs, eI t mT 200 (nf tx)]) := by
  refine Ct.of (by decide) (Nat.le_of_ble_eq_true rfl) (fun k X hRet => ?_)
  have X : zX D t k cX5_number 6 RX5 "number" rm_X5_numbern lq := X
  refine z_eq (lv2 := [(0, .ref mq), (1, .int (nI lo)), (2, .int (nI hi)), (3, .int (nI en))]) rfl rfl rfl ?_
  have hn1 := nln_le (chf tx ty) p
  refine z_aload_n X (pc := 0) 0 dX5_number_0 rfl ?_
  refine z_aload_n X (pc := 1) 0 dX5_number_1 rfl ?_
  refine z_get X (pc := 2) 0 11 (.int (nI p)) tu_5 tw_570 dX5_number_2 rfl rfl (by decide) rfl rfl ?_
  refine zc_V (as := [.int (nI p)]) X (pc := 5) (c_X5_letterAt lq D t mq mT mD mS mP mI mE mH mX mR mO ty ev kn kp sg (nI p) fs tx p (by omega) (by omega)) tw_642 tw_645 tw_7 tw_644 tw_1028 0 5 rfl rfl [0, 1] rfl rfl dX5_number_5 rfl zdX5_letterAt ⟨rfl, rfl, Nat.le_of_ble_eq_true rfl, Nat.le_of_ble_eq_true rfl⟩ (Nat.le_of_ble_eq_true rfl) (Nat.zero_le _) (Nat.zero_le _) (fun v_1 w_2 hp_3 => ?_)
  obtain ⟨rfl, rfl⟩ := hp_3
  refine ⟨rfl, ?_⟩
  refine z_eq (ws2 := [eX5 mq mT (nI ty) mD mS (nI ev) mP (nI kn) mI (nI kp) mE (nI sg) (nI p) mH mX mR mO fs, eI t mT 200 (nf tx)]) (st2 := [.int (lta tx ty p)]) rfl rfl rfl ?_
  refine zc_S (as := [.int (lta tx ty p)]) X (pc := 8) (c_X5_isFigure lq D t (lta tx ty p) ) tw_646 tw_648 tw_7 tw_647 [] rfl rfl dX5_number_8 rfl zdX5_isFigure ⟨rfl, rfl, Nat.le_of_ble_eq_true rfl, Nat.le_of_ble_eq_true rfl⟩ (Nat.le_of_ble_eq_true rfl) (Nat.zero_le _) (Nat.zero_le _) (fun v_4 w_5 hp_6 => ?_)
  obtain ⟨rfl, rfl⟩ := hp_6
  refine ⟨rfl, ?_⟩
  refine z_eq (ws2 := [eX5 mq mT (nI ty) mD mS (nI ev) mP (nI kn) mI (nI kp) mE (nI sg) (nI p) mH mX mR mO fs, eI t mT 200 (nf tx)]) (st2 := [.int (zb (nI 48 ≤ (lta tx ty p) ∧ (lta tx ty p) ≤ nI 57))]) rfl rfl rfl ?_
  refine z_if_neB X (pc := 11) 16 dX5_number_11 (by decide) (fun c_11 => ?_) (fun c_11 => ?_)
  · skip
    have hd1 := (lta_fig htx).mp c_11
    obtain ⟨hd8, hd9⟩ := id hd1
    refine z_aload_n X (pc := 16) 0 dX5_number_16 rfl ?_
    refine z_aload_n X (pc := 17) 0 dX5_number_17 rfl ?_
    refine z_get X (pc := 18) 0 11 (.int (nI p)) tu_5 tw_570 dX5_number_18 rfl rfl (by decide) rfl rfl ?_
    refine zc_V (as := [.int (nI p)]) X (pc := 21) (c_X5_letterAt lq D t mq mT mD mS mP mI mE mH mX mR mO ty ev kn kp sg (nI p) fs tx p (by omega) (by omega)) tw_642 tw_645 tw_7 tw_644 tw_1028 0 5 rfl rfl [0, 1] rfl rfl dX5_number_21 rfl zdX5_letterAt ⟨rfl, rfl, Nat.le_of_ble_eq_true rfl, Nat.le_of_ble_eq_true rfl⟩ (Nat.le_of_ble_eq_true rfl) (Nat.zero_le _) (Nat.zero_le _) (fun v_7 w_8 hp_9 => ?_)
    obtain ⟨rfl, rfl⟩ := hp_9
    refine ⟨rfl, ?_⟩
    refine z_eq (ws2 := [eX5 mq mT (nI ty) mD mS (nI ev) mP (nI kn) mI (nI kp) mE (nI sg) (nI p) mH mX mR mO fs, eI t mT 200 (nf tx)]) (st2 := [.int (lta tx ty p)]) rfl rfl rfl ?_
    refine z_topi (nI (chf tx ty p)) (lta_dig hd1) ?_
    refine z_bipush X (pc := 24) (nI 48) dX5_number_24 (by decide) ?_
    refine z_isub X (pc := 26) (v := (nI ((chf tx ty p) - 48))) dX5_number_26 (pk_sub (by omega)) ?_
    refine z_istore X (pc := 27) (i := 4) [(4, .int (nI ((chf tx ty p) - 48))), (0, .ref mq), (1, .int (nI lo)), (2, .int (nI hi)), (3, .int (nI en))] dX5_number_27 trivial (by decide) rfl ?_
    have hch := @chf_lt tx ty p htx
    have hch2 := @chf_lt tx ty (p + 1) htx
    refine z_aload_n X (pc := 29) 1 dX5_number_29 rfl ?_
    refine z_dup X (pc := 30) dX5_number_30 rfl ?_
    refine z_get X (pc := 31) 0 11 (.int (nI p)) tu_5 tw_570 dX5_number_31 rfl rfl (by decide) rfl rfl ?_
    refine z_iconst X (pc := 34) (nI 1) dX5_number_34 (by decide) ?_
    refine z_iadd X (pc := 35) (v := (nI (p + 1))) dX5_number_35 (nI_add p 1) ?_
    refine z_put X (pc := 36) 0 11 [eX5 mq mT (nI ty) mD mS (nI ev) mP (nI kn) mI (nI kp) mE (nI sg) (nI (p + 1)) mH mX mR mO fs, eI t mT 200 (nf tx)] tu_5 tyX5_ok nmX5 tw_570 dX5_number_36 rfl rfl (by decide) rfl rfl rfl rfl (Nat.le_of_ble_eq_true rfl) rfl ?_
    by_cases hd2 : dig (chf tx ty) (p + 1)
    · skip
      have hln : nln (chf tx ty) p = 2 := by rw [nln, if_pos hd2]
      have hnv9 : nvl (chf tx ty) p = 10 * (chf tx ty p - 48) + (chf tx ty (p + 1) - 48) := by rw [nvl, if_pos hd2]
      obtain ⟨hd3, hd4⟩ := id hd2
      refine z_aload_n X (pc := 39) 1 dX5_number_39 rfl ?_
      refine z_aload_n X (pc := 40) 1 dX5_number_40 rfl ?_
      refine z_get X (pc := 41) 0 11 (.int (nI (p + 1))) tu_5 tw_570 dX5_number_41 rfl rfl (by decide) rfl rfl ?_
      refine zc_V (as := [.int (nI (p + 1))]) X (pc := 44) (c_X5_letterAt lq D t mq mT mD mS mP mI mE mH mX mR mO ty ev kn kp sg (nI (p + 1)) fs tx (p + 1) (by omega) (by omega)) tw_642 tw_645 tw_7 tw_644 tw_1028 0 5 rfl rfl [0, 1] rfl rfl dX5_number_44 rfl zdX5_letterAt ⟨rfl, rfl, Nat.le_of_ble_eq_true rfl, Nat.le_of_ble_eq_true rfl⟩ (Nat.le_of_ble_eq_true rfl) (Nat.zero_le _) (Nat.zero_le _) (fun v_10 w_11 hp_12 => ?_)
      obtain ⟨rfl, rfl⟩ := hp_12
      refine ⟨rfl, ?_⟩
      refine z_eq (ws2 := [eX5 mq mT (nI ty) mD mS (nI ev) mP (nI kn) mI (nI kp) mE (nI sg) (nI (p + 1)) mH mX mR mO fs, eI t mT 200 (nf tx)]) (st2 := [.int (lta tx ty (p + 1))]) rfl rfl rfl ?_
      refine zc_S (as := [.int (lta tx ty (p + 1))]) X (pc := 47) (c_X5_isFigure lq D t (lta tx ty (p + 1)) ) tw_646 tw_648 tw_7 tw_647 [] rfl rfl dX5_number_47 rfl zdX5_isFigure ⟨rfl, rfl, Nat.le_of_ble_eq_true rfl, Nat.le_of_ble_eq_true rfl⟩ (Nat.le_of_ble_eq_true rfl) (Nat.zero_le _) (Nat.zero_le _) (fun v_13 w_14 hp_15 => ?_)
      obtain ⟨rfl, rfl⟩ := hp_15
      refine ⟨rfl, ?_⟩
      refine z_eq (ws2 := [eX5 mq mT (nI ty) mD mS (nI ev) mP (nI kn) mI (nI kp) mE (nI sg) (nI (p + 1)) mH mX mR mO fs, eI t mT 200 (nf tx)]) (st2 := [.int (zb (nI 48 ≤ (lta tx ty (p + 1)) ∧ (lta tx ty (p + 1)) ≤ nI 57))]) rfl rfl rfl ?_
      refine z_if_eqB X (pc := 50) 82 dX5_number_50 (by decide) (fun c_50 => absurd c_50 (fun z => z ((lta_fig htx).mpr hd2))) (fun c_50 => ?_)
      refine z_bipush X (pc := 53) (nI 10) dX5_number_53 (by decide) ?_
      refine z_iload X (pc := 55) 0 dX5_number_55 rfl ?_
      refine z_imul X (pc := 57) (v := (nI (10 * ((chf tx ty p) - 48)))) dX5_number_57 (pk_mul _ _) ?_
      refine z_aload_n X (pc := 58) 1 dX5_number_58 rfl ?_
      refine z_aload_n X (pc := 59) 1 dX5_number_59 rfl ?_
      refine z_get X (pc := 60) 0 11 (.int (nI (p + 1))) tu_5 tw_570 dX5_number_60 rfl rfl (by decide) rfl rfl ?_
      refine zc_V (as := [.int (nI (p + 1))]) X (pc := 63) (c_X5_letterAt lq D t mq mT mD mS mP mI mE mH mX mR mO ty ev kn kp sg (nI (p + 1)) fs tx (p + 1) (by omega) (by omega)) tw_642 tw_645 tw_7 tw_644 tw_1028 0 5 rfl rfl [0, 1] rfl rfl dX5_number_63 rfl zdX5_letterAt ⟨rfl, rfl, Nat.le_of_ble_eq_true rfl, Nat.le_of_ble_eq_true rfl⟩ (Nat.le_of_ble_eq_true rfl) (Nat.zero_le _) (Nat.zero_le _) (fun v_16 w_17 hp_18 => ?_)
      obtain ⟨rfl, rfl⟩ := hp_18
      refine ⟨rfl, ?_⟩
      refine z_eq (ws2 := [eX5 mq mT (nI ty) mD mS (nI ev) mP (nI kn) mI (nI kp) mE (nI sg) (nI (p + 1)) mH mX mR mO fs, eI t mT 200 (nf tx)]) (st2 := [.int (lta tx ty (p + 1)), .int (nI (10 * ((chf tx ty p) - 48)))]) rfl rfl rfl ?_
      refine z_topi (nI (chf tx ty (p + 1))) (lta_dig hd2) ?_
      refine z_iadd X (pc := 66) (v := (nI ((10 * ((chf tx ty p) - 48)) + (chf tx ty (p + 1))))) dX5_number_66 (nI_add (10 * ((chf tx ty p) - 48)) (chf tx ty (p + 1))) ?_
      refine z_bipush X (pc := 67) (nI 48) dX5_number_67 (by decide) ?_
      refine z_isub X (pc := 69) (v := (nI (((10 * ((chf tx ty p) - 48)) + (chf tx ty (p + 1))) - 48))) dX5_number_69 (pk_sub (by omega)) ?_
      refine z_topi (nI (nvl (chf tx ty) p)) (by rw [hnv9]; congr 1; omega) ?_
      refine z_istore X (pc := 70) (i := 4) [(4, .int (nI (nvl (chf tx ty) p))), (0, .ref mq), (1, .int (nI lo)), (2, .int (nI hi)), (3, .int (nI en))] dX5_number_70 trivial (by decide) rfl ?_
      refine z_aload_n X (pc := 72) 1 dX5_number_72 rfl ?_
      refine z_dup X (pc := 73) dX5_number_73 rfl ?_
      refine z_get X (pc := 74) 0 11 (.int (nI (p + 1))) tu_5 tw_570 dX5_number_74 rfl rfl (by decide) rfl rfl ?_
      refine z_iconst X (pc := 77) (nI 1) dX5_number_77 (by decide) ?_
      refine z_iadd X (pc := 78) (v := (nI (p + 1 + 1))) dX5_number_78 (nI_add (p + 1) 1) ?_
      refine z_put X (pc := 79) 0 11 [eX5 mq mT (nI ty) mD mS (nI ev) mP (nI kn) mI (nI kp) mE (nI sg) (nI (p + 1 + 1)) mH mX mR mO fs, eI t mT 200 (nf tx)] tu_5 tyX5_ok nmX5 tw_570 dX5_number_79 rfl rfl (by decide) rfl rfl rfl rfl (Nat.le_of_ble_eq_true rfl) rfl ?_
      refine z_eq (ws2 := [eX5 mq mT (nI ty) mD mS (nI ev) mP (nI kn) mI (nI kp) mE (nI sg) (nI (p + nln (chf tx ty) p)) mH mX mR mO fs, eI t mT 200 (nf tx)]) (lv2 := [(4, .int (nI (nvl (chf tx ty) p))), (0, .ref mq), (1, .int (nI lo)), (2, .int (nI hi)), (3, .int (nI en))]) (by rw [hln]) (by first | rfl | rw [hnv9]) rfl ?_
      have hnv := nvl_le hd1
      refine z_aload_n X (pc := 82) 1 dX5_number_82 rfl ?_
      refine z_aload_n X (pc := 83) 1 dX5_number_83 rfl ?_
      refine z_get X (pc := 84) 0 11 (.int (nI (p + nln (chf tx ty) p))) tu_5 tw_570 dX5_number_84 rfl rfl (by decide) rfl rfl ?_
      refine zc_V (as := [.int (nI (p + nln (chf tx ty) p))]) X (pc := 87) (c_X5_letterAt lq D t mq mT mD mS mP mI mE mH mX mR mO ty ev kn kp sg (nI (p + nln (chf tx ty) p)) fs tx (p + nln (chf tx ty) p) (by omega) (by omega)) tw_642 tw_645 tw_7 tw_644 tw_1028 0 5 rfl rfl [0, 1] rfl rfl dX5_number_87 rfl zdX5_letterAt ⟨rfl, rfl, Nat.le_of_ble_eq_true rfl, Nat.le_of_ble_eq_true rfl⟩ (Nat.le_of_ble_eq_true rfl) (Nat.zero_le _) (Nat.zero_le _) (fun v_19 w_20 hp_21 => ?_)
      obtain ⟨rfl, rfl⟩ := hp_21
      refine ⟨rfl, ?_⟩
      refine z_eq (ws2 := [eX5 mq mT (nI ty) mD mS (nI ev) mP (nI kn) mI (nI kp) mE (nI sg) (nI (p + nln (chf tx ty) p)) mH mX mR mO fs, eI t mT 200 (nf tx)]) (st2 := [.int (lta tx ty (p + nln (chf tx ty) p))]) rfl rfl rfl ?_
      refine z_iload_n X (pc := 90) 4 dX5_number_90 rfl ?_
      refine z_icmp_ne X (pc := 91) 108 dX5_number_91 (by decide) (fun c_91 => ?_) (fun c_91 => ?_)
      · skip
        refine z_iconst X (pc := 108) (nI 0) dX5_number_108 (by decide) ?_
        refine z_istore X (pc := 109) (i := 5) [(5, .int (nI 0)), (4, .int (nI (nvl (chf tx ty) p))), (0, .ref mq), (1, .int (nI lo)), (2, .int (nI hi)), (3, .int (nI en))] dX5_number_109 trivial (by decide) rfl ?_
        refine z_aload_n X (pc := 111) 2 dX5_number_111 rfl ?_
        refine z_dup X (pc := 112) dX5_number_112 rfl ?_
        refine z_get X (pc := 113) 0 11 (.int (nI (p + nln (chf tx ty) p))) tu_5 tw_570 dX5_number_113 rfl rfl (by decide) rfl rfl ?_
        refine z_iconst X (pc := 116) (nI 1) dX5_number_116 (by decide) ?_
        refine z_iadd X (pc := 117) (v := (nI (p + nln (chf tx ty) p + 1))) dX5_number_117 (nI_add (p + nln (chf tx ty) p) 1) ?_
        refine z_put X (pc := 118) 0 11 [eX5 mq mT (nI ty) mD mS (nI ev) mP (nI kn) mI (nI kp) mE (nI sg) (nI (p + nln (chf tx ty) p + 1)) mH mX mR mO fs, eI t mT 200 (nf tx)] tu_5 tyX5_ok nmX5 tw_570 dX5_number_118 rfl rfl (by decide) rfl rfl rfl rfl (Nat.le_of_ble_eq_true rfl) rfl ?_
        refine z_iload X (pc := 121) 0 dX5_number_121 rfl ?_
        refine z_if_eqN X (pc := 123) 131 (by omega) dX5_number_123 (by decide) (fun c_123 => ?_) (fun c_123 => absurd c_123 (by decide))
        refine z_iconst X (pc := 131) (-1) dX5_number_131 (by decide) ?_
        exact hRet.i dX5_number_132 ⟨(nI (p + nln (chf tx ty) p + 1)), rfl, rfl⟩
      · skip
        have hok2 := (lta_eq htx hen.1 (by omega)).mp c_91
        refine z_iload X (pc := 94) 0 dX5_number_94 rfl ?_
        refine z_iload_n X (pc := 96) 2 dX5_number_96 rfl ?_
        refine z_iload_n X (pc := 97) 3 dX5_number_97 rfl ?_
        refine zc_S (as := [.int (nI (nvl (chf tx ty) p)), .int (nI lo), .int (nI hi)]) X (pc := 98) (c_X5_inN lq D t (nvl (chf tx ty) p) lo hi (by omega) (by omega) (by omega)) tw_615 tw_617 tw_7 tw_616 [] rfl rfl dX5_number_98 rfl zdX5_in ⟨rfl, rfl, Nat.le_of_ble_eq_true rfl, Nat.le_of_ble_eq_true rfl⟩ (Nat.le_of_ble_eq_true rfl) (Nat.zero_le _) (Nat.zero_le _) (fun v_22 w_23 hp_24 => ?_)
        obtain ⟨rfl, rfl⟩ := hp_24
        refine ⟨rfl, ?_⟩
        refine z_eq (ws2 := [eX5 mq mT (nI ty) mD mS (nI ev) mP (nI kn) mI (nI kp) mE (nI sg) (nI (p + nln (chf tx ty) p)) mH mX mR mO fs, eI t mT 200 (nf tx)]) (st2 := [.int (zb (lo ≤ (nvl (chf tx ty) p) ∧ (nvl (chf tx ty) p) ≤ hi))]) rfl rfl rfl ?_
        refine z_if_eqB X (pc := 101) 108 dX5_number_101 (by decide) (fun c_101 => ?_) (fun c_101 => ?_)
        · skip
          refine z_iconst X (pc := 108) (nI 0) dX5_number_108 (by decide) ?_
          refine z_istore X (pc := 109) (i := 5) [(5, .int (nI 0)), (4, .int (nI (nvl (chf tx ty) p))), (0, .ref mq), (1, .int (nI lo)), (2, .int (nI hi)), (3, .int (nI en))] dX5_number_109 trivial (by decide) rfl ?_
          refine z_aload_n X (pc := 111) 2 dX5_number_111 rfl ?_
          refine z_dup X (pc := 112) dX5_number_112 rfl ?_
          refine z_get X (pc := 113) 0 11 (.int (nI (p + nln (chf tx ty) p))) tu_5 tw_570 dX5_number_113 rfl rfl (by decide) rfl rfl ?_
          refine z_iconst X (pc := 116) (nI 1) dX5_number_116 (by decide) ?_
          refine z_iadd X (pc := 117) (v := (nI (p + nln (chf tx ty) p + 1))) dX5_number_117 (nI_add (p + nln (chf tx ty) p) 1) ?_
          refine z_put X (pc := 118) 0 11 [eX5 mq mT (nI ty) mD mS (nI ev) mP (nI kn) mI (nI kp) mE (nI sg) (nI (p + nln (chf tx ty) p + 1)) mH mX mR mO fs, eI t mT 200 (nf tx)] tu_5 tyX5_ok nmX5 tw_570 dX5_number_118 rfl rfl (by decide) rfl rfl rfl rfl (Nat.le_of_ble_eq_true rfl) rfl ?_
          refine z_iload X (pc := 121) 0 dX5_number_121 rfl ?_
          refine z_if_eqN X (pc := 123) 131 (by omega) dX5_number_123 (by decide) (fun c_123 => ?_) (fun c_123 => absurd c_123 (by decide))
          refine z_iconst X (pc := 131) (-1) dX5_number_131 (by decide) ?_
          exact hRet.i dX5_number_132 ⟨(nI (p + nln (chf tx ty) p + 1)), rfl, rfl⟩
        · skip
          exact absurd ⟨hd1, hok2, c_101.1, c_101.2⟩ hok
    · skip
      have hln : nln (chf tx ty) p = 1 := by rw [nln, if_neg hd2]
      have hnv9 : nvl (chf tx ty) p = chf tx ty p - 48 := by rw [nvl, if_neg hd2]
      refine z_aload_n X (pc := 39) 1 dX5_number_39 rfl ?_
      refine z_aload_n X (pc := 40) 1 dX5_number_40 rfl ?_
      refine z_get X (pc := 41) 0 11 (.int (nI (p + 1))) tu_5 tw_570 dX5_number_41 rfl rfl (by decide) rfl rfl ?_
      refine zc_V (as := [.int (nI (p + 1))]) X (pc := 44) (c_X5_letterAt lq D t mq mT mD mS mP mI mE mH mX mR mO ty ev kn kp sg (nI (p + 1)) fs tx (p + 1) (by omega) (by omega)) tw_642 tw_645 tw_7 tw_644 tw_1028 0 5 rfl rfl [0, 1] rfl rfl dX5_number_44 rfl zdX5_letterAt ⟨rfl, rfl, Nat.le_of_ble_eq_true rfl, Nat.le_of_ble_eq_true rfl⟩ (Nat.le_of_ble_eq_true rfl) (Nat.zero_le _) (Nat.zero_le _) (fun v_25 w_26 hp_27 => ?_)
      obtain ⟨rfl, rfl⟩ := hp_27
      refine ⟨rfl, ?_⟩
      refine z_eq (ws2 := [eX5 mq mT (nI ty) mD mS (nI ev) mP (nI kn) mI (nI kp) mE (nI sg) (nI (p + 1)) mH mX mR mO fs, eI t mT 200 (nf tx)]) (st2 := [.int (lta tx ty (p + 1))]) rfl rfl rfl ?_
      refine zc_S (as := [.int (lta tx ty (p + 1))]) X (pc := 47) (c_X5_isFigure lq D t (lta tx ty (p + 1)) ) tw_646 tw_648 tw_7 tw_647 [] rfl rfl dX5_number_47 rfl zdX5_isFigure ⟨rfl, rfl, Nat.le_of_ble_eq_true rfl, Nat.le_of_ble_eq_true rfl⟩ (Nat.le_of_ble_eq_true rfl) (Nat.zero_le _) (Nat.zero_le _) (fun v_28 w_29 hp_30 => ?_)
      obtain ⟨rfl, rfl⟩ := hp_30
      refine ⟨rfl, ?_⟩
      refine z_eq (ws2 := [eX5 mq mT (nI ty) mD mS (nI ev) mP (nI kn) mI (nI kp) mE (nI sg) (nI (p + 1)) mH mX mR mO fs, eI t mT 200 (nf tx)]) (st2 := [.int (zb (nI 48 ≤ (lta tx ty (p + 1)) ∧ (lta tx ty (p + 1)) ≤ nI 57))]) rfl rfl rfl ?_
      refine z_if_eqB X (pc := 50) 82 dX5_number_50 (by decide) (fun c_50 => ?_) (fun c_50 => absurd c_50 (fun z => hd2 ((lta_fig htx).mp z)))
      refine z_eq (ws2 := [eX5 mq mT (nI ty) mD mS (nI ev) mP (nI kn) mI (nI kp) mE (nI sg) (nI (p + nln (chf tx ty) p)) mH mX mR mO fs, eI t mT 200 (nf tx)]) (lv2 := [(4, .int (nI (nvl (chf tx ty) p))), (0, .ref mq), (1, .int (nI lo)), (2, .int (nI hi)), (3, .int (nI en))]) (by rw [hln]) (by first | rfl | rw [hnv9]) rfl ?_
      have hnv := nvl_le hd1
      refine z_aload_n X (pc := 82) 1 dX5_number_82 rfl ?_
      refine z_aload_n X (pc := 83) 1 dX5_number_83 rfl ?_
      refine z_get X (pc := 84) 0 11 (.int (nI (p + nln (chf tx ty) p))) tu_5 tw_570 dX5_number_84 rfl rfl (by decide) rfl rfl ?_
      refine zc_V (as := [.int (nI (p + nln (chf tx ty) p))]) X (pc := 87) (c_X5_letterAt lq D t mq mT mD mS mP mI mE mH mX mR mO ty ev kn kp sg (nI (p + nln (chf tx ty) p)) fs tx (p + nln (chf tx ty) p) (by omega) (by omega)) tw_642 tw_645 tw_7 tw_644 tw_1028 0 5 rfl rfl [0, 1] rfl rfl dX5_number_87 rfl zdX5_letterAt ⟨rfl, rfl, Nat.le_of_ble_eq_true rfl, Nat.le_of_ble_eq_true rfl⟩ (Nat.le_of_ble_eq_true rfl) (Nat.zero_le _) (Nat.zero_le _) (fun v_31 w_32 hp_33 => ?_)
      obtain ⟨rfl, rfl⟩ := hp_33
      refine ⟨rfl, ?_⟩
      refine z_eq (ws2 := [eX5 mq mT (nI ty) mD mS (nI ev) mP (nI kn) mI (nI kp) mE (nI sg) (nI (p + nln (chf tx ty) p)) mH mX mR mO fs, eI t mT 200 (nf tx)]) (st2 := [.int (lta tx ty (p + nln (chf tx ty) p))]) rfl rfl rfl ?_
      refine z_iload_n X (pc := 90) 4 dX5_number_90 rfl ?_
      refine z_icmp_ne X (pc := 91) 108 dX5_number_91 (by decide) (fun c_91 => ?_) (fun c_91 => ?_)
      · skip
        refine z_iconst X (pc := 108) (nI 0) dX5_number_108 (by decide) ?_
        refine z_istore X (pc := 109) (i := 5) [(5, .int (nI 0)), (4, .int (nI (nvl (chf tx ty) p))), (0, .ref mq), (1, .int (nI lo)), (2, .int (nI hi)), (3, .int (nI en))] dX5_number_109 trivial (by decide) rfl ?_
        refine z_aload_n X (pc := 111) 2 dX5_number_111 rfl ?_
        refine z_dup X (pc := 112) dX5_number_112 rfl ?_
        refine z_get X (pc := 113) 0 11 (.int (nI (p + nln (chf tx ty) p))) tu_5 tw_570 dX5_number_113 rfl rfl (by decide) rfl rfl ?_
        refine z_iconst X (pc := 116) (nI 1) dX5_number_116 (by decide) ?_
        refine z_iadd X (pc := 117) (v := (nI (p + nln (chf tx ty) p + 1))) dX5_number_117 (nI_add (p + nln (chf tx ty) p) 1) ?_
        refine z_put X (pc := 118) 0 11 [eX5 mq mT (nI ty) mD mS (nI ev) mP (nI kn) mI (nI kp) mE (nI sg) (nI (p + nln (chf tx ty) p + 1)) mH mX mR mO fs, eI t mT 200 (nf tx)] tu_5 tyX5_ok nmX5 tw_570 dX5_number_118 rfl rfl (by decide) rfl rfl rfl rfl (Nat.le_of_ble_eq_true rfl) rfl ?_
        refine z_iload X (pc := 121) 0 dX5_number_121 rfl ?_
        refine z_if_eqN X (pc := 123) 131 (by omega) dX5_number_123 (by decide) (fun c_123 => ?_) (fun c_123 => absurd c_123 (by decide))
        refine z_iconst X (pc := 131) (-1) dX5_number_131 (by decide) ?_
        exact hRet.i dX5_number_132 ⟨(nI (p + nln (chf tx ty) p + 1)), rfl, rfl⟩
      · skip
        have hok2 := (lta_eq htx hen.1 (by omega)).mp c_91
        refine z_iload X (pc := 94) 0 dX5_number_94 rfl ?_
        refine z_iload_n X (pc := 96) 2 dX5_number_96 rfl ?_
        refine z_iload_n X (pc := 97) 3 dX5_number_97 rfl ?_
        refine zc_S (as := [.int (nI (nvl (chf tx ty) p)), .int (nI lo), .int (nI hi)]) X (pc := 98) (c_X5_inN lq D t (nvl (chf tx ty) p) lo hi (by omega) (by omega) (by omega)) tw_615 tw_617 tw_7 tw_616 [] rfl rfl dX5_number_98 rfl zdX5_in ⟨rfl, rfl, Nat.le_of_ble_eq_true rfl, Nat.le_of_ble_eq_true rfl⟩ (Nat.le_of_ble_eq_true rfl) (Nat.zero_le _) (Nat.zero_le _) (fun v_34 w_35 hp_36 => ?_)
        obtain ⟨rfl, rfl⟩ := hp_36
        refine ⟨rfl, ?_⟩
        refine z_eq (ws2 := [eX5 mq mT (nI ty) mD mS (nI ev) mP (nI kn) mI (nI kp) mE (nI sg) (nI (p + nln (chf tx ty) p)) mH mX mR mO fs, eI t mT 200 (nf tx)]) (st2 := [.int (zb (lo ≤ (nvl (chf tx ty) p) ∧ (nvl (chf tx ty) p) ≤ hi))]) rfl rfl rfl ?_
        refine z_if_eqB X (pc := 101) 108 dX5_number_101 (by decide) (fun c_101 => ?_) (fun c_101 => ?_)
        · skip
          refine z_iconst X (pc := 108) (nI 0) dX5_number_108 (by decide) ?_
          refine z_istore X (pc := 109) (i := 5) [(5, .int (nI 0)), (4, .int (nI (nvl (chf tx ty) p))), (0, .ref mq), (1, .int (nI lo)), (2, .int (nI hi)), (3, .int (nI en))] dX5_number_109 trivial (by decide) rfl ?_
          refine z_aload_n X (pc := 111) 2 dX5_number_111 rfl ?_
          refine z_dup X (pc := 112) dX5_number_112 rfl ?_
          refine z_get X (pc := 113) 0 11 (.int (nI (p + nln (chf tx ty) p))) tu_5 tw_570 dX5_number_113 rfl rfl (by decide) rfl rfl ?_
          refine z_iconst X (pc := 116) (nI 1) dX5_number_116 (by decide) ?_
          refine z_iadd X (pc := 117) (v := (nI (p + nln (chf tx ty) p + 1))) dX5_number_117 (nI_add (p + nln (chf tx ty) p) 1) ?_
          refine z_put X (pc := 118) 0 11 [eX5 mq mT (nI ty) mD mS (nI ev) mP (nI kn) mI (nI kp) mE (nI sg) (nI (p + nln (chf tx ty) p + 1)) mH mX mR mO fs, eI t mT 200 (nf tx)] tu_5 tyX5_ok nmX5 tw_570 dX5_number_118 rfl rfl (by decide) rfl rfl rfl rfl (Nat.le_of_ble_eq_true rfl) rfl ?_
          refine z_iload X (pc := 121) 0 dX5_number_121 rfl ?_
          refine z_if_eqN X (pc := 123) 131 (by omega) dX5_number_123 (by decide) (fun c_123 => ?_) (fun c_123 => absurd c_123 (by decide))
          refine z_iconst X (pc := 131) (-1) dX5_number_131 (by decide) ?_
          exact hRet.i dX5_number_132 ⟨(nI (p + nln (chf tx ty) p + 1)), rfl, rfl⟩
        · skip
          exact absurd ⟨hd1, hok2, c_101.1, c_101.2⟩ hok
  · skip
    refine z_iconst X (pc := 14) (-1) dX5_number_14 (by decide) ?_
    exact hRet.i dX5_number_15 ⟨(nI p), rfl, rfl⟩

abbrev rm_X5_begins : Room := { frames := 0, cells := 0, slots := 0, locals := 0 }
set_option maxHeartbeats 4000000 in
set_option maxRecDepth 100000 in
theorem c_X5_begins (lq : Launch) (D : va_G) (t : zT) (mq mT mD mS mP mI mE mH mX mR mO ty ev kn kp sg : Nat) (at_ : Int32) (fs : Int64) (f : Nat → Int32)  : Ct lq D t yX5_begins cX5_begins 1 none rm_X5_begins [.ref mq] [eX5 mq mT (nI ty) mD mS (nI ev) mP (nI kn) mI (nI kp) mE (nI sg) at_ mH mX mR mO fs, eI t mD 6 f] 0 0 (fun rv rw_ => rv = none ∧ rw_ = [eX5 mq mT (nI ty) mD mS (nI ev) mP (nI kn) mI (nI kp) mE (nI sg) at_ mH mX mR mO fs, eI t mD 6 (nf d0)]) := by
  refine Ct.of (by decide) (Nat.le_of_ble_eq_true rfl) (fun k X hRet => ?_)
  have X : zX D t k cX5_begins 1 RX5 "begins" rm_X5_begins lq := X
  refine z_eq (lv2 := [(0, .ref mq)]) rfl rfl rfl ?_
  refine z_aload_n X (pc := 0) 0 dX5_begins_0 rfl ?_
  refine z_get X (pc := 1) 0 2 (.ref mD) tu_5 tw_561 dX5_begins_1 rfl rfl (by decide) rfl rfl ?_
  refine z_iconst X (pc := 4) (nI 0) dX5_begins_4 (by decide) ?_
  refine z_bipush X (pc := 5) (nI 10) dX5_begins_5 (by decide) ?_
  refine z_iast X (pc := 7) 1 0 (upd f 0 (nI 10)) [eX5 mq mT (nI ty) mD mS (nI ev) mP (nI kn) mI (nI kp) mE (nI sg) at_ mH mX mR mO fs, eI t mD 6 (upd f 0 (nI 10))] dX5_begins_7 rfl rfl (Nat.le_of_ble_eq_true rfl) (by omega) rfl rfl ?_
  refine z_aload_n X (pc := 8) 0 dX5_begins_8 rfl ?_
  refine z_get X (pc := 9) 0 2 (.ref mD) tu_5 tw_561 dX5_begins_9 rfl rfl (by decide) rfl rfl ?_
  refine z_iconst X (pc := 12) (nI 1) dX5_begins_12 (by decide) ?_
  refine z_bipush X (pc := 13) (nI 10) dX5_begins_13 (by decide) ?_
  refine z_iast X (pc := 15) 1 1 (upd (upd f 0 (nI 10)) 1 (nI 10)) [eX5 mq mT (nI ty) mD mS (nI ev) mP (nI kn) mI (nI kp) mE (nI sg) at_ mH mX mR mO fs, eI t mD 6 (upd (upd f 0 (nI 10)) 1 (nI 10))] dX5_begins_15 rfl rfl (Nat.le_of_ble_eq_true rfl) (by omega) rfl rfl ?_
  refine z_aload_n X (pc := 16) 0 dX5_begins_16 rfl ?_
  refine z_get X (pc := 17) 0 2 (.ref mD) tu_5 tw_561 dX5_begins_17 rfl rfl (by decide) rfl rfl ?_
  refine z_iconst X (pc := 20) (nI 2) dX5_begins_20 (by decide) ?_
  refine z_iconst X (pc := 21) (nI 2) dX5_begins_21 (by decide) ?_
  refine z_iast X (pc := 22) 1 2 (upd (upd (upd f 0 (nI 10)) 1 (nI 10)) 2 (nI 2)) [eX5 mq mT (nI ty) mD mS (nI ev) mP (nI kn) mI (nI kp) mE (nI sg) at_ mH mX mR mO fs, eI t mD 6 (upd (upd (upd f 0 (nI 10)) 1 (nI 10)) 2 (nI 2))] dX5_begins_22 rfl rfl (Nat.le_of_ble_eq_true rfl) (by omega) rfl rfl ?_
  refine z_aload_n X (pc := 23) 0 dX5_begins_23 rfl ?_
  refine z_get X (pc := 24) 0 2 (.ref mD) tu_5 tw_561 dX5_begins_24 rfl rfl (by decide) rfl rfl ?_
  refine z_iconst X (pc := 27) (nI 3) dX5_begins_27 (by decide) ?_
  refine z_iconst X (pc := 28) (nI 0) dX5_begins_28 (by decide) ?_
  refine z_iast X (pc := 29) 1 3 (upd (upd (upd (upd f 0 (nI 10)) 1 (nI 10)) 2 (nI 2)) 3 (nI 0)) [eX5 mq mT (nI ty) mD mS (nI ev) mP (nI kn) mI (nI kp) mE (nI sg) at_ mH mX mR mO fs, eI t mD 6 (upd (upd (upd (upd f 0 (nI 10)) 1 (nI 10)) 2 (nI 2)) 3 (nI 0))] dX5_begins_29 rfl rfl (Nat.le_of_ble_eq_true rfl) (by omega) rfl rfl ?_
  refine z_aload_n X (pc := 30) 0 dX5_begins_30 rfl ?_
  refine z_get X (pc := 31) 0 2 (.ref mD) tu_5 tw_561 dX5_begins_31 rfl rfl (by decide) rfl rfl ?_
  refine z_iconst X (pc := 34) (nI 4) dX5_begins_34 (by decide) ?_
  refine z_iconst X (pc := 35) (nI 2) dX5_begins_35 (by decide) ?_
  refine z_iast X (pc := 36) 1 4 (upd (upd (upd (upd (upd f 0 (nI 10)) 1 (nI 10)) 2 (nI 2)) 3 (nI 0)) 4 (nI 2)) [eX5 mq mT (nI ty) mD mS (nI ev) mP (nI kn) mI (nI kp) mE (nI sg) at_ mH mX mR mO fs, eI t mD 6 (upd (upd (upd (upd (upd f 0 (nI 10)) 1 (nI 10)) 2 (nI 2)) 3 (nI 0)) 4 (nI 2))] dX5_begins_36 rfl rfl (Nat.le_of_ble_eq_true rfl) (by omega) rfl rfl ?_
  refine z_aload_n X (pc := 37) 0 dX5_begins_37 rfl ?_
  refine z_get X (pc := 38) 0 2 (.ref mD) tu_5 tw_561 dX5_begins_38 rfl rfl (by decide) rfl rfl ?_
  refine z_iconst X (pc := 41) (nI 5) dX5_begins_41 (by decide) ?_
  refine z_iconst X (pc := 42) (nI 3) dX5_begins_42 (by decide) ?_
  refine z_iast X (pc := 43) 1 5 (upd (upd (upd (upd (upd (upd f 0 (nI 10)) 1 (nI 10)) 2 (nI 2)) 3 (nI 0)) 4 (nI 2)) 5 (nI 3)) [eX5 mq mT (nI ty) mD mS (nI ev) mP (nI kn) mI (nI kp) mE (nI sg) at_ mH mX mR mO fs, eI t mD 6 (upd (upd (upd (upd (upd (upd f 0 (nI 10)) 1 (nI 10)) 2 (nI 2)) 3 (nI 0)) 4 (nI 2)) 5 (nI 3))] dX5_begins_43 rfl rfl (Nat.le_of_ble_eq_true rfl) (by omega) rfl rfl ?_
  refine z_irow 1 (nf d0) [eX5 mq mT (nI ty) mD mS (nI ev) mP (nI kn) mI (nI kp) mE (nI sg) at_ mH mX mR mO fs, eI t mD 6 (nf d0)] rfl (fun j hj => by rcases (show j = 0 ∨ j = 1 ∨ j = 2 ∨ j = 3 ∨ j = 4 ∨ j = 5 by omega) with rfl | rfl | rfl | rfl | rfl | rfl <;> rfl) rfl ?_
  exact hRet.v dX5_begins_44 ⟨rfl, rfl⟩

abbrev rm_X5_toLeft : Room := { frames := 0, cells := 0, slots := 0, locals := 0 }
set_option maxHeartbeats 4000000 in
set_option maxRecDepth 100000 in
theorem c_X5_toLeft (lq : Launch) (D : va_G) (t : zT) (l r la kd x : Nat) (hkd : kd ≤ 3) (hx : x ≤ 4) (hl : l < 100) (hr : r < 100) (hla : la ≤ 2) : Ct lq D t yX5_toLeft cX5_toLeft 6 (some .int) rm_X5_toLeft [.int (nI l), .int (nI r), .int (nI la), .int (nI kd), .int (nI x)] [] 0 0 (fun rv rw_ => rv = some (.int (nI (htl kd x l r la))) ∧ rw_ = []) := by
  refine Ct.of (by decide) (Nat.le_of_ble_eq_true rfl) (fun k X hRet => ?_)
  have X : zX D t k cX5_toLeft 6 RX5 "toLeft" rm_X5_toLeft lq := X
  refine z_eq (lv2 := [(0, .int (nI l)), (1, .int (nI r)), (2, .int (nI la)), (3, .int (nI kd)), (4, .int (nI x))]) rfl rfl rfl ?_
  rcases (show kd = 0 ∨ kd = 1 ∨ kd = 2 ∨ kd = 3 by omega) with rfl | rfl | rfl | rfl
  · skip
    refine z_iload_n X (pc := 0) 3 dX5_toLeft_0 rfl ?_
    refine z_if_neN X (pc := 1) 7 (by omega) dX5_toLeft_1 (by decide) (fun c_1 => absurd c_1 (by decide)) (fun c_1 => ?_)
    refine z_iload X (pc := 4) 4 dX5_toLeft_4 rfl ?_
    exact hRet.i dX5_toLeft_6 ⟨by first | rfl | (congr 3; unfold htl; (repeat' split) <;> omega), rfl⟩
  · skip
    refine z_iload_n X (pc := 0) 3 dX5_toLeft_0 rfl ?_
    refine z_if_neN X (pc := 1) 7 (by omega) dX5_toLeft_1 (by decide) (fun c_1 => ?_) (fun c_1 => absurd c_1 (by decide))
    refine z_iload_n X (pc := 7) 3 dX5_toLeft_7 rfl ?_
    refine z_iconst X (pc := 8) (nI 1) dX5_toLeft_8 (by decide) ?_
    refine z_icmp_neN X (pc := 9) 33 (by omega) (by omega) dX5_toLeft_9 (by decide) (fun c_9 => absurd c_9 (by decide)) (fun c_9 => ?_)
    refine z_iload_n X (pc := 12) 2 dX5_toLeft_12 rfl ?_
    refine z_if_neN X (pc := 13) 20 (by omega) dX5_toLeft_13 (by decide) (fun c_13 => ?_) (fun c_13 => ?_)
    · skip
      refine z_iload_n X (pc := 20) 2 dX5_toLeft_20 rfl ?_
      refine z_iconst X (pc := 21) (nI 1) dX5_toLeft_21 (by decide) ?_
      refine z_icmp_neN X (pc := 22) 29 (by omega) (by omega) dX5_toLeft_22 (by decide) (fun c_22 => ?_) (fun c_22 => ?_)
      · skip
        refine z_iconst X (pc := 29) (nI 0) dX5_toLeft_29 (by decide) ?_
        refine z_goto X (pc := 30) 52 dX5_toLeft_30 (by decide) ?_
        refine z_istore X (pc := 52) (i := 5) [(5, .int (nI 0)), (0, .int (nI l)), (1, .int (nI r)), (2, .int (nI la)), (3, .int (nI 1)), (4, .int (nI x))] dX5_toLeft_52 trivial (by decide) rfl ?_
        refine z_iload_n X (pc := 54) 4 dX5_toLeft_54 rfl ?_
        refine z_iconst X (pc := 55) (nI 2) dX5_toLeft_55 (by decide) ?_
        refine z_icmp_leN X (pc := 56) 65 (by omega) (by omega) dX5_toLeft_56 (by decide) (fun c_56 => ?_) (fun c_56 => absurd c_56 (by decide))
        refine z_iload X (pc := 65) 0 dX5_toLeft_65 rfl ?_
        refine z_istore X (pc := 67) (i := 5) [(5, .int (nI 0)), (0, .int (nI l)), (1, .int (nI r)), (2, .int (nI la)), (3, .int (nI 1)), (4, .int (nI x))] dX5_toLeft_67 trivial (by decide) rfl ?_
        refine z_iload X (pc := 69) 0 dX5_toLeft_69 rfl ?_
        refine z_if_leN X (pc := 71) 79 (by omega) dX5_toLeft_71 (by decide) (fun c_71 => ?_) (fun c_71 => absurd c_71 (by decide))
        refine z_iload X (pc := 79) 0 dX5_toLeft_79 rfl ?_
        refine z_if_geN X (pc := 81) 91 (by omega) dX5_toLeft_81 (by decide) ?_
        refine z_iconst X (pc := 91) (nI 2) dX5_toLeft_91 (by decide) ?_
        exact hRet.i dX5_toLeft_92 ⟨by first | rfl | (congr 3; unfold htl; (repeat' split) <;> omega), rfl⟩
      · skip
        refine z_iconst X (pc := 25) (-1) dX5_toLeft_25 (by decide) ?_
        refine z_goto X (pc := 26) 52 dX5_toLeft_26 (by decide) ?_
        refine z_istore X (pc := 52) (i := 5) [(5, .int (-1)), (0, .int (nI l)), (1, .int (nI r)), (2, .int (nI la)), (3, .int (nI 1)), (4, .int (nI x))] dX5_toLeft_52 trivial (by decide) rfl ?_
        refine z_iload_n X (pc := 54) 4 dX5_toLeft_54 rfl ?_
        refine z_iconst X (pc := 55) (nI 2) dX5_toLeft_55 (by decide) ?_
        refine z_icmp_leN X (pc := 56) 65 (by omega) (by omega) dX5_toLeft_56 (by decide) (fun c_56 => ?_) (fun c_56 => absurd c_56 (by decide))
        refine z_iload X (pc := 65) 0 dX5_toLeft_65 rfl ?_
        refine z_istore X (pc := 67) (i := 5) [(5, .int (-1)), (0, .int (nI l)), (1, .int (nI r)), (2, .int (nI la)), (3, .int (nI 1)), (4, .int (nI x))] dX5_toLeft_67 trivial (by decide) rfl ?_
        refine z_iload X (pc := 69) 0 dX5_toLeft_69 rfl ?_
        refine z_if_le X (pc := 71) 79 dX5_toLeft_71 (by decide) (fun c_71 => ?_) (fun c_71 => absurd c_71 (by decide))
        refine z_iload X (pc := 79) 0 dX5_toLeft_79 rfl ?_
        refine z_if_ge X (pc := 81) 91 dX5_toLeft_81 (by decide) (fun c_81 => absurd c_81 (by decide)) (fun c_81 => ?_)
        refine z_iconst X (pc := 84) (nI 4) dX5_toLeft_84 (by decide) ?_
        refine z_iload X (pc := 85) 5 dX5_toLeft_85 rfl ?_
        refine z_isub X (pc := 87) (v := (nI (4 - x))) dX5_toLeft_87 (pk_sub (by omega)) ?_
        refine z_goto X (pc := 88) 92 dX5_toLeft_88 (by decide) ?_
        exact hRet.i dX5_toLeft_92 ⟨by first | rfl | (congr 3; unfold htl; (repeat' split) <;> omega), rfl⟩
    · skip
      refine z_iconst X (pc := 16) (nI 1) dX5_toLeft_16 (by decide) ?_
      refine z_goto X (pc := 17) 52 dX5_toLeft_17 (by decide) ?_
      refine z_istore X (pc := 52) (i := 5) [(5, .int (nI 1)), (0, .int (nI l)), (1, .int (nI r)), (2, .int (nI la)), (3, .int (nI 1)), (4, .int (nI x))] dX5_toLeft_52 trivial (by decide) rfl ?_
      refine z_iload_n X (pc := 54) 4 dX5_toLeft_54 rfl ?_
      refine z_iconst X (pc := 55) (nI 2) dX5_toLeft_55 (by decide) ?_
      refine z_icmp_leN X (pc := 56) 65 (by omega) (by omega) dX5_toLeft_56 (by decide) (fun c_56 => ?_) (fun c_56 => absurd c_56 (by decide))
      refine z_iload X (pc := 65) 0 dX5_toLeft_65 rfl ?_
      refine z_istore X (pc := 67) (i := 5) [(5, .int (nI 1)), (0, .int (nI l)), (1, .int (nI r)), (2, .int (nI la)), (3, .int (nI 1)), (4, .int (nI x))] dX5_toLeft_67 trivial (by decide) rfl ?_
      refine z_iload X (pc := 69) 0 dX5_toLeft_69 rfl ?_
      refine z_if_leN X (pc := 71) 79 (by omega) dX5_toLeft_71 (by decide) (fun c_71 => absurd c_71 (by decide)) (fun c_71 => ?_)
      refine z_iload X (pc := 74) 5 dX5_toLeft_74 rfl ?_
      refine z_goto X (pc := 76) 92 dX5_toLeft_76 (by decide) ?_
      exact hRet.i dX5_toLeft_92 ⟨by first | rfl | (congr 3; unfold htl; (repeat' split) <;> omega), rfl⟩
  · skip
    refine z_iload_n X (pc := 0) 3 dX5_toLeft_0 rfl ?_
    refine z_if_neN X (pc := 1) 7 (by omega) dX5_toLeft_1 (by decide) (fun c_1 => ?_) (fun c_1 => absurd c_1 (by decide))
    refine z_iload_n X (pc := 7) 3 dX5_toLeft_7 rfl ?_
    refine z_iconst X (pc := 8) (nI 1) dX5_toLeft_8 (by decide) ?_
    refine z_icmp_neN X (pc := 9) 33 (by omega) (by omega) dX5_toLeft_9 (by decide) (fun c_9 => ?_) (fun c_9 => absurd c_9 (by decide))
    refine z_iload_n X (pc := 33) 0 dX5_toLeft_33 rfl ?_
    refine z_iload_n X (pc := 34) 1 dX5_toLeft_34 rfl ?_
    refine z_icmp_leN X (pc := 35) 42 (by omega) (by omega) dX5_toLeft_35 (by decide) (fun c_35 => ?_) (fun c_35 => ?_)
    · skip
      refine z_iload_n X (pc := 42) 0 dX5_toLeft_42 rfl ?_
      refine z_iload_n X (pc := 43) 1 dX5_toLeft_43 rfl ?_
      refine z_icmp_geN X (pc := 44) 51 (by omega) (by omega) dX5_toLeft_44 (by decide) (fun c_44 => ?_) (fun c_44 => ?_)
      · skip
        refine z_iconst X (pc := 51) (nI 0) dX5_toLeft_51 (by decide) ?_
        refine z_istore X (pc := 52) (i := 5) [(5, .int (nI 0)), (0, .int (nI l)), (1, .int (nI r)), (2, .int (nI la)), (3, .int (nI 2)), (4, .int (nI x))] dX5_toLeft_52 trivial (by decide) rfl ?_
        refine z_iload_n X (pc := 54) 4 dX5_toLeft_54 rfl ?_
        refine z_iconst X (pc := 55) (nI 2) dX5_toLeft_55 (by decide) ?_
        refine z_icmp_leN X (pc := 56) 65 (by omega) (by omega) dX5_toLeft_56 (by decide) (fun c_56 => ?_) (fun c_56 => absurd c_56 (by decide))
        refine z_iload X (pc := 65) 0 dX5_toLeft_65 rfl ?_
        refine z_istore X (pc := 67) (i := 5) [(5, .int (nI 0)), (0, .int (nI l)), (1, .int (nI r)), (2, .int (nI la)), (3, .int (nI 2)), (4, .int (nI x))] dX5_toLeft_67 trivial (by decide) rfl ?_
        refine z_iload X (pc := 69) 0 dX5_toLeft_69 rfl ?_
        refine z_if_leN X (pc := 71) 79 (by omega) dX5_toLeft_71 (by decide) (fun c_71 => ?_) (fun c_71 => absurd c_71 (by decide))
        refine z_iload X (pc := 79) 0 dX5_toLeft_79 rfl ?_
        refine z_if_geN X (pc := 81) 91 (by omega) dX5_toLeft_81 (by decide) ?_
        refine z_iconst X (pc := 91) (nI 2) dX5_toLeft_91 (by decide) ?_
        exact hRet.i dX5_toLeft_92 ⟨by first | rfl | (congr 3; unfold htl; (repeat' split) <;> omega), rfl⟩
      · skip
        refine z_iconst X (pc := 47) (-1) dX5_toLeft_47 (by decide) ?_
        refine z_goto X (pc := 48) 52 dX5_toLeft_48 (by decide) ?_
        refine z_istore X (pc := 52) (i := 5) [(5, .int (-1)), (0, .int (nI l)), (1, .int (nI r)), (2, .int (nI la)), (3, .int (nI 2)), (4, .int (nI x))] dX5_toLeft_52 trivial (by decide) rfl ?_
        refine z_iload_n X (pc := 54) 4 dX5_toLeft_54 rfl ?_
        refine z_iconst X (pc := 55) (nI 2) dX5_toLeft_55 (by decide) ?_
        refine z_icmp_leN X (pc := 56) 65 (by omega) (by omega) dX5_toLeft_56 (by decide) (fun c_56 => ?_) (fun c_56 => absurd c_56 (by decide))
        refine z_iload X (pc := 65) 0 dX5_toLeft_65 rfl ?_
        refine z_istore X (pc := 67) (i := 5) [(5, .int (-1)), (0, .int (nI l)), (1, .int (nI r)), (2, .int (nI la)), (3, .int (nI 2)), (4, .int (nI x))] dX5_toLeft_67 trivial (by decide) rfl ?_
        refine z_iload X (pc := 69) 0 dX5_toLeft_69 rfl ?_
        refine z_if_le X (pc := 71) 79 dX5_toLeft_71 (by decide) (fun c_71 => ?_) (fun c_71 => absurd c_71 (by decide))
        refine z_iload X (pc := 79) 0 dX5_toLeft_79 rfl ?_
        refine z_if_ge X (pc := 81) 91 dX5_toLeft_81 (by decide) (fun c_81 => absurd c_81 (by decide)) (fun c_81 => ?_)
        refine z_iconst X (pc := 84) (nI 4) dX5_toLeft_84 (by decide) ?_
        refine z_iload X (pc := 85) 5 dX5_toLeft_85 rfl ?_
        refine z_isub X (pc := 87) (v := (nI (4 - x))) dX5_toLeft_87 (pk_sub (by omega)) ?_
        refine z_goto X (pc := 88) 92 dX5_toLeft_88 (by decide) ?_
        exact hRet.i dX5_toLeft_92 ⟨by first | rfl | (congr 3; unfold htl; (repeat' split) <;> omega), rfl⟩
    · skip
      refine z_iconst X (pc := 38) (nI 1) dX5_toLeft_38 (by decide) ?_
      refine z_goto X (pc := 39) 52 dX5_toLeft_39 (by decide) ?_
      refine z_istore X (pc := 52) (i := 5) [(5, .int (nI 1)), (0, .int (nI l)), (1, .int (nI r)), (2, .int (nI la)), (3, .int (nI 2)), (4, .int (nI x))] dX5_toLeft_52 trivial (by decide) rfl ?_
      refine z_iload_n X (pc := 54) 4 dX5_toLeft_54 rfl ?_
      refine z_iconst X (pc := 55) (nI 2) dX5_toLeft_55 (by decide) ?_
      refine z_icmp_leN X (pc := 56) 65 (by omega) (by omega) dX5_toLeft_56 (by decide) (fun c_56 => ?_) (fun c_56 => absurd c_56 (by decide))
      refine z_iload X (pc := 65) 0 dX5_toLeft_65 rfl ?_
      refine z_istore X (pc := 67) (i := 5) [(5, .int (nI 1)), (0, .int (nI l)), (1, .int (nI r)), (2, .int (nI la)), (3, .int (nI 2)), (4, .int (nI x))] dX5_toLeft_67 trivial (by decide) rfl ?_
      refine z_iload X (pc := 69) 0 dX5_toLeft_69 rfl ?_
      refine z_if_leN X (pc := 71) 79 (by omega) dX5_toLeft_71 (by decide) (fun c_71 => absurd c_71 (by decide)) (fun c_71 => ?_)
      refine z_iload X (pc := 74) 5 dX5_toLeft_74 rfl ?_
      refine z_goto X (pc := 76) 92 dX5_toLeft_76 (by decide) ?_
      exact hRet.i dX5_toLeft_92 ⟨by first | rfl | (congr 3; unfold htl; (repeat' split) <;> omega), rfl⟩
  · skip
    refine z_iload_n X (pc := 0) 3 dX5_toLeft_0 rfl ?_
    refine z_if_neN X (pc := 1) 7 (by omega) dX5_toLeft_1 (by decide) (fun c_1 => ?_) (fun c_1 => absurd c_1 (by decide))
    refine z_iload_n X (pc := 7) 3 dX5_toLeft_7 rfl ?_
    refine z_iconst X (pc := 8) (nI 1) dX5_toLeft_8 (by decide) ?_
    refine z_icmp_neN X (pc := 9) 33 (by omega) (by omega) dX5_toLeft_9 (by decide) (fun c_9 => ?_) (fun c_9 => absurd c_9 (by decide))
    refine z_iload_n X (pc := 33) 0 dX5_toLeft_33 rfl ?_
    refine z_iload_n X (pc := 34) 1 dX5_toLeft_34 rfl ?_
    refine z_icmp_leN X (pc := 35) 42 (by omega) (by omega) dX5_toLeft_35 (by decide) (fun c_35 => ?_) (fun c_35 => ?_)
    · skip
      refine z_iload_n X (pc := 42) 0 dX5_toLeft_42 rfl ?_
      refine z_iload_n X (pc := 43) 1 dX5_toLeft_43 rfl ?_
      refine z_icmp_geN X (pc := 44) 51 (by omega) (by omega) dX5_toLeft_44 (by decide) (fun c_44 => ?_) (fun c_44 => ?_)
      · skip
        refine z_iconst X (pc := 51) (nI 0) dX5_toLeft_51 (by decide) ?_
        refine z_istore X (pc := 52) (i := 5) [(5, .int (nI 0)), (0, .int (nI l)), (1, .int (nI r)), (2, .int (nI la)), (3, .int (nI 3)), (4, .int (nI x))] dX5_toLeft_52 trivial (by decide) rfl ?_
        refine z_iload_n X (pc := 54) 4 dX5_toLeft_54 rfl ?_
        refine z_iconst X (pc := 55) (nI 2) dX5_toLeft_55 (by decide) ?_
        refine z_icmp_leN X (pc := 56) 65 (by omega) (by omega) dX5_toLeft_56 (by decide) (fun c_56 => absurd c_56 (by decide)) (fun c_56 => ?_)
        refine z_iload X (pc := 59) 0 dX5_toLeft_59 rfl ?_
        refine z_ineg X (pc := 61) (v := (-(nI 0))) dX5_toLeft_61 rfl ?_
        refine z_topi (nI 0) rfl ?_
        refine z_goto X (pc := 62) 67 dX5_toLeft_62 (by decide) ?_
        refine z_istore X (pc := 67) (i := 5) [(5, .int (nI 0)), (0, .int (nI l)), (1, .int (nI r)), (2, .int (nI la)), (3, .int (nI 3)), (4, .int (nI x))] dX5_toLeft_67 trivial (by decide) rfl ?_
        refine z_iload X (pc := 69) 0 dX5_toLeft_69 rfl ?_
        refine z_if_leN X (pc := 71) 79 (by omega) dX5_toLeft_71 (by decide) (fun c_71 => ?_) (fun c_71 => absurd c_71 (by decide))
        refine z_iload X (pc := 79) 0 dX5_toLeft_79 rfl ?_
        refine z_if_geN X (pc := 81) 91 (by omega) dX5_toLeft_81 (by decide) ?_
        refine z_iconst X (pc := 91) (nI 2) dX5_toLeft_91 (by decide) ?_
        exact hRet.i dX5_toLeft_92 ⟨by first | rfl | (congr 3; unfold htl; (repeat' split) <;> omega), rfl⟩
      · skip
        refine z_iconst X (pc := 47) (-1) dX5_toLeft_47 (by decide) ?_
        refine z_goto X (pc := 48) 52 dX5_toLeft_48 (by decide) ?_
        refine z_istore X (pc := 52) (i := 5) [(5, .int (-1)), (0, .int (nI l)), (1, .int (nI r)), (2, .int (nI la)), (3, .int (nI 3)), (4, .int (nI x))] dX5_toLeft_52 trivial (by decide) rfl ?_
        refine z_iload_n X (pc := 54) 4 dX5_toLeft_54 rfl ?_
        refine z_iconst X (pc := 55) (nI 2) dX5_toLeft_55 (by decide) ?_
        refine z_icmp_leN X (pc := 56) 65 (by omega) (by omega) dX5_toLeft_56 (by decide) (fun c_56 => absurd c_56 (by decide)) (fun c_56 => ?_)
        refine z_iload X (pc := 59) 0 dX5_toLeft_59 rfl ?_
        refine z_ineg X (pc := 61) (v := (-(-1))) dX5_toLeft_61 rfl ?_
        refine z_topi (nI 1) rfl ?_
        refine z_goto X (pc := 62) 67 dX5_toLeft_62 (by decide) ?_
        refine z_istore X (pc := 67) (i := 5) [(5, .int (nI 1)), (0, .int (nI l)), (1, .int (nI r)), (2, .int (nI la)), (3, .int (nI 3)), (4, .int (nI x))] dX5_toLeft_67 trivial (by decide) rfl ?_
        refine z_iload X (pc := 69) 0 dX5_toLeft_69 rfl ?_
        refine z_if_leN X (pc := 71) 79 (by omega) dX5_toLeft_71 (by decide) (fun c_71 => absurd c_71 (by decide)) (fun c_71 => ?_)
        refine z_iload X (pc := 74) 5 dX5_toLeft_74 rfl ?_
        refine z_goto X (pc := 76) 92 dX5_toLeft_76 (by decide) ?_
        exact hRet.i dX5_toLeft_92 ⟨by first | rfl | (congr 3; unfold htl; (repeat' split) <;> omega), rfl⟩
    · skip
      refine z_iconst X (pc := 38) (nI 1) dX5_toLeft_38 (by decide) ?_
      refine z_goto X (pc := 39) 52 dX5_toLeft_39 (by decide) ?_
      refine z_istore X (pc := 52) (i := 5) [(5, .int (nI 1)), (0, .int (nI l)), (1, .int (nI r)), (2, .int (nI la)), (3, .int (nI 3)), (4, .int (nI x))] dX5_toLeft_52 trivial (by decide) rfl ?_
      refine z_iload_n X (pc := 54) 4 dX5_toLeft_54 rfl ?_
      refine z_iconst X (pc := 55) (nI 2) dX5_toLeft_55 (by decide) ?_
      refine z_icmp_leN X (pc := 56) 65 (by omega) (by omega) dX5_toLeft_56 (by decide) (fun c_56 => absurd c_56 (by decide)) (fun c_56 => ?_)
      refine z_iload X (pc := 59) 0 dX5_toLeft_59 rfl ?_
      refine z_ineg X (pc := 61) (v := (-(nI 1))) dX5_toLeft_61 rfl ?_
      refine z_topi (-1) rfl ?_
      refine z_goto X (pc := 62) 67 dX5_toLeft_62 (by decide) ?_
      refine z_istore X (pc := 67) (i := 5) [(5, .int (-1)), (0, .int (nI l)), (1, .int (nI r)), (2, .int (nI la)), (3, .int (nI 3)), (4, .int (nI x))] dX5_toLeft_67 trivial (by decide) rfl ?_
      refine z_iload X (pc := 69) 0 dX5_toLeft_69 rfl ?_
      refine z_if_le X (pc := 71) 79 dX5_toLeft_71 (by decide) (fun c_71 => ?_) (fun c_71 => absurd c_71 (by decide))
      refine z_iload X (pc := 79) 0 dX5_toLeft_79 rfl ?_
      refine z_if_ge X (pc := 81) 91 dX5_toLeft_81 (by decide) (fun c_81 => absurd c_81 (by decide)) (fun c_81 => ?_)
      refine z_iconst X (pc := 84) (nI 4) dX5_toLeft_84 (by decide) ?_
      refine z_iload X (pc := 85) 5 dX5_toLeft_85 rfl ?_
      refine z_isub X (pc := 87) (v := (nI (4 - x))) dX5_toLeft_87 (pk_sub (by omega)) ?_
      refine z_goto X (pc := 88) 92 dX5_toLeft_88 (by decide) ?_
      exact hRet.i dX5_toLeft_92 ⟨by first | rfl | (congr 3; unfold htl; (repeat' split) <;> omega), rfl⟩

abbrev rm_X5_box : Room := { frames := 1, cells := 0, slots := 0, locals := 22 }
set_option maxHeartbeats 4000000 in
set_option maxRecDepth 100000 in
theorem c_X5_box (lq : Launch) (D : va_G) (t : zT) (mq mT mD mS mP mI mE mH mX mR mO ty ev kn kp sg : Nat) (at_ : Int32) (fs : Int64) (s : Nat → Nat) (e : Int32)  : Ct lq D t yX5_box cX5_box 2 (some .int) rm_X5_box [.ref mq, .int e] [eX5 mq mT (nI ty) mD mS (nI ev) mP (nI kn) mI (nI kp) mE (nI sg) at_ mH mX mR mO fs, eI t mS 5 (nf s)] 0 0 (fun rv rw_ => rv = some (.int (an_box s (dz 0 1 e))) ∧ rw_ = [eX5 mq mT (nI ty) mD mS (nI ev) mP (nI kn) mI (nI kp) mE (nI sg) at_ mH mX mR mO fs, eI t mS 5 (nf s)]) := by
  refine Ct.of (by decide) (Nat.le_of_ble_eq_true rfl) (fun k X hRet => ?_)
  have X : zX D t k cX5_box 2 RX5 "box" rm_X5_box lq := X
  refine z_eq (lv2 := [(0, .ref mq), (1, .int e)]) rfl rfl rfl ?_
  refine z_iload_n X (pc := 0) 1 dX5_box_0 rfl ?_
  refine z_iconst X (pc := 1) (nI 0) dX5_box_1 (by decide) ?_
  refine z_iconst X (pc := 2) (nI 1) dX5_box_2 (by decide) ?_
  refine zc_S (as := [.int e, .int (nI 0), .int (nI 1)]) X (pc := 3) (c_X5_in lq D t e (nI 0) (nI 1) ) tw_615 tw_617 tw_7 tw_616 [] rfl rfl dX5_box_3 rfl zdX5_in ⟨rfl, rfl, Nat.le_of_ble_eq_true rfl, Nat.le_of_ble_eq_true rfl⟩ (Nat.le_of_ble_eq_true rfl) (Nat.zero_le _) (Nat.zero_le _) (fun v_1 w_2 hp_3 => ?_)
  obtain ⟨rfl, rfl⟩ := hp_3
  refine ⟨rfl, ?_⟩
  refine z_eq (ws2 := [eX5 mq mT (nI ty) mD mS (nI ev) mP (nI kn) mI (nI kp) mE (nI sg) at_ mH mX mR mO fs, eI t mS 5 (nf s)]) (st2 := [.int (zb ((nI 0) ≤ e ∧ e ≤ (nI 1)))]) rfl rfl rfl ?_
  refine z_if_eqB X (pc := 6) 18 dX5_box_6 (by decide) (fun c_6 => ?_) (fun c_6 => ?_)
  · skip
    refine z_iconst X (pc := 18) (-1) dX5_box_18 (by decide) ?_
    exact hRet.i dX5_box_19 ⟨by rw [dz_bad c_6]; rfl, rfl⟩
  · skip
    obtain ⟨sd, sd_lo, sd_hi, rfl⟩ := inR (by decide) (by decide) c_6
    rcases (show sd = 0 ∨ sd = 1 by omega) with rfl | rfl
    · skip
      refine z_aload_n X (pc := 9) 0 dX5_box_9 rfl ?_
      refine z_get X (pc := 10) 0 3 (.ref mS) tu_5 tw_562 dX5_box_10 rfl rfl (by decide) rfl rfl ?_
      refine z_iload_n X (pc := 13) 1 dX5_box_13 rfl ?_
      refine z_iald X (pc := 14) 1 0 (nI (s 0)) dX5_box_14 rfl rfl (Nat.le_of_ble_eq_true rfl) (by decide) rfl ?_
      refine z_goto X (pc := 15) 19 dX5_box_15 (by decide) ?_
      exact hRet.i dX5_box_19 ⟨by rw [dz_ok (by decide) (by decide) (by decide)]; rfl, rfl⟩
    · skip
      refine z_aload_n X (pc := 9) 0 dX5_box_9 rfl ?_
      refine z_get X (pc := 10) 0 3 (.ref mS) tu_5 tw_562 dX5_box_10 rfl rfl (by decide) rfl rfl ?_
      refine z_iload_n X (pc := 13) 1 dX5_box_13 rfl ?_
      refine z_iald X (pc := 14) 1 1 (nI (s 1)) dX5_box_14 rfl rfl (Nat.le_of_ble_eq_true rfl) (by decide) rfl ?_
      refine z_goto X (pc := 15) 19 dX5_box_15 (by decide) ?_
      exact hRet.i dX5_box_19 ⟨by rw [dz_ok (by decide) (by decide) (by decide)]; rfl, rfl⟩

abbrev rm_X5_quarters : Room := { frames := 1, cells := 0, slots := 0, locals := 25 }
set_option maxHeartbeats 4000000 in
set_option maxRecDepth 100000 in
theorem c_X5_quarters (lq : Launch) (D : va_G) (t : zT) (mq mT mD mS mP mI mE mH mX mR mO ty ev kn kp sg : Nat) (at_ : Int32) (fs : Int64) (s : Nat → Nat) (e : Int32) (hs : sOk s) : Ct lq D t yX5_quarters cX5_quarters 3 (some .int) rm_X5_quarters [.ref mq, .int e] [eX5 mq mT (nI ty) mD mS (nI ev) mP (nI kn) mI (nI kp) mE (nI sg) at_ mH mX mR mO fs, eI t mS 5 (nf s)] 0 0 (fun rv rw_ => rv = some (.int (an_quarters s (dz 0 1 e))) ∧ rw_ = [eX5 mq mT (nI ty) mD mS (nI ev) mP (nI kn) mI (nI kp) mE (nI sg) at_ mH mX mR mO fs, eI t mS 5 (nf s)]) := by
  refine Ct.of (by decide) (Nat.le_of_ble_eq_true rfl) (fun k X hRet => ?_)
  have X : zX D t k cX5_quarters 3 RX5 "quarters" rm_X5_quarters lq := X
  refine z_eq (lv2 := [(0, .ref mq), (1, .int e)]) rfl rfl rfl ?_
  obtain ⟨hs0, hs1, hs2, hs3, hs4⟩ := hs
  refine z_iload_n X (pc := 0) 1 dX5_quarters_0 rfl ?_
  refine z_iconst X (pc := 1) (nI 0) dX5_quarters_1 (by decide) ?_
  refine z_iconst X (pc := 2) (nI 1) dX5_quarters_2 (by decide) ?_
  refine zc_S (as := [.int e, .int (nI 0), .int (nI 1)]) X (pc := 3) (c_X5_in lq D t e (nI 0) (nI 1) ) tw_615 tw_617 tw_7 tw_616 [] rfl rfl dX5_quarters_3 rfl zdX5_in ⟨rfl, rfl, Nat.le_of_ble_eq_true rfl, Nat.le_of_ble_eq_true rfl⟩ (Nat.le_of_ble_eq_true rfl) (Nat.zero_le _) (Nat.zero_le _) (fun v_1 w_2 hp_3 => ?_)
  obtain ⟨rfl, rfl⟩ := hp_3
  refine ⟨rfl, ?_⟩
  refine z_eq (ws2 := [eX5 mq mT (nI ty) mD mS (nI ev) mP (nI kn) mI (nI kp) mE (nI sg) at_ mH mX mR mO fs, eI t mS 5 (nf s)]) (st2 := [.int (zb ((nI 0) ≤ e ∧ e ≤ (nI 1)))]) rfl rfl rfl ?_
  refine z_if_neB X (pc := 6) 11 dX5_quarters_6 (by decide) (fun c_6 => ?_) (fun c_6 => ?_)
  · skip
    obtain ⟨sd, sd_lo, sd_hi, rfl⟩ := inR (by decide) (by decide) c_6
    rcases (show sd = 0 ∨ sd = 1 by omega) with rfl | rfl
    · skip
      refine z_aload_n X (pc := 11) 0 dX5_quarters_11 rfl ?_
      refine z_get X (pc := 12) 0 3 (.ref mS) tu_5 tw_562 dX5_quarters_12 rfl rfl (by decide) rfl rfl ?_
      refine z_iconst X (pc := 15) (nI 0) dX5_quarters_15 (by decide) ?_
      refine z_iald X (pc := 16) 1 0 (nI (s 0)) dX5_quarters_16 rfl rfl (Nat.le_of_ble_eq_true rfl) (by decide) rfl ?_
      refine z_aload_n X (pc := 17) 0 dX5_quarters_17 rfl ?_
      refine z_get X (pc := 18) 0 3 (.ref mS) tu_5 tw_562 dX5_quarters_18 rfl rfl (by decide) rfl rfl ?_
      refine z_iconst X (pc := 21) (nI 1) dX5_quarters_21 (by decide) ?_
      refine z_iald X (pc := 22) 1 1 (nI (s 1)) dX5_quarters_22 rfl rfl (Nat.le_of_ble_eq_true rfl) (by decide) rfl ?_
      refine z_aload_n X (pc := 23) 0 dX5_quarters_23 rfl ?_
      refine z_get X (pc := 24) 0 3 (.ref mS) tu_5 tw_562 dX5_quarters_24 rfl rfl (by decide) rfl rfl ?_
      refine z_iconst X (pc := 27) (nI 2) dX5_quarters_27 (by decide) ?_
      refine z_iald X (pc := 28) 1 2 (nI (s 2)) dX5_quarters_28 rfl rfl (Nat.le_of_ble_eq_true rfl) (by decide) rfl ?_
      refine z_aload_n X (pc := 29) 0 dX5_quarters_29 rfl ?_
      refine z_get X (pc := 30) 0 3 (.ref mS) tu_5 tw_562 dX5_quarters_30 rfl rfl (by decide) rfl rfl ?_
      refine z_iconst X (pc := 33) (nI 3) dX5_quarters_33 (by decide) ?_
      refine z_iald X (pc := 34) 1 3 (nI (s 3)) dX5_quarters_34 rfl rfl (Nat.le_of_ble_eq_true rfl) (by decide) rfl ?_
      refine z_aload_n X (pc := 35) 0 dX5_quarters_35 rfl ?_
      refine z_get X (pc := 36) 0 3 (.ref mS) tu_5 tw_562 dX5_quarters_36 rfl rfl (by decide) rfl rfl ?_
      refine z_iconst X (pc := 39) (nI 4) dX5_quarters_39 (by decide) ?_
      refine z_iald X (pc := 40) 1 4 (nI (s 4)) dX5_quarters_40 rfl rfl (Nat.le_of_ble_eq_true rfl) (by decide) rfl ?_
      refine zc_S (as := [.int (nI (s 0)), .int (nI (s 1)), .int (nI (s 2)), .int (nI (s 3)), .int (nI (s 4))]) X (pc := 41) (c_X5_toLeft lq D t (s 0) (s 1) (s 2) (s 3) (s 4) (by omega) (by omega) (by omega) (by omega) (by omega)) tw_661 tw_663 tw_7 tw_662 [] rfl rfl dX5_quarters_41 rfl zdX5_toLeft ⟨rfl, rfl, Nat.le_of_ble_eq_true rfl, Nat.le_of_ble_eq_true rfl⟩ (Nat.le_of_ble_eq_true rfl) (Nat.zero_le _) (Nat.zero_le _) (fun v_4 w_5 hp_6 => ?_)
      obtain ⟨rfl, rfl⟩ := hp_6
      refine ⟨rfl, ?_⟩
      refine z_eq (ws2 := [eX5 mq mT (nI ty) mD mS (nI ev) mP (nI kn) mI (nI kp) mE (nI sg) at_ mH mX mR mO fs, eI t mS 5 (nf s)]) (st2 := [.int (nI (htl (s 3) (s 4) (s 0) (s 1) (s 2)))]) rfl rfl rfl ?_
      refine z_istore_n X (pc := 44) (i := 2) [(2, .int (nI (htl (s 3) (s 4) (s 0) (s 1) (s 2)))), (0, .ref mq), (1, .int (nI 0))] dX5_quarters_44 rfl (by decide) rfl ?_
      refine z_iload_n X (pc := 45) 2 dX5_quarters_45 rfl ?_
      refine z_if_neN X (pc := 46) 53 (by omega) dX5_quarters_46 (by decide) (fun c_46 => absurd c_46 (by decide)) (fun c_46 => ?_)
      refine z_iload_n X (pc := 49) 0 dX5_quarters_49 rfl ?_
      refine z_goto X (pc := 50) 56 dX5_quarters_50 (by decide) ?_
      exact hRet.i dX5_quarters_56 ⟨by rw [dz_ok (by decide) (by decide) (by decide)]; rfl, rfl⟩
    · skip
      refine z_aload_n X (pc := 11) 0 dX5_quarters_11 rfl ?_
      refine z_get X (pc := 12) 0 3 (.ref mS) tu_5 tw_562 dX5_quarters_12 rfl rfl (by decide) rfl rfl ?_
      refine z_iconst X (pc := 15) (nI 0) dX5_quarters_15 (by decide) ?_
      refine z_iald X (pc := 16) 1 0 (nI (s 0)) dX5_quarters_16 rfl rfl (Nat.le_of_ble_eq_true rfl) (by decide) rfl ?_
      refine z_aload_n X (pc := 17) 0 dX5_quarters_17 rfl ?_
      refine z_get X (pc := 18) 0 3 (.ref mS) tu_5 tw_562 dX5_quarters_18 rfl rfl (by decide) rfl rfl ?_
      refine z_iconst X (pc := 21) (nI 1) dX5_quarters_21 (by decide) ?_
      refine z_iald X (pc := 22) 1 1 (nI (s 1)) dX5_quarters_22 rfl rfl (Nat.le_of_ble_eq_true rfl) (by decide) rfl ?_
      refine z_aload_n X (pc := 23) 0 dX5_quarters_23 rfl ?_
      refine z_get X (pc := 24) 0 3 (.ref mS) tu_5 tw_562 dX5_quarters_24 rfl rfl (by decide) rfl rfl ?_
      refine z_iconst X (pc := 27) (nI 2) dX5_quarters_27 (by decide) ?_
      refine z_iald X (pc := 28) 1 2 (nI (s 2)) dX5_quarters_28 rfl rfl (Nat.le_of_ble_eq_true rfl) (by decide) rfl ?_
      refine z_aload_n X (pc := 29) 0 dX5_quarters_29 rfl ?_
      refine z_get X (pc := 30) 0 3 (.ref mS) tu_5 tw_562 dX5_quarters_30 rfl rfl (by decide) rfl rfl ?_
      refine z_iconst X (pc := 33) (nI 3) dX5_quarters_33 (by decide) ?_
      refine z_iald X (pc := 34) 1 3 (nI (s 3)) dX5_quarters_34 rfl rfl (Nat.le_of_ble_eq_true rfl) (by decide) rfl ?_
      refine z_aload_n X (pc := 35) 0 dX5_quarters_35 rfl ?_
      refine z_get X (pc := 36) 0 3 (.ref mS) tu_5 tw_562 dX5_quarters_36 rfl rfl (by decide) rfl rfl ?_
      refine z_iconst X (pc := 39) (nI 4) dX5_quarters_39 (by decide) ?_
      refine z_iald X (pc := 40) 1 4 (nI (s 4)) dX5_quarters_40 rfl rfl (Nat.le_of_ble_eq_true rfl) (by decide) rfl ?_
      refine zc_S (as := [.int (nI (s 0)), .int (nI (s 1)), .int (nI (s 2)), .int (nI (s 3)), .int (nI (s 4))]) X (pc := 41) (c_X5_toLeft lq D t (s 0) (s 1) (s 2) (s 3) (s 4) (by omega) (by omega) (by omega) (by omega) (by omega)) tw_661 tw_663 tw_7 tw_662 [] rfl rfl dX5_quarters_41 rfl zdX5_toLeft ⟨rfl, rfl, Nat.le_of_ble_eq_true rfl, Nat.le_of_ble_eq_true rfl⟩ (Nat.le_of_ble_eq_true rfl) (Nat.zero_le _) (Nat.zero_le _) (fun v_7 w_8 hp_9 => ?_)
      obtain ⟨rfl, rfl⟩ := hp_9
      refine ⟨rfl, ?_⟩
      refine z_eq (ws2 := [eX5 mq mT (nI ty) mD mS (nI ev) mP (nI kn) mI (nI kp) mE (nI sg) at_ mH mX mR mO fs, eI t mS 5 (nf s)]) (st2 := [.int (nI (htl (s 3) (s 4) (s 0) (s 1) (s 2)))]) rfl rfl rfl ?_
      refine z_istore_n X (pc := 44) (i := 2) [(2, .int (nI (htl (s 3) (s 4) (s 0) (s 1) (s 2)))), (0, .ref mq), (1, .int (nI 1))] dX5_quarters_44 rfl (by decide) rfl ?_
      refine z_iload_n X (pc := 45) 2 dX5_quarters_45 rfl ?_
      refine z_if_neN X (pc := 46) 53 (by omega) dX5_quarters_46 (by decide) (fun c_46 => ?_) (fun c_46 => absurd c_46 (by decide))
      refine z_iconst X (pc := 53) (nI 4) dX5_quarters_53 (by decide) ?_
      refine z_iload_n X (pc := 54) 0 dX5_quarters_54 rfl ?_
      refine z_isub X (pc := 55) (v := (nI (4 - (htl (s 3) (s 4) (s 0) (s 1) (s 2))))) dX5_quarters_55 (pk_sub (htl_le hs4)) ?_
      exact hRet.i dX5_quarters_56 ⟨by rw [dz_ok (by decide) (by decide) (by decide)]; rfl, rfl⟩
  · skip
    refine z_iconst X (pc := 9) (-1) dX5_quarters_9 (by decide) ?_
    exact hRet.i dX5_quarters_10 ⟨by rw [dz_bad c_6]; rfl, rfl⟩

abbrev rm_X5_keeps : Room := { frames := 0, cells := 0, slots := 0, locals := 0 }
set_option maxHeartbeats 4000000 in
set_option maxRecDepth 100000 in
theorem c_X5_keeps (lq : Launch) (D : va_G) (t : zT) (mq mT mD mS mP mI mE mH mX mR mO ty ev kn kp sg : Nat) (at_ : Int32) (fs : Int64) (s past : Nat → Nat) (hkn : kn ≤ 8) : Ct lq D t yX5_keeps cX5_keeps 2 none rm_X5_keeps [.ref mq] [eX5 mq mT (nI ty) mD mS (nI ev) mP (nI kn) mI (nI kp) mE (nI sg) at_ mH mX mR mO fs, eI t mS 5 (nf s), eI t mP 40 (nf past)] 0 0 (fun rv rw_ => rv = none ∧ rw_ = [eX5 mq mT (nI ty) mD mS (nI ev) mP (nI (if kn = 8 then 8 else kn + 1)) mI (nI kp) mE (nI sg) at_ mH mX mR mO fs, eI t mS 5 (nf s), eI t mP 40 (nf (pput past kn s))]) := by
  refine Ct.of (by decide) (Nat.le_of_ble_eq_true rfl) (fun k X hRet => ?_)
  have X : zX D t k cX5_keeps 2 RX5 "keeps" rm_X5_keeps lq := X
  refine z_eq (lv2 := [(0, .ref mq)]) rfl rfl rfl ?_
  refine z_aload_n X (pc := 0) 0 dX5_keeps_0 rfl ?_
  refine z_get X (pc := 1) 0 6 (.int (nI kn)) tu_5 tw_565 dX5_keeps_1 rfl rfl (by decide) rfl rfl ?_
  refine z_bipush X (pc := 4) (nI 8) dX5_keeps_4 (by decide) ?_
  refine z_icmp_neN X (pc := 6) 47 (by omega) (by omega) dX5_keeps_6 (by decide) (fun c_6 => ?_) (fun c_6 => ?_)
  · skip
    refine z_iconst X (pc := 47) (nI 0) dX5_keeps_47 (by decide) ?_
    refine z_istore_n X (pc := 48) (i := 1) [(1, .int (nI 0)), (0, .ref mq)] dX5_keeps_48 rfl (by decide) rfl ?_
    have loop_49 : ∀ (fuel_49 : Nat) (i : Nat), 5 < i + fuel_49 → (i ≤ 5) → Z D k (0, 0) [eX5 mq mT (nI ty) mD mS (nI ev) mP (nI kn) mI (nI kp) mE (nI sg) at_ mH mX mR mO fs, eI t mS 5 (nf s), eI t mP 40 (nf (lput past (5 * kn) i s))] 49 [(0, .ref mq), (1, .int (nI i))] [] := by
      intro fuel_49
      induction fuel_49 with
      | zero =>
        intro i hfuel_49 hi
        exfalso; omega
      | succ fuel_49 ih_49 =>
        intro i hfuel_49 hi
        refine z_iload_n X (pc := 49) 1 dX5_keeps_49 rfl ?_
        refine z_iconst X (pc := 50) (nI 5) dX5_keeps_50 (by decide) ?_
        refine z_icmp_geN X (pc := 51) 79 (by omega) (by omega) dX5_keeps_51 (by decide) (fun c_51 => ?_) (fun c_51 => ?_)
        · skip
          refine z_aload_n X (pc := 79) 0 dX5_keeps_79 rfl ?_
          refine z_dup X (pc := 80) dX5_keeps_80 rfl ?_
          refine z_get X (pc := 81) 0 6 (.int (nI kn)) tu_5 tw_565 dX5_keeps_81 rfl rfl (by decide) rfl rfl ?_
          refine z_iconst X (pc := 84) (nI 1) dX5_keeps_84 (by decide) ?_
          refine z_iadd X (pc := 85) (v := (nI (kn + 1))) dX5_keeps_85 (nI_add kn 1) ?_
          refine z_put X (pc := 86) 0 6 [eX5 mq mT (nI ty) mD mS (nI ev) mP (nI (kn + 1)) mI (nI kp) mE (nI sg) at_ mH mX mR mO fs, eI t mS 5 (nf s), eI t mP 40 (nf (lput past (5 * kn) i s))] tu_5 tyX5_ok nmX5 tw_565 dX5_keeps_86 rfl rfl (by decide) rfl rfl rfl rfl (Nat.le_of_ble_eq_true rfl) rfl ?_
          obtain rfl : i = 5 := by omega
          refine z_eq (ws2 := [eX5 mq mT (nI ty) mD mS (nI ev) mP (nI (kn + 1)) mI (nI kp) mE (nI sg) at_ mH mX mR mO fs, eI t mS 5 (nf s), eI t mP 40 (nf (pput past kn s))]) (by rw [pput_n past s c_6]) rfl rfl ?_
          exact hRet.v dX5_keeps_89 ⟨rfl, by rw [if_neg c_6]⟩
        · skip
          refine z_aload_n X (pc := 54) 0 dX5_keeps_54 rfl ?_
          refine z_get X (pc := 55) 0 5 (.ref mP) tu_5 tw_564 dX5_keeps_55 rfl rfl (by decide) rfl rfl ?_
          refine z_iconst X (pc := 58) (nI 5) dX5_keeps_58 (by decide) ?_
          refine z_aload_n X (pc := 59) 0 dX5_keeps_59 rfl ?_
          refine z_get X (pc := 60) 0 6 (.int (nI kn)) tu_5 tw_565 dX5_keeps_60 rfl rfl (by decide) rfl rfl ?_
          refine z_imul X (pc := 63) (v := (nI (5 * kn))) dX5_keeps_63 (pk_mul _ _) ?_
          refine z_iload_n X (pc := 64) 1 dX5_keeps_64 rfl ?_
          refine z_iadd X (pc := 65) (v := (nI (5 * kn + i))) dX5_keeps_65 (nI_add (5 * kn) i) ?_
          refine z_aload_n X (pc := 66) 0 dX5_keeps_66 rfl ?_
          refine z_get X (pc := 67) 0 3 (.ref mS) tu_5 tw_562 dX5_keeps_67 rfl rfl (by decide) rfl rfl ?_
          refine z_iload_n X (pc := 70) 1 dX5_keeps_70 rfl ?_
          refine z_iald X (pc := 71) 1 i (nI (s i)) dX5_keeps_71 rfl rfl (Nat.le_of_ble_eq_true rfl) (by omega) rfl ?_
          refine z_iast X (pc := 72) 2 (5 * kn + i) (nf (lput past (5 * kn) (i + 1) s)) [eX5 mq mT (nI ty) mD mS (nI ev) mP (nI kn) mI (nI kp) mE (nI sg) at_ mH mX mR mO fs, eI t mS 5 (nf s), eI t mP 40 (nf (lput past (5 * kn) (i + 1) s))] dX5_keeps_72 rfl rfl (Nat.le_of_ble_eq_true rfl) (by omega) (by rw [upd_nf, lput_step]) rfl ?_
          refine z_iinc X (pc := 73) (i := 1) 1 (nI (i + 1)) [(1, .int (nI (i + 1))), (0, .ref mq)] dX5_keeps_73 rfl (nI_incc i 1) (by decide) rfl ?_
          refine z_goto X (pc := 76) 49 dX5_keeps_76 (by decide) ?_
          refine z_lv [1, 0] (lv2 := [(0, .ref mq), (1, .int (nI (i + 1)))]) rfl ?_
          exact ih_49 (i + 1) (by omega) (by omega)
    refine z_eq (ws2 := [eX5 mq mT (nI ty) mD mS (nI ev) mP (nI kn) mI (nI kp) mE (nI sg) at_ mH mX mR mO fs, eI t mS 5 (nf s), eI t mP 40 (nf (lput past (5 * kn) 0 s))]) (by rw [← lput_0]) rfl rfl ?_
    refine z_lv [1, 0] (lv2 := [(0, .ref mq), (1, .int (nI 0))]) rfl ?_
    exact loop_49 6 0 (by omega) (by omega)
  · skip
    refine z_iconst X (pc := 9) (nI 0) dX5_keeps_9 (by decide) ?_
    refine z_istore_n X (pc := 10) (i := 1) [(1, .int (nI 0)), (0, .ref mq)] dX5_keeps_10 rfl (by decide) rfl ?_
    have loop_11 : ∀ (fuel_11 : Nat) (i : Nat), 35 < i + fuel_11 → (i ≤ 35) → Z D k (0, 0) [eX5 mq mT (nI ty) mD mS (nI ev) mP (nI kn) mI (nI kp) mE (nI sg) at_ mH mX mR mO fs, eI t mS 5 (nf s), eI t mP 40 (nf (shf past i))] 11 [(0, .ref mq), (1, .int (nI i))] [] := by
      intro fuel_11
      induction fuel_11 with
      | zero =>
        intro i hfuel_11 hi
        exfalso; omega
      | succ fuel_11 ih_11 =>
        intro i hfuel_11 hi
        refine z_iload_n X (pc := 11) 1 dX5_keeps_11 rfl ?_
        refine z_bipush X (pc := 12) (nI 35) dX5_keeps_12 (by decide) ?_
        refine z_icmp_geN X (pc := 14) 37 (by omega) (by omega) dX5_keeps_14 (by decide) (fun c_14 => ?_) (fun c_14 => ?_)
        · skip
          obtain rfl : i = 35 := by omega
          refine z_aload_n X (pc := 37) 0 dX5_keeps_37 rfl ?_
          refine z_dup X (pc := 38) dX5_keeps_38 rfl ?_
          refine z_get X (pc := 39) 0 6 (.int (nI kn)) tu_5 tw_565 dX5_keeps_39 rfl rfl (by decide) rfl rfl ?_
          refine z_iconst X (pc := 42) (nI 1) dX5_keeps_42 (by decide) ?_
          refine z_isub X (pc := 43) (v := (nI (kn - 1))) dX5_keeps_43 (pk_sub (by omega)) ?_
          refine z_put X (pc := 44) 0 6 [eX5 mq mT (nI ty) mD mS (nI ev) mP (nI (kn - 1)) mI (nI kp) mE (nI sg) at_ mH mX mR mO fs, eI t mS 5 (nf s), eI t mP 40 (nf (shf past 35))] tu_5 tyX5_ok nmX5 tw_565 dX5_keeps_44 rfl rfl (by decide) rfl rfl rfl rfl (Nat.le_of_ble_eq_true rfl) rfl ?_
          refine z_eq (ws2 := [eX5 mq mT (nI ty) mD mS (nI ev) mP (nI 7) mI (nI kp) mE (nI sg) at_ mH mX mR mO fs, eI t mS 5 (nf s), eI t mP 40 (nf (shf past 35))]) (by rw [show kn - 1 = 7 by omega]) rfl rfl ?_
          refine z_iconst X (pc := 47) (nI 0) dX5_keeps_47 (by decide) ?_
          refine z_istore_n X (pc := 48) (i := 1) [(1, .int (nI 0)), (0, .ref mq)] dX5_keeps_48 rfl (by decide) rfl ?_
          have loop_49 : ∀ (fuel_49 : Nat) (i : Nat), 5 < i + fuel_49 → (i ≤ 5) → Z D k (0, 0) [eX5 mq mT (nI ty) mD mS (nI ev) mP (nI 7) mI (nI kp) mE (nI sg) at_ mH mX mR mO fs, eI t mS 5 (nf s), eI t mP 40 (nf (lput (shf past 35) (5 * 7) i s))] 49 [(0, .ref mq), (1, .int (nI i))] [] := by
            intro fuel_49
            induction fuel_49 with
            | zero =>
              intro i hfuel_49 hi
              exfalso; omega
            | succ fuel_49 ih_49 =>
              intro i hfuel_49 hi
              refine z_iload_n X (pc := 49) 1 dX5_keeps_49 rfl ?_
              refine z_iconst X (pc := 50) (nI 5) dX5_keeps_50 (by decide) ?_
              refine z_icmp_geN X (pc := 51) 79 (by omega) (by omega) dX5_keeps_51 (by decide) (fun c_51 => ?_) (fun c_51 => ?_)
              · skip
                refine z_aload_n X (pc := 79) 0 dX5_keeps_79 rfl ?_
                refine z_dup X (pc := 80) dX5_keeps_80 rfl ?_
                refine z_get X (pc := 81) 0 6 (.int (nI 7)) tu_5 tw_565 dX5_keeps_81 rfl rfl (by decide) rfl rfl ?_
                refine z_iconst X (pc := 84) (nI 1) dX5_keeps_84 (by decide) ?_
                refine z_iadd X (pc := 85) (v := (nI 8)) dX5_keeps_85 (nI_add 7 1) ?_
                refine z_put X (pc := 86) 0 6 [eX5 mq mT (nI ty) mD mS (nI ev) mP (nI 8) mI (nI kp) mE (nI sg) at_ mH mX mR mO fs, eI t mS 5 (nf s), eI t mP 40 (nf (lput (shf past 35) (5 * 7) i s))] tu_5 tyX5_ok nmX5 tw_565 dX5_keeps_86 rfl rfl (by decide) rfl rfl rfl rfl (Nat.le_of_ble_eq_true rfl) rfl ?_
                obtain rfl : i = 5 := by omega
                obtain rfl : kn = 8 := c_6
                refine z_irow 2 (nf (pput past 8 s)) [eX5 mq mT (nI ty) mD mS (nI ev) mP (nI 8) mI (nI kp) mE (nI sg) at_ mH mX mR mO fs, eI t mS 5 (nf s), eI t mP 40 (nf (pput past 8 s))] rfl (fun j hj => by show nI _ = nI _; rw [pput_8 past s j hj]) rfl ?_
                exact hRet.v dX5_keeps_89 ⟨rfl, rfl⟩
              · skip
                refine z_aload_n X (pc := 54) 0 dX5_keeps_54 rfl ?_
                refine z_get X (pc := 55) 0 5 (.ref mP) tu_5 tw_564 dX5_keeps_55 rfl rfl (by decide) rfl rfl ?_
                refine z_iconst X (pc := 58) (nI 5) dX5_keeps_58 (by decide) ?_
                refine z_aload_n X (pc := 59) 0 dX5_keeps_59 rfl ?_
                refine z_get X (pc := 60) 0 6 (.int (nI 7)) tu_5 tw_565 dX5_keeps_60 rfl rfl (by decide) rfl rfl ?_
                refine z_imul X (pc := 63) (v := (nI 35)) dX5_keeps_63 (pk_mul _ _) ?_
                refine z_iload_n X (pc := 64) 1 dX5_keeps_64 rfl ?_
                refine z_iadd X (pc := 65) (v := (nI (35 + i))) dX5_keeps_65 (nI_add 35 i) ?_
                refine z_aload_n X (pc := 66) 0 dX5_keeps_66 rfl ?_
                refine z_get X (pc := 67) 0 3 (.ref mS) tu_5 tw_562 dX5_keeps_67 rfl rfl (by decide) rfl rfl ?_
                refine z_iload_n X (pc := 70) 1 dX5_keeps_70 rfl ?_
                refine z_iald X (pc := 71) 1 i (nI (s i)) dX5_keeps_71 rfl rfl (Nat.le_of_ble_eq_true rfl) (by omega) rfl ?_
                refine z_iast X (pc := 72) 2 (35 + i) (nf (lput (shf past 35) (5 * 7) (i + 1) s)) [eX5 mq mT (nI ty) mD mS (nI ev) mP (nI 7) mI (nI kp) mE (nI sg) at_ mH mX mR mO fs, eI t mS 5 (nf s), eI t mP 40 (nf (lput (shf past 35) (5 * 7) (i + 1) s))] dX5_keeps_72 rfl rfl (Nat.le_of_ble_eq_true rfl) (by omega) (by rw [upd_nf, lput_step]) rfl ?_
                refine z_iinc X (pc := 73) (i := 1) 1 (nI (i + 1)) [(1, .int (nI (i + 1))), (0, .ref mq)] dX5_keeps_73 rfl (nI_incc i 1) (by decide) rfl ?_
                refine z_goto X (pc := 76) 49 dX5_keeps_76 (by decide) ?_
                refine z_lv [1, 0] (lv2 := [(0, .ref mq), (1, .int (nI (i + 1)))]) rfl ?_
                exact ih_49 (i + 1) (by omega) (by omega)
          refine z_eq (ws2 := [eX5 mq mT (nI ty) mD mS (nI ev) mP (nI 7) mI (nI kp) mE (nI sg) at_ mH mX mR mO fs, eI t mS 5 (nf s), eI t mP 40 (nf (lput (shf past 35) (5 * 7) 0 s))]) (by rw [← lput_0]) rfl rfl ?_
          refine z_lv [1, 0] (lv2 := [(0, .ref mq), (1, .int (nI 0))]) rfl ?_
          exact loop_49 6 0 (by omega) (by omega)
        · skip
          refine z_aload_n X (pc := 17) 0 dX5_keeps_17 rfl ?_
          refine z_get X (pc := 18) 0 5 (.ref mP) tu_5 tw_564 dX5_keeps_18 rfl rfl (by decide) rfl rfl ?_
          refine z_iload_n X (pc := 21) 1 dX5_keeps_21 rfl ?_
          refine z_aload_n X (pc := 22) 0 dX5_keeps_22 rfl ?_
          refine z_get X (pc := 23) 0 5 (.ref mP) tu_5 tw_564 dX5_keeps_23 rfl rfl (by decide) rfl rfl ?_
          refine z_iload_n X (pc := 26) 1 dX5_keeps_26 rfl ?_
          refine z_iconst X (pc := 27) (nI 5) dX5_keeps_27 (by decide) ?_
          refine z_iadd X (pc := 28) (v := (nI (i + 5))) dX5_keeps_28 (nI_add i 5) ?_
          refine z_iald X (pc := 29) 2 (i + 5) (nI (past (i + 5))) dX5_keeps_29 rfl rfl (Nat.le_of_ble_eq_true rfl) (by omega) (by show nI _ = nI _; rw [shf_at]) ?_
          refine z_iast X (pc := 30) 2 i (nf (shf past (i + 1))) [eX5 mq mT (nI ty) mD mS (nI ev) mP (nI kn) mI (nI kp) mE (nI sg) at_ mH mX mR mO fs, eI t mS 5 (nf s), eI t mP 40 (nf (shf past (i + 1)))] dX5_keeps_30 rfl rfl (Nat.le_of_ble_eq_true rfl) (by omega) (by rw [upd_nf, shf_step]) rfl ?_
          refine z_iinc X (pc := 31) (i := 1) 1 (nI (i + 1)) [(1, .int (nI (i + 1))), (0, .ref mq)] dX5_keeps_31 rfl (nI_incc i 1) (by decide) rfl ?_
          refine z_goto X (pc := 34) 11 dX5_keeps_34 (by decide) ?_
          refine z_lv [1, 0] (lv2 := [(0, .ref mq), (1, .int (nI (i + 1)))]) rfl ?_
          exact ih_11 (i + 1) (by omega) (by omega)
    refine z_eq (ws2 := [eX5 mq mT (nI ty) mD mS (nI ev) mP (nI kn) mI (nI kp) mE (nI sg) at_ mH mX mR mO fs, eI t mS 5 (nf s), eI t mP 40 (nf (shf past 0))]) (by rw [← shf_0]) rfl rfl ?_
    refine z_lv [1, 0] (lv2 := [(0, .ref mq), (1, .int (nI 0))]) rfl ?_
    exact loop_11 36 0 (by omega) (by omega)

abbrev rm_X5_reach : Room := { frames := 1, cells := 0, slots := 0, locals := 22 }
set_option maxHeartbeats 4000000 in
set_option maxRecDepth 100000 in
theorem c_X5_reach (lq : Launch) (D : va_G) (t : zT) (mq mT mD mS mP mI mE mH mX mR mO ty ev kn kp sg : Nat) (at_ : Int32) (fs : Int64) (s past : Nat → Nat) (e : Int32) (hs : sOk s) (hkn : kn ≤ 8) : Ct lq D t yX5_reach cX5_reach 2 (some .int) rm_X5_reach [.ref mq, .int e] [eX5 mq mT (nI ty) mD mS (nI ev) mP (nI kn) mI (nI kp) mE (nI sg) at_ mH mX mR mO fs, eI t mS 5 (nf s), eI t mP 40 (nf past)] 0 0 (fun rv rw_ => rv = some (.int (an_reach s (dz 0 1 e))) ∧ rw_ = [eX5 mq mT (nI ty) mD mS (nI ev) mP (nI (nx_kn ((dz 0 1 e).isSome) kn)) mI (nI kp) mE (nI sg) at_ mH mX mR mO fs, eI t mS 5 (nf (nx_reach s (dz 0 1 e))), eI t mP 40 (nf (nx_past ((dz 0 1 e).isSome) past kn s))]) := by
  refine Ct.of (by decide) (Nat.le_of_ble_eq_true rfl) (fun k X hRet => ?_)
  have X : zX D t k cX5_reach 2 RX5 "reach" rm_X5_reach lq := X
  refine z_eq (lv2 := [(0, .ref mq), (1, .int e)]) rfl rfl rfl ?_
  obtain ⟨hs0, hs1, hs2, hs3, hs4⟩ := hs
  refine z_iload_n X (pc := 0) 1 dX5_reach_0 rfl ?_
  refine z_iconst X (pc := 1) (nI 0) dX5_reach_1 (by decide) ?_
  refine z_iconst X (pc := 2) (nI 1) dX5_reach_2 (by decide) ?_
  refine zc_S (as := [.int e, .int (nI 0), .int (nI 1)]) X (pc := 3) (c_X5_in lq D t e (nI 0) (nI 1) ) tw_615 tw_617 tw_7 tw_616 [] rfl rfl dX5_reach_3 rfl zdX5_in ⟨rfl, rfl, Nat.le_of_ble_eq_true rfl, Nat.le_of_ble_eq_true rfl⟩ (Nat.le_of_ble_eq_true rfl) (Nat.zero_le _) (Nat.zero_le _) (fun v_1 w_2 hp_3 => ?_)
  obtain ⟨rfl, rfl⟩ := hp_3
  refine ⟨rfl, ?_⟩
  refine z_eq (ws2 := [eX5 mq mT (nI ty) mD mS (nI ev) mP (nI kn) mI (nI kp) mE (nI sg) at_ mH mX mR mO fs, eI t mS 5 (nf s), eI t mP 40 (nf past)]) (st2 := [.int (zb ((nI 0) ≤ e ∧ e ≤ (nI 1)))]) rfl rfl rfl ?_
  refine z_if_neB X (pc := 6) 11 dX5_reach_6 (by decide) (fun c_6 => ?_) (fun c_6 => ?_)
  · skip
    obtain ⟨sd, sd_lo, sd_hi, rfl⟩ := inR (by decide) (by decide) c_6
    rcases (show sd = 0 ∨ sd = 1 by omega) with rfl | rfl
    · skip
      refine z_aload_n X (pc := 11) 0 dX5_reach_11 rfl ?_
      refine zc_V (as := []) X (pc := 12) (c_X5_keeps lq D t mq mT mD mS mP mI mE mH mX mR mO ty ev kn kp sg at_ fs s past (by omega)) tw_668 tw_671 tw_7 tw_670 tw_1029 0 5 rfl rfl [0, 1, 2] rfl rfl dX5_reach_12 rfl zdX5_keeps ⟨rfl, rfl, Nat.le_of_ble_eq_true rfl, Nat.le_of_ble_eq_true rfl⟩ (Nat.le_of_ble_eq_true rfl) (Nat.zero_le _) (Nat.zero_le _) (fun v_4 w_5 hp_6 => ?_)
      obtain ⟨rfl, rfl⟩ := hp_6
      refine ⟨rfl, ?_⟩
      refine z_eq (ws2 := [eX5 mq mT (nI ty) mD mS (nI ev) mP (nI (if kn = 8 then 8 else kn + 1)) mI (nI kp) mE (nI sg) at_ mH mX mR mO fs, eI t mS 5 (nf s), eI t mP 40 (nf (pput past kn s))]) (st2 := []) rfl rfl rfl ?_
      refine z_aload_n X (pc := 15) 0 dX5_reach_15 rfl ?_
      refine z_get X (pc := 16) 0 3 (.ref mS) tu_5 tw_562 dX5_reach_16 rfl rfl (by decide) rfl rfl ?_
      refine z_iconst X (pc := 19) (nI 2) dX5_reach_19 (by decide) ?_
      refine z_iload_n X (pc := 20) 1 dX5_reach_20 rfl ?_
      refine z_iast X (pc := 21) 1 2 (nf (vup s 2 0)) [eX5 mq mT (nI ty) mD mS (nI ev) mP (nI (if kn = 8 then 8 else kn + 1)) mI (nI kp) mE (nI sg) at_ mH mX mR mO fs, eI t mS 5 (nf (vup s 2 0)), eI t mP 40 (nf (pput past kn s))] dX5_reach_21 rfl rfl (Nat.le_of_ble_eq_true rfl) (by decide) (upd_nf _ _ _) rfl ?_
      refine z_aload_n X (pc := 22) 0 dX5_reach_22 rfl ?_
      refine z_get X (pc := 23) 0 3 (.ref mS) tu_5 tw_562 dX5_reach_23 rfl rfl (by decide) rfl rfl ?_
      refine z_iload_n X (pc := 26) 1 dX5_reach_26 rfl ?_
      refine z_iald X (pc := 27) 1 0 (nI (s 0)) dX5_reach_27 rfl rfl (Nat.le_of_ble_eq_true rfl) (by decide) rfl ?_
      refine z_if_neN X (pc := 28) 34 (by omega) dX5_reach_28 (by decide) (fun c_28 => ?_) (fun c_28 => ?_)
      · skip
        refine z_aload_n X (pc := 34) 0 dX5_reach_34 rfl ?_
        refine z_get X (pc := 35) 0 3 (.ref mS) tu_5 tw_562 dX5_reach_35 rfl rfl (by decide) rfl rfl ?_
        refine z_iload_n X (pc := 38) 1 dX5_reach_38 rfl ?_
        refine z_dup2_11 X (pc := 39) dX5_reach_39 rfl rfl ?_
        refine z_iald X (pc := 40) 1 0 (nI (s 0)) dX5_reach_40 rfl rfl (Nat.le_of_ble_eq_true rfl) (by decide) rfl ?_
        refine z_iconst X (pc := 41) (nI 1) dX5_reach_41 (by decide) ?_
        refine z_isub X (pc := 42) (v := (nI ((s 0) - 1))) dX5_reach_42 (pk_sub (by omega)) ?_
        refine z_iast X (pc := 43) 1 0 (nf (vup (vup s 2 0) 0 ((s 0) - 1))) [eX5 mq mT (nI ty) mD mS (nI ev) mP (nI (if kn = 8 then 8 else kn + 1)) mI (nI kp) mE (nI sg) at_ mH mX mR mO fs, eI t mS 5 (nf (vup (vup s 2 0) 0 ((s 0) - 1))), eI t mP 40 (nf (pput past kn s))] dX5_reach_43 rfl rfl (Nat.le_of_ble_eq_true rfl) (by decide) (upd_nf _ _ _) rfl ?_
        refine z_aload_n X (pc := 44) 0 dX5_reach_44 rfl ?_
        refine z_get X (pc := 45) 0 3 (.ref mS) tu_5 tw_562 dX5_reach_45 rfl rfl (by decide) rfl rfl ?_
        refine z_iload_n X (pc := 48) 1 dX5_reach_48 rfl ?_
        refine z_iald X (pc := 49) 1 0 (nI ((s 0) - 1)) dX5_reach_49 rfl rfl (Nat.le_of_ble_eq_true rfl) (by decide) rfl ?_
        exact hRet.i dX5_reach_50 ⟨by rw [dz_ok (by decide) (by decide) (by decide)]; simp only [an_reach, if_neg c_28], by rw [dz_ok (by decide) (by decide) (by decide)]; rfl⟩
      · skip
        refine z_bipush X (pc := 31) (-5) dX5_reach_31 (by decide) ?_
        exact hRet.i dX5_reach_33 ⟨by rw [dz_ok (by decide) (by decide) (by decide)]; simp only [an_reach, if_pos c_28], by rw [dz_ok (by decide) (by decide) (by decide)]; show _ = [_, eI t mS 5 (nf (vup (vup s 2 0) 0 (s 0 - 1))), _]; rw [vup_same (g := vup s 2 0) (j := 0) (x := s 0 - 1) (by show s 0 = s 0 - 1; omega)]; rfl⟩
    · skip
      refine z_aload_n X (pc := 11) 0 dX5_reach_11 rfl ?_
      refine zc_V (as := []) X (pc := 12) (c_X5_keeps lq D t mq mT mD mS mP mI mE mH mX mR mO ty ev kn kp sg at_ fs s past (by omega)) tw_668 tw_671 tw_7 tw_670 tw_1029 0 5 rfl rfl [0, 1, 2] rfl rfl dX5_reach_12 rfl zdX5_keeps ⟨rfl, rfl, Nat.le_of_ble_eq_true rfl, Nat.le_of_ble_eq_true rfl⟩ (Nat.le_of_ble_eq_true rfl) (Nat.zero_le _) (Nat.zero_le _) (fun v_7 w_8 hp_9 => ?_)
      obtain ⟨rfl, rfl⟩ := hp_9
      refine ⟨rfl, ?_⟩
      refine z_eq (ws2 := [eX5 mq mT (nI ty) mD mS (nI ev) mP (nI (if kn = 8 then 8 else kn + 1)) mI (nI kp) mE (nI sg) at_ mH mX mR mO fs, eI t mS 5 (nf s), eI t mP 40 (nf (pput past kn s))]) (st2 := []) rfl rfl rfl ?_
      refine z_aload_n X (pc := 15) 0 dX5_reach_15 rfl ?_
      refine z_get X (pc := 16) 0 3 (.ref mS) tu_5 tw_562 dX5_reach_16 rfl rfl (by decide) rfl rfl ?_
      refine z_iconst X (pc := 19) (nI 2) dX5_reach_19 (by decide) ?_
      refine z_iload_n X (pc := 20) 1 dX5_reach_20 rfl ?_
      refine z_iast X (pc := 21) 1 2 (nf (vup s 2 1)) [eX5 mq mT (nI ty) mD mS (nI ev) mP (nI (if kn = 8 then 8 else kn + 1)) mI (nI kp) mE (nI sg) at_ mH mX mR mO fs, eI t mS 5 (nf (vup s 2 1)), eI t mP 40 (nf (pput past kn s))] dX5_reach_21 rfl rfl (Nat.le_of_ble_eq_true rfl) (by decide) (upd_nf _ _ _) rfl ?_
      refine z_aload_n X (pc := 22) 0 dX5_reach_22 rfl ?_
      refine z_get X (pc := 23) 0 3 (.ref mS) tu_5 tw_562 dX5_reach_23 rfl rfl (by decide) rfl rfl ?_
      refine z_iload_n X (pc := 26) 1 dX5_reach_26 rfl ?_
      refine z_iald X (pc := 27) 1 1 (nI (s 1)) dX5_reach_27 rfl rfl (Nat.le_of_ble_eq_true rfl) (by decide) rfl ?_
      refine z_if_neN X (pc := 28) 34 (by omega) dX5_reach_28 (by decide) (fun c_28 => ?_) (fun c_28 => ?_)
      · skip
        refine z_aload_n X (pc := 34) 0 dX5_reach_34 rfl ?_
        refine z_get X (pc := 35) 0 3 (.ref mS) tu_5 tw_562 dX5_reach_35 rfl rfl (by decide) rfl rfl ?_
        refine z_iload_n X (pc := 38) 1 dX5_reach_38 rfl ?_
        refine z_dup2_11 X (pc := 39) dX5_reach_39 rfl rfl ?_
        refine z_iald X (pc := 40) 1 1 (nI (s 1)) dX5_reach_40 rfl rfl (Nat.le_of_ble_eq_true rfl) (by decide) rfl ?_
        refine z_iconst X (pc := 41) (nI 1) dX5_reach_41 (by decide) ?_
        refine z_isub X (pc := 42) (v := (nI ((s 1) - 1))) dX5_reach_42 (pk_sub (by omega)) ?_
        refine z_iast X (pc := 43) 1 1 (nf (vup (vup s 2 1) 1 ((s 1) - 1))) [eX5 mq mT (nI ty) mD mS (nI ev) mP (nI (if kn = 8 then 8 else kn + 1)) mI (nI kp) mE (nI sg) at_ mH mX mR mO fs, eI t mS 5 (nf (vup (vup s 2 1) 1 ((s 1) - 1))), eI t mP 40 (nf (pput past kn s))] dX5_reach_43 rfl rfl (Nat.le_of_ble_eq_true rfl) (by decide) (upd_nf _ _ _) rfl ?_
        refine z_aload_n X (pc := 44) 0 dX5_reach_44 rfl ?_
        refine z_get X (pc := 45) 0 3 (.ref mS) tu_5 tw_562 dX5_reach_45 rfl rfl (by decide) rfl rfl ?_
        refine z_iload_n X (pc := 48) 1 dX5_reach_48 rfl ?_
        refine z_iald X (pc := 49) 1 1 (nI ((s 1) - 1)) dX5_reach_49 rfl rfl (Nat.le_of_ble_eq_true rfl) (by decide) rfl ?_
        exact hRet.i dX5_reach_50 ⟨by rw [dz_ok (by decide) (by decide) (by decide)]; simp only [an_reach, if_neg c_28], by rw [dz_ok (by decide) (by decide) (by decide)]; rfl⟩
      · skip
        refine z_bipush X (pc := 31) (-5) dX5_reach_31 (by decide) ?_
        exact hRet.i dX5_reach_33 ⟨by rw [dz_ok (by decide) (by decide) (by decide)]; simp only [an_reach, if_pos c_28], by rw [dz_ok (by decide) (by decide) (by decide)]; show _ = [_, eI t mS 5 (nf (vup (vup s 2 1) 1 (s 1 - 1))), _]; rw [vup_same (g := vup s 2 1) (j := 1) (x := s 1 - 1) (by show s 1 = s 1 - 1; omega)]; rfl⟩
  · skip
    refine z_iconst X (pc := 9) (-1) dX5_reach_9 (by decide) ?_
    exact hRet.i dX5_reach_10 ⟨by rw [dz_bad c_6]; rfl, by rw [dz_bad c_6]; rfl⟩

abbrev rm_X5_buy : Room := { frames := 1, cells := 0, slots := 0, locals := 22 }
set_option maxHeartbeats 4000000 in
set_option maxRecDepth 100000 in
theorem c_X5_buy (lq : Launch) (D : va_G) (t : zT) (mq mT mD mS mP mI mE mH mX mR mO ty ev kn kp sg : Nat) (at_ : Int32) (fs : Int64) (s past : Nat → Nat) (e : Int32) (hs : sOk s) (hkn : kn ≤ 8) : Ct lq D t yX5_buy cX5_buy 3 (some .int) rm_X5_buy [.ref mq, .int e] [eX5 mq mT (nI ty) mD mS (nI ev) mP (nI kn) mI (nI kp) mE (nI sg) at_ mH mX mR mO fs, eI t mS 5 (nf s), eI t mP 40 (nf past)] 0 0 (fun rv rw_ => rv = some (.int (an_box s (dz 0 1 e))) ∧ rw_ = [eX5 mq mT (nI ty) mD mS (nI ev) mP (nI (nx_kn ((dz 0 1 e).isSome) kn)) mI (nI kp) mE (nI sg) at_ mH mX mR mO fs, eI t mS 5 (nf (nx_buy s (dz 0 1 e))), eI t mP 40 (nf (nx_past ((dz 0 1 e).isSome) past kn s))]) := by
  refine Ct.of (by decide) (Nat.le_of_ble_eq_true rfl) (fun k X hRet => ?_)
  have X : zX D t k cX5_buy 3 RX5 "buy" rm_X5_buy lq := X
  refine z_eq (lv2 := [(0, .ref mq), (1, .int e)]) rfl rfl rfl ?_
  obtain ⟨hs0, hs1, hs2, hs3, hs4⟩ := hs
  refine z_iload_n X (pc := 0) 1 dX5_buy_0 rfl ?_
  refine z_iconst X (pc := 1) (nI 0) dX5_buy_1 (by decide) ?_
  refine z_iconst X (pc := 2) (nI 1) dX5_buy_2 (by decide) ?_
  refine zc_S (as := [.int e, .int (nI 0), .int (nI 1)]) X (pc := 3) (c_X5_in lq D t e (nI 0) (nI 1) ) tw_615 tw_617 tw_7 tw_616 [] rfl rfl dX5_buy_3 rfl zdX5_in ⟨rfl, rfl, Nat.le_of_ble_eq_true rfl, Nat.le_of_ble_eq_true rfl⟩ (Nat.le_of_ble_eq_true rfl) (Nat.zero_le _) (Nat.zero_le _) (fun v_1 w_2 hp_3 => ?_)
  obtain ⟨rfl, rfl⟩ := hp_3
  refine ⟨rfl, ?_⟩
  refine z_eq (ws2 := [eX5 mq mT (nI ty) mD mS (nI ev) mP (nI kn) mI (nI kp) mE (nI sg) at_ mH mX mR mO fs, eI t mS 5 (nf s), eI t mP 40 (nf past)]) (st2 := [.int (zb ((nI 0) ≤ e ∧ e ≤ (nI 1)))]) rfl rfl rfl ?_
  refine z_if_neB X (pc := 6) 11 dX5_buy_6 (by decide) (fun c_6 => ?_) (fun c_6 => ?_)
  · skip
    obtain ⟨sd, sd_lo, sd_hi, rfl⟩ := inR (by decide) (by decide) c_6
    rcases (show sd = 0 ∨ sd = 1 by omega) with rfl | rfl
    · skip
      refine z_aload_n X (pc := 11) 0 dX5_buy_11 rfl ?_
      refine zc_V (as := []) X (pc := 12) (c_X5_keeps lq D t mq mT mD mS mP mI mE mH mX mR mO ty ev kn kp sg at_ fs s past (by omega)) tw_668 tw_671 tw_7 tw_670 tw_1029 0 5 rfl rfl [0, 1, 2] rfl rfl dX5_buy_12 rfl zdX5_keeps ⟨rfl, rfl, Nat.le_of_ble_eq_true rfl, Nat.le_of_ble_eq_true rfl⟩ (Nat.le_of_ble_eq_true rfl) (Nat.zero_le _) (Nat.zero_le _) (fun v_4 w_5 hp_6 => ?_)
      obtain ⟨rfl, rfl⟩ := hp_6
      refine ⟨rfl, ?_⟩
      refine z_eq (ws2 := [eX5 mq mT (nI ty) mD mS (nI ev) mP (nI (if kn = 8 then 8 else kn + 1)) mI (nI kp) mE (nI sg) at_ mH mX mR mO fs, eI t mS 5 (nf s), eI t mP 40 (nf (pput past kn s))]) (st2 := []) rfl rfl rfl ?_
      refine z_aload_n X (pc := 15) 0 dX5_buy_15 rfl ?_
      refine z_get X (pc := 16) 0 3 (.ref mS) tu_5 tw_562 dX5_buy_16 rfl rfl (by decide) rfl rfl ?_
      refine z_iload_n X (pc := 19) 1 dX5_buy_19 rfl ?_
      refine z_iald X (pc := 20) 1 0 (nI (s 0)) dX5_buy_20 rfl rfl (Nat.le_of_ble_eq_true rfl) (by decide) rfl ?_
      refine z_istore_n X (pc := 21) (i := 2) [(2, .int (nI (s 0))), (0, .ref mq), (1, .int (nI 0))] dX5_buy_21 rfl (by decide) rfl ?_
      refine z_aload_n X (pc := 22) 1 dX5_buy_22 rfl ?_
      refine z_get X (pc := 23) 0 3 (.ref mS) tu_5 tw_562 dX5_buy_23 rfl rfl (by decide) rfl rfl ?_
      refine z_iload_n X (pc := 26) 2 dX5_buy_26 rfl ?_
      refine z_bipush X (pc := 27) (nI 10) dX5_buy_27 (by decide) ?_
      refine z_iast X (pc := 29) 1 0 (nf (vup s 0 10)) [eX5 mq mT (nI ty) mD mS (nI ev) mP (nI (if kn = 8 then 8 else kn + 1)) mI (nI kp) mE (nI sg) at_ mH mX mR mO fs, eI t mS 5 (nf (vup s 0 10)), eI t mP 40 (nf (pput past kn s))] dX5_buy_29 rfl rfl (Nat.le_of_ble_eq_true rfl) (by decide) (upd_nf _ _ _) rfl ?_
      refine z_iload_n X (pc := 30) 0 dX5_buy_30 rfl ?_
      exact hRet.i dX5_buy_31 ⟨by rw [dz_ok (by decide) (by decide) (by decide)]; rfl, by rw [dz_ok (by decide) (by decide) (by decide)]; rfl⟩
    · skip
      refine z_aload_n X (pc := 11) 0 dX5_buy_11 rfl ?_
      refine zc_V (as := []) X (pc := 12) (c_X5_keeps lq D t mq mT mD mS mP mI mE mH mX mR mO ty ev kn kp sg at_ fs s past (by omega)) tw_668 tw_671 tw_7 tw_670 tw_1029 0 5 rfl rfl [0, 1, 2] rfl rfl dX5_buy_12 rfl zdX5_keeps ⟨rfl, rfl, Nat.le_of_ble_eq_true rfl, Nat.le_of_ble_eq_true rfl⟩ (Nat.le_of_ble_eq_true rfl) (Nat.zero_le _) (Nat.zero_le _) (fun v_7 w_8 hp_9 => ?_)
      obtain ⟨rfl, rfl⟩ := hp_9
      refine ⟨rfl, ?_⟩
      refine z_eq (ws2 := [eX5 mq mT (nI ty) mD mS (nI ev) mP (nI (if kn = 8 then 8 else kn + 1)) mI (nI kp) mE (nI sg) at_ mH mX mR mO fs, eI t mS 5 (nf s), eI t mP 40 (nf (pput past kn s))]) (st2 := []) rfl rfl rfl ?_
      refine z_aload_n X (pc := 15) 0 dX5_buy_15 rfl ?_
      refine z_get X (pc := 16) 0 3 (.ref mS) tu_5 tw_562 dX5_buy_16 rfl rfl (by decide) rfl rfl ?_
      refine z_iload_n X (pc := 19) 1 dX5_buy_19 rfl ?_
      refine z_iald X (pc := 20) 1 1 (nI (s 1)) dX5_buy_20 rfl rfl (Nat.le_of_ble_eq_true rfl) (by decide) rfl ?_
      refine z_istore_n X (pc := 21) (i := 2) [(2, .int (nI (s 1))), (0, .ref mq), (1, .int (nI 1))] dX5_buy_21 rfl (by decide) rfl ?_
      refine z_aload_n X (pc := 22) 1 dX5_buy_22 rfl ?_
      refine z_get X (pc := 23) 0 3 (.ref mS) tu_5 tw_562 dX5_buy_23 rfl rfl (by decide) rfl rfl ?_
      refine z_iload_n X (pc := 26) 2 dX5_buy_26 rfl ?_
      refine z_bipush X (pc := 27) (nI 10) dX5_buy_27 (by decide) ?_
      refine z_iast X (pc := 29) 1 1 (nf (vup s 1 10)) [eX5 mq mT (nI ty) mD mS (nI ev) mP (nI (if kn = 8 then 8 else kn + 1)) mI (nI kp) mE (nI sg) at_ mH mX mR mO fs, eI t mS 5 (nf (vup s 1 10)), eI t mP 40 (nf (pput past kn s))] dX5_buy_29 rfl rfl (Nat.le_of_ble_eq_true rfl) (by decide) (upd_nf _ _ _) rfl ?_
      refine z_iload_n X (pc := 30) 0 dX5_buy_30 rfl ?_
      exact hRet.i dX5_buy_31 ⟨by rw [dz_ok (by decide) (by decide) (by decide)]; rfl, by rw [dz_ok (by decide) (by decide) (by decide)]; rfl⟩
  · skip
    refine z_iconst X (pc := 9) (-1) dX5_buy_9 (by decide) ?_
    exact hRet.i dX5_buy_10 ⟨by rw [dz_bad c_6]; rfl, by rw [dz_bad c_6]; rfl⟩

abbrev rm_X5_hand : Room := { frames := 1, cells := 0, slots := 0, locals := 22 }
set_option maxHeartbeats 4000000 in
set_option maxRecDepth 100000 in
theorem c_X5_hand (lq : Launch) (D : va_G) (t : zT) (mq mT mD mS mP mI mE mH mX mR mO ty ev kn kp sg : Nat) (at_ : Int32) (fs : Int64) (s past : Nat → Nat) (e f : Int32) (hs : sOk s) (hkn : kn ≤ 8) : Ct lq D t yX5_hand cX5_hand 4 (some .int) rm_X5_hand [.ref mq, .int e, .int f] [eX5 mq mT (nI ty) mD mS (nI ev) mP (nI kn) mI (nI kp) mE (nI sg) at_ mH mX mR mO fs, eI t mS 5 (nf s), eI t mP 40 (nf past)] 0 0 (fun rv rw_ => rv = some (.int (an_hand s (dz 0 3 e) (dz 0 4 f))) ∧ rw_ = [eX5 mq mT (nI ty) mD mS (nI ev) mP (nI (nx_kn (ok2 (dz 0 3 e) (dz 0 4 f)) kn)) mI (nI kp) mE (nI sg) at_ mH mX mR mO fs, eI t mS 5 (nf (nx_hand s (dz 0 3 e) (dz 0 4 f))), eI t mP 40 (nf (nx_past (ok2 (dz 0 3 e) (dz 0 4 f)) past kn s))]) := by
  refine Ct.of (by decide) (Nat.le_of_ble_eq_true rfl) (fun k X hRet => ?_)
  have X : zX D t k cX5_hand 4 RX5 "hand" rm_X5_hand lq := X
  refine z_eq (lv2 := [(0, .ref mq), (1, .int e), (2, .int f)]) rfl rfl rfl ?_
  obtain ⟨hs0, hs1, hs2, hs3, hs4⟩ := hs
  refine z_iload_n X (pc := 0) 1 dX5_hand_0 rfl ?_
  refine z_iconst X (pc := 1) (nI 0) dX5_hand_1 (by decide) ?_
  refine z_iconst X (pc := 2) (nI 3) dX5_hand_2 (by decide) ?_
  refine zc_S (as := [.int e, .int (nI 0), .int (nI 3)]) X (pc := 3) (c_X5_in lq D t e (nI 0) (nI 3) ) tw_615 tw_617 tw_7 tw_616 [] rfl rfl dX5_hand_3 rfl zdX5_in ⟨rfl, rfl, Nat.le_of_ble_eq_true rfl, Nat.le_of_ble_eq_true rfl⟩ (Nat.le_of_ble_eq_true rfl) (Nat.zero_le _) (Nat.zero_le _) (fun v_1 w_2 hp_3 => ?_)
  obtain ⟨rfl, rfl⟩ := hp_3
  refine ⟨rfl, ?_⟩
  refine z_eq (ws2 := [eX5 mq mT (nI ty) mD mS (nI ev) mP (nI kn) mI (nI kp) mE (nI sg) at_ mH mX mR mO fs, eI t mS 5 (nf s), eI t mP 40 (nf past)]) (st2 := [.int (zb ((nI 0) ≤ e ∧ e ≤ (nI 3)))]) rfl rfl rfl ?_
  refine z_if_eqB X (pc := 6) 18 dX5_hand_6 (by decide) (fun c_6 => ?_) (fun c_6 => ?_)
  · skip
    refine z_iconst X (pc := 18) (-1) dX5_hand_18 (by decide) ?_
    exact hRet.i dX5_hand_19 ⟨by rw [an_hand_bad (fun z => c_6 z.1)], by rw [nx_hand_bad (fun z => c_6 z.1), ok2_bad (fun z => c_6 z.1)]; rfl⟩
  · skip
    refine z_iload_n X (pc := 9) 2 dX5_hand_9 rfl ?_
    refine z_iconst X (pc := 10) (nI 0) dX5_hand_10 (by decide) ?_
    refine z_iconst X (pc := 11) (nI 4) dX5_hand_11 (by decide) ?_
    refine zc_S (as := [.int f, .int (nI 0), .int (nI 4)]) X (pc := 12) (c_X5_in lq D t f (nI 0) (nI 4) ) tw_615 tw_617 tw_7 tw_616 [] rfl rfl dX5_hand_12 rfl zdX5_in ⟨rfl, rfl, Nat.le_of_ble_eq_true rfl, Nat.le_of_ble_eq_true rfl⟩ (Nat.le_of_ble_eq_true rfl) (Nat.zero_le _) (Nat.zero_le _) (fun v_4 w_5 hp_6 => ?_)
    obtain ⟨rfl, rfl⟩ := hp_6
    refine ⟨rfl, ?_⟩
    refine z_eq (ws2 := [eX5 mq mT (nI ty) mD mS (nI ev) mP (nI kn) mI (nI kp) mE (nI sg) at_ mH mX mR mO fs, eI t mS 5 (nf s), eI t mP 40 (nf past)]) (st2 := [.int (zb ((nI 0) ≤ f ∧ f ≤ (nI 4)))]) rfl rfl rfl ?_
    refine z_if_neB X (pc := 15) 20 dX5_hand_15 (by decide) (fun c_15 => ?_) (fun c_15 => ?_)
    · skip
      obtain ⟨kd, kd_lo, kd_hi, rfl⟩ := inR (by decide) (by decide) c_6
      obtain ⟨x, x_lo, x_hi, rfl⟩ := inR (by decide) (by decide) c_15
      refine z_aload_n X (pc := 20) 0 dX5_hand_20 rfl ?_
      refine zc_V (as := []) X (pc := 21) (c_X5_keeps lq D t mq mT mD mS mP mI mE mH mX mR mO ty ev kn kp sg at_ fs s past (by omega)) tw_668 tw_671 tw_7 tw_670 tw_1029 0 5 rfl rfl [0, 1, 2] rfl rfl dX5_hand_21 rfl zdX5_keeps ⟨rfl, rfl, Nat.le_of_ble_eq_true rfl, Nat.le_of_ble_eq_true rfl⟩ (Nat.le_of_ble_eq_true rfl) (Nat.zero_le _) (Nat.zero_le _) (fun v_7 w_8 hp_9 => ?_)
      obtain ⟨rfl, rfl⟩ := hp_9
      refine ⟨rfl, ?_⟩
      refine z_eq (ws2 := [eX5 mq mT (nI ty) mD mS (nI ev) mP (nI (if kn = 8 then 8 else kn + 1)) mI (nI kp) mE (nI sg) at_ mH mX mR mO fs, eI t mS 5 (nf s), eI t mP 40 (nf (pput past kn s))]) (st2 := []) rfl rfl rfl ?_
      refine z_bipush X (pc := 24) (nI 10) dX5_hand_24 (by decide) ?_
      refine z_aload_n X (pc := 26) 0 dX5_hand_26 rfl ?_
      refine z_get X (pc := 27) 0 3 (.ref mS) tu_5 tw_562 dX5_hand_27 rfl rfl (by decide) rfl rfl ?_
      refine z_iconst X (pc := 30) (nI 3) dX5_hand_30 (by decide) ?_
      refine z_iald X (pc := 31) 1 3 (nI (s 3)) dX5_hand_31 rfl rfl (Nat.le_of_ble_eq_true rfl) (by decide) rfl ?_
      refine z_imul X (pc := 32) (v := (nI (10 * (s 3)))) dX5_hand_32 (pk_mul _ _) ?_
      refine z_aload_n X (pc := 33) 0 dX5_hand_33 rfl ?_
      refine z_get X (pc := 34) 0 3 (.ref mS) tu_5 tw_562 dX5_hand_34 rfl rfl (by decide) rfl rfl ?_
      refine z_iconst X (pc := 37) (nI 4) dX5_hand_37 (by decide) ?_
      refine z_iald X (pc := 38) 1 4 (nI (s 4)) dX5_hand_38 rfl rfl (Nat.le_of_ble_eq_true rfl) (by decide) rfl ?_
      refine z_iadd X (pc := 39) (v := (nI (10 * (s 3) + (s 4)))) dX5_hand_39 (nI_add (10 * (s 3)) (s 4)) ?_
      refine z_istore_n X (pc := 40) (i := 3) [(3, .int (nI (10 * (s 3) + (s 4)))), (0, .ref mq), (1, .int (nI kd)), (2, .int (nI x))] dX5_hand_40 rfl (by decide) rfl ?_
      refine z_aload_n X (pc := 41) 1 dX5_hand_41 rfl ?_
      refine z_get X (pc := 42) 0 3 (.ref mS) tu_5 tw_562 dX5_hand_42 rfl rfl (by decide) rfl rfl ?_
      refine z_iconst X (pc := 45) (nI 3) dX5_hand_45 (by decide) ?_
      refine z_iload_n X (pc := 46) 2 dX5_hand_46 rfl ?_
      refine z_iast X (pc := 47) 1 3 (nf (vup s 3 kd)) [eX5 mq mT (nI ty) mD mS (nI ev) mP (nI (if kn = 8 then 8 else kn + 1)) mI (nI kp) mE (nI sg) at_ mH mX mR mO fs, eI t mS 5 (nf (vup s 3 kd)), eI t mP 40 (nf (pput past kn s))] dX5_hand_47 rfl rfl (Nat.le_of_ble_eq_true rfl) (by decide) (upd_nf _ _ _) rfl ?_
      refine z_aload_n X (pc := 48) 1 dX5_hand_48 rfl ?_
      refine z_get X (pc := 49) 0 3 (.ref mS) tu_5 tw_562 dX5_hand_49 rfl rfl (by decide) rfl rfl ?_
      refine z_iconst X (pc := 52) (nI 4) dX5_hand_52 (by decide) ?_
      refine z_iload_n X (pc := 53) 3 dX5_hand_53 rfl ?_
      refine z_iast X (pc := 54) 1 4 (nf (vup (vup s 3 kd) 4 x)) [eX5 mq mT (nI ty) mD mS (nI ev) mP (nI (if kn = 8 then 8 else kn + 1)) mI (nI kp) mE (nI sg) at_ mH mX mR mO fs, eI t mS 5 (nf (vup (vup s 3 kd) 4 x)), eI t mP 40 (nf (pput past kn s))] dX5_hand_54 rfl rfl (Nat.le_of_ble_eq_true rfl) (by decide) (upd_nf _ _ _) rfl ?_
      refine z_iload_n X (pc := 55) 0 dX5_hand_55 rfl ?_
      exact hRet.i dX5_hand_56 ⟨by rw [dz_ok (a := 0) (b := 3) (by decide) kd_lo kd_hi, dz_ok (a := 0) (b := 4) (by decide) x_lo x_hi]; rfl, by rw [dz_ok (a := 0) (b := 3) (by decide) kd_lo kd_hi, dz_ok (a := 0) (b := 4) (by decide) x_lo x_hi]; rfl⟩
    · skip
      refine z_iconst X (pc := 18) (-1) dX5_hand_18 (by decide) ?_
      exact hRet.i dX5_hand_19 ⟨by rw [an_hand_bad (fun z => c_15 z.2)], by rw [nx_hand_bad (fun z => c_15 z.2), ok2_bad (fun z => c_15 z.2)]; rfl⟩

abbrev rm_X5_putOver : Room := { frames := 1, cells := 0, slots := 0, locals := 22 }
set_option maxHeartbeats 4000000 in
set_option maxRecDepth 100000 in
theorem c_X5_putOver (lq : Launch) (D : va_G) (t : zT) (mq mT mD mS mP mI mE mH mX mR mO ty ev kn kp sg : Nat) (at_ : Int32) (fs : Int64) (s past : Nat → Nat) (e f : Int32) (hs : sOk s) (hkn : kn ≤ 8) : Ct lq D t yX5_putOver cX5_putOver 3 (some .int) rm_X5_putOver [.ref mq, .int e, .int f] [eX5 mq mT (nI ty) mD mS (nI ev) mP (nI kn) mI (nI kp) mE (nI sg) at_ mH mX mR mO fs, eI t mS 5 (nf s), eI t mP 40 (nf past)] 0 0 (fun rv rw_ => rv = some (.int (an_put s (dz 0 1 e) (dz 1 10 f))) ∧ rw_ = [eX5 mq mT (nI ty) mD mS (nI ev) mP (nI (nx_kn (ok_put s (dz 0 1 e) (dz 1 10 f)) kn)) mI (nI kp) mE (nI sg) at_ mH mX mR mO fs, eI t mS 5 (nf (nx_put s (dz 0 1 e) (dz 1 10 f))), eI t mP 40 (nf (nx_past (ok_put s (dz 0 1 e) (dz 1 10 f)) past kn s))]) := by
  refine Ct.of (by decide) (Nat.le_of_ble_eq_true rfl) (fun k X hRet => ?_)
  have X : zX D t k cX5_putOver 3 RX5 "putOver" rm_X5_putOver lq := X
  refine z_eq (lv2 := [(0, .ref mq), (1, .int e), (2, .int f)]) rfl rfl rfl ?_
  obtain ⟨hs0, hs1, hs2, hs3, hs4⟩ := hs
  refine z_iload_n X (pc := 0) 1 dX5_putOver_0 rfl ?_
  refine z_iconst X (pc := 1) (nI 0) dX5_putOver_1 (by decide) ?_
  refine z_iconst X (pc := 2) (nI 1) dX5_putOver_2 (by decide) ?_
  refine zc_S (as := [.int e, .int (nI 0), .int (nI 1)]) X (pc := 3) (c_X5_in lq D t e (nI 0) (nI 1) ) tw_615 tw_617 tw_7 tw_616 [] rfl rfl dX5_putOver_3 rfl zdX5_in ⟨rfl, rfl, Nat.le_of_ble_eq_true rfl, Nat.le_of_ble_eq_true rfl⟩ (Nat.le_of_ble_eq_true rfl) (Nat.zero_le _) (Nat.zero_le _) (fun v_1 w_2 hp_3 => ?_)
  obtain ⟨rfl, rfl⟩ := hp_3
  refine ⟨rfl, ?_⟩
  refine z_eq (ws2 := [eX5 mq mT (nI ty) mD mS (nI ev) mP (nI kn) mI (nI kp) mE (nI sg) at_ mH mX mR mO fs, eI t mS 5 (nf s), eI t mP 40 (nf past)]) (st2 := [.int (zb ((nI 0) ≤ e ∧ e ≤ (nI 1)))]) rfl rfl rfl ?_
  refine z_if_eqB X (pc := 6) 19 dX5_putOver_6 (by decide) (fun c_6 => ?_) (fun c_6 => ?_)
  · skip
    refine z_iconst X (pc := 19) (-1) dX5_putOver_19 (by decide) ?_
    exact hRet.i dX5_putOver_20 ⟨by rw [dz_bad (a := 0) (b := 1) c_6]; rfl, by rw [dz_bad (a := 0) (b := 1) c_6]; rfl⟩
  · skip
    refine z_iload_n X (pc := 9) 2 dX5_putOver_9 rfl ?_
    refine z_iconst X (pc := 10) (nI 1) dX5_putOver_10 (by decide) ?_
    refine z_bipush X (pc := 11) (nI 10) dX5_putOver_11 (by decide) ?_
    refine zc_S (as := [.int f, .int (nI 1), .int (nI 10)]) X (pc := 13) (c_X5_in lq D t f (nI 1) (nI 10) ) tw_615 tw_617 tw_7 tw_616 [] rfl rfl dX5_putOver_13 rfl zdX5_in ⟨rfl, rfl, Nat.le_of_ble_eq_true rfl, Nat.le_of_ble_eq_true rfl⟩ (Nat.le_of_ble_eq_true rfl) (Nat.zero_le _) (Nat.zero_le _) (fun v_4 w_5 hp_6 => ?_)
    obtain ⟨rfl, rfl⟩ := hp_6
    refine ⟨rfl, ?_⟩
    refine z_eq (ws2 := [eX5 mq mT (nI ty) mD mS (nI ev) mP (nI kn) mI (nI kp) mE (nI sg) at_ mH mX mR mO fs, eI t mS 5 (nf s), eI t mP 40 (nf past)]) (st2 := [.int (zb ((nI 1) ≤ f ∧ f ≤ (nI 10)))]) rfl rfl rfl ?_
    refine z_if_neB X (pc := 16) 21 dX5_putOver_16 (by decide) (fun c_16 => ?_) (fun c_16 => ?_)
    · skip
      obtain ⟨q, q_lo, q_hi, rfl⟩ := inR (by decide) (by decide) c_16
      obtain ⟨sd, sd_lo, sd_hi, rfl⟩ := inR (by decide) (by decide) c_6
      rcases (show sd = 0 ∨ sd = 1 by omega) with rfl | rfl
      · skip
        refine z_aload_n X (pc := 21) 0 dX5_putOver_21 rfl ?_
        refine z_get X (pc := 22) 0 3 (.ref mS) tu_5 tw_562 dX5_putOver_22 rfl rfl (by decide) rfl rfl ?_
        refine z_iload_n X (pc := 25) 1 dX5_putOver_25 rfl ?_
        refine z_iald X (pc := 26) 1 0 (nI (s 0)) dX5_putOver_26 rfl rfl (Nat.le_of_ble_eq_true rfl) (by decide) rfl ?_
        refine z_iload_n X (pc := 27) 2 dX5_putOver_27 rfl ?_
        refine z_icmp_geN X (pc := 28) 34 (by omega) (by omega) dX5_putOver_28 (by decide) (fun c_28 => ?_) (fun c_28 => ?_)
        · skip
          refine z_aload_n X (pc := 34) 0 dX5_putOver_34 rfl ?_
          refine z_get X (pc := 35) 0 3 (.ref mS) tu_5 tw_562 dX5_putOver_35 rfl rfl (by decide) rfl rfl ?_
          refine z_iconst X (pc := 38) (nI 1) dX5_putOver_38 (by decide) ?_
          refine z_iload_n X (pc := 39) 1 dX5_putOver_39 rfl ?_
          refine z_isub X (pc := 40) (v := (nI 1)) dX5_putOver_40 (pk_sub (by omega)) ?_
          refine z_iald X (pc := 41) 1 1 (nI (s 1)) dX5_putOver_41 rfl rfl (Nat.le_of_ble_eq_true rfl) (by decide) rfl ?_
          refine z_iload_n X (pc := 42) 2 dX5_putOver_42 rfl ?_
          refine z_iadd X (pc := 43) (v := (nI (s 1 + q))) dX5_putOver_43 (nI_add (s 1) q) ?_
          refine z_bipush X (pc := 44) (nI 10) dX5_putOver_44 (by decide) ?_
          refine z_icmp_leN X (pc := 46) 52 (by omega) (by omega) dX5_putOver_46 (by decide) (fun c_46 => ?_) (fun c_46 => ?_)
          · skip
            refine z_aload_n X (pc := 52) 0 dX5_putOver_52 rfl ?_
            refine zc_V (as := []) X (pc := 53) (c_X5_keeps lq D t mq mT mD mS mP mI mE mH mX mR mO ty ev kn kp sg at_ fs s past (by omega)) tw_668 tw_671 tw_7 tw_670 tw_1029 0 5 rfl rfl [0, 1, 2] rfl rfl dX5_putOver_53 rfl zdX5_keeps ⟨rfl, rfl, Nat.le_of_ble_eq_true rfl, Nat.le_of_ble_eq_true rfl⟩ (Nat.le_of_ble_eq_true rfl) (Nat.zero_le _) (Nat.zero_le _) (fun v_7 w_8 hp_9 => ?_)
            obtain ⟨rfl, rfl⟩ := hp_9
            refine ⟨rfl, ?_⟩
            refine z_eq (ws2 := [eX5 mq mT (nI ty) mD mS (nI ev) mP (nI (if kn = 8 then 8 else kn + 1)) mI (nI kp) mE (nI sg) at_ mH mX mR mO fs, eI t mS 5 (nf s), eI t mP 40 (nf (pput past kn s))]) (st2 := []) rfl rfl rfl ?_
            refine z_aload_n X (pc := 56) 0 dX5_putOver_56 rfl ?_
            refine z_get X (pc := 57) 0 3 (.ref mS) tu_5 tw_562 dX5_putOver_57 rfl rfl (by decide) rfl rfl ?_
            refine z_iload_n X (pc := 60) 1 dX5_putOver_60 rfl ?_
            refine z_dup2_11 X (pc := 61) dX5_putOver_61 rfl rfl ?_
            refine z_iald X (pc := 62) 1 0 (nI (s 0)) dX5_putOver_62 rfl rfl (Nat.le_of_ble_eq_true rfl) (by decide) rfl ?_
            refine z_iload_n X (pc := 63) 2 dX5_putOver_63 rfl ?_
            refine z_isub X (pc := 64) (v := (nI ((s 0) - q))) dX5_putOver_64 (pk_sub (by omega)) ?_
            refine z_iast X (pc := 65) 1 0 (nf (vup s 0 ((s 0) - q))) [eX5 mq mT (nI ty) mD mS (nI ev) mP (nI (if kn = 8 then 8 else kn + 1)) mI (nI kp) mE (nI sg) at_ mH mX mR mO fs, eI t mS 5 (nf (vup s 0 ((s 0) - q))), eI t mP 40 (nf (pput past kn s))] dX5_putOver_65 rfl rfl (Nat.le_of_ble_eq_true rfl) (by decide) (upd_nf _ _ _) rfl ?_
            refine z_aload_n X (pc := 66) 0 dX5_putOver_66 rfl ?_
            refine z_get X (pc := 67) 0 3 (.ref mS) tu_5 tw_562 dX5_putOver_67 rfl rfl (by decide) rfl rfl ?_
            refine z_iconst X (pc := 70) (nI 1) dX5_putOver_70 (by decide) ?_
            refine z_iload_n X (pc := 71) 1 dX5_putOver_71 rfl ?_
            refine z_isub X (pc := 72) (v := (nI 1)) dX5_putOver_72 (pk_sub (by omega)) ?_
            refine z_dup2_11 X (pc := 73) dX5_putOver_73 rfl rfl ?_
            refine z_iald X (pc := 74) 1 1 (nI (s 1)) dX5_putOver_74 rfl rfl (Nat.le_of_ble_eq_true rfl) (by decide) rfl ?_
            refine z_iload_n X (pc := 75) 2 dX5_putOver_75 rfl ?_
            refine z_iadd X (pc := 76) (v := (nI (s 1 + q))) dX5_putOver_76 (nI_add (s 1) q) ?_
            refine z_iast X (pc := 77) 1 1 (nf (vup (vup s 0 ((s 0) - q)) 1 (s 1 + q))) [eX5 mq mT (nI ty) mD mS (nI ev) mP (nI (if kn = 8 then 8 else kn + 1)) mI (nI kp) mE (nI sg) at_ mH mX mR mO fs, eI t mS 5 (nf (vup (vup s 0 ((s 0) - q)) 1 (s 1 + q))), eI t mP 40 (nf (pput past kn s))] dX5_putOver_77 rfl rfl (Nat.le_of_ble_eq_true rfl) (by decide) (upd_nf _ _ _) rfl ?_
            refine z_aload_n X (pc := 78) 0 dX5_putOver_78 rfl ?_
            refine z_get X (pc := 79) 0 3 (.ref mS) tu_5 tw_562 dX5_putOver_79 rfl rfl (by decide) rfl rfl ?_
            refine z_iload_n X (pc := 82) 1 dX5_putOver_82 rfl ?_
            refine z_iald X (pc := 83) 1 0 (nI ((s 0) - q)) dX5_putOver_83 rfl rfl (Nat.le_of_ble_eq_true rfl) (by decide) rfl ?_
            exact hRet.i dX5_putOver_84 ⟨by rw [dz_ok (a := 0) (b := 1) (by decide) (by decide) (by decide), dz_ok (a := 1) (b := 10) (by decide) q_lo q_hi]; exact congrArg (fun z => some (Value.int z)) (an_put_ok (sd := 0) (show ¬ s 0 < q by omega) (show ¬ 10 < s 1 + q by omega)).symm, by rw [dz_ok (a := 0) (b := 1) (by decide) (by decide) (by decide), dz_ok (a := 1) (b := 10) (by decide) q_lo q_hi, (nx_put_ok (sd := 0) (show ¬ s 0 < q by omega) (show ¬ 10 < s 1 + q by omega)).1, (nx_put_ok (sd := 0) (show ¬ s 0 < q by omega) (show ¬ 10 < s 1 + q by omega)).2]; rfl⟩
          · skip
            refine z_bipush X (pc := 49) (-3) dX5_putOver_49 (by decide) ?_
            exact hRet.i dX5_putOver_51 ⟨by rw [dz_ok (a := 0) (b := 1) (by decide) (by decide) (by decide), dz_ok (a := 1) (b := 10) (by decide) q_lo q_hi]; exact congrArg (fun z => some (Value.int z)) (an_put_full (sd := 0) (show ¬ s 0 < q by omega) (show 10 < s 1 + q by omega)).symm, by rw [dz_ok (a := 0) (b := 1) (by decide) (by decide) (by decide), dz_ok (a := 1) (b := 10) (by decide) q_lo q_hi, (nx_put_full (sd := 0) (show ¬ s 0 < q by omega) (show 10 < s 1 + q by omega)).1, (nx_put_full (sd := 0) (show ¬ s 0 < q by omega) (show 10 < s 1 + q by omega)).2]; rfl⟩
        · skip
          refine z_bipush X (pc := 31) (-2) dX5_putOver_31 (by decide) ?_
          exact hRet.i dX5_putOver_33 ⟨by rw [dz_ok (a := 0) (b := 1) (by decide) (by decide) (by decide), dz_ok (a := 1) (b := 10) (by decide) q_lo q_hi]; exact congrArg (fun z => some (Value.int z)) (an_put_lt (sd := 0) (show s 0 < q by omega)).symm, by rw [dz_ok (a := 0) (b := 1) (by decide) (by decide) (by decide), dz_ok (a := 1) (b := 10) (by decide) q_lo q_hi, (nx_put_lt (sd := 0) (show s 0 < q by omega)).1, (nx_put_lt (sd := 0) (show s 0 < q by omega)).2]; rfl⟩
      · skip
        refine z_aload_n X (pc := 21) 0 dX5_putOver_21 rfl ?_
        refine z_get X (pc := 22) 0 3 (.ref mS) tu_5 tw_562 dX5_putOver_22 rfl rfl (by decide) rfl rfl ?_
        refine z_iload_n X (pc := 25) 1 dX5_putOver_25 rfl ?_
        refine z_iald X (pc := 26) 1 1 (nI (s 1)) dX5_putOver_26 rfl rfl (Nat.le_of_ble_eq_true rfl) (by decide) rfl ?_
        refine z_iload_n X (pc := 27) 2 dX5_putOver_27 rfl ?_
        refine z_icmp_geN X (pc := 28) 34 (by omega) (by omega) dX5_putOver_28 (by decide) (fun c_28 => ?_) (fun c_28 => ?_)
        · skip
          refine z_aload_n X (pc := 34) 0 dX5_putOver_34 rfl ?_
          refine z_get X (pc := 35) 0 3 (.ref mS) tu_5 tw_562 dX5_putOver_35 rfl rfl (by decide) rfl rfl ?_
          refine z_iconst X (pc := 38) (nI 1) dX5_putOver_38 (by decide) ?_
          refine z_iload_n X (pc := 39) 1 dX5_putOver_39 rfl ?_
          refine z_isub X (pc := 40) (v := (nI 0)) dX5_putOver_40 (pk_sub (by omega)) ?_
          refine z_iald X (pc := 41) 1 0 (nI (s 0)) dX5_putOver_41 rfl rfl (Nat.le_of_ble_eq_true rfl) (by decide) rfl ?_
          refine z_iload_n X (pc := 42) 2 dX5_putOver_42 rfl ?_
          refine z_iadd X (pc := 43) (v := (nI (s 0 + q))) dX5_putOver_43 (nI_add (s 0) q) ?_
          refine z_bipush X (pc := 44) (nI 10) dX5_putOver_44 (by decide) ?_
          refine z_icmp_leN X (pc := 46) 52 (by omega) (by omega) dX5_putOver_46 (by decide) (fun c_46 => ?_) (fun c_46 => ?_)
          · skip
            refine z_aload_n X (pc := 52) 0 dX5_putOver_52 rfl ?_
            refine zc_V (as := []) X (pc := 53) (c_X5_keeps lq D t mq mT mD mS mP mI mE mH mX mR mO ty ev kn kp sg at_ fs s past (by omega)) tw_668 tw_671 tw_7 tw_670 tw_1029 0 5 rfl rfl [0, 1, 2] rfl rfl dX5_putOver_53 rfl zdX5_keeps ⟨rfl, rfl, Nat.le_of_ble_eq_true rfl, Nat.le_of_ble_eq_true rfl⟩ (Nat.le_of_ble_eq_true rfl) (Nat.zero_le _) (Nat.zero_le _) (fun v_10 w_11 hp_12 => ?_)
            obtain ⟨rfl, rfl⟩ := hp_12
            refine ⟨rfl, ?_⟩
            refine z_eq (ws2 := [eX5 mq mT (nI ty) mD mS (nI ev) mP (nI (if kn = 8 then 8 else kn + 1)) mI (nI kp) mE (nI sg) at_ mH mX mR mO fs, eI t mS 5 (nf s), eI t mP 40 (nf (pput past kn s))]) (st2 := []) rfl rfl rfl ?_
            refine z_aload_n X (pc := 56) 0 dX5_putOver_56 rfl ?_
            refine z_get X (pc := 57) 0 3 (.ref mS) tu_5 tw_562 dX5_putOver_57 rfl rfl (by decide) rfl rfl ?_
            refine z_iload_n X (pc := 60) 1 dX5_putOver_60 rfl ?_
            refine z_dup2_11 X (pc := 61) dX5_putOver_61 rfl rfl ?_
            refine z_iald X (pc := 62) 1 1 (nI (s 1)) dX5_putOver_62 rfl rfl (Nat.le_of_ble_eq_true rfl) (by decide) rfl ?_
            refine z_iload_n X (pc := 63) 2 dX5_putOver_63 rfl ?_
            refine z_isub X (pc := 64) (v := (nI ((s 1) - q))) dX5_putOver_64 (pk_sub (by omega)) ?_
            refine z_iast X (pc := 65) 1 1 (nf (vup s 1 ((s 1) - q))) [eX5 mq mT (nI ty) mD mS (nI ev) mP (nI (if kn = 8 then 8 else kn + 1)) mI (nI kp) mE (nI sg) at_ mH mX mR mO fs, eI t mS 5 (nf (vup s 1 ((s 1) - q))), eI t mP 40 (nf (pput past kn s))] dX5_putOver_65 rfl rfl (Nat.le_of_ble_eq_true rfl) (by decide) (upd_nf _ _ _) rfl ?_
            refine z_aload_n X (pc := 66) 0 dX5_putOver_66 rfl ?_
            refine z_get X (pc := 67) 0 3 (.ref mS) tu_5 tw_562 dX5_putOver_67 rfl rfl (by decide) rfl rfl ?_
            refine z_iconst X (pc := 70) (nI 1) dX5_putOver_70 (by decide) ?_
            refine z_iload_n X (pc := 71) 1 dX5_putOver_71 rfl ?_
            refine z_isub X (pc := 72) (v := (nI 0)) dX5_putOver_72 (pk_sub (by omega)) ?_
            refine z_dup2_11 X (pc := 73) dX5_putOver_73 rfl rfl ?_
            refine z_iald X (pc := 74) 1 0 (nI (s 0)) dX5_putOver_74 rfl rfl (Nat.le_of_ble_eq_true rfl) (by decide) rfl ?_
            refine z_iload_n X (pc := 75) 2 dX5_putOver_75 rfl ?_
            refine z_iadd X (pc := 76) (v := (nI (s 0 + q))) dX5_putOver_76 (nI_add (s 0) q) ?_
            refine z_iast X (pc := 77) 1 0 (nf (vup (vup s 1 ((s 1) - q)) 0 (s 0 + q))) [eX5 mq mT (nI ty) mD mS (nI ev) mP (nI (if kn = 8 then 8 else kn + 1)) mI (nI kp) mE (nI sg) at_ mH mX mR mO fs, eI t mS 5 (nf (vup (vup s 1 ((s 1) - q)) 0 (s 0 + q))), eI t mP 40 (nf (pput past kn s))] dX5_putOver_77 rfl rfl (Nat.le_of_ble_eq_true rfl) (by decide) (upd_nf _ _ _) rfl ?_
            refine z_aload_n X (pc := 78) 0 dX5_putOver_78 rfl ?_
            refine z_get X (pc := 79) 0 3 (.ref mS) tu_5 tw_562 dX5_putOver_79 rfl rfl (by decide) rfl rfl ?_
            refine z_iload_n X (pc := 82) 1 dX5_putOver_82 rfl ?_
            refine z_iald X (pc := 83) 1 1 (nI ((s 1) - q)) dX5_putOver_83 rfl rfl (Nat.le_of_ble_eq_true rfl) (by decide) rfl ?_
            exact hRet.i dX5_putOver_84 ⟨by rw [dz_ok (a := 0) (b := 1) (by decide) (by decide) (by decide), dz_ok (a := 1) (b := 10) (by decide) q_lo q_hi]; exact congrArg (fun z => some (Value.int z)) (an_put_ok (sd := 1) (show ¬ s 1 < q by omega) (show ¬ 10 < s 0 + q by omega)).symm, by rw [dz_ok (a := 0) (b := 1) (by decide) (by decide) (by decide), dz_ok (a := 1) (b := 10) (by decide) q_lo q_hi, (nx_put_ok (sd := 1) (show ¬ s 1 < q by omega) (show ¬ 10 < s 0 + q by omega)).1, (nx_put_ok (sd := 1) (show ¬ s 1 < q by omega) (show ¬ 10 < s 0 + q by omega)).2]; rfl⟩
          · skip
            refine z_bipush X (pc := 49) (-3) dX5_putOver_49 (by decide) ?_
            exact hRet.i dX5_putOver_51 ⟨by rw [dz_ok (a := 0) (b := 1) (by decide) (by decide) (by decide), dz_ok (a := 1) (b := 10) (by decide) q_lo q_hi]; exact congrArg (fun z => some (Value.int z)) (an_put_full (sd := 1) (show ¬ s 1 < q by omega) (show 10 < s 0 + q by omega)).symm, by rw [dz_ok (a := 0) (b := 1) (by decide) (by decide) (by decide), dz_ok (a := 1) (b := 10) (by decide) q_lo q_hi, (nx_put_full (sd := 1) (show ¬ s 1 < q by omega) (show 10 < s 0 + q by omega)).1, (nx_put_full (sd := 1) (show ¬ s 1 < q by omega) (show 10 < s 0 + q by omega)).2]; rfl⟩
        · skip
          refine z_bipush X (pc := 31) (-2) dX5_putOver_31 (by decide) ?_
          exact hRet.i dX5_putOver_33 ⟨by rw [dz_ok (a := 0) (b := 1) (by decide) (by decide) (by decide), dz_ok (a := 1) (b := 10) (by decide) q_lo q_hi]; exact congrArg (fun z => some (Value.int z)) (an_put_lt (sd := 1) (show s 1 < q by omega)).symm, by rw [dz_ok (a := 0) (b := 1) (by decide) (by decide) (by decide), dz_ok (a := 1) (b := 10) (by decide) q_lo q_hi, (nx_put_lt (sd := 1) (show s 1 < q by omega)).1, (nx_put_lt (sd := 1) (show s 1 < q by omega)).2]; rfl⟩
    · skip
      refine z_iconst X (pc := 19) (-1) dX5_putOver_19 (by decide) ?_
      exact hRet.i dX5_putOver_20 ⟨by rw [dz_bad (a := 1) (b := 10) c_16]; cases dz 0 1 e <;> rfl, by rw [dz_bad (a := 1) (b := 10) c_16]; cases dz 0 1 e <;> rfl⟩

abbrev rm_X5_undo : Room := { frames := 0, cells := 0, slots := 0, locals := 0 }
set_option maxHeartbeats 4000000 in
set_option maxRecDepth 100000 in
theorem c_X5_undo (lq : Launch) (D : va_G) (t : zT) (mq mT mD mS mP mI mE mH mX mR mO ty ev kn kp sg : Nat) (at_ : Int32) (fs : Int64) (s past : Nat → Nat) (hkn : kn ≤ 8) : Ct lq D t yX5_undo cX5_undo 2 (some .int) rm_X5_undo [.ref mq] [eX5 mq mT (nI ty) mD mS (nI ev) mP (nI kn) mI (nI kp) mE (nI sg) at_ mH mX mR mO fs, eI t mS 5 (nf s), eI t mP 40 (nf past)] 0 0 (fun rv rw_ => rv = some (.int (an_undo kn)) ∧ rw_ = [eX5 mq mT (nI ty) mD mS (nI ev) mP (nI (kn - 1)) mI (nI kp) mE (nI sg) at_ mH mX mR mO fs, eI t mS 5 (nf (nx_undo past kn s)), eI t mP 40 (nf past)]) := by
  refine Ct.of (by decide) (Nat.le_of_ble_eq_true rfl) (fun k X hRet => ?_)
  have X : zX D t k cX5_undo 2 RX5 "undo" rm_X5_undo lq := X
  refine z_eq (lv2 := [(0, .ref mq)]) rfl rfl rfl ?_
  refine z_aload_n X (pc := 0) 0 dX5_undo_0 rfl ?_
  refine z_get X (pc := 1) 0 6 (.int (nI kn)) tu_5 tw_565 dX5_undo_1 rfl rfl (by decide) rfl rfl ?_
  refine z_if_neN X (pc := 4) 10 (by omega) dX5_undo_4 (by decide) (fun c_4 => ?_) (fun c_4 => ?_)
  · skip
    refine z_aload_n X (pc := 10) 0 dX5_undo_10 rfl ?_
    refine z_dup X (pc := 11) dX5_undo_11 rfl ?_
    refine z_get X (pc := 12) 0 6 (.int (nI kn)) tu_5 tw_565 dX5_undo_12 rfl rfl (by decide) rfl rfl ?_
    refine z_iconst X (pc := 15) (nI 1) dX5_undo_15 (by decide) ?_
    refine z_isub X (pc := 16) (v := (nI (kn - 1))) dX5_undo_16 (pk_sub (by omega)) ?_
    refine z_put X (pc := 17) 0 6 [eX5 mq mT (nI ty) mD mS (nI ev) mP (nI (kn - 1)) mI (nI kp) mE (nI sg) at_ mH mX mR mO fs, eI t mS 5 (nf s), eI t mP 40 (nf past)] tu_5 tyX5_ok nmX5 tw_565 dX5_undo_17 rfl rfl (by decide) rfl rfl rfl rfl (Nat.le_of_ble_eq_true rfl) rfl ?_
    refine z_iconst X (pc := 20) (nI 0) dX5_undo_20 (by decide) ?_
    refine z_istore_n X (pc := 21) (i := 1) [(1, .int (nI 0)), (0, .ref mq)] dX5_undo_21 rfl (by decide) rfl ?_
    refine z_iload_n X (pc := 22) 0 dX5_undo_22 rfl ?_
    refine z_iconst X (pc := 23) (nI 5) dX5_undo_23 (by decide) ?_
    refine z_icmp_geN X (pc := 24) 52 (by omega) (by omega) dX5_undo_24 (by decide) (fun c_24 => absurd c_24 (by decide)) (fun c_24 => ?_)
    refine z_aload_n X (pc := 27) 1 dX5_undo_27 rfl ?_
    refine z_get X (pc := 28) 0 3 (.ref mS) tu_5 tw_562 dX5_undo_28 rfl rfl (by decide) rfl rfl ?_
    refine z_iload_n X (pc := 31) 0 dX5_undo_31 rfl ?_
    refine z_aload_n X (pc := 32) 1 dX5_undo_32 rfl ?_
    refine z_get X (pc := 33) 0 5 (.ref mP) tu_5 tw_564 dX5_undo_33 rfl rfl (by decide) rfl rfl ?_
    refine z_iconst X (pc := 36) (nI 5) dX5_undo_36 (by decide) ?_
    refine z_aload_n X (pc := 37) 1 dX5_undo_37 rfl ?_
    refine z_get X (pc := 38) 0 6 (.int (nI (kn - 1))) tu_5 tw_565 dX5_undo_38 rfl rfl (by decide) rfl rfl ?_
    refine z_imul X (pc := 41) (v := (nI (5 * (kn - 1)))) dX5_undo_41 (pk_mul _ _) ?_
    refine z_iload_n X (pc := 42) 0 dX5_undo_42 rfl ?_
    refine z_iadd X (pc := 43) (v := (nI (5 * (kn - 1)))) dX5_undo_43 (nI_add (5 * (kn - 1)) 0) ?_
    refine z_iald X (pc := 44) 2 (5 * (kn - 1)) (nI (past (5 * (kn - 1)))) dX5_undo_44 rfl rfl (Nat.le_of_ble_eq_true rfl) (by omega) rfl ?_
    refine z_iast X (pc := 45) 1 0 (nf (vup s 0 (past (5 * (kn - 1))))) [eX5 mq mT (nI ty) mD mS (nI ev) mP (nI (kn - 1)) mI (nI kp) mE (nI sg) at_ mH mX mR mO fs, eI t mS 5 (nf (vup s 0 (past (5 * (kn - 1))))), eI t mP 40 (nf past)] dX5_undo_45 rfl rfl (Nat.le_of_ble_eq_true rfl) (by decide) (upd_nf _ _ _) rfl ?_
    refine z_iinc X (pc := 46) (i := 1) 0 (nI 1) [(1, .int (nI 1)), (0, .ref mq)] dX5_undo_46 rfl (nI_incc 0 1) (by decide) rfl ?_
    refine z_goto X (pc := 49) 22 dX5_undo_49 (by decide) ?_
    refine z_iload_n X (pc := 22) 0 dX5_undo_22 rfl ?_
    refine z_iconst X (pc := 23) (nI 5) dX5_undo_23 (by decide) ?_
    refine z_icmp_geN X (pc := 24) 52 (by omega) (by omega) dX5_undo_24 (by decide) (fun c_24 => absurd c_24 (by decide)) (fun c_24 => ?_)
    refine z_aload_n X (pc := 27) 1 dX5_undo_27 rfl ?_
    refine z_get X (pc := 28) 0 3 (.ref mS) tu_5 tw_562 dX5_undo_28 rfl rfl (by decide) rfl rfl ?_
    refine z_iload_n X (pc := 31) 0 dX5_undo_31 rfl ?_
    refine z_aload_n X (pc := 32) 1 dX5_undo_32 rfl ?_
    refine z_get X (pc := 33) 0 5 (.ref mP) tu_5 tw_564 dX5_undo_33 rfl rfl (by decide) rfl rfl ?_
    refine z_iconst X (pc := 36) (nI 5) dX5_undo_36 (by decide) ?_
    refine z_aload_n X (pc := 37) 1 dX5_undo_37 rfl ?_
    refine z_get X (pc := 38) 0 6 (.int (nI (kn - 1))) tu_5 tw_565 dX5_undo_38 rfl rfl (by decide) rfl rfl ?_
    refine z_imul X (pc := 41) (v := (nI (5 * (kn - 1)))) dX5_undo_41 (pk_mul _ _) ?_
    refine z_iload_n X (pc := 42) 0 dX5_undo_42 rfl ?_
    refine z_iadd X (pc := 43) (v := (nI ((5 * (kn - 1)) + 1))) dX5_undo_43 (nI_add (5 * (kn - 1)) 1) ?_
    refine z_iald X (pc := 44) 2 ((5 * (kn - 1)) + 1) (nI (past ((5 * (kn - 1)) + 1))) dX5_undo_44 rfl rfl (Nat.le_of_ble_eq_true rfl) (by omega) rfl ?_
    refine z_iast X (pc := 45) 1 1 (nf (vup (vup s 0 (past (5 * (kn - 1)))) 1 (past ((5 * (kn - 1)) + 1)))) [eX5 mq mT (nI ty) mD mS (nI ev) mP (nI (kn - 1)) mI (nI kp) mE (nI sg) at_ mH mX mR mO fs, eI t mS 5 (nf (vup (vup s 0 (past (5 * (kn - 1)))) 1 (past ((5 * (kn - 1)) + 1)))), eI t mP 40 (nf past)] dX5_undo_45 rfl rfl (Nat.le_of_ble_eq_true rfl) (by decide) (upd_nf _ _ _) rfl ?_
    refine z_iinc X (pc := 46) (i := 1) 0 (nI 2) [(1, .int (nI 2)), (0, .ref mq)] dX5_undo_46 rfl (nI_incc 1 1) (by decide) rfl ?_
    refine z_goto X (pc := 49) 22 dX5_undo_49 (by decide) ?_
    refine z_iload_n X (pc := 22) 0 dX5_undo_22 rfl ?_
    refine z_iconst X (pc := 23) (nI 5) dX5_undo_23 (by decide) ?_
    refine z_icmp_geN X (pc := 24) 52 (by omega) (by omega) dX5_undo_24 (by decide) (fun c_24 => absurd c_24 (by decide)) (fun c_24 => ?_)
    refine z_aload_n X (pc := 27) 1 dX5_undo_27 rfl ?_
    refine z_get X (pc := 28) 0 3 (.ref mS) tu_5 tw_562 dX5_undo_28 rfl rfl (by decide) rfl rfl ?_
    refine z_iload_n X (pc := 31) 0 dX5_undo_31 rfl ?_
    refine z_aload_n X (pc := 32) 1 dX5_undo_32 rfl ?_
    refine z_get X (pc := 33) 0 5 (.ref mP) tu_5 tw_564 dX5_undo_33 rfl rfl (by decide) rfl rfl ?_
    refine z_iconst X (pc := 36) (nI 5) dX5_undo_36 (by decide) ?_
    refine z_aload_n X (pc := 37) 1 dX5_undo_37 rfl ?_
    refine z_get X (pc := 38) 0 6 (.int (nI (kn - 1))) tu_5 tw_565 dX5_undo_38 rfl rfl (by decide) rfl rfl ?_
    refine z_imul X (pc := 41) (v := (nI (5 * (kn - 1)))) dX5_undo_41 (pk_mul _ _) ?_
    refine z_iload_n X (pc := 42) 0 dX5_undo_42 rfl ?_
    refine z_iadd X (pc := 43) (v := (nI ((5 * (kn - 1)) + 2))) dX5_undo_43 (nI_add (5 * (kn - 1)) 2) ?_
    refine z_iald X (pc := 44) 2 ((5 * (kn - 1)) + 2) (nI (past ((5 * (kn - 1)) + 2))) dX5_undo_44 rfl rfl (Nat.le_of_ble_eq_true rfl) (by omega) rfl ?_
    refine z_iast X (pc := 45) 1 2 (nf (vup (vup (vup s 0 (past (5 * (kn - 1)))) 1 (past ((5 * (kn - 1)) + 1))) 2 (past ((5 * (kn - 1)) + 2)))) [eX5 mq mT (nI ty) mD mS (nI ev) mP (nI (kn - 1)) mI (nI kp) mE (nI sg) at_ mH mX mR mO fs, eI t mS 5 (nf (vup (vup (vup s 0 (past (5 * (kn - 1)))) 1 (past ((5 * (kn - 1)) + 1))) 2 (past ((5 * (kn - 1)) + 2)))), eI t mP 40 (nf past)] dX5_undo_45 rfl rfl (Nat.le_of_ble_eq_true rfl) (by decide) (upd_nf _ _ _) rfl ?_
    refine z_iinc X (pc := 46) (i := 1) 0 (nI 3) [(1, .int (nI 3)), (0, .ref mq)] dX5_undo_46 rfl (nI_incc 2 1) (by decide) rfl ?_
    refine z_goto X (pc := 49) 22 dX5_undo_49 (by decide) ?_
    refine z_iload_n X (pc := 22) 0 dX5_undo_22 rfl ?_
    refine z_iconst X (pc := 23) (nI 5) dX5_undo_23 (by decide) ?_
    refine z_icmp_geN X (pc := 24) 52 (by omega) (by omega) dX5_undo_24 (by decide) (fun c_24 => absurd c_24 (by decide)) (fun c_24 => ?_)
    refine z_aload_n X (pc := 27) 1 dX5_undo_27 rfl ?_
    refine z_get X (pc := 28) 0 3 (.ref mS) tu_5 tw_562 dX5_undo_28 rfl rfl (by decide) rfl rfl ?_
    refine z_iload_n X (pc := 31) 0 dX5_undo_31 rfl ?_
    refine z_aload_n X (pc := 32) 1 dX5_undo_32 rfl ?_
    refine z_get X (pc := 33) 0 5 (.ref mP) tu_5 tw_564 dX5_undo_33 rfl rfl (by decide) rfl rfl ?_
    refine z_iconst X (pc := 36) (nI 5) dX5_undo_36 (by decide) ?_
    refine z_aload_n X (pc := 37) 1 dX5_undo_37 rfl ?_
    refine z_get X (pc := 38) 0 6 (.int (nI (kn - 1))) tu_5 tw_565 dX5_undo_38 rfl rfl (by decide) rfl rfl ?_
    refine z_imul X (pc := 41) (v := (nI (5 * (kn - 1)))) dX5_undo_41 (pk_mul _ _) ?_
    refine z_iload_n X (pc := 42) 0 dX5_undo_42 rfl ?_
    refine z_iadd X (pc := 43) (v := (nI ((5 * (kn - 1)) + 3))) dX5_undo_43 (nI_add (5 * (kn - 1)) 3) ?_
    refine z_iald X (pc := 44) 2 ((5 * (kn - 1)) + 3) (nI (past ((5 * (kn - 1)) + 3))) dX5_undo_44 rfl rfl (Nat.le_of_ble_eq_true rfl) (by omega) rfl ?_
    refine z_iast X (pc := 45) 1 3 (nf (vup (vup (vup (vup s 0 (past (5 * (kn - 1)))) 1 (past ((5 * (kn - 1)) + 1))) 2 (past ((5 * (kn - 1)) + 2))) 3 (past ((5 * (kn - 1)) + 3)))) [eX5 mq mT (nI ty) mD mS (nI ev) mP (nI (kn - 1)) mI (nI kp) mE (nI sg) at_ mH mX mR mO fs, eI t mS 5 (nf (vup (vup (vup (vup s 0 (past (5 * (kn - 1)))) 1 (past ((5 * (kn - 1)) + 1))) 2 (past ((5 * (kn - 1)) + 2))) 3 (past ((5 * (kn - 1)) + 3)))), eI t mP 40 (nf past)] dX5_undo_45 rfl rfl (Nat.le_of_ble_eq_true rfl) (by decide) (upd_nf _ _ _) rfl ?_
    refine z_iinc X (pc := 46) (i := 1) 0 (nI 4) [(1, .int (nI 4)), (0, .ref mq)] dX5_undo_46 rfl (nI_incc 3 1) (by decide) rfl ?_
    refine z_goto X (pc := 49) 22 dX5_undo_49 (by decide) ?_
    refine z_iload_n X (pc := 22) 0 dX5_undo_22 rfl ?_
    refine z_iconst X (pc := 23) (nI 5) dX5_undo_23 (by decide) ?_
    refine z_icmp_geN X (pc := 24) 52 (by omega) (by omega) dX5_undo_24 (by decide) (fun c_24 => absurd c_24 (by decide)) (fun c_24 => ?_)
    refine z_aload_n X (pc := 27) 1 dX5_undo_27 rfl ?_
    refine z_get X (pc := 28) 0 3 (.ref mS) tu_5 tw_562 dX5_undo_28 rfl rfl (by decide) rfl rfl ?_
    refine z_iload_n X (pc := 31) 0 dX5_undo_31 rfl ?_
    refine z_aload_n X (pc := 32) 1 dX5_undo_32 rfl ?_
    refine z_get X (pc := 33) 0 5 (.ref mP) tu_5 tw_564 dX5_undo_33 rfl rfl (by decide) rfl rfl ?_
    refine z_iconst X (pc := 36) (nI 5) dX5_undo_36 (by decide) ?_
    refine z_aload_n X (pc := 37) 1 dX5_undo_37 rfl ?_
    refine z_get X (pc := 38) 0 6 (.int (nI (kn - 1))) tu_5 tw_565 dX5_undo_38 rfl rfl (by decide) rfl rfl ?_
    refine z_imul X (pc := 41) (v := (nI (5 * (kn - 1)))) dX5_undo_41 (pk_mul _ _) ?_
    refine z_iload_n X (pc := 42) 0 dX5_undo_42 rfl ?_
    refine z_iadd X (pc := 43) (v := (nI ((5 * (kn - 1)) + 4))) dX5_undo_43 (nI_add (5 * (kn - 1)) 4) ?_
    refine z_iald X (pc := 44) 2 ((5 * (kn - 1)) + 4) (nI (past ((5 * (kn - 1)) + 4))) dX5_undo_44 rfl rfl (Nat.le_of_ble_eq_true rfl) (by omega) rfl ?_
    refine z_iast X (pc := 45) 1 4 (nf (vup (vup (vup (vup (vup s 0 (past (5 * (kn - 1)))) 1 (past ((5 * (kn - 1)) + 1))) 2 (past ((5 * (kn - 1)) + 2))) 3 (past ((5 * (kn - 1)) + 3))) 4 (past ((5 * (kn - 1)) + 4)))) [eX5 mq mT (nI ty) mD mS (nI ev) mP (nI (kn - 1)) mI (nI kp) mE (nI sg) at_ mH mX mR mO fs, eI t mS 5 (nf (vup (vup (vup (vup (vup s 0 (past (5 * (kn - 1)))) 1 (past ((5 * (kn - 1)) + 1))) 2 (past ((5 * (kn - 1)) + 2))) 3 (past ((5 * (kn - 1)) + 3))) 4 (past ((5 * (kn - 1)) + 4)))), eI t mP 40 (nf past)] dX5_undo_45 rfl rfl (Nat.le_of_ble_eq_true rfl) (by decide) (upd_nf _ _ _) rfl ?_
    refine z_iinc X (pc := 46) (i := 1) 0 (nI 5) [(1, .int (nI 5)), (0, .ref mq)] dX5_undo_46 rfl (nI_incc 4 1) (by decide) rfl ?_
    refine z_goto X (pc := 49) 22 dX5_undo_49 (by decide) ?_
    refine z_iload_n X (pc := 22) 0 dX5_undo_22 rfl ?_
    refine z_iconst X (pc := 23) (nI 5) dX5_undo_23 (by decide) ?_
    refine z_icmp_geN X (pc := 24) 52 (by omega) (by omega) dX5_undo_24 (by decide) (fun c_24 => ?_) (fun c_24 => absurd c_24 (by decide))
    refine z_irow 1 (nf (nx_undo past kn s)) [eX5 mq mT (nI ty) mD mS (nI ev) mP (nI (kn - 1)) mI (nI kp) mE (nI sg) at_ mH mX mR mO fs, eI t mS 5 (nf (nx_undo past kn s)), eI t mP 40 (nf past)] rfl (fun j hj => by rw [nx_undo_pos c_4]; rcases (show j = 0 ∨ j = 1 ∨ j = 2 ∨ j = 3 ∨ j = 4 by omega) with rfl | rfl | rfl | rfl | rfl <;> rfl) rfl ?_
    refine z_aload_n X (pc := 52) 1 dX5_undo_52 rfl ?_
    refine z_get X (pc := 53) 0 6 (.int (nI (kn - 1))) tu_5 tw_565 dX5_undo_53 rfl rfl (by decide) rfl rfl ?_
    exact hRet.i dX5_undo_56 ⟨by rw [an_undo, if_neg c_4], rfl⟩
  · skip
    refine z_bipush X (pc := 7) (-2) dX5_undo_7 (by decide) ?_
    exact hRet.i dX5_undo_9 ⟨by rw [an_undo, if_pos c_4], by rw [nx_undo_0 c_4, show kn - 1 = kn by omega]⟩

abbrev rm_X5_back : Room := { frames := 0, cells := 0, slots := 0, locals := 0 }
set_option maxHeartbeats 4000000 in
set_option maxRecDepth 100000 in
theorem c_X5_back (lq : Launch) (D : va_G) (t : zT) (mq mT mD mS mP mI mE mH mX mR mO ty ev kn kp sg : Nat) (at_ : Int32) (fs : Int64) (s img : Nat → Nat) (hkp : kp ≤ 2) : Ct lq D t yX5_back cX5_back 2 (some .int) rm_X5_back [.ref mq] [eX5 mq mT (nI ty) mD mS (nI ev) mP (nI kn) mI (nI kp) mE (nI sg) at_ mH mX mR mO fs, eI t mS 5 (nf s), eI t mI 10 (nf img)] 0 0 (fun rv rw_ => rv = some (.int (an_undo kp)) ∧ rw_ = [eX5 mq mT (nI ty) mD mS (nI ev) mP (nI (if kp = 0 then kn else 0)) mI (nI (kp - 1)) mE (nI sg) at_ mH mX mR mO fs, eI t mS 5 (nf (nx_undo img kp s)), eI t mI 10 (nf img)]) := by
  refine Ct.of (by decide) (Nat.le_of_ble_eq_true rfl) (fun k X hRet => ?_)
  have X : zX D t k cX5_back 2 RX5 "back" rm_X5_back lq := X
  refine z_eq (lv2 := [(0, .ref mq)]) rfl rfl rfl ?_
  refine z_aload_n X (pc := 0) 0 dX5_back_0 rfl ?_
  refine z_get X (pc := 1) 0 8 (.int (nI kp)) tu_5 tw_567 dX5_back_1 rfl rfl (by decide) rfl rfl ?_
  refine z_if_neN X (pc := 4) 10 (by omega) dX5_back_4 (by decide) (fun c_4 => ?_) (fun c_4 => ?_)
  · skip
    refine z_aload_n X (pc := 10) 0 dX5_back_10 rfl ?_
    refine z_dup X (pc := 11) dX5_back_11 rfl ?_
    refine z_get X (pc := 12) 0 8 (.int (nI kp)) tu_5 tw_567 dX5_back_12 rfl rfl (by decide) rfl rfl ?_
    refine z_iconst X (pc := 15) (nI 1) dX5_back_15 (by decide) ?_
    refine z_isub X (pc := 16) (v := (nI (kp - 1))) dX5_back_16 (pk_sub (by omega)) ?_
    refine z_put X (pc := 17) 0 8 [eX5 mq mT (nI ty) mD mS (nI ev) mP (nI kn) mI (nI (kp - 1)) mE (nI sg) at_ mH mX mR mO fs, eI t mS 5 (nf s), eI t mI 10 (nf img)] tu_5 tyX5_ok nmX5 tw_567 dX5_back_17 rfl rfl (by decide) rfl rfl rfl rfl (Nat.le_of_ble_eq_true rfl) rfl ?_
    refine z_iconst X (pc := 20) (nI 0) dX5_back_20 (by decide) ?_
    refine z_istore_n X (pc := 21) (i := 1) [(1, .int (nI 0)), (0, .ref mq)] dX5_back_21 rfl (by decide) rfl ?_
    refine z_iload_n X (pc := 22) 0 dX5_back_22 rfl ?_
    refine z_iconst X (pc := 23) (nI 5) dX5_back_23 (by decide) ?_
    refine z_icmp_geN X (pc := 24) 52 (by omega) (by omega) dX5_back_24 (by decide) (fun c_24 => absurd c_24 (by decide)) (fun c_24 => ?_)
    refine z_aload_n X (pc := 27) 1 dX5_back_27 rfl ?_
    refine z_get X (pc := 28) 0 3 (.ref mS) tu_5 tw_562 dX5_back_28 rfl rfl (by decide) rfl rfl ?_
    refine z_iload_n X (pc := 31) 0 dX5_back_31 rfl ?_
    refine z_aload_n X (pc := 32) 1 dX5_back_32 rfl ?_
    refine z_get X (pc := 33) 0 7 (.ref mI) tu_5 tw_566 dX5_back_33 rfl rfl (by decide) rfl rfl ?_
    refine z_iconst X (pc := 36) (nI 5) dX5_back_36 (by decide) ?_
    refine z_aload_n X (pc := 37) 1 dX5_back_37 rfl ?_
    refine z_get X (pc := 38) 0 8 (.int (nI (kp - 1))) tu_5 tw_567 dX5_back_38 rfl rfl (by decide) rfl rfl ?_
    refine z_imul X (pc := 41) (v := (nI (5 * (kp - 1)))) dX5_back_41 (pk_mul _ _) ?_
    refine z_iload_n X (pc := 42) 0 dX5_back_42 rfl ?_
    refine z_iadd X (pc := 43) (v := (nI (5 * (kp - 1)))) dX5_back_43 (nI_add (5 * (kp - 1)) 0) ?_
    refine z_iald X (pc := 44) 2 (5 * (kp - 1)) (nI (img (5 * (kp - 1)))) dX5_back_44 rfl rfl (Nat.le_of_ble_eq_true rfl) (by omega) rfl ?_
    refine z_iast X (pc := 45) 1 0 (nf (vup s 0 (img (5 * (kp - 1))))) [eX5 mq mT (nI ty) mD mS (nI ev) mP (nI kn) mI (nI (kp - 1)) mE (nI sg) at_ mH mX mR mO fs, eI t mS 5 (nf (vup s 0 (img (5 * (kp - 1))))), eI t mI 10 (nf img)] dX5_back_45 rfl rfl (Nat.le_of_ble_eq_true rfl) (by decide) (upd_nf _ _ _) rfl ?_
    refine z_iinc X (pc := 46) (i := 1) 0 (nI 1) [(1, .int (nI 1)), (0, .ref mq)] dX5_back_46 rfl (nI_incc 0 1) (by decide) rfl ?_
    refine z_goto X (pc := 49) 22 dX5_back_49 (by decide) ?_
    refine z_iload_n X (pc := 22) 0 dX5_back_22 rfl ?_
    refine z_iconst X (pc := 23) (nI 5) dX5_back_23 (by decide) ?_
    refine z_icmp_geN X (pc := 24) 52 (by omega) (by omega) dX5_back_24 (by decide) (fun c_24 => absurd c_24 (by decide)) (fun c_24 => ?_)
    refine z_aload_n X (pc := 27) 1 dX5_back_27 rfl ?_
    refine z_get X (pc := 28) 0 3 (.ref mS) tu_5 tw_562 dX5_back_28 rfl rfl (by decide) rfl rfl ?_
    refine z_iload_n X (pc := 31) 0 dX5_back_31 rfl ?_
    refine z_aload_n X (pc := 32) 1 dX5_back_32 rfl ?_
    refine z_get X (pc := 33) 0 7 (.ref mI) tu_5 tw_566 dX5_back_33 rfl rfl (by decide) rfl rfl ?_
    refine z_iconst X (pc := 36) (nI 5) dX5_back_36 (by decide) ?_
    refine z_aload_n X (pc := 37) 1 dX5_back_37 rfl ?_
    refine z_get X (pc := 38) 0 8 (.int (nI (kp - 1))) tu_5 tw_567 dX5_back_38 rfl rfl (by decide) rfl rfl ?_
    refine z_imul X (pc := 41) (v := (nI (5 * (kp - 1)))) dX5_back_41 (pk_mul _ _) ?_
    refine z_iload_n X (pc := 42) 0 dX5_back_42 rfl ?_
    refine z_iadd X (pc := 43) (v := (nI ((5 * (kp - 1)) + 1))) dX5_back_43 (nI_add (5 * (kp - 1)) 1) ?_
    refine z_iald X (pc := 44) 2 ((5 * (kp - 1)) + 1) (nI (img ((5 * (kp - 1)) + 1))) dX5_back_44 rfl rfl (Nat.le_of_ble_eq_true rfl) (by omega) rfl ?_
    refine z_iast X (pc := 45) 1 1 (nf (vup (vup s 0 (img (5 * (kp - 1)))) 1 (img ((5 * (kp - 1)) + 1)))) [eX5 mq mT (nI ty) mD mS (nI ev) mP (nI kn) mI (nI (kp - 1)) mE (nI sg) at_ mH mX mR mO fs, eI t mS 5 (nf (vup (vup s 0 (img (5 * (kp - 1)))) 1 (img ((5 * (kp - 1)) + 1)))), eI t mI 10 (nf img)] dX5_back_45 rfl rfl (Nat.le_of_ble_eq_true rfl) (by decide) (upd_nf _ _ _) rfl ?_
    refine z_iinc X (pc := 46) (i := 1) 0 (nI 2) [(1, .int (nI 2)), (0, .ref mq)] dX5_back_46 rfl (nI_incc 1 1) (by decide) rfl ?_
    refine z_goto X (pc := 49) 22 dX5_back_49 (by decide) ?_
    refine z_iload_n X (pc := 22) 0 dX5_back_22 rfl ?_
    refine z_iconst X (pc := 23) (nI 5) dX5_back_23 (by decide) ?_
    refine z_icmp_geN X (pc := 24) 52 (by omega) (by omega) dX5_back_24 (by decide) (fun c_24 => absurd c_24 (by decide)) (fun c_24 => ?_)
    refine z_aload_n X (pc := 27) 1 dX5_back_27 rfl ?_
    refine z_get X (pc := 28) 0 3 (.ref mS) tu_5 tw_562 dX5_back_28 rfl rfl (by decide) rfl rfl ?_
    refine z_iload_n X (pc := 31) 0 dX5_back_31 rfl ?_
    refine z_aload_n X (pc := 32) 1 dX5_back_32 rfl ?_
    refine z_get X (pc := 33) 0 7 (.ref mI) tu_5 tw_566 dX5_back_33 rfl rfl (by decide) rfl rfl ?_
    refine z_iconst X (pc := 36) (nI 5) dX5_back_36 (by decide) ?_
    refine z_aload_n X (pc := 37) 1 dX5_back_37 rfl ?_
    refine z_get X (pc := 38) 0 8 (.int (nI (kp - 1))) tu_5 tw_567 dX5_back_38 rfl rfl (by decide) rfl rfl ?_
    refine z_imul X (pc := 41) (v := (nI (5 * (kp - 1)))) dX5_back_41 (pk_mul _ _) ?_
    refine z_iload_n X (pc := 42) 0 dX5_back_42 rfl ?_
    refine z_iadd X (pc := 43) (v := (nI ((5 * (kp - 1)) + 2))) dX5_back_43 (nI_add (5 * (kp - 1)) 2) ?_
    refine z_iald X (pc := 44) 2 ((5 * (kp - 1)) + 2) (nI (img ((5 * (kp - 1)) + 2))) dX5_back_44 rfl rfl (Nat.le_of_ble_eq_true rfl) (by omega) rfl ?_
    refine z_iast X (pc := 45) 1 2 (nf (vup (vup (vup s 0 (img (5 * (kp - 1)))) 1 (img ((5 * (kp - 1)) + 1))) 2 (img ((5 * (kp - 1)) + 2)))) [eX5 mq mT (nI ty) mD mS (nI ev) mP (nI kn) mI (nI (kp - 1)) mE (nI sg) at_ mH mX mR mO fs, eI t mS 5 (nf (vup (vup (vup s 0 (img (5 * (kp - 1)))) 1 (img ((5 * (kp - 1)) + 1))) 2 (img ((5 * (kp - 1)) + 2)))), eI t mI 10 (nf img)] dX5_back_45 rfl rfl (Nat.le_of_ble_eq_true rfl) (by decide) (upd_nf _ _ _) rfl ?_
    refine z_iinc X (pc := 46) (i := 1) 0 (nI 3) [(1, .int (nI 3)), (0, .ref mq)] dX5_back_46 rfl (nI_incc 2 1) (by decide) rfl ?_
    refine z_goto X (pc := 49) 22 dX5_back_49 (by decide) ?_
    refine z_iload_n X (pc := 22) 0 dX5_back_22 rfl ?_
    refine z_iconst X (pc := 23) (nI 5) dX5_back_23 (by decide) ?_
    refine z_icmp_geN X (pc := 24) 52 (by omega) (by omega) dX5_back_24 (by decide) (fun c_24 => absurd c_24 (by decide)) (fun c_24 => ?_)
    refine z_aload_n X (pc := 27) 1 dX5_back_27 rfl ?_
    refine z_get X (pc := 28) 0 3 (.ref mS) tu_5 tw_562 dX5_back_28 rfl rfl (by decide) rfl rfl ?_
    refine z_iload_n X (pc := 31) 0 dX5_back_31 rfl ?_
    refine z_aload_n X (pc := 32) 1 dX5_back_32 rfl ?_
    refine z_get X (pc := 33) 0 7 (.ref mI) tu_5 tw_566 dX5_back_33 rfl rfl (by decide) rfl rfl ?_
    refine z_iconst X (pc := 36) (nI 5) dX5_back_36 (by decide) ?_
    refine z_aload_n X (pc := 37) 1 dX5_back_37 rfl ?_
    refine z_get X (pc := 38) 0 8 (.int (nI (kp - 1))) tu_5 tw_567 dX5_back_38 rfl rfl (by decide) rfl rfl ?_
    refine z_imul X (pc := 41) (v := (nI (5 * (kp - 1)))) dX5_back_41 (pk_mul _ _) ?_
    refine z_iload_n X (pc := 42) 0 dX5_back_42 rfl ?_
    refine z_iadd X (pc := 43) (v := (nI ((5 * (kp - 1)) + 3))) dX5_back_43 (nI_add (5 * (kp - 1)) 3) ?_
    refine z_iald X (pc := 44) 2 ((5 * (kp - 1)) + 3) (nI (img ((5 * (kp - 1)) + 3))) dX5_back_44 rfl rfl (Nat.le_of_ble_eq_true rfl) (by omega) rfl ?_
    refine z_iast X (pc := 45) 1 3 (nf (vup (vup (vup (vup s 0 (img (5 * (kp - 1)))) 1 (img ((5 * (kp - 1)) + 1))) 2 (img ((5 * (kp - 1)) + 2))) 3 (img ((5 * (kp - 1)) + 3)))) [eX5 mq mT (nI ty) mD mS (nI ev) mP (nI kn) mI (nI (kp - 1)) mE (nI sg) at_ mH mX mR mO fs, eI t mS 5 (nf (vup (vup (vup (vup s 0 (img (5 * (kp - 1)))) 1 (img ((5 * (kp - 1)) + 1))) 2 (img ((5 * (kp - 1)) + 2))) 3 (img ((5 * (kp - 1)) + 3)))), eI t mI 10 (nf img)] dX5_back_45 rfl rfl (Nat.le_of_ble_eq_true rfl) (by decide) (upd_nf _ _ _) rfl ?_
    refine z_iinc X (pc := 46) (i := 1) 0 (nI 4) [(1, .int (nI 4)), (0, .ref mq)] dX5_back_46 rfl (nI_incc 3 1) (by decide) rfl ?_
    refine z_goto X (pc := 49) 22 dX5_back_49 (by decide) ?_
    refine z_iload_n X (pc := 22) 0 dX5_back_22 rfl ?_
    refine z_iconst X (pc := 23) (nI 5) dX5_back_23 (by decide) ?_
    refine z_icmp_geN X (pc := 24) 52 (by omega) (by omega) dX5_back_24 (by decide) (fun c_24 => absurd c_24 (by decide)) (fun c_24 => ?_)
    refine z_aload_n X (pc := 27) 1 dX5_back_27 rfl ?_
    refine z_get X (pc := 28) 0 3 (.ref mS) tu_5 tw_562 dX5_back_28 rfl rfl (by decide) rfl rfl ?_
    refine z_iload_n X (pc := 31) 0 dX5_back_31 rfl ?_
    refine z_aload_n X (pc := 32) 1 dX5_back_32 rfl ?_
    refine z_get X (pc := 33) 0 7 (.ref mI) tu_5 tw_566 dX5_back_33 rfl rfl (by decide) rfl rfl ?_
    refine z_iconst X (pc := 36) (nI 5) dX5_back_36 (by decide) ?_
    refine z_aload_n X (pc := 37) 1 dX5_back_37 rfl ?_
    refine z_get X (pc := 38) 0 8 (.int (nI (kp - 1))) tu_5 tw_567 dX5_back_38 rfl rfl (by decide) rfl rfl ?_
    refine z_imul X (pc := 41) (v := (nI (5 * (kp - 1)))) dX5_back_41 (pk_mul _ _) ?_
    refine z_iload_n X (pc := 42) 0 dX5_back_42 rfl ?_
    refine z_iadd X (pc := 43) (v := (nI ((5 * (kp - 1)) + 4))) dX5_back_43 (nI_add (5 * (kp - 1)) 4) ?_
    refine z_iald X (pc := 44) 2 ((5 * (kp - 1)) + 4) (nI (img ((5 * (kp - 1)) + 4))) dX5_back_44 rfl rfl (Nat.le_of_ble_eq_true rfl) (by omega) rfl ?_
    refine z_iast X (pc := 45) 1 4 (nf (vup (vup (vup (vup (vup s 0 (img (5 * (kp - 1)))) 1 (img ((5 * (kp - 1)) + 1))) 2 (img ((5 * (kp - 1)) + 2))) 3 (img ((5 * (kp - 1)) + 3))) 4 (img ((5 * (kp - 1)) + 4)))) [eX5 mq mT (nI ty) mD mS (nI ev) mP (nI kn) mI (nI (kp - 1)) mE (nI sg) at_ mH mX mR mO fs, eI t mS 5 (nf (vup (vup (vup (vup (vup s 0 (img (5 * (kp - 1)))) 1 (img ((5 * (kp - 1)) + 1))) 2 (img ((5 * (kp - 1)) + 2))) 3 (img ((5 * (kp - 1)) + 3))) 4 (img ((5 * (kp - 1)) + 4)))), eI t mI 10 (nf img)] dX5_back_45 rfl rfl (Nat.le_of_ble_eq_true rfl) (by decide) (upd_nf _ _ _) rfl ?_
    refine z_iinc X (pc := 46) (i := 1) 0 (nI 5) [(1, .int (nI 5)), (0, .ref mq)] dX5_back_46 rfl (nI_incc 4 1) (by decide) rfl ?_
    refine z_goto X (pc := 49) 22 dX5_back_49 (by decide) ?_
    refine z_iload_n X (pc := 22) 0 dX5_back_22 rfl ?_
    refine z_iconst X (pc := 23) (nI 5) dX5_back_23 (by decide) ?_
    refine z_icmp_geN X (pc := 24) 52 (by omega) (by omega) dX5_back_24 (by decide) (fun c_24 => ?_) (fun c_24 => absurd c_24 (by decide))
    refine z_irow 1 (nf (nx_undo img kp s)) [eX5 mq mT (nI ty) mD mS (nI ev) mP (nI kn) mI (nI (kp - 1)) mE (nI sg) at_ mH mX mR mO fs, eI t mS 5 (nf (nx_undo img kp s)), eI t mI 10 (nf img)] rfl (fun j hj => by rw [nx_undo_pos c_4]; rcases (show j = 0 ∨ j = 1 ∨ j = 2 ∨ j = 3 ∨ j = 4 by omega) with rfl | rfl | rfl | rfl | rfl <;> rfl) rfl ?_
    refine z_aload_n X (pc := 52) 1 dX5_back_52 rfl ?_
    refine z_iconst X (pc := 53) (nI 0) dX5_back_53 (by decide) ?_
    refine z_put X (pc := 54) 0 6 [eX5 mq mT (nI ty) mD mS (nI ev) mP (nI 0) mI (nI (kp - 1)) mE (nI sg) at_ mH mX mR mO fs, eI t mS 5 (nf (nx_undo img kp s)), eI t mI 10 (nf img)] tu_5 tyX5_ok nmX5 tw_565 dX5_back_54 rfl rfl (by decide) rfl rfl rfl rfl (Nat.le_of_ble_eq_true rfl) rfl ?_
    refine z_aload_n X (pc := 57) 1 dX5_back_57 rfl ?_
    refine z_get X (pc := 58) 0 8 (.int (nI (kp - 1))) tu_5 tw_567 dX5_back_58 rfl rfl (by decide) rfl rfl ?_
    exact hRet.i dX5_back_61 ⟨by rw [an_undo, if_neg c_4], by rw [if_neg c_4]⟩
  · skip
    refine z_bipush X (pc := 7) (-2) dX5_back_7 (by decide) ?_
    exact hRet.i dX5_back_9 ⟨by rw [an_undo, if_pos c_4], by rw [nx_undo_0 c_4, show kp - 1 = kp by omega, if_pos c_4]⟩

abbrev rm_X5_keep : Room := { frames := 0, cells := 0, slots := 0, locals := 0 }
set_option maxHeartbeats 4000000 in
set_option maxRecDepth 100000 in
theorem c_X5_keep (lq : Launch) (D : va_G) (t : zT) (mq mT mD mS mP mI mE mH mX mR mO ty ev kn kp sg : Nat) (at_ : Int32) (fs : Int64) (s img : Nat → Nat) (hkp : kp ≤ 2) : Ct lq D t yX5_keep cX5_keep 2 (some .int) rm_X5_keep [.ref mq] [eX5 mq mT (nI ty) mD mS (nI ev) mP (nI kn) mI (nI kp) mE (nI sg) at_ mH mX mR mO fs, eI t mS 5 (nf s), eI t mI 10 (nf img)] 0 0 (fun rv rw_ => rv = some (.int (an_keep kp)) ∧ rw_ = [eX5 mq mT (nI ty) mD mS (nI ev) mP (nI kn) mI (nI (nx_kp kp)) mE (nI sg) at_ mH mX mR mO fs, eI t mS 5 (nf s), eI t mI 10 (nf (nx_img img kp s))]) := by
  refine Ct.of (by decide) (Nat.le_of_ble_eq_true rfl) (fun k X hRet => ?_)
  have X : zX D t k cX5_keep 2 RX5 "keep" rm_X5_keep lq := X
  refine z_eq (lv2 := [(0, .ref mq)]) rfl rfl rfl ?_
  refine z_aload_n X (pc := 0) 0 dX5_keep_0 rfl ?_
  refine z_get X (pc := 1) 0 8 (.int (nI kp)) tu_5 tw_567 dX5_keep_1 rfl rfl (by decide) rfl rfl ?_
  refine z_iconst X (pc := 4) (nI 2) dX5_keep_4 (by decide) ?_
  refine z_icmp_neN X (pc := 5) 11 (by omega) (by omega) dX5_keep_5 (by decide) (fun c_5 => ?_) (fun c_5 => ?_)
  · skip
    refine z_iconst X (pc := 11) (nI 0) dX5_keep_11 (by decide) ?_
    refine z_istore_n X (pc := 12) (i := 1) [(1, .int (nI 0)), (0, .ref mq)] dX5_keep_12 rfl (by decide) rfl ?_
    have loop_13 : ∀ (fuel_13 : Nat) (i : Nat), 5 < i + fuel_13 → (i ≤ 5) → Z D k (0, 0) [eX5 mq mT (nI ty) mD mS (nI ev) mP (nI kn) mI (nI kp) mE (nI sg) at_ mH mX mR mO fs, eI t mS 5 (nf s), eI t mI 10 (nf (lput img (5 * kp) i s))] 13 [(0, .ref mq), (1, .int (nI i))] [] := by
      intro fuel_13
      induction fuel_13 with
      | zero =>
        intro i hfuel_13 hi
        exfalso; omega
      | succ fuel_13 ih_13 =>
        intro i hfuel_13 hi
        refine z_iload_n X (pc := 13) 1 dX5_keep_13 rfl ?_
        refine z_iconst X (pc := 14) (nI 5) dX5_keep_14 (by decide) ?_
        refine z_icmp_geN X (pc := 15) 43 (by omega) (by omega) dX5_keep_15 (by decide) (fun c_15 => ?_) (fun c_15 => ?_)
        · skip
          refine z_aload_n X (pc := 43) 0 dX5_keep_43 rfl ?_
          refine z_dup X (pc := 44) dX5_keep_44 rfl ?_
          refine z_get X (pc := 45) 0 8 (.int (nI kp)) tu_5 tw_567 dX5_keep_45 rfl rfl (by decide) rfl rfl ?_
          refine z_iconst X (pc := 48) (nI 1) dX5_keep_48 (by decide) ?_
          refine z_iadd X (pc := 49) (v := (nI (kp + 1))) dX5_keep_49 (nI_add kp 1) ?_
          refine z_put X (pc := 50) 0 8 [eX5 mq mT (nI ty) mD mS (nI ev) mP (nI kn) mI (nI (kp + 1)) mE (nI sg) at_ mH mX mR mO fs, eI t mS 5 (nf s), eI t mI 10 (nf (lput img (5 * kp) i s))] tu_5 tyX5_ok nmX5 tw_567 dX5_keep_50 rfl rfl (by decide) rfl rfl rfl rfl (Nat.le_of_ble_eq_true rfl) rfl ?_
          refine z_aload_n X (pc := 53) 0 dX5_keep_53 rfl ?_
          refine z_get X (pc := 54) 0 8 (.int (nI (kp + 1))) tu_5 tw_567 dX5_keep_54 rfl rfl (by decide) rfl rfl ?_
          obtain rfl : i = 5 := by omega
          exact hRet.i dX5_keep_57 ⟨by rw [an_keep, if_pos (by omega)], by simp only [nx_img, nx_kp, if_pos (show kp < 2 by omega), kput_n]⟩
        · skip
          refine z_aload_n X (pc := 18) 0 dX5_keep_18 rfl ?_
          refine z_get X (pc := 19) 0 7 (.ref mI) tu_5 tw_566 dX5_keep_19 rfl rfl (by decide) rfl rfl ?_
          refine z_iconst X (pc := 22) (nI 5) dX5_keep_22 (by decide) ?_
          refine z_aload_n X (pc := 23) 0 dX5_keep_23 rfl ?_
          refine z_get X (pc := 24) 0 8 (.int (nI kp)) tu_5 tw_567 dX5_keep_24 rfl rfl (by decide) rfl rfl ?_
          refine z_imul X (pc := 27) (v := (nI (5 * kp))) dX5_keep_27 (pk_mul _ _) ?_
          refine z_iload_n X (pc := 28) 1 dX5_keep_28 rfl ?_
          refine z_iadd X (pc := 29) (v := (nI (5 * kp + i))) dX5_keep_29 (nI_add (5 * kp) i) ?_
          refine z_aload_n X (pc := 30) 0 dX5_keep_30 rfl ?_
          refine z_get X (pc := 31) 0 3 (.ref mS) tu_5 tw_562 dX5_keep_31 rfl rfl (by decide) rfl rfl ?_
          refine z_iload_n X (pc := 34) 1 dX5_keep_34 rfl ?_
          refine z_iald X (pc := 35) 1 i (nI (s i)) dX5_keep_35 rfl rfl (Nat.le_of_ble_eq_true rfl) (by omega) rfl ?_
          refine z_iast X (pc := 36) 2 (5 * kp + i) (nf (lput img (5 * kp) (i + 1) s)) [eX5 mq mT (nI ty) mD mS (nI ev) mP (nI kn) mI (nI kp) mE (nI sg) at_ mH mX mR mO fs, eI t mS 5 (nf s), eI t mI 10 (nf (lput img (5 * kp) (i + 1) s))] dX5_keep_36 rfl rfl (Nat.le_of_ble_eq_true rfl) (by omega) (by rw [upd_nf, lput_step]) rfl ?_
          refine z_iinc X (pc := 37) (i := 1) 1 (nI (i + 1)) [(1, .int (nI (i + 1))), (0, .ref mq)] dX5_keep_37 rfl (nI_incc i 1) (by decide) rfl ?_
          refine z_goto X (pc := 40) 13 dX5_keep_40 (by decide) ?_
          refine z_lv [1, 0] (lv2 := [(0, .ref mq), (1, .int (nI (i + 1)))]) rfl ?_
          exact ih_13 (i + 1) (by omega) (by omega)
    refine z_eq (ws2 := [eX5 mq mT (nI ty) mD mS (nI ev) mP (nI kn) mI (nI kp) mE (nI sg) at_ mH mX mR mO fs, eI t mS 5 (nf s), eI t mI 10 (nf (lput img (5 * kp) 0 s))]) (by rw [← lput_0]) rfl rfl ?_
    refine z_lv [1, 0] (lv2 := [(0, .ref mq), (1, .int (nI 0))]) rfl ?_
    exact loop_13 6 0 (by omega) (by omega)
  · skip
    refine z_bipush X (pc := 8) (-3) dX5_keep_8 (by decide) ?_
    exact hRet.i dX5_keep_10 ⟨by rw [an_keep, if_neg (by omega)], by simp only [nx_img, nx_kp, if_neg (show ¬ kp < 2 by omega)]⟩

abbrev rm_X5_seen : Room := { frames := 1, cells := 0, slots := 0, locals := 22 }
set_option maxHeartbeats 4000000 in
set_option maxRecDepth 100000 in
theorem c_X5_seen (lq : Launch) (D : va_G) (t : zT) (mq mT mD mS mP mI mE mH mX mR mO ty ev kn kp sg : Nat) (at_ : Int32) (fs : Int64) (sl sr : Nat → Nat) (e f : Int32) (hsg : sg ≤ 6) : Ct lq D t yX5_seen cX5_seen 3 (some .int) rm_X5_seen [.ref mq, .int e, .int f] [eX5 mq mT (nI ty) mD mS (nI ev) mP (nI kn) mI (nI kp) mE (nI sg) at_ mH mX mR mO fs, eI t mE 6 (nf (fun j => 11 * sl j + sr j))] 0 0 (fun rv rw_ => rv = some (.int (an_seen sg (dz 0 10 e) (dz 0 10 f))) ∧ rw_ = [eX5 mq mT (nI ty) mD mS (nI ev) mP (nI kn) mI (nI kp) mE (nI (nx_sg sg (dz 0 10 e) (dz 0 10 f))) at_ mH mX mR mO fs, eI t mE 6 (nf (fun j => 11 * (nx_sl sl sg (dz 0 10 e) (dz 0 10 f)) j + (nx_sr sr sg (dz 0 10 e) (dz 0 10 f)) j))]) := by
  refine Ct.of (by decide) (Nat.le_of_ble_eq_true rfl) (fun k X hRet => ?_)
  have X : zX D t k cX5_seen 3 RX5 "seen" rm_X5_seen lq := X
  refine z_eq (lv2 := [(0, .ref mq), (1, .int e), (2, .int f)]) rfl rfl rfl ?_
  refine z_iload_n X (pc := 0) 1 dX5_seen_0 rfl ?_
  refine z_iconst X (pc := 1) (nI 0) dX5_seen_1 (by decide) ?_
  refine z_bipush X (pc := 2) (nI 10) dX5_seen_2 (by decide) ?_
  refine zc_S (as := [.int e, .int (nI 0), .int (nI 10)]) X (pc := 4) (c_X5_in lq D t e (nI 0) (nI 10) ) tw_615 tw_617 tw_7 tw_616 [] rfl rfl dX5_seen_4 rfl zdX5_in ⟨rfl, rfl, Nat.le_of_ble_eq_true rfl, Nat.le_of_ble_eq_true rfl⟩ (Nat.le_of_ble_eq_true rfl) (Nat.zero_le _) (Nat.zero_le _) (fun v_1 w_2 hp_3 => ?_)
  obtain ⟨rfl, rfl⟩ := hp_3
  refine ⟨rfl, ?_⟩
  refine z_eq (ws2 := [eX5 mq mT (nI ty) mD mS (nI ev) mP (nI kn) mI (nI kp) mE (nI sg) at_ mH mX mR mO fs, eI t mE 6 (nf (fun j => 11 * sl j + sr j))]) (st2 := [.int (zb ((nI 0) ≤ e ∧ e ≤ (nI 10)))]) rfl rfl rfl ?_
  refine z_if_eqB X (pc := 7) 20 dX5_seen_7 (by decide) (fun c_7 => ?_) (fun c_7 => ?_)
  · skip
    refine z_iconst X (pc := 20) (-1) dX5_seen_20 (by decide) ?_
    exact hRet.i dX5_seen_21 ⟨by rw [dz_bad (a := 0) (b := 10) c_7]; rfl, by rw [dz_bad (a := 0) (b := 10) c_7]; rfl⟩
  · skip
    refine z_iload_n X (pc := 10) 2 dX5_seen_10 rfl ?_
    refine z_iconst X (pc := 11) (nI 0) dX5_seen_11 (by decide) ?_
    refine z_bipush X (pc := 12) (nI 10) dX5_seen_12 (by decide) ?_
    refine zc_S (as := [.int f, .int (nI 0), .int (nI 10)]) X (pc := 14) (c_X5_in lq D t f (nI 0) (nI 10) ) tw_615 tw_617 tw_7 tw_616 [] rfl rfl dX5_seen_14 rfl zdX5_in ⟨rfl, rfl, Nat.le_of_ble_eq_true rfl, Nat.le_of_ble_eq_true rfl⟩ (Nat.le_of_ble_eq_true rfl) (Nat.zero_le _) (Nat.zero_le _) (fun v_4 w_5 hp_6 => ?_)
    obtain ⟨rfl, rfl⟩ := hp_6
    refine ⟨rfl, ?_⟩
    refine z_eq (ws2 := [eX5 mq mT (nI ty) mD mS (nI ev) mP (nI kn) mI (nI kp) mE (nI sg) at_ mH mX mR mO fs, eI t mE 6 (nf (fun j => 11 * sl j + sr j))]) (st2 := [.int (zb ((nI 0) ≤ f ∧ f ≤ (nI 10)))]) rfl rfl rfl ?_
    refine z_if_neB X (pc := 17) 22 dX5_seen_17 (by decide) (fun c_17 => ?_) (fun c_17 => ?_)
    · skip
      obtain ⟨l, l_lo, l_hi, rfl⟩ := inR (by decide) (by decide) c_7
      obtain ⟨r, r_lo, r_hi, rfl⟩ := inR (by decide) (by decide) c_17
      refine z_aload_n X (pc := 22) 0 dX5_seen_22 rfl ?_
      refine z_get X (pc := 23) 0 10 (.int (nI sg)) tu_5 tw_569 dX5_seen_23 rfl rfl (by decide) rfl rfl ?_
      refine z_bipush X (pc := 26) (nI 6) dX5_seen_26 (by decide) ?_
      refine z_icmp_neN X (pc := 28) 34 (by omega) (by omega) dX5_seen_28 (by decide) (fun c_28 => ?_) (fun c_28 => ?_)
      · skip
        refine z_aload_n X (pc := 34) 0 dX5_seen_34 rfl ?_
        refine z_get X (pc := 35) 0 9 (.ref mE) tu_5 tw_568 dX5_seen_35 rfl rfl (by decide) rfl rfl ?_
        refine z_aload_n X (pc := 38) 0 dX5_seen_38 rfl ?_
        refine z_get X (pc := 39) 0 10 (.int (nI sg)) tu_5 tw_569 dX5_seen_39 rfl rfl (by decide) rfl rfl ?_
        refine z_bipush X (pc := 42) (nI 11) dX5_seen_42 (by decide) ?_
        refine z_iload_n X (pc := 44) 1 dX5_seen_44 rfl ?_
        refine z_imul X (pc := 45) (v := (nI (11 * l))) dX5_seen_45 (pk_mul _ _) ?_
        refine z_iload_n X (pc := 46) 2 dX5_seen_46 rfl ?_
        refine z_iadd X (pc := 47) (v := (nI (11 * l + r))) dX5_seen_47 (nI_add (11 * l) r) ?_
        refine z_iast X (pc := 48) 1 sg (nf (vup (fun j => 11 * sl j + sr j) sg (11 * l + r))) [eX5 mq mT (nI ty) mD mS (nI ev) mP (nI kn) mI (nI kp) mE (nI sg) at_ mH mX mR mO fs, eI t mE 6 (nf (vup (fun j => 11 * sl j + sr j) sg (11 * l + r)))] dX5_seen_48 rfl rfl (Nat.le_of_ble_eq_true rfl) (by omega) (upd_nf _ _ _) rfl ?_
        refine z_aload_n X (pc := 49) 0 dX5_seen_49 rfl ?_
        refine z_dup X (pc := 50) dX5_seen_50 rfl ?_
        refine z_get X (pc := 51) 0 10 (.int (nI sg)) tu_5 tw_569 dX5_seen_51 rfl rfl (by decide) rfl rfl ?_
        refine z_iconst X (pc := 54) (nI 1) dX5_seen_54 (by decide) ?_
        refine z_iadd X (pc := 55) (v := (nI (sg + 1))) dX5_seen_55 (nI_add sg 1) ?_
        refine z_put X (pc := 56) 0 10 [eX5 mq mT (nI ty) mD mS (nI ev) mP (nI kn) mI (nI kp) mE (nI (sg + 1)) at_ mH mX mR mO fs, eI t mE 6 (nf (vup (fun j => 11 * sl j + sr j) sg (11 * l + r)))] tu_5 tyX5_ok nmX5 tw_569 dX5_seen_56 rfl rfl (by decide) rfl rfl rfl rfl (Nat.le_of_ble_eq_true rfl) rfl ?_
        refine z_aload_n X (pc := 59) 0 dX5_seen_59 rfl ?_
        refine z_get X (pc := 60) 0 10 (.int (nI (sg + 1))) tu_5 tw_569 dX5_seen_60 rfl rfl (by decide) rfl rfl ?_
        exact hRet.i dX5_seen_63 ⟨by rw [dz_ok (j := l) (a := 0) (b := 10) (by decide) l_lo l_hi, dz_ok (j := r) (a := 0) (b := 10) (by decide) r_lo r_hi]; simp only [an_seen, if_pos (show sg < 6 by omega)], by rw [dz_ok (j := l) (a := 0) (b := 10) (by decide) l_lo l_hi, dz_ok (j := r) (a := 0) (b := 10) (by decide) r_lo r_hi]; simp only [nx_sg, nx_sl, nx_sr, if_pos (show sg < 6 by omega)]; rw [seen_up]⟩
      · skip
        refine z_bipush X (pc := 31) (-3) dX5_seen_31 (by decide) ?_
        exact hRet.i dX5_seen_33 ⟨by rw [dz_ok (j := l) (a := 0) (b := 10) (by decide) l_lo l_hi, dz_ok (j := r) (a := 0) (b := 10) (by decide) r_lo r_hi]; simp only [an_seen, if_neg (show ¬ sg < 6 by omega)], by rw [dz_ok (j := l) (a := 0) (b := 10) (by decide) l_lo l_hi, dz_ok (j := r) (a := 0) (b := 10) (by decide) r_lo r_hi]; simp only [nx_sg, nx_sl, nx_sr, if_neg (show ¬ sg < 6 by omega)]⟩
    · skip
      refine z_iconst X (pc := 20) (-1) dX5_seen_20 (by decide) ?_
      exact hRet.i dX5_seen_21 ⟨by rw [dz_bad (a := 0) (b := 10) (e := f) c_17]; cases dz 0 10 e <;> rfl, by rw [dz_bad (a := 0) (b := 10) (e := f) c_17]; cases dz 0 10 e <;> rfl⟩

abbrev rm_X5_forget : Room := { frames := 0, cells := 0, slots := 0, locals := 0 }
set_option maxHeartbeats 4000000 in
set_option maxRecDepth 100000 in
theorem c_X5_forget (lq : Launch) (D : va_G) (t : zT) (mq mT mD mS mP mI mE mH mX mR mO ty ev kn kp sg : Nat) (at_ : Int32) (fs : Int64)  : Ct lq D t yX5_forget cX5_forget 2 (some .int) rm_X5_forget [.ref mq] [eX5 mq mT (nI ty) mD mS (nI ev) mP (nI kn) mI (nI kp) mE (nI sg) at_ mH mX mR mO fs] 0 0 (fun rv rw_ => rv = some (.int (nI sg)) ∧ rw_ = [eX5 mq mT (nI ty) mD mS (nI ev) mP (nI kn) mI (nI kp) mE (nI 0) at_ mH mX mR mO fs]) := by
  refine Ct.of (by decide) (Nat.le_of_ble_eq_true rfl) (fun k X hRet => ?_)
  have X : zX D t k cX5_forget 2 RX5 "forget" rm_X5_forget lq := X
  refine z_eq (lv2 := [(0, .ref mq)]) rfl rfl rfl ?_
  refine z_aload_n X (pc := 0) 0 dX5_forget_0 rfl ?_
  refine z_get X (pc := 1) 0 10 (.int (nI sg)) tu_5 tw_569 dX5_forget_1 rfl rfl (by decide) rfl rfl ?_
  refine z_istore_n X (pc := 4) (i := 1) [(1, .int (nI sg)), (0, .ref mq)] dX5_forget_4 rfl (by decide) rfl ?_
  refine z_aload_n X (pc := 5) 1 dX5_forget_5 rfl ?_
  refine z_iconst X (pc := 6) (nI 0) dX5_forget_6 (by decide) ?_
  refine z_put X (pc := 7) 0 10 [eX5 mq mT (nI ty) mD mS (nI ev) mP (nI kn) mI (nI kp) mE (nI 0) at_ mH mX mR mO fs] tu_5 tyX5_ok nmX5 tw_569 dX5_forget_7 rfl rfl (by decide) rfl rfl rfl rfl (Nat.le_of_ble_eq_true rfl) rfl ?_
  refine z_iload_n X (pc := 10) 0 dX5_forget_10 rfl ?_
  exact hRet.i dX5_forget_11 ⟨rfl, rfl⟩

abbrev rm_X5_count : Room := { frames := 0, cells := 0, slots := 0, locals := 0 }
set_option maxHeartbeats 4000000 in
set_option maxRecDepth 100000 in
theorem c_X5_count (lq : Launch) (D : va_G) (t : zT) (mq mT mD mS mP mI mE mH mX mR mO ty ev kn kp sg : Nat) (at_ : Int32) (fs : Int64) (s : Nat → Nat) (e : Int32)  : Ct lq D t yX5_count cX5_count 2 (some .int) rm_X5_count [.ref mq, .int e] [eX5 mq mT (nI ty) mD mS (nI ev) mP (nI kn) mI (nI kp) mE (nI sg) at_ mH mX mR mO fs, eI t mS 5 (nf s)] 0 0 (fun rv rw_ => rv = some (.int (an_count s ev sg kn kp ty (dz 0 8 e))) ∧ rw_ = [eX5 mq mT (nI ty) mD mS (nI ev) mP (nI kn) mI (nI kp) mE (nI sg) at_ mH mX mR mO fs, eI t mS 5 (nf s)]) := by
  refine Ct.of (by decide) (Nat.le_of_ble_eq_true rfl) (fun k X hRet => ?_)
  have X : zX D t k cX5_count 2 RX5 "count" rm_X5_count lq := X
  refine z_eq (lv2 := [(0, .ref mq), (1, .int e)]) rfl rfl rfl ?_
  refine z_iload_n X (pc := 0) 1 dX5_count_0 rfl ?_
  by_cases hw : nI 0 ≤ e ∧ e ≤ nI 8
  · obtain ⟨w, w_lo, w_hi, rfl⟩ := inR (by decide) (by decide) hw
    rcases (show w = 0 ∨ w = 1 ∨ w = 2 ∨ w = 3 ∨ w = 4 ∨ w = 5 ∨ w = 6 ∨ w = 7 ∨ w = 8 by omega) with rfl | rfl | rfl | rfl | rfl | rfl | rfl | rfl | rfl
    · refine z_lv [0, 1] (lv2 := [(0, .ref mq), (1, .int (nI 0))]) rfl ?_
      refine z_tableIn X (pc := 1) (off := 51) 52 dX5_count_1 (by decide) (by decide) (by decide) (by decide) ?_
      refine z_aload_n X (pc := 52) 0 dX5_count_52 rfl ?_
      refine z_get X (pc := 53) 0 3 (.ref mS) tu_5 tw_562 dX5_count_53 rfl rfl (by decide) rfl rfl ?_
      refine z_iconst X (pc := 56) (nI 0) dX5_count_56 (by decide) ?_
      refine z_iald X (pc := 57) 1 0 (nI (s 0)) dX5_count_57 rfl rfl (Nat.le_of_ble_eq_true rfl) (by decide) rfl ?_
      refine z_aload_n X (pc := 58) 0 dX5_count_58 rfl ?_
      refine z_get X (pc := 59) 0 3 (.ref mS) tu_5 tw_562 dX5_count_59 rfl rfl (by decide) rfl rfl ?_
      refine z_iconst X (pc := 62) (nI 1) dX5_count_62 (by decide) ?_
      refine z_iald X (pc := 63) 1 1 (nI (s 1)) dX5_count_63 rfl rfl (Nat.le_of_ble_eq_true rfl) (by decide) rfl ?_
      refine z_iadd X (pc := 64) (v := (nI (s 0 + (s 1)))) dX5_count_64 (nI_add (s 0) (s 1)) ?_
      exact hRet.i dX5_count_65 ⟨by rw [dz_ok (by decide) (by decide) (by decide)]; rfl, rfl⟩
    · refine z_lv [0, 1] (lv2 := [(0, .ref mq), (1, .int (nI 1))]) rfl ?_
      refine z_tableIn X (pc := 1) (off := 65) 66 dX5_count_1 (by decide) (by decide) (by decide) (by decide) ?_
      refine z_aload_n X (pc := 66) 0 dX5_count_66 rfl ?_
      refine z_get X (pc := 67) 0 3 (.ref mS) tu_5 tw_562 dX5_count_67 rfl rfl (by decide) rfl rfl ?_
      refine z_iconst X (pc := 70) (nI 3) dX5_count_70 (by decide) ?_
      refine z_iald X (pc := 71) 1 3 (nI (s 3)) dX5_count_71 rfl rfl (Nat.le_of_ble_eq_true rfl) (by decide) rfl ?_
      exact hRet.i dX5_count_72 ⟨by rw [dz_ok (by decide) (by decide) (by decide)]; rfl, rfl⟩
    · refine z_lv [0, 1] (lv2 := [(0, .ref mq), (1, .int (nI 2))]) rfl ?_
      refine z_tableIn X (pc := 1) (off := 72) 73 dX5_count_1 (by decide) (by decide) (by decide) (by decide) ?_
      refine z_aload_n X (pc := 73) 0 dX5_count_73 rfl ?_
      refine z_get X (pc := 74) 0 3 (.ref mS) tu_5 tw_562 dX5_count_74 rfl rfl (by decide) rfl rfl ?_
      refine z_iconst X (pc := 77) (nI 4) dX5_count_77 (by decide) ?_
      refine z_iald X (pc := 78) 1 4 (nI (s 4)) dX5_count_78 rfl rfl (Nat.le_of_ble_eq_true rfl) (by decide) rfl ?_
      exact hRet.i dX5_count_79 ⟨by rw [dz_ok (by decide) (by decide) (by decide)]; rfl, rfl⟩
    · refine z_lv [0, 1] (lv2 := [(0, .ref mq), (1, .int (nI 3))]) rfl ?_
      refine z_tableIn X (pc := 1) (off := 79) 80 dX5_count_1 (by decide) (by decide) (by decide) (by decide) ?_
      refine z_aload_n X (pc := 80) 0 dX5_count_80 rfl ?_
      refine z_get X (pc := 81) 0 4 (.int (nI ev)) tu_5 tw_563 dX5_count_81 rfl rfl (by decide) rfl rfl ?_
      exact hRet.i dX5_count_84 ⟨by rw [dz_ok (by decide) (by decide) (by decide)]; rfl, rfl⟩
    · refine z_lv [0, 1] (lv2 := [(0, .ref mq), (1, .int (nI 4))]) rfl ?_
      refine z_tableIn X (pc := 1) (off := 84) 85 dX5_count_1 (by decide) (by decide) (by decide) (by decide) ?_
      refine z_aload_n X (pc := 85) 0 dX5_count_85 rfl ?_
      refine z_get X (pc := 86) 0 3 (.ref mS) tu_5 tw_562 dX5_count_86 rfl rfl (by decide) rfl rfl ?_
      refine z_iconst X (pc := 89) (nI 2) dX5_count_89 (by decide) ?_
      refine z_iald X (pc := 90) 1 2 (nI (s 2)) dX5_count_90 rfl rfl (Nat.le_of_ble_eq_true rfl) (by decide) rfl ?_
      exact hRet.i dX5_count_91 ⟨by rw [dz_ok (by decide) (by decide) (by decide)]; rfl, rfl⟩
    · refine z_lv [0, 1] (lv2 := [(0, .ref mq), (1, .int (nI 5))]) rfl ?_
      refine z_tableIn X (pc := 1) (off := 91) 92 dX5_count_1 (by decide) (by decide) (by decide) (by decide) ?_
      refine z_aload_n X (pc := 92) 0 dX5_count_92 rfl ?_
      refine z_get X (pc := 93) 0 10 (.int (nI sg)) tu_5 tw_569 dX5_count_93 rfl rfl (by decide) rfl rfl ?_
      exact hRet.i dX5_count_96 ⟨by rw [dz_ok (by decide) (by decide) (by decide)]; rfl, rfl⟩
    · refine z_lv [0, 1] (lv2 := [(0, .ref mq), (1, .int (nI 6))]) rfl ?_
      refine z_tableIn X (pc := 1) (off := 96) 97 dX5_count_1 (by decide) (by decide) (by decide) (by decide) ?_
      refine z_aload_n X (pc := 97) 0 dX5_count_97 rfl ?_
      refine z_get X (pc := 98) 0 6 (.int (nI kn)) tu_5 tw_565 dX5_count_98 rfl rfl (by decide) rfl rfl ?_
      exact hRet.i dX5_count_101 ⟨by rw [dz_ok (by decide) (by decide) (by decide)]; rfl, rfl⟩
    · refine z_lv [0, 1] (lv2 := [(0, .ref mq), (1, .int (nI 7))]) rfl ?_
      refine z_tableIn X (pc := 1) (off := 101) 102 dX5_count_1 (by decide) (by decide) (by decide) (by decide) ?_
      refine z_aload_n X (pc := 102) 0 dX5_count_102 rfl ?_
      refine z_get X (pc := 103) 0 8 (.int (nI kp)) tu_5 tw_567 dX5_count_103 rfl rfl (by decide) rfl rfl ?_
      exact hRet.i dX5_count_106 ⟨by rw [dz_ok (by decide) (by decide) (by decide)]; rfl, rfl⟩
    · refine z_lv [0, 1] (lv2 := [(0, .ref mq), (1, .int (nI 8))]) rfl ?_
      refine z_tableIn X (pc := 1) (off := 106) 107 dX5_count_1 (by decide) (by decide) (by decide) (by decide) ?_
      refine z_aload_n X (pc := 107) 0 dX5_count_107 rfl ?_
      refine z_get X (pc := 108) 0 1 (.int (nI ty)) tu_5 tw_560 dX5_count_108 rfl rfl (by decide) rfl rfl ?_
      exact hRet.i dX5_count_111 ⟨by rw [dz_ok (by decide) (by decide) (by decide)]; rfl, rfl⟩
  · skip
    refine z_tableOut X (pc := 1) 112 dX5_count_1 (tout hw) (by decide) ?_
    refine z_iconst X (pc := 112) (-1) dX5_count_112 (by decide) ?_
    exact hRet.i dX5_count_113 ⟨by rw [dz_bad hw]; rfl, rfl⟩
