/-! PART 24: the reference's walk: spot, clears, begin0, goes -/
/-- a row over the left box and the last side, as the reference's row over both boxes with m in all -/
def emb (m : Nat) (w : Nat → Nat) : Nat → Nat := fun i => if i / 33 + i % 33 / 3 = m then w (i / 33 * 3 + i % 3) else 0
def embN (m : Nat) (w : Nat → Nat) : Nat → Nat := fun i => if i / 33 + i % 33 / 3 + 1 = m then w (i / 33 * 3 + i % 3) else 0
theorem emb_at {m l r la : Nat} {w : Nat → Nat} (hr : r ≤ 10) (hla : la < 3) : emb m w (33 * l + 3 * r + la) = if l + r = m then w (l * 3 + la) else 0 := by
  have e1 : (33 * l + 3 * r + la) / 33 = l := by omega
  have e2 : (33 * l + 3 * r + la) % 33 / 3 = r := by omega
  have e3 : (33 * l + 3 * r + la) % 3 = la := by omega
  unfold emb; rw [e1, e2, e3]
theorem embN_at {m l r la : Nat} {w : Nat → Nat} (hr : r ≤ 10) (hla : la < 3) (h : l + r + 1 = m) : embN m w (33 * l + 3 * r + la) = w (l * 3 + la) := by
  have e1 : (33 * l + 3 * r + la) / 33 = l := by omega
  have e2 : (33 * l + 3 * r + la) % 33 / 3 = r := by omega
  have e3 : (33 * l + 3 * r + la) % 3 = la := by omega
  unfold embN; rw [e1, e2, e3, if_pos h]
theorem embN_up {m l r la v : Nat} {w : Nat → Nat} (hr : r ≤ 10) (hla : la < 3) (h : l + r + 1 = m) : vup (embN m w) (33 * l + 3 * r + la) v = embN m (vup w (l * 3 + la) v) := by
  funext i
  by_cases hi : i = 33 * l + 3 * r + la
  · subst hi; rw [vup_s, embN_at hr hla h, vup_s]
  · rw [vup_n hi]; unfold embN
    by_cases hs : i / 33 + i % 33 / 3 + 1 = m
    · rw [if_pos hs, if_pos hs, vup_n (fun z => hi (by omega))]
    · rw [if_neg hs, if_neg hs]
theorem emb_start {l r la i : Nat} (hr : r ≤ 10) (hla : la ≤ 2) : vup (fun _ => 0) (33 * l + 3 * r + la) 1 i = emb (l + r) (vup (fun _ => 0) (l * 3 + la) 1) i := by
  by_cases hi : i = 33 * l + 3 * r + la
  · subst hi
    rw [vup_s, emb_at hr (by omega), if_pos rfl, vup_s]
  · rw [vup_n hi]; unfold emb
    by_cases hs : i / 33 + i % 33 / 3 = l + r
    · rw [if_pos hs, vup_n (fun z => hi (by omega))]
    · rw [if_neg hs]
theorem embN_emb {m : Nat} {w : Nat → Nat} (h : supN m w) {i : Nat} (hi : i < 363) : embN m w i = emb (m - 1) w i := by
  unfold embN emb
  by_cases hm : m = 0
  · subst hm
    rw [if_neg (by omega)]
    split
    · rcases Nat.eq_zero_or_pos (w (i / 33 * 3 + i % 3)) with z | z
      · exact z.symm
      · have := h (i / 33) (i % 3) (by omega) (by omega) (by omega)
        omega
    · rfl
  · by_cases hs : i / 33 + i % 33 / 3 + 1 = m
    · rw [if_pos hs, if_pos (by omega)]
    · rw [if_neg hs, if_neg (by omega)]
theorem embN_0 (m : Nat) : (fun _ => 0) = embN m (fun _ => 0) := by funext i; unfold embN; split <;> rfl
theorem vup_vup {α : Type} (g : Nat → α) (j : Nat) (x y : α) : vup (vup g j x) j y = vup g j y := by funext i; unfold vup; split <;> rfl
theorem fol_end {en T sd ow ot its : Nat} {a : wA} (h : ow ≤ en) (hot : ot ≤ 10) : fol en T sd ow ot its a = (a.1, vup a.2.1 ot (a.2.1 ot + its * T), a.2.2.1 + its * T, if sd = 0 then a.2.2.2 + its * T else a.2.2.2) := by unfold fol; rw [if_pos h, if_pos hot]
theorem fol_go {en T sd ow ot its : Nat} {a : wA} (h : ¬ ow ≤ en) : fol en T sd ow ot its a = (vup a.1 ((if sd = 0 then ow - 1 else ot) * 3 + sd) (a.1 ((if sd = 0 then ow - 1 else ot) * 3 + sd) + its), a.2) := by unfold fol; rw [if_neg h]
/-- how far the reference has come at (l, r, la) -/
def rAt (kd x en T m : Nat) (w : Nat → Nat) (l r : Nat) (a : wA) : wA := if m < l + r ∧ l ≤ m then cin kd x en T m w l 3 a else a
def lAt (kd x en T m : Nat) (w : Nat → Nat) (l r la : Nat) (a : wA) : wA := if l + r = m then cin kd x en T m w l la a else rAt kd x en T m w l r a
theorem rAt_0 {kd x en T m : Nat} {w : Nat → Nat} {l : Nat} {a : wA} : a = rAt kd x en T m w l 0 a := by unfold rAt; rw [if_neg (by omega)]
theorem lAt_0 {kd x en T m : Nat} {w : Nat → Nat} {l r : Nat} {a : wA} : rAt kd x en T m w l r a = lAt kd x en T m w l r 0 a := by
  unfold lAt; split
  · unfold rAt; rw [if_neg (by omega)]; rfl
  · rfl
theorem lAt_3 {kd x en T m : Nat} {w : Nat → Nat} {l r : Nat} {a : wA} : lAt kd x en T m w l r 3 a = rAt kd x en T m w l (r + 1) a := by
  unfold lAt rAt
  by_cases h : l + r = m
  · rw [if_pos h, if_pos (by omega)]
  · rw [if_neg h]
    by_cases h2 : m < l + r ∧ l ≤ m
    · rw [if_pos h2, if_pos (by omega)]
    · rw [if_neg h2, if_neg (by omega)]
theorem rAt_11 {kd x en T m : Nat} {w : Nat → Nat} {l : Nat} {a : wA} (hl : l ≤ 10) (hw : sup m w) : rAt kd x en T m w l 11 a = cin kd x en T m w l 3 a := by
  unfold rAt
  by_cases h : m < l + 11 ∧ l ≤ m
  · rw [if_pos h]
  · rw [if_neg h]
    have h0 : ∀ la, la < 3 → w (l * 3 + la) = 0 := fun la hla => by
      rcases Nat.eq_zero_or_pos (w (l * 3 + la)) with z | z
      · exact z
      · have := hw l la hl hla (by omega)
        omega
    show a = cel kd x en T m w l 2 (cel kd x en T m w l 1 (cel kd x en T m w l 0 a))
    unfold cel
    rw [if_pos (h0 0 (by omega)), if_pos (h0 1 (by omega)), if_pos (h0 2 (by omega))]
theorem lAt_s0 {kd x en T m : Nat} {w : Nat → Nat} {l r la : Nat} {a : wA} (h : (if l + r = m then w (l * 3 + la) else 0) = 0) : lAt kd x en T m w l r la a = lAt kd x en T m w l r (la + 1) a := by
  unfold lAt
  by_cases q : l + r = m
  · rw [if_pos q] at h
    rw [if_pos q, if_pos q, cin, cel, if_pos h]
  · rw [if_neg q, if_neg q]
theorem lAt_s {kd x en T m : Nat} {w : Nat → Nat} {l r la wv : Nat} {a : wA} (hv : wv = if l + r = m then w (l * 3 + la) else 0) (h : 0 < wv) :
    fol en T 1 r l (wv * (4 - htl kd x l r la)) (fol en T 0 l r (wv * htl kd x l r la) (lAt kd x en T m w l r la a)) = lAt kd x en T m w l r (la + 1) a := by
  unfold lAt
  by_cases q : l + r = m
  · rw [if_pos q] at hv
    rw [if_pos q, if_pos q, cin, cel, if_neg (by omega), ← hv, show m - l = r by omega]
  · rw [if_neg q] at hv; omega
def sds (en T l r i0 i1 : Nat) (a : wA) (n : Nat) : wA := if n = 0 then a else if n = 1 then fol en T 0 l r i0 a else fol en T 1 r l i1 (fol en T 0 l r i0 a)
abbrev rm_X5_spot : Room := { frames := 0, cells := 0, slots := 0, locals := 0 }
set_option maxHeartbeats 4000000 in
set_option maxRecDepth 100000 in
theorem c_X5_spot (lq : Launch) (D : va_G) (t : zT) (l r la : Nat)  : Ct lq D t yX5_spot cX5_spot 3 (some .int) rm_X5_spot [.int (nI l), .int (nI r), .int (nI la)] [] 0 0 (fun rv rw_ => rv = some (.int (nI (33 * l + 3 * r + la))) ∧ rw_ = []) := by
  refine Ct.of (by decide) (Nat.le_of_ble_eq_true rfl) (fun k X hRet => ?_)
  have X : zX D t k cX5_spot 3 RX5 "spot" rm_X5_spot lq := X
  refine z_eq (lv2 := [(0, .int (nI l)), (1, .int (nI r)), (2, .int (nI la))]) rfl rfl rfl ?_
  refine z_bipush X (pc := 0) (nI 33) dX5_spot_0 (by decide) ?_
  refine z_iload_n X (pc := 2) 0 dX5_spot_2 rfl ?_
  refine z_imul X (pc := 3) (v := (nI (33 * l))) dX5_spot_3 (pk_mul _ _) ?_
  refine z_iconst X (pc := 4) (nI 3) dX5_spot_4 (by decide) ?_
  refine z_iload_n X (pc := 5) 1 dX5_spot_5 rfl ?_
  refine z_imul X (pc := 6) (v := (nI (3 * r))) dX5_spot_6 (pk_mul _ _) ?_
  refine z_iadd X (pc := 7) (v := (nI (33 * l + (3 * r)))) dX5_spot_7 (nI_add (33 * l) (3 * r)) ?_
  refine z_iload_n X (pc := 8) 2 dX5_spot_8 rfl ?_
  refine z_iadd X (pc := 9) (v := (nI (33 * l + (3 * r) + la))) dX5_spot_9 (nI_add (33 * l + (3 * r)) la) ?_
  exact hRet.i dX5_spot_10 ⟨rfl, rfl⟩

abbrev rm_X5_clears : Room := { frames := 0, cells := 0, slots := 0, locals := 0 }
set_option maxHeartbeats 4000000 in
set_option maxRecDepth 100000 in
theorem c_X5_clears (lq : Launch) (D : va_G) (t : zT) (mq mT mD mS mP mI mE mH mX mR mO ty ev kn kp sg : Nat) (at_ : Int32) (fs : Int64) (f g : Nat → Int64)  : Ct lq D t yX5_clears cX5_clears 2 none rm_X5_clears [.ref mq] [eX5 mq mT (nI ty) mD mS (nI ev) mP (nI kn) mI (nI kp) mE (nI sg) at_ mH mX mR mO fs, eL t mR 11 f, eL t mO 22 g] 0 0 (fun rv rw_ => rv = none ∧ rw_ = [eX5 mq mT (nI ty) mD mS (nI ev) mP (nI kn) mI (nI kp) mE (nI sg) at_ mH mX mR mO (lN 0), eL t mR 11 (lf (fun _ => 0)), eL t mO 22 (lf (fun _ => 0))]) := by
  refine Ct.of (by decide) (Nat.le_of_ble_eq_true rfl) (fun k X hRet => ?_)
  have X : zX D t k cX5_clears 2 RX5 "clears" rm_X5_clears lq := X
  refine z_eq (lv2 := [(0, .ref mq)]) rfl rfl rfl ?_
  refine z_iconst X (pc := 0) (nI 0) dX5_clears_0 (by decide) ?_
  refine z_istore_n X (pc := 1) (i := 1) [(1, .int (nI 0)), (0, .ref mq)] dX5_clears_1 rfl (by decide) rfl ?_
  have loop_2 : ∀ (fuel_2 : Nat) (i : Nat), 11 < i + fuel_2 → (i ≤ 11) → Z D k (0, 0) [eX5 mq mT (nI ty) mD mS (nI ev) mP (nI kn) mI (nI kp) mE (nI sg) at_ mH mX mR mO fs, eL t mR 11 (fun j => if j < i then lN 0 else f j), eL t mO 22 g] 2 [(0, .ref mq), (1, .int (nI i))] [] := by
    intro fuel_2
    induction fuel_2 with
    | zero =>
      intro i hfuel_2 hi
      exfalso; omega
    | succ fuel_2 ih_2 =>
      intro i hfuel_2 hi
      refine z_iload_n X (pc := 2) 1 dX5_clears_2 rfl ?_
      refine z_bipush X (pc := 3) (nI 11) dX5_clears_3 (by decide) ?_
      refine z_icmp_geN X (pc := 5) 21 (by omega) (by omega) dX5_clears_5 (by decide) (fun c_5 => ?_) (fun c_5 => ?_)
      · skip
        refine z_lrow 1 (lf (fun _ => 0)) [eX5 mq mT (nI ty) mD mS (nI ev) mP (nI kn) mI (nI kp) mE (nI sg) at_ mH mX mR mO fs, eL t mR 11 (lf (fun _ => 0)), eL t mO 22 g] rfl (fun j hj => by simp [show j < i by omega]) rfl ?_
        refine z_iconst X (pc := 21) (nI 0) dX5_clears_21 (by decide) ?_
        refine z_istore_n X (pc := 22) (i := 1) [(1, .int (nI 0)), (0, .ref mq)] dX5_clears_22 rfl (by decide) rfl ?_
        have loop_23 : ∀ (fuel_23 : Nat) (i : Nat), 22 < i + fuel_23 → (i ≤ 22) → Z D k (0, 0) [eX5 mq mT (nI ty) mD mS (nI ev) mP (nI kn) mI (nI kp) mE (nI sg) at_ mH mX mR mO fs, eL t mR 11 (lf (fun _ => 0)), eL t mO 22 (fun j => if j < i then lN 0 else g j)] 23 [(0, .ref mq), (1, .int (nI i))] [] := by
          intro fuel_23
          induction fuel_23 with
          | zero =>
            intro i hfuel_23 hi
            exfalso; omega
          | succ fuel_23 ih_23 =>
            intro i hfuel_23 hi
            refine z_iload_n X (pc := 23) 1 dX5_clears_23 rfl ?_
            refine z_bipush X (pc := 24) (nI 22) dX5_clears_24 (by decide) ?_
            refine z_icmp_geN X (pc := 26) 42 (by omega) (by omega) dX5_clears_26 (by decide) (fun c_26 => ?_) (fun c_26 => ?_)
            · skip
              refine z_lrow 2 (lf (fun _ => 0)) [eX5 mq mT (nI ty) mD mS (nI ev) mP (nI kn) mI (nI kp) mE (nI sg) at_ mH mX mR mO fs, eL t mR 11 (lf (fun _ => 0)), eL t mO 22 (lf (fun _ => 0))] rfl (fun j hj => by simp [show j < i by omega]) rfl ?_
              refine z_aload_n X (pc := 42) 0 dX5_clears_42 rfl ?_
              refine z_lconst X (pc := 43) (lN 0) dX5_clears_43 (by decide) ?_
              refine z_put X (pc := 44) 0 16 [eX5 mq mT (nI ty) mD mS (nI ev) mP (nI kn) mI (nI kp) mE (nI sg) at_ mH mX mR mO (lN 0), eL t mR 11 (lf (fun _ => 0)), eL t mO 22 (lf (fun _ => 0))] tu_5 tyX5_ok nmX5 tw_575 dX5_clears_44 rfl rfl (by decide) rfl rfl rfl rfl (Nat.le_of_ble_eq_true rfl) rfl ?_
              exact hRet.v dX5_clears_47 ⟨rfl, rfl⟩
            · skip
              refine z_aload_n X (pc := 29) 0 dX5_clears_29 rfl ?_
              refine z_get X (pc := 30) 0 15 (.ref mO) tu_5 tw_574 dX5_clears_30 rfl rfl (by decide) rfl rfl ?_
              refine z_iload_n X (pc := 33) 1 dX5_clears_33 rfl ?_
              refine z_lconst X (pc := 34) (lN 0) dX5_clears_34 (by decide) ?_
              refine z_last X (pc := 35) 2 i (fun j => if j < i + 1 then lN 0 else g j) [eX5 mq mT (nI ty) mD mS (nI ev) mP (nI kn) mI (nI kp) mE (nI sg) at_ mH mX mR mO fs, eL t mR 11 (lf (fun _ => 0)), eL t mO 22 (fun j => if j < i + 1 then lN 0 else g j)] dX5_clears_35 rfl rfl (Nat.le_of_ble_eq_true rfl) (by omega) (by funext j; simp only [vp_updL]; (repeat' split) <;> first | rfl | (exfalso; omega)) rfl ?_
              refine z_iinc X (pc := 36) (i := 1) 1 (nI (i + 1)) [(1, .int (nI (i + 1))), (0, .ref mq)] dX5_clears_36 rfl (nI_incc i 1) (by decide) rfl ?_
              refine z_goto X (pc := 39) 23 dX5_clears_39 (by decide) ?_
              refine z_lv [1, 0] (lv2 := [(0, .ref mq), (1, .int (nI (i + 1)))]) rfl ?_
              exact ih_23 (i + 1) (by omega) (by omega)
        refine z_eq (ws2 := [eX5 mq mT (nI ty) mD mS (nI ev) mP (nI kn) mI (nI kp) mE (nI sg) at_ mH mX mR mO fs, eL t mR 11 (lf (fun _ => 0)), eL t mO 22 (fun j => if j < 0 then lN 0 else g j)]) (by simp) rfl rfl ?_
        refine z_lv [1, 0] (lv2 := [(0, .ref mq), (1, .int (nI 0))]) rfl ?_
        exact loop_23 23 0 (by omega) (by omega)
      · skip
        refine z_aload_n X (pc := 8) 0 dX5_clears_8 rfl ?_
        refine z_get X (pc := 9) 0 14 (.ref mR) tu_5 tw_573 dX5_clears_9 rfl rfl (by decide) rfl rfl ?_
        refine z_iload_n X (pc := 12) 1 dX5_clears_12 rfl ?_
        refine z_lconst X (pc := 13) (lN 0) dX5_clears_13 (by decide) ?_
        refine z_last X (pc := 14) 1 i (fun j => if j < i + 1 then lN 0 else f j) [eX5 mq mT (nI ty) mD mS (nI ev) mP (nI kn) mI (nI kp) mE (nI sg) at_ mH mX mR mO fs, eL t mR 11 (fun j => if j < i + 1 then lN 0 else f j), eL t mO 22 g] dX5_clears_14 rfl rfl (Nat.le_of_ble_eq_true rfl) (by omega) (by funext j; simp only [vp_updL]; (repeat' split) <;> first | rfl | (exfalso; omega)) rfl ?_
        refine z_iinc X (pc := 15) (i := 1) 1 (nI (i + 1)) [(1, .int (nI (i + 1))), (0, .ref mq)] dX5_clears_15 rfl (nI_incc i 1) (by decide) rfl ?_
        refine z_goto X (pc := 18) 2 dX5_clears_18 (by decide) ?_
        refine z_lv [1, 0] (lv2 := [(0, .ref mq), (1, .int (nI (i + 1)))]) rfl ?_
        exact ih_2 (i + 1) (by omega) (by omega)
  refine z_eq (ws2 := [eX5 mq mT (nI ty) mD mS (nI ev) mP (nI kn) mI (nI kp) mE (nI sg) at_ mH mX mR mO fs, eL t mR 11 (fun j => if j < 0 then lN 0 else f j), eL t mO 22 g]) (by simp) rfl rfl ?_
  refine z_lv [1, 0] (lv2 := [(0, .ref mq), (1, .int (nI 0))]) rfl ?_
  exact loop_2 12 0 (by omega) (by omega)

abbrev rm_X5_begin0 : Room := { frames := 1, cells := 0, slots := 0, locals := 22 }
set_option maxHeartbeats 4000000 in
set_option maxRecDepth 100000 in
theorem c_X5_begin0 (lq : Launch) (D : va_G) (t : zT) (mq mT mD mS mP mI mE mH mX mR mO ty ev kn kp sg : Nat) (at_ : Int32) (fs : Int64) (l r la : Nat) (f : Nat → Int64) (hl : l ≤ 10) (hr : r ≤ 10) (hla : la ≤ 2) : Ct lq D t yX5_begin0 cX5_begin0 5 none rm_X5_begin0 [.ref mq, .int (nI l), .int (nI r), .int (nI la)] [eX5 mq mT (nI ty) mD mS (nI ev) mP (nI kn) mI (nI kp) mE (nI sg) at_ mH mX mR mO fs, eL t mH 363 f] 0 0 (fun rv rw_ => rv = none ∧ rw_ = [eX5 mq mT (nI ty) mD mS (nI ev) mP (nI kn) mI (nI kp) mE (nI sg) at_ mH mX mR mO fs, eL t mH 363 (lf (emb (l + r) (vup (fun _ => 0) (l * 3 + la) 1)))]) := by
  refine Ct.of (by decide) (Nat.le_of_ble_eq_true rfl) (fun k X hRet => ?_)
  have X : zX D t k cX5_begin0 5 RX5 "begin0" rm_X5_begin0 lq := X
  refine z_eq (lv2 := [(0, .ref mq), (1, .int (nI l)), (2, .int (nI r)), (3, .int (nI la))]) rfl rfl rfl ?_
  refine z_iconst X (pc := 0) (nI 0) dX5_begin0_0 (by decide) ?_
  refine z_istore X (pc := 1) (i := 4) [(4, .int (nI 0)), (0, .ref mq), (1, .int (nI l)), (2, .int (nI r)), (3, .int (nI la))] dX5_begin0_1 trivial (by decide) rfl ?_
  have loop_3 : ∀ (fuel_3 : Nat) (i : Nat), 363 < i + fuel_3 → (i ≤ 363) → Z D k (0, 0) [eX5 mq mT (nI ty) mD mS (nI ev) mP (nI kn) mI (nI kp) mE (nI sg) at_ mH mX mR mO fs, eL t mH 363 (fun j => if j < i then lN 0 else f j)] 3 [(0, .ref mq), (1, .int (nI l)), (2, .int (nI r)), (3, .int (nI la)), (4, .int (nI i))] [] := by
    intro fuel_3
    induction fuel_3 with
    | zero =>
      intro i hfuel_3 hi
      exfalso; omega
    | succ fuel_3 ih_3 =>
      intro i hfuel_3 hi
      refine z_iload X (pc := 3) 4 dX5_begin0_3 rfl ?_
      refine z_sipush X (pc := 5) (nI 363) dX5_begin0_5 (by decide) ?_
      refine z_icmp_geN X (pc := 8) 25 (by omega) (by omega) dX5_begin0_8 (by decide) (fun c_8 => ?_) (fun c_8 => ?_)
      · skip
        refine z_lrow 1 (lf (fun _ => 0)) [eX5 mq mT (nI ty) mD mS (nI ev) mP (nI kn) mI (nI kp) mE (nI sg) at_ mH mX mR mO fs, eL t mH 363 (lf (fun _ => 0))] rfl (fun j hj => by simp [show j < i by omega]) rfl ?_
        refine z_aload_n X (pc := 25) 0 dX5_begin0_25 rfl ?_
        refine z_get X (pc := 26) 0 12 (.ref mH) tu_5 tw_571 dX5_begin0_26 rfl rfl (by decide) rfl rfl ?_
        refine z_iload_n X (pc := 29) 1 dX5_begin0_29 rfl ?_
        refine z_iload_n X (pc := 30) 2 dX5_begin0_30 rfl ?_
        refine z_iload_n X (pc := 31) 3 dX5_begin0_31 rfl ?_
        refine zc_S (as := [.int (nI l), .int (nI r), .int (nI la)]) X (pc := 32) (c_X5_spot lq D t l r la ) tw_712 tw_714 tw_7 tw_713 [] rfl rfl dX5_begin0_32 rfl zdX5_spot ⟨rfl, rfl, Nat.le_of_ble_eq_true rfl, Nat.le_of_ble_eq_true rfl⟩ (Nat.le_of_ble_eq_true rfl) (Nat.zero_le _) (Nat.zero_le _) (fun v_1 w_2 hp_3 => ?_)
        obtain ⟨rfl, rfl⟩ := hp_3
        refine ⟨rfl, ?_⟩
        refine z_eq (ws2 := [eX5 mq mT (nI ty) mD mS (nI ev) mP (nI kn) mI (nI kp) mE (nI sg) at_ mH mX mR mO fs, eL t mH 363 (lf (fun _ => 0))]) (st2 := [.int (nI (33 * l + 3 * r + la)), .ref mH]) rfl rfl rfl ?_
        refine z_lconst X (pc := 35) (lN 1) dX5_begin0_35 (by decide) ?_
        refine z_last X (pc := 36) 1 (33 * l + 3 * r + la) (lf (vup (fun _ => 0) (33 * l + 3 * r + la) 1)) [eX5 mq mT (nI ty) mD mS (nI ev) mP (nI kn) mI (nI kp) mE (nI sg) at_ mH mX mR mO fs, eL t mH 363 (lf (vup (fun _ => 0) (33 * l + 3 * r + la) 1))] dX5_begin0_36 rfl rfl (Nat.le_of_ble_eq_true rfl) (by omega) (updL_lf _ _ _) rfl ?_
        refine z_lrow 1 (lf (emb (l + r) (vup (fun _ => 0) (l * 3 + la) 1))) [eX5 mq mT (nI ty) mD mS (nI ev) mP (nI kn) mI (nI kp) mE (nI sg) at_ mH mX mR mO fs, eL t mH 363 (lf (emb (l + r) (vup (fun _ => 0) (l * 3 + la) 1)))] rfl (fun j hj => by show lN _ = lN _; rw [emb_start hr hla]) rfl ?_
        exact hRet.v dX5_begin0_37 ⟨rfl, rfl⟩
      · skip
        refine z_aload_n X (pc := 11) 0 dX5_begin0_11 rfl ?_
        refine z_get X (pc := 12) 0 12 (.ref mH) tu_5 tw_571 dX5_begin0_12 rfl rfl (by decide) rfl rfl ?_
        refine z_iload X (pc := 15) 4 dX5_begin0_15 rfl ?_
        refine z_lconst X (pc := 17) (lN 0) dX5_begin0_17 (by decide) ?_
        refine z_last X (pc := 18) 1 i (fun j => if j < i + 1 then lN 0 else f j) [eX5 mq mT (nI ty) mD mS (nI ev) mP (nI kn) mI (nI kp) mE (nI sg) at_ mH mX mR mO fs, eL t mH 363 (fun j => if j < i + 1 then lN 0 else f j)] dX5_begin0_18 rfl rfl (Nat.le_of_ble_eq_true rfl) (by omega) (by funext j; simp only [vp_updL]; (repeat' split) <;> first | rfl | (exfalso; omega)) rfl ?_
        refine z_iinc X (pc := 19) (i := 4) 4 (nI (i + 1)) [(4, .int (nI (i + 1))), (0, .ref mq), (1, .int (nI l)), (2, .int (nI r)), (3, .int (nI la))] dX5_begin0_19 rfl (nI_incc i 1) (by decide) rfl ?_
        refine z_goto X (pc := 22) 3 dX5_begin0_22 (by decide) ?_
        refine z_lv [1, 2, 3, 4, 0] (lv2 := [(0, .ref mq), (1, .int (nI l)), (2, .int (nI r)), (3, .int (nI la)), (4, .int (nI (i + 1)))]) rfl ?_
        exact ih_3 (i + 1) (by omega) (by omega)
  refine z_eq (ws2 := [eX5 mq mT (nI ty) mD mS (nI ev) mP (nI kn) mI (nI kp) mE (nI sg) at_ mH mX mR mO fs, eL t mH 363 (fun j => if j < 0 then lN 0 else f j)]) (by simp) rfl rfl ?_
  refine z_lv [1, 2, 3, 4, 0] (lv2 := [(0, .ref mq), (1, .int (nI l)), (2, .int (nI r)), (3, .int (nI la)), (4, .int (nI 0))]) rfl ?_
  exact loop_3 364 0 (by omega) (by omega)

abbrev rm_X5_goes : Room := { frames := 1, cells := 0, slots := 0, locals := 25 }
set_option maxHeartbeats 4000000 in
set_option maxRecDepth 100000 in
theorem c_X5_goes (lq : Launch) (D : va_G) (t : zT) (mq mT mD mS mP mI mE mH mX mR mO ty ev kn kp sg : Nat) (at_ : Int32) (fs : Int64) (kd x en st T m el : Nat) (w os sn : Nat → Nat) (f : Nat → Int64) (hkd : kd ≤ 3) (hx : x ≤ 4) (hen : en ≤ 1) (hst : st ≤ 21) (hm : m ≤ 20) (hsup : sup m w) (hbd : ∀ c, c < 33 → w c < 2 ^ 62) : Ct lq D t yX5_goes cX5_goes 18 none rm_X5_goes [.ref mq, .int (nI kd), .int (nI x), .int (nI en), .int (nI st), .long (lN T)] [eX5 mq mT (nI ty) mD mS (nI ev) mP (nI kn) mI (nI kp) mE (nI sg) at_ mH mX mR mO (lN el), eL t mH 363 (lf (emb m w)), eL t mX 363 f, eL t mR 11 (lf os), eL t mO 22 (lf sn)] 0 0 (fun rv rw_ => ∃ (F2 : Nat → Int64), rv = none ∧ rw_ = [eX5 mq mT (nI ty) mD mS (nI ev) mP (nI kn) mI (nI kp) mE (nI sg) at_ mH mX mR mO (lN ((cou kd x en T m w 11 (((fun _ => 0), os, sn st, el) : wA)).2.2.2)), eL t mH 363 (lf (emb (m - 1) (cou kd x en T m w 11 (((fun _ => 0), os, sn st, el) : wA)).1)), eL t mX 363 F2, eL t mR 11 (lf ((cou kd x en T m w 11 (((fun _ => 0), os, sn st, el) : wA)).2.1)), eL t mO 22 (lf (vup sn st (cou kd x en T m w 11 (((fun _ => 0), os, sn st, el) : wA)).2.2.1))]) := by
  refine Ct.of (by decide) (Nat.le_of_ble_eq_true rfl) (fun k X hRet => ?_)
  have X : zX D t k cX5_goes 18 RX5 "goes" rm_X5_goes lq := X
  refine z_eq (lv2 := [(0, .ref mq), (1, .int (nI kd)), (2, .int (nI x)), (3, .int (nI en)), (4, .int (nI st)), (5, .long (lN T))]) rfl rfl rfl ?_
  refine z_iconst X (pc := 0) (nI 0) dX5_goes_0 (by decide) ?_
  refine z_istore X (pc := 1) (i := 7) [(7, .int (nI 0)), (0, .ref mq), (1, .int (nI kd)), (2, .int (nI x)), (3, .int (nI en)), (4, .int (nI st)), (5, .long (lN T))] dX5_goes_1 trivial (by decide) rfl ?_
  have loop_3 : ∀ (fuel_3 : Nat) (i : Nat), 363 < i + fuel_3 → (i ≤ 363) → Z D k (0, 0) [eX5 mq mT (nI ty) mD mS (nI ev) mP (nI kn) mI (nI kp) mE (nI sg) at_ mH mX mR mO (lN el), eL t mH 363 (lf (emb m w)), eL t mX 363 (fun j => if j < i then lN 0 else f j), eL t mR 11 (lf os), eL t mO 22 (lf sn)] 3 [(0, .ref mq), (1, .int (nI kd)), (2, .int (nI x)), (3, .int (nI en)), (4, .int (nI st)), (5, .long (lN T)), (7, .int (nI i))] [] := by
    intro fuel_3
    induction fuel_3 with
    | zero =>
      intro i hfuel_3 hi
      exfalso; omega
    | succ fuel_3 ih_3 =>
      intro i hfuel_3 hi
      refine z_iload X (pc := 3) 6 dX5_goes_3 rfl ?_
      refine z_sipush X (pc := 5) (nI 363) dX5_goes_5 (by decide) ?_
      refine z_icmp_geN X (pc := 8) 25 (by omega) (by omega) dX5_goes_8 (by decide) (fun c_8 => ?_) (fun c_8 => ?_)
      · skip
        refine z_lrow 2 (lf (fun _ => 0)) [eX5 mq mT (nI ty) mD mS (nI ev) mP (nI kn) mI (nI kp) mE (nI sg) at_ mH mX mR mO (lN el), eL t mH 363 (lf (emb m w)), eL t mX 363 (lf (fun _ => 0)), eL t mR 11 (lf os), eL t mO 22 (lf sn)] rfl (fun j hj => by simp [show j < i by omega]) rfl ?_
        refine z_iconst X (pc := 25) (nI 0) dX5_goes_25 (by decide) ?_
        refine z_istore X (pc := 26) (i := 7) [(7, .int (nI 0)), (0, .ref mq), (1, .int (nI kd)), (2, .int (nI x)), (3, .int (nI en)), (4, .int (nI st)), (5, .long (lN T))] dX5_goes_26 trivial (by decide) rfl ?_
        have loop_28 : ∀ (fuel_28 : Nat) (l : Nat) (A : wA), 11 < l + fuel_28 → (l ≤ 11) → (A = cou kd x en T m w l (((fun _ => 0), os, sn st, el) : wA)) → Z D k (0, 0) [eX5 mq mT (nI ty) mD mS (nI ev) mP (nI kn) mI (nI kp) mE (nI sg) at_ mH mX mR mO (lN A.2.2.2), eL t mH 363 (lf (emb m w)), eL t mX 363 (lf (embN m A.1)), eL t mR 11 (lf A.2.1), eL t mO 22 (lf (vup sn st A.2.2.1))] 28 [(0, .ref mq), (1, .int (nI kd)), (2, .int (nI x)), (3, .int (nI en)), (4, .int (nI st)), (5, .long (lN T)), (7, .int (nI l))] [] := by
          intro fuel_28
          induction fuel_28 with
          | zero =>
            intro l A hfuel_28 hl hA
            exfalso; omega
          | succ fuel_28 ih_28 =>
            intro l A hfuel_28 hl hA
            refine z_iload X (pc := 28) 6 dX5_goes_28 rfl ?_
            refine z_bipush X (pc := 30) (nI 11) dX5_goes_30 (by decide) ?_
            refine z_icmp_geN X (pc := 32) 281 (by omega) (by omega) dX5_goes_32 (by decide) (fun c_32 => ?_) (fun c_32 => ?_)
            · skip
              refine z_iconst X (pc := 281) (nI 0) dX5_goes_281 (by decide) ?_
              refine z_istore X (pc := 282) (i := 7) [(7, .int (nI 0)), (0, .ref mq), (1, .int (nI kd)), (2, .int (nI x)), (3, .int (nI en)), (4, .int (nI st)), (5, .long (lN T))] dX5_goes_282 trivial (by decide) rfl ?_
              have loop_284 : ∀ (fuel_284 : Nat) (i : Nat), 363 < i + fuel_284 → (i ≤ 363) → Z D k (0, 0) [eX5 mq mT (nI ty) mD mS (nI ev) mP (nI kn) mI (nI kp) mE (nI sg) at_ mH mX mR mO (lN A.2.2.2), eL t mH 363 (lf (fun j => if j < i then embN m A.1 j else emb m w j)), eL t mX 363 (lf (embN m A.1)), eL t mR 11 (lf A.2.1), eL t mO 22 (lf (vup sn st A.2.2.1))] 284 [(0, .ref mq), (1, .int (nI kd)), (2, .int (nI x)), (3, .int (nI en)), (4, .int (nI st)), (5, .long (lN T)), (7, .int (nI i))] [] := by
                intro fuel_284
                induction fuel_284 with
                | zero =>
                  intro i hfuel_284 hi
                  exfalso; omega
                | succ fuel_284 ih_284 =>
                  intro i hfuel_284 hi
                  refine z_iload X (pc := 284) 6 dX5_goes_284 rfl ?_
                  refine z_sipush X (pc := 286) (nI 363) dX5_goes_286 (by decide) ?_
                  refine z_icmp_geN X (pc := 289) 312 (by omega) (by omega) dX5_goes_289 (by decide) (fun c_289 => ?_) (fun c_289 => ?_)
                  · skip
                    have hspn : supN m A.1 := by rw [hA, show l = 11 by omega]; exact cou_sup hsup (fun l la _ _ z => absurd rfl z) 11 (Nat.le_refl 11)
                    refine z_lrow 1 (lf (emb (m - 1) A.1)) [eX5 mq mT (nI ty) mD mS (nI ev) mP (nI kn) mI (nI kp) mE (nI sg) at_ mH mX mR mO (lN A.2.2.2), eL t mH 363 (lf (emb (m - 1) A.1)), eL t mX 363 (lf (embN m A.1)), eL t mR 11 (lf A.2.1), eL t mO 22 (lf (vup sn st A.2.2.1))] rfl (fun j hj => by show lN (if j < i then _ else _) = lN _; rw [if_pos (by omega), embN_emb hspn hj]) rfl ?_
                    exact hRet.v dX5_goes_312 ⟨(lf (embN m A.1)), rfl, by rw [hA, show l = 11 by omega]⟩
                  · skip
                    refine z_aload_n X (pc := 292) 0 dX5_goes_292 rfl ?_
                    refine z_get X (pc := 293) 0 12 (.ref mH) tu_5 tw_571 dX5_goes_293 rfl rfl (by decide) rfl rfl ?_
                    refine z_iload X (pc := 296) 6 dX5_goes_296 rfl ?_
                    refine z_aload_n X (pc := 298) 0 dX5_goes_298 rfl ?_
                    refine z_get X (pc := 299) 0 13 (.ref mX) tu_5 tw_572 dX5_goes_299 rfl rfl (by decide) rfl rfl ?_
                    refine z_iload X (pc := 302) 6 dX5_goes_302 rfl ?_
                    refine z_lald X (pc := 304) 2 i (lN (embN m A.1 i)) dX5_goes_304 rfl rfl (Nat.le_of_ble_eq_true rfl) (by omega) rfl ?_
                    refine z_last X (pc := 305) 1 i (lf (fun j => if j < i + 1 then embN m A.1 j else emb m w j)) [eX5 mq mT (nI ty) mD mS (nI ev) mP (nI kn) mI (nI kp) mE (nI sg) at_ mH mX mR mO (lN A.2.2.2), eL t mH 363 (lf (fun j => if j < i + 1 then embN m A.1 j else emb m w j)), eL t mX 363 (lf (embN m A.1)), eL t mR 11 (lf A.2.1), eL t mO 22 (lf (vup sn st A.2.2.1))] dX5_goes_305 rfl rfl (Nat.le_of_ble_eq_true rfl) (by omega) (by rw [updL_lf]; congr 1; funext j; simp only [vup]; (repeat' split) <;> first | rfl | (exfalso; omega) | (subst_vars; rfl)) rfl ?_
                    refine z_iinc X (pc := 306) (i := 7) 6 (nI (i + 1)) [(7, .int (nI (i + 1))), (0, .ref mq), (1, .int (nI kd)), (2, .int (nI x)), (3, .int (nI en)), (4, .int (nI st)), (5, .long (lN T))] dX5_goes_306 rfl (nI_incc i 1) (by decide) rfl ?_
                    refine z_goto X (pc := 309) 284 dX5_goes_309 (by decide) ?_
                    refine z_lv [1, 2, 3, 4, 5, 6, 0] (lv2 := [(0, .ref mq), (1, .int (nI kd)), (2, .int (nI x)), (3, .int (nI en)), (4, .int (nI st)), (5, .long (lN T)), (7, .int (nI (i + 1)))]) rfl ?_
                    exact ih_284 (i + 1) (by omega) (by omega)
              have hl11 : l = 11 := by omega
              refine z_eq (ws2 := [eX5 mq mT (nI ty) mD mS (nI ev) mP (nI kn) mI (nI kp) mE (nI sg) at_ mH mX mR mO (lN A.2.2.2), eL t mH 363 (lf (fun j => if j < 0 then embN m A.1 j else emb m w j)), eL t mX 363 (lf (embN m A.1)), eL t mR 11 (lf A.2.1), eL t mO 22 (lf (vup sn st A.2.2.1))]) (by simp) rfl rfl ?_
              refine z_lv [1, 2, 3, 4, 5, 6, 0] (lv2 := [(0, .ref mq), (1, .int (nI kd)), (2, .int (nI x)), (3, .int (nI en)), (4, .int (nI st)), (5, .long (lN T)), (7, .int (nI 0))]) rfl ?_
              exact loop_284 364 0 (by omega) (by omega)
            · skip
              refine z_iconst X (pc := 35) (nI 0) dX5_goes_35 (by decide) ?_
              refine z_istore X (pc := 36) (i := 8) [(8, .int (nI 0)), (0, .ref mq), (1, .int (nI kd)), (2, .int (nI x)), (3, .int (nI en)), (4, .int (nI st)), (5, .long (lN T)), (7, .int (nI l))] dX5_goes_36 trivial (by decide) rfl ?_
              have loop_38 : ∀ (fuel_38 : Nat) (r : Nat) (A1 : wA), 11 < r + fuel_38 → (r ≤ 11) → (A1 = rAt kd x en T m w l r (cou kd x en T m w l (((fun _ => 0), os, sn st, el) : wA))) → Z D k (0, 0) [eX5 mq mT (nI ty) mD mS (nI ev) mP (nI kn) mI (nI kp) mE (nI sg) at_ mH mX mR mO (lN A1.2.2.2), eL t mH 363 (lf (emb m w)), eL t mX 363 (lf (embN m A1.1)), eL t mR 11 (lf A1.2.1), eL t mO 22 (lf (vup sn st A1.2.2.1))] 38 [(0, .ref mq), (1, .int (nI kd)), (2, .int (nI x)), (3, .int (nI en)), (4, .int (nI st)), (5, .long (lN T)), (7, .int (nI l)), (8, .int (nI r))] [] := by
                intro fuel_38
                induction fuel_38 with
                | zero =>
                  intro r A1 hfuel_38 hr9 hA1
                  exfalso; omega
                | succ fuel_38 ih_38 =>
                  intro r A1 hfuel_38 hr9 hA1
                  refine z_iload X (pc := 38) 7 dX5_goes_38 rfl ?_
                  refine z_bipush X (pc := 40) (nI 11) dX5_goes_40 (by decide) ?_
                  refine z_icmp_geN X (pc := 42) 275 (by omega) (by omega) dX5_goes_42 (by decide) (fun c_42 => ?_) (fun c_42 => ?_)
                  · skip
                    refine z_iinc X (pc := 275) (i := 7) 6 (nI (l + 1)) [(7, .int (nI (l + 1))), (0, .ref mq), (1, .int (nI kd)), (2, .int (nI x)), (3, .int (nI en)), (4, .int (nI st)), (5, .long (lN T)), (8, .int (nI r))] dX5_goes_275 rfl (nI_incc l 1) (by decide) rfl ?_
                    refine z_goto X (pc := 278) 28 dX5_goes_278 (by decide) ?_
                    refine z_lv [1, 2, 3, 4, 5, 6, 0] (lv2 := [(0, .ref mq), (1, .int (nI kd)), (2, .int (nI x)), (3, .int (nI en)), (4, .int (nI st)), (5, .long (lN T)), (7, .int (nI (l + 1)))]) rfl ?_
                    exact ih_28 (l + 1) A1 (by omega) (by omega) (by rw [hA1, show r = 11 by omega, rAt_11 (by omega) hsup]; rfl)
                  · skip
                    refine z_iconst X (pc := 45) (nI 0) dX5_goes_45 (by decide) ?_
                    refine z_istore X (pc := 46) (i := 9) [(9, .int (nI 0)), (0, .ref mq), (1, .int (nI kd)), (2, .int (nI x)), (3, .int (nI en)), (4, .int (nI st)), (5, .long (lN T)), (7, .int (nI l)), (8, .int (nI r))] dX5_goes_46 trivial (by decide) rfl ?_
                    have loop_48 : ∀ (fuel_48 : Nat) (la : Nat) (A2 : wA), 3 < la + fuel_48 → (la ≤ 3) → (A2 = lAt kd x en T m w l r la (cou kd x en T m w l (((fun _ => 0), os, sn st, el) : wA))) → Z D k (0, 0) [eX5 mq mT (nI ty) mD mS (nI ev) mP (nI kn) mI (nI kp) mE (nI sg) at_ mH mX mR mO (lN A2.2.2.2), eL t mH 363 (lf (emb m w)), eL t mX 363 (lf (embN m A2.1)), eL t mR 11 (lf A2.2.1), eL t mO 22 (lf (vup sn st A2.2.2.1))] 48 [(0, .ref mq), (1, .int (nI kd)), (2, .int (nI x)), (3, .int (nI en)), (4, .int (nI st)), (5, .long (lN T)), (7, .int (nI l)), (8, .int (nI r)), (9, .int (nI la))] [] := by
                      intro fuel_48
                      induction fuel_48 with
                      | zero =>
                        intro la A2 hfuel_48 hla hA2
                        exfalso; omega
                      | succ fuel_48 ih_48 =>
                        intro la A2 hfuel_48 hla hA2
                        refine z_iload X (pc := 48) 8 dX5_goes_48 rfl ?_
                        refine z_iconst X (pc := 50) (nI 3) dX5_goes_50 (by decide) ?_
                        refine z_icmp_geN X (pc := 51) 269 (by omega) (by omega) dX5_goes_51 (by decide) (fun c_51 => ?_) (fun c_51 => ?_)
                        · skip
                          refine z_iinc X (pc := 269) (i := 8) 7 (nI (r + 1)) [(8, .int (nI (r + 1))), (0, .ref mq), (1, .int (nI kd)), (2, .int (nI x)), (3, .int (nI en)), (4, .int (nI st)), (5, .long (lN T)), (7, .int (nI l)), (9, .int (nI la))] dX5_goes_269 rfl (nI_incc r 1) (by decide) rfl ?_
                          refine z_goto X (pc := 272) 38 dX5_goes_272 (by decide) ?_
                          refine z_lv [1, 2, 3, 4, 5, 6, 7, 0] (lv2 := [(0, .ref mq), (1, .int (nI kd)), (2, .int (nI x)), (3, .int (nI en)), (4, .int (nI st)), (5, .long (lN T)), (7, .int (nI l)), (8, .int (nI (r + 1)))]) rfl ?_
                          exact ih_38 (r + 1) A2 (by omega) (by omega) (by rw [hA2, show la = 3 by omega, lAt_3])
                        · skip
                          obtain ⟨wv, hwv⟩ : ∃ v : Nat, v = if l + r = m then w (l * 3 + la) else 0 := ⟨_, rfl⟩
                          have hwb : wv < 2 ^ 62 := by rw [hwv]; split; exact hbd _ (by omega); decide
                          refine z_aload_n X (pc := 54) 0 dX5_goes_54 rfl ?_
                          refine z_get X (pc := 55) 0 12 (.ref mH) tu_5 tw_571 dX5_goes_55 rfl rfl (by decide) rfl rfl ?_
                          refine z_iload X (pc := 58) 6 dX5_goes_58 rfl ?_
                          refine z_iload X (pc := 60) 7 dX5_goes_60 rfl ?_
                          refine z_iload X (pc := 62) 8 dX5_goes_62 rfl ?_
                          refine zc_S (as := [.int (nI l), .int (nI r), .int (nI la)]) X (pc := 64) (c_X5_spot lq D t l r la ) tw_712 tw_714 tw_7 tw_713 [] rfl rfl dX5_goes_64 rfl zdX5_spot ⟨rfl, rfl, Nat.le_of_ble_eq_true rfl, Nat.le_of_ble_eq_true rfl⟩ (Nat.le_of_ble_eq_true rfl) (Nat.zero_le _) (Nat.zero_le _) (fun v_1 w_2 hp_3 => ?_)
                          obtain ⟨rfl, rfl⟩ := hp_3
                          refine ⟨rfl, ?_⟩
                          refine z_eq (ws2 := [eX5 mq mT (nI ty) mD mS (nI ev) mP (nI kn) mI (nI kp) mE (nI sg) at_ mH mX mR mO (lN A2.2.2.2), eL t mH 363 (lf (emb m w)), eL t mX 363 (lf (embN m A2.1)), eL t mR 11 (lf A2.2.1), eL t mO 22 (lf (vup sn st A2.2.2.1))]) (st2 := [.int (nI (33 * l + 3 * r + la)), .ref mH]) rfl rfl rfl ?_
                          refine z_lald X (pc := 67) 1 (33 * l + 3 * r + la) (lN (emb m w (33 * l + 3 * r + la))) dX5_goes_67 rfl rfl (Nat.le_of_ble_eq_true rfl) (by omega) rfl ?_
                          refine z_topl (lN wv) (by rw [hwv, emb_at (by omega) (by omega)]) ?_
                          refine z_lstore X (pc := 68) (i := 10) [(10, .long (lN wv)), (0, .ref mq), (1, .int (nI kd)), (2, .int (nI x)), (3, .int (nI en)), (4, .int (nI st)), (5, .long (lN T)), (7, .int (nI l)), (8, .int (nI r)), (9, .int (nI la))] dX5_goes_68 trivial (by decide) rfl ?_
                          refine z_iload X (pc := 70) 7 dX5_goes_70 rfl ?_
                          refine z_iload X (pc := 72) 8 dX5_goes_72 rfl ?_
                          refine z_iload X (pc := 74) 9 dX5_goes_74 rfl ?_
                          refine z_iload_n X (pc := 76) 2 dX5_goes_76 rfl ?_
                          refine z_iload_n X (pc := 77) 3 dX5_goes_77 rfl ?_
                          refine zc_S (as := [.int (nI l), .int (nI r), .int (nI la), .int (nI kd), .int (nI x)]) X (pc := 78) (c_X5_toLeft lq D t l r la kd x (by omega) (by omega) (by omega) (by omega) (by omega)) tw_661 tw_663 tw_7 tw_662 [] rfl rfl dX5_goes_78 rfl zdX5_toLeft ⟨rfl, rfl, Nat.le_of_ble_eq_true rfl, Nat.le_of_ble_eq_true rfl⟩ (Nat.le_of_ble_eq_true rfl) (Nat.zero_le _) (Nat.zero_le _) (fun v_4 w_5 hp_6 => ?_)
                          obtain ⟨rfl, rfl⟩ := hp_6
                          refine ⟨rfl, ?_⟩
                          refine z_eq (ws2 := [eX5 mq mT (nI ty) mD mS (nI ev) mP (nI kn) mI (nI kp) mE (nI sg) at_ mH mX mR mO (lN A2.2.2.2), eL t mH 363 (lf (emb m w)), eL t mX 363 (lf (embN m A2.1)), eL t mR 11 (lf A2.2.1), eL t mO 22 (lf (vup sn st A2.2.2.1))]) (st2 := [.int (nI (htl kd x l r la))]) rfl rfl rfl ?_
                          refine z_istore X (pc := 81) (i := 12) [(12, .int (nI (htl kd x l r la))), (10, .long (lN wv)), (0, .ref mq), (1, .int (nI kd)), (2, .int (nI x)), (3, .int (nI en)), (4, .int (nI st)), (5, .long (lN T)), (7, .int (nI l)), (8, .int (nI r)), (9, .int (nI la))] dX5_goes_81 trivial (by decide) rfl ?_
                          refine z_iconst X (pc := 83) (nI 0) dX5_goes_83 (by decide) ?_
                          refine z_istore X (pc := 84) (i := 13) [(13, .int (nI 0)), (12, .int (nI (htl kd x l r la))), (10, .long (lN wv)), (0, .ref mq), (1, .int (nI kd)), (2, .int (nI x)), (3, .int (nI en)), (4, .int (nI st)), (5, .long (lN T)), (7, .int (nI l)), (8, .int (nI r)), (9, .int (nI la))] dX5_goes_84 trivial (by decide) rfl ?_
                          have loop_86 : ∀ (fuel_86 : Nat) (sd : Nat) (B : wA), 2 < sd + fuel_86 → (sd ≤ 2) → (B = sds en T l r (wv * htl kd x l r la) (wv * (4 - htl kd x l r la)) A2 sd) → (sd ≠ 0 → 0 < wv) → Z D k (0, 0) [eX5 mq mT (nI ty) mD mS (nI ev) mP (nI kn) mI (nI kp) mE (nI sg) at_ mH mX mR mO (lN B.2.2.2), eL t mH 363 (lf (emb m w)), eL t mX 363 (lf (embN m B.1)), eL t mR 11 (lf B.2.1), eL t mO 22 (lf (vup sn st B.2.2.1))] 86 [(0, .ref mq), (1, .int (nI kd)), (2, .int (nI x)), (3, .int (nI en)), (4, .int (nI st)), (5, .long (lN T)), (7, .int (nI l)), (8, .int (nI r)), (9, .int (nI la)), (10, .long (lN wv)), (12, .int (nI (htl kd x l r la))), (13, .int (nI sd))] [] := by
                            intro fuel_86
                            induction fuel_86 with
                            | zero =>
                              intro sd B hfuel_86 hsd hB hsw
                              exfalso; omega
                            | succ fuel_86 ih_86 =>
                              intro sd B hfuel_86 hsd hB hsw
                              have hq4 := @htl_le kd x l r la hx
                              have hlr : 0 < wv → l + r = m := fun z => by rcases Nat.decEq (l + r) m with q | q; rw [if_neg q] at hwv; omega; exact q
                              refine z_iload X (pc := 86) 11 dX5_goes_86 rfl ?_
                              refine z_iconst X (pc := 88) (nI 2) dX5_goes_88 (by decide) ?_
                              refine z_icmp_geN X (pc := 89) 263 (by omega) (by omega) dX5_goes_89 (by decide) (fun c_89 => ?_) (fun c_89 => ?_)
                              · skip
                                refine z_iinc X (pc := 263) (i := 9) 8 (nI (la + 1)) [(9, .int (nI (la + 1))), (0, .ref mq), (1, .int (nI kd)), (2, .int (nI x)), (3, .int (nI en)), (4, .int (nI st)), (5, .long (lN T)), (7, .int (nI l)), (8, .int (nI r)), (10, .long (lN wv)), (12, .int (nI (htl kd x l r la))), (13, .int (nI sd))] dX5_goes_263 rfl (nI_incc la 1) (by decide) rfl ?_
                                refine z_goto X (pc := 266) 48 dX5_goes_266 (by decide) ?_
                                refine z_lv [1, 2, 3, 4, 5, 6, 7, 8, 0] (lv2 := [(0, .ref mq), (1, .int (nI kd)), (2, .int (nI x)), (3, .int (nI en)), (4, .int (nI st)), (5, .long (lN T)), (7, .int (nI l)), (8, .int (nI r)), (9, .int (nI (la + 1)))]) rfl ?_
                                exact ih_48 (la + 1) B (by omega) (by omega) (by rw [hB, show sd = 2 by omega, sds, if_neg (by decide), if_neg (by decide), hA2, lAt_s hwv (by omega)])
                              · skip
                                refine z_lload X (pc := 92) 9 dX5_goes_92 rfl ?_
                                refine z_lconst X (pc := 94) (lN 0) dX5_goes_94 (by decide) ?_
                                refine z_lcmp_leN X (pc := 95) 263 (by omega) (by decide) dX5_goes_95 dX5_goes_96 (by decide) (fun c_95 => ?_) (fun c_95 => ?_)
                                · skip
                                  refine z_iinc X (pc := 263) (i := 9) 8 (nI (la + 1)) [(9, .int (nI (la + 1))), (0, .ref mq), (1, .int (nI kd)), (2, .int (nI x)), (3, .int (nI en)), (4, .int (nI st)), (5, .long (lN T)), (7, .int (nI l)), (8, .int (nI r)), (10, .long (lN wv)), (12, .int (nI (htl kd x l r la))), (13, .int (nI sd))] dX5_goes_263 rfl (nI_incc la 1) (by decide) rfl ?_
                                  refine z_goto X (pc := 266) 48 dX5_goes_266 (by decide) ?_
                                  refine z_lv [1, 2, 3, 4, 5, 6, 7, 8, 0] (lv2 := [(0, .ref mq), (1, .int (nI kd)), (2, .int (nI x)), (3, .int (nI en)), (4, .int (nI st)), (5, .long (lN T)), (7, .int (nI l)), (8, .int (nI r)), (9, .int (nI (la + 1)))]) rfl ?_
                                  exact ih_48 (la + 1) B (by omega) (by omega) (by rw [hB, show sd = 0 by omega, sds, if_pos rfl, hA2]; exact lAt_s0 (by rw [← hwv]; omega))
                                · skip
                                  rcases (show sd = 0 ∨ sd = 1 by omega) with rfl | rfl
                                  · skip
                                    refine z_lload X (pc := 99) 9 dX5_goes_99 rfl ?_
                                    refine z_iload X (pc := 101) 11 dX5_goes_101 rfl ?_
                                    refine z_if_neN X (pc := 103) 111 (by omega) dX5_goes_103 (by decide) (fun c_103 => absurd c_103 (by decide)) (fun c_103 => ?_)
                                    refine z_iload X (pc := 106) 10 dX5_goes_106 rfl ?_
                                    refine z_goto X (pc := 108) 115 dX5_goes_108 (by decide) ?_
                                    refine z_i2l X (pc := 115) (v := (lN (htl kd x l r la))) dX5_goes_115 (nI_l (by omega)) ?_
                                    refine z_lmul X (pc := 116) (v := (lN (wv * (htl kd x l r la)))) dX5_goes_116 (lN_mul _ _) ?_
                                    refine z_lstore X (pc := 117) (i := 14) [(14, .long (lN (wv * (htl kd x l r la)))), (0, .ref mq), (1, .int (nI kd)), (2, .int (nI x)), (3, .int (nI en)), (4, .int (nI st)), (5, .long (lN T)), (7, .int (nI l)), (8, .int (nI r)), (9, .int (nI la)), (10, .long (lN wv)), (12, .int (nI (htl kd x l r la))), (13, .int (nI 0))] dX5_goes_117 trivial (by decide) rfl ?_
                                    refine z_iload X (pc := 119) 12 dX5_goes_119 rfl ?_
                                    refine z_if_neN X (pc := 121) 129 (by omega) dX5_goes_121 (by decide) (fun c_121 => absurd c_121 (by decide)) (fun c_121 => ?_)
                                    refine z_iload X (pc := 124) 7 dX5_goes_124 rfl ?_
                                    refine z_goto X (pc := 126) 131 dX5_goes_126 (by decide) ?_
                                    refine z_istore X (pc := 131) (i := 16) [(16, .int (nI l)), (14, .long (lN (wv * (htl kd x l r la)))), (0, .ref mq), (1, .int (nI kd)), (2, .int (nI x)), (3, .int (nI en)), (4, .int (nI st)), (5, .long (lN T)), (7, .int (nI l)), (8, .int (nI r)), (9, .int (nI la)), (10, .long (lN wv)), (12, .int (nI (htl kd x l r la))), (13, .int (nI 0))] dX5_goes_131 trivial (by decide) rfl ?_
                                    refine z_iload X (pc := 133) 13 dX5_goes_133 rfl ?_
                                    refine z_if_neN X (pc := 135) 143 (by omega) dX5_goes_135 (by decide) (fun c_135 => absurd c_135 (by decide)) (fun c_135 => ?_)
                                    refine z_iload X (pc := 138) 9 dX5_goes_138 rfl ?_
                                    refine z_goto X (pc := 140) 145 dX5_goes_140 (by decide) ?_
                                    refine z_istore X (pc := 145) (i := 17) [(17, .int (nI r)), (16, .int (nI l)), (14, .long (lN (wv * (htl kd x l r la)))), (0, .ref mq), (1, .int (nI kd)), (2, .int (nI x)), (3, .int (nI en)), (4, .int (nI st)), (5, .long (lN T)), (7, .int (nI l)), (8, .int (nI r)), (9, .int (nI la)), (10, .long (lN wv)), (12, .int (nI (htl kd x l r la))), (13, .int (nI 0))] dX5_goes_145 trivial (by decide) rfl ?_
                                    refine z_iload X (pc := 147) 1 dX5_goes_147 rfl ?_
                                    refine z_if_eqN X (pc := 149) 163 (by omega) dX5_goes_149 (by decide) (fun c_149 => ?_) (fun c_149 => ?_)
                                    · skip
                                      refine z_aload_n X (pc := 163) 3 dX5_goes_163 rfl ?_
                                      refine z_get X (pc := 164) 0 14 (.ref mR) tu_5 tw_573 dX5_goes_164 rfl rfl (by decide) rfl rfl ?_
                                      refine z_iload X (pc := 167) 0 dX5_goes_167 rfl ?_
                                      refine z_dup2_11 X (pc := 169) dX5_goes_169 rfl rfl ?_
                                      refine z_lald X (pc := 170) 3 r (lN (B.2.1 r)) dX5_goes_170 rfl rfl (Nat.le_of_ble_eq_true rfl) (by omega) rfl ?_
                                      refine z_lload X (pc := 171) 2 dX5_goes_171 rfl ?_
                                      refine z_lload X (pc := 173) 8 dX5_goes_173 rfl ?_
                                      refine z_lmul X (pc := 175) (v := (lN ((wv * (htl kd x l r la)) * T))) dX5_goes_175 (lN_mul _ _) ?_
                                      refine z_ladd X (pc := 176) (v := (lN (B.2.1 r + ((wv * (htl kd x l r la)) * T)))) dX5_goes_176 (lN_add (B.2.1 r) ((wv * (htl kd x l r la)) * T)) ?_
                                      refine z_last X (pc := 177) 3 r (lf (vup B.2.1 r (B.2.1 r + ((wv * (htl kd x l r la)) * T)))) [eX5 mq mT (nI ty) mD mS (nI ev) mP (nI kn) mI (nI kp) mE (nI sg) at_ mH mX mR mO (lN B.2.2.2), eL t mH 363 (lf (emb m w)), eL t mX 363 (lf (embN m B.1)), eL t mR 11 (lf (vup B.2.1 r (B.2.1 r + ((wv * (htl kd x l r la)) * T)))), eL t mO 22 (lf (vup sn st B.2.2.1))] dX5_goes_177 rfl rfl (Nat.le_of_ble_eq_true rfl) (by omega) (updL_lf _ _ _) rfl ?_
                                      refine z_aload_n X (pc := 178) 3 dX5_goes_178 rfl ?_
                                      refine z_get X (pc := 179) 0 15 (.ref mO) tu_5 tw_574 dX5_goes_179 rfl rfl (by decide) rfl rfl ?_
                                      refine z_iload X (pc := 182) 7 dX5_goes_182 rfl ?_
                                      refine z_dup2_11 X (pc := 184) dX5_goes_184 rfl rfl ?_
                                      refine z_lald X (pc := 185) 4 st (lN B.2.2.1) dX5_goes_185 rfl rfl (Nat.le_of_ble_eq_true rfl) (by omega) (by show lN (vup sn st B.2.2.1 st) = _; rw [vup_s]) ?_
                                      refine z_lload X (pc := 186) 2 dX5_goes_186 rfl ?_
                                      refine z_lload X (pc := 188) 8 dX5_goes_188 rfl ?_
                                      refine z_lmul X (pc := 190) (v := (lN ((wv * (htl kd x l r la)) * T))) dX5_goes_190 (lN_mul _ _) ?_
                                      refine z_ladd X (pc := 191) (v := (lN (B.2.2.1 + ((wv * (htl kd x l r la)) * T)))) dX5_goes_191 (lN_add B.2.2.1 ((wv * (htl kd x l r la)) * T)) ?_
                                      refine z_last X (pc := 192) 4 st (lf (vup sn st (B.2.2.1 + ((wv * (htl kd x l r la)) * T)))) [eX5 mq mT (nI ty) mD mS (nI ev) mP (nI kn) mI (nI kp) mE (nI sg) at_ mH mX mR mO (lN B.2.2.2), eL t mH 363 (lf (emb m w)), eL t mX 363 (lf (embN m B.1)), eL t mR 11 (lf (vup B.2.1 r (B.2.1 r + ((wv * (htl kd x l r la)) * T)))), eL t mO 22 (lf (vup sn st (B.2.2.1 + ((wv * (htl kd x l r la)) * T))))] dX5_goes_192 rfl rfl (Nat.le_of_ble_eq_true rfl) (by omega) (by rw [updL_lf, vup_vup]) rfl ?_
                                      refine z_aload_n X (pc := 193) 3 dX5_goes_193 rfl ?_
                                      refine z_dup X (pc := 194) dX5_goes_194 rfl ?_
                                      refine z_get X (pc := 195) 0 16 (.long (lN B.2.2.2)) tu_5 tw_575 dX5_goes_195 rfl rfl (by decide) rfl rfl ?_
                                      refine z_iload X (pc := 198) 14 dX5_goes_198 rfl ?_
                                      refine z_if_neN X (pc := 200) 211 (by omega) dX5_goes_200 (by decide) (fun c_200 => absurd c_200 (by decide)) (fun c_200 => ?_)
                                      refine z_lload X (pc := 203) 2 dX5_goes_203 rfl ?_
                                      refine z_lload X (pc := 205) 8 dX5_goes_205 rfl ?_
                                      refine z_lmul X (pc := 207) (v := (lN ((wv * (htl kd x l r la)) * T))) dX5_goes_207 (lN_mul _ _) ?_
                                      refine z_goto X (pc := 208) 212 dX5_goes_208 (by decide) ?_
                                      refine z_ladd X (pc := 212) (v := (lN (B.2.2.2 + ((wv * (htl kd x l r la)) * T)))) dX5_goes_212 (lN_add B.2.2.2 ((wv * (htl kd x l r la)) * T)) ?_
                                      refine z_put X (pc := 213) 0 16 [eX5 mq mT (nI ty) mD mS (nI ev) mP (nI kn) mI (nI kp) mE (nI sg) at_ mH mX mR mO (lN (B.2.2.2 + ((wv * (htl kd x l r la)) * T))), eL t mH 363 (lf (emb m w)), eL t mX 363 (lf (embN m B.1)), eL t mR 11 (lf (vup B.2.1 r (B.2.1 r + ((wv * (htl kd x l r la)) * T)))), eL t mO 22 (lf (vup sn st (B.2.2.1 + ((wv * (htl kd x l r la)) * T))))] tu_5 tyX5_ok nmX5 tw_575 dX5_goes_213 rfl rfl (by decide) rfl rfl rfl rfl (Nat.le_of_ble_eq_true rfl) rfl ?_
                                      refine z_goto X (pc := 216) 257 dX5_goes_216 (by decide) ?_
                                      obtain ⟨B2, hB2⟩ : ∃ BB : wA, BB = fol en T 0 l r (wv * htl kd x l r la) B := ⟨_, rfl⟩
                                      have hfo := hB2.trans (fol_end (by omega) (by omega))
                                      refine z_eq (ws2 := [eX5 mq mT (nI ty) mD mS (nI ev) mP (nI kn) mI (nI kp) mE (nI sg) at_ mH mX mR mO (lN B2.2.2.2), eL t mH 363 (lf (emb m w)), eL t mX 363 (lf (embN m B2.1)), eL t mR 11 (lf B2.2.1), eL t mO 22 (lf (vup sn st B2.2.2.1))]) (by rw [hfo]; rfl) rfl rfl ?_
                                      refine z_iinc X (pc := 257) (i := 13) 14 (nI 1) [(13, .int (nI 1)), (17, .int (nI r)), (16, .int (nI l)), (14, .long (lN (wv * (htl kd x l r la)))), (0, .ref mq), (1, .int (nI kd)), (2, .int (nI x)), (3, .int (nI en)), (4, .int (nI st)), (5, .long (lN T)), (7, .int (nI l)), (8, .int (nI r)), (9, .int (nI la)), (10, .long (lN wv)), (12, .int (nI (htl kd x l r la)))] dX5_goes_257 rfl (nI_incc 0 1) (by decide) rfl ?_
                                      refine z_goto X (pc := 260) 86 dX5_goes_260 (by decide) ?_
                                      refine z_lv [4, 5, 6, 7, 8, 9, 10, 11, 12, 13, 14, 0] (lv2 := [(0, .ref mq), (1, .int (nI kd)), (2, .int (nI x)), (3, .int (nI en)), (4, .int (nI st)), (5, .long (lN T)), (7, .int (nI l)), (8, .int (nI r)), (9, .int (nI la)), (10, .long (lN wv)), (12, .int (nI (htl kd x l r la))), (13, .int (nI 1))]) rfl ?_
                                      exact ih_86 1 B2 (by omega) (by omega) (by rw [hB2, hB]; rfl) (fun _ => by omega)
                                    · skip
                                      refine z_iload_n X (pc := 152) 6 dX5_goes_152 rfl ?_
                                      refine z_iconst X (pc := 153) (nI 1) dX5_goes_153 (by decide) ?_
                                      refine z_icmp_neN X (pc := 154) 219 (by omega) (by omega) dX5_goes_154 (by decide) (fun c_154 => ?_) (fun c_154 => ?_)
                                      · skip
                                        refine z_aload_n X (pc := 219) 3 dX5_goes_219 rfl ?_
                                        refine z_get X (pc := 220) 0 13 (.ref mX) tu_5 tw_572 dX5_goes_220 rfl rfl (by decide) rfl rfl ?_
                                        refine z_iload X (pc := 223) 14 dX5_goes_223 rfl ?_
                                        refine z_if_neN X (pc := 225) 241 (by omega) dX5_goes_225 (by decide) (fun c_225 => absurd c_225 (by decide)) (fun c_225 => ?_)
                                        refine z_iload X (pc := 228) 9 dX5_goes_228 rfl ?_
                                        refine z_iconst X (pc := 230) (nI 1) dX5_goes_230 (by decide) ?_
                                        refine z_isub X (pc := 231) (v := (nI (l - 1))) dX5_goes_231 (pk_sub (by omega)) ?_
                                        refine z_iload X (pc := 232) 10 dX5_goes_232 rfl ?_
                                        refine z_iconst X (pc := 234) (nI 0) dX5_goes_234 (by decide) ?_
                                        refine zc_S (as := [.int (nI (l - 1)), .int (nI r), .int (nI 0)]) X (pc := 235) (c_X5_spot lq D t (l - 1) r 0 ) tw_712 tw_714 tw_7 tw_713 [] rfl rfl dX5_goes_235 rfl zdX5_spot ⟨rfl, rfl, Nat.le_of_ble_eq_true rfl, Nat.le_of_ble_eq_true rfl⟩ (Nat.le_of_ble_eq_true rfl) (Nat.zero_le _) (Nat.zero_le _) (fun v_7 w_8 hp_9 => ?_)
                                        obtain ⟨rfl, rfl⟩ := hp_9
                                        refine ⟨rfl, ?_⟩
                                        refine z_eq (ws2 := [eX5 mq mT (nI ty) mD mS (nI ev) mP (nI kn) mI (nI kp) mE (nI sg) at_ mH mX mR mO (lN B.2.2.2), eL t mH 363 (lf (emb m w)), eL t mX 363 (lf (embN m B.1)), eL t mR 11 (lf B.2.1), eL t mO 22 (lf (vup sn st B.2.2.1))]) (st2 := [.int (nI (33 * (l - 1) + 3 * r + 0)), .ref mX]) rfl rfl rfl ?_
                                        refine z_goto X (pc := 238) 251 dX5_goes_238 (by decide) ?_
                                        refine z_dup2_11 X (pc := 251) dX5_goes_251 rfl rfl ?_
                                        refine z_lald X (pc := 252) 2 (33 * (l - 1) + 3 * r + 0) (lN (B.1 ((l - 1) * 3 + 0))) dX5_goes_252 rfl rfl (Nat.le_of_ble_eq_true rfl) (by omega) (by show lN (embN m B.1 _) = _; rw [embN_at (by omega) (by decide) (by have := hlr (by omega); omega)]) ?_
                                        refine z_lload X (pc := 253) 2 dX5_goes_253 rfl ?_
                                        refine z_ladd X (pc := 255) (v := (lN ((B.1 ((l - 1) * 3 + 0)) + (wv * (htl kd x l r la))))) dX5_goes_255 (lN_add (B.1 ((l - 1) * 3 + 0)) (wv * (htl kd x l r la))) ?_
                                        refine z_last X (pc := 256) 2 (33 * (l - 1) + 3 * r + 0) (lf (embN m (vup B.1 ((l - 1) * 3 + 0) ((B.1 ((l - 1) * 3 + 0)) + (wv * (htl kd x l r la)))))) [eX5 mq mT (nI ty) mD mS (nI ev) mP (nI kn) mI (nI kp) mE (nI sg) at_ mH mX mR mO (lN B.2.2.2), eL t mH 363 (lf (emb m w)), eL t mX 363 (lf (embN m (vup B.1 ((l - 1) * 3 + 0) ((B.1 ((l - 1) * 3 + 0)) + (wv * (htl kd x l r la)))))), eL t mR 11 (lf B.2.1), eL t mO 22 (lf (vup sn st B.2.2.1))] dX5_goes_256 rfl rfl (Nat.le_of_ble_eq_true rfl) (by omega) (by rw [updL_lf, embN_up (by omega) (by decide) (by have := hlr (by omega); omega)]) rfl ?_
                                        obtain ⟨B2, hB2⟩ : ∃ BB : wA, BB = fol en T 0 l r (wv * htl kd x l r la) B := ⟨_, rfl⟩
                                        have hfo := hB2.trans (fol_go (by omega))
                                        refine z_eq (ws2 := [eX5 mq mT (nI ty) mD mS (nI ev) mP (nI kn) mI (nI kp) mE (nI sg) at_ mH mX mR mO (lN B2.2.2.2), eL t mH 363 (lf (emb m w)), eL t mX 363 (lf (embN m B2.1)), eL t mR 11 (lf B2.2.1), eL t mO 22 (lf (vup sn st B2.2.2.1))]) (by rw [hfo]; rfl) rfl rfl ?_
                                        refine z_iinc X (pc := 257) (i := 13) 14 (nI 1) [(13, .int (nI 1)), (17, .int (nI r)), (16, .int (nI l)), (14, .long (lN (wv * (htl kd x l r la)))), (0, .ref mq), (1, .int (nI kd)), (2, .int (nI x)), (3, .int (nI en)), (4, .int (nI st)), (5, .long (lN T)), (7, .int (nI l)), (8, .int (nI r)), (9, .int (nI la)), (10, .long (lN wv)), (12, .int (nI (htl kd x l r la)))] dX5_goes_257 rfl (nI_incc 0 1) (by decide) rfl ?_
                                        refine z_goto X (pc := 260) 86 dX5_goes_260 (by decide) ?_
                                        refine z_lv [4, 5, 6, 7, 8, 9, 10, 11, 12, 13, 14, 0] (lv2 := [(0, .ref mq), (1, .int (nI kd)), (2, .int (nI x)), (3, .int (nI en)), (4, .int (nI st)), (5, .long (lN T)), (7, .int (nI l)), (8, .int (nI r)), (9, .int (nI la)), (10, .long (lN wv)), (12, .int (nI (htl kd x l r la))), (13, .int (nI 1))]) rfl ?_
                                        exact ih_86 1 B2 (by omega) (by omega) (by rw [hB2, hB]; rfl) (fun _ => by omega)
                                      · skip
                                        refine z_iload X (pc := 157) 1 dX5_goes_157 rfl ?_
                                        refine z_iconst X (pc := 159) (nI 1) dX5_goes_159 (by decide) ?_
                                        refine z_icmp_neN X (pc := 160) 219 (by omega) (by omega) dX5_goes_160 (by decide) (fun c_160 => ?_) (fun c_160 => ?_)
                                        · skip
                                          refine z_aload_n X (pc := 219) 3 dX5_goes_219 rfl ?_
                                          refine z_get X (pc := 220) 0 13 (.ref mX) tu_5 tw_572 dX5_goes_220 rfl rfl (by decide) rfl rfl ?_
                                          refine z_iload X (pc := 223) 14 dX5_goes_223 rfl ?_
                                          refine z_if_neN X (pc := 225) 241 (by omega) dX5_goes_225 (by decide) (fun c_225 => absurd c_225 (by decide)) (fun c_225 => ?_)
                                          refine z_iload X (pc := 228) 9 dX5_goes_228 rfl ?_
                                          refine z_iconst X (pc := 230) (nI 1) dX5_goes_230 (by decide) ?_
                                          refine z_isub X (pc := 231) (v := (nI (l - 1))) dX5_goes_231 (pk_sub (by omega)) ?_
                                          refine z_iload X (pc := 232) 10 dX5_goes_232 rfl ?_
                                          refine z_iconst X (pc := 234) (nI 0) dX5_goes_234 (by decide) ?_
                                          refine zc_S (as := [.int (nI (l - 1)), .int (nI r), .int (nI 0)]) X (pc := 235) (c_X5_spot lq D t (l - 1) r 0 ) tw_712 tw_714 tw_7 tw_713 [] rfl rfl dX5_goes_235 rfl zdX5_spot ⟨rfl, rfl, Nat.le_of_ble_eq_true rfl, Nat.le_of_ble_eq_true rfl⟩ (Nat.le_of_ble_eq_true rfl) (Nat.zero_le _) (Nat.zero_le _) (fun v_10 w_11 hp_12 => ?_)
                                          obtain ⟨rfl, rfl⟩ := hp_12
                                          refine ⟨rfl, ?_⟩
                                          refine z_eq (ws2 := [eX5 mq mT (nI ty) mD mS (nI ev) mP (nI kn) mI (nI kp) mE (nI sg) at_ mH mX mR mO (lN B.2.2.2), eL t mH 363 (lf (emb m w)), eL t mX 363 (lf (embN m B.1)), eL t mR 11 (lf B.2.1), eL t mO 22 (lf (vup sn st B.2.2.1))]) (st2 := [.int (nI (33 * (l - 1) + 3 * r + 0)), .ref mX]) rfl rfl rfl ?_
                                          refine z_goto X (pc := 238) 251 dX5_goes_238 (by decide) ?_
                                          refine z_dup2_11 X (pc := 251) dX5_goes_251 rfl rfl ?_
                                          refine z_lald X (pc := 252) 2 (33 * (l - 1) + 3 * r + 0) (lN (B.1 ((l - 1) * 3 + 0))) dX5_goes_252 rfl rfl (Nat.le_of_ble_eq_true rfl) (by omega) (by show lN (embN m B.1 _) = _; rw [embN_at (by omega) (by decide) (by have := hlr (by omega); omega)]) ?_
                                          refine z_lload X (pc := 253) 2 dX5_goes_253 rfl ?_
                                          refine z_ladd X (pc := 255) (v := (lN ((B.1 ((l - 1) * 3 + 0)) + (wv * (htl kd x l r la))))) dX5_goes_255 (lN_add (B.1 ((l - 1) * 3 + 0)) (wv * (htl kd x l r la))) ?_
                                          refine z_last X (pc := 256) 2 (33 * (l - 1) + 3 * r + 0) (lf (embN m (vup B.1 ((l - 1) * 3 + 0) ((B.1 ((l - 1) * 3 + 0)) + (wv * (htl kd x l r la)))))) [eX5 mq mT (nI ty) mD mS (nI ev) mP (nI kn) mI (nI kp) mE (nI sg) at_ mH mX mR mO (lN B.2.2.2), eL t mH 363 (lf (emb m w)), eL t mX 363 (lf (embN m (vup B.1 ((l - 1) * 3 + 0) ((B.1 ((l - 1) * 3 + 0)) + (wv * (htl kd x l r la)))))), eL t mR 11 (lf B.2.1), eL t mO 22 (lf (vup sn st B.2.2.1))] dX5_goes_256 rfl rfl (Nat.le_of_ble_eq_true rfl) (by omega) (by rw [updL_lf, embN_up (by omega) (by decide) (by have := hlr (by omega); omega)]) rfl ?_
                                          obtain ⟨B2, hB2⟩ : ∃ BB : wA, BB = fol en T 0 l r (wv * htl kd x l r la) B := ⟨_, rfl⟩
                                          have hfo := hB2.trans (fol_go (by omega))
                                          refine z_eq (ws2 := [eX5 mq mT (nI ty) mD mS (nI ev) mP (nI kn) mI (nI kp) mE (nI sg) at_ mH mX mR mO (lN B2.2.2.2), eL t mH 363 (lf (emb m w)), eL t mX 363 (lf (embN m B2.1)), eL t mR 11 (lf B2.2.1), eL t mO 22 (lf (vup sn st B2.2.2.1))]) (by rw [hfo]; rfl) rfl rfl ?_
                                          refine z_iinc X (pc := 257) (i := 13) 14 (nI 1) [(13, .int (nI 1)), (17, .int (nI r)), (16, .int (nI l)), (14, .long (lN (wv * (htl kd x l r la)))), (0, .ref mq), (1, .int (nI kd)), (2, .int (nI x)), (3, .int (nI en)), (4, .int (nI st)), (5, .long (lN T)), (7, .int (nI l)), (8, .int (nI r)), (9, .int (nI la)), (10, .long (lN wv)), (12, .int (nI (htl kd x l r la)))] dX5_goes_257 rfl (nI_incc 0 1) (by decide) rfl ?_
                                          refine z_goto X (pc := 260) 86 dX5_goes_260 (by decide) ?_
                                          refine z_lv [4, 5, 6, 7, 8, 9, 10, 11, 12, 13, 14, 0] (lv2 := [(0, .ref mq), (1, .int (nI kd)), (2, .int (nI x)), (3, .int (nI en)), (4, .int (nI st)), (5, .long (lN T)), (7, .int (nI l)), (8, .int (nI r)), (9, .int (nI la)), (10, .long (lN wv)), (12, .int (nI (htl kd x l r la))), (13, .int (nI 1))]) rfl ?_
                                          exact ih_86 1 B2 (by omega) (by omega) (by rw [hB2, hB]; rfl) (fun _ => by omega)
                                        · skip
                                          refine z_aload_n X (pc := 163) 3 dX5_goes_163 rfl ?_
                                          refine z_get X (pc := 164) 0 14 (.ref mR) tu_5 tw_573 dX5_goes_164 rfl rfl (by decide) rfl rfl ?_
                                          refine z_iload X (pc := 167) 0 dX5_goes_167 rfl ?_
                                          refine z_dup2_11 X (pc := 169) dX5_goes_169 rfl rfl ?_
                                          refine z_lald X (pc := 170) 3 r (lN (B.2.1 r)) dX5_goes_170 rfl rfl (Nat.le_of_ble_eq_true rfl) (by omega) rfl ?_
                                          refine z_lload X (pc := 171) 2 dX5_goes_171 rfl ?_
                                          refine z_lload X (pc := 173) 8 dX5_goes_173 rfl ?_
                                          refine z_lmul X (pc := 175) (v := (lN ((wv * (htl kd x l r la)) * T))) dX5_goes_175 (lN_mul _ _) ?_
                                          refine z_ladd X (pc := 176) (v := (lN (B.2.1 r + ((wv * (htl kd x l r la)) * T)))) dX5_goes_176 (lN_add (B.2.1 r) ((wv * (htl kd x l r la)) * T)) ?_
                                          refine z_last X (pc := 177) 3 r (lf (vup B.2.1 r (B.2.1 r + ((wv * (htl kd x l r la)) * T)))) [eX5 mq mT (nI ty) mD mS (nI ev) mP (nI kn) mI (nI kp) mE (nI sg) at_ mH mX mR mO (lN B.2.2.2), eL t mH 363 (lf (emb m w)), eL t mX 363 (lf (embN m B.1)), eL t mR 11 (lf (vup B.2.1 r (B.2.1 r + ((wv * (htl kd x l r la)) * T)))), eL t mO 22 (lf (vup sn st B.2.2.1))] dX5_goes_177 rfl rfl (Nat.le_of_ble_eq_true rfl) (by omega) (updL_lf _ _ _) rfl ?_
                                          refine z_aload_n X (pc := 178) 3 dX5_goes_178 rfl ?_
                                          refine z_get X (pc := 179) 0 15 (.ref mO) tu_5 tw_574 dX5_goes_179 rfl rfl (by decide) rfl rfl ?_
                                          refine z_iload X (pc := 182) 7 dX5_goes_182 rfl ?_
                                          refine z_dup2_11 X (pc := 184) dX5_goes_184 rfl rfl ?_
                                          refine z_lald X (pc := 185) 4 st (lN B.2.2.1) dX5_goes_185 rfl rfl (Nat.le_of_ble_eq_true rfl) (by omega) (by show lN (vup sn st B.2.2.1 st) = _; rw [vup_s]) ?_
                                          refine z_lload X (pc := 186) 2 dX5_goes_186 rfl ?_
                                          refine z_lload X (pc := 188) 8 dX5_goes_188 rfl ?_
                                          refine z_lmul X (pc := 190) (v := (lN ((wv * (htl kd x l r la)) * T))) dX5_goes_190 (lN_mul _ _) ?_
                                          refine z_ladd X (pc := 191) (v := (lN (B.2.2.1 + ((wv * (htl kd x l r la)) * T)))) dX5_goes_191 (lN_add B.2.2.1 ((wv * (htl kd x l r la)) * T)) ?_
                                          refine z_last X (pc := 192) 4 st (lf (vup sn st (B.2.2.1 + ((wv * (htl kd x l r la)) * T)))) [eX5 mq mT (nI ty) mD mS (nI ev) mP (nI kn) mI (nI kp) mE (nI sg) at_ mH mX mR mO (lN B.2.2.2), eL t mH 363 (lf (emb m w)), eL t mX 363 (lf (embN m B.1)), eL t mR 11 (lf (vup B.2.1 r (B.2.1 r + ((wv * (htl kd x l r la)) * T)))), eL t mO 22 (lf (vup sn st (B.2.2.1 + ((wv * (htl kd x l r la)) * T))))] dX5_goes_192 rfl rfl (Nat.le_of_ble_eq_true rfl) (by omega) (by rw [updL_lf, vup_vup]) rfl ?_
                                          refine z_aload_n X (pc := 193) 3 dX5_goes_193 rfl ?_
                                          refine z_dup X (pc := 194) dX5_goes_194 rfl ?_
                                          refine z_get X (pc := 195) 0 16 (.long (lN B.2.2.2)) tu_5 tw_575 dX5_goes_195 rfl rfl (by decide) rfl rfl ?_
                                          refine z_iload X (pc := 198) 14 dX5_goes_198 rfl ?_
                                          refine z_if_neN X (pc := 200) 211 (by omega) dX5_goes_200 (by decide) (fun c_200 => absurd c_200 (by decide)) (fun c_200 => ?_)
                                          refine z_lload X (pc := 203) 2 dX5_goes_203 rfl ?_
                                          refine z_lload X (pc := 205) 8 dX5_goes_205 rfl ?_
                                          refine z_lmul X (pc := 207) (v := (lN ((wv * (htl kd x l r la)) * T))) dX5_goes_207 (lN_mul _ _) ?_
                                          refine z_goto X (pc := 208) 212 dX5_goes_208 (by decide) ?_
                                          refine z_ladd X (pc := 212) (v := (lN (B.2.2.2 + ((wv * (htl kd x l r la)) * T)))) dX5_goes_212 (lN_add B.2.2.2 ((wv * (htl kd x l r la)) * T)) ?_
                                          refine z_put X (pc := 213) 0 16 [eX5 mq mT (nI ty) mD mS (nI ev) mP (nI kn) mI (nI kp) mE (nI sg) at_ mH mX mR mO (lN (B.2.2.2 + ((wv * (htl kd x l r la)) * T))), eL t mH 363 (lf (emb m w)), eL t mX 363 (lf (embN m B.1)), eL t mR 11 (lf (vup B.2.1 r (B.2.1 r + ((wv * (htl kd x l r la)) * T)))), eL t mO 22 (lf (vup sn st (B.2.2.1 + ((wv * (htl kd x l r la)) * T))))] tu_5 tyX5_ok nmX5 tw_575 dX5_goes_213 rfl rfl (by decide) rfl rfl rfl rfl (Nat.le_of_ble_eq_true rfl) rfl ?_
                                          refine z_goto X (pc := 216) 257 dX5_goes_216 (by decide) ?_
                                          obtain ⟨B2, hB2⟩ : ∃ BB : wA, BB = fol en T 0 l r (wv * htl kd x l r la) B := ⟨_, rfl⟩
                                          have hfo := hB2.trans (fol_end (by omega) (by omega))
                                          refine z_eq (ws2 := [eX5 mq mT (nI ty) mD mS (nI ev) mP (nI kn) mI (nI kp) mE (nI sg) at_ mH mX mR mO (lN B2.2.2.2), eL t mH 363 (lf (emb m w)), eL t mX 363 (lf (embN m B2.1)), eL t mR 11 (lf B2.2.1), eL t mO 22 (lf (vup sn st B2.2.2.1))]) (by rw [hfo]; rfl) rfl rfl ?_
                                          refine z_iinc X (pc := 257) (i := 13) 14 (nI 1) [(13, .int (nI 1)), (17, .int (nI r)), (16, .int (nI l)), (14, .long (lN (wv * (htl kd x l r la)))), (0, .ref mq), (1, .int (nI kd)), (2, .int (nI x)), (3, .int (nI en)), (4, .int (nI st)), (5, .long (lN T)), (7, .int (nI l)), (8, .int (nI r)), (9, .int (nI la)), (10, .long (lN wv)), (12, .int (nI (htl kd x l r la)))] dX5_goes_257 rfl (nI_incc 0 1) (by decide) rfl ?_
                                          refine z_goto X (pc := 260) 86 dX5_goes_260 (by decide) ?_
                                          refine z_lv [4, 5, 6, 7, 8, 9, 10, 11, 12, 13, 14, 0] (lv2 := [(0, .ref mq), (1, .int (nI kd)), (2, .int (nI x)), (3, .int (nI en)), (4, .int (nI st)), (5, .long (lN T)), (7, .int (nI l)), (8, .int (nI r)), (9, .int (nI la)), (10, .long (lN wv)), (12, .int (nI (htl kd x l r la))), (13, .int (nI 1))]) rfl ?_
                                          exact ih_86 1 B2 (by omega) (by omega) (by rw [hB2, hB]; rfl) (fun _ => by omega)
                                  · skip
                                    refine z_lload X (pc := 99) 9 dX5_goes_99 rfl ?_
                                    refine z_iload X (pc := 101) 11 dX5_goes_101 rfl ?_
                                    refine z_if_neN X (pc := 103) 111 (by omega) dX5_goes_103 (by decide) (fun c_103 => ?_) (fun c_103 => absurd c_103 (by decide))
                                    refine z_iconst X (pc := 111) (nI 4) dX5_goes_111 (by decide) ?_
                                    refine z_iload X (pc := 112) 10 dX5_goes_112 rfl ?_
                                    refine z_isub X (pc := 114) (v := (nI (4 - (htl kd x l r la)))) dX5_goes_114 (pk_sub (by omega)) ?_
                                    refine z_i2l X (pc := 115) (v := (lN (4 - (htl kd x l r la)))) dX5_goes_115 (nI_l (by omega)) ?_
                                    refine z_lmul X (pc := 116) (v := (lN (wv * (4 - (htl kd x l r la))))) dX5_goes_116 (lN_mul _ _) ?_
                                    refine z_lstore X (pc := 117) (i := 14) [(14, .long (lN (wv * (4 - (htl kd x l r la))))), (0, .ref mq), (1, .int (nI kd)), (2, .int (nI x)), (3, .int (nI en)), (4, .int (nI st)), (5, .long (lN T)), (7, .int (nI l)), (8, .int (nI r)), (9, .int (nI la)), (10, .long (lN wv)), (12, .int (nI (htl kd x l r la))), (13, .int (nI 1))] dX5_goes_117 trivial (by decide) rfl ?_
                                    refine z_iload X (pc := 119) 12 dX5_goes_119 rfl ?_
                                    refine z_if_neN X (pc := 121) 129 (by omega) dX5_goes_121 (by decide) (fun c_121 => ?_) (fun c_121 => absurd c_121 (by decide))
                                    refine z_iload X (pc := 129) 8 dX5_goes_129 rfl ?_
                                    refine z_istore X (pc := 131) (i := 16) [(16, .int (nI r)), (14, .long (lN (wv * (4 - (htl kd x l r la))))), (0, .ref mq), (1, .int (nI kd)), (2, .int (nI x)), (3, .int (nI en)), (4, .int (nI st)), (5, .long (lN T)), (7, .int (nI l)), (8, .int (nI r)), (9, .int (nI la)), (10, .long (lN wv)), (12, .int (nI (htl kd x l r la))), (13, .int (nI 1))] dX5_goes_131 trivial (by decide) rfl ?_
                                    refine z_iload X (pc := 133) 13 dX5_goes_133 rfl ?_
                                    refine z_if_neN X (pc := 135) 143 (by omega) dX5_goes_135 (by decide) (fun c_135 => ?_) (fun c_135 => absurd c_135 (by decide))
                                    refine z_iload X (pc := 143) 8 dX5_goes_143 rfl ?_
                                    refine z_istore X (pc := 145) (i := 17) [(17, .int (nI l)), (16, .int (nI r)), (14, .long (lN (wv * (4 - (htl kd x l r la))))), (0, .ref mq), (1, .int (nI kd)), (2, .int (nI x)), (3, .int (nI en)), (4, .int (nI st)), (5, .long (lN T)), (7, .int (nI l)), (8, .int (nI r)), (9, .int (nI la)), (10, .long (lN wv)), (12, .int (nI (htl kd x l r la))), (13, .int (nI 1))] dX5_goes_145 trivial (by decide) rfl ?_
                                    refine z_iload X (pc := 147) 1 dX5_goes_147 rfl ?_
                                    refine z_if_eqN X (pc := 149) 163 (by omega) dX5_goes_149 (by decide) (fun c_149 => ?_) (fun c_149 => ?_)
                                    · skip
                                      refine z_aload_n X (pc := 163) 3 dX5_goes_163 rfl ?_
                                      refine z_get X (pc := 164) 0 14 (.ref mR) tu_5 tw_573 dX5_goes_164 rfl rfl (by decide) rfl rfl ?_
                                      refine z_iload X (pc := 167) 0 dX5_goes_167 rfl ?_
                                      refine z_dup2_11 X (pc := 169) dX5_goes_169 rfl rfl ?_
                                      refine z_lald X (pc := 170) 3 l (lN (B.2.1 l)) dX5_goes_170 rfl rfl (Nat.le_of_ble_eq_true rfl) (by omega) rfl ?_
                                      refine z_lload X (pc := 171) 2 dX5_goes_171 rfl ?_
                                      refine z_lload X (pc := 173) 8 dX5_goes_173 rfl ?_
                                      refine z_lmul X (pc := 175) (v := (lN ((wv * (4 - (htl kd x l r la))) * T))) dX5_goes_175 (lN_mul _ _) ?_
                                      refine z_ladd X (pc := 176) (v := (lN (B.2.1 l + ((wv * (4 - (htl kd x l r la))) * T)))) dX5_goes_176 (lN_add (B.2.1 l) ((wv * (4 - (htl kd x l r la))) * T)) ?_
                                      refine z_last X (pc := 177) 3 l (lf (vup B.2.1 l (B.2.1 l + ((wv * (4 - (htl kd x l r la))) * T)))) [eX5 mq mT (nI ty) mD mS (nI ev) mP (nI kn) mI (nI kp) mE (nI sg) at_ mH mX mR mO (lN B.2.2.2), eL t mH 363 (lf (emb m w)), eL t mX 363 (lf (embN m B.1)), eL t mR 11 (lf (vup B.2.1 l (B.2.1 l + ((wv * (4 - (htl kd x l r la))) * T)))), eL t mO 22 (lf (vup sn st B.2.2.1))] dX5_goes_177 rfl rfl (Nat.le_of_ble_eq_true rfl) (by omega) (updL_lf _ _ _) rfl ?_
                                      refine z_aload_n X (pc := 178) 3 dX5_goes_178 rfl ?_
                                      refine z_get X (pc := 179) 0 15 (.ref mO) tu_5 tw_574 dX5_goes_179 rfl rfl (by decide) rfl rfl ?_
                                      refine z_iload X (pc := 182) 7 dX5_goes_182 rfl ?_
                                      refine z_dup2_11 X (pc := 184) dX5_goes_184 rfl rfl ?_
                                      refine z_lald X (pc := 185) 4 st (lN B.2.2.1) dX5_goes_185 rfl rfl (Nat.le_of_ble_eq_true rfl) (by omega) (by show lN (vup sn st B.2.2.1 st) = _; rw [vup_s]) ?_
                                      refine z_lload X (pc := 186) 2 dX5_goes_186 rfl ?_
                                      refine z_lload X (pc := 188) 8 dX5_goes_188 rfl ?_
                                      refine z_lmul X (pc := 190) (v := (lN ((wv * (4 - (htl kd x l r la))) * T))) dX5_goes_190 (lN_mul _ _) ?_
                                      refine z_ladd X (pc := 191) (v := (lN (B.2.2.1 + ((wv * (4 - (htl kd x l r la))) * T)))) dX5_goes_191 (lN_add B.2.2.1 ((wv * (4 - (htl kd x l r la))) * T)) ?_
                                      refine z_last X (pc := 192) 4 st (lf (vup sn st (B.2.2.1 + ((wv * (4 - (htl kd x l r la))) * T)))) [eX5 mq mT (nI ty) mD mS (nI ev) mP (nI kn) mI (nI kp) mE (nI sg) at_ mH mX mR mO (lN B.2.2.2), eL t mH 363 (lf (emb m w)), eL t mX 363 (lf (embN m B.1)), eL t mR 11 (lf (vup B.2.1 l (B.2.1 l + ((wv * (4 - (htl kd x l r la))) * T)))), eL t mO 22 (lf (vup sn st (B.2.2.1 + ((wv * (4 - (htl kd x l r la))) * T))))] dX5_goes_192 rfl rfl (Nat.le_of_ble_eq_true rfl) (by omega) (by rw [updL_lf, vup_vup]) rfl ?_
                                      refine z_aload_n X (pc := 193) 3 dX5_goes_193 rfl ?_
                                      refine z_dup X (pc := 194) dX5_goes_194 rfl ?_
                                      refine z_get X (pc := 195) 0 16 (.long (lN B.2.2.2)) tu_5 tw_575 dX5_goes_195 rfl rfl (by decide) rfl rfl ?_
                                      refine z_iload X (pc := 198) 14 dX5_goes_198 rfl ?_
                                      refine z_if_neN X (pc := 200) 211 (by omega) dX5_goes_200 (by decide) (fun c_200 => ?_) (fun c_200 => absurd c_200 (by decide))
                                      refine z_lconst X (pc := 211) (lN 0) dX5_goes_211 (by decide) ?_
                                      refine z_ladd X (pc := 212) (v := (lN B.2.2.2)) dX5_goes_212 (lN_add B.2.2.2 0) ?_
                                      refine z_put X (pc := 213) 0 16 [eX5 mq mT (nI ty) mD mS (nI ev) mP (nI kn) mI (nI kp) mE (nI sg) at_ mH mX mR mO (lN B.2.2.2), eL t mH 363 (lf (emb m w)), eL t mX 363 (lf (embN m B.1)), eL t mR 11 (lf (vup B.2.1 l (B.2.1 l + ((wv * (4 - (htl kd x l r la))) * T)))), eL t mO 22 (lf (vup sn st (B.2.2.1 + ((wv * (4 - (htl kd x l r la))) * T))))] tu_5 tyX5_ok nmX5 tw_575 dX5_goes_213 rfl rfl (by decide) rfl rfl rfl rfl (Nat.le_of_ble_eq_true rfl) rfl ?_
                                      refine z_goto X (pc := 216) 257 dX5_goes_216 (by decide) ?_
                                      obtain ⟨B2, hB2⟩ : ∃ BB : wA, BB = fol en T 1 r l (wv * (4 - htl kd x l r la)) B := ⟨_, rfl⟩
                                      have hfo := hB2.trans (fol_end (by omega) (by omega))
                                      refine z_eq (ws2 := [eX5 mq mT (nI ty) mD mS (nI ev) mP (nI kn) mI (nI kp) mE (nI sg) at_ mH mX mR mO (lN B2.2.2.2), eL t mH 363 (lf (emb m w)), eL t mX 363 (lf (embN m B2.1)), eL t mR 11 (lf B2.2.1), eL t mO 22 (lf (vup sn st B2.2.2.1))]) (by rw [hfo]; rfl) rfl rfl ?_
                                      refine z_iinc X (pc := 257) (i := 13) 14 (nI 2) [(13, .int (nI 2)), (17, .int (nI l)), (16, .int (nI r)), (14, .long (lN (wv * (4 - (htl kd x l r la))))), (0, .ref mq), (1, .int (nI kd)), (2, .int (nI x)), (3, .int (nI en)), (4, .int (nI st)), (5, .long (lN T)), (7, .int (nI l)), (8, .int (nI r)), (9, .int (nI la)), (10, .long (lN wv)), (12, .int (nI (htl kd x l r la)))] dX5_goes_257 rfl (nI_incc 1 1) (by decide) rfl ?_
                                      refine z_goto X (pc := 260) 86 dX5_goes_260 (by decide) ?_
                                      refine z_lv [4, 5, 6, 7, 8, 9, 10, 11, 12, 13, 14, 0] (lv2 := [(0, .ref mq), (1, .int (nI kd)), (2, .int (nI x)), (3, .int (nI en)), (4, .int (nI st)), (5, .long (lN T)), (7, .int (nI l)), (8, .int (nI r)), (9, .int (nI la)), (10, .long (lN wv)), (12, .int (nI (htl kd x l r la))), (13, .int (nI 2))]) rfl ?_
                                      exact ih_86 2 B2 (by omega) (by omega) (by rw [hB2, hB]; rfl) (fun _ => by omega)
                                    · skip
                                      refine z_iload_n X (pc := 152) 6 dX5_goes_152 rfl ?_
                                      refine z_iconst X (pc := 153) (nI 1) dX5_goes_153 (by decide) ?_
                                      refine z_icmp_neN X (pc := 154) 219 (by omega) (by omega) dX5_goes_154 (by decide) (fun c_154 => ?_) (fun c_154 => ?_)
                                      · skip
                                        refine z_aload_n X (pc := 219) 3 dX5_goes_219 rfl ?_
                                        refine z_get X (pc := 220) 0 13 (.ref mX) tu_5 tw_572 dX5_goes_220 rfl rfl (by decide) rfl rfl ?_
                                        refine z_iload X (pc := 223) 14 dX5_goes_223 rfl ?_
                                        refine z_if_neN X (pc := 225) 241 (by omega) dX5_goes_225 (by decide) (fun c_225 => ?_) (fun c_225 => absurd c_225 (by decide))
                                        refine z_iload X (pc := 241) 9 dX5_goes_241 rfl ?_
                                        refine z_iload X (pc := 243) 10 dX5_goes_243 rfl ?_
                                        refine z_iconst X (pc := 245) (nI 1) dX5_goes_245 (by decide) ?_
                                        refine z_isub X (pc := 246) (v := (nI (r - 1))) dX5_goes_246 (pk_sub (by omega)) ?_
                                        refine z_iconst X (pc := 247) (nI 1) dX5_goes_247 (by decide) ?_
                                        refine zc_S (as := [.int (nI l), .int (nI (r - 1)), .int (nI 1)]) X (pc := 248) (c_X5_spot lq D t l (r - 1) 1 ) tw_712 tw_714 tw_7 tw_713 [] rfl rfl dX5_goes_248 rfl zdX5_spot ⟨rfl, rfl, Nat.le_of_ble_eq_true rfl, Nat.le_of_ble_eq_true rfl⟩ (Nat.le_of_ble_eq_true rfl) (Nat.zero_le _) (Nat.zero_le _) (fun v_13 w_14 hp_15 => ?_)
                                        obtain ⟨rfl, rfl⟩ := hp_15
                                        refine ⟨rfl, ?_⟩
                                        refine z_eq (ws2 := [eX5 mq mT (nI ty) mD mS (nI ev) mP (nI kn) mI (nI kp) mE (nI sg) at_ mH mX mR mO (lN B.2.2.2), eL t mH 363 (lf (emb m w)), eL t mX 363 (lf (embN m B.1)), eL t mR 11 (lf B.2.1), eL t mO 22 (lf (vup sn st B.2.2.1))]) (st2 := [.int (nI (33 * l + 3 * (r - 1) + 1)), .ref mX]) rfl rfl rfl ?_
                                        refine z_dup2_11 X (pc := 251) dX5_goes_251 rfl rfl ?_
                                        refine z_lald X (pc := 252) 2 (33 * l + 3 * (r - 1) + 1) (lN (B.1 (l * 3 + 1))) dX5_goes_252 rfl rfl (Nat.le_of_ble_eq_true rfl) (by omega) (by show lN (embN m B.1 _) = _; rw [embN_at (by omega) (by decide) (by have := hlr (by omega); omega)]) ?_
                                        refine z_lload X (pc := 253) 2 dX5_goes_253 rfl ?_
                                        refine z_ladd X (pc := 255) (v := (lN (B.1 (l * 3 + 1) + (wv * (4 - (htl kd x l r la)))))) dX5_goes_255 (lN_add (B.1 (l * 3 + 1)) (wv * (4 - (htl kd x l r la)))) ?_
                                        refine z_last X (pc := 256) 2 (33 * l + 3 * (r - 1) + 1) (lf (embN m (vup B.1 (l * 3 + 1) (B.1 (l * 3 + 1) + (wv * (4 - (htl kd x l r la))))))) [eX5 mq mT (nI ty) mD mS (nI ev) mP (nI kn) mI (nI kp) mE (nI sg) at_ mH mX mR mO (lN B.2.2.2), eL t mH 363 (lf (emb m w)), eL t mX 363 (lf (embN m (vup B.1 (l * 3 + 1) (B.1 (l * 3 + 1) + (wv * (4 - (htl kd x l r la))))))), eL t mR 11 (lf B.2.1), eL t mO 22 (lf (vup sn st B.2.2.1))] dX5_goes_256 rfl rfl (Nat.le_of_ble_eq_true rfl) (by omega) (by rw [updL_lf, embN_up (by omega) (by decide) (by have := hlr (by omega); omega)]) rfl ?_
                                        obtain ⟨B2, hB2⟩ : ∃ BB : wA, BB = fol en T 1 r l (wv * (4 - htl kd x l r la)) B := ⟨_, rfl⟩
                                        have hfo := hB2.trans (fol_go (by omega))
                                        refine z_eq (ws2 := [eX5 mq mT (nI ty) mD mS (nI ev) mP (nI kn) mI (nI kp) mE (nI sg) at_ mH mX mR mO (lN B2.2.2.2), eL t mH 363 (lf (emb m w)), eL t mX 363 (lf (embN m B2.1)), eL t mR 11 (lf B2.2.1), eL t mO 22 (lf (vup sn st B2.2.2.1))]) (by rw [hfo]; rfl) rfl rfl ?_
                                        refine z_iinc X (pc := 257) (i := 13) 14 (nI 2) [(13, .int (nI 2)), (17, .int (nI l)), (16, .int (nI r)), (14, .long (lN (wv * (4 - (htl kd x l r la))))), (0, .ref mq), (1, .int (nI kd)), (2, .int (nI x)), (3, .int (nI en)), (4, .int (nI st)), (5, .long (lN T)), (7, .int (nI l)), (8, .int (nI r)), (9, .int (nI la)), (10, .long (lN wv)), (12, .int (nI (htl kd x l r la)))] dX5_goes_257 rfl (nI_incc 1 1) (by decide) rfl ?_
                                        refine z_goto X (pc := 260) 86 dX5_goes_260 (by decide) ?_
                                        refine z_lv [4, 5, 6, 7, 8, 9, 10, 11, 12, 13, 14, 0] (lv2 := [(0, .ref mq), (1, .int (nI kd)), (2, .int (nI x)), (3, .int (nI en)), (4, .int (nI st)), (5, .long (lN T)), (7, .int (nI l)), (8, .int (nI r)), (9, .int (nI la)), (10, .long (lN wv)), (12, .int (nI (htl kd x l r la))), (13, .int (nI 2))]) rfl ?_
                                        exact ih_86 2 B2 (by omega) (by omega) (by rw [hB2, hB]; rfl) (fun _ => by omega)
                                      · skip
                                        refine z_iload X (pc := 157) 1 dX5_goes_157 rfl ?_
                                        refine z_iconst X (pc := 159) (nI 1) dX5_goes_159 (by decide) ?_
                                        refine z_icmp_neN X (pc := 160) 219 (by omega) (by omega) dX5_goes_160 (by decide) (fun c_160 => ?_) (fun c_160 => ?_)
                                        · skip
                                          refine z_aload_n X (pc := 219) 3 dX5_goes_219 rfl ?_
                                          refine z_get X (pc := 220) 0 13 (.ref mX) tu_5 tw_572 dX5_goes_220 rfl rfl (by decide) rfl rfl ?_
                                          refine z_iload X (pc := 223) 14 dX5_goes_223 rfl ?_
                                          refine z_if_neN X (pc := 225) 241 (by omega) dX5_goes_225 (by decide) (fun c_225 => ?_) (fun c_225 => absurd c_225 (by decide))
                                          refine z_iload X (pc := 241) 9 dX5_goes_241 rfl ?_
                                          refine z_iload X (pc := 243) 10 dX5_goes_243 rfl ?_
                                          refine z_iconst X (pc := 245) (nI 1) dX5_goes_245 (by decide) ?_
                                          refine z_isub X (pc := 246) (v := (nI (r - 1))) dX5_goes_246 (pk_sub (by omega)) ?_
                                          refine z_iconst X (pc := 247) (nI 1) dX5_goes_247 (by decide) ?_
                                          refine zc_S (as := [.int (nI l), .int (nI (r - 1)), .int (nI 1)]) X (pc := 248) (c_X5_spot lq D t l (r - 1) 1 ) tw_712 tw_714 tw_7 tw_713 [] rfl rfl dX5_goes_248 rfl zdX5_spot ⟨rfl, rfl, Nat.le_of_ble_eq_true rfl, Nat.le_of_ble_eq_true rfl⟩ (Nat.le_of_ble_eq_true rfl) (Nat.zero_le _) (Nat.zero_le _) (fun v_16 w_17 hp_18 => ?_)
                                          obtain ⟨rfl, rfl⟩ := hp_18
                                          refine ⟨rfl, ?_⟩
                                          refine z_eq (ws2 := [eX5 mq mT (nI ty) mD mS (nI ev) mP (nI kn) mI (nI kp) mE (nI sg) at_ mH mX mR mO (lN B.2.2.2), eL t mH 363 (lf (emb m w)), eL t mX 363 (lf (embN m B.1)), eL t mR 11 (lf B.2.1), eL t mO 22 (lf (vup sn st B.2.2.1))]) (st2 := [.int (nI (33 * l + 3 * (r - 1) + 1)), .ref mX]) rfl rfl rfl ?_
                                          refine z_dup2_11 X (pc := 251) dX5_goes_251 rfl rfl ?_
                                          refine z_lald X (pc := 252) 2 (33 * l + 3 * (r - 1) + 1) (lN (B.1 (l * 3 + 1))) dX5_goes_252 rfl rfl (Nat.le_of_ble_eq_true rfl) (by omega) (by show lN (embN m B.1 _) = _; rw [embN_at (by omega) (by decide) (by have := hlr (by omega); omega)]) ?_
                                          refine z_lload X (pc := 253) 2 dX5_goes_253 rfl ?_
                                          refine z_ladd X (pc := 255) (v := (lN (B.1 (l * 3 + 1) + (wv * (4 - (htl kd x l r la)))))) dX5_goes_255 (lN_add (B.1 (l * 3 + 1)) (wv * (4 - (htl kd x l r la)))) ?_
                                          refine z_last X (pc := 256) 2 (33 * l + 3 * (r - 1) + 1) (lf (embN m (vup B.1 (l * 3 + 1) (B.1 (l * 3 + 1) + (wv * (4 - (htl kd x l r la))))))) [eX5 mq mT (nI ty) mD mS (nI ev) mP (nI kn) mI (nI kp) mE (nI sg) at_ mH mX mR mO (lN B.2.2.2), eL t mH 363 (lf (emb m w)), eL t mX 363 (lf (embN m (vup B.1 (l * 3 + 1) (B.1 (l * 3 + 1) + (wv * (4 - (htl kd x l r la))))))), eL t mR 11 (lf B.2.1), eL t mO 22 (lf (vup sn st B.2.2.1))] dX5_goes_256 rfl rfl (Nat.le_of_ble_eq_true rfl) (by omega) (by rw [updL_lf, embN_up (by omega) (by decide) (by have := hlr (by omega); omega)]) rfl ?_
                                          obtain ⟨B2, hB2⟩ : ∃ BB : wA, BB = fol en T 1 r l (wv * (4 - htl kd x l r la)) B := ⟨_, rfl⟩
                                          have hfo := hB2.trans (fol_go (by omega))
                                          refine z_eq (ws2 := [eX5 mq mT (nI ty) mD mS (nI ev) mP (nI kn) mI (nI kp) mE (nI sg) at_ mH mX mR mO (lN B2.2.2.2), eL t mH 363 (lf (emb m w)), eL t mX 363 (lf (embN m B2.1)), eL t mR 11 (lf B2.2.1), eL t mO 22 (lf (vup sn st B2.2.2.1))]) (by rw [hfo]; rfl) rfl rfl ?_
                                          refine z_iinc X (pc := 257) (i := 13) 14 (nI 2) [(13, .int (nI 2)), (17, .int (nI l)), (16, .int (nI r)), (14, .long (lN (wv * (4 - (htl kd x l r la))))), (0, .ref mq), (1, .int (nI kd)), (2, .int (nI x)), (3, .int (nI en)), (4, .int (nI st)), (5, .long (lN T)), (7, .int (nI l)), (8, .int (nI r)), (9, .int (nI la)), (10, .long (lN wv)), (12, .int (nI (htl kd x l r la)))] dX5_goes_257 rfl (nI_incc 1 1) (by decide) rfl ?_
                                          refine z_goto X (pc := 260) 86 dX5_goes_260 (by decide) ?_
                                          refine z_lv [4, 5, 6, 7, 8, 9, 10, 11, 12, 13, 14, 0] (lv2 := [(0, .ref mq), (1, .int (nI kd)), (2, .int (nI x)), (3, .int (nI en)), (4, .int (nI st)), (5, .long (lN T)), (7, .int (nI l)), (8, .int (nI r)), (9, .int (nI la)), (10, .long (lN wv)), (12, .int (nI (htl kd x l r la))), (13, .int (nI 2))]) rfl ?_
                                          exact ih_86 2 B2 (by omega) (by omega) (by rw [hB2, hB]; rfl) (fun _ => by omega)
                                        · skip
                                          refine z_aload_n X (pc := 163) 3 dX5_goes_163 rfl ?_
                                          refine z_get X (pc := 164) 0 14 (.ref mR) tu_5 tw_573 dX5_goes_164 rfl rfl (by decide) rfl rfl ?_
                                          refine z_iload X (pc := 167) 0 dX5_goes_167 rfl ?_
                                          refine z_dup2_11 X (pc := 169) dX5_goes_169 rfl rfl ?_
                                          refine z_lald X (pc := 170) 3 l (lN (B.2.1 l)) dX5_goes_170 rfl rfl (Nat.le_of_ble_eq_true rfl) (by omega) rfl ?_
                                          refine z_lload X (pc := 171) 2 dX5_goes_171 rfl ?_
                                          refine z_lload X (pc := 173) 8 dX5_goes_173 rfl ?_
                                          refine z_lmul X (pc := 175) (v := (lN ((wv * (4 - (htl kd x l r la))) * T))) dX5_goes_175 (lN_mul _ _) ?_
                                          refine z_ladd X (pc := 176) (v := (lN (B.2.1 l + ((wv * (4 - (htl kd x l r la))) * T)))) dX5_goes_176 (lN_add (B.2.1 l) ((wv * (4 - (htl kd x l r la))) * T)) ?_
                                          refine z_last X (pc := 177) 3 l (lf (vup B.2.1 l (B.2.1 l + ((wv * (4 - (htl kd x l r la))) * T)))) [eX5 mq mT (nI ty) mD mS (nI ev) mP (nI kn) mI (nI kp) mE (nI sg) at_ mH mX mR mO (lN B.2.2.2), eL t mH 363 (lf (emb m w)), eL t mX 363 (lf (embN m B.1)), eL t mR 11 (lf (vup B.2.1 l (B.2.1 l + ((wv * (4 - (htl kd x l r la))) * T)))), eL t mO 22 (lf (vup sn st B.2.2.1))] dX5_goes_177 rfl rfl (Nat.le_of_ble_eq_true rfl) (by omega) (updL_lf _ _ _) rfl ?_
                                          refine z_aload_n X (pc := 178) 3 dX5_goes_178 rfl ?_
                                          refine z_get X (pc := 179) 0 15 (.ref mO) tu_5 tw_574 dX5_goes_179 rfl rfl (by decide) rfl rfl ?_
                                          refine z_iload X (pc := 182) 7 dX5_goes_182 rfl ?_
                                          refine z_dup2_11 X (pc := 184) dX5_goes_184 rfl rfl ?_
                                          refine z_lald X (pc := 185) 4 st (lN B.2.2.1) dX5_goes_185 rfl rfl (Nat.le_of_ble_eq_true rfl) (by omega) (by show lN (vup sn st B.2.2.1 st) = _; rw [vup_s]) ?_
                                          refine z_lload X (pc := 186) 2 dX5_goes_186 rfl ?_
                                          refine z_lload X (pc := 188) 8 dX5_goes_188 rfl ?_
                                          refine z_lmul X (pc := 190) (v := (lN ((wv * (4 - (htl kd x l r la))) * T))) dX5_goes_190 (lN_mul _ _) ?_
                                          refine z_ladd X (pc := 191) (v := (lN (B.2.2.1 + ((wv * (4 - (htl kd x l r la))) * T)))) dX5_goes_191 (lN_add B.2.2.1 ((wv * (4 - (htl kd x l r la))) * T)) ?_
                                          refine z_last X (pc := 192) 4 st (lf (vup sn st (B.2.2.1 + ((wv * (4 - (htl kd x l r la))) * T)))) [eX5 mq mT (nI ty) mD mS (nI ev) mP (nI kn) mI (nI kp) mE (nI sg) at_ mH mX mR mO (lN B.2.2.2), eL t mH 363 (lf (emb m w)), eL t mX 363 (lf (embN m B.1)), eL t mR 11 (lf (vup B.2.1 l (B.2.1 l + ((wv * (4 - (htl kd x l r la))) * T)))), eL t mO 22 (lf (vup sn st (B.2.2.1 + ((wv * (4 - (htl kd x l r la))) * T))))] dX5_goes_192 rfl rfl (Nat.le_of_ble_eq_true rfl) (by omega) (by rw [updL_lf, vup_vup]) rfl ?_
                                          refine z_aload_n X (pc := 193) 3 dX5_goes_193 rfl ?_
                                          refine z_dup X (pc := 194) dX5_goes_194 rfl ?_
                                          refine z_get X (pc := 195) 0 16 (.long (lN B.2.2.2)) tu_5 tw_575 dX5_goes_195 rfl rfl (by decide) rfl rfl ?_
                                          refine z_iload X (pc := 198) 14 dX5_goes_198 rfl ?_
                                          refine z_if_neN X (pc := 200) 211 (by omega) dX5_goes_200 (by decide) (fun c_200 => ?_) (fun c_200 => absurd c_200 (by decide))
                                          refine z_lconst X (pc := 211) (lN 0) dX5_goes_211 (by decide) ?_
                                          refine z_ladd X (pc := 212) (v := (lN B.2.2.2)) dX5_goes_212 (lN_add B.2.2.2 0) ?_
                                          refine z_put X (pc := 213) 0 16 [eX5 mq mT (nI ty) mD mS (nI ev) mP (nI kn) mI (nI kp) mE (nI sg) at_ mH mX mR mO (lN B.2.2.2), eL t mH 363 (lf (emb m w)), eL t mX 363 (lf (embN m B.1)), eL t mR 11 (lf (vup B.2.1 l (B.2.1 l + ((wv * (4 - (htl kd x l r la))) * T)))), eL t mO 22 (lf (vup sn st (B.2.2.1 + ((wv * (4 - (htl kd x l r la))) * T))))] tu_5 tyX5_ok nmX5 tw_575 dX5_goes_213 rfl rfl (by decide) rfl rfl rfl rfl (Nat.le_of_ble_eq_true rfl) rfl ?_
                                          refine z_goto X (pc := 216) 257 dX5_goes_216 (by decide) ?_
                                          obtain ⟨B2, hB2⟩ : ∃ BB : wA, BB = fol en T 1 r l (wv * (4 - htl kd x l r la)) B := ⟨_, rfl⟩
                                          have hfo := hB2.trans (fol_end (by omega) (by omega))
                                          refine z_eq (ws2 := [eX5 mq mT (nI ty) mD mS (nI ev) mP (nI kn) mI (nI kp) mE (nI sg) at_ mH mX mR mO (lN B2.2.2.2), eL t mH 363 (lf (emb m w)), eL t mX 363 (lf (embN m B2.1)), eL t mR 11 (lf B2.2.1), eL t mO 22 (lf (vup sn st B2.2.2.1))]) (by rw [hfo]; rfl) rfl rfl ?_
                                          refine z_iinc X (pc := 257) (i := 13) 14 (nI 2) [(13, .int (nI 2)), (17, .int (nI l)), (16, .int (nI r)), (14, .long (lN (wv * (4 - (htl kd x l r la))))), (0, .ref mq), (1, .int (nI kd)), (2, .int (nI x)), (3, .int (nI en)), (4, .int (nI st)), (5, .long (lN T)), (7, .int (nI l)), (8, .int (nI r)), (9, .int (nI la)), (10, .long (lN wv)), (12, .int (nI (htl kd x l r la)))] dX5_goes_257 rfl (nI_incc 1 1) (by decide) rfl ?_
                                          refine z_goto X (pc := 260) 86 dX5_goes_260 (by decide) ?_
                                          refine z_lv [4, 5, 6, 7, 8, 9, 10, 11, 12, 13, 14, 0] (lv2 := [(0, .ref mq), (1, .int (nI kd)), (2, .int (nI x)), (3, .int (nI en)), (4, .int (nI st)), (5, .long (lN T)), (7, .int (nI l)), (8, .int (nI r)), (9, .int (nI la)), (10, .long (lN wv)), (12, .int (nI (htl kd x l r la))), (13, .int (nI 2))]) rfl ?_
                                          exact ih_86 2 B2 (by omega) (by omega) (by rw [hB2, hB]; rfl) (fun _ => by omega)
                          refine z_lv [3, 4, 5, 6, 7, 8, 9, 10, 11, 2, 1, 0] (lv2 := [(0, .ref mq), (1, .int (nI kd)), (2, .int (nI x)), (3, .int (nI en)), (4, .int (nI st)), (5, .long (lN T)), (7, .int (nI l)), (8, .int (nI r)), (9, .int (nI la)), (10, .long (lN wv)), (12, .int (nI (htl kd x l r la))), (13, .int (nI 0))]) rfl ?_
                          exact loop_86 3 0 A2 (by omega) (by omega) rfl (fun z => absurd rfl z)
                    refine z_lv [1, 2, 3, 4, 5, 6, 7, 8, 0] (lv2 := [(0, .ref mq), (1, .int (nI kd)), (2, .int (nI x)), (3, .int (nI en)), (4, .int (nI st)), (5, .long (lN T)), (7, .int (nI l)), (8, .int (nI r)), (9, .int (nI 0))]) rfl ?_
                    exact loop_48 4 0 A1 (by omega) (by omega) (hA1.trans lAt_0)
              refine z_lv [1, 2, 3, 4, 5, 6, 7, 0] (lv2 := [(0, .ref mq), (1, .int (nI kd)), (2, .int (nI x)), (3, .int (nI en)), (4, .int (nI st)), (5, .long (lN T)), (7, .int (nI l)), (8, .int (nI 0))]) rfl ?_
              exact loop_38 12 0 A (by omega) (by omega) (hA.trans rAt_0)
        obtain ⟨A0, hA0⟩ : ∃ A : wA, A = (((fun _ => 0), os, sn st, el) : wA) := ⟨_, rfl⟩
        refine z_eq (ws2 := [eX5 mq mT (nI ty) mD mS (nI ev) mP (nI kn) mI (nI kp) mE (nI sg) at_ mH mX mR mO (lN A0.2.2.2), eL t mH 363 (lf (emb m w)), eL t mX 363 (lf (embN m A0.1)), eL t mR 11 (lf A0.2.1), eL t mO 22 (lf (vup sn st A0.2.2.1))]) (by rw [hA0]; simp only; rw [← embN_0, vup_same (g := sn) (j := st) rfl]) rfl rfl ?_
        refine z_lv [1, 2, 3, 4, 5, 6, 0] (lv2 := [(0, .ref mq), (1, .int (nI kd)), (2, .int (nI x)), (3, .int (nI en)), (4, .int (nI st)), (5, .long (lN T)), (7, .int (nI 0))]) rfl ?_
        exact loop_28 12 0 A0 (by omega) (by omega) hA0
      · skip
        refine z_aload_n X (pc := 11) 0 dX5_goes_11 rfl ?_
        refine z_get X (pc := 12) 0 13 (.ref mX) tu_5 tw_572 dX5_goes_12 rfl rfl (by decide) rfl rfl ?_
        refine z_iload X (pc := 15) 6 dX5_goes_15 rfl ?_
        refine z_lconst X (pc := 17) (lN 0) dX5_goes_17 (by decide) ?_
        refine z_last X (pc := 18) 2 i (fun j => if j < i + 1 then lN 0 else f j) [eX5 mq mT (nI ty) mD mS (nI ev) mP (nI kn) mI (nI kp) mE (nI sg) at_ mH mX mR mO (lN el), eL t mH 363 (lf (emb m w)), eL t mX 363 (fun j => if j < i + 1 then lN 0 else f j), eL t mR 11 (lf os), eL t mO 22 (lf sn)] dX5_goes_18 rfl rfl (Nat.le_of_ble_eq_true rfl) (by omega) (by funext j; simp only [vp_updL]; (repeat' split) <;> first | rfl | (exfalso; omega)) rfl ?_
        refine z_iinc X (pc := 19) (i := 7) 6 (nI (i + 1)) [(7, .int (nI (i + 1))), (0, .ref mq), (1, .int (nI kd)), (2, .int (nI x)), (3, .int (nI en)), (4, .int (nI st)), (5, .long (lN T))] dX5_goes_19 rfl (nI_incc i 1) (by decide) rfl ?_
        refine z_goto X (pc := 22) 3 dX5_goes_22 (by decide) ?_
        refine z_lv [1, 2, 3, 4, 5, 6, 0] (lv2 := [(0, .ref mq), (1, .int (nI kd)), (2, .int (nI x)), (3, .int (nI en)), (4, .int (nI st)), (5, .long (lN T)), (7, .int (nI (i + 1)))]) rfl ?_
        exact ih_3 (i + 1) (by omega) (by omega)
  refine z_eq (ws2 := [eX5 mq mT (nI ty) mD mS (nI ev) mP (nI kn) mI (nI kp) mE (nI sg) at_ mH mX mR mO (lN el), eL t mH 363 (lf (emb m w)), eL t mX 363 (fun j => if j < 0 then lN 0 else f j), eL t mR 11 (lf os), eL t mO 22 (lf sn)]) (by simp) rfl rfl ?_
  refine z_lv [1, 2, 3, 4, 5, 6, 0] (lv2 := [(0, .ref mq), (1, .int (nI kd)), (2, .int (nI x)), (3, .int (nI en)), (4, .int (nI st)), (5, .long (lN T)), (7, .int (nI 0))]) rfl ?_
  exact loop_3 364 0 (by omega) (by omega)
