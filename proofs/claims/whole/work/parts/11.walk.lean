/-! PART 11: Walk's steps: the abstract scatter, wipeRow, addTo, endBy, follow, advanceOnce -/
abbrev wA : Type := (Nat → Nat) × (Nat → Nat) × Nat × Nat
/-- one reach of weight its to a side with 'ow' in it and 'ot' in the other: the next row, the rest's row, what has ended, what has ended on the left -/
def fol (en T sd ow ot its : Nat) (a : wA) : wA :=
  if ow ≤ en then (a.1, (if ot ≤ 10 then vup a.2.1 ot (a.2.1 ot + its * T) else a.2.1), a.2.2.1 + its * T, if sd = 0 then a.2.2.2 + its * T else a.2.2.2)
  else (vup a.1 ((if sd = 0 then ow - 1 else ot) * 3 + sd) (a.1 ((if sd = 0 then ow - 1 else ot) * 3 + sd) + its), a.2)
/-- one cell of the row -/
def cel (kd x en T m : Nat) (w : Nat → Nat) (l la : Nat) (a : wA) : wA :=
  if w (l * 3 + la) = 0 then a else
    fol en T 1 (m - l) l (w (l * 3 + la) * (4 - htl kd x l (m - l) la)) (fol en T 0 l (m - l) (w (l * 3 + la) * htl kd x l (m - l) la) a)
def cin (kd x en T m : Nat) (w : Nat → Nat) (l : Nat) : Nat → wA → wA
  | 0, a => a
  | j + 1, a => cel kd x en T m w l j (cin kd x en T m w l j a)
def cou (kd x en T m : Nat) (w : Nat → Nat) : Nat → wA → wA
  | 0, a => a
  | l + 1, a => cin kd x en T m w l 3 (cou kd x en T m w l a)
theorem fol_nx (en P sd ow ot its : Nat) (a : wA) : (if ow ≤ en then (fun j => a.1 j * P) else vup (fun j => a.1 j * P) ((if sd = 0 then ow - 1 else ot) * 3 + sd) ((fun j => a.1 j * P) ((if sd = 0 then ow - 1 else ot) * 3 + sd) + its * P)) = fun j => (fol en P sd ow ot its a).1 j * P := by
  unfold fol
  by_cases h : ow ≤ en
  · simp [h]
  · simp only [h, if_false]
    funext j
    by_cases hj : j = (if sd = 0 then ow - 1 else ot) * 3 + sd
    · simp [vup, hj, Nat.add_mul]
    · simp [vup, hj]
theorem fol_os (en P sd ow ot its : Nat) (a : wA) : (if ow ≤ en then (if ot ≤ 10 then vup a.2.1 ot (a.2.1 ot + its * P) else a.2.1) else a.2.1) = (fol en P sd ow ot its a).2.1 := by
  unfold fol
  by_cases h : ow ≤ en <;> simp [h]
theorem lN_sub2 (a e c : Nat) : lN a - lN e - lN c = lN a - lN (e + c) := by
  rw [← lN_add]
  simp only [Int64.sub_eq_add_neg, Int64.neg_add, Int64.add_assoc]
theorem fol_so (en P sd ow ot its : Nat) (a : wA) : (if ow ≤ en then lN 4398046511104 - lN a.2.2.1 - lN (its * P) else lN 4398046511104 - lN a.2.2.1) = lN 4398046511104 - lN (fol en P sd ow ot its a).2.2.1 := by
  unfold fol
  by_cases h : ow ≤ en
  · simp only [h, if_true]; exact lN_sub2 _ _ _
  · simp [h]
theorem fol_el (en P sd ow ot its : Nat) (a : wA) : (if ow ≤ en then (if sd = 0 then a.2.2.2 + its * P else a.2.2.2) else a.2.2.2) = (fol en P sd ow ot its a).2.2.2 := by
  unfold fol
  by_cases h : ow ≤ en <;> simp [h]
theorem mz {w P : Nat} (hP : 0 < P) (h : w * (4 * P) ≤ 0) : w = 0 := by
  rcases Nat.eq_zero_or_pos w with q | q
  · exact q
  · have := Nat.mul_pos q (show 0 < 4 * P by omega)
    omega
theorem md4 (w P : Nat) : w * (4 * P) / 4 = w * P := by
  rw [Nat.mul_left_comm, Nat.mul_div_cancel_left _ (by decide)]
abbrev rm_X3_wipeRow : Room := { frames := 0, cells := 0, slots := 0, locals := 0 }
set_option maxHeartbeats 4000000 in
set_option maxRecDepth 100000 in
theorem c_X3_wipeRow (lq : Launch) (D : va_G) (t : zT) (a n : Nat) (f : Nat → Int64) (hn : n < 100) : Ct lq D t yX3_wipeRow cX3_wipeRow 2 none rm_X3_wipeRow [.ref a] [eL t a n f] 0 0 (fun rv rw_ => rv = none ∧ rw_ = [eL t a n (lf (fun _ => 0))]) := by
  refine Ct.of (by decide) (Nat.le_of_ble_eq_true rfl) (fun k X hR => ?_)
  have X : zX D t k cX3_wipeRow 2 RX3 "wipeRow" rm_X3_wipeRow lq := X
  refine z_eq (lv2 := [(0, .ref a)]) rfl rfl rfl ?_
  refine z_iconst X (pc := 0) (nI 0) dX3_wipeRow_0 (by decide) ?_
  refine z_istore_n X (pc := 1) (i := 1) [(1, .int (nI 0)), (0, .ref a)] dX3_wipeRow_1 rfl (by decide) rfl ?_
  have loop_2 : ∀ (fuel_2 : Nat) (i : Nat), n < i + fuel_2 → (i ≤ n) → Z D k (0, 0) [eL t a n (fun j => if j < i then lN 0 else f j)] 2 [(0, .ref a), (1, .int (nI i))] [] := by
    intro fuel_2
    induction fuel_2 with
    | zero =>
      intro i hfuel_2 hi
      exfalso; omega
    | succ fuel_2 ih_2 =>
      intro i hfuel_2 hi
      refine z_iload_n X (pc := 2) 1 dX3_wipeRow_2 rfl ?_
      refine z_aload_n X (pc := 3) 0 dX3_wipeRow_3 rfl ?_
      refine z_alen_l X (pc := 4) 0 dX3_wipeRow_4 rfl ?_
      refine z_icmp_geN X (pc := 5) 18 (by omega) (by omega) dX3_wipeRow_5 (by decide) (fun c_5 => ?_) (fun c_5 => ?_)
      · skip
        refine z_lrow 0 (lf (fun _ => 0)) [eL t a n (lf (fun _ => 0))] rfl (fun j hj => by simp [show j < i by omega]) rfl ?_
        exact hR.v dX3_wipeRow_18 ⟨rfl, rfl⟩
      · skip
        refine z_aload_n X (pc := 8) 0 dX3_wipeRow_8 rfl ?_
        refine z_iload_n X (pc := 9) 1 dX3_wipeRow_9 rfl ?_
        refine z_lconst X (pc := 10) (lN 0) dX3_wipeRow_10 (by decide) ?_
        refine z_last X (pc := 11) 0 i (fun j => if j < i + 1 then lN 0 else f j) [eL t a n (fun j => if j < i + 1 then lN 0 else f j)] dX3_wipeRow_11 rfl rfl (by omega) (by omega) (by funext j; simp only [vp_updL]; (repeat' split) <;> first | rfl | (exfalso; omega)) rfl ?_
        refine z_iinc X (pc := 12) (i := 1) 1 (nI (i + 1)) [(1, .int (nI (i + 1))), (0, .ref a)] dX3_wipeRow_12 rfl (nI_incc i 1) (by decide) rfl ?_
        refine z_goto X (pc := 15) 2 dX3_wipeRow_15 (by decide) ?_
        refine z_lv [1, 0] (lv2 := [(0, .ref a), (1, .int (nI (i + 1)))]) rfl ?_
        exact ih_2 (i + 1) (by omega) (by omega)
  refine z_eq (ws2 := [eL t a n (fun j => if j < 0 then lN 0 else f j)]) (by simp) rfl rfl ?_
  refine z_lv [1, 0] (lv2 := [(0, .ref a), (1, .int (nI 0))]) rfl ?_
  exact loop_2 (n + 1) 0 (by omega) (by omega)

abbrev rm_X3_addTo : Room := { frames := 0, cells := 0, slots := 0, locals := 0 }
set_option maxHeartbeats 4000000 in
set_option maxRecDepth 100000 in
theorem c_X3_addTo (lq : Launch) (D : va_G) (t : zT) (a n l la ch : Nat) (g : Nat → Nat) (hn : n < 100) (hc : l * 3 + la < n) : Ct lq D t yX3_addTo cX3_addTo 6 none rm_X3_addTo [.ref a, .int (nI l), .int (nI la), .long (lN ch)] [eL t a n (lf g)] 0 0 (fun rv rw_ => rv = none ∧ rw_ = [eL t a n (lf (vup g (l * 3 + la) (g (l * 3 + la) + ch)))]) := by
  refine Ct.of (by decide) (Nat.le_of_ble_eq_true rfl) (fun k X hR => ?_)
  have X : zX D t k cX3_addTo 6 RX3 "addTo" rm_X3_addTo lq := X
  refine z_eq (lv2 := [(0, .ref a), (1, .int (nI l)), (2, .int (nI la)), (3, .long (lN ch))]) rfl rfl rfl ?_
  refine z_iload_n X (pc := 0) 1 dX3_addTo_0 rfl ?_
  refine z_iconst X (pc := 1) (nI 3) dX3_addTo_1 (by decide) ?_
  refine z_imul X (pc := 2) (v := (nI (l * 3))) dX3_addTo_2 (pk_mul _ _) ?_
  refine z_iload_n X (pc := 3) 2 dX3_addTo_3 rfl ?_
  refine z_iadd X (pc := 4) (v := (nI (l * 3 + la))) dX3_addTo_4 (nI_add (l * 3) la) ?_
  refine z_istore X (pc := 5) (i := 5) [(5, .int (nI (l * 3 + la))), (0, .ref a), (1, .int (nI l)), (2, .int (nI la)), (3, .long (lN ch))] dX3_addTo_5 trivial (by decide) rfl ?_
  refine z_iload X (pc := 7) 0 dX3_addTo_7 rfl ?_
  refine z_if_ltN X (pc := 9) 27 (by omega) dX3_addTo_9 (by decide) ?_
  refine z_iload X (pc := 12) 0 dX3_addTo_12 rfl ?_
  refine z_aload_n X (pc := 14) 1 dX3_addTo_14 rfl ?_
  refine z_alen_l X (pc := 15) 0 dX3_addTo_15 rfl ?_
  refine z_icmp_geN X (pc := 16) 27 (by omega) (by omega) dX3_addTo_16 (by decide) (fun c_16 => absurd c_16 (by omega)) (fun c_16 => ?_)
  refine z_aload_n X (pc := 19) 1 dX3_addTo_19 rfl ?_
  refine z_iload X (pc := 20) 0 dX3_addTo_20 rfl ?_
  refine z_dup2_11 X (pc := 22) dX3_addTo_22 rfl rfl ?_
  refine z_lald X (pc := 23) 0 (l * 3 + la) (lN (g (l * 3 + la))) dX3_addTo_23 rfl rfl (by omega) (by omega) rfl ?_
  refine z_lload_n X (pc := 24) 4 dX3_addTo_24 rfl ?_
  refine z_ladd X (pc := 25) (v := (lN (g (l * 3 + la) + ch))) dX3_addTo_25 (lN_add (g (l * 3 + la)) ch) ?_
  refine z_last X (pc := 26) 0 (l * 3 + la) (lf (vup g (l * 3 + la) (g (l * 3 + la) + ch))) [eL t a n (lf (vup g (l * 3 + la) (g (l * 3 + la) + ch)))] dX3_addTo_26 rfl rfl (by omega) (by omega) (updL_lf _ _ _) rfl ?_
  exact hR.v dX3_addTo_27 ⟨rfl, rfl⟩

abbrev rm_X3_endBy : Room := { frames := 0, cells := 0, slots := 0, locals := 0 }
set_option maxHeartbeats 4000000 in
set_option maxRecDepth 100000 in
theorem c_X3_endBy (lq : Launch) (D : va_G) (t : zT) (h0 hr hn ho en kd x : Nat) (mt : Int32) (so : Int64) (el : Nat) (os : Nat → Nat) (sd ot ch : Nat) (hsd : sd ≤ 1) (hot : ot < 100) : Ct lq D t yX3_endBy cX3_endBy 5 none rm_X3_endBy [.ref h0, .int (nI sd), .int (nI ot), .long (lN ch)] [eX3 h0 hr hn ho (nI en) (nI kd) (nI x) mt so (lN el), eL t ho 11 (lf os)] 0 0 (fun rv rw_ => rv = none ∧ rw_ = [eX3 h0 hr hn ho (nI en) (nI kd) (nI x) mt (so - lN ch) (lN (if sd = 0 then el + ch else el)), eL t ho 11 (lf (if ot ≤ 10 then vup os ot (os ot + ch) else os))]) := by
  refine Ct.of (by decide) (Nat.le_of_ble_eq_true rfl) (fun k X hR => ?_)
  have X : zX D t k cX3_endBy 5 RX3 "endBy" rm_X3_endBy lq := X
  refine z_eq (lv2 := [(0, .ref h0), (1, .int (nI sd)), (2, .int (nI ot)), (3, .long (lN ch))]) rfl rfl rfl ?_
  refine z_aload_n X (pc := 0) 0 dX3_endBy_0 rfl ?_
  refine z_dup X (pc := 1) dX3_endBy_1 rfl ?_
  refine z_get X (pc := 2) 0 7 (.long so) tu_3 tw_114 dX3_endBy_2 rfl rfl (by decide) rfl rfl ?_
  refine z_lload_n X (pc := 5) 3 dX3_endBy_5 rfl ?_
  refine z_lsub X (pc := 6) (v := (so - (lN ch))) dX3_endBy_6 rfl ?_
  refine z_put X (pc := 7) 0 7 [eX3 h0 hr hn ho (nI en) (nI kd) (nI x) mt (so - (lN ch)) (lN el), eL t ho 11 (lf os)] tu_3 tyX3_ok nmX3 tw_114 dX3_endBy_7 rfl rfl (by decide) rfl rfl rfl rfl (Nat.le_of_ble_eq_true rfl) rfl ?_
  refine z_iload_n X (pc := 10) 1 dX3_endBy_10 rfl ?_
  refine z_if_neN X (pc := 11) 24 (by omega) dX3_endBy_11 (by decide) (fun c_11 => ?_) (fun c_11 => ?_)
  · skip
    refine z_iload_n X (pc := 24) 2 dX3_endBy_24 rfl ?_
    refine z_if_ltN X (pc := 25) 47 (by omega) dX3_endBy_25 (by decide) ?_
    refine z_iload_n X (pc := 28) 2 dX3_endBy_28 rfl ?_
    refine z_aload_n X (pc := 29) 0 dX3_endBy_29 rfl ?_
    refine z_get X (pc := 30) 0 2 (.ref ho) tu_3 tw_109 dX3_endBy_30 rfl rfl (by decide) rfl rfl ?_
    refine z_alen_l X (pc := 33) 1 dX3_endBy_33 rfl ?_
    refine z_icmp_geN X (pc := 34) 47 (by omega) (by omega) dX3_endBy_34 (by decide) (fun c_34 => ?_) (fun c_34 => ?_)
    · skip
      exact hR.v dX3_endBy_47 ⟨rfl, by rw [if_neg c_11, if_neg (by omega)]⟩
    · skip
      refine z_aload_n X (pc := 37) 0 dX3_endBy_37 rfl ?_
      refine z_get X (pc := 38) 0 2 (.ref ho) tu_3 tw_109 dX3_endBy_38 rfl rfl (by decide) rfl rfl ?_
      refine z_iload_n X (pc := 41) 2 dX3_endBy_41 rfl ?_
      refine z_dup2_11 X (pc := 42) dX3_endBy_42 rfl rfl ?_
      refine z_lald X (pc := 43) 1 ot (lN (os ot)) dX3_endBy_43 rfl rfl (Nat.le_of_ble_eq_true rfl) (by omega) rfl ?_
      refine z_lload_n X (pc := 44) 3 dX3_endBy_44 rfl ?_
      refine z_ladd X (pc := 45) (v := (lN (os ot + ch))) dX3_endBy_45 (lN_add (os ot) ch) ?_
      refine z_last X (pc := 46) 1 ot (lf (vup os ot (os ot + ch))) [eX3 h0 hr hn ho (nI en) (nI kd) (nI x) mt (so - (lN ch)) (lN el), eL t ho 11 (lf (vup os ot (os ot + ch)))] dX3_endBy_46 rfl rfl (Nat.le_of_ble_eq_true rfl) (by omega) (updL_lf _ _ _) rfl ?_
      exact hR.v dX3_endBy_47 ⟨rfl, by rw [if_neg c_11, if_pos (by omega)]⟩
  · skip
    refine z_aload_n X (pc := 14) 0 dX3_endBy_14 rfl ?_
    refine z_dup X (pc := 15) dX3_endBy_15 rfl ?_
    refine z_get X (pc := 16) 0 8 (.long (lN el)) tu_3 tw_115 dX3_endBy_16 rfl rfl (by decide) rfl rfl ?_
    refine z_lload_n X (pc := 19) 3 dX3_endBy_19 rfl ?_
    refine z_ladd X (pc := 20) (v := (lN (el + ch))) dX3_endBy_20 (lN_add el ch) ?_
    refine z_put X (pc := 21) 0 8 [eX3 h0 hr hn ho (nI en) (nI kd) (nI x) mt (so - (lN ch)) (lN (el + ch)), eL t ho 11 (lf os)] tu_3 tyX3_ok nmX3 tw_115 dX3_endBy_21 rfl rfl (by decide) rfl rfl rfl rfl (Nat.le_of_ble_eq_true rfl) rfl ?_
    refine z_iload_n X (pc := 24) 2 dX3_endBy_24 rfl ?_
    refine z_if_ltN X (pc := 25) 47 (by omega) dX3_endBy_25 (by decide) ?_
    refine z_iload_n X (pc := 28) 2 dX3_endBy_28 rfl ?_
    refine z_aload_n X (pc := 29) 0 dX3_endBy_29 rfl ?_
    refine z_get X (pc := 30) 0 2 (.ref ho) tu_3 tw_109 dX3_endBy_30 rfl rfl (by decide) rfl rfl ?_
    refine z_alen_l X (pc := 33) 1 dX3_endBy_33 rfl ?_
    refine z_icmp_geN X (pc := 34) 47 (by omega) (by omega) dX3_endBy_34 (by decide) (fun c_34 => ?_) (fun c_34 => ?_)
    · skip
      exact hR.v dX3_endBy_47 ⟨rfl, by rw [if_pos c_11, if_neg (by omega)]⟩
    · skip
      refine z_aload_n X (pc := 37) 0 dX3_endBy_37 rfl ?_
      refine z_get X (pc := 38) 0 2 (.ref ho) tu_3 tw_109 dX3_endBy_38 rfl rfl (by decide) rfl rfl ?_
      refine z_iload_n X (pc := 41) 2 dX3_endBy_41 rfl ?_
      refine z_dup2_11 X (pc := 42) dX3_endBy_42 rfl rfl ?_
      refine z_lald X (pc := 43) 1 ot (lN (os ot)) dX3_endBy_43 rfl rfl (Nat.le_of_ble_eq_true rfl) (by omega) rfl ?_
      refine z_lload_n X (pc := 44) 3 dX3_endBy_44 rfl ?_
      refine z_ladd X (pc := 45) (v := (lN (os ot + ch))) dX3_endBy_45 (lN_add (os ot) ch) ?_
      refine z_last X (pc := 46) 1 ot (lf (vup os ot (os ot + ch))) [eX3 h0 hr hn ho (nI en) (nI kd) (nI x) mt (so - (lN ch)) (lN (el + ch)), eL t ho 11 (lf (vup os ot (os ot + ch)))] dX3_endBy_46 rfl rfl (Nat.le_of_ble_eq_true rfl) (by omega) (updL_lf _ _ _) rfl ?_
      exact hR.v dX3_endBy_47 ⟨rfl, by rw [if_pos c_11, if_pos (by omega)]⟩

abbrev rm_X3_follow : Room := { frames := 1, cells := 0, slots := 0, locals := 25 }
set_option maxHeartbeats 4000000 in
set_option maxRecDepth 100000 in
theorem c_X3_follow (lq : Launch) (D : va_G) (t : zT) (h0 hr hn ho en kd x : Nat) (mt : Int32) (so : Int64) (el : Nat) (os g : Nat → Nat) (sd ow ot ch : Nat) (hen : en ≤ 1) (hsd : sd ≤ 1) (how : ow < 100) (hot : ot < 100) (hci : ¬ ow ≤ en → (if sd = 0 then ow - 1 else ot) * 3 + sd < 33) : Ct lq D t yX3_follow cX3_follow 7 none rm_X3_follow [.ref h0, .int (nI sd), .int (nI ow), .int (nI ot), .long (lN ch)] [eX3 h0 hr hn ho (nI en) (nI kd) (nI x) mt so (lN el), eL t hn 33 (lf g), eL t ho 11 (lf os)] 0 0 (fun rv rw_ => rv = none ∧ rw_ = [eX3 h0 hr hn ho (nI en) (nI kd) (nI x) mt (if ow ≤ en then so - lN ch else so) (lN (if ow ≤ en then (if sd = 0 then el + ch else el) else el)), eL t hn 33 (lf (if ow ≤ en then g else vup g ((if sd = 0 then ow - 1 else ot) * 3 + sd) (g ((if sd = 0 then ow - 1 else ot) * 3 + sd) + ch))), eL t ho 11 (lf (if ow ≤ en then (if ot ≤ 10 then vup os ot (os ot + ch) else os) else os))]) := by
  refine Ct.of (by decide) (Nat.le_of_ble_eq_true rfl) (fun k X hR => ?_)
  have X : zX D t k cX3_follow 7 RX3 "follow" rm_X3_follow lq := X
  refine z_eq (lv2 := [(0, .ref h0), (1, .int (nI sd)), (2, .int (nI ow)), (3, .int (nI ot)), (4, .long (lN ch))]) rfl rfl rfl ?_
  rcases (show en = 0 ∨ en = 1 by omega) with rfl | rfl
  · skip
    refine z_aload_n X (pc := 0) 0 dX3_follow_0 rfl ?_
    refine z_get X (pc := 1) 0 3 (.int (nI 0)) tu_3 tw_110 dX3_follow_1 rfl rfl (by decide) rfl rfl ?_
    refine z_iconst X (pc := 4) (nI 1) dX3_follow_4 (by decide) ?_
    refine z_icmp_neN X (pc := 5) 12 (by omega) (by omega) dX3_follow_5 (by decide) (fun c_5 => ?_) (fun c_5 => absurd c_5 (by decide))
    refine z_iconst X (pc := 12) (nI 0) dX3_follow_12 (by decide) ?_
    refine z_istore X (pc := 13) (i := 6) [(6, .int (nI 0)), (0, .ref h0), (1, .int (nI sd)), (2, .int (nI ow)), (3, .int (nI ot)), (4, .long (lN ch))] dX3_follow_13 trivial (by decide) rfl ?_
    refine z_iload_n X (pc := 15) 3 dX3_follow_15 rfl ?_
    refine z_iload X (pc := 16) 0 dX3_follow_16 rfl ?_
    refine z_icmp_gtN X (pc := 18) 32 (by omega) (by omega) dX3_follow_18 (by decide) (fun c_18 => ?_) (fun c_18 => ?_)
    · skip
      refine z_aload_n X (pc := 32) 1 dX3_follow_32 rfl ?_
      refine z_get X (pc := 33) 0 1 (.ref hn) tu_3 tw_108 dX3_follow_33 rfl rfl (by decide) rfl rfl ?_
      refine z_iload_n X (pc := 36) 2 dX3_follow_36 rfl ?_
      refine z_if_neN X (pc := 37) 46 (by omega) dX3_follow_37 (by decide) (fun c_37 => ?_) (fun c_37 => ?_)
      · skip
        refine z_iload_n X (pc := 46) 4 dX3_follow_46 rfl ?_
        refine z_iload_n X (pc := 47) 2 dX3_follow_47 rfl ?_
        refine z_lload X (pc := 48) 5 dX3_follow_48 rfl ?_
        refine zc_S (as := [.ref hn, .int (nI ot), .int (nI sd), .long (lN ch)]) X (pc := 50) (c_X3_addTo lq D t hn 33 ot sd ch g (by decide) (by have h9 := hci (by omega); split at h9 <;> omega)) tw_386 tw_388 tw_6 tw_387 [1] rfl rfl dX3_follow_50 rfl zdX3_addTo ⟨rfl, rfl, Nat.le_of_ble_eq_true rfl, Nat.le_of_ble_eq_true rfl⟩ (Nat.le_of_ble_eq_true rfl) (Nat.zero_le _) (Nat.zero_le _) (fun v_1 w_2 hp_3 => ?_)
        obtain ⟨rfl, rfl⟩ := hp_3
        refine ⟨rfl, ?_⟩
        refine z_eq (ws2 := [eX3 h0 hr hn ho (nI 0) (nI kd) (nI x) mt so (lN el), eL t hn 33 (lf (vup g (ot * 3 + sd) (g (ot * 3 + sd) + ch))), eL t ho 11 (lf os)]) (st2 := []) rfl rfl rfl ?_
        exact hR.v dX3_follow_53 ⟨rfl, by simp only [if_neg (show ¬ ow ≤ 0 by omega), if_neg c_37]⟩
      · skip
        refine z_iload_n X (pc := 40) 3 dX3_follow_40 rfl ?_
        refine z_iconst X (pc := 41) (nI 1) dX3_follow_41 (by decide) ?_
        refine z_isub X (pc := 42) (v := (nI (ow - 1))) dX3_follow_42 (pk_sub (by omega)) ?_
        refine z_goto X (pc := 43) 47 dX3_follow_43 (by decide) ?_
        refine z_iload_n X (pc := 47) 2 dX3_follow_47 rfl ?_
        refine z_lload X (pc := 48) 5 dX3_follow_48 rfl ?_
        refine zc_S (as := [.ref hn, .int (nI (ow - 1)), .int (nI sd), .long (lN ch)]) X (pc := 50) (c_X3_addTo lq D t hn 33 (ow - 1) sd ch g (by decide) (by have h9 := hci (by omega); split at h9 <;> omega)) tw_386 tw_388 tw_6 tw_387 [1] rfl rfl dX3_follow_50 rfl zdX3_addTo ⟨rfl, rfl, Nat.le_of_ble_eq_true rfl, Nat.le_of_ble_eq_true rfl⟩ (Nat.le_of_ble_eq_true rfl) (Nat.zero_le _) (Nat.zero_le _) (fun v_4 w_5 hp_6 => ?_)
        obtain ⟨rfl, rfl⟩ := hp_6
        refine ⟨rfl, ?_⟩
        refine z_eq (ws2 := [eX3 h0 hr hn ho (nI 0) (nI kd) (nI x) mt so (lN el), eL t hn 33 (lf (vup g ((ow - 1) * 3 + sd) (g ((ow - 1) * 3 + sd) + ch))), eL t ho 11 (lf os)]) (st2 := []) rfl rfl rfl ?_
        exact hR.v dX3_follow_53 ⟨rfl, by simp only [if_neg (show ¬ ow ≤ 0 by omega), if_pos c_37]⟩
    · skip
      refine z_aload_n X (pc := 21) 1 dX3_follow_21 rfl ?_
      refine z_iload_n X (pc := 22) 2 dX3_follow_22 rfl ?_
      refine z_iload_n X (pc := 23) 4 dX3_follow_23 rfl ?_
      refine z_lload X (pc := 24) 5 dX3_follow_24 rfl ?_
      refine zc_V (as := [.int (nI sd), .int (nI ot), .long (lN ch)]) X (pc := 26) (c_X3_endBy lq D t h0 hr hn ho 0 kd x mt so el os sd ot ch (by omega) (by omega)) tw_382 tw_385 tw_6 tw_384 tw_1014 0 3 rfl rfl [0, 2] rfl rfl dX3_follow_26 rfl zdX3_endBy ⟨rfl, rfl, Nat.le_of_ble_eq_true rfl, Nat.le_of_ble_eq_true rfl⟩ (Nat.le_of_ble_eq_true rfl) (Nat.zero_le _) (Nat.zero_le _) (fun v_7 w_8 hp_9 => ?_)
      obtain ⟨rfl, rfl⟩ := hp_9
      refine ⟨rfl, ?_⟩
      refine z_eq (ws2 := [eX3 h0 hr hn ho (nI 0) (nI kd) (nI x) mt (so - lN ch) (lN (if sd = 0 then el + ch else el)), eL t hn 33 (lf g), eL t ho 11 (lf (if ot ≤ 10 then vup os ot (os ot + ch) else os))]) (st2 := []) rfl rfl rfl ?_
      refine z_goto X (pc := 29) 53 dX3_follow_29 (by decide) ?_
      exact hR.v dX3_follow_53 ⟨rfl, by simp only [if_pos (show ow ≤ 0 by omega)]⟩
  · skip
    refine z_aload_n X (pc := 0) 0 dX3_follow_0 rfl ?_
    refine z_get X (pc := 1) 0 3 (.int (nI 1)) tu_3 tw_110 dX3_follow_1 rfl rfl (by decide) rfl rfl ?_
    refine z_iconst X (pc := 4) (nI 1) dX3_follow_4 (by decide) ?_
    refine z_icmp_neN X (pc := 5) 12 (by omega) (by omega) dX3_follow_5 (by decide) (fun c_5 => absurd c_5 (by decide)) (fun c_5 => ?_)
    refine z_iconst X (pc := 8) (nI 1) dX3_follow_8 (by decide) ?_
    refine z_goto X (pc := 9) 13 dX3_follow_9 (by decide) ?_
    refine z_istore X (pc := 13) (i := 6) [(6, .int (nI 1)), (0, .ref h0), (1, .int (nI sd)), (2, .int (nI ow)), (3, .int (nI ot)), (4, .long (lN ch))] dX3_follow_13 trivial (by decide) rfl ?_
    refine z_iload_n X (pc := 15) 3 dX3_follow_15 rfl ?_
    refine z_iload X (pc := 16) 0 dX3_follow_16 rfl ?_
    refine z_icmp_gtN X (pc := 18) 32 (by omega) (by omega) dX3_follow_18 (by decide) (fun c_18 => ?_) (fun c_18 => ?_)
    · skip
      refine z_aload_n X (pc := 32) 1 dX3_follow_32 rfl ?_
      refine z_get X (pc := 33) 0 1 (.ref hn) tu_3 tw_108 dX3_follow_33 rfl rfl (by decide) rfl rfl ?_
      refine z_iload_n X (pc := 36) 2 dX3_follow_36 rfl ?_
      refine z_if_neN X (pc := 37) 46 (by omega) dX3_follow_37 (by decide) (fun c_37 => ?_) (fun c_37 => ?_)
      · skip
        refine z_iload_n X (pc := 46) 4 dX3_follow_46 rfl ?_
        refine z_iload_n X (pc := 47) 2 dX3_follow_47 rfl ?_
        refine z_lload X (pc := 48) 5 dX3_follow_48 rfl ?_
        refine zc_S (as := [.ref hn, .int (nI ot), .int (nI sd), .long (lN ch)]) X (pc := 50) (c_X3_addTo lq D t hn 33 ot sd ch g (by decide) (by have h9 := hci (by omega); split at h9 <;> omega)) tw_386 tw_388 tw_6 tw_387 [1] rfl rfl dX3_follow_50 rfl zdX3_addTo ⟨rfl, rfl, Nat.le_of_ble_eq_true rfl, Nat.le_of_ble_eq_true rfl⟩ (Nat.le_of_ble_eq_true rfl) (Nat.zero_le _) (Nat.zero_le _) (fun v_10 w_11 hp_12 => ?_)
        obtain ⟨rfl, rfl⟩ := hp_12
        refine ⟨rfl, ?_⟩
        refine z_eq (ws2 := [eX3 h0 hr hn ho (nI 1) (nI kd) (nI x) mt so (lN el), eL t hn 33 (lf (vup g (ot * 3 + sd) (g (ot * 3 + sd) + ch))), eL t ho 11 (lf os)]) (st2 := []) rfl rfl rfl ?_
        exact hR.v dX3_follow_53 ⟨rfl, by simp only [if_neg (show ¬ ow ≤ 1 by omega), if_neg c_37]⟩
      · skip
        refine z_iload_n X (pc := 40) 3 dX3_follow_40 rfl ?_
        refine z_iconst X (pc := 41) (nI 1) dX3_follow_41 (by decide) ?_
        refine z_isub X (pc := 42) (v := (nI (ow - 1))) dX3_follow_42 (pk_sub (by omega)) ?_
        refine z_goto X (pc := 43) 47 dX3_follow_43 (by decide) ?_
        refine z_iload_n X (pc := 47) 2 dX3_follow_47 rfl ?_
        refine z_lload X (pc := 48) 5 dX3_follow_48 rfl ?_
        refine zc_S (as := [.ref hn, .int (nI (ow - 1)), .int (nI sd), .long (lN ch)]) X (pc := 50) (c_X3_addTo lq D t hn 33 (ow - 1) sd ch g (by decide) (by have h9 := hci (by omega); split at h9 <;> omega)) tw_386 tw_388 tw_6 tw_387 [1] rfl rfl dX3_follow_50 rfl zdX3_addTo ⟨rfl, rfl, Nat.le_of_ble_eq_true rfl, Nat.le_of_ble_eq_true rfl⟩ (Nat.le_of_ble_eq_true rfl) (Nat.zero_le _) (Nat.zero_le _) (fun v_13 w_14 hp_15 => ?_)
        obtain ⟨rfl, rfl⟩ := hp_15
        refine ⟨rfl, ?_⟩
        refine z_eq (ws2 := [eX3 h0 hr hn ho (nI 1) (nI kd) (nI x) mt so (lN el), eL t hn 33 (lf (vup g ((ow - 1) * 3 + sd) (g ((ow - 1) * 3 + sd) + ch))), eL t ho 11 (lf os)]) (st2 := []) rfl rfl rfl ?_
        exact hR.v dX3_follow_53 ⟨rfl, by simp only [if_neg (show ¬ ow ≤ 1 by omega), if_pos c_37]⟩
    · skip
      refine z_aload_n X (pc := 21) 1 dX3_follow_21 rfl ?_
      refine z_iload_n X (pc := 22) 2 dX3_follow_22 rfl ?_
      refine z_iload_n X (pc := 23) 4 dX3_follow_23 rfl ?_
      refine z_lload X (pc := 24) 5 dX3_follow_24 rfl ?_
      refine zc_V (as := [.int (nI sd), .int (nI ot), .long (lN ch)]) X (pc := 26) (c_X3_endBy lq D t h0 hr hn ho 1 kd x mt so el os sd ot ch (by omega) (by omega)) tw_382 tw_385 tw_6 tw_384 tw_1014 0 3 rfl rfl [0, 2] rfl rfl dX3_follow_26 rfl zdX3_endBy ⟨rfl, rfl, Nat.le_of_ble_eq_true rfl, Nat.le_of_ble_eq_true rfl⟩ (Nat.le_of_ble_eq_true rfl) (Nat.zero_le _) (Nat.zero_le _) (fun v_16 w_17 hp_18 => ?_)
      obtain ⟨rfl, rfl⟩ := hp_18
      refine ⟨rfl, ?_⟩
      refine z_eq (ws2 := [eX3 h0 hr hn ho (nI 1) (nI kd) (nI x) mt (so - lN ch) (lN (if sd = 0 then el + ch else el)), eL t hn 33 (lf g), eL t ho 11 (lf (if ot ≤ 10 then vup os ot (os ot + ch) else os))]) (st2 := []) rfl rfl rfl ?_
      refine z_goto X (pc := 29) 53 dX3_follow_29 (by decide) ?_
      exact hR.v dX3_follow_53 ⟨rfl, by simp only [if_pos (show ow ≤ 1 by omega)]⟩

abbrev rm_X3_advanceOnce : Room := { frames := 2, cells := 0, slots := 0, locals := 51 }
set_option maxHeartbeats 4000000 in
set_option maxRecDepth 100000 in
theorem c_X3_advanceOnce (lq : Launch) (D : va_G) (t : zT) (h0 hr hn ho en kd x m P : Nat) (w os : Nat → Nat) (e el : Nat) (f : Nat → Int64) (hen : en ≤ 1) (hkd : kd ≤ 3) (hx : x ≤ 4) (hm : m ≤ 20) (hP : 0 < P) (hsup : ∀ l la, l ≤ 10 → la < 3 → w (l * 3 + la) ≠ 0 → l ≤ m) (hbd : ∀ c, c < 33 → w c * (4 * P) ≤ 4398046511104) : Ct lq D t yX3_advanceOnce cX3_advanceOnce 9 none rm_X3_advanceOnce [.ref h0] [eX3 h0 hr hn ho (nI en) (nI kd) (nI x) (nI m) (lN 4398046511104 - lN (e)) (lN el), eL t hr 33 (lf (fun j => w j * (4 * P))), eL t hn 33 f, eL t ho 11 (lf os)] 0 0 (fun rv rw_ => rv = none ∧ rw_ = [eX3 h0 hn hr ho (nI en) (nI kd) (nI x) (nI m - nI 1) (lN 4398046511104 - lN ((cou kd x en P m w 11 (((fun _ => 0), os, e, el) : wA)).2.2.1)) (lN ((cou kd x en P m w 11 (((fun _ => 0), os, e, el) : wA)).2.2.2)), eL t hn 33 (lf (fun j => (cou kd x en P m w 11 (((fun _ => 0), os, e, el) : wA)).1 j * P)), eL t hr 33 (lf (fun j => w j * (4 * P))), eL t ho 11 (lf ((cou kd x en P m w 11 (((fun _ => 0), os, e, el) : wA)).2.1))]) := by
  refine Ct.of (by decide) (Nat.le_of_ble_eq_true rfl) (fun k X hR => ?_)
  have X : zX D t k cX3_advanceOnce 9 RX3 "advanceOnce" rm_X3_advanceOnce lq := X
  refine z_eq (lv2 := [(0, .ref h0)]) rfl rfl rfl ?_
  refine z_aload_n X (pc := 0) 0 dX3_advanceOnce_0 rfl ?_
  refine z_get X (pc := 1) 0 1 (.ref hn) tu_3 tw_108 dX3_advanceOnce_1 rfl rfl (by decide) rfl rfl ?_
  refine zc_S (as := [.ref hn]) X (pc := 4) (c_X3_wipeRow lq D t hn 33 f (by omega)) tw_377 tw_379 tw_6 tw_378 [2] rfl rfl dX3_advanceOnce_4 rfl zdX3_wipeRow ⟨rfl, rfl, Nat.le_of_ble_eq_true rfl, Nat.le_of_ble_eq_true rfl⟩ (Nat.le_of_ble_eq_true rfl) (Nat.zero_le _) (Nat.zero_le _) (fun v_1 w_2 hp_3 => ?_)
  obtain ⟨rfl, rfl⟩ := hp_3
  refine ⟨rfl, ?_⟩
  refine z_eq (ws2 := [eX3 h0 hr hn ho (nI en) (nI kd) (nI x) (nI m) (lN 4398046511104 - lN (e)) (lN el), eL t hr 33 (lf (fun j => w j * (4 * P))), eL t hn 33 (lf (fun _ => 0)), eL t ho 11 (lf os)]) (st2 := []) rfl rfl rfl ?_
  refine z_iconst X (pc := 7) (nI 0) dX3_advanceOnce_7 (by decide) ?_
  refine z_istore_n X (pc := 8) (i := 1) [(1, .int (nI 0)), (0, .ref h0)] dX3_advanceOnce_8 rfl (by decide) rfl ?_
  have loop_9 : ∀ (fuel_9 : Nat) (l : Nat) (A : wA), 11 < l + fuel_9 → (l ≤ 11) → (A = cou kd x en P m w l (((fun _ => 0), os, e, el) : wA)) → Z D k (0, 0) [eX3 h0 hr hn ho (nI en) (nI kd) (nI x) (nI m) (lN 4398046511104 - lN (A.2.2.1)) (lN A.2.2.2), eL t hr 33 (lf (fun j => w j * (4 * P))), eL t hn 33 (lf (fun j => A.1 j * P)), eL t ho 11 (lf A.2.1)] 9 [(0, .ref h0), (1, .int (nI l))] [] := by
    intro fuel_9
    induction fuel_9 with
    | zero =>
      intro l A hfuel_9 hl hA
      exfalso; omega
    | succ fuel_9 ih_9 =>
      intro l A hfuel_9 hl hA
      refine z_iload_n X (pc := 9) 1 dX3_advanceOnce_9 rfl ?_
      refine z_bipush X (pc := 10) (nI 10) dX3_advanceOnce_10 (by decide) ?_
      refine z_icmp_gtN X (pc := 12) 113 (by omega) (by omega) dX3_advanceOnce_12 (by decide) (fun c_12 => ?_) (fun c_12 => ?_)
      · skip
        have hA : A = cou kd x en P m w 11 (((fun _ => 0), os, e, el) : wA) := by rw [hA, show l = 11 by omega]
        refine z_aload_n X (pc := 113) 0 dX3_advanceOnce_113 rfl ?_
        refine z_dup X (pc := 114) dX3_advanceOnce_114 rfl ?_
        refine z_get X (pc := 115) 0 6 (.int (nI m)) tu_3 tw_113 dX3_advanceOnce_115 rfl rfl (by decide) rfl rfl ?_
        refine z_iconst X (pc := 118) (nI 1) dX3_advanceOnce_118 (by decide) ?_
        refine z_isub X (pc := 119) (v := ((nI m) - (nI 1))) dX3_advanceOnce_119 rfl ?_
        refine z_put X (pc := 120) 0 6 [eX3 h0 hr hn ho (nI en) (nI kd) (nI x) ((nI m) - (nI 1)) (lN 4398046511104 - lN (A.2.2.1)) (lN A.2.2.2), eL t hr 33 (lf (fun j => w j * (4 * P))), eL t hn 33 (lf (fun j => A.1 j * P)), eL t ho 11 (lf A.2.1)] tu_3 tyX3_ok nmX3 tw_113 dX3_advanceOnce_120 rfl rfl (by decide) rfl rfl rfl rfl (Nat.le_of_ble_eq_true rfl) rfl ?_
        refine z_aload_n X (pc := 123) 0 dX3_advanceOnce_123 rfl ?_
        refine z_get X (pc := 124) 0 0 (.ref hr) tu_3 tw_107 dX3_advanceOnce_124 rfl rfl (by decide) rfl rfl ?_
        refine z_astore_n X (pc := 127) (i := 1) [(1, .ref hr), (0, .ref h0)] dX3_advanceOnce_127 rfl (by decide) rfl ?_
        refine z_aload_n X (pc := 128) 1 dX3_advanceOnce_128 rfl ?_
        refine z_aload_n X (pc := 129) 1 dX3_advanceOnce_129 rfl ?_
        refine z_get X (pc := 130) 0 1 (.ref hn) tu_3 tw_108 dX3_advanceOnce_130 rfl rfl (by decide) rfl rfl ?_
        refine z_put X (pc := 133) 0 0 [eX3 h0 hn hn ho (nI en) (nI kd) (nI x) ((nI m) - (nI 1)) (lN 4398046511104 - lN (A.2.2.1)) (lN A.2.2.2), eL t hr 33 (lf (fun j => w j * (4 * P))), eL t hn 33 (lf (fun j => A.1 j * P)), eL t ho 11 (lf A.2.1)] tu_3 tyX3_ok nmX3 tw_107 dX3_advanceOnce_133 rfl rfl (by decide) rfl rfl rfl rfl (Nat.le_of_ble_eq_true rfl) rfl ?_
        refine z_aload_n X (pc := 136) 1 dX3_advanceOnce_136 rfl ?_
        refine z_aload_n X (pc := 137) 0 dX3_advanceOnce_137 rfl ?_
        refine z_put X (pc := 138) 0 1 [eX3 h0 hn hr ho (nI en) (nI kd) (nI x) ((nI m) - (nI 1)) (lN 4398046511104 - lN (A.2.2.1)) (lN A.2.2.2), eL t hr 33 (lf (fun j => w j * (4 * P))), eL t hn 33 (lf (fun j => A.1 j * P)), eL t ho 11 (lf A.2.1)] tu_3 tyX3_ok nmX3 tw_108 dX3_advanceOnce_138 rfl rfl (by decide) rfl rfl rfl rfl (Nat.le_of_ble_eq_true rfl) rfl ?_
        refine z_perm [0, 2, 1, 3] [eX3 h0 hn hr ho (nI en) (nI kd) (nI x) ((nI m) - (nI 1)) (lN 4398046511104 - lN (A.2.2.1)) (lN A.2.2.2), eL t hn 33 (lf (fun j => A.1 j * P)), eL t hr 33 (lf (fun j => w j * (4 * P))), eL t ho 11 (lf A.2.1)] rfl rfl ?_
        exact hR.v dX3_advanceOnce_141 ⟨rfl, by rw [hA]⟩
      · skip
        refine z_iconst X (pc := 15) (nI 0) dX3_advanceOnce_15 (by decide) ?_
        refine z_istore_n X (pc := 16) (i := 2) [(2, .int (nI 0)), (0, .ref h0), (1, .int (nI l))] dX3_advanceOnce_16 rfl (by decide) rfl ?_
        have loop_17 : ∀ (fuel_17 : Nat) (la : Nat) (B : wA), 3 < la + fuel_17 → (la ≤ 3) → (B = cin kd x en P m w l la (cou kd x en P m w l (((fun _ => 0), os, e, el) : wA))) → Z D k (0, 0) [eX3 h0 hr hn ho (nI en) (nI kd) (nI x) (nI m) (lN 4398046511104 - lN (B.2.2.1)) (lN B.2.2.2), eL t hr 33 (lf (fun j => w j * (4 * P))), eL t hn 33 (lf (fun j => B.1 j * P)), eL t ho 11 (lf B.2.1)] 17 [(0, .ref h0), (1, .int (nI l)), (2, .int (nI la))] [] := by
          intro fuel_17
          induction fuel_17 with
          | zero =>
            intro la B hfuel_17 hla hB
            exfalso; omega
          | succ fuel_17 ih_17 =>
            intro la B hfuel_17 hla hB
            refine z_iload_n X (pc := 17) 2 dX3_advanceOnce_17 rfl ?_
            refine z_iconst X (pc := 18) (nI 3) dX3_advanceOnce_18 (by decide) ?_
            refine z_icmp_geN X (pc := 19) 107 (by omega) (by omega) dX3_advanceOnce_19 (by decide) (fun c_19 => ?_) (fun c_19 => ?_)
            · skip
              refine z_iinc X (pc := 107) (i := 1) 1 (nI (l + 1)) [(1, .int (nI (l + 1))), (0, .ref h0), (2, .int (nI la))] dX3_advanceOnce_107 rfl (nI_incc l 1) (by decide) rfl ?_
              refine z_goto X (pc := 110) 9 dX3_advanceOnce_110 (by decide) ?_
              refine z_lv [1, 0] (lv2 := [(0, .ref h0), (1, .int (nI (l + 1)))]) rfl ?_
              exact ih_9 (l + 1) B (by omega) (by omega) (by rw [hB, show la = 3 by omega]; rfl)
            · skip
              refine z_aload_n X (pc := 22) 0 dX3_advanceOnce_22 rfl ?_
              refine z_get X (pc := 23) 0 0 (.ref hr) tu_3 tw_107 dX3_advanceOnce_23 rfl rfl (by decide) rfl rfl ?_
              refine z_iload_n X (pc := 26) 1 dX3_advanceOnce_26 rfl ?_
              refine z_iconst X (pc := 27) (nI 3) dX3_advanceOnce_27 (by decide) ?_
              refine z_imul X (pc := 28) (v := (nI (l * 3))) dX3_advanceOnce_28 (pk_mul _ _) ?_
              refine z_iload_n X (pc := 29) 2 dX3_advanceOnce_29 rfl ?_
              refine z_iadd X (pc := 30) (v := (nI (l * 3 + la))) dX3_advanceOnce_30 (nI_add (l * 3) la) ?_
              refine z_lald X (pc := 31) 1 (l * 3 + la) (lN (w (l * 3 + la) * (4 * P))) dX3_advanceOnce_31 rfl rfl (Nat.le_of_ble_eq_true rfl) (by omega) rfl ?_
              refine z_lstore_n X (pc := 32) (i := 3) [(3, .long (lN (w (l * 3 + la) * (4 * P)))), (0, .ref h0), (1, .int (nI l)), (2, .int (nI la))] dX3_advanceOnce_32 rfl (by decide) rfl ?_
              refine z_lload_n X (pc := 33) 0 dX3_advanceOnce_33 rfl ?_
              refine z_lconst X (pc := 34) (lN 0) dX3_advanceOnce_34 (by decide) ?_
              refine z_lcmp_leN X (pc := 35) 101 (by have := hbd (l * 3 + la) (by omega); omega) (by decide) dX3_advanceOnce_35 dX3_advanceOnce_36 (by decide) (fun c_35 => ?_) (fun c_35 => ?_)
              · skip
                have hw : w (l * 3 + la) = 0 := mz hP c_35
                refine z_iinc X (pc := 101) (i := 2) 3 (nI (la + 1)) [(2, .int (nI (la + 1))), (3, .long (lN (w (l * 3 + la) * (4 * P)))), (0, .ref h0), (1, .int (nI l))] dX3_advanceOnce_101 rfl (nI_incc la 1) (by decide) rfl ?_
                refine z_goto X (pc := 104) 17 dX3_advanceOnce_104 (by decide) ?_
                refine z_lv [2, 3, 0] (lv2 := [(0, .ref h0), (1, .int (nI l)), (2, .int (nI (la + 1)))]) rfl ?_
                exact ih_17 (la + 1) B (by omega) (by omega) (by rw [hB]; simp only [cin, cel, if_pos hw])
              · skip
                have hw : ¬ w (l * 3 + la) = 0 := fun z => c_35 (by rw [z]; omega)
                have hlm : l ≤ m := hsup l la (by omega) (by omega) hw
                refine z_aload_n X (pc := 39) 1 dX3_advanceOnce_39 rfl ?_
                refine z_get X (pc := 40) 0 6 (.int (nI m)) tu_3 tw_113 dX3_advanceOnce_40 rfl rfl (by decide) rfl rfl ?_
                refine z_iload_n X (pc := 43) 2 dX3_advanceOnce_43 rfl ?_
                refine z_isub X (pc := 44) (v := (nI (m - l))) dX3_advanceOnce_44 (pk_sub (by omega)) ?_
                refine z_istore X (pc := 45) (i := 5) [(5, .int (nI (m - l))), (3, .long (lN (w (l * 3 + la) * (4 * P)))), (0, .ref h0), (1, .int (nI l)), (2, .int (nI la))] dX3_advanceOnce_45 trivial (by decide) rfl ?_
                refine z_aload_n X (pc := 47) 2 dX3_advanceOnce_47 rfl ?_
                refine z_get X (pc := 48) 0 4 (.int (nI kd)) tu_3 tw_111 dX3_advanceOnce_48 rfl rfl (by decide) rfl rfl ?_
                refine z_aload_n X (pc := 51) 2 dX3_advanceOnce_51 rfl ?_
                refine z_get X (pc := 52) 0 5 (.int (nI x)) tu_3 tw_112 dX3_advanceOnce_52 rfl rfl (by decide) rfl rfl ?_
                refine z_iload_n X (pc := 55) 3 dX3_advanceOnce_55 rfl ?_
                refine z_iload X (pc := 56) 0 dX3_advanceOnce_56 rfl ?_
                refine z_iload_n X (pc := 58) 4 dX3_advanceOnce_58 rfl ?_
                refine zc_SN (as := [.int (nI kd), .int (nI x), .int (nI l), .int (nI (m - l)), .int (nI la)]) X (pc := 59) (c_X4_handToLeft lq D t kd x l (m - l) la (by omega) (by omega) (by omega) (by omega) (by omega)) tw_397 tw_298 tw_1 tw_297 [] rfl rfl dX3_advanceOnce_59 rfl zdX4_handToLeft ⟨rfl, rfl, Nat.le_of_ble_eq_true rfl, Nat.le_of_ble_eq_true rfl⟩ (Nat.le_of_ble_eq_true rfl) (Nat.zero_le _) (Nat.zero_le _) (fun v_4 w_5 hp_6 => ?_)
                obtain ⟨rfl, rfl⟩ := hp_6
                refine ⟨rfl, ?_⟩
                refine z_eq (ws2 := [eX3 h0 hr hn ho (nI en) (nI kd) (nI x) (nI m) (lN 4398046511104 - lN (B.2.2.1)) (lN B.2.2.2), eL t hr 33 (lf (fun j => w j * (4 * P))), eL t hn 33 (lf (fun j => B.1 j * P)), eL t ho 11 (lf B.2.1)]) (st2 := [.int (nI (htl kd x l (m - l) la))]) rfl rfl rfl ?_
                refine z_istore X (pc := 62) (i := 6) [(6, .int (nI (htl kd x l (m - l) la))), (5, .int (nI (m - l))), (3, .long (lN (w (l * 3 + la) * (4 * P)))), (0, .ref h0), (1, .int (nI l)), (2, .int (nI la))] dX3_advanceOnce_62 trivial (by decide) rfl ?_
                refine z_lload_n X (pc := 64) 2 dX3_advanceOnce_64 rfl ?_
                refine z_ldc2 X (pc := 65) (4) dX3_advanceOnce_65 tw_398 ?_
                refine z_topl (lN 4) rfl ?_
                refine z_ldiv X (pc := 68) (v := (lN ((w (l * 3 + la) * (4 * P)) / 4))) dX3_advanceOnce_68 (by decide) (pk_lDiv (by have := hbd (l * 3 + la) (by omega); omega) (by omega) (by omega)) ?_
                refine z_topl (lN (w (l * 3 + la) * P)) (by rw [md4]) ?_
                refine z_lstore X (pc := 69) (i := 7) [(7, .long (lN (w (l * 3 + la) * P))), (6, .int (nI (htl kd x l (m - l) la))), (5, .int (nI (m - l))), (3, .long (lN (w (l * 3 + la) * (4 * P)))), (0, .ref h0), (1, .int (nI l)), (2, .int (nI la))] dX3_advanceOnce_69 trivial (by decide) rfl ?_
                refine z_aload_n X (pc := 71) 4 dX3_advanceOnce_71 rfl ?_
                refine z_iconst X (pc := 72) (nI 0) dX3_advanceOnce_72 (by decide) ?_
                refine z_iload_n X (pc := 73) 5 dX3_advanceOnce_73 rfl ?_
                refine z_iload X (pc := 74) 2 dX3_advanceOnce_74 rfl ?_
                refine z_lload X (pc := 76) 0 dX3_advanceOnce_76 rfl ?_
                refine z_iload X (pc := 78) 1 dX3_advanceOnce_78 rfl ?_
                refine z_i2l X (pc := 80) (v := (lN (htl kd x l (m - l) la))) dX3_advanceOnce_80 (nI_l (by have := @htl_le kd x l (m - l) la hx; omega)) ?_
                refine z_lmul X (pc := 81) (v := (lN ((w (l * 3 + la) * P) * (htl kd x l (m - l) la)))) dX3_advanceOnce_81 (lN_mul _ _) ?_
                refine z_topl (lN (w (l * 3 + la) * htl kd x l (m - l) la * P)) (by rw [Nat.mul_right_comm]) ?_
                refine zc_V (as := [.int (nI 0), .int (nI l), .int (nI (m - l)), .long (lN (w (l * 3 + la) * htl kd x l (m - l) la * P))]) X (pc := 82) (c_X3_follow lq D t h0 hr hn ho en kd x (nI m) (lN 4398046511104 - lN (B.2.2.1)) B.2.2.2 B.2.1 (fun j => B.1 j * P) 0 l (m - l) (w (l * 3 + la) * htl kd x l (m - l) la * P) (by omega) (by omega) (by omega) (by omega) (fun h9 => by simp only [if_true]; omega)) tw_399 tw_402 tw_6 tw_401 tw_1016 0 3 rfl rfl [0, 2, 3] rfl rfl dX3_advanceOnce_82 rfl zdX3_follow ⟨rfl, rfl, Nat.le_of_ble_eq_true rfl, Nat.le_of_ble_eq_true rfl⟩ (Nat.le_of_ble_eq_true rfl) (Nat.zero_le _) (Nat.zero_le _) (fun v_7 w_8 hp_9 => ?_)
                obtain ⟨rfl, rfl⟩ := hp_9
                refine ⟨rfl, ?_⟩
                refine z_eq (ws2 := [eX3 h0 hr hn ho (nI en) (nI kd) (nI x) (nI m) (if l ≤ en then (lN 4398046511104 - lN (B.2.2.1)) - lN (w (l * 3 + la) * htl kd x l (m - l) la * P) else (lN 4398046511104 - lN (B.2.2.1))) (lN (if l ≤ en then (if 0 = 0 then B.2.2.2 + (w (l * 3 + la) * htl kd x l (m - l) la * P) else B.2.2.2) else B.2.2.2)), eL t hr 33 (lf (fun j => w j * (4 * P))), eL t hn 33 (lf (if l ≤ en then (fun j => B.1 j * P) else vup (fun j => B.1 j * P) ((if 0 = 0 then l - 1 else (m - l)) * 3 + 0) ((fun j => B.1 j * P) ((if 0 = 0 then l - 1 else (m - l)) * 3 + 0) + (w (l * 3 + la) * htl kd x l (m - l) la * P)))), eL t ho 11 (lf (if l ≤ en then (if (m - l) ≤ 10 then vup B.2.1 (m - l) (B.2.1 (m - l) + (w (l * 3 + la) * htl kd x l (m - l) la * P)) else B.2.1) else B.2.1))]) (st2 := []) rfl rfl rfl ?_
                obtain ⟨B1, hB1⟩ : ∃ BB : wA, BB = fol en P 0 l (m - l) (w (l * 3 + la) * htl kd x l (m - l) la) B := ⟨_, rfl⟩
                refine z_eq (ws2 := [eX3 h0 hr hn ho (nI en) (nI kd) (nI x) (nI m) (lN 4398046511104 - lN (B1.2.2.1)) (lN B1.2.2.2), eL t hr 33 (lf (fun j => w j * (4 * P))), eL t hn 33 (lf (fun j => B1.1 j * P)), eL t ho 11 (lf B1.2.1)]) (by rw [hB1, ← fol_nx, ← fol_os, ← fol_so, ← fol_el]) rfl rfl ?_
                refine z_aload_n X (pc := 85) 4 dX3_advanceOnce_85 rfl ?_
                refine z_iconst X (pc := 86) (nI 1) dX3_advanceOnce_86 (by decide) ?_
                refine z_iload X (pc := 87) 2 dX3_advanceOnce_87 rfl ?_
                refine z_iload_n X (pc := 89) 5 dX3_advanceOnce_89 rfl ?_
                refine z_lload X (pc := 90) 0 dX3_advanceOnce_90 rfl ?_
                refine z_iconst X (pc := 92) (nI 4) dX3_advanceOnce_92 (by decide) ?_
                refine z_iload X (pc := 93) 1 dX3_advanceOnce_93 rfl ?_
                refine z_isub X (pc := 95) (v := (nI (4 - (htl kd x l (m - l) la)))) dX3_advanceOnce_95 (pk_sub (by have := @htl_le kd x l (m - l) la hx; omega)) ?_
                refine z_i2l X (pc := 96) (v := (lN (4 - (htl kd x l (m - l) la)))) dX3_advanceOnce_96 (nI_l (by omega)) ?_
                refine z_lmul X (pc := 97) (v := (lN ((w (l * 3 + la) * P) * (4 - (htl kd x l (m - l) la))))) dX3_advanceOnce_97 (lN_mul _ _) ?_
                refine z_topl (lN (w (l * 3 + la) * (4 - htl kd x l (m - l) la) * P)) (by rw [Nat.mul_right_comm]) ?_
                refine zc_V (as := [.int (nI 1), .int (nI (m - l)), .int (nI l), .long (lN (w (l * 3 + la) * (4 - htl kd x l (m - l) la) * P))]) X (pc := 98) (c_X3_follow lq D t h0 hr hn ho en kd x (nI m) (lN 4398046511104 - lN (B1.2.2.1)) B1.2.2.2 B1.2.1 (fun j => B1.1 j * P) 1 (m - l) l (w (l * 3 + la) * (4 - htl kd x l (m - l) la) * P) (by omega) (by omega) (by omega) (by omega) (fun h9 => by simp only [Nat.one_ne_zero, if_false]; omega)) tw_399 tw_402 tw_6 tw_401 tw_1016 0 3 rfl rfl [0, 2, 3] rfl rfl dX3_advanceOnce_98 rfl zdX3_follow ⟨rfl, rfl, Nat.le_of_ble_eq_true rfl, Nat.le_of_ble_eq_true rfl⟩ (Nat.le_of_ble_eq_true rfl) (Nat.zero_le _) (Nat.zero_le _) (fun v_10 w_11 hp_12 => ?_)
                obtain ⟨rfl, rfl⟩ := hp_12
                refine ⟨rfl, ?_⟩
                refine z_eq (ws2 := [eX3 h0 hr hn ho (nI en) (nI kd) (nI x) (nI m) (if (m - l) ≤ en then (lN 4398046511104 - lN (B1.2.2.1)) - lN (w (l * 3 + la) * (4 - htl kd x l (m - l) la) * P) else (lN 4398046511104 - lN (B1.2.2.1))) (lN (if (m - l) ≤ en then (if 1 = 0 then B1.2.2.2 + (w (l * 3 + la) * (4 - htl kd x l (m - l) la) * P) else B1.2.2.2) else B1.2.2.2)), eL t hr 33 (lf (fun j => w j * (4 * P))), eL t hn 33 (lf (if (m - l) ≤ en then (fun j => B1.1 j * P) else vup (fun j => B1.1 j * P) ((if 1 = 0 then (m - l) - 1 else l) * 3 + 1) ((fun j => B1.1 j * P) ((if 1 = 0 then (m - l) - 1 else l) * 3 + 1) + (w (l * 3 + la) * (4 - htl kd x l (m - l) la) * P)))), eL t ho 11 (lf (if (m - l) ≤ en then (if l ≤ 10 then vup B1.2.1 l (B1.2.1 l + (w (l * 3 + la) * (4 - htl kd x l (m - l) la) * P)) else B1.2.1) else B1.2.1))]) (st2 := []) rfl rfl rfl ?_
                obtain ⟨B2, hB2⟩ : ∃ BB : wA, BB = fol en P 1 (m - l) l (w (l * 3 + la) * (4 - htl kd x l (m - l) la)) B1 := ⟨_, rfl⟩
                refine z_eq (ws2 := [eX3 h0 hr hn ho (nI en) (nI kd) (nI x) (nI m) (lN 4398046511104 - lN (B2.2.2.1)) (lN B2.2.2.2), eL t hr 33 (lf (fun j => w j * (4 * P))), eL t hn 33 (lf (fun j => B2.1 j * P)), eL t ho 11 (lf B2.2.1)]) (by rw [hB2, ← fol_nx, ← fol_os, ← fol_so, ← fol_el]) rfl rfl ?_
                refine z_iinc X (pc := 101) (i := 2) 6 (nI (la + 1)) [(2, .int (nI (la + 1))), (7, .long (lN (w (l * 3 + la) * P))), (6, .int (nI (htl kd x l (m - l) la))), (5, .int (nI (m - l))), (3, .long (lN (w (l * 3 + la) * (4 * P)))), (0, .ref h0), (1, .int (nI l))] dX3_advanceOnce_101 rfl (nI_incc la 1) (by decide) rfl ?_
                refine z_goto X (pc := 104) 17 dX3_advanceOnce_104 (by decide) ?_
                refine z_lv [5, 6, 0] (lv2 := [(0, .ref h0), (1, .int (nI l)), (2, .int (nI (la + 1)))]) rfl ?_
                exact ih_17 (la + 1) B2 (by omega) (by omega) (by rw [hB2, hB1, hB]; simp only [cin, cel, if_neg hw])
        refine z_lv [1, 2, 0] (lv2 := [(0, .ref h0), (1, .int (nI l)), (2, .int (nI 0))]) rfl ?_
        exact loop_17 4 0 A (by omega) (by omega) hA
  obtain ⟨A0, hA0⟩ : ∃ A : wA, A = ((fun _ => 0), os, e, el) := ⟨_, rfl⟩
  refine z_eq (ws2 := [eX3 h0 hr hn ho (nI en) (nI kd) (nI x) (nI m) (lN 4398046511104 - lN (A0.2.2.1)) (lN A0.2.2.2), eL t hr 33 (lf (fun j => w j * (4 * P))), eL t hn 33 (lf (fun j => A0.1 j * P)), eL t ho 11 (lf A0.2.1)]) (by rw [hA0]; simp) rfl rfl ?_
  refine z_lv [1, 0] (lv2 := [(0, .ref h0), (1, .int (nI 0))]) rfl ?_
  exact loop_9 12 0 A0 (by omega) (by omega) hA0
