/-! PART 25: the reference: weighing, and what is read off it -/
/-- what has ended is a sum by itself; the next row needs nothing of it -/
theorem fol_sh (en T sd ow ot its : Nat) (a : wA) (c : Nat) : fol en T sd ow ot its (a.1, a.2.1, a.2.2.1 + c, a.2.2.2) = ((fol en T sd ow ot its a).1, (fol en T sd ow ot its a).2.1, (fol en T sd ow ot its a).2.2.1 + c, (fol en T sd ow ot its a).2.2.2) := by
  unfold fol
  by_cases h : ow ≤ en
  · simp only [if_pos h]; rw [Nat.add_right_comm]
  · simp only [if_neg h]
def shE (c : Nat) (a : wA) : wA := (a.1, a.2.1, a.2.2.1 + c, a.2.2.2)
theorem cel_sh {kd x en T m : Nat} {w : Nat → Nat} {l la : Nat} {a : wA} {c : Nat} : cel kd x en T m w l la (shE c a) = shE c (cel kd x en T m w l la a) := by
  unfold cel; split
  · rfl
  · unfold shE; rw [fol_sh, fol_sh]
theorem cin_sh {kd x en T m : Nat} {w : Nat → Nat} {l : Nat} {a : wA} {c : Nat} : ∀ j : Nat, cin kd x en T m w l j (shE c a) = shE c (cin kd x en T m w l j a)
  | 0 => rfl
  | j + 1 => by rw [cin, cin_sh j, cel_sh, cin]
theorem cou_sh {kd x en T m : Nat} {w : Nat → Nat} {a : wA} {c : Nat} : ∀ l : Nat, cou kd x en T m w l (shE c a) = shE c (cou kd x en T m w l a)
  | 0 => rfl
  | l + 1 => by rw [cou, cou_sh l, cin_sh, cou]
theorem fol_fst {en T T2 sd ow ot its : Nat} {a b : wA} (h : a.1 = b.1) : (fol en T sd ow ot its a).1 = (fol en T2 sd ow ot its b).1 := by
  unfold fol
  by_cases q : ow ≤ en
  · simp only [if_pos q]; exact h
  · simp only [if_neg q]; rw [h]
theorem cel_fst {kd x en T T2 m : Nat} {w : Nat → Nat} {l la : Nat} {a b : wA} (h : a.1 = b.1) : (cel kd x en T m w l la a).1 = (cel kd x en T2 m w l la b).1 := by
  unfold cel; split
  · exact h
  · exact fol_fst (fol_fst h)
theorem cin_fst {kd x en T T2 m : Nat} {w : Nat → Nat} {l : Nat} {a b : wA} (h : a.1 = b.1) : ∀ j : Nat, (cin kd x en T m w l j a).1 = (cin kd x en T2 m w l j b).1
  | 0 => h
  | j + 1 => cel_fst (cin_fst h j)
theorem cou_fst {kd x en T T2 m : Nat} {w : Nat → Nat} {a b : wA} (h : a.1 = b.1) : ∀ l : Nat, (cou kd x en T m w l a).1 = (cou kd x en T2 m w l b).1
  | 0 => h
  | l + 1 => cin_fst (cou_fst h l) 3
theorem wst_sh (kd x en m s : Nat) (a : wA) : wst kd x en m s a = shE a.2.2.1 (cou kd x en (4 ^ (s - 1)) m a.1 11 ((fun _ => 0), a.2.1, 0, a.2.2.2)) := by
  rw [wst_def, ← cou_sh]
  unfold shE; simp only [Nat.zero_add]
theorem wst_fst (kd x en m s : Nat) (a : wA) {T : Nat} {os : Nat → Nat} {e el : Nat} : (cou kd x en T m a.1 11 ((fun _ => 0), os, e, el)).1 = (wst kd x en m s a).1 := by
  rw [wst_def]
  exact cou_fst (T := T) (T2 := 4 ^ (s - 1)) (a := ((fun _ => 0), os, e, el)) (b := ((fun _ => 0), a.2.1, a.2.2.1, a.2.2.2)) rfl 11
/-- SOON's row -/
noncomputable def snF (kd x en l r la k : Nat) : Nat := if k = 0 then (rn kd x en l r la 0).2.2.1 else (rn kd x en l r la k).2.2.1 - (rn kd x en l r la (k - 1)).2.2.1
theorem rn_mono (kd x en l r la k : Nat) : (rn kd x en l r la k).2.2.1 ≤ (rn kd x en l r la (k + 1)).2.2.1 := by
  unfold rn; rw [wrun_s, wst_sh]; unfold shE; exact Nat.le_add_left _ _
theorem sn_tel (kd x en l r la : Nat) : ∀ n : Nat, sm (snF kd x en l r la) (n + 1) = (rn kd x en l r la n).2.2.1
  | 0 => by rw [sm_s, sm_z, Nat.zero_add, snF, if_pos rfl]
  | n + 1 => by
    have h := rn_mono kd x en l r la n
    rw [sm_s, sn_tel kd x en l r la n, snF, if_neg (by omega), Nat.add_sub_cancel]
    omega
theorem sn_tw (kd x en l r la : Nat) : ∀ n : Nat, sm (fun k => k * snF kd x en l r la k) (n + 1) + sm (fun j => (rn kd x en l r la j).2.2.1) n = n * (rn kd x en l r la n).2.2.1
  | 0 => by rw [sm_s, sm_z, sm_z, Nat.zero_mul, Nat.zero_mul]
  | n + 1 => by
    have h := rn_mono kd x en l r la n
    have ih := sn_tw kd x en l r la n
    rw [sm_s, sm_s (fun j => (rn kd x en l r la j).2.2.1), snF, if_neg (by omega), Nat.add_sub_cancel, Nat.mul_sub, Nat.succ_mul, Nat.succ_mul]
    have h2 := Nat.mul_le_mul_left n h
    omega
theorem sm_subW {f : Nat → Nat} {W : Nat} : ∀ {n : Nat}, (∀ k, k < n → f k ≤ W) → sm (fun j => W - f j) n + sm f n = n * W
  | 0, _ => by rw [sm_z, sm_z, Nat.zero_mul]
  | n + 1, h => by
    have ih := sm_subW (f := f) (W := W) (n := n) (fun k hk => h k (by omega))
    have h1 := h n (by omega)
    rw [sm_s, sm_s, Nat.succ_mul]
    omega
theorem sn_rch {kd x en l r la : Nat} (hx : x ≤ 4) (hl : l ≤ 10) (hr : r ≤ 10) (hla : la ≤ 2) : sm (fun k => k * snF kd x en l r la k) 22 = rch kd x en l r la := by
  have h1 : sm (fun k => k * snF kd x en l r la k) 22 + sm (fun j => (rn kd x en l r la j).2.2.1) 21 = 21 * (rn kd x en l r la 21).2.2.1 := sn_tw kd x en l r la 21
  rw [rn_all hx hl hr hla (Nat.le_refl 21)] at h1
  have h2 := sm_subW (f := fun j => (rn kd x en l r la j).2.2.1) (W := 4398046511104) (n := 21) (fun k _ => rn_e hx hl hr hla)
  have h3 : rch kd x en l r la = sm (fun j => 4398046511104 - (rn kd x en l r la j).2.2.1) 21 := rfl
  omega
theorem snF_le {kd x en l r la k : Nat} (hx : x ≤ 4) (hl : l ≤ 10) (hr : r ≤ 10) (hla : la ≤ 2) : snF kd x en l r la k ≤ 4398046511104 := by
  unfold snF; split
  · exact rn_e hx hl hr hla
  · exact Nat.le_trans (Nat.sub_le _ _) (rn_e hx hl hr hla)
/-- SOON's row up to a reach -/
noncomputable def snU (kd x en l r la j : Nat) : Nat → Nat := fun k => if k ≤ j then snF kd x en l r la k else 0
theorem snU_at {kd x en l r la j : Nat} : snU kd x en l r la j (j + 1) = 0 := by unfold snU; rw [if_neg (by omega)]
theorem snU_up {kd x en l r la j v : Nat} (h : v = snF kd x en l r la (j + 1)) : vup (snU kd x en l r la j) (j + 1) v = snU kd x en l r la (j + 1) := by
  funext k; unfold vup snU
  by_cases q : k = j + 1
  · subst q; rw [if_pos rfl, if_pos (by omega), h]
  · rw [if_neg q]
    by_cases z : k ≤ j
    · rw [if_pos z, if_pos (by omega)]
    · rw [if_neg z, if_neg (by omega)]
theorem rn_dead0 {kd x en l r la : Nat} (h : en = 1 ∧ (l = 0 ∨ r = 0)) (n : Nat) : (rn kd x en l r la n).2 = (wst0 en l r la).2 := by
  have h0 : ∀ c, c < 33 → (wrun kd x en (l + r) 21 (wst0 en l r la) 0).1 c = 0 := by
    rw [wrun_z]; unfold wst0; rw [if_pos h]; exact fun _ _ => rfl
  have := (wrun_dead2 h0 (Nat.zero_le n)).1
  rw [wrun_z] at this
  exact this
abbrev rm_X5_cut : Room := { frames := 0, cells := 0, slots := 0, locals := 0 }
set_option maxHeartbeats 4000000 in
set_option maxRecDepth 100000 in
theorem c_X5_cut (lq : Launch) (D : va_G) (t : zT) (w al : Nat) (hw : w ≤ 4398046511104) (ha : 0 < al ∧ al < 2 ^ 63) : Ct lq D t yX5_cut cX5_cut 4 (some .int) rm_X5_cut [.long (lN w), .long (lN al)] [] 0 0 (fun rv rw_ => rv = some (.int (nI (10000 * w / al))) ∧ rw_ = []) := by
  refine Ct.of (by decide) (Nat.le_of_ble_eq_true rfl) (fun k X hRet => ?_)
  have X : zX D t k cX5_cut 4 RX5 "cut" rm_X5_cut lq := X
  refine z_eq (lv2 := [(0, .long (lN w)), (2, .long (lN al))]) rfl rfl rfl ?_
  refine z_ldc2 X (pc := 0) (10000) dX5_cut_0 tw_723 ?_
  refine z_topl (lN 10000) rfl ?_
  refine z_lload_n X (pc := 3) 0 dX5_cut_3 rfl ?_
  refine z_lmul X (pc := 4) (v := (lN (10000 * w))) dX5_cut_4 (lN_mul _ _) ?_
  refine z_lload_n X (pc := 5) 1 dX5_cut_5 rfl ?_
  refine z_ldiv X (pc := 6) (v := (lN ((10000 * w) / al))) dX5_cut_6 (by intro z; have := (pk_lEQ (a := al) (b := 0) ha.2 (by decide)).mp z; omega) (pk_lDiv (by omega) (by omega) (by omega)) ?_
  refine z_l2i X (pc := 7) (v := (nI ((10000 * w) / al))) dX5_cut_7 (lN_i _) ?_
  exact hRet.i dX5_cut_8 ⟨rfl, rfl⟩

abbrev rm_X5_isEnd : Room := { frames := 1, cells := 0, slots := 0, locals := 22 }
set_option maxHeartbeats 4000000 in
set_option maxRecDepth 100000 in
theorem c_X5_isEnd (lq : Launch) (D : va_G) (t : zT) (x : Int32)  : Ct lq D t yX5_isEnd cX5_isEnd 1 (some .boolean) rm_X5_isEnd [.int x] [] 0 0 (fun rv rw_ => rv = some (.int (zb (nI 0 ≤ x ∧ x ≤ nI 1))) ∧ rw_ = []) := by
  refine Ct.of (by decide) (Nat.le_of_ble_eq_true rfl) (fun k X hRet => ?_)
  have X : zX D t k cX5_isEnd 1 RX5 "isEnd" rm_X5_isEnd lq := X
  refine z_eq (lv2 := [(0, .int x)]) rfl rfl rfl ?_
  refine z_iload_n X (pc := 0) 0 dX5_isEnd_0 rfl ?_
  refine z_iconst X (pc := 1) (nI 0) dX5_isEnd_1 (by decide) ?_
  refine z_iconst X (pc := 2) (nI 1) dX5_isEnd_2 (by decide) ?_
  refine zc_S (as := [.int x, .int (nI 0), .int (nI 1)]) X (pc := 3) (c_X5_in lq D t x (nI 0) (nI 1) ) tw_615 tw_617 tw_7 tw_616 [] rfl rfl dX5_isEnd_3 rfl zdX5_in ⟨rfl, rfl, Nat.le_of_ble_eq_true rfl, Nat.le_of_ble_eq_true rfl⟩ (Nat.le_of_ble_eq_true rfl) (Nat.zero_le _) (Nat.zero_le _) (fun v_1 w_2 hp_3 => ?_)
  obtain ⟨rfl, rfl⟩ := hp_3
  refine ⟨rfl, ?_⟩
  refine z_eq (ws2 := []) (st2 := [.int (zb ((nI 0) ≤ x ∧ x ≤ (nI 1)))]) rfl rfl rfl ?_
  exact hRet.z dX5_isEnd_6 (zb_nar _) ⟨rfl, rfl⟩

abbrev rm_X5_within : Room := { frames := 0, cells := 0, slots := 0, locals := 0 }
set_option maxHeartbeats 4000000 in
set_option maxRecDepth 100000 in
theorem c_X5_within (lq : Launch) (D : va_G) (t : zT) (mq mT mD mS mP mI mE mH mX mR mO ty ev kn kp sg : Nat) (at_ : Int32) (fs : Int64) (sn : Nat → Nat) (n : Nat) (hn : n ≤ 21) : Ct lq D t yX5_within cX5_within 5 (some .long) rm_X5_within [.ref mq, .int (nI n)] [eX5 mq mT (nI ty) mD mS (nI ev) mP (nI kn) mI (nI kp) mE (nI sg) at_ mH mX mR mO fs, eL t mO 22 (lf sn)] 0 0 (fun rv rw_ => rv = some (.long (lN (sm sn (n + 1)))) ∧ rw_ = [eX5 mq mT (nI ty) mD mS (nI ev) mP (nI kn) mI (nI kp) mE (nI sg) at_ mH mX mR mO fs, eL t mO 22 (lf sn)]) := by
  refine Ct.of (by decide) (Nat.le_of_ble_eq_true rfl) (fun k X hRet => ?_)
  have X : zX D t k cX5_within 5 RX5 "within" rm_X5_within lq := X
  refine z_eq (lv2 := [(0, .ref mq), (1, .int (nI n))]) rfl rfl rfl ?_
  refine z_lconst X (pc := 0) (lN 0) dX5_within_0 (by decide) ?_
  refine z_lstore_n X (pc := 1) (i := 2) [(2, .long (lN 0)), (0, .ref mq), (1, .int (nI n))] dX5_within_1 rfl (by decide) rfl ?_
  refine z_iconst X (pc := 2) (nI 0) dX5_within_2 (by decide) ?_
  refine z_istore X (pc := 3) (i := 4) [(4, .int (nI 0)), (2, .long (lN 0)), (0, .ref mq), (1, .int (nI n))] dX5_within_3 trivial (by decide) rfl ?_
  have loop_5 : ∀ (fuel_5 : Nat) (i : Nat) (su : Nat), n + 1 < i + fuel_5 → (i ≤ n + 1) → (su = sm sn i) → Z D k (0, 0) [eX5 mq mT (nI ty) mD mS (nI ev) mP (nI kn) mI (nI kp) mE (nI sg) at_ mH mX mR mO fs, eL t mO 22 (lf sn)] 5 [(0, .ref mq), (1, .int (nI n)), (2, .long (lN su)), (4, .int (nI i))] [] := by
    intro fuel_5
    induction fuel_5 with
    | zero =>
      intro i su hfuel_5 hi hsu
      exfalso; omega
    | succ fuel_5 ih_5 =>
      intro i su hfuel_5 hi hsu
      refine z_iload X (pc := 5) 3 dX5_within_5 rfl ?_
      refine z_iload_n X (pc := 7) 1 dX5_within_7 rfl ?_
      refine z_icmp_gtN X (pc := 8) 27 (by omega) (by omega) dX5_within_8 (by decide) (fun c_8 => ?_) (fun c_8 => ?_)
      · skip
        refine z_lload_n X (pc := 27) 2 dX5_within_27 rfl ?_
        exact hRet.l dX5_within_28 ⟨by rw [hsu, show i = n + 1 by omega], rfl⟩
      · skip
        refine z_lload_n X (pc := 11) 2 dX5_within_11 rfl ?_
        refine z_aload_n X (pc := 12) 0 dX5_within_12 rfl ?_
        refine z_get X (pc := 13) 0 15 (.ref mO) tu_5 tw_574 dX5_within_13 rfl rfl (by decide) rfl rfl ?_
        refine z_iload X (pc := 16) 3 dX5_within_16 rfl ?_
        refine z_lald X (pc := 18) 1 i (lN (sn i)) dX5_within_18 rfl rfl (Nat.le_of_ble_eq_true rfl) (by omega) rfl ?_
        refine z_ladd X (pc := 19) (v := (lN (su + (sn i)))) dX5_within_19 (lN_add su (sn i)) ?_
        refine z_lstore_n X (pc := 20) (i := 2) [(2, .long (lN (su + (sn i)))), (0, .ref mq), (1, .int (nI n)), (4, .int (nI i))] dX5_within_20 rfl (by decide) rfl ?_
        refine z_iinc X (pc := 21) (i := 4) 3 (nI (i + 1)) [(4, .int (nI (i + 1))), (2, .long (lN (su + (sn i)))), (0, .ref mq), (1, .int (nI n))] dX5_within_21 rfl (nI_incc i 1) (by decide) rfl ?_
        refine z_goto X (pc := 24) 5 dX5_within_24 (by decide) ?_
        refine z_lv [2, 3, 1, 0] (lv2 := [(0, .ref mq), (1, .int (nI n)), (2, .long (lN (su + (sn i)))), (4, .int (nI (i + 1)))]) rfl ?_
        exact ih_5 (i + 1) (su + sn i) (by omega) (by omega) (by rw [sm_s, hsu])
  refine z_lv [2, 3, 1, 0] (lv2 := [(0, .ref mq), (1, .int (nI n)), (2, .long (lN 0)), (4, .int (nI 0))]) rfl ?_
  exact loop_5 (n + 2) 0 0 (by omega) (by omega) (sm_z _).symm

abbrev rm_X5_reaches : Room := { frames := 0, cells := 0, slots := 0, locals := 0 }
set_option maxHeartbeats 4000000 in
set_option maxRecDepth 100000 in
theorem c_X5_reaches (lq : Launch) (D : va_G) (t : zT) (mq mT mD mS mP mI mE mH mX mR mO ty ev kn kp sg : Nat) (at_ : Int32) (fs : Int64) (sn : Nat → Nat)  : Ct lq D t yX5_reaches cX5_reaches 4 (some .long) rm_X5_reaches [.ref mq] [eX5 mq mT (nI ty) mD mS (nI ev) mP (nI kn) mI (nI kp) mE (nI sg) at_ mH mX mR mO fs, eL t mO 22 (lf sn)] 0 0 (fun rv rw_ => rv = some (.long (lN (sm (fun k => k * sn k) 22))) ∧ rw_ = [eX5 mq mT (nI ty) mD mS (nI ev) mP (nI kn) mI (nI kp) mE (nI sg) at_ mH mX mR mO fs, eL t mO 22 (lf sn)]) := by
  refine Ct.of (by decide) (Nat.le_of_ble_eq_true rfl) (fun k X hRet => ?_)
  have X : zX D t k cX5_reaches 4 RX5 "reaches" rm_X5_reaches lq := X
  refine z_eq (lv2 := [(0, .ref mq)]) rfl rfl rfl ?_
  refine z_lconst X (pc := 0) (lN 0) dX5_reaches_0 (by decide) ?_
  refine z_lstore_n X (pc := 1) (i := 1) [(1, .long (lN 0)), (0, .ref mq)] dX5_reaches_1 rfl (by decide) rfl ?_
  refine z_iconst X (pc := 2) (nI 0) dX5_reaches_2 (by decide) ?_
  refine z_istore_n X (pc := 3) (i := 3) [(3, .int (nI 0)), (1, .long (lN 0)), (0, .ref mq)] dX5_reaches_3 rfl (by decide) rfl ?_
  have loop_4 : ∀ (fuel_4 : Nat) (i : Nat) (su : Nat), 22 < i + fuel_4 → (i ≤ 22) → (su = sm (fun k => k * sn k) i) → Z D k (0, 0) [eX5 mq mT (nI ty) mD mS (nI ev) mP (nI kn) mI (nI kp) mE (nI sg) at_ mH mX mR mO fs, eL t mO 22 (lf sn)] 4 [(0, .ref mq), (1, .long (lN su)), (3, .int (nI i))] [] := by
    intro fuel_4
    induction fuel_4 with
    | zero =>
      intro i su hfuel_4 hi hsu
      exfalso; omega
    | succ fuel_4 ih_4 =>
      intro i su hfuel_4 hi hsu
      refine z_iload_n X (pc := 4) 2 dX5_reaches_4 rfl ?_
      refine z_bipush X (pc := 5) (nI 22) dX5_reaches_5 (by decide) ?_
      refine z_icmp_geN X (pc := 7) 28 (by omega) (by omega) dX5_reaches_7 (by decide) (fun c_7 => ?_) (fun c_7 => ?_)
      · skip
        refine z_lload_n X (pc := 28) 1 dX5_reaches_28 rfl ?_
        exact hRet.l dX5_reaches_29 ⟨by rw [hsu, show i = 22 by omega], rfl⟩
      · skip
        refine z_lload_n X (pc := 10) 1 dX5_reaches_10 rfl ?_
        refine z_iload_n X (pc := 11) 2 dX5_reaches_11 rfl ?_
        refine z_i2l X (pc := 12) (v := (lN i)) dX5_reaches_12 (nI_l (by omega)) ?_
        refine z_aload_n X (pc := 13) 0 dX5_reaches_13 rfl ?_
        refine z_get X (pc := 14) 0 15 (.ref mO) tu_5 tw_574 dX5_reaches_14 rfl rfl (by decide) rfl rfl ?_
        refine z_iload_n X (pc := 17) 2 dX5_reaches_17 rfl ?_
        refine z_lald X (pc := 18) 1 i (lN (sn i)) dX5_reaches_18 rfl rfl (Nat.le_of_ble_eq_true rfl) (by omega) rfl ?_
        refine z_lmul X (pc := 19) (v := (lN (i * (sn i)))) dX5_reaches_19 (lN_mul _ _) ?_
        refine z_ladd X (pc := 20) (v := (lN (su + (i * (sn i))))) dX5_reaches_20 (lN_add su (i * (sn i))) ?_
        refine z_lstore_n X (pc := 21) (i := 1) [(1, .long (lN (su + (i * (sn i))))), (0, .ref mq), (3, .int (nI i))] dX5_reaches_21 rfl (by decide) rfl ?_
        refine z_iinc X (pc := 22) (i := 3) 2 (nI (i + 1)) [(3, .int (nI (i + 1))), (1, .long (lN (su + (i * (sn i))))), (0, .ref mq)] dX5_reaches_22 rfl (nI_incc i 1) (by decide) rfl ?_
        refine z_goto X (pc := 25) 4 dX5_reaches_25 (by decide) ?_
        refine z_lv [2, 1, 0] (lv2 := [(0, .ref mq), (1, .long (lN (su + (i * (sn i))))), (3, .int (nI (i + 1)))]) rfl ?_
        exact ih_4 (i + 1) (su + i * sn i) (by omega) (by omega) (by rw [sm_s, hsu])
  refine z_lv [2, 1, 0] (lv2 := [(0, .ref mq), (1, .long (lN 0)), (3, .int (nI 0))]) rfl ?_
  exact loop_4 23 0 0 (by omega) (by omega) (sm_z _).symm

abbrev rm_X5_weighs : Room := { frames := 2, cells := 0, slots := 0, locals := 62 }
set_option maxHeartbeats 4000000 in
set_option maxRecDepth 100000 in
theorem c_X5_weighs (lq : Launch) (D : va_G) (t : zT) (mq mT mD mS mP mI mE mH mX mR mO ty ev kn kp sg : Nat) (at_ : Int32) (fs : Int64) (s : Nat → Nat) (f1 f2 f3 f4 : Nat → Int64) (l r kd x en : Nat) (hl : l ≤ 10) (hr : r ≤ 10) (hla : s 2 ≤ 2) (hkd : kd ≤ 3) (hx : x ≤ 4) (hen : en ≤ 1) : Ct lq D t yX5_weighs cX5_weighs 9 none rm_X5_weighs [.ref mq, .int (nI l), .int (nI r), .int (nI kd), .int (nI x), .int (nI en)] [eX5 mq mT (nI ty) mD mS (nI ev) mP (nI kn) mI (nI kp) mE (nI sg) at_ mH mX mR mO fs, eI t mS 5 (nf s), eL t mH 363 f1, eL t mX 363 f2, eL t mR 11 f3, eL t mO 22 f4] 0 0 (fun rv rw_ => ∃ (FS : Int64) (F1 : Nat → Int64) (F2 : Nat → Int64), (en = 0 → FS = lN (rn kd x en l r (s 2) 21).2.2.2) ∧ rv = none ∧ rw_ = [eX5 mq mT (nI ty) mD mS (nI ev) mP (nI kn) mI (nI kp) mE (nI sg) at_ mH mX mR mO FS, eI t mS 5 (nf s), eL t mH 363 F1, eL t mX 363 F2, eL t mR 11 (lf ((rn kd x en l r (s 2) 21).2.1)), eL t mO 22 (lf (snF kd x en l r (s 2)))]) := by
  refine Ct.of (by decide) (Nat.le_of_ble_eq_true rfl) (fun k X hRet => ?_)
  have X : zX D t k cX5_weighs 9 RX5 "weighs" rm_X5_weighs lq := X
  refine z_eq (lv2 := [(0, .ref mq), (1, .int (nI l)), (2, .int (nI r)), (3, .int (nI kd)), (4, .int (nI x)), (5, .int (nI en))]) rfl rfl rfl ?_
  refine z_aload_n X (pc := 0) 0 dX5_weighs_0 rfl ?_
  refine zc_V (as := []) X (pc := 1) (c_X5_clears lq D t mq mT mD mS mP mI mE mH mX mR mO ty ev kn kp sg at_ fs f3 f4 ) tw_703 tw_706 tw_7 tw_705 tw_1032 0 5 rfl rfl [0, 4, 5] rfl rfl dX5_weighs_1 rfl zdX5_clears ⟨rfl, rfl, Nat.le_of_ble_eq_true rfl, Nat.le_of_ble_eq_true rfl⟩ (Nat.le_of_ble_eq_true rfl) (Nat.zero_le _) (Nat.zero_le _) (fun v_1 w_2 hp_3 => ?_)
  obtain ⟨rfl, rfl⟩ := hp_3
  refine ⟨rfl, ?_⟩
  refine z_eq (ws2 := [eX5 mq mT (nI ty) mD mS (nI ev) mP (nI kn) mI (nI kp) mE (nI sg) at_ mH mX mR mO (lN 0), eI t mS 5 (nf s), eL t mH 363 f1, eL t mX 363 f2, eL t mR 11 (lf (fun _ => 0)), eL t mO 22 (lf (fun _ => 0))]) (st2 := []) rfl rfl rfl ?_
  refine z_iload X (pc := 4) 5 dX5_weighs_4 rfl ?_
  refine z_iconst X (pc := 6) (nI 1) dX5_weighs_6 (by decide) ?_
  refine z_icmp_neN X (pc := 7) 39 (by omega) (by omega) dX5_weighs_7 (by decide) (fun c_7 => ?_) (fun c_7 => ?_)
  · skip
    refine z_aload_n X (pc := 39) 0 dX5_weighs_39 rfl ?_
    refine z_iload_n X (pc := 40) 1 dX5_weighs_40 rfl ?_
    refine z_iload_n X (pc := 41) 2 dX5_weighs_41 rfl ?_
    refine z_aload_n X (pc := 42) 0 dX5_weighs_42 rfl ?_
    refine z_get X (pc := 43) 0 3 (.ref mS) tu_5 tw_562 dX5_weighs_43 rfl rfl (by decide) rfl rfl ?_
    refine z_iconst X (pc := 46) (nI 2) dX5_weighs_46 (by decide) ?_
    refine z_iald X (pc := 47) 1 2 (nI (s 2)) dX5_weighs_47 rfl rfl (Nat.le_of_ble_eq_true rfl) (by decide) rfl ?_
    refine zc_V (as := [.int (nI l), .int (nI r), .int (nI (s 2))]) X (pc := 48) (c_X5_begin0 lq D t mq mT mD mS mP mI mE mH mX mR mO ty ev kn kp sg at_ (lN 0) l r (s 2) f1 (by omega) (by omega) (by omega)) tw_708 tw_711 tw_7 tw_710 tw_1033 0 5 rfl rfl [0, 2] rfl rfl dX5_weighs_48 rfl zdX5_begin0 ⟨rfl, rfl, Nat.le_of_ble_eq_true rfl, Nat.le_of_ble_eq_true rfl⟩ (Nat.le_of_ble_eq_true rfl) (Nat.zero_le _) (Nat.zero_le _) (fun v_4 w_5 hp_6 => ?_)
    obtain ⟨rfl, rfl⟩ := hp_6
    refine ⟨rfl, ?_⟩
    refine z_eq (ws2 := [eX5 mq mT (nI ty) mD mS (nI ev) mP (nI kn) mI (nI kp) mE (nI sg) at_ mH mX mR mO (lN 0), eI t mS 5 (nf s), eL t mH 363 (lf (emb (l + r) (vup (fun _ => 0) (l * 3 + (s 2)) 1))), eL t mX 363 f2, eL t mR 11 (lf (fun _ => 0)), eL t mO 22 (lf (fun _ => 0))]) (st2 := []) rfl rfl rfl ?_
    refine z_ldc2 X (pc := 51) (4398046511104) dX5_weighs_51 tw_707 ?_
    refine z_topl (lN 4398046511104) rfl ?_
    refine z_lstore X (pc := 54) (i := 6) [(6, .long (lN 4398046511104)), (0, .ref mq), (1, .int (nI l)), (2, .int (nI r)), (3, .int (nI kd)), (4, .int (nI x)), (5, .int (nI en))] dX5_weighs_54 trivial (by decide) rfl ?_
    refine z_iconst X (pc := 56) (nI 1) dX5_weighs_56 (by decide) ?_
    refine z_istore X (pc := 57) (i := 8) [(8, .int (nI 1)), (6, .long (lN 4398046511104)), (0, .ref mq), (1, .int (nI l)), (2, .int (nI r)), (3, .int (nI kd)), (4, .int (nI x)), (5, .int (nI en))] dX5_weighs_57 trivial (by decide) rfl ?_
    have loop_59 : ∀ (fuel_59 : Nat) (sp : Nat) (b : wA) (f2 : Nat → Int64), 22 < sp + fuel_59 → (1 ≤ sp ∧ sp ≤ 22) → (b = (rn kd x en l r (s 2) (sp - 1))) → Z D k (0, 0) [eX5 mq mT (nI ty) mD mS (nI ev) mP (nI kn) mI (nI kp) mE (nI sg) at_ mH mX mR mO (lN b.2.2.2), eI t mS 5 (nf s), eL t mH 363 (lf (emb (l + r - (sp - 1)) b.1)), eL t mX 363 f2, eL t mR 11 (lf b.2.1), eL t mO 22 (lf (snU kd x en l r (s 2) (sp - 1)))] 59 [(0, .ref mq), (1, .int (nI l)), (2, .int (nI r)), (3, .int (nI kd)), (4, .int (nI x)), (5, .int (nI en)), (6, .long (lN (4 ^ (22 - sp)))), (8, .int (nI sp))] [] := by
      intro fuel_59
      induction fuel_59 with
      | zero =>
        intro sp b f2 hfuel_59 hsp9 hb
        exfalso; omega
      | succ fuel_59 ih_59 =>
        intro sp b f2 hfuel_59 hsp9 hb
        have hwk := wok_run (kd := kd) (en := en) hx (wok0 (en := en) hl hr hla) (sp - 1)
        rw [show wrun kd x en (l + r) 21 (wst0 en l r (s 2)) (sp - 1) = b from hb.symm] at hwk
        refine z_iload X (pc := 59) 7 dX5_weighs_59 rfl ?_
        refine z_bipush X (pc := 61) (nI 21) dX5_weighs_61 (by decide) ?_
        refine z_icmp_gtN X (pc := 63) 93 (by omega) (by omega) dX5_weighs_63 (by decide) (fun c_63 => ?_) (fun c_63 => ?_)
        · skip
          have hsp : sp = 22 := by omega
          refine z_lrow 5 (lf (snF kd x en l r (s 2))) [eX5 mq mT (nI ty) mD mS (nI ev) mP (nI kn) mI (nI kp) mE (nI sg) at_ mH mX mR mO (lN b.2.2.2), eI t mS 5 (nf s), eL t mH 363 (lf (emb (l + r - (sp - 1)) b.1)), eL t mX 363 f2, eL t mR 11 (lf b.2.1), eL t mO 22 (lf (snF kd x en l r (s 2)))] rfl (fun j hj => by show lN (snU kd x en l r (s 2) (sp - 1) j) = lN _; unfold snU; rw [if_pos (by omega)]) rfl ?_
          exact hRet.v dX5_weighs_93 ⟨(lN b.2.2.2), (lf (emb (l + r - (sp - 1)) b.1)), f2, fun _ => by rw [hb, show sp - 1 = 21 by omega], rfl, by rw [hb, show sp - 1 = 21 by omega]⟩
        · skip
          refine z_lload X (pc := 66) 6 dX5_weighs_66 rfl ?_
          refine z_ldc2 X (pc := 68) (4) dX5_weighs_68 tw_715 ?_
          refine z_topl (lN 4) rfl ?_
          refine z_ldiv X (pc := 71) (v := (lN ((4 ^ (22 - sp)) / 4))) dX5_weighs_71 (by decide) (pk_lDiv (by have h9 : 4 ^ (22 - sp) ≤ 4 ^ 21 := Nat.pow_le_pow_right (by decide) (by omega); have h8 : (4 : Nat) ^ 21 = 4398046511104 := rfl; omega) (by omega) (by omega)) ?_
          refine z_topl (lN (4 ^ (21 - sp))) (by rw [show 22 - sp = (21 - sp) + 1 by omega, Nat.pow_succ, Nat.mul_div_cancel _ (by decide)]) ?_
          refine z_lstore X (pc := 72) (i := 6) [(6, .long (lN (4 ^ (21 - sp)))), (0, .ref mq), (1, .int (nI l)), (2, .int (nI r)), (3, .int (nI kd)), (4, .int (nI x)), (5, .int (nI en)), (8, .int (nI sp))] dX5_weighs_72 trivial (by decide) rfl ?_
          refine z_aload_n X (pc := 74) 1 dX5_weighs_74 rfl ?_
          refine z_iload_n X (pc := 75) 4 dX5_weighs_75 rfl ?_
          refine z_iload X (pc := 76) 5 dX5_weighs_76 rfl ?_
          refine z_iload X (pc := 78) 6 dX5_weighs_78 rfl ?_
          refine z_iload X (pc := 80) 7 dX5_weighs_80 rfl ?_
          refine z_lload X (pc := 82) 0 dX5_weighs_82 rfl ?_
          refine zc_V (as := [.int (nI kd), .int (nI x), .int (nI en), .int (nI sp), .long (lN (4 ^ (21 - sp)))]) X (pc := 84) (c_X5_goes lq D t mq mT mD mS mP mI mE mH mX mR mO ty ev kn kp sg at_ (lN 0) kd x en sp (4 ^ (21 - sp)) (l + r - (sp - 1)) b.2.2.2 b.1 b.2.1 (snU kd x en l r (s 2) (sp - 1)) f2 (by omega) (by omega) (by omega) (by omega) (by omega) hwk.1 (fun c hc => by have h9 := wok_bd hwk hc; have h8 := Nat.le_mul_of_pos_right (b.1 c) (pow4_pos (21 - (sp - 1))); omega)) tw_716 tw_719 tw_7 tw_718 tw_1034 0 5 rfl rfl [0, 2, 3, 4, 5] rfl rfl dX5_weighs_84 rfl zdX5_goes ⟨rfl, rfl, Nat.le_of_ble_eq_true rfl, Nat.le_of_ble_eq_true rfl⟩ (Nat.le_of_ble_eq_true rfl) (Nat.zero_le _) (Nat.zero_le _) (fun v_7 w_8 hp_9 => ?_)
          obtain ⟨F2_10, rfl, rfl⟩ := hp_9
          refine ⟨rfl, ?_⟩
          refine z_eq (ws2 := [eX5 mq mT (nI ty) mD mS (nI ev) mP (nI kn) mI (nI kp) mE (nI sg) at_ mH mX mR mO (lN ((cou kd x en (4 ^ (21 - sp)) (l + r - (sp - 1)) b.1 11 (((fun _ => 0), b.2.1, (snU kd x en l r (s 2) (sp - 1)) sp, b.2.2.2) : wA)).2.2.2)), eI t mS 5 (nf s), eL t mH 363 (lf (emb ((l + r - (sp - 1)) - 1) (cou kd x en (4 ^ (21 - sp)) (l + r - (sp - 1)) b.1 11 (((fun _ => 0), b.2.1, (snU kd x en l r (s 2) (sp - 1)) sp, b.2.2.2) : wA)).1)), eL t mX 363 F2_10, eL t mR 11 (lf ((cou kd x en (4 ^ (21 - sp)) (l + r - (sp - 1)) b.1 11 (((fun _ => 0), b.2.1, (snU kd x en l r (s 2) (sp - 1)) sp, b.2.2.2) : wA)).2.1)), eL t mO 22 (lf (vup (snU kd x en l r (s 2) (sp - 1)) sp (cou kd x en (4 ^ (21 - sp)) (l + r - (sp - 1)) b.1 11 (((fun _ => 0), b.2.1, (snU kd x en l r (s 2) (sp - 1)) sp, b.2.2.2) : wA)).2.2.1))]) (st2 := []) rfl rfl rfl ?_
          obtain ⟨b2, hb2⟩ : ∃ bb : wA, bb = (rn kd x en l r (s 2) (sp - 1 + 1)) := ⟨_, rfl⟩
          have hsh := wst_sh kd x en (l + r - (sp - 1)) (21 - (sp - 1)) b
          have hb3 : b2 = shE b.2.2.1 (cou kd x en (4 ^ (21 - sp)) (l + r - (sp - 1)) b.1 11 ((fun _ => 0), b.2.1, 0, b.2.2.2)) := by rw [hb2, rn, wrun_s, ← rn, ← hb, hsh, show 21 - (sp - 1) - 1 = 21 - sp by omega]
          have hz0 : snU kd x en l r (s 2) (sp - 1) sp = 0 := by have h9 := @snU_at kd x en l r (s 2) (sp - 1); rw [show sp - 1 + 1 = sp by omega] at h9; exact h9
          have hsf : (cou kd x en (4 ^ (21 - sp)) (l + r - (sp - 1)) b.1 11 ((fun _ => 0), b.2.1, 0, b.2.2.2)).2.2.1 = snF kd x en l r (s 2) (sp - 1 + 1) := by rw [snF, if_neg (by omega), Nat.add_sub_cancel, ← hb2, ← hb, hb3]; exact (Nat.add_sub_cancel _ _).symm
          have hup := snU_up hsf
          rw [show sp - 1 + 1 = sp by omega] at hup
          refine z_eq (ws2 := [eX5 mq mT (nI ty) mD mS (nI ev) mP (nI kn) mI (nI kp) mE (nI sg) at_ mH mX mR mO (lN b2.2.2.2), eI t mS 5 (nf s), eL t mH 363 (lf (emb (l + r - ((sp + 1) - 1)) b2.1)), eL t mX 363 F2_10, eL t mR 11 (lf b2.2.1), eL t mO 22 (lf (snU kd x en l r (s 2) ((sp + 1) - 1)))]) (by rw [hz0, hup, Nat.sub_sub, show sp - 1 + 1 = sp by omega, show sp + 1 - 1 = sp by omega, hb3]; rfl) rfl rfl ?_
          refine z_eq (lv2 := [(6, .long (lN (4 ^ (22 - (sp + 1))))), (0, .ref mq), (1, .int (nI l)), (2, .int (nI r)), (3, .int (nI kd)), (4, .int (nI x)), (5, .int (nI en)), (8, .int (nI sp))]) rfl (by rw [show 22 - (sp + 1) = 21 - sp by omega]) rfl ?_
          refine z_iinc X (pc := 87) (i := 8) 7 (nI (sp + 1)) [(8, .int (nI (sp + 1))), (6, .long (lN (4 ^ (22 - (sp + 1))))), (0, .ref mq), (1, .int (nI l)), (2, .int (nI r)), (3, .int (nI kd)), (4, .int (nI x)), (5, .int (nI en))] dX5_weighs_87 rfl (nI_incc sp 1) (by decide) rfl ?_
          refine z_goto X (pc := 90) 59 dX5_weighs_90 (by decide) ?_
          refine z_lv [2, 3, 4, 5, 6, 7, 1, 0] (lv2 := [(0, .ref mq), (1, .int (nI l)), (2, .int (nI r)), (3, .int (nI kd)), (4, .int (nI x)), (5, .int (nI en)), (6, .long (lN (4 ^ (22 - (sp + 1))))), (8, .int (nI (sp + 1)))]) rfl ?_
          exact ih_59 (sp + 1) b2 F2_10 (by omega) (by omega) (by rw [hb2, show sp - 1 + 1 = sp by omega, show sp + 1 - 1 = sp by omega])
    have hst0 : wst0 en l r (s 2) = (vup (fun _ => 0) (l * 3 + s 2) 1, (fun _ => 0), 0, 0) := by rw [wst0, if_neg (by omega)]
    obtain ⟨b0, hb0⟩ : ∃ b : wA, b = (rn kd x en l r (s 2) 0) := ⟨_, rfl⟩
    have hb1 : b0 = (vup (fun _ => 0) (l * 3 + s 2) 1, (fun _ => 0), 0, 0) := by rw [hb0, rn, wrun_z, hst0]
    have hsn0 : (fun _ => 0) = snU kd x en l r (s 2) (1 - 1) := by funext k; unfold snU snF; by_cases q : k ≤ 1 - 1; rw [if_pos q, if_pos (by omega), ← hb0, hb1]; rw [if_neg q]
    refine z_eq (ws2 := [eX5 mq mT (nI ty) mD mS (nI ev) mP (nI kn) mI (nI kp) mE (nI sg) at_ mH mX mR mO (lN b0.2.2.2), eI t mS 5 (nf s), eL t mH 363 (lf (emb (l + r - (1 - 1)) b0.1)), eL t mX 363 f2, eL t mR 11 (lf b0.2.1), eL t mO 22 (lf (snU kd x en l r (s 2) (1 - 1)))]) (by rw [hb1, ← hsn0]; rfl) rfl rfl ?_
    refine z_lv [2, 3, 4, 5, 6, 7, 1, 0] (lv2 := [(0, .ref mq), (1, .int (nI l)), (2, .int (nI r)), (3, .int (nI kd)), (4, .int (nI x)), (5, .int (nI en)), (6, .long (lN 4398046511104)), (8, .int (nI 1))]) rfl ?_
    exact loop_59 23 1 b0 f2 (by omega) (by omega) hb0
  · skip
    refine z_iload_n X (pc := 10) 1 dX5_weighs_10 rfl ?_
    refine z_if_eqN X (pc := 11) 18 (by omega) dX5_weighs_11 (by decide) (fun c_11 => ?_) (fun c_11 => ?_)
    · skip
      refine z_aload_n X (pc := 18) 0 dX5_weighs_18 rfl ?_
      refine z_get X (pc := 19) 0 14 (.ref mR) tu_5 tw_573 dX5_weighs_19 rfl rfl (by decide) rfl rfl ?_
      refine z_iload_n X (pc := 22) 1 dX5_weighs_22 rfl ?_
      refine z_iload_n X (pc := 23) 2 dX5_weighs_23 rfl ?_
      refine z_iadd X (pc := 24) (v := (nI (l + r))) dX5_weighs_24 (nI_add l r) ?_
      refine z_ldc2 X (pc := 25) (4398046511104) dX5_weighs_25 tw_707 ?_
      refine z_topl (lN 4398046511104) rfl ?_
      refine z_last X (pc := 28) 4 (l + r) (lf (vup (fun _ => 0) (l + r) 4398046511104)) [eX5 mq mT (nI ty) mD mS (nI ev) mP (nI kn) mI (nI kp) mE (nI sg) at_ mH mX mR mO (lN 0), eI t mS 5 (nf s), eL t mH 363 f1, eL t mX 363 f2, eL t mR 11 (lf (vup (fun _ => 0) (l + r) 4398046511104)), eL t mO 22 (lf (fun _ => 0))] dX5_weighs_28 rfl rfl (Nat.le_of_ble_eq_true rfl) (by omega) (updL_lf _ _ _) rfl ?_
      refine z_aload_n X (pc := 29) 0 dX5_weighs_29 rfl ?_
      refine z_get X (pc := 30) 0 15 (.ref mO) tu_5 tw_574 dX5_weighs_30 rfl rfl (by decide) rfl rfl ?_
      refine z_iconst X (pc := 33) (nI 0) dX5_weighs_33 (by decide) ?_
      refine z_ldc2 X (pc := 34) (4398046511104) dX5_weighs_34 tw_707 ?_
      refine z_topl (lN 4398046511104) rfl ?_
      refine z_last X (pc := 37) 5 0 (lf (vup (fun _ => 0) 0 4398046511104)) [eX5 mq mT (nI ty) mD mS (nI ev) mP (nI kn) mI (nI kp) mE (nI sg) at_ mH mX mR mO (lN 0), eI t mS 5 (nf s), eL t mH 363 f1, eL t mX 363 f2, eL t mR 11 (lf (vup (fun _ => 0) (l + r) 4398046511104)), eL t mO 22 (lf (vup (fun _ => 0) 0 4398046511104))] dX5_weighs_37 rfl rfl (Nat.le_of_ble_eq_true rfl) (by decide) (updL_lf _ _ _) rfl ?_
      have hde := fun n => @rn_dead0 kd x en l r (s 2) ⟨by omega, Or.inl c_11⟩ n
      have hst0 : wst0 en l r (s 2) = ((fun _ => 0), vup (fun _ => 0) (l + r) 4398046511104, 4398046511104, if l = 0 then 4398046511104 else 0) := by rw [wst0, if_pos ⟨by omega, Or.inl c_11⟩]
      refine z_lrow 5 (lf (snF kd x en l r (s 2))) [eX5 mq mT (nI ty) mD mS (nI ev) mP (nI kn) mI (nI kp) mE (nI sg) at_ mH mX mR mO (lN 0), eI t mS 5 (nf s), eL t mH 363 f1, eL t mX 363 f2, eL t mR 11 (lf (vup (fun _ => 0) (l + r) 4398046511104)), eL t mO 22 (lf (snF kd x en l r (s 2)))] rfl (fun j hj => by show lN (vup (fun _ => 0) 0 4398046511104 j) = lN _; unfold snF; rw [hde, hde, hde, hst0]; unfold vup; split; rfl; rw [Nat.sub_self]) rfl ?_
      refine z_eq (ws2 := [eX5 mq mT (nI ty) mD mS (nI ev) mP (nI kn) mI (nI kp) mE (nI sg) at_ mH mX mR mO (lN 0), eI t mS 5 (nf s), eL t mH 363 f1, eL t mX 363 f2, eL t mR 11 (lf ((rn kd x en l r (s 2) 21).2.1)), eL t mO 22 (lf (snF kd x en l r (s 2)))]) (by rw [hde, hst0]) rfl rfl ?_
      exact hRet.v dX5_weighs_38 ⟨(lN 0), f1, f2, fun z => by omega, rfl, rfl⟩
    · skip
      refine z_iload_n X (pc := 14) 2 dX5_weighs_14 rfl ?_
      refine z_if_neN X (pc := 15) 39 (by omega) dX5_weighs_15 (by decide) (fun c_15 => ?_) (fun c_15 => ?_)
      · skip
        refine z_aload_n X (pc := 39) 0 dX5_weighs_39 rfl ?_
        refine z_iload_n X (pc := 40) 1 dX5_weighs_40 rfl ?_
        refine z_iload_n X (pc := 41) 2 dX5_weighs_41 rfl ?_
        refine z_aload_n X (pc := 42) 0 dX5_weighs_42 rfl ?_
        refine z_get X (pc := 43) 0 3 (.ref mS) tu_5 tw_562 dX5_weighs_43 rfl rfl (by decide) rfl rfl ?_
        refine z_iconst X (pc := 46) (nI 2) dX5_weighs_46 (by decide) ?_
        refine z_iald X (pc := 47) 1 2 (nI (s 2)) dX5_weighs_47 rfl rfl (Nat.le_of_ble_eq_true rfl) (by decide) rfl ?_
        refine zc_V (as := [.int (nI l), .int (nI r), .int (nI (s 2))]) X (pc := 48) (c_X5_begin0 lq D t mq mT mD mS mP mI mE mH mX mR mO ty ev kn kp sg at_ (lN 0) l r (s 2) f1 (by omega) (by omega) (by omega)) tw_708 tw_711 tw_7 tw_710 tw_1033 0 5 rfl rfl [0, 2] rfl rfl dX5_weighs_48 rfl zdX5_begin0 ⟨rfl, rfl, Nat.le_of_ble_eq_true rfl, Nat.le_of_ble_eq_true rfl⟩ (Nat.le_of_ble_eq_true rfl) (Nat.zero_le _) (Nat.zero_le _) (fun v_11 w_12 hp_13 => ?_)
        obtain ⟨rfl, rfl⟩ := hp_13
        refine ⟨rfl, ?_⟩
        refine z_eq (ws2 := [eX5 mq mT (nI ty) mD mS (nI ev) mP (nI kn) mI (nI kp) mE (nI sg) at_ mH mX mR mO (lN 0), eI t mS 5 (nf s), eL t mH 363 (lf (emb (l + r) (vup (fun _ => 0) (l * 3 + (s 2)) 1))), eL t mX 363 f2, eL t mR 11 (lf (fun _ => 0)), eL t mO 22 (lf (fun _ => 0))]) (st2 := []) rfl rfl rfl ?_
        refine z_ldc2 X (pc := 51) (4398046511104) dX5_weighs_51 tw_707 ?_
        refine z_topl (lN 4398046511104) rfl ?_
        refine z_lstore X (pc := 54) (i := 6) [(6, .long (lN 4398046511104)), (0, .ref mq), (1, .int (nI l)), (2, .int (nI r)), (3, .int (nI kd)), (4, .int (nI x)), (5, .int (nI en))] dX5_weighs_54 trivial (by decide) rfl ?_
        refine z_iconst X (pc := 56) (nI 1) dX5_weighs_56 (by decide) ?_
        refine z_istore X (pc := 57) (i := 8) [(8, .int (nI 1)), (6, .long (lN 4398046511104)), (0, .ref mq), (1, .int (nI l)), (2, .int (nI r)), (3, .int (nI kd)), (4, .int (nI x)), (5, .int (nI en))] dX5_weighs_57 trivial (by decide) rfl ?_
        have loop_59 : ∀ (fuel_59 : Nat) (sp : Nat) (b : wA) (f2 : Nat → Int64), 22 < sp + fuel_59 → (1 ≤ sp ∧ sp ≤ 22) → (b = (rn kd x en l r (s 2) (sp - 1))) → Z D k (0, 0) [eX5 mq mT (nI ty) mD mS (nI ev) mP (nI kn) mI (nI kp) mE (nI sg) at_ mH mX mR mO (lN b.2.2.2), eI t mS 5 (nf s), eL t mH 363 (lf (emb (l + r - (sp - 1)) b.1)), eL t mX 363 f2, eL t mR 11 (lf b.2.1), eL t mO 22 (lf (snU kd x en l r (s 2) (sp - 1)))] 59 [(0, .ref mq), (1, .int (nI l)), (2, .int (nI r)), (3, .int (nI kd)), (4, .int (nI x)), (5, .int (nI en)), (6, .long (lN (4 ^ (22 - sp)))), (8, .int (nI sp))] [] := by
          intro fuel_59
          induction fuel_59 with
          | zero =>
            intro sp b f2 hfuel_59 hsp9 hb
            exfalso; omega
          | succ fuel_59 ih_59 =>
            intro sp b f2 hfuel_59 hsp9 hb
            have hwk := wok_run (kd := kd) (en := en) hx (wok0 (en := en) hl hr hla) (sp - 1)
            rw [show wrun kd x en (l + r) 21 (wst0 en l r (s 2)) (sp - 1) = b from hb.symm] at hwk
            refine z_iload X (pc := 59) 7 dX5_weighs_59 rfl ?_
            refine z_bipush X (pc := 61) (nI 21) dX5_weighs_61 (by decide) ?_
            refine z_icmp_gtN X (pc := 63) 93 (by omega) (by omega) dX5_weighs_63 (by decide) (fun c_63 => ?_) (fun c_63 => ?_)
            · skip
              have hsp : sp = 22 := by omega
              refine z_lrow 5 (lf (snF kd x en l r (s 2))) [eX5 mq mT (nI ty) mD mS (nI ev) mP (nI kn) mI (nI kp) mE (nI sg) at_ mH mX mR mO (lN b.2.2.2), eI t mS 5 (nf s), eL t mH 363 (lf (emb (l + r - (sp - 1)) b.1)), eL t mX 363 f2, eL t mR 11 (lf b.2.1), eL t mO 22 (lf (snF kd x en l r (s 2)))] rfl (fun j hj => by show lN (snU kd x en l r (s 2) (sp - 1) j) = lN _; unfold snU; rw [if_pos (by omega)]) rfl ?_
              exact hRet.v dX5_weighs_93 ⟨(lN b.2.2.2), (lf (emb (l + r - (sp - 1)) b.1)), f2, fun _ => by rw [hb, show sp - 1 = 21 by omega], rfl, by rw [hb, show sp - 1 = 21 by omega]⟩
            · skip
              refine z_lload X (pc := 66) 6 dX5_weighs_66 rfl ?_
              refine z_ldc2 X (pc := 68) (4) dX5_weighs_68 tw_715 ?_
              refine z_topl (lN 4) rfl ?_
              refine z_ldiv X (pc := 71) (v := (lN ((4 ^ (22 - sp)) / 4))) dX5_weighs_71 (by decide) (pk_lDiv (by have h9 : 4 ^ (22 - sp) ≤ 4 ^ 21 := Nat.pow_le_pow_right (by decide) (by omega); have h8 : (4 : Nat) ^ 21 = 4398046511104 := rfl; omega) (by omega) (by omega)) ?_
              refine z_topl (lN (4 ^ (21 - sp))) (by rw [show 22 - sp = (21 - sp) + 1 by omega, Nat.pow_succ, Nat.mul_div_cancel _ (by decide)]) ?_
              refine z_lstore X (pc := 72) (i := 6) [(6, .long (lN (4 ^ (21 - sp)))), (0, .ref mq), (1, .int (nI l)), (2, .int (nI r)), (3, .int (nI kd)), (4, .int (nI x)), (5, .int (nI en)), (8, .int (nI sp))] dX5_weighs_72 trivial (by decide) rfl ?_
              refine z_aload_n X (pc := 74) 1 dX5_weighs_74 rfl ?_
              refine z_iload_n X (pc := 75) 4 dX5_weighs_75 rfl ?_
              refine z_iload X (pc := 76) 5 dX5_weighs_76 rfl ?_
              refine z_iload X (pc := 78) 6 dX5_weighs_78 rfl ?_
              refine z_iload X (pc := 80) 7 dX5_weighs_80 rfl ?_
              refine z_lload X (pc := 82) 0 dX5_weighs_82 rfl ?_
              refine zc_V (as := [.int (nI kd), .int (nI x), .int (nI en), .int (nI sp), .long (lN (4 ^ (21 - sp)))]) X (pc := 84) (c_X5_goes lq D t mq mT mD mS mP mI mE mH mX mR mO ty ev kn kp sg at_ (lN 0) kd x en sp (4 ^ (21 - sp)) (l + r - (sp - 1)) b.2.2.2 b.1 b.2.1 (snU kd x en l r (s 2) (sp - 1)) f2 (by omega) (by omega) (by omega) (by omega) (by omega) hwk.1 (fun c hc => by have h9 := wok_bd hwk hc; have h8 := Nat.le_mul_of_pos_right (b.1 c) (pow4_pos (21 - (sp - 1))); omega)) tw_716 tw_719 tw_7 tw_718 tw_1034 0 5 rfl rfl [0, 2, 3, 4, 5] rfl rfl dX5_weighs_84 rfl zdX5_goes ⟨rfl, rfl, Nat.le_of_ble_eq_true rfl, Nat.le_of_ble_eq_true rfl⟩ (Nat.le_of_ble_eq_true rfl) (Nat.zero_le _) (Nat.zero_le _) (fun v_14 w_15 hp_16 => ?_)
              obtain ⟨F2_17, rfl, rfl⟩ := hp_16
              refine ⟨rfl, ?_⟩
              refine z_eq (ws2 := [eX5 mq mT (nI ty) mD mS (nI ev) mP (nI kn) mI (nI kp) mE (nI sg) at_ mH mX mR mO (lN ((cou kd x en (4 ^ (21 - sp)) (l + r - (sp - 1)) b.1 11 (((fun _ => 0), b.2.1, (snU kd x en l r (s 2) (sp - 1)) sp, b.2.2.2) : wA)).2.2.2)), eI t mS 5 (nf s), eL t mH 363 (lf (emb ((l + r - (sp - 1)) - 1) (cou kd x en (4 ^ (21 - sp)) (l + r - (sp - 1)) b.1 11 (((fun _ => 0), b.2.1, (snU kd x en l r (s 2) (sp - 1)) sp, b.2.2.2) : wA)).1)), eL t mX 363 F2_17, eL t mR 11 (lf ((cou kd x en (4 ^ (21 - sp)) (l + r - (sp - 1)) b.1 11 (((fun _ => 0), b.2.1, (snU kd x en l r (s 2) (sp - 1)) sp, b.2.2.2) : wA)).2.1)), eL t mO 22 (lf (vup (snU kd x en l r (s 2) (sp - 1)) sp (cou kd x en (4 ^ (21 - sp)) (l + r - (sp - 1)) b.1 11 (((fun _ => 0), b.2.1, (snU kd x en l r (s 2) (sp - 1)) sp, b.2.2.2) : wA)).2.2.1))]) (st2 := []) rfl rfl rfl ?_
              obtain ⟨b2, hb2⟩ : ∃ bb : wA, bb = (rn kd x en l r (s 2) (sp - 1 + 1)) := ⟨_, rfl⟩
              have hsh := wst_sh kd x en (l + r - (sp - 1)) (21 - (sp - 1)) b
              have hb3 : b2 = shE b.2.2.1 (cou kd x en (4 ^ (21 - sp)) (l + r - (sp - 1)) b.1 11 ((fun _ => 0), b.2.1, 0, b.2.2.2)) := by rw [hb2, rn, wrun_s, ← rn, ← hb, hsh, show 21 - (sp - 1) - 1 = 21 - sp by omega]
              have hz0 : snU kd x en l r (s 2) (sp - 1) sp = 0 := by have h9 := @snU_at kd x en l r (s 2) (sp - 1); rw [show sp - 1 + 1 = sp by omega] at h9; exact h9
              have hsf : (cou kd x en (4 ^ (21 - sp)) (l + r - (sp - 1)) b.1 11 ((fun _ => 0), b.2.1, 0, b.2.2.2)).2.2.1 = snF kd x en l r (s 2) (sp - 1 + 1) := by rw [snF, if_neg (by omega), Nat.add_sub_cancel, ← hb2, ← hb, hb3]; exact (Nat.add_sub_cancel _ _).symm
              have hup := snU_up hsf
              rw [show sp - 1 + 1 = sp by omega] at hup
              refine z_eq (ws2 := [eX5 mq mT (nI ty) mD mS (nI ev) mP (nI kn) mI (nI kp) mE (nI sg) at_ mH mX mR mO (lN b2.2.2.2), eI t mS 5 (nf s), eL t mH 363 (lf (emb (l + r - ((sp + 1) - 1)) b2.1)), eL t mX 363 F2_17, eL t mR 11 (lf b2.2.1), eL t mO 22 (lf (snU kd x en l r (s 2) ((sp + 1) - 1)))]) (by rw [hz0, hup, Nat.sub_sub, show sp - 1 + 1 = sp by omega, show sp + 1 - 1 = sp by omega, hb3]; rfl) rfl rfl ?_
              refine z_eq (lv2 := [(6, .long (lN (4 ^ (22 - (sp + 1))))), (0, .ref mq), (1, .int (nI l)), (2, .int (nI r)), (3, .int (nI kd)), (4, .int (nI x)), (5, .int (nI en)), (8, .int (nI sp))]) rfl (by rw [show 22 - (sp + 1) = 21 - sp by omega]) rfl ?_
              refine z_iinc X (pc := 87) (i := 8) 7 (nI (sp + 1)) [(8, .int (nI (sp + 1))), (6, .long (lN (4 ^ (22 - (sp + 1))))), (0, .ref mq), (1, .int (nI l)), (2, .int (nI r)), (3, .int (nI kd)), (4, .int (nI x)), (5, .int (nI en))] dX5_weighs_87 rfl (nI_incc sp 1) (by decide) rfl ?_
              refine z_goto X (pc := 90) 59 dX5_weighs_90 (by decide) ?_
              refine z_lv [2, 3, 4, 5, 6, 7, 1, 0] (lv2 := [(0, .ref mq), (1, .int (nI l)), (2, .int (nI r)), (3, .int (nI kd)), (4, .int (nI x)), (5, .int (nI en)), (6, .long (lN (4 ^ (22 - (sp + 1))))), (8, .int (nI (sp + 1)))]) rfl ?_
              exact ih_59 (sp + 1) b2 F2_17 (by omega) (by omega) (by rw [hb2, show sp - 1 + 1 = sp by omega, show sp + 1 - 1 = sp by omega])
        have hst0 : wst0 en l r (s 2) = (vup (fun _ => 0) (l * 3 + s 2) 1, (fun _ => 0), 0, 0) := by rw [wst0, if_neg (by omega)]
        obtain ⟨b0, hb0⟩ : ∃ b : wA, b = (rn kd x en l r (s 2) 0) := ⟨_, rfl⟩
        have hb1 : b0 = (vup (fun _ => 0) (l * 3 + s 2) 1, (fun _ => 0), 0, 0) := by rw [hb0, rn, wrun_z, hst0]
        have hsn0 : (fun _ => 0) = snU kd x en l r (s 2) (1 - 1) := by funext k; unfold snU snF; by_cases q : k ≤ 1 - 1; rw [if_pos q, if_pos (by omega), ← hb0, hb1]; rw [if_neg q]
        refine z_eq (ws2 := [eX5 mq mT (nI ty) mD mS (nI ev) mP (nI kn) mI (nI kp) mE (nI sg) at_ mH mX mR mO (lN b0.2.2.2), eI t mS 5 (nf s), eL t mH 363 (lf (emb (l + r - (1 - 1)) b0.1)), eL t mX 363 f2, eL t mR 11 (lf b0.2.1), eL t mO 22 (lf (snU kd x en l r (s 2) (1 - 1)))]) (by rw [hb1, ← hsn0]; rfl) rfl rfl ?_
        refine z_lv [2, 3, 4, 5, 6, 7, 1, 0] (lv2 := [(0, .ref mq), (1, .int (nI l)), (2, .int (nI r)), (3, .int (nI kd)), (4, .int (nI x)), (5, .int (nI en)), (6, .long (lN 4398046511104)), (8, .int (nI 1))]) rfl ?_
        exact loop_59 23 1 b0 f2 (by omega) (by omega) hb0
      · skip
        refine z_aload_n X (pc := 18) 0 dX5_weighs_18 rfl ?_
        refine z_get X (pc := 19) 0 14 (.ref mR) tu_5 tw_573 dX5_weighs_19 rfl rfl (by decide) rfl rfl ?_
        refine z_iload_n X (pc := 22) 1 dX5_weighs_22 rfl ?_
        refine z_iload_n X (pc := 23) 2 dX5_weighs_23 rfl ?_
        refine z_iadd X (pc := 24) (v := (nI (l + r))) dX5_weighs_24 (nI_add l r) ?_
        refine z_ldc2 X (pc := 25) (4398046511104) dX5_weighs_25 tw_707 ?_
        refine z_topl (lN 4398046511104) rfl ?_
        refine z_last X (pc := 28) 4 (l + r) (lf (vup (fun _ => 0) (l + r) 4398046511104)) [eX5 mq mT (nI ty) mD mS (nI ev) mP (nI kn) mI (nI kp) mE (nI sg) at_ mH mX mR mO (lN 0), eI t mS 5 (nf s), eL t mH 363 f1, eL t mX 363 f2, eL t mR 11 (lf (vup (fun _ => 0) (l + r) 4398046511104)), eL t mO 22 (lf (fun _ => 0))] dX5_weighs_28 rfl rfl (Nat.le_of_ble_eq_true rfl) (by omega) (updL_lf _ _ _) rfl ?_
        refine z_aload_n X (pc := 29) 0 dX5_weighs_29 rfl ?_
        refine z_get X (pc := 30) 0 15 (.ref mO) tu_5 tw_574 dX5_weighs_30 rfl rfl (by decide) rfl rfl ?_
        refine z_iconst X (pc := 33) (nI 0) dX5_weighs_33 (by decide) ?_
        refine z_ldc2 X (pc := 34) (4398046511104) dX5_weighs_34 tw_707 ?_
        refine z_topl (lN 4398046511104) rfl ?_
        refine z_last X (pc := 37) 5 0 (lf (vup (fun _ => 0) 0 4398046511104)) [eX5 mq mT (nI ty) mD mS (nI ev) mP (nI kn) mI (nI kp) mE (nI sg) at_ mH mX mR mO (lN 0), eI t mS 5 (nf s), eL t mH 363 f1, eL t mX 363 f2, eL t mR 11 (lf (vup (fun _ => 0) (l + r) 4398046511104)), eL t mO 22 (lf (vup (fun _ => 0) 0 4398046511104))] dX5_weighs_37 rfl rfl (Nat.le_of_ble_eq_true rfl) (by decide) (updL_lf _ _ _) rfl ?_
        have hde := fun n => @rn_dead0 kd x en l r (s 2) ⟨by omega, Or.inr c_15⟩ n
        have hst0 : wst0 en l r (s 2) = ((fun _ => 0), vup (fun _ => 0) (l + r) 4398046511104, 4398046511104, if l = 0 then 4398046511104 else 0) := by rw [wst0, if_pos ⟨by omega, Or.inr c_15⟩]
        refine z_lrow 5 (lf (snF kd x en l r (s 2))) [eX5 mq mT (nI ty) mD mS (nI ev) mP (nI kn) mI (nI kp) mE (nI sg) at_ mH mX mR mO (lN 0), eI t mS 5 (nf s), eL t mH 363 f1, eL t mX 363 f2, eL t mR 11 (lf (vup (fun _ => 0) (l + r) 4398046511104)), eL t mO 22 (lf (snF kd x en l r (s 2)))] rfl (fun j hj => by show lN (vup (fun _ => 0) 0 4398046511104 j) = lN _; unfold snF; rw [hde, hde, hde, hst0]; unfold vup; split; rfl; rw [Nat.sub_self]) rfl ?_
        refine z_eq (ws2 := [eX5 mq mT (nI ty) mD mS (nI ev) mP (nI kn) mI (nI kp) mE (nI sg) at_ mH mX mR mO (lN 0), eI t mS 5 (nf s), eL t mH 363 f1, eL t mX 363 f2, eL t mR 11 (lf ((rn kd x en l r (s 2) 21).2.1)), eL t mO 22 (lf (snF kd x en l r (s 2)))]) (by rw [hde, hst0]) rfl rfl ?_
        exact hRet.v dX5_weighs_38 ⟨(lN 0), f1, f2, fun z => by omega, rfl, rfl⟩

abbrev rm_X5_weighsNow : Room := { frames := 3, cells := 0, slots := 0, locals := 90 }
set_option maxHeartbeats 4000000 in
set_option maxRecDepth 100000 in
theorem c_X5_weighsNow (lq : Launch) (D : va_G) (t : zT) (mq mT mD mS mP mI mE mH mX mR mO ty ev kn kp sg : Nat) (at_ : Int32) (fs : Int64) (s : Nat → Nat) (f1 f2 f3 f4 : Nat → Int64) (en : Nat) (hs : sOk s) (hen : en ≤ 1) : Ct lq D t yX5_weighsNow cX5_weighsNow 2 none rm_X5_weighsNow [.ref mq, .int (nI en)] [eX5 mq mT (nI ty) mD mS (nI ev) mP (nI kn) mI (nI kp) mE (nI sg) at_ mH mX mR mO fs, eI t mS 5 (nf s), eL t mH 363 f1, eL t mX 363 f2, eL t mR 11 f3, eL t mO 22 f4] 0 0 (fun rv rw_ => ∃ (FS : Int64) (F1 : Nat → Int64) (F2 : Nat → Int64), (en = 0 → FS = lN (rn (s 3) (s 4) en (s 0) (s 1) (s 2) 21).2.2.2) ∧ rv = none ∧ rw_ = [eX5 mq mT (nI ty) mD mS (nI ev) mP (nI kn) mI (nI kp) mE (nI sg) at_ mH mX mR mO FS, eI t mS 5 (nf s), eL t mH 363 F1, eL t mX 363 F2, eL t mR 11 (lf ((rn (s 3) (s 4) en (s 0) (s 1) (s 2) 21).2.1)), eL t mO 22 (lf (snF (s 3) (s 4) en (s 0) (s 1) (s 2)))]) := by
  refine Ct.of (by decide) (Nat.le_of_ble_eq_true rfl) (fun k X hRet => ?_)
  have X : zX D t k cX5_weighsNow 2 RX5 "weighsNow" rm_X5_weighsNow lq := X
  refine z_eq (lv2 := [(0, .ref mq), (1, .int (nI en))]) rfl rfl rfl ?_
  obtain ⟨hs0, hs1, hs2, hs3, hs4⟩ := hs
  refine z_aload_n X (pc := 0) 0 dX5_weighsNow_0 rfl ?_
  refine z_aload_n X (pc := 1) 0 dX5_weighsNow_1 rfl ?_
  refine z_get X (pc := 2) 0 3 (.ref mS) tu_5 tw_562 dX5_weighsNow_2 rfl rfl (by decide) rfl rfl ?_
  refine z_iconst X (pc := 5) (nI 0) dX5_weighsNow_5 (by decide) ?_
  refine z_iald X (pc := 6) 1 0 (nI (s 0)) dX5_weighsNow_6 rfl rfl (Nat.le_of_ble_eq_true rfl) (by decide) rfl ?_
  refine z_aload_n X (pc := 7) 0 dX5_weighsNow_7 rfl ?_
  refine z_get X (pc := 8) 0 3 (.ref mS) tu_5 tw_562 dX5_weighsNow_8 rfl rfl (by decide) rfl rfl ?_
  refine z_iconst X (pc := 11) (nI 1) dX5_weighsNow_11 (by decide) ?_
  refine z_iald X (pc := 12) 1 1 (nI (s 1)) dX5_weighsNow_12 rfl rfl (Nat.le_of_ble_eq_true rfl) (by decide) rfl ?_
  refine z_aload_n X (pc := 13) 0 dX5_weighsNow_13 rfl ?_
  refine z_get X (pc := 14) 0 3 (.ref mS) tu_5 tw_562 dX5_weighsNow_14 rfl rfl (by decide) rfl rfl ?_
  refine z_iconst X (pc := 17) (nI 3) dX5_weighsNow_17 (by decide) ?_
  refine z_iald X (pc := 18) 1 3 (nI (s 3)) dX5_weighsNow_18 rfl rfl (Nat.le_of_ble_eq_true rfl) (by decide) rfl ?_
  refine z_aload_n X (pc := 19) 0 dX5_weighsNow_19 rfl ?_
  refine z_get X (pc := 20) 0 3 (.ref mS) tu_5 tw_562 dX5_weighsNow_20 rfl rfl (by decide) rfl rfl ?_
  refine z_iconst X (pc := 23) (nI 4) dX5_weighsNow_23 (by decide) ?_
  refine z_iald X (pc := 24) 1 4 (nI (s 4)) dX5_weighsNow_24 rfl rfl (Nat.le_of_ble_eq_true rfl) (by decide) rfl ?_
  refine z_iload_n X (pc := 25) 1 dX5_weighsNow_25 rfl ?_
  refine zc_V (as := [.int (nI (s 0)), .int (nI (s 1)), .int (nI (s 3)), .int (nI (s 4)), .int (nI en)]) X (pc := 26) (c_X5_weighs lq D t mq mT mD mS mP mI mE mH mX mR mO ty ev kn kp sg at_ fs s f1 f2 f3 f4 (s 0) (s 1) (s 3) (s 4) en (by omega) (by omega) hs2 (by omega) (by omega) (by omega)) tw_699 tw_702 tw_7 tw_701 tw_1031 0 5 rfl rfl [0, 1, 2, 3, 4, 5] rfl rfl dX5_weighsNow_26 rfl zdX5_weighs ⟨rfl, rfl, Nat.le_of_ble_eq_true rfl, Nat.le_of_ble_eq_true rfl⟩ (Nat.le_of_ble_eq_true rfl) (Nat.zero_le _) (Nat.zero_le _) (fun v_1 w_2 hp_3 => ?_)
  obtain ⟨FS_4, F1_5, F2_6, hf_7, rfl, rfl⟩ := hp_3
  refine ⟨rfl, ?_⟩
  refine z_eq (ws2 := [eX5 mq mT (nI ty) mD mS (nI ev) mP (nI kn) mI (nI kp) mE (nI sg) at_ mH mX mR mO FS_4, eI t mS 5 (nf s), eL t mH 363 F1_5, eL t mX 363 F2_6, eL t mR 11 (lf ((rn (s 3) (s 4) en (s 0) (s 1) (s 2) 21).2.1)), eL t mO 22 (lf (snF (s 3) (s 4) en (s 0) (s 1) (s 2)))]) (st2 := []) rfl rfl rfl ?_
  exact hRet.v dX5_weighsNow_29 ⟨FS_4, F1_5, F2_6, hf_7, rfl, rfl⟩

abbrev rm_X5_left : Room := { frames := 4, cells := 0, slots := 0, locals := 111 }
set_option maxHeartbeats 4000000 in
set_option maxRecDepth 100000 in
theorem c_X5_left (lq : Launch) (D : va_G) (t : zT) (mq mT mD mS mP mI mE mH mX mR mO ty ev kn kp sg : Nat) (at_ : Int32) (fs : Int64) (s : Nat → Nat) (f1 f2 f3 f4 : Nat → Int64) (e f : Int32) (hs : sOk s) : Ct lq D t yX5_left cX5_left 3 (some .int) rm_X5_left [.ref mq, .int e, .int f] [eX5 mq mT (nI ty) mD mS (nI ev) mP (nI kn) mI (nI kp) mE (nI sg) at_ mH mX mR mO fs, eI t mS 5 (nf s), eL t mH 363 f1, eL t mX 363 f2, eL t mR 11 f3, eL t mO 22 f4] 0 0 (fun rv rw_ => ∃ (FS : Int64) (F1 : Nat → Int64) (F2 : Nat → Int64) (F3 : Nat → Int64) (F4 : Nat → Int64), rv = some (.int (an_left s (dz 0 1 e) (dz 0 10 f))) ∧ rw_ = [eX5 mq mT (nI ty) mD mS (nI ev) mP (nI kn) mI (nI kp) mE (nI sg) at_ mH mX mR mO FS, eI t mS 5 (nf s), eL t mH 363 F1, eL t mX 363 F2, eL t mR 11 F3, eL t mO 22 F4]) := by
  refine Ct.of (by decide) (Nat.le_of_ble_eq_true rfl) (fun k X hRet => ?_)
  have X : zX D t k cX5_left 3 RX5 "left" rm_X5_left lq := X
  refine z_eq (lv2 := [(0, .ref mq), (1, .int e), (2, .int f)]) rfl rfl rfl ?_
  have hsk := hs
  obtain ⟨hs0, hs1, hs2, hs3, hs4⟩ := hs
  refine z_iload_n X (pc := 0) 1 dX5_left_0 rfl ?_
  refine zc_S (as := [.int e]) X (pc := 1) (c_X5_isEnd lq D t e ) tw_692 tw_694 tw_7 tw_693 [] rfl rfl dX5_left_1 rfl zdX5_isEnd ⟨rfl, rfl, Nat.le_of_ble_eq_true rfl, Nat.le_of_ble_eq_true rfl⟩ (Nat.le_of_ble_eq_true rfl) (Nat.zero_le _) (Nat.zero_le _) (fun v_1 w_2 hp_3 => ?_)
  obtain ⟨rfl, rfl⟩ := hp_3
  refine ⟨rfl, ?_⟩
  refine z_eq (ws2 := [eX5 mq mT (nI ty) mD mS (nI ev) mP (nI kn) mI (nI kp) mE (nI sg) at_ mH mX mR mO fs, eI t mS 5 (nf s), eL t mH 363 f1, eL t mX 363 f2, eL t mR 11 f3, eL t mO 22 f4]) (st2 := [.int (zb (nI 0 ≤ e ∧ e ≤ nI 1))]) rfl rfl rfl ?_
  refine z_if_eqB X (pc := 4) 17 dX5_left_4 (by decide) (fun c_4 => ?_) (fun c_4 => ?_)
  · skip
    refine z_iconst X (pc := 17) (-1) dX5_left_17 (by decide) ?_
    exact hRet.i dX5_left_18 ⟨fs, f1, f2, f3, f4, by rw [dz_bad (a := 0) (b := 1) c_4]; rfl, rfl⟩
  · skip
    refine z_iload_n X (pc := 7) 2 dX5_left_7 rfl ?_
    refine z_iconst X (pc := 8) (nI 0) dX5_left_8 (by decide) ?_
    refine z_bipush X (pc := 9) (nI 10) dX5_left_9 (by decide) ?_
    refine zc_S (as := [.int f, .int (nI 0), .int (nI 10)]) X (pc := 11) (c_X5_in lq D t f (nI 0) (nI 10) ) tw_615 tw_617 tw_7 tw_616 [] rfl rfl dX5_left_11 rfl zdX5_in ⟨rfl, rfl, Nat.le_of_ble_eq_true rfl, Nat.le_of_ble_eq_true rfl⟩ (Nat.le_of_ble_eq_true rfl) (Nat.zero_le _) (Nat.zero_le _) (fun v_4 w_5 hp_6 => ?_)
    obtain ⟨rfl, rfl⟩ := hp_6
    refine ⟨rfl, ?_⟩
    refine z_eq (ws2 := [eX5 mq mT (nI ty) mD mS (nI ev) mP (nI kn) mI (nI kp) mE (nI sg) at_ mH mX mR mO fs, eI t mS 5 (nf s), eL t mH 363 f1, eL t mX 363 f2, eL t mR 11 f3, eL t mO 22 f4]) (st2 := [.int (zb ((nI 0) ≤ f ∧ f ≤ (nI 10)))]) rfl rfl rfl ?_
    refine z_if_neB X (pc := 14) 19 dX5_left_14 (by decide) (fun c_14 => ?_) (fun c_14 => ?_)
    · skip
      obtain ⟨en, en_lo, en_hi, rfl⟩ := inR (by decide) (by decide) c_4
      obtain ⟨q, q_lo, q_hi, rfl⟩ := inR (by decide) (by decide) c_14
      refine z_aload_n X (pc := 19) 0 dX5_left_19 rfl ?_
      refine z_iload_n X (pc := 20) 1 dX5_left_20 rfl ?_
      refine zc_V (as := [.int (nI en)]) X (pc := 21) (c_X5_weighsNow lq D t mq mT mD mS mP mI mE mH mX mR mO ty ev kn kp sg at_ fs s f1 f2 f3 f4 en hsk (by omega)) tw_695 tw_698 tw_7 tw_697 tw_1030 0 5 rfl rfl [0, 1, 2, 3, 4, 5] rfl rfl dX5_left_21 rfl zdX5_weighsNow ⟨rfl, rfl, Nat.le_of_ble_eq_true rfl, Nat.le_of_ble_eq_true rfl⟩ (Nat.le_of_ble_eq_true rfl) (Nat.zero_le _) (Nat.zero_le _) (fun v_7 w_8 hp_9 => ?_)
      obtain ⟨FS_10, F1_11, F2_12, hf_13, rfl, rfl⟩ := hp_9
      refine ⟨rfl, ?_⟩
      refine z_eq (ws2 := [eX5 mq mT (nI ty) mD mS (nI ev) mP (nI kn) mI (nI kp) mE (nI sg) at_ mH mX mR mO FS_10, eI t mS 5 (nf s), eL t mH 363 F1_11, eL t mX 363 F2_12, eL t mR 11 (lf ((rn (s 3) (s 4) en (s 0) (s 1) (s 2) 21).2.1)), eL t mO 22 (lf (snF (s 3) (s 4) en (s 0) (s 1) (s 2)))]) (st2 := []) rfl rfl rfl ?_
      refine z_aload_n X (pc := 24) 0 dX5_left_24 rfl ?_
      refine z_get X (pc := 25) 0 14 (.ref mR) tu_5 tw_573 dX5_left_25 rfl rfl (by decide) rfl rfl ?_
      refine z_iload_n X (pc := 28) 2 dX5_left_28 rfl ?_
      refine z_lald X (pc := 29) 4 q (lN (((rn (s 3) (s 4) en (s 0) (s 1) (s 2) 21).2.1) q)) dX5_left_29 rfl rfl (Nat.le_of_ble_eq_true rfl) (by omega) rfl ?_
      refine z_ldc2 X (pc := 30) (4398046511104) dX5_left_30 tw_707 ?_
      refine z_topl (lN 4398046511104) rfl ?_
      refine zc_S (as := [.long (lN (((rn (s 3) (s 4) en (s 0) (s 1) (s 2) 21).2.1) q)), .long (lN 4398046511104)]) X (pc := 33) (c_X5_cut lq D t (((rn (s 3) (s 4) en (s 0) (s 1) (s 2) 21).2.1) q) 4398046511104 (rn_os hs4 hs0 hs1 hs2) (by decide)) tw_720 tw_722 tw_7 tw_721 [] rfl rfl dX5_left_33 rfl zdX5_cut ⟨rfl, rfl, Nat.le_of_ble_eq_true rfl, Nat.le_of_ble_eq_true rfl⟩ (Nat.le_of_ble_eq_true rfl) (Nat.zero_le _) (Nat.zero_le _) (fun v_14 w_15 hp_16 => ?_)
      obtain ⟨rfl, rfl⟩ := hp_16
      refine ⟨rfl, ?_⟩
      refine z_eq (ws2 := [eX5 mq mT (nI ty) mD mS (nI ev) mP (nI kn) mI (nI kp) mE (nI sg) at_ mH mX mR mO FS_10, eI t mS 5 (nf s), eL t mH 363 F1_11, eL t mX 363 F2_12, eL t mR 11 (lf ((rn (s 3) (s 4) en (s 0) (s 1) (s 2) 21).2.1)), eL t mO 22 (lf (snF (s 3) (s 4) en (s 0) (s 1) (s 2)))]) (st2 := [.int (nI (10000 * (((rn (s 3) (s 4) en (s 0) (s 1) (s 2) 21).2.1) q) / 4398046511104))]) rfl rfl rfl ?_
      exact hRet.i dX5_left_36 ⟨FS_10, F1_11, F2_12, (lf ((rn (s 3) (s 4) en (s 0) (s 1) (s 2) 21).2.1)), (lf (snF (s 3) (s 4) en (s 0) (s 1) (s 2))), by rw [dz_ok (j := en) (a := 0) (b := 1) (by decide) en_lo en_hi, dz_ok (j := q) (a := 0) (b := 10) (by decide) q_lo q_hi, Nat.mul_comm]; rfl, rfl⟩
    · skip
      refine z_iconst X (pc := 17) (-1) dX5_left_17 (by decide) ?_
      exact hRet.i dX5_left_18 ⟨fs, f1, f2, f3, f4, by rw [dz_bad (a := 0) (b := 10) c_14]; cases dz 0 1 e <;> rfl, rfl⟩

abbrev rm_X5_mean : Room := { frames := 4, cells := 0, slots := 0, locals := 111 }
set_option maxHeartbeats 4000000 in
set_option maxRecDepth 100000 in
theorem c_X5_mean (lq : Launch) (D : va_G) (t : zT) (mq mT mD mS mP mI mE mH mX mR mO ty ev kn kp sg : Nat) (at_ : Int32) (fs : Int64) (s : Nat → Nat) (f1 f2 f3 f4 : Nat → Int64) (e : Int32) (hs : sOk s) : Ct lq D t yX5_mean cX5_mean 5 (some .int) rm_X5_mean [.ref mq, .int e] [eX5 mq mT (nI ty) mD mS (nI ev) mP (nI kn) mI (nI kp) mE (nI sg) at_ mH mX mR mO fs, eI t mS 5 (nf s), eL t mH 363 f1, eL t mX 363 f2, eL t mR 11 f3, eL t mO 22 f4] 0 0 (fun rv rw_ => ∃ (FS : Int64) (F1 : Nat → Int64) (F2 : Nat → Int64) (F3 : Nat → Int64) (F4 : Nat → Int64), rv = some (.int (an_mean s (dz 0 1 e))) ∧ rw_ = [eX5 mq mT (nI ty) mD mS (nI ev) mP (nI kn) mI (nI kp) mE (nI sg) at_ mH mX mR mO FS, eI t mS 5 (nf s), eL t mH 363 F1, eL t mX 363 F2, eL t mR 11 F3, eL t mO 22 F4]) := by
  refine Ct.of (by decide) (Nat.le_of_ble_eq_true rfl) (fun k X hRet => ?_)
  have X : zX D t k cX5_mean 5 RX5 "mean" rm_X5_mean lq := X
  refine z_eq (lv2 := [(0, .ref mq), (1, .int e)]) rfl rfl rfl ?_
  have hsk := hs
  obtain ⟨hs0, hs1, hs2, hs3, hs4⟩ := hs
  refine z_iload_n X (pc := 0) 1 dX5_mean_0 rfl ?_
  refine zc_S (as := [.int e]) X (pc := 1) (c_X5_isEnd lq D t e ) tw_692 tw_694 tw_7 tw_693 [] rfl rfl dX5_mean_1 rfl zdX5_isEnd ⟨rfl, rfl, Nat.le_of_ble_eq_true rfl, Nat.le_of_ble_eq_true rfl⟩ (Nat.le_of_ble_eq_true rfl) (Nat.zero_le _) (Nat.zero_le _) (fun v_1 w_2 hp_3 => ?_)
  obtain ⟨rfl, rfl⟩ := hp_3
  refine ⟨rfl, ?_⟩
  refine z_eq (ws2 := [eX5 mq mT (nI ty) mD mS (nI ev) mP (nI kn) mI (nI kp) mE (nI sg) at_ mH mX mR mO fs, eI t mS 5 (nf s), eL t mH 363 f1, eL t mX 363 f2, eL t mR 11 f3, eL t mO 22 f4]) (st2 := [.int (zb (nI 0 ≤ e ∧ e ≤ nI 1))]) rfl rfl rfl ?_
  refine z_if_neB X (pc := 4) 9 dX5_mean_4 (by decide) (fun c_4 => ?_) (fun c_4 => ?_)
  · skip
    obtain ⟨en, en_lo, en_hi, rfl⟩ := inR (by decide) (by decide) c_4
    refine z_aload_n X (pc := 9) 0 dX5_mean_9 rfl ?_
    refine z_iload_n X (pc := 10) 1 dX5_mean_10 rfl ?_
    refine zc_V (as := [.int (nI en)]) X (pc := 11) (c_X5_weighsNow lq D t mq mT mD mS mP mI mE mH mX mR mO ty ev kn kp sg at_ fs s f1 f2 f3 f4 en hsk (by omega)) tw_695 tw_698 tw_7 tw_697 tw_1030 0 5 rfl rfl [0, 1, 2, 3, 4, 5] rfl rfl dX5_mean_11 rfl zdX5_weighsNow ⟨rfl, rfl, Nat.le_of_ble_eq_true rfl, Nat.le_of_ble_eq_true rfl⟩ (Nat.le_of_ble_eq_true rfl) (Nat.zero_le _) (Nat.zero_le _) (fun v_4 w_5 hp_6 => ?_)
    obtain ⟨FS_7, F1_8, F2_9, hf_10, rfl, rfl⟩ := hp_6
    refine ⟨rfl, ?_⟩
    refine z_eq (ws2 := [eX5 mq mT (nI ty) mD mS (nI ev) mP (nI kn) mI (nI kp) mE (nI sg) at_ mH mX mR mO FS_7, eI t mS 5 (nf s), eL t mH 363 F1_8, eL t mX 363 F2_9, eL t mR 11 (lf ((rn (s 3) (s 4) en (s 0) (s 1) (s 2) 21).2.1)), eL t mO 22 (lf (snF (s 3) (s 4) en (s 0) (s 1) (s 2)))]) (st2 := []) rfl rfl rfl ?_
    refine z_lconst X (pc := 14) (lN 0) dX5_mean_14 (by decide) ?_
    refine z_lstore_n X (pc := 15) (i := 2) [(2, .long (lN 0)), (0, .ref mq), (1, .int (nI en))] dX5_mean_15 rfl (by decide) rfl ?_
    refine z_iconst X (pc := 16) (nI 0) dX5_mean_16 (by decide) ?_
    refine z_istore X (pc := 17) (i := 4) [(4, .int (nI 0)), (2, .long (lN 0)), (0, .ref mq), (1, .int (nI en))] dX5_mean_17 trivial (by decide) rfl ?_
    have loop_19 : ∀ (fuel_19 : Nat) (j : Nat) (su : Nat), 11 < j + fuel_19 → (j ≤ 11) → (su = sm (fun k => k * (rn (s 3) (s 4) en (s 0) (s 1) (s 2) 21).2.1 k) j) → Z D k (0, 0) [eX5 mq mT (nI ty) mD mS (nI ev) mP (nI kn) mI (nI kp) mE (nI sg) at_ mH mX mR mO FS_7, eI t mS 5 (nf s), eL t mH 363 F1_8, eL t mX 363 F2_9, eL t mR 11 (lf ((rn (s 3) (s 4) en (s 0) (s 1) (s 2) 21).2.1)), eL t mO 22 (lf (snF (s 3) (s 4) en (s 0) (s 1) (s 2)))] 19 [(0, .ref mq), (2, .long (lN su)), (4, .int (nI j))] [] := by
      intro fuel_19
      induction fuel_19 with
      | zero =>
        intro j su hfuel_19 hj hsu
        exfalso; omega
      | succ fuel_19 ih_19 =>
        intro j su hfuel_19 hj hsu
        refine z_iload X (pc := 19) 2 dX5_mean_19 rfl ?_
        refine z_bipush X (pc := 21) (nI 11) dX5_mean_21 (by decide) ?_
        refine z_icmp_geN X (pc := 23) 46 (by omega) (by omega) dX5_mean_23 (by decide) (fun c_23 => ?_) (fun c_23 => ?_)
        · skip
          have hj11 : j = 11 := by omega
          have hsb : su < 2 ^ 50 := (by rw [hsu, hj11]; have h9 := sm_bound (f := fun k => k * (rn (s 3) (s 4) en (s 0) (s 1) (s 2) 21).2.1 k) (c := 10 * 4398046511104) (n := 11) (fun k hk => Nat.mul_le_mul (by omega) (rn_os hs4 hs0 hs1 hs2)); omega)
          refine z_ldc2 X (pc := 46) (100) dX5_mean_46 tw_728 ?_
          refine z_topl (lN 100) rfl ?_
          refine z_lload_n X (pc := 49) 1 dX5_mean_49 rfl ?_
          refine z_lmul X (pc := 50) (v := (lN (100 * su))) dX5_mean_50 (lN_mul _ _) ?_
          refine z_ldc2 X (pc := 51) (4398046511104) dX5_mean_51 tw_707 ?_
          refine z_topl (lN 4398046511104) rfl ?_
          refine z_ldiv X (pc := 54) (v := (lN ((100 * su) / 4398046511104))) dX5_mean_54 (by decide) (pk_lDiv (by omega) (by omega) (by omega)) ?_
          refine z_l2i X (pc := 55) (v := (nI ((100 * su) / 4398046511104))) dX5_mean_55 (lN_i _) ?_
          exact hRet.i dX5_mean_56 ⟨FS_7, F1_8, F2_9, (lf ((rn (s 3) (s 4) en (s 0) (s 1) (s 2) 21).2.1)), (lf (snF (s 3) (s 4) en (s 0) (s 1) (s 2))), by rw [dz_ok (j := en) (a := 0) (b := 1) (by decide) en_lo en_hi, hsu, hj11, Nat.mul_comm]; rfl, rfl⟩
        · skip
          refine z_lload_n X (pc := 26) 1 dX5_mean_26 rfl ?_
          refine z_iload X (pc := 27) 2 dX5_mean_27 rfl ?_
          refine z_i2l X (pc := 29) (v := (lN j)) dX5_mean_29 (nI_l (by omega)) ?_
          refine z_aload_n X (pc := 30) 0 dX5_mean_30 rfl ?_
          refine z_get X (pc := 31) 0 14 (.ref mR) tu_5 tw_573 dX5_mean_31 rfl rfl (by decide) rfl rfl ?_
          refine z_iload X (pc := 34) 2 dX5_mean_34 rfl ?_
          refine z_lald X (pc := 36) 4 j (lN (((rn (s 3) (s 4) en (s 0) (s 1) (s 2) 21).2.1) j)) dX5_mean_36 rfl rfl (Nat.le_of_ble_eq_true rfl) (by omega) rfl ?_
          refine z_lmul X (pc := 37) (v := (lN (j * (((rn (s 3) (s 4) en (s 0) (s 1) (s 2) 21).2.1) j)))) dX5_mean_37 (lN_mul _ _) ?_
          refine z_ladd X (pc := 38) (v := (lN (su + (j * (((rn (s 3) (s 4) en (s 0) (s 1) (s 2) 21).2.1) j))))) dX5_mean_38 (lN_add su (j * (((rn (s 3) (s 4) en (s 0) (s 1) (s 2) 21).2.1) j))) ?_
          refine z_lstore_n X (pc := 39) (i := 2) [(2, .long (lN (su + (j * (((rn (s 3) (s 4) en (s 0) (s 1) (s 2) 21).2.1) j))))), (0, .ref mq), (4, .int (nI j))] dX5_mean_39 rfl (by decide) rfl ?_
          refine z_iinc X (pc := 40) (i := 4) 2 (nI (j + 1)) [(4, .int (nI (j + 1))), (2, .long (lN (su + (j * (((rn (s 3) (s 4) en (s 0) (s 1) (s 2) 21).2.1) j))))), (0, .ref mq)] dX5_mean_40 rfl (nI_incc j 1) (by decide) rfl ?_
          refine z_goto X (pc := 43) 19 dX5_mean_43 (by decide) ?_
          refine z_lv [2, 1, 0] (lv2 := [(0, .ref mq), (2, .long (lN (su + (j * (((rn (s 3) (s 4) en (s 0) (s 1) (s 2) 21).2.1) j))))), (4, .int (nI (j + 1)))]) rfl ?_
          exact ih_19 (j + 1) (su + j * (rn (s 3) (s 4) en (s 0) (s 1) (s 2) 21).2.1 j) (by omega) (by omega) (by rw [sm_s, hsu])
    refine z_lv [2, 1, 0] (lv2 := [(0, .ref mq), (2, .long (lN 0)), (4, .int (nI 0))]) rfl ?_
    exact loop_19 12 0 0 (by omega) (by omega) (sm_z _).symm
  · skip
    refine z_iconst X (pc := 7) (-1) dX5_mean_7 (by decide) ?_
    exact hRet.i dX5_mean_8 ⟨fs, f1, f2, f3, f4, by rw [dz_bad c_4]; rfl, rfl⟩

abbrev rm_X5_soon : Room := { frames := 4, cells := 0, slots := 0, locals := 111 }
set_option maxHeartbeats 4000000 in
set_option maxRecDepth 100000 in
theorem c_X5_soon (lq : Launch) (D : va_G) (t : zT) (mq mT mD mS mP mI mE mH mX mR mO ty ev kn kp sg : Nat) (at_ : Int32) (fs : Int64) (s : Nat → Nat) (f1 f2 f3 f4 : Nat → Int64) (e f : Int32) (hs : sOk s) : Ct lq D t yX5_soon cX5_soon 3 (some .int) rm_X5_soon [.ref mq, .int e, .int f] [eX5 mq mT (nI ty) mD mS (nI ev) mP (nI kn) mI (nI kp) mE (nI sg) at_ mH mX mR mO fs, eI t mS 5 (nf s), eL t mH 363 f1, eL t mX 363 f2, eL t mR 11 f3, eL t mO 22 f4] 0 0 (fun rv rw_ => ∃ (FS : Int64) (F1 : Nat → Int64) (F2 : Nat → Int64) (F3 : Nat → Int64) (F4 : Nat → Int64), rv = some (.int (an_soon s (dz 0 1 e) (dz 0 21 f))) ∧ rw_ = [eX5 mq mT (nI ty) mD mS (nI ev) mP (nI kn) mI (nI kp) mE (nI sg) at_ mH mX mR mO FS, eI t mS 5 (nf s), eL t mH 363 F1, eL t mX 363 F2, eL t mR 11 F3, eL t mO 22 F4]) := by
  refine Ct.of (by decide) (Nat.le_of_ble_eq_true rfl) (fun k X hRet => ?_)
  have X : zX D t k cX5_soon 3 RX5 "soon" rm_X5_soon lq := X
  refine z_eq (lv2 := [(0, .ref mq), (1, .int e), (2, .int f)]) rfl rfl rfl ?_
  have hsk := hs
  obtain ⟨hs0, hs1, hs2, hs3, hs4⟩ := hs
  refine z_iload_n X (pc := 0) 1 dX5_soon_0 rfl ?_
  refine zc_S (as := [.int e]) X (pc := 1) (c_X5_isEnd lq D t e ) tw_692 tw_694 tw_7 tw_693 [] rfl rfl dX5_soon_1 rfl zdX5_isEnd ⟨rfl, rfl, Nat.le_of_ble_eq_true rfl, Nat.le_of_ble_eq_true rfl⟩ (Nat.le_of_ble_eq_true rfl) (Nat.zero_le _) (Nat.zero_le _) (fun v_1 w_2 hp_3 => ?_)
  obtain ⟨rfl, rfl⟩ := hp_3
  refine ⟨rfl, ?_⟩
  refine z_eq (ws2 := [eX5 mq mT (nI ty) mD mS (nI ev) mP (nI kn) mI (nI kp) mE (nI sg) at_ mH mX mR mO fs, eI t mS 5 (nf s), eL t mH 363 f1, eL t mX 363 f2, eL t mR 11 f3, eL t mO 22 f4]) (st2 := [.int (zb (nI 0 ≤ e ∧ e ≤ nI 1))]) rfl rfl rfl ?_
  refine z_if_eqB X (pc := 4) 17 dX5_soon_4 (by decide) (fun c_4 => ?_) (fun c_4 => ?_)
  · skip
    refine z_iconst X (pc := 17) (-1) dX5_soon_17 (by decide) ?_
    exact hRet.i dX5_soon_18 ⟨fs, f1, f2, f3, f4, by rw [dz_bad (a := 0) (b := 1) c_4]; rfl, rfl⟩
  · skip
    refine z_iload_n X (pc := 7) 2 dX5_soon_7 rfl ?_
    refine z_iconst X (pc := 8) (nI 0) dX5_soon_8 (by decide) ?_
    refine z_bipush X (pc := 9) (nI 21) dX5_soon_9 (by decide) ?_
    refine zc_S (as := [.int f, .int (nI 0), .int (nI 21)]) X (pc := 11) (c_X5_in lq D t f (nI 0) (nI 21) ) tw_615 tw_617 tw_7 tw_616 [] rfl rfl dX5_soon_11 rfl zdX5_in ⟨rfl, rfl, Nat.le_of_ble_eq_true rfl, Nat.le_of_ble_eq_true rfl⟩ (Nat.le_of_ble_eq_true rfl) (Nat.zero_le _) (Nat.zero_le _) (fun v_4 w_5 hp_6 => ?_)
    obtain ⟨rfl, rfl⟩ := hp_6
    refine ⟨rfl, ?_⟩
    refine z_eq (ws2 := [eX5 mq mT (nI ty) mD mS (nI ev) mP (nI kn) mI (nI kp) mE (nI sg) at_ mH mX mR mO fs, eI t mS 5 (nf s), eL t mH 363 f1, eL t mX 363 f2, eL t mR 11 f3, eL t mO 22 f4]) (st2 := [.int (zb ((nI 0) ≤ f ∧ f ≤ (nI 21)))]) rfl rfl rfl ?_
    refine z_if_neB X (pc := 14) 19 dX5_soon_14 (by decide) (fun c_14 => ?_) (fun c_14 => ?_)
    · skip
      obtain ⟨en, en_lo, en_hi, rfl⟩ := inR (by decide) (by decide) c_4
      obtain ⟨n, n_lo, n_hi, rfl⟩ := inR (by decide) (by decide) c_14
      refine z_aload_n X (pc := 19) 0 dX5_soon_19 rfl ?_
      refine z_iload_n X (pc := 20) 1 dX5_soon_20 rfl ?_
      refine zc_V (as := [.int (nI en)]) X (pc := 21) (c_X5_weighsNow lq D t mq mT mD mS mP mI mE mH mX mR mO ty ev kn kp sg at_ fs s f1 f2 f3 f4 en hsk (by omega)) tw_695 tw_698 tw_7 tw_697 tw_1030 0 5 rfl rfl [0, 1, 2, 3, 4, 5] rfl rfl dX5_soon_21 rfl zdX5_weighsNow ⟨rfl, rfl, Nat.le_of_ble_eq_true rfl, Nat.le_of_ble_eq_true rfl⟩ (Nat.le_of_ble_eq_true rfl) (Nat.zero_le _) (Nat.zero_le _) (fun v_7 w_8 hp_9 => ?_)
      obtain ⟨FS_10, F1_11, F2_12, hf_13, rfl, rfl⟩ := hp_9
      refine ⟨rfl, ?_⟩
      refine z_eq (ws2 := [eX5 mq mT (nI ty) mD mS (nI ev) mP (nI kn) mI (nI kp) mE (nI sg) at_ mH mX mR mO FS_10, eI t mS 5 (nf s), eL t mH 363 F1_11, eL t mX 363 F2_12, eL t mR 11 (lf ((rn (s 3) (s 4) en (s 0) (s 1) (s 2) 21).2.1)), eL t mO 22 (lf (snF (s 3) (s 4) en (s 0) (s 1) (s 2)))]) (st2 := []) rfl rfl rfl ?_
      refine z_aload_n X (pc := 24) 0 dX5_soon_24 rfl ?_
      refine z_iload_n X (pc := 25) 2 dX5_soon_25 rfl ?_
      refine zc_V (as := [.int (nI n)]) X (pc := 26) (c_X5_within lq D t mq mT mD mS mP mI mE mH mX mR mO ty ev kn kp sg at_ FS_10 (snF (s 3) (s 4) en (s 0) (s 1) (s 2)) n (by omega)) tw_733 tw_736 tw_7 tw_735 tw_1035 0 5 rfl rfl [0, 5] rfl rfl dX5_soon_26 rfl zdX5_within ⟨rfl, rfl, Nat.le_of_ble_eq_true rfl, Nat.le_of_ble_eq_true rfl⟩ (Nat.le_of_ble_eq_true rfl) (Nat.zero_le _) (Nat.zero_le _) (fun v_14 w_15 hp_16 => ?_)
      obtain ⟨rfl, rfl⟩ := hp_16
      refine ⟨rfl, ?_⟩
      refine z_eq (ws2 := [eX5 mq mT (nI ty) mD mS (nI ev) mP (nI kn) mI (nI kp) mE (nI sg) at_ mH mX mR mO FS_10, eI t mS 5 (nf s), eL t mH 363 F1_11, eL t mX 363 F2_12, eL t mR 11 (lf ((rn (s 3) (s 4) en (s 0) (s 1) (s 2) 21).2.1)), eL t mO 22 (lf (snF (s 3) (s 4) en (s 0) (s 1) (s 2)))]) (st2 := [.long (lN (sm (snF (s 3) (s 4) en (s 0) (s 1) (s 2)) (n + 1)))]) rfl rfl rfl ?_
      refine z_topl (lN ((rn (s 3) (s 4) en (s 0) (s 1) (s 2) n).2.2.1)) (by rw [sn_tel]) ?_
      refine z_ldc2 X (pc := 29) (4398046511104) dX5_soon_29 tw_707 ?_
      refine z_topl (lN 4398046511104) rfl ?_
      refine zc_S (as := [.long (lN ((rn (s 3) (s 4) en (s 0) (s 1) (s 2) n).2.2.1)), .long (lN 4398046511104)]) X (pc := 32) (c_X5_cut lq D t ((rn (s 3) (s 4) en (s 0) (s 1) (s 2) n).2.2.1) 4398046511104 (rn_e hs4 hs0 hs1 hs2) (by decide)) tw_720 tw_722 tw_7 tw_721 [] rfl rfl dX5_soon_32 rfl zdX5_cut ⟨rfl, rfl, Nat.le_of_ble_eq_true rfl, Nat.le_of_ble_eq_true rfl⟩ (Nat.le_of_ble_eq_true rfl) (Nat.zero_le _) (Nat.zero_le _) (fun v_17 w_18 hp_19 => ?_)
      obtain ⟨rfl, rfl⟩ := hp_19
      refine ⟨rfl, ?_⟩
      refine z_eq (ws2 := [eX5 mq mT (nI ty) mD mS (nI ev) mP (nI kn) mI (nI kp) mE (nI sg) at_ mH mX mR mO FS_10, eI t mS 5 (nf s), eL t mH 363 F1_11, eL t mX 363 F2_12, eL t mR 11 (lf ((rn (s 3) (s 4) en (s 0) (s 1) (s 2) 21).2.1)), eL t mO 22 (lf (snF (s 3) (s 4) en (s 0) (s 1) (s 2)))]) (st2 := [.int (nI (10000 * ((rn (s 3) (s 4) en (s 0) (s 1) (s 2) n).2.2.1) / 4398046511104))]) rfl rfl rfl ?_
      exact hRet.i dX5_soon_35 ⟨FS_10, F1_11, F2_12, (lf ((rn (s 3) (s 4) en (s 0) (s 1) (s 2) 21).2.1)), (lf (snF (s 3) (s 4) en (s 0) (s 1) (s 2))), by rw [dz_ok (j := en) (a := 0) (b := 1) (by decide) en_lo en_hi, dz_ok (j := n) (a := 0) (b := 21) (by decide) n_lo n_hi, Nat.mul_comm]; rfl, rfl⟩
    · skip
      refine z_iconst X (pc := 17) (-1) dX5_soon_17 (by decide) ?_
      exact hRet.i dX5_soon_18 ⟨fs, f1, f2, f3, f4, by rw [dz_bad (a := 0) (b := 21) c_14]; cases dz 0 1 e <;> rfl, rfl⟩

abbrev rm_X5_times : Room := { frames := 4, cells := 0, slots := 0, locals := 111 }
set_option maxHeartbeats 4000000 in
set_option maxRecDepth 100000 in
theorem c_X5_times (lq : Launch) (D : va_G) (t : zT) (mq mT mD mS mP mI mE mH mX mR mO ty ev kn kp sg : Nat) (at_ : Int32) (fs : Int64) (s : Nat → Nat) (f1 f2 f3 f4 : Nat → Int64) (e : Int32) (hs : sOk s) : Ct lq D t yX5_times cX5_times 2 (some .int) rm_X5_times [.ref mq, .int e] [eX5 mq mT (nI ty) mD mS (nI ev) mP (nI kn) mI (nI kp) mE (nI sg) at_ mH mX mR mO fs, eI t mS 5 (nf s), eL t mH 363 f1, eL t mX 363 f2, eL t mR 11 f3, eL t mO 22 f4] 0 0 (fun rv rw_ => ∃ (FS : Int64) (F1 : Nat → Int64) (F2 : Nat → Int64) (F3 : Nat → Int64) (F4 : Nat → Int64), rv = some (.int (an_times s (dz 0 1 e))) ∧ rw_ = [eX5 mq mT (nI ty) mD mS (nI ev) mP (nI kn) mI (nI kp) mE (nI sg) at_ mH mX mR mO FS, eI t mS 5 (nf s), eL t mH 363 F1, eL t mX 363 F2, eL t mR 11 F3, eL t mO 22 F4]) := by
  refine Ct.of (by decide) (Nat.le_of_ble_eq_true rfl) (fun k X hRet => ?_)
  have X : zX D t k cX5_times 2 RX5 "times" rm_X5_times lq := X
  refine z_eq (lv2 := [(0, .ref mq), (1, .int e)]) rfl rfl rfl ?_
  have hsk := hs
  obtain ⟨hs0, hs1, hs2, hs3, hs4⟩ := hs
  refine z_iload_n X (pc := 0) 1 dX5_times_0 rfl ?_
  refine zc_S (as := [.int e]) X (pc := 1) (c_X5_isEnd lq D t e ) tw_692 tw_694 tw_7 tw_693 [] rfl rfl dX5_times_1 rfl zdX5_isEnd ⟨rfl, rfl, Nat.le_of_ble_eq_true rfl, Nat.le_of_ble_eq_true rfl⟩ (Nat.le_of_ble_eq_true rfl) (Nat.zero_le _) (Nat.zero_le _) (fun v_1 w_2 hp_3 => ?_)
  obtain ⟨rfl, rfl⟩ := hp_3
  refine ⟨rfl, ?_⟩
  refine z_eq (ws2 := [eX5 mq mT (nI ty) mD mS (nI ev) mP (nI kn) mI (nI kp) mE (nI sg) at_ mH mX mR mO fs, eI t mS 5 (nf s), eL t mH 363 f1, eL t mX 363 f2, eL t mR 11 f3, eL t mO 22 f4]) (st2 := [.int (zb (nI 0 ≤ e ∧ e ≤ nI 1))]) rfl rfl rfl ?_
  refine z_if_neB X (pc := 4) 9 dX5_times_4 (by decide) (fun c_4 => ?_) (fun c_4 => ?_)
  · skip
    obtain ⟨en, en_lo, en_hi, rfl⟩ := inR (by decide) (by decide) c_4
    refine z_aload_n X (pc := 9) 0 dX5_times_9 rfl ?_
    refine z_iload_n X (pc := 10) 1 dX5_times_10 rfl ?_
    refine zc_V (as := [.int (nI en)]) X (pc := 11) (c_X5_weighsNow lq D t mq mT mD mS mP mI mE mH mX mR mO ty ev kn kp sg at_ fs s f1 f2 f3 f4 en hsk (by omega)) tw_695 tw_698 tw_7 tw_697 tw_1030 0 5 rfl rfl [0, 1, 2, 3, 4, 5] rfl rfl dX5_times_11 rfl zdX5_weighsNow ⟨rfl, rfl, Nat.le_of_ble_eq_true rfl, Nat.le_of_ble_eq_true rfl⟩ (Nat.le_of_ble_eq_true rfl) (Nat.zero_le _) (Nat.zero_le _) (fun v_4 w_5 hp_6 => ?_)
    obtain ⟨FS_7, F1_8, F2_9, hf_10, rfl, rfl⟩ := hp_6
    refine ⟨rfl, ?_⟩
    refine z_eq (ws2 := [eX5 mq mT (nI ty) mD mS (nI ev) mP (nI kn) mI (nI kp) mE (nI sg) at_ mH mX mR mO FS_7, eI t mS 5 (nf s), eL t mH 363 F1_8, eL t mX 363 F2_9, eL t mR 11 (lf ((rn (s 3) (s 4) en (s 0) (s 1) (s 2) 21).2.1)), eL t mO 22 (lf (snF (s 3) (s 4) en (s 0) (s 1) (s 2)))]) (st2 := []) rfl rfl rfl ?_
    refine z_ldc2 X (pc := 14) (100) dX5_times_14 tw_728 ?_
    refine z_topl (lN 100) rfl ?_
    refine z_aload_n X (pc := 17) 0 dX5_times_17 rfl ?_
    refine zc_V (as := []) X (pc := 18) (c_X5_reaches lq D t mq mT mD mS mP mI mE mH mX mR mO ty ev kn kp sg at_ FS_7 (snF (s 3) (s 4) en (s 0) (s 1) (s 2)) ) tw_741 tw_744 tw_7 tw_743 tw_1036 0 5 rfl rfl [0, 5] rfl rfl dX5_times_18 rfl zdX5_reaches ⟨rfl, rfl, Nat.le_of_ble_eq_true rfl, Nat.le_of_ble_eq_true rfl⟩ (Nat.le_of_ble_eq_true rfl) (Nat.zero_le _) (Nat.zero_le _) (fun v_11 w_12 hp_13 => ?_)
    obtain ⟨rfl, rfl⟩ := hp_13
    refine ⟨rfl, ?_⟩
    refine z_eq (ws2 := [eX5 mq mT (nI ty) mD mS (nI ev) mP (nI kn) mI (nI kp) mE (nI sg) at_ mH mX mR mO FS_7, eI t mS 5 (nf s), eL t mH 363 F1_8, eL t mX 363 F2_9, eL t mR 11 (lf ((rn (s 3) (s 4) en (s 0) (s 1) (s 2) 21).2.1)), eL t mO 22 (lf (snF (s 3) (s 4) en (s 0) (s 1) (s 2)))]) (st2 := [.long (lN (sm (fun k => k * (snF (s 3) (s 4) en (s 0) (s 1) (s 2)) k) 22)), .long (lN 100)]) rfl rfl rfl ?_
    refine z_topl (lN (rch (s 3) (s 4) en (s 0) (s 1) (s 2))) (by rw [sn_rch hs4 hs0 hs1 hs2]) ?_
    refine z_lmul X (pc := 21) (v := (lN (100 * (rch (s 3) (s 4) en (s 0) (s 1) (s 2))))) dX5_times_21 (lN_mul _ _) ?_
    refine z_ldc2 X (pc := 22) (4398046511104) dX5_times_22 tw_707 ?_
    refine z_topl (lN 4398046511104) rfl ?_
    refine z_ldiv X (pc := 25) (v := (lN ((100 * (rch (s 3) (s 4) en (s 0) (s 1) (s 2))) / 4398046511104))) dX5_times_25 (by decide) (pk_lDiv (by have := rch_lt (s 3) (s 4) en (s 0) (s 1) (s 2); omega) (by omega) (by omega)) ?_
    refine z_l2i X (pc := 26) (v := (nI ((100 * (rch (s 3) (s 4) en (s 0) (s 1) (s 2))) / 4398046511104))) dX5_times_26 (lN_i _) ?_
    exact hRet.i dX5_times_27 ⟨FS_7, F1_8, F2_9, (lf ((rn (s 3) (s 4) en (s 0) (s 1) (s 2) 21).2.1)), (lf (snF (s 3) (s 4) en (s 0) (s 1) (s 2))), by rw [dz_ok (j := en) (a := 0) (b := 1) (by decide) en_lo en_hi, Nat.mul_comm]; rfl, rfl⟩
  · skip
    refine z_iconst X (pc := 7) (-1) dX5_times_7 (by decide) ?_
    exact hRet.i dX5_times_8 ⟨fs, f1, f2, f3, f4, by rw [dz_bad c_4]; rfl, rfl⟩

abbrev rm_X5_likeliest : Room := { frames := 4, cells := 0, slots := 0, locals := 111 }
set_option maxHeartbeats 4000000 in
set_option maxRecDepth 100000 in
theorem c_X5_likeliest (lq : Launch) (D : va_G) (t : zT) (mq mT mD mS mP mI mE mH mX mR mO ty ev kn kp sg : Nat) (at_ : Int32) (fs : Int64) (s : Nat → Nat) (f1 f2 f3 f4 : Nat → Int64) (e : Int32) (hs : sOk s) : Ct lq D t yX5_likeliest cX5_likeliest 4 (some .int) rm_X5_likeliest [.ref mq, .int e] [eX5 mq mT (nI ty) mD mS (nI ev) mP (nI kn) mI (nI kp) mE (nI sg) at_ mH mX mR mO fs, eI t mS 5 (nf s), eL t mH 363 f1, eL t mX 363 f2, eL t mR 11 f3, eL t mO 22 f4] 0 0 (fun rv rw_ => ∃ (FS : Int64) (F1 : Nat → Int64) (F2 : Nat → Int64) (F3 : Nat → Int64) (F4 : Nat → Int64), rv = some (.int (an_lik s (dz 0 1 e))) ∧ rw_ = [eX5 mq mT (nI ty) mD mS (nI ev) mP (nI kn) mI (nI kp) mE (nI sg) at_ mH mX mR mO FS, eI t mS 5 (nf s), eL t mH 363 F1, eL t mX 363 F2, eL t mR 11 F3, eL t mO 22 F4]) := by
  refine Ct.of (by decide) (Nat.le_of_ble_eq_true rfl) (fun k X hRet => ?_)
  have X : zX D t k cX5_likeliest 4 RX5 "likeliest" rm_X5_likeliest lq := X
  refine z_eq (lv2 := [(0, .ref mq), (1, .int e)]) rfl rfl rfl ?_
  have hsk := hs
  obtain ⟨hs0, hs1, hs2, hs3, hs4⟩ := hs
  refine z_iload_n X (pc := 0) 1 dX5_likeliest_0 rfl ?_
  refine zc_S (as := [.int e]) X (pc := 1) (c_X5_isEnd lq D t e ) tw_692 tw_694 tw_7 tw_693 [] rfl rfl dX5_likeliest_1 rfl zdX5_isEnd ⟨rfl, rfl, Nat.le_of_ble_eq_true rfl, Nat.le_of_ble_eq_true rfl⟩ (Nat.le_of_ble_eq_true rfl) (Nat.zero_le _) (Nat.zero_le _) (fun v_1 w_2 hp_3 => ?_)
  obtain ⟨rfl, rfl⟩ := hp_3
  refine ⟨rfl, ?_⟩
  refine z_eq (ws2 := [eX5 mq mT (nI ty) mD mS (nI ev) mP (nI kn) mI (nI kp) mE (nI sg) at_ mH mX mR mO fs, eI t mS 5 (nf s), eL t mH 363 f1, eL t mX 363 f2, eL t mR 11 f3, eL t mO 22 f4]) (st2 := [.int (zb (nI 0 ≤ e ∧ e ≤ nI 1))]) rfl rfl rfl ?_
  refine z_if_neB X (pc := 4) 9 dX5_likeliest_4 (by decide) (fun c_4 => ?_) (fun c_4 => ?_)
  · skip
    obtain ⟨en, en_lo, en_hi, rfl⟩ := inR (by decide) (by decide) c_4
    refine z_aload_n X (pc := 9) 0 dX5_likeliest_9 rfl ?_
    refine z_iload_n X (pc := 10) 1 dX5_likeliest_10 rfl ?_
    refine zc_V (as := [.int (nI en)]) X (pc := 11) (c_X5_weighsNow lq D t mq mT mD mS mP mI mE mH mX mR mO ty ev kn kp sg at_ fs s f1 f2 f3 f4 en hsk (by omega)) tw_695 tw_698 tw_7 tw_697 tw_1030 0 5 rfl rfl [0, 1, 2, 3, 4, 5] rfl rfl dX5_likeliest_11 rfl zdX5_weighsNow ⟨rfl, rfl, Nat.le_of_ble_eq_true rfl, Nat.le_of_ble_eq_true rfl⟩ (Nat.le_of_ble_eq_true rfl) (Nat.zero_le _) (Nat.zero_le _) (fun v_4 w_5 hp_6 => ?_)
    obtain ⟨FS_7, F1_8, F2_9, hf_10, rfl, rfl⟩ := hp_6
    refine ⟨rfl, ?_⟩
    refine z_eq (ws2 := [eX5 mq mT (nI ty) mD mS (nI ev) mP (nI kn) mI (nI kp) mE (nI sg) at_ mH mX mR mO FS_7, eI t mS 5 (nf s), eL t mH 363 F1_8, eL t mX 363 F2_9, eL t mR 11 (lf ((rn (s 3) (s 4) en (s 0) (s 1) (s 2) 21).2.1)), eL t mO 22 (lf (snF (s 3) (s 4) en (s 0) (s 1) (s 2)))]) (st2 := []) rfl rfl rfl ?_
    refine z_iconst X (pc := 14) (nI 0) dX5_likeliest_14 (by decide) ?_
    refine z_istore_n X (pc := 15) (i := 2) [(2, .int (nI 0)), (0, .ref mq), (1, .int (nI en))] dX5_likeliest_15 rfl (by decide) rfl ?_
    refine z_iconst X (pc := 16) (nI 1) dX5_likeliest_16 (by decide) ?_
    refine z_istore_n X (pc := 17) (i := 3) [(3, .int (nI 1)), (2, .int (nI 0)), (0, .ref mq), (1, .int (nI en))] dX5_likeliest_17 rfl (by decide) rfl ?_
    have loop_18 : ∀ (fuel_18 : Nat) (j : Nat) (bt : Nat), 11 < j + fuel_18 → (1 ≤ j ∧ j ≤ 11) → (bt = lik (rn (s 3) (s 4) en (s 0) (s 1) (s 2) 21).2.1 (j - 1)) → Z D k (0, 0) [eX5 mq mT (nI ty) mD mS (nI ev) mP (nI kn) mI (nI kp) mE (nI sg) at_ mH mX mR mO FS_7, eI t mS 5 (nf s), eL t mH 363 F1_8, eL t mX 363 F2_9, eL t mR 11 (lf ((rn (s 3) (s 4) en (s 0) (s 1) (s 2) 21).2.1)), eL t mO 22 (lf (snF (s 3) (s 4) en (s 0) (s 1) (s 2)))] 18 [(0, .ref mq), (2, .int (nI bt)), (3, .int (nI j))] [] := by
      intro fuel_18
      induction fuel_18 with
      | zero =>
        intro j bt hfuel_18 hj hbt
        exfalso; omega
      | succ fuel_18 ih_18 =>
        intro j bt hfuel_18 hj hbt
        have hbl : bt ≤ 10 := by rw [hbt]; have := lik_le (rn (s 3) (s 4) en (s 0) (s 1) (s 2) 21).2.1 (j - 1); omega
        refine z_iload_n X (pc := 18) 2 dX5_likeliest_18 rfl ?_
        refine z_bipush X (pc := 19) (nI 11) dX5_likeliest_19 (by decide) ?_
        refine z_icmp_geN X (pc := 21) 52 (by omega) (by omega) dX5_likeliest_21 (by decide) (fun c_21 => ?_) (fun c_21 => ?_)
        · skip
          refine z_iload_n X (pc := 52) 1 dX5_likeliest_52 rfl ?_
          exact hRet.i dX5_likeliest_53 ⟨FS_7, F1_8, F2_9, (lf ((rn (s 3) (s 4) en (s 0) (s 1) (s 2) 21).2.1)), (lf (snF (s 3) (s 4) en (s 0) (s 1) (s 2))), by rw [dz_ok (j := en) (a := 0) (b := 1) (by decide) en_lo en_hi, hbt, show j - 1 = 10 by omega]; rfl, rfl⟩
        · skip
          refine z_aload_n X (pc := 24) 0 dX5_likeliest_24 rfl ?_
          refine z_get X (pc := 25) 0 14 (.ref mR) tu_5 tw_573 dX5_likeliest_25 rfl rfl (by decide) rfl rfl ?_
          refine z_iload_n X (pc := 28) 2 dX5_likeliest_28 rfl ?_
          refine z_lald X (pc := 29) 4 j (lN (((rn (s 3) (s 4) en (s 0) (s 1) (s 2) 21).2.1) j)) dX5_likeliest_29 rfl rfl (Nat.le_of_ble_eq_true rfl) (by omega) rfl ?_
          refine z_aload_n X (pc := 30) 0 dX5_likeliest_30 rfl ?_
          refine z_get X (pc := 31) 0 14 (.ref mR) tu_5 tw_573 dX5_likeliest_31 rfl rfl (by decide) rfl rfl ?_
          refine z_iload_n X (pc := 34) 1 dX5_likeliest_34 rfl ?_
          refine z_lald X (pc := 35) 4 bt (lN (((rn (s 3) (s 4) en (s 0) (s 1) (s 2) 21).2.1) bt)) dX5_likeliest_35 rfl rfl (Nat.le_of_ble_eq_true rfl) (by omega) rfl ?_
          refine z_lcmp_leN X (pc := 36) 44 (Nat.lt_of_le_of_lt (rn_os hs4 hs0 hs1 hs2) (by decide)) (Nat.lt_of_le_of_lt (rn_os hs4 hs0 hs1 hs2) (by decide)) dX5_likeliest_36 dX5_likeliest_37 (by decide) (fun c_36 => ?_) (fun c_36 => ?_)
          · skip
            refine z_iload_n X (pc := 44) 1 dX5_likeliest_44 rfl ?_
            refine z_istore_n X (pc := 45) (i := 2) [(2, .int (nI bt)), (0, .ref mq), (3, .int (nI j))] dX5_likeliest_45 rfl (by decide) rfl ?_
            refine z_iinc X (pc := 46) (i := 3) 2 (nI (j + 1)) [(3, .int (nI (j + 1))), (2, .int (nI bt)), (0, .ref mq)] dX5_likeliest_46 rfl (nI_incc j 1) (by decide) rfl ?_
            refine z_goto X (pc := 49) 18 dX5_likeliest_49 (by decide) ?_
            refine z_lv [2, 1, 0] (lv2 := [(0, .ref mq), (2, .int (nI bt)), (3, .int (nI (j + 1)))]) rfl ?_
            exact ih_18 (j + 1) bt (by omega) (by omega) (by rw [show j + 1 - 1 = (j - 1) + 1 by omega, lik_s, ← hbt, show j - 1 + 1 = j by omega, if_neg (by omega)])
          · skip
            refine z_iload_n X (pc := 40) 2 dX5_likeliest_40 rfl ?_
            refine z_goto X (pc := 41) 45 dX5_likeliest_41 (by decide) ?_
            refine z_istore_n X (pc := 45) (i := 2) [(2, .int (nI j)), (0, .ref mq), (3, .int (nI j))] dX5_likeliest_45 rfl (by decide) rfl ?_
            refine z_iinc X (pc := 46) (i := 3) 2 (nI (j + 1)) [(3, .int (nI (j + 1))), (2, .int (nI j)), (0, .ref mq)] dX5_likeliest_46 rfl (nI_incc j 1) (by decide) rfl ?_
            refine z_goto X (pc := 49) 18 dX5_likeliest_49 (by decide) ?_
            refine z_lv [2, 1, 0] (lv2 := [(0, .ref mq), (2, .int (nI j)), (3, .int (nI (j + 1)))]) rfl ?_
            exact ih_18 (j + 1) j (by omega) (by omega) (by rw [show j + 1 - 1 = (j - 1) + 1 by omega, lik_s, ← hbt, show j - 1 + 1 = j by omega, if_pos (by omega)])
    refine z_lv [2, 1, 0] (lv2 := [(0, .ref mq), (2, .int (nI 0)), (3, .int (nI 1))]) rfl ?_
    exact loop_18 12 1 0 (by omega) (by omega) (lik_z _).symm
  · skip
    refine z_iconst X (pc := 7) (-1) dX5_likeliest_7 (by decide) ?_
    exact hRet.i dX5_likeliest_8 ⟨fs, f1, f2, f3, f4, by rw [dz_bad c_4]; rfl, rfl⟩

abbrev rm_X5_which : Room := { frames := 4, cells := 0, slots := 0, locals := 111 }
set_option maxHeartbeats 4000000 in
set_option maxRecDepth 100000 in
theorem c_X5_which (lq : Launch) (D : va_G) (t : zT) (mq mT mD mS mP mI mE mH mX mR mO ty ev kn kp sg : Nat) (at_ : Int32) (fs : Int64) (s : Nat → Nat) (f1 f2 f3 f4 : Nat → Int64)  (hs : sOk s) : Ct lq D t yX5_which cX5_which 1 (some .int) rm_X5_which [.ref mq] [eX5 mq mT (nI ty) mD mS (nI ev) mP (nI kn) mI (nI kp) mE (nI sg) at_ mH mX mR mO fs, eI t mS 5 (nf s), eL t mH 363 f1, eL t mX 363 f2, eL t mR 11 f3, eL t mO 22 f4] 0 0 (fun rv rw_ => ∃ (FS : Int64) (F1 : Nat → Int64) (F2 : Nat → Int64) (F3 : Nat → Int64) (F4 : Nat → Int64), rv = some (.int (an_which s)) ∧ rw_ = [eX5 mq mT (nI ty) mD mS (nI ev) mP (nI kn) mI (nI kp) mE (nI sg) at_ mH mX mR mO FS, eI t mS 5 (nf s), eL t mH 363 F1, eL t mX 363 F2, eL t mR 11 F3, eL t mO 22 F4]) := by
  refine Ct.of (by decide) (Nat.le_of_ble_eq_true rfl) (fun k X hRet => ?_)
  have X : zX D t k cX5_which 1 RX5 "which" rm_X5_which lq := X
  refine z_eq (lv2 := [(0, .ref mq)]) rfl rfl rfl ?_
  have hsk := hs
  obtain ⟨hs0, hs1, hs2, hs3, hs4⟩ := hs
  refine z_aload_n X (pc := 0) 0 dX5_which_0 rfl ?_
  refine z_iconst X (pc := 1) (nI 0) dX5_which_1 (by decide) ?_
  refine zc_V (as := [.int (nI 0)]) X (pc := 2) (c_X5_weighsNow lq D t mq mT mD mS mP mI mE mH mX mR mO ty ev kn kp sg at_ fs s f1 f2 f3 f4 0 hsk (by decide)) tw_695 tw_698 tw_7 tw_697 tw_1030 0 5 rfl rfl [0, 1, 2, 3, 4, 5] rfl rfl dX5_which_2 rfl zdX5_weighsNow ⟨rfl, rfl, Nat.le_of_ble_eq_true rfl, Nat.le_of_ble_eq_true rfl⟩ (Nat.le_of_ble_eq_true rfl) (Nat.zero_le _) (Nat.zero_le _) (fun v_1 w_2 hp_3 => ?_)
  obtain ⟨FS_4, F1_5, F2_6, hf_7, rfl, rfl⟩ := hp_3
  refine ⟨rfl, ?_⟩
  refine z_eq (ws2 := [eX5 mq mT (nI ty) mD mS (nI ev) mP (nI kn) mI (nI kp) mE (nI sg) at_ mH mX mR mO FS_4, eI t mS 5 (nf s), eL t mH 363 F1_5, eL t mX 363 F2_6, eL t mR 11 (lf ((rn (s 3) (s 4) 0 (s 0) (s 1) (s 2) 21).2.1)), eL t mO 22 (lf (snF (s 3) (s 4) 0 (s 0) (s 1) (s 2)))]) (st2 := []) rfl rfl rfl ?_
  refine z_aload_n X (pc := 5) 0 dX5_which_5 rfl ?_
  refine z_get X (pc := 6) 0 16 (.long FS_4) tu_5 tw_575 dX5_which_6 rfl rfl (by decide) rfl rfl ?_
  refine z_topl (lN ((rn (s 3) (s 4) 0 (s 0) (s 1) (s 2) 21).2.2.2)) (hf_7 rfl) ?_
  refine z_ldc2 X (pc := 9) (4398046511104) dX5_which_9 tw_707 ?_
  refine z_topl (lN 4398046511104) rfl ?_
  refine zc_S (as := [.long (lN ((rn (s 3) (s 4) 0 (s 0) (s 1) (s 2) 21).2.2.2)), .long (lN 4398046511104)]) X (pc := 12) (c_X5_cut lq D t ((rn (s 3) (s 4) 0 (s 0) (s 1) (s 2) 21).2.2.2) 4398046511104 (rn_el hs4 hs0 hs1 hs2) (by decide)) tw_720 tw_722 tw_7 tw_721 [] rfl rfl dX5_which_12 rfl zdX5_cut ⟨rfl, rfl, Nat.le_of_ble_eq_true rfl, Nat.le_of_ble_eq_true rfl⟩ (Nat.le_of_ble_eq_true rfl) (Nat.zero_le _) (Nat.zero_le _) (fun v_8 w_9 hp_10 => ?_)
  obtain ⟨rfl, rfl⟩ := hp_10
  refine ⟨rfl, ?_⟩
  refine z_eq (ws2 := [eX5 mq mT (nI ty) mD mS (nI ev) mP (nI kn) mI (nI kp) mE (nI sg) at_ mH mX mR mO FS_4, eI t mS 5 (nf s), eL t mH 363 F1_5, eL t mX 363 F2_6, eL t mR 11 (lf ((rn (s 3) (s 4) 0 (s 0) (s 1) (s 2) 21).2.1)), eL t mO 22 (lf (snF (s 3) (s 4) 0 (s 0) (s 1) (s 2)))]) (st2 := [.int (nI (10000 * ((rn (s 3) (s 4) 0 (s 0) (s 1) (s 2) 21).2.2.2) / 4398046511104))]) rfl rfl rfl ?_
  exact hRet.i dX5_which_15 ⟨FS_4, F1_5, F2_6, (lf ((rn (s 3) (s 4) 0 (s 0) (s 1) (s 2) 21).2.1)), (lf (snF (s 3) (s 4) 0 (s 0) (s 1) (s 2))), by rw [Nat.mul_comm]; rfl, rfl⟩

abbrev rm_X5_reachesFrom : Room := { frames := 3, cells := 0, slots := 0, locals := 90 }
set_option maxHeartbeats 4000000 in
set_option maxRecDepth 100000 in
theorem c_X5_reachesFrom (lq : Launch) (D : va_G) (t : zT) (mq mT mD mS mP mI mE mH mX mR mO ty ev kn kp sg : Nat) (at_ : Int32) (fs : Int64) (s : Nat → Nat) (f1 f2 f3 f4 : Nat → Int64) (l r : Nat) (hs : sOk s) (hl : l ≤ 10) (hr : r ≤ 10) : Ct lq D t yX5_reachesFrom cX5_reachesFrom 3 (some .long) rm_X5_reachesFrom [.ref mq, .int (nI l), .int (nI r)] [eX5 mq mT (nI ty) mD mS (nI ev) mP (nI kn) mI (nI kp) mE (nI sg) at_ mH mX mR mO fs, eI t mS 5 (nf s), eL t mH 363 f1, eL t mX 363 f2, eL t mR 11 f3, eL t mO 22 f4] 0 0 (fun rv rw_ => ∃ (FS : Int64) (F1 : Nat → Int64) (F2 : Nat → Int64) (F3 : Nat → Int64) (F4 : Nat → Int64), rv = some (.long (lN (rch (s 3) (s 4) 0 l r (s 2)))) ∧ rw_ = [eX5 mq mT (nI ty) mD mS (nI ev) mP (nI kn) mI (nI kp) mE (nI sg) at_ mH mX mR mO FS, eI t mS 5 (nf s), eL t mH 363 F1, eL t mX 363 F2, eL t mR 11 F3, eL t mO 22 F4]) := by
  refine Ct.of (by decide) (Nat.le_of_ble_eq_true rfl) (fun k X hRet => ?_)
  have X : zX D t k cX5_reachesFrom 3 RX5 "reachesFrom" rm_X5_reachesFrom lq := X
  refine z_eq (lv2 := [(0, .ref mq), (1, .int (nI l)), (2, .int (nI r))]) rfl rfl rfl ?_
  have hsk := hs
  obtain ⟨hs0, hs1, hs2, hs3, hs4⟩ := hs
  refine z_aload_n X (pc := 0) 0 dX5_reachesFrom_0 rfl ?_
  refine z_iload_n X (pc := 1) 1 dX5_reachesFrom_1 rfl ?_
  refine z_iload_n X (pc := 2) 2 dX5_reachesFrom_2 rfl ?_
  refine z_aload_n X (pc := 3) 0 dX5_reachesFrom_3 rfl ?_
  refine z_get X (pc := 4) 0 3 (.ref mS) tu_5 tw_562 dX5_reachesFrom_4 rfl rfl (by decide) rfl rfl ?_
  refine z_iconst X (pc := 7) (nI 3) dX5_reachesFrom_7 (by decide) ?_
  refine z_iald X (pc := 8) 1 3 (nI (s 3)) dX5_reachesFrom_8 rfl rfl (Nat.le_of_ble_eq_true rfl) (by decide) rfl ?_
  refine z_aload_n X (pc := 9) 0 dX5_reachesFrom_9 rfl ?_
  refine z_get X (pc := 10) 0 3 (.ref mS) tu_5 tw_562 dX5_reachesFrom_10 rfl rfl (by decide) rfl rfl ?_
  refine z_iconst X (pc := 13) (nI 4) dX5_reachesFrom_13 (by decide) ?_
  refine z_iald X (pc := 14) 1 4 (nI (s 4)) dX5_reachesFrom_14 rfl rfl (Nat.le_of_ble_eq_true rfl) (by decide) rfl ?_
  refine z_iconst X (pc := 15) (nI 0) dX5_reachesFrom_15 (by decide) ?_
  refine zc_V (as := [.int (nI l), .int (nI r), .int (nI (s 3)), .int (nI (s 4)), .int (nI 0)]) X (pc := 16) (c_X5_weighs lq D t mq mT mD mS mP mI mE mH mX mR mO ty ev kn kp sg at_ fs s f1 f2 f3 f4 l r (s 3) (s 4) 0 (by omega) (by omega) hs2 (by omega) (by omega) (by decide)) tw_699 tw_702 tw_7 tw_701 tw_1031 0 5 rfl rfl [0, 1, 2, 3, 4, 5] rfl rfl dX5_reachesFrom_16 rfl zdX5_weighs ⟨rfl, rfl, Nat.le_of_ble_eq_true rfl, Nat.le_of_ble_eq_true rfl⟩ (Nat.le_of_ble_eq_true rfl) (Nat.zero_le _) (Nat.zero_le _) (fun v_1 w_2 hp_3 => ?_)
  obtain ⟨FS_4, F1_5, F2_6, hf_7, rfl, rfl⟩ := hp_3
  refine ⟨rfl, ?_⟩
  refine z_eq (ws2 := [eX5 mq mT (nI ty) mD mS (nI ev) mP (nI kn) mI (nI kp) mE (nI sg) at_ mH mX mR mO FS_4, eI t mS 5 (nf s), eL t mH 363 F1_5, eL t mX 363 F2_6, eL t mR 11 (lf ((rn (s 3) (s 4) 0 l r (s 2) 21).2.1)), eL t mO 22 (lf (snF (s 3) (s 4) 0 l r (s 2)))]) (st2 := []) rfl rfl rfl ?_
  refine z_aload_n X (pc := 19) 0 dX5_reachesFrom_19 rfl ?_
  refine zc_V (as := []) X (pc := 20) (c_X5_reaches lq D t mq mT mD mS mP mI mE mH mX mR mO ty ev kn kp sg at_ FS_4 (snF (s 3) (s 4) 0 l r (s 2)) ) tw_741 tw_744 tw_7 tw_743 tw_1036 0 5 rfl rfl [0, 5] rfl rfl dX5_reachesFrom_20 rfl zdX5_reaches ⟨rfl, rfl, Nat.le_of_ble_eq_true rfl, Nat.le_of_ble_eq_true rfl⟩ (Nat.le_of_ble_eq_true rfl) (Nat.zero_le _) (Nat.zero_le _) (fun v_8 w_9 hp_10 => ?_)
  obtain ⟨rfl, rfl⟩ := hp_10
  refine ⟨rfl, ?_⟩
  refine z_eq (ws2 := [eX5 mq mT (nI ty) mD mS (nI ev) mP (nI kn) mI (nI kp) mE (nI sg) at_ mH mX mR mO FS_4, eI t mS 5 (nf s), eL t mH 363 F1_5, eL t mX 363 F2_6, eL t mR 11 (lf ((rn (s 3) (s 4) 0 l r (s 2) 21).2.1)), eL t mO 22 (lf (snF (s 3) (s 4) 0 l r (s 2)))]) (st2 := [.long (lN (sm (fun k => k * (snF (s 3) (s 4) 0 l r (s 2)) k) 22))]) rfl rfl rfl ?_
  refine z_topl (lN (rch (s 3) (s 4) 0 l r (s 2))) (by rw [sn_rch hs4 hl hr hs2]) ?_
  exact hRet.l dX5_reachesFrom_23 ⟨FS_4, F1_5, F2_6, (lf ((rn (s 3) (s 4) 0 l r (s 2) 21).2.1)), (lf (snF (s 3) (s 4) 0 l r (s 2))), rfl, rfl⟩
