/-! PART 13: Walk: start, advance, reachesTillEnd, keepOnly, and what is read off -/
theorem lN_sub0 (a : Nat) : lN a = lN a - lN 0 := (lN_sub (Nat.zero_le a)).symm
theorem lN_som {e : Nat} (h : e ≤ 4398046511104) : lN 4398046511104 - lN e = lN (4398046511104 - e) := lN_sub h
/-- what is left of a row when only so many are in the boxes -/
def kfl (m il ir : Nat) (w : Nat → Nat) : Nat → Nat := fun c => if c / 3 = il ∧ m = il + ir then w c else 0
theorem kfl_same {m il ir l la : Nat} {w : Nat → Nat} {mt : Int32} (hla : la < 3) (hl : l ≤ 10) (hir : ir ≤ 10) (hm : m ≤ 20) (hs : w (l * 3 + la) ≠ 0 → mt = nI m ∧ l ≤ m) (h1 : l = il) (h2 : mt - nI l = nI ir) : w (l * 3 + la) = kfl m il ir w (l * 3 + la) := by
  unfold kfl
  by_cases h0 : w (l * 3 + la) = 0
  · rw [h0]; split <;> rfl
  · obtain ⟨rfl, hlm⟩ := hs h0
    rw [pk_sub hlm, nI_eq (by omega) (by omega)] at h2
    rw [if_pos ⟨by omega, by omega⟩]
theorem kfl_not {m il ir l la : Nat} {w : Nat → Nat} {mt : Int32} (hla : la < 3) (hl : l ≤ 10) (hir : ir ≤ 10) (hm : m ≤ 20) (hs : w (l * 3 + la) ≠ 0 → mt = nI m ∧ l ≤ m) (h : ¬ (l = il ∧ mt - nI l = nI ir)) : 0 = kfl m il ir w (l * 3 + la) := by
  unfold kfl
  by_cases h0 : w (l * 3 + la) = 0
  · rw [h0]; split <;> rfl
  · obtain ⟨rfl, hlm⟩ := hs h0
    rw [pk_sub hlm, nI_eq (by omega) (by omega)] at h
    rw [if_neg (fun z => h ⟨by omega, by omega⟩)]
theorem smdead {f : Nat → Nat} {i n : Nat} (h : ∀ j, i ≤ j → j < n → f j = 0) (hi : i ≤ n) : sm f i = sm f n := by
  induction n with
  | zero => rw [show i = 0 by omega]
  | succ n ih =>
    rcases Nat.lt_or_ge n i with q | q
    · rw [show i = n + 1 by omega]
    · rw [sm_s, ← ih (fun j h1 h2 => h j h1 (by omega)) q, h n q (by omega), Nat.add_zero]
def kmix (m il ir : Nat) (w : Nat → Nat) (Q p : Nat) : Nat → Nat := fun j => (if j < p then kfl m il ir w j else w j) * Q
theorem kmix_0 {m il ir : Nat} {w : Nat → Nat} {Q : Nat} : (fun j => w j * Q) = kmix m il ir w Q 0 := by funext j; simp [kmix]
theorem kmix_at {m il ir : Nat} {w : Nat → Nat} {Q p : Nat} : kmix m il ir w Q p p = w p * Q := by simp [kmix]
theorem kmix_step {m il ir : Nat} {w : Nat → Nat} {Q p : Nat} (h : w p = kfl m il ir w p) : kmix m il ir w Q p = kmix m il ir w Q (p + 1) := by
  funext j
  unfold kmix
  rcases Nat.lt_trichotomy j p with q | q | q
  · rw [if_pos q, if_pos (by omega)]
  · subst q; rw [if_neg (by omega), if_pos (by omega), h]
  · rw [if_neg (by omega), if_neg (by omega)]
theorem kmix_put {m il ir : Nat} {w : Nat → Nat} {Q p : Nat} (h : 0 = kfl m il ir w p) : vup (kmix m il ir w Q p) p 0 = kmix m il ir w Q (p + 1) := by
  funext j
  by_cases q : j = p
  · subst q; rw [vup_s]; unfold kmix; rw [if_pos (by omega), ← h, Nat.zero_mul]
  · rw [vup_n q]; unfold kmix
    rcases Nat.lt_or_ge j p with z | z
    · rw [if_pos z, if_pos (by omega)]
    · rw [if_neg (by omega), if_neg (by omega)]
noncomputable def lev (m : Nat) (w : Nat → Nat) : Nat := if m % 2 = 0 then sm (fun j => w (m / 2 * 3 + j)) 3 else 0
theorem lev_dead {m : Nat} {w : Nat → Nat} (hm : m ≤ 20) (h : ∀ c, c < 33 → w c = 0) : lev m w = 0 := by
  unfold lev; split
  · exact sm_zero (fun k hk => h _ (by omega))
  · rfl
abbrev rm_X3_standing : Room := { frames := 0, cells := 0, slots := 0, locals := 0 }
set_option maxHeartbeats 4000000 in
set_option maxRecDepth 100000 in
theorem c_X3_standing (lq : Launch) (D : va_G) (t : zT) (h0 hr hn ho en kd x : Nat) (mt : Int32) (so el : Int64)  : Ct lq D t yX3_standing cX3_standing 1 (some .long) rm_X3_standing [.ref h0] [eX3 h0 hr hn ho (nI en) (nI kd) (nI x) mt so el] 0 0 (fun rv rw_ => rv = some (.long so) ∧ rw_ = [eX3 h0 hr hn ho (nI en) (nI kd) (nI x) mt so el]) := by
  refine Ct.of (by decide) (Nat.le_of_ble_eq_true rfl) (fun k X hR => ?_)
  have X : zX D t k cX3_standing 1 RX3 "standing" rm_X3_standing lq := X
  refine z_eq (lv2 := [(0, .ref h0)]) rfl rfl rfl ?_
  refine z_aload_n X (pc := 0) 0 dX3_standing_0 rfl ?_
  refine z_get X (pc := 1) 0 7 (.long so) tu_3 tw_114 dX3_standing_1 rfl rfl (by decide) rfl rfl ?_
  exact hR.l dX3_standing_4 ⟨rfl, rfl⟩

abbrev rm_X3_chanceOfLeftFirst : Room := { frames := 0, cells := 0, slots := 0, locals := 0 }
set_option maxHeartbeats 4000000 in
set_option maxRecDepth 100000 in
theorem c_X3_chanceOfLeftFirst (lq : Launch) (D : va_G) (t : zT) (h0 hr hn ho en kd x : Nat) (mt : Int32) (so : Int64) (el : Nat)  : Ct lq D t yX3_chanceOfLeftFirst cX3_chanceOfLeftFirst 1 (some .long) rm_X3_chanceOfLeftFirst [.ref h0] [eX3 h0 hr hn ho (nI en) (nI kd) (nI x) mt so (lN el)] 0 0 (fun rv rw_ => rv = some (.long (lN el)) ∧ rw_ = [eX3 h0 hr hn ho (nI en) (nI kd) (nI x) mt so (lN el)]) := by
  refine Ct.of (by decide) (Nat.le_of_ble_eq_true rfl) (fun k X hR => ?_)
  have X : zX D t k cX3_chanceOfLeftFirst 1 RX3 "chanceOfLeftFirst" rm_X3_chanceOfLeftFirst lq := X
  refine z_eq (lv2 := [(0, .ref h0)]) rfl rfl rfl ?_
  refine z_aload_n X (pc := 0) 0 dX3_chanceOfLeftFirst_0 rfl ?_
  refine z_get X (pc := 1) 0 8 (.long (lN el)) tu_3 tw_115 dX3_chanceOfLeftFirst_1 rfl rfl (by decide) rfl rfl ?_
  exact hR.l dX3_chanceOfLeftFirst_4 ⟨rfl, rfl⟩

abbrev rm_X3_chanceOfOther : Room := { frames := 1, cells := 0, slots := 0, locals := 22 }
set_option maxHeartbeats 4000000 in
set_option maxRecDepth 100000 in
theorem c_X3_chanceOfOther (lq : Launch) (D : va_G) (t : zT) (h0 hr hn ho en kd x : Nat) (mt : Int32) (so el : Int64) (os : Nat → Nat) (j : Nat) (hj : j ≤ 10) : Ct lq D t yX3_chanceOfOther cX3_chanceOfOther 2 (some .long) rm_X3_chanceOfOther [.ref h0, .int (nI j)] [eX3 h0 hr hn ho (nI en) (nI kd) (nI x) mt so el, eL t ho 11 (lf os)] 0 0 (fun rv rw_ => rv = some (.long (lN (os j))) ∧ rw_ = [eX3 h0 hr hn ho (nI en) (nI kd) (nI x) mt so el, eL t ho 11 (lf os)]) := by
  refine Ct.of (by decide) (Nat.le_of_ble_eq_true rfl) (fun k X hR => ?_)
  have X : zX D t k cX3_chanceOfOther 2 RX3 "chanceOfOther" rm_X3_chanceOfOther lq := X
  refine z_eq (lv2 := [(0, .ref h0), (1, .int (nI j))]) rfl rfl rfl ?_
  refine z_iload_n X (pc := 0) 1 dX3_chanceOfOther_0 rfl ?_
  refine z_iconst X (pc := 1) (nI 0) dX3_chanceOfOther_1 (by decide) ?_
  refine z_bipush X (pc := 2) (nI 10) dX3_chanceOfOther_2 (by decide) ?_
  refine zc_SN (as := [.int (nI j), .int (nI 0), .int (nI 10)]) X (pc := 4) (c_X4_within lq D t (nI j) (nI 0) (nI 10) ) tw_407 tw_182 tw_1 tw_181 [] rfl rfl dX3_chanceOfOther_4 rfl zdX4_within ⟨rfl, rfl, Nat.le_of_ble_eq_true rfl, Nat.le_of_ble_eq_true rfl⟩ (Nat.le_of_ble_eq_true rfl) (Nat.zero_le _) (Nat.zero_le _) (fun v_1 w_2 hp_3 => ?_)
  obtain ⟨rfl, rfl⟩ := hp_3
  refine ⟨rfl, ?_⟩
  refine z_eq (ws2 := [eX3 h0 hr hn ho (nI en) (nI kd) (nI x) mt so el, eL t ho 11 (lf os)]) (st2 := [.int (zb ((nI 0) ≤ (nI j) ∧ (nI j) ≤ (nI 10)))]) rfl rfl rfl ?_
  refine z_if_eqB X (pc := 7) 19 dX3_chanceOfOther_7 (by decide) (fun c_7 => absurd c_7 (fun z => z ⟨(nI_leI (by omega) (by omega)).mpr (by omega), (nI_leI (by omega) (by omega)).mpr (by omega)⟩)) (fun c_7 => ?_)
  refine z_aload_n X (pc := 10) 0 dX3_chanceOfOther_10 rfl ?_
  refine z_get X (pc := 11) 0 2 (.ref ho) tu_3 tw_109 dX3_chanceOfOther_11 rfl rfl (by decide) rfl rfl ?_
  refine z_iload_n X (pc := 14) 1 dX3_chanceOfOther_14 rfl ?_
  refine z_lald X (pc := 15) 1 j (lN (os j)) dX3_chanceOfOther_15 rfl rfl (Nat.le_of_ble_eq_true rfl) (by omega) rfl ?_
  refine z_goto X (pc := 16) 20 dX3_chanceOfOther_16 (by decide) ?_
  exact hR.l dX3_chanceOfOther_20 ⟨rfl, rfl⟩

abbrev rm_X3_start : Room := { frames := 1, cells := 0, slots := 0, locals := 25 }
set_option maxHeartbeats 4000000 in
set_option maxRecDepth 100000 in
theorem c_X3_start (lq : Launch) (D : va_G) (t : zT) (h0 hr hn ho hc : Nat) (g0 g1 g2 g3 : Int32) (g4 g5 : Int64) (f1 f2 f3 : Nat → Int64) (en l r la ck cx : Nat) (hen : en ≤ 1) (hl : l ≤ 10) (hr9 : r ≤ 10) (hla : la ≤ 2) : Ct lq D t yX3_start cX3_start 3 none rm_X3_start [.ref h0, .ref hc, .int (nI en)] [eX3 h0 hr hn ho g0 g1 g2 g3 g4 g5, eL t hr 33 f1, eL t hn 33 f2, eL t ho 11 f3, eX0 hc (nI l) (nI r) (nI la) (nI ck) (nI cx)] 0 0 (fun rv rw_ => rv = none ∧ rw_ = [eX3 h0 hr hn ho (nI en) (nI ck) (nI cx) (nI (l + r)) (lN 4398046511104 - lN ((wst0 en l r la).2.2.1)) (lN ((wst0 en l r la).2.2.2)), eL t hr 33 (lf (fun j => (wst0 en l r la).1 j * 4 ^ 21)), eL t hn 33 f2, eL t ho 11 (lf ((wst0 en l r la).2.1)), eX0 hc (nI l) (nI r) (nI la) (nI ck) (nI cx)]) := by
  refine Ct.of (by decide) (Nat.le_of_ble_eq_true rfl) (fun k X hR => ?_)
  have X : zX D t k cX3_start 3 RX3 "start" rm_X3_start lq := X
  refine z_eq (lv2 := [(0, .ref h0), (1, .ref hc), (2, .int (nI en))]) rfl rfl rfl ?_
  refine z_aload_n X (pc := 0) 0 dX3_start_0 rfl ?_
  refine z_get X (pc := 1) 0 0 (.ref hr) tu_3 tw_107 dX3_start_1 rfl rfl (by decide) rfl rfl ?_
  refine zc_S (as := [.ref hr]) X (pc := 4) (c_X3_wipeRow lq D t hr 33 f1 (by decide)) tw_377 tw_379 tw_6 tw_378 [1] rfl rfl dX3_start_4 rfl zdX3_wipeRow ⟨rfl, rfl, Nat.le_of_ble_eq_true rfl, Nat.le_of_ble_eq_true rfl⟩ (Nat.le_of_ble_eq_true rfl) (Nat.zero_le _) (Nat.zero_le _) (fun v_1 w_2 hp_3 => ?_)
  obtain ⟨rfl, rfl⟩ := hp_3
  refine ⟨rfl, ?_⟩
  refine z_eq (ws2 := [eX3 h0 hr hn ho g0 g1 g2 g3 g4 g5, eL t hr 33 (lf (fun _ => 0)), eL t hn 33 f2, eL t ho 11 f3, eX0 hc (nI l) (nI r) (nI la) (nI ck) (nI cx)]) (st2 := []) rfl rfl rfl ?_
  refine z_aload_n X (pc := 7) 0 dX3_start_7 rfl ?_
  refine z_get X (pc := 8) 0 2 (.ref ho) tu_3 tw_109 dX3_start_8 rfl rfl (by decide) rfl rfl ?_
  refine zc_S (as := [.ref ho]) X (pc := 11) (c_X3_wipeRow lq D t ho 11 f3 (by decide)) tw_377 tw_379 tw_6 tw_378 [3] rfl rfl dX3_start_11 rfl zdX3_wipeRow ⟨rfl, rfl, Nat.le_of_ble_eq_true rfl, Nat.le_of_ble_eq_true rfl⟩ (Nat.le_of_ble_eq_true rfl) (Nat.zero_le _) (Nat.zero_le _) (fun v_4 w_5 hp_6 => ?_)
  obtain ⟨rfl, rfl⟩ := hp_6
  refine ⟨rfl, ?_⟩
  refine z_eq (ws2 := [eX3 h0 hr hn ho g0 g1 g2 g3 g4 g5, eL t hr 33 (lf (fun _ => 0)), eL t hn 33 f2, eL t ho 11 (lf (fun _ => 0)), eX0 hc (nI l) (nI r) (nI la) (nI ck) (nI cx)]) (st2 := []) rfl rfl rfl ?_
  refine z_aload_n X (pc := 14) 0 dX3_start_14 rfl ?_
  refine z_iload_n X (pc := 15) 2 dX3_start_15 rfl ?_
  refine z_put X (pc := 16) 0 3 [eX3 h0 hr hn ho (nI en) g1 g2 g3 g4 g5, eL t hr 33 (lf (fun _ => 0)), eL t hn 33 f2, eL t ho 11 (lf (fun _ => 0)), eX0 hc (nI l) (nI r) (nI la) (nI ck) (nI cx)] tu_3 tyX3_ok nmX3 tw_110 dX3_start_16 rfl rfl (by decide) rfl rfl rfl rfl (Nat.le_of_ble_eq_true rfl) rfl ?_
  refine z_aload_n X (pc := 19) 0 dX3_start_19 rfl ?_
  refine z_aload_n X (pc := 20) 1 dX3_start_20 rfl ?_
  refine z_get X (pc := 21) 4 3 (.int (nI ck)) tu_0 tw_38 dX3_start_21 rfl rfl (by decide) rfl rfl ?_
  refine z_put X (pc := 24) 0 4 [eX3 h0 hr hn ho (nI en) (nI ck) g2 g3 g4 g5, eL t hr 33 (lf (fun _ => 0)), eL t hn 33 f2, eL t ho 11 (lf (fun _ => 0)), eX0 hc (nI l) (nI r) (nI la) (nI ck) (nI cx)] tu_3 tyX3_ok nmX3 tw_111 dX3_start_24 rfl rfl (by decide) rfl rfl rfl rfl (Nat.le_of_ble_eq_true rfl) rfl ?_
  refine z_aload_n X (pc := 27) 0 dX3_start_27 rfl ?_
  refine z_aload_n X (pc := 28) 1 dX3_start_28 rfl ?_
  refine z_get X (pc := 29) 4 4 (.int (nI cx)) tu_0 tw_41 dX3_start_29 rfl rfl (by decide) rfl rfl ?_
  refine z_put X (pc := 32) 0 5 [eX3 h0 hr hn ho (nI en) (nI ck) (nI cx) g3 g4 g5, eL t hr 33 (lf (fun _ => 0)), eL t hn 33 f2, eL t ho 11 (lf (fun _ => 0)), eX0 hc (nI l) (nI r) (nI la) (nI ck) (nI cx)] tu_3 tyX3_ok nmX3 tw_112 dX3_start_32 rfl rfl (by decide) rfl rfl rfl rfl (Nat.le_of_ble_eq_true rfl) rfl ?_
  refine z_aload_n X (pc := 35) 0 dX3_start_35 rfl ?_
  refine z_aload_n X (pc := 36) 1 dX3_start_36 rfl ?_
  refine zc_V (as := []) X (pc := 37) (c_X0_matches lq D t hc l r la ck cx ) tw_380 tw_278 tw_3 tw_276 tw_277 0 0 rfl rfl [4] rfl rfl dX3_start_37 rfl zdX0_matches ⟨rfl, rfl, Nat.le_of_ble_eq_true rfl, Nat.le_of_ble_eq_true rfl⟩ (Nat.le_of_ble_eq_true rfl) (Nat.zero_le _) (Nat.zero_le _) (fun v_7 w_8 hp_9 => ?_)
  obtain ⟨rfl, rfl⟩ := hp_9
  refine ⟨rfl, ?_⟩
  refine z_eq (ws2 := [eX3 h0 hr hn ho (nI en) (nI ck) (nI cx) g3 g4 g5, eL t hr 33 (lf (fun _ => 0)), eL t hn 33 f2, eL t ho 11 (lf (fun _ => 0)), eX0 hc (nI l) (nI r) (nI la) (nI ck) (nI cx)]) (st2 := [.int (nI (l + r)), .ref h0]) rfl rfl rfl ?_
  refine z_put X (pc := 40) 0 6 [eX3 h0 hr hn ho (nI en) (nI ck) (nI cx) (nI (l + r)) g4 g5, eL t hr 33 (lf (fun _ => 0)), eL t hn 33 f2, eL t ho 11 (lf (fun _ => 0)), eX0 hc (nI l) (nI r) (nI la) (nI ck) (nI cx)] tu_3 tyX3_ok nmX3 tw_113 dX3_start_40 rfl rfl (by decide) rfl rfl rfl rfl (Nat.le_of_ble_eq_true rfl) rfl ?_
  refine z_aload_n X (pc := 43) 0 dX3_start_43 rfl ?_
  refine z_ldc2 X (pc := 44) (4398046511104) dX3_start_44 tw_381 ?_
  refine z_topl (lN 4398046511104) rfl ?_
  refine z_put X (pc := 47) 0 7 [eX3 h0 hr hn ho (nI en) (nI ck) (nI cx) (nI (l + r)) (lN 4398046511104) g5, eL t hr 33 (lf (fun _ => 0)), eL t hn 33 f2, eL t ho 11 (lf (fun _ => 0)), eX0 hc (nI l) (nI r) (nI la) (nI ck) (nI cx)] tu_3 tyX3_ok nmX3 tw_114 dX3_start_47 rfl rfl (by decide) rfl rfl rfl rfl (Nat.le_of_ble_eq_true rfl) rfl ?_
  refine z_aload_n X (pc := 50) 0 dX3_start_50 rfl ?_
  refine z_lconst X (pc := 51) (lN 0) dX3_start_51 (by decide) ?_
  refine z_put X (pc := 52) 0 8 [eX3 h0 hr hn ho (nI en) (nI ck) (nI cx) (nI (l + r)) (lN 4398046511104) (lN 0), eL t hr 33 (lf (fun _ => 0)), eL t hn 33 f2, eL t ho 11 (lf (fun _ => 0)), eX0 hc (nI l) (nI r) (nI la) (nI ck) (nI cx)] tu_3 tyX3_ok nmX3 tw_115 dX3_start_52 rfl rfl (by decide) rfl rfl rfl rfl (Nat.le_of_ble_eq_true rfl) rfl ?_
  refine z_aload_n X (pc := 55) 0 dX3_start_55 rfl ?_
  refine z_get X (pc := 56) 0 3 (.int (nI en)) tu_3 tw_110 dX3_start_56 rfl rfl (by decide) rfl rfl ?_
  refine z_iconst X (pc := 59) (nI 1) dX3_start_59 (by decide) ?_
  refine z_icmp_neN X (pc := 60) 85 (by omega) (by omega) dX3_start_60 (by decide) (fun c_60 => ?_) (fun c_60 => ?_)
  · skip
    refine z_aload_n X (pc := 85) 0 dX3_start_85 rfl ?_
    refine z_get X (pc := 86) 0 3 (.int (nI en)) tu_3 tw_110 dX3_start_86 rfl rfl (by decide) rfl rfl ?_
    refine z_iconst X (pc := 89) (nI 1) dX3_start_89 (by decide) ?_
    refine z_icmp_neN X (pc := 90) 115 (by omega) (by omega) dX3_start_90 (by decide) (fun c_90 => ?_) (fun c_90 => absurd c_90 (by omega))
    refine z_aload_n X (pc := 115) 0 dX3_start_115 rfl ?_
    refine z_get X (pc := 116) 0 0 (.ref hr) tu_3 tw_107 dX3_start_116 rfl rfl (by decide) rfl rfl ?_
    refine z_aload_n X (pc := 119) 1 dX3_start_119 rfl ?_
    refine z_get X (pc := 120) 4 0 (.int (nI l)) tu_0 tw_29 dX3_start_120 rfl rfl (by decide) rfl rfl ?_
    refine z_aload_n X (pc := 123) 1 dX3_start_123 rfl ?_
    refine z_get X (pc := 124) 4 2 (.int (nI la)) tu_0 tw_36 dX3_start_124 rfl rfl (by decide) rfl rfl ?_
    refine z_ldc2 X (pc := 127) (4398046511104) dX3_start_127 tw_381 ?_
    refine z_topl (lN 4398046511104) rfl ?_
    refine zc_S (as := [.ref hr, .int (nI l), .int (nI la), .long (lN 4398046511104)]) X (pc := 130) (c_X3_addTo lq D t hr 33 l la 4398046511104 (fun _ => 0) (by decide) (by omega)) tw_386 tw_388 tw_6 tw_387 [1] rfl rfl dX3_start_130 rfl zdX3_addTo ⟨rfl, rfl, Nat.le_of_ble_eq_true rfl, Nat.le_of_ble_eq_true rfl⟩ (Nat.le_of_ble_eq_true rfl) (Nat.zero_le _) (Nat.zero_le _) (fun v_10 w_11 hp_12 => ?_)
    obtain ⟨rfl, rfl⟩ := hp_12
    refine ⟨rfl, ?_⟩
    refine z_eq (ws2 := [eX3 h0 hr hn ho (nI en) (nI ck) (nI cx) (nI (l + r)) (lN 4398046511104) (lN 0), eL t hr 33 (lf (vup (fun _ => 0) (l * 3 + la) ((fun _ => 0) (l * 3 + la) + 4398046511104))), eL t hn 33 f2, eL t ho 11 (lf (fun _ => 0)), eX0 hc (nI l) (nI r) (nI la) (nI ck) (nI cx)]) (st2 := []) rfl rfl rfl ?_
    have he0 : wst0 en l r la = (vup (fun _ => 0) (l * 3 + la) 1, (fun _ => 0), 0, 0) := by rw [wst0, if_neg (by omega)]
    have he1 : vup (fun _ => 0) (l * 3 + la) (0 + 4398046511104) = fun j => vup (fun _ => 0) (l * 3 + la) 1 j * 4 ^ 21 := by funext j; by_cases hj : j = l * 3 + la <;> simp [vup, hj]
    refine z_eq (ws2 := [eX3 h0 hr hn ho (nI en) (nI ck) (nI cx) (nI (l + r)) (lN 4398046511104 - lN ((wst0 en l r la).2.2.1)) (lN ((wst0 en l r la).2.2.2)), eL t hr 33 (lf (fun j => (wst0 en l r la).1 j * 4 ^ 21)), eL t hn 33 f2, eL t ho 11 (lf ((wst0 en l r la).2.1)), eX0 hc (nI l) (nI r) (nI la) (nI ck) (nI cx)]) (by rw [he0, ← he1, ← lN_sub0]) rfl rfl ?_
    exact hR.v dX3_start_133 ⟨rfl, rfl⟩
  · skip
    refine z_aload_n X (pc := 63) 1 dX3_start_63 rfl ?_
    refine z_get X (pc := 64) 4 0 (.int (nI l)) tu_0 tw_29 dX3_start_64 rfl rfl (by decide) rfl rfl ?_
    refine z_if_neN X (pc := 67) 85 (by omega) dX3_start_67 (by decide) (fun c_67 => ?_) (fun c_67 => ?_)
    · skip
      refine z_aload_n X (pc := 85) 0 dX3_start_85 rfl ?_
      refine z_get X (pc := 86) 0 3 (.int (nI en)) tu_3 tw_110 dX3_start_86 rfl rfl (by decide) rfl rfl ?_
      refine z_iconst X (pc := 89) (nI 1) dX3_start_89 (by decide) ?_
      refine z_icmp_neN X (pc := 90) 115 (by omega) (by omega) dX3_start_90 (by decide) (fun c_90 => absurd c_90 (by omega)) (fun c_90 => ?_)
      refine z_aload_n X (pc := 93) 1 dX3_start_93 rfl ?_
      refine z_get X (pc := 94) 4 1 (.int (nI r)) tu_0 tw_32 dX3_start_94 rfl rfl (by decide) rfl rfl ?_
      refine z_if_neN X (pc := 97) 115 (by omega) dX3_start_97 (by decide) (fun c_97 => ?_) (fun c_97 => ?_)
      · skip
        refine z_aload_n X (pc := 115) 0 dX3_start_115 rfl ?_
        refine z_get X (pc := 116) 0 0 (.ref hr) tu_3 tw_107 dX3_start_116 rfl rfl (by decide) rfl rfl ?_
        refine z_aload_n X (pc := 119) 1 dX3_start_119 rfl ?_
        refine z_get X (pc := 120) 4 0 (.int (nI l)) tu_0 tw_29 dX3_start_120 rfl rfl (by decide) rfl rfl ?_
        refine z_aload_n X (pc := 123) 1 dX3_start_123 rfl ?_
        refine z_get X (pc := 124) 4 2 (.int (nI la)) tu_0 tw_36 dX3_start_124 rfl rfl (by decide) rfl rfl ?_
        refine z_ldc2 X (pc := 127) (4398046511104) dX3_start_127 tw_381 ?_
        refine z_topl (lN 4398046511104) rfl ?_
        refine zc_S (as := [.ref hr, .int (nI l), .int (nI la), .long (lN 4398046511104)]) X (pc := 130) (c_X3_addTo lq D t hr 33 l la 4398046511104 (fun _ => 0) (by decide) (by omega)) tw_386 tw_388 tw_6 tw_387 [1] rfl rfl dX3_start_130 rfl zdX3_addTo ⟨rfl, rfl, Nat.le_of_ble_eq_true rfl, Nat.le_of_ble_eq_true rfl⟩ (Nat.le_of_ble_eq_true rfl) (Nat.zero_le _) (Nat.zero_le _) (fun v_13 w_14 hp_15 => ?_)
        obtain ⟨rfl, rfl⟩ := hp_15
        refine ⟨rfl, ?_⟩
        refine z_eq (ws2 := [eX3 h0 hr hn ho (nI en) (nI ck) (nI cx) (nI (l + r)) (lN 4398046511104) (lN 0), eL t hr 33 (lf (vup (fun _ => 0) (l * 3 + la) ((fun _ => 0) (l * 3 + la) + 4398046511104))), eL t hn 33 f2, eL t ho 11 (lf (fun _ => 0)), eX0 hc (nI l) (nI r) (nI la) (nI ck) (nI cx)]) (st2 := []) rfl rfl rfl ?_
        have he0 : wst0 en l r la = (vup (fun _ => 0) (l * 3 + la) 1, (fun _ => 0), 0, 0) := by rw [wst0, if_neg (by omega)]
        have he1 : vup (fun _ => 0) (l * 3 + la) (0 + 4398046511104) = fun j => vup (fun _ => 0) (l * 3 + la) 1 j * 4 ^ 21 := by funext j; by_cases hj : j = l * 3 + la <;> simp [vup, hj]
        refine z_eq (ws2 := [eX3 h0 hr hn ho (nI en) (nI ck) (nI cx) (nI (l + r)) (lN 4398046511104 - lN ((wst0 en l r la).2.2.1)) (lN ((wst0 en l r la).2.2.2)), eL t hr 33 (lf (fun j => (wst0 en l r la).1 j * 4 ^ 21)), eL t hn 33 f2, eL t ho 11 (lf ((wst0 en l r la).2.1)), eX0 hc (nI l) (nI r) (nI la) (nI ck) (nI cx)]) (by rw [he0, ← he1, ← lN_sub0]) rfl rfl ?_
        exact hR.v dX3_start_133 ⟨rfl, rfl⟩
      · skip
        refine z_aload_n X (pc := 100) 0 dX3_start_100 rfl ?_
        refine z_iconst X (pc := 101) (nI 1) dX3_start_101 (by decide) ?_
        refine z_aload_n X (pc := 102) 1 dX3_start_102 rfl ?_
        refine z_get X (pc := 103) 4 0 (.int (nI l)) tu_0 tw_29 dX3_start_103 rfl rfl (by decide) rfl rfl ?_
        refine z_ldc2 X (pc := 106) (4398046511104) dX3_start_106 tw_381 ?_
        refine z_topl (lN 4398046511104) rfl ?_
        refine zc_V (as := [.int (nI 1), .int (nI l), .long (lN 4398046511104)]) X (pc := 109) (c_X3_endBy lq D t h0 hr hn ho en ck cx (nI (l + r)) (lN 4398046511104) 0 (fun _ => 0) 1 l 4398046511104 (by decide) (by omega)) tw_382 tw_385 tw_6 tw_384 tw_1014 0 3 rfl rfl [0, 3] rfl rfl dX3_start_109 rfl zdX3_endBy ⟨rfl, rfl, Nat.le_of_ble_eq_true rfl, Nat.le_of_ble_eq_true rfl⟩ (Nat.le_of_ble_eq_true rfl) (Nat.zero_le _) (Nat.zero_le _) (fun v_16 w_17 hp_18 => ?_)
        obtain ⟨rfl, rfl⟩ := hp_18
        refine ⟨rfl, ?_⟩
        refine z_eq (ws2 := [eX3 h0 hr hn ho (nI en) (nI ck) (nI cx) (nI (l + r)) ((lN 4398046511104) - lN 4398046511104) (lN (if 1 = 0 then 0 + 4398046511104 else 0)), eL t hr 33 (lf (fun _ => 0)), eL t hn 33 f2, eL t ho 11 (lf (if l ≤ 10 then vup (fun _ => 0) l ((fun _ => 0) l + 4398046511104) else (fun _ => 0))), eX0 hc (nI l) (nI r) (nI la) (nI ck) (nI cx)]) (st2 := []) rfl rfl rfl ?_
        refine z_goto X (pc := 112) 133 dX3_start_112 (by decide) ?_
        have he0 : wst0 en l r la = ((fun _ => 0), vup (fun _ => 0) (l + r) 4398046511104, 4398046511104, if l = 0 then 4398046511104 else 0) := by rw [wst0, if_pos ⟨by omega, Or.inr c_97⟩]
        refine z_eq (ws2 := [eX3 h0 hr hn ho (nI en) (nI ck) (nI cx) (nI (l + r)) (lN 4398046511104 - lN ((wst0 en l r la).2.2.1)) (lN ((wst0 en l r la).2.2.2)), eL t hr 33 (lf (fun j => (wst0 en l r la).1 j * 4 ^ 21)), eL t hn 33 f2, eL t ho 11 (lf ((wst0 en l r la).2.1)), eX0 hc (nI l) (nI r) (nI la) (nI ck) (nI cx)]) (by rw [he0, if_neg (show ¬ (1 : Nat) = 0 by decide), if_pos (show l ≤ 10 by omega)]; subst c_97; simp only [c_67, if_false, Nat.add_zero, Nat.zero_add, Nat.zero_mul]) rfl rfl ?_
        exact hR.v dX3_start_133 ⟨rfl, rfl⟩
    · skip
      refine z_aload_n X (pc := 70) 0 dX3_start_70 rfl ?_
      refine z_iconst X (pc := 71) (nI 0) dX3_start_71 (by decide) ?_
      refine z_aload_n X (pc := 72) 1 dX3_start_72 rfl ?_
      refine z_get X (pc := 73) 4 1 (.int (nI r)) tu_0 tw_32 dX3_start_73 rfl rfl (by decide) rfl rfl ?_
      refine z_ldc2 X (pc := 76) (4398046511104) dX3_start_76 tw_381 ?_
      refine z_topl (lN 4398046511104) rfl ?_
      refine zc_V (as := [.int (nI 0), .int (nI r), .long (lN 4398046511104)]) X (pc := 79) (c_X3_endBy lq D t h0 hr hn ho en ck cx (nI (l + r)) (lN 4398046511104) 0 (fun _ => 0) 0 r 4398046511104 (by decide) (by omega)) tw_382 tw_385 tw_6 tw_384 tw_1014 0 3 rfl rfl [0, 3] rfl rfl dX3_start_79 rfl zdX3_endBy ⟨rfl, rfl, Nat.le_of_ble_eq_true rfl, Nat.le_of_ble_eq_true rfl⟩ (Nat.le_of_ble_eq_true rfl) (Nat.zero_le _) (Nat.zero_le _) (fun v_19 w_20 hp_21 => ?_)
      obtain ⟨rfl, rfl⟩ := hp_21
      refine ⟨rfl, ?_⟩
      refine z_eq (ws2 := [eX3 h0 hr hn ho (nI en) (nI ck) (nI cx) (nI (l + r)) ((lN 4398046511104) - lN 4398046511104) (lN (if 0 = 0 then 0 + 4398046511104 else 0)), eL t hr 33 (lf (fun _ => 0)), eL t hn 33 f2, eL t ho 11 (lf (if r ≤ 10 then vup (fun _ => 0) r ((fun _ => 0) r + 4398046511104) else (fun _ => 0))), eX0 hc (nI l) (nI r) (nI la) (nI ck) (nI cx)]) (st2 := []) rfl rfl rfl ?_
      refine z_goto X (pc := 82) 133 dX3_start_82 (by decide) ?_
      have he0 : wst0 en l r la = ((fun _ => 0), vup (fun _ => 0) (l + r) 4398046511104, 4398046511104, if l = 0 then 4398046511104 else 0) := by rw [wst0, if_pos ⟨by omega, Or.inl c_67⟩]
      refine z_eq (ws2 := [eX3 h0 hr hn ho (nI en) (nI ck) (nI cx) (nI (l + r)) (lN 4398046511104 - lN ((wst0 en l r la).2.2.1)) (lN ((wst0 en l r la).2.2.2)), eL t hr 33 (lf (fun j => (wst0 en l r la).1 j * 4 ^ 21)), eL t hn 33 f2, eL t ho 11 (lf ((wst0 en l r la).2.1)), eX0 hc (nI l) (nI r) (nI la) (nI ck) (nI cx)]) (by rw [he0, if_pos c_67, if_pos (show r ≤ 10 by omega)]; subst c_67; simp only [if_true, Nat.zero_add, Nat.zero_mul]) rfl rfl ?_
      exact hR.v dX3_start_133 ⟨rfl, rfl⟩

abbrev rm_X3_advance : Room := { frames := 3, cells := 0, slots := 0, locals := 79 }
set_option maxHeartbeats 4000000 in
set_option maxRecDepth 100000 in
theorem c_X3_advance (lq : Launch) (D : va_G) (t : zT) (h0 hr hn ho en kd x m s : Nat) (mt : Int32) (a : wA) (f : Nat → Int64) (n : Nat) (hen : en ≤ 1) (hkd : kd ≤ 3) (hx : x ≤ 4) (hm : m ≤ 20) (hs : s ≤ 21) (hok : wok m s a) (hmt : (∃ c, c < 33 ∧ a.1 c ≠ 0) → mt = nI m) (hn9 : n ≤ 21) : Ct lq D t yX3_advance cX3_advance 3 none rm_X3_advance [.ref h0, .int (nI n)] [eX3 h0 hr hn ho (nI en) (nI kd) (nI x) mt (lN 4398046511104 - lN (a.2.2.1)) (lN a.2.2.2), eL t hr 33 (lf (fun j => a.1 j * 4 ^ s)), eL t hn 33 f, eL t ho 11 (lf a.2.1)] 0 0 (fun rv rw_ => ∃ (mt2 : Int32) (hr2 : Nat) (hn2 : Nat) (f2 : Nat → Int64), ((∃ c, c < 33 ∧ (wrun kd x en m s a n).1 c ≠ 0) → n ≤ m ∧ mt2 = nI (m - n)) ∧ rv = none ∧ rw_ = [eX3 h0 hr2 hn2 ho (nI en) (nI kd) (nI x) mt2 (lN 4398046511104 - lN ((wrun kd x en m s a n).2.2.1)) (lN ((wrun kd x en m s a n).2.2.2)), eL t hr2 33 (lf (fun j => (wrun kd x en m s a n).1 j * 4 ^ (s - n))), eL t hn2 33 f2, eL t ho 11 (lf ((wrun kd x en m s a n).2.1))]) := by
  refine Ct.of (by decide) (Nat.le_of_ble_eq_true rfl) (fun k X hR => ?_)
  have X : zX D t k cX3_advance 3 RX3 "advance" rm_X3_advance lq := X
  refine z_eq (lv2 := [(0, .ref h0), (1, .int (nI n))]) rfl rfl rfl ?_
  refine z_iconst X (pc := 0) (nI 0) dX3_advance_0 (by decide) ?_
  refine z_istore_n X (pc := 1) (i := 2) [(2, .int (nI 0)), (0, .ref h0), (1, .int (nI n))] dX3_advance_1 rfl (by decide) rfl ?_
  have loop_2 : ∀ (fuel_2 : Nat) (i : Nat) (mt : Int32) (hr : Nat) (hn : Nat) (f : Nat → Int64) (b : wA), n < i + fuel_2 → (i ≤ n) → (b = wrun kd x en m s a i) → ((∃ c, c < 33 ∧ b.1 c ≠ 0) → i ≤ m ∧ mt = nI (m - i)) → Z D k (0, 0) [eX3 h0 hr hn ho (nI en) (nI kd) (nI x) mt (lN 4398046511104 - lN (b.2.2.1)) (lN b.2.2.2), eL t hr 33 (lf (fun j => b.1 j * 4 ^ (s - i))), eL t hn 33 f, eL t ho 11 (lf b.2.1)] 2 [(0, .ref h0), (1, .int (nI n)), (2, .int (nI i))] [] := by
    intro fuel_2
    induction fuel_2 with
    | zero =>
      intro i mt hr hn f b hfuel_2 hi hb hmt
      exfalso; omega
    | succ fuel_2 ih_2 =>
      intro i mt hr hn f b hfuel_2 hi hb hmt
      have hwk := wok_run (kd := kd) (en := en) hx hok i
      rw [← hb] at hwk
      have hle := wok_le hwk
      refine z_iload_n X (pc := 2) 2 dX3_advance_2 rfl ?_
      refine z_iload_n X (pc := 3) 1 dX3_advance_3 rfl ?_
      refine z_icmp_geN X (pc := 4) 26 (by omega) (by omega) dX3_advance_4 (by decide) (fun c_4 => ?_) (fun c_4 => ?_)
      · skip
        obtain rfl : i = n := by omega
        refine z_eq (ws2 := [eX3 h0 hr hn ho (nI en) (nI kd) (nI x) mt (lN 4398046511104 - lN ((wrun kd x en m s a i).2.2.1)) (lN ((wrun kd x en m s a i).2.2.2)), eL t hr 33 (lf (fun j => (wrun kd x en m s a i).1 j * 4 ^ (s - i))), eL t hn 33 f, eL t ho 11 (lf ((wrun kd x en m s a i).2.1))]) (by rw [hb]) rfl rfl ?_
        exact hR.v dX3_advance_26 ⟨mt, hr, hn, f, by rw [← hb]; exact hmt, rfl, rfl⟩
      · skip
        refine z_aload_n X (pc := 7) 0 dX3_advance_7 rfl ?_
        refine z_get X (pc := 8) 0 7 (.long (lN 4398046511104 - lN (b.2.2.1))) tu_3 tw_114 dX3_advance_8 rfl rfl (by decide) rfl rfl ?_
        refine z_topl (lN (4398046511104 - b.2.2.1)) (lN_som hle) ?_
        refine z_lconst X (pc := 11) (lN 0) dX3_advance_11 (by decide) ?_
        refine z_lcmp_leN X (pc := 12) 26 (by omega) (by omega) dX3_advance_12 dX3_advance_13 (by decide) (fun c_12 => ?_) (fun c_12 => ?_)
        · skip
          have hde := wok_dead hwk (by omega)
          have hd2 := wrun_dead2 (by rw [← hb]; exact hde) (show i ≤ n by omega)
          refine z_lrow 1 (lf (fun j => (wrun kd x en m s a n).1 j * 4 ^ (s - n))) [eX3 h0 hr hn ho (nI en) (nI kd) (nI x) mt (lN 4398046511104 - lN (b.2.2.1)) (lN b.2.2.2), eL t hr 33 (lf (fun j => (wrun kd x en m s a n).1 j * 4 ^ (s - n))), eL t hn 33 f, eL t ho 11 (lf b.2.1)] rfl (fun j hj => by show lN (_ * _) = lN (_ * _); rw [hde j hj, hd2.2 j hj, Nat.zero_mul, Nat.zero_mul]) rfl ?_
          refine z_eq (ws2 := [eX3 h0 hr hn ho (nI en) (nI kd) (nI x) mt (lN 4398046511104 - lN ((wrun kd x en m s a n).2.2.1)) (lN ((wrun kd x en m s a n).2.2.2)), eL t hr 33 (lf (fun j => (wrun kd x en m s a n).1 j * 4 ^ (s - n))), eL t hn 33 f, eL t ho 11 (lf ((wrun kd x en m s a n).2.1))]) (by rw [hd2.1, ← hb]) rfl rfl ?_
          exact hR.v dX3_advance_26 ⟨mt, hr, hn, f, fun ⟨c, hc, z⟩ => absurd (hd2.2 c hc) z, rfl, rfl⟩
        · skip
          have hal := wok_alive hwk (by omega)
          have hms := hwk.2.2 hal
          obtain ⟨him, rfl⟩ := hmt hal
          have h4 := pow4 (show 0 < s - i by omega)
          refine z_eq (ws2 := [eX3 h0 hr hn ho (nI en) (nI kd) (nI x) (nI (m - i)) (lN 4398046511104 - lN (b.2.2.1)) (lN b.2.2.2), eL t hr 33 (lf (fun j => b.1 j * (4 * 4 ^ (s - i - 1)))), eL t hn 33 f, eL t ho 11 (lf b.2.1)]) (by rw [h4]) rfl rfl ?_
          refine z_aload_n X (pc := 16) 0 dX3_advance_16 rfl ?_
          refine zc_V (as := []) X (pc := 17) (c_X3_advanceOnce lq D t h0 hr hn ho en kd x (m - i) (4 ^ (s - i - 1)) b.1 b.2.1 b.2.2.1 b.2.2.2 f (by omega) (by omega) (by omega) (by omega) (pow4_pos _) (fun l la h1 h2 h3 => (hwk.1 l la h1 h2 h3).1) (fun c hc => by rw [← h4]; exact wok_bd hwk hc)) tw_393 tw_396 tw_6 tw_395 tw_1015 0 3 rfl rfl [0, 1, 2, 3] rfl rfl dX3_advance_17 rfl zdX3_advanceOnce ⟨rfl, rfl, Nat.le_of_ble_eq_true rfl, Nat.le_of_ble_eq_true rfl⟩ (Nat.le_of_ble_eq_true rfl) (Nat.zero_le _) (Nat.zero_le _) (fun v_1 w_2 hp_3 => ?_)
          obtain ⟨rfl, rfl⟩ := hp_3
          refine ⟨rfl, ?_⟩
          refine z_eq (ws2 := [eX3 h0 hn hr ho (nI en) (nI kd) (nI x) (nI (m - i) - nI 1) (lN 4398046511104 - lN ((cou kd x en (4 ^ (s - i - 1)) (m - i) b.1 11 (((fun _ => 0), b.2.1, b.2.2.1, b.2.2.2) : wA)).2.2.1)) (lN ((cou kd x en (4 ^ (s - i - 1)) (m - i) b.1 11 (((fun _ => 0), b.2.1, b.2.2.1, b.2.2.2) : wA)).2.2.2)), eL t hn 33 (lf (fun j => (cou kd x en (4 ^ (s - i - 1)) (m - i) b.1 11 (((fun _ => 0), b.2.1, b.2.2.1, b.2.2.2) : wA)).1 j * (4 ^ (s - i - 1)))), eL t hr 33 (lf (fun j => b.1 j * (4 * (4 ^ (s - i - 1))))), eL t ho 11 (lf ((cou kd x en (4 ^ (s - i - 1)) (m - i) b.1 11 (((fun _ => 0), b.2.1, b.2.2.1, b.2.2.2) : wA)).2.1))]) (st2 := []) rfl rfl rfl ?_
          obtain ⟨b2, hb2⟩ : ∃ bb : wA, bb = wst kd x en (m - i) (s - i) b := ⟨_, rfl⟩
          refine z_eq (ws2 := [eX3 h0 hn hr ho (nI en) (nI kd) (nI x) (nI (m - i) - nI 1) (lN 4398046511104 - lN (b2.2.2.1)) (lN b2.2.2.2), eL t hn 33 (lf (fun j => b2.1 j * 4 ^ (s - (i + 1)))), eL t hr 33 (lf (fun j => b.1 j * (4 * 4 ^ (s - i - 1)))), eL t ho 11 (lf b2.2.1)]) (by rw [hb2, wst_def]; rfl) rfl rfl ?_
          refine z_iinc X (pc := 20) (i := 2) 2 (nI (i + 1)) [(2, .int (nI (i + 1))), (0, .ref h0), (1, .int (nI n))] dX3_advance_20 rfl (nI_incc i 1) (by decide) rfl ?_
          refine z_goto X (pc := 23) 2 dX3_advance_23 (by decide) ?_
          refine z_lv [1, 2, 0] (lv2 := [(0, .ref h0), (1, .int (nI n)), (2, .int (nI (i + 1)))]) rfl ?_
          exact ih_2 (i + 1) (nI (m - i) - nI 1) hn hr (lf (fun j => b.1 j * (4 * 4 ^ (s - i - 1)))) b2 (by omega) (by omega) (by rw [hb2, hb, wrun_s]) (fun z => by rw [hb2] at z; have h9 := wst_alive hwk.1 z; exact ⟨by omega, by rw [pk_sub h9, Nat.sub_sub]⟩)
  refine z_eq (ws2 := [eX3 h0 hr hn ho (nI en) (nI kd) (nI x) mt (lN 4398046511104 - lN (a.2.2.1)) (lN a.2.2.2), eL t hr 33 (lf (fun j => a.1 j * 4 ^ (s - 0))), eL t hn 33 f, eL t ho 11 (lf a.2.1)]) (by rw [Nat.sub_zero]) rfl rfl ?_
  refine z_lv [1, 2, 0] (lv2 := [(0, .ref h0), (1, .int (nI n)), (2, .int (nI 0))]) rfl ?_
  exact loop_2 (n + 1) 0 mt hr hn f a (by omega) (by omega) (wrun_z _ _ _ _ _ _).symm (fun z => ⟨Nat.zero_le m, hmt z⟩)

abbrev rm_X3_reachesTillEnd : Room := { frames := 3, cells := 0, slots := 0, locals := 79 }
set_option maxHeartbeats 4000000 in
set_option maxRecDepth 100000 in
theorem c_X3_reachesTillEnd (lq : Launch) (D : va_G) (t : zT) (h0 hr hn ho en kd x m s : Nat) (mt : Int32) (a : wA) (f : Nat → Int64) (hen : en ≤ 1) (hkd : kd ≤ 3) (hx : x ≤ 4) (hm : m ≤ 20) (hs : s ≤ 21) (hok : wok m s a) (hmt : (∃ c, c < 33 ∧ a.1 c ≠ 0) → mt = nI m) : Ct lq D t yX3_reachesTillEnd cX3_reachesTillEnd 4 (some .long) rm_X3_reachesTillEnd [.ref h0] [eX3 h0 hr hn ho (nI en) (nI kd) (nI x) mt (lN 4398046511104 - lN (a.2.2.1)) (lN a.2.2.2), eL t hr 33 (lf (fun j => a.1 j * 4 ^ s)), eL t hn 33 f, eL t ho 11 (lf a.2.1)] 0 0 (fun rv rw_ => ∃ (mt2 : Int32) (hr2 : Nat) (hn2 : Nat) (f2 : Nat → Int64), rv = some (.long (lN (sm (fun j => 4398046511104 - (wrun kd x en m s a j).2.2.1) 21))) ∧ rw_ = [eX3 h0 hr2 hn2 ho (nI en) (nI kd) (nI x) mt2 (lN 4398046511104 - lN ((wrun kd x en m s a 21).2.2.1)) (lN ((wrun kd x en m s a 21).2.2.2)), eL t hr2 33 (lf (fun j => (wrun kd x en m s a 21).1 j * 4 ^ (s - 21))), eL t hn2 33 f2, eL t ho 11 (lf ((wrun kd x en m s a 21).2.1))]) := by
  refine Ct.of (by decide) (Nat.le_of_ble_eq_true rfl) (fun k X hR => ?_)
  have X : zX D t k cX3_reachesTillEnd 4 RX3 "reachesTillEnd" rm_X3_reachesTillEnd lq := X
  refine z_eq (lv2 := [(0, .ref h0)]) rfl rfl rfl ?_
  refine z_lconst X (pc := 0) (lN 0) dX3_reachesTillEnd_0 (by decide) ?_
  refine z_lstore_n X (pc := 1) (i := 1) [(1, .long (lN 0)), (0, .ref h0)] dX3_reachesTillEnd_1 rfl (by decide) rfl ?_
  refine z_iconst X (pc := 2) (nI 0) dX3_reachesTillEnd_2 (by decide) ?_
  refine z_istore_n X (pc := 3) (i := 3) [(3, .int (nI 0)), (1, .long (lN 0)), (0, .ref h0)] dX3_reachesTillEnd_3 rfl (by decide) rfl ?_
  have loop_4 : ∀ (fuel_4 : Nat) (i : Nat) (mt : Int32) (hr : Nat) (hn : Nat) (f : Nat → Int64) (b : wA) (su : Nat), 21 < i + fuel_4 → (i ≤ 21) → (b = wrun kd x en m s a i) → ((∃ c, c < 33 ∧ b.1 c ≠ 0) → i ≤ m ∧ mt = nI (m - i)) → (su = sm (fun j => 4398046511104 - (wrun kd x en m s a j).2.2.1) i) → Z D k (0, 0) [eX3 h0 hr hn ho (nI en) (nI kd) (nI x) mt (lN 4398046511104 - lN (b.2.2.1)) (lN b.2.2.2), eL t hr 33 (lf (fun j => b.1 j * 4 ^ (s - i))), eL t hn 33 f, eL t ho 11 (lf b.2.1)] 4 [(0, .ref h0), (1, .long (lN su)), (3, .int (nI i))] [] := by
    intro fuel_4
    induction fuel_4 with
    | zero =>
      intro i mt hr hn f b su hfuel_4 hi hb hmt hsum
      exfalso; omega
    | succ fuel_4 ih_4 =>
      intro i mt hr hn f b su hfuel_4 hi hb hmt hsum
      have hwk := wok_run (kd := kd) (en := en) hx hok i
      rw [← hb] at hwk
      have hle := wok_le hwk
      refine z_iload_n X (pc := 4) 2 dX3_reachesTillEnd_4 rfl ?_
      refine z_bipush X (pc := 5) (nI 21) dX3_reachesTillEnd_5 (by decide) ?_
      refine z_icmp_geN X (pc := 7) 36 (by omega) (by omega) dX3_reachesTillEnd_7 (by decide) (fun c_7 => ?_) (fun c_7 => ?_)
      · skip
        obtain rfl : i = 21 := by omega
        refine z_eq (ws2 := [eX3 h0 hr hn ho (nI en) (nI kd) (nI x) mt (lN 4398046511104 - lN ((wrun kd x en m s a 21).2.2.1)) (lN ((wrun kd x en m s a 21).2.2.2)), eL t hr 33 (lf (fun j => (wrun kd x en m s a 21).1 j * 4 ^ (s - 21))), eL t hn 33 f, eL t ho 11 (lf ((wrun kd x en m s a 21).2.1))]) (by rw [hb]) rfl rfl ?_
        refine z_lload_n X (pc := 36) 1 dX3_reachesTillEnd_36 rfl ?_
        exact hR.l dX3_reachesTillEnd_37 ⟨mt, hr, hn, f, by rw [hsum], rfl⟩
      · skip
        refine z_aload_n X (pc := 10) 0 dX3_reachesTillEnd_10 rfl ?_
        refine z_get X (pc := 11) 0 7 (.long (lN 4398046511104 - lN (b.2.2.1))) tu_3 tw_114 dX3_reachesTillEnd_11 rfl rfl (by decide) rfl rfl ?_
        refine z_topl (lN (4398046511104 - b.2.2.1)) (lN_som hle) ?_
        refine z_lconst X (pc := 14) (lN 0) dX3_reachesTillEnd_14 (by decide) ?_
        refine z_lcmp_leN X (pc := 15) 36 (by omega) (by omega) dX3_reachesTillEnd_15 dX3_reachesTillEnd_16 (by decide) (fun c_15 => ?_) (fun c_15 => ?_)
        · skip
          have hde := wok_dead hwk (by omega)
          have hd2 := wrun_dead2 (by rw [← hb]; exact hde) (show i ≤ 21 by omega)
          have hsu : su = sm (fun j => 4398046511104 - (wrun kd x en m s a j).2.2.1) 21 := by rw [hsum]; exact smdead (fun j h1 h2 => by rw [(wrun_dead2 (by rw [← hb]; exact hde) h1).1, ← hb]; omega) hi
          refine z_lrow 1 (lf (fun j => (wrun kd x en m s a 21).1 j * 4 ^ (s - 21))) [eX3 h0 hr hn ho (nI en) (nI kd) (nI x) mt (lN 4398046511104 - lN (b.2.2.1)) (lN b.2.2.2), eL t hr 33 (lf (fun j => (wrun kd x en m s a 21).1 j * 4 ^ (s - 21))), eL t hn 33 f, eL t ho 11 (lf b.2.1)] rfl (fun j hj => by show lN (_ * _) = lN (_ * _); rw [hde j hj, hd2.2 j hj, Nat.zero_mul, Nat.zero_mul]) rfl ?_
          refine z_eq (ws2 := [eX3 h0 hr hn ho (nI en) (nI kd) (nI x) mt (lN 4398046511104 - lN ((wrun kd x en m s a 21).2.2.1)) (lN ((wrun kd x en m s a 21).2.2.2)), eL t hr 33 (lf (fun j => (wrun kd x en m s a 21).1 j * 4 ^ (s - 21))), eL t hn 33 f, eL t ho 11 (lf ((wrun kd x en m s a 21).2.1))]) (by rw [hd2.1, ← hb]) rfl rfl ?_
          refine z_lload_n X (pc := 36) 1 dX3_reachesTillEnd_36 rfl ?_
          exact hR.l dX3_reachesTillEnd_37 ⟨mt, hr, hn, f, by rw [hsu], rfl⟩
        · skip
          refine z_lload_n X (pc := 19) 1 dX3_reachesTillEnd_19 rfl ?_
          refine z_aload_n X (pc := 20) 0 dX3_reachesTillEnd_20 rfl ?_
          refine z_get X (pc := 21) 0 7 (.long (lN 4398046511104 - lN (b.2.2.1))) tu_3 tw_114 dX3_reachesTillEnd_21 rfl rfl (by decide) rfl rfl ?_
          refine z_topl (lN (4398046511104 - b.2.2.1)) (lN_som hle) ?_
          refine z_ladd X (pc := 24) (v := (lN (su + (4398046511104 - b.2.2.1)))) dX3_reachesTillEnd_24 (lN_add su (4398046511104 - b.2.2.1)) ?_
          refine z_lstore_n X (pc := 25) (i := 1) [(1, .long (lN (su + (4398046511104 - b.2.2.1)))), (0, .ref h0), (3, .int (nI i))] dX3_reachesTillEnd_25 rfl (by decide) rfl ?_
          have hal := wok_alive hwk (by omega)
          have hms := hwk.2.2 hal
          obtain ⟨him, rfl⟩ := hmt hal
          have h4 := pow4 (show 0 < s - i by omega)
          refine z_eq (ws2 := [eX3 h0 hr hn ho (nI en) (nI kd) (nI x) (nI (m - i)) (lN 4398046511104 - lN (b.2.2.1)) (lN b.2.2.2), eL t hr 33 (lf (fun j => b.1 j * (4 * 4 ^ (s - i - 1)))), eL t hn 33 f, eL t ho 11 (lf b.2.1)]) (by rw [h4]) rfl rfl ?_
          refine z_aload_n X (pc := 26) 1 dX3_reachesTillEnd_26 rfl ?_
          refine zc_V (as := []) X (pc := 27) (c_X3_advanceOnce lq D t h0 hr hn ho en kd x (m - i) (4 ^ (s - i - 1)) b.1 b.2.1 b.2.2.1 b.2.2.2 f (by omega) (by omega) (by omega) (by omega) (pow4_pos _) (fun l la h1 h2 h3 => (hwk.1 l la h1 h2 h3).1) (fun c hc => by rw [← h4]; exact wok_bd hwk hc)) tw_393 tw_396 tw_6 tw_395 tw_1015 0 3 rfl rfl [0, 1, 2, 3] rfl rfl dX3_reachesTillEnd_27 rfl zdX3_advanceOnce ⟨rfl, rfl, Nat.le_of_ble_eq_true rfl, Nat.le_of_ble_eq_true rfl⟩ (Nat.le_of_ble_eq_true rfl) (Nat.zero_le _) (Nat.zero_le _) (fun v_1 w_2 hp_3 => ?_)
          obtain ⟨rfl, rfl⟩ := hp_3
          refine ⟨rfl, ?_⟩
          refine z_eq (ws2 := [eX3 h0 hn hr ho (nI en) (nI kd) (nI x) (nI (m - i) - nI 1) (lN 4398046511104 - lN ((cou kd x en (4 ^ (s - i - 1)) (m - i) b.1 11 (((fun _ => 0), b.2.1, b.2.2.1, b.2.2.2) : wA)).2.2.1)) (lN ((cou kd x en (4 ^ (s - i - 1)) (m - i) b.1 11 (((fun _ => 0), b.2.1, b.2.2.1, b.2.2.2) : wA)).2.2.2)), eL t hn 33 (lf (fun j => (cou kd x en (4 ^ (s - i - 1)) (m - i) b.1 11 (((fun _ => 0), b.2.1, b.2.2.1, b.2.2.2) : wA)).1 j * (4 ^ (s - i - 1)))), eL t hr 33 (lf (fun j => b.1 j * (4 * (4 ^ (s - i - 1))))), eL t ho 11 (lf ((cou kd x en (4 ^ (s - i - 1)) (m - i) b.1 11 (((fun _ => 0), b.2.1, b.2.2.1, b.2.2.2) : wA)).2.1))]) (st2 := []) rfl rfl rfl ?_
          obtain ⟨b2, hb2⟩ : ∃ bb : wA, bb = wst kd x en (m - i) (s - i) b := ⟨_, rfl⟩
          refine z_eq (ws2 := [eX3 h0 hn hr ho (nI en) (nI kd) (nI x) (nI (m - i) - nI 1) (lN 4398046511104 - lN (b2.2.2.1)) (lN b2.2.2.2), eL t hn 33 (lf (fun j => b2.1 j * 4 ^ (s - (i + 1)))), eL t hr 33 (lf (fun j => b.1 j * (4 * 4 ^ (s - i - 1)))), eL t ho 11 (lf b2.2.1)]) (by rw [hb2, wst_def]; rfl) rfl rfl ?_
          refine z_iinc X (pc := 30) (i := 3) 2 (nI (i + 1)) [(3, .int (nI (i + 1))), (1, .long (lN (su + (4398046511104 - b.2.2.1)))), (0, .ref h0)] dX3_reachesTillEnd_30 rfl (nI_incc i 1) (by decide) rfl ?_
          refine z_goto X (pc := 33) 4 dX3_reachesTillEnd_33 (by decide) ?_
          refine z_lv [2, 1, 0] (lv2 := [(0, .ref h0), (1, .long (lN (su + (4398046511104 - b.2.2.1)))), (3, .int (nI (i + 1)))]) rfl ?_
          exact ih_4 (i + 1) (nI (m - i) - nI 1) hn hr (lf (fun j => b.1 j * (4 * 4 ^ (s - i - 1)))) b2 (su + (4398046511104 - b.2.2.1)) (by omega) (by omega) (by rw [hb2, hb, wrun_s]) (fun z => by rw [hb2] at z; have h9 := wst_alive hwk.1 z; exact ⟨by omega, by rw [pk_sub h9, Nat.sub_sub]⟩) (by rw [sm_s, hsum, hb])
  refine z_eq (ws2 := [eX3 h0 hr hn ho (nI en) (nI kd) (nI x) mt (lN 4398046511104 - lN (a.2.2.1)) (lN a.2.2.2), eL t hr 33 (lf (fun j => a.1 j * 4 ^ (s - 0))), eL t hn 33 f, eL t ho 11 (lf a.2.1)]) (by rw [Nat.sub_zero]) rfl rfl ?_
  refine z_lv [2, 1, 0] (lv2 := [(0, .ref h0), (1, .long (lN 0)), (3, .int (nI 0))]) rfl ?_
  exact loop_4 (21 + 1) 0 mt hr hn f a 0 (by omega) (by omega) (wrun_z _ _ _ _ _ _).symm (fun z => ⟨Nat.zero_le m, hmt z⟩) (sm_z _).symm

abbrev rm_X3_keepOnly : Room := { frames := 0, cells := 0, slots := 0, locals := 0 }
set_option maxHeartbeats 4000000 in
set_option maxRecDepth 100000 in
theorem c_X3_keepOnly (lq : Launch) (D : va_G) (t : zT) (h0 hr hn ho en kd x il ir m Q : Nat) (mt : Int32) (so el : Int64) (w : Nat → Nat) (hil : il ≤ 10) (hir : ir ≤ 10) (hm : m ≤ 20) (hmt : (∃ c, c < 33 ∧ w c ≠ 0) → mt = nI m) (hsup : sup m w) : Ct lq D t yX3_keepOnly cX3_keepOnly 7 none rm_X3_keepOnly [.ref h0, .int (nI il), .int (nI ir)] [eX3 h0 hr hn ho (nI en) (nI kd) (nI x) mt so el, eL t hr 33 (lf (fun j => w j * Q))] 0 0 (fun rv rw_ => rv = none ∧ rw_ = [eX3 h0 hr hn ho (nI en) (nI kd) (nI x) mt (lN (sm (kfl m il ir w) 33 * Q)) el, eL t hr 33 (lf (fun j => kfl m il ir w j * Q))]) := by
  refine Ct.of (by decide) (Nat.le_of_ble_eq_true rfl) (fun k X hR => ?_)
  have X : zX D t k cX3_keepOnly 7 RX3 "keepOnly" rm_X3_keepOnly lq := X
  refine z_eq (lv2 := [(0, .ref h0), (1, .int (nI il)), (2, .int (nI ir))]) rfl rfl rfl ?_
  refine z_aload_n X (pc := 0) 0 dX3_keepOnly_0 rfl ?_
  refine z_lconst X (pc := 1) (lN 0) dX3_keepOnly_1 (by decide) ?_
  refine z_put X (pc := 2) 0 7 [eX3 h0 hr hn ho (nI en) (nI kd) (nI x) mt (lN 0) el, eL t hr 33 (lf (fun j => w j * Q))] tu_3 tyX3_ok nmX3 tw_114 dX3_keepOnly_2 rfl rfl (by decide) rfl rfl rfl rfl (Nat.le_of_ble_eq_true rfl) rfl ?_
  refine z_iconst X (pc := 5) (nI 0) dX3_keepOnly_5 (by decide) ?_
  refine z_istore_n X (pc := 6) (i := 3) [(3, .int (nI 0)), (0, .ref h0), (1, .int (nI il)), (2, .int (nI ir))] dX3_keepOnly_6 rfl (by decide) rfl ?_
  have loop_7 : ∀ (fuel_7 : Nat) (l : Nat), 11 < l + fuel_7 → (l ≤ 11) → Z D k (0, 0) [eX3 h0 hr hn ho (nI en) (nI kd) (nI x) mt (lN (sm (kfl m il ir w) (l * 3) * Q)) el, eL t hr 33 (lf (kmix m il ir w Q (l * 3)))] 7 [(0, .ref h0), (1, .int (nI il)), (2, .int (nI ir)), (3, .int (nI l))] [] := by
    intro fuel_7
    induction fuel_7 with
    | zero =>
      intro l hfuel_7 hl
      exfalso; omega
    | succ fuel_7 ih_7 =>
      intro l hfuel_7 hl
      refine z_iload_n X (pc := 7) 3 dX3_keepOnly_7 rfl ?_
      refine z_bipush X (pc := 8) (nI 10) dX3_keepOnly_8 (by decide) ?_
      refine z_icmp_gtN X (pc := 10) 96 (by omega) (by omega) dX3_keepOnly_10 (by decide) (fun c_10 => ?_) (fun c_10 => ?_)
      · skip
        obtain rfl : l = 11 := by omega
        refine z_lrow 1 (lf (fun j => kfl m il ir w j * Q)) [eX3 h0 hr hn ho (nI en) (nI kd) (nI x) mt (lN (sm (kfl m il ir w) (33) * Q)) el, eL t hr 33 (lf (fun j => kfl m il ir w j * Q))] rfl (fun j hj => by show lN (kmix m il ir w Q (11 * 3) j) = lN (_ * _); unfold kmix; rw [if_pos hj]) rfl ?_
        exact hR.v dX3_keepOnly_96 ⟨rfl, rfl⟩
      · skip
        refine z_iload_n X (pc := 13) 3 dX3_keepOnly_13 rfl ?_
        refine z_iload_n X (pc := 14) 1 dX3_keepOnly_14 rfl ?_
        refine z_icmp_neN X (pc := 15) 32 (by omega) (by omega) dX3_keepOnly_15 (by decide) (fun c_15 => ?_) (fun c_15 => ?_)
        · skip
          refine z_iconst X (pc := 32) (nI 0) dX3_keepOnly_32 (by decide) ?_
          refine z_istore X (pc := 33) (i := 4) [(4, .int (nI 0)), (0, .ref h0), (1, .int (nI il)), (2, .int (nI ir)), (3, .int (nI l))] dX3_keepOnly_33 trivial (by decide) rfl ?_
          refine z_iconst X (pc := 35) (nI 0) dX3_keepOnly_35 (by decide) ?_
          refine z_istore X (pc := 36) (i := 5) [(5, .int (nI 0)), (4, .int (nI 0)), (0, .ref h0), (1, .int (nI il)), (2, .int (nI ir)), (3, .int (nI l))] dX3_keepOnly_36 trivial (by decide) rfl ?_
          have loop_38 : ∀ (fuel_38 : Nat) (la : Nat), 3 < la + fuel_38 → (la ≤ 3) → Z D k (0, 0) [eX3 h0 hr hn ho (nI en) (nI kd) (nI x) mt (lN (sm (kfl m il ir w) (l * 3 + la) * Q)) el, eL t hr 33 (lf (kmix m il ir w Q (l * 3 + la)))] 38 [(0, .ref h0), (1, .int (nI il)), (2, .int (nI ir)), (3, .int (nI l)), (4, .int (nI 0)), (5, .int (nI la))] [] := by
            intro fuel_38
            induction fuel_38 with
            | zero =>
              intro la hfuel_38 hla
              exfalso; omega
            | succ fuel_38 ih_38 =>
              intro la hfuel_38 hla
              refine z_iload X (pc := 38) 5 dX3_keepOnly_38 rfl ?_
              refine z_iconst X (pc := 40) (nI 3) dX3_keepOnly_40 (by decide) ?_
              refine z_icmp_geN X (pc := 41) 90 (by omega) (by omega) dX3_keepOnly_41 (by decide) (fun c_41 => ?_) (fun c_41 => ?_)
              · skip
                refine z_iinc X (pc := 90) (i := 3) 3 (nI (l + 1)) [(3, .int (nI (l + 1))), (0, .ref h0), (1, .int (nI il)), (2, .int (nI ir)), (4, .int (nI 0)), (5, .int (nI la))] dX3_keepOnly_90 rfl (nI_incc l 1) (by decide) rfl ?_
                refine z_goto X (pc := 93) 7 dX3_keepOnly_93 (by decide) ?_
                obtain rfl : la = 3 := by omega
                refine z_eq (ws2 := [eX3 h0 hr hn ho (nI en) (nI kd) (nI x) mt (lN (sm (kfl m il ir w) ((l + 1) * 3) * Q)) el, eL t hr 33 (lf (kmix m il ir w Q ((l + 1) * 3)))]) (by rw [show (l + 1) * 3 = l * 3 + 3 by omega]) rfl rfl ?_
                refine z_lv [1, 2, 3, 0] (lv2 := [(0, .ref h0), (1, .int (nI il)), (2, .int (nI ir)), (3, .int (nI (l + 1)))]) rfl ?_
                exact ih_7 (l + 1) (by omega) (by omega)
              · skip
                have hs9 : w (l * 3 + la) ≠ 0 → mt = nI m ∧ l ≤ m := fun z => ⟨hmt ⟨l * 3 + la, by omega, z⟩, (hsup l la (by omega) (by omega) z).1⟩
                have hks := kfl_not (il := il) (ir := ir) (by omega) (by omega) hir hm hs9 (fun z => c_15 z.1)
                refine z_iload_n X (pc := 44) 3 dX3_keepOnly_44 rfl ?_
                refine z_iconst X (pc := 45) (nI 3) dX3_keepOnly_45 (by decide) ?_
                refine z_imul X (pc := 46) (v := (nI (l * 3))) dX3_keepOnly_46 (pk_mul _ _) ?_
                refine z_iload X (pc := 47) 5 dX3_keepOnly_47 rfl ?_
                refine z_iadd X (pc := 49) (v := (nI (l * 3 + la))) dX3_keepOnly_49 (nI_add (l * 3) la) ?_
                refine z_istore X (pc := 50) (i := 6) [(6, .int (nI (l * 3 + la))), (0, .ref h0), (1, .int (nI il)), (2, .int (nI ir)), (3, .int (nI l)), (4, .int (nI 0)), (5, .int (nI la))] dX3_keepOnly_50 trivial (by decide) rfl ?_
                refine z_iload X (pc := 52) 5 dX3_keepOnly_52 rfl ?_
                refine z_if_eqN X (pc := 54) 76 (by omega) dX3_keepOnly_54 (by decide) (fun c_54 => ?_) (fun c_54 => absurd c_54 (by decide))
                refine z_aload_n X (pc := 76) 1 dX3_keepOnly_76 rfl ?_
                refine z_get X (pc := 77) 0 0 (.ref hr) tu_3 tw_107 dX3_keepOnly_77 rfl rfl (by decide) rfl rfl ?_
                refine z_iload X (pc := 80) 0 dX3_keepOnly_80 rfl ?_
                refine z_lconst X (pc := 82) (lN 0) dX3_keepOnly_82 (by decide) ?_
                refine z_last X (pc := 83) 1 (l * 3 + la) (lf (kmix m il ir w Q (l * 3 + (la + 1)))) [eX3 h0 hr hn ho (nI en) (nI kd) (nI x) mt (lN (sm (kfl m il ir w) (l * 3 + la) * Q)) el, eL t hr 33 (lf (kmix m il ir w Q (l * 3 + (la + 1))))] dX3_keepOnly_83 rfl rfl (Nat.le_of_ble_eq_true rfl) (by omega) (by rw [updL_lf, kmix_put hks]; rfl) rfl ?_
                refine z_iinc X (pc := 84) (i := 5) 6 (nI (la + 1)) [(5, .int (nI (la + 1))), (6, .int (nI (l * 3 + la))), (0, .ref h0), (1, .int (nI il)), (2, .int (nI ir)), (3, .int (nI l)), (4, .int (nI 0))] dX3_keepOnly_84 rfl (nI_incc la 1) (by decide) rfl ?_
                refine z_goto X (pc := 87) 38 dX3_keepOnly_87 (by decide) ?_
                refine z_eq (ws2 := [eX3 h0 hr hn ho (nI en) (nI kd) (nI x) mt (lN (sm (kfl m il ir w) (l * 3 + (la + 1)) * Q)) el, eL t hr 33 (lf (kmix m il ir w Q (l * 3 + (la + 1))))]) (by rw [← Nat.add_assoc, sm_s, ← hks, Nat.add_zero (sm (kfl m il ir w) (l * 3 + la))]) rfl rfl ?_
                refine z_lv [2, 3, 4, 5, 6, 0] (lv2 := [(0, .ref h0), (1, .int (nI il)), (2, .int (nI ir)), (3, .int (nI l)), (4, .int (nI 0)), (5, .int (nI (la + 1)))]) rfl ?_
                exact ih_38 (la + 1) (by omega) (by omega)
          refine z_lv [2, 3, 4, 5, 1, 0] (lv2 := [(0, .ref h0), (1, .int (nI il)), (2, .int (nI ir)), (3, .int (nI l)), (4, .int (nI 0)), (5, .int (nI 0))]) rfl ?_
          exact loop_38 4 0 (by omega) (by omega)
        · skip
          refine z_aload_n X (pc := 18) 0 dX3_keepOnly_18 rfl ?_
          refine z_get X (pc := 19) 0 6 (.int mt) tu_3 tw_113 dX3_keepOnly_19 rfl rfl (by decide) rfl rfl ?_
          refine z_iload_n X (pc := 22) 3 dX3_keepOnly_22 rfl ?_
          refine z_isub X (pc := 23) (v := (mt - (nI l))) dX3_keepOnly_23 rfl ?_
          refine z_iload_n X (pc := 24) 2 dX3_keepOnly_24 rfl ?_
          refine z_icmp_ne X (pc := 25) 32 dX3_keepOnly_25 (by decide) (fun c_25 => ?_) (fun c_25 => ?_)
          · skip
            refine z_iconst X (pc := 32) (nI 0) dX3_keepOnly_32 (by decide) ?_
            refine z_istore X (pc := 33) (i := 4) [(4, .int (nI 0)), (0, .ref h0), (1, .int (nI il)), (2, .int (nI ir)), (3, .int (nI l))] dX3_keepOnly_33 trivial (by decide) rfl ?_
            refine z_iconst X (pc := 35) (nI 0) dX3_keepOnly_35 (by decide) ?_
            refine z_istore X (pc := 36) (i := 5) [(5, .int (nI 0)), (4, .int (nI 0)), (0, .ref h0), (1, .int (nI il)), (2, .int (nI ir)), (3, .int (nI l))] dX3_keepOnly_36 trivial (by decide) rfl ?_
            have loop_38 : ∀ (fuel_38 : Nat) (la : Nat), 3 < la + fuel_38 → (la ≤ 3) → Z D k (0, 0) [eX3 h0 hr hn ho (nI en) (nI kd) (nI x) mt (lN (sm (kfl m il ir w) (l * 3 + la) * Q)) el, eL t hr 33 (lf (kmix m il ir w Q (l * 3 + la)))] 38 [(0, .ref h0), (1, .int (nI il)), (2, .int (nI ir)), (3, .int (nI l)), (4, .int (nI 0)), (5, .int (nI la))] [] := by
              intro fuel_38
              induction fuel_38 with
              | zero =>
                intro la hfuel_38 hla
                exfalso; omega
              | succ fuel_38 ih_38 =>
                intro la hfuel_38 hla
                refine z_iload X (pc := 38) 5 dX3_keepOnly_38 rfl ?_
                refine z_iconst X (pc := 40) (nI 3) dX3_keepOnly_40 (by decide) ?_
                refine z_icmp_geN X (pc := 41) 90 (by omega) (by omega) dX3_keepOnly_41 (by decide) (fun c_41 => ?_) (fun c_41 => ?_)
                · skip
                  refine z_iinc X (pc := 90) (i := 3) 3 (nI (l + 1)) [(3, .int (nI (l + 1))), (0, .ref h0), (1, .int (nI il)), (2, .int (nI ir)), (4, .int (nI 0)), (5, .int (nI la))] dX3_keepOnly_90 rfl (nI_incc l 1) (by decide) rfl ?_
                  refine z_goto X (pc := 93) 7 dX3_keepOnly_93 (by decide) ?_
                  obtain rfl : la = 3 := by omega
                  refine z_eq (ws2 := [eX3 h0 hr hn ho (nI en) (nI kd) (nI x) mt (lN (sm (kfl m il ir w) ((l + 1) * 3) * Q)) el, eL t hr 33 (lf (kmix m il ir w Q ((l + 1) * 3)))]) (by rw [show (l + 1) * 3 = l * 3 + 3 by omega]) rfl rfl ?_
                  refine z_lv [1, 2, 3, 0] (lv2 := [(0, .ref h0), (1, .int (nI il)), (2, .int (nI ir)), (3, .int (nI (l + 1)))]) rfl ?_
                  exact ih_7 (l + 1) (by omega) (by omega)
                · skip
                  have hs9 : w (l * 3 + la) ≠ 0 → mt = nI m ∧ l ≤ m := fun z => ⟨hmt ⟨l * 3 + la, by omega, z⟩, (hsup l la (by omega) (by omega) z).1⟩
                  have hks := kfl_not (il := il) (ir := ir) (by omega) (by omega) hir hm hs9 (fun z => c_25 z.2)
                  refine z_iload_n X (pc := 44) 3 dX3_keepOnly_44 rfl ?_
                  refine z_iconst X (pc := 45) (nI 3) dX3_keepOnly_45 (by decide) ?_
                  refine z_imul X (pc := 46) (v := (nI (l * 3))) dX3_keepOnly_46 (pk_mul _ _) ?_
                  refine z_iload X (pc := 47) 5 dX3_keepOnly_47 rfl ?_
                  refine z_iadd X (pc := 49) (v := (nI (l * 3 + la))) dX3_keepOnly_49 (nI_add (l * 3) la) ?_
                  refine z_istore X (pc := 50) (i := 6) [(6, .int (nI (l * 3 + la))), (0, .ref h0), (1, .int (nI il)), (2, .int (nI ir)), (3, .int (nI l)), (4, .int (nI 0)), (5, .int (nI la))] dX3_keepOnly_50 trivial (by decide) rfl ?_
                  refine z_iload X (pc := 52) 5 dX3_keepOnly_52 rfl ?_
                  refine z_if_eqN X (pc := 54) 76 (by omega) dX3_keepOnly_54 (by decide) (fun c_54 => ?_) (fun c_54 => absurd c_54 (by decide))
                  refine z_aload_n X (pc := 76) 1 dX3_keepOnly_76 rfl ?_
                  refine z_get X (pc := 77) 0 0 (.ref hr) tu_3 tw_107 dX3_keepOnly_77 rfl rfl (by decide) rfl rfl ?_
                  refine z_iload X (pc := 80) 0 dX3_keepOnly_80 rfl ?_
                  refine z_lconst X (pc := 82) (lN 0) dX3_keepOnly_82 (by decide) ?_
                  refine z_last X (pc := 83) 1 (l * 3 + la) (lf (kmix m il ir w Q (l * 3 + (la + 1)))) [eX3 h0 hr hn ho (nI en) (nI kd) (nI x) mt (lN (sm (kfl m il ir w) (l * 3 + la) * Q)) el, eL t hr 33 (lf (kmix m il ir w Q (l * 3 + (la + 1))))] dX3_keepOnly_83 rfl rfl (Nat.le_of_ble_eq_true rfl) (by omega) (by rw [updL_lf, kmix_put hks]; rfl) rfl ?_
                  refine z_iinc X (pc := 84) (i := 5) 6 (nI (la + 1)) [(5, .int (nI (la + 1))), (6, .int (nI (l * 3 + la))), (0, .ref h0), (1, .int (nI il)), (2, .int (nI ir)), (3, .int (nI l)), (4, .int (nI 0))] dX3_keepOnly_84 rfl (nI_incc la 1) (by decide) rfl ?_
                  refine z_goto X (pc := 87) 38 dX3_keepOnly_87 (by decide) ?_
                  refine z_eq (ws2 := [eX3 h0 hr hn ho (nI en) (nI kd) (nI x) mt (lN (sm (kfl m il ir w) (l * 3 + (la + 1)) * Q)) el, eL t hr 33 (lf (kmix m il ir w Q (l * 3 + (la + 1))))]) (by rw [← Nat.add_assoc, sm_s, ← hks, Nat.add_zero (sm (kfl m il ir w) (l * 3 + la))]) rfl rfl ?_
                  refine z_lv [2, 3, 4, 5, 6, 0] (lv2 := [(0, .ref h0), (1, .int (nI il)), (2, .int (nI ir)), (3, .int (nI l)), (4, .int (nI 0)), (5, .int (nI (la + 1)))]) rfl ?_
                  exact ih_38 (la + 1) (by omega) (by omega)
            refine z_lv [2, 3, 4, 5, 1, 0] (lv2 := [(0, .ref h0), (1, .int (nI il)), (2, .int (nI ir)), (3, .int (nI l)), (4, .int (nI 0)), (5, .int (nI 0))]) rfl ?_
            exact loop_38 4 0 (by omega) (by omega)
          · skip
            refine z_iconst X (pc := 28) (nI 1) dX3_keepOnly_28 (by decide) ?_
            refine z_goto X (pc := 29) 33 dX3_keepOnly_29 (by decide) ?_
            refine z_istore X (pc := 33) (i := 4) [(4, .int (nI 1)), (0, .ref h0), (1, .int (nI il)), (2, .int (nI ir)), (3, .int (nI l))] dX3_keepOnly_33 trivial (by decide) rfl ?_
            refine z_iconst X (pc := 35) (nI 0) dX3_keepOnly_35 (by decide) ?_
            refine z_istore X (pc := 36) (i := 5) [(5, .int (nI 0)), (4, .int (nI 1)), (0, .ref h0), (1, .int (nI il)), (2, .int (nI ir)), (3, .int (nI l))] dX3_keepOnly_36 trivial (by decide) rfl ?_
            have loop_38 : ∀ (fuel_38 : Nat) (la : Nat), 3 < la + fuel_38 → (la ≤ 3) → Z D k (0, 0) [eX3 h0 hr hn ho (nI en) (nI kd) (nI x) mt (lN (sm (kfl m il ir w) (l * 3 + la) * Q)) el, eL t hr 33 (lf (kmix m il ir w Q (l * 3 + la)))] 38 [(0, .ref h0), (1, .int (nI il)), (2, .int (nI ir)), (3, .int (nI l)), (4, .int (nI 1)), (5, .int (nI la))] [] := by
              intro fuel_38
              induction fuel_38 with
              | zero =>
                intro la hfuel_38 hla
                exfalso; omega
              | succ fuel_38 ih_38 =>
                intro la hfuel_38 hla
                refine z_iload X (pc := 38) 5 dX3_keepOnly_38 rfl ?_
                refine z_iconst X (pc := 40) (nI 3) dX3_keepOnly_40 (by decide) ?_
                refine z_icmp_geN X (pc := 41) 90 (by omega) (by omega) dX3_keepOnly_41 (by decide) (fun c_41 => ?_) (fun c_41 => ?_)
                · skip
                  refine z_iinc X (pc := 90) (i := 3) 3 (nI (l + 1)) [(3, .int (nI (l + 1))), (0, .ref h0), (1, .int (nI il)), (2, .int (nI ir)), (4, .int (nI 1)), (5, .int (nI la))] dX3_keepOnly_90 rfl (nI_incc l 1) (by decide) rfl ?_
                  refine z_goto X (pc := 93) 7 dX3_keepOnly_93 (by decide) ?_
                  obtain rfl : la = 3 := by omega
                  refine z_eq (ws2 := [eX3 h0 hr hn ho (nI en) (nI kd) (nI x) mt (lN (sm (kfl m il ir w) ((l + 1) * 3) * Q)) el, eL t hr 33 (lf (kmix m il ir w Q ((l + 1) * 3)))]) (by rw [show (l + 1) * 3 = l * 3 + 3 by omega]) rfl rfl ?_
                  refine z_lv [1, 2, 3, 0] (lv2 := [(0, .ref h0), (1, .int (nI il)), (2, .int (nI ir)), (3, .int (nI (l + 1)))]) rfl ?_
                  exact ih_7 (l + 1) (by omega) (by omega)
                · skip
                  have hs9 : w (l * 3 + la) ≠ 0 → mt = nI m ∧ l ≤ m := fun z => ⟨hmt ⟨l * 3 + la, by omega, z⟩, (hsup l la (by omega) (by omega) z).1⟩
                  have hks := kfl_same (by omega) (by omega) hir hm hs9 c_15 c_25
                  refine z_iload_n X (pc := 44) 3 dX3_keepOnly_44 rfl ?_
                  refine z_iconst X (pc := 45) (nI 3) dX3_keepOnly_45 (by decide) ?_
                  refine z_imul X (pc := 46) (v := (nI (l * 3))) dX3_keepOnly_46 (pk_mul _ _) ?_
                  refine z_iload X (pc := 47) 5 dX3_keepOnly_47 rfl ?_
                  refine z_iadd X (pc := 49) (v := (nI (l * 3 + la))) dX3_keepOnly_49 (nI_add (l * 3) la) ?_
                  refine z_istore X (pc := 50) (i := 6) [(6, .int (nI (l * 3 + la))), (0, .ref h0), (1, .int (nI il)), (2, .int (nI ir)), (3, .int (nI l)), (4, .int (nI 1)), (5, .int (nI la))] dX3_keepOnly_50 trivial (by decide) rfl ?_
                  refine z_iload X (pc := 52) 5 dX3_keepOnly_52 rfl ?_
                  refine z_if_eqN X (pc := 54) 76 (by omega) dX3_keepOnly_54 (by decide) (fun c_54 => absurd c_54 (by decide)) (fun c_54 => ?_)
                  refine z_aload_n X (pc := 57) 1 dX3_keepOnly_57 rfl ?_
                  refine z_dup X (pc := 58) dX3_keepOnly_58 rfl ?_
                  refine z_get X (pc := 59) 0 7 (.long (lN (sm (kfl m il ir w) (l * 3 + la) * Q))) tu_3 tw_114 dX3_keepOnly_59 rfl rfl (by decide) rfl rfl ?_
                  refine z_aload_n X (pc := 62) 1 dX3_keepOnly_62 rfl ?_
                  refine z_get X (pc := 63) 0 0 (.ref hr) tu_3 tw_107 dX3_keepOnly_63 rfl rfl (by decide) rfl rfl ?_
                  refine z_iload X (pc := 66) 0 dX3_keepOnly_66 rfl ?_
                  refine z_lald X (pc := 68) 1 (l * 3 + la) (lN (w (l * 3 + la) * Q)) dX3_keepOnly_68 rfl rfl (Nat.le_of_ble_eq_true rfl) (by omega) (by show lN (kmix m il ir w Q (l * 3 + la) (l * 3 + la)) = _; rw [kmix_at]) ?_
                  refine z_ladd X (pc := 69) (v := (lN (sm (kfl m il ir w) (l * 3 + la) * Q + (w (l * 3 + la) * Q)))) dX3_keepOnly_69 (lN_add (sm (kfl m il ir w) (l * 3 + la) * Q) (w (l * 3 + la) * Q)) ?_
                  refine z_put X (pc := 70) 0 7 [eX3 h0 hr hn ho (nI en) (nI kd) (nI x) mt (lN (sm (kfl m il ir w) (l * 3 + la) * Q + (w (l * 3 + la) * Q))) el, eL t hr 33 (lf (kmix m il ir w Q (l * 3 + la)))] tu_3 tyX3_ok nmX3 tw_114 dX3_keepOnly_70 rfl rfl (by decide) rfl rfl rfl rfl (Nat.le_of_ble_eq_true rfl) rfl ?_
                  refine z_goto X (pc := 73) 84 dX3_keepOnly_73 (by decide) ?_
                  refine z_iinc X (pc := 84) (i := 5) 6 (nI (la + 1)) [(5, .int (nI (la + 1))), (6, .int (nI (l * 3 + la))), (0, .ref h0), (1, .int (nI il)), (2, .int (nI ir)), (3, .int (nI l)), (4, .int (nI 1))] dX3_keepOnly_84 rfl (nI_incc la 1) (by decide) rfl ?_
                  refine z_goto X (pc := 87) 38 dX3_keepOnly_87 (by decide) ?_
                  refine z_eq (ws2 := [eX3 h0 hr hn ho (nI en) (nI kd) (nI x) mt (lN (sm (kfl m il ir w) (l * 3 + (la + 1)) * Q)) el, eL t hr 33 (lf (kmix m il ir w Q (l * 3 + (la + 1))))]) (by rw [← Nat.add_assoc, sm_s, Nat.add_mul, ← hks, kmix_step hks]) rfl rfl ?_
                  refine z_lv [2, 3, 4, 5, 6, 0] (lv2 := [(0, .ref h0), (1, .int (nI il)), (2, .int (nI ir)), (3, .int (nI l)), (4, .int (nI 1)), (5, .int (nI (la + 1)))]) rfl ?_
                  exact ih_38 (la + 1) (by omega) (by omega)
            refine z_lv [2, 3, 4, 5, 1, 0] (lv2 := [(0, .ref h0), (1, .int (nI il)), (2, .int (nI ir)), (3, .int (nI l)), (4, .int (nI 1)), (5, .int (nI 0))]) rfl ?_
            exact loop_38 4 0 (by omega) (by omega)
  refine z_eq (ws2 := [eX3 h0 hr hn ho (nI en) (nI kd) (nI x) mt (lN (sm (kfl m il ir w) (0 * 3) * Q)) el, eL t hr 33 (lf (kmix m il ir w Q (0 * 3)))]) (by rw [Nat.zero_mul, ← kmix_0, sm_z, Nat.zero_mul]) rfl rfl ?_
  refine z_lv [1, 2, 3, 0] (lv2 := [(0, .ref h0), (1, .int (nI il)), (2, .int (nI ir)), (3, .int (nI 0))]) rfl ?_
  exact loop_7 12 0 (by omega) (by omega)

abbrev rm_X3_chanceOfLevel : Room := { frames := 1, cells := 0, slots := 0, locals := 22 }
set_option maxHeartbeats 4000000 in
set_option maxRecDepth 100000 in
theorem c_X3_chanceOfLevel (lq : Launch) (D : va_G) (t : zT) (h0 hr hn ho en kd x m Q : Nat) (mt : Int32) (so el : Int64) (w : Nat → Nat) (hm : m ≤ 20) (hmt : (∃ c, c < 33 ∧ w c ≠ 0) → mt = nI m) : Ct lq D t yX3_chanceOfLevel cX3_chanceOfLevel 5 (some .long) rm_X3_chanceOfLevel [.ref h0] [eX3 h0 hr hn ho (nI en) (nI kd) (nI x) mt so el, eL t hr 33 (lf (fun j => w j * Q))] 0 0 (fun rv rw_ => rv = some (.long (lN (lev m w * Q))) ∧ rw_ = [eX3 h0 hr hn ho (nI en) (nI kd) (nI x) mt so el, eL t hr 33 (lf (fun j => w j * Q))]) := by
  refine Ct.of (by decide) (Nat.le_of_ble_eq_true rfl) (fun k X hR => ?_)
  have X : zX D t k cX3_chanceOfLevel 5 RX3 "chanceOfLevel" rm_X3_chanceOfLevel lq := X
  refine z_eq (lv2 := [(0, .ref h0)]) rfl rfl rfl ?_
  by_cases hal : ∃ c, c < 33 ∧ w c ≠ 0
  · obtain rfl := hmt hal
    refine z_aload_n X (pc := 0) 0 dX3_chanceOfLevel_0 rfl ?_
    refine z_get X (pc := 1) 0 6 (.int (nI m)) tu_3 tw_113 dX3_chanceOfLevel_1 rfl rfl (by decide) rfl rfl ?_
    refine z_iconst X (pc := 4) (nI 2) dX3_chanceOfLevel_4 (by decide) ?_
    refine z_idiv X (pc := 5) (v := (nI (m / 2))) dX3_chanceOfLevel_5 (by decide) (pk_div (by omega) (by omega) (by omega)) ?_
    refine z_istore_n X (pc := 6) (i := 1) [(1, .int (nI (m / 2))), (0, .ref h0)] dX3_chanceOfLevel_6 rfl (by decide) rfl ?_
    refine z_iload_n X (pc := 7) 0 dX3_chanceOfLevel_7 rfl ?_
    refine z_iload_n X (pc := 8) 0 dX3_chanceOfLevel_8 rfl ?_
    refine z_iadd X (pc := 9) (v := (nI ((m / 2) + (m / 2)))) dX3_chanceOfLevel_9 (nI_add (m / 2) (m / 2)) ?_
    refine z_aload_n X (pc := 10) 1 dX3_chanceOfLevel_10 rfl ?_
    refine z_get X (pc := 11) 0 6 (.int (nI m)) tu_3 tw_113 dX3_chanceOfLevel_11 rfl rfl (by decide) rfl rfl ?_
    refine z_icmp_neN X (pc := 14) 27 (by omega) (by omega) dX3_chanceOfLevel_14 (by decide) (fun c_14 => ?_) (fun c_14 => ?_)
    · skip
      refine z_lconst X (pc := 27) (lN 0) dX3_chanceOfLevel_27 (by decide) ?_
      exact hR.l dX3_chanceOfLevel_28 ⟨by rw [lev, if_neg (by omega), Nat.zero_mul], rfl⟩
    · skip
      refine z_iload_n X (pc := 17) 0 dX3_chanceOfLevel_17 rfl ?_
      refine z_iconst X (pc := 18) (nI 0) dX3_chanceOfLevel_18 (by decide) ?_
      refine z_bipush X (pc := 19) (nI 10) dX3_chanceOfLevel_19 (by decide) ?_
      refine zc_SN (as := [.int (nI (m / 2)), .int (nI 0), .int (nI 10)]) X (pc := 21) (c_X4_within lq D t (nI (m / 2)) (nI 0) (nI 10) ) tw_407 tw_182 tw_1 tw_181 [] rfl rfl dX3_chanceOfLevel_21 rfl zdX4_within ⟨rfl, rfl, Nat.le_of_ble_eq_true rfl, Nat.le_of_ble_eq_true rfl⟩ (Nat.le_of_ble_eq_true rfl) (Nat.zero_le _) (Nat.zero_le _) (fun v_1 w_2 hp_3 => ?_)
      obtain ⟨rfl, rfl⟩ := hp_3
      refine ⟨rfl, ?_⟩
      refine z_eq (ws2 := [eX3 h0 hr hn ho (nI en) (nI kd) (nI x) (nI m) so el, eL t hr 33 (lf (fun j => w j * Q))]) (st2 := [.int (zb ((nI 0) ≤ (nI (m / 2)) ∧ (nI (m / 2)) ≤ (nI 10)))]) rfl rfl rfl ?_
      refine z_if_neB X (pc := 24) 29 dX3_chanceOfLevel_24 (by decide) (fun c_24 => ?_) (fun c_24 => ?_)
      · skip
        obtain ⟨hf, hfe⟩ : ∃ hf : Nat, hf = m / 2 := ⟨_, rfl⟩
        refine z_eq (lv2 := [(1, .int (nI hf)), (0, .ref h0)]) rfl (by rw [hfe]) rfl ?_
        have hf1 : hf ≤ 10 := by omega
        refine z_lconst X (pc := 29) (lN 0) dX3_chanceOfLevel_29 (by decide) ?_
        refine z_lstore_n X (pc := 30) (i := 2) [(2, .long (lN 0)), (1, .int (nI hf)), (0, .ref h0)] dX3_chanceOfLevel_30 rfl (by decide) rfl ?_
        refine z_iconst X (pc := 31) (nI 0) dX3_chanceOfLevel_31 (by decide) ?_
        refine z_istore X (pc := 32) (i := 4) [(4, .int (nI 0)), (2, .long (lN 0)), (1, .int (nI hf)), (0, .ref h0)] dX3_chanceOfLevel_32 trivial (by decide) rfl ?_
        have loop_34 : ∀ (fuel_34 : Nat) (la : Nat) (su : Nat), 3 < la + fuel_34 → (la ≤ 3) → (su = sm (fun j => w (hf * 3 + j) * Q) la) → Z D k (0, 0) [eX3 h0 hr hn ho (nI en) (nI kd) (nI x) (nI m) so el, eL t hr 33 (lf (fun j => w j * Q))] 34 [(0, .ref h0), (1, .int (nI hf)), (2, .long (lN su)), (4, .int (nI la))] [] := by
          intro fuel_34
          induction fuel_34 with
          | zero =>
            intro la su hfuel_34 hla hsu
            exfalso; omega
          | succ fuel_34 ih_34 =>
            intro la su hfuel_34 hla hsu
            refine z_iload X (pc := 34) 3 dX3_chanceOfLevel_34 rfl ?_
            refine z_iconst X (pc := 36) (nI 3) dX3_chanceOfLevel_36 (by decide) ?_
            refine z_icmp_geN X (pc := 37) 60 (by omega) (by omega) dX3_chanceOfLevel_37 (by decide) (fun c_37 => ?_) (fun c_37 => ?_)
            · skip
              refine z_lload_n X (pc := 60) 2 dX3_chanceOfLevel_60 rfl ?_
              exact hR.l dX3_chanceOfLevel_61 ⟨by rw [hsu, show la = 3 by omega, lev, if_pos (by omega), sm_mul, hfe], rfl⟩
            · skip
              refine z_lload_n X (pc := 40) 2 dX3_chanceOfLevel_40 rfl ?_
              refine z_aload_n X (pc := 41) 0 dX3_chanceOfLevel_41 rfl ?_
              refine z_get X (pc := 42) 0 0 (.ref hr) tu_3 tw_107 dX3_chanceOfLevel_42 rfl rfl (by decide) rfl rfl ?_
              refine z_iload_n X (pc := 45) 1 dX3_chanceOfLevel_45 rfl ?_
              refine z_iconst X (pc := 46) (nI 3) dX3_chanceOfLevel_46 (by decide) ?_
              refine z_imul X (pc := 47) (v := (nI (hf * 3))) dX3_chanceOfLevel_47 (pk_mul _ _) ?_
              refine z_iload X (pc := 48) 3 dX3_chanceOfLevel_48 rfl ?_
              refine z_iadd X (pc := 50) (v := (nI (hf * 3 + la))) dX3_chanceOfLevel_50 (nI_add (hf * 3) la) ?_
              refine z_lald X (pc := 51) 1 (hf * 3 + la) (lN (w (hf * 3 + la) * Q)) dX3_chanceOfLevel_51 rfl rfl (Nat.le_of_ble_eq_true rfl) (by omega) rfl ?_
              refine z_ladd X (pc := 52) (v := (lN (su + (w (hf * 3 + la) * Q)))) dX3_chanceOfLevel_52 (lN_add su (w (hf * 3 + la) * Q)) ?_
              refine z_lstore_n X (pc := 53) (i := 2) [(2, .long (lN (su + (w (hf * 3 + la) * Q)))), (0, .ref h0), (1, .int (nI hf)), (4, .int (nI la))] dX3_chanceOfLevel_53 rfl (by decide) rfl ?_
              refine z_iinc X (pc := 54) (i := 4) 3 (nI (la + 1)) [(4, .int (nI (la + 1))), (2, .long (lN (su + (w (hf * 3 + la) * Q)))), (0, .ref h0), (1, .int (nI hf))] dX3_chanceOfLevel_54 rfl (nI_incc la 1) (by decide) rfl ?_
              refine z_goto X (pc := 57) 34 dX3_chanceOfLevel_57 (by decide) ?_
              refine z_lv [2, 3, 1, 0] (lv2 := [(0, .ref h0), (1, .int (nI hf)), (2, .long (lN (su + (w (hf * 3 + la) * Q)))), (4, .int (nI (la + 1)))]) rfl ?_
              exact ih_34 (la + 1) (su + w (hf * 3 + la) * Q) (by omega) (by omega) (by rw [sm_s, hsu])
        refine z_lv [3, 2, 1, 0] (lv2 := [(0, .ref h0), (1, .int (nI hf)), (2, .long (lN 0)), (4, .int (nI 0))]) rfl ?_
        exact loop_34 4 0 0 (by omega) (by omega) (sm_z _).symm
      · skip
        refine z_lconst X (pc := 27) (lN 0) dX3_chanceOfLevel_27 (by decide) ?_
        exact hR.l dX3_chanceOfLevel_28 ⟨absurd ⟨(nI_leI (by omega) (by omega)).mpr (by omega), (nI_leI (by omega) (by omega)).mpr (by omega)⟩ c_24, rfl⟩
  · have hde : ∀ c, c < 33 → w c = 0 := fun c hc => by rcases Nat.eq_zero_or_pos (w c) with z | z; exact z; exact absurd ⟨c, hc, by omega⟩ hal
    refine z_aload_n X (pc := 0) 0 dX3_chanceOfLevel_0 rfl ?_
    refine z_get X (pc := 1) 0 6 (.int mt) tu_3 tw_113 dX3_chanceOfLevel_1 rfl rfl (by decide) rfl rfl ?_
    refine z_iconst X (pc := 4) (nI 2) dX3_chanceOfLevel_4 (by decide) ?_
    refine z_idiv X (pc := 5) (v := (mt / (nI 2))) dX3_chanceOfLevel_5 (by decide) rfl ?_
    refine z_istore_n X (pc := 6) (i := 1) [(1, .int (mt / (nI 2))), (0, .ref h0)] dX3_chanceOfLevel_6 rfl (by decide) rfl ?_
    refine z_iload_n X (pc := 7) 0 dX3_chanceOfLevel_7 rfl ?_
    refine z_iload_n X (pc := 8) 0 dX3_chanceOfLevel_8 rfl ?_
    refine z_iadd X (pc := 9) (v := ((mt / (nI 2)) + (mt / (nI 2)))) dX3_chanceOfLevel_9 rfl ?_
    refine z_aload_n X (pc := 10) 1 dX3_chanceOfLevel_10 rfl ?_
    refine z_get X (pc := 11) 0 6 (.int mt) tu_3 tw_113 dX3_chanceOfLevel_11 rfl rfl (by decide) rfl rfl ?_
    refine z_icmp_ne X (pc := 14) 27 dX3_chanceOfLevel_14 (by decide) (fun c_14 => ?_) (fun c_14 => ?_)
    · skip
      refine z_lconst X (pc := 27) (lN 0) dX3_chanceOfLevel_27 (by decide) ?_
      exact hR.l dX3_chanceOfLevel_28 ⟨by rw [lev_dead hm hde, Nat.zero_mul], rfl⟩
    · skip
      refine z_iload_n X (pc := 17) 0 dX3_chanceOfLevel_17 rfl ?_
      refine z_iconst X (pc := 18) (nI 0) dX3_chanceOfLevel_18 (by decide) ?_
      refine z_bipush X (pc := 19) (nI 10) dX3_chanceOfLevel_19 (by decide) ?_
      refine zc_SN (as := [.int (mt / (nI 2)), .int (nI 0), .int (nI 10)]) X (pc := 21) (c_X4_within lq D t (mt / (nI 2)) (nI 0) (nI 10) ) tw_407 tw_182 tw_1 tw_181 [] rfl rfl dX3_chanceOfLevel_21 rfl zdX4_within ⟨rfl, rfl, Nat.le_of_ble_eq_true rfl, Nat.le_of_ble_eq_true rfl⟩ (Nat.le_of_ble_eq_true rfl) (Nat.zero_le _) (Nat.zero_le _) (fun v_4 w_5 hp_6 => ?_)
      obtain ⟨rfl, rfl⟩ := hp_6
      refine ⟨rfl, ?_⟩
      refine z_eq (ws2 := [eX3 h0 hr hn ho (nI en) (nI kd) (nI x) mt so el, eL t hr 33 (lf (fun j => w j * Q))]) (st2 := [.int (zb ((nI 0) ≤ (mt / (nI 2)) ∧ (mt / (nI 2)) ≤ (nI 10)))]) rfl rfl rfl ?_
      refine z_if_neB X (pc := 24) 29 dX3_chanceOfLevel_24 (by decide) (fun c_24 => ?_) (fun c_24 => ?_)
      · skip
        obtain ⟨hf, hf0, hf1, hfe⟩ := inR (by decide) (by decide) c_24
        refine z_eq (lv2 := [(1, .int (nI hf)), (0, .ref h0)]) rfl (by rw [hfe]) rfl ?_
        refine z_lconst X (pc := 29) (lN 0) dX3_chanceOfLevel_29 (by decide) ?_
        refine z_lstore_n X (pc := 30) (i := 2) [(2, .long (lN 0)), (1, .int (nI hf)), (0, .ref h0)] dX3_chanceOfLevel_30 rfl (by decide) rfl ?_
        refine z_iconst X (pc := 31) (nI 0) dX3_chanceOfLevel_31 (by decide) ?_
        refine z_istore X (pc := 32) (i := 4) [(4, .int (nI 0)), (2, .long (lN 0)), (1, .int (nI hf)), (0, .ref h0)] dX3_chanceOfLevel_32 trivial (by decide) rfl ?_
        have loop_34 : ∀ (fuel_34 : Nat) (la : Nat) (su : Nat), 3 < la + fuel_34 → (la ≤ 3) → (su = sm (fun j => w (hf * 3 + j) * Q) la) → Z D k (0, 0) [eX3 h0 hr hn ho (nI en) (nI kd) (nI x) mt so el, eL t hr 33 (lf (fun j => w j * Q))] 34 [(0, .ref h0), (1, .int (nI hf)), (2, .long (lN su)), (4, .int (nI la))] [] := by
          intro fuel_34
          induction fuel_34 with
          | zero =>
            intro la su hfuel_34 hla hsu
            exfalso; omega
          | succ fuel_34 ih_34 =>
            intro la su hfuel_34 hla hsu
            refine z_iload X (pc := 34) 3 dX3_chanceOfLevel_34 rfl ?_
            refine z_iconst X (pc := 36) (nI 3) dX3_chanceOfLevel_36 (by decide) ?_
            refine z_icmp_geN X (pc := 37) 60 (by omega) (by omega) dX3_chanceOfLevel_37 (by decide) (fun c_37 => ?_) (fun c_37 => ?_)
            · skip
              refine z_lload_n X (pc := 60) 2 dX3_chanceOfLevel_60 rfl ?_
              exact hR.l dX3_chanceOfLevel_61 ⟨by rw [hsu, show la = 3 by omega, lev_dead hm hde, Nat.zero_mul, sm_zero (fun j hj => by rw [hde _ (by omega), Nat.zero_mul])], rfl⟩
            · skip
              refine z_lload_n X (pc := 40) 2 dX3_chanceOfLevel_40 rfl ?_
              refine z_aload_n X (pc := 41) 0 dX3_chanceOfLevel_41 rfl ?_
              refine z_get X (pc := 42) 0 0 (.ref hr) tu_3 tw_107 dX3_chanceOfLevel_42 rfl rfl (by decide) rfl rfl ?_
              refine z_iload_n X (pc := 45) 1 dX3_chanceOfLevel_45 rfl ?_
              refine z_iconst X (pc := 46) (nI 3) dX3_chanceOfLevel_46 (by decide) ?_
              refine z_imul X (pc := 47) (v := (nI (hf * 3))) dX3_chanceOfLevel_47 (pk_mul _ _) ?_
              refine z_iload X (pc := 48) 3 dX3_chanceOfLevel_48 rfl ?_
              refine z_iadd X (pc := 50) (v := (nI (hf * 3 + la))) dX3_chanceOfLevel_50 (nI_add (hf * 3) la) ?_
              refine z_lald X (pc := 51) 1 (hf * 3 + la) (lN (w (hf * 3 + la) * Q)) dX3_chanceOfLevel_51 rfl rfl (Nat.le_of_ble_eq_true rfl) (by omega) rfl ?_
              refine z_ladd X (pc := 52) (v := (lN (su + (w (hf * 3 + la) * Q)))) dX3_chanceOfLevel_52 (lN_add su (w (hf * 3 + la) * Q)) ?_
              refine z_lstore_n X (pc := 53) (i := 2) [(2, .long (lN (su + (w (hf * 3 + la) * Q)))), (0, .ref h0), (1, .int (nI hf)), (4, .int (nI la))] dX3_chanceOfLevel_53 rfl (by decide) rfl ?_
              refine z_iinc X (pc := 54) (i := 4) 3 (nI (la + 1)) [(4, .int (nI (la + 1))), (2, .long (lN (su + (w (hf * 3 + la) * Q)))), (0, .ref h0), (1, .int (nI hf))] dX3_chanceOfLevel_54 rfl (nI_incc la 1) (by decide) rfl ?_
              refine z_goto X (pc := 57) 34 dX3_chanceOfLevel_57 (by decide) ?_
              refine z_lv [2, 3, 1, 0] (lv2 := [(0, .ref h0), (1, .int (nI hf)), (2, .long (lN (su + (w (hf * 3 + la) * Q)))), (4, .int (nI (la + 1)))]) rfl ?_
              exact ih_34 (la + 1) (su + w (hf * 3 + la) * Q) (by omega) (by omega) (by rw [sm_s, hsu])
        refine z_lv [3, 2, 1, 0] (lv2 := [(0, .ref h0), (1, .int (nI hf)), (2, .long (lN 0)), (4, .int (nI 0))]) rfl ?_
        exact loop_34 4 0 0 (by omega) (by omega) (sm_z _).symm
      · skip
        refine z_lconst X (pc := 27) (lN 0) dX3_chanceOfLevel_27 (by decide) ?_
        exact hR.l dX3_chanceOfLevel_28 ⟨by rw [lev_dead hm hde, Nat.zero_mul], rfl⟩
