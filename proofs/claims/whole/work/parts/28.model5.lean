/-! PART 28: the reference: what was seen -/
theorem sm_split (f : Nat → Nat) (a : Nat) : ∀ n : Nat, sm f (a + n) = sm f a + sm (fun i => f (a + i)) n
  | 0 => by rw [sm_z]; rfl
  | n + 1 => by rw [← Nat.add_assoc, sm_s, sm_s, sm_split f a n, Nat.add_assoc]
theorem emb_row {M : Nat} {w : Nat → Nat} {l : Nat} : ∀ r : Nat, r ≤ 11 → sm (fun i => emb M w (33 * l + i)) (3 * r) = if M < l + r ∧ l ≤ M then sm (fun i => w (l * 3 + i)) 3 else 0
  | 0, _ => by rw [Nat.mul_zero, sm_z, if_neg (by omega)]
  | r + 1, h => by
    have f0 : ∀ la, la < 3 → emb M w (33 * l + (3 * r + la)) = if l + r = M then w (l * 3 + la) else 0 := fun la hla => by rw [← Nat.add_assoc]; exact emb_at (by omega) hla
    rw [show 3 * (r + 1) = 3 * r + 3 by omega, sm_split, emb_row r (by omega)]
    by_cases q : l + r = M
    · rw [if_neg (by omega), if_pos (by omega), Nat.zero_add]
      exact sm_cong (fun k hk => by rw [f0 k hk, if_pos q])
    · have h3 : sm (fun i => emb M w (33 * l + (3 * r + i))) 3 = 0 := sm_zero (fun k hk => by show emb M w (33 * l + (3 * r + k)) = 0; rw [f0 k hk, if_neg q])
      rw [h3, Nat.add_zero]
      by_cases z : M < l + r ∧ l ≤ M
      · rw [if_pos z, if_pos (by omega)]
      · rw [if_neg z, if_neg (by omega)]
theorem emb_rows {M : Nat} {w : Nat → Nat} (hw : sup M w) : ∀ l : Nat, l ≤ 11 → sm (emb M w) (33 * l) = sm w (l * 3)
  | 0, _ => by rw [Nat.mul_zero, sm_z, sm_z]
  | l + 1, h => by
    rw [show 33 * (l + 1) = 33 * l + 3 * 11 by omega, sm_split, emb_rows hw l (by omega), emb_row 11 (Nat.le_refl 11), show (l + 1) * 3 = l * 3 + 3 by omega, sm_split w]
    congr 1
    by_cases z : M < l + 11 ∧ l ≤ M
    · rw [if_pos z]
    · rw [if_neg z]
      exact (sm_zero (fun k hk => by
        rcases Nat.eq_zero_or_pos (w (l * 3 + k)) with q | q
        · exact q
        · have := hw l k (by omega) hk (by omega)
          omega)).symm
theorem emb_sum {M : Nat} {w : Nat → Nat} (hw : sup M w) : sm (emb M w) 363 = sm w 33 := emb_rows hw 11 (Nat.le_refl 11)
theorem emb_kfl {M a b p : Nat} {w : Nat → Nat} (hp : p < 363) (ha : a ≤ 10) (hb : b ≤ 10) : emb M (kfl M a b w) p = if p / 3 = 11 * a + b then emb M w p else 0 := by
  unfold emb kfl
  by_cases q : p / 33 + p % 33 / 3 = M
  · rw [if_pos q, if_pos q]
    by_cases z : p / 3 = 11 * a + b
    · rw [if_pos z, if_pos (by omega)]
    · rw [if_neg z, if_neg (by omega)]
  · rw [if_neg q, if_neg q]; split <;> rfl
theorem wrun_alive {kd x en m s : Nat} {a : wA} (hx : x ≤ 4) (h : wok m s a) : ∀ i : Nat, (∃ c, c < 33 ∧ (wrun kd x en m s a i).1 c ≠ 0) → i ≤ m
  | 0, _ => Nat.zero_le m
  | i + 1, z => by
    rw [wrun_s] at z
    have := wst_alive (wok_run (kd := kd) (en := en) hx h i).1 z
    omega
noncomputable abbrev usn (s : Nat → Nat) (ev : Nat) (sl sr : Nat → Nat) (sg kd x : Nat) : Nat := sm (sna s ev sl sr kd x sg).1 33
theorem csn_usn {s : Nat → Nat} (hs : sOk s) {ev : Nat} {sl sr : Nat → Nat} {sg kd x : Nat} (hx : x ≤ 4) : csn s ev sl sr sg kd x = usn s ev sl sr sg kd x * 4 ^ (21 - ev * sg) := by
  have h := (wok_sna hs (ev := ev) (sl := sl) (sr := sr) (kd := kd) hx sg).2.1
  unfold csn usn
  omega
theorem usn_no {s : Nat → Nat} (hs : sOk s) {ev : Nat} (hev : 1 ≤ ev) {sl sr : Nat → Nat} {sg kd x : Nat} (hx : x ≤ 4) (h : ∃ k, k < sg ∧ ¬ sl k + sr k + ev * (k + 1) = s 0 + s 1) : usn s ev sl sr sg kd x = 0 := by
  obtain ⟨k, hk, hne⟩ := h
  have hw := wok_sna hs (ev := ev) (sl := sl) (sr := sr) (kd := kd) hx k
  have h0 : ∀ c, c < 33 → (sna s ev sl sr kd x (k + 1)).1 c = 0 := fun c hc => by
    rw [sna_s]
    show kfl (s 0 + s 1 - ev * (k + 1)) (sl k) (sr k) (snw s ev sl sr kd x k).1 c = 0
    unfold kfl
    split
    · rename_i q
      rcases Nat.eq_zero_or_pos ((snw s ev sl sr kd x k).1 c) with z | z
      · exact z
      · have h1 := wrun_alive (kd := kd) (en := 0) hx hw ev ⟨c, hc, Nat.ne_of_gt z⟩
        have h2 : ev * (k + 1) = ev * k + ev := Nat.mul_succ ev k
        omega
    · rfl
  have h1 := sna_dead hs hx h0 (sg - (k + 1))
  rw [show k + 1 + (sg - (k + 1)) = sg by omega] at h1
  exact sm_zero h1
theorem usn_le {s : Nat → Nat} (hs : sOk s) {ev : Nat} {sl sr : Nat → Nat} {sg kd x : Nat} (hx : x ≤ 4) : usn s ev sl sr sg kd x ≤ 4398046511104 := by
  have h := (wok_sna hs (ev := ev) (sl := sl) (sr := sr) (kd := kd) hx sg).2.1
  have h2 := Nat.le_mul_of_pos_right (sm (sna s ev sl sr kd x sg).1 33) (pow4_pos (21 - ev * sg))
  unfold usn
  omega
theorem usn_alive {s : Nat → Nat} (hs : sOk s) {ev : Nat} (hev : 1 ≤ ev) {sl sr : Nat → Nat} {kd x : Nat} (hx : x ≤ 4) : ∀ {sg : Nat}, 0 < usn s ev sl sr sg kd x → ev * sg ≤ s 0 + s 1
  | 0, _ => by rw [Nat.mul_zero]; exact Nat.zero_le _
  | sg + 1, h => by
    have hw := wok_sna hs (ev := ev) (sl := sl) (sr := sr) (kd := kd) hx sg
    by_cases q : ∃ c, c < 33 ∧ (snw s ev sl sr kd x sg).1 c ≠ 0
    · have h1 := wrun_alive (kd := kd) (en := 0) hx hw ev q
      have h2 : ev * (sg + 1) = ev * sg + ev := Nat.mul_succ ev sg
      omega
    · have h0 := dead_of q
      have : usn s ev sl sr (sg + 1) kd x = 0 := by
        unfold usn; rw [sna_s]
        exact sm_zero (fun k hk => by have h3 := kfl_le (m := s 0 + s 1 - ev * (sg + 1)) (il := sl sg) (ir := sr sg) (w := (snw s ev sl sr kd x sg).1) k; rw [h0 k hk] at h3; exact Nat.le_zero.mp h3)
      omega
theorem lqt_cong {c d : Nat → Nat} : ∀ {n : Nat}, (∀ x, x < n → c x = d x) → lqt c n = lqt d n
  | 0, _ => by rw [lqt_z, lqt_z]
  | n + 1, h => by rw [lqt_s, lqt_s, lqt_cong (fun x hx => h x (by omega)), h n (by omega)]
theorem lqt_scale {u : Nat → Nat} {P : Nat} (hP : 0 < P) : ∀ n : Nat, lqt (fun x => u x * P) n = ((lqt u n).1, (lqt u n).2 * P)
  | 0 => by rw [lqt_z, lqt_z, Nat.zero_mul]
  | n + 1 => by
    rw [lqt_s, lqt_s, lqt_scale hP n]
    by_cases h : (lqt u n).2 < u n
    · rw [if_pos h, if_pos (Nat.mul_lt_mul_of_pos_right h hP)]
    · rw [if_neg h, if_neg (fun z => h (Nat.lt_of_mul_lt_mul_right z))]
theorem lqt_none {c : Nat → Nat} : ∀ {n : Nat}, (lqt c n).1 = none → (lqt c n).2 = 0
  | 0, _ => by rw [lqt_z]
  | n + 1, h => by
    rw [lqt_s] at h ⊢
    split at h
    · cases h
    · rename_i q; rw [if_neg q]; exact lqt_none h
theorem lqt_val {c : Nat → Nat} : ∀ {n x : Nat}, (lqt c n).1 = some x → (lqt c n).2 = c x
  | 0, x, h => by rw [lqt_z] at h; cases h
  | n + 1, x, h => by
    rw [lqt_s] at h ⊢
    split at h
    · rename_i q; rw [if_pos q]; cases h; rfl
    · rename_i q; rw [if_neg q]; exact lqt_val h
theorem lqt_pos {c : Nat → Nat} : ∀ {n x : Nat}, (lqt c n).1 = some x → 0 < c x
  | 0, x, h => by rw [lqt_z] at h; cases h
  | n + 1, x, h => by
    rw [lqt_s] at h
    split at h
    · rename_i q; cases h; omega
    · exact lqt_pos h
theorem lqt_up {c : Nat → Nat} {n : Nat} (h : 0 < c n) : (lqt c (n + 1)).1 ≠ none := by
  rw [lqt_s]
  split
  · exact fun z => by cases z
  · rename_i q
    intro z
    have := lqt_none z
    omega
theorem lqt_st {c : Nat → Nat} {n : Nat} (h : c n = 0) : lqt c (n + 1) = lqt c n := by rw [lqt_s, if_neg (by omega)]
def foF (o : Option Nat) : Int32 := match o with
  | none => -4
  | some x => nI x
abbrev rm_X5_sightsBy : Room := { frames := 2, cells := 0, slots := 0, locals := 62 }
set_option maxHeartbeats 4000000 in
set_option maxRecDepth 100000 in
theorem c_X5_sightsBy (lq : Launch) (D : va_G) (t : zT) (mq mT mD mS mP mI mE mH mX mR mO ty ev kn kp sg : Nat) (at_ : Int32) (fs : Int64) (s : Nat → Nat) (f1 f2 f3 f4 : Nat → Int64) (sl sr : Nat → Nat) (kd x : Nat) (hs : sOk s) (hkd : kd ≤ 3) (hx : x ≤ 4) (hev : 1 ≤ ev ∧ ev ≤ 9) (hsg : sg ≤ 6) (hsl : ∀ j, sl j ≤ 10 ∧ sr j ≤ 10) : Ct lq D t yX5_sightsBy cX5_sightsBy 8 (some .long) rm_X5_sightsBy [.ref mq, .int (nI kd), .int (nI x)] [eX5 mq mT (nI ty) mD mS (nI ev) mP (nI kn) mI (nI kp) mE (nI sg) at_ mH mX mR mO fs, eI t mS 5 (nf s), eL t mH 363 f1, eL t mX 363 f2, eL t mR 11 f3, eL t mO 22 f4, eI t mE 6 (nf (fun j => 11 * sl j + sr j))] 0 0 (fun rv rw_ => ∃ (FS : Int64) (F1 : Nat → Int64) (F2 : Nat → Int64) (F3 : Nat → Int64) (F4 : Nat → Int64), rv = some (.long (lN (usn s ev sl sr sg kd x))) ∧ rw_ = [eX5 mq mT (nI ty) mD mS (nI ev) mP (nI kn) mI (nI kp) mE (nI sg) at_ mH mX mR mO FS, eI t mS 5 (nf s), eL t mH 363 F1, eL t mX 363 F2, eL t mR 11 F3, eL t mO 22 F4, eI t mE 6 (nf (fun j => 11 * sl j + sr j))]) := by
  refine Ct.of (by decide) (Nat.le_of_ble_eq_true rfl) (fun k X hRet => ?_)
  have X : zX D t k cX5_sightsBy 8 RX5 "sightsBy" rm_X5_sightsBy lq := X
  refine z_eq (lv2 := [(0, .ref mq), (1, .int (nI kd)), (2, .int (nI x))]) rfl rfl rfl ?_
  have hsk := hs
  obtain ⟨hs0, hs1, hs2, hs3, hs4⟩ := hs
  refine z_iconst X (pc := 0) (nI 1) dX5_sightsBy_0 (by decide) ?_
  refine z_istore_n X (pc := 1) (i := 3) [(3, .int (nI 1)), (0, .ref mq), (1, .int (nI kd)), (2, .int (nI x))] dX5_sightsBy_1 rfl (by decide) rfl ?_
  refine z_iconst X (pc := 2) (nI 0) dX5_sightsBy_2 (by decide) ?_
  refine z_istore X (pc := 3) (i := 4) [(4, .int (nI 0)), (3, .int (nI 1)), (0, .ref mq), (1, .int (nI kd)), (2, .int (nI x))] dX5_sightsBy_3 trivial (by decide) rfl ?_
  have loop_5 : ∀ (fuel_5 : Nat) (i : Nat) (cn : Nat), sg < i + fuel_5 → (i ≤ sg) → ((cn = 1 ∧ ∀ k, k < i → sl k + sr k + ev * (k + 1) = s 0 + s 1) ∨ (cn = 0 ∧ ∃ k, k < i ∧ ¬ sl k + sr k + ev * (k + 1) = s 0 + s 1)) → Z D k (0, 0) [eX5 mq mT (nI ty) mD mS (nI ev) mP (nI kn) mI (nI kp) mE (nI sg) at_ mH mX mR mO fs, eI t mS 5 (nf s), eL t mH 363 f1, eL t mX 363 f2, eL t mR 11 f3, eL t mO 22 f4, eI t mE 6 (nf (fun j => 11 * sl j + sr j))] 5 [(0, .ref mq), (1, .int (nI kd)), (2, .int (nI x)), (3, .int (nI cn)), (4, .int (nI i))] [] := by
    intro fuel_5
    induction fuel_5 with
    | zero =>
      intro i cn hfuel_5 hi hcn
      exfalso; omega
    | succ fuel_5 ih_5 =>
      intro i cn hfuel_5 hi hcn
      have hcn1 : cn ≤ 1 := by rcases hcn with z | z <;> omega
      refine z_iload X (pc := 5) 4 dX5_sightsBy_5 rfl ?_
      refine z_aload_n X (pc := 7) 0 dX5_sightsBy_7 rfl ?_
      refine z_get X (pc := 8) 0 10 (.int (nI sg)) tu_5 tw_569 dX5_sightsBy_8 rfl rfl (by decide) rfl rfl ?_
      refine z_icmp_geN X (pc := 11) 77 (by omega) (by omega) dX5_sightsBy_11 (by decide) (fun c_11 => ?_) (fun c_11 => ?_)
      · skip
        refine z_iload_n X (pc := 77) 3 dX5_sightsBy_77 rfl ?_
        refine z_if_neN X (pc := 78) 83 (by omega) dX5_sightsBy_78 (by decide) (fun c_78 => ?_) (fun c_78 => ?_)
        · skip
          refine z_aload_n X (pc := 83) 0 dX5_sightsBy_83 rfl ?_
          refine zc_V (as := []) X (pc := 84) (c_X5_clears lq D t mq mT mD mS mP mI mE mH mX mR mO ty ev kn kp sg at_ fs f3 f4 ) tw_703 tw_706 tw_7 tw_705 tw_1032 0 5 rfl rfl [0, 4, 5] rfl rfl dX5_sightsBy_84 rfl zdX5_clears ⟨rfl, rfl, Nat.le_of_ble_eq_true rfl, Nat.le_of_ble_eq_true rfl⟩ (Nat.le_of_ble_eq_true rfl) (Nat.zero_le _) (Nat.zero_le _) (fun v_1 w_2 hp_3 => ?_)
          obtain ⟨rfl, rfl⟩ := hp_3
          refine ⟨rfl, ?_⟩
          refine z_eq (ws2 := [eX5 mq mT (nI ty) mD mS (nI ev) mP (nI kn) mI (nI kp) mE (nI sg) at_ mH mX mR mO (lN 0), eI t mS 5 (nf s), eL t mH 363 f1, eL t mX 363 f2, eL t mR 11 (lf (fun _ => 0)), eL t mO 22 (lf (fun _ => 0)), eI t mE 6 (nf (fun j => 11 * sl j + sr j))]) (st2 := []) rfl rfl rfl ?_
          refine z_aload_n X (pc := 87) 0 dX5_sightsBy_87 rfl ?_
          refine z_aload_n X (pc := 88) 0 dX5_sightsBy_88 rfl ?_
          refine z_get X (pc := 89) 0 3 (.ref mS) tu_5 tw_562 dX5_sightsBy_89 rfl rfl (by decide) rfl rfl ?_
          refine z_iconst X (pc := 92) (nI 0) dX5_sightsBy_92 (by decide) ?_
          refine z_iald X (pc := 93) 1 0 (nI (s 0)) dX5_sightsBy_93 rfl rfl (Nat.le_of_ble_eq_true rfl) (by decide) rfl ?_
          refine z_aload_n X (pc := 94) 0 dX5_sightsBy_94 rfl ?_
          refine z_get X (pc := 95) 0 3 (.ref mS) tu_5 tw_562 dX5_sightsBy_95 rfl rfl (by decide) rfl rfl ?_
          refine z_iconst X (pc := 98) (nI 1) dX5_sightsBy_98 (by decide) ?_
          refine z_iald X (pc := 99) 1 1 (nI (s 1)) dX5_sightsBy_99 rfl rfl (Nat.le_of_ble_eq_true rfl) (by decide) rfl ?_
          refine z_aload_n X (pc := 100) 0 dX5_sightsBy_100 rfl ?_
          refine z_get X (pc := 101) 0 3 (.ref mS) tu_5 tw_562 dX5_sightsBy_101 rfl rfl (by decide) rfl rfl ?_
          refine z_iconst X (pc := 104) (nI 2) dX5_sightsBy_104 (by decide) ?_
          refine z_iald X (pc := 105) 1 2 (nI (s 2)) dX5_sightsBy_105 rfl rfl (Nat.le_of_ble_eq_true rfl) (by decide) rfl ?_
          refine zc_V (as := [.int (nI (s 0)), .int (nI (s 1)), .int (nI (s 2))]) X (pc := 106) (c_X5_begin0 lq D t mq mT mD mS mP mI mE mH mX mR mO ty ev kn kp sg at_ (lN 0) (s 0) (s 1) (s 2) f1 (by omega) (by omega) (by omega)) tw_708 tw_711 tw_7 tw_710 tw_1033 0 5 rfl rfl [0, 2] rfl rfl dX5_sightsBy_106 rfl zdX5_begin0 ⟨rfl, rfl, Nat.le_of_ble_eq_true rfl, Nat.le_of_ble_eq_true rfl⟩ (Nat.le_of_ble_eq_true rfl) (Nat.zero_le _) (Nat.zero_le _) (fun v_4 w_5 hp_6 => ?_)
          obtain ⟨rfl, rfl⟩ := hp_6
          refine ⟨rfl, ?_⟩
          refine z_eq (ws2 := [eX5 mq mT (nI ty) mD mS (nI ev) mP (nI kn) mI (nI kp) mE (nI sg) at_ mH mX mR mO (lN 0), eI t mS 5 (nf s), eL t mH 363 (lf (emb ((s 0) + (s 1)) (vup (fun _ => 0) ((s 0) * 3 + (s 2)) 1))), eL t mX 363 f2, eL t mR 11 (lf (fun _ => 0)), eL t mO 22 (lf (fun _ => 0)), eI t mE 6 (nf (fun j => 11 * sl j + sr j))]) (st2 := []) rfl rfl rfl ?_
          refine z_lconst X (pc := 109) (lN 1) dX5_sightsBy_109 (by decide) ?_
          refine z_lstore X (pc := 110) (i := 4) [(4, .long (lN 1)), (0, .ref mq), (1, .int (nI kd)), (2, .int (nI x)), (3, .int (nI cn))] dX5_sightsBy_110 trivial (by decide) rfl ?_
          refine z_iconst X (pc := 112) (nI 0) dX5_sightsBy_112 (by decide) ?_
          refine z_istore X (pc := 113) (i := 6) [(6, .int (nI 0)), (4, .long (lN 1)), (0, .ref mq), (1, .int (nI kd)), (2, .int (nI x)), (3, .int (nI cn))] dX5_sightsBy_113 trivial (by decide) rfl ?_
          have loop_115 : ∀ (fuel_115 : Nat) (i : Nat) (su : Nat) (os : Nat → Nat) (sn : Nat → Nat) (el : Nat) (f2 : Nat → Int64), sg < i + fuel_115 → (i ≤ sg) → (su = sm (sna s ev sl sr kd x i).1 33) → Z D k (0, 0) [eX5 mq mT (nI ty) mD mS (nI ev) mP (nI kn) mI (nI kp) mE (nI sg) at_ mH mX mR mO (lN el), eI t mS 5 (nf s), eL t mH 363 (lf (emb (s 0 + s 1 - ev * i) (sna s ev sl sr kd x i).1)), eL t mX 363 f2, eL t mR 11 (lf os), eL t mO 22 (lf sn), eI t mE 6 (nf (fun j => 11 * sl j + sr j))] 115 [(0, .ref mq), (1, .int (nI kd)), (2, .int (nI x)), (4, .long (lN su)), (6, .int (nI i))] [] := by
            intro fuel_115
            induction fuel_115 with
            | zero =>
              intro i su os sn el f2 hfuel_115 hi9 hsu
              exfalso; omega
            | succ fuel_115 ih_115 =>
              intro i su os sn el f2 hfuel_115 hi9 hsu
              refine z_iload X (pc := 115) 4 dX5_sightsBy_115 rfl ?_
              refine z_aload_n X (pc := 117) 0 dX5_sightsBy_117 rfl ?_
              refine z_get X (pc := 118) 0 10 (.int (nI sg)) tu_5 tw_569 dX5_sightsBy_118 rfl rfl (by decide) rfl rfl ?_
              refine z_icmp_geN X (pc := 121) 221 (by omega) (by omega) dX5_sightsBy_121 (by decide) (fun c_121 => ?_) (fun c_121 => ?_)
              · skip
                refine z_lload X (pc := 221) 3 dX5_sightsBy_221 rfl ?_
                exact hRet.l dX5_sightsBy_223 ⟨(lN el), (lf (emb (s 0 + s 1 - ev * i) (sna s ev sl sr kd x i).1)), f2, (lf os), (lf sn), by rw [hsu, show i = sg by omega], rfl⟩
              · skip
                refine z_iconst X (pc := 124) (nI 0) dX5_sightsBy_124 (by decide) ?_
                refine z_istore X (pc := 125) (i := 7) [(7, .int (nI 0)), (0, .ref mq), (1, .int (nI kd)), (2, .int (nI x)), (4, .long (lN su)), (6, .int (nI i))] dX5_sightsBy_125 trivial (by decide) rfl ?_
                have loop_127 : ∀ (fuel_127 : Nat) (j : Nat) (os : Nat → Nat) (sn : Nat → Nat) (el : Nat) (f2 : Nat → Int64), ev < j + fuel_127 → (j ≤ ev) → Z D k (0, 0) [eX5 mq mT (nI ty) mD mS (nI ev) mP (nI kn) mI (nI kp) mE (nI sg) at_ mH mX mR mO (lN el), eI t mS 5 (nf s), eL t mH 363 (lf (emb (s 0 + s 1 - ev * i - j) (wrun kd x 0 (s 0 + s 1 - ev * i) (21 - ev * i) (sna s ev sl sr kd x i) j).1)), eL t mX 363 f2, eL t mR 11 (lf os), eL t mO 22 (lf sn), eI t mE 6 (nf (fun j => 11 * sl j + sr j))] 127 [(0, .ref mq), (1, .int (nI kd)), (2, .int (nI x)), (4, .long (lN su)), (6, .int (nI i)), (7, .int (nI j))] [] := by
                  intro fuel_127
                  induction fuel_127 with
                  | zero =>
                    intro j os sn el f2 hfuel_127 hj
                    exfalso; omega
                  | succ fuel_127 ih_127 =>
                    intro j os sn el f2 hfuel_127 hj
                    have hwj := wok_run (kd := kd) (en := 0) hx (wok_sna hsk (ev := ev) (sl := sl) (sr := sr) (kd := kd) hx i) j
                    refine z_iload X (pc := 127) 5 dX5_sightsBy_127 rfl ?_
                    refine z_aload_n X (pc := 129) 0 dX5_sightsBy_129 rfl ?_
                    refine z_get X (pc := 130) 0 4 (.int (nI ev)) tu_5 tw_563 dX5_sightsBy_130 rfl rfl (by decide) rfl rfl ?_
                    refine z_icmp_geN X (pc := 133) 151 (by omega) (by omega) dX5_sightsBy_133 (by decide) (fun c_133 => ?_) (fun c_133 => ?_)
                    · skip
                      have hje : j = ev := by omega
                      have hmul : ev * i + ev = ev * (i + 1) := (Nat.mul_succ ev i).symm
                      have hwr := wok_run (kd := kd) (en := 0) hx (wok_sna hsk (ev := ev) (sl := sl) (sr := sr) (kd := kd) hx i) ev
                      rw [Nat.sub_sub, Nat.sub_sub, hmul] at hwr
                      refine z_lconst X (pc := 151) (lN 0) dX5_sightsBy_151 (by decide) ?_
                      refine z_lstore X (pc := 152) (i := 4) [(4, .long (lN 0)), (0, .ref mq), (1, .int (nI kd)), (2, .int (nI x)), (6, .int (nI i)), (7, .int (nI j))] dX5_sightsBy_152 trivial (by decide) rfl ?_
                      refine z_iconst X (pc := 154) (nI 0) dX5_sightsBy_154 (by decide) ?_
                      refine z_istore X (pc := 155) (i := 7) [(7, .int (nI 0)), (4, .long (lN 0)), (0, .ref mq), (1, .int (nI kd)), (2, .int (nI x)), (6, .int (nI i))] dX5_sightsBy_155 trivial (by decide) rfl ?_
                      have loop_157 : ∀ (fuel_157 : Nat) (q_ : Nat) (su3 : Nat), 363 < q_ + fuel_157 → (q_ ≤ 363) → (su3 = sm (emb (s 0 + s 1 - ev * (i + 1)) (snk s ev sl sr kd x i)) q_) → Z D k (0, 0) [eX5 mq mT (nI ty) mD mS (nI ev) mP (nI kn) mI (nI kp) mE (nI sg) at_ mH mX mR mO (lN el), eI t mS 5 (nf s), eL t mH 363 (lf (fun q => if q < q_ then emb (s 0 + s 1 - ev * (i + 1)) (snk s ev sl sr kd x i) q else emb (s 0 + s 1 - ev * (i + 1)) (snw s ev sl sr kd x i).1 q)), eL t mX 363 f2, eL t mR 11 (lf os), eL t mO 22 (lf sn), eI t mE 6 (nf (fun j => 11 * sl j + sr j))] 157 [(0, .ref mq), (1, .int (nI kd)), (2, .int (nI x)), (4, .long (lN su3)), (6, .int (nI i)), (7, .int (nI q_))] [] := by
                        intro fuel_157
                        induction fuel_157 with
                        | zero =>
                          intro q_ su3 hfuel_157 hq_ hsu3
                          exfalso; omega
                        | succ fuel_157 ih_157 =>
                          intro q_ su3 hfuel_157 hq_ hsu3
                          refine z_iload X (pc := 157) 5 dX5_sightsBy_157 rfl ?_
                          refine z_sipush X (pc := 159) (nI 363) dX5_sightsBy_159 (by decide) ?_
                          refine z_icmp_geN X (pc := 162) 215 (by omega) (by omega) dX5_sightsBy_162 (by decide) (fun c_162 => ?_) (fun c_162 => ?_)
                          · skip
                            have hq9 : q_ = 363 := by omega
                            refine z_lrow 2 (lf (emb (s 0 + s 1 - ev * (i + 1)) (sna s ev sl sr kd x (i + 1)).1)) [eX5 mq mT (nI ty) mD mS (nI ev) mP (nI kn) mI (nI kp) mE (nI sg) at_ mH mX mR mO (lN el), eI t mS 5 (nf s), eL t mH 363 (lf (emb (s 0 + s 1 - ev * (i + 1)) (sna s ev sl sr kd x (i + 1)).1)), eL t mX 363 f2, eL t mR 11 (lf os), eL t mO 22 (lf sn), eI t mE 6 (nf (fun j => 11 * sl j + sr j))] rfl (fun q hq => by show lN (if q < q_ then _ else _) = lN _; rw [if_pos (by omega), sna_s]) rfl ?_
                            have hsup2 : sup (s 0 + s 1 - ev * (i + 1)) (snk s ev sl sr kd x i) := (wok_kfl (il := sl i) (ir := sr i) (os := os) (el := 0) hwr).1
                            have hsu3 : su3 = sm (sna s ev sl sr kd x (i + 1)).1 33 := by rw [hsu3, hq9, emb_sum hsup2, sna_s]
                            refine z_iinc X (pc := 215) (i := 6) 4 (nI (i + 1)) [(6, .int (nI (i + 1))), (0, .ref mq), (1, .int (nI kd)), (2, .int (nI x)), (4, .long (lN su3)), (7, .int (nI q_))] dX5_sightsBy_215 rfl (nI_incc i 1) (by decide) rfl ?_
                            refine z_goto X (pc := 218) 115 dX5_sightsBy_218 (by decide) ?_
                            refine z_lv [1, 2, 3, 4, 0] (lv2 := [(0, .ref mq), (1, .int (nI kd)), (2, .int (nI x)), (4, .long (lN su3)), (6, .int (nI (i + 1)))]) rfl ?_
                            exact ih_115 (i + 1) su3 os sn el f2 (by omega) (by omega) hsu3
                          · skip
                            refine z_aload_n X (pc := 165) 0 dX5_sightsBy_165 rfl ?_
                            refine z_get X (pc := 166) 0 12 (.ref mH) tu_5 tw_571 dX5_sightsBy_166 rfl rfl (by decide) rfl rfl ?_
                            refine z_iload X (pc := 169) 5 dX5_sightsBy_169 rfl ?_
                            refine z_iload X (pc := 171) 5 dX5_sightsBy_171 rfl ?_
                            refine z_iconst X (pc := 173) (nI 3) dX5_sightsBy_173 (by decide) ?_
                            refine z_idiv X (pc := 174) (v := (nI (q_ / 3))) dX5_sightsBy_174 (by decide) (pk_div (by omega) (by omega) (by omega)) ?_
                            refine z_aload_n X (pc := 175) 0 dX5_sightsBy_175 rfl ?_
                            refine z_get X (pc := 176) 0 9 (.ref mE) tu_5 tw_568 dX5_sightsBy_176 rfl rfl (by decide) rfl rfl ?_
                            refine z_iload X (pc := 179) 4 dX5_sightsBy_179 rfl ?_
                            refine z_iald X (pc := 181) 6 i (nI (11 * sl i + sr i)) dX5_sightsBy_181 rfl rfl (Nat.le_of_ble_eq_true rfl) (by omega) rfl ?_
                            refine z_icmp_neN X (pc := 182) 195 (by omega) (by have h1 := (hsl i).1; have h2 := (hsl i).2; omega) dX5_sightsBy_182 (by decide) (fun c_182 => ?_) (fun c_182 => ?_)
                            · skip
                              refine z_lconst X (pc := 195) (lN 0) dX5_sightsBy_195 (by decide) ?_
                              have hval : 0 = emb (s 0 + s 1 - ev * (i + 1)) (snk s ev sl sr kd x i) q_ := by rw [emb_kfl (by omega) (hsl i).1 (hsl i).2, if_neg c_182]
                              refine z_last X (pc := 196) 2 q_ (lf (fun q => if q < (q_ + 1) then emb (s 0 + s 1 - ev * (i + 1)) (snk s ev sl sr kd x i) q else emb (s 0 + s 1 - ev * (i + 1)) (snw s ev sl sr kd x i).1 q)) [eX5 mq mT (nI ty) mD mS (nI ev) mP (nI kn) mI (nI kp) mE (nI sg) at_ mH mX mR mO (lN el), eI t mS 5 (nf s), eL t mH 363 (lf (fun q => if q < (q_ + 1) then emb (s 0 + s 1 - ev * (i + 1)) (snk s ev sl sr kd x i) q else emb (s 0 + s 1 - ev * (i + 1)) (snw s ev sl sr kd x i).1 q)), eL t mX 363 f2, eL t mR 11 (lf os), eL t mO 22 (lf sn), eI t mE 6 (nf (fun j => 11 * sl j + sr j))] dX5_sightsBy_196 rfl rfl (Nat.le_of_ble_eq_true rfl) (by omega) (by rw [updL_lf]; congr 1; funext q; simp only [vup]; by_cases hq : q = q_; rw [if_pos hq, if_pos (by omega), hq]; exact hval; rw [if_neg hq]; by_cases hq2 : q < q_; rw [if_pos hq2, if_pos (by omega)]; rw [if_neg hq2, if_neg (by omega)]) rfl ?_
                              refine z_lload X (pc := 197) 3 dX5_sightsBy_197 rfl ?_
                              refine z_aload_n X (pc := 199) 0 dX5_sightsBy_199 rfl ?_
                              refine z_get X (pc := 200) 0 12 (.ref mH) tu_5 tw_571 dX5_sightsBy_200 rfl rfl (by decide) rfl rfl ?_
                              refine z_iload X (pc := 203) 5 dX5_sightsBy_203 rfl ?_
                              refine z_lald X (pc := 205) 2 q_ (lN (emb (s 0 + s 1 - ev * (i + 1)) (snk s ev sl sr kd x i) q_)) dX5_sightsBy_205 rfl rfl (Nat.le_of_ble_eq_true rfl) (by omega) (by show lN (if q_ < q_ + 1 then _ else _) = _; rw [if_pos (by omega)]) ?_
                              refine z_ladd X (pc := 206) (v := (lN (su3 + (emb (s 0 + s 1 - ev * (i + 1)) (snk s ev sl sr kd x i) q_)))) dX5_sightsBy_206 (lN_add su3 (emb (s 0 + s 1 - ev * (i + 1)) (snk s ev sl sr kd x i) q_)) ?_
                              refine z_lstore X (pc := 207) (i := 4) [(4, .long (lN (su3 + (emb (s 0 + s 1 - ev * (i + 1)) (snk s ev sl sr kd x i) q_)))), (0, .ref mq), (1, .int (nI kd)), (2, .int (nI x)), (6, .int (nI i)), (7, .int (nI q_))] dX5_sightsBy_207 trivial (by decide) rfl ?_
                              refine z_iinc X (pc := 209) (i := 7) 5 (nI (q_ + 1)) [(7, .int (nI (q_ + 1))), (4, .long (lN (su3 + (emb (s 0 + s 1 - ev * (i + 1)) (snk s ev sl sr kd x i) q_)))), (0, .ref mq), (1, .int (nI kd)), (2, .int (nI x)), (6, .int (nI i))] dX5_sightsBy_209 rfl (nI_incc q_ 1) (by decide) rfl ?_
                              refine z_goto X (pc := 212) 157 dX5_sightsBy_212 (by decide) ?_
                              refine z_lv [2, 3, 4, 1, 5, 0] (lv2 := [(0, .ref mq), (1, .int (nI kd)), (2, .int (nI x)), (4, .long (lN (su3 + (emb (s 0 + s 1 - ev * (i + 1)) (snk s ev sl sr kd x i) q_)))), (6, .int (nI i)), (7, .int (nI (q_ + 1)))]) rfl ?_
                              exact ih_157 (q_ + 1) (su3 + emb (s 0 + s 1 - ev * (i + 1)) (snk s ev sl sr kd x i) q_) (by omega) (by omega) (by rw [sm_s, hsu3])
                            · skip
                              refine z_aload_n X (pc := 185) 0 dX5_sightsBy_185 rfl ?_
                              refine z_get X (pc := 186) 0 12 (.ref mH) tu_5 tw_571 dX5_sightsBy_186 rfl rfl (by decide) rfl rfl ?_
                              refine z_iload X (pc := 189) 5 dX5_sightsBy_189 rfl ?_
                              refine z_lald X (pc := 191) 2 q_ (lN (emb (s 0 + s 1 - ev * (i + 1)) (snw s ev sl sr kd x i).1 q_)) dX5_sightsBy_191 rfl rfl (Nat.le_of_ble_eq_true rfl) (by omega) (by show lN (if q_ < q_ then _ else _) = _; rw [if_neg (Nat.lt_irrefl _)]) ?_
                              refine z_goto X (pc := 192) 196 dX5_sightsBy_192 (by decide) ?_
                              have hval : emb (s 0 + s 1 - ev * (i + 1)) (snw s ev sl sr kd x i).1 q_ = emb (s 0 + s 1 - ev * (i + 1)) (snk s ev sl sr kd x i) q_ := by rw [emb_kfl (by omega) (hsl i).1 (hsl i).2, if_pos c_182]
                              refine z_last X (pc := 196) 2 q_ (lf (fun q => if q < (q_ + 1) then emb (s 0 + s 1 - ev * (i + 1)) (snk s ev sl sr kd x i) q else emb (s 0 + s 1 - ev * (i + 1)) (snw s ev sl sr kd x i).1 q)) [eX5 mq mT (nI ty) mD mS (nI ev) mP (nI kn) mI (nI kp) mE (nI sg) at_ mH mX mR mO (lN el), eI t mS 5 (nf s), eL t mH 363 (lf (fun q => if q < (q_ + 1) then emb (s 0 + s 1 - ev * (i + 1)) (snk s ev sl sr kd x i) q else emb (s 0 + s 1 - ev * (i + 1)) (snw s ev sl sr kd x i).1 q)), eL t mX 363 f2, eL t mR 11 (lf os), eL t mO 22 (lf sn), eI t mE 6 (nf (fun j => 11 * sl j + sr j))] dX5_sightsBy_196 rfl rfl (Nat.le_of_ble_eq_true rfl) (by omega) (by rw [updL_lf]; congr 1; funext q; simp only [vup]; by_cases hq : q = q_; rw [if_pos hq, if_pos (by omega), hq]; exact hval; rw [if_neg hq]; by_cases hq2 : q < q_; rw [if_pos hq2, if_pos (by omega)]; rw [if_neg hq2, if_neg (by omega)]) rfl ?_
                              refine z_lload X (pc := 197) 3 dX5_sightsBy_197 rfl ?_
                              refine z_aload_n X (pc := 199) 0 dX5_sightsBy_199 rfl ?_
                              refine z_get X (pc := 200) 0 12 (.ref mH) tu_5 tw_571 dX5_sightsBy_200 rfl rfl (by decide) rfl rfl ?_
                              refine z_iload X (pc := 203) 5 dX5_sightsBy_203 rfl ?_
                              refine z_lald X (pc := 205) 2 q_ (lN (emb (s 0 + s 1 - ev * (i + 1)) (snk s ev sl sr kd x i) q_)) dX5_sightsBy_205 rfl rfl (Nat.le_of_ble_eq_true rfl) (by omega) (by show lN (if q_ < q_ + 1 then _ else _) = _; rw [if_pos (by omega)]) ?_
                              refine z_ladd X (pc := 206) (v := (lN (su3 + (emb (s 0 + s 1 - ev * (i + 1)) (snk s ev sl sr kd x i) q_)))) dX5_sightsBy_206 (lN_add su3 (emb (s 0 + s 1 - ev * (i + 1)) (snk s ev sl sr kd x i) q_)) ?_
                              refine z_lstore X (pc := 207) (i := 4) [(4, .long (lN (su3 + (emb (s 0 + s 1 - ev * (i + 1)) (snk s ev sl sr kd x i) q_)))), (0, .ref mq), (1, .int (nI kd)), (2, .int (nI x)), (6, .int (nI i)), (7, .int (nI q_))] dX5_sightsBy_207 trivial (by decide) rfl ?_
                              refine z_iinc X (pc := 209) (i := 7) 5 (nI (q_ + 1)) [(7, .int (nI (q_ + 1))), (4, .long (lN (su3 + (emb (s 0 + s 1 - ev * (i + 1)) (snk s ev sl sr kd x i) q_)))), (0, .ref mq), (1, .int (nI kd)), (2, .int (nI x)), (6, .int (nI i))] dX5_sightsBy_209 rfl (nI_incc q_ 1) (by decide) rfl ?_
                              refine z_goto X (pc := 212) 157 dX5_sightsBy_212 (by decide) ?_
                              refine z_lv [2, 3, 4, 1, 5, 0] (lv2 := [(0, .ref mq), (1, .int (nI kd)), (2, .int (nI x)), (4, .long (lN (su3 + (emb (s 0 + s 1 - ev * (i + 1)) (snk s ev sl sr kd x i) q_)))), (6, .int (nI i)), (7, .int (nI (q_ + 1)))]) rfl ?_
                              exact ih_157 (q_ + 1) (su3 + emb (s 0 + s 1 - ev * (i + 1)) (snk s ev sl sr kd x i) q_) (by omega) (by omega) (by rw [sm_s, hsu3])
                      refine z_eq (ws2 := [eX5 mq mT (nI ty) mD mS (nI ev) mP (nI kn) mI (nI kp) mE (nI sg) at_ mH mX mR mO (lN el), eI t mS 5 (nf s), eL t mH 363 (lf (fun q => if q < 0 then emb (s 0 + s 1 - ev * (i + 1)) (snk s ev sl sr kd x i) q else emb (s 0 + s 1 - ev * (i + 1)) (snw s ev sl sr kd x i).1 q)), eL t mX 363 f2, eL t mR 11 (lf os), eL t mO 22 (lf sn), eI t mE 6 (nf (fun j => 11 * sl j + sr j))]) (by rw [hje, Nat.sub_sub, hmul]; simp) rfl rfl ?_
                      refine z_lv [2, 3, 4, 1, 5, 0] (lv2 := [(0, .ref mq), (1, .int (nI kd)), (2, .int (nI x)), (4, .long (lN 0)), (6, .int (nI i)), (7, .int (nI 0))]) rfl ?_
                      exact loop_157 364 0 0 (by omega) (by omega) (sm_z _).symm
                    · skip
                      refine z_aload_n X (pc := 136) 0 dX5_sightsBy_136 rfl ?_
                      refine z_iload_n X (pc := 137) 1 dX5_sightsBy_137 rfl ?_
                      refine z_iload_n X (pc := 138) 2 dX5_sightsBy_138 rfl ?_
                      refine z_iconst X (pc := 139) (nI 0) dX5_sightsBy_139 (by decide) ?_
                      refine z_iconst X (pc := 140) (nI 0) dX5_sightsBy_140 (by decide) ?_
                      refine z_lconst X (pc := 141) (lN 0) dX5_sightsBy_141 (by decide) ?_
                      refine zc_V (as := [.int (nI kd), .int (nI x), .int (nI 0), .int (nI 0), .long (lN 0)]) X (pc := 142) (c_X5_goes lq D t mq mT mD mS mP mI mE mH mX mR mO ty ev kn kp sg at_ (lN 0) kd x 0 0 0 (s 0 + s 1 - ev * i - j) el ((wrun kd x 0 (s 0 + s 1 - ev * i) (21 - ev * i) (sna s ev sl sr kd x i) j).1) os sn f2 (by omega) (by omega) (by decide) (by decide) (by omega) hwj.1 (fun c hc => by have h9 := wok_bd hwj hc; have h8 := Nat.le_mul_of_pos_right ((wrun kd x 0 (s 0 + s 1 - ev * i) (21 - ev * i) (sna s ev sl sr kd x i) j).1 c) (pow4_pos (21 - ev * i - j)); omega)) tw_716 tw_719 tw_7 tw_718 tw_1034 0 5 rfl rfl [0, 2, 3, 4, 5] rfl rfl dX5_sightsBy_142 rfl zdX5_goes ⟨rfl, rfl, Nat.le_of_ble_eq_true rfl, Nat.le_of_ble_eq_true rfl⟩ (Nat.le_of_ble_eq_true rfl) (Nat.zero_le _) (Nat.zero_le _) (fun v_7 w_8 hp_9 => ?_)
                      obtain ⟨F2_10, rfl, rfl⟩ := hp_9
                      refine ⟨rfl, ?_⟩
                      refine z_eq (ws2 := [eX5 mq mT (nI ty) mD mS (nI ev) mP (nI kn) mI (nI kp) mE (nI sg) at_ mH mX mR mO (lN ((cou kd x 0 0 (s 0 + s 1 - ev * i - j) ((wrun kd x 0 (s 0 + s 1 - ev * i) (21 - ev * i) (sna s ev sl sr kd x i) j).1) 11 (((fun _ => 0), os, sn 0, el) : wA)).2.2.2)), eI t mS 5 (nf s), eL t mH 363 (lf (emb ((s 0 + s 1 - ev * i - j) - 1) (cou kd x 0 0 (s 0 + s 1 - ev * i - j) ((wrun kd x 0 (s 0 + s 1 - ev * i) (21 - ev * i) (sna s ev sl sr kd x i) j).1) 11 (((fun _ => 0), os, sn 0, el) : wA)).1)), eL t mX 363 F2_10, eL t mR 11 (lf ((cou kd x 0 0 (s 0 + s 1 - ev * i - j) ((wrun kd x 0 (s 0 + s 1 - ev * i) (21 - ev * i) (sna s ev sl sr kd x i) j).1) 11 (((fun _ => 0), os, sn 0, el) : wA)).2.1)), eL t mO 22 (lf (vup sn 0 (cou kd x 0 0 (s 0 + s 1 - ev * i - j) ((wrun kd x 0 (s 0 + s 1 - ev * i) (21 - ev * i) (sna s ev sl sr kd x i) j).1) 11 (((fun _ => 0), os, sn 0, el) : wA)).2.2.1)), eI t mE 6 (nf (fun j => 11 * sl j + sr j))]) (st2 := []) rfl rfl rfl ?_
                      have hb3 := @wst_fst kd x 0 (s 0 + s 1 - ev * i - j) (21 - ev * i - j) (wrun kd x 0 (s 0 + s 1 - ev * i) (21 - ev * i) (sna s ev sl sr kd x i) j) 0 os (sn 0) el
                      rw [← wrun_s] at hb3
                      refine z_eq (ws2 := [eX5 mq mT (nI ty) mD mS (nI ev) mP (nI kn) mI (nI kp) mE (nI sg) at_ mH mX mR mO (lN ((cou kd x 0 0 (s 0 + s 1 - ev * i - j) ((wrun kd x 0 (s 0 + s 1 - ev * i) (21 - ev * i) (sna s ev sl sr kd x i) j).1) 11 (((fun _ => 0), os, sn 0, el) : wA)).2.2.2)), eI t mS 5 (nf s), eL t mH 363 (lf (emb (s 0 + s 1 - ev * i - (j + 1)) (wrun kd x 0 (s 0 + s 1 - ev * i) (21 - ev * i) (sna s ev sl sr kd x i) (j + 1)).1)), eL t mX 363 F2_10, eL t mR 11 (lf ((cou kd x 0 0 (s 0 + s 1 - ev * i - j) ((wrun kd x 0 (s 0 + s 1 - ev * i) (21 - ev * i) (sna s ev sl sr kd x i) j).1) 11 (((fun _ => 0), os, sn 0, el) : wA)).2.1)), eL t mO 22 (lf (vup sn 0 (cou kd x 0 0 (s 0 + s 1 - ev * i - j) ((wrun kd x 0 (s 0 + s 1 - ev * i) (21 - ev * i) (sna s ev sl sr kd x i) j).1) 11 (((fun _ => 0), os, sn 0, el) : wA)).2.2.1)), eI t mE 6 (nf (fun j => 11 * sl j + sr j))]) (by rw [hb3, show s 0 + s 1 - ev * i - (j + 1) = s 0 + s 1 - ev * i - j - 1 from (Nat.sub_sub _ j 1).symm]) rfl rfl ?_
                      refine z_iinc X (pc := 145) (i := 7) 5 (nI (j + 1)) [(7, .int (nI (j + 1))), (0, .ref mq), (1, .int (nI kd)), (2, .int (nI x)), (4, .long (lN su)), (6, .int (nI i))] dX5_sightsBy_145 rfl (nI_incc j 1) (by decide) rfl ?_
                      refine z_goto X (pc := 148) 127 dX5_sightsBy_148 (by decide) ?_
                      refine z_lv [1, 2, 3, 4, 5, 0] (lv2 := [(0, .ref mq), (1, .int (nI kd)), (2, .int (nI x)), (4, .long (lN su)), (6, .int (nI i)), (7, .int (nI (j + 1)))]) rfl ?_
                      exact ih_127 (j + 1) ((cou kd x 0 0 (s 0 + s 1 - ev * i - j) ((wrun kd x 0 (s 0 + s 1 - ev * i) (21 - ev * i) (sna s ev sl sr kd x i) j).1) 11 (((fun _ => 0), os, sn 0, el) : wA)).2.1) (vup sn 0 (cou kd x 0 0 (s 0 + s 1 - ev * i - j) ((wrun kd x 0 (s 0 + s 1 - ev * i) (21 - ev * i) (sna s ev sl sr kd x i) j).1) 11 (((fun _ => 0), os, sn 0, el) : wA)).2.2.1) ((cou kd x 0 0 (s 0 + s 1 - ev * i - j) ((wrun kd x 0 (s 0 + s 1 - ev * i) (21 - ev * i) (sna s ev sl sr kd x i) j).1) 11 (((fun _ => 0), os, sn 0, el) : wA)).2.2.2) F2_10 (by omega) (by omega)
                refine z_eq (ws2 := [eX5 mq mT (nI ty) mD mS (nI ev) mP (nI kn) mI (nI kp) mE (nI sg) at_ mH mX mR mO (lN el), eI t mS 5 (nf s), eL t mH 363 (lf (emb (s 0 + s 1 - ev * i - 0) (wrun kd x 0 (s 0 + s 1 - ev * i) (21 - ev * i) (sna s ev sl sr kd x i) 0).1)), eL t mX 363 f2, eL t mR 11 (lf os), eL t mO 22 (lf sn), eI t mE 6 (nf (fun j => 11 * sl j + sr j))]) (by rw [wrun_z, Nat.sub_zero]) rfl rfl ?_
                refine z_lv [1, 2, 3, 4, 5, 0] (lv2 := [(0, .ref mq), (1, .int (nI kd)), (2, .int (nI x)), (4, .long (lN su)), (6, .int (nI i)), (7, .int (nI 0))]) rfl ?_
                exact loop_127 (ev + 1) 0 os sn el f2 (by omega) (by omega)
          have hst0 : wst0 0 (s 0) (s 1) (s 2) = (vup (fun _ => 0) (s 0 * 3 + s 2) 1, (fun _ => 0), 0, 0) := by rw [wst0, if_neg (by omega)]
          have hsm1 : sm (sna s ev sl sr kd x 0).1 33 = 1 := by rw [sna_z, hst0]; have h9 := sm_vup (g := fun _ => 0) (j := s 0 * 3 + s 2) (x := 1) (n := 33) (by omega); rw [show (0 : Nat) + 1 = 1 from rfl, sm_zero (fun _ _ => rfl)] at h9; exact h9
          refine z_eq (ws2 := [eX5 mq mT (nI ty) mD mS (nI ev) mP (nI kn) mI (nI kp) mE (nI sg) at_ mH mX mR mO (lN 0), eI t mS 5 (nf s), eL t mH 363 (lf (emb (s 0 + s 1 - ev * 0) (sna s ev sl sr kd x 0).1)), eL t mX 363 f2, eL t mR 11 (lf (fun _ => 0)), eL t mO 22 (lf (fun _ => 0)), eI t mE 6 (nf (fun j => 11 * sl j + sr j))]) (by rw [sna_z, hst0, Nat.mul_zero, Nat.sub_zero]) rfl rfl ?_
          refine z_lv [2, 3, 4, 1, 0] (lv2 := [(0, .ref mq), (1, .int (nI kd)), (2, .int (nI x)), (4, .long (lN 1)), (6, .int (nI 0))]) rfl ?_
          exact loop_115 (sg + 1) 0 1 (fun _ => 0) (fun _ => 0) 0 f2 (by omega) (by omega) hsm1.symm
        · skip
          have hno := usn_no hsk hev.1 (sl := sl) (sr := sr) (sg := sg) (kd := kd) hx (by obtain ⟨k, hk, hn⟩ := (hcn.resolve_left (fun z => by omega)).2; exact ⟨k, by omega, hn⟩)
          refine z_lconst X (pc := 81) (lN 0) dX5_sightsBy_81 (by decide) ?_
          exact hRet.l dX5_sightsBy_82 ⟨fs, f1, f2, f3, f4, by rw [hno], rfl⟩
      · skip
        refine z_iload_n X (pc := 14) 3 dX5_sightsBy_14 rfl ?_
        refine z_if_eqN X (pc := 15) 69 (by omega) dX5_sightsBy_15 (by decide) (fun c_15 => ?_) (fun c_15 => ?_)
        · skip
          refine z_iconst X (pc := 69) (nI 0) dX5_sightsBy_69 (by decide) ?_
          refine z_istore_n X (pc := 70) (i := 3) [(3, .int (nI 0)), (0, .ref mq), (1, .int (nI kd)), (2, .int (nI x)), (4, .int (nI i))] dX5_sightsBy_70 rfl (by decide) rfl ?_
          refine z_iinc X (pc := 71) (i := 4) 4 (nI (i + 1)) [(4, .int (nI (i + 1))), (3, .int (nI 0)), (0, .ref mq), (1, .int (nI kd)), (2, .int (nI x))] dX5_sightsBy_71 rfl (nI_incc i 1) (by decide) rfl ?_
          refine z_goto X (pc := 74) 5 dX5_sightsBy_74 (by decide) ?_
          refine z_lv [2, 3, 4, 1, 0] (lv2 := [(0, .ref mq), (1, .int (nI kd)), (2, .int (nI x)), (3, .int (nI 0)), (4, .int (nI (i + 1)))]) rfl ?_
          exact ih_5 (i + 1) 0 (by omega) (by omega) (Or.inr ⟨rfl, by obtain ⟨k, hk, hn⟩ := (hcn.resolve_left (fun z => by omega)).2; exact ⟨k, by omega, hn⟩⟩)
        · skip
          have hs1b := (hsl i).1
          have hs2b := (hsl i).2
          have hmb : ev * (i + 1) ≤ 63 := by have := Nat.mul_le_mul hev.2 (show i + 1 ≤ 7 by omega); omega
          refine z_aload_n X (pc := 18) 0 dX5_sightsBy_18 rfl ?_
          refine z_get X (pc := 19) 0 9 (.ref mE) tu_5 tw_568 dX5_sightsBy_19 rfl rfl (by decide) rfl rfl ?_
          refine z_iload X (pc := 22) 4 dX5_sightsBy_22 rfl ?_
          refine z_iald X (pc := 24) 6 i (nI (11 * sl i + sr i)) dX5_sightsBy_24 rfl rfl (Nat.le_of_ble_eq_true rfl) (by omega) rfl ?_
          refine z_bipush X (pc := 25) (nI 11) dX5_sightsBy_25 (by decide) ?_
          refine z_idiv X (pc := 27) (v := (nI ((11 * sl i + sr i) / 11))) dX5_sightsBy_27 (by decide) (pk_div (by omega) (by omega) (by omega)) ?_
          refine z_topi (nI (sl i)) (by rw [show (11 * sl i + sr i) / 11 = sl i by omega]) ?_
          refine z_aload_n X (pc := 28) 0 dX5_sightsBy_28 rfl ?_
          refine z_get X (pc := 29) 0 9 (.ref mE) tu_5 tw_568 dX5_sightsBy_29 rfl rfl (by decide) rfl rfl ?_
          refine z_iload X (pc := 32) 4 dX5_sightsBy_32 rfl ?_
          refine z_iald X (pc := 34) 6 i (nI (11 * sl i + sr i)) dX5_sightsBy_34 rfl rfl (Nat.le_of_ble_eq_true rfl) (by omega) rfl ?_
          refine z_bipush X (pc := 35) (nI 11) dX5_sightsBy_35 (by decide) ?_
          refine z_irem X (pc := 37) (v := (nI ((11 * sl i + sr i) % 11))) dX5_sightsBy_37 (by decide) (pk_rem (by omega) (by omega) (by omega)) ?_
          refine z_topi (nI (sr i)) (by rw [show (11 * sl i + sr i) % 11 = sr i by omega]) ?_
          refine z_iadd X (pc := 38) (v := (nI (sl i + (sr i)))) dX5_sightsBy_38 (nI_add (sl i) (sr i)) ?_
          refine z_aload_n X (pc := 39) 0 dX5_sightsBy_39 rfl ?_
          refine z_get X (pc := 40) 0 4 (.int (nI ev)) tu_5 tw_563 dX5_sightsBy_40 rfl rfl (by decide) rfl rfl ?_
          refine z_iload X (pc := 43) 4 dX5_sightsBy_43 rfl ?_
          refine z_iconst X (pc := 45) (nI 1) dX5_sightsBy_45 (by decide) ?_
          refine z_iadd X (pc := 46) (v := (nI (i + 1))) dX5_sightsBy_46 (nI_add i 1) ?_
          refine z_imul X (pc := 47) (v := (nI (ev * (i + 1)))) dX5_sightsBy_47 (pk_mul _ _) ?_
          refine z_iadd X (pc := 48) (v := (nI (sl i + (sr i) + (ev * (i + 1))))) dX5_sightsBy_48 (nI_add (sl i + (sr i)) (ev * (i + 1))) ?_
          refine z_aload_n X (pc := 49) 0 dX5_sightsBy_49 rfl ?_
          refine z_get X (pc := 50) 0 3 (.ref mS) tu_5 tw_562 dX5_sightsBy_50 rfl rfl (by decide) rfl rfl ?_
          refine z_iconst X (pc := 53) (nI 0) dX5_sightsBy_53 (by decide) ?_
          refine z_iald X (pc := 54) 1 0 (nI (s 0)) dX5_sightsBy_54 rfl rfl (Nat.le_of_ble_eq_true rfl) (by decide) rfl ?_
          refine z_aload_n X (pc := 55) 0 dX5_sightsBy_55 rfl ?_
          refine z_get X (pc := 56) 0 3 (.ref mS) tu_5 tw_562 dX5_sightsBy_56 rfl rfl (by decide) rfl rfl ?_
          refine z_iconst X (pc := 59) (nI 1) dX5_sightsBy_59 (by decide) ?_
          refine z_iald X (pc := 60) 1 1 (nI (s 1)) dX5_sightsBy_60 rfl rfl (Nat.le_of_ble_eq_true rfl) (by decide) rfl ?_
          refine z_iadd X (pc := 61) (v := (nI (s 0 + (s 1)))) dX5_sightsBy_61 (nI_add (s 0) (s 1)) ?_
          refine z_icmp_neN X (pc := 62) 69 (by omega) (by omega) dX5_sightsBy_62 (by decide) (fun c_62 => ?_) (fun c_62 => ?_)
          · skip
            refine z_iconst X (pc := 69) (nI 0) dX5_sightsBy_69 (by decide) ?_
            refine z_istore_n X (pc := 70) (i := 3) [(3, .int (nI 0)), (0, .ref mq), (1, .int (nI kd)), (2, .int (nI x)), (4, .int (nI i))] dX5_sightsBy_70 rfl (by decide) rfl ?_
            refine z_iinc X (pc := 71) (i := 4) 4 (nI (i + 1)) [(4, .int (nI (i + 1))), (3, .int (nI 0)), (0, .ref mq), (1, .int (nI kd)), (2, .int (nI x))] dX5_sightsBy_71 rfl (nI_incc i 1) (by decide) rfl ?_
            refine z_goto X (pc := 74) 5 dX5_sightsBy_74 (by decide) ?_
            refine z_lv [2, 3, 4, 1, 0] (lv2 := [(0, .ref mq), (1, .int (nI kd)), (2, .int (nI x)), (3, .int (nI 0)), (4, .int (nI (i + 1)))]) rfl ?_
            exact ih_5 (i + 1) 0 (by omega) (by omega) (Or.inr ⟨rfl, i, by omega, c_62⟩)
          · skip
            refine z_iconst X (pc := 65) (nI 1) dX5_sightsBy_65 (by decide) ?_
            refine z_goto X (pc := 66) 70 dX5_sightsBy_66 (by decide) ?_
            refine z_istore_n X (pc := 70) (i := 3) [(3, .int (nI 1)), (0, .ref mq), (1, .int (nI kd)), (2, .int (nI x)), (4, .int (nI i))] dX5_sightsBy_70 rfl (by decide) rfl ?_
            refine z_iinc X (pc := 71) (i := 4) 4 (nI (i + 1)) [(4, .int (nI (i + 1))), (3, .int (nI 1)), (0, .ref mq), (1, .int (nI kd)), (2, .int (nI x))] dX5_sightsBy_71 rfl (nI_incc i 1) (by decide) rfl ?_
            refine z_goto X (pc := 74) 5 dX5_sightsBy_74 (by decide) ?_
            refine z_lv [2, 3, 4, 1, 0] (lv2 := [(0, .ref mq), (1, .int (nI kd)), (2, .int (nI x)), (3, .int (nI 1)), (4, .int (nI (i + 1)))]) rfl ?_
            exact ih_5 (i + 1) 1 (by omega) (by omega) (Or.inl ⟨rfl, fun k hk => by rcases Nat.lt_or_ge k i with q | q; exact (hcn.resolve_right (fun z => by omega)).2 k q; rw [show k = i by omega]; exact c_62⟩)
  refine z_lv [2, 3, 4, 1, 0] (lv2 := [(0, .ref mq), (1, .int (nI kd)), (2, .int (nI x)), (3, .int (nI 1)), (4, .int (nI 0))]) rfl ?_
  exact loop_5 (sg + 1) 0 1 (by omega) (by omega) (Or.inl ⟨rfl, fun k hk => absurd hk (Nat.not_lt_zero k)⟩)
