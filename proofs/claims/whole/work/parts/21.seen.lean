/-! PART 21: EitherPocket: what was seen, coats by draws -/
theorem kfl_le {m il ir : Nat} {w : Nat → Nat} (c : Nat) : kfl m il ir w c ≤ w c := by unfold kfl; split <;> omega
theorem sm_le2 {f g : Nat → Nat} : ∀ {n : Nat}, (∀ k, k < n → f k ≤ g k) → sm f n ≤ sm g n
  | 0, _ => by rw [sm_z, sm_z]; exact Nat.le_refl 0
  | n + 1, h => by
    have h1 := sm_le2 (f := f) (g := g) (n := n) (fun k hk => h k (by omega))
    have h2 := h n (by omega)
    rw [sm_s, sm_s]; omega
theorem kfl_mass {m s il ir : Nat} {a : wA} (h : wok m s a) : sm (kfl m il ir a.1) 33 * 4 ^ s ≤ 4398046511104 := by
  have h1 := h.2.1
  have h2 := Nat.mul_le_mul_right (4 ^ s) (sm_le2 (f := kfl m il ir a.1) (g := a.1) (n := 33) (fun k _ => kfl_le k))
  omega
theorem kfl_alive {m il ir : Nat} {w : Nat → Nat} (h : ∃ c, c < 33 ∧ kfl m il ir w c ≠ 0) : ∃ c, c < 33 ∧ w c ≠ 0 := by
  obtain ⟨c, hc, z⟩ := h
  exact ⟨c, hc, fun q => z (by have := kfl_le (m := m) (il := il) (ir := ir) (w := w) c; omega)⟩
theorem wok_kfl {m s il ir : Nat} {a : wA} {os : Nat → Nat} {el : Nat} (h : wok m s a) : wok m s (kfl m il ir a.1, os, 4398046511104 - sm (kfl m il ir a.1) 33 * 4 ^ s, el) := by
  refine ⟨fun l la h1 h2 h3 => h.1 l la h1 h2 (fun q => h3 ?_), ?_, fun z => h.2.2 (kfl_alive z)⟩
  · have := kfl_le (m := m) (il := il) (ir := ir) (w := a.1) (l * 3 + la)
    show kfl m il ir a.1 (l * 3 + la) = 0
    omega
  · have := kfl_mass (il := il) (ir := ir) h
    show sm (kfl m il ir a.1) 33 * 4 ^ s + (4398046511104 - sm (kfl m il ir a.1) 33 * 4 ^ s) = _
    omega
theorem wok_sna {s : Nat → Nat} (hs : sOk s) {ev : Nat} {sl sr : Nat → Nat} {kd x : Nat} (hx : x ≤ 4) : ∀ i : Nat, wok (s 0 + s 1 - ev * i) (21 - ev * i) (sna s ev sl sr kd x i)
  | 0 => by rw [sna_z]; exact wok0 hs.1 hs.2.1 hs.2.2.1
  | i + 1 => by
    have h := wok_run (kd := kd) (en := 0) hx (wok_sna hs (ev := ev) (sl := sl) (sr := sr) (kd := kd) hx i) ev
    rw [Nat.sub_sub, Nat.sub_sub, show ev * i + ev = ev * (i + 1) from (Nat.mul_succ ev i).symm] at h
    rw [sna_s]
    exact wok_kfl h
theorem sna_dead {s : Nat → Nat} (hs : sOk s) {ev : Nat} {sl sr : Nat → Nat} {kd x : Nat} (hx : x ≤ 4) {i : Nat} (h : ∀ c, c < 33 → (sna s ev sl sr kd x i).1 c = 0) : ∀ d : Nat, ∀ c, c < 33 → (sna s ev sl sr kd x (i + d)).1 c = 0
  | 0 => h
  | d + 1 => fun c hc => by
    have h1 := sna_dead hs hx h d
    rw [← Nat.add_assoc, sna_s]
    have h2 := (wrun_dead2 (kd := kd) (x := x) (en := 0) (m := s 0 + s 1 - ev * (i + d)) (s := 21 - ev * (i + d)) (i := 0) (n := ev) (by rw [wrun_z]; exact h1) (Nat.zero_le _)).2 c hc
    have h3 := kfl_le (m := s 0 + s 1 - ev * (i + d + 1)) (il := sl (i + d)) (ir := sr (i + d)) (w := (snw s ev sl sr kd x (i + d)).1) c
    show snk s ev sl sr kd x (i + d) c = 0
    unfold snk; unfold snw at *
    omega
theorem csn_dead {s : Nat → Nat} (hs : sOk s) {ev : Nat} {sl sr : Nat → Nat} {sg kd x i : Nat} (hx : x ≤ 4) (hi : i ≤ sg) (h : ∀ c, c < 33 → (sna s ev sl sr kd x i).1 c = 0) : csn s ev sl sr sg kd x = 0 := by
  have h1 := sna_dead hs hx h (sg - i)
  rw [show i + (sg - i) = sg by omega] at h1
  have h2 := (wok_sna hs (ev := ev) (sl := sl) (sr := sr) (kd := kd) hx sg).2.1
  rw [sm_zero h1] at h2
  unfold csn
  omega
theorem csn_le (s : Nat → Nat) (ev : Nat) (sl sr : Nat → Nat) (sg kd x : Nat) : csn s ev sl sr sg kd x ≤ 4398046511104 := Nat.sub_le _ _
theorem lqt_lt {c : Nat → Nat} : ∀ {n x : Nat}, (lqt c n).1 = some x → x < n
  | 0, x, h => by rw [lqt_z] at h; cases h
  | n + 1, x, h => by
    rw [lqt_s] at h
    split at h
    · cases h; omega
    · have := lqt_lt h; omega
theorem lqt_le {c : Nat → Nat} {M : Nat} (hc : ∀ x, c x ≤ M) : ∀ n : Nat, (lqt c n).2 ≤ M
  | 0 => by rw [lqt_z]; exact Nat.zero_le _
  | n + 1 => by rw [lqt_s]; split; exact hc n; exact lqt_le hc n
abbrev rm_X4_chanceOfSeen : Room := { frames := 4, cells := 0, slots := 0, locals := 101 }
set_option maxHeartbeats 4000000 in
set_option maxRecDepth 100000 in
theorem c_X4_chanceOfSeen (lq : Launch) (D : va_G) (t : zT) (h hT hN hU hA hK hW hL hZ sg ev : Nat) (s : Nat → Nat) (hr hn ho : Nat) (b0 b1 b2 b3 b4 g0 g1 g2 g3 : Int32) (g4 g5 : Int64) (f1 f2 f3 : Nat → Int64) (sl sr : Nat → Nat) (kd x : Nat) (hs : sOk s) (hkd : kd ≤ 3) (hx : x ≤ 4) (hev : 1 ≤ ev ∧ ev ≤ 9) (hsg : sg ≤ 6) (hsl : ∀ j, sl j ≤ 10 ∧ sr j ≤ 10) : Ct lq D t yX4_chanceOfSeen cX4_chanceOfSeen 4 (some .long) rm_X4_chanceOfSeen [.ref h, .int (nI kd), .int (nI x)] [eX4 h hT hN hU hA hK hW hL hZ (nI sg) (nI ev), eX0 hN (nI (s 0)) (nI (s 1)) (nI (s 2)) (nI (s 3)) (nI (s 4)), eX0 hU b0 b1 b2 b3 b4, eX3 hW hr hn ho g0 g1 g2 g3 g4 g5, eL t hr 33 f1, eL t hn 33 f2, eL t ho 11 f3, eI t hL 6 (nf sl), eI t hZ 6 (nf sr)] 0 0 (fun rv rw_ => ∃ (B0 : Int32) (B1 : Int32) (B2 : Int32) (B3 : Int32) (B4 : Int32) (hr2 : Nat) (hn2 : Nat) (G0 : Int32) (G1 : Int32) (G2 : Int32) (G3 : Int32) (G4 : Int64) (G5 : Int64) (F1 : Nat → Int64) (F2 : Nat → Int64) (F3 : Nat → Int64), rv = some (.long (lN (csn s ev sl sr sg kd x))) ∧ rw_ = [eX4 h hT hN hU hA hK hW hL hZ (nI sg) (nI ev), eX0 hN (nI (s 0)) (nI (s 1)) (nI (s 2)) (nI (s 3)) (nI (s 4)), eX0 hU B0 B1 B2 B3 B4, eX3 hW hr2 hn2 ho G0 G1 G2 G3 G4 G5, eL t hr2 33 F1, eL t hn2 33 F2, eL t ho 11 F3, eI t hL 6 (nf sl), eI t hZ 6 (nf sr)]) := by
  refine Ct.of (by decide) (Nat.le_of_ble_eq_true rfl) (fun k X hRet => ?_)
  have X : zX D t k cX4_chanceOfSeen 4 RX4 "chanceOfSeen" rm_X4_chanceOfSeen lq := X
  refine z_eq (lv2 := [(0, .ref h), (1, .int (nI kd)), (2, .int (nI x))]) rfl rfl rfl ?_
  have hsk := hs
  obtain ⟨hs0, hs1, hs2, hs3, hs4⟩ := hs
  refine z_aload_n X (pc := 0) 0 dX4_chanceOfSeen_0 rfl ?_
  refine z_iload_n X (pc := 1) 1 dX4_chanceOfSeen_1 rfl ?_
  refine z_iload_n X (pc := 2) 2 dX4_chanceOfSeen_2 rfl ?_
  refine zc_V (as := [.int (nI kd), .int (nI x)]) X (pc := 3) (c_X4_startByHand lq D t h hT hN hU hA hK hW hL hZ sg ev s hr hn ho b0 b1 b2 b3 b4 g0 g1 g2 g3 g4 g5 f1 f2 f3 kd x hsk (by omega) (by omega)) tw_489 tw_492 tw_1 tw_491 tw_1020 0 4 rfl rfl [0, 1, 2, 3, 4, 5, 6] rfl rfl dX4_chanceOfSeen_3 rfl zdX4_startByHand ⟨rfl, rfl, Nat.le_of_ble_eq_true rfl, Nat.le_of_ble_eq_true rfl⟩ (Nat.le_of_ble_eq_true rfl) (Nat.zero_le _) (Nat.zero_le _) (fun v_1 w_2 hp_3 => ?_)
  obtain ⟨rfl, rfl⟩ := hp_3
  refine ⟨rfl, ?_⟩
  refine z_eq (ws2 := [eX4 h hT hN hU hA hK hW hL hZ (nI sg) (nI ev), eX0 hN (nI (s 0)) (nI (s 1)) (nI (s 2)) (nI (s 3)) (nI (s 4)), eX0 hU (nI (s 0)) (nI (s 1)) (nI (s 2)) (nI kd) (nI x), eX3 hW hr hn ho (nI 0) (nI kd) (nI x) (nI (s 0 + s 1)) (lN 4398046511104 - lN ((wst0 0 (s 0) (s 1) (s 2)).2.2.1)) (lN ((wst0 0 (s 0) (s 1) (s 2)).2.2.2)), eL t hr 33 (lf (fun j => (wst0 0 (s 0) (s 1) (s 2)).1 j * 4 ^ 21)), eL t hn 33 f2, eL t ho 11 (lf ((wst0 0 (s 0) (s 1) (s 2)).2.1)), eI t hL 6 (nf sl), eI t hZ 6 (nf sr)]) (st2 := []) rfl rfl rfl ?_
  refine z_iconst X (pc := 6) (nI 0) dX4_chanceOfSeen_6 (by decide) ?_
  refine z_istore_n X (pc := 7) (i := 3) [(3, .int (nI 0)), (0, .ref h), (1, .int (nI kd)), (2, .int (nI x))] dX4_chanceOfSeen_7 rfl (by decide) rfl ?_
  have loop_8 : ∀ (fuel_8 : Nat) (i : Nat) (mt : Int32) (hr : Nat) (hn : Nat) (f2 : Nat → Int64), sg < i + fuel_8 → (i ≤ sg) → ((∃ c, c < 33 ∧ (sna s ev sl sr kd x i).1 c ≠ 0) → ev * i ≤ s 0 + s 1 ∧ mt = nI (s 0 + s 1 - ev * i)) → Z D k (0, 0) [eX4 h hT hN hU hA hK hW hL hZ (nI sg) (nI ev), eX0 hN (nI (s 0)) (nI (s 1)) (nI (s 2)) (nI (s 3)) (nI (s 4)), eX0 hU (nI (s 0)) (nI (s 1)) (nI (s 2)) (nI kd) (nI x), eX3 hW hr hn ho (nI 0) (nI kd) (nI x) mt (lN 4398046511104 - lN ((sna s ev sl sr kd x i).2.2.1)) (lN ((sna s ev sl sr kd x i).2.2.2)), eL t hr 33 (lf (fun j => (sna s ev sl sr kd x i).1 j * 4 ^ (21 - ev * i))), eL t hn 33 f2, eL t ho 11 (lf ((sna s ev sl sr kd x i).2.1)), eI t hL 6 (nf sl), eI t hZ 6 (nf sr)] 8 [(0, .ref h), (1, .int (nI kd)), (2, .int (nI x)), (3, .int (nI i))] [] := by
    intro fuel_8
    induction fuel_8 with
    | zero =>
      intro i mt hr hn f2 hfuel_8 hi hmt
      exfalso; omega
    | succ fuel_8 ih_8 =>
      intro i mt hr hn f2 hfuel_8 hi hmt
      have hwk := wok_sna hsk (ev := ev) (sl := sl) (sr := sr) (kd := kd) hx i
      have hle := wok_le hwk
      refine z_iload_n X (pc := 8) 3 dX4_chanceOfSeen_8 rfl ?_
      refine z_aload_n X (pc := 9) 0 dX4_chanceOfSeen_9 rfl ?_
      refine z_get X (pc := 10) 0 8 (.int (nI sg)) tu_4 tw_152 dX4_chanceOfSeen_10 rfl rfl (by decide) rfl rfl ?_
      refine z_icmp_geN X (pc := 13) 70 (by omega) (by omega) dX4_chanceOfSeen_13 (by decide) (fun c_13 => ?_) (fun c_13 => ?_)
      · skip
        refine z_aload_n X (pc := 70) 0 dX4_chanceOfSeen_70 rfl ?_
        refine z_get X (pc := 71) 0 5 (.ref hW) tu_4 tw_149 dX4_chanceOfSeen_71 rfl rfl (by decide) rfl rfl ?_
        refine zc_V (as := []) X (pc := 74) (c_X3_standing lq D t hW hr hn ho 0 kd x mt (lN 4398046511104 - lN ((sna s ev sl sr kd x i).2.2.1)) (lN ((sna s ev sl sr kd x i).2.2.2)) ) tw_429 tw_432 tw_6 tw_430 tw_431 0 3 rfl rfl [3] rfl rfl dX4_chanceOfSeen_74 rfl zdX3_standing ⟨rfl, rfl, Nat.le_of_ble_eq_true rfl, Nat.le_of_ble_eq_true rfl⟩ (Nat.le_of_ble_eq_true rfl) (Nat.zero_le _) (Nat.zero_le _) (fun v_4 w_5 hp_6 => ?_)
        obtain ⟨rfl, rfl⟩ := hp_6
        refine ⟨rfl, ?_⟩
        refine z_eq (ws2 := [eX4 h hT hN hU hA hK hW hL hZ (nI sg) (nI ev), eX0 hN (nI (s 0)) (nI (s 1)) (nI (s 2)) (nI (s 3)) (nI (s 4)), eX0 hU (nI (s 0)) (nI (s 1)) (nI (s 2)) (nI kd) (nI x), eX3 hW hr hn ho (nI 0) (nI kd) (nI x) mt (lN 4398046511104 - lN ((sna s ev sl sr kd x i).2.2.1)) (lN ((sna s ev sl sr kd x i).2.2.2)), eL t hr 33 (lf (fun j => (sna s ev sl sr kd x i).1 j * 4 ^ (21 - ev * i))), eL t hn 33 f2, eL t ho 11 (lf ((sna s ev sl sr kd x i).2.1)), eI t hL 6 (nf sl), eI t hZ 6 (nf sr)]) (st2 := [.long (lN 4398046511104 - lN ((sna s ev sl sr kd x i).2.2.1))]) rfl rfl rfl ?_
        exact hRet.l dX4_chanceOfSeen_77 ⟨(nI (s 0)), (nI (s 1)), (nI (s 2)), (nI kd), (nI x), hr, hn, (nI 0), (nI kd), (nI x), mt, (lN 4398046511104 - lN ((sna s ev sl sr kd x i).2.2.1)), (lN ((sna s ev sl sr kd x i).2.2.2)), (lf (fun j => (sna s ev sl sr kd x i).1 j * 4 ^ (21 - ev * i))), f2, (lf ((sna s ev sl sr kd x i).2.1)), by rw [csn, show i = sg by omega, lN_som (by rw [← show i = sg by omega]; exact hle)], rfl⟩
      · skip
        refine z_iload_n X (pc := 16) 3 dX4_chanceOfSeen_16 rfl ?_
        refine z_bipush X (pc := 17) (nI 6) dX4_chanceOfSeen_17 (by decide) ?_
        refine z_icmp_geN X (pc := 19) 70 (by omega) (by omega) dX4_chanceOfSeen_19 (by decide) (fun c_19 => absurd c_19 (by omega)) (fun c_19 => ?_)
        refine z_aload_n X (pc := 22) 0 dX4_chanceOfSeen_22 rfl ?_
        refine z_get X (pc := 23) 0 5 (.ref hW) tu_4 tw_149 dX4_chanceOfSeen_23 rfl rfl (by decide) rfl rfl ?_
        refine zc_V (as := []) X (pc := 26) (c_X3_standing lq D t hW hr hn ho 0 kd x mt (lN 4398046511104 - lN ((sna s ev sl sr kd x i).2.2.1)) (lN ((sna s ev sl sr kd x i).2.2.2)) ) tw_429 tw_432 tw_6 tw_430 tw_431 0 3 rfl rfl [3] rfl rfl dX4_chanceOfSeen_26 rfl zdX3_standing ⟨rfl, rfl, Nat.le_of_ble_eq_true rfl, Nat.le_of_ble_eq_true rfl⟩ (Nat.le_of_ble_eq_true rfl) (Nat.zero_le _) (Nat.zero_le _) (fun v_7 w_8 hp_9 => ?_)
        obtain ⟨rfl, rfl⟩ := hp_9
        refine ⟨rfl, ?_⟩
        refine z_eq (ws2 := [eX4 h hT hN hU hA hK hW hL hZ (nI sg) (nI ev), eX0 hN (nI (s 0)) (nI (s 1)) (nI (s 2)) (nI (s 3)) (nI (s 4)), eX0 hU (nI (s 0)) (nI (s 1)) (nI (s 2)) (nI kd) (nI x), eX3 hW hr hn ho (nI 0) (nI kd) (nI x) mt (lN 4398046511104 - lN ((sna s ev sl sr kd x i).2.2.1)) (lN ((sna s ev sl sr kd x i).2.2.2)), eL t hr 33 (lf (fun j => (sna s ev sl sr kd x i).1 j * 4 ^ (21 - ev * i))), eL t hn 33 f2, eL t ho 11 (lf ((sna s ev sl sr kd x i).2.1)), eI t hL 6 (nf sl), eI t hZ 6 (nf sr)]) (st2 := [.long (lN 4398046511104 - lN ((sna s ev sl sr kd x i).2.2.1))]) rfl rfl rfl ?_
        refine z_topl (lN (4398046511104 - (sna s ev sl sr kd x i).2.2.1)) (lN_som hle) ?_
        refine z_lconst X (pc := 29) (lN 0) dX4_chanceOfSeen_29 (by decide) ?_
        refine z_lcmp_leN X (pc := 30) 70 (by omega) (by omega) dX4_chanceOfSeen_30 dX4_chanceOfSeen_31 (by decide) (fun c_30 => ?_) (fun c_30 => ?_)
        · skip
          have hde := wok_dead hwk (by omega)
          refine z_aload_n X (pc := 70) 0 dX4_chanceOfSeen_70 rfl ?_
          refine z_get X (pc := 71) 0 5 (.ref hW) tu_4 tw_149 dX4_chanceOfSeen_71 rfl rfl (by decide) rfl rfl ?_
          refine zc_V (as := []) X (pc := 74) (c_X3_standing lq D t hW hr hn ho 0 kd x mt (lN 4398046511104 - lN ((sna s ev sl sr kd x i).2.2.1)) (lN ((sna s ev sl sr kd x i).2.2.2)) ) tw_429 tw_432 tw_6 tw_430 tw_431 0 3 rfl rfl [3] rfl rfl dX4_chanceOfSeen_74 rfl zdX3_standing ⟨rfl, rfl, Nat.le_of_ble_eq_true rfl, Nat.le_of_ble_eq_true rfl⟩ (Nat.le_of_ble_eq_true rfl) (Nat.zero_le _) (Nat.zero_le _) (fun v_10 w_11 hp_12 => ?_)
          obtain ⟨rfl, rfl⟩ := hp_12
          refine ⟨rfl, ?_⟩
          refine z_eq (ws2 := [eX4 h hT hN hU hA hK hW hL hZ (nI sg) (nI ev), eX0 hN (nI (s 0)) (nI (s 1)) (nI (s 2)) (nI (s 3)) (nI (s 4)), eX0 hU (nI (s 0)) (nI (s 1)) (nI (s 2)) (nI kd) (nI x), eX3 hW hr hn ho (nI 0) (nI kd) (nI x) mt (lN 4398046511104 - lN ((sna s ev sl sr kd x i).2.2.1)) (lN ((sna s ev sl sr kd x i).2.2.2)), eL t hr 33 (lf (fun j => (sna s ev sl sr kd x i).1 j * 4 ^ (21 - ev * i))), eL t hn 33 f2, eL t ho 11 (lf ((sna s ev sl sr kd x i).2.1)), eI t hL 6 (nf sl), eI t hZ 6 (nf sr)]) (st2 := [.long (lN 4398046511104 - lN ((sna s ev sl sr kd x i).2.2.1))]) rfl rfl rfl ?_
          exact hRet.l dX4_chanceOfSeen_77 ⟨(nI (s 0)), (nI (s 1)), (nI (s 2)), (nI kd), (nI x), hr, hn, (nI 0), (nI kd), (nI x), mt, (lN 4398046511104 - lN ((sna s ev sl sr kd x i).2.2.1)), (lN ((sna s ev sl sr kd x i).2.2.2)), (lf (fun j => (sna s ev sl sr kd x i).1 j * 4 ^ (21 - ev * i))), f2, (lf ((sna s ev sl sr kd x i).2.1)), by rw [csn_dead hsk hx hi hde, lN_som hle, show 4398046511104 - (sna s ev sl sr kd x i).2.2.1 = 0 by omega], rfl⟩
        · skip
          refine z_aload_n X (pc := 34) 0 dX4_chanceOfSeen_34 rfl ?_
          refine z_get X (pc := 35) 0 5 (.ref hW) tu_4 tw_149 dX4_chanceOfSeen_35 rfl rfl (by decide) rfl rfl ?_
          refine z_aload_n X (pc := 38) 0 dX4_chanceOfSeen_38 rfl ?_
          refine z_get X (pc := 39) 0 9 (.int (nI ev)) tu_4 tw_153 dX4_chanceOfSeen_39 rfl rfl (by decide) rfl rfl ?_
          refine zc_V (as := [.int (nI ev)]) X (pc := 42) (c_X3_advance lq D t hW hr hn ho 0 kd x (s 0 + s 1 - ev * i) (21 - ev * i) mt (sna s ev sl sr kd x i) f2 ev (by decide) (by omega) (by omega) (by omega) (by omega) hwk (fun z => (hmt z).2) (by omega)) tw_425 tw_428 tw_6 tw_426 tw_427 0 3 rfl rfl [3, 4, 5, 6] rfl rfl dX4_chanceOfSeen_42 rfl zdX3_advance ⟨rfl, rfl, Nat.le_of_ble_eq_true rfl, Nat.le_of_ble_eq_true rfl⟩ (Nat.le_of_ble_eq_true rfl) (Nat.zero_le _) (Nat.zero_le _) (fun v_13 w_14 hp_15 => ?_)
          obtain ⟨mt2_16, hr2_17, hn2_18, f2_19, hf_20, rfl, rfl⟩ := hp_15
          refine ⟨rfl, ?_⟩
          refine z_eq (ws2 := [eX4 h hT hN hU hA hK hW hL hZ (nI sg) (nI ev), eX0 hN (nI (s 0)) (nI (s 1)) (nI (s 2)) (nI (s 3)) (nI (s 4)), eX0 hU (nI (s 0)) (nI (s 1)) (nI (s 2)) (nI kd) (nI x), eX3 hW hr2_17 hn2_18 ho (nI 0) (nI kd) (nI x) mt2_16 (lN 4398046511104 - lN ((wrun kd x 0 (s 0 + s 1 - ev * i) (21 - ev * i) (sna s ev sl sr kd x i) ev).2.2.1)) (lN ((wrun kd x 0 (s 0 + s 1 - ev * i) (21 - ev * i) (sna s ev sl sr kd x i) ev).2.2.2)), eL t hr2_17 33 (lf (fun j => (wrun kd x 0 (s 0 + s 1 - ev * i) (21 - ev * i) (sna s ev sl sr kd x i) ev).1 j * 4 ^ ((21 - ev * i) - ev))), eL t hn2_18 33 f2_19, eL t ho 11 (lf ((wrun kd x 0 (s 0 + s 1 - ev * i) (21 - ev * i) (sna s ev sl sr kd x i) ev).2.1)), eI t hL 6 (nf sl), eI t hZ 6 (nf sr)]) (st2 := []) rfl rfl rfl ?_
          have hwr := wok_run (kd := kd) (en := 0) hx (wok_sna hsk (ev := ev) (sl := sl) (sr := sr) (kd := kd) hx i) ev
          have hmul : ev * i + ev = ev * (i + 1) := (Nat.mul_succ ev i).symm
          rw [Nat.sub_sub, Nat.sub_sub, hmul] at hwr
          refine z_eq (ws2 := [eX4 h hT hN hU hA hK hW hL hZ (nI sg) (nI ev), eX0 hN (nI (s 0)) (nI (s 1)) (nI (s 2)) (nI (s 3)) (nI (s 4)), eX0 hU (nI (s 0)) (nI (s 1)) (nI (s 2)) (nI kd) (nI x), eX3 hW hr2_17 hn2_18 ho (nI 0) (nI kd) (nI x) mt2_16 (lN 4398046511104 - lN ((wrun kd x 0 (s 0 + s 1 - ev * i) (21 - ev * i) (sna s ev sl sr kd x i) ev).2.2.1)) (lN ((wrun kd x 0 (s 0 + s 1 - ev * i) (21 - ev * i) (sna s ev sl sr kd x i) ev).2.2.2)), eL t hr2_17 33 (lf (fun j => (snw s ev sl sr kd x i).1 j * 4 ^ (21 - ev * (i + 1)))), eL t hn2_18 33 f2_19, eL t ho 11 (lf ((wrun kd x 0 (s 0 + s 1 - ev * i) (21 - ev * i) (sna s ev sl sr kd x i) ev).2.1)), eI t hL 6 (nf sl), eI t hZ 6 (nf sr)]) (by rw [Nat.sub_sub, hmul]) rfl rfl ?_
          have hmt2 : (∃ c, c < 33 ∧ (snw s ev sl sr kd x i).1 c ≠ 0) → ev * (i + 1) ≤ s 0 + s 1 ∧ mt2_16 = nI (s 0 + s 1 - ev * (i + 1)) := by
            intro z
            obtain ⟨h8, h9⟩ := hf_20 z
            rw [Nat.sub_sub, hmul] at h9
            have := (hmt (wok_alive (wok_sna hsk hx i) (by omega))).1
            exact ⟨by omega, h9⟩
          refine z_aload_n X (pc := 45) 0 dX4_chanceOfSeen_45 rfl ?_
          refine z_get X (pc := 46) 0 5 (.ref hW) tu_4 tw_149 dX4_chanceOfSeen_46 rfl rfl (by decide) rfl rfl ?_
          refine z_aload_n X (pc := 49) 0 dX4_chanceOfSeen_49 rfl ?_
          refine z_get X (pc := 50) 0 6 (.ref hL) tu_4 tw_150 dX4_chanceOfSeen_50 rfl rfl (by decide) rfl rfl ?_
          refine z_iload_n X (pc := 53) 3 dX4_chanceOfSeen_53 rfl ?_
          refine z_iald X (pc := 54) 7 i (nI (sl i)) dX4_chanceOfSeen_54 rfl rfl (Nat.le_of_ble_eq_true rfl) (by omega) rfl ?_
          refine z_aload_n X (pc := 55) 0 dX4_chanceOfSeen_55 rfl ?_
          refine z_get X (pc := 56) 0 7 (.ref hZ) tu_4 tw_151 dX4_chanceOfSeen_56 rfl rfl (by decide) rfl rfl ?_
          refine z_iload_n X (pc := 59) 3 dX4_chanceOfSeen_59 rfl ?_
          refine z_iald X (pc := 60) 8 i (nI (sr i)) dX4_chanceOfSeen_60 rfl rfl (Nat.le_of_ble_eq_true rfl) (by omega) rfl ?_
          refine zc_V (as := [.int (nI (sl i)), .int (nI (sr i))]) X (pc := 61) (c_X3_keepOnly lq D t hW hr2_17 hn2_18 ho 0 kd x (sl i) (sr i) (s 0 + s 1 - ev * (i + 1)) (4 ^ (21 - ev * (i + 1))) mt2_16 (lN 4398046511104 - lN ((wrun kd x 0 (s 0 + s 1 - ev * i) (21 - ev * i) (sna s ev sl sr kd x i) ev).2.2.1)) (lN ((wrun kd x 0 (s 0 + s 1 - ev * i) (21 - ev * i) (sna s ev sl sr kd x i) ev).2.2.2)) ((snw s ev sl sr kd x i).1) (hsl i).1 (hsl i).2 (by omega) (fun z => (hmt2 z).2) hwr.1) tw_493 tw_496 tw_6 tw_494 tw_495 0 3 rfl rfl [3, 4] rfl rfl dX4_chanceOfSeen_61 rfl zdX3_keepOnly ⟨rfl, rfl, Nat.le_of_ble_eq_true rfl, Nat.le_of_ble_eq_true rfl⟩ (Nat.le_of_ble_eq_true rfl) (Nat.zero_le _) (Nat.zero_le _) (fun v_21 w_22 hp_23 => ?_)
          obtain ⟨rfl, rfl⟩ := hp_23
          refine ⟨rfl, ?_⟩
          refine z_eq (ws2 := [eX4 h hT hN hU hA hK hW hL hZ (nI sg) (nI ev), eX0 hN (nI (s 0)) (nI (s 1)) (nI (s 2)) (nI (s 3)) (nI (s 4)), eX0 hU (nI (s 0)) (nI (s 1)) (nI (s 2)) (nI kd) (nI x), eX3 hW hr2_17 hn2_18 ho (nI 0) (nI kd) (nI x) mt2_16 (lN (sm (kfl (s 0 + s 1 - ev * (i + 1)) (sl i) (sr i) ((snw s ev sl sr kd x i).1)) 33 * (4 ^ (21 - ev * (i + 1))))) (lN ((wrun kd x 0 (s 0 + s 1 - ev * i) (21 - ev * i) (sna s ev sl sr kd x i) ev).2.2.2)), eL t hr2_17 33 (lf (fun j => kfl (s 0 + s 1 - ev * (i + 1)) (sl i) (sr i) ((snw s ev sl sr kd x i).1) j * (4 ^ (21 - ev * (i + 1))))), eL t hn2_18 33 f2_19, eL t ho 11 (lf ((wrun kd x 0 (s 0 + s 1 - ev * i) (21 - ev * i) (sna s ev sl sr kd x i) ev).2.1)), eI t hL 6 (nf sl), eI t hZ 6 (nf sr)]) (st2 := []) rfl rfl rfl ?_
          have hkm := kfl_mass (il := sl i) (ir := sr i) hwr
          refine z_eq (ws2 := [eX4 h hT hN hU hA hK hW hL hZ (nI sg) (nI ev), eX0 hN (nI (s 0)) (nI (s 1)) (nI (s 2)) (nI (s 3)) (nI (s 4)), eX0 hU (nI (s 0)) (nI (s 1)) (nI (s 2)) (nI kd) (nI x), eX3 hW hr2_17 hn2_18 ho (nI 0) (nI kd) (nI x) mt2_16 (lN 4398046511104 - lN ((sna s ev sl sr kd x (i + 1)).2.2.1)) (lN ((sna s ev sl sr kd x (i + 1)).2.2.2)), eL t hr2_17 33 (lf (fun j => (sna s ev sl sr kd x (i + 1)).1 j * 4 ^ (21 - ev * (i + 1)))), eL t hn2_18 33 f2_19, eL t ho 11 (lf ((sna s ev sl sr kd x (i + 1)).2.1)), eI t hL 6 (nf sl), eI t hZ 6 (nf sr)]) (by rw [sna_s, lN_som (Nat.sub_le _ _), Nat.sub_sub_self hkm]) rfl rfl ?_
          refine z_iinc X (pc := 64) (i := 3) 3 (nI (i + 1)) [(3, .int (nI (i + 1))), (0, .ref h), (1, .int (nI kd)), (2, .int (nI x))] dX4_chanceOfSeen_64 rfl (nI_incc i 1) (by decide) rfl ?_
          refine z_goto X (pc := 67) 8 dX4_chanceOfSeen_67 (by decide) ?_
          refine z_lv [1, 2, 3, 0] (lv2 := [(0, .ref h), (1, .int (nI kd)), (2, .int (nI x)), (3, .int (nI (i + 1)))]) rfl ?_
          exact ih_8 (i + 1) mt2_16 hr2_17 hn2_18 f2_19 (by omega) (by omega) (fun z => hmt2 (by rw [sna_s] at z; exact kfl_alive z))
  refine z_eq (ws2 := [eX4 h hT hN hU hA hK hW hL hZ (nI sg) (nI ev), eX0 hN (nI (s 0)) (nI (s 1)) (nI (s 2)) (nI (s 3)) (nI (s 4)), eX0 hU (nI (s 0)) (nI (s 1)) (nI (s 2)) (nI kd) (nI x), eX3 hW hr hn ho (nI 0) (nI kd) (nI x) (nI (s 0 + s 1)) (lN 4398046511104 - lN ((sna s ev sl sr kd x 0).2.2.1)) (lN ((sna s ev sl sr kd x 0).2.2.2)), eL t hr 33 (lf (fun j => (sna s ev sl sr kd x 0).1 j * 4 ^ (21 - ev * 0))), eL t hn 33 f2, eL t ho 11 (lf ((sna s ev sl sr kd x 0).2.1)), eI t hL 6 (nf sl), eI t hZ 6 (nf sr)]) (by rw [sna_z, Nat.mul_zero]) rfl rfl ?_
  refine z_lv [1, 2, 3, 0] (lv2 := [(0, .ref h), (1, .int (nI kd)), (2, .int (nI x)), (3, .int (nI 0))]) rfl ?_
  exact loop_8 (sg + 1) 0 (nI (s 0 + s 1)) hr hn f2 (by omega) (by omega) (fun _ => ⟨by rw [Nat.mul_zero]; omega, by rw [Nat.mul_zero]; rfl⟩)

abbrev rm_X4_likeliestQuarters : Room := { frames := 5, cells := 0, slots := 0, locals := 124 }
set_option maxHeartbeats 4000000 in
set_option maxRecDepth 100000 in
theorem c_X4_likeliestQuarters (lq : Launch) (D : va_G) (t : zT) (h hT hN hU hA hK hW hL hZ sg ev : Nat) (s : Nat → Nat) (hr hn ho : Nat) (b0 b1 b2 b3 b4 g0 g1 g2 g3 : Int32) (g4 g5 : Int64) (f1 f2 f3 : Nat → Int64) (sl sr : Nat → Nat) (kd : Nat) (hs : sOk s) (hkd : kd ≤ 3) (hev : 1 ≤ ev ∧ ev ≤ 9) (hsg : sg ≤ 6) (hsl : ∀ j, sl j ≤ 10 ∧ sr j ≤ 10) : Ct lq D t yX4_likeliestQuarters cX4_likeliestQuarters 8 (some .int) rm_X4_likeliestQuarters [.ref h, .int (nI kd)] [eX4 h hT hN hU hA hK hW hL hZ (nI sg) (nI ev), eX0 hN (nI (s 0)) (nI (s 1)) (nI (s 2)) (nI (s 3)) (nI (s 4)), eX0 hU b0 b1 b2 b3 b4, eX3 hW hr hn ho g0 g1 g2 g3 g4 g5, eL t hr 33 f1, eL t hn 33 f2, eL t ho 11 f3, eI t hL 6 (nf sl), eI t hZ 6 (nf sr)] 0 0 (fun rv rw_ => ∃ (B0 : Int32) (B1 : Int32) (B2 : Int32) (B3 : Int32) (B4 : Int32) (hr2 : Nat) (hn2 : Nat) (G0 : Int32) (G1 : Int32) (G2 : Int32) (G3 : Int32) (G4 : Int64) (G5 : Int64) (F1 : Nat → Int64) (F2 : Nat → Int64) (F3 : Nat → Int64), rv = some (.int (oI (lqt (csn s ev sl sr sg kd) 5).1)) ∧ rw_ = [eX4 h hT hN hU hA hK hW hL hZ (nI sg) (nI ev), eX0 hN (nI (s 0)) (nI (s 1)) (nI (s 2)) (nI (s 3)) (nI (s 4)), eX0 hU B0 B1 B2 B3 B4, eX3 hW hr2 hn2 ho G0 G1 G2 G3 G4 G5, eL t hr2 33 F1, eL t hn2 33 F2, eL t ho 11 F3, eI t hL 6 (nf sl), eI t hZ 6 (nf sr)]) := by
  refine Ct.of (by decide) (Nat.le_of_ble_eq_true rfl) (fun k X hRet => ?_)
  have X : zX D t k cX4_likeliestQuarters 8 RX4 "likeliestQuarters" rm_X4_likeliestQuarters lq := X
  refine z_eq (lv2 := [(0, .ref h), (1, .int (nI kd))]) rfl rfl rfl ?_
  refine z_iconst X (pc := 0) (-1) dX4_likeliestQuarters_0 (by decide) ?_
  refine z_istore_n X (pc := 1) (i := 2) [(2, .int (-1)), (0, .ref h), (1, .int (nI kd))] dX4_likeliestQuarters_1 rfl (by decide) rfl ?_
  refine z_lconst X (pc := 2) (lN 0) dX4_likeliestQuarters_2 (by decide) ?_
  refine z_lstore_n X (pc := 3) (i := 3) [(3, .long (lN 0)), (2, .int (-1)), (0, .ref h), (1, .int (nI kd))] dX4_likeliestQuarters_3 rfl (by decide) rfl ?_
  refine z_iconst X (pc := 4) (nI 0) dX4_likeliestQuarters_4 (by decide) ?_
  refine z_istore X (pc := 5) (i := 5) [(5, .int (nI 0)), (3, .long (lN 0)), (2, .int (-1)), (0, .ref h), (1, .int (nI kd))] dX4_likeliestQuarters_5 trivial (by decide) rfl ?_
  have loop_7 : ∀ (fuel_7 : Nat) (x : Nat) (p : Option Nat × Nat) (hr : Nat) (hn : Nat) (b0 : Int32) (b1 : Int32) (b2 : Int32) (b3 : Int32) (b4 : Int32) (g0 : Int32) (g1 : Int32) (g2 : Int32) (g3 : Int32) (g4 : Int64) (g5 : Int64) (f1 : Nat → Int64) (f2 : Nat → Int64) (f3 : Nat → Int64), 5 < x + fuel_7 → (x ≤ 5) → (p = lqt (csn s ev sl sr sg kd) x) → Z D k (0, 0) [eX4 h hT hN hU hA hK hW hL hZ (nI sg) (nI ev), eX0 hN (nI (s 0)) (nI (s 1)) (nI (s 2)) (nI (s 3)) (nI (s 4)), eX0 hU b0 b1 b2 b3 b4, eX3 hW hr hn ho g0 g1 g2 g3 g4 g5, eL t hr 33 f1, eL t hn 33 f2, eL t ho 11 f3, eI t hL 6 (nf sl), eI t hZ 6 (nf sr)] 7 [(0, .ref h), (1, .int (nI kd)), (2, .int (oI p.1)), (3, .long (lN p.2)), (5, .int (nI x))] [] := by
    intro fuel_7
    induction fuel_7 with
    | zero =>
      intro x p hr hn b0 b1 b2 b3 b4 g0 g1 g2 g3 g4 g5 f1 f2 f3 hfuel_7 hx hp
      exfalso; omega
    | succ fuel_7 ih_7 =>
      intro x p hr hn b0 b1 b2 b3 b4 g0 g1 g2 g3 g4 g5 f1 f2 f3 hfuel_7 hx hp
      have hple : p.2 ≤ 4398046511104 := by rw [hp]; exact lqt_le (csn_le s ev sl sr sg kd) x
      refine z_iload X (pc := 7) 4 dX4_likeliestQuarters_7 rfl ?_
      refine z_iconst X (pc := 9) (nI 4) dX4_likeliestQuarters_9 (by decide) ?_
      refine z_icmp_gtN X (pc := 10) 41 (by omega) (by omega) dX4_likeliestQuarters_10 (by decide) (fun c_10 => ?_) (fun c_10 => ?_)
      · skip
        refine z_iload_n X (pc := 41) 2 dX4_likeliestQuarters_41 rfl ?_
        exact hRet.i dX4_likeliestQuarters_42 ⟨b0, b1, b2, b3, b4, hr, hn, g0, g1, g2, g3, g4, g5, f1, f2, f3, by rw [hp, show x = 5 by omega], rfl⟩
      · skip
        refine z_aload_n X (pc := 13) 0 dX4_likeliestQuarters_13 rfl ?_
        refine z_iload_n X (pc := 14) 1 dX4_likeliestQuarters_14 rfl ?_
        refine z_iload X (pc := 15) 4 dX4_likeliestQuarters_15 rfl ?_
        refine zc_V (as := [.int (nI kd), .int (nI x)]) X (pc := 17) (c_X4_chanceOfSeen lq D t h hT hN hU hA hK hW hL hZ sg ev s hr hn ho b0 b1 b2 b3 b4 g0 g1 g2 g3 g4 g5 f1 f2 f3 sl sr kd x hs (by omega) (by omega) hev hsg hsl) tw_485 tw_488 tw_1 tw_487 tw_1019 0 4 rfl rfl [0, 1, 2, 3, 4, 5, 6, 7, 8] rfl rfl dX4_likeliestQuarters_17 rfl zdX4_chanceOfSeen ⟨rfl, rfl, Nat.le_of_ble_eq_true rfl, Nat.le_of_ble_eq_true rfl⟩ (Nat.le_of_ble_eq_true rfl) (Nat.zero_le _) (Nat.zero_le _) (fun v_1 w_2 hp_3 => ?_)
        obtain ⟨B0_4, B1_5, B2_6, B3_7, B4_8, hr2_9, hn2_10, G0_11, G1_12, G2_13, G3_14, G4_15, G5_16, F1_17, F2_18, F3_19, rfl, rfl⟩ := hp_3
        refine ⟨rfl, ?_⟩
        refine z_eq (ws2 := [eX4 h hT hN hU hA hK hW hL hZ (nI sg) (nI ev), eX0 hN (nI (s 0)) (nI (s 1)) (nI (s 2)) (nI (s 3)) (nI (s 4)), eX0 hU B0_4 B1_5 B2_6 B3_7 B4_8, eX3 hW hr2_9 hn2_10 ho G0_11 G1_12 G2_13 G3_14 G4_15 G5_16, eL t hr2_9 33 F1_17, eL t hn2_10 33 F2_18, eL t ho 11 F3_19, eI t hL 6 (nf sl), eI t hZ 6 (nf sr)]) (st2 := [.long (lN (csn s ev sl sr sg kd x))]) rfl rfl rfl ?_
        refine z_lstore X (pc := 20) (i := 6) [(6, .long (lN (csn s ev sl sr sg kd x))), (0, .ref h), (1, .int (nI kd)), (2, .int (oI p.1)), (3, .long (lN p.2)), (5, .int (nI x))] dX4_likeliestQuarters_20 trivial (by decide) rfl ?_
        refine z_lload X (pc := 22) 0 dX4_likeliestQuarters_22 rfl ?_
        refine z_lload_n X (pc := 24) 4 dX4_likeliestQuarters_24 rfl ?_
        refine z_lcmp_leN X (pc := 25) 35 (Nat.lt_of_le_of_lt (csn_le _ _ _ _ _ _ _) (by decide)) (by omega) dX4_likeliestQuarters_25 dX4_likeliestQuarters_26 (by decide) (fun c_25 => ?_) (fun c_25 => ?_)
        · skip
          refine z_iinc X (pc := 35) (i := 5) 5 (nI (x + 1)) [(5, .int (nI (x + 1))), (6, .long (lN (csn s ev sl sr sg kd x))), (0, .ref h), (1, .int (nI kd)), (2, .int (oI p.1)), (3, .long (lN p.2))] dX4_likeliestQuarters_35 rfl (nI_incc x 1) (by decide) rfl ?_
          refine z_goto X (pc := 38) 7 dX4_likeliestQuarters_38 (by decide) ?_
          refine z_lv [2, 3, 4, 5, 0] (lv2 := [(0, .ref h), (1, .int (nI kd)), (2, .int (oI p.1)), (3, .long (lN p.2)), (5, .int (nI (x + 1)))]) rfl ?_
          exact ih_7 (x + 1) p hr2_9 hn2_10 B0_4 B1_5 B2_6 B3_7 B4_8 G0_11 G1_12 G2_13 G3_14 G4_15 G5_16 F1_17 F2_18 F3_19 (by omega) (by omega) (by rw [lqt_s, ← hp, if_neg (by omega)])
        · skip
          refine z_iload X (pc := 29) 5 dX4_likeliestQuarters_29 rfl ?_
          refine z_istore_n X (pc := 31) (i := 2) [(2, .int (nI x)), (6, .long (lN (csn s ev sl sr sg kd x))), (0, .ref h), (1, .int (nI kd)), (3, .long (lN p.2)), (5, .int (nI x))] dX4_likeliestQuarters_31 rfl (by decide) rfl ?_
          refine z_lload X (pc := 32) 1 dX4_likeliestQuarters_32 rfl ?_
          refine z_lstore_n X (pc := 34) (i := 3) [(3, .long (lN (csn s ev sl sr sg kd x))), (2, .int (nI x)), (6, .long (lN (csn s ev sl sr sg kd x))), (0, .ref h), (1, .int (nI kd)), (5, .int (nI x))] dX4_likeliestQuarters_34 rfl (by decide) rfl ?_
          refine z_iinc X (pc := 35) (i := 5) 5 (nI (x + 1)) [(5, .int (nI (x + 1))), (3, .long (lN (csn s ev sl sr sg kd x))), (2, .int (nI x)), (6, .long (lN (csn s ev sl sr sg kd x))), (0, .ref h), (1, .int (nI kd))] dX4_likeliestQuarters_35 rfl (nI_incc x 1) (by decide) rfl ?_
          refine z_goto X (pc := 38) 7 dX4_likeliestQuarters_38 (by decide) ?_
          refine z_eq (lv2 := [(5, .int (nI (x + 1))), (3, .long (lN ((some x, csn s ev sl sr sg kd x).2))), (2, .int (oI (some x, csn s ev sl sr sg kd x).1)), (6, .long (lN (csn s ev sl sr sg kd x))), (0, .ref h), (1, .int (nI kd))]) rfl rfl rfl ?_
          refine z_lv [4, 5, 2, 1, 0] (lv2 := [(0, .ref h), (1, .int (nI kd)), (2, .int (oI (some x, csn s ev sl sr sg kd x).1)), (3, .long (lN ((some x, csn s ev sl sr sg kd x).2))), (5, .int (nI (x + 1)))]) rfl ?_
          exact ih_7 (x + 1) (some x, csn s ev sl sr sg kd x) hr2_9 hn2_10 B0_4 B1_5 B2_6 B3_7 B4_8 G0_11 G1_12 G2_13 G3_14 G4_15 G5_16 F1_17 F2_18 F3_19 (by omega) (by omega) (by rw [lqt_s, ← hp, if_pos (by omega)])
  refine z_eq (lv2 := [(5, .int (nI 0)), (3, .long (lN (((none, 0) : Option Nat × Nat).2))), (2, .int (oI ((none, 0) : Option Nat × Nat).1)), (0, .ref h), (1, .int (nI kd))]) rfl rfl rfl ?_
  refine z_lv [3, 4, 2, 1, 0] (lv2 := [(0, .ref h), (1, .int (nI kd)), (2, .int (oI ((none, 0) : Option Nat × Nat).1)), (3, .long (lN (((none, 0) : Option Nat × Nat).2))), (5, .int (nI 0))]) rfl ?_
  exact loop_7 6 0 (none, 0) hr hn b0 b1 b2 b3 b4 g0 g1 g2 g3 g4 g5 f1 f2 f3 (by omega) (by omega) (lqt_z _).symm

abbrev rm_X4_fits : Room := { frames := 6, cells := 0, slots := 0, locals := 151 }
set_option maxHeartbeats 4000000 in
set_option maxRecDepth 100000 in
theorem c_X4_fits (lq : Launch) (D : va_G) (t : zT) (h hT hN hU hA hK hW hL hZ sg ev : Nat) (s : Nat → Nat) (hr hn ho : Nat) (b0 b1 b2 b3 b4 g0 g1 g2 g3 : Int32) (g4 g5 : Int64) (f1 f2 f3 : Nat → Int64) (sl sr : Nat → Nat) (hs : sOk s) (hev : 1 ≤ ev ∧ ev ≤ 9) (hsg : sg ≤ 6) (hsl : ∀ j, sl j ≤ 10 ∧ sr j ≤ 10) : Ct lq D t yX4_fits cX4_fits 3 (some .int) rm_X4_fits [.ref h] [eX4 h hT hN hU hA hK hW hL hZ (nI sg) (nI ev), eX0 hN (nI (s 0)) (nI (s 1)) (nI (s 2)) (nI (s 3)) (nI (s 4)), eX0 hU b0 b1 b2 b3 b4, eX3 hW hr hn ho g0 g1 g2 g3 g4 g5, eL t hr 33 f1, eL t hn 33 f2, eL t ho 11 f3, eI t hL 6 (nf sl), eI t hZ 6 (nf sr)] 0 0 (fun rv rw_ => ∃ (B0 : Int32) (B1 : Int32) (B2 : Int32) (B3 : Int32) (B4 : Int32) (hr2 : Nat) (hn2 : Nat) (G0 : Int32) (G1 : Int32) (G2 : Int32) (G3 : Int32) (G4 : Int64) (G5 : Int64) (F1 : Nat → Int64) (F2 : Nat → Int64) (F3 : Nat → Int64), rv = some (.int (fbt (csn s ev sl sr sg) 4)) ∧ rw_ = [eX4 h hT hN hU hA hK hW hL hZ (nI sg) (nI ev), eX0 hN (nI (s 0)) (nI (s 1)) (nI (s 2)) (nI (s 3)) (nI (s 4)), eX0 hU B0 B1 B2 B3 B4, eX3 hW hr2 hn2 ho G0 G1 G2 G3 G4 G5, eL t hr2 33 F1, eL t hn2 33 F2, eL t ho 11 F3, eI t hL 6 (nf sl), eI t hZ 6 (nf sr)]) := by
  refine Ct.of (by decide) (Nat.le_of_ble_eq_true rfl) (fun k X hRet => ?_)
  have X : zX D t k cX4_fits 3 RX4 "fits" rm_X4_fits lq := X
  refine z_eq (lv2 := [(0, .ref h)]) rfl rfl rfl ?_
  refine z_iconst X (pc := 0) (nI 0) dX4_fits_0 (by decide) ?_
  refine z_istore_n X (pc := 1) (i := 1) [(1, .int (nI 0)), (0, .ref h)] dX4_fits_1 rfl (by decide) rfl ?_
  refine z_iconst X (pc := 2) (nI 0) dX4_fits_2 (by decide) ?_
  refine z_istore_n X (pc := 3) (i := 2) [(2, .int (nI 0)), (1, .int (nI 0)), (0, .ref h)] dX4_fits_3 rfl (by decide) rfl ?_
  have loop_4 : ∀ (fuel_4 : Nat) (kd : Nat) (bi : Int32) (hr : Nat) (hn : Nat) (b0 : Int32) (b1 : Int32) (b2 : Int32) (b3 : Int32) (b4 : Int32) (g0 : Int32) (g1 : Int32) (g2 : Int32) (g3 : Int32) (g4 : Int64) (g5 : Int64) (f1 : Nat → Int64) (f2 : Nat → Int64) (f3 : Nat → Int64), 4 < kd + fuel_4 → (kd ≤ 4) → (bi = fbt (csn s ev sl sr sg) kd) → Z D k (0, 0) [eX4 h hT hN hU hA hK hW hL hZ (nI sg) (nI ev), eX0 hN (nI (s 0)) (nI (s 1)) (nI (s 2)) (nI (s 3)) (nI (s 4)), eX0 hU b0 b1 b2 b3 b4, eX3 hW hr hn ho g0 g1 g2 g3 g4 g5, eL t hr 33 f1, eL t hn 33 f2, eL t ho 11 f3, eI t hL 6 (nf sl), eI t hZ 6 (nf sr)] 4 [(0, .ref h), (1, .int bi), (2, .int (nI kd))] [] := by
    intro fuel_4
    induction fuel_4 with
    | zero =>
      intro kd bi hr hn b0 b1 b2 b3 b4 g0 g1 g2 g3 g4 g5 f1 f2 f3 hfuel_4 hkd hbi
      exfalso; omega
    | succ fuel_4 ih_4 =>
      intro kd bi hr hn b0 b1 b2 b3 b4 g0 g1 g2 g3 g4 g5 f1 f2 f3 hfuel_4 hkd hbi
      refine z_iload_n X (pc := 4) 2 dX4_fits_4 rfl ?_
      refine z_iconst X (pc := 5) (nI 3) dX4_fits_5 (by decide) ?_
      refine z_icmp_gtN X (pc := 6) 29 (by omega) (by omega) dX4_fits_6 (by decide) (fun c_6 => ?_) (fun c_6 => ?_)
      · skip
        refine z_iload_n X (pc := 29) 1 dX4_fits_29 rfl ?_
        exact hRet.i dX4_fits_30 ⟨b0, b1, b2, b3, b4, hr, hn, g0, g1, g2, g3, g4, g5, f1, f2, f3, by rw [hbi, show kd = 4 by omega], rfl⟩
      · skip
        refine z_aload_n X (pc := 9) 0 dX4_fits_9 rfl ?_
        refine z_iload_n X (pc := 10) 2 dX4_fits_10 rfl ?_
        refine zc_V (as := [.int (nI kd)]) X (pc := 11) (c_X4_likeliestQuarters lq D t h hT hN hU hA hK hW hL hZ sg ev s hr hn ho b0 b1 b2 b3 b4 g0 g1 g2 g3 g4 g5 f1 f2 f3 sl sr kd hs (by omega) hev hsg hsl) tw_481 tw_484 tw_1 tw_483 tw_1018 0 4 rfl rfl [0, 1, 2, 3, 4, 5, 6, 7, 8] rfl rfl dX4_fits_11 rfl zdX4_likeliestQuarters ⟨rfl, rfl, Nat.le_of_ble_eq_true rfl, Nat.le_of_ble_eq_true rfl⟩ (Nat.le_of_ble_eq_true rfl) (Nat.zero_le _) (Nat.zero_le _) (fun v_1 w_2 hp_3 => ?_)
        obtain ⟨B0_4, B1_5, B2_6, B3_7, B4_8, hr2_9, hn2_10, G0_11, G1_12, G2_13, G3_14, G4_15, G5_16, F1_17, F2_18, F3_19, rfl, rfl⟩ := hp_3
        refine ⟨rfl, ?_⟩
        refine z_eq (ws2 := [eX4 h hT hN hU hA hK hW hL hZ (nI sg) (nI ev), eX0 hN (nI (s 0)) (nI (s 1)) (nI (s 2)) (nI (s 3)) (nI (s 4)), eX0 hU B0_4 B1_5 B2_6 B3_7 B4_8, eX3 hW hr2_9 hn2_10 ho G0_11 G1_12 G2_13 G3_14 G4_15 G5_16, eL t hr2_9 33 F1_17, eL t hn2_10 33 F2_18, eL t ho 11 F3_19, eI t hL 6 (nf sl), eI t hZ 6 (nf sr)]) (st2 := [.int (oI (lqt (csn s ev sl sr sg kd) 5).1)]) rfl rfl rfl ?_
        cases hq : (lqt (csn s ev sl sr sg kd) 5).1 with
        | none =>
          refine z_topi (-1) rfl ?_
          refine z_if_lt X (pc := 14) 23 dX4_fits_14 (by decide) (fun c_14 => ?_) (fun c_14 => absurd c_14 (by decide))
          refine z_iinc X (pc := 23) (i := 2) 2 (nI (kd + 1)) [(2, .int (nI (kd + 1))), (0, .ref h), (1, .int bi)] dX4_fits_23 rfl (nI_incc kd 1) (by decide) rfl ?_
          refine z_goto X (pc := 26) 4 dX4_fits_26 (by decide) ?_
          refine z_lv [1, 2, 0] (lv2 := [(0, .ref h), (1, .int bi), (2, .int (nI (kd + 1)))]) rfl ?_
          exact ih_4 (kd + 1) bi hr2_9 hn2_10 B0_4 B1_5 B2_6 B3_7 B4_8 G0_11 G1_12 G2_13 G3_14 G4_15 G5_16 F1_17 F2_18 F3_19 (by omega) (by omega) (by rw [fbt_s, ← hbi, if_pos hq])
        | some x9 =>
          have hx9 := lqt_lt hq
          refine z_topi (nI x9) rfl ?_
          refine z_if_ltN X (pc := 14) 23 (by omega) dX4_fits_14 (by decide) ?_
          refine z_iload_n X (pc := 17) 1 dX4_fits_17 rfl ?_
          refine z_iconst X (pc := 18) (nI 1) dX4_fits_18 (by decide) ?_
          refine z_iload_n X (pc := 19) 2 dX4_fits_19 rfl ?_
          refine z_ishl X (pc := 20) (v := ((nI 1) <<< ((nI kd) &&& 31))) dX4_fits_20 rfl ?_
          refine z_ior X (pc := 21) (v := (bi ||| ((nI 1) <<< ((nI kd) &&& 31)))) dX4_fits_21 rfl ?_
          refine z_istore_n X (pc := 22) (i := 1) [(1, .int (bi ||| ((nI 1) <<< ((nI kd) &&& 31)))), (0, .ref h), (2, .int (nI kd))] dX4_fits_22 rfl (by decide) rfl ?_
          refine z_iinc X (pc := 23) (i := 2) 2 (nI (kd + 1)) [(2, .int (nI (kd + 1))), (1, .int (bi ||| ((nI 1) <<< ((nI kd) &&& 31)))), (0, .ref h)] dX4_fits_23 rfl (nI_incc kd 1) (by decide) rfl ?_
          refine z_goto X (pc := 26) 4 dX4_fits_26 (by decide) ?_
          refine z_lv [2, 1, 0] (lv2 := [(0, .ref h), (1, .int (bi ||| ((nI 1) <<< ((nI kd) &&& 31)))), (2, .int (nI (kd + 1)))]) rfl ?_
          exact ih_4 (kd + 1) (bi ||| (nI 1 <<< (nI kd &&& 31))) hr2_9 hn2_10 B0_4 B1_5 B2_6 B3_7 B4_8 G0_11 G1_12 G2_13 G3_14 G4_15 G5_16 F1_17 F2_18 F3_19 (by omega) (by omega) (by rw [fbt_s, ← hbi, if_neg (by rw [hq]; exact fun z => by cases z)])
  refine z_lv [2, 1, 0] (lv2 := [(0, .ref h), (1, .int (nI 0)), (2, .int (nI 0))]) rfl ?_
  exact loop_4 5 0 (nI 0) hr hn b0 b1 b2 b3 b4 g0 g1 g2 g3 g4 g5 f1 f2 f3 (by omega) (by omega) (fbt_z _).symm

abbrev rm_X4_asLikely : Room := { frames := 6, cells := 0, slots := 0, locals := 151 }
set_option maxHeartbeats 4000000 in
set_option maxRecDepth 100000 in
theorem c_X4_asLikely (lq : Launch) (D : va_G) (t : zT) (h hT hN hU hA hK hW hL hZ sg ev : Nat) (s : Nat → Nat) (hr hn ho : Nat) (b0 b1 b2 b3 b4 g0 g1 g2 g3 : Int32) (g4 g5 : Int64) (f1 f2 f3 : Nat → Int64) (sl sr : Nat → Nat) (e f : Int32) (hs : sOk s) (hev : 1 ≤ ev ∧ ev ≤ 9) (hsg : sg ≤ 6) (hsl : ∀ j, sl j ≤ 10 ∧ sr j ≤ 10) : Ct lq D t yX4_asLikely cX4_asLikely 4 (some .int) rm_X4_asLikely [.ref h, .int e, .int f] [eX4 h hT hN hU hA hK hW hL hZ (nI sg) (nI ev), eX0 hN (nI (s 0)) (nI (s 1)) (nI (s 2)) (nI (s 3)) (nI (s 4)), eX0 hU b0 b1 b2 b3 b4, eX3 hW hr hn ho g0 g1 g2 g3 g4 g5, eL t hr 33 f1, eL t hn 33 f2, eL t ho 11 f3, eI t hL 6 (nf sl), eI t hZ 6 (nf sr)] 0 0 (fun rv rw_ => ∃ (B0 : Int32) (B1 : Int32) (B2 : Int32) (B3 : Int32) (B4 : Int32) (hr2 : Nat) (hn2 : Nat) (G0 : Int32) (G1 : Int32) (G2 : Int32) (G3 : Int32) (G4 : Int64) (G5 : Int64) (F1 : Nat → Int64) (F2 : Nat → Int64) (F3 : Nat → Int64), rv = some (.int (an_likely (csn s ev sl sr sg) (dz 0 3 e) (dz 0 1 f))) ∧ rw_ = [eX4 h hT hN hU hA hK hW hL hZ (nI sg) (nI ev), eX0 hN (nI (s 0)) (nI (s 1)) (nI (s 2)) (nI (s 3)) (nI (s 4)), eX0 hU B0 B1 B2 B3 B4, eX3 hW hr2 hn2 ho G0 G1 G2 G3 G4 G5, eL t hr2 33 F1, eL t hn2 33 F2, eL t ho 11 F3, eI t hL 6 (nf sl), eI t hZ 6 (nf sr)]) := by
  refine Ct.of (by decide) (Nat.le_of_ble_eq_true rfl) (fun k X hRet => ?_)
  have X : zX D t k cX4_asLikely 4 RX4 "asLikely" rm_X4_asLikely lq := X
  refine z_eq (lv2 := [(0, .ref h), (1, .int e), (2, .int f)]) rfl rfl rfl ?_
  refine z_iload_n X (pc := 0) 1 dX4_asLikely_0 rfl ?_
  refine zc_S (as := [.int e]) X (pc := 1) (c_X4_isKind lq D t e ) tw_245 tw_247 tw_1 tw_246 [] rfl rfl dX4_asLikely_1 rfl zdX4_isKind ⟨rfl, rfl, Nat.le_of_ble_eq_true rfl, Nat.le_of_ble_eq_true rfl⟩ (Nat.le_of_ble_eq_true rfl) (Nat.zero_le _) (Nat.zero_le _) (fun v_1 w_2 hp_3 => ?_)
  obtain ⟨rfl, rfl⟩ := hp_3
  refine ⟨rfl, ?_⟩
  refine z_eq (ws2 := [eX4 h hT hN hU hA hK hW hL hZ (nI sg) (nI ev), eX0 hN (nI (s 0)) (nI (s 1)) (nI (s 2)) (nI (s 3)) (nI (s 4)), eX0 hU b0 b1 b2 b3 b4, eX3 hW hr hn ho g0 g1 g2 g3 g4 g5, eL t hr 33 f1, eL t hn 33 f2, eL t ho 11 f3, eI t hL 6 (nf sl), eI t hZ 6 (nf sr)]) (st2 := [.int (zb (nI 0 ≤ e ∧ e ≤ nI 3))]) rfl rfl rfl ?_
  refine z_if_eqB X (pc := 4) 14 dX4_asLikely_4 (by decide) (fun c_4 => ?_) (fun c_4 => ?_)
  · skip
    refine z_iconst X (pc := 14) (-1) dX4_asLikely_14 (by decide) ?_
    exact hRet.i dX4_asLikely_15 ⟨b0, b1, b2, b3, b4, hr, hn, g0, g1, g2, g3, g4, g5, f1, f2, f3, by rw [dz_bad (a := 0) (b := 3) c_4]; rfl, rfl⟩
  · skip
    refine z_iload_n X (pc := 7) 2 dX4_asLikely_7 rfl ?_
    refine zc_S (as := [.int f]) X (pc := 8) (c_X4_isPart lq D t f ) tw_462 tw_464 tw_1 tw_463 [] rfl rfl dX4_asLikely_8 rfl zdX4_isPart ⟨rfl, rfl, Nat.le_of_ble_eq_true rfl, Nat.le_of_ble_eq_true rfl⟩ (Nat.le_of_ble_eq_true rfl) (Nat.zero_le _) (Nat.zero_le _) (fun v_4 w_5 hp_6 => ?_)
    obtain ⟨rfl, rfl⟩ := hp_6
    refine ⟨rfl, ?_⟩
    refine z_eq (ws2 := [eX4 h hT hN hU hA hK hW hL hZ (nI sg) (nI ev), eX0 hN (nI (s 0)) (nI (s 1)) (nI (s 2)) (nI (s 3)) (nI (s 4)), eX0 hU b0 b1 b2 b3 b4, eX3 hW hr hn ho g0 g1 g2 g3 g4 g5, eL t hr 33 f1, eL t hn 33 f2, eL t ho 11 f3, eI t hL 6 (nf sl), eI t hZ 6 (nf sr)]) (st2 := [.int (zb (nI 0 ≤ f ∧ f ≤ nI 1))]) rfl rfl rfl ?_
    refine z_if_neB X (pc := 11) 16 dX4_asLikely_11 (by decide) (fun c_11 => ?_) (fun c_11 => ?_)
    · skip
      obtain ⟨kd, kd_lo, kd_hi, rfl⟩ := inR (by decide) (by decide) c_4
      obtain ⟨wt, wt_lo, wt_hi, rfl⟩ := inR (by decide) (by decide) c_11
      refine z_aload_n X (pc := 16) 0 dX4_asLikely_16 rfl ?_
      refine z_iload_n X (pc := 17) 1 dX4_asLikely_17 rfl ?_
      refine zc_V (as := [.int (nI kd)]) X (pc := 18) (c_X4_likeliestQuarters lq D t h hT hN hU hA hK hW hL hZ sg ev s hr hn ho b0 b1 b2 b3 b4 g0 g1 g2 g3 g4 g5 f1 f2 f3 sl sr kd hs (by omega) hev hsg hsl) tw_481 tw_484 tw_1 tw_483 tw_1018 0 4 rfl rfl [0, 1, 2, 3, 4, 5, 6, 7, 8] rfl rfl dX4_asLikely_18 rfl zdX4_likeliestQuarters ⟨rfl, rfl, Nat.le_of_ble_eq_true rfl, Nat.le_of_ble_eq_true rfl⟩ (Nat.le_of_ble_eq_true rfl) (Nat.zero_le _) (Nat.zero_le _) (fun v_7 w_8 hp_9 => ?_)
      obtain ⟨B0_10, B1_11, B2_12, B3_13, B4_14, hr2_15, hn2_16, G0_17, G1_18, G2_19, G3_20, G4_21, G5_22, F1_23, F2_24, F3_25, rfl, rfl⟩ := hp_9
      refine ⟨rfl, ?_⟩
      refine z_eq (ws2 := [eX4 h hT hN hU hA hK hW hL hZ (nI sg) (nI ev), eX0 hN (nI (s 0)) (nI (s 1)) (nI (s 2)) (nI (s 3)) (nI (s 4)), eX0 hU B0_10 B1_11 B2_12 B3_13 B4_14, eX3 hW hr2_15 hn2_16 ho G0_17 G1_18 G2_19 G3_20 G4_21 G5_22, eL t hr2_15 33 F1_23, eL t hn2_16 33 F2_24, eL t ho 11 F3_25, eI t hL 6 (nf sl), eI t hZ 6 (nf sr)]) (st2 := [.int (oI (lqt (csn s ev sl sr sg kd) 5).1)]) rfl rfl rfl ?_
      cases hq : (lqt (csn s ev sl sr sg kd) 5).1 with
      | none =>
        refine z_topi (-1) rfl ?_
        refine z_istore_n X (pc := 21) (i := 3) [(3, .int (-1)), (0, .ref h), (1, .int (nI kd)), (2, .int (nI wt))] dX4_asLikely_21 rfl (by decide) rfl ?_
        refine z_iload_n X (pc := 22) 0 dX4_asLikely_22 rfl ?_
        refine z_if_ge X (pc := 23) 29 dX4_asLikely_23 (by decide) (fun c_23 => absurd c_23 (by decide)) (fun c_23 => ?_)
        refine z_bipush X (pc := 26) (-4) dX4_asLikely_26 (by decide) ?_
        exact hRet.i dX4_asLikely_28 ⟨B0_10, B1_11, B2_12, B3_13, B4_14, hr2_15, hn2_16, G0_17, G1_18, G2_19, G3_20, G4_21, G5_22, F1_23, F2_24, F3_25, by rw [dz_ok (j := kd) (a := 0) (b := 3) (by decide) kd_lo kd_hi, dz_ok (j := wt) (a := 0) (b := 1) (by decide) wt_lo wt_hi]; simp only [an_likely, hq], rfl⟩
      | some x9 =>
        have hx9 := lqt_lt hq
        refine z_topi (nI x9) rfl ?_
        refine z_istore_n X (pc := 21) (i := 3) [(3, .int (nI x9)), (0, .ref h), (1, .int (nI kd)), (2, .int (nI wt))] dX4_asLikely_21 rfl (by decide) rfl ?_
        refine z_iload_n X (pc := 22) 0 dX4_asLikely_22 rfl ?_
        refine z_if_geN X (pc := 23) 29 (by omega) dX4_asLikely_23 (by decide) ?_
        refine z_iload_n X (pc := 29) 3 dX4_asLikely_29 rfl ?_
        refine z_if_neN X (pc := 30) 37 (by omega) dX4_asLikely_30 (by decide) (fun c_30 => ?_) (fun c_30 => ?_)
        · skip
          refine z_aload_n X (pc := 37) 1 dX4_asLikely_37 rfl ?_
          refine z_iload_n X (pc := 38) 2 dX4_asLikely_38 rfl ?_
          refine z_iload_n X (pc := 39) 0 dX4_asLikely_39 rfl ?_
          refine zc_V (as := [.int (nI kd), .int (nI x9)]) X (pc := 40) (c_X4_chanceOfSeen lq D t h hT hN hU hA hK hW hL hZ sg ev s hr2_15 hn2_16 ho B0_10 B1_11 B2_12 B3_13 B4_14 G0_17 G1_18 G2_19 G3_20 G4_21 G5_22 F1_23 F2_24 F3_25 sl sr kd x9 hs (by omega) (by omega) hev hsg hsl) tw_485 tw_488 tw_1 tw_487 tw_1019 0 4 rfl rfl [0, 1, 2, 3, 4, 5, 6, 7, 8] rfl rfl dX4_asLikely_40 rfl zdX4_chanceOfSeen ⟨rfl, rfl, Nat.le_of_ble_eq_true rfl, Nat.le_of_ble_eq_true rfl⟩ (Nat.le_of_ble_eq_true rfl) (Nat.zero_le _) (Nat.zero_le _) (fun v_26 w_27 hp_28 => ?_)
          obtain ⟨B0_29, B1_30, B2_31, B3_32, B4_33, hr2_34, hn2_35, G0_36, G1_37, G2_38, G3_39, G4_40, G5_41, F1_42, F2_43, F3_44, rfl, rfl⟩ := hp_28
          refine ⟨rfl, ?_⟩
          refine z_eq (ws2 := [eX4 h hT hN hU hA hK hW hL hZ (nI sg) (nI ev), eX0 hN (nI (s 0)) (nI (s 1)) (nI (s 2)) (nI (s 3)) (nI (s 4)), eX0 hU B0_29 B1_30 B2_31 B3_32 B4_33, eX3 hW hr2_34 hn2_35 ho G0_36 G1_37 G2_38 G3_39 G4_40 G5_41, eL t hr2_34 33 F1_42, eL t hn2_35 33 F2_43, eL t ho 11 F3_44, eI t hL 6 (nf sl), eI t hZ 6 (nf sr)]) (st2 := [.long (lN (csn s ev sl sr sg kd x9))]) rfl rfl rfl ?_
          refine zc_S (as := [.long (lN (csn s ev sl sr sg kd x9))]) X (pc := 43) (c_X4_tenThousandthsN lq D t (csn s ev sl sr sg kd x9) (csn_le _ _ _ _ _ _ _)) tw_408 tw_410 tw_1 tw_409 [] rfl rfl dX4_asLikely_43 rfl zdX4_tenThousandths ⟨rfl, rfl, Nat.le_of_ble_eq_true rfl, Nat.le_of_ble_eq_true rfl⟩ (Nat.le_of_ble_eq_true rfl) (Nat.zero_le _) (Nat.zero_le _) (fun v_45 w_46 hp_47 => ?_)
          obtain ⟨rfl, rfl⟩ := hp_47
          refine ⟨rfl, ?_⟩
          refine z_eq (ws2 := [eX4 h hT hN hU hA hK hW hL hZ (nI sg) (nI ev), eX0 hN (nI (s 0)) (nI (s 1)) (nI (s 2)) (nI (s 3)) (nI (s 4)), eX0 hU B0_29 B1_30 B2_31 B3_32 B4_33, eX3 hW hr2_34 hn2_35 ho G0_36 G1_37 G2_38 G3_39 G4_40 G5_41, eL t hr2_34 33 F1_42, eL t hn2_35 33 F2_43, eL t ho 11 F3_44, eI t hL 6 (nf sl), eI t hZ 6 (nf sr)]) (st2 := [.int (nI ((csn s ev sl sr sg kd x9) * 10000 / 4398046511104))]) rfl rfl rfl ?_
          exact hRet.i dX4_asLikely_46 ⟨B0_29, B1_30, B2_31, B3_32, B4_33, hr2_34, hn2_35, G0_36, G1_37, G2_38, G3_39, G4_40, G5_41, F1_42, F2_43, F3_44, by rw [dz_ok (j := kd) (a := 0) (b := 3) (by decide) kd_lo kd_hi, dz_ok (j := wt) (a := 0) (b := 1) (by decide) wt_lo wt_hi]; simp only [an_likely, hq, if_neg c_30], rfl⟩
        · skip
          refine z_iload_n X (pc := 33) 0 dX4_asLikely_33 rfl ?_
          refine z_goto X (pc := 34) 46 dX4_asLikely_34 (by decide) ?_
          exact hRet.i dX4_asLikely_46 ⟨B0_10, B1_11, B2_12, B3_13, B4_14, hr2_15, hn2_16, G0_17, G1_18, G2_19, G3_20, G4_21, G5_22, F1_23, F2_24, F3_25, by rw [dz_ok (j := kd) (a := 0) (b := 3) (by decide) kd_lo kd_hi, dz_ok (j := wt) (a := 0) (b := 1) (by decide) wt_lo wt_hi]; simp only [an_likely, hq, if_pos c_30], rfl⟩
    · skip
      refine z_iconst X (pc := 14) (-1) dX4_asLikely_14 (by decide) ?_
      exact hRet.i dX4_asLikely_15 ⟨b0, b1, b2, b3, b4, hr, hn, g0, g1, g2, g3, g4, g5, f1, f2, f3, by rw [dz_bad (a := 0) (b := 1) c_11]; cases dz 0 3 e <;> rfl, rfl⟩

abbrev rm_X4_drawOf : Room := { frames := 0, cells := 0, slots := 0, locals := 0 }
set_option maxHeartbeats 4000000 in
set_option maxRecDepth 100000 in
theorem c_X4_drawOf (lq : Launch) (D : va_G) (t : zT) (z k_ : Nat) (hz : z ≤ 9999) (hk : k_ ≤ 100) : Ct lq D t yX4_drawOf cX4_drawOf 4 (some .int) rm_X4_drawOf [.int (nI z), .int (nI k_)] [] 0 0 (fun rv rw_ => rv = some (.int (nI (drw z k_))) ∧ rw_ = []) := by
  refine Ct.of (by decide) (Nat.le_of_ble_eq_true rfl) (fun k X hRet => ?_)
  have X : zX D t k cX4_drawOf 4 RX4 "drawOf" rm_X4_drawOf lq := X
  refine z_eq (lv2 := [(0, .int (nI z)), (1, .int (nI k_))]) rfl rfl rfl ?_
  refine z_ldc2 X (pc := 0) (7919) dX4_drawOf_0 tw_528 ?_
  refine z_topl (lN 7919) rfl ?_
  refine z_iload_n X (pc := 3) 0 dX4_drawOf_3 rfl ?_
  refine z_i2l X (pc := 4) (v := (lN z)) dX4_drawOf_4 (nI_l (by omega)) ?_
  refine z_lmul X (pc := 5) (v := (lN (7919 * z))) dX4_drawOf_5 (lN_mul _ _) ?_
  refine z_ldc2 X (pc := 6) (6151) dX4_drawOf_6 tw_529 ?_
  refine z_topl (lN 6151) rfl ?_
  refine z_iload_n X (pc := 9) 1 dX4_drawOf_9 rfl ?_
  refine z_i2l X (pc := 10) (v := (lN k_)) dX4_drawOf_10 (nI_l (by omega)) ?_
  refine z_lmul X (pc := 11) (v := (lN (6151 * k_))) dX4_drawOf_11 (lN_mul _ _) ?_
  refine z_ladd X (pc := 12) (v := (lN (7919 * z + (6151 * k_)))) dX4_drawOf_12 (lN_add (7919 * z) (6151 * k_)) ?_
  refine z_lconst X (pc := 13) (lN 1) dX4_drawOf_13 (by decide) ?_
  refine z_ladd X (pc := 14) (v := (lN (7919 * z + (6151 * k_) + 1))) dX4_drawOf_14 (lN_add (7919 * z + (6151 * k_)) 1) ?_
  have hxx : (7919 * z + 6151 * k_ + 1) * (7919 * z + 6151 * k_ + 1) ≤ 100000000 * 100000000 := Nat.mul_le_mul (by omega) (by omega)
  refine z_lstore_n X (pc := 15) (i := 2) [(2, .long (lN (7919 * z + (6151 * k_) + 1))), (0, .int (nI z)), (1, .int (nI k_))] dX4_drawOf_15 rfl (by decide) rfl ?_
  refine z_lload_n X (pc := 16) 0 dX4_drawOf_16 rfl ?_
  refine z_lload_n X (pc := 17) 0 dX4_drawOf_17 rfl ?_
  refine z_lmul X (pc := 18) (v := (lN ((7919 * z + (6151 * k_) + 1) * (7919 * z + (6151 * k_) + 1)))) dX4_drawOf_18 (lN_mul _ _) ?_
  refine z_ldc2 X (pc := 19) (65521) dX4_drawOf_19 tw_530 ?_
  refine z_topl (lN 65521) rfl ?_
  refine z_lrem X (pc := 22) (v := (lN (((7919 * z + (6151 * k_) + 1) * (7919 * z + (6151 * k_) + 1)) % 65521))) dX4_drawOf_22 (by decide) (pk_lRem (by omega) (by omega) (by omega)) ?_
  refine z_ldc2 X (pc := 23) (8) dX4_drawOf_23 tw_531 ?_
  refine z_topl (lN 8) rfl ?_
  refine z_ldiv X (pc := 26) (v := (lN ((((7919 * z + (6151 * k_) + 1) * (7919 * z + (6151 * k_) + 1)) % 65521) / 8))) dX4_drawOf_26 (by decide) (pk_lDiv (by omega) (by omega) (by omega)) ?_
  refine z_l2i X (pc := 27) (v := (nI ((((7919 * z + (6151 * k_) + 1) * (7919 * z + (6151 * k_) + 1)) % 65521) / 8))) dX4_drawOf_27 (lN_i _) ?_
  exact hRet.i dX4_drawOf_28 ⟨rfl, rfl⟩

abbrev rm_X4_coat : Room := { frames := 3, cells := 0, slots := 0, locals := 66 }
set_option maxHeartbeats 4000000 in
set_option maxRecDepth 100000 in
theorem c_X4_coat (lq : Launch) (D : va_G) (t : zT) (h hT hN hU hA hK hW hL hZ sg ev : Nat) (s : Nat → Nat) (b0 b1 b2 b3 b4 : Int32) (e1 e2 e3 : Int32) (hs : sOk s) : Ct lq D t yX4_coat cX4_coat 7 (some .int) rm_X4_coat [.ref h, .int e1, .int e2, .int e3] [eX4 h hT hN hU hA hK hW hL hZ (nI sg) (nI ev), eX0 hN (nI (s 0)) (nI (s 1)) (nI (s 2)) (nI (s 3)) (nI (s 4)), eX0 hU b0 b1 b2 b3 b4] 0 0 (fun rv rw_ => ∃ (B0 : Int32) (B1 : Int32) (B2 : Int32) (B3 : Int32) (B4 : Int32), rv = some (.int (an_coat s (dz 0 9999 e1) (dz 1 60 e2) (dz 0 1 e3))) ∧ rw_ = [eX4 h hT hN hU hA hK hW hL hZ (nI sg) (nI ev), eX0 hN (nI (s 0)) (nI (s 1)) (nI (s 2)) (nI (s 3)) (nI (s 4)), eX0 hU B0 B1 B2 B3 B4]) := by
  refine Ct.of (by decide) (Nat.le_of_ble_eq_true rfl) (fun k X hRet => ?_)
  have X : zX D t k cX4_coat 7 RX4 "coat" rm_X4_coat lq := X
  refine z_eq (lv2 := [(0, .ref h), (1, .int e1), (2, .int e2), (3, .int e3)]) rfl rfl rfl ?_
  have hsk := hs
  obtain ⟨hs0, hs1, hs2, hs3, hs4⟩ := hs
  refine z_iload_n X (pc := 0) 1 dX4_coat_0 rfl ?_
  refine z_iconst X (pc := 1) (nI 0) dX4_coat_1 (by decide) ?_
  refine z_sipush X (pc := 2) (nI 9999) dX4_coat_2 (by decide) ?_
  refine zc_S (as := [.int e1, .int (nI 0), .int (nI 9999)]) X (pc := 5) (c_X4_within lq D t e1 (nI 0) (nI 9999) ) tw_180 tw_182 tw_1 tw_181 [] rfl rfl dX4_coat_5 rfl zdX4_within ⟨rfl, rfl, Nat.le_of_ble_eq_true rfl, Nat.le_of_ble_eq_true rfl⟩ (Nat.le_of_ble_eq_true rfl) (Nat.zero_le _) (Nat.zero_le _) (fun v_1 w_2 hp_3 => ?_)
  obtain ⟨rfl, rfl⟩ := hp_3
  refine ⟨rfl, ?_⟩
  refine z_eq (ws2 := [eX4 h hT hN hU hA hK hW hL hZ (nI sg) (nI ev), eX0 hN (nI (s 0)) (nI (s 1)) (nI (s 2)) (nI (s 3)) (nI (s 4)), eX0 hU b0 b1 b2 b3 b4]) (st2 := [.int (zb ((nI 0) ≤ e1 ∧ e1 ≤ (nI 9999)))]) rfl rfl rfl ?_
  refine z_if_eqB X (pc := 8) 28 dX4_coat_8 (by decide) (fun c_8 => ?_) (fun c_8 => ?_)
  · skip
    refine z_iconst X (pc := 28) (-1) dX4_coat_28 (by decide) ?_
    exact hRet.i dX4_coat_29 ⟨b0, b1, b2, b3, b4, by rw [dz_bad (a := 0) (b := 9999) c_8]; rfl, rfl⟩
  · skip
    refine z_iload_n X (pc := 11) 2 dX4_coat_11 rfl ?_
    refine z_iconst X (pc := 12) (nI 1) dX4_coat_12 (by decide) ?_
    refine z_bipush X (pc := 13) (nI 60) dX4_coat_13 (by decide) ?_
    refine zc_S (as := [.int e2, .int (nI 1), .int (nI 60)]) X (pc := 15) (c_X4_within lq D t e2 (nI 1) (nI 60) ) tw_180 tw_182 tw_1 tw_181 [] rfl rfl dX4_coat_15 rfl zdX4_within ⟨rfl, rfl, Nat.le_of_ble_eq_true rfl, Nat.le_of_ble_eq_true rfl⟩ (Nat.le_of_ble_eq_true rfl) (Nat.zero_le _) (Nat.zero_le _) (fun v_4 w_5 hp_6 => ?_)
    obtain ⟨rfl, rfl⟩ := hp_6
    refine ⟨rfl, ?_⟩
    refine z_eq (ws2 := [eX4 h hT hN hU hA hK hW hL hZ (nI sg) (nI ev), eX0 hN (nI (s 0)) (nI (s 1)) (nI (s 2)) (nI (s 3)) (nI (s 4)), eX0 hU b0 b1 b2 b3 b4]) (st2 := [.int (zb ((nI 1) ≤ e2 ∧ e2 ≤ (nI 60)))]) rfl rfl rfl ?_
    refine z_if_eqB X (pc := 18) 28 dX4_coat_18 (by decide) (fun c_18 => ?_) (fun c_18 => ?_)
    · skip
      refine z_iconst X (pc := 28) (-1) dX4_coat_28 (by decide) ?_
      exact hRet.i dX4_coat_29 ⟨b0, b1, b2, b3, b4, by rw [dz_bad (a := 1) (b := 60) c_18]; cases dz 0 9999 e1 <;> rfl, rfl⟩
    · skip
      refine z_iload_n X (pc := 21) 3 dX4_coat_21 rfl ?_
      refine zc_S (as := [.int e3]) X (pc := 22) (c_X4_isPart lq D t e3 ) tw_462 tw_464 tw_1 tw_463 [] rfl rfl dX4_coat_22 rfl zdX4_isPart ⟨rfl, rfl, Nat.le_of_ble_eq_true rfl, Nat.le_of_ble_eq_true rfl⟩ (Nat.le_of_ble_eq_true rfl) (Nat.zero_le _) (Nat.zero_le _) (fun v_7 w_8 hp_9 => ?_)
      obtain ⟨rfl, rfl⟩ := hp_9
      refine ⟨rfl, ?_⟩
      refine z_eq (ws2 := [eX4 h hT hN hU hA hK hW hL hZ (nI sg) (nI ev), eX0 hN (nI (s 0)) (nI (s 1)) (nI (s 2)) (nI (s 3)) (nI (s 4)), eX0 hU b0 b1 b2 b3 b4]) (st2 := [.int (zb (nI 0 ≤ e3 ∧ e3 ≤ nI 1))]) rfl rfl rfl ?_
      refine z_if_neB X (pc := 25) 30 dX4_coat_25 (by decide) (fun c_25 => ?_) (fun c_25 => ?_)
      · skip
        obtain ⟨z, z_lo, z_hi, rfl⟩ := inR (by decide) (by decide) c_8
        obtain ⟨n, n_lo, n_hi, rfl⟩ := inR (by decide) (by decide) c_18
        obtain ⟨wt, wt_lo, wt_hi, rfl⟩ := inR (by decide) (by decide) c_25
        refine z_aload_n X (pc := 30) 0 dX4_coat_30 rfl ?_
        refine z_get X (pc := 31) 0 2 (.ref hU) tu_4 tw_146 dX4_coat_31 rfl rfl (by decide) rfl rfl ?_
        refine z_aload_n X (pc := 34) 0 dX4_coat_34 rfl ?_
        refine z_get X (pc := 35) 0 1 (.ref hN) tu_4 tw_145 dX4_coat_35 rfl rfl (by decide) rfl rfl ?_
        refine zc_V (as := [.ref hN]) X (pc := 38) (c_X0_copyFrom lq D t hU hN b0 b1 b2 b3 b4 (nI (s 0)) (nI (s 1)) (nI (s 2)) (nI (s 3)) (nI (s 4)) ) tw_267 tw_270 tw_3 tw_268 tw_269 0 0 rfl rfl [2, 1] rfl rfl dX4_coat_38 rfl zdX0_copyFrom ⟨rfl, rfl, Nat.le_of_ble_eq_true rfl, Nat.le_of_ble_eq_true rfl⟩ (Nat.le_of_ble_eq_true rfl) (Nat.zero_le _) (Nat.zero_le _) (fun v_10 w_11 hp_12 => ?_)
        obtain ⟨rfl, rfl⟩ := hp_12
        refine ⟨rfl, ?_⟩
        refine z_eq (ws2 := [eX4 h hT hN hU hA hK hW hL hZ (nI sg) (nI ev), eX0 hN (nI (s 0)) (nI (s 1)) (nI (s 2)) (nI (s 3)) (nI (s 4)), eX0 hU (nI (s 0)) (nI (s 1)) (nI (s 2)) (nI (s 3)) (nI (s 4))]) (st2 := []) rfl rfl rfl ?_
        refine z_iconst X (pc := 41) (nI 0) dX4_coat_41 (by decide) ?_
        refine z_istore X (pc := 42) (i := 4) [(4, .int (nI 0)), (0, .ref h), (1, .int (nI z)), (2, .int (nI n)), (3, .int (nI wt))] dX4_coat_42 trivial (by decide) rfl ?_
        refine z_iconst X (pc := 44) (nI 0) dX4_coat_44 (by decide) ?_
        refine z_istore X (pc := 45) (i := 5) [(5, .int (nI 0)), (4, .int (nI 0)), (0, .ref h), (1, .int (nI z)), (2, .int (nI n)), (3, .int (nI wt))] dX4_coat_45 trivial (by decide) rfl ?_
        have loop_47 : ∀ (fuel_47 : Nat) (k_ : Nat) (p : Nat × Nat × Nat × Nat), n < k_ + fuel_47 → (k_ ≤ n) → (p = co s z k_) → Z D k (0, 0) [eX4 h hT hN hU hA hK hW hL hZ (nI sg) (nI ev), eX0 hN (nI (s 0)) (nI (s 1)) (nI (s 2)) (nI (s 3)) (nI (s 4)), eX0 hU (nI p.1) (nI p.2.1) (nI p.2.2.1) (nI (s 3)) (nI (s 4))] 47 [(0, .ref h), (1, .int (nI z)), (2, .int (nI n)), (3, .int (nI wt)), (4, .int (nI p.2.2.2)), (5, .int (nI k_))] [] := by
          intro fuel_47
          induction fuel_47 with
          | zero =>
            intro k_ p hfuel_47 hk hp
            exfalso; omega
          | succ fuel_47 ih_47 =>
            intro k_ p hfuel_47 hk hp
            have hpo := co_ok s hsk z k_
            rw [← hp] at hpo
            obtain ⟨hp1, hp2, hp3, hp4⟩ := hpo
            refine z_iload X (pc := 47) 5 dX4_coat_47 rfl ?_
            refine z_iload_n X (pc := 49) 2 dX4_coat_49 rfl ?_
            refine z_icmp_geN X (pc := 50) 110 (by omega) (by omega) dX4_coat_50 (by decide) (fun c_50 => ?_) (fun c_50 => ?_)
            · skip
              refine z_iload_n X (pc := 110) 3 dX4_coat_110 rfl ?_
              refine z_if_neN X (pc := 111) 119 (by omega) dX4_coat_111 (by decide) (fun c_111 => ?_) (fun c_111 => ?_)
              · skip
                refine z_aload_n X (pc := 119) 0 dX4_coat_119 rfl ?_
                refine z_get X (pc := 120) 0 2 (.ref hU) tu_4 tw_146 dX4_coat_120 rfl rfl (by decide) rfl rfl ?_
                refine zc_V (as := []) X (pc := 123) (c_X0_matches lq D t hU p.1 p.2.1 p.2.2.1 (s 3) (s 4) ) tw_275 tw_278 tw_3 tw_276 tw_277 0 0 rfl rfl [2] rfl rfl dX4_coat_123 rfl zdX0_matches ⟨rfl, rfl, Nat.le_of_ble_eq_true rfl, Nat.le_of_ble_eq_true rfl⟩ (Nat.le_of_ble_eq_true rfl) (Nat.zero_le _) (Nat.zero_le _) (fun v_13 w_14 hp_15 => ?_)
                obtain ⟨rfl, rfl⟩ := hp_15
                refine ⟨rfl, ?_⟩
                refine z_eq (ws2 := [eX4 h hT hN hU hA hK hW hL hZ (nI sg) (nI ev), eX0 hN (nI (s 0)) (nI (s 1)) (nI (s 2)) (nI (s 3)) (nI (s 4)), eX0 hU (nI p.1) (nI p.2.1) (nI p.2.2.1) (nI (s 3)) (nI (s 4))]) (st2 := [.int (nI (p.1 + p.2.1))]) rfl rfl rfl ?_
                exact hRet.i dX4_coat_126 ⟨(nI p.1), (nI p.2.1), (nI p.2.2.1), (nI (s 3)), (nI (s 4)), by rw [dz_ok (j := z) (a := 0) (b := 9999) (by decide) z_lo z_hi, dz_ok (j := n) (a := 1) (b := 60) (by decide) n_lo n_hi, dz_ok (j := wt) (a := 0) (b := 1) (by decide) wt_lo wt_hi]; simp only [an_coat, ← show k_ = n by omega, ← hp, if_neg c_111], rfl⟩
              · skip
                refine z_iload X (pc := 114) 4 dX4_coat_114 rfl ?_
                refine z_goto X (pc := 116) 126 dX4_coat_116 (by decide) ?_
                exact hRet.i dX4_coat_126 ⟨(nI p.1), (nI p.2.1), (nI p.2.2.1), (nI (s 3)), (nI (s 4)), by rw [dz_ok (j := z) (a := 0) (b := 9999) (by decide) z_lo z_hi, dz_ok (j := n) (a := 1) (b := 60) (by decide) n_lo n_hi, dz_ok (j := wt) (a := 0) (b := 1) (by decide) wt_lo wt_hi]; simp only [an_coat, ← show k_ = n by omega, ← hp, if_pos c_111], rfl⟩
            · skip
              refine z_iload_n X (pc := 53) 1 dX4_coat_53 rfl ?_
              refine z_iload X (pc := 54) 5 dX4_coat_54 rfl ?_
              refine zc_S (as := [.int (nI z), .int (nI k_)]) X (pc := 56) (c_X4_drawOf lq D t z k_ (by omega) (by omega)) tw_525 tw_527 tw_1 tw_526 [] rfl rfl dX4_coat_56 rfl zdX4_drawOf ⟨rfl, rfl, Nat.le_of_ble_eq_true rfl, Nat.le_of_ble_eq_true rfl⟩ (Nat.le_of_ble_eq_true rfl) (Nat.zero_le _) (Nat.zero_le _) (fun v_16 w_17 hp_18 => ?_)
              obtain ⟨rfl, rfl⟩ := hp_18
              refine ⟨rfl, ?_⟩
              refine z_eq (ws2 := [eX4 h hT hN hU hA hK hW hL hZ (nI sg) (nI ev), eX0 hN (nI (s 0)) (nI (s 1)) (nI (s 2)) (nI (s 3)) (nI (s 4)), eX0 hU (nI p.1) (nI p.2.1) (nI p.2.2.1) (nI (s 3)) (nI (s 4))]) (st2 := [.int (nI (drw z k_))]) rfl rfl rfl ?_
              refine z_iconst X (pc := 59) (nI 4) dX4_coat_59 (by decide) ?_
              refine z_irem X (pc := 60) (v := (nI ((drw z k_) % 4))) dX4_coat_60 (by decide) (pk_rem (by unfold drw; omega) (by omega) (by omega)) ?_
              refine z_aload_n X (pc := 61) 0 dX4_coat_61 rfl ?_
              refine z_get X (pc := 62) 0 2 (.ref hU) tu_4 tw_146 dX4_coat_62 rfl rfl (by decide) rfl rfl ?_
              refine zc_V (as := []) X (pc := 65) (c_X0_quartersToLeft lq D t hU p.1 p.2.1 p.2.2.1 (s 3) (s 4) hs3 hs4 (by omega) (by omega) (by omega)) tw_292 tw_295 tw_3 tw_293 tw_294 0 0 rfl rfl [2] rfl rfl dX4_coat_65 rfl zdX0_quartersToLeft ⟨rfl, rfl, Nat.le_of_ble_eq_true rfl, Nat.le_of_ble_eq_true rfl⟩ (Nat.le_of_ble_eq_true rfl) (Nat.zero_le _) (Nat.zero_le _) (fun v_19 w_20 hp_21 => ?_)
              obtain ⟨rfl, rfl⟩ := hp_21
              refine ⟨rfl, ?_⟩
              refine z_eq (ws2 := [eX4 h hT hN hU hA hK hW hL hZ (nI sg) (nI ev), eX0 hN (nI (s 0)) (nI (s 1)) (nI (s 2)) (nI (s 3)) (nI (s 4)), eX0 hU (nI p.1) (nI p.2.1) (nI p.2.2.1) (nI (s 3)) (nI (s 4))]) (st2 := [.int (nI (htl (s 3) (s 4) p.1 p.2.1 p.2.2.1)), .int (nI ((drw z k_) % 4))]) rfl rfl rfl ?_
              have hq4 := @htl_le (s 3) (s 4) p.1 p.2.1 p.2.2.1 hs4
              refine z_icmp_geN X (pc := 68) 75 (by omega) (by omega) dX4_coat_68 (by decide) (fun c_68 => ?_) (fun c_68 => ?_)
              · skip
                have hlt := Nat.not_lt.mpr c_68
                refine z_iconst X (pc := 75) (nI 1) dX4_coat_75 (by decide) ?_
                refine z_istore X (pc := 76) (i := 6) [(6, .int (nI 1)), (0, .ref h), (1, .int (nI z)), (2, .int (nI n)), (3, .int (nI wt)), (4, .int (nI p.2.2.2)), (5, .int (nI k_))] dX4_coat_76 trivial (by decide) rfl ?_
                refine z_aload_n X (pc := 78) 1 dX4_coat_78 rfl ?_
                refine z_get X (pc := 79) 0 2 (.ref hU) tu_4 tw_146 dX4_coat_79 rfl rfl (by decide) rfl rfl ?_
                refine z_iload X (pc := 82) 0 dX4_coat_82 rfl ?_
                refine zc_V (as := [.int (nI 1)]) X (pc := 84) (c_X0_draw lq D t hU p.1 p.2.1 p.2.2.1 (s 3) (s 4) 1 (by decide) (by omega) (by omega)) tw_320 tw_323 tw_3 tw_321 tw_322 0 0 rfl rfl [2] rfl rfl dX4_coat_84 rfl zdX0_draw ⟨rfl, rfl, Nat.le_of_ble_eq_true rfl, Nat.le_of_ble_eq_true rfl⟩ (Nat.le_of_ble_eq_true rfl) (Nat.zero_le _) (Nat.zero_le _) (fun v_22 w_23 hp_24 => ?_)
                obtain ⟨rfl, rfl⟩ := hp_24
                refine ⟨rfl, ?_⟩
                refine z_eq (ws2 := [eX4 h hT hN hU hA hK hW hL hZ (nI sg) (nI ev), eX0 hN (nI (s 0)) (nI (s 1)) (nI (s 2)) (nI (s 3)) (nI (s 4)), eX0 hU (nI p.1) (nI (p.2.1 - 1)) (nI 1) (nI (s 3)) (nI (s 4))]) (st2 := [.int (zb (¬ p.2.1 = 0))]) rfl rfl rfl ?_
                refine z_if_neB X (pc := 87) 104 dX4_coat_87 (by decide) (fun c_87 => ?_) (fun c_87 => ?_)
                · skip
                  refine z_iinc X (pc := 104) (i := 5) 6 (nI (k_ + 1)) [(5, .int (nI (k_ + 1))), (6, .int (nI 1)), (0, .ref h), (1, .int (nI z)), (2, .int (nI n)), (3, .int (nI wt)), (4, .int (nI p.2.2.2))] dX4_coat_104 rfl (nI_incc k_ 1) (by decide) rfl ?_
                  refine z_goto X (pc := 107) 47 dX4_coat_107 (by decide) ?_
                  have hem : ¬ p.2.1 = 0 := c_87
                  have hco : coS s z k_ p = (p.1, p.2.1 - 1, 1, p.2.2.2) := by unfold coS; rw [if_neg hlt]; simp only [if_neg hem]
                  refine z_eq (ws2 := [eX4 h hT hN hU hA hK hW hL hZ (nI sg) (nI ev), eX0 hN (nI (s 0)) (nI (s 1)) (nI (s 2)) (nI (s 3)) (nI (s 4)), eX0 hU (nI ((coS s z k_ p).1)) (nI ((coS s z k_ p).2.1)) (nI ((coS s z k_ p).2.2.1)) (nI (s 3)) (nI (s 4))]) (lv2 := [(5, .int (nI (k_ + 1))), (6, .int (nI 1)), (0, .ref h), (1, .int (nI z)), (2, .int (nI n)), (3, .int (nI wt)), (4, .int (nI ((coS s z k_ p).2.2.2)))]) (by rw [hco]) (by rw [hco]) rfl ?_
                  refine z_lv [2, 3, 4, 5, 6, 0] (lv2 := [(0, .ref h), (1, .int (nI z)), (2, .int (nI n)), (3, .int (nI wt)), (4, .int (nI ((coS s z k_ p).2.2.2))), (5, .int (nI (k_ + 1)))]) rfl ?_
                  exact ih_47 (k_ + 1) (coS s z k_ p) (by omega) (by omega) (by rw [hp, co_s])
                · skip
                  refine z_aload_n X (pc := 90) 1 dX4_coat_90 rfl ?_
                  refine z_get X (pc := 91) 0 2 (.ref hU) tu_4 tw_146 dX4_coat_91 rfl rfl (by decide) rfl rfl ?_
                  refine z_iload X (pc := 94) 0 dX4_coat_94 rfl ?_
                  refine z_bipush X (pc := 96) (nI 10) dX4_coat_96 (by decide) ?_
                  refine zc_V (as := [.int (nI 1), .int (nI 10)]) X (pc := 98) (c_X0_setBox lq D t hU p.1 (p.2.1 - 1) 1 (s 3) (s 4) 1 10 (by decide)) tw_336 tw_328 tw_3 tw_326 tw_327 0 0 rfl rfl [2] rfl rfl dX4_coat_98 rfl zdX0_setBox ⟨rfl, rfl, Nat.le_of_ble_eq_true rfl, Nat.le_of_ble_eq_true rfl⟩ (Nat.le_of_ble_eq_true rfl) (Nat.zero_le _) (Nat.zero_le _) (fun v_25 w_26 hp_27 => ?_)
                  obtain ⟨rfl, rfl⟩ := hp_27
                  refine ⟨rfl, ?_⟩
                  refine z_eq (ws2 := [eX4 h hT hN hU hA hK hW hL hZ (nI sg) (nI ev), eX0 hN (nI (s 0)) (nI (s 1)) (nI (s 2)) (nI (s 3)) (nI (s 4)), eX0 hU (nI p.1) (nI 10) (nI 1) (nI (s 3)) (nI (s 4))]) (st2 := []) rfl rfl rfl ?_
                  refine z_iinc X (pc := 101) (i := 4) 5 (nI (p.2.2.2 + 1)) [(4, .int (nI (p.2.2.2 + 1))), (6, .int (nI 1)), (0, .ref h), (1, .int (nI z)), (2, .int (nI n)), (3, .int (nI wt)), (5, .int (nI k_))] dX4_coat_101 rfl (nI_incc p.2.2.2 1) (by decide) rfl ?_
                  refine z_iinc X (pc := 104) (i := 5) 6 (nI (k_ + 1)) [(5, .int (nI (k_ + 1))), (4, .int (nI (p.2.2.2 + 1))), (6, .int (nI 1)), (0, .ref h), (1, .int (nI z)), (2, .int (nI n)), (3, .int (nI wt))] dX4_coat_104 rfl (nI_incc k_ 1) (by decide) rfl ?_
                  refine z_goto X (pc := 107) 47 dX4_coat_107 (by decide) ?_
                  have hem : p.2.1 = 0 := Decidable.not_not.mp c_87
                  have hco : coS s z k_ p = (p.1, 10, 1, p.2.2.2 + 1) := by unfold coS; rw [if_neg hlt]; simp only [if_pos hem]
                  refine z_eq (ws2 := [eX4 h hT hN hU hA hK hW hL hZ (nI sg) (nI ev), eX0 hN (nI (s 0)) (nI (s 1)) (nI (s 2)) (nI (s 3)) (nI (s 4)), eX0 hU (nI ((coS s z k_ p).1)) (nI ((coS s z k_ p).2.1)) (nI ((coS s z k_ p).2.2.1)) (nI (s 3)) (nI (s 4))]) (lv2 := [(5, .int (nI (k_ + 1))), (4, .int (nI ((coS s z k_ p).2.2.2))), (6, .int (nI 1)), (0, .ref h), (1, .int (nI z)), (2, .int (nI n)), (3, .int (nI wt))]) (by rw [hco]) (by rw [hco]) rfl ?_
                  refine z_lv [3, 4, 5, 6, 1, 0] (lv2 := [(0, .ref h), (1, .int (nI z)), (2, .int (nI n)), (3, .int (nI wt)), (4, .int (nI ((coS s z k_ p).2.2.2))), (5, .int (nI (k_ + 1)))]) rfl ?_
                  exact ih_47 (k_ + 1) (coS s z k_ p) (by omega) (by omega) (by rw [hp, co_s])
              · skip
                have hlt := Nat.not_le.mp c_68
                refine z_iconst X (pc := 71) (nI 0) dX4_coat_71 (by decide) ?_
                refine z_goto X (pc := 72) 76 dX4_coat_72 (by decide) ?_
                refine z_istore X (pc := 76) (i := 6) [(6, .int (nI 0)), (0, .ref h), (1, .int (nI z)), (2, .int (nI n)), (3, .int (nI wt)), (4, .int (nI p.2.2.2)), (5, .int (nI k_))] dX4_coat_76 trivial (by decide) rfl ?_
                refine z_aload_n X (pc := 78) 1 dX4_coat_78 rfl ?_
                refine z_get X (pc := 79) 0 2 (.ref hU) tu_4 tw_146 dX4_coat_79 rfl rfl (by decide) rfl rfl ?_
                refine z_iload X (pc := 82) 0 dX4_coat_82 rfl ?_
                refine zc_V (as := [.int (nI 0)]) X (pc := 84) (c_X0_draw lq D t hU p.1 p.2.1 p.2.2.1 (s 3) (s 4) 0 (by decide) (by omega) (by omega)) tw_320 tw_323 tw_3 tw_321 tw_322 0 0 rfl rfl [2] rfl rfl dX4_coat_84 rfl zdX0_draw ⟨rfl, rfl, Nat.le_of_ble_eq_true rfl, Nat.le_of_ble_eq_true rfl⟩ (Nat.le_of_ble_eq_true rfl) (Nat.zero_le _) (Nat.zero_le _) (fun v_28 w_29 hp_30 => ?_)
                obtain ⟨rfl, rfl⟩ := hp_30
                refine ⟨rfl, ?_⟩
                refine z_eq (ws2 := [eX4 h hT hN hU hA hK hW hL hZ (nI sg) (nI ev), eX0 hN (nI (s 0)) (nI (s 1)) (nI (s 2)) (nI (s 3)) (nI (s 4)), eX0 hU (nI (p.1 - 1)) (nI p.2.1) (nI 0) (nI (s 3)) (nI (s 4))]) (st2 := [.int (zb (¬ p.1 = 0))]) rfl rfl rfl ?_
                refine z_if_neB X (pc := 87) 104 dX4_coat_87 (by decide) (fun c_87 => ?_) (fun c_87 => ?_)
                · skip
                  refine z_iinc X (pc := 104) (i := 5) 6 (nI (k_ + 1)) [(5, .int (nI (k_ + 1))), (6, .int (nI 0)), (0, .ref h), (1, .int (nI z)), (2, .int (nI n)), (3, .int (nI wt)), (4, .int (nI p.2.2.2))] dX4_coat_104 rfl (nI_incc k_ 1) (by decide) rfl ?_
                  refine z_goto X (pc := 107) 47 dX4_coat_107 (by decide) ?_
                  have hem : ¬ p.1 = 0 := c_87
                  have hco : coS s z k_ p = (p.1 - 1, p.2.1, 0, p.2.2.2) := by unfold coS; rw [if_pos hlt]; simp only [if_neg hem]
                  refine z_eq (ws2 := [eX4 h hT hN hU hA hK hW hL hZ (nI sg) (nI ev), eX0 hN (nI (s 0)) (nI (s 1)) (nI (s 2)) (nI (s 3)) (nI (s 4)), eX0 hU (nI ((coS s z k_ p).1)) (nI ((coS s z k_ p).2.1)) (nI ((coS s z k_ p).2.2.1)) (nI (s 3)) (nI (s 4))]) (lv2 := [(5, .int (nI (k_ + 1))), (6, .int (nI 0)), (0, .ref h), (1, .int (nI z)), (2, .int (nI n)), (3, .int (nI wt)), (4, .int (nI ((coS s z k_ p).2.2.2)))]) (by rw [hco]) (by rw [hco]) rfl ?_
                  refine z_lv [2, 3, 4, 5, 6, 0] (lv2 := [(0, .ref h), (1, .int (nI z)), (2, .int (nI n)), (3, .int (nI wt)), (4, .int (nI ((coS s z k_ p).2.2.2))), (5, .int (nI (k_ + 1)))]) rfl ?_
                  exact ih_47 (k_ + 1) (coS s z k_ p) (by omega) (by omega) (by rw [hp, co_s])
                · skip
                  refine z_aload_n X (pc := 90) 1 dX4_coat_90 rfl ?_
                  refine z_get X (pc := 91) 0 2 (.ref hU) tu_4 tw_146 dX4_coat_91 rfl rfl (by decide) rfl rfl ?_
                  refine z_iload X (pc := 94) 0 dX4_coat_94 rfl ?_
                  refine z_bipush X (pc := 96) (nI 10) dX4_coat_96 (by decide) ?_
                  refine zc_V (as := [.int (nI 0), .int (nI 10)]) X (pc := 98) (c_X0_setBox lq D t hU (p.1 - 1) p.2.1 0 (s 3) (s 4) 0 10 (by decide)) tw_336 tw_328 tw_3 tw_326 tw_327 0 0 rfl rfl [2] rfl rfl dX4_coat_98 rfl zdX0_setBox ⟨rfl, rfl, Nat.le_of_ble_eq_true rfl, Nat.le_of_ble_eq_true rfl⟩ (Nat.le_of_ble_eq_true rfl) (Nat.zero_le _) (Nat.zero_le _) (fun v_31 w_32 hp_33 => ?_)
                  obtain ⟨rfl, rfl⟩ := hp_33
                  refine ⟨rfl, ?_⟩
                  refine z_eq (ws2 := [eX4 h hT hN hU hA hK hW hL hZ (nI sg) (nI ev), eX0 hN (nI (s 0)) (nI (s 1)) (nI (s 2)) (nI (s 3)) (nI (s 4)), eX0 hU (nI 10) (nI p.2.1) (nI 0) (nI (s 3)) (nI (s 4))]) (st2 := []) rfl rfl rfl ?_
                  refine z_iinc X (pc := 101) (i := 4) 5 (nI (p.2.2.2 + 1)) [(4, .int (nI (p.2.2.2 + 1))), (6, .int (nI 0)), (0, .ref h), (1, .int (nI z)), (2, .int (nI n)), (3, .int (nI wt)), (5, .int (nI k_))] dX4_coat_101 rfl (nI_incc p.2.2.2 1) (by decide) rfl ?_
                  refine z_iinc X (pc := 104) (i := 5) 6 (nI (k_ + 1)) [(5, .int (nI (k_ + 1))), (4, .int (nI (p.2.2.2 + 1))), (6, .int (nI 0)), (0, .ref h), (1, .int (nI z)), (2, .int (nI n)), (3, .int (nI wt))] dX4_coat_104 rfl (nI_incc k_ 1) (by decide) rfl ?_
                  refine z_goto X (pc := 107) 47 dX4_coat_107 (by decide) ?_
                  have hem : p.1 = 0 := Decidable.not_not.mp c_87
                  have hco : coS s z k_ p = (10, p.2.1, 0, p.2.2.2 + 1) := by unfold coS; rw [if_pos hlt]; simp only [if_pos hem]
                  refine z_eq (ws2 := [eX4 h hT hN hU hA hK hW hL hZ (nI sg) (nI ev), eX0 hN (nI (s 0)) (nI (s 1)) (nI (s 2)) (nI (s 3)) (nI (s 4)), eX0 hU (nI ((coS s z k_ p).1)) (nI ((coS s z k_ p).2.1)) (nI ((coS s z k_ p).2.2.1)) (nI (s 3)) (nI (s 4))]) (lv2 := [(5, .int (nI (k_ + 1))), (4, .int (nI ((coS s z k_ p).2.2.2))), (6, .int (nI 0)), (0, .ref h), (1, .int (nI z)), (2, .int (nI n)), (3, .int (nI wt))]) (by rw [hco]) (by rw [hco]) rfl ?_
                  refine z_lv [3, 4, 5, 6, 1, 0] (lv2 := [(0, .ref h), (1, .int (nI z)), (2, .int (nI n)), (3, .int (nI wt)), (4, .int (nI ((coS s z k_ p).2.2.2))), (5, .int (nI (k_ + 1)))]) rfl ?_
                  exact ih_47 (k_ + 1) (coS s z k_ p) (by omega) (by omega) (by rw [hp, co_s])
        refine z_eq (ws2 := [eX4 h hT hN hU hA hK hW hL hZ (nI sg) (nI ev), eX0 hN (nI (s 0)) (nI (s 1)) (nI (s 2)) (nI (s 3)) (nI (s 4)), eX0 hU (nI (((s 0, s 1, s 2, 0) : Nat × Nat × Nat × Nat).1)) (nI (((s 0, s 1, s 2, 0) : Nat × Nat × Nat × Nat).2.1)) (nI (((s 0, s 1, s 2, 0) : Nat × Nat × Nat × Nat).2.2.1)) (nI (s 3)) (nI (s 4))]) (lv2 := [(5, .int (nI 0)), (4, .int (nI (((s 0, s 1, s 2, 0) : Nat × Nat × Nat × Nat).2.2.2))), (0, .ref h), (1, .int (nI z)), (2, .int (nI n)), (3, .int (nI wt))]) rfl rfl rfl ?_
        refine z_lv [2, 3, 4, 5, 1, 0] (lv2 := [(0, .ref h), (1, .int (nI z)), (2, .int (nI n)), (3, .int (nI wt)), (4, .int (nI (((s 0, s 1, s 2, 0) : Nat × Nat × Nat × Nat).2.2.2))), (5, .int (nI 0))]) rfl ?_
        exact loop_47 (n + 1) 0 (s 0, s 1, s 2, 0) (by omega) (by omega) (co_z s z).symm
      · skip
        refine z_iconst X (pc := 28) (-1) dX4_coat_28 (by decide) ?_
        exact hRet.i dX4_coat_29 ⟨b0, b1, b2, b3, b4, by rw [dz_bad (a := 0) (b := 1) c_25]; cases dz 0 9999 e1 <;> cases dz 1 60 e2 <;> rfl, rfl⟩
