/-! PART 20: EitherPocket: worth, begin, over, better, evenings, coat, what was seen -/
theorem dead_of {w : Nat → Nat} (h : ¬ ∃ c, c < 33 ∧ w c ≠ 0) : ∀ c, c < 33 → w c = 0 := fun c hc => by
  rcases Nat.eq_zero_or_pos (w c) with z | z
  · exact z
  · exact absurd ⟨c, hc, by omega⟩ h
theorem bad4 {s : Nat → Nat} {a b c d : Option Nat} (h : a = none ∨ b = none ∨ c = none ∨ d = none) : an_better s a b c d = -1 := by
  rcases h with rfl | rfl | rfl | rfl
  · rfl
  · cases a <;> rfl
  · cases a <;> cases b <;> rfl
  · cases a <;> cases b <;> cases c <;> rfl
theorem ov_raw {a b k : Nat} (ha : a ≤ 10) (hb : b ≤ 10) (hk : k ≤ 10) (h : ¬ (k ≤ a ∧ b + k ≤ 10)) : ¬ ((nI 0 ≤ nI a - nI k ∧ nI a - nI k ≤ nI 10) ∧ (nI 0 ≤ nI (b + k) ∧ nI (b + k) ≤ nI 10)) := by
  intro z
  by_cases h1 : k ≤ a
  · have := (nI_leI (by omega) (by decide)).mp z.2.2
    omega
  · have h2 := pk_sneg (a := a) (b := k) (by omega) (by omega)
    have h3 : ¬ nI 0 ≤ nI a - nI k := by
      rw [nI_0]
      simp only [Int32.lt_iff_toInt_lt, Int32.le_iff_toInt_le, Int32.toInt_zero] at h2 ⊢
      omega
    exact h3 z.1.1
theorem ov_raw2 {a b k : Nat} (ha : a ≤ 10) (hb : b ≤ 10) (hk : k ≤ 10) (h : ¬ (k ≤ b ∧ a + k ≤ 10)) : ¬ ((nI 0 ≤ nI (a + k) ∧ nI (a + k) ≤ nI 10) ∧ (nI 0 ≤ nI b - nI k ∧ nI b - nI k ≤ nI 10)) := fun z => ov_raw hb ha hk h ⟨z.2, z.1⟩
theorem m1_lt (n : Nat) (h : n < 2 ^ 63) : ¬ lN n ≤ (-1 : Int64) := by
  rw [Int64.le_iff_toInt_le, pk_lT h]
  have : ((-1 : Int64)).toInt = -1 := by decide
  omega
theorem m1_le (n : Nat) (h : n < 2 ^ 63) : (-1 : Int64) ≤ lN n := by
  rw [Int64.le_iff_toInt_le, pk_lT h]
  have : ((-1 : Int64)).toInt = -1 := by decide
  omega
theorem bg_raw {t l : Nat} (ht : t ≤ 20) (hl : l ≤ 10) : (nI 0 ≤ nI t - nI l ∧ nI t - nI l ≤ nI 10) ↔ (l ≤ t ∧ t - l ≤ 10) := by
  by_cases h1 : l ≤ t
  · rw [pk_sub h1, nI_leI (by decide) (by omega), nI_leI (by omega) (by decide)]
    omega
  · have h2 := pk_sneg (a := t) (b := l) (by omega) (by omega)
    constructor
    · intro z
      have h3 : ¬ nI 0 ≤ nI t - nI l := by
        rw [nI_0]
        simp only [Int32.lt_iff_toInt_lt, Int32.le_iff_toInt_le, Int32.toInt_zero] at h2 ⊢
        omega
      exact absurd z.1 h3
    · intro z; exact absurd z.1 h1
theorem bge_le {s : Nat → Nat} (hs : sOk s) {t n l : Nat} (hl : l ≤ 10) (ht : t - l ≤ 10) : bge s t n l ≤ 4398046511104 := rn_e hs.2.2.2.2 hl ht hs.2.2.1
theorem bgn_le {s : Nat → Nat} (hs : sOk s) {t n : Nat} : ∀ {l : Nat}, l ≤ 11 → ∀ p, bgn s t n l = some p → p.1 ≤ 10 ∧ p.2 ≤ 4398046511104
  | 0, _, p, h => by rw [bgn_z] at h; cases h
  | l + 1, hl, p, h => by
    rw [bgn_s] at h
    split at h
    · rename_i hv
      have hb := bge_le hs (t := t) (n := n) (l := l) (by omega) hv.2
      unfold bgS at h
      split at h
      · cases h; exact ⟨by show l ≤ 10; omega, hb⟩
      · rename_i q hq
        split at h
        · cases h; exact ⟨by show l ≤ 10; omega, hb⟩
        · cases h; exact bgn_le hs (by omega) _ hq
    · exact bgn_le hs (by omega) _ h
theorem bgn_some {s : Nat → Nat} {t n : Nat} : ∀ {l j : Nat}, j < l → j ≤ t ∧ t - j ≤ 10 → ∃ p, bgn s t n l = some p
  | 0, j, h, _ => absurd h (Nat.not_lt_zero j)
  | l + 1, j, h, hj => by
    rw [bgn_s]
    split
    · unfold bgS
      split
      · exact ⟨_, rfl⟩
      · split <;> exact ⟨_, rfl⟩
    · rename_i hv
      rcases Nat.lt_or_ge j l with q | q
      · exact bgn_some q hj
      · rw [show j = l by omega] at hj; exact absurd hj hv
/-- how BEGIN's best is held: 0 and -1 while there is none -/
def bgB (o : Option (Nat × Nat)) : Nat := match o with
  | none => 0
  | some p => p.1
def bgC (o : Option (Nat × Nat)) : Int64 := match o with
  | none => -1
  | some p => lN (4398046511104 - p.2)
theorem bg_step {o : Option (Nat × Nat)} {l e : Nat} (ho : ∀ p, o = some p → p.2 ≤ 4398046511104) (he : e ≤ 4398046511104) :
    (lN (4398046511104 - e) ≤ bgC o → bgS o l e = o) ∧ (¬ lN (4398046511104 - e) ≤ bgC o → bgS o l e = some (l, e)) := by
  cases o with
  | none => exact ⟨fun h => absurd h (m1_lt _ (by omega)), fun _ => rfl⟩
  | some p =>
    have hp := ho p rfl
    refine ⟨fun h => ?_, fun h => ?_⟩
    · have := (pk_lLE (by omega) (by omega)).mp h
      exact if_neg (by omega)
    · have : ¬ 4398046511104 - e ≤ 4398046511104 - p.2 := fun z => h ((pk_lLE (by omega) (by omega)).mpr z)
      exact if_pos (by omega)
abbrev rm_X4_worth : Room := { frames := 5, cells := 0, slots := 0, locals := 124 }
set_option maxHeartbeats 4000000 in
set_option maxRecDepth 100000 in
theorem c_X4_worth (lq : Launch) (D : va_G) (t : zT) (h hT hN hU hA hK hW hL hZ sg ev : Nat) (s : Nat → Nat) (hr hn ho : Nat) (b0 b1 b2 b3 b4 g0 g1 g2 g3 : Int32) (g4 g5 : Int64) (f1 f2 f3 : Nat → Int64) (e : Int32) (hs : sOk s) : Ct lq D t yX4_worth cX4_worth 6 (some .int) rm_X4_worth [.ref h, .int e] [eX4 h hT hN hU hA hK hW hL hZ (nI sg) (nI ev), eX0 hN (nI (s 0)) (nI (s 1)) (nI (s 2)) (nI (s 3)) (nI (s 4)), eX0 hU b0 b1 b2 b3 b4, eX3 hW hr hn ho g0 g1 g2 g3 g4 g5, eL t hr 33 f1, eL t hn 33 f2, eL t ho 11 f3] 0 0 (fun rv rw_ => ∃ (B0 : Int32) (B1 : Int32) (B2 : Int32) (B3 : Int32) (B4 : Int32) (hr2 : Nat) (hn2 : Nat) (G0 : Int32) (G1 : Int32) (G2 : Int32) (G3 : Int32) (G4 : Int64) (G5 : Int64) (F1 : Nat → Int64) (F2 : Nat → Int64) (F3 : Nat → Int64), rv = some (.int (an_worth s (dz 0 1 e))) ∧ rw_ = [eX4 h hT hN hU hA hK hW hL hZ (nI sg) (nI ev), eX0 hN (nI (s 0)) (nI (s 1)) (nI (s 2)) (nI (s 3)) (nI (s 4)), eX0 hU B0 B1 B2 B3 B4, eX3 hW hr2 hn2 ho G0 G1 G2 G3 G4 G5, eL t hr2 33 F1, eL t hn2 33 F2, eL t ho 11 F3]) := by
  refine Ct.of (by decide) (Nat.le_of_ble_eq_true rfl) (fun k X hRet => ?_)
  have X : zX D t k cX4_worth 6 RX4 "worth" rm_X4_worth lq := X
  refine z_eq (lv2 := [(0, .ref h), (1, .int e)]) rfl rfl rfl ?_
  have hsk := hs
  obtain ⟨hs0, hs1, hs2, hs3, hs4⟩ := hs
  refine z_iload_n X (pc := 0) 1 dX4_worth_0 rfl ?_
  refine zc_S (as := [.int e]) X (pc := 1) (c_X4_isSide lq D t e ) tw_283 tw_258 tw_1 tw_257 [] rfl rfl dX4_worth_1 rfl zdX4_isSide ⟨rfl, rfl, Nat.le_of_ble_eq_true rfl, Nat.le_of_ble_eq_true rfl⟩ (Nat.le_of_ble_eq_true rfl) (Nat.zero_le _) (Nat.zero_le _) (fun v_1 w_2 hp_3 => ?_)
  obtain ⟨rfl, rfl⟩ := hp_3
  refine ⟨rfl, ?_⟩
  refine z_eq (ws2 := [eX4 h hT hN hU hA hK hW hL hZ (nI sg) (nI ev), eX0 hN (nI (s 0)) (nI (s 1)) (nI (s 2)) (nI (s 3)) (nI (s 4)), eX0 hU b0 b1 b2 b3 b4, eX3 hW hr hn ho g0 g1 g2 g3 g4 g5, eL t hr 33 f1, eL t hn 33 f2, eL t ho 11 f3]) (st2 := [.int (zb (nI 0 ≤ e ∧ e ≤ nI 1))]) rfl rfl rfl ?_
  refine z_if_neB X (pc := 4) 9 dX4_worth_4 (by decide) (fun c_4 => ?_) (fun c_4 => ?_)
  · skip
    obtain ⟨sd, sd_lo, sd_hi, rfl⟩ := inR (by decide) (by decide) c_4
    rcases (show sd = 0 ∨ sd = 1 by omega) with rfl | rfl
    · skip
      refine z_aload_n X (pc := 9) 0 dX4_worth_9 rfl ?_
      refine z_get X (pc := 10) 0 1 (.ref hN) tu_4 tw_145 dX4_worth_10 rfl rfl (by decide) rfl rfl ?_
      refine z_iload_n X (pc := 13) 1 dX4_worth_13 rfl ?_
      refine zc_V (as := [.int (nI 0)]) X (pc := 14) (c_X0_inBox lq D t hN (s 0) (s 1) (s 2) (s 3) (s 4) 0 (by decide)) tw_284 tw_287 tw_3 tw_285 tw_286 0 0 rfl rfl [1] rfl rfl dX4_worth_14 rfl zdX0_inBox ⟨rfl, rfl, Nat.le_of_ble_eq_true rfl, Nat.le_of_ble_eq_true rfl⟩ (Nat.le_of_ble_eq_true rfl) (Nat.zero_le _) (Nat.zero_le _) (fun v_4 w_5 hp_6 => ?_)
      obtain ⟨rfl, rfl⟩ := hp_6
      refine ⟨rfl, ?_⟩
      refine z_eq (ws2 := [eX4 h hT hN hU hA hK hW hL hZ (nI sg) (nI ev), eX0 hN (nI (s 0)) (nI (s 1)) (nI (s 2)) (nI (s 3)) (nI (s 4)), eX0 hU b0 b1 b2 b3 b4, eX3 hW hr hn ho g0 g1 g2 g3 g4 g5, eL t hr 33 f1, eL t hn 33 f2, eL t ho 11 f3]) (st2 := [.int (nI (s 0))]) rfl rfl rfl ?_
      refine z_bipush X (pc := 17) (nI 10) dX4_worth_17 (by decide) ?_
      refine z_icmp_ltN X (pc := 19) 25 (by omega) (by omega) dX4_worth_19 (by decide) (fun c_19 => ?_) (fun c_19 => ?_)
      · skip
        refine z_aload_n X (pc := 25) 0 dX4_worth_25 rfl ?_
        refine z_aload_n X (pc := 26) 0 dX4_worth_26 rfl ?_
        refine z_get X (pc := 27) 0 1 (.ref hN) tu_4 tw_145 dX4_worth_27 rfl rfl (by decide) rfl rfl ?_
        refine z_get X (pc := 30) 1 0 (.int (nI (s 0))) tu_0 tw_30 dX4_worth_30 rfl rfl (by decide) rfl rfl ?_
        refine z_aload_n X (pc := 33) 0 dX4_worth_33 rfl ?_
        refine z_get X (pc := 34) 0 1 (.ref hN) tu_4 tw_145 dX4_worth_34 rfl rfl (by decide) rfl rfl ?_
        refine z_get X (pc := 37) 1 1 (.int (nI (s 1))) tu_0 tw_33 dX4_worth_37 rfl rfl (by decide) rfl rfl ?_
        refine zc_V (as := [.int (nI (s 0)), .int (nI (s 1))]) X (pc := 40) (c_X4_reachesWithy lq D t h hT hN hU hA hK hW hL hZ sg ev s hr hn ho b0 b1 b2 b3 b4 g0 g1 g2 g3 g4 g5 f1 f2 f3 (s 0) (s 1) hsk (by omega) (by omega)) tw_453 tw_456 tw_1 tw_455 tw_1017 0 4 rfl rfl [0, 1, 2, 3, 4, 5, 6] rfl rfl dX4_worth_40 rfl zdX4_reachesWith ⟨rfl, rfl, Nat.le_of_ble_eq_true rfl, Nat.le_of_ble_eq_true rfl⟩ (Nat.le_of_ble_eq_true rfl) (Nat.zero_le _) (Nat.zero_le _) (fun v_7 w_8 hp_9 => ?_)
        obtain ⟨B0_10, B1_11, B2_12, B3_13, B4_14, hr2_15, hn2_16, G0_17, G1_18, G2_19, G3_20, G4_21, G5_22, F1_23, F2_24, F3_25, rfl, rfl⟩ := hp_9
        refine ⟨rfl, ?_⟩
        refine z_eq (ws2 := [eX4 h hT hN hU hA hK hW hL hZ (nI sg) (nI ev), eX0 hN (nI (s 0)) (nI (s 1)) (nI (s 2)) (nI (s 3)) (nI (s 4)), eX0 hU B0_10 B1_11 B2_12 B3_13 B4_14, eX3 hW hr2_15 hn2_16 ho G0_17 G1_18 G2_19 G3_20 G4_21 G5_22, eL t hr2_15 33 F1_23, eL t hn2_16 33 F2_24, eL t ho 11 F3_25]) (st2 := [.long (lN (rch (s 3) (s 4) 0 (s 0) (s 1) (s 2)))]) rfl rfl rfl ?_
        refine z_lstore_n X (pc := 43) (i := 2) [(2, .long (lN (rch (s 3) (s 4) 0 (s 0) (s 1) (s 2)))), (0, .ref h), (1, .int (nI 0))] dX4_worth_43 rfl (by decide) rfl ?_
        refine z_iload_n X (pc := 44) 2 dX4_worth_44 rfl ?_
        refine z_if_neN X (pc := 45) 71 (by omega) dX4_worth_45 (by decide) (fun c_45 => absurd c_45 (by decide)) (fun c_45 => ?_)
        refine z_aload_n X (pc := 48) 1 dX4_worth_48 rfl ?_
        refine z_aload_n X (pc := 49) 1 dX4_worth_49 rfl ?_
        refine z_get X (pc := 50) 0 1 (.ref hN) tu_4 tw_145 dX4_worth_50 rfl rfl (by decide) rfl rfl ?_
        refine z_get X (pc := 53) 1 0 (.int (nI (s 0))) tu_0 tw_30 dX4_worth_53 rfl rfl (by decide) rfl rfl ?_
        refine z_iconst X (pc := 56) (nI 1) dX4_worth_56 (by decide) ?_
        refine z_iadd X (pc := 57) (v := (nI (s 0 + 1))) dX4_worth_57 (nI_add (s 0) 1) ?_
        refine z_aload_n X (pc := 58) 1 dX4_worth_58 rfl ?_
        refine z_get X (pc := 59) 0 1 (.ref hN) tu_4 tw_145 dX4_worth_59 rfl rfl (by decide) rfl rfl ?_
        refine z_get X (pc := 62) 1 1 (.int (nI (s 1))) tu_0 tw_33 dX4_worth_62 rfl rfl (by decide) rfl rfl ?_
        refine zc_V (as := [.int (nI (s 0 + 1)), .int (nI (s 1))]) X (pc := 65) (c_X4_reachesWithy lq D t h hT hN hU hA hK hW hL hZ sg ev s hr2_15 hn2_16 ho B0_10 B1_11 B2_12 B3_13 B4_14 G0_17 G1_18 G2_19 G3_20 G4_21 G5_22 F1_23 F2_24 F3_25 (s 0 + 1) (s 1) hsk (by omega) (by omega)) tw_453 tw_456 tw_1 tw_455 tw_1017 0 4 rfl rfl [0, 1, 2, 3, 4, 5, 6] rfl rfl dX4_worth_65 rfl zdX4_reachesWith ⟨rfl, rfl, Nat.le_of_ble_eq_true rfl, Nat.le_of_ble_eq_true rfl⟩ (Nat.le_of_ble_eq_true rfl) (Nat.zero_le _) (Nat.zero_le _) (fun v_26 w_27 hp_28 => ?_)
        obtain ⟨B0_29, B1_30, B2_31, B3_32, B4_33, hr2_34, hn2_35, G0_36, G1_37, G2_38, G3_39, G4_40, G5_41, F1_42, F2_43, F3_44, rfl, rfl⟩ := hp_28
        refine ⟨rfl, ?_⟩
        refine z_eq (ws2 := [eX4 h hT hN hU hA hK hW hL hZ (nI sg) (nI ev), eX0 hN (nI (s 0)) (nI (s 1)) (nI (s 2)) (nI (s 3)) (nI (s 4)), eX0 hU B0_29 B1_30 B2_31 B3_32 B4_33, eX3 hW hr2_34 hn2_35 ho G0_36 G1_37 G2_38 G3_39 G4_40 G5_41, eL t hr2_34 33 F1_42, eL t hn2_35 33 F2_43, eL t ho 11 F3_44]) (st2 := [.long (lN (rch (s 3) (s 4) 0 (s 0 + 1) (s 1) (s 2)))]) rfl rfl rfl ?_
        refine z_goto X (pc := 68) 91 dX4_worth_68 (by decide) ?_
        refine z_lstore X (pc := 91) (i := 4) [(4, .long (lN (rch (s 3) (s 4) 0 (s 0 + 1) (s 1) (s 2)))), (2, .long (lN (rch (s 3) (s 4) 0 (s 0) (s 1) (s 2)))), (0, .ref h), (1, .int (nI 0))] dX4_worth_91 trivial (by decide) rfl ?_
        refine z_lload X (pc := 93) 0 dX4_worth_93 rfl ?_
        refine z_lload_n X (pc := 95) 1 dX4_worth_95 rfl ?_
        refine z_lsub X (pc := 96) (v := ((lN (rch (s 3) (s 4) 0 (s 0 + 1) (s 1) (s 2))) - (lN (rch (s 3) (s 4) 0 (s 0) (s 1) (s 2))))) dX4_worth_96 rfl ?_
        refine zc_S (as := [.long ((lN (rch (s 3) (s 4) 0 (s 0 + 1) (s 1) (s 2))) - (lN (rch (s 3) (s 4) 0 (s 0) (s 1) (s 2))))]) X (pc := 97) (c_X4_hundredfold lq D t ((lN (rch (s 3) (s 4) 0 (s 0 + 1) (s 1) (s 2))) - (lN (rch (s 3) (s 4) 0 (s 0) (s 1) (s 2)))) ) tw_417 tw_419 tw_1 tw_418 [] rfl rfl dX4_worth_97 rfl zdX4_hundredfold ⟨rfl, rfl, Nat.le_of_ble_eq_true rfl, Nat.le_of_ble_eq_true rfl⟩ (Nat.le_of_ble_eq_true rfl) (Nat.zero_le _) (Nat.zero_le _) (fun v_45 w_46 hp_47 => ?_)
        obtain ⟨rfl, rfl⟩ := hp_47
        refine ⟨rfl, ?_⟩
        refine z_eq (ws2 := [eX4 h hT hN hU hA hK hW hL hZ (nI sg) (nI ev), eX0 hN (nI (s 0)) (nI (s 1)) (nI (s 2)) (nI (s 3)) (nI (s 4)), eX0 hU B0_29 B1_30 B2_31 B3_32 B4_33, eX3 hW hr2_34 hn2_35 ho G0_36 G1_37 G2_38 G3_39 G4_40 G5_41, eL t hr2_34 33 F1_42, eL t hn2_35 33 F2_43, eL t ho 11 F3_44]) (st2 := [.int ((((lN (rch (s 3) (s 4) 0 (s 0 + 1) (s 1) (s 2))) - (lN (rch (s 3) (s 4) 0 (s 0) (s 1) (s 2)))) * 100 / 4398046511104).toInt32)]) rfl rfl rfl ?_
        refine z_sipush X (pc := 100) (nI 10000) dX4_worth_100 (by decide) ?_
        refine z_iadd X (pc := 103) (v := (((((lN (rch (s 3) (s 4) 0 (s 0 + 1) (s 1) (s 2))) - (lN (rch (s 3) (s 4) 0 (s 0) (s 1) (s 2)))) * 100 / 4398046511104).toInt32) + (nI 10000))) dX4_worth_103 rfl ?_
        exact hRet.i dX4_worth_104 ⟨B0_29, B1_30, B2_31, B3_32, B4_33, hr2_34, hn2_35, G0_36, G1_37, G2_38, G3_39, G4_40, G5_41, F1_42, F2_43, F3_44, by rw [dz_ok (by decide) (by decide) (by decide)]; exact congrArg (fun z => some (Value.int z)) (if_neg (show ¬ s 0 = 10 by omega)).symm, rfl⟩
      · skip
        refine z_bipush X (pc := 22) (-3) dX4_worth_22 (by decide) ?_
        exact hRet.i dX4_worth_24 ⟨b0, b1, b2, b3, b4, hr, hn, g0, g1, g2, g3, g4, g5, f1, f2, f3, by rw [dz_ok (by decide) (by decide) (by decide)]; exact congrArg (fun z => some (Value.int z)) (if_pos (show s 0 = 10 by omega)).symm, rfl⟩
    · skip
      refine z_aload_n X (pc := 9) 0 dX4_worth_9 rfl ?_
      refine z_get X (pc := 10) 0 1 (.ref hN) tu_4 tw_145 dX4_worth_10 rfl rfl (by decide) rfl rfl ?_
      refine z_iload_n X (pc := 13) 1 dX4_worth_13 rfl ?_
      refine zc_V (as := [.int (nI 1)]) X (pc := 14) (c_X0_inBox lq D t hN (s 0) (s 1) (s 2) (s 3) (s 4) 1 (by decide)) tw_284 tw_287 tw_3 tw_285 tw_286 0 0 rfl rfl [1] rfl rfl dX4_worth_14 rfl zdX0_inBox ⟨rfl, rfl, Nat.le_of_ble_eq_true rfl, Nat.le_of_ble_eq_true rfl⟩ (Nat.le_of_ble_eq_true rfl) (Nat.zero_le _) (Nat.zero_le _) (fun v_48 w_49 hp_50 => ?_)
      obtain ⟨rfl, rfl⟩ := hp_50
      refine ⟨rfl, ?_⟩
      refine z_eq (ws2 := [eX4 h hT hN hU hA hK hW hL hZ (nI sg) (nI ev), eX0 hN (nI (s 0)) (nI (s 1)) (nI (s 2)) (nI (s 3)) (nI (s 4)), eX0 hU b0 b1 b2 b3 b4, eX3 hW hr hn ho g0 g1 g2 g3 g4 g5, eL t hr 33 f1, eL t hn 33 f2, eL t ho 11 f3]) (st2 := [.int (nI (s 1))]) rfl rfl rfl ?_
      refine z_bipush X (pc := 17) (nI 10) dX4_worth_17 (by decide) ?_
      refine z_icmp_ltN X (pc := 19) 25 (by omega) (by omega) dX4_worth_19 (by decide) (fun c_19 => ?_) (fun c_19 => ?_)
      · skip
        refine z_aload_n X (pc := 25) 0 dX4_worth_25 rfl ?_
        refine z_aload_n X (pc := 26) 0 dX4_worth_26 rfl ?_
        refine z_get X (pc := 27) 0 1 (.ref hN) tu_4 tw_145 dX4_worth_27 rfl rfl (by decide) rfl rfl ?_
        refine z_get X (pc := 30) 1 0 (.int (nI (s 0))) tu_0 tw_30 dX4_worth_30 rfl rfl (by decide) rfl rfl ?_
        refine z_aload_n X (pc := 33) 0 dX4_worth_33 rfl ?_
        refine z_get X (pc := 34) 0 1 (.ref hN) tu_4 tw_145 dX4_worth_34 rfl rfl (by decide) rfl rfl ?_
        refine z_get X (pc := 37) 1 1 (.int (nI (s 1))) tu_0 tw_33 dX4_worth_37 rfl rfl (by decide) rfl rfl ?_
        refine zc_V (as := [.int (nI (s 0)), .int (nI (s 1))]) X (pc := 40) (c_X4_reachesWithy lq D t h hT hN hU hA hK hW hL hZ sg ev s hr hn ho b0 b1 b2 b3 b4 g0 g1 g2 g3 g4 g5 f1 f2 f3 (s 0) (s 1) hsk (by omega) (by omega)) tw_453 tw_456 tw_1 tw_455 tw_1017 0 4 rfl rfl [0, 1, 2, 3, 4, 5, 6] rfl rfl dX4_worth_40 rfl zdX4_reachesWith ⟨rfl, rfl, Nat.le_of_ble_eq_true rfl, Nat.le_of_ble_eq_true rfl⟩ (Nat.le_of_ble_eq_true rfl) (Nat.zero_le _) (Nat.zero_le _) (fun v_51 w_52 hp_53 => ?_)
        obtain ⟨B0_54, B1_55, B2_56, B3_57, B4_58, hr2_59, hn2_60, G0_61, G1_62, G2_63, G3_64, G4_65, G5_66, F1_67, F2_68, F3_69, rfl, rfl⟩ := hp_53
        refine ⟨rfl, ?_⟩
        refine z_eq (ws2 := [eX4 h hT hN hU hA hK hW hL hZ (nI sg) (nI ev), eX0 hN (nI (s 0)) (nI (s 1)) (nI (s 2)) (nI (s 3)) (nI (s 4)), eX0 hU B0_54 B1_55 B2_56 B3_57 B4_58, eX3 hW hr2_59 hn2_60 ho G0_61 G1_62 G2_63 G3_64 G4_65 G5_66, eL t hr2_59 33 F1_67, eL t hn2_60 33 F2_68, eL t ho 11 F3_69]) (st2 := [.long (lN (rch (s 3) (s 4) 0 (s 0) (s 1) (s 2)))]) rfl rfl rfl ?_
        refine z_lstore_n X (pc := 43) (i := 2) [(2, .long (lN (rch (s 3) (s 4) 0 (s 0) (s 1) (s 2)))), (0, .ref h), (1, .int (nI 1))] dX4_worth_43 rfl (by decide) rfl ?_
        refine z_iload_n X (pc := 44) 2 dX4_worth_44 rfl ?_
        refine z_if_neN X (pc := 45) 71 (by omega) dX4_worth_45 (by decide) (fun c_45 => ?_) (fun c_45 => absurd c_45 (by decide))
        refine z_aload_n X (pc := 71) 1 dX4_worth_71 rfl ?_
        refine z_aload_n X (pc := 72) 1 dX4_worth_72 rfl ?_
        refine z_get X (pc := 73) 0 1 (.ref hN) tu_4 tw_145 dX4_worth_73 rfl rfl (by decide) rfl rfl ?_
        refine z_get X (pc := 76) 1 0 (.int (nI (s 0))) tu_0 tw_30 dX4_worth_76 rfl rfl (by decide) rfl rfl ?_
        refine z_aload_n X (pc := 79) 1 dX4_worth_79 rfl ?_
        refine z_get X (pc := 80) 0 1 (.ref hN) tu_4 tw_145 dX4_worth_80 rfl rfl (by decide) rfl rfl ?_
        refine z_get X (pc := 83) 1 1 (.int (nI (s 1))) tu_0 tw_33 dX4_worth_83 rfl rfl (by decide) rfl rfl ?_
        refine z_iconst X (pc := 86) (nI 1) dX4_worth_86 (by decide) ?_
        refine z_iadd X (pc := 87) (v := (nI (s 1 + 1))) dX4_worth_87 (nI_add (s 1) 1) ?_
        refine zc_V (as := [.int (nI (s 0)), .int (nI (s 1 + 1))]) X (pc := 88) (c_X4_reachesWithy lq D t h hT hN hU hA hK hW hL hZ sg ev s hr2_59 hn2_60 ho B0_54 B1_55 B2_56 B3_57 B4_58 G0_61 G1_62 G2_63 G3_64 G4_65 G5_66 F1_67 F2_68 F3_69 (s 0) (s 1 + 1) hsk (by omega) (by omega)) tw_453 tw_456 tw_1 tw_455 tw_1017 0 4 rfl rfl [0, 1, 2, 3, 4, 5, 6] rfl rfl dX4_worth_88 rfl zdX4_reachesWith ⟨rfl, rfl, Nat.le_of_ble_eq_true rfl, Nat.le_of_ble_eq_true rfl⟩ (Nat.le_of_ble_eq_true rfl) (Nat.zero_le _) (Nat.zero_le _) (fun v_70 w_71 hp_72 => ?_)
        obtain ⟨B0_73, B1_74, B2_75, B3_76, B4_77, hr2_78, hn2_79, G0_80, G1_81, G2_82, G3_83, G4_84, G5_85, F1_86, F2_87, F3_88, rfl, rfl⟩ := hp_72
        refine ⟨rfl, ?_⟩
        refine z_eq (ws2 := [eX4 h hT hN hU hA hK hW hL hZ (nI sg) (nI ev), eX0 hN (nI (s 0)) (nI (s 1)) (nI (s 2)) (nI (s 3)) (nI (s 4)), eX0 hU B0_73 B1_74 B2_75 B3_76 B4_77, eX3 hW hr2_78 hn2_79 ho G0_80 G1_81 G2_82 G3_83 G4_84 G5_85, eL t hr2_78 33 F1_86, eL t hn2_79 33 F2_87, eL t ho 11 F3_88]) (st2 := [.long (lN (rch (s 3) (s 4) 0 (s 0) (s 1 + 1) (s 2)))]) rfl rfl rfl ?_
        refine z_lstore X (pc := 91) (i := 4) [(4, .long (lN (rch (s 3) (s 4) 0 (s 0) (s 1 + 1) (s 2)))), (2, .long (lN (rch (s 3) (s 4) 0 (s 0) (s 1) (s 2)))), (0, .ref h), (1, .int (nI 1))] dX4_worth_91 trivial (by decide) rfl ?_
        refine z_lload X (pc := 93) 0 dX4_worth_93 rfl ?_
        refine z_lload_n X (pc := 95) 1 dX4_worth_95 rfl ?_
        refine z_lsub X (pc := 96) (v := ((lN (rch (s 3) (s 4) 0 (s 0) (s 1 + 1) (s 2))) - (lN (rch (s 3) (s 4) 0 (s 0) (s 1) (s 2))))) dX4_worth_96 rfl ?_
        refine zc_S (as := [.long ((lN (rch (s 3) (s 4) 0 (s 0) (s 1 + 1) (s 2))) - (lN (rch (s 3) (s 4) 0 (s 0) (s 1) (s 2))))]) X (pc := 97) (c_X4_hundredfold lq D t ((lN (rch (s 3) (s 4) 0 (s 0) (s 1 + 1) (s 2))) - (lN (rch (s 3) (s 4) 0 (s 0) (s 1) (s 2)))) ) tw_417 tw_419 tw_1 tw_418 [] rfl rfl dX4_worth_97 rfl zdX4_hundredfold ⟨rfl, rfl, Nat.le_of_ble_eq_true rfl, Nat.le_of_ble_eq_true rfl⟩ (Nat.le_of_ble_eq_true rfl) (Nat.zero_le _) (Nat.zero_le _) (fun v_89 w_90 hp_91 => ?_)
        obtain ⟨rfl, rfl⟩ := hp_91
        refine ⟨rfl, ?_⟩
        refine z_eq (ws2 := [eX4 h hT hN hU hA hK hW hL hZ (nI sg) (nI ev), eX0 hN (nI (s 0)) (nI (s 1)) (nI (s 2)) (nI (s 3)) (nI (s 4)), eX0 hU B0_73 B1_74 B2_75 B3_76 B4_77, eX3 hW hr2_78 hn2_79 ho G0_80 G1_81 G2_82 G3_83 G4_84 G5_85, eL t hr2_78 33 F1_86, eL t hn2_79 33 F2_87, eL t ho 11 F3_88]) (st2 := [.int ((((lN (rch (s 3) (s 4) 0 (s 0) (s 1 + 1) (s 2))) - (lN (rch (s 3) (s 4) 0 (s 0) (s 1) (s 2)))) * 100 / 4398046511104).toInt32)]) rfl rfl rfl ?_
        refine z_sipush X (pc := 100) (nI 10000) dX4_worth_100 (by decide) ?_
        refine z_iadd X (pc := 103) (v := (((((lN (rch (s 3) (s 4) 0 (s 0) (s 1 + 1) (s 2))) - (lN (rch (s 3) (s 4) 0 (s 0) (s 1) (s 2)))) * 100 / 4398046511104).toInt32) + (nI 10000))) dX4_worth_103 rfl ?_
        exact hRet.i dX4_worth_104 ⟨B0_73, B1_74, B2_75, B3_76, B4_77, hr2_78, hn2_79, G0_80, G1_81, G2_82, G3_83, G4_84, G5_85, F1_86, F2_87, F3_88, by rw [dz_ok (by decide) (by decide) (by decide)]; exact congrArg (fun z => some (Value.int z)) (if_neg (show ¬ s 1 = 10 by omega)).symm, rfl⟩
      · skip
        refine z_bipush X (pc := 22) (-3) dX4_worth_22 (by decide) ?_
        exact hRet.i dX4_worth_24 ⟨b0, b1, b2, b3, b4, hr, hn, g0, g1, g2, g3, g4, g5, f1, f2, f3, by rw [dz_ok (by decide) (by decide) (by decide)]; exact congrArg (fun z => some (Value.int z)) (if_pos (show s 1 = 10 by omega)).symm, rfl⟩
  · skip
    refine z_iconst X (pc := 7) (-1) dX4_worth_7 (by decide) ?_
    exact hRet.i dX4_worth_8 ⟨b0, b1, b2, b3, b4, hr, hn, g0, g1, g2, g3, g4, g5, f1, f2, f3, by rw [dz_bad c_4]; rfl, rfl⟩

abbrev rm_X4_better : Room := { frames := 5, cells := 0, slots := 0, locals := 124 }
set_option maxHeartbeats 4000000 in
set_option maxRecDepth 100000 in
theorem c_X4_better (lq : Launch) (D : va_G) (t : zT) (h hT hN hU hA hK hW hL hZ sg ev : Nat) (s : Nat → Nat) (hr hn ho : Nat) (b0 b1 b2 b3 b4 g0 g1 g2 g3 : Int32) (g4 g5 : Int64) (f1 f2 f3 : Nat → Int64) (e1 e2 e3 e4 : Int32) (hs : sOk s) : Ct lq D t yX4_better cX4_better 9 (some .int) rm_X4_better [.ref h, .int e1, .int e2, .int e3, .int e4] [eX4 h hT hN hU hA hK hW hL hZ (nI sg) (nI ev), eX0 hN (nI (s 0)) (nI (s 1)) (nI (s 2)) (nI (s 3)) (nI (s 4)), eX0 hU b0 b1 b2 b3 b4, eX3 hW hr hn ho g0 g1 g2 g3 g4 g5, eL t hr 33 f1, eL t hn 33 f2, eL t ho 11 f3] 0 0 (fun rv rw_ => ∃ (B0 : Int32) (B1 : Int32) (B2 : Int32) (B3 : Int32) (B4 : Int32) (hr2 : Nat) (hn2 : Nat) (G0 : Int32) (G1 : Int32) (G2 : Int32) (G3 : Int32) (G4 : Int64) (G5 : Int64) (F1 : Nat → Int64) (F2 : Nat → Int64) (F3 : Nat → Int64), rv = some (.int (an_better s (dz 0 3 e1) (dz 0 4 e2) (dz 0 3 e3) (dz 0 4 e4))) ∧ rw_ = [eX4 h hT hN hU hA hK hW hL hZ (nI sg) (nI ev), eX0 hN (nI (s 0)) (nI (s 1)) (nI (s 2)) (nI (s 3)) (nI (s 4)), eX0 hU B0 B1 B2 B3 B4, eX3 hW hr2 hn2 ho G0 G1 G2 G3 G4 G5, eL t hr2 33 F1, eL t hn2 33 F2, eL t ho 11 F3]) := by
  refine Ct.of (by decide) (Nat.le_of_ble_eq_true rfl) (fun k X hRet => ?_)
  have X : zX D t k cX4_better 9 RX4 "better" rm_X4_better lq := X
  refine z_eq (lv2 := [(0, .ref h), (1, .int e1), (2, .int e2), (3, .int e3), (4, .int e4)]) rfl rfl rfl ?_
  have hsk := hs
  obtain ⟨hs0, hs1, hs2, hs3, hs4⟩ := hs
  refine z_iload_n X (pc := 0) 1 dX4_better_0 rfl ?_
  refine z_iload_n X (pc := 1) 2 dX4_better_1 rfl ?_
  refine zc_S (as := [.int e1, .int e2]) X (pc := 2) (c_X4_isHand lq D t e1 e2 ) tw_345 tw_244 tw_1 tw_243 [] rfl rfl dX4_better_2 rfl zdX4_isHand ⟨rfl, rfl, Nat.le_of_ble_eq_true rfl, Nat.le_of_ble_eq_true rfl⟩ (Nat.le_of_ble_eq_true rfl) (Nat.zero_le _) (Nat.zero_le _) (fun v_1 w_2 hp_3 => ?_)
  obtain ⟨rfl, rfl⟩ := hp_3
  refine ⟨rfl, ?_⟩
  refine z_eq (ws2 := [eX4 h hT hN hU hA hK hW hL hZ (nI sg) (nI ev), eX0 hN (nI (s 0)) (nI (s 1)) (nI (s 2)) (nI (s 3)) (nI (s 4)), eX0 hU b0 b1 b2 b3 b4, eX3 hW hr hn ho g0 g1 g2 g3 g4 g5, eL t hr 33 f1, eL t hn 33 f2, eL t ho 11 f3]) (st2 := [.int (zb ((nI 0 ≤ e1 ∧ e1 ≤ nI 3) ∧ (nI 0 ≤ e2 ∧ e2 ≤ nI 4)))]) rfl rfl rfl ?_
  refine z_if_eqB X (pc := 5) 17 dX4_better_5 (by decide) (fun c_5 => ?_) (fun c_5 => ?_)
  · skip
    refine z_iconst X (pc := 17) (-1) dX4_better_17 (by decide) ?_
    exact hRet.i dX4_better_18 ⟨b0, b1, b2, b3, b4, hr, hn, g0, g1, g2, g3, g4, g5, f1, f2, f3, by rw [bad4 ((hbad c_5).imp id Or.inl)], rfl⟩
  · skip
    refine z_iload_n X (pc := 8) 3 dX4_better_8 rfl ?_
    refine z_iload X (pc := 9) 4 dX4_better_9 rfl ?_
    refine zc_S (as := [.int e3, .int e4]) X (pc := 11) (c_X4_isHand lq D t e3 e4 ) tw_345 tw_244 tw_1 tw_243 [] rfl rfl dX4_better_11 rfl zdX4_isHand ⟨rfl, rfl, Nat.le_of_ble_eq_true rfl, Nat.le_of_ble_eq_true rfl⟩ (Nat.le_of_ble_eq_true rfl) (Nat.zero_le _) (Nat.zero_le _) (fun v_4 w_5 hp_6 => ?_)
    obtain ⟨rfl, rfl⟩ := hp_6
    refine ⟨rfl, ?_⟩
    refine z_eq (ws2 := [eX4 h hT hN hU hA hK hW hL hZ (nI sg) (nI ev), eX0 hN (nI (s 0)) (nI (s 1)) (nI (s 2)) (nI (s 3)) (nI (s 4)), eX0 hU b0 b1 b2 b3 b4, eX3 hW hr hn ho g0 g1 g2 g3 g4 g5, eL t hr 33 f1, eL t hn 33 f2, eL t ho 11 f3]) (st2 := [.int (zb ((nI 0 ≤ e3 ∧ e3 ≤ nI 3) ∧ (nI 0 ≤ e4 ∧ e4 ≤ nI 4)))]) rfl rfl rfl ?_
    refine z_if_neB X (pc := 14) 19 dX4_better_14 (by decide) (fun c_14 => ?_) (fun c_14 => ?_)
    · skip
      obtain ⟨ck, cx⟩ := c_5
      obtain ⟨co9, cy⟩ := c_14
      obtain ⟨kd, kd_lo, kd_hi, rfl⟩ := inR (by decide) (by decide) ck
      obtain ⟨x, x_lo, x_hi, rfl⟩ := inR (by decide) (by decide) cx
      obtain ⟨od, od_lo, od_hi, rfl⟩ := inR (by decide) (by decide) co9
      obtain ⟨y, y_lo, y_hi, rfl⟩ := inR (by decide) (by decide) cy
      refine z_aload_n X (pc := 19) 0 dX4_better_19 rfl ?_
      refine z_iload_n X (pc := 20) 1 dX4_better_20 rfl ?_
      refine z_iload_n X (pc := 21) 2 dX4_better_21 rfl ?_
      refine zc_V (as := [.int (nI kd), .int (nI x)]) X (pc := 22) (c_X4_reachesByHand lq D t h hT hN hU hA hK hW hL hZ sg ev s hr hn ho b0 b1 b2 b3 b4 g0 g1 g2 g3 g4 g5 f1 f2 f3 kd x hsk (by omega) (by omega)) tw_517 tw_520 tw_1 tw_519 tw_1021 0 4 rfl rfl [0, 1, 2, 3, 4, 5, 6] rfl rfl dX4_better_22 rfl zdX4_reachesByHand ⟨rfl, rfl, Nat.le_of_ble_eq_true rfl, Nat.le_of_ble_eq_true rfl⟩ (Nat.le_of_ble_eq_true rfl) (Nat.zero_le _) (Nat.zero_le _) (fun v_7 w_8 hp_9 => ?_)
      obtain ⟨B0_10, B1_11, B2_12, B3_13, B4_14, hr2_15, hn2_16, G0_17, G1_18, G2_19, G3_20, G4_21, G5_22, F1_23, F2_24, F3_25, rfl, rfl⟩ := hp_9
      refine ⟨rfl, ?_⟩
      refine z_eq (ws2 := [eX4 h hT hN hU hA hK hW hL hZ (nI sg) (nI ev), eX0 hN (nI (s 0)) (nI (s 1)) (nI (s 2)) (nI (s 3)) (nI (s 4)), eX0 hU B0_10 B1_11 B2_12 B3_13 B4_14, eX3 hW hr2_15 hn2_16 ho G0_17 G1_18 G2_19 G3_20 G4_21 G5_22, eL t hr2_15 33 F1_23, eL t hn2_16 33 F2_24, eL t ho 11 F3_25]) (st2 := [.long (lN (rch kd x 0 (s 0) (s 1) (s 2)))]) rfl rfl rfl ?_
      refine z_lstore X (pc := 25) (i := 5) [(5, .long (lN (rch kd x 0 (s 0) (s 1) (s 2)))), (0, .ref h), (1, .int (nI kd)), (2, .int (nI x)), (3, .int (nI od)), (4, .int (nI y))] dX4_better_25 trivial (by decide) rfl ?_
      refine z_aload_n X (pc := 27) 1 dX4_better_27 rfl ?_
      refine z_iload_n X (pc := 28) 4 dX4_better_28 rfl ?_
      refine z_iload X (pc := 29) 5 dX4_better_29 rfl ?_
      refine zc_V (as := [.int (nI od), .int (nI y)]) X (pc := 31) (c_X4_reachesByHand lq D t h hT hN hU hA hK hW hL hZ sg ev s hr2_15 hn2_16 ho B0_10 B1_11 B2_12 B3_13 B4_14 G0_17 G1_18 G2_19 G3_20 G4_21 G5_22 F1_23 F2_24 F3_25 od y hsk (by omega) (by omega)) tw_517 tw_520 tw_1 tw_519 tw_1021 0 4 rfl rfl [0, 1, 2, 3, 4, 5, 6] rfl rfl dX4_better_31 rfl zdX4_reachesByHand ⟨rfl, rfl, Nat.le_of_ble_eq_true rfl, Nat.le_of_ble_eq_true rfl⟩ (Nat.le_of_ble_eq_true rfl) (Nat.zero_le _) (Nat.zero_le _) (fun v_26 w_27 hp_28 => ?_)
      obtain ⟨B0_29, B1_30, B2_31, B3_32, B4_33, hr2_34, hn2_35, G0_36, G1_37, G2_38, G3_39, G4_40, G5_41, F1_42, F2_43, F3_44, rfl, rfl⟩ := hp_28
      refine ⟨rfl, ?_⟩
      refine z_eq (ws2 := [eX4 h hT hN hU hA hK hW hL hZ (nI sg) (nI ev), eX0 hN (nI (s 0)) (nI (s 1)) (nI (s 2)) (nI (s 3)) (nI (s 4)), eX0 hU B0_29 B1_30 B2_31 B3_32 B4_33, eX3 hW hr2_34 hn2_35 ho G0_36 G1_37 G2_38 G3_39 G4_40 G5_41, eL t hr2_34 33 F1_42, eL t hn2_35 33 F2_43, eL t ho 11 F3_44]) (st2 := [.long (lN (rch od y 0 (s 0) (s 1) (s 2)))]) rfl rfl rfl ?_
      refine z_lstore X (pc := 34) (i := 7) [(7, .long (lN (rch od y 0 (s 0) (s 1) (s 2)))), (5, .long (lN (rch kd x 0 (s 0) (s 1) (s 2)))), (0, .ref h), (1, .int (nI kd)), (2, .int (nI x)), (3, .int (nI od)), (4, .int (nI y))] dX4_better_34 trivial (by decide) rfl ?_
      refine z_lload X (pc := 36) 1 dX4_better_36 rfl ?_
      refine z_lload X (pc := 38) 0 dX4_better_38 rfl ?_
      refine z_lcmp_neN X (pc := 40) 46 (Nat.lt_trans (rch_lt _ _ _ _ _ _) (by decide)) (Nat.lt_trans (rch_lt _ _ _ _ _ _) (by decide)) dX4_better_40 dX4_better_41 (by decide) (fun c_40 => ?_) (fun c_40 => ?_)
      · skip
        refine z_lload X (pc := 46) 1 dX4_better_46 rfl ?_
        refine z_lload X (pc := 48) 0 dX4_better_48 rfl ?_
        refine z_lcmp_leN X (pc := 50) 58 (Nat.lt_trans (rch_lt _ _ _ _ _ _) (by decide)) (Nat.lt_trans (rch_lt _ _ _ _ _ _) (by decide)) dX4_better_50 dX4_better_51 (by decide) (fun c_50 => ?_) (fun c_50 => ?_)
        · skip
          refine z_iconst X (pc := 58) (nI 2) dX4_better_58 (by decide) ?_
          exact hRet.i dX4_better_59 ⟨B0_29, B1_30, B2_31, B3_32, B4_33, hr2_34, hn2_35, G0_36, G1_37, G2_38, G3_39, G4_40, G5_41, F1_42, F2_43, F3_44, by rw [dz_ok (j := kd) (a := 0) (b := 3) (by decide) kd_lo kd_hi, dz_ok (j := x) (a := 0) (b := 4) (by decide) x_lo x_hi, dz_ok (j := od) (a := 0) (b := 3) (by decide) od_lo od_hi, dz_ok (j := y) (a := 0) (b := 4) (by decide) y_lo y_hi]; exact congrArg (fun z => some (Value.int z)) ((if_neg c_40).trans (if_neg (by omega))).symm, rfl⟩
        · skip
          refine z_iconst X (pc := 54) (nI 1) dX4_better_54 (by decide) ?_
          refine z_goto X (pc := 55) 59 dX4_better_55 (by decide) ?_
          exact hRet.i dX4_better_59 ⟨B0_29, B1_30, B2_31, B3_32, B4_33, hr2_34, hn2_35, G0_36, G1_37, G2_38, G3_39, G4_40, G5_41, F1_42, F2_43, F3_44, by rw [dz_ok (j := kd) (a := 0) (b := 3) (by decide) kd_lo kd_hi, dz_ok (j := x) (a := 0) (b := 4) (by decide) x_lo x_hi, dz_ok (j := od) (a := 0) (b := 3) (by decide) od_lo od_hi, dz_ok (j := y) (a := 0) (b := 4) (by decide) y_lo y_hi]; exact congrArg (fun z => some (Value.int z)) ((if_neg c_40).trans (if_pos (by omega))).symm, rfl⟩
      · skip
        refine z_iconst X (pc := 44) (nI 0) dX4_better_44 (by decide) ?_
        exact hRet.i dX4_better_45 ⟨B0_29, B1_30, B2_31, B3_32, B4_33, hr2_34, hn2_35, G0_36, G1_37, G2_38, G3_39, G4_40, G5_41, F1_42, F2_43, F3_44, by rw [dz_ok (j := kd) (a := 0) (b := 3) (by decide) kd_lo kd_hi, dz_ok (j := x) (a := 0) (b := 4) (by decide) x_lo x_hi, dz_ok (j := od) (a := 0) (b := 3) (by decide) od_lo od_hi, dz_ok (j := y) (a := 0) (b := 4) (by decide) y_lo y_hi]; exact congrArg (fun z => some (Value.int z)) (if_pos c_40).symm, rfl⟩
    · skip
      refine z_iconst X (pc := 17) (-1) dX4_better_17 (by decide) ?_
      exact hRet.i dX4_better_18 ⟨b0, b1, b2, b3, b4, hr, hn, g0, g1, g2, g3, g4, g5, f1, f2, f3, by rw [bad4 (Or.inr (Or.inr (hbad c_14)))], rfl⟩

abbrev rm_X4_over : Room := { frames := 5, cells := 0, slots := 0, locals := 124 }
set_option maxHeartbeats 4000000 in
set_option maxRecDepth 100000 in
theorem c_X4_over (lq : Launch) (D : va_G) (t : zT) (h hT hN hU hA hK hW hL hZ sg ev : Nat) (s : Nat → Nat) (hr hn ho : Nat) (b0 b1 b2 b3 b4 g0 g1 g2 g3 : Int32) (g4 g5 : Int64) (f1 f2 f3 : Nat → Int64) (e : Int32) (hs : sOk s) : Ct lq D t yX4_over cX4_over 10 (some .int) rm_X4_over [.ref h, .int e] [eX4 h hT hN hU hA hK hW hL hZ (nI sg) (nI ev), eX0 hN (nI (s 0)) (nI (s 1)) (nI (s 2)) (nI (s 3)) (nI (s 4)), eX0 hU b0 b1 b2 b3 b4, eX3 hW hr hn ho g0 g1 g2 g3 g4 g5, eL t hr 33 f1, eL t hn 33 f2, eL t ho 11 f3] 0 0 (fun rv rw_ => ∃ (B0 : Int32) (B1 : Int32) (B2 : Int32) (B3 : Int32) (B4 : Int32) (hr2 : Nat) (hn2 : Nat) (G0 : Int32) (G1 : Int32) (G2 : Int32) (G3 : Int32) (G4 : Int64) (G5 : Int64) (F1 : Nat → Int64) (F2 : Nat → Int64) (F3 : Nat → Int64), rv = some (.int (an_over s (dz 0 1 e))) ∧ rw_ = [eX4 h hT hN hU hA hK hW hL hZ (nI sg) (nI ev), eX0 hN (nI (s 0)) (nI (s 1)) (nI (s 2)) (nI (s 3)) (nI (s 4)), eX0 hU B0 B1 B2 B3 B4, eX3 hW hr2 hn2 ho G0 G1 G2 G3 G4 G5, eL t hr2 33 F1, eL t hn2 33 F2, eL t ho 11 F3]) := by
  refine Ct.of (by decide) (Nat.le_of_ble_eq_true rfl) (fun k X hRet => ?_)
  have X : zX D t k cX4_over 10 RX4 "over" rm_X4_over lq := X
  refine z_eq (lv2 := [(0, .ref h), (1, .int e)]) rfl rfl rfl ?_
  have hsk := hs
  obtain ⟨hs0, hs1, hs2, hs3, hs4⟩ := hs
  refine z_iload_n X (pc := 0) 1 dX4_over_0 rfl ?_
  refine zc_S (as := [.int e]) X (pc := 1) (c_X4_isPart lq D t e ) tw_462 tw_464 tw_1 tw_463 [] rfl rfl dX4_over_1 rfl zdX4_isPart ⟨rfl, rfl, Nat.le_of_ble_eq_true rfl, Nat.le_of_ble_eq_true rfl⟩ (Nat.le_of_ble_eq_true rfl) (Nat.zero_le _) (Nat.zero_le _) (fun v_1 w_2 hp_3 => ?_)
  obtain ⟨rfl, rfl⟩ := hp_3
  refine ⟨rfl, ?_⟩
  refine z_eq (ws2 := [eX4 h hT hN hU hA hK hW hL hZ (nI sg) (nI ev), eX0 hN (nI (s 0)) (nI (s 1)) (nI (s 2)) (nI (s 3)) (nI (s 4)), eX0 hU b0 b1 b2 b3 b4, eX3 hW hr hn ho g0 g1 g2 g3 g4 g5, eL t hr 33 f1, eL t hn 33 f2, eL t ho 11 f3]) (st2 := [.int (zb (nI 0 ≤ e ∧ e ≤ nI 1))]) rfl rfl rfl ?_
  refine z_if_neB X (pc := 4) 9 dX4_over_4 (by decide) (fun c_4 => ?_) (fun c_4 => ?_)
  · skip
    obtain ⟨wt, wt_lo, wt_hi, rfl⟩ := inR (by decide) (by decide) c_4
    refine z_iconst X (pc := 9) (nI 0) dX4_over_9 (by decide) ?_
    refine z_istore_n X (pc := 10) (i := 2) [(2, .int (nI 0)), (0, .ref h), (1, .int (nI wt))] dX4_over_10 rfl (by decide) rfl ?_
    refine z_aload_n X (pc := 11) 1 dX4_over_11 rfl ?_
    refine z_aload_n X (pc := 12) 1 dX4_over_12 rfl ?_
    refine z_get X (pc := 13) 0 1 (.ref hN) tu_4 tw_145 dX4_over_13 rfl rfl (by decide) rfl rfl ?_
    refine z_get X (pc := 16) 1 0 (.int (nI (s 0))) tu_0 tw_30 dX4_over_16 rfl rfl (by decide) rfl rfl ?_
    refine z_aload_n X (pc := 19) 1 dX4_over_19 rfl ?_
    refine z_get X (pc := 20) 0 1 (.ref hN) tu_4 tw_145 dX4_over_20 rfl rfl (by decide) rfl rfl ?_
    refine z_get X (pc := 23) 1 1 (.int (nI (s 1))) tu_0 tw_33 dX4_over_23 rfl rfl (by decide) rfl rfl ?_
    refine zc_V (as := [.int (nI (s 0)), .int (nI (s 1))]) X (pc := 26) (c_X4_reachesWithy lq D t h hT hN hU hA hK hW hL hZ sg ev s hr hn ho b0 b1 b2 b3 b4 g0 g1 g2 g3 g4 g5 f1 f2 f3 (s 0) (s 1) hsk (by omega) (by omega)) tw_453 tw_456 tw_1 tw_455 tw_1017 0 4 rfl rfl [0, 1, 2, 3, 4, 5, 6] rfl rfl dX4_over_26 rfl zdX4_reachesWith ⟨rfl, rfl, Nat.le_of_ble_eq_true rfl, Nat.le_of_ble_eq_true rfl⟩ (Nat.le_of_ble_eq_true rfl) (Nat.zero_le _) (Nat.zero_le _) (fun v_4 w_5 hp_6 => ?_)
    obtain ⟨B0_7, B1_8, B2_9, B3_10, B4_11, hr2_12, hn2_13, G0_14, G1_15, G2_16, G3_17, G4_18, G5_19, F1_20, F2_21, F3_22, rfl, rfl⟩ := hp_6
    refine ⟨rfl, ?_⟩
    refine z_eq (ws2 := [eX4 h hT hN hU hA hK hW hL hZ (nI sg) (nI ev), eX0 hN (nI (s 0)) (nI (s 1)) (nI (s 2)) (nI (s 3)) (nI (s 4)), eX0 hU B0_7 B1_8 B2_9 B3_10 B4_11, eX3 hW hr2_12 hn2_13 ho G0_14 G1_15 G2_16 G3_17 G4_18 G5_19, eL t hr2_12 33 F1_20, eL t hn2_13 33 F2_21, eL t ho 11 F3_22]) (st2 := [.long (lN (rch (s 3) (s 4) 0 (s 0) (s 1) (s 2)))]) rfl rfl rfl ?_
    refine z_lstore_n X (pc := 29) (i := 3) [(3, .long (lN (rch (s 3) (s 4) 0 (s 0) (s 1) (s 2)))), (2, .int (nI 0)), (0, .ref h), (1, .int (nI wt))] dX4_over_29 rfl (by decide) rfl ?_
    refine z_iconst X (pc := 30) (nI 1) dX4_over_30 (by decide) ?_
    refine z_istore X (pc := 31) (i := 5) [(5, .int (nI 1)), (3, .long (lN (rch (s 3) (s 4) 0 (s 0) (s 1) (s 2)))), (2, .int (nI 0)), (0, .ref h), (1, .int (nI wt))] dX4_over_31 trivial (by decide) rfl ?_
    have loop_33 : ∀ (fuel_33 : Nat) (k_ : Nat) (bs : Int32) (mo : Nat) (hr : Nat) (hn : Nat) (b0 : Int32) (b1 : Int32) (b2 : Int32) (b3 : Int32) (b4 : Int32) (g0 : Int32) (g1 : Int32) (g2 : Int32) (g3 : Int32) (g4 : Int64) (g5 : Int64) (f1 : Nat → Int64) (f2 : Nat → Int64) (f3 : Nat → Int64), 11 < k_ + fuel_33 → (1 ≤ k_ ∧ k_ ≤ 11) → ((bs, mo) = ov s (k_ - 1)) → Z D k (0, 0) [eX4 h hT hN hU hA hK hW hL hZ (nI sg) (nI ev), eX0 hN (nI (s 0)) (nI (s 1)) (nI (s 2)) (nI (s 3)) (nI (s 4)), eX0 hU b0 b1 b2 b3 b4, eX3 hW hr hn ho g0 g1 g2 g3 g4 g5, eL t hr 33 f1, eL t hn 33 f2, eL t ho 11 f3] 33 [(0, .ref h), (1, .int (nI wt)), (2, .int bs), (3, .long (lN mo)), (5, .int (nI k_))] [] := by
      intro fuel_33
      induction fuel_33 with
      | zero =>
        intro k_ bs mo hr hn b0 b1 b2 b3 b4 g0 g1 g2 g3 g4 g5 f1 f2 f3 hfuel_33 hk hov
        exfalso; omega
      | succ fuel_33 ih_33 =>
        intro k_ bs mo hr hn b0 b1 b2 b3 b4 g0 g1 g2 g3 g4 g5 f1 f2 f3 hfuel_33 hk hov
        have hmo : mo < 2 ^ 50 := by have h9 := ov_lt s (k_ - 1); rw [← hov] at h9; exact h9
        refine z_iload X (pc := 33) 4 dX4_over_33 rfl ?_
        refine z_bipush X (pc := 35) (nI 10) dX4_over_35 (by decide) ?_
        refine z_icmp_gtN X (pc := 37) 125 (by omega) (by omega) dX4_over_37 (by decide) (fun c_37 => ?_) (fun c_37 => ?_)
        · skip
          refine z_iload_n X (pc := 125) 1 dX4_over_125 rfl ?_
          refine z_if_neN X (pc := 126) 136 (by omega) dX4_over_126 (by decide) (fun c_126 => ?_) (fun c_126 => ?_)
          · skip
            refine z_lload_n X (pc := 136) 3 dX4_over_136 rfl ?_
            refine zc_S (as := [.long (lN mo)]) X (pc := 137) (c_X4_hundredfoldN lq D t mo hmo) tw_417 tw_419 tw_1 tw_418 [] rfl rfl dX4_over_137 rfl zdX4_hundredfold ⟨rfl, rfl, Nat.le_of_ble_eq_true rfl, Nat.le_of_ble_eq_true rfl⟩ (Nat.le_of_ble_eq_true rfl) (Nat.zero_le _) (Nat.zero_le _) (fun v_23 w_24 hp_25 => ?_)
            obtain ⟨rfl, rfl⟩ := hp_25
            refine ⟨rfl, ?_⟩
            refine z_eq (ws2 := [eX4 h hT hN hU hA hK hW hL hZ (nI sg) (nI ev), eX0 hN (nI (s 0)) (nI (s 1)) (nI (s 2)) (nI (s 3)) (nI (s 4)), eX0 hU b0 b1 b2 b3 b4, eX3 hW hr hn ho g0 g1 g2 g3 g4 g5, eL t hr 33 f1, eL t hn 33 f2, eL t ho 11 f3]) (st2 := [.int (nI (mo * 100 / 4398046511104))]) rfl rfl rfl ?_
            exact hRet.i dX4_over_140 ⟨b0, b1, b2, b3, b4, hr, hn, g0, g1, g2, g3, g4, g5, f1, f2, f3, by have h9 : ov s 10 = (bs, mo) := (by rw [hov, show k_ - 1 = 10 by omega]); rw [dz_ok (j := wt) (a := 0) (b := 1) (by decide) wt_lo wt_hi]; simp only [an_over, h9, if_neg c_126], rfl⟩
          · skip
            refine z_iload_n X (pc := 129) 2 dX4_over_129 rfl ?_
            refine z_bipush X (pc := 130) (nI 10) dX4_over_130 (by decide) ?_
            refine z_iadd X (pc := 132) (v := (bs + (nI 10))) dX4_over_132 rfl ?_
            refine z_goto X (pc := 133) 140 dX4_over_133 (by decide) ?_
            exact hRet.i dX4_over_140 ⟨b0, b1, b2, b3, b4, hr, hn, g0, g1, g2, g3, g4, g5, f1, f2, f3, by have h9 : ov s 10 = (bs, mo) := (by rw [hov, show k_ - 1 = 10 by omega]); rw [dz_ok (j := wt) (a := 0) (b := 1) (by decide) wt_lo wt_hi]; simp only [an_over, h9, if_pos c_126], rfl⟩
        · skip
          by_cases hcaA : k_ ≤ s 0 ∧ s 1 + k_ ≤ 10
          · skip
            refine z_aload_n X (pc := 40) 0 dX4_over_40 rfl ?_
            refine z_aload_n X (pc := 41) 0 dX4_over_41 rfl ?_
            refine z_get X (pc := 42) 0 1 (.ref hN) tu_4 tw_145 dX4_over_42 rfl rfl (by decide) rfl rfl ?_
            refine z_get X (pc := 45) 1 0 (.int (nI (s 0))) tu_0 tw_30 dX4_over_45 rfl rfl (by decide) rfl rfl ?_
            refine z_iload X (pc := 48) 4 dX4_over_48 rfl ?_
            refine z_isub X (pc := 50) (v := (nI ((s 0) - k_))) dX4_over_50 (pk_sub (by omega)) ?_
            refine z_aload_n X (pc := 51) 0 dX4_over_51 rfl ?_
            refine z_get X (pc := 52) 0 1 (.ref hN) tu_4 tw_145 dX4_over_52 rfl rfl (by decide) rfl rfl ?_
            refine z_get X (pc := 55) 1 1 (.int (nI (s 1))) tu_0 tw_33 dX4_over_55 rfl rfl (by decide) rfl rfl ?_
            refine z_iload X (pc := 58) 4 dX4_over_58 rfl ?_
            refine z_iadd X (pc := 60) (v := (nI (s 1 + k_))) dX4_over_60 (nI_add (s 1) k_) ?_
            refine zc_V (as := [.int (nI ((s 0) - k_)), .int (nI (s 1 + k_))]) X (pc := 61) (c_X4_reachesWithy lq D t h hT hN hU hA hK hW hL hZ sg ev s hr hn ho b0 b1 b2 b3 b4 g0 g1 g2 g3 g4 g5 f1 f2 f3 ((s 0) - k_) (s 1 + k_) hsk (by omega) (by omega)) tw_453 tw_456 tw_1 tw_455 tw_1017 0 4 rfl rfl [0, 1, 2, 3, 4, 5, 6] rfl rfl dX4_over_61 rfl zdX4_reachesWith ⟨rfl, rfl, Nat.le_of_ble_eq_true rfl, Nat.le_of_ble_eq_true rfl⟩ (Nat.le_of_ble_eq_true rfl) (Nat.zero_le _) (Nat.zero_le _) (fun v_26 w_27 hp_28 => ?_)
            obtain ⟨B0_29, B1_30, B2_31, B3_32, B4_33, hr2_34, hn2_35, G0_36, G1_37, G2_38, G3_39, G4_40, G5_41, F1_42, F2_43, F3_44, rfl, rfl⟩ := hp_28
            refine ⟨rfl, ?_⟩
            refine z_eq (ws2 := [eX4 h hT hN hU hA hK hW hL hZ (nI sg) (nI ev), eX0 hN (nI (s 0)) (nI (s 1)) (nI (s 2)) (nI (s 3)) (nI (s 4)), eX0 hU B0_29 B1_30 B2_31 B3_32 B4_33, eX3 hW hr2_34 hn2_35 ho G0_36 G1_37 G2_38 G3_39 G4_40 G5_41, eL t hr2_34 33 F1_42, eL t hn2_35 33 F2_43, eL t ho 11 F3_44]) (st2 := [.long (lN (rch (s 3) (s 4) 0 ((s 0) - k_) (s 1 + k_) (s 2)))]) rfl rfl rfl ?_
            refine z_lstore X (pc := 64) (i := 6) [(6, .long (lN (rch (s 3) (s 4) 0 ((s 0) - k_) (s 1 + k_) (s 2)))), (0, .ref h), (1, .int (nI wt)), (2, .int bs), (3, .long (lN mo)), (5, .int (nI k_))] dX4_over_64 trivial (by decide) rfl ?_
            refine z_lload X (pc := 66) 0 dX4_over_66 rfl ?_
            refine z_lload_n X (pc := 68) 4 dX4_over_68 rfl ?_
            refine z_lcmp_leN X (pc := 69) 79 (Nat.lt_trans (rch_lt _ _ _ _ _ _) (by decide)) (by omega) dX4_over_69 dX4_over_70 (by decide) (fun c_69 => ?_) (fun c_69 => ?_)
            · skip
              have hcA : ¬ mo < ovr s (s 0 - k_) (s 1 + k_) := Nat.not_lt.mpr c_69
              by_cases hcaB : k_ ≤ s 1 ∧ s 0 + k_ ≤ 10
              · skip
                refine z_aload_n X (pc := 79) 1 dX4_over_79 rfl ?_
                refine z_aload_n X (pc := 80) 1 dX4_over_80 rfl ?_
                refine z_get X (pc := 81) 0 1 (.ref hN) tu_4 tw_145 dX4_over_81 rfl rfl (by decide) rfl rfl ?_
                refine z_get X (pc := 84) 1 0 (.int (nI (s 0))) tu_0 tw_30 dX4_over_84 rfl rfl (by decide) rfl rfl ?_
                refine z_iload X (pc := 87) 5 dX4_over_87 rfl ?_
                refine z_iadd X (pc := 89) (v := (nI (s 0 + k_))) dX4_over_89 (nI_add (s 0) k_) ?_
                refine z_aload_n X (pc := 90) 1 dX4_over_90 rfl ?_
                refine z_get X (pc := 91) 0 1 (.ref hN) tu_4 tw_145 dX4_over_91 rfl rfl (by decide) rfl rfl ?_
                refine z_get X (pc := 94) 1 1 (.int (nI (s 1))) tu_0 tw_33 dX4_over_94 rfl rfl (by decide) rfl rfl ?_
                refine z_iload X (pc := 97) 5 dX4_over_97 rfl ?_
                refine z_isub X (pc := 99) (v := (nI ((s 1) - k_))) dX4_over_99 (pk_sub (by omega)) ?_
                refine zc_V (as := [.int (nI (s 0 + k_)), .int (nI ((s 1) - k_))]) X (pc := 100) (c_X4_reachesWithy lq D t h hT hN hU hA hK hW hL hZ sg ev s hr2_34 hn2_35 ho B0_29 B1_30 B2_31 B3_32 B4_33 G0_36 G1_37 G2_38 G3_39 G4_40 G5_41 F1_42 F2_43 F3_44 (s 0 + k_) ((s 1) - k_) hsk (by omega) (by omega)) tw_453 tw_456 tw_1 tw_455 tw_1017 0 4 rfl rfl [0, 1, 2, 3, 4, 5, 6] rfl rfl dX4_over_100 rfl zdX4_reachesWith ⟨rfl, rfl, Nat.le_of_ble_eq_true rfl, Nat.le_of_ble_eq_true rfl⟩ (Nat.le_of_ble_eq_true rfl) (Nat.zero_le _) (Nat.zero_le _) (fun v_45 w_46 hp_47 => ?_)
                obtain ⟨B0_48, B1_49, B2_50, B3_51, B4_52, hr2_53, hn2_54, G0_55, G1_56, G2_57, G3_58, G4_59, G5_60, F1_61, F2_62, F3_63, rfl, rfl⟩ := hp_47
                refine ⟨rfl, ?_⟩
                refine z_eq (ws2 := [eX4 h hT hN hU hA hK hW hL hZ (nI sg) (nI ev), eX0 hN (nI (s 0)) (nI (s 1)) (nI (s 2)) (nI (s 3)) (nI (s 4)), eX0 hU B0_48 B1_49 B2_50 B3_51 B4_52, eX3 hW hr2_53 hn2_54 ho G0_55 G1_56 G2_57 G3_58 G4_59 G5_60, eL t hr2_53 33 F1_61, eL t hn2_54 33 F2_62, eL t ho 11 F3_63]) (st2 := [.long (lN (rch (s 3) (s 4) 0 (s 0 + k_) ((s 1) - k_) (s 2)))]) rfl rfl rfl ?_
                refine z_lstore X (pc := 103) (i := 8) [(8, .long (lN (rch (s 3) (s 4) 0 (s 0 + k_) ((s 1) - k_) (s 2)))), (6, .long (lN (rch (s 3) (s 4) 0 ((s 0) - k_) (s 1 + k_) (s 2)))), (0, .ref h), (1, .int (nI wt)), (2, .int bs), (3, .long (lN mo)), (5, .int (nI k_))] dX4_over_103 trivial (by decide) rfl ?_
                refine z_lload X (pc := 105) 0 dX4_over_105 rfl ?_
                refine z_lload_n X (pc := 107) 5 dX4_over_107 rfl ?_
                refine z_lcmp_leN X (pc := 108) 119 (Nat.lt_trans (rch_lt _ _ _ _ _ _) (by decide)) (by first | omega | exact Nat.lt_trans (rch_lt _ _ _ _ _ _) (by decide)) dX4_over_108 dX4_over_109 (by decide) (fun c_108 => ?_) (fun c_108 => ?_)
                · skip
                  have hcB := Nat.not_lt.mpr c_108
                  refine z_iinc X (pc := 119) (i := 5) 6 (nI (k_ + 1)) [(5, .int (nI (k_ + 1))), (8, .long (lN (rch (s 3) (s 4) 0 (s 0 + k_) ((s 1) - k_) (s 2)))), (6, .long (lN (rch (s 3) (s 4) 0 ((s 0) - k_) (s 1 + k_) (s 2)))), (0, .ref h), (1, .int (nI wt)), (2, .int bs), (3, .long (lN mo))] dX4_over_119 rfl (nI_incc k_ 1) (by decide) rfl ?_
                  refine z_goto X (pc := 122) 33 dX4_over_122 (by decide) ?_
                  refine z_lv [3, 4, 5, 6, 0] (lv2 := [(0, .ref h), (1, .int (nI wt)), (2, .int bs), (3, .long (lN mo)), (5, .int (nI (k_ + 1)))]) rfl ?_
                  exact ih_33 (k_ + 1) bs mo hr2_53 hn2_54 B0_48 B1_49 B2_50 B3_51 B4_52 G0_55 G1_56 G2_57 G3_58 G4_59 G5_60 F1_61 F2_62 F3_63 (by omega) (by omega) (by rw [show k_ + 1 - 1 = (k_ - 1) + 1 by omega, ov_s, ← hov, show k_ - 1 + 1 = k_ by omega]; unfold ovA; rw [if_neg (fun z => hcA z.2)]; unfold ovB; rw [if_neg (fun z => hcB z.2)])
                · skip
                  have hcB := Nat.not_le.mp c_108
                  refine z_iload X (pc := 112) 6 dX4_over_112 rfl ?_
                  refine z_ineg X (pc := 114) (v := (-(nI k_))) dX4_over_114 rfl ?_
                  refine z_istore_n X (pc := 115) (i := 2) [(2, .int (-(nI k_))), (8, .long (lN (rch (s 3) (s 4) 0 (s 0 + k_) ((s 1) - k_) (s 2)))), (6, .long (lN (rch (s 3) (s 4) 0 ((s 0) - k_) (s 1 + k_) (s 2)))), (0, .ref h), (1, .int (nI wt)), (3, .long (lN mo)), (5, .int (nI k_))] dX4_over_115 rfl (by decide) rfl ?_
                  refine z_lload X (pc := 116) 1 dX4_over_116 rfl ?_
                  refine z_lstore_n X (pc := 118) (i := 3) [(3, .long (lN (rch (s 3) (s 4) 0 (s 0 + k_) ((s 1) - k_) (s 2)))), (2, .int (-(nI k_))), (8, .long (lN (rch (s 3) (s 4) 0 (s 0 + k_) ((s 1) - k_) (s 2)))), (6, .long (lN (rch (s 3) (s 4) 0 ((s 0) - k_) (s 1 + k_) (s 2)))), (0, .ref h), (1, .int (nI wt)), (5, .int (nI k_))] dX4_over_118 rfl (by decide) rfl ?_
                  refine z_iinc X (pc := 119) (i := 5) 6 (nI (k_ + 1)) [(5, .int (nI (k_ + 1))), (3, .long (lN (rch (s 3) (s 4) 0 (s 0 + k_) ((s 1) - k_) (s 2)))), (2, .int (-(nI k_))), (8, .long (lN (rch (s 3) (s 4) 0 (s 0 + k_) ((s 1) - k_) (s 2)))), (6, .long (lN (rch (s 3) (s 4) 0 ((s 0) - k_) (s 1 + k_) (s 2)))), (0, .ref h), (1, .int (nI wt))] dX4_over_119 rfl (nI_incc k_ 1) (by decide) rfl ?_
                  refine z_goto X (pc := 122) 33 dX4_over_122 (by decide) ?_
                  refine z_lv [5, 6, 2, 1, 0] (lv2 := [(0, .ref h), (1, .int (nI wt)), (2, .int (-(nI k_))), (3, .long (lN (rch (s 3) (s 4) 0 (s 0 + k_) ((s 1) - k_) (s 2)))), (5, .int (nI (k_ + 1)))]) rfl ?_
                  exact ih_33 (k_ + 1) (-(nI k_)) (ovr s (s 0 + k_) (s 1 - k_)) hr2_53 hn2_54 B0_48 B1_49 B2_50 B3_51 B4_52 G0_55 G1_56 G2_57 G3_58 G4_59 G5_60 F1_61 F2_62 F3_63 (by omega) (by omega) (by rw [show k_ + 1 - 1 = (k_ - 1) + 1 by omega, ov_s, ← hov, show k_ - 1 + 1 = k_ by omega]; unfold ovA; rw [if_neg (fun z => hcA z.2)]; unfold ovB; rw [if_pos ⟨hcaB, hcB⟩])
              · skip
                refine z_aload_n X (pc := 79) 1 dX4_over_79 rfl ?_
                refine z_aload_n X (pc := 80) 1 dX4_over_80 rfl ?_
                refine z_get X (pc := 81) 0 1 (.ref hN) tu_4 tw_145 dX4_over_81 rfl rfl (by decide) rfl rfl ?_
                refine z_get X (pc := 84) 1 0 (.int (nI (s 0))) tu_0 tw_30 dX4_over_84 rfl rfl (by decide) rfl rfl ?_
                refine z_iload X (pc := 87) 5 dX4_over_87 rfl ?_
                refine z_iadd X (pc := 89) (v := (nI (s 0 + k_))) dX4_over_89 (nI_add (s 0) k_) ?_
                refine z_aload_n X (pc := 90) 1 dX4_over_90 rfl ?_
                refine z_get X (pc := 91) 0 1 (.ref hN) tu_4 tw_145 dX4_over_91 rfl rfl (by decide) rfl rfl ?_
                refine z_get X (pc := 94) 1 1 (.int (nI (s 1))) tu_0 tw_33 dX4_over_94 rfl rfl (by decide) rfl rfl ?_
                refine z_iload X (pc := 97) 5 dX4_over_97 rfl ?_
                refine z_isub X (pc := 99) (v := ((nI (s 1)) - (nI k_))) dX4_over_99 rfl ?_
                refine zc_V (as := [.int (nI (s 0 + k_)), .int ((nI (s 1)) - (nI k_))]) X (pc := 100) (c_X4_reachesWithn lq D t h hT hN hU hA hK hW hL hZ sg ev s hr2_34 hn2_35 ho B0_29 B1_30 B2_31 B3_32 B4_33 G0_36 G1_37 G2_38 G3_39 G4_40 G5_41 F1_42 F2_43 F3_44 (nI (s 0 + k_)) ((nI (s 1)) - (nI k_)) (ov_raw2 hs0 hs1 (by omega) hcaB)) tw_453 tw_456 tw_1 tw_455 tw_1017 0 4 rfl rfl [0, 1, 2, 3, 4, 5, 6] rfl rfl dX4_over_100 rfl zdX4_reachesWith ⟨rfl, rfl, Nat.le_of_ble_eq_true rfl, Nat.le_of_ble_eq_true rfl⟩ (Nat.le_of_ble_eq_true rfl) (Nat.zero_le _) (Nat.zero_le _) (fun v_64 w_65 hp_66 => ?_)
                obtain ⟨B0_67, B1_68, B2_69, B3_70, B4_71, hr2_72, hn2_73, G0_74, G1_75, G2_76, G3_77, G4_78, G5_79, F1_80, F2_81, F3_82, rfl, rfl⟩ := hp_66
                refine ⟨rfl, ?_⟩
                refine z_eq (ws2 := [eX4 h hT hN hU hA hK hW hL hZ (nI sg) (nI ev), eX0 hN (nI (s 0)) (nI (s 1)) (nI (s 2)) (nI (s 3)) (nI (s 4)), eX0 hU B0_67 B1_68 B2_69 B3_70 B4_71, eX3 hW hr2_72 hn2_73 ho G0_74 G1_75 G2_76 G3_77 G4_78 G5_79, eL t hr2_72 33 F1_80, eL t hn2_73 33 F2_81, eL t ho 11 F3_82]) (st2 := [.long (-1)]) rfl rfl rfl ?_
                refine z_lstore X (pc := 103) (i := 8) [(8, .long (-1)), (6, .long (lN (rch (s 3) (s 4) 0 ((s 0) - k_) (s 1 + k_) (s 2)))), (0, .ref h), (1, .int (nI wt)), (2, .int bs), (3, .long (lN mo)), (5, .int (nI k_))] dX4_over_103 trivial (by decide) rfl ?_
                refine z_lload X (pc := 105) 0 dX4_over_105 rfl ?_
                refine z_lload_n X (pc := 107) 5 dX4_over_107 rfl ?_
                refine z_lcmp_le X (pc := 108) 119 dX4_over_108 dX4_over_109 (by decide) (fun c_108 => ?_) (fun c_108 => absurd c_108 (fun z => z (m1_le _ (by first | omega | exact Nat.lt_trans (rch_lt _ _ _ _ _ _) (by decide)))))
                refine z_iinc X (pc := 119) (i := 5) 6 (nI (k_ + 1)) [(5, .int (nI (k_ + 1))), (8, .long (-1)), (6, .long (lN (rch (s 3) (s 4) 0 ((s 0) - k_) (s 1 + k_) (s 2)))), (0, .ref h), (1, .int (nI wt)), (2, .int bs), (3, .long (lN mo))] dX4_over_119 rfl (nI_incc k_ 1) (by decide) rfl ?_
                refine z_goto X (pc := 122) 33 dX4_over_122 (by decide) ?_
                refine z_lv [3, 4, 5, 6, 0] (lv2 := [(0, .ref h), (1, .int (nI wt)), (2, .int bs), (3, .long (lN mo)), (5, .int (nI (k_ + 1)))]) rfl ?_
                exact ih_33 (k_ + 1) bs mo hr2_72 hn2_73 B0_67 B1_68 B2_69 B3_70 B4_71 G0_74 G1_75 G2_76 G3_77 G4_78 G5_79 F1_80 F2_81 F3_82 (by omega) (by omega) (by rw [show k_ + 1 - 1 = (k_ - 1) + 1 by omega, ov_s, ← hov, show k_ - 1 + 1 = k_ by omega]; unfold ovA; rw [if_neg (fun z => hcA z.2)]; unfold ovB; rw [if_neg (fun z => hcaB z.1)])
            · skip
              have hcA : mo < ovr s (s 0 - k_) (s 1 + k_) := Nat.not_le.mp c_69
              refine z_iload X (pc := 73) 5 dX4_over_73 rfl ?_
              refine z_istore_n X (pc := 75) (i := 2) [(2, .int (nI k_)), (6, .long (lN (rch (s 3) (s 4) 0 ((s 0) - k_) (s 1 + k_) (s 2)))), (0, .ref h), (1, .int (nI wt)), (3, .long (lN mo)), (5, .int (nI k_))] dX4_over_75 rfl (by decide) rfl ?_
              refine z_lload X (pc := 76) 1 dX4_over_76 rfl ?_
              refine z_lstore_n X (pc := 78) (i := 3) [(3, .long (lN (rch (s 3) (s 4) 0 ((s 0) - k_) (s 1 + k_) (s 2)))), (2, .int (nI k_)), (6, .long (lN (rch (s 3) (s 4) 0 ((s 0) - k_) (s 1 + k_) (s 2)))), (0, .ref h), (1, .int (nI wt)), (5, .int (nI k_))] dX4_over_78 rfl (by decide) rfl ?_
              by_cases hcaB : k_ ≤ s 1 ∧ s 0 + k_ ≤ 10
              · skip
                refine z_aload_n X (pc := 79) 3 dX4_over_79 rfl ?_
                refine z_aload_n X (pc := 80) 3 dX4_over_80 rfl ?_
                refine z_get X (pc := 81) 0 1 (.ref hN) tu_4 tw_145 dX4_over_81 rfl rfl (by decide) rfl rfl ?_
                refine z_get X (pc := 84) 1 0 (.int (nI (s 0))) tu_0 tw_30 dX4_over_84 rfl rfl (by decide) rfl rfl ?_
                refine z_iload X (pc := 87) 5 dX4_over_87 rfl ?_
                refine z_iadd X (pc := 89) (v := (nI (s 0 + k_))) dX4_over_89 (nI_add (s 0) k_) ?_
                refine z_aload_n X (pc := 90) 3 dX4_over_90 rfl ?_
                refine z_get X (pc := 91) 0 1 (.ref hN) tu_4 tw_145 dX4_over_91 rfl rfl (by decide) rfl rfl ?_
                refine z_get X (pc := 94) 1 1 (.int (nI (s 1))) tu_0 tw_33 dX4_over_94 rfl rfl (by decide) rfl rfl ?_
                refine z_iload X (pc := 97) 5 dX4_over_97 rfl ?_
                refine z_isub X (pc := 99) (v := (nI ((s 1) - k_))) dX4_over_99 (pk_sub (by omega)) ?_
                refine zc_V (as := [.int (nI (s 0 + k_)), .int (nI ((s 1) - k_))]) X (pc := 100) (c_X4_reachesWithy lq D t h hT hN hU hA hK hW hL hZ sg ev s hr2_34 hn2_35 ho B0_29 B1_30 B2_31 B3_32 B4_33 G0_36 G1_37 G2_38 G3_39 G4_40 G5_41 F1_42 F2_43 F3_44 (s 0 + k_) ((s 1) - k_) hsk (by omega) (by omega)) tw_453 tw_456 tw_1 tw_455 tw_1017 0 4 rfl rfl [0, 1, 2, 3, 4, 5, 6] rfl rfl dX4_over_100 rfl zdX4_reachesWith ⟨rfl, rfl, Nat.le_of_ble_eq_true rfl, Nat.le_of_ble_eq_true rfl⟩ (Nat.le_of_ble_eq_true rfl) (Nat.zero_le _) (Nat.zero_le _) (fun v_83 w_84 hp_85 => ?_)
                obtain ⟨B0_86, B1_87, B2_88, B3_89, B4_90, hr2_91, hn2_92, G0_93, G1_94, G2_95, G3_96, G4_97, G5_98, F1_99, F2_100, F3_101, rfl, rfl⟩ := hp_85
                refine ⟨rfl, ?_⟩
                refine z_eq (ws2 := [eX4 h hT hN hU hA hK hW hL hZ (nI sg) (nI ev), eX0 hN (nI (s 0)) (nI (s 1)) (nI (s 2)) (nI (s 3)) (nI (s 4)), eX0 hU B0_86 B1_87 B2_88 B3_89 B4_90, eX3 hW hr2_91 hn2_92 ho G0_93 G1_94 G2_95 G3_96 G4_97 G5_98, eL t hr2_91 33 F1_99, eL t hn2_92 33 F2_100, eL t ho 11 F3_101]) (st2 := [.long (lN (rch (s 3) (s 4) 0 (s 0 + k_) ((s 1) - k_) (s 2)))]) rfl rfl rfl ?_
                refine z_lstore X (pc := 103) (i := 8) [(8, .long (lN (rch (s 3) (s 4) 0 (s 0 + k_) ((s 1) - k_) (s 2)))), (3, .long (lN (rch (s 3) (s 4) 0 ((s 0) - k_) (s 1 + k_) (s 2)))), (2, .int (nI k_)), (6, .long (lN (rch (s 3) (s 4) 0 ((s 0) - k_) (s 1 + k_) (s 2)))), (0, .ref h), (1, .int (nI wt)), (5, .int (nI k_))] dX4_over_103 trivial (by decide) rfl ?_
                refine z_lload X (pc := 105) 0 dX4_over_105 rfl ?_
                refine z_lload_n X (pc := 107) 1 dX4_over_107 rfl ?_
                refine z_lcmp_leN X (pc := 108) 119 (Nat.lt_trans (rch_lt _ _ _ _ _ _) (by decide)) (by first | omega | exact Nat.lt_trans (rch_lt _ _ _ _ _ _) (by decide)) dX4_over_108 dX4_over_109 (by decide) (fun c_108 => ?_) (fun c_108 => ?_)
                · skip
                  have hcB := Nat.not_lt.mpr c_108
                  refine z_iinc X (pc := 119) (i := 5) 6 (nI (k_ + 1)) [(5, .int (nI (k_ + 1))), (8, .long (lN (rch (s 3) (s 4) 0 (s 0 + k_) ((s 1) - k_) (s 2)))), (3, .long (lN (rch (s 3) (s 4) 0 ((s 0) - k_) (s 1 + k_) (s 2)))), (2, .int (nI k_)), (6, .long (lN (rch (s 3) (s 4) 0 ((s 0) - k_) (s 1 + k_) (s 2)))), (0, .ref h), (1, .int (nI wt))] dX4_over_119 rfl (nI_incc k_ 1) (by decide) rfl ?_
                  refine z_goto X (pc := 122) 33 dX4_over_122 (by decide) ?_
                  refine z_lv [5, 6, 3, 2, 0] (lv2 := [(0, .ref h), (1, .int (nI wt)), (2, .int (nI k_)), (3, .long (lN (rch (s 3) (s 4) 0 ((s 0) - k_) (s 1 + k_) (s 2)))), (5, .int (nI (k_ + 1)))]) rfl ?_
                  exact ih_33 (k_ + 1) (nI k_) (ovr s (s 0 - k_) (s 1 + k_)) hr2_91 hn2_92 B0_86 B1_87 B2_88 B3_89 B4_90 G0_93 G1_94 G2_95 G3_96 G4_97 G5_98 F1_99 F2_100 F3_101 (by omega) (by omega) (by rw [show k_ + 1 - 1 = (k_ - 1) + 1 by omega, ov_s, ← hov, show k_ - 1 + 1 = k_ by omega]; unfold ovA; rw [if_pos ⟨hcaA, hcA⟩]; unfold ovB; rw [if_neg (fun z => hcB z.2)])
                · skip
                  have hcB := Nat.not_le.mp c_108
                  refine z_iload X (pc := 112) 6 dX4_over_112 rfl ?_
                  refine z_ineg X (pc := 114) (v := (-(nI k_))) dX4_over_114 rfl ?_
                  refine z_istore_n X (pc := 115) (i := 2) [(2, .int (-(nI k_))), (8, .long (lN (rch (s 3) (s 4) 0 (s 0 + k_) ((s 1) - k_) (s 2)))), (3, .long (lN (rch (s 3) (s 4) 0 ((s 0) - k_) (s 1 + k_) (s 2)))), (6, .long (lN (rch (s 3) (s 4) 0 ((s 0) - k_) (s 1 + k_) (s 2)))), (0, .ref h), (1, .int (nI wt)), (5, .int (nI k_))] dX4_over_115 rfl (by decide) rfl ?_
                  refine z_lload X (pc := 116) 1 dX4_over_116 rfl ?_
                  refine z_lstore_n X (pc := 118) (i := 3) [(3, .long (lN (rch (s 3) (s 4) 0 (s 0 + k_) ((s 1) - k_) (s 2)))), (2, .int (-(nI k_))), (8, .long (lN (rch (s 3) (s 4) 0 (s 0 + k_) ((s 1) - k_) (s 2)))), (6, .long (lN (rch (s 3) (s 4) 0 ((s 0) - k_) (s 1 + k_) (s 2)))), (0, .ref h), (1, .int (nI wt)), (5, .int (nI k_))] dX4_over_118 rfl (by decide) rfl ?_
                  refine z_iinc X (pc := 119) (i := 5) 6 (nI (k_ + 1)) [(5, .int (nI (k_ + 1))), (3, .long (lN (rch (s 3) (s 4) 0 (s 0 + k_) ((s 1) - k_) (s 2)))), (2, .int (-(nI k_))), (8, .long (lN (rch (s 3) (s 4) 0 (s 0 + k_) ((s 1) - k_) (s 2)))), (6, .long (lN (rch (s 3) (s 4) 0 ((s 0) - k_) (s 1 + k_) (s 2)))), (0, .ref h), (1, .int (nI wt))] dX4_over_119 rfl (nI_incc k_ 1) (by decide) rfl ?_
                  refine z_goto X (pc := 122) 33 dX4_over_122 (by decide) ?_
                  refine z_lv [5, 6, 2, 1, 0] (lv2 := [(0, .ref h), (1, .int (nI wt)), (2, .int (-(nI k_))), (3, .long (lN (rch (s 3) (s 4) 0 (s 0 + k_) ((s 1) - k_) (s 2)))), (5, .int (nI (k_ + 1)))]) rfl ?_
                  exact ih_33 (k_ + 1) (-(nI k_)) (ovr s (s 0 + k_) (s 1 - k_)) hr2_91 hn2_92 B0_86 B1_87 B2_88 B3_89 B4_90 G0_93 G1_94 G2_95 G3_96 G4_97 G5_98 F1_99 F2_100 F3_101 (by omega) (by omega) (by rw [show k_ + 1 - 1 = (k_ - 1) + 1 by omega, ov_s, ← hov, show k_ - 1 + 1 = k_ by omega]; unfold ovA; rw [if_pos ⟨hcaA, hcA⟩]; unfold ovB; rw [if_pos ⟨hcaB, hcB⟩])
              · skip
                refine z_aload_n X (pc := 79) 3 dX4_over_79 rfl ?_
                refine z_aload_n X (pc := 80) 3 dX4_over_80 rfl ?_
                refine z_get X (pc := 81) 0 1 (.ref hN) tu_4 tw_145 dX4_over_81 rfl rfl (by decide) rfl rfl ?_
                refine z_get X (pc := 84) 1 0 (.int (nI (s 0))) tu_0 tw_30 dX4_over_84 rfl rfl (by decide) rfl rfl ?_
                refine z_iload X (pc := 87) 5 dX4_over_87 rfl ?_
                refine z_iadd X (pc := 89) (v := (nI (s 0 + k_))) dX4_over_89 (nI_add (s 0) k_) ?_
                refine z_aload_n X (pc := 90) 3 dX4_over_90 rfl ?_
                refine z_get X (pc := 91) 0 1 (.ref hN) tu_4 tw_145 dX4_over_91 rfl rfl (by decide) rfl rfl ?_
                refine z_get X (pc := 94) 1 1 (.int (nI (s 1))) tu_0 tw_33 dX4_over_94 rfl rfl (by decide) rfl rfl ?_
                refine z_iload X (pc := 97) 5 dX4_over_97 rfl ?_
                refine z_isub X (pc := 99) (v := ((nI (s 1)) - (nI k_))) dX4_over_99 rfl ?_
                refine zc_V (as := [.int (nI (s 0 + k_)), .int ((nI (s 1)) - (nI k_))]) X (pc := 100) (c_X4_reachesWithn lq D t h hT hN hU hA hK hW hL hZ sg ev s hr2_34 hn2_35 ho B0_29 B1_30 B2_31 B3_32 B4_33 G0_36 G1_37 G2_38 G3_39 G4_40 G5_41 F1_42 F2_43 F3_44 (nI (s 0 + k_)) ((nI (s 1)) - (nI k_)) (ov_raw2 hs0 hs1 (by omega) hcaB)) tw_453 tw_456 tw_1 tw_455 tw_1017 0 4 rfl rfl [0, 1, 2, 3, 4, 5, 6] rfl rfl dX4_over_100 rfl zdX4_reachesWith ⟨rfl, rfl, Nat.le_of_ble_eq_true rfl, Nat.le_of_ble_eq_true rfl⟩ (Nat.le_of_ble_eq_true rfl) (Nat.zero_le _) (Nat.zero_le _) (fun v_102 w_103 hp_104 => ?_)
                obtain ⟨B0_105, B1_106, B2_107, B3_108, B4_109, hr2_110, hn2_111, G0_112, G1_113, G2_114, G3_115, G4_116, G5_117, F1_118, F2_119, F3_120, rfl, rfl⟩ := hp_104
                refine ⟨rfl, ?_⟩
                refine z_eq (ws2 := [eX4 h hT hN hU hA hK hW hL hZ (nI sg) (nI ev), eX0 hN (nI (s 0)) (nI (s 1)) (nI (s 2)) (nI (s 3)) (nI (s 4)), eX0 hU B0_105 B1_106 B2_107 B3_108 B4_109, eX3 hW hr2_110 hn2_111 ho G0_112 G1_113 G2_114 G3_115 G4_116 G5_117, eL t hr2_110 33 F1_118, eL t hn2_111 33 F2_119, eL t ho 11 F3_120]) (st2 := [.long (-1)]) rfl rfl rfl ?_
                refine z_lstore X (pc := 103) (i := 8) [(8, .long (-1)), (3, .long (lN (rch (s 3) (s 4) 0 ((s 0) - k_) (s 1 + k_) (s 2)))), (2, .int (nI k_)), (6, .long (lN (rch (s 3) (s 4) 0 ((s 0) - k_) (s 1 + k_) (s 2)))), (0, .ref h), (1, .int (nI wt)), (5, .int (nI k_))] dX4_over_103 trivial (by decide) rfl ?_
                refine z_lload X (pc := 105) 0 dX4_over_105 rfl ?_
                refine z_lload_n X (pc := 107) 1 dX4_over_107 rfl ?_
                refine z_lcmp_le X (pc := 108) 119 dX4_over_108 dX4_over_109 (by decide) (fun c_108 => ?_) (fun c_108 => absurd c_108 (fun z => z (m1_le _ (by first | omega | exact Nat.lt_trans (rch_lt _ _ _ _ _ _) (by decide)))))
                refine z_iinc X (pc := 119) (i := 5) 6 (nI (k_ + 1)) [(5, .int (nI (k_ + 1))), (8, .long (-1)), (3, .long (lN (rch (s 3) (s 4) 0 ((s 0) - k_) (s 1 + k_) (s 2)))), (2, .int (nI k_)), (6, .long (lN (rch (s 3) (s 4) 0 ((s 0) - k_) (s 1 + k_) (s 2)))), (0, .ref h), (1, .int (nI wt))] dX4_over_119 rfl (nI_incc k_ 1) (by decide) rfl ?_
                refine z_goto X (pc := 122) 33 dX4_over_122 (by decide) ?_
                refine z_lv [5, 6, 3, 2, 0] (lv2 := [(0, .ref h), (1, .int (nI wt)), (2, .int (nI k_)), (3, .long (lN (rch (s 3) (s 4) 0 ((s 0) - k_) (s 1 + k_) (s 2)))), (5, .int (nI (k_ + 1)))]) rfl ?_
                exact ih_33 (k_ + 1) (nI k_) (ovr s (s 0 - k_) (s 1 + k_)) hr2_110 hn2_111 B0_105 B1_106 B2_107 B3_108 B4_109 G0_112 G1_113 G2_114 G3_115 G4_116 G5_117 F1_118 F2_119 F3_120 (by omega) (by omega) (by rw [show k_ + 1 - 1 = (k_ - 1) + 1 by omega, ov_s, ← hov, show k_ - 1 + 1 = k_ by omega]; unfold ovA; rw [if_pos ⟨hcaA, hcA⟩]; unfold ovB; rw [if_neg (fun z => hcaB z.1)])
          · skip
            refine z_aload_n X (pc := 40) 0 dX4_over_40 rfl ?_
            refine z_aload_n X (pc := 41) 0 dX4_over_41 rfl ?_
            refine z_get X (pc := 42) 0 1 (.ref hN) tu_4 tw_145 dX4_over_42 rfl rfl (by decide) rfl rfl ?_
            refine z_get X (pc := 45) 1 0 (.int (nI (s 0))) tu_0 tw_30 dX4_over_45 rfl rfl (by decide) rfl rfl ?_
            refine z_iload X (pc := 48) 4 dX4_over_48 rfl ?_
            refine z_isub X (pc := 50) (v := ((nI (s 0)) - (nI k_))) dX4_over_50 rfl ?_
            refine z_aload_n X (pc := 51) 0 dX4_over_51 rfl ?_
            refine z_get X (pc := 52) 0 1 (.ref hN) tu_4 tw_145 dX4_over_52 rfl rfl (by decide) rfl rfl ?_
            refine z_get X (pc := 55) 1 1 (.int (nI (s 1))) tu_0 tw_33 dX4_over_55 rfl rfl (by decide) rfl rfl ?_
            refine z_iload X (pc := 58) 4 dX4_over_58 rfl ?_
            refine z_iadd X (pc := 60) (v := (nI (s 1 + k_))) dX4_over_60 (nI_add (s 1) k_) ?_
            refine zc_V (as := [.int ((nI (s 0)) - (nI k_)), .int (nI (s 1 + k_))]) X (pc := 61) (c_X4_reachesWithn lq D t h hT hN hU hA hK hW hL hZ sg ev s hr hn ho b0 b1 b2 b3 b4 g0 g1 g2 g3 g4 g5 f1 f2 f3 ((nI (s 0)) - (nI k_)) (nI (s 1 + k_)) (ov_raw hs0 hs1 (by omega) hcaA)) tw_453 tw_456 tw_1 tw_455 tw_1017 0 4 rfl rfl [0, 1, 2, 3, 4, 5, 6] rfl rfl dX4_over_61 rfl zdX4_reachesWith ⟨rfl, rfl, Nat.le_of_ble_eq_true rfl, Nat.le_of_ble_eq_true rfl⟩ (Nat.le_of_ble_eq_true rfl) (Nat.zero_le _) (Nat.zero_le _) (fun v_121 w_122 hp_123 => ?_)
            obtain ⟨B0_124, B1_125, B2_126, B3_127, B4_128, hr2_129, hn2_130, G0_131, G1_132, G2_133, G3_134, G4_135, G5_136, F1_137, F2_138, F3_139, rfl, rfl⟩ := hp_123
            refine ⟨rfl, ?_⟩
            refine z_eq (ws2 := [eX4 h hT hN hU hA hK hW hL hZ (nI sg) (nI ev), eX0 hN (nI (s 0)) (nI (s 1)) (nI (s 2)) (nI (s 3)) (nI (s 4)), eX0 hU B0_124 B1_125 B2_126 B3_127 B4_128, eX3 hW hr2_129 hn2_130 ho G0_131 G1_132 G2_133 G3_134 G4_135 G5_136, eL t hr2_129 33 F1_137, eL t hn2_130 33 F2_138, eL t ho 11 F3_139]) (st2 := [.long (-1)]) rfl rfl rfl ?_
            refine z_lstore X (pc := 64) (i := 6) [(6, .long (-1)), (0, .ref h), (1, .int (nI wt)), (2, .int bs), (3, .long (lN mo)), (5, .int (nI k_))] dX4_over_64 trivial (by decide) rfl ?_
            refine z_lload X (pc := 66) 0 dX4_over_66 rfl ?_
            refine z_lload_n X (pc := 68) 4 dX4_over_68 rfl ?_
            refine z_lcmp_le X (pc := 69) 79 dX4_over_69 dX4_over_70 (by decide) (fun c_69 => ?_) (fun c_69 => absurd c_69 (fun z => z (m1_le mo (by omega))))
            by_cases hcaB : k_ ≤ s 1 ∧ s 0 + k_ ≤ 10
            · skip
              refine z_aload_n X (pc := 79) 1 dX4_over_79 rfl ?_
              refine z_aload_n X (pc := 80) 1 dX4_over_80 rfl ?_
              refine z_get X (pc := 81) 0 1 (.ref hN) tu_4 tw_145 dX4_over_81 rfl rfl (by decide) rfl rfl ?_
              refine z_get X (pc := 84) 1 0 (.int (nI (s 0))) tu_0 tw_30 dX4_over_84 rfl rfl (by decide) rfl rfl ?_
              refine z_iload X (pc := 87) 5 dX4_over_87 rfl ?_
              refine z_iadd X (pc := 89) (v := (nI (s 0 + k_))) dX4_over_89 (nI_add (s 0) k_) ?_
              refine z_aload_n X (pc := 90) 1 dX4_over_90 rfl ?_
              refine z_get X (pc := 91) 0 1 (.ref hN) tu_4 tw_145 dX4_over_91 rfl rfl (by decide) rfl rfl ?_
              refine z_get X (pc := 94) 1 1 (.int (nI (s 1))) tu_0 tw_33 dX4_over_94 rfl rfl (by decide) rfl rfl ?_
              refine z_iload X (pc := 97) 5 dX4_over_97 rfl ?_
              refine z_isub X (pc := 99) (v := (nI ((s 1) - k_))) dX4_over_99 (pk_sub (by omega)) ?_
              refine zc_V (as := [.int (nI (s 0 + k_)), .int (nI ((s 1) - k_))]) X (pc := 100) (c_X4_reachesWithy lq D t h hT hN hU hA hK hW hL hZ sg ev s hr2_129 hn2_130 ho B0_124 B1_125 B2_126 B3_127 B4_128 G0_131 G1_132 G2_133 G3_134 G4_135 G5_136 F1_137 F2_138 F3_139 (s 0 + k_) ((s 1) - k_) hsk (by omega) (by omega)) tw_453 tw_456 tw_1 tw_455 tw_1017 0 4 rfl rfl [0, 1, 2, 3, 4, 5, 6] rfl rfl dX4_over_100 rfl zdX4_reachesWith ⟨rfl, rfl, Nat.le_of_ble_eq_true rfl, Nat.le_of_ble_eq_true rfl⟩ (Nat.le_of_ble_eq_true rfl) (Nat.zero_le _) (Nat.zero_le _) (fun v_140 w_141 hp_142 => ?_)
              obtain ⟨B0_143, B1_144, B2_145, B3_146, B4_147, hr2_148, hn2_149, G0_150, G1_151, G2_152, G3_153, G4_154, G5_155, F1_156, F2_157, F3_158, rfl, rfl⟩ := hp_142
              refine ⟨rfl, ?_⟩
              refine z_eq (ws2 := [eX4 h hT hN hU hA hK hW hL hZ (nI sg) (nI ev), eX0 hN (nI (s 0)) (nI (s 1)) (nI (s 2)) (nI (s 3)) (nI (s 4)), eX0 hU B0_143 B1_144 B2_145 B3_146 B4_147, eX3 hW hr2_148 hn2_149 ho G0_150 G1_151 G2_152 G3_153 G4_154 G5_155, eL t hr2_148 33 F1_156, eL t hn2_149 33 F2_157, eL t ho 11 F3_158]) (st2 := [.long (lN (rch (s 3) (s 4) 0 (s 0 + k_) ((s 1) - k_) (s 2)))]) rfl rfl rfl ?_
              refine z_lstore X (pc := 103) (i := 8) [(8, .long (lN (rch (s 3) (s 4) 0 (s 0 + k_) ((s 1) - k_) (s 2)))), (6, .long (-1)), (0, .ref h), (1, .int (nI wt)), (2, .int bs), (3, .long (lN mo)), (5, .int (nI k_))] dX4_over_103 trivial (by decide) rfl ?_
              refine z_lload X (pc := 105) 0 dX4_over_105 rfl ?_
              refine z_lload_n X (pc := 107) 5 dX4_over_107 rfl ?_
              refine z_lcmp_leN X (pc := 108) 119 (Nat.lt_trans (rch_lt _ _ _ _ _ _) (by decide)) (by first | omega | exact Nat.lt_trans (rch_lt _ _ _ _ _ _) (by decide)) dX4_over_108 dX4_over_109 (by decide) (fun c_108 => ?_) (fun c_108 => ?_)
              · skip
                have hcB := Nat.not_lt.mpr c_108
                refine z_iinc X (pc := 119) (i := 5) 6 (nI (k_ + 1)) [(5, .int (nI (k_ + 1))), (8, .long (lN (rch (s 3) (s 4) 0 (s 0 + k_) ((s 1) - k_) (s 2)))), (6, .long (-1)), (0, .ref h), (1, .int (nI wt)), (2, .int bs), (3, .long (lN mo))] dX4_over_119 rfl (nI_incc k_ 1) (by decide) rfl ?_
                refine z_goto X (pc := 122) 33 dX4_over_122 (by decide) ?_
                refine z_lv [3, 4, 5, 6, 0] (lv2 := [(0, .ref h), (1, .int (nI wt)), (2, .int bs), (3, .long (lN mo)), (5, .int (nI (k_ + 1)))]) rfl ?_
                exact ih_33 (k_ + 1) bs mo hr2_148 hn2_149 B0_143 B1_144 B2_145 B3_146 B4_147 G0_150 G1_151 G2_152 G3_153 G4_154 G5_155 F1_156 F2_157 F3_158 (by omega) (by omega) (by rw [show k_ + 1 - 1 = (k_ - 1) + 1 by omega, ov_s, ← hov, show k_ - 1 + 1 = k_ by omega]; unfold ovA; rw [if_neg (fun z => hcaA z.1)]; unfold ovB; rw [if_neg (fun z => hcB z.2)])
              · skip
                have hcB := Nat.not_le.mp c_108
                refine z_iload X (pc := 112) 6 dX4_over_112 rfl ?_
                refine z_ineg X (pc := 114) (v := (-(nI k_))) dX4_over_114 rfl ?_
                refine z_istore_n X (pc := 115) (i := 2) [(2, .int (-(nI k_))), (8, .long (lN (rch (s 3) (s 4) 0 (s 0 + k_) ((s 1) - k_) (s 2)))), (6, .long (-1)), (0, .ref h), (1, .int (nI wt)), (3, .long (lN mo)), (5, .int (nI k_))] dX4_over_115 rfl (by decide) rfl ?_
                refine z_lload X (pc := 116) 1 dX4_over_116 rfl ?_
                refine z_lstore_n X (pc := 118) (i := 3) [(3, .long (lN (rch (s 3) (s 4) 0 (s 0 + k_) ((s 1) - k_) (s 2)))), (2, .int (-(nI k_))), (8, .long (lN (rch (s 3) (s 4) 0 (s 0 + k_) ((s 1) - k_) (s 2)))), (6, .long (-1)), (0, .ref h), (1, .int (nI wt)), (5, .int (nI k_))] dX4_over_118 rfl (by decide) rfl ?_
                refine z_iinc X (pc := 119) (i := 5) 6 (nI (k_ + 1)) [(5, .int (nI (k_ + 1))), (3, .long (lN (rch (s 3) (s 4) 0 (s 0 + k_) ((s 1) - k_) (s 2)))), (2, .int (-(nI k_))), (8, .long (lN (rch (s 3) (s 4) 0 (s 0 + k_) ((s 1) - k_) (s 2)))), (6, .long (-1)), (0, .ref h), (1, .int (nI wt))] dX4_over_119 rfl (nI_incc k_ 1) (by decide) rfl ?_
                refine z_goto X (pc := 122) 33 dX4_over_122 (by decide) ?_
                refine z_lv [5, 6, 2, 1, 0] (lv2 := [(0, .ref h), (1, .int (nI wt)), (2, .int (-(nI k_))), (3, .long (lN (rch (s 3) (s 4) 0 (s 0 + k_) ((s 1) - k_) (s 2)))), (5, .int (nI (k_ + 1)))]) rfl ?_
                exact ih_33 (k_ + 1) (-(nI k_)) (ovr s (s 0 + k_) (s 1 - k_)) hr2_148 hn2_149 B0_143 B1_144 B2_145 B3_146 B4_147 G0_150 G1_151 G2_152 G3_153 G4_154 G5_155 F1_156 F2_157 F3_158 (by omega) (by omega) (by rw [show k_ + 1 - 1 = (k_ - 1) + 1 by omega, ov_s, ← hov, show k_ - 1 + 1 = k_ by omega]; unfold ovA; rw [if_neg (fun z => hcaA z.1)]; unfold ovB; rw [if_pos ⟨hcaB, hcB⟩])
            · skip
              refine z_aload_n X (pc := 79) 1 dX4_over_79 rfl ?_
              refine z_aload_n X (pc := 80) 1 dX4_over_80 rfl ?_
              refine z_get X (pc := 81) 0 1 (.ref hN) tu_4 tw_145 dX4_over_81 rfl rfl (by decide) rfl rfl ?_
              refine z_get X (pc := 84) 1 0 (.int (nI (s 0))) tu_0 tw_30 dX4_over_84 rfl rfl (by decide) rfl rfl ?_
              refine z_iload X (pc := 87) 5 dX4_over_87 rfl ?_
              refine z_iadd X (pc := 89) (v := (nI (s 0 + k_))) dX4_over_89 (nI_add (s 0) k_) ?_
              refine z_aload_n X (pc := 90) 1 dX4_over_90 rfl ?_
              refine z_get X (pc := 91) 0 1 (.ref hN) tu_4 tw_145 dX4_over_91 rfl rfl (by decide) rfl rfl ?_
              refine z_get X (pc := 94) 1 1 (.int (nI (s 1))) tu_0 tw_33 dX4_over_94 rfl rfl (by decide) rfl rfl ?_
              refine z_iload X (pc := 97) 5 dX4_over_97 rfl ?_
              refine z_isub X (pc := 99) (v := ((nI (s 1)) - (nI k_))) dX4_over_99 rfl ?_
              refine zc_V (as := [.int (nI (s 0 + k_)), .int ((nI (s 1)) - (nI k_))]) X (pc := 100) (c_X4_reachesWithn lq D t h hT hN hU hA hK hW hL hZ sg ev s hr2_129 hn2_130 ho B0_124 B1_125 B2_126 B3_127 B4_128 G0_131 G1_132 G2_133 G3_134 G4_135 G5_136 F1_137 F2_138 F3_139 (nI (s 0 + k_)) ((nI (s 1)) - (nI k_)) (ov_raw2 hs0 hs1 (by omega) hcaB)) tw_453 tw_456 tw_1 tw_455 tw_1017 0 4 rfl rfl [0, 1, 2, 3, 4, 5, 6] rfl rfl dX4_over_100 rfl zdX4_reachesWith ⟨rfl, rfl, Nat.le_of_ble_eq_true rfl, Nat.le_of_ble_eq_true rfl⟩ (Nat.le_of_ble_eq_true rfl) (Nat.zero_le _) (Nat.zero_le _) (fun v_159 w_160 hp_161 => ?_)
              obtain ⟨B0_162, B1_163, B2_164, B3_165, B4_166, hr2_167, hn2_168, G0_169, G1_170, G2_171, G3_172, G4_173, G5_174, F1_175, F2_176, F3_177, rfl, rfl⟩ := hp_161
              refine ⟨rfl, ?_⟩
              refine z_eq (ws2 := [eX4 h hT hN hU hA hK hW hL hZ (nI sg) (nI ev), eX0 hN (nI (s 0)) (nI (s 1)) (nI (s 2)) (nI (s 3)) (nI (s 4)), eX0 hU B0_162 B1_163 B2_164 B3_165 B4_166, eX3 hW hr2_167 hn2_168 ho G0_169 G1_170 G2_171 G3_172 G4_173 G5_174, eL t hr2_167 33 F1_175, eL t hn2_168 33 F2_176, eL t ho 11 F3_177]) (st2 := [.long (-1)]) rfl rfl rfl ?_
              refine z_lstore X (pc := 103) (i := 8) [(8, .long (-1)), (6, .long (-1)), (0, .ref h), (1, .int (nI wt)), (2, .int bs), (3, .long (lN mo)), (5, .int (nI k_))] dX4_over_103 trivial (by decide) rfl ?_
              refine z_lload X (pc := 105) 0 dX4_over_105 rfl ?_
              refine z_lload_n X (pc := 107) 5 dX4_over_107 rfl ?_
              refine z_lcmp_le X (pc := 108) 119 dX4_over_108 dX4_over_109 (by decide) (fun c_108 => ?_) (fun c_108 => absurd c_108 (fun z => z (m1_le _ (by first | omega | exact Nat.lt_trans (rch_lt _ _ _ _ _ _) (by decide)))))
              refine z_iinc X (pc := 119) (i := 5) 6 (nI (k_ + 1)) [(5, .int (nI (k_ + 1))), (8, .long (-1)), (6, .long (-1)), (0, .ref h), (1, .int (nI wt)), (2, .int bs), (3, .long (lN mo))] dX4_over_119 rfl (nI_incc k_ 1) (by decide) rfl ?_
              refine z_goto X (pc := 122) 33 dX4_over_122 (by decide) ?_
              refine z_lv [3, 4, 5, 6, 0] (lv2 := [(0, .ref h), (1, .int (nI wt)), (2, .int bs), (3, .long (lN mo)), (5, .int (nI (k_ + 1)))]) rfl ?_
              exact ih_33 (k_ + 1) bs mo hr2_167 hn2_168 B0_162 B1_163 B2_164 B3_165 B4_166 G0_169 G1_170 G2_171 G3_172 G4_173 G5_174 F1_175 F2_176 F3_177 (by omega) (by omega) (by rw [show k_ + 1 - 1 = (k_ - 1) + 1 by omega, ov_s, ← hov, show k_ - 1 + 1 = k_ by omega]; unfold ovA; rw [if_neg (fun z => hcaA z.1)]; unfold ovB; rw [if_neg (fun z => hcaB z.1)])
    refine z_lv [3, 4, 2, 1, 0] (lv2 := [(0, .ref h), (1, .int (nI wt)), (2, .int (nI 0)), (3, .long (lN (rch (s 3) (s 4) 0 (s 0) (s 1) (s 2)))), (5, .int (nI 1))]) rfl ?_
    exact loop_33 12 1 (nI 0) (ovr s (s 0) (s 1)) hr2_12 hn2_13 B0_7 B1_8 B2_9 B3_10 B4_11 G0_14 G1_15 G2_16 G3_17 G4_18 G5_19 F1_20 F2_21 F3_22 (by omega) (by omega) (ov_z s).symm
  · skip
    refine z_iconst X (pc := 7) (-1) dX4_over_7 (by decide) ?_
    exact hRet.i dX4_over_8 ⟨b0, b1, b2, b3, b4, hr, hn, g0, g1, g2, g3, g4, g5, f1, f2, f3, by rw [dz_bad c_4]; rfl, rfl⟩

abbrev rm_X4_begin : Room := { frames := 4, cells := 0, slots := 0, locals := 101 }
set_option maxHeartbeats 4000000 in
set_option maxRecDepth 100000 in
theorem c_X4_begin (lq : Launch) (D : va_G) (t : zT) (h hT hN hU hA hK hW hL hZ sg ev : Nat) (s : Nat → Nat) (hr hn ho : Nat) (b0 b1 b2 b3 b4 g0 g1 g2 g3 : Int32) (g4 g5 : Int64) (f1 f2 f3 : Nat → Int64) (e1 e2 e3 : Int32) (hs : sOk s) : Ct lq D t yX4_begin cX4_begin 8 (some .int) rm_X4_begin [.ref h, .int e1, .int e2, .int e3] [eX4 h hT hN hU hA hK hW hL hZ (nI sg) (nI ev), eX0 hN (nI (s 0)) (nI (s 1)) (nI (s 2)) (nI (s 3)) (nI (s 4)), eX0 hU b0 b1 b2 b3 b4, eX3 hW hr hn ho g0 g1 g2 g3 g4 g5, eL t hr 33 f1, eL t hn 33 f2, eL t ho 11 f3] 0 0 (fun rv rw_ => ∃ (B0 : Int32) (B1 : Int32) (B2 : Int32) (B3 : Int32) (B4 : Int32) (hr2 : Nat) (hn2 : Nat) (G0 : Int32) (G1 : Int32) (G2 : Int32) (G3 : Int32) (G4 : Int64) (G5 : Int64) (F1 : Nat → Int64) (F2 : Nat → Int64) (F3 : Nat → Int64), rv = some (.int (an_begin s (dz 0 20 e1) (dz 0 21 e2) (dz 0 1 e3))) ∧ rw_ = [eX4 h hT hN hU hA hK hW hL hZ (nI sg) (nI ev), eX0 hN (nI (s 0)) (nI (s 1)) (nI (s 2)) (nI (s 3)) (nI (s 4)), eX0 hU B0 B1 B2 B3 B4, eX3 hW hr2 hn2 ho G0 G1 G2 G3 G4 G5, eL t hr2 33 F1, eL t hn2 33 F2, eL t ho 11 F3]) := by
  refine Ct.of (by decide) (Nat.le_of_ble_eq_true rfl) (fun k X hRet => ?_)
  have X : zX D t k cX4_begin 8 RX4 "begin" rm_X4_begin lq := X
  refine z_eq (lv2 := [(0, .ref h), (1, .int e1), (2, .int e2), (3, .int e3)]) rfl rfl rfl ?_
  have hsk := hs
  obtain ⟨hs0, hs1, hs2, hs3, hs4⟩ := hs
  refine z_iload_n X (pc := 0) 1 dX4_begin_0 rfl ?_
  refine z_iconst X (pc := 1) (nI 0) dX4_begin_1 (by decide) ?_
  refine z_bipush X (pc := 2) (nI 20) dX4_begin_2 (by decide) ?_
  refine zc_S (as := [.int e1, .int (nI 0), .int (nI 20)]) X (pc := 4) (c_X4_within lq D t e1 (nI 0) (nI 20) ) tw_180 tw_182 tw_1 tw_181 [] rfl rfl dX4_begin_4 rfl zdX4_within ⟨rfl, rfl, Nat.le_of_ble_eq_true rfl, Nat.le_of_ble_eq_true rfl⟩ (Nat.le_of_ble_eq_true rfl) (Nat.zero_le _) (Nat.zero_le _) (fun v_1 w_2 hp_3 => ?_)
  obtain ⟨rfl, rfl⟩ := hp_3
  refine ⟨rfl, ?_⟩
  refine z_eq (ws2 := [eX4 h hT hN hU hA hK hW hL hZ (nI sg) (nI ev), eX0 hN (nI (s 0)) (nI (s 1)) (nI (s 2)) (nI (s 3)) (nI (s 4)), eX0 hU b0 b1 b2 b3 b4, eX3 hW hr hn ho g0 g1 g2 g3 g4 g5, eL t hr 33 f1, eL t hn 33 f2, eL t ho 11 f3]) (st2 := [.int (zb ((nI 0) ≤ e1 ∧ e1 ≤ (nI 20)))]) rfl rfl rfl ?_
  refine z_if_eqB X (pc := 7) 27 dX4_begin_7 (by decide) (fun c_7 => ?_) (fun c_7 => ?_)
  · skip
    refine z_iconst X (pc := 27) (-1) dX4_begin_27 (by decide) ?_
    exact hRet.i dX4_begin_28 ⟨b0, b1, b2, b3, b4, hr, hn, g0, g1, g2, g3, g4, g5, f1, f2, f3, by rw [dz_bad (a := 0) (b := 20) c_7]; rfl, rfl⟩
  · skip
    refine z_iload_n X (pc := 10) 2 dX4_begin_10 rfl ?_
    refine z_iconst X (pc := 11) (nI 0) dX4_begin_11 (by decide) ?_
    refine z_bipush X (pc := 12) (nI 21) dX4_begin_12 (by decide) ?_
    refine zc_S (as := [.int e2, .int (nI 0), .int (nI 21)]) X (pc := 14) (c_X4_within lq D t e2 (nI 0) (nI 21) ) tw_180 tw_182 tw_1 tw_181 [] rfl rfl dX4_begin_14 rfl zdX4_within ⟨rfl, rfl, Nat.le_of_ble_eq_true rfl, Nat.le_of_ble_eq_true rfl⟩ (Nat.le_of_ble_eq_true rfl) (Nat.zero_le _) (Nat.zero_le _) (fun v_4 w_5 hp_6 => ?_)
    obtain ⟨rfl, rfl⟩ := hp_6
    refine ⟨rfl, ?_⟩
    refine z_eq (ws2 := [eX4 h hT hN hU hA hK hW hL hZ (nI sg) (nI ev), eX0 hN (nI (s 0)) (nI (s 1)) (nI (s 2)) (nI (s 3)) (nI (s 4)), eX0 hU b0 b1 b2 b3 b4, eX3 hW hr hn ho g0 g1 g2 g3 g4 g5, eL t hr 33 f1, eL t hn 33 f2, eL t ho 11 f3]) (st2 := [.int (zb ((nI 0) ≤ e2 ∧ e2 ≤ (nI 21)))]) rfl rfl rfl ?_
    refine z_if_eqB X (pc := 17) 27 dX4_begin_17 (by decide) (fun c_17 => ?_) (fun c_17 => ?_)
    · skip
      refine z_iconst X (pc := 27) (-1) dX4_begin_27 (by decide) ?_
      exact hRet.i dX4_begin_28 ⟨b0, b1, b2, b3, b4, hr, hn, g0, g1, g2, g3, g4, g5, f1, f2, f3, by rw [dz_bad (a := 0) (b := 21) c_17]; cases dz 0 20 e1 <;> rfl, rfl⟩
    · skip
      refine z_iload_n X (pc := 20) 3 dX4_begin_20 rfl ?_
      refine zc_S (as := [.int e3]) X (pc := 21) (c_X4_isPart lq D t e3 ) tw_462 tw_464 tw_1 tw_463 [] rfl rfl dX4_begin_21 rfl zdX4_isPart ⟨rfl, rfl, Nat.le_of_ble_eq_true rfl, Nat.le_of_ble_eq_true rfl⟩ (Nat.le_of_ble_eq_true rfl) (Nat.zero_le _) (Nat.zero_le _) (fun v_7 w_8 hp_9 => ?_)
      obtain ⟨rfl, rfl⟩ := hp_9
      refine ⟨rfl, ?_⟩
      refine z_eq (ws2 := [eX4 h hT hN hU hA hK hW hL hZ (nI sg) (nI ev), eX0 hN (nI (s 0)) (nI (s 1)) (nI (s 2)) (nI (s 3)) (nI (s 4)), eX0 hU b0 b1 b2 b3 b4, eX3 hW hr hn ho g0 g1 g2 g3 g4 g5, eL t hr 33 f1, eL t hn 33 f2, eL t ho 11 f3]) (st2 := [.int (zb (nI 0 ≤ e3 ∧ e3 ≤ nI 1))]) rfl rfl rfl ?_
      refine z_if_neB X (pc := 24) 29 dX4_begin_24 (by decide) (fun c_24 => ?_) (fun c_24 => ?_)
      · skip
        obtain ⟨tt, tt_lo, tt_hi, rfl⟩ := inR (by decide) (by decide) c_7
        obtain ⟨n, n_lo, n_hi, rfl⟩ := inR (by decide) (by decide) c_17
        obtain ⟨wt, wt_lo, wt_hi, rfl⟩ := inR (by decide) (by decide) c_24
        refine z_iconst X (pc := 29) (nI 0) dX4_begin_29 (by decide) ?_
        refine z_istore X (pc := 30) (i := 4) [(4, .int (nI 0)), (0, .ref h), (1, .int (nI tt)), (2, .int (nI n)), (3, .int (nI wt))] dX4_begin_30 trivial (by decide) rfl ?_
        refine z_ldc2 X (pc := 32) (-1) dX4_begin_32 tw_457 ?_
        refine z_lstore X (pc := 35) (i := 5) [(5, .long (-1)), (4, .int (nI 0)), (0, .ref h), (1, .int (nI tt)), (2, .int (nI n)), (3, .int (nI wt))] dX4_begin_35 trivial (by decide) rfl ?_
        refine z_iconst X (pc := 37) (nI 0) dX4_begin_37 (by decide) ?_
        refine z_istore X (pc := 38) (i := 7) [(7, .int (nI 0)), (5, .long (-1)), (4, .int (nI 0)), (0, .ref h), (1, .int (nI tt)), (2, .int (nI n)), (3, .int (nI wt))] dX4_begin_38 trivial (by decide) rfl ?_
        have loop_40 : ∀ (fuel_40 : Nat) (l : Nat) (o : Option (Nat × Nat)) (hr : Nat) (hn : Nat) (b0 : Int32) (b1 : Int32) (b2 : Int32) (b3 : Int32) (b4 : Int32) (g0 : Int32) (g1 : Int32) (g2 : Int32) (g3 : Int32) (g4 : Int64) (g5 : Int64) (f1 : Nat → Int64) (f2 : Nat → Int64) (f3 : Nat → Int64), 11 < l + fuel_40 → (l ≤ 11) → (o = bgn s tt n l) → Z D k (0, 0) [eX4 h hT hN hU hA hK hW hL hZ (nI sg) (nI ev), eX0 hN (nI (s 0)) (nI (s 1)) (nI (s 2)) (nI (s 3)) (nI (s 4)), eX0 hU b0 b1 b2 b3 b4, eX3 hW hr hn ho g0 g1 g2 g3 g4 g5, eL t hr 33 f1, eL t hn 33 f2, eL t ho 11 f3] 40 [(0, .ref h), (1, .int (nI tt)), (2, .int (nI n)), (3, .int (nI wt)), (4, .int (nI (bgB o))), (5, .long (bgC o)), (7, .int (nI l))] [] := by
          intro fuel_40
          induction fuel_40 with
          | zero =>
            intro l o hr hn b0 b1 b2 b3 b4 g0 g1 g2 g3 g4 g5 f1 f2 f3 hfuel_40 hl hbo
            exfalso; omega
          | succ fuel_40 ih_40 =>
            intro l o hr hn b0 b1 b2 b3 b4 g0 g1 g2 g3 g4 g5 f1 f2 f3 hfuel_40 hl hbo
            refine z_iload X (pc := 40) 6 dX4_begin_40 rfl ?_
            refine z_bipush X (pc := 42) (nI 10) dX4_begin_42 (by decide) ?_
            refine z_icmp_gtN X (pc := 44) 114 (by omega) (by omega) dX4_begin_44 (by decide) (fun c_44 => ?_) (fun c_44 => ?_)
            · skip
              obtain rfl : l = 11 := by omega
              obtain ⟨p9, hp8⟩ := @bgn_some s tt n 11 (tt - 10) (by omega) (by omega)
              have hp9 : some p9 = bgn s tt n 11 := hp8.symm
              obtain rfl : o = some p9 := hbo.trans hp8
              have hple := bgn_le hsk (by decide) p9 hp8
              refine z_eq (lv2 := [(0, .ref h), (1, .int (nI tt)), (2, .int (nI n)), (3, .int (nI wt)), (4, .int (nI p9.1)), (5, .long (lN (4398046511104 - p9.2))), (7, .int (nI 11))]) rfl rfl rfl ?_
              refine z_iload_n X (pc := 114) 3 dX4_begin_114 rfl ?_
              refine z_if_neN X (pc := 115) 123 (by omega) dX4_begin_115 (by decide) (fun c_115 => ?_) (fun c_115 => ?_)
              · skip
                refine z_lload X (pc := 123) 5 dX4_begin_123 rfl ?_
                refine zc_S (as := [.long (lN (4398046511104 - p9.2))]) X (pc := 125) (c_X4_tenThousandthsN lq D t (4398046511104 - p9.2) (by omega)) tw_408 tw_410 tw_1 tw_409 [] rfl rfl dX4_begin_125 rfl zdX4_tenThousandths ⟨rfl, rfl, Nat.le_of_ble_eq_true rfl, Nat.le_of_ble_eq_true rfl⟩ (Nat.le_of_ble_eq_true rfl) (Nat.zero_le _) (Nat.zero_le _) (fun v_10 w_11 hp_12 => ?_)
                obtain ⟨rfl, rfl⟩ := hp_12
                refine ⟨rfl, ?_⟩
                refine z_eq (ws2 := [eX4 h hT hN hU hA hK hW hL hZ (nI sg) (nI ev), eX0 hN (nI (s 0)) (nI (s 1)) (nI (s 2)) (nI (s 3)) (nI (s 4)), eX0 hU b0 b1 b2 b3 b4, eX3 hW hr hn ho g0 g1 g2 g3 g4 g5, eL t hr 33 f1, eL t hn 33 f2, eL t ho 11 f3]) (st2 := [.int (nI ((4398046511104 - p9.2) * 10000 / 4398046511104))]) rfl rfl rfl ?_
                exact hRet.i dX4_begin_128 ⟨b0, b1, b2, b3, b4, hr, hn, g0, g1, g2, g3, g4, g5, f1, f2, f3, by rw [dz_ok (j := tt) (a := 0) (b := 20) (by decide) tt_lo tt_hi, dz_ok (j := n) (a := 0) (b := 21) (by decide) n_lo n_hi, dz_ok (j := wt) (a := 0) (b := 1) (by decide) wt_lo wt_hi]; simp only [an_begin, ← hp9, if_neg c_115], rfl⟩
              · skip
                refine z_iload X (pc := 118) 4 dX4_begin_118 rfl ?_
                refine z_goto X (pc := 120) 128 dX4_begin_120 (by decide) ?_
                exact hRet.i dX4_begin_128 ⟨b0, b1, b2, b3, b4, hr, hn, g0, g1, g2, g3, g4, g5, f1, f2, f3, by rw [dz_ok (j := tt) (a := 0) (b := 20) (by decide) tt_lo tt_hi, dz_ok (j := n) (a := 0) (b := 21) (by decide) n_lo n_hi, dz_ok (j := wt) (a := 0) (b := 1) (by decide) wt_lo wt_hi]; simp only [an_begin, ← hp9, if_pos c_115], rfl⟩
            · skip
              refine z_iload_n X (pc := 47) 1 dX4_begin_47 rfl ?_
              refine z_iload X (pc := 48) 6 dX4_begin_48 rfl ?_
              refine z_isub X (pc := 50) (v := ((nI tt) - (nI l))) dX4_begin_50 rfl ?_
              refine z_iconst X (pc := 51) (nI 0) dX4_begin_51 (by decide) ?_
              refine z_bipush X (pc := 52) (nI 10) dX4_begin_52 (by decide) ?_
              refine zc_S (as := [.int ((nI tt) - (nI l)), .int (nI 0), .int (nI 10)]) X (pc := 54) (c_X4_within lq D t ((nI tt) - (nI l)) (nI 0) (nI 10) ) tw_180 tw_182 tw_1 tw_181 [] rfl rfl dX4_begin_54 rfl zdX4_within ⟨rfl, rfl, Nat.le_of_ble_eq_true rfl, Nat.le_of_ble_eq_true rfl⟩ (Nat.le_of_ble_eq_true rfl) (Nat.zero_le _) (Nat.zero_le _) (fun v_13 w_14 hp_15 => ?_)
              obtain ⟨rfl, rfl⟩ := hp_15
              refine ⟨rfl, ?_⟩
              refine z_eq (ws2 := [eX4 h hT hN hU hA hK hW hL hZ (nI sg) (nI ev), eX0 hN (nI (s 0)) (nI (s 1)) (nI (s 2)) (nI (s 3)) (nI (s 4)), eX0 hU b0 b1 b2 b3 b4, eX3 hW hr hn ho g0 g1 g2 g3 g4 g5, eL t hr 33 f1, eL t hn 33 f2, eL t ho 11 f3]) (st2 := [.int (zb ((nI 0) ≤ ((nI tt) - (nI l)) ∧ ((nI tt) - (nI l)) ≤ (nI 10)))]) rfl rfl rfl ?_
              refine z_if_neB X (pc := 57) 63 dX4_begin_57 (by decide) (fun c_57 => ?_) (fun c_57 => ?_)
              · skip
                have hv := (bg_raw (by omega) (by omega)).mp c_57
                refine z_aload_n X (pc := 63) 0 dX4_begin_63 rfl ?_
                refine z_iload X (pc := 64) 6 dX4_begin_64 rfl ?_
                refine z_iload_n X (pc := 66) 1 dX4_begin_66 rfl ?_
                refine z_iload X (pc := 67) 6 dX4_begin_67 rfl ?_
                refine z_isub X (pc := 69) (v := (nI (tt - l))) dX4_begin_69 (pk_sub (by omega)) ?_
                refine z_iconst X (pc := 70) (nI 0) dX4_begin_70 (by decide) ?_
                refine zc_V (as := [.int (nI l), .int (nI (tt - l)), .int (nI 0)]) X (pc := 71) (c_X4_startFrom lq D t h hT hN hU hA hK hW hL hZ sg ev s hr hn ho b0 b1 b2 b3 b4 g0 g1 g2 g3 g4 g5 f1 f2 f3 l (tt - l) 0 hsk (by omega) (by omega) (by omega)) tw_369 tw_372 tw_1 tw_371 tw_1013 0 4 rfl rfl [0, 1, 2, 3, 4, 5, 6] rfl rfl dX4_begin_71 rfl zdX4_startFrom ⟨rfl, rfl, Nat.le_of_ble_eq_true rfl, Nat.le_of_ble_eq_true rfl⟩ (Nat.le_of_ble_eq_true rfl) (Nat.zero_le _) (Nat.zero_le _) (fun v_16 w_17 hp_18 => ?_)
                obtain ⟨rfl, rfl⟩ := hp_18
                refine ⟨rfl, ?_⟩
                refine z_eq (ws2 := [eX4 h hT hN hU hA hK hW hL hZ (nI sg) (nI ev), eX0 hN (nI (s 0)) (nI (s 1)) (nI (s 2)) (nI (s 3)) (nI (s 4)), eX0 hU (nI l) (nI (tt - l)) (nI (s 2)) (nI (s 3)) (nI (s 4)), eX3 hW hr hn ho (nI 0) (nI (s 3)) (nI (s 4)) (nI (l + (tt - l))) (lN 4398046511104 - lN ((wst0 0 l (tt - l) (s 2)).2.2.1)) (lN ((wst0 0 l (tt - l) (s 2)).2.2.2)), eL t hr 33 (lf (fun j => (wst0 0 l (tt - l) (s 2)).1 j * 4 ^ 21)), eL t hn 33 f2, eL t ho 11 (lf ((wst0 0 l (tt - l) (s 2)).2.1))]) (st2 := []) rfl rfl rfl ?_
                refine z_aload_n X (pc := 74) 0 dX4_begin_74 rfl ?_
                refine z_get X (pc := 75) 0 5 (.ref hW) tu_4 tw_149 dX4_begin_75 rfl rfl (by decide) rfl rfl ?_
                refine z_iload_n X (pc := 78) 2 dX4_begin_78 rfl ?_
                refine zc_V (as := [.int (nI n)]) X (pc := 79) (c_X3_advance lq D t hW hr hn ho 0 (s 3) (s 4) (l + (tt - l)) 21 (nI (l + (tt - l))) (wst0 0 l (tt - l) (s 2)) f2 n (by decide) (by omega) (by omega) (by omega) (by decide) (wok0 (by omega) (by omega) hs2) (fun _ => rfl) (by omega)) tw_425 tw_428 tw_6 tw_426 tw_427 0 3 rfl rfl [3, 4, 5, 6] rfl rfl dX4_begin_79 rfl zdX3_advance ⟨rfl, rfl, Nat.le_of_ble_eq_true rfl, Nat.le_of_ble_eq_true rfl⟩ (Nat.le_of_ble_eq_true rfl) (Nat.zero_le _) (Nat.zero_le _) (fun v_19 w_20 hp_21 => ?_)
                obtain ⟨mt2_22, hr2_23, hn2_24, f2_25, hf_26, rfl, rfl⟩ := hp_21
                refine ⟨rfl, ?_⟩
                refine z_eq (ws2 := [eX4 h hT hN hU hA hK hW hL hZ (nI sg) (nI ev), eX0 hN (nI (s 0)) (nI (s 1)) (nI (s 2)) (nI (s 3)) (nI (s 4)), eX0 hU (nI l) (nI (tt - l)) (nI (s 2)) (nI (s 3)) (nI (s 4)), eX3 hW hr2_23 hn2_24 ho (nI 0) (nI (s 3)) (nI (s 4)) mt2_22 (lN 4398046511104 - lN ((wrun (s 3) (s 4) 0 (l + (tt - l)) 21 (wst0 0 l (tt - l) (s 2)) n).2.2.1)) (lN ((wrun (s 3) (s 4) 0 (l + (tt - l)) 21 (wst0 0 l (tt - l) (s 2)) n).2.2.2)), eL t hr2_23 33 (lf (fun j => (wrun (s 3) (s 4) 0 (l + (tt - l)) 21 (wst0 0 l (tt - l) (s 2)) n).1 j * 4 ^ (21 - n))), eL t hn2_24 33 f2_25, eL t ho 11 (lf ((wrun (s 3) (s 4) 0 (l + (tt - l)) 21 (wst0 0 l (tt - l) (s 2)) n).2.1))]) (st2 := []) rfl rfl rfl ?_
                have hbe := bge_le hsk (t := tt) (n := n) (l := l) (by omega) hv.2
                have hst := @bg_step o l (bge s tt n l) (fun p hp => (bgn_le hsk (by omega) p (hbo.symm.trans hp)).2) hbe
                refine z_aload_n X (pc := 82) 0 dX4_begin_82 rfl ?_
                refine z_get X (pc := 83) 0 5 (.ref hW) tu_4 tw_149 dX4_begin_83 rfl rfl (by decide) rfl rfl ?_
                refine zc_V (as := []) X (pc := 86) (c_X3_standing lq D t hW hr2_23 hn2_24 ho 0 (s 3) (s 4) mt2_22 (lN 4398046511104 - lN ((wrun (s 3) (s 4) 0 (l + (tt - l)) 21 (wst0 0 l (tt - l) (s 2)) n).2.2.1)) (lN ((wrun (s 3) (s 4) 0 (l + (tt - l)) 21 (wst0 0 l (tt - l) (s 2)) n).2.2.2)) ) tw_429 tw_432 tw_6 tw_430 tw_431 0 3 rfl rfl [3] rfl rfl dX4_begin_86 rfl zdX3_standing ⟨rfl, rfl, Nat.le_of_ble_eq_true rfl, Nat.le_of_ble_eq_true rfl⟩ (Nat.le_of_ble_eq_true rfl) (Nat.zero_le _) (Nat.zero_le _) (fun v_27 w_28 hp_29 => ?_)
                obtain ⟨rfl, rfl⟩ := hp_29
                refine ⟨rfl, ?_⟩
                refine z_eq (ws2 := [eX4 h hT hN hU hA hK hW hL hZ (nI sg) (nI ev), eX0 hN (nI (s 0)) (nI (s 1)) (nI (s 2)) (nI (s 3)) (nI (s 4)), eX0 hU (nI l) (nI (tt - l)) (nI (s 2)) (nI (s 3)) (nI (s 4)), eX3 hW hr2_23 hn2_24 ho (nI 0) (nI (s 3)) (nI (s 4)) mt2_22 (lN 4398046511104 - lN ((wrun (s 3) (s 4) 0 (l + (tt - l)) 21 (wst0 0 l (tt - l) (s 2)) n).2.2.1)) (lN ((wrun (s 3) (s 4) 0 (l + (tt - l)) 21 (wst0 0 l (tt - l) (s 2)) n).2.2.2)), eL t hr2_23 33 (lf (fun j => (wrun (s 3) (s 4) 0 (l + (tt - l)) 21 (wst0 0 l (tt - l) (s 2)) n).1 j * 4 ^ (21 - n))), eL t hn2_24 33 f2_25, eL t ho 11 (lf ((wrun (s 3) (s 4) 0 (l + (tt - l)) 21 (wst0 0 l (tt - l) (s 2)) n).2.1))]) (st2 := [.long (lN 4398046511104 - lN ((wrun (s 3) (s 4) 0 (l + (tt - l)) 21 (wst0 0 l (tt - l) (s 2)) n).2.2.1))]) rfl rfl rfl ?_
                refine z_topl (lN (4398046511104 - bge s tt n l)) (lN_som hbe) ?_
                refine z_lload X (pc := 89) 5 dX4_begin_89 rfl ?_
                refine z_lcmp_le X (pc := 91) 108 dX4_begin_91 dX4_begin_92 (by decide) (fun c_91 => ?_) (fun c_91 => ?_)
                · skip
                  refine z_iinc X (pc := 108) (i := 7) 6 (nI (l + 1)) [(7, .int (nI (l + 1))), (0, .ref h), (1, .int (nI tt)), (2, .int (nI n)), (3, .int (nI wt)), (4, .int (nI (bgB o))), (5, .long (bgC o))] dX4_begin_108 rfl (nI_incc l 1) (by decide) rfl ?_
                  refine z_goto X (pc := 111) 40 dX4_begin_111 (by decide) ?_
                  refine z_lv [1, 2, 3, 4, 5, 6, 0] (lv2 := [(0, .ref h), (1, .int (nI tt)), (2, .int (nI n)), (3, .int (nI wt)), (4, .int (nI (bgB o))), (5, .long (bgC o)), (7, .int (nI (l + 1)))]) rfl ?_
                  exact ih_40 (l + 1) o hr2_23 hn2_24 (nI l) (nI (tt - l)) (nI (s 2)) (nI (s 3)) (nI (s 4)) (nI 0) (nI (s 3)) (nI (s 4)) mt2_22 (lN 4398046511104 - lN ((wrun (s 3) (s 4) 0 (l + (tt - l)) 21 (wst0 0 l (tt - l) (s 2)) n).2.2.1)) (lN ((wrun (s 3) (s 4) 0 (l + (tt - l)) 21 (wst0 0 l (tt - l) (s 2)) n).2.2.2)) (lf (fun j => (wrun (s 3) (s 4) 0 (l + (tt - l)) 21 (wst0 0 l (tt - l) (s 2)) n).1 j * 4 ^ (21 - n))) f2_25 (lf ((wrun (s 3) (s 4) 0 (l + (tt - l)) 21 (wst0 0 l (tt - l) (s 2)) n).2.1)) (by omega) (by omega) (by rw [bgn_s, if_pos hv, ← hbo]; exact (hst.1 c_91).symm)
                · skip
                  refine z_iload X (pc := 95) 6 dX4_begin_95 rfl ?_
                  refine z_istore X (pc := 97) (i := 4) [(4, .int (nI l)), (0, .ref h), (1, .int (nI tt)), (2, .int (nI n)), (3, .int (nI wt)), (5, .long (bgC o)), (7, .int (nI l))] dX4_begin_97 trivial (by decide) rfl ?_
                  refine z_aload_n X (pc := 99) 1 dX4_begin_99 rfl ?_
                  refine z_get X (pc := 100) 0 5 (.ref hW) tu_4 tw_149 dX4_begin_100 rfl rfl (by decide) rfl rfl ?_
                  refine zc_V (as := []) X (pc := 103) (c_X3_standing lq D t hW hr2_23 hn2_24 ho 0 (s 3) (s 4) mt2_22 (lN 4398046511104 - lN ((wrun (s 3) (s 4) 0 (l + (tt - l)) 21 (wst0 0 l (tt - l) (s 2)) n).2.2.1)) (lN ((wrun (s 3) (s 4) 0 (l + (tt - l)) 21 (wst0 0 l (tt - l) (s 2)) n).2.2.2)) ) tw_429 tw_432 tw_6 tw_430 tw_431 0 3 rfl rfl [3] rfl rfl dX4_begin_103 rfl zdX3_standing ⟨rfl, rfl, Nat.le_of_ble_eq_true rfl, Nat.le_of_ble_eq_true rfl⟩ (Nat.le_of_ble_eq_true rfl) (Nat.zero_le _) (Nat.zero_le _) (fun v_30 w_31 hp_32 => ?_)
                  obtain ⟨rfl, rfl⟩ := hp_32
                  refine ⟨rfl, ?_⟩
                  refine z_eq (ws2 := [eX4 h hT hN hU hA hK hW hL hZ (nI sg) (nI ev), eX0 hN (nI (s 0)) (nI (s 1)) (nI (s 2)) (nI (s 3)) (nI (s 4)), eX0 hU (nI l) (nI (tt - l)) (nI (s 2)) (nI (s 3)) (nI (s 4)), eX3 hW hr2_23 hn2_24 ho (nI 0) (nI (s 3)) (nI (s 4)) mt2_22 (lN 4398046511104 - lN ((wrun (s 3) (s 4) 0 (l + (tt - l)) 21 (wst0 0 l (tt - l) (s 2)) n).2.2.1)) (lN ((wrun (s 3) (s 4) 0 (l + (tt - l)) 21 (wst0 0 l (tt - l) (s 2)) n).2.2.2)), eL t hr2_23 33 (lf (fun j => (wrun (s 3) (s 4) 0 (l + (tt - l)) 21 (wst0 0 l (tt - l) (s 2)) n).1 j * 4 ^ (21 - n))), eL t hn2_24 33 f2_25, eL t ho 11 (lf ((wrun (s 3) (s 4) 0 (l + (tt - l)) 21 (wst0 0 l (tt - l) (s 2)) n).2.1))]) (st2 := [.long (lN 4398046511104 - lN ((wrun (s 3) (s 4) 0 (l + (tt - l)) 21 (wst0 0 l (tt - l) (s 2)) n).2.2.1))]) rfl rfl rfl ?_
                  refine z_topl (lN (4398046511104 - bge s tt n l)) (lN_som hbe) ?_
                  refine z_lstore X (pc := 106) (i := 5) [(5, .long (lN (4398046511104 - bge s tt n l))), (4, .int (nI l)), (0, .ref h), (1, .int (nI tt)), (2, .int (nI n)), (3, .int (nI wt)), (7, .int (nI l))] dX4_begin_106 trivial (by decide) rfl ?_
                  refine z_iinc X (pc := 108) (i := 7) 6 (nI (l + 1)) [(7, .int (nI (l + 1))), (5, .long (lN (4398046511104 - bge s tt n l))), (4, .int (nI l)), (0, .ref h), (1, .int (nI tt)), (2, .int (nI n)), (3, .int (nI wt))] dX4_begin_108 rfl (nI_incc l 1) (by decide) rfl ?_
                  refine z_goto X (pc := 111) 40 dX4_begin_111 (by decide) ?_
                  refine z_eq (lv2 := [(7, .int (nI (l + 1))), (5, .long (bgC (some (l, bge s tt n l)))), (4, .int (nI (bgB (some (l, bge s tt n l))))), (0, .ref h), (1, .int (nI tt)), (2, .int (nI n)), (3, .int (nI wt))]) rfl rfl rfl ?_
                  refine z_lv [3, 4, 5, 6, 2, 1, 0] (lv2 := [(0, .ref h), (1, .int (nI tt)), (2, .int (nI n)), (3, .int (nI wt)), (4, .int (nI (bgB (some (l, bge s tt n l))))), (5, .long (bgC (some (l, bge s tt n l)))), (7, .int (nI (l + 1)))]) rfl ?_
                  exact ih_40 (l + 1) (some (l, bge s tt n l)) hr2_23 hn2_24 (nI l) (nI (tt - l)) (nI (s 2)) (nI (s 3)) (nI (s 4)) (nI 0) (nI (s 3)) (nI (s 4)) mt2_22 (lN 4398046511104 - lN ((wrun (s 3) (s 4) 0 (l + (tt - l)) 21 (wst0 0 l (tt - l) (s 2)) n).2.2.1)) (lN ((wrun (s 3) (s 4) 0 (l + (tt - l)) 21 (wst0 0 l (tt - l) (s 2)) n).2.2.2)) (lf (fun j => (wrun (s 3) (s 4) 0 (l + (tt - l)) 21 (wst0 0 l (tt - l) (s 2)) n).1 j * 4 ^ (21 - n))) f2_25 (lf ((wrun (s 3) (s 4) 0 (l + (tt - l)) 21 (wst0 0 l (tt - l) (s 2)) n).2.1)) (by omega) (by omega) (by rw [bgn_s, if_pos hv, ← hbo]; exact (hst.2 c_91).symm)
              · skip
                have hv : ¬ (l ≤ tt ∧ tt - l ≤ 10) := fun z => c_57 ((bg_raw (by omega) (by omega)).mpr z)
                refine z_goto X (pc := 60) 108 dX4_begin_60 (by decide) ?_
                refine z_iinc X (pc := 108) (i := 7) 6 (nI (l + 1)) [(7, .int (nI (l + 1))), (0, .ref h), (1, .int (nI tt)), (2, .int (nI n)), (3, .int (nI wt)), (4, .int (nI (bgB o))), (5, .long (bgC o))] dX4_begin_108 rfl (nI_incc l 1) (by decide) rfl ?_
                refine z_goto X (pc := 111) 40 dX4_begin_111 (by decide) ?_
                refine z_lv [1, 2, 3, 4, 5, 6, 0] (lv2 := [(0, .ref h), (1, .int (nI tt)), (2, .int (nI n)), (3, .int (nI wt)), (4, .int (nI (bgB o))), (5, .long (bgC o)), (7, .int (nI (l + 1)))]) rfl ?_
                exact ih_40 (l + 1) o hr hn b0 b1 b2 b3 b4 g0 g1 g2 g3 g4 g5 f1 f2 f3 (by omega) (by omega) (by rw [hbo, bgn_s, if_neg hv])
        refine z_eq (lv2 := [(7, .int (nI 0)), (5, .long (bgC none)), (4, .int (nI (bgB none))), (0, .ref h), (1, .int (nI tt)), (2, .int (nI n)), (3, .int (nI wt))]) rfl rfl rfl ?_
        refine z_lv [3, 4, 5, 6, 2, 1, 0] (lv2 := [(0, .ref h), (1, .int (nI tt)), (2, .int (nI n)), (3, .int (nI wt)), (4, .int (nI (bgB none))), (5, .long (bgC none)), (7, .int (nI 0))]) rfl ?_
        exact loop_40 12 0 none hr hn b0 b1 b2 b3 b4 g0 g1 g2 g3 g4 g5 f1 f2 f3 (by omega) (by omega) (bgn_z s tt n).symm
      · skip
        refine z_iconst X (pc := 27) (-1) dX4_begin_27 (by decide) ?_
        exact hRet.i dX4_begin_28 ⟨b0, b1, b2, b3, b4, hr, hn, g0, g1, g2, g3, g4, g5, f1, f2, f3, by rw [dz_bad (a := 0) (b := 1) c_24]; cases dz 0 20 e1 <;> cases dz 0 21 e2 <;> rfl, rfl⟩

abbrev rm_X4_evenings : Room := { frames := 4, cells := 0, slots := 0, locals := 101 }
set_option maxHeartbeats 4000000 in
set_option maxRecDepth 100000 in
theorem c_X4_evenings (lq : Launch) (D : va_G) (t : zT) (h hT hN hU hA hK hW hL hZ sg ev : Nat) (s : Nat → Nat) (hr hn ho : Nat) (b0 b1 b2 b3 b4 g0 g1 g2 g3 : Int32) (g4 g5 : Int64) (f1 f2 f3 : Nat → Int64) (e : Int32) (hs : sOk s) (hev : 1 ≤ ev ∧ ev ≤ 9) : Ct lq D t yX4_evenings cX4_evenings 4 (some .int) rm_X4_evenings [.ref h, .int e] [eX4 h hT hN hU hA hK hW hL hZ (nI sg) (nI ev), eX0 hN (nI (s 0)) (nI (s 1)) (nI (s 2)) (nI (s 3)) (nI (s 4)), eX0 hU b0 b1 b2 b3 b4, eX3 hW hr hn ho g0 g1 g2 g3 g4 g5, eL t hr 33 f1, eL t hn 33 f2, eL t ho 11 f3] 0 0 (fun rv rw_ => ∃ (B0 : Int32) (B1 : Int32) (B2 : Int32) (B3 : Int32) (B4 : Int32) (hr2 : Nat) (hn2 : Nat) (G0 : Int32) (G1 : Int32) (G2 : Int32) (G3 : Int32) (G4 : Int64) (G5 : Int64) (F1 : Nat → Int64) (F2 : Nat → Int64) (F3 : Nat → Int64), rv = some (.int (an_evenings s ev (dz 1 9999 e))) ∧ rw_ = [eX4 h hT hN hU hA hK hW hL hZ (nI sg) (nI ev), eX0 hN (nI (s 0)) (nI (s 1)) (nI (s 2)) (nI (s 3)) (nI (s 4)), eX0 hU B0 B1 B2 B3 B4, eX3 hW hr2 hn2 ho G0 G1 G2 G3 G4 G5, eL t hr2 33 F1, eL t hn2 33 F2, eL t ho 11 F3]) := by
  refine Ct.of (by decide) (Nat.le_of_ble_eq_true rfl) (fun k X hRet => ?_)
  have X : zX D t k cX4_evenings 4 RX4 "evenings" rm_X4_evenings lq := X
  refine z_eq (lv2 := [(0, .ref h), (1, .int e)]) rfl rfl rfl ?_
  have hsk := hs
  obtain ⟨hs0, hs1, hs2, hs3, hs4⟩ := hs
  refine z_iload_n X (pc := 0) 1 dX4_evenings_0 rfl ?_
  refine z_iconst X (pc := 1) (nI 1) dX4_evenings_1 (by decide) ?_
  refine z_sipush X (pc := 2) (nI 9999) dX4_evenings_2 (by decide) ?_
  refine zc_S (as := [.int e, .int (nI 1), .int (nI 9999)]) X (pc := 5) (c_X4_within lq D t e (nI 1) (nI 9999) ) tw_180 tw_182 tw_1 tw_181 [] rfl rfl dX4_evenings_5 rfl zdX4_within ⟨rfl, rfl, Nat.le_of_ble_eq_true rfl, Nat.le_of_ble_eq_true rfl⟩ (Nat.le_of_ble_eq_true rfl) (Nat.zero_le _) (Nat.zero_le _) (fun v_1 w_2 hp_3 => ?_)
  obtain ⟨rfl, rfl⟩ := hp_3
  refine ⟨rfl, ?_⟩
  refine z_eq (ws2 := [eX4 h hT hN hU hA hK hW hL hZ (nI sg) (nI ev), eX0 hN (nI (s 0)) (nI (s 1)) (nI (s 2)) (nI (s 3)) (nI (s 4)), eX0 hU b0 b1 b2 b3 b4, eX3 hW hr hn ho g0 g1 g2 g3 g4 g5, eL t hr 33 f1, eL t hn 33 f2, eL t ho 11 f3]) (st2 := [.int (zb ((nI 1) ≤ e ∧ e ≤ (nI 9999)))]) rfl rfl rfl ?_
  refine z_if_neB X (pc := 8) 13 dX4_evenings_8 (by decide) (fun c_8 => ?_) (fun c_8 => ?_)
  · skip
    obtain ⟨y, y_lo, y_hi, rfl⟩ := inR (by decide) (by decide) c_8
    refine z_aload_n X (pc := 13) 0 dX4_evenings_13 rfl ?_
    refine z_aload_n X (pc := 14) 0 dX4_evenings_14 rfl ?_
    refine z_get X (pc := 15) 0 1 (.ref hN) tu_4 tw_145 dX4_evenings_15 rfl rfl (by decide) rfl rfl ?_
    refine z_get X (pc := 18) 1 0 (.int (nI (s 0))) tu_0 tw_30 dX4_evenings_18 rfl rfl (by decide) rfl rfl ?_
    refine z_aload_n X (pc := 21) 0 dX4_evenings_21 rfl ?_
    refine z_get X (pc := 22) 0 1 (.ref hN) tu_4 tw_145 dX4_evenings_22 rfl rfl (by decide) rfl rfl ?_
    refine z_get X (pc := 25) 1 1 (.int (nI (s 1))) tu_0 tw_33 dX4_evenings_25 rfl rfl (by decide) rfl rfl ?_
    refine z_iconst X (pc := 28) (nI 0) dX4_evenings_28 (by decide) ?_
    refine zc_V (as := [.int (nI (s 0)), .int (nI (s 1)), .int (nI 0)]) X (pc := 29) (c_X4_startFrom lq D t h hT hN hU hA hK hW hL hZ sg ev s hr hn ho b0 b1 b2 b3 b4 g0 g1 g2 g3 g4 g5 f1 f2 f3 (s 0) (s 1) 0 hsk (by omega) (by omega) (by decide)) tw_369 tw_372 tw_1 tw_371 tw_1013 0 4 rfl rfl [0, 1, 2, 3, 4, 5, 6] rfl rfl dX4_evenings_29 rfl zdX4_startFrom ⟨rfl, rfl, Nat.le_of_ble_eq_true rfl, Nat.le_of_ble_eq_true rfl⟩ (Nat.le_of_ble_eq_true rfl) (Nat.zero_le _) (Nat.zero_le _) (fun v_4 w_5 hp_6 => ?_)
    obtain ⟨rfl, rfl⟩ := hp_6
    refine ⟨rfl, ?_⟩
    refine z_eq (ws2 := [eX4 h hT hN hU hA hK hW hL hZ (nI sg) (nI ev), eX0 hN (nI (s 0)) (nI (s 1)) (nI (s 2)) (nI (s 3)) (nI (s 4)), eX0 hU (nI (s 0)) (nI (s 1)) (nI (s 2)) (nI (s 3)) (nI (s 4)), eX3 hW hr hn ho (nI 0) (nI (s 3)) (nI (s 4)) (nI ((s 0) + (s 1))) (lN 4398046511104 - lN ((wst0 0 (s 0) (s 1) (s 2)).2.2.1)) (lN ((wst0 0 (s 0) (s 1) (s 2)).2.2.2)), eL t hr 33 (lf (fun j => (wst0 0 (s 0) (s 1) (s 2)).1 j * 4 ^ 21)), eL t hn 33 f2, eL t ho 11 (lf ((wst0 0 (s 0) (s 1) (s 2)).2.1))]) (st2 := []) rfl rfl rfl ?_
    refine z_iconst X (pc := 32) (nI 0) dX4_evenings_32 (by decide) ?_
    refine z_istore_n X (pc := 33) (i := 2) [(2, .int (nI 0)), (0, .ref h), (1, .int (nI y))] dX4_evenings_33 rfl (by decide) rfl ?_
    refine z_iconst X (pc := 34) (nI 1) dX4_evenings_34 (by decide) ?_
    refine z_istore_n X (pc := 35) (i := 3) [(3, .int (nI 1)), (2, .int (nI 0)), (0, .ref h), (1, .int (nI y))] dX4_evenings_35 rfl (by decide) rfl ?_
    have loop_36 : ∀ (fuel_36 : Nat) (k_ : Nat) (en9 : Nat) (mt : Int32) (hr : Nat) (hn : Nat) (f2 : Nat → Int64), 8 < k_ + fuel_36 → (1 ≤ k_ ∧ k_ ≤ 8) → (en9 = evs s ev y (k_ - 1)) → ((∃ c, c < 33 ∧ (rn (s 3) (s 4) 0 (s 0) (s 1) (s 2) (ev * (k_ - 1))).1 c ≠ 0) → ev * (k_ - 1) ≤ s 0 + s 1 ∧ mt = nI (s 0 + s 1 - ev * (k_ - 1))) → Z D k (0, 0) [eX4 h hT hN hU hA hK hW hL hZ (nI sg) (nI ev), eX0 hN (nI (s 0)) (nI (s 1)) (nI (s 2)) (nI (s 3)) (nI (s 4)), eX0 hU (nI (s 0)) (nI (s 1)) (nI (s 2)) (nI (s 3)) (nI (s 4)), eX3 hW hr hn ho (nI 0) (nI (s 3)) (nI (s 4)) mt (lN 4398046511104 - lN ((rn (s 3) (s 4) 0 (s 0) (s 1) (s 2) (ev * (k_ - 1))).2.2.1)) (lN ((rn (s 3) (s 4) 0 (s 0) (s 1) (s 2) (ev * (k_ - 1))).2.2.2)), eL t hr 33 (lf (fun j => (rn (s 3) (s 4) 0 (s 0) (s 1) (s 2) (ev * (k_ - 1))).1 j * 4 ^ (21 - (ev * (k_ - 1))))), eL t hn 33 f2, eL t ho 11 (lf ((rn (s 3) (s 4) 0 (s 0) (s 1) (s 2) (ev * (k_ - 1))).2.1))] 36 [(0, .ref h), (1, .int (nI y)), (2, .int (nI en9)), (3, .int (nI k_))] [] := by
      intro fuel_36
      induction fuel_36 with
      | zero =>
        intro k_ en9 mt hr hn f2 hfuel_36 hk hen9 hmt
        exfalso; omega
      | succ fuel_36 ih_36 =>
        intro k_ en9 mt hr hn f2 hfuel_36 hk hen9 hmt
        refine z_iload_n X (pc := 36) 3 dX4_evenings_36 rfl ?_
        refine z_bipush X (pc := 37) (nI 7) dX4_evenings_37 (by decide) ?_
        refine z_icmp_gtN X (pc := 39) 82 (by omega) (by omega) dX4_evenings_39 (by decide) (fun c_39 => ?_) (fun c_39 => ?_)
        · skip
          refine z_iload_n X (pc := 82) 2 dX4_evenings_82 rfl ?_
          exact hRet.i dX4_evenings_83 ⟨(nI (s 0)), (nI (s 1)), (nI (s 2)), (nI (s 3)), (nI (s 4)), hr, hn, (nI 0), (nI (s 3)), (nI (s 4)), mt, (lN 4398046511104 - lN ((rn (s 3) (s 4) 0 (s 0) (s 1) (s 2) (ev * (k_ - 1))).2.2.1)), (lN ((rn (s 3) (s 4) 0 (s 0) (s 1) (s 2) (ev * (k_ - 1))).2.2.2)), (lf (fun j => (rn (s 3) (s 4) 0 (s 0) (s 1) (s 2) (ev * (k_ - 1))).1 j * 4 ^ (21 - (ev * (k_ - 1))))), f2, (lf ((rn (s 3) (s 4) 0 (s 0) (s 1) (s 2) (ev * (k_ - 1))).2.1)), by rw [dz_ok (j := y) (a := 1) (b := 9999) (by decide) y_lo y_hi, hen9, show k_ - 1 = 7 by omega]; rfl, rfl⟩
        · skip
          refine z_aload_n X (pc := 42) 0 dX4_evenings_42 rfl ?_
          refine z_get X (pc := 43) 0 5 (.ref hW) tu_4 tw_149 dX4_evenings_43 rfl rfl (by decide) rfl rfl ?_
          refine z_aload_n X (pc := 46) 0 dX4_evenings_46 rfl ?_
          refine z_get X (pc := 47) 0 9 (.int (nI ev)) tu_4 tw_153 dX4_evenings_47 rfl rfl (by decide) rfl rfl ?_
          refine zc_V (as := [.int (nI ev)]) X (pc := 50) (c_X3_advance lq D t hW hr hn ho 0 (s 3) (s 4) (s 0 + s 1 - ev * (k_ - 1)) (21 - ev * (k_ - 1)) mt (rn (s 3) (s 4) 0 (s 0) (s 1) (s 2) (ev * (k_ - 1))) f2 ev (by decide) (by omega) (by omega) (by omega) (by omega) (wok_run hs4 (wok0 hs0 hs1 hs2) _) (fun z => (hmt z).2) (by omega)) tw_425 tw_428 tw_6 tw_426 tw_427 0 3 rfl rfl [3, 4, 5, 6] rfl rfl dX4_evenings_50 rfl zdX3_advance ⟨rfl, rfl, Nat.le_of_ble_eq_true rfl, Nat.le_of_ble_eq_true rfl⟩ (Nat.le_of_ble_eq_true rfl) (Nat.zero_le _) (Nat.zero_le _) (fun v_7 w_8 hp_9 => ?_)
          obtain ⟨mt2_10, hr2_11, hn2_12, f2_13, hf_14, rfl, rfl⟩ := hp_9
          refine ⟨rfl, ?_⟩
          refine z_eq (ws2 := [eX4 h hT hN hU hA hK hW hL hZ (nI sg) (nI ev), eX0 hN (nI (s 0)) (nI (s 1)) (nI (s 2)) (nI (s 3)) (nI (s 4)), eX0 hU (nI (s 0)) (nI (s 1)) (nI (s 2)) (nI (s 3)) (nI (s 4)), eX3 hW hr2_11 hn2_12 ho (nI 0) (nI (s 3)) (nI (s 4)) mt2_10 (lN 4398046511104 - lN ((wrun (s 3) (s 4) 0 (s 0 + s 1 - ev * (k_ - 1)) (21 - ev * (k_ - 1)) (rn (s 3) (s 4) 0 (s 0) (s 1) (s 2) (ev * (k_ - 1))) ev).2.2.1)) (lN ((wrun (s 3) (s 4) 0 (s 0 + s 1 - ev * (k_ - 1)) (21 - ev * (k_ - 1)) (rn (s 3) (s 4) 0 (s 0) (s 1) (s 2) (ev * (k_ - 1))) ev).2.2.2)), eL t hr2_11 33 (lf (fun j => (wrun (s 3) (s 4) 0 (s 0 + s 1 - ev * (k_ - 1)) (21 - ev * (k_ - 1)) (rn (s 3) (s 4) 0 (s 0) (s 1) (s 2) (ev * (k_ - 1))) ev).1 j * 4 ^ ((21 - ev * (k_ - 1)) - ev))), eL t hn2_12 33 f2_13, eL t ho 11 (lf ((wrun (s 3) (s 4) 0 (s 0 + s 1 - ev * (k_ - 1)) (21 - ev * (k_ - 1)) (rn (s 3) (s 4) 0 (s 0) (s 1) (s 2) (ev * (k_ - 1))) ev).2.1))]) (st2 := []) rfl rfl rfl ?_
          have hadd := wrun_add (s 3) (s 4) 0 (s 0 + s 1) 21 (wst0 0 (s 0) (s 1) (s 2)) (ev * (k_ - 1)) ev
          rw [show ev * (k_ - 1) + ev = ev * k_ by rw [← Nat.mul_succ, show (k_ - 1).succ = k_ by omega]] at hadd
          have hle := @rn_e (s 3) (s 4) 0 (s 0) (s 1) (s 2) (ev * k_) hs4 hs0 hs1 hs2
          refine z_eq (ws2 := [eX4 h hT hN hU hA hK hW hL hZ (nI sg) (nI ev), eX0 hN (nI (s 0)) (nI (s 1)) (nI (s 2)) (nI (s 3)) (nI (s 4)), eX0 hU (nI (s 0)) (nI (s 1)) (nI (s 2)) (nI (s 3)) (nI (s 4)), eX3 hW hr2_11 hn2_12 ho (nI 0) (nI (s 3)) (nI (s 4)) mt2_10 (lN 4398046511104 - lN ((rn (s 3) (s 4) 0 (s 0) (s 1) (s 2) (ev * k_)).2.2.1)) (lN ((rn (s 3) (s 4) 0 (s 0) (s 1) (s 2) (ev * k_)).2.2.2)), eL t hr2_11 33 (lf (fun j => (rn (s 3) (s 4) 0 (s 0) (s 1) (s 2) (ev * k_)).1 j * 4 ^ (21 - (ev * k_)))), eL t hn2_12 33 f2_13, eL t ho 11 (lf ((rn (s 3) (s 4) 0 (s 0) (s 1) (s 2) (ev * k_)).2.1))]) (by rw [hadd, Nat.sub_sub, show ev * (k_ - 1) + ev = ev * k_ by rw [← Nat.mul_succ, show (k_ - 1).succ = k_ by omega]]) rfl rfl ?_
          have hmt2 : (∃ c, c < 33 ∧ (rn (s 3) (s 4) 0 (s 0) (s 1) (s 2) (ev * k_)).1 c ≠ 0) → ev * k_ ≤ s 0 + s 1 ∧ mt2_10 = nI (s 0 + s 1 - ev * k_) := by
            intro z
            unfold rn at z
            rw [← hadd] at z
            have h9 := hf_14 z
            have h8 : ev * (k_ - 1) + ev = ev * k_ := by rw [← Nat.mul_succ, show (k_ - 1).succ = k_ by omega]
            obtain ⟨c, hc, z⟩ := z
            have h7 : ev * (k_ - 1) ≤ s 0 + s 1 := by
              by_cases q : ∃ c, c < 33 ∧ (rn (s 3) (s 4) 0 (s 0) (s 1) (s 2) (ev * (k_ - 1))).1 c ≠ 0
              · exact (hmt q).1
              · exact absurd ((wrun_dead2 (i := 0) (n := ev) (by rw [wrun_z]; exact dead_of q) (Nat.zero_le _)).2 c hc) z
            exact ⟨by omega, by rw [h9.2, Nat.sub_sub, h8]⟩
          refine z_aload_n X (pc := 53) 0 dX4_evenings_53 rfl ?_
          refine z_get X (pc := 54) 0 5 (.ref hW) tu_4 tw_149 dX4_evenings_54 rfl rfl (by decide) rfl rfl ?_
          refine zc_V (as := []) X (pc := 57) (c_X3_standing lq D t hW hr2_11 hn2_12 ho 0 (s 3) (s 4) mt2_10 (lN 4398046511104 - lN ((rn (s 3) (s 4) 0 (s 0) (s 1) (s 2) (ev * k_)).2.2.1)) (lN ((rn (s 3) (s 4) 0 (s 0) (s 1) (s 2) (ev * k_)).2.2.2)) ) tw_429 tw_432 tw_6 tw_430 tw_431 0 3 rfl rfl [3] rfl rfl dX4_evenings_57 rfl zdX3_standing ⟨rfl, rfl, Nat.le_of_ble_eq_true rfl, Nat.le_of_ble_eq_true rfl⟩ (Nat.le_of_ble_eq_true rfl) (Nat.zero_le _) (Nat.zero_le _) (fun v_15 w_16 hp_17 => ?_)
          obtain ⟨rfl, rfl⟩ := hp_17
          refine ⟨rfl, ?_⟩
          refine z_eq (ws2 := [eX4 h hT hN hU hA hK hW hL hZ (nI sg) (nI ev), eX0 hN (nI (s 0)) (nI (s 1)) (nI (s 2)) (nI (s 3)) (nI (s 4)), eX0 hU (nI (s 0)) (nI (s 1)) (nI (s 2)) (nI (s 3)) (nI (s 4)), eX3 hW hr2_11 hn2_12 ho (nI 0) (nI (s 3)) (nI (s 4)) mt2_10 (lN 4398046511104 - lN ((rn (s 3) (s 4) 0 (s 0) (s 1) (s 2) (ev * k_)).2.2.1)) (lN ((rn (s 3) (s 4) 0 (s 0) (s 1) (s 2) (ev * k_)).2.2.2)), eL t hr2_11 33 (lf (fun j => (rn (s 3) (s 4) 0 (s 0) (s 1) (s 2) (ev * k_)).1 j * 4 ^ (21 - (ev * k_)))), eL t hn2_12 33 f2_13, eL t ho 11 (lf ((rn (s 3) (s 4) 0 (s 0) (s 1) (s 2) (ev * k_)).2.1))]) (st2 := [.long (lN 4398046511104 - lN ((rn (s 3) (s 4) 0 (s 0) (s 1) (s 2) (ev * k_)).2.2.1))]) rfl rfl rfl ?_
          refine z_topl (lN (4398046511104 - (rn (s 3) (s 4) 0 (s 0) (s 1) (s 2) (ev * k_)).2.2.1)) (lN_som hle) ?_
          refine z_ldc2 X (pc := 60) (10000) dX4_evenings_60 tw_411 ?_
          refine z_topl (lN 10000) rfl ?_
          refine z_lmul X (pc := 63) (v := (lN ((4398046511104 - (rn (s 3) (s 4) 0 (s 0) (s 1) (s 2) (ev * k_)).2.2.1) * 10000))) dX4_evenings_63 (lN_mul _ _) ?_
          refine z_iload_n X (pc := 64) 1 dX4_evenings_64 rfl ?_
          refine z_i2l X (pc := 65) (v := (lN y)) dX4_evenings_65 (nI_l (by omega)) ?_
          refine z_ldc2 X (pc := 66) (4398046511104) dX4_evenings_66 tw_412 ?_
          refine z_topl (lN 4398046511104) rfl ?_
          refine z_lmul X (pc := 69) (v := (lN (y * 4398046511104))) dX4_evenings_69 (lN_mul _ _) ?_
          refine z_lcmp_leN X (pc := 70) 76 (by omega) (by omega) dX4_evenings_70 dX4_evenings_71 (by decide) (fun c_70 => ?_) (fun c_70 => ?_)
          · skip
            refine z_iinc X (pc := 76) (i := 3) 3 (nI (k_ + 1)) [(3, .int (nI (k_ + 1))), (0, .ref h), (1, .int (nI y)), (2, .int (nI en9))] dX4_evenings_76 rfl (nI_incc k_ 1) (by decide) rfl ?_
            refine z_goto X (pc := 79) 36 dX4_evenings_79 (by decide) ?_
            refine z_eq (ws2 := [eX4 h hT hN hU hA hK hW hL hZ (nI sg) (nI ev), eX0 hN (nI (s 0)) (nI (s 1)) (nI (s 2)) (nI (s 3)) (nI (s 4)), eX0 hU (nI (s 0)) (nI (s 1)) (nI (s 2)) (nI (s 3)) (nI (s 4)), eX3 hW hr2_11 hn2_12 ho (nI 0) (nI (s 3)) (nI (s 4)) mt2_10 (lN 4398046511104 - lN ((rn (s 3) (s 4) 0 (s 0) (s 1) (s 2) (ev * (k_ + 1 - 1))).2.2.1)) (lN ((rn (s 3) (s 4) 0 (s 0) (s 1) (s 2) (ev * (k_ + 1 - 1))).2.2.2)), eL t hr2_11 33 (lf (fun j => (rn (s 3) (s 4) 0 (s 0) (s 1) (s 2) (ev * (k_ + 1 - 1))).1 j * 4 ^ (21 - (ev * (k_ + 1 - 1))))), eL t hn2_12 33 f2_13, eL t ho 11 (lf ((rn (s 3) (s 4) 0 (s 0) (s 1) (s 2) (ev * (k_ + 1 - 1))).2.1))]) (by rw [show k_ + 1 - 1 = k_ by omega]) rfl rfl ?_
            refine z_lv [1, 2, 3, 0] (lv2 := [(0, .ref h), (1, .int (nI y)), (2, .int (nI en9)), (3, .int (nI (k_ + 1)))]) rfl ?_
            exact ih_36 (k_ + 1) en9 mt2_10 hr2_11 hn2_12 f2_13 (by omega) (by omega) (by rw [show k_ + 1 - 1 = (k_ - 1) + 1 by omega, evs_s, ← hen9, show k_ - 1 + 1 = k_ by omega, if_neg (by omega)]) (by rw [show k_ + 1 - 1 = k_ by omega]; exact hmt2)
          · skip
            refine z_iload_n X (pc := 74) 3 dX4_evenings_74 rfl ?_
            refine z_istore_n X (pc := 75) (i := 2) [(2, .int (nI k_)), (0, .ref h), (1, .int (nI y)), (3, .int (nI k_))] dX4_evenings_75 rfl (by decide) rfl ?_
            refine z_iinc X (pc := 76) (i := 3) 3 (nI (k_ + 1)) [(3, .int (nI (k_ + 1))), (2, .int (nI k_)), (0, .ref h), (1, .int (nI y))] dX4_evenings_76 rfl (nI_incc k_ 1) (by decide) rfl ?_
            refine z_goto X (pc := 79) 36 dX4_evenings_79 (by decide) ?_
            refine z_eq (ws2 := [eX4 h hT hN hU hA hK hW hL hZ (nI sg) (nI ev), eX0 hN (nI (s 0)) (nI (s 1)) (nI (s 2)) (nI (s 3)) (nI (s 4)), eX0 hU (nI (s 0)) (nI (s 1)) (nI (s 2)) (nI (s 3)) (nI (s 4)), eX3 hW hr2_11 hn2_12 ho (nI 0) (nI (s 3)) (nI (s 4)) mt2_10 (lN 4398046511104 - lN ((rn (s 3) (s 4) 0 (s 0) (s 1) (s 2) (ev * (k_ + 1 - 1))).2.2.1)) (lN ((rn (s 3) (s 4) 0 (s 0) (s 1) (s 2) (ev * (k_ + 1 - 1))).2.2.2)), eL t hr2_11 33 (lf (fun j => (rn (s 3) (s 4) 0 (s 0) (s 1) (s 2) (ev * (k_ + 1 - 1))).1 j * 4 ^ (21 - (ev * (k_ + 1 - 1))))), eL t hn2_12 33 f2_13, eL t ho 11 (lf ((rn (s 3) (s 4) 0 (s 0) (s 1) (s 2) (ev * (k_ + 1 - 1))).2.1))]) (by rw [show k_ + 1 - 1 = k_ by omega]) rfl rfl ?_
            refine z_lv [2, 3, 1, 0] (lv2 := [(0, .ref h), (1, .int (nI y)), (2, .int (nI k_)), (3, .int (nI (k_ + 1)))]) rfl ?_
            exact ih_36 (k_ + 1) k_ mt2_10 hr2_11 hn2_12 f2_13 (by omega) (by omega) (by rw [show k_ + 1 - 1 = (k_ - 1) + 1 by omega, evs_s, ← hen9, show k_ - 1 + 1 = k_ by omega, if_pos (by omega)]) (by rw [show k_ + 1 - 1 = k_ by omega]; exact hmt2)
    refine z_eq (ws2 := [eX4 h hT hN hU hA hK hW hL hZ (nI sg) (nI ev), eX0 hN (nI (s 0)) (nI (s 1)) (nI (s 2)) (nI (s 3)) (nI (s 4)), eX0 hU (nI (s 0)) (nI (s 1)) (nI (s 2)) (nI (s 3)) (nI (s 4)), eX3 hW hr hn ho (nI 0) (nI (s 3)) (nI (s 4)) (nI (s 0 + s 1)) (lN 4398046511104 - lN ((rn (s 3) (s 4) 0 (s 0) (s 1) (s 2) (ev * (1 - 1))).2.2.1)) (lN ((rn (s 3) (s 4) 0 (s 0) (s 1) (s 2) (ev * (1 - 1))).2.2.2)), eL t hr 33 (lf (fun j => (rn (s 3) (s 4) 0 (s 0) (s 1) (s 2) (ev * (1 - 1))).1 j * 4 ^ (21 - (ev * (1 - 1))))), eL t hn 33 f2, eL t ho 11 (lf ((rn (s 3) (s 4) 0 (s 0) (s 1) (s 2) (ev * (1 - 1))).2.1))]) (by rw [show ev * (1 - 1) = 0 from Nat.mul_zero ev, rn, wrun_z]) rfl rfl ?_
    refine z_lv [2, 3, 1, 0] (lv2 := [(0, .ref h), (1, .int (nI y)), (2, .int (nI 0)), (3, .int (nI 1))]) rfl ?_
    exact loop_36 9 1 0 (nI (s 0 + s 1)) hr hn f2 (by omega) (by omega) (evs_z s ev y).symm (fun _ => ⟨by rw [show ev * (1 - 1) = 0 from Nat.mul_zero ev]; omega, by rw [show ev * (1 - 1) = 0 from Nat.mul_zero ev]; rfl⟩)
  · skip
    refine z_iconst X (pc := 11) (-1) dX4_evenings_11 (by decide) ?_
    exact hRet.i dX4_evenings_12 ⟨b0, b1, b2, b3, b4, hr, hn, g0, g1, g2, g3, g4, g5, f1, f2, f3, by rw [dz_bad c_8]; rfl, rfl⟩
