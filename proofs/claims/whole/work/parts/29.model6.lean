/-! PART 29: the reference: fits, asLikely -/
theorem fit_up {c : Nat → Nat} {n : Nat} {A B : Int32} (h : 0 < c n) : (if (lqt c n).1 = none then A else A ||| B) ||| B = if (lqt c (n + 1)).1 = none then A else A ||| B := by
  rw [if_neg (lqt_up h)]
  split
  · rfl
  · rw [Int32.or_assoc, Int32.or_self]
theorem fit_st {c : Nat → Nat} {n : Nat} {A B : Int32} (h : c n = 0) : (if (lqt c n).1 = none then A else A ||| B) ||| nI 0 = if (lqt c (n + 1)).1 = none then A else A ||| B := by
  rw [lqt_st h, nI_0, Int32.or_zero]
theorem ne4 : ∀ x, x < 5 → ¬ nI x = (-4 : Int32) := by decide
theorem csn_up {s : Nat → Nat} (hs : sOk s) {ev : Nat} {sl sr : Nat → Nat} {sg kd x : Nat} (hx : x ≤ 4) (h : 0 < usn s ev sl sr sg kd x) : 0 < csn s ev sl sr sg kd x := by
  rw [csn_usn hs hx]; exact Nat.mul_pos h (pow4_pos _)
theorem csn_st {s : Nat → Nat} (hs : sOk s) {ev : Nat} {sl sr : Nat → Nat} {sg kd x : Nat} (hx : x ≤ 4) (h : usn s ev sl sr sg kd x = 0) : csn s ev sl sr sg kd x = 0 := by
  rw [csn_usn hs hx, h, Nat.zero_mul]
theorem lqt_csn {s : Nat → Nat} (hs : sOk s) {ev : Nat} {sl sr : Nat → Nat} {sg kd : Nat} : lqt (csn s ev sl sr sg kd) 5 = ((lqt (usn s ev sl sr sg kd) 5).1, (lqt (usn s ev sl sr sg kd) 5).2 * 4 ^ (21 - ev * sg)) := by
  rw [← lqt_scale (pow4_pos (21 - ev * sg)) 5]
  exact lqt_cong (fun x hx => csn_usn hs (by omega))
theorem usn_le2 {s : Nat → Nat} (hs : sOk s) {ev : Nat} {sl sr : Nat → Nat} {sg kd : Nat} : ∀ n : Nat, n ≤ 5 → (lqt (usn s ev sl sr sg kd) n).2 ≤ 4398046511104
  | 0, _ => by rw [lqt_z]; exact Nat.zero_le _
  | n + 1, h => by
    rw [lqt_s]
    split
    · exact usn_le hs (by omega)
    · exact usn_le2 hs n (by omega)
abbrev rm_X5_fits : Room := { frames := 3, cells := 0, slots := 0, locals := 89 }
set_option maxHeartbeats 4000000 in
set_option maxRecDepth 100000 in
theorem c_X5_fits (lq : Launch) (D : va_G) (t : zT) (mq mT mD mS mP mI mE mH mX mR mO ty ev kn kp sg : Nat) (at_ : Int32) (fs : Int64) (s : Nat → Nat) (f1 f2 f3 f4 : Nat → Int64) (sl sr : Nat → Nat) (hs : sOk s) (hev : 1 ≤ ev ∧ ev ≤ 9) (hsg : sg ≤ 6) (hsl : ∀ j, sl j ≤ 10 ∧ sr j ≤ 10) : Ct lq D t yX5_fits cX5_fits 4 (some .int) rm_X5_fits [.ref mq] [eX5 mq mT (nI ty) mD mS (nI ev) mP (nI kn) mI (nI kp) mE (nI sg) at_ mH mX mR mO fs, eI t mS 5 (nf s), eL t mH 363 f1, eL t mX 363 f2, eL t mR 11 f3, eL t mO 22 f4, eI t mE 6 (nf (fun j => 11 * sl j + sr j))] 0 0 (fun rv rw_ => ∃ (FS : Int64) (F1 : Nat → Int64) (F2 : Nat → Int64) (F3 : Nat → Int64) (F4 : Nat → Int64), rv = some (.int (fbt (csn s ev sl sr sg) 4)) ∧ rw_ = [eX5 mq mT (nI ty) mD mS (nI ev) mP (nI kn) mI (nI kp) mE (nI sg) at_ mH mX mR mO FS, eI t mS 5 (nf s), eL t mH 363 F1, eL t mX 363 F2, eL t mR 11 F3, eL t mO 22 F4, eI t mE 6 (nf (fun j => 11 * sl j + sr j))]) := by
  refine Ct.of (by decide) (Nat.le_of_ble_eq_true rfl) (fun k X hRet => ?_)
  have X : zX D t k cX5_fits 4 RX5 "fits" rm_X5_fits lq := X
  refine z_eq (lv2 := [(0, .ref mq)]) rfl rfl rfl ?_
  have hsk := hs
  obtain ⟨hs0, hs1, hs2, hs3, hs4⟩ := hs
  refine z_iconst X (pc := 0) (nI 0) dX5_fits_0 (by decide) ?_
  refine z_istore_n X (pc := 1) (i := 1) [(1, .int (nI 0)), (0, .ref mq)] dX5_fits_1 rfl (by decide) rfl ?_
  refine z_iconst X (pc := 2) (nI 0) dX5_fits_2 (by decide) ?_
  refine z_istore_n X (pc := 3) (i := 2) [(2, .int (nI 0)), (1, .int (nI 0)), (0, .ref mq)] dX5_fits_3 rfl (by decide) rfl ?_
  have loop_4 : ∀ (fuel_4 : Nat) (kd : Nat) (bi : Int32) (fs : Int64) (f1 : Nat → Int64) (f2 : Nat → Int64) (f3 : Nat → Int64) (f4 : Nat → Int64), 4 < kd + fuel_4 → (kd ≤ 4) → (bi = fbt (csn s ev sl sr sg) kd) → Z D k (0, 0) [eX5 mq mT (nI ty) mD mS (nI ev) mP (nI kn) mI (nI kp) mE (nI sg) at_ mH mX mR mO fs, eI t mS 5 (nf s), eL t mH 363 f1, eL t mX 363 f2, eL t mR 11 f3, eL t mO 22 f4, eI t mE 6 (nf (fun j => 11 * sl j + sr j))] 4 [(0, .ref mq), (1, .int bi), (2, .int (nI kd))] [] := by
    intro fuel_4
    induction fuel_4 with
    | zero =>
      intro kd bi fs f1 f2 f3 f4 hfuel_4 hkd hbi
      exfalso; omega
    | succ fuel_4 ih_4 =>
      intro kd bi fs f1 f2 f3 f4 hfuel_4 hkd hbi
      refine z_iload_n X (pc := 4) 2 dX5_fits_4 rfl ?_
      refine z_iconst X (pc := 5) (nI 4) dX5_fits_5 (by decide) ?_
      refine z_icmp_geN X (pc := 6) 49 (by omega) (by omega) dX5_fits_6 (by decide) (fun c_6 => ?_) (fun c_6 => ?_)
      · skip
        refine z_iload_n X (pc := 49) 1 dX5_fits_49 rfl ?_
        exact hRet.i dX5_fits_50 ⟨fs, f1, f2, f3, f4, by rw [hbi, show kd = 4 by omega], rfl⟩
      · skip
        refine z_iconst X (pc := 9) (nI 0) dX5_fits_9 (by decide) ?_
        refine z_istore_n X (pc := 10) (i := 3) [(3, .int (nI 0)), (0, .ref mq), (1, .int bi), (2, .int (nI kd))] dX5_fits_10 rfl (by decide) rfl ?_
        have loop_11 : ∀ (fuel_11 : Nat) (x : Nat) (bj : Int32) (fs : Int64) (f1 : Nat → Int64) (f2 : Nat → Int64) (f3 : Nat → Int64) (f4 : Nat → Int64), 5 < x + fuel_11 → (x ≤ 5) → (bj = if (lqt (csn s ev sl sr sg kd) x).1 = none then fbt (csn s ev sl sr sg) kd else fbt (csn s ev sl sr sg) kd ||| (nI 1 <<< (nI kd &&& 31))) → Z D k (0, 0) [eX5 mq mT (nI ty) mD mS (nI ev) mP (nI kn) mI (nI kp) mE (nI sg) at_ mH mX mR mO fs, eI t mS 5 (nf s), eL t mH 363 f1, eL t mX 363 f2, eL t mR 11 f3, eL t mO 22 f4, eI t mE 6 (nf (fun j => 11 * sl j + sr j))] 11 [(0, .ref mq), (1, .int bj), (2, .int (nI kd)), (3, .int (nI x))] [] := by
          intro fuel_11
          induction fuel_11 with
          | zero =>
            intro x bj fs f1 f2 f3 f4 hfuel_11 hx hbj
            exfalso; omega
          | succ fuel_11 ih_11 =>
            intro x bj fs f1 f2 f3 f4 hfuel_11 hx hbj
            refine z_iload_n X (pc := 11) 3 dX5_fits_11 rfl ?_
            refine z_iconst X (pc := 12) (nI 5) dX5_fits_12 (by decide) ?_
            refine z_icmp_geN X (pc := 13) 43 (by omega) (by omega) dX5_fits_13 (by decide) (fun c_13 => ?_) (fun c_13 => ?_)
            · skip
              refine z_iinc X (pc := 43) (i := 2) 2 (nI (kd + 1)) [(2, .int (nI (kd + 1))), (0, .ref mq), (1, .int bj), (3, .int (nI x))] dX5_fits_43 rfl (nI_incc kd 1) (by decide) rfl ?_
              refine z_goto X (pc := 46) 4 dX5_fits_46 (by decide) ?_
              refine z_lv [1, 2, 0] (lv2 := [(0, .ref mq), (1, .int bj), (2, .int (nI (kd + 1)))]) rfl ?_
              exact ih_4 (kd + 1) bj fs f1 f2 f3 f4 (by omega) (by omega) (by rw [fbt_s, hbj, show x = 5 by omega])
            · skip
              refine z_iload_n X (pc := 16) 1 dX5_fits_16 rfl ?_
              refine z_aload_n X (pc := 17) 0 dX5_fits_17 rfl ?_
              refine z_iload_n X (pc := 18) 2 dX5_fits_18 rfl ?_
              refine z_iload_n X (pc := 19) 3 dX5_fits_19 rfl ?_
              refine zc_V (as := [.int (nI kd), .int (nI x)]) X (pc := 20) (c_X5_sightsBy lq D t mq mT mD mS mP mI mE mH mX mR mO ty ev kn kp sg at_ fs s f1 f2 f3 f4 sl sr kd x hsk (by omega) (by omega) hev hsg hsl) tw_781 tw_784 tw_7 tw_783 tw_1038 0 5 rfl rfl [0, 1, 2, 3, 4, 5, 6] rfl rfl dX5_fits_20 rfl zdX5_sightsBy ⟨rfl, rfl, Nat.le_of_ble_eq_true rfl, Nat.le_of_ble_eq_true rfl⟩ (Nat.le_of_ble_eq_true rfl) (Nat.zero_le _) (Nat.zero_le _) (fun v_1 w_2 hp_3 => ?_)
              obtain ⟨FS_4, F1_5, F2_6, F3_7, F4_8, rfl, rfl⟩ := hp_3
              refine ⟨rfl, ?_⟩
              refine z_eq (ws2 := [eX5 mq mT (nI ty) mD mS (nI ev) mP (nI kn) mI (nI kp) mE (nI sg) at_ mH mX mR mO FS_4, eI t mS 5 (nf s), eL t mH 363 F1_5, eL t mX 363 F2_6, eL t mR 11 F3_7, eL t mO 22 F4_8, eI t mE 6 (nf (fun j => 11 * sl j + sr j))]) (st2 := [.long (lN (usn s ev sl sr sg kd x)), .int bj]) rfl rfl rfl ?_
              refine z_lconst X (pc := 23) (lN 0) dX5_fits_23 (by decide) ?_
              refine z_lcmp_leN X (pc := 24) 34 (Nat.lt_of_le_of_lt (usn_le hsk (by omega)) (by decide)) (by decide) dX5_fits_24 dX5_fits_25 (by decide) (fun c_24 => ?_) (fun c_24 => ?_)
              · skip
                refine z_iconst X (pc := 34) (nI 0) dX5_fits_34 (by decide) ?_
                refine z_ior X (pc := 35) (v := (bj ||| (nI 0))) dX5_fits_35 rfl ?_
                refine z_istore_n X (pc := 36) (i := 1) [(1, .int (bj ||| (nI 0))), (0, .ref mq), (2, .int (nI kd)), (3, .int (nI x))] dX5_fits_36 rfl (by decide) rfl ?_
                refine z_iinc X (pc := 37) (i := 3) 3 (nI (x + 1)) [(3, .int (nI (x + 1))), (1, .int (bj ||| (nI 0))), (0, .ref mq), (2, .int (nI kd))] dX5_fits_37 rfl (nI_incc x 1) (by decide) rfl ?_
                refine z_goto X (pc := 40) 11 dX5_fits_40 (by decide) ?_
                refine z_lv [2, 1, 3, 0] (lv2 := [(0, .ref mq), (1, .int (bj ||| (nI 0))), (2, .int (nI kd)), (3, .int (nI (x + 1)))]) rfl ?_
                exact ih_11 (x + 1) (bj ||| (nI 0)) FS_4 F1_5 F2_6 F3_7 F4_8 (by omega) (by omega) (by rw [hbj]; exact fit_st (csn_st hsk (by omega) (by omega)))
              · skip
                refine z_iconst X (pc := 28) (nI 1) dX5_fits_28 (by decide) ?_
                refine z_iload_n X (pc := 29) 2 dX5_fits_29 rfl ?_
                refine z_ishl X (pc := 30) (v := ((nI 1) <<< ((nI kd) &&& 31))) dX5_fits_30 rfl ?_
                refine z_goto X (pc := 31) 35 dX5_fits_31 (by decide) ?_
                refine z_ior X (pc := 35) (v := (bj ||| ((nI 1) <<< ((nI kd) &&& 31)))) dX5_fits_35 rfl ?_
                refine z_istore_n X (pc := 36) (i := 1) [(1, .int (bj ||| ((nI 1) <<< ((nI kd) &&& 31)))), (0, .ref mq), (2, .int (nI kd)), (3, .int (nI x))] dX5_fits_36 rfl (by decide) rfl ?_
                refine z_iinc X (pc := 37) (i := 3) 3 (nI (x + 1)) [(3, .int (nI (x + 1))), (1, .int (bj ||| ((nI 1) <<< ((nI kd) &&& 31)))), (0, .ref mq), (2, .int (nI kd))] dX5_fits_37 rfl (nI_incc x 1) (by decide) rfl ?_
                refine z_goto X (pc := 40) 11 dX5_fits_40 (by decide) ?_
                refine z_lv [2, 1, 3, 0] (lv2 := [(0, .ref mq), (1, .int (bj ||| ((nI 1) <<< ((nI kd) &&& 31)))), (2, .int (nI kd)), (3, .int (nI (x + 1)))]) rfl ?_
                exact ih_11 (x + 1) (bj ||| ((nI 1) <<< ((nI kd) &&& 31))) FS_4 F1_5 F2_6 F3_7 F4_8 (by omega) (by omega) (by rw [hbj]; exact fit_up (csn_up hsk (by omega) (by omega)))
        refine z_lv [1, 2, 3, 0] (lv2 := [(0, .ref mq), (1, .int bi), (2, .int (nI kd)), (3, .int (nI 0))]) rfl ?_
        exact loop_11 6 0 bi fs f1 f2 f3 f4 (by omega) (by omega) (by rw [lqt_z, if_pos rfl]; exact hbi)
  refine z_lv [2, 1, 0] (lv2 := [(0, .ref mq), (1, .int (nI 0)), (2, .int (nI 0))]) rfl ?_
  exact loop_4 5 0 (nI 0) fs f1 f2 f3 f4 (by omega) (by omega) (fbt_z _).symm

abbrev rm_X5_asLikely : Room := { frames := 3, cells := 0, slots := 0, locals := 89 }
set_option maxHeartbeats 4000000 in
set_option maxRecDepth 100000 in
theorem c_X5_asLikely (lq : Launch) (D : va_G) (t : zT) (mq mT mD mS mP mI mE mH mX mR mO ty ev kn kp sg : Nat) (at_ : Int32) (fs : Int64) (s : Nat → Nat) (f1 f2 f3 f4 : Nat → Int64) (sl sr : Nat → Nat) (e f : Int32) (hs : sOk s) (hev : 1 ≤ ev ∧ ev ≤ 9) (hsg : sg ≤ 6) (hsl : ∀ j, sl j ≤ 10 ∧ sr j ≤ 10) : Ct lq D t yX5_asLikely cX5_asLikely 9 (some .int) rm_X5_asLikely [.ref mq, .int e, .int f] [eX5 mq mT (nI ty) mD mS (nI ev) mP (nI kn) mI (nI kp) mE (nI sg) at_ mH mX mR mO fs, eI t mS 5 (nf s), eL t mH 363 f1, eL t mX 363 f2, eL t mR 11 f3, eL t mO 22 f4, eI t mE 6 (nf (fun j => 11 * sl j + sr j))] 0 0 (fun rv rw_ => ∃ (FS : Int64) (F1 : Nat → Int64) (F2 : Nat → Int64) (F3 : Nat → Int64) (F4 : Nat → Int64), rv = some (.int (an_likely (csn s ev sl sr sg) (dz 0 3 e) (dz 0 1 f))) ∧ rw_ = [eX5 mq mT (nI ty) mD mS (nI ev) mP (nI kn) mI (nI kp) mE (nI sg) at_ mH mX mR mO FS, eI t mS 5 (nf s), eL t mH 363 F1, eL t mX 363 F2, eL t mR 11 F3, eL t mO 22 F4, eI t mE 6 (nf (fun j => 11 * sl j + sr j))]) := by
  refine Ct.of (by decide) (Nat.le_of_ble_eq_true rfl) (fun k X hRet => ?_)
  have X : zX D t k cX5_asLikely 9 RX5 "asLikely" rm_X5_asLikely lq := X
  refine z_eq (lv2 := [(0, .ref mq), (1, .int e), (2, .int f)]) rfl rfl rfl ?_
  have hsk := hs
  obtain ⟨hs0, hs1, hs2, hs3, hs4⟩ := hs
  have hmv : ev * sg ≤ 54 := by have := Nat.mul_le_mul hev.2 hsg; omega
  refine z_iload_n X (pc := 0) 1 dX5_asLikely_0 rfl ?_
  refine z_iconst X (pc := 1) (nI 0) dX5_asLikely_1 (by decide) ?_
  refine z_iconst X (pc := 2) (nI 3) dX5_asLikely_2 (by decide) ?_
  refine zc_S (as := [.int e, .int (nI 0), .int (nI 3)]) X (pc := 3) (c_X5_in lq D t e (nI 0) (nI 3) ) tw_615 tw_617 tw_7 tw_616 [] rfl rfl dX5_asLikely_3 rfl zdX5_in ⟨rfl, rfl, Nat.le_of_ble_eq_true rfl, Nat.le_of_ble_eq_true rfl⟩ (Nat.le_of_ble_eq_true rfl) (Nat.zero_le _) (Nat.zero_le _) (fun v_1 w_2 hp_3 => ?_)
  obtain ⟨rfl, rfl⟩ := hp_3
  refine ⟨rfl, ?_⟩
  refine z_eq (ws2 := [eX5 mq mT (nI ty) mD mS (nI ev) mP (nI kn) mI (nI kp) mE (nI sg) at_ mH mX mR mO fs, eI t mS 5 (nf s), eL t mH 363 f1, eL t mX 363 f2, eL t mR 11 f3, eL t mO 22 f4, eI t mE 6 (nf (fun j => 11 * sl j + sr j))]) (st2 := [.int (zb ((nI 0) ≤ e ∧ e ≤ (nI 3)))]) rfl rfl rfl ?_
  refine z_if_eqB X (pc := 6) 18 dX5_asLikely_6 (by decide) (fun c_6 => ?_) (fun c_6 => ?_)
  · skip
    refine z_iconst X (pc := 18) (-1) dX5_asLikely_18 (by decide) ?_
    exact hRet.i dX5_asLikely_19 ⟨fs, f1, f2, f3, f4, by rw [dz_bad (a := 0) (b := 3) c_6]; rfl, rfl⟩
  · skip
    refine z_iload_n X (pc := 9) 2 dX5_asLikely_9 rfl ?_
    refine z_iconst X (pc := 10) (nI 0) dX5_asLikely_10 (by decide) ?_
    refine z_iconst X (pc := 11) (nI 1) dX5_asLikely_11 (by decide) ?_
    refine zc_S (as := [.int f, .int (nI 0), .int (nI 1)]) X (pc := 12) (c_X5_in lq D t f (nI 0) (nI 1) ) tw_615 tw_617 tw_7 tw_616 [] rfl rfl dX5_asLikely_12 rfl zdX5_in ⟨rfl, rfl, Nat.le_of_ble_eq_true rfl, Nat.le_of_ble_eq_true rfl⟩ (Nat.le_of_ble_eq_true rfl) (Nat.zero_le _) (Nat.zero_le _) (fun v_4 w_5 hp_6 => ?_)
    obtain ⟨rfl, rfl⟩ := hp_6
    refine ⟨rfl, ?_⟩
    refine z_eq (ws2 := [eX5 mq mT (nI ty) mD mS (nI ev) mP (nI kn) mI (nI kp) mE (nI sg) at_ mH mX mR mO fs, eI t mS 5 (nf s), eL t mH 363 f1, eL t mX 363 f2, eL t mR 11 f3, eL t mO 22 f4, eI t mE 6 (nf (fun j => 11 * sl j + sr j))]) (st2 := [.int (zb ((nI 0) ≤ f ∧ f ≤ (nI 1)))]) rfl rfl rfl ?_
    refine z_if_neB X (pc := 15) 20 dX5_asLikely_15 (by decide) (fun c_15 => ?_) (fun c_15 => ?_)
    · skip
      obtain ⟨kd, kd_lo, kd_hi, rfl⟩ := inR (by decide) (by decide) c_6
      obtain ⟨wt, wt_lo, wt_hi, rfl⟩ := inR (by decide) (by decide) c_15
      refine z_bipush X (pc := 20) (-4) dX5_asLikely_20 (by decide) ?_
      refine z_istore_n X (pc := 22) (i := 3) [(3, .int (-4)), (0, .ref mq), (1, .int (nI kd)), (2, .int (nI wt))] dX5_asLikely_22 rfl (by decide) rfl ?_
      refine z_lconst X (pc := 23) (lN 0) dX5_asLikely_23 (by decide) ?_
      refine z_lstore X (pc := 24) (i := 4) [(4, .long (lN 0)), (3, .int (-4)), (0, .ref mq), (1, .int (nI kd)), (2, .int (nI wt))] dX5_asLikely_24 trivial (by decide) rfl ?_
      refine z_iconst X (pc := 26) (nI 0) dX5_asLikely_26 (by decide) ?_
      refine z_istore X (pc := 27) (i := 6) [(6, .int (nI 0)), (4, .long (lN 0)), (3, .int (-4)), (0, .ref mq), (1, .int (nI kd)), (2, .int (nI wt))] dX5_asLikely_27 trivial (by decide) rfl ?_
      have loop_29 : ∀ (fuel_29 : Nat) (x : Nat) (p : Option Nat × Nat) (fs : Int64) (f1 : Nat → Int64) (f2 : Nat → Int64) (f3 : Nat → Int64) (f4 : Nat → Int64), 5 < x + fuel_29 → (x ≤ 5) → (p = lqt (usn s ev sl sr sg kd) x) → Z D k (0, 0) [eX5 mq mT (nI ty) mD mS (nI ev) mP (nI kn) mI (nI kp) mE (nI sg) at_ mH mX mR mO fs, eI t mS 5 (nf s), eL t mH 363 f1, eL t mX 363 f2, eL t mR 11 f3, eL t mO 22 f4, eI t mE 6 (nf (fun j => 11 * sl j + sr j))] 29 [(0, .ref mq), (1, .int (nI kd)), (2, .int (nI wt)), (3, .int (foF p.1)), (4, .long (lN p.2)), (6, .int (nI x))] [] := by
        intro fuel_29
        induction fuel_29 with
        | zero =>
          intro x p fs f1 f2 f3 f4 hfuel_29 hx hp
          exfalso; omega
        | succ fuel_29 ih_29 =>
          intro x p fs f1 f2 f3 f4 hfuel_29 hx hp
          have hple : p.2 ≤ 4398046511104 := by rw [hp]; exact usn_le2 hsk x hx
          refine z_iload X (pc := 29) 5 dX5_asLikely_29 rfl ?_
          refine z_iconst X (pc := 31) (nI 5) dX5_asLikely_31 (by decide) ?_
          refine z_icmp_geN X (pc := 32) 82 (by omega) (by omega) dX5_asLikely_32 (by decide) (fun c_32 => ?_) (fun c_32 => ?_)
          · skip
            have hx5 : x = 5 := by omega
            rw [hx5] at hp
            have hlc := lqt_csn hsk (ev := ev) (sl := sl) (sr := sr) (sg := sg) (kd := kd)
            rw [← hp] at hlc
            have hl1 : (lqt (csn s ev sl sr sg kd) 5).1 = p.1 := by rw [hlc]
            cases hq : p.1 with
            | none =>
              rw [hq] at hl1
              refine z_eq (lv2 := [(0, .ref mq), (1, .int (nI kd)), (2, .int (nI wt)), (3, .int (-4)), (4, .long (lN p.2)), (6, .int (nI x))]) rfl rfl rfl ?_
              refine z_lconst X (pc := 82) (lN 1) dX5_asLikely_82 (by decide) ?_
              refine z_lstore X (pc := 83) (i := 6) [(6, .long (lN 1)), (0, .ref mq), (1, .int (nI kd)), (2, .int (nI wt)), (3, .int (-4)), (4, .long (lN p.2))] dX5_asLikely_83 trivial (by decide) rfl ?_
              refine z_iconst X (pc := 85) (nI 0) dX5_asLikely_85 (by decide) ?_
              refine z_istore X (pc := 86) (i := 8) [(8, .int (nI 0)), (6, .long (lN 1)), (0, .ref mq), (1, .int (nI kd)), (2, .int (nI wt)), (3, .int (-4)), (4, .long (lN p.2))] dX5_asLikely_86 trivial (by decide) rfl ?_
              have loop_88 : ∀ (fuel_88 : Nat) (i : Nat), ev * sg < i + fuel_88 → (i ≤ ev * sg) → Z D k (0, 0) [eX5 mq mT (nI ty) mD mS (nI ev) mP (nI kn) mI (nI kp) mE (nI sg) at_ mH mX mR mO fs, eI t mS 5 (nf s), eL t mH 363 f1, eL t mX 363 f2, eL t mR 11 f3, eL t mO 22 f4, eI t mE 6 (nf (fun j => 11 * sl j + sr j))] 88 [(0, .ref mq), (1, .int (nI kd)), (2, .int (nI wt)), (3, .int (-4)), (4, .long (lN p.2)), (6, .long (lN (4 ^ i))), (8, .int (nI i))] [] := by
                intro fuel_88
                induction fuel_88 with
                | zero =>
                  intro i hfuel_88 hi
                  exfalso; omega
                | succ fuel_88 ih_88 =>
                  intro i hfuel_88 hi
                  refine z_iload X (pc := 88) 6 dX5_asLikely_88 rfl ?_
                  refine z_aload_n X (pc := 90) 0 dX5_asLikely_90 rfl ?_
                  refine z_get X (pc := 91) 0 4 (.int (nI ev)) tu_5 tw_563 dX5_asLikely_91 rfl rfl (by decide) rfl rfl ?_
                  refine z_aload_n X (pc := 94) 0 dX5_asLikely_94 rfl ?_
                  refine z_get X (pc := 95) 0 10 (.int (nI sg)) tu_5 tw_569 dX5_asLikely_95 rfl rfl (by decide) rfl rfl ?_
                  refine z_imul X (pc := 98) (v := (nI (ev * sg))) dX5_asLikely_98 (pk_mul _ _) ?_
                  refine z_icmp_geN X (pc := 99) 122 (by omega) (by omega) dX5_asLikely_99 (by decide) (fun c_99 => ?_) (fun c_99 => ?_)
                  · skip
                    refine z_iload_n X (pc := 122) 2 dX5_asLikely_122 rfl ?_
                    refine z_if_eqN X (pc := 123) 132 (by omega) dX5_asLikely_123 (by decide) (fun c_123 => ?_) (fun c_123 => ?_)
                    · skip
                      refine z_iload_n X (pc := 132) 3 dX5_asLikely_132 rfl ?_
                      refine z_goto X (pc := 133) 143 dX5_asLikely_133 (by decide) ?_
                      exact hRet.i dX5_asLikely_143 ⟨fs, f1, f2, f3, f4, by rw [dz_ok (j := kd) (a := 0) (b := 3) (by decide) kd_lo kd_hi, dz_ok (j := wt) (a := 0) (b := 1) (by decide) wt_lo wt_hi]; simp only [an_likely, hl1], rfl⟩
                    · skip
                      refine z_iload_n X (pc := 126) 3 dX5_asLikely_126 rfl ?_
                      refine z_bipush X (pc := 127) (-4) dX5_asLikely_127 (by decide) ?_
                      refine z_icmp_ne X (pc := 129) 136 dX5_asLikely_129 (by decide) (fun c_129 => absurd c_129 (fun z => z rfl)) (fun c_129 => ?_)
                      refine z_iload_n X (pc := 132) 3 dX5_asLikely_132 rfl ?_
                      refine z_goto X (pc := 133) 143 dX5_asLikely_133 (by decide) ?_
                      exact hRet.i dX5_asLikely_143 ⟨fs, f1, f2, f3, f4, by rw [dz_ok (j := kd) (a := 0) (b := 3) (by decide) kd_lo kd_hi, dz_ok (j := wt) (a := 0) (b := 1) (by decide) wt_lo wt_hi]; simp only [an_likely, hl1], rfl⟩
                  · skip
                    refine z_iload_n X (pc := 102) 3 dX5_asLikely_102 rfl ?_
                    refine z_bipush X (pc := 103) (-4) dX5_asLikely_103 (by decide) ?_
                    refine z_icmp_eq X (pc := 105) 122 dX5_asLikely_105 (by decide) (fun c_105 => ?_) (fun c_105 => absurd c_105 (fun z => z rfl))
                    refine z_iload_n X (pc := 122) 2 dX5_asLikely_122 rfl ?_
                    refine z_if_eqN X (pc := 123) 132 (by omega) dX5_asLikely_123 (by decide) (fun c_123 => ?_) (fun c_123 => ?_)
                    · skip
                      refine z_iload_n X (pc := 132) 3 dX5_asLikely_132 rfl ?_
                      refine z_goto X (pc := 133) 143 dX5_asLikely_133 (by decide) ?_
                      exact hRet.i dX5_asLikely_143 ⟨fs, f1, f2, f3, f4, by rw [dz_ok (j := kd) (a := 0) (b := 3) (by decide) kd_lo kd_hi, dz_ok (j := wt) (a := 0) (b := 1) (by decide) wt_lo wt_hi]; simp only [an_likely, hl1], rfl⟩
                    · skip
                      refine z_iload_n X (pc := 126) 3 dX5_asLikely_126 rfl ?_
                      refine z_bipush X (pc := 127) (-4) dX5_asLikely_127 (by decide) ?_
                      refine z_icmp_ne X (pc := 129) 136 dX5_asLikely_129 (by decide) (fun c_129 => absurd c_129 (fun z => z rfl)) (fun c_129 => ?_)
                      refine z_iload_n X (pc := 132) 3 dX5_asLikely_132 rfl ?_
                      refine z_goto X (pc := 133) 143 dX5_asLikely_133 (by decide) ?_
                      exact hRet.i dX5_asLikely_143 ⟨fs, f1, f2, f3, f4, by rw [dz_ok (j := kd) (a := 0) (b := 3) (by decide) kd_lo kd_hi, dz_ok (j := wt) (a := 0) (b := 1) (by decide) wt_lo wt_hi]; simp only [an_likely, hl1], rfl⟩
              refine z_lv [2, 3, 4, 5, 6, 1, 0] (lv2 := [(0, .ref mq), (1, .int (nI kd)), (2, .int (nI wt)), (3, .int (-4)), (4, .long (lN p.2)), (6, .long (lN 1)), (8, .int (nI 0))]) rfl ?_
              exact loop_88 (ev * sg + 1) 0 (by omega) (by omega)
            | some x9 =>
              rw [hq] at hl1
              have hq2 : (lqt (usn s ev sl sr sg kd) 5).1 = some x9 := by rw [← hp]; exact hq
              have hx9 := lqt_lt hq2
              have hps := lqt_pos hq2
              have hvl : p.2 = usn s ev sl sr sg kd x9 := by rw [hp]; exact lqt_val hq2
              have hal := usn_alive hsk hev.1 (by omega) hps
              refine z_eq (lv2 := [(0, .ref mq), (1, .int (nI kd)), (2, .int (nI wt)), (3, .int (nI x9)), (4, .long (lN p.2)), (6, .int (nI x))]) rfl rfl rfl ?_
              refine z_lconst X (pc := 82) (lN 1) dX5_asLikely_82 (by decide) ?_
              refine z_lstore X (pc := 83) (i := 6) [(6, .long (lN 1)), (0, .ref mq), (1, .int (nI kd)), (2, .int (nI wt)), (3, .int (nI x9)), (4, .long (lN p.2))] dX5_asLikely_83 trivial (by decide) rfl ?_
              refine z_iconst X (pc := 85) (nI 0) dX5_asLikely_85 (by decide) ?_
              refine z_istore X (pc := 86) (i := 8) [(8, .int (nI 0)), (6, .long (lN 1)), (0, .ref mq), (1, .int (nI kd)), (2, .int (nI wt)), (3, .int (nI x9)), (4, .long (lN p.2))] dX5_asLikely_86 trivial (by decide) rfl ?_
              have loop_88 : ∀ (fuel_88 : Nat) (i : Nat), ev * sg < i + fuel_88 → (i ≤ ev * sg) → Z D k (0, 0) [eX5 mq mT (nI ty) mD mS (nI ev) mP (nI kn) mI (nI kp) mE (nI sg) at_ mH mX mR mO fs, eI t mS 5 (nf s), eL t mH 363 f1, eL t mX 363 f2, eL t mR 11 f3, eL t mO 22 f4, eI t mE 6 (nf (fun j => 11 * sl j + sr j))] 88 [(0, .ref mq), (1, .int (nI kd)), (2, .int (nI wt)), (3, .int (nI x9)), (4, .long (lN p.2)), (6, .long (lN (4 ^ i))), (8, .int (nI i))] [] := by
                intro fuel_88
                induction fuel_88 with
                | zero =>
                  intro i hfuel_88 hi
                  exfalso; omega
                | succ fuel_88 ih_88 =>
                  intro i hfuel_88 hi
                  refine z_iload X (pc := 88) 6 dX5_asLikely_88 rfl ?_
                  refine z_aload_n X (pc := 90) 0 dX5_asLikely_90 rfl ?_
                  refine z_get X (pc := 91) 0 4 (.int (nI ev)) tu_5 tw_563 dX5_asLikely_91 rfl rfl (by decide) rfl rfl ?_
                  refine z_aload_n X (pc := 94) 0 dX5_asLikely_94 rfl ?_
                  refine z_get X (pc := 95) 0 10 (.int (nI sg)) tu_5 tw_569 dX5_asLikely_95 rfl rfl (by decide) rfl rfl ?_
                  refine z_imul X (pc := 98) (v := (nI (ev * sg))) dX5_asLikely_98 (pk_mul _ _) ?_
                  refine z_icmp_geN X (pc := 99) 122 (by omega) (by omega) dX5_asLikely_99 (by decide) (fun c_99 => ?_) (fun c_99 => ?_)
                  · skip
                    refine z_iload_n X (pc := 122) 2 dX5_asLikely_122 rfl ?_
                    refine z_if_eqN X (pc := 123) 132 (by omega) dX5_asLikely_123 (by decide) (fun c_123 => ?_) (fun c_123 => ?_)
                    · skip
                      refine z_iload_n X (pc := 132) 3 dX5_asLikely_132 rfl ?_
                      refine z_goto X (pc := 133) 143 dX5_asLikely_133 (by decide) ?_
                      exact hRet.i dX5_asLikely_143 ⟨fs, f1, f2, f3, f4, by rw [dz_ok (j := kd) (a := 0) (b := 3) (by decide) kd_lo kd_hi, dz_ok (j := wt) (a := 0) (b := 1) (by decide) wt_lo wt_hi]; simp only [an_likely, hl1, if_pos c_123], rfl⟩
                    · skip
                      refine z_iload_n X (pc := 126) 3 dX5_asLikely_126 rfl ?_
                      refine z_bipush X (pc := 127) (-4) dX5_asLikely_127 (by decide) ?_
                      refine z_icmp_ne X (pc := 129) 136 dX5_asLikely_129 (by decide) (fun c_129 => ?_) (fun c_129 => absurd c_129 (ne4 _ hx9))
                      refine z_lload X (pc := 136) 4 dX5_asLikely_136 rfl ?_
                      refine z_lload X (pc := 138) 5 dX5_asLikely_138 rfl ?_
                      refine zc_S (as := [.long (lN p.2), .long (lN (4 ^ i))]) X (pc := 140) (c_X5_cut lq D t p.2 (4 ^ i) hple ⟨pow4_pos i, Nat.lt_of_le_of_lt (Nat.pow_le_pow_right (by decide) (show i ≤ 20 by omega)) (by decide)⟩) tw_720 tw_722 tw_7 tw_721 [] rfl rfl dX5_asLikely_140 rfl zdX5_cut ⟨rfl, rfl, Nat.le_of_ble_eq_true rfl, Nat.le_of_ble_eq_true rfl⟩ (Nat.le_of_ble_eq_true rfl) (Nat.zero_le _) (Nat.zero_le _) (fun v_7 w_8 hp_9 => ?_)
                      obtain ⟨rfl, rfl⟩ := hp_9
                      refine ⟨rfl, ?_⟩
                      refine z_eq (ws2 := [eX5 mq mT (nI ty) mD mS (nI ev) mP (nI kn) mI (nI kp) mE (nI sg) at_ mH mX mR mO fs, eI t mS 5 (nf s), eL t mH 363 f1, eL t mX 363 f2, eL t mR 11 f3, eL t mO 22 f4, eI t mE 6 (nf (fun j => 11 * sl j + sr j))]) (st2 := [.int (nI (10000 * p.2 / (4 ^ i)))]) rfl rfl rfl ?_
                      exact hRet.i dX5_asLikely_143 ⟨fs, f1, f2, f3, f4, by rw [dz_ok (j := kd) (a := 0) (b := 3) (by decide) kd_lo kd_hi, dz_ok (j := wt) (a := 0) (b := 1) (by decide) wt_lo wt_hi]; simp only [an_likely, hl1, if_neg c_123, hvl, show i = ev * sg by omega]; rw [csn_usn hsk (by omega), pow_cut (by omega)], rfl⟩
                  · skip
                    refine z_iload_n X (pc := 102) 3 dX5_asLikely_102 rfl ?_
                    refine z_bipush X (pc := 103) (-4) dX5_asLikely_103 (by decide) ?_
                    refine z_icmp_eq X (pc := 105) 122 dX5_asLikely_105 (by decide) (fun c_105 => absurd c_105 (ne4 _ hx9)) (fun c_105 => ?_)
                    refine z_lload X (pc := 108) 5 dX5_asLikely_108 rfl ?_
                    refine z_ldc2 X (pc := 110) (4) dX5_asLikely_110 tw_715 ?_
                    refine z_topl (lN 4) rfl ?_
                    refine z_lmul X (pc := 113) (v := (lN ((4 ^ i) * 4))) dX5_asLikely_113 (lN_mul _ _) ?_
                    refine z_topl (lN (4 ^ (i + 1))) (by rw [Nat.pow_succ]) ?_
                    refine z_lstore X (pc := 114) (i := 6) [(6, .long (lN (4 ^ (i + 1)))), (0, .ref mq), (1, .int (nI kd)), (2, .int (nI wt)), (3, .int (nI x9)), (4, .long (lN p.2)), (8, .int (nI i))] dX5_asLikely_114 trivial (by decide) rfl ?_
                    refine z_iinc X (pc := 116) (i := 8) 6 (nI (i + 1)) [(8, .int (nI (i + 1))), (6, .long (lN (4 ^ (i + 1)))), (0, .ref mq), (1, .int (nI kd)), (2, .int (nI wt)), (3, .int (nI x9)), (4, .long (lN p.2))] dX5_asLikely_116 rfl (nI_incc i 1) (by decide) rfl ?_
                    refine z_goto X (pc := 119) 88 dX5_asLikely_119 (by decide) ?_
                    refine z_lv [2, 3, 4, 5, 6, 1, 0] (lv2 := [(0, .ref mq), (1, .int (nI kd)), (2, .int (nI wt)), (3, .int (nI x9)), (4, .long (lN p.2)), (6, .long (lN (4 ^ (i + 1)))), (8, .int (nI (i + 1)))]) rfl ?_
                    exact ih_88 (i + 1) (by omega) (by omega)
              refine z_lv [2, 3, 4, 5, 6, 1, 0] (lv2 := [(0, .ref mq), (1, .int (nI kd)), (2, .int (nI wt)), (3, .int (nI x9)), (4, .long (lN p.2)), (6, .long (lN 1)), (8, .int (nI 0))]) rfl ?_
              exact loop_88 (ev * sg + 1) 0 (by omega) (by omega)
          · skip
            refine z_aload_n X (pc := 35) 0 dX5_asLikely_35 rfl ?_
            refine z_iload_n X (pc := 36) 1 dX5_asLikely_36 rfl ?_
            refine z_iload X (pc := 37) 5 dX5_asLikely_37 rfl ?_
            refine zc_V (as := [.int (nI kd), .int (nI x)]) X (pc := 39) (c_X5_sightsBy lq D t mq mT mD mS mP mI mE mH mX mR mO ty ev kn kp sg at_ fs s f1 f2 f3 f4 sl sr kd x hsk (by omega) (by omega) hev hsg hsl) tw_781 tw_784 tw_7 tw_783 tw_1038 0 5 rfl rfl [0, 1, 2, 3, 4, 5, 6] rfl rfl dX5_asLikely_39 rfl zdX5_sightsBy ⟨rfl, rfl, Nat.le_of_ble_eq_true rfl, Nat.le_of_ble_eq_true rfl⟩ (Nat.le_of_ble_eq_true rfl) (Nat.zero_le _) (Nat.zero_le _) (fun v_10 w_11 hp_12 => ?_)
            obtain ⟨FS_13, F1_14, F2_15, F3_16, F4_17, rfl, rfl⟩ := hp_12
            refine ⟨rfl, ?_⟩
            refine z_eq (ws2 := [eX5 mq mT (nI ty) mD mS (nI ev) mP (nI kn) mI (nI kp) mE (nI sg) at_ mH mX mR mO FS_13, eI t mS 5 (nf s), eL t mH 363 F1_14, eL t mX 363 F2_15, eL t mR 11 F3_16, eL t mO 22 F4_17, eI t mE 6 (nf (fun j => 11 * sl j + sr j))]) (st2 := [.long (lN (usn s ev sl sr sg kd x))]) rfl rfl rfl ?_
            refine z_lstore X (pc := 42) (i := 7) [(7, .long (lN (usn s ev sl sr sg kd x))), (0, .ref mq), (1, .int (nI kd)), (2, .int (nI wt)), (3, .int (foF p.1)), (4, .long (lN p.2)), (6, .int (nI x))] dX5_asLikely_42 trivial (by decide) rfl ?_
            refine z_lload X (pc := 44) 0 dX5_asLikely_44 rfl ?_
            refine z_lload X (pc := 46) 5 dX5_asLikely_46 rfl ?_
            refine z_lcmp_leN X (pc := 48) 57 (Nat.lt_of_le_of_lt (usn_le hsk (by omega)) (by decide)) (by omega) dX5_asLikely_48 dX5_asLikely_49 (by decide) (fun c_48 => ?_) (fun c_48 => ?_)
            · skip
              refine z_iload_n X (pc := 57) 4 dX5_asLikely_57 rfl ?_
              refine z_istore_n X (pc := 58) (i := 3) [(3, .int (foF p.1)), (7, .long (lN (usn s ev sl sr sg kd x))), (0, .ref mq), (1, .int (nI kd)), (2, .int (nI wt)), (4, .long (lN p.2)), (6, .int (nI x))] dX5_asLikely_58 rfl (by decide) rfl ?_
              refine z_lload X (pc := 59) 1 dX5_asLikely_59 rfl ?_
              refine z_lload X (pc := 61) 5 dX5_asLikely_61 rfl ?_
              refine z_lcmp_leN X (pc := 63) 72 (Nat.lt_of_le_of_lt (usn_le hsk (by omega)) (by decide)) (by omega) dX5_asLikely_63 dX5_asLikely_64 (by decide) (fun c_63 => ?_) (fun c_63 => absurd c_63 (by omega))
              refine z_lload X (pc := 72) 5 dX5_asLikely_72 rfl ?_
              refine z_lstore X (pc := 74) (i := 4) [(4, .long (lN p.2)), (3, .int (foF p.1)), (7, .long (lN (usn s ev sl sr sg kd x))), (0, .ref mq), (1, .int (nI kd)), (2, .int (nI wt)), (6, .int (nI x))] dX5_asLikely_74 trivial (by decide) rfl ?_
              refine z_iinc X (pc := 76) (i := 6) 6 (nI (x + 1)) [(6, .int (nI (x + 1))), (4, .long (lN p.2)), (3, .int (foF p.1)), (7, .long (lN (usn s ev sl sr sg kd x))), (0, .ref mq), (1, .int (nI kd)), (2, .int (nI wt))] dX5_asLikely_76 rfl (nI_incc x 1) (by decide) rfl ?_
              refine z_goto X (pc := 79) 29 dX5_asLikely_79 (by decide) ?_
              refine z_lv [4, 5, 6, 2, 1, 0] (lv2 := [(0, .ref mq), (1, .int (nI kd)), (2, .int (nI wt)), (3, .int (foF p.1)), (4, .long (lN p.2)), (6, .int (nI (x + 1)))]) rfl ?_
              exact ih_29 (x + 1) p FS_13 F1_14 F2_15 F3_16 F4_17 (by omega) (by omega) (by rw [lqt_s, ← hp, if_neg (by omega)])
            · skip
              refine z_iload X (pc := 52) 6 dX5_asLikely_52 rfl ?_
              refine z_goto X (pc := 54) 58 dX5_asLikely_54 (by decide) ?_
              refine z_istore_n X (pc := 58) (i := 3) [(3, .int (nI x)), (7, .long (lN (usn s ev sl sr sg kd x))), (0, .ref mq), (1, .int (nI kd)), (2, .int (nI wt)), (4, .long (lN p.2)), (6, .int (nI x))] dX5_asLikely_58 rfl (by decide) rfl ?_
              refine z_lload X (pc := 59) 1 dX5_asLikely_59 rfl ?_
              refine z_lload X (pc := 61) 5 dX5_asLikely_61 rfl ?_
              refine z_lcmp_leN X (pc := 63) 72 (Nat.lt_of_le_of_lt (usn_le hsk (by omega)) (by decide)) (by omega) dX5_asLikely_63 dX5_asLikely_64 (by decide) (fun c_63 => absurd c_63 (by omega)) (fun c_63 => ?_)
              refine z_lload X (pc := 67) 1 dX5_asLikely_67 rfl ?_
              refine z_goto X (pc := 69) 74 dX5_asLikely_69 (by decide) ?_
              refine z_lstore X (pc := 74) (i := 4) [(4, .long (lN (usn s ev sl sr sg kd x))), (3, .int (nI x)), (7, .long (lN (usn s ev sl sr sg kd x))), (0, .ref mq), (1, .int (nI kd)), (2, .int (nI wt)), (6, .int (nI x))] dX5_asLikely_74 trivial (by decide) rfl ?_
              refine z_iinc X (pc := 76) (i := 6) 6 (nI (x + 1)) [(6, .int (nI (x + 1))), (4, .long (lN (usn s ev sl sr sg kd x))), (3, .int (nI x)), (7, .long (lN (usn s ev sl sr sg kd x))), (0, .ref mq), (1, .int (nI kd)), (2, .int (nI wt))] dX5_asLikely_76 rfl (nI_incc x 1) (by decide) rfl ?_
              refine z_goto X (pc := 79) 29 dX5_asLikely_79 (by decide) ?_
              refine z_eq (lv2 := [(6, .int (nI (x + 1))), (4, .long (lN ((some x, usn s ev sl sr sg kd x).2))), (3, .int (foF (some x, usn s ev sl sr sg kd x).1)), (7, .long (lN (usn s ev sl sr sg kd x))), (0, .ref mq), (1, .int (nI kd)), (2, .int (nI wt))]) rfl rfl rfl ?_
              refine z_lv [4, 5, 6, 2, 1, 0] (lv2 := [(0, .ref mq), (1, .int (nI kd)), (2, .int (nI wt)), (3, .int (foF (some x, usn s ev sl sr sg kd x).1)), (4, .long (lN ((some x, usn s ev sl sr sg kd x).2))), (6, .int (nI (x + 1)))]) rfl ?_
              exact ih_29 (x + 1) (some x, usn s ev sl sr sg kd x) FS_13 F1_14 F2_15 F3_16 F4_17 (by omega) (by omega) (by rw [lqt_s, ← hp, if_pos (by omega)])
      refine z_eq (lv2 := [(6, .int (nI 0)), (4, .long (lN (((none, 0) : Option Nat × Nat).2))), (3, .int (foF ((none, 0) : Option Nat × Nat).1)), (0, .ref mq), (1, .int (nI kd)), (2, .int (nI wt))]) rfl rfl rfl ?_
      refine z_lv [3, 4, 5, 2, 1, 0] (lv2 := [(0, .ref mq), (1, .int (nI kd)), (2, .int (nI wt)), (3, .int (foF ((none, 0) : Option Nat × Nat).1)), (4, .long (lN (((none, 0) : Option Nat × Nat).2))), (6, .int (nI 0))]) rfl ?_
      exact loop_29 6 0 (none, 0) fs f1 f2 f3 f4 (by omega) (by omega) (lqt_z _).symm
    · skip
      refine z_iconst X (pc := 18) (-1) dX5_asLikely_18 (by decide) ?_
      exact hRet.i dX5_asLikely_19 ⟨fs, f1, f2, f3, f4, by rw [dz_bad (a := 0) (b := 1) c_15]; cases dz 0 3 e <;> rfl, rfl⟩
