/-! PART 36: the law: its loop and its beginning -/
theorem sub5 {i L : Nat} (hL : L ≤ 320) (hi : i ≤ L) (h : ¬ (nI L - nI 5 < nI i)) : i + 5 ≤ L := by
  by_cases q : 5 ≤ L
  · rw [pk_sub q] at h
    have h2 : ¬ L - 5 < i := fun z => h ((nI_ltI (by omega) (by omega)).mpr z)
    omega
  · have h2 := pk_sneg (a := L) (b := 5) (by decide) (by omega)
    have h3 : ¬ nI i < 0 := nI_pos (by omega)
    simp only [Int32.lt_iff_toInt_lt, Int32.toInt_zero] at h h2 h3
    omega
set_option maxHeartbeats 4000000 in
set_option maxRecDepth 100000 in
theorem lw_loop {lq : Launch} {D : va_G} {t : zT} {k : zK} {nm : String} (X : zX D t k cL_law 4 RL nm room_1 lq) {b9 L : Nat} {xs : Nat → Int32} (hSc : zS k b9 L xs) (hL9 : L ≤ 320) (h hT hN hU hA hK hW hL hZ hB hD hAA hKA ho : Nat) (ad ke : Nat → Nat) (mq mT mD mS mP mI mE mH mX mR mO : Nat) (hE : ∀ (ws : va_W) (lv : List (Nat × Value)), Z D k (37, 1437) ws 932 lv [.int (nI 1)]) : ∀ (fuel i : Nat) (ty ev kn kp sg : Nat) (tx s past img sl sr : Nat → Nat) (pl fi se tev a0 a1 a2 a3 a4 b0 b1 b2 b3 b4 g0 g1 g2 g3 at_ : Int32) (g4 g5 fs : Int64) (hr hn : Nat) (f1 f2 f3 k1 k2 k3 k4 : Nat → Int64) (dr : Nat → Int32), L < i + fuel → i ≤ L → lInv ty ev kn kp sg tx s past img sl sr → Z D k (37, 1437) (LW t h hT hN hU hA hK hW hL hZ hB hD hAA hKA ho ad ke mq mT mD mS mP mI mE mH mX mR mO ty ev kn kp sg tx s past img sl sr pl fi se tev a0 a1 a2 a3 a4 b0 b1 b2 b3 b4 g0 g1 g2 g3 at_ g4 g5 fs hr hn f1 f2 f3 k1 k2 k3 k4 dr) 18 [(3, .int (nI i)), (2, .ref mq), (1, .ref h), (0, .ref b9)] [] := by
  intro fuel
  induction fuel with
  | zero =>
    intro i ty ev kn kp sg tx s past img sl sr pl fi se tev a0 a1 a2 a3 a4 b0 b1 b2 b3 b4 g0 g1 g2 g3 at_ g4 g5 fs hr hn f1 f2 f3 k1 k2 k3 k4 dr hf hi hI
    exfalso; omega
  | succ fuel ih =>
    intro i ty ev kn kp sg tx s past img sl sr pl fi se tev a0 a1 a2 a3 a4 b0 b1 b2 b3 b4 g0 g1 g2 g3 at_ g4 g5 fs hr hn f1 f2 f3 k1 k2 k3 k4 dr hf hi hI
    have hBk : lwB D t k b9 i h hT hN hU hA hK hW hL hZ hB hD hAA hKA ho ad ke mq mT mD mS mP mI mE mH mX mR mO ∨ L < i + 5 := by
      rcases Nat.lt_or_ge L (i + 5) with q | q
      · exact Or.inr q
      · refine Or.inl ?_
        intro ty ev kn kp sg tx s past img sl sr pl fi se tev a0 a1 a2 a3 a4 b0 b1 b2 b3 b4 g0 g1 g2 g3 at_ g4 g5 fs hr hn f1 f2 f3 k1 k2 k3 k4 dr hI
        refine z_iinc X (pc := 925) (i := 3) 0 (nI (i + 5)) [(3, .int (nI (i + 5))), (2, .ref mq), (1, .ref h), (0, .ref b9)] dL_law_925 rfl (nI_incc i 5) (by decide) rfl ?_
        refine z_goto X (pc := 928) 18 dL_law_928 (by decide) ?_
        exact ih (i + 5) ty ev kn kp sg tx s past img sl sr pl fi se tev a0 a1 a2 a3 a4 b0 b1 b2 b3 b4 g0 g1 g2 g3 at_ g4 g5 fs hr hn f1 f2 f3 k1 k2 k3 k4 dr (by omega) (by omega) hI
    refine z_iload_n X (pc := 18) 0 dL_law_18 rfl ?_
    refine z_aload_n X (pc := 19) 3 dL_law_19 rfl ?_
    refine z_slen X (pc := 20) hSc dL_law_20 ?_
    refine z_iconst X (pc := 21) (nI 5) dL_law_21 (by decide) ?_
    refine z_isub X (pc := 22) (v := nI L - nI 5) dL_law_22 rfl ?_
    refine z_icmp_gt X (pc := 23) 931 dL_law_23 (by decide) (fun c9 => ?_) (fun c9 => ?_)
    · refine z_iconst X (pc := 931) (nI 1) dL_law_931 (by decide) ?_
      exact hE _ _
    · have hi5 := sub5 hL9 hi c9
      have hBk := hBk.resolve_right (by omega)
      refine z_aload_n X (pc := 26) 3 dL_law_26 rfl ?_
      refine z_iload_n X (pc := 27) 0 dL_law_27 rfl ?_
      refine z_sld X (pc := 28) hSc i rfl (by omega) (by omega) dL_law_28 ?_
      refine z_bipush X (pc := 29) (nI 31) dL_law_29 (by decide) ?_
      obtain ⟨j, hj, hj2⟩ := pk_andE (xs i) (m := nI 31) 5 (by decide)
      refine z_iand X (pc := 31) (v := nI j) dL_law_31 hj2 ?_
      have hj : j < 32 := hj
      rcases (show j = 0 ∨ j = 1 ∨ j = 2 ∨ j = 3 ∨ j = 4 ∨ j = 5 ∨ j = 6 ∨ j = 7 ∨ j = 8 ∨ j = 9 ∨ j = 10 ∨ j = 11 ∨ j = 12 ∨ j = 13 ∨ j = 14 ∨ j = 15 ∨ j = 16 ∨ j = 17 ∨ j = 18 ∨ j = 19 ∨ j = 20 ∨ j = 21 ∨ j = 22 ∨ j = 23 ∨ j = 24 ∨ j = 25 ∨ j = 26 ∨ j = 27 ∨ j = 28 ∨ j = 29 ∨ j = 30 ∨ j = 31 by omega) with rfl | rfl | rfl | rfl | rfl | rfl | rfl | rfl | rfl | rfl | rfl | rfl | rfl | rfl | rfl | rfl | rfl | rfl | rfl | rfl | rfl | rfl | rfl | rfl | rfl | rfl | rfl | rfl | rfl | rfl | rfl | rfl
      · refine z_tableIn X (pc := 32) (off := 140) 172 dL_law_32 (by decide) (by decide) (by decide) (by decide) ?_
        exact lc_0 X hSc hL9 hi5 h hT hN hU hA hK hW hL hZ hB hD hAA hKA ho ad ke mq mT mD mS mP mI mE mH mX mR mO hBk ty ev kn kp sg tx s past img sl sr pl fi se tev a0 a1 a2 a3 a4 b0 b1 b2 b3 b4 g0 g1 g2 g3 at_ g4 g5 fs hr hn f1 f2 f3 k1 k2 k3 k4 dr hI
      · refine z_tableIn X (pc := 32) (off := 163) 195 dL_law_32 (by decide) (by decide) (by decide) (by decide) ?_
        exact lc_1 X hSc hL9 hi5 h hT hN hU hA hK hW hL hZ hB hD hAA hKA ho ad ke mq mT mD mS mP mI mE mH mX mR mO hBk ty ev kn kp sg tx s past img sl sr pl fi se tev a0 a1 a2 a3 a4 b0 b1 b2 b3 b4 g0 g1 g2 g3 at_ g4 g5 fs hr hn f1 f2 f3 k1 k2 k3 k4 dr hI
      · refine z_tableIn X (pc := 32) (off := 176) 208 dL_law_32 (by decide) (by decide) (by decide) (by decide) ?_
        exact lc_2 X hSc hL9 hi5 h hT hN hU hA hK hW hL hZ hB hD hAA hKA ho ad ke mq mT mD mS mP mI mE mH mX mR mO hBk ty ev kn kp sg tx s past img sl sr pl fi se tev a0 a1 a2 a3 a4 b0 b1 b2 b3 b4 g0 g1 g2 g3 at_ g4 g5 fs hr hn f1 f2 f3 k1 k2 k3 k4 dr hI
      · refine z_tableIn X (pc := 32) (off := 189) 221 dL_law_32 (by decide) (by decide) (by decide) (by decide) ?_
        exact lc_3 X hSc hL9 hi5 h hT hN hU hA hK hW hL hZ hB hD hAA hKA ho ad ke mq mT mD mS mP mI mE mH mX mR mO hBk ty ev kn kp sg tx s past img sl sr pl fi se tev a0 a1 a2 a3 a4 b0 b1 b2 b3 b4 g0 g1 g2 g3 at_ g4 g5 fs hr hn f1 f2 f3 k1 k2 k3 k4 dr hI
      · refine z_tableIn X (pc := 32) (off := 202) 234 dL_law_32 (by decide) (by decide) (by decide) (by decide) ?_
        exact lc_4 X hSc hL9 hi5 h hT hN hU hA hK hW hL hZ hB hD hAA hKA ho ad ke mq mT mD mS mP mI mE mH mX mR mO hBk ty ev kn kp sg tx s past img sl sr pl fi se tev a0 a1 a2 a3 a4 b0 b1 b2 b3 b4 g0 g1 g2 g3 at_ g4 g5 fs hr hn f1 f2 f3 k1 k2 k3 k4 dr hI
      · refine z_tableIn X (pc := 32) (off := 225) 257 dL_law_32 (by decide) (by decide) (by decide) (by decide) ?_
        exact lc_5 X hSc hL9 hi5 h hT hN hU hA hK hW hL hZ hB hD hAA hKA ho ad ke mq mT mD mS mP mI mE mH mX mR mO hBk ty ev kn kp sg tx s past img sl sr pl fi se tev a0 a1 a2 a3 a4 b0 b1 b2 b3 b4 g0 g1 g2 g3 at_ g4 g5 fs hr hn f1 f2 f3 k1 k2 k3 k4 dr hI
      · refine z_tableIn X (pc := 32) (off := 248) 280 dL_law_32 (by decide) (by decide) (by decide) (by decide) ?_
        exact lc_6 X hSc hL9 hi5 h hT hN hU hA hK hW hL hZ hB hD hAA hKA ho ad ke mq mT mD mS mP mI mE mH mX mR mO hBk ty ev kn kp sg tx s past img sl sr pl fi se tev a0 a1 a2 a3 a4 b0 b1 b2 b3 b4 g0 g1 g2 g3 at_ g4 g5 fs hr hn f1 f2 f3 k1 k2 k3 k4 dr hI
      · refine z_tableIn X (pc := 32) (off := 271) 303 dL_law_32 (by decide) (by decide) (by decide) (by decide) ?_
        exact lc_7 X hSc hL9 hi5 h hT hN hU hA hK hW hL hZ hB hD hAA hKA ho ad ke mq mT mD mS mP mI mE mH mX mR mO hBk ty ev kn kp sg tx s past img sl sr pl fi se tev a0 a1 a2 a3 a4 b0 b1 b2 b3 b4 g0 g1 g2 g3 at_ g4 g5 fs hr hn f1 f2 f3 k1 k2 k3 k4 dr hI
      · refine z_tableIn X (pc := 32) (off := 304) 336 dL_law_32 (by decide) (by decide) (by decide) (by decide) ?_
        exact lc_8 X hSc hL9 hi5 h hT hN hU hA hK hW hL hZ hB hD hAA hKA ho ad ke mq mT mD mS mP mI mE mH mX mR mO hBk ty ev kn kp sg tx s past img sl sr pl fi se tev a0 a1 a2 a3 a4 b0 b1 b2 b3 b4 g0 g1 g2 g3 at_ g4 g5 fs hr hn f1 f2 f3 k1 k2 k3 k4 dr hI
      · refine z_tableIn X (pc := 32) (off := 327) 359 dL_law_32 (by decide) (by decide) (by decide) (by decide) ?_
        exact lc_9 X hSc hL9 hi5 h hT hN hU hA hK hW hL hZ hB hD hAA hKA ho ad ke mq mT mD mS mP mI mE mH mX mR mO hBk ty ev kn kp sg tx s past img sl sr pl fi se tev a0 a1 a2 a3 a4 b0 b1 b2 b3 b4 g0 g1 g2 g3 at_ g4 g5 fs hr hn f1 f2 f3 k1 k2 k3 k4 dr hI
      · refine z_tableIn X (pc := 32) (off := 360) 392 dL_law_32 (by decide) (by decide) (by decide) (by decide) ?_
        exact lc_10 X hSc hL9 hi5 h hT hN hU hA hK hW hL hZ hB hD hAA hKA ho ad ke mq mT mD mS mP mI mE mH mX mR mO hBk ty ev kn kp sg tx s past img sl sr pl fi se tev a0 a1 a2 a3 a4 b0 b1 b2 b3 b4 g0 g1 g2 g3 at_ g4 g5 fs hr hn f1 f2 f3 k1 k2 k3 k4 dr hI
      · refine z_tableIn X (pc := 32) (off := 373) 405 dL_law_32 (by decide) (by decide) (by decide) (by decide) ?_
        exact lc_11 X hSc hL9 hi5 h hT hN hU hA hK hW hL hZ hB hD hAA hKA ho ad ke mq mT mD mS mP mI mE mH mX mR mO hBk ty ev kn kp sg tx s past img sl sr pl fi se tev a0 a1 a2 a3 a4 b0 b1 b2 b3 b4 g0 g1 g2 g3 at_ g4 g5 fs hr hn f1 f2 f3 k1 k2 k3 k4 dr hI
      · refine z_tableIn X (pc := 32) (off := 406) 438 dL_law_32 (by decide) (by decide) (by decide) (by decide) ?_
        exact lc_12 X hSc hL9 hi5 h hT hN hU hA hK hW hL hZ hB hD hAA hKA ho ad ke mq mT mD mS mP mI mE mH mX mR mO hBk ty ev kn kp sg tx s past img sl sr pl fi se tev a0 a1 a2 a3 a4 b0 b1 b2 b3 b4 g0 g1 g2 g3 at_ g4 g5 fs hr hn f1 f2 f3 k1 k2 k3 k4 dr hI
      · refine z_tableIn X (pc := 32) (off := 429) 461 dL_law_32 (by decide) (by decide) (by decide) (by decide) ?_
        exact lc_13 X hSc hL9 hi5 h hT hN hU hA hK hW hL hZ hB hD hAA hKA ho ad ke mq mT mD mS mP mI mE mH mX mR mO hBk ty ev kn kp sg tx s past img sl sr pl fi se tev a0 a1 a2 a3 a4 b0 b1 b2 b3 b4 g0 g1 g2 g3 at_ g4 g5 fs hr hn f1 f2 f3 k1 k2 k3 k4 dr hI
      · refine z_tableIn X (pc := 32) (off := 462) 494 dL_law_32 (by decide) (by decide) (by decide) (by decide) ?_
        exact lc_14 X hSc hL9 hi5 h hT hN hU hA hK hW hL hZ hB hD hAA hKA ho ad ke mq mT mD mS mP mI mE mH mX mR mO hBk ty ev kn kp sg tx s past img sl sr pl fi se tev a0 a1 a2 a3 a4 b0 b1 b2 b3 b4 g0 g1 g2 g3 at_ g4 g5 fs hr hn f1 f2 f3 k1 k2 k3 k4 dr hI
      · refine z_tableIn X (pc := 32) (off := 485) 517 dL_law_32 (by decide) (by decide) (by decide) (by decide) ?_
        exact lc_15 X hSc hL9 hi5 h hT hN hU hA hK hW hL hZ hB hD hAA hKA ho ad ke mq mT mD mS mP mI mE mH mX mR mO hBk ty ev kn kp sg tx s past img sl sr pl fi se tev a0 a1 a2 a3 a4 b0 b1 b2 b3 b4 g0 g1 g2 g3 at_ g4 g5 fs hr hn f1 f2 f3 k1 k2 k3 k4 dr hI
      · refine z_tableIn X (pc := 32) (off := 508) 540 dL_law_32 (by decide) (by decide) (by decide) (by decide) ?_
        exact lc_16 X hSc hL9 hi5 h hT hN hU hA hK hW hL hZ hB hD hAA hKA ho ad ke mq mT mD mS mP mI mE mH mX mR mO hBk ty ev kn kp sg tx s past img sl sr pl fi se tev a0 a1 a2 a3 a4 b0 b1 b2 b3 b4 g0 g1 g2 g3 at_ g4 g5 fs hr hn f1 f2 f3 k1 k2 k3 k4 dr hI
      · refine z_tableIn X (pc := 32) (off := 531) 563 dL_law_32 (by decide) (by decide) (by decide) (by decide) ?_
        exact lc_17 X hSc hL9 hi5 h hT hN hU hA hK hW hL hZ hB hD hAA hKA ho ad ke mq mT mD mS mP mI mE mH mX mR mO hBk ty ev kn kp sg tx s past img sl sr pl fi se tev a0 a1 a2 a3 a4 b0 b1 b2 b3 b4 g0 g1 g2 g3 at_ g4 g5 fs hr hn f1 f2 f3 k1 k2 k3 k4 dr hI
      · refine z_tableIn X (pc := 32) (off := 554) 586 dL_law_32 (by decide) (by decide) (by decide) (by decide) ?_
        exact lc_18 X hSc hL9 hi5 h hT hN hU hA hK hW hL hZ hB hD hAA hKA ho ad ke mq mT mD mS mP mI mE mH mX mR mO hBk ty ev kn kp sg tx s past img sl sr pl fi se tev a0 a1 a2 a3 a4 b0 b1 b2 b3 b4 g0 g1 g2 g3 at_ g4 g5 fs hr hn f1 f2 f3 k1 k2 k3 k4 dr hI
      · refine z_tableIn X (pc := 32) (off := 597) 629 dL_law_32 (by decide) (by decide) (by decide) (by decide) ?_
        exact lc_19 X hSc hL9 hi5 h hT hN hU hA hK hW hL hZ hB hD hAA hKA ho ad ke mq mT mD mS mP mI mE mH mX mR mO hBk ty ev kn kp sg tx s past img sl sr pl fi se tev a0 a1 a2 a3 a4 b0 b1 b2 b3 b4 g0 g1 g2 g3 at_ g4 g5 fs hr hn f1 f2 f3 k1 k2 k3 k4 dr hI
      · refine z_tableIn X (pc := 32) (off := 620) 652 dL_law_32 (by decide) (by decide) (by decide) (by decide) ?_
        exact lc_20 X hSc hL9 hi5 h hT hN hU hA hK hW hL hZ hB hD hAA hKA ho ad ke mq mT mD mS mP mI mE mH mX mR mO hBk ty ev kn kp sg tx s past img sl sr pl fi se tev a0 a1 a2 a3 a4 b0 b1 b2 b3 b4 g0 g1 g2 g3 at_ g4 g5 fs hr hn f1 f2 f3 k1 k2 k3 k4 dr hI
      · refine z_tableIn X (pc := 32) (off := 653) 685 dL_law_32 (by decide) (by decide) (by decide) (by decide) ?_
        exact lc_21 X hSc hL9 hi5 h hT hN hU hA hK hW hL hZ hB hD hAA hKA ho ad ke mq mT mD mS mP mI mE mH mX mR mO hBk ty ev kn kp sg tx s past img sl sr pl fi se tev a0 a1 a2 a3 a4 b0 b1 b2 b3 b4 g0 g1 g2 g3 at_ g4 g5 fs hr hn f1 f2 f3 k1 k2 k3 k4 dr hI
      · refine z_tableIn X (pc := 32) (off := 666) 698 dL_law_32 (by decide) (by decide) (by decide) (by decide) ?_
        exact lc_22 X hSc hL9 hi5 h hT hN hU hA hK hW hL hZ hB hD hAA hKA ho ad ke mq mT mD mS mP mI mE mH mX mR mO hBk ty ev kn kp sg tx s past img sl sr pl fi se tev a0 a1 a2 a3 a4 b0 b1 b2 b3 b4 g0 g1 g2 g3 at_ g4 g5 fs hr hn f1 f2 f3 k1 k2 k3 k4 dr hI
      · refine z_tableIn X (pc := 32) (off := 679) 711 dL_law_32 (by decide) (by decide) (by decide) (by decide) ?_
        exact lc_23 X hSc hL9 hi5 h hT hN hU hA hK hW hL hZ hB hD hAA hKA ho ad ke mq mT mD mS mP mI mE mH mX mR mO hBk ty ev kn kp sg tx s past img sl sr pl fi se tev a0 a1 a2 a3 a4 b0 b1 b2 b3 b4 g0 g1 g2 g3 at_ g4 g5 fs hr hn f1 f2 f3 k1 k2 k3 k4 dr hI
      · refine z_tableIn X (pc := 32) (off := 712) 744 dL_law_32 (by decide) (by decide) (by decide) (by decide) ?_
        exact lc_24 X hSc hL9 hi5 h hT hN hU hA hK hW hL hZ hB hD hAA hKA ho ad ke mq mT mD mS mP mI mE mH mX mR mO hBk ty ev kn kp sg tx s past img sl sr pl fi se tev a0 a1 a2 a3 a4 b0 b1 b2 b3 b4 g0 g1 g2 g3 at_ g4 g5 fs hr hn f1 f2 f3 k1 k2 k3 k4 dr hI
      · refine z_tableIn X (pc := 32) (off := 735) 767 dL_law_32 (by decide) (by decide) (by decide) (by decide) ?_
        exact lc_25 X hSc hL9 hi5 h hT hN hU hA hK hW hL hZ hB hD hAA hKA ho ad ke mq mT mD mS mP mI mE mH mX mR mO hBk ty ev kn kp sg tx s past img sl sr pl fi se tev a0 a1 a2 a3 a4 b0 b1 b2 b3 b4 g0 g1 g2 g3 at_ g4 g5 fs hr hn f1 f2 f3 k1 k2 k3 k4 dr hI
      · refine z_tableIn X (pc := 32) (off := 748) 780 dL_law_32 (by decide) (by decide) (by decide) (by decide) ?_
        exact lc_26 X hSc hL9 hi5 h hT hN hU hA hK hW hL hZ hB hD hAA hKA ho ad ke mq mT mD mS mP mI mE mH mX mR mO hBk ty ev kn kp sg tx s past img sl sr pl fi se tev a0 a1 a2 a3 a4 b0 b1 b2 b3 b4 g0 g1 g2 g3 at_ g4 g5 fs hr hn f1 f2 f3 k1 k2 k3 k4 dr hI
      · refine z_tableIn X (pc := 32) (off := 801) 833 dL_law_32 (by decide) (by decide) (by decide) (by decide) ?_
        exact lc_27 X hSc hL9 hi5 h hT hN hU hA hK hW hL hZ hB hD hAA hKA ho ad ke mq mT mD mS mP mI mE mH mX mR mO hBk ty ev kn kp sg tx s past img sl sr pl fi se tev a0 a1 a2 a3 a4 b0 b1 b2 b3 b4 g0 g1 g2 g3 at_ g4 g5 fs hr hn f1 f2 f3 k1 k2 k3 k4 dr hI
      · refine z_tableIn X (pc := 32) (off := 844) 876 dL_law_32 (by decide) (by decide) (by decide) (by decide) ?_
        exact lc_28 X hSc hL9 hi5 h hT hN hU hA hK hW hL hZ hB hD hAA hKA ho ad ke mq mT mD mS mP mI mE mH mX mR mO hBk ty ev kn kp sg tx s past img sl sr pl fi se tev a0 a1 a2 a3 a4 b0 b1 b2 b3 b4 g0 g1 g2 g3 at_ g4 g5 fs hr hn f1 f2 f3 k1 k2 k3 k4 dr hI
      · refine z_tableIn X (pc := 32) (off := 857) 889 dL_law_32 (by decide) (by decide) (by decide) (by decide) ?_
        exact lc_29 X hSc hL9 hi5 h hT hN hU hA hK hW hL hZ hB hD hAA hKA ho ad ke mq mT mD mS mP mI mE mH mX mR mO hBk ty ev kn kp sg tx s past img sl sr pl fi se tev a0 a1 a2 a3 a4 b0 b1 b2 b3 b4 g0 g1 g2 g3 at_ g4 g5 fs hr hn f1 f2 f3 k1 k2 k3 k4 dr hI
      · refine z_tableIn X (pc := 32) (off := 870) 902 dL_law_32 (by decide) (by decide) (by decide) (by decide) ?_
        exact lc_30 X hSc hL9 hi5 h hT hN hU hA hK hW hL hZ hB hD hAA hKA ho ad ke mq mT mD mS mP mI mE mH mX mR mO hBk ty ev kn kp sg tx s past img sl sr pl fi se tev a0 a1 a2 a3 a4 b0 b1 b2 b3 b4 g0 g1 g2 g3 at_ g4 g5 fs hr hn f1 f2 f3 k1 k2 k3 k4 dr hI
      · refine z_tableOut X (pc := 32) 925 dL_law_32 (Or.inr (by decide)) (by decide) ?_
        exact hBk ty ev kn kp sg tx s past img sl sr pl fi se tev a0 a1 a2 a3 a4 b0 b1 b2 b3 b4 g0 g1 g2 g3 at_ g4 g5 fs hr hn f1 f2 f3 k1 k2 k3 k4 dr hI
set_option maxHeartbeats 4000000 in
set_option maxRecDepth 100000 in
theorem lw_begin {lq : Launch} {D : va_G} {t : zT} {k : zK} {nm : String} (X : zX D t k cL_law 4 RL nm room_1 lq) {b9 L : Nat} {xs : Nat → Int32} (hSc : zS k b9 L xs) (hL9 : L ≤ 320) (hE : ∀ (ws : va_W) (lv : List (Nat × Value)), Z D k (37, 1437) ws 932 lv [.int (nI 1)]) : Z D k (0, 0) [] 0 [(0, .ref b9)] [] := by
  refine z_new X (pc := 0) (ci := 4) [.null, .null, .null, .null, .null, .null, .null, .null, .int (nI 0), .int (nI 0)] tu_4 tyX4_ok tw_8 tw_9 tw_1 rfl nvX4 (Nat.le_of_ble_eq_true rfl) (Nat.le_of_ble_eq_true rfl) dL_law_0 (fun h => ?_)
  refine z_cs (1, 10) rfl ?_
  refine z_eq (ws2 := [(h, .inr (4, [.null, .null, .null, .null, .null, .null, .null, .null, .int (nI 0), .int (nI 0)]))]) (st2 := [.ref h]) rfl rfl rfl ?_
  refine z_dup X (pc := 3) dL_law_3 rfl ?_
  refine zc_IA (as := []) X (pc := 4) (c_X4_init lq D t h ) tw_10 tw_12 tw_1 tw_11 rfl [0] [] [] rfl rfl rfl rfl (by decide) dL_law_4 rfl zdX4_init ⟨rfl, rfl, Nat.le_of_ble_eq_true rfl, Nat.le_of_ble_eq_true rfl⟩ (Nat.le_of_ble_eq_true rfl) (Nat.le_of_ble_eq_true rfl) (Nat.le_of_ble_eq_true rfl) (fun v_1 w_2 hp_3 => ?_)
  obtain ⟨hT, hN, hU, hA, hK, hW, hL, hZ, hB, hD, hAA, ad, hKA, ke, hr, hn, ho, rfl, rfl⟩ := hp_3
  refine z_cs (26, 394) rfl ?_
  refine z_eq (ws2 := [eX4 h hT hN hU hA hK hW hL hZ (nI 0) (nI 2), eX2 hT hB (nI 0) (nI 0) (nI 0) (nI 0) hD (nI 0), eC t hB 200 (nf (fun _ => 0)), eX0 hD (nI 0) (nI 0) (nI 0) (nI 0) (nI 0), eX0 hN (nI 6) (nI 4) (nI 2) (nI 2) (nI 3), eX0 hU (nI 0) (nI 0) (nI 0) (nI 0) (nI 0), eX1 hA hAA (nI 0), eQ t hAA 8 (fun j => some (ad j)), eX0 (ad 0) (nI 0) (nI 0) (nI 0) (nI 0) (nI 0), eX0 (ad 1) (nI 0) (nI 0) (nI 0) (nI 0) (nI 0), eX0 (ad 2) (nI 0) (nI 0) (nI 0) (nI 0) (nI 0), eX0 (ad 3) (nI 0) (nI 0) (nI 0) (nI 0) (nI 0), eX0 (ad 4) (nI 0) (nI 0) (nI 0) (nI 0) (nI 0), eX0 (ad 5) (nI 0) (nI 0) (nI 0) (nI 0) (nI 0), eX0 (ad 6) (nI 0) (nI 0) (nI 0) (nI 0) (nI 0), eX0 (ad 7) (nI 0) (nI 0) (nI 0) (nI 0) (nI 0), eX1 hK hKA (nI 0), eQ t hKA 2 (fun j => some (ke j)), eX0 (ke 0) (nI 0) (nI 0) (nI 0) (nI 0) (nI 0), eX0 (ke 1) (nI 0) (nI 0) (nI 0) (nI 0) (nI 0), eX3 hW hr hn ho (nI 0) (nI 0) (nI 0) (nI 0) (lN 0) (lN 0), eL t hr 33 (lf (fun _ => 0)), eL t hn 33 (lf (fun _ => 0)), eL t ho 11 (lf (fun _ => 0)), eI t hL 6 (nf (fun _ => 0)), eI t hZ 6 (nf (fun _ => 0))]) (st2 := [.ref h]) rfl rfl rfl ?_
  refine z_astore_n X (pc := 7) (i := 1) [(1, .ref h), (0, .ref b9)] dL_law_7 rfl (by decide) rfl ?_
  refine z_new X (pc := 8) (ci := 5) [.null, .int (nI 0), .null, .null, .int (nI 0), .null, .int (nI 0), .null, .int (nI 0), .null, .int (nI 0), .int (nI 0), .null, .null, .null, .null, .long (lN 0)] tu_5 tyX5_ok tw_545 tw_546 tw_7 rfl nvX5 (Nat.le_of_ble_eq_true rfl) (Nat.le_of_ble_eq_true rfl) dL_law_8 (fun mq => ?_)
  refine z_cs (27, 411) rfl ?_
  refine z_eq (ws2 := [eX4 h hT hN hU hA hK hW hL hZ (nI 0) (nI 2), eX2 hT hB (nI 0) (nI 0) (nI 0) (nI 0) hD (nI 0), eC t hB 200 (nf (fun _ => 0)), eX0 hD (nI 0) (nI 0) (nI 0) (nI 0) (nI 0), eX0 hN (nI 6) (nI 4) (nI 2) (nI 2) (nI 3), eX0 hU (nI 0) (nI 0) (nI 0) (nI 0) (nI 0), eX1 hA hAA (nI 0), eQ t hAA 8 (fun j => some (ad j)), eX0 (ad 0) (nI 0) (nI 0) (nI 0) (nI 0) (nI 0), eX0 (ad 1) (nI 0) (nI 0) (nI 0) (nI 0) (nI 0), eX0 (ad 2) (nI 0) (nI 0) (nI 0) (nI 0) (nI 0), eX0 (ad 3) (nI 0) (nI 0) (nI 0) (nI 0) (nI 0), eX0 (ad 4) (nI 0) (nI 0) (nI 0) (nI 0) (nI 0), eX0 (ad 5) (nI 0) (nI 0) (nI 0) (nI 0) (nI 0), eX0 (ad 6) (nI 0) (nI 0) (nI 0) (nI 0) (nI 0), eX0 (ad 7) (nI 0) (nI 0) (nI 0) (nI 0) (nI 0), eX1 hK hKA (nI 0), eQ t hKA 2 (fun j => some (ke j)), eX0 (ke 0) (nI 0) (nI 0) (nI 0) (nI 0) (nI 0), eX0 (ke 1) (nI 0) (nI 0) (nI 0) (nI 0) (nI 0), eX3 hW hr hn ho (nI 0) (nI 0) (nI 0) (nI 0) (lN 0) (lN 0), eL t hr 33 (lf (fun _ => 0)), eL t hn 33 (lf (fun _ => 0)), eL t ho 11 (lf (fun _ => 0)), eI t hL 6 (nf (fun _ => 0)), eI t hZ 6 (nf (fun _ => 0)), (mq, .inr (5, [.null, .int (nI 0), .null, .null, .int (nI 0), .null, .int (nI 0), .null, .int (nI 0), .null, .int (nI 0), .int (nI 0), .null, .null, .null, .null, .long (lN 0)]))]) (st2 := [.ref mq]) rfl rfl rfl ?_
  refine z_dup X (pc := 11) dL_law_11 rfl ?_
  refine zc_IA (as := []) X (pc := 12) (c_X5_init lq D t mq ) tw_547 tw_549 tw_7 tw_548 rfl [26] [0, 1, 2, 3, 4, 5, 6, 7, 8, 9, 10, 11, 12, 13, 14, 15, 16, 17, 18, 19, 20, 21, 22, 23, 24, 25] [eX4 h hT hN hU hA hK hW hL hZ (nI 0) (nI 2), eX2 hT hB (nI 0) (nI 0) (nI 0) (nI 0) hD (nI 0), eC t hB 200 (nf (fun _ => 0)), eX0 hD (nI 0) (nI 0) (nI 0) (nI 0) (nI 0), eX0 hN (nI 6) (nI 4) (nI 2) (nI 2) (nI 3), eX0 hU (nI 0) (nI 0) (nI 0) (nI 0) (nI 0), eX1 hA hAA (nI 0), eQ t hAA 8 (fun j => some (ad j)), eX0 (ad 0) (nI 0) (nI 0) (nI 0) (nI 0) (nI 0), eX0 (ad 1) (nI 0) (nI 0) (nI 0) (nI 0) (nI 0), eX0 (ad 2) (nI 0) (nI 0) (nI 0) (nI 0) (nI 0), eX0 (ad 3) (nI 0) (nI 0) (nI 0) (nI 0) (nI 0), eX0 (ad 4) (nI 0) (nI 0) (nI 0) (nI 0) (nI 0), eX0 (ad 5) (nI 0) (nI 0) (nI 0) (nI 0) (nI 0), eX0 (ad 6) (nI 0) (nI 0) (nI 0) (nI 0) (nI 0), eX0 (ad 7) (nI 0) (nI 0) (nI 0) (nI 0) (nI 0), eX1 hK hKA (nI 0), eQ t hKA 2 (fun j => some (ke j)), eX0 (ke 0) (nI 0) (nI 0) (nI 0) (nI 0) (nI 0), eX0 (ke 1) (nI 0) (nI 0) (nI 0) (nI 0) (nI 0), eX3 hW hr hn ho (nI 0) (nI 0) (nI 0) (nI 0) (lN 0) (lN 0), eL t hr 33 (lf (fun _ => 0)), eL t hn 33 (lf (fun _ => 0)), eL t ho 11 (lf (fun _ => 0)), eI t hL 6 (nf (fun _ => 0)), eI t hZ 6 (nf (fun _ => 0))] rfl rfl rfl rfl (by decide) dL_law_12 rfl zdX5_init ⟨rfl, rfl, Nat.le_of_ble_eq_true rfl, Nat.le_of_ble_eq_true rfl⟩ (Nat.le_of_ble_eq_true rfl) (Nat.le_of_ble_eq_true rfl) (Nat.le_of_ble_eq_true rfl) (fun v_4 w_5 hp_6 => ?_)
  obtain ⟨mT, mD, mS, mP, mI, mE, mH, mX, mR, mO, dr, rfl, rfl⟩ := hp_6
  refine z_cs (37, 1437) rfl ?_
  refine z_eq (ws2 := [eX4 h hT hN hU hA hK hW hL hZ (nI 0) (nI 2), eX2 hT hB (nI 0) (nI 0) (nI 0) (nI 0) hD (nI 0), eC t hB 200 (nf (fun _ => 0)), eX0 hD (nI 0) (nI 0) (nI 0) (nI 0) (nI 0), eX0 hN (nI 6) (nI 4) (nI 2) (nI 2) (nI 3), eX0 hU (nI 0) (nI 0) (nI 0) (nI 0) (nI 0), eX1 hA hAA (nI 0), eQ t hAA 8 (fun j => some (ad j)), eX0 (ad 0) (nI 0) (nI 0) (nI 0) (nI 0) (nI 0), eX0 (ad 1) (nI 0) (nI 0) (nI 0) (nI 0) (nI 0), eX0 (ad 2) (nI 0) (nI 0) (nI 0) (nI 0) (nI 0), eX0 (ad 3) (nI 0) (nI 0) (nI 0) (nI 0) (nI 0), eX0 (ad 4) (nI 0) (nI 0) (nI 0) (nI 0) (nI 0), eX0 (ad 5) (nI 0) (nI 0) (nI 0) (nI 0) (nI 0), eX0 (ad 6) (nI 0) (nI 0) (nI 0) (nI 0) (nI 0), eX0 (ad 7) (nI 0) (nI 0) (nI 0) (nI 0) (nI 0), eX1 hK hKA (nI 0), eQ t hKA 2 (fun j => some (ke j)), eX0 (ke 0) (nI 0) (nI 0) (nI 0) (nI 0) (nI 0), eX0 (ke 1) (nI 0) (nI 0) (nI 0) (nI 0) (nI 0), eX3 hW hr hn ho (nI 0) (nI 0) (nI 0) (nI 0) (lN 0) (lN 0), eL t hr 33 (lf (fun _ => 0)), eL t hn 33 (lf (fun _ => 0)), eL t ho 11 (lf (fun _ => 0)), eI t hL 6 (nf (fun _ => 0)), eI t hZ 6 (nf (fun _ => 0)), eX5 mq mT (nI 0) mD mS (nI 2) mP (nI 0) mI (nI 0) mE (nI 0) (nI 0) mH mX mR mO (lN 0), eI t mT 200 (nf (fun _ => 0)), eI t mD 6 dr, eI t mS 5 (nf s00), eI t mP 40 (nf (fun _ => 0)), eI t mI 10 (nf (fun _ => 0)), eI t mE 6 (nf (fun _ => 0)), eL t mH 363 (lf (fun _ => 0)), eL t mX 363 (lf (fun _ => 0)), eL t mR 11 (lf (fun _ => 0)), eL t mO 22 (lf (fun _ => 0))]) (st2 := [.ref mq]) rfl rfl rfl ?_
  refine z_astore_n X (pc := 15) (i := 2) [(2, .ref mq), (1, .ref h), (0, .ref b9)] dL_law_15 rfl (by decide) rfl ?_
  refine z_iconst X (pc := 16) (nI 0) dL_law_16 (by decide) ?_
  refine z_istore_n X (pc := 17) (i := 3) [(3, .int (nI 0)), (2, .ref mq), (1, .ref h), (0, .ref b9)] dL_law_17 rfl (by decide) rfl ?_
  refine z_lv [0, 1, 2, 3] (lv2 := [(3, .int (nI 0)), (2, .ref mq), (1, .ref h), (0, .ref b9)]) rfl ?_
  refine z_eq (ws2 := LW t h hT hN hU hA hK hW hL hZ hB hD hAA hKA ho ad ke mq mT mD mS mP mI mE mH mX mR mO 0 2 0 0 0 (fun _ => 0) s00 (fun _ => 0) (fun _ => 0) (fun _ => 0) (fun _ => 0) (nI 0) (nI 0) (nI 0) (nI 0) (nI 0) (nI 0) (nI 0) (nI 0) (nI 0) (nI 0) (nI 0) (nI 0) (nI 0) (nI 0) (nI 0) (nI 0) (nI 0) (nI 0) (nI 0) (lN 0) (lN 0) (lN 0) hr hn (lf (fun _ => 0)) (lf (fun _ => 0)) (lf (fun _ => 0)) (lf (fun _ => 0)) (lf (fun _ => 0)) (lf (fun _ => 0)) (lf (fun _ => 0)) dr) rfl rfl rfl ?_
  exact lw_loop X hSc hL9 h hT hN hU hA hK hW hL hZ hB hD hAA hKA ho ad ke mq mT mD mS mP mI mE mH mX mR mO hE (L + 1) 0 0 2 0 0 0 (fun _ => 0) s00 (fun _ => 0) (fun _ => 0) (fun _ => 0) (fun _ => 0) (nI 0) (nI 0) (nI 0) (nI 0) (nI 0) (nI 0) (nI 0) (nI 0) (nI 0) (nI 0) (nI 0) (nI 0) (nI 0) (nI 0) (nI 0) (nI 0) (nI 0) (nI 0) (nI 0) (lN 0) (lN 0) (lN 0) hr hn (lf (fun _ => 0)) (lf (fun _ => 0)) (lf (fun _ => 0)) (lf (fun _ => 0)) (lf (fun _ => 0)) (lf (fun _ => 0)) (lf (fun _ => 0)) dr (by omega) (Nat.zero_le _) ⟨by decide, fun _ => (by decide : (0 : Nat) < 127), ⟨by decide, by decide, by decide, by decide, by decide⟩, by decide, by decide, by decide, by decide, fun _ => ⟨Nat.zero_le _, Nat.zero_le _⟩, fun _ _ => ⟨Nat.zero_le _, Nat.zero_le _, Nat.zero_le _, Nat.zero_le _, Nat.zero_le _⟩, fun _ _ => ⟨Nat.zero_le _, Nat.zero_le _, Nat.zero_le _, Nat.zero_le _, Nat.zero_le _⟩⟩
