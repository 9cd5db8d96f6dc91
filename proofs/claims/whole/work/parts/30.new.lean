/-! PART 30: what is made: objects and rows -/
theorem nvX0 : ∀ j, j < 5 → defaultValue (tyX0 j) = vp_V [.int (nI 0), .int (nI 0), .int (nI 0), .int (nI 0), .int (nI 0)] j := fun j hj => by
  match j, hj with
  | 0, _ => rfl
  | 1, _ => rfl
  | 2, _ => rfl
  | 3, _ => rfl
  | 4, _ => rfl
  | n + 5, hj => exact absurd hj (by omega)
theorem nvX1 : ∀ j, j < 2 → defaultValue (tyX1 j) = vp_V [.null, .int (nI 0)] j := fun j hj => by
  match j, hj with
  | 0, _ => rfl
  | 1, _ => rfl
  | n + 2, hj => exact absurd hj (by omega)
theorem nvX2 : ∀ j, j < 7 → defaultValue (tyX2 j) = vp_V [.null, .int (nI 0), .int (nI 0), .int (nI 0), .int (nI 0), .null, .int (nI 0)] j := fun j hj => by
  match j, hj with
  | 0, _ => rfl
  | 1, _ => rfl
  | 2, _ => rfl
  | 3, _ => rfl
  | 4, _ => rfl
  | 5, _ => rfl
  | 6, _ => rfl
  | n + 7, hj => exact absurd hj (by omega)
theorem nvX3 : ∀ j, j < 9 → defaultValue (tyX3 j) = vp_V [.null, .null, .null, .int (nI 0), .int (nI 0), .int (nI 0), .int (nI 0), .long (lN 0), .long (lN 0)] j := fun j hj => by
  match j, hj with
  | 0, _ => rfl
  | 1, _ => rfl
  | 2, _ => rfl
  | 3, _ => rfl
  | 4, _ => rfl
  | 5, _ => rfl
  | 6, _ => rfl
  | 7, _ => rfl
  | 8, _ => rfl
  | n + 9, hj => exact absurd hj (by omega)
theorem nvX4 : ∀ j, j < 10 → defaultValue (tyX4 j) = vp_V [.null, .null, .null, .null, .null, .null, .null, .null, .int (nI 0), .int (nI 0)] j := fun j hj => by
  match j, hj with
  | 0, _ => rfl
  | 1, _ => rfl
  | 2, _ => rfl
  | 3, _ => rfl
  | 4, _ => rfl
  | 5, _ => rfl
  | 6, _ => rfl
  | 7, _ => rfl
  | 8, _ => rfl
  | 9, _ => rfl
  | n + 10, hj => exact absurd hj (by omega)
theorem nvX5 : ∀ j, j < 17 → defaultValue (tyX5 j) = vp_V [.null, .int (nI 0), .null, .null, .int (nI 0), .null, .int (nI 0), .null, .int (nI 0), .null, .int (nI 0), .int (nI 0), .null, .null, .null, .null, .long (lN 0)] j := fun j hj => by
  match j, hj with
  | 0, _ => rfl
  | 1, _ => rfl
  | 2, _ => rfl
  | 3, _ => rfl
  | 4, _ => rfl
  | 5, _ => rfl
  | 6, _ => rfl
  | 7, _ => rfl
  | 8, _ => rfl
  | 9, _ => rfl
  | 10, _ => rfl
  | 11, _ => rfl
  | 12, _ => rfl
  | 13, _ => rfl
  | 14, _ => rfl
  | 15, _ => rfl
  | 16, _ => rfl
  | n + 17, hj => exact absurd hj (by omega)
section ZN
variable {D : va_G} {t : zT} {k : zK} {b : ByteArray} {n : Nat} {own nm : String} {rm : Room} {l0 : Launch} {cs : Nat × Nat} {ws : va_W} {pc : Nat} {lv : List (Nat × Value)} {st : List Value}
theorem z_cs (cs2 : Nat × Nat) (h : cs = cs2) (kk : Z D k cs2 ws pc lv st) : Z D k cs ws pc lv st := by rw [h]; exact kk
theorem z_new (X : zX D t k b n own nm rm l0) {C : String} {T : u_T} {N ci index : Nat} {ty0 : Nat → FieldType} (fs : List Value) (hin : ∀ w ∈ u_ws C T N, w ∈ TB) (hty : ∀ k, k < N → parseFieldDescriptor (T k).2.2.1 = some (ty0 k)) (hcl : Cond.classLink own index C ∈ TB) (hinst : Cond.instantiable C N ∈ TB) (hini : Cond.initialized C ∈ TB) (hc : vwCl[ci]? = some (C, T, N)) (hfs : ∀ j, j < N → defaultValue (ty0 j) = vp_V fs j) (hcs1 : cs.1 + 1 ≤ rm.cells) (hcs2 : cs.2 + N ≤ rm.slots) (hd : decode b pc = .ok (.new index, 3)) (kk : ∀ q : Nat, Z D k (cs.1 + 1, cs.2 + N) (ws ++ [(q, .inr (ci, fs))]) (pc + 3) lv (.ref q :: st)) : Z D k cs ws pc lv st := by
  obtain ⟨p, l, e, R, s, m, args, below, meth, c, nL, A, Q⟩ := k
  obtain ⟨hx, hb, hml, hnl, hown, hts, hK, hA, hnm, hR, hl0⟩ := X
  intro H locs ls hP hD hS hl9
  subst hR
  exact va_new hx hb hts hin ty0 hty hown (hts _ hcl) (hts _ hinst) (hts _ hini) hK.1 hP hD hS hA hc hfs hcs1 hcs2 hd (fun q H1 hP1 hD1 hS1 => kk q H1 locs ls hP1 hD1 hS1 hl9)
theorem z_newI (X : zX D t k b n own nm rm l0) {n9 : Int32} (N : Nat) (hw : Cond.arrayClass .int ∈ TB) (hn9 : ¬ n9 < 0) (hN : n9.toNatClampNeg = N) (hby : N * componentBytes .int ≤ 536870912) (hcs1 : cs.1 + 1 ≤ rm.cells) (hcs2 : cs.2 + N ≤ rm.slots) (hd : decode b pc = .ok (.newarray .int, 2)) (kk : ∀ q : Nat, Z D k (cs.1 + 1, cs.2 + N) (ws ++ [eI t q N (nf (fun _ => 0))]) (pc + 2) lv (.ref q :: st)) : Z D k cs ws pc lv (.int n9 :: st) := by
  obtain ⟨p, l, e, R, s, m, args, below, meth, c, nL, A, Q⟩ := k
  obtain ⟨hx, hb, hml, hnl, hown, hts, hK, hA, hnm, hR, hl0⟩ := X
  intro H locs ls hP hD hS hl9
  subst hR
  refine va_newa (atype := .int) hx hb (hts _ hw) rfl hK.1 hP hD hS hA (a0 := (N, .inl (nf (fun _ => 0)))) (fun cA => rfl) hn9 hN hby hcs1 hcs2 hd (fun q cA H1 hK1 hP1 hD1 hS1 => ?_)
  have e9 := Option.some.inj (Eq.trans (Eq.symm (hK1.2 4 _ rfl).2) (hK.1.2 0 _ rfl).2)
  subst e9
  exact kk q H1 locs ls hP1 hD1 hS1 hl9
theorem z_newL (X : zX D t k b n own nm rm l0) {n9 : Int32} (N : Nat) (hw : Cond.arrayClass .long ∈ TB) (hn9 : ¬ n9 < 0) (hN : n9.toNatClampNeg = N) (hby : N * componentBytes .long ≤ 536870912) (hcs1 : cs.1 + 1 ≤ rm.cells) (hcs2 : cs.2 + N ≤ rm.slots) (hd : decode b pc = .ok (.newarray .long, 2)) (kk : ∀ q : Nat, Z D k (cs.1 + 1, cs.2 + N) (ws ++ [eL t q N (lf (fun _ => 0))]) (pc + 2) lv (.ref q :: st)) : Z D k cs ws pc lv (.int n9 :: st) := by
  obtain ⟨p, l, e, R, s, m, args, below, meth, c, nL, A, Q⟩ := k
  obtain ⟨hx, hb, hml, hnl, hown, hts, hK, hA, hnm, hR, hl0⟩ := X
  intro H locs ls hP hD hS hl9
  subst hR
  refine va_newa (atype := .long) hx hb (hts _ hw) rfl hK.1 hP hD hS hA (a0 := (N, .inr (.inl (lf (fun _ => 0))))) (fun cA => rfl) hn9 hN hby hcs1 hcs2 hd (fun q cA H1 hK1 hP1 hD1 hS1 => ?_)
  have e9 := Option.some.inj (Eq.trans (Eq.symm (hK1.2 4 _ rfl).2) (hK.1.2 1 _ rfl).2)
  subst e9
  exact kk q H1 locs ls hP1 hD1 hS1 hl9
theorem z_newC (X : zX D t k b n own nm rm l0) {n9 : Int32} (N : Nat) (hw : Cond.arrayClass .char ∈ TB) (hn9 : ¬ n9 < 0) (hN : n9.toNatClampNeg = N) (hby : N * componentBytes .char ≤ 536870912) (hcs1 : cs.1 + 1 ≤ rm.cells) (hcs2 : cs.2 + N ≤ rm.slots) (hd : decode b pc = .ok (.newarray .char, 2)) (kk : ∀ q : Nat, Z D k (cs.1 + 1, cs.2 + N) (ws ++ [eC t q N (nf (fun _ => 0))]) (pc + 2) lv (.ref q :: st)) : Z D k cs ws pc lv (.int n9 :: st) := by
  obtain ⟨p, l, e, R, s, m, args, below, meth, c, nL, A, Q⟩ := k
  obtain ⟨hx, hb, hml, hnl, hown, hts, hK, hA, hnm, hR, hl0⟩ := X
  intro H locs ls hP hD hS hl9
  subst hR
  refine va_newa (atype := .char) hx hb (hts _ hw) rfl hK.1 hP hD hS hA (a0 := (N, .inl (nf (fun _ => 0)))) (fun cA => rfl) hn9 hN hby hcs1 hcs2 hd (fun q cA H1 hK1 hP1 hD1 hS1 => ?_)
  have e9 := Option.some.inj (Eq.trans (Eq.symm (hK1.2 4 _ rfl).2) (hK.1.2 2 _ rfl).2)
  subst e9
  exact kk q H1 locs ls hP1 hD1 hS1 hl9
theorem z_newq (X : zX D t k b n own nm rm l0) {n9 : Int32} {index : Nat} (N : Nat) (hw : Cond.classLink own index RX0 ∈ TB) (hn9 : ¬ n9 < 0) (hN : n9.toNatClampNeg = N) (hby : N * 4 ≤ 536870912) (hcs1 : cs.1 + 1 ≤ rm.cells) (hcs2 : cs.2 + N ≤ rm.slots) (hd : decode b pc = .ok (.anewarray index, 3)) (kk : ∀ q : Nat, Z D k (cs.1 + 1, cs.2 + N) (ws ++ [eQ t q N (fun _ => none)]) (pc + 3) lv (.ref q :: st)) : Z D k cs ws pc lv (.int n9 :: st) := by
  obtain ⟨p, l, e, R, s, m, args, below, meth, c, nL, A, Q⟩ := k
  obtain ⟨hx, hb, hml, hnl, hown, hts, hK, hA, hnm, hR, hl0⟩ := X
  intro H locs ls hP hD hS hl9
  subst hR
  refine va_newq hx hb hown (hts _ hw) hK.2.2 hK.1 hP hD hS hA hn9 hN hby hcs1 hcs2 hd (fun q cA H1 hK1 hP1 hD1 hS1 => ?_)
  obtain ⟨_, _, _, _, _, h1⟩ := (hK1.2 4 _ rfl).2
  obtain ⟨_, _, _, _, _, h2⟩ := (hK.1.2 3 _ rfl).2
  have e9 := Option.some.inj (Eq.trans (Eq.symm h1) h2)
  subst e9
  exact kk q H1 locs ls hP1 hD1 hS1 hl9
theorem z_astq (X : zX D t k b n own nm rm l0) {a v N : Nat} {vs : List Value} {f : Nat → Option Nat} {i : Int32} (q0 qk ci j : Nat) (ws2 : va_W) (ha : ws[q0]? = some (eQ t a N f)) (hv : ws[qk]? = some (v, .inr (ci, vs))) (hc : vwCl[ci]? = some (RX0, TX0, 5)) (hi0 : ¬ i < 0) (hj : i.toNatClampNeg = j) (hjN : j < N) (hd : decode b pc = .ok (.aastore, 1)) (hw : ws.set q0 (eQ t a N (va_up f j (some v))) = ws2) (kk : Z D k cs ws2 (pc + 1) lv st) : Z D k cs ws pc lv (.ref v :: .int i :: .ref a :: st) := by
  obtain ⟨p, l, e, R, s, m, args, below, meth, c, nL, A, Q⟩ := k
  obtain ⟨hx, hb, hml, hnl, hown, hts, hK, hA, hnm, hR, hl0⟩ := X
  intro H locs ls hP hD hS hl9
  subst hR
  subst hj
  subst hw
  exact va_astq hx hb hK.1 hP hD hS q0 3 qk ci ha rfl hv hc (fun z => z.elim hi0 (fun q => Nat.not_le.mpr hjN q)) hd (fun H1 locs1 hP1 hD1 hS1 => kk H1 locs1 ls hP1 hD1 hS1 hl9)
theorem z_mmax (X : zX D t k b n own nm rm l0) {x y : Int32} {index : Nat} (v : Int32) (hw : Cond.methodLink own index Lib.Math.max.name ∈ TB) (hst : Cond.static Lib.Math.max.name ∈ TB) (hini : Cond.initialized "java/lang/Math" ∈ TB) (hco : Cond.code Lib.Math.max.name Lib.Math.max.code 2 (some .int) ∈ TB) (hf : 1 ≤ rm.frames) (hlc : (st.map fun v => v.category).sum + 13 ≤ rm.locals) (hcs1 : cs.1 ≤ rm.cells) (hcs2 : cs.2 ≤ rm.slots) (hd : decode b pc = .ok (.invokestatic index, 3)) (hv : (if x < y then y else x) = v) (kk : Z D k cs ws (pc + 3) lv (.int v :: st)) : Z D k cs ws pc lv (.int y :: .int x :: st) := by
  obtain ⟨p, l, e, R, s, m, args, below, meth, c, nL, A, Q⟩ := k
  obtain ⟨hx, hb, hml, hnl, hown, hts, hK, hA, hnm, hR, hl0⟩ := X
  intro H locs ls hP hD hS hl9
  subst hR
  subst hv
  subst hnl
  exact va_mmax hx hb (by rw [hml]; exact hl9.1.symm) hown (hts _ hw) (hts _ hst) (hts _ hini) (hts _ hco) hf hlc hcs1 hcs2 hd (kk H locs ls hP hD hS hl9)
theorem z_qrow {a N : Nat} {cA : ClassId} {f : Nat → Option Nat} (q : Nat) (g : Nat → Option Nat) (ws2 : va_W) (he : ws[q]? = some (a, .inl (cA, N, .inr (.inr (.inr (.inr f)))))) (h : ∀ j, j < N → f j = g j) (hw : ws.set q (a, .inl (cA, N, .inr (.inr (.inr (.inr g))))) = ws2) (kk : Z D k cs ws2 pc lv st) : Z D k cs ws pc lv st :=
  z_cellrow q ws2 he (fun H hz => by
    have hz : H[a]? = some (arrV cA N (fun j => va_rf (f j))) := hz
    show H[a]? = some (arrV cA N (fun j => va_rf (g j)))
    rw [hz, arrV_cong (fun j hj => by rw [h j hj])]) hw kk
end ZN
abbrev rm_X0_init : Room := { frames := 1, cells := 0, slots := 0, locals := 12 }
set_option maxHeartbeats 4000000 in
set_option maxRecDepth 100000 in
theorem c_X0_init (lq : Launch) (D : va_G) (t : zT) (h0 : Nat)  : Ct lq D t yX0_init cX0_init 1 none rm_X0_init [.ref h0] [eX0 h0 (nI 0) (nI 0) (nI 0) (nI 0) (nI 0)] 0 0 (fun rv rw_ => rv = none ∧ rw_ = [eX0 h0 (nI 0) (nI 0) (nI 0) (nI 0) (nI 0)]) := by
  refine Ct.of (by decide) (Nat.le_of_ble_eq_true rfl) (fun k X hRet => ?_)
  have X : zX D t k cX0_init 1 RX0 "<init>" rm_X0_init lq := X
  refine z_eq (lv2 := [(0, .ref h0)]) rfl rfl rfl ?_
  refine z_aload_n X (pc := 0) 0 dX0_init_0 rfl ?_
  refine z_objInit X (pc := 1) tw_27 dX0_init_1 (Nat.le_of_ble_eq_true rfl) (Nat.le_of_ble_eq_true rfl) ?_
  exact hRet.v dX0_init_4 ⟨rfl, rfl⟩

abbrev rm_X1_init8 : Room := { frames := 2, cells := 9, slots := 48, locals := 32 }
set_option maxHeartbeats 4000000 in
set_option maxRecDepth 100000 in
theorem c_X1_init8 (lq : Launch) (D : va_G) (t : zT) (h0 : Nat)  : Ct lq D t yX1_init cX1_init 3 none rm_X1_init8 [.ref h0, .int (nI 8)] [(h0, .inr (1, [.null, .int (nI 0)]))] 9 48 (fun rv rw_ => ∃ (ha : Nat) (ad : Nat → Nat), rv = none ∧ rw_ = [eX1 h0 ha (nI 0), eQ t ha 8 (fun j => some (ad j)), eX0 (ad 0) (nI 0) (nI 0) (nI 0) (nI 0) (nI 0), eX0 (ad 1) (nI 0) (nI 0) (nI 0) (nI 0) (nI 0), eX0 (ad 2) (nI 0) (nI 0) (nI 0) (nI 0) (nI 0), eX0 (ad 3) (nI 0) (nI 0) (nI 0) (nI 0) (nI 0), eX0 (ad 4) (nI 0) (nI 0) (nI 0) (nI 0) (nI 0), eX0 (ad 5) (nI 0) (nI 0) (nI 0) (nI 0) (nI 0), eX0 (ad 6) (nI 0) (nI 0) (nI 0) (nI 0) (nI 0), eX0 (ad 7) (nI 0) (nI 0) (nI 0) (nI 0) (nI 0)]) := by
  refine Ct.of (by decide) (Nat.le_of_ble_eq_true rfl) (fun k X hRet => ?_)
  have X : zX D t k cX1_init 3 RX1 "<init>" rm_X1_init8 lq := X
  refine z_eq (lv2 := [(0, .ref h0), (1, .int (nI 8))]) rfl rfl rfl ?_
  refine z_aload_n X (pc := 0) 0 dX1_init_0 rfl ?_
  refine z_objInit X (pc := 1) tw_87 dX1_init_1 (Nat.le_of_ble_eq_true rfl) (Nat.le_of_ble_eq_true rfl) ?_
  refine z_aload_n X (pc := 4) 0 dX1_init_4 rfl ?_
  refine z_iconst X (pc := 5) (nI 0) dX1_init_5 (by decide) ?_
  refine z_put X (pc := 6) 0 1 [(h0, .inr (1, [.null, .int (nI 0)]))] tu_1 tyX1_ok nmX1 tw_95 dX1_init_6 rfl rfl (by decide) rfl rfl rfl rfl (Nat.le_of_ble_eq_true rfl) rfl ?_
  refine z_aload_n X (pc := 9) 0 dX1_init_9 rfl ?_
  refine z_iload_n X (pc := 10) 1 dX1_init_10 rfl ?_
  refine z_iconst X (pc := 11) (nI 1) dX1_init_11 (by decide) ?_
  refine z_mmax X (pc := 12) (nI 8) tw_88 tw_89 tw_5 tw_90 (Nat.le_of_ble_eq_true rfl) (Nat.le_of_ble_eq_true rfl) (Nat.le_of_ble_eq_true rfl) (Nat.le_of_ble_eq_true rfl) dX1_init_12 (by decide) ?_
  refine z_newq X (pc := 15) 8 tw_91 (by decide) (by decide) (Nat.le_of_ble_eq_true rfl) (Nat.le_of_ble_eq_true rfl) (Nat.le_of_ble_eq_true rfl) dX1_init_15 (fun q_1 => ?_)
  refine z_cs (1, 8) rfl ?_
  refine z_eq (ws2 := [(h0, .inr (1, [.null, .int (nI 0)])), eQ t q_1 8 (fun _ => none)]) (st2 := [.ref q_1, .ref h0]) rfl rfl rfl ?_
  refine z_putF X (pc := 18) 0 0 [eX1 h0 q_1 (nI 0), eQ t q_1 8 (fun _ => none)] tu_1 tyX1_ok nmX1 tw_94 dX1_init_18 rfl rfl (by decide) rfl rfl rfl rfl rfl rfl (Nat.le_of_ble_eq_true rfl) rfl ?_
  refine z_iconst X (pc := 21) (nI 0) dX1_init_21 (by decide) ?_
  refine z_istore_n X (pc := 22) (i := 2) [(2, .int (nI 0)), (0, .ref h0), (1, .int (nI 8))] dX1_init_22 rfl (by decide) rfl ?_
  refine z_iload_n X (pc := 23) 0 dX1_init_23 rfl ?_
  refine z_aload_n X (pc := 24) 1 dX1_init_24 rfl ?_
  refine z_get X (pc := 25) 0 0 (.ref q_1) tu_1 tw_94 dX1_init_25 rfl rfl (by decide) rfl rfl ?_
  refine z_alen_q X (pc := 28) 1 dX1_init_28 rfl ?_
  refine z_icmp_geN X (pc := 29) 51 (by omega) (by omega) dX1_init_29 (by decide) (fun c_29 => absurd c_29 (by decide)) (fun c_29 => ?_)
  refine z_aload_n X (pc := 32) 1 dX1_init_32 rfl ?_
  refine z_get X (pc := 33) 0 0 (.ref q_1) tu_1 tw_94 dX1_init_33 rfl rfl (by decide) rfl rfl ?_
  refine z_iload_n X (pc := 36) 0 dX1_init_36 rfl ?_
  refine z_new X (pc := 37) (ci := 0) [.int (nI 0), .int (nI 0), .int (nI 0), .int (nI 0), .int (nI 0)] tu_0 tyX0_ok tw_91 tw_23 tw_3 rfl nvX0 (Nat.le_of_ble_eq_true rfl) (Nat.le_of_ble_eq_true rfl) dX1_init_37 (fun q_2 => ?_)
  refine z_cs (2, 13) rfl ?_
  refine z_eq (ws2 := [eX1 h0 q_1 (nI 0), eQ t q_1 8 (fun _ => none), eX0 q_2 (nI 0) (nI 0) (nI 0) (nI 0) (nI 0)]) (st2 := [.ref q_2, .int (nI 0), .ref q_1]) rfl rfl rfl ?_
  refine z_dup X (pc := 40) dX1_init_40 rfl ?_
  refine zc_IN (as := []) X (pc := 41) (c_X0_init lq D t q_2 ) tw_93 tw_26 tw_3 tw_25 rfl [2] rfl rfl dX1_init_41 rfl zdX0_init ⟨rfl, rfl, Nat.le_of_ble_eq_true rfl, Nat.le_of_ble_eq_true rfl⟩ (Nat.le_of_ble_eq_true rfl) (Nat.le_of_ble_eq_true rfl) (Nat.le_of_ble_eq_true rfl) (fun v_3 w_4 hp_5 => ?_)
  obtain ⟨rfl, rfl⟩ := hp_5
  refine ⟨rfl, ?_⟩
  refine z_eq (ws2 := [eX1 h0 q_1 (nI 0), eQ t q_1 8 (fun _ => none), eX0 q_2 (nI 0) (nI 0) (nI 0) (nI 0) (nI 0)]) (st2 := [.ref q_2, .int (nI 0), .ref q_1]) rfl rfl rfl ?_
  refine z_astq X (pc := 44) 1 2 0 0 [eX1 h0 q_1 (nI 0), eQ t q_1 8 (va_up (fun _ => none) 0 (some q_2)), eX0 q_2 (nI 0) (nI 0) (nI 0) (nI 0) (nI 0)] rfl rfl rfl (by decide) (by decide) (by decide) dX1_init_44 rfl ?_
  refine z_iinc X (pc := 45) (i := 2) 0 (nI 1) [(2, .int (nI 1)), (0, .ref h0), (1, .int (nI 8))] dX1_init_45 rfl (nI_incc 0 1) (by decide) rfl ?_
  refine z_goto X (pc := 48) 23 dX1_init_48 (by decide) ?_
  refine z_iload_n X (pc := 23) 0 dX1_init_23 rfl ?_
  refine z_aload_n X (pc := 24) 1 dX1_init_24 rfl ?_
  refine z_get X (pc := 25) 0 0 (.ref q_1) tu_1 tw_94 dX1_init_25 rfl rfl (by decide) rfl rfl ?_
  refine z_alen_q X (pc := 28) 1 dX1_init_28 rfl ?_
  refine z_icmp_geN X (pc := 29) 51 (by omega) (by omega) dX1_init_29 (by decide) (fun c_29 => absurd c_29 (by decide)) (fun c_29 => ?_)
  refine z_aload_n X (pc := 32) 1 dX1_init_32 rfl ?_
  refine z_get X (pc := 33) 0 0 (.ref q_1) tu_1 tw_94 dX1_init_33 rfl rfl (by decide) rfl rfl ?_
  refine z_iload_n X (pc := 36) 0 dX1_init_36 rfl ?_
  refine z_new X (pc := 37) (ci := 0) [.int (nI 0), .int (nI 0), .int (nI 0), .int (nI 0), .int (nI 0)] tu_0 tyX0_ok tw_91 tw_23 tw_3 rfl nvX0 (Nat.le_of_ble_eq_true rfl) (Nat.le_of_ble_eq_true rfl) dX1_init_37 (fun q_6 => ?_)
  refine z_cs (3, 18) rfl ?_
  refine z_eq (ws2 := [eX1 h0 q_1 (nI 0), eQ t q_1 8 (va_up (fun _ => none) 0 (some q_2)), eX0 q_2 (nI 0) (nI 0) (nI 0) (nI 0) (nI 0), eX0 q_6 (nI 0) (nI 0) (nI 0) (nI 0) (nI 0)]) (st2 := [.ref q_6, .int (nI 1), .ref q_1]) rfl rfl rfl ?_
  refine z_dup X (pc := 40) dX1_init_40 rfl ?_
  refine zc_IN (as := []) X (pc := 41) (c_X0_init lq D t q_6 ) tw_93 tw_26 tw_3 tw_25 rfl [3] rfl rfl dX1_init_41 rfl zdX0_init ⟨rfl, rfl, Nat.le_of_ble_eq_true rfl, Nat.le_of_ble_eq_true rfl⟩ (Nat.le_of_ble_eq_true rfl) (Nat.le_of_ble_eq_true rfl) (Nat.le_of_ble_eq_true rfl) (fun v_7 w_8 hp_9 => ?_)
  obtain ⟨rfl, rfl⟩ := hp_9
  refine ⟨rfl, ?_⟩
  refine z_eq (ws2 := [eX1 h0 q_1 (nI 0), eQ t q_1 8 (va_up (fun _ => none) 0 (some q_2)), eX0 q_2 (nI 0) (nI 0) (nI 0) (nI 0) (nI 0), eX0 q_6 (nI 0) (nI 0) (nI 0) (nI 0) (nI 0)]) (st2 := [.ref q_6, .int (nI 1), .ref q_1]) rfl rfl rfl ?_
  refine z_astq X (pc := 44) 1 3 0 1 [eX1 h0 q_1 (nI 0), eQ t q_1 8 (va_up (va_up (fun _ => none) 0 (some q_2)) 1 (some q_6)), eX0 q_2 (nI 0) (nI 0) (nI 0) (nI 0) (nI 0), eX0 q_6 (nI 0) (nI 0) (nI 0) (nI 0) (nI 0)] rfl rfl rfl (by decide) (by decide) (by decide) dX1_init_44 rfl ?_
  refine z_iinc X (pc := 45) (i := 2) 0 (nI 2) [(2, .int (nI 2)), (0, .ref h0), (1, .int (nI 8))] dX1_init_45 rfl (nI_incc 1 1) (by decide) rfl ?_
  refine z_goto X (pc := 48) 23 dX1_init_48 (by decide) ?_
  refine z_iload_n X (pc := 23) 0 dX1_init_23 rfl ?_
  refine z_aload_n X (pc := 24) 1 dX1_init_24 rfl ?_
  refine z_get X (pc := 25) 0 0 (.ref q_1) tu_1 tw_94 dX1_init_25 rfl rfl (by decide) rfl rfl ?_
  refine z_alen_q X (pc := 28) 1 dX1_init_28 rfl ?_
  refine z_icmp_geN X (pc := 29) 51 (by omega) (by omega) dX1_init_29 (by decide) (fun c_29 => absurd c_29 (by decide)) (fun c_29 => ?_)
  refine z_aload_n X (pc := 32) 1 dX1_init_32 rfl ?_
  refine z_get X (pc := 33) 0 0 (.ref q_1) tu_1 tw_94 dX1_init_33 rfl rfl (by decide) rfl rfl ?_
  refine z_iload_n X (pc := 36) 0 dX1_init_36 rfl ?_
  refine z_new X (pc := 37) (ci := 0) [.int (nI 0), .int (nI 0), .int (nI 0), .int (nI 0), .int (nI 0)] tu_0 tyX0_ok tw_91 tw_23 tw_3 rfl nvX0 (Nat.le_of_ble_eq_true rfl) (Nat.le_of_ble_eq_true rfl) dX1_init_37 (fun q_10 => ?_)
  refine z_cs (4, 23) rfl ?_
  refine z_eq (ws2 := [eX1 h0 q_1 (nI 0), eQ t q_1 8 (va_up (va_up (fun _ => none) 0 (some q_2)) 1 (some q_6)), eX0 q_2 (nI 0) (nI 0) (nI 0) (nI 0) (nI 0), eX0 q_6 (nI 0) (nI 0) (nI 0) (nI 0) (nI 0), eX0 q_10 (nI 0) (nI 0) (nI 0) (nI 0) (nI 0)]) (st2 := [.ref q_10, .int (nI 2), .ref q_1]) rfl rfl rfl ?_
  refine z_dup X (pc := 40) dX1_init_40 rfl ?_
  refine zc_IN (as := []) X (pc := 41) (c_X0_init lq D t q_10 ) tw_93 tw_26 tw_3 tw_25 rfl [4] rfl rfl dX1_init_41 rfl zdX0_init ⟨rfl, rfl, Nat.le_of_ble_eq_true rfl, Nat.le_of_ble_eq_true rfl⟩ (Nat.le_of_ble_eq_true rfl) (Nat.le_of_ble_eq_true rfl) (Nat.le_of_ble_eq_true rfl) (fun v_11 w_12 hp_13 => ?_)
  obtain ⟨rfl, rfl⟩ := hp_13
  refine ⟨rfl, ?_⟩
  refine z_eq (ws2 := [eX1 h0 q_1 (nI 0), eQ t q_1 8 (va_up (va_up (fun _ => none) 0 (some q_2)) 1 (some q_6)), eX0 q_2 (nI 0) (nI 0) (nI 0) (nI 0) (nI 0), eX0 q_6 (nI 0) (nI 0) (nI 0) (nI 0) (nI 0), eX0 q_10 (nI 0) (nI 0) (nI 0) (nI 0) (nI 0)]) (st2 := [.ref q_10, .int (nI 2), .ref q_1]) rfl rfl rfl ?_
  refine z_astq X (pc := 44) 1 4 0 2 [eX1 h0 q_1 (nI 0), eQ t q_1 8 (va_up (va_up (va_up (fun _ => none) 0 (some q_2)) 1 (some q_6)) 2 (some q_10)), eX0 q_2 (nI 0) (nI 0) (nI 0) (nI 0) (nI 0), eX0 q_6 (nI 0) (nI 0) (nI 0) (nI 0) (nI 0), eX0 q_10 (nI 0) (nI 0) (nI 0) (nI 0) (nI 0)] rfl rfl rfl (by decide) (by decide) (by decide) dX1_init_44 rfl ?_
  refine z_iinc X (pc := 45) (i := 2) 0 (nI 3) [(2, .int (nI 3)), (0, .ref h0), (1, .int (nI 8))] dX1_init_45 rfl (nI_incc 2 1) (by decide) rfl ?_
  refine z_goto X (pc := 48) 23 dX1_init_48 (by decide) ?_
  refine z_iload_n X (pc := 23) 0 dX1_init_23 rfl ?_
  refine z_aload_n X (pc := 24) 1 dX1_init_24 rfl ?_
  refine z_get X (pc := 25) 0 0 (.ref q_1) tu_1 tw_94 dX1_init_25 rfl rfl (by decide) rfl rfl ?_
  refine z_alen_q X (pc := 28) 1 dX1_init_28 rfl ?_
  refine z_icmp_geN X (pc := 29) 51 (by omega) (by omega) dX1_init_29 (by decide) (fun c_29 => absurd c_29 (by decide)) (fun c_29 => ?_)
  refine z_aload_n X (pc := 32) 1 dX1_init_32 rfl ?_
  refine z_get X (pc := 33) 0 0 (.ref q_1) tu_1 tw_94 dX1_init_33 rfl rfl (by decide) rfl rfl ?_
  refine z_iload_n X (pc := 36) 0 dX1_init_36 rfl ?_
  refine z_new X (pc := 37) (ci := 0) [.int (nI 0), .int (nI 0), .int (nI 0), .int (nI 0), .int (nI 0)] tu_0 tyX0_ok tw_91 tw_23 tw_3 rfl nvX0 (Nat.le_of_ble_eq_true rfl) (Nat.le_of_ble_eq_true rfl) dX1_init_37 (fun q_14 => ?_)
  refine z_cs (5, 28) rfl ?_
  refine z_eq (ws2 := [eX1 h0 q_1 (nI 0), eQ t q_1 8 (va_up (va_up (va_up (fun _ => none) 0 (some q_2)) 1 (some q_6)) 2 (some q_10)), eX0 q_2 (nI 0) (nI 0) (nI 0) (nI 0) (nI 0), eX0 q_6 (nI 0) (nI 0) (nI 0) (nI 0) (nI 0), eX0 q_10 (nI 0) (nI 0) (nI 0) (nI 0) (nI 0), eX0 q_14 (nI 0) (nI 0) (nI 0) (nI 0) (nI 0)]) (st2 := [.ref q_14, .int (nI 3), .ref q_1]) rfl rfl rfl ?_
  refine z_dup X (pc := 40) dX1_init_40 rfl ?_
  refine zc_IN (as := []) X (pc := 41) (c_X0_init lq D t q_14 ) tw_93 tw_26 tw_3 tw_25 rfl [5] rfl rfl dX1_init_41 rfl zdX0_init ⟨rfl, rfl, Nat.le_of_ble_eq_true rfl, Nat.le_of_ble_eq_true rfl⟩ (Nat.le_of_ble_eq_true rfl) (Nat.le_of_ble_eq_true rfl) (Nat.le_of_ble_eq_true rfl) (fun v_15 w_16 hp_17 => ?_)
  obtain ⟨rfl, rfl⟩ := hp_17
  refine ⟨rfl, ?_⟩
  refine z_eq (ws2 := [eX1 h0 q_1 (nI 0), eQ t q_1 8 (va_up (va_up (va_up (fun _ => none) 0 (some q_2)) 1 (some q_6)) 2 (some q_10)), eX0 q_2 (nI 0) (nI 0) (nI 0) (nI 0) (nI 0), eX0 q_6 (nI 0) (nI 0) (nI 0) (nI 0) (nI 0), eX0 q_10 (nI 0) (nI 0) (nI 0) (nI 0) (nI 0), eX0 q_14 (nI 0) (nI 0) (nI 0) (nI 0) (nI 0)]) (st2 := [.ref q_14, .int (nI 3), .ref q_1]) rfl rfl rfl ?_
  refine z_astq X (pc := 44) 1 5 0 3 [eX1 h0 q_1 (nI 0), eQ t q_1 8 (va_up (va_up (va_up (va_up (fun _ => none) 0 (some q_2)) 1 (some q_6)) 2 (some q_10)) 3 (some q_14)), eX0 q_2 (nI 0) (nI 0) (nI 0) (nI 0) (nI 0), eX0 q_6 (nI 0) (nI 0) (nI 0) (nI 0) (nI 0), eX0 q_10 (nI 0) (nI 0) (nI 0) (nI 0) (nI 0), eX0 q_14 (nI 0) (nI 0) (nI 0) (nI 0) (nI 0)] rfl rfl rfl (by decide) (by decide) (by decide) dX1_init_44 rfl ?_
  refine z_iinc X (pc := 45) (i := 2) 0 (nI 4) [(2, .int (nI 4)), (0, .ref h0), (1, .int (nI 8))] dX1_init_45 rfl (nI_incc 3 1) (by decide) rfl ?_
  refine z_goto X (pc := 48) 23 dX1_init_48 (by decide) ?_
  refine z_iload_n X (pc := 23) 0 dX1_init_23 rfl ?_
  refine z_aload_n X (pc := 24) 1 dX1_init_24 rfl ?_
  refine z_get X (pc := 25) 0 0 (.ref q_1) tu_1 tw_94 dX1_init_25 rfl rfl (by decide) rfl rfl ?_
  refine z_alen_q X (pc := 28) 1 dX1_init_28 rfl ?_
  refine z_icmp_geN X (pc := 29) 51 (by omega) (by omega) dX1_init_29 (by decide) (fun c_29 => absurd c_29 (by decide)) (fun c_29 => ?_)
  refine z_aload_n X (pc := 32) 1 dX1_init_32 rfl ?_
  refine z_get X (pc := 33) 0 0 (.ref q_1) tu_1 tw_94 dX1_init_33 rfl rfl (by decide) rfl rfl ?_
  refine z_iload_n X (pc := 36) 0 dX1_init_36 rfl ?_
  refine z_new X (pc := 37) (ci := 0) [.int (nI 0), .int (nI 0), .int (nI 0), .int (nI 0), .int (nI 0)] tu_0 tyX0_ok tw_91 tw_23 tw_3 rfl nvX0 (Nat.le_of_ble_eq_true rfl) (Nat.le_of_ble_eq_true rfl) dX1_init_37 (fun q_18 => ?_)
  refine z_cs (6, 33) rfl ?_
  refine z_eq (ws2 := [eX1 h0 q_1 (nI 0), eQ t q_1 8 (va_up (va_up (va_up (va_up (fun _ => none) 0 (some q_2)) 1 (some q_6)) 2 (some q_10)) 3 (some q_14)), eX0 q_2 (nI 0) (nI 0) (nI 0) (nI 0) (nI 0), eX0 q_6 (nI 0) (nI 0) (nI 0) (nI 0) (nI 0), eX0 q_10 (nI 0) (nI 0) (nI 0) (nI 0) (nI 0), eX0 q_14 (nI 0) (nI 0) (nI 0) (nI 0) (nI 0), eX0 q_18 (nI 0) (nI 0) (nI 0) (nI 0) (nI 0)]) (st2 := [.ref q_18, .int (nI 4), .ref q_1]) rfl rfl rfl ?_
  refine z_dup X (pc := 40) dX1_init_40 rfl ?_
  refine zc_IN (as := []) X (pc := 41) (c_X0_init lq D t q_18 ) tw_93 tw_26 tw_3 tw_25 rfl [6] rfl rfl dX1_init_41 rfl zdX0_init ⟨rfl, rfl, Nat.le_of_ble_eq_true rfl, Nat.le_of_ble_eq_true rfl⟩ (Nat.le_of_ble_eq_true rfl) (Nat.le_of_ble_eq_true rfl) (Nat.le_of_ble_eq_true rfl) (fun v_19 w_20 hp_21 => ?_)
  obtain ⟨rfl, rfl⟩ := hp_21
  refine ⟨rfl, ?_⟩
  refine z_eq (ws2 := [eX1 h0 q_1 (nI 0), eQ t q_1 8 (va_up (va_up (va_up (va_up (fun _ => none) 0 (some q_2)) 1 (some q_6)) 2 (some q_10)) 3 (some q_14)), eX0 q_2 (nI 0) (nI 0) (nI 0) (nI 0) (nI 0), eX0 q_6 (nI 0) (nI 0) (nI 0) (nI 0) (nI 0), eX0 q_10 (nI 0) (nI 0) (nI 0) (nI 0) (nI 0), eX0 q_14 (nI 0) (nI 0) (nI 0) (nI 0) (nI 0), eX0 q_18 (nI 0) (nI 0) (nI 0) (nI 0) (nI 0)]) (st2 := [.ref q_18, .int (nI 4), .ref q_1]) rfl rfl rfl ?_
  refine z_astq X (pc := 44) 1 6 0 4 [eX1 h0 q_1 (nI 0), eQ t q_1 8 (va_up (va_up (va_up (va_up (va_up (fun _ => none) 0 (some q_2)) 1 (some q_6)) 2 (some q_10)) 3 (some q_14)) 4 (some q_18)), eX0 q_2 (nI 0) (nI 0) (nI 0) (nI 0) (nI 0), eX0 q_6 (nI 0) (nI 0) (nI 0) (nI 0) (nI 0), eX0 q_10 (nI 0) (nI 0) (nI 0) (nI 0) (nI 0), eX0 q_14 (nI 0) (nI 0) (nI 0) (nI 0) (nI 0), eX0 q_18 (nI 0) (nI 0) (nI 0) (nI 0) (nI 0)] rfl rfl rfl (by decide) (by decide) (by decide) dX1_init_44 rfl ?_
  refine z_iinc X (pc := 45) (i := 2) 0 (nI 5) [(2, .int (nI 5)), (0, .ref h0), (1, .int (nI 8))] dX1_init_45 rfl (nI_incc 4 1) (by decide) rfl ?_
  refine z_goto X (pc := 48) 23 dX1_init_48 (by decide) ?_
  refine z_iload_n X (pc := 23) 0 dX1_init_23 rfl ?_
  refine z_aload_n X (pc := 24) 1 dX1_init_24 rfl ?_
  refine z_get X (pc := 25) 0 0 (.ref q_1) tu_1 tw_94 dX1_init_25 rfl rfl (by decide) rfl rfl ?_
  refine z_alen_q X (pc := 28) 1 dX1_init_28 rfl ?_
  refine z_icmp_geN X (pc := 29) 51 (by omega) (by omega) dX1_init_29 (by decide) (fun c_29 => absurd c_29 (by decide)) (fun c_29 => ?_)
  refine z_aload_n X (pc := 32) 1 dX1_init_32 rfl ?_
  refine z_get X (pc := 33) 0 0 (.ref q_1) tu_1 tw_94 dX1_init_33 rfl rfl (by decide) rfl rfl ?_
  refine z_iload_n X (pc := 36) 0 dX1_init_36 rfl ?_
  refine z_new X (pc := 37) (ci := 0) [.int (nI 0), .int (nI 0), .int (nI 0), .int (nI 0), .int (nI 0)] tu_0 tyX0_ok tw_91 tw_23 tw_3 rfl nvX0 (Nat.le_of_ble_eq_true rfl) (Nat.le_of_ble_eq_true rfl) dX1_init_37 (fun q_22 => ?_)
  refine z_cs (7, 38) rfl ?_
  refine z_eq (ws2 := [eX1 h0 q_1 (nI 0), eQ t q_1 8 (va_up (va_up (va_up (va_up (va_up (fun _ => none) 0 (some q_2)) 1 (some q_6)) 2 (some q_10)) 3 (some q_14)) 4 (some q_18)), eX0 q_2 (nI 0) (nI 0) (nI 0) (nI 0) (nI 0), eX0 q_6 (nI 0) (nI 0) (nI 0) (nI 0) (nI 0), eX0 q_10 (nI 0) (nI 0) (nI 0) (nI 0) (nI 0), eX0 q_14 (nI 0) (nI 0) (nI 0) (nI 0) (nI 0), eX0 q_18 (nI 0) (nI 0) (nI 0) (nI 0) (nI 0), eX0 q_22 (nI 0) (nI 0) (nI 0) (nI 0) (nI 0)]) (st2 := [.ref q_22, .int (nI 5), .ref q_1]) rfl rfl rfl ?_
  refine z_dup X (pc := 40) dX1_init_40 rfl ?_
  refine zc_IN (as := []) X (pc := 41) (c_X0_init lq D t q_22 ) tw_93 tw_26 tw_3 tw_25 rfl [7] rfl rfl dX1_init_41 rfl zdX0_init ⟨rfl, rfl, Nat.le_of_ble_eq_true rfl, Nat.le_of_ble_eq_true rfl⟩ (Nat.le_of_ble_eq_true rfl) (Nat.le_of_ble_eq_true rfl) (Nat.le_of_ble_eq_true rfl) (fun v_23 w_24 hp_25 => ?_)
  obtain ⟨rfl, rfl⟩ := hp_25
  refine ⟨rfl, ?_⟩
  refine z_eq (ws2 := [eX1 h0 q_1 (nI 0), eQ t q_1 8 (va_up (va_up (va_up (va_up (va_up (fun _ => none) 0 (some q_2)) 1 (some q_6)) 2 (some q_10)) 3 (some q_14)) 4 (some q_18)), eX0 q_2 (nI 0) (nI 0) (nI 0) (nI 0) (nI 0), eX0 q_6 (nI 0) (nI 0) (nI 0) (nI 0) (nI 0), eX0 q_10 (nI 0) (nI 0) (nI 0) (nI 0) (nI 0), eX0 q_14 (nI 0) (nI 0) (nI 0) (nI 0) (nI 0), eX0 q_18 (nI 0) (nI 0) (nI 0) (nI 0) (nI 0), eX0 q_22 (nI 0) (nI 0) (nI 0) (nI 0) (nI 0)]) (st2 := [.ref q_22, .int (nI 5), .ref q_1]) rfl rfl rfl ?_
  refine z_astq X (pc := 44) 1 7 0 5 [eX1 h0 q_1 (nI 0), eQ t q_1 8 (va_up (va_up (va_up (va_up (va_up (va_up (fun _ => none) 0 (some q_2)) 1 (some q_6)) 2 (some q_10)) 3 (some q_14)) 4 (some q_18)) 5 (some q_22)), eX0 q_2 (nI 0) (nI 0) (nI 0) (nI 0) (nI 0), eX0 q_6 (nI 0) (nI 0) (nI 0) (nI 0) (nI 0), eX0 q_10 (nI 0) (nI 0) (nI 0) (nI 0) (nI 0), eX0 q_14 (nI 0) (nI 0) (nI 0) (nI 0) (nI 0), eX0 q_18 (nI 0) (nI 0) (nI 0) (nI 0) (nI 0), eX0 q_22 (nI 0) (nI 0) (nI 0) (nI 0) (nI 0)] rfl rfl rfl (by decide) (by decide) (by decide) dX1_init_44 rfl ?_
  refine z_iinc X (pc := 45) (i := 2) 0 (nI 6) [(2, .int (nI 6)), (0, .ref h0), (1, .int (nI 8))] dX1_init_45 rfl (nI_incc 5 1) (by decide) rfl ?_
  refine z_goto X (pc := 48) 23 dX1_init_48 (by decide) ?_
  refine z_iload_n X (pc := 23) 0 dX1_init_23 rfl ?_
  refine z_aload_n X (pc := 24) 1 dX1_init_24 rfl ?_
  refine z_get X (pc := 25) 0 0 (.ref q_1) tu_1 tw_94 dX1_init_25 rfl rfl (by decide) rfl rfl ?_
  refine z_alen_q X (pc := 28) 1 dX1_init_28 rfl ?_
  refine z_icmp_geN X (pc := 29) 51 (by omega) (by omega) dX1_init_29 (by decide) (fun c_29 => absurd c_29 (by decide)) (fun c_29 => ?_)
  refine z_aload_n X (pc := 32) 1 dX1_init_32 rfl ?_
  refine z_get X (pc := 33) 0 0 (.ref q_1) tu_1 tw_94 dX1_init_33 rfl rfl (by decide) rfl rfl ?_
  refine z_iload_n X (pc := 36) 0 dX1_init_36 rfl ?_
  refine z_new X (pc := 37) (ci := 0) [.int (nI 0), .int (nI 0), .int (nI 0), .int (nI 0), .int (nI 0)] tu_0 tyX0_ok tw_91 tw_23 tw_3 rfl nvX0 (Nat.le_of_ble_eq_true rfl) (Nat.le_of_ble_eq_true rfl) dX1_init_37 (fun q_26 => ?_)
  refine z_cs (8, 43) rfl ?_
  refine z_eq (ws2 := [eX1 h0 q_1 (nI 0), eQ t q_1 8 (va_up (va_up (va_up (va_up (va_up (va_up (fun _ => none) 0 (some q_2)) 1 (some q_6)) 2 (some q_10)) 3 (some q_14)) 4 (some q_18)) 5 (some q_22)), eX0 q_2 (nI 0) (nI 0) (nI 0) (nI 0) (nI 0), eX0 q_6 (nI 0) (nI 0) (nI 0) (nI 0) (nI 0), eX0 q_10 (nI 0) (nI 0) (nI 0) (nI 0) (nI 0), eX0 q_14 (nI 0) (nI 0) (nI 0) (nI 0) (nI 0), eX0 q_18 (nI 0) (nI 0) (nI 0) (nI 0) (nI 0), eX0 q_22 (nI 0) (nI 0) (nI 0) (nI 0) (nI 0), eX0 q_26 (nI 0) (nI 0) (nI 0) (nI 0) (nI 0)]) (st2 := [.ref q_26, .int (nI 6), .ref q_1]) rfl rfl rfl ?_
  refine z_dup X (pc := 40) dX1_init_40 rfl ?_
  refine zc_IN (as := []) X (pc := 41) (c_X0_init lq D t q_26 ) tw_93 tw_26 tw_3 tw_25 rfl [8] rfl rfl dX1_init_41 rfl zdX0_init ⟨rfl, rfl, Nat.le_of_ble_eq_true rfl, Nat.le_of_ble_eq_true rfl⟩ (Nat.le_of_ble_eq_true rfl) (Nat.le_of_ble_eq_true rfl) (Nat.le_of_ble_eq_true rfl) (fun v_27 w_28 hp_29 => ?_)
  obtain ⟨rfl, rfl⟩ := hp_29
  refine ⟨rfl, ?_⟩
  refine z_eq (ws2 := [eX1 h0 q_1 (nI 0), eQ t q_1 8 (va_up (va_up (va_up (va_up (va_up (va_up (fun _ => none) 0 (some q_2)) 1 (some q_6)) 2 (some q_10)) 3 (some q_14)) 4 (some q_18)) 5 (some q_22)), eX0 q_2 (nI 0) (nI 0) (nI 0) (nI 0) (nI 0), eX0 q_6 (nI 0) (nI 0) (nI 0) (nI 0) (nI 0), eX0 q_10 (nI 0) (nI 0) (nI 0) (nI 0) (nI 0), eX0 q_14 (nI 0) (nI 0) (nI 0) (nI 0) (nI 0), eX0 q_18 (nI 0) (nI 0) (nI 0) (nI 0) (nI 0), eX0 q_22 (nI 0) (nI 0) (nI 0) (nI 0) (nI 0), eX0 q_26 (nI 0) (nI 0) (nI 0) (nI 0) (nI 0)]) (st2 := [.ref q_26, .int (nI 6), .ref q_1]) rfl rfl rfl ?_
  refine z_astq X (pc := 44) 1 8 0 6 [eX1 h0 q_1 (nI 0), eQ t q_1 8 (va_up (va_up (va_up (va_up (va_up (va_up (va_up (fun _ => none) 0 (some q_2)) 1 (some q_6)) 2 (some q_10)) 3 (some q_14)) 4 (some q_18)) 5 (some q_22)) 6 (some q_26)), eX0 q_2 (nI 0) (nI 0) (nI 0) (nI 0) (nI 0), eX0 q_6 (nI 0) (nI 0) (nI 0) (nI 0) (nI 0), eX0 q_10 (nI 0) (nI 0) (nI 0) (nI 0) (nI 0), eX0 q_14 (nI 0) (nI 0) (nI 0) (nI 0) (nI 0), eX0 q_18 (nI 0) (nI 0) (nI 0) (nI 0) (nI 0), eX0 q_22 (nI 0) (nI 0) (nI 0) (nI 0) (nI 0), eX0 q_26 (nI 0) (nI 0) (nI 0) (nI 0) (nI 0)] rfl rfl rfl (by decide) (by decide) (by decide) dX1_init_44 rfl ?_
  refine z_iinc X (pc := 45) (i := 2) 0 (nI 7) [(2, .int (nI 7)), (0, .ref h0), (1, .int (nI 8))] dX1_init_45 rfl (nI_incc 6 1) (by decide) rfl ?_
  refine z_goto X (pc := 48) 23 dX1_init_48 (by decide) ?_
  refine z_iload_n X (pc := 23) 0 dX1_init_23 rfl ?_
  refine z_aload_n X (pc := 24) 1 dX1_init_24 rfl ?_
  refine z_get X (pc := 25) 0 0 (.ref q_1) tu_1 tw_94 dX1_init_25 rfl rfl (by decide) rfl rfl ?_
  refine z_alen_q X (pc := 28) 1 dX1_init_28 rfl ?_
  refine z_icmp_geN X (pc := 29) 51 (by omega) (by omega) dX1_init_29 (by decide) (fun c_29 => absurd c_29 (by decide)) (fun c_29 => ?_)
  refine z_aload_n X (pc := 32) 1 dX1_init_32 rfl ?_
  refine z_get X (pc := 33) 0 0 (.ref q_1) tu_1 tw_94 dX1_init_33 rfl rfl (by decide) rfl rfl ?_
  refine z_iload_n X (pc := 36) 0 dX1_init_36 rfl ?_
  refine z_new X (pc := 37) (ci := 0) [.int (nI 0), .int (nI 0), .int (nI 0), .int (nI 0), .int (nI 0)] tu_0 tyX0_ok tw_91 tw_23 tw_3 rfl nvX0 (Nat.le_of_ble_eq_true rfl) (Nat.le_of_ble_eq_true rfl) dX1_init_37 (fun q_30 => ?_)
  refine z_cs (9, 48) rfl ?_
  refine z_eq (ws2 := [eX1 h0 q_1 (nI 0), eQ t q_1 8 (va_up (va_up (va_up (va_up (va_up (va_up (va_up (fun _ => none) 0 (some q_2)) 1 (some q_6)) 2 (some q_10)) 3 (some q_14)) 4 (some q_18)) 5 (some q_22)) 6 (some q_26)), eX0 q_2 (nI 0) (nI 0) (nI 0) (nI 0) (nI 0), eX0 q_6 (nI 0) (nI 0) (nI 0) (nI 0) (nI 0), eX0 q_10 (nI 0) (nI 0) (nI 0) (nI 0) (nI 0), eX0 q_14 (nI 0) (nI 0) (nI 0) (nI 0) (nI 0), eX0 q_18 (nI 0) (nI 0) (nI 0) (nI 0) (nI 0), eX0 q_22 (nI 0) (nI 0) (nI 0) (nI 0) (nI 0), eX0 q_26 (nI 0) (nI 0) (nI 0) (nI 0) (nI 0), eX0 q_30 (nI 0) (nI 0) (nI 0) (nI 0) (nI 0)]) (st2 := [.ref q_30, .int (nI 7), .ref q_1]) rfl rfl rfl ?_
  refine z_dup X (pc := 40) dX1_init_40 rfl ?_
  refine zc_IN (as := []) X (pc := 41) (c_X0_init lq D t q_30 ) tw_93 tw_26 tw_3 tw_25 rfl [9] rfl rfl dX1_init_41 rfl zdX0_init ⟨rfl, rfl, Nat.le_of_ble_eq_true rfl, Nat.le_of_ble_eq_true rfl⟩ (Nat.le_of_ble_eq_true rfl) (Nat.le_of_ble_eq_true rfl) (Nat.le_of_ble_eq_true rfl) (fun v_31 w_32 hp_33 => ?_)
  obtain ⟨rfl, rfl⟩ := hp_33
  refine ⟨rfl, ?_⟩
  refine z_eq (ws2 := [eX1 h0 q_1 (nI 0), eQ t q_1 8 (va_up (va_up (va_up (va_up (va_up (va_up (va_up (fun _ => none) 0 (some q_2)) 1 (some q_6)) 2 (some q_10)) 3 (some q_14)) 4 (some q_18)) 5 (some q_22)) 6 (some q_26)), eX0 q_2 (nI 0) (nI 0) (nI 0) (nI 0) (nI 0), eX0 q_6 (nI 0) (nI 0) (nI 0) (nI 0) (nI 0), eX0 q_10 (nI 0) (nI 0) (nI 0) (nI 0) (nI 0), eX0 q_14 (nI 0) (nI 0) (nI 0) (nI 0) (nI 0), eX0 q_18 (nI 0) (nI 0) (nI 0) (nI 0) (nI 0), eX0 q_22 (nI 0) (nI 0) (nI 0) (nI 0) (nI 0), eX0 q_26 (nI 0) (nI 0) (nI 0) (nI 0) (nI 0), eX0 q_30 (nI 0) (nI 0) (nI 0) (nI 0) (nI 0)]) (st2 := [.ref q_30, .int (nI 7), .ref q_1]) rfl rfl rfl ?_
  refine z_astq X (pc := 44) 1 9 0 7 [eX1 h0 q_1 (nI 0), eQ t q_1 8 (va_up (va_up (va_up (va_up (va_up (va_up (va_up (va_up (fun _ => none) 0 (some q_2)) 1 (some q_6)) 2 (some q_10)) 3 (some q_14)) 4 (some q_18)) 5 (some q_22)) 6 (some q_26)) 7 (some q_30)), eX0 q_2 (nI 0) (nI 0) (nI 0) (nI 0) (nI 0), eX0 q_6 (nI 0) (nI 0) (nI 0) (nI 0) (nI 0), eX0 q_10 (nI 0) (nI 0) (nI 0) (nI 0) (nI 0), eX0 q_14 (nI 0) (nI 0) (nI 0) (nI 0) (nI 0), eX0 q_18 (nI 0) (nI 0) (nI 0) (nI 0) (nI 0), eX0 q_22 (nI 0) (nI 0) (nI 0) (nI 0) (nI 0), eX0 q_26 (nI 0) (nI 0) (nI 0) (nI 0) (nI 0), eX0 q_30 (nI 0) (nI 0) (nI 0) (nI 0) (nI 0)] rfl rfl rfl (by decide) (by decide) (by decide) dX1_init_44 rfl ?_
  refine z_iinc X (pc := 45) (i := 2) 0 (nI 8) [(2, .int (nI 8)), (0, .ref h0), (1, .int (nI 8))] dX1_init_45 rfl (nI_incc 7 1) (by decide) rfl ?_
  refine z_goto X (pc := 48) 23 dX1_init_48 (by decide) ?_
  refine z_iload_n X (pc := 23) 0 dX1_init_23 rfl ?_
  refine z_aload_n X (pc := 24) 1 dX1_init_24 rfl ?_
  refine z_get X (pc := 25) 0 0 (.ref q_1) tu_1 tw_94 dX1_init_25 rfl rfl (by decide) rfl rfl ?_
  refine z_alen_q X (pc := 28) 1 dX1_init_28 rfl ?_
  refine z_icmp_geN X (pc := 29) 51 (by omega) (by omega) dX1_init_29 (by decide) (fun c_29 => ?_) (fun c_29 => absurd c_29 (by decide))
  refine z_qrow 1 (fun j => some ((fun j => match j with | 0 => q_2 | 1 => q_6 | 2 => q_10 | 3 => q_14 | 4 => q_18 | 5 => q_22 | 6 => q_26 | _ => q_30) j)) [eX1 h0 q_1 (nI 0), eQ t q_1 8 (fun j => some ((fun j => match j with | 0 => q_2 | 1 => q_6 | 2 => q_10 | 3 => q_14 | 4 => q_18 | 5 => q_22 | 6 => q_26 | _ => q_30) j)), eX0 q_2 (nI 0) (nI 0) (nI 0) (nI 0) (nI 0), eX0 q_6 (nI 0) (nI 0) (nI 0) (nI 0) (nI 0), eX0 q_10 (nI 0) (nI 0) (nI 0) (nI 0) (nI 0), eX0 q_14 (nI 0) (nI 0) (nI 0) (nI 0) (nI 0), eX0 q_18 (nI 0) (nI 0) (nI 0) (nI 0) (nI 0), eX0 q_22 (nI 0) (nI 0) (nI 0) (nI 0) (nI 0), eX0 q_26 (nI 0) (nI 0) (nI 0) (nI 0) (nI 0), eX0 q_30 (nI 0) (nI 0) (nI 0) (nI 0) (nI 0)] rfl (fun j hj => by rcases (show j = 0 ∨ j = 1 ∨ j = 2 ∨ j = 3 ∨ j = 4 ∨ j = 5 ∨ j = 6 ∨ j = 7 by omega) with rfl | rfl | rfl | rfl | rfl | rfl | rfl | rfl <;> rfl) rfl ?_
  exact hRet.v dX1_init_51 ⟨q_1, (fun j => match j with | 0 => q_2 | 1 => q_6 | 2 => q_10 | 3 => q_14 | 4 => q_18 | 5 => q_22 | 6 => q_26 | _ => q_30), rfl, rfl⟩

abbrev rm_X1_init2 : Room := { frames := 2, cells := 3, slots := 12, locals := 32 }
set_option maxHeartbeats 4000000 in
set_option maxRecDepth 100000 in
theorem c_X1_init2 (lq : Launch) (D : va_G) (t : zT) (h0 : Nat)  : Ct lq D t yX1_init cX1_init 3 none rm_X1_init2 [.ref h0, .int (nI 2)] [(h0, .inr (1, [.null, .int (nI 0)]))] 3 12 (fun rv rw_ => ∃ (ha : Nat) (ad : Nat → Nat), rv = none ∧ rw_ = [eX1 h0 ha (nI 0), eQ t ha 2 (fun j => some (ad j)), eX0 (ad 0) (nI 0) (nI 0) (nI 0) (nI 0) (nI 0), eX0 (ad 1) (nI 0) (nI 0) (nI 0) (nI 0) (nI 0)]) := by
  refine Ct.of (by decide) (Nat.le_of_ble_eq_true rfl) (fun k X hRet => ?_)
  have X : zX D t k cX1_init 3 RX1 "<init>" rm_X1_init2 lq := X
  refine z_eq (lv2 := [(0, .ref h0), (1, .int (nI 2))]) rfl rfl rfl ?_
  refine z_aload_n X (pc := 0) 0 dX1_init_0 rfl ?_
  refine z_objInit X (pc := 1) tw_87 dX1_init_1 (Nat.le_of_ble_eq_true rfl) (Nat.le_of_ble_eq_true rfl) ?_
  refine z_aload_n X (pc := 4) 0 dX1_init_4 rfl ?_
  refine z_iconst X (pc := 5) (nI 0) dX1_init_5 (by decide) ?_
  refine z_put X (pc := 6) 0 1 [(h0, .inr (1, [.null, .int (nI 0)]))] tu_1 tyX1_ok nmX1 tw_95 dX1_init_6 rfl rfl (by decide) rfl rfl rfl rfl (Nat.le_of_ble_eq_true rfl) rfl ?_
  refine z_aload_n X (pc := 9) 0 dX1_init_9 rfl ?_
  refine z_iload_n X (pc := 10) 1 dX1_init_10 rfl ?_
  refine z_iconst X (pc := 11) (nI 1) dX1_init_11 (by decide) ?_
  refine z_mmax X (pc := 12) (nI 2) tw_88 tw_89 tw_5 tw_90 (Nat.le_of_ble_eq_true rfl) (Nat.le_of_ble_eq_true rfl) (Nat.le_of_ble_eq_true rfl) (Nat.le_of_ble_eq_true rfl) dX1_init_12 (by decide) ?_
  refine z_newq X (pc := 15) 2 tw_91 (by decide) (by decide) (Nat.le_of_ble_eq_true rfl) (Nat.le_of_ble_eq_true rfl) (Nat.le_of_ble_eq_true rfl) dX1_init_15 (fun q_1 => ?_)
  refine z_cs (1, 2) rfl ?_
  refine z_eq (ws2 := [(h0, .inr (1, [.null, .int (nI 0)])), eQ t q_1 2 (fun _ => none)]) (st2 := [.ref q_1, .ref h0]) rfl rfl rfl ?_
  refine z_putF X (pc := 18) 0 0 [eX1 h0 q_1 (nI 0), eQ t q_1 2 (fun _ => none)] tu_1 tyX1_ok nmX1 tw_94 dX1_init_18 rfl rfl (by decide) rfl rfl rfl rfl rfl rfl (Nat.le_of_ble_eq_true rfl) rfl ?_
  refine z_iconst X (pc := 21) (nI 0) dX1_init_21 (by decide) ?_
  refine z_istore_n X (pc := 22) (i := 2) [(2, .int (nI 0)), (0, .ref h0), (1, .int (nI 2))] dX1_init_22 rfl (by decide) rfl ?_
  refine z_iload_n X (pc := 23) 0 dX1_init_23 rfl ?_
  refine z_aload_n X (pc := 24) 1 dX1_init_24 rfl ?_
  refine z_get X (pc := 25) 0 0 (.ref q_1) tu_1 tw_94 dX1_init_25 rfl rfl (by decide) rfl rfl ?_
  refine z_alen_q X (pc := 28) 1 dX1_init_28 rfl ?_
  refine z_icmp_geN X (pc := 29) 51 (by omega) (by omega) dX1_init_29 (by decide) (fun c_29 => absurd c_29 (by decide)) (fun c_29 => ?_)
  refine z_aload_n X (pc := 32) 1 dX1_init_32 rfl ?_
  refine z_get X (pc := 33) 0 0 (.ref q_1) tu_1 tw_94 dX1_init_33 rfl rfl (by decide) rfl rfl ?_
  refine z_iload_n X (pc := 36) 0 dX1_init_36 rfl ?_
  refine z_new X (pc := 37) (ci := 0) [.int (nI 0), .int (nI 0), .int (nI 0), .int (nI 0), .int (nI 0)] tu_0 tyX0_ok tw_91 tw_23 tw_3 rfl nvX0 (Nat.le_of_ble_eq_true rfl) (Nat.le_of_ble_eq_true rfl) dX1_init_37 (fun q_2 => ?_)
  refine z_cs (2, 7) rfl ?_
  refine z_eq (ws2 := [eX1 h0 q_1 (nI 0), eQ t q_1 2 (fun _ => none), eX0 q_2 (nI 0) (nI 0) (nI 0) (nI 0) (nI 0)]) (st2 := [.ref q_2, .int (nI 0), .ref q_1]) rfl rfl rfl ?_
  refine z_dup X (pc := 40) dX1_init_40 rfl ?_
  refine zc_IN (as := []) X (pc := 41) (c_X0_init lq D t q_2 ) tw_93 tw_26 tw_3 tw_25 rfl [2] rfl rfl dX1_init_41 rfl zdX0_init ⟨rfl, rfl, Nat.le_of_ble_eq_true rfl, Nat.le_of_ble_eq_true rfl⟩ (Nat.le_of_ble_eq_true rfl) (Nat.le_of_ble_eq_true rfl) (Nat.le_of_ble_eq_true rfl) (fun v_3 w_4 hp_5 => ?_)
  obtain ⟨rfl, rfl⟩ := hp_5
  refine ⟨rfl, ?_⟩
  refine z_eq (ws2 := [eX1 h0 q_1 (nI 0), eQ t q_1 2 (fun _ => none), eX0 q_2 (nI 0) (nI 0) (nI 0) (nI 0) (nI 0)]) (st2 := [.ref q_2, .int (nI 0), .ref q_1]) rfl rfl rfl ?_
  refine z_astq X (pc := 44) 1 2 0 0 [eX1 h0 q_1 (nI 0), eQ t q_1 2 (va_up (fun _ => none) 0 (some q_2)), eX0 q_2 (nI 0) (nI 0) (nI 0) (nI 0) (nI 0)] rfl rfl rfl (by decide) (by decide) (by decide) dX1_init_44 rfl ?_
  refine z_iinc X (pc := 45) (i := 2) 0 (nI 1) [(2, .int (nI 1)), (0, .ref h0), (1, .int (nI 2))] dX1_init_45 rfl (nI_incc 0 1) (by decide) rfl ?_
  refine z_goto X (pc := 48) 23 dX1_init_48 (by decide) ?_
  refine z_iload_n X (pc := 23) 0 dX1_init_23 rfl ?_
  refine z_aload_n X (pc := 24) 1 dX1_init_24 rfl ?_
  refine z_get X (pc := 25) 0 0 (.ref q_1) tu_1 tw_94 dX1_init_25 rfl rfl (by decide) rfl rfl ?_
  refine z_alen_q X (pc := 28) 1 dX1_init_28 rfl ?_
  refine z_icmp_geN X (pc := 29) 51 (by omega) (by omega) dX1_init_29 (by decide) (fun c_29 => absurd c_29 (by decide)) (fun c_29 => ?_)
  refine z_aload_n X (pc := 32) 1 dX1_init_32 rfl ?_
  refine z_get X (pc := 33) 0 0 (.ref q_1) tu_1 tw_94 dX1_init_33 rfl rfl (by decide) rfl rfl ?_
  refine z_iload_n X (pc := 36) 0 dX1_init_36 rfl ?_
  refine z_new X (pc := 37) (ci := 0) [.int (nI 0), .int (nI 0), .int (nI 0), .int (nI 0), .int (nI 0)] tu_0 tyX0_ok tw_91 tw_23 tw_3 rfl nvX0 (Nat.le_of_ble_eq_true rfl) (Nat.le_of_ble_eq_true rfl) dX1_init_37 (fun q_6 => ?_)
  refine z_cs (3, 12) rfl ?_
  refine z_eq (ws2 := [eX1 h0 q_1 (nI 0), eQ t q_1 2 (va_up (fun _ => none) 0 (some q_2)), eX0 q_2 (nI 0) (nI 0) (nI 0) (nI 0) (nI 0), eX0 q_6 (nI 0) (nI 0) (nI 0) (nI 0) (nI 0)]) (st2 := [.ref q_6, .int (nI 1), .ref q_1]) rfl rfl rfl ?_
  refine z_dup X (pc := 40) dX1_init_40 rfl ?_
  refine zc_IN (as := []) X (pc := 41) (c_X0_init lq D t q_6 ) tw_93 tw_26 tw_3 tw_25 rfl [3] rfl rfl dX1_init_41 rfl zdX0_init ⟨rfl, rfl, Nat.le_of_ble_eq_true rfl, Nat.le_of_ble_eq_true rfl⟩ (Nat.le_of_ble_eq_true rfl) (Nat.le_of_ble_eq_true rfl) (Nat.le_of_ble_eq_true rfl) (fun v_7 w_8 hp_9 => ?_)
  obtain ⟨rfl, rfl⟩ := hp_9
  refine ⟨rfl, ?_⟩
  refine z_eq (ws2 := [eX1 h0 q_1 (nI 0), eQ t q_1 2 (va_up (fun _ => none) 0 (some q_2)), eX0 q_2 (nI 0) (nI 0) (nI 0) (nI 0) (nI 0), eX0 q_6 (nI 0) (nI 0) (nI 0) (nI 0) (nI 0)]) (st2 := [.ref q_6, .int (nI 1), .ref q_1]) rfl rfl rfl ?_
  refine z_astq X (pc := 44) 1 3 0 1 [eX1 h0 q_1 (nI 0), eQ t q_1 2 (va_up (va_up (fun _ => none) 0 (some q_2)) 1 (some q_6)), eX0 q_2 (nI 0) (nI 0) (nI 0) (nI 0) (nI 0), eX0 q_6 (nI 0) (nI 0) (nI 0) (nI 0) (nI 0)] rfl rfl rfl (by decide) (by decide) (by decide) dX1_init_44 rfl ?_
  refine z_iinc X (pc := 45) (i := 2) 0 (nI 2) [(2, .int (nI 2)), (0, .ref h0), (1, .int (nI 2))] dX1_init_45 rfl (nI_incc 1 1) (by decide) rfl ?_
  refine z_goto X (pc := 48) 23 dX1_init_48 (by decide) ?_
  refine z_iload_n X (pc := 23) 0 dX1_init_23 rfl ?_
  refine z_aload_n X (pc := 24) 1 dX1_init_24 rfl ?_
  refine z_get X (pc := 25) 0 0 (.ref q_1) tu_1 tw_94 dX1_init_25 rfl rfl (by decide) rfl rfl ?_
  refine z_alen_q X (pc := 28) 1 dX1_init_28 rfl ?_
  refine z_icmp_geN X (pc := 29) 51 (by omega) (by omega) dX1_init_29 (by decide) (fun c_29 => ?_) (fun c_29 => absurd c_29 (by decide))
  refine z_qrow 1 (fun j => some ((fun j => match j with | 0 => q_2 | _ => q_6) j)) [eX1 h0 q_1 (nI 0), eQ t q_1 2 (fun j => some ((fun j => match j with | 0 => q_2 | _ => q_6) j)), eX0 q_2 (nI 0) (nI 0) (nI 0) (nI 0) (nI 0), eX0 q_6 (nI 0) (nI 0) (nI 0) (nI 0) (nI 0)] rfl (fun j hj => by rcases (show j = 0 ∨ j = 1 by omega) with rfl | rfl <;> rfl) rfl ?_
  exact hRet.v dX1_init_51 ⟨q_1, (fun j => match j with | 0 => q_2 | _ => q_6), rfl, rfl⟩

abbrev rm_X2_init : Room := { frames := 2, cells := 2, slots := 205, locals := 32 }
set_option maxHeartbeats 4000000 in
set_option maxRecDepth 100000 in
theorem c_X2_init (lq : Launch) (D : va_G) (t : zT) (h0 : Nat)  : Ct lq D t yX2_init cX2_init 1 none rm_X2_init [.ref h0] [(h0, .inr (2, [.null, .int (nI 0), .int (nI 0), .int (nI 0), .int (nI 0), .null, .int (nI 0)]))] 2 205 (fun rv rw_ => ∃ (hl : Nat) (hd : Nat), rv = none ∧ rw_ = [eX2 h0 hl (nI 0) (nI 0) (nI 0) (nI 0) hd (nI 0), eC t hl 200 (nf (fun _ => 0)), eX0 hd (nI 0) (nI 0) (nI 0) (nI 0) (nI 0)]) := by
  refine Ct.of (by decide) (Nat.le_of_ble_eq_true rfl) (fun k X hRet => ?_)
  have X : zX D t k cX2_init 1 RX2 "<init>" rm_X2_init lq := X
  refine z_eq (lv2 := [(0, .ref h0)]) rfl rfl rfl ?_
  refine z_aload_n X (pc := 0) 0 dX2_init_0 rfl ?_
  refine z_objInit X (pc := 1) tw_21 dX2_init_1 (Nat.le_of_ble_eq_true rfl) (Nat.le_of_ble_eq_true rfl) ?_
  refine z_aload_n X (pc := 4) 0 dX2_init_4 rfl ?_
  refine z_sipush X (pc := 5) (nI 200) dX2_init_5 (by decide) ?_
  refine z_newC X (pc := 8) 200 tw_55 (by decide) (by decide) (Nat.le_of_ble_eq_true rfl) (Nat.le_of_ble_eq_true rfl) (Nat.le_of_ble_eq_true rfl) dX2_init_8 (fun q_1 => ?_)
  refine z_cs (1, 200) rfl ?_
  refine z_eq (ws2 := [(h0, .inr (2, [.null, .int (nI 0), .int (nI 0), .int (nI 0), .int (nI 0), .null, .int (nI 0)])), eC t q_1 200 (nf (fun _ => 0))]) (st2 := [.ref q_1, .ref h0]) rfl rfl rfl ?_
  refine z_putF X (pc := 10) 0 0 [(h0, .inr (2, [.ref q_1, .int (nI 0), .int (nI 0), .int (nI 0), .int (nI 0), .null, .int (nI 0)])), eC t q_1 200 (nf (fun _ => 0))] tu_2 tyX2_ok nmX2 tw_56 dX2_init_10 rfl rfl (by decide) rfl rfl rfl rfl rfl rfl (Nat.le_of_ble_eq_true rfl) rfl ?_
  refine z_aload_n X (pc := 13) 0 dX2_init_13 rfl ?_
  refine z_iconst X (pc := 14) (nI 0) dX2_init_14 (by decide) ?_
  refine z_put X (pc := 15) 0 1 [(h0, .inr (2, [.ref q_1, .int (nI 0), .int (nI 0), .int (nI 0), .int (nI 0), .null, .int (nI 0)])), eC t q_1 200 (nf (fun _ => 0))] tu_2 tyX2_ok nmX2 tw_57 dX2_init_15 rfl rfl (by decide) rfl rfl rfl rfl (Nat.le_of_ble_eq_true rfl) rfl ?_
  refine z_aload_n X (pc := 18) 0 dX2_init_18 rfl ?_
  refine z_iconst X (pc := 19) (nI 0) dX2_init_19 (by decide) ?_
  refine z_put X (pc := 20) 0 2 [(h0, .inr (2, [.ref q_1, .int (nI 0), .int (nI 0), .int (nI 0), .int (nI 0), .null, .int (nI 0)])), eC t q_1 200 (nf (fun _ => 0))] tu_2 tyX2_ok nmX2 tw_58 dX2_init_20 rfl rfl (by decide) rfl rfl rfl rfl (Nat.le_of_ble_eq_true rfl) rfl ?_
  refine z_aload_n X (pc := 23) 0 dX2_init_23 rfl ?_
  refine z_iconst X (pc := 24) (nI 0) dX2_init_24 (by decide) ?_
  refine z_put X (pc := 25) 0 3 [(h0, .inr (2, [.ref q_1, .int (nI 0), .int (nI 0), .int (nI 0), .int (nI 0), .null, .int (nI 0)])), eC t q_1 200 (nf (fun _ => 0))] tu_2 tyX2_ok nmX2 tw_59 dX2_init_25 rfl rfl (by decide) rfl rfl rfl rfl (Nat.le_of_ble_eq_true rfl) rfl ?_
  refine z_aload_n X (pc := 28) 0 dX2_init_28 rfl ?_
  refine z_iconst X (pc := 29) (nI 0) dX2_init_29 (by decide) ?_
  refine z_put X (pc := 30) 0 4 [(h0, .inr (2, [.ref q_1, .int (nI 0), .int (nI 0), .int (nI 0), .int (nI 0), .null, .int (nI 0)])), eC t q_1 200 (nf (fun _ => 0))] tu_2 tyX2_ok nmX2 tw_60 dX2_init_30 rfl rfl (by decide) rfl rfl rfl rfl (Nat.le_of_ble_eq_true rfl) rfl ?_
  refine z_aload_n X (pc := 33) 0 dX2_init_33 rfl ?_
  refine z_new X (pc := 34) (ci := 0) [.int (nI 0), .int (nI 0), .int (nI 0), .int (nI 0), .int (nI 0)] tu_0 tyX0_ok tw_22 tw_23 tw_3 rfl nvX0 (Nat.le_of_ble_eq_true rfl) (Nat.le_of_ble_eq_true rfl) dX2_init_34 (fun q_2 => ?_)
  refine z_cs (2, 205) rfl ?_
  refine z_eq (ws2 := [(h0, .inr (2, [.ref q_1, .int (nI 0), .int (nI 0), .int (nI 0), .int (nI 0), .null, .int (nI 0)])), eC t q_1 200 (nf (fun _ => 0)), eX0 q_2 (nI 0) (nI 0) (nI 0) (nI 0) (nI 0)]) (st2 := [.ref q_2, .ref h0]) rfl rfl rfl ?_
  refine z_dup X (pc := 37) dX2_init_37 rfl ?_
  refine zc_IN (as := []) X (pc := 38) (c_X0_init lq D t q_2 ) tw_24 tw_26 tw_3 tw_25 rfl [2] rfl rfl dX2_init_38 rfl zdX0_init ⟨rfl, rfl, Nat.le_of_ble_eq_true rfl, Nat.le_of_ble_eq_true rfl⟩ (Nat.le_of_ble_eq_true rfl) (Nat.le_of_ble_eq_true rfl) (Nat.le_of_ble_eq_true rfl) (fun v_3 w_4 hp_5 => ?_)
  obtain ⟨rfl, rfl⟩ := hp_5
  refine ⟨rfl, ?_⟩
  refine z_eq (ws2 := [(h0, .inr (2, [.ref q_1, .int (nI 0), .int (nI 0), .int (nI 0), .int (nI 0), .null, .int (nI 0)])), eC t q_1 200 (nf (fun _ => 0)), eX0 q_2 (nI 0) (nI 0) (nI 0) (nI 0) (nI 0)]) (st2 := [.ref q_2, .ref h0]) rfl rfl rfl ?_
  refine z_putF X (pc := 41) 0 5 [eX2 h0 q_1 (nI 0) (nI 0) (nI 0) (nI 0) q_2 (nI 0), eC t q_1 200 (nf (fun _ => 0)), eX0 q_2 (nI 0) (nI 0) (nI 0) (nI 0) (nI 0)] tu_2 tyX2_ok nmX2 tw_61 dX2_init_41 rfl rfl (by decide) rfl rfl rfl rfl rfl rfl (Nat.le_of_ble_eq_true rfl) rfl ?_
  refine z_aload_n X (pc := 44) 0 dX2_init_44 rfl ?_
  refine z_iconst X (pc := 45) (nI 0) dX2_init_45 (by decide) ?_
  refine z_put X (pc := 46) 0 6 [eX2 h0 q_1 (nI 0) (nI 0) (nI 0) (nI 0) q_2 (nI 0), eC t q_1 200 (nf (fun _ => 0)), eX0 q_2 (nI 0) (nI 0) (nI 0) (nI 0) (nI 0)] tu_2 tyX2_ok nmX2 tw_63 dX2_init_46 rfl rfl (by decide) rfl rfl rfl rfl (Nat.le_of_ble_eq_true rfl) rfl ?_
  exact hRet.v dX2_init_49 ⟨q_1, q_2, rfl, rfl⟩

abbrev rm_X3_init : Room := { frames := 1, cells := 3, slots := 77, locals := 12 }
set_option maxHeartbeats 4000000 in
set_option maxRecDepth 100000 in
theorem c_X3_init (lq : Launch) (D : va_G) (t : zT) (h0 : Nat)  : Ct lq D t yX3_init cX3_init 1 none rm_X3_init [.ref h0] [(h0, .inr (3, [.null, .null, .null, .int (nI 0), .int (nI 0), .int (nI 0), .int (nI 0), .long (lN 0), .long (lN 0)]))] 3 77 (fun rv rw_ => ∃ (hr : Nat) (hn : Nat) (ho : Nat), rv = none ∧ rw_ = [eX3 h0 hr hn ho (nI 0) (nI 0) (nI 0) (nI 0) (lN 0) (lN 0), eL t hr 33 (lf (fun _ => 0)), eL t hn 33 (lf (fun _ => 0)), eL t ho 11 (lf (fun _ => 0))]) := by
  refine Ct.of (by decide) (Nat.le_of_ble_eq_true rfl) (fun k X hRet => ?_)
  have X : zX D t k cX3_init 1 RX3 "<init>" rm_X3_init lq := X
  refine z_eq (lv2 := [(0, .ref h0)]) rfl rfl rfl ?_
  refine z_aload_n X (pc := 0) 0 dX3_init_0 rfl ?_
  refine z_objInit X (pc := 1) tw_106 dX3_init_1 (Nat.le_of_ble_eq_true rfl) (Nat.le_of_ble_eq_true rfl) ?_
  refine z_aload_n X (pc := 4) 0 dX3_init_4 rfl ?_
  refine z_bipush X (pc := 5) (nI 33) dX3_init_5 (by decide) ?_
  refine z_newL X (pc := 7) 33 tw_135 (by decide) (by decide) (Nat.le_of_ble_eq_true rfl) (Nat.le_of_ble_eq_true rfl) (Nat.le_of_ble_eq_true rfl) dX3_init_7 (fun q_1 => ?_)
  refine z_cs (1, 33) rfl ?_
  refine z_eq (ws2 := [(h0, .inr (3, [.null, .null, .null, .int (nI 0), .int (nI 0), .int (nI 0), .int (nI 0), .long (lN 0), .long (lN 0)])), eL t q_1 33 (lf (fun _ => 0))]) (st2 := [.ref q_1, .ref h0]) rfl rfl rfl ?_
  refine z_put X (pc := 9) 0 0 [(h0, .inr (3, [.ref q_1, .null, .null, .int (nI 0), .int (nI 0), .int (nI 0), .int (nI 0), .long (lN 0), .long (lN 0)])), eL t q_1 33 (lf (fun _ => 0))] tu_3 tyX3_ok nmX3 tw_107 dX3_init_9 rfl rfl (by decide) rfl rfl rfl rfl (Nat.le_of_ble_eq_true rfl) rfl ?_
  refine z_aload_n X (pc := 12) 0 dX3_init_12 rfl ?_
  refine z_bipush X (pc := 13) (nI 33) dX3_init_13 (by decide) ?_
  refine z_newL X (pc := 15) 33 tw_135 (by decide) (by decide) (Nat.le_of_ble_eq_true rfl) (Nat.le_of_ble_eq_true rfl) (Nat.le_of_ble_eq_true rfl) dX3_init_15 (fun q_2 => ?_)
  refine z_cs (2, 66) rfl ?_
  refine z_eq (ws2 := [(h0, .inr (3, [.ref q_1, .null, .null, .int (nI 0), .int (nI 0), .int (nI 0), .int (nI 0), .long (lN 0), .long (lN 0)])), eL t q_1 33 (lf (fun _ => 0)), eL t q_2 33 (lf (fun _ => 0))]) (st2 := [.ref q_2, .ref h0]) rfl rfl rfl ?_
  refine z_put X (pc := 17) 0 1 [(h0, .inr (3, [.ref q_1, .ref q_2, .null, .int (nI 0), .int (nI 0), .int (nI 0), .int (nI 0), .long (lN 0), .long (lN 0)])), eL t q_1 33 (lf (fun _ => 0)), eL t q_2 33 (lf (fun _ => 0))] tu_3 tyX3_ok nmX3 tw_108 dX3_init_17 rfl rfl (by decide) rfl rfl rfl rfl (Nat.le_of_ble_eq_true rfl) rfl ?_
  refine z_aload_n X (pc := 20) 0 dX3_init_20 rfl ?_
  refine z_bipush X (pc := 21) (nI 11) dX3_init_21 (by decide) ?_
  refine z_newL X (pc := 23) 11 tw_135 (by decide) (by decide) (Nat.le_of_ble_eq_true rfl) (Nat.le_of_ble_eq_true rfl) (Nat.le_of_ble_eq_true rfl) dX3_init_23 (fun q_3 => ?_)
  refine z_cs (3, 77) rfl ?_
  refine z_eq (ws2 := [(h0, .inr (3, [.ref q_1, .ref q_2, .null, .int (nI 0), .int (nI 0), .int (nI 0), .int (nI 0), .long (lN 0), .long (lN 0)])), eL t q_1 33 (lf (fun _ => 0)), eL t q_2 33 (lf (fun _ => 0)), eL t q_3 11 (lf (fun _ => 0))]) (st2 := [.ref q_3, .ref h0]) rfl rfl rfl ?_
  refine z_putF X (pc := 25) 0 2 [eX3 h0 q_1 q_2 q_3 (nI 0) (nI 0) (nI 0) (nI 0) (lN 0) (lN 0), eL t q_1 33 (lf (fun _ => 0)), eL t q_2 33 (lf (fun _ => 0)), eL t q_3 11 (lf (fun _ => 0))] tu_3 tyX3_ok nmX3 tw_109 dX3_init_25 rfl rfl (by decide) rfl rfl rfl rfl rfl rfl (Nat.le_of_ble_eq_true rfl) rfl ?_
  refine z_aload_n X (pc := 28) 0 dX3_init_28 rfl ?_
  refine z_iconst X (pc := 29) (nI 0) dX3_init_29 (by decide) ?_
  refine z_put X (pc := 30) 0 3 [eX3 h0 q_1 q_2 q_3 (nI 0) (nI 0) (nI 0) (nI 0) (lN 0) (lN 0), eL t q_1 33 (lf (fun _ => 0)), eL t q_2 33 (lf (fun _ => 0)), eL t q_3 11 (lf (fun _ => 0))] tu_3 tyX3_ok nmX3 tw_110 dX3_init_30 rfl rfl (by decide) rfl rfl rfl rfl (Nat.le_of_ble_eq_true rfl) rfl ?_
  refine z_aload_n X (pc := 33) 0 dX3_init_33 rfl ?_
  refine z_iconst X (pc := 34) (nI 0) dX3_init_34 (by decide) ?_
  refine z_put X (pc := 35) 0 4 [eX3 h0 q_1 q_2 q_3 (nI 0) (nI 0) (nI 0) (nI 0) (lN 0) (lN 0), eL t q_1 33 (lf (fun _ => 0)), eL t q_2 33 (lf (fun _ => 0)), eL t q_3 11 (lf (fun _ => 0))] tu_3 tyX3_ok nmX3 tw_111 dX3_init_35 rfl rfl (by decide) rfl rfl rfl rfl (Nat.le_of_ble_eq_true rfl) rfl ?_
  refine z_aload_n X (pc := 38) 0 dX3_init_38 rfl ?_
  refine z_iconst X (pc := 39) (nI 0) dX3_init_39 (by decide) ?_
  refine z_put X (pc := 40) 0 5 [eX3 h0 q_1 q_2 q_3 (nI 0) (nI 0) (nI 0) (nI 0) (lN 0) (lN 0), eL t q_1 33 (lf (fun _ => 0)), eL t q_2 33 (lf (fun _ => 0)), eL t q_3 11 (lf (fun _ => 0))] tu_3 tyX3_ok nmX3 tw_112 dX3_init_40 rfl rfl (by decide) rfl rfl rfl rfl (Nat.le_of_ble_eq_true rfl) rfl ?_
  refine z_aload_n X (pc := 43) 0 dX3_init_43 rfl ?_
  refine z_iconst X (pc := 44) (nI 0) dX3_init_44 (by decide) ?_
  refine z_put X (pc := 45) 0 6 [eX3 h0 q_1 q_2 q_3 (nI 0) (nI 0) (nI 0) (nI 0) (lN 0) (lN 0), eL t q_1 33 (lf (fun _ => 0)), eL t q_2 33 (lf (fun _ => 0)), eL t q_3 11 (lf (fun _ => 0))] tu_3 tyX3_ok nmX3 tw_113 dX3_init_45 rfl rfl (by decide) rfl rfl rfl rfl (Nat.le_of_ble_eq_true rfl) rfl ?_
  refine z_aload_n X (pc := 48) 0 dX3_init_48 rfl ?_
  refine z_lconst X (pc := 49) (lN 0) dX3_init_49 (by decide) ?_
  refine z_put X (pc := 50) 0 7 [eX3 h0 q_1 q_2 q_3 (nI 0) (nI 0) (nI 0) (nI 0) (lN 0) (lN 0), eL t q_1 33 (lf (fun _ => 0)), eL t q_2 33 (lf (fun _ => 0)), eL t q_3 11 (lf (fun _ => 0))] tu_3 tyX3_ok nmX3 tw_114 dX3_init_50 rfl rfl (by decide) rfl rfl rfl rfl (Nat.le_of_ble_eq_true rfl) rfl ?_
  refine z_aload_n X (pc := 53) 0 dX3_init_53 rfl ?_
  refine z_lconst X (pc := 54) (lN 0) dX3_init_54 (by decide) ?_
  refine z_put X (pc := 55) 0 8 [eX3 h0 q_1 q_2 q_3 (nI 0) (nI 0) (nI 0) (nI 0) (lN 0) (lN 0), eL t q_1 33 (lf (fun _ => 0)), eL t q_2 33 (lf (fun _ => 0)), eL t q_3 11 (lf (fun _ => 0))] tu_3 tyX3_ok nmX3 tw_115 dX3_init_55 rfl rfl (by decide) rfl rfl rfl rfl (Nat.le_of_ble_eq_true rfl) rfl ?_
  exact hRet.v dX3_init_58 ⟨q_1, q_2, q_3, rfl, rfl⟩
