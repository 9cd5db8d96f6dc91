/-! PART 33: the law: its script, its world, what holds between two steps -/
def zS (k : zK) (b9 L : Nat) (xs : Nat → Int32) : Prop := match k with
  | (_, _, _, _, s, _, _, _, _, _, _, A, _) => va_X b9 L xs s s.heap ∧ b9 < s.heap.size ∧ ¬ A b9
section ZSC
variable {D : va_G} {t : zT} {k : zK} {b : ByteArray} {n : Nat} {own nm : String} {rm : Room} {l0 : Launch} {cs : Nat × Nat} {ws : va_W} {pc : Nat} {lv : List (Nat × Value)} {st : List Value} {b9 L : Nat} {xs : Nat → Int32}
theorem z_sld (X : zX D t k b n own nm rm l0) (hSc : zS k b9 L xs) (j : Nat) {i : Int32} (hi : i = nI j) (hj : j < L) (hL : L < 2 ^ 31) (hd : decode b pc = .ok (.iaload, 1)) (kk : Z D k cs ws (pc + 1) lv (.int (xs j) :: st)) : Z D k cs ws pc lv (.int i :: .ref b9 :: st) := by
  obtain ⟨p, l, e, R, s, m, args, below, meth, c, nL, A, Q⟩ := k
  obtain ⟨hx, hb, hml, hnl, hown, hts, hK, hA, hnm, hR, hl0⟩ := X
  obtain ⟨h1, h2, h3⟩ := hSc
  intro H locs ls hP hD hS hl9
  subst hi
  have e9 : (nI j).toNatClampNeg = j := nI_clamp (by omega)
  refine va_sld hx hb h1 h2 h3 hS (fun z => z.elim (fun q => absurd q (nI_pos (by omega))) (fun q => by rw [e9] at q; omega)) hd ?_
  rw [e9]
  exact kk H locs ls hP hD hS hl9
theorem z_slen (X : zX D t k b n own nm rm l0) (hSc : zS k b9 L xs) (hd : decode b pc = .ok (.arraylength, 1)) (kk : Z D k cs ws (pc + 1) lv (.int (nI L) :: st)) : Z D k cs ws pc lv (.ref b9 :: st) := by
  obtain ⟨p, l, e, R, s, m, args, below, meth, c, nL, A, Q⟩ := k
  obtain ⟨hx, hb, hml, hnl, hown, hts, hK, hA, hnm, hR, hl0⟩ := X
  obtain ⟨h1, h2, h3⟩ := hSc
  intro H locs ls hP hD hS hl9
  exact va_slen hx hb h1 h2 h3 hS hd (kk H locs ls hP hD hS hl9)
end ZSC
def pOk (g : Nat → Nat) : Prop := ∀ i, i < 8 → sOk (fun j => g (5 * i + j))
def lInv (ty ev kn kp sg : Nat) (tx s past img sl sr : Nat → Nat) : Prop := ty ≤ 200 ∧ (∀ j, tx j < 127) ∧ sOk s ∧ (1 ≤ ev ∧ ev ≤ 9) ∧ kn ≤ 8 ∧ kp ≤ 2 ∧ sg ≤ 6 ∧ (∀ j, sl j ≤ 10 ∧ sr j ≤ 10) ∧ pOk past ∧ pOk img
/-- the law's whole world -/
def LW (t : zT) (h hT hN hU hA hK hW hL hZ hB hD hAA hKA ho : Nat) (ad ke : Nat → Nat) (mq mT mD mS mP mI mE mH mX mR mO : Nat) (ty ev kn kp sg : Nat) (tx s past img sl sr : Nat → Nat) (pl fi se tev a0 a1 a2 a3 a4 b0 b1 b2 b3 b4 g0 g1 g2 g3 at_ : Int32) (g4 g5 fs : Int64) (hr hn : Nat) (f1 f2 f3 k1 k2 k3 k4 : Nat → Int64) (dr : Nat → Int32) : va_W := [eX4 h hT hN hU hA hK hW hL hZ (nI sg) (nI ev), eX2 hT hB (nI ty) pl fi se hD tev, eC t hB 200 (nf tx), eX0 hD a0 a1 a2 a3 a4, eX0 hN (nI (s 0)) (nI (s 1)) (nI (s 2)) (nI (s 3)) (nI (s 4)), eX0 hU b0 b1 b2 b3 b4, eX1 hA hAA (nI kn), eQ t hAA 8 (fun j => some (ad j)), eX0 (ad 0) (nI (past 0)) (nI (past 1)) (nI (past 2)) (nI (past 3)) (nI (past 4)), eX0 (ad 1) (nI (past 5)) (nI (past 6)) (nI (past 7)) (nI (past 8)) (nI (past 9)), eX0 (ad 2) (nI (past 10)) (nI (past 11)) (nI (past 12)) (nI (past 13)) (nI (past 14)), eX0 (ad 3) (nI (past 15)) (nI (past 16)) (nI (past 17)) (nI (past 18)) (nI (past 19)), eX0 (ad 4) (nI (past 20)) (nI (past 21)) (nI (past 22)) (nI (past 23)) (nI (past 24)), eX0 (ad 5) (nI (past 25)) (nI (past 26)) (nI (past 27)) (nI (past 28)) (nI (past 29)), eX0 (ad 6) (nI (past 30)) (nI (past 31)) (nI (past 32)) (nI (past 33)) (nI (past 34)), eX0 (ad 7) (nI (past 35)) (nI (past 36)) (nI (past 37)) (nI (past 38)) (nI (past 39)), eX1 hK hKA (nI kp), eQ t hKA 2 (fun j => some (ke j)), eX0 (ke 0) (nI (img 0)) (nI (img 1)) (nI (img 2)) (nI (img 3)) (nI (img 4)), eX0 (ke 1) (nI (img 5)) (nI (img 6)) (nI (img 7)) (nI (img 8)) (nI (img 9)), eX3 hW hr hn ho g0 g1 g2 g3 g4 g5, eL t hr 33 f1, eL t hn 33 f2, eL t ho 11 f3, eI t hL 6 (nf sl), eI t hZ 6 (nf sr), eX5 mq mT (nI ty) mD mS (nI ev) mP (nI kn) mI (nI kp) mE (nI sg) at_ mH mX mR mO fs, eI t mT 200 (nf tx), eI t mD 6 dr, eI t mS 5 (nf s), eI t mP 40 (nf past), eI t mI 10 (nf img), eI t mE 6 (nf (fun j => 11 * sl j + sr j)), eL t mH 363 k1, eL t mX 363 k2, eL t mR 11 k3, eL t mO 22 k4]
/-- what a step leaves -/
def lwB (D : va_G) (t : zT) (k : zK) (b9 i : Nat) (h hT hN hU hA hK hW hL hZ hB hD hAA hKA ho : Nat) (ad ke : Nat → Nat) (mq mT mD mS mP mI mE mH mX mR mO : Nat) : Prop := ∀ (ty ev kn kp sg : Nat) (tx s past img sl sr : Nat → Nat) (pl fi se tev a0 a1 a2 a3 a4 b0 b1 b2 b3 b4 g0 g1 g2 g3 at_ : Int32) (g4 g5 fs : Int64) (hr hn : Nat) (f1 f2 f3 k1 k2 k3 k4 : Nat → Int64) (dr : Nat → Int32), lInv ty ev kn kp sg tx s past img sl sr → Z D k (37, 1437) (LW t h hT hN hU hA hK hW hL hZ hB hD hAA hKA ho ad ke mq mT mD mS mP mI mE mH mX mR mO ty ev kn kp sg tx s past img sl sr pl fi se tev a0 a1 a2 a3 a4 b0 b1 b2 b3 b4 g0 g1 g2 g3 at_ g4 g5 fs hr hn f1 f2 f3 k1 k2 k3 k4 dr) 925 [(3, .int (nI i)), (2, .ref mq), (1, .ref h), (0, .ref b9)] []
