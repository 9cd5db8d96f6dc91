/-! THE LAYER: Z D k cs ws pc lv st: the machine stands at pc with locals lv, stack st, world ws, and comes to k's end. -/
abbrev zT : Type := ClassId × ClassId × ClassId × ClassId
/-- classes, array classes and nest words at a state -/
def KK (D : va_G) (t : zT) (U : State) : Prop :=
  va_K D vwCl [(t.1, .int), (t.2.1, .long), (t.2.2.1, .char), (t.2.2.2, .object "EitherPocket$Coat")] U ∧ (∀ w ∈ tables_1, isN w = true → va_Nw w U) ∧ va_AO "EitherPocket$Coat" U
theorem isN_spec {w : Cond} (h : isN w = true) : ∃ a i x hh, w = .methodLinkNest a i x hh := by
  cases w <;> first | exact ⟨_, _, _, _, rfl⟩ | (simp [isN] at h)
theorem KK.warm {D : va_G} {t : zT} {s U : State} (hW : s.WarmedH U.vm) (h : KK D t s) : KK D t U :=
  ⟨va_K.moved hW.alike h.1, fun w hw hn => by
    obtain ⟨a, i, x, hh, rfl⟩ := isN_spec hn
    exact va_Nw.warmM hW (h.2.1 _ hw hn), va_AO.moved hW.alike h.2.2⟩
theorem KK.calling {D : va_G} {t : zT} {U : State} {g : JFrame} {mk : MethodId} {a : Array Value} (h : KK D t U) : KK D t (U.calling g mk a) :=
  ⟨va_K.moved (u := U) (U := U.calling g mk a) (Vm.Alike.refl U.vm) h.1, fun w hw hn => by
    obtain ⟨a, i, x, hh, rfl⟩ := isN_spec hn
    exact va_Nw.same rfl (rfl : U.vm = (U.calling g mk _).vm) (h.2.1 _ hw hn), va_AO.moved (u := U) (U := U.calling g mk a) (Vm.Alike.refl U.vm) h.2.2⟩
/-- what stays fixed in a walk: p l e R s m args below meth c nL A Q -/
abbrev zK : Type := Program × Launch × Env × Room × State × MethodId × Array Value × List Frame × Method × Code × Nat × (Nat → Prop) × (State → Prop)
def Z (D : va_G) (k : zK) (cs : Nat × Nat) (ws : va_W) (pc : Nat) (lv : List (Nat × Value)) (st : List Value) : Prop :=
  match k with
  | (p, l, e, R, s, m, args, below, meth, c, nL, A, Q) => ∀ (H : Heap) (locs : List Loc) (ls : Array Slot), va_P D vwCl ws H → va_D A ws → va_S A s.heap H locs → lv_has ls nL lv → W p l e R s m args below meth c H locs cs.1 cs.2 Q (F0 m pc ls st)
def zX (D : va_G) (t : zT) (k : zK) (b : ByteArray) (n : Nat) (own nm : String) (rm : Room) (l0 : Launch) : Prop :=
  match k with
  | (p, l, _, R, s, m, args, _, meth, c, nL, A, _) => p.tables.exec = Jvm.exec ∧ c.code = b ∧ c.maxLocals = n ∧ nL = n ∧ s.vm.findClass own = some m.cls ∧ (∀ w ∈ TB, w.before args s = true) ∧ KK D t s ∧ (∀ q : Nat, s.heap.size ≤ q → A q) ∧ meth.name = nm ∧ R = rm ∧ l = l0
section ZL
variable {D : va_G} {t : zT} {k : zK} {b : ByteArray} {n : Nat} {own nm : String} {rm : Room} {l0 : Launch} {cs : Nat × Nat} {ws : va_W} {pc : Nat} {lv : List (Nat × Value)} {st : List Value}

theorem z_iconst (X : zX D t k b n own nm rm l0) {i : Int} (v : Int32)  (hd : decode b pc = .ok (.iconst i, 1)) (hv : Int32.ofInt i = v) (kk : Z D k cs ws (pc + 1) lv (.int v :: st)) : Z D k cs ws pc lv (st) := by
  obtain ⟨p, l, e, R, s, m, args, below, meth, c, nL, A, Q⟩ := k
  obtain ⟨hx, hb, hml, hnl, hown, hts, hK, hA, hnm, hR, hl0⟩ := X
  intro H locs ls hP hD hS hl
  exact lv_iconst hx hb hd hv (kk H locs ls hP hD hS hl)
theorem z_bipush (X : zX D t k b n own nm rm l0) {i : Int} (v : Int32)  (hd : decode b pc = .ok (.bipush i, 2)) (hv : (Int8.ofInt i).toInt32 = v) (kk : Z D k cs ws (pc + 2) lv (.int v :: st)) : Z D k cs ws pc lv (st) := by
  obtain ⟨p, l, e, R, s, m, args, below, meth, c, nL, A, Q⟩ := k
  obtain ⟨hx, hb, hml, hnl, hown, hts, hK, hA, hnm, hR, hl0⟩ := X
  intro H locs ls hP hD hS hl
  exact lv_bipush hx hb hd hv (kk H locs ls hP hD hS hl)
theorem z_sipush (X : zX D t k b n own nm rm l0) {i : Int} (v : Int32)  (hd : decode b pc = .ok (.sipush i, 3)) (hv : (Int16.ofInt i).toInt32 = v) (kk : Z D k cs ws (pc + 3) lv (.int v :: st)) : Z D k cs ws pc lv (st) := by
  obtain ⟨p, l, e, R, s, m, args, below, meth, c, nL, A, Q⟩ := k
  obtain ⟨hx, hb, hml, hnl, hown, hts, hK, hA, hnm, hR, hl0⟩ := X
  intro H locs ls hP hD hS hl
  exact lv_sipush hx hb hd hv (kk H locs ls hP hD hS hl)
theorem z_lconst (X : zX D t k b n own nm rm l0) {i : Fin 2} (v : Int64)  (hd : decode b pc = .ok (.lconst i, 1)) (hv : Int64.ofNat (i : Nat) = v) (kk : Z D k cs ws (pc + 1) lv (.long v :: st)) : Z D k cs ws pc lv (st) := by
  obtain ⟨p, l, e, R, s, m, args, below, meth, c, nL, A, Q⟩ := k
  obtain ⟨hx, hb, hml, hnl, hown, hts, hK, hA, hnm, hR, hl0⟩ := X
  intro H locs ls hP hD hS hl
  exact lv_lconst hx hb hd hv (kk H locs ls hP hD hS hl)
theorem z_ldc2 (X : zX D t k b n own nm rm l0) {i : Nat} (v : Int64)  (hd : decode b pc = .ok (.ldc2_w i, 3)) (hw : Cond.constantLong own i v ∈ TB) (kk : Z D k cs ws (pc + 3) lv (.long v :: st)) : Z D k cs ws pc lv (st) := by
  obtain ⟨p, l, e, R, s, m, args, below, meth, c, nL, A, Q⟩ := k
  obtain ⟨hx, hb, hml, hnl, hown, hts, hK, hA, hnm, hR, hl0⟩ := X
  intro H locs ls hP hD hS hl
  exact lv_ldc2 hx hb hown (hts _ hw) hd (kk H locs ls hP hD hS hl)
theorem z_iload_n (X : zX D t k b n own nm rm l0) {i : Fin 4} (q : Nat) {x : Int32}  (hd : decode b pc = .ok (.iload_n i, 1)) (hq : lv[q]? = some ((i : Nat), .int x)) (kk : Z D k cs ws (pc + 1) lv (.int x :: st)) : Z D k cs ws pc lv (st) := by
  obtain ⟨p, l, e, R, s, m, args, below, meth, c, nL, A, Q⟩ := k
  obtain ⟨hx, hb, hml, hnl, hown, hts, hK, hA, hnm, hR, hl0⟩ := X
  intro H locs ls hP hD hS hl
  exact lv_iload_n hx hb hd rfl (lv_at hl q hq) (kk H locs ls hP hD hS hl)
theorem z_iload (X : zX D t k b n own nm rm l0) {i : Nat} (q : Nat) {x : Int32}  (hd : decode b pc = .ok (.iload i, 2)) (hq : lv[q]? = some (i, .int x)) (kk : Z D k cs ws (pc + 2) lv (.int x :: st)) : Z D k cs ws pc lv (st) := by
  obtain ⟨p, l, e, R, s, m, args, below, meth, c, nL, A, Q⟩ := k
  obtain ⟨hx, hb, hml, hnl, hown, hts, hK, hA, hnm, hR, hl0⟩ := X
  intro H locs ls hP hD hS hl
  exact lv_iload hx hb hd (lv_at hl q hq) (kk H locs ls hP hD hS hl)
theorem z_istore_n (X : zX D t k b n own nm rm l0) {i : Nat} {j : Fin 4} {x : Int32} (lv2 : List (Nat × Value)) (hd : decode b pc = .ok (.istore_n j, 1)) (hj : (j : Nat) = i) (hn : i < n) (hq : (i, Value.int x) :: lv.filter (fun q => !(q.1 == i) && !(q.1 + 1 == i && q.2.category == 2)) = lv2) (kk : Z D k cs ws (pc + 1) lv2 st) : Z D k cs ws pc lv (.int x :: st) := by
  obtain ⟨p, l, e, R, s, m, args, below, meth, c, nL, A, Q⟩ := k
  obtain ⟨hx, hb, hml, hnl, hown, hts, hK, hA, hnm, hR, hl0⟩ := X
  intro H locs ls hP hD hS hl
  subst hnl
  exact lv_istore_n hx hb hd hj hl hn hq (fun ls2 hl2 => kk H locs ls2 hP hD hS hl2)
theorem z_istore (X : zX D t k b n own nm rm l0) {i : Nat} {x : Int32} (lv2 : List (Nat × Value)) (hd : decode b pc = .ok (.istore i, 2)) (hj : True) (hn : i < n) (hq : (i, Value.int x) :: lv.filter (fun q => !(q.1 == i) && !(q.1 + 1 == i && q.2.category == 2)) = lv2) (kk : Z D k cs ws (pc + 2) lv2 st) : Z D k cs ws pc lv (.int x :: st) := by
  obtain ⟨p, l, e, R, s, m, args, below, meth, c, nL, A, Q⟩ := k
  obtain ⟨hx, hb, hml, hnl, hown, hts, hK, hA, hnm, hR, hl0⟩ := X
  intro H locs ls hP hD hS hl
  subst hnl
  exact lv_istore hx hb hd hl hn hq (fun ls2 hl2 => kk H locs ls2 hP hD hS hl2)
theorem z_lload_n (X : zX D t k b n own nm rm l0) {i : Fin 4} (q : Nat) {x : Int64}  (hd : decode b pc = .ok (.lload_n i, 1)) (hq : lv[q]? = some ((i : Nat), .long x)) (kk : Z D k cs ws (pc + 1) lv (.long x :: st)) : Z D k cs ws pc lv (st) := by
  obtain ⟨p, l, e, R, s, m, args, below, meth, c, nL, A, Q⟩ := k
  obtain ⟨hx, hb, hml, hnl, hown, hts, hK, hA, hnm, hR, hl0⟩ := X
  intro H locs ls hP hD hS hl
  exact lv_lload_n hx hb hd rfl (lv_at hl q hq) (kk H locs ls hP hD hS hl)
theorem z_lload (X : zX D t k b n own nm rm l0) {i : Nat} (q : Nat) {x : Int64}  (hd : decode b pc = .ok (.lload i, 2)) (hq : lv[q]? = some (i, .long x)) (kk : Z D k cs ws (pc + 2) lv (.long x :: st)) : Z D k cs ws pc lv (st) := by
  obtain ⟨p, l, e, R, s, m, args, below, meth, c, nL, A, Q⟩ := k
  obtain ⟨hx, hb, hml, hnl, hown, hts, hK, hA, hnm, hR, hl0⟩ := X
  intro H locs ls hP hD hS hl
  exact lv_lload hx hb hd (lv_at hl q hq) (kk H locs ls hP hD hS hl)
theorem z_lstore_n (X : zX D t k b n own nm rm l0) {i : Nat} {j : Fin 4} {x : Int64} (lv2 : List (Nat × Value)) (hd : decode b pc = .ok (.lstore_n j, 1)) (hj : (j : Nat) = i) (hn : i + 1 < n) (hq : (i, Value.long x) :: lv.filter (fun q => !(q.1 == i) && (!(q.1 == i + 1) && !(q.1 + 1 == i && q.2.category == 2))) = lv2) (kk : Z D k cs ws (pc + 1) lv2 st) : Z D k cs ws pc lv (.long x :: st) := by
  obtain ⟨p, l, e, R, s, m, args, below, meth, c, nL, A, Q⟩ := k
  obtain ⟨hx, hb, hml, hnl, hown, hts, hK, hA, hnm, hR, hl0⟩ := X
  intro H locs ls hP hD hS hl
  subst hnl
  exact lv_lstore_n hx hb hd hj hl hn hq (fun ls2 hl2 => kk H locs ls2 hP hD hS hl2)
theorem z_lstore (X : zX D t k b n own nm rm l0) {i : Nat} {x : Int64} (lv2 : List (Nat × Value)) (hd : decode b pc = .ok (.lstore i, 2)) (hj : True) (hn : i + 1 < n) (hq : (i, Value.long x) :: lv.filter (fun q => !(q.1 == i) && (!(q.1 == i + 1) && !(q.1 + 1 == i && q.2.category == 2))) = lv2) (kk : Z D k cs ws (pc + 2) lv2 st) : Z D k cs ws pc lv (.long x :: st) := by
  obtain ⟨p, l, e, R, s, m, args, below, meth, c, nL, A, Q⟩ := k
  obtain ⟨hx, hb, hml, hnl, hown, hts, hK, hA, hnm, hR, hl0⟩ := X
  intro H locs ls hP hD hS hl
  subst hnl
  exact lv_lstore hx hb hd hl hn hq (fun ls2 hl2 => kk H locs ls2 hP hD hS hl2)
theorem z_aload_n (X : zX D t k b n own nm rm l0) {i : Fin 4} (q : Nat) {x : Nat}  (hd : decode b pc = .ok (.aload_n i, 1)) (hq : lv[q]? = some ((i : Nat), .ref x)) (kk : Z D k cs ws (pc + 1) lv (.ref x :: st)) : Z D k cs ws pc lv (st) := by
  obtain ⟨p, l, e, R, s, m, args, below, meth, c, nL, A, Q⟩ := k
  obtain ⟨hx, hb, hml, hnl, hown, hts, hK, hA, hnm, hR, hl0⟩ := X
  intro H locs ls hP hD hS hl
  exact lv_aload_n hx hb hd rfl (lv_at hl q hq) (kk H locs ls hP hD hS hl)
theorem z_aload (X : zX D t k b n own nm rm l0) {i : Nat} (q : Nat) {x : Nat}  (hd : decode b pc = .ok (.aload i, 2)) (hq : lv[q]? = some (i, .ref x)) (kk : Z D k cs ws (pc + 2) lv (.ref x :: st)) : Z D k cs ws pc lv (st) := by
  obtain ⟨p, l, e, R, s, m, args, below, meth, c, nL, A, Q⟩ := k
  obtain ⟨hx, hb, hml, hnl, hown, hts, hK, hA, hnm, hR, hl0⟩ := X
  intro H locs ls hP hD hS hl
  exact lv_aload hx hb hd (lv_at hl q hq) (kk H locs ls hP hD hS hl)
theorem z_astore_n (X : zX D t k b n own nm rm l0) {i : Nat} {j : Fin 4} {x : Nat} (lv2 : List (Nat × Value)) (hd : decode b pc = .ok (.astore_n j, 1)) (hj : (j : Nat) = i) (hn : i < n) (hq : (i, Value.ref x) :: lv.filter (fun q => !(q.1 == i) && !(q.1 + 1 == i && q.2.category == 2)) = lv2) (kk : Z D k cs ws (pc + 1) lv2 st) : Z D k cs ws pc lv (.ref x :: st) := by
  obtain ⟨p, l, e, R, s, m, args, below, meth, c, nL, A, Q⟩ := k
  obtain ⟨hx, hb, hml, hnl, hown, hts, hK, hA, hnm, hR, hl0⟩ := X
  intro H locs ls hP hD hS hl
  subst hnl
  exact lv_astore_n hx hb hd hj hl hn hq (fun ls2 hl2 => kk H locs ls2 hP hD hS hl2)
theorem z_astore (X : zX D t k b n own nm rm l0) {i : Nat} {x : Nat} (lv2 : List (Nat × Value)) (hd : decode b pc = .ok (.astore i, 2)) (hj : True) (hn : i < n) (hq : (i, Value.ref x) :: lv.filter (fun q => !(q.1 == i) && !(q.1 + 1 == i && q.2.category == 2)) = lv2) (kk : Z D k cs ws (pc + 2) lv2 st) : Z D k cs ws pc lv (.ref x :: st) := by
  obtain ⟨p, l, e, R, s, m, args, below, meth, c, nL, A, Q⟩ := k
  obtain ⟨hx, hb, hml, hnl, hown, hts, hK, hA, hnm, hR, hl0⟩ := X
  intro H locs ls hP hD hS hl
  subst hnl
  exact lv_astore hx hb hd hl hn hq (fun ls2 hl2 => kk H locs ls2 hP hD hS hl2)
theorem z_iinc (X : zX D t k b n own nm rm l0) {i : Nat} {j : Int} (q : Nat) {x : Int32} (v : Int32) (lv2 : List (Nat × Value)) (hd : decode b pc = .ok (.iinc i j, 3)) (hq : lv[q]? = some (i, .int x)) (hv : x + Int32.ofInt j = v) (hn : i < n) (hq2 : (i, Value.int v) :: lv.filter (fun q => !(q.1 == i) && !(q.1 + 1 == i && q.2.category == 2)) = lv2) (kk : Z D k cs ws (pc + 3) lv2 st) : Z D k cs ws pc lv st := by
  obtain ⟨p, l, e, R, s, m, args, below, meth, c, nL, A, Q⟩ := k
  obtain ⟨hx, hb, hml, hnl, hown, hts, hK, hA, hnm, hR, hl0⟩ := X
  intro H locs ls hP hD hS hl
  subst hnl
  exact lv_iinc hx hb hd hl hq hv hn hq2 (fun ls2 hl2 => kk H locs ls2 hP hD hS hl2)
theorem z_iadd (X : zX D t k b n own nm rm l0) {x y v : Int32}  (hd : decode b pc = .ok (.iadd, 1)) (hv : x + y = v) (kk : Z D k cs ws (pc + 1) lv (.int v :: st)) : Z D k cs ws pc lv (.int y :: .int x :: st) := by
  obtain ⟨p, l, e, R, s, m, args, below, meth, c, nL, A, Q⟩ := k
  obtain ⟨hx, hb, hml, hnl, hown, hts, hK, hA, hnm, hR, hl0⟩ := X
  intro H locs ls hP hD hS hl
  exact lv_iadd hx hb hd (by rw [hv]; exact kk H locs ls hP hD hS hl)
theorem z_isub (X : zX D t k b n own nm rm l0) {x y v : Int32}  (hd : decode b pc = .ok (.isub, 1)) (hv : x - y = v) (kk : Z D k cs ws (pc + 1) lv (.int v :: st)) : Z D k cs ws pc lv (.int y :: .int x :: st) := by
  obtain ⟨p, l, e, R, s, m, args, below, meth, c, nL, A, Q⟩ := k
  obtain ⟨hx, hb, hml, hnl, hown, hts, hK, hA, hnm, hR, hl0⟩ := X
  intro H locs ls hP hD hS hl
  exact lv_isub hx hb hd (by rw [hv]; exact kk H locs ls hP hD hS hl)
theorem z_imul (X : zX D t k b n own nm rm l0) {x y v : Int32}  (hd : decode b pc = .ok (.imul, 1)) (hv : x * y = v) (kk : Z D k cs ws (pc + 1) lv (.int v :: st)) : Z D k cs ws pc lv (.int y :: .int x :: st) := by
  obtain ⟨p, l, e, R, s, m, args, below, meth, c, nL, A, Q⟩ := k
  obtain ⟨hx, hb, hml, hnl, hown, hts, hK, hA, hnm, hR, hl0⟩ := X
  intro H locs ls hP hD hS hl
  exact lv_imul hx hb hd (by rw [hv]; exact kk H locs ls hP hD hS hl)
theorem z_iand (X : zX D t k b n own nm rm l0) {x y v : Int32}  (hd : decode b pc = .ok (.iand, 1)) (hv : x &&& y = v) (kk : Z D k cs ws (pc + 1) lv (.int v :: st)) : Z D k cs ws pc lv (.int y :: .int x :: st) := by
  obtain ⟨p, l, e, R, s, m, args, below, meth, c, nL, A, Q⟩ := k
  obtain ⟨hx, hb, hml, hnl, hown, hts, hK, hA, hnm, hR, hl0⟩ := X
  intro H locs ls hP hD hS hl
  exact lv_iand hx hb hd (by rw [hv]; exact kk H locs ls hP hD hS hl)
theorem z_ior (X : zX D t k b n own nm rm l0) {x y v : Int32}  (hd : decode b pc = .ok (.ior, 1)) (hv : x ||| y = v) (kk : Z D k cs ws (pc + 1) lv (.int v :: st)) : Z D k cs ws pc lv (.int y :: .int x :: st) := by
  obtain ⟨p, l, e, R, s, m, args, below, meth, c, nL, A, Q⟩ := k
  obtain ⟨hx, hb, hml, hnl, hown, hts, hK, hA, hnm, hR, hl0⟩ := X
  intro H locs ls hP hD hS hl
  exact lv_ior hx hb hd (by rw [hv]; exact kk H locs ls hP hD hS hl)
theorem z_ishl (X : zX D t k b n own nm rm l0) {x y v : Int32}  (hd : decode b pc = .ok (.ishl, 1)) (hv : x <<< (y &&& 31) = v) (kk : Z D k cs ws (pc + 1) lv (.int v :: st)) : Z D k cs ws pc lv (.int y :: .int x :: st) := by
  obtain ⟨p, l, e, R, s, m, args, below, meth, c, nL, A, Q⟩ := k
  obtain ⟨hx, hb, hml, hnl, hown, hts, hK, hA, hnm, hR, hl0⟩ := X
  intro H locs ls hP hD hS hl
  exact lv_ishl hx hb hd (by rw [hv]; exact kk H locs ls hP hD hS hl)
theorem z_ineg (X : zX D t k b n own nm rm l0) {x v : Int32}  (hd : decode b pc = .ok (.ineg, 1)) (hv : -x = v) (kk : Z D k cs ws (pc + 1) lv (.int v :: st)) : Z D k cs ws pc lv (.int x :: st) := by
  obtain ⟨p, l, e, R, s, m, args, below, meth, c, nL, A, Q⟩ := k
  obtain ⟨hx, hb, hml, hnl, hown, hts, hK, hA, hnm, hR, hl0⟩ := X
  intro H locs ls hP hD hS hl
  exact lv_ineg hx hb hd (by rw [hv]; exact kk H locs ls hP hD hS hl)
theorem z_idiv (X : zX D t k b n own nm rm l0) {x y v : Int32}  (hd : decode b pc = .ok (.idiv, 1)) (hne : ¬ y = 0) (hv : x / y = v) (kk : Z D k cs ws (pc + 1) lv (.int v :: st)) : Z D k cs ws pc lv (.int y :: .int x :: st) := by
  obtain ⟨p, l, e, R, s, m, args, below, meth, c, nL, A, Q⟩ := k
  obtain ⟨hx, hb, hml, hnl, hown, hts, hK, hA, hnm, hR, hl0⟩ := X
  intro H locs ls hP hD hS hl
  exact lv_idiv hx hb hd hne (by rw [hv]; exact kk H locs ls hP hD hS hl)
theorem z_irem (X : zX D t k b n own nm rm l0) {x y v : Int32}  (hd : decode b pc = .ok (.irem, 1)) (hne : ¬ y = 0) (hv : x - x / y * y = v) (kk : Z D k cs ws (pc + 1) lv (.int v :: st)) : Z D k cs ws pc lv (.int y :: .int x :: st) := by
  obtain ⟨p, l, e, R, s, m, args, below, meth, c, nL, A, Q⟩ := k
  obtain ⟨hx, hb, hml, hnl, hown, hts, hK, hA, hnm, hR, hl0⟩ := X
  intro H locs ls hP hD hS hl
  exact lv_irem hx hb hd hne (by rw [hv]; exact kk H locs ls hP hD hS hl)
theorem z_ladd (X : zX D t k b n own nm rm l0) {x y v : Int64}  (hd : decode b pc = .ok (.ladd, 1)) (hv : x + y = v) (kk : Z D k cs ws (pc + 1) lv (.long v :: st)) : Z D k cs ws pc lv (.long y :: .long x :: st) := by
  obtain ⟨p, l, e, R, s, m, args, below, meth, c, nL, A, Q⟩ := k
  obtain ⟨hx, hb, hml, hnl, hown, hts, hK, hA, hnm, hR, hl0⟩ := X
  intro H locs ls hP hD hS hl
  exact lv_ladd hx hb hd (by rw [hv]; exact kk H locs ls hP hD hS hl)
theorem z_lsub (X : zX D t k b n own nm rm l0) {x y v : Int64}  (hd : decode b pc = .ok (.lsub, 1)) (hv : x - y = v) (kk : Z D k cs ws (pc + 1) lv (.long v :: st)) : Z D k cs ws pc lv (.long y :: .long x :: st) := by
  obtain ⟨p, l, e, R, s, m, args, below, meth, c, nL, A, Q⟩ := k
  obtain ⟨hx, hb, hml, hnl, hown, hts, hK, hA, hnm, hR, hl0⟩ := X
  intro H locs ls hP hD hS hl
  exact lv_lsub hx hb hd (by rw [hv]; exact kk H locs ls hP hD hS hl)
theorem z_lmul (X : zX D t k b n own nm rm l0) {x y v : Int64}  (hd : decode b pc = .ok (.lmul, 1)) (hv : x * y = v) (kk : Z D k cs ws (pc + 1) lv (.long v :: st)) : Z D k cs ws pc lv (.long y :: .long x :: st) := by
  obtain ⟨p, l, e, R, s, m, args, below, meth, c, nL, A, Q⟩ := k
  obtain ⟨hx, hb, hml, hnl, hown, hts, hK, hA, hnm, hR, hl0⟩ := X
  intro H locs ls hP hD hS hl
  exact lv_lmul hx hb hd (by rw [hv]; exact kk H locs ls hP hD hS hl)
theorem z_ldiv (X : zX D t k b n own nm rm l0) {x y v : Int64}  (hd : decode b pc = .ok (.ldiv, 1)) (hne : ¬ y = 0) (hv : x / y = v) (kk : Z D k cs ws (pc + 1) lv (.long v :: st)) : Z D k cs ws pc lv (.long y :: .long x :: st) := by
  obtain ⟨p, l, e, R, s, m, args, below, meth, c, nL, A, Q⟩ := k
  obtain ⟨hx, hb, hml, hnl, hown, hts, hK, hA, hnm, hR, hl0⟩ := X
  intro H locs ls hP hD hS hl
  exact lv_ldiv hx hb hd hne (by rw [hv]; exact kk H locs ls hP hD hS hl)
theorem z_lrem (X : zX D t k b n own nm rm l0) {x y v : Int64}  (hd : decode b pc = .ok (.lrem, 1)) (hne : ¬ y = 0) (hv : x - x / y * y = v) (kk : Z D k cs ws (pc + 1) lv (.long v :: st)) : Z D k cs ws pc lv (.long y :: .long x :: st) := by
  obtain ⟨p, l, e, R, s, m, args, below, meth, c, nL, A, Q⟩ := k
  obtain ⟨hx, hb, hml, hnl, hown, hts, hK, hA, hnm, hR, hl0⟩ := X
  intro H locs ls hP hD hS hl
  exact lv_lrem hx hb hd hne (by rw [hv]; exact kk H locs ls hP hD hS hl)
theorem z_i2l (X : zX D t k b n own nm rm l0) {x : Int32} {v : Int64}  (hd : decode b pc = .ok (.i2l, 1)) (hv : x.toInt64 = v) (kk : Z D k cs ws (pc + 1) lv (.long v :: st)) : Z D k cs ws pc lv (.int x :: st) := by
  obtain ⟨p, l, e, R, s, m, args, below, meth, c, nL, A, Q⟩ := k
  obtain ⟨hx, hb, hml, hnl, hown, hts, hK, hA, hnm, hR, hl0⟩ := X
  intro H locs ls hP hD hS hl
  exact lv_i2l hx hb hd hv (kk H locs ls hP hD hS hl)
theorem z_l2i (X : zX D t k b n own nm rm l0) {x : Int64} {v : Int32}  (hd : decode b pc = .ok (.l2i, 1)) (hv : x.toInt32 = v) (kk : Z D k cs ws (pc + 1) lv (.int v :: st)) : Z D k cs ws pc lv (.long x :: st) := by
  obtain ⟨p, l, e, R, s, m, args, below, meth, c, nL, A, Q⟩ := k
  obtain ⟨hx, hb, hml, hnl, hown, hts, hK, hA, hnm, hR, hl0⟩ := X
  intro H locs ls hP hD hS hl
  exact lv_l2i hx hb hd hv (kk H locs ls hP hD hS hl)
theorem z_i2c (X : zX D t k b n own nm rm l0) {x v : Int32}  (hd : decode b pc = .ok (.i2c, 1)) (hv : (x.toUInt32 % 65536).toInt32 = v) (kk : Z D k cs ws (pc + 1) lv (.int v :: st)) : Z D k cs ws pc lv (.int x :: st) := by
  obtain ⟨p, l, e, R, s, m, args, below, meth, c, nL, A, Q⟩ := k
  obtain ⟨hx, hb, hml, hnl, hown, hts, hK, hA, hnm, hR, hl0⟩ := X
  intro H locs ls hP hD hS hl
  exact lv_i2c hx hb hd hv (kk H locs ls hP hD hS hl)
theorem z_dup (X : zX D t k b n own nm rm l0) {va : Value}  (hd : decode b pc = .ok (.dup, 1)) (h1 : va.category = 1) (kk : Z D k cs ws (pc + 1) lv (va :: va :: st)) : Z D k cs ws pc lv (va :: st) := by
  obtain ⟨p, l, e, R, s, m, args, below, meth, c, nL, A, Q⟩ := k
  obtain ⟨hx, hb, hml, hnl, hown, hts, hK, hA, hnm, hR, hl0⟩ := X
  intro H locs ls hP hD hS hl
  exact lv_dup hx hb hd h1 (kk H locs ls hP hD hS hl)
theorem z_pop (X : zX D t k b n own nm rm l0) {va : Value}  (hd : decode b pc = .ok (.pop, 1)) (h1 : va.category = 1) (kk : Z D k cs ws (pc + 1) lv (st)) : Z D k cs ws pc lv (va :: st) := by
  obtain ⟨p, l, e, R, s, m, args, below, meth, c, nL, A, Q⟩ := k
  obtain ⟨hx, hb, hml, hnl, hown, hts, hK, hA, hnm, hR, hl0⟩ := X
  intro H locs ls hP hD hS hl
  exact lv_pop hx hb hd h1 (kk H locs ls hP hD hS hl)
theorem z_pop2 (X : zX D t k b n own nm rm l0) {va : Value}  (hd : decode b pc = .ok (.pop2, 1)) (h1 : va.category = 2) (kk : Z D k cs ws (pc + 1) lv (st)) : Z D k cs ws pc lv (va :: st) := by
  obtain ⟨p, l, e, R, s, m, args, below, meth, c, nL, A, Q⟩ := k
  obtain ⟨hx, hb, hml, hnl, hown, hts, hK, hA, hnm, hR, hl0⟩ := X
  intro H locs ls hP hD hS hl
  exact lv_pop2_2 hx hb hd h1 (kk H locs ls hP hD hS hl)
theorem z_dup_x1 (X : zX D t k b n own nm rm l0) {va vb : Value}  (hd : decode b pc = .ok (.dup_x1, 1)) (h1 : va.category = 1) (h2 : vb.category = 1) (kk : Z D k cs ws (pc + 1) lv (va :: vb :: va :: st)) : Z D k cs ws pc lv (va :: vb :: st) := by
  obtain ⟨p, l, e, R, s, m, args, below, meth, c, nL, A, Q⟩ := k
  obtain ⟨hx, hb, hml, hnl, hown, hts, hK, hA, hnm, hR, hl0⟩ := X
  intro H locs ls hP hD hS hl
  exact lv_dup_x1 hx hb hd h1 h2 (kk H locs ls hP hD hS hl)
theorem z_dup_x2 (X : zX D t k b n own nm rm l0) {va vb vd : Value}  (hd : decode b pc = .ok (.dup_x2, 1)) (h1 : va.category = 1) (h2 : vb.category = 1) (h3 : vd.category = 1) (kk : Z D k cs ws (pc + 1) lv (va :: vb :: vd :: va :: st)) : Z D k cs ws pc lv (va :: vb :: vd :: st) := by
  obtain ⟨p, l, e, R, s, m, args, below, meth, c, nL, A, Q⟩ := k
  obtain ⟨hx, hb, hml, hnl, hown, hts, hK, hA, hnm, hR, hl0⟩ := X
  intro H locs ls hP hD hS hl
  exact lv_dup_x2 hx hb hd h1 h2 h3 (kk H locs ls hP hD hS hl)
theorem z_dup2_11 (X : zX D t k b n own nm rm l0) {va vb : Value}  (hd : decode b pc = .ok (.dup2, 1)) (h1 : va.category = 1) (h2 : vb.category = 1) (kk : Z D k cs ws (pc + 1) lv (va :: vb :: va :: vb :: st)) : Z D k cs ws pc lv (va :: vb :: st) := by
  obtain ⟨p, l, e, R, s, m, args, below, meth, c, nL, A, Q⟩ := k
  obtain ⟨hx, hb, hml, hnl, hown, hts, hK, hA, hnm, hR, hl0⟩ := X
  intro H locs ls hP hD hS hl
  exact lv_dup2_11 hx hb hd h1 h2 (kk H locs ls hP hD hS hl)
theorem z_dup2_2 (X : zX D t k b n own nm rm l0) {va : Value}  (hd : decode b pc = .ok (.dup2, 1)) (h1 : va.category = 2) (kk : Z D k cs ws (pc + 1) lv (va :: va :: st)) : Z D k cs ws pc lv (va :: st) := by
  obtain ⟨p, l, e, R, s, m, args, below, meth, c, nL, A, Q⟩ := k
  obtain ⟨hx, hb, hml, hnl, hown, hts, hK, hA, hnm, hR, hl0⟩ := X
  intro H locs ls hP hD hS hl
  exact lv_dup2_2 hx hb hd h1 (kk H locs ls hP hD hS hl)
theorem z_dup2_x1 (X : zX D t k b n own nm rm l0) {va vb : Value}  (hd : decode b pc = .ok (.dup2_x1, 1)) (h1 : va.category = 2) (h2 : vb.category = 1) (kk : Z D k cs ws (pc + 1) lv (va :: vb :: va :: st)) : Z D k cs ws pc lv (va :: vb :: st) := by
  obtain ⟨p, l, e, R, s, m, args, below, meth, c, nL, A, Q⟩ := k
  obtain ⟨hx, hb, hml, hnl, hown, hts, hK, hA, hnm, hR, hl0⟩ := X
  intro H locs ls hP hD hS hl
  exact lv_dup2_x1_2 hx hb hd h1 h2 (kk H locs ls hP hD hS hl)
theorem z_if_eq (X : zX D t k b n own nm rm l0) {x : Int32} {off : Int} (tgt : Nat) (hd : decode b pc = .ok (.ifCond .eq off, 3)) (ht : (pc : Int) + off = (tgt : Int)) (kt : x = 0 → Z D k cs ws tgt lv st) (kf : ¬ (x = 0) → Z D k cs ws (pc + 3) lv st) : Z D k cs ws pc lv (.int x :: st) := by
  obtain ⟨p, l, e, R, s, m, args, below, meth, c, nL, A, Q⟩ := k
  obtain ⟨hx, hb, hml, hnl, hown, hts, hK, hA, hnm, hR, hl0⟩ := X
  intro H locs ls hP hD hS hl
  exact lv_if_eq hx hb hd ht (fun h => kt h H locs ls hP hD hS hl) (fun h => kf h H locs ls hP hD hS hl)
theorem z_icmp_eq (X : zX D t k b n own nm rm l0) {x y : Int32} {off : Int} (tgt : Nat) (hd : decode b pc = .ok (.if_icmp .eq off, 3)) (ht : (pc : Int) + off = (tgt : Int)) (kt : x = y → Z D k cs ws tgt lv st) (kf : ¬ (x = y) → Z D k cs ws (pc + 3) lv st) : Z D k cs ws pc lv (.int y :: .int x :: st) := by
  obtain ⟨p, l, e, R, s, m, args, below, meth, c, nL, A, Q⟩ := k
  obtain ⟨hx, hb, hml, hnl, hown, hts, hK, hA, hnm, hR, hl0⟩ := X
  intro H locs ls hP hD hS hl
  exact lv_icmp_eq hx hb hd ht (fun h => kt h H locs ls hP hD hS hl) (fun h => kf h H locs ls hP hD hS hl)
theorem z_if_ne (X : zX D t k b n own nm rm l0) {x : Int32} {off : Int} (tgt : Nat) (hd : decode b pc = .ok (.ifCond .ne off, 3)) (ht : (pc : Int) + off = (tgt : Int)) (kt : ¬ x = 0 → Z D k cs ws tgt lv st) (kf : x = 0 → Z D k cs ws (pc + 3) lv st) : Z D k cs ws pc lv (.int x :: st) := by
  obtain ⟨p, l, e, R, s, m, args, below, meth, c, nL, A, Q⟩ := k
  obtain ⟨hx, hb, hml, hnl, hown, hts, hK, hA, hnm, hR, hl0⟩ := X
  intro H locs ls hP hD hS hl
  exact lv_if_ne hx hb hd ht (fun h => kt h H locs ls hP hD hS hl) (fun h => kf h H locs ls hP hD hS hl)
theorem z_icmp_ne (X : zX D t k b n own nm rm l0) {x y : Int32} {off : Int} (tgt : Nat) (hd : decode b pc = .ok (.if_icmp .ne off, 3)) (ht : (pc : Int) + off = (tgt : Int)) (kt : ¬ x = y → Z D k cs ws tgt lv st) (kf : x = y → Z D k cs ws (pc + 3) lv st) : Z D k cs ws pc lv (.int y :: .int x :: st) := by
  obtain ⟨p, l, e, R, s, m, args, below, meth, c, nL, A, Q⟩ := k
  obtain ⟨hx, hb, hml, hnl, hown, hts, hK, hA, hnm, hR, hl0⟩ := X
  intro H locs ls hP hD hS hl
  exact lv_icmp_ne hx hb hd ht (fun h => kt h H locs ls hP hD hS hl) (fun h => kf h H locs ls hP hD hS hl)
theorem z_if_lt (X : zX D t k b n own nm rm l0) {x : Int32} {off : Int} (tgt : Nat) (hd : decode b pc = .ok (.ifCond .lt off, 3)) (ht : (pc : Int) + off = (tgt : Int)) (kt : x < 0 → Z D k cs ws tgt lv st) (kf : ¬ (x < 0) → Z D k cs ws (pc + 3) lv st) : Z D k cs ws pc lv (.int x :: st) := by
  obtain ⟨p, l, e, R, s, m, args, below, meth, c, nL, A, Q⟩ := k
  obtain ⟨hx, hb, hml, hnl, hown, hts, hK, hA, hnm, hR, hl0⟩ := X
  intro H locs ls hP hD hS hl
  exact lv_if_lt hx hb hd ht (fun h => kt h H locs ls hP hD hS hl) (fun h => kf h H locs ls hP hD hS hl)
theorem z_icmp_lt (X : zX D t k b n own nm rm l0) {x y : Int32} {off : Int} (tgt : Nat) (hd : decode b pc = .ok (.if_icmp .lt off, 3)) (ht : (pc : Int) + off = (tgt : Int)) (kt : x < y → Z D k cs ws tgt lv st) (kf : ¬ (x < y) → Z D k cs ws (pc + 3) lv st) : Z D k cs ws pc lv (.int y :: .int x :: st) := by
  obtain ⟨p, l, e, R, s, m, args, below, meth, c, nL, A, Q⟩ := k
  obtain ⟨hx, hb, hml, hnl, hown, hts, hK, hA, hnm, hR, hl0⟩ := X
  intro H locs ls hP hD hS hl
  exact lv_icmp_lt hx hb hd ht (fun h => kt h H locs ls hP hD hS hl) (fun h => kf h H locs ls hP hD hS hl)
theorem z_if_ge (X : zX D t k b n own nm rm l0) {x : Int32} {off : Int} (tgt : Nat) (hd : decode b pc = .ok (.ifCond .ge off, 3)) (ht : (pc : Int) + off = (tgt : Int)) (kt : 0 ≤ x → Z D k cs ws tgt lv st) (kf : ¬ (0 ≤ x) → Z D k cs ws (pc + 3) lv st) : Z D k cs ws pc lv (.int x :: st) := by
  obtain ⟨p, l, e, R, s, m, args, below, meth, c, nL, A, Q⟩ := k
  obtain ⟨hx, hb, hml, hnl, hown, hts, hK, hA, hnm, hR, hl0⟩ := X
  intro H locs ls hP hD hS hl
  exact lv_if_ge hx hb hd ht (fun h => kt h H locs ls hP hD hS hl) (fun h => kf h H locs ls hP hD hS hl)
theorem z_icmp_ge (X : zX D t k b n own nm rm l0) {x y : Int32} {off : Int} (tgt : Nat) (hd : decode b pc = .ok (.if_icmp .ge off, 3)) (ht : (pc : Int) + off = (tgt : Int)) (kt : y ≤ x → Z D k cs ws tgt lv st) (kf : ¬ (y ≤ x) → Z D k cs ws (pc + 3) lv st) : Z D k cs ws pc lv (.int y :: .int x :: st) := by
  obtain ⟨p, l, e, R, s, m, args, below, meth, c, nL, A, Q⟩ := k
  obtain ⟨hx, hb, hml, hnl, hown, hts, hK, hA, hnm, hR, hl0⟩ := X
  intro H locs ls hP hD hS hl
  exact lv_icmp_ge hx hb hd ht (fun h => kt h H locs ls hP hD hS hl) (fun h => kf h H locs ls hP hD hS hl)
theorem z_if_gt (X : zX D t k b n own nm rm l0) {x : Int32} {off : Int} (tgt : Nat) (hd : decode b pc = .ok (.ifCond .gt off, 3)) (ht : (pc : Int) + off = (tgt : Int)) (kt : 0 < x → Z D k cs ws tgt lv st) (kf : ¬ (0 < x) → Z D k cs ws (pc + 3) lv st) : Z D k cs ws pc lv (.int x :: st) := by
  obtain ⟨p, l, e, R, s, m, args, below, meth, c, nL, A, Q⟩ := k
  obtain ⟨hx, hb, hml, hnl, hown, hts, hK, hA, hnm, hR, hl0⟩ := X
  intro H locs ls hP hD hS hl
  exact lv_if_gt hx hb hd ht (fun h => kt h H locs ls hP hD hS hl) (fun h => kf h H locs ls hP hD hS hl)
theorem z_icmp_gt (X : zX D t k b n own nm rm l0) {x y : Int32} {off : Int} (tgt : Nat) (hd : decode b pc = .ok (.if_icmp .gt off, 3)) (ht : (pc : Int) + off = (tgt : Int)) (kt : y < x → Z D k cs ws tgt lv st) (kf : ¬ (y < x) → Z D k cs ws (pc + 3) lv st) : Z D k cs ws pc lv (.int y :: .int x :: st) := by
  obtain ⟨p, l, e, R, s, m, args, below, meth, c, nL, A, Q⟩ := k
  obtain ⟨hx, hb, hml, hnl, hown, hts, hK, hA, hnm, hR, hl0⟩ := X
  intro H locs ls hP hD hS hl
  exact lv_icmp_gt hx hb hd ht (fun h => kt h H locs ls hP hD hS hl) (fun h => kf h H locs ls hP hD hS hl)
theorem z_if_le (X : zX D t k b n own nm rm l0) {x : Int32} {off : Int} (tgt : Nat) (hd : decode b pc = .ok (.ifCond .le off, 3)) (ht : (pc : Int) + off = (tgt : Int)) (kt : x ≤ 0 → Z D k cs ws tgt lv st) (kf : ¬ (x ≤ 0) → Z D k cs ws (pc + 3) lv st) : Z D k cs ws pc lv (.int x :: st) := by
  obtain ⟨p, l, e, R, s, m, args, below, meth, c, nL, A, Q⟩ := k
  obtain ⟨hx, hb, hml, hnl, hown, hts, hK, hA, hnm, hR, hl0⟩ := X
  intro H locs ls hP hD hS hl
  exact lv_if_le hx hb hd ht (fun h => kt h H locs ls hP hD hS hl) (fun h => kf h H locs ls hP hD hS hl)
theorem z_icmp_le (X : zX D t k b n own nm rm l0) {x y : Int32} {off : Int} (tgt : Nat) (hd : decode b pc = .ok (.if_icmp .le off, 3)) (ht : (pc : Int) + off = (tgt : Int)) (kt : x ≤ y → Z D k cs ws tgt lv st) (kf : ¬ (x ≤ y) → Z D k cs ws (pc + 3) lv st) : Z D k cs ws pc lv (.int y :: .int x :: st) := by
  obtain ⟨p, l, e, R, s, m, args, below, meth, c, nL, A, Q⟩ := k
  obtain ⟨hx, hb, hml, hnl, hown, hts, hK, hA, hnm, hR, hl0⟩ := X
  intro H locs ls hP hD hS hl
  exact lv_icmp_le hx hb hd ht (fun h => kt h H locs ls hP hD hS hl) (fun h => kf h H locs ls hP hD hS hl)
theorem z_lcmp_le (X : zX D t k b n own nm rm l0) {x y : Int64} {off : Int} (tgt : Nat) (hd1 : decode b pc = .ok (.lcmp, 1)) (hd : decode b (pc + 1) = .ok (.ifCond .le off, 3)) (ht : ((pc + 1 : Nat) : Int) + off = (tgt : Int)) (kt : x ≤ y → Z D k cs ws tgt lv st) (kf : ¬ (x ≤ y) → Z D k cs ws (pc + 4) lv st) : Z D k cs ws pc lv (.long y :: .long x :: st) := by
  obtain ⟨p, l, e, R, s, m, args, below, meth, c, nL, A, Q⟩ := k
  obtain ⟨hx, hb, hml, hnl, hown, hts, hK, hA, hnm, hR, hl0⟩ := X
  intro H locs ls hP hD hS hl
  refine W.lcmp hx hb hd1 ?_
  exact lv_if_le hx hb hd ht (fun h => kt ((lg_cmp_le x y).mp h) H locs ls hP hD hS hl) (fun h => kf (fun z => h ((lg_cmp_le x y).mpr z)) H locs ls hP hD hS hl)
theorem z_lcmp_ge (X : zX D t k b n own nm rm l0) {x y : Int64} {off : Int} (tgt : Nat) (hd1 : decode b pc = .ok (.lcmp, 1)) (hd : decode b (pc + 1) = .ok (.ifCond .ge off, 3)) (ht : ((pc + 1 : Nat) : Int) + off = (tgt : Int)) (kt : y ≤ x → Z D k cs ws tgt lv st) (kf : ¬ (y ≤ x) → Z D k cs ws (pc + 4) lv st) : Z D k cs ws pc lv (.long y :: .long x :: st) := by
  obtain ⟨p, l, e, R, s, m, args, below, meth, c, nL, A, Q⟩ := k
  obtain ⟨hx, hb, hml, hnl, hown, hts, hK, hA, hnm, hR, hl0⟩ := X
  intro H locs ls hP hD hS hl
  refine W.lcmp hx hb hd1 ?_
  exact lv_if_ge hx hb hd ht (fun h => kt ((lg_cmp_ge x y).mp h) H locs ls hP hD hS hl) (fun h => kf (fun z => h ((lg_cmp_ge x y).mpr z)) H locs ls hP hD hS hl)
theorem z_lcmp_eq (X : zX D t k b n own nm rm l0) {x y : Int64} {off : Int} (tgt : Nat) (hd1 : decode b pc = .ok (.lcmp, 1)) (hd : decode b (pc + 1) = .ok (.ifCond .eq off, 3)) (ht : ((pc + 1 : Nat) : Int) + off = (tgt : Int)) (kt : x = y → Z D k cs ws tgt lv st) (kf : ¬ (x = y) → Z D k cs ws (pc + 4) lv st) : Z D k cs ws pc lv (.long y :: .long x :: st) := by
  obtain ⟨p, l, e, R, s, m, args, below, meth, c, nL, A, Q⟩ := k
  obtain ⟨hx, hb, hml, hnl, hown, hts, hK, hA, hnm, hR, hl0⟩ := X
  intro H locs ls hP hD hS hl
  refine W.lcmp hx hb hd1 ?_
  exact lv_if_eq hx hb hd ht (fun h => kt ((lg_cmp_eq x y).mp h) H locs ls hP hD hS hl) (fun h => kf (fun z => h ((lg_cmp_eq x y).mpr z)) H locs ls hP hD hS hl)
theorem z_lcmp_lt (X : zX D t k b n own nm rm l0) {x y : Int64} {off : Int} (tgt : Nat) (hd1 : decode b pc = .ok (.lcmp, 1)) (hd : decode b (pc + 1) = .ok (.ifCond .lt off, 3)) (ht : ((pc + 1 : Nat) : Int) + off = (tgt : Int)) (kt : x < y → Z D k cs ws tgt lv st) (kf : ¬ (x < y) → Z D k cs ws (pc + 4) lv st) : Z D k cs ws pc lv (.long y :: .long x :: st) := by
  obtain ⟨p, l, e, R, s, m, args, below, meth, c, nL, A, Q⟩ := k
  obtain ⟨hx, hb, hml, hnl, hown, hts, hK, hA, hnm, hR, hl0⟩ := X
  intro H locs ls hP hD hS hl
  refine W.lcmp hx hb hd1 ?_
  exact lv_if_lt hx hb hd ht (fun h => kt ((lg_cmp_lt x y).mp h) H locs ls hP hD hS hl) (fun h => kf (fun z => h ((lg_cmp_lt x y).mpr z)) H locs ls hP hD hS hl)
theorem z_lcmp_gt (X : zX D t k b n own nm rm l0) {x y : Int64} {off : Int} (tgt : Nat) (hd1 : decode b pc = .ok (.lcmp, 1)) (hd : decode b (pc + 1) = .ok (.ifCond .gt off, 3)) (ht : ((pc + 1 : Nat) : Int) + off = (tgt : Int)) (kt : y < x → Z D k cs ws tgt lv st) (kf : ¬ (y < x) → Z D k cs ws (pc + 4) lv st) : Z D k cs ws pc lv (.long y :: .long x :: st) := by
  obtain ⟨p, l, e, R, s, m, args, below, meth, c, nL, A, Q⟩ := k
  obtain ⟨hx, hb, hml, hnl, hown, hts, hK, hA, hnm, hR, hl0⟩ := X
  intro H locs ls hP hD hS hl
  refine W.lcmp hx hb hd1 ?_
  exact lv_if_gt hx hb hd ht (fun h => kt ((lg_cmp_gt x y).mp h) H locs ls hP hD hS hl) (fun h => kf (fun z => h ((lg_cmp_gt x y).mpr z)) H locs ls hP hD hS hl)
theorem z_lcmp_ne (X : zX D t k b n own nm rm l0) {x y : Int64} {off : Int} (tgt : Nat) (hd1 : decode b pc = .ok (.lcmp, 1)) (hd : decode b (pc + 1) = .ok (.ifCond .ne off, 3)) (ht : ((pc + 1 : Nat) : Int) + off = (tgt : Int)) (kt : ¬ x = y → Z D k cs ws tgt lv st) (kf : x = y → Z D k cs ws (pc + 4) lv st) : Z D k cs ws pc lv (.long y :: .long x :: st) := by
  obtain ⟨p, l, e, R, s, m, args, below, meth, c, nL, A, Q⟩ := k
  obtain ⟨hx, hb, hml, hnl, hown, hts, hK, hA, hnm, hR, hl0⟩ := X
  intro H locs ls hP hD hS hl
  refine W.lcmp hx hb hd1 ?_
  exact lv_if_ne hx hb hd ht (fun h => kt (fun z => h ((lg_cmp_eq x y).mpr z)) H locs ls hP hD hS hl) (fun h => kf ((lg_cmp_eq x y).mp h) H locs ls hP hD hS hl)
theorem z_goto (X : zX D t k b n own nm rm l0) {off : Int} (tgt : Nat) (hd : decode b pc = .ok (.goto off, 3)) (ht : (pc : Int) + off = (tgt : Int)) (kk : Z D k cs ws tgt lv st) : Z D k cs ws pc lv st := by
  obtain ⟨p, l, e, R, s, m, args, below, meth, c, nL, A, Q⟩ := k
  obtain ⟨hx, hb, hml, hnl, hown, hts, hK, hA, hnm, hR, hl0⟩ := X
  intro H locs ls hP hD hS hl
  exact lv_goto hx hb hd ht (kk H locs ls hP hD hS hl)
theorem z_lookup (X : zX D t k b n own nm rm l0) {dflt : Int} {ps : Array (Int × Int)} {len : Nat} {x : Int32} {off : Int} (tgt : Nat) (hd : decode b pc = .ok (.lookupswitch dflt ps, len)) (hp : (ps.toList.zip (ps.toList.drop 1)).all (fun (a, next) => a.1 < next.1) = true) (ho : Op.lookupswitch.offset ps.toList dflt x.toInt = off) (ht : (pc : Int) + off = (tgt : Int)) (kk : Z D k cs ws tgt lv st) : Z D k cs ws pc lv (.int x :: st) := by
  obtain ⟨p, l, e, R, s, m, args, below, meth, c, nL, A, Q⟩ := k
  obtain ⟨hx, hb, hml, hnl, hown, hts, hK, hA, hnm, hR, hl0⟩ := X
  intro H locs ls hP hD hS hl
  exact lv_lookup hx hb hd hp ho ht (kk H locs ls hP hD hS hl)
theorem z_tableOut (X : zX D t k b n own nm rm l0) {dflt lo hi : Int} {offs : Array Int} {len : Nat} {x : Int32} (tgt : Nat) (hd : decode b pc = .ok (.tableswitch dflt lo hi offs, len)) (h : x.toInt < lo ∨ hi < x.toInt) (ht : (pc : Int) + dflt = (tgt : Int)) (kk : Z D k cs ws tgt lv st) : Z D k cs ws pc lv (.int x :: st) := by
  obtain ⟨p, l, e, R, s, m, args, below, meth, c, nL, A, Q⟩ := k
  obtain ⟨hx, hb, hml, hnl, hown, hts, hK, hA, hnm, hR, hl0⟩ := X
  intro H locs ls hP hD hS hl
  exact lv_tableOut hx hb hd h ht (kk H locs ls hP hD hS hl)
theorem z_tableIn (X : zX D t k b n own nm rm l0) {dflt lo hi : Int} {offs : Array Int} {len : Nat} {x : Int32} {off : Int} (tgt : Nat) (hd : decode b pc = .ok (.tableswitch dflt lo hi offs, len)) (h1 : ¬ x.toInt < lo) (h2 : ¬ hi < x.toInt) (ho : offs[(x.toInt - lo).toNat]? = some off) (ht : (pc : Int) + off = (tgt : Int)) (kk : Z D k cs ws tgt lv st) : Z D k cs ws pc lv (.int x :: st) := by
  obtain ⟨p, l, e, R, s, m, args, below, meth, c, nL, A, Q⟩ := k
  obtain ⟨hx, hb, hml, hnl, hown, hts, hK, hA, hnm, hR, hl0⟩ := X
  intro H locs ls hP hD hS hl
  exact lv_tableIn hx hb hd h1 h2 ho ht (kk H locs ls hP hD hS hl)
theorem z_get (X : zX D t k b n own nm rm l0) {C ref : String} {T : u_T} {N ci a index : Nat} {fs : List Value} (q0 kf : Nat) (v : Value) (hin : ∀ w ∈ u_ws C T N, w ∈ TB) (hl : Cond.fieldLink own index ref (T kf).2.1 (T kf).2.2.1 ∈ TB) (hd : decode b pc = .ok (.getfield index, 3)) (he : ws[q0]? = some (a, .inr (ci, fs))) (hc : vwCl[ci]? = some (C, T, N)) (hk : kf < N) (hs : (T kf).1 = ref) (hv : fs[kf]? = some v) (kk : Z D k cs ws (pc + 3) lv (v :: st)) : Z D k cs ws pc lv (.ref a :: st) := by
  obtain ⟨p, l, e, R, s, m, args, below, meth, c, nL, A, Q⟩ := k
  obtain ⟨hx, hb, hml, hnl, hown, hts, hK, hA, hnm, hR, hl0⟩ := X
  intro H locs ls hP hD hS hl9
  exact va_get hx hb hts hin hown hK.1 hP q0 he hc kf hk (hts _ hl) (fun _ h9 => hs ▸ h9) hv hd (kk H locs ls hP hD hS hl9)
theorem z_put (X : zX D t k b n own nm rm l0) {C ref : String} {T : u_T} {N ci a index : Nat} {ty0 : Nat → FieldType} {fs : List Value} {v : Value} (q0 kf : Nat) (ws2 : va_W) (hin : ∀ w ∈ u_ws C T N, w ∈ TB) (hty : ∀ k, k < N → parseFieldDescriptor (T k).2.2.1 = some (ty0 k)) (hnm9 : ∀ a, a < N → ∀ b, b < N → a ≠ b → (T a).2.1 ≠ (T b).2.1) (hl : Cond.fieldLink own index ref (T kf).2.1 (T kf).2.2.1 ∈ TB) (hd : decode b pc = .ok (.putfield index, 3)) (he : ws[q0]? = some (a, .inr (ci, fs))) (hc : vwCl[ci]? = some (C, T, N)) (hk : kf < N) (hs : (T kf).1 = ref) (hfin : (T kf).2.2.2 = false)  (hn : narrow (ty0 kf) v = v) (hfit : fits (ty0 kf) v = true) (hlen : kf < fs.length) (hw : ws.set q0 (a, .inr (ci, fs.set kf v)) = ws2) (kk : Z D k cs ws2 (pc + 3) lv st) : Z D k cs ws pc lv (v :: .ref a :: st) := by
  obtain ⟨p, l, e, R, s, m, args, below, meth, c, nL, A, Q⟩ := k
  obtain ⟨hx, hb, hml, hnl, hown, hts, hK, hA, hnm, hR, hl0⟩ := X
  intro H locs ls hP hD hS hl9
  subst hw
  exact va_put hx hb hts hin ty0 hty hnm9 hown hK.1 hP hD hS q0 he hc kf hk (hts _ hl) (fun _ h9 => hs ▸ h9) hfin (hty kf hk) hn hfit hlen hd (fun H1 locs1 hP1 hD1 hS1 => kk H1 locs1 ls hP1 hD1 hS1 hl9)
theorem z_putF (X : zX D t k b n own nm rm l0) {C ref : String} {T : u_T} {N ci a index : Nat} {ty0 : Nat → FieldType} {fs : List Value} {v : Value} (q0 kf : Nat) (ws2 : va_W) (hin : ∀ w ∈ u_ws C T N, w ∈ TB) (hty : ∀ k, k < N → parseFieldDescriptor (T k).2.2.1 = some (ty0 k)) (hnm9 : ∀ a, a < N → ∀ b, b < N → a ≠ b → (T a).2.1 ≠ (T b).2.1) (hl : Cond.fieldLink own index ref (T kf).2.1 (T kf).2.2.1 ∈ TB) (hd : decode b pc = .ok (.putfield index, 3)) (he : ws[q0]? = some (a, .inr (ci, fs))) (hc : vwCl[ci]? = some (C, T, N)) (hk : kf < N) (hs : (T kf).1 = ref) (hfin : (T kf).2.2.2 = true) (hi2 : nm = "<init>") (hdc : (T kf).1 = own) (hn : narrow (ty0 kf) v = v) (hfit : fits (ty0 kf) v = true) (hlen : kf < fs.length) (hw : ws.set q0 (a, .inr (ci, fs.set kf v)) = ws2) (kk : Z D k cs ws2 (pc + 3) lv st) : Z D k cs ws pc lv (v :: .ref a :: st) := by
  obtain ⟨p, l, e, R, s, m, args, below, meth, c, nL, A, Q⟩ := k
  obtain ⟨hx, hb, hml, hnl, hown, hts, hK, hA, hnm, hR, hl0⟩ := X
  intro H locs ls hP hD hS hl9
  subst hw
  exact va_putF hx hb hts hin ty0 hty hnm9 hown hK.1 hP hD hS q0 he hc kf hk (hts _ hl) (fun _ h9 => hs ▸ h9) hfin (hnm.trans hi2) hdc (hty kf hk) hn hfit hlen hd (fun H1 locs1 hP1 hD1 hS1 => kk H1 locs1 ls hP1 hD1 hS1 hl9)
theorem z_iald (X : zX D t k b n own nm rm l0) {a N : Nat} {f : Nat → Int32} {i : Int32} (q0 : Nat) (j : Nat) (v : Int32) (hd : decode b pc = .ok (.iaload, 1)) (he : ws[q0]? = some (a, .inl (t.1, N, .inl f))) (hj : i = nI j) (hN : N < 2 ^ 31) (hlt : j < N) (hv : f j = v) (kk : Z D k cs ws (pc + 1) lv (.int v :: st)) : Z D k cs ws pc lv (.int i :: .ref a :: st) := by
  obtain ⟨p, l, e, R, s, m, args, below, meth, c, nL, A, Q⟩ := k
  obtain ⟨hx, hb, hml, hnl, hown, hts, hK, hA, hnm, hR, hl0⟩ := X
  intro H locs ls hP hD hS hl9
  subst hj
  refine va_iald hx hb hK.1 hP q0 0 he rfl (vp_in_nI hlt hN) hd ?_
  rw [nI_clamp (Nat.lt_trans hlt hN), hv]
  exact kk H locs ls hP hD hS hl9
theorem z_cald (X : zX D t k b n own nm rm l0) {a N : Nat} {f : Nat → Int32} {i : Int32} (q0 : Nat) (j : Nat) (v : Int32) (hd : decode b pc = .ok (.caload, 1)) (he : ws[q0]? = some (a, .inl (t.2.2.1, N, .inl f))) (hj : i = nI j) (hN : N < 2 ^ 31) (hlt : j < N) (hv : f j = v) (kk : Z D k cs ws (pc + 1) lv (.int v :: st)) : Z D k cs ws pc lv (.int i :: .ref a :: st) := by
  obtain ⟨p, l, e, R, s, m, args, below, meth, c, nL, A, Q⟩ := k
  obtain ⟨hx, hb, hml, hnl, hown, hts, hK, hA, hnm, hR, hl0⟩ := X
  intro H locs ls hP hD hS hl9
  subst hj
  refine va_cald hx hb hK.1 hP q0 2 he rfl (vp_in_nI hlt hN) hd ?_
  rw [nI_clamp (Nat.lt_trans hlt hN), hv]
  exact kk H locs ls hP hD hS hl9
theorem z_lald (X : zX D t k b n own nm rm l0) {a N : Nat} {f : Nat → Int64} {i : Int32} (q0 : Nat) (j : Nat) (v : Int64) (hd : decode b pc = .ok (.laload, 1)) (he : ws[q0]? = some (a, .inl (t.2.1, N, .inr (.inl f)))) (hj : i = nI j) (hN : N < 2 ^ 31) (hlt : j < N) (hv : f j = v) (kk : Z D k cs ws (pc + 1) lv (.long v :: st)) : Z D k cs ws pc lv (.int i :: .ref a :: st) := by
  obtain ⟨p, l, e, R, s, m, args, below, meth, c, nL, A, Q⟩ := k
  obtain ⟨hx, hb, hml, hnl, hown, hts, hK, hA, hnm, hR, hl0⟩ := X
  intro H locs ls hP hD hS hl9
  subst hj
  refine va_lald hx hb hK.1 hP q0 1 he rfl (vp_in_nI hlt hN) hd ?_
  rw [nI_clamp (Nat.lt_trans hlt hN), hv]
  exact kk H locs ls hP hD hS hl9
theorem z_aald (X : zX D t k b n own nm rm l0) {a N : Nat} {f : Nat → Option Nat} {i : Int32} (q0 : Nat) (j : Nat) (v : Nat) (hd : decode b pc = .ok (.aaload, 1)) (he : ws[q0]? = some (a, .inl (t.2.2.2, N, .inr (.inr (.inr (.inr f)))))) (hj : i = nI j) (hN : N < 2 ^ 31) (hlt : j < N) (hv : f j = some v) (kk : Z D k cs ws (pc + 1) lv (.ref v :: st)) : Z D k cs ws pc lv (.int i :: .ref a :: st) := by
  obtain ⟨p, l, e, R, s, m, args, below, meth, c, nL, A, Q⟩ := k
  obtain ⟨hx, hb, hml, hnl, hown, hts, hK, hA, hnm, hR, hl0⟩ := X
  intro H locs ls hP hD hS hl9
  subst hj
  refine va_aldq hx hb hK.1 hP q0 3 he rfl (vp_in_nI hlt hN) hd ?_
  rw [nI_clamp (Nat.lt_trans hlt hN), hv]
  exact kk H locs ls hP hD hS hl9
theorem z_iast (X : zX D t k b n own nm rm l0) {a N : Nat} {f : Nat → Int32} {i : Int32} {x : Int32} (q0 : Nat) (j : Nat) (g : Nat → Int32) (ws2 : va_W) (hd : decode b pc = .ok (.iastore, 1)) (he : ws[q0]? = some (a, .inl (t.1, N, .inl f))) (hj : i = nI j) (hN : N < 2 ^ 31) (hlt : j < N) (hg : upd f j x = g) (hw : ws.set q0 (a, .inl (t.1, N, .inl g)) = ws2) (kk : Z D k cs ws2 (pc + 1) lv st) : Z D k cs ws pc lv (.int x :: .int i :: .ref a :: st) := by
  obtain ⟨p, l, e, R, s, m, args, below, meth, c, nL, A, Q⟩ := k
  obtain ⟨hx, hb, hml, hnl, hown, hts, hK, hA, hnm, hR, hl0⟩ := X
  intro H locs ls hP hD hS hl9
  subst hj
  subst hw
  refine va_iast hx hb hK.1 hP hD hS q0 0 he rfl (vp_in_nI hlt hN) hd ?_
  rw [nI_clamp (Nat.lt_trans hlt hN), hg]
  exact fun H1 locs1 hP1 hD1 hS1 => kk H1 locs1 ls hP1 hD1 hS1 hl9
theorem z_cast (X : zX D t k b n own nm rm l0) {a N : Nat} {f : Nat → Int32} {i : Int32} {x : Int32} (q0 : Nat) (j : Nat) (g : Nat → Int32) (ws2 : va_W) (hd : decode b pc = .ok (.castore, 1)) (he : ws[q0]? = some (a, .inl (t.2.2.1, N, .inl f))) (hj : i = nI j) (hN : N < 2 ^ 31) (hlt : j < N) (hg : upd f j (vp_nar .char x) = g) (hw : ws.set q0 (a, .inl (t.2.2.1, N, .inl g)) = ws2) (kk : Z D k cs ws2 (pc + 1) lv st) : Z D k cs ws pc lv (.int x :: .int i :: .ref a :: st) := by
  obtain ⟨p, l, e, R, s, m, args, below, meth, c, nL, A, Q⟩ := k
  obtain ⟨hx, hb, hml, hnl, hown, hts, hK, hA, hnm, hR, hl0⟩ := X
  intro H locs ls hP hD hS hl9
  subst hj
  subst hw
  refine va_cast hx hb hK.1 hP hD hS q0 2 he rfl (vp_in_nI hlt hN) hd ?_
  rw [nI_clamp (Nat.lt_trans hlt hN), hg]
  exact fun H1 locs1 hP1 hD1 hS1 => kk H1 locs1 ls hP1 hD1 hS1 hl9
theorem z_last (X : zX D t k b n own nm rm l0) {a N : Nat} {f : Nat → Int64} {i : Int32} {x : Int64} (q0 : Nat) (j : Nat) (g : Nat → Int64) (ws2 : va_W) (hd : decode b pc = .ok (.lastore, 1)) (he : ws[q0]? = some (a, .inl (t.2.1, N, .inr (.inl f)))) (hj : i = nI j) (hN : N < 2 ^ 31) (hlt : j < N) (hg : vp_updL f j x = g) (hw : ws.set q0 (a, .inl (t.2.1, N, .inr (.inl g))) = ws2) (kk : Z D k cs ws2 (pc + 1) lv st) : Z D k cs ws pc lv (.long x :: .int i :: .ref a :: st) := by
  obtain ⟨p, l, e, R, s, m, args, below, meth, c, nL, A, Q⟩ := k
  obtain ⟨hx, hb, hml, hnl, hown, hts, hK, hA, hnm, hR, hl0⟩ := X
  intro H locs ls hP hD hS hl9
  subst hj
  subst hw
  refine va_last hx hb hK.1 hP hD hS q0 1 he rfl (vp_in_nI hlt hN) hd ?_
  rw [nI_clamp (Nat.lt_trans hlt hN), hg]
  exact fun H1 locs1 hP1 hD1 hS1 => kk H1 locs1 ls hP1 hD1 hS1 hl9
theorem z_alen_i (X : zX D t k b n own nm rm l0) {a N : Nat} {f : Nat → Int32} (q0 : Nat) (hd : decode b pc = .ok (.arraylength, 1)) (he : ws[q0]? = some (a, .inl (t.1, N, .inl f))) (kk : Z D k cs ws (pc + 1) lv (.int (nI N) :: st)) : Z D k cs ws pc lv (.ref a :: st) := by
  obtain ⟨p, l, e, R, s, m, args, below, meth, c, nL, A, Q⟩ := k
  obtain ⟨hx, hb, hml, hnl, hown, hts, hK, hA, hnm, hR, hl0⟩ := X
  intro H locs ls hP hD hS hl9
  exact va_alen hx hb hK.1 hP q0 0 he (ty := .int) rfl rfl hd (kk H locs ls hP hD hS hl9)
theorem z_alen_c (X : zX D t k b n own nm rm l0) {a N : Nat} {f : Nat → Int32} (q0 : Nat) (hd : decode b pc = .ok (.arraylength, 1)) (he : ws[q0]? = some (a, .inl (t.2.2.1, N, .inl f))) (kk : Z D k cs ws (pc + 1) lv (.int (nI N) :: st)) : Z D k cs ws pc lv (.ref a :: st) := by
  obtain ⟨p, l, e, R, s, m, args, below, meth, c, nL, A, Q⟩ := k
  obtain ⟨hx, hb, hml, hnl, hown, hts, hK, hA, hnm, hR, hl0⟩ := X
  intro H locs ls hP hD hS hl9
  exact va_alen hx hb hK.1 hP q0 2 he (ty := .char) rfl rfl hd (kk H locs ls hP hD hS hl9)
theorem z_alen_l (X : zX D t k b n own nm rm l0) {a N : Nat} {f : Nat → Int64} (q0 : Nat) (hd : decode b pc = .ok (.arraylength, 1)) (he : ws[q0]? = some (a, .inl (t.2.1, N, .inr (.inl f)))) (kk : Z D k cs ws (pc + 1) lv (.int (nI N) :: st)) : Z D k cs ws pc lv (.ref a :: st) := by
  obtain ⟨p, l, e, R, s, m, args, below, meth, c, nL, A, Q⟩ := k
  obtain ⟨hx, hb, hml, hnl, hown, hts, hK, hA, hnm, hR, hl0⟩ := X
  intro H locs ls hP hD hS hl9
  exact va_alen hx hb hK.1 hP q0 1 he (ty := .long) rfl rfl hd (kk H locs ls hP hD hS hl9)
theorem z_alen_q (X : zX D t k b n own nm rm l0) {a N : Nat} {f : Nat → Option Nat} (q0 : Nat) (hd : decode b pc = .ok (.arraylength, 1)) (he : ws[q0]? = some (a, .inl (t.2.2.2, N, .inr (.inr (.inr (.inr f)))))) (kk : Z D k cs ws (pc + 1) lv (.int (nI N) :: st)) : Z D k cs ws pc lv (.ref a :: st) := by
  obtain ⟨p, l, e, R, s, m, args, below, meth, c, nL, A, Q⟩ := k
  obtain ⟨hx, hb, hml, hnl, hown, hts, hK, hA, hnm, hR, hl0⟩ := X
  intro H locs ls hP hD hS hl9
  exact va_alen hx hb hK.1 hP q0 3 he (ty := (.object "EitherPocket$Coat")) rfl rfl hd (kk H locs ls hP hD hS hl9)
theorem z_topi {x : Int32} (v : Int32) (h : x = v) (kk : Z D k cs ws pc lv (.int v :: st)) : Z D k cs ws pc lv (.int x :: st) := h ▸ kk
theorem z_topl {x : Int64} (v : Int64) (h : x = v) (kk : Z D k cs ws pc lv (.long v :: st)) : Z D k cs ws pc lv (.long x :: st) := h ▸ kk
theorem z_eq {ws2 : va_W} {lv2 : List (Nat × Value)} {st2 : List Value} (h1 : ws = ws2) (h2 : lv = lv2) (h3 : st = st2) (kk : Z D k cs ws2 pc lv2 st2) : Z D k cs ws pc lv st := by subst h1; subst h2; subst h3; exact kk
theorem z_lv (ks : List Nat) {lv2 : List (Nat × Value)} (h : lv_pick lv ks = lv2) (kk : Z D k cs ws pc lv2 st) : Z D k cs ws pc lv st := by
  obtain ⟨p, l, e, R, s, m, args, below, meth, c, nL, A, Q⟩ := k
  intro H locs ls hP hD hS hl
  exact kk H locs ls hP hD hS (lv_sub hl ks h)
theorem z_widen {cs2 : Nat × Nat} (h1 : cs.1 ≤ cs2.1) (h2 : cs.2 ≤ cs2.2) (kk : Z D k cs2 ws pc lv st) : Z D k cs ws pc lv st := by
  obtain ⟨p, l, e, R, s, m, args, below, meth, c, nL, A, Q⟩ := k
  intro H locs ls hP hD hS hl
  exact W.widen h1 h2 (kk H locs ls hP hD hS hl)
theorem z_objInit (X : zX D t k b n own nm rm l0) {idx a : Nat} (hw : Cond.methodLink own idx Lib.objectInit ∈ TB) (hd : decode b pc = .ok (.invokespecial idx, 3)) (hf : 1 ≤ rm.frames) (hlc : (st.map fun v => v.category).sum + 12 ≤ rm.locals) (kk : Z D k cs ws (pc + 3) lv st) : Z D k cs ws pc lv (.ref a :: st) := by
  obtain ⟨p, l, e, R, s, m, args, below, meth, c, nL, A, Q⟩ := k
  obtain ⟨hx, hb, hml, hnl, hown, hts, hK, hA, hnm, hR, hl0⟩ := X
  intro H locs ls hP hD hS hl9
  subst hR
  refine W.objInit hx hb hown (hts _ hw) (hts _ tw_14) (hts _ tw_15) rfl (by rw [hml, ← hnl]; exact hl9.1) rfl hd hf (by show 2 * 0 + _ + 12 ≤ _; omega) ?_
  exact W.eq (g2 := F0 m (pc + 3) ls st) rfl (kk H locs ls hP hD hS hl9)
end ZL
/-- A CONTRACT: from the world ws with arguments as, the method y answers v and leaves the world w with 'post v w'; mc new cells of ms slots -/
def Ct (l : Launch) (D : va_G) (t : zT) (y : MethodName) (b : ByteArray) (nL : Nat) (ret : Option FieldType) (rm : Room) (as : List Value) (ws : va_W) (mc ms : Nat) (post : Option Value → va_W → Prop) : Prop :=
  ∀ sz : Nat, Met l y (.code y b nL ret :: TB) rm (va_Pc as (fun U => U.heap.size = sz ∧ va_P D vwCl ws U.heap ∧ KK D t U ∧ va_D (fun _ => True) ws))
    (fun _ s0 oc u => (∃ (v : Option Value) (w : va_W), oc = .returned v ∧ post v w ∧ va_P D vwCl w u.heap ∧ va_D (va_A ws sz) w) ∧ va_F (va_A ws sz) s0 u) mc ms (va_A ws sz)
/-- the ways back -/
def zR (D : va_G) (k : zK) (b : ByteArray) (ret : Option FieldType) (mc ms : Nat) (post : Option Value → va_W → Prop) : Prop :=
  (∀ (v : Int32) (w : va_W) (pc : Nat) (lv : List (Nat × Value)), decode b pc = .ok (.ireturn, 1) → (∃ ty, ret = some ty ∧ narrow ty (.int v) = .int v) → post (some (.int v)) w → Z D k (mc, ms) w pc lv [.int v]) ∧
  (∀ (v : Int64) (w : va_W) (pc : Nat) (lv : List (Nat × Value)), decode b pc = .ok (.lreturn, 1) → ret = some .long → post (some (.long v)) w → Z D k (mc, ms) w pc lv [.long v]) ∧
  (∀ (w : va_W) (pc : Nat) (lv : List (Nat × Value)), decode b pc = .ok (.return_, 1) → ret = none → post none w → Z D k (mc, ms) w pc lv [])
theorem zR.i {D : va_G} {k : zK} {b : ByteArray} {mc ms : Nat} {post : Option Value → va_W → Prop} (h : zR D k b (some .int) mc ms post) {v : Int32} {w : va_W} {pc : Nat} {lv : List (Nat × Value)} (hd : decode b pc = .ok (.ireturn, 1)) (hp : post (some (.int v)) w) : Z D k (mc, ms) w pc lv [.int v] := h.1 v w pc lv hd ⟨_, rfl, rfl⟩ hp
theorem zR.z {D : va_G} {k : zK} {b : ByteArray} {mc ms : Nat} {ty : FieldType} {post : Option Value → va_W → Prop} (h : zR D k b (some ty) mc ms post) {v : Int32} {w : va_W} {pc : Nat} {lv : List (Nat × Value)} (hd : decode b pc = .ok (.ireturn, 1)) (hn : narrow ty (.int v) = .int v) (hp : post (some (.int v)) w) : Z D k (mc, ms) w pc lv [.int v] := h.1 v w pc lv hd ⟨_, rfl, hn⟩ hp
theorem zR.l {D : va_G} {k : zK} {b : ByteArray} {mc ms : Nat} {post : Option Value → va_W → Prop} (h : zR D k b (some .long) mc ms post) {v : Int64} {w : va_W} {pc : Nat} {lv : List (Nat × Value)} (hd : decode b pc = .ok (.lreturn, 1)) (hp : post (some (.long v)) w) : Z D k (mc, ms) w pc lv [.long v] := h.2.1 v w pc lv hd rfl hp
theorem zR.v {D : va_G} {k : zK} {b : ByteArray} {mc ms : Nat} {post : Option Value → va_W → Prop} (h : zR D k b none mc ms post) {w : va_W} {pc : Nat} {lv : List (Nat × Value)} (hd : decode b pc = .ok (.return_, 1)) (hp : post none w) : Z D k (mc, ms) w pc lv [] := h.2.2 w pc lv hd rfl hp
theorem Ct.of {l : Launch} {D : va_G} {t : zT} {y : MethodName} {b : ByteArray} {nL : Nat} {ret : Option FieldType} {rm : Room} {as : List Value} {ws : va_W} {mc ms : Nat} {post : Option Value → va_W → Prop} (hy : plainName y.cls = true) (hlen : (lg_sl as).length ≤ nL)
    (body : ∀ k : zK, zX D t k b nL y.cls y.name rm l → zR D k b ret mc ms post → Z D k (0, 0) ws 0 (lv_args 0 as) []) : Ct l D t y b nL ret rm as ws mc ms post := by
  intro sz
  refine Met.ofW (cc := b) (maxL := nL) (ret := ret) hy rfl ?_
  intro p e s m args below meth c s₁ B hml hv
  obtain ⟨rfl, hsz, hP, hK, hD0⟩ := hv
  have hts := atoms_spec (ws := .code y b nL ret :: TB) B.pre
  subst hsz
  have hD := hD0.self (sz := s.heap.size)
  have hr := B.returns
  have hlocks := B.notSynchronized
  have hx := B.exec
  have hb := B.bytes
  have hl := lv_entry as (n := nL) hlen
  rw [lg_entry_eq]
  have KEY := body (p, l, e, (headSpec (.code y b nL ret :: TB) rm).room, s, m, as.toArray, below, meth, c, nL, va_A ws s.heap.size, MQ below (fun _ s0 oc u => (∃ (v : Option Value) (w : va_W), oc = .returned v ∧ post v w ∧ va_P D vwCl w u.heap ∧ va_D (va_A ws s.heap.size) w) ∧ va_F (va_A ws s.heap.size) s0 u) as.toArray s mc ms (va_A ws s.heap.size))
    ⟨B.exec, B.bytes, hml, rfl, findClass_of_methodNamed B.named, fun w hw => hts w (List.mem_cons_of_mem _ hw), hK, fun q h => Or.inr h, (name_of_methodNamed B.named B.method).1, rfl, rfl⟩ ?_
  · exact KEY s.heap [] _ hP hD va_S.rf hl
  · refine ⟨?_, ?_, ?_⟩
    · intro v w pc lv hd hty hp H locs ls hP hD hS hl
      obtain ⟨ty, ht, hn⟩ := hty
      exact W.zret (ty := ty) hx hb (hr.trans ht) hn (fun u hu _ => ⟨⟨_, w, rfl, hp, by rw [hu]; exact hP, hD⟩, hS.F hu⟩) hS.2.2 hd
    · intro v w pc lv hd ht hp H locs ls hP hD hS hl
      exact W.lret hx hb (hr.trans ht) (fun u hu _ => ⟨⟨_, w, rfl, hp, by rw [hu]; exact hP, hD⟩, hS.F hu⟩) hS.2.2 hd
    · intro w pc lv hd ht hp H locs ls hP hD hS hl
      exact W.vret hx hb (hr.trans ht) (fun u hu _ => ⟨⟨_, w, rfl, hp, by rw [hu]; exact hP, hD⟩, hS.F hu⟩) hS.2.2 hd
theorem Ct.mono {l : Launch} {D : va_G} {t : zT} {y : MethodName} {b : ByteArray} {nL : Nat} {ret : Option FieldType} {rm : Room} {as : List Value} {ws : va_W} {mc ms : Nat} {post post2 : Option Value → va_W → Prop} (h : Ct l D t y b nL ret rm as ws mc ms post) (hp : ∀ v w, post v w → post2 v w) : Ct l D t y b nL ret rm as ws mc ms post2 := by
  intro sz p e ha hc hk s m args below hf happ hpc htr
  obtain ⟨q, o, h1, h2, h3, ⟨⟨v, w, h4, h5, h6⟩, h7⟩, h8⟩ := h sz p e ha hc hk s m args below hf happ hpc htr
  exact ⟨q, o, h1, h2, h3, ⟨⟨v, w, h4, hp v w h5, h6⟩, h7⟩, h8⟩
/-- cells put back at their places -/
def zput : va_W → List Nat → va_W → va_W
  | ws, i :: is, c :: w => (zput ws is w).set i c
  | ws, _, _ => ws
theorem zput_len : ∀ (is : List Nat) (w : va_W) (ws : va_W), (zput ws is w).length = ws.length
  | [], _, _ => by simp [zput]
  | _ :: _, [], _ => by simp [zput]
  | i :: is, c :: w, ws => by
    show ((zput ws is w).set i c).length = _
    rw [List.length_set, zput_len is w ws]
theorem zput_at : ∀ (is : List Nat) (w ws : va_W), is.length = w.length → va_nd is = true → (∀ i ∈ is, i < ws.length) → ∀ (q : Nat) (c : Nat × va_E), (zput ws is w)[q]? = some c → (∃ j : Nat, is[j]? = some q ∧ w[j]? = some c) ∨ (q ∉ is ∧ ws[q]? = some c)
  | [], _, _, _, _, _, q, c, h => Or.inr ⟨List.not_mem_nil, by simpa [zput] using h⟩
  | _ :: _, [], _, hl, _, _, _, _, _ => by simp at hl
  | i :: is, c0 :: w, ws, hl, hn, hb, q, c, h => by
    simp only [va_nd, Bool.and_eq_true, decide_eq_true_eq] at hn
    have h : ((zput ws is w).set i c0)[q]? = some c := h
    by_cases hqi : q = i
    · subst hqi
      rw [List.getElem?_set_self (by rw [zput_len]; exact hb q List.mem_cons_self)] at h
      exact Or.inl ⟨0, rfl, h⟩
    · rw [List.getElem?_set_ne (Ne.symm hqi)] at h
      rcases zput_at is w ws (by simpa using hl) hn.2 (fun x hx => hb x (List.mem_cons_of_mem _ hx)) q c h with ⟨j, h1, h2⟩ | ⟨h1, h2⟩
      · exact Or.inl ⟨j + 1, h1, h2⟩
      · exact Or.inr ⟨fun z => by rcases List.mem_cons.mp z with z | z; exact hqi z; exact h1 z, h2⟩
/-- behind a call: the caller's world with the callee's cells at their places -/
theorem zjoin {A0 : Nat → Prop} {D : va_G} {cl : List vw_C} {ws wc w1 : va_W} {H H1 : Heap} (hP : va_P D cl ws H) (hD : va_D A0 ws) (is : List Nat) (hC : is.map (fun i => ws[i]?) = wc.map some) (hn : va_nd is = true) (hlen : is.length = w1.length)
    (hk : ∀ q : Nat, q < H.size → ¬ va_A wc H.size q → H1[q]? = H[q]?) (hF : ∀ q, va_A wc H.size q → A0 q) (hP1 : va_P D cl w1 H1) (hD1 : va_D (va_A wc H.size) w1) : va_P D cl (zput ws is w1) H1 ∧ va_D A0 (zput ws is w1) := by
  have hb : ∀ i ∈ is, i < ws.length := by
    intro i hi
    obtain ⟨j, hj⟩ := List.getElem?_of_mem hi
    have h1 : (is.map (fun i => ws[i]?))[j]? = some (ws[i]?) := by rw [List.getElem?_map, hj]; rfl
    rw [hC, List.getElem?_map] at h1
    cases hw : wc[j]? with
    | none => rw [hw] at h1; cases h1
    | some c => rw [hw] at h1; exact (List.getElem?_eq_some_iff.mp (Option.some.inj h1).symm).1
  have apart : ∀ (q : Nat) (c : Nat × va_E), q ∉ is → ws[q]? = some c → c.1 < H.size ∧ ¬ va_A wc H.size c.1 := by
    intro q c hq hc
    have hl := (hP q c hc).lt
    refine ⟨hl, fun h => ?_⟩
    rcases h with ⟨k2, e, h⟩ | h
    · have h1 : (is.map (fun i => ws[i]?))[k2]? = some (some (c.1, e)) := by rw [hC, List.getElem?_map, h]; rfl
      rw [List.getElem?_map] at h1
      cases hi : is[k2]? with
      | none => rw [hi] at h1; cases h1
      | some i =>
        rw [hi] at h1
        have hij := hD.1 q i c (c.1, e) hc (Option.some.inj h1) rfl
        subst hij
        exact hq (List.mem_of_getElem? hi)
    · omega
  refine ⟨fun q c h => ?_, ⟨fun i j x y hi hj hxy => ?_, fun q c h => ?_⟩⟩
  · rcases zput_at is w1 ws hlen hn hb q c h with ⟨j, h1, h2⟩ | ⟨h1, h2⟩
    · exact hP1 j c h2
    · obtain ⟨g1, g2⟩ := apart q c h1 h2
      exact (hP q c h2).kept (hk c.1 g1 g2)
  · rcases zput_at is w1 ws hlen hn hb i x hi with ⟨a, a1, a2⟩ | ⟨a1, a2⟩ <;> rcases zput_at is w1 ws hlen hn hb j y hj with ⟨c, c1, c2⟩ | ⟨c1, c2⟩
    · have hac := hD1.1 a c x y a2 c2 hxy
      subst hac
      exact Option.some.inj (a1.symm.trans c1)
    · exact absurd (by rw [← hxy]; exact hD1.2 a x a2) (apart j y c1 c2).2
    · exact absurd (by rw [hxy]; exact hD1.2 c y c2) (apart i x a1 a2).2
    · exact hD.1 i j x y a2 c2 hxy
  · rcases zput_at is w1 ws hlen hn hb q c h with ⟨j, h1, h2⟩ | ⟨h1, h2⟩
    · exact hF _ (hD1.2 j c h2)
    · exact hD.2 q c h2
theorem zgood {y : MethodName} {b : ByteArray} {nL : Nat} {ret : Option FieldType} (h : Cond.code y b nL ret ∈ TB) : GoodIn TB (.code y b nL ret :: TB) := fun w hw => by
  rcases List.mem_cons.mp hw with rfl | hw
  · exact ⟨h, TB_good _ h⟩
  · exact ⟨hw, TB_good w hw⟩
def zdesc (y : MethodName) (na : Nat) : Bool := decide (y.cls ≠ "java/lang/invoke/MethodHandle") && (decide (y.cls ≠ "java/lang/invoke/VarHandle") && decide ((parseMethodDescriptor y.desc).map (fun d => d.parameters.length) = some na))
theorem zdesc_spec {y : MethodName} {na : Nat} (h : zdesc y na = true) : y.cls ≠ "java/lang/invoke/MethodHandle" ∧ y.cls ≠ "java/lang/invoke/VarHandle" ∧ (parseMethodDescriptor y.desc).map (fun d => d.parameters.length) = some na := by
  simp only [zdesc, Bool.and_eq_true, decide_eq_true_eq] at h
  exact h
section ZC
variable {D : va_G} {t : zT} {k : zK} {b : ByteArray} {n : Nat} {own nm : String} {rm : Room} {l0 : Launch} {cs : Nat × Nat} {ws : va_W} {pc : Nat} {lv : List (Nat × Value)} {st : List Value}
variable {y : MethodName} {cb : ByteArray} {cn : Nat} {cret : Option FieldType} {crm : Room} {as : List Value} {wc : va_W} {mc ms : Nat} {post : Option Value → va_W → Prop}
theorem zblind {as : List Value} {sz : Nat} {wc : va_W} : FrameBlind (va_Pc as (fun U => U.heap.size = sz ∧ va_P D vwCl wc U.heap ∧ KK D t U ∧ va_D (fun _ => True) wc)) := fun _ _ _ _ q => by
  obtain ⟨q0, q1, q2, q3, q4⟩ := q
  exact ⟨q0, q1, q2, q3.calling, q4⟩

/-- behind any call: what came back -/
theorem zafter {p : Program} {l : Launch} {e : Env} {R : Room} {s : State} {m : MethodId} {args : Array Value} {below : List Frame} {meth : Method} {c : Code} {H : Heap} {locs : List Loc} {cells slots : Nat} {Q : State → Prop} {A0 : Nat → Prop} {H0 : Heap} {free : Addr → Prop} {ls : Array Slot} {st0 : List Value} {A1 : Nat → Prop}
    (hr : va_Run p l e R s m args below meth c H locs cells slots mc ms (F0 m pc ls st0) st (fun s0 oc u => (∃ (v : Option Value) (w : va_W), oc = .returned v ∧ post v w ∧ va_P D vwCl w u.heap ∧ va_D A1 w) ∧ va_F A1 s0 u) free) (hS : va_S A0 H0 H locs) (hA : ∀ q, A1 q → A0 q) (hf : ∀ q, free q → A0 q)
    (kk : ∀ (v : Option Value) (w : va_W) (H1 : Heap) (locs1 : List Loc), post v w → va_P D vwCl w H1 → va_D A1 w → H.size ≤ H1.size → (∀ q : Nat, q < H.size → ¬ A1 q → H1[q]? = H[q]?) → va_S A0 H0 H1 locs1 → W p l e R s m args below meth c H1 locs1 (cells + mc) (slots + ms) Q (F0 m (pc + 3) ls (v.toList ++ st))) : W p l e R s m args below meth c H locs cells slots Q (F0 m pc ls st0) := by
  intro T hT X
  obtain ⟨v, st₀, u, T', L, h0, X', hL, e1, e2, ⟨⟨v2, w, hv, hp, hP1, hD1⟩, hz, hk⟩, stp⟩ := hr T hT X
  cases hv
  rw [h0] at hz hk
  obtain ⟨t2, a1, b1⟩ := kk v w T'.heap (locs ++ L) hp (by rw [e1]; exact hP1) hD1 (by rw [e1]; exact hz) (fun q h1 h2 => by rw [e1]; exact hk q h1 h2)
    ⟨Nat.le_trans hS.1 (by rw [e1]; exact hz), fun q h1 h2 => by rw [e1, hk q (Nat.lt_of_lt_of_le h1 hS.1) (fun z => h2 (hA q z))]; exact hS.2.1 q h1 h2, fun q hq => by
      rcases List.mem_append.mp hq with h | h
      · exact hS.2.2 q h
      · exact hf _ (hL q h)⟩ T' rfl X'
  exact ⟨t2, stp t2 a1, b1⟩

theorem zc_V (X : zX D t k b n own nm rm l0) {idx : Nat} {a : Nat} {st0 : List Value} (hC : Ct l0 D t y cb cn cret crm (.ref a :: as) wc mc ms post) (hl : Cond.methodLink own idx y ∈ TB) (hcode : Cond.code y cb cn cret ∈ TB) (hini : Cond.initialized y.cls ∈ TB) (him : Cond.instanceMethod y ∈ TB) (hsel : Cond.selects y.cls y y ∈ TB) (q9 ci9 : Nat) {T9 : u_T} {N9 : Nat} {fs9 : List Value} (hc9 : vwCl[ci9]? = some (y.cls, T9, N9)) (he9 : wc[q9]? = some (a, .inr (ci9, fs9))) (is : List Nat) (hC2 : is.map (fun i => ws[i]?) = wc.map some) (hnd : va_nd is = true) (hd : decode b pc = .ok (.invokevirtual idx, 3)) (hstk : st0 = as.reverse ++ .ref a :: st) (hdesc : zdesc y as.length = true) (hrm : crm.cells = mc ∧ crm.slots = ms ∧ crm.frames + 1 ≤ rm.frames ∧ 8 + (cn + 11) + crm.locals ≤ rm.locals) (hroom : (st.map fun v => v.category).sum ≤ 8) (hcs1 : cs.1 + mc ≤ rm.cells) (hcs2 : cs.2 + ms ≤ rm.slots) (kk : ∀ (v : Option Value) (w : va_W), post v w → is.length = w.length ∧ Z D k (cs.1 + mc, cs.2 + ms) (zput ws is w) (pc + 3) lv (v.toList ++ st)) : Z D k cs ws pc lv st0 := by
  obtain ⟨p, l, e, R, s, m, args, below, meth, c, nL, A, Q⟩ := k
  obtain ⟨hx, hb, hml, hnl, hown, hts, hK, hA, hnm, hR, hl0⟩ := X
  intro H locs ls hP hD hS hl9
  subst hl0
  subst hR
  have hPc := hP.sub (ws' := wc) is (by
    have h := congrArg (fun z => z.filterMap id) hC2
    simpa [List.filterMap_map, Function.comp_def] using h)
  have hDc := hD.sub is hnd hC2
  have hFc := va_free hD hS hA is hC2
  refine zafter (va_runV (As := as) (rest := st) ⟨hx, hb, hml, hown, hts⟩ (hC H.size) ⟨callB_of as.length hts (zgood hcode) rfl hrm.1 hrm.2.1 (hts _ hini) (hts _ hl) (zdesc_spec hdesc) ⟨hrm.2.2.1, hrm.2.2.2⟩, hts _ him, hts _ hsel⟩ ⟨zblind, va_recv hK.1 hPc hc9 he9, fun U hU hW => ⟨rfl, by rw [hU], by rw [hU]; exact hPc, hK.warm hW, hDc.weaken (fun _ _ _ _ => trivial)⟩⟩ rfl rfl (hl9.1.trans hnl) hstk (lv_room hroom) hd ⟨hcs1, hcs2⟩) hS hFc hFc (fun v w H1 locs1 hp hP1 hD1 hz hk hS1 => ?_)
  obtain ⟨hlen, kz⟩ := kk v w hp
  obtain ⟨hP2, hD2⟩ := zjoin hP hD is hC2 hnd hlen hk hFc hP1 hD1
  exact kz H1 locs1 ls hP2 hD2 hS1 hl9
theorem zc_VA (X : zX D t k b n own nm rm l0) {idx : Nat} {a : Nat} {st0 : List Value} (hC : Ct l0 D t y cb cn cret crm (.ref a :: as) wc mc ms post) (hl : Cond.methodLink own idx y ∈ TB) (hcode : Cond.code y cb cn cret ∈ TB) (hini : Cond.initialized y.cls ∈ TB) (him : Cond.instanceMethod y ∈ TB) (hsel : Cond.selects y.cls y y ∈ TB) (q9 ci9 : Nat) {T9 : u_T} {N9 : Nat} {fs9 : List Value} (hc9 : vwCl[ci9]? = some (y.cls, T9, N9)) (he9 : wc[q9]? = some (a, .inr (ci9, fs9))) (is ir : List Nat) (wr : va_W) (hC2 : is.map (fun i => ws[i]?) = wc.map some) (hR2 : ir.map (fun i => ws[i]?) = wr.map some) (hnd : va_nd is = true) (hnd2 : va_nd ir = true) (hdis : ∀ i ∈ ir, i ∉ is) (hd : decode b pc = .ok (.invokevirtual idx, 3)) (hstk : st0 = as.reverse ++ .ref a :: st) (hdesc : zdesc y as.length = true) (hrm : crm.cells = mc ∧ crm.slots = ms ∧ crm.frames + 1 ≤ rm.frames ∧ 8 + (cn + 11) + crm.locals ≤ rm.locals) (hroom : (st.map fun v => v.category).sum ≤ 8) (hcs1 : cs.1 + mc ≤ rm.cells) (hcs2 : cs.2 + ms ≤ rm.slots) (kk : ∀ (v : Option Value) (w : va_W), post v w → Z D k (cs.1 + mc, cs.2 + ms) (wr ++ w) (pc + 3) lv (v.toList ++ st)) : Z D k cs ws pc lv st0 := by
  obtain ⟨p, l, e, R, s, m, args, below, meth, c, nL, A, Q⟩ := k
  obtain ⟨hx, hb, hml, hnl, hown, hts, hK, hA, hnm, hR, hl0⟩ := X
  intro H locs ls hP hD hS hl9
  subst hl0
  subst hR
  have hPc := hP.sub (ws' := wc) is (by
    have h := congrArg (fun z => z.filterMap id) hC2
    simpa [List.filterMap_map, Function.comp_def] using h)
  have hDc := hD.sub is hnd hC2
  have hFc := va_free hD hS hA is hC2
  refine zafter (va_runV (As := as) (rest := st) ⟨hx, hb, hml, hown, hts⟩ (hC H.size) ⟨callB_of as.length hts (zgood hcode) rfl hrm.1 hrm.2.1 (hts _ hini) (hts _ hl) (zdesc_spec hdesc) ⟨hrm.2.2.1, hrm.2.2.2⟩, hts _ him, hts _ hsel⟩ ⟨zblind, va_recv hK.1 hPc hc9 he9, fun U hU hW => ⟨rfl, by rw [hU], by rw [hU]; exact hPc, hK.warm hW, hDc.weaken (fun _ _ _ _ => trivial)⟩⟩ rfl rfl (hl9.1.trans hnl) hstk (lv_room hroom) hd ⟨hcs1, hcs2⟩) hS hFc hFc (fun v w H1 locs1 hp hP1 hD1 hz hk hS1 => ?_)
  obtain ⟨hP2, hD2⟩ := va_join hP hD is ir hC2 hR2 hnd2 hdis hk hFc hP1 hD1
  exact kk v w hp H1 locs1 ls hP2 hD2 hS1 hl9
theorem zc_S (X : zX D t k b n own nm rm l0) {idx : Nat}  {st0 : List Value} (hC : Ct l0 D t y cb cn cret crm as wc mc ms post) (hl : Cond.methodLink own idx y ∈ TB) (hcode : Cond.code y cb cn cret ∈ TB) (hini : Cond.initialized y.cls ∈ TB) (hst : Cond.static y ∈ TB) (is : List Nat) (hC2 : is.map (fun i => ws[i]?) = wc.map some) (hnd : va_nd is = true) (hd : decode b pc = .ok (.invokestatic idx, 3)) (hstk : st0 = as.reverse ++ st) (hdesc : zdesc y as.length = true) (hrm : crm.cells = mc ∧ crm.slots = ms ∧ crm.frames + 1 ≤ rm.frames ∧ 8 + (cn + 11) + crm.locals ≤ rm.locals) (hroom : (st.map fun v => v.category).sum ≤ 8) (hcs1 : cs.1 + mc ≤ rm.cells) (hcs2 : cs.2 + ms ≤ rm.slots) (kk : ∀ (v : Option Value) (w : va_W), post v w → is.length = w.length ∧ Z D k (cs.1 + mc, cs.2 + ms) (zput ws is w) (pc + 3) lv (v.toList ++ st)) : Z D k cs ws pc lv st0 := by
  obtain ⟨p, l, e, R, s, m, args, below, meth, c, nL, A, Q⟩ := k
  obtain ⟨hx, hb, hml, hnl, hown, hts, hK, hA, hnm, hR, hl0⟩ := X
  intro H locs ls hP hD hS hl9
  subst hl0
  subst hR
  have hPc := hP.sub (ws' := wc) is (by
    have h := congrArg (fun z => z.filterMap id) hC2
    simpa [List.filterMap_map, Function.comp_def] using h)
  have hDc := hD.sub is hnd hC2
  have hFc := va_free hD hS hA is hC2
  refine zafter (va_runS (As := as) (rest := st) ⟨hx, hb, hml, hown, hts⟩ (hC H.size) ⟨callB_of as.length hts (zgood hcode) rfl hrm.1 hrm.2.1 (hts _ hini) (hts _ hl) (zdesc_spec hdesc) ⟨hrm.2.2.1, hrm.2.2.2⟩, hts _ hst⟩ ⟨zblind, fun U hU hW => ⟨rfl, by rw [hU], by rw [hU]; exact hPc, hK.warm hW, hDc.weaken (fun _ _ _ _ => trivial)⟩⟩ rfl rfl (hl9.1.trans hnl) hstk (lv_room hroom) hd ⟨hcs1, hcs2⟩) hS hFc hFc (fun v w H1 locs1 hp hP1 hD1 hz hk hS1 => ?_)
  obtain ⟨hlen, kz⟩ := kk v w hp
  obtain ⟨hP2, hD2⟩ := zjoin hP hD is hC2 hnd hlen hk hFc hP1 hD1
  exact kz H1 locs1 ls hP2 hD2 hS1 hl9
theorem zc_SA (X : zX D t k b n own nm rm l0) {idx : Nat}  {st0 : List Value} (hC : Ct l0 D t y cb cn cret crm as wc mc ms post) (hl : Cond.methodLink own idx y ∈ TB) (hcode : Cond.code y cb cn cret ∈ TB) (hini : Cond.initialized y.cls ∈ TB) (hst : Cond.static y ∈ TB) (is ir : List Nat) (wr : va_W) (hC2 : is.map (fun i => ws[i]?) = wc.map some) (hR2 : ir.map (fun i => ws[i]?) = wr.map some) (hnd : va_nd is = true) (hnd2 : va_nd ir = true) (hdis : ∀ i ∈ ir, i ∉ is) (hd : decode b pc = .ok (.invokestatic idx, 3)) (hstk : st0 = as.reverse ++ st) (hdesc : zdesc y as.length = true) (hrm : crm.cells = mc ∧ crm.slots = ms ∧ crm.frames + 1 ≤ rm.frames ∧ 8 + (cn + 11) + crm.locals ≤ rm.locals) (hroom : (st.map fun v => v.category).sum ≤ 8) (hcs1 : cs.1 + mc ≤ rm.cells) (hcs2 : cs.2 + ms ≤ rm.slots) (kk : ∀ (v : Option Value) (w : va_W), post v w → Z D k (cs.1 + mc, cs.2 + ms) (wr ++ w) (pc + 3) lv (v.toList ++ st)) : Z D k cs ws pc lv st0 := by
  obtain ⟨p, l, e, R, s, m, args, below, meth, c, nL, A, Q⟩ := k
  obtain ⟨hx, hb, hml, hnl, hown, hts, hK, hA, hnm, hR, hl0⟩ := X
  intro H locs ls hP hD hS hl9
  subst hl0
  subst hR
  have hPc := hP.sub (ws' := wc) is (by
    have h := congrArg (fun z => z.filterMap id) hC2
    simpa [List.filterMap_map, Function.comp_def] using h)
  have hDc := hD.sub is hnd hC2
  have hFc := va_free hD hS hA is hC2
  refine zafter (va_runS (As := as) (rest := st) ⟨hx, hb, hml, hown, hts⟩ (hC H.size) ⟨callB_of as.length hts (zgood hcode) rfl hrm.1 hrm.2.1 (hts _ hini) (hts _ hl) (zdesc_spec hdesc) ⟨hrm.2.2.1, hrm.2.2.2⟩, hts _ hst⟩ ⟨zblind, fun U hU hW => ⟨rfl, by rw [hU], by rw [hU]; exact hPc, hK.warm hW, hDc.weaken (fun _ _ _ _ => trivial)⟩⟩ rfl rfl (hl9.1.trans hnl) hstk (lv_room hroom) hd ⟨hcs1, hcs2⟩) hS hFc hFc (fun v w H1 locs1 hp hP1 hD1 hz hk hS1 => ?_)
  obtain ⟨hP2, hD2⟩ := va_join hP hD is ir hC2 hR2 hnd2 hdis hk hFc hP1 hD1
  exact kk v w hp H1 locs1 ls hP2 hD2 hS1 hl9
theorem zc_SN (X : zX D t k b n own nm rm l0) {idx : Nat}  {st0 : List Value} (hC : Ct l0 D t y cb cn cret crm as wc mc ms post) {host : String} (hl : Cond.methodLinkNest own idx y host ∈ tables_1) (hcode : Cond.code y cb cn cret ∈ TB) (hini : Cond.initialized y.cls ∈ TB) (hst : Cond.static y ∈ TB) (is : List Nat) (hC2 : is.map (fun i => ws[i]?) = wc.map some) (hnd : va_nd is = true) (hd : decode b pc = .ok (.invokestatic idx, 3)) (hstk : st0 = as.reverse ++ st) (hdesc : zdesc y as.length = true) (hrm : crm.cells = mc ∧ crm.slots = ms ∧ crm.frames + 1 ≤ rm.frames ∧ 8 + (cn + 11) + crm.locals ≤ rm.locals) (hroom : (st.map fun v => v.category).sum ≤ 8) (hcs1 : cs.1 + mc ≤ rm.cells) (hcs2 : cs.2 + ms ≤ rm.slots) (kk : ∀ (v : Option Value) (w : va_W), post v w → is.length = w.length ∧ Z D k (cs.1 + mc, cs.2 + ms) (zput ws is w) (pc + 3) lv (v.toList ++ st)) : Z D k cs ws pc lv st0 := by
  obtain ⟨p, l, e, R, s, m, args, below, meth, c, nL, A, Q⟩ := k
  obtain ⟨hx, hb, hml, hnl, hown, hts, hK, hA, hnm, hR, hl0⟩ := X
  intro H locs ls hP hD hS hl9
  subst hl0
  subst hR
  have hPc := hP.sub (ws' := wc) is (by
    have h := congrArg (fun z => z.filterMap id) hC2
    simpa [List.filterMap_map, Function.comp_def] using h)
  have hDc := hD.sub is hnd hC2
  have hFc := va_free hD hS hA is hC2
  refine zafter (va_runSN (As := as) (rest := st) ⟨hx, hb, hml, hown, hts⟩ (hC H.size) ⟨va_cnB as.length hts (zgood hcode) rfl hrm.1 hrm.2.1 (hK.2.1 _ hl rfl) (hts _ hini) (zdesc_spec hdesc) ⟨hrm.2.2.1, hrm.2.2.2⟩, hts _ hst, trivial⟩ ⟨zblind, fun U hU hW => ⟨rfl, by rw [hU], by rw [hU]; exact hPc, hK.warm hW, hDc.weaken (fun _ _ _ _ => trivial)⟩⟩ rfl rfl (hl9.1.trans hnl) hstk (lv_room hroom) hd ⟨hcs1, hcs2⟩) hS hFc hFc (fun v w H1 locs1 hp hP1 hD1 hz hk hS1 => ?_)
  obtain ⟨hlen, kz⟩ := kk v w hp
  obtain ⟨hP2, hD2⟩ := zjoin hP hD is hC2 hnd hlen hk hFc hP1 hD1
  exact kz H1 locs1 ls hP2 hD2 hS1 hl9
theorem zc_SNA (X : zX D t k b n own nm rm l0) {idx : Nat}  {st0 : List Value} (hC : Ct l0 D t y cb cn cret crm as wc mc ms post) {host : String} (hl : Cond.methodLinkNest own idx y host ∈ tables_1) (hcode : Cond.code y cb cn cret ∈ TB) (hini : Cond.initialized y.cls ∈ TB) (hst : Cond.static y ∈ TB) (is ir : List Nat) (wr : va_W) (hC2 : is.map (fun i => ws[i]?) = wc.map some) (hR2 : ir.map (fun i => ws[i]?) = wr.map some) (hnd : va_nd is = true) (hnd2 : va_nd ir = true) (hdis : ∀ i ∈ ir, i ∉ is) (hd : decode b pc = .ok (.invokestatic idx, 3)) (hstk : st0 = as.reverse ++ st) (hdesc : zdesc y as.length = true) (hrm : crm.cells = mc ∧ crm.slots = ms ∧ crm.frames + 1 ≤ rm.frames ∧ 8 + (cn + 11) + crm.locals ≤ rm.locals) (hroom : (st.map fun v => v.category).sum ≤ 8) (hcs1 : cs.1 + mc ≤ rm.cells) (hcs2 : cs.2 + ms ≤ rm.slots) (kk : ∀ (v : Option Value) (w : va_W), post v w → Z D k (cs.1 + mc, cs.2 + ms) (wr ++ w) (pc + 3) lv (v.toList ++ st)) : Z D k cs ws pc lv st0 := by
  obtain ⟨p, l, e, R, s, m, args, below, meth, c, nL, A, Q⟩ := k
  obtain ⟨hx, hb, hml, hnl, hown, hts, hK, hA, hnm, hR, hl0⟩ := X
  intro H locs ls hP hD hS hl9
  subst hl0
  subst hR
  have hPc := hP.sub (ws' := wc) is (by
    have h := congrArg (fun z => z.filterMap id) hC2
    simpa [List.filterMap_map, Function.comp_def] using h)
  have hDc := hD.sub is hnd hC2
  have hFc := va_free hD hS hA is hC2
  refine zafter (va_runSN (As := as) (rest := st) ⟨hx, hb, hml, hown, hts⟩ (hC H.size) ⟨va_cnB as.length hts (zgood hcode) rfl hrm.1 hrm.2.1 (hK.2.1 _ hl rfl) (hts _ hini) (zdesc_spec hdesc) ⟨hrm.2.2.1, hrm.2.2.2⟩, hts _ hst, trivial⟩ ⟨zblind, fun U hU hW => ⟨rfl, by rw [hU], by rw [hU]; exact hPc, hK.warm hW, hDc.weaken (fun _ _ _ _ => trivial)⟩⟩ rfl rfl (hl9.1.trans hnl) hstk (lv_room hroom) hd ⟨hcs1, hcs2⟩) hS hFc hFc (fun v w H1 locs1 hp hP1 hD1 hz hk hS1 => ?_)
  obtain ⟨hP2, hD2⟩ := va_join hP hD is ir hC2 hR2 hnd2 hdis hk hFc hP1 hD1
  exact kk v w hp H1 locs1 ls hP2 hD2 hS1 hl9
theorem zc_I (X : zX D t k b n own nm rm l0) {idx : Nat} {a : Nat} {st0 : List Value} (hC : Ct l0 D t y cb cn none crm (.ref a :: as) wc mc ms post) (hl : Cond.methodLink own idx y ∈ TB) (hcode : Cond.code y cb cn none ∈ TB) (hini : Cond.initialized y.cls ∈ TB) (him : Cond.instanceMethod y ∈ TB) (hiname : y.name = "<init>") (is : List Nat) (hC2 : is.map (fun i => ws[i]?) = wc.map some) (hnd : va_nd is = true) (hd : decode b pc = .ok (.invokespecial idx, 3)) (hstk : st0 = as.reverse ++ .ref a :: st) (hdesc : zdesc y as.length = true) (hrm : crm.cells = mc ∧ crm.slots = ms ∧ crm.frames + 1 ≤ rm.frames ∧ 8 + (cn + 11) + crm.locals ≤ rm.locals) (hroom : (st.map fun v => v.category).sum ≤ 8) (hcs1 : cs.1 + mc ≤ rm.cells) (hcs2 : cs.2 + ms ≤ rm.slots) (kk : ∀ (v : Option Value) (w : va_W), post v w → is.length = w.length ∧ Z D k (cs.1 + mc, cs.2 + ms) (zput ws is w) (pc + 3) lv (v.toList ++ st)) : Z D k cs ws pc lv st0 := by
  obtain ⟨p, l, e, R, s, m, args, below, meth, c, nL, A, Q⟩ := k
  obtain ⟨hx, hb, hml, hnl, hown, hts, hK, hA, hnm, hR, hl0⟩ := X
  intro H locs ls hP hD hS hl9
  subst hl0
  subst hR
  have hPc := hP.sub (ws' := wc) is (by
    have h := congrArg (fun z => z.filterMap id) hC2
    simpa [List.filterMap_map, Function.comp_def] using h)
  have hDc := hD.sub is hnd hC2
  have hFc := va_free hD hS hA is hC2
  refine zafter (va_runI (As := as) (rest := st) ⟨hx, hb, hml, hown, hts⟩ (hC H.size) ⟨callB_of as.length hts (zgood hcode) rfl hrm.1 hrm.2.1 (hts _ hini) (hts _ hl) (zdesc_spec hdesc) ⟨hrm.2.2.1, hrm.2.2.2⟩, hiname, hts _ him⟩ ⟨zblind, fun U hU hW => ⟨rfl, by rw [hU], by rw [hU]; exact hPc, hK.warm hW, hDc.weaken (fun _ _ _ _ => trivial)⟩⟩ rfl rfl (hl9.1.trans hnl) hstk (lv_room hroom) hd ⟨hcs1, hcs2⟩) hS hFc hFc (fun v w H1 locs1 hp hP1 hD1 hz hk hS1 => ?_)
  obtain ⟨hlen, kz⟩ := kk v w hp
  obtain ⟨hP2, hD2⟩ := zjoin hP hD is hC2 hnd hlen hk hFc hP1 hD1
  exact kz H1 locs1 ls hP2 hD2 hS1 hl9
theorem zc_IA (X : zX D t k b n own nm rm l0) {idx : Nat} {a : Nat} {st0 : List Value} (hC : Ct l0 D t y cb cn none crm (.ref a :: as) wc mc ms post) (hl : Cond.methodLink own idx y ∈ TB) (hcode : Cond.code y cb cn none ∈ TB) (hini : Cond.initialized y.cls ∈ TB) (him : Cond.instanceMethod y ∈ TB) (hiname : y.name = "<init>") (is ir : List Nat) (wr : va_W) (hC2 : is.map (fun i => ws[i]?) = wc.map some) (hR2 : ir.map (fun i => ws[i]?) = wr.map some) (hnd : va_nd is = true) (hnd2 : va_nd ir = true) (hdis : ∀ i ∈ ir, i ∉ is) (hd : decode b pc = .ok (.invokespecial idx, 3)) (hstk : st0 = as.reverse ++ .ref a :: st) (hdesc : zdesc y as.length = true) (hrm : crm.cells = mc ∧ crm.slots = ms ∧ crm.frames + 1 ≤ rm.frames ∧ 8 + (cn + 11) + crm.locals ≤ rm.locals) (hroom : (st.map fun v => v.category).sum ≤ 8) (hcs1 : cs.1 + mc ≤ rm.cells) (hcs2 : cs.2 + ms ≤ rm.slots) (kk : ∀ (v : Option Value) (w : va_W), post v w → Z D k (cs.1 + mc, cs.2 + ms) (wr ++ w) (pc + 3) lv (v.toList ++ st)) : Z D k cs ws pc lv st0 := by
  obtain ⟨p, l, e, R, s, m, args, below, meth, c, nL, A, Q⟩ := k
  obtain ⟨hx, hb, hml, hnl, hown, hts, hK, hA, hnm, hR, hl0⟩ := X
  intro H locs ls hP hD hS hl9
  subst hl0
  subst hR
  have hPc := hP.sub (ws' := wc) is (by
    have h := congrArg (fun z => z.filterMap id) hC2
    simpa [List.filterMap_map, Function.comp_def] using h)
  have hDc := hD.sub is hnd hC2
  have hFc := va_free hD hS hA is hC2
  refine zafter (va_runI (As := as) (rest := st) ⟨hx, hb, hml, hown, hts⟩ (hC H.size) ⟨callB_of as.length hts (zgood hcode) rfl hrm.1 hrm.2.1 (hts _ hini) (hts _ hl) (zdesc_spec hdesc) ⟨hrm.2.2.1, hrm.2.2.2⟩, hiname, hts _ him⟩ ⟨zblind, fun U hU hW => ⟨rfl, by rw [hU], by rw [hU]; exact hPc, hK.warm hW, hDc.weaken (fun _ _ _ _ => trivial)⟩⟩ rfl rfl (hl9.1.trans hnl) hstk (lv_room hroom) hd ⟨hcs1, hcs2⟩) hS hFc hFc (fun v w H1 locs1 hp hP1 hD1 hz hk hS1 => ?_)
  obtain ⟨hP2, hD2⟩ := va_join hP hD is ir hC2 hR2 hnd2 hdis hk hFc hP1 hD1
  exact kk v w hp H1 locs1 ls hP2 hD2 hS1 hl9
theorem zc_IN (X : zX D t k b n own nm rm l0) {idx : Nat} {a : Nat} {st0 : List Value} (hC : Ct l0 D t y cb cn none crm (.ref a :: as) wc mc ms post) {host : String} (hl : Cond.methodLinkNest own idx y host ∈ tables_1) (hcode : Cond.code y cb cn none ∈ TB) (hini : Cond.initialized y.cls ∈ TB) (him : Cond.instanceMethod y ∈ TB) (hiname : y.name = "<init>") (is : List Nat) (hC2 : is.map (fun i => ws[i]?) = wc.map some) (hnd : va_nd is = true) (hd : decode b pc = .ok (.invokespecial idx, 3)) (hstk : st0 = as.reverse ++ .ref a :: st) (hdesc : zdesc y as.length = true) (hrm : crm.cells = mc ∧ crm.slots = ms ∧ crm.frames + 1 ≤ rm.frames ∧ 8 + (cn + 11) + crm.locals ≤ rm.locals) (hroom : (st.map fun v => v.category).sum ≤ 8) (hcs1 : cs.1 + mc ≤ rm.cells) (hcs2 : cs.2 + ms ≤ rm.slots) (kk : ∀ (v : Option Value) (w : va_W), post v w → is.length = w.length ∧ Z D k (cs.1 + mc, cs.2 + ms) (zput ws is w) (pc + 3) lv (v.toList ++ st)) : Z D k cs ws pc lv st0 := by
  obtain ⟨p, l, e, R, s, m, args, below, meth, c, nL, A, Q⟩ := k
  obtain ⟨hx, hb, hml, hnl, hown, hts, hK, hA, hnm, hR, hl0⟩ := X
  intro H locs ls hP hD hS hl9
  subst hl0
  subst hR
  have hPc := hP.sub (ws' := wc) is (by
    have h := congrArg (fun z => z.filterMap id) hC2
    simpa [List.filterMap_map, Function.comp_def] using h)
  have hDc := hD.sub is hnd hC2
  have hFc := va_free hD hS hA is hC2
  refine zafter (va_runIN (As := as) (rest := st) ⟨hx, hb, hml, hown, hts⟩ (hC H.size) ⟨va_cnB as.length hts (zgood hcode) rfl hrm.1 hrm.2.1 (hK.2.1 _ hl rfl) (hts _ hini) (zdesc_spec hdesc) ⟨hrm.2.2.1, hrm.2.2.2⟩, hiname, hts _ him⟩ ⟨zblind, fun U hU hW => ⟨rfl, by rw [hU], by rw [hU]; exact hPc, hK.warm hW, hDc.weaken (fun _ _ _ _ => trivial)⟩⟩ rfl rfl (hl9.1.trans hnl) hstk (lv_room hroom) hd ⟨hcs1, hcs2⟩) hS hFc hFc (fun v w H1 locs1 hp hP1 hD1 hz hk hS1 => ?_)
  obtain ⟨hlen, kz⟩ := kk v w hp
  obtain ⟨hP2, hD2⟩ := zjoin hP hD is hC2 hnd hlen hk hFc hP1 hD1
  exact kz H1 locs1 ls hP2 hD2 hS1 hl9
theorem zc_INA (X : zX D t k b n own nm rm l0) {idx : Nat} {a : Nat} {st0 : List Value} (hC : Ct l0 D t y cb cn none crm (.ref a :: as) wc mc ms post) {host : String} (hl : Cond.methodLinkNest own idx y host ∈ tables_1) (hcode : Cond.code y cb cn none ∈ TB) (hini : Cond.initialized y.cls ∈ TB) (him : Cond.instanceMethod y ∈ TB) (hiname : y.name = "<init>") (is ir : List Nat) (wr : va_W) (hC2 : is.map (fun i => ws[i]?) = wc.map some) (hR2 : ir.map (fun i => ws[i]?) = wr.map some) (hnd : va_nd is = true) (hnd2 : va_nd ir = true) (hdis : ∀ i ∈ ir, i ∉ is) (hd : decode b pc = .ok (.invokespecial idx, 3)) (hstk : st0 = as.reverse ++ .ref a :: st) (hdesc : zdesc y as.length = true) (hrm : crm.cells = mc ∧ crm.slots = ms ∧ crm.frames + 1 ≤ rm.frames ∧ 8 + (cn + 11) + crm.locals ≤ rm.locals) (hroom : (st.map fun v => v.category).sum ≤ 8) (hcs1 : cs.1 + mc ≤ rm.cells) (hcs2 : cs.2 + ms ≤ rm.slots) (kk : ∀ (v : Option Value) (w : va_W), post v w → Z D k (cs.1 + mc, cs.2 + ms) (wr ++ w) (pc + 3) lv (v.toList ++ st)) : Z D k cs ws pc lv st0 := by
  obtain ⟨p, l, e, R, s, m, args, below, meth, c, nL, A, Q⟩ := k
  obtain ⟨hx, hb, hml, hnl, hown, hts, hK, hA, hnm, hR, hl0⟩ := X
  intro H locs ls hP hD hS hl9
  subst hl0
  subst hR
  have hPc := hP.sub (ws' := wc) is (by
    have h := congrArg (fun z => z.filterMap id) hC2
    simpa [List.filterMap_map, Function.comp_def] using h)
  have hDc := hD.sub is hnd hC2
  have hFc := va_free hD hS hA is hC2
  refine zafter (va_runIN (As := as) (rest := st) ⟨hx, hb, hml, hown, hts⟩ (hC H.size) ⟨va_cnB as.length hts (zgood hcode) rfl hrm.1 hrm.2.1 (hK.2.1 _ hl rfl) (hts _ hini) (zdesc_spec hdesc) ⟨hrm.2.2.1, hrm.2.2.2⟩, hiname, hts _ him⟩ ⟨zblind, fun U hU hW => ⟨rfl, by rw [hU], by rw [hU]; exact hPc, hK.warm hW, hDc.weaken (fun _ _ _ _ => trivial)⟩⟩ rfl rfl (hl9.1.trans hnl) hstk (lv_room hroom) hd ⟨hcs1, hcs2⟩) hS hFc hFc (fun v w H1 locs1 hp hP1 hD1 hz hk hS1 => ?_)
  obtain ⟨hP2, hD2⟩ := va_join hP hD is ir hC2 hR2 hnd2 hdis hk hFc hP1 hD1
  exact kk v w hp H1 locs1 ls hP2 hD2 hS1 hl9
end ZC
