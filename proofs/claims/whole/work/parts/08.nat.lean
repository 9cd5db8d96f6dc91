abbrev eX0 (a : Nat) (f0 : Int32) (f1 : Int32) (f2 : Int32) (f3 : Int32) (f4 : Int32) : Nat × va_E := (a, .inr (0, [.int f0, .int f1, .int f2, .int f3, .int f4]))
abbrev eX1 (a : Nat) (f0 : Nat) (f1 : Int32) : Nat × va_E := (a, .inr (1, [.ref f0, .int f1]))
abbrev eX2 (a : Nat) (f0 : Nat) (f1 : Int32) (f2 : Int32) (f3 : Int32) (f4 : Int32) (f5 : Nat) (f6 : Int32) : Nat × va_E := (a, .inr (2, [.ref f0, .int f1, .int f2, .int f3, .int f4, .ref f5, .int f6]))
abbrev eX3 (a : Nat) (f0 : Nat) (f1 : Nat) (f2 : Nat) (f3 : Int32) (f4 : Int32) (f5 : Int32) (f6 : Int32) (f7 : Int64) (f8 : Int64) : Nat × va_E := (a, .inr (3, [.ref f0, .ref f1, .ref f2, .int f3, .int f4, .int f5, .int f6, .long f7, .long f8]))
abbrev eX4 (a : Nat) (f0 : Nat) (f1 : Nat) (f2 : Nat) (f3 : Nat) (f4 : Nat) (f5 : Nat) (f6 : Nat) (f7 : Nat) (f8 : Int32) (f9 : Int32) : Nat × va_E := (a, .inr (4, [.ref f0, .ref f1, .ref f2, .ref f3, .ref f4, .ref f5, .ref f6, .ref f7, .int f8, .int f9]))
abbrev eX5 (a : Nat) (f0 : Nat) (f1 : Int32) (f2 : Nat) (f3 : Nat) (f4 : Int32) (f5 : Nat) (f6 : Int32) (f7 : Nat) (f8 : Int32) (f9 : Nat) (f10 : Int32) (f11 : Int32) (f12 : Nat) (f13 : Nat) (f14 : Nat) (f15 : Nat) (f16 : Int64) : Nat × va_E := (a, .inr (5, [.ref f0, .int f1, .ref f2, .ref f3, .int f4, .ref f5, .int f6, .ref f7, .int f8, .ref f9, .int f10, .int f11, .ref f12, .ref f13, .ref f14, .ref f15, .long f16]))
abbrev eI (t : zT) (a n : Nat) (f : Nat → Int32) : Nat × va_E := (a, .inl (t.1, n, .inl f))
abbrev eC (t : zT) (a n : Nat) (f : Nat → Int32) : Nat × va_E := (a, .inl (t.2.2.1, n, .inl f))
abbrev eL (t : zT) (a n : Nat) (f : Nat → Int64) : Nat × va_E := (a, .inl (t.2.1, n, .inr (.inl f)))
abbrev eQ (t : zT) (a n : Nat) (f : Nat → Option Nat) : Nat × va_E := (a, .inl (t.2.2.2, n, .inr (.inr (.inr (.inr f)))))
/-- a row of natural numbers as ints, as longs -/
abbrev nf (g : Nat → Nat) : Nat → Int32 := fun i => nI (g i)
abbrev lf (g : Nat → Nat) : Nat → Int64 := fun i => lN (g i)
def vup {α : Type} (g : Nat → α) (j : Nat) (x : α) : Nat → α := fun i => if i = j then x else g i
theorem vup_s {α : Type} (g : Nat → α) (j : Nat) (x : α) : vup g j x j = x := by simp [vup]
theorem vup_n {α : Type} {g : Nat → α} {j i : Nat} {x : α} (h : i ≠ j) : vup g j x i = g i := by simp [vup, h]
theorem upd_nf (g : Nat → Nat) (j x : Nat) : upd (nf g) j (nI x) = nf (vup g j x) := by
  funext i; by_cases h : i = j <;> simp [upd, vup, nf, h]
theorem updL_lf (g : Nat → Nat) (j x : Nat) : vp_updL (lf g) j (lN x) = lf (vup g j x) := by
  funext i; by_cases h : i = j <;> simp [vp_updL, vup, lf, h]
theorem nI_inc (i : Nat) : nI i + Int32.ofInt 1 = nI (i + 1) := nI_1 i
theorem nI_incc (i c : Nat) : nI i + Int32.ofInt (c : Int) = nI (i + c) := nI_add i c
def zb (P : Prop) [Decidable P] : Int32 := if P then 1 else 0
theorem zb_t {P : Prop} [Decidable P] (h : P) : (1 : Int32) = zb P := by simp [zb, h]
theorem zb_f {P : Prop} [Decidable P] (h : ¬ P) : (0 : Int32) = zb P := by simp [zb, h]
theorem nzb_t {P : Prop} [Decidable P] (h : P) : nI 1 = zb P := by simp [zb, h]; rfl
theorem nzb_f {P : Prop} [Decidable P] (h : ¬ P) : nI 0 = zb P := by simp [zb, h]; rfl
theorem zb_eq0 {P : Prop} [Decidable P] : zb P = 0 ↔ ¬ P := by by_cases h : P <;> simp [zb, h]
theorem zb_congr {P Q : Prop} [Decidable P] [Decidable Q] (h : P ↔ Q) : zb P = zb Q := by simp [zb, h]
theorem zb_nar (P : Prop) [Decidable P] : narrow .boolean (.int (zb P)) = .int (zb P) := by by_cases h : P <;> simp [zb, h] <;> rfl
theorem zb1_nar : narrow .boolean (.int (nI 1)) = .int (nI 1) := rfl
theorem zb0_nar : narrow .boolean (.int (nI 0)) = .int (nI 0) := rfl
section ZN
variable {D : va_G} {t : zT} {k : zK} {b : ByteArray} {n : Nat} {own nm : String} {rm : Room} {l0 : Launch} {cs : Nat × Nat} {ws : va_W} {pc : Nat} {lv : List (Nat × Value)} {st : List Value}
theorem z_icmp_eqN (X : zX D t k b n own nm rm l0) {x y : Nat} {off : Int} (tgt : Nat) (hx : x < 2 ^ 31) (hy : y < 2 ^ 31) (hd : decode b pc = .ok (.if_icmp .eq off, 3)) (ht : (pc : Int) + off = (tgt : Int)) (kt : x = y → Z D k cs ws tgt lv st) (kf : ¬ (x = y) → Z D k cs ws (pc + 3) lv st) : Z D k cs ws pc lv (.int (nI y) :: .int (nI x) :: st) := z_icmp_eq X tgt hd ht (fun h => kt ((nI_eq hx hy).mp h)) (fun h => kf (fun z => h ((nI_eq hx hy).mpr z)))
theorem z_icmp_neN (X : zX D t k b n own nm rm l0) {x y : Nat} {off : Int} (tgt : Nat) (hx : x < 2 ^ 31) (hy : y < 2 ^ 31) (hd : decode b pc = .ok (.if_icmp .ne off, 3)) (ht : (pc : Int) + off = (tgt : Int)) (kt : ¬ x = y → Z D k cs ws tgt lv st) (kf : x = y → Z D k cs ws (pc + 3) lv st) : Z D k cs ws pc lv (.int (nI y) :: .int (nI x) :: st) := z_icmp_ne X tgt hd ht (fun h => kt (fun z => h ((nI_eq hx hy).mpr z))) (fun h => kf ((nI_eq hx hy).mp h))
theorem z_icmp_ltN (X : zX D t k b n own nm rm l0) {x y : Nat} {off : Int} (tgt : Nat) (hx : x < 2 ^ 31) (hy : y < 2 ^ 31) (hd : decode b pc = .ok (.if_icmp .lt off, 3)) (ht : (pc : Int) + off = (tgt : Int)) (kt : x < y → Z D k cs ws tgt lv st) (kf : ¬ (x < y) → Z D k cs ws (pc + 3) lv st) : Z D k cs ws pc lv (.int (nI y) :: .int (nI x) :: st) := z_icmp_lt X tgt hd ht (fun h => kt ((nI_ltI hx hy).mp h)) (fun h => kf (fun z => h ((nI_ltI hx hy).mpr z)))
theorem z_icmp_geN (X : zX D t k b n own nm rm l0) {x y : Nat} {off : Int} (tgt : Nat) (hx : x < 2 ^ 31) (hy : y < 2 ^ 31) (hd : decode b pc = .ok (.if_icmp .ge off, 3)) (ht : (pc : Int) + off = (tgt : Int)) (kt : y ≤ x → Z D k cs ws tgt lv st) (kf : ¬ (y ≤ x) → Z D k cs ws (pc + 3) lv st) : Z D k cs ws pc lv (.int (nI y) :: .int (nI x) :: st) := z_icmp_ge X tgt hd ht (fun h => kt ((nI_leI hy hx).mp h)) (fun h => kf (fun z => h ((nI_leI hy hx).mpr z)))
theorem z_icmp_gtN (X : zX D t k b n own nm rm l0) {x y : Nat} {off : Int} (tgt : Nat) (hx : x < 2 ^ 31) (hy : y < 2 ^ 31) (hd : decode b pc = .ok (.if_icmp .gt off, 3)) (ht : (pc : Int) + off = (tgt : Int)) (kt : y < x → Z D k cs ws tgt lv st) (kf : ¬ (y < x) → Z D k cs ws (pc + 3) lv st) : Z D k cs ws pc lv (.int (nI y) :: .int (nI x) :: st) := z_icmp_gt X tgt hd ht (fun h => kt ((nI_ltI hy hx).mp h)) (fun h => kf (fun z => h ((nI_ltI hy hx).mpr z)))
theorem z_icmp_leN (X : zX D t k b n own nm rm l0) {x y : Nat} {off : Int} (tgt : Nat) (hx : x < 2 ^ 31) (hy : y < 2 ^ 31) (hd : decode b pc = .ok (.if_icmp .le off, 3)) (ht : (pc : Int) + off = (tgt : Int)) (kt : x ≤ y → Z D k cs ws tgt lv st) (kf : ¬ (x ≤ y) → Z D k cs ws (pc + 3) lv st) : Z D k cs ws pc lv (.int (nI y) :: .int (nI x) :: st) := z_icmp_le X tgt hd ht (fun h => kt ((nI_leI hx hy).mp h)) (fun h => kf (fun z => h ((nI_leI hx hy).mpr z)))
theorem z_if_eqN (X : zX D t k b n own nm rm l0) {x : Nat} {off : Int} (tgt : Nat) (hx : x < 2 ^ 31) (hd : decode b pc = .ok (.ifCond .eq off, 3)) (ht : (pc : Int) + off = (tgt : Int)) (kt : x = 0 → Z D k cs ws tgt lv st) (kf : ¬ x = 0 → Z D k cs ws (pc + 3) lv st) : Z D k cs ws pc lv (.int (nI x) :: st) := z_if_eq X tgt hd ht (fun h => kt ((nI_eq hx (by decide)).mp (h.trans nI_0.symm))) (fun h => kf (fun z => h (z ▸ nI_0)))
theorem z_if_neN (X : zX D t k b n own nm rm l0) {x : Nat} {off : Int} (tgt : Nat) (hx : x < 2 ^ 31) (hd : decode b pc = .ok (.ifCond .ne off, 3)) (ht : (pc : Int) + off = (tgt : Int)) (kt : ¬ x = 0 → Z D k cs ws tgt lv st) (kf : x = 0 → Z D k cs ws (pc + 3) lv st) : Z D k cs ws pc lv (.int (nI x) :: st) := z_if_ne X tgt hd ht (fun h => kt (fun z => h (z ▸ nI_0))) (fun h => kf ((nI_eq hx (by decide)).mp (h.trans nI_0.symm)))
theorem z_if_ltN (X : zX D t k b n own nm rm l0) {x : Nat} {off : Int} (tgt : Nat) (hx : x < 2 ^ 31) (hd : decode b pc = .ok (.ifCond .lt off, 3)) (ht : (pc : Int) + off = (tgt : Int)) (kf : Z D k cs ws (pc + 3) lv st) : Z D k cs ws pc lv (.int (nI x) :: st) := z_if_lt X tgt hd ht (fun h => absurd h (nI_pos hx)) (fun _ => kf)
theorem z_if_geN (X : zX D t k b n own nm rm l0) {x : Nat} {off : Int} (tgt : Nat) (hx : x < 2 ^ 31) (hd : decode b pc = .ok (.ifCond .ge off, 3)) (ht : (pc : Int) + off = (tgt : Int)) (kt : Z D k cs ws tgt lv st) : Z D k cs ws pc lv (.int (nI x) :: st) := z_if_ge X tgt hd ht (fun _ => kt) (fun h => absurd (nI_pos' hx) h)
theorem z_if_leN (X : zX D t k b n own nm rm l0) {x : Nat} {off : Int} (tgt : Nat) (hx : x < 2 ^ 31) (hd : decode b pc = .ok (.ifCond .le off, 3)) (ht : (pc : Int) + off = (tgt : Int)) (kt : x = 0 → Z D k cs ws tgt lv st) (kf : 0 < x → Z D k cs ws (pc + 3) lv st) : Z D k cs ws pc lv (.int (nI x) :: st) := z_if_le X tgt hd ht (fun h => kt (by rw [← nI_0] at h; have := (nI_leI hx (by decide)).mp h; omega)) (fun h => kf (by rcases Nat.eq_zero_or_pos x with q | q; exact absurd (by rw [q, nI_0]; exact Int32.le_refl _) h; exact q))
theorem z_if_gtN (X : zX D t k b n own nm rm l0) {x : Nat} {off : Int} (tgt : Nat) (hx : x < 2 ^ 31) (hd : decode b pc = .ok (.ifCond .gt off, 3)) (ht : (pc : Int) + off = (tgt : Int)) (kt : 0 < x → Z D k cs ws tgt lv st) (kf : x = 0 → Z D k cs ws (pc + 3) lv st) : Z D k cs ws pc lv (.int (nI x) :: st) := z_if_gt X tgt hd ht (fun h => kt (by rw [← nI_0] at h; exact (nI_ltI (by decide) hx).mp h)) (fun h => kf (by rcases Nat.eq_zero_or_pos x with q | q; exact q; exact absurd (by rw [← nI_0]; exact (nI_ltI (by decide) hx).mpr q) h))
theorem z_if_eqB (X : zX D t k b n own nm rm l0) {P : Prop} [Decidable P] {off : Int} (tgt : Nat) (hd : decode b pc = .ok (.ifCond .eq off, 3)) (ht : (pc : Int) + off = (tgt : Int)) (kt : ¬ P → Z D k cs ws tgt lv st) (kf : P → Z D k cs ws (pc + 3) lv st) : Z D k cs ws pc lv (.int (zb P) :: st) := z_if_eq X tgt hd ht (fun h => kt (zb_eq0.mp h)) (fun h => kf (Decidable.not_not.mp (fun z => h (zb_eq0.mpr z))))
theorem z_if_neB (X : zX D t k b n own nm rm l0) {P : Prop} [Decidable P] {off : Int} (tgt : Nat) (hd : decode b pc = .ok (.ifCond .ne off, 3)) (ht : (pc : Int) + off = (tgt : Int)) (kt : P → Z D k cs ws tgt lv st) (kf : ¬ P → Z D k cs ws (pc + 3) lv st) : Z D k cs ws pc lv (.int (zb P) :: st) := z_if_ne X tgt hd ht (fun h => kt (Decidable.not_not.mp (fun z => h (zb_eq0.mpr z)))) (fun h => kf (zb_eq0.mp h))
theorem z_lcmp_eqN (X : zX D t k b n own nm rm l0) {x y : Nat} {off : Int} (tgt : Nat) (hx : x < 2 ^ 63) (hy : y < 2 ^ 63) (hd1 : decode b pc = .ok (.lcmp, 1)) (hd : decode b (pc + 1) = .ok (.ifCond .eq off, 3)) (ht : ((pc + 1 : Nat) : Int) + off = (tgt : Int)) (kt : x = y → Z D k cs ws tgt lv st) (kf : ¬ (x = y) → Z D k cs ws (pc + 4) lv st) : Z D k cs ws pc lv (.long (lN y) :: .long (lN x) :: st) := z_lcmp_eq X tgt hd1 hd ht (fun h => kt ((pk_lEQ hx hy).mp h)) (fun h => kf (fun z => h ((pk_lEQ hx hy).mpr z)))
theorem z_lcmp_ltN (X : zX D t k b n own nm rm l0) {x y : Nat} {off : Int} (tgt : Nat) (hx : x < 2 ^ 63) (hy : y < 2 ^ 63) (hd1 : decode b pc = .ok (.lcmp, 1)) (hd : decode b (pc + 1) = .ok (.ifCond .lt off, 3)) (ht : ((pc + 1 : Nat) : Int) + off = (tgt : Int)) (kt : x < y → Z D k cs ws tgt lv st) (kf : ¬ (x < y) → Z D k cs ws (pc + 4) lv st) : Z D k cs ws pc lv (.long (lN y) :: .long (lN x) :: st) := z_lcmp_lt X tgt hd1 hd ht (fun h => kt ((pk_lLT hx hy).mp h)) (fun h => kf (fun z => h ((pk_lLT hx hy).mpr z)))
theorem z_lcmp_geN (X : zX D t k b n own nm rm l0) {x y : Nat} {off : Int} (tgt : Nat) (hx : x < 2 ^ 63) (hy : y < 2 ^ 63) (hd1 : decode b pc = .ok (.lcmp, 1)) (hd : decode b (pc + 1) = .ok (.ifCond .ge off, 3)) (ht : ((pc + 1 : Nat) : Int) + off = (tgt : Int)) (kt : y ≤ x → Z D k cs ws tgt lv st) (kf : ¬ (y ≤ x) → Z D k cs ws (pc + 4) lv st) : Z D k cs ws pc lv (.long (lN y) :: .long (lN x) :: st) := z_lcmp_ge X tgt hd1 hd ht (fun h => kt ((pk_lLE hy hx).mp h)) (fun h => kf (fun z => h ((pk_lLE hy hx).mpr z)))
theorem z_lcmp_gtN (X : zX D t k b n own nm rm l0) {x y : Nat} {off : Int} (tgt : Nat) (hx : x < 2 ^ 63) (hy : y < 2 ^ 63) (hd1 : decode b pc = .ok (.lcmp, 1)) (hd : decode b (pc + 1) = .ok (.ifCond .gt off, 3)) (ht : ((pc + 1 : Nat) : Int) + off = (tgt : Int)) (kt : y < x → Z D k cs ws tgt lv st) (kf : ¬ (y < x) → Z D k cs ws (pc + 4) lv st) : Z D k cs ws pc lv (.long (lN y) :: .long (lN x) :: st) := z_lcmp_gt X tgt hd1 hd ht (fun h => kt ((pk_lLT hy hx).mp h)) (fun h => kf (fun z => h ((pk_lLT hy hx).mpr z)))
theorem z_lcmp_leN (X : zX D t k b n own nm rm l0) {x y : Nat} {off : Int} (tgt : Nat) (hx : x < 2 ^ 63) (hy : y < 2 ^ 63) (hd1 : decode b pc = .ok (.lcmp, 1)) (hd : decode b (pc + 1) = .ok (.ifCond .le off, 3)) (ht : ((pc + 1 : Nat) : Int) + off = (tgt : Int)) (kt : x ≤ y → Z D k cs ws tgt lv st) (kf : ¬ (x ≤ y) → Z D k cs ws (pc + 4) lv st) : Z D k cs ws pc lv (.long (lN y) :: .long (lN x) :: st) := z_lcmp_le X tgt hd1 hd ht (fun h => kt ((pk_lLE hx hy).mp h)) (fun h => kf (fun z => h ((pk_lLE hx hy).mpr z)))
theorem z_lcmp_neN (X : zX D t k b n own nm rm l0) {x y : Nat} {off : Int} (tgt : Nat) (hx : x < 2 ^ 63) (hy : y < 2 ^ 63) (hd1 : decode b pc = .ok (.lcmp, 1)) (hd : decode b (pc + 1) = .ok (.ifCond .ne off, 3)) (ht : ((pc + 1 : Nat) : Int) + off = (tgt : Int)) (kt : ¬ x = y → Z D k cs ws tgt lv st) (kf : x = y → Z D k cs ws (pc + 4) lv st) : Z D k cs ws pc lv (.long (lN y) :: .long (lN x) :: st) := z_lcmp_ne X tgt hd1 hd ht (fun h => kt (fun z => h ((pk_lEQ hx hy).mpr z))) (fun h => kf ((pk_lEQ hx hy).mp h))
theorem arrV_cong {cA : ClassId} {N : Nat} {f g : Nat → Value} (h : ∀ j, j < N → f j = g j) : arrV cA N f = arrV cA N g := by
  have e : (fun j : Fin N => f j.val) = fun j : Fin N => g j.val := funext fun j => h j.val j.isLt
  simp only [arrV, e]
theorem z_cellrow {a : Nat} {e1 e2 : va_E} (q : Nat) (ws2 : va_W) (he : ws[q]? = some (a, e1)) (h : ∀ H : Heap, va_at D vwCl (a, e1) H → va_at D vwCl (a, e2) H) (hw : ws.set q (a, e2) = ws2) (kk : Z D k cs ws2 pc lv st) : Z D k cs ws pc lv st := by
  obtain ⟨p, l, e, R, s, m, args, below, meth, c, nL, A, Q⟩ := k
  intro H locs ls hP hD hS hl
  subst hw
  exact kk H locs ls (hP.set hD he (h H (hP q _ he)) (fun _ _ => rfl)) (hD.set he) hS hl
/-- a row may be said otherwise, where it is the same below its length -/
theorem z_lrow {a N : Nat} {cA : ClassId} {f : Nat → Int64} (q : Nat) (g : Nat → Int64) (ws2 : va_W) (he : ws[q]? = some (a, .inl (cA, N, .inr (.inl f)))) (h : ∀ j, j < N → f j = g j) (hw : ws.set q (a, .inl (cA, N, .inr (.inl g))) = ws2) (kk : Z D k cs ws2 pc lv st) : Z D k cs ws pc lv st :=
  z_cellrow q ws2 he (fun H hz => by
    have hz : H[a]? = some (arrV cA N (fun j => .long (f j))) := hz
    show H[a]? = some (arrV cA N (fun j => .long (g j)))
    rw [hz, arrV_cong (fun j hj => by rw [h j hj])]) hw kk
theorem z_irow {a N : Nat} {cA : ClassId} {f : Nat → Int32} (q : Nat) (g : Nat → Int32) (ws2 : va_W) (he : ws[q]? = some (a, .inl (cA, N, .inl f))) (h : ∀ j, j < N → f j = g j) (hw : ws.set q (a, .inl (cA, N, .inl g)) = ws2) (kk : Z D k cs ws2 pc lv st) : Z D k cs ws pc lv st :=
  z_cellrow q ws2 he (fun H hz => by
    have hz : H[a]? = some (arrV cA N (fun j => .int (f j))) := hz
    show H[a]? = some (arrV cA N (fun j => .int (g j)))
    rw [hz, arrV_cong (fun j hj => by rw [h j hj])]) hw kk
/-- the world's cells in another order -/
theorem z_perm (is : List Nat) (ws2 : va_W) (h : is.map (fun i => ws[i]?) = ws2.map some) (hn : va_nd is = true) (kk : Z D k cs ws2 pc lv st) : Z D k cs ws pc lv st := by
  obtain ⟨p, l, e, R, s, m, args, below, meth, c, nL, A, Q⟩ := k
  intro H locs ls hP hD hS hl
  exact kk H locs ls (hP.sub is (by
    have h9 := congrArg (fun z => z.filterMap id) h
    simpa [List.filterMap_map, Function.comp_def] using h9)) (hD.sub is hn h) hS hl
end ZN
theorem zdX0_init : zdesc yX0_init 0 = true := by decide +kernel
theorem zdX0_copyFrom : zdesc yX0_copyFrom 1 = true := by decide +kernel
theorem zdX0_setBoxes : zdesc yX0_setBoxes 2 = true := by decide +kernel
theorem zdX0_setBox : zdesc yX0_setBox 2 = true := by decide +kernel
theorem zdX0_setHand : zdesc yX0_setHand 2 = true := by decide +kernel
theorem zdX0_inBox : zdesc yX0_inBox 1 = true := by decide +kernel
theorem zdX0_matches : zdesc yX0_matches 0 = true := by decide +kernel
theorem zdX0_quartersToLeft : zdesc yX0_quartersToLeft 0 = true := by decide +kernel
theorem zdX0_draw : zdesc yX0_draw 1 = true := by decide +kernel
theorem zdX1_init : zdesc yX1_init 1 = true := by decide +kernel
theorem zdX1_size : zdesc yX1_size 0 = true := by decide +kernel
theorem zdX1_isFull : zdesc yX1_isFull 0 = true := by decide +kernel
theorem zdX1_clear : zdesc yX1_clear 0 = true := by decide +kernel
theorem zdX1_put : zdesc yX1_put 1 = true := by decide +kernel
theorem zdX1_takeLast : zdesc yX1_takeLast 1 = true := by decide +kernel
theorem zdX1_dropOldest : zdesc yX1_dropOldest 0 = true := by decide +kernel
theorem zdX2_init : zdesc yX2_init 0 = true := by decide +kernel
theorem zdX2_size : zdesc yX2_size 0 = true := by decide +kernel
theorem zdX2_clear : zdesc yX2_clear 0 = true := by decide +kernel
theorem zdX2_append : zdesc yX2_append 1 = true := by decide +kernel
theorem zdX2_firstFault : zdesc yX2_firstFault 0 = true := by decide +kernel
theorem zdX2_readItem : zdesc yX2_readItem 0 = true := by decide +kernel
theorem zdX2_tellBoxes : zdesc yX2_tellBoxes 0 = true := by decide +kernel
theorem zdX2_tellHand : zdesc yX2_tellHand 0 = true := by decide +kernel
theorem zdX2_tellLast : zdesc yX2_tellLast 0 = true := by decide +kernel
theorem zdX2_tellEvening : zdesc yX2_tellEvening 0 = true := by decide +kernel
theorem zdX2_readOne : zdesc yX2_readOne 0 = true := by decide +kernel
theorem zdX2_readTwo : zdesc yX2_readTwo 0 = true := by decide +kernel
theorem zdX2_readNumber : zdesc yX2_readNumber 0 = true := by decide +kernel
theorem zdX2_readFigure : zdesc yX2_readFigure 0 = true := by decide +kernel
theorem zdX2_readSign : zdesc yX2_readSign 1 = true := by decide +kernel
theorem zdX2_letterHere : zdesc yX2_letterHere 0 = true := by decide +kernel
theorem zdX3_init : zdesc yX3_init 0 = true := by decide +kernel
theorem zdX3_start : zdesc yX3_start 2 = true := by decide +kernel
theorem zdX3_advance : zdesc yX3_advance 1 = true := by decide +kernel
theorem zdX3_reachesTillEnd : zdesc yX3_reachesTillEnd 0 = true := by decide +kernel
theorem zdX3_keepOnly : zdesc yX3_keepOnly 2 = true := by decide +kernel
theorem zdX3_standing : zdesc yX3_standing 0 = true := by decide +kernel
theorem zdX3_chanceOfOther : zdesc yX3_chanceOfOther 1 = true := by decide +kernel
theorem zdX3_chanceOfLeftFirst : zdesc yX3_chanceOfLeftFirst 0 = true := by decide +kernel
theorem zdX3_chanceOfLevel : zdesc yX3_chanceOfLevel 0 = true := by decide +kernel
theorem zdX3_advanceOnce : zdesc yX3_advanceOnce 0 = true := by decide +kernel
theorem zdX3_follow : zdesc yX3_follow 4 = true := by decide +kernel
theorem zdX3_endBy : zdesc yX3_endBy 3 = true := by decide +kernel
theorem zdX3_addTo : zdesc yX3_addTo 4 = true := by decide +kernel
theorem zdX3_wipeRow : zdesc yX3_wipeRow 1 = true := by decide +kernel
theorem zdX4_init : zdesc yX4_init 0 = true := by decide +kernel
theorem zdX4_write : zdesc yX4_write 1 = true := by decide +kernel
theorem zdX4_wipe : zdesc yX4_wipe 0 = true := by decide +kernel
theorem zdX4_fault : zdesc yX4_fault 0 = true := by decide +kernel
theorem zdX4_lay : zdesc yX4_lay 0 = true := by decide +kernel
theorem zdX4_box : zdesc yX4_box 1 = true := by decide +kernel
theorem zdX4_quarters : zdesc yX4_quarters 1 = true := by decide +kernel
theorem zdX4_reach : zdesc yX4_reach 1 = true := by decide +kernel
theorem zdX4_putOver : zdesc yX4_putOver 2 = true := by decide +kernel
theorem zdX4_buy : zdesc yX4_buy 1 = true := by decide +kernel
theorem zdX4_hand : zdesc yX4_hand 2 = true := by decide +kernel
theorem zdX4_undo : zdesc yX4_undo 0 = true := by decide +kernel
theorem zdX4_left : zdesc yX4_left 2 = true := by decide +kernel
theorem zdX4_mean : zdesc yX4_mean 1 = true := by decide +kernel
theorem zdX4_soon : zdesc yX4_soon 2 = true := by decide +kernel
theorem zdX4_times : zdesc yX4_times 1 = true := by decide +kernel
theorem zdX4_likeliest : zdesc yX4_likeliest 1 = true := by decide +kernel
theorem zdX4_level : zdesc yX4_level 1 = true := by decide +kernel
theorem zdX4_worth : zdesc yX4_worth 1 = true := by decide +kernel
theorem zdX4_begin : zdesc yX4_begin 3 = true := by decide +kernel
theorem zdX4_over : zdesc yX4_over 1 = true := by decide +kernel
theorem zdX4_seen : zdesc yX4_seen 2 = true := by decide +kernel
theorem zdX4_forget : zdesc yX4_forget 0 = true := by decide +kernel
theorem zdX4_fits : zdesc yX4_fits 0 = true := by decide +kernel
theorem zdX4_asLikely : zdesc yX4_asLikely 2 = true := by decide +kernel
theorem zdX4_evenings : zdesc yX4_evenings 1 = true := by decide +kernel
theorem zdX4_which : zdesc yX4_which 0 = true := by decide +kernel
theorem zdX4_better : zdesc yX4_better 4 = true := by decide +kernel
theorem zdX4_coat : zdesc yX4_coat 3 = true := by decide +kernel
theorem zdX4_keep : zdesc yX4_keep 0 = true := by decide +kernel
theorem zdX4_back : zdesc yX4_back 0 = true := by decide +kernel
theorem zdX4_count : zdesc yX4_count 1 = true := by decide +kernel
theorem zdX4_startFrom : zdesc yX4_startFrom 3 = true := by decide +kernel
theorem zdX4_walkToEnd : zdesc yX4_walkToEnd 1 = true := by decide +kernel
theorem zdX4_reachesWith : zdesc yX4_reachesWith 2 = true := by decide +kernel
theorem zdX4_startByHand : zdesc yX4_startByHand 2 = true := by decide +kernel
theorem zdX4_reachesByHand : zdesc yX4_reachesByHand 2 = true := by decide +kernel
theorem zdX4_likeliestQuarters : zdesc yX4_likeliestQuarters 1 = true := by decide +kernel
theorem zdX4_chanceOfSeen : zdesc yX4_chanceOfSeen 2 = true := by decide +kernel
theorem zdX4_drawOf : zdesc yX4_drawOf 2 = true := by decide +kernel
theorem zdX4_tenThousandths : zdesc yX4_tenThousandths 1 = true := by decide +kernel
theorem zdX4_hundredfold : zdesc yX4_hundredfold 1 = true := by decide +kernel
theorem zdX4_handToLeft : zdesc yX4_handToLeft 5 = true := by decide +kernel
theorem zdX4_leaning : zdesc yX4_leaning 3 = true := by decide +kernel
theorem zdX4_otherSide : zdesc yX4_otherSide 1 = true := by decide +kernel
theorem zdX4_within : zdesc yX4_within 3 = true := by decide +kernel
theorem zdX4_isSide : zdesc yX4_isSide 1 = true := by decide +kernel
theorem zdX4_isEnd : zdesc yX4_isEnd 1 = true := by decide +kernel
theorem zdX4_isPart : zdesc yX4_isPart 1 = true := by decide +kernel
theorem zdX4_isKind : zdesc yX4_isKind 1 = true := by decide +kernel
theorem zdX4_isHand : zdesc yX4_isHand 2 = true := by decide +kernel
theorem zdX5_init : zdesc yX5_init 0 = true := by decide +kernel
theorem zdX5_in : zdesc yX5_in 3 = true := by decide +kernel
theorem zdX5_write : zdesc yX5_write 1 = true := by decide +kernel
theorem zdX5_wipe : zdesc yX5_wipe 0 = true := by decide +kernel
theorem zdX5_letterAt : zdesc yX5_letterAt 1 = true := by decide +kernel
theorem zdX5_isFigure : zdesc yX5_isFigure 1 = true := by decide +kernel
theorem zdX5_number : zdesc yX5_number 3 = true := by decide +kernel
theorem zdX5_begins : zdesc yX5_begins 0 = true := by decide +kernel
theorem zdX5_readsTwo : zdesc yX5_readsTwo 3 = true := by decide +kernel
theorem zdX5_readsItem : zdesc yX5_readsItem 1 = true := by decide +kernel
theorem zdX5_readsAll : zdesc yX5_readsAll 0 = true := by decide +kernel
theorem zdX5_fault : zdesc yX5_fault 0 = true := by decide +kernel
theorem zdX5_lays : zdesc yX5_lays 0 = true := by decide +kernel
theorem zdX5_lay : zdesc yX5_lay 0 = true := by decide +kernel
theorem zdX5_box : zdesc yX5_box 1 = true := by decide +kernel
theorem zdX5_toLeft : zdesc yX5_toLeft 5 = true := by decide +kernel
theorem zdX5_quarters : zdesc yX5_quarters 1 = true := by decide +kernel
theorem zdX5_keeps : zdesc yX5_keeps 0 = true := by decide +kernel
theorem zdX5_reach : zdesc yX5_reach 1 = true := by decide +kernel
theorem zdX5_putOver : zdesc yX5_putOver 2 = true := by decide +kernel
theorem zdX5_buy : zdesc yX5_buy 1 = true := by decide +kernel
theorem zdX5_hand : zdesc yX5_hand 2 = true := by decide +kernel
theorem zdX5_undo : zdesc yX5_undo 0 = true := by decide +kernel
theorem zdX5_spot : zdesc yX5_spot 3 = true := by decide +kernel
theorem zdX5_begin0 : zdesc yX5_begin0 3 = true := by decide +kernel
theorem zdX5_goes : zdesc yX5_goes 5 = true := by decide +kernel
theorem zdX5_clears : zdesc yX5_clears 0 = true := by decide +kernel
theorem zdX5_weighs : zdesc yX5_weighs 5 = true := by decide +kernel
theorem zdX5_weighsNow : zdesc yX5_weighsNow 1 = true := by decide +kernel
theorem zdX5_cut : zdesc yX5_cut 2 = true := by decide +kernel
theorem zdX5_isEnd : zdesc yX5_isEnd 1 = true := by decide +kernel
theorem zdX5_left : zdesc yX5_left 2 = true := by decide +kernel
theorem zdX5_mean : zdesc yX5_mean 1 = true := by decide +kernel
theorem zdX5_within : zdesc yX5_within 1 = true := by decide +kernel
theorem zdX5_soon : zdesc yX5_soon 2 = true := by decide +kernel
theorem zdX5_reaches : zdesc yX5_reaches 0 = true := by decide +kernel
theorem zdX5_times : zdesc yX5_times 1 = true := by decide +kernel
theorem zdX5_likeliest : zdesc yX5_likeliest 1 = true := by decide +kernel
theorem zdX5_level : zdesc yX5_level 1 = true := by decide +kernel
theorem zdX5_reachesFrom : zdesc yX5_reachesFrom 2 = true := by decide +kernel
theorem zdX5_worth : zdesc yX5_worth 1 = true := by decide +kernel
theorem zdX5_begin : zdesc yX5_begin 3 = true := by decide +kernel
theorem zdX5_over : zdesc yX5_over 1 = true := by decide +kernel
theorem zdX5_seen : zdesc yX5_seen 2 = true := by decide +kernel
theorem zdX5_forget : zdesc yX5_forget 0 = true := by decide +kernel
theorem zdX5_sightsBy : zdesc yX5_sightsBy 2 = true := by decide +kernel
theorem zdX5_fits : zdesc yX5_fits 0 = true := by decide +kernel
theorem zdX5_asLikely : zdesc yX5_asLikely 2 = true := by decide +kernel
theorem zdX5_evenings : zdesc yX5_evenings 1 = true := by decide +kernel
theorem zdX5_which : zdesc yX5_which 0 = true := by decide +kernel
theorem zdX5_better : zdesc yX5_better 4 = true := by decide +kernel
theorem zdX5_coat : zdesc yX5_coat 3 = true := by decide +kernel
theorem zdX5_keep : zdesc yX5_keep 0 = true := by decide +kernel
theorem zdX5_back : zdesc yX5_back 0 = true := by decide +kernel
theorem zdX5_count : zdesc yX5_count 1 = true := by decide +kernel
