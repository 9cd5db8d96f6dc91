/-! PART 18: what the walk is asked -/
abbrev WHO : Nat := 4398046511104
noncomputable abbrev rn (kd x en l r la i : Nat) : wA := wrun kd x en (l + r) 21 (wst0 en l r la) i
noncomputable def rch (kd x en l r la : Nat) : Nat := sm (fun j => 4398046511104 - (wrun kd x en (l + r) 21 (wst0 en l r la) j).2.2.1) 21
def bnd (a : wA) : Prop := (∀ k, a.2.1 k ≤ a.2.2.1) ∧ a.2.2.2 ≤ a.2.2.1
theorem fol_bnd {en T sd ow ot its : Nat} {a : wA} (h : bnd a) : bnd (fol en T sd ow ot its a) := by
  unfold fol
  by_cases h1 : ow ≤ en
  · rw [if_pos h1]
    refine ⟨fun k => ?_, ?_⟩
    · have h2 := h.1 k
      show (if ot ≤ 10 then vup a.2.1 ot (a.2.1 ot + its * T) else a.2.1) k ≤ a.2.2.1 + its * T
      split
      · by_cases hk : k = ot
        · subst hk; rw [vup_s]; omega
        · rw [vup_n hk]; omega
      · omega
    · have h2 := h.2
      show (if sd = 0 then a.2.2.2 + its * T else a.2.2.2) ≤ a.2.2.1 + its * T
      split <;> omega
  · rw [if_neg h1]; exact h
theorem cel_bnd {kd x en T m : Nat} {w : Nat → Nat} {l la : Nat} {a : wA} (h : bnd a) : bnd (cel kd x en T m w l la a) := by
  unfold cel; split
  · exact h
  · exact fol_bnd (fol_bnd h)
theorem cin_bnd {kd x en T m : Nat} {w : Nat → Nat} {l : Nat} {a : wA} (h : bnd a) : ∀ j : Nat, bnd (cin kd x en T m w l j a)
  | 0 => h
  | j + 1 => cel_bnd (cin_bnd h j)
theorem cou_bnd {kd x en T m : Nat} {w : Nat → Nat} {a : wA} (h : bnd a) : ∀ l : Nat, bnd (cou kd x en T m w l a)
  | 0 => h
  | l + 1 => cin_bnd (cou_bnd h l) 3
theorem wrun_bnd {kd x en m s : Nat} {a : wA} (h : bnd a) : ∀ i : Nat, bnd (wrun kd x en m s a i)
  | 0 => by rw [wrun_z]; exact h
  | i + 1 => by
    rw [wrun_s, wst_def]
    exact cou_bnd (a := ((fun _ => 0), (wrun kd x en m s a i).2)) (wrun_bnd h i) 11
theorem bnd0 (en l r la : Nat) : bnd (wst0 en l r la) := by
  unfold wst0; split
  · refine ⟨fun k => ?_, ?_⟩
    · show vup (fun _ => 0) (l + r) 4398046511104 k ≤ 4398046511104
      unfold vup; split
      · exact Nat.le_refl _
      · exact Nat.zero_le _
    · show (if l = 0 then 4398046511104 else 0) ≤ 4398046511104
      split <;> omega
  · exact ⟨fun _ => Nat.le_refl 0, Nat.le_refl 0⟩
theorem rn_e {kd x en l r la i : Nat} (hx : x ≤ 4) (hl : l ≤ 10) (hr : r ≤ 10) (hla : la ≤ 2) : (rn kd x en l r la i).2.2.1 ≤ 4398046511104 := wok_le (wok_run hx (wok0 hl hr hla) i)
theorem rn_os {kd x en l r la i k : Nat} (hx : x ≤ 4) (hl : l ≤ 10) (hr : r ≤ 10) (hla : la ≤ 2) : (rn kd x en l r la i).2.1 k ≤ 4398046511104 := Nat.le_trans ((wrun_bnd (bnd0 en l r la) i).1 k) (rn_e hx hl hr hla)
theorem rn_el {kd x en l r la i : Nat} (hx : x ≤ 4) (hl : l ≤ 10) (hr : r ≤ 10) (hla : la ≤ 2) : (rn kd x en l r la i).2.2.2 ≤ 4398046511104 := Nat.le_trans ((wrun_bnd (bnd0 en l r la) i).2) (rn_e hx hl hr hla)
theorem sm_bound {f : Nat → Nat} {c : Nat} : ∀ {n : Nat}, (∀ k, k < n → f k ≤ c) → sm f n ≤ n * c
  | 0, _ => by rw [sm_z]; omega
  | n + 1, h => by
    have h1 := sm_bound (f := f) (c := c) (n := n) (fun k hk => h k (by omega))
    have h2 := h n (by omega)
    rw [sm_s, Nat.succ_mul]
    omega
theorem rch_lt (kd x en l r la : Nat) : rch kd x en l r la < 2 ^ 50 := by
  have := sm_bound (f := fun j => 4398046511104 - (wrun kd x en (l + r) 21 (wst0 en l r la) j).2.2.1) (c := 4398046511104) (n := 21) (fun k _ => Nat.sub_le _ _)
  unfold rch
  omega
/-- behind all reaches -/
theorem wok_over {m s : Nat} {a : wA} (h : wok m s a) (hs : s = 0) : ∀ c, c < 33 → a.1 c = 0 := fun c hc => by
  rcases Nat.eq_zero_or_pos (a.1 c) with z | z
  · exact z
  · have := h.2.2 ⟨c, hc, by omega⟩
    omega
theorem rn_all {kd x en l r la i : Nat} (hx : x ≤ 4) (hl : l ≤ 10) (hr : r ≤ 10) (hla : la ≤ 2) (hi : 21 ≤ i) : (rn kd x en l r la i).2.2.1 = 4398046511104 := by
  have h := wok_run (kd := kd) (en := en) hx (wok0 (en := en) hl hr hla) i
  have h0 := wok_over h (by omega)
  have h1 := h.2.1
  rw [sm_zero h0, Nat.zero_mul, Nat.zero_add] at h1
  exact h1
theorem wrun_add (kd x en m s : Nat) (a : wA) (i : Nat) : ∀ j : Nat, wrun kd x en (m - i) (s - i) (wrun kd x en m s a i) j = wrun kd x en m s a (i + j)
  | 0 => by rw [wrun_z]; rfl
  | j + 1 => by rw [wrun_s, wrun_add kd x en m s a i j, ← Nat.add_assoc, wrun_s, Nat.sub_sub, Nat.sub_sub]
-- answers
noncomputable def an_left (s : Nat → Nat) (o q : Option Nat) : Int32 := match o, q with
  | some en, some k => nI ((rn (s 3) (s 4) en (s 0) (s 1) (s 2) 21).2.1 k * 10000 / 4398046511104)
  | _, _ => -1
noncomputable def an_mean (s : Nat → Nat) (o : Option Nat) : Int32 := match o with
  | some en => nI (sm (fun k => k * (rn (s 3) (s 4) en (s 0) (s 1) (s 2) 21).2.1 k) 11 * 100 / 4398046511104)
  | none => -1
noncomputable def an_soon (s : Nat → Nat) (o q : Option Nat) : Int32 := match o, q with
  | some en, some n => nI ((rn (s 3) (s 4) en (s 0) (s 1) (s 2) n).2.2.1 * 10000 / 4398046511104)
  | _, _ => -1
noncomputable def an_times (s : Nat → Nat) (o : Option Nat) : Int32 := match o with
  | some en => nI (rch (s 3) (s 4) en (s 0) (s 1) (s 2) * 100 / 4398046511104)
  | none => -1
/-- the first of the greatest -/
def lkl (f : Nat → Nat) : Nat → Nat
  | 0 => 0
  | n + 1 => if f (lkl f n) < f (n + 1) then n + 1 else lkl f n
theorem lkl_le (f : Nat → Nat) : ∀ n, lkl f n ≤ n
  | 0 => Nat.le_refl 0
  | n + 1 => by have := lkl_le f n; unfold lkl; split <;> omega
noncomputable def lik (f : Nat → Nat) (n : Nat) : Nat := hide (lkl f n)
theorem lik_z (f : Nat → Nat) : lik f 0 = 0 := hide_eq _
theorem lik_s (f : Nat → Nat) (n : Nat) : lik f (n + 1) = if f (lik f n) < f (n + 1) then n + 1 else lik f n := by rw [lik, hide_eq, lkl, lik, hide_eq]
theorem lik_le (f : Nat → Nat) (n : Nat) : lik f n ≤ n := by rw [lik, hide_eq]; exact lkl_le f n
noncomputable def an_lik (s : Nat → Nat) (o : Option Nat) : Int32 := match o with
  | some en => nI (lik (rn (s 3) (s 4) en (s 0) (s 1) (s 2) 21).2.1 10)
  | none => -1
noncomputable def an_level (s : Nat → Nat) (o : Option Nat) : Int32 := match o with
  | some n => nI (lev (s 0 + s 1 - n) (rn (s 3) (s 4) 0 (s 0) (s 1) (s 2) n).1 * 4 ^ (21 - n) * 10000 / 4398046511104)
  | none => -1
noncomputable def an_worth (s : Nat → Nat) (o : Option Nat) : Int32 := match o with
  | some sd => if s sd = 10 then -3 else ((lN (rch (s 3) (s 4) 0 (if sd = 0 then s 0 + 1 else s 0) (if sd = 0 then s 1 else s 1 + 1) (s 2)) - lN (rch (s 3) (s 4) 0 (s 0) (s 1) (s 2))) * 100 / 4398046511104).toInt32 + nI 10000
  | none => -1
noncomputable def an_which (s : Nat → Nat) : Int32 := nI ((rn (s 3) (s 4) 0 (s 0) (s 1) (s 2) 21).2.2.2 * 10000 / 4398046511104)
noncomputable def an_better (s : Nat → Nat) (a b c d : Option Nat) : Int32 := match a, b, c, d with
  | some k, some x, some o, some y => if rch k x 0 (s 0) (s 1) (s 2) = rch o y 0 (s 0) (s 1) (s 2) then 0 else if rch o y 0 (s 0) (s 1) (s 2) < rch k x 0 (s 0) (s 1) (s 2) then 1 else 2
  | _, _, _, _ => -1
/-- BEGIN: the parting with the least ended, the first of them -/
noncomputable def bge (s : Nat → Nat) (t n l : Nat) : Nat := (rn (s 3) (s 4) 0 l (t - l) (s 2) n).2.2.1
def bgS (o : Option (Nat × Nat)) (l e : Nat) : Option (Nat × Nat) := match o with
  | none => some (l, e)
  | some p => if e < p.2 then some (l, e) else some p
noncomputable def bgn0 (s : Nat → Nat) (t n : Nat) : Nat → Option (Nat × Nat)
  | 0 => none
  | l + 1 => if l ≤ t ∧ t - l ≤ 10 then bgS (bgn0 s t n l) l (bge s t n l) else bgn0 s t n l
noncomputable def bgn (s : Nat → Nat) (t n l : Nat) : Option (Nat × Nat) := hide (bgn0 s t n l)
theorem bgn_z (s : Nat → Nat) (t n : Nat) : bgn s t n 0 = none := hide_eq _
theorem bgn_s (s : Nat → Nat) (t n l : Nat) : bgn s t n (l + 1) = if l ≤ t ∧ t - l ≤ 10 then bgS (bgn s t n l) l (bge s t n l) else bgn s t n l := by rw [bgn, hide_eq, bgn0, bgn, hide_eq]
noncomputable def an_begin (s : Nat → Nat) (a b c : Option Nat) : Int32 := match a, b, c with
  | some t, some n, some w => (match bgn s t n 11 with
    | none => 0
    | some p => if w = 0 then nI p.1 else nI ((4398046511104 - p.2) * 10000 / 4398046511104))
  | _, _, _ => -1
/-- PUT OVER -/
noncomputable def ovr (s : Nat → Nat) (l r : Nat) : Nat := rch (s 3) (s 4) 0 l r (s 2)
noncomputable def ovA (s : Nat → Nat) (k : Nat) (p : Int32 × Nat) : Int32 × Nat := if (k ≤ s 0 ∧ s 1 + k ≤ 10) ∧ p.2 < ovr s (s 0 - k) (s 1 + k) then (nI k, ovr s (s 0 - k) (s 1 + k)) else p
noncomputable def ovB (s : Nat → Nat) (k : Nat) (p : Int32 × Nat) : Int32 × Nat := if (k ≤ s 1 ∧ s 0 + k ≤ 10) ∧ p.2 < ovr s (s 0 + k) (s 1 - k) then (-(nI k), ovr s (s 0 + k) (s 1 - k)) else p
noncomputable def ov0 (s : Nat → Nat) : Nat → Int32 × Nat
  | 0 => (nI 0, ovr s (s 0) (s 1))
  | k + 1 => ovB s (k + 1) (ovA s (k + 1) (ov0 s k))
noncomputable def ov (s : Nat → Nat) (k : Nat) : Int32 × Nat := hide (ov0 s k)
theorem ov_z (s : Nat → Nat) : ov s 0 = (nI 0, ovr s (s 0) (s 1)) := hide_eq _
theorem ov_s (s : Nat → Nat) (k : Nat) : ov s (k + 1) = ovB s (k + 1) (ovA s (k + 1) (ov s k)) := by rw [ov, hide_eq, ov0, ov, hide_eq]
noncomputable def an_over (s : Nat → Nat) (o : Option Nat) : Int32 := match o with
  | some w => if w = 0 then (ov s 10).1 + nI 10 else nI ((ov s 10).2 * 100 / 4398046511104)
  | none => -1
theorem ov_lt (s : Nat → Nat) : ∀ k, (ov s k).2 < 2 ^ 50
  | 0 => by rw [ov_z]; exact rch_lt _ _ _ _ _ _
  | k + 1 => by
    have h := ov_lt s k
    have hA : (ovA s (k + 1) (ov s k)).2 < 2 ^ 50 := by unfold ovA; split; exact rch_lt _ _ _ _ _ _; exact h
    rw [ov_s]; unfold ovB; split; exact rch_lt _ _ _ _ _ _; exact hA
/-- EVENINGS -/
noncomputable def evs0 (s : Nat → Nat) (ev y : Nat) : Nat → Nat
  | 0 => 0
  | k + 1 => if y * 4398046511104 < (4398046511104 - (rn (s 3) (s 4) 0 (s 0) (s 1) (s 2) (ev * (k + 1))).2.2.1) * 10000 then k + 1 else evs0 s ev y k
noncomputable def evs (s : Nat → Nat) (ev y k : Nat) : Nat := hide (evs0 s ev y k)
theorem evs_z (s : Nat → Nat) (ev y : Nat) : evs s ev y 0 = 0 := hide_eq _
theorem evs_s (s : Nat → Nat) (ev y k : Nat) : evs s ev y (k + 1) = if y * 4398046511104 < (4398046511104 - (rn (s 3) (s 4) 0 (s 0) (s 1) (s 2) (ev * (k + 1))).2.2.1) * 10000 then k + 1 else evs s ev y k := by rw [evs, hide_eq, evs0, evs, hide_eq]
noncomputable def an_evenings (s : Nat → Nat) (ev : Nat) (o : Option Nat) : Int32 := match o with
  | some y => nI (evs s ev y 7)
  | none => -1
/-- SEEN: the row behind the i-th evening, and how much of it stands (in parts of 4 to the 21) -/
noncomputable def sna0 (s : Nat → Nat) (ev : Nat) (sl sr : Nat → Nat) (kd x : Nat) : Nat → wA
  | 0 => wst0 0 (s 0) (s 1) (s 2)
  | i + 1 => ((kfl (s 0 + s 1 - ev * (i + 1)) (sl i) (sr i) (wrun kd x 0 (s 0 + s 1 - ev * i) (21 - ev * i) (sna0 s ev sl sr kd x i) ev).1), (wrun kd x 0 (s 0 + s 1 - ev * i) (21 - ev * i) (sna0 s ev sl sr kd x i) ev).2.1, 4398046511104 - sm (kfl (s 0 + s 1 - ev * (i + 1)) (sl i) (sr i) (wrun kd x 0 (s 0 + s 1 - ev * i) (21 - ev * i) (sna0 s ev sl sr kd x i) ev).1) 33 * 4 ^ (21 - ev * (i + 1)), (wrun kd x 0 (s 0 + s 1 - ev * i) (21 - ev * i) (sna0 s ev sl sr kd x i) ev).2.2.2)
noncomputable def sna (s : Nat → Nat) (ev : Nat) (sl sr : Nat → Nat) (kd x i : Nat) : wA := hide (sna0 s ev sl sr kd x i)
theorem sna_z (s : Nat → Nat) (ev : Nat) (sl sr : Nat → Nat) (kd x : Nat) : sna s ev sl sr kd x 0 = wst0 0 (s 0) (s 1) (s 2) := hide_eq _
noncomputable abbrev snw (s : Nat → Nat) (ev : Nat) (sl sr : Nat → Nat) (kd x i : Nat) : wA := wrun kd x 0 (s 0 + s 1 - ev * i) (21 - ev * i) (sna s ev sl sr kd x i) ev
noncomputable abbrev snk (s : Nat → Nat) (ev : Nat) (sl sr : Nat → Nat) (kd x i : Nat) : Nat → Nat := kfl (s 0 + s 1 - ev * (i + 1)) (sl i) (sr i) (snw s ev sl sr kd x i).1
theorem sna_s (s : Nat → Nat) (ev : Nat) (sl sr : Nat → Nat) (kd x i : Nat) : sna s ev sl sr kd x (i + 1) = (snk s ev sl sr kd x i, (snw s ev sl sr kd x i).2.1, 4398046511104 - sm (snk s ev sl sr kd x i) 33 * 4 ^ (21 - ev * (i + 1)), (snw s ev sl sr kd x i).2.2.2) := by
  have e : sna s ev sl sr kd x i = sna0 s ev sl sr kd x i := hide_eq _
  rw [snk, snw, e, sna, hide_eq, sna0]
noncomputable def csn (s : Nat → Nat) (ev : Nat) (sl sr : Nat → Nat) (sg kd x : Nat) : Nat := 4398046511104 - (sna s ev sl sr kd x sg).2.2.1
/-- the likeliest X, if there is one, with its chance -/
noncomputable def lqt0 (c : Nat → Nat) : Nat → Option Nat × Nat
  | 0 => (none, 0)
  | x + 1 => if (lqt0 c x).2 < c x then (some x, c x) else lqt0 c x
noncomputable def lqt (c : Nat → Nat) (x : Nat) : Option Nat × Nat := hide (lqt0 c x)
theorem lqt_z (c : Nat → Nat) : lqt c 0 = (none, 0) := hide_eq _
theorem lqt_s (c : Nat → Nat) (x : Nat) : lqt c (x + 1) = if (lqt c x).2 < c x then (some x, c x) else lqt c x := by rw [lqt, hide_eq, lqt0, lqt, hide_eq]
def oI (o : Option Nat) : Int32 := match o with
  | none => -1
  | some x => nI x
noncomputable def an_likely (c : Nat → Nat → Nat) (o q : Option Nat) : Int32 := match o, q with
  | some kd, some w => (match (lqt (c kd) 5).1 with
    | none => -4
    | some x => if w = 0 then nI x else nI (c kd x * 10000 / 4398046511104))
  | _, _ => -1
noncomputable def fbt0 (c : Nat → Nat → Nat) : Nat → Int32
  | 0 => nI 0
  | kd + 1 => if (lqt (c kd) 5).1 = none then fbt0 c kd else fbt0 c kd ||| (nI 1 <<< (nI kd &&& 31))
noncomputable def fbt (c : Nat → Nat → Nat) (kd : Nat) : Int32 := hide (fbt0 c kd)
theorem fbt_z (c : Nat → Nat → Nat) : fbt c 0 = nI 0 := hide_eq _
theorem fbt_s (c : Nat → Nat → Nat) (kd : Nat) : fbt c (kd + 1) = if (lqt (c kd) 5).1 = none then fbt c kd else fbt c kd ||| (nI 1 <<< (nI kd &&& 31)) := by rw [fbt, hide_eq, fbt0, fbt, hide_eq]
/-- COAT -/
def drw (z k : Nat) : Nat := (7919 * z + 6151 * k + 1) * (7919 * z + 6151 * k + 1) % 65521 / 8
/-- l, r, last, how often -/
def coS (s : Nat → Nat) (z k : Nat) (p : Nat × Nat × Nat × Nat) : Nat × Nat × Nat × Nat :=
  if drw z k % 4 < htl (s 3) (s 4) p.1 p.2.1 p.2.2.1 then (if p.1 = 0 then 10 else p.1 - 1, p.2.1, 0, if p.1 = 0 then p.2.2.2 + 1 else p.2.2.2)
  else (p.1, if p.2.1 = 0 then 10 else p.2.1 - 1, 1, if p.2.1 = 0 then p.2.2.2 + 1 else p.2.2.2)
def co0 (s : Nat → Nat) (z : Nat) : Nat → Nat × Nat × Nat × Nat
  | 0 => (s 0, s 1, s 2, 0)
  | k + 1 => coS s z k (co0 s z k)
noncomputable def co (s : Nat → Nat) (z k : Nat) : Nat × Nat × Nat × Nat := hide (co0 s z k)
theorem co_z (s : Nat → Nat) (z : Nat) : co s z 0 = (s 0, s 1, s 2, 0) := hide_eq _
theorem co_s (s : Nat → Nat) (z k : Nat) : co s z (k + 1) = coS s z k (co s z k) := by rw [co, hide_eq, co0, co, hide_eq]
noncomputable def an_coat (s : Nat → Nat) (a b c : Option Nat) : Int32 := match a, b, c with
  | some z, some n, some w => if w = 0 then nI (co s z n).2.2.2 else nI ((co s z n).1 + (co s z n).2.1)
  | _, _, _ => -1
theorem co_ok (s : Nat → Nat) (h : sOk s) (z : Nat) : ∀ k : Nat, (co s z k).1 ≤ 10 ∧ (co s z k).2.1 ≤ 10 ∧ (co s z k).2.2.1 ≤ 2 ∧ (co s z k).2.2.2 ≤ k
  | 0 => by rw [co_z]; exact ⟨h.1, h.2.1, h.2.2.1, Nat.le_refl 0⟩
  | k + 1 => by
    have ih := co_ok s h z k
    rw [co_s]; unfold coS
    split
    · refine ⟨?_, ih.2.1, Nat.zero_le 2, ?_⟩
      · show (if (co s z k).1 = 0 then 10 else (co s z k).1 - 1) ≤ 10
        split <;> omega
      · show (if (co s z k).1 = 0 then (co s z k).2.2.2 + 1 else (co s z k).2.2.2) ≤ k + 1
        split <;> omega
    · refine ⟨ih.1, ?_, Nat.le_succ 1, ?_⟩
      · show (if (co s z k).2.1 = 0 then 10 else (co s z k).2.1 - 1) ≤ 10
        split <;> omega
      · show (if (co s z k).2.1 = 0 then (co s z k).2.2.2 + 1 else (co s z k).2.2.2) ≤ k + 1
        split <;> omega
