/-! PART 12: sums; the walk's steps keep the mass and the support -/
/-- a value that no unfolding opens -/
noncomputable def hide {α : Type} (a : α) : α := Classical.choose (show ∃ b : α, b = a from ⟨a, rfl⟩)
theorem hide_eq {α : Type} (a : α) : hide a = a := Classical.choose_spec (show ∃ b : α, b = a from ⟨a, rfl⟩)
def sm0 (f : Nat → Nat) : Nat → Nat
  | 0 => 0
  | n + 1 => sm0 f n + f n
noncomputable def sm (f : Nat → Nat) (n : Nat) : Nat := hide (sm0 f n)
theorem sm_z (f : Nat → Nat) : sm f 0 = 0 := hide_eq _
theorem sm_s (f : Nat → Nat) (n : Nat) : sm f (n + 1) = sm f n + f n := by rw [sm, hide_eq, sm0, sm, hide_eq]
theorem sm_cong {f g : Nat → Nat} : ∀ {n : Nat}, (∀ k, k < n → f k = g k) → sm f n = sm g n
  | 0, _ => by rw [sm_z, sm_z]
  | n + 1, h => by rw [sm_s, sm_s, sm_cong (fun k hk => h k (by omega)), h n (by omega)]
theorem sm_zero {f : Nat → Nat} : ∀ {n : Nat}, (∀ k, k < n → f k = 0) → sm f n = 0
  | 0, _ => sm_z _
  | n + 1, h => by rw [sm_s, sm_zero (fun k hk => h k (by omega)), h n (by omega)]
theorem sm_mul (f : Nat → Nat) (c : Nat) : ∀ n : Nat, sm (fun k => f k * c) n = sm f n * c
  | 0 => by rw [sm_z, sm_z, Nat.zero_mul]
  | n + 1 => by rw [sm_s, sm_s, sm_mul f c n, Nat.add_mul]
theorem sm_le (f : Nat → Nat) {k : Nat} : ∀ {n : Nat}, k < n → f k ≤ sm f n
  | 0, h => absurd h (Nat.not_lt_zero k)
  | n + 1, h => by
    rw [sm_s]
    rcases Nat.lt_or_ge k n with q | q
    · have := sm_le f q
      omega
    · rw [show k = n by omega]; omega
theorem sm_eq0 {f : Nat → Nat} {n : Nat} (h : sm f n = 0) {k : Nat} (hk : k < n) : f k = 0 := by
  have := sm_le f hk
  omega
theorem sm_vup {g : Nat → Nat} {j x : Nat} : ∀ {n : Nat}, j < n → sm (vup g j (g j + x)) n = sm g n + x
  | 0, h => absurd h (Nat.not_lt_zero j)
  | n + 1, h => by
    rw [sm_s, sm_s]
    rcases Nat.lt_or_ge j n with q | q
    · rw [sm_vup q, vup_n (show n ≠ j by omega)]; omega
    · have e : j = n := by omega
      subst e
      rw [vup_s, sm_cong (g := g) (fun k hk => vup_n (by omega))]; omega
noncomputable def phi (T : Nat) (a : wA) : Nat := sm a.1 33 * T + a.2.2.1
theorem fol_phi {en T sd ow ot its : Nat} {a : wA} (h : ¬ ow ≤ en → (if sd = 0 then ow - 1 else ot) * 3 + sd < 33) : phi T (fol en T sd ow ot its a) = phi T a + its * T := by
  unfold fol phi
  by_cases h1 : ow ≤ en
  · simp only [h1, if_true]; omega
  · simp only [h1, if_false]
    rw [sm_vup (h h1), Nat.add_mul]; omega
theorem cel_phi {kd x en T m : Nat} {w : Nat → Nat} {l la : Nat} {a : wA} (hx : x ≤ 4) (hl : l ≤ 10) (hla : la < 3) : phi T (cel kd x en T m w l la a) = phi T a + 4 * T * w (l * 3 + la) := by
  unfold cel
  by_cases h : w (l * 3 + la) = 0
  · simp [h]
  · simp only [h, if_false]
    rw [fol_phi (fun _ => by simp only [Nat.one_ne_zero, if_false]; omega), fol_phi (fun _ => by simp only [if_true]; omega)]
    have hq := @htl_le kd x l (m - l) la hx
    rw [Nat.add_assoc, ← Nat.add_mul, ← Nat.mul_add, show htl kd x l (m - l) la + (4 - htl kd x l (m - l) la) = 4 by omega]
    rw [Nat.mul_comm (w (l * 3 + la)) 4, Nat.mul_right_comm]
theorem cin_phi {kd x en T m : Nat} {w : Nat → Nat} {l : Nat} {a : wA} (hx : x ≤ 4) (hl : l ≤ 10) : ∀ j : Nat, j ≤ 3 → phi T (cin kd x en T m w l j a) + 4 * T * sm w (l * 3) = phi T a + 4 * T * sm w (l * 3 + j)
  | 0, _ => rfl
  | j + 1, h => by
    have ih := cin_phi (kd := kd) (en := en) (T := T) (m := m) (w := w) (a := a) hx hl j (by omega)
    rw [cin, cel_phi hx hl (by omega), ← Nat.add_assoc, sm_s, Nat.mul_add]
    omega
theorem cou_phi {kd x en T m : Nat} {w : Nat → Nat} {a : wA} (hx : x ≤ 4) : ∀ l : Nat, l ≤ 11 → phi T (cou kd x en T m w l a) = phi T a + 4 * T * sm w (l * 3)
  | 0, _ => by simp [cou, sm_z]
  | l + 1, h => by
    have ih := cou_phi (kd := kd) (en := en) (T := T) (m := m) (w := w) (a := a) hx l (by omega)
    have h2 := cin_phi (kd := kd) (en := en) (T := T) (m := m) (w := w) (l := l) (a := cou kd x en T m w l a) hx (by omega) 3 (Nat.le_refl 3)
    rw [cou, show (l + 1) * 3 = l * 3 + 3 by omega]
    omega
/-- where a row may be other than 0 -/
def sup (m : Nat) (w : Nat → Nat) : Prop := ∀ l la, l ≤ 10 → la < 3 → w (l * 3 + la) ≠ 0 → l ≤ m ∧ m ≤ l + 10
def supN (m : Nat) (w : Nat → Nat) : Prop := ∀ l la, l ≤ 10 → la < 3 → w (l * 3 + la) ≠ 0 → l + 1 ≤ m ∧ m ≤ l + 11
theorem vup_sup {m l0 la0 v : Nat} {w : Nat → Nat} (h : supN m w) (hla : la0 < 3) (h2 : l0 + 1 ≤ m ∧ m ≤ l0 + 11) : supN m (vup w (l0 * 3 + la0) v) := by
  intro l la h3 h4 h5
  by_cases e : l * 3 + la = l0 * 3 + la0
  · have : l = l0 := by omega
    subst this
    exact h2
  · rw [vup_n e] at h5
    exact h l la h3 h4 h5
theorem cel_sup {kd x en T m : Nat} {w : Nat → Nat} {l la : Nat} {a : wA} (hl : l ≤ 10) (hla : la < 3) (hw : sup m w) (h : supN m a.1) : supN m (cel kd x en T m w l la a).1 := by
  unfold cel
  by_cases h0 : w (l * 3 + la) = 0
  · simp only [h0, if_true]; exact h
  · simp only [h0, if_false]
    obtain ⟨h1, h2⟩ := hw l la hl hla h0
    have H1 : supN m (fol en T 0 l (m - l) (w (l * 3 + la) * htl kd x l (m - l) la) a).1 := by
      unfold fol
      by_cases q : l ≤ en
      · simp only [q, if_true]; exact h
      · simp only [q, if_false, if_true]
        exact vup_sup h (by omega) (by omega)
    unfold fol at H1 ⊢
    by_cases q : m - l ≤ en
    · rw [if_pos q]; exact H1
    · rw [if_neg q]
      simp only [Nat.one_ne_zero, if_false]
      exact vup_sup H1 (by omega) (by omega)
theorem cin_sup {kd x en T m : Nat} {w : Nat → Nat} {l : Nat} {a : wA} (hl : l ≤ 10) (hw : sup m w) (h : supN m a.1) : ∀ j : Nat, j ≤ 3 → supN m (cin kd x en T m w l j a).1
  | 0, _ => h
  | j + 1, hj => cel_sup hl (by omega) hw (cin_sup hl hw h j (by omega))
theorem cou_sup {kd x en T m : Nat} {w : Nat → Nat} {a : wA} (hw : sup m w) (h : supN m a.1) : ∀ l : Nat, l ≤ 11 → supN m (cou kd x en T m w l a).1
  | 0, _ => h
  | l + 1, hl => cin_sup (by omega) hw (cou_sup hw h l (by omega)) 3 (Nat.le_refl 3)
theorem cin_dead {kd x en T m : Nat} {w : Nat → Nat} {l : Nat} {a : wA} (hl : l ≤ 10) (h : ∀ c, c < 33 → w c = 0) : ∀ j : Nat, j ≤ 3 → cin kd x en T m w l j a = a
  | 0, _ => rfl
  | j + 1, hj => by rw [cin, cin_dead hl h j (by omega), cel, if_pos (h _ (by omega))]
theorem cou_dead {kd x en T m : Nat} {w : Nat → Nat} {a : wA} (h : ∀ c, c < 33 → w c = 0) : ∀ l : Nat, l ≤ 11 → cou kd x en T m w l a = a
  | 0, _ => rfl
  | l + 1, hl => by rw [cou, cou_dead h l (by omega), cin_dead (by omega) h 3 (Nat.le_refl 3)]
/-- one reach, of all that can be: m in both boxes, chances in parts of 4 to the s -/
noncomputable def wst (kd x en m s : Nat) (a : wA) : wA := hide (cou kd x en (4 ^ (s - 1)) m a.1 11 ((fun _ => 0), a.2))
theorem wst_def (kd x en m s : Nat) (a : wA) : wst kd x en m s a = cou kd x en (4 ^ (s - 1)) m a.1 11 ((fun _ => 0), a.2.1, a.2.2.1, a.2.2.2) := hide_eq _
noncomputable def wrun0 (kd x en m s : Nat) (a : wA) : Nat → wA
  | 0 => a
  | i + 1 => wst kd x en (m - i) (s - i) (wrun0 kd x en m s a i)
noncomputable def wrun (kd x en m s : Nat) (a : wA) (i : Nat) : wA := hide (wrun0 kd x en m s a i)
theorem wrun_z (kd x en m s : Nat) (a : wA) : wrun kd x en m s a 0 = a := hide_eq _
theorem wrun_s (kd x en m s : Nat) (a : wA) (i : Nat) : wrun kd x en m s a (i + 1) = wst kd x en (m - i) (s - i) (wrun kd x en m s a i) := by rw [wrun, hide_eq, wrun0, wrun, hide_eq]
def wok (m s : Nat) (a : wA) : Prop := sup m a.1 ∧ sm a.1 33 * 4 ^ s + a.2.2.1 = 4398046511104 ∧ ((∃ c, c < 33 ∧ a.1 c ≠ 0) → m < s)
theorem wok_le {m s : Nat} {a : wA} (h : wok m s a) : a.2.2.1 ≤ 4398046511104 := by have := h.2.1; omega
theorem wok_bd {m s : Nat} {a : wA} (h : wok m s a) {c : Nat} (hc : c < 33) : a.1 c * 4 ^ s ≤ 4398046511104 := by
  have h1 := h.2.1
  have h2 := Nat.mul_le_mul_right (4 ^ s) (sm_le a.1 hc)
  omega
theorem pow4 {s : Nat} (h : 0 < s) : 4 ^ s = 4 * 4 ^ (s - 1) := by
  obtain ⟨k, rfl⟩ : ∃ k, s = k + 1 := ⟨s - 1, by omega⟩
  rw [Nat.add_sub_cancel, Nat.pow_succ, Nat.mul_comm]
theorem pow4_pos (s : Nat) : 0 < 4 ^ s := Nat.pow_pos (by decide)
theorem wok_dead {m s : Nat} {a : wA} (h : wok m s a) (he : 4398046511104 ≤ a.2.2.1) : ∀ c, c < 33 → a.1 c = 0 := by
  have h1 := h.2.1
  have h2 : sm a.1 33 = 0 := by
    rcases Nat.eq_zero_or_pos (sm a.1 33) with q | q
    · exact q
    · have := Nat.mul_pos q (pow4_pos s)
      omega
  exact fun c hc => sm_eq0 h2 hc
theorem wok_alive {m s : Nat} {a : wA} (h : wok m s a) (he : a.2.2.1 < 4398046511104) : ∃ c, c < 33 ∧ a.1 c ≠ 0 := by
  by_cases q : ∃ c, c < 33 ∧ a.1 c ≠ 0
  · exact q
  · have h0 : ∀ c, c < 33 → a.1 c = 0 := fun c hc => by
      rcases Nat.eq_zero_or_pos (a.1 c) with z | z
      · exact z
      · exact absurd ⟨c, hc, by omega⟩ q
    have h1 := h.2.1
    rw [sm_zero h0] at h1
    omega
theorem wst_dead {kd x en m s : Nat} {a : wA} (h : ∀ c, c < 33 → a.1 c = 0) : wst kd x en m s a = ((fun _ => 0), a.2) := (hide_eq _).trans (cou_dead h 11 (Nat.le_refl 11))
theorem wst_supN {kd x en m s : Nat} {a : wA} (h : sup m a.1) : supN m (wst kd x en m s a).1 := by
  rw [wst_def]
  exact cou_sup h (fun l la _ _ z => absurd rfl z) 11 (Nat.le_refl 11)
theorem wst_mass {kd x en m s : Nat} {a : wA} (hx : x ≤ 4) (hs : 0 < s) : sm (wst kd x en m s a).1 33 * 4 ^ (s - 1) + (wst kd x en m s a).2.2.1 = sm a.1 33 * 4 ^ s + a.2.2.1 := by
  have h := cou_phi (kd := kd) (en := en) (T := 4 ^ (s - 1)) (m := m) (w := a.1) (a := ((fun _ => 0), a.2.1, a.2.2.1, a.2.2.2)) hx 11 (Nat.le_refl 11)
  unfold phi at h
  have e : sm (fun _ => 0) 33 = 0 := sm_zero (fun _ _ => rfl)
  rw [e, ← pow4 hs, show (11 * 3) = 33 from rfl] at h
  rw [wst_def, h, Nat.mul_comm (4 ^ s)]
  show 0 * 4 ^ (s - 1) + a.2.2.1 + _ = _
  omega
theorem wst_alive {kd x en m s : Nat} {a : wA} (h : sup m a.1) (hc : ∃ c, c < 33 ∧ (wst kd x en m s a).1 c ≠ 0) : 1 ≤ m := by
  obtain ⟨c, hc, hn⟩ := hc
  have h1 := wst_supN (kd := kd) (x := x) (en := en) (s := s) h (c / 3) (c % 3) (by omega) (by omega) (by rw [show c / 3 * 3 + c % 3 = c by omega]; exact hn)
  omega
theorem wok_st {kd x en m s : Nat} {a : wA} (hx : x ≤ 4) (h : wok m s a) : wok (m - 1) (s - 1) (wst kd x en m s a) := by
  by_cases q : ∃ c, c < 33 ∧ a.1 c ≠ 0
  · have hms := h.2.2 q
    refine ⟨fun l la h1 h2 h3 => ?_, ?_, fun hc => ?_⟩
    · have := wst_supN (kd := kd) (x := x) (en := en) (s := s) h.1 l la h1 h2 h3
      omega
    · rw [wst_mass hx (by omega)]; exact h.2.1
    · have := wst_alive h.1 hc
      omega
  · have h0 : ∀ c, c < 33 → a.1 c = 0 := fun c hc => by
      rcases Nat.eq_zero_or_pos (a.1 c) with z | z
      · exact z
      · exact absurd ⟨c, hc, by omega⟩ q
    rw [wst_dead h0]
    refine ⟨fun l la _ _ z => absurd rfl z, ?_, fun ⟨c, _, z⟩ => absurd rfl z⟩
    have h1 := h.2.1
    rw [sm_zero h0] at h1
    show sm (fun _ => 0) 33 * _ + a.2.2.1 = _
    rw [sm_zero (fun _ _ => rfl)]
    omega
theorem wok_run {kd x en m s : Nat} {a : wA} (hx : x ≤ 4) (h : wok m s a) : ∀ i : Nat, wok (m - i) (s - i) (wrun kd x en m s a i)
  | 0 => by rw [wrun_z]; exact h
  | i + 1 => by
    have := wok_st (kd := kd) (en := en) hx (wok_run (kd := kd) (en := en) hx h i)
    rw [Nat.sub_sub, Nat.sub_sub] at this
    rw [wrun_s]
    exact this
theorem wrun_dead {kd x en m s : Nat} {a : wA} {i : Nat} (h : ∀ c, c < 33 → (wrun kd x en m s a i).1 c = 0) : ∀ d : Nat, (wrun kd x en m s a (i + d)).2 = (wrun kd x en m s a i).2 ∧ ∀ c, c < 33 → (wrun kd x en m s a (i + d)).1 c = 0
  | 0 => ⟨rfl, h⟩
  | d + 1 => by
    obtain ⟨h1, h2⟩ := wrun_dead h d
    have e : wrun kd x en m s a (i + (d + 1)) = ((fun _ => 0), (wrun kd x en m s a (i + d)).2) := by
      rw [← Nat.add_assoc, wrun_s, wst_dead h2]
    rw [e]
    exact ⟨h1, fun c _ => rfl⟩
theorem wrun_dead2 {kd x en m s : Nat} {a : wA} {i n : Nat} (h : ∀ c, c < 33 → (wrun kd x en m s a i).1 c = 0) (hn : i ≤ n) : (wrun kd x en m s a n).2 = (wrun kd x en m s a i).2 ∧ ∀ c, c < 33 → (wrun kd x en m s a n).1 c = 0 := by
  have := wrun_dead h (n - i)
  rw [show i + (n - i) = n by omega] at this
  exact this
/-- the start -/
def wst0 (en l r la : Nat) : wA := if en = 1 ∧ (l = 0 ∨ r = 0) then ((fun _ => 0), vup (fun _ => 0) (l + r) 4398046511104, 4398046511104, if l = 0 then 4398046511104 else 0) else (vup (fun _ => 0) (l * 3 + la) 1, (fun _ => 0), 0, 0)
theorem wok0 {en l r la : Nat} (hl : l ≤ 10) (hr : r ≤ 10) (hla : la ≤ 2) : wok (l + r) 21 (wst0 en l r la) := by
  unfold wst0
  by_cases h : en = 1 ∧ (l = 0 ∨ r = 0)
  · rw [if_pos h]
    refine ⟨fun l la _ _ z => absurd rfl z, ?_, fun ⟨c, _, z⟩ => absurd rfl z⟩
    show sm (fun _ => 0) 33 * _ + 4398046511104 = _
    rw [sm_zero (fun _ _ => rfl), Nat.zero_mul, Nat.zero_add]
  · rw [if_neg h]
    refine ⟨fun l2 la2 h1 h2 h3 => ?_, ?_, fun _ => by omega⟩
    · by_cases e : l2 * 3 + la2 = l * 3 + la
      · have : l2 = l := by omega
        omega
      · exact absurd (vup_n (g := fun _ => 0) (x := 1) e) h3
    · show sm (vup (fun _ => 0) (l * 3 + la) 1) 33 * 4 ^ 21 + 0 = _
      have := sm_vup (g := fun _ => 0) (j := l * 3 + la) (x := 1) (n := 33) (by omega)
      rw [show (0 : Nat) + 1 = 1 from rfl] at this
      rw [this, sm_zero (fun _ _ => rfl)]
