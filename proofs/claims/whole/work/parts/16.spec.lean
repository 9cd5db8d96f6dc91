/-! PART 16: what is answered and what becomes of the state (both the class and the reference are held against these) -/
/-- a number that must lie between two -/
def dz (a b : Nat) (e : Int32) : Option Nat := if nI a ≤ e ∧ e ≤ nI b then some e.toNatClampNeg else none
theorem dz_ok {a b j : Nat} (hb : b < 2 ^ 31) (h1 : a ≤ j) (h2 : j ≤ b) : dz a b (nI j) = some j := by
  rw [dz, if_pos ⟨(nI_leI (by omega) (by omega)).mpr h1, (nI_leI (by omega) hb).mpr h2⟩, nI_clamp (by omega)]
theorem dz_bad {a b : Nat} {e : Int32} (h : ¬ (nI a ≤ e ∧ e ≤ nI b)) : dz a b e = none := if_neg h
abbrev sOk (s : Nat → Nat) : Prop := s 0 ≤ 10 ∧ s 1 ≤ 10 ∧ s 2 ≤ 2 ∧ s 3 ≤ 3 ∧ s 4 ≤ 4
-- the text
def an_write (ty : Nat) (o : Option Nat) : Int32 := match o with
  | none => -1
  | some _ => if ty < 200 then nI (ty + 1) else -3
def nx_tx (tx : Nat → Nat) (ty : Nat) (o : Option Nat) : Nat → Nat := match o with
  | none => tx
  | some c => if ty < 200 then vup tx ty c else tx
def nx_ty (ty : Nat) (o : Option Nat) : Nat := match o with
  | none => ty
  | some _ => if ty < 200 then ty + 1 else ty
noncomputable def pr (tx : Nat → Nat) (ty : Nat) : Option Nat × (Nat → Nat) := prs (chf tx ty) ty 200 0 d0
def an_lay (p : Option Nat × (Nat → Nat)) : Int32 := match p.1 with
  | none => nI (p.2 0 + p.2 1)
  | some _ => -2
def nx_if (p : Option Nat × (Nat → Nat)) (a : Nat → Nat) : Nat → Nat := match p.1 with
  | none => p.2
  | some _ => a
def nx_n (p : Option Nat × (Nat → Nat)) (v a : Nat) : Nat := match p.1 with
  | none => v
  | some _ => a
-- boxes
def an_box (s : Nat → Nat) (o : Option Nat) : Int32 := match o with
  | none => -1
  | some sd => nI (s sd)
def an_quarters (s : Nat → Nat) (o : Option Nat) : Int32 := match o with
  | none => -1
  | some sd => nI (if sd = 0 then htl (s 3) (s 4) (s 0) (s 1) (s 2) else 4 - htl (s 3) (s 4) (s 0) (s 1) (s 2))
-- acts: an act that takes place (b) lays the coat by
def nx_past (b : Bool) (past : Nat → Nat) (kn : Nat) (s : Nat → Nat) : Nat → Nat := if b then pput past kn s else past
def nx_kn (b : Bool) (kn : Nat) : Nat := if b then (if kn = 8 then 8 else kn + 1) else kn
def an_reach (s : Nat → Nat) (o : Option Nat) : Int32 := match o with
  | none => -1
  | some sd => if s sd = 0 then -5 else nI (s sd - 1)
def nx_reach (s : Nat → Nat) (o : Option Nat) : Nat → Nat := match o with
  | none => s
  | some sd => vup (vup s 2 sd) sd (s sd - 1)
def ok_put (s : Nat → Nat) (o q : Option Nat) : Bool := match o, q with
  | some sd, some k => decide (k ≤ s sd ∧ s (1 - sd) + k ≤ 10)
  | _, _ => false
def an_put (s : Nat → Nat) (o q : Option Nat) : Int32 := match o, q with
  | some sd, some k => if s sd < k then -2 else if 10 < s (1 - sd) + k then -3 else nI (s sd - k)
  | _, _ => -1
def nx_put (s : Nat → Nat) (o q : Option Nat) : Nat → Nat := match o, q with
  | some sd, some k => if k ≤ s sd ∧ s (1 - sd) + k ≤ 10 then vup (vup s sd (s sd - k)) (1 - sd) (s (1 - sd) + k) else s
  | _, _ => s
def nx_buy (s : Nat → Nat) (o : Option Nat) : Nat → Nat := match o with
  | none => s
  | some sd => vup s sd 10
def an_hand (s : Nat → Nat) (o q : Option Nat) : Int32 := match o, q with
  | some _, some _ => nI (10 * s 3 + s 4)
  | _, _ => -1
def ok2 (o q : Option Nat) : Bool := match o, q with
  | some _, some _ => true
  | _, _ => false
def nx_hand (s : Nat → Nat) (o q : Option Nat) : Nat → Nat := match o, q with
  | some kd, some x => vup (vup s 3 kd) 4 x
  | _, _ => s
def an_undo (kn : Nat) : Int32 := if kn = 0 then -2 else nI (kn - 1)
def nx_undo (g : Nat → Nat) (kn : Nat) (s : Nat → Nat) : Nat → Nat := fun j => if kn = 0 then s j else g (5 * (kn - 1) + j)
-- seen
def an_seen (sg : Nat) (o q : Option Nat) : Int32 := match o, q with
  | some _, some _ => if sg < 6 then nI (sg + 1) else -3
  | _, _ => -1
def nx_sg (sg : Nat) (o q : Option Nat) : Nat := match o, q with
  | some _, some _ => if sg < 6 then sg + 1 else sg
  | _, _ => sg
def nx_sl (sl : Nat → Nat) (sg : Nat) (o q : Option Nat) : Nat → Nat := match o, q with
  | some l, some _ => if sg < 6 then vup sl sg l else sl
  | _, _ => sl
def nx_sr (sr : Nat → Nat) (sg : Nat) (o q : Option Nat) : Nat → Nat := match o, q with
  | some _, some r => if sg < 6 then vup sr sg r else sr
  | _, _ => sr
-- kept
def an_keep (kp : Nat) : Int32 := if kp < 2 then nI (kp + 1) else -3
def nx_img (img : Nat → Nat) (kp : Nat) (s : Nat → Nat) : Nat → Nat := if kp < 2 then kput img kp s else img
def nx_kp (kp : Nat) : Nat := if kp < 2 then kp + 1 else kp
def an_count (s : Nat → Nat) (ev sg kn kp ty : Nat) (o : Option Nat) : Int32 := match o with
  | none => -1
  | some w => if w = 0 then nI (s 0 + s 1) else if w = 1 then nI (s 3) else if w = 2 then nI (s 4) else if w = 3 then nI ev else if w = 4 then nI (s 2)
    else if w = 5 then nI sg else if w = 6 then nI kn else if w = 7 then nI kp else nI ty
