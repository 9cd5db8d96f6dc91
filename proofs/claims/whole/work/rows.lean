section
-- ===== PART A: goes FIRST, ahead of the names: the tables' words, and 'selects' of the private methods out of them =====
/-- a private method of a class that the tables say can be made, by its rows of tables_1 -/
def lw_okq (q : MethodName × Nat) : Prop := (q.1.cls ≠ "java/lang/invoke/MethodHandle" ∧ q.1.cls ≠ "java/lang/invoke/VarHandle") ∧ Cond.instantiable q.1.cls q.2 ∈ tables_1 ∧ Cond.privateMethod q.1 ∈ tables_1 ∧ Cond.instanceMethod q.1 ∈ tables_1
theorem lw_p0 : lw_okq (⟨"EitherPocket$Text", "readItem", "()Z"⟩, 7) := ⟨⟨by decide +kernel, by decide +kernel⟩, List.mem_of_getElem? (i := 17) (by decide +kernel), List.mem_of_getElem? (i := 211) (by decide +kernel), List.mem_of_getElem? (i := 212) (by decide +kernel)⟩
theorem lw_p1 : lw_okq (⟨"EitherPocket$Text", "letterHere", "()C"⟩, 7) := ⟨⟨by decide +kernel, by decide +kernel⟩, List.mem_of_getElem? (i := 17) (by decide +kernel), List.mem_of_getElem? (i := 215) (by decide +kernel), List.mem_of_getElem? (i := 216) (by decide +kernel)⟩
theorem lw_p2 : lw_okq (⟨"EitherPocket$Text", "readTwo", "()Z"⟩, 7) := ⟨⟨by decide +kernel, by decide +kernel⟩, List.mem_of_getElem? (i := 17) (by decide +kernel), List.mem_of_getElem? (i := 219) (by decide +kernel), List.mem_of_getElem? (i := 220) (by decide +kernel)⟩
theorem lw_p3 : lw_okq (⟨"EitherPocket$Text", "readNumber", "()I"⟩, 7) := ⟨⟨by decide +kernel, by decide +kernel⟩, List.mem_of_getElem? (i := 17) (by decide +kernel), List.mem_of_getElem? (i := 223) (by decide +kernel), List.mem_of_getElem? (i := 224) (by decide +kernel)⟩
theorem lw_p4 : lw_okq (⟨"EitherPocket$Text", "readFigure", "()I"⟩, 7) := ⟨⟨by decide +kernel, by decide +kernel⟩, List.mem_of_getElem? (i := 17) (by decide +kernel), List.mem_of_getElem? (i := 227) (by decide +kernel), List.mem_of_getElem? (i := 228) (by decide +kernel)⟩
theorem lw_p5 : lw_okq (⟨"EitherPocket$Text", "readSign", "(C)Z"⟩, 7) := ⟨⟨by decide +kernel, by decide +kernel⟩, List.mem_of_getElem? (i := 17) (by decide +kernel), List.mem_of_getElem? (i := 231) (by decide +kernel), List.mem_of_getElem? (i := 232) (by decide +kernel)⟩
theorem lw_p6 : lw_okq (⟨"EitherPocket$Text", "tellBoxes", "()Z"⟩, 7) := ⟨⟨by decide +kernel, by decide +kernel⟩, List.mem_of_getElem? (i := 17) (by decide +kernel), List.mem_of_getElem? (i := 235) (by decide +kernel), List.mem_of_getElem? (i := 236) (by decide +kernel)⟩
theorem lw_p7 : lw_okq (⟨"EitherPocket$Text", "tellHand", "()Z"⟩, 7) := ⟨⟨by decide +kernel, by decide +kernel⟩, List.mem_of_getElem? (i := 17) (by decide +kernel), List.mem_of_getElem? (i := 239) (by decide +kernel), List.mem_of_getElem? (i := 240) (by decide +kernel)⟩
theorem lw_p8 : lw_okq (⟨"EitherPocket$Text", "readOne", "()Z"⟩, 7) := ⟨⟨by decide +kernel, by decide +kernel⟩, List.mem_of_getElem? (i := 17) (by decide +kernel), List.mem_of_getElem? (i := 249) (by decide +kernel), List.mem_of_getElem? (i := 250) (by decide +kernel)⟩
theorem lw_p9 : lw_okq (⟨"EitherPocket$Text", "tellLast", "()Z"⟩, 7) := ⟨⟨by decide +kernel, by decide +kernel⟩, List.mem_of_getElem? (i := 17) (by decide +kernel), List.mem_of_getElem? (i := 253) (by decide +kernel), List.mem_of_getElem? (i := 254) (by decide +kernel)⟩
theorem lw_p10 : lw_okq (⟨"EitherPocket$Text", "tellEvening", "()Z"⟩, 7) := ⟨⟨by decide +kernel, by decide +kernel⟩, List.mem_of_getElem? (i := 17) (by decide +kernel), List.mem_of_getElem? (i := 260) (by decide +kernel), List.mem_of_getElem? (i := 261) (by decide +kernel)⟩
theorem lw_p11 : lw_okq (⟨"EitherPocket$Pile", "dropOldest", "()V"⟩, 2) := ⟨⟨by decide +kernel, by decide +kernel⟩, List.mem_of_getElem? (i := 83) (by decide +kernel), List.mem_of_getElem? (i := 315) (by decide +kernel), List.mem_of_getElem? (i := 316) (by decide +kernel)⟩
theorem lw_p12 : lw_okq (⟨"EitherPocket", "walkToEnd", "(I)J"⟩, 10) := ⟨⟨by decide +kernel, by decide +kernel⟩, List.mem_of_getElem? (i := 9) (by decide +kernel), List.mem_of_getElem? (i := 366) (by decide +kernel), List.mem_of_getElem? (i := 367) (by decide +kernel)⟩
theorem lw_p13 : lw_okq (⟨"EitherPocket", "startFrom", "(III)V"⟩, 10) := ⟨⟨by decide +kernel, by decide +kernel⟩, List.mem_of_getElem? (i := 9) (by decide +kernel), List.mem_of_getElem? (i := 370) (by decide +kernel), List.mem_of_getElem? (i := 371) (by decide +kernel)⟩
theorem lw_p14 : lw_okq (⟨"EitherPocket$Walk", "endBy", "(IIJ)V"⟩, 9) := ⟨⟨by decide +kernel, by decide +kernel⟩, List.mem_of_getElem? (i := 102) (by decide +kernel), List.mem_of_getElem? (i := 383) (by decide +kernel), List.mem_of_getElem? (i := 384) (by decide +kernel)⟩
theorem lw_p15 : lw_okq (⟨"EitherPocket$Walk", "advanceOnce", "()V"⟩, 9) := ⟨⟨by decide +kernel, by decide +kernel⟩, List.mem_of_getElem? (i := 102) (by decide +kernel), List.mem_of_getElem? (i := 394) (by decide +kernel), List.mem_of_getElem? (i := 395) (by decide +kernel)⟩
def lw_privs_1 : List (MethodName × Nat) := [(⟨"EitherPocket$Text", "readItem", "()Z"⟩, 7), (⟨"EitherPocket$Text", "letterHere", "()C"⟩, 7), (⟨"EitherPocket$Text", "readTwo", "()Z"⟩, 7), (⟨"EitherPocket$Text", "readNumber", "()I"⟩, 7), (⟨"EitherPocket$Text", "readFigure", "()I"⟩, 7), (⟨"EitherPocket$Text", "readSign", "(C)Z"⟩, 7), (⟨"EitherPocket$Text", "tellBoxes", "()Z"⟩, 7), (⟨"EitherPocket$Text", "tellHand", "()Z"⟩, 7), (⟨"EitherPocket$Text", "readOne", "()Z"⟩, 7), (⟨"EitherPocket$Text", "tellLast", "()Z"⟩, 7), (⟨"EitherPocket$Text", "tellEvening", "()Z"⟩, 7), (⟨"EitherPocket$Pile", "dropOldest", "()V"⟩, 2), (⟨"EitherPocket", "walkToEnd", "(I)J"⟩, 10), (⟨"EitherPocket", "startFrom", "(III)V"⟩, 10), (⟨"EitherPocket$Walk", "endBy", "(IIJ)V"⟩, 9), (⟨"EitherPocket$Walk", "advanceOnce", "()V"⟩, 9)]
theorem lw_r1 : ∀ q ∈ lw_privs_1, lw_okq q := List.forall_mem_cons.mpr ⟨lw_p0, List.forall_mem_cons.mpr ⟨lw_p1, List.forall_mem_cons.mpr ⟨lw_p2, List.forall_mem_cons.mpr ⟨lw_p3, List.forall_mem_cons.mpr ⟨lw_p4, List.forall_mem_cons.mpr ⟨lw_p5, List.forall_mem_cons.mpr ⟨lw_p6, List.forall_mem_cons.mpr ⟨lw_p7, List.forall_mem_cons.mpr ⟨lw_p8, List.forall_mem_cons.mpr ⟨lw_p9, List.forall_mem_cons.mpr ⟨lw_p10, List.forall_mem_cons.mpr ⟨lw_p11, List.forall_mem_cons.mpr ⟨lw_p12, List.forall_mem_cons.mpr ⟨lw_p13, List.forall_mem_cons.mpr ⟨lw_p14, List.forall_mem_cons.mpr ⟨lw_p15, fun _ h => absurd h List.not_mem_nil⟩⟩⟩⟩⟩⟩⟩⟩⟩⟩⟩⟩⟩⟩⟩⟩
theorem lw_p16 : lw_okq (⟨"EitherPocket$Walk", "follow", "(IIIJ)V"⟩, 9) := ⟨⟨by decide +kernel, by decide +kernel⟩, List.mem_of_getElem? (i := 102) (by decide +kernel), List.mem_of_getElem? (i := 400) (by decide +kernel), List.mem_of_getElem? (i := 401) (by decide +kernel)⟩
theorem lw_p17 : lw_okq (⟨"EitherPocket", "reachesWith", "(II)J"⟩, 10) := ⟨⟨by decide +kernel, by decide +kernel⟩, List.mem_of_getElem? (i := 9) (by decide +kernel), List.mem_of_getElem? (i := 454) (by decide +kernel), List.mem_of_getElem? (i := 455) (by decide +kernel)⟩
theorem lw_p18 : lw_okq (⟨"EitherPocket", "likeliestQuarters", "(I)I"⟩, 10) := ⟨⟨by decide +kernel, by decide +kernel⟩, List.mem_of_getElem? (i := 9) (by decide +kernel), List.mem_of_getElem? (i := 482) (by decide +kernel), List.mem_of_getElem? (i := 483) (by decide +kernel)⟩
theorem lw_p19 : lw_okq (⟨"EitherPocket", "chanceOfSeen", "(II)J"⟩, 10) := ⟨⟨by decide +kernel, by decide +kernel⟩, List.mem_of_getElem? (i := 9) (by decide +kernel), List.mem_of_getElem? (i := 486) (by decide +kernel), List.mem_of_getElem? (i := 487) (by decide +kernel)⟩
theorem lw_p20 : lw_okq (⟨"EitherPocket", "startByHand", "(II)V"⟩, 10) := ⟨⟨by decide +kernel, by decide +kernel⟩, List.mem_of_getElem? (i := 9) (by decide +kernel), List.mem_of_getElem? (i := 490) (by decide +kernel), List.mem_of_getElem? (i := 491) (by decide +kernel)⟩
theorem lw_p21 : lw_okq (⟨"EitherPocket", "reachesByHand", "(II)J"⟩, 10) := ⟨⟨by decide +kernel, by decide +kernel⟩, List.mem_of_getElem? (i := 9) (by decide +kernel), List.mem_of_getElem? (i := 518) (by decide +kernel), List.mem_of_getElem? (i := 519) (by decide +kernel)⟩
theorem lw_p22 : lw_okq (⟨"EitherPocketModel", "begins", "()V"⟩, 17) := ⟨⟨by decide +kernel, by decide +kernel⟩, List.mem_of_getElem? (i := 546) (by decide +kernel), List.mem_of_getElem? (i := 552) (by decide +kernel), List.mem_of_getElem? (i := 553) (by decide +kernel)⟩
theorem lw_p23 : lw_okq (⟨"EitherPocketModel", "lays", "()V"⟩, 17) := ⟨⟨by decide +kernel, by decide +kernel⟩, List.mem_of_getElem? (i := 546) (by decide +kernel), List.mem_of_getElem? (i := 556) (by decide +kernel), List.mem_of_getElem? (i := 557) (by decide +kernel)⟩
theorem lw_p24 : lw_okq (⟨"EitherPocketModel", "readsAll", "()I"⟩, 17) := ⟨⟨by decide +kernel, by decide +kernel⟩, List.mem_of_getElem? (i := 546) (by decide +kernel), List.mem_of_getElem? (i := 627) (by decide +kernel), List.mem_of_getElem? (i := 628) (by decide +kernel)⟩
theorem lw_p25 : lw_okq (⟨"EitherPocketModel", "readsItem", "(I)Z"⟩, 17) := ⟨⟨by decide +kernel, by decide +kernel⟩, List.mem_of_getElem? (i := 546) (by decide +kernel), List.mem_of_getElem? (i := 631) (by decide +kernel), List.mem_of_getElem? (i := 632) (by decide +kernel)⟩
theorem lw_p26 : lw_okq (⟨"EitherPocketModel", "readsTwo", "(III)Z"⟩, 17) := ⟨⟨by decide +kernel, by decide +kernel⟩, List.mem_of_getElem? (i := 546) (by decide +kernel), List.mem_of_getElem? (i := 635) (by decide +kernel), List.mem_of_getElem? (i := 636) (by decide +kernel)⟩
theorem lw_p27 : lw_okq (⟨"EitherPocketModel", "number", "(III)I"⟩, 17) := ⟨⟨by decide +kernel, by decide +kernel⟩, List.mem_of_getElem? (i := 546) (by decide +kernel), List.mem_of_getElem? (i := 639) (by decide +kernel), List.mem_of_getElem? (i := 640) (by decide +kernel)⟩
theorem lw_p28 : lw_okq (⟨"EitherPocketModel", "letterAt", "(I)I"⟩, 17) := ⟨⟨by decide +kernel, by decide +kernel⟩, List.mem_of_getElem? (i := 546) (by decide +kernel), List.mem_of_getElem? (i := 643) (by decide +kernel), List.mem_of_getElem? (i := 644) (by decide +kernel)⟩
theorem lw_p29 : lw_okq (⟨"EitherPocketModel", "keeps", "()V"⟩, 17) := ⟨⟨by decide +kernel, by decide +kernel⟩, List.mem_of_getElem? (i := 546) (by decide +kernel), List.mem_of_getElem? (i := 669) (by decide +kernel), List.mem_of_getElem? (i := 670) (by decide +kernel)⟩
theorem lw_p30 : lw_okq (⟨"EitherPocketModel", "weighsNow", "(I)V"⟩, 17) := ⟨⟨by decide +kernel, by decide +kernel⟩, List.mem_of_getElem? (i := 546) (by decide +kernel), List.mem_of_getElem? (i := 696) (by decide +kernel), List.mem_of_getElem? (i := 697) (by decide +kernel)⟩
theorem lw_p31 : lw_okq (⟨"EitherPocketModel", "weighs", "(IIIII)V"⟩, 17) := ⟨⟨by decide +kernel, by decide +kernel⟩, List.mem_of_getElem? (i := 546) (by decide +kernel), List.mem_of_getElem? (i := 700) (by decide +kernel), List.mem_of_getElem? (i := 701) (by decide +kernel)⟩
def lw_privs_2 : List (MethodName × Nat) := [(⟨"EitherPocket$Walk", "follow", "(IIIJ)V"⟩, 9), (⟨"EitherPocket", "reachesWith", "(II)J"⟩, 10), (⟨"EitherPocket", "likeliestQuarters", "(I)I"⟩, 10), (⟨"EitherPocket", "chanceOfSeen", "(II)J"⟩, 10), (⟨"EitherPocket", "startByHand", "(II)V"⟩, 10), (⟨"EitherPocket", "reachesByHand", "(II)J"⟩, 10), (⟨"EitherPocketModel", "begins", "()V"⟩, 17), (⟨"EitherPocketModel", "lays", "()V"⟩, 17), (⟨"EitherPocketModel", "readsAll", "()I"⟩, 17), (⟨"EitherPocketModel", "readsItem", "(I)Z"⟩, 17), (⟨"EitherPocketModel", "readsTwo", "(III)Z"⟩, 17), (⟨"EitherPocketModel", "number", "(III)I"⟩, 17), (⟨"EitherPocketModel", "letterAt", "(I)I"⟩, 17), (⟨"EitherPocketModel", "keeps", "()V"⟩, 17), (⟨"EitherPocketModel", "weighsNow", "(I)V"⟩, 17), (⟨"EitherPocketModel", "weighs", "(IIIII)V"⟩, 17)]
theorem lw_r2 : ∀ q ∈ lw_privs_2, lw_okq q := List.forall_mem_cons.mpr ⟨lw_p16, List.forall_mem_cons.mpr ⟨lw_p17, List.forall_mem_cons.mpr ⟨lw_p18, List.forall_mem_cons.mpr ⟨lw_p19, List.forall_mem_cons.mpr ⟨lw_p20, List.forall_mem_cons.mpr ⟨lw_p21, List.forall_mem_cons.mpr ⟨lw_p22, List.forall_mem_cons.mpr ⟨lw_p23, List.forall_mem_cons.mpr ⟨lw_p24, List.forall_mem_cons.mpr ⟨lw_p25, List.forall_mem_cons.mpr ⟨lw_p26, List.forall_mem_cons.mpr ⟨lw_p27, List.forall_mem_cons.mpr ⟨lw_p28, List.forall_mem_cons.mpr ⟨lw_p29, List.forall_mem_cons.mpr ⟨lw_p30, List.forall_mem_cons.mpr ⟨lw_p31, fun _ h => absurd h List.not_mem_nil⟩⟩⟩⟩⟩⟩⟩⟩⟩⟩⟩⟩⟩⟩⟩⟩
theorem lw_p32 : lw_okq (⟨"EitherPocketModel", "clears", "()V"⟩, 17) := ⟨⟨by decide +kernel, by decide +kernel⟩, List.mem_of_getElem? (i := 546) (by decide +kernel), List.mem_of_getElem? (i := 704) (by decide +kernel), List.mem_of_getElem? (i := 705) (by decide +kernel)⟩
theorem lw_p33 : lw_okq (⟨"EitherPocketModel", "begin0", "(III)V"⟩, 17) := ⟨⟨by decide +kernel, by decide +kernel⟩, List.mem_of_getElem? (i := 546) (by decide +kernel), List.mem_of_getElem? (i := 709) (by decide +kernel), List.mem_of_getElem? (i := 710) (by decide +kernel)⟩
theorem lw_p34 : lw_okq (⟨"EitherPocketModel", "goes", "(IIIIJ)V"⟩, 17) := ⟨⟨by decide +kernel, by decide +kernel⟩, List.mem_of_getElem? (i := 546) (by decide +kernel), List.mem_of_getElem? (i := 717) (by decide +kernel), List.mem_of_getElem? (i := 718) (by decide +kernel)⟩
theorem lw_p35 : lw_okq (⟨"EitherPocketModel", "within", "(I)J"⟩, 17) := ⟨⟨by decide +kernel, by decide +kernel⟩, List.mem_of_getElem? (i := 546) (by decide +kernel), List.mem_of_getElem? (i := 734) (by decide +kernel), List.mem_of_getElem? (i := 735) (by decide +kernel)⟩
theorem lw_p36 : lw_okq (⟨"EitherPocketModel", "reaches", "()J"⟩, 17) := ⟨⟨by decide +kernel, by decide +kernel⟩, List.mem_of_getElem? (i := 546) (by decide +kernel), List.mem_of_getElem? (i := 742) (by decide +kernel), List.mem_of_getElem? (i := 743) (by decide +kernel)⟩
theorem lw_p37 : lw_okq (⟨"EitherPocketModel", "reachesFrom", "(II)J"⟩, 17) := ⟨⟨by decide +kernel, by decide +kernel⟩, List.mem_of_getElem? (i := 546) (by decide +kernel), List.mem_of_getElem? (i := 758) (by decide +kernel), List.mem_of_getElem? (i := 759) (by decide +kernel)⟩
theorem lw_p38 : lw_okq (⟨"EitherPocketModel", "sightsBy", "(II)J"⟩, 17) := ⟨⟨by decide +kernel, by decide +kernel⟩, List.mem_of_getElem? (i := 546) (by decide +kernel), List.mem_of_getElem? (i := 782) (by decide +kernel), List.mem_of_getElem? (i := 783) (by decide +kernel)⟩
def lw_privs_3 : List (MethodName × Nat) := [(⟨"EitherPocketModel", "clears", "()V"⟩, 17), (⟨"EitherPocketModel", "begin0", "(III)V"⟩, 17), (⟨"EitherPocketModel", "goes", "(IIIIJ)V"⟩, 17), (⟨"EitherPocketModel", "within", "(I)J"⟩, 17), (⟨"EitherPocketModel", "reaches", "()J"⟩, 17), (⟨"EitherPocketModel", "reachesFrom", "(II)J"⟩, 17), (⟨"EitherPocketModel", "sightsBy", "(II)J"⟩, 17)]
theorem lw_r3 : ∀ q ∈ lw_privs_3, lw_okq q := List.forall_mem_cons.mpr ⟨lw_p32, List.forall_mem_cons.mpr ⟨lw_p33, List.forall_mem_cons.mpr ⟨lw_p34, List.forall_mem_cons.mpr ⟨lw_p35, List.forall_mem_cons.mpr ⟨lw_p36, List.forall_mem_cons.mpr ⟨lw_p37, List.forall_mem_cons.mpr ⟨lw_p38, fun _ h => absurd h List.not_mem_nil⟩⟩⟩⟩⟩⟩⟩
def lw_privs : List (MethodName × Nat) := lw_privs_1 ++ (lw_privs_2 ++ (lw_privs_3))
def lw_tbl : List Cond := k2_sels lw_privs ++ tables_1
theorem lw_privs_ok : ∀ q ∈ lw_privs, lw_okq q := by
  show ∀ q ∈ lw_privs_1 ++ (lw_privs_2 ++ (lw_privs_3)), lw_okq q
  exact List.forall_mem_append.mpr ⟨lw_r1, List.forall_mem_append.mpr ⟨lw_r2, lw_r3⟩⟩
end
section
/-! ===== BEGIN words of one list among another's, by their places ===== -/
theorem goodIn_r {big : List Cond} (ws : List Cond) (ps : List Nat) (hp : ws = ps.filterMap (fun i => big[i]?)) (h : ws.all goodWord = true) : GoodIn big ws := by
  intro w hw
  have h1 := List.all_eq_true.mp h w hw
  rw [hp] at hw
  obtain ⟨i, -, hi⟩ := List.mem_filterMap.mp hw
  have hm : w ∈ big := by first | exact List.mem_of_getElem? hi | exact List.getElem?_mem hi
  exact ⟨hm, good_of_word h1⟩
theorem goodIn_app {big a b : List Cond} (ha : GoodIn big a) (hb : GoodIn big b) : GoodIn big (a ++ b) := fun w h => (List.mem_append.mp h).elim (ha w) (hb w)
theorem goodIn_ca {big a b : List Cond} {c : Cond} (ha : GoodIn big (c :: a)) (hb : GoodIn big b) : GoodIn big (c :: (a ++ b)) := fun w h => (List.mem_cons.mp h).elim (fun e => ha w (List.mem_cons.mpr (Or.inl e))) (fun h => (List.mem_append.mp h).elim (fun h => ha w (List.mem_cons.mpr (Or.inr h))) (hb w))
theorem goodIn_sub {big ws : List Cond} (hm : ∀ w ∈ ws, w ∈ big) (h : ws.all goodWord = true) : GoodIn big ws := fun w hw => ⟨hm w hw, good_of_word (List.all_eq_true.mp h w hw)⟩
/-! ===== END ===== -/

/-! ===== BEGIN printed: names, fields, word lists, decode rows ===== -/
def RX0 : String := "EitherPocket$Coat"
def TX0 : u_T := fun k => match k with
  | 0 => ("EitherPocket$Coat", "left", "I", false)
  | 1 => ("EitherPocket$Coat", "right", "I", false)
  | 2 => ("EitherPocket$Coat", "last", "I", false)
  | 3 => ("EitherPocket$Coat", "kind", "I", false)
  | _ => ("EitherPocket$Coat", "x", "I", false)
def tyX0 : Nat → FieldType := fun k => match k with
  | 0 => .int
  | 1 => .int
  | 2 => .int
  | 3 => .int
  | _ => .int
abbrev wsX00 : List Cond := u_ws RX0 TX0 5
theorem nmX0 : ∀ a, a < 5 → ∀ b, b < 5 → a ≠ b → (TX0 a).2.1 ≠ (TX0 b).2.1 := by decide +kernel
theorem tyX0_ok : ∀ k, k < 5 → parseFieldDescriptor (TX0 k).2.2.1 = some (tyX0 k) := by decide +kernel
abbrev cX0_init : ByteArray := prog_2_method_1_code
def yX0_init : MethodName := ⟨RX0, "<init>", "()V"⟩
abbrev cX0_copyFrom : ByteArray := prog_2_method_2_code
def yX0_copyFrom : MethodName := ⟨RX0, "copyFrom", "(LEitherPocket$Coat;)V"⟩
abbrev cX0_setBoxes : ByteArray := prog_2_method_3_code
def yX0_setBoxes : MethodName := ⟨RX0, "setBoxes", "(II)V"⟩
abbrev cX0_setBox : ByteArray := prog_2_method_4_code
def yX0_setBox : MethodName := ⟨RX0, "setBox", "(II)V"⟩
abbrev cX0_setHand : ByteArray := prog_2_method_5_code
def yX0_setHand : MethodName := ⟨RX0, "setHand", "(II)V"⟩
abbrev cX0_inBox : ByteArray := prog_2_method_6_code
def yX0_inBox : MethodName := ⟨RX0, "inBox", "(I)I"⟩
abbrev cX0_matches : ByteArray := prog_2_method_7_code
def yX0_matches : MethodName := ⟨RX0, "matches", "()I"⟩
abbrev cX0_quartersToLeft : ByteArray := prog_2_method_8_code
def yX0_quartersToLeft : MethodName := ⟨RX0, "quartersToLeft", "()I"⟩
abbrev cX0_draw : ByteArray := prog_2_method_9_code
def yX0_draw : MethodName := ⟨RX0, "draw", "(I)Z"⟩
def RX1 : String := "EitherPocket$Pile"
def TX1 : u_T := fun k => match k with
  | 0 => ("EitherPocket$Pile", "coats", "[LEitherPocket$Coat;", true)
  | _ => ("EitherPocket$Pile", "size", "I", false)
def tyX1 : Nat → FieldType := fun k => match k with
  | 0 => .array (.object "EitherPocket$Coat")
  | _ => .int
abbrev wsX10 : List Cond := u_ws RX1 TX1 2
theorem nmX1 : ∀ a, a < 2 → ∀ b, b < 2 → a ≠ b → (TX1 a).2.1 ≠ (TX1 b).2.1 := by decide +kernel
theorem tyX1_ok : ∀ k, k < 2 → parseFieldDescriptor (TX1 k).2.2.1 = some (tyX1 k) := by decide +kernel
abbrev cX1_init : ByteArray := prog_3_method_1_code
def yX1_init : MethodName := ⟨RX1, "<init>", "(I)V"⟩
abbrev cX1_size : ByteArray := prog_3_method_2_code
def yX1_size : MethodName := ⟨RX1, "size", "()I"⟩
abbrev cX1_isFull : ByteArray := prog_3_method_3_code
def yX1_isFull : MethodName := ⟨RX1, "isFull", "()Z"⟩
abbrev cX1_clear : ByteArray := prog_3_method_4_code
def yX1_clear : MethodName := ⟨RX1, "clear", "()V"⟩
abbrev cX1_put : ByteArray := prog_3_method_5_code
def yX1_put : MethodName := ⟨RX1, "put", "(LEitherPocket$Coat;)V"⟩
abbrev cX1_takeLast : ByteArray := prog_3_method_6_code
def yX1_takeLast : MethodName := ⟨RX1, "takeLast", "(LEitherPocket$Coat;)Z"⟩
abbrev cX1_dropOldest : ByteArray := prog_3_method_7_code
def yX1_dropOldest : MethodName := ⟨RX1, "dropOldest", "()V"⟩
def RX2 : String := "EitherPocket$Text"
def TX2 : u_T := fun k => match k with
  | 0 => ("EitherPocket$Text", "letters", "[C", true)
  | 1 => ("EitherPocket$Text", "length", "I", false)
  | 2 => ("EitherPocket$Text", "place", "I", false)
  | 3 => ("EitherPocket$Text", "first", "I", false)
  | 4 => ("EitherPocket$Text", "second", "I", false)
  | 5 => ("EitherPocket$Text", "told", "LEitherPocket$Coat;", true)
  | _ => ("EitherPocket$Text", "toldEvening", "I", false)
def tyX2 : Nat → FieldType := fun k => match k with
  | 0 => .array .char
  | 1 => .int
  | 2 => .int
  | 3 => .int
  | 4 => .int
  | 5 => .object "EitherPocket$Coat"
  | _ => .int
abbrev wsX20 : List Cond := u_ws RX2 TX2 7
theorem nmX2 : ∀ a, a < 7 → ∀ b, b < 7 → a ≠ b → (TX2 a).2.1 ≠ (TX2 b).2.1 := by decide +kernel
theorem tyX2_ok : ∀ k, k < 7 → parseFieldDescriptor (TX2 k).2.2.1 = some (tyX2 k) := by decide +kernel
abbrev cX2_init : ByteArray := prog_4_method_1_code
def yX2_init : MethodName := ⟨RX2, "<init>", "()V"⟩
abbrev cX2_size : ByteArray := prog_4_method_2_code
def yX2_size : MethodName := ⟨RX2, "size", "()I"⟩
abbrev cX2_clear : ByteArray := prog_4_method_3_code
def yX2_clear : MethodName := ⟨RX2, "clear", "()V"⟩
abbrev cX2_append : ByteArray := prog_4_method_4_code
def yX2_append : MethodName := ⟨RX2, "append", "(C)Z"⟩
abbrev cX2_firstFault : ByteArray := prog_4_method_5_code
def yX2_firstFault : MethodName := ⟨RX2, "firstFault", "()I"⟩
abbrev cX2_readItem : ByteArray := prog_4_method_6_code
def yX2_readItem : MethodName := ⟨RX2, "readItem", "()Z"⟩
abbrev cX2_tellBoxes : ByteArray := prog_4_method_7_code
def yX2_tellBoxes : MethodName := ⟨RX2, "tellBoxes", "()Z"⟩
abbrev cX2_tellHand : ByteArray := prog_4_method_8_code
def yX2_tellHand : MethodName := ⟨RX2, "tellHand", "()Z"⟩
abbrev cX2_tellLast : ByteArray := prog_4_method_9_code
def yX2_tellLast : MethodName := ⟨RX2, "tellLast", "()Z"⟩
abbrev cX2_tellEvening : ByteArray := prog_4_method_10_code
def yX2_tellEvening : MethodName := ⟨RX2, "tellEvening", "()Z"⟩
abbrev cX2_readOne : ByteArray := prog_4_method_11_code
def yX2_readOne : MethodName := ⟨RX2, "readOne", "()Z"⟩
abbrev cX2_readTwo : ByteArray := prog_4_method_12_code
def yX2_readTwo : MethodName := ⟨RX2, "readTwo", "()Z"⟩
abbrev cX2_readNumber : ByteArray := prog_4_method_13_code
def yX2_readNumber : MethodName := ⟨RX2, "readNumber", "()I"⟩
abbrev cX2_readFigure : ByteArray := prog_4_method_14_code
def yX2_readFigure : MethodName := ⟨RX2, "readFigure", "()I"⟩
abbrev cX2_readSign : ByteArray := prog_4_method_15_code
def yX2_readSign : MethodName := ⟨RX2, "readSign", "(C)Z"⟩
abbrev cX2_letterHere : ByteArray := prog_4_method_16_code
def yX2_letterHere : MethodName := ⟨RX2, "letterHere", "()C"⟩
def RX3 : String := "EitherPocket$Walk"
def TX3 : u_T := fun k => match k with
  | 0 => ("EitherPocket$Walk", "row", "[J", false)
  | 1 => ("EitherPocket$Walk", "nextRow", "[J", false)
  | 2 => ("EitherPocket$Walk", "others", "[J", true)
  | 3 => ("EitherPocket$Walk", "end", "I", false)
  | 4 => ("EitherPocket$Walk", "kind", "I", false)
  | 5 => ("EitherPocket$Walk", "x", "I", false)
  | 6 => ("EitherPocket$Walk", "matches", "I", false)
  | 7 => ("EitherPocket$Walk", "stillOn", "J", false)
  | _ => ("EitherPocket$Walk", "endedLeft", "J", false)
def tyX3 : Nat → FieldType := fun k => match k with
  | 0 => .array .long
  | 1 => .array .long
  | 2 => .array .long
  | 3 => .int
  | 4 => .int
  | 5 => .int
  | 6 => .int
  | 7 => .long
  | _ => .long
abbrev wsX30 : List Cond := u_ws RX3 TX3 9
theorem nmX3 : ∀ a, a < 9 → ∀ b, b < 9 → a ≠ b → (TX3 a).2.1 ≠ (TX3 b).2.1 := by decide +kernel
theorem tyX3_ok : ∀ k, k < 9 → parseFieldDescriptor (TX3 k).2.2.1 = some (tyX3 k) := by decide +kernel
abbrev cX3_init : ByteArray := prog_5_method_1_code
def yX3_init : MethodName := ⟨RX3, "<init>", "()V"⟩
abbrev cX3_start : ByteArray := prog_5_method_2_code
def yX3_start : MethodName := ⟨RX3, "start", "(LEitherPocket$Coat;I)V"⟩
abbrev cX3_advance : ByteArray := prog_5_method_3_code
def yX3_advance : MethodName := ⟨RX3, "advance", "(I)V"⟩
abbrev cX3_reachesTillEnd : ByteArray := prog_5_method_4_code
def yX3_reachesTillEnd : MethodName := ⟨RX3, "reachesTillEnd", "()J"⟩
abbrev cX3_keepOnly : ByteArray := prog_5_method_5_code
def yX3_keepOnly : MethodName := ⟨RX3, "keepOnly", "(II)V"⟩
abbrev cX3_standing : ByteArray := prog_5_method_6_code
def yX3_standing : MethodName := ⟨RX3, "standing", "()J"⟩
abbrev cX3_chanceOfOther : ByteArray := prog_5_method_7_code
def yX3_chanceOfOther : MethodName := ⟨RX3, "chanceOfOther", "(I)J"⟩
abbrev cX3_chanceOfLeftFirst : ByteArray := prog_5_method_8_code
def yX3_chanceOfLeftFirst : MethodName := ⟨RX3, "chanceOfLeftFirst", "()J"⟩
abbrev cX3_chanceOfLevel : ByteArray := prog_5_method_9_code
def yX3_chanceOfLevel : MethodName := ⟨RX3, "chanceOfLevel", "()J"⟩
abbrev cX3_advanceOnce : ByteArray := prog_5_method_10_code
def yX3_advanceOnce : MethodName := ⟨RX3, "advanceOnce", "()V"⟩
abbrev cX3_follow : ByteArray := prog_5_method_11_code
def yX3_follow : MethodName := ⟨RX3, "follow", "(IIIJ)V"⟩
abbrev cX3_endBy : ByteArray := prog_5_method_12_code
def yX3_endBy : MethodName := ⟨RX3, "endBy", "(IIJ)V"⟩
abbrev cX3_addTo : ByteArray := prog_5_method_13_code
def yX3_addTo : MethodName := ⟨RX3, "addTo", "([JIIJ)V"⟩
abbrev cX3_wipeRow : ByteArray := prog_5_method_14_code
def yX3_wipeRow : MethodName := ⟨RX3, "wipeRow", "([J)V"⟩
def RX4 : String := "EitherPocket"
def TX4 : u_T := fun k => match k with
  | 0 => ("EitherPocket", "text", "LEitherPocket$Text;", true)
  | 1 => ("EitherPocket", "now", "LEitherPocket$Coat;", true)
  | 2 => ("EitherPocket", "trial", "LEitherPocket$Coat;", true)
  | 3 => ("EitherPocket", "acts", "LEitherPocket$Pile;", true)
  | 4 => ("EitherPocket", "kept", "LEitherPocket$Pile;", true)
  | 5 => ("EitherPocket", "walk", "LEitherPocket$Walk;", true)
  | 6 => ("EitherPocket", "seenLeft", "[I", true)
  | 7 => ("EitherPocket", "seenRight", "[I", true)
  | 8 => ("EitherPocket", "seenCount", "I", false)
  | _ => ("EitherPocket", "evening", "I", false)
def tyX4 : Nat → FieldType := fun k => match k with
  | 0 => .object "EitherPocket$Text"
  | 1 => .object "EitherPocket$Coat"
  | 2 => .object "EitherPocket$Coat"
  | 3 => .object "EitherPocket$Pile"
  | 4 => .object "EitherPocket$Pile"
  | 5 => .object "EitherPocket$Walk"
  | 6 => .array .int
  | 7 => .array .int
  | 8 => .int
  | _ => .int
abbrev wsX40 : List Cond := u_ws RX4 TX4 10
theorem nmX4 : ∀ a, a < 10 → ∀ b, b < 10 → a ≠ b → (TX4 a).2.1 ≠ (TX4 b).2.1 := by decide +kernel
theorem tyX4_ok : ∀ k, k < 10 → parseFieldDescriptor (TX4 k).2.2.1 = some (tyX4 k) := by decide +kernel
abbrev cX4_init : ByteArray := prog_1_method_1_code
def yX4_init : MethodName := ⟨RX4, "<init>", "()V"⟩
abbrev cX4_write : ByteArray := prog_1_method_2_code
def yX4_write : MethodName := ⟨RX4, "write", "(I)I"⟩
abbrev cX4_wipe : ByteArray := prog_1_method_3_code
def yX4_wipe : MethodName := ⟨RX4, "wipe", "()I"⟩
abbrev cX4_fault : ByteArray := prog_1_method_4_code
def yX4_fault : MethodName := ⟨RX4, "fault", "()I"⟩
abbrev cX4_lay : ByteArray := prog_1_method_5_code
def yX4_lay : MethodName := ⟨RX4, "lay", "()I"⟩
abbrev cX4_box : ByteArray := prog_1_method_6_code
def yX4_box : MethodName := ⟨RX4, "box", "(I)I"⟩
abbrev cX4_quarters : ByteArray := prog_1_method_7_code
def yX4_quarters : MethodName := ⟨RX4, "quarters", "(I)I"⟩
abbrev cX4_reach : ByteArray := prog_1_method_8_code
def yX4_reach : MethodName := ⟨RX4, "reach", "(I)I"⟩
abbrev cX4_putOver : ByteArray := prog_1_method_9_code
def yX4_putOver : MethodName := ⟨RX4, "putOver", "(II)I"⟩
abbrev cX4_buy : ByteArray := prog_1_method_10_code
def yX4_buy : MethodName := ⟨RX4, "buy", "(I)I"⟩
abbrev cX4_hand : ByteArray := prog_1_method_11_code
def yX4_hand : MethodName := ⟨RX4, "hand", "(II)I"⟩
abbrev cX4_undo : ByteArray := prog_1_method_12_code
def yX4_undo : MethodName := ⟨RX4, "undo", "()I"⟩
abbrev cX4_left : ByteArray := prog_1_method_13_code
def yX4_left : MethodName := ⟨RX4, "left", "(II)I"⟩
abbrev cX4_mean : ByteArray := prog_1_method_14_code
def yX4_mean : MethodName := ⟨RX4, "mean", "(I)I"⟩
abbrev cX4_soon : ByteArray := prog_1_method_15_code
def yX4_soon : MethodName := ⟨RX4, "soon", "(II)I"⟩
abbrev cX4_times : ByteArray := prog_1_method_16_code
def yX4_times : MethodName := ⟨RX4, "times", "(I)I"⟩
abbrev cX4_likeliest : ByteArray := prog_1_method_17_code
def yX4_likeliest : MethodName := ⟨RX4, "likeliest", "(I)I"⟩
abbrev cX4_level : ByteArray := prog_1_method_18_code
def yX4_level : MethodName := ⟨RX4, "level", "(I)I"⟩
abbrev cX4_worth : ByteArray := prog_1_method_19_code
def yX4_worth : MethodName := ⟨RX4, "worth", "(I)I"⟩
abbrev cX4_begin : ByteArray := prog_1_method_20_code
def yX4_begin : MethodName := ⟨RX4, "begin", "(III)I"⟩
abbrev cX4_over : ByteArray := prog_1_method_21_code
def yX4_over : MethodName := ⟨RX4, "over", "(I)I"⟩
abbrev cX4_seen : ByteArray := prog_1_method_22_code
def yX4_seen : MethodName := ⟨RX4, "seen", "(II)I"⟩
abbrev cX4_forget : ByteArray := prog_1_method_23_code
def yX4_forget : MethodName := ⟨RX4, "forget", "()I"⟩
abbrev cX4_fits : ByteArray := prog_1_method_24_code
def yX4_fits : MethodName := ⟨RX4, "fits", "()I"⟩
abbrev cX4_asLikely : ByteArray := prog_1_method_25_code
def yX4_asLikely : MethodName := ⟨RX4, "asLikely", "(II)I"⟩
abbrev cX4_evenings : ByteArray := prog_1_method_26_code
def yX4_evenings : MethodName := ⟨RX4, "evenings", "(I)I"⟩
abbrev cX4_which : ByteArray := prog_1_method_27_code
def yX4_which : MethodName := ⟨RX4, "which", "()I"⟩
abbrev cX4_better : ByteArray := prog_1_method_28_code
def yX4_better : MethodName := ⟨RX4, "better", "(IIII)I"⟩
abbrev cX4_coat : ByteArray := prog_1_method_29_code
def yX4_coat : MethodName := ⟨RX4, "coat", "(III)I"⟩
abbrev cX4_keep : ByteArray := prog_1_method_30_code
def yX4_keep : MethodName := ⟨RX4, "keep", "()I"⟩
abbrev cX4_back : ByteArray := prog_1_method_31_code
def yX4_back : MethodName := ⟨RX4, "back", "()I"⟩
abbrev cX4_count : ByteArray := prog_1_method_32_code
def yX4_count : MethodName := ⟨RX4, "count", "(I)I"⟩
abbrev cX4_startFrom : ByteArray := prog_1_method_33_code
def yX4_startFrom : MethodName := ⟨RX4, "startFrom", "(III)V"⟩
abbrev cX4_walkToEnd : ByteArray := prog_1_method_34_code
def yX4_walkToEnd : MethodName := ⟨RX4, "walkToEnd", "(I)J"⟩
abbrev cX4_reachesWith : ByteArray := prog_1_method_35_code
def yX4_reachesWith : MethodName := ⟨RX4, "reachesWith", "(II)J"⟩
abbrev cX4_startByHand : ByteArray := prog_1_method_36_code
def yX4_startByHand : MethodName := ⟨RX4, "startByHand", "(II)V"⟩
abbrev cX4_reachesByHand : ByteArray := prog_1_method_37_code
def yX4_reachesByHand : MethodName := ⟨RX4, "reachesByHand", "(II)J"⟩
abbrev cX4_likeliestQuarters : ByteArray := prog_1_method_38_code
def yX4_likeliestQuarters : MethodName := ⟨RX4, "likeliestQuarters", "(I)I"⟩
abbrev cX4_chanceOfSeen : ByteArray := prog_1_method_39_code
def yX4_chanceOfSeen : MethodName := ⟨RX4, "chanceOfSeen", "(II)J"⟩
abbrev cX4_drawOf : ByteArray := prog_1_method_40_code
def yX4_drawOf : MethodName := ⟨RX4, "drawOf", "(II)I"⟩
abbrev cX4_tenThousandths : ByteArray := prog_1_method_41_code
def yX4_tenThousandths : MethodName := ⟨RX4, "tenThousandths", "(J)I"⟩
abbrev cX4_hundredfold : ByteArray := prog_1_method_42_code
def yX4_hundredfold : MethodName := ⟨RX4, "hundredfold", "(J)I"⟩
abbrev cX4_handToLeft : ByteArray := prog_1_method_43_code
def yX4_handToLeft : MethodName := ⟨RX4, "handToLeft", "(IIIII)I"⟩
abbrev cX4_leaning : ByteArray := prog_1_method_44_code
def yX4_leaning : MethodName := ⟨RX4, "leaning", "(IZZ)I"⟩
abbrev cX4_otherSide : ByteArray := prog_1_method_45_code
def yX4_otherSide : MethodName := ⟨RX4, "otherSide", "(I)I"⟩
abbrev cX4_within : ByteArray := prog_1_method_46_code
def yX4_within : MethodName := ⟨RX4, "within", "(III)Z"⟩
abbrev cX4_isSide : ByteArray := prog_1_method_47_code
def yX4_isSide : MethodName := ⟨RX4, "isSide", "(I)Z"⟩
abbrev cX4_isEnd : ByteArray := prog_1_method_48_code
def yX4_isEnd : MethodName := ⟨RX4, "isEnd", "(I)Z"⟩
abbrev cX4_isPart : ByteArray := prog_1_method_49_code
def yX4_isPart : MethodName := ⟨RX4, "isPart", "(I)Z"⟩
abbrev cX4_isKind : ByteArray := prog_1_method_50_code
def yX4_isKind : MethodName := ⟨RX4, "isKind", "(I)Z"⟩
abbrev cX4_isHand : ByteArray := prog_1_method_51_code
def yX4_isHand : MethodName := ⟨RX4, "isHand", "(II)Z"⟩
def RX5 : String := "EitherPocketModel"
def TX5 : u_T := fun k => match k with
  | 0 => ("EitherPocketModel", "text", "[I", true)
  | 1 => ("EitherPocketModel", "typed", "I", false)
  | 2 => ("EitherPocketModel", "draft", "[I", true)
  | 3 => ("EitherPocketModel", "s", "[I", true)
  | 4 => ("EitherPocketModel", "evening", "I", false)
  | 5 => ("EitherPocketModel", "past", "[I", true)
  | 6 => ("EitherPocketModel", "known", "I", false)
  | 7 => ("EitherPocketModel", "images", "[I", true)
  | 8 => ("EitherPocketModel", "kept", "I", false)
  | 9 => ("EitherPocketModel", "seen", "[I", true)
  | 10 => ("EitherPocketModel", "sights", "I", false)
  | 11 => ("EitherPocketModel", "at", "I", false)
  | 12 => ("EitherPocketModel", "here", "[J", true)
  | 13 => ("EitherPocketModel", "next", "[J", true)
  | 14 => ("EitherPocketModel", "rest", "[J", true)
  | 15 => ("EitherPocketModel", "soon", "[J", true)
  | _ => ("EitherPocketModel", "first", "J", false)
def tyX5 : Nat → FieldType := fun k => match k with
  | 0 => .array .int
  | 1 => .int
  | 2 => .array .int
  | 3 => .array .int
  | 4 => .int
  | 5 => .array .int
  | 6 => .int
  | 7 => .array .int
  | 8 => .int
  | 9 => .array .int
  | 10 => .int
  | 11 => .int
  | 12 => .array .long
  | 13 => .array .long
  | 14 => .array .long
  | 15 => .array .long
  | _ => .long
abbrev wsX50 : List Cond := u_ws RX5 TX5 17
theorem nmX5 : ∀ a, a < 17 → ∀ b, b < 17 → a ≠ b → (TX5 a).2.1 ≠ (TX5 b).2.1 := by decide +kernel
theorem tyX5_ok : ∀ k, k < 17 → parseFieldDescriptor (TX5 k).2.2.1 = some (tyX5 k) := by decide +kernel
abbrev cX5_init : ByteArray := prog_7_method_1_code
def yX5_init : MethodName := ⟨RX5, "<init>", "()V"⟩
abbrev cX5_in : ByteArray := prog_7_method_3_code
def yX5_in : MethodName := ⟨RX5, "in", "(III)Z"⟩
abbrev cX5_write : ByteArray := prog_7_method_4_code
def yX5_write : MethodName := ⟨RX5, "write", "(I)I"⟩
abbrev cX5_wipe : ByteArray := prog_7_method_5_code
def yX5_wipe : MethodName := ⟨RX5, "wipe", "()I"⟩
abbrev cX5_letterAt : ByteArray := prog_7_method_6_code
def yX5_letterAt : MethodName := ⟨RX5, "letterAt", "(I)I"⟩
abbrev cX5_isFigure : ByteArray := prog_7_method_7_code
def yX5_isFigure : MethodName := ⟨RX5, "isFigure", "(I)Z"⟩
abbrev cX5_number : ByteArray := prog_7_method_8_code
def yX5_number : MethodName := ⟨RX5, "number", "(III)I"⟩
abbrev cX5_begins : ByteArray := prog_7_method_9_code
def yX5_begins : MethodName := ⟨RX5, "begins", "()V"⟩
abbrev cX5_readsTwo : ByteArray := prog_7_method_10_code
def yX5_readsTwo : MethodName := ⟨RX5, "readsTwo", "(III)Z"⟩
abbrev cX5_readsItem : ByteArray := prog_7_method_11_code
def yX5_readsItem : MethodName := ⟨RX5, "readsItem", "(I)Z"⟩
abbrev cX5_readsAll : ByteArray := prog_7_method_12_code
def yX5_readsAll : MethodName := ⟨RX5, "readsAll", "()I"⟩
abbrev cX5_fault : ByteArray := prog_7_method_13_code
def yX5_fault : MethodName := ⟨RX5, "fault", "()I"⟩
abbrev cX5_lays : ByteArray := prog_7_method_14_code
def yX5_lays : MethodName := ⟨RX5, "lays", "()V"⟩
abbrev cX5_lay : ByteArray := prog_7_method_15_code
def yX5_lay : MethodName := ⟨RX5, "lay", "()I"⟩
abbrev cX5_box : ByteArray := prog_7_method_16_code
def yX5_box : MethodName := ⟨RX5, "box", "(I)I"⟩
abbrev cX5_toLeft : ByteArray := prog_7_method_17_code
def yX5_toLeft : MethodName := ⟨RX5, "toLeft", "(IIIII)I"⟩
abbrev cX5_quarters : ByteArray := prog_7_method_18_code
def yX5_quarters : MethodName := ⟨RX5, "quarters", "(I)I"⟩
abbrev cX5_keeps : ByteArray := prog_7_method_19_code
def yX5_keeps : MethodName := ⟨RX5, "keeps", "()V"⟩
abbrev cX5_reach : ByteArray := prog_7_method_20_code
def yX5_reach : MethodName := ⟨RX5, "reach", "(I)I"⟩
abbrev cX5_putOver : ByteArray := prog_7_method_21_code
def yX5_putOver : MethodName := ⟨RX5, "putOver", "(II)I"⟩
abbrev cX5_buy : ByteArray := prog_7_method_22_code
def yX5_buy : MethodName := ⟨RX5, "buy", "(I)I"⟩
abbrev cX5_hand : ByteArray := prog_7_method_23_code
def yX5_hand : MethodName := ⟨RX5, "hand", "(II)I"⟩
abbrev cX5_undo : ByteArray := prog_7_method_24_code
def yX5_undo : MethodName := ⟨RX5, "undo", "()I"⟩
abbrev cX5_spot : ByteArray := prog_7_method_25_code
def yX5_spot : MethodName := ⟨RX5, "spot", "(III)I"⟩
abbrev cX5_begin0 : ByteArray := prog_7_method_26_code
def yX5_begin0 : MethodName := ⟨RX5, "begin0", "(III)V"⟩
abbrev cX5_goes : ByteArray := prog_7_method_27_code
def yX5_goes : MethodName := ⟨RX5, "goes", "(IIIIJ)V"⟩
abbrev cX5_clears : ByteArray := prog_7_method_28_code
def yX5_clears : MethodName := ⟨RX5, "clears", "()V"⟩
abbrev cX5_weighs : ByteArray := prog_7_method_29_code
def yX5_weighs : MethodName := ⟨RX5, "weighs", "(IIIII)V"⟩
abbrev cX5_weighsNow : ByteArray := prog_7_method_30_code
def yX5_weighsNow : MethodName := ⟨RX5, "weighsNow", "(I)V"⟩
abbrev cX5_cut : ByteArray := prog_7_method_31_code
def yX5_cut : MethodName := ⟨RX5, "cut", "(JJ)I"⟩
abbrev cX5_isEnd : ByteArray := prog_7_method_32_code
def yX5_isEnd : MethodName := ⟨RX5, "isEnd", "(I)Z"⟩
abbrev cX5_left : ByteArray := prog_7_method_33_code
def yX5_left : MethodName := ⟨RX5, "left", "(II)I"⟩
abbrev cX5_mean : ByteArray := prog_7_method_34_code
def yX5_mean : MethodName := ⟨RX5, "mean", "(I)I"⟩
abbrev cX5_within : ByteArray := prog_7_method_35_code
def yX5_within : MethodName := ⟨RX5, "within", "(I)J"⟩
abbrev cX5_soon : ByteArray := prog_7_method_36_code
def yX5_soon : MethodName := ⟨RX5, "soon", "(II)I"⟩
abbrev cX5_reaches : ByteArray := prog_7_method_37_code
def yX5_reaches : MethodName := ⟨RX5, "reaches", "()J"⟩
abbrev cX5_times : ByteArray := prog_7_method_38_code
def yX5_times : MethodName := ⟨RX5, "times", "(I)I"⟩
abbrev cX5_likeliest : ByteArray := prog_7_method_39_code
def yX5_likeliest : MethodName := ⟨RX5, "likeliest", "(I)I"⟩
abbrev cX5_level : ByteArray := prog_7_method_40_code
def yX5_level : MethodName := ⟨RX5, "level", "(I)I"⟩
abbrev cX5_reachesFrom : ByteArray := prog_7_method_41_code
def yX5_reachesFrom : MethodName := ⟨RX5, "reachesFrom", "(II)J"⟩
abbrev cX5_worth : ByteArray := prog_7_method_42_code
def yX5_worth : MethodName := ⟨RX5, "worth", "(I)I"⟩
abbrev cX5_begin : ByteArray := prog_7_method_43_code
def yX5_begin : MethodName := ⟨RX5, "begin", "(III)I"⟩
abbrev cX5_over : ByteArray := prog_7_method_44_code
def yX5_over : MethodName := ⟨RX5, "over", "(I)I"⟩
abbrev cX5_seen : ByteArray := prog_7_method_45_code
def yX5_seen : MethodName := ⟨RX5, "seen", "(II)I"⟩
abbrev cX5_forget : ByteArray := prog_7_method_46_code
def yX5_forget : MethodName := ⟨RX5, "forget", "()I"⟩
abbrev cX5_sightsBy : ByteArray := prog_7_method_47_code
def yX5_sightsBy : MethodName := ⟨RX5, "sightsBy", "(II)J"⟩
abbrev cX5_fits : ByteArray := prog_7_method_48_code
def yX5_fits : MethodName := ⟨RX5, "fits", "()I"⟩
abbrev cX5_asLikely : ByteArray := prog_7_method_49_code
def yX5_asLikely : MethodName := ⟨RX5, "asLikely", "(II)I"⟩
abbrev cX5_evenings : ByteArray := prog_7_method_50_code
def yX5_evenings : MethodName := ⟨RX5, "evenings", "(I)I"⟩
abbrev cX5_which : ByteArray := prog_7_method_51_code
def yX5_which : MethodName := ⟨RX5, "which", "()I"⟩
abbrev cX5_better : ByteArray := prog_7_method_52_code
def yX5_better : MethodName := ⟨RX5, "better", "(IIII)I"⟩
abbrev cX5_coat : ByteArray := prog_7_method_53_code
def yX5_coat : MethodName := ⟨RX5, "coat", "(III)I"⟩
abbrev cX5_keep : ByteArray := prog_7_method_54_code
def yX5_keep : MethodName := ⟨RX5, "keep", "()I"⟩
abbrev cX5_back : ByteArray := prog_7_method_55_code
def yX5_back : MethodName := ⟨RX5, "back", "()I"⟩
abbrev cX5_count : ByteArray := prog_7_method_56_code
def yX5_count : MethodName := ⟨RX5, "count", "(I)I"⟩
def RJ9 : String := "java/lang/Math"
def TJ9 : u_T := fun k => match k with
  | _ => ("", "", "", false)
def tyJ9 : Nat → FieldType := fun k => match k with
  | _ => .int
abbrev wsJ90 : List Cond := u_ws RJ9 TJ9 0
theorem nmJ9 : ∀ a, a < 0 → ∀ b, b < 0 → a ≠ b → (TJ9 a).2.1 ≠ (TJ9 b).2.1 := by decide +kernel
theorem tyJ9_ok : ∀ k, k < 0 → parseFieldDescriptor (TJ9 k).2.2.1 = some (tyJ9 k) := by decide +kernel
abbrev cJ9_max_7cf53 : ByteArray := prog_8_method_65_code
def yJ9_max_7cf53 : MethodName := ⟨RJ9, "max", "(II)I"⟩
def RL : String := "EitherPocketLaw"
abbrev cL_law : ByteArray := code
def yL_law : MethodName := ⟨RL, "law", "([I)Z"⟩
theorem inJ9 : ∀ w ∈ wsJ90, w ∈ lw_tbl := by decide +kernel
abbrev vwCl : List vw_C := [(RX0, TX0, 5), (RX1, TX1, 2), (RX2, TX2, 7), (RX3, TX3, 9), (RX4, TX4, 10), (RX5, TX5, 17)]
end
section
/-! the words that travel (TB), and the nest mates' words (in KK) -/
def TB : List Cond := lw_tbl.filter goodWord
theorem TB_good : ∀ w ∈ TB, (w.onTables && w.keeps) = true ∨ ∃ ty, w = .arrayClass ty := fun w h => good_of_word (List.mem_filter.mp h).2
theorem TB_in : ∀ w ∈ TB, w ∈ lw_tbl := fun w h => (List.mem_filter.mp h).1
theorem tb {w : Cond} (h : w ∈ tables_1) (hg : goodWord w = true) : w ∈ TB := List.mem_filter.mpr ⟨List.mem_append_right _ h, hg⟩
theorem tbs {w : Cond} (h : w ∈ k2_sels lw_privs) (hg : goodWord w = true) : w ∈ TB := List.mem_filter.mpr ⟨List.mem_append_left _ h, hg⟩
def isN : Cond → Bool
  | .methodLinkNest _ _ _ _ => true
  | _ => false
theorem mem_places {ws big : List Cond} (ps : List Nat) (h : ws = ps.filterMap (fun i => big[i]?)) : ∀ w ∈ ws, w ∈ big := by
  intro w hw
  rw [h] at hw
  obtain ⟨i, -, hi⟩ := List.mem_filterMap.mp hw
  exact List.mem_of_getElem? hi

theorem tw_0 : Cond.initialized RL ∈ TB := tb (List.mem_of_getElem? (i := 0) (by decide +kernel)) rfl
theorem tw_1 : Cond.initialized RX4 ∈ TB := tb (List.mem_of_getElem? (i := 1) (by decide +kernel)) rfl
theorem tw_2 : Cond.initialized RX2 ∈ TB := tb (List.mem_of_getElem? (i := 2) (by decide +kernel)) rfl
theorem tw_3 : Cond.initialized RX0 ∈ TB := tb (List.mem_of_getElem? (i := 3) (by decide +kernel)) rfl
theorem tw_4 : Cond.initialized RX1 ∈ TB := tb (List.mem_of_getElem? (i := 4) (by decide +kernel)) rfl
theorem tw_5 : Cond.initialized "java/lang/Math" ∈ TB := tb (List.mem_of_getElem? (i := 5) (by decide +kernel)) rfl
theorem tw_6 : Cond.initialized RX3 ∈ TB := tb (List.mem_of_getElem? (i := 6) (by decide +kernel)) rfl
theorem tw_7 : Cond.initialized RX5 ∈ TB := tb (List.mem_of_getElem? (i := 7) (by decide +kernel)) rfl
theorem tw_8 : Cond.classLink RL 7 RX4 ∈ TB := tb (List.mem_of_getElem? (i := 8) (by decide +kernel)) rfl
theorem tw_9 : Cond.instantiable RX4 10 ∈ TB := tb (List.mem_of_getElem? (i := 9) (by decide +kernel)) rfl
theorem tw_10 : Cond.methodLink RL 9 yX4_init ∈ TB := tb (List.mem_of_getElem? (i := 10) (by decide +kernel)) rfl
theorem tw_11 : Cond.instanceMethod yX4_init ∈ TB := tb (List.mem_of_getElem? (i := 11) (by decide +kernel)) rfl
theorem tw_12 : Cond.code yX4_init cX4_init 1 none ∈ TB := tb (List.mem_of_getElem? (i := 12) (by decide +kernel)) rfl
theorem tw_13 : Cond.methodLink RX4 1 Lib.objectInit ∈ TB := tb (List.mem_of_getElem? (i := 13) (by decide +kernel)) rfl
theorem tw_14 : Cond.instanceMethod Lib.objectInit ∈ TB := tb (List.mem_of_getElem? (i := 14) (by decide +kernel)) rfl
theorem tw_15 : Cond.code Lib.objectInit ⟨#[0xb1]⟩ 1 none ∈ TB := tb (List.mem_of_getElem? (i := 15) (by decide +kernel)) rfl
theorem tw_16 : Cond.classLink RX4 7 RX2 ∈ TB := tb (List.mem_of_getElem? (i := 16) (by decide +kernel)) rfl
theorem tw_17 : Cond.instantiable RX2 7 ∈ TB := tb (List.mem_of_getElem? (i := 17) (by decide +kernel)) rfl
theorem tw_18 : Cond.methodLinkNest RX4 9 yX2_init "EitherPocket" ∈ tables_1 := List.mem_of_getElem? (i := 18) (by decide +kernel)
theorem tw_19 : Cond.instanceMethod yX2_init ∈ TB := tb (List.mem_of_getElem? (i := 19) (by decide +kernel)) rfl
theorem tw_20 : Cond.code yX2_init cX2_init 1 none ∈ TB := tb (List.mem_of_getElem? (i := 20) (by decide +kernel)) rfl
theorem tw_21 : Cond.methodLink RX2 3 Lib.objectInit ∈ TB := tb (List.mem_of_getElem? (i := 21) (by decide +kernel)) rfl
theorem tw_22 : Cond.classLink RX2 28 RX0 ∈ TB := tb (List.mem_of_getElem? (i := 22) (by decide +kernel)) rfl
theorem tw_23 : Cond.instantiable RX0 5 ∈ TB := tb (List.mem_of_getElem? (i := 23) (by decide +kernel)) rfl
theorem tw_24 : Cond.methodLinkNest RX2 30 yX0_init "EitherPocket" ∈ tables_1 := List.mem_of_getElem? (i := 24) (by decide +kernel)
theorem tw_25 : Cond.instanceMethod yX0_init ∈ TB := tb (List.mem_of_getElem? (i := 25) (by decide +kernel)) rfl
theorem tw_26 : Cond.code yX0_init cX0_init 1 none ∈ TB := tb (List.mem_of_getElem? (i := 26) (by decide +kernel)) rfl
theorem tw_27 : Cond.methodLink RX0 3 Lib.objectInit ∈ TB := tb (List.mem_of_getElem? (i := 27) (by decide +kernel)) rfl
theorem tw_28 : Cond.fieldLink RX0 9 "EitherPocket$Coat" "left" "I" ∈ TB := tb (List.mem_of_getElem? (i := 28) (by decide +kernel)) rfl
theorem tw_29 : Cond.fieldLink RX3 54 "EitherPocket$Coat" "left" "I" ∈ TB := tb (List.mem_of_getElem? (i := 29) (by decide +kernel)) rfl
theorem tw_30 : Cond.fieldLink RX4 156 "EitherPocket$Coat" "left" "I" ∈ TB := tb (List.mem_of_getElem? (i := 30) (by decide +kernel)) rfl
theorem tw_31 : Cond.fieldLink RX0 15 "EitherPocket$Coat" "right" "I" ∈ TB := tb (List.mem_of_getElem? (i := 31) (by decide +kernel)) rfl
theorem tw_32 : Cond.fieldLink RX3 57 "EitherPocket$Coat" "right" "I" ∈ TB := tb (List.mem_of_getElem? (i := 32) (by decide +kernel)) rfl
theorem tw_33 : Cond.fieldLink RX4 159 "EitherPocket$Coat" "right" "I" ∈ TB := tb (List.mem_of_getElem? (i := 33) (by decide +kernel)) rfl
theorem tw_34 : Cond.fieldLink RX4 66 "EitherPocket$Coat" "last" "I" ∈ TB := tb (List.mem_of_getElem? (i := 34) (by decide +kernel)) rfl
theorem tw_35 : Cond.fieldLink RX0 18 "EitherPocket$Coat" "last" "I" ∈ TB := tb (List.mem_of_getElem? (i := 35) (by decide +kernel)) rfl
theorem tw_36 : Cond.fieldLink RX3 64 "EitherPocket$Coat" "last" "I" ∈ TB := tb (List.mem_of_getElem? (i := 36) (by decide +kernel)) rfl
theorem tw_37 : Cond.fieldLink RX2 49 "EitherPocket$Coat" "last" "I" ∈ TB := tb (List.mem_of_getElem? (i := 37) (by decide +kernel)) rfl
theorem tw_38 : Cond.fieldLink RX3 45 "EitherPocket$Coat" "kind" "I" ∈ TB := tb (List.mem_of_getElem? (i := 38) (by decide +kernel)) rfl
theorem tw_39 : Cond.fieldLink RX0 21 "EitherPocket$Coat" "kind" "I" ∈ TB := tb (List.mem_of_getElem? (i := 39) (by decide +kernel)) rfl
theorem tw_40 : Cond.fieldLink RX4 128 "EitherPocket$Coat" "kind" "I" ∈ TB := tb (List.mem_of_getElem? (i := 40) (by decide +kernel)) rfl
theorem tw_41 : Cond.fieldLink RX3 48 "EitherPocket$Coat" "x" "I" ∈ TB := tb (List.mem_of_getElem? (i := 41) (by decide +kernel)) rfl
theorem tw_42 : Cond.fieldLink RX0 24 "EitherPocket$Coat" "x" "I" ∈ TB := tb (List.mem_of_getElem? (i := 42) (by decide +kernel)) rfl
theorem tw_43 : Cond.fieldLink RX4 131 "EitherPocket$Coat" "x" "I" ∈ TB := tb (List.mem_of_getElem? (i := 43) (by decide +kernel)) rfl
theorem tw_55 : Cond.arrayClass .char ∈ TB := tb (List.mem_of_getElem? (i := 55) (by decide +kernel)) rfl
theorem tw_56 : Cond.fieldLink RX2 9 "EitherPocket$Text" "letters" "[C" ∈ TB := tb (List.mem_of_getElem? (i := 56) (by decide +kernel)) rfl
theorem tw_57 : Cond.fieldLink RX2 15 "EitherPocket$Text" "length" "I" ∈ TB := tb (List.mem_of_getElem? (i := 57) (by decide +kernel)) rfl
theorem tw_58 : Cond.fieldLink RX2 19 "EitherPocket$Text" "place" "I" ∈ TB := tb (List.mem_of_getElem? (i := 58) (by decide +kernel)) rfl
theorem tw_59 : Cond.fieldLink RX2 22 "EitherPocket$Text" "first" "I" ∈ TB := tb (List.mem_of_getElem? (i := 59) (by decide +kernel)) rfl
theorem tw_60 : Cond.fieldLink RX2 25 "EitherPocket$Text" "second" "I" ∈ TB := tb (List.mem_of_getElem? (i := 60) (by decide +kernel)) rfl
theorem tw_61 : Cond.fieldLink RX2 31 "EitherPocket$Text" "told" "LEitherPocket$Coat;" ∈ TB := tb (List.mem_of_getElem? (i := 61) (by decide +kernel)) rfl
theorem tw_62 : Cond.fieldLink RX4 87 "EitherPocket$Text" "told" "LEitherPocket$Coat;" ∈ TB := tb (List.mem_of_getElem? (i := 62) (by decide +kernel)) rfl
theorem tw_63 : Cond.fieldLink RX2 35 "EitherPocket$Text" "toldEvening" "I" ∈ TB := tb (List.mem_of_getElem? (i := 63) (by decide +kernel)) rfl
theorem tw_64 : Cond.fieldLink RX4 94 "EitherPocket$Text" "toldEvening" "I" ∈ TB := tb (List.mem_of_getElem? (i := 64) (by decide +kernel)) rfl
theorem tw_80 : Cond.classLink RX4 16 RX0 ∈ TB := tb (List.mem_of_getElem? (i := 80) (by decide +kernel)) rfl
theorem tw_81 : Cond.methodLinkNest RX4 18 yX0_init "EitherPocket" ∈ tables_1 := List.mem_of_getElem? (i := 81) (by decide +kernel)
theorem tw_82 : Cond.classLink RX4 26 RX1 ∈ TB := tb (List.mem_of_getElem? (i := 82) (by decide +kernel)) rfl
theorem tw_83 : Cond.instantiable RX1 2 ∈ TB := tb (List.mem_of_getElem? (i := 83) (by decide +kernel)) rfl
theorem tw_84 : Cond.methodLink RX4 28 yX1_init ∈ TB := tb (List.mem_of_getElem? (i := 84) (by decide +kernel)) rfl
theorem tw_85 : Cond.instanceMethod yX1_init ∈ TB := tb (List.mem_of_getElem? (i := 85) (by decide +kernel)) rfl
theorem tw_86 : Cond.code yX1_init cX1_init 3 none ∈ TB := tb (List.mem_of_getElem? (i := 86) (by decide +kernel)) rfl
theorem tw_87 : Cond.methodLink RX1 1 Lib.objectInit ∈ TB := tb (List.mem_of_getElem? (i := 87) (by decide +kernel)) rfl
theorem tw_88 : Cond.methodLink RX1 13 Lib.Math.max.name ∈ TB := tb (List.mem_of_getElem? (i := 88) (by decide +kernel)) rfl
theorem tw_89 : Cond.static Lib.Math.max.name ∈ TB := tb (List.mem_of_getElem? (i := 89) (by decide +kernel)) rfl
theorem tw_90 : Cond.code Lib.Math.max.name Lib.Math.max.code 2 (some .int) ∈ TB := tb (List.mem_of_getElem? (i := 90) (by decide +kernel)) rfl
theorem tw_91 : Cond.classLink RX1 19 RX0 ∈ TB := tb (List.mem_of_getElem? (i := 91) (by decide +kernel)) rfl
theorem tw_92 : Cond.arrayOver (.object "EitherPocket$Coat") ∈ tables_1 := List.mem_of_getElem? (i := 92) (by decide +kernel)
theorem tw_93 : Cond.methodLinkNest RX1 25 yX0_init "EitherPocket" ∈ tables_1 := List.mem_of_getElem? (i := 93) (by decide +kernel)
theorem tw_94 : Cond.fieldLink RX1 21 "EitherPocket$Pile" "coats" "[LEitherPocket$Coat;" ∈ TB := tb (List.mem_of_getElem? (i := 94) (by decide +kernel)) rfl
theorem tw_95 : Cond.fieldLink RX1 7 "EitherPocket$Pile" "size" "I" ∈ TB := tb (List.mem_of_getElem? (i := 95) (by decide +kernel)) rfl
theorem tw_101 : Cond.classLink RX4 38 RX3 ∈ TB := tb (List.mem_of_getElem? (i := 101) (by decide +kernel)) rfl
theorem tw_102 : Cond.instantiable RX3 9 ∈ TB := tb (List.mem_of_getElem? (i := 102) (by decide +kernel)) rfl
theorem tw_103 : Cond.methodLinkNest RX4 40 yX3_init "EitherPocket" ∈ tables_1 := List.mem_of_getElem? (i := 103) (by decide +kernel)
theorem tw_104 : Cond.instanceMethod yX3_init ∈ TB := tb (List.mem_of_getElem? (i := 104) (by decide +kernel)) rfl
theorem tw_105 : Cond.code yX3_init cX3_init 1 none ∈ TB := tb (List.mem_of_getElem? (i := 105) (by decide +kernel)) rfl
theorem tw_106 : Cond.methodLink RX3 3 Lib.objectInit ∈ TB := tb (List.mem_of_getElem? (i := 106) (by decide +kernel)) rfl
theorem tw_107 : Cond.fieldLink RX3 11 "EitherPocket$Walk" "row" "[J" ∈ TB := tb (List.mem_of_getElem? (i := 107) (by decide +kernel)) rfl
theorem tw_108 : Cond.fieldLink RX3 15 "EitherPocket$Walk" "nextRow" "[J" ∈ TB := tb (List.mem_of_getElem? (i := 108) (by decide +kernel)) rfl
theorem tw_109 : Cond.fieldLink RX3 18 "EitherPocket$Walk" "others" "[J" ∈ TB := tb (List.mem_of_getElem? (i := 109) (by decide +kernel)) rfl
theorem tw_110 : Cond.fieldLink RX3 21 "EitherPocket$Walk" "end" "I" ∈ TB := tb (List.mem_of_getElem? (i := 110) (by decide +kernel)) rfl
theorem tw_111 : Cond.fieldLink RX3 25 "EitherPocket$Walk" "kind" "I" ∈ TB := tb (List.mem_of_getElem? (i := 111) (by decide +kernel)) rfl
theorem tw_112 : Cond.fieldLink RX3 28 "EitherPocket$Walk" "x" "I" ∈ TB := tb (List.mem_of_getElem? (i := 112) (by decide +kernel)) rfl
theorem tw_113 : Cond.fieldLink RX3 31 "EitherPocket$Walk" "matches" "I" ∈ TB := tb (List.mem_of_getElem? (i := 113) (by decide +kernel)) rfl
theorem tw_114 : Cond.fieldLink RX3 34 "EitherPocket$Walk" "stillOn" "J" ∈ TB := tb (List.mem_of_getElem? (i := 114) (by decide +kernel)) rfl
theorem tw_115 : Cond.fieldLink RX3 38 "EitherPocket$Walk" "endedLeft" "J" ∈ TB := tb (List.mem_of_getElem? (i := 115) (by decide +kernel)) rfl
theorem tw_135 : Cond.arrayClass .long ∈ TB := tb (List.mem_of_getElem? (i := 135) (by decide +kernel)) rfl
theorem tw_136 : Cond.methodLink RX4 59 yX0_setBoxes ∈ TB := tb (List.mem_of_getElem? (i := 136) (by decide +kernel)) rfl
theorem tw_137 : Cond.instanceMethod yX0_setBoxes ∈ TB := tb (List.mem_of_getElem? (i := 137) (by decide +kernel)) rfl
theorem tw_138 : Cond.selects RX0 yX0_setBoxes yX0_setBoxes ∈ TB := tb (List.mem_of_getElem? (i := 138) (by decide +kernel)) rfl
theorem tw_139 : Cond.code yX0_setBoxes cX0_setBoxes 3 none ∈ TB := tb (List.mem_of_getElem? (i := 139) (by decide +kernel)) rfl
theorem tw_140 : Cond.methodLink RX4 63 yX0_setHand ∈ TB := tb (List.mem_of_getElem? (i := 140) (by decide +kernel)) rfl
theorem tw_141 : Cond.instanceMethod yX0_setHand ∈ TB := tb (List.mem_of_getElem? (i := 141) (by decide +kernel)) rfl
theorem tw_142 : Cond.selects RX0 yX0_setHand yX0_setHand ∈ TB := tb (List.mem_of_getElem? (i := 142) (by decide +kernel)) rfl
theorem tw_143 : Cond.code yX0_setHand cX0_setHand 3 none ∈ TB := tb (List.mem_of_getElem? (i := 143) (by decide +kernel)) rfl
theorem tw_144 : Cond.fieldLink RX4 10 "EitherPocket" "text" "LEitherPocket$Text;" ∈ TB := tb (List.mem_of_getElem? (i := 144) (by decide +kernel)) rfl
theorem tw_145 : Cond.fieldLink RX4 19 "EitherPocket" "now" "LEitherPocket$Coat;" ∈ TB := tb (List.mem_of_getElem? (i := 145) (by decide +kernel)) rfl
theorem tw_146 : Cond.fieldLink RX4 23 "EitherPocket" "trial" "LEitherPocket$Coat;" ∈ TB := tb (List.mem_of_getElem? (i := 146) (by decide +kernel)) rfl
theorem tw_147 : Cond.fieldLink RX4 31 "EitherPocket" "acts" "LEitherPocket$Pile;" ∈ TB := tb (List.mem_of_getElem? (i := 147) (by decide +kernel)) rfl
theorem tw_148 : Cond.fieldLink RX4 35 "EitherPocket" "kept" "LEitherPocket$Pile;" ∈ TB := tb (List.mem_of_getElem? (i := 148) (by decide +kernel)) rfl
theorem tw_149 : Cond.fieldLink RX4 41 "EitherPocket" "walk" "LEitherPocket$Walk;" ∈ TB := tb (List.mem_of_getElem? (i := 149) (by decide +kernel)) rfl
theorem tw_150 : Cond.fieldLink RX4 45 "EitherPocket" "seenLeft" "[I" ∈ TB := tb (List.mem_of_getElem? (i := 150) (by decide +kernel)) rfl
theorem tw_151 : Cond.fieldLink RX4 49 "EitherPocket" "seenRight" "[I" ∈ TB := tb (List.mem_of_getElem? (i := 151) (by decide +kernel)) rfl
theorem tw_152 : Cond.fieldLink RX4 52 "EitherPocket" "seenCount" "I" ∈ TB := tb (List.mem_of_getElem? (i := 152) (by decide +kernel)) rfl
theorem tw_153 : Cond.fieldLink RX4 56 "EitherPocket" "evening" "I" ∈ TB := tb (List.mem_of_getElem? (i := 153) (by decide +kernel)) rfl
theorem tw_175 : Cond.arrayClass .int ∈ TB := tb (List.mem_of_getElem? (i := 175) (by decide +kernel)) rfl
theorem tw_176 : Cond.methodLink RL 13 yX4_write ∈ TB := tb (List.mem_of_getElem? (i := 176) (by decide +kernel)) rfl
theorem tw_177 : Cond.instanceMethod yX4_write ∈ TB := tb (List.mem_of_getElem? (i := 177) (by decide +kernel)) rfl
theorem tw_178 : Cond.selects RX4 yX4_write yX4_write ∈ TB := tb (List.mem_of_getElem? (i := 178) (by decide +kernel)) rfl
theorem tw_179 : Cond.code yX4_write cX4_write 2 (some .int) ∈ TB := tb (List.mem_of_getElem? (i := 179) (by decide +kernel)) rfl
theorem tw_180 : Cond.methodLink RX4 69 yX4_within ∈ TB := tb (List.mem_of_getElem? (i := 180) (by decide +kernel)) rfl
theorem tw_181 : Cond.static yX4_within ∈ TB := tb (List.mem_of_getElem? (i := 181) (by decide +kernel)) rfl
theorem tw_182 : Cond.code yX4_within cX4_within 3 (some .boolean) ∈ TB := tb (List.mem_of_getElem? (i := 182) (by decide +kernel)) rfl
theorem tw_183 : Cond.methodLink RX4 73 yX2_append ∈ TB := tb (List.mem_of_getElem? (i := 183) (by decide +kernel)) rfl
theorem tw_184 : Cond.instanceMethod yX2_append ∈ TB := tb (List.mem_of_getElem? (i := 184) (by decide +kernel)) rfl
theorem tw_185 : Cond.selects RX2 yX2_append yX2_append ∈ TB := tb (List.mem_of_getElem? (i := 185) (by decide +kernel)) rfl
theorem tw_186 : Cond.code yX2_append cX2_append 2 (some .boolean) ∈ TB := tb (List.mem_of_getElem? (i := 186) (by decide +kernel)) rfl
theorem tw_187 : Cond.methodLinkNest RX2 38 yX4_within "EitherPocket" ∈ tables_1 := List.mem_of_getElem? (i := 187) (by decide +kernel)
theorem tw_188 : Cond.methodLink RX4 77 yX2_size ∈ TB := tb (List.mem_of_getElem? (i := 188) (by decide +kernel)) rfl
theorem tw_189 : Cond.instanceMethod yX2_size ∈ TB := tb (List.mem_of_getElem? (i := 189) (by decide +kernel)) rfl
theorem tw_190 : Cond.selects RX2 yX2_size yX2_size ∈ TB := tb (List.mem_of_getElem? (i := 190) (by decide +kernel)) rfl
theorem tw_191 : Cond.code yX2_size cX2_size 1 (some .int) ∈ TB := tb (List.mem_of_getElem? (i := 191) (by decide +kernel)) rfl
theorem tw_192 : Cond.methodLink RL 18 yX4_wipe ∈ TB := tb (List.mem_of_getElem? (i := 192) (by decide +kernel)) rfl
theorem tw_193 : Cond.instanceMethod yX4_wipe ∈ TB := tb (List.mem_of_getElem? (i := 193) (by decide +kernel)) rfl
theorem tw_194 : Cond.selects RX4 yX4_wipe yX4_wipe ∈ TB := tb (List.mem_of_getElem? (i := 194) (by decide +kernel)) rfl
theorem tw_195 : Cond.code yX4_wipe cX4_wipe 2 (some .int) ∈ TB := tb (List.mem_of_getElem? (i := 195) (by decide +kernel)) rfl
theorem tw_196 : Cond.methodLink RX4 81 yX2_clear ∈ TB := tb (List.mem_of_getElem? (i := 196) (by decide +kernel)) rfl
theorem tw_197 : Cond.instanceMethod yX2_clear ∈ TB := tb (List.mem_of_getElem? (i := 197) (by decide +kernel)) rfl
theorem tw_198 : Cond.selects RX2 yX2_clear yX2_clear ∈ TB := tb (List.mem_of_getElem? (i := 198) (by decide +kernel)) rfl
theorem tw_199 : Cond.code yX2_clear cX2_clear 1 none ∈ TB := tb (List.mem_of_getElem? (i := 199) (by decide +kernel)) rfl
theorem tw_200 : Cond.methodLink RL 23 yX4_fault ∈ TB := tb (List.mem_of_getElem? (i := 200) (by decide +kernel)) rfl
theorem tw_201 : Cond.instanceMethod yX4_fault ∈ TB := tb (List.mem_of_getElem? (i := 201) (by decide +kernel)) rfl
theorem tw_202 : Cond.selects RX4 yX4_fault yX4_fault ∈ TB := tb (List.mem_of_getElem? (i := 202) (by decide +kernel)) rfl
theorem tw_203 : Cond.code yX4_fault cX4_fault 1 (some .int) ∈ TB := tb (List.mem_of_getElem? (i := 203) (by decide +kernel)) rfl
theorem tw_204 : Cond.methodLink RX4 84 yX2_firstFault ∈ TB := tb (List.mem_of_getElem? (i := 204) (by decide +kernel)) rfl
theorem tw_205 : Cond.instanceMethod yX2_firstFault ∈ TB := tb (List.mem_of_getElem? (i := 205) (by decide +kernel)) rfl
theorem tw_206 : Cond.selects RX2 yX2_firstFault yX2_firstFault ∈ TB := tb (List.mem_of_getElem? (i := 206) (by decide +kernel)) rfl
theorem tw_207 : Cond.code yX2_firstFault cX2_firstFault 3 (some .int) ∈ TB := tb (List.mem_of_getElem? (i := 207) (by decide +kernel)) rfl
theorem tw_208 : Cond.methodLink RX2 42 yX0_setBoxes ∈ TB := tb (List.mem_of_getElem? (i := 208) (by decide +kernel)) rfl
theorem tw_209 : Cond.methodLink RX2 46 yX0_setHand ∈ TB := tb (List.mem_of_getElem? (i := 209) (by decide +kernel)) rfl
theorem tw_210 : Cond.methodLink RX2 52 yX2_readItem ∈ TB := tb (List.mem_of_getElem? (i := 210) (by decide +kernel)) rfl
theorem tw_212 : Cond.instanceMethod yX2_readItem ∈ TB := tb (List.mem_of_getElem? (i := 212) (by decide +kernel)) rfl
theorem tw_213 : Cond.code yX2_readItem cX2_readItem 2 (some .boolean) ∈ TB := tb (List.mem_of_getElem? (i := 213) (by decide +kernel)) rfl
theorem tw_214 : Cond.methodLink RX2 56 yX2_letterHere ∈ TB := tb (List.mem_of_getElem? (i := 214) (by decide +kernel)) rfl
theorem tw_216 : Cond.instanceMethod yX2_letterHere ∈ TB := tb (List.mem_of_getElem? (i := 216) (by decide +kernel)) rfl
theorem tw_217 : Cond.code yX2_letterHere cX2_letterHere 1 (some .char) ∈ TB := tb (List.mem_of_getElem? (i := 217) (by decide +kernel)) rfl
theorem tw_218 : Cond.methodLink RX2 60 yX2_readTwo ∈ TB := tb (List.mem_of_getElem? (i := 218) (by decide +kernel)) rfl
theorem tw_220 : Cond.instanceMethod yX2_readTwo ∈ TB := tb (List.mem_of_getElem? (i := 220) (by decide +kernel)) rfl
theorem tw_221 : Cond.code yX2_readTwo cX2_readTwo 1 (some .boolean) ∈ TB := tb (List.mem_of_getElem? (i := 221) (by decide +kernel)) rfl
theorem tw_222 : Cond.methodLink RX2 86 yX2_readNumber ∈ TB := tb (List.mem_of_getElem? (i := 222) (by decide +kernel)) rfl
theorem tw_224 : Cond.instanceMethod yX2_readNumber ∈ TB := tb (List.mem_of_getElem? (i := 224) (by decide +kernel)) rfl
theorem tw_225 : Cond.code yX2_readNumber cX2_readNumber 3 (some .int) ∈ TB := tb (List.mem_of_getElem? (i := 225) (by decide +kernel)) rfl
theorem tw_226 : Cond.methodLink RX2 94 yX2_readFigure ∈ TB := tb (List.mem_of_getElem? (i := 226) (by decide +kernel)) rfl
theorem tw_228 : Cond.instanceMethod yX2_readFigure ∈ TB := tb (List.mem_of_getElem? (i := 228) (by decide +kernel)) rfl
theorem tw_229 : Cond.code yX2_readFigure cX2_readFigure 2 (some .int) ∈ TB := tb (List.mem_of_getElem? (i := 229) (by decide +kernel)) rfl
theorem tw_230 : Cond.methodLink RX2 90 yX2_readSign ∈ TB := tb (List.mem_of_getElem? (i := 230) (by decide +kernel)) rfl
theorem tw_232 : Cond.instanceMethod yX2_readSign ∈ TB := tb (List.mem_of_getElem? (i := 232) (by decide +kernel)) rfl
theorem tw_233 : Cond.code yX2_readSign cX2_readSign 2 (some .boolean) ∈ TB := tb (List.mem_of_getElem? (i := 233) (by decide +kernel)) rfl
theorem tw_234 : Cond.methodLink RX2 63 yX2_tellBoxes ∈ TB := tb (List.mem_of_getElem? (i := 234) (by decide +kernel)) rfl
theorem tw_236 : Cond.instanceMethod yX2_tellBoxes ∈ TB := tb (List.mem_of_getElem? (i := 236) (by decide +kernel)) rfl
theorem tw_237 : Cond.code yX2_tellBoxes cX2_tellBoxes 1 (some .boolean) ∈ TB := tb (List.mem_of_getElem? (i := 237) (by decide +kernel)) rfl
theorem tw_238 : Cond.methodLink RX2 66 yX2_tellHand ∈ TB := tb (List.mem_of_getElem? (i := 238) (by decide +kernel)) rfl
theorem tw_240 : Cond.instanceMethod yX2_tellHand ∈ TB := tb (List.mem_of_getElem? (i := 240) (by decide +kernel)) rfl
theorem tw_241 : Cond.code yX2_tellHand cX2_tellHand 1 (some .boolean) ∈ TB := tb (List.mem_of_getElem? (i := 241) (by decide +kernel)) rfl
theorem tw_242 : Cond.methodLinkNest RX2 78 yX4_isHand "EitherPocket" ∈ tables_1 := List.mem_of_getElem? (i := 242) (by decide +kernel)
theorem tw_243 : Cond.static yX4_isHand ∈ TB := tb (List.mem_of_getElem? (i := 243) (by decide +kernel)) rfl
theorem tw_244 : Cond.code yX4_isHand cX4_isHand 2 (some .boolean) ∈ TB := tb (List.mem_of_getElem? (i := 244) (by decide +kernel)) rfl
theorem tw_245 : Cond.methodLink RX4 190 yX4_isKind ∈ TB := tb (List.mem_of_getElem? (i := 245) (by decide +kernel)) rfl
theorem tw_246 : Cond.static yX4_isKind ∈ TB := tb (List.mem_of_getElem? (i := 246) (by decide +kernel)) rfl
theorem tw_247 : Cond.code yX4_isKind cX4_isKind 1 (some .boolean) ∈ TB := tb (List.mem_of_getElem? (i := 247) (by decide +kernel)) rfl
theorem tw_248 : Cond.methodLink RX2 69 yX2_readOne ∈ TB := tb (List.mem_of_getElem? (i := 248) (by decide +kernel)) rfl
theorem tw_250 : Cond.instanceMethod yX2_readOne ∈ TB := tb (List.mem_of_getElem? (i := 250) (by decide +kernel)) rfl
theorem tw_251 : Cond.code yX2_readOne cX2_readOne 1 (some .boolean) ∈ TB := tb (List.mem_of_getElem? (i := 251) (by decide +kernel)) rfl
theorem tw_252 : Cond.methodLink RX2 72 yX2_tellLast ∈ TB := tb (List.mem_of_getElem? (i := 252) (by decide +kernel)) rfl
theorem tw_254 : Cond.instanceMethod yX2_tellLast ∈ TB := tb (List.mem_of_getElem? (i := 254) (by decide +kernel)) rfl
theorem tw_255 : Cond.code yX2_tellLast cX2_tellLast 1 (some .boolean) ∈ TB := tb (List.mem_of_getElem? (i := 255) (by decide +kernel)) rfl
theorem tw_256 : Cond.methodLinkNest RX2 82 yX4_isSide "EitherPocket" ∈ tables_1 := List.mem_of_getElem? (i := 256) (by decide +kernel)
theorem tw_257 : Cond.static yX4_isSide ∈ TB := tb (List.mem_of_getElem? (i := 257) (by decide +kernel)) rfl
theorem tw_258 : Cond.code yX4_isSide cX4_isSide 1 (some .boolean) ∈ TB := tb (List.mem_of_getElem? (i := 258) (by decide +kernel)) rfl
theorem tw_259 : Cond.methodLink RX2 75 yX2_tellEvening ∈ TB := tb (List.mem_of_getElem? (i := 259) (by decide +kernel)) rfl
theorem tw_261 : Cond.instanceMethod yX2_tellEvening ∈ TB := tb (List.mem_of_getElem? (i := 261) (by decide +kernel)) rfl
theorem tw_262 : Cond.code yX2_tellEvening cX2_tellEvening 1 (some .boolean) ∈ TB := tb (List.mem_of_getElem? (i := 262) (by decide +kernel)) rfl
theorem tw_263 : Cond.methodLink RL 27 yX4_lay ∈ TB := tb (List.mem_of_getElem? (i := 263) (by decide +kernel)) rfl
theorem tw_264 : Cond.instanceMethod yX4_lay ∈ TB := tb (List.mem_of_getElem? (i := 264) (by decide +kernel)) rfl
theorem tw_265 : Cond.selects RX4 yX4_lay yX4_lay ∈ TB := tb (List.mem_of_getElem? (i := 265) (by decide +kernel)) rfl
theorem tw_266 : Cond.code yX4_lay cX4_lay 1 (some .int) ∈ TB := tb (List.mem_of_getElem? (i := 266) (by decide +kernel)) rfl
theorem tw_267 : Cond.methodLink RX4 90 yX0_copyFrom ∈ TB := tb (List.mem_of_getElem? (i := 267) (by decide +kernel)) rfl
theorem tw_268 : Cond.instanceMethod yX0_copyFrom ∈ TB := tb (List.mem_of_getElem? (i := 268) (by decide +kernel)) rfl
theorem tw_269 : Cond.selects RX0 yX0_copyFrom yX0_copyFrom ∈ TB := tb (List.mem_of_getElem? (i := 269) (by decide +kernel)) rfl
theorem tw_270 : Cond.code yX0_copyFrom cX0_copyFrom 2 none ∈ TB := tb (List.mem_of_getElem? (i := 270) (by decide +kernel)) rfl
theorem tw_271 : Cond.methodLink RX4 97 yX1_clear ∈ TB := tb (List.mem_of_getElem? (i := 271) (by decide +kernel)) rfl
theorem tw_272 : Cond.instanceMethod yX1_clear ∈ TB := tb (List.mem_of_getElem? (i := 272) (by decide +kernel)) rfl
theorem tw_273 : Cond.selects RX1 yX1_clear yX1_clear ∈ TB := tb (List.mem_of_getElem? (i := 273) (by decide +kernel)) rfl
theorem tw_274 : Cond.code yX1_clear cX1_clear 1 none ∈ TB := tb (List.mem_of_getElem? (i := 274) (by decide +kernel)) rfl
theorem tw_275 : Cond.methodLink RX4 98 yX0_matches ∈ TB := tb (List.mem_of_getElem? (i := 275) (by decide +kernel)) rfl
theorem tw_276 : Cond.instanceMethod yX0_matches ∈ TB := tb (List.mem_of_getElem? (i := 276) (by decide +kernel)) rfl
theorem tw_277 : Cond.selects RX0 yX0_matches yX0_matches ∈ TB := tb (List.mem_of_getElem? (i := 277) (by decide +kernel)) rfl
theorem tw_278 : Cond.code yX0_matches cX0_matches 1 (some .int) ∈ TB := tb (List.mem_of_getElem? (i := 278) (by decide +kernel)) rfl
theorem tw_279 : Cond.methodLink RL 31 yX4_box ∈ TB := tb (List.mem_of_getElem? (i := 279) (by decide +kernel)) rfl
theorem tw_280 : Cond.instanceMethod yX4_box ∈ TB := tb (List.mem_of_getElem? (i := 280) (by decide +kernel)) rfl
theorem tw_281 : Cond.selects RX4 yX4_box yX4_box ∈ TB := tb (List.mem_of_getElem? (i := 281) (by decide +kernel)) rfl
theorem tw_282 : Cond.code yX4_box cX4_box 2 (some .int) ∈ TB := tb (List.mem_of_getElem? (i := 282) (by decide +kernel)) rfl
theorem tw_283 : Cond.methodLink RX4 101 yX4_isSide ∈ TB := tb (List.mem_of_getElem? (i := 283) (by decide +kernel)) rfl
theorem tw_284 : Cond.methodLink RX4 105 yX0_inBox ∈ TB := tb (List.mem_of_getElem? (i := 284) (by decide +kernel)) rfl
theorem tw_285 : Cond.instanceMethod yX0_inBox ∈ TB := tb (List.mem_of_getElem? (i := 285) (by decide +kernel)) rfl
theorem tw_286 : Cond.selects RX0 yX0_inBox yX0_inBox ∈ TB := tb (List.mem_of_getElem? (i := 286) (by decide +kernel)) rfl
theorem tw_287 : Cond.code yX0_inBox cX0_inBox 2 (some .int) ∈ TB := tb (List.mem_of_getElem? (i := 287) (by decide +kernel)) rfl
theorem tw_288 : Cond.methodLink RL 35 yX4_quarters ∈ TB := tb (List.mem_of_getElem? (i := 288) (by decide +kernel)) rfl
theorem tw_289 : Cond.instanceMethod yX4_quarters ∈ TB := tb (List.mem_of_getElem? (i := 289) (by decide +kernel)) rfl
theorem tw_290 : Cond.selects RX4 yX4_quarters yX4_quarters ∈ TB := tb (List.mem_of_getElem? (i := 290) (by decide +kernel)) rfl
theorem tw_291 : Cond.code yX4_quarters cX4_quarters 3 (some .int) ∈ TB := tb (List.mem_of_getElem? (i := 291) (by decide +kernel)) rfl
theorem tw_292 : Cond.methodLink RX4 109 yX0_quartersToLeft ∈ TB := tb (List.mem_of_getElem? (i := 292) (by decide +kernel)) rfl
theorem tw_293 : Cond.instanceMethod yX0_quartersToLeft ∈ TB := tb (List.mem_of_getElem? (i := 293) (by decide +kernel)) rfl
theorem tw_294 : Cond.selects RX0 yX0_quartersToLeft yX0_quartersToLeft ∈ TB := tb (List.mem_of_getElem? (i := 294) (by decide +kernel)) rfl
theorem tw_295 : Cond.code yX0_quartersToLeft cX0_quartersToLeft 1 (some .int) ∈ TB := tb (List.mem_of_getElem? (i := 295) (by decide +kernel)) rfl
theorem tw_296 : Cond.methodLinkNest RX0 27 yX4_handToLeft "EitherPocket" ∈ tables_1 := List.mem_of_getElem? (i := 296) (by decide +kernel)
theorem tw_297 : Cond.static yX4_handToLeft ∈ TB := tb (List.mem_of_getElem? (i := 297) (by decide +kernel)) rfl
theorem tw_298 : Cond.code yX4_handToLeft cX4_handToLeft 5 (some .int) ∈ TB := tb (List.mem_of_getElem? (i := 298) (by decide +kernel)) rfl
theorem tw_299 : Cond.methodLink RX4 235 yX4_leaning ∈ TB := tb (List.mem_of_getElem? (i := 299) (by decide +kernel)) rfl
theorem tw_300 : Cond.static yX4_leaning ∈ TB := tb (List.mem_of_getElem? (i := 300) (by decide +kernel)) rfl
theorem tw_301 : Cond.code yX4_leaning cX4_leaning 3 (some .int) ∈ TB := tb (List.mem_of_getElem? (i := 301) (by decide +kernel)) rfl
theorem tw_302 : Cond.methodLink RL 39 yX4_reach ∈ TB := tb (List.mem_of_getElem? (i := 302) (by decide +kernel)) rfl
theorem tw_303 : Cond.instanceMethod yX4_reach ∈ TB := tb (List.mem_of_getElem? (i := 303) (by decide +kernel)) rfl
theorem tw_304 : Cond.selects RX4 yX4_reach yX4_reach ∈ TB := tb (List.mem_of_getElem? (i := 304) (by decide +kernel)) rfl
theorem tw_305 : Cond.code yX4_reach cX4_reach 2 (some .int) ∈ TB := tb (List.mem_of_getElem? (i := 305) (by decide +kernel)) rfl
theorem tw_306 : Cond.methodLink RX4 112 yX1_put ∈ TB := tb (List.mem_of_getElem? (i := 306) (by decide +kernel)) rfl
theorem tw_307 : Cond.instanceMethod yX1_put ∈ TB := tb (List.mem_of_getElem? (i := 307) (by decide +kernel)) rfl
theorem tw_308 : Cond.selects RX1 yX1_put yX1_put ∈ TB := tb (List.mem_of_getElem? (i := 308) (by decide +kernel)) rfl
theorem tw_309 : Cond.code yX1_put cX1_put 2 none ∈ TB := tb (List.mem_of_getElem? (i := 309) (by decide +kernel)) rfl
theorem tw_310 : Cond.methodLink RX1 26 yX1_isFull ∈ TB := tb (List.mem_of_getElem? (i := 310) (by decide +kernel)) rfl
theorem tw_311 : Cond.instanceMethod yX1_isFull ∈ TB := tb (List.mem_of_getElem? (i := 311) (by decide +kernel)) rfl
theorem tw_312 : Cond.selects RX1 yX1_isFull yX1_isFull ∈ TB := tb (List.mem_of_getElem? (i := 312) (by decide +kernel)) rfl
theorem tw_313 : Cond.code yX1_isFull cX1_isFull 1 (some .boolean) ∈ TB := tb (List.mem_of_getElem? (i := 313) (by decide +kernel)) rfl
theorem tw_314 : Cond.methodLink RX1 30 yX1_dropOldest ∈ TB := tb (List.mem_of_getElem? (i := 314) (by decide +kernel)) rfl
theorem tw_316 : Cond.instanceMethod yX1_dropOldest ∈ TB := tb (List.mem_of_getElem? (i := 316) (by decide +kernel)) rfl
theorem tw_317 : Cond.code yX1_dropOldest cX1_dropOldest 2 none ∈ TB := tb (List.mem_of_getElem? (i := 317) (by decide +kernel)) rfl
theorem tw_318 : Cond.methodLink RX1 39 yX0_copyFrom ∈ TB := tb (List.mem_of_getElem? (i := 318) (by decide +kernel)) rfl
theorem tw_319 : Cond.methodLinkNest RX1 33 yX4_within "EitherPocket" ∈ tables_1 := List.mem_of_getElem? (i := 319) (by decide +kernel)
theorem tw_320 : Cond.methodLink RX4 115 yX0_draw ∈ TB := tb (List.mem_of_getElem? (i := 320) (by decide +kernel)) rfl
theorem tw_321 : Cond.instanceMethod yX0_draw ∈ TB := tb (List.mem_of_getElem? (i := 321) (by decide +kernel)) rfl
theorem tw_322 : Cond.selects RX0 yX0_draw yX0_draw ∈ TB := tb (List.mem_of_getElem? (i := 322) (by decide +kernel)) rfl
theorem tw_323 : Cond.code yX0_draw cX0_draw 3 (some .boolean) ∈ TB := tb (List.mem_of_getElem? (i := 323) (by decide +kernel)) rfl
theorem tw_324 : Cond.methodLink RX0 31 yX0_inBox ∈ TB := tb (List.mem_of_getElem? (i := 324) (by decide +kernel)) rfl
theorem tw_325 : Cond.methodLink RX0 35 yX0_setBox ∈ TB := tb (List.mem_of_getElem? (i := 325) (by decide +kernel)) rfl
theorem tw_326 : Cond.instanceMethod yX0_setBox ∈ TB := tb (List.mem_of_getElem? (i := 326) (by decide +kernel)) rfl
theorem tw_327 : Cond.selects RX0 yX0_setBox yX0_setBox ∈ TB := tb (List.mem_of_getElem? (i := 327) (by decide +kernel)) rfl
theorem tw_328 : Cond.code yX0_setBox cX0_setBox 3 none ∈ TB := tb (List.mem_of_getElem? (i := 328) (by decide +kernel)) rfl
theorem tw_329 : Cond.methodLink RL 43 yX4_putOver ∈ TB := tb (List.mem_of_getElem? (i := 329) (by decide +kernel)) rfl
theorem tw_330 : Cond.instanceMethod yX4_putOver ∈ TB := tb (List.mem_of_getElem? (i := 330) (by decide +kernel)) rfl
theorem tw_331 : Cond.selects RX4 yX4_putOver yX4_putOver ∈ TB := tb (List.mem_of_getElem? (i := 331) (by decide +kernel)) rfl
theorem tw_332 : Cond.code yX4_putOver cX4_putOver 5 (some .int) ∈ TB := tb (List.mem_of_getElem? (i := 332) (by decide +kernel)) rfl
theorem tw_333 : Cond.methodLink RX4 118 yX4_otherSide ∈ TB := tb (List.mem_of_getElem? (i := 333) (by decide +kernel)) rfl
theorem tw_334 : Cond.static yX4_otherSide ∈ TB := tb (List.mem_of_getElem? (i := 334) (by decide +kernel)) rfl
theorem tw_335 : Cond.code yX4_otherSide cX4_otherSide 1 (some .int) ∈ TB := tb (List.mem_of_getElem? (i := 335) (by decide +kernel)) rfl
theorem tw_336 : Cond.methodLink RX4 121 yX0_setBox ∈ TB := tb (List.mem_of_getElem? (i := 336) (by decide +kernel)) rfl
theorem tw_337 : Cond.methodLink RL 48 yX4_buy ∈ TB := tb (List.mem_of_getElem? (i := 337) (by decide +kernel)) rfl
theorem tw_338 : Cond.instanceMethod yX4_buy ∈ TB := tb (List.mem_of_getElem? (i := 338) (by decide +kernel)) rfl
theorem tw_339 : Cond.selects RX4 yX4_buy yX4_buy ∈ TB := tb (List.mem_of_getElem? (i := 339) (by decide +kernel)) rfl
theorem tw_340 : Cond.code yX4_buy cX4_buy 3 (some .int) ∈ TB := tb (List.mem_of_getElem? (i := 340) (by decide +kernel)) rfl
theorem tw_341 : Cond.methodLink RL 52 yX4_hand ∈ TB := tb (List.mem_of_getElem? (i := 341) (by decide +kernel)) rfl
theorem tw_342 : Cond.instanceMethod yX4_hand ∈ TB := tb (List.mem_of_getElem? (i := 342) (by decide +kernel)) rfl
theorem tw_343 : Cond.selects RX4 yX4_hand yX4_hand ∈ TB := tb (List.mem_of_getElem? (i := 343) (by decide +kernel)) rfl
theorem tw_344 : Cond.code yX4_hand cX4_hand 4 (some .int) ∈ TB := tb (List.mem_of_getElem? (i := 344) (by decide +kernel)) rfl
theorem tw_345 : Cond.methodLink RX4 124 yX4_isHand ∈ TB := tb (List.mem_of_getElem? (i := 345) (by decide +kernel)) rfl
theorem tw_346 : Cond.methodLink RL 56 yX4_undo ∈ TB := tb (List.mem_of_getElem? (i := 346) (by decide +kernel)) rfl
theorem tw_347 : Cond.instanceMethod yX4_undo ∈ TB := tb (List.mem_of_getElem? (i := 347) (by decide +kernel)) rfl
theorem tw_348 : Cond.selects RX4 yX4_undo yX4_undo ∈ TB := tb (List.mem_of_getElem? (i := 348) (by decide +kernel)) rfl
theorem tw_349 : Cond.code yX4_undo cX4_undo 1 (some .int) ∈ TB := tb (List.mem_of_getElem? (i := 349) (by decide +kernel)) rfl
theorem tw_350 : Cond.methodLink RX4 134 yX1_takeLast ∈ TB := tb (List.mem_of_getElem? (i := 350) (by decide +kernel)) rfl
theorem tw_351 : Cond.instanceMethod yX1_takeLast ∈ TB := tb (List.mem_of_getElem? (i := 351) (by decide +kernel)) rfl
theorem tw_352 : Cond.selects RX1 yX1_takeLast yX1_takeLast ∈ TB := tb (List.mem_of_getElem? (i := 352) (by decide +kernel)) rfl
theorem tw_353 : Cond.code yX1_takeLast cX1_takeLast 2 (some .boolean) ∈ TB := tb (List.mem_of_getElem? (i := 353) (by decide +kernel)) rfl
theorem tw_354 : Cond.methodLink RX4 138 yX1_size ∈ TB := tb (List.mem_of_getElem? (i := 354) (by decide +kernel)) rfl
theorem tw_355 : Cond.instanceMethod yX1_size ∈ TB := tb (List.mem_of_getElem? (i := 355) (by decide +kernel)) rfl
theorem tw_356 : Cond.selects RX1 yX1_size yX1_size ∈ TB := tb (List.mem_of_getElem? (i := 356) (by decide +kernel)) rfl
theorem tw_357 : Cond.code yX1_size cX1_size 1 (some .int) ∈ TB := tb (List.mem_of_getElem? (i := 357) (by decide +kernel)) rfl
theorem tw_358 : Cond.methodLink RL 60 yX4_left ∈ TB := tb (List.mem_of_getElem? (i := 358) (by decide +kernel)) rfl
theorem tw_359 : Cond.instanceMethod yX4_left ∈ TB := tb (List.mem_of_getElem? (i := 359) (by decide +kernel)) rfl
theorem tw_360 : Cond.selects RX4 yX4_left yX4_left ∈ TB := tb (List.mem_of_getElem? (i := 360) (by decide +kernel)) rfl
theorem tw_361 : Cond.code yX4_left cX4_left 3 (some .int) ∈ TB := tb (List.mem_of_getElem? (i := 361) (by decide +kernel)) rfl
theorem tw_362 : Cond.methodLink RX4 139 yX4_isEnd ∈ TB := tb (List.mem_of_getElem? (i := 362) (by decide +kernel)) rfl
theorem tw_363 : Cond.static yX4_isEnd ∈ TB := tb (List.mem_of_getElem? (i := 363) (by decide +kernel)) rfl
theorem tw_364 : Cond.code yX4_isEnd cX4_isEnd 1 (some .boolean) ∈ TB := tb (List.mem_of_getElem? (i := 364) (by decide +kernel)) rfl
theorem tw_365 : Cond.methodLink RX4 142 yX4_walkToEnd ∈ TB := tb (List.mem_of_getElem? (i := 365) (by decide +kernel)) rfl
theorem tw_367 : Cond.instanceMethod yX4_walkToEnd ∈ TB := tb (List.mem_of_getElem? (i := 367) (by decide +kernel)) rfl
theorem tw_368 : Cond.code yX4_walkToEnd cX4_walkToEnd 2 (some .long) ∈ TB := tb (List.mem_of_getElem? (i := 368) (by decide +kernel)) rfl
theorem tw_369 : Cond.methodLink RX4 162 yX4_startFrom ∈ TB := tb (List.mem_of_getElem? (i := 369) (by decide +kernel)) rfl
theorem tw_371 : Cond.instanceMethod yX4_startFrom ∈ TB := tb (List.mem_of_getElem? (i := 371) (by decide +kernel)) rfl
theorem tw_372 : Cond.code yX4_startFrom cX4_startFrom 4 none ∈ TB := tb (List.mem_of_getElem? (i := 372) (by decide +kernel)) rfl
theorem tw_373 : Cond.methodLink RX4 212 yX3_start ∈ TB := tb (List.mem_of_getElem? (i := 373) (by decide +kernel)) rfl
theorem tw_374 : Cond.instanceMethod yX3_start ∈ TB := tb (List.mem_of_getElem? (i := 374) (by decide +kernel)) rfl
theorem tw_375 : Cond.selects RX3 yX3_start yX3_start ∈ TB := tb (List.mem_of_getElem? (i := 375) (by decide +kernel)) rfl
theorem tw_376 : Cond.code yX3_start cX3_start 3 none ∈ TB := tb (List.mem_of_getElem? (i := 376) (by decide +kernel)) rfl
theorem tw_377 : Cond.methodLink RX3 41 yX3_wipeRow ∈ TB := tb (List.mem_of_getElem? (i := 377) (by decide +kernel)) rfl
theorem tw_378 : Cond.static yX3_wipeRow ∈ TB := tb (List.mem_of_getElem? (i := 378) (by decide +kernel)) rfl
theorem tw_379 : Cond.code yX3_wipeRow cX3_wipeRow 2 none ∈ TB := tb (List.mem_of_getElem? (i := 379) (by decide +kernel)) rfl
theorem tw_380 : Cond.methodLink RX3 49 yX0_matches ∈ TB := tb (List.mem_of_getElem? (i := 380) (by decide +kernel)) rfl
theorem tw_381 : Cond.constantLong RX3 52 (4398046511104) ∈ TB := tb (List.mem_of_getElem? (i := 381) (by decide +kernel)) rfl
theorem tw_382 : Cond.methodLink RX3 60 yX3_endBy ∈ TB := tb (List.mem_of_getElem? (i := 382) (by decide +kernel)) rfl
theorem tw_384 : Cond.instanceMethod yX3_endBy ∈ TB := tb (List.mem_of_getElem? (i := 384) (by decide +kernel)) rfl
theorem tw_385 : Cond.code yX3_endBy cX3_endBy 5 none ∈ TB := tb (List.mem_of_getElem? (i := 385) (by decide +kernel)) rfl
theorem tw_386 : Cond.methodLink RX3 67 yX3_addTo ∈ TB := tb (List.mem_of_getElem? (i := 386) (by decide +kernel)) rfl
theorem tw_387 : Cond.static yX3_addTo ∈ TB := tb (List.mem_of_getElem? (i := 387) (by decide +kernel)) rfl
theorem tw_388 : Cond.code yX3_addTo cX3_addTo 6 none ∈ TB := tb (List.mem_of_getElem? (i := 388) (by decide +kernel)) rfl
theorem tw_389 : Cond.methodLink RX4 216 yX3_reachesTillEnd ∈ TB := tb (List.mem_of_getElem? (i := 389) (by decide +kernel)) rfl
theorem tw_390 : Cond.instanceMethod yX3_reachesTillEnd ∈ TB := tb (List.mem_of_getElem? (i := 390) (by decide +kernel)) rfl
theorem tw_391 : Cond.selects RX3 yX3_reachesTillEnd yX3_reachesTillEnd ∈ TB := tb (List.mem_of_getElem? (i := 391) (by decide +kernel)) rfl
theorem tw_392 : Cond.code yX3_reachesTillEnd cX3_reachesTillEnd 4 (some .long) ∈ TB := tb (List.mem_of_getElem? (i := 392) (by decide +kernel)) rfl
theorem tw_393 : Cond.methodLink RX3 71 yX3_advanceOnce ∈ TB := tb (List.mem_of_getElem? (i := 393) (by decide +kernel)) rfl
theorem tw_395 : Cond.instanceMethod yX3_advanceOnce ∈ TB := tb (List.mem_of_getElem? (i := 395) (by decide +kernel)) rfl
theorem tw_396 : Cond.code yX3_advanceOnce cX3_advanceOnce 9 none ∈ TB := tb (List.mem_of_getElem? (i := 396) (by decide +kernel)) rfl
theorem tw_397 : Cond.methodLinkNest RX3 78 yX4_handToLeft "EitherPocket" ∈ tables_1 := List.mem_of_getElem? (i := 397) (by decide +kernel)
theorem tw_398 : Cond.constantLong RX3 82 (4) ∈ TB := tb (List.mem_of_getElem? (i := 398) (by decide +kernel)) rfl
theorem tw_399 : Cond.methodLink RX3 84 yX3_follow ∈ TB := tb (List.mem_of_getElem? (i := 399) (by decide +kernel)) rfl
theorem tw_401 : Cond.instanceMethod yX3_follow ∈ TB := tb (List.mem_of_getElem? (i := 401) (by decide +kernel)) rfl
theorem tw_402 : Cond.code yX3_follow cX3_follow 7 none ∈ TB := tb (List.mem_of_getElem? (i := 402) (by decide +kernel)) rfl
theorem tw_403 : Cond.methodLink RX4 146 yX3_chanceOfOther ∈ TB := tb (List.mem_of_getElem? (i := 403) (by decide +kernel)) rfl
theorem tw_404 : Cond.instanceMethod yX3_chanceOfOther ∈ TB := tb (List.mem_of_getElem? (i := 404) (by decide +kernel)) rfl
theorem tw_405 : Cond.selects RX3 yX3_chanceOfOther yX3_chanceOfOther ∈ TB := tb (List.mem_of_getElem? (i := 405) (by decide +kernel)) rfl
theorem tw_406 : Cond.code yX3_chanceOfOther cX3_chanceOfOther 2 (some .long) ∈ TB := tb (List.mem_of_getElem? (i := 406) (by decide +kernel)) rfl
theorem tw_407 : Cond.methodLinkNest RX3 74 yX4_within "EitherPocket" ∈ tables_1 := List.mem_of_getElem? (i := 407) (by decide +kernel)
theorem tw_408 : Cond.methodLink RX4 149 yX4_tenThousandths ∈ TB := tb (List.mem_of_getElem? (i := 408) (by decide +kernel)) rfl
theorem tw_409 : Cond.static yX4_tenThousandths ∈ TB := tb (List.mem_of_getElem? (i := 409) (by decide +kernel)) rfl
theorem tw_410 : Cond.code yX4_tenThousandths cX4_tenThousandths 2 (some .int) ∈ TB := tb (List.mem_of_getElem? (i := 410) (by decide +kernel)) rfl
theorem tw_411 : Cond.constantLong RX4 196 (10000) ∈ TB := tb (List.mem_of_getElem? (i := 411) (by decide +kernel)) rfl
theorem tw_412 : Cond.constantLong RX4 169 (4398046511104) ∈ TB := tb (List.mem_of_getElem? (i := 412) (by decide +kernel)) rfl
theorem tw_413 : Cond.methodLink RL 64 yX4_mean ∈ TB := tb (List.mem_of_getElem? (i := 413) (by decide +kernel)) rfl
theorem tw_414 : Cond.instanceMethod yX4_mean ∈ TB := tb (List.mem_of_getElem? (i := 414) (by decide +kernel)) rfl
theorem tw_415 : Cond.selects RX4 yX4_mean yX4_mean ∈ TB := tb (List.mem_of_getElem? (i := 415) (by decide +kernel)) rfl
theorem tw_416 : Cond.code yX4_mean cX4_mean 5 (some .int) ∈ TB := tb (List.mem_of_getElem? (i := 416) (by decide +kernel)) rfl
theorem tw_417 : Cond.methodLink RX4 153 yX4_hundredfold ∈ TB := tb (List.mem_of_getElem? (i := 417) (by decide +kernel)) rfl
theorem tw_418 : Cond.static yX4_hundredfold ∈ TB := tb (List.mem_of_getElem? (i := 418) (by decide +kernel)) rfl
theorem tw_419 : Cond.code yX4_hundredfold cX4_hundredfold 2 (some .int) ∈ TB := tb (List.mem_of_getElem? (i := 419) (by decide +kernel)) rfl
theorem tw_420 : Cond.constantLong RX4 233 (100) ∈ TB := tb (List.mem_of_getElem? (i := 420) (by decide +kernel)) rfl
theorem tw_421 : Cond.methodLink RL 68 yX4_soon ∈ TB := tb (List.mem_of_getElem? (i := 421) (by decide +kernel)) rfl
theorem tw_422 : Cond.instanceMethod yX4_soon ∈ TB := tb (List.mem_of_getElem? (i := 422) (by decide +kernel)) rfl
theorem tw_423 : Cond.selects RX4 yX4_soon yX4_soon ∈ TB := tb (List.mem_of_getElem? (i := 423) (by decide +kernel)) rfl
theorem tw_424 : Cond.code yX4_soon cX4_soon 3 (some .int) ∈ TB := tb (List.mem_of_getElem? (i := 424) (by decide +kernel)) rfl
theorem tw_425 : Cond.methodLink RX4 166 yX3_advance ∈ TB := tb (List.mem_of_getElem? (i := 425) (by decide +kernel)) rfl
theorem tw_426 : Cond.instanceMethod yX3_advance ∈ TB := tb (List.mem_of_getElem? (i := 426) (by decide +kernel)) rfl
theorem tw_427 : Cond.selects RX3 yX3_advance yX3_advance ∈ TB := tb (List.mem_of_getElem? (i := 427) (by decide +kernel)) rfl
theorem tw_428 : Cond.code yX3_advance cX3_advance 3 none ∈ TB := tb (List.mem_of_getElem? (i := 428) (by decide +kernel)) rfl
theorem tw_429 : Cond.methodLink RX4 171 yX3_standing ∈ TB := tb (List.mem_of_getElem? (i := 429) (by decide +kernel)) rfl
theorem tw_430 : Cond.instanceMethod yX3_standing ∈ TB := tb (List.mem_of_getElem? (i := 430) (by decide +kernel)) rfl
theorem tw_431 : Cond.selects RX3 yX3_standing yX3_standing ∈ TB := tb (List.mem_of_getElem? (i := 431) (by decide +kernel)) rfl
theorem tw_432 : Cond.code yX3_standing cX3_standing 1 (some .long) ∈ TB := tb (List.mem_of_getElem? (i := 432) (by decide +kernel)) rfl
theorem tw_433 : Cond.methodLink RL 72 yX4_times ∈ TB := tb (List.mem_of_getElem? (i := 433) (by decide +kernel)) rfl
theorem tw_434 : Cond.instanceMethod yX4_times ∈ TB := tb (List.mem_of_getElem? (i := 434) (by decide +kernel)) rfl
theorem tw_435 : Cond.selects RX4 yX4_times yX4_times ∈ TB := tb (List.mem_of_getElem? (i := 435) (by decide +kernel)) rfl
theorem tw_436 : Cond.code yX4_times cX4_times 2 (some .int) ∈ TB := tb (List.mem_of_getElem? (i := 436) (by decide +kernel)) rfl
theorem tw_437 : Cond.methodLink RL 76 yX4_likeliest ∈ TB := tb (List.mem_of_getElem? (i := 437) (by decide +kernel)) rfl
theorem tw_438 : Cond.instanceMethod yX4_likeliest ∈ TB := tb (List.mem_of_getElem? (i := 438) (by decide +kernel)) rfl
theorem tw_439 : Cond.selects RX4 yX4_likeliest yX4_likeliest ∈ TB := tb (List.mem_of_getElem? (i := 439) (by decide +kernel)) rfl
theorem tw_440 : Cond.code yX4_likeliest cX4_likeliest 4 (some .int) ∈ TB := tb (List.mem_of_getElem? (i := 440) (by decide +kernel)) rfl
theorem tw_441 : Cond.methodLink RL 80 yX4_level ∈ TB := tb (List.mem_of_getElem? (i := 441) (by decide +kernel)) rfl
theorem tw_442 : Cond.instanceMethod yX4_level ∈ TB := tb (List.mem_of_getElem? (i := 442) (by decide +kernel)) rfl
theorem tw_443 : Cond.selects RX4 yX4_level yX4_level ∈ TB := tb (List.mem_of_getElem? (i := 443) (by decide +kernel)) rfl
theorem tw_444 : Cond.code yX4_level cX4_level 2 (some .int) ∈ TB := tb (List.mem_of_getElem? (i := 444) (by decide +kernel)) rfl
theorem tw_445 : Cond.methodLink RX4 175 yX3_chanceOfLevel ∈ TB := tb (List.mem_of_getElem? (i := 445) (by decide +kernel)) rfl
theorem tw_446 : Cond.instanceMethod yX3_chanceOfLevel ∈ TB := tb (List.mem_of_getElem? (i := 446) (by decide +kernel)) rfl
theorem tw_447 : Cond.selects RX3 yX3_chanceOfLevel yX3_chanceOfLevel ∈ TB := tb (List.mem_of_getElem? (i := 447) (by decide +kernel)) rfl
theorem tw_448 : Cond.code yX3_chanceOfLevel cX3_chanceOfLevel 5 (some .long) ∈ TB := tb (List.mem_of_getElem? (i := 448) (by decide +kernel)) rfl
theorem tw_449 : Cond.methodLink RL 84 yX4_worth ∈ TB := tb (List.mem_of_getElem? (i := 449) (by decide +kernel)) rfl
theorem tw_450 : Cond.instanceMethod yX4_worth ∈ TB := tb (List.mem_of_getElem? (i := 450) (by decide +kernel)) rfl
theorem tw_451 : Cond.selects RX4 yX4_worth yX4_worth ∈ TB := tb (List.mem_of_getElem? (i := 451) (by decide +kernel)) rfl
theorem tw_452 : Cond.code yX4_worth cX4_worth 6 (some .int) ∈ TB := tb (List.mem_of_getElem? (i := 452) (by decide +kernel)) rfl
theorem tw_453 : Cond.methodLink RX4 178 yX4_reachesWith ∈ TB := tb (List.mem_of_getElem? (i := 453) (by decide +kernel)) rfl
theorem tw_455 : Cond.instanceMethod yX4_reachesWith ∈ TB := tb (List.mem_of_getElem? (i := 455) (by decide +kernel)) rfl
theorem tw_456 : Cond.code yX4_reachesWith cX4_reachesWith 3 (some .long) ∈ TB := tb (List.mem_of_getElem? (i := 456) (by decide +kernel)) rfl
theorem tw_457 : Cond.constantLong RX4 185 (-1) ∈ TB := tb (List.mem_of_getElem? (i := 457) (by decide +kernel)) rfl
theorem tw_458 : Cond.methodLink RL 88 yX4_begin ∈ TB := tb (List.mem_of_getElem? (i := 458) (by decide +kernel)) rfl
theorem tw_459 : Cond.instanceMethod yX4_begin ∈ TB := tb (List.mem_of_getElem? (i := 459) (by decide +kernel)) rfl
theorem tw_460 : Cond.selects RX4 yX4_begin yX4_begin ∈ TB := tb (List.mem_of_getElem? (i := 460) (by decide +kernel)) rfl
theorem tw_461 : Cond.code yX4_begin cX4_begin 8 (some .int) ∈ TB := tb (List.mem_of_getElem? (i := 461) (by decide +kernel)) rfl
theorem tw_462 : Cond.methodLink RX4 182 yX4_isPart ∈ TB := tb (List.mem_of_getElem? (i := 462) (by decide +kernel)) rfl
theorem tw_463 : Cond.static yX4_isPart ∈ TB := tb (List.mem_of_getElem? (i := 463) (by decide +kernel)) rfl
theorem tw_464 : Cond.code yX4_isPart cX4_isPart 1 (some .boolean) ∈ TB := tb (List.mem_of_getElem? (i := 464) (by decide +kernel)) rfl
theorem tw_465 : Cond.methodLink RL 93 yX4_over ∈ TB := tb (List.mem_of_getElem? (i := 465) (by decide +kernel)) rfl
theorem tw_466 : Cond.instanceMethod yX4_over ∈ TB := tb (List.mem_of_getElem? (i := 466) (by decide +kernel)) rfl
theorem tw_467 : Cond.selects RX4 yX4_over yX4_over ∈ TB := tb (List.mem_of_getElem? (i := 467) (by decide +kernel)) rfl
theorem tw_468 : Cond.code yX4_over cX4_over 10 (some .int) ∈ TB := tb (List.mem_of_getElem? (i := 468) (by decide +kernel)) rfl
theorem tw_469 : Cond.methodLink RL 97 yX4_seen ∈ TB := tb (List.mem_of_getElem? (i := 469) (by decide +kernel)) rfl
theorem tw_470 : Cond.instanceMethod yX4_seen ∈ TB := tb (List.mem_of_getElem? (i := 470) (by decide +kernel)) rfl
theorem tw_471 : Cond.selects RX4 yX4_seen yX4_seen ∈ TB := tb (List.mem_of_getElem? (i := 471) (by decide +kernel)) rfl
theorem tw_472 : Cond.code yX4_seen cX4_seen 3 (some .int) ∈ TB := tb (List.mem_of_getElem? (i := 472) (by decide +kernel)) rfl
theorem tw_473 : Cond.methodLink RL 101 yX4_forget ∈ TB := tb (List.mem_of_getElem? (i := 473) (by decide +kernel)) rfl
theorem tw_474 : Cond.instanceMethod yX4_forget ∈ TB := tb (List.mem_of_getElem? (i := 474) (by decide +kernel)) rfl
theorem tw_475 : Cond.selects RX4 yX4_forget yX4_forget ∈ TB := tb (List.mem_of_getElem? (i := 475) (by decide +kernel)) rfl
theorem tw_476 : Cond.code yX4_forget cX4_forget 2 (some .int) ∈ TB := tb (List.mem_of_getElem? (i := 476) (by decide +kernel)) rfl
theorem tw_477 : Cond.methodLink RL 105 yX4_fits ∈ TB := tb (List.mem_of_getElem? (i := 477) (by decide +kernel)) rfl
theorem tw_478 : Cond.instanceMethod yX4_fits ∈ TB := tb (List.mem_of_getElem? (i := 478) (by decide +kernel)) rfl
theorem tw_479 : Cond.selects RX4 yX4_fits yX4_fits ∈ TB := tb (List.mem_of_getElem? (i := 479) (by decide +kernel)) rfl
theorem tw_480 : Cond.code yX4_fits cX4_fits 3 (some .int) ∈ TB := tb (List.mem_of_getElem? (i := 480) (by decide +kernel)) rfl
theorem tw_481 : Cond.methodLink RX4 187 yX4_likeliestQuarters ∈ TB := tb (List.mem_of_getElem? (i := 481) (by decide +kernel)) rfl
theorem tw_483 : Cond.instanceMethod yX4_likeliestQuarters ∈ TB := tb (List.mem_of_getElem? (i := 483) (by decide +kernel)) rfl
theorem tw_484 : Cond.code yX4_likeliestQuarters cX4_likeliestQuarters 8 (some .int) ∈ TB := tb (List.mem_of_getElem? (i := 484) (by decide +kernel)) rfl
theorem tw_485 : Cond.methodLink RX4 193 yX4_chanceOfSeen ∈ TB := tb (List.mem_of_getElem? (i := 485) (by decide +kernel)) rfl
theorem tw_487 : Cond.instanceMethod yX4_chanceOfSeen ∈ TB := tb (List.mem_of_getElem? (i := 487) (by decide +kernel)) rfl
theorem tw_488 : Cond.code yX4_chanceOfSeen cX4_chanceOfSeen 4 (some .long) ∈ TB := tb (List.mem_of_getElem? (i := 488) (by decide +kernel)) rfl
theorem tw_489 : Cond.methodLink RX4 219 yX4_startByHand ∈ TB := tb (List.mem_of_getElem? (i := 489) (by decide +kernel)) rfl
theorem tw_491 : Cond.instanceMethod yX4_startByHand ∈ TB := tb (List.mem_of_getElem? (i := 491) (by decide +kernel)) rfl
theorem tw_492 : Cond.code yX4_startByHand cX4_startByHand 3 none ∈ TB := tb (List.mem_of_getElem? (i := 492) (by decide +kernel)) rfl
theorem tw_493 : Cond.methodLink RX4 222 yX3_keepOnly ∈ TB := tb (List.mem_of_getElem? (i := 493) (by decide +kernel)) rfl
theorem tw_494 : Cond.instanceMethod yX3_keepOnly ∈ TB := tb (List.mem_of_getElem? (i := 494) (by decide +kernel)) rfl
theorem tw_495 : Cond.selects RX3 yX3_keepOnly yX3_keepOnly ∈ TB := tb (List.mem_of_getElem? (i := 495) (by decide +kernel)) rfl
theorem tw_496 : Cond.code yX3_keepOnly cX3_keepOnly 7 none ∈ TB := tb (List.mem_of_getElem? (i := 496) (by decide +kernel)) rfl
theorem tw_497 : Cond.methodLink RL 109 yX4_asLikely ∈ TB := tb (List.mem_of_getElem? (i := 497) (by decide +kernel)) rfl
theorem tw_498 : Cond.instanceMethod yX4_asLikely ∈ TB := tb (List.mem_of_getElem? (i := 498) (by decide +kernel)) rfl
theorem tw_499 : Cond.selects RX4 yX4_asLikely yX4_asLikely ∈ TB := tb (List.mem_of_getElem? (i := 499) (by decide +kernel)) rfl
theorem tw_500 : Cond.code yX4_asLikely cX4_asLikely 4 (some .int) ∈ TB := tb (List.mem_of_getElem? (i := 500) (by decide +kernel)) rfl
theorem tw_501 : Cond.methodLink RL 113 yX4_evenings ∈ TB := tb (List.mem_of_getElem? (i := 501) (by decide +kernel)) rfl
theorem tw_502 : Cond.instanceMethod yX4_evenings ∈ TB := tb (List.mem_of_getElem? (i := 502) (by decide +kernel)) rfl
theorem tw_503 : Cond.selects RX4 yX4_evenings yX4_evenings ∈ TB := tb (List.mem_of_getElem? (i := 503) (by decide +kernel)) rfl
theorem tw_504 : Cond.code yX4_evenings cX4_evenings 4 (some .int) ∈ TB := tb (List.mem_of_getElem? (i := 504) (by decide +kernel)) rfl
theorem tw_505 : Cond.methodLink RL 117 yX4_which ∈ TB := tb (List.mem_of_getElem? (i := 505) (by decide +kernel)) rfl
theorem tw_506 : Cond.instanceMethod yX4_which ∈ TB := tb (List.mem_of_getElem? (i := 506) (by decide +kernel)) rfl
theorem tw_507 : Cond.selects RX4 yX4_which yX4_which ∈ TB := tb (List.mem_of_getElem? (i := 507) (by decide +kernel)) rfl
theorem tw_508 : Cond.code yX4_which cX4_which 1 (some .int) ∈ TB := tb (List.mem_of_getElem? (i := 508) (by decide +kernel)) rfl
theorem tw_509 : Cond.methodLink RX4 198 yX3_chanceOfLeftFirst ∈ TB := tb (List.mem_of_getElem? (i := 509) (by decide +kernel)) rfl
theorem tw_510 : Cond.instanceMethod yX3_chanceOfLeftFirst ∈ TB := tb (List.mem_of_getElem? (i := 510) (by decide +kernel)) rfl
theorem tw_511 : Cond.selects RX3 yX3_chanceOfLeftFirst yX3_chanceOfLeftFirst ∈ TB := tb (List.mem_of_getElem? (i := 511) (by decide +kernel)) rfl
theorem tw_512 : Cond.code yX3_chanceOfLeftFirst cX3_chanceOfLeftFirst 1 (some .long) ∈ TB := tb (List.mem_of_getElem? (i := 512) (by decide +kernel)) rfl
theorem tw_513 : Cond.methodLink RL 121 yX4_better ∈ TB := tb (List.mem_of_getElem? (i := 513) (by decide +kernel)) rfl
theorem tw_514 : Cond.instanceMethod yX4_better ∈ TB := tb (List.mem_of_getElem? (i := 514) (by decide +kernel)) rfl
theorem tw_515 : Cond.selects RX4 yX4_better yX4_better ∈ TB := tb (List.mem_of_getElem? (i := 515) (by decide +kernel)) rfl
theorem tw_516 : Cond.code yX4_better cX4_better 9 (some .int) ∈ TB := tb (List.mem_of_getElem? (i := 516) (by decide +kernel)) rfl
theorem tw_517 : Cond.methodLink RX4 201 yX4_reachesByHand ∈ TB := tb (List.mem_of_getElem? (i := 517) (by decide +kernel)) rfl
theorem tw_519 : Cond.instanceMethod yX4_reachesByHand ∈ TB := tb (List.mem_of_getElem? (i := 519) (by decide +kernel)) rfl
theorem tw_520 : Cond.code yX4_reachesByHand cX4_reachesByHand 3 (some .long) ∈ TB := tb (List.mem_of_getElem? (i := 520) (by decide +kernel)) rfl
theorem tw_521 : Cond.methodLink RL 126 yX4_coat ∈ TB := tb (List.mem_of_getElem? (i := 521) (by decide +kernel)) rfl
theorem tw_522 : Cond.instanceMethod yX4_coat ∈ TB := tb (List.mem_of_getElem? (i := 522) (by decide +kernel)) rfl
theorem tw_523 : Cond.selects RX4 yX4_coat yX4_coat ∈ TB := tb (List.mem_of_getElem? (i := 523) (by decide +kernel)) rfl
theorem tw_524 : Cond.code yX4_coat cX4_coat 7 (some .int) ∈ TB := tb (List.mem_of_getElem? (i := 524) (by decide +kernel)) rfl
theorem tw_525 : Cond.methodLink RX4 204 yX4_drawOf ∈ TB := tb (List.mem_of_getElem? (i := 525) (by decide +kernel)) rfl
theorem tw_526 : Cond.static yX4_drawOf ∈ TB := tb (List.mem_of_getElem? (i := 526) (by decide +kernel)) rfl
theorem tw_527 : Cond.code yX4_drawOf cX4_drawOf 4 (some .int) ∈ TB := tb (List.mem_of_getElem? (i := 527) (by decide +kernel)) rfl
theorem tw_528 : Cond.constantLong RX4 225 (7919) ∈ TB := tb (List.mem_of_getElem? (i := 528) (by decide +kernel)) rfl
theorem tw_529 : Cond.constantLong RX4 227 (6151) ∈ TB := tb (List.mem_of_getElem? (i := 529) (by decide +kernel)) rfl
theorem tw_530 : Cond.constantLong RX4 229 (65521) ∈ TB := tb (List.mem_of_getElem? (i := 530) (by decide +kernel)) rfl
theorem tw_531 : Cond.constantLong RX4 231 (8) ∈ TB := tb (List.mem_of_getElem? (i := 531) (by decide +kernel)) rfl
theorem tw_532 : Cond.methodLink RL 130 yX4_keep ∈ TB := tb (List.mem_of_getElem? (i := 532) (by decide +kernel)) rfl
theorem tw_533 : Cond.instanceMethod yX4_keep ∈ TB := tb (List.mem_of_getElem? (i := 533) (by decide +kernel)) rfl
theorem tw_534 : Cond.selects RX4 yX4_keep yX4_keep ∈ TB := tb (List.mem_of_getElem? (i := 534) (by decide +kernel)) rfl
theorem tw_535 : Cond.code yX4_keep cX4_keep 1 (some .int) ∈ TB := tb (List.mem_of_getElem? (i := 535) (by decide +kernel)) rfl
theorem tw_536 : Cond.methodLink RX4 208 yX1_isFull ∈ TB := tb (List.mem_of_getElem? (i := 536) (by decide +kernel)) rfl
theorem tw_537 : Cond.methodLink RL 134 yX4_back ∈ TB := tb (List.mem_of_getElem? (i := 537) (by decide +kernel)) rfl
theorem tw_538 : Cond.instanceMethod yX4_back ∈ TB := tb (List.mem_of_getElem? (i := 538) (by decide +kernel)) rfl
theorem tw_539 : Cond.selects RX4 yX4_back yX4_back ∈ TB := tb (List.mem_of_getElem? (i := 539) (by decide +kernel)) rfl
theorem tw_540 : Cond.code yX4_back cX4_back 1 (some .int) ∈ TB := tb (List.mem_of_getElem? (i := 540) (by decide +kernel)) rfl
theorem tw_541 : Cond.methodLink RL 138 yX4_count ∈ TB := tb (List.mem_of_getElem? (i := 541) (by decide +kernel)) rfl
theorem tw_542 : Cond.instanceMethod yX4_count ∈ TB := tb (List.mem_of_getElem? (i := 542) (by decide +kernel)) rfl
theorem tw_543 : Cond.selects RX4 yX4_count yX4_count ∈ TB := tb (List.mem_of_getElem? (i := 543) (by decide +kernel)) rfl
theorem tw_544 : Cond.code yX4_count cX4_count 2 (some .int) ∈ TB := tb (List.mem_of_getElem? (i := 544) (by decide +kernel)) rfl
theorem tw_545 : Cond.classLink RL 10 RX5 ∈ TB := tb (List.mem_of_getElem? (i := 545) (by decide +kernel)) rfl
theorem tw_546 : Cond.instantiable RX5 17 ∈ TB := tb (List.mem_of_getElem? (i := 546) (by decide +kernel)) rfl
theorem tw_547 : Cond.methodLink RL 12 yX5_init ∈ TB := tb (List.mem_of_getElem? (i := 547) (by decide +kernel)) rfl
theorem tw_548 : Cond.instanceMethod yX5_init ∈ TB := tb (List.mem_of_getElem? (i := 548) (by decide +kernel)) rfl
theorem tw_549 : Cond.code yX5_init cX5_init 1 none ∈ TB := tb (List.mem_of_getElem? (i := 549) (by decide +kernel)) rfl
theorem tw_550 : Cond.methodLink RX5 1 Lib.objectInit ∈ TB := tb (List.mem_of_getElem? (i := 550) (by decide +kernel)) rfl
theorem tw_551 : Cond.methodLink RX5 41 yX5_begins ∈ TB := tb (List.mem_of_getElem? (i := 551) (by decide +kernel)) rfl
theorem tw_553 : Cond.instanceMethod yX5_begins ∈ TB := tb (List.mem_of_getElem? (i := 553) (by decide +kernel)) rfl
theorem tw_554 : Cond.code yX5_begins cX5_begins 1 none ∈ TB := tb (List.mem_of_getElem? (i := 554) (by decide +kernel)) rfl
theorem tw_555 : Cond.methodLink RX5 44 yX5_lays ∈ TB := tb (List.mem_of_getElem? (i := 555) (by decide +kernel)) rfl
theorem tw_557 : Cond.instanceMethod yX5_lays ∈ TB := tb (List.mem_of_getElem? (i := 557) (by decide +kernel)) rfl
theorem tw_558 : Cond.code yX5_lays cX5_lays 2 none ∈ TB := tb (List.mem_of_getElem? (i := 558) (by decide +kernel)) rfl
theorem tw_559 : Cond.fieldLink RX5 7 "EitherPocketModel" "text" "[I" ∈ TB := tb (List.mem_of_getElem? (i := 559) (by decide +kernel)) rfl
theorem tw_560 : Cond.fieldLink RX5 51 "EitherPocketModel" "typed" "I" ∈ TB := tb (List.mem_of_getElem? (i := 560) (by decide +kernel)) rfl
theorem tw_561 : Cond.fieldLink RX5 13 "EitherPocketModel" "draft" "[I" ∈ TB := tb (List.mem_of_getElem? (i := 561) (by decide +kernel)) rfl
theorem tw_562 : Cond.fieldLink RX5 16 "EitherPocketModel" "s" "[I" ∈ TB := tb (List.mem_of_getElem? (i := 562) (by decide +kernel)) rfl
theorem tw_563 : Cond.fieldLink RX5 80 "EitherPocketModel" "evening" "I" ∈ TB := tb (List.mem_of_getElem? (i := 563) (by decide +kernel)) rfl
theorem tw_564 : Cond.fieldLink RX5 19 "EitherPocketModel" "past" "[I" ∈ TB := tb (List.mem_of_getElem? (i := 564) (by decide +kernel)) rfl
theorem tw_565 : Cond.fieldLink RX5 83 "EitherPocketModel" "known" "I" ∈ TB := tb (List.mem_of_getElem? (i := 565) (by decide +kernel)) rfl
theorem tw_566 : Cond.fieldLink RX5 22 "EitherPocketModel" "images" "[I" ∈ TB := tb (List.mem_of_getElem? (i := 566) (by decide +kernel)) rfl
theorem tw_567 : Cond.fieldLink RX5 86 "EitherPocketModel" "kept" "I" ∈ TB := tb (List.mem_of_getElem? (i := 567) (by decide +kernel)) rfl
theorem tw_568 : Cond.fieldLink RX5 25 "EitherPocketModel" "seen" "[I" ∈ TB := tb (List.mem_of_getElem? (i := 568) (by decide +kernel)) rfl
theorem tw_569 : Cond.fieldLink RX5 89 "EitherPocketModel" "sights" "I" ∈ TB := tb (List.mem_of_getElem? (i := 569) (by decide +kernel)) rfl
theorem tw_570 : Cond.fieldLink RX5 55 "EitherPocketModel" "at" "I" ∈ TB := tb (List.mem_of_getElem? (i := 570) (by decide +kernel)) rfl
theorem tw_571 : Cond.fieldLink RX5 28 "EitherPocketModel" "here" "[J" ∈ TB := tb (List.mem_of_getElem? (i := 571) (by decide +kernel)) rfl
theorem tw_572 : Cond.fieldLink RX5 32 "EitherPocketModel" "next" "[J" ∈ TB := tb (List.mem_of_getElem? (i := 572) (by decide +kernel)) rfl
theorem tw_573 : Cond.fieldLink RX5 35 "EitherPocketModel" "rest" "[J" ∈ TB := tb (List.mem_of_getElem? (i := 573) (by decide +kernel)) rfl
theorem tw_574 : Cond.fieldLink RX5 38 "EitherPocketModel" "soon" "[J" ∈ TB := tb (List.mem_of_getElem? (i := 574) (by decide +kernel)) rfl
theorem tw_575 : Cond.fieldLink RX5 102 "EitherPocketModel" "first" "J" ∈ TB := tb (List.mem_of_getElem? (i := 575) (by decide +kernel)) rfl
theorem tw_611 : Cond.methodLink RL 17 yX5_write ∈ TB := tb (List.mem_of_getElem? (i := 611) (by decide +kernel)) rfl
theorem tw_612 : Cond.instanceMethod yX5_write ∈ TB := tb (List.mem_of_getElem? (i := 612) (by decide +kernel)) rfl
theorem tw_613 : Cond.selects RX5 yX5_write yX5_write ∈ TB := tb (List.mem_of_getElem? (i := 613) (by decide +kernel)) rfl
theorem tw_614 : Cond.code yX5_write cX5_write 2 (some .int) ∈ TB := tb (List.mem_of_getElem? (i := 614) (by decide +kernel)) rfl
theorem tw_615 : Cond.methodLink RX5 47 yX5_in ∈ TB := tb (List.mem_of_getElem? (i := 615) (by decide +kernel)) rfl
theorem tw_616 : Cond.static yX5_in ∈ TB := tb (List.mem_of_getElem? (i := 616) (by decide +kernel)) rfl
theorem tw_617 : Cond.code yX5_in cX5_in 3 (some .boolean) ∈ TB := tb (List.mem_of_getElem? (i := 617) (by decide +kernel)) rfl
theorem tw_618 : Cond.methodLink RL 22 yX5_wipe ∈ TB := tb (List.mem_of_getElem? (i := 618) (by decide +kernel)) rfl
theorem tw_619 : Cond.instanceMethod yX5_wipe ∈ TB := tb (List.mem_of_getElem? (i := 619) (by decide +kernel)) rfl
theorem tw_620 : Cond.selects RX5 yX5_wipe yX5_wipe ∈ TB := tb (List.mem_of_getElem? (i := 620) (by decide +kernel)) rfl
theorem tw_621 : Cond.code yX5_wipe cX5_wipe 2 (some .int) ∈ TB := tb (List.mem_of_getElem? (i := 621) (by decide +kernel)) rfl
theorem tw_622 : Cond.methodLink RL 26 yX5_fault ∈ TB := tb (List.mem_of_getElem? (i := 622) (by decide +kernel)) rfl
theorem tw_623 : Cond.instanceMethod yX5_fault ∈ TB := tb (List.mem_of_getElem? (i := 623) (by decide +kernel)) rfl
theorem tw_624 : Cond.selects RX5 yX5_fault yX5_fault ∈ TB := tb (List.mem_of_getElem? (i := 624) (by decide +kernel)) rfl
theorem tw_625 : Cond.code yX5_fault cX5_fault 1 (some .int) ∈ TB := tb (List.mem_of_getElem? (i := 625) (by decide +kernel)) rfl
theorem tw_626 : Cond.methodLink RX5 76 yX5_readsAll ∈ TB := tb (List.mem_of_getElem? (i := 626) (by decide +kernel)) rfl
theorem tw_628 : Cond.instanceMethod yX5_readsAll ∈ TB := tb (List.mem_of_getElem? (i := 628) (by decide +kernel)) rfl
theorem tw_629 : Cond.code yX5_readsAll cX5_readsAll 2 (some .int) ∈ TB := tb (List.mem_of_getElem? (i := 629) (by decide +kernel)) rfl
theorem tw_630 : Cond.methodLink RX5 73 yX5_readsItem ∈ TB := tb (List.mem_of_getElem? (i := 630) (by decide +kernel)) rfl
theorem tw_632 : Cond.instanceMethod yX5_readsItem ∈ TB := tb (List.mem_of_getElem? (i := 632) (by decide +kernel)) rfl
theorem tw_633 : Cond.code yX5_readsItem cX5_readsItem 2 (some .boolean) ∈ TB := tb (List.mem_of_getElem? (i := 633) (by decide +kernel)) rfl
theorem tw_634 : Cond.methodLink RX5 70 yX5_readsTwo ∈ TB := tb (List.mem_of_getElem? (i := 634) (by decide +kernel)) rfl
theorem tw_636 : Cond.instanceMethod yX5_readsTwo ∈ TB := tb (List.mem_of_getElem? (i := 636) (by decide +kernel)) rfl
theorem tw_637 : Cond.code yX5_readsTwo cX5_readsTwo 4 (some .boolean) ∈ TB := tb (List.mem_of_getElem? (i := 637) (by decide +kernel)) rfl
theorem tw_638 : Cond.methodLink RX5 66 yX5_number ∈ TB := tb (List.mem_of_getElem? (i := 638) (by decide +kernel)) rfl
theorem tw_640 : Cond.instanceMethod yX5_number ∈ TB := tb (List.mem_of_getElem? (i := 640) (by decide +kernel)) rfl
theorem tw_641 : Cond.code yX5_number cX5_number 6 (some .int) ∈ TB := tb (List.mem_of_getElem? (i := 641) (by decide +kernel)) rfl
theorem tw_642 : Cond.methodLink RX5 58 yX5_letterAt ∈ TB := tb (List.mem_of_getElem? (i := 642) (by decide +kernel)) rfl
theorem tw_644 : Cond.instanceMethod yX5_letterAt ∈ TB := tb (List.mem_of_getElem? (i := 644) (by decide +kernel)) rfl
theorem tw_645 : Cond.code yX5_letterAt cX5_letterAt 2 (some .int) ∈ TB := tb (List.mem_of_getElem? (i := 645) (by decide +kernel)) rfl
theorem tw_646 : Cond.methodLink RX5 62 yX5_isFigure ∈ TB := tb (List.mem_of_getElem? (i := 646) (by decide +kernel)) rfl
theorem tw_647 : Cond.static yX5_isFigure ∈ TB := tb (List.mem_of_getElem? (i := 647) (by decide +kernel)) rfl
theorem tw_648 : Cond.code yX5_isFigure cX5_isFigure 1 (some .boolean) ∈ TB := tb (List.mem_of_getElem? (i := 648) (by decide +kernel)) rfl
theorem tw_649 : Cond.methodLink RL 30 yX5_lay ∈ TB := tb (List.mem_of_getElem? (i := 649) (by decide +kernel)) rfl
theorem tw_650 : Cond.instanceMethod yX5_lay ∈ TB := tb (List.mem_of_getElem? (i := 650) (by decide +kernel)) rfl
theorem tw_651 : Cond.selects RX5 yX5_lay yX5_lay ∈ TB := tb (List.mem_of_getElem? (i := 651) (by decide +kernel)) rfl
theorem tw_652 : Cond.code yX5_lay cX5_lay 1 (some .int) ∈ TB := tb (List.mem_of_getElem? (i := 652) (by decide +kernel)) rfl
theorem tw_653 : Cond.methodLink RL 34 yX5_box ∈ TB := tb (List.mem_of_getElem? (i := 653) (by decide +kernel)) rfl
theorem tw_654 : Cond.instanceMethod yX5_box ∈ TB := tb (List.mem_of_getElem? (i := 654) (by decide +kernel)) rfl
theorem tw_655 : Cond.selects RX5 yX5_box yX5_box ∈ TB := tb (List.mem_of_getElem? (i := 655) (by decide +kernel)) rfl
theorem tw_656 : Cond.code yX5_box cX5_box 2 (some .int) ∈ TB := tb (List.mem_of_getElem? (i := 656) (by decide +kernel)) rfl
theorem tw_657 : Cond.methodLink RL 38 yX5_quarters ∈ TB := tb (List.mem_of_getElem? (i := 657) (by decide +kernel)) rfl
theorem tw_658 : Cond.instanceMethod yX5_quarters ∈ TB := tb (List.mem_of_getElem? (i := 658) (by decide +kernel)) rfl
theorem tw_659 : Cond.selects RX5 yX5_quarters yX5_quarters ∈ TB := tb (List.mem_of_getElem? (i := 659) (by decide +kernel)) rfl
theorem tw_660 : Cond.code yX5_quarters cX5_quarters 3 (some .int) ∈ TB := tb (List.mem_of_getElem? (i := 660) (by decide +kernel)) rfl
theorem tw_661 : Cond.methodLink RX5 92 yX5_toLeft ∈ TB := tb (List.mem_of_getElem? (i := 661) (by decide +kernel)) rfl
theorem tw_662 : Cond.static yX5_toLeft ∈ TB := tb (List.mem_of_getElem? (i := 662) (by decide +kernel)) rfl
theorem tw_663 : Cond.code yX5_toLeft cX5_toLeft 6 (some .int) ∈ TB := tb (List.mem_of_getElem? (i := 663) (by decide +kernel)) rfl
theorem tw_664 : Cond.methodLink RL 42 yX5_reach ∈ TB := tb (List.mem_of_getElem? (i := 664) (by decide +kernel)) rfl
theorem tw_665 : Cond.instanceMethod yX5_reach ∈ TB := tb (List.mem_of_getElem? (i := 665) (by decide +kernel)) rfl
theorem tw_666 : Cond.selects RX5 yX5_reach yX5_reach ∈ TB := tb (List.mem_of_getElem? (i := 666) (by decide +kernel)) rfl
theorem tw_667 : Cond.code yX5_reach cX5_reach 2 (some .int) ∈ TB := tb (List.mem_of_getElem? (i := 667) (by decide +kernel)) rfl
theorem tw_668 : Cond.methodLink RX5 96 yX5_keeps ∈ TB := tb (List.mem_of_getElem? (i := 668) (by decide +kernel)) rfl
theorem tw_670 : Cond.instanceMethod yX5_keeps ∈ TB := tb (List.mem_of_getElem? (i := 670) (by decide +kernel)) rfl
theorem tw_671 : Cond.code yX5_keeps cX5_keeps 2 none ∈ TB := tb (List.mem_of_getElem? (i := 671) (by decide +kernel)) rfl
theorem tw_672 : Cond.methodLink RL 47 yX5_putOver ∈ TB := tb (List.mem_of_getElem? (i := 672) (by decide +kernel)) rfl
theorem tw_673 : Cond.instanceMethod yX5_putOver ∈ TB := tb (List.mem_of_getElem? (i := 673) (by decide +kernel)) rfl
theorem tw_674 : Cond.selects RX5 yX5_putOver yX5_putOver ∈ TB := tb (List.mem_of_getElem? (i := 674) (by decide +kernel)) rfl
theorem tw_675 : Cond.code yX5_putOver cX5_putOver 3 (some .int) ∈ TB := tb (List.mem_of_getElem? (i := 675) (by decide +kernel)) rfl
theorem tw_676 : Cond.methodLink RL 51 yX5_buy ∈ TB := tb (List.mem_of_getElem? (i := 676) (by decide +kernel)) rfl
theorem tw_677 : Cond.instanceMethod yX5_buy ∈ TB := tb (List.mem_of_getElem? (i := 677) (by decide +kernel)) rfl
theorem tw_678 : Cond.selects RX5 yX5_buy yX5_buy ∈ TB := tb (List.mem_of_getElem? (i := 678) (by decide +kernel)) rfl
theorem tw_679 : Cond.code yX5_buy cX5_buy 3 (some .int) ∈ TB := tb (List.mem_of_getElem? (i := 679) (by decide +kernel)) rfl
theorem tw_680 : Cond.methodLink RL 55 yX5_hand ∈ TB := tb (List.mem_of_getElem? (i := 680) (by decide +kernel)) rfl
theorem tw_681 : Cond.instanceMethod yX5_hand ∈ TB := tb (List.mem_of_getElem? (i := 681) (by decide +kernel)) rfl
theorem tw_682 : Cond.selects RX5 yX5_hand yX5_hand ∈ TB := tb (List.mem_of_getElem? (i := 682) (by decide +kernel)) rfl
theorem tw_683 : Cond.code yX5_hand cX5_hand 4 (some .int) ∈ TB := tb (List.mem_of_getElem? (i := 683) (by decide +kernel)) rfl
theorem tw_684 : Cond.methodLink RL 59 yX5_undo ∈ TB := tb (List.mem_of_getElem? (i := 684) (by decide +kernel)) rfl
theorem tw_685 : Cond.instanceMethod yX5_undo ∈ TB := tb (List.mem_of_getElem? (i := 685) (by decide +kernel)) rfl
theorem tw_686 : Cond.selects RX5 yX5_undo yX5_undo ∈ TB := tb (List.mem_of_getElem? (i := 686) (by decide +kernel)) rfl
theorem tw_687 : Cond.code yX5_undo cX5_undo 2 (some .int) ∈ TB := tb (List.mem_of_getElem? (i := 687) (by decide +kernel)) rfl
theorem tw_688 : Cond.methodLink RL 63 yX5_left ∈ TB := tb (List.mem_of_getElem? (i := 688) (by decide +kernel)) rfl
theorem tw_689 : Cond.instanceMethod yX5_left ∈ TB := tb (List.mem_of_getElem? (i := 689) (by decide +kernel)) rfl
theorem tw_690 : Cond.selects RX5 yX5_left yX5_left ∈ TB := tb (List.mem_of_getElem? (i := 690) (by decide +kernel)) rfl
theorem tw_691 : Cond.code yX5_left cX5_left 3 (some .int) ∈ TB := tb (List.mem_of_getElem? (i := 691) (by decide +kernel)) rfl
theorem tw_692 : Cond.methodLink RX5 127 yX5_isEnd ∈ TB := tb (List.mem_of_getElem? (i := 692) (by decide +kernel)) rfl
theorem tw_693 : Cond.static yX5_isEnd ∈ TB := tb (List.mem_of_getElem? (i := 693) (by decide +kernel)) rfl
theorem tw_694 : Cond.code yX5_isEnd cX5_isEnd 1 (some .boolean) ∈ TB := tb (List.mem_of_getElem? (i := 694) (by decide +kernel)) rfl
theorem tw_695 : Cond.methodLink RX5 130 yX5_weighsNow ∈ TB := tb (List.mem_of_getElem? (i := 695) (by decide +kernel)) rfl
theorem tw_697 : Cond.instanceMethod yX5_weighsNow ∈ TB := tb (List.mem_of_getElem? (i := 697) (by decide +kernel)) rfl
theorem tw_698 : Cond.code yX5_weighsNow cX5_weighsNow 2 none ∈ TB := tb (List.mem_of_getElem? (i := 698) (by decide +kernel)) rfl
theorem tw_699 : Cond.methodLink RX5 121 yX5_weighs ∈ TB := tb (List.mem_of_getElem? (i := 699) (by decide +kernel)) rfl
theorem tw_701 : Cond.instanceMethod yX5_weighs ∈ TB := tb (List.mem_of_getElem? (i := 701) (by decide +kernel)) rfl
theorem tw_702 : Cond.code yX5_weighs cX5_weighs 9 none ∈ TB := tb (List.mem_of_getElem? (i := 702) (by decide +kernel)) rfl
theorem tw_703 : Cond.methodLink RX5 106 yX5_clears ∈ TB := tb (List.mem_of_getElem? (i := 703) (by decide +kernel)) rfl
theorem tw_705 : Cond.instanceMethod yX5_clears ∈ TB := tb (List.mem_of_getElem? (i := 705) (by decide +kernel)) rfl
theorem tw_706 : Cond.code yX5_clears cX5_clears 2 none ∈ TB := tb (List.mem_of_getElem? (i := 706) (by decide +kernel)) rfl
theorem tw_707 : Cond.constantLong RX5 109 (4398046511104) ∈ TB := tb (List.mem_of_getElem? (i := 707) (by decide +kernel)) rfl
theorem tw_708 : Cond.methodLink RX5 111 yX5_begin0 ∈ TB := tb (List.mem_of_getElem? (i := 708) (by decide +kernel)) rfl
theorem tw_710 : Cond.instanceMethod yX5_begin0 ∈ TB := tb (List.mem_of_getElem? (i := 710) (by decide +kernel)) rfl
theorem tw_711 : Cond.code yX5_begin0 cX5_begin0 5 none ∈ TB := tb (List.mem_of_getElem? (i := 711) (by decide +kernel)) rfl
theorem tw_712 : Cond.methodLink RX5 99 yX5_spot ∈ TB := tb (List.mem_of_getElem? (i := 712) (by decide +kernel)) rfl
theorem tw_713 : Cond.static yX5_spot ∈ TB := tb (List.mem_of_getElem? (i := 713) (by decide +kernel)) rfl
theorem tw_714 : Cond.code yX5_spot cX5_spot 3 (some .int) ∈ TB := tb (List.mem_of_getElem? (i := 714) (by decide +kernel)) rfl
theorem tw_715 : Cond.constantLong RX5 115 (4) ∈ TB := tb (List.mem_of_getElem? (i := 715) (by decide +kernel)) rfl
theorem tw_716 : Cond.methodLink RX5 117 yX5_goes ∈ TB := tb (List.mem_of_getElem? (i := 716) (by decide +kernel)) rfl
theorem tw_718 : Cond.instanceMethod yX5_goes ∈ TB := tb (List.mem_of_getElem? (i := 718) (by decide +kernel)) rfl
theorem tw_719 : Cond.code yX5_goes cX5_goes 18 none ∈ TB := tb (List.mem_of_getElem? (i := 719) (by decide +kernel)) rfl
theorem tw_720 : Cond.methodLink RX5 134 yX5_cut ∈ TB := tb (List.mem_of_getElem? (i := 720) (by decide +kernel)) rfl
theorem tw_721 : Cond.static yX5_cut ∈ TB := tb (List.mem_of_getElem? (i := 721) (by decide +kernel)) rfl
theorem tw_722 : Cond.code yX5_cut cX5_cut 4 (some .int) ∈ TB := tb (List.mem_of_getElem? (i := 722) (by decide +kernel)) rfl
theorem tw_723 : Cond.constantLong RX5 125 (10000) ∈ TB := tb (List.mem_of_getElem? (i := 723) (by decide +kernel)) rfl
theorem tw_724 : Cond.methodLink RL 67 yX5_mean ∈ TB := tb (List.mem_of_getElem? (i := 724) (by decide +kernel)) rfl
theorem tw_725 : Cond.instanceMethod yX5_mean ∈ TB := tb (List.mem_of_getElem? (i := 725) (by decide +kernel)) rfl
theorem tw_726 : Cond.selects RX5 yX5_mean yX5_mean ∈ TB := tb (List.mem_of_getElem? (i := 726) (by decide +kernel)) rfl
theorem tw_727 : Cond.code yX5_mean cX5_mean 5 (some .int) ∈ TB := tb (List.mem_of_getElem? (i := 727) (by decide +kernel)) rfl
theorem tw_728 : Cond.constantLong RX5 138 (100) ∈ TB := tb (List.mem_of_getElem? (i := 728) (by decide +kernel)) rfl
theorem tw_729 : Cond.methodLink RL 71 yX5_soon ∈ TB := tb (List.mem_of_getElem? (i := 729) (by decide +kernel)) rfl
theorem tw_730 : Cond.instanceMethod yX5_soon ∈ TB := tb (List.mem_of_getElem? (i := 730) (by decide +kernel)) rfl
theorem tw_731 : Cond.selects RX5 yX5_soon yX5_soon ∈ TB := tb (List.mem_of_getElem? (i := 731) (by decide +kernel)) rfl
theorem tw_732 : Cond.code yX5_soon cX5_soon 3 (some .int) ∈ TB := tb (List.mem_of_getElem? (i := 732) (by decide +kernel)) rfl
theorem tw_733 : Cond.methodLink RX5 140 yX5_within ∈ TB := tb (List.mem_of_getElem? (i := 733) (by decide +kernel)) rfl
theorem tw_735 : Cond.instanceMethod yX5_within ∈ TB := tb (List.mem_of_getElem? (i := 735) (by decide +kernel)) rfl
theorem tw_736 : Cond.code yX5_within cX5_within 5 (some .long) ∈ TB := tb (List.mem_of_getElem? (i := 736) (by decide +kernel)) rfl
theorem tw_737 : Cond.methodLink RL 75 yX5_times ∈ TB := tb (List.mem_of_getElem? (i := 737) (by decide +kernel)) rfl
theorem tw_738 : Cond.instanceMethod yX5_times ∈ TB := tb (List.mem_of_getElem? (i := 738) (by decide +kernel)) rfl
theorem tw_739 : Cond.selects RX5 yX5_times yX5_times ∈ TB := tb (List.mem_of_getElem? (i := 739) (by decide +kernel)) rfl
theorem tw_740 : Cond.code yX5_times cX5_times 2 (some .int) ∈ TB := tb (List.mem_of_getElem? (i := 740) (by decide +kernel)) rfl
theorem tw_741 : Cond.methodLink RX5 144 yX5_reaches ∈ TB := tb (List.mem_of_getElem? (i := 741) (by decide +kernel)) rfl
theorem tw_743 : Cond.instanceMethod yX5_reaches ∈ TB := tb (List.mem_of_getElem? (i := 743) (by decide +kernel)) rfl
theorem tw_744 : Cond.code yX5_reaches cX5_reaches 4 (some .long) ∈ TB := tb (List.mem_of_getElem? (i := 744) (by decide +kernel)) rfl
theorem tw_745 : Cond.methodLink RL 79 yX5_likeliest ∈ TB := tb (List.mem_of_getElem? (i := 745) (by decide +kernel)) rfl
theorem tw_746 : Cond.instanceMethod yX5_likeliest ∈ TB := tb (List.mem_of_getElem? (i := 746) (by decide +kernel)) rfl
theorem tw_747 : Cond.selects RX5 yX5_likeliest yX5_likeliest ∈ TB := tb (List.mem_of_getElem? (i := 747) (by decide +kernel)) rfl
theorem tw_748 : Cond.code yX5_likeliest cX5_likeliest 4 (some .int) ∈ TB := tb (List.mem_of_getElem? (i := 748) (by decide +kernel)) rfl
theorem tw_749 : Cond.methodLink RL 83 yX5_level ∈ TB := tb (List.mem_of_getElem? (i := 749) (by decide +kernel)) rfl
theorem tw_750 : Cond.instanceMethod yX5_level ∈ TB := tb (List.mem_of_getElem? (i := 750) (by decide +kernel)) rfl
theorem tw_751 : Cond.selects RX5 yX5_level yX5_level ∈ TB := tb (List.mem_of_getElem? (i := 751) (by decide +kernel)) rfl
theorem tw_752 : Cond.code yX5_level cX5_level 8 (some .int) ∈ TB := tb (List.mem_of_getElem? (i := 752) (by decide +kernel)) rfl
theorem tw_753 : Cond.methodLink RL 87 yX5_worth ∈ TB := tb (List.mem_of_getElem? (i := 753) (by decide +kernel)) rfl
theorem tw_754 : Cond.instanceMethod yX5_worth ∈ TB := tb (List.mem_of_getElem? (i := 754) (by decide +kernel)) rfl
theorem tw_755 : Cond.selects RX5 yX5_worth yX5_worth ∈ TB := tb (List.mem_of_getElem? (i := 755) (by decide +kernel)) rfl
theorem tw_756 : Cond.code yX5_worth cX5_worth 4 (some .int) ∈ TB := tb (List.mem_of_getElem? (i := 756) (by decide +kernel)) rfl
theorem tw_757 : Cond.methodLink RX5 148 yX5_reachesFrom ∈ TB := tb (List.mem_of_getElem? (i := 757) (by decide +kernel)) rfl
theorem tw_759 : Cond.instanceMethod yX5_reachesFrom ∈ TB := tb (List.mem_of_getElem? (i := 759) (by decide +kernel)) rfl
theorem tw_760 : Cond.code yX5_reachesFrom cX5_reachesFrom 3 (some .long) ∈ TB := tb (List.mem_of_getElem? (i := 760) (by decide +kernel)) rfl
theorem tw_761 : Cond.methodLink RL 92 yX5_begin ∈ TB := tb (List.mem_of_getElem? (i := 761) (by decide +kernel)) rfl
theorem tw_762 : Cond.instanceMethod yX5_begin ∈ TB := tb (List.mem_of_getElem? (i := 762) (by decide +kernel)) rfl
theorem tw_763 : Cond.selects RX5 yX5_begin yX5_begin ∈ TB := tb (List.mem_of_getElem? (i := 763) (by decide +kernel)) rfl
theorem tw_764 : Cond.code yX5_begin cX5_begin 9 (some .int) ∈ TB := tb (List.mem_of_getElem? (i := 764) (by decide +kernel)) rfl
theorem tw_765 : Cond.methodLink RL 96 yX5_over ∈ TB := tb (List.mem_of_getElem? (i := 765) (by decide +kernel)) rfl
theorem tw_766 : Cond.instanceMethod yX5_over ∈ TB := tb (List.mem_of_getElem? (i := 766) (by decide +kernel)) rfl
theorem tw_767 : Cond.selects RX5 yX5_over yX5_over ∈ TB := tb (List.mem_of_getElem? (i := 767) (by decide +kernel)) rfl
theorem tw_768 : Cond.code yX5_over cX5_over 10 (some .int) ∈ TB := tb (List.mem_of_getElem? (i := 768) (by decide +kernel)) rfl
theorem tw_769 : Cond.methodLink RL 100 yX5_seen ∈ TB := tb (List.mem_of_getElem? (i := 769) (by decide +kernel)) rfl
theorem tw_770 : Cond.instanceMethod yX5_seen ∈ TB := tb (List.mem_of_getElem? (i := 770) (by decide +kernel)) rfl
theorem tw_771 : Cond.selects RX5 yX5_seen yX5_seen ∈ TB := tb (List.mem_of_getElem? (i := 771) (by decide +kernel)) rfl
theorem tw_772 : Cond.code yX5_seen cX5_seen 3 (some .int) ∈ TB := tb (List.mem_of_getElem? (i := 772) (by decide +kernel)) rfl
theorem tw_773 : Cond.methodLink RL 104 yX5_forget ∈ TB := tb (List.mem_of_getElem? (i := 773) (by decide +kernel)) rfl
theorem tw_774 : Cond.instanceMethod yX5_forget ∈ TB := tb (List.mem_of_getElem? (i := 774) (by decide +kernel)) rfl
theorem tw_775 : Cond.selects RX5 yX5_forget yX5_forget ∈ TB := tb (List.mem_of_getElem? (i := 775) (by decide +kernel)) rfl
theorem tw_776 : Cond.code yX5_forget cX5_forget 2 (some .int) ∈ TB := tb (List.mem_of_getElem? (i := 776) (by decide +kernel)) rfl
theorem tw_777 : Cond.methodLink RL 108 yX5_fits ∈ TB := tb (List.mem_of_getElem? (i := 777) (by decide +kernel)) rfl
theorem tw_778 : Cond.instanceMethod yX5_fits ∈ TB := tb (List.mem_of_getElem? (i := 778) (by decide +kernel)) rfl
theorem tw_779 : Cond.selects RX5 yX5_fits yX5_fits ∈ TB := tb (List.mem_of_getElem? (i := 779) (by decide +kernel)) rfl
theorem tw_780 : Cond.code yX5_fits cX5_fits 4 (some .int) ∈ TB := tb (List.mem_of_getElem? (i := 780) (by decide +kernel)) rfl
theorem tw_781 : Cond.methodLink RX5 152 yX5_sightsBy ∈ TB := tb (List.mem_of_getElem? (i := 781) (by decide +kernel)) rfl
theorem tw_783 : Cond.instanceMethod yX5_sightsBy ∈ TB := tb (List.mem_of_getElem? (i := 783) (by decide +kernel)) rfl
theorem tw_784 : Cond.code yX5_sightsBy cX5_sightsBy 8 (some .long) ∈ TB := tb (List.mem_of_getElem? (i := 784) (by decide +kernel)) rfl
theorem tw_785 : Cond.methodLink RL 112 yX5_asLikely ∈ TB := tb (List.mem_of_getElem? (i := 785) (by decide +kernel)) rfl
theorem tw_786 : Cond.instanceMethod yX5_asLikely ∈ TB := tb (List.mem_of_getElem? (i := 786) (by decide +kernel)) rfl
theorem tw_787 : Cond.selects RX5 yX5_asLikely yX5_asLikely ∈ TB := tb (List.mem_of_getElem? (i := 787) (by decide +kernel)) rfl
theorem tw_788 : Cond.code yX5_asLikely cX5_asLikely 9 (some .int) ∈ TB := tb (List.mem_of_getElem? (i := 788) (by decide +kernel)) rfl
theorem tw_789 : Cond.methodLink RL 116 yX5_evenings ∈ TB := tb (List.mem_of_getElem? (i := 789) (by decide +kernel)) rfl
theorem tw_790 : Cond.instanceMethod yX5_evenings ∈ TB := tb (List.mem_of_getElem? (i := 790) (by decide +kernel)) rfl
theorem tw_791 : Cond.selects RX5 yX5_evenings yX5_evenings ∈ TB := tb (List.mem_of_getElem? (i := 791) (by decide +kernel)) rfl
theorem tw_792 : Cond.code yX5_evenings cX5_evenings 6 (some .int) ∈ TB := tb (List.mem_of_getElem? (i := 792) (by decide +kernel)) rfl
theorem tw_793 : Cond.methodLink RL 120 yX5_which ∈ TB := tb (List.mem_of_getElem? (i := 793) (by decide +kernel)) rfl
theorem tw_794 : Cond.instanceMethod yX5_which ∈ TB := tb (List.mem_of_getElem? (i := 794) (by decide +kernel)) rfl
theorem tw_795 : Cond.selects RX5 yX5_which yX5_which ∈ TB := tb (List.mem_of_getElem? (i := 795) (by decide +kernel)) rfl
theorem tw_796 : Cond.code yX5_which cX5_which 1 (some .int) ∈ TB := tb (List.mem_of_getElem? (i := 796) (by decide +kernel)) rfl
theorem tw_797 : Cond.methodLink RL 125 yX5_better ∈ TB := tb (List.mem_of_getElem? (i := 797) (by decide +kernel)) rfl
theorem tw_798 : Cond.instanceMethod yX5_better ∈ TB := tb (List.mem_of_getElem? (i := 798) (by decide +kernel)) rfl
theorem tw_799 : Cond.selects RX5 yX5_better yX5_better ∈ TB := tb (List.mem_of_getElem? (i := 799) (by decide +kernel)) rfl
theorem tw_800 : Cond.code yX5_better cX5_better 9 (some .int) ∈ TB := tb (List.mem_of_getElem? (i := 800) (by decide +kernel)) rfl
theorem tw_801 : Cond.methodLink RL 129 yX5_coat ∈ TB := tb (List.mem_of_getElem? (i := 801) (by decide +kernel)) rfl
theorem tw_802 : Cond.instanceMethod yX5_coat ∈ TB := tb (List.mem_of_getElem? (i := 802) (by decide +kernel)) rfl
theorem tw_803 : Cond.selects RX5 yX5_coat yX5_coat ∈ TB := tb (List.mem_of_getElem? (i := 803) (by decide +kernel)) rfl
theorem tw_804 : Cond.code yX5_coat cX5_coat 13 (some .int) ∈ TB := tb (List.mem_of_getElem? (i := 804) (by decide +kernel)) rfl
theorem tw_805 : Cond.constantLong RX5 155 (7919) ∈ TB := tb (List.mem_of_getElem? (i := 805) (by decide +kernel)) rfl
theorem tw_806 : Cond.constantLong RX5 157 (6151) ∈ TB := tb (List.mem_of_getElem? (i := 806) (by decide +kernel)) rfl
theorem tw_807 : Cond.constantLong RX5 159 (65521) ∈ TB := tb (List.mem_of_getElem? (i := 807) (by decide +kernel)) rfl
theorem tw_808 : Cond.methodLink RL 133 yX5_keep ∈ TB := tb (List.mem_of_getElem? (i := 808) (by decide +kernel)) rfl
theorem tw_809 : Cond.instanceMethod yX5_keep ∈ TB := tb (List.mem_of_getElem? (i := 809) (by decide +kernel)) rfl
theorem tw_810 : Cond.selects RX5 yX5_keep yX5_keep ∈ TB := tb (List.mem_of_getElem? (i := 810) (by decide +kernel)) rfl
theorem tw_811 : Cond.code yX5_keep cX5_keep 2 (some .int) ∈ TB := tb (List.mem_of_getElem? (i := 811) (by decide +kernel)) rfl
theorem tw_812 : Cond.methodLink RL 137 yX5_back ∈ TB := tb (List.mem_of_getElem? (i := 812) (by decide +kernel)) rfl
theorem tw_813 : Cond.instanceMethod yX5_back ∈ TB := tb (List.mem_of_getElem? (i := 813) (by decide +kernel)) rfl
theorem tw_814 : Cond.selects RX5 yX5_back yX5_back ∈ TB := tb (List.mem_of_getElem? (i := 814) (by decide +kernel)) rfl
theorem tw_815 : Cond.code yX5_back cX5_back 2 (some .int) ∈ TB := tb (List.mem_of_getElem? (i := 815) (by decide +kernel)) rfl
theorem tw_816 : Cond.methodLink RL 141 yX5_count ∈ TB := tb (List.mem_of_getElem? (i := 816) (by decide +kernel)) rfl
theorem tw_817 : Cond.instanceMethod yX5_count ∈ TB := tb (List.mem_of_getElem? (i := 817) (by decide +kernel)) rfl
theorem tw_818 : Cond.selects RX5 yX5_count yX5_count ∈ TB := tb (List.mem_of_getElem? (i := 818) (by decide +kernel)) rfl
theorem tw_819 : Cond.code yX5_count cX5_count 2 (some .int) ∈ TB := tb (List.mem_of_getElem? (i := 819) (by decide +kernel)) rfl
theorem tw_1000 : Cond.selects RX2 yX2_readItem yX2_readItem ∈ TB := tbs (List.mem_of_getElem? (i := 0) (by decide +kernel)) rfl
theorem tw_1001 : Cond.selects RX2 yX2_letterHere yX2_letterHere ∈ TB := tbs (List.mem_of_getElem? (i := 1) (by decide +kernel)) rfl
theorem tw_1002 : Cond.selects RX2 yX2_readTwo yX2_readTwo ∈ TB := tbs (List.mem_of_getElem? (i := 2) (by decide +kernel)) rfl
theorem tw_1003 : Cond.selects RX2 yX2_readNumber yX2_readNumber ∈ TB := tbs (List.mem_of_getElem? (i := 3) (by decide +kernel)) rfl
theorem tw_1004 : Cond.selects RX2 yX2_readFigure yX2_readFigure ∈ TB := tbs (List.mem_of_getElem? (i := 4) (by decide +kernel)) rfl
theorem tw_1005 : Cond.selects RX2 yX2_readSign yX2_readSign ∈ TB := tbs (List.mem_of_getElem? (i := 5) (by decide +kernel)) rfl
theorem tw_1006 : Cond.selects RX2 yX2_tellBoxes yX2_tellBoxes ∈ TB := tbs (List.mem_of_getElem? (i := 6) (by decide +kernel)) rfl
theorem tw_1007 : Cond.selects RX2 yX2_tellHand yX2_tellHand ∈ TB := tbs (List.mem_of_getElem? (i := 7) (by decide +kernel)) rfl
theorem tw_1008 : Cond.selects RX2 yX2_readOne yX2_readOne ∈ TB := tbs (List.mem_of_getElem? (i := 8) (by decide +kernel)) rfl
theorem tw_1009 : Cond.selects RX2 yX2_tellLast yX2_tellLast ∈ TB := tbs (List.mem_of_getElem? (i := 9) (by decide +kernel)) rfl
theorem tw_1010 : Cond.selects RX2 yX2_tellEvening yX2_tellEvening ∈ TB := tbs (List.mem_of_getElem? (i := 10) (by decide +kernel)) rfl
theorem tw_1011 : Cond.selects RX1 yX1_dropOldest yX1_dropOldest ∈ TB := tbs (List.mem_of_getElem? (i := 11) (by decide +kernel)) rfl
theorem tw_1012 : Cond.selects RX4 yX4_walkToEnd yX4_walkToEnd ∈ TB := tbs (List.mem_of_getElem? (i := 12) (by decide +kernel)) rfl
theorem tw_1013 : Cond.selects RX4 yX4_startFrom yX4_startFrom ∈ TB := tbs (List.mem_of_getElem? (i := 13) (by decide +kernel)) rfl
theorem tw_1014 : Cond.selects RX3 yX3_endBy yX3_endBy ∈ TB := tbs (List.mem_of_getElem? (i := 14) (by decide +kernel)) rfl
theorem tw_1015 : Cond.selects RX3 yX3_advanceOnce yX3_advanceOnce ∈ TB := tbs (List.mem_of_getElem? (i := 15) (by decide +kernel)) rfl
theorem tw_1016 : Cond.selects RX3 yX3_follow yX3_follow ∈ TB := tbs (List.mem_of_getElem? (i := 16) (by decide +kernel)) rfl
theorem tw_1017 : Cond.selects RX4 yX4_reachesWith yX4_reachesWith ∈ TB := tbs (List.mem_of_getElem? (i := 17) (by decide +kernel)) rfl
theorem tw_1018 : Cond.selects RX4 yX4_likeliestQuarters yX4_likeliestQuarters ∈ TB := tbs (List.mem_of_getElem? (i := 18) (by decide +kernel)) rfl
theorem tw_1019 : Cond.selects RX4 yX4_chanceOfSeen yX4_chanceOfSeen ∈ TB := tbs (List.mem_of_getElem? (i := 19) (by decide +kernel)) rfl
theorem tw_1020 : Cond.selects RX4 yX4_startByHand yX4_startByHand ∈ TB := tbs (List.mem_of_getElem? (i := 20) (by decide +kernel)) rfl
theorem tw_1021 : Cond.selects RX4 yX4_reachesByHand yX4_reachesByHand ∈ TB := tbs (List.mem_of_getElem? (i := 21) (by decide +kernel)) rfl
theorem tw_1022 : Cond.selects RX5 yX5_begins yX5_begins ∈ TB := tbs (List.mem_of_getElem? (i := 22) (by decide +kernel)) rfl
theorem tw_1023 : Cond.selects RX5 yX5_lays yX5_lays ∈ TB := tbs (List.mem_of_getElem? (i := 23) (by decide +kernel)) rfl
theorem tw_1024 : Cond.selects RX5 yX5_readsAll yX5_readsAll ∈ TB := tbs (List.mem_of_getElem? (i := 24) (by decide +kernel)) rfl
theorem tw_1025 : Cond.selects RX5 yX5_readsItem yX5_readsItem ∈ TB := tbs (List.mem_of_getElem? (i := 25) (by decide +kernel)) rfl
theorem tw_1026 : Cond.selects RX5 yX5_readsTwo yX5_readsTwo ∈ TB := tbs (List.mem_of_getElem? (i := 26) (by decide +kernel)) rfl
theorem tw_1027 : Cond.selects RX5 yX5_number yX5_number ∈ TB := tbs (List.mem_of_getElem? (i := 27) (by decide +kernel)) rfl
theorem tw_1028 : Cond.selects RX5 yX5_letterAt yX5_letterAt ∈ TB := tbs (List.mem_of_getElem? (i := 28) (by decide +kernel)) rfl
theorem tw_1029 : Cond.selects RX5 yX5_keeps yX5_keeps ∈ TB := tbs (List.mem_of_getElem? (i := 29) (by decide +kernel)) rfl
theorem tw_1030 : Cond.selects RX5 yX5_weighsNow yX5_weighsNow ∈ TB := tbs (List.mem_of_getElem? (i := 30) (by decide +kernel)) rfl
theorem tw_1031 : Cond.selects RX5 yX5_weighs yX5_weighs ∈ TB := tbs (List.mem_of_getElem? (i := 31) (by decide +kernel)) rfl
theorem tw_1032 : Cond.selects RX5 yX5_clears yX5_clears ∈ TB := tbs (List.mem_of_getElem? (i := 32) (by decide +kernel)) rfl
theorem tw_1033 : Cond.selects RX5 yX5_begin0 yX5_begin0 ∈ TB := tbs (List.mem_of_getElem? (i := 33) (by decide +kernel)) rfl
theorem tw_1034 : Cond.selects RX5 yX5_goes yX5_goes ∈ TB := tbs (List.mem_of_getElem? (i := 34) (by decide +kernel)) rfl
theorem tw_1035 : Cond.selects RX5 yX5_within yX5_within ∈ TB := tbs (List.mem_of_getElem? (i := 35) (by decide +kernel)) rfl
theorem tw_1036 : Cond.selects RX5 yX5_reaches yX5_reaches ∈ TB := tbs (List.mem_of_getElem? (i := 36) (by decide +kernel)) rfl
theorem tw_1037 : Cond.selects RX5 yX5_reachesFrom yX5_reachesFrom ∈ TB := tbs (List.mem_of_getElem? (i := 37) (by decide +kernel)) rfl
theorem tw_1038 : Cond.selects RX5 yX5_sightsBy yX5_sightsBy ∈ TB := tbs (List.mem_of_getElem? (i := 38) (by decide +kernel)) rfl
theorem tu_0 : ∀ w ∈ u_ws RX0 TX0 5, w ∈ TB := fun w h => tb (mem_places (big := tables_1) [44, 46, 48, 50, 52] (by decide +kernel) w h) (List.all_eq_true.mp (show (u_ws RX0 TX0 5).all goodWord = true by decide +kernel) w h)
theorem tu_1 : ∀ w ∈ u_ws RX1 TX1 2, w ∈ TB := fun w h => tb (mem_places (big := tables_1) [96, 98] (by decide +kernel) w h) (List.all_eq_true.mp (show (u_ws RX1 TX1 2).all goodWord = true by decide +kernel) w h)
theorem tu_2 : ∀ w ∈ u_ws RX2 TX2 7, w ∈ TB := fun w h => tb (mem_places (big := tables_1) [65, 67, 69, 71, 73, 75, 77] (by decide +kernel) w h) (List.all_eq_true.mp (show (u_ws RX2 TX2 7).all goodWord = true by decide +kernel) w h)
theorem tu_3 : ∀ w ∈ u_ws RX3 TX3 9, w ∈ TB := fun w h => tb (mem_places (big := tables_1) [116, 118, 120, 122, 124, 126, 128, 130, 132] (by decide +kernel) w h) (List.all_eq_true.mp (show (u_ws RX3 TX3 9).all goodWord = true by decide +kernel) w h)
theorem tu_4 : ∀ w ∈ u_ws RX4 TX4 10, w ∈ TB := fun w h => tb (mem_places (big := tables_1) [154, 156, 158, 160, 162, 164, 166, 168, 170, 172] (by decide +kernel) w h) (List.all_eq_true.mp (show (u_ws RX4 TX4 10).all goodWord = true by decide +kernel) w h)
theorem tu_5 : ∀ w ∈ u_ws RX5 TX5 17, w ∈ TB := fun w h => tb (mem_places (big := tables_1) [576, 578, 580, 582, 584, 586, 588, 590, 592, 594, 596, 598, 600, 602, 604, 606, 608] (by decide +kernel) w h) (List.all_eq_true.mp (show (u_ws RX5 TX5 17).all goodWord = true by decide +kernel) w h)
end
section
/-! THE LAYER: Z D k cs ws pc lv st: the machine stands at pc with locals lv, stack st, world ws, and comes to k's end. -/
abbrev zT : Type := ClassId × ClassId × ClassId × ClassId
/-- classes, array classes and nest words at a state -/
def KK (D : va_G) (t : zT) (U : State) : Prop :=
  va_K D vwCl [(t.1, .int), (t.2.1, .long), (t.2.2.1, .char), (t.2.2.2, .object "EitherPocket$Coat")] U ∧ (∀ w ∈ tables_1, isN w = true → va_Nw w U) ∧ va_AO "EitherPocket$Coat" U
theorem isN_spec {w : Cond} (h : isN w = true) : ∃ a i x hh, w = .methodLinkNest a i x hh := by
  cases w <;> first | exact ⟨_, _, _, _, rfl⟩ | (simp [isN] at h)
theorem KK.warm {D : va_G} {t : zT} {s U : State} (hW : s.WarmedH U.vm) (h : KK D t s) : KK D t U :=
  ⟨va_K.moved hW.alike h.1, fun w hw hn => by
    obtain ⟨a, i, x, hh, rfl⟩ := isN_spec hn
    exact va_Nw.warmM hW (h.2.1 _ hw hn), va_AO.moved hW.alike h.2.2⟩
theorem KK.calling {D : va_G} {t : zT} {U : State} {g : JFrame} {mk : MethodId} {a : Array Value} (h : KK D t U) : KK D t (U.calling g mk a) :=
  ⟨va_K.moved (u := U) (U := U.calling g mk a) (Vm.Alike.refl U.vm) h.1, fun w hw hn => by
    obtain ⟨a, i, x, hh, rfl⟩ := isN_spec hn
    exact va_Nw.same rfl (rfl : U.vm = (U.calling g mk _).vm) (h.2.1 _ hw hn), va_AO.moved (u := U) (U := U.calling g mk a) (Vm.Alike.refl U.vm) h.2.2⟩
/-- what stays fixed in a walk: p l e R s m args below meth c nL A Q -/
abbrev zK : Type := Program × Launch × Env × Room × State × MethodId × Array Value × List Frame × Method × Code × Nat × (Nat → Prop) × (State → Prop)
def Z (D : va_G) (k : zK) (cs : Nat × Nat) (ws : va_W) (pc : Nat) (lv : List (Nat × Value)) (st : List Value) : Prop :=
  match k with
  | (p, l, e, R, s, m, args, below, meth, c, nL, A, Q) => ∀ (H : Heap) (locs : List Loc) (ls : Array Slot), va_P D vwCl ws H → va_D A ws → va_S A s.heap H locs → lv_has ls nL lv → W p l e R s m args below meth c H locs cs.1 cs.2 Q (F0 m pc ls st)
def zX (D : va_G) (t : zT) (k : zK) (b : ByteArray) (n : Nat) (own nm : String) (rm : Room) (l0 : Launch) : Prop :=
  match k with
  | (p, l, _, R, s, m, args, _, meth, c, nL, A, _) => p.tables.exec = Jvm.exec ∧ c.code = b ∧ c.maxLocals = n ∧ nL = n ∧ s.vm.findClass own = some m.cls ∧ (∀ w ∈ TB, w.before args s = true) ∧ KK D t s ∧ (∀ q : Nat, s.heap.size ≤ q → A q) ∧ meth.name = nm ∧ R = rm ∧ l = l0
section ZL
variable {D : va_G} {t : zT} {k : zK} {b : ByteArray} {n : Nat} {own nm : String} {rm : Room} {l0 : Launch} {cs : Nat × Nat} {ws : va_W} {pc : Nat} {lv : List (Nat × Value)} {st : List Value}

theorem z_iconst (X : zX D t k b n own nm rm l0) {i : Int} (v : Int32) (hv : Int32.ofInt i = v) (hd : decode b pc = .ok (.iconst i, 1)) (kk : Z D k cs ws (pc + 1) lv (.int v :: st)) : Z D k cs ws pc lv (st) := by
  obtain ⟨p, l, e, R, s, m, args, below, meth, c, nL, A, Q⟩ := k
  obtain ⟨hx, hb, hml, hnl, hown, hts, hK, hA, hnm, hR, hl0⟩ := X
  intro H locs ls hP hD hS hl
  exact lv_iconst hx hb hd hv (kk H locs ls hP hD hS hl)
theorem z_bipush (X : zX D t k b n own nm rm l0) {i : Int} (v : Int32) (hv : (Int8.ofInt i).toInt32 = v) (hd : decode b pc = .ok (.bipush i, 2)) (kk : Z D k cs ws (pc + 2) lv (.int v :: st)) : Z D k cs ws pc lv (st) := by
  obtain ⟨p, l, e, R, s, m, args, below, meth, c, nL, A, Q⟩ := k
  obtain ⟨hx, hb, hml, hnl, hown, hts, hK, hA, hnm, hR, hl0⟩ := X
  intro H locs ls hP hD hS hl
  exact lv_bipush hx hb hd hv (kk H locs ls hP hD hS hl)
theorem z_sipush (X : zX D t k b n own nm rm l0) {i : Int} (v : Int32) (hv : (Int16.ofInt i).toInt32 = v) (hd : decode b pc = .ok (.sipush i, 3)) (kk : Z D k cs ws (pc + 3) lv (.int v :: st)) : Z D k cs ws pc lv (st) := by
  obtain ⟨p, l, e, R, s, m, args, below, meth, c, nL, A, Q⟩ := k
  obtain ⟨hx, hb, hml, hnl, hown, hts, hK, hA, hnm, hR, hl0⟩ := X
  intro H locs ls hP hD hS hl
  exact lv_sipush hx hb hd hv (kk H locs ls hP hD hS hl)
theorem z_lconst (X : zX D t k b n own nm rm l0) {i : Fin 2} (v : Int64) (hv : Int64.ofNat (i : Nat) = v) (hd : decode b pc = .ok (.lconst i, 1)) (kk : Z D k cs ws (pc + 1) lv (.long v :: st)) : Z D k cs ws pc lv (st) := by
  obtain ⟨p, l, e, R, s, m, args, below, meth, c, nL, A, Q⟩ := k
  obtain ⟨hx, hb, hml, hnl, hown, hts, hK, hA, hnm, hR, hl0⟩ := X
  intro H locs ls hP hD hS hl
  exact lv_lconst hx hb hd hv (kk H locs ls hP hD hS hl)
theorem z_ldc2 (X : zX D t k b n own nm rm l0) {i : Nat} (v : Int64) (hw : Cond.constantLong own i v ∈ TB) (hd : decode b pc = .ok (.ldc2_w i, 3)) (kk : Z D k cs ws (pc + 3) lv (.long v :: st)) : Z D k cs ws pc lv (st) := by
  obtain ⟨p, l, e, R, s, m, args, below, meth, c, nL, A, Q⟩ := k
  obtain ⟨hx, hb, hml, hnl, hown, hts, hK, hA, hnm, hR, hl0⟩ := X
  intro H locs ls hP hD hS hl
  exact lv_ldc2 hx hb hown (hts _ hw) hd (kk H locs ls hP hD hS hl)
theorem z_iload_n (X : zX D t k b n own nm rm l0) {i : Fin 4} (q : Nat) {x : Int32} (hq : lv[q]? = some ((i : Nat), .int x)) (hd : decode b pc = .ok (.iload_n i, 1)) (kk : Z D k cs ws (pc + 1) lv (.int x :: st)) : Z D k cs ws pc lv (st) := by
  obtain ⟨p, l, e, R, s, m, args, below, meth, c, nL, A, Q⟩ := k
  obtain ⟨hx, hb, hml, hnl, hown, hts, hK, hA, hnm, hR, hl0⟩ := X
  intro H locs ls hP hD hS hl
  exact lv_iload_n hx hb hd rfl (lv_at hl q hq) (kk H locs ls hP hD hS hl)
theorem z_iload (X : zX D t k b n own nm rm l0) {i : Nat} (q : Nat) {x : Int32} (hq : lv[q]? = some (i, .int x)) (hd : decode b pc = .ok (.iload i, 2)) (kk : Z D k cs ws (pc + 2) lv (.int x :: st)) : Z D k cs ws pc lv (st) := by
  obtain ⟨p, l, e, R, s, m, args, below, meth, c, nL, A, Q⟩ := k
  obtain ⟨hx, hb, hml, hnl, hown, hts, hK, hA, hnm, hR, hl0⟩ := X
  intro H locs ls hP hD hS hl
  exact lv_iload hx hb hd (lv_at hl q hq) (kk H locs ls hP hD hS hl)
theorem z_istore_n (X : zX D t k b n own nm rm l0) {i : Nat} {j : Fin 4} (hj : (j : Nat) = i) {x : Int32} (lv2 : List (Nat × Value)) (hd : decode b pc = .ok (.istore_n j, 1)) (hn : i < n) (hq : (i, Value.int x) :: lv.filter (fun q => !(q.1 == i) && !(q.1 + 1 == i && q.2.category == 2)) = lv2) (kk : Z D k cs ws (pc + 1) lv2 st) : Z D k cs ws pc lv (.int x :: st) := by
  obtain ⟨p, l, e, R, s, m, args, below, meth, c, nL, A, Q⟩ := k
  obtain ⟨hx, hb, hml, hnl, hown, hts, hK, hA, hnm, hR, hl0⟩ := X
  intro H locs ls hP hD hS hl
  subst hnl
  exact lv_istore_n hx hb hd hj hl hn hq (fun ls2 hl2 => kk H locs ls2 hP hD hS hl2)
theorem z_istore (X : zX D t k b n own nm rm l0) {i : Nat} {x : Int32} (lv2 : List (Nat × Value)) (hd : decode b pc = .ok (.istore i, 2)) (hn : i < n) (hq : (i, Value.int x) :: lv.filter (fun q => !(q.1 == i) && !(q.1 + 1 == i && q.2.category == 2)) = lv2) (kk : Z D k cs ws (pc + 2) lv2 st) : Z D k cs ws pc lv (.int x :: st) := by
  obtain ⟨p, l, e, R, s, m, args, below, meth, c, nL, A, Q⟩ := k
  obtain ⟨hx, hb, hml, hnl, hown, hts, hK, hA, hnm, hR, hl0⟩ := X
  intro H locs ls hP hD hS hl
  subst hnl
  exact lv_istore hx hb hd hl hn hq (fun ls2 hl2 => kk H locs ls2 hP hD hS hl2)
theorem z_lload_n (X : zX D t k b n own nm rm l0) {i : Fin 4} (q : Nat) {x : Int64} (hq : lv[q]? = some ((i : Nat), .long x)) (hd : decode b pc = .ok (.lload_n i, 1)) (kk : Z D k cs ws (pc + 1) lv (.long x :: st)) : Z D k cs ws pc lv (st) := by
  obtain ⟨p, l, e, R, s, m, args, below, meth, c, nL, A, Q⟩ := k
  obtain ⟨hx, hb, hml, hnl, hown, hts, hK, hA, hnm, hR, hl0⟩ := X
  intro H locs ls hP hD hS hl
  exact lv_lload_n hx hb hd rfl (lv_at hl q hq) (kk H locs ls hP hD hS hl)
theorem z_lload (X : zX D t k b n own nm rm l0) {i : Nat} (q : Nat) {x : Int64} (hq : lv[q]? = some (i, .long x)) (hd : decode b pc = .ok (.lload i, 2)) (kk : Z D k cs ws (pc + 2) lv (.long x :: st)) : Z D k cs ws pc lv (st) := by
  obtain ⟨p, l, e, R, s, m, args, below, meth, c, nL, A, Q⟩ := k
  obtain ⟨hx, hb, hml, hnl, hown, hts, hK, hA, hnm, hR, hl0⟩ := X
  intro H locs ls hP hD hS hl
  exact lv_lload hx hb hd (lv_at hl q hq) (kk H locs ls hP hD hS hl)
theorem z_lstore_n (X : zX D t k b n own nm rm l0) {i : Nat} {j : Fin 4} (hj : (j : Nat) = i) {x : Int64} (lv2 : List (Nat × Value)) (hd : decode b pc = .ok (.lstore_n j, 1)) (hn : i + 1 < n) (hq : (i, Value.long x) :: lv.filter (fun q => !(q.1 == i) && (!(q.1 == i + 1) && !(q.1 + 1 == i && q.2.category == 2))) = lv2) (kk : Z D k cs ws (pc + 1) lv2 st) : Z D k cs ws pc lv (.long x :: st) := by
  obtain ⟨p, l, e, R, s, m, args, below, meth, c, nL, A, Q⟩ := k
  obtain ⟨hx, hb, hml, hnl, hown, hts, hK, hA, hnm, hR, hl0⟩ := X
  intro H locs ls hP hD hS hl
  subst hnl
  exact lv_lstore_n hx hb hd hj hl hn hq (fun ls2 hl2 => kk H locs ls2 hP hD hS hl2)
theorem z_lstore (X : zX D t k b n own nm rm l0) {i : Nat} {x : Int64} (lv2 : List (Nat × Value)) (hd : decode b pc = .ok (.lstore i, 2)) (hn : i + 1 < n) (hq : (i, Value.long x) :: lv.filter (fun q => !(q.1 == i) && (!(q.1 == i + 1) && !(q.1 + 1 == i && q.2.category == 2))) = lv2) (kk : Z D k cs ws (pc + 2) lv2 st) : Z D k cs ws pc lv (.long x :: st) := by
  obtain ⟨p, l, e, R, s, m, args, below, meth, c, nL, A, Q⟩ := k
  obtain ⟨hx, hb, hml, hnl, hown, hts, hK, hA, hnm, hR, hl0⟩ := X
  intro H locs ls hP hD hS hl
  subst hnl
  exact lv_lstore hx hb hd hl hn hq (fun ls2 hl2 => kk H locs ls2 hP hD hS hl2)
theorem z_aload_n (X : zX D t k b n own nm rm l0) {i : Fin 4} (q : Nat) {x : Nat} (hq : lv[q]? = some ((i : Nat), .ref x)) (hd : decode b pc = .ok (.aload_n i, 1)) (kk : Z D k cs ws (pc + 1) lv (.ref x :: st)) : Z D k cs ws pc lv (st) := by
  obtain ⟨p, l, e, R, s, m, args, below, meth, c, nL, A, Q⟩ := k
  obtain ⟨hx, hb, hml, hnl, hown, hts, hK, hA, hnm, hR, hl0⟩ := X
  intro H locs ls hP hD hS hl
  exact lv_aload_n hx hb hd rfl (lv_at hl q hq) (kk H locs ls hP hD hS hl)
theorem z_aload (X : zX D t k b n own nm rm l0) {i : Nat} (q : Nat) {x : Nat} (hq : lv[q]? = some (i, .ref x)) (hd : decode b pc = .ok (.aload i, 2)) (kk : Z D k cs ws (pc + 2) lv (.ref x :: st)) : Z D k cs ws pc lv (st) := by
  obtain ⟨p, l, e, R, s, m, args, below, meth, c, nL, A, Q⟩ := k
  obtain ⟨hx, hb, hml, hnl, hown, hts, hK, hA, hnm, hR, hl0⟩ := X
  intro H locs ls hP hD hS hl
  exact lv_aload hx hb hd (lv_at hl q hq) (kk H locs ls hP hD hS hl)
theorem z_astore_n (X : zX D t k b n own nm rm l0) {i : Nat} {j : Fin 4} (hj : (j : Nat) = i) {x : Nat} (lv2 : List (Nat × Value)) (hd : decode b pc = .ok (.astore_n j, 1)) (hn : i < n) (hq : (i, Value.ref x) :: lv.filter (fun q => !(q.1 == i) && !(q.1 + 1 == i && q.2.category == 2)) = lv2) (kk : Z D k cs ws (pc + 1) lv2 st) : Z D k cs ws pc lv (.ref x :: st) := by
  obtain ⟨p, l, e, R, s, m, args, below, meth, c, nL, A, Q⟩ := k
  obtain ⟨hx, hb, hml, hnl, hown, hts, hK, hA, hnm, hR, hl0⟩ := X
  intro H locs ls hP hD hS hl
  subst hnl
  exact lv_astore_n hx hb hd hj hl hn hq (fun ls2 hl2 => kk H locs ls2 hP hD hS hl2)
theorem z_astore (X : zX D t k b n own nm rm l0) {i : Nat} {x : Nat} (lv2 : List (Nat × Value)) (hd : decode b pc = .ok (.astore i, 2)) (hn : i < n) (hq : (i, Value.ref x) :: lv.filter (fun q => !(q.1 == i) && !(q.1 + 1 == i && q.2.category == 2)) = lv2) (kk : Z D k cs ws (pc + 2) lv2 st) : Z D k cs ws pc lv (.ref x :: st) := by
  obtain ⟨p, l, e, R, s, m, args, below, meth, c, nL, A, Q⟩ := k
  obtain ⟨hx, hb, hml, hnl, hown, hts, hK, hA, hnm, hR, hl0⟩ := X
  intro H locs ls hP hD hS hl
  subst hnl
  exact lv_astore hx hb hd hl hn hq (fun ls2 hl2 => kk H locs ls2 hP hD hS hl2)
theorem z_iinc (X : zX D t k b n own nm rm l0) {i : Nat} {j : Int} (q : Nat) {x : Int32} (v : Int32) (lv2 : List (Nat × Value)) (hd : decode b pc = .ok (.iinc i j, 3)) (hq : lv[q]? = some (i, .int x)) (hv : x + Int32.ofInt j = v) (hn : i < n) (hq2 : (i, Value.int v) :: lv.filter (fun q => !(q.1 == i) && !(q.1 + 1 == i && q.2.category == 2)) = lv2) (kk : Z D k cs ws (pc + 3) lv2 st) : Z D k cs ws pc lv st := by
  obtain ⟨p, l, e, R, s, m, args, below, meth, c, nL, A, Q⟩ := k
  obtain ⟨hx, hb, hml, hnl, hown, hts, hK, hA, hnm, hR, hl0⟩ := X
  intro H locs ls hP hD hS hl
  subst hnl
  exact lv_iinc hx hb hd hl hq hv hn hq2 (fun ls2 hl2 => kk H locs ls2 hP hD hS hl2)
theorem z_iadd (X : zX D t k b n own nm rm l0) {x y v : Int32} (hv : x + y = v) (hd : decode b pc = .ok (.iadd, 1)) (kk : Z D k cs ws (pc + 1) lv (.int v :: st)) : Z D k cs ws pc lv (.int y :: .int x :: st) := by
  obtain ⟨p, l, e, R, s, m, args, below, meth, c, nL, A, Q⟩ := k
  obtain ⟨hx, hb, hml, hnl, hown, hts, hK, hA, hnm, hR, hl0⟩ := X
  intro H locs ls hP hD hS hl
  exact lv_iadd hx hb hd (by rw [hv]; exact kk H locs ls hP hD hS hl)
theorem z_isub (X : zX D t k b n own nm rm l0) {x y v : Int32} (hv : x - y = v) (hd : decode b pc = .ok (.isub, 1)) (kk : Z D k cs ws (pc + 1) lv (.int v :: st)) : Z D k cs ws pc lv (.int y :: .int x :: st) := by
  obtain ⟨p, l, e, R, s, m, args, below, meth, c, nL, A, Q⟩ := k
  obtain ⟨hx, hb, hml, hnl, hown, hts, hK, hA, hnm, hR, hl0⟩ := X
  intro H locs ls hP hD hS hl
  exact lv_isub hx hb hd (by rw [hv]; exact kk H locs ls hP hD hS hl)
theorem z_imul (X : zX D t k b n own nm rm l0) {x y v : Int32} (hv : x * y = v) (hd : decode b pc = .ok (.imul, 1)) (kk : Z D k cs ws (pc + 1) lv (.int v :: st)) : Z D k cs ws pc lv (.int y :: .int x :: st) := by
  obtain ⟨p, l, e, R, s, m, args, below, meth, c, nL, A, Q⟩ := k
  obtain ⟨hx, hb, hml, hnl, hown, hts, hK, hA, hnm, hR, hl0⟩ := X
  intro H locs ls hP hD hS hl
  exact lv_imul hx hb hd (by rw [hv]; exact kk H locs ls hP hD hS hl)
theorem z_iand (X : zX D t k b n own nm rm l0) {x y v : Int32} (hv : x &&& y = v) (hd : decode b pc = .ok (.iand, 1)) (kk : Z D k cs ws (pc + 1) lv (.int v :: st)) : Z D k cs ws pc lv (.int y :: .int x :: st) := by
  obtain ⟨p, l, e, R, s, m, args, below, meth, c, nL, A, Q⟩ := k
  obtain ⟨hx, hb, hml, hnl, hown, hts, hK, hA, hnm, hR, hl0⟩ := X
  intro H locs ls hP hD hS hl
  exact lv_iand hx hb hd (by rw [hv]; exact kk H locs ls hP hD hS hl)
theorem z_ior (X : zX D t k b n own nm rm l0) {x y v : Int32} (hv : x ||| y = v) (hd : decode b pc = .ok (.ior, 1)) (kk : Z D k cs ws (pc + 1) lv (.int v :: st)) : Z D k cs ws pc lv (.int y :: .int x :: st) := by
  obtain ⟨p, l, e, R, s, m, args, below, meth, c, nL, A, Q⟩ := k
  obtain ⟨hx, hb, hml, hnl, hown, hts, hK, hA, hnm, hR, hl0⟩ := X
  intro H locs ls hP hD hS hl
  exact lv_ior hx hb hd (by rw [hv]; exact kk H locs ls hP hD hS hl)
theorem z_ishl (X : zX D t k b n own nm rm l0) {x y v : Int32} (hv : x <<< (y &&& 31) = v) (hd : decode b pc = .ok (.ishl, 1)) (kk : Z D k cs ws (pc + 1) lv (.int v :: st)) : Z D k cs ws pc lv (.int y :: .int x :: st) := by
  obtain ⟨p, l, e, R, s, m, args, below, meth, c, nL, A, Q⟩ := k
  obtain ⟨hx, hb, hml, hnl, hown, hts, hK, hA, hnm, hR, hl0⟩ := X
  intro H locs ls hP hD hS hl
  exact lv_ishl hx hb hd (by rw [hv]; exact kk H locs ls hP hD hS hl)
theorem z_ineg (X : zX D t k b n own nm rm l0) {x v : Int32} (hv : -x = v) (hd : decode b pc = .ok (.ineg, 1)) (kk : Z D k cs ws (pc + 1) lv (.int v :: st)) : Z D k cs ws pc lv (.int x :: st) := by
  obtain ⟨p, l, e, R, s, m, args, below, meth, c, nL, A, Q⟩ := k
  obtain ⟨hx, hb, hml, hnl, hown, hts, hK, hA, hnm, hR, hl0⟩ := X
  intro H locs ls hP hD hS hl
  exact lv_ineg hx hb hd (by rw [hv]; exact kk H locs ls hP hD hS hl)
theorem z_idiv (X : zX D t k b n own nm rm l0) {x y v : Int32} (hne : ¬ y = 0) (hv : x / y = v) (hd : decode b pc = .ok (.idiv, 1)) (kk : Z D k cs ws (pc + 1) lv (.int v :: st)) : Z D k cs ws pc lv (.int y :: .int x :: st) := by
  obtain ⟨p, l, e, R, s, m, args, below, meth, c, nL, A, Q⟩ := k
  obtain ⟨hx, hb, hml, hnl, hown, hts, hK, hA, hnm, hR, hl0⟩ := X
  intro H locs ls hP hD hS hl
  exact lv_idiv hx hb hd hne (by rw [hv]; exact kk H locs ls hP hD hS hl)
theorem z_irem (X : zX D t k b n own nm rm l0) {x y v : Int32} (hne : ¬ y = 0) (hv : x - x / y * y = v) (hd : decode b pc = .ok (.irem, 1)) (kk : Z D k cs ws (pc + 1) lv (.int v :: st)) : Z D k cs ws pc lv (.int y :: .int x :: st) := by
  obtain ⟨p, l, e, R, s, m, args, below, meth, c, nL, A, Q⟩ := k
  obtain ⟨hx, hb, hml, hnl, hown, hts, hK, hA, hnm, hR, hl0⟩ := X
  intro H locs ls hP hD hS hl
  exact lv_irem hx hb hd hne (by rw [hv]; exact kk H locs ls hP hD hS hl)
theorem z_ladd (X : zX D t k b n own nm rm l0) {x y v : Int64} (hv : x + y = v) (hd : decode b pc = .ok (.ladd, 1)) (kk : Z D k cs ws (pc + 1) lv (.long v :: st)) : Z D k cs ws pc lv (.long y :: .long x :: st) := by
  obtain ⟨p, l, e, R, s, m, args, below, meth, c, nL, A, Q⟩ := k
  obtain ⟨hx, hb, hml, hnl, hown, hts, hK, hA, hnm, hR, hl0⟩ := X
  intro H locs ls hP hD hS hl
  exact lv_ladd hx hb hd (by rw [hv]; exact kk H locs ls hP hD hS hl)
theorem z_lsub (X : zX D t k b n own nm rm l0) {x y v : Int64} (hv : x - y = v) (hd : decode b pc = .ok (.lsub, 1)) (kk : Z D k cs ws (pc + 1) lv (.long v :: st)) : Z D k cs ws pc lv (.long y :: .long x :: st) := by
  obtain ⟨p, l, e, R, s, m, args, below, meth, c, nL, A, Q⟩ := k
  obtain ⟨hx, hb, hml, hnl, hown, hts, hK, hA, hnm, hR, hl0⟩ := X
  intro H locs ls hP hD hS hl
  exact lv_lsub hx hb hd (by rw [hv]; exact kk H locs ls hP hD hS hl)
theorem z_lmul (X : zX D t k b n own nm rm l0) {x y v : Int64} (hv : x * y = v) (hd : decode b pc = .ok (.lmul, 1)) (kk : Z D k cs ws (pc + 1) lv (.long v :: st)) : Z D k cs ws pc lv (.long y :: .long x :: st) := by
  obtain ⟨p, l, e, R, s, m, args, below, meth, c, nL, A, Q⟩ := k
  obtain ⟨hx, hb, hml, hnl, hown, hts, hK, hA, hnm, hR, hl0⟩ := X
  intro H locs ls hP hD hS hl
  exact lv_lmul hx hb hd (by rw [hv]; exact kk H locs ls hP hD hS hl)
theorem z_ldiv (X : zX D t k b n own nm rm l0) {x y v : Int64} (hne : ¬ y = 0) (hv : x / y = v) (hd : decode b pc = .ok (.ldiv, 1)) (kk : Z D k cs ws (pc + 1) lv (.long v :: st)) : Z D k cs ws pc lv (.long y :: .long x :: st) := by
  obtain ⟨p, l, e, R, s, m, args, below, meth, c, nL, A, Q⟩ := k
  obtain ⟨hx, hb, hml, hnl, hown, hts, hK, hA, hnm, hR, hl0⟩ := X
  intro H locs ls hP hD hS hl
  exact lv_ldiv hx hb hd hne (by rw [hv]; exact kk H locs ls hP hD hS hl)
theorem z_lrem (X : zX D t k b n own nm rm l0) {x y v : Int64} (hne : ¬ y = 0) (hv : x - x / y * y = v) (hd : decode b pc = .ok (.lrem, 1)) (kk : Z D k cs ws (pc + 1) lv (.long v :: st)) : Z D k cs ws pc lv (.long y :: .long x :: st) := by
  obtain ⟨p, l, e, R, s, m, args, below, meth, c, nL, A, Q⟩ := k
  obtain ⟨hx, hb, hml, hnl, hown, hts, hK, hA, hnm, hR, hl0⟩ := X
  intro H locs ls hP hD hS hl
  exact lv_lrem hx hb hd hne (by rw [hv]; exact kk H locs ls hP hD hS hl)
theorem z_i2l (X : zX D t k b n own nm rm l0) {x : Int32} {v : Int64} (hv : x.toInt64 = v) (hd : decode b pc = .ok (.i2l, 1)) (kk : Z D k cs ws (pc + 1) lv (.long v :: st)) : Z D k cs ws pc lv (.int x :: st) := by
  obtain ⟨p, l, e, R, s, m, args, below, meth, c, nL, A, Q⟩ := k
  obtain ⟨hx, hb, hml, hnl, hown, hts, hK, hA, hnm, hR, hl0⟩ := X
  intro H locs ls hP hD hS hl
  exact lv_i2l hx hb hd hv (kk H locs ls hP hD hS hl)
theorem z_l2i (X : zX D t k b n own nm rm l0) {x : Int64} {v : Int32} (hv : x.toInt32 = v) (hd : decode b pc = .ok (.l2i, 1)) (kk : Z D k cs ws (pc + 1) lv (.int v :: st)) : Z D k cs ws pc lv (.long x :: st) := by
  obtain ⟨p, l, e, R, s, m, args, below, meth, c, nL, A, Q⟩ := k
  obtain ⟨hx, hb, hml, hnl, hown, hts, hK, hA, hnm, hR, hl0⟩ := X
  intro H locs ls hP hD hS hl
  exact lv_l2i hx hb hd hv (kk H locs ls hP hD hS hl)
theorem z_i2c (X : zX D t k b n own nm rm l0) {x v : Int32} (hv : (x.toUInt32 % 65536).toInt32 = v) (hd : decode b pc = .ok (.i2c, 1)) (kk : Z D k cs ws (pc + 1) lv (.int v :: st)) : Z D k cs ws pc lv (.int x :: st) := by
  obtain ⟨p, l, e, R, s, m, args, below, meth, c, nL, A, Q⟩ := k
  obtain ⟨hx, hb, hml, hnl, hown, hts, hK, hA, hnm, hR, hl0⟩ := X
  intro H locs ls hP hD hS hl
  exact lv_i2c hx hb hd hv (kk H locs ls hP hD hS hl)
theorem z_dup (X : zX D t k b n own nm rm l0) {va : Value} (h1 : va.category = 1) (hd : decode b pc = .ok (.dup, 1)) (kk : Z D k cs ws (pc + 1) lv (va :: va :: st)) : Z D k cs ws pc lv (va :: st) := by
  obtain ⟨p, l, e, R, s, m, args, below, meth, c, nL, A, Q⟩ := k
  obtain ⟨hx, hb, hml, hnl, hown, hts, hK, hA, hnm, hR, hl0⟩ := X
  intro H locs ls hP hD hS hl
  exact lv_dup hx hb hd h1 (kk H locs ls hP hD hS hl)
theorem z_pop (X : zX D t k b n own nm rm l0) {va : Value} (h1 : va.category = 1) (hd : decode b pc = .ok (.pop, 1)) (kk : Z D k cs ws (pc + 1) lv (st)) : Z D k cs ws pc lv (va :: st) := by
  obtain ⟨p, l, e, R, s, m, args, below, meth, c, nL, A, Q⟩ := k
  obtain ⟨hx, hb, hml, hnl, hown, hts, hK, hA, hnm, hR, hl0⟩ := X
  intro H locs ls hP hD hS hl
  exact lv_pop hx hb hd h1 (kk H locs ls hP hD hS hl)
theorem z_pop2 (X : zX D t k b n own nm rm l0) {va : Value} (h1 : va.category = 2) (hd : decode b pc = .ok (.pop2, 1)) (kk : Z D k cs ws (pc + 1) lv (st)) : Z D k cs ws pc lv (va :: st) := by
  obtain ⟨p, l, e, R, s, m, args, below, meth, c, nL, A, Q⟩ := k
  obtain ⟨hx, hb, hml, hnl, hown, hts, hK, hA, hnm, hR, hl0⟩ := X
  intro H locs ls hP hD hS hl
  exact lv_pop2_2 hx hb hd h1 (kk H locs ls hP hD hS hl)
theorem z_dup_x1 (X : zX D t k b n own nm rm l0) {va vb : Value} (h1 : va.category = 1) (h2 : vb.category = 1) (hd : decode b pc = .ok (.dup_x1, 1)) (kk : Z D k cs ws (pc + 1) lv (va :: vb :: va :: st)) : Z D k cs ws pc lv (va :: vb :: st) := by
  obtain ⟨p, l, e, R, s, m, args, below, meth, c, nL, A, Q⟩ := k
  obtain ⟨hx, hb, hml, hnl, hown, hts, hK, hA, hnm, hR, hl0⟩ := X
  intro H locs ls hP hD hS hl
  exact lv_dup_x1 hx hb hd h1 h2 (kk H locs ls hP hD hS hl)
theorem z_dup_x2 (X : zX D t k b n own nm rm l0) {va vb vd : Value} (h1 : va.category = 1) (h2 : vb.category = 1) (h3 : vd.category = 1) (hd : decode b pc = .ok (.dup_x2, 1)) (kk : Z D k cs ws (pc + 1) lv (va :: vb :: vd :: va :: st)) : Z D k cs ws pc lv (va :: vb :: vd :: st) := by
  obtain ⟨p, l, e, R, s, m, args, below, meth, c, nL, A, Q⟩ := k
  obtain ⟨hx, hb, hml, hnl, hown, hts, hK, hA, hnm, hR, hl0⟩ := X
  intro H locs ls hP hD hS hl
  exact lv_dup_x2 hx hb hd h1 h2 h3 (kk H locs ls hP hD hS hl)
theorem z_dup2_11 (X : zX D t k b n own nm rm l0) {va vb : Value} (h1 : va.category = 1) (h2 : vb.category = 1) (hd : decode b pc = .ok (.dup2, 1)) (kk : Z D k cs ws (pc + 1) lv (va :: vb :: va :: vb :: st)) : Z D k cs ws pc lv (va :: vb :: st) := by
  obtain ⟨p, l, e, R, s, m, args, below, meth, c, nL, A, Q⟩ := k
  obtain ⟨hx, hb, hml, hnl, hown, hts, hK, hA, hnm, hR, hl0⟩ := X
  intro H locs ls hP hD hS hl
  exact lv_dup2_11 hx hb hd h1 h2 (kk H locs ls hP hD hS hl)
theorem z_dup2_2 (X : zX D t k b n own nm rm l0) {va : Value} (h1 : va.category = 2) (hd : decode b pc = .ok (.dup2, 1)) (kk : Z D k cs ws (pc + 1) lv (va :: va :: st)) : Z D k cs ws pc lv (va :: st) := by
  obtain ⟨p, l, e, R, s, m, args, below, meth, c, nL, A, Q⟩ := k
  obtain ⟨hx, hb, hml, hnl, hown, hts, hK, hA, hnm, hR, hl0⟩ := X
  intro H locs ls hP hD hS hl
  exact lv_dup2_2 hx hb hd h1 (kk H locs ls hP hD hS hl)
theorem z_dup2_x1 (X : zX D t k b n own nm rm l0) {va vb : Value} (h1 : va.category = 2) (h2 : vb.category = 1) (hd : decode b pc = .ok (.dup2_x1, 1)) (kk : Z D k cs ws (pc + 1) lv (va :: vb :: va :: st)) : Z D k cs ws pc lv (va :: vb :: st) := by
  obtain ⟨p, l, e, R, s, m, args, below, meth, c, nL, A, Q⟩ := k
  obtain ⟨hx, hb, hml, hnl, hown, hts, hK, hA, hnm, hR, hl0⟩ := X
  intro H locs ls hP hD hS hl
  exact lv_dup2_x1_2 hx hb hd h1 h2 (kk H locs ls hP hD hS hl)
theorem z_if_eq (X : zX D t k b n own nm rm l0) {x : Int32} {off : Int} (tgt : Nat) (hd : decode b pc = .ok (.ifCond .eq off, 3)) (ht : (pc : Int) + off = (tgt : Int)) (kt : x = 0 → Z D k cs ws tgt lv st) (kf : ¬ (x = 0) → Z D k cs ws (pc + 3) lv st) : Z D k cs ws pc lv (.int x :: st) := by
  obtain ⟨p, l, e, R, s, m, args, below, meth, c, nL, A, Q⟩ := k
  obtain ⟨hx, hb, hml, hnl, hown, hts, hK, hA, hnm, hR, hl0⟩ := X
  intro H locs ls hP hD hS hl
  exact lv_if_eq hx hb hd ht (fun h => kt h H locs ls hP hD hS hl) (fun h => kf h H locs ls hP hD hS hl)
theorem z_icmp_eq (X : zX D t k b n own nm rm l0) {x y : Int32} {off : Int} (tgt : Nat) (hd : decode b pc = .ok (.if_icmp .eq off, 3)) (ht : (pc : Int) + off = (tgt : Int)) (kt : x = y → Z D k cs ws tgt lv st) (kf : ¬ (x = y) → Z D k cs ws (pc + 3) lv st) : Z D k cs ws pc lv (.int y :: .int x :: st) := by
  obtain ⟨p, l, e, R, s, m, args, below, meth, c, nL, A, Q⟩ := k
  obtain ⟨hx, hb, hml, hnl, hown, hts, hK, hA, hnm, hR, hl0⟩ := X
  intro H locs ls hP hD hS hl
  exact lv_icmp_eq hx hb hd ht (fun h => kt h H locs ls hP hD hS hl) (fun h => kf h H locs ls hP hD hS hl)
theorem z_if_ne (X : zX D t k b n own nm rm l0) {x : Int32} {off : Int} (tgt : Nat) (hd : decode b pc = .ok (.ifCond .ne off, 3)) (ht : (pc : Int) + off = (tgt : Int)) (kt : ¬ x = 0 → Z D k cs ws tgt lv st) (kf : x = 0 → Z D k cs ws (pc + 3) lv st) : Z D k cs ws pc lv (.int x :: st) := by
  obtain ⟨p, l, e, R, s, m, args, below, meth, c, nL, A, Q⟩ := k
  obtain ⟨hx, hb, hml, hnl, hown, hts, hK, hA, hnm, hR, hl0⟩ := X
  intro H locs ls hP hD hS hl
  exact lv_if_ne hx hb hd ht (fun h => kt h H locs ls hP hD hS hl) (fun h => kf h H locs ls hP hD hS hl)
theorem z_icmp_ne (X : zX D t k b n own nm rm l0) {x y : Int32} {off : Int} (tgt : Nat) (hd : decode b pc = .ok (.if_icmp .ne off, 3)) (ht : (pc : Int) + off = (tgt : Int)) (kt : ¬ x = y → Z D k cs ws tgt lv st) (kf : x = y → Z D k cs ws (pc + 3) lv st) : Z D k cs ws pc lv (.int y :: .int x :: st) := by
  obtain ⟨p, l, e, R, s, m, args, below, meth, c, nL, A, Q⟩ := k
  obtain ⟨hx, hb, hml, hnl, hown, hts, hK, hA, hnm, hR, hl0⟩ := X
  intro H locs ls hP hD hS hl
  exact lv_icmp_ne hx hb hd ht (fun h => kt h H locs ls hP hD hS hl) (fun h => kf h H locs ls hP hD hS hl)
theorem z_if_lt (X : zX D t k b n own nm rm l0) {x : Int32} {off : Int} (tgt : Nat) (hd : decode b pc = .ok (.ifCond .lt off, 3)) (ht : (pc : Int) + off = (tgt : Int)) (kt : x < 0 → Z D k cs ws tgt lv st) (kf : ¬ (x < 0) → Z D k cs ws (pc + 3) lv st) : Z D k cs ws pc lv (.int x :: st) := by
  obtain ⟨p, l, e, R, s, m, args, below, meth, c, nL, A, Q⟩ := k
  obtain ⟨hx, hb, hml, hnl, hown, hts, hK, hA, hnm, hR, hl0⟩ := X
  intro H locs ls hP hD hS hl
  exact lv_if_lt hx hb hd ht (fun h => kt h H locs ls hP hD hS hl) (fun h => kf h H locs ls hP hD hS hl)
theorem z_icmp_lt (X : zX D t k b n own nm rm l0) {x y : Int32} {off : Int} (tgt : Nat) (hd : decode b pc = .ok (.if_icmp .lt off, 3)) (ht : (pc : Int) + off = (tgt : Int)) (kt : x < y → Z D k cs ws tgt lv st) (kf : ¬ (x < y) → Z D k cs ws (pc + 3) lv st) : Z D k cs ws pc lv (.int y :: .int x :: st) := by
  obtain ⟨p, l, e, R, s, m, args, below, meth, c, nL, A, Q⟩ := k
  obtain ⟨hx, hb, hml, hnl, hown, hts, hK, hA, hnm, hR, hl0⟩ := X
  intro H locs ls hP hD hS hl
  exact lv_icmp_lt hx hb hd ht (fun h => kt h H locs ls hP hD hS hl) (fun h => kf h H locs ls hP hD hS hl)
theorem z_if_ge (X : zX D t k b n own nm rm l0) {x : Int32} {off : Int} (tgt : Nat) (hd : decode b pc = .ok (.ifCond .ge off, 3)) (ht : (pc : Int) + off = (tgt : Int)) (kt : 0 ≤ x → Z D k cs ws tgt lv st) (kf : ¬ (0 ≤ x) → Z D k cs ws (pc + 3) lv st) : Z D k cs ws pc lv (.int x :: st) := by
  obtain ⟨p, l, e, R, s, m, args, below, meth, c, nL, A, Q⟩ := k
  obtain ⟨hx, hb, hml, hnl, hown, hts, hK, hA, hnm, hR, hl0⟩ := X
  intro H locs ls hP hD hS hl
  exact lv_if_ge hx hb hd ht (fun h => kt h H locs ls hP hD hS hl) (fun h => kf h H locs ls hP hD hS hl)
theorem z_icmp_ge (X : zX D t k b n own nm rm l0) {x y : Int32} {off : Int} (tgt : Nat) (hd : decode b pc = .ok (.if_icmp .ge off, 3)) (ht : (pc : Int) + off = (tgt : Int)) (kt : y ≤ x → Z D k cs ws tgt lv st) (kf : ¬ (y ≤ x) → Z D k cs ws (pc + 3) lv st) : Z D k cs ws pc lv (.int y :: .int x :: st) := by
  obtain ⟨p, l, e, R, s, m, args, below, meth, c, nL, A, Q⟩ := k
  obtain ⟨hx, hb, hml, hnl, hown, hts, hK, hA, hnm, hR, hl0⟩ := X
  intro H locs ls hP hD hS hl
  exact lv_icmp_ge hx hb hd ht (fun h => kt h H locs ls hP hD hS hl) (fun h => kf h H locs ls hP hD hS hl)
theorem z_if_gt (X : zX D t k b n own nm rm l0) {x : Int32} {off : Int} (tgt : Nat) (hd : decode b pc = .ok (.ifCond .gt off, 3)) (ht : (pc : Int) + off = (tgt : Int)) (kt : 0 < x → Z D k cs ws tgt lv st) (kf : ¬ (0 < x) → Z D k cs ws (pc + 3) lv st) : Z D k cs ws pc lv (.int x :: st) := by
  obtain ⟨p, l, e, R, s, m, args, below, meth, c, nL, A, Q⟩ := k
  obtain ⟨hx, hb, hml, hnl, hown, hts, hK, hA, hnm, hR, hl0⟩ := X
  intro H locs ls hP hD hS hl
  exact lv_if_gt hx hb hd ht (fun h => kt h H locs ls hP hD hS hl) (fun h => kf h H locs ls hP hD hS hl)
theorem z_icmp_gt (X : zX D t k b n own nm rm l0) {x y : Int32} {off : Int} (tgt : Nat) (hd : decode b pc = .ok (.if_icmp .gt off, 3)) (ht : (pc : Int) + off = (tgt : Int)) (kt : y < x → Z D k cs ws tgt lv st) (kf : ¬ (y < x) → Z D k cs ws (pc + 3) lv st) : Z D k cs ws pc lv (.int y :: .int x :: st) := by
  obtain ⟨p, l, e, R, s, m, args, below, meth, c, nL, A, Q⟩ := k
  obtain ⟨hx, hb, hml, hnl, hown, hts, hK, hA, hnm, hR, hl0⟩ := X
  intro H locs ls hP hD hS hl
  exact lv_icmp_gt hx hb hd ht (fun h => kt h H locs ls hP hD hS hl) (fun h => kf h H locs ls hP hD hS hl)
theorem z_if_le (X : zX D t k b n own nm rm l0) {x : Int32} {off : Int} (tgt : Nat) (hd : decode b pc = .ok (.ifCond .le off, 3)) (ht : (pc : Int) + off = (tgt : Int)) (kt : x ≤ 0 → Z D k cs ws tgt lv st) (kf : ¬ (x ≤ 0) → Z D k cs ws (pc + 3) lv st) : Z D k cs ws pc lv (.int x :: st) := by
  obtain ⟨p, l, e, R, s, m, args, below, meth, c, nL, A, Q⟩ := k
  obtain ⟨hx, hb, hml, hnl, hown, hts, hK, hA, hnm, hR, hl0⟩ := X
  intro H locs ls hP hD hS hl
  exact lv_if_le hx hb hd ht (fun h => kt h H locs ls hP hD hS hl) (fun h => kf h H locs ls hP hD hS hl)
theorem z_icmp_le (X : zX D t k b n own nm rm l0) {x y : Int32} {off : Int} (tgt : Nat) (hd : decode b pc = .ok (.if_icmp .le off, 3)) (ht : (pc : Int) + off = (tgt : Int)) (kt : x ≤ y → Z D k cs ws tgt lv st) (kf : ¬ (x ≤ y) → Z D k cs ws (pc + 3) lv st) : Z D k cs ws pc lv (.int y :: .int x :: st) := by
  obtain ⟨p, l, e, R, s, m, args, below, meth, c, nL, A, Q⟩ := k
  obtain ⟨hx, hb, hml, hnl, hown, hts, hK, hA, hnm, hR, hl0⟩ := X
  intro H locs ls hP hD hS hl
  exact lv_icmp_le hx hb hd ht (fun h => kt h H locs ls hP hD hS hl) (fun h => kf h H locs ls hP hD hS hl)
theorem z_lcmp_le (X : zX D t k b n own nm rm l0) {x y : Int64} {off : Int} (tgt : Nat) (hd1 : decode b pc = .ok (.lcmp, 1)) (hd : decode b (pc + 1) = .ok (.ifCond .le off, 3)) (ht : ((pc + 1 : Nat) : Int) + off = (tgt : Int)) (kt : x ≤ y → Z D k cs ws tgt lv st) (kf : ¬ (x ≤ y) → Z D k cs ws (pc + 4) lv st) : Z D k cs ws pc lv (.long y :: .long x :: st) := by
  obtain ⟨p, l, e, R, s, m, args, below, meth, c, nL, A, Q⟩ := k
  obtain ⟨hx, hb, hml, hnl, hown, hts, hK, hA, hnm, hR, hl0⟩ := X
  intro H locs ls hP hD hS hl
  refine W.lcmp hx hb hd1 ?_
  exact lv_if_le hx hb hd ht (fun h => kt ((lg_cmp_le x y).mp h) H locs ls hP hD hS hl) (fun h => kf (fun z => h ((lg_cmp_le x y).mpr z)) H locs ls hP hD hS hl)
theorem z_lcmp_ge (X : zX D t k b n own nm rm l0) {x y : Int64} {off : Int} (tgt : Nat) (hd1 : decode b pc = .ok (.lcmp, 1)) (hd : decode b (pc + 1) = .ok (.ifCond .ge off, 3)) (ht : ((pc + 1 : Nat) : Int) + off = (tgt : Int)) (kt : y ≤ x → Z D k cs ws tgt lv st) (kf : ¬ (y ≤ x) → Z D k cs ws (pc + 4) lv st) : Z D k cs ws pc lv (.long y :: .long x :: st) := by
  obtain ⟨p, l, e, R, s, m, args, below, meth, c, nL, A, Q⟩ := k
  obtain ⟨hx, hb, hml, hnl, hown, hts, hK, hA, hnm, hR, hl0⟩ := X
  intro H locs ls hP hD hS hl
  refine W.lcmp hx hb hd1 ?_
  exact lv_if_ge hx hb hd ht (fun h => kt ((lg_cmp_ge x y).mp h) H locs ls hP hD hS hl) (fun h => kf (fun z => h ((lg_cmp_ge x y).mpr z)) H locs ls hP hD hS hl)
theorem z_lcmp_eq (X : zX D t k b n own nm rm l0) {x y : Int64} {off : Int} (tgt : Nat) (hd1 : decode b pc = .ok (.lcmp, 1)) (hd : decode b (pc + 1) = .ok (.ifCond .eq off, 3)) (ht : ((pc + 1 : Nat) : Int) + off = (tgt : Int)) (kt : x = y → Z D k cs ws tgt lv st) (kf : ¬ (x = y) → Z D k cs ws (pc + 4) lv st) : Z D k cs ws pc lv (.long y :: .long x :: st) := by
  obtain ⟨p, l, e, R, s, m, args, below, meth, c, nL, A, Q⟩ := k
  obtain ⟨hx, hb, hml, hnl, hown, hts, hK, hA, hnm, hR, hl0⟩ := X
  intro H locs ls hP hD hS hl
  refine W.lcmp hx hb hd1 ?_
  exact lv_if_eq hx hb hd ht (fun h => kt ((lg_cmp_eq x y).mp h) H locs ls hP hD hS hl) (fun h => kf (fun z => h ((lg_cmp_eq x y).mpr z)) H locs ls hP hD hS hl)
theorem z_lcmp_lt (X : zX D t k b n own nm rm l0) {x y : Int64} {off : Int} (tgt : Nat) (hd1 : decode b pc = .ok (.lcmp, 1)) (hd : decode b (pc + 1) = .ok (.ifCond .lt off, 3)) (ht : ((pc + 1 : Nat) : Int) + off = (tgt : Int)) (kt : x < y → Z D k cs ws tgt lv st) (kf : ¬ (x < y) → Z D k cs ws (pc + 4) lv st) : Z D k cs ws pc lv (.long y :: .long x :: st) := by
  obtain ⟨p, l, e, R, s, m, args, below, meth, c, nL, A, Q⟩ := k
  obtain ⟨hx, hb, hml, hnl, hown, hts, hK, hA, hnm, hR, hl0⟩ := X
  intro H locs ls hP hD hS hl
  refine W.lcmp hx hb hd1 ?_
  exact lv_if_lt hx hb hd ht (fun h => kt ((lg_cmp_lt x y).mp h) H locs ls hP hD hS hl) (fun h => kf (fun z => h ((lg_cmp_lt x y).mpr z)) H locs ls hP hD hS hl)
theorem z_lcmp_gt (X : zX D t k b n own nm rm l0) {x y : Int64} {off : Int} (tgt : Nat) (hd1 : decode b pc = .ok (.lcmp, 1)) (hd : decode b (pc + 1) = .ok (.ifCond .gt off, 3)) (ht : ((pc + 1 : Nat) : Int) + off = (tgt : Int)) (kt : y < x → Z D k cs ws tgt lv st) (kf : ¬ (y < x) → Z D k cs ws (pc + 4) lv st) : Z D k cs ws pc lv (.long y :: .long x :: st) := by
  obtain ⟨p, l, e, R, s, m, args, below, meth, c, nL, A, Q⟩ := k
  obtain ⟨hx, hb, hml, hnl, hown, hts, hK, hA, hnm, hR, hl0⟩ := X
  intro H locs ls hP hD hS hl
  refine W.lcmp hx hb hd1 ?_
  exact lv_if_gt hx hb hd ht (fun h => kt ((lg_cmp_gt x y).mp h) H locs ls hP hD hS hl) (fun h => kf (fun z => h ((lg_cmp_gt x y).mpr z)) H locs ls hP hD hS hl)
theorem z_lcmp_ne (X : zX D t k b n own nm rm l0) {x y : Int64} {off : Int} (tgt : Nat) (hd1 : decode b pc = .ok (.lcmp, 1)) (hd : decode b (pc + 1) = .ok (.ifCond .ne off, 3)) (ht : ((pc + 1 : Nat) : Int) + off = (tgt : Int)) (kt : ¬ x = y → Z D k cs ws tgt lv st) (kf : x = y → Z D k cs ws (pc + 4) lv st) : Z D k cs ws pc lv (.long y :: .long x :: st) := by
  obtain ⟨p, l, e, R, s, m, args, below, meth, c, nL, A, Q⟩ := k
  obtain ⟨hx, hb, hml, hnl, hown, hts, hK, hA, hnm, hR, hl0⟩ := X
  intro H locs ls hP hD hS hl
  refine W.lcmp hx hb hd1 ?_
  exact lv_if_ne hx hb hd ht (fun h => kt (fun z => h ((lg_cmp_eq x y).mpr z)) H locs ls hP hD hS hl) (fun h => kf ((lg_cmp_eq x y).mp h) H locs ls hP hD hS hl)
theorem z_goto (X : zX D t k b n own nm rm l0) {off : Int} (tgt : Nat) (hd : decode b pc = .ok (.goto off, 3)) (ht : (pc : Int) + off = (tgt : Int)) (kk : Z D k cs ws tgt lv st) : Z D k cs ws pc lv st := by
  obtain ⟨p, l, e, R, s, m, args, below, meth, c, nL, A, Q⟩ := k
  obtain ⟨hx, hb, hml, hnl, hown, hts, hK, hA, hnm, hR, hl0⟩ := X
  intro H locs ls hP hD hS hl
  exact lv_goto hx hb hd ht (kk H locs ls hP hD hS hl)
theorem z_lookup (X : zX D t k b n own nm rm l0) {dflt : Int} {ps : Array (Int × Int)} {len : Nat} {x : Int32} {off : Int} (tgt : Nat) (hd : decode b pc = .ok (.lookupswitch dflt ps, len)) (hp : (ps.toList.zip (ps.toList.drop 1)).all (fun (a, next) => a.1 < next.1) = true) (ho : Op.lookupswitch.offset ps.toList dflt x.toInt = off) (ht : (pc : Int) + off = (tgt : Int)) (kk : Z D k cs ws tgt lv st) : Z D k cs ws pc lv (.int x :: st) := by
  obtain ⟨p, l, e, R, s, m, args, below, meth, c, nL, A, Q⟩ := k
  obtain ⟨hx, hb, hml, hnl, hown, hts, hK, hA, hnm, hR, hl0⟩ := X
  intro H locs ls hP hD hS hl
  exact lv_lookup hx hb hd hp ho ht (kk H locs ls hP hD hS hl)
theorem z_tableOut (X : zX D t k b n own nm rm l0) {dflt lo hi : Int} {offs : Array Int} {len : Nat} {x : Int32} (tgt : Nat) (hd : decode b pc = .ok (.tableswitch dflt lo hi offs, len)) (h : x.toInt < lo ∨ hi < x.toInt) (ht : (pc : Int) + dflt = (tgt : Int)) (kk : Z D k cs ws tgt lv st) : Z D k cs ws pc lv (.int x :: st) := by
  obtain ⟨p, l, e, R, s, m, args, below, meth, c, nL, A, Q⟩ := k
  obtain ⟨hx, hb, hml, hnl, hown, hts, hK, hA, hnm, hR, hl0⟩ := X
  intro H locs ls hP hD hS hl
  exact lv_tableOut hx hb hd h ht (kk H locs ls hP hD hS hl)
theorem z_tableIn (X : zX D t k b n own nm rm l0) {dflt lo hi : Int} {offs : Array Int} {len : Nat} {x : Int32} {off : Int} (tgt : Nat) (hd : decode b pc = .ok (.tableswitch dflt lo hi offs, len)) (h1 : ¬ x.toInt < lo) (h2 : ¬ hi < x.toInt) (ho : offs[(x.toInt - lo).toNat]? = some off) (ht : (pc : Int) + off = (tgt : Int)) (kk : Z D k cs ws tgt lv st) : Z D k cs ws pc lv (.int x :: st) := by
  obtain ⟨p, l, e, R, s, m, args, below, meth, c, nL, A, Q⟩ := k
  obtain ⟨hx, hb, hml, hnl, hown, hts, hK, hA, hnm, hR, hl0⟩ := X
  intro H locs ls hP hD hS hl
  exact lv_tableIn hx hb hd h1 h2 ho ht (kk H locs ls hP hD hS hl)
theorem z_get (X : zX D t k b n own nm rm l0) {C ref : String} {T : u_T} {N ci a index : Nat} {fs : List Value} (q0 kf : Nat) (v : Value) (hin : ∀ w ∈ u_ws C T N, w ∈ TB) (hl : Cond.fieldLink own index ref (T kf).2.1 (T kf).2.2.1 ∈ TB) (hd : decode b pc = .ok (.getfield index, 3)) (he : ws[q0]? = some (a, .inr (ci, fs))) (hc : vwCl[ci]? = some (C, T, N)) (hk : kf < N) (hs : (T kf).1 = ref) (hv : fs[kf]? = some v) (kk : Z D k cs ws (pc + 3) lv (v :: st)) : Z D k cs ws pc lv (.ref a :: st) := by
  obtain ⟨p, l, e, R, s, m, args, below, meth, c, nL, A, Q⟩ := k
  obtain ⟨hx, hb, hml, hnl, hown, hts, hK, hA, hnm, hR, hl0⟩ := X
  intro H locs ls hP hD hS hl9
  exact va_get hx hb hts hin hown hK.1 hP q0 he hc kf hk (hts _ hl) (fun _ h9 => hs ▸ h9) hv hd (kk H locs ls hP hD hS hl9)
theorem z_put (X : zX D t k b n own nm rm l0) {C ref : String} {T : u_T} {N ci a index : Nat} {ty0 : Nat → FieldType} {fs : List Value} {v : Value} (q0 kf : Nat) (ws2 : va_W) (hin : ∀ w ∈ u_ws C T N, w ∈ TB) (hty : ∀ k, k < N → parseFieldDescriptor (T k).2.2.1 = some (ty0 k)) (hnm9 : ∀ a, a < N → ∀ b, b < N → a ≠ b → (T a).2.1 ≠ (T b).2.1) (hl : Cond.fieldLink own index ref (T kf).2.1 (T kf).2.2.1 ∈ TB) (hd : decode b pc = .ok (.putfield index, 3)) (he : ws[q0]? = some (a, .inr (ci, fs))) (hc : vwCl[ci]? = some (C, T, N)) (hk : kf < N) (hs : (T kf).1 = ref) (hfin : (T kf).2.2.2 = false)  (hn : narrow (ty0 kf) v = v) (hfit : fits (ty0 kf) v = true) (hlen : kf < fs.length) (hw : ws.set q0 (a, .inr (ci, fs.set kf v)) = ws2) (kk : Z D k cs ws2 (pc + 3) lv st) : Z D k cs ws pc lv (v :: .ref a :: st) := by
  obtain ⟨p, l, e, R, s, m, args, below, meth, c, nL, A, Q⟩ := k
  obtain ⟨hx, hb, hml, hnl, hown, hts, hK, hA, hnm, hR, hl0⟩ := X
  intro H locs ls hP hD hS hl9
  subst hw
  exact va_put hx hb hts hin ty0 hty hnm9 hown hK.1 hP hD hS q0 he hc kf hk (hts _ hl) (fun _ h9 => hs ▸ h9) hfin (hty kf hk) hn hfit hlen hd (fun H1 locs1 hP1 hD1 hS1 => kk H1 locs1 ls hP1 hD1 hS1 hl9)
theorem z_putF (X : zX D t k b n own nm rm l0) {C ref : String} {T : u_T} {N ci a index : Nat} {ty0 : Nat → FieldType} {fs : List Value} {v : Value} (q0 kf : Nat) (ws2 : va_W) (hin : ∀ w ∈ u_ws C T N, w ∈ TB) (hty : ∀ k, k < N → parseFieldDescriptor (T k).2.2.1 = some (ty0 k)) (hnm9 : ∀ a, a < N → ∀ b, b < N → a ≠ b → (T a).2.1 ≠ (T b).2.1) (hl : Cond.fieldLink own index ref (T kf).2.1 (T kf).2.2.1 ∈ TB) (hd : decode b pc = .ok (.putfield index, 3)) (he : ws[q0]? = some (a, .inr (ci, fs))) (hc : vwCl[ci]? = some (C, T, N)) (hk : kf < N) (hs : (T kf).1 = ref) (hfin : (T kf).2.2.2 = true) (hi2 : nm = "<init>") (hdc : (T kf).1 = own) (hn : narrow (ty0 kf) v = v) (hfit : fits (ty0 kf) v = true) (hlen : kf < fs.length) (hw : ws.set q0 (a, .inr (ci, fs.set kf v)) = ws2) (kk : Z D k cs ws2 (pc + 3) lv st) : Z D k cs ws pc lv (v :: .ref a :: st) := by
  obtain ⟨p, l, e, R, s, m, args, below, meth, c, nL, A, Q⟩ := k
  obtain ⟨hx, hb, hml, hnl, hown, hts, hK, hA, hnm, hR, hl0⟩ := X
  intro H locs ls hP hD hS hl9
  subst hw
  exact va_putF hx hb hts hin ty0 hty hnm9 hown hK.1 hP hD hS q0 he hc kf hk (hts _ hl) (fun _ h9 => hs ▸ h9) hfin (hnm.trans hi2) hdc (hty kf hk) hn hfit hlen hd (fun H1 locs1 hP1 hD1 hS1 => kk H1 locs1 ls hP1 hD1 hS1 hl9)
theorem z_iald (X : zX D t k b n own nm rm l0) {a N : Nat} {f : Nat → Int32} {i : Int32} (q0 : Nat) (j : Nat) (v : Int32) (hd : decode b pc = .ok (.iaload, 1)) (he : ws[q0]? = some (a, .inl (t.1, N, .inl f))) (hj : i = nI j) (hN : N < 2 ^ 31) (hlt : j < N) (hv : f j = v) (kk : Z D k cs ws (pc + 1) lv (.int v :: st)) : Z D k cs ws pc lv (.int i :: .ref a :: st) := by
  obtain ⟨p, l, e, R, s, m, args, below, meth, c, nL, A, Q⟩ := k
  obtain ⟨hx, hb, hml, hnl, hown, hts, hK, hA, hnm, hR, hl0⟩ := X
  intro H locs ls hP hD hS hl9
  subst hj
  refine va_iald hx hb hK.1 hP q0 0 he rfl (vp_in_nI hlt hN) hd ?_
  rw [nI_clamp (Nat.lt_trans hlt hN), hv]
  exact kk H locs ls hP hD hS hl9
theorem z_cald (X : zX D t k b n own nm rm l0) {a N : Nat} {f : Nat → Int32} {i : Int32} (q0 : Nat) (j : Nat) (v : Int32) (hd : decode b pc = .ok (.caload, 1)) (he : ws[q0]? = some (a, .inl (t.2.2.1, N, .inl f))) (hj : i = nI j) (hN : N < 2 ^ 31) (hlt : j < N) (hv : f j = v) (kk : Z D k cs ws (pc + 1) lv (.int v :: st)) : Z D k cs ws pc lv (.int i :: .ref a :: st) := by
  obtain ⟨p, l, e, R, s, m, args, below, meth, c, nL, A, Q⟩ := k
  obtain ⟨hx, hb, hml, hnl, hown, hts, hK, hA, hnm, hR, hl0⟩ := X
  intro H locs ls hP hD hS hl9
  subst hj
  refine va_cald hx hb hK.1 hP q0 2 he rfl (vp_in_nI hlt hN) hd ?_
  rw [nI_clamp (Nat.lt_trans hlt hN), hv]
  exact kk H locs ls hP hD hS hl9
theorem z_lald (X : zX D t k b n own nm rm l0) {a N : Nat} {f : Nat → Int64} {i : Int32} (q0 : Nat) (j : Nat) (v : Int64) (hd : decode b pc = .ok (.laload, 1)) (he : ws[q0]? = some (a, .inl (t.2.1, N, .inr (.inl f)))) (hj : i = nI j) (hN : N < 2 ^ 31) (hlt : j < N) (hv : f j = v) (kk : Z D k cs ws (pc + 1) lv (.long v :: st)) : Z D k cs ws pc lv (.int i :: .ref a :: st) := by
  obtain ⟨p, l, e, R, s, m, args, below, meth, c, nL, A, Q⟩ := k
  obtain ⟨hx, hb, hml, hnl, hown, hts, hK, hA, hnm, hR, hl0⟩ := X
  intro H locs ls hP hD hS hl9
  subst hj
  refine va_lald hx hb hK.1 hP q0 1 he rfl (vp_in_nI hlt hN) hd ?_
  rw [nI_clamp (Nat.lt_trans hlt hN), hv]
  exact kk H locs ls hP hD hS hl9
theorem z_aald (X : zX D t k b n own nm rm l0) {a N : Nat} {f : Nat → Option Nat} {i : Int32} (q0 : Nat) (j : Nat) (v : Nat) (hd : decode b pc = .ok (.aaload, 1)) (he : ws[q0]? = some (a, .inl (t.2.2.2, N, .inr (.inr (.inr (.inr f)))))) (hj : i = nI j) (hN : N < 2 ^ 31) (hlt : j < N) (hv : f j = some v) (kk : Z D k cs ws (pc + 1) lv (.ref v :: st)) : Z D k cs ws pc lv (.int i :: .ref a :: st) := by
  obtain ⟨p, l, e, R, s, m, args, below, meth, c, nL, A, Q⟩ := k
  obtain ⟨hx, hb, hml, hnl, hown, hts, hK, hA, hnm, hR, hl0⟩ := X
  intro H locs ls hP hD hS hl9
  subst hj
  refine va_aldq hx hb hK.1 hP q0 3 he rfl (vp_in_nI hlt hN) hd ?_
  rw [nI_clamp (Nat.lt_trans hlt hN), hv]
  exact kk H locs ls hP hD hS hl9
theorem z_iast (X : zX D t k b n own nm rm l0) {a N : Nat} {f : Nat → Int32} {i : Int32} {x : Int32} (q0 : Nat) (j : Nat) (g : Nat → Int32) (ws2 : va_W) (hd : decode b pc = .ok (.iastore, 1)) (he : ws[q0]? = some (a, .inl (t.1, N, .inl f))) (hj : i = nI j) (hN : N < 2 ^ 31) (hlt : j < N) (hg : upd f j x = g) (hw : ws.set q0 (a, .inl (t.1, N, .inl g)) = ws2) (kk : Z D k cs ws2 (pc + 1) lv st) : Z D k cs ws pc lv (.int x :: .int i :: .ref a :: st) := by
  obtain ⟨p, l, e, R, s, m, args, below, meth, c, nL, A, Q⟩ := k
  obtain ⟨hx, hb, hml, hnl, hown, hts, hK, hA, hnm, hR, hl0⟩ := X
  intro H locs ls hP hD hS hl9
  subst hj
  subst hw
  refine va_iast hx hb hK.1 hP hD hS q0 0 he rfl (vp_in_nI hlt hN) hd ?_
  rw [nI_clamp (Nat.lt_trans hlt hN), hg]
  exact fun H1 locs1 hP1 hD1 hS1 => kk H1 locs1 ls hP1 hD1 hS1 hl9
theorem z_cast (X : zX D t k b n own nm rm l0) {a N : Nat} {f : Nat → Int32} {i : Int32} {x : Int32} (q0 : Nat) (j : Nat) (g : Nat → Int32) (ws2 : va_W) (hd : decode b pc = .ok (.castore, 1)) (he : ws[q0]? = some (a, .inl (t.2.2.1, N, .inl f))) (hj : i = nI j) (hN : N < 2 ^ 31) (hlt : j < N) (hg : upd f j (vp_nar .char x) = g) (hw : ws.set q0 (a, .inl (t.2.2.1, N, .inl g)) = ws2) (kk : Z D k cs ws2 (pc + 1) lv st) : Z D k cs ws pc lv (.int x :: .int i :: .ref a :: st) := by
  obtain ⟨p, l, e, R, s, m, args, below, meth, c, nL, A, Q⟩ := k
  obtain ⟨hx, hb, hml, hnl, hown, hts, hK, hA, hnm, hR, hl0⟩ := X
  intro H locs ls hP hD hS hl9
  subst hj
  subst hw
  refine va_cast hx hb hK.1 hP hD hS q0 2 he rfl (vp_in_nI hlt hN) hd ?_
  rw [nI_clamp (Nat.lt_trans hlt hN), hg]
  exact fun H1 locs1 hP1 hD1 hS1 => kk H1 locs1 ls hP1 hD1 hS1 hl9
theorem z_last (X : zX D t k b n own nm rm l0) {a N : Nat} {f : Nat → Int64} {i : Int32} {x : Int64} (q0 : Nat) (j : Nat) (g : Nat → Int64) (ws2 : va_W) (hd : decode b pc = .ok (.lastore, 1)) (he : ws[q0]? = some (a, .inl (t.2.1, N, .inr (.inl f)))) (hj : i = nI j) (hN : N < 2 ^ 31) (hlt : j < N) (hg : vp_updL f j x = g) (hw : ws.set q0 (a, .inl (t.2.1, N, .inr (.inl g))) = ws2) (kk : Z D k cs ws2 (pc + 1) lv st) : Z D k cs ws pc lv (.long x :: .int i :: .ref a :: st) := by
  obtain ⟨p, l, e, R, s, m, args, below, meth, c, nL, A, Q⟩ := k
  obtain ⟨hx, hb, hml, hnl, hown, hts, hK, hA, hnm, hR, hl0⟩ := X
  intro H locs ls hP hD hS hl9
  subst hj
  subst hw
  refine va_last hx hb hK.1 hP hD hS q0 1 he rfl (vp_in_nI hlt hN) hd ?_
  rw [nI_clamp (Nat.lt_trans hlt hN), hg]
  exact fun H1 locs1 hP1 hD1 hS1 => kk H1 locs1 ls hP1 hD1 hS1 hl9
theorem z_alen_i (X : zX D t k b n own nm rm l0) {a N : Nat} {f : Nat → Int32} (q0 : Nat) (hd : decode b pc = .ok (.arraylength, 1)) (he : ws[q0]? = some (a, .inl (t.1, N, .inl f))) (kk : Z D k cs ws (pc + 1) lv (.int (nI N) :: st)) : Z D k cs ws pc lv (.ref a :: st) := by
  obtain ⟨p, l, e, R, s, m, args, below, meth, c, nL, A, Q⟩ := k
  obtain ⟨hx, hb, hml, hnl, hown, hts, hK, hA, hnm, hR, hl0⟩ := X
  intro H locs ls hP hD hS hl9
  exact va_alen hx hb hK.1 hP q0 0 he (ty := .int) rfl rfl hd (kk H locs ls hP hD hS hl9)
theorem z_alen_c (X : zX D t k b n own nm rm l0) {a N : Nat} {f : Nat → Int32} (q0 : Nat) (hd : decode b pc = .ok (.arraylength, 1)) (he : ws[q0]? = some (a, .inl (t.2.2.1, N, .inl f))) (kk : Z D k cs ws (pc + 1) lv (.int (nI N) :: st)) : Z D k cs ws pc lv (.ref a :: st) := by
  obtain ⟨p, l, e, R, s, m, args, below, meth, c, nL, A, Q⟩ := k
  obtain ⟨hx, hb, hml, hnl, hown, hts, hK, hA, hnm, hR, hl0⟩ := X
  intro H locs ls hP hD hS hl9
  exact va_alen hx hb hK.1 hP q0 2 he (ty := .char) rfl rfl hd (kk H locs ls hP hD hS hl9)
theorem z_alen_l (X : zX D t k b n own nm rm l0) {a N : Nat} {f : Nat → Int64} (q0 : Nat) (hd : decode b pc = .ok (.arraylength, 1)) (he : ws[q0]? = some (a, .inl (t.2.1, N, .inr (.inl f)))) (kk : Z D k cs ws (pc + 1) lv (.int (nI N) :: st)) : Z D k cs ws pc lv (.ref a :: st) := by
  obtain ⟨p, l, e, R, s, m, args, below, meth, c, nL, A, Q⟩ := k
  obtain ⟨hx, hb, hml, hnl, hown, hts, hK, hA, hnm, hR, hl0⟩ := X
  intro H locs ls hP hD hS hl9
  exact va_alen hx hb hK.1 hP q0 1 he (ty := .long) rfl rfl hd (kk H locs ls hP hD hS hl9)
theorem z_alen_q (X : zX D t k b n own nm rm l0) {a N : Nat} {f : Nat → Option Nat} (q0 : Nat) (hd : decode b pc = .ok (.arraylength, 1)) (he : ws[q0]? = some (a, .inl (t.2.2.2, N, .inr (.inr (.inr (.inr f)))))) (kk : Z D k cs ws (pc + 1) lv (.int (nI N) :: st)) : Z D k cs ws pc lv (.ref a :: st) := by
  obtain ⟨p, l, e, R, s, m, args, below, meth, c, nL, A, Q⟩ := k
  obtain ⟨hx, hb, hml, hnl, hown, hts, hK, hA, hnm, hR, hl0⟩ := X
  intro H locs ls hP hD hS hl9
  exact va_alen hx hb hK.1 hP q0 3 he (ty := (.object "EitherPocket$Coat")) rfl rfl hd (kk H locs ls hP hD hS hl9)
theorem z_topi {x : Int32} (v : Int32) (h : x = v) (kk : Z D k cs ws pc lv (.int v :: st)) : Z D k cs ws pc lv (.int x :: st) := h ▸ kk
theorem z_topl {x : Int64} (v : Int64) (h : x = v) (kk : Z D k cs ws pc lv (.long v :: st)) : Z D k cs ws pc lv (.long x :: st) := h ▸ kk
theorem z_eq {ws2 : va_W} {lv2 : List (Nat × Value)} {st2 : List Value} (h1 : ws = ws2) (h2 : lv = lv2) (h3 : st = st2) (kk : Z D k cs ws2 pc lv2 st2) : Z D k cs ws pc lv st := by subst h1; subst h2; subst h3; exact kk
theorem z_lv (ks : List Nat) {lv2 : List (Nat × Value)} (h : lv_pick lv ks = lv2) (kk : Z D k cs ws pc lv2 st) : Z D k cs ws pc lv st := by
  obtain ⟨p, l, e, R, s, m, args, below, meth, c, nL, A, Q⟩ := k
  intro H locs ls hP hD hS hl
  exact kk H locs ls hP hD hS (lv_sub hl ks h)
theorem z_widen {cs2 : Nat × Nat} (h1 : cs.1 ≤ cs2.1) (h2 : cs.2 ≤ cs2.2) (kk : Z D k cs2 ws pc lv st) : Z D k cs ws pc lv st := by
  obtain ⟨p, l, e, R, s, m, args, below, meth, c, nL, A, Q⟩ := k
  intro H locs ls hP hD hS hl
  exact W.widen h1 h2 (kk H locs ls hP hD hS hl)
theorem z_objInit (X : zX D t k b n own nm rm l0) {idx a : Nat} (hw : Cond.methodLink own idx Lib.objectInit ∈ TB) (hd : decode b pc = .ok (.invokespecial idx, 3)) (hf : 1 ≤ rm.frames) (hlc : (st.map fun v => v.category).sum + 12 ≤ rm.locals) (kk : Z D k cs ws (pc + 3) lv st) : Z D k cs ws pc lv (.ref a :: st) := by
  obtain ⟨p, l, e, R, s, m, args, below, meth, c, nL, A, Q⟩ := k
  obtain ⟨hx, hb, hml, hnl, hown, hts, hK, hA, hnm, hR, hl0⟩ := X
  intro H locs ls hP hD hS hl9
  subst hR
  refine W.objInit hx hb hown (hts _ hw) (hts _ tw_14) (hts _ tw_15) rfl (by rw [hml, ← hnl]; exact hl9.1) rfl hd hf (by show 2 * 0 + _ + 12 ≤ _; omega) ?_
  exact W.eq (g2 := F0 m (pc + 3) ls st) rfl (kk H locs ls hP hD hS hl9)
end ZL
/-- A CONTRACT: from the world ws with arguments as, the method y answers v and leaves the world w with 'post v w'; mc new cells of ms slots -/
def Ct (l : Launch) (D : va_G) (t : zT) (y : MethodName) (b : ByteArray) (nL : Nat) (ret : Option FieldType) (rm : Room) (as : List Value) (ws : va_W) (mc ms : Nat) (post : Option Value → va_W → Prop) : Prop :=
  ∀ sz : Nat, Met l y (.code y b nL ret :: TB) rm (va_Pc as (fun U => U.heap.size = sz ∧ va_P D vwCl ws U.heap ∧ KK D t U ∧ va_D (fun _ => True) ws))
    (fun _ s0 oc u => (∃ (v : Option Value) (w : va_W), oc = .returned v ∧ post v w ∧ va_P D vwCl w u.heap ∧ va_D (va_A ws sz) w) ∧ va_F (va_A ws sz) s0 u) mc ms (va_A ws sz)
/-- the ways back -/
def zR (D : va_G) (k : zK) (b : ByteArray) (ret : Option FieldType) (mc ms : Nat) (post : Option Value → va_W → Prop) : Prop :=
  (∀ (v : Int32) (w : va_W) (pc : Nat) (lv : List (Nat × Value)), decode b pc = .ok (.ireturn, 1) → (∃ ty, ret = some ty ∧ narrow ty (.int v) = .int v) → post (some (.int v)) w → Z D k (mc, ms) w pc lv [.int v]) ∧
  (∀ (v : Int64) (w : va_W) (pc : Nat) (lv : List (Nat × Value)), decode b pc = .ok (.lreturn, 1) → ret = some .long → post (some (.long v)) w → Z D k (mc, ms) w pc lv [.long v]) ∧
  (∀ (w : va_W) (pc : Nat) (lv : List (Nat × Value)), decode b pc = .ok (.return_, 1) → ret = none → post none w → Z D k (mc, ms) w pc lv [])
theorem zR.i {D : va_G} {k : zK} {b : ByteArray} {mc ms : Nat} {post : Option Value → va_W → Prop} (h : zR D k b (some .int) mc ms post) {v : Int32} {w : va_W} {pc : Nat} {lv : List (Nat × Value)} (hd : decode b pc = .ok (.ireturn, 1)) (hp : post (some (.int v)) w) : Z D k (mc, ms) w pc lv [.int v] := h.1 v w pc lv hd ⟨_, rfl, rfl⟩ hp
theorem zR.z {D : va_G} {k : zK} {b : ByteArray} {mc ms : Nat} {ty : FieldType} {post : Option Value → va_W → Prop} (h : zR D k b (some ty) mc ms post) {v : Int32} {w : va_W} {pc : Nat} {lv : List (Nat × Value)} (hd : decode b pc = .ok (.ireturn, 1)) (hn : narrow ty (.int v) = .int v) (hp : post (some (.int v)) w) : Z D k (mc, ms) w pc lv [.int v] := h.1 v w pc lv hd ⟨_, rfl, hn⟩ hp
theorem zR.l {D : va_G} {k : zK} {b : ByteArray} {mc ms : Nat} {post : Option Value → va_W → Prop} (h : zR D k b (some .long) mc ms post) {v : Int64} {w : va_W} {pc : Nat} {lv : List (Nat × Value)} (hd : decode b pc = .ok (.lreturn, 1)) (hp : post (some (.long v)) w) : Z D k (mc, ms) w pc lv [.long v] := h.2.1 v w pc lv hd rfl hp
theorem zR.v {D : va_G} {k : zK} {b : ByteArray} {mc ms : Nat} {post : Option Value → va_W → Prop} (h : zR D k b none mc ms post) {w : va_W} {pc : Nat} {lv : List (Nat × Value)} (hd : decode b pc = .ok (.return_, 1)) (hp : post none w) : Z D k (mc, ms) w pc lv [] := h.2.2 w pc lv hd rfl hp
theorem Ct.of {l : Launch} {D : va_G} {t : zT} {y : MethodName} {b : ByteArray} {nL : Nat} {ret : Option FieldType} {rm : Room} {as : List Value} {ws : va_W} {mc ms : Nat} {post : Option Value → va_W → Prop} (hy : plainName y.cls = true) (hlen : (lg_sl as).length ≤ nL)
    (body : ∀ k : zK, zX D t k b nL y.cls y.name rm l → zR D k b ret mc ms post → Z D k (0, 0) ws 0 (lv_args 0 as) []) : Ct l D t y b nL ret rm as ws mc ms post := by
  intro sz
  refine Met.ofW (cc := b) (maxL := nL) (ret := ret) hy rfl ?_
  intro p e s m args below meth c s₁ B hml hv
  obtain ⟨rfl, hsz, hP, hK, hD0⟩ := hv
  have hts := atoms_spec (ws := .code y b nL ret :: TB) B.pre
  subst hsz
  have hD := hD0.self (sz := s.heap.size)
  have hr := B.returns
  have hlocks := B.notSynchronized
  have hx := B.exec
  have hb := B.bytes
  have hl := lv_entry as (n := nL) hlen
  rw [lg_entry_eq]
  have KEY := body (p, l, e, (headSpec (.code y b nL ret :: TB) rm).room, s, m, as.toArray, below, meth, c, nL, va_A ws s.heap.size, MQ below (fun _ s0 oc u => (∃ (v : Option Value) (w : va_W), oc = .returned v ∧ post v w ∧ va_P D vwCl w u.heap ∧ va_D (va_A ws s.heap.size) w) ∧ va_F (va_A ws s.heap.size) s0 u) as.toArray s mc ms (va_A ws s.heap.size))
    ⟨B.exec, B.bytes, hml, rfl, findClass_of_methodNamed B.named, fun w hw => hts w (List.mem_cons_of_mem _ hw), hK, fun q h => Or.inr h, (name_of_methodNamed B.named B.method).1, rfl, rfl⟩ ?_
  · exact KEY s.heap [] _ hP hD va_S.rf hl
  · refine ⟨?_, ?_, ?_⟩
    · intro v w pc lv hd hty hp H locs ls hP hD hS hl
      obtain ⟨ty, ht, hn⟩ := hty
      exact W.zret (ty := ty) hx hb (hr.trans ht) hn (fun u hu _ => ⟨⟨_, w, rfl, hp, by rw [hu]; exact hP, hD⟩, hS.F hu⟩) hS.2.2 hd
    · intro v w pc lv hd ht hp H locs ls hP hD hS hl
      exact W.lret hx hb (hr.trans ht) (fun u hu _ => ⟨⟨_, w, rfl, hp, by rw [hu]; exact hP, hD⟩, hS.F hu⟩) hS.2.2 hd
    · intro w pc lv hd ht hp H locs ls hP hD hS hl
      exact W.vret hx hb (hr.trans ht) (fun u hu _ => ⟨⟨_, w, rfl, hp, by rw [hu]; exact hP, hD⟩, hS.F hu⟩) hS.2.2 hd
theorem Ct.mono {l : Launch} {D : va_G} {t : zT} {y : MethodName} {b : ByteArray} {nL : Nat} {ret : Option FieldType} {rm : Room} {as : List Value} {ws : va_W} {mc ms : Nat} {post post2 : Option Value → va_W → Prop} (h : Ct l D t y b nL ret rm as ws mc ms post) (hp : ∀ v w, post v w → post2 v w) : Ct l D t y b nL ret rm as ws mc ms post2 := by
  intro sz p e ha hc hk s m args below hf happ hpc htr
  obtain ⟨q, o, h1, h2, h3, ⟨⟨v, w, h4, h5, h6⟩, h7⟩, h8⟩ := h sz p e ha hc hk s m args below hf happ hpc htr
  exact ⟨q, o, h1, h2, h3, ⟨⟨v, w, h4, hp v w h5, h6⟩, h7⟩, h8⟩
/-- cells put back at their places -/
def zput : va_W → List Nat → va_W → va_W
  | ws, i :: is, c :: w => (zput ws is w).set i c
  | ws, _, _ => ws
theorem zput_len : ∀ (is : List Nat) (w : va_W) (ws : va_W), (zput ws is w).length = ws.length
  | [], _, _ => by simp [zput]
  | _ :: _, [], _ => by simp [zput]
  | i :: is, c :: w, ws => by
    show ((zput ws is w).set i c).length = _
    rw [List.length_set, zput_len is w ws]
theorem zput_at : ∀ (is : List Nat) (w ws : va_W), is.length = w.length → va_nd is = true → (∀ i ∈ is, i < ws.length) → ∀ (q : Nat) (c : Nat × va_E), (zput ws is w)[q]? = some c → (∃ j : Nat, is[j]? = some q ∧ w[j]? = some c) ∨ (q ∉ is ∧ ws[q]? = some c)
  | [], _, _, _, _, _, q, c, h => Or.inr ⟨List.not_mem_nil, by simpa [zput] using h⟩
  | _ :: _, [], _, hl, _, _, _, _, _ => by simp at hl
  | i :: is, c0 :: w, ws, hl, hn, hb, q, c, h => by
    simp only [va_nd, Bool.and_eq_true, decide_eq_true_eq] at hn
    have h : ((zput ws is w).set i c0)[q]? = some c := h
    by_cases hqi : q = i
    · subst hqi
      rw [List.getElem?_set_self (by rw [zput_len]; exact hb q List.mem_cons_self)] at h
      exact Or.inl ⟨0, rfl, h⟩
    · rw [List.getElem?_set_ne (Ne.symm hqi)] at h
      rcases zput_at is w ws (by simpa using hl) hn.2 (fun x hx => hb x (List.mem_cons_of_mem _ hx)) q c h with ⟨j, h1, h2⟩ | ⟨h1, h2⟩
      · exact Or.inl ⟨j + 1, h1, h2⟩
      · exact Or.inr ⟨fun z => by rcases List.mem_cons.mp z with z | z; exact hqi z; exact h1 z, h2⟩
/-- behind a call: the caller's world with the callee's cells at their places -/
theorem zjoin {A0 : Nat → Prop} {D : va_G} {cl : List vw_C} {ws wc w1 : va_W} {H H1 : Heap} (hP : va_P D cl ws H) (hD : va_D A0 ws) (is : List Nat) (hC : is.map (fun i => ws[i]?) = wc.map some) (hn : va_nd is = true) (hlen : is.length = w1.length)
    (hk : ∀ q : Nat, q < H.size → ¬ va_A wc H.size q → H1[q]? = H[q]?) (hF : ∀ q, va_A wc H.size q → A0 q) (hP1 : va_P D cl w1 H1) (hD1 : va_D (va_A wc H.size) w1) : va_P D cl (zput ws is w1) H1 ∧ va_D A0 (zput ws is w1) := by
  have hb : ∀ i ∈ is, i < ws.length := by
    intro i hi
    obtain ⟨j, hj⟩ := List.getElem?_of_mem hi
    have h1 : (is.map (fun i => ws[i]?))[j]? = some (ws[i]?) := by rw [List.getElem?_map, hj]; rfl
    rw [hC, List.getElem?_map] at h1
    cases hw : wc[j]? with
    | none => rw [hw] at h1; cases h1
    | some c => rw [hw] at h1; exact (List.getElem?_eq_some_iff.mp (Option.some.inj h1).symm).1
  have apart : ∀ (q : Nat) (c : Nat × va_E), q ∉ is → ws[q]? = some c → c.1 < H.size ∧ ¬ va_A wc H.size c.1 := by
    intro q c hq hc
    have hl := (hP q c hc).lt
    refine ⟨hl, fun h => ?_⟩
    rcases h with ⟨k2, e, h⟩ | h
    · have h1 : (is.map (fun i => ws[i]?))[k2]? = some (some (c.1, e)) := by rw [hC, List.getElem?_map, h]; rfl
      rw [List.getElem?_map] at h1
      cases hi : is[k2]? with
      | none => rw [hi] at h1; cases h1
      | some i =>
        rw [hi] at h1
        have hij := hD.1 q i c (c.1, e) hc (Option.some.inj h1) rfl
        subst hij
        exact hq (List.mem_of_getElem? hi)
    · omega
  refine ⟨fun q c h => ?_, ⟨fun i j x y hi hj hxy => ?_, fun q c h => ?_⟩⟩
  · rcases zput_at is w1 ws hlen hn hb q c h with ⟨j, h1, h2⟩ | ⟨h1, h2⟩
    · exact hP1 j c h2
    · obtain ⟨g1, g2⟩ := apart q c h1 h2
      exact (hP q c h2).kept (hk c.1 g1 g2)
  · rcases zput_at is w1 ws hlen hn hb i x hi with ⟨a, a1, a2⟩ | ⟨a1, a2⟩ <;> rcases zput_at is w1 ws hlen hn hb j y hj with ⟨c, c1, c2⟩ | ⟨c1, c2⟩
    · have hac := hD1.1 a c x y a2 c2 hxy
      subst hac
      exact Option.some.inj (a1.symm.trans c1)
    · exact absurd (by rw [← hxy]; exact hD1.2 a x a2) (apart j y c1 c2).2
    · exact absurd (by rw [hxy]; exact hD1.2 c y c2) (apart i x a1 a2).2
    · exact hD.1 i j x y a2 c2 hxy
  · rcases zput_at is w1 ws hlen hn hb q c h with ⟨j, h1, h2⟩ | ⟨h1, h2⟩
    · exact hF _ (hD1.2 j c h2)
    · exact hD.2 q c h2
theorem zgood {y : MethodName} {b : ByteArray} {nL : Nat} {ret : Option FieldType} (h : Cond.code y b nL ret ∈ TB) : GoodIn TB (.code y b nL ret :: TB) := fun w hw => by
  rcases List.mem_cons.mp hw with rfl | hw
  · exact ⟨h, TB_good _ h⟩
  · exact ⟨hw, TB_good w hw⟩
def zdesc (y : MethodName) (na : Nat) : Bool := decide (y.cls ≠ "java/lang/invoke/MethodHandle") && (decide (y.cls ≠ "java/lang/invoke/VarHandle") && decide ((parseMethodDescriptor y.desc).map (fun d => d.parameters.length) = some na))
theorem zdesc_spec {y : MethodName} {na : Nat} (h : zdesc y na = true) : y.cls ≠ "java/lang/invoke/MethodHandle" ∧ y.cls ≠ "java/lang/invoke/VarHandle" ∧ (parseMethodDescriptor y.desc).map (fun d => d.parameters.length) = some na := by
  simp only [zdesc, Bool.and_eq_true, decide_eq_true_eq] at h
  exact h
section ZC
variable {D : va_G} {t : zT} {k : zK} {b : ByteArray} {n : Nat} {own nm : String} {rm : Room} {l0 : Launch} {cs : Nat × Nat} {ws : va_W} {pc : Nat} {lv : List (Nat × Value)} {st : List Value}
variable {y : MethodName} {cb : ByteArray} {cn : Nat} {cret : Option FieldType} {crm : Room} {as : List Value} {wc : va_W} {mc ms : Nat} {post : Option Value → va_W → Prop}
theorem zblind {as : List Value} {sz : Nat} {wc : va_W} : FrameBlind (va_Pc as (fun U => U.heap.size = sz ∧ va_P D vwCl wc U.heap ∧ KK D t U ∧ va_D (fun _ => True) wc)) := fun _ _ _ _ q => by
  obtain ⟨q0, q1, q2, q3, q4⟩ := q
  exact ⟨q0, q1, q2, q3.calling, q4⟩

/-- behind any call: what came back -/
theorem zafter {p : Program} {l : Launch} {e : Env} {R : Room} {s : State} {m : MethodId} {args : Array Value} {below : List Frame} {meth : Method} {c : Code} {H : Heap} {locs : List Loc} {cells slots : Nat} {Q : State → Prop} {A0 : Nat → Prop} {H0 : Heap} {free : Addr → Prop} {ls : Array Slot} {st0 : List Value} {A1 : Nat → Prop}
    (hr : va_Run p l e R s m args below meth c H locs cells slots mc ms (F0 m pc ls st0) st (fun s0 oc u => (∃ (v : Option Value) (w : va_W), oc = .returned v ∧ post v w ∧ va_P D vwCl w u.heap ∧ va_D A1 w) ∧ va_F A1 s0 u) free) (hS : va_S A0 H0 H locs) (hA : ∀ q, A1 q → A0 q) (hf : ∀ q, free q → A0 q)
    (kk : ∀ (v : Option Value) (w : va_W) (H1 : Heap) (locs1 : List Loc), post v w → va_P D vwCl w H1 → va_D A1 w → H.size ≤ H1.size → (∀ q : Nat, q < H.size → ¬ A1 q → H1[q]? = H[q]?) → va_S A0 H0 H1 locs1 → W p l e R s m args below meth c H1 locs1 (cells + mc) (slots + ms) Q (F0 m (pc + 3) ls (v.toList ++ st))) : W p l e R s m args below meth c H locs cells slots Q (F0 m pc ls st0) := by
  intro T hT X
  obtain ⟨v, st₀, u, T', L, h0, X', hL, e1, e2, ⟨⟨v2, w, hv, hp, hP1, hD1⟩, hz, hk⟩, stp⟩ := hr T hT X
  cases hv
  rw [h0] at hz hk
  obtain ⟨t2, a1, b1⟩ := kk v w T'.heap (locs ++ L) hp (by rw [e1]; exact hP1) hD1 (by rw [e1]; exact hz) (fun q h1 h2 => by rw [e1]; exact hk q h1 h2)
    ⟨Nat.le_trans hS.1 (by rw [e1]; exact hz), fun q h1 h2 => by rw [e1, hk q (Nat.lt_of_lt_of_le h1 hS.1) (fun z => h2 (hA q z))]; exact hS.2.1 q h1 h2, fun q hq => by
      rcases List.mem_append.mp hq with h | h
      · exact hS.2.2 q h
      · exact hf _ (hL q h)⟩ T' rfl X'
  exact ⟨t2, stp t2 a1, b1⟩

theorem zc_V (X : zX D t k b n own nm rm l0) {idx : Nat} {a : Nat} {st0 : List Value} (hC : Ct l0 D t y cb cn cret crm (.ref a :: as) wc mc ms post) (hl : Cond.methodLink own idx y ∈ TB) (hcode : Cond.code y cb cn cret ∈ TB) (hini : Cond.initialized y.cls ∈ TB) (him : Cond.instanceMethod y ∈ TB) (hsel : Cond.selects y.cls y y ∈ TB) (q9 ci9 : Nat) {T9 : u_T} {N9 : Nat} {fs9 : List Value} (hc9 : vwCl[ci9]? = some (y.cls, T9, N9)) (he9 : wc[q9]? = some (a, .inr (ci9, fs9))) (is : List Nat) (hC2 : is.map (fun i => ws[i]?) = wc.map some) (hnd : va_nd is = true) (hd : decode b pc = .ok (.invokevirtual idx, 3)) (hstk : st0 = as.reverse ++ .ref a :: st) (hdesc : zdesc y as.length = true) (hrm : crm.cells = mc ∧ crm.slots = ms ∧ crm.frames + 1 ≤ rm.frames ∧ 8 + (cn + 11) + crm.locals ≤ rm.locals) (hroom : (st.map fun v => v.category).sum ≤ 8) (hcs1 : cs.1 + mc ≤ rm.cells) (hcs2 : cs.2 + ms ≤ rm.slots) (kk : ∀ (v : Option Value) (w : va_W), post v w → is.length = w.length ∧ Z D k (cs.1 + mc, cs.2 + ms) (zput ws is w) (pc + 3) lv (v.toList ++ st)) : Z D k cs ws pc lv st0 := by
  obtain ⟨p, l, e, R, s, m, args, below, meth, c, nL, A, Q⟩ := k
  obtain ⟨hx, hb, hml, hnl, hown, hts, hK, hA, hnm, hR, hl0⟩ := X
  intro H locs ls hP hD hS hl9
  subst hl0
  subst hR
  have hPc := hP.sub (ws' := wc) is (by
    have h := congrArg (fun z => z.filterMap id) hC2
    simpa [List.filterMap_map, Function.comp_def] using h)
  have hDc := hD.sub is hnd hC2
  have hFc := va_free hD hS hA is hC2
  refine zafter (va_runV (As := as) (rest := st) ⟨hx, hb, hml, hown, hts⟩ (hC H.size) ⟨callB_of as.length hts (zgood hcode) rfl hrm.1 hrm.2.1 (hts _ hini) (hts _ hl) (zdesc_spec hdesc) ⟨hrm.2.2.1, hrm.2.2.2⟩, hts _ him, hts _ hsel⟩ ⟨zblind, va_recv hK.1 hPc hc9 he9, fun U hU hW => ⟨rfl, by rw [hU], by rw [hU]; exact hPc, hK.warm hW, hDc.weaken (fun _ _ _ _ => trivial)⟩⟩ rfl rfl (hl9.1.trans hnl) hstk (lv_room hroom) hd ⟨hcs1, hcs2⟩) hS hFc hFc (fun v w H1 locs1 hp hP1 hD1 hz hk hS1 => ?_)
  obtain ⟨hlen, kz⟩ := kk v w hp
  obtain ⟨hP2, hD2⟩ := zjoin hP hD is hC2 hnd hlen hk hFc hP1 hD1
  exact kz H1 locs1 ls hP2 hD2 hS1 hl9
theorem zc_VA (X : zX D t k b n own nm rm l0) {idx : Nat} {a : Nat} {st0 : List Value} (hC : Ct l0 D t y cb cn cret crm (.ref a :: as) wc mc ms post) (hl : Cond.methodLink own idx y ∈ TB) (hcode : Cond.code y cb cn cret ∈ TB) (hini : Cond.initialized y.cls ∈ TB) (him : Cond.instanceMethod y ∈ TB) (hsel : Cond.selects y.cls y y ∈ TB) (q9 ci9 : Nat) {T9 : u_T} {N9 : Nat} {fs9 : List Value} (hc9 : vwCl[ci9]? = some (y.cls, T9, N9)) (he9 : wc[q9]? = some (a, .inr (ci9, fs9))) (is ir : List Nat) (wr : va_W) (hC2 : is.map (fun i => ws[i]?) = wc.map some) (hR2 : ir.map (fun i => ws[i]?) = wr.map some) (hnd : va_nd is = true) (hnd2 : va_nd ir = true) (hdis : ∀ i ∈ ir, i ∉ is) (hd : decode b pc = .ok (.invokevirtual idx, 3)) (hstk : st0 = as.reverse ++ .ref a :: st) (hdesc : zdesc y as.length = true) (hrm : crm.cells = mc ∧ crm.slots = ms ∧ crm.frames + 1 ≤ rm.frames ∧ 8 + (cn + 11) + crm.locals ≤ rm.locals) (hroom : (st.map fun v => v.category).sum ≤ 8) (hcs1 : cs.1 + mc ≤ rm.cells) (hcs2 : cs.2 + ms ≤ rm.slots) (kk : ∀ (v : Option Value) (w : va_W), post v w → Z D k (cs.1 + mc, cs.2 + ms) (wr ++ w) (pc + 3) lv (v.toList ++ st)) : Z D k cs ws pc lv st0 := by
  obtain ⟨p, l, e, R, s, m, args, below, meth, c, nL, A, Q⟩ := k
  obtain ⟨hx, hb, hml, hnl, hown, hts, hK, hA, hnm, hR, hl0⟩ := X
  intro H locs ls hP hD hS hl9
  subst hl0
  subst hR
  have hPc := hP.sub (ws' := wc) is (by
    have h := congrArg (fun z => z.filterMap id) hC2
    simpa [List.filterMap_map, Function.comp_def] using h)
  have hDc := hD.sub is hnd hC2
  have hFc := va_free hD hS hA is hC2
  refine zafter (va_runV (As := as) (rest := st) ⟨hx, hb, hml, hown, hts⟩ (hC H.size) ⟨callB_of as.length hts (zgood hcode) rfl hrm.1 hrm.2.1 (hts _ hini) (hts _ hl) (zdesc_spec hdesc) ⟨hrm.2.2.1, hrm.2.2.2⟩, hts _ him, hts _ hsel⟩ ⟨zblind, va_recv hK.1 hPc hc9 he9, fun U hU hW => ⟨rfl, by rw [hU], by rw [hU]; exact hPc, hK.warm hW, hDc.weaken (fun _ _ _ _ => trivial)⟩⟩ rfl rfl (hl9.1.trans hnl) hstk (lv_room hroom) hd ⟨hcs1, hcs2⟩) hS hFc hFc (fun v w H1 locs1 hp hP1 hD1 hz hk hS1 => ?_)
  obtain ⟨hP2, hD2⟩ := va_join hP hD is ir hC2 hR2 hnd2 hdis hk hFc hP1 hD1
  exact kk v w hp H1 locs1 ls hP2 hD2 hS1 hl9
theorem zc_S (X : zX D t k b n own nm rm l0) {idx : Nat}  {st0 : List Value} (hC : Ct l0 D t y cb cn cret crm as wc mc ms post) (hl : Cond.methodLink own idx y ∈ TB) (hcode : Cond.code y cb cn cret ∈ TB) (hini : Cond.initialized y.cls ∈ TB) (hst : Cond.static y ∈ TB) (is : List Nat) (hC2 : is.map (fun i => ws[i]?) = wc.map some) (hnd : va_nd is = true) (hd : decode b pc = .ok (.invokestatic idx, 3)) (hstk : st0 = as.reverse ++ st) (hdesc : zdesc y as.length = true) (hrm : crm.cells = mc ∧ crm.slots = ms ∧ crm.frames + 1 ≤ rm.frames ∧ 8 + (cn + 11) + crm.locals ≤ rm.locals) (hroom : (st.map fun v => v.category).sum ≤ 8) (hcs1 : cs.1 + mc ≤ rm.cells) (hcs2 : cs.2 + ms ≤ rm.slots) (kk : ∀ (v : Option Value) (w : va_W), post v w → is.length = w.length ∧ Z D k (cs.1 + mc, cs.2 + ms) (zput ws is w) (pc + 3) lv (v.toList ++ st)) : Z D k cs ws pc lv st0 := by
  obtain ⟨p, l, e, R, s, m, args, below, meth, c, nL, A, Q⟩ := k
  obtain ⟨hx, hb, hml, hnl, hown, hts, hK, hA, hnm, hR, hl0⟩ := X
  intro H locs ls hP hD hS hl9
  subst hl0
  subst hR
  have hPc := hP.sub (ws' := wc) is (by
    have h := congrArg (fun z => z.filterMap id) hC2
    simpa [List.filterMap_map, Function.comp_def] using h)
  have hDc := hD.sub is hnd hC2
  have hFc := va_free hD hS hA is hC2
  refine zafter (va_runS (As := as) (rest := st) ⟨hx, hb, hml, hown, hts⟩ (hC H.size) ⟨callB_of as.length hts (zgood hcode) rfl hrm.1 hrm.2.1 (hts _ hini) (hts _ hl) (zdesc_spec hdesc) ⟨hrm.2.2.1, hrm.2.2.2⟩, hts _ hst⟩ ⟨zblind, fun U hU hW => ⟨rfl, by rw [hU], by rw [hU]; exact hPc, hK.warm hW, hDc.weaken (fun _ _ _ _ => trivial)⟩⟩ rfl rfl (hl9.1.trans hnl) hstk (lv_room hroom) hd ⟨hcs1, hcs2⟩) hS hFc hFc (fun v w H1 locs1 hp hP1 hD1 hz hk hS1 => ?_)
  obtain ⟨hlen, kz⟩ := kk v w hp
  obtain ⟨hP2, hD2⟩ := zjoin hP hD is hC2 hnd hlen hk hFc hP1 hD1
  exact kz H1 locs1 ls hP2 hD2 hS1 hl9
theorem zc_SA (X : zX D t k b n own nm rm l0) {idx : Nat}  {st0 : List Value} (hC : Ct l0 D t y cb cn cret crm as wc mc ms post) (hl : Cond.methodLink own idx y ∈ TB) (hcode : Cond.code y cb cn cret ∈ TB) (hini : Cond.initialized y.cls ∈ TB) (hst : Cond.static y ∈ TB) (is ir : List Nat) (wr : va_W) (hC2 : is.map (fun i => ws[i]?) = wc.map some) (hR2 : ir.map (fun i => ws[i]?) = wr.map some) (hnd : va_nd is = true) (hnd2 : va_nd ir = true) (hdis : ∀ i ∈ ir, i ∉ is) (hd : decode b pc = .ok (.invokestatic idx, 3)) (hstk : st0 = as.reverse ++ st) (hdesc : zdesc y as.length = true) (hrm : crm.cells = mc ∧ crm.slots = ms ∧ crm.frames + 1 ≤ rm.frames ∧ 8 + (cn + 11) + crm.locals ≤ rm.locals) (hroom : (st.map fun v => v.category).sum ≤ 8) (hcs1 : cs.1 + mc ≤ rm.cells) (hcs2 : cs.2 + ms ≤ rm.slots) (kk : ∀ (v : Option Value) (w : va_W), post v w → Z D k (cs.1 + mc, cs.2 + ms) (wr ++ w) (pc + 3) lv (v.toList ++ st)) : Z D k cs ws pc lv st0 := by
  obtain ⟨p, l, e, R, s, m, args, below, meth, c, nL, A, Q⟩ := k
  obtain ⟨hx, hb, hml, hnl, hown, hts, hK, hA, hnm, hR, hl0⟩ := X
  intro H locs ls hP hD hS hl9
  subst hl0
  subst hR
  have hPc := hP.sub (ws' := wc) is (by
    have h := congrArg (fun z => z.filterMap id) hC2
    simpa [List.filterMap_map, Function.comp_def] using h)
  have hDc := hD.sub is hnd hC2
  have hFc := va_free hD hS hA is hC2
  refine zafter (va_runS (As := as) (rest := st) ⟨hx, hb, hml, hown, hts⟩ (hC H.size) ⟨callB_of as.length hts (zgood hcode) rfl hrm.1 hrm.2.1 (hts _ hini) (hts _ hl) (zdesc_spec hdesc) ⟨hrm.2.2.1, hrm.2.2.2⟩, hts _ hst⟩ ⟨zblind, fun U hU hW => ⟨rfl, by rw [hU], by rw [hU]; exact hPc, hK.warm hW, hDc.weaken (fun _ _ _ _ => trivial)⟩⟩ rfl rfl (hl9.1.trans hnl) hstk (lv_room hroom) hd ⟨hcs1, hcs2⟩) hS hFc hFc (fun v w H1 locs1 hp hP1 hD1 hz hk hS1 => ?_)
  obtain ⟨hP2, hD2⟩ := va_join hP hD is ir hC2 hR2 hnd2 hdis hk hFc hP1 hD1
  exact kk v w hp H1 locs1 ls hP2 hD2 hS1 hl9
theorem zc_SN (X : zX D t k b n own nm rm l0) {idx : Nat}  {st0 : List Value} (hC : Ct l0 D t y cb cn cret crm as wc mc ms post) {host : String} (hl : Cond.methodLinkNest own idx y host ∈ tables_1) (hcode : Cond.code y cb cn cret ∈ TB) (hini : Cond.initialized y.cls ∈ TB) (hst : Cond.static y ∈ TB) (is : List Nat) (hC2 : is.map (fun i => ws[i]?) = wc.map some) (hnd : va_nd is = true) (hd : decode b pc = .ok (.invokestatic idx, 3)) (hstk : st0 = as.reverse ++ st) (hdesc : zdesc y as.length = true) (hrm : crm.cells = mc ∧ crm.slots = ms ∧ crm.frames + 1 ≤ rm.frames ∧ 8 + (cn + 11) + crm.locals ≤ rm.locals) (hroom : (st.map fun v => v.category).sum ≤ 8) (hcs1 : cs.1 + mc ≤ rm.cells) (hcs2 : cs.2 + ms ≤ rm.slots) (kk : ∀ (v : Option Value) (w : va_W), post v w → is.length = w.length ∧ Z D k (cs.1 + mc, cs.2 + ms) (zput ws is w) (pc + 3) lv (v.toList ++ st)) : Z D k cs ws pc lv st0 := by
  obtain ⟨p, l, e, R, s, m, args, below, meth, c, nL, A, Q⟩ := k
  obtain ⟨hx, hb, hml, hnl, hown, hts, hK, hA, hnm, hR, hl0⟩ := X
  intro H locs ls hP hD hS hl9
  subst hl0
  subst hR
  have hPc := hP.sub (ws' := wc) is (by
    have h := congrArg (fun z => z.filterMap id) hC2
    simpa [List.filterMap_map, Function.comp_def] using h)
  have hDc := hD.sub is hnd hC2
  have hFc := va_free hD hS hA is hC2
  refine zafter (va_runSN (As := as) (rest := st) ⟨hx, hb, hml, hown, hts⟩ (hC H.size) ⟨va_cnB as.length hts (zgood hcode) rfl hrm.1 hrm.2.1 (hK.2.1 _ hl rfl) (hts _ hini) (zdesc_spec hdesc) ⟨hrm.2.2.1, hrm.2.2.2⟩, hts _ hst, trivial⟩ ⟨zblind, fun U hU hW => ⟨rfl, by rw [hU], by rw [hU]; exact hPc, hK.warm hW, hDc.weaken (fun _ _ _ _ => trivial)⟩⟩ rfl rfl (hl9.1.trans hnl) hstk (lv_room hroom) hd ⟨hcs1, hcs2⟩) hS hFc hFc (fun v w H1 locs1 hp hP1 hD1 hz hk hS1 => ?_)
  obtain ⟨hlen, kz⟩ := kk v w hp
  obtain ⟨hP2, hD2⟩ := zjoin hP hD is hC2 hnd hlen hk hFc hP1 hD1
  exact kz H1 locs1 ls hP2 hD2 hS1 hl9
theorem zc_SNA (X : zX D t k b n own nm rm l0) {idx : Nat}  {st0 : List Value} (hC : Ct l0 D t y cb cn cret crm as wc mc ms post) {host : String} (hl : Cond.methodLinkNest own idx y host ∈ tables_1) (hcode : Cond.code y cb cn cret ∈ TB) (hini : Cond.initialized y.cls ∈ TB) (hst : Cond.static y ∈ TB) (is ir : List Nat) (wr : va_W) (hC2 : is.map (fun i => ws[i]?) = wc.map some) (hR2 : ir.map (fun i => ws[i]?) = wr.map some) (hnd : va_nd is = true) (hnd2 : va_nd ir = true) (hdis : ∀ i ∈ ir, i ∉ is) (hd : decode b pc = .ok (.invokestatic idx, 3)) (hstk : st0 = as.reverse ++ st) (hdesc : zdesc y as.length = true) (hrm : crm.cells = mc ∧ crm.slots = ms ∧ crm.frames + 1 ≤ rm.frames ∧ 8 + (cn + 11) + crm.locals ≤ rm.locals) (hroom : (st.map fun v => v.category).sum ≤ 8) (hcs1 : cs.1 + mc ≤ rm.cells) (hcs2 : cs.2 + ms ≤ rm.slots) (kk : ∀ (v : Option Value) (w : va_W), post v w → Z D k (cs.1 + mc, cs.2 + ms) (wr ++ w) (pc + 3) lv (v.toList ++ st)) : Z D k cs ws pc lv st0 := by
  obtain ⟨p, l, e, R, s, m, args, below, meth, c, nL, A, Q⟩ := k
  obtain ⟨hx, hb, hml, hnl, hown, hts, hK, hA, hnm, hR, hl0⟩ := X
  intro H locs ls hP hD hS hl9
  subst hl0
  subst hR
  have hPc := hP.sub (ws' := wc) is (by
    have h := congrArg (fun z => z.filterMap id) hC2
    simpa [List.filterMap_map, Function.comp_def] using h)
  have hDc := hD.sub is hnd hC2
  have hFc := va_free hD hS hA is hC2
  refine zafter (va_runSN (As := as) (rest := st) ⟨hx, hb, hml, hown, hts⟩ (hC H.size) ⟨va_cnB as.length hts (zgood hcode) rfl hrm.1 hrm.2.1 (hK.2.1 _ hl rfl) (hts _ hini) (zdesc_spec hdesc) ⟨hrm.2.2.1, hrm.2.2.2⟩, hts _ hst, trivial⟩ ⟨zblind, fun U hU hW => ⟨rfl, by rw [hU], by rw [hU]; exact hPc, hK.warm hW, hDc.weaken (fun _ _ _ _ => trivial)⟩⟩ rfl rfl (hl9.1.trans hnl) hstk (lv_room hroom) hd ⟨hcs1, hcs2⟩) hS hFc hFc (fun v w H1 locs1 hp hP1 hD1 hz hk hS1 => ?_)
  obtain ⟨hP2, hD2⟩ := va_join hP hD is ir hC2 hR2 hnd2 hdis hk hFc hP1 hD1
  exact kk v w hp H1 locs1 ls hP2 hD2 hS1 hl9
theorem zc_I (X : zX D t k b n own nm rm l0) {idx : Nat} {a : Nat} {st0 : List Value} (hC : Ct l0 D t y cb cn none crm (.ref a :: as) wc mc ms post) (hl : Cond.methodLink own idx y ∈ TB) (hcode : Cond.code y cb cn none ∈ TB) (hini : Cond.initialized y.cls ∈ TB) (him : Cond.instanceMethod y ∈ TB) (hiname : y.name = "<init>") (is : List Nat) (hC2 : is.map (fun i => ws[i]?) = wc.map some) (hnd : va_nd is = true) (hd : decode b pc = .ok (.invokespecial idx, 3)) (hstk : st0 = as.reverse ++ .ref a :: st) (hdesc : zdesc y as.length = true) (hrm : crm.cells = mc ∧ crm.slots = ms ∧ crm.frames + 1 ≤ rm.frames ∧ 8 + (cn + 11) + crm.locals ≤ rm.locals) (hroom : (st.map fun v => v.category).sum ≤ 8) (hcs1 : cs.1 + mc ≤ rm.cells) (hcs2 : cs.2 + ms ≤ rm.slots) (kk : ∀ (v : Option Value) (w : va_W), post v w → is.length = w.length ∧ Z D k (cs.1 + mc, cs.2 + ms) (zput ws is w) (pc + 3) lv (v.toList ++ st)) : Z D k cs ws pc lv st0 := by
  obtain ⟨p, l, e, R, s, m, args, below, meth, c, nL, A, Q⟩ := k
  obtain ⟨hx, hb, hml, hnl, hown, hts, hK, hA, hnm, hR, hl0⟩ := X
  intro H locs ls hP hD hS hl9
  subst hl0
  subst hR
  have hPc := hP.sub (ws' := wc) is (by
    have h := congrArg (fun z => z.filterMap id) hC2
    simpa [List.filterMap_map, Function.comp_def] using h)
  have hDc := hD.sub is hnd hC2
  have hFc := va_free hD hS hA is hC2
  refine zafter (va_runI (As := as) (rest := st) ⟨hx, hb, hml, hown, hts⟩ (hC H.size) ⟨callB_of as.length hts (zgood hcode) rfl hrm.1 hrm.2.1 (hts _ hini) (hts _ hl) (zdesc_spec hdesc) ⟨hrm.2.2.1, hrm.2.2.2⟩, hiname, hts _ him⟩ ⟨zblind, fun U hU hW => ⟨rfl, by rw [hU], by rw [hU]; exact hPc, hK.warm hW, hDc.weaken (fun _ _ _ _ => trivial)⟩⟩ rfl rfl (hl9.1.trans hnl) hstk (lv_room hroom) hd ⟨hcs1, hcs2⟩) hS hFc hFc (fun v w H1 locs1 hp hP1 hD1 hz hk hS1 => ?_)
  obtain ⟨hlen, kz⟩ := kk v w hp
  obtain ⟨hP2, hD2⟩ := zjoin hP hD is hC2 hnd hlen hk hFc hP1 hD1
  exact kz H1 locs1 ls hP2 hD2 hS1 hl9
theorem zc_IA (X : zX D t k b n own nm rm l0) {idx : Nat} {a : Nat} {st0 : List Value} (hC : Ct l0 D t y cb cn none crm (.ref a :: as) wc mc ms post) (hl : Cond.methodLink own idx y ∈ TB) (hcode : Cond.code y cb cn none ∈ TB) (hini : Cond.initialized y.cls ∈ TB) (him : Cond.instanceMethod y ∈ TB) (hiname : y.name = "<init>") (is ir : List Nat) (wr : va_W) (hC2 : is.map (fun i => ws[i]?) = wc.map some) (hR2 : ir.map (fun i => ws[i]?) = wr.map some) (hnd : va_nd is = true) (hnd2 : va_nd ir = true) (hdis : ∀ i ∈ ir, i ∉ is) (hd : decode b pc = .ok (.invokespecial idx, 3)) (hstk : st0 = as.reverse ++ .ref a :: st) (hdesc : zdesc y as.length = true) (hrm : crm.cells = mc ∧ crm.slots = ms ∧ crm.frames + 1 ≤ rm.frames ∧ 8 + (cn + 11) + crm.locals ≤ rm.locals) (hroom : (st.map fun v => v.category).sum ≤ 8) (hcs1 : cs.1 + mc ≤ rm.cells) (hcs2 : cs.2 + ms ≤ rm.slots) (kk : ∀ (v : Option Value) (w : va_W), post v w → Z D k (cs.1 + mc, cs.2 + ms) (wr ++ w) (pc + 3) lv (v.toList ++ st)) : Z D k cs ws pc lv st0 := by
  obtain ⟨p, l, e, R, s, m, args, below, meth, c, nL, A, Q⟩ := k
  obtain ⟨hx, hb, hml, hnl, hown, hts, hK, hA, hnm, hR, hl0⟩ := X
  intro H locs ls hP hD hS hl9
  subst hl0
  subst hR
  have hPc := hP.sub (ws' := wc) is (by
    have h := congrArg (fun z => z.filterMap id) hC2
    simpa [List.filterMap_map, Function.comp_def] using h)
  have hDc := hD.sub is hnd hC2
  have hFc := va_free hD hS hA is hC2
  refine zafter (va_runI (As := as) (rest := st) ⟨hx, hb, hml, hown, hts⟩ (hC H.size) ⟨callB_of as.length hts (zgood hcode) rfl hrm.1 hrm.2.1 (hts _ hini) (hts _ hl) (zdesc_spec hdesc) ⟨hrm.2.2.1, hrm.2.2.2⟩, hiname, hts _ him⟩ ⟨zblind, fun U hU hW => ⟨rfl, by rw [hU], by rw [hU]; exact hPc, hK.warm hW, hDc.weaken (fun _ _ _ _ => trivial)⟩⟩ rfl rfl (hl9.1.trans hnl) hstk (lv_room hroom) hd ⟨hcs1, hcs2⟩) hS hFc hFc (fun v w H1 locs1 hp hP1 hD1 hz hk hS1 => ?_)
  obtain ⟨hP2, hD2⟩ := va_join hP hD is ir hC2 hR2 hnd2 hdis hk hFc hP1 hD1
  exact kk v w hp H1 locs1 ls hP2 hD2 hS1 hl9
theorem zc_IN (X : zX D t k b n own nm rm l0) {idx : Nat} {a : Nat} {st0 : List Value} (hC : Ct l0 D t y cb cn none crm (.ref a :: as) wc mc ms post) {host : String} (hl : Cond.methodLinkNest own idx y host ∈ tables_1) (hcode : Cond.code y cb cn none ∈ TB) (hini : Cond.initialized y.cls ∈ TB) (him : Cond.instanceMethod y ∈ TB) (hiname : y.name = "<init>") (is : List Nat) (hC2 : is.map (fun i => ws[i]?) = wc.map some) (hnd : va_nd is = true) (hd : decode b pc = .ok (.invokespecial idx, 3)) (hstk : st0 = as.reverse ++ .ref a :: st) (hdesc : zdesc y as.length = true) (hrm : crm.cells = mc ∧ crm.slots = ms ∧ crm.frames + 1 ≤ rm.frames ∧ 8 + (cn + 11) + crm.locals ≤ rm.locals) (hroom : (st.map fun v => v.category).sum ≤ 8) (hcs1 : cs.1 + mc ≤ rm.cells) (hcs2 : cs.2 + ms ≤ rm.slots) (kk : ∀ (v : Option Value) (w : va_W), post v w → is.length = w.length ∧ Z D k (cs.1 + mc, cs.2 + ms) (zput ws is w) (pc + 3) lv (v.toList ++ st)) : Z D k cs ws pc lv st0 := by
  obtain ⟨p, l, e, R, s, m, args, below, meth, c, nL, A, Q⟩ := k
  obtain ⟨hx, hb, hml, hnl, hown, hts, hK, hA, hnm, hR, hl0⟩ := X
  intro H locs ls hP hD hS hl9
  subst hl0
  subst hR
  have hPc := hP.sub (ws' := wc) is (by
    have h := congrArg (fun z => z.filterMap id) hC2
    simpa [List.filterMap_map, Function.comp_def] using h)
  have hDc := hD.sub is hnd hC2
  have hFc := va_free hD hS hA is hC2
  refine zafter (va_runIN (As := as) (rest := st) ⟨hx, hb, hml, hown, hts⟩ (hC H.size) ⟨va_cnB as.length hts (zgood hcode) rfl hrm.1 hrm.2.1 (hK.2.1 _ hl rfl) (hts _ hini) (zdesc_spec hdesc) ⟨hrm.2.2.1, hrm.2.2.2⟩, hiname, hts _ him⟩ ⟨zblind, fun U hU hW => ⟨rfl, by rw [hU], by rw [hU]; exact hPc, hK.warm hW, hDc.weaken (fun _ _ _ _ => trivial)⟩⟩ rfl rfl (hl9.1.trans hnl) hstk (lv_room hroom) hd ⟨hcs1, hcs2⟩) hS hFc hFc (fun v w H1 locs1 hp hP1 hD1 hz hk hS1 => ?_)
  obtain ⟨hlen, kz⟩ := kk v w hp
  obtain ⟨hP2, hD2⟩ := zjoin hP hD is hC2 hnd hlen hk hFc hP1 hD1
  exact kz H1 locs1 ls hP2 hD2 hS1 hl9
theorem zc_INA (X : zX D t k b n own nm rm l0) {idx : Nat} {a : Nat} {st0 : List Value} (hC : Ct l0 D t y cb cn none crm (.ref a :: as) wc mc ms post) {host : String} (hl : Cond.methodLinkNest own idx y host ∈ tables_1) (hcode : Cond.code y cb cn none ∈ TB) (hini : Cond.initialized y.cls ∈ TB) (him : Cond.instanceMethod y ∈ TB) (hiname : y.name = "<init>") (is ir : List Nat) (wr : va_W) (hC2 : is.map (fun i => ws[i]?) = wc.map some) (hR2 : ir.map (fun i => ws[i]?) = wr.map some) (hnd : va_nd is = true) (hnd2 : va_nd ir = true) (hdis : ∀ i ∈ ir, i ∉ is) (hd : decode b pc = .ok (.invokespecial idx, 3)) (hstk : st0 = as.reverse ++ .ref a :: st) (hdesc : zdesc y as.length = true) (hrm : crm.cells = mc ∧ crm.slots = ms ∧ crm.frames + 1 ≤ rm.frames ∧ 8 + (cn + 11) + crm.locals ≤ rm.locals) (hroom : (st.map fun v => v.category).sum ≤ 8) (hcs1 : cs.1 + mc ≤ rm.cells) (hcs2 : cs.2 + ms ≤ rm.slots) (kk : ∀ (v : Option Value) (w : va_W), post v w → Z D k (cs.1 + mc, cs.2 + ms) (wr ++ w) (pc + 3) lv (v.toList ++ st)) : Z D k cs ws pc lv st0 := by
  obtain ⟨p, l, e, R, s, m, args, below, meth, c, nL, A, Q⟩ := k
  obtain ⟨hx, hb, hml, hnl, hown, hts, hK, hA, hnm, hR, hl0⟩ := X
  intro H locs ls hP hD hS hl9
  subst hl0
  subst hR
  have hPc := hP.sub (ws' := wc) is (by
    have h := congrArg (fun z => z.filterMap id) hC2
    simpa [List.filterMap_map, Function.comp_def] using h)
  have hDc := hD.sub is hnd hC2
  have hFc := va_free hD hS hA is hC2
  refine zafter (va_runIN (As := as) (rest := st) ⟨hx, hb, hml, hown, hts⟩ (hC H.size) ⟨va_cnB as.length hts (zgood hcode) rfl hrm.1 hrm.2.1 (hK.2.1 _ hl rfl) (hts _ hini) (zdesc_spec hdesc) ⟨hrm.2.2.1, hrm.2.2.2⟩, hiname, hts _ him⟩ ⟨zblind, fun U hU hW => ⟨rfl, by rw [hU], by rw [hU]; exact hPc, hK.warm hW, hDc.weaken (fun _ _ _ _ => trivial)⟩⟩ rfl rfl (hl9.1.trans hnl) hstk (lv_room hroom) hd ⟨hcs1, hcs2⟩) hS hFc hFc (fun v w H1 locs1 hp hP1 hD1 hz hk hS1 => ?_)
  obtain ⟨hP2, hD2⟩ := va_join hP hD is ir hC2 hR2 hnd2 hdis hk hFc hP1 hD1
  exact kk v w hp H1 locs1 ls hP2 hD2 hS1 hl9
end ZC
end
