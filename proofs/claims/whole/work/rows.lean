section
-- ===== PART A: goes FIRST, ahead of the names: the tables' words, and 'selects' of the private methods out of them =====
/-- a private method of a class that the tables say can be made, by its rows of tables_1 -/
def lw_okq (q : MethodName × Nat) : Prop := (q.1.cls ≠ "java/lang/invoke/MethodHandle" ∧ q.1.cls ≠ "java/lang/invoke/VarHandle") ∧ Cond.instantiable q.1.cls q.2 ∈ tables_1 ∧ Cond.privateMethod q.1 ∈ tables_1 ∧ Cond.instanceMethod q.1 ∈ tables_1
theorem lw_p0 : lw_okq (⟨"EitherPocket$Text", "readItem", "()Z"⟩, 7) := ⟨⟨by decide +kernel, by decide +kernel⟩, List.mem_of_getElem? (i := 17) (by decide +kernel), List.mem_of_getElem? (i := 211) (by decide +kernel), List.mem_of_getElem? (i := 212) (by decide +kernel)⟩
theorem lw_p1 : lw_okq (⟨"EitherPocket$Text", "letterHere", "()C"⟩, 7) := ⟨⟨by decide +kernel, by decide +kernel⟩, List.mem_of_getElem? (i := 17) (by decide +kernel), List.mem_of_getElem? (i := 215) (by decide +kernel), List.mem_of_getElem? (i := 216) (by decide +kernel)⟩
theorem lw_p2 : lw_okq (⟨"EitherPocket$Text", "readTwo", "()Z"⟩, 7) := ⟨⟨by decide +kernel, by decide +kernel⟩, List.mem_of_getElem? (i := 17) (by decide +kernel), List.mem_of_getElem? (i := 219) (by decide +kernel), List.mem_of_getElem? (i := 220) (by decide +kernel)⟩
theorem lw_p3 : lw_okq (⟨"EitherPocket$Text", "readNumber", "()I"⟩, 7) := ⟨⟨by decide +kernel, by decide +kernel⟩, List.mem_of_getElem? (i := 17) (by decide +kernel), List.mem_of_getElem? (i := 223) (by decide +kernel), List.mem_of_getElem? (i := 224) (by decide +kernel)⟩
theorem lw_p4 : lw_okq (⟨"EitherPocket$Text", "readFigure", "()I"⟩, 7) := ⟨⟨by decide +kernel, by decide +kernel⟩, List.mem_of_getElem? (i := 17) (by decide +kernel), List.mem_of_getElem? (i := 227) (by decide +kernel), List.mem_of_getElem? (i := 228) (by decide +kernel)⟩
theorem lw_p5 : lw_okq (⟨"EitherPocket$Text", "readSign", "(C)Z"⟩, 7) := ⟨⟨by decide +kernel, by decide +kernel⟩, List.mem_of_getElem? (i := 17) (by decide +kernel), List.mem_of_getElem? (i := 231) (by decide +kernel), List.mem_of_getElem? (i := 232) (by decide +kernel)⟩
theorem lw_p6 : lw_okq (⟨"EitherPocket$Text", "tellBoxes", "()Z"⟩, 7) := ⟨⟨by decide +kernel, by decide +kernel⟩, List.mem_of_getElem? (i := 17) (by decide +kernel), List.mem_of_getElem? (i := 235) (by decide +kernel), List.mem_of_getElem? (i := 236) (by decide +kernel)⟩
theorem lw_p7 : lw_okq (⟨"EitherPocket$Text", "tellHand", "()Z"⟩, 7) := ⟨⟨by decide +kernel, by decide +kernel⟩, List.mem_of_getElem? (i := 17) (by decide +kernel), List.mem_of_getElem? (i := 239) (by decide +kernel), List.mem_of_getElem? (i := 240) (by decide +kernel)⟩
theorem lw_p8 : lw_okq (⟨"EitherPocket$Text", "readOne", "()Z"⟩, 7) := ⟨⟨by decide +kernel, by decide +kernel⟩, List.mem_of_getElem? (i := 17) (by decide +kernel), List.mem_of_getElem? (i := 249) (by decide +kernel), List.mem_of_getElem? (i := 250) (by decide +kernel)⟩
theorem lw_p9 : lw_okq (⟨"EitherPocket$Text", "tellLast", "()Z"⟩, 7) := ⟨⟨by decide +kernel, by decide +kernel⟩, List.mem_of_getElem? (i := 17) (by decide +kernel), List.mem_of_getElem? (i := 253) (by decide +kernel), List.mem_of_getElem? (i := 254) (by decide +kernel)⟩
theorem lw_p10 : lw_okq (⟨"EitherPocket$Text", "tellEvening", "()Z"⟩, 7) := ⟨⟨by decide +kernel, by decide +kernel⟩, List.mem_of_getElem? (i := 17) (by decide +kernel), List.mem_of_getElem? (i := 260) (by decide +kernel), List.mem_of_getElem? (i := 261) (by decide +kernel)⟩
theorem lw_p11 : lw_okq (⟨"EitherPocket$Pile", "dropOldest", "()V"⟩, 2) := ⟨⟨by decide +kernel, by decide +kernel⟩, List.mem_of_getElem? (i := 83) (by decide +kernel), List.mem_of_getElem? (i := 315) (by decide +kernel), List.mem_of_getElem? (i := 316) (by decide +kernel)⟩
theorem lw_p12 : lw_okq (⟨"EitherPocket", "walkToEnd", "(I)J"⟩, 10) := ⟨⟨by decide +kernel, by decide +kernel⟩, List.mem_of_getElem? (i := 9) (by decide +kernel), List.mem_of_getElem? (i := 366) (by decide +kernel), List.mem_of_getElem? (i := 367) (by decide +kernel)⟩
theorem lw_p13 : lw_okq (⟨"EitherPocket", "startFrom", "(III)V"⟩, 10) := ⟨⟨by decide +kernel, by decide +kernel⟩, List.mem_of_getElem? (i := 9) (by decide +kernel), List.mem_of_getElem? (i := 370) (by decide +kernel), List.mem_of_getElem? (i := 371) (by decide +kernel)⟩
theorem lw_p14 : lw_okq (⟨"EitherPocket$Walk", "endBy", "(IIJ)V"⟩, 9) := ⟨⟨by decide +kernel, by decide +kernel⟩, List.mem_of_getElem? (i := 102) (by decide +kernel), List.mem_of_getElem? (i := 383) (by decide +kernel), List.mem_of_getElem? (i := 384) (by decide +kernel)⟩
theorem lw_p15 : lw_okq (⟨"EitherPocket$Walk", "advanceOnce", "()V"⟩, 9) := ⟨⟨by decide +kernel, by decide +kernel⟩, List.mem_of_getElem? (i := 102) (by decide +kernel), List.mem_of_getElem? (i := 394) (by decide +kernel), List.mem_of_getElem? (i := 395) (by decide +kernel)⟩
def lw_privs_1 : List (MethodName × Nat) := [(⟨"EitherPocket$Text", "readItem", "()Z"⟩, 7), (⟨"EitherPocket$Text", "letterHere", "()C"⟩, 7), (⟨"EitherPocket$Text", "readTwo", "()Z"⟩, 7), (⟨"EitherPocket$Text", "readNumber", "()I"⟩, 7), (⟨"EitherPocket$Text", "readFigure", "()I"⟩, 7), (⟨"EitherPocket$Text", "readSign", "(C)Z"⟩, 7), (⟨"EitherPocket$Text", "tellBoxes", "()Z"⟩, 7), (⟨"EitherPocket$Text", "tellHand", "()Z"⟩, 7), (⟨"EitherPocket$Text", "readOne", "()Z"⟩, 7), (⟨"EitherPocket$Text", "tellLast", "()Z"⟩, 7), (⟨"EitherPocket$Text", "tellEvening", "()Z"⟩, 7), (⟨"EitherPocket$Pile", "dropOldest", "()V"⟩, 2), (⟨"EitherPocket", "walkToEnd", "(I)J"⟩, 10), (⟨"EitherPocket", "startFrom", "(III)V"⟩, 10), (⟨"EitherPocket$Walk", "endBy", "(IIJ)V"⟩, 9), (⟨"EitherPocket$Walk", "advanceOnce", "()V"⟩, 9)]
theorem lw_r1 : ∀ q ∈ lw_privs_1, lw_okq q := List.forall_mem_cons.mpr ⟨lw_p0, List.forall_mem_cons.mpr ⟨lw_p1, List.forall_mem_cons.mpr ⟨lw_p2, List.forall_mem_cons.mpr ⟨lw_p3, List.forall_mem_cons.mpr ⟨lw_p4, List.forall_mem_cons.mpr ⟨lw_p5, List.forall_mem_cons.mpr ⟨lw_p6, List.forall_mem_cons.mpr ⟨lw_p7, List.forall_mem_cons.mpr ⟨lw_p8, List.forall_mem_cons.mpr ⟨lw_p9, List.forall_mem_cons.mpr ⟨lw_p10, List.forall_mem_cons.mpr ⟨lw_p11, List.forall_mem_cons.mpr ⟨lw_p12, List.forall_mem_cons.mpr ⟨lw_p13, List.forall_mem_cons.mpr ⟨lw_p14, List.forall_mem_cons.mpr ⟨lw_p15, fun _ h => absurd h List.not_mem_nil⟩⟩⟩⟩⟩⟩⟩⟩⟩⟩⟩⟩⟩⟩⟩⟩
theorem lw_p16 : lw_okq (⟨"EitherPocket$Walk", "follow", "(IIIJ)V"⟩, 9) := ⟨⟨by decide +kernel, by decide +kernel⟩, List.mem_of_getElem? (i := 102) (by decide +kernel), List.mem_of_getElem? (i := 400) (by decide +kernel), List.mem_of_getElem? (i := 401) (by decide +kernel)⟩
theorem lw_p17 : lw_okq (⟨"EitherPocket", "reachesWith", "(II)J"⟩, 10) := ⟨⟨by decide +kernel, by decide +kernel⟩, List.mem_of_getElem? (i := 9) (by decide +kernel), List.mem_of_getElem? (i := 454) (by decide +kernel), List.mem_of_getElem? (i := 455) (by decide +kernel)⟩
theorem lw_p18 : lw_okq (⟨"EitherPocket", "likeliestQuarters", "(I)I"⟩, 10) := ⟨⟨by decide +kernel, by decide +kernel⟩, List.mem_of_getElem? (i := 9) (by decide +kernel), List.mem_of_getElem? (i := 482) (by decide +kernel), List.mem_of_getElem? (i := 483) (by decide +kernel)⟩
theorem lw_p19 : lw_okq (⟨"EitherPocket", "chanceOfSeen", "(II)J"⟩, 10) := ⟨⟨by decide +kernel, by decide +kernel⟩, List.mem_of_getElem? (i := 9) (by decide +kernel), List.mem_of_getElem? (i := 486) (by decide +kernel), List.mem_of_getElem? (i := 487) (by decide +kernel)⟩
theorem lw_p20 : lw_okq (⟨"EitherPocket", "startByHand", "(II)V"⟩, 10) := ⟨⟨by decide +kernel, by decide +kernel⟩, List.mem_of_getElem? (i := 9) (by decide +kernel), List.mem_of_getElem? (i := 490) (by decide +kernel), List.mem_of_getElem? (i := 491) (by decide +kernel)⟩
theorem lw_p21 : lw_okq (⟨"EitherPocket", "reachesByHand", "(II)J"⟩, 10) := ⟨⟨by decide +kernel, by decide +kernel⟩, List.mem_of_getElem? (i := 9) (by decide +kernel), List.mem_of_getElem? (i := 518) (by decide +kernel), List.mem_of_getElem? (i := 519) (by decide +kernel)⟩
theorem lw_p22 : lw_okq (⟨"EitherPocketModel", "begins", "()V"⟩, 17) := ⟨⟨by decide +kernel, by decide +kernel⟩, List.mem_of_getElem? (i := 546) (by decide +kernel), List.mem_of_getElem? (i := 552) (by decide +kernel), List.mem_of_getElem? (i := 553) (by decide +kernel)⟩
theorem lw_p23 : lw_okq (⟨"EitherPocketModel", "lays", "()V"⟩, 17) := ⟨⟨by decide +kernel, by decide +kernel⟩, List.mem_of_getElem? (i := 546) (by decide +kernel), List.mem_of_getElem? (i := 556) (by decide +kernel), List.mem_of_getElem? (i := 557) (by decide +kernel)⟩
theorem lw_p24 : lw_okq (⟨"EitherPocketModel", "readsAll", "()I"⟩, 17) := ⟨⟨by decide +kernel, by decide +kernel⟩, List.mem_of_getElem? (i := 546) (by decide +kernel), List.mem_of_getElem? (i := 627) (by decide +kernel), List.mem_of_getElem? (i := 628) (by decide +kernel)⟩
theorem lw_p25 : lw_okq (⟨"EitherPocketModel", "readsItem", "(I)Z"⟩, 17) := ⟨⟨by decide +kernel, by decide +kernel⟩, List.mem_of_getElem? (i := 546) (by decide +kernel), List.mem_of_getElem? (i := 631) (by decide +kernel), List.mem_of_getElem? (i := 632) (by decide +kernel)⟩
theorem lw_p26 : lw_okq (⟨"EitherPocketModel", "readsTwo", "(III)Z"⟩, 17) := ⟨⟨by decide +kernel, by decide +kernel⟩, List.mem_of_getElem? (i := 546) (by decide +kernel), List.mem_of_getElem? (i := 635) (by decide +kernel), List.mem_of_getElem? (i := 636) (by decide +kernel)⟩
theorem lw_p27 : lw_okq (⟨"EitherPocketModel", "number", "(III)I"⟩, 17) := ⟨⟨by decide +kernel, by decide +kernel⟩, List.mem_of_getElem? (i := 546) (by decide +kernel), List.mem_of_getElem? (i := 639) (by decide +kernel), List.mem_of_getElem? (i := 640) (by decide +kernel)⟩
theorem lw_p28 : lw_okq (⟨"EitherPocketModel", "letterAt", "(I)I"⟩, 17) := ⟨⟨by decide +kernel, by decide +kernel⟩, List.mem_of_getElem? (i := 546) (by decide +kernel), List.mem_of_getElem? (i := 643) (by decide +kernel), List.mem_of_getElem? (i := 644) (by decide +kernel)⟩
theorem lw_p29 : lw_okq (⟨"EitherPocketModel", "keeps", "()V"⟩, 17) := ⟨⟨by decide +kernel, by decide +kernel⟩, List.mem_of_getElem? (i := 546) (by decide +kernel), List.mem_of_getElem? (i := 669) (by decide +kernel), List.mem_of_getElem? (i := 670) (by decide +kernel)⟩
theorem lw_p30 : lw_okq (⟨"EitherPocketModel", "weighsNow", "(I)V"⟩, 17) := ⟨⟨by decide +kernel, by decide +kernel⟩, List.mem_of_getElem? (i := 546) (by decide +kernel), List.mem_of_getElem? (i := 696) (by decide +kernel), List.mem_of_getElem? (i := 697) (by decide +kernel)⟩
theorem lw_p31 : lw_okq (⟨"EitherPocketModel", "weighs", "(IIIII)V"⟩, 17) := ⟨⟨by decide +kernel, by decide +kernel⟩, List.mem_of_getElem? (i := 546) (by decide +kernel), List.mem_of_getElem? (i := 700) (by decide +kernel), List.mem_of_getElem? (i := 701) (by decide +kernel)⟩
def lw_privs_2 : List (MethodName × Nat) := [(⟨"EitherPocket$Walk", "follow", "(IIIJ)V"⟩, 9), (⟨"EitherPocket", "reachesWith", "(II)J"⟩, 10), (⟨"EitherPocket", "likeliestQuarters", "(I)I"⟩, 10), (⟨"EitherPocket", "chanceOfSeen", "(II)J"⟩, 10), (⟨"EitherPocket", "startByHand", "(II)V"⟩, 10), (⟨"EitherPocket", "reachesByHand", "(II)J"⟩, 10), (⟨"EitherPocketModel", "begins", "()V"⟩, 17), (⟨"EitherPocketModel", "lays", "()V"⟩, 17), (⟨"EitherPocketModel", "readsAll", "()I"⟩, 17), (⟨"EitherPocketModel", "readsItem", "(I)Z"⟩, 17), (⟨"EitherPocketModel", "readsTwo", "(III)Z"⟩, 17), (⟨"EitherPocketModel", "number", "(III)I"⟩, 17), (⟨"EitherPocketModel", "letterAt", "(I)I"⟩, 17), (⟨"EitherPocketModel", "keeps", "()V"⟩, 17), (⟨"EitherPocketModel", "weighsNow", "(I)V"⟩, 17), (⟨"EitherPocketModel", "weighs", "(IIIII)V"⟩, 17)]
theorem lw_r2 : ∀ q ∈ lw_privs_2, lw_okq q := List.forall_mem_cons.mpr ⟨lw_p16, List.forall_mem_cons.mpr ⟨lw_p17, List.forall_mem_cons.mpr ⟨lw_p18, List.forall_mem_cons.mpr ⟨lw_p19, List.forall_mem_cons.mpr ⟨lw_p20, List.forall_mem_cons.mpr ⟨lw_p21, List.forall_mem_cons.mpr ⟨lw_p22, List.forall_mem_cons.mpr ⟨lw_p23, List.forall_mem_cons.mpr ⟨lw_p24, List.forall_mem_cons.mpr ⟨lw_p25, List.forall_mem_cons.mpr ⟨lw_p26, List.forall_mem_cons.mpr ⟨lw_p27, List.forall_mem_cons.mpr ⟨lw_p28, List.forall_mem_cons.mpr ⟨lw_p29, List.forall_mem_cons.mpr ⟨lw_p30, List.forall_mem_cons.mpr ⟨lw_p31, fun _ h => absurd h List.not_mem_nil⟩⟩⟩⟩⟩⟩⟩⟩⟩⟩⟩⟩⟩⟩⟩⟩
theorem lw_p32 : lw_okq (⟨"EitherPocketModel", "clears", "()V"⟩, 17) := ⟨⟨by decide +kernel, by decide +kernel⟩, List.mem_of_getElem? (i := 546) (by decide +kernel), List.mem_of_getElem? (i := 704) (by decide +kernel), List.mem_of_getElem? (i := 705) (by decide +kernel)⟩
theorem lw_p33 : lw_okq (⟨"EitherPocketModel", "begin0", "(III)V"⟩, 17) := ⟨⟨by decide +kernel, by decide +kernel⟩, List.mem_of_getElem? (i := 546) (by decide +kernel), List.mem_of_getElem? (i := 709) (by decide +kernel), List.mem_of_getElem? (i := 710) (by decide +kernel)⟩
theorem lw_p34 : lw_okq (⟨"EitherPocketModel", "goes", "(IIIIJ)V"⟩, 17) := ⟨⟨by decide +kernel, by decide +kernel⟩, List.mem_of_getElem? (i := 546) (by decide +kernel), List.mem_of_getElem? (i := 717) (by decide +kernel), List.mem_of_getElem? (i := 718) (by decide +kernel)⟩
theorem lw_p35 : lw_okq (⟨"EitherPocketModel", "within", "(I)J"⟩, 17) := ⟨⟨by decide +kernel, by decide +kernel⟩, List.mem_of_getElem? (i := 546) (by decide +kernel), List.mem_of_getElem? (i := 734) (by decide +kernel), List.mem_of_getElem? (i := 735) (by decide +kernel)⟩
theorem lw_p36 : lw_okq (⟨"EitherPocketModel", "reaches", "()J"⟩, 17) := ⟨⟨by decide +kernel, by decide +kernel⟩, List.mem_of_getElem? (i := 546) (by decide +kernel), List.mem_of_getElem? (i := 742) (by decide +kernel), List.mem_of_getElem? (i := 743) (by decide +kernel)⟩
theorem lw_p37 : lw_okq (⟨"EitherPocketModel", "reachesFrom", "(II)J"⟩, 17) := ⟨⟨by decide +kernel, by decide +kernel⟩, List.mem_of_getElem? (i := 546) (by decide +kernel), List.mem_of_getElem? (i := 758) (by decide +kernel), List.mem_of_getElem? (i := 759) (by decide +kernel)⟩
theorem lw_p38 : lw_okq (⟨"EitherPocketModel", "sightsBy", "(II)J"⟩, 17) := ⟨⟨by decide +kernel, by decide +kernel⟩, List.mem_of_getElem? (i := 546) (by decide +kernel), List.mem_of_getElem? (i := 782) (by decide +kernel), List.mem_of_getElem? (i := 783) (by decide +kernel)⟩
def lw_privs_3 : List (MethodName × Nat) := [(⟨"EitherPocketModel", "clears", "()V"⟩, 17), (⟨"EitherPocketModel", "begin0", "(III)V"⟩, 17), (⟨"EitherPocketModel", "goes", "(IIIIJ)V"⟩, 17), (⟨"EitherPocketModel", "within", "(I)J"⟩, 17), (⟨"EitherPocketModel", "reaches", "()J"⟩, 17), (⟨"EitherPocketModel", "reachesFrom", "(II)J"⟩, 17), (⟨"EitherPocketModel", "sightsBy", "(II)J"⟩, 17)]
theorem lw_r3 : ∀ q ∈ lw_privs_3, lw_okq q := List.forall_mem_cons.mpr ⟨lw_p32, List.forall_mem_cons.mpr ⟨lw_p33, List.forall_mem_cons.mpr ⟨lw_p34, List.forall_mem_cons.mpr ⟨lw_p35, List.forall_mem_cons.mpr ⟨lw_p36, List.forall_mem_cons.mpr ⟨lw_p37, List.forall_mem_cons.mpr ⟨lw_p38, fun _ h => absurd h List.not_mem_nil⟩⟩⟩⟩⟩⟩⟩
def lw_privs : List (MethodName × Nat) := lw_privs_1 ++ (lw_privs_2 ++ (lw_privs_3))
def lw_tbl : List Cond := k2_sels lw_privs ++ tables_1
theorem lw_privs_ok : ∀ q ∈ lw_privs, lw_okq q := by
  show ∀ q ∈ lw_privs_1 ++ (lw_privs_2 ++ (lw_privs_3)), lw_okq q
  exact List.forall_mem_append.mpr ⟨lw_r1, List.forall_mem_append.mpr ⟨lw_r2, lw_r3⟩⟩
end
section
/-! ===== BEGIN words of one list among another's, by their places ===== -/
theorem goodIn_r {big : List Cond} (ws : List Cond) (ps : List Nat) (hp : ws = ps.filterMap (fun i => big[i]?)) (h : ws.all goodWord = true) : GoodIn big ws := by
  intro w hw
  have h1 := List.all_eq_true.mp h w hw
  rw [hp] at hw
  obtain ⟨i, -, hi⟩ := List.mem_filterMap.mp hw
  have hm : w ∈ big := by first | exact List.mem_of_getElem? hi | exact List.getElem?_mem hi
  exact ⟨hm, good_of_word h1⟩
theorem goodIn_app {big a b : List Cond} (ha : GoodIn big a) (hb : GoodIn big b) : GoodIn big (a ++ b) := fun w h => (List.mem_append.mp h).elim (ha w) (hb w)
theorem goodIn_ca {big a b : List Cond} {c : Cond} (ha : GoodIn big (c :: a)) (hb : GoodIn big b) : GoodIn big (c :: (a ++ b)) := fun w h => (List.mem_cons.mp h).elim (fun e => ha w (List.mem_cons.mpr (Or.inl e))) (fun h => (List.mem_append.mp h).elim (fun h => ha w (List.mem_cons.mpr (Or.inr h))) (hb w))
theorem goodIn_sub {big ws : List Cond} (hm : ∀ w ∈ ws, w ∈ big) (h : ws.all goodWord = true) : GoodIn big ws := fun w hw => ⟨hm w hw, good_of_word (List.all_eq_true.mp h w hw)⟩
/-! ===== END ===== -/

/-! ===== BEGIN printed: names, fields, word lists, decode rows ===== -/
def RX0 : String := "EitherPocket$Coat"
def TX0 : u_T := fun k => match k with
  | 0 => ("EitherPocket$Coat", "left", "I", false)
  | 1 => ("EitherPocket$Coat", "right", "I", false)
  | 2 => ("EitherPocket$Coat", "last", "I", false)
  | 3 => ("EitherPocket$Coat", "kind", "I", false)
  | _ => ("EitherPocket$Coat", "x", "I", false)
def tyX0 : Nat → FieldType := fun k => match k with
  | 0 => .int
  | 1 => .int
  | 2 => .int
  | 3 => .int
  | _ => .int
abbrev wsX00 : List Cond := u_ws RX0 TX0 5
theorem nmX0 : ∀ a, a < 5 → ∀ b, b < 5 → a ≠ b → (TX0 a).2.1 ≠ (TX0 b).2.1 := by decide +kernel
theorem tyX0_ok : ∀ k, k < 5 → parseFieldDescriptor (TX0 k).2.2.1 = some (tyX0 k) := by decide +kernel
abbrev cX0_init : ByteArray := prog_2_method_1_code
def yX0_init : MethodName := ⟨RX0, "<init>", "()V"⟩
abbrev cX0_copyFrom : ByteArray := prog_2_method_2_code
def yX0_copyFrom : MethodName := ⟨RX0, "copyFrom", "(LEitherPocket$Coat;)V"⟩
abbrev cX0_setBoxes : ByteArray := prog_2_method_3_code
def yX0_setBoxes : MethodName := ⟨RX0, "setBoxes", "(II)V"⟩
abbrev cX0_setBox : ByteArray := prog_2_method_4_code
def yX0_setBox : MethodName := ⟨RX0, "setBox", "(II)V"⟩
abbrev cX0_setHand : ByteArray := prog_2_method_5_code
def yX0_setHand : MethodName := ⟨RX0, "setHand", "(II)V"⟩
abbrev cX0_inBox : ByteArray := prog_2_method_6_code
def yX0_inBox : MethodName := ⟨RX0, "inBox", "(I)I"⟩
abbrev cX0_matches : ByteArray := prog_2_method_7_code
def yX0_matches : MethodName := ⟨RX0, "matches", "()I"⟩
abbrev cX0_quartersToLeft : ByteArray := prog_2_method_8_code
def yX0_quartersToLeft : MethodName := ⟨RX0, "quartersToLeft", "()I"⟩
abbrev cX0_draw : ByteArray := prog_2_method_9_code
def yX0_draw : MethodName := ⟨RX0, "draw", "(I)Z"⟩
def RX1 : String := "EitherPocket$Pile"
def TX1 : u_T := fun k => match k with
  | 0 => ("EitherPocket$Pile", "coats", "[LEitherPocket$Coat;", true)
  | _ => ("EitherPocket$Pile", "size", "I", false)
def tyX1 : Nat → FieldType := fun k => match k with
  | 0 => .array (.object "EitherPocket$Coat")
  | _ => .int
abbrev wsX10 : List Cond := u_ws RX1 TX1 2
theorem nmX1 : ∀ a, a < 2 → ∀ b, b < 2 → a ≠ b → (TX1 a).2.1 ≠ (TX1 b).2.1 := by decide +kernel
theorem tyX1_ok : ∀ k, k < 2 → parseFieldDescriptor (TX1 k).2.2.1 = some (tyX1 k) := by decide +kernel
abbrev cX1_init : ByteArray := prog_3_method_1_code
def yX1_init : MethodName := ⟨RX1, "<init>", "(I)V"⟩
abbrev cX1_size : ByteArray := prog_3_method_2_code
def yX1_size : MethodName := ⟨RX1, "size", "()I"⟩
abbrev cX1_isFull : ByteArray := prog_3_method_3_code
def yX1_isFull : MethodName := ⟨RX1, "isFull", "()Z"⟩
abbrev cX1_clear : ByteArray := prog_3_method_4_code
def yX1_clear : MethodName := ⟨RX1, "clear", "()V"⟩
abbrev cX1_put : ByteArray := prog_3_method_5_code
def yX1_put : MethodName := ⟨RX1, "put", "(LEitherPocket$Coat;)V"⟩
abbrev cX1_takeLast : ByteArray := prog_3_method_6_code
def yX1_takeLast : MethodName := ⟨RX1, "takeLast", "(LEitherPocket$Coat;)Z"⟩
abbrev cX1_dropOldest : ByteArray := prog_3_method_7_code
def yX1_dropOldest : MethodName := ⟨RX1, "dropOldest", "()V"⟩
def RX2 : String := "EitherPocket$Text"
def TX2 : u_T := fun k => match k with
  | 0 => ("EitherPocket$Text", "letters", "[C", true)
  | 1 => ("EitherPocket$Text", "length", "I", false)
  | 2 => ("EitherPocket$Text", "place", "I", false)
  | 3 => ("EitherPocket$Text", "first", "I", false)
  | 4 => ("EitherPocket$Text", "second", "I", false)
  | 5 => ("EitherPocket$Text", "told", "LEitherPocket$Coat;", true)
  | _ => ("EitherPocket$Text", "toldEvening", "I", false)
def tyX2 : Nat → FieldType := fun k => match k with
  | 0 => .array .char
  | 1 => .int
  | 2 => .int
  | 3 => .int
  | 4 => .int
  | 5 => .object "EitherPocket$Coat"
  | _ => .int
abbrev wsX20 : List Cond := u_ws RX2 TX2 7
theorem nmX2 : ∀ a, a < 7 → ∀ b, b < 7 → a ≠ b → (TX2 a).2.1 ≠ (TX2 b).2.1 := by decide +kernel
theorem tyX2_ok : ∀ k, k < 7 → parseFieldDescriptor (TX2 k).2.2.1 = some (tyX2 k) := by decide +kernel
abbrev cX2_init : ByteArray := prog_4_method_1_code
def yX2_init : MethodName := ⟨RX2, "<init>", "()V"⟩
abbrev cX2_size : ByteArray := prog_4_method_2_code
def yX2_size : MethodName := ⟨RX2, "size", "()I"⟩
abbrev cX2_clear : ByteArray := prog_4_method_3_code
def yX2_clear : MethodName := ⟨RX2, "clear", "()V"⟩
abbrev cX2_append : ByteArray := prog_4_method_4_code
def yX2_append : MethodName := ⟨RX2, "append", "(C)Z"⟩
abbrev cX2_firstFault : ByteArray := prog_4_method_5_code
def yX2_firstFault : MethodName := ⟨RX2, "firstFault", "()I"⟩
abbrev cX2_readItem : ByteArray := prog_4_method_6_code
def yX2_readItem : MethodName := ⟨RX2, "readItem", "()Z"⟩
abbrev cX2_tellBoxes : ByteArray := prog_4_method_7_code
def yX2_tellBoxes : MethodName := ⟨RX2, "tellBoxes", "()Z"⟩
abbrev cX2_tellHand : ByteArray := prog_4_method_8_code
def yX2_tellHand : MethodName := ⟨RX2, "tellHand", "()Z"⟩
abbrev cX2_tellLast : ByteArray := prog_4_method_9_code
def yX2_tellLast : MethodName := ⟨RX2, "tellLast", "()Z"⟩
abbrev cX2_tellEvening : ByteArray := prog_4_method_10_code
def yX2_tellEvening : MethodName := ⟨RX2, "tellEvening", "()Z"⟩
abbrev cX2_readOne : ByteArray := prog_4_method_11_code
def yX2_readOne : MethodName := ⟨RX2, "readOne", "()Z"⟩
abbrev cX2_readTwo : ByteArray := prog_4_method_12_code
def yX2_readTwo : MethodName := ⟨RX2, "readTwo", "()Z"⟩
abbrev cX2_readNumber : ByteArray := prog_4_method_13_code
def yX2_readNumber : MethodName := ⟨RX2, "readNumber", "()I"⟩
abbrev cX2_readFigure : ByteArray := prog_4_method_14_code
def yX2_readFigure : MethodName := ⟨RX2, "readFigure", "()I"⟩
abbrev cX2_readSign : ByteArray := prog_4_method_15_code
def yX2_readSign : MethodName := ⟨RX2, "readSign", "(C)Z"⟩
abbrev cX2_letterHere : ByteArray := prog_4_method_16_code
def yX2_letterHere : MethodName := ⟨RX2, "letterHere", "()C"⟩
def RX3 : String := "EitherPocket$Walk"
def TX3 : u_T := fun k => match k with
  | 0 => ("EitherPocket$Walk", "row", "[J", false)
  | 1 => ("EitherPocket$Walk", "nextRow", "[J", false)
  | 2 => ("EitherPocket$Walk", "others", "[J", true)
  | 3 => ("EitherPocket$Walk", "end", "I", false)
  | 4 => ("EitherPocket$Walk", "kind", "I", false)
  | 5 => ("EitherPocket$Walk", "x", "I", false)
  | 6 => ("EitherPocket$Walk", "matches", "I", false)
  | 7 => ("EitherPocket$Walk", "stillOn", "J", false)
  | _ => ("EitherPocket$Walk", "endedLeft", "J", false)
def tyX3 : Nat → FieldType := fun k => match k with
  | 0 => .array .long
  | 1 => .array .long
  | 2 => .array .long
  | 3 => .int
  | 4 => .int
  | 5 => .int
  | 6 => .int
  | 7 => .long
  | _ => .long
abbrev wsX30 : List Cond := u_ws RX3 TX3 9
theorem nmX3 : ∀ a, a < 9 → ∀ b, b < 9 → a ≠ b → (TX3 a).2.1 ≠ (TX3 b).2.1 := by decide +kernel
theorem tyX3_ok : ∀ k, k < 9 → parseFieldDescriptor (TX3 k).2.2.1 = some (tyX3 k) := by decide +kernel
abbrev cX3_init : ByteArray := prog_5_method_1_code
def yX3_init : MethodName := ⟨RX3, "<init>", "()V"⟩
abbrev cX3_start : ByteArray := prog_5_method_2_code
def yX3_start : MethodName := ⟨RX3, "start", "(LEitherPocket$Coat;I)V"⟩
abbrev cX3_advance : ByteArray := prog_5_method_3_code
def yX3_advance : MethodName := ⟨RX3, "advance", "(I)V"⟩
abbrev cX3_reachesTillEnd : ByteArray := prog_5_method_4_code
def yX3_reachesTillEnd : MethodName := ⟨RX3, "reachesTillEnd", "()J"⟩
abbrev cX3_keepOnly : ByteArray := prog_5_method_5_code
def yX3_keepOnly : MethodName := ⟨RX3, "keepOnly", "(II)V"⟩
abbrev cX3_standing : ByteArray := prog_5_method_6_code
def yX3_standing : MethodName := ⟨RX3, "standing", "()J"⟩
abbrev cX3_chanceOfOther : ByteArray := prog_5_method_7_code
def yX3_chanceOfOther : MethodName := ⟨RX3, "chanceOfOther", "(I)J"⟩
abbrev cX3_chanceOfLeftFirst : ByteArray := prog_5_method_8_code
def yX3_chanceOfLeftFirst : MethodName := ⟨RX3, "chanceOfLeftFirst", "()J"⟩
abbrev cX3_chanceOfLevel : ByteArray := prog_5_method_9_code
def yX3_chanceOfLevel : MethodName := ⟨RX3, "chanceOfLevel", "()J"⟩
abbrev cX3_advanceOnce : ByteArray := prog_5_method_10_code
def yX3_advanceOnce : MethodName := ⟨RX3, "advanceOnce", "()V"⟩
abbrev cX3_follow : ByteArray := prog_5_method_11_code
def yX3_follow : MethodName := ⟨RX3, "follow", "(IIIJ)V"⟩
abbrev cX3_endBy : ByteArray := prog_5_method_12_code
def yX3_endBy : MethodName := ⟨RX3, "endBy", "(IIJ)V"⟩
abbrev cX3_addTo : ByteArray := prog_5_method_13_code
def yX3_addTo : MethodName := ⟨RX3, "addTo", "([JIIJ)V"⟩
abbrev cX3_wipeRow : ByteArray := prog_5_method_14_code
def yX3_wipeRow : MethodName := ⟨RX3, "wipeRow", "([J)V"⟩
def RX4 : String := "EitherPocket"
def TX4 : u_T := fun k => match k with
  | 0 => ("EitherPocket", "text", "LEitherPocket$Text;", true)
  | 1 => ("EitherPocket", "now", "LEitherPocket$Coat;", true)
  | 2 => ("EitherPocket", "trial", "LEitherPocket$Coat;", true)
  | 3 => ("EitherPocket", "acts", "LEitherPocket$Pile;", true)
  | 4 => ("EitherPocket", "kept", "LEitherPocket$Pile;", true)
  | 5 => ("EitherPocket", "walk", "LEitherPocket$Walk;", true)
  | 6 => ("EitherPocket", "seenLeft", "[I", true)
  | 7 => ("EitherPocket", "seenRight", "[I", true)
  | 8 => ("EitherPocket", "seenCount", "I", false)
  | _ => ("EitherPocket", "evening", "I", false)
def tyX4 : Nat → FieldType := fun k => match k with
  | 0 => .object "EitherPocket$Text"
  | 1 => .object "EitherPocket$Coat"
  | 2 => .object "EitherPocket$Coat"
  | 3 => .object "EitherPocket$Pile"
  | 4 => .object "EitherPocket$Pile"
  | 5 => .object "EitherPocket$Walk"
  | 6 => .array .int
  | 7 => .array .int
  | 8 => .int
  | _ => .int
abbrev wsX40 : List Cond := u_ws RX4 TX4 10
theorem nmX4 : ∀ a, a < 10 → ∀ b, b < 10 → a ≠ b → (TX4 a).2.1 ≠ (TX4 b).2.1 := by decide +kernel
theorem tyX4_ok : ∀ k, k < 10 → parseFieldDescriptor (TX4 k).2.2.1 = some (tyX4 k) := by decide +kernel
abbrev cX4_init : ByteArray := prog_1_method_1_code
def yX4_init : MethodName := ⟨RX4, "<init>", "()V"⟩
abbrev cX4_write : ByteArray := prog_1_method_2_code
def yX4_write : MethodName := ⟨RX4, "write", "(I)I"⟩
abbrev cX4_wipe : ByteArray := prog_1_method_3_code
def yX4_wipe : MethodName := ⟨RX4, "wipe", "()I"⟩
abbrev cX4_fault : ByteArray := prog_1_method_4_code
def yX4_fault : MethodName := ⟨RX4, "fault", "()I"⟩
abbrev cX4_lay : ByteArray := prog_1_method_5_code
def yX4_lay : MethodName := ⟨RX4, "lay", "()I"⟩
abbrev cX4_box : ByteArray := prog_1_method_6_code
def yX4_box : MethodName := ⟨RX4, "box", "(I)I"⟩
abbrev cX4_quarters : ByteArray := prog_1_method_7_code
def yX4_quarters : MethodName := ⟨RX4, "quarters", "(I)I"⟩
abbrev cX4_reach : ByteArray := prog_1_method_8_code
def yX4_reach : MethodName := ⟨RX4, "reach", "(I)I"⟩
abbrev cX4_putOver : ByteArray := prog_1_method_9_code
def yX4_putOver : MethodName := ⟨RX4, "putOver", "(II)I"⟩
abbrev cX4_buy : ByteArray := prog_1_method_10_code
def yX4_buy : MethodName := ⟨RX4, "buy", "(I)I"⟩
abbrev cX4_hand : ByteArray := prog_1_method_11_code
def yX4_hand : MethodName := ⟨RX4, "hand", "(II)I"⟩
abbrev cX4_undo : ByteArray := prog_1_method_12_code
def yX4_undo : MethodName := ⟨RX4, "undo", "()I"⟩
abbrev cX4_left : ByteArray := prog_1_method_13_code
def yX4_left : MethodName := ⟨RX4, "left", "(II)I"⟩
abbrev cX4_mean : ByteArray := prog_1_method_14_code
def yX4_mean : MethodName := ⟨RX4, "mean", "(I)I"⟩
abbrev cX4_soon : ByteArray := prog_1_method_15_code
def yX4_soon : MethodName := ⟨RX4, "soon", "(II)I"⟩
abbrev cX4_times : ByteArray := prog_1_method_16_code
def yX4_times : MethodName := ⟨RX4, "times", "(I)I"⟩
abbrev cX4_likeliest : ByteArray := prog_1_method_17_code
def yX4_likeliest : MethodName := ⟨RX4, "likeliest", "(I)I"⟩
abbrev cX4_level : ByteArray := prog_1_method_18_code
def yX4_level : MethodName := ⟨RX4, "level", "(I)I"⟩
abbrev cX4_worth : ByteArray := prog_1_method_19_code
def yX4_worth : MethodName := ⟨RX4, "worth", "(I)I"⟩
abbrev cX4_begin : ByteArray := prog_1_method_20_code
def yX4_begin : MethodName := ⟨RX4, "begin", "(III)I"⟩
abbrev cX4_over : ByteArray := prog_1_method_21_code
def yX4_over : MethodName := ⟨RX4, "over", "(I)I"⟩
abbrev cX4_seen : ByteArray := prog_1_method_22_code
def yX4_seen : MethodName := ⟨RX4, "seen", "(II)I"⟩
abbrev cX4_forget : ByteArray := prog_1_method_23_code
def yX4_forget : MethodName := ⟨RX4, "forget", "()I"⟩
abbrev cX4_fits : ByteArray := prog_1_method_24_code
def yX4_fits : MethodName := ⟨RX4, "fits", "()I"⟩
abbrev cX4_asLikely : ByteArray := prog_1_method_25_code
def yX4_asLikely : MethodName := ⟨RX4, "asLikely", "(II)I"⟩
abbrev cX4_evenings : ByteArray := prog_1_method_26_code
def yX4_evenings : MethodName := ⟨RX4, "evenings", "(I)I"⟩
abbrev cX4_which : ByteArray := prog_1_method_27_code
def yX4_which : MethodName := ⟨RX4, "which", "()I"⟩
abbrev cX4_better : ByteArray := prog_1_method_28_code
def yX4_better : MethodName := ⟨RX4, "better", "(IIII)I"⟩
abbrev cX4_coat : ByteArray := prog_1_method_29_code
def yX4_coat : MethodName := ⟨RX4, "coat", "(III)I"⟩
abbrev cX4_keep : ByteArray := prog_1_method_30_code
def yX4_keep : MethodName := ⟨RX4, "keep", "()I"⟩
abbrev cX4_back : ByteArray := prog_1_method_31_code
def yX4_back : MethodName := ⟨RX4, "back", "()I"⟩
abbrev cX4_count : ByteArray := prog_1_method_32_code
def yX4_count : MethodName := ⟨RX4, "count", "(I)I"⟩
abbrev cX4_startFrom : ByteArray := prog_1_method_33_code
def yX4_startFrom : MethodName := ⟨RX4, "startFrom", "(III)V"⟩
abbrev cX4_walkToEnd : ByteArray := prog_1_method_34_code
def yX4_walkToEnd : MethodName := ⟨RX4, "walkToEnd", "(I)J"⟩
abbrev cX4_reachesWith : ByteArray := prog_1_method_35_code
def yX4_reachesWith : MethodName := ⟨RX4, "reachesWith", "(II)J"⟩
abbrev cX4_startByHand : ByteArray := prog_1_method_36_code
def yX4_startByHand : MethodName := ⟨RX4, "startByHand", "(II)V"⟩
abbrev cX4_reachesByHand : ByteArray := prog_1_method_37_code
def yX4_reachesByHand : MethodName := ⟨RX4, "reachesByHand", "(II)J"⟩
abbrev cX4_likeliestQuarters : ByteArray := prog_1_method_38_code
def yX4_likeliestQuarters : MethodName := ⟨RX4, "likeliestQuarters", "(I)I"⟩
abbrev cX4_chanceOfSeen : ByteArray := prog_1_method_39_code
def yX4_chanceOfSeen : MethodName := ⟨RX4, "chanceOfSeen", "(II)J"⟩
abbrev cX4_drawOf : ByteArray := prog_1_method_40_code
def yX4_drawOf : MethodName := ⟨RX4, "drawOf", "(II)I"⟩
abbrev cX4_tenThousandths : ByteArray := prog_1_method_41_code
def yX4_tenThousandths : MethodName := ⟨RX4, "tenThousandths", "(J)I"⟩
abbrev cX4_hundredfold : ByteArray := prog_1_method_42_code
def yX4_hundredfold : MethodName := ⟨RX4, "hundredfold", "(J)I"⟩
abbrev cX4_handToLeft : ByteArray := prog_1_method_43_code
def yX4_handToLeft : MethodName := ⟨RX4, "handToLeft", "(IIIII)I"⟩
abbrev cX4_leaning : ByteArray := prog_1_method_44_code
def yX4_leaning : MethodName := ⟨RX4, "leaning", "(IZZ)I"⟩
abbrev cX4_otherSide : ByteArray := prog_1_method_45_code
def yX4_otherSide : MethodName := ⟨RX4, "otherSide", "(I)I"⟩
abbrev cX4_within : ByteArray := prog_1_method_46_code
def yX4_within : MethodName := ⟨RX4, "within", "(III)Z"⟩
abbrev cX4_isSide : ByteArray := prog_1_method_47_code
def yX4_isSide : MethodName := ⟨RX4, "isSide", "(I)Z"⟩
abbrev cX4_isEnd : ByteArray := prog_1_method_48_code
def yX4_isEnd : MethodName := ⟨RX4, "isEnd", "(I)Z"⟩
abbrev cX4_isPart : ByteArray := prog_1_method_49_code
def yX4_isPart : MethodName := ⟨RX4, "isPart", "(I)Z"⟩
abbrev cX4_isKind : ByteArray := prog_1_method_50_code
def yX4_isKind : MethodName := ⟨RX4, "isKind", "(I)Z"⟩
abbrev cX4_isHand : ByteArray := prog_1_method_51_code
def yX4_isHand : MethodName := ⟨RX4, "isHand", "(II)Z"⟩
def RX5 : String := "EitherPocketModel"
def TX5 : u_T := fun k => match k with
  | 0 => ("EitherPocketModel", "text", "[I", true)
  | 1 => ("EitherPocketModel", "typed", "I", false)
  | 2 => ("EitherPocketModel", "draft", "[I", true)
  | 3 => ("EitherPocketModel", "s", "[I", true)
  | 4 => ("EitherPocketModel", "evening", "I", false)
  | 5 => ("EitherPocketModel", "past", "[I", true)
  | 6 => ("EitherPocketModel", "known", "I", false)
  | 7 => ("EitherPocketModel", "images", "[I", true)
  | 8 => ("EitherPocketModel", "kept", "I", false)
  | 9 => ("EitherPocketModel", "seen", "[I", true)
  | 10 => ("EitherPocketModel", "sights", "I", false)
  | 11 => ("EitherPocketModel", "at", "I", false)
  | 12 => ("EitherPocketModel", "here", "[J", true)
  | 13 => ("EitherPocketModel", "next", "[J", true)
  | 14 => ("EitherPocketModel", "rest", "[J", true)
  | 15 => ("EitherPocketModel", "soon", "[J", true)
  | _ => ("EitherPocketModel", "first", "J", false)
def tyX5 : Nat → FieldType := fun k => match k with
  | 0 => .array .int
  | 1 => .int
  | 2 => .array .int
  | 3 => .array .int
  | 4 => .int
  | 5 => .array .int
  | 6 => .int
  | 7 => .array .int
  | 8 => .int
  | 9 => .array .int
  | 10 => .int
  | 11 => .int
  | 12 => .array .long
  | 13 => .array .long
  | 14 => .array .long
  | 15 => .array .long
  | _ => .long
abbrev wsX50 : List Cond := u_ws RX5 TX5 17
theorem nmX5 : ∀ a, a < 17 → ∀ b, b < 17 → a ≠ b → (TX5 a).2.1 ≠ (TX5 b).2.1 := by decide +kernel
theorem tyX5_ok : ∀ k, k < 17 → parseFieldDescriptor (TX5 k).2.2.1 = some (tyX5 k) := by decide +kernel
abbrev cX5_init : ByteArray := prog_7_method_1_code
def yX5_init : MethodName := ⟨RX5, "<init>", "()V"⟩
abbrev cX5_in : ByteArray := prog_7_method_3_code
def yX5_in : MethodName := ⟨RX5, "in", "(III)Z"⟩
abbrev cX5_write : ByteArray := prog_7_method_4_code
def yX5_write : MethodName := ⟨RX5, "write", "(I)I"⟩
abbrev cX5_wipe : ByteArray := prog_7_method_5_code
def yX5_wipe : MethodName := ⟨RX5, "wipe", "()I"⟩
abbrev cX5_letterAt : ByteArray := prog_7_method_6_code
def yX5_letterAt : MethodName := ⟨RX5, "letterAt", "(I)I"⟩
abbrev cX5_isFigure : ByteArray := prog_7_method_7_code
def yX5_isFigure : MethodName := ⟨RX5, "isFigure", "(I)Z"⟩
abbrev cX5_number : ByteArray := prog_7_method_8_code
def yX5_number : MethodName := ⟨RX5, "number", "(III)I"⟩
abbrev cX5_begins : ByteArray := prog_7_method_9_code
def yX5_begins : MethodName := ⟨RX5, "begins", "()V"⟩
abbrev cX5_readsTwo : ByteArray := prog_7_method_10_code
def yX5_readsTwo : MethodName := ⟨RX5, "readsTwo", "(III)Z"⟩
abbrev cX5_readsItem : ByteArray := prog_7_method_11_code
def yX5_readsItem : MethodName := ⟨RX5, "readsItem", "(I)Z"⟩
abbrev cX5_readsAll : ByteArray := prog_7_method_12_code
def yX5_readsAll : MethodName := ⟨RX5, "readsAll", "()I"⟩
abbrev cX5_fault : ByteArray := prog_7_method_13_code
def yX5_fault : MethodName := ⟨RX5, "fault", "()I"⟩
abbrev cX5_lays : ByteArray := prog_7_method_14_code
def yX5_lays : MethodName := ⟨RX5, "lays", "()V"⟩
abbrev cX5_lay : ByteArray := prog_7_method_15_code
def yX5_lay : MethodName := ⟨RX5, "lay", "()I"⟩
abbrev cX5_box : ByteArray := prog_7_method_16_code
def yX5_box : MethodName := ⟨RX5, "box", "(I)I"⟩
abbrev cX5_toLeft : ByteArray := prog_7_method_17_code
def yX5_toLeft : MethodName := ⟨RX5, "toLeft", "(IIIII)I"⟩
abbrev cX5_quarters : ByteArray := prog_7_method_18_code
def yX5_quarters : MethodName := ⟨RX5, "quarters", "(I)I"⟩
abbrev cX5_keeps : ByteArray := prog_7_method_19_code
def yX5_keeps : MethodName := ⟨RX5, "keeps", "()V"⟩
abbrev cX5_reach : ByteArray := prog_7_method_20_code
def yX5_reach : MethodName := ⟨RX5, "reach", "(I)I"⟩
abbrev cX5_putOver : ByteArray := prog_7_method_21_code
def yX5_putOver : MethodName := ⟨RX5, "putOver", "(II)I"⟩
abbrev cX5_buy : ByteArray := prog_7_method_22_code
def yX5_buy : MethodName := ⟨RX5, "buy", "(I)I"⟩
abbrev cX5_hand : ByteArray := prog_7_method_23_code
def yX5_hand : MethodName := ⟨RX5, "hand", "(II)I"⟩
abbrev cX5_undo : ByteArray := prog_7_method_24_code
def yX5_undo : MethodName := ⟨RX5, "undo", "()I"⟩
abbrev cX5_spot : ByteArray := prog_7_method_25_code
def yX5_spot : MethodName := ⟨RX5, "spot", "(III)I"⟩
abbrev cX5_begin0 : ByteArray := prog_7_method_26_code
def yX5_begin0 : MethodName := ⟨RX5, "begin0", "(III)V"⟩
abbrev cX5_goes : ByteArray := prog_7_method_27_code
def yX5_goes : MethodName := ⟨RX5, "goes", "(IIIIJ)V"⟩
abbrev cX5_clears : ByteArray := prog_7_method_28_code
def yX5_clears : MethodName := ⟨RX5, "clears", "()V"⟩
abbrev cX5_weighs : ByteArray := prog_7_method_29_code
def yX5_weighs : MethodName := ⟨RX5, "weighs", "(IIIII)V"⟩
abbrev cX5_weighsNow : ByteArray := prog_7_method_30_code
def yX5_weighsNow : MethodName := ⟨RX5, "weighsNow", "(I)V"⟩
abbrev cX5_cut : ByteArray := prog_7_method_31_code
def yX5_cut : MethodName := ⟨RX5, "cut", "(JJ)I"⟩
abbrev cX5_isEnd : ByteArray := prog_7_method_32_code
def yX5_isEnd : MethodName := ⟨RX5, "isEnd", "(I)Z"⟩
abbrev cX5_left : ByteArray := prog_7_method_33_code
def yX5_left : MethodName := ⟨RX5, "left", "(II)I"⟩
abbrev cX5_mean : ByteArray := prog_7_method_34_code
def yX5_mean : MethodName := ⟨RX5, "mean", "(I)I"⟩
abbrev cX5_within : ByteArray := prog_7_method_35_code
def yX5_within : MethodName := ⟨RX5, "within", "(I)J"⟩
abbrev cX5_soon : ByteArray := prog_7_method_36_code
def yX5_soon : MethodName := ⟨RX5, "soon", "(II)I"⟩
abbrev cX5_reaches : ByteArray := prog_7_method_37_code
def yX5_reaches : MethodName := ⟨RX5, "reaches", "()J"⟩
abbrev cX5_times : ByteArray := prog_7_method_38_code
def yX5_times : MethodName := ⟨RX5, "times", "(I)I"⟩
abbrev cX5_likeliest : ByteArray := prog_7_method_39_code
def yX5_likeliest : MethodName := ⟨RX5, "likeliest", "(I)I"⟩
abbrev cX5_level : ByteArray := prog_7_method_40_code
def yX5_level : MethodName := ⟨RX5, "level", "(I)I"⟩
abbrev cX5_reachesFrom : ByteArray := prog_7_method_41_code
def yX5_reachesFrom : MethodName := ⟨RX5, "reachesFrom", "(II)J"⟩
abbrev cX5_worth : ByteArray := prog_7_method_42_code
def yX5_worth : MethodName := ⟨RX5, "worth", "(I)I"⟩
abbrev cX5_begin : ByteArray := prog_7_method_43_code
def yX5_begin : MethodName := ⟨RX5, "begin", "(III)I"⟩
abbrev cX5_over : ByteArray := prog_7_method_44_code
def yX5_over : MethodName := ⟨RX5, "over", "(I)I"⟩
abbrev cX5_seen : ByteArray := prog_7_method_45_code
def yX5_seen : MethodName := ⟨RX5, "seen", "(II)I"⟩
abbrev cX5_forget : ByteArray := prog_7_method_46_code
def yX5_forget : MethodName := ⟨RX5, "forget", "()I"⟩
abbrev cX5_sightsBy : ByteArray := prog_7_method_47_code
def yX5_sightsBy : MethodName := ⟨RX5, "sightsBy", "(II)J"⟩
abbrev cX5_fits : ByteArray := prog_7_method_48_code
def yX5_fits : MethodName := ⟨RX5, "fits", "()I"⟩
abbrev cX5_asLikely : ByteArray := prog_7_method_49_code
def yX5_asLikely : MethodName := ⟨RX5, "asLikely", "(II)I"⟩
abbrev cX5_evenings : ByteArray := prog_7_method_50_code
def yX5_evenings : MethodName := ⟨RX5, "evenings", "(I)I"⟩
abbrev cX5_which : ByteArray := prog_7_method_51_code
def yX5_which : MethodName := ⟨RX5, "which", "()I"⟩
abbrev cX5_better : ByteArray := prog_7_method_52_code
def yX5_better : MethodName := ⟨RX5, "better", "(IIII)I"⟩
abbrev cX5_coat : ByteArray := prog_7_method_53_code
def yX5_coat : MethodName := ⟨RX5, "coat", "(III)I"⟩
abbrev cX5_keep : ByteArray := prog_7_method_54_code
def yX5_keep : MethodName := ⟨RX5, "keep", "()I"⟩
abbrev cX5_back : ByteArray := prog_7_method_55_code
def yX5_back : MethodName := ⟨RX5, "back", "()I"⟩
abbrev cX5_count : ByteArray := prog_7_method_56_code
def yX5_count : MethodName := ⟨RX5, "count", "(I)I"⟩
def RJ9 : String := "java/lang/Math"
def TJ9 : u_T := fun k => match k with
  | _ => ("", "", "", false)
def tyJ9 : Nat → FieldType := fun k => match k with
  | _ => .int
abbrev wsJ90 : List Cond := u_ws RJ9 TJ9 0
theorem nmJ9 : ∀ a, a < 0 → ∀ b, b < 0 → a ≠ b → (TJ9 a).2.1 ≠ (TJ9 b).2.1 := by decide +kernel
theorem tyJ9_ok : ∀ k, k < 0 → parseFieldDescriptor (TJ9 k).2.2.1 = some (tyJ9 k) := by decide +kernel
abbrev cJ9_max_7cf53 : ByteArray := prog_8_method_65_code
def yJ9_max_7cf53 : MethodName := ⟨RJ9, "max", "(II)I"⟩
def RL : String := "EitherPocketLaw"
abbrev cL_law : ByteArray := code
def yL_law : MethodName := ⟨RL, "law", "([I)Z"⟩
theorem inJ9 : ∀ w ∈ wsJ90, w ∈ lw_tbl := by decide +kernel
abbrev vwCl : List vw_C := [(RX0, TX0, 5), (RX1, TX1, 2), (RX2, TX2, 7), (RX3, TX3, 9), (RX4, TX4, 10), (RX5, TX5, 17)]
end
section
/-! the words that travel (TB), and the nest mates' words (in KK) -/
def TB : List Cond := lw_tbl.filter goodWord
theorem TB_good : ∀ w ∈ TB, (w.onTables && w.keeps) = true ∨ ∃ ty, w = .arrayClass ty := fun w h => good_of_word (List.mem_filter.mp h).2
theorem TB_in : ∀ w ∈ TB, w ∈ lw_tbl := fun w h => (List.mem_filter.mp h).1
theorem tb {w : Cond} (h : w ∈ tables_1) (hg : goodWord w = true) : w ∈ TB := List.mem_filter.mpr ⟨List.mem_append_right _ h, hg⟩
theorem tbs {w : Cond} (h : w ∈ k2_sels lw_privs) (hg : goodWord w = true) : w ∈ TB := List.mem_filter.mpr ⟨List.mem_append_left _ h, hg⟩
def isN : Cond → Bool
  | .methodLinkNest _ _ _ _ => true
  | _ => false
theorem mem_places {ws big : List Cond} (ps : List Nat) (h : ws = ps.filterMap (fun i => big[i]?)) : ∀ w ∈ ws, w ∈ big := by
  intro w hw
  rw [h] at hw
  obtain ⟨i, -, hi⟩ := List.mem_filterMap.mp hw
  exact List.mem_of_getElem? hi

theorem tw_0 : Cond.initialized RL ∈ TB := tb (List.mem_of_getElem? (i := 0) (by decide +kernel)) rfl
theorem tw_1 : Cond.initialized RX4 ∈ TB := tb (List.mem_of_getElem? (i := 1) (by decide +kernel)) rfl
theorem tw_2 : Cond.initialized RX2 ∈ TB := tb (List.mem_of_getElem? (i := 2) (by decide +kernel)) rfl
theorem tw_3 : Cond.initialized RX0 ∈ TB := tb (List.mem_of_getElem? (i := 3) (by decide +kernel)) rfl
theorem tw_4 : Cond.initialized RX1 ∈ TB := tb (List.mem_of_getElem? (i := 4) (by decide +kernel)) rfl
theorem tw_5 : Cond.initialized "java/lang/Math" ∈ TB := tb (List.mem_of_getElem? (i := 5) (by decide +kernel)) rfl
theorem tw_6 : Cond.initialized RX3 ∈ TB := tb (List.mem_of_getElem? (i := 6) (by decide +kernel)) rfl
theorem tw_7 : Cond.initialized RX5 ∈ TB := tb (List.mem_of_getElem? (i := 7) (by decide +kernel)) rfl
theorem tw_8 : Cond.classLink RL 7 RX4 ∈ TB := tb (List.mem_of_getElem? (i := 8) (by decide +kernel)) rfl
theorem tw_9 : Cond.instantiable RX4 10 ∈ TB := tb (List.mem_of_getElem? (i := 9) (by decide +kernel)) rfl
theorem tw_10 : Cond.methodLink RL 9 yX4_init ∈ TB := tb (List.mem_of_getElem? (i := 10) (by decide +kernel)) rfl
theorem tw_11 : Cond.instanceMethod yX4_init ∈ TB := tb (List.mem_of_getElem? (i := 11) (by decide +kernel)) rfl
theorem tw_12 : Cond.code yX4_init cX4_init 1 none ∈ TB := tb (List.mem_of_getElem? (i := 12) (by decide +kernel)) rfl
theorem tw_13 : Cond.methodLink RX4 1 Lib.objectInit ∈ TB := tb (List.mem_of_getElem? (i := 13) (by decide +kernel)) rfl
theorem tw_14 : Cond.instanceMethod Lib.objectInit ∈ TB := tb (List.mem_of_getElem? (i := 14) (by decide +kernel)) rfl
theorem tw_15 : Cond.code Lib.objectInit ⟨#[0xb1]⟩ 1 none ∈ TB := tb (List.mem_of_getElem? (i := 15) (by decide +kernel)) rfl
theorem tw_16 : Cond.classLink RX4 7 RX2 ∈ TB := tb (List.mem_of_getElem? (i := 16) (by decide +kernel)) rfl
theorem tw_17 : Cond.instantiable RX2 7 ∈ TB := tb (List.mem_of_getElem? (i := 17) (by decide +kernel)) rfl
theorem tw_18 : Cond.methodLinkNest RX4 9 yX2_init "EitherPocket" ∈ tables_1 := List.mem_of_getElem? (i := 18) (by decide +kernel)
theorem tw_19 : Cond.instanceMethod yX2_init ∈ TB := tb (List.mem_of_getElem? (i := 19) (by decide +kernel)) rfl
theorem tw_20 : Cond.code yX2_init cX2_init 1 none ∈ TB := tb (List.mem_of_getElem? (i := 20) (by decide +kernel)) rfl
theorem tw_21 : Cond.methodLink RX2 3 Lib.objectInit ∈ TB := tb (List.mem_of_getElem? (i := 21) (by decide +kernel)) rfl
theorem tw_22 : Cond.classLink RX2 28 RX0 ∈ TB := tb (List.mem_of_getElem? (i := 22) (by decide +kernel)) rfl
theorem tw_23 : Cond.instantiable RX0 5 ∈ TB := tb (List.mem_of_getElem? (i := 23) (by decide +kernel)) rfl
theorem tw_24 : Cond.methodLinkNest RX2 30 yX0_init "EitherPocket" ∈ tables_1 := List.mem_of_getElem? (i := 24) (by decide +kernel)
theorem tw_25 : Cond.instanceMethod yX0_init ∈ TB := tb (List.mem_of_getElem? (i := 25) (by decide +kernel)) rfl
theorem tw_26 : Cond.code yX0_init cX0_init 1 none ∈ TB := tb (List.mem_of_getElem? (i := 26) (by decide +kernel)) rfl
theorem tw_27 : Cond.methodLink RX0 3 Lib.objectInit ∈ TB := tb (List.mem_of_getElem? (i := 27) (by decide +kernel)) rfl
theorem tw_28 : Cond.fieldLink RX0 9 "EitherPocket$Coat" "left" "I" ∈ TB := tb (List.mem_of_getElem? (i := 28) (by decide +kernel)) rfl
theorem tw_29 : Cond.fieldLink RX3 54 "EitherPocket$Coat" "left" "I" ∈ TB := tb (List.mem_of_getElem? (i := 29) (by decide +kernel)) rfl
theorem tw_30 : Cond.fieldLink RX4 156 "EitherPocket$Coat" "left" "I" ∈ TB := tb (List.mem_of_getElem? (i := 30) (by decide +kernel)) rfl
theorem tw_31 : Cond.fieldLink RX0 15 "EitherPocket$Coat" "right" "I" ∈ TB := tb (List.mem_of_getElem? (i := 31) (by decide +kernel)) rfl
theorem tw_32 : Cond.fieldLink RX3 57 "EitherPocket$Coat" "right" "I" ∈ TB := tb (List.mem_of_getElem? (i := 32) (by decide +kernel)) rfl
theorem tw_33 : Cond.fieldLink RX4 159 "EitherPocket$Coat" "right" "I" ∈ TB := tb (List.mem_of_getElem? (i := 33) (by decide +kernel)) rfl
theorem tw_34 : Cond.fieldLink RX4 66 "EitherPocket$Coat" "last" "I" ∈ TB := tb (List.mem_of_getElem? (i := 34) (by decide +kernel)) rfl
theorem tw_35 : Cond.fieldLink RX0 18 "EitherPocket$Coat" "last" "I" ∈ TB := tb (List.mem_of_getElem? (i := 35) (by decide +kernel)) rfl
theorem tw_36 : Cond.fieldLink RX3 64 "EitherPocket$Coat" "last" "I" ∈ TB := tb (List.mem_of_getElem? (i := 36) (by decide +kernel)) rfl
theorem tw_37 : Cond.fieldLink RX2 49 "EitherPocket$Coat" "last" "I" ∈ TB := tb (List.mem_of_getElem? (i := 37) (by decide +kernel)) rfl
theorem tw_38 : Cond.fieldLink RX3 45 "EitherPocket$Coat" "kind" "I" ∈ TB := tb (List.mem_of_getElem? (i := 38) (by decide +kernel)) rfl
theorem tw_39 : Cond.fieldLink RX0 21 "EitherPocket$Coat" "kind" "I" ∈ TB := tb (List.mem_of_getElem? (i := 39) (by decide +kernel)) rfl
theorem tw_40 : Cond.fieldLink RX4 128 "EitherPocket$Coat" "kind" "I" ∈ TB := tb (List.mem_of_getElem? (i := 40) (by decide +kernel)) rfl
theorem tw_41 : Cond.fieldLink RX3 48 "EitherPocket$Coat" "x" "I" ∈ TB := tb (List.mem_of_getElem? (i := 41) (by decide +kernel)) rfl
theorem tw_42 : Cond.fieldLink RX0 24 "EitherPocket$Coat" "x" "I" ∈ TB := tb (List.mem_of_getElem? (i := 42) (by decide +kernel)) rfl
theorem tw_43 : Cond.fieldLink RX4 131 "EitherPocket$Coat" "x" "I" ∈ TB := tb (List.mem_of_getElem? (i := 43) (by decide +kernel)) rfl
theorem tw_55 : Cond.arrayClass .char ∈ TB := tb (List.mem_of_getElem? (i := 55) (by decide +kernel)) rfl
theorem tw_56 : Cond.fieldLink RX2 9 "EitherPocket$Text" "letters" "[C" ∈ TB := tb (List.mem_of_getElem? (i := 56) (by decide +kernel)) rfl
theorem tw_57 : Cond.fieldLink RX2 15 "EitherPocket$Text" "length" "I" ∈ TB := tb (List.mem_of_getElem? (i := 57) (by decide +kernel)) rfl
theorem tw_58 : Cond.fieldLink RX2 19 "EitherPocket$Text" "place" "I" ∈ TB := tb (List.mem_of_getElem? (i := 58) (by decide +kernel)) rfl
theorem tw_59 : Cond.fieldLink RX2 22 "EitherPocket$Text" "first" "I" ∈ TB := tb (List.mem_of_getElem? (i := 59) (by decide +kernel)) rfl
theorem tw_60 : Cond.fieldLink RX2 25 "EitherPocket$Text" "second" "I" ∈ TB := tb (List.mem_of_getElem? (i := 60) (by decide +kernel)) rfl
theorem tw_61 : Cond.fieldLink RX2 31 "EitherPocket$Text" "told" "LEitherPocket$Coat;" ∈ TB := tb (List.mem_of_getElem? (i := 61) (by decide +kernel)) rfl
theorem tw_62 : Cond.fieldLink RX4 87 "EitherPocket$Text" "told" "LEitherPocket$Coat;" ∈ TB := tb (List.mem_of_getElem? (i := 62) (by decide +kernel)) rfl
theorem tw_63 : Cond.fieldLink RX2 35 "EitherPocket$Text" "toldEvening" "I" ∈ TB := tb (List.mem_of_getElem? (i := 63) (by decide +kernel)) rfl
theorem tw_64 : Cond.fieldLink RX4 94 "EitherPocket$Text" "toldEvening" "I" ∈ TB := tb (List.mem_of_getElem? (i := 64) (by decide +kernel)) rfl
theorem tw_80 : Cond.classLink RX4 16 RX0 ∈ TB := tb (List.mem_of_getElem? (i := 80) (by decide +kernel)) rfl
theorem tw_81 : Cond.methodLinkNest RX4 18 yX0_init "EitherPocket" ∈ tables_1 := List.mem_of_getElem? (i := 81) (by decide +kernel)
theorem tw_82 : Cond.classLink RX4 26 RX1 ∈ TB := tb (List.mem_of_getElem? (i := 82) (by decide +kernel)) rfl
theorem tw_83 : Cond.instantiable RX1 2 ∈ TB := tb (List.mem_of_getElem? (i := 83) (by decide +kernel)) rfl
theorem tw_84 : Cond.methodLink RX4 28 yX1_init ∈ TB := tb (List.mem_of_getElem? (i := 84) (by decide +kernel)) rfl
theorem tw_85 : Cond.instanceMethod yX1_init ∈ TB := tb (List.mem_of_getElem? (i := 85) (by decide +kernel)) rfl
theorem tw_86 : Cond.code yX1_init cX1_init 3 none ∈ TB := tb (List.mem_of_getElem? (i := 86) (by decide +kernel)) rfl
theorem tw_87 : Cond.methodLink RX1 1 Lib.objectInit ∈ TB := tb (List.mem_of_getElem? (i := 87) (by decide +kernel)) rfl
theorem tw_88 : Cond.methodLink RX1 13 Lib.Math.max.name ∈ TB := tb (List.mem_of_getElem? (i := 88) (by decide +kernel)) rfl
theorem tw_89 : Cond.static Lib.Math.max.name ∈ TB := tb (List.mem_of_getElem? (i := 89) (by decide +kernel)) rfl
theorem tw_90 : Cond.code Lib.Math.max.name Lib.Math.max.code 2 (some .int) ∈ TB := tb (List.mem_of_getElem? (i := 90) (by decide +kernel)) rfl
theorem tw_91 : Cond.classLink RX1 19 RX0 ∈ TB := tb (List.mem_of_getElem? (i := 91) (by decide +kernel)) rfl
theorem tw_92 : Cond.arrayOver (.object "EitherPocket$Coat") ∈ tables_1 := List.mem_of_getElem? (i := 92) (by decide +kernel)
theorem tw_93 : Cond.methodLinkNest RX1 25 yX0_init "EitherPocket" ∈ tables_1 := List.mem_of_getElem? (i := 93) (by decide +kernel)
theorem tw_94 : Cond.fieldLink RX1 21 "EitherPocket$Pile" "coats" "[LEitherPocket$Coat;" ∈ TB := tb (List.mem_of_getElem? (i := 94) (by decide +kernel)) rfl
theorem tw_95 : Cond.fieldLink RX1 7 "EitherPocket$Pile" "size" "I" ∈ TB := tb (List.mem_of_getElem? (i := 95) (by decide +kernel)) rfl
theorem tw_101 : Cond.classLink RX4 38 RX3 ∈ TB := tb (List.mem_of_getElem? (i := 101) (by decide +kernel)) rfl
theorem tw_102 : Cond.instantiable RX3 9 ∈ TB := tb (List.mem_of_getElem? (i := 102) (by decide +kernel)) rfl
theorem tw_103 : Cond.methodLinkNest RX4 40 yX3_init "EitherPocket" ∈ tables_1 := List.mem_of_getElem? (i := 103) (by decide +kernel)
theorem tw_104 : Cond.instanceMethod yX3_init ∈ TB := tb (List.mem_of_getElem? (i := 104) (by decide +kernel)) rfl
theorem tw_105 : Cond.code yX3_init cX3_init 1 none ∈ TB := tb (List.mem_of_getElem? (i := 105) (by decide +kernel)) rfl
theorem tw_106 : Cond.methodLink RX3 3 Lib.objectInit ∈ TB := tb (List.mem_of_getElem? (i := 106) (by decide +kernel)) rfl
theorem tw_107 : Cond.fieldLink RX3 11 "EitherPocket$Walk" "row" "[J" ∈ TB := tb (List.mem_of_getElem? (i := 107) (by decide +kernel)) rfl
theorem tw_108 : Cond.fieldLink RX3 15 "EitherPocket$Walk" "nextRow" "[J" ∈ TB := tb (List.mem_of_getElem? (i := 108) (by decide +kernel)) rfl
theorem tw_109 : Cond.fieldLink RX3 18 "EitherPocket$Walk" "others" "[J" ∈ TB := tb (List.mem_of_getElem? (i := 109) (by decide +kernel)) rfl
theorem tw_110 : Cond.fieldLink RX3 21 "EitherPocket$Walk" "end" "I" ∈ TB := tb (List.mem_of_getElem? (i := 110) (by decide +kernel)) rfl
theorem tw_111 : Cond.fieldLink RX3 25 "EitherPocket$Walk" "kind" "I" ∈ TB := tb (List.mem_of_getElem? (i := 111) (by decide +kernel)) rfl
theorem tw_112 : Cond.fieldLink RX3 28 "EitherPocket$Walk" "x" "I" ∈ TB := tb (List.mem_of_getElem? (i := 112) (by decide +kernel)) rfl
theorem tw_113 : Cond.fieldLink RX3 31 "EitherPocket$Walk" "matches" "I" ∈ TB := tb (List.mem_of_getElem? (i := 113) (by decide +kernel)) rfl
theorem tw_114 : Cond.fieldLink RX3 34 "EitherPocket$Walk" "stillOn" "J" ∈ TB := tb (List.mem_of_getElem? (i := 114) (by decide +kernel)) rfl
theorem tw_115 : Cond.fieldLink RX3 38 "EitherPocket$Walk" "endedLeft" "J" ∈ TB := tb (List.mem_of_getElem? (i := 115) (by decide +kernel)) rfl
theorem tw_135 : Cond.arrayClass .long ∈ TB := tb (List.mem_of_getElem? (i := 135) (by decide +kernel)) rfl
theorem tw_136 : Cond.methodLink RX4 59 yX0_setBoxes ∈ TB := tb (List.mem_of_getElem? (i := 136) (by decide +kernel)) rfl
theorem tw_137 : Cond.instanceMethod yX0_setBoxes ∈ TB := tb (List.mem_of_getElem? (i := 137) (by decide +kernel)) rfl
theorem tw_138 : Cond.selects RX0 yX0_setBoxes yX0_setBoxes ∈ TB := tb (List.mem_of_getElem? (i := 138) (by decide +kernel)) rfl
theorem tw_139 : Cond.code yX0_setBoxes cX0_setBoxes 3 none ∈ TB := tb (List.mem_of_getElem? (i := 139) (by decide +kernel)) rfl
theorem tw_140 : Cond.methodLink RX4 63 yX0_setHand ∈ TB := tb (List.mem_of_getElem? (i := 140) (by decide +kernel)) rfl
theorem tw_141 : Cond.instanceMethod yX0_setHand ∈ TB := tb (List.mem_of_getElem? (i := 141) (by decide +kernel)) rfl
theorem tw_142 : Cond.selects RX0 yX0_setHand yX0_setHand ∈ TB := tb (List.mem_of_getElem? (i := 142) (by decide +kernel)) rfl
theorem tw_143 : Cond.code yX0_setHand cX0_setHand 3 none ∈ TB := tb (List.mem_of_getElem? (i := 143) (by decide +kernel)) rfl
theorem tw_144 : Cond.fieldLink RX4 10 "EitherPocket" "text" "LEitherPocket$Text;" ∈ TB := tb (List.mem_of_getElem? (i := 144) (by decide +kernel)) rfl
theorem tw_145 : Cond.fieldLink RX4 19 "EitherPocket" "now" "LEitherPocket$Coat;" ∈ TB := tb (List.mem_of_getElem? (i := 145) (by decide +kernel)) rfl
theorem tw_146 : Cond.fieldLink RX4 23 "EitherPocket" "trial" "LEitherPocket$Coat;" ∈ TB := tb (List.mem_of_getElem? (i := 146) (by decide +kernel)) rfl
theorem tw_147 : Cond.fieldLink RX4 31 "EitherPocket" "acts" "LEitherPocket$Pile;" ∈ TB := tb (List.mem_of_getElem? (i := 147) (by decide +kernel)) rfl
theorem tw_148 : Cond.fieldLink RX4 35 "EitherPocket" "kept" "LEitherPocket$Pile;" ∈ TB := tb (List.mem_of_getElem? (i := 148) (by decide +kernel)) rfl
theorem tw_149 : Cond.fieldLink RX4 41 "EitherPocket" "walk" "LEitherPocket$Walk;" ∈ TB := tb (List.mem_of_getElem? (i := 149) (by decide +kernel)) rfl
theorem tw_150 : Cond.fieldLink RX4 45 "EitherPocket" "seenLeft" "[I" ∈ TB := tb (List.mem_of_getElem? (i := 150) (by decide +kernel)) rfl
theorem tw_151 : Cond.fieldLink RX4 49 "EitherPocket" "seenRight" "[I" ∈ TB := tb (List.mem_of_getElem? (i := 151) (by decide +kernel)) rfl
theorem tw_152 : Cond.fieldLink RX4 52 "EitherPocket" "seenCount" "I" ∈ TB := tb (List.mem_of_getElem? (i := 152) (by decide +kernel)) rfl
theorem tw_153 : Cond.fieldLink RX4 56 "EitherPocket" "evening" "I" ∈ TB := tb (List.mem_of_getElem? (i := 153) (by decide +kernel)) rfl
theorem tw_175 : Cond.arrayClass .int ∈ TB := tb (List.mem_of_getElem? (i := 175) (by decide +kernel)) rfl
theorem tw_176 : Cond.methodLink RL 13 yX4_write ∈ TB := tb (List.mem_of_getElem? (i := 176) (by decide +kernel)) rfl
theorem tw_177 : Cond.instanceMethod yX4_write ∈ TB := tb (List.mem_of_getElem? (i := 177) (by decide +kernel)) rfl
theorem tw_178 : Cond.selects RX4 yX4_write yX4_write ∈ TB := tb (List.mem_of_getElem? (i := 178) (by decide +kernel)) rfl
theorem tw_179 : Cond.code yX4_write cX4_write 2 (some .int) ∈ TB := tb (List.mem_of_getElem? (i := 179) (by decide +kernel)) rfl
theorem tw_180 : Cond.methodLink RX4 69 yX4_within ∈ TB := tb (List.mem_of_getElem? (i := 180) (by decide +kernel)) rfl
theorem tw_181 : Cond.static yX4_within ∈ TB := tb (List.mem_of_getElem? (i := 181) (by decide +kernel)) rfl
theorem tw_182 : Cond.code yX4_within cX4_within 3 (some .boolean) ∈ TB := tb (List.mem_of_getElem? (i := 182) (by decide +kernel)) rfl
theorem tw_183 : Cond.methodLink RX4 73 yX2_append ∈ TB := tb (List.mem_of_getElem? (i := 183) (by decide +kernel)) rfl
theorem tw_184 : Cond.instanceMethod yX2_append ∈ TB := tb (List.mem_of_getElem? (i := 184) (by decide +kernel)) rfl
theorem tw_185 : Cond.selects RX2 yX2_append yX2_append ∈ TB := tb (List.mem_of_getElem? (i := 185) (by decide +kernel)) rfl
theorem tw_186 : Cond.code yX2_append cX2_append 2 (some .boolean) ∈ TB := tb (List.mem_of_getElem? (i := 186) (by decide +kernel)) rfl
theorem tw_187 : Cond.methodLinkNest RX2 38 yX4_within "EitherPocket" ∈ tables_1 := List.mem_of_getElem? (i := 187) (by decide +kernel)
theorem tw_188 : Cond.methodLink RX4 77 yX2_size ∈ TB := tb (List.mem_of_getElem? (i := 188) (by decide +kernel)) rfl
theorem tw_189 : Cond.instanceMethod yX2_size ∈ TB := tb (List.mem_of_getElem? (i := 189) (by decide +kernel)) rfl
theorem tw_190 : Cond.selects RX2 yX2_size yX2_size ∈ TB := tb (List.mem_of_getElem? (i := 190) (by decide +kernel)) rfl
theorem tw_191 : Cond.code yX2_size cX2_size 1 (some .int) ∈ TB := tb (List.mem_of_getElem? (i := 191) (by decide +kernel)) rfl
theorem tw_192 : Cond.methodLink RL 18 yX4_wipe ∈ TB := tb (List.mem_of_getElem? (i := 192) (by decide +kernel)) rfl
theorem tw_193 : Cond.instanceMethod yX4_wipe ∈ TB := tb (List.mem_of_getElem? (i := 193) (by decide +kernel)) rfl
theorem tw_194 : Cond.selects RX4 yX4_wipe yX4_wipe ∈ TB := tb (List.mem_of_getElem? (i := 194) (by decide +kernel)) rfl
theorem tw_195 : Cond.code yX4_wipe cX4_wipe 2 (some .int) ∈ TB := tb (List.mem_of_getElem? (i := 195) (by decide +kernel)) rfl
theorem tw_196 : Cond.methodLink RX4 81 yX2_clear ∈ TB := tb (List.mem_of_getElem? (i := 196) (by decide +kernel)) rfl
theorem tw_197 : Cond.instanceMethod yX2_clear ∈ TB := tb (List.mem_of_getElem? (i := 197) (by decide +kernel)) rfl
theorem tw_198 : Cond.selects RX2 yX2_clear yX2_clear ∈ TB := tb (List.mem_of_getElem? (i := 198) (by decide +kernel)) rfl
theorem tw_199 : Cond.code yX2_clear cX2_clear 1 none ∈ TB := tb (List.mem_of_getElem? (i := 199) (by decide +kernel)) rfl
theorem tw_200 : Cond.methodLink RL 23 yX4_fault ∈ TB := tb (List.mem_of_getElem? (i := 200) (by decide +kernel)) rfl
theorem tw_201 : Cond.instanceMethod yX4_fault ∈ TB := tb (List.mem_of_getElem? (i := 201) (by decide +kernel)) rfl
theorem tw_202 : Cond.selects RX4 yX4_fault yX4_fault ∈ TB := tb (List.mem_of_getElem? (i := 202) (by decide +kernel)) rfl
theorem tw_203 : Cond.code yX4_fault cX4_fault 1 (some .int) ∈ TB := tb (List.mem_of_getElem? (i := 203) (by decide +kernel)) rfl
theorem tw_204 : Cond.methodLink RX4 84 yX2_firstFault ∈ TB := tb (List.mem_of_getElem? (i := 204) (by decide +kernel)) rfl
theorem tw_205 : Cond.instanceMethod yX2_firstFault ∈ TB := tb (List.mem_of_getElem? (i := 205) (by decide +kernel)) rfl
theorem tw_206 : Cond.selects RX2 yX2_firstFault yX2_firstFault ∈ TB := tb (List.mem_of_getElem? (i := 206) (by decide +kernel)) rfl
theorem tw_207 : Cond.code yX2_firstFault cX2_firstFault 3 (some .int) ∈ TB := tb (List.mem_of_getElem? (i := 207) (by decide +kernel)) rfl
theorem tw_208 : Cond.methodLink RX2 42 yX0_setBoxes ∈ TB := tb (List.mem_of_getElem? (i := 208) (by decide +kernel)) rfl
theorem tw_209 : Cond.methodLink RX2 46 yX0_setHand ∈ TB := tb (List.mem_of_getElem? (i := 209) (by decide +kernel)) rfl
theorem tw_210 : Cond.methodLink RX2 52 yX2_readItem ∈ TB := tb (List.mem_of_getElem? (i := 210) (by decide +kernel)) rfl
theorem tw_212 : Cond.instanceMethod yX2_readItem ∈ TB := tb (List.mem_of_getElem? (i := 212) (by decide +kernel)) rfl
theorem tw_213 : Cond.code yX2_readItem cX2_readItem 2 (some .boolean) ∈ TB := tb (List.mem_of_getElem? (i := 213) (by decide +kernel)) rfl
theorem tw_214 : Cond.methodLink RX2 56 yX2_letterHere ∈ TB := tb (List.mem_of_getElem? (i := 214) (by decide +kernel)) rfl
theorem tw_216 : Cond.instanceMethod yX2_letterHere ∈ TB := tb (List.mem_of_getElem? (i := 216) (by decide +kernel)) rfl
theorem tw_217 : Cond.code yX2_letterHere cX2_letterHere 1 (some .char) ∈ TB := tb (List.mem_of_getElem? (i := 217) (by decide +kernel)) rfl
theorem tw_218 : Cond.methodLink RX2 60 yX2_readTwo ∈ TB := tb (List.mem_of_getElem? (i := 218) (by decide +kernel)) rfl
theorem tw_220 : Cond.instanceMethod yX2_readTwo ∈ TB := tb (List.mem_of_getElem? (i := 220) (by decide +kernel)) rfl
theorem tw_221 : Cond.code yX2_readTwo cX2_readTwo 1 (some .boolean) ∈ TB := tb (List.mem_of_getElem? (i := 221) (by decide +kernel)) rfl
theorem tw_222 : Cond.methodLink RX2 86 yX2_readNumber ∈ TB := tb (List.mem_of_getElem? (i := 222) (by decide +kernel)) rfl
theorem tw_224 : Cond.instanceMethod yX2_readNumber ∈ TB := tb (List.mem_of_getElem? (i := 224) (by decide +kernel)) rfl
theorem tw_225 : Cond.code yX2_readNumber cX2_readNumber 3 (some .int) ∈ TB := tb (List.mem_of_getElem? (i := 225) (by decide +kernel)) rfl
theorem tw_226 : Cond.methodLink RX2 94 yX2_readFigure ∈ TB := tb (List.mem_of_getElem? (i := 226) (by decide +kernel)) rfl
theorem tw_228 : Cond.instanceMethod yX2_readFigure ∈ TB := tb (List.mem_of_getElem? (i := 228) (by decide +kernel)) rfl
theorem tw_229 : Cond.code yX2_readFigure cX2_readFigure 2 (some .int) ∈ TB := tb (List.mem_of_getElem? (i := 229) (by decide +kernel)) rfl
theorem tw_230 : Cond.methodLink RX2 90 yX2_readSign ∈ TB := tb (List.mem_of_getElem? (i := 230) (by decide +kernel)) rfl
theorem tw_232 : Cond.instanceMethod yX2_readSign ∈ TB := tb (List.mem_of_getElem? (i := 232) (by decide +kernel)) rfl
theorem tw_233 : Cond.code yX2_readSign cX2_readSign 2 (some .boolean) ∈ TB := tb (List.mem_of_getElem? (i := 233) (by decide +kernel)) rfl
theorem tw_234 : Cond.methodLink RX2 63 yX2_tellBoxes ∈ TB := tb (List.mem_of_getElem? (i := 234) (by decide +kernel)) rfl
theorem tw_236 : Cond.instanceMethod yX2_tellBoxes ∈ TB := tb (List.mem_of_getElem? (i := 236) (by decide +kernel)) rfl
theorem tw_237 : Cond.code yX2_tellBoxes cX2_tellBoxes 1 (some .boolean) ∈ TB := tb (List.mem_of_getElem? (i := 237) (by decide +kernel)) rfl
theorem tw_238 : Cond.methodLink RX2 66 yX2_tellHand ∈ TB := tb (List.mem_of_getElem? (i := 238) (by decide +kernel)) rfl
theorem tw_240 : Cond.instanceMethod yX2_tellHand ∈ TB := tb (List.mem_of_getElem? (i := 240) (by decide +kernel)) rfl
theorem tw_241 : Cond.code yX2_tellHand cX2_tellHand 1 (some .boolean) ∈ TB := tb (List.mem_of_getElem? (i := 241) (by decide +kernel)) rfl
theorem tw_242 : Cond.methodLinkNest RX2 78 yX4_isHand "EitherPocket" ∈ tables_1 := List.mem_of_getElem? (i := 242) (by decide +kernel)
theorem tw_243 : Cond.static yX4_isHand ∈ TB := tb (List.mem_of_getElem? (i := 243) (by decide +kernel)) rfl
theorem tw_244 : Cond.code yX4_isHand cX4_isHand 2 (some .boolean) ∈ TB := tb (List.mem_of_getElem? (i := 244) (by decide +kernel)) rfl
theorem tw_245 : Cond.methodLink RX4 190 yX4_isKind ∈ TB := tb (List.mem_of_getElem? (i := 245) (by decide +kernel)) rfl
theorem tw_246 : Cond.static yX4_isKind ∈ TB := tb (List.mem_of_getElem? (i := 246) (by decide +kernel)) rfl
theorem tw_247 : Cond.code yX4_isKind cX4_isKind 1 (some .boolean) ∈ TB := tb (List.mem_of_getElem? (i := 247) (by decide +kernel)) rfl
theorem tw_248 : Cond.methodLink RX2 69 yX2_readOne ∈ TB := tb (List.mem_of_getElem? (i := 248) (by decide +kernel)) rfl
theorem tw_250 : Cond.instanceMethod yX2_readOne ∈ TB := tb (List.mem_of_getElem? (i := 250) (by decide +kernel)) rfl
theorem tw_251 : Cond.code yX2_readOne cX2_readOne 1 (some .boolean) ∈ TB := tb (List.mem_of_getElem? (i := 251) (by decide +kernel)) rfl
theorem tw_252 : Cond.methodLink RX2 72 yX2_tellLast ∈ TB := tb (List.mem_of_getElem? (i := 252) (by decide +kernel)) rfl
theorem tw_254 : Cond.instanceMethod yX2_tellLast ∈ TB := tb (List.mem_of_getElem? (i := 254) (by decide +kernel)) rfl
theorem tw_255 : Cond.code yX2_tellLast cX2_tellLast 1 (some .boolean) ∈ TB := tb (List.mem_of_getElem? (i := 255) (by decide +kernel)) rfl
theorem tw_256 : Cond.methodLinkNest RX2 82 yX4_isSide "EitherPocket" ∈ tables_1 := List.mem_of_getElem? (i := 256) (by decide +kernel)
theorem tw_257 : Cond.static yX4_isSide ∈ TB := tb (List.mem_of_getElem? (i := 257) (by decide +kernel)) rfl
theorem tw_258 : Cond.code yX4_isSide cX4_isSide 1 (some .boolean) ∈ TB := tb (List.mem_of_getElem? (i := 258) (by decide +kernel)) rfl
theorem tw_259 : Cond.methodLink RX2 75 yX2_tellEvening ∈ TB := tb (List.mem_of_getElem? (i := 259) (by decide +kernel)) rfl
theorem tw_261 : Cond.instanceMethod yX2_tellEvening ∈ TB := tb (List.mem_of_getElem? (i := 261) (by decide +kernel)) rfl
theorem tw_262 : Cond.code yX2_tellEvening cX2_tellEvening 1 (some .boolean) ∈ TB := tb (List.mem_of_getElem? (i := 262) (by decide +kernel)) rfl
theorem tw_263 : Cond.methodLink RL 27 yX4_lay ∈ TB := tb (List.mem_of_getElem? (i := 263) (by decide +kernel)) rfl
theorem tw_264 : Cond.instanceMethod yX4_lay ∈ TB := tb (List.mem_of_getElem? (i := 264) (by decide +kernel)) rfl
theorem tw_265 : Cond.selects RX4 yX4_lay yX4_lay ∈ TB := tb (List.mem_of_getElem? (i := 265) (by decide +kernel)) rfl
theorem tw_266 : Cond.code yX4_lay cX4_lay 1 (some .int) ∈ TB := tb (List.mem_of_getElem? (i := 266) (by decide +kernel)) rfl
theorem tw_267 : Cond.methodLink RX4 90 yX0_copyFrom ∈ TB := tb (List.mem_of_getElem? (i := 267) (by decide +kernel)) rfl
theorem tw_268 : Cond.instanceMethod yX0_copyFrom ∈ TB := tb (List.mem_of_getElem? (i := 268) (by decide +kernel)) rfl
theorem tw_269 : Cond.selects RX0 yX0_copyFrom yX0_copyFrom ∈ TB := tb (List.mem_of_getElem? (i := 269) (by decide +kernel)) rfl
theorem tw_270 : Cond.code yX0_copyFrom cX0_copyFrom 2 none ∈ TB := tb (List.mem_of_getElem? (i := 270) (by decide +kernel)) rfl
theorem tw_271 : Cond.methodLink RX4 97 yX1_clear ∈ TB := tb (List.mem_of_getElem? (i := 271) (by decide +kernel)) rfl
theorem tw_272 : Cond.instanceMethod yX1_clear ∈ TB := tb (List.mem_of_getElem? (i := 272) (by decide +kernel)) rfl
theorem tw_273 : Cond.selects RX1 yX1_clear yX1_clear ∈ TB := tb (List.mem_of_getElem? (i := 273) (by decide +kernel)) rfl
theorem tw_274 : Cond.code yX1_clear cX1_clear 1 none ∈ TB := tb (List.mem_of_getElem? (i := 274) (by decide +kernel)) rfl
theorem tw_275 : Cond.methodLink RX4 98 yX0_matches ∈ TB := tb (List.mem_of_getElem? (i := 275) (by decide +kernel)) rfl
theorem tw_276 : Cond.instanceMethod yX0_matches ∈ TB := tb (List.mem_of_getElem? (i := 276) (by decide +kernel)) rfl
theorem tw_277 : Cond.selects RX0 yX0_matches yX0_matches ∈ TB := tb (List.mem_of_getElem? (i := 277) (by decide +kernel)) rfl
theorem tw_278 : Cond.code yX0_matches cX0_matches 1 (some .int) ∈ TB := tb (List.mem_of_getElem? (i := 278) (by decide +kernel)) rfl
theorem tw_279 : Cond.methodLink RL 31 yX4_box ∈ TB := tb (List.mem_of_getElem? (i := 279) (by decide +kernel)) rfl
theorem tw_280 : Cond.instanceMethod yX4_box ∈ TB := tb (List.mem_of_getElem? (i := 280) (by decide +kernel)) rfl
theorem tw_281 : Cond.selects RX4 yX4_box yX4_box ∈ TB := tb (List.mem_of_getElem? (i := 281) (by decide +kernel)) rfl
theorem tw_282 : Cond.code yX4_box cX4_box 2 (some .int) ∈ TB := tb (List.mem_of_getElem? (i := 282) (by decide +kernel)) rfl
theorem tw_283 : Cond.methodLink RX4 101 yX4_isSide ∈ TB := tb (List.mem_of_getElem? (i := 283) (by decide +kernel)) rfl
theorem tw_284 : Cond.methodLink RX4 105 yX0_inBox ∈ TB := tb (List.mem_of_getElem? (i := 284) (by decide +kernel)) rfl
theorem tw_285 : Cond.instanceMethod yX0_inBox ∈ TB := tb (List.mem_of_getElem? (i := 285) (by decide +kernel)) rfl
theorem tw_286 : Cond.selects RX0 yX0_inBox yX0_inBox ∈ TB := tb (List.mem_of_getElem? (i := 286) (by decide +kernel)) rfl
theorem tw_287 : Cond.code yX0_inBox cX0_inBox 2 (some .int) ∈ TB := tb (List.mem_of_getElem? (i := 287) (by decide +kernel)) rfl
theorem tw_288 : Cond.methodLink RL 35 yX4_quarters ∈ TB := tb (List.mem_of_getElem? (i := 288) (by decide +kernel)) rfl
theorem tw_289 : Cond.instanceMethod yX4_quarters ∈ TB := tb (List.mem_of_getElem? (i := 289) (by decide +kernel)) rfl
theorem tw_290 : Cond.selects RX4 yX4_quarters yX4_quarters ∈ TB := tb (List.mem_of_getElem? (i := 290) (by decide +kernel)) rfl
theorem tw_291 : Cond.code yX4_quarters cX4_quarters 3 (some .int) ∈ TB := tb (List.mem_of_getElem? (i := 291) (by decide +kernel)) rfl
theorem tw_292 : Cond.methodLink RX4 109 yX0_quartersToLeft ∈ TB := tb (List.mem_of_getElem? (i := 292) (by decide +kernel)) rfl
theorem tw_293 : Cond.instanceMethod yX0_quartersToLeft ∈ TB := tb (List.mem_of_getElem? (i := 293) (by decide +kernel)) rfl
theorem tw_294 : Cond.selects RX0 yX0_quartersToLeft yX0_quartersToLeft ∈ TB := tb (List.mem_of_getElem? (i := 294) (by decide +kernel)) rfl
theorem tw_295 : Cond.code yX0_quartersToLeft cX0_quartersToLeft 1 (some .int) ∈ TB := tb (List.mem_of_getElem? (i := 295) (by decide +kernel)) rfl
theorem tw_296 : Cond.methodLinkNest RX0 27 yX4_handToLeft "EitherPocket" ∈ tables_1 := List.mem_of_getElem? (i := 296) (by decide +kernel)
theorem tw_297 : Cond.static yX4_handToLeft ∈ TB := tb (List.mem_of_getElem? (i := 297) (by decide +kernel)) rfl
theorem tw_298 : Cond.code yX4_handToLeft cX4_handToLeft 5 (some .int) ∈ TB := tb (List.mem_of_getElem? (i := 298) (by decide +kernel)) rfl
theorem tw_299 : Cond.methodLink RX4 235 yX4_leaning ∈ TB := tb (List.mem_of_getElem? (i := 299) (by decide +kernel)) rfl
theorem tw_300 : Cond.static yX4_leaning ∈ TB := tb (List.mem_of_getElem? (i := 300) (by decide +kernel)) rfl
theorem tw_301 : Cond.code yX4_leaning cX4_leaning 3 (some .int) ∈ TB := tb (List.mem_of_getElem? (i := 301) (by decide +kernel)) rfl
theorem tw_302 : Cond.methodLink RL 39 yX4_reach ∈ TB := tb (List.mem_of_getElem? (i := 302) (by decide +kernel)) rfl
theorem tw_303 : Cond.instanceMethod yX4_reach ∈ TB := tb (List.mem_of_getElem? (i := 303) (by decide +kernel)) rfl
theorem tw_304 : Cond.selects RX4 yX4_reach yX4_reach ∈ TB := tb (List.mem_of_getElem? (i := 304) (by decide +kernel)) rfl
theorem tw_305 : Cond.code yX4_reach cX4_reach 2 (some .int) ∈ TB := tb (List.mem_of_getElem? (i := 305) (by decide +kernel)) rfl
theorem tw_306 : Cond.methodLink RX4 112 yX1_put ∈ TB := tb (List.mem_of_getElem? (i := 306) (by decide +kernel)) rfl
theorem tw_307 : Cond.instanceMethod yX1_put ∈ TB := tb (List.mem_of_getElem? (i := 307) (by decide +kernel)) rfl
theorem tw_308 : Cond.selects RX1 yX1_put yX1_put ∈ TB := tb (List.mem_of_getElem? (i := 308) (by decide +kernel)) rfl
theorem tw_309 : Cond.code yX1_put cX1_put 2 none ∈ TB := tb (List.mem_of_getElem? (i := 309) (by decide +kernel)) rfl
theorem tw_310 : Cond.methodLink RX1 26 yX1_isFull ∈ TB := tb (List.mem_of_getElem? (i := 310) (by decide +kernel)) rfl
theorem tw_311 : Cond.instanceMethod yX1_isFull ∈ TB := tb (List.mem_of_getElem? (i := 311) (by decide +kernel)) rfl
theorem tw_312 : Cond.selects RX1 yX1_isFull yX1_isFull ∈ TB := tb (List.mem_of_getElem? (i := 312) (by decide +kernel)) rfl
theorem tw_313 : Cond.code yX1_isFull cX1_isFull 1 (some .boolean) ∈ TB := tb (List.mem_of_getElem? (i := 313) (by decide +kernel)) rfl
theorem tw_314 : Cond.methodLink RX1 30 yX1_dropOldest ∈ TB := tb (List.mem_of_getElem? (i := 314) (by decide +kernel)) rfl
theorem tw_316 : Cond.instanceMethod yX1_dropOldest ∈ TB := tb (List.mem_of_getElem? (i := 316) (by decide +kernel)) rfl
theorem tw_317 : Cond.code yX1_dropOldest cX1_dropOldest 2 none ∈ TB := tb (List.mem_of_getElem? (i := 317) (by decide +kernel)) rfl
theorem tw_318 : Cond.methodLink RX1 39 yX0_copyFrom ∈ TB := tb (List.mem_of_getElem? (i := 318) (by decide +kernel)) rfl
theorem tw_319 : Cond.methodLinkNest RX1 33 yX4_within "EitherPocket" ∈ tables_1 := List.mem_of_getElem? (i := 319) (by decide +kernel)
theorem tw_320 : Cond.methodLink RX4 115 yX0_draw ∈ TB := tb (List.mem_of_getElem? (i := 320) (by decide +kernel)) rfl
theorem tw_321 : Cond.instanceMethod yX0_draw ∈ TB := tb (List.mem_of_getElem? (i := 321) (by decide +kernel)) rfl
theorem tw_322 : Cond.selects RX0 yX0_draw yX0_draw ∈ TB := tb (List.mem_of_getElem? (i := 322) (by decide +kernel)) rfl
theorem tw_323 : Cond.code yX0_draw cX0_draw 3 (some .boolean) ∈ TB := tb (List.mem_of_getElem? (i := 323) (by decide +kernel)) rfl
theorem tw_324 : Cond.methodLink RX0 31 yX0_inBox ∈ TB := tb (List.mem_of_getElem? (i := 324) (by decide +kernel)) rfl
theorem tw_325 : Cond.methodLink RX0 35 yX0_setBox ∈ TB := tb (List.mem_of_getElem? (i := 325) (by decide +kernel)) rfl
theorem tw_326 : Cond.instanceMethod yX0_setBox ∈ TB := tb (List.mem_of_getElem? (i := 326) (by decide +kernel)) rfl
theorem tw_327 : Cond.selects RX0 yX0_setBox yX0_setBox ∈ TB := tb (List.mem_of_getElem? (i := 327) (by decide +kernel)) rfl
theorem tw_328 : Cond.code yX0_setBox cX0_setBox 3 none ∈ TB := tb (List.mem_of_getElem? (i := 328) (by decide +kernel)) rfl
theorem tw_329 : Cond.methodLink RL 43 yX4_putOver ∈ TB := tb (List.mem_of_getElem? (i := 329) (by decide +kernel)) rfl
theorem tw_330 : Cond.instanceMethod yX4_putOver ∈ TB := tb (List.mem_of_getElem? (i := 330) (by decide +kernel)) rfl
theorem tw_331 : Cond.selects RX4 yX4_putOver yX4_putOver ∈ TB := tb (List.mem_of_getElem? (i := 331) (by decide +kernel)) rfl
theorem tw_332 : Cond.code yX4_putOver cX4_putOver 5 (some .int) ∈ TB := tb (List.mem_of_getElem? (i := 332) (by decide +kernel)) rfl
theorem tw_333 : Cond.methodLink RX4 118 yX4_otherSide ∈ TB := tb (List.mem_of_getElem? (i := 333) (by decide +kernel)) rfl
theorem tw_334 : Cond.static yX4_otherSide ∈ TB := tb (List.mem_of_getElem? (i := 334) (by decide +kernel)) rfl
theorem tw_335 : Cond.code yX4_otherSide cX4_otherSide 1 (some .int) ∈ TB := tb (List.mem_of_getElem? (i := 335) (by decide +kernel)) rfl
theorem tw_336 : Cond.methodLink RX4 121 yX0_setBox ∈ TB := tb (List.mem_of_getElem? (i := 336) (by decide +kernel)) rfl
theorem tw_337 : Cond.methodLink RL 48 yX4_buy ∈ TB := tb (List.mem_of_getElem? (i := 337) (by decide +kernel)) rfl
theorem tw_338 : Cond.instanceMethod yX4_buy ∈ TB := tb (List.mem_of_getElem? (i := 338) (by decide +kernel)) rfl
theorem tw_339 : Cond.selects RX4 yX4_buy yX4_buy ∈ TB := tb (List.mem_of_getElem? (i := 339) (by decide +kernel)) rfl
theorem tw_340 : Cond.code yX4_buy cX4_buy 3 (some .int) ∈ TB := tb (List.mem_of_getElem? (i := 340) (by decide +kernel)) rfl
theorem tw_341 : Cond.methodLink RL 52 yX4_hand ∈ TB := tb (List.mem_of_getElem? (i := 341) (by decide +kernel)) rfl
theorem tw_342 : Cond.instanceMethod yX4_hand ∈ TB := tb (List.mem_of_getElem? (i := 342) (by decide +kernel)) rfl
theorem tw_343 : Cond.selects RX4 yX4_hand yX4_hand ∈ TB := tb (List.mem_of_getElem? (i := 343) (by decide +kernel)) rfl
theorem tw_344 : Cond.code yX4_hand cX4_hand 4 (some .int) ∈ TB := tb (List.mem_of_getElem? (i := 344) (by decide +kernel)) rfl
theorem tw_345 : Cond.methodLink RX4 124 yX4_isHand ∈ TB := tb (List.mem_of_getElem? (i := 345) (by decide +kernel)) rfl
theorem tw_346 : Cond.methodLink RL 56 yX4_undo ∈ TB := tb (List.mem_of_getElem? (i := 346) (by decide +kernel)) rfl
theorem tw_347 : Cond.instanceMethod yX4_undo ∈ TB := tb (List.mem_of_getElem? (i := 347) (by decide +kernel)) rfl
theorem tw_348 : Cond.selects RX4 yX4_undo yX4_undo ∈ TB := tb (List.mem_of_getElem? (i := 348) (by decide +kernel)) rfl
theorem tw_349 : Cond.code yX4_undo cX4_undo 1 (some .int) ∈ TB := tb (List.mem_of_getElem? (i := 349) (by decide +kernel)) rfl
theorem tw_350 : Cond.methodLink RX4 134 yX1_takeLast ∈ TB := tb (List.mem_of_getElem? (i := 350) (by decide +kernel)) rfl
theorem tw_351 : Cond.instanceMethod yX1_takeLast ∈ TB := tb (List.mem_of_getElem? (i := 351) (by decide +kernel)) rfl
theorem tw_352 : Cond.selects RX1 yX1_takeLast yX1_takeLast ∈ TB := tb (List.mem_of_getElem? (i := 352) (by decide +kernel)) rfl
theorem tw_353 : Cond.code yX1_takeLast cX1_takeLast 2 (some .boolean) ∈ TB := tb (List.mem_of_getElem? (i := 353) (by decide +kernel)) rfl
theorem tw_354 : Cond.methodLink RX4 138 yX1_size ∈ TB := tb (List.mem_of_getElem? (i := 354) (by decide +kernel)) rfl
theorem tw_355 : Cond.instanceMethod yX1_size ∈ TB := tb (List.mem_of_getElem? (i := 355) (by decide +kernel)) rfl
theorem tw_356 : Cond.selects RX1 yX1_size yX1_size ∈ TB := tb (List.mem_of_getElem? (i := 356) (by decide +kernel)) rfl
theorem tw_357 : Cond.code yX1_size cX1_size 1 (some .int) ∈ TB := tb (List.mem_of_getElem? (i := 357) (by decide +kernel)) rfl
theorem tw_358 : Cond.methodLink RL 60 yX4_left ∈ TB := tb (List.mem_of_getElem? (i := 358) (by decide +kernel)) rfl
theorem tw_359 : Cond.instanceMethod yX4_left ∈ TB := tb (List.mem_of_getElem? (i := 359) (by decide +kernel)) rfl
theorem tw_360 : Cond.selects RX4 yX4_left yX4_left ∈ TB := tb (List.mem_of_getElem? (i := 360) (by decide +kernel)) rfl
theorem tw_361 : Cond.code yX4_left cX4_left 3 (some .int) ∈ TB := tb (List.mem_of_getElem? (i := 361) (by decide +kernel)) rfl
theorem tw_362 : Cond.methodLink RX4 139 yX4_isEnd ∈ TB := tb (List.mem_of_getElem? (i := 362) (by decide +kernel)) rfl
theorem tw_363 : Cond.static yX4_isEnd ∈ TB := tb (List.mem_of_getElem? (i := 363) (by decide +kernel)) rfl
theorem tw_364 : Cond.code yX4_isEnd cX4_isEnd 1 (some .boolean) ∈ TB := tb (List.mem_of_getElem? (i := 364) (by decide +kernel)) rfl
theorem tw_365 : Cond.methodLink RX4 142 yX4_walkToEnd ∈ TB := tb (List.mem_of_getElem? (i := 365) (by decide +kernel)) rfl
theorem tw_367 : Cond.instanceMethod yX4_walkToEnd ∈ TB := tb (List.mem_of_getElem? (i := 367) (by decide +kernel)) rfl
theorem tw_368 : Cond.code yX4_walkToEnd cX4_walkToEnd 2 (some .long) ∈ TB := tb (List.mem_of_getElem? (i := 368) (by decide +kernel)) rfl
theorem tw_369 : Cond.methodLink RX4 162 yX4_startFrom ∈ TB := tb (List.mem_of_getElem? (i := 369) (by decide +kernel)) rfl
theorem tw_371 : Cond.instanceMethod yX4_startFrom ∈ TB := tb (List.mem_of_getElem? (i := 371) (by decide +kernel)) rfl
theorem tw_372 : Cond.code yX4_startFrom cX4_startFrom 4 none ∈ TB := tb (List.mem_of_getElem? (i := 372) (by decide +kernel)) rfl
theorem tw_373 : Cond.methodLink RX4 212 yX3_start ∈ TB := tb (List.mem_of_getElem? (i := 373) (by decide +kernel)) rfl
theorem tw_374 : Cond.instanceMethod yX3_start ∈ TB := tb (List.mem_of_getElem? (i := 374) (by decide +kernel)) rfl
theorem tw_375 : Cond.selects RX3 yX3_start yX3_start ∈ TB := tb (List.mem_of_getElem? (i := 375) (by decide +kernel)) rfl
theorem tw_376 : Cond.code yX3_start cX3_start 3 none ∈ TB := tb (List.mem_of_getElem? (i := 376) (by decide +kernel)) rfl
theorem tw_377 : Cond.methodLink RX3 41 yX3_wipeRow ∈ TB := tb (List.mem_of_getElem? (i := 377) (by decide +kernel)) rfl
theorem tw_378 : Cond.static yX3_wipeRow ∈ TB := tb (List.mem_of_getElem? (i := 378) (by decide +kernel)) rfl
theorem tw_379 : Cond.code yX3_wipeRow cX3_wipeRow 2 none ∈ TB := tb (List.mem_of_getElem? (i := 379) (by decide +kernel)) rfl
theorem tw_380 : Cond.methodLink RX3 49 yX0_matches ∈ TB := tb (List.mem_of_getElem? (i := 380) (by decide +kernel)) rfl
theorem tw_381 : Cond.constantLong RX3 52 (4398046511104) ∈ TB := tb (List.mem_of_getElem? (i := 381) (by decide +kernel)) rfl
theorem tw_382 : Cond.methodLink RX3 60 yX3_endBy ∈ TB := tb (List.mem_of_getElem? (i := 382) (by decide +kernel)) rfl
theorem tw_384 : Cond.instanceMethod yX3_endBy ∈ TB := tb (List.mem_of_getElem? (i := 384) (by decide +kernel)) rfl
theorem tw_385 : Cond.code yX3_endBy cX3_endBy 5 none ∈ TB := tb (List.mem_of_getElem? (i := 385) (by decide +kernel)) rfl
theorem tw_386 : Cond.methodLink RX3 67 yX3_addTo ∈ TB := tb (List.mem_of_getElem? (i := 386) (by decide +kernel)) rfl
theorem tw_387 : Cond.static yX3_addTo ∈ TB := tb (List.mem_of_getElem? (i := 387) (by decide +kernel)) rfl
theorem tw_388 : Cond.code yX3_addTo cX3_addTo 6 none ∈ TB := tb (List.mem_of_getElem? (i := 388) (by decide +kernel)) rfl
theorem tw_389 : Cond.methodLink RX4 216 yX3_reachesTillEnd ∈ TB := tb (List.mem_of_getElem? (i := 389) (by decide +kernel)) rfl
theorem tw_390 : Cond.instanceMethod yX3_reachesTillEnd ∈ TB := tb (List.mem_of_getElem? (i := 390) (by decide +kernel)) rfl
theorem tw_391 : Cond.selects RX3 yX3_reachesTillEnd yX3_reachesTillEnd ∈ TB := tb (List.mem_of_getElem? (i := 391) (by decide +kernel)) rfl
theorem tw_392 : Cond.code yX3_reachesTillEnd cX3_reachesTillEnd 4 (some .long) ∈ TB := tb (List.mem_of_getElem? (i := 392) (by decide +kernel)) rfl
theorem tw_393 : Cond.methodLink RX3 71 yX3_advanceOnce ∈ TB := tb (List.mem_of_getElem? (i := 393) (by decide +kernel)) rfl
theorem tw_395 : Cond.instanceMethod yX3_advanceOnce ∈ TB := tb (List.mem_of_getElem? (i := 395) (by decide +kernel)) rfl
theorem tw_396 : Cond.code yX3_advanceOnce cX3_advanceOnce 9 none ∈ TB := tb (List.mem_of_getElem? (i := 396) (by decide +kernel)) rfl
theorem tw_397 : Cond.methodLinkNest RX3 78 yX4_handToLeft "EitherPocket" ∈ tables_1 := List.mem_of_getElem? (i := 397) (by decide +kernel)
theorem tw_398 : Cond.constantLong RX3 82 (4) ∈ TB := tb (List.mem_of_getElem? (i := 398) (by decide +kernel)) rfl
theorem tw_399 : Cond.methodLink RX3 84 yX3_follow ∈ TB := tb (List.mem_of_getElem? (i := 399) (by decide +kernel)) rfl
theorem tw_401 : Cond.instanceMethod yX3_follow ∈ TB := tb (List.mem_of_getElem? (i := 401) (by decide +kernel)) rfl
theorem tw_402 : Cond.code yX3_follow cX3_follow 7 none ∈ TB := tb (List.mem_of_getElem? (i := 402) (by decide +kernel)) rfl
theorem tw_403 : Cond.methodLink RX4 146 yX3_chanceOfOther ∈ TB := tb (List.mem_of_getElem? (i := 403) (by decide +kernel)) rfl
theorem tw_404 : Cond.instanceMethod yX3_chanceOfOther ∈ TB := tb (List.mem_of_getElem? (i := 404) (by decide +kernel)) rfl
theorem tw_405 : Cond.selects RX3 yX3_chanceOfOther yX3_chanceOfOther ∈ TB := tb (List.mem_of_getElem? (i := 405) (by decide +kernel)) rfl
theorem tw_406 : Cond.code yX3_chanceOfOther cX3_chanceOfOther 2 (some .long) ∈ TB := tb (List.mem_of_getElem? (i := 406) (by decide +kernel)) rfl
theorem tw_407 : Cond.methodLinkNest RX3 74 yX4_within "EitherPocket" ∈ tables_1 := List.mem_of_getElem? (i := 407) (by decide +kernel)
theorem tw_408 : Cond.methodLink RX4 149 yX4_tenThousandths ∈ TB := tb (List.mem_of_getElem? (i := 408) (by decide +kernel)) rfl
theorem tw_409 : Cond.static yX4_tenThousandths ∈ TB := tb (List.mem_of_getElem? (i := 409) (by decide +kernel)) rfl
theorem tw_410 : Cond.code yX4_tenThousandths cX4_tenThousandths 2 (some .int) ∈ TB := tb (List.mem_of_getElem? (i := 410) (by decide +kernel)) rfl
theorem tw_411 : Cond.constantLong RX4 196 (10000) ∈ TB := tb (List.mem_of_getElem? (i := 411) (by decide +kernel)) rfl
theorem tw_412 : Cond.constantLong RX4 169 (4398046511104) ∈ TB := tb (List.mem_of_getElem? (i := 412) (by decide +kernel)) rfl
theorem tw_413 : Cond.methodLink RL 64 yX4_mean ∈ TB := tb (List.mem_of_getElem? (i := 413) (by decide +kernel)) rfl
theorem tw_414 : Cond.instanceMethod yX4_mean ∈ TB := tb (List.mem_of_getElem? (i := 414) (by decide +kernel)) rfl
theorem tw_415 : Cond.selects RX4 yX4_mean yX4_mean ∈ TB := tb (List.mem_of_getElem? (i := 415) (by decide +kernel)) rfl
theorem tw_416 : Cond.code yX4_mean cX4_mean 5 (some .int) ∈ TB := tb (List.mem_of_getElem? (i := 416) (by decide +kernel)) rfl
theorem tw_417 : Cond.methodLink RX4 153 yX4_hundredfold ∈ TB := tb (List.mem_of_getElem? (i := 417) (by decide +kernel)) rfl
theorem tw_418 : Cond.static yX4_hundredfold ∈ TB := tb (List.mem_of_getElem? (i := 418) (by decide +kernel)) rfl
theorem tw_419 : Cond.code yX4_hundredfold cX4_hundredfold 2 (some .int) ∈ TB := tb (List.mem_of_getElem? (i := 419) (by decide +kernel)) rfl
theorem tw_420 : Cond.constantLong RX4 233 (100) ∈ TB := tb (List.mem_of_getElem? (i := 420) (by decide +kernel)) rfl
theorem tw_421 : Cond.methodLink RL 68 yX4_soon ∈ TB := tb (List.mem_of_getElem? (i := 421) (by decide +kernel)) rfl
theorem tw_422 : Cond.instanceMethod yX4_soon ∈ TB := tb (List.mem_of_getElem? (i := 422) (by decide +kernel)) rfl
theorem tw_423 : Cond.selects RX4 yX4_soon yX4_soon ∈ TB := tb (List.mem_of_getElem? (i := 423) (by decide +kernel)) rfl
theorem tw_424 : Cond.code yX4_soon cX4_soon 3 (some .int) ∈ TB := tb (List.mem_of_getElem? (i := 424) (by decide +kernel)) rfl
theorem tw_425 : Cond.methodLink RX4 166 yX3_advance ∈ TB := tb (List.mem_of_getElem? (i := 425) (by decide +kernel)) rfl
theorem tw_426 : Cond.instanceMethod yX3_advance ∈ TB := tb (List.mem_of_getElem? (i := 426) (by decide +kernel)) rfl
theorem tw_427 : Cond.selects RX3 yX3_advance yX3_advance ∈ TB := tb (List.mem_of_getElem? (i := 427) (by decide +kernel)) rfl
theorem tw_428 : Cond.code yX3_advance cX3_advance 3 none ∈ TB := tb (List.mem_of_getElem? (i := 428) (by decide +kernel)) rfl
theorem tw_429 : Cond.methodLink RX4 171 yX3_standing ∈ TB := tb (List.mem_of_getElem? (i := 429) (by decide +kernel)) rfl
theorem tw_430 : Cond.instanceMethod yX3_standing ∈ TB := tb (List.mem_of_getElem? (i := 430) (by decide +kernel)) rfl
theorem tw_431 : Cond.selects RX3 yX3_standing yX3_standing ∈ TB := tb (List.mem_of_getElem? (i := 431) (by decide +kernel)) rfl
theorem tw_432 : Cond.code yX3_standing cX3_standing 1 (some .long) ∈ TB := tb (List.mem_of_getElem? (i := 432) (by decide +kernel)) rfl
theorem tw_433 : Cond.methodLink RL 72 yX4_times ∈ TB := tb (List.mem_of_getElem? (i := 433) (by decide +kernel)) rfl
theorem tw_434 : Cond.instanceMethod yX4_times ∈ TB := tb (List.mem_of_getElem? (i := 434) (by decide +kernel)) rfl
theorem tw_435 : Cond.selects RX4 yX4_times yX4_times ∈ TB := tb (List.mem_of_getElem? (i := 435) (by decide +kernel)) rfl
theorem tw_436 : Cond.code yX4_times cX4_times 2 (some .int) ∈ TB := tb (List.mem_of_getElem? (i := 436) (by decide +kernel)) rfl
theorem tw_437 : Cond.methodLink RL 76 yX4_likeliest ∈ TB := tb (List.mem_of_getElem? (i := 437) (by decide +kernel)) rfl
theorem tw_438 : Cond.instanceMethod yX4_likeliest ∈ TB := tb (List.mem_of_getElem? (i := 438) (by decide +kernel)) rfl
theorem tw_439 : Cond.selects RX4 yX4_likeliest yX4_likeliest ∈ TB := tb (List.mem_of_getElem? (i := 439) (by decide +kernel)) rfl
theorem tw_440 : Cond.code yX4_likeliest cX4_likeliest 4 (some .int) ∈ TB := tb (List.mem_of_getElem? (i := 440) (by decide +kernel)) rfl
theorem tw_441 : Cond.methodLink RL 80 yX4_level ∈ TB := tb (List.mem_of_getElem? (i := 441) (by decide +kernel)) rfl
theorem tw_442 : Cond.instanceMethod yX4_level ∈ TB := tb (List.mem_of_getElem? (i := 442) (by decide +kernel)) rfl
theorem tw_443 : Cond.selects RX4 yX4_level yX4_level ∈ TB := tb (List.mem_of_getElem? (i := 443) (by decide +kernel)) rfl
theorem tw_444 : Cond.code yX4_level cX4_level 2 (some .int) ∈ TB := tb (List.mem_of_getElem? (i := 444) (by decide +kernel)) rfl
theorem tw_445 : Cond.methodLink RX4 175 yX3_chanceOfLevel ∈ TB := tb (List.mem_of_getElem? (i := 445) (by decide +kernel)) rfl
theorem tw_446 : Cond.instanceMethod yX3_chanceOfLevel ∈ TB := tb (List.mem_of_getElem? (i := 446) (by decide +kernel)) rfl
theorem tw_447 : Cond.selects RX3 yX3_chanceOfLevel yX3_chanceOfLevel ∈ TB := tb (List.mem_of_getElem? (i := 447) (by decide +kernel)) rfl
theorem tw_448 : Cond.code yX3_chanceOfLevel cX3_chanceOfLevel 5 (some .long) ∈ TB := tb (List.mem_of_getElem? (i := 448) (by decide +kernel)) rfl
theorem tw_449 : Cond.methodLink RL 84 yX4_worth ∈ TB := tb (List.mem_of_getElem? (i := 449) (by decide +kernel)) rfl
theorem tw_450 : Cond.instanceMethod yX4_worth ∈ TB := tb (List.mem_of_getElem? (i := 450) (by decide +kernel)) rfl
theorem tw_451 : Cond.selects RX4 yX4_worth yX4_worth ∈ TB := tb (List.mem_of_getElem? (i := 451) (by decide +kernel)) rfl
theorem tw_452 : Cond.code yX4_worth cX4_worth 6 (some .int) ∈ TB := tb (List.mem_of_getElem? (i := 452) (by decide +kernel)) rfl
theorem tw_453 : Cond.methodLink RX4 178 yX4_reachesWith ∈ TB := tb (List.mem_of_getElem? (i := 453) (by decide +kernel)) rfl
theorem tw_455 : Cond.instanceMethod yX4_reachesWith ∈ TB := tb (List.mem_of_getElem? (i := 455) (by decide +kernel)) rfl
theorem tw_456 : Cond.code yX4_reachesWith cX4_reachesWith 3 (some .long) ∈ TB := tb (List.mem_of_getElem? (i := 456) (by decide +kernel)) rfl
theorem tw_457 : Cond.constantLong RX4 185 (-1) ∈ TB := tb (List.mem_of_getElem? (i := 457) (by decide +kernel)) rfl
theorem tw_458 : Cond.methodLink RL 88 yX4_begin ∈ TB := tb (List.mem_of_getElem? (i := 458) (by decide +kernel)) rfl
theorem tw_459 : Cond.instanceMethod yX4_begin ∈ TB := tb (List.mem_of_getElem? (i := 459) (by decide +kernel)) rfl
theorem tw_460 : Cond.selects RX4 yX4_begin yX4_begin ∈ TB := tb (List.mem_of_getElem? (i := 460) (by decide +kernel)) rfl
theorem tw_461 : Cond.code yX4_begin cX4_begin 8 (some .int) ∈ TB := tb (List.mem_of_getElem? (i := 461) (by decide +kernel)) rfl
theorem tw_462 : Cond.methodLink RX4 182 yX4_isPart ∈ TB := tb (List.mem_of_getElem? (i := 462) (by decide +kernel)) rfl
theorem tw_463 : Cond.static yX4_isPart ∈ TB := tb (List.mem_of_getElem? (i := 463) (by decide +kernel)) rfl
theorem tw_464 : Cond.code yX4_isPart cX4_isPart 1 (some .boolean) ∈ TB := tb (List.mem_of_getElem? (i := 464) (by decide +kernel)) rfl
theorem tw_465 : Cond.methodLink RL 93 yX4_over ∈ TB := tb (List.mem_of_getElem? (i := 465) (by decide +kernel)) rfl
theorem tw_466 : Cond.instanceMethod yX4_over ∈ TB := tb (List.mem_of_getElem? (i := 466) (by decide +kernel)) rfl
theorem tw_467 : Cond.selects RX4 yX4_over yX4_over ∈ TB := tb (List.mem_of_getElem? (i := 467) (by decide +kernel)) rfl
theorem tw_468 : Cond.code yX4_over cX4_over 10 (some .int) ∈ TB := tb (List.mem_of_getElem? (i := 468) (by decide +kernel)) rfl
theorem tw_469 : Cond.methodLink RL 97 yX4_seen ∈ TB := tb (List.mem_of_getElem? (i := 469) (by decide +kernel)) rfl
theorem tw_470 : Cond.instanceMethod yX4_seen ∈ TB := tb (List.mem_of_getElem? (i := 470) (by decide +kernel)) rfl
theorem tw_471 : Cond.selects RX4 yX4_seen yX4_seen ∈ TB := tb (List.mem_of_getElem? (i := 471) (by decide +kernel)) rfl
theorem tw_472 : Cond.code yX4_seen cX4_seen 3 (some .int) ∈ TB := tb (List.mem_of_getElem? (i := 472) (by decide +kernel)) rfl
theorem tw_473 : Cond.methodLink RL 101 yX4_forget ∈ TB := tb (List.mem_of_getElem? (i := 473) (by decide +kernel)) rfl
theorem tw_474 : Cond.instanceMethod yX4_forget ∈ TB := tb (List.mem_of_getElem? (i := 474) (by decide +kernel)) rfl
theorem tw_475 : Cond.selects RX4 yX4_forget yX4_forget ∈ TB := tb (List.mem_of_getElem? (i := 475) (by decide +kernel)) rfl
theorem tw_476 : Cond.code yX4_forget cX4_forget 2 (some .int) ∈ TB := tb (List.mem_of_getElem? (i := 476) (by decide +kernel)) rfl
theorem tw_477 : Cond.methodLink RL 105 yX4_fits ∈ TB := tb (List.mem_of_getElem? (i := 477) (by decide +kernel)) rfl
theorem tw_478 : Cond.instanceMethod yX4_fits ∈ TB := tb (List.mem_of_getElem? (i := 478) (by decide +kernel)) rfl
theorem tw_479 : Cond.selects RX4 yX4_fits yX4_fits ∈ TB := tb (List.mem_of_getElem? (i := 479) (by decide +kernel)) rfl
theorem tw_480 : Cond.code yX4_fits cX4_fits 3 (some .int) ∈ TB := tb (List.mem_of_getElem? (i := 480) (by decide +kernel)) rfl
theorem tw_481 : Cond.methodLink RX4 187 yX4_likeliestQuarters ∈ TB := tb (List.mem_of_getElem? (i := 481) (by decide +kernel)) rfl
theorem tw_483 : Cond.instanceMethod yX4_likeliestQuarters ∈ TB := tb (List.mem_of_getElem? (i := 483) (by decide +kernel)) rfl
theorem tw_484 : Cond.code yX4_likeliestQuarters cX4_likeliestQuarters 8 (some .int) ∈ TB := tb (List.mem_of_getElem? (i := 484) (by decide +kernel)) rfl
theorem tw_485 : Cond.methodLink RX4 193 yX4_chanceOfSeen ∈ TB := tb (List.mem_of_getElem? (i := 485) (by decide +kernel)) rfl
theorem tw_487 : Cond.instanceMethod yX4_chanceOfSeen ∈ TB := tb (List.mem_of_getElem? (i := 487) (by decide +kernel)) rfl
theorem tw_488 : Cond.code yX4_chanceOfSeen cX4_chanceOfSeen 4 (some .long) ∈ TB := tb (List.mem_of_getElem? (i := 488) (by decide +kernel)) rfl
theorem tw_489 : Cond.methodLink RX4 219 yX4_startByHand ∈ TB := tb (List.mem_of_getElem? (i := 489) (by decide +kernel)) rfl
theorem tw_491 : Cond.instanceMethod yX4_startByHand ∈ TB := tb (List.mem_of_getElem? (i := 491) (by decide +kernel)) rfl
theorem tw_492 : Cond.code yX4_startByHand cX4_startByHand 3 none ∈ TB := tb (List.mem_of_getElem? (i := 492) (by decide +kernel)) rfl
theorem tw_493 : Cond.methodLink RX4 222 yX3_keepOnly ∈ TB := tb (List.mem_of_getElem? (i := 493) (by decide +kernel)) rfl
theorem tw_494 : Cond.instanceMethod yX3_keepOnly ∈ TB := tb (List.mem_of_getElem? (i := 494) (by decide +kernel)) rfl
theorem tw_495 : Cond.selects RX3 yX3_keepOnly yX3_keepOnly ∈ TB := tb (List.mem_of_getElem? (i := 495) (by decide +kernel)) rfl
theorem tw_496 : Cond.code yX3_keepOnly cX3_keepOnly 7 none ∈ TB := tb (List.mem_of_getElem? (i := 496) (by decide +kernel)) rfl
theorem tw_497 : Cond.methodLink RL 109 yX4_asLikely ∈ TB := tb (List.mem_of_getElem? (i := 497) (by decide +kernel)) rfl
theorem tw_498 : Cond.instanceMethod yX4_asLikely ∈ TB := tb (List.mem_of_getElem? (i := 498) (by decide +kernel)) rfl
theorem tw_499 : Cond.selects RX4 yX4_asLikely yX4_asLikely ∈ TB := tb (List.mem_of_getElem? (i := 499) (by decide +kernel)) rfl
theorem tw_500 : Cond.code yX4_asLikely cX4_asLikely 4 (some .int) ∈ TB := tb (List.mem_of_getElem? (i := 500) (by decide +kernel)) rfl
theorem tw_501 : Cond.methodLink RL 113 yX4_evenings ∈ TB := tb (List.mem_of_getElem? (i := 501) (by decide +kernel)) rfl
theorem tw_502 : Cond.instanceMethod yX4_evenings ∈ TB := tb (List.mem_of_getElem? (i := 502) (by decide +kernel)) rfl
theorem tw_503 : Cond.selects RX4 yX4_evenings yX4_evenings ∈ TB := tb (List.mem_of_getElem? (i := 503) (by decide +kernel)) rfl
theorem tw_504 : Cond.code yX4_evenings cX4_evenings 4 (some .int) ∈ TB := tb (List.mem_of_getElem? (i := 504) (by decide +kernel)) rfl
theorem tw_505 : Cond.methodLink RL 117 yX4_which ∈ TB := tb (List.mem_of_getElem? (i := 505) (by decide +kernel)) rfl
theorem tw_506 : Cond.instanceMethod yX4_which ∈ TB := tb (List.mem_of_getElem? (i := 506) (by decide +kernel)) rfl
theorem tw_507 : Cond.selects RX4 yX4_which yX4_which ∈ TB := tb (List.mem_of_getElem? (i := 507) (by decide +kernel)) rfl
theorem tw_508 : Cond.code yX4_which cX4_which 1 (some .int) ∈ TB := tb (List.mem_of_getElem? (i := 508) (by decide +kernel)) rfl
theorem tw_509 : Cond.methodLink RX4 198 yX3_chanceOfLeftFirst ∈ TB := tb (List.mem_of_getElem? (i := 509) (by decide +kernel)) rfl
theorem tw_510 : Cond.instanceMethod yX3_chanceOfLeftFirst ∈ TB := tb (List.mem_of_getElem? (i := 510) (by decide +kernel)) rfl
theorem tw_511 : Cond.selects RX3 yX3_chanceOfLeftFirst yX3_chanceOfLeftFirst ∈ TB := tb (List.mem_of_getElem? (i := 511) (by decide +kernel)) rfl
theorem tw_512 : Cond.code yX3_chanceOfLeftFirst cX3_chanceOfLeftFirst 1 (some .long) ∈ TB := tb (List.mem_of_getElem? (i := 512) (by decide +kernel)) rfl
theorem tw_513 : Cond.methodLink RL 121 yX4_better ∈ TB := tb (List.mem_of_getElem? (i := 513) (by decide +kernel)) rfl
theorem tw_514 : Cond.instanceMethod yX4_better ∈ TB := tb (List.mem_of_getElem? (i := 514) (by decide +kernel)) rfl
theorem tw_515 : Cond.selects RX4 yX4_better yX4_better ∈ TB := tb (List.mem_of_getElem? (i := 515) (by decide +kernel)) rfl
theorem tw_516 : Cond.code yX4_better cX4_better 9 (some .int) ∈ TB := tb (List.mem_of_getElem? (i := 516) (by decide +kernel)) rfl
theorem tw_517 : Cond.methodLink RX4 201 yX4_reachesByHand ∈ TB := tb (List.mem_of_getElem? (i := 517) (by decide +kernel)) rfl
theorem tw_519 : Cond.instanceMethod yX4_reachesByHand ∈ TB := tb (List.mem_of_getElem? (i := 519) (by decide +kernel)) rfl
theorem tw_520 : Cond.code yX4_reachesByHand cX4_reachesByHand 3 (some .long) ∈ TB := tb (List.mem_of_getElem? (i := 520) (by decide +kernel)) rfl
theorem tw_521 : Cond.methodLink RL 126 yX4_coat ∈ TB := tb (List.mem_of_getElem? (i := 521) (by decide +kernel)) rfl
theorem tw_522 : Cond.instanceMethod yX4_coat ∈ TB := tb (List.mem_of_getElem? (i := 522) (by decide +kernel)) rfl
theorem tw_523 : Cond.selects RX4 yX4_coat yX4_coat ∈ TB := tb (List.mem_of_getElem? (i := 523) (by decide +kernel)) rfl
theorem tw_524 : Cond.code yX4_coat cX4_coat 7 (some .int) ∈ TB := tb (List.mem_of_getElem? (i := 524) (by decide +kernel)) rfl
theorem tw_525 : Cond.methodLink RX4 204 yX4_drawOf ∈ TB := tb (List.mem_of_getElem? (i := 525) (by decide +kernel)) rfl
theorem tw_526 : Cond.static yX4_drawOf ∈ TB := tb (List.mem_of_getElem? (i := 526) (by decide +kernel)) rfl
theorem tw_527 : Cond.code yX4_drawOf cX4_drawOf 4 (some .int) ∈ TB := tb (List.mem_of_getElem? (i := 527) (by decide +kernel)) rfl
theorem tw_528 : Cond.constantLong RX4 225 (7919) ∈ TB := tb (List.mem_of_getElem? (i := 528) (by decide +kernel)) rfl
theorem tw_529 : Cond.constantLong RX4 227 (6151) ∈ TB := tb (List.mem_of_getElem? (i := 529) (by decide +kernel)) rfl
theorem tw_530 : Cond.constantLong RX4 229 (65521) ∈ TB := tb (List.mem_of_getElem? (i := 530) (by decide +kernel)) rfl
theorem tw_531 : Cond.constantLong RX4 231 (8) ∈ TB := tb (List.mem_of_getElem? (i := 531) (by decide +kernel)) rfl
theorem tw_532 : Cond.methodLink RL 130 yX4_keep ∈ TB := tb (List.mem_of_getElem? (i := 532) (by decide +kernel)) rfl
theorem tw_533 : Cond.instanceMethod yX4_keep ∈ TB := tb (List.mem_of_getElem? (i := 533) (by decide +kernel)) rfl
theorem tw_534 : Cond.selects RX4 yX4_keep yX4_keep ∈ TB := tb (List.mem_of_getElem? (i := 534) (by decide +kernel)) rfl
theorem tw_535 : Cond.code yX4_keep cX4_keep 1 (some .int) ∈ TB := tb (List.mem_of_getElem? (i := 535) (by decide +kernel)) rfl
theorem tw_536 : Cond.methodLink RX4 208 yX1_isFull ∈ TB := tb (List.mem_of_getElem? (i := 536) (by decide +kernel)) rfl
theorem tw_537 : Cond.methodLink RL 134 yX4_back ∈ TB := tb (List.mem_of_getElem? (i := 537) (by decide +kernel)) rfl
theorem tw_538 : Cond.instanceMethod yX4_back ∈ TB := tb (List.mem_of_getElem? (i := 538) (by decide +kernel)) rfl
theorem tw_539 : Cond.selects RX4 yX4_back yX4_back ∈ TB := tb (List.mem_of_getElem? (i := 539) (by decide +kernel)) rfl
theorem tw_540 : Cond.code yX4_back cX4_back 1 (some .int) ∈ TB := tb (List.mem_of_getElem? (i := 540) (by decide +kernel)) rfl
theorem tw_541 : Cond.methodLink RL 138 yX4_count ∈ TB := tb (List.mem_of_getElem? (i := 541) (by decide +kernel)) rfl
theorem tw_542 : Cond.instanceMethod yX4_count ∈ TB := tb (List.mem_of_getElem? (i := 542) (by decide +kernel)) rfl
theorem tw_543 : Cond.selects RX4 yX4_count yX4_count ∈ TB := tb (List.mem_of_getElem? (i := 543) (by decide +kernel)) rfl
theorem tw_544 : Cond.code yX4_count cX4_count 2 (some .int) ∈ TB := tb (List.mem_of_getElem? (i := 544) (by decide +kernel)) rfl
theorem tw_545 : Cond.classLink RL 10 RX5 ∈ TB := tb (List.mem_of_getElem? (i := 545) (by decide +kernel)) rfl
theorem tw_546 : Cond.instantiable RX5 17 ∈ TB := tb (List.mem_of_getElem? (i := 546) (by decide +kernel)) rfl
theorem tw_547 : Cond.methodLink RL 12 yX5_init ∈ TB := tb (List.mem_of_getElem? (i := 547) (by decide +kernel)) rfl
theorem tw_548 : Cond.instanceMethod yX5_init ∈ TB := tb (List.mem_of_getElem? (i := 548) (by decide +kernel)) rfl
theorem tw_549 : Cond.code yX5_init cX5_init 1 none ∈ TB := tb (List.mem_of_getElem? (i := 549) (by decide +kernel)) rfl
theorem tw_550 : Cond.methodLink RX5 1 Lib.objectInit ∈ TB := tb (List.mem_of_getElem? (i := 550) (by decide +kernel)) rfl
theorem tw_551 : Cond.methodLink RX5 41 yX5_begins ∈ TB := tb (List.mem_of_getElem? (i := 551) (by decide +kernel)) rfl
theorem tw_553 : Cond.instanceMethod yX5_begins ∈ TB := tb (List.mem_of_getElem? (i := 553) (by decide +kernel)) rfl
theorem tw_554 : Cond.code yX5_begins cX5_begins 1 none ∈ TB := tb (List.mem_of_getElem? (i := 554) (by decide +kernel)) rfl
theorem tw_555 : Cond.methodLink RX5 44 yX5_lays ∈ TB := tb (List.mem_of_getElem? (i := 555) (by decide +kernel)) rfl
theorem tw_557 : Cond.instanceMethod yX5_lays ∈ TB := tb (List.mem_of_getElem? (i := 557) (by decide +kernel)) rfl
theorem tw_558 : Cond.code yX5_lays cX5_lays 2 none ∈ TB := tb (List.mem_of_getElem? (i := 558) (by decide +kernel)) rfl
theorem tw_559 : Cond.fieldLink RX5 7 "EitherPocketModel" "text" "[I" ∈ TB := tb (List.mem_of_getElem? (i := 559) (by decide +kernel)) rfl
theorem tw_560 : Cond.fieldLink RX5 51 "EitherPocketModel" "typed" "I" ∈ TB := tb (List.mem_of_getElem? (i := 560) (by decide +kernel)) rfl
theorem tw_561 : Cond.fieldLink RX5 13 "EitherPocketModel" "draft" "[I" ∈ TB := tb (List.mem_of_getElem? (i := 561) (by decide +kernel)) rfl
theorem tw_562 : Cond.fieldLink RX5 16 "EitherPocketModel" "s" "[I" ∈ TB := tb (List.mem_of_getElem? (i := 562) (by decide +kernel)) rfl
theorem tw_563 : Cond.fieldLink RX5 80 "EitherPocketModel" "evening" "I" ∈ TB := tb (List.mem_of_getElem? (i := 563) (by decide +kernel)) rfl
theorem tw_564 : Cond.fieldLink RX5 19 "EitherPocketModel" "past" "[I" ∈ TB := tb (List.mem_of_getElem? (i := 564) (by decide +kernel)) rfl
theorem tw_565 : Cond.fieldLink RX5 83 "EitherPocketModel" "known" "I" ∈ TB := tb (List.mem_of_getElem? (i := 565) (by decide +kernel)) rfl
theorem tw_566 : Cond.fieldLink RX5 22 "EitherPocketModel" "images" "[I" ∈ TB := tb (List.mem_of_getElem? (i := 566) (by decide +kernel)) rfl
theorem tw_567 : Cond.fieldLink RX5 86 "EitherPocketModel" "kept" "I" ∈ TB := tb (List.mem_of_getElem? (i := 567) (by decide +kernel)) rfl
theorem tw_568 : Cond.fieldLink RX5 25 "EitherPocketModel" "seen" "[I" ∈ TB := tb (List.mem_of_getElem? (i := 568) (by decide +kernel)) rfl
theorem tw_569 : Cond.fieldLink RX5 89 "EitherPocketModel" "sights" "I" ∈ TB := tb (List.mem_of_getElem? (i := 569) (by decide +kernel)) rfl
theorem tw_570 : Cond.fieldLink RX5 55 "EitherPocketModel" "at" "I" ∈ TB := tb (List.mem_of_getElem? (i := 570) (by decide +kernel)) rfl
theorem tw_571 : Cond.fieldLink RX5 28 "EitherPocketModel" "here" "[J" ∈ TB := tb (List.mem_of_getElem? (i := 571) (by decide +kernel)) rfl
theorem tw_572 : Cond.fieldLink RX5 32 "EitherPocketModel" "next" "[J" ∈ TB := tb (List.mem_of_getElem? (i := 572) (by decide +kernel)) rfl
theorem tw_573 : Cond.fieldLink RX5 35 "EitherPocketModel" "rest" "[J" ∈ TB := tb (List.mem_of_getElem? (i := 573) (by decide +kernel)) rfl
theorem tw_574 : Cond.fieldLink RX5 38 "EitherPocketModel" "soon" "[J" ∈ TB := tb (List.mem_of_getElem? (i := 574) (by decide +kernel)) rfl
theorem tw_575 : Cond.fieldLink RX5 102 "EitherPocketModel" "first" "J" ∈ TB := tb (List.mem_of_getElem? (i := 575) (by decide +kernel)) rfl
theorem tw_611 : Cond.methodLink RL 17 yX5_write ∈ TB := tb (List.mem_of_getElem? (i := 611) (by decide +kernel)) rfl
theorem tw_612 : Cond.instanceMethod yX5_write ∈ TB := tb (List.mem_of_getElem? (i := 612) (by decide +kernel)) rfl
theorem tw_613 : Cond.selects RX5 yX5_write yX5_write ∈ TB := tb (List.mem_of_getElem? (i := 613) (by decide +kernel)) rfl
theorem tw_614 : Cond.code yX5_write cX5_write 2 (some .int) ∈ TB := tb (List.mem_of_getElem? (i := 614) (by decide +kernel)) rfl
theorem tw_615 : Cond.methodLink RX5 47 yX5_in ∈ TB := tb (List.mem_of_getElem? (i := 615) (by decide +kernel)) rfl
theorem tw_616 : Cond.static yX5_in ∈ TB := tb (List.mem_of_getElem? (i := 616) (by decide +kernel)) rfl
theorem tw_617 : Cond.code yX5_in cX5_in 3 (some .boolean) ∈ TB := tb (List.mem_of_getElem? (i := 617) (by decide +kernel)) rfl
theorem tw_618 : Cond.methodLink RL 22 yX5_wipe ∈ TB := tb (List.mem_of_getElem? (i := 618) (by decide +kernel)) rfl
theorem tw_619 : Cond.instanceMethod yX5_wipe ∈ TB := tb (List.mem_of_getElem? (i := 619) (by decide +kernel)) rfl
theorem tw_620 : Cond.selects RX5 yX5_wipe yX5_wipe ∈ TB := tb (List.mem_of_getElem? (i := 620) (by decide +kernel)) rfl
theorem tw_621 : Cond.code yX5_wipe cX5_wipe 2 (some .int) ∈ TB := tb (List.mem_of_getElem? (i := 621) (by decide +kernel)) rfl
theorem tw_622 : Cond.methodLink RL 26 yX5_fault ∈ TB := tb (List.mem_of_getElem? (i := 622) (by decide +kernel)) rfl
theorem tw_623 : Cond.instanceMethod yX5_fault ∈ TB := tb (List.mem_of_getElem? (i := 623) (by decide +kernel)) rfl
theorem tw_624 : Cond.selects RX5 yX5_fault yX5_fault ∈ TB := tb (List.mem_of_getElem? (i := 624) (by decide +kernel)) rfl
theorem tw_625 : Cond.code yX5_fault cX5_fault 1 (some .int) ∈ TB := tb (List.mem_of_getElem? (i := 625) (by decide +kernel)) rfl
theorem tw_626 : Cond.methodLink RX5 76 yX5_readsAll ∈ TB := tb (List.mem_of_getElem? (i := 626) (by decide +kernel)) rfl
theorem tw_628 : Cond.instanceMethod yX5_readsAll ∈ TB := tb (List.mem_of_getElem? (i := 628) (by decide +kernel)) rfl
theorem tw_629 : Cond.code yX5_readsAll cX5_readsAll 2 (some .int) ∈ TB := tb (List.mem_of_getElem? (i := 629) (by decide +kernel)) rfl
theorem tw_630 : Cond.methodLink RX5 73 yX5_readsItem ∈ TB := tb (List.mem_of_getElem? (i := 630) (by decide +kernel)) rfl
theorem tw_632 : Cond.instanceMethod yX5_readsItem ∈ TB := tb (List.mem_of_getElem? (i := 632) (by decide +kernel)) rfl
theorem tw_633 : Cond.code yX5_readsItem cX5_readsItem 2 (some .boolean) ∈ TB := tb (List.mem_of_getElem? (i := 633) (by decide +kernel)) rfl
theorem tw_634 : Cond.methodLink RX5 70 yX5_readsTwo ∈ TB := tb (List.mem_of_getElem? (i := 634) (by decide +kernel)) rfl
theorem tw_636 : Cond.instanceMethod yX5_readsTwo ∈ TB := tb (List.mem_of_getElem? (i := 636) (by decide +kernel)) rfl
theorem tw_637 : Cond.code yX5_readsTwo cX5_readsTwo 4 (some .boolean) ∈ TB := tb (List.mem_of_getElem? (i := 637) (by decide +kernel)) rfl
theorem tw_638 : Cond.methodLink RX5 66 yX5_number ∈ TB := tb (List.mem_of_getElem? (i := 638) (by decide +kernel)) rfl
theorem tw_640 : Cond.instanceMethod yX5_number ∈ TB := tb (List.mem_of_getElem? (i := 640) (by decide +kernel)) rfl
theorem tw_641 : Cond.code yX5_number cX5_number 6 (some .int) ∈ TB := tb (List.mem_of_getElem? (i := 641) (by decide +kernel)) rfl
theorem tw_642 : Cond.methodLink RX5 58 yX5_letterAt ∈ TB := tb (List.mem_of_getElem? (i := 642) (by decide +kernel)) rfl
theorem tw_644 : Cond.instanceMethod yX5_letterAt ∈ TB := tb (List.mem_of_getElem? (i := 644) (by decide +kernel)) rfl
theorem tw_645 : Cond.code yX5_letterAt cX5_letterAt 2 (some .int) ∈ TB := tb (List.mem_of_getElem? (i := 645) (by decide +kernel)) rfl
theorem tw_646 : Cond.methodLink RX5 62 yX5_isFigure ∈ TB := tb (List.mem_of_getElem? (i := 646) (by decide +kernel)) rfl
theorem tw_647 : Cond.static yX5_isFigure ∈ TB := tb (List.mem_of_getElem? (i := 647) (by decide +kernel)) rfl
theorem tw_648 : Cond.code yX5_isFigure cX5_isFigure 1 (some .boolean) ∈ TB := tb (List.mem_of_getElem? (i := 648) (by decide +kernel)) rfl
theorem tw_649 : Cond.methodLink RL 30 yX5_lay ∈ TB := tb (List.mem_of_getElem? (i := 649) (by decide +kernel)) rfl
theorem tw_650 : Cond.instanceMethod yX5_lay ∈ TB := tb (List.mem_of_getElem? (i := 650) (by decide +kernel)) rfl
theorem tw_651 : Cond.selects RX5 yX5_lay yX5_lay ∈ TB := tb (List.mem_of_getElem? (i := 651) (by decide +kernel)) rfl
theorem tw_652 : Cond.code yX5_lay cX5_lay 1 (some .int) ∈ TB := tb (List.mem_of_getElem? (i := 652) (by decide +kernel)) rfl
theorem tw_653 : Cond.methodLink RL 34 yX5_box ∈ TB := tb (List.mem_of_getElem? (i := 653) (by decide +kernel)) rfl
theorem tw_654 : Cond.instanceMethod yX5_box ∈ TB := tb (List.mem_of_getElem? (i := 654) (by decide +kernel)) rfl
theorem tw_655 : Cond.selects RX5 yX5_box yX5_box ∈ TB := tb (List.mem_of_getElem? (i := 655) (by decide +kernel)) rfl
theorem tw_656 : Cond.code yX5_box cX5_box 2 (some .int) ∈ TB := tb (List.mem_of_getElem? (i := 656) (by decide +kernel)) rfl
theorem tw_657 : Cond.methodLink RL 38 yX5_quarters ∈ TB := tb (List.mem_of_getElem? (i := 657) (by decide +kernel)) rfl
theorem tw_658 : Cond.instanceMethod yX5_quarters ∈ TB := tb (List.mem_of_getElem? (i := 658) (by decide +kernel)) rfl
theorem tw_659 : Cond.selects RX5 yX5_quarters yX5_quarters ∈ TB := tb (List.mem_of_getElem? (i := 659) (by decide +kernel)) rfl
theorem tw_660 : Cond.code yX5_quarters cX5_quarters 3 (some .int) ∈ TB := tb (List.mem_of_getElem? (i := 660) (by decide +kernel)) rfl
theorem tw_661 : Cond.methodLink RX5 92 yX5_toLeft ∈ TB := tb (List.mem_of_getElem? (i := 661) (by decide +kernel)) rfl
theorem tw_662 : Cond.static yX5_toLeft ∈ TB := tb (List.mem_of_getElem? (i := 662) (by decide +kernel)) rfl
theorem tw_663 : Cond.code yX5_toLeft cX5_toLeft 6 (some .int) ∈ TB := tb (List.mem_of_getElem? (i := 663) (by decide +kernel)) rfl
theorem tw_664 : Cond.methodLink RL 42 yX5_reach ∈ TB := tb (List.mem_of_getElem? (i := 664) (by decide +kernel)) rfl
theorem tw_665 : Cond.instanceMethod yX5_reach ∈ TB := tb (List.mem_of_getElem? (i := 665) (by decide +kernel)) rfl
theorem tw_666 : Cond.selects RX5 yX5_reach yX5_reach ∈ TB := tb (List.mem_of_getElem? (i := 666) (by decide +kernel)) rfl
theorem tw_667 : Cond.code yX5_reach cX5_reach 2 (some .int) ∈ TB := tb (List.mem_of_getElem? (i := 667) (by decide +kernel)) rfl
theorem tw_668 : Cond.methodLink RX5 96 yX5_keeps ∈ TB := tb (List.mem_of_getElem? (i := 668) (by decide +kernel)) rfl
theorem tw_670 : Cond.instanceMethod yX5_keeps ∈ TB := tb (List.mem_of_getElem? (i := 670) (by decide +kernel)) rfl
theorem tw_671 : Cond.code yX5_keeps cX5_keeps 2 none ∈ TB := tb (List.mem_of_getElem? (i := 671) (by decide +kernel)) rfl
theorem tw_672 : Cond.methodLink RL 47 yX5_putOver ∈ TB := tb (List.mem_of_getElem? (i := 672) (by decide +kernel)) rfl
theorem tw_673 : Cond.instanceMethod yX5_putOver ∈ TB := tb (List.mem_of_getElem? (i := 673) (by decide +kernel)) rfl
theorem tw_674 : Cond.selects RX5 yX5_putOver yX5_putOver ∈ TB := tb (List.mem_of_getElem? (i := 674) (by decide +kernel)) rfl
theorem tw_675 : Cond.code yX5_putOver cX5_putOver 3 (some .int) ∈ TB := tb (List.mem_of_getElem? (i := 675) (by decide +kernel)) rfl
theorem tw_676 : Cond.methodLink RL 51 yX5_buy ∈ TB := tb (List.mem_of_getElem? (i := 676) (by decide +kernel)) rfl
theorem tw_677 : Cond.instanceMethod yX5_buy ∈ TB := tb (List.mem_of_getElem? (i := 677) (by decide +kernel)) rfl
theorem tw_678 : Cond.selects RX5 yX5_buy yX5_buy ∈ TB := tb (List.mem_of_getElem? (i := 678) (by decide +kernel)) rfl
theorem tw_679 : Cond.code yX5_buy cX5_buy 3 (some .int) ∈ TB := tb (List.mem_of_getElem? (i := 679) (by decide +kernel)) rfl
theorem tw_680 : Cond.methodLink RL 55 yX5_hand ∈ TB := tb (List.mem_of_getElem? (i := 680) (by decide +kernel)) rfl
theorem tw_681 : Cond.instanceMethod yX5_hand ∈ TB := tb (List.mem_of_getElem? (i := 681) (by decide +kernel)) rfl
theorem tw_682 : Cond.selects RX5 yX5_hand yX5_hand ∈ TB := tb (List.mem_of_getElem? (i := 682) (by decide +kernel)) rfl
theorem tw_683 : Cond.code yX5_hand cX5_hand 4 (some .int) ∈ TB := tb (List.mem_of_getElem? (i := 683) (by decide +kernel)) rfl
theorem tw_684 : Cond.methodLink RL 59 yX5_undo ∈ TB := tb (List.mem_of_getElem? (i := 684) (by decide +kernel)) rfl
theorem tw_685 : Cond.instanceMethod yX5_undo ∈ TB := tb (List.mem_of_getElem? (i := 685) (by decide +kernel)) rfl
theorem tw_686 : Cond.selects RX5 yX5_undo yX5_undo ∈ TB := tb (List.mem_of_getElem? (i := 686) (by decide +kernel)) rfl
theorem tw_687 : Cond.code yX5_undo cX5_undo 2 (some .int) ∈ TB := tb (List.mem_of_getElem? (i := 687) (by decide +kernel)) rfl
theorem tw_688 : Cond.methodLink RL 63 yX5_left ∈ TB := tb (List.mem_of_getElem? (i := 688) (by decide +kernel)) rfl
theorem tw_689 : Cond.instanceMethod yX5_left ∈ TB := tb (List.mem_of_getElem? (i := 689) (by decide +kernel)) rfl
theorem tw_690 : Cond.selects RX5 yX5_left yX5_left ∈ TB := tb (List.mem_of_getElem? (i := 690) (by decide +kernel)) rfl
theorem tw_691 : Cond.code yX5_left cX5_left 3 (some .int) ∈ TB := tb (List.mem_of_getElem? (i := 691) (by decide +kernel)) rfl
theorem tw_692 : Cond.methodLink RX5 127 yX5_isEnd ∈ TB := tb (List.mem_of_getElem? (i := 692) (by decide +kernel)) rfl
theorem tw_693 : Cond.static yX5_isEnd ∈ TB := tb (List.mem_of_getElem? (i := 693) (by decide +kernel)) rfl
theorem tw_694 : Cond.code yX5_isEnd cX5_isEnd 1 (some .boolean) ∈ TB := tb (List.mem_of_getElem? (i := 694) (by decide +kernel)) rfl
theorem tw_695 : Cond.methodLink RX5 130 yX5_weighsNow ∈ TB := tb (List.mem_of_getElem? (i := 695) (by decide +kernel)) rfl
theorem tw_697 : Cond.instanceMethod yX5_weighsNow ∈ TB := tb (List.mem_of_getElem? (i := 697) (by decide +kernel)) rfl
theorem tw_698 : Cond.code yX5_weighsNow cX5_weighsNow 2 none ∈ TB := tb (List.mem_of_getElem? (i := 698) (by decide +kernel)) rfl
theorem tw_699 : Cond.methodLink RX5 121 yX5_weighs ∈ TB := tb (List.mem_of_getElem? (i := 699) (by decide +kernel)) rfl
theorem tw_701 : Cond.instanceMethod yX5_weighs ∈ TB := tb (List.mem_of_getElem? (i := 701) (by decide +kernel)) rfl
theorem tw_702 : Cond.code yX5_weighs cX5_weighs 9 none ∈ TB := tb (List.mem_of_getElem? (i := 702) (by decide +kernel)) rfl
theorem tw_703 : Cond.methodLink RX5 106 yX5_clears ∈ TB := tb (List.mem_of_getElem? (i := 703) (by decide +kernel)) rfl
theorem tw_705 : Cond.instanceMethod yX5_clears ∈ TB := tb (List.mem_of_getElem? (i := 705) (by decide +kernel)) rfl
theorem tw_706 : Cond.code yX5_clears cX5_clears 2 none ∈ TB := tb (List.mem_of_getElem? (i := 706) (by decide +kernel)) rfl
theorem tw_707 : Cond.constantLong RX5 109 (4398046511104) ∈ TB := tb (List.mem_of_getElem? (i := 707) (by decide +kernel)) rfl
theorem tw_708 : Cond.methodLink RX5 111 yX5_begin0 ∈ TB := tb (List.mem_of_getElem? (i := 708) (by decide +kernel)) rfl
theorem tw_710 : Cond.instanceMethod yX5_begin0 ∈ TB := tb (List.mem_of_getElem? (i := 710) (by decide +kernel)) rfl
theorem tw_711 : Cond.code yX5_begin0 cX5_begin0 5 none ∈ TB := tb (List.mem_of_getElem? (i := 711) (by decide +kernel)) rfl
theorem tw_712 : Cond.methodLink RX5 99 yX5_spot ∈ TB := tb (List.mem_of_getElem? (i := 712) (by decide +kernel)) rfl
theorem tw_713 : Cond.static yX5_spot ∈ TB := tb (List.mem_of_getElem? (i := 713) (by decide +kernel)) rfl
theorem tw_714 : Cond.code yX5_spot cX5_spot 3 (some .int) ∈ TB := tb (List.mem_of_getElem? (i := 714) (by decide +kernel)) rfl
theorem tw_715 : Cond.constantLong RX5 115 (4) ∈ TB := tb (List.mem_of_getElem? (i := 715) (by decide +kernel)) rfl
theorem tw_716 : Cond.methodLink RX5 117 yX5_goes ∈ TB := tb (List.mem_of_getElem? (i := 716) (by decide +kernel)) rfl
theorem tw_718 : Cond.instanceMethod yX5_goes ∈ TB := tb (List.mem_of_getElem? (i := 718) (by decide +kernel)) rfl
theorem tw_719 : Cond.code yX5_goes cX5_goes 18 none ∈ TB := tb (List.mem_of_getElem? (i := 719) (by decide +kernel)) rfl
theorem tw_720 : Cond.methodLink RX5 134 yX5_cut ∈ TB := tb (List.mem_of_getElem? (i := 720) (by decide +kernel)) rfl
theorem tw_721 : Cond.static yX5_cut ∈ TB := tb (List.mem_of_getElem? (i := 721) (by decide +kernel)) rfl
theorem tw_722 : Cond.code yX5_cut cX5_cut 4 (some .int) ∈ TB := tb (List.mem_of_getElem? (i := 722) (by decide +kernel)) rfl
theorem tw_723 : Cond.constantLong RX5 125 (10000) ∈ TB := tb (List.mem_of_getElem? (i := 723) (by decide +kernel)) rfl
theorem tw_724 : Cond.methodLink RL 67 yX5_mean ∈ TB := tb (List.mem_of_getElem? (i := 724) (by decide +kernel)) rfl
theorem tw_725 : Cond.instanceMethod yX5_mean ∈ TB := tb (List.mem_of_getElem? (i := 725) (by decide +kernel)) rfl
theorem tw_726 : Cond.selects RX5 yX5_mean yX5_mean ∈ TB := tb (List.mem_of_getElem? (i := 726) (by decide +kernel)) rfl
theorem tw_727 : Cond.code yX5_mean cX5_mean 5 (some .int) ∈ TB := tb (List.mem_of_getElem? (i := 727) (by decide +kernel)) rfl
theorem tw_728 : Cond.constantLong RX5 138 (100) ∈ TB := tb (List.mem_of_getElem? (i := 728) (by decide +kernel)) rfl
theorem tw_729 : Cond.methodLink RL 71 yX5_soon ∈ TB := tb (List.mem_of_getElem? (i := 729) (by decide +kernel)) rfl
theorem tw_730 : Cond.instanceMethod yX5_soon ∈ TB := tb (List.mem_of_getElem? (i := 730) (by decide +kernel)) rfl
theorem tw_731 : Cond.selects RX5 yX5_soon yX5_soon ∈ TB := tb (List.mem_of_getElem? (i := 731) (by decide +kernel)) rfl
theorem tw_732 : Cond.code yX5_soon cX5_soon 3 (some .int) ∈ TB := tb (List.mem_of_getElem? (i := 732) (by decide +kernel)) rfl
theorem tw_733 : Cond.methodLink RX5 140 yX5_within ∈ TB := tb (List.mem_of_getElem? (i := 733) (by decide +kernel)) rfl
theorem tw_735 : Cond.instanceMethod yX5_within ∈ TB := tb (List.mem_of_getElem? (i := 735) (by decide +kernel)) rfl
theorem tw_736 : Cond.code yX5_within cX5_within 5 (some .long) ∈ TB := tb (List.mem_of_getElem? (i := 736) (by decide +kernel)) rfl
theorem tw_737 : Cond.methodLink RL 75 yX5_times ∈ TB := tb (List.mem_of_getElem? (i := 737) (by decide +kernel)) rfl
theorem tw_738 : Cond.instanceMethod yX5_times ∈ TB := tb (List.mem_of_getElem? (i := 738) (by decide +kernel)) rfl
theorem tw_739 : Cond.selects RX5 yX5_times yX5_times ∈ TB := tb (List.mem_of_getElem? (i := 739) (by decide +kernel)) rfl
theorem tw_740 : Cond.code yX5_times cX5_times 2 (some .int) ∈ TB := tb (List.mem_of_getElem? (i := 740) (by decide +kernel)) rfl
theorem tw_741 : Cond.methodLink RX5 144 yX5_reaches ∈ TB := tb (List.mem_of_getElem? (i := 741) (by decide +kernel)) rfl
theorem tw_743 : Cond.instanceMethod yX5_reaches ∈ TB := tb (List.mem_of_getElem? (i := 743) (by decide +kernel)) rfl
theorem tw_744 : Cond.code yX5_reaches cX5_reaches 4 (some .long) ∈ TB := tb (List.mem_of_getElem? (i := 744) (by decide +kernel)) rfl
theorem tw_745 : Cond.methodLink RL 79 yX5_likeliest ∈ TB := tb (List.mem_of_getElem? (i := 745) (by decide +kernel)) rfl
theorem tw_746 : Cond.instanceMethod yX5_likeliest ∈ TB := tb (List.mem_of_getElem? (i := 746) (by decide +kernel)) rfl
theorem tw_747 : Cond.selects RX5 yX5_likeliest yX5_likeliest ∈ TB := tb (List.mem_of_getElem? (i := 747) (by decide +kernel)) rfl
theorem tw_748 : Cond.code yX5_likeliest cX5_likeliest 4 (some .int) ∈ TB := tb (List.mem_of_getElem? (i := 748) (by decide +kernel)) rfl
theorem tw_749 : Cond.methodLink RL 83 yX5_level ∈ TB := tb (List.mem_of_getElem? (i := 749) (by decide +kernel)) rfl
theorem tw_750 : Cond.instanceMethod yX5_level ∈ TB := tb (List.mem_of_getElem? (i := 750) (by decide +kernel)) rfl
theorem tw_751 : Cond.selects RX5 yX5_level yX5_level ∈ TB := tb (List.mem_of_getElem? (i := 751) (by decide +kernel)) rfl
theorem tw_752 : Cond.code yX5_level cX5_level 8 (some .int) ∈ TB := tb (List.mem_of_getElem? (i := 752) (by decide +kernel)) rfl
theorem tw_753 : Cond.methodLink RL 87 yX5_worth ∈ TB := tb (List.mem_of_getElem? (i := 753) (by decide +kernel)) rfl
theorem tw_754 : Cond.instanceMethod yX5_worth ∈ TB := tb (List.mem_of_getElem? (i := 754) (by decide +kernel)) rfl
theorem tw_755 : Cond.selects RX5 yX5_worth yX5_worth ∈ TB := tb (List.mem_of_getElem? (i := 755) (by decide +kernel)) rfl
theorem tw_756 : Cond.code yX5_worth cX5_worth 4 (some .int) ∈ TB := tb (List.mem_of_getElem? (i := 756) (by decide +kernel)) rfl
theorem tw_757 : Cond.methodLink RX5 148 yX5_reachesFrom ∈ TB := tb (List.mem_of_getElem? (i := 757) (by decide +kernel)) rfl
theorem tw_759 : Cond.instanceMethod yX5_reachesFrom ∈ TB := tb (List.mem_of_getElem? (i := 759) (by decide +kernel)) rfl
theorem tw_760 : Cond.code yX5_reachesFrom cX5_reachesFrom 3 (some .long) ∈ TB := tb (List.mem_of_getElem? (i := 760) (by decide +kernel)) rfl
theorem tw_761 : Cond.methodLink RL 92 yX5_begin ∈ TB := tb (List.mem_of_getElem? (i := 761) (by decide +kernel)) rfl
theorem tw_762 : Cond.instanceMethod yX5_begin ∈ TB := tb (List.mem_of_getElem? (i := 762) (by decide +kernel)) rfl
theorem tw_763 : Cond.selects RX5 yX5_begin yX5_begin ∈ TB := tb (List.mem_of_getElem? (i := 763) (by decide +kernel)) rfl
theorem tw_764 : Cond.code yX5_begin cX5_begin 9 (some .int) ∈ TB := tb (List.mem_of_getElem? (i := 764) (by decide +kernel)) rfl
theorem tw_765 : Cond.methodLink RL 96 yX5_over ∈ TB := tb (List.mem_of_getElem? (i := 765) (by decide +kernel)) rfl
theorem tw_766 : Cond.instanceMethod yX5_over ∈ TB := tb (List.mem_of_getElem? (i := 766) (by decide +kernel)) rfl
theorem tw_767 : Cond.selects RX5 yX5_over yX5_over ∈ TB := tb (List.mem_of_getElem? (i := 767) (by decide +kernel)) rfl
theorem tw_768 : Cond.code yX5_over cX5_over 10 (some .int) ∈ TB := tb (List.mem_of_getElem? (i := 768) (by decide +kernel)) rfl
theorem tw_769 : Cond.methodLink RL 100 yX5_seen ∈ TB := tb (List.mem_of_getElem? (i := 769) (by decide +kernel)) rfl
theorem tw_770 : Cond.instanceMethod yX5_seen ∈ TB := tb (List.mem_of_getElem? (i := 770) (by decide +kernel)) rfl
theorem tw_771 : Cond.selects RX5 yX5_seen yX5_seen ∈ TB := tb (List.mem_of_getElem? (i := 771) (by decide +kernel)) rfl
theorem tw_772 : Cond.code yX5_seen cX5_seen 3 (some .int) ∈ TB := tb (List.mem_of_getElem? (i := 772) (by decide +kernel)) rfl
theorem tw_773 : Cond.methodLink RL 104 yX5_forget ∈ TB := tb (List.mem_of_getElem? (i := 773) (by decide +kernel)) rfl
theorem tw_774 : Cond.instanceMethod yX5_forget ∈ TB := tb (List.mem_of_getElem? (i := 774) (by decide +kernel)) rfl
theorem tw_775 : Cond.selects RX5 yX5_forget yX5_forget ∈ TB := tb (List.mem_of_getElem? (i := 775) (by decide +kernel)) rfl
theorem tw_776 : Cond.code yX5_forget cX5_forget 2 (some .int) ∈ TB := tb (List.mem_of_getElem? (i := 776) (by decide +kernel)) rfl
theorem tw_777 : Cond.methodLink RL 108 yX5_fits ∈ TB := tb (List.mem_of_getElem? (i := 777) (by decide +kernel)) rfl
theorem tw_778 : Cond.instanceMethod yX5_fits ∈ TB := tb (List.mem_of_getElem? (i := 778) (by decide +kernel)) rfl
theorem tw_779 : Cond.selects RX5 yX5_fits yX5_fits ∈ TB := tb (List.mem_of_getElem? (i := 779) (by decide +kernel)) rfl
theorem tw_780 : Cond.code yX5_fits cX5_fits 4 (some .int) ∈ TB := tb (List.mem_of_getElem? (i := 780) (by decide +kernel)) rfl
theorem tw_781 : Cond.methodLink RX5 152 yX5_sightsBy ∈ TB := tb (List.mem_of_getElem? (i := 781) (by decide +kernel)) rfl
theorem tw_783 : Cond.instanceMethod yX5_sightsBy ∈ TB := tb (List.mem_of_getElem? (i := 783) (by decide +kernel)) rfl
theorem tw_784 : Cond.code yX5_sightsBy cX5_sightsBy 8 (some .long) ∈ TB := tb (List.mem_of_getElem? (i := 784) (by decide +kernel)) rfl
theorem tw_785 : Cond.methodLink RL 112 yX5_asLikely ∈ TB := tb (List.mem_of_getElem? (i := 785) (by decide +kernel)) rfl
theorem tw_786 : Cond.instanceMethod yX5_asLikely ∈ TB := tb (List.mem_of_getElem? (i := 786) (by decide +kernel)) rfl
theorem tw_787 : Cond.selects RX5 yX5_asLikely yX5_asLikely ∈ TB := tb (List.mem_of_getElem? (i := 787) (by decide +kernel)) rfl
theorem tw_788 : Cond.code yX5_asLikely cX5_asLikely 9 (some .int) ∈ TB := tb (List.mem_of_getElem? (i := 788) (by decide +kernel)) rfl
theorem tw_789 : Cond.methodLink RL 116 yX5_evenings ∈ TB := tb (List.mem_of_getElem? (i := 789) (by decide +kernel)) rfl
theorem tw_790 : Cond.instanceMethod yX5_evenings ∈ TB := tb (List.mem_of_getElem? (i := 790) (by decide +kernel)) rfl
theorem tw_791 : Cond.selects RX5 yX5_evenings yX5_evenings ∈ TB := tb (List.mem_of_getElem? (i := 791) (by decide +kernel)) rfl
theorem tw_792 : Cond.code yX5_evenings cX5_evenings 6 (some .int) ∈ TB := tb (List.mem_of_getElem? (i := 792) (by decide +kernel)) rfl
theorem tw_793 : Cond.methodLink RL 120 yX5_which ∈ TB := tb (List.mem_of_getElem? (i := 793) (by decide +kernel)) rfl
theorem tw_794 : Cond.instanceMethod yX5_which ∈ TB := tb (List.mem_of_getElem? (i := 794) (by decide +kernel)) rfl
theorem tw_795 : Cond.selects RX5 yX5_which yX5_which ∈ TB := tb (List.mem_of_getElem? (i := 795) (by decide +kernel)) rfl
theorem tw_796 : Cond.code yX5_which cX5_which 1 (some .int) ∈ TB := tb (List.mem_of_getElem? (i := 796) (by decide +kernel)) rfl
theorem tw_797 : Cond.methodLink RL 125 yX5_better ∈ TB := tb (List.mem_of_getElem? (i := 797) (by decide +kernel)) rfl
theorem tw_798 : Cond.instanceMethod yX5_better ∈ TB := tb (List.mem_of_getElem? (i := 798) (by decide +kernel)) rfl
theorem tw_799 : Cond.selects RX5 yX5_better yX5_better ∈ TB := tb (List.mem_of_getElem? (i := 799) (by decide +kernel)) rfl
theorem tw_800 : Cond.code yX5_better cX5_better 9 (some .int) ∈ TB := tb (List.mem_of_getElem? (i := 800) (by decide +kernel)) rfl
theorem tw_801 : Cond.methodLink RL 129 yX5_coat ∈ TB := tb (List.mem_of_getElem? (i := 801) (by decide +kernel)) rfl
theorem tw_802 : Cond.instanceMethod yX5_coat ∈ TB := tb (List.mem_of_getElem? (i := 802) (by decide +kernel)) rfl
theorem tw_803 : Cond.selects RX5 yX5_coat yX5_coat ∈ TB := tb (List.mem_of_getElem? (i := 803) (by decide +kernel)) rfl
theorem tw_804 : Cond.code yX5_coat cX5_coat 13 (some .int) ∈ TB := tb (List.mem_of_getElem? (i := 804) (by decide +kernel)) rfl
theorem tw_805 : Cond.constantLong RX5 155 (7919) ∈ TB := tb (List.mem_of_getElem? (i := 805) (by decide +kernel)) rfl
theorem tw_806 : Cond.constantLong RX5 157 (6151) ∈ TB := tb (List.mem_of_getElem? (i := 806) (by decide +kernel)) rfl
theorem tw_807 : Cond.constantLong RX5 159 (65521) ∈ TB := tb (List.mem_of_getElem? (i := 807) (by decide +kernel)) rfl
theorem tw_808 : Cond.methodLink RL 133 yX5_keep ∈ TB := tb (List.mem_of_getElem? (i := 808) (by decide +kernel)) rfl
theorem tw_809 : Cond.instanceMethod yX5_keep ∈ TB := tb (List.mem_of_getElem? (i := 809) (by decide +kernel)) rfl
theorem tw_810 : Cond.selects RX5 yX5_keep yX5_keep ∈ TB := tb (List.mem_of_getElem? (i := 810) (by decide +kernel)) rfl
theorem tw_811 : Cond.code yX5_keep cX5_keep 2 (some .int) ∈ TB := tb (List.mem_of_getElem? (i := 811) (by decide +kernel)) rfl
theorem tw_812 : Cond.methodLink RL 137 yX5_back ∈ TB := tb (List.mem_of_getElem? (i := 812) (by decide +kernel)) rfl
theorem tw_813 : Cond.instanceMethod yX5_back ∈ TB := tb (List.mem_of_getElem? (i := 813) (by decide +kernel)) rfl
theorem tw_814 : Cond.selects RX5 yX5_back yX5_back ∈ TB := tb (List.mem_of_getElem? (i := 814) (by decide +kernel)) rfl
theorem tw_815 : Cond.code yX5_back cX5_back 2 (some .int) ∈ TB := tb (List.mem_of_getElem? (i := 815) (by decide +kernel)) rfl
theorem tw_816 : Cond.methodLink RL 141 yX5_count ∈ TB := tb (List.mem_of_getElem? (i := 816) (by decide +kernel)) rfl
theorem tw_817 : Cond.instanceMethod yX5_count ∈ TB := tb (List.mem_of_getElem? (i := 817) (by decide +kernel)) rfl
theorem tw_818 : Cond.selects RX5 yX5_count yX5_count ∈ TB := tb (List.mem_of_getElem? (i := 818) (by decide +kernel)) rfl
theorem tw_819 : Cond.code yX5_count cX5_count 2 (some .int) ∈ TB := tb (List.mem_of_getElem? (i := 819) (by decide +kernel)) rfl
theorem tw_1000 : Cond.selects RX2 yX2_readItem yX2_readItem ∈ TB := tbs (List.mem_of_getElem? (i := 0) (by decide +kernel)) rfl
theorem tw_1001 : Cond.selects RX2 yX2_letterHere yX2_letterHere ∈ TB := tbs (List.mem_of_getElem? (i := 1) (by decide +kernel)) rfl
theorem tw_1002 : Cond.selects RX2 yX2_readTwo yX2_readTwo ∈ TB := tbs (List.mem_of_getElem? (i := 2) (by decide +kernel)) rfl
theorem tw_1003 : Cond.selects RX2 yX2_readNumber yX2_readNumber ∈ TB := tbs (List.mem_of_getElem? (i := 3) (by decide +kernel)) rfl
theorem tw_1004 : Cond.selects RX2 yX2_readFigure yX2_readFigure ∈ TB := tbs (List.mem_of_getElem? (i := 4) (by decide +kernel)) rfl
theorem tw_1005 : Cond.selects RX2 yX2_readSign yX2_readSign ∈ TB := tbs (List.mem_of_getElem? (i := 5) (by decide +kernel)) rfl
theorem tw_1006 : Cond.selects RX2 yX2_tellBoxes yX2_tellBoxes ∈ TB := tbs (List.mem_of_getElem? (i := 6) (by decide +kernel)) rfl
theorem tw_1007 : Cond.selects RX2 yX2_tellHand yX2_tellHand ∈ TB := tbs (List.mem_of_getElem? (i := 7) (by decide +kernel)) rfl
theorem tw_1008 : Cond.selects RX2 yX2_readOne yX2_readOne ∈ TB := tbs (List.mem_of_getElem? (i := 8) (by decide +kernel)) rfl
theorem tw_1009 : Cond.selects RX2 yX2_tellLast yX2_tellLast ∈ TB := tbs (List.mem_of_getElem? (i := 9) (by decide +kernel)) rfl
theorem tw_1010 : Cond.selects RX2 yX2_tellEvening yX2_tellEvening ∈ TB := tbs (List.mem_of_getElem? (i := 10) (by decide +kernel)) rfl
theorem tw_1011 : Cond.selects RX1 yX1_dropOldest yX1_dropOldest ∈ TB := tbs (List.mem_of_getElem? (i := 11) (by decide +kernel)) rfl
theorem tw_1012 : Cond.selects RX4 yX4_walkToEnd yX4_walkToEnd ∈ TB := tbs (List.mem_of_getElem? (i := 12) (by decide +kernel)) rfl
theorem tw_1013 : Cond.selects RX4 yX4_startFrom yX4_startFrom ∈ TB := tbs (List.mem_of_getElem? (i := 13) (by decide +kernel)) rfl
theorem tw_1014 : Cond.selects RX3 yX3_endBy yX3_endBy ∈ TB := tbs (List.mem_of_getElem? (i := 14) (by decide +kernel)) rfl
theorem tw_1015 : Cond.selects RX3 yX3_advanceOnce yX3_advanceOnce ∈ TB := tbs (List.mem_of_getElem? (i := 15) (by decide +kernel)) rfl
theorem tw_1016 : Cond.selects RX3 yX3_follow yX3_follow ∈ TB := tbs (List.mem_of_getElem? (i := 16) (by decide +kernel)) rfl
theorem tw_1017 : Cond.selects RX4 yX4_reachesWith yX4_reachesWith ∈ TB := tbs (List.mem_of_getElem? (i := 17) (by decide +kernel)) rfl
theorem tw_1018 : Cond.selects RX4 yX4_likeliestQuarters yX4_likeliestQuarters ∈ TB := tbs (List.mem_of_getElem? (i := 18) (by decide +kernel)) rfl
theorem tw_1019 : Cond.selects RX4 yX4_chanceOfSeen yX4_chanceOfSeen ∈ TB := tbs (List.mem_of_getElem? (i := 19) (by decide +kernel)) rfl
theorem tw_1020 : Cond.selects RX4 yX4_startByHand yX4_startByHand ∈ TB := tbs (List.mem_of_getElem? (i := 20) (by decide +kernel)) rfl
theorem tw_1021 : Cond.selects RX4 yX4_reachesByHand yX4_reachesByHand ∈ TB := tbs (List.mem_of_getElem? (i := 21) (by decide +kernel)) rfl
theorem tw_1022 : Cond.selects RX5 yX5_begins yX5_begins ∈ TB := tbs (List.mem_of_getElem? (i := 22) (by decide +kernel)) rfl
theorem tw_1023 : Cond.selects RX5 yX5_lays yX5_lays ∈ TB := tbs (List.mem_of_getElem? (i := 23) (by decide +kernel)) rfl
theorem tw_1024 : Cond.selects RX5 yX5_readsAll yX5_readsAll ∈ TB := tbs (List.mem_of_getElem? (i := 24) (by decide +kernel)) rfl
theorem tw_1025 : Cond.selects RX5 yX5_readsItem yX5_readsItem ∈ TB := tbs (List.mem_of_getElem? (i := 25) (by decide +kernel)) rfl
theorem tw_1026 : Cond.selects RX5 yX5_readsTwo yX5_readsTwo ∈ TB := tbs (List.mem_of_getElem? (i := 26) (by decide +kernel)) rfl
theorem tw_1027 : Cond.selects RX5 yX5_number yX5_number ∈ TB := tbs (List.mem_of_getElem? (i := 27) (by decide +kernel)) rfl
theorem tw_1028 : Cond.selects RX5 yX5_letterAt yX5_letterAt ∈ TB := tbs (List.mem_of_getElem? (i := 28) (by decide +kernel)) rfl
theorem tw_1029 : Cond.selects RX5 yX5_keeps yX5_keeps ∈ TB := tbs (List.mem_of_getElem? (i := 29) (by decide +kernel)) rfl
theorem tw_1030 : Cond.selects RX5 yX5_weighsNow yX5_weighsNow ∈ TB := tbs (List.mem_of_getElem? (i := 30) (by decide +kernel)) rfl
theorem tw_1031 : Cond.selects RX5 yX5_weighs yX5_weighs ∈ TB := tbs (List.mem_of_getElem? (i := 31) (by decide +kernel)) rfl
theorem tw_1032 : Cond.selects RX5 yX5_clears yX5_clears ∈ TB := tbs (List.mem_of_getElem? (i := 32) (by decide +kernel)) rfl
theorem tw_1033 : Cond.selects RX5 yX5_begin0 yX5_begin0 ∈ TB := tbs (List.mem_of_getElem? (i := 33) (by decide +kernel)) rfl
theorem tw_1034 : Cond.selects RX5 yX5_goes yX5_goes ∈ TB := tbs (List.mem_of_getElem? (i := 34) (by decide +kernel)) rfl
theorem tw_1035 : Cond.selects RX5 yX5_within yX5_within ∈ TB := tbs (List.mem_of_getElem? (i := 35) (by decide +kernel)) rfl
theorem tw_1036 : Cond.selects RX5 yX5_reaches yX5_reaches ∈ TB := tbs (List.mem_of_getElem? (i := 36) (by decide +kernel)) rfl
theorem tw_1037 : Cond.selects RX5 yX5_reachesFrom yX5_reachesFrom ∈ TB := tbs (List.mem_of_getElem? (i := 37) (by decide +kernel)) rfl
theorem tw_1038 : Cond.selects RX5 yX5_sightsBy yX5_sightsBy ∈ TB := tbs (List.mem_of_getElem? (i := 38) (by decide +kernel)) rfl
theorem tu_0 : ∀ w ∈ u_ws RX0 TX0 5, w ∈ TB := fun w h => tb (mem_places (big := tables_1) [44, 46, 48, 50, 52] (by decide +kernel) w h) (List.all_eq_true.mp (show (u_ws RX0 TX0 5).all goodWord = true by decide +kernel) w h)
theorem tu_1 : ∀ w ∈ u_ws RX1 TX1 2, w ∈ TB := fun w h => tb (mem_places (big := tables_1) [96, 98] (by decide +kernel) w h) (List.all_eq_true.mp (show (u_ws RX1 TX1 2).all goodWord = true by decide +kernel) w h)
theorem tu_2 : ∀ w ∈ u_ws RX2 TX2 7, w ∈ TB := fun w h => tb (mem_places (big := tables_1) [65, 67, 69, 71, 73, 75, 77] (by decide +kernel) w h) (List.all_eq_true.mp (show (u_ws RX2 TX2 7).all goodWord = true by decide +kernel) w h)
theorem tu_3 : ∀ w ∈ u_ws RX3 TX3 9, w ∈ TB := fun w h => tb (mem_places (big := tables_1) [116, 118, 120, 122, 124, 126, 128, 130, 132] (by decide +kernel) w h) (List.all_eq_true.mp (show (u_ws RX3 TX3 9).all goodWord = true by decide +kernel) w h)
theorem tu_4 : ∀ w ∈ u_ws RX4 TX4 10, w ∈ TB := fun w h => tb (mem_places (big := tables_1) [154, 156, 158, 160, 162, 164, 166, 168, 170, 172] (by decide +kernel) w h) (List.all_eq_true.mp (show (u_ws RX4 TX4 10).all goodWord = true by decide +kernel) w h)
theorem tu_5 : ∀ w ∈ u_ws RX5 TX5 17, w ∈ TB := fun w h => tb (mem_places (big := tables_1) [576, 578, 580, 582, 584, 586, 588, 590, 592, 594, 596, 598, 600, 602, 604, 606, 608] (by decide +kernel) w h) (List.all_eq_true.mp (show (u_ws RX5 TX5 17).all goodWord = true by decide +kernel) w h)
end
section
/-! THE LAYER: Z D k cs ws pc lv st: the machine stands at pc with locals lv, stack st, world ws, and comes to k's end. -/
abbrev zT : Type := ClassId × ClassId × ClassId × ClassId
/-- classes, array classes and nest words at a state -/
def KK (D : va_G) (t : zT) (U : State) : Prop :=
  va_K D vwCl [(t.1, .int), (t.2.1, .long), (t.2.2.1, .char), (t.2.2.2, .object "EitherPocket$Coat")] U ∧ (∀ w ∈ tables_1, isN w = true → va_Nw w U) ∧ va_AO "EitherPocket$Coat" U
theorem isN_spec {w : Cond} (h : isN w = true) : ∃ a i x hh, w = .methodLinkNest a i x hh := by
  cases w <;> first | exact ⟨_, _, _, _, rfl⟩ | (simp [isN] at h)
theorem KK.warm {D : va_G} {t : zT} {s U : State} (hW : s.WarmedH U.vm) (h : KK D t s) : KK D t U :=
  ⟨va_K.moved hW.alike h.1, fun w hw hn => by
    obtain ⟨a, i, x, hh, rfl⟩ := isN_spec hn
    exact va_Nw.warmM hW (h.2.1 _ hw hn), va_AO.moved hW.alike h.2.2⟩
theorem KK.calling {D : va_G} {t : zT} {U : State} {g : JFrame} {mk : MethodId} {a : Array Value} (h : KK D t U) : KK D t (U.calling g mk a) :=
  ⟨va_K.moved (u := U) (U := U.calling g mk a) (Vm.Alike.refl U.vm) h.1, fun w hw hn => by
    obtain ⟨a, i, x, hh, rfl⟩ := isN_spec hn
    exact va_Nw.same rfl (rfl : U.vm = (U.calling g mk _).vm) (h.2.1 _ hw hn), va_AO.moved (u := U) (U := U.calling g mk a) (Vm.Alike.refl U.vm) h.2.2⟩
/-- what stays fixed in a walk: p l e R s m args below meth c nL A Q -/
abbrev zK : Type := Program × Launch × Env × Room × State × MethodId × Array Value × List Frame × Method × Code × Nat × (Nat → Prop) × (State → Prop)
def Z (D : va_G) (k : zK) (cs : Nat × Nat) (ws : va_W) (pc : Nat) (lv : List (Nat × Value)) (st : List Value) : Prop :=
  match k with
  | (p, l, e, R, s, m, args, below, meth, c, nL, A, Q) => ∀ (H : Heap) (locs : List Loc) (ls : Array Slot), va_P D vwCl ws H → va_D A ws → va_S A s.heap H locs → lv_has ls nL lv → W p l e R s m args below meth c H locs cs.1 cs.2 Q (F0 m pc ls st)
def zX (D : va_G) (t : zT) (k : zK) (b : ByteArray) (n : Nat) (own nm : String) (rm : Room) (l0 : Launch) : Prop :=
  match k with
  | (p, l, _, R, s, m, args, _, meth, c, nL, A, _) => p.tables.exec = Jvm.exec ∧ c.code = b ∧ c.maxLocals = n ∧ nL = n ∧ s.vm.findClass own = some m.cls ∧ (∀ w ∈ TB, w.before args s = true) ∧ KK D t s ∧ (∀ q : Nat, s.heap.size ≤ q → A q) ∧ meth.name = nm ∧ R = rm ∧ l = l0
section ZL
variable {D : va_G} {t : zT} {k : zK} {b : ByteArray} {n : Nat} {own nm : String} {rm : Room} {l0 : Launch} {cs : Nat × Nat} {ws : va_W} {pc : Nat} {lv : List (Nat × Value)} {st : List Value}

theorem z_iconst (X : zX D t k b n own nm rm l0) {i : Int} (v : Int32)  (hd : decode b pc = .ok (.iconst i, 1)) (hv : Int32.ofInt i = v) (kk : Z D k cs ws (pc + 1) lv (.int v :: st)) : Z D k cs ws pc lv (st) := by
  obtain ⟨p, l, e, R, s, m, args, below, meth, c, nL, A, Q⟩ := k
  obtain ⟨hx, hb, hml, hnl, hown, hts, hK, hA, hnm, hR, hl0⟩ := X
  intro H locs ls hP hD hS hl
  exact lv_iconst hx hb hd hv (kk H locs ls hP hD hS hl)
theorem z_bipush (X : zX D t k b n own nm rm l0) {i : Int} (v : Int32)  (hd : decode b pc = .ok (.bipush i, 2)) (hv : (Int8.ofInt i).toInt32 = v) (kk : Z D k cs ws (pc + 2) lv (.int v :: st)) : Z D k cs ws pc lv (st) := by
  obtain ⟨p, l, e, R, s, m, args, below, meth, c, nL, A, Q⟩ := k
  obtain ⟨hx, hb, hml, hnl, hown, hts, hK, hA, hnm, hR, hl0⟩ := X
  intro H locs ls hP hD hS hl
  exact lv_bipush hx hb hd hv (kk H locs ls hP hD hS hl)
theorem z_sipush (X : zX D t k b n own nm rm l0) {i : Int} (v : Int32)  (hd : decode b pc = .ok (.sipush i, 3)) (hv : (Int16.ofInt i).toInt32 = v) (kk : Z D k cs ws (pc + 3) lv (.int v :: st)) : Z D k cs ws pc lv (st) := by
  obtain ⟨p, l, e, R, s, m, args, below, meth, c, nL, A, Q⟩ := k
  obtain ⟨hx, hb, hml, hnl, hown, hts, hK, hA, hnm, hR, hl0⟩ := X
  intro H locs ls hP hD hS hl
  exact lv_sipush hx hb hd hv (kk H locs ls hP hD hS hl)
theorem z_lconst (X : zX D t k b n own nm rm l0) {i : Fin 2} (v : Int64)  (hd : decode b pc = .ok (.lconst i, 1)) (hv : Int64.ofNat (i : Nat) = v) (kk : Z D k cs ws (pc + 1) lv (.long v :: st)) : Z D k cs ws pc lv (st) := by
  obtain ⟨p, l, e, R, s, m, args, below, meth, c, nL, A, Q⟩ := k
  obtain ⟨hx, hb, hml, hnl, hown, hts, hK, hA, hnm, hR, hl0⟩ := X
  intro H locs ls hP hD hS hl
  exact lv_lconst hx hb hd hv (kk H locs ls hP hD hS hl)
theorem z_ldc2 (X : zX D t k b n own nm rm l0) {i : Nat} (v : Int64)  (hd : decode b pc = .ok (.ldc2_w i, 3)) (hw : Cond.constantLong own i v ∈ TB) (kk : Z D k cs ws (pc + 3) lv (.long v :: st)) : Z D k cs ws pc lv (st) := by
  obtain ⟨p, l, e, R, s, m, args, below, meth, c, nL, A, Q⟩ := k
  obtain ⟨hx, hb, hml, hnl, hown, hts, hK, hA, hnm, hR, hl0⟩ := X
  intro H locs ls hP hD hS hl
  exact lv_ldc2 hx hb hown (hts _ hw) hd (kk H locs ls hP hD hS hl)
theorem z_iload_n (X : zX D t k b n own nm rm l0) {i : Fin 4} (q : Nat) {x : Int32}  (hd : decode b pc = .ok (.iload_n i, 1)) (hq : lv[q]? = some ((i : Nat), .int x)) (kk : Z D k cs ws (pc + 1) lv (.int x :: st)) : Z D k cs ws pc lv (st) := by
  obtain ⟨p, l, e, R, s, m, args, below, meth, c, nL, A, Q⟩ := k
  obtain ⟨hx, hb, hml, hnl, hown, hts, hK, hA, hnm, hR, hl0⟩ := X
  intro H locs ls hP hD hS hl
  exact lv_iload_n hx hb hd rfl (lv_at hl q hq) (kk H locs ls hP hD hS hl)
theorem z_iload (X : zX D t k b n own nm rm l0) {i : Nat} (q : Nat) {x : Int32}  (hd : decode b pc = .ok (.iload i, 2)) (hq : lv[q]? = some (i, .int x)) (kk : Z D k cs ws (pc + 2) lv (.int x :: st)) : Z D k cs ws pc lv (st) := by
  obtain ⟨p, l, e, R, s, m, args, below, meth, c, nL, A, Q⟩ := k
  obtain ⟨hx, hb, hml, hnl, hown, hts, hK, hA, hnm, hR, hl0⟩ := X
  intro H locs ls hP hD hS hl
  exact lv_iload hx hb hd (lv_at hl q hq) (kk H locs ls hP hD hS hl)
theorem z_istore_n (X : zX D t k b n own nm rm l0) {i : Nat} {j : Fin 4} {x : Int32} (lv2 : List (Nat × Value)) (hd : decode b pc = .ok (.istore_n j, 1)) (hj : (j : Nat) = i) (hn : i < n) (hq : (i, Value.int x) :: lv.filter (fun q => !(q.1 == i) && !(q.1 + 1 == i && q.2.category == 2)) = lv2) (kk : Z D k cs ws (pc + 1) lv2 st) : Z D k cs ws pc lv (.int x :: st) := by
  obtain ⟨p, l, e, R, s, m, args, below, meth, c, nL, A, Q⟩ := k
  obtain ⟨hx, hb, hml, hnl, hown, hts, hK, hA, hnm, hR, hl0⟩ := X
  intro H locs ls hP hD hS hl
  subst hnl
  exact lv_istore_n hx hb hd hj hl hn hq (fun ls2 hl2 => kk H locs ls2 hP hD hS hl2)
theorem z_istore (X : zX D t k b n own nm rm l0) {i : Nat} {x : Int32} (lv2 : List (Nat × Value)) (hd : decode b pc = .ok (.istore i, 2)) (hj : True) (hn : i < n) (hq : (i, Value.int x) :: lv.filter (fun q => !(q.1 == i) && !(q.1 + 1 == i && q.2.category == 2)) = lv2) (kk : Z D k cs ws (pc + 2) lv2 st) : Z D k cs ws pc lv (.int x :: st) := by
  obtain ⟨p, l, e, R, s, m, args, below, meth, c, nL, A, Q⟩ := k
  obtain ⟨hx, hb, hml, hnl, hown, hts, hK, hA, hnm, hR, hl0⟩ := X
  intro H locs ls hP hD hS hl
  subst hnl
  exact lv_istore hx hb hd hl hn hq (fun ls2 hl2 => kk H locs ls2 hP hD hS hl2)
theorem z_lload_n (X : zX D t k b n own nm rm l0) {i : Fin 4} (q : Nat) {x : Int64}  (hd : decode b pc = .ok (.lload_n i, 1)) (hq : lv[q]? = some ((i : Nat), .long x)) (kk : Z D k cs ws (pc + 1) lv (.long x :: st)) : Z D k cs ws pc lv (st) := by
  obtain ⟨p, l, e, R, s, m, args, below, meth, c, nL, A, Q⟩ := k
  obtain ⟨hx, hb, hml, hnl, hown, hts, hK, hA, hnm, hR, hl0⟩ := X
  intro H locs ls hP hD hS hl
  exact lv_lload_n hx hb hd rfl (lv_at hl q hq) (kk H locs ls hP hD hS hl)
theorem z_lload (X : zX D t k b n own nm rm l0) {i : Nat} (q : Nat) {x : Int64}  (hd : decode b pc = .ok (.lload i, 2)) (hq : lv[q]? = some (i, .long x)) (kk : Z D k cs ws (pc + 2) lv (.long x :: st)) : Z D k cs ws pc lv (st) := by
  obtain ⟨p, l, e, R, s, m, args, below, meth, c, nL, A, Q⟩ := k
  obtain ⟨hx, hb, hml, hnl, hown, hts, hK, hA, hnm, hR, hl0⟩ := X
  intro H locs ls hP hD hS hl
  exact lv_lload hx hb hd (lv_at hl q hq) (kk H locs ls hP hD hS hl)
theorem z_lstore_n (X : zX D t k b n own nm rm l0) {i : Nat} {j : Fin 4} {x : Int64} (lv2 : List (Nat × Value)) (hd : decode b pc = .ok (.lstore_n j, 1)) (hj : (j : Nat) = i) (hn : i + 1 < n) (hq : (i, Value.long x) :: lv.filter (fun q => !(q.1 == i) && (!(q.1 == i + 1) && !(q.1 + 1 == i && q.2.category == 2))) = lv2) (kk : Z D k cs ws (pc + 1) lv2 st) : Z D k cs ws pc lv (.long x :: st) := by
  obtain ⟨p, l, e, R, s, m, args, below, meth, c, nL, A, Q⟩ := k
  obtain ⟨hx, hb, hml, hnl, hown, hts, hK, hA, hnm, hR, hl0⟩ := X
  intro H locs ls hP hD hS hl
  subst hnl
  exact lv_lstore_n hx hb hd hj hl hn hq (fun ls2 hl2 => kk H locs ls2 hP hD hS hl2)
theorem z_lstore (X : zX D t k b n own nm rm l0) {i : Nat} {x : Int64} (lv2 : List (Nat × Value)) (hd : decode b pc = .ok (.lstore i, 2)) (hj : True) (hn : i + 1 < n) (hq : (i, Value.long x) :: lv.filter (fun q => !(q.1 == i) && (!(q.1 == i + 1) && !(q.1 + 1 == i && q.2.category == 2))) = lv2) (kk : Z D k cs ws (pc + 2) lv2 st) : Z D k cs ws pc lv (.long x :: st) := by
  obtain ⟨p, l, e, R, s, m, args, below, meth, c, nL, A, Q⟩ := k
  obtain ⟨hx, hb, hml, hnl, hown, hts, hK, hA, hnm, hR, hl0⟩ := X
  intro H locs ls hP hD hS hl
  subst hnl
  exact lv_lstore hx hb hd hl hn hq (fun ls2 hl2 => kk H locs ls2 hP hD hS hl2)
theorem z_aload_n (X : zX D t k b n own nm rm l0) {i : Fin 4} (q : Nat) {x : Nat}  (hd : decode b pc = .ok (.aload_n i, 1)) (hq : lv[q]? = some ((i : Nat), .ref x)) (kk : Z D k cs ws (pc + 1) lv (.ref x :: st)) : Z D k cs ws pc lv (st) := by
  obtain ⟨p, l, e, R, s, m, args, below, meth, c, nL, A, Q⟩ := k
  obtain ⟨hx, hb, hml, hnl, hown, hts, hK, hA, hnm, hR, hl0⟩ := X
  intro H locs ls hP hD hS hl
  exact lv_aload_n hx hb hd rfl (lv_at hl q hq) (kk H locs ls hP hD hS hl)
theorem z_aload (X : zX D t k b n own nm rm l0) {i : Nat} (q : Nat) {x : Nat}  (hd : decode b pc = .ok (.aload i, 2)) (hq : lv[q]? = some (i, .ref x)) (kk : Z D k cs ws (pc + 2) lv (.ref x :: st)) : Z D k cs ws pc lv (st) := by
  obtain ⟨p, l, e, R, s, m, args, below, meth, c, nL, A, Q⟩ := k
  obtain ⟨hx, hb, hml, hnl, hown, hts, hK, hA, hnm, hR, hl0⟩ := X
  intro H locs ls hP hD hS hl
  exact lv_aload hx hb hd (lv_at hl q hq) (kk H locs ls hP hD hS hl)
theorem z_astore_n (X : zX D t k b n own nm rm l0) {i : Nat} {j : Fin 4} {x : Nat} (lv2 : List (Nat × Value)) (hd : decode b pc = .ok (.astore_n j, 1)) (hj : (j : Nat) = i) (hn : i < n) (hq : (i, Value.ref x) :: lv.filter (fun q => !(q.1 == i) && !(q.1 + 1 == i && q.2.category == 2)) = lv2) (kk : Z D k cs ws (pc + 1) lv2 st) : Z D k cs ws pc lv (.ref x :: st) := by
  obtain ⟨p, l, e, R, s, m, args, below, meth, c, nL, A, Q⟩ := k
  obtain ⟨hx, hb, hml, hnl, hown, hts, hK, hA, hnm, hR, hl0⟩ := X
  intro H locs ls hP hD hS hl
  subst hnl
  exact lv_astore_n hx hb hd hj hl hn hq (fun ls2 hl2 => kk H locs ls2 hP hD hS hl2)
theorem z_astore (X : zX D t k b n own nm rm l0) {i : Nat} {x : Nat} (lv2 : List (Nat × Value)) (hd : decode b pc = .ok (.astore i, 2)) (hj : True) (hn : i < n) (hq : (i, Value.ref x) :: lv.filter (fun q => !(q.1 == i) && !(q.1 + 1 == i && q.2.category == 2)) = lv2) (kk : Z D k cs ws (pc + 2) lv2 st) : Z D k cs ws pc lv (.ref x :: st) := by
  obtain ⟨p, l, e, R, s, m, args, below, meth, c, nL, A, Q⟩ := k
  obtain ⟨hx, hb, hml, hnl, hown, hts, hK, hA, hnm, hR, hl0⟩ := X
  intro H locs ls hP hD hS hl
  subst hnl
  exact lv_astore hx hb hd hl hn hq (fun ls2 hl2 => kk H locs ls2 hP hD hS hl2)
theorem z_iinc (X : zX D t k b n own nm rm l0) {i : Nat} {j : Int} (q : Nat) {x : Int32} (v : Int32) (lv2 : List (Nat × Value)) (hd : decode b pc = .ok (.iinc i j, 3)) (hq : lv[q]? = some (i, .int x)) (hv : x + Int32.ofInt j = v) (hn : i < n) (hq2 : (i, Value.int v) :: lv.filter (fun q => !(q.1 == i) && !(q.1 + 1 == i && q.2.category == 2)) = lv2) (kk : Z D k cs ws (pc + 3) lv2 st) : Z D k cs ws pc lv st := by
  obtain ⟨p, l, e, R, s, m, args, below, meth, c, nL, A, Q⟩ := k
  obtain ⟨hx, hb, hml, hnl, hown, hts, hK, hA, hnm, hR, hl0⟩ := X
  intro H locs ls hP hD hS hl
  subst hnl
  exact lv_iinc hx hb hd hl hq hv hn hq2 (fun ls2 hl2 => kk H locs ls2 hP hD hS hl2)
theorem z_iadd (X : zX D t k b n own nm rm l0) {x y v : Int32}  (hd : decode b pc = .ok (.iadd, 1)) (hv : x + y = v) (kk : Z D k cs ws (pc + 1) lv (.int v :: st)) : Z D k cs ws pc lv (.int y :: .int x :: st) := by
  obtain ⟨p, l, e, R, s, m, args, below, meth, c, nL, A, Q⟩ := k
  obtain ⟨hx, hb, hml, hnl, hown, hts, hK, hA, hnm, hR, hl0⟩ := X
  intro H locs ls hP hD hS hl
  exact lv_iadd hx hb hd (by rw [hv]; exact kk H locs ls hP hD hS hl)
theorem z_isub (X : zX D t k b n own nm rm l0) {x y v : Int32}  (hd : decode b pc = .ok (.isub, 1)) (hv : x - y = v) (kk : Z D k cs ws (pc + 1) lv (.int v :: st)) : Z D k cs ws pc lv (.int y :: .int x :: st) := by
  obtain ⟨p, l, e, R, s, m, args, below, meth, c, nL, A, Q⟩ := k
  obtain ⟨hx, hb, hml, hnl, hown, hts, hK, hA, hnm, hR, hl0⟩ := X
  intro H locs ls hP hD hS hl
  exact lv_isub hx hb hd (by rw [hv]; exact kk H locs ls hP hD hS hl)
theorem z_imul (X : zX D t k b n own nm rm l0) {x y v : Int32}  (hd : decode b pc = .ok (.imul, 1)) (hv : x * y = v) (kk : Z D k cs ws (pc + 1) lv (.int v :: st)) : Z D k cs ws pc lv (.int y :: .int x :: st) := by
  obtain ⟨p, l, e, R, s, m, args, below, meth, c, nL, A, Q⟩ := k
  obtain ⟨hx, hb, hml, hnl, hown, hts, hK, hA, hnm, hR, hl0⟩ := X
  intro H locs ls hP hD hS hl
  exact lv_imul hx hb hd (by rw [hv]; exact kk H locs ls hP hD hS hl)
theorem z_iand (X : zX D t k b n own nm rm l0) {x y v : Int32}  (hd : decode b pc = .ok (.iand, 1)) (hv : x &&& y = v) (kk : Z D k cs ws (pc + 1) lv (.int v :: st)) : Z D k cs ws pc lv (.int y :: .int x :: st) := by
  obtain ⟨p, l, e, R, s, m, args, below, meth, c, nL, A, Q⟩ := k
  obtain ⟨hx, hb, hml, hnl, hown, hts, hK, hA, hnm, hR, hl0⟩ := X
  intro H locs ls hP hD hS hl
  exact lv_iand hx hb hd (by rw [hv]; exact kk H locs ls hP hD hS hl)
theorem z_ior (X : zX D t k b n own nm rm l0) {x y v : Int32}  (hd : decode b pc = .ok (.ior, 1)) (hv : x ||| y = v) (kk : Z D k cs ws (pc + 1) lv (.int v :: st)) : Z D k cs ws pc lv (.int y :: .int x :: st) := by
  obtain ⟨p, l, e, R, s, m, args, below, meth, c, nL, A, Q⟩ := k
  obtain ⟨hx, hb, hml, hnl, hown, hts, hK, hA, hnm, hR, hl0⟩ := X
  intro H locs ls hP hD hS hl
  exact lv_ior hx hb hd (by rw [hv]; exact kk H locs ls hP hD hS hl)
theorem z_ishl (X : zX D t k b n own nm rm l0) {x y v : Int32}  (hd : decode b pc = .ok (.ishl, 1)) (hv : x <<< (y &&& 31) = v) (kk : Z D k cs ws (pc + 1) lv (.int v :: st)) : Z D k cs ws pc lv (.int y :: .int x :: st) := by
  obtain ⟨p, l, e, R, s, m, args, below, meth, c, nL, A, Q⟩ := k
  obtain ⟨hx, hb, hml, hnl, hown, hts, hK, hA, hnm, hR, hl0⟩ := X
  intro H locs ls hP hD hS hl
  exact lv_ishl hx hb hd (by rw [hv]; exact kk H locs ls hP hD hS hl)
theorem z_ineg (X : zX D t k b n own nm rm l0) {x v : Int32}  (hd : decode b pc = .ok (.ineg, 1)) (hv : -x = v) (kk : Z D k cs ws (pc + 1) lv (.int v :: st)) : Z D k cs ws pc lv (.int x :: st) := by
  obtain ⟨p, l, e, R, s, m, args, below, meth, c, nL, A, Q⟩ := k
  obtain ⟨hx, hb, hml, hnl, hown, hts, hK, hA, hnm, hR, hl0⟩ := X
  intro H locs ls hP hD hS hl
  exact lv_ineg hx hb hd (by rw [hv]; exact kk H locs ls hP hD hS hl)
theorem z_idiv (X : zX D t k b n own nm rm l0) {x y v : Int32}  (hd : decode b pc = .ok (.idiv, 1)) (hne : ¬ y = 0) (hv : x / y = v) (kk : Z D k cs ws (pc + 1) lv (.int v :: st)) : Z D k cs ws pc lv (.int y :: .int x :: st) := by
  obtain ⟨p, l, e, R, s, m, args, below, meth, c, nL, A, Q⟩ := k
  obtain ⟨hx, hb, hml, hnl, hown, hts, hK, hA, hnm, hR, hl0⟩ := X
  intro H locs ls hP hD hS hl
  exact lv_idiv hx hb hd hne (by rw [hv]; exact kk H locs ls hP hD hS hl)
theorem z_irem (X : zX D t k b n own nm rm l0) {x y v : Int32}  (hd : decode b pc = .ok (.irem, 1)) (hne : ¬ y = 0) (hv : x - x / y * y = v) (kk : Z D k cs ws (pc + 1) lv (.int v :: st)) : Z D k cs ws pc lv (.int y :: .int x :: st) := by
  obtain ⟨p, l, e, R, s, m, args, below, meth, c, nL, A, Q⟩ := k
  obtain ⟨hx, hb, hml, hnl, hown, hts, hK, hA, hnm, hR, hl0⟩ := X
  intro H locs ls hP hD hS hl
  exact lv_irem hx hb hd hne (by rw [hv]; exact kk H locs ls hP hD hS hl)
theorem z_ladd (X : zX D t k b n own nm rm l0) {x y v : Int64}  (hd : decode b pc = .ok (.ladd, 1)) (hv : x + y = v) (kk : Z D k cs ws (pc + 1) lv (.long v :: st)) : Z D k cs ws pc lv (.long y :: .long x :: st) := by
  obtain ⟨p, l, e, R, s, m, args, below, meth, c, nL, A, Q⟩ := k
  obtain ⟨hx, hb, hml, hnl, hown, hts, hK, hA, hnm, hR, hl0⟩ := X
  intro H locs ls hP hD hS hl
  exact lv_ladd hx hb hd (by rw [hv]; exact kk H locs ls hP hD hS hl)
theorem z_lsub (X : zX D t k b n own nm rm l0) {x y v : Int64}  (hd : decode b pc = .ok (.lsub, 1)) (hv : x - y = v) (kk : Z D k cs ws (pc + 1) lv (.long v :: st)) : Z D k cs ws pc lv (.long y :: .long x :: st) := by
  obtain ⟨p, l, e, R, s, m, args, below, meth, c, nL, A, Q⟩ := k
  obtain ⟨hx, hb, hml, hnl, hown, hts, hK, hA, hnm, hR, hl0⟩ := X
  intro H locs ls hP hD hS hl
  exact lv_lsub hx hb hd (by rw [hv]; exact kk H locs ls hP hD hS hl)
theorem z_lmul (X : zX D t k b n own nm rm l0) {x y v : Int64}  (hd : decode b pc = .ok (.lmul, 1)) (hv : x * y = v) (kk : Z D k cs ws (pc + 1) lv (.long v :: st)) : Z D k cs ws pc lv (.long y :: .long x :: st) := by
  obtain ⟨p, l, e, R, s, m, args, below, meth, c, nL, A, Q⟩ := k
  obtain ⟨hx, hb, hml, hnl, hown, hts, hK, hA, hnm, hR, hl0⟩ := X
  intro H locs ls hP hD hS hl
  exact lv_lmul hx hb hd (by rw [hv]; exact kk H locs ls hP hD hS hl)
theorem z_ldiv (X : zX D t k b n own nm rm l0) {x y v : Int64}  (hd : decode b pc = .ok (.ldiv, 1)) (hne : ¬ y = 0) (hv : x / y = v) (kk : Z D k cs ws (pc + 1) lv (.long v :: st)) : Z D k cs ws pc lv (.long y :: .long x :: st) := by
  obtain ⟨p, l, e, R, s, m, args, below, meth, c, nL, A, Q⟩ := k
  obtain ⟨hx, hb, hml, hnl, hown, hts, hK, hA, hnm, hR, hl0⟩ := X
  intro H locs ls hP hD hS hl
  exact lv_ldiv hx hb hd hne (by rw [hv]; exact kk H locs ls hP hD hS hl)
theorem z_lrem (X : zX D t k b n own nm rm l0) {x y v : Int64}  (hd : decode b pc = .ok (.lrem, 1)) (hne : ¬ y = 0) (hv : x - x / y * y = v) (kk : Z D k cs ws (pc + 1) lv (.long v :: st)) : Z D k cs ws pc lv (.long y :: .long x :: st) := by
  obtain ⟨p, l, e, R, s, m, args, below, meth, c, nL, A, Q⟩ := k
  obtain ⟨hx, hb, hml, hnl, hown, hts, hK, hA, hnm, hR, hl0⟩ := X
  intro H locs ls hP hD hS hl
  exact lv_lrem hx hb hd hne (by rw [hv]; exact kk H locs ls hP hD hS hl)
theorem z_i2l (X : zX D t k b n own nm rm l0) {x : Int32} {v : Int64}  (hd : decode b pc = .ok (.i2l, 1)) (hv : x.toInt64 = v) (kk : Z D k cs ws (pc + 1) lv (.long v :: st)) : Z D k cs ws pc lv (.int x :: st) := by
  obtain ⟨p, l, e, R, s, m, args, below, meth, c, nL, A, Q⟩ := k
  obtain ⟨hx, hb, hml, hnl, hown, hts, hK, hA, hnm, hR, hl0⟩ := X
  intro H locs ls hP hD hS hl
  exact lv_i2l hx hb hd hv (kk H locs ls hP hD hS hl)
theorem z_l2i (X : zX D t k b n own nm rm l0) {x : Int64} {v : Int32}  (hd : decode b pc = .ok (.l2i, 1)) (hv : x.toInt32 = v) (kk : Z D k cs ws (pc + 1) lv (.int v :: st)) : Z D k cs ws pc lv (.long x :: st) := by
  obtain ⟨p, l, e, R, s, m, args, below, meth, c, nL, A, Q⟩ := k
  obtain ⟨hx, hb, hml, hnl, hown, hts, hK, hA, hnm, hR, hl0⟩ := X
  intro H locs ls hP hD hS hl
  exact lv_l2i hx hb hd hv (kk H locs ls hP hD hS hl)
theorem z_i2c (X : zX D t k b n own nm rm l0) {x v : Int32}  (hd : decode b pc = .ok (.i2c, 1)) (hv : (x.toUInt32 % 65536).toInt32 = v) (kk : Z D k cs ws (pc + 1) lv (.int v :: st)) : Z D k cs ws pc lv (.int x :: st) := by
  obtain ⟨p, l, e, R, s, m, args, below, meth, c, nL, A, Q⟩ := k
  obtain ⟨hx, hb, hml, hnl, hown, hts, hK, hA, hnm, hR, hl0⟩ := X
  intro H locs ls hP hD hS hl
  exact lv_i2c hx hb hd hv (kk H locs ls hP hD hS hl)
theorem z_dup (X : zX D t k b n own nm rm l0) {va : Value}  (hd : decode b pc = .ok (.dup, 1)) (h1 : va.category = 1) (kk : Z D k cs ws (pc + 1) lv (va :: va :: st)) : Z D k cs ws pc lv (va :: st) := by
  obtain ⟨p, l, e, R, s, m, args, below, meth, c, nL, A, Q⟩ := k
  obtain ⟨hx, hb, hml, hnl, hown, hts, hK, hA, hnm, hR, hl0⟩ := X
  intro H locs ls hP hD hS hl
  exact lv_dup hx hb hd h1 (kk H locs ls hP hD hS hl)
theorem z_pop (X : zX D t k b n own nm rm l0) {va : Value}  (hd : decode b pc = .ok (.pop, 1)) (h1 : va.category = 1) (kk : Z D k cs ws (pc + 1) lv (st)) : Z D k cs ws pc lv (va :: st) := by
  obtain ⟨p, l, e, R, s, m, args, below, meth, c, nL, A, Q⟩ := k
  obtain ⟨hx, hb, hml, hnl, hown, hts, hK, hA, hnm, hR, hl0⟩ := X
  intro H locs ls hP hD hS hl
  exact lv_pop hx hb hd h1 (kk H locs ls hP hD hS hl)
theorem z_pop2 (X : zX D t k b n own nm rm l0) {va : Value}  (hd : decode b pc = .ok (.pop2, 1)) (h1 : va.category = 2) (kk : Z D k cs ws (pc + 1) lv (st)) : Z D k cs ws pc lv (va :: st) := by
  obtain ⟨p, l, e, R, s, m, args, below, meth, c, nL, A, Q⟩ := k
  obtain ⟨hx, hb, hml, hnl, hown, hts, hK, hA, hnm, hR, hl0⟩ := X
  intro H locs ls hP hD hS hl
  exact lv_pop2_2 hx hb hd h1 (kk H locs ls hP hD hS hl)
theorem z_dup_x1 (X : zX D t k b n own nm rm l0) {va vb : Value}  (hd : decode b pc = .ok (.dup_x1, 1)) (h1 : va.category = 1) (h2 : vb.category = 1) (kk : Z D k cs ws (pc + 1) lv (va :: vb :: va :: st)) : Z D k cs ws pc lv (va :: vb :: st) := by
  obtain ⟨p, l, e, R, s, m, args, below, meth, c, nL, A, Q⟩ := k
  obtain ⟨hx, hb, hml, hnl, hown, hts, hK, hA, hnm, hR, hl0⟩ := X
  intro H locs ls hP hD hS hl
  exact lv_dup_x1 hx hb hd h1 h2 (kk H locs ls hP hD hS hl)
theorem z_dup_x2 (X : zX D t k b n own nm rm l0) {va vb vd : Value}  (hd : decode b pc = .ok (.dup_x2, 1)) (h1 : va.category = 1) (h2 : vb.category = 1) (h3 : vd.category = 1) (kk : Z D k cs ws (pc + 1) lv (va :: vb :: vd :: va :: st)) : Z D k cs ws pc lv (va :: vb :: vd :: st) := by
  obtain ⟨p, l, e, R, s, m, args, below, meth, c, nL, A, Q⟩ := k
  obtain ⟨hx, hb, hml, hnl, hown, hts, hK, hA, hnm, hR, hl0⟩ := X
  intro H locs ls hP hD hS hl
  exact lv_dup_x2 hx hb hd h1 h2 h3 (kk H locs ls hP hD hS hl)
theorem z_dup2_11 (X : zX D t k b n own nm rm l0) {va vb : Value}  (hd : decode b pc = .ok (.dup2, 1)) (h1 : va.category = 1) (h2 : vb.category = 1) (kk : Z D k cs ws (pc + 1) lv (va :: vb :: va :: vb :: st)) : Z D k cs ws pc lv (va :: vb :: st) := by
  obtain ⟨p, l, e, R, s, m, args, below, meth, c, nL, A, Q⟩ := k
  obtain ⟨hx, hb, hml, hnl, hown, hts, hK, hA, hnm, hR, hl0⟩ := X
  intro H locs ls hP hD hS hl
  exact lv_dup2_11 hx hb hd h1 h2 (kk H locs ls hP hD hS hl)
theorem z_dup2_2 (X : zX D t k b n own nm rm l0) {va : Value}  (hd : decode b pc = .ok (.dup2, 1)) (h1 : va.category = 2) (kk : Z D k cs ws (pc + 1) lv (va :: va :: st)) : Z D k cs ws pc lv (va :: st) := by
  obtain ⟨p, l, e, R, s, m, args, below, meth, c, nL, A, Q⟩ := k
  obtain ⟨hx, hb, hml, hnl, hown, hts, hK, hA, hnm, hR, hl0⟩ := X
  intro H locs ls hP hD hS hl
  exact lv_dup2_2 hx hb hd h1 (kk H locs ls hP hD hS hl)
theorem z_dup2_x1 (X : zX D t k b n own nm rm l0) {va vb : Value}  (hd : decode b pc = .ok (.dup2_x1, 1)) (h1 : va.category = 2) (h2 : vb.category = 1) (kk : Z D k cs ws (pc + 1) lv (va :: vb :: va :: st)) : Z D k cs ws pc lv (va :: vb :: st) := by
  obtain ⟨p, l, e, R, s, m, args, below, meth, c, nL, A, Q⟩ := k
  obtain ⟨hx, hb, hml, hnl, hown, hts, hK, hA, hnm, hR, hl0⟩ := X
  intro H locs ls hP hD hS hl
  exact lv_dup2_x1_2 hx hb hd h1 h2 (kk H locs ls hP hD hS hl)
theorem z_if_eq (X : zX D t k b n own nm rm l0) {x : Int32} {off : Int} (tgt : Nat) (hd : decode b pc = .ok (.ifCond .eq off, 3)) (ht : (pc : Int) + off = (tgt : Int)) (kt : x = 0 → Z D k cs ws tgt lv st) (kf : ¬ (x = 0) → Z D k cs ws (pc + 3) lv st) : Z D k cs ws pc lv (.int x :: st) := by
  obtain ⟨p, l, e, R, s, m, args, below, meth, c, nL, A, Q⟩ := k
  obtain ⟨hx, hb, hml, hnl, hown, hts, hK, hA, hnm, hR, hl0⟩ := X
  intro H locs ls hP hD hS hl
  exact lv_if_eq hx hb hd ht (fun h => kt h H locs ls hP hD hS hl) (fun h => kf h H locs ls hP hD hS hl)
theorem z_icmp_eq (X : zX D t k b n own nm rm l0) {x y : Int32} {off : Int} (tgt : Nat) (hd : decode b pc = .ok (.if_icmp .eq off, 3)) (ht : (pc : Int) + off = (tgt : Int)) (kt : x = y → Z D k cs ws tgt lv st) (kf : ¬ (x = y) → Z D k cs ws (pc + 3) lv st) : Z D k cs ws pc lv (.int y :: .int x :: st) := by
  obtain ⟨p, l, e, R, s, m, args, below, meth, c, nL, A, Q⟩ := k
  obtain ⟨hx, hb, hml, hnl, hown, hts, hK, hA, hnm, hR, hl0⟩ := X
  intro H locs ls hP hD hS hl
  exact lv_icmp_eq hx hb hd ht (fun h => kt h H locs ls hP hD hS hl) (fun h => kf h H locs ls hP hD hS hl)
theorem z_if_ne (X : zX D t k b n own nm rm l0) {x : Int32} {off : Int} (tgt : Nat) (hd : decode b pc = .ok (.ifCond .ne off, 3)) (ht : (pc : Int) + off = (tgt : Int)) (kt : ¬ x = 0 → Z D k cs ws tgt lv st) (kf : x = 0 → Z D k cs ws (pc + 3) lv st) : Z D k cs ws pc lv (.int x :: st) := by
  obtain ⟨p, l, e, R, s, m, args, below, meth, c, nL, A, Q⟩ := k
  obtain ⟨hx, hb, hml, hnl, hown, hts, hK, hA, hnm, hR, hl0⟩ := X
  intro H locs ls hP hD hS hl
  exact lv_if_ne hx hb hd ht (fun h => kt h H locs ls hP hD hS hl) (fun h => kf h H locs ls hP hD hS hl)
theorem z_icmp_ne (X : zX D t k b n own nm rm l0) {x y : Int32} {off : Int} (tgt : Nat) (hd : decode b pc = .ok (.if_icmp .ne off, 3)) (ht : (pc : Int) + off = (tgt : Int)) (kt : ¬ x = y → Z D k cs ws tgt lv st) (kf : x = y → Z D k cs ws (pc + 3) lv st) : Z D k cs ws pc lv (.int y :: .int x :: st) := by
  obtain ⟨p, l, e, R, s, m, args, below, meth, c, nL, A, Q⟩ := k
  obtain ⟨hx, hb, hml, hnl, hown, hts, hK, hA, hnm, hR, hl0⟩ := X
  intro H locs ls hP hD hS hl
  exact lv_icmp_ne hx hb hd ht (fun h => kt h H locs ls hP hD hS hl) (fun h => kf h H locs ls hP hD hS hl)
theorem z_if_lt (X : zX D t k b n own nm rm l0) {x : Int32} {off : Int} (tgt : Nat) (hd : decode b pc = .ok (.ifCond .lt off, 3)) (ht : (pc : Int) + off = (tgt : Int)) (kt : x < 0 → Z D k cs ws tgt lv st) (kf : ¬ (x < 0) → Z D k cs ws (pc + 3) lv st) : Z D k cs ws pc lv (.int x :: st) := by
  obtain ⟨p, l, e, R, s, m, args, below, meth, c, nL, A, Q⟩ := k
  obtain ⟨hx, hb, hml, hnl, hown, hts, hK, hA, hnm, hR, hl0⟩ := X
  intro H locs ls hP hD hS hl
  exact lv_if_lt hx hb hd ht (fun h => kt h H locs ls hP hD hS hl) (fun h => kf h H locs ls hP hD hS hl)
theorem z_icmp_lt (X : zX D t k b n own nm rm l0) {x y : Int32} {off : Int} (tgt : Nat) (hd : decode b pc = .ok (.if_icmp .lt off, 3)) (ht : (pc : Int) + off = (tgt : Int)) (kt : x < y → Z D k cs ws tgt lv st) (kf : ¬ (x < y) → Z D k cs ws (pc + 3) lv st) : Z D k cs ws pc lv (.int y :: .int x :: st) := by
  obtain ⟨p, l, e, R, s, m, args, below, meth, c, nL, A, Q⟩ := k
  obtain ⟨hx, hb, hml, hnl, hown, hts, hK, hA, hnm, hR, hl0⟩ := X
  intro H locs ls hP hD hS hl
  exact lv_icmp_lt hx hb hd ht (fun h => kt h H locs ls hP hD hS hl) (fun h => kf h H locs ls hP hD hS hl)
theorem z_if_ge (X : zX D t k b n own nm rm l0) {x : Int32} {off : Int} (tgt : Nat) (hd : decode b pc = .ok (.ifCond .ge off, 3)) (ht : (pc : Int) + off = (tgt : Int)) (kt : 0 ≤ x → Z D k cs ws tgt lv st) (kf : ¬ (0 ≤ x) → Z D k cs ws (pc + 3) lv st) : Z D k cs ws pc lv (.int x :: st) := by
  obtain ⟨p, l, e, R, s, m, args, below, meth, c, nL, A, Q⟩ := k
  obtain ⟨hx, hb, hml, hnl, hown, hts, hK, hA, hnm, hR, hl0⟩ := X
  intro H locs ls hP hD hS hl
  exact lv_if_ge hx hb hd ht (fun h => kt h H locs ls hP hD hS hl) (fun h => kf h H locs ls hP hD hS hl)
theorem z_icmp_ge (X : zX D t k b n own nm rm l0) {x y : Int32} {off : Int} (tgt : Nat) (hd : decode b pc = .ok (.if_icmp .ge off, 3)) (ht : (pc : Int) + off = (tgt : Int)) (kt : y ≤ x → Z D k cs ws tgt lv st) (kf : ¬ (y ≤ x) → Z D k cs ws (pc + 3) lv st) : Z D k cs ws pc lv (.int y :: .int x :: st) := by
  obtain ⟨p, l, e, R, s, m, args, below, meth, c, nL, A, Q⟩ := k
  obtain ⟨hx, hb, hml, hnl, hown, hts, hK, hA, hnm, hR, hl0⟩ := X
  intro H locs ls hP hD hS hl
  exact lv_icmp_ge hx hb hd ht (fun h => kt h H locs ls hP hD hS hl) (fun h => kf h H locs ls hP hD hS hl)
theorem z_if_gt (X : zX D t k b n own nm rm l0) {x : Int32} {off : Int} (tgt : Nat) (hd : decode b pc = .ok (.ifCond .gt off, 3)) (ht : (pc : Int) + off = (tgt : Int)) (kt : 0 < x → Z D k cs ws tgt lv st) (kf : ¬ (0 < x) → Z D k cs ws (pc + 3) lv st) : Z D k cs ws pc lv (.int x :: st) := by
  obtain ⟨p, l, e, R, s, m, args, below, meth, c, nL, A, Q⟩ := k
  obtain ⟨hx, hb, hml, hnl, hown, hts, hK, hA, hnm, hR, hl0⟩ := X
  intro H locs ls hP hD hS hl
  exact lv_if_gt hx hb hd ht (fun h => kt h H locs ls hP hD hS hl) (fun h => kf h H locs ls hP hD hS hl)
theorem z_icmp_gt (X : zX D t k b n own nm rm l0) {x y : Int32} {off : Int} (tgt : Nat) (hd : decode b pc = .ok (.if_icmp .gt off, 3)) (ht : (pc : Int) + off = (tgt : Int)) (kt : y < x → Z D k cs ws tgt lv st) (kf : ¬ (y < x) → Z D k cs ws (pc + 3) lv st) : Z D k cs ws pc lv (.int y :: .int x :: st) := by
  obtain ⟨p, l, e, R, s, m, args, below, meth, c, nL, A, Q⟩ := k
  obtain ⟨hx, hb, hml, hnl, hown, hts, hK, hA, hnm, hR, hl0⟩ := X
  intro H locs ls hP hD hS hl
  exact lv_icmp_gt hx hb hd ht (fun h => kt h H locs ls hP hD hS hl) (fun h => kf h H locs ls hP hD hS hl)
theorem z_if_le (X : zX D t k b n own nm rm l0) {x : Int32} {off : Int} (tgt : Nat) (hd : decode b pc = .ok (.ifCond .le off, 3)) (ht : (pc : Int) + off = (tgt : Int)) (kt : x ≤ 0 → Z D k cs ws tgt lv st) (kf : ¬ (x ≤ 0) → Z D k cs ws (pc + 3) lv st) : Z D k cs ws pc lv (.int x :: st) := by
  obtain ⟨p, l, e, R, s, m, args, below, meth, c, nL, A, Q⟩ := k
  obtain ⟨hx, hb, hml, hnl, hown, hts, hK, hA, hnm, hR, hl0⟩ := X
  intro H locs ls hP hD hS hl
  exact lv_if_le hx hb hd ht (fun h => kt h H locs ls hP hD hS hl) (fun h => kf h H locs ls hP hD hS hl)
theorem z_icmp_le (X : zX D t k b n own nm rm l0) {x y : Int32} {off : Int} (tgt : Nat) (hd : decode b pc = .ok (.if_icmp .le off, 3)) (ht : (pc : Int) + off = (tgt : Int)) (kt : x ≤ y → Z D k cs ws tgt lv st) (kf : ¬ (x ≤ y) → Z D k cs ws (pc + 3) lv st) : Z D k cs ws pc lv (.int y :: .int x :: st) := by
  obtain ⟨p, l, e, R, s, m, args, below, meth, c, nL, A, Q⟩ := k
  obtain ⟨hx, hb, hml, hnl, hown, hts, hK, hA, hnm, hR, hl0⟩ := X
  intro H locs ls hP hD hS hl
  exact lv_icmp_le hx hb hd ht (fun h => kt h H locs ls hP hD hS hl) (fun h => kf h H locs ls hP hD hS hl)
theorem z_lcmp_le (X : zX D t k b n own nm rm l0) {x y : Int64} {off : Int} (tgt : Nat) (hd1 : decode b pc = .ok (.lcmp, 1)) (hd : decode b (pc + 1) = .ok (.ifCond .le off, 3)) (ht : ((pc + 1 : Nat) : Int) + off = (tgt : Int)) (kt : x ≤ y → Z D k cs ws tgt lv st) (kf : ¬ (x ≤ y) → Z D k cs ws (pc + 4) lv st) : Z D k cs ws pc lv (.long y :: .long x :: st) := by
  obtain ⟨p, l, e, R, s, m, args, below, meth, c, nL, A, Q⟩ := k
  obtain ⟨hx, hb, hml, hnl, hown, hts, hK, hA, hnm, hR, hl0⟩ := X
  intro H locs ls hP hD hS hl
  refine W.lcmp hx hb hd1 ?_
  exact lv_if_le hx hb hd ht (fun h => kt ((lg_cmp_le x y).mp h) H locs ls hP hD hS hl) (fun h => kf (fun z => h ((lg_cmp_le x y).mpr z)) H locs ls hP hD hS hl)
theorem z_lcmp_ge (X : zX D t k b n own nm rm l0) {x y : Int64} {off : Int} (tgt : Nat) (hd1 : decode b pc = .ok (.lcmp, 1)) (hd : decode b (pc + 1) = .ok (.ifCond .ge off, 3)) (ht : ((pc + 1 : Nat) : Int) + off = (tgt : Int)) (kt : y ≤ x → Z D k cs ws tgt lv st) (kf : ¬ (y ≤ x) → Z D k cs ws (pc + 4) lv st) : Z D k cs ws pc lv (.long y :: .long x :: st) := by
  obtain ⟨p, l, e, R, s, m, args, below, meth, c, nL, A, Q⟩ := k
  obtain ⟨hx, hb, hml, hnl, hown, hts, hK, hA, hnm, hR, hl0⟩ := X
  intro H locs ls hP hD hS hl
  refine W.lcmp hx hb hd1 ?_
  exact lv_if_ge hx hb hd ht (fun h => kt ((lg_cmp_ge x y).mp h) H locs ls hP hD hS hl) (fun h => kf (fun z => h ((lg_cmp_ge x y).mpr z)) H locs ls hP hD hS hl)
theorem z_lcmp_eq (X : zX D t k b n own nm rm l0) {x y : Int64} {off : Int} (tgt : Nat) (hd1 : decode b pc = .ok (.lcmp, 1)) (hd : decode b (pc + 1) = .ok (.ifCond .eq off, 3)) (ht : ((pc + 1 : Nat) : Int) + off = (tgt : Int)) (kt : x = y → Z D k cs ws tgt lv st) (kf : ¬ (x = y) → Z D k cs ws (pc + 4) lv st) : Z D k cs ws pc lv (.long y :: .long x :: st) := by
  obtain ⟨p, l, e, R, s, m, args, below, meth, c, nL, A, Q⟩ := k
  obtain ⟨hx, hb, hml, hnl, hown, hts, hK, hA, hnm, hR, hl0⟩ := X
  intro H locs ls hP hD hS hl
  refine W.lcmp hx hb hd1 ?_
  exact lv_if_eq hx hb hd ht (fun h => kt ((lg_cmp_eq x y).mp h) H locs ls hP hD hS hl) (fun h => kf (fun z => h ((lg_cmp_eq x y).mpr z)) H locs ls hP hD hS hl)
theorem z_lcmp_lt (X : zX D t k b n own nm rm l0) {x y : Int64} {off : Int} (tgt : Nat) (hd1 : decode b pc = .ok (.lcmp, 1)) (hd : decode b (pc + 1) = .ok (.ifCond .lt off, 3)) (ht : ((pc + 1 : Nat) : Int) + off = (tgt : Int)) (kt : x < y → Z D k cs ws tgt lv st) (kf : ¬ (x < y) → Z D k cs ws (pc + 4) lv st) : Z D k cs ws pc lv (.long y :: .long x :: st) := by
  obtain ⟨p, l, e, R, s, m, args, below, meth, c, nL, A, Q⟩ := k
  obtain ⟨hx, hb, hml, hnl, hown, hts, hK, hA, hnm, hR, hl0⟩ := X
  intro H locs ls hP hD hS hl
  refine W.lcmp hx hb hd1 ?_
  exact lv_if_lt hx hb hd ht (fun h => kt ((lg_cmp_lt x y).mp h) H locs ls hP hD hS hl) (fun h => kf (fun z => h ((lg_cmp_lt x y).mpr z)) H locs ls hP hD hS hl)
theorem z_lcmp_gt (X : zX D t k b n own nm rm l0) {x y : Int64} {off : Int} (tgt : Nat) (hd1 : decode b pc = .ok (.lcmp, 1)) (hd : decode b (pc + 1) = .ok (.ifCond .gt off, 3)) (ht : ((pc + 1 : Nat) : Int) + off = (tgt : Int)) (kt : y < x → Z D k cs ws tgt lv st) (kf : ¬ (y < x) → Z D k cs ws (pc + 4) lv st) : Z D k cs ws pc lv (.long y :: .long x :: st) := by
  obtain ⟨p, l, e, R, s, m, args, below, meth, c, nL, A, Q⟩ := k
  obtain ⟨hx, hb, hml, hnl, hown, hts, hK, hA, hnm, hR, hl0⟩ := X
  intro H locs ls hP hD hS hl
  refine W.lcmp hx hb hd1 ?_
  exact lv_if_gt hx hb hd ht (fun h => kt ((lg_cmp_gt x y).mp h) H locs ls hP hD hS hl) (fun h => kf (fun z => h ((lg_cmp_gt x y).mpr z)) H locs ls hP hD hS hl)
theorem z_lcmp_ne (X : zX D t k b n own nm rm l0) {x y : Int64} {off : Int} (tgt : Nat) (hd1 : decode b pc = .ok (.lcmp, 1)) (hd : decode b (pc + 1) = .ok (.ifCond .ne off, 3)) (ht : ((pc + 1 : Nat) : Int) + off = (tgt : Int)) (kt : ¬ x = y → Z D k cs ws tgt lv st) (kf : x = y → Z D k cs ws (pc + 4) lv st) : Z D k cs ws pc lv (.long y :: .long x :: st) := by
  obtain ⟨p, l, e, R, s, m, args, below, meth, c, nL, A, Q⟩ := k
  obtain ⟨hx, hb, hml, hnl, hown, hts, hK, hA, hnm, hR, hl0⟩ := X
  intro H locs ls hP hD hS hl
  refine W.lcmp hx hb hd1 ?_
  exact lv_if_ne hx hb hd ht (fun h => kt (fun z => h ((lg_cmp_eq x y).mpr z)) H locs ls hP hD hS hl) (fun h => kf ((lg_cmp_eq x y).mp h) H locs ls hP hD hS hl)
theorem z_goto (X : zX D t k b n own nm rm l0) {off : Int} (tgt : Nat) (hd : decode b pc = .ok (.goto off, 3)) (ht : (pc : Int) + off = (tgt : Int)) (kk : Z D k cs ws tgt lv st) : Z D k cs ws pc lv st := by
  obtain ⟨p, l, e, R, s, m, args, below, meth, c, nL, A, Q⟩ := k
  obtain ⟨hx, hb, hml, hnl, hown, hts, hK, hA, hnm, hR, hl0⟩ := X
  intro H locs ls hP hD hS hl
  exact lv_goto hx hb hd ht (kk H locs ls hP hD hS hl)
theorem z_lookup (X : zX D t k b n own nm rm l0) {dflt : Int} {ps : Array (Int × Int)} {len : Nat} {x : Int32} {off : Int} (tgt : Nat) (hd : decode b pc = .ok (.lookupswitch dflt ps, len)) (hp : (ps.toList.zip (ps.toList.drop 1)).all (fun (a, next) => a.1 < next.1) = true) (ho : Op.lookupswitch.offset ps.toList dflt x.toInt = off) (ht : (pc : Int) + off = (tgt : Int)) (kk : Z D k cs ws tgt lv st) : Z D k cs ws pc lv (.int x :: st) := by
  obtain ⟨p, l, e, R, s, m, args, below, meth, c, nL, A, Q⟩ := k
  obtain ⟨hx, hb, hml, hnl, hown, hts, hK, hA, hnm, hR, hl0⟩ := X
  intro H locs ls hP hD hS hl
  exact lv_lookup hx hb hd hp ho ht (kk H locs ls hP hD hS hl)
theorem z_tableOut (X : zX D t k b n own nm rm l0) {dflt lo hi : Int} {offs : Array Int} {len : Nat} {x : Int32} (tgt : Nat) (hd : decode b pc = .ok (.tableswitch dflt lo hi offs, len)) (h : x.toInt < lo ∨ hi < x.toInt) (ht : (pc : Int) + dflt = (tgt : Int)) (kk : Z D k cs ws tgt lv st) : Z D k cs ws pc lv (.int x :: st) := by
  obtain ⟨p, l, e, R, s, m, args, below, meth, c, nL, A, Q⟩ := k
  obtain ⟨hx, hb, hml, hnl, hown, hts, hK, hA, hnm, hR, hl0⟩ := X
  intro H locs ls hP hD hS hl
  exact lv_tableOut hx hb hd h ht (kk H locs ls hP hD hS hl)
theorem z_tableIn (X : zX D t k b n own nm rm l0) {dflt lo hi : Int} {offs : Array Int} {len : Nat} {x : Int32} {off : Int} (tgt : Nat) (hd : decode b pc = .ok (.tableswitch dflt lo hi offs, len)) (h1 : ¬ x.toInt < lo) (h2 : ¬ hi < x.toInt) (ho : offs[(x.toInt - lo).toNat]? = some off) (ht : (pc : Int) + off = (tgt : Int)) (kk : Z D k cs ws tgt lv st) : Z D k cs ws pc lv (.int x :: st) := by
  obtain ⟨p, l, e, R, s, m, args, below, meth, c, nL, A, Q⟩ := k
  obtain ⟨hx, hb, hml, hnl, hown, hts, hK, hA, hnm, hR, hl0⟩ := X
  intro H locs ls hP hD hS hl
  exact lv_tableIn hx hb hd h1 h2 ho ht (kk H locs ls hP hD hS hl)
theorem z_get (X : zX D t k b n own nm rm l0) {C ref : String} {T : u_T} {N ci a index : Nat} {fs : List Value} (q0 kf : Nat) (v : Value) (hin : ∀ w ∈ u_ws C T N, w ∈ TB) (hl : Cond.fieldLink own index ref (T kf).2.1 (T kf).2.2.1 ∈ TB) (hd : decode b pc = .ok (.getfield index, 3)) (he : ws[q0]? = some (a, .inr (ci, fs))) (hc : vwCl[ci]? = some (C, T, N)) (hk : kf < N) (hs : (T kf).1 = ref) (hv : fs[kf]? = some v) (kk : Z D k cs ws (pc + 3) lv (v :: st)) : Z D k cs ws pc lv (.ref a :: st) := by
  obtain ⟨p, l, e, R, s, m, args, below, meth, c, nL, A, Q⟩ := k
  obtain ⟨hx, hb, hml, hnl, hown, hts, hK, hA, hnm, hR, hl0⟩ := X
  intro H locs ls hP hD hS hl9
  exact va_get hx hb hts hin hown hK.1 hP q0 he hc kf hk (hts _ hl) (fun _ h9 => hs ▸ h9) hv hd (kk H locs ls hP hD hS hl9)
theorem z_put (X : zX D t k b n own nm rm l0) {C ref : String} {T : u_T} {N ci a index : Nat} {ty0 : Nat → FieldType} {fs : List Value} {v : Value} (q0 kf : Nat) (ws2 : va_W) (hin : ∀ w ∈ u_ws C T N, w ∈ TB) (hty : ∀ k, k < N → parseFieldDescriptor (T k).2.2.1 = some (ty0 k)) (hnm9 : ∀ a, a < N → ∀ b, b < N → a ≠ b → (T a).2.1 ≠ (T b).2.1) (hl : Cond.fieldLink own index ref (T kf).2.1 (T kf).2.2.1 ∈ TB) (hd : decode b pc = .ok (.putfield index, 3)) (he : ws[q0]? = some (a, .inr (ci, fs))) (hc : vwCl[ci]? = some (C, T, N)) (hk : kf < N) (hs : (T kf).1 = ref) (hfin : (T kf).2.2.2 = false)  (hn : narrow (ty0 kf) v = v) (hfit : fits (ty0 kf) v = true) (hlen : kf < fs.length) (hw : ws.set q0 (a, .inr (ci, fs.set kf v)) = ws2) (kk : Z D k cs ws2 (pc + 3) lv st) : Z D k cs ws pc lv (v :: .ref a :: st) := by
  obtain ⟨p, l, e, R, s, m, args, below, meth, c, nL, A, Q⟩ := k
  obtain ⟨hx, hb, hml, hnl, hown, hts, hK, hA, hnm, hR, hl0⟩ := X
  intro H locs ls hP hD hS hl9
  subst hw
  exact va_put hx hb hts hin ty0 hty hnm9 hown hK.1 hP hD hS q0 he hc kf hk (hts _ hl) (fun _ h9 => hs ▸ h9) hfin (hty kf hk) hn hfit hlen hd (fun H1 locs1 hP1 hD1 hS1 => kk H1 locs1 ls hP1 hD1 hS1 hl9)
theorem z_putF (X : zX D t k b n own nm rm l0) {C ref : String} {T : u_T} {N ci a index : Nat} {ty0 : Nat → FieldType} {fs : List Value} {v : Value} (q0 kf : Nat) (ws2 : va_W) (hin : ∀ w ∈ u_ws C T N, w ∈ TB) (hty : ∀ k, k < N → parseFieldDescriptor (T k).2.2.1 = some (ty0 k)) (hnm9 : ∀ a, a < N → ∀ b, b < N → a ≠ b → (T a).2.1 ≠ (T b).2.1) (hl : Cond.fieldLink own index ref (T kf).2.1 (T kf).2.2.1 ∈ TB) (hd : decode b pc = .ok (.putfield index, 3)) (he : ws[q0]? = some (a, .inr (ci, fs))) (hc : vwCl[ci]? = some (C, T, N)) (hk : kf < N) (hs : (T kf).1 = ref) (hfin : (T kf).2.2.2 = true) (hi2 : nm = "<init>") (hdc : (T kf).1 = own) (hn : narrow (ty0 kf) v = v) (hfit : fits (ty0 kf) v = true) (hlen : kf < fs.length) (hw : ws.set q0 (a, .inr (ci, fs.set kf v)) = ws2) (kk : Z D k cs ws2 (pc + 3) lv st) : Z D k cs ws pc lv (v :: .ref a :: st) := by
  obtain ⟨p, l, e, R, s, m, args, below, meth, c, nL, A, Q⟩ := k
  obtain ⟨hx, hb, hml, hnl, hown, hts, hK, hA, hnm, hR, hl0⟩ := X
  intro H locs ls hP hD hS hl9
  subst hw
  exact va_putF hx hb hts hin ty0 hty hnm9 hown hK.1 hP hD hS q0 he hc kf hk (hts _ hl) (fun _ h9 => hs ▸ h9) hfin (hnm.trans hi2) hdc (hty kf hk) hn hfit hlen hd (fun H1 locs1 hP1 hD1 hS1 => kk H1 locs1 ls hP1 hD1 hS1 hl9)
theorem z_iald (X : zX D t k b n own nm rm l0) {a N : Nat} {f : Nat → Int32} {i : Int32} (q0 : Nat) (j : Nat) (v : Int32) (hd : decode b pc = .ok (.iaload, 1)) (he : ws[q0]? = some (a, .inl (t.1, N, .inl f))) (hj : i = nI j) (hN : N < 2 ^ 31) (hlt : j < N) (hv : f j = v) (kk : Z D k cs ws (pc + 1) lv (.int v :: st)) : Z D k cs ws pc lv (.int i :: .ref a :: st) := by
  obtain ⟨p, l, e, R, s, m, args, below, meth, c, nL, A, Q⟩ := k
  obtain ⟨hx, hb, hml, hnl, hown, hts, hK, hA, hnm, hR, hl0⟩ := X
  intro H locs ls hP hD hS hl9
  subst hj
  refine va_iald hx hb hK.1 hP q0 0 he rfl (vp_in_nI hlt hN) hd ?_
  rw [nI_clamp (Nat.lt_trans hlt hN), hv]
  exact kk H locs ls hP hD hS hl9
theorem z_cald (X : zX D t k b n own nm rm l0) {a N : Nat} {f : Nat → Int32} {i : Int32} (q0 : Nat) (j : Nat) (v : Int32) (hd : decode b pc = .ok (.caload, 1)) (he : ws[q0]? = some (a, .inl (t.2.2.1, N, .inl f))) (hj : i = nI j) (hN : N < 2 ^ 31) (hlt : j < N) (hv : f j = v) (kk : Z D k cs ws (pc + 1) lv (.int v :: st)) : Z D k cs ws pc lv (.int i :: .ref a :: st) := by
  obtain ⟨p, l, e, R, s, m, args, below, meth, c, nL, A, Q⟩ := k
  obtain ⟨hx, hb, hml, hnl, hown, hts, hK, hA, hnm, hR, hl0⟩ := X
  intro H locs ls hP hD hS hl9
  subst hj
  refine va_cald hx hb hK.1 hP q0 2 he rfl (vp_in_nI hlt hN) hd ?_
  rw [nI_clamp (Nat.lt_trans hlt hN), hv]
  exact kk H locs ls hP hD hS hl9
theorem z_lald (X : zX D t k b n own nm rm l0) {a N : Nat} {f : Nat → Int64} {i : Int32} (q0 : Nat) (j : Nat) (v : Int64) (hd : decode b pc = .ok (.laload, 1)) (he : ws[q0]? = some (a, .inl (t.2.1, N, .inr (.inl f)))) (hj : i = nI j) (hN : N < 2 ^ 31) (hlt : j < N) (hv : f j = v) (kk : Z D k cs ws (pc + 1) lv (.long v :: st)) : Z D k cs ws pc lv (.int i :: .ref a :: st) := by
  obtain ⟨p, l, e, R, s, m, args, below, meth, c, nL, A, Q⟩ := k
  obtain ⟨hx, hb, hml, hnl, hown, hts, hK, hA, hnm, hR, hl0⟩ := X
  intro H locs ls hP hD hS hl9
  subst hj
  refine va_lald hx hb hK.1 hP q0 1 he rfl (vp_in_nI hlt hN) hd ?_
  rw [nI_clamp (Nat.lt_trans hlt hN), hv]
  exact kk H locs ls hP hD hS hl9
theorem z_aald (X : zX D t k b n own nm rm l0) {a N : Nat} {f : Nat → Option Nat} {i : Int32} (q0 : Nat) (j : Nat) (v : Nat) (hd : decode b pc = .ok (.aaload, 1)) (he : ws[q0]? = some (a, .inl (t.2.2.2, N, .inr (.inr (.inr (.inr f)))))) (hj : i = nI j) (hN : N < 2 ^ 31) (hlt : j < N) (hv : f j = some v) (kk : Z D k cs ws (pc + 1) lv (.ref v :: st)) : Z D k cs ws pc lv (.int i :: .ref a :: st) := by
  obtain ⟨p, l, e, R, s, m, args, below, meth, c, nL, A, Q⟩ := k
  obtain ⟨hx, hb, hml, hnl, hown, hts, hK, hA, hnm, hR, hl0⟩ := X
  intro H locs ls hP hD hS hl9
  subst hj
  refine va_aldq hx hb hK.1 hP q0 3 he rfl (vp_in_nI hlt hN) hd ?_
  rw [nI_clamp (Nat.lt_trans hlt hN), hv]
  exact kk H locs ls hP hD hS hl9
theorem z_iast (X : zX D t k b n own nm rm l0) {a N : Nat} {f : Nat → Int32} {i : Int32} {x : Int32} (q0 : Nat) (j : Nat) (g : Nat → Int32) (ws2 : va_W) (hd : decode b pc = .ok (.iastore, 1)) (he : ws[q0]? = some (a, .inl (t.1, N, .inl f))) (hj : i = nI j) (hN : N < 2 ^ 31) (hlt : j < N) (hg : upd f j x = g) (hw : ws.set q0 (a, .inl (t.1, N, .inl g)) = ws2) (kk : Z D k cs ws2 (pc + 1) lv st) : Z D k cs ws pc lv (.int x :: .int i :: .ref a :: st) := by
  obtain ⟨p, l, e, R, s, m, args, below, meth, c, nL, A, Q⟩ := k
  obtain ⟨hx, hb, hml, hnl, hown, hts, hK, hA, hnm, hR, hl0⟩ := X
  intro H locs ls hP hD hS hl9
  subst hj
  subst hw
  refine va_iast hx hb hK.1 hP hD hS q0 0 he rfl (vp_in_nI hlt hN) hd ?_
  rw [nI_clamp (Nat.lt_trans hlt hN), hg]
  exact fun H1 locs1 hP1 hD1 hS1 => kk H1 locs1 ls hP1 hD1 hS1 hl9
theorem z_cast (X : zX D t k b n own nm rm l0) {a N : Nat} {f : Nat → Int32} {i : Int32} {x : Int32} (q0 : Nat) (j : Nat) (g : Nat → Int32) (ws2 : va_W) (hd : decode b pc = .ok (.castore, 1)) (he : ws[q0]? = some (a, .inl (t.2.2.1, N, .inl f))) (hj : i = nI j) (hN : N < 2 ^ 31) (hlt : j < N) (hg : upd f j (vp_nar .char x) = g) (hw : ws.set q0 (a, .inl (t.2.2.1, N, .inl g)) = ws2) (kk : Z D k cs ws2 (pc + 1) lv st) : Z D k cs ws pc lv (.int x :: .int i :: .ref a :: st) := by
  obtain ⟨p, l, e, R, s, m, args, below, meth, c, nL, A, Q⟩ := k
  obtain ⟨hx, hb, hml, hnl, hown, hts, hK, hA, hnm, hR, hl0⟩ := X
  intro H locs ls hP hD hS hl9
  subst hj
  subst hw
  refine va_cast hx hb hK.1 hP hD hS q0 2 he rfl (vp_in_nI hlt hN) hd ?_
  rw [nI_clamp (Nat.lt_trans hlt hN), hg]
  exact fun H1 locs1 hP1 hD1 hS1 => kk H1 locs1 ls hP1 hD1 hS1 hl9
theorem z_last (X : zX D t k b n own nm rm l0) {a N : Nat} {f : Nat → Int64} {i : Int32} {x : Int64} (q0 : Nat) (j : Nat) (g : Nat → Int64) (ws2 : va_W) (hd : decode b pc = .ok (.lastore, 1)) (he : ws[q0]? = some (a, .inl (t.2.1, N, .inr (.inl f)))) (hj : i = nI j) (hN : N < 2 ^ 31) (hlt : j < N) (hg : vp_updL f j x = g) (hw : ws.set q0 (a, .inl (t.2.1, N, .inr (.inl g))) = ws2) (kk : Z D k cs ws2 (pc + 1) lv st) : Z D k cs ws pc lv (.long x :: .int i :: .ref a :: st) := by
  obtain ⟨p, l, e, R, s, m, args, below, meth, c, nL, A, Q⟩ := k
  obtain ⟨hx, hb, hml, hnl, hown, hts, hK, hA, hnm, hR, hl0⟩ := X
  intro H locs ls hP hD hS hl9
  subst hj
  subst hw
  refine va_last hx hb hK.1 hP hD hS q0 1 he rfl (vp_in_nI hlt hN) hd ?_
  rw [nI_clamp (Nat.lt_trans hlt hN), hg]
  exact fun H1 locs1 hP1 hD1 hS1 => kk H1 locs1 ls hP1 hD1 hS1 hl9
theorem z_alen_i (X : zX D t k b n own nm rm l0) {a N : Nat} {f : Nat → Int32} (q0 : Nat) (hd : decode b pc = .ok (.arraylength, 1)) (he : ws[q0]? = some (a, .inl (t.1, N, .inl f))) (kk : Z D k cs ws (pc + 1) lv (.int (nI N) :: st)) : Z D k cs ws pc lv (.ref a :: st) := by
  obtain ⟨p, l, e, R, s, m, args, below, meth, c, nL, A, Q⟩ := k
  obtain ⟨hx, hb, hml, hnl, hown, hts, hK, hA, hnm, hR, hl0⟩ := X
  intro H locs ls hP hD hS hl9
  exact va_alen hx hb hK.1 hP q0 0 he (ty := .int) rfl rfl hd (kk H locs ls hP hD hS hl9)
theorem z_alen_c (X : zX D t k b n own nm rm l0) {a N : Nat} {f : Nat → Int32} (q0 : Nat) (hd : decode b pc = .ok (.arraylength, 1)) (he : ws[q0]? = some (a, .inl (t.2.2.1, N, .inl f))) (kk : Z D k cs ws (pc + 1) lv (.int (nI N) :: st)) : Z D k cs ws pc lv (.ref a :: st) := by
  obtain ⟨p, l, e, R, s, m, args, below, meth, c, nL, A, Q⟩ := k
  obtain ⟨hx, hb, hml, hnl, hown, hts, hK, hA, hnm, hR, hl0⟩ := X
  intro H locs ls hP hD hS hl9
  exact va_alen hx hb hK.1 hP q0 2 he (ty := .char) rfl rfl hd (kk H locs ls hP hD hS hl9)
theorem z_alen_l (X : zX D t k b n own nm rm l0) {a N : Nat} {f : Nat → Int64} (q0 : Nat) (hd : decode b pc = .ok (.arraylength, 1)) (he : ws[q0]? = some (a, .inl (t.2.1, N, .inr (.inl f)))) (kk : Z D k cs ws (pc + 1) lv (.int (nI N) :: st)) : Z D k cs ws pc lv (.ref a :: st) := by
  obtain ⟨p, l, e, R, s, m, args, below, meth, c, nL, A, Q⟩ := k
  obtain ⟨hx, hb, hml, hnl, hown, hts, hK, hA, hnm, hR, hl0⟩ := X
  intro H locs ls hP hD hS hl9
  exact va_alen hx hb hK.1 hP q0 1 he (ty := .long) rfl rfl hd (kk H locs ls hP hD hS hl9)
theorem z_alen_q (X : zX D t k b n own nm rm l0) {a N : Nat} {f : Nat → Option Nat} (q0 : Nat) (hd : decode b pc = .ok (.arraylength, 1)) (he : ws[q0]? = some (a, .inl (t.2.2.2, N, .inr (.inr (.inr (.inr f)))))) (kk : Z D k cs ws (pc + 1) lv (.int (nI N) :: st)) : Z D k cs ws pc lv (.ref a :: st) := by
  obtain ⟨p, l, e, R, s, m, args, below, meth, c, nL, A, Q⟩ := k
  obtain ⟨hx, hb, hml, hnl, hown, hts, hK, hA, hnm, hR, hl0⟩ := X
  intro H locs ls hP hD hS hl9
  exact va_alen hx hb hK.1 hP q0 3 he (ty := (.object "EitherPocket$Coat")) rfl rfl hd (kk H locs ls hP hD hS hl9)
theorem z_topi {x : Int32} (v : Int32) (h : x = v) (kk : Z D k cs ws pc lv (.int v :: st)) : Z D k cs ws pc lv (.int x :: st) := h ▸ kk
theorem z_topl {x : Int64} (v : Int64) (h : x = v) (kk : Z D k cs ws pc lv (.long v :: st)) : Z D k cs ws pc lv (.long x :: st) := h ▸ kk
theorem z_eq {ws2 : va_W} {lv2 : List (Nat × Value)} {st2 : List Value} (h1 : ws = ws2) (h2 : lv = lv2) (h3 : st = st2) (kk : Z D k cs ws2 pc lv2 st2) : Z D k cs ws pc lv st := by subst h1; subst h2; subst h3; exact kk
theorem z_lv (ks : List Nat) {lv2 : List (Nat × Value)} (h : lv_pick lv ks = lv2) (kk : Z D k cs ws pc lv2 st) : Z D k cs ws pc lv st := by
  obtain ⟨p, l, e, R, s, m, args, below, meth, c, nL, A, Q⟩ := k
  intro H locs ls hP hD hS hl
  exact kk H locs ls hP hD hS (lv_sub hl ks h)
theorem z_widen {cs2 : Nat × Nat} (h1 : cs.1 ≤ cs2.1) (h2 : cs.2 ≤ cs2.2) (kk : Z D k cs2 ws pc lv st) : Z D k cs ws pc lv st := by
  obtain ⟨p, l, e, R, s, m, args, below, meth, c, nL, A, Q⟩ := k
  intro H locs ls hP hD hS hl
  exact W.widen h1 h2 (kk H locs ls hP hD hS hl)
theorem z_objInit (X : zX D t k b n own nm rm l0) {idx a : Nat} (hw : Cond.methodLink own idx Lib.objectInit ∈ TB) (hd : decode b pc = .ok (.invokespecial idx, 3)) (hf : 1 ≤ rm.frames) (hlc : (st.map fun v => v.category).sum + 12 ≤ rm.locals) (kk : Z D k cs ws (pc + 3) lv st) : Z D k cs ws pc lv (.ref a :: st) := by
  obtain ⟨p, l, e, R, s, m, args, below, meth, c, nL, A, Q⟩ := k
  obtain ⟨hx, hb, hml, hnl, hown, hts, hK, hA, hnm, hR, hl0⟩ := X
  intro H locs ls hP hD hS hl9
  subst hR
  refine W.objInit hx hb hown (hts _ hw) (hts _ tw_14) (hts _ tw_15) rfl (by rw [hml, ← hnl]; exact hl9.1) rfl hd hf (by show 2 * 0 + _ + 12 ≤ _; omega) ?_
  exact W.eq (g2 := F0 m (pc + 3) ls st) rfl (kk H locs ls hP hD hS hl9)
end ZL
/-- A CONTRACT: from the world ws with arguments as, the method y answers v and leaves the world w with 'post v w'; mc new cells of ms slots -/
def Ct (l : Launch) (D : va_G) (t : zT) (y : MethodName) (b : ByteArray) (nL : Nat) (ret : Option FieldType) (rm : Room) (as : List Value) (ws : va_W) (mc ms : Nat) (post : Option Value → va_W → Prop) : Prop :=
  ∀ sz : Nat, Met l y (.code y b nL ret :: TB) rm (va_Pc as (fun U => U.heap.size = sz ∧ va_P D vwCl ws U.heap ∧ KK D t U ∧ va_D (fun _ => True) ws))
    (fun _ s0 oc u => (∃ (v : Option Value) (w : va_W), oc = .returned v ∧ post v w ∧ va_P D vwCl w u.heap ∧ va_D (va_A ws sz) w) ∧ va_F (va_A ws sz) s0 u) mc ms (va_A ws sz)
/-- the ways back -/
def zR (D : va_G) (k : zK) (b : ByteArray) (ret : Option FieldType) (mc ms : Nat) (post : Option Value → va_W → Prop) : Prop :=
  (∀ (v : Int32) (w : va_W) (pc : Nat) (lv : List (Nat × Value)), decode b pc = .ok (.ireturn, 1) → (∃ ty, ret = some ty ∧ narrow ty (.int v) = .int v) → post (some (.int v)) w → Z D k (mc, ms) w pc lv [.int v]) ∧
  (∀ (v : Int64) (w : va_W) (pc : Nat) (lv : List (Nat × Value)), decode b pc = .ok (.lreturn, 1) → ret = some .long → post (some (.long v)) w → Z D k (mc, ms) w pc lv [.long v]) ∧
  (∀ (w : va_W) (pc : Nat) (lv : List (Nat × Value)), decode b pc = .ok (.return_, 1) → ret = none → post none w → Z D k (mc, ms) w pc lv [])
theorem zR.i {D : va_G} {k : zK} {b : ByteArray} {mc ms : Nat} {post : Option Value → va_W → Prop} (h : zR D k b (some .int) mc ms post) {v : Int32} {w : va_W} {pc : Nat} {lv : List (Nat × Value)} (hd : decode b pc = .ok (.ireturn, 1)) (hp : post (some (.int v)) w) : Z D k (mc, ms) w pc lv [.int v] := h.1 v w pc lv hd ⟨_, rfl, rfl⟩ hp
theorem zR.z {D : va_G} {k : zK} {b : ByteArray} {mc ms : Nat} {ty : FieldType} {post : Option Value → va_W → Prop} (h : zR D k b (some ty) mc ms post) {v : Int32} {w : va_W} {pc : Nat} {lv : List (Nat × Value)} (hd : decode b pc = .ok (.ireturn, 1)) (hn : narrow ty (.int v) = .int v) (hp : post (some (.int v)) w) : Z D k (mc, ms) w pc lv [.int v] := h.1 v w pc lv hd ⟨_, rfl, hn⟩ hp
theorem zR.l {D : va_G} {k : zK} {b : ByteArray} {mc ms : Nat} {post : Option Value → va_W → Prop} (h : zR D k b (some .long) mc ms post) {v : Int64} {w : va_W} {pc : Nat} {lv : List (Nat × Value)} (hd : decode b pc = .ok (.lreturn, 1)) (hp : post (some (.long v)) w) : Z D k (mc, ms) w pc lv [.long v] := h.2.1 v w pc lv hd rfl hp
theorem zR.v {D : va_G} {k : zK} {b : ByteArray} {mc ms : Nat} {post : Option Value → va_W → Prop} (h : zR D k b none mc ms post) {w : va_W} {pc : Nat} {lv : List (Nat × Value)} (hd : decode b pc = .ok (.return_, 1)) (hp : post none w) : Z D k (mc, ms) w pc lv [] := h.2.2 w pc lv hd rfl hp
theorem Ct.of {l : Launch} {D : va_G} {t : zT} {y : MethodName} {b : ByteArray} {nL : Nat} {ret : Option FieldType} {rm : Room} {as : List Value} {ws : va_W} {mc ms : Nat} {post : Option Value → va_W → Prop} (hy : plainName y.cls = true) (hlen : (lg_sl as).length ≤ nL)
    (body : ∀ k : zK, zX D t k b nL y.cls y.name rm l → zR D k b ret mc ms post → Z D k (0, 0) ws 0 (lv_args 0 as) []) : Ct l D t y b nL ret rm as ws mc ms post := by
  intro sz
  refine Met.ofW (cc := b) (maxL := nL) (ret := ret) hy rfl ?_
  intro p e s m args below meth c s₁ B hml hv
  obtain ⟨rfl, hsz, hP, hK, hD0⟩ := hv
  have hts := atoms_spec (ws := .code y b nL ret :: TB) B.pre
  subst hsz
  have hD := hD0.self (sz := s.heap.size)
  have hr := B.returns
  have hlocks := B.notSynchronized
  have hx := B.exec
  have hb := B.bytes
  have hl := lv_entry as (n := nL) hlen
  rw [lg_entry_eq]
  have KEY := body (p, l, e, (headSpec (.code y b nL ret :: TB) rm).room, s, m, as.toArray, below, meth, c, nL, va_A ws s.heap.size, MQ below (fun _ s0 oc u => (∃ (v : Option Value) (w : va_W), oc = .returned v ∧ post v w ∧ va_P D vwCl w u.heap ∧ va_D (va_A ws s.heap.size) w) ∧ va_F (va_A ws s.heap.size) s0 u) as.toArray s mc ms (va_A ws s.heap.size))
    ⟨B.exec, B.bytes, hml, rfl, findClass_of_methodNamed B.named, fun w hw => hts w (List.mem_cons_of_mem _ hw), hK, fun q h => Or.inr h, (name_of_methodNamed B.named B.method).1, rfl, rfl⟩ ?_
  · exact KEY s.heap [] _ hP hD va_S.rf hl
  · refine ⟨?_, ?_, ?_⟩
    · intro v w pc lv hd hty hp H locs ls hP hD hS hl
      obtain ⟨ty, ht, hn⟩ := hty
      exact W.zret (ty := ty) hx hb (hr.trans ht) hn (fun u hu _ => ⟨⟨_, w, rfl, hp, by rw [hu]; exact hP, hD⟩, hS.F hu⟩) hS.2.2 hd
    · intro v w pc lv hd ht hp H locs ls hP hD hS hl
      exact W.lret hx hb (hr.trans ht) (fun u hu _ => ⟨⟨_, w, rfl, hp, by rw [hu]; exact hP, hD⟩, hS.F hu⟩) hS.2.2 hd
    · intro w pc lv hd ht hp H locs ls hP hD hS hl
      exact W.vret hx hb (hr.trans ht) (fun u hu _ => ⟨⟨_, w, rfl, hp, by rw [hu]; exact hP, hD⟩, hS.F hu⟩) hS.2.2 hd
theorem Ct.mono {l : Launch} {D : va_G} {t : zT} {y : MethodName} {b : ByteArray} {nL : Nat} {ret : Option FieldType} {rm : Room} {as : List Value} {ws : va_W} {mc ms : Nat} {post post2 : Option Value → va_W → Prop} (h : Ct l D t y b nL ret rm as ws mc ms post) (hp : ∀ v w, post v w → post2 v w) : Ct l D t y b nL ret rm as ws mc ms post2 := by
  intro sz p e ha hc hk s m args below hf happ hpc htr
  obtain ⟨q, o, h1, h2, h3, ⟨⟨v, w, h4, h5, h6⟩, h7⟩, h8⟩ := h sz p e ha hc hk s m args below hf happ hpc htr
  exact ⟨q, o, h1, h2, h3, ⟨⟨v, w, h4, hp v w h5, h6⟩, h7⟩, h8⟩
/-- cells put back at their places -/
def zput : va_W → List Nat → va_W → va_W
  | ws, i :: is, c :: w => (zput ws is w).set i c
  | ws, _, _ => ws
theorem zput_len : ∀ (is : List Nat) (w : va_W) (ws : va_W), (zput ws is w).length = ws.length
  | [], _, _ => by simp [zput]
  | _ :: _, [], _ => by simp [zput]
  | i :: is, c :: w, ws => by
    show ((zput ws is w).set i c).length = _
    rw [List.length_set, zput_len is w ws]
theorem zput_at : ∀ (is : List Nat) (w ws : va_W), is.length = w.length → va_nd is = true → (∀ i ∈ is, i < ws.length) → ∀ (q : Nat) (c : Nat × va_E), (zput ws is w)[q]? = some c → (∃ j : Nat, is[j]? = some q ∧ w[j]? = some c) ∨ (q ∉ is ∧ ws[q]? = some c)
  | [], _, _, _, _, _, q, c, h => Or.inr ⟨List.not_mem_nil, by simpa [zput] using h⟩
  | _ :: _, [], _, hl, _, _, _, _, _ => by simp at hl
  | i :: is, c0 :: w, ws, hl, hn, hb, q, c, h => by
    simp only [va_nd, Bool.and_eq_true, decide_eq_true_eq] at hn
    have h : ((zput ws is w).set i c0)[q]? = some c := h
    by_cases hqi : q = i
    · subst hqi
      rw [List.getElem?_set_self (by rw [zput_len]; exact hb q List.mem_cons_self)] at h
      exact Or.inl ⟨0, rfl, h⟩
    · rw [List.getElem?_set_ne (Ne.symm hqi)] at h
      rcases zput_at is w ws (by simpa using hl) hn.2 (fun x hx => hb x (List.mem_cons_of_mem _ hx)) q c h with ⟨j, h1, h2⟩ | ⟨h1, h2⟩
      · exact Or.inl ⟨j + 1, h1, h2⟩
      · exact Or.inr ⟨fun z => by rcases List.mem_cons.mp z with z | z; exact hqi z; exact h1 z, h2⟩
/-- behind a call: the caller's world with the callee's cells at their places -/
theorem zjoin {A0 : Nat → Prop} {D : va_G} {cl : List vw_C} {ws wc w1 : va_W} {H H1 : Heap} (hP : va_P D cl ws H) (hD : va_D A0 ws) (is : List Nat) (hC : is.map (fun i => ws[i]?) = wc.map some) (hn : va_nd is = true) (hlen : is.length = w1.length)
    (hk : ∀ q : Nat, q < H.size → ¬ va_A wc H.size q → H1[q]? = H[q]?) (hF : ∀ q, va_A wc H.size q → A0 q) (hP1 : va_P D cl w1 H1) (hD1 : va_D (va_A wc H.size) w1) : va_P D cl (zput ws is w1) H1 ∧ va_D A0 (zput ws is w1) := by
  have hb : ∀ i ∈ is, i < ws.length := by
    intro i hi
    obtain ⟨j, hj⟩ := List.getElem?_of_mem hi
    have h1 : (is.map (fun i => ws[i]?))[j]? = some (ws[i]?) := by rw [List.getElem?_map, hj]; rfl
    rw [hC, List.getElem?_map] at h1
    cases hw : wc[j]? with
    | none => rw [hw] at h1; cases h1
    | some c => rw [hw] at h1; exact (List.getElem?_eq_some_iff.mp (Option.some.inj h1).symm).1
  have apart : ∀ (q : Nat) (c : Nat × va_E), q ∉ is → ws[q]? = some c → c.1 < H.size ∧ ¬ va_A wc H.size c.1 := by
    intro q c hq hc
    have hl := (hP q c hc).lt
    refine ⟨hl, fun h => ?_⟩
    rcases h with ⟨k2, e, h⟩ | h
    · have h1 : (is.map (fun i => ws[i]?))[k2]? = some (some (c.1, e)) := by rw [hC, List.getElem?_map, h]; rfl
      rw [List.getElem?_map] at h1
      cases hi : is[k2]? with
      | none => rw [hi] at h1; cases h1
      | some i =>
        rw [hi] at h1
        have hij := hD.1 q i c (c.1, e) hc (Option.some.inj h1) rfl
        subst hij
        exact hq (List.mem_of_getElem? hi)
    · omega
  refine ⟨fun q c h => ?_, ⟨fun i j x y hi hj hxy => ?_, fun q c h => ?_⟩⟩
  · rcases zput_at is w1 ws hlen hn hb q c h with ⟨j, h1, h2⟩ | ⟨h1, h2⟩
    · exact hP1 j c h2
    · obtain ⟨g1, g2⟩ := apart q c h1 h2
      exact (hP q c h2).kept (hk c.1 g1 g2)
  · rcases zput_at is w1 ws hlen hn hb i x hi with ⟨a, a1, a2⟩ | ⟨a1, a2⟩ <;> rcases zput_at is w1 ws hlen hn hb j y hj with ⟨c, c1, c2⟩ | ⟨c1, c2⟩
    · have hac := hD1.1 a c x y a2 c2 hxy
      subst hac
      exact Option.some.inj (a1.symm.trans c1)
    · exact absurd (by rw [← hxy]; exact hD1.2 a x a2) (apart j y c1 c2).2
    · exact absurd (by rw [hxy]; exact hD1.2 c y c2) (apart i x a1 a2).2
    · exact hD.1 i j x y a2 c2 hxy
  · rcases zput_at is w1 ws hlen hn hb q c h with ⟨j, h1, h2⟩ | ⟨h1, h2⟩
    · exact hF _ (hD1.2 j c h2)
    · exact hD.2 q c h2
theorem zgood {y : MethodName} {b : ByteArray} {nL : Nat} {ret : Option FieldType} (h : Cond.code y b nL ret ∈ TB) : GoodIn TB (.code y b nL ret :: TB) := fun w hw => by
  rcases List.mem_cons.mp hw with rfl | hw
  · exact ⟨h, TB_good _ h⟩
  · exact ⟨hw, TB_good w hw⟩
def zdesc (y : MethodName) (na : Nat) : Bool := decide (y.cls ≠ "java/lang/invoke/MethodHandle") && (decide (y.cls ≠ "java/lang/invoke/VarHandle") && decide ((parseMethodDescriptor y.desc).map (fun d => d.parameters.length) = some na))
theorem zdesc_spec {y : MethodName} {na : Nat} (h : zdesc y na = true) : y.cls ≠ "java/lang/invoke/MethodHandle" ∧ y.cls ≠ "java/lang/invoke/VarHandle" ∧ (parseMethodDescriptor y.desc).map (fun d => d.parameters.length) = some na := by
  simp only [zdesc, Bool.and_eq_true, decide_eq_true_eq] at h
  exact h
section ZC
variable {D : va_G} {t : zT} {k : zK} {b : ByteArray} {n : Nat} {own nm : String} {rm : Room} {l0 : Launch} {cs : Nat × Nat} {ws : va_W} {pc : Nat} {lv : List (Nat × Value)} {st : List Value}
variable {y : MethodName} {cb : ByteArray} {cn : Nat} {cret : Option FieldType} {crm : Room} {as : List Value} {wc : va_W} {mc ms : Nat} {post : Option Value → va_W → Prop}
theorem zblind {as : List Value} {sz : Nat} {wc : va_W} : FrameBlind (va_Pc as (fun U => U.heap.size = sz ∧ va_P D vwCl wc U.heap ∧ KK D t U ∧ va_D (fun _ => True) wc)) := fun _ _ _ _ q => by
  obtain ⟨q0, q1, q2, q3, q4⟩ := q
  exact ⟨q0, q1, q2, q3.calling, q4⟩

/-- behind any call: what came back -/
theorem zafter {p : Program} {l : Launch} {e : Env} {R : Room} {s : State} {m : MethodId} {args : Array Value} {below : List Frame} {meth : Method} {c : Code} {H : Heap} {locs : List Loc} {cells slots : Nat} {Q : State → Prop} {A0 : Nat → Prop} {H0 : Heap} {free : Addr → Prop} {ls : Array Slot} {st0 : List Value} {A1 : Nat → Prop}
    (hr : va_Run p l e R s m args below meth c H locs cells slots mc ms (F0 m pc ls st0) st (fun s0 oc u => (∃ (v : Option Value) (w : va_W), oc = .returned v ∧ post v w ∧ va_P D vwCl w u.heap ∧ va_D A1 w) ∧ va_F A1 s0 u) free) (hS : va_S A0 H0 H locs) (hA : ∀ q, A1 q → A0 q) (hf : ∀ q, free q → A0 q)
    (kk : ∀ (v : Option Value) (w : va_W) (H1 : Heap) (locs1 : List Loc), post v w → va_P D vwCl w H1 → va_D A1 w → H.size ≤ H1.size → (∀ q : Nat, q < H.size → ¬ A1 q → H1[q]? = H[q]?) → va_S A0 H0 H1 locs1 → W p l e R s m args below meth c H1 locs1 (cells + mc) (slots + ms) Q (F0 m (pc + 3) ls (v.toList ++ st))) : W p l e R s m args below meth c H locs cells slots Q (F0 m pc ls st0) := by
  intro T hT X
  obtain ⟨v, st₀, u, T', L, h0, X', hL, e1, e2, ⟨⟨v2, w, hv, hp, hP1, hD1⟩, hz, hk⟩, stp⟩ := hr T hT X
  cases hv
  rw [h0] at hz hk
  obtain ⟨t2, a1, b1⟩ := kk v w T'.heap (locs ++ L) hp (by rw [e1]; exact hP1) hD1 (by rw [e1]; exact hz) (fun q h1 h2 => by rw [e1]; exact hk q h1 h2)
    ⟨Nat.le_trans hS.1 (by rw [e1]; exact hz), fun q h1 h2 => by rw [e1, hk q (Nat.lt_of_lt_of_le h1 hS.1) (fun z => h2 (hA q z))]; exact hS.2.1 q h1 h2, fun q hq => by
      rcases List.mem_append.mp hq with h | h
      · exact hS.2.2 q h
      · exact hf _ (hL q h)⟩ T' rfl X'
  exact ⟨t2, stp t2 a1, b1⟩

theorem zc_V (X : zX D t k b n own nm rm l0) {idx : Nat} {a : Nat} {st0 : List Value} (hC : Ct l0 D t y cb cn cret crm (.ref a :: as) wc mc ms post) (hl : Cond.methodLink own idx y ∈ TB) (hcode : Cond.code y cb cn cret ∈ TB) (hini : Cond.initialized y.cls ∈ TB) (him : Cond.instanceMethod y ∈ TB) (hsel : Cond.selects y.cls y y ∈ TB) (q9 ci9 : Nat) {T9 : u_T} {N9 : Nat} {fs9 : List Value} (hc9 : vwCl[ci9]? = some (y.cls, T9, N9)) (he9 : wc[q9]? = some (a, .inr (ci9, fs9))) (is : List Nat) (hC2 : is.map (fun i => ws[i]?) = wc.map some) (hnd : va_nd is = true) (hd : decode b pc = .ok (.invokevirtual idx, 3)) (hstk : st0 = as.reverse ++ .ref a :: st) (hdesc : zdesc y as.length = true) (hrm : crm.cells = mc ∧ crm.slots = ms ∧ crm.frames + 1 ≤ rm.frames ∧ 8 + (cn + 11) + crm.locals ≤ rm.locals) (hroom : (st.map fun v => v.category).sum ≤ 8) (hcs1 : cs.1 + mc ≤ rm.cells) (hcs2 : cs.2 + ms ≤ rm.slots) (kk : ∀ (v : Option Value) (w : va_W), post v w → is.length = w.length ∧ Z D k (cs.1 + mc, cs.2 + ms) (zput ws is w) (pc + 3) lv (v.toList ++ st)) : Z D k cs ws pc lv st0 := by
  obtain ⟨p, l, e, R, s, m, args, below, meth, c, nL, A, Q⟩ := k
  obtain ⟨hx, hb, hml, hnl, hown, hts, hK, hA, hnm, hR, hl0⟩ := X
  intro H locs ls hP hD hS hl9
  subst hl0
  subst hR
  have hPc := hP.sub (ws' := wc) is (by
    have h := congrArg (fun z => z.filterMap id) hC2
    simpa [List.filterMap_map, Function.comp_def] using h)
  have hDc := hD.sub is hnd hC2
  have hFc := va_free hD hS hA is hC2
  refine zafter (va_runV (As := as) (rest := st) ⟨hx, hb, hml, hown, hts⟩ (hC H.size) ⟨callB_of as.length hts (zgood hcode) rfl hrm.1 hrm.2.1 (hts _ hini) (hts _ hl) (zdesc_spec hdesc) ⟨hrm.2.2.1, hrm.2.2.2⟩, hts _ him, hts _ hsel⟩ ⟨zblind, va_recv hK.1 hPc hc9 he9, fun U hU hW => ⟨rfl, by rw [hU], by rw [hU]; exact hPc, hK.warm hW, hDc.weaken (fun _ _ _ _ => trivial)⟩⟩ rfl rfl (hl9.1.trans hnl) hstk (lv_room hroom) hd ⟨hcs1, hcs2⟩) hS hFc hFc (fun v w H1 locs1 hp hP1 hD1 hz hk hS1 => ?_)
  obtain ⟨hlen, kz⟩ := kk v w hp
  obtain ⟨hP2, hD2⟩ := zjoin hP hD is hC2 hnd hlen hk hFc hP1 hD1
  exact kz H1 locs1 ls hP2 hD2 hS1 hl9
theorem zc_VA (X : zX D t k b n own nm rm l0) {idx : Nat} {a : Nat} {st0 : List Value} (hC : Ct l0 D t y cb cn cret crm (.ref a :: as) wc mc ms post) (hl : Cond.methodLink own idx y ∈ TB) (hcode : Cond.code y cb cn cret ∈ TB) (hini : Cond.initialized y.cls ∈ TB) (him : Cond.instanceMethod y ∈ TB) (hsel : Cond.selects y.cls y y ∈ TB) (q9 ci9 : Nat) {T9 : u_T} {N9 : Nat} {fs9 : List Value} (hc9 : vwCl[ci9]? = some (y.cls, T9, N9)) (he9 : wc[q9]? = some (a, .inr (ci9, fs9))) (is ir : List Nat) (wr : va_W) (hC2 : is.map (fun i => ws[i]?) = wc.map some) (hR2 : ir.map (fun i => ws[i]?) = wr.map some) (hnd : va_nd is = true) (hnd2 : va_nd ir = true) (hdis : ∀ i ∈ ir, i ∉ is) (hd : decode b pc = .ok (.invokevirtual idx, 3)) (hstk : st0 = as.reverse ++ .ref a :: st) (hdesc : zdesc y as.length = true) (hrm : crm.cells = mc ∧ crm.slots = ms ∧ crm.frames + 1 ≤ rm.frames ∧ 8 + (cn + 11) + crm.locals ≤ rm.locals) (hroom : (st.map fun v => v.category).sum ≤ 8) (hcs1 : cs.1 + mc ≤ rm.cells) (hcs2 : cs.2 + ms ≤ rm.slots) (kk : ∀ (v : Option Value) (w : va_W), post v w → Z D k (cs.1 + mc, cs.2 + ms) (wr ++ w) (pc + 3) lv (v.toList ++ st)) : Z D k cs ws pc lv st0 := by
  obtain ⟨p, l, e, R, s, m, args, below, meth, c, nL, A, Q⟩ := k
  obtain ⟨hx, hb, hml, hnl, hown, hts, hK, hA, hnm, hR, hl0⟩ := X
  intro H locs ls hP hD hS hl9
  subst hl0
  subst hR
  have hPc := hP.sub (ws' := wc) is (by
    have h := congrArg (fun z => z.filterMap id) hC2
    simpa [List.filterMap_map, Function.comp_def] using h)
  have hDc := hD.sub is hnd hC2
  have hFc := va_free hD hS hA is hC2
  refine zafter (va_runV (As := as) (rest := st) ⟨hx, hb, hml, hown, hts⟩ (hC H.size) ⟨callB_of as.length hts (zgood hcode) rfl hrm.1 hrm.2.1 (hts _ hini) (hts _ hl) (zdesc_spec hdesc) ⟨hrm.2.2.1, hrm.2.2.2⟩, hts _ him, hts _ hsel⟩ ⟨zblind, va_recv hK.1 hPc hc9 he9, fun U hU hW => ⟨rfl, by rw [hU], by rw [hU]; exact hPc, hK.warm hW, hDc.weaken (fun _ _ _ _ => trivial)⟩⟩ rfl rfl (hl9.1.trans hnl) hstk (lv_room hroom) hd ⟨hcs1, hcs2⟩) hS hFc hFc (fun v w H1 locs1 hp hP1 hD1 hz hk hS1 => ?_)
  obtain ⟨hP2, hD2⟩ := va_join hP hD is ir hC2 hR2 hnd2 hdis hk hFc hP1 hD1
  exact kk v w hp H1 locs1 ls hP2 hD2 hS1 hl9
theorem zc_S (X : zX D t k b n own nm rm l0) {idx : Nat}  {st0 : List Value} (hC : Ct l0 D t y cb cn cret crm as wc mc ms post) (hl : Cond.methodLink own idx y ∈ TB) (hcode : Cond.code y cb cn cret ∈ TB) (hini : Cond.initialized y.cls ∈ TB) (hst : Cond.static y ∈ TB) (is : List Nat) (hC2 : is.map (fun i => ws[i]?) = wc.map some) (hnd : va_nd is = true) (hd : decode b pc = .ok (.invokestatic idx, 3)) (hstk : st0 = as.reverse ++ st) (hdesc : zdesc y as.length = true) (hrm : crm.cells = mc ∧ crm.slots = ms ∧ crm.frames + 1 ≤ rm.frames ∧ 8 + (cn + 11) + crm.locals ≤ rm.locals) (hroom : (st.map fun v => v.category).sum ≤ 8) (hcs1 : cs.1 + mc ≤ rm.cells) (hcs2 : cs.2 + ms ≤ rm.slots) (kk : ∀ (v : Option Value) (w : va_W), post v w → is.length = w.length ∧ Z D k (cs.1 + mc, cs.2 + ms) (zput ws is w) (pc + 3) lv (v.toList ++ st)) : Z D k cs ws pc lv st0 := by
  obtain ⟨p, l, e, R, s, m, args, below, meth, c, nL, A, Q⟩ := k
  obtain ⟨hx, hb, hml, hnl, hown, hts, hK, hA, hnm, hR, hl0⟩ := X
  intro H locs ls hP hD hS hl9
  subst hl0
  subst hR
  have hPc := hP.sub (ws' := wc) is (by
    have h := congrArg (fun z => z.filterMap id) hC2
    simpa [List.filterMap_map, Function.comp_def] using h)
  have hDc := hD.sub is hnd hC2
  have hFc := va_free hD hS hA is hC2
  refine zafter (va_runS (As := as) (rest := st) ⟨hx, hb, hml, hown, hts⟩ (hC H.size) ⟨callB_of as.length hts (zgood hcode) rfl hrm.1 hrm.2.1 (hts _ hini) (hts _ hl) (zdesc_spec hdesc) ⟨hrm.2.2.1, hrm.2.2.2⟩, hts _ hst⟩ ⟨zblind, fun U hU hW => ⟨rfl, by rw [hU], by rw [hU]; exact hPc, hK.warm hW, hDc.weaken (fun _ _ _ _ => trivial)⟩⟩ rfl rfl (hl9.1.trans hnl) hstk (lv_room hroom) hd ⟨hcs1, hcs2⟩) hS hFc hFc (fun v w H1 locs1 hp hP1 hD1 hz hk hS1 => ?_)
  obtain ⟨hlen, kz⟩ := kk v w hp
  obtain ⟨hP2, hD2⟩ := zjoin hP hD is hC2 hnd hlen hk hFc hP1 hD1
  exact kz H1 locs1 ls hP2 hD2 hS1 hl9
theorem zc_SA (X : zX D t k b n own nm rm l0) {idx : Nat}  {st0 : List Value} (hC : Ct l0 D t y cb cn cret crm as wc mc ms post) (hl : Cond.methodLink own idx y ∈ TB) (hcode : Cond.code y cb cn cret ∈ TB) (hini : Cond.initialized y.cls ∈ TB) (hst : Cond.static y ∈ TB) (is ir : List Nat) (wr : va_W) (hC2 : is.map (fun i => ws[i]?) = wc.map some) (hR2 : ir.map (fun i => ws[i]?) = wr.map some) (hnd : va_nd is = true) (hnd2 : va_nd ir = true) (hdis : ∀ i ∈ ir, i ∉ is) (hd : decode b pc = .ok (.invokestatic idx, 3)) (hstk : st0 = as.reverse ++ st) (hdesc : zdesc y as.length = true) (hrm : crm.cells = mc ∧ crm.slots = ms ∧ crm.frames + 1 ≤ rm.frames ∧ 8 + (cn + 11) + crm.locals ≤ rm.locals) (hroom : (st.map fun v => v.category).sum ≤ 8) (hcs1 : cs.1 + mc ≤ rm.cells) (hcs2 : cs.2 + ms ≤ rm.slots) (kk : ∀ (v : Option Value) (w : va_W), post v w → Z D k (cs.1 + mc, cs.2 + ms) (wr ++ w) (pc + 3) lv (v.toList ++ st)) : Z D k cs ws pc lv st0 := by
  obtain ⟨p, l, e, R, s, m, args, below, meth, c, nL, A, Q⟩ := k
  obtain ⟨hx, hb, hml, hnl, hown, hts, hK, hA, hnm, hR, hl0⟩ := X
  intro H locs ls hP hD hS hl9
  subst hl0
  subst hR
  have hPc := hP.sub (ws' := wc) is (by
    have h := congrArg (fun z => z.filterMap id) hC2
    simpa [List.filterMap_map, Function.comp_def] using h)
  have hDc := hD.sub is hnd hC2
  have hFc := va_free hD hS hA is hC2
  refine zafter (va_runS (As := as) (rest := st) ⟨hx, hb, hml, hown, hts⟩ (hC H.size) ⟨callB_of as.length hts (zgood hcode) rfl hrm.1 hrm.2.1 (hts _ hini) (hts _ hl) (zdesc_spec hdesc) ⟨hrm.2.2.1, hrm.2.2.2⟩, hts _ hst⟩ ⟨zblind, fun U hU hW => ⟨rfl, by rw [hU], by rw [hU]; exact hPc, hK.warm hW, hDc.weaken (fun _ _ _ _ => trivial)⟩⟩ rfl rfl (hl9.1.trans hnl) hstk (lv_room hroom) hd ⟨hcs1, hcs2⟩) hS hFc hFc (fun v w H1 locs1 hp hP1 hD1 hz hk hS1 => ?_)
  obtain ⟨hP2, hD2⟩ := va_join hP hD is ir hC2 hR2 hnd2 hdis hk hFc hP1 hD1
  exact kk v w hp H1 locs1 ls hP2 hD2 hS1 hl9
theorem zc_SN (X : zX D t k b n own nm rm l0) {idx : Nat}  {st0 : List Value} (hC : Ct l0 D t y cb cn cret crm as wc mc ms post) {host : String} (hl : Cond.methodLinkNest own idx y host ∈ tables_1) (hcode : Cond.code y cb cn cret ∈ TB) (hini : Cond.initialized y.cls ∈ TB) (hst : Cond.static y ∈ TB) (is : List Nat) (hC2 : is.map (fun i => ws[i]?) = wc.map some) (hnd : va_nd is = true) (hd : decode b pc = .ok (.invokestatic idx, 3)) (hstk : st0 = as.reverse ++ st) (hdesc : zdesc y as.length = true) (hrm : crm.cells = mc ∧ crm.slots = ms ∧ crm.frames + 1 ≤ rm.frames ∧ 8 + (cn + 11) + crm.locals ≤ rm.locals) (hroom : (st.map fun v => v.category).sum ≤ 8) (hcs1 : cs.1 + mc ≤ rm.cells) (hcs2 : cs.2 + ms ≤ rm.slots) (kk : ∀ (v : Option Value) (w : va_W), post v w → is.length = w.length ∧ Z D k (cs.1 + mc, cs.2 + ms) (zput ws is w) (pc + 3) lv (v.toList ++ st)) : Z D k cs ws pc lv st0 := by
  obtain ⟨p, l, e, R, s, m, args, below, meth, c, nL, A, Q⟩ := k
  obtain ⟨hx, hb, hml, hnl, hown, hts, hK, hA, hnm, hR, hl0⟩ := X
  intro H locs ls hP hD hS hl9
  subst hl0
  subst hR
  have hPc := hP.sub (ws' := wc) is (by
    have h := congrArg (fun z => z.filterMap id) hC2
    simpa [List.filterMap_map, Function.comp_def] using h)
  have hDc := hD.sub is hnd hC2
  have hFc := va_free hD hS hA is hC2
  refine zafter (va_runSN (As := as) (rest := st) ⟨hx, hb, hml, hown, hts⟩ (hC H.size) ⟨va_cnB as.length hts (zgood hcode) rfl hrm.1 hrm.2.1 (hK.2.1 _ hl rfl) (hts _ hini) (zdesc_spec hdesc) ⟨hrm.2.2.1, hrm.2.2.2⟩, hts _ hst, trivial⟩ ⟨zblind, fun U hU hW => ⟨rfl, by rw [hU], by rw [hU]; exact hPc, hK.warm hW, hDc.weaken (fun _ _ _ _ => trivial)⟩⟩ rfl rfl (hl9.1.trans hnl) hstk (lv_room hroom) hd ⟨hcs1, hcs2⟩) hS hFc hFc (fun v w H1 locs1 hp hP1 hD1 hz hk hS1 => ?_)
  obtain ⟨hlen, kz⟩ := kk v w hp
  obtain ⟨hP2, hD2⟩ := zjoin hP hD is hC2 hnd hlen hk hFc hP1 hD1
  exact kz H1 locs1 ls hP2 hD2 hS1 hl9
theorem zc_SNA (X : zX D t k b n own nm rm l0) {idx : Nat}  {st0 : List Value} (hC : Ct l0 D t y cb cn cret crm as wc mc ms post) {host : String} (hl : Cond.methodLinkNest own idx y host ∈ tables_1) (hcode : Cond.code y cb cn cret ∈ TB) (hini : Cond.initialized y.cls ∈ TB) (hst : Cond.static y ∈ TB) (is ir : List Nat) (wr : va_W) (hC2 : is.map (fun i => ws[i]?) = wc.map some) (hR2 : ir.map (fun i => ws[i]?) = wr.map some) (hnd : va_nd is = true) (hnd2 : va_nd ir = true) (hdis : ∀ i ∈ ir, i ∉ is) (hd : decode b pc = .ok (.invokestatic idx, 3)) (hstk : st0 = as.reverse ++ st) (hdesc : zdesc y as.length = true) (hrm : crm.cells = mc ∧ crm.slots = ms ∧ crm.frames + 1 ≤ rm.frames ∧ 8 + (cn + 11) + crm.locals ≤ rm.locals) (hroom : (st.map fun v => v.category).sum ≤ 8) (hcs1 : cs.1 + mc ≤ rm.cells) (hcs2 : cs.2 + ms ≤ rm.slots) (kk : ∀ (v : Option Value) (w : va_W), post v w → Z D k (cs.1 + mc, cs.2 + ms) (wr ++ w) (pc + 3) lv (v.toList ++ st)) : Z D k cs ws pc lv st0 := by
  obtain ⟨p, l, e, R, s, m, args, below, meth, c, nL, A, Q⟩ := k
  obtain ⟨hx, hb, hml, hnl, hown, hts, hK, hA, hnm, hR, hl0⟩ := X
  intro H locs ls hP hD hS hl9
  subst hl0
  subst hR
  have hPc := hP.sub (ws' := wc) is (by
    have h := congrArg (fun z => z.filterMap id) hC2
    simpa [List.filterMap_map, Function.comp_def] using h)
  have hDc := hD.sub is hnd hC2
  have hFc := va_free hD hS hA is hC2
  refine zafter (va_runSN (As := as) (rest := st) ⟨hx, hb, hml, hown, hts⟩ (hC H.size) ⟨va_cnB as.length hts (zgood hcode) rfl hrm.1 hrm.2.1 (hK.2.1 _ hl rfl) (hts _ hini) (zdesc_spec hdesc) ⟨hrm.2.2.1, hrm.2.2.2⟩, hts _ hst, trivial⟩ ⟨zblind, fun U hU hW => ⟨rfl, by rw [hU], by rw [hU]; exact hPc, hK.warm hW, hDc.weaken (fun _ _ _ _ => trivial)⟩⟩ rfl rfl (hl9.1.trans hnl) hstk (lv_room hroom) hd ⟨hcs1, hcs2⟩) hS hFc hFc (fun v w H1 locs1 hp hP1 hD1 hz hk hS1 => ?_)
  obtain ⟨hP2, hD2⟩ := va_join hP hD is ir hC2 hR2 hnd2 hdis hk hFc hP1 hD1
  exact kk v w hp H1 locs1 ls hP2 hD2 hS1 hl9
theorem zc_I (X : zX D t k b n own nm rm l0) {idx : Nat} {a : Nat} {st0 : List Value} (hC : Ct l0 D t y cb cn none crm (.ref a :: as) wc mc ms post) (hl : Cond.methodLink own idx y ∈ TB) (hcode : Cond.code y cb cn none ∈ TB) (hini : Cond.initialized y.cls ∈ TB) (him : Cond.instanceMethod y ∈ TB) (hiname : y.name = "<init>") (is : List Nat) (hC2 : is.map (fun i => ws[i]?) = wc.map some) (hnd : va_nd is = true) (hd : decode b pc = .ok (.invokespecial idx, 3)) (hstk : st0 = as.reverse ++ .ref a :: st) (hdesc : zdesc y as.length = true) (hrm : crm.cells = mc ∧ crm.slots = ms ∧ crm.frames + 1 ≤ rm.frames ∧ 8 + (cn + 11) + crm.locals ≤ rm.locals) (hroom : (st.map fun v => v.category).sum ≤ 8) (hcs1 : cs.1 + mc ≤ rm.cells) (hcs2 : cs.2 + ms ≤ rm.slots) (kk : ∀ (v : Option Value) (w : va_W), post v w → is.length = w.length ∧ Z D k (cs.1 + mc, cs.2 + ms) (zput ws is w) (pc + 3) lv (v.toList ++ st)) : Z D k cs ws pc lv st0 := by
  obtain ⟨p, l, e, R, s, m, args, below, meth, c, nL, A, Q⟩ := k
  obtain ⟨hx, hb, hml, hnl, hown, hts, hK, hA, hnm, hR, hl0⟩ := X
  intro H locs ls hP hD hS hl9
  subst hl0
  subst hR
  have hPc := hP.sub (ws' := wc) is (by
    have h := congrArg (fun z => z.filterMap id) hC2
    simpa [List.filterMap_map, Function.comp_def] using h)
  have hDc := hD.sub is hnd hC2
  have hFc := va_free hD hS hA is hC2
  refine zafter (va_runI (As := as) (rest := st) ⟨hx, hb, hml, hown, hts⟩ (hC H.size) ⟨callB_of as.length hts (zgood hcode) rfl hrm.1 hrm.2.1 (hts _ hini) (hts _ hl) (zdesc_spec hdesc) ⟨hrm.2.2.1, hrm.2.2.2⟩, hiname, hts _ him⟩ ⟨zblind, fun U hU hW => ⟨rfl, by rw [hU], by rw [hU]; exact hPc, hK.warm hW, hDc.weaken (fun _ _ _ _ => trivial)⟩⟩ rfl rfl (hl9.1.trans hnl) hstk (lv_room hroom) hd ⟨hcs1, hcs2⟩) hS hFc hFc (fun v w H1 locs1 hp hP1 hD1 hz hk hS1 => ?_)
  obtain ⟨hlen, kz⟩ := kk v w hp
  obtain ⟨hP2, hD2⟩ := zjoin hP hD is hC2 hnd hlen hk hFc hP1 hD1
  exact kz H1 locs1 ls hP2 hD2 hS1 hl9
theorem zc_IA (X : zX D t k b n own nm rm l0) {idx : Nat} {a : Nat} {st0 : List Value} (hC : Ct l0 D t y cb cn none crm (.ref a :: as) wc mc ms post) (hl : Cond.methodLink own idx y ∈ TB) (hcode : Cond.code y cb cn none ∈ TB) (hini : Cond.initialized y.cls ∈ TB) (him : Cond.instanceMethod y ∈ TB) (hiname : y.name = "<init>") (is ir : List Nat) (wr : va_W) (hC2 : is.map (fun i => ws[i]?) = wc.map some) (hR2 : ir.map (fun i => ws[i]?) = wr.map some) (hnd : va_nd is = true) (hnd2 : va_nd ir = true) (hdis : ∀ i ∈ ir, i ∉ is) (hd : decode b pc = .ok (.invokespecial idx, 3)) (hstk : st0 = as.reverse ++ .ref a :: st) (hdesc : zdesc y as.length = true) (hrm : crm.cells = mc ∧ crm.slots = ms ∧ crm.frames + 1 ≤ rm.frames ∧ 8 + (cn + 11) + crm.locals ≤ rm.locals) (hroom : (st.map fun v => v.category).sum ≤ 8) (hcs1 : cs.1 + mc ≤ rm.cells) (hcs2 : cs.2 + ms ≤ rm.slots) (kk : ∀ (v : Option Value) (w : va_W), post v w → Z D k (cs.1 + mc, cs.2 + ms) (wr ++ w) (pc + 3) lv (v.toList ++ st)) : Z D k cs ws pc lv st0 := by
  obtain ⟨p, l, e, R, s, m, args, below, meth, c, nL, A, Q⟩ := k
  obtain ⟨hx, hb, hml, hnl, hown, hts, hK, hA, hnm, hR, hl0⟩ := X
  intro H locs ls hP hD hS hl9
  subst hl0
  subst hR
  have hPc := hP.sub (ws' := wc) is (by
    have h := congrArg (fun z => z.filterMap id) hC2
    simpa [List.filterMap_map, Function.comp_def] using h)
  have hDc := hD.sub is hnd hC2
  have hFc := va_free hD hS hA is hC2
  refine zafter (va_runI (As := as) (rest := st) ⟨hx, hb, hml, hown, hts⟩ (hC H.size) ⟨callB_of as.length hts (zgood hcode) rfl hrm.1 hrm.2.1 (hts _ hini) (hts _ hl) (zdesc_spec hdesc) ⟨hrm.2.2.1, hrm.2.2.2⟩, hiname, hts _ him⟩ ⟨zblind, fun U hU hW => ⟨rfl, by rw [hU], by rw [hU]; exact hPc, hK.warm hW, hDc.weaken (fun _ _ _ _ => trivial)⟩⟩ rfl rfl (hl9.1.trans hnl) hstk (lv_room hroom) hd ⟨hcs1, hcs2⟩) hS hFc hFc (fun v w H1 locs1 hp hP1 hD1 hz hk hS1 => ?_)
  obtain ⟨hP2, hD2⟩ := va_join hP hD is ir hC2 hR2 hnd2 hdis hk hFc hP1 hD1
  exact kk v w hp H1 locs1 ls hP2 hD2 hS1 hl9
theorem zc_IN (X : zX D t k b n own nm rm l0) {idx : Nat} {a : Nat} {st0 : List Value} (hC : Ct l0 D t y cb cn none crm (.ref a :: as) wc mc ms post) {host : String} (hl : Cond.methodLinkNest own idx y host ∈ tables_1) (hcode : Cond.code y cb cn none ∈ TB) (hini : Cond.initialized y.cls ∈ TB) (him : Cond.instanceMethod y ∈ TB) (hiname : y.name = "<init>") (is : List Nat) (hC2 : is.map (fun i => ws[i]?) = wc.map some) (hnd : va_nd is = true) (hd : decode b pc = .ok (.invokespecial idx, 3)) (hstk : st0 = as.reverse ++ .ref a :: st) (hdesc : zdesc y as.length = true) (hrm : crm.cells = mc ∧ crm.slots = ms ∧ crm.frames + 1 ≤ rm.frames ∧ 8 + (cn + 11) + crm.locals ≤ rm.locals) (hroom : (st.map fun v => v.category).sum ≤ 8) (hcs1 : cs.1 + mc ≤ rm.cells) (hcs2 : cs.2 + ms ≤ rm.slots) (kk : ∀ (v : Option Value) (w : va_W), post v w → is.length = w.length ∧ Z D k (cs.1 + mc, cs.2 + ms) (zput ws is w) (pc + 3) lv (v.toList ++ st)) : Z D k cs ws pc lv st0 := by
  obtain ⟨p, l, e, R, s, m, args, below, meth, c, nL, A, Q⟩ := k
  obtain ⟨hx, hb, hml, hnl, hown, hts, hK, hA, hnm, hR, hl0⟩ := X
  intro H locs ls hP hD hS hl9
  subst hl0
  subst hR
  have hPc := hP.sub (ws' := wc) is (by
    have h := congrArg (fun z => z.filterMap id) hC2
    simpa [List.filterMap_map, Function.comp_def] using h)
  have hDc := hD.sub is hnd hC2
  have hFc := va_free hD hS hA is hC2
  refine zafter (va_runIN (As := as) (rest := st) ⟨hx, hb, hml, hown, hts⟩ (hC H.size) ⟨va_cnB as.length hts (zgood hcode) rfl hrm.1 hrm.2.1 (hK.2.1 _ hl rfl) (hts _ hini) (zdesc_spec hdesc) ⟨hrm.2.2.1, hrm.2.2.2⟩, hiname, hts _ him⟩ ⟨zblind, fun U hU hW => ⟨rfl, by rw [hU], by rw [hU]; exact hPc, hK.warm hW, hDc.weaken (fun _ _ _ _ => trivial)⟩⟩ rfl rfl (hl9.1.trans hnl) hstk (lv_room hroom) hd ⟨hcs1, hcs2⟩) hS hFc hFc (fun v w H1 locs1 hp hP1 hD1 hz hk hS1 => ?_)
  obtain ⟨hlen, kz⟩ := kk v w hp
  obtain ⟨hP2, hD2⟩ := zjoin hP hD is hC2 hnd hlen hk hFc hP1 hD1
  exact kz H1 locs1 ls hP2 hD2 hS1 hl9
theorem zc_INA (X : zX D t k b n own nm rm l0) {idx : Nat} {a : Nat} {st0 : List Value} (hC : Ct l0 D t y cb cn none crm (.ref a :: as) wc mc ms post) {host : String} (hl : Cond.methodLinkNest own idx y host ∈ tables_1) (hcode : Cond.code y cb cn none ∈ TB) (hini : Cond.initialized y.cls ∈ TB) (him : Cond.instanceMethod y ∈ TB) (hiname : y.name = "<init>") (is ir : List Nat) (wr : va_W) (hC2 : is.map (fun i => ws[i]?) = wc.map some) (hR2 : ir.map (fun i => ws[i]?) = wr.map some) (hnd : va_nd is = true) (hnd2 : va_nd ir = true) (hdis : ∀ i ∈ ir, i ∉ is) (hd : decode b pc = .ok (.invokespecial idx, 3)) (hstk : st0 = as.reverse ++ .ref a :: st) (hdesc : zdesc y as.length = true) (hrm : crm.cells = mc ∧ crm.slots = ms ∧ crm.frames + 1 ≤ rm.frames ∧ 8 + (cn + 11) + crm.locals ≤ rm.locals) (hroom : (st.map fun v => v.category).sum ≤ 8) (hcs1 : cs.1 + mc ≤ rm.cells) (hcs2 : cs.2 + ms ≤ rm.slots) (kk : ∀ (v : Option Value) (w : va_W), post v w → Z D k (cs.1 + mc, cs.2 + ms) (wr ++ w) (pc + 3) lv (v.toList ++ st)) : Z D k cs ws pc lv st0 := by
  obtain ⟨p, l, e, R, s, m, args, below, meth, c, nL, A, Q⟩ := k
  obtain ⟨hx, hb, hml, hnl, hown, hts, hK, hA, hnm, hR, hl0⟩ := X
  intro H locs ls hP hD hS hl9
  subst hl0
  subst hR
  have hPc := hP.sub (ws' := wc) is (by
    have h := congrArg (fun z => z.filterMap id) hC2
    simpa [List.filterMap_map, Function.comp_def] using h)
  have hDc := hD.sub is hnd hC2
  have hFc := va_free hD hS hA is hC2
  refine zafter (va_runIN (As := as) (rest := st) ⟨hx, hb, hml, hown, hts⟩ (hC H.size) ⟨va_cnB as.length hts (zgood hcode) rfl hrm.1 hrm.2.1 (hK.2.1 _ hl rfl) (hts _ hini) (zdesc_spec hdesc) ⟨hrm.2.2.1, hrm.2.2.2⟩, hiname, hts _ him⟩ ⟨zblind, fun U hU hW => ⟨rfl, by rw [hU], by rw [hU]; exact hPc, hK.warm hW, hDc.weaken (fun _ _ _ _ => trivial)⟩⟩ rfl rfl (hl9.1.trans hnl) hstk (lv_room hroom) hd ⟨hcs1, hcs2⟩) hS hFc hFc (fun v w H1 locs1 hp hP1 hD1 hz hk hS1 => ?_)
  obtain ⟨hP2, hD2⟩ := va_join hP hD is ir hC2 hR2 hnd2 hdis hk hFc hP1 hD1
  exact kk v w hp H1 locs1 ls hP2 hD2 hS1 hl9
end ZC
end
section
theorem dX0_init_0 : decode cX0_init 0 = .ok (.aload_n 0, 1) := by decide +kernel
theorem dX0_init_1 : decode cX0_init 1 = .ok (.invokespecial 3, 3) := by decide +kernel
theorem dX0_init_4 : decode cX0_init 4 = .ok (.return_, 1) := by decide +kernel
theorem dX0_copyFrom_0 : decode cX0_copyFrom 0 = .ok (.aload_n 0, 1) := by decide +kernel
theorem dX0_copyFrom_1 : decode cX0_copyFrom 1 = .ok (.aload_n 1, 1) := by decide +kernel
theorem dX0_copyFrom_2 : decode cX0_copyFrom 2 = .ok (.getfield 9, 3) := by decide +kernel
theorem dX0_copyFrom_5 : decode cX0_copyFrom 5 = .ok (.putfield 9, 3) := by decide +kernel
theorem dX0_copyFrom_8 : decode cX0_copyFrom 8 = .ok (.aload_n 0, 1) := by decide +kernel
theorem dX0_copyFrom_9 : decode cX0_copyFrom 9 = .ok (.aload_n 1, 1) := by decide +kernel
theorem dX0_copyFrom_10 : decode cX0_copyFrom 10 = .ok (.getfield 15, 3) := by decide +kernel
theorem dX0_copyFrom_13 : decode cX0_copyFrom 13 = .ok (.putfield 15, 3) := by decide +kernel
theorem dX0_copyFrom_16 : decode cX0_copyFrom 16 = .ok (.aload_n 0, 1) := by decide +kernel
theorem dX0_copyFrom_17 : decode cX0_copyFrom 17 = .ok (.aload_n 1, 1) := by decide +kernel
theorem dX0_copyFrom_18 : decode cX0_copyFrom 18 = .ok (.getfield 18, 3) := by decide +kernel
theorem dX0_copyFrom_21 : decode cX0_copyFrom 21 = .ok (.putfield 18, 3) := by decide +kernel
theorem dX0_copyFrom_24 : decode cX0_copyFrom 24 = .ok (.aload_n 0, 1) := by decide +kernel
theorem dX0_copyFrom_25 : decode cX0_copyFrom 25 = .ok (.aload_n 1, 1) := by decide +kernel
theorem dX0_copyFrom_26 : decode cX0_copyFrom 26 = .ok (.getfield 21, 3) := by decide +kernel
theorem dX0_copyFrom_29 : decode cX0_copyFrom 29 = .ok (.putfield 21, 3) := by decide +kernel
theorem dX0_copyFrom_32 : decode cX0_copyFrom 32 = .ok (.aload_n 0, 1) := by decide +kernel
theorem dX0_copyFrom_33 : decode cX0_copyFrom 33 = .ok (.aload_n 1, 1) := by decide +kernel
theorem dX0_copyFrom_34 : decode cX0_copyFrom 34 = .ok (.getfield 24, 3) := by decide +kernel
theorem dX0_copyFrom_37 : decode cX0_copyFrom 37 = .ok (.putfield 24, 3) := by decide +kernel
theorem dX0_copyFrom_40 : decode cX0_copyFrom 40 = .ok (.return_, 1) := by decide +kernel
theorem dX0_setBoxes_0 : decode cX0_setBoxes 0 = .ok (.aload_n 0, 1) := by decide +kernel
theorem dX0_setBoxes_1 : decode cX0_setBoxes 1 = .ok (.iload_n 1, 1) := by decide +kernel
theorem dX0_setBoxes_2 : decode cX0_setBoxes 2 = .ok (.putfield 9, 3) := by decide +kernel
theorem dX0_setBoxes_5 : decode cX0_setBoxes 5 = .ok (.aload_n 0, 1) := by decide +kernel
theorem dX0_setBoxes_6 : decode cX0_setBoxes 6 = .ok (.iload_n 2, 1) := by decide +kernel
theorem dX0_setBoxes_7 : decode cX0_setBoxes 7 = .ok (.putfield 15, 3) := by decide +kernel
theorem dX0_setBoxes_10 : decode cX0_setBoxes 10 = .ok (.return_, 1) := by decide +kernel
theorem dX0_setBox_0 : decode cX0_setBox 0 = .ok (.iload_n 1, 1) := by decide +kernel
theorem dX0_setBox_1 : decode cX0_setBox 1 = .ok (.ifCond .ne 11, 3) := by decide +kernel
theorem dX0_setBox_4 : decode cX0_setBox 4 = .ok (.aload_n 0, 1) := by decide +kernel
theorem dX0_setBox_5 : decode cX0_setBox 5 = .ok (.iload_n 2, 1) := by decide +kernel
theorem dX0_setBox_6 : decode cX0_setBox 6 = .ok (.putfield 9, 3) := by decide +kernel
theorem dX0_setBox_9 : decode cX0_setBox 9 = .ok (.goto 8, 3) := by decide +kernel
theorem dX0_setBox_12 : decode cX0_setBox 12 = .ok (.aload_n 0, 1) := by decide +kernel
theorem dX0_setBox_13 : decode cX0_setBox 13 = .ok (.iload_n 2, 1) := by decide +kernel
theorem dX0_setBox_14 : decode cX0_setBox 14 = .ok (.putfield 15, 3) := by decide +kernel
theorem dX0_setBox_17 : decode cX0_setBox 17 = .ok (.return_, 1) := by decide +kernel
theorem dX0_setHand_0 : decode cX0_setHand 0 = .ok (.aload_n 0, 1) := by decide +kernel
theorem dX0_setHand_1 : decode cX0_setHand 1 = .ok (.iload_n 1, 1) := by decide +kernel
theorem dX0_setHand_2 : decode cX0_setHand 2 = .ok (.putfield 21, 3) := by decide +kernel
theorem dX0_setHand_5 : decode cX0_setHand 5 = .ok (.aload_n 0, 1) := by decide +kernel
theorem dX0_setHand_6 : decode cX0_setHand 6 = .ok (.iload_n 2, 1) := by decide +kernel
theorem dX0_setHand_7 : decode cX0_setHand 7 = .ok (.putfield 24, 3) := by decide +kernel
theorem dX0_setHand_10 : decode cX0_setHand 10 = .ok (.return_, 1) := by decide +kernel
theorem dX0_inBox_0 : decode cX0_inBox 0 = .ok (.iload_n 1, 1) := by decide +kernel
theorem dX0_inBox_1 : decode cX0_inBox 1 = .ok (.ifCond .ne 10, 3) := by decide +kernel
theorem dX0_inBox_4 : decode cX0_inBox 4 = .ok (.aload_n 0, 1) := by decide +kernel
theorem dX0_inBox_5 : decode cX0_inBox 5 = .ok (.getfield 9, 3) := by decide +kernel
theorem dX0_inBox_8 : decode cX0_inBox 8 = .ok (.goto 7, 3) := by decide +kernel
theorem dX0_inBox_11 : decode cX0_inBox 11 = .ok (.aload_n 0, 1) := by decide +kernel
theorem dX0_inBox_12 : decode cX0_inBox 12 = .ok (.getfield 15, 3) := by decide +kernel
theorem dX0_inBox_15 : decode cX0_inBox 15 = .ok (.ireturn, 1) := by decide +kernel
theorem dX0_matches_0 : decode cX0_matches 0 = .ok (.aload_n 0, 1) := by decide +kernel
theorem dX0_matches_1 : decode cX0_matches 1 = .ok (.getfield 9, 3) := by decide +kernel
theorem dX0_matches_4 : decode cX0_matches 4 = .ok (.aload_n 0, 1) := by decide +kernel
theorem dX0_matches_5 : decode cX0_matches 5 = .ok (.getfield 15, 3) := by decide +kernel
theorem dX0_matches_8 : decode cX0_matches 8 = .ok (.iadd, 1) := by decide +kernel
theorem dX0_matches_9 : decode cX0_matches 9 = .ok (.ireturn, 1) := by decide +kernel
theorem dX0_quartersToLeft_0 : decode cX0_quartersToLeft 0 = .ok (.aload_n 0, 1) := by decide +kernel
theorem dX0_quartersToLeft_1 : decode cX0_quartersToLeft 1 = .ok (.getfield 21, 3) := by decide +kernel
theorem dX0_quartersToLeft_4 : decode cX0_quartersToLeft 4 = .ok (.aload_n 0, 1) := by decide +kernel
theorem dX0_quartersToLeft_5 : decode cX0_quartersToLeft 5 = .ok (.getfield 24, 3) := by decide +kernel
theorem dX0_quartersToLeft_8 : decode cX0_quartersToLeft 8 = .ok (.aload_n 0, 1) := by decide +kernel
theorem dX0_quartersToLeft_9 : decode cX0_quartersToLeft 9 = .ok (.getfield 9, 3) := by decide +kernel
theorem dX0_quartersToLeft_12 : decode cX0_quartersToLeft 12 = .ok (.aload_n 0, 1) := by decide +kernel
theorem dX0_quartersToLeft_13 : decode cX0_quartersToLeft 13 = .ok (.getfield 15, 3) := by decide +kernel
theorem dX0_quartersToLeft_16 : decode cX0_quartersToLeft 16 = .ok (.aload_n 0, 1) := by decide +kernel
theorem dX0_quartersToLeft_17 : decode cX0_quartersToLeft 17 = .ok (.getfield 18, 3) := by decide +kernel
theorem dX0_quartersToLeft_20 : decode cX0_quartersToLeft 20 = .ok (.invokestatic 27, 3) := by decide +kernel
theorem dX0_quartersToLeft_23 : decode cX0_quartersToLeft 23 = .ok (.ireturn, 1) := by decide +kernel
theorem dX0_draw_0 : decode cX0_draw 0 = .ok (.aload_n 0, 1) := by decide +kernel
theorem dX0_draw_1 : decode cX0_draw 1 = .ok (.iload_n 1, 1) := by decide +kernel
theorem dX0_draw_2 : decode cX0_draw 2 = .ok (.putfield 18, 3) := by decide +kernel
theorem dX0_draw_5 : decode cX0_draw 5 = .ok (.aload_n 0, 1) := by decide +kernel
theorem dX0_draw_6 : decode cX0_draw 6 = .ok (.iload_n 1, 1) := by decide +kernel
theorem dX0_draw_7 : decode cX0_draw 7 = .ok (.invokevirtual 31, 3) := by decide +kernel
theorem dX0_draw_10 : decode cX0_draw 10 = .ok (.istore_n 2, 1) := by decide +kernel
theorem dX0_draw_11 : decode cX0_draw 11 = .ok (.iload_n 2, 1) := by decide +kernel
theorem dX0_draw_12 : decode cX0_draw 12 = .ok (.ifCond .ne 5, 3) := by decide +kernel
theorem dX0_draw_15 : decode cX0_draw 15 = .ok (.iconst 0, 1) := by decide +kernel
theorem dX0_draw_16 : decode cX0_draw 16 = .ok (.ireturn, 1) := by decide +kernel
theorem dX0_draw_17 : decode cX0_draw 17 = .ok (.aload_n 0, 1) := by decide +kernel
theorem dX0_draw_18 : decode cX0_draw 18 = .ok (.iload_n 1, 1) := by decide +kernel
theorem dX0_draw_19 : decode cX0_draw 19 = .ok (.iload_n 2, 1) := by decide +kernel
theorem dX0_draw_20 : decode cX0_draw 20 = .ok (.iconst 1, 1) := by decide +kernel
theorem dX0_draw_21 : decode cX0_draw 21 = .ok (.isub, 1) := by decide +kernel
theorem dX0_draw_22 : decode cX0_draw 22 = .ok (.invokevirtual 35, 3) := by decide +kernel
theorem dX0_draw_25 : decode cX0_draw 25 = .ok (.iconst 1, 1) := by decide +kernel
theorem dX0_draw_26 : decode cX0_draw 26 = .ok (.ireturn, 1) := by decide +kernel
theorem dX1_init_0 : decode cX1_init 0 = .ok (.aload_n 0, 1) := by decide +kernel
theorem dX1_init_1 : decode cX1_init 1 = .ok (.invokespecial 1, 3) := by decide +kernel
theorem dX1_init_4 : decode cX1_init 4 = .ok (.aload_n 0, 1) := by decide +kernel
theorem dX1_init_5 : decode cX1_init 5 = .ok (.iconst 0, 1) := by decide +kernel
theorem dX1_init_6 : decode cX1_init 6 = .ok (.putfield 7, 3) := by decide +kernel
theorem dX1_init_9 : decode cX1_init 9 = .ok (.aload_n 0, 1) := by decide +kernel
theorem dX1_init_10 : decode cX1_init 10 = .ok (.iload_n 1, 1) := by decide +kernel
theorem dX1_init_11 : decode cX1_init 11 = .ok (.iconst 1, 1) := by decide +kernel
theorem dX1_init_12 : decode cX1_init 12 = .ok (.invokestatic 13, 3) := by decide +kernel
theorem dX1_init_15 : decode cX1_init 15 = .ok (.anewarray 19, 3) := by decide +kernel
theorem dX1_init_18 : decode cX1_init 18 = .ok (.putfield 21, 3) := by decide +kernel
theorem dX1_init_21 : decode cX1_init 21 = .ok (.iconst 0, 1) := by decide +kernel
theorem dX1_init_22 : decode cX1_init 22 = .ok (.istore_n 2, 1) := by decide +kernel
theorem dX1_init_23 : decode cX1_init 23 = .ok (.iload_n 2, 1) := by decide +kernel
theorem dX1_init_24 : decode cX1_init 24 = .ok (.aload_n 0, 1) := by decide +kernel
theorem dX1_init_25 : decode cX1_init 25 = .ok (.getfield 21, 3) := by decide +kernel
theorem dX1_init_28 : decode cX1_init 28 = .ok (.arraylength, 1) := by decide +kernel
theorem dX1_init_29 : decode cX1_init 29 = .ok (.if_icmp .ge 22, 3) := by decide +kernel
theorem dX1_init_32 : decode cX1_init 32 = .ok (.aload_n 0, 1) := by decide +kernel
theorem dX1_init_33 : decode cX1_init 33 = .ok (.getfield 21, 3) := by decide +kernel
theorem dX1_init_36 : decode cX1_init 36 = .ok (.iload_n 2, 1) := by decide +kernel
theorem dX1_init_37 : decode cX1_init 37 = .ok (.new 19, 3) := by decide +kernel
theorem dX1_init_40 : decode cX1_init 40 = .ok (.dup, 1) := by decide +kernel
theorem dX1_init_41 : decode cX1_init 41 = .ok (.invokespecial 25, 3) := by decide +kernel
theorem dX1_init_44 : decode cX1_init 44 = .ok (.aastore, 1) := by decide +kernel
theorem dX1_init_45 : decode cX1_init 45 = .ok (.iinc 2 1, 3) := by decide +kernel
theorem dX1_init_48 : decode cX1_init 48 = .ok (.goto (-25), 3) := by decide +kernel
theorem dX1_init_51 : decode cX1_init 51 = .ok (.return_, 1) := by decide +kernel
theorem dX1_size_0 : decode cX1_size 0 = .ok (.aload_n 0, 1) := by decide +kernel
theorem dX1_size_1 : decode cX1_size 1 = .ok (.getfield 7, 3) := by decide +kernel
theorem dX1_size_4 : decode cX1_size 4 = .ok (.ireturn, 1) := by decide +kernel
theorem dX1_isFull_0 : decode cX1_isFull 0 = .ok (.aload_n 0, 1) := by decide +kernel
theorem dX1_isFull_1 : decode cX1_isFull 1 = .ok (.getfield 7, 3) := by decide +kernel
theorem dX1_isFull_4 : decode cX1_isFull 4 = .ok (.aload_n 0, 1) := by decide +kernel
theorem dX1_isFull_5 : decode cX1_isFull 5 = .ok (.getfield 21, 3) := by decide +kernel
theorem dX1_isFull_8 : decode cX1_isFull 8 = .ok (.arraylength, 1) := by decide +kernel
theorem dX1_isFull_9 : decode cX1_isFull 9 = .ok (.if_icmp .lt 7, 3) := by decide +kernel
theorem dX1_isFull_12 : decode cX1_isFull 12 = .ok (.iconst 1, 1) := by decide +kernel
theorem dX1_isFull_13 : decode cX1_isFull 13 = .ok (.goto 4, 3) := by decide +kernel
theorem dX1_isFull_16 : decode cX1_isFull 16 = .ok (.iconst 0, 1) := by decide +kernel
theorem dX1_isFull_17 : decode cX1_isFull 17 = .ok (.ireturn, 1) := by decide +kernel
theorem dX1_clear_0 : decode cX1_clear 0 = .ok (.aload_n 0, 1) := by decide +kernel
theorem dX1_clear_1 : decode cX1_clear 1 = .ok (.iconst 0, 1) := by decide +kernel
theorem dX1_clear_2 : decode cX1_clear 2 = .ok (.putfield 7, 3) := by decide +kernel
theorem dX1_clear_5 : decode cX1_clear 5 = .ok (.return_, 1) := by decide +kernel
theorem dX1_put_0 : decode cX1_put 0 = .ok (.aload_n 0, 1) := by decide +kernel
theorem dX1_put_1 : decode cX1_put 1 = .ok (.invokevirtual 26, 3) := by decide +kernel
theorem dX1_put_4 : decode cX1_put 4 = .ok (.ifCond .eq 7, 3) := by decide +kernel
theorem dX1_put_7 : decode cX1_put 7 = .ok (.aload_n 0, 1) := by decide +kernel
theorem dX1_put_8 : decode cX1_put 8 = .ok (.invokevirtual 30, 3) := by decide +kernel
theorem dX1_put_11 : decode cX1_put 11 = .ok (.aload_n 0, 1) := by decide +kernel
theorem dX1_put_12 : decode cX1_put 12 = .ok (.getfield 7, 3) := by decide +kernel
theorem dX1_put_15 : decode cX1_put 15 = .ok (.iconst 0, 1) := by decide +kernel
theorem dX1_put_16 : decode cX1_put 16 = .ok (.aload_n 0, 1) := by decide +kernel
theorem dX1_put_17 : decode cX1_put 17 = .ok (.getfield 21, 3) := by decide +kernel
theorem dX1_put_20 : decode cX1_put 20 = .ok (.arraylength, 1) := by decide +kernel
theorem dX1_put_21 : decode cX1_put 21 = .ok (.iconst 1, 1) := by decide +kernel
theorem dX1_put_22 : decode cX1_put 22 = .ok (.isub, 1) := by decide +kernel
theorem dX1_put_23 : decode cX1_put 23 = .ok (.invokestatic 33, 3) := by decide +kernel
theorem dX1_put_26 : decode cX1_put 26 = .ok (.ifCond .eq 26, 3) := by decide +kernel
theorem dX1_put_29 : decode cX1_put 29 = .ok (.aload_n 0, 1) := by decide +kernel
theorem dX1_put_30 : decode cX1_put 30 = .ok (.getfield 21, 3) := by decide +kernel
theorem dX1_put_33 : decode cX1_put 33 = .ok (.aload_n 0, 1) := by decide +kernel
theorem dX1_put_34 : decode cX1_put 34 = .ok (.getfield 7, 3) := by decide +kernel
theorem dX1_put_37 : decode cX1_put 37 = .ok (.aaload, 1) := by decide +kernel
theorem dX1_put_38 : decode cX1_put 38 = .ok (.aload_n 1, 1) := by decide +kernel
theorem dX1_put_39 : decode cX1_put 39 = .ok (.invokevirtual 39, 3) := by decide +kernel
theorem dX1_put_42 : decode cX1_put 42 = .ok (.aload_n 0, 1) := by decide +kernel
theorem dX1_put_43 : decode cX1_put 43 = .ok (.dup, 1) := by decide +kernel
theorem dX1_put_44 : decode cX1_put 44 = .ok (.getfield 7, 3) := by decide +kernel
theorem dX1_put_47 : decode cX1_put 47 = .ok (.iconst 1, 1) := by decide +kernel
theorem dX1_put_48 : decode cX1_put 48 = .ok (.iadd, 1) := by decide +kernel
theorem dX1_put_49 : decode cX1_put 49 = .ok (.putfield 7, 3) := by decide +kernel
theorem dX1_put_52 : decode cX1_put 52 = .ok (.return_, 1) := by decide +kernel
theorem dX1_takeLast_0 : decode cX1_takeLast 0 = .ok (.aload_n 0, 1) := by decide +kernel
theorem dX1_takeLast_1 : decode cX1_takeLast 1 = .ok (.getfield 7, 3) := by decide +kernel
theorem dX1_takeLast_4 : decode cX1_takeLast 4 = .ok (.iconst 1, 1) := by decide +kernel
theorem dX1_takeLast_5 : decode cX1_takeLast 5 = .ok (.aload_n 0, 1) := by decide +kernel
theorem dX1_takeLast_6 : decode cX1_takeLast 6 = .ok (.getfield 21, 3) := by decide +kernel
theorem dX1_takeLast_9 : decode cX1_takeLast 9 = .ok (.arraylength, 1) := by decide +kernel
theorem dX1_takeLast_10 : decode cX1_takeLast 10 = .ok (.invokestatic 33, 3) := by decide +kernel
theorem dX1_takeLast_13 : decode cX1_takeLast 13 = .ok (.ifCond .ne 5, 3) := by decide +kernel
theorem dX1_takeLast_16 : decode cX1_takeLast 16 = .ok (.iconst 0, 1) := by decide +kernel
theorem dX1_takeLast_17 : decode cX1_takeLast 17 = .ok (.ireturn, 1) := by decide +kernel
theorem dX1_takeLast_18 : decode cX1_takeLast 18 = .ok (.aload_n 0, 1) := by decide +kernel
theorem dX1_takeLast_19 : decode cX1_takeLast 19 = .ok (.dup, 1) := by decide +kernel
theorem dX1_takeLast_20 : decode cX1_takeLast 20 = .ok (.getfield 7, 3) := by decide +kernel
theorem dX1_takeLast_23 : decode cX1_takeLast 23 = .ok (.iconst 1, 1) := by decide +kernel
theorem dX1_takeLast_24 : decode cX1_takeLast 24 = .ok (.isub, 1) := by decide +kernel
theorem dX1_takeLast_25 : decode cX1_takeLast 25 = .ok (.putfield 7, 3) := by decide +kernel
theorem dX1_takeLast_28 : decode cX1_takeLast 28 = .ok (.aload_n 1, 1) := by decide +kernel
theorem dX1_takeLast_29 : decode cX1_takeLast 29 = .ok (.aload_n 0, 1) := by decide +kernel
theorem dX1_takeLast_30 : decode cX1_takeLast 30 = .ok (.getfield 21, 3) := by decide +kernel
theorem dX1_takeLast_33 : decode cX1_takeLast 33 = .ok (.aload_n 0, 1) := by decide +kernel
theorem dX1_takeLast_34 : decode cX1_takeLast 34 = .ok (.getfield 7, 3) := by decide +kernel
theorem dX1_takeLast_37 : decode cX1_takeLast 37 = .ok (.aaload, 1) := by decide +kernel
theorem dX1_takeLast_38 : decode cX1_takeLast 38 = .ok (.invokevirtual 39, 3) := by decide +kernel
theorem dX1_takeLast_41 : decode cX1_takeLast 41 = .ok (.iconst 1, 1) := by decide +kernel
theorem dX1_takeLast_42 : decode cX1_takeLast 42 = .ok (.ireturn, 1) := by decide +kernel
theorem dX1_dropOldest_0 : decode cX1_dropOldest 0 = .ok (.iconst 1, 1) := by decide +kernel
theorem dX1_dropOldest_1 : decode cX1_dropOldest 1 = .ok (.istore_n 1, 1) := by decide +kernel
theorem dX1_dropOldest_2 : decode cX1_dropOldest 2 = .ok (.iload_n 1, 1) := by decide +kernel
theorem dX1_dropOldest_3 : decode cX1_dropOldest 3 = .ok (.aload_n 0, 1) := by decide +kernel
theorem dX1_dropOldest_4 : decode cX1_dropOldest 4 = .ok (.getfield 21, 3) := by decide +kernel
theorem dX1_dropOldest_7 : decode cX1_dropOldest 7 = .ok (.arraylength, 1) := by decide +kernel
theorem dX1_dropOldest_8 : decode cX1_dropOldest 8 = .ok (.if_icmp .ge 26, 3) := by decide +kernel
theorem dX1_dropOldest_11 : decode cX1_dropOldest 11 = .ok (.aload_n 0, 1) := by decide +kernel
theorem dX1_dropOldest_12 : decode cX1_dropOldest 12 = .ok (.getfield 21, 3) := by decide +kernel
theorem dX1_dropOldest_15 : decode cX1_dropOldest 15 = .ok (.iload_n 1, 1) := by decide +kernel
theorem dX1_dropOldest_16 : decode cX1_dropOldest 16 = .ok (.iconst 1, 1) := by decide +kernel
theorem dX1_dropOldest_17 : decode cX1_dropOldest 17 = .ok (.isub, 1) := by decide +kernel
theorem dX1_dropOldest_18 : decode cX1_dropOldest 18 = .ok (.aaload, 1) := by decide +kernel
theorem dX1_dropOldest_19 : decode cX1_dropOldest 19 = .ok (.aload_n 0, 1) := by decide +kernel
theorem dX1_dropOldest_20 : decode cX1_dropOldest 20 = .ok (.getfield 21, 3) := by decide +kernel
theorem dX1_dropOldest_23 : decode cX1_dropOldest 23 = .ok (.iload_n 1, 1) := by decide +kernel
theorem dX1_dropOldest_24 : decode cX1_dropOldest 24 = .ok (.aaload, 1) := by decide +kernel
theorem dX1_dropOldest_25 : decode cX1_dropOldest 25 = .ok (.invokevirtual 39, 3) := by decide +kernel
theorem dX1_dropOldest_28 : decode cX1_dropOldest 28 = .ok (.iinc 1 1, 3) := by decide +kernel
theorem dX1_dropOldest_31 : decode cX1_dropOldest 31 = .ok (.goto (-29), 3) := by decide +kernel
theorem dX1_dropOldest_34 : decode cX1_dropOldest 34 = .ok (.aload_n 0, 1) := by decide +kernel
theorem dX1_dropOldest_35 : decode cX1_dropOldest 35 = .ok (.aload_n 0, 1) := by decide +kernel
theorem dX1_dropOldest_36 : decode cX1_dropOldest 36 = .ok (.getfield 21, 3) := by decide +kernel
theorem dX1_dropOldest_39 : decode cX1_dropOldest 39 = .ok (.arraylength, 1) := by decide +kernel
theorem dX1_dropOldest_40 : decode cX1_dropOldest 40 = .ok (.iconst 1, 1) := by decide +kernel
theorem dX1_dropOldest_41 : decode cX1_dropOldest 41 = .ok (.isub, 1) := by decide +kernel
theorem dX1_dropOldest_42 : decode cX1_dropOldest 42 = .ok (.putfield 7, 3) := by decide +kernel
theorem dX1_dropOldest_45 : decode cX1_dropOldest 45 = .ok (.return_, 1) := by decide +kernel
theorem dX2_init_0 : decode cX2_init 0 = .ok (.aload_n 0, 1) := by decide +kernel
theorem dX2_init_1 : decode cX2_init 1 = .ok (.invokespecial 3, 3) := by decide +kernel
theorem dX2_init_4 : decode cX2_init 4 = .ok (.aload_n 0, 1) := by decide +kernel
theorem dX2_init_5 : decode cX2_init 5 = .ok (.sipush 200, 3) := by decide +kernel
theorem dX2_init_8 : decode cX2_init 8 = .ok (.newarray .char, 2) := by decide +kernel
theorem dX2_init_10 : decode cX2_init 10 = .ok (.putfield 9, 3) := by decide +kernel
theorem dX2_init_13 : decode cX2_init 13 = .ok (.aload_n 0, 1) := by decide +kernel
theorem dX2_init_14 : decode cX2_init 14 = .ok (.iconst 0, 1) := by decide +kernel
theorem dX2_init_15 : decode cX2_init 15 = .ok (.putfield 15, 3) := by decide +kernel
theorem dX2_init_18 : decode cX2_init 18 = .ok (.aload_n 0, 1) := by decide +kernel
theorem dX2_init_19 : decode cX2_init 19 = .ok (.iconst 0, 1) := by decide +kernel
theorem dX2_init_20 : decode cX2_init 20 = .ok (.putfield 19, 3) := by decide +kernel
theorem dX2_init_23 : decode cX2_init 23 = .ok (.aload_n 0, 1) := by decide +kernel
theorem dX2_init_24 : decode cX2_init 24 = .ok (.iconst 0, 1) := by decide +kernel
theorem dX2_init_25 : decode cX2_init 25 = .ok (.putfield 22, 3) := by decide +kernel
theorem dX2_init_28 : decode cX2_init 28 = .ok (.aload_n 0, 1) := by decide +kernel
theorem dX2_init_29 : decode cX2_init 29 = .ok (.iconst 0, 1) := by decide +kernel
theorem dX2_init_30 : decode cX2_init 30 = .ok (.putfield 25, 3) := by decide +kernel
theorem dX2_init_33 : decode cX2_init 33 = .ok (.aload_n 0, 1) := by decide +kernel
theorem dX2_init_34 : decode cX2_init 34 = .ok (.new 28, 3) := by decide +kernel
theorem dX2_init_37 : decode cX2_init 37 = .ok (.dup, 1) := by decide +kernel
theorem dX2_init_38 : decode cX2_init 38 = .ok (.invokespecial 30, 3) := by decide +kernel
theorem dX2_init_41 : decode cX2_init 41 = .ok (.putfield 31, 3) := by decide +kernel
theorem dX2_init_44 : decode cX2_init 44 = .ok (.aload_n 0, 1) := by decide +kernel
theorem dX2_init_45 : decode cX2_init 45 = .ok (.iconst 0, 1) := by decide +kernel
theorem dX2_init_46 : decode cX2_init 46 = .ok (.putfield 35, 3) := by decide +kernel
theorem dX2_init_49 : decode cX2_init 49 = .ok (.return_, 1) := by decide +kernel
theorem dX2_size_0 : decode cX2_size 0 = .ok (.aload_n 0, 1) := by decide +kernel
theorem dX2_size_1 : decode cX2_size 1 = .ok (.getfield 15, 3) := by decide +kernel
theorem dX2_size_4 : decode cX2_size 4 = .ok (.ireturn, 1) := by decide +kernel
theorem dX2_clear_0 : decode cX2_clear 0 = .ok (.aload_n 0, 1) := by decide +kernel
theorem dX2_clear_1 : decode cX2_clear 1 = .ok (.iconst 0, 1) := by decide +kernel
theorem dX2_clear_2 : decode cX2_clear 2 = .ok (.putfield 15, 3) := by decide +kernel
theorem dX2_clear_5 : decode cX2_clear 5 = .ok (.return_, 1) := by decide +kernel
theorem dX2_append_0 : decode cX2_append 0 = .ok (.aload_n 0, 1) := by decide +kernel
theorem dX2_append_1 : decode cX2_append 1 = .ok (.getfield 15, 3) := by decide +kernel
theorem dX2_append_4 : decode cX2_append 4 = .ok (.iconst 0, 1) := by decide +kernel
theorem dX2_append_5 : decode cX2_append 5 = .ok (.sipush 199, 3) := by decide +kernel
theorem dX2_append_8 : decode cX2_append 8 = .ok (.invokestatic 38, 3) := by decide +kernel
theorem dX2_append_11 : decode cX2_append 11 = .ok (.ifCond .ne 5, 3) := by decide +kernel
theorem dX2_append_14 : decode cX2_append 14 = .ok (.iconst 0, 1) := by decide +kernel
theorem dX2_append_15 : decode cX2_append 15 = .ok (.ireturn, 1) := by decide +kernel
theorem dX2_append_16 : decode cX2_append 16 = .ok (.aload_n 0, 1) := by decide +kernel
theorem dX2_append_17 : decode cX2_append 17 = .ok (.getfield 9, 3) := by decide +kernel
theorem dX2_append_20 : decode cX2_append 20 = .ok (.aload_n 0, 1) := by decide +kernel
theorem dX2_append_21 : decode cX2_append 21 = .ok (.getfield 15, 3) := by decide +kernel
theorem dX2_append_24 : decode cX2_append 24 = .ok (.iload_n 1, 1) := by decide +kernel
theorem dX2_append_25 : decode cX2_append 25 = .ok (.castore, 1) := by decide +kernel
theorem dX2_append_26 : decode cX2_append 26 = .ok (.aload_n 0, 1) := by decide +kernel
theorem dX2_append_27 : decode cX2_append 27 = .ok (.dup, 1) := by decide +kernel
theorem dX2_append_28 : decode cX2_append 28 = .ok (.getfield 15, 3) := by decide +kernel
theorem dX2_append_31 : decode cX2_append 31 = .ok (.iconst 1, 1) := by decide +kernel
theorem dX2_append_32 : decode cX2_append 32 = .ok (.iadd, 1) := by decide +kernel
theorem dX2_append_33 : decode cX2_append 33 = .ok (.putfield 15, 3) := by decide +kernel
theorem dX2_append_36 : decode cX2_append 36 = .ok (.iconst 1, 1) := by decide +kernel
theorem dX2_append_37 : decode cX2_append 37 = .ok (.ireturn, 1) := by decide +kernel
theorem dX2_firstFault_0 : decode cX2_firstFault 0 = .ok (.aload_n 0, 1) := by decide +kernel
theorem dX2_firstFault_1 : decode cX2_firstFault 1 = .ok (.getfield 31, 3) := by decide +kernel
theorem dX2_firstFault_4 : decode cX2_firstFault 4 = .ok (.bipush 10, 2) := by decide +kernel
theorem dX2_firstFault_6 : decode cX2_firstFault 6 = .ok (.bipush 10, 2) := by decide +kernel
theorem dX2_firstFault_8 : decode cX2_firstFault 8 = .ok (.invokevirtual 42, 3) := by decide +kernel
theorem dX2_firstFault_11 : decode cX2_firstFault 11 = .ok (.aload_n 0, 1) := by decide +kernel
theorem dX2_firstFault_12 : decode cX2_firstFault 12 = .ok (.getfield 31, 3) := by decide +kernel
theorem dX2_firstFault_15 : decode cX2_firstFault 15 = .ok (.iconst 0, 1) := by decide +kernel
theorem dX2_firstFault_16 : decode cX2_firstFault 16 = .ok (.iconst 2, 1) := by decide +kernel
theorem dX2_firstFault_17 : decode cX2_firstFault 17 = .ok (.invokevirtual 46, 3) := by decide +kernel
theorem dX2_firstFault_20 : decode cX2_firstFault 20 = .ok (.aload_n 0, 1) := by decide +kernel
theorem dX2_firstFault_21 : decode cX2_firstFault 21 = .ok (.getfield 31, 3) := by decide +kernel
theorem dX2_firstFault_24 : decode cX2_firstFault 24 = .ok (.iconst 2, 1) := by decide +kernel
theorem dX2_firstFault_25 : decode cX2_firstFault 25 = .ok (.putfield 49, 3) := by decide +kernel
theorem dX2_firstFault_28 : decode cX2_firstFault 28 = .ok (.aload_n 0, 1) := by decide +kernel
theorem dX2_firstFault_29 : decode cX2_firstFault 29 = .ok (.iconst 3, 1) := by decide +kernel
theorem dX2_firstFault_30 : decode cX2_firstFault 30 = .ok (.putfield 35, 3) := by decide +kernel
theorem dX2_firstFault_33 : decode cX2_firstFault 33 = .ok (.aload_n 0, 1) := by decide +kernel
theorem dX2_firstFault_34 : decode cX2_firstFault 34 = .ok (.iconst 0, 1) := by decide +kernel
theorem dX2_firstFault_35 : decode cX2_firstFault 35 = .ok (.putfield 19, 3) := by decide +kernel
theorem dX2_firstFault_38 : decode cX2_firstFault 38 = .ok (.iconst 0, 1) := by decide +kernel
theorem dX2_firstFault_39 : decode cX2_firstFault 39 = .ok (.istore_n 1, 1) := by decide +kernel
theorem dX2_firstFault_40 : decode cX2_firstFault 40 = .ok (.iload_n 1, 1) := by decide +kernel
theorem dX2_firstFault_41 : decode cX2_firstFault 41 = .ok (.sipush 200, 3) := by decide +kernel
theorem dX2_firstFault_44 : decode cX2_firstFault 44 = .ok (.if_icmp .ge 34, 3) := by decide +kernel
theorem dX2_firstFault_47 : decode cX2_firstFault 47 = .ok (.aload_n 0, 1) := by decide +kernel
theorem dX2_firstFault_48 : decode cX2_firstFault 48 = .ok (.getfield 19, 3) := by decide +kernel
theorem dX2_firstFault_51 : decode cX2_firstFault 51 = .ok (.aload_n 0, 1) := by decide +kernel
theorem dX2_firstFault_52 : decode cX2_firstFault 52 = .ok (.getfield 15, 3) := by decide +kernel
theorem dX2_firstFault_55 : decode cX2_firstFault 55 = .ok (.if_icmp .ge 23, 3) := by decide +kernel
theorem dX2_firstFault_58 : decode cX2_firstFault 58 = .ok (.aload_n 0, 1) := by decide +kernel
theorem dX2_firstFault_59 : decode cX2_firstFault 59 = .ok (.getfield 19, 3) := by decide +kernel
theorem dX2_firstFault_62 : decode cX2_firstFault 62 = .ok (.istore_n 2, 1) := by decide +kernel
theorem dX2_firstFault_63 : decode cX2_firstFault 63 = .ok (.aload_n 0, 1) := by decide +kernel
theorem dX2_firstFault_64 : decode cX2_firstFault 64 = .ok (.invokevirtual 52, 3) := by decide +kernel
theorem dX2_firstFault_67 : decode cX2_firstFault 67 = .ok (.ifCond .ne 5, 3) := by decide +kernel
theorem dX2_firstFault_70 : decode cX2_firstFault 70 = .ok (.iload_n 2, 1) := by decide +kernel
theorem dX2_firstFault_71 : decode cX2_firstFault 71 = .ok (.ireturn, 1) := by decide +kernel
theorem dX2_firstFault_72 : decode cX2_firstFault 72 = .ok (.iinc 1 1, 3) := by decide +kernel
theorem dX2_firstFault_75 : decode cX2_firstFault 75 = .ok (.goto (-35), 3) := by decide +kernel
theorem dX2_firstFault_78 : decode cX2_firstFault 78 = .ok (.bipush (-4), 2) := by decide +kernel
theorem dX2_firstFault_80 : decode cX2_firstFault 80 = .ok (.ireturn, 1) := by decide +kernel
theorem dX2_readItem_0 : decode cX2_readItem 0 = .ok (.aload_n 0, 1) := by decide +kernel
theorem dX2_readItem_1 : decode cX2_readItem 1 = .ok (.invokevirtual 56, 3) := by decide +kernel
theorem dX2_readItem_4 : decode cX2_readItem 4 = .ok (.istore_n 1, 1) := by decide +kernel
theorem dX2_readItem_5 : decode cX2_readItem 5 = .ok (.aload_n 0, 1) := by decide +kernel
theorem dX2_readItem_6 : decode cX2_readItem 6 = .ok (.dup, 1) := by decide +kernel
theorem dX2_readItem_7 : decode cX2_readItem 7 = .ok (.getfield 19, 3) := by decide +kernel
theorem dX2_readItem_10 : decode cX2_readItem 10 = .ok (.iconst 1, 1) := by decide +kernel
theorem dX2_readItem_11 : decode cX2_readItem 11 = .ok (.iadd, 1) := by decide +kernel
theorem dX2_readItem_12 : decode cX2_readItem 12 = .ok (.putfield 19, 3) := by decide +kernel
theorem dX2_readItem_15 : decode cX2_readItem 15 = .ok (.iload_n 1, 1) := by decide +kernel
theorem dX2_readItem_16 : decode cX2_readItem 16 = .ok (.lookupswitch 124 #[(98, 44), (101, 104), (104, 64), (108, 84)], 44) := by decide +kernel
theorem dX2_readItem_60 : decode cX2_readItem 60 = .ok (.aload_n 0, 1) := by decide +kernel
theorem dX2_readItem_61 : decode cX2_readItem 61 = .ok (.invokevirtual 60, 3) := by decide +kernel
theorem dX2_readItem_64 : decode cX2_readItem 64 = .ok (.ifCond .eq 14, 3) := by decide +kernel
theorem dX2_readItem_67 : decode cX2_readItem 67 = .ok (.aload_n 0, 1) := by decide +kernel
theorem dX2_readItem_68 : decode cX2_readItem 68 = .ok (.invokevirtual 63, 3) := by decide +kernel
theorem dX2_readItem_71 : decode cX2_readItem 71 = .ok (.ifCond .eq 7, 3) := by decide +kernel
theorem dX2_readItem_74 : decode cX2_readItem 74 = .ok (.iconst 1, 1) := by decide +kernel
theorem dX2_readItem_75 : decode cX2_readItem 75 = .ok (.goto 4, 3) := by decide +kernel
theorem dX2_readItem_78 : decode cX2_readItem 78 = .ok (.iconst 0, 1) := by decide +kernel
theorem dX2_readItem_79 : decode cX2_readItem 79 = .ok (.ireturn, 1) := by decide +kernel
theorem dX2_readItem_80 : decode cX2_readItem 80 = .ok (.aload_n 0, 1) := by decide +kernel
theorem dX2_readItem_81 : decode cX2_readItem 81 = .ok (.invokevirtual 60, 3) := by decide +kernel
theorem dX2_readItem_84 : decode cX2_readItem 84 = .ok (.ifCond .eq 14, 3) := by decide +kernel
theorem dX2_readItem_87 : decode cX2_readItem 87 = .ok (.aload_n 0, 1) := by decide +kernel
theorem dX2_readItem_88 : decode cX2_readItem 88 = .ok (.invokevirtual 66, 3) := by decide +kernel
theorem dX2_readItem_91 : decode cX2_readItem 91 = .ok (.ifCond .eq 7, 3) := by decide +kernel
theorem dX2_readItem_94 : decode cX2_readItem 94 = .ok (.iconst 1, 1) := by decide +kernel
theorem dX2_readItem_95 : decode cX2_readItem 95 = .ok (.goto 4, 3) := by decide +kernel
theorem dX2_readItem_98 : decode cX2_readItem 98 = .ok (.iconst 0, 1) := by decide +kernel
theorem dX2_readItem_99 : decode cX2_readItem 99 = .ok (.ireturn, 1) := by decide +kernel
theorem dX2_readItem_100 : decode cX2_readItem 100 = .ok (.aload_n 0, 1) := by decide +kernel
theorem dX2_readItem_101 : decode cX2_readItem 101 = .ok (.invokevirtual 69, 3) := by decide +kernel
theorem dX2_readItem_104 : decode cX2_readItem 104 = .ok (.ifCond .eq 14, 3) := by decide +kernel
theorem dX2_readItem_107 : decode cX2_readItem 107 = .ok (.aload_n 0, 1) := by decide +kernel
theorem dX2_readItem_108 : decode cX2_readItem 108 = .ok (.invokevirtual 72, 3) := by decide +kernel
theorem dX2_readItem_111 : decode cX2_readItem 111 = .ok (.ifCond .eq 7, 3) := by decide +kernel
theorem dX2_readItem_114 : decode cX2_readItem 114 = .ok (.iconst 1, 1) := by decide +kernel
theorem dX2_readItem_115 : decode cX2_readItem 115 = .ok (.goto 4, 3) := by decide +kernel
theorem dX2_readItem_118 : decode cX2_readItem 118 = .ok (.iconst 0, 1) := by decide +kernel
theorem dX2_readItem_119 : decode cX2_readItem 119 = .ok (.ireturn, 1) := by decide +kernel
theorem dX2_readItem_120 : decode cX2_readItem 120 = .ok (.aload_n 0, 1) := by decide +kernel
theorem dX2_readItem_121 : decode cX2_readItem 121 = .ok (.invokevirtual 69, 3) := by decide +kernel
theorem dX2_readItem_124 : decode cX2_readItem 124 = .ok (.ifCond .eq 14, 3) := by decide +kernel
theorem dX2_readItem_127 : decode cX2_readItem 127 = .ok (.aload_n 0, 1) := by decide +kernel
theorem dX2_readItem_128 : decode cX2_readItem 128 = .ok (.invokevirtual 75, 3) := by decide +kernel
theorem dX2_readItem_131 : decode cX2_readItem 131 = .ok (.ifCond .eq 7, 3) := by decide +kernel
theorem dX2_readItem_134 : decode cX2_readItem 134 = .ok (.iconst 1, 1) := by decide +kernel
theorem dX2_readItem_135 : decode cX2_readItem 135 = .ok (.goto 4, 3) := by decide +kernel
theorem dX2_readItem_138 : decode cX2_readItem 138 = .ok (.iconst 0, 1) := by decide +kernel
theorem dX2_readItem_139 : decode cX2_readItem 139 = .ok (.ireturn, 1) := by decide +kernel
theorem dX2_readItem_140 : decode cX2_readItem 140 = .ok (.iconst 0, 1) := by decide +kernel
theorem dX2_readItem_141 : decode cX2_readItem 141 = .ok (.ireturn, 1) := by decide +kernel
theorem dX2_tellBoxes_0 : decode cX2_tellBoxes 0 = .ok (.aload_n 0, 1) := by decide +kernel
theorem dX2_tellBoxes_1 : decode cX2_tellBoxes 1 = .ok (.getfield 31, 3) := by decide +kernel
theorem dX2_tellBoxes_4 : decode cX2_tellBoxes 4 = .ok (.aload_n 0, 1) := by decide +kernel
theorem dX2_tellBoxes_5 : decode cX2_tellBoxes 5 = .ok (.getfield 22, 3) := by decide +kernel
theorem dX2_tellBoxes_8 : decode cX2_tellBoxes 8 = .ok (.aload_n 0, 1) := by decide +kernel
theorem dX2_tellBoxes_9 : decode cX2_tellBoxes 9 = .ok (.getfield 25, 3) := by decide +kernel
theorem dX2_tellBoxes_12 : decode cX2_tellBoxes 12 = .ok (.invokevirtual 42, 3) := by decide +kernel
theorem dX2_tellBoxes_15 : decode cX2_tellBoxes 15 = .ok (.aload_n 0, 1) := by decide +kernel
theorem dX2_tellBoxes_16 : decode cX2_tellBoxes 16 = .ok (.getfield 22, 3) := by decide +kernel
theorem dX2_tellBoxes_19 : decode cX2_tellBoxes 19 = .ok (.iconst 0, 1) := by decide +kernel
theorem dX2_tellBoxes_20 : decode cX2_tellBoxes 20 = .ok (.bipush 10, 2) := by decide +kernel
theorem dX2_tellBoxes_22 : decode cX2_tellBoxes 22 = .ok (.invokestatic 38, 3) := by decide +kernel
theorem dX2_tellBoxes_25 : decode cX2_tellBoxes 25 = .ok (.ifCond .eq 20, 3) := by decide +kernel
theorem dX2_tellBoxes_28 : decode cX2_tellBoxes 28 = .ok (.aload_n 0, 1) := by decide +kernel
theorem dX2_tellBoxes_29 : decode cX2_tellBoxes 29 = .ok (.getfield 25, 3) := by decide +kernel
theorem dX2_tellBoxes_32 : decode cX2_tellBoxes 32 = .ok (.iconst 0, 1) := by decide +kernel
theorem dX2_tellBoxes_33 : decode cX2_tellBoxes 33 = .ok (.bipush 10, 2) := by decide +kernel
theorem dX2_tellBoxes_35 : decode cX2_tellBoxes 35 = .ok (.invokestatic 38, 3) := by decide +kernel
theorem dX2_tellBoxes_38 : decode cX2_tellBoxes 38 = .ok (.ifCond .eq 7, 3) := by decide +kernel
theorem dX2_tellBoxes_41 : decode cX2_tellBoxes 41 = .ok (.iconst 1, 1) := by decide +kernel
theorem dX2_tellBoxes_42 : decode cX2_tellBoxes 42 = .ok (.goto 4, 3) := by decide +kernel
theorem dX2_tellBoxes_45 : decode cX2_tellBoxes 45 = .ok (.iconst 0, 1) := by decide +kernel
theorem dX2_tellBoxes_46 : decode cX2_tellBoxes 46 = .ok (.ireturn, 1) := by decide +kernel
theorem dX2_tellHand_0 : decode cX2_tellHand 0 = .ok (.aload_n 0, 1) := by decide +kernel
theorem dX2_tellHand_1 : decode cX2_tellHand 1 = .ok (.getfield 31, 3) := by decide +kernel
theorem dX2_tellHand_4 : decode cX2_tellHand 4 = .ok (.aload_n 0, 1) := by decide +kernel
theorem dX2_tellHand_5 : decode cX2_tellHand 5 = .ok (.getfield 22, 3) := by decide +kernel
theorem dX2_tellHand_8 : decode cX2_tellHand 8 = .ok (.aload_n 0, 1) := by decide +kernel
theorem dX2_tellHand_9 : decode cX2_tellHand 9 = .ok (.getfield 25, 3) := by decide +kernel
theorem dX2_tellHand_12 : decode cX2_tellHand 12 = .ok (.invokevirtual 46, 3) := by decide +kernel
theorem dX2_tellHand_15 : decode cX2_tellHand 15 = .ok (.aload_n 0, 1) := by decide +kernel
theorem dX2_tellHand_16 : decode cX2_tellHand 16 = .ok (.getfield 22, 3) := by decide +kernel
theorem dX2_tellHand_19 : decode cX2_tellHand 19 = .ok (.aload_n 0, 1) := by decide +kernel
theorem dX2_tellHand_20 : decode cX2_tellHand 20 = .ok (.getfield 25, 3) := by decide +kernel
theorem dX2_tellHand_23 : decode cX2_tellHand 23 = .ok (.invokestatic 78, 3) := by decide +kernel
theorem dX2_tellHand_26 : decode cX2_tellHand 26 = .ok (.ireturn, 1) := by decide +kernel
theorem dX2_tellLast_0 : decode cX2_tellLast 0 = .ok (.aload_n 0, 1) := by decide +kernel
theorem dX2_tellLast_1 : decode cX2_tellLast 1 = .ok (.getfield 31, 3) := by decide +kernel
theorem dX2_tellLast_4 : decode cX2_tellLast 4 = .ok (.aload_n 0, 1) := by decide +kernel
theorem dX2_tellLast_5 : decode cX2_tellLast 5 = .ok (.getfield 22, 3) := by decide +kernel
theorem dX2_tellLast_8 : decode cX2_tellLast 8 = .ok (.putfield 49, 3) := by decide +kernel
theorem dX2_tellLast_11 : decode cX2_tellLast 11 = .ok (.aload_n 0, 1) := by decide +kernel
theorem dX2_tellLast_12 : decode cX2_tellLast 12 = .ok (.getfield 22, 3) := by decide +kernel
theorem dX2_tellLast_15 : decode cX2_tellLast 15 = .ok (.invokestatic 82, 3) := by decide +kernel
theorem dX2_tellLast_18 : decode cX2_tellLast 18 = .ok (.ireturn, 1) := by decide +kernel
theorem dX2_tellEvening_0 : decode cX2_tellEvening 0 = .ok (.aload_n 0, 1) := by decide +kernel
theorem dX2_tellEvening_1 : decode cX2_tellEvening 1 = .ok (.aload_n 0, 1) := by decide +kernel
theorem dX2_tellEvening_2 : decode cX2_tellEvening 2 = .ok (.getfield 22, 3) := by decide +kernel
theorem dX2_tellEvening_5 : decode cX2_tellEvening 5 = .ok (.putfield 35, 3) := by decide +kernel
theorem dX2_tellEvening_8 : decode cX2_tellEvening 8 = .ok (.aload_n 0, 1) := by decide +kernel
theorem dX2_tellEvening_9 : decode cX2_tellEvening 9 = .ok (.getfield 22, 3) := by decide +kernel
theorem dX2_tellEvening_12 : decode cX2_tellEvening 12 = .ok (.iconst 1, 1) := by decide +kernel
theorem dX2_tellEvening_13 : decode cX2_tellEvening 13 = .ok (.bipush 9, 2) := by decide +kernel
theorem dX2_tellEvening_15 : decode cX2_tellEvening 15 = .ok (.invokestatic 38, 3) := by decide +kernel
theorem dX2_tellEvening_18 : decode cX2_tellEvening 18 = .ok (.ireturn, 1) := by decide +kernel
theorem dX2_readOne_0 : decode cX2_readOne 0 = .ok (.aload_n 0, 1) := by decide +kernel
theorem dX2_readOne_1 : decode cX2_readOne 1 = .ok (.aload_n 0, 1) := by decide +kernel
theorem dX2_readOne_2 : decode cX2_readOne 2 = .ok (.invokevirtual 86, 3) := by decide +kernel
theorem dX2_readOne_5 : decode cX2_readOne 5 = .ok (.putfield 22, 3) := by decide +kernel
theorem dX2_readOne_8 : decode cX2_readOne 8 = .ok (.aload_n 0, 1) := by decide +kernel
theorem dX2_readOne_9 : decode cX2_readOne 9 = .ok (.getfield 22, 3) := by decide +kernel
theorem dX2_readOne_12 : decode cX2_readOne 12 = .ok (.ifCond .lt 16, 3) := by decide +kernel
theorem dX2_readOne_15 : decode cX2_readOne 15 = .ok (.aload_n 0, 1) := by decide +kernel
theorem dX2_readOne_16 : decode cX2_readOne 16 = .ok (.bipush 59, 2) := by decide +kernel
theorem dX2_readOne_18 : decode cX2_readOne 18 = .ok (.invokevirtual 90, 3) := by decide +kernel
theorem dX2_readOne_21 : decode cX2_readOne 21 = .ok (.ifCond .eq 7, 3) := by decide +kernel
theorem dX2_readOne_24 : decode cX2_readOne 24 = .ok (.iconst 1, 1) := by decide +kernel
theorem dX2_readOne_25 : decode cX2_readOne 25 = .ok (.goto 4, 3) := by decide +kernel
theorem dX2_readOne_28 : decode cX2_readOne 28 = .ok (.iconst 0, 1) := by decide +kernel
theorem dX2_readOne_29 : decode cX2_readOne 29 = .ok (.ireturn, 1) := by decide +kernel
theorem dX2_readTwo_0 : decode cX2_readTwo 0 = .ok (.aload_n 0, 1) := by decide +kernel
theorem dX2_readTwo_1 : decode cX2_readTwo 1 = .ok (.aload_n 0, 1) := by decide +kernel
theorem dX2_readTwo_2 : decode cX2_readTwo 2 = .ok (.invokevirtual 86, 3) := by decide +kernel
theorem dX2_readTwo_5 : decode cX2_readTwo 5 = .ok (.putfield 22, 3) := by decide +kernel
theorem dX2_readTwo_8 : decode cX2_readTwo 8 = .ok (.aload_n 0, 1) := by decide +kernel
theorem dX2_readTwo_9 : decode cX2_readTwo 9 = .ok (.getfield 22, 3) := by decide +kernel
theorem dX2_readTwo_12 : decode cX2_readTwo 12 = .ok (.ifCond .lt 12, 3) := by decide +kernel
theorem dX2_readTwo_15 : decode cX2_readTwo 15 = .ok (.aload_n 0, 1) := by decide +kernel
theorem dX2_readTwo_16 : decode cX2_readTwo 16 = .ok (.bipush 44, 2) := by decide +kernel
theorem dX2_readTwo_18 : decode cX2_readTwo 18 = .ok (.invokevirtual 90, 3) := by decide +kernel
theorem dX2_readTwo_21 : decode cX2_readTwo 21 = .ok (.ifCond .ne 5, 3) := by decide +kernel
theorem dX2_readTwo_24 : decode cX2_readTwo 24 = .ok (.iconst 0, 1) := by decide +kernel
theorem dX2_readTwo_25 : decode cX2_readTwo 25 = .ok (.ireturn, 1) := by decide +kernel
theorem dX2_readTwo_26 : decode cX2_readTwo 26 = .ok (.aload_n 0, 1) := by decide +kernel
theorem dX2_readTwo_27 : decode cX2_readTwo 27 = .ok (.aload_n 0, 1) := by decide +kernel
theorem dX2_readTwo_28 : decode cX2_readTwo 28 = .ok (.invokevirtual 86, 3) := by decide +kernel
theorem dX2_readTwo_31 : decode cX2_readTwo 31 = .ok (.putfield 25, 3) := by decide +kernel
theorem dX2_readTwo_34 : decode cX2_readTwo 34 = .ok (.aload_n 0, 1) := by decide +kernel
theorem dX2_readTwo_35 : decode cX2_readTwo 35 = .ok (.getfield 25, 3) := by decide +kernel
theorem dX2_readTwo_38 : decode cX2_readTwo 38 = .ok (.ifCond .lt 16, 3) := by decide +kernel
theorem dX2_readTwo_41 : decode cX2_readTwo 41 = .ok (.aload_n 0, 1) := by decide +kernel
theorem dX2_readTwo_42 : decode cX2_readTwo 42 = .ok (.bipush 59, 2) := by decide +kernel
theorem dX2_readTwo_44 : decode cX2_readTwo 44 = .ok (.invokevirtual 90, 3) := by decide +kernel
theorem dX2_readTwo_47 : decode cX2_readTwo 47 = .ok (.ifCond .eq 7, 3) := by decide +kernel
theorem dX2_readTwo_50 : decode cX2_readTwo 50 = .ok (.iconst 1, 1) := by decide +kernel
theorem dX2_readTwo_51 : decode cX2_readTwo 51 = .ok (.goto 4, 3) := by decide +kernel
theorem dX2_readTwo_54 : decode cX2_readTwo 54 = .ok (.iconst 0, 1) := by decide +kernel
theorem dX2_readTwo_55 : decode cX2_readTwo 55 = .ok (.ireturn, 1) := by decide +kernel
theorem dX2_readNumber_0 : decode cX2_readNumber 0 = .ok (.aload_n 0, 1) := by decide +kernel
theorem dX2_readNumber_1 : decode cX2_readNumber 1 = .ok (.invokevirtual 94, 3) := by decide +kernel
theorem dX2_readNumber_4 : decode cX2_readNumber 4 = .ok (.istore_n 1, 1) := by decide +kernel
theorem dX2_readNumber_5 : decode cX2_readNumber 5 = .ok (.iload_n 1, 1) := by decide +kernel
theorem dX2_readNumber_6 : decode cX2_readNumber 6 = .ok (.ifCond .ge 5, 3) := by decide +kernel
theorem dX2_readNumber_9 : decode cX2_readNumber 9 = .ok (.iconst (-1), 1) := by decide +kernel
theorem dX2_readNumber_10 : decode cX2_readNumber 10 = .ok (.ireturn, 1) := by decide +kernel
theorem dX2_readNumber_11 : decode cX2_readNumber 11 = .ok (.aload_n 0, 1) := by decide +kernel
theorem dX2_readNumber_12 : decode cX2_readNumber 12 = .ok (.invokevirtual 94, 3) := by decide +kernel
theorem dX2_readNumber_15 : decode cX2_readNumber 15 = .ok (.istore_n 2, 1) := by decide +kernel
theorem dX2_readNumber_16 : decode cX2_readNumber 16 = .ok (.iload_n 2, 1) := by decide +kernel
theorem dX2_readNumber_17 : decode cX2_readNumber 17 = .ok (.ifCond .ge 7, 3) := by decide +kernel
theorem dX2_readNumber_20 : decode cX2_readNumber 20 = .ok (.iload_n 1, 1) := by decide +kernel
theorem dX2_readNumber_21 : decode cX2_readNumber 21 = .ok (.goto 9, 3) := by decide +kernel
theorem dX2_readNumber_24 : decode cX2_readNumber 24 = .ok (.bipush 10, 2) := by decide +kernel
theorem dX2_readNumber_26 : decode cX2_readNumber 26 = .ok (.iload_n 1, 1) := by decide +kernel
theorem dX2_readNumber_27 : decode cX2_readNumber 27 = .ok (.imul, 1) := by decide +kernel
theorem dX2_readNumber_28 : decode cX2_readNumber 28 = .ok (.iload_n 2, 1) := by decide +kernel
theorem dX2_readNumber_29 : decode cX2_readNumber 29 = .ok (.iadd, 1) := by decide +kernel
theorem dX2_readNumber_30 : decode cX2_readNumber 30 = .ok (.ireturn, 1) := by decide +kernel
theorem dX2_readFigure_0 : decode cX2_readFigure 0 = .ok (.aload_n 0, 1) := by decide +kernel
theorem dX2_readFigure_1 : decode cX2_readFigure 1 = .ok (.invokevirtual 56, 3) := by decide +kernel
theorem dX2_readFigure_4 : decode cX2_readFigure 4 = .ok (.istore_n 1, 1) := by decide +kernel
theorem dX2_readFigure_5 : decode cX2_readFigure 5 = .ok (.iload_n 1, 1) := by decide +kernel
theorem dX2_readFigure_6 : decode cX2_readFigure 6 = .ok (.bipush 48, 2) := by decide +kernel
theorem dX2_readFigure_8 : decode cX2_readFigure 8 = .ok (.if_icmp .lt 9, 3) := by decide +kernel
theorem dX2_readFigure_11 : decode cX2_readFigure 11 = .ok (.iload_n 1, 1) := by decide +kernel
theorem dX2_readFigure_12 : decode cX2_readFigure 12 = .ok (.bipush 57, 2) := by decide +kernel
theorem dX2_readFigure_14 : decode cX2_readFigure 14 = .ok (.if_icmp .le 5, 3) := by decide +kernel
theorem dX2_readFigure_17 : decode cX2_readFigure 17 = .ok (.iconst (-1), 1) := by decide +kernel
theorem dX2_readFigure_18 : decode cX2_readFigure 18 = .ok (.ireturn, 1) := by decide +kernel
theorem dX2_readFigure_19 : decode cX2_readFigure 19 = .ok (.aload_n 0, 1) := by decide +kernel
theorem dX2_readFigure_20 : decode cX2_readFigure 20 = .ok (.dup, 1) := by decide +kernel
theorem dX2_readFigure_21 : decode cX2_readFigure 21 = .ok (.getfield 19, 3) := by decide +kernel
theorem dX2_readFigure_24 : decode cX2_readFigure 24 = .ok (.iconst 1, 1) := by decide +kernel
theorem dX2_readFigure_25 : decode cX2_readFigure 25 = .ok (.iadd, 1) := by decide +kernel
theorem dX2_readFigure_26 : decode cX2_readFigure 26 = .ok (.putfield 19, 3) := by decide +kernel
theorem dX2_readFigure_29 : decode cX2_readFigure 29 = .ok (.iload_n 1, 1) := by decide +kernel
theorem dX2_readFigure_30 : decode cX2_readFigure 30 = .ok (.bipush 48, 2) := by decide +kernel
theorem dX2_readFigure_32 : decode cX2_readFigure 32 = .ok (.isub, 1) := by decide +kernel
theorem dX2_readFigure_33 : decode cX2_readFigure 33 = .ok (.ireturn, 1) := by decide +kernel
theorem dX2_readSign_0 : decode cX2_readSign 0 = .ok (.aload_n 0, 1) := by decide +kernel
theorem dX2_readSign_1 : decode cX2_readSign 1 = .ok (.invokevirtual 56, 3) := by decide +kernel
theorem dX2_readSign_4 : decode cX2_readSign 4 = .ok (.iload_n 1, 1) := by decide +kernel
theorem dX2_readSign_5 : decode cX2_readSign 5 = .ok (.if_icmp .eq 5, 3) := by decide +kernel
theorem dX2_readSign_8 : decode cX2_readSign 8 = .ok (.iconst 0, 1) := by decide +kernel
theorem dX2_readSign_9 : decode cX2_readSign 9 = .ok (.ireturn, 1) := by decide +kernel
theorem dX2_readSign_10 : decode cX2_readSign 10 = .ok (.aload_n 0, 1) := by decide +kernel
theorem dX2_readSign_11 : decode cX2_readSign 11 = .ok (.dup, 1) := by decide +kernel
theorem dX2_readSign_12 : decode cX2_readSign 12 = .ok (.getfield 19, 3) := by decide +kernel
theorem dX2_readSign_15 : decode cX2_readSign 15 = .ok (.iconst 1, 1) := by decide +kernel
theorem dX2_readSign_16 : decode cX2_readSign 16 = .ok (.iadd, 1) := by decide +kernel
theorem dX2_readSign_17 : decode cX2_readSign 17 = .ok (.putfield 19, 3) := by decide +kernel
theorem dX2_readSign_20 : decode cX2_readSign 20 = .ok (.iconst 1, 1) := by decide +kernel
theorem dX2_readSign_21 : decode cX2_readSign 21 = .ok (.ireturn, 1) := by decide +kernel
theorem dX2_letterHere_0 : decode cX2_letterHere 0 = .ok (.aload_n 0, 1) := by decide +kernel
theorem dX2_letterHere_1 : decode cX2_letterHere 1 = .ok (.getfield 19, 3) := by decide +kernel
theorem dX2_letterHere_4 : decode cX2_letterHere 4 = .ok (.ifCond .lt 36, 3) := by decide +kernel
theorem dX2_letterHere_7 : decode cX2_letterHere 7 = .ok (.aload_n 0, 1) := by decide +kernel
theorem dX2_letterHere_8 : decode cX2_letterHere 8 = .ok (.getfield 19, 3) := by decide +kernel
theorem dX2_letterHere_11 : decode cX2_letterHere 11 = .ok (.aload_n 0, 1) := by decide +kernel
theorem dX2_letterHere_12 : decode cX2_letterHere 12 = .ok (.getfield 15, 3) := by decide +kernel
theorem dX2_letterHere_15 : decode cX2_letterHere 15 = .ok (.if_icmp .ge 25, 3) := by decide +kernel
theorem dX2_letterHere_18 : decode cX2_letterHere 18 = .ok (.aload_n 0, 1) := by decide +kernel
theorem dX2_letterHere_19 : decode cX2_letterHere 19 = .ok (.getfield 19, 3) := by decide +kernel
theorem dX2_letterHere_22 : decode cX2_letterHere 22 = .ok (.sipush 200, 3) := by decide +kernel
theorem dX2_letterHere_25 : decode cX2_letterHere 25 = .ok (.if_icmp .ge 15, 3) := by decide +kernel
theorem dX2_letterHere_28 : decode cX2_letterHere 28 = .ok (.aload_n 0, 1) := by decide +kernel
theorem dX2_letterHere_29 : decode cX2_letterHere 29 = .ok (.getfield 9, 3) := by decide +kernel
theorem dX2_letterHere_32 : decode cX2_letterHere 32 = .ok (.aload_n 0, 1) := by decide +kernel
theorem dX2_letterHere_33 : decode cX2_letterHere 33 = .ok (.getfield 19, 3) := by decide +kernel
theorem dX2_letterHere_36 : decode cX2_letterHere 36 = .ok (.caload, 1) := by decide +kernel
theorem dX2_letterHere_37 : decode cX2_letterHere 37 = .ok (.goto 5, 3) := by decide +kernel
theorem dX2_letterHere_40 : decode cX2_letterHere 40 = .ok (.bipush 32, 2) := by decide +kernel
theorem dX2_letterHere_42 : decode cX2_letterHere 42 = .ok (.ireturn, 1) := by decide +kernel
end
section
theorem dX3_init_0 : decode cX3_init 0 = .ok (.aload_n 0, 1) := by decide +kernel
theorem dX3_init_1 : decode cX3_init 1 = .ok (.invokespecial 3, 3) := by decide +kernel
theorem dX3_init_4 : decode cX3_init 4 = .ok (.aload_n 0, 1) := by decide +kernel
theorem dX3_init_5 : decode cX3_init 5 = .ok (.bipush 33, 2) := by decide +kernel
theorem dX3_init_7 : decode cX3_init 7 = .ok (.newarray .long, 2) := by decide +kernel
theorem dX3_init_9 : decode cX3_init 9 = .ok (.putfield 11, 3) := by decide +kernel
theorem dX3_init_12 : decode cX3_init 12 = .ok (.aload_n 0, 1) := by decide +kernel
theorem dX3_init_13 : decode cX3_init 13 = .ok (.bipush 33, 2) := by decide +kernel
theorem dX3_init_15 : decode cX3_init 15 = .ok (.newarray .long, 2) := by decide +kernel
theorem dX3_init_17 : decode cX3_init 17 = .ok (.putfield 15, 3) := by decide +kernel
theorem dX3_init_20 : decode cX3_init 20 = .ok (.aload_n 0, 1) := by decide +kernel
theorem dX3_init_21 : decode cX3_init 21 = .ok (.bipush 11, 2) := by decide +kernel
theorem dX3_init_23 : decode cX3_init 23 = .ok (.newarray .long, 2) := by decide +kernel
theorem dX3_init_25 : decode cX3_init 25 = .ok (.putfield 18, 3) := by decide +kernel
theorem dX3_init_28 : decode cX3_init 28 = .ok (.aload_n 0, 1) := by decide +kernel
theorem dX3_init_29 : decode cX3_init 29 = .ok (.iconst 0, 1) := by decide +kernel
theorem dX3_init_30 : decode cX3_init 30 = .ok (.putfield 21, 3) := by decide +kernel
theorem dX3_init_33 : decode cX3_init 33 = .ok (.aload_n 0, 1) := by decide +kernel
theorem dX3_init_34 : decode cX3_init 34 = .ok (.iconst 0, 1) := by decide +kernel
theorem dX3_init_35 : decode cX3_init 35 = .ok (.putfield 25, 3) := by decide +kernel
theorem dX3_init_38 : decode cX3_init 38 = .ok (.aload_n 0, 1) := by decide +kernel
theorem dX3_init_39 : decode cX3_init 39 = .ok (.iconst 0, 1) := by decide +kernel
theorem dX3_init_40 : decode cX3_init 40 = .ok (.putfield 28, 3) := by decide +kernel
theorem dX3_init_43 : decode cX3_init 43 = .ok (.aload_n 0, 1) := by decide +kernel
theorem dX3_init_44 : decode cX3_init 44 = .ok (.iconst 0, 1) := by decide +kernel
theorem dX3_init_45 : decode cX3_init 45 = .ok (.putfield 31, 3) := by decide +kernel
theorem dX3_init_48 : decode cX3_init 48 = .ok (.aload_n 0, 1) := by decide +kernel
theorem dX3_init_49 : decode cX3_init 49 = .ok (.lconst 0, 1) := by decide +kernel
theorem dX3_init_50 : decode cX3_init 50 = .ok (.putfield 34, 3) := by decide +kernel
theorem dX3_init_53 : decode cX3_init 53 = .ok (.aload_n 0, 1) := by decide +kernel
theorem dX3_init_54 : decode cX3_init 54 = .ok (.lconst 0, 1) := by decide +kernel
theorem dX3_init_55 : decode cX3_init 55 = .ok (.putfield 38, 3) := by decide +kernel
theorem dX3_init_58 : decode cX3_init 58 = .ok (.return_, 1) := by decide +kernel
theorem dX3_start_0 : decode cX3_start 0 = .ok (.aload_n 0, 1) := by decide +kernel
theorem dX3_start_1 : decode cX3_start 1 = .ok (.getfield 11, 3) := by decide +kernel
theorem dX3_start_4 : decode cX3_start 4 = .ok (.invokestatic 41, 3) := by decide +kernel
theorem dX3_start_7 : decode cX3_start 7 = .ok (.aload_n 0, 1) := by decide +kernel
theorem dX3_start_8 : decode cX3_start 8 = .ok (.getfield 18, 3) := by decide +kernel
theorem dX3_start_11 : decode cX3_start 11 = .ok (.invokestatic 41, 3) := by decide +kernel
theorem dX3_start_14 : decode cX3_start 14 = .ok (.aload_n 0, 1) := by decide +kernel
theorem dX3_start_15 : decode cX3_start 15 = .ok (.iload_n 2, 1) := by decide +kernel
theorem dX3_start_16 : decode cX3_start 16 = .ok (.putfield 21, 3) := by decide +kernel
theorem dX3_start_19 : decode cX3_start 19 = .ok (.aload_n 0, 1) := by decide +kernel
theorem dX3_start_20 : decode cX3_start 20 = .ok (.aload_n 1, 1) := by decide +kernel
theorem dX3_start_21 : decode cX3_start 21 = .ok (.getfield 45, 3) := by decide +kernel
theorem dX3_start_24 : decode cX3_start 24 = .ok (.putfield 25, 3) := by decide +kernel
theorem dX3_start_27 : decode cX3_start 27 = .ok (.aload_n 0, 1) := by decide +kernel
theorem dX3_start_28 : decode cX3_start 28 = .ok (.aload_n 1, 1) := by decide +kernel
theorem dX3_start_29 : decode cX3_start 29 = .ok (.getfield 48, 3) := by decide +kernel
theorem dX3_start_32 : decode cX3_start 32 = .ok (.putfield 28, 3) := by decide +kernel
theorem dX3_start_35 : decode cX3_start 35 = .ok (.aload_n 0, 1) := by decide +kernel
theorem dX3_start_36 : decode cX3_start 36 = .ok (.aload_n 1, 1) := by decide +kernel
theorem dX3_start_37 : decode cX3_start 37 = .ok (.invokevirtual 49, 3) := by decide +kernel
theorem dX3_start_40 : decode cX3_start 40 = .ok (.putfield 31, 3) := by decide +kernel
theorem dX3_start_43 : decode cX3_start 43 = .ok (.aload_n 0, 1) := by decide +kernel
theorem dX3_start_44 : decode cX3_start 44 = .ok (.ldc2_w 52, 3) := by decide +kernel
theorem dX3_start_47 : decode cX3_start 47 = .ok (.putfield 34, 3) := by decide +kernel
theorem dX3_start_50 : decode cX3_start 50 = .ok (.aload_n 0, 1) := by decide +kernel
theorem dX3_start_51 : decode cX3_start 51 = .ok (.lconst 0, 1) := by decide +kernel
theorem dX3_start_52 : decode cX3_start 52 = .ok (.putfield 38, 3) := by decide +kernel
theorem dX3_start_55 : decode cX3_start 55 = .ok (.aload_n 0, 1) := by decide +kernel
theorem dX3_start_56 : decode cX3_start 56 = .ok (.getfield 21, 3) := by decide +kernel
theorem dX3_start_59 : decode cX3_start 59 = .ok (.iconst 1, 1) := by decide +kernel
theorem dX3_start_60 : decode cX3_start 60 = .ok (.if_icmp .ne 25, 3) := by decide +kernel
theorem dX3_start_63 : decode cX3_start 63 = .ok (.aload_n 1, 1) := by decide +kernel
theorem dX3_start_64 : decode cX3_start 64 = .ok (.getfield 54, 3) := by decide +kernel
theorem dX3_start_67 : decode cX3_start 67 = .ok (.ifCond .ne 18, 3) := by decide +kernel
theorem dX3_start_70 : decode cX3_start 70 = .ok (.aload_n 0, 1) := by decide +kernel
theorem dX3_start_71 : decode cX3_start 71 = .ok (.iconst 0, 1) := by decide +kernel
theorem dX3_start_72 : decode cX3_start 72 = .ok (.aload_n 1, 1) := by decide +kernel
theorem dX3_start_73 : decode cX3_start 73 = .ok (.getfield 57, 3) := by decide +kernel
theorem dX3_start_76 : decode cX3_start 76 = .ok (.ldc2_w 52, 3) := by decide +kernel
theorem dX3_start_79 : decode cX3_start 79 = .ok (.invokevirtual 60, 3) := by decide +kernel
theorem dX3_start_82 : decode cX3_start 82 = .ok (.goto 51, 3) := by decide +kernel
theorem dX3_start_85 : decode cX3_start 85 = .ok (.aload_n 0, 1) := by decide +kernel
theorem dX3_start_86 : decode cX3_start 86 = .ok (.getfield 21, 3) := by decide +kernel
theorem dX3_start_89 : decode cX3_start 89 = .ok (.iconst 1, 1) := by decide +kernel
theorem dX3_start_90 : decode cX3_start 90 = .ok (.if_icmp .ne 25, 3) := by decide +kernel
theorem dX3_start_93 : decode cX3_start 93 = .ok (.aload_n 1, 1) := by decide +kernel
theorem dX3_start_94 : decode cX3_start 94 = .ok (.getfield 57, 3) := by decide +kernel
theorem dX3_start_97 : decode cX3_start 97 = .ok (.ifCond .ne 18, 3) := by decide +kernel
theorem dX3_start_100 : decode cX3_start 100 = .ok (.aload_n 0, 1) := by decide +kernel
theorem dX3_start_101 : decode cX3_start 101 = .ok (.iconst 1, 1) := by decide +kernel
theorem dX3_start_102 : decode cX3_start 102 = .ok (.aload_n 1, 1) := by decide +kernel
theorem dX3_start_103 : decode cX3_start 103 = .ok (.getfield 54, 3) := by decide +kernel
theorem dX3_start_106 : decode cX3_start 106 = .ok (.ldc2_w 52, 3) := by decide +kernel
theorem dX3_start_109 : decode cX3_start 109 = .ok (.invokevirtual 60, 3) := by decide +kernel
theorem dX3_start_112 : decode cX3_start 112 = .ok (.goto 21, 3) := by decide +kernel
theorem dX3_start_115 : decode cX3_start 115 = .ok (.aload_n 0, 1) := by decide +kernel
theorem dX3_start_116 : decode cX3_start 116 = .ok (.getfield 11, 3) := by decide +kernel
theorem dX3_start_119 : decode cX3_start 119 = .ok (.aload_n 1, 1) := by decide +kernel
theorem dX3_start_120 : decode cX3_start 120 = .ok (.getfield 54, 3) := by decide +kernel
theorem dX3_start_123 : decode cX3_start 123 = .ok (.aload_n 1, 1) := by decide +kernel
theorem dX3_start_124 : decode cX3_start 124 = .ok (.getfield 64, 3) := by decide +kernel
theorem dX3_start_127 : decode cX3_start 127 = .ok (.ldc2_w 52, 3) := by decide +kernel
theorem dX3_start_130 : decode cX3_start 130 = .ok (.invokestatic 67, 3) := by decide +kernel
theorem dX3_start_133 : decode cX3_start 133 = .ok (.return_, 1) := by decide +kernel
theorem dX3_advance_0 : decode cX3_advance 0 = .ok (.iconst 0, 1) := by decide +kernel
theorem dX3_advance_1 : decode cX3_advance 1 = .ok (.istore_n 2, 1) := by decide +kernel
theorem dX3_advance_2 : decode cX3_advance 2 = .ok (.iload_n 2, 1) := by decide +kernel
theorem dX3_advance_3 : decode cX3_advance 3 = .ok (.iload_n 1, 1) := by decide +kernel
theorem dX3_advance_4 : decode cX3_advance 4 = .ok (.if_icmp .ge 22, 3) := by decide +kernel
theorem dX3_advance_7 : decode cX3_advance 7 = .ok (.aload_n 0, 1) := by decide +kernel
theorem dX3_advance_8 : decode cX3_advance 8 = .ok (.getfield 34, 3) := by decide +kernel
theorem dX3_advance_11 : decode cX3_advance 11 = .ok (.lconst 0, 1) := by decide +kernel
theorem dX3_advance_12 : decode cX3_advance 12 = .ok (.lcmp, 1) := by decide +kernel
theorem dX3_advance_13 : decode cX3_advance 13 = .ok (.ifCond .le 13, 3) := by decide +kernel
theorem dX3_advance_16 : decode cX3_advance 16 = .ok (.aload_n 0, 1) := by decide +kernel
theorem dX3_advance_17 : decode cX3_advance 17 = .ok (.invokevirtual 71, 3) := by decide +kernel
theorem dX3_advance_20 : decode cX3_advance 20 = .ok (.iinc 2 1, 3) := by decide +kernel
theorem dX3_advance_23 : decode cX3_advance 23 = .ok (.goto (-21), 3) := by decide +kernel
theorem dX3_advance_26 : decode cX3_advance 26 = .ok (.return_, 1) := by decide +kernel
theorem dX3_reachesTillEnd_0 : decode cX3_reachesTillEnd 0 = .ok (.lconst 0, 1) := by decide +kernel
theorem dX3_reachesTillEnd_1 : decode cX3_reachesTillEnd 1 = .ok (.lstore_n 1, 1) := by decide +kernel
theorem dX3_reachesTillEnd_2 : decode cX3_reachesTillEnd 2 = .ok (.iconst 0, 1) := by decide +kernel
theorem dX3_reachesTillEnd_3 : decode cX3_reachesTillEnd 3 = .ok (.istore_n 3, 1) := by decide +kernel
theorem dX3_reachesTillEnd_4 : decode cX3_reachesTillEnd 4 = .ok (.iload_n 3, 1) := by decide +kernel
theorem dX3_reachesTillEnd_5 : decode cX3_reachesTillEnd 5 = .ok (.bipush 21, 2) := by decide +kernel
theorem dX3_reachesTillEnd_7 : decode cX3_reachesTillEnd 7 = .ok (.if_icmp .ge 29, 3) := by decide +kernel
theorem dX3_reachesTillEnd_10 : decode cX3_reachesTillEnd 10 = .ok (.aload_n 0, 1) := by decide +kernel
theorem dX3_reachesTillEnd_11 : decode cX3_reachesTillEnd 11 = .ok (.getfield 34, 3) := by decide +kernel
theorem dX3_reachesTillEnd_14 : decode cX3_reachesTillEnd 14 = .ok (.lconst 0, 1) := by decide +kernel
theorem dX3_reachesTillEnd_15 : decode cX3_reachesTillEnd 15 = .ok (.lcmp, 1) := by decide +kernel
theorem dX3_reachesTillEnd_16 : decode cX3_reachesTillEnd 16 = .ok (.ifCond .le 20, 3) := by decide +kernel
theorem dX3_reachesTillEnd_19 : decode cX3_reachesTillEnd 19 = .ok (.lload_n 1, 1) := by decide +kernel
theorem dX3_reachesTillEnd_20 : decode cX3_reachesTillEnd 20 = .ok (.aload_n 0, 1) := by decide +kernel
theorem dX3_reachesTillEnd_21 : decode cX3_reachesTillEnd 21 = .ok (.getfield 34, 3) := by decide +kernel
theorem dX3_reachesTillEnd_24 : decode cX3_reachesTillEnd 24 = .ok (.ladd, 1) := by decide +kernel
theorem dX3_reachesTillEnd_25 : decode cX3_reachesTillEnd 25 = .ok (.lstore_n 1, 1) := by decide +kernel
theorem dX3_reachesTillEnd_26 : decode cX3_reachesTillEnd 26 = .ok (.aload_n 0, 1) := by decide +kernel
theorem dX3_reachesTillEnd_27 : decode cX3_reachesTillEnd 27 = .ok (.invokevirtual 71, 3) := by decide +kernel
theorem dX3_reachesTillEnd_30 : decode cX3_reachesTillEnd 30 = .ok (.iinc 3 1, 3) := by decide +kernel
theorem dX3_reachesTillEnd_33 : decode cX3_reachesTillEnd 33 = .ok (.goto (-29), 3) := by decide +kernel
theorem dX3_reachesTillEnd_36 : decode cX3_reachesTillEnd 36 = .ok (.lload_n 1, 1) := by decide +kernel
theorem dX3_reachesTillEnd_37 : decode cX3_reachesTillEnd 37 = .ok (.lreturn, 1) := by decide +kernel
theorem dX3_keepOnly_0 : decode cX3_keepOnly 0 = .ok (.aload_n 0, 1) := by decide +kernel
theorem dX3_keepOnly_1 : decode cX3_keepOnly 1 = .ok (.lconst 0, 1) := by decide +kernel
theorem dX3_keepOnly_2 : decode cX3_keepOnly 2 = .ok (.putfield 34, 3) := by decide +kernel
theorem dX3_keepOnly_5 : decode cX3_keepOnly 5 = .ok (.iconst 0, 1) := by decide +kernel
theorem dX3_keepOnly_6 : decode cX3_keepOnly 6 = .ok (.istore_n 3, 1) := by decide +kernel
theorem dX3_keepOnly_7 : decode cX3_keepOnly 7 = .ok (.iload_n 3, 1) := by decide +kernel
theorem dX3_keepOnly_8 : decode cX3_keepOnly 8 = .ok (.bipush 10, 2) := by decide +kernel
theorem dX3_keepOnly_10 : decode cX3_keepOnly 10 = .ok (.if_icmp .gt 86, 3) := by decide +kernel
theorem dX3_keepOnly_13 : decode cX3_keepOnly 13 = .ok (.iload_n 3, 1) := by decide +kernel
theorem dX3_keepOnly_14 : decode cX3_keepOnly 14 = .ok (.iload_n 1, 1) := by decide +kernel
theorem dX3_keepOnly_15 : decode cX3_keepOnly 15 = .ok (.if_icmp .ne 17, 3) := by decide +kernel
theorem dX3_keepOnly_18 : decode cX3_keepOnly 18 = .ok (.aload_n 0, 1) := by decide +kernel
theorem dX3_keepOnly_19 : decode cX3_keepOnly 19 = .ok (.getfield 31, 3) := by decide +kernel
theorem dX3_keepOnly_22 : decode cX3_keepOnly 22 = .ok (.iload_n 3, 1) := by decide +kernel
theorem dX3_keepOnly_23 : decode cX3_keepOnly 23 = .ok (.isub, 1) := by decide +kernel
theorem dX3_keepOnly_24 : decode cX3_keepOnly 24 = .ok (.iload_n 2, 1) := by decide +kernel
theorem dX3_keepOnly_25 : decode cX3_keepOnly 25 = .ok (.if_icmp .ne 7, 3) := by decide +kernel
theorem dX3_keepOnly_28 : decode cX3_keepOnly 28 = .ok (.iconst 1, 1) := by decide +kernel
theorem dX3_keepOnly_29 : decode cX3_keepOnly 29 = .ok (.goto 4, 3) := by decide +kernel
theorem dX3_keepOnly_32 : decode cX3_keepOnly 32 = .ok (.iconst 0, 1) := by decide +kernel
theorem dX3_keepOnly_33 : decode cX3_keepOnly 33 = .ok (.istore 4, 2) := by decide +kernel
theorem dX3_keepOnly_35 : decode cX3_keepOnly 35 = .ok (.iconst 0, 1) := by decide +kernel
theorem dX3_keepOnly_36 : decode cX3_keepOnly 36 = .ok (.istore 5, 2) := by decide +kernel
theorem dX3_keepOnly_38 : decode cX3_keepOnly 38 = .ok (.iload 5, 2) := by decide +kernel
theorem dX3_keepOnly_40 : decode cX3_keepOnly 40 = .ok (.iconst 3, 1) := by decide +kernel
theorem dX3_keepOnly_41 : decode cX3_keepOnly 41 = .ok (.if_icmp .ge 49, 3) := by decide +kernel
theorem dX3_keepOnly_44 : decode cX3_keepOnly 44 = .ok (.iload_n 3, 1) := by decide +kernel
theorem dX3_keepOnly_45 : decode cX3_keepOnly 45 = .ok (.iconst 3, 1) := by decide +kernel
theorem dX3_keepOnly_46 : decode cX3_keepOnly 46 = .ok (.imul, 1) := by decide +kernel
theorem dX3_keepOnly_47 : decode cX3_keepOnly 47 = .ok (.iload 5, 2) := by decide +kernel
theorem dX3_keepOnly_49 : decode cX3_keepOnly 49 = .ok (.iadd, 1) := by decide +kernel
theorem dX3_keepOnly_50 : decode cX3_keepOnly 50 = .ok (.istore 6, 2) := by decide +kernel
theorem dX3_keepOnly_52 : decode cX3_keepOnly 52 = .ok (.iload 4, 2) := by decide +kernel
theorem dX3_keepOnly_54 : decode cX3_keepOnly 54 = .ok (.ifCond .eq 22, 3) := by decide +kernel
theorem dX3_keepOnly_57 : decode cX3_keepOnly 57 = .ok (.aload_n 0, 1) := by decide +kernel
theorem dX3_keepOnly_58 : decode cX3_keepOnly 58 = .ok (.dup, 1) := by decide +kernel
theorem dX3_keepOnly_59 : decode cX3_keepOnly 59 = .ok (.getfield 34, 3) := by decide +kernel
theorem dX3_keepOnly_62 : decode cX3_keepOnly 62 = .ok (.aload_n 0, 1) := by decide +kernel
theorem dX3_keepOnly_63 : decode cX3_keepOnly 63 = .ok (.getfield 11, 3) := by decide +kernel
theorem dX3_keepOnly_66 : decode cX3_keepOnly 66 = .ok (.iload 6, 2) := by decide +kernel
theorem dX3_keepOnly_68 : decode cX3_keepOnly 68 = .ok (.laload, 1) := by decide +kernel
theorem dX3_keepOnly_69 : decode cX3_keepOnly 69 = .ok (.ladd, 1) := by decide +kernel
theorem dX3_keepOnly_70 : decode cX3_keepOnly 70 = .ok (.putfield 34, 3) := by decide +kernel
theorem dX3_keepOnly_73 : decode cX3_keepOnly 73 = .ok (.goto 11, 3) := by decide +kernel
theorem dX3_keepOnly_76 : decode cX3_keepOnly 76 = .ok (.aload_n 0, 1) := by decide +kernel
theorem dX3_keepOnly_77 : decode cX3_keepOnly 77 = .ok (.getfield 11, 3) := by decide +kernel
theorem dX3_keepOnly_80 : decode cX3_keepOnly 80 = .ok (.iload 6, 2) := by decide +kernel
theorem dX3_keepOnly_82 : decode cX3_keepOnly 82 = .ok (.lconst 0, 1) := by decide +kernel
theorem dX3_keepOnly_83 : decode cX3_keepOnly 83 = .ok (.lastore, 1) := by decide +kernel
theorem dX3_keepOnly_84 : decode cX3_keepOnly 84 = .ok (.iinc 5 1, 3) := by decide +kernel
theorem dX3_keepOnly_87 : decode cX3_keepOnly 87 = .ok (.goto (-49), 3) := by decide +kernel
theorem dX3_keepOnly_90 : decode cX3_keepOnly 90 = .ok (.iinc 3 1, 3) := by decide +kernel
theorem dX3_keepOnly_93 : decode cX3_keepOnly 93 = .ok (.goto (-86), 3) := by decide +kernel
theorem dX3_keepOnly_96 : decode cX3_keepOnly 96 = .ok (.return_, 1) := by decide +kernel
theorem dX3_standing_0 : decode cX3_standing 0 = .ok (.aload_n 0, 1) := by decide +kernel
theorem dX3_standing_1 : decode cX3_standing 1 = .ok (.getfield 34, 3) := by decide +kernel
theorem dX3_standing_4 : decode cX3_standing 4 = .ok (.lreturn, 1) := by decide +kernel
theorem dX3_chanceOfOther_0 : decode cX3_chanceOfOther 0 = .ok (.iload_n 1, 1) := by decide +kernel
theorem dX3_chanceOfOther_1 : decode cX3_chanceOfOther 1 = .ok (.iconst 0, 1) := by decide +kernel
theorem dX3_chanceOfOther_2 : decode cX3_chanceOfOther 2 = .ok (.bipush 10, 2) := by decide +kernel
theorem dX3_chanceOfOther_4 : decode cX3_chanceOfOther 4 = .ok (.invokestatic 74, 3) := by decide +kernel
theorem dX3_chanceOfOther_7 : decode cX3_chanceOfOther 7 = .ok (.ifCond .eq 12, 3) := by decide +kernel
theorem dX3_chanceOfOther_10 : decode cX3_chanceOfOther 10 = .ok (.aload_n 0, 1) := by decide +kernel
theorem dX3_chanceOfOther_11 : decode cX3_chanceOfOther 11 = .ok (.getfield 18, 3) := by decide +kernel
theorem dX3_chanceOfOther_14 : decode cX3_chanceOfOther 14 = .ok (.iload_n 1, 1) := by decide +kernel
theorem dX3_chanceOfOther_15 : decode cX3_chanceOfOther 15 = .ok (.laload, 1) := by decide +kernel
theorem dX3_chanceOfOther_16 : decode cX3_chanceOfOther 16 = .ok (.goto 4, 3) := by decide +kernel
theorem dX3_chanceOfOther_19 : decode cX3_chanceOfOther 19 = .ok (.lconst 0, 1) := by decide +kernel
theorem dX3_chanceOfOther_20 : decode cX3_chanceOfOther 20 = .ok (.lreturn, 1) := by decide +kernel
theorem dX3_chanceOfLeftFirst_0 : decode cX3_chanceOfLeftFirst 0 = .ok (.aload_n 0, 1) := by decide +kernel
theorem dX3_chanceOfLeftFirst_1 : decode cX3_chanceOfLeftFirst 1 = .ok (.getfield 38, 3) := by decide +kernel
theorem dX3_chanceOfLeftFirst_4 : decode cX3_chanceOfLeftFirst 4 = .ok (.lreturn, 1) := by decide +kernel
theorem dX3_chanceOfLevel_0 : decode cX3_chanceOfLevel 0 = .ok (.aload_n 0, 1) := by decide +kernel
theorem dX3_chanceOfLevel_1 : decode cX3_chanceOfLevel 1 = .ok (.getfield 31, 3) := by decide +kernel
theorem dX3_chanceOfLevel_4 : decode cX3_chanceOfLevel 4 = .ok (.iconst 2, 1) := by decide +kernel
theorem dX3_chanceOfLevel_5 : decode cX3_chanceOfLevel 5 = .ok (.idiv, 1) := by decide +kernel
theorem dX3_chanceOfLevel_6 : decode cX3_chanceOfLevel 6 = .ok (.istore_n 1, 1) := by decide +kernel
theorem dX3_chanceOfLevel_7 : decode cX3_chanceOfLevel 7 = .ok (.iload_n 1, 1) := by decide +kernel
theorem dX3_chanceOfLevel_8 : decode cX3_chanceOfLevel 8 = .ok (.iload_n 1, 1) := by decide +kernel
theorem dX3_chanceOfLevel_9 : decode cX3_chanceOfLevel 9 = .ok (.iadd, 1) := by decide +kernel
theorem dX3_chanceOfLevel_10 : decode cX3_chanceOfLevel 10 = .ok (.aload_n 0, 1) := by decide +kernel
theorem dX3_chanceOfLevel_11 : decode cX3_chanceOfLevel 11 = .ok (.getfield 31, 3) := by decide +kernel
theorem dX3_chanceOfLevel_14 : decode cX3_chanceOfLevel 14 = .ok (.if_icmp .ne 13, 3) := by decide +kernel
theorem dX3_chanceOfLevel_17 : decode cX3_chanceOfLevel 17 = .ok (.iload_n 1, 1) := by decide +kernel
theorem dX3_chanceOfLevel_18 : decode cX3_chanceOfLevel 18 = .ok (.iconst 0, 1) := by decide +kernel
theorem dX3_chanceOfLevel_19 : decode cX3_chanceOfLevel 19 = .ok (.bipush 10, 2) := by decide +kernel
theorem dX3_chanceOfLevel_21 : decode cX3_chanceOfLevel 21 = .ok (.invokestatic 74, 3) := by decide +kernel
theorem dX3_chanceOfLevel_24 : decode cX3_chanceOfLevel 24 = .ok (.ifCond .ne 5, 3) := by decide +kernel
theorem dX3_chanceOfLevel_27 : decode cX3_chanceOfLevel 27 = .ok (.lconst 0, 1) := by decide +kernel
theorem dX3_chanceOfLevel_28 : decode cX3_chanceOfLevel 28 = .ok (.lreturn, 1) := by decide +kernel
theorem dX3_chanceOfLevel_29 : decode cX3_chanceOfLevel 29 = .ok (.lconst 0, 1) := by decide +kernel
theorem dX3_chanceOfLevel_30 : decode cX3_chanceOfLevel 30 = .ok (.lstore_n 2, 1) := by decide +kernel
theorem dX3_chanceOfLevel_31 : decode cX3_chanceOfLevel 31 = .ok (.iconst 0, 1) := by decide +kernel
theorem dX3_chanceOfLevel_32 : decode cX3_chanceOfLevel 32 = .ok (.istore 4, 2) := by decide +kernel
theorem dX3_chanceOfLevel_34 : decode cX3_chanceOfLevel 34 = .ok (.iload 4, 2) := by decide +kernel
theorem dX3_chanceOfLevel_36 : decode cX3_chanceOfLevel 36 = .ok (.iconst 3, 1) := by decide +kernel
theorem dX3_chanceOfLevel_37 : decode cX3_chanceOfLevel 37 = .ok (.if_icmp .ge 23, 3) := by decide +kernel
theorem dX3_chanceOfLevel_40 : decode cX3_chanceOfLevel 40 = .ok (.lload_n 2, 1) := by decide +kernel
theorem dX3_chanceOfLevel_41 : decode cX3_chanceOfLevel 41 = .ok (.aload_n 0, 1) := by decide +kernel
theorem dX3_chanceOfLevel_42 : decode cX3_chanceOfLevel 42 = .ok (.getfield 11, 3) := by decide +kernel
theorem dX3_chanceOfLevel_45 : decode cX3_chanceOfLevel 45 = .ok (.iload_n 1, 1) := by decide +kernel
theorem dX3_chanceOfLevel_46 : decode cX3_chanceOfLevel 46 = .ok (.iconst 3, 1) := by decide +kernel
theorem dX3_chanceOfLevel_47 : decode cX3_chanceOfLevel 47 = .ok (.imul, 1) := by decide +kernel
theorem dX3_chanceOfLevel_48 : decode cX3_chanceOfLevel 48 = .ok (.iload 4, 2) := by decide +kernel
theorem dX3_chanceOfLevel_50 : decode cX3_chanceOfLevel 50 = .ok (.iadd, 1) := by decide +kernel
theorem dX3_chanceOfLevel_51 : decode cX3_chanceOfLevel 51 = .ok (.laload, 1) := by decide +kernel
theorem dX3_chanceOfLevel_52 : decode cX3_chanceOfLevel 52 = .ok (.ladd, 1) := by decide +kernel
theorem dX3_chanceOfLevel_53 : decode cX3_chanceOfLevel 53 = .ok (.lstore_n 2, 1) := by decide +kernel
theorem dX3_chanceOfLevel_54 : decode cX3_chanceOfLevel 54 = .ok (.iinc 4 1, 3) := by decide +kernel
theorem dX3_chanceOfLevel_57 : decode cX3_chanceOfLevel 57 = .ok (.goto (-23), 3) := by decide +kernel
theorem dX3_chanceOfLevel_60 : decode cX3_chanceOfLevel 60 = .ok (.lload_n 2, 1) := by decide +kernel
theorem dX3_chanceOfLevel_61 : decode cX3_chanceOfLevel 61 = .ok (.lreturn, 1) := by decide +kernel
theorem dX3_advanceOnce_0 : decode cX3_advanceOnce 0 = .ok (.aload_n 0, 1) := by decide +kernel
theorem dX3_advanceOnce_1 : decode cX3_advanceOnce 1 = .ok (.getfield 15, 3) := by decide +kernel
theorem dX3_advanceOnce_4 : decode cX3_advanceOnce 4 = .ok (.invokestatic 41, 3) := by decide +kernel
theorem dX3_advanceOnce_7 : decode cX3_advanceOnce 7 = .ok (.iconst 0, 1) := by decide +kernel
theorem dX3_advanceOnce_8 : decode cX3_advanceOnce 8 = .ok (.istore_n 1, 1) := by decide +kernel
theorem dX3_advanceOnce_9 : decode cX3_advanceOnce 9 = .ok (.iload_n 1, 1) := by decide +kernel
theorem dX3_advanceOnce_10 : decode cX3_advanceOnce 10 = .ok (.bipush 10, 2) := by decide +kernel
theorem dX3_advanceOnce_12 : decode cX3_advanceOnce 12 = .ok (.if_icmp .gt 101, 3) := by decide +kernel
theorem dX3_advanceOnce_15 : decode cX3_advanceOnce 15 = .ok (.iconst 0, 1) := by decide +kernel
theorem dX3_advanceOnce_16 : decode cX3_advanceOnce 16 = .ok (.istore_n 2, 1) := by decide +kernel
theorem dX3_advanceOnce_17 : decode cX3_advanceOnce 17 = .ok (.iload_n 2, 1) := by decide +kernel
theorem dX3_advanceOnce_18 : decode cX3_advanceOnce 18 = .ok (.iconst 3, 1) := by decide +kernel
theorem dX3_advanceOnce_19 : decode cX3_advanceOnce 19 = .ok (.if_icmp .ge 88, 3) := by decide +kernel
theorem dX3_advanceOnce_22 : decode cX3_advanceOnce 22 = .ok (.aload_n 0, 1) := by decide +kernel
theorem dX3_advanceOnce_23 : decode cX3_advanceOnce 23 = .ok (.getfield 11, 3) := by decide +kernel
theorem dX3_advanceOnce_26 : decode cX3_advanceOnce 26 = .ok (.iload_n 1, 1) := by decide +kernel
theorem dX3_advanceOnce_27 : decode cX3_advanceOnce 27 = .ok (.iconst 3, 1) := by decide +kernel
theorem dX3_advanceOnce_28 : decode cX3_advanceOnce 28 = .ok (.imul, 1) := by decide +kernel
theorem dX3_advanceOnce_29 : decode cX3_advanceOnce 29 = .ok (.iload_n 2, 1) := by decide +kernel
theorem dX3_advanceOnce_30 : decode cX3_advanceOnce 30 = .ok (.iadd, 1) := by decide +kernel
theorem dX3_advanceOnce_31 : decode cX3_advanceOnce 31 = .ok (.laload, 1) := by decide +kernel
theorem dX3_advanceOnce_32 : decode cX3_advanceOnce 32 = .ok (.lstore_n 3, 1) := by decide +kernel
theorem dX3_advanceOnce_33 : decode cX3_advanceOnce 33 = .ok (.lload_n 3, 1) := by decide +kernel
theorem dX3_advanceOnce_34 : decode cX3_advanceOnce 34 = .ok (.lconst 0, 1) := by decide +kernel
theorem dX3_advanceOnce_35 : decode cX3_advanceOnce 35 = .ok (.lcmp, 1) := by decide +kernel
theorem dX3_advanceOnce_36 : decode cX3_advanceOnce 36 = .ok (.ifCond .le 65, 3) := by decide +kernel
theorem dX3_advanceOnce_39 : decode cX3_advanceOnce 39 = .ok (.aload_n 0, 1) := by decide +kernel
theorem dX3_advanceOnce_40 : decode cX3_advanceOnce 40 = .ok (.getfield 31, 3) := by decide +kernel
theorem dX3_advanceOnce_43 : decode cX3_advanceOnce 43 = .ok (.iload_n 1, 1) := by decide +kernel
theorem dX3_advanceOnce_44 : decode cX3_advanceOnce 44 = .ok (.isub, 1) := by decide +kernel
theorem dX3_advanceOnce_45 : decode cX3_advanceOnce 45 = .ok (.istore 5, 2) := by decide +kernel
theorem dX3_advanceOnce_47 : decode cX3_advanceOnce 47 = .ok (.aload_n 0, 1) := by decide +kernel
theorem dX3_advanceOnce_48 : decode cX3_advanceOnce 48 = .ok (.getfield 25, 3) := by decide +kernel
theorem dX3_advanceOnce_51 : decode cX3_advanceOnce 51 = .ok (.aload_n 0, 1) := by decide +kernel
theorem dX3_advanceOnce_52 : decode cX3_advanceOnce 52 = .ok (.getfield 28, 3) := by decide +kernel
theorem dX3_advanceOnce_55 : decode cX3_advanceOnce 55 = .ok (.iload_n 1, 1) := by decide +kernel
theorem dX3_advanceOnce_56 : decode cX3_advanceOnce 56 = .ok (.iload 5, 2) := by decide +kernel
theorem dX3_advanceOnce_58 : decode cX3_advanceOnce 58 = .ok (.iload_n 2, 1) := by decide +kernel
theorem dX3_advanceOnce_59 : decode cX3_advanceOnce 59 = .ok (.invokestatic 78, 3) := by decide +kernel
theorem dX3_advanceOnce_62 : decode cX3_advanceOnce 62 = .ok (.istore 6, 2) := by decide +kernel
theorem dX3_advanceOnce_64 : decode cX3_advanceOnce 64 = .ok (.lload_n 3, 1) := by decide +kernel
theorem dX3_advanceOnce_65 : decode cX3_advanceOnce 65 = .ok (.ldc2_w 82, 3) := by decide +kernel
theorem dX3_advanceOnce_68 : decode cX3_advanceOnce 68 = .ok (.ldiv, 1) := by decide +kernel
theorem dX3_advanceOnce_69 : decode cX3_advanceOnce 69 = .ok (.lstore 7, 2) := by decide +kernel
theorem dX3_advanceOnce_71 : decode cX3_advanceOnce 71 = .ok (.aload_n 0, 1) := by decide +kernel
theorem dX3_advanceOnce_72 : decode cX3_advanceOnce 72 = .ok (.iconst 0, 1) := by decide +kernel
theorem dX3_advanceOnce_73 : decode cX3_advanceOnce 73 = .ok (.iload_n 1, 1) := by decide +kernel
theorem dX3_advanceOnce_74 : decode cX3_advanceOnce 74 = .ok (.iload 5, 2) := by decide +kernel
theorem dX3_advanceOnce_76 : decode cX3_advanceOnce 76 = .ok (.lload 7, 2) := by decide +kernel
theorem dX3_advanceOnce_78 : decode cX3_advanceOnce 78 = .ok (.iload 6, 2) := by decide +kernel
theorem dX3_advanceOnce_80 : decode cX3_advanceOnce 80 = .ok (.i2l, 1) := by decide +kernel
theorem dX3_advanceOnce_81 : decode cX3_advanceOnce 81 = .ok (.lmul, 1) := by decide +kernel
theorem dX3_advanceOnce_82 : decode cX3_advanceOnce 82 = .ok (.invokevirtual 84, 3) := by decide +kernel
theorem dX3_advanceOnce_85 : decode cX3_advanceOnce 85 = .ok (.aload_n 0, 1) := by decide +kernel
theorem dX3_advanceOnce_86 : decode cX3_advanceOnce 86 = .ok (.iconst 1, 1) := by decide +kernel
theorem dX3_advanceOnce_87 : decode cX3_advanceOnce 87 = .ok (.iload 5, 2) := by decide +kernel
theorem dX3_advanceOnce_89 : decode cX3_advanceOnce 89 = .ok (.iload_n 1, 1) := by decide +kernel
theorem dX3_advanceOnce_90 : decode cX3_advanceOnce 90 = .ok (.lload 7, 2) := by decide +kernel
theorem dX3_advanceOnce_92 : decode cX3_advanceOnce 92 = .ok (.iconst 4, 1) := by decide +kernel
theorem dX3_advanceOnce_93 : decode cX3_advanceOnce 93 = .ok (.iload 6, 2) := by decide +kernel
theorem dX3_advanceOnce_95 : decode cX3_advanceOnce 95 = .ok (.isub, 1) := by decide +kernel
theorem dX3_advanceOnce_96 : decode cX3_advanceOnce 96 = .ok (.i2l, 1) := by decide +kernel
theorem dX3_advanceOnce_97 : decode cX3_advanceOnce 97 = .ok (.lmul, 1) := by decide +kernel
theorem dX3_advanceOnce_98 : decode cX3_advanceOnce 98 = .ok (.invokevirtual 84, 3) := by decide +kernel
theorem dX3_advanceOnce_101 : decode cX3_advanceOnce 101 = .ok (.iinc 2 1, 3) := by decide +kernel
theorem dX3_advanceOnce_104 : decode cX3_advanceOnce 104 = .ok (.goto (-87), 3) := by decide +kernel
theorem dX3_advanceOnce_107 : decode cX3_advanceOnce 107 = .ok (.iinc 1 1, 3) := by decide +kernel
theorem dX3_advanceOnce_110 : decode cX3_advanceOnce 110 = .ok (.goto (-101), 3) := by decide +kernel
theorem dX3_advanceOnce_113 : decode cX3_advanceOnce 113 = .ok (.aload_n 0, 1) := by decide +kernel
theorem dX3_advanceOnce_114 : decode cX3_advanceOnce 114 = .ok (.dup, 1) := by decide +kernel
theorem dX3_advanceOnce_115 : decode cX3_advanceOnce 115 = .ok (.getfield 31, 3) := by decide +kernel
theorem dX3_advanceOnce_118 : decode cX3_advanceOnce 118 = .ok (.iconst 1, 1) := by decide +kernel
theorem dX3_advanceOnce_119 : decode cX3_advanceOnce 119 = .ok (.isub, 1) := by decide +kernel
theorem dX3_advanceOnce_120 : decode cX3_advanceOnce 120 = .ok (.putfield 31, 3) := by decide +kernel
theorem dX3_advanceOnce_123 : decode cX3_advanceOnce 123 = .ok (.aload_n 0, 1) := by decide +kernel
theorem dX3_advanceOnce_124 : decode cX3_advanceOnce 124 = .ok (.getfield 11, 3) := by decide +kernel
theorem dX3_advanceOnce_127 : decode cX3_advanceOnce 127 = .ok (.astore_n 1, 1) := by decide +kernel
theorem dX3_advanceOnce_128 : decode cX3_advanceOnce 128 = .ok (.aload_n 0, 1) := by decide +kernel
theorem dX3_advanceOnce_129 : decode cX3_advanceOnce 129 = .ok (.aload_n 0, 1) := by decide +kernel
theorem dX3_advanceOnce_130 : decode cX3_advanceOnce 130 = .ok (.getfield 15, 3) := by decide +kernel
theorem dX3_advanceOnce_133 : decode cX3_advanceOnce 133 = .ok (.putfield 11, 3) := by decide +kernel
theorem dX3_advanceOnce_136 : decode cX3_advanceOnce 136 = .ok (.aload_n 0, 1) := by decide +kernel
theorem dX3_advanceOnce_137 : decode cX3_advanceOnce 137 = .ok (.aload_n 1, 1) := by decide +kernel
theorem dX3_advanceOnce_138 : decode cX3_advanceOnce 138 = .ok (.putfield 15, 3) := by decide +kernel
theorem dX3_advanceOnce_141 : decode cX3_advanceOnce 141 = .ok (.return_, 1) := by decide +kernel
theorem dX3_follow_0 : decode cX3_follow 0 = .ok (.aload_n 0, 1) := by decide +kernel
theorem dX3_follow_1 : decode cX3_follow 1 = .ok (.getfield 21, 3) := by decide +kernel
theorem dX3_follow_4 : decode cX3_follow 4 = .ok (.iconst 1, 1) := by decide +kernel
theorem dX3_follow_5 : decode cX3_follow 5 = .ok (.if_icmp .ne 7, 3) := by decide +kernel
theorem dX3_follow_8 : decode cX3_follow 8 = .ok (.iconst 1, 1) := by decide +kernel
theorem dX3_follow_9 : decode cX3_follow 9 = .ok (.goto 4, 3) := by decide +kernel
theorem dX3_follow_12 : decode cX3_follow 12 = .ok (.iconst 0, 1) := by decide +kernel
theorem dX3_follow_13 : decode cX3_follow 13 = .ok (.istore 6, 2) := by decide +kernel
theorem dX3_follow_15 : decode cX3_follow 15 = .ok (.iload_n 2, 1) := by decide +kernel
theorem dX3_follow_16 : decode cX3_follow 16 = .ok (.iload 6, 2) := by decide +kernel
theorem dX3_follow_18 : decode cX3_follow 18 = .ok (.if_icmp .gt 14, 3) := by decide +kernel
theorem dX3_follow_21 : decode cX3_follow 21 = .ok (.aload_n 0, 1) := by decide +kernel
theorem dX3_follow_22 : decode cX3_follow 22 = .ok (.iload_n 1, 1) := by decide +kernel
theorem dX3_follow_23 : decode cX3_follow 23 = .ok (.iload_n 3, 1) := by decide +kernel
theorem dX3_follow_24 : decode cX3_follow 24 = .ok (.lload 4, 2) := by decide +kernel
theorem dX3_follow_26 : decode cX3_follow 26 = .ok (.invokevirtual 60, 3) := by decide +kernel
theorem dX3_follow_29 : decode cX3_follow 29 = .ok (.goto 24, 3) := by decide +kernel
theorem dX3_follow_32 : decode cX3_follow 32 = .ok (.aload_n 0, 1) := by decide +kernel
theorem dX3_follow_33 : decode cX3_follow 33 = .ok (.getfield 15, 3) := by decide +kernel
theorem dX3_follow_36 : decode cX3_follow 36 = .ok (.iload_n 1, 1) := by decide +kernel
theorem dX3_follow_37 : decode cX3_follow 37 = .ok (.ifCond .ne 9, 3) := by decide +kernel
theorem dX3_follow_40 : decode cX3_follow 40 = .ok (.iload_n 2, 1) := by decide +kernel
theorem dX3_follow_41 : decode cX3_follow 41 = .ok (.iconst 1, 1) := by decide +kernel
theorem dX3_follow_42 : decode cX3_follow 42 = .ok (.isub, 1) := by decide +kernel
theorem dX3_follow_43 : decode cX3_follow 43 = .ok (.goto 4, 3) := by decide +kernel
theorem dX3_follow_46 : decode cX3_follow 46 = .ok (.iload_n 3, 1) := by decide +kernel
theorem dX3_follow_47 : decode cX3_follow 47 = .ok (.iload_n 1, 1) := by decide +kernel
theorem dX3_follow_48 : decode cX3_follow 48 = .ok (.lload 4, 2) := by decide +kernel
theorem dX3_follow_50 : decode cX3_follow 50 = .ok (.invokestatic 67, 3) := by decide +kernel
theorem dX3_follow_53 : decode cX3_follow 53 = .ok (.return_, 1) := by decide +kernel
theorem dX3_endBy_0 : decode cX3_endBy 0 = .ok (.aload_n 0, 1) := by decide +kernel
theorem dX3_endBy_1 : decode cX3_endBy 1 = .ok (.dup, 1) := by decide +kernel
theorem dX3_endBy_2 : decode cX3_endBy 2 = .ok (.getfield 34, 3) := by decide +kernel
theorem dX3_endBy_5 : decode cX3_endBy 5 = .ok (.lload_n 3, 1) := by decide +kernel
theorem dX3_endBy_6 : decode cX3_endBy 6 = .ok (.lsub, 1) := by decide +kernel
theorem dX3_endBy_7 : decode cX3_endBy 7 = .ok (.putfield 34, 3) := by decide +kernel
theorem dX3_endBy_10 : decode cX3_endBy 10 = .ok (.iload_n 1, 1) := by decide +kernel
theorem dX3_endBy_11 : decode cX3_endBy 11 = .ok (.ifCond .ne 13, 3) := by decide +kernel
theorem dX3_endBy_14 : decode cX3_endBy 14 = .ok (.aload_n 0, 1) := by decide +kernel
theorem dX3_endBy_15 : decode cX3_endBy 15 = .ok (.dup, 1) := by decide +kernel
theorem dX3_endBy_16 : decode cX3_endBy 16 = .ok (.getfield 38, 3) := by decide +kernel
theorem dX3_endBy_19 : decode cX3_endBy 19 = .ok (.lload_n 3, 1) := by decide +kernel
theorem dX3_endBy_20 : decode cX3_endBy 20 = .ok (.ladd, 1) := by decide +kernel
theorem dX3_endBy_21 : decode cX3_endBy 21 = .ok (.putfield 38, 3) := by decide +kernel
theorem dX3_endBy_24 : decode cX3_endBy 24 = .ok (.iload_n 2, 1) := by decide +kernel
theorem dX3_endBy_25 : decode cX3_endBy 25 = .ok (.ifCond .lt 22, 3) := by decide +kernel
theorem dX3_endBy_28 : decode cX3_endBy 28 = .ok (.iload_n 2, 1) := by decide +kernel
theorem dX3_endBy_29 : decode cX3_endBy 29 = .ok (.aload_n 0, 1) := by decide +kernel
theorem dX3_endBy_30 : decode cX3_endBy 30 = .ok (.getfield 18, 3) := by decide +kernel
theorem dX3_endBy_33 : decode cX3_endBy 33 = .ok (.arraylength, 1) := by decide +kernel
theorem dX3_endBy_34 : decode cX3_endBy 34 = .ok (.if_icmp .ge 13, 3) := by decide +kernel
theorem dX3_endBy_37 : decode cX3_endBy 37 = .ok (.aload_n 0, 1) := by decide +kernel
theorem dX3_endBy_38 : decode cX3_endBy 38 = .ok (.getfield 18, 3) := by decide +kernel
theorem dX3_endBy_41 : decode cX3_endBy 41 = .ok (.iload_n 2, 1) := by decide +kernel
theorem dX3_endBy_42 : decode cX3_endBy 42 = .ok (.dup2, 1) := by decide +kernel
theorem dX3_endBy_43 : decode cX3_endBy 43 = .ok (.laload, 1) := by decide +kernel
theorem dX3_endBy_44 : decode cX3_endBy 44 = .ok (.lload_n 3, 1) := by decide +kernel
theorem dX3_endBy_45 : decode cX3_endBy 45 = .ok (.ladd, 1) := by decide +kernel
theorem dX3_endBy_46 : decode cX3_endBy 46 = .ok (.lastore, 1) := by decide +kernel
theorem dX3_endBy_47 : decode cX3_endBy 47 = .ok (.return_, 1) := by decide +kernel
theorem dX3_addTo_0 : decode cX3_addTo 0 = .ok (.iload_n 1, 1) := by decide +kernel
theorem dX3_addTo_1 : decode cX3_addTo 1 = .ok (.iconst 3, 1) := by decide +kernel
theorem dX3_addTo_2 : decode cX3_addTo 2 = .ok (.imul, 1) := by decide +kernel
theorem dX3_addTo_3 : decode cX3_addTo 3 = .ok (.iload_n 2, 1) := by decide +kernel
theorem dX3_addTo_4 : decode cX3_addTo 4 = .ok (.iadd, 1) := by decide +kernel
theorem dX3_addTo_5 : decode cX3_addTo 5 = .ok (.istore 5, 2) := by decide +kernel
theorem dX3_addTo_7 : decode cX3_addTo 7 = .ok (.iload 5, 2) := by decide +kernel
theorem dX3_addTo_9 : decode cX3_addTo 9 = .ok (.ifCond .lt 18, 3) := by decide +kernel
theorem dX3_addTo_12 : decode cX3_addTo 12 = .ok (.iload 5, 2) := by decide +kernel
theorem dX3_addTo_14 : decode cX3_addTo 14 = .ok (.aload_n 0, 1) := by decide +kernel
theorem dX3_addTo_15 : decode cX3_addTo 15 = .ok (.arraylength, 1) := by decide +kernel
theorem dX3_addTo_16 : decode cX3_addTo 16 = .ok (.if_icmp .ge 11, 3) := by decide +kernel
theorem dX3_addTo_19 : decode cX3_addTo 19 = .ok (.aload_n 0, 1) := by decide +kernel
theorem dX3_addTo_20 : decode cX3_addTo 20 = .ok (.iload 5, 2) := by decide +kernel
theorem dX3_addTo_22 : decode cX3_addTo 22 = .ok (.dup2, 1) := by decide +kernel
theorem dX3_addTo_23 : decode cX3_addTo 23 = .ok (.laload, 1) := by decide +kernel
theorem dX3_addTo_24 : decode cX3_addTo 24 = .ok (.lload_n 3, 1) := by decide +kernel
theorem dX3_addTo_25 : decode cX3_addTo 25 = .ok (.ladd, 1) := by decide +kernel
theorem dX3_addTo_26 : decode cX3_addTo 26 = .ok (.lastore, 1) := by decide +kernel
theorem dX3_addTo_27 : decode cX3_addTo 27 = .ok (.return_, 1) := by decide +kernel
theorem dX3_wipeRow_0 : decode cX3_wipeRow 0 = .ok (.iconst 0, 1) := by decide +kernel
theorem dX3_wipeRow_1 : decode cX3_wipeRow 1 = .ok (.istore_n 1, 1) := by decide +kernel
theorem dX3_wipeRow_2 : decode cX3_wipeRow 2 = .ok (.iload_n 1, 1) := by decide +kernel
theorem dX3_wipeRow_3 : decode cX3_wipeRow 3 = .ok (.aload_n 0, 1) := by decide +kernel
theorem dX3_wipeRow_4 : decode cX3_wipeRow 4 = .ok (.arraylength, 1) := by decide +kernel
theorem dX3_wipeRow_5 : decode cX3_wipeRow 5 = .ok (.if_icmp .ge 13, 3) := by decide +kernel
theorem dX3_wipeRow_8 : decode cX3_wipeRow 8 = .ok (.aload_n 0, 1) := by decide +kernel
theorem dX3_wipeRow_9 : decode cX3_wipeRow 9 = .ok (.iload_n 1, 1) := by decide +kernel
theorem dX3_wipeRow_10 : decode cX3_wipeRow 10 = .ok (.lconst 0, 1) := by decide +kernel
theorem dX3_wipeRow_11 : decode cX3_wipeRow 11 = .ok (.lastore, 1) := by decide +kernel
theorem dX3_wipeRow_12 : decode cX3_wipeRow 12 = .ok (.iinc 1 1, 3) := by decide +kernel
theorem dX3_wipeRow_15 : decode cX3_wipeRow 15 = .ok (.goto (-13), 3) := by decide +kernel
theorem dX3_wipeRow_18 : decode cX3_wipeRow 18 = .ok (.return_, 1) := by decide +kernel
theorem dX4_init_0 : decode cX4_init 0 = .ok (.aload_n 0, 1) := by decide +kernel
theorem dX4_init_1 : decode cX4_init 1 = .ok (.invokespecial 1, 3) := by decide +kernel
theorem dX4_init_4 : decode cX4_init 4 = .ok (.aload_n 0, 1) := by decide +kernel
theorem dX4_init_5 : decode cX4_init 5 = .ok (.new 7, 3) := by decide +kernel
theorem dX4_init_8 : decode cX4_init 8 = .ok (.dup, 1) := by decide +kernel
theorem dX4_init_9 : decode cX4_init 9 = .ok (.invokespecial 9, 3) := by decide +kernel
theorem dX4_init_12 : decode cX4_init 12 = .ok (.putfield 10, 3) := by decide +kernel
theorem dX4_init_15 : decode cX4_init 15 = .ok (.aload_n 0, 1) := by decide +kernel
theorem dX4_init_16 : decode cX4_init 16 = .ok (.new 16, 3) := by decide +kernel
theorem dX4_init_19 : decode cX4_init 19 = .ok (.dup, 1) := by decide +kernel
theorem dX4_init_20 : decode cX4_init 20 = .ok (.invokespecial 18, 3) := by decide +kernel
theorem dX4_init_23 : decode cX4_init 23 = .ok (.putfield 19, 3) := by decide +kernel
theorem dX4_init_26 : decode cX4_init 26 = .ok (.aload_n 0, 1) := by decide +kernel
theorem dX4_init_27 : decode cX4_init 27 = .ok (.new 16, 3) := by decide +kernel
theorem dX4_init_30 : decode cX4_init 30 = .ok (.dup, 1) := by decide +kernel
theorem dX4_init_31 : decode cX4_init 31 = .ok (.invokespecial 18, 3) := by decide +kernel
theorem dX4_init_34 : decode cX4_init 34 = .ok (.putfield 23, 3) := by decide +kernel
theorem dX4_init_37 : decode cX4_init 37 = .ok (.aload_n 0, 1) := by decide +kernel
theorem dX4_init_38 : decode cX4_init 38 = .ok (.new 26, 3) := by decide +kernel
theorem dX4_init_41 : decode cX4_init 41 = .ok (.dup, 1) := by decide +kernel
theorem dX4_init_42 : decode cX4_init 42 = .ok (.bipush 8, 2) := by decide +kernel
theorem dX4_init_44 : decode cX4_init 44 = .ok (.invokespecial 28, 3) := by decide +kernel
theorem dX4_init_47 : decode cX4_init 47 = .ok (.putfield 31, 3) := by decide +kernel
theorem dX4_init_50 : decode cX4_init 50 = .ok (.aload_n 0, 1) := by decide +kernel
theorem dX4_init_51 : decode cX4_init 51 = .ok (.new 26, 3) := by decide +kernel
theorem dX4_init_54 : decode cX4_init 54 = .ok (.dup, 1) := by decide +kernel
theorem dX4_init_55 : decode cX4_init 55 = .ok (.iconst 2, 1) := by decide +kernel
theorem dX4_init_56 : decode cX4_init 56 = .ok (.invokespecial 28, 3) := by decide +kernel
theorem dX4_init_59 : decode cX4_init 59 = .ok (.putfield 35, 3) := by decide +kernel
theorem dX4_init_62 : decode cX4_init 62 = .ok (.aload_n 0, 1) := by decide +kernel
theorem dX4_init_63 : decode cX4_init 63 = .ok (.new 38, 3) := by decide +kernel
theorem dX4_init_66 : decode cX4_init 66 = .ok (.dup, 1) := by decide +kernel
theorem dX4_init_67 : decode cX4_init 67 = .ok (.invokespecial 40, 3) := by decide +kernel
theorem dX4_init_70 : decode cX4_init 70 = .ok (.putfield 41, 3) := by decide +kernel
theorem dX4_init_73 : decode cX4_init 73 = .ok (.aload_n 0, 1) := by decide +kernel
theorem dX4_init_74 : decode cX4_init 74 = .ok (.bipush 6, 2) := by decide +kernel
theorem dX4_init_76 : decode cX4_init 76 = .ok (.newarray .int, 2) := by decide +kernel
theorem dX4_init_78 : decode cX4_init 78 = .ok (.putfield 45, 3) := by decide +kernel
theorem dX4_init_81 : decode cX4_init 81 = .ok (.aload_n 0, 1) := by decide +kernel
theorem dX4_init_82 : decode cX4_init 82 = .ok (.bipush 6, 2) := by decide +kernel
theorem dX4_init_84 : decode cX4_init 84 = .ok (.newarray .int, 2) := by decide +kernel
theorem dX4_init_86 : decode cX4_init 86 = .ok (.putfield 49, 3) := by decide +kernel
theorem dX4_init_89 : decode cX4_init 89 = .ok (.aload_n 0, 1) := by decide +kernel
theorem dX4_init_90 : decode cX4_init 90 = .ok (.iconst 0, 1) := by decide +kernel
theorem dX4_init_91 : decode cX4_init 91 = .ok (.putfield 52, 3) := by decide +kernel
theorem dX4_init_94 : decode cX4_init 94 = .ok (.aload_n 0, 1) := by decide +kernel
theorem dX4_init_95 : decode cX4_init 95 = .ok (.iconst 2, 1) := by decide +kernel
theorem dX4_init_96 : decode cX4_init 96 = .ok (.putfield 56, 3) := by decide +kernel
theorem dX4_init_99 : decode cX4_init 99 = .ok (.aload_n 0, 1) := by decide +kernel
theorem dX4_init_100 : decode cX4_init 100 = .ok (.getfield 19, 3) := by decide +kernel
theorem dX4_init_103 : decode cX4_init 103 = .ok (.bipush 6, 2) := by decide +kernel
theorem dX4_init_105 : decode cX4_init 105 = .ok (.iconst 4, 1) := by decide +kernel
theorem dX4_init_106 : decode cX4_init 106 = .ok (.invokevirtual 59, 3) := by decide +kernel
theorem dX4_init_109 : decode cX4_init 109 = .ok (.aload_n 0, 1) := by decide +kernel
theorem dX4_init_110 : decode cX4_init 110 = .ok (.getfield 19, 3) := by decide +kernel
theorem dX4_init_113 : decode cX4_init 113 = .ok (.iconst 2, 1) := by decide +kernel
theorem dX4_init_114 : decode cX4_init 114 = .ok (.iconst 3, 1) := by decide +kernel
theorem dX4_init_115 : decode cX4_init 115 = .ok (.invokevirtual 63, 3) := by decide +kernel
theorem dX4_init_118 : decode cX4_init 118 = .ok (.aload_n 0, 1) := by decide +kernel
theorem dX4_init_119 : decode cX4_init 119 = .ok (.getfield 19, 3) := by decide +kernel
theorem dX4_init_122 : decode cX4_init 122 = .ok (.iconst 2, 1) := by decide +kernel
theorem dX4_init_123 : decode cX4_init 123 = .ok (.putfield 66, 3) := by decide +kernel
theorem dX4_init_126 : decode cX4_init 126 = .ok (.return_, 1) := by decide +kernel
theorem dX4_write_0 : decode cX4_write 0 = .ok (.iload_n 1, 1) := by decide +kernel
theorem dX4_write_1 : decode cX4_write 1 = .ok (.bipush 32, 2) := by decide +kernel
theorem dX4_write_3 : decode cX4_write 3 = .ok (.bipush 126, 2) := by decide +kernel
theorem dX4_write_5 : decode cX4_write 5 = .ok (.invokestatic 69, 3) := by decide +kernel
theorem dX4_write_8 : decode cX4_write 8 = .ok (.ifCond .ne 5, 3) := by decide +kernel
theorem dX4_write_11 : decode cX4_write 11 = .ok (.iconst (-1), 1) := by decide +kernel
theorem dX4_write_12 : decode cX4_write 12 = .ok (.ireturn, 1) := by decide +kernel
theorem dX4_write_13 : decode cX4_write 13 = .ok (.aload_n 0, 1) := by decide +kernel
theorem dX4_write_14 : decode cX4_write 14 = .ok (.getfield 10, 3) := by decide +kernel
theorem dX4_write_17 : decode cX4_write 17 = .ok (.iload_n 1, 1) := by decide +kernel
theorem dX4_write_18 : decode cX4_write 18 = .ok (.i2c, 1) := by decide +kernel
theorem dX4_write_19 : decode cX4_write 19 = .ok (.invokevirtual 73, 3) := by decide +kernel
theorem dX4_write_22 : decode cX4_write 22 = .ok (.ifCond .eq 13, 3) := by decide +kernel
theorem dX4_write_25 : decode cX4_write 25 = .ok (.aload_n 0, 1) := by decide +kernel
theorem dX4_write_26 : decode cX4_write 26 = .ok (.getfield 10, 3) := by decide +kernel
theorem dX4_write_29 : decode cX4_write 29 = .ok (.invokevirtual 77, 3) := by decide +kernel
theorem dX4_write_32 : decode cX4_write 32 = .ok (.goto 5, 3) := by decide +kernel
theorem dX4_write_35 : decode cX4_write 35 = .ok (.bipush (-3), 2) := by decide +kernel
theorem dX4_write_37 : decode cX4_write 37 = .ok (.ireturn, 1) := by decide +kernel
theorem dX4_wipe_0 : decode cX4_wipe 0 = .ok (.aload_n 0, 1) := by decide +kernel
theorem dX4_wipe_1 : decode cX4_wipe 1 = .ok (.getfield 10, 3) := by decide +kernel
theorem dX4_wipe_4 : decode cX4_wipe 4 = .ok (.invokevirtual 77, 3) := by decide +kernel
theorem dX4_wipe_7 : decode cX4_wipe 7 = .ok (.istore_n 1, 1) := by decide +kernel
theorem dX4_wipe_8 : decode cX4_wipe 8 = .ok (.aload_n 0, 1) := by decide +kernel
theorem dX4_wipe_9 : decode cX4_wipe 9 = .ok (.getfield 10, 3) := by decide +kernel
theorem dX4_wipe_12 : decode cX4_wipe 12 = .ok (.invokevirtual 81, 3) := by decide +kernel
theorem dX4_wipe_15 : decode cX4_wipe 15 = .ok (.iload_n 1, 1) := by decide +kernel
theorem dX4_wipe_16 : decode cX4_wipe 16 = .ok (.ireturn, 1) := by decide +kernel
theorem dX4_fault_0 : decode cX4_fault 0 = .ok (.aload_n 0, 1) := by decide +kernel
theorem dX4_fault_1 : decode cX4_fault 1 = .ok (.getfield 10, 3) := by decide +kernel
theorem dX4_fault_4 : decode cX4_fault 4 = .ok (.invokevirtual 84, 3) := by decide +kernel
theorem dX4_fault_7 : decode cX4_fault 7 = .ok (.ireturn, 1) := by decide +kernel
theorem dX4_lay_0 : decode cX4_lay 0 = .ok (.aload_n 0, 1) := by decide +kernel
theorem dX4_lay_1 : decode cX4_lay 1 = .ok (.getfield 10, 3) := by decide +kernel
theorem dX4_lay_4 : decode cX4_lay 4 = .ok (.invokevirtual 84, 3) := by decide +kernel
theorem dX4_lay_7 : decode cX4_lay 7 = .ok (.bipush (-4), 2) := by decide +kernel
theorem dX4_lay_9 : decode cX4_lay 9 = .ok (.if_icmp .eq 6, 3) := by decide +kernel
theorem dX4_lay_12 : decode cX4_lay 12 = .ok (.bipush (-2), 2) := by decide +kernel
theorem dX4_lay_14 : decode cX4_lay 14 = .ok (.ireturn, 1) := by decide +kernel
theorem dX4_lay_15 : decode cX4_lay 15 = .ok (.aload_n 0, 1) := by decide +kernel
theorem dX4_lay_16 : decode cX4_lay 16 = .ok (.getfield 19, 3) := by decide +kernel
theorem dX4_lay_19 : decode cX4_lay 19 = .ok (.aload_n 0, 1) := by decide +kernel
theorem dX4_lay_20 : decode cX4_lay 20 = .ok (.getfield 10, 3) := by decide +kernel
theorem dX4_lay_23 : decode cX4_lay 23 = .ok (.getfield 87, 3) := by decide +kernel
theorem dX4_lay_26 : decode cX4_lay 26 = .ok (.invokevirtual 90, 3) := by decide +kernel
theorem dX4_lay_29 : decode cX4_lay 29 = .ok (.aload_n 0, 1) := by decide +kernel
theorem dX4_lay_30 : decode cX4_lay 30 = .ok (.aload_n 0, 1) := by decide +kernel
theorem dX4_lay_31 : decode cX4_lay 31 = .ok (.getfield 10, 3) := by decide +kernel
theorem dX4_lay_34 : decode cX4_lay 34 = .ok (.getfield 94, 3) := by decide +kernel
theorem dX4_lay_37 : decode cX4_lay 37 = .ok (.putfield 56, 3) := by decide +kernel
theorem dX4_lay_40 : decode cX4_lay 40 = .ok (.aload_n 0, 1) := by decide +kernel
theorem dX4_lay_41 : decode cX4_lay 41 = .ok (.iconst 0, 1) := by decide +kernel
theorem dX4_lay_42 : decode cX4_lay 42 = .ok (.putfield 52, 3) := by decide +kernel
theorem dX4_lay_45 : decode cX4_lay 45 = .ok (.aload_n 0, 1) := by decide +kernel
theorem dX4_lay_46 : decode cX4_lay 46 = .ok (.getfield 31, 3) := by decide +kernel
theorem dX4_lay_49 : decode cX4_lay 49 = .ok (.invokevirtual 97, 3) := by decide +kernel
theorem dX4_lay_52 : decode cX4_lay 52 = .ok (.aload_n 0, 1) := by decide +kernel
theorem dX4_lay_53 : decode cX4_lay 53 = .ok (.getfield 35, 3) := by decide +kernel
theorem dX4_lay_56 : decode cX4_lay 56 = .ok (.invokevirtual 97, 3) := by decide +kernel
theorem dX4_lay_59 : decode cX4_lay 59 = .ok (.aload_n 0, 1) := by decide +kernel
theorem dX4_lay_60 : decode cX4_lay 60 = .ok (.getfield 19, 3) := by decide +kernel
theorem dX4_lay_63 : decode cX4_lay 63 = .ok (.invokevirtual 98, 3) := by decide +kernel
theorem dX4_lay_66 : decode cX4_lay 66 = .ok (.ireturn, 1) := by decide +kernel
theorem dX4_box_0 : decode cX4_box 0 = .ok (.iload_n 1, 1) := by decide +kernel
theorem dX4_box_1 : decode cX4_box 1 = .ok (.invokestatic 101, 3) := by decide +kernel
theorem dX4_box_4 : decode cX4_box 4 = .ok (.ifCond .eq 14, 3) := by decide +kernel
theorem dX4_box_7 : decode cX4_box 7 = .ok (.aload_n 0, 1) := by decide +kernel
theorem dX4_box_8 : decode cX4_box 8 = .ok (.getfield 19, 3) := by decide +kernel
theorem dX4_box_11 : decode cX4_box 11 = .ok (.iload_n 1, 1) := by decide +kernel
theorem dX4_box_12 : decode cX4_box 12 = .ok (.invokevirtual 105, 3) := by decide +kernel
theorem dX4_box_15 : decode cX4_box 15 = .ok (.goto 4, 3) := by decide +kernel
theorem dX4_box_18 : decode cX4_box 18 = .ok (.iconst (-1), 1) := by decide +kernel
theorem dX4_box_19 : decode cX4_box 19 = .ok (.ireturn, 1) := by decide +kernel
theorem dX4_quarters_0 : decode cX4_quarters 0 = .ok (.iload_n 1, 1) := by decide +kernel
theorem dX4_quarters_1 : decode cX4_quarters 1 = .ok (.invokestatic 101, 3) := by decide +kernel
theorem dX4_quarters_4 : decode cX4_quarters 4 = .ok (.ifCond .ne 5, 3) := by decide +kernel
theorem dX4_quarters_7 : decode cX4_quarters 7 = .ok (.iconst (-1), 1) := by decide +kernel
theorem dX4_quarters_8 : decode cX4_quarters 8 = .ok (.ireturn, 1) := by decide +kernel
theorem dX4_quarters_9 : decode cX4_quarters 9 = .ok (.aload_n 0, 1) := by decide +kernel
theorem dX4_quarters_10 : decode cX4_quarters 10 = .ok (.getfield 19, 3) := by decide +kernel
theorem dX4_quarters_13 : decode cX4_quarters 13 = .ok (.invokevirtual 109, 3) := by decide +kernel
theorem dX4_quarters_16 : decode cX4_quarters 16 = .ok (.istore_n 2, 1) := by decide +kernel
theorem dX4_quarters_17 : decode cX4_quarters 17 = .ok (.iload_n 1, 1) := by decide +kernel
theorem dX4_quarters_18 : decode cX4_quarters 18 = .ok (.ifCond .ne 7, 3) := by decide +kernel
theorem dX4_quarters_21 : decode cX4_quarters 21 = .ok (.iload_n 2, 1) := by decide +kernel
theorem dX4_quarters_22 : decode cX4_quarters 22 = .ok (.goto 6, 3) := by decide +kernel
theorem dX4_quarters_25 : decode cX4_quarters 25 = .ok (.iconst 4, 1) := by decide +kernel
theorem dX4_quarters_26 : decode cX4_quarters 26 = .ok (.iload_n 2, 1) := by decide +kernel
theorem dX4_quarters_27 : decode cX4_quarters 27 = .ok (.isub, 1) := by decide +kernel
theorem dX4_quarters_28 : decode cX4_quarters 28 = .ok (.ireturn, 1) := by decide +kernel
theorem dX4_reach_0 : decode cX4_reach 0 = .ok (.iload_n 1, 1) := by decide +kernel
theorem dX4_reach_1 : decode cX4_reach 1 = .ok (.invokestatic 101, 3) := by decide +kernel
theorem dX4_reach_4 : decode cX4_reach 4 = .ok (.ifCond .ne 5, 3) := by decide +kernel
theorem dX4_reach_7 : decode cX4_reach 7 = .ok (.iconst (-1), 1) := by decide +kernel
theorem dX4_reach_8 : decode cX4_reach 8 = .ok (.ireturn, 1) := by decide +kernel
theorem dX4_reach_9 : decode cX4_reach 9 = .ok (.aload_n 0, 1) := by decide +kernel
theorem dX4_reach_10 : decode cX4_reach 10 = .ok (.getfield 31, 3) := by decide +kernel
theorem dX4_reach_13 : decode cX4_reach 13 = .ok (.aload_n 0, 1) := by decide +kernel
theorem dX4_reach_14 : decode cX4_reach 14 = .ok (.getfield 19, 3) := by decide +kernel
theorem dX4_reach_17 : decode cX4_reach 17 = .ok (.invokevirtual 112, 3) := by decide +kernel
theorem dX4_reach_20 : decode cX4_reach 20 = .ok (.aload_n 0, 1) := by decide +kernel
theorem dX4_reach_21 : decode cX4_reach 21 = .ok (.getfield 19, 3) := by decide +kernel
theorem dX4_reach_24 : decode cX4_reach 24 = .ok (.iload_n 1, 1) := by decide +kernel
theorem dX4_reach_25 : decode cX4_reach 25 = .ok (.invokevirtual 115, 3) := by decide +kernel
theorem dX4_reach_28 : decode cX4_reach 28 = .ok (.ifCond .eq 14, 3) := by decide +kernel
theorem dX4_reach_31 : decode cX4_reach 31 = .ok (.aload_n 0, 1) := by decide +kernel
theorem dX4_reach_32 : decode cX4_reach 32 = .ok (.getfield 19, 3) := by decide +kernel
theorem dX4_reach_35 : decode cX4_reach 35 = .ok (.iload_n 1, 1) := by decide +kernel
theorem dX4_reach_36 : decode cX4_reach 36 = .ok (.invokevirtual 105, 3) := by decide +kernel
theorem dX4_reach_39 : decode cX4_reach 39 = .ok (.goto 5, 3) := by decide +kernel
theorem dX4_reach_42 : decode cX4_reach 42 = .ok (.bipush (-5), 2) := by decide +kernel
theorem dX4_reach_44 : decode cX4_reach 44 = .ok (.ireturn, 1) := by decide +kernel
theorem dX4_putOver_0 : decode cX4_putOver 0 = .ok (.iload_n 1, 1) := by decide +kernel
theorem dX4_putOver_1 : decode cX4_putOver 1 = .ok (.invokestatic 101, 3) := by decide +kernel
theorem dX4_putOver_4 : decode cX4_putOver 4 = .ok (.ifCond .eq 13, 3) := by decide +kernel
theorem dX4_putOver_7 : decode cX4_putOver 7 = .ok (.iload_n 2, 1) := by decide +kernel
theorem dX4_putOver_8 : decode cX4_putOver 8 = .ok (.iconst 1, 1) := by decide +kernel
theorem dX4_putOver_9 : decode cX4_putOver 9 = .ok (.bipush 10, 2) := by decide +kernel
theorem dX4_putOver_11 : decode cX4_putOver 11 = .ok (.invokestatic 69, 3) := by decide +kernel
theorem dX4_putOver_14 : decode cX4_putOver 14 = .ok (.ifCond .ne 5, 3) := by decide +kernel
theorem dX4_putOver_17 : decode cX4_putOver 17 = .ok (.iconst (-1), 1) := by decide +kernel
theorem dX4_putOver_18 : decode cX4_putOver 18 = .ok (.ireturn, 1) := by decide +kernel
theorem dX4_putOver_19 : decode cX4_putOver 19 = .ok (.aload_n 0, 1) := by decide +kernel
theorem dX4_putOver_20 : decode cX4_putOver 20 = .ok (.getfield 19, 3) := by decide +kernel
theorem dX4_putOver_23 : decode cX4_putOver 23 = .ok (.iload_n 1, 1) := by decide +kernel
theorem dX4_putOver_24 : decode cX4_putOver 24 = .ok (.invokevirtual 105, 3) := by decide +kernel
theorem dX4_putOver_27 : decode cX4_putOver 27 = .ok (.istore_n 3, 1) := by decide +kernel
theorem dX4_putOver_28 : decode cX4_putOver 28 = .ok (.aload_n 0, 1) := by decide +kernel
theorem dX4_putOver_29 : decode cX4_putOver 29 = .ok (.getfield 19, 3) := by decide +kernel
theorem dX4_putOver_32 : decode cX4_putOver 32 = .ok (.iload_n 1, 1) := by decide +kernel
theorem dX4_putOver_33 : decode cX4_putOver 33 = .ok (.invokestatic 118, 3) := by decide +kernel
theorem dX4_putOver_36 : decode cX4_putOver 36 = .ok (.invokevirtual 105, 3) := by decide +kernel
theorem dX4_putOver_39 : decode cX4_putOver 39 = .ok (.istore 4, 2) := by decide +kernel
theorem dX4_putOver_41 : decode cX4_putOver 41 = .ok (.iload_n 3, 1) := by decide +kernel
theorem dX4_putOver_42 : decode cX4_putOver 42 = .ok (.iload_n 2, 1) := by decide +kernel
theorem dX4_putOver_43 : decode cX4_putOver 43 = .ok (.if_icmp .ge 6, 3) := by decide +kernel
theorem dX4_putOver_46 : decode cX4_putOver 46 = .ok (.bipush (-2), 2) := by decide +kernel
theorem dX4_putOver_48 : decode cX4_putOver 48 = .ok (.ireturn, 1) := by decide +kernel
theorem dX4_putOver_49 : decode cX4_putOver 49 = .ok (.iload 4, 2) := by decide +kernel
theorem dX4_putOver_51 : decode cX4_putOver 51 = .ok (.iload_n 2, 1) := by decide +kernel
theorem dX4_putOver_52 : decode cX4_putOver 52 = .ok (.iadd, 1) := by decide +kernel
theorem dX4_putOver_53 : decode cX4_putOver 53 = .ok (.bipush 10, 2) := by decide +kernel
theorem dX4_putOver_55 : decode cX4_putOver 55 = .ok (.if_icmp .le 6, 3) := by decide +kernel
theorem dX4_putOver_58 : decode cX4_putOver 58 = .ok (.bipush (-3), 2) := by decide +kernel
theorem dX4_putOver_60 : decode cX4_putOver 60 = .ok (.ireturn, 1) := by decide +kernel
theorem dX4_putOver_61 : decode cX4_putOver 61 = .ok (.aload_n 0, 1) := by decide +kernel
theorem dX4_putOver_62 : decode cX4_putOver 62 = .ok (.getfield 31, 3) := by decide +kernel
theorem dX4_putOver_65 : decode cX4_putOver 65 = .ok (.aload_n 0, 1) := by decide +kernel
theorem dX4_putOver_66 : decode cX4_putOver 66 = .ok (.getfield 19, 3) := by decide +kernel
theorem dX4_putOver_69 : decode cX4_putOver 69 = .ok (.invokevirtual 112, 3) := by decide +kernel
theorem dX4_putOver_72 : decode cX4_putOver 72 = .ok (.aload_n 0, 1) := by decide +kernel
theorem dX4_putOver_73 : decode cX4_putOver 73 = .ok (.getfield 19, 3) := by decide +kernel
theorem dX4_putOver_76 : decode cX4_putOver 76 = .ok (.iload_n 1, 1) := by decide +kernel
theorem dX4_putOver_77 : decode cX4_putOver 77 = .ok (.iload_n 3, 1) := by decide +kernel
theorem dX4_putOver_78 : decode cX4_putOver 78 = .ok (.iload_n 2, 1) := by decide +kernel
theorem dX4_putOver_79 : decode cX4_putOver 79 = .ok (.isub, 1) := by decide +kernel
theorem dX4_putOver_80 : decode cX4_putOver 80 = .ok (.invokevirtual 121, 3) := by decide +kernel
theorem dX4_putOver_83 : decode cX4_putOver 83 = .ok (.aload_n 0, 1) := by decide +kernel
theorem dX4_putOver_84 : decode cX4_putOver 84 = .ok (.getfield 19, 3) := by decide +kernel
theorem dX4_putOver_87 : decode cX4_putOver 87 = .ok (.iload_n 1, 1) := by decide +kernel
theorem dX4_putOver_88 : decode cX4_putOver 88 = .ok (.invokestatic 118, 3) := by decide +kernel
theorem dX4_putOver_91 : decode cX4_putOver 91 = .ok (.iload 4, 2) := by decide +kernel
theorem dX4_putOver_93 : decode cX4_putOver 93 = .ok (.iload_n 2, 1) := by decide +kernel
theorem dX4_putOver_94 : decode cX4_putOver 94 = .ok (.iadd, 1) := by decide +kernel
theorem dX4_putOver_95 : decode cX4_putOver 95 = .ok (.invokevirtual 121, 3) := by decide +kernel
theorem dX4_putOver_98 : decode cX4_putOver 98 = .ok (.iload_n 3, 1) := by decide +kernel
theorem dX4_putOver_99 : decode cX4_putOver 99 = .ok (.iload_n 2, 1) := by decide +kernel
theorem dX4_putOver_100 : decode cX4_putOver 100 = .ok (.isub, 1) := by decide +kernel
theorem dX4_putOver_101 : decode cX4_putOver 101 = .ok (.ireturn, 1) := by decide +kernel
theorem dX4_buy_0 : decode cX4_buy 0 = .ok (.iload_n 1, 1) := by decide +kernel
theorem dX4_buy_1 : decode cX4_buy 1 = .ok (.invokestatic 101, 3) := by decide +kernel
theorem dX4_buy_4 : decode cX4_buy 4 = .ok (.ifCond .ne 5, 3) := by decide +kernel
theorem dX4_buy_7 : decode cX4_buy 7 = .ok (.iconst (-1), 1) := by decide +kernel
theorem dX4_buy_8 : decode cX4_buy 8 = .ok (.ireturn, 1) := by decide +kernel
theorem dX4_buy_9 : decode cX4_buy 9 = .ok (.aload_n 0, 1) := by decide +kernel
theorem dX4_buy_10 : decode cX4_buy 10 = .ok (.getfield 19, 3) := by decide +kernel
theorem dX4_buy_13 : decode cX4_buy 13 = .ok (.iload_n 1, 1) := by decide +kernel
theorem dX4_buy_14 : decode cX4_buy 14 = .ok (.invokevirtual 105, 3) := by decide +kernel
theorem dX4_buy_17 : decode cX4_buy 17 = .ok (.istore_n 2, 1) := by decide +kernel
theorem dX4_buy_18 : decode cX4_buy 18 = .ok (.aload_n 0, 1) := by decide +kernel
theorem dX4_buy_19 : decode cX4_buy 19 = .ok (.getfield 31, 3) := by decide +kernel
theorem dX4_buy_22 : decode cX4_buy 22 = .ok (.aload_n 0, 1) := by decide +kernel
theorem dX4_buy_23 : decode cX4_buy 23 = .ok (.getfield 19, 3) := by decide +kernel
theorem dX4_buy_26 : decode cX4_buy 26 = .ok (.invokevirtual 112, 3) := by decide +kernel
theorem dX4_buy_29 : decode cX4_buy 29 = .ok (.aload_n 0, 1) := by decide +kernel
theorem dX4_buy_30 : decode cX4_buy 30 = .ok (.getfield 19, 3) := by decide +kernel
theorem dX4_buy_33 : decode cX4_buy 33 = .ok (.iload_n 1, 1) := by decide +kernel
theorem dX4_buy_34 : decode cX4_buy 34 = .ok (.bipush 10, 2) := by decide +kernel
theorem dX4_buy_36 : decode cX4_buy 36 = .ok (.invokevirtual 121, 3) := by decide +kernel
theorem dX4_buy_39 : decode cX4_buy 39 = .ok (.iload_n 2, 1) := by decide +kernel
theorem dX4_buy_40 : decode cX4_buy 40 = .ok (.ireturn, 1) := by decide +kernel
theorem dX4_hand_0 : decode cX4_hand 0 = .ok (.iload_n 1, 1) := by decide +kernel
theorem dX4_hand_1 : decode cX4_hand 1 = .ok (.iload_n 2, 1) := by decide +kernel
theorem dX4_hand_2 : decode cX4_hand 2 = .ok (.invokestatic 124, 3) := by decide +kernel
theorem dX4_hand_5 : decode cX4_hand 5 = .ok (.ifCond .ne 5, 3) := by decide +kernel
theorem dX4_hand_8 : decode cX4_hand 8 = .ok (.iconst (-1), 1) := by decide +kernel
theorem dX4_hand_9 : decode cX4_hand 9 = .ok (.ireturn, 1) := by decide +kernel
theorem dX4_hand_10 : decode cX4_hand 10 = .ok (.bipush 10, 2) := by decide +kernel
theorem dX4_hand_12 : decode cX4_hand 12 = .ok (.aload_n 0, 1) := by decide +kernel
theorem dX4_hand_13 : decode cX4_hand 13 = .ok (.getfield 19, 3) := by decide +kernel
theorem dX4_hand_16 : decode cX4_hand 16 = .ok (.getfield 128, 3) := by decide +kernel
theorem dX4_hand_19 : decode cX4_hand 19 = .ok (.imul, 1) := by decide +kernel
theorem dX4_hand_20 : decode cX4_hand 20 = .ok (.aload_n 0, 1) := by decide +kernel
theorem dX4_hand_21 : decode cX4_hand 21 = .ok (.getfield 19, 3) := by decide +kernel
theorem dX4_hand_24 : decode cX4_hand 24 = .ok (.getfield 131, 3) := by decide +kernel
theorem dX4_hand_27 : decode cX4_hand 27 = .ok (.iadd, 1) := by decide +kernel
theorem dX4_hand_28 : decode cX4_hand 28 = .ok (.istore_n 3, 1) := by decide +kernel
theorem dX4_hand_29 : decode cX4_hand 29 = .ok (.aload_n 0, 1) := by decide +kernel
theorem dX4_hand_30 : decode cX4_hand 30 = .ok (.getfield 31, 3) := by decide +kernel
theorem dX4_hand_33 : decode cX4_hand 33 = .ok (.aload_n 0, 1) := by decide +kernel
theorem dX4_hand_34 : decode cX4_hand 34 = .ok (.getfield 19, 3) := by decide +kernel
theorem dX4_hand_37 : decode cX4_hand 37 = .ok (.invokevirtual 112, 3) := by decide +kernel
theorem dX4_hand_40 : decode cX4_hand 40 = .ok (.aload_n 0, 1) := by decide +kernel
theorem dX4_hand_41 : decode cX4_hand 41 = .ok (.getfield 19, 3) := by decide +kernel
theorem dX4_hand_44 : decode cX4_hand 44 = .ok (.iload_n 1, 1) := by decide +kernel
theorem dX4_hand_45 : decode cX4_hand 45 = .ok (.iload_n 2, 1) := by decide +kernel
theorem dX4_hand_46 : decode cX4_hand 46 = .ok (.invokevirtual 63, 3) := by decide +kernel
theorem dX4_hand_49 : decode cX4_hand 49 = .ok (.iload_n 3, 1) := by decide +kernel
theorem dX4_hand_50 : decode cX4_hand 50 = .ok (.ireturn, 1) := by decide +kernel
theorem dX4_undo_0 : decode cX4_undo 0 = .ok (.aload_n 0, 1) := by decide +kernel
theorem dX4_undo_1 : decode cX4_undo 1 = .ok (.getfield 31, 3) := by decide +kernel
theorem dX4_undo_4 : decode cX4_undo 4 = .ok (.aload_n 0, 1) := by decide +kernel
theorem dX4_undo_5 : decode cX4_undo 5 = .ok (.getfield 19, 3) := by decide +kernel
theorem dX4_undo_8 : decode cX4_undo 8 = .ok (.invokevirtual 134, 3) := by decide +kernel
theorem dX4_undo_11 : decode cX4_undo 11 = .ok (.ifCond .eq 13, 3) := by decide +kernel
theorem dX4_undo_14 : decode cX4_undo 14 = .ok (.aload_n 0, 1) := by decide +kernel
theorem dX4_undo_15 : decode cX4_undo 15 = .ok (.getfield 31, 3) := by decide +kernel
theorem dX4_undo_18 : decode cX4_undo 18 = .ok (.invokevirtual 138, 3) := by decide +kernel
theorem dX4_undo_21 : decode cX4_undo 21 = .ok (.goto 5, 3) := by decide +kernel
theorem dX4_undo_24 : decode cX4_undo 24 = .ok (.bipush (-2), 2) := by decide +kernel
theorem dX4_undo_26 : decode cX4_undo 26 = .ok (.ireturn, 1) := by decide +kernel
theorem dX4_left_0 : decode cX4_left 0 = .ok (.iload_n 1, 1) := by decide +kernel
theorem dX4_left_1 : decode cX4_left 1 = .ok (.invokestatic 139, 3) := by decide +kernel
theorem dX4_left_4 : decode cX4_left 4 = .ok (.ifCond .eq 13, 3) := by decide +kernel
theorem dX4_left_7 : decode cX4_left 7 = .ok (.iload_n 2, 1) := by decide +kernel
theorem dX4_left_8 : decode cX4_left 8 = .ok (.iconst 0, 1) := by decide +kernel
theorem dX4_left_9 : decode cX4_left 9 = .ok (.bipush 10, 2) := by decide +kernel
theorem dX4_left_11 : decode cX4_left 11 = .ok (.invokestatic 69, 3) := by decide +kernel
theorem dX4_left_14 : decode cX4_left 14 = .ok (.ifCond .ne 5, 3) := by decide +kernel
theorem dX4_left_17 : decode cX4_left 17 = .ok (.iconst (-1), 1) := by decide +kernel
theorem dX4_left_18 : decode cX4_left 18 = .ok (.ireturn, 1) := by decide +kernel
theorem dX4_left_19 : decode cX4_left 19 = .ok (.aload_n 0, 1) := by decide +kernel
theorem dX4_left_20 : decode cX4_left 20 = .ok (.iload_n 1, 1) := by decide +kernel
theorem dX4_left_21 : decode cX4_left 21 = .ok (.invokevirtual 142, 3) := by decide +kernel
theorem dX4_left_24 : decode cX4_left 24 = .ok (.pop2, 1) := by decide +kernel
theorem dX4_left_25 : decode cX4_left 25 = .ok (.aload_n 0, 1) := by decide +kernel
theorem dX4_left_26 : decode cX4_left 26 = .ok (.getfield 41, 3) := by decide +kernel
theorem dX4_left_29 : decode cX4_left 29 = .ok (.iload_n 2, 1) := by decide +kernel
theorem dX4_left_30 : decode cX4_left 30 = .ok (.invokevirtual 146, 3) := by decide +kernel
theorem dX4_left_33 : decode cX4_left 33 = .ok (.invokestatic 149, 3) := by decide +kernel
theorem dX4_left_36 : decode cX4_left 36 = .ok (.ireturn, 1) := by decide +kernel
theorem dX4_mean_0 : decode cX4_mean 0 = .ok (.iload_n 1, 1) := by decide +kernel
theorem dX4_mean_1 : decode cX4_mean 1 = .ok (.invokestatic 139, 3) := by decide +kernel
theorem dX4_mean_4 : decode cX4_mean 4 = .ok (.ifCond .ne 5, 3) := by decide +kernel
theorem dX4_mean_7 : decode cX4_mean 7 = .ok (.iconst (-1), 1) := by decide +kernel
theorem dX4_mean_8 : decode cX4_mean 8 = .ok (.ireturn, 1) := by decide +kernel
theorem dX4_mean_9 : decode cX4_mean 9 = .ok (.aload_n 0, 1) := by decide +kernel
theorem dX4_mean_10 : decode cX4_mean 10 = .ok (.iload_n 1, 1) := by decide +kernel
theorem dX4_mean_11 : decode cX4_mean 11 = .ok (.invokevirtual 142, 3) := by decide +kernel
theorem dX4_mean_14 : decode cX4_mean 14 = .ok (.pop2, 1) := by decide +kernel
theorem dX4_mean_15 : decode cX4_mean 15 = .ok (.lconst 0, 1) := by decide +kernel
theorem dX4_mean_16 : decode cX4_mean 16 = .ok (.lstore_n 2, 1) := by decide +kernel
theorem dX4_mean_17 : decode cX4_mean 17 = .ok (.iconst 0, 1) := by decide +kernel
theorem dX4_mean_18 : decode cX4_mean 18 = .ok (.istore 4, 2) := by decide +kernel
theorem dX4_mean_20 : decode cX4_mean 20 = .ok (.iload 4, 2) := by decide +kernel
theorem dX4_mean_22 : decode cX4_mean 22 = .ok (.bipush 10, 2) := by decide +kernel
theorem dX4_mean_24 : decode cX4_mean 24 = .ok (.if_icmp .gt 25, 3) := by decide +kernel
theorem dX4_mean_27 : decode cX4_mean 27 = .ok (.lload_n 2, 1) := by decide +kernel
theorem dX4_mean_28 : decode cX4_mean 28 = .ok (.iload 4, 2) := by decide +kernel
theorem dX4_mean_30 : decode cX4_mean 30 = .ok (.i2l, 1) := by decide +kernel
theorem dX4_mean_31 : decode cX4_mean 31 = .ok (.aload_n 0, 1) := by decide +kernel
theorem dX4_mean_32 : decode cX4_mean 32 = .ok (.getfield 41, 3) := by decide +kernel
theorem dX4_mean_35 : decode cX4_mean 35 = .ok (.iload 4, 2) := by decide +kernel
theorem dX4_mean_37 : decode cX4_mean 37 = .ok (.invokevirtual 146, 3) := by decide +kernel
theorem dX4_mean_40 : decode cX4_mean 40 = .ok (.lmul, 1) := by decide +kernel
theorem dX4_mean_41 : decode cX4_mean 41 = .ok (.ladd, 1) := by decide +kernel
theorem dX4_mean_42 : decode cX4_mean 42 = .ok (.lstore_n 2, 1) := by decide +kernel
theorem dX4_mean_43 : decode cX4_mean 43 = .ok (.iinc 4 1, 3) := by decide +kernel
theorem dX4_mean_46 : decode cX4_mean 46 = .ok (.goto (-26), 3) := by decide +kernel
theorem dX4_mean_49 : decode cX4_mean 49 = .ok (.lload_n 2, 1) := by decide +kernel
theorem dX4_mean_50 : decode cX4_mean 50 = .ok (.invokestatic 153, 3) := by decide +kernel
theorem dX4_mean_53 : decode cX4_mean 53 = .ok (.ireturn, 1) := by decide +kernel
theorem dX4_soon_0 : decode cX4_soon 0 = .ok (.iload_n 1, 1) := by decide +kernel
theorem dX4_soon_1 : decode cX4_soon 1 = .ok (.invokestatic 139, 3) := by decide +kernel
theorem dX4_soon_4 : decode cX4_soon 4 = .ok (.ifCond .eq 13, 3) := by decide +kernel
theorem dX4_soon_7 : decode cX4_soon 7 = .ok (.iload_n 2, 1) := by decide +kernel
theorem dX4_soon_8 : decode cX4_soon 8 = .ok (.iconst 0, 1) := by decide +kernel
theorem dX4_soon_9 : decode cX4_soon 9 = .ok (.bipush 21, 2) := by decide +kernel
theorem dX4_soon_11 : decode cX4_soon 11 = .ok (.invokestatic 69, 3) := by decide +kernel
theorem dX4_soon_14 : decode cX4_soon 14 = .ok (.ifCond .ne 5, 3) := by decide +kernel
theorem dX4_soon_17 : decode cX4_soon 17 = .ok (.iconst (-1), 1) := by decide +kernel
theorem dX4_soon_18 : decode cX4_soon 18 = .ok (.ireturn, 1) := by decide +kernel
theorem dX4_soon_19 : decode cX4_soon 19 = .ok (.aload_n 0, 1) := by decide +kernel
theorem dX4_soon_20 : decode cX4_soon 20 = .ok (.aload_n 0, 1) := by decide +kernel
theorem dX4_soon_21 : decode cX4_soon 21 = .ok (.getfield 19, 3) := by decide +kernel
theorem dX4_soon_24 : decode cX4_soon 24 = .ok (.getfield 156, 3) := by decide +kernel
theorem dX4_soon_27 : decode cX4_soon 27 = .ok (.aload_n 0, 1) := by decide +kernel
theorem dX4_soon_28 : decode cX4_soon 28 = .ok (.getfield 19, 3) := by decide +kernel
theorem dX4_soon_31 : decode cX4_soon 31 = .ok (.getfield 159, 3) := by decide +kernel
theorem dX4_soon_34 : decode cX4_soon 34 = .ok (.iload_n 1, 1) := by decide +kernel
theorem dX4_soon_35 : decode cX4_soon 35 = .ok (.invokevirtual 162, 3) := by decide +kernel
theorem dX4_soon_38 : decode cX4_soon 38 = .ok (.aload_n 0, 1) := by decide +kernel
theorem dX4_soon_39 : decode cX4_soon 39 = .ok (.getfield 41, 3) := by decide +kernel
theorem dX4_soon_42 : decode cX4_soon 42 = .ok (.iload_n 2, 1) := by decide +kernel
theorem dX4_soon_43 : decode cX4_soon 43 = .ok (.invokevirtual 166, 3) := by decide +kernel
theorem dX4_soon_46 : decode cX4_soon 46 = .ok (.ldc2_w 169, 3) := by decide +kernel
theorem dX4_soon_49 : decode cX4_soon 49 = .ok (.aload_n 0, 1) := by decide +kernel
theorem dX4_soon_50 : decode cX4_soon 50 = .ok (.getfield 41, 3) := by decide +kernel
theorem dX4_soon_53 : decode cX4_soon 53 = .ok (.invokevirtual 171, 3) := by decide +kernel
theorem dX4_soon_56 : decode cX4_soon 56 = .ok (.lsub, 1) := by decide +kernel
theorem dX4_soon_57 : decode cX4_soon 57 = .ok (.invokestatic 149, 3) := by decide +kernel
theorem dX4_soon_60 : decode cX4_soon 60 = .ok (.ireturn, 1) := by decide +kernel
theorem dX4_times_0 : decode cX4_times 0 = .ok (.iload_n 1, 1) := by decide +kernel
theorem dX4_times_1 : decode cX4_times 1 = .ok (.invokestatic 139, 3) := by decide +kernel
theorem dX4_times_4 : decode cX4_times 4 = .ok (.ifCond .eq 14, 3) := by decide +kernel
theorem dX4_times_7 : decode cX4_times 7 = .ok (.aload_n 0, 1) := by decide +kernel
theorem dX4_times_8 : decode cX4_times 8 = .ok (.iload_n 1, 1) := by decide +kernel
theorem dX4_times_9 : decode cX4_times 9 = .ok (.invokevirtual 142, 3) := by decide +kernel
theorem dX4_times_12 : decode cX4_times 12 = .ok (.invokestatic 153, 3) := by decide +kernel
theorem dX4_times_15 : decode cX4_times 15 = .ok (.goto 4, 3) := by decide +kernel
theorem dX4_times_18 : decode cX4_times 18 = .ok (.iconst (-1), 1) := by decide +kernel
theorem dX4_times_19 : decode cX4_times 19 = .ok (.ireturn, 1) := by decide +kernel
theorem dX4_likeliest_0 : decode cX4_likeliest 0 = .ok (.iload_n 1, 1) := by decide +kernel
theorem dX4_likeliest_1 : decode cX4_likeliest 1 = .ok (.invokestatic 139, 3) := by decide +kernel
theorem dX4_likeliest_4 : decode cX4_likeliest 4 = .ok (.ifCond .ne 5, 3) := by decide +kernel
theorem dX4_likeliest_7 : decode cX4_likeliest 7 = .ok (.iconst (-1), 1) := by decide +kernel
theorem dX4_likeliest_8 : decode cX4_likeliest 8 = .ok (.ireturn, 1) := by decide +kernel
theorem dX4_likeliest_9 : decode cX4_likeliest 9 = .ok (.aload_n 0, 1) := by decide +kernel
theorem dX4_likeliest_10 : decode cX4_likeliest 10 = .ok (.iload_n 1, 1) := by decide +kernel
theorem dX4_likeliest_11 : decode cX4_likeliest 11 = .ok (.invokevirtual 142, 3) := by decide +kernel
theorem dX4_likeliest_14 : decode cX4_likeliest 14 = .ok (.pop2, 1) := by decide +kernel
theorem dX4_likeliest_15 : decode cX4_likeliest 15 = .ok (.iconst 0, 1) := by decide +kernel
theorem dX4_likeliest_16 : decode cX4_likeliest 16 = .ok (.istore_n 2, 1) := by decide +kernel
theorem dX4_likeliest_17 : decode cX4_likeliest 17 = .ok (.iconst 1, 1) := by decide +kernel
theorem dX4_likeliest_18 : decode cX4_likeliest 18 = .ok (.istore_n 3, 1) := by decide +kernel
theorem dX4_likeliest_19 : decode cX4_likeliest 19 = .ok (.iload_n 3, 1) := by decide +kernel
theorem dX4_likeliest_20 : decode cX4_likeliest 20 = .ok (.bipush 10, 2) := by decide +kernel
theorem dX4_likeliest_22 : decode cX4_likeliest 22 = .ok (.if_icmp .gt 31, 3) := by decide +kernel
theorem dX4_likeliest_25 : decode cX4_likeliest 25 = .ok (.aload_n 0, 1) := by decide +kernel
theorem dX4_likeliest_26 : decode cX4_likeliest 26 = .ok (.getfield 41, 3) := by decide +kernel
theorem dX4_likeliest_29 : decode cX4_likeliest 29 = .ok (.iload_n 3, 1) := by decide +kernel
theorem dX4_likeliest_30 : decode cX4_likeliest 30 = .ok (.invokevirtual 146, 3) := by decide +kernel
theorem dX4_likeliest_33 : decode cX4_likeliest 33 = .ok (.aload_n 0, 1) := by decide +kernel
theorem dX4_likeliest_34 : decode cX4_likeliest 34 = .ok (.getfield 41, 3) := by decide +kernel
theorem dX4_likeliest_37 : decode cX4_likeliest 37 = .ok (.iload_n 2, 1) := by decide +kernel
theorem dX4_likeliest_38 : decode cX4_likeliest 38 = .ok (.invokevirtual 146, 3) := by decide +kernel
theorem dX4_likeliest_41 : decode cX4_likeliest 41 = .ok (.lcmp, 1) := by decide +kernel
theorem dX4_likeliest_42 : decode cX4_likeliest 42 = .ok (.ifCond .le 5, 3) := by decide +kernel
theorem dX4_likeliest_45 : decode cX4_likeliest 45 = .ok (.iload_n 3, 1) := by decide +kernel
theorem dX4_likeliest_46 : decode cX4_likeliest 46 = .ok (.istore_n 2, 1) := by decide +kernel
theorem dX4_likeliest_47 : decode cX4_likeliest 47 = .ok (.iinc 3 1, 3) := by decide +kernel
theorem dX4_likeliest_50 : decode cX4_likeliest 50 = .ok (.goto (-31), 3) := by decide +kernel
theorem dX4_likeliest_53 : decode cX4_likeliest 53 = .ok (.iload_n 2, 1) := by decide +kernel
theorem dX4_likeliest_54 : decode cX4_likeliest 54 = .ok (.ireturn, 1) := by decide +kernel
theorem dX4_level_0 : decode cX4_level 0 = .ok (.iload_n 1, 1) := by decide +kernel
theorem dX4_level_1 : decode cX4_level 1 = .ok (.iconst 0, 1) := by decide +kernel
theorem dX4_level_2 : decode cX4_level 2 = .ok (.bipush 20, 2) := by decide +kernel
theorem dX4_level_4 : decode cX4_level 4 = .ok (.invokestatic 69, 3) := by decide +kernel
theorem dX4_level_7 : decode cX4_level 7 = .ok (.ifCond .ne 5, 3) := by decide +kernel
theorem dX4_level_10 : decode cX4_level 10 = .ok (.iconst (-1), 1) := by decide +kernel
theorem dX4_level_11 : decode cX4_level 11 = .ok (.ireturn, 1) := by decide +kernel
theorem dX4_level_12 : decode cX4_level 12 = .ok (.aload_n 0, 1) := by decide +kernel
theorem dX4_level_13 : decode cX4_level 13 = .ok (.aload_n 0, 1) := by decide +kernel
theorem dX4_level_14 : decode cX4_level 14 = .ok (.getfield 19, 3) := by decide +kernel
theorem dX4_level_17 : decode cX4_level 17 = .ok (.getfield 156, 3) := by decide +kernel
theorem dX4_level_20 : decode cX4_level 20 = .ok (.aload_n 0, 1) := by decide +kernel
theorem dX4_level_21 : decode cX4_level 21 = .ok (.getfield 19, 3) := by decide +kernel
theorem dX4_level_24 : decode cX4_level 24 = .ok (.getfield 159, 3) := by decide +kernel
theorem dX4_level_27 : decode cX4_level 27 = .ok (.iconst 0, 1) := by decide +kernel
theorem dX4_level_28 : decode cX4_level 28 = .ok (.invokevirtual 162, 3) := by decide +kernel
theorem dX4_level_31 : decode cX4_level 31 = .ok (.aload_n 0, 1) := by decide +kernel
theorem dX4_level_32 : decode cX4_level 32 = .ok (.getfield 41, 3) := by decide +kernel
theorem dX4_level_35 : decode cX4_level 35 = .ok (.iload_n 1, 1) := by decide +kernel
theorem dX4_level_36 : decode cX4_level 36 = .ok (.invokevirtual 166, 3) := by decide +kernel
theorem dX4_level_39 : decode cX4_level 39 = .ok (.aload_n 0, 1) := by decide +kernel
theorem dX4_level_40 : decode cX4_level 40 = .ok (.getfield 41, 3) := by decide +kernel
theorem dX4_level_43 : decode cX4_level 43 = .ok (.invokevirtual 175, 3) := by decide +kernel
theorem dX4_level_46 : decode cX4_level 46 = .ok (.invokestatic 149, 3) := by decide +kernel
theorem dX4_level_49 : decode cX4_level 49 = .ok (.ireturn, 1) := by decide +kernel
theorem dX4_worth_0 : decode cX4_worth 0 = .ok (.iload_n 1, 1) := by decide +kernel
theorem dX4_worth_1 : decode cX4_worth 1 = .ok (.invokestatic 101, 3) := by decide +kernel
theorem dX4_worth_4 : decode cX4_worth 4 = .ok (.ifCond .ne 5, 3) := by decide +kernel
theorem dX4_worth_7 : decode cX4_worth 7 = .ok (.iconst (-1), 1) := by decide +kernel
theorem dX4_worth_8 : decode cX4_worth 8 = .ok (.ireturn, 1) := by decide +kernel
theorem dX4_worth_9 : decode cX4_worth 9 = .ok (.aload_n 0, 1) := by decide +kernel
theorem dX4_worth_10 : decode cX4_worth 10 = .ok (.getfield 19, 3) := by decide +kernel
theorem dX4_worth_13 : decode cX4_worth 13 = .ok (.iload_n 1, 1) := by decide +kernel
theorem dX4_worth_14 : decode cX4_worth 14 = .ok (.invokevirtual 105, 3) := by decide +kernel
theorem dX4_worth_17 : decode cX4_worth 17 = .ok (.bipush 10, 2) := by decide +kernel
theorem dX4_worth_19 : decode cX4_worth 19 = .ok (.if_icmp .lt 6, 3) := by decide +kernel
theorem dX4_worth_22 : decode cX4_worth 22 = .ok (.bipush (-3), 2) := by decide +kernel
theorem dX4_worth_24 : decode cX4_worth 24 = .ok (.ireturn, 1) := by decide +kernel
theorem dX4_worth_25 : decode cX4_worth 25 = .ok (.aload_n 0, 1) := by decide +kernel
theorem dX4_worth_26 : decode cX4_worth 26 = .ok (.aload_n 0, 1) := by decide +kernel
theorem dX4_worth_27 : decode cX4_worth 27 = .ok (.getfield 19, 3) := by decide +kernel
theorem dX4_worth_30 : decode cX4_worth 30 = .ok (.getfield 156, 3) := by decide +kernel
theorem dX4_worth_33 : decode cX4_worth 33 = .ok (.aload_n 0, 1) := by decide +kernel
theorem dX4_worth_34 : decode cX4_worth 34 = .ok (.getfield 19, 3) := by decide +kernel
theorem dX4_worth_37 : decode cX4_worth 37 = .ok (.getfield 159, 3) := by decide +kernel
theorem dX4_worth_40 : decode cX4_worth 40 = .ok (.invokevirtual 178, 3) := by decide +kernel
theorem dX4_worth_43 : decode cX4_worth 43 = .ok (.lstore_n 2, 1) := by decide +kernel
theorem dX4_worth_44 : decode cX4_worth 44 = .ok (.iload_n 1, 1) := by decide +kernel
theorem dX4_worth_45 : decode cX4_worth 45 = .ok (.ifCond .ne 26, 3) := by decide +kernel
theorem dX4_worth_48 : decode cX4_worth 48 = .ok (.aload_n 0, 1) := by decide +kernel
theorem dX4_worth_49 : decode cX4_worth 49 = .ok (.aload_n 0, 1) := by decide +kernel
theorem dX4_worth_50 : decode cX4_worth 50 = .ok (.getfield 19, 3) := by decide +kernel
theorem dX4_worth_53 : decode cX4_worth 53 = .ok (.getfield 156, 3) := by decide +kernel
theorem dX4_worth_56 : decode cX4_worth 56 = .ok (.iconst 1, 1) := by decide +kernel
theorem dX4_worth_57 : decode cX4_worth 57 = .ok (.iadd, 1) := by decide +kernel
theorem dX4_worth_58 : decode cX4_worth 58 = .ok (.aload_n 0, 1) := by decide +kernel
theorem dX4_worth_59 : decode cX4_worth 59 = .ok (.getfield 19, 3) := by decide +kernel
theorem dX4_worth_62 : decode cX4_worth 62 = .ok (.getfield 159, 3) := by decide +kernel
theorem dX4_worth_65 : decode cX4_worth 65 = .ok (.invokevirtual 178, 3) := by decide +kernel
theorem dX4_worth_68 : decode cX4_worth 68 = .ok (.goto 23, 3) := by decide +kernel
theorem dX4_worth_71 : decode cX4_worth 71 = .ok (.aload_n 0, 1) := by decide +kernel
theorem dX4_worth_72 : decode cX4_worth 72 = .ok (.aload_n 0, 1) := by decide +kernel
theorem dX4_worth_73 : decode cX4_worth 73 = .ok (.getfield 19, 3) := by decide +kernel
theorem dX4_worth_76 : decode cX4_worth 76 = .ok (.getfield 156, 3) := by decide +kernel
theorem dX4_worth_79 : decode cX4_worth 79 = .ok (.aload_n 0, 1) := by decide +kernel
theorem dX4_worth_80 : decode cX4_worth 80 = .ok (.getfield 19, 3) := by decide +kernel
theorem dX4_worth_83 : decode cX4_worth 83 = .ok (.getfield 159, 3) := by decide +kernel
theorem dX4_worth_86 : decode cX4_worth 86 = .ok (.iconst 1, 1) := by decide +kernel
theorem dX4_worth_87 : decode cX4_worth 87 = .ok (.iadd, 1) := by decide +kernel
theorem dX4_worth_88 : decode cX4_worth 88 = .ok (.invokevirtual 178, 3) := by decide +kernel
theorem dX4_worth_91 : decode cX4_worth 91 = .ok (.lstore 4, 2) := by decide +kernel
theorem dX4_worth_93 : decode cX4_worth 93 = .ok (.lload 4, 2) := by decide +kernel
theorem dX4_worth_95 : decode cX4_worth 95 = .ok (.lload_n 2, 1) := by decide +kernel
theorem dX4_worth_96 : decode cX4_worth 96 = .ok (.lsub, 1) := by decide +kernel
theorem dX4_worth_97 : decode cX4_worth 97 = .ok (.invokestatic 153, 3) := by decide +kernel
theorem dX4_worth_100 : decode cX4_worth 100 = .ok (.sipush 10000, 3) := by decide +kernel
theorem dX4_worth_103 : decode cX4_worth 103 = .ok (.iadd, 1) := by decide +kernel
theorem dX4_worth_104 : decode cX4_worth 104 = .ok (.ireturn, 1) := by decide +kernel
theorem dX4_begin_0 : decode cX4_begin 0 = .ok (.iload_n 1, 1) := by decide +kernel
theorem dX4_begin_1 : decode cX4_begin 1 = .ok (.iconst 0, 1) := by decide +kernel
theorem dX4_begin_2 : decode cX4_begin 2 = .ok (.bipush 20, 2) := by decide +kernel
theorem dX4_begin_4 : decode cX4_begin 4 = .ok (.invokestatic 69, 3) := by decide +kernel
theorem dX4_begin_7 : decode cX4_begin 7 = .ok (.ifCond .eq 20, 3) := by decide +kernel
theorem dX4_begin_10 : decode cX4_begin 10 = .ok (.iload_n 2, 1) := by decide +kernel
theorem dX4_begin_11 : decode cX4_begin 11 = .ok (.iconst 0, 1) := by decide +kernel
theorem dX4_begin_12 : decode cX4_begin 12 = .ok (.bipush 21, 2) := by decide +kernel
theorem dX4_begin_14 : decode cX4_begin 14 = .ok (.invokestatic 69, 3) := by decide +kernel
theorem dX4_begin_17 : decode cX4_begin 17 = .ok (.ifCond .eq 10, 3) := by decide +kernel
theorem dX4_begin_20 : decode cX4_begin 20 = .ok (.iload_n 3, 1) := by decide +kernel
theorem dX4_begin_21 : decode cX4_begin 21 = .ok (.invokestatic 182, 3) := by decide +kernel
theorem dX4_begin_24 : decode cX4_begin 24 = .ok (.ifCond .ne 5, 3) := by decide +kernel
theorem dX4_begin_27 : decode cX4_begin 27 = .ok (.iconst (-1), 1) := by decide +kernel
theorem dX4_begin_28 : decode cX4_begin 28 = .ok (.ireturn, 1) := by decide +kernel
theorem dX4_begin_29 : decode cX4_begin 29 = .ok (.iconst 0, 1) := by decide +kernel
theorem dX4_begin_30 : decode cX4_begin 30 = .ok (.istore 4, 2) := by decide +kernel
theorem dX4_begin_32 : decode cX4_begin 32 = .ok (.ldc2_w 185, 3) := by decide +kernel
theorem dX4_begin_35 : decode cX4_begin 35 = .ok (.lstore 5, 2) := by decide +kernel
theorem dX4_begin_37 : decode cX4_begin 37 = .ok (.iconst 0, 1) := by decide +kernel
theorem dX4_begin_38 : decode cX4_begin 38 = .ok (.istore 7, 2) := by decide +kernel
theorem dX4_begin_40 : decode cX4_begin 40 = .ok (.iload 7, 2) := by decide +kernel
theorem dX4_begin_42 : decode cX4_begin 42 = .ok (.bipush 10, 2) := by decide +kernel
theorem dX4_begin_44 : decode cX4_begin 44 = .ok (.if_icmp .gt 70, 3) := by decide +kernel
theorem dX4_begin_47 : decode cX4_begin 47 = .ok (.iload_n 1, 1) := by decide +kernel
theorem dX4_begin_48 : decode cX4_begin 48 = .ok (.iload 7, 2) := by decide +kernel
theorem dX4_begin_50 : decode cX4_begin 50 = .ok (.isub, 1) := by decide +kernel
theorem dX4_begin_51 : decode cX4_begin 51 = .ok (.iconst 0, 1) := by decide +kernel
theorem dX4_begin_52 : decode cX4_begin 52 = .ok (.bipush 10, 2) := by decide +kernel
theorem dX4_begin_54 : decode cX4_begin 54 = .ok (.invokestatic 69, 3) := by decide +kernel
theorem dX4_begin_57 : decode cX4_begin 57 = .ok (.ifCond .ne 6, 3) := by decide +kernel
theorem dX4_begin_60 : decode cX4_begin 60 = .ok (.goto 48, 3) := by decide +kernel
theorem dX4_begin_63 : decode cX4_begin 63 = .ok (.aload_n 0, 1) := by decide +kernel
theorem dX4_begin_64 : decode cX4_begin 64 = .ok (.iload 7, 2) := by decide +kernel
theorem dX4_begin_66 : decode cX4_begin 66 = .ok (.iload_n 1, 1) := by decide +kernel
theorem dX4_begin_67 : decode cX4_begin 67 = .ok (.iload 7, 2) := by decide +kernel
theorem dX4_begin_69 : decode cX4_begin 69 = .ok (.isub, 1) := by decide +kernel
theorem dX4_begin_70 : decode cX4_begin 70 = .ok (.iconst 0, 1) := by decide +kernel
theorem dX4_begin_71 : decode cX4_begin 71 = .ok (.invokevirtual 162, 3) := by decide +kernel
theorem dX4_begin_74 : decode cX4_begin 74 = .ok (.aload_n 0, 1) := by decide +kernel
theorem dX4_begin_75 : decode cX4_begin 75 = .ok (.getfield 41, 3) := by decide +kernel
theorem dX4_begin_78 : decode cX4_begin 78 = .ok (.iload_n 2, 1) := by decide +kernel
theorem dX4_begin_79 : decode cX4_begin 79 = .ok (.invokevirtual 166, 3) := by decide +kernel
theorem dX4_begin_82 : decode cX4_begin 82 = .ok (.aload_n 0, 1) := by decide +kernel
theorem dX4_begin_83 : decode cX4_begin 83 = .ok (.getfield 41, 3) := by decide +kernel
theorem dX4_begin_86 : decode cX4_begin 86 = .ok (.invokevirtual 171, 3) := by decide +kernel
theorem dX4_begin_89 : decode cX4_begin 89 = .ok (.lload 5, 2) := by decide +kernel
theorem dX4_begin_91 : decode cX4_begin 91 = .ok (.lcmp, 1) := by decide +kernel
theorem dX4_begin_92 : decode cX4_begin 92 = .ok (.ifCond .le 16, 3) := by decide +kernel
theorem dX4_begin_95 : decode cX4_begin 95 = .ok (.iload 7, 2) := by decide +kernel
theorem dX4_begin_97 : decode cX4_begin 97 = .ok (.istore 4, 2) := by decide +kernel
theorem dX4_begin_99 : decode cX4_begin 99 = .ok (.aload_n 0, 1) := by decide +kernel
theorem dX4_begin_100 : decode cX4_begin 100 = .ok (.getfield 41, 3) := by decide +kernel
theorem dX4_begin_103 : decode cX4_begin 103 = .ok (.invokevirtual 171, 3) := by decide +kernel
theorem dX4_begin_106 : decode cX4_begin 106 = .ok (.lstore 5, 2) := by decide +kernel
theorem dX4_begin_108 : decode cX4_begin 108 = .ok (.iinc 7 1, 3) := by decide +kernel
theorem dX4_begin_111 : decode cX4_begin 111 = .ok (.goto (-71), 3) := by decide +kernel
theorem dX4_begin_114 : decode cX4_begin 114 = .ok (.iload_n 3, 1) := by decide +kernel
theorem dX4_begin_115 : decode cX4_begin 115 = .ok (.ifCond .ne 8, 3) := by decide +kernel
theorem dX4_begin_118 : decode cX4_begin 118 = .ok (.iload 4, 2) := by decide +kernel
theorem dX4_begin_120 : decode cX4_begin 120 = .ok (.goto 8, 3) := by decide +kernel
theorem dX4_begin_123 : decode cX4_begin 123 = .ok (.lload 5, 2) := by decide +kernel
theorem dX4_begin_125 : decode cX4_begin 125 = .ok (.invokestatic 149, 3) := by decide +kernel
theorem dX4_begin_128 : decode cX4_begin 128 = .ok (.ireturn, 1) := by decide +kernel
theorem dX4_over_0 : decode cX4_over 0 = .ok (.iload_n 1, 1) := by decide +kernel
theorem dX4_over_1 : decode cX4_over 1 = .ok (.invokestatic 182, 3) := by decide +kernel
theorem dX4_over_4 : decode cX4_over 4 = .ok (.ifCond .ne 5, 3) := by decide +kernel
theorem dX4_over_7 : decode cX4_over 7 = .ok (.iconst (-1), 1) := by decide +kernel
theorem dX4_over_8 : decode cX4_over 8 = .ok (.ireturn, 1) := by decide +kernel
theorem dX4_over_9 : decode cX4_over 9 = .ok (.iconst 0, 1) := by decide +kernel
theorem dX4_over_10 : decode cX4_over 10 = .ok (.istore_n 2, 1) := by decide +kernel
theorem dX4_over_11 : decode cX4_over 11 = .ok (.aload_n 0, 1) := by decide +kernel
theorem dX4_over_12 : decode cX4_over 12 = .ok (.aload_n 0, 1) := by decide +kernel
theorem dX4_over_13 : decode cX4_over 13 = .ok (.getfield 19, 3) := by decide +kernel
theorem dX4_over_16 : decode cX4_over 16 = .ok (.getfield 156, 3) := by decide +kernel
theorem dX4_over_19 : decode cX4_over 19 = .ok (.aload_n 0, 1) := by decide +kernel
theorem dX4_over_20 : decode cX4_over 20 = .ok (.getfield 19, 3) := by decide +kernel
theorem dX4_over_23 : decode cX4_over 23 = .ok (.getfield 159, 3) := by decide +kernel
theorem dX4_over_26 : decode cX4_over 26 = .ok (.invokevirtual 178, 3) := by decide +kernel
theorem dX4_over_29 : decode cX4_over 29 = .ok (.lstore_n 3, 1) := by decide +kernel
theorem dX4_over_30 : decode cX4_over 30 = .ok (.iconst 1, 1) := by decide +kernel
theorem dX4_over_31 : decode cX4_over 31 = .ok (.istore 5, 2) := by decide +kernel
theorem dX4_over_33 : decode cX4_over 33 = .ok (.iload 5, 2) := by decide +kernel
theorem dX4_over_35 : decode cX4_over 35 = .ok (.bipush 10, 2) := by decide +kernel
theorem dX4_over_37 : decode cX4_over 37 = .ok (.if_icmp .gt 88, 3) := by decide +kernel
theorem dX4_over_40 : decode cX4_over 40 = .ok (.aload_n 0, 1) := by decide +kernel
theorem dX4_over_41 : decode cX4_over 41 = .ok (.aload_n 0, 1) := by decide +kernel
theorem dX4_over_42 : decode cX4_over 42 = .ok (.getfield 19, 3) := by decide +kernel
theorem dX4_over_45 : decode cX4_over 45 = .ok (.getfield 156, 3) := by decide +kernel
theorem dX4_over_48 : decode cX4_over 48 = .ok (.iload 5, 2) := by decide +kernel
theorem dX4_over_50 : decode cX4_over 50 = .ok (.isub, 1) := by decide +kernel
theorem dX4_over_51 : decode cX4_over 51 = .ok (.aload_n 0, 1) := by decide +kernel
theorem dX4_over_52 : decode cX4_over 52 = .ok (.getfield 19, 3) := by decide +kernel
theorem dX4_over_55 : decode cX4_over 55 = .ok (.getfield 159, 3) := by decide +kernel
theorem dX4_over_58 : decode cX4_over 58 = .ok (.iload 5, 2) := by decide +kernel
theorem dX4_over_60 : decode cX4_over 60 = .ok (.iadd, 1) := by decide +kernel
theorem dX4_over_61 : decode cX4_over 61 = .ok (.invokevirtual 178, 3) := by decide +kernel
theorem dX4_over_64 : decode cX4_over 64 = .ok (.lstore 6, 2) := by decide +kernel
theorem dX4_over_66 : decode cX4_over 66 = .ok (.lload 6, 2) := by decide +kernel
theorem dX4_over_68 : decode cX4_over 68 = .ok (.lload_n 3, 1) := by decide +kernel
theorem dX4_over_69 : decode cX4_over 69 = .ok (.lcmp, 1) := by decide +kernel
theorem dX4_over_70 : decode cX4_over 70 = .ok (.ifCond .le 9, 3) := by decide +kernel
theorem dX4_over_73 : decode cX4_over 73 = .ok (.iload 5, 2) := by decide +kernel
theorem dX4_over_75 : decode cX4_over 75 = .ok (.istore_n 2, 1) := by decide +kernel
theorem dX4_over_76 : decode cX4_over 76 = .ok (.lload 6, 2) := by decide +kernel
theorem dX4_over_78 : decode cX4_over 78 = .ok (.lstore_n 3, 1) := by decide +kernel
theorem dX4_over_79 : decode cX4_over 79 = .ok (.aload_n 0, 1) := by decide +kernel
theorem dX4_over_80 : decode cX4_over 80 = .ok (.aload_n 0, 1) := by decide +kernel
theorem dX4_over_81 : decode cX4_over 81 = .ok (.getfield 19, 3) := by decide +kernel
theorem dX4_over_84 : decode cX4_over 84 = .ok (.getfield 156, 3) := by decide +kernel
theorem dX4_over_87 : decode cX4_over 87 = .ok (.iload 5, 2) := by decide +kernel
theorem dX4_over_89 : decode cX4_over 89 = .ok (.iadd, 1) := by decide +kernel
theorem dX4_over_90 : decode cX4_over 90 = .ok (.aload_n 0, 1) := by decide +kernel
theorem dX4_over_91 : decode cX4_over 91 = .ok (.getfield 19, 3) := by decide +kernel
theorem dX4_over_94 : decode cX4_over 94 = .ok (.getfield 159, 3) := by decide +kernel
theorem dX4_over_97 : decode cX4_over 97 = .ok (.iload 5, 2) := by decide +kernel
theorem dX4_over_99 : decode cX4_over 99 = .ok (.isub, 1) := by decide +kernel
theorem dX4_over_100 : decode cX4_over 100 = .ok (.invokevirtual 178, 3) := by decide +kernel
theorem dX4_over_103 : decode cX4_over 103 = .ok (.lstore 8, 2) := by decide +kernel
theorem dX4_over_105 : decode cX4_over 105 = .ok (.lload 8, 2) := by decide +kernel
theorem dX4_over_107 : decode cX4_over 107 = .ok (.lload_n 3, 1) := by decide +kernel
theorem dX4_over_108 : decode cX4_over 108 = .ok (.lcmp, 1) := by decide +kernel
theorem dX4_over_109 : decode cX4_over 109 = .ok (.ifCond .le 10, 3) := by decide +kernel
theorem dX4_over_112 : decode cX4_over 112 = .ok (.iload 5, 2) := by decide +kernel
theorem dX4_over_114 : decode cX4_over 114 = .ok (.ineg, 1) := by decide +kernel
theorem dX4_over_115 : decode cX4_over 115 = .ok (.istore_n 2, 1) := by decide +kernel
theorem dX4_over_116 : decode cX4_over 116 = .ok (.lload 8, 2) := by decide +kernel
theorem dX4_over_118 : decode cX4_over 118 = .ok (.lstore_n 3, 1) := by decide +kernel
theorem dX4_over_119 : decode cX4_over 119 = .ok (.iinc 5 1, 3) := by decide +kernel
theorem dX4_over_122 : decode cX4_over 122 = .ok (.goto (-89), 3) := by decide +kernel
theorem dX4_over_125 : decode cX4_over 125 = .ok (.iload_n 1, 1) := by decide +kernel
theorem dX4_over_126 : decode cX4_over 126 = .ok (.ifCond .ne 10, 3) := by decide +kernel
theorem dX4_over_129 : decode cX4_over 129 = .ok (.iload_n 2, 1) := by decide +kernel
theorem dX4_over_130 : decode cX4_over 130 = .ok (.bipush 10, 2) := by decide +kernel
theorem dX4_over_132 : decode cX4_over 132 = .ok (.iadd, 1) := by decide +kernel
theorem dX4_over_133 : decode cX4_over 133 = .ok (.goto 7, 3) := by decide +kernel
theorem dX4_over_136 : decode cX4_over 136 = .ok (.lload_n 3, 1) := by decide +kernel
theorem dX4_over_137 : decode cX4_over 137 = .ok (.invokestatic 153, 3) := by decide +kernel
theorem dX4_over_140 : decode cX4_over 140 = .ok (.ireturn, 1) := by decide +kernel
theorem dX4_seen_0 : decode cX4_seen 0 = .ok (.iload_n 1, 1) := by decide +kernel
theorem dX4_seen_1 : decode cX4_seen 1 = .ok (.iconst 0, 1) := by decide +kernel
theorem dX4_seen_2 : decode cX4_seen 2 = .ok (.bipush 10, 2) := by decide +kernel
theorem dX4_seen_4 : decode cX4_seen 4 = .ok (.invokestatic 69, 3) := by decide +kernel
theorem dX4_seen_7 : decode cX4_seen 7 = .ok (.ifCond .eq 13, 3) := by decide +kernel
theorem dX4_seen_10 : decode cX4_seen 10 = .ok (.iload_n 2, 1) := by decide +kernel
theorem dX4_seen_11 : decode cX4_seen 11 = .ok (.iconst 0, 1) := by decide +kernel
theorem dX4_seen_12 : decode cX4_seen 12 = .ok (.bipush 10, 2) := by decide +kernel
theorem dX4_seen_14 : decode cX4_seen 14 = .ok (.invokestatic 69, 3) := by decide +kernel
theorem dX4_seen_17 : decode cX4_seen 17 = .ok (.ifCond .ne 5, 3) := by decide +kernel
theorem dX4_seen_20 : decode cX4_seen 20 = .ok (.iconst (-1), 1) := by decide +kernel
theorem dX4_seen_21 : decode cX4_seen 21 = .ok (.ireturn, 1) := by decide +kernel
theorem dX4_seen_22 : decode cX4_seen 22 = .ok (.aload_n 0, 1) := by decide +kernel
theorem dX4_seen_23 : decode cX4_seen 23 = .ok (.getfield 52, 3) := by decide +kernel
theorem dX4_seen_26 : decode cX4_seen 26 = .ok (.iconst 0, 1) := by decide +kernel
theorem dX4_seen_27 : decode cX4_seen 27 = .ok (.iconst 5, 1) := by decide +kernel
theorem dX4_seen_28 : decode cX4_seen 28 = .ok (.invokestatic 69, 3) := by decide +kernel
theorem dX4_seen_31 : decode cX4_seen 31 = .ok (.ifCond .ne 6, 3) := by decide +kernel
theorem dX4_seen_34 : decode cX4_seen 34 = .ok (.bipush (-3), 2) := by decide +kernel
theorem dX4_seen_36 : decode cX4_seen 36 = .ok (.ireturn, 1) := by decide +kernel
theorem dX4_seen_37 : decode cX4_seen 37 = .ok (.aload_n 0, 1) := by decide +kernel
theorem dX4_seen_38 : decode cX4_seen 38 = .ok (.getfield 45, 3) := by decide +kernel
theorem dX4_seen_41 : decode cX4_seen 41 = .ok (.aload_n 0, 1) := by decide +kernel
theorem dX4_seen_42 : decode cX4_seen 42 = .ok (.getfield 52, 3) := by decide +kernel
theorem dX4_seen_45 : decode cX4_seen 45 = .ok (.iload_n 1, 1) := by decide +kernel
theorem dX4_seen_46 : decode cX4_seen 46 = .ok (.iastore, 1) := by decide +kernel
theorem dX4_seen_47 : decode cX4_seen 47 = .ok (.aload_n 0, 1) := by decide +kernel
theorem dX4_seen_48 : decode cX4_seen 48 = .ok (.getfield 49, 3) := by decide +kernel
theorem dX4_seen_51 : decode cX4_seen 51 = .ok (.aload_n 0, 1) := by decide +kernel
theorem dX4_seen_52 : decode cX4_seen 52 = .ok (.getfield 52, 3) := by decide +kernel
theorem dX4_seen_55 : decode cX4_seen 55 = .ok (.iload_n 2, 1) := by decide +kernel
theorem dX4_seen_56 : decode cX4_seen 56 = .ok (.iastore, 1) := by decide +kernel
theorem dX4_seen_57 : decode cX4_seen 57 = .ok (.aload_n 0, 1) := by decide +kernel
theorem dX4_seen_58 : decode cX4_seen 58 = .ok (.dup, 1) := by decide +kernel
theorem dX4_seen_59 : decode cX4_seen 59 = .ok (.getfield 52, 3) := by decide +kernel
theorem dX4_seen_62 : decode cX4_seen 62 = .ok (.iconst 1, 1) := by decide +kernel
theorem dX4_seen_63 : decode cX4_seen 63 = .ok (.iadd, 1) := by decide +kernel
theorem dX4_seen_64 : decode cX4_seen 64 = .ok (.putfield 52, 3) := by decide +kernel
theorem dX4_seen_67 : decode cX4_seen 67 = .ok (.aload_n 0, 1) := by decide +kernel
theorem dX4_seen_68 : decode cX4_seen 68 = .ok (.getfield 52, 3) := by decide +kernel
theorem dX4_seen_71 : decode cX4_seen 71 = .ok (.ireturn, 1) := by decide +kernel
theorem dX4_forget_0 : decode cX4_forget 0 = .ok (.aload_n 0, 1) := by decide +kernel
theorem dX4_forget_1 : decode cX4_forget 1 = .ok (.getfield 52, 3) := by decide +kernel
theorem dX4_forget_4 : decode cX4_forget 4 = .ok (.istore_n 1, 1) := by decide +kernel
theorem dX4_forget_5 : decode cX4_forget 5 = .ok (.aload_n 0, 1) := by decide +kernel
theorem dX4_forget_6 : decode cX4_forget 6 = .ok (.iconst 0, 1) := by decide +kernel
theorem dX4_forget_7 : decode cX4_forget 7 = .ok (.putfield 52, 3) := by decide +kernel
theorem dX4_forget_10 : decode cX4_forget 10 = .ok (.iload_n 1, 1) := by decide +kernel
theorem dX4_forget_11 : decode cX4_forget 11 = .ok (.ireturn, 1) := by decide +kernel
theorem dX4_fits_0 : decode cX4_fits 0 = .ok (.iconst 0, 1) := by decide +kernel
theorem dX4_fits_1 : decode cX4_fits 1 = .ok (.istore_n 1, 1) := by decide +kernel
theorem dX4_fits_2 : decode cX4_fits 2 = .ok (.iconst 0, 1) := by decide +kernel
theorem dX4_fits_3 : decode cX4_fits 3 = .ok (.istore_n 2, 1) := by decide +kernel
theorem dX4_fits_4 : decode cX4_fits 4 = .ok (.iload_n 2, 1) := by decide +kernel
theorem dX4_fits_5 : decode cX4_fits 5 = .ok (.iconst 3, 1) := by decide +kernel
theorem dX4_fits_6 : decode cX4_fits 6 = .ok (.if_icmp .gt 23, 3) := by decide +kernel
theorem dX4_fits_9 : decode cX4_fits 9 = .ok (.aload_n 0, 1) := by decide +kernel
theorem dX4_fits_10 : decode cX4_fits 10 = .ok (.iload_n 2, 1) := by decide +kernel
theorem dX4_fits_11 : decode cX4_fits 11 = .ok (.invokevirtual 187, 3) := by decide +kernel
theorem dX4_fits_14 : decode cX4_fits 14 = .ok (.ifCond .lt 9, 3) := by decide +kernel
theorem dX4_fits_17 : decode cX4_fits 17 = .ok (.iload_n 1, 1) := by decide +kernel
theorem dX4_fits_18 : decode cX4_fits 18 = .ok (.iconst 1, 1) := by decide +kernel
theorem dX4_fits_19 : decode cX4_fits 19 = .ok (.iload_n 2, 1) := by decide +kernel
theorem dX4_fits_20 : decode cX4_fits 20 = .ok (.ishl, 1) := by decide +kernel
theorem dX4_fits_21 : decode cX4_fits 21 = .ok (.ior, 1) := by decide +kernel
theorem dX4_fits_22 : decode cX4_fits 22 = .ok (.istore_n 1, 1) := by decide +kernel
theorem dX4_fits_23 : decode cX4_fits 23 = .ok (.iinc 2 1, 3) := by decide +kernel
theorem dX4_fits_26 : decode cX4_fits 26 = .ok (.goto (-22), 3) := by decide +kernel
theorem dX4_fits_29 : decode cX4_fits 29 = .ok (.iload_n 1, 1) := by decide +kernel
theorem dX4_fits_30 : decode cX4_fits 30 = .ok (.ireturn, 1) := by decide +kernel
theorem dX4_asLikely_0 : decode cX4_asLikely 0 = .ok (.iload_n 1, 1) := by decide +kernel
theorem dX4_asLikely_1 : decode cX4_asLikely 1 = .ok (.invokestatic 190, 3) := by decide +kernel
theorem dX4_asLikely_4 : decode cX4_asLikely 4 = .ok (.ifCond .eq 10, 3) := by decide +kernel
theorem dX4_asLikely_7 : decode cX4_asLikely 7 = .ok (.iload_n 2, 1) := by decide +kernel
theorem dX4_asLikely_8 : decode cX4_asLikely 8 = .ok (.invokestatic 182, 3) := by decide +kernel
theorem dX4_asLikely_11 : decode cX4_asLikely 11 = .ok (.ifCond .ne 5, 3) := by decide +kernel
theorem dX4_asLikely_14 : decode cX4_asLikely 14 = .ok (.iconst (-1), 1) := by decide +kernel
theorem dX4_asLikely_15 : decode cX4_asLikely 15 = .ok (.ireturn, 1) := by decide +kernel
theorem dX4_asLikely_16 : decode cX4_asLikely 16 = .ok (.aload_n 0, 1) := by decide +kernel
theorem dX4_asLikely_17 : decode cX4_asLikely 17 = .ok (.iload_n 1, 1) := by decide +kernel
theorem dX4_asLikely_18 : decode cX4_asLikely 18 = .ok (.invokevirtual 187, 3) := by decide +kernel
theorem dX4_asLikely_21 : decode cX4_asLikely 21 = .ok (.istore_n 3, 1) := by decide +kernel
theorem dX4_asLikely_22 : decode cX4_asLikely 22 = .ok (.iload_n 3, 1) := by decide +kernel
theorem dX4_asLikely_23 : decode cX4_asLikely 23 = .ok (.ifCond .ge 6, 3) := by decide +kernel
theorem dX4_asLikely_26 : decode cX4_asLikely 26 = .ok (.bipush (-4), 2) := by decide +kernel
theorem dX4_asLikely_28 : decode cX4_asLikely 28 = .ok (.ireturn, 1) := by decide +kernel
theorem dX4_asLikely_29 : decode cX4_asLikely 29 = .ok (.iload_n 2, 1) := by decide +kernel
theorem dX4_asLikely_30 : decode cX4_asLikely 30 = .ok (.ifCond .ne 7, 3) := by decide +kernel
theorem dX4_asLikely_33 : decode cX4_asLikely 33 = .ok (.iload_n 3, 1) := by decide +kernel
theorem dX4_asLikely_34 : decode cX4_asLikely 34 = .ok (.goto 12, 3) := by decide +kernel
theorem dX4_asLikely_37 : decode cX4_asLikely 37 = .ok (.aload_n 0, 1) := by decide +kernel
theorem dX4_asLikely_38 : decode cX4_asLikely 38 = .ok (.iload_n 1, 1) := by decide +kernel
theorem dX4_asLikely_39 : decode cX4_asLikely 39 = .ok (.iload_n 3, 1) := by decide +kernel
theorem dX4_asLikely_40 : decode cX4_asLikely 40 = .ok (.invokevirtual 193, 3) := by decide +kernel
theorem dX4_asLikely_43 : decode cX4_asLikely 43 = .ok (.invokestatic 149, 3) := by decide +kernel
theorem dX4_asLikely_46 : decode cX4_asLikely 46 = .ok (.ireturn, 1) := by decide +kernel
theorem dX4_evenings_0 : decode cX4_evenings 0 = .ok (.iload_n 1, 1) := by decide +kernel
theorem dX4_evenings_1 : decode cX4_evenings 1 = .ok (.iconst 1, 1) := by decide +kernel
theorem dX4_evenings_2 : decode cX4_evenings 2 = .ok (.sipush 9999, 3) := by decide +kernel
theorem dX4_evenings_5 : decode cX4_evenings 5 = .ok (.invokestatic 69, 3) := by decide +kernel
theorem dX4_evenings_8 : decode cX4_evenings 8 = .ok (.ifCond .ne 5, 3) := by decide +kernel
theorem dX4_evenings_11 : decode cX4_evenings 11 = .ok (.iconst (-1), 1) := by decide +kernel
theorem dX4_evenings_12 : decode cX4_evenings 12 = .ok (.ireturn, 1) := by decide +kernel
theorem dX4_evenings_13 : decode cX4_evenings 13 = .ok (.aload_n 0, 1) := by decide +kernel
theorem dX4_evenings_14 : decode cX4_evenings 14 = .ok (.aload_n 0, 1) := by decide +kernel
theorem dX4_evenings_15 : decode cX4_evenings 15 = .ok (.getfield 19, 3) := by decide +kernel
theorem dX4_evenings_18 : decode cX4_evenings 18 = .ok (.getfield 156, 3) := by decide +kernel
theorem dX4_evenings_21 : decode cX4_evenings 21 = .ok (.aload_n 0, 1) := by decide +kernel
theorem dX4_evenings_22 : decode cX4_evenings 22 = .ok (.getfield 19, 3) := by decide +kernel
theorem dX4_evenings_25 : decode cX4_evenings 25 = .ok (.getfield 159, 3) := by decide +kernel
theorem dX4_evenings_28 : decode cX4_evenings 28 = .ok (.iconst 0, 1) := by decide +kernel
theorem dX4_evenings_29 : decode cX4_evenings 29 = .ok (.invokevirtual 162, 3) := by decide +kernel
theorem dX4_evenings_32 : decode cX4_evenings 32 = .ok (.iconst 0, 1) := by decide +kernel
theorem dX4_evenings_33 : decode cX4_evenings 33 = .ok (.istore_n 2, 1) := by decide +kernel
theorem dX4_evenings_34 : decode cX4_evenings 34 = .ok (.iconst 1, 1) := by decide +kernel
theorem dX4_evenings_35 : decode cX4_evenings 35 = .ok (.istore_n 3, 1) := by decide +kernel
theorem dX4_evenings_36 : decode cX4_evenings 36 = .ok (.iload_n 3, 1) := by decide +kernel
theorem dX4_evenings_37 : decode cX4_evenings 37 = .ok (.bipush 7, 2) := by decide +kernel
theorem dX4_evenings_39 : decode cX4_evenings 39 = .ok (.if_icmp .gt 43, 3) := by decide +kernel
theorem dX4_evenings_42 : decode cX4_evenings 42 = .ok (.aload_n 0, 1) := by decide +kernel
theorem dX4_evenings_43 : decode cX4_evenings 43 = .ok (.getfield 41, 3) := by decide +kernel
theorem dX4_evenings_46 : decode cX4_evenings 46 = .ok (.aload_n 0, 1) := by decide +kernel
theorem dX4_evenings_47 : decode cX4_evenings 47 = .ok (.getfield 56, 3) := by decide +kernel
theorem dX4_evenings_50 : decode cX4_evenings 50 = .ok (.invokevirtual 166, 3) := by decide +kernel
theorem dX4_evenings_53 : decode cX4_evenings 53 = .ok (.aload_n 0, 1) := by decide +kernel
theorem dX4_evenings_54 : decode cX4_evenings 54 = .ok (.getfield 41, 3) := by decide +kernel
theorem dX4_evenings_57 : decode cX4_evenings 57 = .ok (.invokevirtual 171, 3) := by decide +kernel
theorem dX4_evenings_60 : decode cX4_evenings 60 = .ok (.ldc2_w 196, 3) := by decide +kernel
theorem dX4_evenings_63 : decode cX4_evenings 63 = .ok (.lmul, 1) := by decide +kernel
theorem dX4_evenings_64 : decode cX4_evenings 64 = .ok (.iload_n 1, 1) := by decide +kernel
theorem dX4_evenings_65 : decode cX4_evenings 65 = .ok (.i2l, 1) := by decide +kernel
theorem dX4_evenings_66 : decode cX4_evenings 66 = .ok (.ldc2_w 169, 3) := by decide +kernel
theorem dX4_evenings_69 : decode cX4_evenings 69 = .ok (.lmul, 1) := by decide +kernel
theorem dX4_evenings_70 : decode cX4_evenings 70 = .ok (.lcmp, 1) := by decide +kernel
theorem dX4_evenings_71 : decode cX4_evenings 71 = .ok (.ifCond .le 5, 3) := by decide +kernel
theorem dX4_evenings_74 : decode cX4_evenings 74 = .ok (.iload_n 3, 1) := by decide +kernel
theorem dX4_evenings_75 : decode cX4_evenings 75 = .ok (.istore_n 2, 1) := by decide +kernel
theorem dX4_evenings_76 : decode cX4_evenings 76 = .ok (.iinc 3 1, 3) := by decide +kernel
theorem dX4_evenings_79 : decode cX4_evenings 79 = .ok (.goto (-43), 3) := by decide +kernel
theorem dX4_evenings_82 : decode cX4_evenings 82 = .ok (.iload_n 2, 1) := by decide +kernel
theorem dX4_evenings_83 : decode cX4_evenings 83 = .ok (.ireturn, 1) := by decide +kernel
theorem dX4_which_0 : decode cX4_which 0 = .ok (.aload_n 0, 1) := by decide +kernel
theorem dX4_which_1 : decode cX4_which 1 = .ok (.iconst 0, 1) := by decide +kernel
theorem dX4_which_2 : decode cX4_which 2 = .ok (.invokevirtual 142, 3) := by decide +kernel
theorem dX4_which_5 : decode cX4_which 5 = .ok (.pop2, 1) := by decide +kernel
theorem dX4_which_6 : decode cX4_which 6 = .ok (.aload_n 0, 1) := by decide +kernel
theorem dX4_which_7 : decode cX4_which 7 = .ok (.getfield 41, 3) := by decide +kernel
theorem dX4_which_10 : decode cX4_which 10 = .ok (.invokevirtual 198, 3) := by decide +kernel
theorem dX4_which_13 : decode cX4_which 13 = .ok (.invokestatic 149, 3) := by decide +kernel
theorem dX4_which_16 : decode cX4_which 16 = .ok (.ireturn, 1) := by decide +kernel
theorem dX4_better_0 : decode cX4_better 0 = .ok (.iload_n 1, 1) := by decide +kernel
theorem dX4_better_1 : decode cX4_better 1 = .ok (.iload_n 2, 1) := by decide +kernel
theorem dX4_better_2 : decode cX4_better 2 = .ok (.invokestatic 124, 3) := by decide +kernel
theorem dX4_better_5 : decode cX4_better 5 = .ok (.ifCond .eq 12, 3) := by decide +kernel
theorem dX4_better_8 : decode cX4_better 8 = .ok (.iload_n 3, 1) := by decide +kernel
theorem dX4_better_9 : decode cX4_better 9 = .ok (.iload 4, 2) := by decide +kernel
theorem dX4_better_11 : decode cX4_better 11 = .ok (.invokestatic 124, 3) := by decide +kernel
theorem dX4_better_14 : decode cX4_better 14 = .ok (.ifCond .ne 5, 3) := by decide +kernel
theorem dX4_better_17 : decode cX4_better 17 = .ok (.iconst (-1), 1) := by decide +kernel
theorem dX4_better_18 : decode cX4_better 18 = .ok (.ireturn, 1) := by decide +kernel
theorem dX4_better_19 : decode cX4_better 19 = .ok (.aload_n 0, 1) := by decide +kernel
theorem dX4_better_20 : decode cX4_better 20 = .ok (.iload_n 1, 1) := by decide +kernel
theorem dX4_better_21 : decode cX4_better 21 = .ok (.iload_n 2, 1) := by decide +kernel
theorem dX4_better_22 : decode cX4_better 22 = .ok (.invokevirtual 201, 3) := by decide +kernel
theorem dX4_better_25 : decode cX4_better 25 = .ok (.lstore 5, 2) := by decide +kernel
theorem dX4_better_27 : decode cX4_better 27 = .ok (.aload_n 0, 1) := by decide +kernel
theorem dX4_better_28 : decode cX4_better 28 = .ok (.iload_n 3, 1) := by decide +kernel
theorem dX4_better_29 : decode cX4_better 29 = .ok (.iload 4, 2) := by decide +kernel
theorem dX4_better_31 : decode cX4_better 31 = .ok (.invokevirtual 201, 3) := by decide +kernel
theorem dX4_better_34 : decode cX4_better 34 = .ok (.lstore 7, 2) := by decide +kernel
theorem dX4_better_36 : decode cX4_better 36 = .ok (.lload 5, 2) := by decide +kernel
theorem dX4_better_38 : decode cX4_better 38 = .ok (.lload 7, 2) := by decide +kernel
theorem dX4_better_40 : decode cX4_better 40 = .ok (.lcmp, 1) := by decide +kernel
theorem dX4_better_41 : decode cX4_better 41 = .ok (.ifCond .ne 5, 3) := by decide +kernel
theorem dX4_better_44 : decode cX4_better 44 = .ok (.iconst 0, 1) := by decide +kernel
theorem dX4_better_45 : decode cX4_better 45 = .ok (.ireturn, 1) := by decide +kernel
theorem dX4_better_46 : decode cX4_better 46 = .ok (.lload 5, 2) := by decide +kernel
theorem dX4_better_48 : decode cX4_better 48 = .ok (.lload 7, 2) := by decide +kernel
theorem dX4_better_50 : decode cX4_better 50 = .ok (.lcmp, 1) := by decide +kernel
theorem dX4_better_51 : decode cX4_better 51 = .ok (.ifCond .le 7, 3) := by decide +kernel
theorem dX4_better_54 : decode cX4_better 54 = .ok (.iconst 1, 1) := by decide +kernel
theorem dX4_better_55 : decode cX4_better 55 = .ok (.goto 4, 3) := by decide +kernel
theorem dX4_better_58 : decode cX4_better 58 = .ok (.iconst 2, 1) := by decide +kernel
theorem dX4_better_59 : decode cX4_better 59 = .ok (.ireturn, 1) := by decide +kernel
theorem dX4_coat_0 : decode cX4_coat 0 = .ok (.iload_n 1, 1) := by decide +kernel
theorem dX4_coat_1 : decode cX4_coat 1 = .ok (.iconst 0, 1) := by decide +kernel
theorem dX4_coat_2 : decode cX4_coat 2 = .ok (.sipush 9999, 3) := by decide +kernel
theorem dX4_coat_5 : decode cX4_coat 5 = .ok (.invokestatic 69, 3) := by decide +kernel
theorem dX4_coat_8 : decode cX4_coat 8 = .ok (.ifCond .eq 20, 3) := by decide +kernel
theorem dX4_coat_11 : decode cX4_coat 11 = .ok (.iload_n 2, 1) := by decide +kernel
theorem dX4_coat_12 : decode cX4_coat 12 = .ok (.iconst 1, 1) := by decide +kernel
theorem dX4_coat_13 : decode cX4_coat 13 = .ok (.bipush 60, 2) := by decide +kernel
theorem dX4_coat_15 : decode cX4_coat 15 = .ok (.invokestatic 69, 3) := by decide +kernel
theorem dX4_coat_18 : decode cX4_coat 18 = .ok (.ifCond .eq 10, 3) := by decide +kernel
theorem dX4_coat_21 : decode cX4_coat 21 = .ok (.iload_n 3, 1) := by decide +kernel
theorem dX4_coat_22 : decode cX4_coat 22 = .ok (.invokestatic 182, 3) := by decide +kernel
theorem dX4_coat_25 : decode cX4_coat 25 = .ok (.ifCond .ne 5, 3) := by decide +kernel
theorem dX4_coat_28 : decode cX4_coat 28 = .ok (.iconst (-1), 1) := by decide +kernel
theorem dX4_coat_29 : decode cX4_coat 29 = .ok (.ireturn, 1) := by decide +kernel
theorem dX4_coat_30 : decode cX4_coat 30 = .ok (.aload_n 0, 1) := by decide +kernel
theorem dX4_coat_31 : decode cX4_coat 31 = .ok (.getfield 23, 3) := by decide +kernel
theorem dX4_coat_34 : decode cX4_coat 34 = .ok (.aload_n 0, 1) := by decide +kernel
theorem dX4_coat_35 : decode cX4_coat 35 = .ok (.getfield 19, 3) := by decide +kernel
theorem dX4_coat_38 : decode cX4_coat 38 = .ok (.invokevirtual 90, 3) := by decide +kernel
theorem dX4_coat_41 : decode cX4_coat 41 = .ok (.iconst 0, 1) := by decide +kernel
theorem dX4_coat_42 : decode cX4_coat 42 = .ok (.istore 4, 2) := by decide +kernel
theorem dX4_coat_44 : decode cX4_coat 44 = .ok (.iconst 0, 1) := by decide +kernel
theorem dX4_coat_45 : decode cX4_coat 45 = .ok (.istore 5, 2) := by decide +kernel
theorem dX4_coat_47 : decode cX4_coat 47 = .ok (.iload 5, 2) := by decide +kernel
theorem dX4_coat_49 : decode cX4_coat 49 = .ok (.iload_n 2, 1) := by decide +kernel
theorem dX4_coat_50 : decode cX4_coat 50 = .ok (.if_icmp .ge 60, 3) := by decide +kernel
theorem dX4_coat_53 : decode cX4_coat 53 = .ok (.iload_n 1, 1) := by decide +kernel
theorem dX4_coat_54 : decode cX4_coat 54 = .ok (.iload 5, 2) := by decide +kernel
theorem dX4_coat_56 : decode cX4_coat 56 = .ok (.invokestatic 204, 3) := by decide +kernel
theorem dX4_coat_59 : decode cX4_coat 59 = .ok (.iconst 4, 1) := by decide +kernel
theorem dX4_coat_60 : decode cX4_coat 60 = .ok (.irem, 1) := by decide +kernel
theorem dX4_coat_61 : decode cX4_coat 61 = .ok (.aload_n 0, 1) := by decide +kernel
theorem dX4_coat_62 : decode cX4_coat 62 = .ok (.getfield 23, 3) := by decide +kernel
theorem dX4_coat_65 : decode cX4_coat 65 = .ok (.invokevirtual 109, 3) := by decide +kernel
theorem dX4_coat_68 : decode cX4_coat 68 = .ok (.if_icmp .ge 7, 3) := by decide +kernel
theorem dX4_coat_71 : decode cX4_coat 71 = .ok (.iconst 0, 1) := by decide +kernel
theorem dX4_coat_72 : decode cX4_coat 72 = .ok (.goto 4, 3) := by decide +kernel
theorem dX4_coat_75 : decode cX4_coat 75 = .ok (.iconst 1, 1) := by decide +kernel
theorem dX4_coat_76 : decode cX4_coat 76 = .ok (.istore 6, 2) := by decide +kernel
theorem dX4_coat_78 : decode cX4_coat 78 = .ok (.aload_n 0, 1) := by decide +kernel
theorem dX4_coat_79 : decode cX4_coat 79 = .ok (.getfield 23, 3) := by decide +kernel
theorem dX4_coat_82 : decode cX4_coat 82 = .ok (.iload 6, 2) := by decide +kernel
theorem dX4_coat_84 : decode cX4_coat 84 = .ok (.invokevirtual 115, 3) := by decide +kernel
theorem dX4_coat_87 : decode cX4_coat 87 = .ok (.ifCond .ne 17, 3) := by decide +kernel
theorem dX4_coat_90 : decode cX4_coat 90 = .ok (.aload_n 0, 1) := by decide +kernel
theorem dX4_coat_91 : decode cX4_coat 91 = .ok (.getfield 23, 3) := by decide +kernel
theorem dX4_coat_94 : decode cX4_coat 94 = .ok (.iload 6, 2) := by decide +kernel
theorem dX4_coat_96 : decode cX4_coat 96 = .ok (.bipush 10, 2) := by decide +kernel
theorem dX4_coat_98 : decode cX4_coat 98 = .ok (.invokevirtual 121, 3) := by decide +kernel
theorem dX4_coat_101 : decode cX4_coat 101 = .ok (.iinc 4 1, 3) := by decide +kernel
theorem dX4_coat_104 : decode cX4_coat 104 = .ok (.iinc 5 1, 3) := by decide +kernel
theorem dX4_coat_107 : decode cX4_coat 107 = .ok (.goto (-60), 3) := by decide +kernel
theorem dX4_coat_110 : decode cX4_coat 110 = .ok (.iload_n 3, 1) := by decide +kernel
theorem dX4_coat_111 : decode cX4_coat 111 = .ok (.ifCond .ne 8, 3) := by decide +kernel
theorem dX4_coat_114 : decode cX4_coat 114 = .ok (.iload 4, 2) := by decide +kernel
theorem dX4_coat_116 : decode cX4_coat 116 = .ok (.goto 10, 3) := by decide +kernel
theorem dX4_coat_119 : decode cX4_coat 119 = .ok (.aload_n 0, 1) := by decide +kernel
theorem dX4_coat_120 : decode cX4_coat 120 = .ok (.getfield 23, 3) := by decide +kernel
theorem dX4_coat_123 : decode cX4_coat 123 = .ok (.invokevirtual 98, 3) := by decide +kernel
theorem dX4_coat_126 : decode cX4_coat 126 = .ok (.ireturn, 1) := by decide +kernel
theorem dX4_keep_0 : decode cX4_keep 0 = .ok (.aload_n 0, 1) := by decide +kernel
theorem dX4_keep_1 : decode cX4_keep 1 = .ok (.getfield 35, 3) := by decide +kernel
theorem dX4_keep_4 : decode cX4_keep 4 = .ok (.invokevirtual 208, 3) := by decide +kernel
theorem dX4_keep_7 : decode cX4_keep 7 = .ok (.ifCond .eq 6, 3) := by decide +kernel
theorem dX4_keep_10 : decode cX4_keep 10 = .ok (.bipush (-3), 2) := by decide +kernel
theorem dX4_keep_12 : decode cX4_keep 12 = .ok (.ireturn, 1) := by decide +kernel
theorem dX4_keep_13 : decode cX4_keep 13 = .ok (.aload_n 0, 1) := by decide +kernel
theorem dX4_keep_14 : decode cX4_keep 14 = .ok (.getfield 35, 3) := by decide +kernel
theorem dX4_keep_17 : decode cX4_keep 17 = .ok (.aload_n 0, 1) := by decide +kernel
theorem dX4_keep_18 : decode cX4_keep 18 = .ok (.getfield 19, 3) := by decide +kernel
theorem dX4_keep_21 : decode cX4_keep 21 = .ok (.invokevirtual 112, 3) := by decide +kernel
theorem dX4_keep_24 : decode cX4_keep 24 = .ok (.aload_n 0, 1) := by decide +kernel
theorem dX4_keep_25 : decode cX4_keep 25 = .ok (.getfield 35, 3) := by decide +kernel
theorem dX4_keep_28 : decode cX4_keep 28 = .ok (.invokevirtual 138, 3) := by decide +kernel
theorem dX4_keep_31 : decode cX4_keep 31 = .ok (.ireturn, 1) := by decide +kernel
theorem dX4_back_0 : decode cX4_back 0 = .ok (.aload_n 0, 1) := by decide +kernel
theorem dX4_back_1 : decode cX4_back 1 = .ok (.getfield 35, 3) := by decide +kernel
theorem dX4_back_4 : decode cX4_back 4 = .ok (.aload_n 0, 1) := by decide +kernel
theorem dX4_back_5 : decode cX4_back 5 = .ok (.getfield 19, 3) := by decide +kernel
theorem dX4_back_8 : decode cX4_back 8 = .ok (.invokevirtual 134, 3) := by decide +kernel
theorem dX4_back_11 : decode cX4_back 11 = .ok (.ifCond .ne 6, 3) := by decide +kernel
theorem dX4_back_14 : decode cX4_back 14 = .ok (.bipush (-2), 2) := by decide +kernel
theorem dX4_back_16 : decode cX4_back 16 = .ok (.ireturn, 1) := by decide +kernel
theorem dX4_back_17 : decode cX4_back 17 = .ok (.aload_n 0, 1) := by decide +kernel
theorem dX4_back_18 : decode cX4_back 18 = .ok (.getfield 31, 3) := by decide +kernel
theorem dX4_back_21 : decode cX4_back 21 = .ok (.invokevirtual 97, 3) := by decide +kernel
theorem dX4_back_24 : decode cX4_back 24 = .ok (.aload_n 0, 1) := by decide +kernel
theorem dX4_back_25 : decode cX4_back 25 = .ok (.getfield 35, 3) := by decide +kernel
theorem dX4_back_28 : decode cX4_back 28 = .ok (.invokevirtual 138, 3) := by decide +kernel
theorem dX4_back_31 : decode cX4_back 31 = .ok (.ireturn, 1) := by decide +kernel
theorem dX4_count_0 : decode cX4_count 0 = .ok (.iload_n 1, 1) := by decide +kernel
theorem dX4_count_1 : decode cX4_count 1 = .ok (.tableswitch 117 0 8 #[51, 59, 67, 75, 80, 88, 93, 101, 109], 51) := by decide +kernel
theorem dX4_count_52 : decode cX4_count 52 = .ok (.aload_n 0, 1) := by decide +kernel
theorem dX4_count_53 : decode cX4_count 53 = .ok (.getfield 19, 3) := by decide +kernel
theorem dX4_count_56 : decode cX4_count 56 = .ok (.invokevirtual 98, 3) := by decide +kernel
theorem dX4_count_59 : decode cX4_count 59 = .ok (.ireturn, 1) := by decide +kernel
theorem dX4_count_60 : decode cX4_count 60 = .ok (.aload_n 0, 1) := by decide +kernel
theorem dX4_count_61 : decode cX4_count 61 = .ok (.getfield 19, 3) := by decide +kernel
theorem dX4_count_64 : decode cX4_count 64 = .ok (.getfield 128, 3) := by decide +kernel
theorem dX4_count_67 : decode cX4_count 67 = .ok (.ireturn, 1) := by decide +kernel
theorem dX4_count_68 : decode cX4_count 68 = .ok (.aload_n 0, 1) := by decide +kernel
theorem dX4_count_69 : decode cX4_count 69 = .ok (.getfield 19, 3) := by decide +kernel
theorem dX4_count_72 : decode cX4_count 72 = .ok (.getfield 131, 3) := by decide +kernel
theorem dX4_count_75 : decode cX4_count 75 = .ok (.ireturn, 1) := by decide +kernel
theorem dX4_count_76 : decode cX4_count 76 = .ok (.aload_n 0, 1) := by decide +kernel
theorem dX4_count_77 : decode cX4_count 77 = .ok (.getfield 56, 3) := by decide +kernel
theorem dX4_count_80 : decode cX4_count 80 = .ok (.ireturn, 1) := by decide +kernel
theorem dX4_count_81 : decode cX4_count 81 = .ok (.aload_n 0, 1) := by decide +kernel
theorem dX4_count_82 : decode cX4_count 82 = .ok (.getfield 19, 3) := by decide +kernel
theorem dX4_count_85 : decode cX4_count 85 = .ok (.getfield 66, 3) := by decide +kernel
theorem dX4_count_88 : decode cX4_count 88 = .ok (.ireturn, 1) := by decide +kernel
theorem dX4_count_89 : decode cX4_count 89 = .ok (.aload_n 0, 1) := by decide +kernel
theorem dX4_count_90 : decode cX4_count 90 = .ok (.getfield 52, 3) := by decide +kernel
theorem dX4_count_93 : decode cX4_count 93 = .ok (.ireturn, 1) := by decide +kernel
theorem dX4_count_94 : decode cX4_count 94 = .ok (.aload_n 0, 1) := by decide +kernel
theorem dX4_count_95 : decode cX4_count 95 = .ok (.getfield 31, 3) := by decide +kernel
theorem dX4_count_98 : decode cX4_count 98 = .ok (.invokevirtual 138, 3) := by decide +kernel
theorem dX4_count_101 : decode cX4_count 101 = .ok (.ireturn, 1) := by decide +kernel
theorem dX4_count_102 : decode cX4_count 102 = .ok (.aload_n 0, 1) := by decide +kernel
theorem dX4_count_103 : decode cX4_count 103 = .ok (.getfield 35, 3) := by decide +kernel
theorem dX4_count_106 : decode cX4_count 106 = .ok (.invokevirtual 138, 3) := by decide +kernel
theorem dX4_count_109 : decode cX4_count 109 = .ok (.ireturn, 1) := by decide +kernel
theorem dX4_count_110 : decode cX4_count 110 = .ok (.aload_n 0, 1) := by decide +kernel
theorem dX4_count_111 : decode cX4_count 111 = .ok (.getfield 10, 3) := by decide +kernel
theorem dX4_count_114 : decode cX4_count 114 = .ok (.invokevirtual 77, 3) := by decide +kernel
theorem dX4_count_117 : decode cX4_count 117 = .ok (.ireturn, 1) := by decide +kernel
theorem dX4_count_118 : decode cX4_count 118 = .ok (.iconst (-1), 1) := by decide +kernel
theorem dX4_count_119 : decode cX4_count 119 = .ok (.ireturn, 1) := by decide +kernel
theorem dX4_startFrom_0 : decode cX4_startFrom 0 = .ok (.aload_n 0, 1) := by decide +kernel
theorem dX4_startFrom_1 : decode cX4_startFrom 1 = .ok (.getfield 23, 3) := by decide +kernel
theorem dX4_startFrom_4 : decode cX4_startFrom 4 = .ok (.aload_n 0, 1) := by decide +kernel
theorem dX4_startFrom_5 : decode cX4_startFrom 5 = .ok (.getfield 19, 3) := by decide +kernel
theorem dX4_startFrom_8 : decode cX4_startFrom 8 = .ok (.invokevirtual 90, 3) := by decide +kernel
theorem dX4_startFrom_11 : decode cX4_startFrom 11 = .ok (.aload_n 0, 1) := by decide +kernel
theorem dX4_startFrom_12 : decode cX4_startFrom 12 = .ok (.getfield 23, 3) := by decide +kernel
theorem dX4_startFrom_15 : decode cX4_startFrom 15 = .ok (.iload_n 1, 1) := by decide +kernel
theorem dX4_startFrom_16 : decode cX4_startFrom 16 = .ok (.iload_n 2, 1) := by decide +kernel
theorem dX4_startFrom_17 : decode cX4_startFrom 17 = .ok (.invokevirtual 59, 3) := by decide +kernel
theorem dX4_startFrom_20 : decode cX4_startFrom 20 = .ok (.aload_n 0, 1) := by decide +kernel
theorem dX4_startFrom_21 : decode cX4_startFrom 21 = .ok (.getfield 41, 3) := by decide +kernel
theorem dX4_startFrom_24 : decode cX4_startFrom 24 = .ok (.aload_n 0, 1) := by decide +kernel
theorem dX4_startFrom_25 : decode cX4_startFrom 25 = .ok (.getfield 23, 3) := by decide +kernel
theorem dX4_startFrom_28 : decode cX4_startFrom 28 = .ok (.iload_n 3, 1) := by decide +kernel
theorem dX4_startFrom_29 : decode cX4_startFrom 29 = .ok (.invokevirtual 212, 3) := by decide +kernel
theorem dX4_startFrom_32 : decode cX4_startFrom 32 = .ok (.return_, 1) := by decide +kernel
theorem dX4_walkToEnd_0 : decode cX4_walkToEnd 0 = .ok (.aload_n 0, 1) := by decide +kernel
theorem dX4_walkToEnd_1 : decode cX4_walkToEnd 1 = .ok (.aload_n 0, 1) := by decide +kernel
theorem dX4_walkToEnd_2 : decode cX4_walkToEnd 2 = .ok (.getfield 19, 3) := by decide +kernel
theorem dX4_walkToEnd_5 : decode cX4_walkToEnd 5 = .ok (.getfield 156, 3) := by decide +kernel
theorem dX4_walkToEnd_8 : decode cX4_walkToEnd 8 = .ok (.aload_n 0, 1) := by decide +kernel
theorem dX4_walkToEnd_9 : decode cX4_walkToEnd 9 = .ok (.getfield 19, 3) := by decide +kernel
theorem dX4_walkToEnd_12 : decode cX4_walkToEnd 12 = .ok (.getfield 159, 3) := by decide +kernel
theorem dX4_walkToEnd_15 : decode cX4_walkToEnd 15 = .ok (.iload_n 1, 1) := by decide +kernel
theorem dX4_walkToEnd_16 : decode cX4_walkToEnd 16 = .ok (.invokevirtual 162, 3) := by decide +kernel
theorem dX4_walkToEnd_19 : decode cX4_walkToEnd 19 = .ok (.aload_n 0, 1) := by decide +kernel
theorem dX4_walkToEnd_20 : decode cX4_walkToEnd 20 = .ok (.getfield 41, 3) := by decide +kernel
theorem dX4_walkToEnd_23 : decode cX4_walkToEnd 23 = .ok (.invokevirtual 216, 3) := by decide +kernel
theorem dX4_walkToEnd_26 : decode cX4_walkToEnd 26 = .ok (.lreturn, 1) := by decide +kernel
theorem dX4_reachesWith_0 : decode cX4_reachesWith 0 = .ok (.iload_n 1, 1) := by decide +kernel
theorem dX4_reachesWith_1 : decode cX4_reachesWith 1 = .ok (.iconst 0, 1) := by decide +kernel
theorem dX4_reachesWith_2 : decode cX4_reachesWith 2 = .ok (.bipush 10, 2) := by decide +kernel
theorem dX4_reachesWith_4 : decode cX4_reachesWith 4 = .ok (.invokestatic 69, 3) := by decide +kernel
theorem dX4_reachesWith_7 : decode cX4_reachesWith 7 = .ok (.ifCond .eq 13, 3) := by decide +kernel
theorem dX4_reachesWith_10 : decode cX4_reachesWith 10 = .ok (.iload_n 2, 1) := by decide +kernel
theorem dX4_reachesWith_11 : decode cX4_reachesWith 11 = .ok (.iconst 0, 1) := by decide +kernel
theorem dX4_reachesWith_12 : decode cX4_reachesWith 12 = .ok (.bipush 10, 2) := by decide +kernel
theorem dX4_reachesWith_14 : decode cX4_reachesWith 14 = .ok (.invokestatic 69, 3) := by decide +kernel
theorem dX4_reachesWith_17 : decode cX4_reachesWith 17 = .ok (.ifCond .ne 7, 3) := by decide +kernel
theorem dX4_reachesWith_20 : decode cX4_reachesWith 20 = .ok (.ldc2_w 185, 3) := by decide +kernel
theorem dX4_reachesWith_23 : decode cX4_reachesWith 23 = .ok (.lreturn, 1) := by decide +kernel
theorem dX4_reachesWith_24 : decode cX4_reachesWith 24 = .ok (.aload_n 0, 1) := by decide +kernel
theorem dX4_reachesWith_25 : decode cX4_reachesWith 25 = .ok (.iload_n 1, 1) := by decide +kernel
theorem dX4_reachesWith_26 : decode cX4_reachesWith 26 = .ok (.iload_n 2, 1) := by decide +kernel
theorem dX4_reachesWith_27 : decode cX4_reachesWith 27 = .ok (.iconst 0, 1) := by decide +kernel
theorem dX4_reachesWith_28 : decode cX4_reachesWith 28 = .ok (.invokevirtual 162, 3) := by decide +kernel
theorem dX4_reachesWith_31 : decode cX4_reachesWith 31 = .ok (.aload_n 0, 1) := by decide +kernel
theorem dX4_reachesWith_32 : decode cX4_reachesWith 32 = .ok (.getfield 41, 3) := by decide +kernel
theorem dX4_reachesWith_35 : decode cX4_reachesWith 35 = .ok (.invokevirtual 216, 3) := by decide +kernel
theorem dX4_reachesWith_38 : decode cX4_reachesWith 38 = .ok (.lreturn, 1) := by decide +kernel
theorem dX4_startByHand_0 : decode cX4_startByHand 0 = .ok (.aload_n 0, 1) := by decide +kernel
theorem dX4_startByHand_1 : decode cX4_startByHand 1 = .ok (.getfield 23, 3) := by decide +kernel
theorem dX4_startByHand_4 : decode cX4_startByHand 4 = .ok (.aload_n 0, 1) := by decide +kernel
theorem dX4_startByHand_5 : decode cX4_startByHand 5 = .ok (.getfield 19, 3) := by decide +kernel
theorem dX4_startByHand_8 : decode cX4_startByHand 8 = .ok (.invokevirtual 90, 3) := by decide +kernel
theorem dX4_startByHand_11 : decode cX4_startByHand 11 = .ok (.aload_n 0, 1) := by decide +kernel
theorem dX4_startByHand_12 : decode cX4_startByHand 12 = .ok (.getfield 23, 3) := by decide +kernel
theorem dX4_startByHand_15 : decode cX4_startByHand 15 = .ok (.iload_n 1, 1) := by decide +kernel
theorem dX4_startByHand_16 : decode cX4_startByHand 16 = .ok (.iload_n 2, 1) := by decide +kernel
theorem dX4_startByHand_17 : decode cX4_startByHand 17 = .ok (.invokevirtual 63, 3) := by decide +kernel
theorem dX4_startByHand_20 : decode cX4_startByHand 20 = .ok (.aload_n 0, 1) := by decide +kernel
theorem dX4_startByHand_21 : decode cX4_startByHand 21 = .ok (.getfield 41, 3) := by decide +kernel
theorem dX4_startByHand_24 : decode cX4_startByHand 24 = .ok (.aload_n 0, 1) := by decide +kernel
theorem dX4_startByHand_25 : decode cX4_startByHand 25 = .ok (.getfield 23, 3) := by decide +kernel
theorem dX4_startByHand_28 : decode cX4_startByHand 28 = .ok (.iconst 0, 1) := by decide +kernel
theorem dX4_startByHand_29 : decode cX4_startByHand 29 = .ok (.invokevirtual 212, 3) := by decide +kernel
theorem dX4_startByHand_32 : decode cX4_startByHand 32 = .ok (.return_, 1) := by decide +kernel
theorem dX4_reachesByHand_0 : decode cX4_reachesByHand 0 = .ok (.aload_n 0, 1) := by decide +kernel
theorem dX4_reachesByHand_1 : decode cX4_reachesByHand 1 = .ok (.iload_n 1, 1) := by decide +kernel
theorem dX4_reachesByHand_2 : decode cX4_reachesByHand 2 = .ok (.iload_n 2, 1) := by decide +kernel
theorem dX4_reachesByHand_3 : decode cX4_reachesByHand 3 = .ok (.invokevirtual 219, 3) := by decide +kernel
theorem dX4_reachesByHand_6 : decode cX4_reachesByHand 6 = .ok (.aload_n 0, 1) := by decide +kernel
theorem dX4_reachesByHand_7 : decode cX4_reachesByHand 7 = .ok (.getfield 41, 3) := by decide +kernel
theorem dX4_reachesByHand_10 : decode cX4_reachesByHand 10 = .ok (.invokevirtual 216, 3) := by decide +kernel
theorem dX4_reachesByHand_13 : decode cX4_reachesByHand 13 = .ok (.lreturn, 1) := by decide +kernel
theorem dX4_likeliestQuarters_0 : decode cX4_likeliestQuarters 0 = .ok (.iconst (-1), 1) := by decide +kernel
theorem dX4_likeliestQuarters_1 : decode cX4_likeliestQuarters 1 = .ok (.istore_n 2, 1) := by decide +kernel
theorem dX4_likeliestQuarters_2 : decode cX4_likeliestQuarters 2 = .ok (.lconst 0, 1) := by decide +kernel
theorem dX4_likeliestQuarters_3 : decode cX4_likeliestQuarters 3 = .ok (.lstore_n 3, 1) := by decide +kernel
theorem dX4_likeliestQuarters_4 : decode cX4_likeliestQuarters 4 = .ok (.iconst 0, 1) := by decide +kernel
theorem dX4_likeliestQuarters_5 : decode cX4_likeliestQuarters 5 = .ok (.istore 5, 2) := by decide +kernel
theorem dX4_likeliestQuarters_7 : decode cX4_likeliestQuarters 7 = .ok (.iload 5, 2) := by decide +kernel
theorem dX4_likeliestQuarters_9 : decode cX4_likeliestQuarters 9 = .ok (.iconst 4, 1) := by decide +kernel
theorem dX4_likeliestQuarters_10 : decode cX4_likeliestQuarters 10 = .ok (.if_icmp .gt 31, 3) := by decide +kernel
theorem dX4_likeliestQuarters_13 : decode cX4_likeliestQuarters 13 = .ok (.aload_n 0, 1) := by decide +kernel
theorem dX4_likeliestQuarters_14 : decode cX4_likeliestQuarters 14 = .ok (.iload_n 1, 1) := by decide +kernel
theorem dX4_likeliestQuarters_15 : decode cX4_likeliestQuarters 15 = .ok (.iload 5, 2) := by decide +kernel
theorem dX4_likeliestQuarters_17 : decode cX4_likeliestQuarters 17 = .ok (.invokevirtual 193, 3) := by decide +kernel
theorem dX4_likeliestQuarters_20 : decode cX4_likeliestQuarters 20 = .ok (.lstore 6, 2) := by decide +kernel
theorem dX4_likeliestQuarters_22 : decode cX4_likeliestQuarters 22 = .ok (.lload 6, 2) := by decide +kernel
theorem dX4_likeliestQuarters_24 : decode cX4_likeliestQuarters 24 = .ok (.lload_n 3, 1) := by decide +kernel
theorem dX4_likeliestQuarters_25 : decode cX4_likeliestQuarters 25 = .ok (.lcmp, 1) := by decide +kernel
theorem dX4_likeliestQuarters_26 : decode cX4_likeliestQuarters 26 = .ok (.ifCond .le 9, 3) := by decide +kernel
theorem dX4_likeliestQuarters_29 : decode cX4_likeliestQuarters 29 = .ok (.iload 5, 2) := by decide +kernel
theorem dX4_likeliestQuarters_31 : decode cX4_likeliestQuarters 31 = .ok (.istore_n 2, 1) := by decide +kernel
theorem dX4_likeliestQuarters_32 : decode cX4_likeliestQuarters 32 = .ok (.lload 6, 2) := by decide +kernel
theorem dX4_likeliestQuarters_34 : decode cX4_likeliestQuarters 34 = .ok (.lstore_n 3, 1) := by decide +kernel
theorem dX4_likeliestQuarters_35 : decode cX4_likeliestQuarters 35 = .ok (.iinc 5 1, 3) := by decide +kernel
theorem dX4_likeliestQuarters_38 : decode cX4_likeliestQuarters 38 = .ok (.goto (-31), 3) := by decide +kernel
theorem dX4_likeliestQuarters_41 : decode cX4_likeliestQuarters 41 = .ok (.iload_n 2, 1) := by decide +kernel
theorem dX4_likeliestQuarters_42 : decode cX4_likeliestQuarters 42 = .ok (.ireturn, 1) := by decide +kernel
theorem dX4_chanceOfSeen_0 : decode cX4_chanceOfSeen 0 = .ok (.aload_n 0, 1) := by decide +kernel
theorem dX4_chanceOfSeen_1 : decode cX4_chanceOfSeen 1 = .ok (.iload_n 1, 1) := by decide +kernel
theorem dX4_chanceOfSeen_2 : decode cX4_chanceOfSeen 2 = .ok (.iload_n 2, 1) := by decide +kernel
theorem dX4_chanceOfSeen_3 : decode cX4_chanceOfSeen 3 = .ok (.invokevirtual 219, 3) := by decide +kernel
theorem dX4_chanceOfSeen_6 : decode cX4_chanceOfSeen 6 = .ok (.iconst 0, 1) := by decide +kernel
theorem dX4_chanceOfSeen_7 : decode cX4_chanceOfSeen 7 = .ok (.istore_n 3, 1) := by decide +kernel
theorem dX4_chanceOfSeen_8 : decode cX4_chanceOfSeen 8 = .ok (.iload_n 3, 1) := by decide +kernel
theorem dX4_chanceOfSeen_9 : decode cX4_chanceOfSeen 9 = .ok (.aload_n 0, 1) := by decide +kernel
theorem dX4_chanceOfSeen_10 : decode cX4_chanceOfSeen 10 = .ok (.getfield 52, 3) := by decide +kernel
theorem dX4_chanceOfSeen_13 : decode cX4_chanceOfSeen 13 = .ok (.if_icmp .ge 57, 3) := by decide +kernel
theorem dX4_chanceOfSeen_16 : decode cX4_chanceOfSeen 16 = .ok (.iload_n 3, 1) := by decide +kernel
theorem dX4_chanceOfSeen_17 : decode cX4_chanceOfSeen 17 = .ok (.bipush 6, 2) := by decide +kernel
theorem dX4_chanceOfSeen_19 : decode cX4_chanceOfSeen 19 = .ok (.if_icmp .ge 51, 3) := by decide +kernel
theorem dX4_chanceOfSeen_22 : decode cX4_chanceOfSeen 22 = .ok (.aload_n 0, 1) := by decide +kernel
theorem dX4_chanceOfSeen_23 : decode cX4_chanceOfSeen 23 = .ok (.getfield 41, 3) := by decide +kernel
theorem dX4_chanceOfSeen_26 : decode cX4_chanceOfSeen 26 = .ok (.invokevirtual 171, 3) := by decide +kernel
theorem dX4_chanceOfSeen_29 : decode cX4_chanceOfSeen 29 = .ok (.lconst 0, 1) := by decide +kernel
theorem dX4_chanceOfSeen_30 : decode cX4_chanceOfSeen 30 = .ok (.lcmp, 1) := by decide +kernel
theorem dX4_chanceOfSeen_31 : decode cX4_chanceOfSeen 31 = .ok (.ifCond .le 39, 3) := by decide +kernel
theorem dX4_chanceOfSeen_34 : decode cX4_chanceOfSeen 34 = .ok (.aload_n 0, 1) := by decide +kernel
theorem dX4_chanceOfSeen_35 : decode cX4_chanceOfSeen 35 = .ok (.getfield 41, 3) := by decide +kernel
theorem dX4_chanceOfSeen_38 : decode cX4_chanceOfSeen 38 = .ok (.aload_n 0, 1) := by decide +kernel
theorem dX4_chanceOfSeen_39 : decode cX4_chanceOfSeen 39 = .ok (.getfield 56, 3) := by decide +kernel
theorem dX4_chanceOfSeen_42 : decode cX4_chanceOfSeen 42 = .ok (.invokevirtual 166, 3) := by decide +kernel
theorem dX4_chanceOfSeen_45 : decode cX4_chanceOfSeen 45 = .ok (.aload_n 0, 1) := by decide +kernel
theorem dX4_chanceOfSeen_46 : decode cX4_chanceOfSeen 46 = .ok (.getfield 41, 3) := by decide +kernel
theorem dX4_chanceOfSeen_49 : decode cX4_chanceOfSeen 49 = .ok (.aload_n 0, 1) := by decide +kernel
theorem dX4_chanceOfSeen_50 : decode cX4_chanceOfSeen 50 = .ok (.getfield 45, 3) := by decide +kernel
theorem dX4_chanceOfSeen_53 : decode cX4_chanceOfSeen 53 = .ok (.iload_n 3, 1) := by decide +kernel
theorem dX4_chanceOfSeen_54 : decode cX4_chanceOfSeen 54 = .ok (.iaload, 1) := by decide +kernel
theorem dX4_chanceOfSeen_55 : decode cX4_chanceOfSeen 55 = .ok (.aload_n 0, 1) := by decide +kernel
theorem dX4_chanceOfSeen_56 : decode cX4_chanceOfSeen 56 = .ok (.getfield 49, 3) := by decide +kernel
theorem dX4_chanceOfSeen_59 : decode cX4_chanceOfSeen 59 = .ok (.iload_n 3, 1) := by decide +kernel
theorem dX4_chanceOfSeen_60 : decode cX4_chanceOfSeen 60 = .ok (.iaload, 1) := by decide +kernel
theorem dX4_chanceOfSeen_61 : decode cX4_chanceOfSeen 61 = .ok (.invokevirtual 222, 3) := by decide +kernel
theorem dX4_chanceOfSeen_64 : decode cX4_chanceOfSeen 64 = .ok (.iinc 3 1, 3) := by decide +kernel
theorem dX4_chanceOfSeen_67 : decode cX4_chanceOfSeen 67 = .ok (.goto (-59), 3) := by decide +kernel
theorem dX4_chanceOfSeen_70 : decode cX4_chanceOfSeen 70 = .ok (.aload_n 0, 1) := by decide +kernel
theorem dX4_chanceOfSeen_71 : decode cX4_chanceOfSeen 71 = .ok (.getfield 41, 3) := by decide +kernel
theorem dX4_chanceOfSeen_74 : decode cX4_chanceOfSeen 74 = .ok (.invokevirtual 171, 3) := by decide +kernel
theorem dX4_chanceOfSeen_77 : decode cX4_chanceOfSeen 77 = .ok (.lreturn, 1) := by decide +kernel
theorem dX4_drawOf_0 : decode cX4_drawOf 0 = .ok (.ldc2_w 225, 3) := by decide +kernel
theorem dX4_drawOf_3 : decode cX4_drawOf 3 = .ok (.iload_n 0, 1) := by decide +kernel
theorem dX4_drawOf_4 : decode cX4_drawOf 4 = .ok (.i2l, 1) := by decide +kernel
theorem dX4_drawOf_5 : decode cX4_drawOf 5 = .ok (.lmul, 1) := by decide +kernel
theorem dX4_drawOf_6 : decode cX4_drawOf 6 = .ok (.ldc2_w 227, 3) := by decide +kernel
theorem dX4_drawOf_9 : decode cX4_drawOf 9 = .ok (.iload_n 1, 1) := by decide +kernel
theorem dX4_drawOf_10 : decode cX4_drawOf 10 = .ok (.i2l, 1) := by decide +kernel
theorem dX4_drawOf_11 : decode cX4_drawOf 11 = .ok (.lmul, 1) := by decide +kernel
theorem dX4_drawOf_12 : decode cX4_drawOf 12 = .ok (.ladd, 1) := by decide +kernel
theorem dX4_drawOf_13 : decode cX4_drawOf 13 = .ok (.lconst 1, 1) := by decide +kernel
theorem dX4_drawOf_14 : decode cX4_drawOf 14 = .ok (.ladd, 1) := by decide +kernel
theorem dX4_drawOf_15 : decode cX4_drawOf 15 = .ok (.lstore_n 2, 1) := by decide +kernel
theorem dX4_drawOf_16 : decode cX4_drawOf 16 = .ok (.lload_n 2, 1) := by decide +kernel
theorem dX4_drawOf_17 : decode cX4_drawOf 17 = .ok (.lload_n 2, 1) := by decide +kernel
theorem dX4_drawOf_18 : decode cX4_drawOf 18 = .ok (.lmul, 1) := by decide +kernel
theorem dX4_drawOf_19 : decode cX4_drawOf 19 = .ok (.ldc2_w 229, 3) := by decide +kernel
theorem dX4_drawOf_22 : decode cX4_drawOf 22 = .ok (.lrem, 1) := by decide +kernel
theorem dX4_drawOf_23 : decode cX4_drawOf 23 = .ok (.ldc2_w 231, 3) := by decide +kernel
theorem dX4_drawOf_26 : decode cX4_drawOf 26 = .ok (.ldiv, 1) := by decide +kernel
theorem dX4_drawOf_27 : decode cX4_drawOf 27 = .ok (.l2i, 1) := by decide +kernel
theorem dX4_drawOf_28 : decode cX4_drawOf 28 = .ok (.ireturn, 1) := by decide +kernel
theorem dX4_tenThousandths_0 : decode cX4_tenThousandths 0 = .ok (.lload_n 0, 1) := by decide +kernel
theorem dX4_tenThousandths_1 : decode cX4_tenThousandths 1 = .ok (.ldc2_w 196, 3) := by decide +kernel
theorem dX4_tenThousandths_4 : decode cX4_tenThousandths 4 = .ok (.lmul, 1) := by decide +kernel
theorem dX4_tenThousandths_5 : decode cX4_tenThousandths 5 = .ok (.ldc2_w 169, 3) := by decide +kernel
theorem dX4_tenThousandths_8 : decode cX4_tenThousandths 8 = .ok (.ldiv, 1) := by decide +kernel
theorem dX4_tenThousandths_9 : decode cX4_tenThousandths 9 = .ok (.l2i, 1) := by decide +kernel
theorem dX4_tenThousandths_10 : decode cX4_tenThousandths 10 = .ok (.ireturn, 1) := by decide +kernel
theorem dX4_hundredfold_0 : decode cX4_hundredfold 0 = .ok (.lload_n 0, 1) := by decide +kernel
theorem dX4_hundredfold_1 : decode cX4_hundredfold 1 = .ok (.ldc2_w 233, 3) := by decide +kernel
theorem dX4_hundredfold_4 : decode cX4_hundredfold 4 = .ok (.lmul, 1) := by decide +kernel
theorem dX4_hundredfold_5 : decode cX4_hundredfold 5 = .ok (.ldc2_w 169, 3) := by decide +kernel
theorem dX4_hundredfold_8 : decode cX4_hundredfold 8 = .ok (.ldiv, 1) := by decide +kernel
theorem dX4_hundredfold_9 : decode cX4_hundredfold 9 = .ok (.l2i, 1) := by decide +kernel
theorem dX4_hundredfold_10 : decode cX4_hundredfold 10 = .ok (.ireturn, 1) := by decide +kernel
theorem dX4_handToLeft_0 : decode cX4_handToLeft 0 = .ok (.iload_n 0, 1) := by decide +kernel
theorem dX4_handToLeft_1 : decode cX4_handToLeft 1 = .ok (.tableswitch 103 1 3 #[27, 53, 78], 27) := by decide +kernel
theorem dX4_handToLeft_28 : decode cX4_handToLeft 28 = .ok (.iload_n 1, 1) := by decide +kernel
theorem dX4_handToLeft_29 : decode cX4_handToLeft 29 = .ok (.iload 4, 2) := by decide +kernel
theorem dX4_handToLeft_31 : decode cX4_handToLeft 31 = .ok (.ifCond .ne 7, 3) := by decide +kernel
theorem dX4_handToLeft_34 : decode cX4_handToLeft 34 = .ok (.iconst 1, 1) := by decide +kernel
theorem dX4_handToLeft_35 : decode cX4_handToLeft 35 = .ok (.goto 4, 3) := by decide +kernel
theorem dX4_handToLeft_38 : decode cX4_handToLeft 38 = .ok (.iconst 0, 1) := by decide +kernel
theorem dX4_handToLeft_39 : decode cX4_handToLeft 39 = .ok (.iload 4, 2) := by decide +kernel
theorem dX4_handToLeft_41 : decode cX4_handToLeft 41 = .ok (.iconst 1, 1) := by decide +kernel
theorem dX4_handToLeft_42 : decode cX4_handToLeft 42 = .ok (.if_icmp .ne 7, 3) := by decide +kernel
theorem dX4_handToLeft_45 : decode cX4_handToLeft 45 = .ok (.iconst 1, 1) := by decide +kernel
theorem dX4_handToLeft_46 : decode cX4_handToLeft 46 = .ok (.goto 4, 3) := by decide +kernel
theorem dX4_handToLeft_49 : decode cX4_handToLeft 49 = .ok (.iconst 0, 1) := by decide +kernel
theorem dX4_handToLeft_50 : decode cX4_handToLeft 50 = .ok (.invokestatic 235, 3) := by decide +kernel
theorem dX4_handToLeft_53 : decode cX4_handToLeft 53 = .ok (.ireturn, 1) := by decide +kernel
theorem dX4_handToLeft_54 : decode cX4_handToLeft 54 = .ok (.iload_n 1, 1) := by decide +kernel
theorem dX4_handToLeft_55 : decode cX4_handToLeft 55 = .ok (.iload_n 2, 1) := by decide +kernel
theorem dX4_handToLeft_56 : decode cX4_handToLeft 56 = .ok (.iload_n 3, 1) := by decide +kernel
theorem dX4_handToLeft_57 : decode cX4_handToLeft 57 = .ok (.if_icmp .le 7, 3) := by decide +kernel
theorem dX4_handToLeft_60 : decode cX4_handToLeft 60 = .ok (.iconst 1, 1) := by decide +kernel
theorem dX4_handToLeft_61 : decode cX4_handToLeft 61 = .ok (.goto 4, 3) := by decide +kernel
theorem dX4_handToLeft_64 : decode cX4_handToLeft 64 = .ok (.iconst 0, 1) := by decide +kernel
theorem dX4_handToLeft_65 : decode cX4_handToLeft 65 = .ok (.iload_n 2, 1) := by decide +kernel
theorem dX4_handToLeft_66 : decode cX4_handToLeft 66 = .ok (.iload_n 3, 1) := by decide +kernel
theorem dX4_handToLeft_67 : decode cX4_handToLeft 67 = .ok (.if_icmp .ge 7, 3) := by decide +kernel
theorem dX4_handToLeft_70 : decode cX4_handToLeft 70 = .ok (.iconst 1, 1) := by decide +kernel
theorem dX4_handToLeft_71 : decode cX4_handToLeft 71 = .ok (.goto 4, 3) := by decide +kernel
theorem dX4_handToLeft_74 : decode cX4_handToLeft 74 = .ok (.iconst 0, 1) := by decide +kernel
theorem dX4_handToLeft_75 : decode cX4_handToLeft 75 = .ok (.invokestatic 235, 3) := by decide +kernel
theorem dX4_handToLeft_78 : decode cX4_handToLeft 78 = .ok (.ireturn, 1) := by decide +kernel
theorem dX4_handToLeft_79 : decode cX4_handToLeft 79 = .ok (.iload_n 1, 1) := by decide +kernel
theorem dX4_handToLeft_80 : decode cX4_handToLeft 80 = .ok (.iload_n 2, 1) := by decide +kernel
theorem dX4_handToLeft_81 : decode cX4_handToLeft 81 = .ok (.iload_n 3, 1) := by decide +kernel
theorem dX4_handToLeft_82 : decode cX4_handToLeft 82 = .ok (.if_icmp .ge 7, 3) := by decide +kernel
theorem dX4_handToLeft_85 : decode cX4_handToLeft 85 = .ok (.iconst 1, 1) := by decide +kernel
theorem dX4_handToLeft_86 : decode cX4_handToLeft 86 = .ok (.goto 4, 3) := by decide +kernel
theorem dX4_handToLeft_89 : decode cX4_handToLeft 89 = .ok (.iconst 0, 1) := by decide +kernel
theorem dX4_handToLeft_90 : decode cX4_handToLeft 90 = .ok (.iload_n 2, 1) := by decide +kernel
theorem dX4_handToLeft_91 : decode cX4_handToLeft 91 = .ok (.iload_n 3, 1) := by decide +kernel
theorem dX4_handToLeft_92 : decode cX4_handToLeft 92 = .ok (.if_icmp .le 7, 3) := by decide +kernel
theorem dX4_handToLeft_95 : decode cX4_handToLeft 95 = .ok (.iconst 1, 1) := by decide +kernel
theorem dX4_handToLeft_96 : decode cX4_handToLeft 96 = .ok (.goto 4, 3) := by decide +kernel
theorem dX4_handToLeft_99 : decode cX4_handToLeft 99 = .ok (.iconst 0, 1) := by decide +kernel
theorem dX4_handToLeft_100 : decode cX4_handToLeft 100 = .ok (.invokestatic 235, 3) := by decide +kernel
theorem dX4_handToLeft_103 : decode cX4_handToLeft 103 = .ok (.ireturn, 1) := by decide +kernel
theorem dX4_handToLeft_104 : decode cX4_handToLeft 104 = .ok (.iload_n 1, 1) := by decide +kernel
theorem dX4_handToLeft_105 : decode cX4_handToLeft 105 = .ok (.ireturn, 1) := by decide +kernel
theorem dX4_leaning_0 : decode cX4_leaning 0 = .ok (.iload_n 1, 1) := by decide +kernel
theorem dX4_leaning_1 : decode cX4_leaning 1 = .ok (.ifCond .eq 5, 3) := by decide +kernel
theorem dX4_leaning_4 : decode cX4_leaning 4 = .ok (.iload_n 0, 1) := by decide +kernel
theorem dX4_leaning_5 : decode cX4_leaning 5 = .ok (.ireturn, 1) := by decide +kernel
theorem dX4_leaning_6 : decode cX4_leaning 6 = .ok (.iload_n 2, 1) := by decide +kernel
theorem dX4_leaning_7 : decode cX4_leaning 7 = .ok (.ifCond .eq 9, 3) := by decide +kernel
theorem dX4_leaning_10 : decode cX4_leaning 10 = .ok (.iconst 4, 1) := by decide +kernel
theorem dX4_leaning_11 : decode cX4_leaning 11 = .ok (.iload_n 0, 1) := by decide +kernel
theorem dX4_leaning_12 : decode cX4_leaning 12 = .ok (.isub, 1) := by decide +kernel
theorem dX4_leaning_13 : decode cX4_leaning 13 = .ok (.goto 4, 3) := by decide +kernel
theorem dX4_leaning_16 : decode cX4_leaning 16 = .ok (.iconst 2, 1) := by decide +kernel
theorem dX4_leaning_17 : decode cX4_leaning 17 = .ok (.ireturn, 1) := by decide +kernel
theorem dX4_otherSide_0 : decode cX4_otherSide 0 = .ok (.iload_n 0, 1) := by decide +kernel
theorem dX4_otherSide_1 : decode cX4_otherSide 1 = .ok (.ifCond .ne 7, 3) := by decide +kernel
theorem dX4_otherSide_4 : decode cX4_otherSide 4 = .ok (.iconst 1, 1) := by decide +kernel
theorem dX4_otherSide_5 : decode cX4_otherSide 5 = .ok (.goto 4, 3) := by decide +kernel
theorem dX4_otherSide_8 : decode cX4_otherSide 8 = .ok (.iconst 0, 1) := by decide +kernel
theorem dX4_otherSide_9 : decode cX4_otherSide 9 = .ok (.ireturn, 1) := by decide +kernel
theorem dX4_within_0 : decode cX4_within 0 = .ok (.iload_n 0, 1) := by decide +kernel
theorem dX4_within_1 : decode cX4_within 1 = .ok (.iload_n 1, 1) := by decide +kernel
theorem dX4_within_2 : decode cX4_within 2 = .ok (.if_icmp .lt 12, 3) := by decide +kernel
theorem dX4_within_5 : decode cX4_within 5 = .ok (.iload_n 0, 1) := by decide +kernel
theorem dX4_within_6 : decode cX4_within 6 = .ok (.iload_n 2, 1) := by decide +kernel
theorem dX4_within_7 : decode cX4_within 7 = .ok (.if_icmp .gt 7, 3) := by decide +kernel
theorem dX4_within_10 : decode cX4_within 10 = .ok (.iconst 1, 1) := by decide +kernel
theorem dX4_within_11 : decode cX4_within 11 = .ok (.goto 4, 3) := by decide +kernel
theorem dX4_within_14 : decode cX4_within 14 = .ok (.iconst 0, 1) := by decide +kernel
theorem dX4_within_15 : decode cX4_within 15 = .ok (.ireturn, 1) := by decide +kernel
theorem dX4_isSide_0 : decode cX4_isSide 0 = .ok (.iload_n 0, 1) := by decide +kernel
theorem dX4_isSide_1 : decode cX4_isSide 1 = .ok (.iconst 0, 1) := by decide +kernel
theorem dX4_isSide_2 : decode cX4_isSide 2 = .ok (.iconst 1, 1) := by decide +kernel
theorem dX4_isSide_3 : decode cX4_isSide 3 = .ok (.invokestatic 69, 3) := by decide +kernel
theorem dX4_isSide_6 : decode cX4_isSide 6 = .ok (.ireturn, 1) := by decide +kernel
theorem dX4_isEnd_0 : decode cX4_isEnd 0 = .ok (.iload_n 0, 1) := by decide +kernel
theorem dX4_isEnd_1 : decode cX4_isEnd 1 = .ok (.iconst 0, 1) := by decide +kernel
theorem dX4_isEnd_2 : decode cX4_isEnd 2 = .ok (.iconst 1, 1) := by decide +kernel
theorem dX4_isEnd_3 : decode cX4_isEnd 3 = .ok (.invokestatic 69, 3) := by decide +kernel
theorem dX4_isEnd_6 : decode cX4_isEnd 6 = .ok (.ireturn, 1) := by decide +kernel
theorem dX4_isPart_0 : decode cX4_isPart 0 = .ok (.iload_n 0, 1) := by decide +kernel
theorem dX4_isPart_1 : decode cX4_isPart 1 = .ok (.iconst 0, 1) := by decide +kernel
theorem dX4_isPart_2 : decode cX4_isPart 2 = .ok (.iconst 1, 1) := by decide +kernel
theorem dX4_isPart_3 : decode cX4_isPart 3 = .ok (.invokestatic 69, 3) := by decide +kernel
theorem dX4_isPart_6 : decode cX4_isPart 6 = .ok (.ireturn, 1) := by decide +kernel
theorem dX4_isKind_0 : decode cX4_isKind 0 = .ok (.iload_n 0, 1) := by decide +kernel
theorem dX4_isKind_1 : decode cX4_isKind 1 = .ok (.iconst 0, 1) := by decide +kernel
theorem dX4_isKind_2 : decode cX4_isKind 2 = .ok (.iconst 3, 1) := by decide +kernel
theorem dX4_isKind_3 : decode cX4_isKind 3 = .ok (.invokestatic 69, 3) := by decide +kernel
theorem dX4_isKind_6 : decode cX4_isKind 6 = .ok (.ireturn, 1) := by decide +kernel
theorem dX4_isHand_0 : decode cX4_isHand 0 = .ok (.iload_n 0, 1) := by decide +kernel
theorem dX4_isHand_1 : decode cX4_isHand 1 = .ok (.invokestatic 190, 3) := by decide +kernel
theorem dX4_isHand_4 : decode cX4_isHand 4 = .ok (.ifCond .eq 16, 3) := by decide +kernel
theorem dX4_isHand_7 : decode cX4_isHand 7 = .ok (.iload_n 1, 1) := by decide +kernel
theorem dX4_isHand_8 : decode cX4_isHand 8 = .ok (.iconst 0, 1) := by decide +kernel
theorem dX4_isHand_9 : decode cX4_isHand 9 = .ok (.iconst 4, 1) := by decide +kernel
theorem dX4_isHand_10 : decode cX4_isHand 10 = .ok (.invokestatic 69, 3) := by decide +kernel
theorem dX4_isHand_13 : decode cX4_isHand 13 = .ok (.ifCond .eq 7, 3) := by decide +kernel
theorem dX4_isHand_16 : decode cX4_isHand 16 = .ok (.iconst 1, 1) := by decide +kernel
theorem dX4_isHand_17 : decode cX4_isHand 17 = .ok (.goto 4, 3) := by decide +kernel
theorem dX4_isHand_20 : decode cX4_isHand 20 = .ok (.iconst 0, 1) := by decide +kernel
theorem dX4_isHand_21 : decode cX4_isHand 21 = .ok (.ireturn, 1) := by decide +kernel
end
section
theorem dX5_init_0 : decode cX5_init 0 = .ok (.aload_n 0, 1) := by decide +kernel
theorem dX5_init_1 : decode cX5_init 1 = .ok (.invokespecial 1, 3) := by decide +kernel
theorem dX5_init_4 : decode cX5_init 4 = .ok (.aload_n 0, 1) := by decide +kernel
theorem dX5_init_5 : decode cX5_init 5 = .ok (.sipush 200, 3) := by decide +kernel
theorem dX5_init_8 : decode cX5_init 8 = .ok (.newarray .int, 2) := by decide +kernel
theorem dX5_init_10 : decode cX5_init 10 = .ok (.putfield 7, 3) := by decide +kernel
theorem dX5_init_13 : decode cX5_init 13 = .ok (.aload_n 0, 1) := by decide +kernel
theorem dX5_init_14 : decode cX5_init 14 = .ok (.bipush 6, 2) := by decide +kernel
theorem dX5_init_16 : decode cX5_init 16 = .ok (.newarray .int, 2) := by decide +kernel
theorem dX5_init_18 : decode cX5_init 18 = .ok (.putfield 13, 3) := by decide +kernel
theorem dX5_init_21 : decode cX5_init 21 = .ok (.aload_n 0, 1) := by decide +kernel
theorem dX5_init_22 : decode cX5_init 22 = .ok (.iconst 5, 1) := by decide +kernel
theorem dX5_init_23 : decode cX5_init 23 = .ok (.newarray .int, 2) := by decide +kernel
theorem dX5_init_25 : decode cX5_init 25 = .ok (.putfield 16, 3) := by decide +kernel
theorem dX5_init_28 : decode cX5_init 28 = .ok (.aload_n 0, 1) := by decide +kernel
theorem dX5_init_29 : decode cX5_init 29 = .ok (.bipush 40, 2) := by decide +kernel
theorem dX5_init_31 : decode cX5_init 31 = .ok (.newarray .int, 2) := by decide +kernel
theorem dX5_init_33 : decode cX5_init 33 = .ok (.putfield 19, 3) := by decide +kernel
theorem dX5_init_36 : decode cX5_init 36 = .ok (.aload_n 0, 1) := by decide +kernel
theorem dX5_init_37 : decode cX5_init 37 = .ok (.bipush 10, 2) := by decide +kernel
theorem dX5_init_39 : decode cX5_init 39 = .ok (.newarray .int, 2) := by decide +kernel
theorem dX5_init_41 : decode cX5_init 41 = .ok (.putfield 22, 3) := by decide +kernel
theorem dX5_init_44 : decode cX5_init 44 = .ok (.aload_n 0, 1) := by decide +kernel
theorem dX5_init_45 : decode cX5_init 45 = .ok (.bipush 6, 2) := by decide +kernel
theorem dX5_init_47 : decode cX5_init 47 = .ok (.newarray .int, 2) := by decide +kernel
theorem dX5_init_49 : decode cX5_init 49 = .ok (.putfield 25, 3) := by decide +kernel
theorem dX5_init_52 : decode cX5_init 52 = .ok (.aload_n 0, 1) := by decide +kernel
theorem dX5_init_53 : decode cX5_init 53 = .ok (.sipush 363, 3) := by decide +kernel
theorem dX5_init_56 : decode cX5_init 56 = .ok (.newarray .long, 2) := by decide +kernel
theorem dX5_init_58 : decode cX5_init 58 = .ok (.putfield 28, 3) := by decide +kernel
theorem dX5_init_61 : decode cX5_init 61 = .ok (.aload_n 0, 1) := by decide +kernel
theorem dX5_init_62 : decode cX5_init 62 = .ok (.sipush 363, 3) := by decide +kernel
theorem dX5_init_65 : decode cX5_init 65 = .ok (.newarray .long, 2) := by decide +kernel
theorem dX5_init_67 : decode cX5_init 67 = .ok (.putfield 32, 3) := by decide +kernel
theorem dX5_init_70 : decode cX5_init 70 = .ok (.aload_n 0, 1) := by decide +kernel
theorem dX5_init_71 : decode cX5_init 71 = .ok (.bipush 11, 2) := by decide +kernel
theorem dX5_init_73 : decode cX5_init 73 = .ok (.newarray .long, 2) := by decide +kernel
theorem dX5_init_75 : decode cX5_init 75 = .ok (.putfield 35, 3) := by decide +kernel
theorem dX5_init_78 : decode cX5_init 78 = .ok (.aload_n 0, 1) := by decide +kernel
theorem dX5_init_79 : decode cX5_init 79 = .ok (.bipush 22, 2) := by decide +kernel
theorem dX5_init_81 : decode cX5_init 81 = .ok (.newarray .long, 2) := by decide +kernel
theorem dX5_init_83 : decode cX5_init 83 = .ok (.putfield 38, 3) := by decide +kernel
theorem dX5_init_86 : decode cX5_init 86 = .ok (.aload_n 0, 1) := by decide +kernel
theorem dX5_init_87 : decode cX5_init 87 = .ok (.invokevirtual 41, 3) := by decide +kernel
theorem dX5_init_90 : decode cX5_init 90 = .ok (.aload_n 0, 1) := by decide +kernel
theorem dX5_init_91 : decode cX5_init 91 = .ok (.getfield 13, 3) := by decide +kernel
theorem dX5_init_94 : decode cX5_init 94 = .ok (.iconst 0, 1) := by decide +kernel
theorem dX5_init_95 : decode cX5_init 95 = .ok (.bipush 6, 2) := by decide +kernel
theorem dX5_init_97 : decode cX5_init 97 = .ok (.iastore, 1) := by decide +kernel
theorem dX5_init_98 : decode cX5_init 98 = .ok (.aload_n 0, 1) := by decide +kernel
theorem dX5_init_99 : decode cX5_init 99 = .ok (.getfield 13, 3) := by decide +kernel
theorem dX5_init_102 : decode cX5_init 102 = .ok (.iconst 1, 1) := by decide +kernel
theorem dX5_init_103 : decode cX5_init 103 = .ok (.iconst 4, 1) := by decide +kernel
theorem dX5_init_104 : decode cX5_init 104 = .ok (.iastore, 1) := by decide +kernel
theorem dX5_init_105 : decode cX5_init 105 = .ok (.aload_n 0, 1) := by decide +kernel
theorem dX5_init_106 : decode cX5_init 106 = .ok (.getfield 13, 3) := by decide +kernel
theorem dX5_init_109 : decode cX5_init 109 = .ok (.iconst 3, 1) := by decide +kernel
theorem dX5_init_110 : decode cX5_init 110 = .ok (.iconst 2, 1) := by decide +kernel
theorem dX5_init_111 : decode cX5_init 111 = .ok (.iastore, 1) := by decide +kernel
theorem dX5_init_112 : decode cX5_init 112 = .ok (.aload_n 0, 1) := by decide +kernel
theorem dX5_init_113 : decode cX5_init 113 = .ok (.getfield 13, 3) := by decide +kernel
theorem dX5_init_116 : decode cX5_init 116 = .ok (.iconst 4, 1) := by decide +kernel
theorem dX5_init_117 : decode cX5_init 117 = .ok (.iconst 3, 1) := by decide +kernel
theorem dX5_init_118 : decode cX5_init 118 = .ok (.iastore, 1) := by decide +kernel
theorem dX5_init_119 : decode cX5_init 119 = .ok (.aload_n 0, 1) := by decide +kernel
theorem dX5_init_120 : decode cX5_init 120 = .ok (.getfield 13, 3) := by decide +kernel
theorem dX5_init_123 : decode cX5_init 123 = .ok (.iconst 5, 1) := by decide +kernel
theorem dX5_init_124 : decode cX5_init 124 = .ok (.iconst 2, 1) := by decide +kernel
theorem dX5_init_125 : decode cX5_init 125 = .ok (.iastore, 1) := by decide +kernel
theorem dX5_init_126 : decode cX5_init 126 = .ok (.aload_n 0, 1) := by decide +kernel
theorem dX5_init_127 : decode cX5_init 127 = .ok (.invokevirtual 44, 3) := by decide +kernel
theorem dX5_init_130 : decode cX5_init 130 = .ok (.return_, 1) := by decide +kernel
theorem dX5_in_0 : decode cX5_in 0 = .ok (.iload_n 0, 1) := by decide +kernel
theorem dX5_in_1 : decode cX5_in 1 = .ok (.iload_n 1, 1) := by decide +kernel
theorem dX5_in_2 : decode cX5_in 2 = .ok (.if_icmp .lt 12, 3) := by decide +kernel
theorem dX5_in_5 : decode cX5_in 5 = .ok (.iload_n 0, 1) := by decide +kernel
theorem dX5_in_6 : decode cX5_in 6 = .ok (.iload_n 2, 1) := by decide +kernel
theorem dX5_in_7 : decode cX5_in 7 = .ok (.if_icmp .gt 7, 3) := by decide +kernel
theorem dX5_in_10 : decode cX5_in 10 = .ok (.iconst 1, 1) := by decide +kernel
theorem dX5_in_11 : decode cX5_in 11 = .ok (.goto 4, 3) := by decide +kernel
theorem dX5_in_14 : decode cX5_in 14 = .ok (.iconst 0, 1) := by decide +kernel
theorem dX5_in_15 : decode cX5_in 15 = .ok (.ireturn, 1) := by decide +kernel
theorem dX5_write_0 : decode cX5_write 0 = .ok (.iload_n 1, 1) := by decide +kernel
theorem dX5_write_1 : decode cX5_write 1 = .ok (.bipush 32, 2) := by decide +kernel
theorem dX5_write_3 : decode cX5_write 3 = .ok (.bipush 126, 2) := by decide +kernel
theorem dX5_write_5 : decode cX5_write 5 = .ok (.invokestatic 47, 3) := by decide +kernel
theorem dX5_write_8 : decode cX5_write 8 = .ok (.ifCond .ne 5, 3) := by decide +kernel
theorem dX5_write_11 : decode cX5_write 11 = .ok (.iconst (-1), 1) := by decide +kernel
theorem dX5_write_12 : decode cX5_write 12 = .ok (.ireturn, 1) := by decide +kernel
theorem dX5_write_13 : decode cX5_write 13 = .ok (.aload_n 0, 1) := by decide +kernel
theorem dX5_write_14 : decode cX5_write 14 = .ok (.getfield 51, 3) := by decide +kernel
theorem dX5_write_17 : decode cX5_write 17 = .ok (.sipush 200, 3) := by decide +kernel
theorem dX5_write_20 : decode cX5_write 20 = .ok (.if_icmp .ne 6, 3) := by decide +kernel
theorem dX5_write_23 : decode cX5_write 23 = .ok (.bipush (-3), 2) := by decide +kernel
theorem dX5_write_25 : decode cX5_write 25 = .ok (.ireturn, 1) := by decide +kernel
theorem dX5_write_26 : decode cX5_write 26 = .ok (.aload_n 0, 1) := by decide +kernel
theorem dX5_write_27 : decode cX5_write 27 = .ok (.getfield 7, 3) := by decide +kernel
theorem dX5_write_30 : decode cX5_write 30 = .ok (.aload_n 0, 1) := by decide +kernel
theorem dX5_write_31 : decode cX5_write 31 = .ok (.getfield 51, 3) := by decide +kernel
theorem dX5_write_34 : decode cX5_write 34 = .ok (.iload_n 1, 1) := by decide +kernel
theorem dX5_write_35 : decode cX5_write 35 = .ok (.iastore, 1) := by decide +kernel
theorem dX5_write_36 : decode cX5_write 36 = .ok (.aload_n 0, 1) := by decide +kernel
theorem dX5_write_37 : decode cX5_write 37 = .ok (.dup, 1) := by decide +kernel
theorem dX5_write_38 : decode cX5_write 38 = .ok (.getfield 51, 3) := by decide +kernel
theorem dX5_write_41 : decode cX5_write 41 = .ok (.iconst 1, 1) := by decide +kernel
theorem dX5_write_42 : decode cX5_write 42 = .ok (.iadd, 1) := by decide +kernel
theorem dX5_write_43 : decode cX5_write 43 = .ok (.putfield 51, 3) := by decide +kernel
theorem dX5_write_46 : decode cX5_write 46 = .ok (.aload_n 0, 1) := by decide +kernel
theorem dX5_write_47 : decode cX5_write 47 = .ok (.getfield 51, 3) := by decide +kernel
theorem dX5_write_50 : decode cX5_write 50 = .ok (.ireturn, 1) := by decide +kernel
theorem dX5_wipe_0 : decode cX5_wipe 0 = .ok (.aload_n 0, 1) := by decide +kernel
theorem dX5_wipe_1 : decode cX5_wipe 1 = .ok (.getfield 51, 3) := by decide +kernel
theorem dX5_wipe_4 : decode cX5_wipe 4 = .ok (.istore_n 1, 1) := by decide +kernel
theorem dX5_wipe_5 : decode cX5_wipe 5 = .ok (.aload_n 0, 1) := by decide +kernel
theorem dX5_wipe_6 : decode cX5_wipe 6 = .ok (.iconst 0, 1) := by decide +kernel
theorem dX5_wipe_7 : decode cX5_wipe 7 = .ok (.putfield 51, 3) := by decide +kernel
theorem dX5_wipe_10 : decode cX5_wipe 10 = .ok (.iload_n 1, 1) := by decide +kernel
theorem dX5_wipe_11 : decode cX5_wipe 11 = .ok (.ireturn, 1) := by decide +kernel
theorem dX5_letterAt_0 : decode cX5_letterAt 0 = .ok (.iload_n 1, 1) := by decide +kernel
theorem dX5_letterAt_1 : decode cX5_letterAt 1 = .ok (.aload_n 0, 1) := by decide +kernel
theorem dX5_letterAt_2 : decode cX5_letterAt 2 = .ok (.getfield 51, 3) := by decide +kernel
theorem dX5_letterAt_5 : decode cX5_letterAt 5 = .ok (.if_icmp .ge 12, 3) := by decide +kernel
theorem dX5_letterAt_8 : decode cX5_letterAt 8 = .ok (.aload_n 0, 1) := by decide +kernel
theorem dX5_letterAt_9 : decode cX5_letterAt 9 = .ok (.getfield 7, 3) := by decide +kernel
theorem dX5_letterAt_12 : decode cX5_letterAt 12 = .ok (.iload_n 1, 1) := by decide +kernel
theorem dX5_letterAt_13 : decode cX5_letterAt 13 = .ok (.iaload, 1) := by decide +kernel
theorem dX5_letterAt_14 : decode cX5_letterAt 14 = .ok (.goto 4, 3) := by decide +kernel
theorem dX5_letterAt_17 : decode cX5_letterAt 17 = .ok (.iconst (-1), 1) := by decide +kernel
theorem dX5_letterAt_18 : decode cX5_letterAt 18 = .ok (.ireturn, 1) := by decide +kernel
theorem dX5_isFigure_0 : decode cX5_isFigure 0 = .ok (.iload_n 0, 1) := by decide +kernel
theorem dX5_isFigure_1 : decode cX5_isFigure 1 = .ok (.bipush 48, 2) := by decide +kernel
theorem dX5_isFigure_3 : decode cX5_isFigure 3 = .ok (.bipush 57, 2) := by decide +kernel
theorem dX5_isFigure_5 : decode cX5_isFigure 5 = .ok (.invokestatic 47, 3) := by decide +kernel
theorem dX5_isFigure_8 : decode cX5_isFigure 8 = .ok (.ireturn, 1) := by decide +kernel
theorem dX5_number_0 : decode cX5_number 0 = .ok (.aload_n 0, 1) := by decide +kernel
theorem dX5_number_1 : decode cX5_number 1 = .ok (.aload_n 0, 1) := by decide +kernel
theorem dX5_number_2 : decode cX5_number 2 = .ok (.getfield 55, 3) := by decide +kernel
theorem dX5_number_5 : decode cX5_number 5 = .ok (.invokevirtual 58, 3) := by decide +kernel
theorem dX5_number_8 : decode cX5_number 8 = .ok (.invokestatic 62, 3) := by decide +kernel
theorem dX5_number_11 : decode cX5_number 11 = .ok (.ifCond .ne 5, 3) := by decide +kernel
theorem dX5_number_14 : decode cX5_number 14 = .ok (.iconst (-1), 1) := by decide +kernel
theorem dX5_number_15 : decode cX5_number 15 = .ok (.ireturn, 1) := by decide +kernel
theorem dX5_number_16 : decode cX5_number 16 = .ok (.aload_n 0, 1) := by decide +kernel
theorem dX5_number_17 : decode cX5_number 17 = .ok (.aload_n 0, 1) := by decide +kernel
theorem dX5_number_18 : decode cX5_number 18 = .ok (.getfield 55, 3) := by decide +kernel
theorem dX5_number_21 : decode cX5_number 21 = .ok (.invokevirtual 58, 3) := by decide +kernel
theorem dX5_number_24 : decode cX5_number 24 = .ok (.bipush 48, 2) := by decide +kernel
theorem dX5_number_26 : decode cX5_number 26 = .ok (.isub, 1) := by decide +kernel
theorem dX5_number_27 : decode cX5_number 27 = .ok (.istore 4, 2) := by decide +kernel
theorem dX5_number_29 : decode cX5_number 29 = .ok (.aload_n 0, 1) := by decide +kernel
theorem dX5_number_30 : decode cX5_number 30 = .ok (.dup, 1) := by decide +kernel
theorem dX5_number_31 : decode cX5_number 31 = .ok (.getfield 55, 3) := by decide +kernel
theorem dX5_number_34 : decode cX5_number 34 = .ok (.iconst 1, 1) := by decide +kernel
theorem dX5_number_35 : decode cX5_number 35 = .ok (.iadd, 1) := by decide +kernel
theorem dX5_number_36 : decode cX5_number 36 = .ok (.putfield 55, 3) := by decide +kernel
theorem dX5_number_39 : decode cX5_number 39 = .ok (.aload_n 0, 1) := by decide +kernel
theorem dX5_number_40 : decode cX5_number 40 = .ok (.aload_n 0, 1) := by decide +kernel
theorem dX5_number_41 : decode cX5_number 41 = .ok (.getfield 55, 3) := by decide +kernel
theorem dX5_number_44 : decode cX5_number 44 = .ok (.invokevirtual 58, 3) := by decide +kernel
theorem dX5_number_47 : decode cX5_number 47 = .ok (.invokestatic 62, 3) := by decide +kernel
theorem dX5_number_50 : decode cX5_number 50 = .ok (.ifCond .eq 32, 3) := by decide +kernel
theorem dX5_number_53 : decode cX5_number 53 = .ok (.bipush 10, 2) := by decide +kernel
theorem dX5_number_55 : decode cX5_number 55 = .ok (.iload 4, 2) := by decide +kernel
theorem dX5_number_57 : decode cX5_number 57 = .ok (.imul, 1) := by decide +kernel
theorem dX5_number_58 : decode cX5_number 58 = .ok (.aload_n 0, 1) := by decide +kernel
theorem dX5_number_59 : decode cX5_number 59 = .ok (.aload_n 0, 1) := by decide +kernel
theorem dX5_number_60 : decode cX5_number 60 = .ok (.getfield 55, 3) := by decide +kernel
theorem dX5_number_63 : decode cX5_number 63 = .ok (.invokevirtual 58, 3) := by decide +kernel
theorem dX5_number_66 : decode cX5_number 66 = .ok (.iadd, 1) := by decide +kernel
theorem dX5_number_67 : decode cX5_number 67 = .ok (.bipush 48, 2) := by decide +kernel
theorem dX5_number_69 : decode cX5_number 69 = .ok (.isub, 1) := by decide +kernel
theorem dX5_number_70 : decode cX5_number 70 = .ok (.istore 4, 2) := by decide +kernel
theorem dX5_number_72 : decode cX5_number 72 = .ok (.aload_n 0, 1) := by decide +kernel
theorem dX5_number_73 : decode cX5_number 73 = .ok (.dup, 1) := by decide +kernel
theorem dX5_number_74 : decode cX5_number 74 = .ok (.getfield 55, 3) := by decide +kernel
theorem dX5_number_77 : decode cX5_number 77 = .ok (.iconst 1, 1) := by decide +kernel
theorem dX5_number_78 : decode cX5_number 78 = .ok (.iadd, 1) := by decide +kernel
theorem dX5_number_79 : decode cX5_number 79 = .ok (.putfield 55, 3) := by decide +kernel
theorem dX5_number_82 : decode cX5_number 82 = .ok (.aload_n 0, 1) := by decide +kernel
theorem dX5_number_83 : decode cX5_number 83 = .ok (.aload_n 0, 1) := by decide +kernel
theorem dX5_number_84 : decode cX5_number 84 = .ok (.getfield 55, 3) := by decide +kernel
theorem dX5_number_87 : decode cX5_number 87 = .ok (.invokevirtual 58, 3) := by decide +kernel
theorem dX5_number_90 : decode cX5_number 90 = .ok (.iload_n 3, 1) := by decide +kernel
theorem dX5_number_91 : decode cX5_number 91 = .ok (.if_icmp .ne 17, 3) := by decide +kernel
theorem dX5_number_94 : decode cX5_number 94 = .ok (.iload 4, 2) := by decide +kernel
theorem dX5_number_96 : decode cX5_number 96 = .ok (.iload_n 1, 1) := by decide +kernel
theorem dX5_number_97 : decode cX5_number 97 = .ok (.iload_n 2, 1) := by decide +kernel
theorem dX5_number_98 : decode cX5_number 98 = .ok (.invokestatic 47, 3) := by decide +kernel
theorem dX5_number_101 : decode cX5_number 101 = .ok (.ifCond .eq 7, 3) := by decide +kernel
theorem dX5_number_104 : decode cX5_number 104 = .ok (.iconst 1, 1) := by decide +kernel
theorem dX5_number_105 : decode cX5_number 105 = .ok (.goto 4, 3) := by decide +kernel
theorem dX5_number_108 : decode cX5_number 108 = .ok (.iconst 0, 1) := by decide +kernel
theorem dX5_number_109 : decode cX5_number 109 = .ok (.istore 5, 2) := by decide +kernel
theorem dX5_number_111 : decode cX5_number 111 = .ok (.aload_n 0, 1) := by decide +kernel
theorem dX5_number_112 : decode cX5_number 112 = .ok (.dup, 1) := by decide +kernel
theorem dX5_number_113 : decode cX5_number 113 = .ok (.getfield 55, 3) := by decide +kernel
theorem dX5_number_116 : decode cX5_number 116 = .ok (.iconst 1, 1) := by decide +kernel
theorem dX5_number_117 : decode cX5_number 117 = .ok (.iadd, 1) := by decide +kernel
theorem dX5_number_118 : decode cX5_number 118 = .ok (.putfield 55, 3) := by decide +kernel
theorem dX5_number_121 : decode cX5_number 121 = .ok (.iload 5, 2) := by decide +kernel
theorem dX5_number_123 : decode cX5_number 123 = .ok (.ifCond .eq 8, 3) := by decide +kernel
theorem dX5_number_126 : decode cX5_number 126 = .ok (.iload 4, 2) := by decide +kernel
theorem dX5_number_128 : decode cX5_number 128 = .ok (.goto 4, 3) := by decide +kernel
theorem dX5_number_131 : decode cX5_number 131 = .ok (.iconst (-1), 1) := by decide +kernel
theorem dX5_number_132 : decode cX5_number 132 = .ok (.ireturn, 1) := by decide +kernel
theorem dX5_begins_0 : decode cX5_begins 0 = .ok (.aload_n 0, 1) := by decide +kernel
theorem dX5_begins_1 : decode cX5_begins 1 = .ok (.getfield 13, 3) := by decide +kernel
theorem dX5_begins_4 : decode cX5_begins 4 = .ok (.iconst 0, 1) := by decide +kernel
theorem dX5_begins_5 : decode cX5_begins 5 = .ok (.bipush 10, 2) := by decide +kernel
theorem dX5_begins_7 : decode cX5_begins 7 = .ok (.iastore, 1) := by decide +kernel
theorem dX5_begins_8 : decode cX5_begins 8 = .ok (.aload_n 0, 1) := by decide +kernel
theorem dX5_begins_9 : decode cX5_begins 9 = .ok (.getfield 13, 3) := by decide +kernel
theorem dX5_begins_12 : decode cX5_begins 12 = .ok (.iconst 1, 1) := by decide +kernel
theorem dX5_begins_13 : decode cX5_begins 13 = .ok (.bipush 10, 2) := by decide +kernel
theorem dX5_begins_15 : decode cX5_begins 15 = .ok (.iastore, 1) := by decide +kernel
theorem dX5_begins_16 : decode cX5_begins 16 = .ok (.aload_n 0, 1) := by decide +kernel
theorem dX5_begins_17 : decode cX5_begins 17 = .ok (.getfield 13, 3) := by decide +kernel
theorem dX5_begins_20 : decode cX5_begins 20 = .ok (.iconst 2, 1) := by decide +kernel
theorem dX5_begins_21 : decode cX5_begins 21 = .ok (.iconst 2, 1) := by decide +kernel
theorem dX5_begins_22 : decode cX5_begins 22 = .ok (.iastore, 1) := by decide +kernel
theorem dX5_begins_23 : decode cX5_begins 23 = .ok (.aload_n 0, 1) := by decide +kernel
theorem dX5_begins_24 : decode cX5_begins 24 = .ok (.getfield 13, 3) := by decide +kernel
theorem dX5_begins_27 : decode cX5_begins 27 = .ok (.iconst 3, 1) := by decide +kernel
theorem dX5_begins_28 : decode cX5_begins 28 = .ok (.iconst 0, 1) := by decide +kernel
theorem dX5_begins_29 : decode cX5_begins 29 = .ok (.iastore, 1) := by decide +kernel
theorem dX5_begins_30 : decode cX5_begins 30 = .ok (.aload_n 0, 1) := by decide +kernel
theorem dX5_begins_31 : decode cX5_begins 31 = .ok (.getfield 13, 3) := by decide +kernel
theorem dX5_begins_34 : decode cX5_begins 34 = .ok (.iconst 4, 1) := by decide +kernel
theorem dX5_begins_35 : decode cX5_begins 35 = .ok (.iconst 2, 1) := by decide +kernel
theorem dX5_begins_36 : decode cX5_begins 36 = .ok (.iastore, 1) := by decide +kernel
theorem dX5_begins_37 : decode cX5_begins 37 = .ok (.aload_n 0, 1) := by decide +kernel
theorem dX5_begins_38 : decode cX5_begins 38 = .ok (.getfield 13, 3) := by decide +kernel
theorem dX5_begins_41 : decode cX5_begins 41 = .ok (.iconst 5, 1) := by decide +kernel
theorem dX5_begins_42 : decode cX5_begins 42 = .ok (.iconst 3, 1) := by decide +kernel
theorem dX5_begins_43 : decode cX5_begins 43 = .ok (.iastore, 1) := by decide +kernel
theorem dX5_begins_44 : decode cX5_begins 44 = .ok (.return_, 1) := by decide +kernel
theorem dX5_readsTwo_0 : decode cX5_readsTwo 0 = .ok (.aload_n 0, 1) := by decide +kernel
theorem dX5_readsTwo_1 : decode cX5_readsTwo 1 = .ok (.getfield 13, 3) := by decide +kernel
theorem dX5_readsTwo_4 : decode cX5_readsTwo 4 = .ok (.iload_n 1, 1) := by decide +kernel
theorem dX5_readsTwo_5 : decode cX5_readsTwo 5 = .ok (.aload_n 0, 1) := by decide +kernel
theorem dX5_readsTwo_6 : decode cX5_readsTwo 6 = .ok (.iconst 0, 1) := by decide +kernel
theorem dX5_readsTwo_7 : decode cX5_readsTwo 7 = .ok (.iload_n 2, 1) := by decide +kernel
theorem dX5_readsTwo_8 : decode cX5_readsTwo 8 = .ok (.bipush 44, 2) := by decide +kernel
theorem dX5_readsTwo_10 : decode cX5_readsTwo 10 = .ok (.invokevirtual 66, 3) := by decide +kernel
theorem dX5_readsTwo_13 : decode cX5_readsTwo 13 = .ok (.iastore, 1) := by decide +kernel
theorem dX5_readsTwo_14 : decode cX5_readsTwo 14 = .ok (.aload_n 0, 1) := by decide +kernel
theorem dX5_readsTwo_15 : decode cX5_readsTwo 15 = .ok (.getfield 13, 3) := by decide +kernel
theorem dX5_readsTwo_18 : decode cX5_readsTwo 18 = .ok (.iload_n 1, 1) := by decide +kernel
theorem dX5_readsTwo_19 : decode cX5_readsTwo 19 = .ok (.iconst 1, 1) := by decide +kernel
theorem dX5_readsTwo_20 : decode cX5_readsTwo 20 = .ok (.iadd, 1) := by decide +kernel
theorem dX5_readsTwo_21 : decode cX5_readsTwo 21 = .ok (.aload_n 0, 1) := by decide +kernel
theorem dX5_readsTwo_22 : decode cX5_readsTwo 22 = .ok (.getfield 13, 3) := by decide +kernel
theorem dX5_readsTwo_25 : decode cX5_readsTwo 25 = .ok (.iload_n 1, 1) := by decide +kernel
theorem dX5_readsTwo_26 : decode cX5_readsTwo 26 = .ok (.iaload, 1) := by decide +kernel
theorem dX5_readsTwo_27 : decode cX5_readsTwo 27 = .ok (.ifCond .ge 7, 3) := by decide +kernel
theorem dX5_readsTwo_30 : decode cX5_readsTwo 30 = .ok (.iconst (-1), 1) := by decide +kernel
theorem dX5_readsTwo_31 : decode cX5_readsTwo 31 = .ok (.goto 11, 3) := by decide +kernel
theorem dX5_readsTwo_34 : decode cX5_readsTwo 34 = .ok (.aload_n 0, 1) := by decide +kernel
theorem dX5_readsTwo_35 : decode cX5_readsTwo 35 = .ok (.iconst 0, 1) := by decide +kernel
theorem dX5_readsTwo_36 : decode cX5_readsTwo 36 = .ok (.iload_n 3, 1) := by decide +kernel
theorem dX5_readsTwo_37 : decode cX5_readsTwo 37 = .ok (.bipush 59, 2) := by decide +kernel
theorem dX5_readsTwo_39 : decode cX5_readsTwo 39 = .ok (.invokevirtual 66, 3) := by decide +kernel
theorem dX5_readsTwo_42 : decode cX5_readsTwo 42 = .ok (.iastore, 1) := by decide +kernel
theorem dX5_readsTwo_43 : decode cX5_readsTwo 43 = .ok (.aload_n 0, 1) := by decide +kernel
theorem dX5_readsTwo_44 : decode cX5_readsTwo 44 = .ok (.getfield 13, 3) := by decide +kernel
theorem dX5_readsTwo_47 : decode cX5_readsTwo 47 = .ok (.iload_n 1, 1) := by decide +kernel
theorem dX5_readsTwo_48 : decode cX5_readsTwo 48 = .ok (.iconst 1, 1) := by decide +kernel
theorem dX5_readsTwo_49 : decode cX5_readsTwo 49 = .ok (.iadd, 1) := by decide +kernel
theorem dX5_readsTwo_50 : decode cX5_readsTwo 50 = .ok (.iaload, 1) := by decide +kernel
theorem dX5_readsTwo_51 : decode cX5_readsTwo 51 = .ok (.ifCond .lt 7, 3) := by decide +kernel
theorem dX5_readsTwo_54 : decode cX5_readsTwo 54 = .ok (.iconst 1, 1) := by decide +kernel
theorem dX5_readsTwo_55 : decode cX5_readsTwo 55 = .ok (.goto 4, 3) := by decide +kernel
theorem dX5_readsTwo_58 : decode cX5_readsTwo 58 = .ok (.iconst 0, 1) := by decide +kernel
theorem dX5_readsTwo_59 : decode cX5_readsTwo 59 = .ok (.ireturn, 1) := by decide +kernel
theorem dX5_readsItem_0 : decode cX5_readsItem 0 = .ok (.iload_n 1, 1) := by decide +kernel
theorem dX5_readsItem_1 : decode cX5_readsItem 1 = .ok (.lookupswitch 120 #[(98, 43), (101, 90), (104, 53), (108, 61)], 43) := by decide +kernel
theorem dX5_readsItem_44 : decode cX5_readsItem 44 = .ok (.aload_n 0, 1) := by decide +kernel
theorem dX5_readsItem_45 : decode cX5_readsItem 45 = .ok (.iconst 0, 1) := by decide +kernel
theorem dX5_readsItem_46 : decode cX5_readsItem 46 = .ok (.bipush 10, 2) := by decide +kernel
theorem dX5_readsItem_48 : decode cX5_readsItem 48 = .ok (.bipush 10, 2) := by decide +kernel
theorem dX5_readsItem_50 : decode cX5_readsItem 50 = .ok (.invokevirtual 70, 3) := by decide +kernel
theorem dX5_readsItem_53 : decode cX5_readsItem 53 = .ok (.ireturn, 1) := by decide +kernel
theorem dX5_readsItem_54 : decode cX5_readsItem 54 = .ok (.aload_n 0, 1) := by decide +kernel
theorem dX5_readsItem_55 : decode cX5_readsItem 55 = .ok (.iconst 3, 1) := by decide +kernel
theorem dX5_readsItem_56 : decode cX5_readsItem 56 = .ok (.iconst 3, 1) := by decide +kernel
theorem dX5_readsItem_57 : decode cX5_readsItem 57 = .ok (.iconst 4, 1) := by decide +kernel
theorem dX5_readsItem_58 : decode cX5_readsItem 58 = .ok (.invokevirtual 70, 3) := by decide +kernel
theorem dX5_readsItem_61 : decode cX5_readsItem 61 = .ok (.ireturn, 1) := by decide +kernel
theorem dX5_readsItem_62 : decode cX5_readsItem 62 = .ok (.aload_n 0, 1) := by decide +kernel
theorem dX5_readsItem_63 : decode cX5_readsItem 63 = .ok (.getfield 13, 3) := by decide +kernel
theorem dX5_readsItem_66 : decode cX5_readsItem 66 = .ok (.iconst 2, 1) := by decide +kernel
theorem dX5_readsItem_67 : decode cX5_readsItem 67 = .ok (.aload_n 0, 1) := by decide +kernel
theorem dX5_readsItem_68 : decode cX5_readsItem 68 = .ok (.iconst 0, 1) := by decide +kernel
theorem dX5_readsItem_69 : decode cX5_readsItem 69 = .ok (.iconst 1, 1) := by decide +kernel
theorem dX5_readsItem_70 : decode cX5_readsItem 70 = .ok (.bipush 59, 2) := by decide +kernel
theorem dX5_readsItem_72 : decode cX5_readsItem 72 = .ok (.invokevirtual 66, 3) := by decide +kernel
theorem dX5_readsItem_75 : decode cX5_readsItem 75 = .ok (.iastore, 1) := by decide +kernel
theorem dX5_readsItem_76 : decode cX5_readsItem 76 = .ok (.aload_n 0, 1) := by decide +kernel
theorem dX5_readsItem_77 : decode cX5_readsItem 77 = .ok (.getfield 13, 3) := by decide +kernel
theorem dX5_readsItem_80 : decode cX5_readsItem 80 = .ok (.iconst 2, 1) := by decide +kernel
theorem dX5_readsItem_81 : decode cX5_readsItem 81 = .ok (.iaload, 1) := by decide +kernel
theorem dX5_readsItem_82 : decode cX5_readsItem 82 = .ok (.ifCond .lt 7, 3) := by decide +kernel
theorem dX5_readsItem_85 : decode cX5_readsItem 85 = .ok (.iconst 1, 1) := by decide +kernel
theorem dX5_readsItem_86 : decode cX5_readsItem 86 = .ok (.goto 4, 3) := by decide +kernel
theorem dX5_readsItem_89 : decode cX5_readsItem 89 = .ok (.iconst 0, 1) := by decide +kernel
theorem dX5_readsItem_90 : decode cX5_readsItem 90 = .ok (.ireturn, 1) := by decide +kernel
theorem dX5_readsItem_91 : decode cX5_readsItem 91 = .ok (.aload_n 0, 1) := by decide +kernel
theorem dX5_readsItem_92 : decode cX5_readsItem 92 = .ok (.getfield 13, 3) := by decide +kernel
theorem dX5_readsItem_95 : decode cX5_readsItem 95 = .ok (.iconst 5, 1) := by decide +kernel
theorem dX5_readsItem_96 : decode cX5_readsItem 96 = .ok (.aload_n 0, 1) := by decide +kernel
theorem dX5_readsItem_97 : decode cX5_readsItem 97 = .ok (.iconst 1, 1) := by decide +kernel
theorem dX5_readsItem_98 : decode cX5_readsItem 98 = .ok (.bipush 9, 2) := by decide +kernel
theorem dX5_readsItem_100 : decode cX5_readsItem 100 = .ok (.bipush 59, 2) := by decide +kernel
theorem dX5_readsItem_102 : decode cX5_readsItem 102 = .ok (.invokevirtual 66, 3) := by decide +kernel
theorem dX5_readsItem_105 : decode cX5_readsItem 105 = .ok (.iastore, 1) := by decide +kernel
theorem dX5_readsItem_106 : decode cX5_readsItem 106 = .ok (.aload_n 0, 1) := by decide +kernel
theorem dX5_readsItem_107 : decode cX5_readsItem 107 = .ok (.getfield 13, 3) := by decide +kernel
theorem dX5_readsItem_110 : decode cX5_readsItem 110 = .ok (.iconst 5, 1) := by decide +kernel
theorem dX5_readsItem_111 : decode cX5_readsItem 111 = .ok (.iaload, 1) := by decide +kernel
theorem dX5_readsItem_112 : decode cX5_readsItem 112 = .ok (.ifCond .le 7, 3) := by decide +kernel
theorem dX5_readsItem_115 : decode cX5_readsItem 115 = .ok (.iconst 1, 1) := by decide +kernel
theorem dX5_readsItem_116 : decode cX5_readsItem 116 = .ok (.goto 4, 3) := by decide +kernel
theorem dX5_readsItem_119 : decode cX5_readsItem 119 = .ok (.iconst 0, 1) := by decide +kernel
theorem dX5_readsItem_120 : decode cX5_readsItem 120 = .ok (.ireturn, 1) := by decide +kernel
theorem dX5_readsItem_121 : decode cX5_readsItem 121 = .ok (.iconst 0, 1) := by decide +kernel
theorem dX5_readsItem_122 : decode cX5_readsItem 122 = .ok (.ireturn, 1) := by decide +kernel
theorem dX5_readsAll_0 : decode cX5_readsAll 0 = .ok (.aload_n 0, 1) := by decide +kernel
theorem dX5_readsAll_1 : decode cX5_readsAll 1 = .ok (.invokevirtual 41, 3) := by decide +kernel
theorem dX5_readsAll_4 : decode cX5_readsAll 4 = .ok (.aload_n 0, 1) := by decide +kernel
theorem dX5_readsAll_5 : decode cX5_readsAll 5 = .ok (.iconst 0, 1) := by decide +kernel
theorem dX5_readsAll_6 : decode cX5_readsAll 6 = .ok (.putfield 55, 3) := by decide +kernel
theorem dX5_readsAll_9 : decode cX5_readsAll 9 = .ok (.aload_n 0, 1) := by decide +kernel
theorem dX5_readsAll_10 : decode cX5_readsAll 10 = .ok (.getfield 55, 3) := by decide +kernel
theorem dX5_readsAll_13 : decode cX5_readsAll 13 = .ok (.aload_n 0, 1) := by decide +kernel
theorem dX5_readsAll_14 : decode cX5_readsAll 14 = .ok (.getfield 51, 3) := by decide +kernel
theorem dX5_readsAll_17 : decode cX5_readsAll 17 = .ok (.if_icmp .ge 36, 3) := by decide +kernel
theorem dX5_readsAll_20 : decode cX5_readsAll 20 = .ok (.aload_n 0, 1) := by decide +kernel
theorem dX5_readsAll_21 : decode cX5_readsAll 21 = .ok (.getfield 55, 3) := by decide +kernel
theorem dX5_readsAll_24 : decode cX5_readsAll 24 = .ok (.istore_n 1, 1) := by decide +kernel
theorem dX5_readsAll_25 : decode cX5_readsAll 25 = .ok (.aload_n 0, 1) := by decide +kernel
theorem dX5_readsAll_26 : decode cX5_readsAll 26 = .ok (.dup, 1) := by decide +kernel
theorem dX5_readsAll_27 : decode cX5_readsAll 27 = .ok (.getfield 55, 3) := by decide +kernel
theorem dX5_readsAll_30 : decode cX5_readsAll 30 = .ok (.iconst 1, 1) := by decide +kernel
theorem dX5_readsAll_31 : decode cX5_readsAll 31 = .ok (.iadd, 1) := by decide +kernel
theorem dX5_readsAll_32 : decode cX5_readsAll 32 = .ok (.putfield 55, 3) := by decide +kernel
theorem dX5_readsAll_35 : decode cX5_readsAll 35 = .ok (.aload_n 0, 1) := by decide +kernel
theorem dX5_readsAll_36 : decode cX5_readsAll 36 = .ok (.aload_n 0, 1) := by decide +kernel
theorem dX5_readsAll_37 : decode cX5_readsAll 37 = .ok (.getfield 7, 3) := by decide +kernel
theorem dX5_readsAll_40 : decode cX5_readsAll 40 = .ok (.iload_n 1, 1) := by decide +kernel
theorem dX5_readsAll_41 : decode cX5_readsAll 41 = .ok (.iaload, 1) := by decide +kernel
theorem dX5_readsAll_42 : decode cX5_readsAll 42 = .ok (.invokevirtual 73, 3) := by decide +kernel
theorem dX5_readsAll_45 : decode cX5_readsAll 45 = .ok (.ifCond .ne 5, 3) := by decide +kernel
theorem dX5_readsAll_48 : decode cX5_readsAll 48 = .ok (.iload_n 1, 1) := by decide +kernel
theorem dX5_readsAll_49 : decode cX5_readsAll 49 = .ok (.ireturn, 1) := by decide +kernel
theorem dX5_readsAll_50 : decode cX5_readsAll 50 = .ok (.goto (-41), 3) := by decide +kernel
theorem dX5_readsAll_53 : decode cX5_readsAll 53 = .ok (.bipush (-4), 2) := by decide +kernel
theorem dX5_readsAll_55 : decode cX5_readsAll 55 = .ok (.ireturn, 1) := by decide +kernel
theorem dX5_fault_0 : decode cX5_fault 0 = .ok (.aload_n 0, 1) := by decide +kernel
theorem dX5_fault_1 : decode cX5_fault 1 = .ok (.invokevirtual 76, 3) := by decide +kernel
theorem dX5_fault_4 : decode cX5_fault 4 = .ok (.ireturn, 1) := by decide +kernel
theorem dX5_lays_0 : decode cX5_lays 0 = .ok (.iconst 0, 1) := by decide +kernel
theorem dX5_lays_1 : decode cX5_lays 1 = .ok (.istore_n 1, 1) := by decide +kernel
theorem dX5_lays_2 : decode cX5_lays 2 = .ok (.iload_n 1, 1) := by decide +kernel
theorem dX5_lays_3 : decode cX5_lays 3 = .ok (.iconst 5, 1) := by decide +kernel
theorem dX5_lays_4 : decode cX5_lays 4 = .ok (.if_icmp .ge 21, 3) := by decide +kernel
theorem dX5_lays_7 : decode cX5_lays 7 = .ok (.aload_n 0, 1) := by decide +kernel
theorem dX5_lays_8 : decode cX5_lays 8 = .ok (.getfield 16, 3) := by decide +kernel
theorem dX5_lays_11 : decode cX5_lays 11 = .ok (.iload_n 1, 1) := by decide +kernel
theorem dX5_lays_12 : decode cX5_lays 12 = .ok (.aload_n 0, 1) := by decide +kernel
theorem dX5_lays_13 : decode cX5_lays 13 = .ok (.getfield 13, 3) := by decide +kernel
theorem dX5_lays_16 : decode cX5_lays 16 = .ok (.iload_n 1, 1) := by decide +kernel
theorem dX5_lays_17 : decode cX5_lays 17 = .ok (.iaload, 1) := by decide +kernel
theorem dX5_lays_18 : decode cX5_lays 18 = .ok (.iastore, 1) := by decide +kernel
theorem dX5_lays_19 : decode cX5_lays 19 = .ok (.iinc 1 1, 3) := by decide +kernel
theorem dX5_lays_22 : decode cX5_lays 22 = .ok (.goto (-20), 3) := by decide +kernel
theorem dX5_lays_25 : decode cX5_lays 25 = .ok (.aload_n 0, 1) := by decide +kernel
theorem dX5_lays_26 : decode cX5_lays 26 = .ok (.aload_n 0, 1) := by decide +kernel
theorem dX5_lays_27 : decode cX5_lays 27 = .ok (.getfield 13, 3) := by decide +kernel
theorem dX5_lays_30 : decode cX5_lays 30 = .ok (.iconst 5, 1) := by decide +kernel
theorem dX5_lays_31 : decode cX5_lays 31 = .ok (.iaload, 1) := by decide +kernel
theorem dX5_lays_32 : decode cX5_lays 32 = .ok (.putfield 80, 3) := by decide +kernel
theorem dX5_lays_35 : decode cX5_lays 35 = .ok (.aload_n 0, 1) := by decide +kernel
theorem dX5_lays_36 : decode cX5_lays 36 = .ok (.iconst 0, 1) := by decide +kernel
theorem dX5_lays_37 : decode cX5_lays 37 = .ok (.putfield 83, 3) := by decide +kernel
theorem dX5_lays_40 : decode cX5_lays 40 = .ok (.aload_n 0, 1) := by decide +kernel
theorem dX5_lays_41 : decode cX5_lays 41 = .ok (.iconst 0, 1) := by decide +kernel
theorem dX5_lays_42 : decode cX5_lays 42 = .ok (.putfield 86, 3) := by decide +kernel
theorem dX5_lays_45 : decode cX5_lays 45 = .ok (.aload_n 0, 1) := by decide +kernel
theorem dX5_lays_46 : decode cX5_lays 46 = .ok (.iconst 0, 1) := by decide +kernel
theorem dX5_lays_47 : decode cX5_lays 47 = .ok (.putfield 89, 3) := by decide +kernel
theorem dX5_lays_50 : decode cX5_lays 50 = .ok (.return_, 1) := by decide +kernel
theorem dX5_lay_0 : decode cX5_lay 0 = .ok (.aload_n 0, 1) := by decide +kernel
theorem dX5_lay_1 : decode cX5_lay 1 = .ok (.invokevirtual 76, 3) := by decide +kernel
theorem dX5_lay_4 : decode cX5_lay 4 = .ok (.bipush (-4), 2) := by decide +kernel
theorem dX5_lay_6 : decode cX5_lay 6 = .ok (.if_icmp .eq 6, 3) := by decide +kernel
theorem dX5_lay_9 : decode cX5_lay 9 = .ok (.bipush (-2), 2) := by decide +kernel
theorem dX5_lay_11 : decode cX5_lay 11 = .ok (.ireturn, 1) := by decide +kernel
theorem dX5_lay_12 : decode cX5_lay 12 = .ok (.aload_n 0, 1) := by decide +kernel
theorem dX5_lay_13 : decode cX5_lay 13 = .ok (.invokevirtual 44, 3) := by decide +kernel
theorem dX5_lay_16 : decode cX5_lay 16 = .ok (.aload_n 0, 1) := by decide +kernel
theorem dX5_lay_17 : decode cX5_lay 17 = .ok (.getfield 16, 3) := by decide +kernel
theorem dX5_lay_20 : decode cX5_lay 20 = .ok (.iconst 0, 1) := by decide +kernel
theorem dX5_lay_21 : decode cX5_lay 21 = .ok (.iaload, 1) := by decide +kernel
theorem dX5_lay_22 : decode cX5_lay 22 = .ok (.aload_n 0, 1) := by decide +kernel
theorem dX5_lay_23 : decode cX5_lay 23 = .ok (.getfield 16, 3) := by decide +kernel
theorem dX5_lay_26 : decode cX5_lay 26 = .ok (.iconst 1, 1) := by decide +kernel
theorem dX5_lay_27 : decode cX5_lay 27 = .ok (.iaload, 1) := by decide +kernel
theorem dX5_lay_28 : decode cX5_lay 28 = .ok (.iadd, 1) := by decide +kernel
theorem dX5_lay_29 : decode cX5_lay 29 = .ok (.ireturn, 1) := by decide +kernel
theorem dX5_box_0 : decode cX5_box 0 = .ok (.iload_n 1, 1) := by decide +kernel
theorem dX5_box_1 : decode cX5_box 1 = .ok (.iconst 0, 1) := by decide +kernel
theorem dX5_box_2 : decode cX5_box 2 = .ok (.iconst 1, 1) := by decide +kernel
theorem dX5_box_3 : decode cX5_box 3 = .ok (.invokestatic 47, 3) := by decide +kernel
theorem dX5_box_6 : decode cX5_box 6 = .ok (.ifCond .eq 12, 3) := by decide +kernel
theorem dX5_box_9 : decode cX5_box 9 = .ok (.aload_n 0, 1) := by decide +kernel
theorem dX5_box_10 : decode cX5_box 10 = .ok (.getfield 16, 3) := by decide +kernel
theorem dX5_box_13 : decode cX5_box 13 = .ok (.iload_n 1, 1) := by decide +kernel
theorem dX5_box_14 : decode cX5_box 14 = .ok (.iaload, 1) := by decide +kernel
theorem dX5_box_15 : decode cX5_box 15 = .ok (.goto 4, 3) := by decide +kernel
theorem dX5_box_18 : decode cX5_box 18 = .ok (.iconst (-1), 1) := by decide +kernel
theorem dX5_box_19 : decode cX5_box 19 = .ok (.ireturn, 1) := by decide +kernel
theorem dX5_toLeft_0 : decode cX5_toLeft 0 = .ok (.iload_n 3, 1) := by decide +kernel
theorem dX5_toLeft_1 : decode cX5_toLeft 1 = .ok (.ifCond .ne 6, 3) := by decide +kernel
theorem dX5_toLeft_4 : decode cX5_toLeft 4 = .ok (.iload 4, 2) := by decide +kernel
theorem dX5_toLeft_6 : decode cX5_toLeft 6 = .ok (.ireturn, 1) := by decide +kernel
theorem dX5_toLeft_7 : decode cX5_toLeft 7 = .ok (.iload_n 3, 1) := by decide +kernel
theorem dX5_toLeft_8 : decode cX5_toLeft 8 = .ok (.iconst 1, 1) := by decide +kernel
theorem dX5_toLeft_9 : decode cX5_toLeft 9 = .ok (.if_icmp .ne 24, 3) := by decide +kernel
theorem dX5_toLeft_12 : decode cX5_toLeft 12 = .ok (.iload_n 2, 1) := by decide +kernel
theorem dX5_toLeft_13 : decode cX5_toLeft 13 = .ok (.ifCond .ne 7, 3) := by decide +kernel
theorem dX5_toLeft_16 : decode cX5_toLeft 16 = .ok (.iconst 1, 1) := by decide +kernel
theorem dX5_toLeft_17 : decode cX5_toLeft 17 = .ok (.goto 35, 3) := by decide +kernel
theorem dX5_toLeft_20 : decode cX5_toLeft 20 = .ok (.iload_n 2, 1) := by decide +kernel
theorem dX5_toLeft_21 : decode cX5_toLeft 21 = .ok (.iconst 1, 1) := by decide +kernel
theorem dX5_toLeft_22 : decode cX5_toLeft 22 = .ok (.if_icmp .ne 7, 3) := by decide +kernel
theorem dX5_toLeft_25 : decode cX5_toLeft 25 = .ok (.iconst (-1), 1) := by decide +kernel
theorem dX5_toLeft_26 : decode cX5_toLeft 26 = .ok (.goto 26, 3) := by decide +kernel
theorem dX5_toLeft_29 : decode cX5_toLeft 29 = .ok (.iconst 0, 1) := by decide +kernel
theorem dX5_toLeft_30 : decode cX5_toLeft 30 = .ok (.goto 22, 3) := by decide +kernel
theorem dX5_toLeft_33 : decode cX5_toLeft 33 = .ok (.iload_n 0, 1) := by decide +kernel
theorem dX5_toLeft_34 : decode cX5_toLeft 34 = .ok (.iload_n 1, 1) := by decide +kernel
theorem dX5_toLeft_35 : decode cX5_toLeft 35 = .ok (.if_icmp .le 7, 3) := by decide +kernel
theorem dX5_toLeft_38 : decode cX5_toLeft 38 = .ok (.iconst 1, 1) := by decide +kernel
theorem dX5_toLeft_39 : decode cX5_toLeft 39 = .ok (.goto 13, 3) := by decide +kernel
theorem dX5_toLeft_42 : decode cX5_toLeft 42 = .ok (.iload_n 0, 1) := by decide +kernel
theorem dX5_toLeft_43 : decode cX5_toLeft 43 = .ok (.iload_n 1, 1) := by decide +kernel
theorem dX5_toLeft_44 : decode cX5_toLeft 44 = .ok (.if_icmp .ge 7, 3) := by decide +kernel
theorem dX5_toLeft_47 : decode cX5_toLeft 47 = .ok (.iconst (-1), 1) := by decide +kernel
theorem dX5_toLeft_48 : decode cX5_toLeft 48 = .ok (.goto 4, 3) := by decide +kernel
theorem dX5_toLeft_51 : decode cX5_toLeft 51 = .ok (.iconst 0, 1) := by decide +kernel
theorem dX5_toLeft_52 : decode cX5_toLeft 52 = .ok (.istore 5, 2) := by decide +kernel
theorem dX5_toLeft_54 : decode cX5_toLeft 54 = .ok (.iload_n 3, 1) := by decide +kernel
theorem dX5_toLeft_55 : decode cX5_toLeft 55 = .ok (.iconst 2, 1) := by decide +kernel
theorem dX5_toLeft_56 : decode cX5_toLeft 56 = .ok (.if_icmp .le 9, 3) := by decide +kernel
theorem dX5_toLeft_59 : decode cX5_toLeft 59 = .ok (.iload 5, 2) := by decide +kernel
theorem dX5_toLeft_61 : decode cX5_toLeft 61 = .ok (.ineg, 1) := by decide +kernel
theorem dX5_toLeft_62 : decode cX5_toLeft 62 = .ok (.goto 5, 3) := by decide +kernel
theorem dX5_toLeft_65 : decode cX5_toLeft 65 = .ok (.iload 5, 2) := by decide +kernel
theorem dX5_toLeft_67 : decode cX5_toLeft 67 = .ok (.istore 5, 2) := by decide +kernel
theorem dX5_toLeft_69 : decode cX5_toLeft 69 = .ok (.iload 5, 2) := by decide +kernel
theorem dX5_toLeft_71 : decode cX5_toLeft 71 = .ok (.ifCond .le 8, 3) := by decide +kernel
theorem dX5_toLeft_74 : decode cX5_toLeft 74 = .ok (.iload 4, 2) := by decide +kernel
theorem dX5_toLeft_76 : decode cX5_toLeft 76 = .ok (.goto 16, 3) := by decide +kernel
theorem dX5_toLeft_79 : decode cX5_toLeft 79 = .ok (.iload 5, 2) := by decide +kernel
theorem dX5_toLeft_81 : decode cX5_toLeft 81 = .ok (.ifCond .ge 10, 3) := by decide +kernel
theorem dX5_toLeft_84 : decode cX5_toLeft 84 = .ok (.iconst 4, 1) := by decide +kernel
theorem dX5_toLeft_85 : decode cX5_toLeft 85 = .ok (.iload 4, 2) := by decide +kernel
theorem dX5_toLeft_87 : decode cX5_toLeft 87 = .ok (.isub, 1) := by decide +kernel
theorem dX5_toLeft_88 : decode cX5_toLeft 88 = .ok (.goto 4, 3) := by decide +kernel
theorem dX5_toLeft_91 : decode cX5_toLeft 91 = .ok (.iconst 2, 1) := by decide +kernel
theorem dX5_toLeft_92 : decode cX5_toLeft 92 = .ok (.ireturn, 1) := by decide +kernel
theorem dX5_quarters_0 : decode cX5_quarters 0 = .ok (.iload_n 1, 1) := by decide +kernel
theorem dX5_quarters_1 : decode cX5_quarters 1 = .ok (.iconst 0, 1) := by decide +kernel
theorem dX5_quarters_2 : decode cX5_quarters 2 = .ok (.iconst 1, 1) := by decide +kernel
theorem dX5_quarters_3 : decode cX5_quarters 3 = .ok (.invokestatic 47, 3) := by decide +kernel
theorem dX5_quarters_6 : decode cX5_quarters 6 = .ok (.ifCond .ne 5, 3) := by decide +kernel
theorem dX5_quarters_9 : decode cX5_quarters 9 = .ok (.iconst (-1), 1) := by decide +kernel
theorem dX5_quarters_10 : decode cX5_quarters 10 = .ok (.ireturn, 1) := by decide +kernel
theorem dX5_quarters_11 : decode cX5_quarters 11 = .ok (.aload_n 0, 1) := by decide +kernel
theorem dX5_quarters_12 : decode cX5_quarters 12 = .ok (.getfield 16, 3) := by decide +kernel
theorem dX5_quarters_15 : decode cX5_quarters 15 = .ok (.iconst 0, 1) := by decide +kernel
theorem dX5_quarters_16 : decode cX5_quarters 16 = .ok (.iaload, 1) := by decide +kernel
theorem dX5_quarters_17 : decode cX5_quarters 17 = .ok (.aload_n 0, 1) := by decide +kernel
theorem dX5_quarters_18 : decode cX5_quarters 18 = .ok (.getfield 16, 3) := by decide +kernel
theorem dX5_quarters_21 : decode cX5_quarters 21 = .ok (.iconst 1, 1) := by decide +kernel
theorem dX5_quarters_22 : decode cX5_quarters 22 = .ok (.iaload, 1) := by decide +kernel
theorem dX5_quarters_23 : decode cX5_quarters 23 = .ok (.aload_n 0, 1) := by decide +kernel
theorem dX5_quarters_24 : decode cX5_quarters 24 = .ok (.getfield 16, 3) := by decide +kernel
theorem dX5_quarters_27 : decode cX5_quarters 27 = .ok (.iconst 2, 1) := by decide +kernel
theorem dX5_quarters_28 : decode cX5_quarters 28 = .ok (.iaload, 1) := by decide +kernel
theorem dX5_quarters_29 : decode cX5_quarters 29 = .ok (.aload_n 0, 1) := by decide +kernel
theorem dX5_quarters_30 : decode cX5_quarters 30 = .ok (.getfield 16, 3) := by decide +kernel
theorem dX5_quarters_33 : decode cX5_quarters 33 = .ok (.iconst 3, 1) := by decide +kernel
theorem dX5_quarters_34 : decode cX5_quarters 34 = .ok (.iaload, 1) := by decide +kernel
theorem dX5_quarters_35 : decode cX5_quarters 35 = .ok (.aload_n 0, 1) := by decide +kernel
theorem dX5_quarters_36 : decode cX5_quarters 36 = .ok (.getfield 16, 3) := by decide +kernel
theorem dX5_quarters_39 : decode cX5_quarters 39 = .ok (.iconst 4, 1) := by decide +kernel
theorem dX5_quarters_40 : decode cX5_quarters 40 = .ok (.iaload, 1) := by decide +kernel
theorem dX5_quarters_41 : decode cX5_quarters 41 = .ok (.invokestatic 92, 3) := by decide +kernel
theorem dX5_quarters_44 : decode cX5_quarters 44 = .ok (.istore_n 2, 1) := by decide +kernel
theorem dX5_quarters_45 : decode cX5_quarters 45 = .ok (.iload_n 1, 1) := by decide +kernel
theorem dX5_quarters_46 : decode cX5_quarters 46 = .ok (.ifCond .ne 7, 3) := by decide +kernel
theorem dX5_quarters_49 : decode cX5_quarters 49 = .ok (.iload_n 2, 1) := by decide +kernel
theorem dX5_quarters_50 : decode cX5_quarters 50 = .ok (.goto 6, 3) := by decide +kernel
theorem dX5_quarters_53 : decode cX5_quarters 53 = .ok (.iconst 4, 1) := by decide +kernel
theorem dX5_quarters_54 : decode cX5_quarters 54 = .ok (.iload_n 2, 1) := by decide +kernel
theorem dX5_quarters_55 : decode cX5_quarters 55 = .ok (.isub, 1) := by decide +kernel
theorem dX5_quarters_56 : decode cX5_quarters 56 = .ok (.ireturn, 1) := by decide +kernel
theorem dX5_keeps_0 : decode cX5_keeps 0 = .ok (.aload_n 0, 1) := by decide +kernel
theorem dX5_keeps_1 : decode cX5_keeps 1 = .ok (.getfield 83, 3) := by decide +kernel
theorem dX5_keeps_4 : decode cX5_keeps 4 = .ok (.bipush 8, 2) := by decide +kernel
theorem dX5_keeps_6 : decode cX5_keeps 6 = .ok (.if_icmp .ne 41, 3) := by decide +kernel
theorem dX5_keeps_9 : decode cX5_keeps 9 = .ok (.iconst 0, 1) := by decide +kernel
theorem dX5_keeps_10 : decode cX5_keeps 10 = .ok (.istore_n 1, 1) := by decide +kernel
theorem dX5_keeps_11 : decode cX5_keeps 11 = .ok (.iload_n 1, 1) := by decide +kernel
theorem dX5_keeps_12 : decode cX5_keeps 12 = .ok (.bipush 35, 2) := by decide +kernel
theorem dX5_keeps_14 : decode cX5_keeps 14 = .ok (.if_icmp .ge 23, 3) := by decide +kernel
theorem dX5_keeps_17 : decode cX5_keeps 17 = .ok (.aload_n 0, 1) := by decide +kernel
theorem dX5_keeps_18 : decode cX5_keeps 18 = .ok (.getfield 19, 3) := by decide +kernel
theorem dX5_keeps_21 : decode cX5_keeps 21 = .ok (.iload_n 1, 1) := by decide +kernel
theorem dX5_keeps_22 : decode cX5_keeps 22 = .ok (.aload_n 0, 1) := by decide +kernel
theorem dX5_keeps_23 : decode cX5_keeps 23 = .ok (.getfield 19, 3) := by decide +kernel
theorem dX5_keeps_26 : decode cX5_keeps 26 = .ok (.iload_n 1, 1) := by decide +kernel
theorem dX5_keeps_27 : decode cX5_keeps 27 = .ok (.iconst 5, 1) := by decide +kernel
theorem dX5_keeps_28 : decode cX5_keeps 28 = .ok (.iadd, 1) := by decide +kernel
theorem dX5_keeps_29 : decode cX5_keeps 29 = .ok (.iaload, 1) := by decide +kernel
theorem dX5_keeps_30 : decode cX5_keeps 30 = .ok (.iastore, 1) := by decide +kernel
theorem dX5_keeps_31 : decode cX5_keeps 31 = .ok (.iinc 1 1, 3) := by decide +kernel
theorem dX5_keeps_34 : decode cX5_keeps 34 = .ok (.goto (-23), 3) := by decide +kernel
theorem dX5_keeps_37 : decode cX5_keeps 37 = .ok (.aload_n 0, 1) := by decide +kernel
theorem dX5_keeps_38 : decode cX5_keeps 38 = .ok (.dup, 1) := by decide +kernel
theorem dX5_keeps_39 : decode cX5_keeps 39 = .ok (.getfield 83, 3) := by decide +kernel
theorem dX5_keeps_42 : decode cX5_keeps 42 = .ok (.iconst 1, 1) := by decide +kernel
theorem dX5_keeps_43 : decode cX5_keeps 43 = .ok (.isub, 1) := by decide +kernel
theorem dX5_keeps_44 : decode cX5_keeps 44 = .ok (.putfield 83, 3) := by decide +kernel
theorem dX5_keeps_47 : decode cX5_keeps 47 = .ok (.iconst 0, 1) := by decide +kernel
theorem dX5_keeps_48 : decode cX5_keeps 48 = .ok (.istore_n 1, 1) := by decide +kernel
theorem dX5_keeps_49 : decode cX5_keeps 49 = .ok (.iload_n 1, 1) := by decide +kernel
theorem dX5_keeps_50 : decode cX5_keeps 50 = .ok (.iconst 5, 1) := by decide +kernel
theorem dX5_keeps_51 : decode cX5_keeps 51 = .ok (.if_icmp .ge 28, 3) := by decide +kernel
theorem dX5_keeps_54 : decode cX5_keeps 54 = .ok (.aload_n 0, 1) := by decide +kernel
theorem dX5_keeps_55 : decode cX5_keeps 55 = .ok (.getfield 19, 3) := by decide +kernel
theorem dX5_keeps_58 : decode cX5_keeps 58 = .ok (.iconst 5, 1) := by decide +kernel
theorem dX5_keeps_59 : decode cX5_keeps 59 = .ok (.aload_n 0, 1) := by decide +kernel
theorem dX5_keeps_60 : decode cX5_keeps 60 = .ok (.getfield 83, 3) := by decide +kernel
theorem dX5_keeps_63 : decode cX5_keeps 63 = .ok (.imul, 1) := by decide +kernel
theorem dX5_keeps_64 : decode cX5_keeps 64 = .ok (.iload_n 1, 1) := by decide +kernel
theorem dX5_keeps_65 : decode cX5_keeps 65 = .ok (.iadd, 1) := by decide +kernel
theorem dX5_keeps_66 : decode cX5_keeps 66 = .ok (.aload_n 0, 1) := by decide +kernel
theorem dX5_keeps_67 : decode cX5_keeps 67 = .ok (.getfield 16, 3) := by decide +kernel
theorem dX5_keeps_70 : decode cX5_keeps 70 = .ok (.iload_n 1, 1) := by decide +kernel
theorem dX5_keeps_71 : decode cX5_keeps 71 = .ok (.iaload, 1) := by decide +kernel
theorem dX5_keeps_72 : decode cX5_keeps 72 = .ok (.iastore, 1) := by decide +kernel
theorem dX5_keeps_73 : decode cX5_keeps 73 = .ok (.iinc 1 1, 3) := by decide +kernel
theorem dX5_keeps_76 : decode cX5_keeps 76 = .ok (.goto (-27), 3) := by decide +kernel
theorem dX5_keeps_79 : decode cX5_keeps 79 = .ok (.aload_n 0, 1) := by decide +kernel
theorem dX5_keeps_80 : decode cX5_keeps 80 = .ok (.dup, 1) := by decide +kernel
theorem dX5_keeps_81 : decode cX5_keeps 81 = .ok (.getfield 83, 3) := by decide +kernel
theorem dX5_keeps_84 : decode cX5_keeps 84 = .ok (.iconst 1, 1) := by decide +kernel
theorem dX5_keeps_85 : decode cX5_keeps 85 = .ok (.iadd, 1) := by decide +kernel
theorem dX5_keeps_86 : decode cX5_keeps 86 = .ok (.putfield 83, 3) := by decide +kernel
theorem dX5_keeps_89 : decode cX5_keeps 89 = .ok (.return_, 1) := by decide +kernel
theorem dX5_reach_0 : decode cX5_reach 0 = .ok (.iload_n 1, 1) := by decide +kernel
theorem dX5_reach_1 : decode cX5_reach 1 = .ok (.iconst 0, 1) := by decide +kernel
theorem dX5_reach_2 : decode cX5_reach 2 = .ok (.iconst 1, 1) := by decide +kernel
theorem dX5_reach_3 : decode cX5_reach 3 = .ok (.invokestatic 47, 3) := by decide +kernel
theorem dX5_reach_6 : decode cX5_reach 6 = .ok (.ifCond .ne 5, 3) := by decide +kernel
theorem dX5_reach_9 : decode cX5_reach 9 = .ok (.iconst (-1), 1) := by decide +kernel
theorem dX5_reach_10 : decode cX5_reach 10 = .ok (.ireturn, 1) := by decide +kernel
theorem dX5_reach_11 : decode cX5_reach 11 = .ok (.aload_n 0, 1) := by decide +kernel
theorem dX5_reach_12 : decode cX5_reach 12 = .ok (.invokevirtual 96, 3) := by decide +kernel
theorem dX5_reach_15 : decode cX5_reach 15 = .ok (.aload_n 0, 1) := by decide +kernel
theorem dX5_reach_16 : decode cX5_reach 16 = .ok (.getfield 16, 3) := by decide +kernel
theorem dX5_reach_19 : decode cX5_reach 19 = .ok (.iconst 2, 1) := by decide +kernel
theorem dX5_reach_20 : decode cX5_reach 20 = .ok (.iload_n 1, 1) := by decide +kernel
theorem dX5_reach_21 : decode cX5_reach 21 = .ok (.iastore, 1) := by decide +kernel
theorem dX5_reach_22 : decode cX5_reach 22 = .ok (.aload_n 0, 1) := by decide +kernel
theorem dX5_reach_23 : decode cX5_reach 23 = .ok (.getfield 16, 3) := by decide +kernel
theorem dX5_reach_26 : decode cX5_reach 26 = .ok (.iload_n 1, 1) := by decide +kernel
theorem dX5_reach_27 : decode cX5_reach 27 = .ok (.iaload, 1) := by decide +kernel
theorem dX5_reach_28 : decode cX5_reach 28 = .ok (.ifCond .ne 6, 3) := by decide +kernel
theorem dX5_reach_31 : decode cX5_reach 31 = .ok (.bipush (-5), 2) := by decide +kernel
theorem dX5_reach_33 : decode cX5_reach 33 = .ok (.ireturn, 1) := by decide +kernel
theorem dX5_reach_34 : decode cX5_reach 34 = .ok (.aload_n 0, 1) := by decide +kernel
theorem dX5_reach_35 : decode cX5_reach 35 = .ok (.getfield 16, 3) := by decide +kernel
theorem dX5_reach_38 : decode cX5_reach 38 = .ok (.iload_n 1, 1) := by decide +kernel
theorem dX5_reach_39 : decode cX5_reach 39 = .ok (.dup2, 1) := by decide +kernel
theorem dX5_reach_40 : decode cX5_reach 40 = .ok (.iaload, 1) := by decide +kernel
theorem dX5_reach_41 : decode cX5_reach 41 = .ok (.iconst 1, 1) := by decide +kernel
theorem dX5_reach_42 : decode cX5_reach 42 = .ok (.isub, 1) := by decide +kernel
theorem dX5_reach_43 : decode cX5_reach 43 = .ok (.iastore, 1) := by decide +kernel
theorem dX5_reach_44 : decode cX5_reach 44 = .ok (.aload_n 0, 1) := by decide +kernel
theorem dX5_reach_45 : decode cX5_reach 45 = .ok (.getfield 16, 3) := by decide +kernel
theorem dX5_reach_48 : decode cX5_reach 48 = .ok (.iload_n 1, 1) := by decide +kernel
theorem dX5_reach_49 : decode cX5_reach 49 = .ok (.iaload, 1) := by decide +kernel
theorem dX5_reach_50 : decode cX5_reach 50 = .ok (.ireturn, 1) := by decide +kernel
theorem dX5_putOver_0 : decode cX5_putOver 0 = .ok (.iload_n 1, 1) := by decide +kernel
theorem dX5_putOver_1 : decode cX5_putOver 1 = .ok (.iconst 0, 1) := by decide +kernel
theorem dX5_putOver_2 : decode cX5_putOver 2 = .ok (.iconst 1, 1) := by decide +kernel
theorem dX5_putOver_3 : decode cX5_putOver 3 = .ok (.invokestatic 47, 3) := by decide +kernel
theorem dX5_putOver_6 : decode cX5_putOver 6 = .ok (.ifCond .eq 13, 3) := by decide +kernel
theorem dX5_putOver_9 : decode cX5_putOver 9 = .ok (.iload_n 2, 1) := by decide +kernel
theorem dX5_putOver_10 : decode cX5_putOver 10 = .ok (.iconst 1, 1) := by decide +kernel
theorem dX5_putOver_11 : decode cX5_putOver 11 = .ok (.bipush 10, 2) := by decide +kernel
theorem dX5_putOver_13 : decode cX5_putOver 13 = .ok (.invokestatic 47, 3) := by decide +kernel
theorem dX5_putOver_16 : decode cX5_putOver 16 = .ok (.ifCond .ne 5, 3) := by decide +kernel
theorem dX5_putOver_19 : decode cX5_putOver 19 = .ok (.iconst (-1), 1) := by decide +kernel
theorem dX5_putOver_20 : decode cX5_putOver 20 = .ok (.ireturn, 1) := by decide +kernel
theorem dX5_putOver_21 : decode cX5_putOver 21 = .ok (.aload_n 0, 1) := by decide +kernel
theorem dX5_putOver_22 : decode cX5_putOver 22 = .ok (.getfield 16, 3) := by decide +kernel
theorem dX5_putOver_25 : decode cX5_putOver 25 = .ok (.iload_n 1, 1) := by decide +kernel
theorem dX5_putOver_26 : decode cX5_putOver 26 = .ok (.iaload, 1) := by decide +kernel
theorem dX5_putOver_27 : decode cX5_putOver 27 = .ok (.iload_n 2, 1) := by decide +kernel
theorem dX5_putOver_28 : decode cX5_putOver 28 = .ok (.if_icmp .ge 6, 3) := by decide +kernel
theorem dX5_putOver_31 : decode cX5_putOver 31 = .ok (.bipush (-2), 2) := by decide +kernel
theorem dX5_putOver_33 : decode cX5_putOver 33 = .ok (.ireturn, 1) := by decide +kernel
theorem dX5_putOver_34 : decode cX5_putOver 34 = .ok (.aload_n 0, 1) := by decide +kernel
theorem dX5_putOver_35 : decode cX5_putOver 35 = .ok (.getfield 16, 3) := by decide +kernel
theorem dX5_putOver_38 : decode cX5_putOver 38 = .ok (.iconst 1, 1) := by decide +kernel
theorem dX5_putOver_39 : decode cX5_putOver 39 = .ok (.iload_n 1, 1) := by decide +kernel
theorem dX5_putOver_40 : decode cX5_putOver 40 = .ok (.isub, 1) := by decide +kernel
theorem dX5_putOver_41 : decode cX5_putOver 41 = .ok (.iaload, 1) := by decide +kernel
theorem dX5_putOver_42 : decode cX5_putOver 42 = .ok (.iload_n 2, 1) := by decide +kernel
theorem dX5_putOver_43 : decode cX5_putOver 43 = .ok (.iadd, 1) := by decide +kernel
theorem dX5_putOver_44 : decode cX5_putOver 44 = .ok (.bipush 10, 2) := by decide +kernel
theorem dX5_putOver_46 : decode cX5_putOver 46 = .ok (.if_icmp .le 6, 3) := by decide +kernel
theorem dX5_putOver_49 : decode cX5_putOver 49 = .ok (.bipush (-3), 2) := by decide +kernel
theorem dX5_putOver_51 : decode cX5_putOver 51 = .ok (.ireturn, 1) := by decide +kernel
theorem dX5_putOver_52 : decode cX5_putOver 52 = .ok (.aload_n 0, 1) := by decide +kernel
theorem dX5_putOver_53 : decode cX5_putOver 53 = .ok (.invokevirtual 96, 3) := by decide +kernel
theorem dX5_putOver_56 : decode cX5_putOver 56 = .ok (.aload_n 0, 1) := by decide +kernel
theorem dX5_putOver_57 : decode cX5_putOver 57 = .ok (.getfield 16, 3) := by decide +kernel
theorem dX5_putOver_60 : decode cX5_putOver 60 = .ok (.iload_n 1, 1) := by decide +kernel
theorem dX5_putOver_61 : decode cX5_putOver 61 = .ok (.dup2, 1) := by decide +kernel
theorem dX5_putOver_62 : decode cX5_putOver 62 = .ok (.iaload, 1) := by decide +kernel
theorem dX5_putOver_63 : decode cX5_putOver 63 = .ok (.iload_n 2, 1) := by decide +kernel
theorem dX5_putOver_64 : decode cX5_putOver 64 = .ok (.isub, 1) := by decide +kernel
theorem dX5_putOver_65 : decode cX5_putOver 65 = .ok (.iastore, 1) := by decide +kernel
theorem dX5_putOver_66 : decode cX5_putOver 66 = .ok (.aload_n 0, 1) := by decide +kernel
theorem dX5_putOver_67 : decode cX5_putOver 67 = .ok (.getfield 16, 3) := by decide +kernel
theorem dX5_putOver_70 : decode cX5_putOver 70 = .ok (.iconst 1, 1) := by decide +kernel
theorem dX5_putOver_71 : decode cX5_putOver 71 = .ok (.iload_n 1, 1) := by decide +kernel
theorem dX5_putOver_72 : decode cX5_putOver 72 = .ok (.isub, 1) := by decide +kernel
theorem dX5_putOver_73 : decode cX5_putOver 73 = .ok (.dup2, 1) := by decide +kernel
theorem dX5_putOver_74 : decode cX5_putOver 74 = .ok (.iaload, 1) := by decide +kernel
theorem dX5_putOver_75 : decode cX5_putOver 75 = .ok (.iload_n 2, 1) := by decide +kernel
theorem dX5_putOver_76 : decode cX5_putOver 76 = .ok (.iadd, 1) := by decide +kernel
theorem dX5_putOver_77 : decode cX5_putOver 77 = .ok (.iastore, 1) := by decide +kernel
theorem dX5_putOver_78 : decode cX5_putOver 78 = .ok (.aload_n 0, 1) := by decide +kernel
theorem dX5_putOver_79 : decode cX5_putOver 79 = .ok (.getfield 16, 3) := by decide +kernel
theorem dX5_putOver_82 : decode cX5_putOver 82 = .ok (.iload_n 1, 1) := by decide +kernel
theorem dX5_putOver_83 : decode cX5_putOver 83 = .ok (.iaload, 1) := by decide +kernel
theorem dX5_putOver_84 : decode cX5_putOver 84 = .ok (.ireturn, 1) := by decide +kernel
theorem dX5_buy_0 : decode cX5_buy 0 = .ok (.iload_n 1, 1) := by decide +kernel
theorem dX5_buy_1 : decode cX5_buy 1 = .ok (.iconst 0, 1) := by decide +kernel
theorem dX5_buy_2 : decode cX5_buy 2 = .ok (.iconst 1, 1) := by decide +kernel
theorem dX5_buy_3 : decode cX5_buy 3 = .ok (.invokestatic 47, 3) := by decide +kernel
theorem dX5_buy_6 : decode cX5_buy 6 = .ok (.ifCond .ne 5, 3) := by decide +kernel
theorem dX5_buy_9 : decode cX5_buy 9 = .ok (.iconst (-1), 1) := by decide +kernel
theorem dX5_buy_10 : decode cX5_buy 10 = .ok (.ireturn, 1) := by decide +kernel
theorem dX5_buy_11 : decode cX5_buy 11 = .ok (.aload_n 0, 1) := by decide +kernel
theorem dX5_buy_12 : decode cX5_buy 12 = .ok (.invokevirtual 96, 3) := by decide +kernel
theorem dX5_buy_15 : decode cX5_buy 15 = .ok (.aload_n 0, 1) := by decide +kernel
theorem dX5_buy_16 : decode cX5_buy 16 = .ok (.getfield 16, 3) := by decide +kernel
theorem dX5_buy_19 : decode cX5_buy 19 = .ok (.iload_n 1, 1) := by decide +kernel
theorem dX5_buy_20 : decode cX5_buy 20 = .ok (.iaload, 1) := by decide +kernel
theorem dX5_buy_21 : decode cX5_buy 21 = .ok (.istore_n 2, 1) := by decide +kernel
theorem dX5_buy_22 : decode cX5_buy 22 = .ok (.aload_n 0, 1) := by decide +kernel
theorem dX5_buy_23 : decode cX5_buy 23 = .ok (.getfield 16, 3) := by decide +kernel
theorem dX5_buy_26 : decode cX5_buy 26 = .ok (.iload_n 1, 1) := by decide +kernel
theorem dX5_buy_27 : decode cX5_buy 27 = .ok (.bipush 10, 2) := by decide +kernel
theorem dX5_buy_29 : decode cX5_buy 29 = .ok (.iastore, 1) := by decide +kernel
theorem dX5_buy_30 : decode cX5_buy 30 = .ok (.iload_n 2, 1) := by decide +kernel
theorem dX5_buy_31 : decode cX5_buy 31 = .ok (.ireturn, 1) := by decide +kernel
theorem dX5_hand_0 : decode cX5_hand 0 = .ok (.iload_n 1, 1) := by decide +kernel
theorem dX5_hand_1 : decode cX5_hand 1 = .ok (.iconst 0, 1) := by decide +kernel
theorem dX5_hand_2 : decode cX5_hand 2 = .ok (.iconst 3, 1) := by decide +kernel
theorem dX5_hand_3 : decode cX5_hand 3 = .ok (.invokestatic 47, 3) := by decide +kernel
theorem dX5_hand_6 : decode cX5_hand 6 = .ok (.ifCond .eq 12, 3) := by decide +kernel
theorem dX5_hand_9 : decode cX5_hand 9 = .ok (.iload_n 2, 1) := by decide +kernel
theorem dX5_hand_10 : decode cX5_hand 10 = .ok (.iconst 0, 1) := by decide +kernel
theorem dX5_hand_11 : decode cX5_hand 11 = .ok (.iconst 4, 1) := by decide +kernel
theorem dX5_hand_12 : decode cX5_hand 12 = .ok (.invokestatic 47, 3) := by decide +kernel
theorem dX5_hand_15 : decode cX5_hand 15 = .ok (.ifCond .ne 5, 3) := by decide +kernel
theorem dX5_hand_18 : decode cX5_hand 18 = .ok (.iconst (-1), 1) := by decide +kernel
theorem dX5_hand_19 : decode cX5_hand 19 = .ok (.ireturn, 1) := by decide +kernel
theorem dX5_hand_20 : decode cX5_hand 20 = .ok (.aload_n 0, 1) := by decide +kernel
theorem dX5_hand_21 : decode cX5_hand 21 = .ok (.invokevirtual 96, 3) := by decide +kernel
theorem dX5_hand_24 : decode cX5_hand 24 = .ok (.bipush 10, 2) := by decide +kernel
theorem dX5_hand_26 : decode cX5_hand 26 = .ok (.aload_n 0, 1) := by decide +kernel
theorem dX5_hand_27 : decode cX5_hand 27 = .ok (.getfield 16, 3) := by decide +kernel
theorem dX5_hand_30 : decode cX5_hand 30 = .ok (.iconst 3, 1) := by decide +kernel
theorem dX5_hand_31 : decode cX5_hand 31 = .ok (.iaload, 1) := by decide +kernel
theorem dX5_hand_32 : decode cX5_hand 32 = .ok (.imul, 1) := by decide +kernel
theorem dX5_hand_33 : decode cX5_hand 33 = .ok (.aload_n 0, 1) := by decide +kernel
theorem dX5_hand_34 : decode cX5_hand 34 = .ok (.getfield 16, 3) := by decide +kernel
theorem dX5_hand_37 : decode cX5_hand 37 = .ok (.iconst 4, 1) := by decide +kernel
theorem dX5_hand_38 : decode cX5_hand 38 = .ok (.iaload, 1) := by decide +kernel
theorem dX5_hand_39 : decode cX5_hand 39 = .ok (.iadd, 1) := by decide +kernel
theorem dX5_hand_40 : decode cX5_hand 40 = .ok (.istore_n 3, 1) := by decide +kernel
theorem dX5_hand_41 : decode cX5_hand 41 = .ok (.aload_n 0, 1) := by decide +kernel
theorem dX5_hand_42 : decode cX5_hand 42 = .ok (.getfield 16, 3) := by decide +kernel
theorem dX5_hand_45 : decode cX5_hand 45 = .ok (.iconst 3, 1) := by decide +kernel
theorem dX5_hand_46 : decode cX5_hand 46 = .ok (.iload_n 1, 1) := by decide +kernel
theorem dX5_hand_47 : decode cX5_hand 47 = .ok (.iastore, 1) := by decide +kernel
theorem dX5_hand_48 : decode cX5_hand 48 = .ok (.aload_n 0, 1) := by decide +kernel
theorem dX5_hand_49 : decode cX5_hand 49 = .ok (.getfield 16, 3) := by decide +kernel
theorem dX5_hand_52 : decode cX5_hand 52 = .ok (.iconst 4, 1) := by decide +kernel
theorem dX5_hand_53 : decode cX5_hand 53 = .ok (.iload_n 2, 1) := by decide +kernel
theorem dX5_hand_54 : decode cX5_hand 54 = .ok (.iastore, 1) := by decide +kernel
theorem dX5_hand_55 : decode cX5_hand 55 = .ok (.iload_n 3, 1) := by decide +kernel
theorem dX5_hand_56 : decode cX5_hand 56 = .ok (.ireturn, 1) := by decide +kernel
theorem dX5_undo_0 : decode cX5_undo 0 = .ok (.aload_n 0, 1) := by decide +kernel
theorem dX5_undo_1 : decode cX5_undo 1 = .ok (.getfield 83, 3) := by decide +kernel
theorem dX5_undo_4 : decode cX5_undo 4 = .ok (.ifCond .ne 6, 3) := by decide +kernel
theorem dX5_undo_7 : decode cX5_undo 7 = .ok (.bipush (-2), 2) := by decide +kernel
theorem dX5_undo_9 : decode cX5_undo 9 = .ok (.ireturn, 1) := by decide +kernel
theorem dX5_undo_10 : decode cX5_undo 10 = .ok (.aload_n 0, 1) := by decide +kernel
theorem dX5_undo_11 : decode cX5_undo 11 = .ok (.dup, 1) := by decide +kernel
theorem dX5_undo_12 : decode cX5_undo 12 = .ok (.getfield 83, 3) := by decide +kernel
theorem dX5_undo_15 : decode cX5_undo 15 = .ok (.iconst 1, 1) := by decide +kernel
theorem dX5_undo_16 : decode cX5_undo 16 = .ok (.isub, 1) := by decide +kernel
theorem dX5_undo_17 : decode cX5_undo 17 = .ok (.putfield 83, 3) := by decide +kernel
theorem dX5_undo_20 : decode cX5_undo 20 = .ok (.iconst 0, 1) := by decide +kernel
theorem dX5_undo_21 : decode cX5_undo 21 = .ok (.istore_n 1, 1) := by decide +kernel
theorem dX5_undo_22 : decode cX5_undo 22 = .ok (.iload_n 1, 1) := by decide +kernel
theorem dX5_undo_23 : decode cX5_undo 23 = .ok (.iconst 5, 1) := by decide +kernel
theorem dX5_undo_24 : decode cX5_undo 24 = .ok (.if_icmp .ge 28, 3) := by decide +kernel
theorem dX5_undo_27 : decode cX5_undo 27 = .ok (.aload_n 0, 1) := by decide +kernel
theorem dX5_undo_28 : decode cX5_undo 28 = .ok (.getfield 16, 3) := by decide +kernel
theorem dX5_undo_31 : decode cX5_undo 31 = .ok (.iload_n 1, 1) := by decide +kernel
theorem dX5_undo_32 : decode cX5_undo 32 = .ok (.aload_n 0, 1) := by decide +kernel
theorem dX5_undo_33 : decode cX5_undo 33 = .ok (.getfield 19, 3) := by decide +kernel
theorem dX5_undo_36 : decode cX5_undo 36 = .ok (.iconst 5, 1) := by decide +kernel
theorem dX5_undo_37 : decode cX5_undo 37 = .ok (.aload_n 0, 1) := by decide +kernel
theorem dX5_undo_38 : decode cX5_undo 38 = .ok (.getfield 83, 3) := by decide +kernel
theorem dX5_undo_41 : decode cX5_undo 41 = .ok (.imul, 1) := by decide +kernel
theorem dX5_undo_42 : decode cX5_undo 42 = .ok (.iload_n 1, 1) := by decide +kernel
theorem dX5_undo_43 : decode cX5_undo 43 = .ok (.iadd, 1) := by decide +kernel
theorem dX5_undo_44 : decode cX5_undo 44 = .ok (.iaload, 1) := by decide +kernel
theorem dX5_undo_45 : decode cX5_undo 45 = .ok (.iastore, 1) := by decide +kernel
theorem dX5_undo_46 : decode cX5_undo 46 = .ok (.iinc 1 1, 3) := by decide +kernel
theorem dX5_undo_49 : decode cX5_undo 49 = .ok (.goto (-27), 3) := by decide +kernel
theorem dX5_undo_52 : decode cX5_undo 52 = .ok (.aload_n 0, 1) := by decide +kernel
theorem dX5_undo_53 : decode cX5_undo 53 = .ok (.getfield 83, 3) := by decide +kernel
theorem dX5_undo_56 : decode cX5_undo 56 = .ok (.ireturn, 1) := by decide +kernel
theorem dX5_spot_0 : decode cX5_spot 0 = .ok (.bipush 33, 2) := by decide +kernel
theorem dX5_spot_2 : decode cX5_spot 2 = .ok (.iload_n 0, 1) := by decide +kernel
theorem dX5_spot_3 : decode cX5_spot 3 = .ok (.imul, 1) := by decide +kernel
theorem dX5_spot_4 : decode cX5_spot 4 = .ok (.iconst 3, 1) := by decide +kernel
theorem dX5_spot_5 : decode cX5_spot 5 = .ok (.iload_n 1, 1) := by decide +kernel
theorem dX5_spot_6 : decode cX5_spot 6 = .ok (.imul, 1) := by decide +kernel
theorem dX5_spot_7 : decode cX5_spot 7 = .ok (.iadd, 1) := by decide +kernel
theorem dX5_spot_8 : decode cX5_spot 8 = .ok (.iload_n 2, 1) := by decide +kernel
theorem dX5_spot_9 : decode cX5_spot 9 = .ok (.iadd, 1) := by decide +kernel
theorem dX5_spot_10 : decode cX5_spot 10 = .ok (.ireturn, 1) := by decide +kernel
theorem dX5_begin0_0 : decode cX5_begin0 0 = .ok (.iconst 0, 1) := by decide +kernel
theorem dX5_begin0_1 : decode cX5_begin0 1 = .ok (.istore 4, 2) := by decide +kernel
theorem dX5_begin0_3 : decode cX5_begin0 3 = .ok (.iload 4, 2) := by decide +kernel
theorem dX5_begin0_5 : decode cX5_begin0 5 = .ok (.sipush 363, 3) := by decide +kernel
theorem dX5_begin0_8 : decode cX5_begin0 8 = .ok (.if_icmp .ge 17, 3) := by decide +kernel
theorem dX5_begin0_11 : decode cX5_begin0 11 = .ok (.aload_n 0, 1) := by decide +kernel
theorem dX5_begin0_12 : decode cX5_begin0 12 = .ok (.getfield 28, 3) := by decide +kernel
theorem dX5_begin0_15 : decode cX5_begin0 15 = .ok (.iload 4, 2) := by decide +kernel
theorem dX5_begin0_17 : decode cX5_begin0 17 = .ok (.lconst 0, 1) := by decide +kernel
theorem dX5_begin0_18 : decode cX5_begin0 18 = .ok (.lastore, 1) := by decide +kernel
theorem dX5_begin0_19 : decode cX5_begin0 19 = .ok (.iinc 4 1, 3) := by decide +kernel
theorem dX5_begin0_22 : decode cX5_begin0 22 = .ok (.goto (-19), 3) := by decide +kernel
theorem dX5_begin0_25 : decode cX5_begin0 25 = .ok (.aload_n 0, 1) := by decide +kernel
theorem dX5_begin0_26 : decode cX5_begin0 26 = .ok (.getfield 28, 3) := by decide +kernel
theorem dX5_begin0_29 : decode cX5_begin0 29 = .ok (.iload_n 1, 1) := by decide +kernel
theorem dX5_begin0_30 : decode cX5_begin0 30 = .ok (.iload_n 2, 1) := by decide +kernel
theorem dX5_begin0_31 : decode cX5_begin0 31 = .ok (.iload_n 3, 1) := by decide +kernel
theorem dX5_begin0_32 : decode cX5_begin0 32 = .ok (.invokestatic 99, 3) := by decide +kernel
theorem dX5_begin0_35 : decode cX5_begin0 35 = .ok (.lconst 1, 1) := by decide +kernel
theorem dX5_begin0_36 : decode cX5_begin0 36 = .ok (.lastore, 1) := by decide +kernel
theorem dX5_begin0_37 : decode cX5_begin0 37 = .ok (.return_, 1) := by decide +kernel
theorem dX5_goes_0 : decode cX5_goes 0 = .ok (.iconst 0, 1) := by decide +kernel
theorem dX5_goes_1 : decode cX5_goes 1 = .ok (.istore 7, 2) := by decide +kernel
theorem dX5_goes_3 : decode cX5_goes 3 = .ok (.iload 7, 2) := by decide +kernel
theorem dX5_goes_5 : decode cX5_goes 5 = .ok (.sipush 363, 3) := by decide +kernel
theorem dX5_goes_8 : decode cX5_goes 8 = .ok (.if_icmp .ge 17, 3) := by decide +kernel
theorem dX5_goes_11 : decode cX5_goes 11 = .ok (.aload_n 0, 1) := by decide +kernel
theorem dX5_goes_12 : decode cX5_goes 12 = .ok (.getfield 32, 3) := by decide +kernel
theorem dX5_goes_15 : decode cX5_goes 15 = .ok (.iload 7, 2) := by decide +kernel
theorem dX5_goes_17 : decode cX5_goes 17 = .ok (.lconst 0, 1) := by decide +kernel
theorem dX5_goes_18 : decode cX5_goes 18 = .ok (.lastore, 1) := by decide +kernel
theorem dX5_goes_19 : decode cX5_goes 19 = .ok (.iinc 7 1, 3) := by decide +kernel
theorem dX5_goes_22 : decode cX5_goes 22 = .ok (.goto (-19), 3) := by decide +kernel
theorem dX5_goes_25 : decode cX5_goes 25 = .ok (.iconst 0, 1) := by decide +kernel
theorem dX5_goes_26 : decode cX5_goes 26 = .ok (.istore 7, 2) := by decide +kernel
theorem dX5_goes_28 : decode cX5_goes 28 = .ok (.iload 7, 2) := by decide +kernel
theorem dX5_goes_30 : decode cX5_goes 30 = .ok (.bipush 11, 2) := by decide +kernel
theorem dX5_goes_32 : decode cX5_goes 32 = .ok (.if_icmp .ge 249, 3) := by decide +kernel
theorem dX5_goes_35 : decode cX5_goes 35 = .ok (.iconst 0, 1) := by decide +kernel
theorem dX5_goes_36 : decode cX5_goes 36 = .ok (.istore 8, 2) := by decide +kernel
theorem dX5_goes_38 : decode cX5_goes 38 = .ok (.iload 8, 2) := by decide +kernel
theorem dX5_goes_40 : decode cX5_goes 40 = .ok (.bipush 11, 2) := by decide +kernel
theorem dX5_goes_42 : decode cX5_goes 42 = .ok (.if_icmp .ge 233, 3) := by decide +kernel
theorem dX5_goes_45 : decode cX5_goes 45 = .ok (.iconst 0, 1) := by decide +kernel
theorem dX5_goes_46 : decode cX5_goes 46 = .ok (.istore 9, 2) := by decide +kernel
theorem dX5_goes_48 : decode cX5_goes 48 = .ok (.iload 9, 2) := by decide +kernel
theorem dX5_goes_50 : decode cX5_goes 50 = .ok (.iconst 3, 1) := by decide +kernel
theorem dX5_goes_51 : decode cX5_goes 51 = .ok (.if_icmp .ge 218, 3) := by decide +kernel
theorem dX5_goes_54 : decode cX5_goes 54 = .ok (.aload_n 0, 1) := by decide +kernel
theorem dX5_goes_55 : decode cX5_goes 55 = .ok (.getfield 28, 3) := by decide +kernel
theorem dX5_goes_58 : decode cX5_goes 58 = .ok (.iload 7, 2) := by decide +kernel
theorem dX5_goes_60 : decode cX5_goes 60 = .ok (.iload 8, 2) := by decide +kernel
theorem dX5_goes_62 : decode cX5_goes 62 = .ok (.iload 9, 2) := by decide +kernel
theorem dX5_goes_64 : decode cX5_goes 64 = .ok (.invokestatic 99, 3) := by decide +kernel
theorem dX5_goes_67 : decode cX5_goes 67 = .ok (.laload, 1) := by decide +kernel
theorem dX5_goes_68 : decode cX5_goes 68 = .ok (.lstore 10, 2) := by decide +kernel
theorem dX5_goes_70 : decode cX5_goes 70 = .ok (.iload 7, 2) := by decide +kernel
theorem dX5_goes_72 : decode cX5_goes 72 = .ok (.iload 8, 2) := by decide +kernel
theorem dX5_goes_74 : decode cX5_goes 74 = .ok (.iload 9, 2) := by decide +kernel
theorem dX5_goes_76 : decode cX5_goes 76 = .ok (.iload_n 1, 1) := by decide +kernel
theorem dX5_goes_77 : decode cX5_goes 77 = .ok (.iload_n 2, 1) := by decide +kernel
theorem dX5_goes_78 : decode cX5_goes 78 = .ok (.invokestatic 92, 3) := by decide +kernel
theorem dX5_goes_81 : decode cX5_goes 81 = .ok (.istore 12, 2) := by decide +kernel
theorem dX5_goes_83 : decode cX5_goes 83 = .ok (.iconst 0, 1) := by decide +kernel
theorem dX5_goes_84 : decode cX5_goes 84 = .ok (.istore 13, 2) := by decide +kernel
theorem dX5_goes_86 : decode cX5_goes 86 = .ok (.iload 13, 2) := by decide +kernel
theorem dX5_goes_88 : decode cX5_goes 88 = .ok (.iconst 2, 1) := by decide +kernel
theorem dX5_goes_89 : decode cX5_goes 89 = .ok (.if_icmp .ge 174, 3) := by decide +kernel
theorem dX5_goes_92 : decode cX5_goes 92 = .ok (.lload 10, 2) := by decide +kernel
theorem dX5_goes_94 : decode cX5_goes 94 = .ok (.lconst 0, 1) := by decide +kernel
theorem dX5_goes_95 : decode cX5_goes 95 = .ok (.lcmp, 1) := by decide +kernel
theorem dX5_goes_96 : decode cX5_goes 96 = .ok (.ifCond .le 167, 3) := by decide +kernel
theorem dX5_goes_99 : decode cX5_goes 99 = .ok (.lload 10, 2) := by decide +kernel
theorem dX5_goes_101 : decode cX5_goes 101 = .ok (.iload 13, 2) := by decide +kernel
theorem dX5_goes_103 : decode cX5_goes 103 = .ok (.ifCond .ne 8, 3) := by decide +kernel
theorem dX5_goes_106 : decode cX5_goes 106 = .ok (.iload 12, 2) := by decide +kernel
theorem dX5_goes_108 : decode cX5_goes 108 = .ok (.goto 7, 3) := by decide +kernel
theorem dX5_goes_111 : decode cX5_goes 111 = .ok (.iconst 4, 1) := by decide +kernel
theorem dX5_goes_112 : decode cX5_goes 112 = .ok (.iload 12, 2) := by decide +kernel
theorem dX5_goes_114 : decode cX5_goes 114 = .ok (.isub, 1) := by decide +kernel
theorem dX5_goes_115 : decode cX5_goes 115 = .ok (.i2l, 1) := by decide +kernel
theorem dX5_goes_116 : decode cX5_goes 116 = .ok (.lmul, 1) := by decide +kernel
theorem dX5_goes_117 : decode cX5_goes 117 = .ok (.lstore 14, 2) := by decide +kernel
theorem dX5_goes_119 : decode cX5_goes 119 = .ok (.iload 13, 2) := by decide +kernel
theorem dX5_goes_121 : decode cX5_goes 121 = .ok (.ifCond .ne 8, 3) := by decide +kernel
theorem dX5_goes_124 : decode cX5_goes 124 = .ok (.iload 7, 2) := by decide +kernel
theorem dX5_goes_126 : decode cX5_goes 126 = .ok (.goto 5, 3) := by decide +kernel
theorem dX5_goes_129 : decode cX5_goes 129 = .ok (.iload 8, 2) := by decide +kernel
theorem dX5_goes_131 : decode cX5_goes 131 = .ok (.istore 16, 2) := by decide +kernel
theorem dX5_goes_133 : decode cX5_goes 133 = .ok (.iload 13, 2) := by decide +kernel
theorem dX5_goes_135 : decode cX5_goes 135 = .ok (.ifCond .ne 8, 3) := by decide +kernel
theorem dX5_goes_138 : decode cX5_goes 138 = .ok (.iload 8, 2) := by decide +kernel
theorem dX5_goes_140 : decode cX5_goes 140 = .ok (.goto 5, 3) := by decide +kernel
theorem dX5_goes_143 : decode cX5_goes 143 = .ok (.iload 7, 2) := by decide +kernel
theorem dX5_goes_145 : decode cX5_goes 145 = .ok (.istore 17, 2) := by decide +kernel
theorem dX5_goes_147 : decode cX5_goes 147 = .ok (.iload 16, 2) := by decide +kernel
theorem dX5_goes_149 : decode cX5_goes 149 = .ok (.ifCond .eq 14, 3) := by decide +kernel
theorem dX5_goes_152 : decode cX5_goes 152 = .ok (.iload_n 3, 1) := by decide +kernel
theorem dX5_goes_153 : decode cX5_goes 153 = .ok (.iconst 1, 1) := by decide +kernel
theorem dX5_goes_154 : decode cX5_goes 154 = .ok (.if_icmp .ne 65, 3) := by decide +kernel
theorem dX5_goes_157 : decode cX5_goes 157 = .ok (.iload 16, 2) := by decide +kernel
theorem dX5_goes_159 : decode cX5_goes 159 = .ok (.iconst 1, 1) := by decide +kernel
theorem dX5_goes_160 : decode cX5_goes 160 = .ok (.if_icmp .ne 59, 3) := by decide +kernel
theorem dX5_goes_163 : decode cX5_goes 163 = .ok (.aload_n 0, 1) := by decide +kernel
theorem dX5_goes_164 : decode cX5_goes 164 = .ok (.getfield 35, 3) := by decide +kernel
theorem dX5_goes_167 : decode cX5_goes 167 = .ok (.iload 17, 2) := by decide +kernel
theorem dX5_goes_169 : decode cX5_goes 169 = .ok (.dup2, 1) := by decide +kernel
theorem dX5_goes_170 : decode cX5_goes 170 = .ok (.laload, 1) := by decide +kernel
theorem dX5_goes_171 : decode cX5_goes 171 = .ok (.lload 14, 2) := by decide +kernel
theorem dX5_goes_173 : decode cX5_goes 173 = .ok (.lload 5, 2) := by decide +kernel
theorem dX5_goes_175 : decode cX5_goes 175 = .ok (.lmul, 1) := by decide +kernel
theorem dX5_goes_176 : decode cX5_goes 176 = .ok (.ladd, 1) := by decide +kernel
theorem dX5_goes_177 : decode cX5_goes 177 = .ok (.lastore, 1) := by decide +kernel
theorem dX5_goes_178 : decode cX5_goes 178 = .ok (.aload_n 0, 1) := by decide +kernel
theorem dX5_goes_179 : decode cX5_goes 179 = .ok (.getfield 38, 3) := by decide +kernel
theorem dX5_goes_182 : decode cX5_goes 182 = .ok (.iload 4, 2) := by decide +kernel
theorem dX5_goes_184 : decode cX5_goes 184 = .ok (.dup2, 1) := by decide +kernel
theorem dX5_goes_185 : decode cX5_goes 185 = .ok (.laload, 1) := by decide +kernel
theorem dX5_goes_186 : decode cX5_goes 186 = .ok (.lload 14, 2) := by decide +kernel
theorem dX5_goes_188 : decode cX5_goes 188 = .ok (.lload 5, 2) := by decide +kernel
theorem dX5_goes_190 : decode cX5_goes 190 = .ok (.lmul, 1) := by decide +kernel
theorem dX5_goes_191 : decode cX5_goes 191 = .ok (.ladd, 1) := by decide +kernel
theorem dX5_goes_192 : decode cX5_goes 192 = .ok (.lastore, 1) := by decide +kernel
theorem dX5_goes_193 : decode cX5_goes 193 = .ok (.aload_n 0, 1) := by decide +kernel
theorem dX5_goes_194 : decode cX5_goes 194 = .ok (.dup, 1) := by decide +kernel
theorem dX5_goes_195 : decode cX5_goes 195 = .ok (.getfield 102, 3) := by decide +kernel
theorem dX5_goes_198 : decode cX5_goes 198 = .ok (.iload 13, 2) := by decide +kernel
theorem dX5_goes_200 : decode cX5_goes 200 = .ok (.ifCond .ne 11, 3) := by decide +kernel
theorem dX5_goes_203 : decode cX5_goes 203 = .ok (.lload 14, 2) := by decide +kernel
theorem dX5_goes_205 : decode cX5_goes 205 = .ok (.lload 5, 2) := by decide +kernel
theorem dX5_goes_207 : decode cX5_goes 207 = .ok (.lmul, 1) := by decide +kernel
theorem dX5_goes_208 : decode cX5_goes 208 = .ok (.goto 4, 3) := by decide +kernel
theorem dX5_goes_211 : decode cX5_goes 211 = .ok (.lconst 0, 1) := by decide +kernel
theorem dX5_goes_212 : decode cX5_goes 212 = .ok (.ladd, 1) := by decide +kernel
theorem dX5_goes_213 : decode cX5_goes 213 = .ok (.putfield 102, 3) := by decide +kernel
theorem dX5_goes_216 : decode cX5_goes 216 = .ok (.goto 41, 3) := by decide +kernel
theorem dX5_goes_219 : decode cX5_goes 219 = .ok (.aload_n 0, 1) := by decide +kernel
theorem dX5_goes_220 : decode cX5_goes 220 = .ok (.getfield 32, 3) := by decide +kernel
theorem dX5_goes_223 : decode cX5_goes 223 = .ok (.iload 13, 2) := by decide +kernel
theorem dX5_goes_225 : decode cX5_goes 225 = .ok (.ifCond .ne 16, 3) := by decide +kernel
theorem dX5_goes_228 : decode cX5_goes 228 = .ok (.iload 7, 2) := by decide +kernel
theorem dX5_goes_230 : decode cX5_goes 230 = .ok (.iconst 1, 1) := by decide +kernel
theorem dX5_goes_231 : decode cX5_goes 231 = .ok (.isub, 1) := by decide +kernel
theorem dX5_goes_232 : decode cX5_goes 232 = .ok (.iload 8, 2) := by decide +kernel
theorem dX5_goes_234 : decode cX5_goes 234 = .ok (.iconst 0, 1) := by decide +kernel
theorem dX5_goes_235 : decode cX5_goes 235 = .ok (.invokestatic 99, 3) := by decide +kernel
theorem dX5_goes_238 : decode cX5_goes 238 = .ok (.goto 13, 3) := by decide +kernel
theorem dX5_goes_241 : decode cX5_goes 241 = .ok (.iload 7, 2) := by decide +kernel
theorem dX5_goes_243 : decode cX5_goes 243 = .ok (.iload 8, 2) := by decide +kernel
theorem dX5_goes_245 : decode cX5_goes 245 = .ok (.iconst 1, 1) := by decide +kernel
theorem dX5_goes_246 : decode cX5_goes 246 = .ok (.isub, 1) := by decide +kernel
theorem dX5_goes_247 : decode cX5_goes 247 = .ok (.iconst 1, 1) := by decide +kernel
theorem dX5_goes_248 : decode cX5_goes 248 = .ok (.invokestatic 99, 3) := by decide +kernel
theorem dX5_goes_251 : decode cX5_goes 251 = .ok (.dup2, 1) := by decide +kernel
theorem dX5_goes_252 : decode cX5_goes 252 = .ok (.laload, 1) := by decide +kernel
theorem dX5_goes_253 : decode cX5_goes 253 = .ok (.lload 14, 2) := by decide +kernel
theorem dX5_goes_255 : decode cX5_goes 255 = .ok (.ladd, 1) := by decide +kernel
theorem dX5_goes_256 : decode cX5_goes 256 = .ok (.lastore, 1) := by decide +kernel
theorem dX5_goes_257 : decode cX5_goes 257 = .ok (.iinc 13 1, 3) := by decide +kernel
theorem dX5_goes_260 : decode cX5_goes 260 = .ok (.goto (-174), 3) := by decide +kernel
theorem dX5_goes_263 : decode cX5_goes 263 = .ok (.iinc 9 1, 3) := by decide +kernel
theorem dX5_goes_266 : decode cX5_goes 266 = .ok (.goto (-218), 3) := by decide +kernel
theorem dX5_goes_269 : decode cX5_goes 269 = .ok (.iinc 8 1, 3) := by decide +kernel
theorem dX5_goes_272 : decode cX5_goes 272 = .ok (.goto (-234), 3) := by decide +kernel
theorem dX5_goes_275 : decode cX5_goes 275 = .ok (.iinc 7 1, 3) := by decide +kernel
theorem dX5_goes_278 : decode cX5_goes 278 = .ok (.goto (-250), 3) := by decide +kernel
theorem dX5_goes_281 : decode cX5_goes 281 = .ok (.iconst 0, 1) := by decide +kernel
theorem dX5_goes_282 : decode cX5_goes 282 = .ok (.istore 7, 2) := by decide +kernel
theorem dX5_goes_284 : decode cX5_goes 284 = .ok (.iload 7, 2) := by decide +kernel
theorem dX5_goes_286 : decode cX5_goes 286 = .ok (.sipush 363, 3) := by decide +kernel
theorem dX5_goes_289 : decode cX5_goes 289 = .ok (.if_icmp .ge 23, 3) := by decide +kernel
theorem dX5_goes_292 : decode cX5_goes 292 = .ok (.aload_n 0, 1) := by decide +kernel
theorem dX5_goes_293 : decode cX5_goes 293 = .ok (.getfield 28, 3) := by decide +kernel
theorem dX5_goes_296 : decode cX5_goes 296 = .ok (.iload 7, 2) := by decide +kernel
theorem dX5_goes_298 : decode cX5_goes 298 = .ok (.aload_n 0, 1) := by decide +kernel
theorem dX5_goes_299 : decode cX5_goes 299 = .ok (.getfield 32, 3) := by decide +kernel
theorem dX5_goes_302 : decode cX5_goes 302 = .ok (.iload 7, 2) := by decide +kernel
theorem dX5_goes_304 : decode cX5_goes 304 = .ok (.laload, 1) := by decide +kernel
theorem dX5_goes_305 : decode cX5_goes 305 = .ok (.lastore, 1) := by decide +kernel
theorem dX5_goes_306 : decode cX5_goes 306 = .ok (.iinc 7 1, 3) := by decide +kernel
theorem dX5_goes_309 : decode cX5_goes 309 = .ok (.goto (-25), 3) := by decide +kernel
theorem dX5_goes_312 : decode cX5_goes 312 = .ok (.return_, 1) := by decide +kernel
theorem dX5_clears_0 : decode cX5_clears 0 = .ok (.iconst 0, 1) := by decide +kernel
theorem dX5_clears_1 : decode cX5_clears 1 = .ok (.istore_n 1, 1) := by decide +kernel
theorem dX5_clears_2 : decode cX5_clears 2 = .ok (.iload_n 1, 1) := by decide +kernel
theorem dX5_clears_3 : decode cX5_clears 3 = .ok (.bipush 11, 2) := by decide +kernel
theorem dX5_clears_5 : decode cX5_clears 5 = .ok (.if_icmp .ge 16, 3) := by decide +kernel
theorem dX5_clears_8 : decode cX5_clears 8 = .ok (.aload_n 0, 1) := by decide +kernel
theorem dX5_clears_9 : decode cX5_clears 9 = .ok (.getfield 35, 3) := by decide +kernel
theorem dX5_clears_12 : decode cX5_clears 12 = .ok (.iload_n 1, 1) := by decide +kernel
theorem dX5_clears_13 : decode cX5_clears 13 = .ok (.lconst 0, 1) := by decide +kernel
theorem dX5_clears_14 : decode cX5_clears 14 = .ok (.lastore, 1) := by decide +kernel
theorem dX5_clears_15 : decode cX5_clears 15 = .ok (.iinc 1 1, 3) := by decide +kernel
theorem dX5_clears_18 : decode cX5_clears 18 = .ok (.goto (-16), 3) := by decide +kernel
theorem dX5_clears_21 : decode cX5_clears 21 = .ok (.iconst 0, 1) := by decide +kernel
theorem dX5_clears_22 : decode cX5_clears 22 = .ok (.istore_n 1, 1) := by decide +kernel
theorem dX5_clears_23 : decode cX5_clears 23 = .ok (.iload_n 1, 1) := by decide +kernel
theorem dX5_clears_24 : decode cX5_clears 24 = .ok (.bipush 22, 2) := by decide +kernel
theorem dX5_clears_26 : decode cX5_clears 26 = .ok (.if_icmp .ge 16, 3) := by decide +kernel
theorem dX5_clears_29 : decode cX5_clears 29 = .ok (.aload_n 0, 1) := by decide +kernel
theorem dX5_clears_30 : decode cX5_clears 30 = .ok (.getfield 38, 3) := by decide +kernel
theorem dX5_clears_33 : decode cX5_clears 33 = .ok (.iload_n 1, 1) := by decide +kernel
theorem dX5_clears_34 : decode cX5_clears 34 = .ok (.lconst 0, 1) := by decide +kernel
theorem dX5_clears_35 : decode cX5_clears 35 = .ok (.lastore, 1) := by decide +kernel
theorem dX5_clears_36 : decode cX5_clears 36 = .ok (.iinc 1 1, 3) := by decide +kernel
theorem dX5_clears_39 : decode cX5_clears 39 = .ok (.goto (-16), 3) := by decide +kernel
theorem dX5_clears_42 : decode cX5_clears 42 = .ok (.aload_n 0, 1) := by decide +kernel
theorem dX5_clears_43 : decode cX5_clears 43 = .ok (.lconst 0, 1) := by decide +kernel
theorem dX5_clears_44 : decode cX5_clears 44 = .ok (.putfield 102, 3) := by decide +kernel
theorem dX5_clears_47 : decode cX5_clears 47 = .ok (.return_, 1) := by decide +kernel
theorem dX5_weighs_0 : decode cX5_weighs 0 = .ok (.aload_n 0, 1) := by decide +kernel
theorem dX5_weighs_1 : decode cX5_weighs 1 = .ok (.invokevirtual 106, 3) := by decide +kernel
theorem dX5_weighs_4 : decode cX5_weighs 4 = .ok (.iload 5, 2) := by decide +kernel
theorem dX5_weighs_6 : decode cX5_weighs 6 = .ok (.iconst 1, 1) := by decide +kernel
theorem dX5_weighs_7 : decode cX5_weighs 7 = .ok (.if_icmp .ne 32, 3) := by decide +kernel
theorem dX5_weighs_10 : decode cX5_weighs 10 = .ok (.iload_n 1, 1) := by decide +kernel
theorem dX5_weighs_11 : decode cX5_weighs 11 = .ok (.ifCond .eq 7, 3) := by decide +kernel
theorem dX5_weighs_14 : decode cX5_weighs 14 = .ok (.iload_n 2, 1) := by decide +kernel
theorem dX5_weighs_15 : decode cX5_weighs 15 = .ok (.ifCond .ne 24, 3) := by decide +kernel
theorem dX5_weighs_18 : decode cX5_weighs 18 = .ok (.aload_n 0, 1) := by decide +kernel
theorem dX5_weighs_19 : decode cX5_weighs 19 = .ok (.getfield 35, 3) := by decide +kernel
theorem dX5_weighs_22 : decode cX5_weighs 22 = .ok (.iload_n 1, 1) := by decide +kernel
theorem dX5_weighs_23 : decode cX5_weighs 23 = .ok (.iload_n 2, 1) := by decide +kernel
theorem dX5_weighs_24 : decode cX5_weighs 24 = .ok (.iadd, 1) := by decide +kernel
theorem dX5_weighs_25 : decode cX5_weighs 25 = .ok (.ldc2_w 109, 3) := by decide +kernel
theorem dX5_weighs_28 : decode cX5_weighs 28 = .ok (.lastore, 1) := by decide +kernel
theorem dX5_weighs_29 : decode cX5_weighs 29 = .ok (.aload_n 0, 1) := by decide +kernel
theorem dX5_weighs_30 : decode cX5_weighs 30 = .ok (.getfield 38, 3) := by decide +kernel
theorem dX5_weighs_33 : decode cX5_weighs 33 = .ok (.iconst 0, 1) := by decide +kernel
theorem dX5_weighs_34 : decode cX5_weighs 34 = .ok (.ldc2_w 109, 3) := by decide +kernel
theorem dX5_weighs_37 : decode cX5_weighs 37 = .ok (.lastore, 1) := by decide +kernel
theorem dX5_weighs_38 : decode cX5_weighs 38 = .ok (.return_, 1) := by decide +kernel
theorem dX5_weighs_39 : decode cX5_weighs 39 = .ok (.aload_n 0, 1) := by decide +kernel
theorem dX5_weighs_40 : decode cX5_weighs 40 = .ok (.iload_n 1, 1) := by decide +kernel
theorem dX5_weighs_41 : decode cX5_weighs 41 = .ok (.iload_n 2, 1) := by decide +kernel
theorem dX5_weighs_42 : decode cX5_weighs 42 = .ok (.aload_n 0, 1) := by decide +kernel
theorem dX5_weighs_43 : decode cX5_weighs 43 = .ok (.getfield 16, 3) := by decide +kernel
theorem dX5_weighs_46 : decode cX5_weighs 46 = .ok (.iconst 2, 1) := by decide +kernel
theorem dX5_weighs_47 : decode cX5_weighs 47 = .ok (.iaload, 1) := by decide +kernel
theorem dX5_weighs_48 : decode cX5_weighs 48 = .ok (.invokevirtual 111, 3) := by decide +kernel
theorem dX5_weighs_51 : decode cX5_weighs 51 = .ok (.ldc2_w 109, 3) := by decide +kernel
theorem dX5_weighs_54 : decode cX5_weighs 54 = .ok (.lstore 6, 2) := by decide +kernel
theorem dX5_weighs_56 : decode cX5_weighs 56 = .ok (.iconst 1, 1) := by decide +kernel
theorem dX5_weighs_57 : decode cX5_weighs 57 = .ok (.istore 8, 2) := by decide +kernel
theorem dX5_weighs_59 : decode cX5_weighs 59 = .ok (.iload 8, 2) := by decide +kernel
theorem dX5_weighs_61 : decode cX5_weighs 61 = .ok (.bipush 21, 2) := by decide +kernel
theorem dX5_weighs_63 : decode cX5_weighs 63 = .ok (.if_icmp .gt 30, 3) := by decide +kernel
theorem dX5_weighs_66 : decode cX5_weighs 66 = .ok (.lload 6, 2) := by decide +kernel
theorem dX5_weighs_68 : decode cX5_weighs 68 = .ok (.ldc2_w 115, 3) := by decide +kernel
theorem dX5_weighs_71 : decode cX5_weighs 71 = .ok (.ldiv, 1) := by decide +kernel
theorem dX5_weighs_72 : decode cX5_weighs 72 = .ok (.lstore 6, 2) := by decide +kernel
theorem dX5_weighs_74 : decode cX5_weighs 74 = .ok (.aload_n 0, 1) := by decide +kernel
theorem dX5_weighs_75 : decode cX5_weighs 75 = .ok (.iload_n 3, 1) := by decide +kernel
theorem dX5_weighs_76 : decode cX5_weighs 76 = .ok (.iload 4, 2) := by decide +kernel
theorem dX5_weighs_78 : decode cX5_weighs 78 = .ok (.iload 5, 2) := by decide +kernel
theorem dX5_weighs_80 : decode cX5_weighs 80 = .ok (.iload 8, 2) := by decide +kernel
theorem dX5_weighs_82 : decode cX5_weighs 82 = .ok (.lload 6, 2) := by decide +kernel
theorem dX5_weighs_84 : decode cX5_weighs 84 = .ok (.invokevirtual 117, 3) := by decide +kernel
theorem dX5_weighs_87 : decode cX5_weighs 87 = .ok (.iinc 8 1, 3) := by decide +kernel
theorem dX5_weighs_90 : decode cX5_weighs 90 = .ok (.goto (-31), 3) := by decide +kernel
theorem dX5_weighs_93 : decode cX5_weighs 93 = .ok (.return_, 1) := by decide +kernel
theorem dX5_weighsNow_0 : decode cX5_weighsNow 0 = .ok (.aload_n 0, 1) := by decide +kernel
theorem dX5_weighsNow_1 : decode cX5_weighsNow 1 = .ok (.aload_n 0, 1) := by decide +kernel
theorem dX5_weighsNow_2 : decode cX5_weighsNow 2 = .ok (.getfield 16, 3) := by decide +kernel
theorem dX5_weighsNow_5 : decode cX5_weighsNow 5 = .ok (.iconst 0, 1) := by decide +kernel
theorem dX5_weighsNow_6 : decode cX5_weighsNow 6 = .ok (.iaload, 1) := by decide +kernel
theorem dX5_weighsNow_7 : decode cX5_weighsNow 7 = .ok (.aload_n 0, 1) := by decide +kernel
theorem dX5_weighsNow_8 : decode cX5_weighsNow 8 = .ok (.getfield 16, 3) := by decide +kernel
theorem dX5_weighsNow_11 : decode cX5_weighsNow 11 = .ok (.iconst 1, 1) := by decide +kernel
theorem dX5_weighsNow_12 : decode cX5_weighsNow 12 = .ok (.iaload, 1) := by decide +kernel
theorem dX5_weighsNow_13 : decode cX5_weighsNow 13 = .ok (.aload_n 0, 1) := by decide +kernel
theorem dX5_weighsNow_14 : decode cX5_weighsNow 14 = .ok (.getfield 16, 3) := by decide +kernel
theorem dX5_weighsNow_17 : decode cX5_weighsNow 17 = .ok (.iconst 3, 1) := by decide +kernel
theorem dX5_weighsNow_18 : decode cX5_weighsNow 18 = .ok (.iaload, 1) := by decide +kernel
theorem dX5_weighsNow_19 : decode cX5_weighsNow 19 = .ok (.aload_n 0, 1) := by decide +kernel
theorem dX5_weighsNow_20 : decode cX5_weighsNow 20 = .ok (.getfield 16, 3) := by decide +kernel
theorem dX5_weighsNow_23 : decode cX5_weighsNow 23 = .ok (.iconst 4, 1) := by decide +kernel
theorem dX5_weighsNow_24 : decode cX5_weighsNow 24 = .ok (.iaload, 1) := by decide +kernel
theorem dX5_weighsNow_25 : decode cX5_weighsNow 25 = .ok (.iload_n 1, 1) := by decide +kernel
theorem dX5_weighsNow_26 : decode cX5_weighsNow 26 = .ok (.invokevirtual 121, 3) := by decide +kernel
theorem dX5_weighsNow_29 : decode cX5_weighsNow 29 = .ok (.return_, 1) := by decide +kernel
theorem dX5_cut_0 : decode cX5_cut 0 = .ok (.ldc2_w 125, 3) := by decide +kernel
theorem dX5_cut_3 : decode cX5_cut 3 = .ok (.lload_n 0, 1) := by decide +kernel
theorem dX5_cut_4 : decode cX5_cut 4 = .ok (.lmul, 1) := by decide +kernel
theorem dX5_cut_5 : decode cX5_cut 5 = .ok (.lload_n 2, 1) := by decide +kernel
theorem dX5_cut_6 : decode cX5_cut 6 = .ok (.ldiv, 1) := by decide +kernel
theorem dX5_cut_7 : decode cX5_cut 7 = .ok (.l2i, 1) := by decide +kernel
theorem dX5_cut_8 : decode cX5_cut 8 = .ok (.ireturn, 1) := by decide +kernel
theorem dX5_isEnd_0 : decode cX5_isEnd 0 = .ok (.iload_n 0, 1) := by decide +kernel
theorem dX5_isEnd_1 : decode cX5_isEnd 1 = .ok (.iconst 0, 1) := by decide +kernel
theorem dX5_isEnd_2 : decode cX5_isEnd 2 = .ok (.iconst 1, 1) := by decide +kernel
theorem dX5_isEnd_3 : decode cX5_isEnd 3 = .ok (.invokestatic 47, 3) := by decide +kernel
theorem dX5_isEnd_6 : decode cX5_isEnd 6 = .ok (.ireturn, 1) := by decide +kernel
theorem dX5_left_0 : decode cX5_left 0 = .ok (.iload_n 1, 1) := by decide +kernel
theorem dX5_left_1 : decode cX5_left 1 = .ok (.invokestatic 127, 3) := by decide +kernel
theorem dX5_left_4 : decode cX5_left 4 = .ok (.ifCond .eq 13, 3) := by decide +kernel
theorem dX5_left_7 : decode cX5_left 7 = .ok (.iload_n 2, 1) := by decide +kernel
theorem dX5_left_8 : decode cX5_left 8 = .ok (.iconst 0, 1) := by decide +kernel
theorem dX5_left_9 : decode cX5_left 9 = .ok (.bipush 10, 2) := by decide +kernel
theorem dX5_left_11 : decode cX5_left 11 = .ok (.invokestatic 47, 3) := by decide +kernel
theorem dX5_left_14 : decode cX5_left 14 = .ok (.ifCond .ne 5, 3) := by decide +kernel
theorem dX5_left_17 : decode cX5_left 17 = .ok (.iconst (-1), 1) := by decide +kernel
theorem dX5_left_18 : decode cX5_left 18 = .ok (.ireturn, 1) := by decide +kernel
theorem dX5_left_19 : decode cX5_left 19 = .ok (.aload_n 0, 1) := by decide +kernel
theorem dX5_left_20 : decode cX5_left 20 = .ok (.iload_n 1, 1) := by decide +kernel
theorem dX5_left_21 : decode cX5_left 21 = .ok (.invokevirtual 130, 3) := by decide +kernel
theorem dX5_left_24 : decode cX5_left 24 = .ok (.aload_n 0, 1) := by decide +kernel
theorem dX5_left_25 : decode cX5_left 25 = .ok (.getfield 35, 3) := by decide +kernel
theorem dX5_left_28 : decode cX5_left 28 = .ok (.iload_n 2, 1) := by decide +kernel
theorem dX5_left_29 : decode cX5_left 29 = .ok (.laload, 1) := by decide +kernel
theorem dX5_left_30 : decode cX5_left 30 = .ok (.ldc2_w 109, 3) := by decide +kernel
theorem dX5_left_33 : decode cX5_left 33 = .ok (.invokestatic 134, 3) := by decide +kernel
theorem dX5_left_36 : decode cX5_left 36 = .ok (.ireturn, 1) := by decide +kernel
theorem dX5_mean_0 : decode cX5_mean 0 = .ok (.iload_n 1, 1) := by decide +kernel
theorem dX5_mean_1 : decode cX5_mean 1 = .ok (.invokestatic 127, 3) := by decide +kernel
theorem dX5_mean_4 : decode cX5_mean 4 = .ok (.ifCond .ne 5, 3) := by decide +kernel
theorem dX5_mean_7 : decode cX5_mean 7 = .ok (.iconst (-1), 1) := by decide +kernel
theorem dX5_mean_8 : decode cX5_mean 8 = .ok (.ireturn, 1) := by decide +kernel
theorem dX5_mean_9 : decode cX5_mean 9 = .ok (.aload_n 0, 1) := by decide +kernel
theorem dX5_mean_10 : decode cX5_mean 10 = .ok (.iload_n 1, 1) := by decide +kernel
theorem dX5_mean_11 : decode cX5_mean 11 = .ok (.invokevirtual 130, 3) := by decide +kernel
theorem dX5_mean_14 : decode cX5_mean 14 = .ok (.lconst 0, 1) := by decide +kernel
theorem dX5_mean_15 : decode cX5_mean 15 = .ok (.lstore_n 2, 1) := by decide +kernel
theorem dX5_mean_16 : decode cX5_mean 16 = .ok (.iconst 0, 1) := by decide +kernel
theorem dX5_mean_17 : decode cX5_mean 17 = .ok (.istore 4, 2) := by decide +kernel
theorem dX5_mean_19 : decode cX5_mean 19 = .ok (.iload 4, 2) := by decide +kernel
theorem dX5_mean_21 : decode cX5_mean 21 = .ok (.bipush 11, 2) := by decide +kernel
theorem dX5_mean_23 : decode cX5_mean 23 = .ok (.if_icmp .ge 23, 3) := by decide +kernel
theorem dX5_mean_26 : decode cX5_mean 26 = .ok (.lload_n 2, 1) := by decide +kernel
theorem dX5_mean_27 : decode cX5_mean 27 = .ok (.iload 4, 2) := by decide +kernel
theorem dX5_mean_29 : decode cX5_mean 29 = .ok (.i2l, 1) := by decide +kernel
theorem dX5_mean_30 : decode cX5_mean 30 = .ok (.aload_n 0, 1) := by decide +kernel
theorem dX5_mean_31 : decode cX5_mean 31 = .ok (.getfield 35, 3) := by decide +kernel
theorem dX5_mean_34 : decode cX5_mean 34 = .ok (.iload 4, 2) := by decide +kernel
theorem dX5_mean_36 : decode cX5_mean 36 = .ok (.laload, 1) := by decide +kernel
theorem dX5_mean_37 : decode cX5_mean 37 = .ok (.lmul, 1) := by decide +kernel
theorem dX5_mean_38 : decode cX5_mean 38 = .ok (.ladd, 1) := by decide +kernel
theorem dX5_mean_39 : decode cX5_mean 39 = .ok (.lstore_n 2, 1) := by decide +kernel
theorem dX5_mean_40 : decode cX5_mean 40 = .ok (.iinc 4 1, 3) := by decide +kernel
theorem dX5_mean_43 : decode cX5_mean 43 = .ok (.goto (-24), 3) := by decide +kernel
theorem dX5_mean_46 : decode cX5_mean 46 = .ok (.ldc2_w 138, 3) := by decide +kernel
theorem dX5_mean_49 : decode cX5_mean 49 = .ok (.lload_n 2, 1) := by decide +kernel
theorem dX5_mean_50 : decode cX5_mean 50 = .ok (.lmul, 1) := by decide +kernel
theorem dX5_mean_51 : decode cX5_mean 51 = .ok (.ldc2_w 109, 3) := by decide +kernel
theorem dX5_mean_54 : decode cX5_mean 54 = .ok (.ldiv, 1) := by decide +kernel
theorem dX5_mean_55 : decode cX5_mean 55 = .ok (.l2i, 1) := by decide +kernel
theorem dX5_mean_56 : decode cX5_mean 56 = .ok (.ireturn, 1) := by decide +kernel
theorem dX5_within_0 : decode cX5_within 0 = .ok (.lconst 0, 1) := by decide +kernel
theorem dX5_within_1 : decode cX5_within 1 = .ok (.lstore_n 2, 1) := by decide +kernel
theorem dX5_within_2 : decode cX5_within 2 = .ok (.iconst 0, 1) := by decide +kernel
theorem dX5_within_3 : decode cX5_within 3 = .ok (.istore 4, 2) := by decide +kernel
theorem dX5_within_5 : decode cX5_within 5 = .ok (.iload 4, 2) := by decide +kernel
theorem dX5_within_7 : decode cX5_within 7 = .ok (.iload_n 1, 1) := by decide +kernel
theorem dX5_within_8 : decode cX5_within 8 = .ok (.if_icmp .gt 19, 3) := by decide +kernel
theorem dX5_within_11 : decode cX5_within 11 = .ok (.lload_n 2, 1) := by decide +kernel
theorem dX5_within_12 : decode cX5_within 12 = .ok (.aload_n 0, 1) := by decide +kernel
theorem dX5_within_13 : decode cX5_within 13 = .ok (.getfield 38, 3) := by decide +kernel
theorem dX5_within_16 : decode cX5_within 16 = .ok (.iload 4, 2) := by decide +kernel
theorem dX5_within_18 : decode cX5_within 18 = .ok (.laload, 1) := by decide +kernel
theorem dX5_within_19 : decode cX5_within 19 = .ok (.ladd, 1) := by decide +kernel
theorem dX5_within_20 : decode cX5_within 20 = .ok (.lstore_n 2, 1) := by decide +kernel
theorem dX5_within_21 : decode cX5_within 21 = .ok (.iinc 4 1, 3) := by decide +kernel
theorem dX5_within_24 : decode cX5_within 24 = .ok (.goto (-19), 3) := by decide +kernel
theorem dX5_within_27 : decode cX5_within 27 = .ok (.lload_n 2, 1) := by decide +kernel
theorem dX5_within_28 : decode cX5_within 28 = .ok (.lreturn, 1) := by decide +kernel
theorem dX5_soon_0 : decode cX5_soon 0 = .ok (.iload_n 1, 1) := by decide +kernel
theorem dX5_soon_1 : decode cX5_soon 1 = .ok (.invokestatic 127, 3) := by decide +kernel
theorem dX5_soon_4 : decode cX5_soon 4 = .ok (.ifCond .eq 13, 3) := by decide +kernel
theorem dX5_soon_7 : decode cX5_soon 7 = .ok (.iload_n 2, 1) := by decide +kernel
theorem dX5_soon_8 : decode cX5_soon 8 = .ok (.iconst 0, 1) := by decide +kernel
theorem dX5_soon_9 : decode cX5_soon 9 = .ok (.bipush 21, 2) := by decide +kernel
theorem dX5_soon_11 : decode cX5_soon 11 = .ok (.invokestatic 47, 3) := by decide +kernel
theorem dX5_soon_14 : decode cX5_soon 14 = .ok (.ifCond .ne 5, 3) := by decide +kernel
theorem dX5_soon_17 : decode cX5_soon 17 = .ok (.iconst (-1), 1) := by decide +kernel
theorem dX5_soon_18 : decode cX5_soon 18 = .ok (.ireturn, 1) := by decide +kernel
theorem dX5_soon_19 : decode cX5_soon 19 = .ok (.aload_n 0, 1) := by decide +kernel
theorem dX5_soon_20 : decode cX5_soon 20 = .ok (.iload_n 1, 1) := by decide +kernel
theorem dX5_soon_21 : decode cX5_soon 21 = .ok (.invokevirtual 130, 3) := by decide +kernel
theorem dX5_soon_24 : decode cX5_soon 24 = .ok (.aload_n 0, 1) := by decide +kernel
theorem dX5_soon_25 : decode cX5_soon 25 = .ok (.iload_n 2, 1) := by decide +kernel
theorem dX5_soon_26 : decode cX5_soon 26 = .ok (.invokevirtual 140, 3) := by decide +kernel
theorem dX5_soon_29 : decode cX5_soon 29 = .ok (.ldc2_w 109, 3) := by decide +kernel
theorem dX5_soon_32 : decode cX5_soon 32 = .ok (.invokestatic 134, 3) := by decide +kernel
theorem dX5_soon_35 : decode cX5_soon 35 = .ok (.ireturn, 1) := by decide +kernel
theorem dX5_reaches_0 : decode cX5_reaches 0 = .ok (.lconst 0, 1) := by decide +kernel
theorem dX5_reaches_1 : decode cX5_reaches 1 = .ok (.lstore_n 1, 1) := by decide +kernel
theorem dX5_reaches_2 : decode cX5_reaches 2 = .ok (.iconst 0, 1) := by decide +kernel
theorem dX5_reaches_3 : decode cX5_reaches 3 = .ok (.istore_n 3, 1) := by decide +kernel
theorem dX5_reaches_4 : decode cX5_reaches 4 = .ok (.iload_n 3, 1) := by decide +kernel
theorem dX5_reaches_5 : decode cX5_reaches 5 = .ok (.bipush 22, 2) := by decide +kernel
theorem dX5_reaches_7 : decode cX5_reaches 7 = .ok (.if_icmp .ge 21, 3) := by decide +kernel
theorem dX5_reaches_10 : decode cX5_reaches 10 = .ok (.lload_n 1, 1) := by decide +kernel
theorem dX5_reaches_11 : decode cX5_reaches 11 = .ok (.iload_n 3, 1) := by decide +kernel
theorem dX5_reaches_12 : decode cX5_reaches 12 = .ok (.i2l, 1) := by decide +kernel
theorem dX5_reaches_13 : decode cX5_reaches 13 = .ok (.aload_n 0, 1) := by decide +kernel
theorem dX5_reaches_14 : decode cX5_reaches 14 = .ok (.getfield 38, 3) := by decide +kernel
theorem dX5_reaches_17 : decode cX5_reaches 17 = .ok (.iload_n 3, 1) := by decide +kernel
theorem dX5_reaches_18 : decode cX5_reaches 18 = .ok (.laload, 1) := by decide +kernel
theorem dX5_reaches_19 : decode cX5_reaches 19 = .ok (.lmul, 1) := by decide +kernel
theorem dX5_reaches_20 : decode cX5_reaches 20 = .ok (.ladd, 1) := by decide +kernel
theorem dX5_reaches_21 : decode cX5_reaches 21 = .ok (.lstore_n 1, 1) := by decide +kernel
theorem dX5_reaches_22 : decode cX5_reaches 22 = .ok (.iinc 3 1, 3) := by decide +kernel
theorem dX5_reaches_25 : decode cX5_reaches 25 = .ok (.goto (-21), 3) := by decide +kernel
theorem dX5_reaches_28 : decode cX5_reaches 28 = .ok (.lload_n 1, 1) := by decide +kernel
theorem dX5_reaches_29 : decode cX5_reaches 29 = .ok (.lreturn, 1) := by decide +kernel
theorem dX5_times_0 : decode cX5_times 0 = .ok (.iload_n 1, 1) := by decide +kernel
theorem dX5_times_1 : decode cX5_times 1 = .ok (.invokestatic 127, 3) := by decide +kernel
theorem dX5_times_4 : decode cX5_times 4 = .ok (.ifCond .ne 5, 3) := by decide +kernel
theorem dX5_times_7 : decode cX5_times 7 = .ok (.iconst (-1), 1) := by decide +kernel
theorem dX5_times_8 : decode cX5_times 8 = .ok (.ireturn, 1) := by decide +kernel
theorem dX5_times_9 : decode cX5_times 9 = .ok (.aload_n 0, 1) := by decide +kernel
theorem dX5_times_10 : decode cX5_times 10 = .ok (.iload_n 1, 1) := by decide +kernel
theorem dX5_times_11 : decode cX5_times 11 = .ok (.invokevirtual 130, 3) := by decide +kernel
theorem dX5_times_14 : decode cX5_times 14 = .ok (.ldc2_w 138, 3) := by decide +kernel
theorem dX5_times_17 : decode cX5_times 17 = .ok (.aload_n 0, 1) := by decide +kernel
theorem dX5_times_18 : decode cX5_times 18 = .ok (.invokevirtual 144, 3) := by decide +kernel
theorem dX5_times_21 : decode cX5_times 21 = .ok (.lmul, 1) := by decide +kernel
theorem dX5_times_22 : decode cX5_times 22 = .ok (.ldc2_w 109, 3) := by decide +kernel
theorem dX5_times_25 : decode cX5_times 25 = .ok (.ldiv, 1) := by decide +kernel
theorem dX5_times_26 : decode cX5_times 26 = .ok (.l2i, 1) := by decide +kernel
theorem dX5_times_27 : decode cX5_times 27 = .ok (.ireturn, 1) := by decide +kernel
theorem dX5_likeliest_0 : decode cX5_likeliest 0 = .ok (.iload_n 1, 1) := by decide +kernel
theorem dX5_likeliest_1 : decode cX5_likeliest 1 = .ok (.invokestatic 127, 3) := by decide +kernel
theorem dX5_likeliest_4 : decode cX5_likeliest 4 = .ok (.ifCond .ne 5, 3) := by decide +kernel
theorem dX5_likeliest_7 : decode cX5_likeliest 7 = .ok (.iconst (-1), 1) := by decide +kernel
theorem dX5_likeliest_8 : decode cX5_likeliest 8 = .ok (.ireturn, 1) := by decide +kernel
theorem dX5_likeliest_9 : decode cX5_likeliest 9 = .ok (.aload_n 0, 1) := by decide +kernel
theorem dX5_likeliest_10 : decode cX5_likeliest 10 = .ok (.iload_n 1, 1) := by decide +kernel
theorem dX5_likeliest_11 : decode cX5_likeliest 11 = .ok (.invokevirtual 130, 3) := by decide +kernel
theorem dX5_likeliest_14 : decode cX5_likeliest 14 = .ok (.iconst 0, 1) := by decide +kernel
theorem dX5_likeliest_15 : decode cX5_likeliest 15 = .ok (.istore_n 2, 1) := by decide +kernel
theorem dX5_likeliest_16 : decode cX5_likeliest 16 = .ok (.iconst 1, 1) := by decide +kernel
theorem dX5_likeliest_17 : decode cX5_likeliest 17 = .ok (.istore_n 3, 1) := by decide +kernel
theorem dX5_likeliest_18 : decode cX5_likeliest 18 = .ok (.iload_n 3, 1) := by decide +kernel
theorem dX5_likeliest_19 : decode cX5_likeliest 19 = .ok (.bipush 11, 2) := by decide +kernel
theorem dX5_likeliest_21 : decode cX5_likeliest 21 = .ok (.if_icmp .ge 31, 3) := by decide +kernel
theorem dX5_likeliest_24 : decode cX5_likeliest 24 = .ok (.aload_n 0, 1) := by decide +kernel
theorem dX5_likeliest_25 : decode cX5_likeliest 25 = .ok (.getfield 35, 3) := by decide +kernel
theorem dX5_likeliest_28 : decode cX5_likeliest 28 = .ok (.iload_n 3, 1) := by decide +kernel
theorem dX5_likeliest_29 : decode cX5_likeliest 29 = .ok (.laload, 1) := by decide +kernel
theorem dX5_likeliest_30 : decode cX5_likeliest 30 = .ok (.aload_n 0, 1) := by decide +kernel
theorem dX5_likeliest_31 : decode cX5_likeliest 31 = .ok (.getfield 35, 3) := by decide +kernel
theorem dX5_likeliest_34 : decode cX5_likeliest 34 = .ok (.iload_n 2, 1) := by decide +kernel
theorem dX5_likeliest_35 : decode cX5_likeliest 35 = .ok (.laload, 1) := by decide +kernel
theorem dX5_likeliest_36 : decode cX5_likeliest 36 = .ok (.lcmp, 1) := by decide +kernel
theorem dX5_likeliest_37 : decode cX5_likeliest 37 = .ok (.ifCond .le 7, 3) := by decide +kernel
theorem dX5_likeliest_40 : decode cX5_likeliest 40 = .ok (.iload_n 3, 1) := by decide +kernel
theorem dX5_likeliest_41 : decode cX5_likeliest 41 = .ok (.goto 4, 3) := by decide +kernel
theorem dX5_likeliest_44 : decode cX5_likeliest 44 = .ok (.iload_n 2, 1) := by decide +kernel
theorem dX5_likeliest_45 : decode cX5_likeliest 45 = .ok (.istore_n 2, 1) := by decide +kernel
theorem dX5_likeliest_46 : decode cX5_likeliest 46 = .ok (.iinc 3 1, 3) := by decide +kernel
theorem dX5_likeliest_49 : decode cX5_likeliest 49 = .ok (.goto (-31), 3) := by decide +kernel
theorem dX5_likeliest_52 : decode cX5_likeliest 52 = .ok (.iload_n 2, 1) := by decide +kernel
theorem dX5_likeliest_53 : decode cX5_likeliest 53 = .ok (.ireturn, 1) := by decide +kernel
theorem dX5_level_0 : decode cX5_level 0 = .ok (.iload_n 1, 1) := by decide +kernel
theorem dX5_level_1 : decode cX5_level 1 = .ok (.iconst 0, 1) := by decide +kernel
theorem dX5_level_2 : decode cX5_level 2 = .ok (.bipush 20, 2) := by decide +kernel
theorem dX5_level_4 : decode cX5_level 4 = .ok (.invokestatic 47, 3) := by decide +kernel
theorem dX5_level_7 : decode cX5_level 7 = .ok (.ifCond .ne 5, 3) := by decide +kernel
theorem dX5_level_10 : decode cX5_level 10 = .ok (.iconst (-1), 1) := by decide +kernel
theorem dX5_level_11 : decode cX5_level 11 = .ok (.ireturn, 1) := by decide +kernel
theorem dX5_level_12 : decode cX5_level 12 = .ok (.aload_n 0, 1) := by decide +kernel
theorem dX5_level_13 : decode cX5_level 13 = .ok (.invokevirtual 106, 3) := by decide +kernel
theorem dX5_level_16 : decode cX5_level 16 = .ok (.aload_n 0, 1) := by decide +kernel
theorem dX5_level_17 : decode cX5_level 17 = .ok (.aload_n 0, 1) := by decide +kernel
theorem dX5_level_18 : decode cX5_level 18 = .ok (.getfield 16, 3) := by decide +kernel
theorem dX5_level_21 : decode cX5_level 21 = .ok (.iconst 0, 1) := by decide +kernel
theorem dX5_level_22 : decode cX5_level 22 = .ok (.iaload, 1) := by decide +kernel
theorem dX5_level_23 : decode cX5_level 23 = .ok (.aload_n 0, 1) := by decide +kernel
theorem dX5_level_24 : decode cX5_level 24 = .ok (.getfield 16, 3) := by decide +kernel
theorem dX5_level_27 : decode cX5_level 27 = .ok (.iconst 1, 1) := by decide +kernel
theorem dX5_level_28 : decode cX5_level 28 = .ok (.iaload, 1) := by decide +kernel
theorem dX5_level_29 : decode cX5_level 29 = .ok (.aload_n 0, 1) := by decide +kernel
theorem dX5_level_30 : decode cX5_level 30 = .ok (.getfield 16, 3) := by decide +kernel
theorem dX5_level_33 : decode cX5_level 33 = .ok (.iconst 2, 1) := by decide +kernel
theorem dX5_level_34 : decode cX5_level 34 = .ok (.iaload, 1) := by decide +kernel
theorem dX5_level_35 : decode cX5_level 35 = .ok (.invokevirtual 111, 3) := by decide +kernel
theorem dX5_level_38 : decode cX5_level 38 = .ok (.lconst 1, 1) := by decide +kernel
theorem dX5_level_39 : decode cX5_level 39 = .ok (.lstore_n 2, 1) := by decide +kernel
theorem dX5_level_40 : decode cX5_level 40 = .ok (.iconst 1, 1) := by decide +kernel
theorem dX5_level_41 : decode cX5_level 41 = .ok (.istore 4, 2) := by decide +kernel
theorem dX5_level_43 : decode cX5_level 43 = .ok (.iload 4, 2) := by decide +kernel
theorem dX5_level_45 : decode cX5_level 45 = .ok (.iload_n 1, 1) := by decide +kernel
theorem dX5_level_46 : decode cX5_level 46 = .ok (.if_icmp .gt 35, 3) := by decide +kernel
theorem dX5_level_49 : decode cX5_level 49 = .ok (.aload_n 0, 1) := by decide +kernel
theorem dX5_level_50 : decode cX5_level 50 = .ok (.aload_n 0, 1) := by decide +kernel
theorem dX5_level_51 : decode cX5_level 51 = .ok (.getfield 16, 3) := by decide +kernel
theorem dX5_level_54 : decode cX5_level 54 = .ok (.iconst 3, 1) := by decide +kernel
theorem dX5_level_55 : decode cX5_level 55 = .ok (.iaload, 1) := by decide +kernel
theorem dX5_level_56 : decode cX5_level 56 = .ok (.aload_n 0, 1) := by decide +kernel
theorem dX5_level_57 : decode cX5_level 57 = .ok (.getfield 16, 3) := by decide +kernel
theorem dX5_level_60 : decode cX5_level 60 = .ok (.iconst 4, 1) := by decide +kernel
theorem dX5_level_61 : decode cX5_level 61 = .ok (.iaload, 1) := by decide +kernel
theorem dX5_level_62 : decode cX5_level 62 = .ok (.iconst 0, 1) := by decide +kernel
theorem dX5_level_63 : decode cX5_level 63 = .ok (.iload 4, 2) := by decide +kernel
theorem dX5_level_65 : decode cX5_level 65 = .ok (.lconst 0, 1) := by decide +kernel
theorem dX5_level_66 : decode cX5_level 66 = .ok (.invokevirtual 117, 3) := by decide +kernel
theorem dX5_level_69 : decode cX5_level 69 = .ok (.lload_n 2, 1) := by decide +kernel
theorem dX5_level_70 : decode cX5_level 70 = .ok (.ldc2_w 115, 3) := by decide +kernel
theorem dX5_level_73 : decode cX5_level 73 = .ok (.lmul, 1) := by decide +kernel
theorem dX5_level_74 : decode cX5_level 74 = .ok (.lstore_n 2, 1) := by decide +kernel
theorem dX5_level_75 : decode cX5_level 75 = .ok (.iinc 4 1, 3) := by decide +kernel
theorem dX5_level_78 : decode cX5_level 78 = .ok (.goto (-35), 3) := by decide +kernel
theorem dX5_level_81 : decode cX5_level 81 = .ok (.lconst 0, 1) := by decide +kernel
theorem dX5_level_82 : decode cX5_level 82 = .ok (.lstore 4, 2) := by decide +kernel
theorem dX5_level_84 : decode cX5_level 84 = .ok (.iconst 0, 1) := by decide +kernel
theorem dX5_level_85 : decode cX5_level 85 = .ok (.istore 6, 2) := by decide +kernel
theorem dX5_level_87 : decode cX5_level 87 = .ok (.iload 6, 2) := by decide +kernel
theorem dX5_level_89 : decode cX5_level 89 = .ok (.bipush 11, 2) := by decide +kernel
theorem dX5_level_91 : decode cX5_level 91 = .ok (.if_icmp .ge 43, 3) := by decide +kernel
theorem dX5_level_94 : decode cX5_level 94 = .ok (.iconst 0, 1) := by decide +kernel
theorem dX5_level_95 : decode cX5_level 95 = .ok (.istore 7, 2) := by decide +kernel
theorem dX5_level_97 : decode cX5_level 97 = .ok (.iload 7, 2) := by decide +kernel
theorem dX5_level_99 : decode cX5_level 99 = .ok (.iconst 3, 1) := by decide +kernel
theorem dX5_level_100 : decode cX5_level 100 = .ok (.if_icmp .ge 28, 3) := by decide +kernel
theorem dX5_level_103 : decode cX5_level 103 = .ok (.lload 4, 2) := by decide +kernel
theorem dX5_level_105 : decode cX5_level 105 = .ok (.aload_n 0, 1) := by decide +kernel
theorem dX5_level_106 : decode cX5_level 106 = .ok (.getfield 28, 3) := by decide +kernel
theorem dX5_level_109 : decode cX5_level 109 = .ok (.iload 6, 2) := by decide +kernel
theorem dX5_level_111 : decode cX5_level 111 = .ok (.iload 6, 2) := by decide +kernel
theorem dX5_level_113 : decode cX5_level 113 = .ok (.iload 7, 2) := by decide +kernel
theorem dX5_level_115 : decode cX5_level 115 = .ok (.invokestatic 99, 3) := by decide +kernel
theorem dX5_level_118 : decode cX5_level 118 = .ok (.laload, 1) := by decide +kernel
theorem dX5_level_119 : decode cX5_level 119 = .ok (.ladd, 1) := by decide +kernel
theorem dX5_level_120 : decode cX5_level 120 = .ok (.lstore 4, 2) := by decide +kernel
theorem dX5_level_122 : decode cX5_level 122 = .ok (.iinc 7 1, 3) := by decide +kernel
theorem dX5_level_125 : decode cX5_level 125 = .ok (.goto (-28), 3) := by decide +kernel
theorem dX5_level_128 : decode cX5_level 128 = .ok (.iinc 6 1, 3) := by decide +kernel
theorem dX5_level_131 : decode cX5_level 131 = .ok (.goto (-44), 3) := by decide +kernel
theorem dX5_level_134 : decode cX5_level 134 = .ok (.lload 4, 2) := by decide +kernel
theorem dX5_level_136 : decode cX5_level 136 = .ok (.lload_n 2, 1) := by decide +kernel
theorem dX5_level_137 : decode cX5_level 137 = .ok (.invokestatic 134, 3) := by decide +kernel
theorem dX5_level_140 : decode cX5_level 140 = .ok (.ireturn, 1) := by decide +kernel
theorem dX5_reachesFrom_0 : decode cX5_reachesFrom 0 = .ok (.aload_n 0, 1) := by decide +kernel
theorem dX5_reachesFrom_1 : decode cX5_reachesFrom 1 = .ok (.iload_n 1, 1) := by decide +kernel
theorem dX5_reachesFrom_2 : decode cX5_reachesFrom 2 = .ok (.iload_n 2, 1) := by decide +kernel
theorem dX5_reachesFrom_3 : decode cX5_reachesFrom 3 = .ok (.aload_n 0, 1) := by decide +kernel
theorem dX5_reachesFrom_4 : decode cX5_reachesFrom 4 = .ok (.getfield 16, 3) := by decide +kernel
theorem dX5_reachesFrom_7 : decode cX5_reachesFrom 7 = .ok (.iconst 3, 1) := by decide +kernel
theorem dX5_reachesFrom_8 : decode cX5_reachesFrom 8 = .ok (.iaload, 1) := by decide +kernel
theorem dX5_reachesFrom_9 : decode cX5_reachesFrom 9 = .ok (.aload_n 0, 1) := by decide +kernel
theorem dX5_reachesFrom_10 : decode cX5_reachesFrom 10 = .ok (.getfield 16, 3) := by decide +kernel
theorem dX5_reachesFrom_13 : decode cX5_reachesFrom 13 = .ok (.iconst 4, 1) := by decide +kernel
theorem dX5_reachesFrom_14 : decode cX5_reachesFrom 14 = .ok (.iaload, 1) := by decide +kernel
theorem dX5_reachesFrom_15 : decode cX5_reachesFrom 15 = .ok (.iconst 0, 1) := by decide +kernel
theorem dX5_reachesFrom_16 : decode cX5_reachesFrom 16 = .ok (.invokevirtual 121, 3) := by decide +kernel
theorem dX5_reachesFrom_19 : decode cX5_reachesFrom 19 = .ok (.aload_n 0, 1) := by decide +kernel
theorem dX5_reachesFrom_20 : decode cX5_reachesFrom 20 = .ok (.invokevirtual 144, 3) := by decide +kernel
theorem dX5_reachesFrom_23 : decode cX5_reachesFrom 23 = .ok (.lreturn, 1) := by decide +kernel
theorem dX5_worth_0 : decode cX5_worth 0 = .ok (.iload_n 1, 1) := by decide +kernel
theorem dX5_worth_1 : decode cX5_worth 1 = .ok (.iconst 0, 1) := by decide +kernel
theorem dX5_worth_2 : decode cX5_worth 2 = .ok (.iconst 1, 1) := by decide +kernel
theorem dX5_worth_3 : decode cX5_worth 3 = .ok (.invokestatic 47, 3) := by decide +kernel
theorem dX5_worth_6 : decode cX5_worth 6 = .ok (.ifCond .ne 5, 3) := by decide +kernel
theorem dX5_worth_9 : decode cX5_worth 9 = .ok (.iconst (-1), 1) := by decide +kernel
theorem dX5_worth_10 : decode cX5_worth 10 = .ok (.ireturn, 1) := by decide +kernel
theorem dX5_worth_11 : decode cX5_worth 11 = .ok (.aload_n 0, 1) := by decide +kernel
theorem dX5_worth_12 : decode cX5_worth 12 = .ok (.getfield 16, 3) := by decide +kernel
theorem dX5_worth_15 : decode cX5_worth 15 = .ok (.iload_n 1, 1) := by decide +kernel
theorem dX5_worth_16 : decode cX5_worth 16 = .ok (.iaload, 1) := by decide +kernel
theorem dX5_worth_17 : decode cX5_worth 17 = .ok (.bipush 10, 2) := by decide +kernel
theorem dX5_worth_19 : decode cX5_worth 19 = .ok (.if_icmp .ne 6, 3) := by decide +kernel
theorem dX5_worth_22 : decode cX5_worth 22 = .ok (.bipush (-3), 2) := by decide +kernel
theorem dX5_worth_24 : decode cX5_worth 24 = .ok (.ireturn, 1) := by decide +kernel
theorem dX5_worth_25 : decode cX5_worth 25 = .ok (.iload_n 1, 1) := by decide +kernel
theorem dX5_worth_26 : decode cX5_worth 26 = .ok (.ifCond .ne 24, 3) := by decide +kernel
theorem dX5_worth_29 : decode cX5_worth 29 = .ok (.aload_n 0, 1) := by decide +kernel
theorem dX5_worth_30 : decode cX5_worth 30 = .ok (.aload_n 0, 1) := by decide +kernel
theorem dX5_worth_31 : decode cX5_worth 31 = .ok (.getfield 16, 3) := by decide +kernel
theorem dX5_worth_34 : decode cX5_worth 34 = .ok (.iconst 0, 1) := by decide +kernel
theorem dX5_worth_35 : decode cX5_worth 35 = .ok (.iaload, 1) := by decide +kernel
theorem dX5_worth_36 : decode cX5_worth 36 = .ok (.iconst 1, 1) := by decide +kernel
theorem dX5_worth_37 : decode cX5_worth 37 = .ok (.iadd, 1) := by decide +kernel
theorem dX5_worth_38 : decode cX5_worth 38 = .ok (.aload_n 0, 1) := by decide +kernel
theorem dX5_worth_39 : decode cX5_worth 39 = .ok (.getfield 16, 3) := by decide +kernel
theorem dX5_worth_42 : decode cX5_worth 42 = .ok (.iconst 1, 1) := by decide +kernel
theorem dX5_worth_43 : decode cX5_worth 43 = .ok (.iaload, 1) := by decide +kernel
theorem dX5_worth_44 : decode cX5_worth 44 = .ok (.invokevirtual 148, 3) := by decide +kernel
theorem dX5_worth_47 : decode cX5_worth 47 = .ok (.goto 21, 3) := by decide +kernel
theorem dX5_worth_50 : decode cX5_worth 50 = .ok (.aload_n 0, 1) := by decide +kernel
theorem dX5_worth_51 : decode cX5_worth 51 = .ok (.aload_n 0, 1) := by decide +kernel
theorem dX5_worth_52 : decode cX5_worth 52 = .ok (.getfield 16, 3) := by decide +kernel
theorem dX5_worth_55 : decode cX5_worth 55 = .ok (.iconst 0, 1) := by decide +kernel
theorem dX5_worth_56 : decode cX5_worth 56 = .ok (.iaload, 1) := by decide +kernel
theorem dX5_worth_57 : decode cX5_worth 57 = .ok (.aload_n 0, 1) := by decide +kernel
theorem dX5_worth_58 : decode cX5_worth 58 = .ok (.getfield 16, 3) := by decide +kernel
theorem dX5_worth_61 : decode cX5_worth 61 = .ok (.iconst 1, 1) := by decide +kernel
theorem dX5_worth_62 : decode cX5_worth 62 = .ok (.iaload, 1) := by decide +kernel
theorem dX5_worth_63 : decode cX5_worth 63 = .ok (.iconst 1, 1) := by decide +kernel
theorem dX5_worth_64 : decode cX5_worth 64 = .ok (.iadd, 1) := by decide +kernel
theorem dX5_worth_65 : decode cX5_worth 65 = .ok (.invokevirtual 148, 3) := by decide +kernel
theorem dX5_worth_68 : decode cX5_worth 68 = .ok (.lstore_n 2, 1) := by decide +kernel
theorem dX5_worth_69 : decode cX5_worth 69 = .ok (.ldc2_w 138, 3) := by decide +kernel
theorem dX5_worth_72 : decode cX5_worth 72 = .ok (.lload_n 2, 1) := by decide +kernel
theorem dX5_worth_73 : decode cX5_worth 73 = .ok (.aload_n 0, 1) := by decide +kernel
theorem dX5_worth_74 : decode cX5_worth 74 = .ok (.aload_n 0, 1) := by decide +kernel
theorem dX5_worth_75 : decode cX5_worth 75 = .ok (.getfield 16, 3) := by decide +kernel
theorem dX5_worth_78 : decode cX5_worth 78 = .ok (.iconst 0, 1) := by decide +kernel
theorem dX5_worth_79 : decode cX5_worth 79 = .ok (.iaload, 1) := by decide +kernel
theorem dX5_worth_80 : decode cX5_worth 80 = .ok (.aload_n 0, 1) := by decide +kernel
theorem dX5_worth_81 : decode cX5_worth 81 = .ok (.getfield 16, 3) := by decide +kernel
theorem dX5_worth_84 : decode cX5_worth 84 = .ok (.iconst 1, 1) := by decide +kernel
theorem dX5_worth_85 : decode cX5_worth 85 = .ok (.iaload, 1) := by decide +kernel
theorem dX5_worth_86 : decode cX5_worth 86 = .ok (.invokevirtual 148, 3) := by decide +kernel
theorem dX5_worth_89 : decode cX5_worth 89 = .ok (.lsub, 1) := by decide +kernel
theorem dX5_worth_90 : decode cX5_worth 90 = .ok (.lmul, 1) := by decide +kernel
theorem dX5_worth_91 : decode cX5_worth 91 = .ok (.ldc2_w 109, 3) := by decide +kernel
theorem dX5_worth_94 : decode cX5_worth 94 = .ok (.ldiv, 1) := by decide +kernel
theorem dX5_worth_95 : decode cX5_worth 95 = .ok (.l2i, 1) := by decide +kernel
theorem dX5_worth_96 : decode cX5_worth 96 = .ok (.sipush 10000, 3) := by decide +kernel
theorem dX5_worth_99 : decode cX5_worth 99 = .ok (.iadd, 1) := by decide +kernel
theorem dX5_worth_100 : decode cX5_worth 100 = .ok (.ireturn, 1) := by decide +kernel
theorem dX5_begin_0 : decode cX5_begin 0 = .ok (.iload_n 1, 1) := by decide +kernel
theorem dX5_begin_1 : decode cX5_begin 1 = .ok (.iconst 0, 1) := by decide +kernel
theorem dX5_begin_2 : decode cX5_begin 2 = .ok (.bipush 20, 2) := by decide +kernel
theorem dX5_begin_4 : decode cX5_begin 4 = .ok (.invokestatic 47, 3) := by decide +kernel
theorem dX5_begin_7 : decode cX5_begin 7 = .ok (.ifCond .eq 22, 3) := by decide +kernel
theorem dX5_begin_10 : decode cX5_begin 10 = .ok (.iload_n 2, 1) := by decide +kernel
theorem dX5_begin_11 : decode cX5_begin 11 = .ok (.iconst 0, 1) := by decide +kernel
theorem dX5_begin_12 : decode cX5_begin 12 = .ok (.bipush 21, 2) := by decide +kernel
theorem dX5_begin_14 : decode cX5_begin 14 = .ok (.invokestatic 47, 3) := by decide +kernel
theorem dX5_begin_17 : decode cX5_begin 17 = .ok (.ifCond .eq 12, 3) := by decide +kernel
theorem dX5_begin_20 : decode cX5_begin 20 = .ok (.iload_n 3, 1) := by decide +kernel
theorem dX5_begin_21 : decode cX5_begin 21 = .ok (.iconst 0, 1) := by decide +kernel
theorem dX5_begin_22 : decode cX5_begin 22 = .ok (.iconst 1, 1) := by decide +kernel
theorem dX5_begin_23 : decode cX5_begin 23 = .ok (.invokestatic 47, 3) := by decide +kernel
theorem dX5_begin_26 : decode cX5_begin 26 = .ok (.ifCond .ne 5, 3) := by decide +kernel
theorem dX5_begin_29 : decode cX5_begin 29 = .ok (.iconst (-1), 1) := by decide +kernel
theorem dX5_begin_30 : decode cX5_begin 30 = .ok (.ireturn, 1) := by decide +kernel
theorem dX5_begin_31 : decode cX5_begin 31 = .ok (.bipush (-4), 2) := by decide +kernel
theorem dX5_begin_33 : decode cX5_begin 33 = .ok (.istore 4, 2) := by decide +kernel
theorem dX5_begin_35 : decode cX5_begin 35 = .ok (.lconst 0, 1) := by decide +kernel
theorem dX5_begin_36 : decode cX5_begin 36 = .ok (.lstore 5, 2) := by decide +kernel
theorem dX5_begin_38 : decode cX5_begin 38 = .ok (.iconst 0, 1) := by decide +kernel
theorem dX5_begin_39 : decode cX5_begin 39 = .ok (.istore 7, 2) := by decide +kernel
theorem dX5_begin_41 : decode cX5_begin 41 = .ok (.iload 7, 2) := by decide +kernel
theorem dX5_begin_43 : decode cX5_begin 43 = .ok (.bipush 10, 2) := by decide +kernel
theorem dX5_begin_45 : decode cX5_begin 45 = .ok (.if_icmp .gt 101, 3) := by decide +kernel
theorem dX5_begin_48 : decode cX5_begin 48 = .ok (.iload_n 1, 1) := by decide +kernel
theorem dX5_begin_49 : decode cX5_begin 49 = .ok (.iload 7, 2) := by decide +kernel
theorem dX5_begin_51 : decode cX5_begin 51 = .ok (.isub, 1) := by decide +kernel
theorem dX5_begin_52 : decode cX5_begin 52 = .ok (.iconst 0, 1) := by decide +kernel
theorem dX5_begin_53 : decode cX5_begin 53 = .ok (.bipush 10, 2) := by decide +kernel
theorem dX5_begin_55 : decode cX5_begin 55 = .ok (.invokestatic 47, 3) := by decide +kernel
theorem dX5_begin_58 : decode cX5_begin 58 = .ok (.ifCond .eq 82, 3) := by decide +kernel
theorem dX5_begin_61 : decode cX5_begin 61 = .ok (.aload_n 0, 1) := by decide +kernel
theorem dX5_begin_62 : decode cX5_begin 62 = .ok (.iload 7, 2) := by decide +kernel
theorem dX5_begin_64 : decode cX5_begin 64 = .ok (.iload_n 1, 1) := by decide +kernel
theorem dX5_begin_65 : decode cX5_begin 65 = .ok (.iload 7, 2) := by decide +kernel
theorem dX5_begin_67 : decode cX5_begin 67 = .ok (.isub, 1) := by decide +kernel
theorem dX5_begin_68 : decode cX5_begin 68 = .ok (.aload_n 0, 1) := by decide +kernel
theorem dX5_begin_69 : decode cX5_begin 69 = .ok (.getfield 16, 3) := by decide +kernel
theorem dX5_begin_72 : decode cX5_begin 72 = .ok (.iconst 3, 1) := by decide +kernel
theorem dX5_begin_73 : decode cX5_begin 73 = .ok (.iaload, 1) := by decide +kernel
theorem dX5_begin_74 : decode cX5_begin 74 = .ok (.aload_n 0, 1) := by decide +kernel
theorem dX5_begin_75 : decode cX5_begin 75 = .ok (.getfield 16, 3) := by decide +kernel
theorem dX5_begin_78 : decode cX5_begin 78 = .ok (.iconst 4, 1) := by decide +kernel
theorem dX5_begin_79 : decode cX5_begin 79 = .ok (.iaload, 1) := by decide +kernel
theorem dX5_begin_80 : decode cX5_begin 80 = .ok (.iconst 0, 1) := by decide +kernel
theorem dX5_begin_81 : decode cX5_begin 81 = .ok (.invokevirtual 121, 3) := by decide +kernel
theorem dX5_begin_84 : decode cX5_begin 84 = .ok (.iload 4, 2) := by decide +kernel
theorem dX5_begin_86 : decode cX5_begin 86 = .ok (.bipush (-4), 2) := by decide +kernel
theorem dX5_begin_88 : decode cX5_begin 88 = .ok (.if_icmp .eq 14, 3) := by decide +kernel
theorem dX5_begin_91 : decode cX5_begin 91 = .ok (.aload_n 0, 1) := by decide +kernel
theorem dX5_begin_92 : decode cX5_begin 92 = .ok (.iload_n 2, 1) := by decide +kernel
theorem dX5_begin_93 : decode cX5_begin 93 = .ok (.invokevirtual 140, 3) := by decide +kernel
theorem dX5_begin_96 : decode cX5_begin 96 = .ok (.lload 5, 2) := by decide +kernel
theorem dX5_begin_98 : decode cX5_begin 98 = .ok (.lcmp, 1) := by decide +kernel
theorem dX5_begin_99 : decode cX5_begin 99 = .ok (.ifCond .ge 7, 3) := by decide +kernel
theorem dX5_begin_102 : decode cX5_begin 102 = .ok (.iconst 1, 1) := by decide +kernel
theorem dX5_begin_103 : decode cX5_begin 103 = .ok (.goto 4, 3) := by decide +kernel
theorem dX5_begin_106 : decode cX5_begin 106 = .ok (.iconst 0, 1) := by decide +kernel
theorem dX5_begin_107 : decode cX5_begin 107 = .ok (.istore 8, 2) := by decide +kernel
theorem dX5_begin_109 : decode cX5_begin 109 = .ok (.iload 8, 2) := by decide +kernel
theorem dX5_begin_111 : decode cX5_begin 111 = .ok (.ifCond .eq 8, 3) := by decide +kernel
theorem dX5_begin_114 : decode cX5_begin 114 = .ok (.iload 7, 2) := by decide +kernel
theorem dX5_begin_116 : decode cX5_begin 116 = .ok (.goto 5, 3) := by decide +kernel
theorem dX5_begin_119 : decode cX5_begin 119 = .ok (.iload 4, 2) := by decide +kernel
theorem dX5_begin_121 : decode cX5_begin 121 = .ok (.istore 4, 2) := by decide +kernel
theorem dX5_begin_123 : decode cX5_begin 123 = .ok (.iload 8, 2) := by decide +kernel
theorem dX5_begin_125 : decode cX5_begin 125 = .ok (.ifCond .eq 11, 3) := by decide +kernel
theorem dX5_begin_128 : decode cX5_begin 128 = .ok (.aload_n 0, 1) := by decide +kernel
theorem dX5_begin_129 : decode cX5_begin 129 = .ok (.iload_n 2, 1) := by decide +kernel
theorem dX5_begin_130 : decode cX5_begin 130 = .ok (.invokevirtual 140, 3) := by decide +kernel
theorem dX5_begin_133 : decode cX5_begin 133 = .ok (.goto 5, 3) := by decide +kernel
theorem dX5_begin_136 : decode cX5_begin 136 = .ok (.lload 5, 2) := by decide +kernel
theorem dX5_begin_138 : decode cX5_begin 138 = .ok (.lstore 5, 2) := by decide +kernel
theorem dX5_begin_140 : decode cX5_begin 140 = .ok (.iinc 7 1, 3) := by decide +kernel
theorem dX5_begin_143 : decode cX5_begin 143 = .ok (.goto (-102), 3) := by decide +kernel
theorem dX5_begin_146 : decode cX5_begin 146 = .ok (.iload_n 3, 1) := by decide +kernel
theorem dX5_begin_147 : decode cX5_begin 147 = .ok (.ifCond .ne 8, 3) := by decide +kernel
theorem dX5_begin_150 : decode cX5_begin 150 = .ok (.iload 4, 2) := by decide +kernel
theorem dX5_begin_152 : decode cX5_begin 152 = .ok (.goto 15, 3) := by decide +kernel
theorem dX5_begin_155 : decode cX5_begin 155 = .ok (.ldc2_w 109, 3) := by decide +kernel
theorem dX5_begin_158 : decode cX5_begin 158 = .ok (.lload 5, 2) := by decide +kernel
theorem dX5_begin_160 : decode cX5_begin 160 = .ok (.lsub, 1) := by decide +kernel
theorem dX5_begin_161 : decode cX5_begin 161 = .ok (.ldc2_w 109, 3) := by decide +kernel
theorem dX5_begin_164 : decode cX5_begin 164 = .ok (.invokestatic 134, 3) := by decide +kernel
theorem dX5_begin_167 : decode cX5_begin 167 = .ok (.ireturn, 1) := by decide +kernel
theorem dX5_over_0 : decode cX5_over 0 = .ok (.iload_n 1, 1) := by decide +kernel
theorem dX5_over_1 : decode cX5_over 1 = .ok (.iconst 0, 1) := by decide +kernel
theorem dX5_over_2 : decode cX5_over 2 = .ok (.iconst 1, 1) := by decide +kernel
theorem dX5_over_3 : decode cX5_over 3 = .ok (.invokestatic 47, 3) := by decide +kernel
theorem dX5_over_6 : decode cX5_over 6 = .ok (.ifCond .ne 5, 3) := by decide +kernel
theorem dX5_over_9 : decode cX5_over 9 = .ok (.iconst (-1), 1) := by decide +kernel
theorem dX5_over_10 : decode cX5_over 10 = .ok (.ireturn, 1) := by decide +kernel
theorem dX5_over_11 : decode cX5_over 11 = .ok (.iconst 0, 1) := by decide +kernel
theorem dX5_over_12 : decode cX5_over 12 = .ok (.istore_n 2, 1) := by decide +kernel
theorem dX5_over_13 : decode cX5_over 13 = .ok (.aload_n 0, 1) := by decide +kernel
theorem dX5_over_14 : decode cX5_over 14 = .ok (.aload_n 0, 1) := by decide +kernel
theorem dX5_over_15 : decode cX5_over 15 = .ok (.getfield 16, 3) := by decide +kernel
theorem dX5_over_18 : decode cX5_over 18 = .ok (.iconst 0, 1) := by decide +kernel
theorem dX5_over_19 : decode cX5_over 19 = .ok (.iaload, 1) := by decide +kernel
theorem dX5_over_20 : decode cX5_over 20 = .ok (.aload_n 0, 1) := by decide +kernel
theorem dX5_over_21 : decode cX5_over 21 = .ok (.getfield 16, 3) := by decide +kernel
theorem dX5_over_24 : decode cX5_over 24 = .ok (.iconst 1, 1) := by decide +kernel
theorem dX5_over_25 : decode cX5_over 25 = .ok (.iaload, 1) := by decide +kernel
theorem dX5_over_26 : decode cX5_over 26 = .ok (.invokevirtual 148, 3) := by decide +kernel
theorem dX5_over_29 : decode cX5_over 29 = .ok (.lstore_n 3, 1) := by decide +kernel
theorem dX5_over_30 : decode cX5_over 30 = .ok (.iconst 1, 1) := by decide +kernel
theorem dX5_over_31 : decode cX5_over 31 = .ok (.istore 5, 2) := by decide +kernel
theorem dX5_over_33 : decode cX5_over 33 = .ok (.iload 5, 2) := by decide +kernel
theorem dX5_over_35 : decode cX5_over 35 = .ok (.bipush 10, 2) := by decide +kernel
theorem dX5_over_37 : decode cX5_over 37 = .ok (.if_icmp .gt 127, 3) := by decide +kernel
theorem dX5_over_40 : decode cX5_over 40 = .ok (.iconst 0, 1) := by decide +kernel
theorem dX5_over_41 : decode cX5_over 41 = .ok (.istore 6, 2) := by decide +kernel
theorem dX5_over_43 : decode cX5_over 43 = .ok (.iload 6, 2) := by decide +kernel
theorem dX5_over_45 : decode cX5_over 45 = .ok (.iconst 2, 1) := by decide +kernel
theorem dX5_over_46 : decode cX5_over 46 = .ok (.if_icmp .ge 112, 3) := by decide +kernel
theorem dX5_over_49 : decode cX5_over 49 = .ok (.iload 6, 2) := by decide +kernel
theorem dX5_over_51 : decode cX5_over 51 = .ok (.ifCond .ne 8, 3) := by decide +kernel
theorem dX5_over_54 : decode cX5_over 54 = .ok (.iload 5, 2) := by decide +kernel
theorem dX5_over_56 : decode cX5_over 56 = .ok (.goto 6, 3) := by decide +kernel
theorem dX5_over_59 : decode cX5_over 59 = .ok (.iload 5, 2) := by decide +kernel
theorem dX5_over_61 : decode cX5_over 61 = .ok (.ineg, 1) := by decide +kernel
theorem dX5_over_62 : decode cX5_over 62 = .ok (.istore 7, 2) := by decide +kernel
theorem dX5_over_64 : decode cX5_over 64 = .ok (.aload_n 0, 1) := by decide +kernel
theorem dX5_over_65 : decode cX5_over 65 = .ok (.getfield 16, 3) := by decide +kernel
theorem dX5_over_68 : decode cX5_over 68 = .ok (.iconst 0, 1) := by decide +kernel
theorem dX5_over_69 : decode cX5_over 69 = .ok (.iaload, 1) := by decide +kernel
theorem dX5_over_70 : decode cX5_over 70 = .ok (.iload 7, 2) := by decide +kernel
theorem dX5_over_72 : decode cX5_over 72 = .ok (.isub, 1) := by decide +kernel
theorem dX5_over_73 : decode cX5_over 73 = .ok (.iconst 0, 1) := by decide +kernel
theorem dX5_over_74 : decode cX5_over 74 = .ok (.bipush 10, 2) := by decide +kernel
theorem dX5_over_76 : decode cX5_over 76 = .ok (.invokestatic 47, 3) := by decide +kernel
theorem dX5_over_79 : decode cX5_over 79 = .ok (.ifCond .eq 73, 3) := by decide +kernel
theorem dX5_over_82 : decode cX5_over 82 = .ok (.aload_n 0, 1) := by decide +kernel
theorem dX5_over_83 : decode cX5_over 83 = .ok (.getfield 16, 3) := by decide +kernel
theorem dX5_over_86 : decode cX5_over 86 = .ok (.iconst 1, 1) := by decide +kernel
theorem dX5_over_87 : decode cX5_over 87 = .ok (.iaload, 1) := by decide +kernel
theorem dX5_over_88 : decode cX5_over 88 = .ok (.iload 7, 2) := by decide +kernel
theorem dX5_over_90 : decode cX5_over 90 = .ok (.iadd, 1) := by decide +kernel
theorem dX5_over_91 : decode cX5_over 91 = .ok (.iconst 0, 1) := by decide +kernel
theorem dX5_over_92 : decode cX5_over 92 = .ok (.bipush 10, 2) := by decide +kernel
theorem dX5_over_94 : decode cX5_over 94 = .ok (.invokestatic 47, 3) := by decide +kernel
theorem dX5_over_97 : decode cX5_over 97 = .ok (.ifCond .eq 55, 3) := by decide +kernel
theorem dX5_over_100 : decode cX5_over 100 = .ok (.aload_n 0, 1) := by decide +kernel
theorem dX5_over_101 : decode cX5_over 101 = .ok (.aload_n 0, 1) := by decide +kernel
theorem dX5_over_102 : decode cX5_over 102 = .ok (.getfield 16, 3) := by decide +kernel
theorem dX5_over_105 : decode cX5_over 105 = .ok (.iconst 0, 1) := by decide +kernel
theorem dX5_over_106 : decode cX5_over 106 = .ok (.iaload, 1) := by decide +kernel
theorem dX5_over_107 : decode cX5_over 107 = .ok (.iload 7, 2) := by decide +kernel
theorem dX5_over_109 : decode cX5_over 109 = .ok (.isub, 1) := by decide +kernel
theorem dX5_over_110 : decode cX5_over 110 = .ok (.aload_n 0, 1) := by decide +kernel
theorem dX5_over_111 : decode cX5_over 111 = .ok (.getfield 16, 3) := by decide +kernel
theorem dX5_over_114 : decode cX5_over 114 = .ok (.iconst 1, 1) := by decide +kernel
theorem dX5_over_115 : decode cX5_over 115 = .ok (.iaload, 1) := by decide +kernel
theorem dX5_over_116 : decode cX5_over 116 = .ok (.iload 7, 2) := by decide +kernel
theorem dX5_over_118 : decode cX5_over 118 = .ok (.iadd, 1) := by decide +kernel
theorem dX5_over_119 : decode cX5_over 119 = .ok (.invokevirtual 148, 3) := by decide +kernel
theorem dX5_over_122 : decode cX5_over 122 = .ok (.lstore 8, 2) := by decide +kernel
theorem dX5_over_124 : decode cX5_over 124 = .ok (.lload 8, 2) := by decide +kernel
theorem dX5_over_126 : decode cX5_over 126 = .ok (.lload_n 3, 1) := by decide +kernel
theorem dX5_over_127 : decode cX5_over 127 = .ok (.lcmp, 1) := by decide +kernel
theorem dX5_over_128 : decode cX5_over 128 = .ok (.ifCond .le 8, 3) := by decide +kernel
theorem dX5_over_131 : decode cX5_over 131 = .ok (.iload 7, 2) := by decide +kernel
theorem dX5_over_133 : decode cX5_over 133 = .ok (.goto 4, 3) := by decide +kernel
theorem dX5_over_136 : decode cX5_over 136 = .ok (.iload_n 2, 1) := by decide +kernel
theorem dX5_over_137 : decode cX5_over 137 = .ok (.istore_n 2, 1) := by decide +kernel
theorem dX5_over_138 : decode cX5_over 138 = .ok (.lload 8, 2) := by decide +kernel
theorem dX5_over_140 : decode cX5_over 140 = .ok (.lload_n 3, 1) := by decide +kernel
theorem dX5_over_141 : decode cX5_over 141 = .ok (.lcmp, 1) := by decide +kernel
theorem dX5_over_142 : decode cX5_over 142 = .ok (.ifCond .le 8, 3) := by decide +kernel
theorem dX5_over_145 : decode cX5_over 145 = .ok (.lload 8, 2) := by decide +kernel
theorem dX5_over_147 : decode cX5_over 147 = .ok (.goto 4, 3) := by decide +kernel
theorem dX5_over_150 : decode cX5_over 150 = .ok (.lload_n 3, 1) := by decide +kernel
theorem dX5_over_151 : decode cX5_over 151 = .ok (.lstore_n 3, 1) := by decide +kernel
theorem dX5_over_152 : decode cX5_over 152 = .ok (.iinc 6 1, 3) := by decide +kernel
theorem dX5_over_155 : decode cX5_over 155 = .ok (.goto (-112), 3) := by decide +kernel
theorem dX5_over_158 : decode cX5_over 158 = .ok (.iinc 5 1, 3) := by decide +kernel
theorem dX5_over_161 : decode cX5_over 161 = .ok (.goto (-128), 3) := by decide +kernel
theorem dX5_over_164 : decode cX5_over 164 = .ok (.iload_n 1, 1) := by decide +kernel
theorem dX5_over_165 : decode cX5_over 165 = .ok (.ifCond .ne 10, 3) := by decide +kernel
theorem dX5_over_168 : decode cX5_over 168 = .ok (.iload_n 2, 1) := by decide +kernel
theorem dX5_over_169 : decode cX5_over 169 = .ok (.bipush 10, 2) := by decide +kernel
theorem dX5_over_171 : decode cX5_over 171 = .ok (.iadd, 1) := by decide +kernel
theorem dX5_over_172 : decode cX5_over 172 = .ok (.goto 13, 3) := by decide +kernel
theorem dX5_over_175 : decode cX5_over 175 = .ok (.ldc2_w 138, 3) := by decide +kernel
theorem dX5_over_178 : decode cX5_over 178 = .ok (.lload_n 3, 1) := by decide +kernel
theorem dX5_over_179 : decode cX5_over 179 = .ok (.lmul, 1) := by decide +kernel
theorem dX5_over_180 : decode cX5_over 180 = .ok (.ldc2_w 109, 3) := by decide +kernel
theorem dX5_over_183 : decode cX5_over 183 = .ok (.ldiv, 1) := by decide +kernel
theorem dX5_over_184 : decode cX5_over 184 = .ok (.l2i, 1) := by decide +kernel
theorem dX5_over_185 : decode cX5_over 185 = .ok (.ireturn, 1) := by decide +kernel
theorem dX5_seen_0 : decode cX5_seen 0 = .ok (.iload_n 1, 1) := by decide +kernel
theorem dX5_seen_1 : decode cX5_seen 1 = .ok (.iconst 0, 1) := by decide +kernel
theorem dX5_seen_2 : decode cX5_seen 2 = .ok (.bipush 10, 2) := by decide +kernel
theorem dX5_seen_4 : decode cX5_seen 4 = .ok (.invokestatic 47, 3) := by decide +kernel
theorem dX5_seen_7 : decode cX5_seen 7 = .ok (.ifCond .eq 13, 3) := by decide +kernel
theorem dX5_seen_10 : decode cX5_seen 10 = .ok (.iload_n 2, 1) := by decide +kernel
theorem dX5_seen_11 : decode cX5_seen 11 = .ok (.iconst 0, 1) := by decide +kernel
theorem dX5_seen_12 : decode cX5_seen 12 = .ok (.bipush 10, 2) := by decide +kernel
theorem dX5_seen_14 : decode cX5_seen 14 = .ok (.invokestatic 47, 3) := by decide +kernel
theorem dX5_seen_17 : decode cX5_seen 17 = .ok (.ifCond .ne 5, 3) := by decide +kernel
theorem dX5_seen_20 : decode cX5_seen 20 = .ok (.iconst (-1), 1) := by decide +kernel
theorem dX5_seen_21 : decode cX5_seen 21 = .ok (.ireturn, 1) := by decide +kernel
theorem dX5_seen_22 : decode cX5_seen 22 = .ok (.aload_n 0, 1) := by decide +kernel
theorem dX5_seen_23 : decode cX5_seen 23 = .ok (.getfield 89, 3) := by decide +kernel
theorem dX5_seen_26 : decode cX5_seen 26 = .ok (.bipush 6, 2) := by decide +kernel
theorem dX5_seen_28 : decode cX5_seen 28 = .ok (.if_icmp .ne 6, 3) := by decide +kernel
theorem dX5_seen_31 : decode cX5_seen 31 = .ok (.bipush (-3), 2) := by decide +kernel
theorem dX5_seen_33 : decode cX5_seen 33 = .ok (.ireturn, 1) := by decide +kernel
theorem dX5_seen_34 : decode cX5_seen 34 = .ok (.aload_n 0, 1) := by decide +kernel
theorem dX5_seen_35 : decode cX5_seen 35 = .ok (.getfield 25, 3) := by decide +kernel
theorem dX5_seen_38 : decode cX5_seen 38 = .ok (.aload_n 0, 1) := by decide +kernel
theorem dX5_seen_39 : decode cX5_seen 39 = .ok (.getfield 89, 3) := by decide +kernel
theorem dX5_seen_42 : decode cX5_seen 42 = .ok (.bipush 11, 2) := by decide +kernel
theorem dX5_seen_44 : decode cX5_seen 44 = .ok (.iload_n 1, 1) := by decide +kernel
theorem dX5_seen_45 : decode cX5_seen 45 = .ok (.imul, 1) := by decide +kernel
theorem dX5_seen_46 : decode cX5_seen 46 = .ok (.iload_n 2, 1) := by decide +kernel
theorem dX5_seen_47 : decode cX5_seen 47 = .ok (.iadd, 1) := by decide +kernel
theorem dX5_seen_48 : decode cX5_seen 48 = .ok (.iastore, 1) := by decide +kernel
theorem dX5_seen_49 : decode cX5_seen 49 = .ok (.aload_n 0, 1) := by decide +kernel
theorem dX5_seen_50 : decode cX5_seen 50 = .ok (.dup, 1) := by decide +kernel
theorem dX5_seen_51 : decode cX5_seen 51 = .ok (.getfield 89, 3) := by decide +kernel
theorem dX5_seen_54 : decode cX5_seen 54 = .ok (.iconst 1, 1) := by decide +kernel
theorem dX5_seen_55 : decode cX5_seen 55 = .ok (.iadd, 1) := by decide +kernel
theorem dX5_seen_56 : decode cX5_seen 56 = .ok (.putfield 89, 3) := by decide +kernel
theorem dX5_seen_59 : decode cX5_seen 59 = .ok (.aload_n 0, 1) := by decide +kernel
theorem dX5_seen_60 : decode cX5_seen 60 = .ok (.getfield 89, 3) := by decide +kernel
theorem dX5_seen_63 : decode cX5_seen 63 = .ok (.ireturn, 1) := by decide +kernel
theorem dX5_forget_0 : decode cX5_forget 0 = .ok (.aload_n 0, 1) := by decide +kernel
theorem dX5_forget_1 : decode cX5_forget 1 = .ok (.getfield 89, 3) := by decide +kernel
theorem dX5_forget_4 : decode cX5_forget 4 = .ok (.istore_n 1, 1) := by decide +kernel
theorem dX5_forget_5 : decode cX5_forget 5 = .ok (.aload_n 0, 1) := by decide +kernel
theorem dX5_forget_6 : decode cX5_forget 6 = .ok (.iconst 0, 1) := by decide +kernel
theorem dX5_forget_7 : decode cX5_forget 7 = .ok (.putfield 89, 3) := by decide +kernel
theorem dX5_forget_10 : decode cX5_forget 10 = .ok (.iload_n 1, 1) := by decide +kernel
theorem dX5_forget_11 : decode cX5_forget 11 = .ok (.ireturn, 1) := by decide +kernel
theorem dX5_sightsBy_0 : decode cX5_sightsBy 0 = .ok (.iconst 1, 1) := by decide +kernel
theorem dX5_sightsBy_1 : decode cX5_sightsBy 1 = .ok (.istore_n 3, 1) := by decide +kernel
theorem dX5_sightsBy_2 : decode cX5_sightsBy 2 = .ok (.iconst 0, 1) := by decide +kernel
theorem dX5_sightsBy_3 : decode cX5_sightsBy 3 = .ok (.istore 4, 2) := by decide +kernel
theorem dX5_sightsBy_5 : decode cX5_sightsBy 5 = .ok (.iload 4, 2) := by decide +kernel
theorem dX5_sightsBy_7 : decode cX5_sightsBy 7 = .ok (.aload_n 0, 1) := by decide +kernel
theorem dX5_sightsBy_8 : decode cX5_sightsBy 8 = .ok (.getfield 89, 3) := by decide +kernel
theorem dX5_sightsBy_11 : decode cX5_sightsBy 11 = .ok (.if_icmp .ge 66, 3) := by decide +kernel
theorem dX5_sightsBy_14 : decode cX5_sightsBy 14 = .ok (.iload_n 3, 1) := by decide +kernel
theorem dX5_sightsBy_15 : decode cX5_sightsBy 15 = .ok (.ifCond .eq 54, 3) := by decide +kernel
theorem dX5_sightsBy_18 : decode cX5_sightsBy 18 = .ok (.aload_n 0, 1) := by decide +kernel
theorem dX5_sightsBy_19 : decode cX5_sightsBy 19 = .ok (.getfield 25, 3) := by decide +kernel
theorem dX5_sightsBy_22 : decode cX5_sightsBy 22 = .ok (.iload 4, 2) := by decide +kernel
theorem dX5_sightsBy_24 : decode cX5_sightsBy 24 = .ok (.iaload, 1) := by decide +kernel
theorem dX5_sightsBy_25 : decode cX5_sightsBy 25 = .ok (.bipush 11, 2) := by decide +kernel
theorem dX5_sightsBy_27 : decode cX5_sightsBy 27 = .ok (.idiv, 1) := by decide +kernel
theorem dX5_sightsBy_28 : decode cX5_sightsBy 28 = .ok (.aload_n 0, 1) := by decide +kernel
theorem dX5_sightsBy_29 : decode cX5_sightsBy 29 = .ok (.getfield 25, 3) := by decide +kernel
theorem dX5_sightsBy_32 : decode cX5_sightsBy 32 = .ok (.iload 4, 2) := by decide +kernel
theorem dX5_sightsBy_34 : decode cX5_sightsBy 34 = .ok (.iaload, 1) := by decide +kernel
theorem dX5_sightsBy_35 : decode cX5_sightsBy 35 = .ok (.bipush 11, 2) := by decide +kernel
theorem dX5_sightsBy_37 : decode cX5_sightsBy 37 = .ok (.irem, 1) := by decide +kernel
theorem dX5_sightsBy_38 : decode cX5_sightsBy 38 = .ok (.iadd, 1) := by decide +kernel
theorem dX5_sightsBy_39 : decode cX5_sightsBy 39 = .ok (.aload_n 0, 1) := by decide +kernel
theorem dX5_sightsBy_40 : decode cX5_sightsBy 40 = .ok (.getfield 80, 3) := by decide +kernel
theorem dX5_sightsBy_43 : decode cX5_sightsBy 43 = .ok (.iload 4, 2) := by decide +kernel
theorem dX5_sightsBy_45 : decode cX5_sightsBy 45 = .ok (.iconst 1, 1) := by decide +kernel
theorem dX5_sightsBy_46 : decode cX5_sightsBy 46 = .ok (.iadd, 1) := by decide +kernel
theorem dX5_sightsBy_47 : decode cX5_sightsBy 47 = .ok (.imul, 1) := by decide +kernel
theorem dX5_sightsBy_48 : decode cX5_sightsBy 48 = .ok (.iadd, 1) := by decide +kernel
theorem dX5_sightsBy_49 : decode cX5_sightsBy 49 = .ok (.aload_n 0, 1) := by decide +kernel
theorem dX5_sightsBy_50 : decode cX5_sightsBy 50 = .ok (.getfield 16, 3) := by decide +kernel
theorem dX5_sightsBy_53 : decode cX5_sightsBy 53 = .ok (.iconst 0, 1) := by decide +kernel
theorem dX5_sightsBy_54 : decode cX5_sightsBy 54 = .ok (.iaload, 1) := by decide +kernel
theorem dX5_sightsBy_55 : decode cX5_sightsBy 55 = .ok (.aload_n 0, 1) := by decide +kernel
theorem dX5_sightsBy_56 : decode cX5_sightsBy 56 = .ok (.getfield 16, 3) := by decide +kernel
theorem dX5_sightsBy_59 : decode cX5_sightsBy 59 = .ok (.iconst 1, 1) := by decide +kernel
theorem dX5_sightsBy_60 : decode cX5_sightsBy 60 = .ok (.iaload, 1) := by decide +kernel
theorem dX5_sightsBy_61 : decode cX5_sightsBy 61 = .ok (.iadd, 1) := by decide +kernel
theorem dX5_sightsBy_62 : decode cX5_sightsBy 62 = .ok (.if_icmp .ne 7, 3) := by decide +kernel
theorem dX5_sightsBy_65 : decode cX5_sightsBy 65 = .ok (.iconst 1, 1) := by decide +kernel
theorem dX5_sightsBy_66 : decode cX5_sightsBy 66 = .ok (.goto 4, 3) := by decide +kernel
theorem dX5_sightsBy_69 : decode cX5_sightsBy 69 = .ok (.iconst 0, 1) := by decide +kernel
theorem dX5_sightsBy_70 : decode cX5_sightsBy 70 = .ok (.istore_n 3, 1) := by decide +kernel
theorem dX5_sightsBy_71 : decode cX5_sightsBy 71 = .ok (.iinc 4 1, 3) := by decide +kernel
theorem dX5_sightsBy_74 : decode cX5_sightsBy 74 = .ok (.goto (-69), 3) := by decide +kernel
theorem dX5_sightsBy_77 : decode cX5_sightsBy 77 = .ok (.iload_n 3, 1) := by decide +kernel
theorem dX5_sightsBy_78 : decode cX5_sightsBy 78 = .ok (.ifCond .ne 5, 3) := by decide +kernel
theorem dX5_sightsBy_81 : decode cX5_sightsBy 81 = .ok (.lconst 0, 1) := by decide +kernel
theorem dX5_sightsBy_82 : decode cX5_sightsBy 82 = .ok (.lreturn, 1) := by decide +kernel
theorem dX5_sightsBy_83 : decode cX5_sightsBy 83 = .ok (.aload_n 0, 1) := by decide +kernel
theorem dX5_sightsBy_84 : decode cX5_sightsBy 84 = .ok (.invokevirtual 106, 3) := by decide +kernel
theorem dX5_sightsBy_87 : decode cX5_sightsBy 87 = .ok (.aload_n 0, 1) := by decide +kernel
theorem dX5_sightsBy_88 : decode cX5_sightsBy 88 = .ok (.aload_n 0, 1) := by decide +kernel
theorem dX5_sightsBy_89 : decode cX5_sightsBy 89 = .ok (.getfield 16, 3) := by decide +kernel
theorem dX5_sightsBy_92 : decode cX5_sightsBy 92 = .ok (.iconst 0, 1) := by decide +kernel
theorem dX5_sightsBy_93 : decode cX5_sightsBy 93 = .ok (.iaload, 1) := by decide +kernel
theorem dX5_sightsBy_94 : decode cX5_sightsBy 94 = .ok (.aload_n 0, 1) := by decide +kernel
theorem dX5_sightsBy_95 : decode cX5_sightsBy 95 = .ok (.getfield 16, 3) := by decide +kernel
theorem dX5_sightsBy_98 : decode cX5_sightsBy 98 = .ok (.iconst 1, 1) := by decide +kernel
theorem dX5_sightsBy_99 : decode cX5_sightsBy 99 = .ok (.iaload, 1) := by decide +kernel
theorem dX5_sightsBy_100 : decode cX5_sightsBy 100 = .ok (.aload_n 0, 1) := by decide +kernel
theorem dX5_sightsBy_101 : decode cX5_sightsBy 101 = .ok (.getfield 16, 3) := by decide +kernel
theorem dX5_sightsBy_104 : decode cX5_sightsBy 104 = .ok (.iconst 2, 1) := by decide +kernel
theorem dX5_sightsBy_105 : decode cX5_sightsBy 105 = .ok (.iaload, 1) := by decide +kernel
theorem dX5_sightsBy_106 : decode cX5_sightsBy 106 = .ok (.invokevirtual 111, 3) := by decide +kernel
theorem dX5_sightsBy_109 : decode cX5_sightsBy 109 = .ok (.lconst 1, 1) := by decide +kernel
theorem dX5_sightsBy_110 : decode cX5_sightsBy 110 = .ok (.lstore 4, 2) := by decide +kernel
theorem dX5_sightsBy_112 : decode cX5_sightsBy 112 = .ok (.iconst 0, 1) := by decide +kernel
theorem dX5_sightsBy_113 : decode cX5_sightsBy 113 = .ok (.istore 6, 2) := by decide +kernel
theorem dX5_sightsBy_115 : decode cX5_sightsBy 115 = .ok (.iload 6, 2) := by decide +kernel
theorem dX5_sightsBy_117 : decode cX5_sightsBy 117 = .ok (.aload_n 0, 1) := by decide +kernel
theorem dX5_sightsBy_118 : decode cX5_sightsBy 118 = .ok (.getfield 89, 3) := by decide +kernel
theorem dX5_sightsBy_121 : decode cX5_sightsBy 121 = .ok (.if_icmp .ge 100, 3) := by decide +kernel
theorem dX5_sightsBy_124 : decode cX5_sightsBy 124 = .ok (.iconst 0, 1) := by decide +kernel
theorem dX5_sightsBy_125 : decode cX5_sightsBy 125 = .ok (.istore 7, 2) := by decide +kernel
theorem dX5_sightsBy_127 : decode cX5_sightsBy 127 = .ok (.iload 7, 2) := by decide +kernel
theorem dX5_sightsBy_129 : decode cX5_sightsBy 129 = .ok (.aload_n 0, 1) := by decide +kernel
theorem dX5_sightsBy_130 : decode cX5_sightsBy 130 = .ok (.getfield 80, 3) := by decide +kernel
theorem dX5_sightsBy_133 : decode cX5_sightsBy 133 = .ok (.if_icmp .ge 18, 3) := by decide +kernel
theorem dX5_sightsBy_136 : decode cX5_sightsBy 136 = .ok (.aload_n 0, 1) := by decide +kernel
theorem dX5_sightsBy_137 : decode cX5_sightsBy 137 = .ok (.iload_n 1, 1) := by decide +kernel
theorem dX5_sightsBy_138 : decode cX5_sightsBy 138 = .ok (.iload_n 2, 1) := by decide +kernel
theorem dX5_sightsBy_139 : decode cX5_sightsBy 139 = .ok (.iconst 0, 1) := by decide +kernel
theorem dX5_sightsBy_140 : decode cX5_sightsBy 140 = .ok (.iconst 0, 1) := by decide +kernel
theorem dX5_sightsBy_141 : decode cX5_sightsBy 141 = .ok (.lconst 0, 1) := by decide +kernel
theorem dX5_sightsBy_142 : decode cX5_sightsBy 142 = .ok (.invokevirtual 117, 3) := by decide +kernel
theorem dX5_sightsBy_145 : decode cX5_sightsBy 145 = .ok (.iinc 7 1, 3) := by decide +kernel
theorem dX5_sightsBy_148 : decode cX5_sightsBy 148 = .ok (.goto (-21), 3) := by decide +kernel
theorem dX5_sightsBy_151 : decode cX5_sightsBy 151 = .ok (.lconst 0, 1) := by decide +kernel
theorem dX5_sightsBy_152 : decode cX5_sightsBy 152 = .ok (.lstore 4, 2) := by decide +kernel
theorem dX5_sightsBy_154 : decode cX5_sightsBy 154 = .ok (.iconst 0, 1) := by decide +kernel
theorem dX5_sightsBy_155 : decode cX5_sightsBy 155 = .ok (.istore 7, 2) := by decide +kernel
theorem dX5_sightsBy_157 : decode cX5_sightsBy 157 = .ok (.iload 7, 2) := by decide +kernel
theorem dX5_sightsBy_159 : decode cX5_sightsBy 159 = .ok (.sipush 363, 3) := by decide +kernel
theorem dX5_sightsBy_162 : decode cX5_sightsBy 162 = .ok (.if_icmp .ge 53, 3) := by decide +kernel
theorem dX5_sightsBy_165 : decode cX5_sightsBy 165 = .ok (.aload_n 0, 1) := by decide +kernel
theorem dX5_sightsBy_166 : decode cX5_sightsBy 166 = .ok (.getfield 28, 3) := by decide +kernel
theorem dX5_sightsBy_169 : decode cX5_sightsBy 169 = .ok (.iload 7, 2) := by decide +kernel
theorem dX5_sightsBy_171 : decode cX5_sightsBy 171 = .ok (.iload 7, 2) := by decide +kernel
theorem dX5_sightsBy_173 : decode cX5_sightsBy 173 = .ok (.iconst 3, 1) := by decide +kernel
theorem dX5_sightsBy_174 : decode cX5_sightsBy 174 = .ok (.idiv, 1) := by decide +kernel
theorem dX5_sightsBy_175 : decode cX5_sightsBy 175 = .ok (.aload_n 0, 1) := by decide +kernel
theorem dX5_sightsBy_176 : decode cX5_sightsBy 176 = .ok (.getfield 25, 3) := by decide +kernel
theorem dX5_sightsBy_179 : decode cX5_sightsBy 179 = .ok (.iload 6, 2) := by decide +kernel
theorem dX5_sightsBy_181 : decode cX5_sightsBy 181 = .ok (.iaload, 1) := by decide +kernel
theorem dX5_sightsBy_182 : decode cX5_sightsBy 182 = .ok (.if_icmp .ne 13, 3) := by decide +kernel
theorem dX5_sightsBy_185 : decode cX5_sightsBy 185 = .ok (.aload_n 0, 1) := by decide +kernel
theorem dX5_sightsBy_186 : decode cX5_sightsBy 186 = .ok (.getfield 28, 3) := by decide +kernel
theorem dX5_sightsBy_189 : decode cX5_sightsBy 189 = .ok (.iload 7, 2) := by decide +kernel
theorem dX5_sightsBy_191 : decode cX5_sightsBy 191 = .ok (.laload, 1) := by decide +kernel
theorem dX5_sightsBy_192 : decode cX5_sightsBy 192 = .ok (.goto 4, 3) := by decide +kernel
theorem dX5_sightsBy_195 : decode cX5_sightsBy 195 = .ok (.lconst 0, 1) := by decide +kernel
theorem dX5_sightsBy_196 : decode cX5_sightsBy 196 = .ok (.lastore, 1) := by decide +kernel
theorem dX5_sightsBy_197 : decode cX5_sightsBy 197 = .ok (.lload 4, 2) := by decide +kernel
theorem dX5_sightsBy_199 : decode cX5_sightsBy 199 = .ok (.aload_n 0, 1) := by decide +kernel
theorem dX5_sightsBy_200 : decode cX5_sightsBy 200 = .ok (.getfield 28, 3) := by decide +kernel
theorem dX5_sightsBy_203 : decode cX5_sightsBy 203 = .ok (.iload 7, 2) := by decide +kernel
theorem dX5_sightsBy_205 : decode cX5_sightsBy 205 = .ok (.laload, 1) := by decide +kernel
theorem dX5_sightsBy_206 : decode cX5_sightsBy 206 = .ok (.ladd, 1) := by decide +kernel
theorem dX5_sightsBy_207 : decode cX5_sightsBy 207 = .ok (.lstore 4, 2) := by decide +kernel
theorem dX5_sightsBy_209 : decode cX5_sightsBy 209 = .ok (.iinc 7 1, 3) := by decide +kernel
theorem dX5_sightsBy_212 : decode cX5_sightsBy 212 = .ok (.goto (-55), 3) := by decide +kernel
theorem dX5_sightsBy_215 : decode cX5_sightsBy 215 = .ok (.iinc 6 1, 3) := by decide +kernel
theorem dX5_sightsBy_218 : decode cX5_sightsBy 218 = .ok (.goto (-103), 3) := by decide +kernel
theorem dX5_sightsBy_221 : decode cX5_sightsBy 221 = .ok (.lload 4, 2) := by decide +kernel
theorem dX5_sightsBy_223 : decode cX5_sightsBy 223 = .ok (.lreturn, 1) := by decide +kernel
theorem dX5_fits_0 : decode cX5_fits 0 = .ok (.iconst 0, 1) := by decide +kernel
theorem dX5_fits_1 : decode cX5_fits 1 = .ok (.istore_n 1, 1) := by decide +kernel
theorem dX5_fits_2 : decode cX5_fits 2 = .ok (.iconst 0, 1) := by decide +kernel
theorem dX5_fits_3 : decode cX5_fits 3 = .ok (.istore_n 2, 1) := by decide +kernel
theorem dX5_fits_4 : decode cX5_fits 4 = .ok (.iload_n 2, 1) := by decide +kernel
theorem dX5_fits_5 : decode cX5_fits 5 = .ok (.iconst 4, 1) := by decide +kernel
theorem dX5_fits_6 : decode cX5_fits 6 = .ok (.if_icmp .ge 43, 3) := by decide +kernel
theorem dX5_fits_9 : decode cX5_fits 9 = .ok (.iconst 0, 1) := by decide +kernel
theorem dX5_fits_10 : decode cX5_fits 10 = .ok (.istore_n 3, 1) := by decide +kernel
theorem dX5_fits_11 : decode cX5_fits 11 = .ok (.iload_n 3, 1) := by decide +kernel
theorem dX5_fits_12 : decode cX5_fits 12 = .ok (.iconst 5, 1) := by decide +kernel
theorem dX5_fits_13 : decode cX5_fits 13 = .ok (.if_icmp .ge 30, 3) := by decide +kernel
theorem dX5_fits_16 : decode cX5_fits 16 = .ok (.iload_n 1, 1) := by decide +kernel
theorem dX5_fits_17 : decode cX5_fits 17 = .ok (.aload_n 0, 1) := by decide +kernel
theorem dX5_fits_18 : decode cX5_fits 18 = .ok (.iload_n 2, 1) := by decide +kernel
theorem dX5_fits_19 : decode cX5_fits 19 = .ok (.iload_n 3, 1) := by decide +kernel
theorem dX5_fits_20 : decode cX5_fits 20 = .ok (.invokevirtual 152, 3) := by decide +kernel
theorem dX5_fits_23 : decode cX5_fits 23 = .ok (.lconst 0, 1) := by decide +kernel
theorem dX5_fits_24 : decode cX5_fits 24 = .ok (.lcmp, 1) := by decide +kernel
theorem dX5_fits_25 : decode cX5_fits 25 = .ok (.ifCond .le 9, 3) := by decide +kernel
theorem dX5_fits_28 : decode cX5_fits 28 = .ok (.iconst 1, 1) := by decide +kernel
theorem dX5_fits_29 : decode cX5_fits 29 = .ok (.iload_n 2, 1) := by decide +kernel
theorem dX5_fits_30 : decode cX5_fits 30 = .ok (.ishl, 1) := by decide +kernel
theorem dX5_fits_31 : decode cX5_fits 31 = .ok (.goto 4, 3) := by decide +kernel
theorem dX5_fits_34 : decode cX5_fits 34 = .ok (.iconst 0, 1) := by decide +kernel
theorem dX5_fits_35 : decode cX5_fits 35 = .ok (.ior, 1) := by decide +kernel
theorem dX5_fits_36 : decode cX5_fits 36 = .ok (.istore_n 1, 1) := by decide +kernel
theorem dX5_fits_37 : decode cX5_fits 37 = .ok (.iinc 3 1, 3) := by decide +kernel
theorem dX5_fits_40 : decode cX5_fits 40 = .ok (.goto (-29), 3) := by decide +kernel
theorem dX5_fits_43 : decode cX5_fits 43 = .ok (.iinc 2 1, 3) := by decide +kernel
theorem dX5_fits_46 : decode cX5_fits 46 = .ok (.goto (-42), 3) := by decide +kernel
theorem dX5_fits_49 : decode cX5_fits 49 = .ok (.iload_n 1, 1) := by decide +kernel
theorem dX5_fits_50 : decode cX5_fits 50 = .ok (.ireturn, 1) := by decide +kernel
theorem dX5_asLikely_0 : decode cX5_asLikely 0 = .ok (.iload_n 1, 1) := by decide +kernel
theorem dX5_asLikely_1 : decode cX5_asLikely 1 = .ok (.iconst 0, 1) := by decide +kernel
theorem dX5_asLikely_2 : decode cX5_asLikely 2 = .ok (.iconst 3, 1) := by decide +kernel
theorem dX5_asLikely_3 : decode cX5_asLikely 3 = .ok (.invokestatic 47, 3) := by decide +kernel
theorem dX5_asLikely_6 : decode cX5_asLikely 6 = .ok (.ifCond .eq 12, 3) := by decide +kernel
theorem dX5_asLikely_9 : decode cX5_asLikely 9 = .ok (.iload_n 2, 1) := by decide +kernel
theorem dX5_asLikely_10 : decode cX5_asLikely 10 = .ok (.iconst 0, 1) := by decide +kernel
theorem dX5_asLikely_11 : decode cX5_asLikely 11 = .ok (.iconst 1, 1) := by decide +kernel
theorem dX5_asLikely_12 : decode cX5_asLikely 12 = .ok (.invokestatic 47, 3) := by decide +kernel
theorem dX5_asLikely_15 : decode cX5_asLikely 15 = .ok (.ifCond .ne 5, 3) := by decide +kernel
theorem dX5_asLikely_18 : decode cX5_asLikely 18 = .ok (.iconst (-1), 1) := by decide +kernel
theorem dX5_asLikely_19 : decode cX5_asLikely 19 = .ok (.ireturn, 1) := by decide +kernel
theorem dX5_asLikely_20 : decode cX5_asLikely 20 = .ok (.bipush (-4), 2) := by decide +kernel
theorem dX5_asLikely_22 : decode cX5_asLikely 22 = .ok (.istore_n 3, 1) := by decide +kernel
theorem dX5_asLikely_23 : decode cX5_asLikely 23 = .ok (.lconst 0, 1) := by decide +kernel
theorem dX5_asLikely_24 : decode cX5_asLikely 24 = .ok (.lstore 4, 2) := by decide +kernel
theorem dX5_asLikely_26 : decode cX5_asLikely 26 = .ok (.iconst 0, 1) := by decide +kernel
theorem dX5_asLikely_27 : decode cX5_asLikely 27 = .ok (.istore 6, 2) := by decide +kernel
theorem dX5_asLikely_29 : decode cX5_asLikely 29 = .ok (.iload 6, 2) := by decide +kernel
theorem dX5_asLikely_31 : decode cX5_asLikely 31 = .ok (.iconst 5, 1) := by decide +kernel
theorem dX5_asLikely_32 : decode cX5_asLikely 32 = .ok (.if_icmp .ge 50, 3) := by decide +kernel
theorem dX5_asLikely_35 : decode cX5_asLikely 35 = .ok (.aload_n 0, 1) := by decide +kernel
theorem dX5_asLikely_36 : decode cX5_asLikely 36 = .ok (.iload_n 1, 1) := by decide +kernel
theorem dX5_asLikely_37 : decode cX5_asLikely 37 = .ok (.iload 6, 2) := by decide +kernel
theorem dX5_asLikely_39 : decode cX5_asLikely 39 = .ok (.invokevirtual 152, 3) := by decide +kernel
theorem dX5_asLikely_42 : decode cX5_asLikely 42 = .ok (.lstore 7, 2) := by decide +kernel
theorem dX5_asLikely_44 : decode cX5_asLikely 44 = .ok (.lload 7, 2) := by decide +kernel
theorem dX5_asLikely_46 : decode cX5_asLikely 46 = .ok (.lload 4, 2) := by decide +kernel
theorem dX5_asLikely_48 : decode cX5_asLikely 48 = .ok (.lcmp, 1) := by decide +kernel
theorem dX5_asLikely_49 : decode cX5_asLikely 49 = .ok (.ifCond .le 8, 3) := by decide +kernel
theorem dX5_asLikely_52 : decode cX5_asLikely 52 = .ok (.iload 6, 2) := by decide +kernel
theorem dX5_asLikely_54 : decode cX5_asLikely 54 = .ok (.goto 4, 3) := by decide +kernel
theorem dX5_asLikely_57 : decode cX5_asLikely 57 = .ok (.iload_n 3, 1) := by decide +kernel
theorem dX5_asLikely_58 : decode cX5_asLikely 58 = .ok (.istore_n 3, 1) := by decide +kernel
theorem dX5_asLikely_59 : decode cX5_asLikely 59 = .ok (.lload 7, 2) := by decide +kernel
theorem dX5_asLikely_61 : decode cX5_asLikely 61 = .ok (.lload 4, 2) := by decide +kernel
theorem dX5_asLikely_63 : decode cX5_asLikely 63 = .ok (.lcmp, 1) := by decide +kernel
theorem dX5_asLikely_64 : decode cX5_asLikely 64 = .ok (.ifCond .le 8, 3) := by decide +kernel
theorem dX5_asLikely_67 : decode cX5_asLikely 67 = .ok (.lload 7, 2) := by decide +kernel
theorem dX5_asLikely_69 : decode cX5_asLikely 69 = .ok (.goto 5, 3) := by decide +kernel
theorem dX5_asLikely_72 : decode cX5_asLikely 72 = .ok (.lload 4, 2) := by decide +kernel
theorem dX5_asLikely_74 : decode cX5_asLikely 74 = .ok (.lstore 4, 2) := by decide +kernel
theorem dX5_asLikely_76 : decode cX5_asLikely 76 = .ok (.iinc 6 1, 3) := by decide +kernel
theorem dX5_asLikely_79 : decode cX5_asLikely 79 = .ok (.goto (-50), 3) := by decide +kernel
theorem dX5_asLikely_82 : decode cX5_asLikely 82 = .ok (.lconst 1, 1) := by decide +kernel
theorem dX5_asLikely_83 : decode cX5_asLikely 83 = .ok (.lstore 6, 2) := by decide +kernel
theorem dX5_asLikely_85 : decode cX5_asLikely 85 = .ok (.iconst 0, 1) := by decide +kernel
theorem dX5_asLikely_86 : decode cX5_asLikely 86 = .ok (.istore 8, 2) := by decide +kernel
theorem dX5_asLikely_88 : decode cX5_asLikely 88 = .ok (.iload 8, 2) := by decide +kernel
theorem dX5_asLikely_90 : decode cX5_asLikely 90 = .ok (.aload_n 0, 1) := by decide +kernel
theorem dX5_asLikely_91 : decode cX5_asLikely 91 = .ok (.getfield 80, 3) := by decide +kernel
theorem dX5_asLikely_94 : decode cX5_asLikely 94 = .ok (.aload_n 0, 1) := by decide +kernel
theorem dX5_asLikely_95 : decode cX5_asLikely 95 = .ok (.getfield 89, 3) := by decide +kernel
theorem dX5_asLikely_98 : decode cX5_asLikely 98 = .ok (.imul, 1) := by decide +kernel
theorem dX5_asLikely_99 : decode cX5_asLikely 99 = .ok (.if_icmp .ge 23, 3) := by decide +kernel
theorem dX5_asLikely_102 : decode cX5_asLikely 102 = .ok (.iload_n 3, 1) := by decide +kernel
theorem dX5_asLikely_103 : decode cX5_asLikely 103 = .ok (.bipush (-4), 2) := by decide +kernel
theorem dX5_asLikely_105 : decode cX5_asLikely 105 = .ok (.if_icmp .eq 17, 3) := by decide +kernel
theorem dX5_asLikely_108 : decode cX5_asLikely 108 = .ok (.lload 6, 2) := by decide +kernel
theorem dX5_asLikely_110 : decode cX5_asLikely 110 = .ok (.ldc2_w 115, 3) := by decide +kernel
theorem dX5_asLikely_113 : decode cX5_asLikely 113 = .ok (.lmul, 1) := by decide +kernel
theorem dX5_asLikely_114 : decode cX5_asLikely 114 = .ok (.lstore 6, 2) := by decide +kernel
theorem dX5_asLikely_116 : decode cX5_asLikely 116 = .ok (.iinc 8 1, 3) := by decide +kernel
theorem dX5_asLikely_119 : decode cX5_asLikely 119 = .ok (.goto (-31), 3) := by decide +kernel
theorem dX5_asLikely_122 : decode cX5_asLikely 122 = .ok (.iload_n 2, 1) := by decide +kernel
theorem dX5_asLikely_123 : decode cX5_asLikely 123 = .ok (.ifCond .eq 9, 3) := by decide +kernel
theorem dX5_asLikely_126 : decode cX5_asLikely 126 = .ok (.iload_n 3, 1) := by decide +kernel
theorem dX5_asLikely_127 : decode cX5_asLikely 127 = .ok (.bipush (-4), 2) := by decide +kernel
theorem dX5_asLikely_129 : decode cX5_asLikely 129 = .ok (.if_icmp .ne 7, 3) := by decide +kernel
theorem dX5_asLikely_132 : decode cX5_asLikely 132 = .ok (.iload_n 3, 1) := by decide +kernel
theorem dX5_asLikely_133 : decode cX5_asLikely 133 = .ok (.goto 10, 3) := by decide +kernel
theorem dX5_asLikely_136 : decode cX5_asLikely 136 = .ok (.lload 4, 2) := by decide +kernel
theorem dX5_asLikely_138 : decode cX5_asLikely 138 = .ok (.lload 6, 2) := by decide +kernel
theorem dX5_asLikely_140 : decode cX5_asLikely 140 = .ok (.invokestatic 134, 3) := by decide +kernel
theorem dX5_asLikely_143 : decode cX5_asLikely 143 = .ok (.ireturn, 1) := by decide +kernel
theorem dX5_evenings_0 : decode cX5_evenings 0 = .ok (.iload_n 1, 1) := by decide +kernel
theorem dX5_evenings_1 : decode cX5_evenings 1 = .ok (.iconst 1, 1) := by decide +kernel
theorem dX5_evenings_2 : decode cX5_evenings 2 = .ok (.sipush 9999, 3) := by decide +kernel
theorem dX5_evenings_5 : decode cX5_evenings 5 = .ok (.invokestatic 47, 3) := by decide +kernel
theorem dX5_evenings_8 : decode cX5_evenings 8 = .ok (.ifCond .ne 5, 3) := by decide +kernel
theorem dX5_evenings_11 : decode cX5_evenings 11 = .ok (.iconst (-1), 1) := by decide +kernel
theorem dX5_evenings_12 : decode cX5_evenings 12 = .ok (.ireturn, 1) := by decide +kernel
theorem dX5_evenings_13 : decode cX5_evenings 13 = .ok (.aload_n 0, 1) := by decide +kernel
theorem dX5_evenings_14 : decode cX5_evenings 14 = .ok (.iconst 0, 1) := by decide +kernel
theorem dX5_evenings_15 : decode cX5_evenings 15 = .ok (.invokevirtual 130, 3) := by decide +kernel
theorem dX5_evenings_18 : decode cX5_evenings 18 = .ok (.iconst 0, 1) := by decide +kernel
theorem dX5_evenings_19 : decode cX5_evenings 19 = .ok (.istore_n 2, 1) := by decide +kernel
theorem dX5_evenings_20 : decode cX5_evenings 20 = .ok (.iconst 1, 1) := by decide +kernel
theorem dX5_evenings_21 : decode cX5_evenings 21 = .ok (.istore_n 3, 1) := by decide +kernel
theorem dX5_evenings_22 : decode cX5_evenings 22 = .ok (.iload_n 3, 1) := by decide +kernel
theorem dX5_evenings_23 : decode cX5_evenings 23 = .ok (.bipush 8, 2) := by decide +kernel
theorem dX5_evenings_25 : decode cX5_evenings 25 = .ok (.if_icmp .ge 63, 3) := by decide +kernel
theorem dX5_evenings_28 : decode cX5_evenings 28 = .ok (.ldc2_w 109, 3) := by decide +kernel
theorem dX5_evenings_31 : decode cX5_evenings 31 = .ok (.aload_n 0, 1) := by decide +kernel
theorem dX5_evenings_32 : decode cX5_evenings 32 = .ok (.aload_n 0, 1) := by decide +kernel
theorem dX5_evenings_33 : decode cX5_evenings 33 = .ok (.getfield 80, 3) := by decide +kernel
theorem dX5_evenings_36 : decode cX5_evenings 36 = .ok (.iload_n 3, 1) := by decide +kernel
theorem dX5_evenings_37 : decode cX5_evenings 37 = .ok (.imul, 1) := by decide +kernel
theorem dX5_evenings_38 : decode cX5_evenings 38 = .ok (.bipush 21, 2) := by decide +kernel
theorem dX5_evenings_40 : decode cX5_evenings 40 = .ok (.if_icmp .le 8, 3) := by decide +kernel
theorem dX5_evenings_43 : decode cX5_evenings 43 = .ok (.bipush 21, 2) := by decide +kernel
theorem dX5_evenings_45 : decode cX5_evenings 45 = .ok (.goto 9, 3) := by decide +kernel
theorem dX5_evenings_48 : decode cX5_evenings 48 = .ok (.aload_n 0, 1) := by decide +kernel
theorem dX5_evenings_49 : decode cX5_evenings 49 = .ok (.getfield 80, 3) := by decide +kernel
theorem dX5_evenings_52 : decode cX5_evenings 52 = .ok (.iload_n 3, 1) := by decide +kernel
theorem dX5_evenings_53 : decode cX5_evenings 53 = .ok (.imul, 1) := by decide +kernel
theorem dX5_evenings_54 : decode cX5_evenings 54 = .ok (.invokevirtual 140, 3) := by decide +kernel
theorem dX5_evenings_57 : decode cX5_evenings 57 = .ok (.lsub, 1) := by decide +kernel
theorem dX5_evenings_58 : decode cX5_evenings 58 = .ok (.lstore 4, 2) := by decide +kernel
theorem dX5_evenings_60 : decode cX5_evenings 60 = .ok (.ldc2_w 125, 3) := by decide +kernel
theorem dX5_evenings_63 : decode cX5_evenings 63 = .ok (.lload 4, 2) := by decide +kernel
theorem dX5_evenings_65 : decode cX5_evenings 65 = .ok (.lmul, 1) := by decide +kernel
theorem dX5_evenings_66 : decode cX5_evenings 66 = .ok (.iload_n 1, 1) := by decide +kernel
theorem dX5_evenings_67 : decode cX5_evenings 67 = .ok (.i2l, 1) := by decide +kernel
theorem dX5_evenings_68 : decode cX5_evenings 68 = .ok (.ldc2_w 109, 3) := by decide +kernel
theorem dX5_evenings_71 : decode cX5_evenings 71 = .ok (.lmul, 1) := by decide +kernel
theorem dX5_evenings_72 : decode cX5_evenings 72 = .ok (.lcmp, 1) := by decide +kernel
theorem dX5_evenings_73 : decode cX5_evenings 73 = .ok (.ifCond .le 7, 3) := by decide +kernel
theorem dX5_evenings_76 : decode cX5_evenings 76 = .ok (.iload_n 3, 1) := by decide +kernel
theorem dX5_evenings_77 : decode cX5_evenings 77 = .ok (.goto 4, 3) := by decide +kernel
theorem dX5_evenings_80 : decode cX5_evenings 80 = .ok (.iload_n 2, 1) := by decide +kernel
theorem dX5_evenings_81 : decode cX5_evenings 81 = .ok (.istore_n 2, 1) := by decide +kernel
theorem dX5_evenings_82 : decode cX5_evenings 82 = .ok (.iinc 3 1, 3) := by decide +kernel
theorem dX5_evenings_85 : decode cX5_evenings 85 = .ok (.goto (-63), 3) := by decide +kernel
theorem dX5_evenings_88 : decode cX5_evenings 88 = .ok (.iload_n 2, 1) := by decide +kernel
theorem dX5_evenings_89 : decode cX5_evenings 89 = .ok (.ireturn, 1) := by decide +kernel
theorem dX5_which_0 : decode cX5_which 0 = .ok (.aload_n 0, 1) := by decide +kernel
theorem dX5_which_1 : decode cX5_which 1 = .ok (.iconst 0, 1) := by decide +kernel
theorem dX5_which_2 : decode cX5_which 2 = .ok (.invokevirtual 130, 3) := by decide +kernel
theorem dX5_which_5 : decode cX5_which 5 = .ok (.aload_n 0, 1) := by decide +kernel
theorem dX5_which_6 : decode cX5_which 6 = .ok (.getfield 102, 3) := by decide +kernel
theorem dX5_which_9 : decode cX5_which 9 = .ok (.ldc2_w 109, 3) := by decide +kernel
theorem dX5_which_12 : decode cX5_which 12 = .ok (.invokestatic 134, 3) := by decide +kernel
theorem dX5_which_15 : decode cX5_which 15 = .ok (.ireturn, 1) := by decide +kernel
theorem dX5_better_0 : decode cX5_better 0 = .ok (.iload_n 1, 1) := by decide +kernel
theorem dX5_better_1 : decode cX5_better 1 = .ok (.iconst 0, 1) := by decide +kernel
theorem dX5_better_2 : decode cX5_better 2 = .ok (.iconst 3, 1) := by decide +kernel
theorem dX5_better_3 : decode cX5_better 3 = .ok (.invokestatic 47, 3) := by decide +kernel
theorem dX5_better_6 : decode cX5_better 6 = .ok (.ifCond .eq 31, 3) := by decide +kernel
theorem dX5_better_9 : decode cX5_better 9 = .ok (.iload_n 2, 1) := by decide +kernel
theorem dX5_better_10 : decode cX5_better 10 = .ok (.iconst 0, 1) := by decide +kernel
theorem dX5_better_11 : decode cX5_better 11 = .ok (.iconst 4, 1) := by decide +kernel
theorem dX5_better_12 : decode cX5_better 12 = .ok (.invokestatic 47, 3) := by decide +kernel
theorem dX5_better_15 : decode cX5_better 15 = .ok (.ifCond .eq 22, 3) := by decide +kernel
theorem dX5_better_18 : decode cX5_better 18 = .ok (.iload_n 3, 1) := by decide +kernel
theorem dX5_better_19 : decode cX5_better 19 = .ok (.iconst 0, 1) := by decide +kernel
theorem dX5_better_20 : decode cX5_better 20 = .ok (.iconst 3, 1) := by decide +kernel
theorem dX5_better_21 : decode cX5_better 21 = .ok (.invokestatic 47, 3) := by decide +kernel
theorem dX5_better_24 : decode cX5_better 24 = .ok (.ifCond .eq 13, 3) := by decide +kernel
theorem dX5_better_27 : decode cX5_better 27 = .ok (.iload 4, 2) := by decide +kernel
theorem dX5_better_29 : decode cX5_better 29 = .ok (.iconst 0, 1) := by decide +kernel
theorem dX5_better_30 : decode cX5_better 30 = .ok (.iconst 4, 1) := by decide +kernel
theorem dX5_better_31 : decode cX5_better 31 = .ok (.invokestatic 47, 3) := by decide +kernel
theorem dX5_better_34 : decode cX5_better 34 = .ok (.ifCond .ne 5, 3) := by decide +kernel
theorem dX5_better_37 : decode cX5_better 37 = .ok (.iconst (-1), 1) := by decide +kernel
theorem dX5_better_38 : decode cX5_better 38 = .ok (.ireturn, 1) := by decide +kernel
theorem dX5_better_39 : decode cX5_better 39 = .ok (.aload_n 0, 1) := by decide +kernel
theorem dX5_better_40 : decode cX5_better 40 = .ok (.aload_n 0, 1) := by decide +kernel
theorem dX5_better_41 : decode cX5_better 41 = .ok (.getfield 16, 3) := by decide +kernel
theorem dX5_better_44 : decode cX5_better 44 = .ok (.iconst 0, 1) := by decide +kernel
theorem dX5_better_45 : decode cX5_better 45 = .ok (.iaload, 1) := by decide +kernel
theorem dX5_better_46 : decode cX5_better 46 = .ok (.aload_n 0, 1) := by decide +kernel
theorem dX5_better_47 : decode cX5_better 47 = .ok (.getfield 16, 3) := by decide +kernel
theorem dX5_better_50 : decode cX5_better 50 = .ok (.iconst 1, 1) := by decide +kernel
theorem dX5_better_51 : decode cX5_better 51 = .ok (.iaload, 1) := by decide +kernel
theorem dX5_better_52 : decode cX5_better 52 = .ok (.iload_n 1, 1) := by decide +kernel
theorem dX5_better_53 : decode cX5_better 53 = .ok (.iload_n 2, 1) := by decide +kernel
theorem dX5_better_54 : decode cX5_better 54 = .ok (.iconst 0, 1) := by decide +kernel
theorem dX5_better_55 : decode cX5_better 55 = .ok (.invokevirtual 121, 3) := by decide +kernel
theorem dX5_better_58 : decode cX5_better 58 = .ok (.aload_n 0, 1) := by decide +kernel
theorem dX5_better_59 : decode cX5_better 59 = .ok (.invokevirtual 144, 3) := by decide +kernel
theorem dX5_better_62 : decode cX5_better 62 = .ok (.lstore 5, 2) := by decide +kernel
theorem dX5_better_64 : decode cX5_better 64 = .ok (.aload_n 0, 1) := by decide +kernel
theorem dX5_better_65 : decode cX5_better 65 = .ok (.aload_n 0, 1) := by decide +kernel
theorem dX5_better_66 : decode cX5_better 66 = .ok (.getfield 16, 3) := by decide +kernel
theorem dX5_better_69 : decode cX5_better 69 = .ok (.iconst 0, 1) := by decide +kernel
theorem dX5_better_70 : decode cX5_better 70 = .ok (.iaload, 1) := by decide +kernel
theorem dX5_better_71 : decode cX5_better 71 = .ok (.aload_n 0, 1) := by decide +kernel
theorem dX5_better_72 : decode cX5_better 72 = .ok (.getfield 16, 3) := by decide +kernel
theorem dX5_better_75 : decode cX5_better 75 = .ok (.iconst 1, 1) := by decide +kernel
theorem dX5_better_76 : decode cX5_better 76 = .ok (.iaload, 1) := by decide +kernel
theorem dX5_better_77 : decode cX5_better 77 = .ok (.iload_n 3, 1) := by decide +kernel
theorem dX5_better_78 : decode cX5_better 78 = .ok (.iload 4, 2) := by decide +kernel
theorem dX5_better_80 : decode cX5_better 80 = .ok (.iconst 0, 1) := by decide +kernel
theorem dX5_better_81 : decode cX5_better 81 = .ok (.invokevirtual 121, 3) := by decide +kernel
theorem dX5_better_84 : decode cX5_better 84 = .ok (.aload_n 0, 1) := by decide +kernel
theorem dX5_better_85 : decode cX5_better 85 = .ok (.invokevirtual 144, 3) := by decide +kernel
theorem dX5_better_88 : decode cX5_better 88 = .ok (.lstore 7, 2) := by decide +kernel
theorem dX5_better_90 : decode cX5_better 90 = .ok (.lload 5, 2) := by decide +kernel
theorem dX5_better_92 : decode cX5_better 92 = .ok (.lload 7, 2) := by decide +kernel
theorem dX5_better_94 : decode cX5_better 94 = .ok (.lcmp, 1) := by decide +kernel
theorem dX5_better_95 : decode cX5_better 95 = .ok (.ifCond .le 7, 3) := by decide +kernel
theorem dX5_better_98 : decode cX5_better 98 = .ok (.iconst 1, 1) := by decide +kernel
theorem dX5_better_99 : decode cX5_better 99 = .ok (.goto 16, 3) := by decide +kernel
theorem dX5_better_102 : decode cX5_better 102 = .ok (.lload 5, 2) := by decide +kernel
theorem dX5_better_104 : decode cX5_better 104 = .ok (.lload 7, 2) := by decide +kernel
theorem dX5_better_106 : decode cX5_better 106 = .ok (.lcmp, 1) := by decide +kernel
theorem dX5_better_107 : decode cX5_better 107 = .ok (.ifCond .ge 7, 3) := by decide +kernel
theorem dX5_better_110 : decode cX5_better 110 = .ok (.iconst 2, 1) := by decide +kernel
theorem dX5_better_111 : decode cX5_better 111 = .ok (.goto 4, 3) := by decide +kernel
theorem dX5_better_114 : decode cX5_better 114 = .ok (.iconst 0, 1) := by decide +kernel
theorem dX5_better_115 : decode cX5_better 115 = .ok (.ireturn, 1) := by decide +kernel
theorem dX5_coat_0 : decode cX5_coat 0 = .ok (.iload_n 1, 1) := by decide +kernel
theorem dX5_coat_1 : decode cX5_coat 1 = .ok (.iconst 0, 1) := by decide +kernel
theorem dX5_coat_2 : decode cX5_coat 2 = .ok (.sipush 9999, 3) := by decide +kernel
theorem dX5_coat_5 : decode cX5_coat 5 = .ok (.invokestatic 47, 3) := by decide +kernel
theorem dX5_coat_8 : decode cX5_coat 8 = .ok (.ifCond .eq 22, 3) := by decide +kernel
theorem dX5_coat_11 : decode cX5_coat 11 = .ok (.iload_n 2, 1) := by decide +kernel
theorem dX5_coat_12 : decode cX5_coat 12 = .ok (.iconst 1, 1) := by decide +kernel
theorem dX5_coat_13 : decode cX5_coat 13 = .ok (.bipush 60, 2) := by decide +kernel
theorem dX5_coat_15 : decode cX5_coat 15 = .ok (.invokestatic 47, 3) := by decide +kernel
theorem dX5_coat_18 : decode cX5_coat 18 = .ok (.ifCond .eq 12, 3) := by decide +kernel
theorem dX5_coat_21 : decode cX5_coat 21 = .ok (.iload_n 3, 1) := by decide +kernel
theorem dX5_coat_22 : decode cX5_coat 22 = .ok (.iconst 0, 1) := by decide +kernel
theorem dX5_coat_23 : decode cX5_coat 23 = .ok (.iconst 1, 1) := by decide +kernel
theorem dX5_coat_24 : decode cX5_coat 24 = .ok (.invokestatic 47, 3) := by decide +kernel
theorem dX5_coat_27 : decode cX5_coat 27 = .ok (.ifCond .ne 5, 3) := by decide +kernel
theorem dX5_coat_30 : decode cX5_coat 30 = .ok (.iconst (-1), 1) := by decide +kernel
theorem dX5_coat_31 : decode cX5_coat 31 = .ok (.ireturn, 1) := by decide +kernel
theorem dX5_coat_32 : decode cX5_coat 32 = .ok (.aload_n 0, 1) := by decide +kernel
theorem dX5_coat_33 : decode cX5_coat 33 = .ok (.getfield 16, 3) := by decide +kernel
theorem dX5_coat_36 : decode cX5_coat 36 = .ok (.iconst 0, 1) := by decide +kernel
theorem dX5_coat_37 : decode cX5_coat 37 = .ok (.iaload, 1) := by decide +kernel
theorem dX5_coat_38 : decode cX5_coat 38 = .ok (.istore 4, 2) := by decide +kernel
theorem dX5_coat_40 : decode cX5_coat 40 = .ok (.aload_n 0, 1) := by decide +kernel
theorem dX5_coat_41 : decode cX5_coat 41 = .ok (.getfield 16, 3) := by decide +kernel
theorem dX5_coat_44 : decode cX5_coat 44 = .ok (.iconst 1, 1) := by decide +kernel
theorem dX5_coat_45 : decode cX5_coat 45 = .ok (.iaload, 1) := by decide +kernel
theorem dX5_coat_46 : decode cX5_coat 46 = .ok (.istore 5, 2) := by decide +kernel
theorem dX5_coat_48 : decode cX5_coat 48 = .ok (.aload_n 0, 1) := by decide +kernel
theorem dX5_coat_49 : decode cX5_coat 49 = .ok (.getfield 16, 3) := by decide +kernel
theorem dX5_coat_52 : decode cX5_coat 52 = .ok (.iconst 2, 1) := by decide +kernel
theorem dX5_coat_53 : decode cX5_coat 53 = .ok (.iaload, 1) := by decide +kernel
theorem dX5_coat_54 : decode cX5_coat 54 = .ok (.istore 6, 2) := by decide +kernel
theorem dX5_coat_56 : decode cX5_coat 56 = .ok (.iconst 0, 1) := by decide +kernel
theorem dX5_coat_57 : decode cX5_coat 57 = .ok (.istore 7, 2) := by decide +kernel
theorem dX5_coat_59 : decode cX5_coat 59 = .ok (.iconst 0, 1) := by decide +kernel
theorem dX5_coat_60 : decode cX5_coat 60 = .ok (.istore 8, 2) := by decide +kernel
theorem dX5_coat_62 : decode cX5_coat 62 = .ok (.iload 8, 2) := by decide +kernel
theorem dX5_coat_64 : decode cX5_coat 64 = .ok (.iload_n 2, 1) := by decide +kernel
theorem dX5_coat_65 : decode cX5_coat 65 = .ok (.if_icmp .ge 151, 3) := by decide +kernel
theorem dX5_coat_68 : decode cX5_coat 68 = .ok (.ldc2_w 155, 3) := by decide +kernel
theorem dX5_coat_71 : decode cX5_coat 71 = .ok (.iload_n 1, 1) := by decide +kernel
theorem dX5_coat_72 : decode cX5_coat 72 = .ok (.i2l, 1) := by decide +kernel
theorem dX5_coat_73 : decode cX5_coat 73 = .ok (.lmul, 1) := by decide +kernel
theorem dX5_coat_74 : decode cX5_coat 74 = .ok (.ldc2_w 157, 3) := by decide +kernel
theorem dX5_coat_77 : decode cX5_coat 77 = .ok (.iload 8, 2) := by decide +kernel
theorem dX5_coat_79 : decode cX5_coat 79 = .ok (.i2l, 1) := by decide +kernel
theorem dX5_coat_80 : decode cX5_coat 80 = .ok (.lmul, 1) := by decide +kernel
theorem dX5_coat_81 : decode cX5_coat 81 = .ok (.ladd, 1) := by decide +kernel
theorem dX5_coat_82 : decode cX5_coat 82 = .ok (.lconst 1, 1) := by decide +kernel
theorem dX5_coat_83 : decode cX5_coat 83 = .ok (.ladd, 1) := by decide +kernel
theorem dX5_coat_84 : decode cX5_coat 84 = .ok (.lstore 9, 2) := by decide +kernel
theorem dX5_coat_86 : decode cX5_coat 86 = .ok (.lload 9, 2) := by decide +kernel
theorem dX5_coat_88 : decode cX5_coat 88 = .ok (.lload 9, 2) := by decide +kernel
theorem dX5_coat_90 : decode cX5_coat 90 = .ok (.lmul, 1) := by decide +kernel
theorem dX5_coat_91 : decode cX5_coat 91 = .ok (.ldc2_w 159, 3) := by decide +kernel
theorem dX5_coat_94 : decode cX5_coat 94 = .ok (.lrem, 1) := by decide +kernel
theorem dX5_coat_95 : decode cX5_coat 95 = .ok (.l2i, 1) := by decide +kernel
theorem dX5_coat_96 : decode cX5_coat 96 = .ok (.bipush 8, 2) := by decide +kernel
theorem dX5_coat_98 : decode cX5_coat 98 = .ok (.idiv, 1) := by decide +kernel
theorem dX5_coat_99 : decode cX5_coat 99 = .ok (.istore 11, 2) := by decide +kernel
theorem dX5_coat_101 : decode cX5_coat 101 = .ok (.iload 11, 2) := by decide +kernel
theorem dX5_coat_103 : decode cX5_coat 103 = .ok (.iconst 4, 1) := by decide +kernel
theorem dX5_coat_104 : decode cX5_coat 104 = .ok (.irem, 1) := by decide +kernel
theorem dX5_coat_105 : decode cX5_coat 105 = .ok (.iload 4, 2) := by decide +kernel
theorem dX5_coat_107 : decode cX5_coat 107 = .ok (.iload 5, 2) := by decide +kernel
theorem dX5_coat_109 : decode cX5_coat 109 = .ok (.iload 6, 2) := by decide +kernel
theorem dX5_coat_111 : decode cX5_coat 111 = .ok (.aload_n 0, 1) := by decide +kernel
theorem dX5_coat_112 : decode cX5_coat 112 = .ok (.getfield 16, 3) := by decide +kernel
theorem dX5_coat_115 : decode cX5_coat 115 = .ok (.iconst 3, 1) := by decide +kernel
theorem dX5_coat_116 : decode cX5_coat 116 = .ok (.iaload, 1) := by decide +kernel
theorem dX5_coat_117 : decode cX5_coat 117 = .ok (.aload_n 0, 1) := by decide +kernel
theorem dX5_coat_118 : decode cX5_coat 118 = .ok (.getfield 16, 3) := by decide +kernel
theorem dX5_coat_121 : decode cX5_coat 121 = .ok (.iconst 4, 1) := by decide +kernel
theorem dX5_coat_122 : decode cX5_coat 122 = .ok (.iaload, 1) := by decide +kernel
theorem dX5_coat_123 : decode cX5_coat 123 = .ok (.invokestatic 92, 3) := by decide +kernel
theorem dX5_coat_126 : decode cX5_coat 126 = .ok (.if_icmp .ge 7, 3) := by decide +kernel
theorem dX5_coat_129 : decode cX5_coat 129 = .ok (.iconst 0, 1) := by decide +kernel
theorem dX5_coat_130 : decode cX5_coat 130 = .ok (.goto 4, 3) := by decide +kernel
theorem dX5_coat_133 : decode cX5_coat 133 = .ok (.iconst 1, 1) := by decide +kernel
theorem dX5_coat_134 : decode cX5_coat 134 = .ok (.istore 6, 2) := by decide +kernel
theorem dX5_coat_136 : decode cX5_coat 136 = .ok (.iload 6, 2) := by decide +kernel
theorem dX5_coat_138 : decode cX5_coat 138 = .ok (.ifCond .ne 8, 3) := by decide +kernel
theorem dX5_coat_141 : decode cX5_coat 141 = .ok (.iload 4, 2) := by decide +kernel
theorem dX5_coat_143 : decode cX5_coat 143 = .ok (.goto 5, 3) := by decide +kernel
theorem dX5_coat_146 : decode cX5_coat 146 = .ok (.iload 5, 2) := by decide +kernel
theorem dX5_coat_148 : decode cX5_coat 148 = .ok (.istore 12, 2) := by decide +kernel
theorem dX5_coat_150 : decode cX5_coat 150 = .ok (.iload 7, 2) := by decide +kernel
theorem dX5_coat_152 : decode cX5_coat 152 = .ok (.iload 12, 2) := by decide +kernel
theorem dX5_coat_154 : decode cX5_coat 154 = .ok (.ifCond .ne 7, 3) := by decide +kernel
theorem dX5_coat_157 : decode cX5_coat 157 = .ok (.iconst 1, 1) := by decide +kernel
theorem dX5_coat_158 : decode cX5_coat 158 = .ok (.goto 4, 3) := by decide +kernel
theorem dX5_coat_161 : decode cX5_coat 161 = .ok (.iconst 0, 1) := by decide +kernel
theorem dX5_coat_162 : decode cX5_coat 162 = .ok (.iadd, 1) := by decide +kernel
theorem dX5_coat_163 : decode cX5_coat 163 = .ok (.istore 7, 2) := by decide +kernel
theorem dX5_coat_165 : decode cX5_coat 165 = .ok (.iload 12, 2) := by decide +kernel
theorem dX5_coat_167 : decode cX5_coat 167 = .ok (.ifCond .ne 8, 3) := by decide +kernel
theorem dX5_coat_170 : decode cX5_coat 170 = .ok (.bipush 10, 2) := by decide +kernel
theorem dX5_coat_172 : decode cX5_coat 172 = .ok (.goto 7, 3) := by decide +kernel
theorem dX5_coat_175 : decode cX5_coat 175 = .ok (.iload 12, 2) := by decide +kernel
theorem dX5_coat_177 : decode cX5_coat 177 = .ok (.iconst 1, 1) := by decide +kernel
theorem dX5_coat_178 : decode cX5_coat 178 = .ok (.isub, 1) := by decide +kernel
theorem dX5_coat_179 : decode cX5_coat 179 = .ok (.istore 12, 2) := by decide +kernel
theorem dX5_coat_181 : decode cX5_coat 181 = .ok (.iload 6, 2) := by decide +kernel
theorem dX5_coat_183 : decode cX5_coat 183 = .ok (.ifCond .ne 8, 3) := by decide +kernel
theorem dX5_coat_186 : decode cX5_coat 186 = .ok (.iload 12, 2) := by decide +kernel
theorem dX5_coat_188 : decode cX5_coat 188 = .ok (.goto 5, 3) := by decide +kernel
theorem dX5_coat_191 : decode cX5_coat 191 = .ok (.iload 4, 2) := by decide +kernel
theorem dX5_coat_193 : decode cX5_coat 193 = .ok (.istore 4, 2) := by decide +kernel
theorem dX5_coat_195 : decode cX5_coat 195 = .ok (.iload 6, 2) := by decide +kernel
theorem dX5_coat_197 : decode cX5_coat 197 = .ok (.iconst 1, 1) := by decide +kernel
theorem dX5_coat_198 : decode cX5_coat 198 = .ok (.if_icmp .ne 8, 3) := by decide +kernel
theorem dX5_coat_201 : decode cX5_coat 201 = .ok (.iload 12, 2) := by decide +kernel
theorem dX5_coat_203 : decode cX5_coat 203 = .ok (.goto 5, 3) := by decide +kernel
theorem dX5_coat_206 : decode cX5_coat 206 = .ok (.iload 5, 2) := by decide +kernel
theorem dX5_coat_208 : decode cX5_coat 208 = .ok (.istore 5, 2) := by decide +kernel
theorem dX5_coat_210 : decode cX5_coat 210 = .ok (.iinc 8 1, 3) := by decide +kernel
theorem dX5_coat_213 : decode cX5_coat 213 = .ok (.goto (-151), 3) := by decide +kernel
theorem dX5_coat_216 : decode cX5_coat 216 = .ok (.iload_n 3, 1) := by decide +kernel
theorem dX5_coat_217 : decode cX5_coat 217 = .ok (.ifCond .ne 8, 3) := by decide +kernel
theorem dX5_coat_220 : decode cX5_coat 220 = .ok (.iload 7, 2) := by decide +kernel
theorem dX5_coat_222 : decode cX5_coat 222 = .ok (.goto 8, 3) := by decide +kernel
theorem dX5_coat_225 : decode cX5_coat 225 = .ok (.iload 4, 2) := by decide +kernel
theorem dX5_coat_227 : decode cX5_coat 227 = .ok (.iload 5, 2) := by decide +kernel
theorem dX5_coat_229 : decode cX5_coat 229 = .ok (.iadd, 1) := by decide +kernel
theorem dX5_coat_230 : decode cX5_coat 230 = .ok (.ireturn, 1) := by decide +kernel
theorem dX5_keep_0 : decode cX5_keep 0 = .ok (.aload_n 0, 1) := by decide +kernel
theorem dX5_keep_1 : decode cX5_keep 1 = .ok (.getfield 86, 3) := by decide +kernel
theorem dX5_keep_4 : decode cX5_keep 4 = .ok (.iconst 2, 1) := by decide +kernel
theorem dX5_keep_5 : decode cX5_keep 5 = .ok (.if_icmp .ne 6, 3) := by decide +kernel
theorem dX5_keep_8 : decode cX5_keep 8 = .ok (.bipush (-3), 2) := by decide +kernel
theorem dX5_keep_10 : decode cX5_keep 10 = .ok (.ireturn, 1) := by decide +kernel
theorem dX5_keep_11 : decode cX5_keep 11 = .ok (.iconst 0, 1) := by decide +kernel
theorem dX5_keep_12 : decode cX5_keep 12 = .ok (.istore_n 1, 1) := by decide +kernel
theorem dX5_keep_13 : decode cX5_keep 13 = .ok (.iload_n 1, 1) := by decide +kernel
theorem dX5_keep_14 : decode cX5_keep 14 = .ok (.iconst 5, 1) := by decide +kernel
theorem dX5_keep_15 : decode cX5_keep 15 = .ok (.if_icmp .ge 28, 3) := by decide +kernel
theorem dX5_keep_18 : decode cX5_keep 18 = .ok (.aload_n 0, 1) := by decide +kernel
theorem dX5_keep_19 : decode cX5_keep 19 = .ok (.getfield 22, 3) := by decide +kernel
theorem dX5_keep_22 : decode cX5_keep 22 = .ok (.iconst 5, 1) := by decide +kernel
theorem dX5_keep_23 : decode cX5_keep 23 = .ok (.aload_n 0, 1) := by decide +kernel
theorem dX5_keep_24 : decode cX5_keep 24 = .ok (.getfield 86, 3) := by decide +kernel
theorem dX5_keep_27 : decode cX5_keep 27 = .ok (.imul, 1) := by decide +kernel
theorem dX5_keep_28 : decode cX5_keep 28 = .ok (.iload_n 1, 1) := by decide +kernel
theorem dX5_keep_29 : decode cX5_keep 29 = .ok (.iadd, 1) := by decide +kernel
theorem dX5_keep_30 : decode cX5_keep 30 = .ok (.aload_n 0, 1) := by decide +kernel
theorem dX5_keep_31 : decode cX5_keep 31 = .ok (.getfield 16, 3) := by decide +kernel
theorem dX5_keep_34 : decode cX5_keep 34 = .ok (.iload_n 1, 1) := by decide +kernel
theorem dX5_keep_35 : decode cX5_keep 35 = .ok (.iaload, 1) := by decide +kernel
theorem dX5_keep_36 : decode cX5_keep 36 = .ok (.iastore, 1) := by decide +kernel
theorem dX5_keep_37 : decode cX5_keep 37 = .ok (.iinc 1 1, 3) := by decide +kernel
theorem dX5_keep_40 : decode cX5_keep 40 = .ok (.goto (-27), 3) := by decide +kernel
theorem dX5_keep_43 : decode cX5_keep 43 = .ok (.aload_n 0, 1) := by decide +kernel
theorem dX5_keep_44 : decode cX5_keep 44 = .ok (.dup, 1) := by decide +kernel
theorem dX5_keep_45 : decode cX5_keep 45 = .ok (.getfield 86, 3) := by decide +kernel
theorem dX5_keep_48 : decode cX5_keep 48 = .ok (.iconst 1, 1) := by decide +kernel
theorem dX5_keep_49 : decode cX5_keep 49 = .ok (.iadd, 1) := by decide +kernel
theorem dX5_keep_50 : decode cX5_keep 50 = .ok (.putfield 86, 3) := by decide +kernel
theorem dX5_keep_53 : decode cX5_keep 53 = .ok (.aload_n 0, 1) := by decide +kernel
theorem dX5_keep_54 : decode cX5_keep 54 = .ok (.getfield 86, 3) := by decide +kernel
theorem dX5_keep_57 : decode cX5_keep 57 = .ok (.ireturn, 1) := by decide +kernel
theorem dX5_back_0 : decode cX5_back 0 = .ok (.aload_n 0, 1) := by decide +kernel
theorem dX5_back_1 : decode cX5_back 1 = .ok (.getfield 86, 3) := by decide +kernel
theorem dX5_back_4 : decode cX5_back 4 = .ok (.ifCond .ne 6, 3) := by decide +kernel
theorem dX5_back_7 : decode cX5_back 7 = .ok (.bipush (-2), 2) := by decide +kernel
theorem dX5_back_9 : decode cX5_back 9 = .ok (.ireturn, 1) := by decide +kernel
theorem dX5_back_10 : decode cX5_back 10 = .ok (.aload_n 0, 1) := by decide +kernel
theorem dX5_back_11 : decode cX5_back 11 = .ok (.dup, 1) := by decide +kernel
theorem dX5_back_12 : decode cX5_back 12 = .ok (.getfield 86, 3) := by decide +kernel
theorem dX5_back_15 : decode cX5_back 15 = .ok (.iconst 1, 1) := by decide +kernel
theorem dX5_back_16 : decode cX5_back 16 = .ok (.isub, 1) := by decide +kernel
theorem dX5_back_17 : decode cX5_back 17 = .ok (.putfield 86, 3) := by decide +kernel
theorem dX5_back_20 : decode cX5_back 20 = .ok (.iconst 0, 1) := by decide +kernel
theorem dX5_back_21 : decode cX5_back 21 = .ok (.istore_n 1, 1) := by decide +kernel
theorem dX5_back_22 : decode cX5_back 22 = .ok (.iload_n 1, 1) := by decide +kernel
theorem dX5_back_23 : decode cX5_back 23 = .ok (.iconst 5, 1) := by decide +kernel
theorem dX5_back_24 : decode cX5_back 24 = .ok (.if_icmp .ge 28, 3) := by decide +kernel
theorem dX5_back_27 : decode cX5_back 27 = .ok (.aload_n 0, 1) := by decide +kernel
theorem dX5_back_28 : decode cX5_back 28 = .ok (.getfield 16, 3) := by decide +kernel
theorem dX5_back_31 : decode cX5_back 31 = .ok (.iload_n 1, 1) := by decide +kernel
theorem dX5_back_32 : decode cX5_back 32 = .ok (.aload_n 0, 1) := by decide +kernel
theorem dX5_back_33 : decode cX5_back 33 = .ok (.getfield 22, 3) := by decide +kernel
theorem dX5_back_36 : decode cX5_back 36 = .ok (.iconst 5, 1) := by decide +kernel
theorem dX5_back_37 : decode cX5_back 37 = .ok (.aload_n 0, 1) := by decide +kernel
theorem dX5_back_38 : decode cX5_back 38 = .ok (.getfield 86, 3) := by decide +kernel
theorem dX5_back_41 : decode cX5_back 41 = .ok (.imul, 1) := by decide +kernel
theorem dX5_back_42 : decode cX5_back 42 = .ok (.iload_n 1, 1) := by decide +kernel
theorem dX5_back_43 : decode cX5_back 43 = .ok (.iadd, 1) := by decide +kernel
theorem dX5_back_44 : decode cX5_back 44 = .ok (.iaload, 1) := by decide +kernel
theorem dX5_back_45 : decode cX5_back 45 = .ok (.iastore, 1) := by decide +kernel
theorem dX5_back_46 : decode cX5_back 46 = .ok (.iinc 1 1, 3) := by decide +kernel
theorem dX5_back_49 : decode cX5_back 49 = .ok (.goto (-27), 3) := by decide +kernel
theorem dX5_back_52 : decode cX5_back 52 = .ok (.aload_n 0, 1) := by decide +kernel
theorem dX5_back_53 : decode cX5_back 53 = .ok (.iconst 0, 1) := by decide +kernel
theorem dX5_back_54 : decode cX5_back 54 = .ok (.putfield 83, 3) := by decide +kernel
theorem dX5_back_57 : decode cX5_back 57 = .ok (.aload_n 0, 1) := by decide +kernel
theorem dX5_back_58 : decode cX5_back 58 = .ok (.getfield 86, 3) := by decide +kernel
theorem dX5_back_61 : decode cX5_back 61 = .ok (.ireturn, 1) := by decide +kernel
theorem dX5_count_0 : decode cX5_count 0 = .ok (.iload_n 1, 1) := by decide +kernel
theorem dX5_count_1 : decode cX5_count 1 = .ok (.tableswitch 111 0 8 #[51, 65, 72, 79, 84, 91, 96, 101, 106], 51) := by decide +kernel
theorem dX5_count_52 : decode cX5_count 52 = .ok (.aload_n 0, 1) := by decide +kernel
theorem dX5_count_53 : decode cX5_count 53 = .ok (.getfield 16, 3) := by decide +kernel
theorem dX5_count_56 : decode cX5_count 56 = .ok (.iconst 0, 1) := by decide +kernel
theorem dX5_count_57 : decode cX5_count 57 = .ok (.iaload, 1) := by decide +kernel
theorem dX5_count_58 : decode cX5_count 58 = .ok (.aload_n 0, 1) := by decide +kernel
theorem dX5_count_59 : decode cX5_count 59 = .ok (.getfield 16, 3) := by decide +kernel
theorem dX5_count_62 : decode cX5_count 62 = .ok (.iconst 1, 1) := by decide +kernel
theorem dX5_count_63 : decode cX5_count 63 = .ok (.iaload, 1) := by decide +kernel
theorem dX5_count_64 : decode cX5_count 64 = .ok (.iadd, 1) := by decide +kernel
theorem dX5_count_65 : decode cX5_count 65 = .ok (.ireturn, 1) := by decide +kernel
theorem dX5_count_66 : decode cX5_count 66 = .ok (.aload_n 0, 1) := by decide +kernel
theorem dX5_count_67 : decode cX5_count 67 = .ok (.getfield 16, 3) := by decide +kernel
theorem dX5_count_70 : decode cX5_count 70 = .ok (.iconst 3, 1) := by decide +kernel
theorem dX5_count_71 : decode cX5_count 71 = .ok (.iaload, 1) := by decide +kernel
theorem dX5_count_72 : decode cX5_count 72 = .ok (.ireturn, 1) := by decide +kernel
theorem dX5_count_73 : decode cX5_count 73 = .ok (.aload_n 0, 1) := by decide +kernel
theorem dX5_count_74 : decode cX5_count 74 = .ok (.getfield 16, 3) := by decide +kernel
theorem dX5_count_77 : decode cX5_count 77 = .ok (.iconst 4, 1) := by decide +kernel
theorem dX5_count_78 : decode cX5_count 78 = .ok (.iaload, 1) := by decide +kernel
theorem dX5_count_79 : decode cX5_count 79 = .ok (.ireturn, 1) := by decide +kernel
theorem dX5_count_80 : decode cX5_count 80 = .ok (.aload_n 0, 1) := by decide +kernel
theorem dX5_count_81 : decode cX5_count 81 = .ok (.getfield 80, 3) := by decide +kernel
theorem dX5_count_84 : decode cX5_count 84 = .ok (.ireturn, 1) := by decide +kernel
theorem dX5_count_85 : decode cX5_count 85 = .ok (.aload_n 0, 1) := by decide +kernel
theorem dX5_count_86 : decode cX5_count 86 = .ok (.getfield 16, 3) := by decide +kernel
theorem dX5_count_89 : decode cX5_count 89 = .ok (.iconst 2, 1) := by decide +kernel
theorem dX5_count_90 : decode cX5_count 90 = .ok (.iaload, 1) := by decide +kernel
theorem dX5_count_91 : decode cX5_count 91 = .ok (.ireturn, 1) := by decide +kernel
theorem dX5_count_92 : decode cX5_count 92 = .ok (.aload_n 0, 1) := by decide +kernel
theorem dX5_count_93 : decode cX5_count 93 = .ok (.getfield 89, 3) := by decide +kernel
theorem dX5_count_96 : decode cX5_count 96 = .ok (.ireturn, 1) := by decide +kernel
theorem dX5_count_97 : decode cX5_count 97 = .ok (.aload_n 0, 1) := by decide +kernel
theorem dX5_count_98 : decode cX5_count 98 = .ok (.getfield 83, 3) := by decide +kernel
theorem dX5_count_101 : decode cX5_count 101 = .ok (.ireturn, 1) := by decide +kernel
theorem dX5_count_102 : decode cX5_count 102 = .ok (.aload_n 0, 1) := by decide +kernel
theorem dX5_count_103 : decode cX5_count 103 = .ok (.getfield 86, 3) := by decide +kernel
theorem dX5_count_106 : decode cX5_count 106 = .ok (.ireturn, 1) := by decide +kernel
theorem dX5_count_107 : decode cX5_count 107 = .ok (.aload_n 0, 1) := by decide +kernel
theorem dX5_count_108 : decode cX5_count 108 = .ok (.getfield 51, 3) := by decide +kernel
theorem dX5_count_111 : decode cX5_count 111 = .ok (.ireturn, 1) := by decide +kernel
theorem dX5_count_112 : decode cX5_count 112 = .ok (.iconst (-1), 1) := by decide +kernel
theorem dX5_count_113 : decode cX5_count 113 = .ok (.ireturn, 1) := by decide +kernel
end
section
abbrev eX0 (a : Nat) (f0 : Int32) (f1 : Int32) (f2 : Int32) (f3 : Int32) (f4 : Int32) : Nat × va_E := (a, .inr (0, [.int f0, .int f1, .int f2, .int f3, .int f4]))
abbrev eX1 (a : Nat) (f0 : Nat) (f1 : Int32) : Nat × va_E := (a, .inr (1, [.ref f0, .int f1]))
abbrev eX2 (a : Nat) (f0 : Nat) (f1 : Int32) (f2 : Int32) (f3 : Int32) (f4 : Int32) (f5 : Nat) (f6 : Int32) : Nat × va_E := (a, .inr (2, [.ref f0, .int f1, .int f2, .int f3, .int f4, .ref f5, .int f6]))
abbrev eX3 (a : Nat) (f0 : Nat) (f1 : Nat) (f2 : Nat) (f3 : Int32) (f4 : Int32) (f5 : Int32) (f6 : Int32) (f7 : Int64) (f8 : Int64) : Nat × va_E := (a, .inr (3, [.ref f0, .ref f1, .ref f2, .int f3, .int f4, .int f5, .int f6, .long f7, .long f8]))
abbrev eX4 (a : Nat) (f0 : Nat) (f1 : Nat) (f2 : Nat) (f3 : Nat) (f4 : Nat) (f5 : Nat) (f6 : Nat) (f7 : Nat) (f8 : Int32) (f9 : Int32) : Nat × va_E := (a, .inr (4, [.ref f0, .ref f1, .ref f2, .ref f3, .ref f4, .ref f5, .ref f6, .ref f7, .int f8, .int f9]))
abbrev eX5 (a : Nat) (f0 : Nat) (f1 : Int32) (f2 : Nat) (f3 : Nat) (f4 : Int32) (f5 : Nat) (f6 : Int32) (f7 : Nat) (f8 : Int32) (f9 : Nat) (f10 : Int32) (f11 : Int32) (f12 : Nat) (f13 : Nat) (f14 : Nat) (f15 : Nat) (f16 : Int64) : Nat × va_E := (a, .inr (5, [.ref f0, .int f1, .ref f2, .ref f3, .int f4, .ref f5, .int f6, .ref f7, .int f8, .ref f9, .int f10, .int f11, .ref f12, .ref f13, .ref f14, .ref f15, .long f16]))
abbrev eI (t : zT) (a n : Nat) (f : Nat → Int32) : Nat × va_E := (a, .inl (t.1, n, .inl f))
abbrev eC (t : zT) (a n : Nat) (f : Nat → Int32) : Nat × va_E := (a, .inl (t.2.2.1, n, .inl f))
abbrev eL (t : zT) (a n : Nat) (f : Nat → Int64) : Nat × va_E := (a, .inl (t.2.1, n, .inr (.inl f)))
abbrev eQ (t : zT) (a n : Nat) (f : Nat → Option Nat) : Nat × va_E := (a, .inl (t.2.2.2, n, .inr (.inr (.inr (.inr f)))))
/-- a row of natural numbers as ints, as longs -/
abbrev nf (g : Nat → Nat) : Nat → Int32 := fun i => nI (g i)
abbrev lf (g : Nat → Nat) : Nat → Int64 := fun i => lN (g i)
def vup {α : Type} (g : Nat → α) (j : Nat) (x : α) : Nat → α := fun i => if i = j then x else g i
theorem vup_s {α : Type} (g : Nat → α) (j : Nat) (x : α) : vup g j x j = x := by simp [vup]
theorem vup_n {α : Type} {g : Nat → α} {j i : Nat} {x : α} (h : i ≠ j) : vup g j x i = g i := by simp [vup, h]
theorem upd_nf (g : Nat → Nat) (j x : Nat) : upd (nf g) j (nI x) = nf (vup g j x) := by
  funext i; by_cases h : i = j <;> simp [upd, vup, nf, h]
theorem updL_lf (g : Nat → Nat) (j x : Nat) : vp_updL (lf g) j (lN x) = lf (vup g j x) := by
  funext i; by_cases h : i = j <;> simp [vp_updL, vup, lf, h]
theorem nI_inc (i : Nat) : nI i + Int32.ofInt 1 = nI (i + 1) := nI_1 i
theorem nI_incc (i c : Nat) : nI i + Int32.ofInt (c : Int) = nI (i + c) := nI_add i c
def zb (P : Prop) [Decidable P] : Int32 := if P then 1 else 0
theorem zb_t {P : Prop} [Decidable P] (h : P) : (1 : Int32) = zb P := by simp [zb, h]
theorem zb_f {P : Prop} [Decidable P] (h : ¬ P) : (0 : Int32) = zb P := by simp [zb, h]
theorem nzb_t {P : Prop} [Decidable P] (h : P) : nI 1 = zb P := by simp [zb, h]; rfl
theorem nzb_f {P : Prop} [Decidable P] (h : ¬ P) : nI 0 = zb P := by simp [zb, h]; rfl
theorem zb_eq0 {P : Prop} [Decidable P] : zb P = 0 ↔ ¬ P := by by_cases h : P <;> simp [zb, h]
theorem zb_congr {P Q : Prop} [Decidable P] [Decidable Q] (h : P ↔ Q) : zb P = zb Q := by simp [zb, h]
theorem zb_nar (P : Prop) [Decidable P] : narrow .boolean (.int (zb P)) = .int (zb P) := by by_cases h : P <;> simp [zb, h] <;> rfl
theorem zb1_nar : narrow .boolean (.int (nI 1)) = .int (nI 1) := rfl
theorem zb0_nar : narrow .boolean (.int (nI 0)) = .int (nI 0) := rfl
section ZN
variable {D : va_G} {t : zT} {k : zK} {b : ByteArray} {n : Nat} {own nm : String} {rm : Room} {l0 : Launch} {cs : Nat × Nat} {ws : va_W} {pc : Nat} {lv : List (Nat × Value)} {st : List Value}
theorem z_icmp_eqN (X : zX D t k b n own nm rm l0) {x y : Nat} {off : Int} (tgt : Nat) (hx : x < 2 ^ 31) (hy : y < 2 ^ 31) (hd : decode b pc = .ok (.if_icmp .eq off, 3)) (ht : (pc : Int) + off = (tgt : Int)) (kt : x = y → Z D k cs ws tgt lv st) (kf : ¬ (x = y) → Z D k cs ws (pc + 3) lv st) : Z D k cs ws pc lv (.int (nI y) :: .int (nI x) :: st) := z_icmp_eq X tgt hd ht (fun h => kt ((nI_eq hx hy).mp h)) (fun h => kf (fun z => h ((nI_eq hx hy).mpr z)))
theorem z_icmp_neN (X : zX D t k b n own nm rm l0) {x y : Nat} {off : Int} (tgt : Nat) (hx : x < 2 ^ 31) (hy : y < 2 ^ 31) (hd : decode b pc = .ok (.if_icmp .ne off, 3)) (ht : (pc : Int) + off = (tgt : Int)) (kt : ¬ x = y → Z D k cs ws tgt lv st) (kf : x = y → Z D k cs ws (pc + 3) lv st) : Z D k cs ws pc lv (.int (nI y) :: .int (nI x) :: st) := z_icmp_ne X tgt hd ht (fun h => kt (fun z => h ((nI_eq hx hy).mpr z))) (fun h => kf ((nI_eq hx hy).mp h))
theorem z_icmp_ltN (X : zX D t k b n own nm rm l0) {x y : Nat} {off : Int} (tgt : Nat) (hx : x < 2 ^ 31) (hy : y < 2 ^ 31) (hd : decode b pc = .ok (.if_icmp .lt off, 3)) (ht : (pc : Int) + off = (tgt : Int)) (kt : x < y → Z D k cs ws tgt lv st) (kf : ¬ (x < y) → Z D k cs ws (pc + 3) lv st) : Z D k cs ws pc lv (.int (nI y) :: .int (nI x) :: st) := z_icmp_lt X tgt hd ht (fun h => kt ((nI_ltI hx hy).mp h)) (fun h => kf (fun z => h ((nI_ltI hx hy).mpr z)))
theorem z_icmp_geN (X : zX D t k b n own nm rm l0) {x y : Nat} {off : Int} (tgt : Nat) (hx : x < 2 ^ 31) (hy : y < 2 ^ 31) (hd : decode b pc = .ok (.if_icmp .ge off, 3)) (ht : (pc : Int) + off = (tgt : Int)) (kt : y ≤ x → Z D k cs ws tgt lv st) (kf : ¬ (y ≤ x) → Z D k cs ws (pc + 3) lv st) : Z D k cs ws pc lv (.int (nI y) :: .int (nI x) :: st) := z_icmp_ge X tgt hd ht (fun h => kt ((nI_leI hy hx).mp h)) (fun h => kf (fun z => h ((nI_leI hy hx).mpr z)))
theorem z_icmp_gtN (X : zX D t k b n own nm rm l0) {x y : Nat} {off : Int} (tgt : Nat) (hx : x < 2 ^ 31) (hy : y < 2 ^ 31) (hd : decode b pc = .ok (.if_icmp .gt off, 3)) (ht : (pc : Int) + off = (tgt : Int)) (kt : y < x → Z D k cs ws tgt lv st) (kf : ¬ (y < x) → Z D k cs ws (pc + 3) lv st) : Z D k cs ws pc lv (.int (nI y) :: .int (nI x) :: st) := z_icmp_gt X tgt hd ht (fun h => kt ((nI_ltI hy hx).mp h)) (fun h => kf (fun z => h ((nI_ltI hy hx).mpr z)))
theorem z_icmp_leN (X : zX D t k b n own nm rm l0) {x y : Nat} {off : Int} (tgt : Nat) (hx : x < 2 ^ 31) (hy : y < 2 ^ 31) (hd : decode b pc = .ok (.if_icmp .le off, 3)) (ht : (pc : Int) + off = (tgt : Int)) (kt : x ≤ y → Z D k cs ws tgt lv st) (kf : ¬ (x ≤ y) → Z D k cs ws (pc + 3) lv st) : Z D k cs ws pc lv (.int (nI y) :: .int (nI x) :: st) := z_icmp_le X tgt hd ht (fun h => kt ((nI_leI hx hy).mp h)) (fun h => kf (fun z => h ((nI_leI hx hy).mpr z)))
theorem z_if_eqN (X : zX D t k b n own nm rm l0) {x : Nat} {off : Int} (tgt : Nat) (hx : x < 2 ^ 31) (hd : decode b pc = .ok (.ifCond .eq off, 3)) (ht : (pc : Int) + off = (tgt : Int)) (kt : x = 0 → Z D k cs ws tgt lv st) (kf : ¬ x = 0 → Z D k cs ws (pc + 3) lv st) : Z D k cs ws pc lv (.int (nI x) :: st) := z_if_eq X tgt hd ht (fun h => kt ((nI_eq hx (by decide)).mp (h.trans nI_0.symm))) (fun h => kf (fun z => h (z ▸ nI_0)))
theorem z_if_neN (X : zX D t k b n own nm rm l0) {x : Nat} {off : Int} (tgt : Nat) (hx : x < 2 ^ 31) (hd : decode b pc = .ok (.ifCond .ne off, 3)) (ht : (pc : Int) + off = (tgt : Int)) (kt : ¬ x = 0 → Z D k cs ws tgt lv st) (kf : x = 0 → Z D k cs ws (pc + 3) lv st) : Z D k cs ws pc lv (.int (nI x) :: st) := z_if_ne X tgt hd ht (fun h => kt (fun z => h (z ▸ nI_0))) (fun h => kf ((nI_eq hx (by decide)).mp (h.trans nI_0.symm)))
theorem z_if_ltN (X : zX D t k b n own nm rm l0) {x : Nat} {off : Int} (tgt : Nat) (hx : x < 2 ^ 31) (hd : decode b pc = .ok (.ifCond .lt off, 3)) (ht : (pc : Int) + off = (tgt : Int)) (kf : Z D k cs ws (pc + 3) lv st) : Z D k cs ws pc lv (.int (nI x) :: st) := z_if_lt X tgt hd ht (fun h => absurd h (nI_pos hx)) (fun _ => kf)
theorem z_if_geN (X : zX D t k b n own nm rm l0) {x : Nat} {off : Int} (tgt : Nat) (hx : x < 2 ^ 31) (hd : decode b pc = .ok (.ifCond .ge off, 3)) (ht : (pc : Int) + off = (tgt : Int)) (kt : Z D k cs ws tgt lv st) : Z D k cs ws pc lv (.int (nI x) :: st) := z_if_ge X tgt hd ht (fun _ => kt) (fun h => absurd (nI_pos' hx) h)
theorem z_if_leN (X : zX D t k b n own nm rm l0) {x : Nat} {off : Int} (tgt : Nat) (hx : x < 2 ^ 31) (hd : decode b pc = .ok (.ifCond .le off, 3)) (ht : (pc : Int) + off = (tgt : Int)) (kt : x = 0 → Z D k cs ws tgt lv st) (kf : 0 < x → Z D k cs ws (pc + 3) lv st) : Z D k cs ws pc lv (.int (nI x) :: st) := z_if_le X tgt hd ht (fun h => kt (by rw [← nI_0] at h; have := (nI_leI hx (by decide)).mp h; omega)) (fun h => kf (by rcases Nat.eq_zero_or_pos x with q | q; exact absurd (by rw [q, nI_0]; exact Int32.le_refl _) h; exact q))
theorem z_if_gtN (X : zX D t k b n own nm rm l0) {x : Nat} {off : Int} (tgt : Nat) (hx : x < 2 ^ 31) (hd : decode b pc = .ok (.ifCond .gt off, 3)) (ht : (pc : Int) + off = (tgt : Int)) (kt : 0 < x → Z D k cs ws tgt lv st) (kf : x = 0 → Z D k cs ws (pc + 3) lv st) : Z D k cs ws pc lv (.int (nI x) :: st) := z_if_gt X tgt hd ht (fun h => kt (by rw [← nI_0] at h; exact (nI_ltI (by decide) hx).mp h)) (fun h => kf (by rcases Nat.eq_zero_or_pos x with q | q; exact q; exact absurd (by rw [← nI_0]; exact (nI_ltI (by decide) hx).mpr q) h))
theorem z_if_eqB (X : zX D t k b n own nm rm l0) {P : Prop} [Decidable P] {off : Int} (tgt : Nat) (hd : decode b pc = .ok (.ifCond .eq off, 3)) (ht : (pc : Int) + off = (tgt : Int)) (kt : ¬ P → Z D k cs ws tgt lv st) (kf : P → Z D k cs ws (pc + 3) lv st) : Z D k cs ws pc lv (.int (zb P) :: st) := z_if_eq X tgt hd ht (fun h => kt (zb_eq0.mp h)) (fun h => kf (Decidable.not_not.mp (fun z => h (zb_eq0.mpr z))))
theorem z_if_neB (X : zX D t k b n own nm rm l0) {P : Prop} [Decidable P] {off : Int} (tgt : Nat) (hd : decode b pc = .ok (.ifCond .ne off, 3)) (ht : (pc : Int) + off = (tgt : Int)) (kt : P → Z D k cs ws tgt lv st) (kf : ¬ P → Z D k cs ws (pc + 3) lv st) : Z D k cs ws pc lv (.int (zb P) :: st) := z_if_ne X tgt hd ht (fun h => kt (Decidable.not_not.mp (fun z => h (zb_eq0.mpr z)))) (fun h => kf (zb_eq0.mp h))
theorem z_lcmp_eqN (X : zX D t k b n own nm rm l0) {x y : Nat} {off : Int} (tgt : Nat) (hx : x < 2 ^ 63) (hy : y < 2 ^ 63) (hd1 : decode b pc = .ok (.lcmp, 1)) (hd : decode b (pc + 1) = .ok (.ifCond .eq off, 3)) (ht : ((pc + 1 : Nat) : Int) + off = (tgt : Int)) (kt : x = y → Z D k cs ws tgt lv st) (kf : ¬ (x = y) → Z D k cs ws (pc + 4) lv st) : Z D k cs ws pc lv (.long (lN y) :: .long (lN x) :: st) := z_lcmp_eq X tgt hd1 hd ht (fun h => kt ((pk_lEQ hx hy).mp h)) (fun h => kf (fun z => h ((pk_lEQ hx hy).mpr z)))
theorem z_lcmp_ltN (X : zX D t k b n own nm rm l0) {x y : Nat} {off : Int} (tgt : Nat) (hx : x < 2 ^ 63) (hy : y < 2 ^ 63) (hd1 : decode b pc = .ok (.lcmp, 1)) (hd : decode b (pc + 1) = .ok (.ifCond .lt off, 3)) (ht : ((pc + 1 : Nat) : Int) + off = (tgt : Int)) (kt : x < y → Z D k cs ws tgt lv st) (kf : ¬ (x < y) → Z D k cs ws (pc + 4) lv st) : Z D k cs ws pc lv (.long (lN y) :: .long (lN x) :: st) := z_lcmp_lt X tgt hd1 hd ht (fun h => kt ((pk_lLT hx hy).mp h)) (fun h => kf (fun z => h ((pk_lLT hx hy).mpr z)))
theorem z_lcmp_geN (X : zX D t k b n own nm rm l0) {x y : Nat} {off : Int} (tgt : Nat) (hx : x < 2 ^ 63) (hy : y < 2 ^ 63) (hd1 : decode b pc = .ok (.lcmp, 1)) (hd : decode b (pc + 1) = .ok (.ifCond .ge off, 3)) (ht : ((pc + 1 : Nat) : Int) + off = (tgt : Int)) (kt : y ≤ x → Z D k cs ws tgt lv st) (kf : ¬ (y ≤ x) → Z D k cs ws (pc + 4) lv st) : Z D k cs ws pc lv (.long (lN y) :: .long (lN x) :: st) := z_lcmp_ge X tgt hd1 hd ht (fun h => kt ((pk_lLE hy hx).mp h)) (fun h => kf (fun z => h ((pk_lLE hy hx).mpr z)))
theorem z_lcmp_gtN (X : zX D t k b n own nm rm l0) {x y : Nat} {off : Int} (tgt : Nat) (hx : x < 2 ^ 63) (hy : y < 2 ^ 63) (hd1 : decode b pc = .ok (.lcmp, 1)) (hd : decode b (pc + 1) = .ok (.ifCond .gt off, 3)) (ht : ((pc + 1 : Nat) : Int) + off = (tgt : Int)) (kt : y < x → Z D k cs ws tgt lv st) (kf : ¬ (y < x) → Z D k cs ws (pc + 4) lv st) : Z D k cs ws pc lv (.long (lN y) :: .long (lN x) :: st) := z_lcmp_gt X tgt hd1 hd ht (fun h => kt ((pk_lLT hy hx).mp h)) (fun h => kf (fun z => h ((pk_lLT hy hx).mpr z)))
theorem z_lcmp_leN (X : zX D t k b n own nm rm l0) {x y : Nat} {off : Int} (tgt : Nat) (hx : x < 2 ^ 63) (hy : y < 2 ^ 63) (hd1 : decode b pc = .ok (.lcmp, 1)) (hd : decode b (pc + 1) = .ok (.ifCond .le off, 3)) (ht : ((pc + 1 : Nat) : Int) + off = (tgt : Int)) (kt : x ≤ y → Z D k cs ws tgt lv st) (kf : ¬ (x ≤ y) → Z D k cs ws (pc + 4) lv st) : Z D k cs ws pc lv (.long (lN y) :: .long (lN x) :: st) := z_lcmp_le X tgt hd1 hd ht (fun h => kt ((pk_lLE hx hy).mp h)) (fun h => kf (fun z => h ((pk_lLE hx hy).mpr z)))
theorem z_lcmp_neN (X : zX D t k b n own nm rm l0) {x y : Nat} {off : Int} (tgt : Nat) (hx : x < 2 ^ 63) (hy : y < 2 ^ 63) (hd1 : decode b pc = .ok (.lcmp, 1)) (hd : decode b (pc + 1) = .ok (.ifCond .ne off, 3)) (ht : ((pc + 1 : Nat) : Int) + off = (tgt : Int)) (kt : ¬ x = y → Z D k cs ws tgt lv st) (kf : x = y → Z D k cs ws (pc + 4) lv st) : Z D k cs ws pc lv (.long (lN y) :: .long (lN x) :: st) := z_lcmp_ne X tgt hd1 hd ht (fun h => kt (fun z => h ((pk_lEQ hx hy).mpr z))) (fun h => kf ((pk_lEQ hx hy).mp h))
theorem arrV_cong {cA : ClassId} {N : Nat} {f g : Nat → Value} (h : ∀ j, j < N → f j = g j) : arrV cA N f = arrV cA N g := by
  have e : (fun j : Fin N => f j.val) = fun j : Fin N => g j.val := funext fun j => h j.val j.isLt
  simp only [arrV, e]
theorem z_cellrow {a : Nat} {e1 e2 : va_E} (q : Nat) (ws2 : va_W) (he : ws[q]? = some (a, e1)) (h : ∀ H : Heap, va_at D vwCl (a, e1) H → va_at D vwCl (a, e2) H) (hw : ws.set q (a, e2) = ws2) (kk : Z D k cs ws2 pc lv st) : Z D k cs ws pc lv st := by
  obtain ⟨p, l, e, R, s, m, args, below, meth, c, nL, A, Q⟩ := k
  intro H locs ls hP hD hS hl
  subst hw
  exact kk H locs ls (hP.set hD he (h H (hP q _ he)) (fun _ _ => rfl)) (hD.set he) hS hl
/-- a row may be said otherwise, where it is the same below its length -/
theorem z_lrow {a N : Nat} {cA : ClassId} {f : Nat → Int64} (q : Nat) (g : Nat → Int64) (ws2 : va_W) (he : ws[q]? = some (a, .inl (cA, N, .inr (.inl f)))) (h : ∀ j, j < N → f j = g j) (hw : ws.set q (a, .inl (cA, N, .inr (.inl g))) = ws2) (kk : Z D k cs ws2 pc lv st) : Z D k cs ws pc lv st :=
  z_cellrow q ws2 he (fun H hz => by
    have hz : H[a]? = some (arrV cA N (fun j => .long (f j))) := hz
    show H[a]? = some (arrV cA N (fun j => .long (g j)))
    rw [hz, arrV_cong (fun j hj => by rw [h j hj])]) hw kk
theorem z_irow {a N : Nat} {cA : ClassId} {f : Nat → Int32} (q : Nat) (g : Nat → Int32) (ws2 : va_W) (he : ws[q]? = some (a, .inl (cA, N, .inl f))) (h : ∀ j, j < N → f j = g j) (hw : ws.set q (a, .inl (cA, N, .inl g)) = ws2) (kk : Z D k cs ws2 pc lv st) : Z D k cs ws pc lv st :=
  z_cellrow q ws2 he (fun H hz => by
    have hz : H[a]? = some (arrV cA N (fun j => .int (f j))) := hz
    show H[a]? = some (arrV cA N (fun j => .int (g j)))
    rw [hz, arrV_cong (fun j hj => by rw [h j hj])]) hw kk
/-- the world's cells in another order -/
theorem z_perm (is : List Nat) (ws2 : va_W) (h : is.map (fun i => ws[i]?) = ws2.map some) (hn : va_nd is = true) (kk : Z D k cs ws2 pc lv st) : Z D k cs ws pc lv st := by
  obtain ⟨p, l, e, R, s, m, args, below, meth, c, nL, A, Q⟩ := k
  intro H locs ls hP hD hS hl
  exact kk H locs ls (hP.sub is (by
    have h9 := congrArg (fun z => z.filterMap id) h
    simpa [List.filterMap_map, Function.comp_def] using h9)) (hD.sub is hn h) hS hl
end ZN
theorem zdX0_init : zdesc yX0_init 0 = true := by decide +kernel
theorem zdX0_copyFrom : zdesc yX0_copyFrom 1 = true := by decide +kernel
theorem zdX0_setBoxes : zdesc yX0_setBoxes 2 = true := by decide +kernel
theorem zdX0_setBox : zdesc yX0_setBox 2 = true := by decide +kernel
theorem zdX0_setHand : zdesc yX0_setHand 2 = true := by decide +kernel
theorem zdX0_inBox : zdesc yX0_inBox 1 = true := by decide +kernel
theorem zdX0_matches : zdesc yX0_matches 0 = true := by decide +kernel
theorem zdX0_quartersToLeft : zdesc yX0_quartersToLeft 0 = true := by decide +kernel
theorem zdX0_draw : zdesc yX0_draw 1 = true := by decide +kernel
theorem zdX1_init : zdesc yX1_init 1 = true := by decide +kernel
theorem zdX1_size : zdesc yX1_size 0 = true := by decide +kernel
theorem zdX1_isFull : zdesc yX1_isFull 0 = true := by decide +kernel
theorem zdX1_clear : zdesc yX1_clear 0 = true := by decide +kernel
theorem zdX1_put : zdesc yX1_put 1 = true := by decide +kernel
theorem zdX1_takeLast : zdesc yX1_takeLast 1 = true := by decide +kernel
theorem zdX1_dropOldest : zdesc yX1_dropOldest 0 = true := by decide +kernel
theorem zdX2_init : zdesc yX2_init 0 = true := by decide +kernel
theorem zdX2_size : zdesc yX2_size 0 = true := by decide +kernel
theorem zdX2_clear : zdesc yX2_clear 0 = true := by decide +kernel
theorem zdX2_append : zdesc yX2_append 1 = true := by decide +kernel
theorem zdX2_firstFault : zdesc yX2_firstFault 0 = true := by decide +kernel
theorem zdX2_readItem : zdesc yX2_readItem 0 = true := by decide +kernel
theorem zdX2_tellBoxes : zdesc yX2_tellBoxes 0 = true := by decide +kernel
theorem zdX2_tellHand : zdesc yX2_tellHand 0 = true := by decide +kernel
theorem zdX2_tellLast : zdesc yX2_tellLast 0 = true := by decide +kernel
theorem zdX2_tellEvening : zdesc yX2_tellEvening 0 = true := by decide +kernel
theorem zdX2_readOne : zdesc yX2_readOne 0 = true := by decide +kernel
theorem zdX2_readTwo : zdesc yX2_readTwo 0 = true := by decide +kernel
theorem zdX2_readNumber : zdesc yX2_readNumber 0 = true := by decide +kernel
theorem zdX2_readFigure : zdesc yX2_readFigure 0 = true := by decide +kernel
theorem zdX2_readSign : zdesc yX2_readSign 1 = true := by decide +kernel
theorem zdX2_letterHere : zdesc yX2_letterHere 0 = true := by decide +kernel
theorem zdX3_init : zdesc yX3_init 0 = true := by decide +kernel
theorem zdX3_start : zdesc yX3_start 2 = true := by decide +kernel
theorem zdX3_advance : zdesc yX3_advance 1 = true := by decide +kernel
theorem zdX3_reachesTillEnd : zdesc yX3_reachesTillEnd 0 = true := by decide +kernel
theorem zdX3_keepOnly : zdesc yX3_keepOnly 2 = true := by decide +kernel
theorem zdX3_standing : zdesc yX3_standing 0 = true := by decide +kernel
theorem zdX3_chanceOfOther : zdesc yX3_chanceOfOther 1 = true := by decide +kernel
theorem zdX3_chanceOfLeftFirst : zdesc yX3_chanceOfLeftFirst 0 = true := by decide +kernel
theorem zdX3_chanceOfLevel : zdesc yX3_chanceOfLevel 0 = true := by decide +kernel
theorem zdX3_advanceOnce : zdesc yX3_advanceOnce 0 = true := by decide +kernel
theorem zdX3_follow : zdesc yX3_follow 4 = true := by decide +kernel
theorem zdX3_endBy : zdesc yX3_endBy 3 = true := by decide +kernel
theorem zdX3_addTo : zdesc yX3_addTo 4 = true := by decide +kernel
theorem zdX3_wipeRow : zdesc yX3_wipeRow 1 = true := by decide +kernel
theorem zdX4_init : zdesc yX4_init 0 = true := by decide +kernel
theorem zdX4_write : zdesc yX4_write 1 = true := by decide +kernel
theorem zdX4_wipe : zdesc yX4_wipe 0 = true := by decide +kernel
theorem zdX4_fault : zdesc yX4_fault 0 = true := by decide +kernel
theorem zdX4_lay : zdesc yX4_lay 0 = true := by decide +kernel
theorem zdX4_box : zdesc yX4_box 1 = true := by decide +kernel
theorem zdX4_quarters : zdesc yX4_quarters 1 = true := by decide +kernel
theorem zdX4_reach : zdesc yX4_reach 1 = true := by decide +kernel
theorem zdX4_putOver : zdesc yX4_putOver 2 = true := by decide +kernel
theorem zdX4_buy : zdesc yX4_buy 1 = true := by decide +kernel
theorem zdX4_hand : zdesc yX4_hand 2 = true := by decide +kernel
theorem zdX4_undo : zdesc yX4_undo 0 = true := by decide +kernel
theorem zdX4_left : zdesc yX4_left 2 = true := by decide +kernel
theorem zdX4_mean : zdesc yX4_mean 1 = true := by decide +kernel
theorem zdX4_soon : zdesc yX4_soon 2 = true := by decide +kernel
theorem zdX4_times : zdesc yX4_times 1 = true := by decide +kernel
theorem zdX4_likeliest : zdesc yX4_likeliest 1 = true := by decide +kernel
theorem zdX4_level : zdesc yX4_level 1 = true := by decide +kernel
theorem zdX4_worth : zdesc yX4_worth 1 = true := by decide +kernel
theorem zdX4_begin : zdesc yX4_begin 3 = true := by decide +kernel
theorem zdX4_over : zdesc yX4_over 1 = true := by decide +kernel
theorem zdX4_seen : zdesc yX4_seen 2 = true := by decide +kernel
theorem zdX4_forget : zdesc yX4_forget 0 = true := by decide +kernel
theorem zdX4_fits : zdesc yX4_fits 0 = true := by decide +kernel
theorem zdX4_asLikely : zdesc yX4_asLikely 2 = true := by decide +kernel
theorem zdX4_evenings : zdesc yX4_evenings 1 = true := by decide +kernel
theorem zdX4_which : zdesc yX4_which 0 = true := by decide +kernel
theorem zdX4_better : zdesc yX4_better 4 = true := by decide +kernel
theorem zdX4_coat : zdesc yX4_coat 3 = true := by decide +kernel
theorem zdX4_keep : zdesc yX4_keep 0 = true := by decide +kernel
theorem zdX4_back : zdesc yX4_back 0 = true := by decide +kernel
theorem zdX4_count : zdesc yX4_count 1 = true := by decide +kernel
theorem zdX4_startFrom : zdesc yX4_startFrom 3 = true := by decide +kernel
theorem zdX4_walkToEnd : zdesc yX4_walkToEnd 1 = true := by decide +kernel
theorem zdX4_reachesWith : zdesc yX4_reachesWith 2 = true := by decide +kernel
theorem zdX4_startByHand : zdesc yX4_startByHand 2 = true := by decide +kernel
theorem zdX4_reachesByHand : zdesc yX4_reachesByHand 2 = true := by decide +kernel
theorem zdX4_likeliestQuarters : zdesc yX4_likeliestQuarters 1 = true := by decide +kernel
theorem zdX4_chanceOfSeen : zdesc yX4_chanceOfSeen 2 = true := by decide +kernel
theorem zdX4_drawOf : zdesc yX4_drawOf 2 = true := by decide +kernel
theorem zdX4_tenThousandths : zdesc yX4_tenThousandths 1 = true := by decide +kernel
theorem zdX4_hundredfold : zdesc yX4_hundredfold 1 = true := by decide +kernel
theorem zdX4_handToLeft : zdesc yX4_handToLeft 5 = true := by decide +kernel
theorem zdX4_leaning : zdesc yX4_leaning 3 = true := by decide +kernel
theorem zdX4_otherSide : zdesc yX4_otherSide 1 = true := by decide +kernel
theorem zdX4_within : zdesc yX4_within 3 = true := by decide +kernel
theorem zdX4_isSide : zdesc yX4_isSide 1 = true := by decide +kernel
theorem zdX4_isEnd : zdesc yX4_isEnd 1 = true := by decide +kernel
theorem zdX4_isPart : zdesc yX4_isPart 1 = true := by decide +kernel
theorem zdX4_isKind : zdesc yX4_isKind 1 = true := by decide +kernel
theorem zdX4_isHand : zdesc yX4_isHand 2 = true := by decide +kernel
theorem zdX5_init : zdesc yX5_init 0 = true := by decide +kernel
theorem zdX5_in : zdesc yX5_in 3 = true := by decide +kernel
theorem zdX5_write : zdesc yX5_write 1 = true := by decide +kernel
theorem zdX5_wipe : zdesc yX5_wipe 0 = true := by decide +kernel
theorem zdX5_letterAt : zdesc yX5_letterAt 1 = true := by decide +kernel
theorem zdX5_isFigure : zdesc yX5_isFigure 1 = true := by decide +kernel
theorem zdX5_number : zdesc yX5_number 3 = true := by decide +kernel
theorem zdX5_begins : zdesc yX5_begins 0 = true := by decide +kernel
theorem zdX5_readsTwo : zdesc yX5_readsTwo 3 = true := by decide +kernel
theorem zdX5_readsItem : zdesc yX5_readsItem 1 = true := by decide +kernel
theorem zdX5_readsAll : zdesc yX5_readsAll 0 = true := by decide +kernel
theorem zdX5_fault : zdesc yX5_fault 0 = true := by decide +kernel
theorem zdX5_lays : zdesc yX5_lays 0 = true := by decide +kernel
theorem zdX5_lay : zdesc yX5_lay 0 = true := by decide +kernel
theorem zdX5_box : zdesc yX5_box 1 = true := by decide +kernel
theorem zdX5_toLeft : zdesc yX5_toLeft 5 = true := by decide +kernel
theorem zdX5_quarters : zdesc yX5_quarters 1 = true := by decide +kernel
theorem zdX5_keeps : zdesc yX5_keeps 0 = true := by decide +kernel
theorem zdX5_reach : zdesc yX5_reach 1 = true := by decide +kernel
theorem zdX5_putOver : zdesc yX5_putOver 2 = true := by decide +kernel
theorem zdX5_buy : zdesc yX5_buy 1 = true := by decide +kernel
theorem zdX5_hand : zdesc yX5_hand 2 = true := by decide +kernel
theorem zdX5_undo : zdesc yX5_undo 0 = true := by decide +kernel
theorem zdX5_spot : zdesc yX5_spot 3 = true := by decide +kernel
theorem zdX5_begin0 : zdesc yX5_begin0 3 = true := by decide +kernel
theorem zdX5_goes : zdesc yX5_goes 5 = true := by decide +kernel
theorem zdX5_clears : zdesc yX5_clears 0 = true := by decide +kernel
theorem zdX5_weighs : zdesc yX5_weighs 5 = true := by decide +kernel
theorem zdX5_weighsNow : zdesc yX5_weighsNow 1 = true := by decide +kernel
theorem zdX5_cut : zdesc yX5_cut 2 = true := by decide +kernel
theorem zdX5_isEnd : zdesc yX5_isEnd 1 = true := by decide +kernel
theorem zdX5_left : zdesc yX5_left 2 = true := by decide +kernel
theorem zdX5_mean : zdesc yX5_mean 1 = true := by decide +kernel
theorem zdX5_within : zdesc yX5_within 1 = true := by decide +kernel
theorem zdX5_soon : zdesc yX5_soon 2 = true := by decide +kernel
theorem zdX5_reaches : zdesc yX5_reaches 0 = true := by decide +kernel
theorem zdX5_times : zdesc yX5_times 1 = true := by decide +kernel
theorem zdX5_likeliest : zdesc yX5_likeliest 1 = true := by decide +kernel
theorem zdX5_level : zdesc yX5_level 1 = true := by decide +kernel
theorem zdX5_reachesFrom : zdesc yX5_reachesFrom 2 = true := by decide +kernel
theorem zdX5_worth : zdesc yX5_worth 1 = true := by decide +kernel
theorem zdX5_begin : zdesc yX5_begin 3 = true := by decide +kernel
theorem zdX5_over : zdesc yX5_over 1 = true := by decide +kernel
theorem zdX5_seen : zdesc yX5_seen 2 = true := by decide +kernel
theorem zdX5_forget : zdesc yX5_forget 0 = true := by decide +kernel
theorem zdX5_sightsBy : zdesc yX5_sightsBy 2 = true := by decide +kernel
theorem zdX5_fits : zdesc yX5_fits 0 = true := by decide +kernel
theorem zdX5_asLikely : zdesc yX5_asLikely 2 = true := by decide +kernel
theorem zdX5_evenings : zdesc yX5_evenings 1 = true := by decide +kernel
theorem zdX5_which : zdesc yX5_which 0 = true := by decide +kernel
theorem zdX5_better : zdesc yX5_better 4 = true := by decide +kernel
theorem zdX5_coat : zdesc yX5_coat 3 = true := by decide +kernel
theorem zdX5_keep : zdesc yX5_keep 0 = true := by decide +kernel
theorem zdX5_back : zdesc yX5_back 0 = true := by decide +kernel
theorem zdX5_count : zdesc yX5_count 1 = true := by decide +kernel
end
section
/-! PART 09: the small functions of the class, and Coat -/
theorem some_zb_t {P : Prop} [Decidable P] (h : P) : some (Value.int (nI 1)) = some (Value.int (zb P)) := by rw [nzb_t h]
theorem some_zb_f {P : Prop} [Decidable P] (h : ¬ P) : some (Value.int (nI 0)) = some (Value.int (zb P)) := by rw [nzb_f h]
theorem inR {x : Int32} {a b : Nat} (ha : a < 2 ^ 31) (hb : b < 2 ^ 31) (h : nI a ≤ x ∧ x ≤ nI b) : ∃ j : Nat, a ≤ j ∧ j ≤ b ∧ x = nI j := by
  have h0 : ¬ x < 0 := by
    intro hx
    have h1 := h.1
    simp only [Int32.lt_iff_toInt_lt, Int32.le_iff_toInt_le, nI_toInt ha, Int32.toInt_zero] at h1 hx
    omega
  obtain ⟨j, hj, rfl⟩ := nI_of h0
  exact ⟨j, (nI_leI ha hj).mp h.1, (nI_leI hj hb).mp h.2, rfl⟩
/-- by how many of four the hand reaches to the left -/
def htl (kd x l r la : Nat) : Nat :=
  if kd = 1 then (if la = 0 then x else if la = 1 then 4 - x else 2)
  else if kd = 2 then (if r < l then x else if l < r then 4 - x else 2)
  else if kd = 3 then (if l < r then x else if r < l then 4 - x else 2)
  else x
theorem htl_le {kd x l r la : Nat} (h : x ≤ 4) : htl kd x l r la ≤ 4 := by
  unfold htl
  repeat' split
  all_goals omega
abbrev rm_X4_within : Room := { frames := 0, cells := 0, slots := 0, locals := 0 }
set_option maxHeartbeats 4000000 in
set_option maxRecDepth 100000 in
theorem c_X4_within (lq : Launch) (D : va_G) (t : zT) (x a b : Int32)  : Ct lq D t yX4_within cX4_within 3 (some .boolean) rm_X4_within [.int x, .int a, .int b] [] 0 0 (fun rv rw_ => rv = some (.int (zb (a ≤ x ∧ x ≤ b))) ∧ rw_ = []) := by
  refine Ct.of (by decide) (Nat.le_of_ble_eq_true rfl) (fun k X hR => ?_)
  have X : zX D t k cX4_within 3 RX4 "within" rm_X4_within lq := X
  refine z_eq (lv2 := [(0, .int x), (1, .int a), (2, .int b)]) rfl rfl rfl ?_
  refine z_iload_n X (pc := 0) 0 dX4_within_0 rfl ?_
  refine z_iload_n X (pc := 1) 1 dX4_within_1 rfl ?_
  refine z_icmp_lt X (pc := 2) 14 dX4_within_2 (by decide) (fun c_2 => ?_) (fun c_2 => ?_)
  · skip
    refine z_iconst X (pc := 14) (nI 0) dX4_within_14 (by decide) ?_
    exact hR.z dX4_within_15 rfl ⟨some_zb_f (by simp only [Int32.lt_iff_toInt_lt, Int32.le_iff_toInt_le, ← Int32.toInt_inj] at c_2 ⊢; omega), rfl⟩
  · skip
    refine z_iload_n X (pc := 5) 0 dX4_within_5 rfl ?_
    refine z_iload_n X (pc := 6) 2 dX4_within_6 rfl ?_
    refine z_icmp_gt X (pc := 7) 14 dX4_within_7 (by decide) (fun c_7 => ?_) (fun c_7 => ?_)
    · skip
      refine z_iconst X (pc := 14) (nI 0) dX4_within_14 (by decide) ?_
      exact hR.z dX4_within_15 rfl ⟨some_zb_f (by simp only [Int32.lt_iff_toInt_lt, Int32.le_iff_toInt_le, ← Int32.toInt_inj] at c_2 c_7 ⊢; omega), rfl⟩
    · skip
      refine z_iconst X (pc := 10) (nI 1) dX4_within_10 (by decide) ?_
      refine z_goto X (pc := 11) 15 dX4_within_11 (by decide) ?_
      exact hR.z dX4_within_15 rfl ⟨some_zb_t (by simp only [Int32.lt_iff_toInt_lt, Int32.le_iff_toInt_le, ← Int32.toInt_inj] at c_2 c_7 ⊢; omega), rfl⟩

abbrev rm_X4_isSide : Room := { frames := 1, cells := 0, slots := 0, locals := 22 }
set_option maxHeartbeats 4000000 in
set_option maxRecDepth 100000 in
theorem c_X4_isSide (lq : Launch) (D : va_G) (t : zT) (x : Int32)  : Ct lq D t yX4_isSide cX4_isSide 1 (some .boolean) rm_X4_isSide [.int x] [] 0 0 (fun rv rw_ => rv = some (.int (zb (nI 0 ≤ x ∧ x ≤ nI 1))) ∧ rw_ = []) := by
  refine Ct.of (by decide) (Nat.le_of_ble_eq_true rfl) (fun k X hR => ?_)
  have X : zX D t k cX4_isSide 1 RX4 "isSide" rm_X4_isSide lq := X
  refine z_eq (lv2 := [(0, .int x)]) rfl rfl rfl ?_
  refine z_iload_n X (pc := 0) 0 dX4_isSide_0 rfl ?_
  refine z_iconst X (pc := 1) (nI 0) dX4_isSide_1 (by decide) ?_
  refine z_iconst X (pc := 2) (nI 1) dX4_isSide_2 (by decide) ?_
  refine zc_S (as := [.int x, .int (nI 0), .int (nI 1)]) X (pc := 3) (c_X4_within lq D t x (nI 0) (nI 1) ) tw_180 tw_182 tw_1 tw_181 [] rfl rfl dX4_isSide_3 rfl zdX4_within ⟨rfl, rfl, Nat.le_of_ble_eq_true rfl, Nat.le_of_ble_eq_true rfl⟩ (Nat.le_of_ble_eq_true rfl) (Nat.zero_le _) (Nat.zero_le _) (fun v_1 w_2 hp_3 => ?_)
  obtain ⟨rfl, rfl⟩ := hp_3
  refine ⟨rfl, ?_⟩
  refine z_eq (ws2 := []) (st2 := [.int (zb ((nI 0) ≤ x ∧ x ≤ (nI 1)))]) rfl rfl rfl ?_
  exact hR.z dX4_isSide_6 (zb_nar _) ⟨rfl, rfl⟩

abbrev rm_X4_isEnd : Room := { frames := 1, cells := 0, slots := 0, locals := 22 }
set_option maxHeartbeats 4000000 in
set_option maxRecDepth 100000 in
theorem c_X4_isEnd (lq : Launch) (D : va_G) (t : zT) (x : Int32)  : Ct lq D t yX4_isEnd cX4_isEnd 1 (some .boolean) rm_X4_isEnd [.int x] [] 0 0 (fun rv rw_ => rv = some (.int (zb (nI 0 ≤ x ∧ x ≤ nI 1))) ∧ rw_ = []) := by
  refine Ct.of (by decide) (Nat.le_of_ble_eq_true rfl) (fun k X hR => ?_)
  have X : zX D t k cX4_isEnd 1 RX4 "isEnd" rm_X4_isEnd lq := X
  refine z_eq (lv2 := [(0, .int x)]) rfl rfl rfl ?_
  refine z_iload_n X (pc := 0) 0 dX4_isEnd_0 rfl ?_
  refine z_iconst X (pc := 1) (nI 0) dX4_isEnd_1 (by decide) ?_
  refine z_iconst X (pc := 2) (nI 1) dX4_isEnd_2 (by decide) ?_
  refine zc_S (as := [.int x, .int (nI 0), .int (nI 1)]) X (pc := 3) (c_X4_within lq D t x (nI 0) (nI 1) ) tw_180 tw_182 tw_1 tw_181 [] rfl rfl dX4_isEnd_3 rfl zdX4_within ⟨rfl, rfl, Nat.le_of_ble_eq_true rfl, Nat.le_of_ble_eq_true rfl⟩ (Nat.le_of_ble_eq_true rfl) (Nat.zero_le _) (Nat.zero_le _) (fun v_1 w_2 hp_3 => ?_)
  obtain ⟨rfl, rfl⟩ := hp_3
  refine ⟨rfl, ?_⟩
  refine z_eq (ws2 := []) (st2 := [.int (zb ((nI 0) ≤ x ∧ x ≤ (nI 1)))]) rfl rfl rfl ?_
  exact hR.z dX4_isEnd_6 (zb_nar _) ⟨rfl, rfl⟩

abbrev rm_X4_isPart : Room := { frames := 1, cells := 0, slots := 0, locals := 22 }
set_option maxHeartbeats 4000000 in
set_option maxRecDepth 100000 in
theorem c_X4_isPart (lq : Launch) (D : va_G) (t : zT) (x : Int32)  : Ct lq D t yX4_isPart cX4_isPart 1 (some .boolean) rm_X4_isPart [.int x] [] 0 0 (fun rv rw_ => rv = some (.int (zb (nI 0 ≤ x ∧ x ≤ nI 1))) ∧ rw_ = []) := by
  refine Ct.of (by decide) (Nat.le_of_ble_eq_true rfl) (fun k X hR => ?_)
  have X : zX D t k cX4_isPart 1 RX4 "isPart" rm_X4_isPart lq := X
  refine z_eq (lv2 := [(0, .int x)]) rfl rfl rfl ?_
  refine z_iload_n X (pc := 0) 0 dX4_isPart_0 rfl ?_
  refine z_iconst X (pc := 1) (nI 0) dX4_isPart_1 (by decide) ?_
  refine z_iconst X (pc := 2) (nI 1) dX4_isPart_2 (by decide) ?_
  refine zc_S (as := [.int x, .int (nI 0), .int (nI 1)]) X (pc := 3) (c_X4_within lq D t x (nI 0) (nI 1) ) tw_180 tw_182 tw_1 tw_181 [] rfl rfl dX4_isPart_3 rfl zdX4_within ⟨rfl, rfl, Nat.le_of_ble_eq_true rfl, Nat.le_of_ble_eq_true rfl⟩ (Nat.le_of_ble_eq_true rfl) (Nat.zero_le _) (Nat.zero_le _) (fun v_1 w_2 hp_3 => ?_)
  obtain ⟨rfl, rfl⟩ := hp_3
  refine ⟨rfl, ?_⟩
  refine z_eq (ws2 := []) (st2 := [.int (zb ((nI 0) ≤ x ∧ x ≤ (nI 1)))]) rfl rfl rfl ?_
  exact hR.z dX4_isPart_6 (zb_nar _) ⟨rfl, rfl⟩

abbrev rm_X4_isKind : Room := { frames := 1, cells := 0, slots := 0, locals := 22 }
set_option maxHeartbeats 4000000 in
set_option maxRecDepth 100000 in
theorem c_X4_isKind (lq : Launch) (D : va_G) (t : zT) (x : Int32)  : Ct lq D t yX4_isKind cX4_isKind 1 (some .boolean) rm_X4_isKind [.int x] [] 0 0 (fun rv rw_ => rv = some (.int (zb (nI 0 ≤ x ∧ x ≤ nI 3))) ∧ rw_ = []) := by
  refine Ct.of (by decide) (Nat.le_of_ble_eq_true rfl) (fun k X hR => ?_)
  have X : zX D t k cX4_isKind 1 RX4 "isKind" rm_X4_isKind lq := X
  refine z_eq (lv2 := [(0, .int x)]) rfl rfl rfl ?_
  refine z_iload_n X (pc := 0) 0 dX4_isKind_0 rfl ?_
  refine z_iconst X (pc := 1) (nI 0) dX4_isKind_1 (by decide) ?_
  refine z_iconst X (pc := 2) (nI 3) dX4_isKind_2 (by decide) ?_
  refine zc_S (as := [.int x, .int (nI 0), .int (nI 3)]) X (pc := 3) (c_X4_within lq D t x (nI 0) (nI 3) ) tw_180 tw_182 tw_1 tw_181 [] rfl rfl dX4_isKind_3 rfl zdX4_within ⟨rfl, rfl, Nat.le_of_ble_eq_true rfl, Nat.le_of_ble_eq_true rfl⟩ (Nat.le_of_ble_eq_true rfl) (Nat.zero_le _) (Nat.zero_le _) (fun v_1 w_2 hp_3 => ?_)
  obtain ⟨rfl, rfl⟩ := hp_3
  refine ⟨rfl, ?_⟩
  refine z_eq (ws2 := []) (st2 := [.int (zb ((nI 0) ≤ x ∧ x ≤ (nI 3)))]) rfl rfl rfl ?_
  exact hR.z dX4_isKind_6 (zb_nar _) ⟨rfl, rfl⟩

abbrev rm_X4_isHand : Room := { frames := 2, cells := 0, slots := 0, locals := 42 }
set_option maxHeartbeats 4000000 in
set_option maxRecDepth 100000 in
theorem c_X4_isHand (lq : Launch) (D : va_G) (t : zT) (kd x : Int32)  : Ct lq D t yX4_isHand cX4_isHand 2 (some .boolean) rm_X4_isHand [.int kd, .int x] [] 0 0 (fun rv rw_ => rv = some (.int (zb ((nI 0 ≤ kd ∧ kd ≤ nI 3) ∧ (nI 0 ≤ x ∧ x ≤ nI 4)))) ∧ rw_ = []) := by
  refine Ct.of (by decide) (Nat.le_of_ble_eq_true rfl) (fun k X hR => ?_)
  have X : zX D t k cX4_isHand 2 RX4 "isHand" rm_X4_isHand lq := X
  refine z_eq (lv2 := [(0, .int kd), (1, .int x)]) rfl rfl rfl ?_
  refine z_iload_n X (pc := 0) 0 dX4_isHand_0 rfl ?_
  refine zc_S (as := [.int kd]) X (pc := 1) (c_X4_isKind lq D t kd ) tw_245 tw_247 tw_1 tw_246 [] rfl rfl dX4_isHand_1 rfl zdX4_isKind ⟨rfl, rfl, Nat.le_of_ble_eq_true rfl, Nat.le_of_ble_eq_true rfl⟩ (Nat.le_of_ble_eq_true rfl) (Nat.zero_le _) (Nat.zero_le _) (fun v_1 w_2 hp_3 => ?_)
  obtain ⟨rfl, rfl⟩ := hp_3
  refine ⟨rfl, ?_⟩
  refine z_eq (ws2 := []) (st2 := [.int (zb (nI 0 ≤ kd ∧ kd ≤ nI 3))]) rfl rfl rfl ?_
  refine z_if_eqB X (pc := 4) 20 dX4_isHand_4 (by decide) (fun c_4 => ?_) (fun c_4 => ?_)
  · skip
    refine z_iconst X (pc := 20) (nI 0) dX4_isHand_20 (by decide) ?_
    exact hR.z dX4_isHand_21 rfl ⟨some_zb_f (fun z => c_4 z.1), rfl⟩
  · skip
    refine z_iload_n X (pc := 7) 1 dX4_isHand_7 rfl ?_
    refine z_iconst X (pc := 8) (nI 0) dX4_isHand_8 (by decide) ?_
    refine z_iconst X (pc := 9) (nI 4) dX4_isHand_9 (by decide) ?_
    refine zc_S (as := [.int x, .int (nI 0), .int (nI 4)]) X (pc := 10) (c_X4_within lq D t x (nI 0) (nI 4) ) tw_180 tw_182 tw_1 tw_181 [] rfl rfl dX4_isHand_10 rfl zdX4_within ⟨rfl, rfl, Nat.le_of_ble_eq_true rfl, Nat.le_of_ble_eq_true rfl⟩ (Nat.le_of_ble_eq_true rfl) (Nat.zero_le _) (Nat.zero_le _) (fun v_4 w_5 hp_6 => ?_)
    obtain ⟨rfl, rfl⟩ := hp_6
    refine ⟨rfl, ?_⟩
    refine z_eq (ws2 := []) (st2 := [.int (zb ((nI 0) ≤ x ∧ x ≤ (nI 4)))]) rfl rfl rfl ?_
    refine z_if_eqB X (pc := 13) 20 dX4_isHand_13 (by decide) (fun c_13 => ?_) (fun c_13 => ?_)
    · skip
      refine z_iconst X (pc := 20) (nI 0) dX4_isHand_20 (by decide) ?_
      exact hR.z dX4_isHand_21 rfl ⟨some_zb_f (fun z => c_13 z.2), rfl⟩
    · skip
      refine z_iconst X (pc := 16) (nI 1) dX4_isHand_16 (by decide) ?_
      refine z_goto X (pc := 17) 21 dX4_isHand_17 (by decide) ?_
      exact hR.z dX4_isHand_21 rfl ⟨some_zb_t ⟨c_4, c_13⟩, rfl⟩

abbrev rm_X4_otherSide : Room := { frames := 0, cells := 0, slots := 0, locals := 0 }
set_option maxHeartbeats 4000000 in
set_option maxRecDepth 100000 in
theorem c_X4_otherSide (lq : Launch) (D : va_G) (t : zT) (sd : Nat) (hsd : sd ≤ 1) : Ct lq D t yX4_otherSide cX4_otherSide 1 (some .int) rm_X4_otherSide [.int (nI sd)] [] 0 0 (fun rv rw_ => rv = some (.int (nI (1 - sd))) ∧ rw_ = []) := by
  refine Ct.of (by decide) (Nat.le_of_ble_eq_true rfl) (fun k X hR => ?_)
  have X : zX D t k cX4_otherSide 1 RX4 "otherSide" rm_X4_otherSide lq := X
  refine z_eq (lv2 := [(0, .int (nI sd))]) rfl rfl rfl ?_
  refine z_iload_n X (pc := 0) 0 dX4_otherSide_0 rfl ?_
  refine z_if_neN X (pc := 1) 8 (by omega) dX4_otherSide_1 (by decide) (fun c_1 => ?_) (fun c_1 => ?_)
  · skip
    refine z_iconst X (pc := 8) (nI 0) dX4_otherSide_8 (by decide) ?_
    exact hR.i dX4_otherSide_9 ⟨by rw [show 1 - sd = 0 by omega], rfl⟩
  · skip
    refine z_iconst X (pc := 4) (nI 1) dX4_otherSide_4 (by decide) ?_
    refine z_goto X (pc := 5) 9 dX4_otherSide_5 (by decide) ?_
    exact hR.i dX4_otherSide_9 ⟨by rw [show 1 - sd = 1 by omega], rfl⟩

abbrev rm_X4_leaning : Room := { frames := 0, cells := 0, slots := 0, locals := 0 }
set_option maxHeartbeats 4000000 in
set_option maxRecDepth 100000 in
theorem c_X4_leaning (lq : Launch) (D : va_G) (t : zT) (x p q : Nat) (hx : x ≤ 4) (hp : p ≤ 1) (hq : q ≤ 1) : Ct lq D t yX4_leaning cX4_leaning 3 (some .int) rm_X4_leaning [.int (nI x), .int (nI p), .int (nI q)] [] 0 0 (fun rv rw_ => rv = some (.int (nI (if ¬ p = 0 then x else if ¬ q = 0 then 4 - x else 2))) ∧ rw_ = []) := by
  refine Ct.of (by decide) (Nat.le_of_ble_eq_true rfl) (fun k X hR => ?_)
  have X : zX D t k cX4_leaning 3 RX4 "leaning" rm_X4_leaning lq := X
  refine z_eq (lv2 := [(0, .int (nI x)), (1, .int (nI p)), (2, .int (nI q))]) rfl rfl rfl ?_
  refine z_iload_n X (pc := 0) 1 dX4_leaning_0 rfl ?_
  refine z_if_eqN X (pc := 1) 6 (by omega) dX4_leaning_1 (by decide) (fun c_1 => ?_) (fun c_1 => ?_)
  · skip
    refine z_iload_n X (pc := 6) 2 dX4_leaning_6 rfl ?_
    refine z_if_eqN X (pc := 7) 16 (by omega) dX4_leaning_7 (by decide) (fun c_7 => ?_) (fun c_7 => ?_)
    · skip
      refine z_iconst X (pc := 16) (nI 2) dX4_leaning_16 (by decide) ?_
      exact hR.i dX4_leaning_17 ⟨by simp [*], rfl⟩
    · skip
      refine z_iconst X (pc := 10) (nI 4) dX4_leaning_10 (by decide) ?_
      refine z_iload_n X (pc := 11) 0 dX4_leaning_11 rfl ?_
      refine z_isub X (pc := 12) (v := (nI (4 - x))) dX4_leaning_12 (pk_sub (by omega)) ?_
      refine z_goto X (pc := 13) 17 dX4_leaning_13 (by decide) ?_
      exact hR.i dX4_leaning_17 ⟨by simp [*], rfl⟩
  · skip
    refine z_iload_n X (pc := 4) 0 dX4_leaning_4 rfl ?_
    exact hR.i dX4_leaning_5 ⟨by simp [*], rfl⟩

abbrev rm_X4_handToLeft : Room := { frames := 1, cells := 0, slots := 0, locals := 22 }
set_option maxHeartbeats 4000000 in
set_option maxRecDepth 100000 in
theorem c_X4_handToLeft (lq : Launch) (D : va_G) (t : zT) (kd x l r la : Nat) (hkd : kd ≤ 3) (hx : x ≤ 4) (hl : l < 100) (hr : r < 100) (hla : la ≤ 2) : Ct lq D t yX4_handToLeft cX4_handToLeft 5 (some .int) rm_X4_handToLeft [.int (nI kd), .int (nI x), .int (nI l), .int (nI r), .int (nI la)] [] 0 0 (fun rv rw_ => rv = some (.int (nI (htl kd x l r la))) ∧ rw_ = []) := by
  refine Ct.of (by decide) (Nat.le_of_ble_eq_true rfl) (fun k X hR => ?_)
  have X : zX D t k cX4_handToLeft 5 RX4 "handToLeft" rm_X4_handToLeft lq := X
  refine z_eq (lv2 := [(0, .int (nI kd)), (1, .int (nI x)), (2, .int (nI l)), (3, .int (nI r)), (4, .int (nI la))]) rfl rfl rfl ?_
  refine z_iload_n X (pc := 0) 0 dX4_handToLeft_0 rfl ?_
  rcases (show kd = 0 ∨ kd = 1 ∨ kd = 2 ∨ kd = 3 by omega) with rfl | rfl | rfl | rfl
  · skip
    refine z_tableOut X (pc := 1) 104 dX4_handToLeft_1 (by decide) (by decide) ?_
    refine z_iload_n X (pc := 104) 1 dX4_handToLeft_104 rfl ?_
    exact hR.i dX4_handToLeft_105 ⟨by first | rfl | (congr 3; unfold htl; (repeat' split) <;> omega), rfl⟩
  · skip
    refine z_tableIn X (pc := 1) (off := 27) 28 dX4_handToLeft_1 (by decide) (by decide) (by decide) (by decide) ?_
    refine z_iload_n X (pc := 28) 1 dX4_handToLeft_28 rfl ?_
    refine z_iload X (pc := 29) 4 dX4_handToLeft_29 rfl ?_
    refine z_if_neN X (pc := 31) 38 (by omega) dX4_handToLeft_31 (by decide) (fun c_31 => ?_) (fun c_31 => ?_)
    · skip
      refine z_iconst X (pc := 38) (nI 0) dX4_handToLeft_38 (by decide) ?_
      refine z_iload X (pc := 39) 4 dX4_handToLeft_39 rfl ?_
      refine z_iconst X (pc := 41) (nI 1) dX4_handToLeft_41 (by decide) ?_
      refine z_icmp_neN X (pc := 42) 49 (by omega) (by omega) dX4_handToLeft_42 (by decide) (fun c_42 => ?_) (fun c_42 => ?_)
      · skip
        refine z_iconst X (pc := 49) (nI 0) dX4_handToLeft_49 (by decide) ?_
        refine zc_S (as := [.int (nI x), .int (nI 0), .int (nI 0)]) X (pc := 50) (c_X4_leaning lq D t x 0 0 (by omega) (by omega) (by omega)) tw_299 tw_301 tw_1 tw_300 [] rfl rfl dX4_handToLeft_50 rfl zdX4_leaning ⟨rfl, rfl, Nat.le_of_ble_eq_true rfl, Nat.le_of_ble_eq_true rfl⟩ (Nat.le_of_ble_eq_true rfl) (Nat.zero_le _) (Nat.zero_le _) (fun v_1 w_2 hp_3 => ?_)
        obtain ⟨rfl, rfl⟩ := hp_3
        refine ⟨rfl, ?_⟩
        refine z_eq (ws2 := []) (st2 := [.int (nI (if ¬ 0 = 0 then x else if ¬ 0 = 0 then 4 - x else 2))]) rfl rfl rfl ?_
        exact hR.i dX4_handToLeft_53 ⟨by first | rfl | (congr 3; unfold htl; (repeat' split) <;> omega), rfl⟩
      · skip
        refine z_iconst X (pc := 45) (nI 1) dX4_handToLeft_45 (by decide) ?_
        refine z_goto X (pc := 46) 50 dX4_handToLeft_46 (by decide) ?_
        refine zc_S (as := [.int (nI x), .int (nI 0), .int (nI 1)]) X (pc := 50) (c_X4_leaning lq D t x 0 1 (by omega) (by omega) (by omega)) tw_299 tw_301 tw_1 tw_300 [] rfl rfl dX4_handToLeft_50 rfl zdX4_leaning ⟨rfl, rfl, Nat.le_of_ble_eq_true rfl, Nat.le_of_ble_eq_true rfl⟩ (Nat.le_of_ble_eq_true rfl) (Nat.zero_le _) (Nat.zero_le _) (fun v_4 w_5 hp_6 => ?_)
        obtain ⟨rfl, rfl⟩ := hp_6
        refine ⟨rfl, ?_⟩
        refine z_eq (ws2 := []) (st2 := [.int (nI (if ¬ 0 = 0 then x else if ¬ 1 = 0 then 4 - x else 2))]) rfl rfl rfl ?_
        exact hR.i dX4_handToLeft_53 ⟨by first | rfl | (congr 3; unfold htl; (repeat' split) <;> omega), rfl⟩
    · skip
      refine z_iconst X (pc := 34) (nI 1) dX4_handToLeft_34 (by decide) ?_
      refine z_goto X (pc := 35) 39 dX4_handToLeft_35 (by decide) ?_
      refine z_iload X (pc := 39) 4 dX4_handToLeft_39 rfl ?_
      refine z_iconst X (pc := 41) (nI 1) dX4_handToLeft_41 (by decide) ?_
      refine z_icmp_neN X (pc := 42) 49 (by omega) (by omega) dX4_handToLeft_42 (by decide) (fun c_42 => ?_) (fun c_42 => ?_)
      · skip
        refine z_iconst X (pc := 49) (nI 0) dX4_handToLeft_49 (by decide) ?_
        refine zc_S (as := [.int (nI x), .int (nI 1), .int (nI 0)]) X (pc := 50) (c_X4_leaning lq D t x 1 0 (by omega) (by omega) (by omega)) tw_299 tw_301 tw_1 tw_300 [] rfl rfl dX4_handToLeft_50 rfl zdX4_leaning ⟨rfl, rfl, Nat.le_of_ble_eq_true rfl, Nat.le_of_ble_eq_true rfl⟩ (Nat.le_of_ble_eq_true rfl) (Nat.zero_le _) (Nat.zero_le _) (fun v_7 w_8 hp_9 => ?_)
        obtain ⟨rfl, rfl⟩ := hp_9
        refine ⟨rfl, ?_⟩
        refine z_eq (ws2 := []) (st2 := [.int (nI (if ¬ 1 = 0 then x else if ¬ 0 = 0 then 4 - x else 2))]) rfl rfl rfl ?_
        exact hR.i dX4_handToLeft_53 ⟨by first | rfl | (congr 3; unfold htl; (repeat' split) <;> omega), rfl⟩
      · skip
        refine z_iconst X (pc := 45) (nI 1) dX4_handToLeft_45 (by decide) ?_
        refine z_goto X (pc := 46) 50 dX4_handToLeft_46 (by decide) ?_
        refine zc_S (as := [.int (nI x), .int (nI 1), .int (nI 1)]) X (pc := 50) (c_X4_leaning lq D t x 1 1 (by omega) (by omega) (by omega)) tw_299 tw_301 tw_1 tw_300 [] rfl rfl dX4_handToLeft_50 rfl zdX4_leaning ⟨rfl, rfl, Nat.le_of_ble_eq_true rfl, Nat.le_of_ble_eq_true rfl⟩ (Nat.le_of_ble_eq_true rfl) (Nat.zero_le _) (Nat.zero_le _) (fun v_10 w_11 hp_12 => ?_)
        obtain ⟨rfl, rfl⟩ := hp_12
        refine ⟨rfl, ?_⟩
        refine z_eq (ws2 := []) (st2 := [.int (nI (if ¬ 1 = 0 then x else if ¬ 1 = 0 then 4 - x else 2))]) rfl rfl rfl ?_
        exact hR.i dX4_handToLeft_53 ⟨by first | rfl | (congr 3; unfold htl; (repeat' split) <;> omega), rfl⟩
  · skip
    refine z_tableIn X (pc := 1) (off := 53) 54 dX4_handToLeft_1 (by decide) (by decide) (by decide) (by decide) ?_
    refine z_iload_n X (pc := 54) 1 dX4_handToLeft_54 rfl ?_
    refine z_iload_n X (pc := 55) 2 dX4_handToLeft_55 rfl ?_
    refine z_iload_n X (pc := 56) 3 dX4_handToLeft_56 rfl ?_
    refine z_icmp_leN X (pc := 57) 64 (by omega) (by omega) dX4_handToLeft_57 (by decide) (fun c_57 => ?_) (fun c_57 => ?_)
    · skip
      refine z_iconst X (pc := 64) (nI 0) dX4_handToLeft_64 (by decide) ?_
      refine z_iload_n X (pc := 65) 2 dX4_handToLeft_65 rfl ?_
      refine z_iload_n X (pc := 66) 3 dX4_handToLeft_66 rfl ?_
      refine z_icmp_geN X (pc := 67) 74 (by omega) (by omega) dX4_handToLeft_67 (by decide) (fun c_67 => ?_) (fun c_67 => ?_)
      · skip
        refine z_iconst X (pc := 74) (nI 0) dX4_handToLeft_74 (by decide) ?_
        refine zc_S (as := [.int (nI x), .int (nI 0), .int (nI 0)]) X (pc := 75) (c_X4_leaning lq D t x 0 0 (by omega) (by omega) (by omega)) tw_299 tw_301 tw_1 tw_300 [] rfl rfl dX4_handToLeft_75 rfl zdX4_leaning ⟨rfl, rfl, Nat.le_of_ble_eq_true rfl, Nat.le_of_ble_eq_true rfl⟩ (Nat.le_of_ble_eq_true rfl) (Nat.zero_le _) (Nat.zero_le _) (fun v_13 w_14 hp_15 => ?_)
        obtain ⟨rfl, rfl⟩ := hp_15
        refine ⟨rfl, ?_⟩
        refine z_eq (ws2 := []) (st2 := [.int (nI (if ¬ 0 = 0 then x else if ¬ 0 = 0 then 4 - x else 2))]) rfl rfl rfl ?_
        exact hR.i dX4_handToLeft_78 ⟨by first | rfl | (congr 3; unfold htl; (repeat' split) <;> omega), rfl⟩
      · skip
        refine z_iconst X (pc := 70) (nI 1) dX4_handToLeft_70 (by decide) ?_
        refine z_goto X (pc := 71) 75 dX4_handToLeft_71 (by decide) ?_
        refine zc_S (as := [.int (nI x), .int (nI 0), .int (nI 1)]) X (pc := 75) (c_X4_leaning lq D t x 0 1 (by omega) (by omega) (by omega)) tw_299 tw_301 tw_1 tw_300 [] rfl rfl dX4_handToLeft_75 rfl zdX4_leaning ⟨rfl, rfl, Nat.le_of_ble_eq_true rfl, Nat.le_of_ble_eq_true rfl⟩ (Nat.le_of_ble_eq_true rfl) (Nat.zero_le _) (Nat.zero_le _) (fun v_16 w_17 hp_18 => ?_)
        obtain ⟨rfl, rfl⟩ := hp_18
        refine ⟨rfl, ?_⟩
        refine z_eq (ws2 := []) (st2 := [.int (nI (if ¬ 0 = 0 then x else if ¬ 1 = 0 then 4 - x else 2))]) rfl rfl rfl ?_
        exact hR.i dX4_handToLeft_78 ⟨by first | rfl | (congr 3; unfold htl; (repeat' split) <;> omega), rfl⟩
    · skip
      refine z_iconst X (pc := 60) (nI 1) dX4_handToLeft_60 (by decide) ?_
      refine z_goto X (pc := 61) 65 dX4_handToLeft_61 (by decide) ?_
      refine z_iload_n X (pc := 65) 2 dX4_handToLeft_65 rfl ?_
      refine z_iload_n X (pc := 66) 3 dX4_handToLeft_66 rfl ?_
      refine z_icmp_geN X (pc := 67) 74 (by omega) (by omega) dX4_handToLeft_67 (by decide) (fun c_67 => ?_) (fun c_67 => ?_)
      · skip
        refine z_iconst X (pc := 74) (nI 0) dX4_handToLeft_74 (by decide) ?_
        refine zc_S (as := [.int (nI x), .int (nI 1), .int (nI 0)]) X (pc := 75) (c_X4_leaning lq D t x 1 0 (by omega) (by omega) (by omega)) tw_299 tw_301 tw_1 tw_300 [] rfl rfl dX4_handToLeft_75 rfl zdX4_leaning ⟨rfl, rfl, Nat.le_of_ble_eq_true rfl, Nat.le_of_ble_eq_true rfl⟩ (Nat.le_of_ble_eq_true rfl) (Nat.zero_le _) (Nat.zero_le _) (fun v_19 w_20 hp_21 => ?_)
        obtain ⟨rfl, rfl⟩ := hp_21
        refine ⟨rfl, ?_⟩
        refine z_eq (ws2 := []) (st2 := [.int (nI (if ¬ 1 = 0 then x else if ¬ 0 = 0 then 4 - x else 2))]) rfl rfl rfl ?_
        exact hR.i dX4_handToLeft_78 ⟨by first | rfl | (congr 3; unfold htl; (repeat' split) <;> omega), rfl⟩
      · skip
        refine z_iconst X (pc := 70) (nI 1) dX4_handToLeft_70 (by decide) ?_
        refine z_goto X (pc := 71) 75 dX4_handToLeft_71 (by decide) ?_
        refine zc_S (as := [.int (nI x), .int (nI 1), .int (nI 1)]) X (pc := 75) (c_X4_leaning lq D t x 1 1 (by omega) (by omega) (by omega)) tw_299 tw_301 tw_1 tw_300 [] rfl rfl dX4_handToLeft_75 rfl zdX4_leaning ⟨rfl, rfl, Nat.le_of_ble_eq_true rfl, Nat.le_of_ble_eq_true rfl⟩ (Nat.le_of_ble_eq_true rfl) (Nat.zero_le _) (Nat.zero_le _) (fun v_22 w_23 hp_24 => ?_)
        obtain ⟨rfl, rfl⟩ := hp_24
        refine ⟨rfl, ?_⟩
        refine z_eq (ws2 := []) (st2 := [.int (nI (if ¬ 1 = 0 then x else if ¬ 1 = 0 then 4 - x else 2))]) rfl rfl rfl ?_
        exact hR.i dX4_handToLeft_78 ⟨by first | rfl | (congr 3; unfold htl; (repeat' split) <;> omega), rfl⟩
  · skip
    refine z_tableIn X (pc := 1) (off := 78) 79 dX4_handToLeft_1 (by decide) (by decide) (by decide) (by decide) ?_
    refine z_iload_n X (pc := 79) 1 dX4_handToLeft_79 rfl ?_
    refine z_iload_n X (pc := 80) 2 dX4_handToLeft_80 rfl ?_
    refine z_iload_n X (pc := 81) 3 dX4_handToLeft_81 rfl ?_
    refine z_icmp_geN X (pc := 82) 89 (by omega) (by omega) dX4_handToLeft_82 (by decide) (fun c_82 => ?_) (fun c_82 => ?_)
    · skip
      refine z_iconst X (pc := 89) (nI 0) dX4_handToLeft_89 (by decide) ?_
      refine z_iload_n X (pc := 90) 2 dX4_handToLeft_90 rfl ?_
      refine z_iload_n X (pc := 91) 3 dX4_handToLeft_91 rfl ?_
      refine z_icmp_leN X (pc := 92) 99 (by omega) (by omega) dX4_handToLeft_92 (by decide) (fun c_92 => ?_) (fun c_92 => ?_)
      · skip
        refine z_iconst X (pc := 99) (nI 0) dX4_handToLeft_99 (by decide) ?_
        refine zc_S (as := [.int (nI x), .int (nI 0), .int (nI 0)]) X (pc := 100) (c_X4_leaning lq D t x 0 0 (by omega) (by omega) (by omega)) tw_299 tw_301 tw_1 tw_300 [] rfl rfl dX4_handToLeft_100 rfl zdX4_leaning ⟨rfl, rfl, Nat.le_of_ble_eq_true rfl, Nat.le_of_ble_eq_true rfl⟩ (Nat.le_of_ble_eq_true rfl) (Nat.zero_le _) (Nat.zero_le _) (fun v_25 w_26 hp_27 => ?_)
        obtain ⟨rfl, rfl⟩ := hp_27
        refine ⟨rfl, ?_⟩
        refine z_eq (ws2 := []) (st2 := [.int (nI (if ¬ 0 = 0 then x else if ¬ 0 = 0 then 4 - x else 2))]) rfl rfl rfl ?_
        exact hR.i dX4_handToLeft_103 ⟨by first | rfl | (congr 3; unfold htl; (repeat' split) <;> omega), rfl⟩
      · skip
        refine z_iconst X (pc := 95) (nI 1) dX4_handToLeft_95 (by decide) ?_
        refine z_goto X (pc := 96) 100 dX4_handToLeft_96 (by decide) ?_
        refine zc_S (as := [.int (nI x), .int (nI 0), .int (nI 1)]) X (pc := 100) (c_X4_leaning lq D t x 0 1 (by omega) (by omega) (by omega)) tw_299 tw_301 tw_1 tw_300 [] rfl rfl dX4_handToLeft_100 rfl zdX4_leaning ⟨rfl, rfl, Nat.le_of_ble_eq_true rfl, Nat.le_of_ble_eq_true rfl⟩ (Nat.le_of_ble_eq_true rfl) (Nat.zero_le _) (Nat.zero_le _) (fun v_28 w_29 hp_30 => ?_)
        obtain ⟨rfl, rfl⟩ := hp_30
        refine ⟨rfl, ?_⟩
        refine z_eq (ws2 := []) (st2 := [.int (nI (if ¬ 0 = 0 then x else if ¬ 1 = 0 then 4 - x else 2))]) rfl rfl rfl ?_
        exact hR.i dX4_handToLeft_103 ⟨by first | rfl | (congr 3; unfold htl; (repeat' split) <;> omega), rfl⟩
    · skip
      refine z_iconst X (pc := 85) (nI 1) dX4_handToLeft_85 (by decide) ?_
      refine z_goto X (pc := 86) 90 dX4_handToLeft_86 (by decide) ?_
      refine z_iload_n X (pc := 90) 2 dX4_handToLeft_90 rfl ?_
      refine z_iload_n X (pc := 91) 3 dX4_handToLeft_91 rfl ?_
      refine z_icmp_leN X (pc := 92) 99 (by omega) (by omega) dX4_handToLeft_92 (by decide) (fun c_92 => ?_) (fun c_92 => ?_)
      · skip
        refine z_iconst X (pc := 99) (nI 0) dX4_handToLeft_99 (by decide) ?_
        refine zc_S (as := [.int (nI x), .int (nI 1), .int (nI 0)]) X (pc := 100) (c_X4_leaning lq D t x 1 0 (by omega) (by omega) (by omega)) tw_299 tw_301 tw_1 tw_300 [] rfl rfl dX4_handToLeft_100 rfl zdX4_leaning ⟨rfl, rfl, Nat.le_of_ble_eq_true rfl, Nat.le_of_ble_eq_true rfl⟩ (Nat.le_of_ble_eq_true rfl) (Nat.zero_le _) (Nat.zero_le _) (fun v_31 w_32 hp_33 => ?_)
        obtain ⟨rfl, rfl⟩ := hp_33
        refine ⟨rfl, ?_⟩
        refine z_eq (ws2 := []) (st2 := [.int (nI (if ¬ 1 = 0 then x else if ¬ 0 = 0 then 4 - x else 2))]) rfl rfl rfl ?_
        exact hR.i dX4_handToLeft_103 ⟨by first | rfl | (congr 3; unfold htl; (repeat' split) <;> omega), rfl⟩
      · skip
        refine z_iconst X (pc := 95) (nI 1) dX4_handToLeft_95 (by decide) ?_
        refine z_goto X (pc := 96) 100 dX4_handToLeft_96 (by decide) ?_
        refine zc_S (as := [.int (nI x), .int (nI 1), .int (nI 1)]) X (pc := 100) (c_X4_leaning lq D t x 1 1 (by omega) (by omega) (by omega)) tw_299 tw_301 tw_1 tw_300 [] rfl rfl dX4_handToLeft_100 rfl zdX4_leaning ⟨rfl, rfl, Nat.le_of_ble_eq_true rfl, Nat.le_of_ble_eq_true rfl⟩ (Nat.le_of_ble_eq_true rfl) (Nat.zero_le _) (Nat.zero_le _) (fun v_34 w_35 hp_36 => ?_)
        obtain ⟨rfl, rfl⟩ := hp_36
        refine ⟨rfl, ?_⟩
        refine z_eq (ws2 := []) (st2 := [.int (nI (if ¬ 1 = 0 then x else if ¬ 1 = 0 then 4 - x else 2))]) rfl rfl rfl ?_
        exact hR.i dX4_handToLeft_103 ⟨by first | rfl | (congr 3; unfold htl; (repeat' split) <;> omega), rfl⟩

abbrev rm_X0_copyFrom : Room := { frames := 0, cells := 0, slots := 0, locals := 0 }
set_option maxHeartbeats 4000000 in
set_option maxRecDepth 100000 in
theorem c_X0_copyFrom (lq : Launch) (D : va_G) (t : zT) (h0 h1 : Nat) (a0 a1 a2 a3 a4 b0 b1 b2 b3 b4 : Int32)  : Ct lq D t yX0_copyFrom cX0_copyFrom 2 none rm_X0_copyFrom [.ref h0, .ref h1] [eX0 h0 a0 a1 a2 a3 a4, eX0 h1 b0 b1 b2 b3 b4] 0 0 (fun rv rw_ => rv = none ∧ rw_ = [eX0 h0 b0 b1 b2 b3 b4, eX0 h1 b0 b1 b2 b3 b4]) := by
  refine Ct.of (by decide) (Nat.le_of_ble_eq_true rfl) (fun k X hR => ?_)
  have X : zX D t k cX0_copyFrom 2 RX0 "copyFrom" rm_X0_copyFrom lq := X
  refine z_eq (lv2 := [(0, .ref h0), (1, .ref h1)]) rfl rfl rfl ?_
  refine z_aload_n X (pc := 0) 0 dX0_copyFrom_0 rfl ?_
  refine z_aload_n X (pc := 1) 1 dX0_copyFrom_1 rfl ?_
  refine z_get X (pc := 2) 1 0 (.int b0) tu_0 tw_28 dX0_copyFrom_2 rfl rfl (by decide) rfl rfl ?_
  refine z_put X (pc := 5) 0 0 [eX0 h0 b0 a1 a2 a3 a4, eX0 h1 b0 b1 b2 b3 b4] tu_0 tyX0_ok nmX0 tw_28 dX0_copyFrom_5 rfl rfl (by decide) rfl rfl rfl rfl (Nat.le_of_ble_eq_true rfl) rfl ?_
  refine z_aload_n X (pc := 8) 0 dX0_copyFrom_8 rfl ?_
  refine z_aload_n X (pc := 9) 1 dX0_copyFrom_9 rfl ?_
  refine z_get X (pc := 10) 1 1 (.int b1) tu_0 tw_31 dX0_copyFrom_10 rfl rfl (by decide) rfl rfl ?_
  refine z_put X (pc := 13) 0 1 [eX0 h0 b0 b1 a2 a3 a4, eX0 h1 b0 b1 b2 b3 b4] tu_0 tyX0_ok nmX0 tw_31 dX0_copyFrom_13 rfl rfl (by decide) rfl rfl rfl rfl (Nat.le_of_ble_eq_true rfl) rfl ?_
  refine z_aload_n X (pc := 16) 0 dX0_copyFrom_16 rfl ?_
  refine z_aload_n X (pc := 17) 1 dX0_copyFrom_17 rfl ?_
  refine z_get X (pc := 18) 1 2 (.int b2) tu_0 tw_35 dX0_copyFrom_18 rfl rfl (by decide) rfl rfl ?_
  refine z_put X (pc := 21) 0 2 [eX0 h0 b0 b1 b2 a3 a4, eX0 h1 b0 b1 b2 b3 b4] tu_0 tyX0_ok nmX0 tw_35 dX0_copyFrom_21 rfl rfl (by decide) rfl rfl rfl rfl (Nat.le_of_ble_eq_true rfl) rfl ?_
  refine z_aload_n X (pc := 24) 0 dX0_copyFrom_24 rfl ?_
  refine z_aload_n X (pc := 25) 1 dX0_copyFrom_25 rfl ?_
  refine z_get X (pc := 26) 1 3 (.int b3) tu_0 tw_39 dX0_copyFrom_26 rfl rfl (by decide) rfl rfl ?_
  refine z_put X (pc := 29) 0 3 [eX0 h0 b0 b1 b2 b3 a4, eX0 h1 b0 b1 b2 b3 b4] tu_0 tyX0_ok nmX0 tw_39 dX0_copyFrom_29 rfl rfl (by decide) rfl rfl rfl rfl (Nat.le_of_ble_eq_true rfl) rfl ?_
  refine z_aload_n X (pc := 32) 0 dX0_copyFrom_32 rfl ?_
  refine z_aload_n X (pc := 33) 1 dX0_copyFrom_33 rfl ?_
  refine z_get X (pc := 34) 1 4 (.int b4) tu_0 tw_42 dX0_copyFrom_34 rfl rfl (by decide) rfl rfl ?_
  refine z_put X (pc := 37) 0 4 [eX0 h0 b0 b1 b2 b3 b4, eX0 h1 b0 b1 b2 b3 b4] tu_0 tyX0_ok nmX0 tw_42 dX0_copyFrom_37 rfl rfl (by decide) rfl rfl rfl rfl (Nat.le_of_ble_eq_true rfl) rfl ?_
  exact hR.v dX0_copyFrom_40 ⟨rfl, rfl⟩

abbrev rm_X0_setBoxes : Room := { frames := 0, cells := 0, slots := 0, locals := 0 }
set_option maxHeartbeats 4000000 in
set_option maxRecDepth 100000 in
theorem c_X0_setBoxes (lq : Launch) (D : va_G) (t : zT) (h0 : Nat) (a0 a1 a2 a3 a4 u v : Int32)  : Ct lq D t yX0_setBoxes cX0_setBoxes 3 none rm_X0_setBoxes [.ref h0, .int u, .int v] [eX0 h0 a0 a1 a2 a3 a4] 0 0 (fun rv rw_ => rv = none ∧ rw_ = [eX0 h0 u v a2 a3 a4]) := by
  refine Ct.of (by decide) (Nat.le_of_ble_eq_true rfl) (fun k X hR => ?_)
  have X : zX D t k cX0_setBoxes 3 RX0 "setBoxes" rm_X0_setBoxes lq := X
  refine z_eq (lv2 := [(0, .ref h0), (1, .int u), (2, .int v)]) rfl rfl rfl ?_
  refine z_aload_n X (pc := 0) 0 dX0_setBoxes_0 rfl ?_
  refine z_iload_n X (pc := 1) 1 dX0_setBoxes_1 rfl ?_
  refine z_put X (pc := 2) 0 0 [eX0 h0 u a1 a2 a3 a4] tu_0 tyX0_ok nmX0 tw_28 dX0_setBoxes_2 rfl rfl (by decide) rfl rfl rfl rfl (Nat.le_of_ble_eq_true rfl) rfl ?_
  refine z_aload_n X (pc := 5) 0 dX0_setBoxes_5 rfl ?_
  refine z_iload_n X (pc := 6) 2 dX0_setBoxes_6 rfl ?_
  refine z_put X (pc := 7) 0 1 [eX0 h0 u v a2 a3 a4] tu_0 tyX0_ok nmX0 tw_31 dX0_setBoxes_7 rfl rfl (by decide) rfl rfl rfl rfl (Nat.le_of_ble_eq_true rfl) rfl ?_
  exact hR.v dX0_setBoxes_10 ⟨rfl, rfl⟩

abbrev rm_X0_setHand : Room := { frames := 0, cells := 0, slots := 0, locals := 0 }
set_option maxHeartbeats 4000000 in
set_option maxRecDepth 100000 in
theorem c_X0_setHand (lq : Launch) (D : va_G) (t : zT) (h0 : Nat) (a0 a1 a2 a3 a4 u v : Int32)  : Ct lq D t yX0_setHand cX0_setHand 3 none rm_X0_setHand [.ref h0, .int u, .int v] [eX0 h0 a0 a1 a2 a3 a4] 0 0 (fun rv rw_ => rv = none ∧ rw_ = [eX0 h0 a0 a1 a2 u v]) := by
  refine Ct.of (by decide) (Nat.le_of_ble_eq_true rfl) (fun k X hR => ?_)
  have X : zX D t k cX0_setHand 3 RX0 "setHand" rm_X0_setHand lq := X
  refine z_eq (lv2 := [(0, .ref h0), (1, .int u), (2, .int v)]) rfl rfl rfl ?_
  refine z_aload_n X (pc := 0) 0 dX0_setHand_0 rfl ?_
  refine z_iload_n X (pc := 1) 1 dX0_setHand_1 rfl ?_
  refine z_put X (pc := 2) 0 3 [eX0 h0 a0 a1 a2 u a4] tu_0 tyX0_ok nmX0 tw_39 dX0_setHand_2 rfl rfl (by decide) rfl rfl rfl rfl (Nat.le_of_ble_eq_true rfl) rfl ?_
  refine z_aload_n X (pc := 5) 0 dX0_setHand_5 rfl ?_
  refine z_iload_n X (pc := 6) 2 dX0_setHand_6 rfl ?_
  refine z_put X (pc := 7) 0 4 [eX0 h0 a0 a1 a2 u v] tu_0 tyX0_ok nmX0 tw_42 dX0_setHand_7 rfl rfl (by decide) rfl rfl rfl rfl (Nat.le_of_ble_eq_true rfl) rfl ?_
  exact hR.v dX0_setHand_10 ⟨rfl, rfl⟩

abbrev rm_X0_setBox : Room := { frames := 0, cells := 0, slots := 0, locals := 0 }
set_option maxHeartbeats 4000000 in
set_option maxRecDepth 100000 in
theorem c_X0_setBox (lq : Launch) (D : va_G) (t : zT) (h0 l r la kd x sd m : Nat) (hsd : sd ≤ 1) : Ct lq D t yX0_setBox cX0_setBox 3 none rm_X0_setBox [.ref h0, .int (nI sd), .int (nI m)] [eX0 h0 (nI l) (nI r) (nI la) (nI kd) (nI x)] 0 0 (fun rv rw_ => rv = none ∧ rw_ = [eX0 h0 (nI (if sd = 0 then m else l)) (nI (if sd = 0 then r else m)) (nI la) (nI kd) (nI x)]) := by
  refine Ct.of (by decide) (Nat.le_of_ble_eq_true rfl) (fun k X hR => ?_)
  have X : zX D t k cX0_setBox 3 RX0 "setBox" rm_X0_setBox lq := X
  refine z_eq (lv2 := [(0, .ref h0), (1, .int (nI sd)), (2, .int (nI m))]) rfl rfl rfl ?_
  refine z_iload_n X (pc := 0) 1 dX0_setBox_0 rfl ?_
  refine z_if_neN X (pc := 1) 12 (by omega) dX0_setBox_1 (by decide) (fun c_1 => ?_) (fun c_1 => ?_)
  · skip
    refine z_aload_n X (pc := 12) 0 dX0_setBox_12 rfl ?_
    refine z_iload_n X (pc := 13) 2 dX0_setBox_13 rfl ?_
    refine z_put X (pc := 14) 0 1 [eX0 h0 (nI l) (nI m) (nI la) (nI kd) (nI x)] tu_0 tyX0_ok nmX0 tw_31 dX0_setBox_14 rfl rfl (by decide) rfl rfl rfl rfl (Nat.le_of_ble_eq_true rfl) rfl ?_
    exact hR.v dX0_setBox_17 ⟨rfl, by simp [*]⟩
  · skip
    refine z_aload_n X (pc := 4) 0 dX0_setBox_4 rfl ?_
    refine z_iload_n X (pc := 5) 2 dX0_setBox_5 rfl ?_
    refine z_put X (pc := 6) 0 0 [eX0 h0 (nI m) (nI r) (nI la) (nI kd) (nI x)] tu_0 tyX0_ok nmX0 tw_28 dX0_setBox_6 rfl rfl (by decide) rfl rfl rfl rfl (Nat.le_of_ble_eq_true rfl) rfl ?_
    refine z_goto X (pc := 9) 17 dX0_setBox_9 (by decide) ?_
    exact hR.v dX0_setBox_17 ⟨rfl, by simp [*]⟩

abbrev rm_X0_inBox : Room := { frames := 0, cells := 0, slots := 0, locals := 0 }
set_option maxHeartbeats 4000000 in
set_option maxRecDepth 100000 in
theorem c_X0_inBox (lq : Launch) (D : va_G) (t : zT) (h0 l r la kd x sd : Nat) (hsd : sd ≤ 1) : Ct lq D t yX0_inBox cX0_inBox 2 (some .int) rm_X0_inBox [.ref h0, .int (nI sd)] [eX0 h0 (nI l) (nI r) (nI la) (nI kd) (nI x)] 0 0 (fun rv rw_ => rv = some (.int (nI (if sd = 0 then l else r))) ∧ rw_ = [eX0 h0 (nI l) (nI r) (nI la) (nI kd) (nI x)]) := by
  refine Ct.of (by decide) (Nat.le_of_ble_eq_true rfl) (fun k X hR => ?_)
  have X : zX D t k cX0_inBox 2 RX0 "inBox" rm_X0_inBox lq := X
  refine z_eq (lv2 := [(0, .ref h0), (1, .int (nI sd))]) rfl rfl rfl ?_
  refine z_iload_n X (pc := 0) 1 dX0_inBox_0 rfl ?_
  refine z_if_neN X (pc := 1) 11 (by omega) dX0_inBox_1 (by decide) (fun c_1 => ?_) (fun c_1 => ?_)
  · skip
    refine z_aload_n X (pc := 11) 0 dX0_inBox_11 rfl ?_
    refine z_get X (pc := 12) 0 1 (.int (nI r)) tu_0 tw_31 dX0_inBox_12 rfl rfl (by decide) rfl rfl ?_
    exact hR.i dX0_inBox_15 ⟨by simp [*], rfl⟩
  · skip
    refine z_aload_n X (pc := 4) 0 dX0_inBox_4 rfl ?_
    refine z_get X (pc := 5) 0 0 (.int (nI l)) tu_0 tw_28 dX0_inBox_5 rfl rfl (by decide) rfl rfl ?_
    refine z_goto X (pc := 8) 15 dX0_inBox_8 (by decide) ?_
    exact hR.i dX0_inBox_15 ⟨by simp [*], rfl⟩

abbrev rm_X0_matches : Room := { frames := 0, cells := 0, slots := 0, locals := 0 }
set_option maxHeartbeats 4000000 in
set_option maxRecDepth 100000 in
theorem c_X0_matches (lq : Launch) (D : va_G) (t : zT) (h0 l r la kd x : Nat)  : Ct lq D t yX0_matches cX0_matches 1 (some .int) rm_X0_matches [.ref h0] [eX0 h0 (nI l) (nI r) (nI la) (nI kd) (nI x)] 0 0 (fun rv rw_ => rv = some (.int (nI (l + r))) ∧ rw_ = [eX0 h0 (nI l) (nI r) (nI la) (nI kd) (nI x)]) := by
  refine Ct.of (by decide) (Nat.le_of_ble_eq_true rfl) (fun k X hR => ?_)
  have X : zX D t k cX0_matches 1 RX0 "matches" rm_X0_matches lq := X
  refine z_eq (lv2 := [(0, .ref h0)]) rfl rfl rfl ?_
  refine z_aload_n X (pc := 0) 0 dX0_matches_0 rfl ?_
  refine z_get X (pc := 1) 0 0 (.int (nI l)) tu_0 tw_28 dX0_matches_1 rfl rfl (by decide) rfl rfl ?_
  refine z_aload_n X (pc := 4) 0 dX0_matches_4 rfl ?_
  refine z_get X (pc := 5) 0 1 (.int (nI r)) tu_0 tw_31 dX0_matches_5 rfl rfl (by decide) rfl rfl ?_
  refine z_iadd X (pc := 8) (v := (nI (l + r))) dX0_matches_8 (nI_add l r) ?_
  exact hR.i dX0_matches_9 ⟨rfl, rfl⟩

abbrev rm_X0_quartersToLeft : Room := { frames := 2, cells := 0, slots := 0, locals := 46 }
set_option maxHeartbeats 4000000 in
set_option maxRecDepth 100000 in
theorem c_X0_quartersToLeft (lq : Launch) (D : va_G) (t : zT) (h0 l r la kd x : Nat) (hkd : kd ≤ 3) (hx : x ≤ 4) (hl : l < 100) (hr : r < 100) (hla : la ≤ 2) : Ct lq D t yX0_quartersToLeft cX0_quartersToLeft 1 (some .int) rm_X0_quartersToLeft [.ref h0] [eX0 h0 (nI l) (nI r) (nI la) (nI kd) (nI x)] 0 0 (fun rv rw_ => rv = some (.int (nI (htl kd x l r la))) ∧ rw_ = [eX0 h0 (nI l) (nI r) (nI la) (nI kd) (nI x)]) := by
  refine Ct.of (by decide) (Nat.le_of_ble_eq_true rfl) (fun k X hR => ?_)
  have X : zX D t k cX0_quartersToLeft 1 RX0 "quartersToLeft" rm_X0_quartersToLeft lq := X
  refine z_eq (lv2 := [(0, .ref h0)]) rfl rfl rfl ?_
  refine z_aload_n X (pc := 0) 0 dX0_quartersToLeft_0 rfl ?_
  refine z_get X (pc := 1) 0 3 (.int (nI kd)) tu_0 tw_39 dX0_quartersToLeft_1 rfl rfl (by decide) rfl rfl ?_
  refine z_aload_n X (pc := 4) 0 dX0_quartersToLeft_4 rfl ?_
  refine z_get X (pc := 5) 0 4 (.int (nI x)) tu_0 tw_42 dX0_quartersToLeft_5 rfl rfl (by decide) rfl rfl ?_
  refine z_aload_n X (pc := 8) 0 dX0_quartersToLeft_8 rfl ?_
  refine z_get X (pc := 9) 0 0 (.int (nI l)) tu_0 tw_28 dX0_quartersToLeft_9 rfl rfl (by decide) rfl rfl ?_
  refine z_aload_n X (pc := 12) 0 dX0_quartersToLeft_12 rfl ?_
  refine z_get X (pc := 13) 0 1 (.int (nI r)) tu_0 tw_31 dX0_quartersToLeft_13 rfl rfl (by decide) rfl rfl ?_
  refine z_aload_n X (pc := 16) 0 dX0_quartersToLeft_16 rfl ?_
  refine z_get X (pc := 17) 0 2 (.int (nI la)) tu_0 tw_35 dX0_quartersToLeft_17 rfl rfl (by decide) rfl rfl ?_
  refine zc_SN (as := [.int (nI kd), .int (nI x), .int (nI l), .int (nI r), .int (nI la)]) X (pc := 20) (c_X4_handToLeft lq D t kd x l r la (by omega) (by omega) (by omega) (by omega) (by omega)) tw_296 tw_298 tw_1 tw_297 [] rfl rfl dX0_quartersToLeft_20 rfl zdX4_handToLeft ⟨rfl, rfl, Nat.le_of_ble_eq_true rfl, Nat.le_of_ble_eq_true rfl⟩ (Nat.le_of_ble_eq_true rfl) (Nat.zero_le _) (Nat.zero_le _) (fun v_1 w_2 hp_3 => ?_)
  obtain ⟨rfl, rfl⟩ := hp_3
  refine ⟨rfl, ?_⟩
  refine z_eq (ws2 := [eX0 h0 (nI l) (nI r) (nI la) (nI kd) (nI x)]) (st2 := [.int (nI (htl kd x l r la))]) rfl rfl rfl ?_
  exact hR.i dX0_quartersToLeft_23 ⟨rfl, rfl⟩

abbrev rm_X0_draw : Room := { frames := 1, cells := 0, slots := 0, locals := 22 }
set_option maxHeartbeats 4000000 in
set_option maxRecDepth 100000 in
theorem c_X0_draw (lq : Launch) (D : va_G) (t : zT) (h0 l r la kd x sd : Nat) (hsd : sd ≤ 1) (hl : l < 100) (hr : r < 100) : Ct lq D t yX0_draw cX0_draw 3 (some .boolean) rm_X0_draw [.ref h0, .int (nI sd)] [eX0 h0 (nI l) (nI r) (nI la) (nI kd) (nI x)] 0 0 (fun rv rw_ => rv = some (.int (zb (¬ (if sd = 0 then l else r) = 0))) ∧ rw_ = [eX0 h0 (nI (if sd = 0 then l - 1 else l)) (nI (if sd = 0 then r else r - 1)) (nI sd) (nI kd) (nI x)]) := by
  refine Ct.of (by decide) (Nat.le_of_ble_eq_true rfl) (fun k X hR => ?_)
  have X : zX D t k cX0_draw 3 RX0 "draw" rm_X0_draw lq := X
  refine z_eq (lv2 := [(0, .ref h0), (1, .int (nI sd))]) rfl rfl rfl ?_
  refine z_aload_n X (pc := 0) 0 dX0_draw_0 rfl ?_
  refine z_iload_n X (pc := 1) 1 dX0_draw_1 rfl ?_
  refine z_put X (pc := 2) 0 2 [eX0 h0 (nI l) (nI r) (nI sd) (nI kd) (nI x)] tu_0 tyX0_ok nmX0 tw_35 dX0_draw_2 rfl rfl (by decide) rfl rfl rfl rfl (Nat.le_of_ble_eq_true rfl) rfl ?_
  refine z_aload_n X (pc := 5) 0 dX0_draw_5 rfl ?_
  refine z_iload_n X (pc := 6) 1 dX0_draw_6 rfl ?_
  refine zc_V (as := [.int (nI sd)]) X (pc := 7) (c_X0_inBox lq D t h0 l r sd kd x sd (by omega)) tw_324 tw_287 tw_3 tw_285 tw_286 0 0 rfl rfl [0] rfl rfl dX0_draw_7 rfl zdX0_inBox ⟨rfl, rfl, Nat.le_of_ble_eq_true rfl, Nat.le_of_ble_eq_true rfl⟩ (Nat.le_of_ble_eq_true rfl) (Nat.zero_le _) (Nat.zero_le _) (fun v_1 w_2 hp_3 => ?_)
  obtain ⟨rfl, rfl⟩ := hp_3
  refine ⟨rfl, ?_⟩
  refine z_eq (ws2 := [eX0 h0 (nI l) (nI r) (nI sd) (nI kd) (nI x)]) (st2 := [.int (nI (if sd = 0 then l else r))]) rfl rfl rfl ?_
  refine z_istore_n X (pc := 10) (i := 2) [(2, .int (nI (if sd = 0 then l else r))), (0, .ref h0), (1, .int (nI sd))] dX0_draw_10 rfl (by decide) rfl ?_
  refine z_iload_n X (pc := 11) 0 dX0_draw_11 rfl ?_
  refine z_if_neN X (pc := 12) 17 (by split <;> omega) dX0_draw_12 (by decide) (fun c_12 => ?_) (fun c_12 => ?_)
  · skip
    refine z_aload_n X (pc := 17) 1 dX0_draw_17 rfl ?_
    refine z_iload_n X (pc := 18) 2 dX0_draw_18 rfl ?_
    refine z_iload_n X (pc := 19) 0 dX0_draw_19 rfl ?_
    refine z_iconst X (pc := 20) (nI 1) dX0_draw_20 (by decide) ?_
    refine z_isub X (pc := 21) (v := (nI ((if sd = 0 then l else r) - 1))) dX0_draw_21 (pk_sub (by omega)) ?_
    refine zc_V (as := [.int (nI sd), .int (nI ((if sd = 0 then l else r) - 1))]) X (pc := 22) (c_X0_setBox lq D t h0 l r sd kd x sd ((if sd = 0 then l else r) - 1) (by omega)) tw_325 tw_328 tw_3 tw_326 tw_327 0 0 rfl rfl [0] rfl rfl dX0_draw_22 rfl zdX0_setBox ⟨rfl, rfl, Nat.le_of_ble_eq_true rfl, Nat.le_of_ble_eq_true rfl⟩ (Nat.le_of_ble_eq_true rfl) (Nat.zero_le _) (Nat.zero_le _) (fun v_4 w_5 hp_6 => ?_)
    obtain ⟨rfl, rfl⟩ := hp_6
    refine ⟨rfl, ?_⟩
    refine z_eq (ws2 := [eX0 h0 (nI (if sd = 0 then ((if sd = 0 then l else r) - 1) else l)) (nI (if sd = 0 then r else ((if sd = 0 then l else r) - 1))) (nI sd) (nI kd) (nI x)]) (st2 := []) rfl rfl rfl ?_
    refine z_iconst X (pc := 25) (nI 1) dX0_draw_25 (by decide) ?_
    exact hR.z dX0_draw_26 rfl ⟨some_zb_t c_12, by split <;> rfl⟩
  · skip
    refine z_iconst X (pc := 15) (nI 0) dX0_draw_15 (by decide) ?_
    exact hR.z dX0_draw_16 rfl ⟨some_zb_f (fun z => z c_12), by split at c_12 <;> simp_all⟩

abbrev rm_X4_tenThousandths : Room := { frames := 0, cells := 0, slots := 0, locals := 0 }
set_option maxHeartbeats 4000000 in
set_option maxRecDepth 100000 in
theorem c_X4_tenThousandths (lq : Launch) (D : va_G) (t : zT) (c : Int64)  : Ct lq D t yX4_tenThousandths cX4_tenThousandths 2 (some .int) rm_X4_tenThousandths [.long c] [] 0 0 (fun rv rw_ => rv = some (.int ((c * 10000 / 4398046511104).toInt32)) ∧ rw_ = []) := by
  refine Ct.of (by decide) (Nat.le_of_ble_eq_true rfl) (fun k X hR => ?_)
  have X : zX D t k cX4_tenThousandths 2 RX4 "tenThousandths" rm_X4_tenThousandths lq := X
  refine z_eq (lv2 := [(0, .long c)]) rfl rfl rfl ?_
  refine z_lload_n X (pc := 0) 0 dX4_tenThousandths_0 rfl ?_
  refine z_ldc2 X (pc := 1) (10000) dX4_tenThousandths_1 tw_411 ?_
  refine z_topl (lN 10000) rfl ?_
  refine z_lmul X (pc := 4) (v := (c * (lN 10000))) dX4_tenThousandths_4 rfl ?_
  refine z_ldc2 X (pc := 5) (4398046511104) dX4_tenThousandths_5 tw_412 ?_
  refine z_topl (lN 4398046511104) rfl ?_
  refine z_ldiv X (pc := 8) (v := ((c * (lN 10000)) / (lN 4398046511104))) dX4_tenThousandths_8 (by decide) rfl ?_
  refine z_l2i X (pc := 9) (v := (((c * (lN 10000)) / (lN 4398046511104)).toInt32)) dX4_tenThousandths_9 rfl ?_
  exact hR.i dX4_tenThousandths_10 ⟨rfl, rfl⟩

abbrev rm_X4_hundredfold : Room := { frames := 0, cells := 0, slots := 0, locals := 0 }
set_option maxHeartbeats 4000000 in
set_option maxRecDepth 100000 in
theorem c_X4_hundredfold (lq : Launch) (D : va_G) (t : zT) (c : Int64)  : Ct lq D t yX4_hundredfold cX4_hundredfold 2 (some .int) rm_X4_hundredfold [.long c] [] 0 0 (fun rv rw_ => rv = some (.int ((c * 100 / 4398046511104).toInt32)) ∧ rw_ = []) := by
  refine Ct.of (by decide) (Nat.le_of_ble_eq_true rfl) (fun k X hR => ?_)
  have X : zX D t k cX4_hundredfold 2 RX4 "hundredfold" rm_X4_hundredfold lq := X
  refine z_eq (lv2 := [(0, .long c)]) rfl rfl rfl ?_
  refine z_lload_n X (pc := 0) 0 dX4_hundredfold_0 rfl ?_
  refine z_ldc2 X (pc := 1) (100) dX4_hundredfold_1 tw_420 ?_
  refine z_topl (lN 100) rfl ?_
  refine z_lmul X (pc := 4) (v := (c * (lN 100))) dX4_hundredfold_4 rfl ?_
  refine z_ldc2 X (pc := 5) (4398046511104) dX4_hundredfold_5 tw_412 ?_
  refine z_topl (lN 4398046511104) rfl ?_
  refine z_ldiv X (pc := 8) (v := ((c * (lN 100)) / (lN 4398046511104))) dX4_hundredfold_8 (by decide) rfl ?_
  refine z_l2i X (pc := 9) (v := (((c * (lN 100)) / (lN 4398046511104)).toInt32)) dX4_hundredfold_9 rfl ?_
  exact hR.i dX4_hundredfold_10 ⟨rfl, rfl⟩
end
section
/-! PART 10: Pile (acts: 8 coats, kept: 2), as a flat row of fives -/
def pput (g : Nat → Nat) (kn : Nat) (s : Nat → Nat) : Nat → Nat := fun j =>
  if kn = 8 then (if j < 35 then g (j + 5) else s (j - 35)) else if 5 * kn ≤ j ∧ j < 5 * kn + 5 then s (j - 5 * kn) else g j
def kput (g : Nat → Nat) (kn : Nat) (s : Nat → Nat) : Nat → Nat := fun j =>
  if 5 * kn ≤ j ∧ j < 5 * kn + 5 then s (j - 5 * kn) else g j
abbrev rm_X1_size : Room := { frames := 0, cells := 0, slots := 0, locals := 0 }
set_option maxHeartbeats 4000000 in
set_option maxRecDepth 100000 in
theorem c_X1_size (lq : Launch) (D : va_G) (t : zT) (h0 ha sz : Nat)  : Ct lq D t yX1_size cX1_size 1 (some .int) rm_X1_size [.ref h0] [eX1 h0 ha (nI sz)] 0 0 (fun rv rw_ => rv = some (.int (nI sz)) ∧ rw_ = [eX1 h0 ha (nI sz)]) := by
  refine Ct.of (by decide) (Nat.le_of_ble_eq_true rfl) (fun k X hR => ?_)
  have X : zX D t k cX1_size 1 RX1 "size" rm_X1_size lq := X
  refine z_eq (lv2 := [(0, .ref h0)]) rfl rfl rfl ?_
  refine z_aload_n X (pc := 0) 0 dX1_size_0 rfl ?_
  refine z_get X (pc := 1) 0 1 (.int (nI sz)) tu_1 tw_95 dX1_size_1 rfl rfl (by decide) rfl rfl ?_
  exact hR.i dX1_size_4 ⟨rfl, rfl⟩

abbrev rm_X1_clear : Room := { frames := 0, cells := 0, slots := 0, locals := 0 }
set_option maxHeartbeats 4000000 in
set_option maxRecDepth 100000 in
theorem c_X1_clear (lq : Launch) (D : va_G) (t : zT) (h0 ha sz : Nat)  : Ct lq D t yX1_clear cX1_clear 1 none rm_X1_clear [.ref h0] [eX1 h0 ha (nI sz)] 0 0 (fun rv rw_ => rv = none ∧ rw_ = [eX1 h0 ha (nI 0)]) := by
  refine Ct.of (by decide) (Nat.le_of_ble_eq_true rfl) (fun k X hR => ?_)
  have X : zX D t k cX1_clear 1 RX1 "clear" rm_X1_clear lq := X
  refine z_eq (lv2 := [(0, .ref h0)]) rfl rfl rfl ?_
  refine z_aload_n X (pc := 0) 0 dX1_clear_0 rfl ?_
  refine z_iconst X (pc := 1) (nI 0) dX1_clear_1 (by decide) ?_
  refine z_put X (pc := 2) 0 1 [eX1 h0 ha (nI 0)] tu_1 tyX1_ok nmX1 tw_95 dX1_clear_2 rfl rfl (by decide) rfl rfl rfl rfl (Nat.le_of_ble_eq_true rfl) rfl ?_
  exact hR.v dX1_clear_5 ⟨rfl, rfl⟩

abbrev rm_X1_isFull : Room := { frames := 0, cells := 0, slots := 0, locals := 0 }
set_option maxHeartbeats 4000000 in
set_option maxRecDepth 100000 in
theorem c_X1_isFull (lq : Launch) (D : va_G) (t : zT) (h0 ha sz n : Nat) (f : Nat → Option Nat) (hn : n < 100) (hsz : sz < 100) : Ct lq D t yX1_isFull cX1_isFull 1 (some .boolean) rm_X1_isFull [.ref h0] [eX1 h0 ha (nI sz), eQ t ha n f] 0 0 (fun rv rw_ => rv = some (.int (zb (n ≤ sz))) ∧ rw_ = [eX1 h0 ha (nI sz), eQ t ha n f]) := by
  refine Ct.of (by decide) (Nat.le_of_ble_eq_true rfl) (fun k X hR => ?_)
  have X : zX D t k cX1_isFull 1 RX1 "isFull" rm_X1_isFull lq := X
  refine z_eq (lv2 := [(0, .ref h0)]) rfl rfl rfl ?_
  refine z_aload_n X (pc := 0) 0 dX1_isFull_0 rfl ?_
  refine z_get X (pc := 1) 0 1 (.int (nI sz)) tu_1 tw_95 dX1_isFull_1 rfl rfl (by decide) rfl rfl ?_
  refine z_aload_n X (pc := 4) 0 dX1_isFull_4 rfl ?_
  refine z_get X (pc := 5) 0 0 (.ref ha) tu_1 tw_94 dX1_isFull_5 rfl rfl (by decide) rfl rfl ?_
  refine z_alen_q X (pc := 8) 1 dX1_isFull_8 rfl ?_
  refine z_icmp_ltN X (pc := 9) 16 (by omega) (by omega) dX1_isFull_9 (by decide) (fun c_9 => ?_) (fun c_9 => ?_)
  · skip
    refine z_iconst X (pc := 16) (nI 0) dX1_isFull_16 (by decide) ?_
    exact hR.z dX1_isFull_17 rfl ⟨some_zb_f (by omega), rfl⟩
  · skip
    refine z_iconst X (pc := 12) (nI 1) dX1_isFull_12 (by decide) ?_
    refine z_goto X (pc := 13) 17 dX1_isFull_13 (by decide) ?_
    exact hR.z dX1_isFull_17 rfl ⟨some_zb_t (by omega), rfl⟩

abbrev rm_X1_dropOldest : Room := { frames := 1, cells := 0, slots := 0, locals := 21 }
set_option maxHeartbeats 4000000 in
set_option maxRecDepth 100000 in
theorem c_X1_dropOldest (lq : Launch) (D : va_G) (t : zT) (h0 ha : Nat) (ad g : Nat → Nat) (sz : Nat)  : Ct lq D t yX1_dropOldest cX1_dropOldest 2 none rm_X1_dropOldest [.ref h0] [eX1 h0 ha (nI sz), eQ t ha 8 (fun j => some (ad j)), eX0 (ad 0) (nI (g 0)) (nI (g 1)) (nI (g 2)) (nI (g 3)) (nI (g 4)), eX0 (ad 1) (nI (g 5)) (nI (g 6)) (nI (g 7)) (nI (g 8)) (nI (g 9)), eX0 (ad 2) (nI (g 10)) (nI (g 11)) (nI (g 12)) (nI (g 13)) (nI (g 14)), eX0 (ad 3) (nI (g 15)) (nI (g 16)) (nI (g 17)) (nI (g 18)) (nI (g 19)), eX0 (ad 4) (nI (g 20)) (nI (g 21)) (nI (g 22)) (nI (g 23)) (nI (g 24)), eX0 (ad 5) (nI (g 25)) (nI (g 26)) (nI (g 27)) (nI (g 28)) (nI (g 29)), eX0 (ad 6) (nI (g 30)) (nI (g 31)) (nI (g 32)) (nI (g 33)) (nI (g 34)), eX0 (ad 7) (nI (g 35)) (nI (g 36)) (nI (g 37)) (nI (g 38)) (nI (g 39))] 0 0 (fun rv rw_ => rv = none ∧ rw_ = [eX1 h0 ha (nI 7), eQ t ha 8 (fun j => some (ad j)), eX0 (ad 0) (nI (g 5)) (nI (g 6)) (nI (g 7)) (nI (g 8)) (nI (g 9)), eX0 (ad 1) (nI (g 10)) (nI (g 11)) (nI (g 12)) (nI (g 13)) (nI (g 14)), eX0 (ad 2) (nI (g 15)) (nI (g 16)) (nI (g 17)) (nI (g 18)) (nI (g 19)), eX0 (ad 3) (nI (g 20)) (nI (g 21)) (nI (g 22)) (nI (g 23)) (nI (g 24)), eX0 (ad 4) (nI (g 25)) (nI (g 26)) (nI (g 27)) (nI (g 28)) (nI (g 29)), eX0 (ad 5) (nI (g 30)) (nI (g 31)) (nI (g 32)) (nI (g 33)) (nI (g 34)), eX0 (ad 6) (nI (g 35)) (nI (g 36)) (nI (g 37)) (nI (g 38)) (nI (g 39)), eX0 (ad 7) (nI (g 35)) (nI (g 36)) (nI (g 37)) (nI (g 38)) (nI (g 39))]) := by
  refine Ct.of (by decide) (Nat.le_of_ble_eq_true rfl) (fun k X hR => ?_)
  have X : zX D t k cX1_dropOldest 2 RX1 "dropOldest" rm_X1_dropOldest lq := X
  refine z_eq (lv2 := [(0, .ref h0)]) rfl rfl rfl ?_
  refine z_iconst X (pc := 0) (nI 1) dX1_dropOldest_0 (by decide) ?_
  refine z_istore_n X (pc := 1) (i := 1) [(1, .int (nI 1)), (0, .ref h0)] dX1_dropOldest_1 rfl (by decide) rfl ?_
  refine z_iload_n X (pc := 2) 0 dX1_dropOldest_2 rfl ?_
  refine z_aload_n X (pc := 3) 1 dX1_dropOldest_3 rfl ?_
  refine z_get X (pc := 4) 0 0 (.ref ha) tu_1 tw_94 dX1_dropOldest_4 rfl rfl (by decide) rfl rfl ?_
  refine z_alen_q X (pc := 7) 1 dX1_dropOldest_7 rfl ?_
  refine z_icmp_geN X (pc := 8) 34 (by omega) (by omega) dX1_dropOldest_8 (by decide) (fun c_8 => absurd c_8 (by decide)) (fun c_8 => ?_)
  refine z_aload_n X (pc := 11) 1 dX1_dropOldest_11 rfl ?_
  refine z_get X (pc := 12) 0 0 (.ref ha) tu_1 tw_94 dX1_dropOldest_12 rfl rfl (by decide) rfl rfl ?_
  refine z_iload_n X (pc := 15) 0 dX1_dropOldest_15 rfl ?_
  refine z_iconst X (pc := 16) (nI 1) dX1_dropOldest_16 (by decide) ?_
  refine z_isub X (pc := 17) (v := (nI 0)) dX1_dropOldest_17 (pk_sub (by omega)) ?_
  refine z_aald X (pc := 18) 1 0 (ad 0) dX1_dropOldest_18 rfl rfl (Nat.le_of_ble_eq_true rfl) (by omega) rfl ?_
  refine z_aload_n X (pc := 19) 1 dX1_dropOldest_19 rfl ?_
  refine z_get X (pc := 20) 0 0 (.ref ha) tu_1 tw_94 dX1_dropOldest_20 rfl rfl (by decide) rfl rfl ?_
  refine z_iload_n X (pc := 23) 0 dX1_dropOldest_23 rfl ?_
  refine z_aald X (pc := 24) 1 1 (ad 1) dX1_dropOldest_24 rfl rfl (Nat.le_of_ble_eq_true rfl) (by omega) rfl ?_
  refine zc_V (as := [.ref (ad 1)]) X (pc := 25) (c_X0_copyFrom lq D t (ad 0) (ad 1) (nI (g 0)) (nI (g 1)) (nI (g 2)) (nI (g 3)) (nI (g 4)) (nI (g 5)) (nI (g 6)) (nI (g 7)) (nI (g 8)) (nI (g 9)) ) tw_318 tw_270 tw_3 tw_268 tw_269 0 0 rfl rfl [2, 3] rfl rfl dX1_dropOldest_25 rfl zdX0_copyFrom ⟨rfl, rfl, Nat.le_of_ble_eq_true rfl, Nat.le_of_ble_eq_true rfl⟩ (Nat.le_of_ble_eq_true rfl) (Nat.zero_le _) (Nat.zero_le _) (fun v_1 w_2 hp_3 => ?_)
  obtain ⟨rfl, rfl⟩ := hp_3
  refine ⟨rfl, ?_⟩
  refine z_eq (ws2 := [eX1 h0 ha (nI sz), eQ t ha 8 (fun j => some (ad j)), eX0 (ad 0) (nI (g 5)) (nI (g 6)) (nI (g 7)) (nI (g 8)) (nI (g 9)), eX0 (ad 1) (nI (g 5)) (nI (g 6)) (nI (g 7)) (nI (g 8)) (nI (g 9)), eX0 (ad 2) (nI (g 10)) (nI (g 11)) (nI (g 12)) (nI (g 13)) (nI (g 14)), eX0 (ad 3) (nI (g 15)) (nI (g 16)) (nI (g 17)) (nI (g 18)) (nI (g 19)), eX0 (ad 4) (nI (g 20)) (nI (g 21)) (nI (g 22)) (nI (g 23)) (nI (g 24)), eX0 (ad 5) (nI (g 25)) (nI (g 26)) (nI (g 27)) (nI (g 28)) (nI (g 29)), eX0 (ad 6) (nI (g 30)) (nI (g 31)) (nI (g 32)) (nI (g 33)) (nI (g 34)), eX0 (ad 7) (nI (g 35)) (nI (g 36)) (nI (g 37)) (nI (g 38)) (nI (g 39))]) (st2 := []) rfl rfl rfl ?_
  refine z_iinc X (pc := 28) (i := 1) 0 (nI 2) [(1, .int (nI 2)), (0, .ref h0)] dX1_dropOldest_28 rfl (nI_incc 1 1) (by decide) rfl ?_
  refine z_goto X (pc := 31) 2 dX1_dropOldest_31 (by decide) ?_
  refine z_iload_n X (pc := 2) 0 dX1_dropOldest_2 rfl ?_
  refine z_aload_n X (pc := 3) 1 dX1_dropOldest_3 rfl ?_
  refine z_get X (pc := 4) 0 0 (.ref ha) tu_1 tw_94 dX1_dropOldest_4 rfl rfl (by decide) rfl rfl ?_
  refine z_alen_q X (pc := 7) 1 dX1_dropOldest_7 rfl ?_
  refine z_icmp_geN X (pc := 8) 34 (by omega) (by omega) dX1_dropOldest_8 (by decide) (fun c_8 => absurd c_8 (by decide)) (fun c_8 => ?_)
  refine z_aload_n X (pc := 11) 1 dX1_dropOldest_11 rfl ?_
  refine z_get X (pc := 12) 0 0 (.ref ha) tu_1 tw_94 dX1_dropOldest_12 rfl rfl (by decide) rfl rfl ?_
  refine z_iload_n X (pc := 15) 0 dX1_dropOldest_15 rfl ?_
  refine z_iconst X (pc := 16) (nI 1) dX1_dropOldest_16 (by decide) ?_
  refine z_isub X (pc := 17) (v := (nI 1)) dX1_dropOldest_17 (pk_sub (by omega)) ?_
  refine z_aald X (pc := 18) 1 1 (ad 1) dX1_dropOldest_18 rfl rfl (Nat.le_of_ble_eq_true rfl) (by omega) rfl ?_
  refine z_aload_n X (pc := 19) 1 dX1_dropOldest_19 rfl ?_
  refine z_get X (pc := 20) 0 0 (.ref ha) tu_1 tw_94 dX1_dropOldest_20 rfl rfl (by decide) rfl rfl ?_
  refine z_iload_n X (pc := 23) 0 dX1_dropOldest_23 rfl ?_
  refine z_aald X (pc := 24) 1 2 (ad 2) dX1_dropOldest_24 rfl rfl (Nat.le_of_ble_eq_true rfl) (by omega) rfl ?_
  refine zc_V (as := [.ref (ad 2)]) X (pc := 25) (c_X0_copyFrom lq D t (ad 1) (ad 2) (nI (g 5)) (nI (g 6)) (nI (g 7)) (nI (g 8)) (nI (g 9)) (nI (g 10)) (nI (g 11)) (nI (g 12)) (nI (g 13)) (nI (g 14)) ) tw_318 tw_270 tw_3 tw_268 tw_269 0 0 rfl rfl [3, 4] rfl rfl dX1_dropOldest_25 rfl zdX0_copyFrom ⟨rfl, rfl, Nat.le_of_ble_eq_true rfl, Nat.le_of_ble_eq_true rfl⟩ (Nat.le_of_ble_eq_true rfl) (Nat.zero_le _) (Nat.zero_le _) (fun v_4 w_5 hp_6 => ?_)
  obtain ⟨rfl, rfl⟩ := hp_6
  refine ⟨rfl, ?_⟩
  refine z_eq (ws2 := [eX1 h0 ha (nI sz), eQ t ha 8 (fun j => some (ad j)), eX0 (ad 0) (nI (g 5)) (nI (g 6)) (nI (g 7)) (nI (g 8)) (nI (g 9)), eX0 (ad 1) (nI (g 10)) (nI (g 11)) (nI (g 12)) (nI (g 13)) (nI (g 14)), eX0 (ad 2) (nI (g 10)) (nI (g 11)) (nI (g 12)) (nI (g 13)) (nI (g 14)), eX0 (ad 3) (nI (g 15)) (nI (g 16)) (nI (g 17)) (nI (g 18)) (nI (g 19)), eX0 (ad 4) (nI (g 20)) (nI (g 21)) (nI (g 22)) (nI (g 23)) (nI (g 24)), eX0 (ad 5) (nI (g 25)) (nI (g 26)) (nI (g 27)) (nI (g 28)) (nI (g 29)), eX0 (ad 6) (nI (g 30)) (nI (g 31)) (nI (g 32)) (nI (g 33)) (nI (g 34)), eX0 (ad 7) (nI (g 35)) (nI (g 36)) (nI (g 37)) (nI (g 38)) (nI (g 39))]) (st2 := []) rfl rfl rfl ?_
  refine z_iinc X (pc := 28) (i := 1) 0 (nI 3) [(1, .int (nI 3)), (0, .ref h0)] dX1_dropOldest_28 rfl (nI_incc 2 1) (by decide) rfl ?_
  refine z_goto X (pc := 31) 2 dX1_dropOldest_31 (by decide) ?_
  refine z_iload_n X (pc := 2) 0 dX1_dropOldest_2 rfl ?_
  refine z_aload_n X (pc := 3) 1 dX1_dropOldest_3 rfl ?_
  refine z_get X (pc := 4) 0 0 (.ref ha) tu_1 tw_94 dX1_dropOldest_4 rfl rfl (by decide) rfl rfl ?_
  refine z_alen_q X (pc := 7) 1 dX1_dropOldest_7 rfl ?_
  refine z_icmp_geN X (pc := 8) 34 (by omega) (by omega) dX1_dropOldest_8 (by decide) (fun c_8 => absurd c_8 (by decide)) (fun c_8 => ?_)
  refine z_aload_n X (pc := 11) 1 dX1_dropOldest_11 rfl ?_
  refine z_get X (pc := 12) 0 0 (.ref ha) tu_1 tw_94 dX1_dropOldest_12 rfl rfl (by decide) rfl rfl ?_
  refine z_iload_n X (pc := 15) 0 dX1_dropOldest_15 rfl ?_
  refine z_iconst X (pc := 16) (nI 1) dX1_dropOldest_16 (by decide) ?_
  refine z_isub X (pc := 17) (v := (nI 2)) dX1_dropOldest_17 (pk_sub (by omega)) ?_
  refine z_aald X (pc := 18) 1 2 (ad 2) dX1_dropOldest_18 rfl rfl (Nat.le_of_ble_eq_true rfl) (by omega) rfl ?_
  refine z_aload_n X (pc := 19) 1 dX1_dropOldest_19 rfl ?_
  refine z_get X (pc := 20) 0 0 (.ref ha) tu_1 tw_94 dX1_dropOldest_20 rfl rfl (by decide) rfl rfl ?_
  refine z_iload_n X (pc := 23) 0 dX1_dropOldest_23 rfl ?_
  refine z_aald X (pc := 24) 1 3 (ad 3) dX1_dropOldest_24 rfl rfl (Nat.le_of_ble_eq_true rfl) (by omega) rfl ?_
  refine zc_V (as := [.ref (ad 3)]) X (pc := 25) (c_X0_copyFrom lq D t (ad 2) (ad 3) (nI (g 10)) (nI (g 11)) (nI (g 12)) (nI (g 13)) (nI (g 14)) (nI (g 15)) (nI (g 16)) (nI (g 17)) (nI (g 18)) (nI (g 19)) ) tw_318 tw_270 tw_3 tw_268 tw_269 0 0 rfl rfl [4, 5] rfl rfl dX1_dropOldest_25 rfl zdX0_copyFrom ⟨rfl, rfl, Nat.le_of_ble_eq_true rfl, Nat.le_of_ble_eq_true rfl⟩ (Nat.le_of_ble_eq_true rfl) (Nat.zero_le _) (Nat.zero_le _) (fun v_7 w_8 hp_9 => ?_)
  obtain ⟨rfl, rfl⟩ := hp_9
  refine ⟨rfl, ?_⟩
  refine z_eq (ws2 := [eX1 h0 ha (nI sz), eQ t ha 8 (fun j => some (ad j)), eX0 (ad 0) (nI (g 5)) (nI (g 6)) (nI (g 7)) (nI (g 8)) (nI (g 9)), eX0 (ad 1) (nI (g 10)) (nI (g 11)) (nI (g 12)) (nI (g 13)) (nI (g 14)), eX0 (ad 2) (nI (g 15)) (nI (g 16)) (nI (g 17)) (nI (g 18)) (nI (g 19)), eX0 (ad 3) (nI (g 15)) (nI (g 16)) (nI (g 17)) (nI (g 18)) (nI (g 19)), eX0 (ad 4) (nI (g 20)) (nI (g 21)) (nI (g 22)) (nI (g 23)) (nI (g 24)), eX0 (ad 5) (nI (g 25)) (nI (g 26)) (nI (g 27)) (nI (g 28)) (nI (g 29)), eX0 (ad 6) (nI (g 30)) (nI (g 31)) (nI (g 32)) (nI (g 33)) (nI (g 34)), eX0 (ad 7) (nI (g 35)) (nI (g 36)) (nI (g 37)) (nI (g 38)) (nI (g 39))]) (st2 := []) rfl rfl rfl ?_
  refine z_iinc X (pc := 28) (i := 1) 0 (nI 4) [(1, .int (nI 4)), (0, .ref h0)] dX1_dropOldest_28 rfl (nI_incc 3 1) (by decide) rfl ?_
  refine z_goto X (pc := 31) 2 dX1_dropOldest_31 (by decide) ?_
  refine z_iload_n X (pc := 2) 0 dX1_dropOldest_2 rfl ?_
  refine z_aload_n X (pc := 3) 1 dX1_dropOldest_3 rfl ?_
  refine z_get X (pc := 4) 0 0 (.ref ha) tu_1 tw_94 dX1_dropOldest_4 rfl rfl (by decide) rfl rfl ?_
  refine z_alen_q X (pc := 7) 1 dX1_dropOldest_7 rfl ?_
  refine z_icmp_geN X (pc := 8) 34 (by omega) (by omega) dX1_dropOldest_8 (by decide) (fun c_8 => absurd c_8 (by decide)) (fun c_8 => ?_)
  refine z_aload_n X (pc := 11) 1 dX1_dropOldest_11 rfl ?_
  refine z_get X (pc := 12) 0 0 (.ref ha) tu_1 tw_94 dX1_dropOldest_12 rfl rfl (by decide) rfl rfl ?_
  refine z_iload_n X (pc := 15) 0 dX1_dropOldest_15 rfl ?_
  refine z_iconst X (pc := 16) (nI 1) dX1_dropOldest_16 (by decide) ?_
  refine z_isub X (pc := 17) (v := (nI 3)) dX1_dropOldest_17 (pk_sub (by omega)) ?_
  refine z_aald X (pc := 18) 1 3 (ad 3) dX1_dropOldest_18 rfl rfl (Nat.le_of_ble_eq_true rfl) (by omega) rfl ?_
  refine z_aload_n X (pc := 19) 1 dX1_dropOldest_19 rfl ?_
  refine z_get X (pc := 20) 0 0 (.ref ha) tu_1 tw_94 dX1_dropOldest_20 rfl rfl (by decide) rfl rfl ?_
  refine z_iload_n X (pc := 23) 0 dX1_dropOldest_23 rfl ?_
  refine z_aald X (pc := 24) 1 4 (ad 4) dX1_dropOldest_24 rfl rfl (Nat.le_of_ble_eq_true rfl) (by omega) rfl ?_
  refine zc_V (as := [.ref (ad 4)]) X (pc := 25) (c_X0_copyFrom lq D t (ad 3) (ad 4) (nI (g 15)) (nI (g 16)) (nI (g 17)) (nI (g 18)) (nI (g 19)) (nI (g 20)) (nI (g 21)) (nI (g 22)) (nI (g 23)) (nI (g 24)) ) tw_318 tw_270 tw_3 tw_268 tw_269 0 0 rfl rfl [5, 6] rfl rfl dX1_dropOldest_25 rfl zdX0_copyFrom ⟨rfl, rfl, Nat.le_of_ble_eq_true rfl, Nat.le_of_ble_eq_true rfl⟩ (Nat.le_of_ble_eq_true rfl) (Nat.zero_le _) (Nat.zero_le _) (fun v_10 w_11 hp_12 => ?_)
  obtain ⟨rfl, rfl⟩ := hp_12
  refine ⟨rfl, ?_⟩
  refine z_eq (ws2 := [eX1 h0 ha (nI sz), eQ t ha 8 (fun j => some (ad j)), eX0 (ad 0) (nI (g 5)) (nI (g 6)) (nI (g 7)) (nI (g 8)) (nI (g 9)), eX0 (ad 1) (nI (g 10)) (nI (g 11)) (nI (g 12)) (nI (g 13)) (nI (g 14)), eX0 (ad 2) (nI (g 15)) (nI (g 16)) (nI (g 17)) (nI (g 18)) (nI (g 19)), eX0 (ad 3) (nI (g 20)) (nI (g 21)) (nI (g 22)) (nI (g 23)) (nI (g 24)), eX0 (ad 4) (nI (g 20)) (nI (g 21)) (nI (g 22)) (nI (g 23)) (nI (g 24)), eX0 (ad 5) (nI (g 25)) (nI (g 26)) (nI (g 27)) (nI (g 28)) (nI (g 29)), eX0 (ad 6) (nI (g 30)) (nI (g 31)) (nI (g 32)) (nI (g 33)) (nI (g 34)), eX0 (ad 7) (nI (g 35)) (nI (g 36)) (nI (g 37)) (nI (g 38)) (nI (g 39))]) (st2 := []) rfl rfl rfl ?_
  refine z_iinc X (pc := 28) (i := 1) 0 (nI 5) [(1, .int (nI 5)), (0, .ref h0)] dX1_dropOldest_28 rfl (nI_incc 4 1) (by decide) rfl ?_
  refine z_goto X (pc := 31) 2 dX1_dropOldest_31 (by decide) ?_
  refine z_iload_n X (pc := 2) 0 dX1_dropOldest_2 rfl ?_
  refine z_aload_n X (pc := 3) 1 dX1_dropOldest_3 rfl ?_
  refine z_get X (pc := 4) 0 0 (.ref ha) tu_1 tw_94 dX1_dropOldest_4 rfl rfl (by decide) rfl rfl ?_
  refine z_alen_q X (pc := 7) 1 dX1_dropOldest_7 rfl ?_
  refine z_icmp_geN X (pc := 8) 34 (by omega) (by omega) dX1_dropOldest_8 (by decide) (fun c_8 => absurd c_8 (by decide)) (fun c_8 => ?_)
  refine z_aload_n X (pc := 11) 1 dX1_dropOldest_11 rfl ?_
  refine z_get X (pc := 12) 0 0 (.ref ha) tu_1 tw_94 dX1_dropOldest_12 rfl rfl (by decide) rfl rfl ?_
  refine z_iload_n X (pc := 15) 0 dX1_dropOldest_15 rfl ?_
  refine z_iconst X (pc := 16) (nI 1) dX1_dropOldest_16 (by decide) ?_
  refine z_isub X (pc := 17) (v := (nI 4)) dX1_dropOldest_17 (pk_sub (by omega)) ?_
  refine z_aald X (pc := 18) 1 4 (ad 4) dX1_dropOldest_18 rfl rfl (Nat.le_of_ble_eq_true rfl) (by omega) rfl ?_
  refine z_aload_n X (pc := 19) 1 dX1_dropOldest_19 rfl ?_
  refine z_get X (pc := 20) 0 0 (.ref ha) tu_1 tw_94 dX1_dropOldest_20 rfl rfl (by decide) rfl rfl ?_
  refine z_iload_n X (pc := 23) 0 dX1_dropOldest_23 rfl ?_
  refine z_aald X (pc := 24) 1 5 (ad 5) dX1_dropOldest_24 rfl rfl (Nat.le_of_ble_eq_true rfl) (by omega) rfl ?_
  refine zc_V (as := [.ref (ad 5)]) X (pc := 25) (c_X0_copyFrom lq D t (ad 4) (ad 5) (nI (g 20)) (nI (g 21)) (nI (g 22)) (nI (g 23)) (nI (g 24)) (nI (g 25)) (nI (g 26)) (nI (g 27)) (nI (g 28)) (nI (g 29)) ) tw_318 tw_270 tw_3 tw_268 tw_269 0 0 rfl rfl [6, 7] rfl rfl dX1_dropOldest_25 rfl zdX0_copyFrom ⟨rfl, rfl, Nat.le_of_ble_eq_true rfl, Nat.le_of_ble_eq_true rfl⟩ (Nat.le_of_ble_eq_true rfl) (Nat.zero_le _) (Nat.zero_le _) (fun v_13 w_14 hp_15 => ?_)
  obtain ⟨rfl, rfl⟩ := hp_15
  refine ⟨rfl, ?_⟩
  refine z_eq (ws2 := [eX1 h0 ha (nI sz), eQ t ha 8 (fun j => some (ad j)), eX0 (ad 0) (nI (g 5)) (nI (g 6)) (nI (g 7)) (nI (g 8)) (nI (g 9)), eX0 (ad 1) (nI (g 10)) (nI (g 11)) (nI (g 12)) (nI (g 13)) (nI (g 14)), eX0 (ad 2) (nI (g 15)) (nI (g 16)) (nI (g 17)) (nI (g 18)) (nI (g 19)), eX0 (ad 3) (nI (g 20)) (nI (g 21)) (nI (g 22)) (nI (g 23)) (nI (g 24)), eX0 (ad 4) (nI (g 25)) (nI (g 26)) (nI (g 27)) (nI (g 28)) (nI (g 29)), eX0 (ad 5) (nI (g 25)) (nI (g 26)) (nI (g 27)) (nI (g 28)) (nI (g 29)), eX0 (ad 6) (nI (g 30)) (nI (g 31)) (nI (g 32)) (nI (g 33)) (nI (g 34)), eX0 (ad 7) (nI (g 35)) (nI (g 36)) (nI (g 37)) (nI (g 38)) (nI (g 39))]) (st2 := []) rfl rfl rfl ?_
  refine z_iinc X (pc := 28) (i := 1) 0 (nI 6) [(1, .int (nI 6)), (0, .ref h0)] dX1_dropOldest_28 rfl (nI_incc 5 1) (by decide) rfl ?_
  refine z_goto X (pc := 31) 2 dX1_dropOldest_31 (by decide) ?_
  refine z_iload_n X (pc := 2) 0 dX1_dropOldest_2 rfl ?_
  refine z_aload_n X (pc := 3) 1 dX1_dropOldest_3 rfl ?_
  refine z_get X (pc := 4) 0 0 (.ref ha) tu_1 tw_94 dX1_dropOldest_4 rfl rfl (by decide) rfl rfl ?_
  refine z_alen_q X (pc := 7) 1 dX1_dropOldest_7 rfl ?_
  refine z_icmp_geN X (pc := 8) 34 (by omega) (by omega) dX1_dropOldest_8 (by decide) (fun c_8 => absurd c_8 (by decide)) (fun c_8 => ?_)
  refine z_aload_n X (pc := 11) 1 dX1_dropOldest_11 rfl ?_
  refine z_get X (pc := 12) 0 0 (.ref ha) tu_1 tw_94 dX1_dropOldest_12 rfl rfl (by decide) rfl rfl ?_
  refine z_iload_n X (pc := 15) 0 dX1_dropOldest_15 rfl ?_
  refine z_iconst X (pc := 16) (nI 1) dX1_dropOldest_16 (by decide) ?_
  refine z_isub X (pc := 17) (v := (nI 5)) dX1_dropOldest_17 (pk_sub (by omega)) ?_
  refine z_aald X (pc := 18) 1 5 (ad 5) dX1_dropOldest_18 rfl rfl (Nat.le_of_ble_eq_true rfl) (by omega) rfl ?_
  refine z_aload_n X (pc := 19) 1 dX1_dropOldest_19 rfl ?_
  refine z_get X (pc := 20) 0 0 (.ref ha) tu_1 tw_94 dX1_dropOldest_20 rfl rfl (by decide) rfl rfl ?_
  refine z_iload_n X (pc := 23) 0 dX1_dropOldest_23 rfl ?_
  refine z_aald X (pc := 24) 1 6 (ad 6) dX1_dropOldest_24 rfl rfl (Nat.le_of_ble_eq_true rfl) (by omega) rfl ?_
  refine zc_V (as := [.ref (ad 6)]) X (pc := 25) (c_X0_copyFrom lq D t (ad 5) (ad 6) (nI (g 25)) (nI (g 26)) (nI (g 27)) (nI (g 28)) (nI (g 29)) (nI (g 30)) (nI (g 31)) (nI (g 32)) (nI (g 33)) (nI (g 34)) ) tw_318 tw_270 tw_3 tw_268 tw_269 0 0 rfl rfl [7, 8] rfl rfl dX1_dropOldest_25 rfl zdX0_copyFrom ⟨rfl, rfl, Nat.le_of_ble_eq_true rfl, Nat.le_of_ble_eq_true rfl⟩ (Nat.le_of_ble_eq_true rfl) (Nat.zero_le _) (Nat.zero_le _) (fun v_16 w_17 hp_18 => ?_)
  obtain ⟨rfl, rfl⟩ := hp_18
  refine ⟨rfl, ?_⟩
  refine z_eq (ws2 := [eX1 h0 ha (nI sz), eQ t ha 8 (fun j => some (ad j)), eX0 (ad 0) (nI (g 5)) (nI (g 6)) (nI (g 7)) (nI (g 8)) (nI (g 9)), eX0 (ad 1) (nI (g 10)) (nI (g 11)) (nI (g 12)) (nI (g 13)) (nI (g 14)), eX0 (ad 2) (nI (g 15)) (nI (g 16)) (nI (g 17)) (nI (g 18)) (nI (g 19)), eX0 (ad 3) (nI (g 20)) (nI (g 21)) (nI (g 22)) (nI (g 23)) (nI (g 24)), eX0 (ad 4) (nI (g 25)) (nI (g 26)) (nI (g 27)) (nI (g 28)) (nI (g 29)), eX0 (ad 5) (nI (g 30)) (nI (g 31)) (nI (g 32)) (nI (g 33)) (nI (g 34)), eX0 (ad 6) (nI (g 30)) (nI (g 31)) (nI (g 32)) (nI (g 33)) (nI (g 34)), eX0 (ad 7) (nI (g 35)) (nI (g 36)) (nI (g 37)) (nI (g 38)) (nI (g 39))]) (st2 := []) rfl rfl rfl ?_
  refine z_iinc X (pc := 28) (i := 1) 0 (nI 7) [(1, .int (nI 7)), (0, .ref h0)] dX1_dropOldest_28 rfl (nI_incc 6 1) (by decide) rfl ?_
  refine z_goto X (pc := 31) 2 dX1_dropOldest_31 (by decide) ?_
  refine z_iload_n X (pc := 2) 0 dX1_dropOldest_2 rfl ?_
  refine z_aload_n X (pc := 3) 1 dX1_dropOldest_3 rfl ?_
  refine z_get X (pc := 4) 0 0 (.ref ha) tu_1 tw_94 dX1_dropOldest_4 rfl rfl (by decide) rfl rfl ?_
  refine z_alen_q X (pc := 7) 1 dX1_dropOldest_7 rfl ?_
  refine z_icmp_geN X (pc := 8) 34 (by omega) (by omega) dX1_dropOldest_8 (by decide) (fun c_8 => absurd c_8 (by decide)) (fun c_8 => ?_)
  refine z_aload_n X (pc := 11) 1 dX1_dropOldest_11 rfl ?_
  refine z_get X (pc := 12) 0 0 (.ref ha) tu_1 tw_94 dX1_dropOldest_12 rfl rfl (by decide) rfl rfl ?_
  refine z_iload_n X (pc := 15) 0 dX1_dropOldest_15 rfl ?_
  refine z_iconst X (pc := 16) (nI 1) dX1_dropOldest_16 (by decide) ?_
  refine z_isub X (pc := 17) (v := (nI 6)) dX1_dropOldest_17 (pk_sub (by omega)) ?_
  refine z_aald X (pc := 18) 1 6 (ad 6) dX1_dropOldest_18 rfl rfl (Nat.le_of_ble_eq_true rfl) (by omega) rfl ?_
  refine z_aload_n X (pc := 19) 1 dX1_dropOldest_19 rfl ?_
  refine z_get X (pc := 20) 0 0 (.ref ha) tu_1 tw_94 dX1_dropOldest_20 rfl rfl (by decide) rfl rfl ?_
  refine z_iload_n X (pc := 23) 0 dX1_dropOldest_23 rfl ?_
  refine z_aald X (pc := 24) 1 7 (ad 7) dX1_dropOldest_24 rfl rfl (Nat.le_of_ble_eq_true rfl) (by omega) rfl ?_
  refine zc_V (as := [.ref (ad 7)]) X (pc := 25) (c_X0_copyFrom lq D t (ad 6) (ad 7) (nI (g 30)) (nI (g 31)) (nI (g 32)) (nI (g 33)) (nI (g 34)) (nI (g 35)) (nI (g 36)) (nI (g 37)) (nI (g 38)) (nI (g 39)) ) tw_318 tw_270 tw_3 tw_268 tw_269 0 0 rfl rfl [8, 9] rfl rfl dX1_dropOldest_25 rfl zdX0_copyFrom ⟨rfl, rfl, Nat.le_of_ble_eq_true rfl, Nat.le_of_ble_eq_true rfl⟩ (Nat.le_of_ble_eq_true rfl) (Nat.zero_le _) (Nat.zero_le _) (fun v_19 w_20 hp_21 => ?_)
  obtain ⟨rfl, rfl⟩ := hp_21
  refine ⟨rfl, ?_⟩
  refine z_eq (ws2 := [eX1 h0 ha (nI sz), eQ t ha 8 (fun j => some (ad j)), eX0 (ad 0) (nI (g 5)) (nI (g 6)) (nI (g 7)) (nI (g 8)) (nI (g 9)), eX0 (ad 1) (nI (g 10)) (nI (g 11)) (nI (g 12)) (nI (g 13)) (nI (g 14)), eX0 (ad 2) (nI (g 15)) (nI (g 16)) (nI (g 17)) (nI (g 18)) (nI (g 19)), eX0 (ad 3) (nI (g 20)) (nI (g 21)) (nI (g 22)) (nI (g 23)) (nI (g 24)), eX0 (ad 4) (nI (g 25)) (nI (g 26)) (nI (g 27)) (nI (g 28)) (nI (g 29)), eX0 (ad 5) (nI (g 30)) (nI (g 31)) (nI (g 32)) (nI (g 33)) (nI (g 34)), eX0 (ad 6) (nI (g 35)) (nI (g 36)) (nI (g 37)) (nI (g 38)) (nI (g 39)), eX0 (ad 7) (nI (g 35)) (nI (g 36)) (nI (g 37)) (nI (g 38)) (nI (g 39))]) (st2 := []) rfl rfl rfl ?_
  refine z_iinc X (pc := 28) (i := 1) 0 (nI 8) [(1, .int (nI 8)), (0, .ref h0)] dX1_dropOldest_28 rfl (nI_incc 7 1) (by decide) rfl ?_
  refine z_goto X (pc := 31) 2 dX1_dropOldest_31 (by decide) ?_
  refine z_iload_n X (pc := 2) 0 dX1_dropOldest_2 rfl ?_
  refine z_aload_n X (pc := 3) 1 dX1_dropOldest_3 rfl ?_
  refine z_get X (pc := 4) 0 0 (.ref ha) tu_1 tw_94 dX1_dropOldest_4 rfl rfl (by decide) rfl rfl ?_
  refine z_alen_q X (pc := 7) 1 dX1_dropOldest_7 rfl ?_
  refine z_icmp_geN X (pc := 8) 34 (by omega) (by omega) dX1_dropOldest_8 (by decide) (fun c_8 => ?_) (fun c_8 => absurd c_8 (by decide))
  refine z_aload_n X (pc := 34) 1 dX1_dropOldest_34 rfl ?_
  refine z_aload_n X (pc := 35) 1 dX1_dropOldest_35 rfl ?_
  refine z_get X (pc := 36) 0 0 (.ref ha) tu_1 tw_94 dX1_dropOldest_36 rfl rfl (by decide) rfl rfl ?_
  refine z_alen_q X (pc := 39) 1 dX1_dropOldest_39 rfl ?_
  refine z_iconst X (pc := 40) (nI 1) dX1_dropOldest_40 (by decide) ?_
  refine z_isub X (pc := 41) (v := (nI 7)) dX1_dropOldest_41 (pk_sub (by omega)) ?_
  refine z_put X (pc := 42) 0 1 [eX1 h0 ha (nI 7), eQ t ha 8 (fun j => some (ad j)), eX0 (ad 0) (nI (g 5)) (nI (g 6)) (nI (g 7)) (nI (g 8)) (nI (g 9)), eX0 (ad 1) (nI (g 10)) (nI (g 11)) (nI (g 12)) (nI (g 13)) (nI (g 14)), eX0 (ad 2) (nI (g 15)) (nI (g 16)) (nI (g 17)) (nI (g 18)) (nI (g 19)), eX0 (ad 3) (nI (g 20)) (nI (g 21)) (nI (g 22)) (nI (g 23)) (nI (g 24)), eX0 (ad 4) (nI (g 25)) (nI (g 26)) (nI (g 27)) (nI (g 28)) (nI (g 29)), eX0 (ad 5) (nI (g 30)) (nI (g 31)) (nI (g 32)) (nI (g 33)) (nI (g 34)), eX0 (ad 6) (nI (g 35)) (nI (g 36)) (nI (g 37)) (nI (g 38)) (nI (g 39)), eX0 (ad 7) (nI (g 35)) (nI (g 36)) (nI (g 37)) (nI (g 38)) (nI (g 39))] tu_1 tyX1_ok nmX1 tw_95 dX1_dropOldest_42 rfl rfl (by decide) rfl rfl rfl rfl (Nat.le_of_ble_eq_true rfl) rfl ?_
  exact hR.v dX1_dropOldest_45 ⟨rfl, rfl⟩

abbrev rm_X1_put8 : Room := { frames := 2, cells := 0, slots := 0, locals := 42 }
set_option maxHeartbeats 4000000 in
set_option maxRecDepth 100000 in
theorem c_X1_put8 (lq : Launch) (D : va_G) (t : zT) (h0 ha : Nat) (ad g : Nat → Nat) (sz : Nat) (hc : Nat) (s : Nat → Nat) (hsz : sz ≤ 8) : Ct lq D t yX1_put cX1_put 2 none rm_X1_put8 [.ref h0, .ref hc] [eX1 h0 ha (nI sz), eQ t ha 8 (fun j => some (ad j)), eX0 (ad 0) (nI (g 0)) (nI (g 1)) (nI (g 2)) (nI (g 3)) (nI (g 4)), eX0 (ad 1) (nI (g 5)) (nI (g 6)) (nI (g 7)) (nI (g 8)) (nI (g 9)), eX0 (ad 2) (nI (g 10)) (nI (g 11)) (nI (g 12)) (nI (g 13)) (nI (g 14)), eX0 (ad 3) (nI (g 15)) (nI (g 16)) (nI (g 17)) (nI (g 18)) (nI (g 19)), eX0 (ad 4) (nI (g 20)) (nI (g 21)) (nI (g 22)) (nI (g 23)) (nI (g 24)), eX0 (ad 5) (nI (g 25)) (nI (g 26)) (nI (g 27)) (nI (g 28)) (nI (g 29)), eX0 (ad 6) (nI (g 30)) (nI (g 31)) (nI (g 32)) (nI (g 33)) (nI (g 34)), eX0 (ad 7) (nI (g 35)) (nI (g 36)) (nI (g 37)) (nI (g 38)) (nI (g 39)), eX0 hc (nI (s 0)) (nI (s 1)) (nI (s 2)) (nI (s 3)) (nI (s 4))] 0 0 (fun rv rw_ => rv = none ∧ rw_ = [eX1 h0 ha (nI (if sz = 8 then 8 else sz + 1)), eQ t ha 8 (fun j => some (ad j)), eX0 (ad 0) (nI (pput g sz s 0)) (nI (pput g sz s 1)) (nI (pput g sz s 2)) (nI (pput g sz s 3)) (nI (pput g sz s 4)), eX0 (ad 1) (nI (pput g sz s 5)) (nI (pput g sz s 6)) (nI (pput g sz s 7)) (nI (pput g sz s 8)) (nI (pput g sz s 9)), eX0 (ad 2) (nI (pput g sz s 10)) (nI (pput g sz s 11)) (nI (pput g sz s 12)) (nI (pput g sz s 13)) (nI (pput g sz s 14)), eX0 (ad 3) (nI (pput g sz s 15)) (nI (pput g sz s 16)) (nI (pput g sz s 17)) (nI (pput g sz s 18)) (nI (pput g sz s 19)), eX0 (ad 4) (nI (pput g sz s 20)) (nI (pput g sz s 21)) (nI (pput g sz s 22)) (nI (pput g sz s 23)) (nI (pput g sz s 24)), eX0 (ad 5) (nI (pput g sz s 25)) (nI (pput g sz s 26)) (nI (pput g sz s 27)) (nI (pput g sz s 28)) (nI (pput g sz s 29)), eX0 (ad 6) (nI (pput g sz s 30)) (nI (pput g sz s 31)) (nI (pput g sz s 32)) (nI (pput g sz s 33)) (nI (pput g sz s 34)), eX0 (ad 7) (nI (pput g sz s 35)) (nI (pput g sz s 36)) (nI (pput g sz s 37)) (nI (pput g sz s 38)) (nI (pput g sz s 39)), eX0 hc (nI (s 0)) (nI (s 1)) (nI (s 2)) (nI (s 3)) (nI (s 4))]) := by
  refine Ct.of (by decide) (Nat.le_of_ble_eq_true rfl) (fun k X hR => ?_)
  have X : zX D t k cX1_put 2 RX1 "put" rm_X1_put8 lq := X
  refine z_eq (lv2 := [(0, .ref h0), (1, .ref hc)]) rfl rfl rfl ?_
  rcases (show sz = 0 ∨ sz = 1 ∨ sz = 2 ∨ sz = 3 ∨ sz = 4 ∨ sz = 5 ∨ sz = 6 ∨ sz = 7 ∨ sz = 8 by omega) with rfl | rfl | rfl | rfl | rfl | rfl | rfl | rfl | rfl
  · skip
    refine z_aload_n X (pc := 0) 0 dX1_put_0 rfl ?_
    refine zc_V (as := []) X (pc := 1) (c_X1_isFull lq D t h0 ha 0 8 (fun j => some (ad j)) (by decide) (by decide)) tw_310 tw_313 tw_4 tw_311 tw_312 0 1 rfl rfl [0, 1] rfl rfl dX1_put_1 rfl zdX1_isFull ⟨rfl, rfl, Nat.le_of_ble_eq_true rfl, Nat.le_of_ble_eq_true rfl⟩ (Nat.le_of_ble_eq_true rfl) (Nat.zero_le _) (Nat.zero_le _) (fun v_1 w_2 hp_3 => ?_)
    obtain ⟨rfl, rfl⟩ := hp_3
    refine ⟨rfl, ?_⟩
    refine z_eq (ws2 := [eX1 h0 ha (nI 0), eQ t ha 8 (fun j => some (ad j)), eX0 (ad 0) (nI (g 0)) (nI (g 1)) (nI (g 2)) (nI (g 3)) (nI (g 4)), eX0 (ad 1) (nI (g 5)) (nI (g 6)) (nI (g 7)) (nI (g 8)) (nI (g 9)), eX0 (ad 2) (nI (g 10)) (nI (g 11)) (nI (g 12)) (nI (g 13)) (nI (g 14)), eX0 (ad 3) (nI (g 15)) (nI (g 16)) (nI (g 17)) (nI (g 18)) (nI (g 19)), eX0 (ad 4) (nI (g 20)) (nI (g 21)) (nI (g 22)) (nI (g 23)) (nI (g 24)), eX0 (ad 5) (nI (g 25)) (nI (g 26)) (nI (g 27)) (nI (g 28)) (nI (g 29)), eX0 (ad 6) (nI (g 30)) (nI (g 31)) (nI (g 32)) (nI (g 33)) (nI (g 34)), eX0 (ad 7) (nI (g 35)) (nI (g 36)) (nI (g 37)) (nI (g 38)) (nI (g 39)), eX0 hc (nI (s 0)) (nI (s 1)) (nI (s 2)) (nI (s 3)) (nI (s 4))]) (st2 := [.int (zb (8 ≤ 0))]) rfl rfl rfl ?_
    refine z_if_eqB X (pc := 4) 11 dX1_put_4 (by decide) (fun c_4 => ?_) (fun c_4 => absurd c_4 (by decide))
    refine z_aload_n X (pc := 11) 0 dX1_put_11 rfl ?_
    refine z_get X (pc := 12) 0 1 (.int (nI 0)) tu_1 tw_95 dX1_put_12 rfl rfl (by decide) rfl rfl ?_
    refine z_iconst X (pc := 15) (nI 0) dX1_put_15 (by decide) ?_
    refine z_aload_n X (pc := 16) 0 dX1_put_16 rfl ?_
    refine z_get X (pc := 17) 0 0 (.ref ha) tu_1 tw_94 dX1_put_17 rfl rfl (by decide) rfl rfl ?_
    refine z_alen_q X (pc := 20) 1 dX1_put_20 rfl ?_
    refine z_iconst X (pc := 21) (nI 1) dX1_put_21 (by decide) ?_
    refine z_isub X (pc := 22) (v := (nI 7)) dX1_put_22 (pk_sub (by omega)) ?_
    refine zc_SN (as := [.int (nI 0), .int (nI 0), .int (nI 7)]) X (pc := 23) (c_X4_within lq D t (nI 0) (nI 0) (nI 7) ) tw_319 tw_182 tw_1 tw_181 [] rfl rfl dX1_put_23 rfl zdX4_within ⟨rfl, rfl, Nat.le_of_ble_eq_true rfl, Nat.le_of_ble_eq_true rfl⟩ (Nat.le_of_ble_eq_true rfl) (Nat.zero_le _) (Nat.zero_le _) (fun v_4 w_5 hp_6 => ?_)
    obtain ⟨rfl, rfl⟩ := hp_6
    refine ⟨rfl, ?_⟩
    refine z_eq (ws2 := [eX1 h0 ha (nI 0), eQ t ha 8 (fun j => some (ad j)), eX0 (ad 0) (nI (g 0)) (nI (g 1)) (nI (g 2)) (nI (g 3)) (nI (g 4)), eX0 (ad 1) (nI (g 5)) (nI (g 6)) (nI (g 7)) (nI (g 8)) (nI (g 9)), eX0 (ad 2) (nI (g 10)) (nI (g 11)) (nI (g 12)) (nI (g 13)) (nI (g 14)), eX0 (ad 3) (nI (g 15)) (nI (g 16)) (nI (g 17)) (nI (g 18)) (nI (g 19)), eX0 (ad 4) (nI (g 20)) (nI (g 21)) (nI (g 22)) (nI (g 23)) (nI (g 24)), eX0 (ad 5) (nI (g 25)) (nI (g 26)) (nI (g 27)) (nI (g 28)) (nI (g 29)), eX0 (ad 6) (nI (g 30)) (nI (g 31)) (nI (g 32)) (nI (g 33)) (nI (g 34)), eX0 (ad 7) (nI (g 35)) (nI (g 36)) (nI (g 37)) (nI (g 38)) (nI (g 39)), eX0 hc (nI (s 0)) (nI (s 1)) (nI (s 2)) (nI (s 3)) (nI (s 4))]) (st2 := [.int (zb ((nI 0) ≤ (nI 0) ∧ (nI 0) ≤ (nI 7)))]) rfl rfl rfl ?_
    refine z_if_eqB X (pc := 26) 52 dX1_put_26 (by decide) (fun c_26 => absurd c_26 (by decide)) (fun c_26 => ?_)
    refine z_aload_n X (pc := 29) 0 dX1_put_29 rfl ?_
    refine z_get X (pc := 30) 0 0 (.ref ha) tu_1 tw_94 dX1_put_30 rfl rfl (by decide) rfl rfl ?_
    refine z_aload_n X (pc := 33) 0 dX1_put_33 rfl ?_
    refine z_get X (pc := 34) 0 1 (.int (nI 0)) tu_1 tw_95 dX1_put_34 rfl rfl (by decide) rfl rfl ?_
    refine z_aald X (pc := 37) 1 0 (ad 0) dX1_put_37 rfl rfl (Nat.le_of_ble_eq_true rfl) (by decide) rfl ?_
    refine z_aload_n X (pc := 38) 1 dX1_put_38 rfl ?_
    refine zc_V (as := [.ref hc]) X (pc := 39) (c_X0_copyFrom lq D t (ad 0) hc (nI (g 0)) (nI (g 1)) (nI (g 2)) (nI (g 3)) (nI (g 4)) (nI (s 0)) (nI (s 1)) (nI (s 2)) (nI (s 3)) (nI (s 4)) ) tw_318 tw_270 tw_3 tw_268 tw_269 0 0 rfl rfl [2, 10] rfl rfl dX1_put_39 rfl zdX0_copyFrom ⟨rfl, rfl, Nat.le_of_ble_eq_true rfl, Nat.le_of_ble_eq_true rfl⟩ (Nat.le_of_ble_eq_true rfl) (Nat.zero_le _) (Nat.zero_le _) (fun v_7 w_8 hp_9 => ?_)
    obtain ⟨rfl, rfl⟩ := hp_9
    refine ⟨rfl, ?_⟩
    refine z_eq (ws2 := [eX1 h0 ha (nI 0), eQ t ha 8 (fun j => some (ad j)), eX0 (ad 0) (nI (s 0)) (nI (s 1)) (nI (s 2)) (nI (s 3)) (nI (s 4)), eX0 (ad 1) (nI (g 5)) (nI (g 6)) (nI (g 7)) (nI (g 8)) (nI (g 9)), eX0 (ad 2) (nI (g 10)) (nI (g 11)) (nI (g 12)) (nI (g 13)) (nI (g 14)), eX0 (ad 3) (nI (g 15)) (nI (g 16)) (nI (g 17)) (nI (g 18)) (nI (g 19)), eX0 (ad 4) (nI (g 20)) (nI (g 21)) (nI (g 22)) (nI (g 23)) (nI (g 24)), eX0 (ad 5) (nI (g 25)) (nI (g 26)) (nI (g 27)) (nI (g 28)) (nI (g 29)), eX0 (ad 6) (nI (g 30)) (nI (g 31)) (nI (g 32)) (nI (g 33)) (nI (g 34)), eX0 (ad 7) (nI (g 35)) (nI (g 36)) (nI (g 37)) (nI (g 38)) (nI (g 39)), eX0 hc (nI (s 0)) (nI (s 1)) (nI (s 2)) (nI (s 3)) (nI (s 4))]) (st2 := []) rfl rfl rfl ?_
    refine z_aload_n X (pc := 42) 0 dX1_put_42 rfl ?_
    refine z_dup X (pc := 43) dX1_put_43 rfl ?_
    refine z_get X (pc := 44) 0 1 (.int (nI 0)) tu_1 tw_95 dX1_put_44 rfl rfl (by decide) rfl rfl ?_
    refine z_iconst X (pc := 47) (nI 1) dX1_put_47 (by decide) ?_
    refine z_iadd X (pc := 48) (v := (nI 1)) dX1_put_48 (nI_add 0 1) ?_
    refine z_put X (pc := 49) 0 1 [eX1 h0 ha (nI 1), eQ t ha 8 (fun j => some (ad j)), eX0 (ad 0) (nI (s 0)) (nI (s 1)) (nI (s 2)) (nI (s 3)) (nI (s 4)), eX0 (ad 1) (nI (g 5)) (nI (g 6)) (nI (g 7)) (nI (g 8)) (nI (g 9)), eX0 (ad 2) (nI (g 10)) (nI (g 11)) (nI (g 12)) (nI (g 13)) (nI (g 14)), eX0 (ad 3) (nI (g 15)) (nI (g 16)) (nI (g 17)) (nI (g 18)) (nI (g 19)), eX0 (ad 4) (nI (g 20)) (nI (g 21)) (nI (g 22)) (nI (g 23)) (nI (g 24)), eX0 (ad 5) (nI (g 25)) (nI (g 26)) (nI (g 27)) (nI (g 28)) (nI (g 29)), eX0 (ad 6) (nI (g 30)) (nI (g 31)) (nI (g 32)) (nI (g 33)) (nI (g 34)), eX0 (ad 7) (nI (g 35)) (nI (g 36)) (nI (g 37)) (nI (g 38)) (nI (g 39)), eX0 hc (nI (s 0)) (nI (s 1)) (nI (s 2)) (nI (s 3)) (nI (s 4))] tu_1 tyX1_ok nmX1 tw_95 dX1_put_49 rfl rfl (by decide) rfl rfl rfl rfl (Nat.le_of_ble_eq_true rfl) rfl ?_
    exact hR.v dX1_put_52 ⟨rfl, rfl⟩
  · skip
    refine z_aload_n X (pc := 0) 0 dX1_put_0 rfl ?_
    refine zc_V (as := []) X (pc := 1) (c_X1_isFull lq D t h0 ha 1 8 (fun j => some (ad j)) (by decide) (by decide)) tw_310 tw_313 tw_4 tw_311 tw_312 0 1 rfl rfl [0, 1] rfl rfl dX1_put_1 rfl zdX1_isFull ⟨rfl, rfl, Nat.le_of_ble_eq_true rfl, Nat.le_of_ble_eq_true rfl⟩ (Nat.le_of_ble_eq_true rfl) (Nat.zero_le _) (Nat.zero_le _) (fun v_10 w_11 hp_12 => ?_)
    obtain ⟨rfl, rfl⟩ := hp_12
    refine ⟨rfl, ?_⟩
    refine z_eq (ws2 := [eX1 h0 ha (nI 1), eQ t ha 8 (fun j => some (ad j)), eX0 (ad 0) (nI (g 0)) (nI (g 1)) (nI (g 2)) (nI (g 3)) (nI (g 4)), eX0 (ad 1) (nI (g 5)) (nI (g 6)) (nI (g 7)) (nI (g 8)) (nI (g 9)), eX0 (ad 2) (nI (g 10)) (nI (g 11)) (nI (g 12)) (nI (g 13)) (nI (g 14)), eX0 (ad 3) (nI (g 15)) (nI (g 16)) (nI (g 17)) (nI (g 18)) (nI (g 19)), eX0 (ad 4) (nI (g 20)) (nI (g 21)) (nI (g 22)) (nI (g 23)) (nI (g 24)), eX0 (ad 5) (nI (g 25)) (nI (g 26)) (nI (g 27)) (nI (g 28)) (nI (g 29)), eX0 (ad 6) (nI (g 30)) (nI (g 31)) (nI (g 32)) (nI (g 33)) (nI (g 34)), eX0 (ad 7) (nI (g 35)) (nI (g 36)) (nI (g 37)) (nI (g 38)) (nI (g 39)), eX0 hc (nI (s 0)) (nI (s 1)) (nI (s 2)) (nI (s 3)) (nI (s 4))]) (st2 := [.int (zb (8 ≤ 1))]) rfl rfl rfl ?_
    refine z_if_eqB X (pc := 4) 11 dX1_put_4 (by decide) (fun c_4 => ?_) (fun c_4 => absurd c_4 (by decide))
    refine z_aload_n X (pc := 11) 0 dX1_put_11 rfl ?_
    refine z_get X (pc := 12) 0 1 (.int (nI 1)) tu_1 tw_95 dX1_put_12 rfl rfl (by decide) rfl rfl ?_
    refine z_iconst X (pc := 15) (nI 0) dX1_put_15 (by decide) ?_
    refine z_aload_n X (pc := 16) 0 dX1_put_16 rfl ?_
    refine z_get X (pc := 17) 0 0 (.ref ha) tu_1 tw_94 dX1_put_17 rfl rfl (by decide) rfl rfl ?_
    refine z_alen_q X (pc := 20) 1 dX1_put_20 rfl ?_
    refine z_iconst X (pc := 21) (nI 1) dX1_put_21 (by decide) ?_
    refine z_isub X (pc := 22) (v := (nI 7)) dX1_put_22 (pk_sub (by omega)) ?_
    refine zc_SN (as := [.int (nI 1), .int (nI 0), .int (nI 7)]) X (pc := 23) (c_X4_within lq D t (nI 1) (nI 0) (nI 7) ) tw_319 tw_182 tw_1 tw_181 [] rfl rfl dX1_put_23 rfl zdX4_within ⟨rfl, rfl, Nat.le_of_ble_eq_true rfl, Nat.le_of_ble_eq_true rfl⟩ (Nat.le_of_ble_eq_true rfl) (Nat.zero_le _) (Nat.zero_le _) (fun v_13 w_14 hp_15 => ?_)
    obtain ⟨rfl, rfl⟩ := hp_15
    refine ⟨rfl, ?_⟩
    refine z_eq (ws2 := [eX1 h0 ha (nI 1), eQ t ha 8 (fun j => some (ad j)), eX0 (ad 0) (nI (g 0)) (nI (g 1)) (nI (g 2)) (nI (g 3)) (nI (g 4)), eX0 (ad 1) (nI (g 5)) (nI (g 6)) (nI (g 7)) (nI (g 8)) (nI (g 9)), eX0 (ad 2) (nI (g 10)) (nI (g 11)) (nI (g 12)) (nI (g 13)) (nI (g 14)), eX0 (ad 3) (nI (g 15)) (nI (g 16)) (nI (g 17)) (nI (g 18)) (nI (g 19)), eX0 (ad 4) (nI (g 20)) (nI (g 21)) (nI (g 22)) (nI (g 23)) (nI (g 24)), eX0 (ad 5) (nI (g 25)) (nI (g 26)) (nI (g 27)) (nI (g 28)) (nI (g 29)), eX0 (ad 6) (nI (g 30)) (nI (g 31)) (nI (g 32)) (nI (g 33)) (nI (g 34)), eX0 (ad 7) (nI (g 35)) (nI (g 36)) (nI (g 37)) (nI (g 38)) (nI (g 39)), eX0 hc (nI (s 0)) (nI (s 1)) (nI (s 2)) (nI (s 3)) (nI (s 4))]) (st2 := [.int (zb ((nI 0) ≤ (nI 1) ∧ (nI 1) ≤ (nI 7)))]) rfl rfl rfl ?_
    refine z_if_eqB X (pc := 26) 52 dX1_put_26 (by decide) (fun c_26 => absurd c_26 (by decide)) (fun c_26 => ?_)
    refine z_aload_n X (pc := 29) 0 dX1_put_29 rfl ?_
    refine z_get X (pc := 30) 0 0 (.ref ha) tu_1 tw_94 dX1_put_30 rfl rfl (by decide) rfl rfl ?_
    refine z_aload_n X (pc := 33) 0 dX1_put_33 rfl ?_
    refine z_get X (pc := 34) 0 1 (.int (nI 1)) tu_1 tw_95 dX1_put_34 rfl rfl (by decide) rfl rfl ?_
    refine z_aald X (pc := 37) 1 1 (ad 1) dX1_put_37 rfl rfl (Nat.le_of_ble_eq_true rfl) (by decide) rfl ?_
    refine z_aload_n X (pc := 38) 1 dX1_put_38 rfl ?_
    refine zc_V (as := [.ref hc]) X (pc := 39) (c_X0_copyFrom lq D t (ad 1) hc (nI (g 5)) (nI (g 6)) (nI (g 7)) (nI (g 8)) (nI (g 9)) (nI (s 0)) (nI (s 1)) (nI (s 2)) (nI (s 3)) (nI (s 4)) ) tw_318 tw_270 tw_3 tw_268 tw_269 0 0 rfl rfl [3, 10] rfl rfl dX1_put_39 rfl zdX0_copyFrom ⟨rfl, rfl, Nat.le_of_ble_eq_true rfl, Nat.le_of_ble_eq_true rfl⟩ (Nat.le_of_ble_eq_true rfl) (Nat.zero_le _) (Nat.zero_le _) (fun v_16 w_17 hp_18 => ?_)
    obtain ⟨rfl, rfl⟩ := hp_18
    refine ⟨rfl, ?_⟩
    refine z_eq (ws2 := [eX1 h0 ha (nI 1), eQ t ha 8 (fun j => some (ad j)), eX0 (ad 0) (nI (g 0)) (nI (g 1)) (nI (g 2)) (nI (g 3)) (nI (g 4)), eX0 (ad 1) (nI (s 0)) (nI (s 1)) (nI (s 2)) (nI (s 3)) (nI (s 4)), eX0 (ad 2) (nI (g 10)) (nI (g 11)) (nI (g 12)) (nI (g 13)) (nI (g 14)), eX0 (ad 3) (nI (g 15)) (nI (g 16)) (nI (g 17)) (nI (g 18)) (nI (g 19)), eX0 (ad 4) (nI (g 20)) (nI (g 21)) (nI (g 22)) (nI (g 23)) (nI (g 24)), eX0 (ad 5) (nI (g 25)) (nI (g 26)) (nI (g 27)) (nI (g 28)) (nI (g 29)), eX0 (ad 6) (nI (g 30)) (nI (g 31)) (nI (g 32)) (nI (g 33)) (nI (g 34)), eX0 (ad 7) (nI (g 35)) (nI (g 36)) (nI (g 37)) (nI (g 38)) (nI (g 39)), eX0 hc (nI (s 0)) (nI (s 1)) (nI (s 2)) (nI (s 3)) (nI (s 4))]) (st2 := []) rfl rfl rfl ?_
    refine z_aload_n X (pc := 42) 0 dX1_put_42 rfl ?_
    refine z_dup X (pc := 43) dX1_put_43 rfl ?_
    refine z_get X (pc := 44) 0 1 (.int (nI 1)) tu_1 tw_95 dX1_put_44 rfl rfl (by decide) rfl rfl ?_
    refine z_iconst X (pc := 47) (nI 1) dX1_put_47 (by decide) ?_
    refine z_iadd X (pc := 48) (v := (nI 2)) dX1_put_48 (nI_add 1 1) ?_
    refine z_put X (pc := 49) 0 1 [eX1 h0 ha (nI 2), eQ t ha 8 (fun j => some (ad j)), eX0 (ad 0) (nI (g 0)) (nI (g 1)) (nI (g 2)) (nI (g 3)) (nI (g 4)), eX0 (ad 1) (nI (s 0)) (nI (s 1)) (nI (s 2)) (nI (s 3)) (nI (s 4)), eX0 (ad 2) (nI (g 10)) (nI (g 11)) (nI (g 12)) (nI (g 13)) (nI (g 14)), eX0 (ad 3) (nI (g 15)) (nI (g 16)) (nI (g 17)) (nI (g 18)) (nI (g 19)), eX0 (ad 4) (nI (g 20)) (nI (g 21)) (nI (g 22)) (nI (g 23)) (nI (g 24)), eX0 (ad 5) (nI (g 25)) (nI (g 26)) (nI (g 27)) (nI (g 28)) (nI (g 29)), eX0 (ad 6) (nI (g 30)) (nI (g 31)) (nI (g 32)) (nI (g 33)) (nI (g 34)), eX0 (ad 7) (nI (g 35)) (nI (g 36)) (nI (g 37)) (nI (g 38)) (nI (g 39)), eX0 hc (nI (s 0)) (nI (s 1)) (nI (s 2)) (nI (s 3)) (nI (s 4))] tu_1 tyX1_ok nmX1 tw_95 dX1_put_49 rfl rfl (by decide) rfl rfl rfl rfl (Nat.le_of_ble_eq_true rfl) rfl ?_
    exact hR.v dX1_put_52 ⟨rfl, rfl⟩
  · skip
    refine z_aload_n X (pc := 0) 0 dX1_put_0 rfl ?_
    refine zc_V (as := []) X (pc := 1) (c_X1_isFull lq D t h0 ha 2 8 (fun j => some (ad j)) (by decide) (by decide)) tw_310 tw_313 tw_4 tw_311 tw_312 0 1 rfl rfl [0, 1] rfl rfl dX1_put_1 rfl zdX1_isFull ⟨rfl, rfl, Nat.le_of_ble_eq_true rfl, Nat.le_of_ble_eq_true rfl⟩ (Nat.le_of_ble_eq_true rfl) (Nat.zero_le _) (Nat.zero_le _) (fun v_19 w_20 hp_21 => ?_)
    obtain ⟨rfl, rfl⟩ := hp_21
    refine ⟨rfl, ?_⟩
    refine z_eq (ws2 := [eX1 h0 ha (nI 2), eQ t ha 8 (fun j => some (ad j)), eX0 (ad 0) (nI (g 0)) (nI (g 1)) (nI (g 2)) (nI (g 3)) (nI (g 4)), eX0 (ad 1) (nI (g 5)) (nI (g 6)) (nI (g 7)) (nI (g 8)) (nI (g 9)), eX0 (ad 2) (nI (g 10)) (nI (g 11)) (nI (g 12)) (nI (g 13)) (nI (g 14)), eX0 (ad 3) (nI (g 15)) (nI (g 16)) (nI (g 17)) (nI (g 18)) (nI (g 19)), eX0 (ad 4) (nI (g 20)) (nI (g 21)) (nI (g 22)) (nI (g 23)) (nI (g 24)), eX0 (ad 5) (nI (g 25)) (nI (g 26)) (nI (g 27)) (nI (g 28)) (nI (g 29)), eX0 (ad 6) (nI (g 30)) (nI (g 31)) (nI (g 32)) (nI (g 33)) (nI (g 34)), eX0 (ad 7) (nI (g 35)) (nI (g 36)) (nI (g 37)) (nI (g 38)) (nI (g 39)), eX0 hc (nI (s 0)) (nI (s 1)) (nI (s 2)) (nI (s 3)) (nI (s 4))]) (st2 := [.int (zb (8 ≤ 2))]) rfl rfl rfl ?_
    refine z_if_eqB X (pc := 4) 11 dX1_put_4 (by decide) (fun c_4 => ?_) (fun c_4 => absurd c_4 (by decide))
    refine z_aload_n X (pc := 11) 0 dX1_put_11 rfl ?_
    refine z_get X (pc := 12) 0 1 (.int (nI 2)) tu_1 tw_95 dX1_put_12 rfl rfl (by decide) rfl rfl ?_
    refine z_iconst X (pc := 15) (nI 0) dX1_put_15 (by decide) ?_
    refine z_aload_n X (pc := 16) 0 dX1_put_16 rfl ?_
    refine z_get X (pc := 17) 0 0 (.ref ha) tu_1 tw_94 dX1_put_17 rfl rfl (by decide) rfl rfl ?_
    refine z_alen_q X (pc := 20) 1 dX1_put_20 rfl ?_
    refine z_iconst X (pc := 21) (nI 1) dX1_put_21 (by decide) ?_
    refine z_isub X (pc := 22) (v := (nI 7)) dX1_put_22 (pk_sub (by omega)) ?_
    refine zc_SN (as := [.int (nI 2), .int (nI 0), .int (nI 7)]) X (pc := 23) (c_X4_within lq D t (nI 2) (nI 0) (nI 7) ) tw_319 tw_182 tw_1 tw_181 [] rfl rfl dX1_put_23 rfl zdX4_within ⟨rfl, rfl, Nat.le_of_ble_eq_true rfl, Nat.le_of_ble_eq_true rfl⟩ (Nat.le_of_ble_eq_true rfl) (Nat.zero_le _) (Nat.zero_le _) (fun v_22 w_23 hp_24 => ?_)
    obtain ⟨rfl, rfl⟩ := hp_24
    refine ⟨rfl, ?_⟩
    refine z_eq (ws2 := [eX1 h0 ha (nI 2), eQ t ha 8 (fun j => some (ad j)), eX0 (ad 0) (nI (g 0)) (nI (g 1)) (nI (g 2)) (nI (g 3)) (nI (g 4)), eX0 (ad 1) (nI (g 5)) (nI (g 6)) (nI (g 7)) (nI (g 8)) (nI (g 9)), eX0 (ad 2) (nI (g 10)) (nI (g 11)) (nI (g 12)) (nI (g 13)) (nI (g 14)), eX0 (ad 3) (nI (g 15)) (nI (g 16)) (nI (g 17)) (nI (g 18)) (nI (g 19)), eX0 (ad 4) (nI (g 20)) (nI (g 21)) (nI (g 22)) (nI (g 23)) (nI (g 24)), eX0 (ad 5) (nI (g 25)) (nI (g 26)) (nI (g 27)) (nI (g 28)) (nI (g 29)), eX0 (ad 6) (nI (g 30)) (nI (g 31)) (nI (g 32)) (nI (g 33)) (nI (g 34)), eX0 (ad 7) (nI (g 35)) (nI (g 36)) (nI (g 37)) (nI (g 38)) (nI (g 39)), eX0 hc (nI (s 0)) (nI (s 1)) (nI (s 2)) (nI (s 3)) (nI (s 4))]) (st2 := [.int (zb ((nI 0) ≤ (nI 2) ∧ (nI 2) ≤ (nI 7)))]) rfl rfl rfl ?_
    refine z_if_eqB X (pc := 26) 52 dX1_put_26 (by decide) (fun c_26 => absurd c_26 (by decide)) (fun c_26 => ?_)
    refine z_aload_n X (pc := 29) 0 dX1_put_29 rfl ?_
    refine z_get X (pc := 30) 0 0 (.ref ha) tu_1 tw_94 dX1_put_30 rfl rfl (by decide) rfl rfl ?_
    refine z_aload_n X (pc := 33) 0 dX1_put_33 rfl ?_
    refine z_get X (pc := 34) 0 1 (.int (nI 2)) tu_1 tw_95 dX1_put_34 rfl rfl (by decide) rfl rfl ?_
    refine z_aald X (pc := 37) 1 2 (ad 2) dX1_put_37 rfl rfl (Nat.le_of_ble_eq_true rfl) (by decide) rfl ?_
    refine z_aload_n X (pc := 38) 1 dX1_put_38 rfl ?_
    refine zc_V (as := [.ref hc]) X (pc := 39) (c_X0_copyFrom lq D t (ad 2) hc (nI (g 10)) (nI (g 11)) (nI (g 12)) (nI (g 13)) (nI (g 14)) (nI (s 0)) (nI (s 1)) (nI (s 2)) (nI (s 3)) (nI (s 4)) ) tw_318 tw_270 tw_3 tw_268 tw_269 0 0 rfl rfl [4, 10] rfl rfl dX1_put_39 rfl zdX0_copyFrom ⟨rfl, rfl, Nat.le_of_ble_eq_true rfl, Nat.le_of_ble_eq_true rfl⟩ (Nat.le_of_ble_eq_true rfl) (Nat.zero_le _) (Nat.zero_le _) (fun v_25 w_26 hp_27 => ?_)
    obtain ⟨rfl, rfl⟩ := hp_27
    refine ⟨rfl, ?_⟩
    refine z_eq (ws2 := [eX1 h0 ha (nI 2), eQ t ha 8 (fun j => some (ad j)), eX0 (ad 0) (nI (g 0)) (nI (g 1)) (nI (g 2)) (nI (g 3)) (nI (g 4)), eX0 (ad 1) (nI (g 5)) (nI (g 6)) (nI (g 7)) (nI (g 8)) (nI (g 9)), eX0 (ad 2) (nI (s 0)) (nI (s 1)) (nI (s 2)) (nI (s 3)) (nI (s 4)), eX0 (ad 3) (nI (g 15)) (nI (g 16)) (nI (g 17)) (nI (g 18)) (nI (g 19)), eX0 (ad 4) (nI (g 20)) (nI (g 21)) (nI (g 22)) (nI (g 23)) (nI (g 24)), eX0 (ad 5) (nI (g 25)) (nI (g 26)) (nI (g 27)) (nI (g 28)) (nI (g 29)), eX0 (ad 6) (nI (g 30)) (nI (g 31)) (nI (g 32)) (nI (g 33)) (nI (g 34)), eX0 (ad 7) (nI (g 35)) (nI (g 36)) (nI (g 37)) (nI (g 38)) (nI (g 39)), eX0 hc (nI (s 0)) (nI (s 1)) (nI (s 2)) (nI (s 3)) (nI (s 4))]) (st2 := []) rfl rfl rfl ?_
    refine z_aload_n X (pc := 42) 0 dX1_put_42 rfl ?_
    refine z_dup X (pc := 43) dX1_put_43 rfl ?_
    refine z_get X (pc := 44) 0 1 (.int (nI 2)) tu_1 tw_95 dX1_put_44 rfl rfl (by decide) rfl rfl ?_
    refine z_iconst X (pc := 47) (nI 1) dX1_put_47 (by decide) ?_
    refine z_iadd X (pc := 48) (v := (nI 3)) dX1_put_48 (nI_add 2 1) ?_
    refine z_put X (pc := 49) 0 1 [eX1 h0 ha (nI 3), eQ t ha 8 (fun j => some (ad j)), eX0 (ad 0) (nI (g 0)) (nI (g 1)) (nI (g 2)) (nI (g 3)) (nI (g 4)), eX0 (ad 1) (nI (g 5)) (nI (g 6)) (nI (g 7)) (nI (g 8)) (nI (g 9)), eX0 (ad 2) (nI (s 0)) (nI (s 1)) (nI (s 2)) (nI (s 3)) (nI (s 4)), eX0 (ad 3) (nI (g 15)) (nI (g 16)) (nI (g 17)) (nI (g 18)) (nI (g 19)), eX0 (ad 4) (nI (g 20)) (nI (g 21)) (nI (g 22)) (nI (g 23)) (nI (g 24)), eX0 (ad 5) (nI (g 25)) (nI (g 26)) (nI (g 27)) (nI (g 28)) (nI (g 29)), eX0 (ad 6) (nI (g 30)) (nI (g 31)) (nI (g 32)) (nI (g 33)) (nI (g 34)), eX0 (ad 7) (nI (g 35)) (nI (g 36)) (nI (g 37)) (nI (g 38)) (nI (g 39)), eX0 hc (nI (s 0)) (nI (s 1)) (nI (s 2)) (nI (s 3)) (nI (s 4))] tu_1 tyX1_ok nmX1 tw_95 dX1_put_49 rfl rfl (by decide) rfl rfl rfl rfl (Nat.le_of_ble_eq_true rfl) rfl ?_
    exact hR.v dX1_put_52 ⟨rfl, rfl⟩
  · skip
    refine z_aload_n X (pc := 0) 0 dX1_put_0 rfl ?_
    refine zc_V (as := []) X (pc := 1) (c_X1_isFull lq D t h0 ha 3 8 (fun j => some (ad j)) (by decide) (by decide)) tw_310 tw_313 tw_4 tw_311 tw_312 0 1 rfl rfl [0, 1] rfl rfl dX1_put_1 rfl zdX1_isFull ⟨rfl, rfl, Nat.le_of_ble_eq_true rfl, Nat.le_of_ble_eq_true rfl⟩ (Nat.le_of_ble_eq_true rfl) (Nat.zero_le _) (Nat.zero_le _) (fun v_28 w_29 hp_30 => ?_)
    obtain ⟨rfl, rfl⟩ := hp_30
    refine ⟨rfl, ?_⟩
    refine z_eq (ws2 := [eX1 h0 ha (nI 3), eQ t ha 8 (fun j => some (ad j)), eX0 (ad 0) (nI (g 0)) (nI (g 1)) (nI (g 2)) (nI (g 3)) (nI (g 4)), eX0 (ad 1) (nI (g 5)) (nI (g 6)) (nI (g 7)) (nI (g 8)) (nI (g 9)), eX0 (ad 2) (nI (g 10)) (nI (g 11)) (nI (g 12)) (nI (g 13)) (nI (g 14)), eX0 (ad 3) (nI (g 15)) (nI (g 16)) (nI (g 17)) (nI (g 18)) (nI (g 19)), eX0 (ad 4) (nI (g 20)) (nI (g 21)) (nI (g 22)) (nI (g 23)) (nI (g 24)), eX0 (ad 5) (nI (g 25)) (nI (g 26)) (nI (g 27)) (nI (g 28)) (nI (g 29)), eX0 (ad 6) (nI (g 30)) (nI (g 31)) (nI (g 32)) (nI (g 33)) (nI (g 34)), eX0 (ad 7) (nI (g 35)) (nI (g 36)) (nI (g 37)) (nI (g 38)) (nI (g 39)), eX0 hc (nI (s 0)) (nI (s 1)) (nI (s 2)) (nI (s 3)) (nI (s 4))]) (st2 := [.int (zb (8 ≤ 3))]) rfl rfl rfl ?_
    refine z_if_eqB X (pc := 4) 11 dX1_put_4 (by decide) (fun c_4 => ?_) (fun c_4 => absurd c_4 (by decide))
    refine z_aload_n X (pc := 11) 0 dX1_put_11 rfl ?_
    refine z_get X (pc := 12) 0 1 (.int (nI 3)) tu_1 tw_95 dX1_put_12 rfl rfl (by decide) rfl rfl ?_
    refine z_iconst X (pc := 15) (nI 0) dX1_put_15 (by decide) ?_
    refine z_aload_n X (pc := 16) 0 dX1_put_16 rfl ?_
    refine z_get X (pc := 17) 0 0 (.ref ha) tu_1 tw_94 dX1_put_17 rfl rfl (by decide) rfl rfl ?_
    refine z_alen_q X (pc := 20) 1 dX1_put_20 rfl ?_
    refine z_iconst X (pc := 21) (nI 1) dX1_put_21 (by decide) ?_
    refine z_isub X (pc := 22) (v := (nI 7)) dX1_put_22 (pk_sub (by omega)) ?_
    refine zc_SN (as := [.int (nI 3), .int (nI 0), .int (nI 7)]) X (pc := 23) (c_X4_within lq D t (nI 3) (nI 0) (nI 7) ) tw_319 tw_182 tw_1 tw_181 [] rfl rfl dX1_put_23 rfl zdX4_within ⟨rfl, rfl, Nat.le_of_ble_eq_true rfl, Nat.le_of_ble_eq_true rfl⟩ (Nat.le_of_ble_eq_true rfl) (Nat.zero_le _) (Nat.zero_le _) (fun v_31 w_32 hp_33 => ?_)
    obtain ⟨rfl, rfl⟩ := hp_33
    refine ⟨rfl, ?_⟩
    refine z_eq (ws2 := [eX1 h0 ha (nI 3), eQ t ha 8 (fun j => some (ad j)), eX0 (ad 0) (nI (g 0)) (nI (g 1)) (nI (g 2)) (nI (g 3)) (nI (g 4)), eX0 (ad 1) (nI (g 5)) (nI (g 6)) (nI (g 7)) (nI (g 8)) (nI (g 9)), eX0 (ad 2) (nI (g 10)) (nI (g 11)) (nI (g 12)) (nI (g 13)) (nI (g 14)), eX0 (ad 3) (nI (g 15)) (nI (g 16)) (nI (g 17)) (nI (g 18)) (nI (g 19)), eX0 (ad 4) (nI (g 20)) (nI (g 21)) (nI (g 22)) (nI (g 23)) (nI (g 24)), eX0 (ad 5) (nI (g 25)) (nI (g 26)) (nI (g 27)) (nI (g 28)) (nI (g 29)), eX0 (ad 6) (nI (g 30)) (nI (g 31)) (nI (g 32)) (nI (g 33)) (nI (g 34)), eX0 (ad 7) (nI (g 35)) (nI (g 36)) (nI (g 37)) (nI (g 38)) (nI (g 39)), eX0 hc (nI (s 0)) (nI (s 1)) (nI (s 2)) (nI (s 3)) (nI (s 4))]) (st2 := [.int (zb ((nI 0) ≤ (nI 3) ∧ (nI 3) ≤ (nI 7)))]) rfl rfl rfl ?_
    refine z_if_eqB X (pc := 26) 52 dX1_put_26 (by decide) (fun c_26 => absurd c_26 (by decide)) (fun c_26 => ?_)
    refine z_aload_n X (pc := 29) 0 dX1_put_29 rfl ?_
    refine z_get X (pc := 30) 0 0 (.ref ha) tu_1 tw_94 dX1_put_30 rfl rfl (by decide) rfl rfl ?_
    refine z_aload_n X (pc := 33) 0 dX1_put_33 rfl ?_
    refine z_get X (pc := 34) 0 1 (.int (nI 3)) tu_1 tw_95 dX1_put_34 rfl rfl (by decide) rfl rfl ?_
    refine z_aald X (pc := 37) 1 3 (ad 3) dX1_put_37 rfl rfl (Nat.le_of_ble_eq_true rfl) (by decide) rfl ?_
    refine z_aload_n X (pc := 38) 1 dX1_put_38 rfl ?_
    refine zc_V (as := [.ref hc]) X (pc := 39) (c_X0_copyFrom lq D t (ad 3) hc (nI (g 15)) (nI (g 16)) (nI (g 17)) (nI (g 18)) (nI (g 19)) (nI (s 0)) (nI (s 1)) (nI (s 2)) (nI (s 3)) (nI (s 4)) ) tw_318 tw_270 tw_3 tw_268 tw_269 0 0 rfl rfl [5, 10] rfl rfl dX1_put_39 rfl zdX0_copyFrom ⟨rfl, rfl, Nat.le_of_ble_eq_true rfl, Nat.le_of_ble_eq_true rfl⟩ (Nat.le_of_ble_eq_true rfl) (Nat.zero_le _) (Nat.zero_le _) (fun v_34 w_35 hp_36 => ?_)
    obtain ⟨rfl, rfl⟩ := hp_36
    refine ⟨rfl, ?_⟩
    refine z_eq (ws2 := [eX1 h0 ha (nI 3), eQ t ha 8 (fun j => some (ad j)), eX0 (ad 0) (nI (g 0)) (nI (g 1)) (nI (g 2)) (nI (g 3)) (nI (g 4)), eX0 (ad 1) (nI (g 5)) (nI (g 6)) (nI (g 7)) (nI (g 8)) (nI (g 9)), eX0 (ad 2) (nI (g 10)) (nI (g 11)) (nI (g 12)) (nI (g 13)) (nI (g 14)), eX0 (ad 3) (nI (s 0)) (nI (s 1)) (nI (s 2)) (nI (s 3)) (nI (s 4)), eX0 (ad 4) (nI (g 20)) (nI (g 21)) (nI (g 22)) (nI (g 23)) (nI (g 24)), eX0 (ad 5) (nI (g 25)) (nI (g 26)) (nI (g 27)) (nI (g 28)) (nI (g 29)), eX0 (ad 6) (nI (g 30)) (nI (g 31)) (nI (g 32)) (nI (g 33)) (nI (g 34)), eX0 (ad 7) (nI (g 35)) (nI (g 36)) (nI (g 37)) (nI (g 38)) (nI (g 39)), eX0 hc (nI (s 0)) (nI (s 1)) (nI (s 2)) (nI (s 3)) (nI (s 4))]) (st2 := []) rfl rfl rfl ?_
    refine z_aload_n X (pc := 42) 0 dX1_put_42 rfl ?_
    refine z_dup X (pc := 43) dX1_put_43 rfl ?_
    refine z_get X (pc := 44) 0 1 (.int (nI 3)) tu_1 tw_95 dX1_put_44 rfl rfl (by decide) rfl rfl ?_
    refine z_iconst X (pc := 47) (nI 1) dX1_put_47 (by decide) ?_
    refine z_iadd X (pc := 48) (v := (nI 4)) dX1_put_48 (nI_add 3 1) ?_
    refine z_put X (pc := 49) 0 1 [eX1 h0 ha (nI 4), eQ t ha 8 (fun j => some (ad j)), eX0 (ad 0) (nI (g 0)) (nI (g 1)) (nI (g 2)) (nI (g 3)) (nI (g 4)), eX0 (ad 1) (nI (g 5)) (nI (g 6)) (nI (g 7)) (nI (g 8)) (nI (g 9)), eX0 (ad 2) (nI (g 10)) (nI (g 11)) (nI (g 12)) (nI (g 13)) (nI (g 14)), eX0 (ad 3) (nI (s 0)) (nI (s 1)) (nI (s 2)) (nI (s 3)) (nI (s 4)), eX0 (ad 4) (nI (g 20)) (nI (g 21)) (nI (g 22)) (nI (g 23)) (nI (g 24)), eX0 (ad 5) (nI (g 25)) (nI (g 26)) (nI (g 27)) (nI (g 28)) (nI (g 29)), eX0 (ad 6) (nI (g 30)) (nI (g 31)) (nI (g 32)) (nI (g 33)) (nI (g 34)), eX0 (ad 7) (nI (g 35)) (nI (g 36)) (nI (g 37)) (nI (g 38)) (nI (g 39)), eX0 hc (nI (s 0)) (nI (s 1)) (nI (s 2)) (nI (s 3)) (nI (s 4))] tu_1 tyX1_ok nmX1 tw_95 dX1_put_49 rfl rfl (by decide) rfl rfl rfl rfl (Nat.le_of_ble_eq_true rfl) rfl ?_
    exact hR.v dX1_put_52 ⟨rfl, rfl⟩
  · skip
    refine z_aload_n X (pc := 0) 0 dX1_put_0 rfl ?_
    refine zc_V (as := []) X (pc := 1) (c_X1_isFull lq D t h0 ha 4 8 (fun j => some (ad j)) (by decide) (by decide)) tw_310 tw_313 tw_4 tw_311 tw_312 0 1 rfl rfl [0, 1] rfl rfl dX1_put_1 rfl zdX1_isFull ⟨rfl, rfl, Nat.le_of_ble_eq_true rfl, Nat.le_of_ble_eq_true rfl⟩ (Nat.le_of_ble_eq_true rfl) (Nat.zero_le _) (Nat.zero_le _) (fun v_37 w_38 hp_39 => ?_)
    obtain ⟨rfl, rfl⟩ := hp_39
    refine ⟨rfl, ?_⟩
    refine z_eq (ws2 := [eX1 h0 ha (nI 4), eQ t ha 8 (fun j => some (ad j)), eX0 (ad 0) (nI (g 0)) (nI (g 1)) (nI (g 2)) (nI (g 3)) (nI (g 4)), eX0 (ad 1) (nI (g 5)) (nI (g 6)) (nI (g 7)) (nI (g 8)) (nI (g 9)), eX0 (ad 2) (nI (g 10)) (nI (g 11)) (nI (g 12)) (nI (g 13)) (nI (g 14)), eX0 (ad 3) (nI (g 15)) (nI (g 16)) (nI (g 17)) (nI (g 18)) (nI (g 19)), eX0 (ad 4) (nI (g 20)) (nI (g 21)) (nI (g 22)) (nI (g 23)) (nI (g 24)), eX0 (ad 5) (nI (g 25)) (nI (g 26)) (nI (g 27)) (nI (g 28)) (nI (g 29)), eX0 (ad 6) (nI (g 30)) (nI (g 31)) (nI (g 32)) (nI (g 33)) (nI (g 34)), eX0 (ad 7) (nI (g 35)) (nI (g 36)) (nI (g 37)) (nI (g 38)) (nI (g 39)), eX0 hc (nI (s 0)) (nI (s 1)) (nI (s 2)) (nI (s 3)) (nI (s 4))]) (st2 := [.int (zb (8 ≤ 4))]) rfl rfl rfl ?_
    refine z_if_eqB X (pc := 4) 11 dX1_put_4 (by decide) (fun c_4 => ?_) (fun c_4 => absurd c_4 (by decide))
    refine z_aload_n X (pc := 11) 0 dX1_put_11 rfl ?_
    refine z_get X (pc := 12) 0 1 (.int (nI 4)) tu_1 tw_95 dX1_put_12 rfl rfl (by decide) rfl rfl ?_
    refine z_iconst X (pc := 15) (nI 0) dX1_put_15 (by decide) ?_
    refine z_aload_n X (pc := 16) 0 dX1_put_16 rfl ?_
    refine z_get X (pc := 17) 0 0 (.ref ha) tu_1 tw_94 dX1_put_17 rfl rfl (by decide) rfl rfl ?_
    refine z_alen_q X (pc := 20) 1 dX1_put_20 rfl ?_
    refine z_iconst X (pc := 21) (nI 1) dX1_put_21 (by decide) ?_
    refine z_isub X (pc := 22) (v := (nI 7)) dX1_put_22 (pk_sub (by omega)) ?_
    refine zc_SN (as := [.int (nI 4), .int (nI 0), .int (nI 7)]) X (pc := 23) (c_X4_within lq D t (nI 4) (nI 0) (nI 7) ) tw_319 tw_182 tw_1 tw_181 [] rfl rfl dX1_put_23 rfl zdX4_within ⟨rfl, rfl, Nat.le_of_ble_eq_true rfl, Nat.le_of_ble_eq_true rfl⟩ (Nat.le_of_ble_eq_true rfl) (Nat.zero_le _) (Nat.zero_le _) (fun v_40 w_41 hp_42 => ?_)
    obtain ⟨rfl, rfl⟩ := hp_42
    refine ⟨rfl, ?_⟩
    refine z_eq (ws2 := [eX1 h0 ha (nI 4), eQ t ha 8 (fun j => some (ad j)), eX0 (ad 0) (nI (g 0)) (nI (g 1)) (nI (g 2)) (nI (g 3)) (nI (g 4)), eX0 (ad 1) (nI (g 5)) (nI (g 6)) (nI (g 7)) (nI (g 8)) (nI (g 9)), eX0 (ad 2) (nI (g 10)) (nI (g 11)) (nI (g 12)) (nI (g 13)) (nI (g 14)), eX0 (ad 3) (nI (g 15)) (nI (g 16)) (nI (g 17)) (nI (g 18)) (nI (g 19)), eX0 (ad 4) (nI (g 20)) (nI (g 21)) (nI (g 22)) (nI (g 23)) (nI (g 24)), eX0 (ad 5) (nI (g 25)) (nI (g 26)) (nI (g 27)) (nI (g 28)) (nI (g 29)), eX0 (ad 6) (nI (g 30)) (nI (g 31)) (nI (g 32)) (nI (g 33)) (nI (g 34)), eX0 (ad 7) (nI (g 35)) (nI (g 36)) (nI (g 37)) (nI (g 38)) (nI (g 39)), eX0 hc (nI (s 0)) (nI (s 1)) (nI (s 2)) (nI (s 3)) (nI (s 4))]) (st2 := [.int (zb ((nI 0) ≤ (nI 4) ∧ (nI 4) ≤ (nI 7)))]) rfl rfl rfl ?_
    refine z_if_eqB X (pc := 26) 52 dX1_put_26 (by decide) (fun c_26 => absurd c_26 (by decide)) (fun c_26 => ?_)
    refine z_aload_n X (pc := 29) 0 dX1_put_29 rfl ?_
    refine z_get X (pc := 30) 0 0 (.ref ha) tu_1 tw_94 dX1_put_30 rfl rfl (by decide) rfl rfl ?_
    refine z_aload_n X (pc := 33) 0 dX1_put_33 rfl ?_
    refine z_get X (pc := 34) 0 1 (.int (nI 4)) tu_1 tw_95 dX1_put_34 rfl rfl (by decide) rfl rfl ?_
    refine z_aald X (pc := 37) 1 4 (ad 4) dX1_put_37 rfl rfl (Nat.le_of_ble_eq_true rfl) (by decide) rfl ?_
    refine z_aload_n X (pc := 38) 1 dX1_put_38 rfl ?_
    refine zc_V (as := [.ref hc]) X (pc := 39) (c_X0_copyFrom lq D t (ad 4) hc (nI (g 20)) (nI (g 21)) (nI (g 22)) (nI (g 23)) (nI (g 24)) (nI (s 0)) (nI (s 1)) (nI (s 2)) (nI (s 3)) (nI (s 4)) ) tw_318 tw_270 tw_3 tw_268 tw_269 0 0 rfl rfl [6, 10] rfl rfl dX1_put_39 rfl zdX0_copyFrom ⟨rfl, rfl, Nat.le_of_ble_eq_true rfl, Nat.le_of_ble_eq_true rfl⟩ (Nat.le_of_ble_eq_true rfl) (Nat.zero_le _) (Nat.zero_le _) (fun v_43 w_44 hp_45 => ?_)
    obtain ⟨rfl, rfl⟩ := hp_45
    refine ⟨rfl, ?_⟩
    refine z_eq (ws2 := [eX1 h0 ha (nI 4), eQ t ha 8 (fun j => some (ad j)), eX0 (ad 0) (nI (g 0)) (nI (g 1)) (nI (g 2)) (nI (g 3)) (nI (g 4)), eX0 (ad 1) (nI (g 5)) (nI (g 6)) (nI (g 7)) (nI (g 8)) (nI (g 9)), eX0 (ad 2) (nI (g 10)) (nI (g 11)) (nI (g 12)) (nI (g 13)) (nI (g 14)), eX0 (ad 3) (nI (g 15)) (nI (g 16)) (nI (g 17)) (nI (g 18)) (nI (g 19)), eX0 (ad 4) (nI (s 0)) (nI (s 1)) (nI (s 2)) (nI (s 3)) (nI (s 4)), eX0 (ad 5) (nI (g 25)) (nI (g 26)) (nI (g 27)) (nI (g 28)) (nI (g 29)), eX0 (ad 6) (nI (g 30)) (nI (g 31)) (nI (g 32)) (nI (g 33)) (nI (g 34)), eX0 (ad 7) (nI (g 35)) (nI (g 36)) (nI (g 37)) (nI (g 38)) (nI (g 39)), eX0 hc (nI (s 0)) (nI (s 1)) (nI (s 2)) (nI (s 3)) (nI (s 4))]) (st2 := []) rfl rfl rfl ?_
    refine z_aload_n X (pc := 42) 0 dX1_put_42 rfl ?_
    refine z_dup X (pc := 43) dX1_put_43 rfl ?_
    refine z_get X (pc := 44) 0 1 (.int (nI 4)) tu_1 tw_95 dX1_put_44 rfl rfl (by decide) rfl rfl ?_
    refine z_iconst X (pc := 47) (nI 1) dX1_put_47 (by decide) ?_
    refine z_iadd X (pc := 48) (v := (nI 5)) dX1_put_48 (nI_add 4 1) ?_
    refine z_put X (pc := 49) 0 1 [eX1 h0 ha (nI 5), eQ t ha 8 (fun j => some (ad j)), eX0 (ad 0) (nI (g 0)) (nI (g 1)) (nI (g 2)) (nI (g 3)) (nI (g 4)), eX0 (ad 1) (nI (g 5)) (nI (g 6)) (nI (g 7)) (nI (g 8)) (nI (g 9)), eX0 (ad 2) (nI (g 10)) (nI (g 11)) (nI (g 12)) (nI (g 13)) (nI (g 14)), eX0 (ad 3) (nI (g 15)) (nI (g 16)) (nI (g 17)) (nI (g 18)) (nI (g 19)), eX0 (ad 4) (nI (s 0)) (nI (s 1)) (nI (s 2)) (nI (s 3)) (nI (s 4)), eX0 (ad 5) (nI (g 25)) (nI (g 26)) (nI (g 27)) (nI (g 28)) (nI (g 29)), eX0 (ad 6) (nI (g 30)) (nI (g 31)) (nI (g 32)) (nI (g 33)) (nI (g 34)), eX0 (ad 7) (nI (g 35)) (nI (g 36)) (nI (g 37)) (nI (g 38)) (nI (g 39)), eX0 hc (nI (s 0)) (nI (s 1)) (nI (s 2)) (nI (s 3)) (nI (s 4))] tu_1 tyX1_ok nmX1 tw_95 dX1_put_49 rfl rfl (by decide) rfl rfl rfl rfl (Nat.le_of_ble_eq_true rfl) rfl ?_
    exact hR.v dX1_put_52 ⟨rfl, rfl⟩
  · skip
    refine z_aload_n X (pc := 0) 0 dX1_put_0 rfl ?_
    refine zc_V (as := []) X (pc := 1) (c_X1_isFull lq D t h0 ha 5 8 (fun j => some (ad j)) (by decide) (by decide)) tw_310 tw_313 tw_4 tw_311 tw_312 0 1 rfl rfl [0, 1] rfl rfl dX1_put_1 rfl zdX1_isFull ⟨rfl, rfl, Nat.le_of_ble_eq_true rfl, Nat.le_of_ble_eq_true rfl⟩ (Nat.le_of_ble_eq_true rfl) (Nat.zero_le _) (Nat.zero_le _) (fun v_46 w_47 hp_48 => ?_)
    obtain ⟨rfl, rfl⟩ := hp_48
    refine ⟨rfl, ?_⟩
    refine z_eq (ws2 := [eX1 h0 ha (nI 5), eQ t ha 8 (fun j => some (ad j)), eX0 (ad 0) (nI (g 0)) (nI (g 1)) (nI (g 2)) (nI (g 3)) (nI (g 4)), eX0 (ad 1) (nI (g 5)) (nI (g 6)) (nI (g 7)) (nI (g 8)) (nI (g 9)), eX0 (ad 2) (nI (g 10)) (nI (g 11)) (nI (g 12)) (nI (g 13)) (nI (g 14)), eX0 (ad 3) (nI (g 15)) (nI (g 16)) (nI (g 17)) (nI (g 18)) (nI (g 19)), eX0 (ad 4) (nI (g 20)) (nI (g 21)) (nI (g 22)) (nI (g 23)) (nI (g 24)), eX0 (ad 5) (nI (g 25)) (nI (g 26)) (nI (g 27)) (nI (g 28)) (nI (g 29)), eX0 (ad 6) (nI (g 30)) (nI (g 31)) (nI (g 32)) (nI (g 33)) (nI (g 34)), eX0 (ad 7) (nI (g 35)) (nI (g 36)) (nI (g 37)) (nI (g 38)) (nI (g 39)), eX0 hc (nI (s 0)) (nI (s 1)) (nI (s 2)) (nI (s 3)) (nI (s 4))]) (st2 := [.int (zb (8 ≤ 5))]) rfl rfl rfl ?_
    refine z_if_eqB X (pc := 4) 11 dX1_put_4 (by decide) (fun c_4 => ?_) (fun c_4 => absurd c_4 (by decide))
    refine z_aload_n X (pc := 11) 0 dX1_put_11 rfl ?_
    refine z_get X (pc := 12) 0 1 (.int (nI 5)) tu_1 tw_95 dX1_put_12 rfl rfl (by decide) rfl rfl ?_
    refine z_iconst X (pc := 15) (nI 0) dX1_put_15 (by decide) ?_
    refine z_aload_n X (pc := 16) 0 dX1_put_16 rfl ?_
    refine z_get X (pc := 17) 0 0 (.ref ha) tu_1 tw_94 dX1_put_17 rfl rfl (by decide) rfl rfl ?_
    refine z_alen_q X (pc := 20) 1 dX1_put_20 rfl ?_
    refine z_iconst X (pc := 21) (nI 1) dX1_put_21 (by decide) ?_
    refine z_isub X (pc := 22) (v := (nI 7)) dX1_put_22 (pk_sub (by omega)) ?_
    refine zc_SN (as := [.int (nI 5), .int (nI 0), .int (nI 7)]) X (pc := 23) (c_X4_within lq D t (nI 5) (nI 0) (nI 7) ) tw_319 tw_182 tw_1 tw_181 [] rfl rfl dX1_put_23 rfl zdX4_within ⟨rfl, rfl, Nat.le_of_ble_eq_true rfl, Nat.le_of_ble_eq_true rfl⟩ (Nat.le_of_ble_eq_true rfl) (Nat.zero_le _) (Nat.zero_le _) (fun v_49 w_50 hp_51 => ?_)
    obtain ⟨rfl, rfl⟩ := hp_51
    refine ⟨rfl, ?_⟩
    refine z_eq (ws2 := [eX1 h0 ha (nI 5), eQ t ha 8 (fun j => some (ad j)), eX0 (ad 0) (nI (g 0)) (nI (g 1)) (nI (g 2)) (nI (g 3)) (nI (g 4)), eX0 (ad 1) (nI (g 5)) (nI (g 6)) (nI (g 7)) (nI (g 8)) (nI (g 9)), eX0 (ad 2) (nI (g 10)) (nI (g 11)) (nI (g 12)) (nI (g 13)) (nI (g 14)), eX0 (ad 3) (nI (g 15)) (nI (g 16)) (nI (g 17)) (nI (g 18)) (nI (g 19)), eX0 (ad 4) (nI (g 20)) (nI (g 21)) (nI (g 22)) (nI (g 23)) (nI (g 24)), eX0 (ad 5) (nI (g 25)) (nI (g 26)) (nI (g 27)) (nI (g 28)) (nI (g 29)), eX0 (ad 6) (nI (g 30)) (nI (g 31)) (nI (g 32)) (nI (g 33)) (nI (g 34)), eX0 (ad 7) (nI (g 35)) (nI (g 36)) (nI (g 37)) (nI (g 38)) (nI (g 39)), eX0 hc (nI (s 0)) (nI (s 1)) (nI (s 2)) (nI (s 3)) (nI (s 4))]) (st2 := [.int (zb ((nI 0) ≤ (nI 5) ∧ (nI 5) ≤ (nI 7)))]) rfl rfl rfl ?_
    refine z_if_eqB X (pc := 26) 52 dX1_put_26 (by decide) (fun c_26 => absurd c_26 (by decide)) (fun c_26 => ?_)
    refine z_aload_n X (pc := 29) 0 dX1_put_29 rfl ?_
    refine z_get X (pc := 30) 0 0 (.ref ha) tu_1 tw_94 dX1_put_30 rfl rfl (by decide) rfl rfl ?_
    refine z_aload_n X (pc := 33) 0 dX1_put_33 rfl ?_
    refine z_get X (pc := 34) 0 1 (.int (nI 5)) tu_1 tw_95 dX1_put_34 rfl rfl (by decide) rfl rfl ?_
    refine z_aald X (pc := 37) 1 5 (ad 5) dX1_put_37 rfl rfl (Nat.le_of_ble_eq_true rfl) (by decide) rfl ?_
    refine z_aload_n X (pc := 38) 1 dX1_put_38 rfl ?_
    refine zc_V (as := [.ref hc]) X (pc := 39) (c_X0_copyFrom lq D t (ad 5) hc (nI (g 25)) (nI (g 26)) (nI (g 27)) (nI (g 28)) (nI (g 29)) (nI (s 0)) (nI (s 1)) (nI (s 2)) (nI (s 3)) (nI (s 4)) ) tw_318 tw_270 tw_3 tw_268 tw_269 0 0 rfl rfl [7, 10] rfl rfl dX1_put_39 rfl zdX0_copyFrom ⟨rfl, rfl, Nat.le_of_ble_eq_true rfl, Nat.le_of_ble_eq_true rfl⟩ (Nat.le_of_ble_eq_true rfl) (Nat.zero_le _) (Nat.zero_le _) (fun v_52 w_53 hp_54 => ?_)
    obtain ⟨rfl, rfl⟩ := hp_54
    refine ⟨rfl, ?_⟩
    refine z_eq (ws2 := [eX1 h0 ha (nI 5), eQ t ha 8 (fun j => some (ad j)), eX0 (ad 0) (nI (g 0)) (nI (g 1)) (nI (g 2)) (nI (g 3)) (nI (g 4)), eX0 (ad 1) (nI (g 5)) (nI (g 6)) (nI (g 7)) (nI (g 8)) (nI (g 9)), eX0 (ad 2) (nI (g 10)) (nI (g 11)) (nI (g 12)) (nI (g 13)) (nI (g 14)), eX0 (ad 3) (nI (g 15)) (nI (g 16)) (nI (g 17)) (nI (g 18)) (nI (g 19)), eX0 (ad 4) (nI (g 20)) (nI (g 21)) (nI (g 22)) (nI (g 23)) (nI (g 24)), eX0 (ad 5) (nI (s 0)) (nI (s 1)) (nI (s 2)) (nI (s 3)) (nI (s 4)), eX0 (ad 6) (nI (g 30)) (nI (g 31)) (nI (g 32)) (nI (g 33)) (nI (g 34)), eX0 (ad 7) (nI (g 35)) (nI (g 36)) (nI (g 37)) (nI (g 38)) (nI (g 39)), eX0 hc (nI (s 0)) (nI (s 1)) (nI (s 2)) (nI (s 3)) (nI (s 4))]) (st2 := []) rfl rfl rfl ?_
    refine z_aload_n X (pc := 42) 0 dX1_put_42 rfl ?_
    refine z_dup X (pc := 43) dX1_put_43 rfl ?_
    refine z_get X (pc := 44) 0 1 (.int (nI 5)) tu_1 tw_95 dX1_put_44 rfl rfl (by decide) rfl rfl ?_
    refine z_iconst X (pc := 47) (nI 1) dX1_put_47 (by decide) ?_
    refine z_iadd X (pc := 48) (v := (nI 6)) dX1_put_48 (nI_add 5 1) ?_
    refine z_put X (pc := 49) 0 1 [eX1 h0 ha (nI 6), eQ t ha 8 (fun j => some (ad j)), eX0 (ad 0) (nI (g 0)) (nI (g 1)) (nI (g 2)) (nI (g 3)) (nI (g 4)), eX0 (ad 1) (nI (g 5)) (nI (g 6)) (nI (g 7)) (nI (g 8)) (nI (g 9)), eX0 (ad 2) (nI (g 10)) (nI (g 11)) (nI (g 12)) (nI (g 13)) (nI (g 14)), eX0 (ad 3) (nI (g 15)) (nI (g 16)) (nI (g 17)) (nI (g 18)) (nI (g 19)), eX0 (ad 4) (nI (g 20)) (nI (g 21)) (nI (g 22)) (nI (g 23)) (nI (g 24)), eX0 (ad 5) (nI (s 0)) (nI (s 1)) (nI (s 2)) (nI (s 3)) (nI (s 4)), eX0 (ad 6) (nI (g 30)) (nI (g 31)) (nI (g 32)) (nI (g 33)) (nI (g 34)), eX0 (ad 7) (nI (g 35)) (nI (g 36)) (nI (g 37)) (nI (g 38)) (nI (g 39)), eX0 hc (nI (s 0)) (nI (s 1)) (nI (s 2)) (nI (s 3)) (nI (s 4))] tu_1 tyX1_ok nmX1 tw_95 dX1_put_49 rfl rfl (by decide) rfl rfl rfl rfl (Nat.le_of_ble_eq_true rfl) rfl ?_
    exact hR.v dX1_put_52 ⟨rfl, rfl⟩
  · skip
    refine z_aload_n X (pc := 0) 0 dX1_put_0 rfl ?_
    refine zc_V (as := []) X (pc := 1) (c_X1_isFull lq D t h0 ha 6 8 (fun j => some (ad j)) (by decide) (by decide)) tw_310 tw_313 tw_4 tw_311 tw_312 0 1 rfl rfl [0, 1] rfl rfl dX1_put_1 rfl zdX1_isFull ⟨rfl, rfl, Nat.le_of_ble_eq_true rfl, Nat.le_of_ble_eq_true rfl⟩ (Nat.le_of_ble_eq_true rfl) (Nat.zero_le _) (Nat.zero_le _) (fun v_55 w_56 hp_57 => ?_)
    obtain ⟨rfl, rfl⟩ := hp_57
    refine ⟨rfl, ?_⟩
    refine z_eq (ws2 := [eX1 h0 ha (nI 6), eQ t ha 8 (fun j => some (ad j)), eX0 (ad 0) (nI (g 0)) (nI (g 1)) (nI (g 2)) (nI (g 3)) (nI (g 4)), eX0 (ad 1) (nI (g 5)) (nI (g 6)) (nI (g 7)) (nI (g 8)) (nI (g 9)), eX0 (ad 2) (nI (g 10)) (nI (g 11)) (nI (g 12)) (nI (g 13)) (nI (g 14)), eX0 (ad 3) (nI (g 15)) (nI (g 16)) (nI (g 17)) (nI (g 18)) (nI (g 19)), eX0 (ad 4) (nI (g 20)) (nI (g 21)) (nI (g 22)) (nI (g 23)) (nI (g 24)), eX0 (ad 5) (nI (g 25)) (nI (g 26)) (nI (g 27)) (nI (g 28)) (nI (g 29)), eX0 (ad 6) (nI (g 30)) (nI (g 31)) (nI (g 32)) (nI (g 33)) (nI (g 34)), eX0 (ad 7) (nI (g 35)) (nI (g 36)) (nI (g 37)) (nI (g 38)) (nI (g 39)), eX0 hc (nI (s 0)) (nI (s 1)) (nI (s 2)) (nI (s 3)) (nI (s 4))]) (st2 := [.int (zb (8 ≤ 6))]) rfl rfl rfl ?_
    refine z_if_eqB X (pc := 4) 11 dX1_put_4 (by decide) (fun c_4 => ?_) (fun c_4 => absurd c_4 (by decide))
    refine z_aload_n X (pc := 11) 0 dX1_put_11 rfl ?_
    refine z_get X (pc := 12) 0 1 (.int (nI 6)) tu_1 tw_95 dX1_put_12 rfl rfl (by decide) rfl rfl ?_
    refine z_iconst X (pc := 15) (nI 0) dX1_put_15 (by decide) ?_
    refine z_aload_n X (pc := 16) 0 dX1_put_16 rfl ?_
    refine z_get X (pc := 17) 0 0 (.ref ha) tu_1 tw_94 dX1_put_17 rfl rfl (by decide) rfl rfl ?_
    refine z_alen_q X (pc := 20) 1 dX1_put_20 rfl ?_
    refine z_iconst X (pc := 21) (nI 1) dX1_put_21 (by decide) ?_
    refine z_isub X (pc := 22) (v := (nI 7)) dX1_put_22 (pk_sub (by omega)) ?_
    refine zc_SN (as := [.int (nI 6), .int (nI 0), .int (nI 7)]) X (pc := 23) (c_X4_within lq D t (nI 6) (nI 0) (nI 7) ) tw_319 tw_182 tw_1 tw_181 [] rfl rfl dX1_put_23 rfl zdX4_within ⟨rfl, rfl, Nat.le_of_ble_eq_true rfl, Nat.le_of_ble_eq_true rfl⟩ (Nat.le_of_ble_eq_true rfl) (Nat.zero_le _) (Nat.zero_le _) (fun v_58 w_59 hp_60 => ?_)
    obtain ⟨rfl, rfl⟩ := hp_60
    refine ⟨rfl, ?_⟩
    refine z_eq (ws2 := [eX1 h0 ha (nI 6), eQ t ha 8 (fun j => some (ad j)), eX0 (ad 0) (nI (g 0)) (nI (g 1)) (nI (g 2)) (nI (g 3)) (nI (g 4)), eX0 (ad 1) (nI (g 5)) (nI (g 6)) (nI (g 7)) (nI (g 8)) (nI (g 9)), eX0 (ad 2) (nI (g 10)) (nI (g 11)) (nI (g 12)) (nI (g 13)) (nI (g 14)), eX0 (ad 3) (nI (g 15)) (nI (g 16)) (nI (g 17)) (nI (g 18)) (nI (g 19)), eX0 (ad 4) (nI (g 20)) (nI (g 21)) (nI (g 22)) (nI (g 23)) (nI (g 24)), eX0 (ad 5) (nI (g 25)) (nI (g 26)) (nI (g 27)) (nI (g 28)) (nI (g 29)), eX0 (ad 6) (nI (g 30)) (nI (g 31)) (nI (g 32)) (nI (g 33)) (nI (g 34)), eX0 (ad 7) (nI (g 35)) (nI (g 36)) (nI (g 37)) (nI (g 38)) (nI (g 39)), eX0 hc (nI (s 0)) (nI (s 1)) (nI (s 2)) (nI (s 3)) (nI (s 4))]) (st2 := [.int (zb ((nI 0) ≤ (nI 6) ∧ (nI 6) ≤ (nI 7)))]) rfl rfl rfl ?_
    refine z_if_eqB X (pc := 26) 52 dX1_put_26 (by decide) (fun c_26 => absurd c_26 (by decide)) (fun c_26 => ?_)
    refine z_aload_n X (pc := 29) 0 dX1_put_29 rfl ?_
    refine z_get X (pc := 30) 0 0 (.ref ha) tu_1 tw_94 dX1_put_30 rfl rfl (by decide) rfl rfl ?_
    refine z_aload_n X (pc := 33) 0 dX1_put_33 rfl ?_
    refine z_get X (pc := 34) 0 1 (.int (nI 6)) tu_1 tw_95 dX1_put_34 rfl rfl (by decide) rfl rfl ?_
    refine z_aald X (pc := 37) 1 6 (ad 6) dX1_put_37 rfl rfl (Nat.le_of_ble_eq_true rfl) (by decide) rfl ?_
    refine z_aload_n X (pc := 38) 1 dX1_put_38 rfl ?_
    refine zc_V (as := [.ref hc]) X (pc := 39) (c_X0_copyFrom lq D t (ad 6) hc (nI (g 30)) (nI (g 31)) (nI (g 32)) (nI (g 33)) (nI (g 34)) (nI (s 0)) (nI (s 1)) (nI (s 2)) (nI (s 3)) (nI (s 4)) ) tw_318 tw_270 tw_3 tw_268 tw_269 0 0 rfl rfl [8, 10] rfl rfl dX1_put_39 rfl zdX0_copyFrom ⟨rfl, rfl, Nat.le_of_ble_eq_true rfl, Nat.le_of_ble_eq_true rfl⟩ (Nat.le_of_ble_eq_true rfl) (Nat.zero_le _) (Nat.zero_le _) (fun v_61 w_62 hp_63 => ?_)
    obtain ⟨rfl, rfl⟩ := hp_63
    refine ⟨rfl, ?_⟩
    refine z_eq (ws2 := [eX1 h0 ha (nI 6), eQ t ha 8 (fun j => some (ad j)), eX0 (ad 0) (nI (g 0)) (nI (g 1)) (nI (g 2)) (nI (g 3)) (nI (g 4)), eX0 (ad 1) (nI (g 5)) (nI (g 6)) (nI (g 7)) (nI (g 8)) (nI (g 9)), eX0 (ad 2) (nI (g 10)) (nI (g 11)) (nI (g 12)) (nI (g 13)) (nI (g 14)), eX0 (ad 3) (nI (g 15)) (nI (g 16)) (nI (g 17)) (nI (g 18)) (nI (g 19)), eX0 (ad 4) (nI (g 20)) (nI (g 21)) (nI (g 22)) (nI (g 23)) (nI (g 24)), eX0 (ad 5) (nI (g 25)) (nI (g 26)) (nI (g 27)) (nI (g 28)) (nI (g 29)), eX0 (ad 6) (nI (s 0)) (nI (s 1)) (nI (s 2)) (nI (s 3)) (nI (s 4)), eX0 (ad 7) (nI (g 35)) (nI (g 36)) (nI (g 37)) (nI (g 38)) (nI (g 39)), eX0 hc (nI (s 0)) (nI (s 1)) (nI (s 2)) (nI (s 3)) (nI (s 4))]) (st2 := []) rfl rfl rfl ?_
    refine z_aload_n X (pc := 42) 0 dX1_put_42 rfl ?_
    refine z_dup X (pc := 43) dX1_put_43 rfl ?_
    refine z_get X (pc := 44) 0 1 (.int (nI 6)) tu_1 tw_95 dX1_put_44 rfl rfl (by decide) rfl rfl ?_
    refine z_iconst X (pc := 47) (nI 1) dX1_put_47 (by decide) ?_
    refine z_iadd X (pc := 48) (v := (nI 7)) dX1_put_48 (nI_add 6 1) ?_
    refine z_put X (pc := 49) 0 1 [eX1 h0 ha (nI 7), eQ t ha 8 (fun j => some (ad j)), eX0 (ad 0) (nI (g 0)) (nI (g 1)) (nI (g 2)) (nI (g 3)) (nI (g 4)), eX0 (ad 1) (nI (g 5)) (nI (g 6)) (nI (g 7)) (nI (g 8)) (nI (g 9)), eX0 (ad 2) (nI (g 10)) (nI (g 11)) (nI (g 12)) (nI (g 13)) (nI (g 14)), eX0 (ad 3) (nI (g 15)) (nI (g 16)) (nI (g 17)) (nI (g 18)) (nI (g 19)), eX0 (ad 4) (nI (g 20)) (nI (g 21)) (nI (g 22)) (nI (g 23)) (nI (g 24)), eX0 (ad 5) (nI (g 25)) (nI (g 26)) (nI (g 27)) (nI (g 28)) (nI (g 29)), eX0 (ad 6) (nI (s 0)) (nI (s 1)) (nI (s 2)) (nI (s 3)) (nI (s 4)), eX0 (ad 7) (nI (g 35)) (nI (g 36)) (nI (g 37)) (nI (g 38)) (nI (g 39)), eX0 hc (nI (s 0)) (nI (s 1)) (nI (s 2)) (nI (s 3)) (nI (s 4))] tu_1 tyX1_ok nmX1 tw_95 dX1_put_49 rfl rfl (by decide) rfl rfl rfl rfl (Nat.le_of_ble_eq_true rfl) rfl ?_
    exact hR.v dX1_put_52 ⟨rfl, rfl⟩
  · skip
    refine z_aload_n X (pc := 0) 0 dX1_put_0 rfl ?_
    refine zc_V (as := []) X (pc := 1) (c_X1_isFull lq D t h0 ha 7 8 (fun j => some (ad j)) (by decide) (by decide)) tw_310 tw_313 tw_4 tw_311 tw_312 0 1 rfl rfl [0, 1] rfl rfl dX1_put_1 rfl zdX1_isFull ⟨rfl, rfl, Nat.le_of_ble_eq_true rfl, Nat.le_of_ble_eq_true rfl⟩ (Nat.le_of_ble_eq_true rfl) (Nat.zero_le _) (Nat.zero_le _) (fun v_64 w_65 hp_66 => ?_)
    obtain ⟨rfl, rfl⟩ := hp_66
    refine ⟨rfl, ?_⟩
    refine z_eq (ws2 := [eX1 h0 ha (nI 7), eQ t ha 8 (fun j => some (ad j)), eX0 (ad 0) (nI (g 0)) (nI (g 1)) (nI (g 2)) (nI (g 3)) (nI (g 4)), eX0 (ad 1) (nI (g 5)) (nI (g 6)) (nI (g 7)) (nI (g 8)) (nI (g 9)), eX0 (ad 2) (nI (g 10)) (nI (g 11)) (nI (g 12)) (nI (g 13)) (nI (g 14)), eX0 (ad 3) (nI (g 15)) (nI (g 16)) (nI (g 17)) (nI (g 18)) (nI (g 19)), eX0 (ad 4) (nI (g 20)) (nI (g 21)) (nI (g 22)) (nI (g 23)) (nI (g 24)), eX0 (ad 5) (nI (g 25)) (nI (g 26)) (nI (g 27)) (nI (g 28)) (nI (g 29)), eX0 (ad 6) (nI (g 30)) (nI (g 31)) (nI (g 32)) (nI (g 33)) (nI (g 34)), eX0 (ad 7) (nI (g 35)) (nI (g 36)) (nI (g 37)) (nI (g 38)) (nI (g 39)), eX0 hc (nI (s 0)) (nI (s 1)) (nI (s 2)) (nI (s 3)) (nI (s 4))]) (st2 := [.int (zb (8 ≤ 7))]) rfl rfl rfl ?_
    refine z_if_eqB X (pc := 4) 11 dX1_put_4 (by decide) (fun c_4 => ?_) (fun c_4 => absurd c_4 (by decide))
    refine z_aload_n X (pc := 11) 0 dX1_put_11 rfl ?_
    refine z_get X (pc := 12) 0 1 (.int (nI 7)) tu_1 tw_95 dX1_put_12 rfl rfl (by decide) rfl rfl ?_
    refine z_iconst X (pc := 15) (nI 0) dX1_put_15 (by decide) ?_
    refine z_aload_n X (pc := 16) 0 dX1_put_16 rfl ?_
    refine z_get X (pc := 17) 0 0 (.ref ha) tu_1 tw_94 dX1_put_17 rfl rfl (by decide) rfl rfl ?_
    refine z_alen_q X (pc := 20) 1 dX1_put_20 rfl ?_
    refine z_iconst X (pc := 21) (nI 1) dX1_put_21 (by decide) ?_
    refine z_isub X (pc := 22) (v := (nI 7)) dX1_put_22 (pk_sub (by omega)) ?_
    refine zc_SN (as := [.int (nI 7), .int (nI 0), .int (nI 7)]) X (pc := 23) (c_X4_within lq D t (nI 7) (nI 0) (nI 7) ) tw_319 tw_182 tw_1 tw_181 [] rfl rfl dX1_put_23 rfl zdX4_within ⟨rfl, rfl, Nat.le_of_ble_eq_true rfl, Nat.le_of_ble_eq_true rfl⟩ (Nat.le_of_ble_eq_true rfl) (Nat.zero_le _) (Nat.zero_le _) (fun v_67 w_68 hp_69 => ?_)
    obtain ⟨rfl, rfl⟩ := hp_69
    refine ⟨rfl, ?_⟩
    refine z_eq (ws2 := [eX1 h0 ha (nI 7), eQ t ha 8 (fun j => some (ad j)), eX0 (ad 0) (nI (g 0)) (nI (g 1)) (nI (g 2)) (nI (g 3)) (nI (g 4)), eX0 (ad 1) (nI (g 5)) (nI (g 6)) (nI (g 7)) (nI (g 8)) (nI (g 9)), eX0 (ad 2) (nI (g 10)) (nI (g 11)) (nI (g 12)) (nI (g 13)) (nI (g 14)), eX0 (ad 3) (nI (g 15)) (nI (g 16)) (nI (g 17)) (nI (g 18)) (nI (g 19)), eX0 (ad 4) (nI (g 20)) (nI (g 21)) (nI (g 22)) (nI (g 23)) (nI (g 24)), eX0 (ad 5) (nI (g 25)) (nI (g 26)) (nI (g 27)) (nI (g 28)) (nI (g 29)), eX0 (ad 6) (nI (g 30)) (nI (g 31)) (nI (g 32)) (nI (g 33)) (nI (g 34)), eX0 (ad 7) (nI (g 35)) (nI (g 36)) (nI (g 37)) (nI (g 38)) (nI (g 39)), eX0 hc (nI (s 0)) (nI (s 1)) (nI (s 2)) (nI (s 3)) (nI (s 4))]) (st2 := [.int (zb ((nI 0) ≤ (nI 7) ∧ (nI 7) ≤ (nI 7)))]) rfl rfl rfl ?_
    refine z_if_eqB X (pc := 26) 52 dX1_put_26 (by decide) (fun c_26 => absurd c_26 (by decide)) (fun c_26 => ?_)
    refine z_aload_n X (pc := 29) 0 dX1_put_29 rfl ?_
    refine z_get X (pc := 30) 0 0 (.ref ha) tu_1 tw_94 dX1_put_30 rfl rfl (by decide) rfl rfl ?_
    refine z_aload_n X (pc := 33) 0 dX1_put_33 rfl ?_
    refine z_get X (pc := 34) 0 1 (.int (nI 7)) tu_1 tw_95 dX1_put_34 rfl rfl (by decide) rfl rfl ?_
    refine z_aald X (pc := 37) 1 7 (ad 7) dX1_put_37 rfl rfl (Nat.le_of_ble_eq_true rfl) (by decide) rfl ?_
    refine z_aload_n X (pc := 38) 1 dX1_put_38 rfl ?_
    refine zc_V (as := [.ref hc]) X (pc := 39) (c_X0_copyFrom lq D t (ad 7) hc (nI (g 35)) (nI (g 36)) (nI (g 37)) (nI (g 38)) (nI (g 39)) (nI (s 0)) (nI (s 1)) (nI (s 2)) (nI (s 3)) (nI (s 4)) ) tw_318 tw_270 tw_3 tw_268 tw_269 0 0 rfl rfl [9, 10] rfl rfl dX1_put_39 rfl zdX0_copyFrom ⟨rfl, rfl, Nat.le_of_ble_eq_true rfl, Nat.le_of_ble_eq_true rfl⟩ (Nat.le_of_ble_eq_true rfl) (Nat.zero_le _) (Nat.zero_le _) (fun v_70 w_71 hp_72 => ?_)
    obtain ⟨rfl, rfl⟩ := hp_72
    refine ⟨rfl, ?_⟩
    refine z_eq (ws2 := [eX1 h0 ha (nI 7), eQ t ha 8 (fun j => some (ad j)), eX0 (ad 0) (nI (g 0)) (nI (g 1)) (nI (g 2)) (nI (g 3)) (nI (g 4)), eX0 (ad 1) (nI (g 5)) (nI (g 6)) (nI (g 7)) (nI (g 8)) (nI (g 9)), eX0 (ad 2) (nI (g 10)) (nI (g 11)) (nI (g 12)) (nI (g 13)) (nI (g 14)), eX0 (ad 3) (nI (g 15)) (nI (g 16)) (nI (g 17)) (nI (g 18)) (nI (g 19)), eX0 (ad 4) (nI (g 20)) (nI (g 21)) (nI (g 22)) (nI (g 23)) (nI (g 24)), eX0 (ad 5) (nI (g 25)) (nI (g 26)) (nI (g 27)) (nI (g 28)) (nI (g 29)), eX0 (ad 6) (nI (g 30)) (nI (g 31)) (nI (g 32)) (nI (g 33)) (nI (g 34)), eX0 (ad 7) (nI (s 0)) (nI (s 1)) (nI (s 2)) (nI (s 3)) (nI (s 4)), eX0 hc (nI (s 0)) (nI (s 1)) (nI (s 2)) (nI (s 3)) (nI (s 4))]) (st2 := []) rfl rfl rfl ?_
    refine z_aload_n X (pc := 42) 0 dX1_put_42 rfl ?_
    refine z_dup X (pc := 43) dX1_put_43 rfl ?_
    refine z_get X (pc := 44) 0 1 (.int (nI 7)) tu_1 tw_95 dX1_put_44 rfl rfl (by decide) rfl rfl ?_
    refine z_iconst X (pc := 47) (nI 1) dX1_put_47 (by decide) ?_
    refine z_iadd X (pc := 48) (v := (nI 8)) dX1_put_48 (nI_add 7 1) ?_
    refine z_put X (pc := 49) 0 1 [eX1 h0 ha (nI 8), eQ t ha 8 (fun j => some (ad j)), eX0 (ad 0) (nI (g 0)) (nI (g 1)) (nI (g 2)) (nI (g 3)) (nI (g 4)), eX0 (ad 1) (nI (g 5)) (nI (g 6)) (nI (g 7)) (nI (g 8)) (nI (g 9)), eX0 (ad 2) (nI (g 10)) (nI (g 11)) (nI (g 12)) (nI (g 13)) (nI (g 14)), eX0 (ad 3) (nI (g 15)) (nI (g 16)) (nI (g 17)) (nI (g 18)) (nI (g 19)), eX0 (ad 4) (nI (g 20)) (nI (g 21)) (nI (g 22)) (nI (g 23)) (nI (g 24)), eX0 (ad 5) (nI (g 25)) (nI (g 26)) (nI (g 27)) (nI (g 28)) (nI (g 29)), eX0 (ad 6) (nI (g 30)) (nI (g 31)) (nI (g 32)) (nI (g 33)) (nI (g 34)), eX0 (ad 7) (nI (s 0)) (nI (s 1)) (nI (s 2)) (nI (s 3)) (nI (s 4)), eX0 hc (nI (s 0)) (nI (s 1)) (nI (s 2)) (nI (s 3)) (nI (s 4))] tu_1 tyX1_ok nmX1 tw_95 dX1_put_49 rfl rfl (by decide) rfl rfl rfl rfl (Nat.le_of_ble_eq_true rfl) rfl ?_
    exact hR.v dX1_put_52 ⟨rfl, rfl⟩
  · skip
    refine z_aload_n X (pc := 0) 0 dX1_put_0 rfl ?_
    refine zc_V (as := []) X (pc := 1) (c_X1_isFull lq D t h0 ha 8 8 (fun j => some (ad j)) (by decide) (by decide)) tw_310 tw_313 tw_4 tw_311 tw_312 0 1 rfl rfl [0, 1] rfl rfl dX1_put_1 rfl zdX1_isFull ⟨rfl, rfl, Nat.le_of_ble_eq_true rfl, Nat.le_of_ble_eq_true rfl⟩ (Nat.le_of_ble_eq_true rfl) (Nat.zero_le _) (Nat.zero_le _) (fun v_73 w_74 hp_75 => ?_)
    obtain ⟨rfl, rfl⟩ := hp_75
    refine ⟨rfl, ?_⟩
    refine z_eq (ws2 := [eX1 h0 ha (nI 8), eQ t ha 8 (fun j => some (ad j)), eX0 (ad 0) (nI (g 0)) (nI (g 1)) (nI (g 2)) (nI (g 3)) (nI (g 4)), eX0 (ad 1) (nI (g 5)) (nI (g 6)) (nI (g 7)) (nI (g 8)) (nI (g 9)), eX0 (ad 2) (nI (g 10)) (nI (g 11)) (nI (g 12)) (nI (g 13)) (nI (g 14)), eX0 (ad 3) (nI (g 15)) (nI (g 16)) (nI (g 17)) (nI (g 18)) (nI (g 19)), eX0 (ad 4) (nI (g 20)) (nI (g 21)) (nI (g 22)) (nI (g 23)) (nI (g 24)), eX0 (ad 5) (nI (g 25)) (nI (g 26)) (nI (g 27)) (nI (g 28)) (nI (g 29)), eX0 (ad 6) (nI (g 30)) (nI (g 31)) (nI (g 32)) (nI (g 33)) (nI (g 34)), eX0 (ad 7) (nI (g 35)) (nI (g 36)) (nI (g 37)) (nI (g 38)) (nI (g 39)), eX0 hc (nI (s 0)) (nI (s 1)) (nI (s 2)) (nI (s 3)) (nI (s 4))]) (st2 := [.int (zb (8 ≤ 8))]) rfl rfl rfl ?_
    refine z_if_eqB X (pc := 4) 11 dX1_put_4 (by decide) (fun c_4 => absurd c_4 (by decide)) (fun c_4 => ?_)
    refine z_aload_n X (pc := 7) 0 dX1_put_7 rfl ?_
    refine zc_V (as := []) X (pc := 8) (c_X1_dropOldest lq D t h0 ha ad g 8 ) tw_314 tw_317 tw_4 tw_316 tw_1011 0 1 rfl rfl [0, 1, 2, 3, 4, 5, 6, 7, 8, 9] rfl rfl dX1_put_8 rfl zdX1_dropOldest ⟨rfl, rfl, Nat.le_of_ble_eq_true rfl, Nat.le_of_ble_eq_true rfl⟩ (Nat.le_of_ble_eq_true rfl) (Nat.zero_le _) (Nat.zero_le _) (fun v_76 w_77 hp_78 => ?_)
    obtain ⟨rfl, rfl⟩ := hp_78
    refine ⟨rfl, ?_⟩
    refine z_eq (ws2 := [eX1 h0 ha (nI 7), eQ t ha 8 (fun j => some (ad j)), eX0 (ad 0) (nI (g 5)) (nI (g 6)) (nI (g 7)) (nI (g 8)) (nI (g 9)), eX0 (ad 1) (nI (g 10)) (nI (g 11)) (nI (g 12)) (nI (g 13)) (nI (g 14)), eX0 (ad 2) (nI (g 15)) (nI (g 16)) (nI (g 17)) (nI (g 18)) (nI (g 19)), eX0 (ad 3) (nI (g 20)) (nI (g 21)) (nI (g 22)) (nI (g 23)) (nI (g 24)), eX0 (ad 4) (nI (g 25)) (nI (g 26)) (nI (g 27)) (nI (g 28)) (nI (g 29)), eX0 (ad 5) (nI (g 30)) (nI (g 31)) (nI (g 32)) (nI (g 33)) (nI (g 34)), eX0 (ad 6) (nI (g 35)) (nI (g 36)) (nI (g 37)) (nI (g 38)) (nI (g 39)), eX0 (ad 7) (nI (g 35)) (nI (g 36)) (nI (g 37)) (nI (g 38)) (nI (g 39)), eX0 hc (nI (s 0)) (nI (s 1)) (nI (s 2)) (nI (s 3)) (nI (s 4))]) (st2 := []) rfl rfl rfl ?_
    refine z_aload_n X (pc := 11) 0 dX1_put_11 rfl ?_
    refine z_get X (pc := 12) 0 1 (.int (nI 7)) tu_1 tw_95 dX1_put_12 rfl rfl (by decide) rfl rfl ?_
    refine z_iconst X (pc := 15) (nI 0) dX1_put_15 (by decide) ?_
    refine z_aload_n X (pc := 16) 0 dX1_put_16 rfl ?_
    refine z_get X (pc := 17) 0 0 (.ref ha) tu_1 tw_94 dX1_put_17 rfl rfl (by decide) rfl rfl ?_
    refine z_alen_q X (pc := 20) 1 dX1_put_20 rfl ?_
    refine z_iconst X (pc := 21) (nI 1) dX1_put_21 (by decide) ?_
    refine z_isub X (pc := 22) (v := (nI 7)) dX1_put_22 (pk_sub (by omega)) ?_
    refine zc_SN (as := [.int (nI 7), .int (nI 0), .int (nI 7)]) X (pc := 23) (c_X4_within lq D t (nI 7) (nI 0) (nI 7) ) tw_319 tw_182 tw_1 tw_181 [] rfl rfl dX1_put_23 rfl zdX4_within ⟨rfl, rfl, Nat.le_of_ble_eq_true rfl, Nat.le_of_ble_eq_true rfl⟩ (Nat.le_of_ble_eq_true rfl) (Nat.zero_le _) (Nat.zero_le _) (fun v_79 w_80 hp_81 => ?_)
    obtain ⟨rfl, rfl⟩ := hp_81
    refine ⟨rfl, ?_⟩
    refine z_eq (ws2 := [eX1 h0 ha (nI 7), eQ t ha 8 (fun j => some (ad j)), eX0 (ad 0) (nI (g 5)) (nI (g 6)) (nI (g 7)) (nI (g 8)) (nI (g 9)), eX0 (ad 1) (nI (g 10)) (nI (g 11)) (nI (g 12)) (nI (g 13)) (nI (g 14)), eX0 (ad 2) (nI (g 15)) (nI (g 16)) (nI (g 17)) (nI (g 18)) (nI (g 19)), eX0 (ad 3) (nI (g 20)) (nI (g 21)) (nI (g 22)) (nI (g 23)) (nI (g 24)), eX0 (ad 4) (nI (g 25)) (nI (g 26)) (nI (g 27)) (nI (g 28)) (nI (g 29)), eX0 (ad 5) (nI (g 30)) (nI (g 31)) (nI (g 32)) (nI (g 33)) (nI (g 34)), eX0 (ad 6) (nI (g 35)) (nI (g 36)) (nI (g 37)) (nI (g 38)) (nI (g 39)), eX0 (ad 7) (nI (g 35)) (nI (g 36)) (nI (g 37)) (nI (g 38)) (nI (g 39)), eX0 hc (nI (s 0)) (nI (s 1)) (nI (s 2)) (nI (s 3)) (nI (s 4))]) (st2 := [.int (zb ((nI 0) ≤ (nI 7) ∧ (nI 7) ≤ (nI 7)))]) rfl rfl rfl ?_
    refine z_if_eqB X (pc := 26) 52 dX1_put_26 (by decide) (fun c_26 => absurd c_26 (by decide)) (fun c_26 => ?_)
    refine z_aload_n X (pc := 29) 0 dX1_put_29 rfl ?_
    refine z_get X (pc := 30) 0 0 (.ref ha) tu_1 tw_94 dX1_put_30 rfl rfl (by decide) rfl rfl ?_
    refine z_aload_n X (pc := 33) 0 dX1_put_33 rfl ?_
    refine z_get X (pc := 34) 0 1 (.int (nI 7)) tu_1 tw_95 dX1_put_34 rfl rfl (by decide) rfl rfl ?_
    refine z_aald X (pc := 37) 1 7 (ad 7) dX1_put_37 rfl rfl (Nat.le_of_ble_eq_true rfl) (by decide) rfl ?_
    refine z_aload_n X (pc := 38) 1 dX1_put_38 rfl ?_
    refine zc_V (as := [.ref hc]) X (pc := 39) (c_X0_copyFrom lq D t (ad 7) hc (nI (g 35)) (nI (g 36)) (nI (g 37)) (nI (g 38)) (nI (g 39)) (nI (s 0)) (nI (s 1)) (nI (s 2)) (nI (s 3)) (nI (s 4)) ) tw_318 tw_270 tw_3 tw_268 tw_269 0 0 rfl rfl [9, 10] rfl rfl dX1_put_39 rfl zdX0_copyFrom ⟨rfl, rfl, Nat.le_of_ble_eq_true rfl, Nat.le_of_ble_eq_true rfl⟩ (Nat.le_of_ble_eq_true rfl) (Nat.zero_le _) (Nat.zero_le _) (fun v_82 w_83 hp_84 => ?_)
    obtain ⟨rfl, rfl⟩ := hp_84
    refine ⟨rfl, ?_⟩
    refine z_eq (ws2 := [eX1 h0 ha (nI 7), eQ t ha 8 (fun j => some (ad j)), eX0 (ad 0) (nI (g 5)) (nI (g 6)) (nI (g 7)) (nI (g 8)) (nI (g 9)), eX0 (ad 1) (nI (g 10)) (nI (g 11)) (nI (g 12)) (nI (g 13)) (nI (g 14)), eX0 (ad 2) (nI (g 15)) (nI (g 16)) (nI (g 17)) (nI (g 18)) (nI (g 19)), eX0 (ad 3) (nI (g 20)) (nI (g 21)) (nI (g 22)) (nI (g 23)) (nI (g 24)), eX0 (ad 4) (nI (g 25)) (nI (g 26)) (nI (g 27)) (nI (g 28)) (nI (g 29)), eX0 (ad 5) (nI (g 30)) (nI (g 31)) (nI (g 32)) (nI (g 33)) (nI (g 34)), eX0 (ad 6) (nI (g 35)) (nI (g 36)) (nI (g 37)) (nI (g 38)) (nI (g 39)), eX0 (ad 7) (nI (s 0)) (nI (s 1)) (nI (s 2)) (nI (s 3)) (nI (s 4)), eX0 hc (nI (s 0)) (nI (s 1)) (nI (s 2)) (nI (s 3)) (nI (s 4))]) (st2 := []) rfl rfl rfl ?_
    refine z_aload_n X (pc := 42) 0 dX1_put_42 rfl ?_
    refine z_dup X (pc := 43) dX1_put_43 rfl ?_
    refine z_get X (pc := 44) 0 1 (.int (nI 7)) tu_1 tw_95 dX1_put_44 rfl rfl (by decide) rfl rfl ?_
    refine z_iconst X (pc := 47) (nI 1) dX1_put_47 (by decide) ?_
    refine z_iadd X (pc := 48) (v := (nI 8)) dX1_put_48 (nI_add 7 1) ?_
    refine z_put X (pc := 49) 0 1 [eX1 h0 ha (nI 8), eQ t ha 8 (fun j => some (ad j)), eX0 (ad 0) (nI (g 5)) (nI (g 6)) (nI (g 7)) (nI (g 8)) (nI (g 9)), eX0 (ad 1) (nI (g 10)) (nI (g 11)) (nI (g 12)) (nI (g 13)) (nI (g 14)), eX0 (ad 2) (nI (g 15)) (nI (g 16)) (nI (g 17)) (nI (g 18)) (nI (g 19)), eX0 (ad 3) (nI (g 20)) (nI (g 21)) (nI (g 22)) (nI (g 23)) (nI (g 24)), eX0 (ad 4) (nI (g 25)) (nI (g 26)) (nI (g 27)) (nI (g 28)) (nI (g 29)), eX0 (ad 5) (nI (g 30)) (nI (g 31)) (nI (g 32)) (nI (g 33)) (nI (g 34)), eX0 (ad 6) (nI (g 35)) (nI (g 36)) (nI (g 37)) (nI (g 38)) (nI (g 39)), eX0 (ad 7) (nI (s 0)) (nI (s 1)) (nI (s 2)) (nI (s 3)) (nI (s 4)), eX0 hc (nI (s 0)) (nI (s 1)) (nI (s 2)) (nI (s 3)) (nI (s 4))] tu_1 tyX1_ok nmX1 tw_95 dX1_put_49 rfl rfl (by decide) rfl rfl rfl rfl (Nat.le_of_ble_eq_true rfl) rfl ?_
    exact hR.v dX1_put_52 ⟨rfl, rfl⟩

abbrev rm_X1_takeLast8 : Room := { frames := 1, cells := 0, slots := 0, locals := 22 }
set_option maxHeartbeats 4000000 in
set_option maxRecDepth 100000 in
theorem c_X1_takeLast8 (lq : Launch) (D : va_G) (t : zT) (h0 ha : Nat) (ad g : Nat → Nat) (sz : Nat) (hc : Nat) (s : Nat → Nat) (hsz : sz ≤ 8) : Ct lq D t yX1_takeLast cX1_takeLast 2 (some .boolean) rm_X1_takeLast8 [.ref h0, .ref hc] [eX1 h0 ha (nI sz), eQ t ha 8 (fun j => some (ad j)), eX0 (ad 0) (nI (g 0)) (nI (g 1)) (nI (g 2)) (nI (g 3)) (nI (g 4)), eX0 (ad 1) (nI (g 5)) (nI (g 6)) (nI (g 7)) (nI (g 8)) (nI (g 9)), eX0 (ad 2) (nI (g 10)) (nI (g 11)) (nI (g 12)) (nI (g 13)) (nI (g 14)), eX0 (ad 3) (nI (g 15)) (nI (g 16)) (nI (g 17)) (nI (g 18)) (nI (g 19)), eX0 (ad 4) (nI (g 20)) (nI (g 21)) (nI (g 22)) (nI (g 23)) (nI (g 24)), eX0 (ad 5) (nI (g 25)) (nI (g 26)) (nI (g 27)) (nI (g 28)) (nI (g 29)), eX0 (ad 6) (nI (g 30)) (nI (g 31)) (nI (g 32)) (nI (g 33)) (nI (g 34)), eX0 (ad 7) (nI (g 35)) (nI (g 36)) (nI (g 37)) (nI (g 38)) (nI (g 39)), eX0 hc (nI (s 0)) (nI (s 1)) (nI (s 2)) (nI (s 3)) (nI (s 4))] 0 0 (fun rv rw_ => rv = some (.int (zb (¬ sz = 0))) ∧ rw_ = [eX1 h0 ha (nI (sz - 1)), eQ t ha 8 (fun j => some (ad j)), eX0 (ad 0) (nI (g 0)) (nI (g 1)) (nI (g 2)) (nI (g 3)) (nI (g 4)), eX0 (ad 1) (nI (g 5)) (nI (g 6)) (nI (g 7)) (nI (g 8)) (nI (g 9)), eX0 (ad 2) (nI (g 10)) (nI (g 11)) (nI (g 12)) (nI (g 13)) (nI (g 14)), eX0 (ad 3) (nI (g 15)) (nI (g 16)) (nI (g 17)) (nI (g 18)) (nI (g 19)), eX0 (ad 4) (nI (g 20)) (nI (g 21)) (nI (g 22)) (nI (g 23)) (nI (g 24)), eX0 (ad 5) (nI (g 25)) (nI (g 26)) (nI (g 27)) (nI (g 28)) (nI (g 29)), eX0 (ad 6) (nI (g 30)) (nI (g 31)) (nI (g 32)) (nI (g 33)) (nI (g 34)), eX0 (ad 7) (nI (g 35)) (nI (g 36)) (nI (g 37)) (nI (g 38)) (nI (g 39)), eX0 hc (nI (if sz = 0 then s 0 else g (5 * (sz - 1) + 0))) (nI (if sz = 0 then s 1 else g (5 * (sz - 1) + 1))) (nI (if sz = 0 then s 2 else g (5 * (sz - 1) + 2))) (nI (if sz = 0 then s 3 else g (5 * (sz - 1) + 3))) (nI (if sz = 0 then s 4 else g (5 * (sz - 1) + 4)))]) := by
  refine Ct.of (by decide) (Nat.le_of_ble_eq_true rfl) (fun k X hR => ?_)
  have X : zX D t k cX1_takeLast 2 RX1 "takeLast" rm_X1_takeLast8 lq := X
  refine z_eq (lv2 := [(0, .ref h0), (1, .ref hc)]) rfl rfl rfl ?_
  rcases (show sz = 0 ∨ sz = 1 ∨ sz = 2 ∨ sz = 3 ∨ sz = 4 ∨ sz = 5 ∨ sz = 6 ∨ sz = 7 ∨ sz = 8 by omega) with rfl | rfl | rfl | rfl | rfl | rfl | rfl | rfl | rfl
  · skip
    refine z_aload_n X (pc := 0) 0 dX1_takeLast_0 rfl ?_
    refine z_get X (pc := 1) 0 1 (.int (nI 0)) tu_1 tw_95 dX1_takeLast_1 rfl rfl (by decide) rfl rfl ?_
    refine z_iconst X (pc := 4) (nI 1) dX1_takeLast_4 (by decide) ?_
    refine z_aload_n X (pc := 5) 0 dX1_takeLast_5 rfl ?_
    refine z_get X (pc := 6) 0 0 (.ref ha) tu_1 tw_94 dX1_takeLast_6 rfl rfl (by decide) rfl rfl ?_
    refine z_alen_q X (pc := 9) 1 dX1_takeLast_9 rfl ?_
    refine zc_SN (as := [.int (nI 0), .int (nI 1), .int (nI 8)]) X (pc := 10) (c_X4_within lq D t (nI 0) (nI 1) (nI 8) ) tw_319 tw_182 tw_1 tw_181 [] rfl rfl dX1_takeLast_10 rfl zdX4_within ⟨rfl, rfl, Nat.le_of_ble_eq_true rfl, Nat.le_of_ble_eq_true rfl⟩ (Nat.le_of_ble_eq_true rfl) (Nat.zero_le _) (Nat.zero_le _) (fun v_1 w_2 hp_3 => ?_)
    obtain ⟨rfl, rfl⟩ := hp_3
    refine ⟨rfl, ?_⟩
    refine z_eq (ws2 := [eX1 h0 ha (nI 0), eQ t ha 8 (fun j => some (ad j)), eX0 (ad 0) (nI (g 0)) (nI (g 1)) (nI (g 2)) (nI (g 3)) (nI (g 4)), eX0 (ad 1) (nI (g 5)) (nI (g 6)) (nI (g 7)) (nI (g 8)) (nI (g 9)), eX0 (ad 2) (nI (g 10)) (nI (g 11)) (nI (g 12)) (nI (g 13)) (nI (g 14)), eX0 (ad 3) (nI (g 15)) (nI (g 16)) (nI (g 17)) (nI (g 18)) (nI (g 19)), eX0 (ad 4) (nI (g 20)) (nI (g 21)) (nI (g 22)) (nI (g 23)) (nI (g 24)), eX0 (ad 5) (nI (g 25)) (nI (g 26)) (nI (g 27)) (nI (g 28)) (nI (g 29)), eX0 (ad 6) (nI (g 30)) (nI (g 31)) (nI (g 32)) (nI (g 33)) (nI (g 34)), eX0 (ad 7) (nI (g 35)) (nI (g 36)) (nI (g 37)) (nI (g 38)) (nI (g 39)), eX0 hc (nI (s 0)) (nI (s 1)) (nI (s 2)) (nI (s 3)) (nI (s 4))]) (st2 := [.int (zb ((nI 1) ≤ (nI 0) ∧ (nI 0) ≤ (nI 8)))]) rfl rfl rfl ?_
    refine z_if_neB X (pc := 13) 18 dX1_takeLast_13 (by decide) (fun c_13 => absurd c_13 (by decide)) (fun c_13 => ?_)
    refine z_iconst X (pc := 16) (nI 0) dX1_takeLast_16 (by decide) ?_
    exact hR.z dX1_takeLast_17 rfl ⟨some_zb_f (by decide), rfl⟩
  · skip
    refine z_aload_n X (pc := 0) 0 dX1_takeLast_0 rfl ?_
    refine z_get X (pc := 1) 0 1 (.int (nI 1)) tu_1 tw_95 dX1_takeLast_1 rfl rfl (by decide) rfl rfl ?_
    refine z_iconst X (pc := 4) (nI 1) dX1_takeLast_4 (by decide) ?_
    refine z_aload_n X (pc := 5) 0 dX1_takeLast_5 rfl ?_
    refine z_get X (pc := 6) 0 0 (.ref ha) tu_1 tw_94 dX1_takeLast_6 rfl rfl (by decide) rfl rfl ?_
    refine z_alen_q X (pc := 9) 1 dX1_takeLast_9 rfl ?_
    refine zc_SN (as := [.int (nI 1), .int (nI 1), .int (nI 8)]) X (pc := 10) (c_X4_within lq D t (nI 1) (nI 1) (nI 8) ) tw_319 tw_182 tw_1 tw_181 [] rfl rfl dX1_takeLast_10 rfl zdX4_within ⟨rfl, rfl, Nat.le_of_ble_eq_true rfl, Nat.le_of_ble_eq_true rfl⟩ (Nat.le_of_ble_eq_true rfl) (Nat.zero_le _) (Nat.zero_le _) (fun v_4 w_5 hp_6 => ?_)
    obtain ⟨rfl, rfl⟩ := hp_6
    refine ⟨rfl, ?_⟩
    refine z_eq (ws2 := [eX1 h0 ha (nI 1), eQ t ha 8 (fun j => some (ad j)), eX0 (ad 0) (nI (g 0)) (nI (g 1)) (nI (g 2)) (nI (g 3)) (nI (g 4)), eX0 (ad 1) (nI (g 5)) (nI (g 6)) (nI (g 7)) (nI (g 8)) (nI (g 9)), eX0 (ad 2) (nI (g 10)) (nI (g 11)) (nI (g 12)) (nI (g 13)) (nI (g 14)), eX0 (ad 3) (nI (g 15)) (nI (g 16)) (nI (g 17)) (nI (g 18)) (nI (g 19)), eX0 (ad 4) (nI (g 20)) (nI (g 21)) (nI (g 22)) (nI (g 23)) (nI (g 24)), eX0 (ad 5) (nI (g 25)) (nI (g 26)) (nI (g 27)) (nI (g 28)) (nI (g 29)), eX0 (ad 6) (nI (g 30)) (nI (g 31)) (nI (g 32)) (nI (g 33)) (nI (g 34)), eX0 (ad 7) (nI (g 35)) (nI (g 36)) (nI (g 37)) (nI (g 38)) (nI (g 39)), eX0 hc (nI (s 0)) (nI (s 1)) (nI (s 2)) (nI (s 3)) (nI (s 4))]) (st2 := [.int (zb ((nI 1) ≤ (nI 1) ∧ (nI 1) ≤ (nI 8)))]) rfl rfl rfl ?_
    refine z_if_neB X (pc := 13) 18 dX1_takeLast_13 (by decide) (fun c_13 => ?_) (fun c_13 => absurd c_13 (by decide))
    refine z_aload_n X (pc := 18) 0 dX1_takeLast_18 rfl ?_
    refine z_dup X (pc := 19) dX1_takeLast_19 rfl ?_
    refine z_get X (pc := 20) 0 1 (.int (nI 1)) tu_1 tw_95 dX1_takeLast_20 rfl rfl (by decide) rfl rfl ?_
    refine z_iconst X (pc := 23) (nI 1) dX1_takeLast_23 (by decide) ?_
    refine z_isub X (pc := 24) (v := (nI 0)) dX1_takeLast_24 (pk_sub (by omega)) ?_
    refine z_put X (pc := 25) 0 1 [eX1 h0 ha (nI 0), eQ t ha 8 (fun j => some (ad j)), eX0 (ad 0) (nI (g 0)) (nI (g 1)) (nI (g 2)) (nI (g 3)) (nI (g 4)), eX0 (ad 1) (nI (g 5)) (nI (g 6)) (nI (g 7)) (nI (g 8)) (nI (g 9)), eX0 (ad 2) (nI (g 10)) (nI (g 11)) (nI (g 12)) (nI (g 13)) (nI (g 14)), eX0 (ad 3) (nI (g 15)) (nI (g 16)) (nI (g 17)) (nI (g 18)) (nI (g 19)), eX0 (ad 4) (nI (g 20)) (nI (g 21)) (nI (g 22)) (nI (g 23)) (nI (g 24)), eX0 (ad 5) (nI (g 25)) (nI (g 26)) (nI (g 27)) (nI (g 28)) (nI (g 29)), eX0 (ad 6) (nI (g 30)) (nI (g 31)) (nI (g 32)) (nI (g 33)) (nI (g 34)), eX0 (ad 7) (nI (g 35)) (nI (g 36)) (nI (g 37)) (nI (g 38)) (nI (g 39)), eX0 hc (nI (s 0)) (nI (s 1)) (nI (s 2)) (nI (s 3)) (nI (s 4))] tu_1 tyX1_ok nmX1 tw_95 dX1_takeLast_25 rfl rfl (by decide) rfl rfl rfl rfl (Nat.le_of_ble_eq_true rfl) rfl ?_
    refine z_aload_n X (pc := 28) 1 dX1_takeLast_28 rfl ?_
    refine z_aload_n X (pc := 29) 0 dX1_takeLast_29 rfl ?_
    refine z_get X (pc := 30) 0 0 (.ref ha) tu_1 tw_94 dX1_takeLast_30 rfl rfl (by decide) rfl rfl ?_
    refine z_aload_n X (pc := 33) 0 dX1_takeLast_33 rfl ?_
    refine z_get X (pc := 34) 0 1 (.int (nI 0)) tu_1 tw_95 dX1_takeLast_34 rfl rfl (by decide) rfl rfl ?_
    refine z_aald X (pc := 37) 1 0 (ad 0) dX1_takeLast_37 rfl rfl (Nat.le_of_ble_eq_true rfl) (by decide) rfl ?_
    refine zc_V (as := [.ref (ad 0)]) X (pc := 38) (c_X0_copyFrom lq D t hc (ad 0) (nI (s 0)) (nI (s 1)) (nI (s 2)) (nI (s 3)) (nI (s 4)) (nI (g 0)) (nI (g 1)) (nI (g 2)) (nI (g 3)) (nI (g 4)) ) tw_318 tw_270 tw_3 tw_268 tw_269 0 0 rfl rfl [10, 2] rfl rfl dX1_takeLast_38 rfl zdX0_copyFrom ⟨rfl, rfl, Nat.le_of_ble_eq_true rfl, Nat.le_of_ble_eq_true rfl⟩ (Nat.le_of_ble_eq_true rfl) (Nat.zero_le _) (Nat.zero_le _) (fun v_7 w_8 hp_9 => ?_)
    obtain ⟨rfl, rfl⟩ := hp_9
    refine ⟨rfl, ?_⟩
    refine z_eq (ws2 := [eX1 h0 ha (nI 0), eQ t ha 8 (fun j => some (ad j)), eX0 (ad 0) (nI (g 0)) (nI (g 1)) (nI (g 2)) (nI (g 3)) (nI (g 4)), eX0 (ad 1) (nI (g 5)) (nI (g 6)) (nI (g 7)) (nI (g 8)) (nI (g 9)), eX0 (ad 2) (nI (g 10)) (nI (g 11)) (nI (g 12)) (nI (g 13)) (nI (g 14)), eX0 (ad 3) (nI (g 15)) (nI (g 16)) (nI (g 17)) (nI (g 18)) (nI (g 19)), eX0 (ad 4) (nI (g 20)) (nI (g 21)) (nI (g 22)) (nI (g 23)) (nI (g 24)), eX0 (ad 5) (nI (g 25)) (nI (g 26)) (nI (g 27)) (nI (g 28)) (nI (g 29)), eX0 (ad 6) (nI (g 30)) (nI (g 31)) (nI (g 32)) (nI (g 33)) (nI (g 34)), eX0 (ad 7) (nI (g 35)) (nI (g 36)) (nI (g 37)) (nI (g 38)) (nI (g 39)), eX0 hc (nI (g 0)) (nI (g 1)) (nI (g 2)) (nI (g 3)) (nI (g 4))]) (st2 := []) rfl rfl rfl ?_
    refine z_iconst X (pc := 41) (nI 1) dX1_takeLast_41 (by decide) ?_
    exact hR.z dX1_takeLast_42 rfl ⟨some_zb_t (by decide), rfl⟩
  · skip
    refine z_aload_n X (pc := 0) 0 dX1_takeLast_0 rfl ?_
    refine z_get X (pc := 1) 0 1 (.int (nI 2)) tu_1 tw_95 dX1_takeLast_1 rfl rfl (by decide) rfl rfl ?_
    refine z_iconst X (pc := 4) (nI 1) dX1_takeLast_4 (by decide) ?_
    refine z_aload_n X (pc := 5) 0 dX1_takeLast_5 rfl ?_
    refine z_get X (pc := 6) 0 0 (.ref ha) tu_1 tw_94 dX1_takeLast_6 rfl rfl (by decide) rfl rfl ?_
    refine z_alen_q X (pc := 9) 1 dX1_takeLast_9 rfl ?_
    refine zc_SN (as := [.int (nI 2), .int (nI 1), .int (nI 8)]) X (pc := 10) (c_X4_within lq D t (nI 2) (nI 1) (nI 8) ) tw_319 tw_182 tw_1 tw_181 [] rfl rfl dX1_takeLast_10 rfl zdX4_within ⟨rfl, rfl, Nat.le_of_ble_eq_true rfl, Nat.le_of_ble_eq_true rfl⟩ (Nat.le_of_ble_eq_true rfl) (Nat.zero_le _) (Nat.zero_le _) (fun v_10 w_11 hp_12 => ?_)
    obtain ⟨rfl, rfl⟩ := hp_12
    refine ⟨rfl, ?_⟩
    refine z_eq (ws2 := [eX1 h0 ha (nI 2), eQ t ha 8 (fun j => some (ad j)), eX0 (ad 0) (nI (g 0)) (nI (g 1)) (nI (g 2)) (nI (g 3)) (nI (g 4)), eX0 (ad 1) (nI (g 5)) (nI (g 6)) (nI (g 7)) (nI (g 8)) (nI (g 9)), eX0 (ad 2) (nI (g 10)) (nI (g 11)) (nI (g 12)) (nI (g 13)) (nI (g 14)), eX0 (ad 3) (nI (g 15)) (nI (g 16)) (nI (g 17)) (nI (g 18)) (nI (g 19)), eX0 (ad 4) (nI (g 20)) (nI (g 21)) (nI (g 22)) (nI (g 23)) (nI (g 24)), eX0 (ad 5) (nI (g 25)) (nI (g 26)) (nI (g 27)) (nI (g 28)) (nI (g 29)), eX0 (ad 6) (nI (g 30)) (nI (g 31)) (nI (g 32)) (nI (g 33)) (nI (g 34)), eX0 (ad 7) (nI (g 35)) (nI (g 36)) (nI (g 37)) (nI (g 38)) (nI (g 39)), eX0 hc (nI (s 0)) (nI (s 1)) (nI (s 2)) (nI (s 3)) (nI (s 4))]) (st2 := [.int (zb ((nI 1) ≤ (nI 2) ∧ (nI 2) ≤ (nI 8)))]) rfl rfl rfl ?_
    refine z_if_neB X (pc := 13) 18 dX1_takeLast_13 (by decide) (fun c_13 => ?_) (fun c_13 => absurd c_13 (by decide))
    refine z_aload_n X (pc := 18) 0 dX1_takeLast_18 rfl ?_
    refine z_dup X (pc := 19) dX1_takeLast_19 rfl ?_
    refine z_get X (pc := 20) 0 1 (.int (nI 2)) tu_1 tw_95 dX1_takeLast_20 rfl rfl (by decide) rfl rfl ?_
    refine z_iconst X (pc := 23) (nI 1) dX1_takeLast_23 (by decide) ?_
    refine z_isub X (pc := 24) (v := (nI 1)) dX1_takeLast_24 (pk_sub (by omega)) ?_
    refine z_put X (pc := 25) 0 1 [eX1 h0 ha (nI 1), eQ t ha 8 (fun j => some (ad j)), eX0 (ad 0) (nI (g 0)) (nI (g 1)) (nI (g 2)) (nI (g 3)) (nI (g 4)), eX0 (ad 1) (nI (g 5)) (nI (g 6)) (nI (g 7)) (nI (g 8)) (nI (g 9)), eX0 (ad 2) (nI (g 10)) (nI (g 11)) (nI (g 12)) (nI (g 13)) (nI (g 14)), eX0 (ad 3) (nI (g 15)) (nI (g 16)) (nI (g 17)) (nI (g 18)) (nI (g 19)), eX0 (ad 4) (nI (g 20)) (nI (g 21)) (nI (g 22)) (nI (g 23)) (nI (g 24)), eX0 (ad 5) (nI (g 25)) (nI (g 26)) (nI (g 27)) (nI (g 28)) (nI (g 29)), eX0 (ad 6) (nI (g 30)) (nI (g 31)) (nI (g 32)) (nI (g 33)) (nI (g 34)), eX0 (ad 7) (nI (g 35)) (nI (g 36)) (nI (g 37)) (nI (g 38)) (nI (g 39)), eX0 hc (nI (s 0)) (nI (s 1)) (nI (s 2)) (nI (s 3)) (nI (s 4))] tu_1 tyX1_ok nmX1 tw_95 dX1_takeLast_25 rfl rfl (by decide) rfl rfl rfl rfl (Nat.le_of_ble_eq_true rfl) rfl ?_
    refine z_aload_n X (pc := 28) 1 dX1_takeLast_28 rfl ?_
    refine z_aload_n X (pc := 29) 0 dX1_takeLast_29 rfl ?_
    refine z_get X (pc := 30) 0 0 (.ref ha) tu_1 tw_94 dX1_takeLast_30 rfl rfl (by decide) rfl rfl ?_
    refine z_aload_n X (pc := 33) 0 dX1_takeLast_33 rfl ?_
    refine z_get X (pc := 34) 0 1 (.int (nI 1)) tu_1 tw_95 dX1_takeLast_34 rfl rfl (by decide) rfl rfl ?_
    refine z_aald X (pc := 37) 1 1 (ad 1) dX1_takeLast_37 rfl rfl (Nat.le_of_ble_eq_true rfl) (by decide) rfl ?_
    refine zc_V (as := [.ref (ad 1)]) X (pc := 38) (c_X0_copyFrom lq D t hc (ad 1) (nI (s 0)) (nI (s 1)) (nI (s 2)) (nI (s 3)) (nI (s 4)) (nI (g 5)) (nI (g 6)) (nI (g 7)) (nI (g 8)) (nI (g 9)) ) tw_318 tw_270 tw_3 tw_268 tw_269 0 0 rfl rfl [10, 3] rfl rfl dX1_takeLast_38 rfl zdX0_copyFrom ⟨rfl, rfl, Nat.le_of_ble_eq_true rfl, Nat.le_of_ble_eq_true rfl⟩ (Nat.le_of_ble_eq_true rfl) (Nat.zero_le _) (Nat.zero_le _) (fun v_13 w_14 hp_15 => ?_)
    obtain ⟨rfl, rfl⟩ := hp_15
    refine ⟨rfl, ?_⟩
    refine z_eq (ws2 := [eX1 h0 ha (nI 1), eQ t ha 8 (fun j => some (ad j)), eX0 (ad 0) (nI (g 0)) (nI (g 1)) (nI (g 2)) (nI (g 3)) (nI (g 4)), eX0 (ad 1) (nI (g 5)) (nI (g 6)) (nI (g 7)) (nI (g 8)) (nI (g 9)), eX0 (ad 2) (nI (g 10)) (nI (g 11)) (nI (g 12)) (nI (g 13)) (nI (g 14)), eX0 (ad 3) (nI (g 15)) (nI (g 16)) (nI (g 17)) (nI (g 18)) (nI (g 19)), eX0 (ad 4) (nI (g 20)) (nI (g 21)) (nI (g 22)) (nI (g 23)) (nI (g 24)), eX0 (ad 5) (nI (g 25)) (nI (g 26)) (nI (g 27)) (nI (g 28)) (nI (g 29)), eX0 (ad 6) (nI (g 30)) (nI (g 31)) (nI (g 32)) (nI (g 33)) (nI (g 34)), eX0 (ad 7) (nI (g 35)) (nI (g 36)) (nI (g 37)) (nI (g 38)) (nI (g 39)), eX0 hc (nI (g 5)) (nI (g 6)) (nI (g 7)) (nI (g 8)) (nI (g 9))]) (st2 := []) rfl rfl rfl ?_
    refine z_iconst X (pc := 41) (nI 1) dX1_takeLast_41 (by decide) ?_
    exact hR.z dX1_takeLast_42 rfl ⟨some_zb_t (by decide), rfl⟩
  · skip
    refine z_aload_n X (pc := 0) 0 dX1_takeLast_0 rfl ?_
    refine z_get X (pc := 1) 0 1 (.int (nI 3)) tu_1 tw_95 dX1_takeLast_1 rfl rfl (by decide) rfl rfl ?_
    refine z_iconst X (pc := 4) (nI 1) dX1_takeLast_4 (by decide) ?_
    refine z_aload_n X (pc := 5) 0 dX1_takeLast_5 rfl ?_
    refine z_get X (pc := 6) 0 0 (.ref ha) tu_1 tw_94 dX1_takeLast_6 rfl rfl (by decide) rfl rfl ?_
    refine z_alen_q X (pc := 9) 1 dX1_takeLast_9 rfl ?_
    refine zc_SN (as := [.int (nI 3), .int (nI 1), .int (nI 8)]) X (pc := 10) (c_X4_within lq D t (nI 3) (nI 1) (nI 8) ) tw_319 tw_182 tw_1 tw_181 [] rfl rfl dX1_takeLast_10 rfl zdX4_within ⟨rfl, rfl, Nat.le_of_ble_eq_true rfl, Nat.le_of_ble_eq_true rfl⟩ (Nat.le_of_ble_eq_true rfl) (Nat.zero_le _) (Nat.zero_le _) (fun v_16 w_17 hp_18 => ?_)
    obtain ⟨rfl, rfl⟩ := hp_18
    refine ⟨rfl, ?_⟩
    refine z_eq (ws2 := [eX1 h0 ha (nI 3), eQ t ha 8 (fun j => some (ad j)), eX0 (ad 0) (nI (g 0)) (nI (g 1)) (nI (g 2)) (nI (g 3)) (nI (g 4)), eX0 (ad 1) (nI (g 5)) (nI (g 6)) (nI (g 7)) (nI (g 8)) (nI (g 9)), eX0 (ad 2) (nI (g 10)) (nI (g 11)) (nI (g 12)) (nI (g 13)) (nI (g 14)), eX0 (ad 3) (nI (g 15)) (nI (g 16)) (nI (g 17)) (nI (g 18)) (nI (g 19)), eX0 (ad 4) (nI (g 20)) (nI (g 21)) (nI (g 22)) (nI (g 23)) (nI (g 24)), eX0 (ad 5) (nI (g 25)) (nI (g 26)) (nI (g 27)) (nI (g 28)) (nI (g 29)), eX0 (ad 6) (nI (g 30)) (nI (g 31)) (nI (g 32)) (nI (g 33)) (nI (g 34)), eX0 (ad 7) (nI (g 35)) (nI (g 36)) (nI (g 37)) (nI (g 38)) (nI (g 39)), eX0 hc (nI (s 0)) (nI (s 1)) (nI (s 2)) (nI (s 3)) (nI (s 4))]) (st2 := [.int (zb ((nI 1) ≤ (nI 3) ∧ (nI 3) ≤ (nI 8)))]) rfl rfl rfl ?_
    refine z_if_neB X (pc := 13) 18 dX1_takeLast_13 (by decide) (fun c_13 => ?_) (fun c_13 => absurd c_13 (by decide))
    refine z_aload_n X (pc := 18) 0 dX1_takeLast_18 rfl ?_
    refine z_dup X (pc := 19) dX1_takeLast_19 rfl ?_
    refine z_get X (pc := 20) 0 1 (.int (nI 3)) tu_1 tw_95 dX1_takeLast_20 rfl rfl (by decide) rfl rfl ?_
    refine z_iconst X (pc := 23) (nI 1) dX1_takeLast_23 (by decide) ?_
    refine z_isub X (pc := 24) (v := (nI 2)) dX1_takeLast_24 (pk_sub (by omega)) ?_
    refine z_put X (pc := 25) 0 1 [eX1 h0 ha (nI 2), eQ t ha 8 (fun j => some (ad j)), eX0 (ad 0) (nI (g 0)) (nI (g 1)) (nI (g 2)) (nI (g 3)) (nI (g 4)), eX0 (ad 1) (nI (g 5)) (nI (g 6)) (nI (g 7)) (nI (g 8)) (nI (g 9)), eX0 (ad 2) (nI (g 10)) (nI (g 11)) (nI (g 12)) (nI (g 13)) (nI (g 14)), eX0 (ad 3) (nI (g 15)) (nI (g 16)) (nI (g 17)) (nI (g 18)) (nI (g 19)), eX0 (ad 4) (nI (g 20)) (nI (g 21)) (nI (g 22)) (nI (g 23)) (nI (g 24)), eX0 (ad 5) (nI (g 25)) (nI (g 26)) (nI (g 27)) (nI (g 28)) (nI (g 29)), eX0 (ad 6) (nI (g 30)) (nI (g 31)) (nI (g 32)) (nI (g 33)) (nI (g 34)), eX0 (ad 7) (nI (g 35)) (nI (g 36)) (nI (g 37)) (nI (g 38)) (nI (g 39)), eX0 hc (nI (s 0)) (nI (s 1)) (nI (s 2)) (nI (s 3)) (nI (s 4))] tu_1 tyX1_ok nmX1 tw_95 dX1_takeLast_25 rfl rfl (by decide) rfl rfl rfl rfl (Nat.le_of_ble_eq_true rfl) rfl ?_
    refine z_aload_n X (pc := 28) 1 dX1_takeLast_28 rfl ?_
    refine z_aload_n X (pc := 29) 0 dX1_takeLast_29 rfl ?_
    refine z_get X (pc := 30) 0 0 (.ref ha) tu_1 tw_94 dX1_takeLast_30 rfl rfl (by decide) rfl rfl ?_
    refine z_aload_n X (pc := 33) 0 dX1_takeLast_33 rfl ?_
    refine z_get X (pc := 34) 0 1 (.int (nI 2)) tu_1 tw_95 dX1_takeLast_34 rfl rfl (by decide) rfl rfl ?_
    refine z_aald X (pc := 37) 1 2 (ad 2) dX1_takeLast_37 rfl rfl (Nat.le_of_ble_eq_true rfl) (by decide) rfl ?_
    refine zc_V (as := [.ref (ad 2)]) X (pc := 38) (c_X0_copyFrom lq D t hc (ad 2) (nI (s 0)) (nI (s 1)) (nI (s 2)) (nI (s 3)) (nI (s 4)) (nI (g 10)) (nI (g 11)) (nI (g 12)) (nI (g 13)) (nI (g 14)) ) tw_318 tw_270 tw_3 tw_268 tw_269 0 0 rfl rfl [10, 4] rfl rfl dX1_takeLast_38 rfl zdX0_copyFrom ⟨rfl, rfl, Nat.le_of_ble_eq_true rfl, Nat.le_of_ble_eq_true rfl⟩ (Nat.le_of_ble_eq_true rfl) (Nat.zero_le _) (Nat.zero_le _) (fun v_19 w_20 hp_21 => ?_)
    obtain ⟨rfl, rfl⟩ := hp_21
    refine ⟨rfl, ?_⟩
    refine z_eq (ws2 := [eX1 h0 ha (nI 2), eQ t ha 8 (fun j => some (ad j)), eX0 (ad 0) (nI (g 0)) (nI (g 1)) (nI (g 2)) (nI (g 3)) (nI (g 4)), eX0 (ad 1) (nI (g 5)) (nI (g 6)) (nI (g 7)) (nI (g 8)) (nI (g 9)), eX0 (ad 2) (nI (g 10)) (nI (g 11)) (nI (g 12)) (nI (g 13)) (nI (g 14)), eX0 (ad 3) (nI (g 15)) (nI (g 16)) (nI (g 17)) (nI (g 18)) (nI (g 19)), eX0 (ad 4) (nI (g 20)) (nI (g 21)) (nI (g 22)) (nI (g 23)) (nI (g 24)), eX0 (ad 5) (nI (g 25)) (nI (g 26)) (nI (g 27)) (nI (g 28)) (nI (g 29)), eX0 (ad 6) (nI (g 30)) (nI (g 31)) (nI (g 32)) (nI (g 33)) (nI (g 34)), eX0 (ad 7) (nI (g 35)) (nI (g 36)) (nI (g 37)) (nI (g 38)) (nI (g 39)), eX0 hc (nI (g 10)) (nI (g 11)) (nI (g 12)) (nI (g 13)) (nI (g 14))]) (st2 := []) rfl rfl rfl ?_
    refine z_iconst X (pc := 41) (nI 1) dX1_takeLast_41 (by decide) ?_
    exact hR.z dX1_takeLast_42 rfl ⟨some_zb_t (by decide), rfl⟩
  · skip
    refine z_aload_n X (pc := 0) 0 dX1_takeLast_0 rfl ?_
    refine z_get X (pc := 1) 0 1 (.int (nI 4)) tu_1 tw_95 dX1_takeLast_1 rfl rfl (by decide) rfl rfl ?_
    refine z_iconst X (pc := 4) (nI 1) dX1_takeLast_4 (by decide) ?_
    refine z_aload_n X (pc := 5) 0 dX1_takeLast_5 rfl ?_
    refine z_get X (pc := 6) 0 0 (.ref ha) tu_1 tw_94 dX1_takeLast_6 rfl rfl (by decide) rfl rfl ?_
    refine z_alen_q X (pc := 9) 1 dX1_takeLast_9 rfl ?_
    refine zc_SN (as := [.int (nI 4), .int (nI 1), .int (nI 8)]) X (pc := 10) (c_X4_within lq D t (nI 4) (nI 1) (nI 8) ) tw_319 tw_182 tw_1 tw_181 [] rfl rfl dX1_takeLast_10 rfl zdX4_within ⟨rfl, rfl, Nat.le_of_ble_eq_true rfl, Nat.le_of_ble_eq_true rfl⟩ (Nat.le_of_ble_eq_true rfl) (Nat.zero_le _) (Nat.zero_le _) (fun v_22 w_23 hp_24 => ?_)
    obtain ⟨rfl, rfl⟩ := hp_24
    refine ⟨rfl, ?_⟩
    refine z_eq (ws2 := [eX1 h0 ha (nI 4), eQ t ha 8 (fun j => some (ad j)), eX0 (ad 0) (nI (g 0)) (nI (g 1)) (nI (g 2)) (nI (g 3)) (nI (g 4)), eX0 (ad 1) (nI (g 5)) (nI (g 6)) (nI (g 7)) (nI (g 8)) (nI (g 9)), eX0 (ad 2) (nI (g 10)) (nI (g 11)) (nI (g 12)) (nI (g 13)) (nI (g 14)), eX0 (ad 3) (nI (g 15)) (nI (g 16)) (nI (g 17)) (nI (g 18)) (nI (g 19)), eX0 (ad 4) (nI (g 20)) (nI (g 21)) (nI (g 22)) (nI (g 23)) (nI (g 24)), eX0 (ad 5) (nI (g 25)) (nI (g 26)) (nI (g 27)) (nI (g 28)) (nI (g 29)), eX0 (ad 6) (nI (g 30)) (nI (g 31)) (nI (g 32)) (nI (g 33)) (nI (g 34)), eX0 (ad 7) (nI (g 35)) (nI (g 36)) (nI (g 37)) (nI (g 38)) (nI (g 39)), eX0 hc (nI (s 0)) (nI (s 1)) (nI (s 2)) (nI (s 3)) (nI (s 4))]) (st2 := [.int (zb ((nI 1) ≤ (nI 4) ∧ (nI 4) ≤ (nI 8)))]) rfl rfl rfl ?_
    refine z_if_neB X (pc := 13) 18 dX1_takeLast_13 (by decide) (fun c_13 => ?_) (fun c_13 => absurd c_13 (by decide))
    refine z_aload_n X (pc := 18) 0 dX1_takeLast_18 rfl ?_
    refine z_dup X (pc := 19) dX1_takeLast_19 rfl ?_
    refine z_get X (pc := 20) 0 1 (.int (nI 4)) tu_1 tw_95 dX1_takeLast_20 rfl rfl (by decide) rfl rfl ?_
    refine z_iconst X (pc := 23) (nI 1) dX1_takeLast_23 (by decide) ?_
    refine z_isub X (pc := 24) (v := (nI 3)) dX1_takeLast_24 (pk_sub (by omega)) ?_
    refine z_put X (pc := 25) 0 1 [eX1 h0 ha (nI 3), eQ t ha 8 (fun j => some (ad j)), eX0 (ad 0) (nI (g 0)) (nI (g 1)) (nI (g 2)) (nI (g 3)) (nI (g 4)), eX0 (ad 1) (nI (g 5)) (nI (g 6)) (nI (g 7)) (nI (g 8)) (nI (g 9)), eX0 (ad 2) (nI (g 10)) (nI (g 11)) (nI (g 12)) (nI (g 13)) (nI (g 14)), eX0 (ad 3) (nI (g 15)) (nI (g 16)) (nI (g 17)) (nI (g 18)) (nI (g 19)), eX0 (ad 4) (nI (g 20)) (nI (g 21)) (nI (g 22)) (nI (g 23)) (nI (g 24)), eX0 (ad 5) (nI (g 25)) (nI (g 26)) (nI (g 27)) (nI (g 28)) (nI (g 29)), eX0 (ad 6) (nI (g 30)) (nI (g 31)) (nI (g 32)) (nI (g 33)) (nI (g 34)), eX0 (ad 7) (nI (g 35)) (nI (g 36)) (nI (g 37)) (nI (g 38)) (nI (g 39)), eX0 hc (nI (s 0)) (nI (s 1)) (nI (s 2)) (nI (s 3)) (nI (s 4))] tu_1 tyX1_ok nmX1 tw_95 dX1_takeLast_25 rfl rfl (by decide) rfl rfl rfl rfl (Nat.le_of_ble_eq_true rfl) rfl ?_
    refine z_aload_n X (pc := 28) 1 dX1_takeLast_28 rfl ?_
    refine z_aload_n X (pc := 29) 0 dX1_takeLast_29 rfl ?_
    refine z_get X (pc := 30) 0 0 (.ref ha) tu_1 tw_94 dX1_takeLast_30 rfl rfl (by decide) rfl rfl ?_
    refine z_aload_n X (pc := 33) 0 dX1_takeLast_33 rfl ?_
    refine z_get X (pc := 34) 0 1 (.int (nI 3)) tu_1 tw_95 dX1_takeLast_34 rfl rfl (by decide) rfl rfl ?_
    refine z_aald X (pc := 37) 1 3 (ad 3) dX1_takeLast_37 rfl rfl (Nat.le_of_ble_eq_true rfl) (by decide) rfl ?_
    refine zc_V (as := [.ref (ad 3)]) X (pc := 38) (c_X0_copyFrom lq D t hc (ad 3) (nI (s 0)) (nI (s 1)) (nI (s 2)) (nI (s 3)) (nI (s 4)) (nI (g 15)) (nI (g 16)) (nI (g 17)) (nI (g 18)) (nI (g 19)) ) tw_318 tw_270 tw_3 tw_268 tw_269 0 0 rfl rfl [10, 5] rfl rfl dX1_takeLast_38 rfl zdX0_copyFrom ⟨rfl, rfl, Nat.le_of_ble_eq_true rfl, Nat.le_of_ble_eq_true rfl⟩ (Nat.le_of_ble_eq_true rfl) (Nat.zero_le _) (Nat.zero_le _) (fun v_25 w_26 hp_27 => ?_)
    obtain ⟨rfl, rfl⟩ := hp_27
    refine ⟨rfl, ?_⟩
    refine z_eq (ws2 := [eX1 h0 ha (nI 3), eQ t ha 8 (fun j => some (ad j)), eX0 (ad 0) (nI (g 0)) (nI (g 1)) (nI (g 2)) (nI (g 3)) (nI (g 4)), eX0 (ad 1) (nI (g 5)) (nI (g 6)) (nI (g 7)) (nI (g 8)) (nI (g 9)), eX0 (ad 2) (nI (g 10)) (nI (g 11)) (nI (g 12)) (nI (g 13)) (nI (g 14)), eX0 (ad 3) (nI (g 15)) (nI (g 16)) (nI (g 17)) (nI (g 18)) (nI (g 19)), eX0 (ad 4) (nI (g 20)) (nI (g 21)) (nI (g 22)) (nI (g 23)) (nI (g 24)), eX0 (ad 5) (nI (g 25)) (nI (g 26)) (nI (g 27)) (nI (g 28)) (nI (g 29)), eX0 (ad 6) (nI (g 30)) (nI (g 31)) (nI (g 32)) (nI (g 33)) (nI (g 34)), eX0 (ad 7) (nI (g 35)) (nI (g 36)) (nI (g 37)) (nI (g 38)) (nI (g 39)), eX0 hc (nI (g 15)) (nI (g 16)) (nI (g 17)) (nI (g 18)) (nI (g 19))]) (st2 := []) rfl rfl rfl ?_
    refine z_iconst X (pc := 41) (nI 1) dX1_takeLast_41 (by decide) ?_
    exact hR.z dX1_takeLast_42 rfl ⟨some_zb_t (by decide), rfl⟩
  · skip
    refine z_aload_n X (pc := 0) 0 dX1_takeLast_0 rfl ?_
    refine z_get X (pc := 1) 0 1 (.int (nI 5)) tu_1 tw_95 dX1_takeLast_1 rfl rfl (by decide) rfl rfl ?_
    refine z_iconst X (pc := 4) (nI 1) dX1_takeLast_4 (by decide) ?_
    refine z_aload_n X (pc := 5) 0 dX1_takeLast_5 rfl ?_
    refine z_get X (pc := 6) 0 0 (.ref ha) tu_1 tw_94 dX1_takeLast_6 rfl rfl (by decide) rfl rfl ?_
    refine z_alen_q X (pc := 9) 1 dX1_takeLast_9 rfl ?_
    refine zc_SN (as := [.int (nI 5), .int (nI 1), .int (nI 8)]) X (pc := 10) (c_X4_within lq D t (nI 5) (nI 1) (nI 8) ) tw_319 tw_182 tw_1 tw_181 [] rfl rfl dX1_takeLast_10 rfl zdX4_within ⟨rfl, rfl, Nat.le_of_ble_eq_true rfl, Nat.le_of_ble_eq_true rfl⟩ (Nat.le_of_ble_eq_true rfl) (Nat.zero_le _) (Nat.zero_le _) (fun v_28 w_29 hp_30 => ?_)
    obtain ⟨rfl, rfl⟩ := hp_30
    refine ⟨rfl, ?_⟩
    refine z_eq (ws2 := [eX1 h0 ha (nI 5), eQ t ha 8 (fun j => some (ad j)), eX0 (ad 0) (nI (g 0)) (nI (g 1)) (nI (g 2)) (nI (g 3)) (nI (g 4)), eX0 (ad 1) (nI (g 5)) (nI (g 6)) (nI (g 7)) (nI (g 8)) (nI (g 9)), eX0 (ad 2) (nI (g 10)) (nI (g 11)) (nI (g 12)) (nI (g 13)) (nI (g 14)), eX0 (ad 3) (nI (g 15)) (nI (g 16)) (nI (g 17)) (nI (g 18)) (nI (g 19)), eX0 (ad 4) (nI (g 20)) (nI (g 21)) (nI (g 22)) (nI (g 23)) (nI (g 24)), eX0 (ad 5) (nI (g 25)) (nI (g 26)) (nI (g 27)) (nI (g 28)) (nI (g 29)), eX0 (ad 6) (nI (g 30)) (nI (g 31)) (nI (g 32)) (nI (g 33)) (nI (g 34)), eX0 (ad 7) (nI (g 35)) (nI (g 36)) (nI (g 37)) (nI (g 38)) (nI (g 39)), eX0 hc (nI (s 0)) (nI (s 1)) (nI (s 2)) (nI (s 3)) (nI (s 4))]) (st2 := [.int (zb ((nI 1) ≤ (nI 5) ∧ (nI 5) ≤ (nI 8)))]) rfl rfl rfl ?_
    refine z_if_neB X (pc := 13) 18 dX1_takeLast_13 (by decide) (fun c_13 => ?_) (fun c_13 => absurd c_13 (by decide))
    refine z_aload_n X (pc := 18) 0 dX1_takeLast_18 rfl ?_
    refine z_dup X (pc := 19) dX1_takeLast_19 rfl ?_
    refine z_get X (pc := 20) 0 1 (.int (nI 5)) tu_1 tw_95 dX1_takeLast_20 rfl rfl (by decide) rfl rfl ?_
    refine z_iconst X (pc := 23) (nI 1) dX1_takeLast_23 (by decide) ?_
    refine z_isub X (pc := 24) (v := (nI 4)) dX1_takeLast_24 (pk_sub (by omega)) ?_
    refine z_put X (pc := 25) 0 1 [eX1 h0 ha (nI 4), eQ t ha 8 (fun j => some (ad j)), eX0 (ad 0) (nI (g 0)) (nI (g 1)) (nI (g 2)) (nI (g 3)) (nI (g 4)), eX0 (ad 1) (nI (g 5)) (nI (g 6)) (nI (g 7)) (nI (g 8)) (nI (g 9)), eX0 (ad 2) (nI (g 10)) (nI (g 11)) (nI (g 12)) (nI (g 13)) (nI (g 14)), eX0 (ad 3) (nI (g 15)) (nI (g 16)) (nI (g 17)) (nI (g 18)) (nI (g 19)), eX0 (ad 4) (nI (g 20)) (nI (g 21)) (nI (g 22)) (nI (g 23)) (nI (g 24)), eX0 (ad 5) (nI (g 25)) (nI (g 26)) (nI (g 27)) (nI (g 28)) (nI (g 29)), eX0 (ad 6) (nI (g 30)) (nI (g 31)) (nI (g 32)) (nI (g 33)) (nI (g 34)), eX0 (ad 7) (nI (g 35)) (nI (g 36)) (nI (g 37)) (nI (g 38)) (nI (g 39)), eX0 hc (nI (s 0)) (nI (s 1)) (nI (s 2)) (nI (s 3)) (nI (s 4))] tu_1 tyX1_ok nmX1 tw_95 dX1_takeLast_25 rfl rfl (by decide) rfl rfl rfl rfl (Nat.le_of_ble_eq_true rfl) rfl ?_
    refine z_aload_n X (pc := 28) 1 dX1_takeLast_28 rfl ?_
    refine z_aload_n X (pc := 29) 0 dX1_takeLast_29 rfl ?_
    refine z_get X (pc := 30) 0 0 (.ref ha) tu_1 tw_94 dX1_takeLast_30 rfl rfl (by decide) rfl rfl ?_
    refine z_aload_n X (pc := 33) 0 dX1_takeLast_33 rfl ?_
    refine z_get X (pc := 34) 0 1 (.int (nI 4)) tu_1 tw_95 dX1_takeLast_34 rfl rfl (by decide) rfl rfl ?_
    refine z_aald X (pc := 37) 1 4 (ad 4) dX1_takeLast_37 rfl rfl (Nat.le_of_ble_eq_true rfl) (by decide) rfl ?_
    refine zc_V (as := [.ref (ad 4)]) X (pc := 38) (c_X0_copyFrom lq D t hc (ad 4) (nI (s 0)) (nI (s 1)) (nI (s 2)) (nI (s 3)) (nI (s 4)) (nI (g 20)) (nI (g 21)) (nI (g 22)) (nI (g 23)) (nI (g 24)) ) tw_318 tw_270 tw_3 tw_268 tw_269 0 0 rfl rfl [10, 6] rfl rfl dX1_takeLast_38 rfl zdX0_copyFrom ⟨rfl, rfl, Nat.le_of_ble_eq_true rfl, Nat.le_of_ble_eq_true rfl⟩ (Nat.le_of_ble_eq_true rfl) (Nat.zero_le _) (Nat.zero_le _) (fun v_31 w_32 hp_33 => ?_)
    obtain ⟨rfl, rfl⟩ := hp_33
    refine ⟨rfl, ?_⟩
    refine z_eq (ws2 := [eX1 h0 ha (nI 4), eQ t ha 8 (fun j => some (ad j)), eX0 (ad 0) (nI (g 0)) (nI (g 1)) (nI (g 2)) (nI (g 3)) (nI (g 4)), eX0 (ad 1) (nI (g 5)) (nI (g 6)) (nI (g 7)) (nI (g 8)) (nI (g 9)), eX0 (ad 2) (nI (g 10)) (nI (g 11)) (nI (g 12)) (nI (g 13)) (nI (g 14)), eX0 (ad 3) (nI (g 15)) (nI (g 16)) (nI (g 17)) (nI (g 18)) (nI (g 19)), eX0 (ad 4) (nI (g 20)) (nI (g 21)) (nI (g 22)) (nI (g 23)) (nI (g 24)), eX0 (ad 5) (nI (g 25)) (nI (g 26)) (nI (g 27)) (nI (g 28)) (nI (g 29)), eX0 (ad 6) (nI (g 30)) (nI (g 31)) (nI (g 32)) (nI (g 33)) (nI (g 34)), eX0 (ad 7) (nI (g 35)) (nI (g 36)) (nI (g 37)) (nI (g 38)) (nI (g 39)), eX0 hc (nI (g 20)) (nI (g 21)) (nI (g 22)) (nI (g 23)) (nI (g 24))]) (st2 := []) rfl rfl rfl ?_
    refine z_iconst X (pc := 41) (nI 1) dX1_takeLast_41 (by decide) ?_
    exact hR.z dX1_takeLast_42 rfl ⟨some_zb_t (by decide), rfl⟩
  · skip
    refine z_aload_n X (pc := 0) 0 dX1_takeLast_0 rfl ?_
    refine z_get X (pc := 1) 0 1 (.int (nI 6)) tu_1 tw_95 dX1_takeLast_1 rfl rfl (by decide) rfl rfl ?_
    refine z_iconst X (pc := 4) (nI 1) dX1_takeLast_4 (by decide) ?_
    refine z_aload_n X (pc := 5) 0 dX1_takeLast_5 rfl ?_
    refine z_get X (pc := 6) 0 0 (.ref ha) tu_1 tw_94 dX1_takeLast_6 rfl rfl (by decide) rfl rfl ?_
    refine z_alen_q X (pc := 9) 1 dX1_takeLast_9 rfl ?_
    refine zc_SN (as := [.int (nI 6), .int (nI 1), .int (nI 8)]) X (pc := 10) (c_X4_within lq D t (nI 6) (nI 1) (nI 8) ) tw_319 tw_182 tw_1 tw_181 [] rfl rfl dX1_takeLast_10 rfl zdX4_within ⟨rfl, rfl, Nat.le_of_ble_eq_true rfl, Nat.le_of_ble_eq_true rfl⟩ (Nat.le_of_ble_eq_true rfl) (Nat.zero_le _) (Nat.zero_le _) (fun v_34 w_35 hp_36 => ?_)
    obtain ⟨rfl, rfl⟩ := hp_36
    refine ⟨rfl, ?_⟩
    refine z_eq (ws2 := [eX1 h0 ha (nI 6), eQ t ha 8 (fun j => some (ad j)), eX0 (ad 0) (nI (g 0)) (nI (g 1)) (nI (g 2)) (nI (g 3)) (nI (g 4)), eX0 (ad 1) (nI (g 5)) (nI (g 6)) (nI (g 7)) (nI (g 8)) (nI (g 9)), eX0 (ad 2) (nI (g 10)) (nI (g 11)) (nI (g 12)) (nI (g 13)) (nI (g 14)), eX0 (ad 3) (nI (g 15)) (nI (g 16)) (nI (g 17)) (nI (g 18)) (nI (g 19)), eX0 (ad 4) (nI (g 20)) (nI (g 21)) (nI (g 22)) (nI (g 23)) (nI (g 24)), eX0 (ad 5) (nI (g 25)) (nI (g 26)) (nI (g 27)) (nI (g 28)) (nI (g 29)), eX0 (ad 6) (nI (g 30)) (nI (g 31)) (nI (g 32)) (nI (g 33)) (nI (g 34)), eX0 (ad 7) (nI (g 35)) (nI (g 36)) (nI (g 37)) (nI (g 38)) (nI (g 39)), eX0 hc (nI (s 0)) (nI (s 1)) (nI (s 2)) (nI (s 3)) (nI (s 4))]) (st2 := [.int (zb ((nI 1) ≤ (nI 6) ∧ (nI 6) ≤ (nI 8)))]) rfl rfl rfl ?_
    refine z_if_neB X (pc := 13) 18 dX1_takeLast_13 (by decide) (fun c_13 => ?_) (fun c_13 => absurd c_13 (by decide))
    refine z_aload_n X (pc := 18) 0 dX1_takeLast_18 rfl ?_
    refine z_dup X (pc := 19) dX1_takeLast_19 rfl ?_
    refine z_get X (pc := 20) 0 1 (.int (nI 6)) tu_1 tw_95 dX1_takeLast_20 rfl rfl (by decide) rfl rfl ?_
    refine z_iconst X (pc := 23) (nI 1) dX1_takeLast_23 (by decide) ?_
    refine z_isub X (pc := 24) (v := (nI 5)) dX1_takeLast_24 (pk_sub (by omega)) ?_
    refine z_put X (pc := 25) 0 1 [eX1 h0 ha (nI 5), eQ t ha 8 (fun j => some (ad j)), eX0 (ad 0) (nI (g 0)) (nI (g 1)) (nI (g 2)) (nI (g 3)) (nI (g 4)), eX0 (ad 1) (nI (g 5)) (nI (g 6)) (nI (g 7)) (nI (g 8)) (nI (g 9)), eX0 (ad 2) (nI (g 10)) (nI (g 11)) (nI (g 12)) (nI (g 13)) (nI (g 14)), eX0 (ad 3) (nI (g 15)) (nI (g 16)) (nI (g 17)) (nI (g 18)) (nI (g 19)), eX0 (ad 4) (nI (g 20)) (nI (g 21)) (nI (g 22)) (nI (g 23)) (nI (g 24)), eX0 (ad 5) (nI (g 25)) (nI (g 26)) (nI (g 27)) (nI (g 28)) (nI (g 29)), eX0 (ad 6) (nI (g 30)) (nI (g 31)) (nI (g 32)) (nI (g 33)) (nI (g 34)), eX0 (ad 7) (nI (g 35)) (nI (g 36)) (nI (g 37)) (nI (g 38)) (nI (g 39)), eX0 hc (nI (s 0)) (nI (s 1)) (nI (s 2)) (nI (s 3)) (nI (s 4))] tu_1 tyX1_ok nmX1 tw_95 dX1_takeLast_25 rfl rfl (by decide) rfl rfl rfl rfl (Nat.le_of_ble_eq_true rfl) rfl ?_
    refine z_aload_n X (pc := 28) 1 dX1_takeLast_28 rfl ?_
    refine z_aload_n X (pc := 29) 0 dX1_takeLast_29 rfl ?_
    refine z_get X (pc := 30) 0 0 (.ref ha) tu_1 tw_94 dX1_takeLast_30 rfl rfl (by decide) rfl rfl ?_
    refine z_aload_n X (pc := 33) 0 dX1_takeLast_33 rfl ?_
    refine z_get X (pc := 34) 0 1 (.int (nI 5)) tu_1 tw_95 dX1_takeLast_34 rfl rfl (by decide) rfl rfl ?_
    refine z_aald X (pc := 37) 1 5 (ad 5) dX1_takeLast_37 rfl rfl (Nat.le_of_ble_eq_true rfl) (by decide) rfl ?_
    refine zc_V (as := [.ref (ad 5)]) X (pc := 38) (c_X0_copyFrom lq D t hc (ad 5) (nI (s 0)) (nI (s 1)) (nI (s 2)) (nI (s 3)) (nI (s 4)) (nI (g 25)) (nI (g 26)) (nI (g 27)) (nI (g 28)) (nI (g 29)) ) tw_318 tw_270 tw_3 tw_268 tw_269 0 0 rfl rfl [10, 7] rfl rfl dX1_takeLast_38 rfl zdX0_copyFrom ⟨rfl, rfl, Nat.le_of_ble_eq_true rfl, Nat.le_of_ble_eq_true rfl⟩ (Nat.le_of_ble_eq_true rfl) (Nat.zero_le _) (Nat.zero_le _) (fun v_37 w_38 hp_39 => ?_)
    obtain ⟨rfl, rfl⟩ := hp_39
    refine ⟨rfl, ?_⟩
    refine z_eq (ws2 := [eX1 h0 ha (nI 5), eQ t ha 8 (fun j => some (ad j)), eX0 (ad 0) (nI (g 0)) (nI (g 1)) (nI (g 2)) (nI (g 3)) (nI (g 4)), eX0 (ad 1) (nI (g 5)) (nI (g 6)) (nI (g 7)) (nI (g 8)) (nI (g 9)), eX0 (ad 2) (nI (g 10)) (nI (g 11)) (nI (g 12)) (nI (g 13)) (nI (g 14)), eX0 (ad 3) (nI (g 15)) (nI (g 16)) (nI (g 17)) (nI (g 18)) (nI (g 19)), eX0 (ad 4) (nI (g 20)) (nI (g 21)) (nI (g 22)) (nI (g 23)) (nI (g 24)), eX0 (ad 5) (nI (g 25)) (nI (g 26)) (nI (g 27)) (nI (g 28)) (nI (g 29)), eX0 (ad 6) (nI (g 30)) (nI (g 31)) (nI (g 32)) (nI (g 33)) (nI (g 34)), eX0 (ad 7) (nI (g 35)) (nI (g 36)) (nI (g 37)) (nI (g 38)) (nI (g 39)), eX0 hc (nI (g 25)) (nI (g 26)) (nI (g 27)) (nI (g 28)) (nI (g 29))]) (st2 := []) rfl rfl rfl ?_
    refine z_iconst X (pc := 41) (nI 1) dX1_takeLast_41 (by decide) ?_
    exact hR.z dX1_takeLast_42 rfl ⟨some_zb_t (by decide), rfl⟩
  · skip
    refine z_aload_n X (pc := 0) 0 dX1_takeLast_0 rfl ?_
    refine z_get X (pc := 1) 0 1 (.int (nI 7)) tu_1 tw_95 dX1_takeLast_1 rfl rfl (by decide) rfl rfl ?_
    refine z_iconst X (pc := 4) (nI 1) dX1_takeLast_4 (by decide) ?_
    refine z_aload_n X (pc := 5) 0 dX1_takeLast_5 rfl ?_
    refine z_get X (pc := 6) 0 0 (.ref ha) tu_1 tw_94 dX1_takeLast_6 rfl rfl (by decide) rfl rfl ?_
    refine z_alen_q X (pc := 9) 1 dX1_takeLast_9 rfl ?_
    refine zc_SN (as := [.int (nI 7), .int (nI 1), .int (nI 8)]) X (pc := 10) (c_X4_within lq D t (nI 7) (nI 1) (nI 8) ) tw_319 tw_182 tw_1 tw_181 [] rfl rfl dX1_takeLast_10 rfl zdX4_within ⟨rfl, rfl, Nat.le_of_ble_eq_true rfl, Nat.le_of_ble_eq_true rfl⟩ (Nat.le_of_ble_eq_true rfl) (Nat.zero_le _) (Nat.zero_le _) (fun v_40 w_41 hp_42 => ?_)
    obtain ⟨rfl, rfl⟩ := hp_42
    refine ⟨rfl, ?_⟩
    refine z_eq (ws2 := [eX1 h0 ha (nI 7), eQ t ha 8 (fun j => some (ad j)), eX0 (ad 0) (nI (g 0)) (nI (g 1)) (nI (g 2)) (nI (g 3)) (nI (g 4)), eX0 (ad 1) (nI (g 5)) (nI (g 6)) (nI (g 7)) (nI (g 8)) (nI (g 9)), eX0 (ad 2) (nI (g 10)) (nI (g 11)) (nI (g 12)) (nI (g 13)) (nI (g 14)), eX0 (ad 3) (nI (g 15)) (nI (g 16)) (nI (g 17)) (nI (g 18)) (nI (g 19)), eX0 (ad 4) (nI (g 20)) (nI (g 21)) (nI (g 22)) (nI (g 23)) (nI (g 24)), eX0 (ad 5) (nI (g 25)) (nI (g 26)) (nI (g 27)) (nI (g 28)) (nI (g 29)), eX0 (ad 6) (nI (g 30)) (nI (g 31)) (nI (g 32)) (nI (g 33)) (nI (g 34)), eX0 (ad 7) (nI (g 35)) (nI (g 36)) (nI (g 37)) (nI (g 38)) (nI (g 39)), eX0 hc (nI (s 0)) (nI (s 1)) (nI (s 2)) (nI (s 3)) (nI (s 4))]) (st2 := [.int (zb ((nI 1) ≤ (nI 7) ∧ (nI 7) ≤ (nI 8)))]) rfl rfl rfl ?_
    refine z_if_neB X (pc := 13) 18 dX1_takeLast_13 (by decide) (fun c_13 => ?_) (fun c_13 => absurd c_13 (by decide))
    refine z_aload_n X (pc := 18) 0 dX1_takeLast_18 rfl ?_
    refine z_dup X (pc := 19) dX1_takeLast_19 rfl ?_
    refine z_get X (pc := 20) 0 1 (.int (nI 7)) tu_1 tw_95 dX1_takeLast_20 rfl rfl (by decide) rfl rfl ?_
    refine z_iconst X (pc := 23) (nI 1) dX1_takeLast_23 (by decide) ?_
    refine z_isub X (pc := 24) (v := (nI 6)) dX1_takeLast_24 (pk_sub (by omega)) ?_
    refine z_put X (pc := 25) 0 1 [eX1 h0 ha (nI 6), eQ t ha 8 (fun j => some (ad j)), eX0 (ad 0) (nI (g 0)) (nI (g 1)) (nI (g 2)) (nI (g 3)) (nI (g 4)), eX0 (ad 1) (nI (g 5)) (nI (g 6)) (nI (g 7)) (nI (g 8)) (nI (g 9)), eX0 (ad 2) (nI (g 10)) (nI (g 11)) (nI (g 12)) (nI (g 13)) (nI (g 14)), eX0 (ad 3) (nI (g 15)) (nI (g 16)) (nI (g 17)) (nI (g 18)) (nI (g 19)), eX0 (ad 4) (nI (g 20)) (nI (g 21)) (nI (g 22)) (nI (g 23)) (nI (g 24)), eX0 (ad 5) (nI (g 25)) (nI (g 26)) (nI (g 27)) (nI (g 28)) (nI (g 29)), eX0 (ad 6) (nI (g 30)) (nI (g 31)) (nI (g 32)) (nI (g 33)) (nI (g 34)), eX0 (ad 7) (nI (g 35)) (nI (g 36)) (nI (g 37)) (nI (g 38)) (nI (g 39)), eX0 hc (nI (s 0)) (nI (s 1)) (nI (s 2)) (nI (s 3)) (nI (s 4))] tu_1 tyX1_ok nmX1 tw_95 dX1_takeLast_25 rfl rfl (by decide) rfl rfl rfl rfl (Nat.le_of_ble_eq_true rfl) rfl ?_
    refine z_aload_n X (pc := 28) 1 dX1_takeLast_28 rfl ?_
    refine z_aload_n X (pc := 29) 0 dX1_takeLast_29 rfl ?_
    refine z_get X (pc := 30) 0 0 (.ref ha) tu_1 tw_94 dX1_takeLast_30 rfl rfl (by decide) rfl rfl ?_
    refine z_aload_n X (pc := 33) 0 dX1_takeLast_33 rfl ?_
    refine z_get X (pc := 34) 0 1 (.int (nI 6)) tu_1 tw_95 dX1_takeLast_34 rfl rfl (by decide) rfl rfl ?_
    refine z_aald X (pc := 37) 1 6 (ad 6) dX1_takeLast_37 rfl rfl (Nat.le_of_ble_eq_true rfl) (by decide) rfl ?_
    refine zc_V (as := [.ref (ad 6)]) X (pc := 38) (c_X0_copyFrom lq D t hc (ad 6) (nI (s 0)) (nI (s 1)) (nI (s 2)) (nI (s 3)) (nI (s 4)) (nI (g 30)) (nI (g 31)) (nI (g 32)) (nI (g 33)) (nI (g 34)) ) tw_318 tw_270 tw_3 tw_268 tw_269 0 0 rfl rfl [10, 8] rfl rfl dX1_takeLast_38 rfl zdX0_copyFrom ⟨rfl, rfl, Nat.le_of_ble_eq_true rfl, Nat.le_of_ble_eq_true rfl⟩ (Nat.le_of_ble_eq_true rfl) (Nat.zero_le _) (Nat.zero_le _) (fun v_43 w_44 hp_45 => ?_)
    obtain ⟨rfl, rfl⟩ := hp_45
    refine ⟨rfl, ?_⟩
    refine z_eq (ws2 := [eX1 h0 ha (nI 6), eQ t ha 8 (fun j => some (ad j)), eX0 (ad 0) (nI (g 0)) (nI (g 1)) (nI (g 2)) (nI (g 3)) (nI (g 4)), eX0 (ad 1) (nI (g 5)) (nI (g 6)) (nI (g 7)) (nI (g 8)) (nI (g 9)), eX0 (ad 2) (nI (g 10)) (nI (g 11)) (nI (g 12)) (nI (g 13)) (nI (g 14)), eX0 (ad 3) (nI (g 15)) (nI (g 16)) (nI (g 17)) (nI (g 18)) (nI (g 19)), eX0 (ad 4) (nI (g 20)) (nI (g 21)) (nI (g 22)) (nI (g 23)) (nI (g 24)), eX0 (ad 5) (nI (g 25)) (nI (g 26)) (nI (g 27)) (nI (g 28)) (nI (g 29)), eX0 (ad 6) (nI (g 30)) (nI (g 31)) (nI (g 32)) (nI (g 33)) (nI (g 34)), eX0 (ad 7) (nI (g 35)) (nI (g 36)) (nI (g 37)) (nI (g 38)) (nI (g 39)), eX0 hc (nI (g 30)) (nI (g 31)) (nI (g 32)) (nI (g 33)) (nI (g 34))]) (st2 := []) rfl rfl rfl ?_
    refine z_iconst X (pc := 41) (nI 1) dX1_takeLast_41 (by decide) ?_
    exact hR.z dX1_takeLast_42 rfl ⟨some_zb_t (by decide), rfl⟩
  · skip
    refine z_aload_n X (pc := 0) 0 dX1_takeLast_0 rfl ?_
    refine z_get X (pc := 1) 0 1 (.int (nI 8)) tu_1 tw_95 dX1_takeLast_1 rfl rfl (by decide) rfl rfl ?_
    refine z_iconst X (pc := 4) (nI 1) dX1_takeLast_4 (by decide) ?_
    refine z_aload_n X (pc := 5) 0 dX1_takeLast_5 rfl ?_
    refine z_get X (pc := 6) 0 0 (.ref ha) tu_1 tw_94 dX1_takeLast_6 rfl rfl (by decide) rfl rfl ?_
    refine z_alen_q X (pc := 9) 1 dX1_takeLast_9 rfl ?_
    refine zc_SN (as := [.int (nI 8), .int (nI 1), .int (nI 8)]) X (pc := 10) (c_X4_within lq D t (nI 8) (nI 1) (nI 8) ) tw_319 tw_182 tw_1 tw_181 [] rfl rfl dX1_takeLast_10 rfl zdX4_within ⟨rfl, rfl, Nat.le_of_ble_eq_true rfl, Nat.le_of_ble_eq_true rfl⟩ (Nat.le_of_ble_eq_true rfl) (Nat.zero_le _) (Nat.zero_le _) (fun v_46 w_47 hp_48 => ?_)
    obtain ⟨rfl, rfl⟩ := hp_48
    refine ⟨rfl, ?_⟩
    refine z_eq (ws2 := [eX1 h0 ha (nI 8), eQ t ha 8 (fun j => some (ad j)), eX0 (ad 0) (nI (g 0)) (nI (g 1)) (nI (g 2)) (nI (g 3)) (nI (g 4)), eX0 (ad 1) (nI (g 5)) (nI (g 6)) (nI (g 7)) (nI (g 8)) (nI (g 9)), eX0 (ad 2) (nI (g 10)) (nI (g 11)) (nI (g 12)) (nI (g 13)) (nI (g 14)), eX0 (ad 3) (nI (g 15)) (nI (g 16)) (nI (g 17)) (nI (g 18)) (nI (g 19)), eX0 (ad 4) (nI (g 20)) (nI (g 21)) (nI (g 22)) (nI (g 23)) (nI (g 24)), eX0 (ad 5) (nI (g 25)) (nI (g 26)) (nI (g 27)) (nI (g 28)) (nI (g 29)), eX0 (ad 6) (nI (g 30)) (nI (g 31)) (nI (g 32)) (nI (g 33)) (nI (g 34)), eX0 (ad 7) (nI (g 35)) (nI (g 36)) (nI (g 37)) (nI (g 38)) (nI (g 39)), eX0 hc (nI (s 0)) (nI (s 1)) (nI (s 2)) (nI (s 3)) (nI (s 4))]) (st2 := [.int (zb ((nI 1) ≤ (nI 8) ∧ (nI 8) ≤ (nI 8)))]) rfl rfl rfl ?_
    refine z_if_neB X (pc := 13) 18 dX1_takeLast_13 (by decide) (fun c_13 => ?_) (fun c_13 => absurd c_13 (by decide))
    refine z_aload_n X (pc := 18) 0 dX1_takeLast_18 rfl ?_
    refine z_dup X (pc := 19) dX1_takeLast_19 rfl ?_
    refine z_get X (pc := 20) 0 1 (.int (nI 8)) tu_1 tw_95 dX1_takeLast_20 rfl rfl (by decide) rfl rfl ?_
    refine z_iconst X (pc := 23) (nI 1) dX1_takeLast_23 (by decide) ?_
    refine z_isub X (pc := 24) (v := (nI 7)) dX1_takeLast_24 (pk_sub (by omega)) ?_
    refine z_put X (pc := 25) 0 1 [eX1 h0 ha (nI 7), eQ t ha 8 (fun j => some (ad j)), eX0 (ad 0) (nI (g 0)) (nI (g 1)) (nI (g 2)) (nI (g 3)) (nI (g 4)), eX0 (ad 1) (nI (g 5)) (nI (g 6)) (nI (g 7)) (nI (g 8)) (nI (g 9)), eX0 (ad 2) (nI (g 10)) (nI (g 11)) (nI (g 12)) (nI (g 13)) (nI (g 14)), eX0 (ad 3) (nI (g 15)) (nI (g 16)) (nI (g 17)) (nI (g 18)) (nI (g 19)), eX0 (ad 4) (nI (g 20)) (nI (g 21)) (nI (g 22)) (nI (g 23)) (nI (g 24)), eX0 (ad 5) (nI (g 25)) (nI (g 26)) (nI (g 27)) (nI (g 28)) (nI (g 29)), eX0 (ad 6) (nI (g 30)) (nI (g 31)) (nI (g 32)) (nI (g 33)) (nI (g 34)), eX0 (ad 7) (nI (g 35)) (nI (g 36)) (nI (g 37)) (nI (g 38)) (nI (g 39)), eX0 hc (nI (s 0)) (nI (s 1)) (nI (s 2)) (nI (s 3)) (nI (s 4))] tu_1 tyX1_ok nmX1 tw_95 dX1_takeLast_25 rfl rfl (by decide) rfl rfl rfl rfl (Nat.le_of_ble_eq_true rfl) rfl ?_
    refine z_aload_n X (pc := 28) 1 dX1_takeLast_28 rfl ?_
    refine z_aload_n X (pc := 29) 0 dX1_takeLast_29 rfl ?_
    refine z_get X (pc := 30) 0 0 (.ref ha) tu_1 tw_94 dX1_takeLast_30 rfl rfl (by decide) rfl rfl ?_
    refine z_aload_n X (pc := 33) 0 dX1_takeLast_33 rfl ?_
    refine z_get X (pc := 34) 0 1 (.int (nI 7)) tu_1 tw_95 dX1_takeLast_34 rfl rfl (by decide) rfl rfl ?_
    refine z_aald X (pc := 37) 1 7 (ad 7) dX1_takeLast_37 rfl rfl (Nat.le_of_ble_eq_true rfl) (by decide) rfl ?_
    refine zc_V (as := [.ref (ad 7)]) X (pc := 38) (c_X0_copyFrom lq D t hc (ad 7) (nI (s 0)) (nI (s 1)) (nI (s 2)) (nI (s 3)) (nI (s 4)) (nI (g 35)) (nI (g 36)) (nI (g 37)) (nI (g 38)) (nI (g 39)) ) tw_318 tw_270 tw_3 tw_268 tw_269 0 0 rfl rfl [10, 9] rfl rfl dX1_takeLast_38 rfl zdX0_copyFrom ⟨rfl, rfl, Nat.le_of_ble_eq_true rfl, Nat.le_of_ble_eq_true rfl⟩ (Nat.le_of_ble_eq_true rfl) (Nat.zero_le _) (Nat.zero_le _) (fun v_49 w_50 hp_51 => ?_)
    obtain ⟨rfl, rfl⟩ := hp_51
    refine ⟨rfl, ?_⟩
    refine z_eq (ws2 := [eX1 h0 ha (nI 7), eQ t ha 8 (fun j => some (ad j)), eX0 (ad 0) (nI (g 0)) (nI (g 1)) (nI (g 2)) (nI (g 3)) (nI (g 4)), eX0 (ad 1) (nI (g 5)) (nI (g 6)) (nI (g 7)) (nI (g 8)) (nI (g 9)), eX0 (ad 2) (nI (g 10)) (nI (g 11)) (nI (g 12)) (nI (g 13)) (nI (g 14)), eX0 (ad 3) (nI (g 15)) (nI (g 16)) (nI (g 17)) (nI (g 18)) (nI (g 19)), eX0 (ad 4) (nI (g 20)) (nI (g 21)) (nI (g 22)) (nI (g 23)) (nI (g 24)), eX0 (ad 5) (nI (g 25)) (nI (g 26)) (nI (g 27)) (nI (g 28)) (nI (g 29)), eX0 (ad 6) (nI (g 30)) (nI (g 31)) (nI (g 32)) (nI (g 33)) (nI (g 34)), eX0 (ad 7) (nI (g 35)) (nI (g 36)) (nI (g 37)) (nI (g 38)) (nI (g 39)), eX0 hc (nI (g 35)) (nI (g 36)) (nI (g 37)) (nI (g 38)) (nI (g 39))]) (st2 := []) rfl rfl rfl ?_
    refine z_iconst X (pc := 41) (nI 1) dX1_takeLast_41 (by decide) ?_
    exact hR.z dX1_takeLast_42 rfl ⟨some_zb_t (by decide), rfl⟩

abbrev rm_X1_put2 : Room := { frames := 1, cells := 0, slots := 0, locals := 22 }
set_option maxHeartbeats 4000000 in
set_option maxRecDepth 100000 in
theorem c_X1_put2 (lq : Launch) (D : va_G) (t : zT) (h0 ha : Nat) (ad g : Nat → Nat) (sz : Nat) (hc : Nat) (s : Nat → Nat) (hsz : sz ≤ 1) : Ct lq D t yX1_put cX1_put 2 none rm_X1_put2 [.ref h0, .ref hc] [eX1 h0 ha (nI sz), eQ t ha 2 (fun j => some (ad j)), eX0 (ad 0) (nI (g 0)) (nI (g 1)) (nI (g 2)) (nI (g 3)) (nI (g 4)), eX0 (ad 1) (nI (g 5)) (nI (g 6)) (nI (g 7)) (nI (g 8)) (nI (g 9)), eX0 hc (nI (s 0)) (nI (s 1)) (nI (s 2)) (nI (s 3)) (nI (s 4))] 0 0 (fun rv rw_ => rv = none ∧ rw_ = [eX1 h0 ha (nI (sz + 1)), eQ t ha 2 (fun j => some (ad j)), eX0 (ad 0) (nI (kput g sz s 0)) (nI (kput g sz s 1)) (nI (kput g sz s 2)) (nI (kput g sz s 3)) (nI (kput g sz s 4)), eX0 (ad 1) (nI (kput g sz s 5)) (nI (kput g sz s 6)) (nI (kput g sz s 7)) (nI (kput g sz s 8)) (nI (kput g sz s 9)), eX0 hc (nI (s 0)) (nI (s 1)) (nI (s 2)) (nI (s 3)) (nI (s 4))]) := by
  refine Ct.of (by decide) (Nat.le_of_ble_eq_true rfl) (fun k X hR => ?_)
  have X : zX D t k cX1_put 2 RX1 "put" rm_X1_put2 lq := X
  refine z_eq (lv2 := [(0, .ref h0), (1, .ref hc)]) rfl rfl rfl ?_
  rcases (show sz = 0 ∨ sz = 1 by omega) with rfl | rfl
  · skip
    refine z_aload_n X (pc := 0) 0 dX1_put_0 rfl ?_
    refine zc_V (as := []) X (pc := 1) (c_X1_isFull lq D t h0 ha 0 2 (fun j => some (ad j)) (by decide) (by decide)) tw_310 tw_313 tw_4 tw_311 tw_312 0 1 rfl rfl [0, 1] rfl rfl dX1_put_1 rfl zdX1_isFull ⟨rfl, rfl, Nat.le_of_ble_eq_true rfl, Nat.le_of_ble_eq_true rfl⟩ (Nat.le_of_ble_eq_true rfl) (Nat.zero_le _) (Nat.zero_le _) (fun v_1 w_2 hp_3 => ?_)
    obtain ⟨rfl, rfl⟩ := hp_3
    refine ⟨rfl, ?_⟩
    refine z_eq (ws2 := [eX1 h0 ha (nI 0), eQ t ha 2 (fun j => some (ad j)), eX0 (ad 0) (nI (g 0)) (nI (g 1)) (nI (g 2)) (nI (g 3)) (nI (g 4)), eX0 (ad 1) (nI (g 5)) (nI (g 6)) (nI (g 7)) (nI (g 8)) (nI (g 9)), eX0 hc (nI (s 0)) (nI (s 1)) (nI (s 2)) (nI (s 3)) (nI (s 4))]) (st2 := [.int (zb (2 ≤ 0))]) rfl rfl rfl ?_
    refine z_if_eqB X (pc := 4) 11 dX1_put_4 (by decide) (fun c_4 => ?_) (fun c_4 => absurd c_4 (by decide))
    refine z_aload_n X (pc := 11) 0 dX1_put_11 rfl ?_
    refine z_get X (pc := 12) 0 1 (.int (nI 0)) tu_1 tw_95 dX1_put_12 rfl rfl (by decide) rfl rfl ?_
    refine z_iconst X (pc := 15) (nI 0) dX1_put_15 (by decide) ?_
    refine z_aload_n X (pc := 16) 0 dX1_put_16 rfl ?_
    refine z_get X (pc := 17) 0 0 (.ref ha) tu_1 tw_94 dX1_put_17 rfl rfl (by decide) rfl rfl ?_
    refine z_alen_q X (pc := 20) 1 dX1_put_20 rfl ?_
    refine z_iconst X (pc := 21) (nI 1) dX1_put_21 (by decide) ?_
    refine z_isub X (pc := 22) (v := (nI 1)) dX1_put_22 (pk_sub (by omega)) ?_
    refine zc_SN (as := [.int (nI 0), .int (nI 0), .int (nI 1)]) X (pc := 23) (c_X4_within lq D t (nI 0) (nI 0) (nI 1) ) tw_319 tw_182 tw_1 tw_181 [] rfl rfl dX1_put_23 rfl zdX4_within ⟨rfl, rfl, Nat.le_of_ble_eq_true rfl, Nat.le_of_ble_eq_true rfl⟩ (Nat.le_of_ble_eq_true rfl) (Nat.zero_le _) (Nat.zero_le _) (fun v_4 w_5 hp_6 => ?_)
    obtain ⟨rfl, rfl⟩ := hp_6
    refine ⟨rfl, ?_⟩
    refine z_eq (ws2 := [eX1 h0 ha (nI 0), eQ t ha 2 (fun j => some (ad j)), eX0 (ad 0) (nI (g 0)) (nI (g 1)) (nI (g 2)) (nI (g 3)) (nI (g 4)), eX0 (ad 1) (nI (g 5)) (nI (g 6)) (nI (g 7)) (nI (g 8)) (nI (g 9)), eX0 hc (nI (s 0)) (nI (s 1)) (nI (s 2)) (nI (s 3)) (nI (s 4))]) (st2 := [.int (zb ((nI 0) ≤ (nI 0) ∧ (nI 0) ≤ (nI 1)))]) rfl rfl rfl ?_
    refine z_if_eqB X (pc := 26) 52 dX1_put_26 (by decide) (fun c_26 => absurd c_26 (by decide)) (fun c_26 => ?_)
    refine z_aload_n X (pc := 29) 0 dX1_put_29 rfl ?_
    refine z_get X (pc := 30) 0 0 (.ref ha) tu_1 tw_94 dX1_put_30 rfl rfl (by decide) rfl rfl ?_
    refine z_aload_n X (pc := 33) 0 dX1_put_33 rfl ?_
    refine z_get X (pc := 34) 0 1 (.int (nI 0)) tu_1 tw_95 dX1_put_34 rfl rfl (by decide) rfl rfl ?_
    refine z_aald X (pc := 37) 1 0 (ad 0) dX1_put_37 rfl rfl (Nat.le_of_ble_eq_true rfl) (by decide) rfl ?_
    refine z_aload_n X (pc := 38) 1 dX1_put_38 rfl ?_
    refine zc_V (as := [.ref hc]) X (pc := 39) (c_X0_copyFrom lq D t (ad 0) hc (nI (g 0)) (nI (g 1)) (nI (g 2)) (nI (g 3)) (nI (g 4)) (nI (s 0)) (nI (s 1)) (nI (s 2)) (nI (s 3)) (nI (s 4)) ) tw_318 tw_270 tw_3 tw_268 tw_269 0 0 rfl rfl [2, 4] rfl rfl dX1_put_39 rfl zdX0_copyFrom ⟨rfl, rfl, Nat.le_of_ble_eq_true rfl, Nat.le_of_ble_eq_true rfl⟩ (Nat.le_of_ble_eq_true rfl) (Nat.zero_le _) (Nat.zero_le _) (fun v_7 w_8 hp_9 => ?_)
    obtain ⟨rfl, rfl⟩ := hp_9
    refine ⟨rfl, ?_⟩
    refine z_eq (ws2 := [eX1 h0 ha (nI 0), eQ t ha 2 (fun j => some (ad j)), eX0 (ad 0) (nI (s 0)) (nI (s 1)) (nI (s 2)) (nI (s 3)) (nI (s 4)), eX0 (ad 1) (nI (g 5)) (nI (g 6)) (nI (g 7)) (nI (g 8)) (nI (g 9)), eX0 hc (nI (s 0)) (nI (s 1)) (nI (s 2)) (nI (s 3)) (nI (s 4))]) (st2 := []) rfl rfl rfl ?_
    refine z_aload_n X (pc := 42) 0 dX1_put_42 rfl ?_
    refine z_dup X (pc := 43) dX1_put_43 rfl ?_
    refine z_get X (pc := 44) 0 1 (.int (nI 0)) tu_1 tw_95 dX1_put_44 rfl rfl (by decide) rfl rfl ?_
    refine z_iconst X (pc := 47) (nI 1) dX1_put_47 (by decide) ?_
    refine z_iadd X (pc := 48) (v := (nI 1)) dX1_put_48 (nI_add 0 1) ?_
    refine z_put X (pc := 49) 0 1 [eX1 h0 ha (nI 1), eQ t ha 2 (fun j => some (ad j)), eX0 (ad 0) (nI (s 0)) (nI (s 1)) (nI (s 2)) (nI (s 3)) (nI (s 4)), eX0 (ad 1) (nI (g 5)) (nI (g 6)) (nI (g 7)) (nI (g 8)) (nI (g 9)), eX0 hc (nI (s 0)) (nI (s 1)) (nI (s 2)) (nI (s 3)) (nI (s 4))] tu_1 tyX1_ok nmX1 tw_95 dX1_put_49 rfl rfl (by decide) rfl rfl rfl rfl (Nat.le_of_ble_eq_true rfl) rfl ?_
    exact hR.v dX1_put_52 ⟨rfl, rfl⟩
  · skip
    refine z_aload_n X (pc := 0) 0 dX1_put_0 rfl ?_
    refine zc_V (as := []) X (pc := 1) (c_X1_isFull lq D t h0 ha 1 2 (fun j => some (ad j)) (by decide) (by decide)) tw_310 tw_313 tw_4 tw_311 tw_312 0 1 rfl rfl [0, 1] rfl rfl dX1_put_1 rfl zdX1_isFull ⟨rfl, rfl, Nat.le_of_ble_eq_true rfl, Nat.le_of_ble_eq_true rfl⟩ (Nat.le_of_ble_eq_true rfl) (Nat.zero_le _) (Nat.zero_le _) (fun v_10 w_11 hp_12 => ?_)
    obtain ⟨rfl, rfl⟩ := hp_12
    refine ⟨rfl, ?_⟩
    refine z_eq (ws2 := [eX1 h0 ha (nI 1), eQ t ha 2 (fun j => some (ad j)), eX0 (ad 0) (nI (g 0)) (nI (g 1)) (nI (g 2)) (nI (g 3)) (nI (g 4)), eX0 (ad 1) (nI (g 5)) (nI (g 6)) (nI (g 7)) (nI (g 8)) (nI (g 9)), eX0 hc (nI (s 0)) (nI (s 1)) (nI (s 2)) (nI (s 3)) (nI (s 4))]) (st2 := [.int (zb (2 ≤ 1))]) rfl rfl rfl ?_
    refine z_if_eqB X (pc := 4) 11 dX1_put_4 (by decide) (fun c_4 => ?_) (fun c_4 => absurd c_4 (by decide))
    refine z_aload_n X (pc := 11) 0 dX1_put_11 rfl ?_
    refine z_get X (pc := 12) 0 1 (.int (nI 1)) tu_1 tw_95 dX1_put_12 rfl rfl (by decide) rfl rfl ?_
    refine z_iconst X (pc := 15) (nI 0) dX1_put_15 (by decide) ?_
    refine z_aload_n X (pc := 16) 0 dX1_put_16 rfl ?_
    refine z_get X (pc := 17) 0 0 (.ref ha) tu_1 tw_94 dX1_put_17 rfl rfl (by decide) rfl rfl ?_
    refine z_alen_q X (pc := 20) 1 dX1_put_20 rfl ?_
    refine z_iconst X (pc := 21) (nI 1) dX1_put_21 (by decide) ?_
    refine z_isub X (pc := 22) (v := (nI 1)) dX1_put_22 (pk_sub (by omega)) ?_
    refine zc_SN (as := [.int (nI 1), .int (nI 0), .int (nI 1)]) X (pc := 23) (c_X4_within lq D t (nI 1) (nI 0) (nI 1) ) tw_319 tw_182 tw_1 tw_181 [] rfl rfl dX1_put_23 rfl zdX4_within ⟨rfl, rfl, Nat.le_of_ble_eq_true rfl, Nat.le_of_ble_eq_true rfl⟩ (Nat.le_of_ble_eq_true rfl) (Nat.zero_le _) (Nat.zero_le _) (fun v_13 w_14 hp_15 => ?_)
    obtain ⟨rfl, rfl⟩ := hp_15
    refine ⟨rfl, ?_⟩
    refine z_eq (ws2 := [eX1 h0 ha (nI 1), eQ t ha 2 (fun j => some (ad j)), eX0 (ad 0) (nI (g 0)) (nI (g 1)) (nI (g 2)) (nI (g 3)) (nI (g 4)), eX0 (ad 1) (nI (g 5)) (nI (g 6)) (nI (g 7)) (nI (g 8)) (nI (g 9)), eX0 hc (nI (s 0)) (nI (s 1)) (nI (s 2)) (nI (s 3)) (nI (s 4))]) (st2 := [.int (zb ((nI 0) ≤ (nI 1) ∧ (nI 1) ≤ (nI 1)))]) rfl rfl rfl ?_
    refine z_if_eqB X (pc := 26) 52 dX1_put_26 (by decide) (fun c_26 => absurd c_26 (by decide)) (fun c_26 => ?_)
    refine z_aload_n X (pc := 29) 0 dX1_put_29 rfl ?_
    refine z_get X (pc := 30) 0 0 (.ref ha) tu_1 tw_94 dX1_put_30 rfl rfl (by decide) rfl rfl ?_
    refine z_aload_n X (pc := 33) 0 dX1_put_33 rfl ?_
    refine z_get X (pc := 34) 0 1 (.int (nI 1)) tu_1 tw_95 dX1_put_34 rfl rfl (by decide) rfl rfl ?_
    refine z_aald X (pc := 37) 1 1 (ad 1) dX1_put_37 rfl rfl (Nat.le_of_ble_eq_true rfl) (by decide) rfl ?_
    refine z_aload_n X (pc := 38) 1 dX1_put_38 rfl ?_
    refine zc_V (as := [.ref hc]) X (pc := 39) (c_X0_copyFrom lq D t (ad 1) hc (nI (g 5)) (nI (g 6)) (nI (g 7)) (nI (g 8)) (nI (g 9)) (nI (s 0)) (nI (s 1)) (nI (s 2)) (nI (s 3)) (nI (s 4)) ) tw_318 tw_270 tw_3 tw_268 tw_269 0 0 rfl rfl [3, 4] rfl rfl dX1_put_39 rfl zdX0_copyFrom ⟨rfl, rfl, Nat.le_of_ble_eq_true rfl, Nat.le_of_ble_eq_true rfl⟩ (Nat.le_of_ble_eq_true rfl) (Nat.zero_le _) (Nat.zero_le _) (fun v_16 w_17 hp_18 => ?_)
    obtain ⟨rfl, rfl⟩ := hp_18
    refine ⟨rfl, ?_⟩
    refine z_eq (ws2 := [eX1 h0 ha (nI 1), eQ t ha 2 (fun j => some (ad j)), eX0 (ad 0) (nI (g 0)) (nI (g 1)) (nI (g 2)) (nI (g 3)) (nI (g 4)), eX0 (ad 1) (nI (s 0)) (nI (s 1)) (nI (s 2)) (nI (s 3)) (nI (s 4)), eX0 hc (nI (s 0)) (nI (s 1)) (nI (s 2)) (nI (s 3)) (nI (s 4))]) (st2 := []) rfl rfl rfl ?_
    refine z_aload_n X (pc := 42) 0 dX1_put_42 rfl ?_
    refine z_dup X (pc := 43) dX1_put_43 rfl ?_
    refine z_get X (pc := 44) 0 1 (.int (nI 1)) tu_1 tw_95 dX1_put_44 rfl rfl (by decide) rfl rfl ?_
    refine z_iconst X (pc := 47) (nI 1) dX1_put_47 (by decide) ?_
    refine z_iadd X (pc := 48) (v := (nI 2)) dX1_put_48 (nI_add 1 1) ?_
    refine z_put X (pc := 49) 0 1 [eX1 h0 ha (nI 2), eQ t ha 2 (fun j => some (ad j)), eX0 (ad 0) (nI (g 0)) (nI (g 1)) (nI (g 2)) (nI (g 3)) (nI (g 4)), eX0 (ad 1) (nI (s 0)) (nI (s 1)) (nI (s 2)) (nI (s 3)) (nI (s 4)), eX0 hc (nI (s 0)) (nI (s 1)) (nI (s 2)) (nI (s 3)) (nI (s 4))] tu_1 tyX1_ok nmX1 tw_95 dX1_put_49 rfl rfl (by decide) rfl rfl rfl rfl (Nat.le_of_ble_eq_true rfl) rfl ?_
    exact hR.v dX1_put_52 ⟨rfl, rfl⟩

abbrev rm_X1_takeLast2 : Room := { frames := 1, cells := 0, slots := 0, locals := 22 }
set_option maxHeartbeats 4000000 in
set_option maxRecDepth 100000 in
theorem c_X1_takeLast2 (lq : Launch) (D : va_G) (t : zT) (h0 ha : Nat) (ad g : Nat → Nat) (sz : Nat) (hc : Nat) (s : Nat → Nat) (hsz : sz ≤ 2) : Ct lq D t yX1_takeLast cX1_takeLast 2 (some .boolean) rm_X1_takeLast2 [.ref h0, .ref hc] [eX1 h0 ha (nI sz), eQ t ha 2 (fun j => some (ad j)), eX0 (ad 0) (nI (g 0)) (nI (g 1)) (nI (g 2)) (nI (g 3)) (nI (g 4)), eX0 (ad 1) (nI (g 5)) (nI (g 6)) (nI (g 7)) (nI (g 8)) (nI (g 9)), eX0 hc (nI (s 0)) (nI (s 1)) (nI (s 2)) (nI (s 3)) (nI (s 4))] 0 0 (fun rv rw_ => rv = some (.int (zb (¬ sz = 0))) ∧ rw_ = [eX1 h0 ha (nI (sz - 1)), eQ t ha 2 (fun j => some (ad j)), eX0 (ad 0) (nI (g 0)) (nI (g 1)) (nI (g 2)) (nI (g 3)) (nI (g 4)), eX0 (ad 1) (nI (g 5)) (nI (g 6)) (nI (g 7)) (nI (g 8)) (nI (g 9)), eX0 hc (nI (if sz = 0 then s 0 else g (5 * (sz - 1) + 0))) (nI (if sz = 0 then s 1 else g (5 * (sz - 1) + 1))) (nI (if sz = 0 then s 2 else g (5 * (sz - 1) + 2))) (nI (if sz = 0 then s 3 else g (5 * (sz - 1) + 3))) (nI (if sz = 0 then s 4 else g (5 * (sz - 1) + 4)))]) := by
  refine Ct.of (by decide) (Nat.le_of_ble_eq_true rfl) (fun k X hR => ?_)
  have X : zX D t k cX1_takeLast 2 RX1 "takeLast" rm_X1_takeLast2 lq := X
  refine z_eq (lv2 := [(0, .ref h0), (1, .ref hc)]) rfl rfl rfl ?_
  rcases (show sz = 0 ∨ sz = 1 ∨ sz = 2 by omega) with rfl | rfl | rfl
  · skip
    refine z_aload_n X (pc := 0) 0 dX1_takeLast_0 rfl ?_
    refine z_get X (pc := 1) 0 1 (.int (nI 0)) tu_1 tw_95 dX1_takeLast_1 rfl rfl (by decide) rfl rfl ?_
    refine z_iconst X (pc := 4) (nI 1) dX1_takeLast_4 (by decide) ?_
    refine z_aload_n X (pc := 5) 0 dX1_takeLast_5 rfl ?_
    refine z_get X (pc := 6) 0 0 (.ref ha) tu_1 tw_94 dX1_takeLast_6 rfl rfl (by decide) rfl rfl ?_
    refine z_alen_q X (pc := 9) 1 dX1_takeLast_9 rfl ?_
    refine zc_SN (as := [.int (nI 0), .int (nI 1), .int (nI 2)]) X (pc := 10) (c_X4_within lq D t (nI 0) (nI 1) (nI 2) ) tw_319 tw_182 tw_1 tw_181 [] rfl rfl dX1_takeLast_10 rfl zdX4_within ⟨rfl, rfl, Nat.le_of_ble_eq_true rfl, Nat.le_of_ble_eq_true rfl⟩ (Nat.le_of_ble_eq_true rfl) (Nat.zero_le _) (Nat.zero_le _) (fun v_1 w_2 hp_3 => ?_)
    obtain ⟨rfl, rfl⟩ := hp_3
    refine ⟨rfl, ?_⟩
    refine z_eq (ws2 := [eX1 h0 ha (nI 0), eQ t ha 2 (fun j => some (ad j)), eX0 (ad 0) (nI (g 0)) (nI (g 1)) (nI (g 2)) (nI (g 3)) (nI (g 4)), eX0 (ad 1) (nI (g 5)) (nI (g 6)) (nI (g 7)) (nI (g 8)) (nI (g 9)), eX0 hc (nI (s 0)) (nI (s 1)) (nI (s 2)) (nI (s 3)) (nI (s 4))]) (st2 := [.int (zb ((nI 1) ≤ (nI 0) ∧ (nI 0) ≤ (nI 2)))]) rfl rfl rfl ?_
    refine z_if_neB X (pc := 13) 18 dX1_takeLast_13 (by decide) (fun c_13 => absurd c_13 (by decide)) (fun c_13 => ?_)
    refine z_iconst X (pc := 16) (nI 0) dX1_takeLast_16 (by decide) ?_
    exact hR.z dX1_takeLast_17 rfl ⟨some_zb_f (by decide), rfl⟩
  · skip
    refine z_aload_n X (pc := 0) 0 dX1_takeLast_0 rfl ?_
    refine z_get X (pc := 1) 0 1 (.int (nI 1)) tu_1 tw_95 dX1_takeLast_1 rfl rfl (by decide) rfl rfl ?_
    refine z_iconst X (pc := 4) (nI 1) dX1_takeLast_4 (by decide) ?_
    refine z_aload_n X (pc := 5) 0 dX1_takeLast_5 rfl ?_
    refine z_get X (pc := 6) 0 0 (.ref ha) tu_1 tw_94 dX1_takeLast_6 rfl rfl (by decide) rfl rfl ?_
    refine z_alen_q X (pc := 9) 1 dX1_takeLast_9 rfl ?_
    refine zc_SN (as := [.int (nI 1), .int (nI 1), .int (nI 2)]) X (pc := 10) (c_X4_within lq D t (nI 1) (nI 1) (nI 2) ) tw_319 tw_182 tw_1 tw_181 [] rfl rfl dX1_takeLast_10 rfl zdX4_within ⟨rfl, rfl, Nat.le_of_ble_eq_true rfl, Nat.le_of_ble_eq_true rfl⟩ (Nat.le_of_ble_eq_true rfl) (Nat.zero_le _) (Nat.zero_le _) (fun v_4 w_5 hp_6 => ?_)
    obtain ⟨rfl, rfl⟩ := hp_6
    refine ⟨rfl, ?_⟩
    refine z_eq (ws2 := [eX1 h0 ha (nI 1), eQ t ha 2 (fun j => some (ad j)), eX0 (ad 0) (nI (g 0)) (nI (g 1)) (nI (g 2)) (nI (g 3)) (nI (g 4)), eX0 (ad 1) (nI (g 5)) (nI (g 6)) (nI (g 7)) (nI (g 8)) (nI (g 9)), eX0 hc (nI (s 0)) (nI (s 1)) (nI (s 2)) (nI (s 3)) (nI (s 4))]) (st2 := [.int (zb ((nI 1) ≤ (nI 1) ∧ (nI 1) ≤ (nI 2)))]) rfl rfl rfl ?_
    refine z_if_neB X (pc := 13) 18 dX1_takeLast_13 (by decide) (fun c_13 => ?_) (fun c_13 => absurd c_13 (by decide))
    refine z_aload_n X (pc := 18) 0 dX1_takeLast_18 rfl ?_
    refine z_dup X (pc := 19) dX1_takeLast_19 rfl ?_
    refine z_get X (pc := 20) 0 1 (.int (nI 1)) tu_1 tw_95 dX1_takeLast_20 rfl rfl (by decide) rfl rfl ?_
    refine z_iconst X (pc := 23) (nI 1) dX1_takeLast_23 (by decide) ?_
    refine z_isub X (pc := 24) (v := (nI 0)) dX1_takeLast_24 (pk_sub (by omega)) ?_
    refine z_put X (pc := 25) 0 1 [eX1 h0 ha (nI 0), eQ t ha 2 (fun j => some (ad j)), eX0 (ad 0) (nI (g 0)) (nI (g 1)) (nI (g 2)) (nI (g 3)) (nI (g 4)), eX0 (ad 1) (nI (g 5)) (nI (g 6)) (nI (g 7)) (nI (g 8)) (nI (g 9)), eX0 hc (nI (s 0)) (nI (s 1)) (nI (s 2)) (nI (s 3)) (nI (s 4))] tu_1 tyX1_ok nmX1 tw_95 dX1_takeLast_25 rfl rfl (by decide) rfl rfl rfl rfl (Nat.le_of_ble_eq_true rfl) rfl ?_
    refine z_aload_n X (pc := 28) 1 dX1_takeLast_28 rfl ?_
    refine z_aload_n X (pc := 29) 0 dX1_takeLast_29 rfl ?_
    refine z_get X (pc := 30) 0 0 (.ref ha) tu_1 tw_94 dX1_takeLast_30 rfl rfl (by decide) rfl rfl ?_
    refine z_aload_n X (pc := 33) 0 dX1_takeLast_33 rfl ?_
    refine z_get X (pc := 34) 0 1 (.int (nI 0)) tu_1 tw_95 dX1_takeLast_34 rfl rfl (by decide) rfl rfl ?_
    refine z_aald X (pc := 37) 1 0 (ad 0) dX1_takeLast_37 rfl rfl (Nat.le_of_ble_eq_true rfl) (by decide) rfl ?_
    refine zc_V (as := [.ref (ad 0)]) X (pc := 38) (c_X0_copyFrom lq D t hc (ad 0) (nI (s 0)) (nI (s 1)) (nI (s 2)) (nI (s 3)) (nI (s 4)) (nI (g 0)) (nI (g 1)) (nI (g 2)) (nI (g 3)) (nI (g 4)) ) tw_318 tw_270 tw_3 tw_268 tw_269 0 0 rfl rfl [4, 2] rfl rfl dX1_takeLast_38 rfl zdX0_copyFrom ⟨rfl, rfl, Nat.le_of_ble_eq_true rfl, Nat.le_of_ble_eq_true rfl⟩ (Nat.le_of_ble_eq_true rfl) (Nat.zero_le _) (Nat.zero_le _) (fun v_7 w_8 hp_9 => ?_)
    obtain ⟨rfl, rfl⟩ := hp_9
    refine ⟨rfl, ?_⟩
    refine z_eq (ws2 := [eX1 h0 ha (nI 0), eQ t ha 2 (fun j => some (ad j)), eX0 (ad 0) (nI (g 0)) (nI (g 1)) (nI (g 2)) (nI (g 3)) (nI (g 4)), eX0 (ad 1) (nI (g 5)) (nI (g 6)) (nI (g 7)) (nI (g 8)) (nI (g 9)), eX0 hc (nI (g 0)) (nI (g 1)) (nI (g 2)) (nI (g 3)) (nI (g 4))]) (st2 := []) rfl rfl rfl ?_
    refine z_iconst X (pc := 41) (nI 1) dX1_takeLast_41 (by decide) ?_
    exact hR.z dX1_takeLast_42 rfl ⟨some_zb_t (by decide), rfl⟩
  · skip
    refine z_aload_n X (pc := 0) 0 dX1_takeLast_0 rfl ?_
    refine z_get X (pc := 1) 0 1 (.int (nI 2)) tu_1 tw_95 dX1_takeLast_1 rfl rfl (by decide) rfl rfl ?_
    refine z_iconst X (pc := 4) (nI 1) dX1_takeLast_4 (by decide) ?_
    refine z_aload_n X (pc := 5) 0 dX1_takeLast_5 rfl ?_
    refine z_get X (pc := 6) 0 0 (.ref ha) tu_1 tw_94 dX1_takeLast_6 rfl rfl (by decide) rfl rfl ?_
    refine z_alen_q X (pc := 9) 1 dX1_takeLast_9 rfl ?_
    refine zc_SN (as := [.int (nI 2), .int (nI 1), .int (nI 2)]) X (pc := 10) (c_X4_within lq D t (nI 2) (nI 1) (nI 2) ) tw_319 tw_182 tw_1 tw_181 [] rfl rfl dX1_takeLast_10 rfl zdX4_within ⟨rfl, rfl, Nat.le_of_ble_eq_true rfl, Nat.le_of_ble_eq_true rfl⟩ (Nat.le_of_ble_eq_true rfl) (Nat.zero_le _) (Nat.zero_le _) (fun v_10 w_11 hp_12 => ?_)
    obtain ⟨rfl, rfl⟩ := hp_12
    refine ⟨rfl, ?_⟩
    refine z_eq (ws2 := [eX1 h0 ha (nI 2), eQ t ha 2 (fun j => some (ad j)), eX0 (ad 0) (nI (g 0)) (nI (g 1)) (nI (g 2)) (nI (g 3)) (nI (g 4)), eX0 (ad 1) (nI (g 5)) (nI (g 6)) (nI (g 7)) (nI (g 8)) (nI (g 9)), eX0 hc (nI (s 0)) (nI (s 1)) (nI (s 2)) (nI (s 3)) (nI (s 4))]) (st2 := [.int (zb ((nI 1) ≤ (nI 2) ∧ (nI 2) ≤ (nI 2)))]) rfl rfl rfl ?_
    refine z_if_neB X (pc := 13) 18 dX1_takeLast_13 (by decide) (fun c_13 => ?_) (fun c_13 => absurd c_13 (by decide))
    refine z_aload_n X (pc := 18) 0 dX1_takeLast_18 rfl ?_
    refine z_dup X (pc := 19) dX1_takeLast_19 rfl ?_
    refine z_get X (pc := 20) 0 1 (.int (nI 2)) tu_1 tw_95 dX1_takeLast_20 rfl rfl (by decide) rfl rfl ?_
    refine z_iconst X (pc := 23) (nI 1) dX1_takeLast_23 (by decide) ?_
    refine z_isub X (pc := 24) (v := (nI 1)) dX1_takeLast_24 (pk_sub (by omega)) ?_
    refine z_put X (pc := 25) 0 1 [eX1 h0 ha (nI 1), eQ t ha 2 (fun j => some (ad j)), eX0 (ad 0) (nI (g 0)) (nI (g 1)) (nI (g 2)) (nI (g 3)) (nI (g 4)), eX0 (ad 1) (nI (g 5)) (nI (g 6)) (nI (g 7)) (nI (g 8)) (nI (g 9)), eX0 hc (nI (s 0)) (nI (s 1)) (nI (s 2)) (nI (s 3)) (nI (s 4))] tu_1 tyX1_ok nmX1 tw_95 dX1_takeLast_25 rfl rfl (by decide) rfl rfl rfl rfl (Nat.le_of_ble_eq_true rfl) rfl ?_
    refine z_aload_n X (pc := 28) 1 dX1_takeLast_28 rfl ?_
    refine z_aload_n X (pc := 29) 0 dX1_takeLast_29 rfl ?_
    refine z_get X (pc := 30) 0 0 (.ref ha) tu_1 tw_94 dX1_takeLast_30 rfl rfl (by decide) rfl rfl ?_
    refine z_aload_n X (pc := 33) 0 dX1_takeLast_33 rfl ?_
    refine z_get X (pc := 34) 0 1 (.int (nI 1)) tu_1 tw_95 dX1_takeLast_34 rfl rfl (by decide) rfl rfl ?_
    refine z_aald X (pc := 37) 1 1 (ad 1) dX1_takeLast_37 rfl rfl (Nat.le_of_ble_eq_true rfl) (by decide) rfl ?_
    refine zc_V (as := [.ref (ad 1)]) X (pc := 38) (c_X0_copyFrom lq D t hc (ad 1) (nI (s 0)) (nI (s 1)) (nI (s 2)) (nI (s 3)) (nI (s 4)) (nI (g 5)) (nI (g 6)) (nI (g 7)) (nI (g 8)) (nI (g 9)) ) tw_318 tw_270 tw_3 tw_268 tw_269 0 0 rfl rfl [4, 3] rfl rfl dX1_takeLast_38 rfl zdX0_copyFrom ⟨rfl, rfl, Nat.le_of_ble_eq_true rfl, Nat.le_of_ble_eq_true rfl⟩ (Nat.le_of_ble_eq_true rfl) (Nat.zero_le _) (Nat.zero_le _) (fun v_13 w_14 hp_15 => ?_)
    obtain ⟨rfl, rfl⟩ := hp_15
    refine ⟨rfl, ?_⟩
    refine z_eq (ws2 := [eX1 h0 ha (nI 1), eQ t ha 2 (fun j => some (ad j)), eX0 (ad 0) (nI (g 0)) (nI (g 1)) (nI (g 2)) (nI (g 3)) (nI (g 4)), eX0 (ad 1) (nI (g 5)) (nI (g 6)) (nI (g 7)) (nI (g 8)) (nI (g 9)), eX0 hc (nI (g 5)) (nI (g 6)) (nI (g 7)) (nI (g 8)) (nI (g 9))]) (st2 := []) rfl rfl rfl ?_
    refine z_iconst X (pc := 41) (nI 1) dX1_takeLast_41 (by decide) ?_
    exact hR.z dX1_takeLast_42 rfl ⟨some_zb_t (by decide), rfl⟩
end
section
/-! PART 11: Walk's steps: the abstract scatter, wipeRow, addTo, endBy, follow, advanceOnce -/
abbrev wA : Type := (Nat → Nat) × (Nat → Nat) × Nat × Nat
/-- one reach of weight its to a side with 'ow' in it and 'ot' in the other: the next row, the rest's row, what has ended, what has ended on the left -/
def fol (en T sd ow ot its : Nat) (a : wA) : wA :=
  if ow ≤ en then (a.1, (if ot ≤ 10 then vup a.2.1 ot (a.2.1 ot + its * T) else a.2.1), a.2.2.1 + its * T, if sd = 0 then a.2.2.2 + its * T else a.2.2.2)
  else (vup a.1 ((if sd = 0 then ow - 1 else ot) * 3 + sd) (a.1 ((if sd = 0 then ow - 1 else ot) * 3 + sd) + its), a.2)
/-- one cell of the row -/
def cel (kd x en T m : Nat) (w : Nat → Nat) (l la : Nat) (a : wA) : wA :=
  if w (l * 3 + la) = 0 then a else
    fol en T 1 (m - l) l (w (l * 3 + la) * (4 - htl kd x l (m - l) la)) (fol en T 0 l (m - l) (w (l * 3 + la) * htl kd x l (m - l) la) a)
def cin (kd x en T m : Nat) (w : Nat → Nat) (l : Nat) : Nat → wA → wA
  | 0, a => a
  | j + 1, a => cel kd x en T m w l j (cin kd x en T m w l j a)
def cou (kd x en T m : Nat) (w : Nat → Nat) : Nat → wA → wA
  | 0, a => a
  | l + 1, a => cin kd x en T m w l 3 (cou kd x en T m w l a)
theorem fol_nx (en P sd ow ot its : Nat) (a : wA) : (if ow ≤ en then (fun j => a.1 j * P) else vup (fun j => a.1 j * P) ((if sd = 0 then ow - 1 else ot) * 3 + sd) ((fun j => a.1 j * P) ((if sd = 0 then ow - 1 else ot) * 3 + sd) + its * P)) = fun j => (fol en P sd ow ot its a).1 j * P := by
  unfold fol
  by_cases h : ow ≤ en
  · simp [h]
  · simp only [h, if_false]
    funext j
    by_cases hj : j = (if sd = 0 then ow - 1 else ot) * 3 + sd
    · simp [vup, hj, Nat.add_mul]
    · simp [vup, hj]
theorem fol_os (en P sd ow ot its : Nat) (a : wA) : (if ow ≤ en then (if ot ≤ 10 then vup a.2.1 ot (a.2.1 ot + its * P) else a.2.1) else a.2.1) = (fol en P sd ow ot its a).2.1 := by
  unfold fol
  by_cases h : ow ≤ en <;> simp [h]
theorem lN_sub2 (a e c : Nat) : lN a - lN e - lN c = lN a - lN (e + c) := by
  rw [← lN_add]
  simp only [Int64.sub_eq_add_neg, Int64.neg_add, Int64.add_assoc]
theorem fol_so (en P sd ow ot its : Nat) (a : wA) : (if ow ≤ en then lN 4398046511104 - lN a.2.2.1 - lN (its * P) else lN 4398046511104 - lN a.2.2.1) = lN 4398046511104 - lN (fol en P sd ow ot its a).2.2.1 := by
  unfold fol
  by_cases h : ow ≤ en
  · simp only [h, if_true]; exact lN_sub2 _ _ _
  · simp [h]
theorem fol_el (en P sd ow ot its : Nat) (a : wA) : (if ow ≤ en then (if sd = 0 then a.2.2.2 + its * P else a.2.2.2) else a.2.2.2) = (fol en P sd ow ot its a).2.2.2 := by
  unfold fol
  by_cases h : ow ≤ en <;> simp [h]
theorem mz {w P : Nat} (hP : 0 < P) (h : w * (4 * P) ≤ 0) : w = 0 := by
  rcases Nat.eq_zero_or_pos w with q | q
  · exact q
  · have := Nat.mul_pos q (show 0 < 4 * P by omega)
    omega
theorem md4 (w P : Nat) : w * (4 * P) / 4 = w * P := by
  rw [Nat.mul_left_comm, Nat.mul_div_cancel_left _ (by decide)]
abbrev rm_X3_wipeRow : Room := { frames := 0, cells := 0, slots := 0, locals := 0 }
set_option maxHeartbeats 4000000 in
set_option maxRecDepth 100000 in
theorem c_X3_wipeRow (lq : Launch) (D : va_G) (t : zT) (a n : Nat) (f : Nat → Int64) (hn : n < 100) : Ct lq D t yX3_wipeRow cX3_wipeRow 2 none rm_X3_wipeRow [.ref a] [eL t a n f] 0 0 (fun rv rw_ => rv = none ∧ rw_ = [eL t a n (lf (fun _ => 0))]) := by
  refine Ct.of (by decide) (Nat.le_of_ble_eq_true rfl) (fun k X hR => ?_)
  have X : zX D t k cX3_wipeRow 2 RX3 "wipeRow" rm_X3_wipeRow lq := X
  refine z_eq (lv2 := [(0, .ref a)]) rfl rfl rfl ?_
  refine z_iconst X (pc := 0) (nI 0) dX3_wipeRow_0 (by decide) ?_
  refine z_istore_n X (pc := 1) (i := 1) [(1, .int (nI 0)), (0, .ref a)] dX3_wipeRow_1 rfl (by decide) rfl ?_
  have loop_2 : ∀ (fuel_2 : Nat) (i : Nat), n < i + fuel_2 → (i ≤ n) → Z D k (0, 0) [eL t a n (fun j => if j < i then lN 0 else f j)] 2 [(0, .ref a), (1, .int (nI i))] [] := by
    intro fuel_2
    induction fuel_2 with
    | zero =>
      intro i hfuel_2 hi
      exfalso; omega
    | succ fuel_2 ih_2 =>
      intro i hfuel_2 hi
      refine z_iload_n X (pc := 2) 1 dX3_wipeRow_2 rfl ?_
      refine z_aload_n X (pc := 3) 0 dX3_wipeRow_3 rfl ?_
      refine z_alen_l X (pc := 4) 0 dX3_wipeRow_4 rfl ?_
      refine z_icmp_geN X (pc := 5) 18 (by omega) (by omega) dX3_wipeRow_5 (by decide) (fun c_5 => ?_) (fun c_5 => ?_)
      · skip
        refine z_lrow 0 (lf (fun _ => 0)) [eL t a n (lf (fun _ => 0))] rfl (fun j hj => by simp [show j < i by omega]) rfl ?_
        exact hR.v dX3_wipeRow_18 ⟨rfl, rfl⟩
      · skip
        refine z_aload_n X (pc := 8) 0 dX3_wipeRow_8 rfl ?_
        refine z_iload_n X (pc := 9) 1 dX3_wipeRow_9 rfl ?_
        refine z_lconst X (pc := 10) (lN 0) dX3_wipeRow_10 (by decide) ?_
        refine z_last X (pc := 11) 0 i (fun j => if j < i + 1 then lN 0 else f j) [eL t a n (fun j => if j < i + 1 then lN 0 else f j)] dX3_wipeRow_11 rfl rfl (by omega) (by omega) (by funext j; simp only [vp_updL]; (repeat' split) <;> first | rfl | (exfalso; omega)) rfl ?_
        refine z_iinc X (pc := 12) (i := 1) 1 (nI (i + 1)) [(1, .int (nI (i + 1))), (0, .ref a)] dX3_wipeRow_12 rfl (nI_incc i 1) (by decide) rfl ?_
        refine z_goto X (pc := 15) 2 dX3_wipeRow_15 (by decide) ?_
        refine z_lv [1, 0] (lv2 := [(0, .ref a), (1, .int (nI (i + 1)))]) rfl ?_
        exact ih_2 (i + 1) (by omega) (by omega)
  refine z_eq (ws2 := [eL t a n (fun j => if j < 0 then lN 0 else f j)]) (by simp) rfl rfl ?_
  refine z_lv [1, 0] (lv2 := [(0, .ref a), (1, .int (nI 0))]) rfl ?_
  exact loop_2 (n + 1) 0 (by omega) (by omega)

abbrev rm_X3_addTo : Room := { frames := 0, cells := 0, slots := 0, locals := 0 }
set_option maxHeartbeats 4000000 in
set_option maxRecDepth 100000 in
theorem c_X3_addTo (lq : Launch) (D : va_G) (t : zT) (a n l la ch : Nat) (g : Nat → Nat) (hn : n < 100) (hc : l * 3 + la < n) : Ct lq D t yX3_addTo cX3_addTo 6 none rm_X3_addTo [.ref a, .int (nI l), .int (nI la), .long (lN ch)] [eL t a n (lf g)] 0 0 (fun rv rw_ => rv = none ∧ rw_ = [eL t a n (lf (vup g (l * 3 + la) (g (l * 3 + la) + ch)))]) := by
  refine Ct.of (by decide) (Nat.le_of_ble_eq_true rfl) (fun k X hR => ?_)
  have X : zX D t k cX3_addTo 6 RX3 "addTo" rm_X3_addTo lq := X
  refine z_eq (lv2 := [(0, .ref a), (1, .int (nI l)), (2, .int (nI la)), (3, .long (lN ch))]) rfl rfl rfl ?_
  refine z_iload_n X (pc := 0) 1 dX3_addTo_0 rfl ?_
  refine z_iconst X (pc := 1) (nI 3) dX3_addTo_1 (by decide) ?_
  refine z_imul X (pc := 2) (v := (nI (l * 3))) dX3_addTo_2 (pk_mul _ _) ?_
  refine z_iload_n X (pc := 3) 2 dX3_addTo_3 rfl ?_
  refine z_iadd X (pc := 4) (v := (nI (l * 3 + la))) dX3_addTo_4 (nI_add (l * 3) la) ?_
  refine z_istore X (pc := 5) (i := 5) [(5, .int (nI (l * 3 + la))), (0, .ref a), (1, .int (nI l)), (2, .int (nI la)), (3, .long (lN ch))] dX3_addTo_5 trivial (by decide) rfl ?_
  refine z_iload X (pc := 7) 0 dX3_addTo_7 rfl ?_
  refine z_if_ltN X (pc := 9) 27 (by omega) dX3_addTo_9 (by decide) ?_
  refine z_iload X (pc := 12) 0 dX3_addTo_12 rfl ?_
  refine z_aload_n X (pc := 14) 1 dX3_addTo_14 rfl ?_
  refine z_alen_l X (pc := 15) 0 dX3_addTo_15 rfl ?_
  refine z_icmp_geN X (pc := 16) 27 (by omega) (by omega) dX3_addTo_16 (by decide) (fun c_16 => absurd c_16 (by omega)) (fun c_16 => ?_)
  refine z_aload_n X (pc := 19) 1 dX3_addTo_19 rfl ?_
  refine z_iload X (pc := 20) 0 dX3_addTo_20 rfl ?_
  refine z_dup2_11 X (pc := 22) dX3_addTo_22 rfl rfl ?_
  refine z_lald X (pc := 23) 0 (l * 3 + la) (lN (g (l * 3 + la))) dX3_addTo_23 rfl rfl (by omega) (by omega) rfl ?_
  refine z_lload_n X (pc := 24) 4 dX3_addTo_24 rfl ?_
  refine z_ladd X (pc := 25) (v := (lN (g (l * 3 + la) + ch))) dX3_addTo_25 (lN_add (g (l * 3 + la)) ch) ?_
  refine z_last X (pc := 26) 0 (l * 3 + la) (lf (vup g (l * 3 + la) (g (l * 3 + la) + ch))) [eL t a n (lf (vup g (l * 3 + la) (g (l * 3 + la) + ch)))] dX3_addTo_26 rfl rfl (by omega) (by omega) (updL_lf _ _ _) rfl ?_
  exact hR.v dX3_addTo_27 ⟨rfl, rfl⟩

abbrev rm_X3_endBy : Room := { frames := 0, cells := 0, slots := 0, locals := 0 }
set_option maxHeartbeats 4000000 in
set_option maxRecDepth 100000 in
theorem c_X3_endBy (lq : Launch) (D : va_G) (t : zT) (h0 hr hn ho en kd x : Nat) (mt : Int32) (so : Int64) (el : Nat) (os : Nat → Nat) (sd ot ch : Nat) (hsd : sd ≤ 1) (hot : ot < 100) : Ct lq D t yX3_endBy cX3_endBy 5 none rm_X3_endBy [.ref h0, .int (nI sd), .int (nI ot), .long (lN ch)] [eX3 h0 hr hn ho (nI en) (nI kd) (nI x) mt so (lN el), eL t ho 11 (lf os)] 0 0 (fun rv rw_ => rv = none ∧ rw_ = [eX3 h0 hr hn ho (nI en) (nI kd) (nI x) mt (so - lN ch) (lN (if sd = 0 then el + ch else el)), eL t ho 11 (lf (if ot ≤ 10 then vup os ot (os ot + ch) else os))]) := by
  refine Ct.of (by decide) (Nat.le_of_ble_eq_true rfl) (fun k X hR => ?_)
  have X : zX D t k cX3_endBy 5 RX3 "endBy" rm_X3_endBy lq := X
  refine z_eq (lv2 := [(0, .ref h0), (1, .int (nI sd)), (2, .int (nI ot)), (3, .long (lN ch))]) rfl rfl rfl ?_
  refine z_aload_n X (pc := 0) 0 dX3_endBy_0 rfl ?_
  refine z_dup X (pc := 1) dX3_endBy_1 rfl ?_
  refine z_get X (pc := 2) 0 7 (.long so) tu_3 tw_114 dX3_endBy_2 rfl rfl (by decide) rfl rfl ?_
  refine z_lload_n X (pc := 5) 3 dX3_endBy_5 rfl ?_
  refine z_lsub X (pc := 6) (v := (so - (lN ch))) dX3_endBy_6 rfl ?_
  refine z_put X (pc := 7) 0 7 [eX3 h0 hr hn ho (nI en) (nI kd) (nI x) mt (so - (lN ch)) (lN el), eL t ho 11 (lf os)] tu_3 tyX3_ok nmX3 tw_114 dX3_endBy_7 rfl rfl (by decide) rfl rfl rfl rfl (Nat.le_of_ble_eq_true rfl) rfl ?_
  refine z_iload_n X (pc := 10) 1 dX3_endBy_10 rfl ?_
  refine z_if_neN X (pc := 11) 24 (by omega) dX3_endBy_11 (by decide) (fun c_11 => ?_) (fun c_11 => ?_)
  · skip
    refine z_iload_n X (pc := 24) 2 dX3_endBy_24 rfl ?_
    refine z_if_ltN X (pc := 25) 47 (by omega) dX3_endBy_25 (by decide) ?_
    refine z_iload_n X (pc := 28) 2 dX3_endBy_28 rfl ?_
    refine z_aload_n X (pc := 29) 0 dX3_endBy_29 rfl ?_
    refine z_get X (pc := 30) 0 2 (.ref ho) tu_3 tw_109 dX3_endBy_30 rfl rfl (by decide) rfl rfl ?_
    refine z_alen_l X (pc := 33) 1 dX3_endBy_33 rfl ?_
    refine z_icmp_geN X (pc := 34) 47 (by omega) (by omega) dX3_endBy_34 (by decide) (fun c_34 => ?_) (fun c_34 => ?_)
    · skip
      exact hR.v dX3_endBy_47 ⟨rfl, by rw [if_neg c_11, if_neg (by omega)]⟩
    · skip
      refine z_aload_n X (pc := 37) 0 dX3_endBy_37 rfl ?_
      refine z_get X (pc := 38) 0 2 (.ref ho) tu_3 tw_109 dX3_endBy_38 rfl rfl (by decide) rfl rfl ?_
      refine z_iload_n X (pc := 41) 2 dX3_endBy_41 rfl ?_
      refine z_dup2_11 X (pc := 42) dX3_endBy_42 rfl rfl ?_
      refine z_lald X (pc := 43) 1 ot (lN (os ot)) dX3_endBy_43 rfl rfl (Nat.le_of_ble_eq_true rfl) (by omega) rfl ?_
      refine z_lload_n X (pc := 44) 3 dX3_endBy_44 rfl ?_
      refine z_ladd X (pc := 45) (v := (lN (os ot + ch))) dX3_endBy_45 (lN_add (os ot) ch) ?_
      refine z_last X (pc := 46) 1 ot (lf (vup os ot (os ot + ch))) [eX3 h0 hr hn ho (nI en) (nI kd) (nI x) mt (so - (lN ch)) (lN el), eL t ho 11 (lf (vup os ot (os ot + ch)))] dX3_endBy_46 rfl rfl (Nat.le_of_ble_eq_true rfl) (by omega) (updL_lf _ _ _) rfl ?_
      exact hR.v dX3_endBy_47 ⟨rfl, by rw [if_neg c_11, if_pos (by omega)]⟩
  · skip
    refine z_aload_n X (pc := 14) 0 dX3_endBy_14 rfl ?_
    refine z_dup X (pc := 15) dX3_endBy_15 rfl ?_
    refine z_get X (pc := 16) 0 8 (.long (lN el)) tu_3 tw_115 dX3_endBy_16 rfl rfl (by decide) rfl rfl ?_
    refine z_lload_n X (pc := 19) 3 dX3_endBy_19 rfl ?_
    refine z_ladd X (pc := 20) (v := (lN (el + ch))) dX3_endBy_20 (lN_add el ch) ?_
    refine z_put X (pc := 21) 0 8 [eX3 h0 hr hn ho (nI en) (nI kd) (nI x) mt (so - (lN ch)) (lN (el + ch)), eL t ho 11 (lf os)] tu_3 tyX3_ok nmX3 tw_115 dX3_endBy_21 rfl rfl (by decide) rfl rfl rfl rfl (Nat.le_of_ble_eq_true rfl) rfl ?_
    refine z_iload_n X (pc := 24) 2 dX3_endBy_24 rfl ?_
    refine z_if_ltN X (pc := 25) 47 (by omega) dX3_endBy_25 (by decide) ?_
    refine z_iload_n X (pc := 28) 2 dX3_endBy_28 rfl ?_
    refine z_aload_n X (pc := 29) 0 dX3_endBy_29 rfl ?_
    refine z_get X (pc := 30) 0 2 (.ref ho) tu_3 tw_109 dX3_endBy_30 rfl rfl (by decide) rfl rfl ?_
    refine z_alen_l X (pc := 33) 1 dX3_endBy_33 rfl ?_
    refine z_icmp_geN X (pc := 34) 47 (by omega) (by omega) dX3_endBy_34 (by decide) (fun c_34 => ?_) (fun c_34 => ?_)
    · skip
      exact hR.v dX3_endBy_47 ⟨rfl, by rw [if_pos c_11, if_neg (by omega)]⟩
    · skip
      refine z_aload_n X (pc := 37) 0 dX3_endBy_37 rfl ?_
      refine z_get X (pc := 38) 0 2 (.ref ho) tu_3 tw_109 dX3_endBy_38 rfl rfl (by decide) rfl rfl ?_
      refine z_iload_n X (pc := 41) 2 dX3_endBy_41 rfl ?_
      refine z_dup2_11 X (pc := 42) dX3_endBy_42 rfl rfl ?_
      refine z_lald X (pc := 43) 1 ot (lN (os ot)) dX3_endBy_43 rfl rfl (Nat.le_of_ble_eq_true rfl) (by omega) rfl ?_
      refine z_lload_n X (pc := 44) 3 dX3_endBy_44 rfl ?_
      refine z_ladd X (pc := 45) (v := (lN (os ot + ch))) dX3_endBy_45 (lN_add (os ot) ch) ?_
      refine z_last X (pc := 46) 1 ot (lf (vup os ot (os ot + ch))) [eX3 h0 hr hn ho (nI en) (nI kd) (nI x) mt (so - (lN ch)) (lN (el + ch)), eL t ho 11 (lf (vup os ot (os ot + ch)))] dX3_endBy_46 rfl rfl (Nat.le_of_ble_eq_true rfl) (by omega) (updL_lf _ _ _) rfl ?_
      exact hR.v dX3_endBy_47 ⟨rfl, by rw [if_pos c_11, if_pos (by omega)]⟩

abbrev rm_X3_follow : Room := { frames := 1, cells := 0, slots := 0, locals := 25 }
set_option maxHeartbeats 4000000 in
set_option maxRecDepth 100000 in
theorem c_X3_follow (lq : Launch) (D : va_G) (t : zT) (h0 hr hn ho en kd x : Nat) (mt : Int32) (so : Int64) (el : Nat) (os g : Nat → Nat) (sd ow ot ch : Nat) (hen : en ≤ 1) (hsd : sd ≤ 1) (how : ow < 100) (hot : ot < 100) (hci : ¬ ow ≤ en → (if sd = 0 then ow - 1 else ot) * 3 + sd < 33) : Ct lq D t yX3_follow cX3_follow 7 none rm_X3_follow [.ref h0, .int (nI sd), .int (nI ow), .int (nI ot), .long (lN ch)] [eX3 h0 hr hn ho (nI en) (nI kd) (nI x) mt so (lN el), eL t hn 33 (lf g), eL t ho 11 (lf os)] 0 0 (fun rv rw_ => rv = none ∧ rw_ = [eX3 h0 hr hn ho (nI en) (nI kd) (nI x) mt (if ow ≤ en then so - lN ch else so) (lN (if ow ≤ en then (if sd = 0 then el + ch else el) else el)), eL t hn 33 (lf (if ow ≤ en then g else vup g ((if sd = 0 then ow - 1 else ot) * 3 + sd) (g ((if sd = 0 then ow - 1 else ot) * 3 + sd) + ch))), eL t ho 11 (lf (if ow ≤ en then (if ot ≤ 10 then vup os ot (os ot + ch) else os) else os))]) := by
  refine Ct.of (by decide) (Nat.le_of_ble_eq_true rfl) (fun k X hR => ?_)
  have X : zX D t k cX3_follow 7 RX3 "follow" rm_X3_follow lq := X
  refine z_eq (lv2 := [(0, .ref h0), (1, .int (nI sd)), (2, .int (nI ow)), (3, .int (nI ot)), (4, .long (lN ch))]) rfl rfl rfl ?_
  rcases (show en = 0 ∨ en = 1 by omega) with rfl | rfl
  · skip
    refine z_aload_n X (pc := 0) 0 dX3_follow_0 rfl ?_
    refine z_get X (pc := 1) 0 3 (.int (nI 0)) tu_3 tw_110 dX3_follow_1 rfl rfl (by decide) rfl rfl ?_
    refine z_iconst X (pc := 4) (nI 1) dX3_follow_4 (by decide) ?_
    refine z_icmp_neN X (pc := 5) 12 (by omega) (by omega) dX3_follow_5 (by decide) (fun c_5 => ?_) (fun c_5 => absurd c_5 (by decide))
    refine z_iconst X (pc := 12) (nI 0) dX3_follow_12 (by decide) ?_
    refine z_istore X (pc := 13) (i := 6) [(6, .int (nI 0)), (0, .ref h0), (1, .int (nI sd)), (2, .int (nI ow)), (3, .int (nI ot)), (4, .long (lN ch))] dX3_follow_13 trivial (by decide) rfl ?_
    refine z_iload_n X (pc := 15) 3 dX3_follow_15 rfl ?_
    refine z_iload X (pc := 16) 0 dX3_follow_16 rfl ?_
    refine z_icmp_gtN X (pc := 18) 32 (by omega) (by omega) dX3_follow_18 (by decide) (fun c_18 => ?_) (fun c_18 => ?_)
    · skip
      refine z_aload_n X (pc := 32) 1 dX3_follow_32 rfl ?_
      refine z_get X (pc := 33) 0 1 (.ref hn) tu_3 tw_108 dX3_follow_33 rfl rfl (by decide) rfl rfl ?_
      refine z_iload_n X (pc := 36) 2 dX3_follow_36 rfl ?_
      refine z_if_neN X (pc := 37) 46 (by omega) dX3_follow_37 (by decide) (fun c_37 => ?_) (fun c_37 => ?_)
      · skip
        refine z_iload_n X (pc := 46) 4 dX3_follow_46 rfl ?_
        refine z_iload_n X (pc := 47) 2 dX3_follow_47 rfl ?_
        refine z_lload X (pc := 48) 5 dX3_follow_48 rfl ?_
        refine zc_S (as := [.ref hn, .int (nI ot), .int (nI sd), .long (lN ch)]) X (pc := 50) (c_X3_addTo lq D t hn 33 ot sd ch g (by decide) (by have h9 := hci (by omega); split at h9 <;> omega)) tw_386 tw_388 tw_6 tw_387 [1] rfl rfl dX3_follow_50 rfl zdX3_addTo ⟨rfl, rfl, Nat.le_of_ble_eq_true rfl, Nat.le_of_ble_eq_true rfl⟩ (Nat.le_of_ble_eq_true rfl) (Nat.zero_le _) (Nat.zero_le _) (fun v_1 w_2 hp_3 => ?_)
        obtain ⟨rfl, rfl⟩ := hp_3
        refine ⟨rfl, ?_⟩
        refine z_eq (ws2 := [eX3 h0 hr hn ho (nI 0) (nI kd) (nI x) mt so (lN el), eL t hn 33 (lf (vup g (ot * 3 + sd) (g (ot * 3 + sd) + ch))), eL t ho 11 (lf os)]) (st2 := []) rfl rfl rfl ?_
        exact hR.v dX3_follow_53 ⟨rfl, by simp only [if_neg (show ¬ ow ≤ 0 by omega), if_neg c_37]⟩
      · skip
        refine z_iload_n X (pc := 40) 3 dX3_follow_40 rfl ?_
        refine z_iconst X (pc := 41) (nI 1) dX3_follow_41 (by decide) ?_
        refine z_isub X (pc := 42) (v := (nI (ow - 1))) dX3_follow_42 (pk_sub (by omega)) ?_
        refine z_goto X (pc := 43) 47 dX3_follow_43 (by decide) ?_
        refine z_iload_n X (pc := 47) 2 dX3_follow_47 rfl ?_
        refine z_lload X (pc := 48) 5 dX3_follow_48 rfl ?_
        refine zc_S (as := [.ref hn, .int (nI (ow - 1)), .int (nI sd), .long (lN ch)]) X (pc := 50) (c_X3_addTo lq D t hn 33 (ow - 1) sd ch g (by decide) (by have h9 := hci (by omega); split at h9 <;> omega)) tw_386 tw_388 tw_6 tw_387 [1] rfl rfl dX3_follow_50 rfl zdX3_addTo ⟨rfl, rfl, Nat.le_of_ble_eq_true rfl, Nat.le_of_ble_eq_true rfl⟩ (Nat.le_of_ble_eq_true rfl) (Nat.zero_le _) (Nat.zero_le _) (fun v_4 w_5 hp_6 => ?_)
        obtain ⟨rfl, rfl⟩ := hp_6
        refine ⟨rfl, ?_⟩
        refine z_eq (ws2 := [eX3 h0 hr hn ho (nI 0) (nI kd) (nI x) mt so (lN el), eL t hn 33 (lf (vup g ((ow - 1) * 3 + sd) (g ((ow - 1) * 3 + sd) + ch))), eL t ho 11 (lf os)]) (st2 := []) rfl rfl rfl ?_
        exact hR.v dX3_follow_53 ⟨rfl, by simp only [if_neg (show ¬ ow ≤ 0 by omega), if_pos c_37]⟩
    · skip
      refine z_aload_n X (pc := 21) 1 dX3_follow_21 rfl ?_
      refine z_iload_n X (pc := 22) 2 dX3_follow_22 rfl ?_
      refine z_iload_n X (pc := 23) 4 dX3_follow_23 rfl ?_
      refine z_lload X (pc := 24) 5 dX3_follow_24 rfl ?_
      refine zc_V (as := [.int (nI sd), .int (nI ot), .long (lN ch)]) X (pc := 26) (c_X3_endBy lq D t h0 hr hn ho 0 kd x mt so el os sd ot ch (by omega) (by omega)) tw_382 tw_385 tw_6 tw_384 tw_1014 0 3 rfl rfl [0, 2] rfl rfl dX3_follow_26 rfl zdX3_endBy ⟨rfl, rfl, Nat.le_of_ble_eq_true rfl, Nat.le_of_ble_eq_true rfl⟩ (Nat.le_of_ble_eq_true rfl) (Nat.zero_le _) (Nat.zero_le _) (fun v_7 w_8 hp_9 => ?_)
      obtain ⟨rfl, rfl⟩ := hp_9
      refine ⟨rfl, ?_⟩
      refine z_eq (ws2 := [eX3 h0 hr hn ho (nI 0) (nI kd) (nI x) mt (so - lN ch) (lN (if sd = 0 then el + ch else el)), eL t hn 33 (lf g), eL t ho 11 (lf (if ot ≤ 10 then vup os ot (os ot + ch) else os))]) (st2 := []) rfl rfl rfl ?_
      refine z_goto X (pc := 29) 53 dX3_follow_29 (by decide) ?_
      exact hR.v dX3_follow_53 ⟨rfl, by simp only [if_pos (show ow ≤ 0 by omega)]⟩
  · skip
    refine z_aload_n X (pc := 0) 0 dX3_follow_0 rfl ?_
    refine z_get X (pc := 1) 0 3 (.int (nI 1)) tu_3 tw_110 dX3_follow_1 rfl rfl (by decide) rfl rfl ?_
    refine z_iconst X (pc := 4) (nI 1) dX3_follow_4 (by decide) ?_
    refine z_icmp_neN X (pc := 5) 12 (by omega) (by omega) dX3_follow_5 (by decide) (fun c_5 => absurd c_5 (by decide)) (fun c_5 => ?_)
    refine z_iconst X (pc := 8) (nI 1) dX3_follow_8 (by decide) ?_
    refine z_goto X (pc := 9) 13 dX3_follow_9 (by decide) ?_
    refine z_istore X (pc := 13) (i := 6) [(6, .int (nI 1)), (0, .ref h0), (1, .int (nI sd)), (2, .int (nI ow)), (3, .int (nI ot)), (4, .long (lN ch))] dX3_follow_13 trivial (by decide) rfl ?_
    refine z_iload_n X (pc := 15) 3 dX3_follow_15 rfl ?_
    refine z_iload X (pc := 16) 0 dX3_follow_16 rfl ?_
    refine z_icmp_gtN X (pc := 18) 32 (by omega) (by omega) dX3_follow_18 (by decide) (fun c_18 => ?_) (fun c_18 => ?_)
    · skip
      refine z_aload_n X (pc := 32) 1 dX3_follow_32 rfl ?_
      refine z_get X (pc := 33) 0 1 (.ref hn) tu_3 tw_108 dX3_follow_33 rfl rfl (by decide) rfl rfl ?_
      refine z_iload_n X (pc := 36) 2 dX3_follow_36 rfl ?_
      refine z_if_neN X (pc := 37) 46 (by omega) dX3_follow_37 (by decide) (fun c_37 => ?_) (fun c_37 => ?_)
      · skip
        refine z_iload_n X (pc := 46) 4 dX3_follow_46 rfl ?_
        refine z_iload_n X (pc := 47) 2 dX3_follow_47 rfl ?_
        refine z_lload X (pc := 48) 5 dX3_follow_48 rfl ?_
        refine zc_S (as := [.ref hn, .int (nI ot), .int (nI sd), .long (lN ch)]) X (pc := 50) (c_X3_addTo lq D t hn 33 ot sd ch g (by decide) (by have h9 := hci (by omega); split at h9 <;> omega)) tw_386 tw_388 tw_6 tw_387 [1] rfl rfl dX3_follow_50 rfl zdX3_addTo ⟨rfl, rfl, Nat.le_of_ble_eq_true rfl, Nat.le_of_ble_eq_true rfl⟩ (Nat.le_of_ble_eq_true rfl) (Nat.zero_le _) (Nat.zero_le _) (fun v_10 w_11 hp_12 => ?_)
        obtain ⟨rfl, rfl⟩ := hp_12
        refine ⟨rfl, ?_⟩
        refine z_eq (ws2 := [eX3 h0 hr hn ho (nI 1) (nI kd) (nI x) mt so (lN el), eL t hn 33 (lf (vup g (ot * 3 + sd) (g (ot * 3 + sd) + ch))), eL t ho 11 (lf os)]) (st2 := []) rfl rfl rfl ?_
        exact hR.v dX3_follow_53 ⟨rfl, by simp only [if_neg (show ¬ ow ≤ 1 by omega), if_neg c_37]⟩
      · skip
        refine z_iload_n X (pc := 40) 3 dX3_follow_40 rfl ?_
        refine z_iconst X (pc := 41) (nI 1) dX3_follow_41 (by decide) ?_
        refine z_isub X (pc := 42) (v := (nI (ow - 1))) dX3_follow_42 (pk_sub (by omega)) ?_
        refine z_goto X (pc := 43) 47 dX3_follow_43 (by decide) ?_
        refine z_iload_n X (pc := 47) 2 dX3_follow_47 rfl ?_
        refine z_lload X (pc := 48) 5 dX3_follow_48 rfl ?_
        refine zc_S (as := [.ref hn, .int (nI (ow - 1)), .int (nI sd), .long (lN ch)]) X (pc := 50) (c_X3_addTo lq D t hn 33 (ow - 1) sd ch g (by decide) (by have h9 := hci (by omega); split at h9 <;> omega)) tw_386 tw_388 tw_6 tw_387 [1] rfl rfl dX3_follow_50 rfl zdX3_addTo ⟨rfl, rfl, Nat.le_of_ble_eq_true rfl, Nat.le_of_ble_eq_true rfl⟩ (Nat.le_of_ble_eq_true rfl) (Nat.zero_le _) (Nat.zero_le _) (fun v_13 w_14 hp_15 => ?_)
        obtain ⟨rfl, rfl⟩ := hp_15
        refine ⟨rfl, ?_⟩
        refine z_eq (ws2 := [eX3 h0 hr hn ho (nI 1) (nI kd) (nI x) mt so (lN el), eL t hn 33 (lf (vup g ((ow - 1) * 3 + sd) (g ((ow - 1) * 3 + sd) + ch))), eL t ho 11 (lf os)]) (st2 := []) rfl rfl rfl ?_
        exact hR.v dX3_follow_53 ⟨rfl, by simp only [if_neg (show ¬ ow ≤ 1 by omega), if_pos c_37]⟩
    · skip
      refine z_aload_n X (pc := 21) 1 dX3_follow_21 rfl ?_
      refine z_iload_n X (pc := 22) 2 dX3_follow_22 rfl ?_
      refine z_iload_n X (pc := 23) 4 dX3_follow_23 rfl ?_
      refine z_lload X (pc := 24) 5 dX3_follow_24 rfl ?_
      refine zc_V (as := [.int (nI sd), .int (nI ot), .long (lN ch)]) X (pc := 26) (c_X3_endBy lq D t h0 hr hn ho 1 kd x mt so el os sd ot ch (by omega) (by omega)) tw_382 tw_385 tw_6 tw_384 tw_1014 0 3 rfl rfl [0, 2] rfl rfl dX3_follow_26 rfl zdX3_endBy ⟨rfl, rfl, Nat.le_of_ble_eq_true rfl, Nat.le_of_ble_eq_true rfl⟩ (Nat.le_of_ble_eq_true rfl) (Nat.zero_le _) (Nat.zero_le _) (fun v_16 w_17 hp_18 => ?_)
      obtain ⟨rfl, rfl⟩ := hp_18
      refine ⟨rfl, ?_⟩
      refine z_eq (ws2 := [eX3 h0 hr hn ho (nI 1) (nI kd) (nI x) mt (so - lN ch) (lN (if sd = 0 then el + ch else el)), eL t hn 33 (lf g), eL t ho 11 (lf (if ot ≤ 10 then vup os ot (os ot + ch) else os))]) (st2 := []) rfl rfl rfl ?_
      refine z_goto X (pc := 29) 53 dX3_follow_29 (by decide) ?_
      exact hR.v dX3_follow_53 ⟨rfl, by simp only [if_pos (show ow ≤ 1 by omega)]⟩

abbrev rm_X3_advanceOnce : Room := { frames := 2, cells := 0, slots := 0, locals := 51 }
set_option maxHeartbeats 4000000 in
set_option maxRecDepth 100000 in
theorem c_X3_advanceOnce (lq : Launch) (D : va_G) (t : zT) (h0 hr hn ho en kd x m P : Nat) (w os : Nat → Nat) (e el : Nat) (f : Nat → Int64) (hen : en ≤ 1) (hkd : kd ≤ 3) (hx : x ≤ 4) (hm : m ≤ 20) (hP : 0 < P) (hsup : ∀ l la, l ≤ 10 → la < 3 → w (l * 3 + la) ≠ 0 → l ≤ m) (hbd : ∀ c, c < 33 → w c * (4 * P) ≤ 4398046511104) : Ct lq D t yX3_advanceOnce cX3_advanceOnce 9 none rm_X3_advanceOnce [.ref h0] [eX3 h0 hr hn ho (nI en) (nI kd) (nI x) (nI m) (lN 4398046511104 - lN (e)) (lN el), eL t hr 33 (lf (fun j => w j * (4 * P))), eL t hn 33 f, eL t ho 11 (lf os)] 0 0 (fun rv rw_ => rv = none ∧ rw_ = [eX3 h0 hn hr ho (nI en) (nI kd) (nI x) (nI m - nI 1) (lN 4398046511104 - lN ((cou kd x en P m w 11 (((fun _ => 0), os, e, el) : wA)).2.2.1)) (lN ((cou kd x en P m w 11 (((fun _ => 0), os, e, el) : wA)).2.2.2)), eL t hn 33 (lf (fun j => (cou kd x en P m w 11 (((fun _ => 0), os, e, el) : wA)).1 j * P)), eL t hr 33 (lf (fun j => w j * (4 * P))), eL t ho 11 (lf ((cou kd x en P m w 11 (((fun _ => 0), os, e, el) : wA)).2.1))]) := by
  refine Ct.of (by decide) (Nat.le_of_ble_eq_true rfl) (fun k X hR => ?_)
  have X : zX D t k cX3_advanceOnce 9 RX3 "advanceOnce" rm_X3_advanceOnce lq := X
  refine z_eq (lv2 := [(0, .ref h0)]) rfl rfl rfl ?_
  refine z_aload_n X (pc := 0) 0 dX3_advanceOnce_0 rfl ?_
  refine z_get X (pc := 1) 0 1 (.ref hn) tu_3 tw_108 dX3_advanceOnce_1 rfl rfl (by decide) rfl rfl ?_
  refine zc_S (as := [.ref hn]) X (pc := 4) (c_X3_wipeRow lq D t hn 33 f (by omega)) tw_377 tw_379 tw_6 tw_378 [2] rfl rfl dX3_advanceOnce_4 rfl zdX3_wipeRow ⟨rfl, rfl, Nat.le_of_ble_eq_true rfl, Nat.le_of_ble_eq_true rfl⟩ (Nat.le_of_ble_eq_true rfl) (Nat.zero_le _) (Nat.zero_le _) (fun v_1 w_2 hp_3 => ?_)
  obtain ⟨rfl, rfl⟩ := hp_3
  refine ⟨rfl, ?_⟩
  refine z_eq (ws2 := [eX3 h0 hr hn ho (nI en) (nI kd) (nI x) (nI m) (lN 4398046511104 - lN (e)) (lN el), eL t hr 33 (lf (fun j => w j * (4 * P))), eL t hn 33 (lf (fun _ => 0)), eL t ho 11 (lf os)]) (st2 := []) rfl rfl rfl ?_
  refine z_iconst X (pc := 7) (nI 0) dX3_advanceOnce_7 (by decide) ?_
  refine z_istore_n X (pc := 8) (i := 1) [(1, .int (nI 0)), (0, .ref h0)] dX3_advanceOnce_8 rfl (by decide) rfl ?_
  have loop_9 : ∀ (fuel_9 : Nat) (l : Nat) (A : wA), 11 < l + fuel_9 → (l ≤ 11) → (A = cou kd x en P m w l (((fun _ => 0), os, e, el) : wA)) → Z D k (0, 0) [eX3 h0 hr hn ho (nI en) (nI kd) (nI x) (nI m) (lN 4398046511104 - lN (A.2.2.1)) (lN A.2.2.2), eL t hr 33 (lf (fun j => w j * (4 * P))), eL t hn 33 (lf (fun j => A.1 j * P)), eL t ho 11 (lf A.2.1)] 9 [(0, .ref h0), (1, .int (nI l))] [] := by
    intro fuel_9
    induction fuel_9 with
    | zero =>
      intro l A hfuel_9 hl hA
      exfalso; omega
    | succ fuel_9 ih_9 =>
      intro l A hfuel_9 hl hA
      refine z_iload_n X (pc := 9) 1 dX3_advanceOnce_9 rfl ?_
      refine z_bipush X (pc := 10) (nI 10) dX3_advanceOnce_10 (by decide) ?_
      refine z_icmp_gtN X (pc := 12) 113 (by omega) (by omega) dX3_advanceOnce_12 (by decide) (fun c_12 => ?_) (fun c_12 => ?_)
      · skip
        have hA : A = cou kd x en P m w 11 (((fun _ => 0), os, e, el) : wA) := by rw [hA, show l = 11 by omega]
        refine z_aload_n X (pc := 113) 0 dX3_advanceOnce_113 rfl ?_
        refine z_dup X (pc := 114) dX3_advanceOnce_114 rfl ?_
        refine z_get X (pc := 115) 0 6 (.int (nI m)) tu_3 tw_113 dX3_advanceOnce_115 rfl rfl (by decide) rfl rfl ?_
        refine z_iconst X (pc := 118) (nI 1) dX3_advanceOnce_118 (by decide) ?_
        refine z_isub X (pc := 119) (v := ((nI m) - (nI 1))) dX3_advanceOnce_119 rfl ?_
        refine z_put X (pc := 120) 0 6 [eX3 h0 hr hn ho (nI en) (nI kd) (nI x) ((nI m) - (nI 1)) (lN 4398046511104 - lN (A.2.2.1)) (lN A.2.2.2), eL t hr 33 (lf (fun j => w j * (4 * P))), eL t hn 33 (lf (fun j => A.1 j * P)), eL t ho 11 (lf A.2.1)] tu_3 tyX3_ok nmX3 tw_113 dX3_advanceOnce_120 rfl rfl (by decide) rfl rfl rfl rfl (Nat.le_of_ble_eq_true rfl) rfl ?_
        refine z_aload_n X (pc := 123) 0 dX3_advanceOnce_123 rfl ?_
        refine z_get X (pc := 124) 0 0 (.ref hr) tu_3 tw_107 dX3_advanceOnce_124 rfl rfl (by decide) rfl rfl ?_
        refine z_astore_n X (pc := 127) (i := 1) [(1, .ref hr), (0, .ref h0)] dX3_advanceOnce_127 rfl (by decide) rfl ?_
        refine z_aload_n X (pc := 128) 1 dX3_advanceOnce_128 rfl ?_
        refine z_aload_n X (pc := 129) 1 dX3_advanceOnce_129 rfl ?_
        refine z_get X (pc := 130) 0 1 (.ref hn) tu_3 tw_108 dX3_advanceOnce_130 rfl rfl (by decide) rfl rfl ?_
        refine z_put X (pc := 133) 0 0 [eX3 h0 hn hn ho (nI en) (nI kd) (nI x) ((nI m) - (nI 1)) (lN 4398046511104 - lN (A.2.2.1)) (lN A.2.2.2), eL t hr 33 (lf (fun j => w j * (4 * P))), eL t hn 33 (lf (fun j => A.1 j * P)), eL t ho 11 (lf A.2.1)] tu_3 tyX3_ok nmX3 tw_107 dX3_advanceOnce_133 rfl rfl (by decide) rfl rfl rfl rfl (Nat.le_of_ble_eq_true rfl) rfl ?_
        refine z_aload_n X (pc := 136) 1 dX3_advanceOnce_136 rfl ?_
        refine z_aload_n X (pc := 137) 0 dX3_advanceOnce_137 rfl ?_
        refine z_put X (pc := 138) 0 1 [eX3 h0 hn hr ho (nI en) (nI kd) (nI x) ((nI m) - (nI 1)) (lN 4398046511104 - lN (A.2.2.1)) (lN A.2.2.2), eL t hr 33 (lf (fun j => w j * (4 * P))), eL t hn 33 (lf (fun j => A.1 j * P)), eL t ho 11 (lf A.2.1)] tu_3 tyX3_ok nmX3 tw_108 dX3_advanceOnce_138 rfl rfl (by decide) rfl rfl rfl rfl (Nat.le_of_ble_eq_true rfl) rfl ?_
        refine z_perm [0, 2, 1, 3] [eX3 h0 hn hr ho (nI en) (nI kd) (nI x) ((nI m) - (nI 1)) (lN 4398046511104 - lN (A.2.2.1)) (lN A.2.2.2), eL t hn 33 (lf (fun j => A.1 j * P)), eL t hr 33 (lf (fun j => w j * (4 * P))), eL t ho 11 (lf A.2.1)] rfl rfl ?_
        exact hR.v dX3_advanceOnce_141 ⟨rfl, by rw [hA]⟩
      · skip
        refine z_iconst X (pc := 15) (nI 0) dX3_advanceOnce_15 (by decide) ?_
        refine z_istore_n X (pc := 16) (i := 2) [(2, .int (nI 0)), (0, .ref h0), (1, .int (nI l))] dX3_advanceOnce_16 rfl (by decide) rfl ?_
        have loop_17 : ∀ (fuel_17 : Nat) (la : Nat) (B : wA), 3 < la + fuel_17 → (la ≤ 3) → (B = cin kd x en P m w l la (cou kd x en P m w l (((fun _ => 0), os, e, el) : wA))) → Z D k (0, 0) [eX3 h0 hr hn ho (nI en) (nI kd) (nI x) (nI m) (lN 4398046511104 - lN (B.2.2.1)) (lN B.2.2.2), eL t hr 33 (lf (fun j => w j * (4 * P))), eL t hn 33 (lf (fun j => B.1 j * P)), eL t ho 11 (lf B.2.1)] 17 [(0, .ref h0), (1, .int (nI l)), (2, .int (nI la))] [] := by
          intro fuel_17
          induction fuel_17 with
          | zero =>
            intro la B hfuel_17 hla hB
            exfalso; omega
          | succ fuel_17 ih_17 =>
            intro la B hfuel_17 hla hB
            refine z_iload_n X (pc := 17) 2 dX3_advanceOnce_17 rfl ?_
            refine z_iconst X (pc := 18) (nI 3) dX3_advanceOnce_18 (by decide) ?_
            refine z_icmp_geN X (pc := 19) 107 (by omega) (by omega) dX3_advanceOnce_19 (by decide) (fun c_19 => ?_) (fun c_19 => ?_)
            · skip
              refine z_iinc X (pc := 107) (i := 1) 1 (nI (l + 1)) [(1, .int (nI (l + 1))), (0, .ref h0), (2, .int (nI la))] dX3_advanceOnce_107 rfl (nI_incc l 1) (by decide) rfl ?_
              refine z_goto X (pc := 110) 9 dX3_advanceOnce_110 (by decide) ?_
              refine z_lv [1, 0] (lv2 := [(0, .ref h0), (1, .int (nI (l + 1)))]) rfl ?_
              exact ih_9 (l + 1) B (by omega) (by omega) (by rw [hB, show la = 3 by omega]; rfl)
            · skip
              refine z_aload_n X (pc := 22) 0 dX3_advanceOnce_22 rfl ?_
              refine z_get X (pc := 23) 0 0 (.ref hr) tu_3 tw_107 dX3_advanceOnce_23 rfl rfl (by decide) rfl rfl ?_
              refine z_iload_n X (pc := 26) 1 dX3_advanceOnce_26 rfl ?_
              refine z_iconst X (pc := 27) (nI 3) dX3_advanceOnce_27 (by decide) ?_
              refine z_imul X (pc := 28) (v := (nI (l * 3))) dX3_advanceOnce_28 (pk_mul _ _) ?_
              refine z_iload_n X (pc := 29) 2 dX3_advanceOnce_29 rfl ?_
              refine z_iadd X (pc := 30) (v := (nI (l * 3 + la))) dX3_advanceOnce_30 (nI_add (l * 3) la) ?_
              refine z_lald X (pc := 31) 1 (l * 3 + la) (lN (w (l * 3 + la) * (4 * P))) dX3_advanceOnce_31 rfl rfl (Nat.le_of_ble_eq_true rfl) (by omega) rfl ?_
              refine z_lstore_n X (pc := 32) (i := 3) [(3, .long (lN (w (l * 3 + la) * (4 * P)))), (0, .ref h0), (1, .int (nI l)), (2, .int (nI la))] dX3_advanceOnce_32 rfl (by decide) rfl ?_
              refine z_lload_n X (pc := 33) 0 dX3_advanceOnce_33 rfl ?_
              refine z_lconst X (pc := 34) (lN 0) dX3_advanceOnce_34 (by decide) ?_
              refine z_lcmp_leN X (pc := 35) 101 (by have := hbd (l * 3 + la) (by omega); omega) (by decide) dX3_advanceOnce_35 dX3_advanceOnce_36 (by decide) (fun c_35 => ?_) (fun c_35 => ?_)
              · skip
                have hw : w (l * 3 + la) = 0 := mz hP c_35
                refine z_iinc X (pc := 101) (i := 2) 3 (nI (la + 1)) [(2, .int (nI (la + 1))), (3, .long (lN (w (l * 3 + la) * (4 * P)))), (0, .ref h0), (1, .int (nI l))] dX3_advanceOnce_101 rfl (nI_incc la 1) (by decide) rfl ?_
                refine z_goto X (pc := 104) 17 dX3_advanceOnce_104 (by decide) ?_
                refine z_lv [2, 3, 0] (lv2 := [(0, .ref h0), (1, .int (nI l)), (2, .int (nI (la + 1)))]) rfl ?_
                exact ih_17 (la + 1) B (by omega) (by omega) (by rw [hB]; simp only [cin, cel, if_pos hw])
              · skip
                have hw : ¬ w (l * 3 + la) = 0 := fun z => c_35 (by rw [z]; omega)
                have hlm : l ≤ m := hsup l la (by omega) (by omega) hw
                refine z_aload_n X (pc := 39) 1 dX3_advanceOnce_39 rfl ?_
                refine z_get X (pc := 40) 0 6 (.int (nI m)) tu_3 tw_113 dX3_advanceOnce_40 rfl rfl (by decide) rfl rfl ?_
                refine z_iload_n X (pc := 43) 2 dX3_advanceOnce_43 rfl ?_
                refine z_isub X (pc := 44) (v := (nI (m - l))) dX3_advanceOnce_44 (pk_sub (by omega)) ?_
                refine z_istore X (pc := 45) (i := 5) [(5, .int (nI (m - l))), (3, .long (lN (w (l * 3 + la) * (4 * P)))), (0, .ref h0), (1, .int (nI l)), (2, .int (nI la))] dX3_advanceOnce_45 trivial (by decide) rfl ?_
                refine z_aload_n X (pc := 47) 2 dX3_advanceOnce_47 rfl ?_
                refine z_get X (pc := 48) 0 4 (.int (nI kd)) tu_3 tw_111 dX3_advanceOnce_48 rfl rfl (by decide) rfl rfl ?_
                refine z_aload_n X (pc := 51) 2 dX3_advanceOnce_51 rfl ?_
                refine z_get X (pc := 52) 0 5 (.int (nI x)) tu_3 tw_112 dX3_advanceOnce_52 rfl rfl (by decide) rfl rfl ?_
                refine z_iload_n X (pc := 55) 3 dX3_advanceOnce_55 rfl ?_
                refine z_iload X (pc := 56) 0 dX3_advanceOnce_56 rfl ?_
                refine z_iload_n X (pc := 58) 4 dX3_advanceOnce_58 rfl ?_
                refine zc_SN (as := [.int (nI kd), .int (nI x), .int (nI l), .int (nI (m - l)), .int (nI la)]) X (pc := 59) (c_X4_handToLeft lq D t kd x l (m - l) la (by omega) (by omega) (by omega) (by omega) (by omega)) tw_397 tw_298 tw_1 tw_297 [] rfl rfl dX3_advanceOnce_59 rfl zdX4_handToLeft ⟨rfl, rfl, Nat.le_of_ble_eq_true rfl, Nat.le_of_ble_eq_true rfl⟩ (Nat.le_of_ble_eq_true rfl) (Nat.zero_le _) (Nat.zero_le _) (fun v_4 w_5 hp_6 => ?_)
                obtain ⟨rfl, rfl⟩ := hp_6
                refine ⟨rfl, ?_⟩
                refine z_eq (ws2 := [eX3 h0 hr hn ho (nI en) (nI kd) (nI x) (nI m) (lN 4398046511104 - lN (B.2.2.1)) (lN B.2.2.2), eL t hr 33 (lf (fun j => w j * (4 * P))), eL t hn 33 (lf (fun j => B.1 j * P)), eL t ho 11 (lf B.2.1)]) (st2 := [.int (nI (htl kd x l (m - l) la))]) rfl rfl rfl ?_
                refine z_istore X (pc := 62) (i := 6) [(6, .int (nI (htl kd x l (m - l) la))), (5, .int (nI (m - l))), (3, .long (lN (w (l * 3 + la) * (4 * P)))), (0, .ref h0), (1, .int (nI l)), (2, .int (nI la))] dX3_advanceOnce_62 trivial (by decide) rfl ?_
                refine z_lload_n X (pc := 64) 2 dX3_advanceOnce_64 rfl ?_
                refine z_ldc2 X (pc := 65) (4) dX3_advanceOnce_65 tw_398 ?_
                refine z_topl (lN 4) rfl ?_
                refine z_ldiv X (pc := 68) (v := (lN ((w (l * 3 + la) * (4 * P)) / 4))) dX3_advanceOnce_68 (by decide) (pk_lDiv (by have := hbd (l * 3 + la) (by omega); omega) (by omega) (by omega)) ?_
                refine z_topl (lN (w (l * 3 + la) * P)) (by rw [md4]) ?_
                refine z_lstore X (pc := 69) (i := 7) [(7, .long (lN (w (l * 3 + la) * P))), (6, .int (nI (htl kd x l (m - l) la))), (5, .int (nI (m - l))), (3, .long (lN (w (l * 3 + la) * (4 * P)))), (0, .ref h0), (1, .int (nI l)), (2, .int (nI la))] dX3_advanceOnce_69 trivial (by decide) rfl ?_
                refine z_aload_n X (pc := 71) 4 dX3_advanceOnce_71 rfl ?_
                refine z_iconst X (pc := 72) (nI 0) dX3_advanceOnce_72 (by decide) ?_
                refine z_iload_n X (pc := 73) 5 dX3_advanceOnce_73 rfl ?_
                refine z_iload X (pc := 74) 2 dX3_advanceOnce_74 rfl ?_
                refine z_lload X (pc := 76) 0 dX3_advanceOnce_76 rfl ?_
                refine z_iload X (pc := 78) 1 dX3_advanceOnce_78 rfl ?_
                refine z_i2l X (pc := 80) (v := (lN (htl kd x l (m - l) la))) dX3_advanceOnce_80 (nI_l (by have := @htl_le kd x l (m - l) la hx; omega)) ?_
                refine z_lmul X (pc := 81) (v := (lN ((w (l * 3 + la) * P) * (htl kd x l (m - l) la)))) dX3_advanceOnce_81 (lN_mul _ _) ?_
                refine z_topl (lN (w (l * 3 + la) * htl kd x l (m - l) la * P)) (by rw [Nat.mul_right_comm]) ?_
                refine zc_V (as := [.int (nI 0), .int (nI l), .int (nI (m - l)), .long (lN (w (l * 3 + la) * htl kd x l (m - l) la * P))]) X (pc := 82) (c_X3_follow lq D t h0 hr hn ho en kd x (nI m) (lN 4398046511104 - lN (B.2.2.1)) B.2.2.2 B.2.1 (fun j => B.1 j * P) 0 l (m - l) (w (l * 3 + la) * htl kd x l (m - l) la * P) (by omega) (by omega) (by omega) (by omega) (fun h9 => by simp only [if_true]; omega)) tw_399 tw_402 tw_6 tw_401 tw_1016 0 3 rfl rfl [0, 2, 3] rfl rfl dX3_advanceOnce_82 rfl zdX3_follow ⟨rfl, rfl, Nat.le_of_ble_eq_true rfl, Nat.le_of_ble_eq_true rfl⟩ (Nat.le_of_ble_eq_true rfl) (Nat.zero_le _) (Nat.zero_le _) (fun v_7 w_8 hp_9 => ?_)
                obtain ⟨rfl, rfl⟩ := hp_9
                refine ⟨rfl, ?_⟩
                refine z_eq (ws2 := [eX3 h0 hr hn ho (nI en) (nI kd) (nI x) (nI m) (if l ≤ en then (lN 4398046511104 - lN (B.2.2.1)) - lN (w (l * 3 + la) * htl kd x l (m - l) la * P) else (lN 4398046511104 - lN (B.2.2.1))) (lN (if l ≤ en then (if 0 = 0 then B.2.2.2 + (w (l * 3 + la) * htl kd x l (m - l) la * P) else B.2.2.2) else B.2.2.2)), eL t hr 33 (lf (fun j => w j * (4 * P))), eL t hn 33 (lf (if l ≤ en then (fun j => B.1 j * P) else vup (fun j => B.1 j * P) ((if 0 = 0 then l - 1 else (m - l)) * 3 + 0) ((fun j => B.1 j * P) ((if 0 = 0 then l - 1 else (m - l)) * 3 + 0) + (w (l * 3 + la) * htl kd x l (m - l) la * P)))), eL t ho 11 (lf (if l ≤ en then (if (m - l) ≤ 10 then vup B.2.1 (m - l) (B.2.1 (m - l) + (w (l * 3 + la) * htl kd x l (m - l) la * P)) else B.2.1) else B.2.1))]) (st2 := []) rfl rfl rfl ?_
                obtain ⟨B1, hB1⟩ : ∃ BB : wA, BB = fol en P 0 l (m - l) (w (l * 3 + la) * htl kd x l (m - l) la) B := ⟨_, rfl⟩
                refine z_eq (ws2 := [eX3 h0 hr hn ho (nI en) (nI kd) (nI x) (nI m) (lN 4398046511104 - lN (B1.2.2.1)) (lN B1.2.2.2), eL t hr 33 (lf (fun j => w j * (4 * P))), eL t hn 33 (lf (fun j => B1.1 j * P)), eL t ho 11 (lf B1.2.1)]) (by rw [hB1, ← fol_nx, ← fol_os, ← fol_so, ← fol_el]) rfl rfl ?_
                refine z_aload_n X (pc := 85) 4 dX3_advanceOnce_85 rfl ?_
                refine z_iconst X (pc := 86) (nI 1) dX3_advanceOnce_86 (by decide) ?_
                refine z_iload X (pc := 87) 2 dX3_advanceOnce_87 rfl ?_
                refine z_iload_n X (pc := 89) 5 dX3_advanceOnce_89 rfl ?_
                refine z_lload X (pc := 90) 0 dX3_advanceOnce_90 rfl ?_
                refine z_iconst X (pc := 92) (nI 4) dX3_advanceOnce_92 (by decide) ?_
                refine z_iload X (pc := 93) 1 dX3_advanceOnce_93 rfl ?_
                refine z_isub X (pc := 95) (v := (nI (4 - (htl kd x l (m - l) la)))) dX3_advanceOnce_95 (pk_sub (by have := @htl_le kd x l (m - l) la hx; omega)) ?_
                refine z_i2l X (pc := 96) (v := (lN (4 - (htl kd x l (m - l) la)))) dX3_advanceOnce_96 (nI_l (by omega)) ?_
                refine z_lmul X (pc := 97) (v := (lN ((w (l * 3 + la) * P) * (4 - (htl kd x l (m - l) la))))) dX3_advanceOnce_97 (lN_mul _ _) ?_
                refine z_topl (lN (w (l * 3 + la) * (4 - htl kd x l (m - l) la) * P)) (by rw [Nat.mul_right_comm]) ?_
                refine zc_V (as := [.int (nI 1), .int (nI (m - l)), .int (nI l), .long (lN (w (l * 3 + la) * (4 - htl kd x l (m - l) la) * P))]) X (pc := 98) (c_X3_follow lq D t h0 hr hn ho en kd x (nI m) (lN 4398046511104 - lN (B1.2.2.1)) B1.2.2.2 B1.2.1 (fun j => B1.1 j * P) 1 (m - l) l (w (l * 3 + la) * (4 - htl kd x l (m - l) la) * P) (by omega) (by omega) (by omega) (by omega) (fun h9 => by simp only [Nat.one_ne_zero, if_false]; omega)) tw_399 tw_402 tw_6 tw_401 tw_1016 0 3 rfl rfl [0, 2, 3] rfl rfl dX3_advanceOnce_98 rfl zdX3_follow ⟨rfl, rfl, Nat.le_of_ble_eq_true rfl, Nat.le_of_ble_eq_true rfl⟩ (Nat.le_of_ble_eq_true rfl) (Nat.zero_le _) (Nat.zero_le _) (fun v_10 w_11 hp_12 => ?_)
                obtain ⟨rfl, rfl⟩ := hp_12
                refine ⟨rfl, ?_⟩
                refine z_eq (ws2 := [eX3 h0 hr hn ho (nI en) (nI kd) (nI x) (nI m) (if (m - l) ≤ en then (lN 4398046511104 - lN (B1.2.2.1)) - lN (w (l * 3 + la) * (4 - htl kd x l (m - l) la) * P) else (lN 4398046511104 - lN (B1.2.2.1))) (lN (if (m - l) ≤ en then (if 1 = 0 then B1.2.2.2 + (w (l * 3 + la) * (4 - htl kd x l (m - l) la) * P) else B1.2.2.2) else B1.2.2.2)), eL t hr 33 (lf (fun j => w j * (4 * P))), eL t hn 33 (lf (if (m - l) ≤ en then (fun j => B1.1 j * P) else vup (fun j => B1.1 j * P) ((if 1 = 0 then (m - l) - 1 else l) * 3 + 1) ((fun j => B1.1 j * P) ((if 1 = 0 then (m - l) - 1 else l) * 3 + 1) + (w (l * 3 + la) * (4 - htl kd x l (m - l) la) * P)))), eL t ho 11 (lf (if (m - l) ≤ en then (if l ≤ 10 then vup B1.2.1 l (B1.2.1 l + (w (l * 3 + la) * (4 - htl kd x l (m - l) la) * P)) else B1.2.1) else B1.2.1))]) (st2 := []) rfl rfl rfl ?_
                obtain ⟨B2, hB2⟩ : ∃ BB : wA, BB = fol en P 1 (m - l) l (w (l * 3 + la) * (4 - htl kd x l (m - l) la)) B1 := ⟨_, rfl⟩
                refine z_eq (ws2 := [eX3 h0 hr hn ho (nI en) (nI kd) (nI x) (nI m) (lN 4398046511104 - lN (B2.2.2.1)) (lN B2.2.2.2), eL t hr 33 (lf (fun j => w j * (4 * P))), eL t hn 33 (lf (fun j => B2.1 j * P)), eL t ho 11 (lf B2.2.1)]) (by rw [hB2, ← fol_nx, ← fol_os, ← fol_so, ← fol_el]) rfl rfl ?_
                refine z_iinc X (pc := 101) (i := 2) 6 (nI (la + 1)) [(2, .int (nI (la + 1))), (7, .long (lN (w (l * 3 + la) * P))), (6, .int (nI (htl kd x l (m - l) la))), (5, .int (nI (m - l))), (3, .long (lN (w (l * 3 + la) * (4 * P)))), (0, .ref h0), (1, .int (nI l))] dX3_advanceOnce_101 rfl (nI_incc la 1) (by decide) rfl ?_
                refine z_goto X (pc := 104) 17 dX3_advanceOnce_104 (by decide) ?_
                refine z_lv [5, 6, 0] (lv2 := [(0, .ref h0), (1, .int (nI l)), (2, .int (nI (la + 1)))]) rfl ?_
                exact ih_17 (la + 1) B2 (by omega) (by omega) (by rw [hB2, hB1, hB]; simp only [cin, cel, if_neg hw])
        refine z_lv [1, 2, 0] (lv2 := [(0, .ref h0), (1, .int (nI l)), (2, .int (nI 0))]) rfl ?_
        exact loop_17 4 0 A (by omega) (by omega) hA
  obtain ⟨A0, hA0⟩ : ∃ A : wA, A = ((fun _ => 0), os, e, el) := ⟨_, rfl⟩
  refine z_eq (ws2 := [eX3 h0 hr hn ho (nI en) (nI kd) (nI x) (nI m) (lN 4398046511104 - lN (A0.2.2.1)) (lN A0.2.2.2), eL t hr 33 (lf (fun j => w j * (4 * P))), eL t hn 33 (lf (fun j => A0.1 j * P)), eL t ho 11 (lf A0.2.1)]) (by rw [hA0]; simp) rfl rfl ?_
  refine z_lv [1, 0] (lv2 := [(0, .ref h0), (1, .int (nI 0))]) rfl ?_
  exact loop_9 12 0 A0 (by omega) (by omega) hA0
end
section
/-! PART 12: sums; the walk's steps keep the mass and the support -/
/-- a value that no unfolding opens -/
noncomputable def hide {α : Type} (a : α) : α := Classical.choose (show ∃ b : α, b = a from ⟨a, rfl⟩)
theorem hide_eq {α : Type} (a : α) : hide a = a := Classical.choose_spec (show ∃ b : α, b = a from ⟨a, rfl⟩)
def sm0 (f : Nat → Nat) : Nat → Nat
  | 0 => 0
  | n + 1 => sm0 f n + f n
noncomputable def sm (f : Nat → Nat) (n : Nat) : Nat := hide (sm0 f n)
theorem sm_z (f : Nat → Nat) : sm f 0 = 0 := hide_eq _
theorem sm_s (f : Nat → Nat) (n : Nat) : sm f (n + 1) = sm f n + f n := by rw [sm, hide_eq, sm0, sm, hide_eq]
theorem sm_cong {f g : Nat → Nat} : ∀ {n : Nat}, (∀ k, k < n → f k = g k) → sm f n = sm g n
  | 0, _ => by rw [sm_z, sm_z]
  | n + 1, h => by rw [sm_s, sm_s, sm_cong (fun k hk => h k (by omega)), h n (by omega)]
theorem sm_zero {f : Nat → Nat} : ∀ {n : Nat}, (∀ k, k < n → f k = 0) → sm f n = 0
  | 0, _ => sm_z _
  | n + 1, h => by rw [sm_s, sm_zero (fun k hk => h k (by omega)), h n (by omega)]
theorem sm_mul (f : Nat → Nat) (c : Nat) : ∀ n : Nat, sm (fun k => f k * c) n = sm f n * c
  | 0 => by rw [sm_z, sm_z, Nat.zero_mul]
  | n + 1 => by rw [sm_s, sm_s, sm_mul f c n, Nat.add_mul]
theorem sm_le (f : Nat → Nat) {k : Nat} : ∀ {n : Nat}, k < n → f k ≤ sm f n
  | 0, h => absurd h (Nat.not_lt_zero k)
  | n + 1, h => by
    rw [sm_s]
    rcases Nat.lt_or_ge k n with q | q
    · have := sm_le f q
      omega
    · rw [show k = n by omega]; omega
theorem sm_eq0 {f : Nat → Nat} {n : Nat} (h : sm f n = 0) {k : Nat} (hk : k < n) : f k = 0 := by
  have := sm_le f hk
  omega
theorem sm_vup {g : Nat → Nat} {j x : Nat} : ∀ {n : Nat}, j < n → sm (vup g j (g j + x)) n = sm g n + x
  | 0, h => absurd h (Nat.not_lt_zero j)
  | n + 1, h => by
    rw [sm_s, sm_s]
    rcases Nat.lt_or_ge j n with q | q
    · rw [sm_vup q, vup_n (show n ≠ j by omega)]; omega
    · have e : j = n := by omega
      subst e
      rw [vup_s, sm_cong (g := g) (fun k hk => vup_n (by omega))]; omega
noncomputable def phi (T : Nat) (a : wA) : Nat := sm a.1 33 * T + a.2.2.1
theorem fol_phi {en T sd ow ot its : Nat} {a : wA} (h : ¬ ow ≤ en → (if sd = 0 then ow - 1 else ot) * 3 + sd < 33) : phi T (fol en T sd ow ot its a) = phi T a + its * T := by
  unfold fol phi
  by_cases h1 : ow ≤ en
  · simp only [h1, if_true]; omega
  · simp only [h1, if_false]
    rw [sm_vup (h h1), Nat.add_mul]; omega
theorem cel_phi {kd x en T m : Nat} {w : Nat → Nat} {l la : Nat} {a : wA} (hx : x ≤ 4) (hl : l ≤ 10) (hla : la < 3) : phi T (cel kd x en T m w l la a) = phi T a + 4 * T * w (l * 3 + la) := by
  unfold cel
  by_cases h : w (l * 3 + la) = 0
  · simp [h]
  · simp only [h, if_false]
    rw [fol_phi (fun _ => by simp only [Nat.one_ne_zero, if_false]; omega), fol_phi (fun _ => by simp only [if_true]; omega)]
    have hq := @htl_le kd x l (m - l) la hx
    rw [Nat.add_assoc, ← Nat.add_mul, ← Nat.mul_add, show htl kd x l (m - l) la + (4 - htl kd x l (m - l) la) = 4 by omega]
    rw [Nat.mul_comm (w (l * 3 + la)) 4, Nat.mul_right_comm]
theorem cin_phi {kd x en T m : Nat} {w : Nat → Nat} {l : Nat} {a : wA} (hx : x ≤ 4) (hl : l ≤ 10) : ∀ j : Nat, j ≤ 3 → phi T (cin kd x en T m w l j a) + 4 * T * sm w (l * 3) = phi T a + 4 * T * sm w (l * 3 + j)
  | 0, _ => rfl
  | j + 1, h => by
    have ih := cin_phi (kd := kd) (en := en) (T := T) (m := m) (w := w) (a := a) hx hl j (by omega)
    rw [cin, cel_phi hx hl (by omega), ← Nat.add_assoc, sm_s, Nat.mul_add]
    omega
theorem cou_phi {kd x en T m : Nat} {w : Nat → Nat} {a : wA} (hx : x ≤ 4) : ∀ l : Nat, l ≤ 11 → phi T (cou kd x en T m w l a) = phi T a + 4 * T * sm w (l * 3)
  | 0, _ => by simp [cou, sm_z]
  | l + 1, h => by
    have ih := cou_phi (kd := kd) (en := en) (T := T) (m := m) (w := w) (a := a) hx l (by omega)
    have h2 := cin_phi (kd := kd) (en := en) (T := T) (m := m) (w := w) (l := l) (a := cou kd x en T m w l a) hx (by omega) 3 (Nat.le_refl 3)
    rw [cou, show (l + 1) * 3 = l * 3 + 3 by omega]
    omega
/-- where a row may be other than 0 -/
def sup (m : Nat) (w : Nat → Nat) : Prop := ∀ l la, l ≤ 10 → la < 3 → w (l * 3 + la) ≠ 0 → l ≤ m ∧ m ≤ l + 10
def supN (m : Nat) (w : Nat → Nat) : Prop := ∀ l la, l ≤ 10 → la < 3 → w (l * 3 + la) ≠ 0 → l + 1 ≤ m ∧ m ≤ l + 11
theorem vup_sup {m l0 la0 v : Nat} {w : Nat → Nat} (h : supN m w) (hla : la0 < 3) (h2 : l0 + 1 ≤ m ∧ m ≤ l0 + 11) : supN m (vup w (l0 * 3 + la0) v) := by
  intro l la h3 h4 h5
  by_cases e : l * 3 + la = l0 * 3 + la0
  · have : l = l0 := by omega
    subst this
    exact h2
  · rw [vup_n e] at h5
    exact h l la h3 h4 h5
theorem cel_sup {kd x en T m : Nat} {w : Nat → Nat} {l la : Nat} {a : wA} (hl : l ≤ 10) (hla : la < 3) (hw : sup m w) (h : supN m a.1) : supN m (cel kd x en T m w l la a).1 := by
  unfold cel
  by_cases h0 : w (l * 3 + la) = 0
  · simp only [h0, if_true]; exact h
  · simp only [h0, if_false]
    obtain ⟨h1, h2⟩ := hw l la hl hla h0
    have H1 : supN m (fol en T 0 l (m - l) (w (l * 3 + la) * htl kd x l (m - l) la) a).1 := by
      unfold fol
      by_cases q : l ≤ en
      · simp only [q, if_true]; exact h
      · simp only [q, if_false, if_true]
        exact vup_sup h (by omega) (by omega)
    unfold fol at H1 ⊢
    by_cases q : m - l ≤ en
    · rw [if_pos q]; exact H1
    · rw [if_neg q]
      simp only [Nat.one_ne_zero, if_false]
      exact vup_sup H1 (by omega) (by omega)
theorem cin_sup {kd x en T m : Nat} {w : Nat → Nat} {l : Nat} {a : wA} (hl : l ≤ 10) (hw : sup m w) (h : supN m a.1) : ∀ j : Nat, j ≤ 3 → supN m (cin kd x en T m w l j a).1
  | 0, _ => h
  | j + 1, hj => cel_sup hl (by omega) hw (cin_sup hl hw h j (by omega))
theorem cou_sup {kd x en T m : Nat} {w : Nat → Nat} {a : wA} (hw : sup m w) (h : supN m a.1) : ∀ l : Nat, l ≤ 11 → supN m (cou kd x en T m w l a).1
  | 0, _ => h
  | l + 1, hl => cin_sup (by omega) hw (cou_sup hw h l (by omega)) 3 (Nat.le_refl 3)
theorem cin_dead {kd x en T m : Nat} {w : Nat → Nat} {l : Nat} {a : wA} (hl : l ≤ 10) (h : ∀ c, c < 33 → w c = 0) : ∀ j : Nat, j ≤ 3 → cin kd x en T m w l j a = a
  | 0, _ => rfl
  | j + 1, hj => by rw [cin, cin_dead hl h j (by omega), cel, if_pos (h _ (by omega))]
theorem cou_dead {kd x en T m : Nat} {w : Nat → Nat} {a : wA} (h : ∀ c, c < 33 → w c = 0) : ∀ l : Nat, l ≤ 11 → cou kd x en T m w l a = a
  | 0, _ => rfl
  | l + 1, hl => by rw [cou, cou_dead h l (by omega), cin_dead (by omega) h 3 (Nat.le_refl 3)]
/-- one reach, of all that can be: m in both boxes, chances in parts of 4 to the s -/
noncomputable def wst (kd x en m s : Nat) (a : wA) : wA := hide (cou kd x en (4 ^ (s - 1)) m a.1 11 ((fun _ => 0), a.2))
theorem wst_def (kd x en m s : Nat) (a : wA) : wst kd x en m s a = cou kd x en (4 ^ (s - 1)) m a.1 11 ((fun _ => 0), a.2.1, a.2.2.1, a.2.2.2) := hide_eq _
noncomputable def wrun0 (kd x en m s : Nat) (a : wA) : Nat → wA
  | 0 => a
  | i + 1 => wst kd x en (m - i) (s - i) (wrun0 kd x en m s a i)
noncomputable def wrun (kd x en m s : Nat) (a : wA) (i : Nat) : wA := hide (wrun0 kd x en m s a i)
theorem wrun_z (kd x en m s : Nat) (a : wA) : wrun kd x en m s a 0 = a := hide_eq _
theorem wrun_s (kd x en m s : Nat) (a : wA) (i : Nat) : wrun kd x en m s a (i + 1) = wst kd x en (m - i) (s - i) (wrun kd x en m s a i) := by rw [wrun, hide_eq, wrun0, wrun, hide_eq]
def wok (m s : Nat) (a : wA) : Prop := sup m a.1 ∧ sm a.1 33 * 4 ^ s + a.2.2.1 = 4398046511104 ∧ ((∃ c, c < 33 ∧ a.1 c ≠ 0) → m < s)
theorem wok_le {m s : Nat} {a : wA} (h : wok m s a) : a.2.2.1 ≤ 4398046511104 := by have := h.2.1; omega
theorem wok_bd {m s : Nat} {a : wA} (h : wok m s a) {c : Nat} (hc : c < 33) : a.1 c * 4 ^ s ≤ 4398046511104 := by
  have h1 := h.2.1
  have h2 := Nat.mul_le_mul_right (4 ^ s) (sm_le a.1 hc)
  omega
theorem pow4 {s : Nat} (h : 0 < s) : 4 ^ s = 4 * 4 ^ (s - 1) := by
  obtain ⟨k, rfl⟩ : ∃ k, s = k + 1 := ⟨s - 1, by omega⟩
  rw [Nat.add_sub_cancel, Nat.pow_succ, Nat.mul_comm]
theorem pow4_pos (s : Nat) : 0 < 4 ^ s := Nat.pow_pos (by decide)
theorem wok_dead {m s : Nat} {a : wA} (h : wok m s a) (he : 4398046511104 ≤ a.2.2.1) : ∀ c, c < 33 → a.1 c = 0 := by
  have h1 := h.2.1
  have h2 : sm a.1 33 = 0 := by
    rcases Nat.eq_zero_or_pos (sm a.1 33) with q | q
    · exact q
    · have := Nat.mul_pos q (pow4_pos s)
      omega
  exact fun c hc => sm_eq0 h2 hc
theorem wok_alive {m s : Nat} {a : wA} (h : wok m s a) (he : a.2.2.1 < 4398046511104) : ∃ c, c < 33 ∧ a.1 c ≠ 0 := by
  by_cases q : ∃ c, c < 33 ∧ a.1 c ≠ 0
  · exact q
  · have h0 : ∀ c, c < 33 → a.1 c = 0 := fun c hc => by
      rcases Nat.eq_zero_or_pos (a.1 c) with z | z
      · exact z
      · exact absurd ⟨c, hc, by omega⟩ q
    have h1 := h.2.1
    rw [sm_zero h0] at h1
    omega
theorem wst_dead {kd x en m s : Nat} {a : wA} (h : ∀ c, c < 33 → a.1 c = 0) : wst kd x en m s a = ((fun _ => 0), a.2) := (hide_eq _).trans (cou_dead h 11 (Nat.le_refl 11))
theorem wst_supN {kd x en m s : Nat} {a : wA} (h : sup m a.1) : supN m (wst kd x en m s a).1 := by
  rw [wst_def]
  exact cou_sup h (fun l la _ _ z => absurd rfl z) 11 (Nat.le_refl 11)
theorem wst_mass {kd x en m s : Nat} {a : wA} (hx : x ≤ 4) (hs : 0 < s) : sm (wst kd x en m s a).1 33 * 4 ^ (s - 1) + (wst kd x en m s a).2.2.1 = sm a.1 33 * 4 ^ s + a.2.2.1 := by
  have h := cou_phi (kd := kd) (en := en) (T := 4 ^ (s - 1)) (m := m) (w := a.1) (a := ((fun _ => 0), a.2.1, a.2.2.1, a.2.2.2)) hx 11 (Nat.le_refl 11)
  unfold phi at h
  have e : sm (fun _ => 0) 33 = 0 := sm_zero (fun _ _ => rfl)
  rw [e, ← pow4 hs, show (11 * 3) = 33 from rfl] at h
  rw [wst_def, h, Nat.mul_comm (4 ^ s)]
  show 0 * 4 ^ (s - 1) + a.2.2.1 + _ = _
  omega
theorem wst_alive {kd x en m s : Nat} {a : wA} (h : sup m a.1) (hc : ∃ c, c < 33 ∧ (wst kd x en m s a).1 c ≠ 0) : 1 ≤ m := by
  obtain ⟨c, hc, hn⟩ := hc
  have h1 := wst_supN (kd := kd) (x := x) (en := en) (s := s) h (c / 3) (c % 3) (by omega) (by omega) (by rw [show c / 3 * 3 + c % 3 = c by omega]; exact hn)
  omega
theorem wok_st {kd x en m s : Nat} {a : wA} (hx : x ≤ 4) (h : wok m s a) : wok (m - 1) (s - 1) (wst kd x en m s a) := by
  by_cases q : ∃ c, c < 33 ∧ a.1 c ≠ 0
  · have hms := h.2.2 q
    refine ⟨fun l la h1 h2 h3 => ?_, ?_, fun hc => ?_⟩
    · have := wst_supN (kd := kd) (x := x) (en := en) (s := s) h.1 l la h1 h2 h3
      omega
    · rw [wst_mass hx (by omega)]; exact h.2.1
    · have := wst_alive h.1 hc
      omega
  · have h0 : ∀ c, c < 33 → a.1 c = 0 := fun c hc => by
      rcases Nat.eq_zero_or_pos (a.1 c) with z | z
      · exact z
      · exact absurd ⟨c, hc, by omega⟩ q
    rw [wst_dead h0]
    refine ⟨fun l la _ _ z => absurd rfl z, ?_, fun ⟨c, _, z⟩ => absurd rfl z⟩
    have h1 := h.2.1
    rw [sm_zero h0] at h1
    show sm (fun _ => 0) 33 * _ + a.2.2.1 = _
    rw [sm_zero (fun _ _ => rfl)]
    omega
theorem wok_run {kd x en m s : Nat} {a : wA} (hx : x ≤ 4) (h : wok m s a) : ∀ i : Nat, wok (m - i) (s - i) (wrun kd x en m s a i)
  | 0 => by rw [wrun_z]; exact h
  | i + 1 => by
    have := wok_st (kd := kd) (en := en) hx (wok_run (kd := kd) (en := en) hx h i)
    rw [Nat.sub_sub, Nat.sub_sub] at this
    rw [wrun_s]
    exact this
theorem wrun_dead {kd x en m s : Nat} {a : wA} {i : Nat} (h : ∀ c, c < 33 → (wrun kd x en m s a i).1 c = 0) : ∀ d : Nat, (wrun kd x en m s a (i + d)).2 = (wrun kd x en m s a i).2 ∧ ∀ c, c < 33 → (wrun kd x en m s a (i + d)).1 c = 0
  | 0 => ⟨rfl, h⟩
  | d + 1 => by
    obtain ⟨h1, h2⟩ := wrun_dead h d
    have e : wrun kd x en m s a (i + (d + 1)) = ((fun _ => 0), (wrun kd x en m s a (i + d)).2) := by
      rw [← Nat.add_assoc, wrun_s, wst_dead h2]
    rw [e]
    exact ⟨h1, fun c _ => rfl⟩
theorem wrun_dead2 {kd x en m s : Nat} {a : wA} {i n : Nat} (h : ∀ c, c < 33 → (wrun kd x en m s a i).1 c = 0) (hn : i ≤ n) : (wrun kd x en m s a n).2 = (wrun kd x en m s a i).2 ∧ ∀ c, c < 33 → (wrun kd x en m s a n).1 c = 0 := by
  have := wrun_dead h (n - i)
  rw [show i + (n - i) = n by omega] at this
  exact this
/-- the start -/
def wst0 (en l r la : Nat) : wA := if en = 1 ∧ (l = 0 ∨ r = 0) then ((fun _ => 0), vup (fun _ => 0) (l + r) 4398046511104, 4398046511104, if l = 0 then 4398046511104 else 0) else (vup (fun _ => 0) (l * 3 + la) 1, (fun _ => 0), 0, 0)
theorem wok0 {en l r la : Nat} (hl : l ≤ 10) (hr : r ≤ 10) (hla : la ≤ 2) : wok (l + r) 21 (wst0 en l r la) := by
  unfold wst0
  by_cases h : en = 1 ∧ (l = 0 ∨ r = 0)
  · rw [if_pos h]
    refine ⟨fun l la _ _ z => absurd rfl z, ?_, fun ⟨c, _, z⟩ => absurd rfl z⟩
    show sm (fun _ => 0) 33 * _ + 4398046511104 = _
    rw [sm_zero (fun _ _ => rfl), Nat.zero_mul, Nat.zero_add]
  · rw [if_neg h]
    refine ⟨fun l2 la2 h1 h2 h3 => ?_, ?_, fun _ => by omega⟩
    · by_cases e : l2 * 3 + la2 = l * 3 + la
      · have : l2 = l := by omega
        omega
      · exact absurd (vup_n (g := fun _ => 0) (x := 1) e) h3
    · show sm (vup (fun _ => 0) (l * 3 + la) 1) 33 * 4 ^ 21 + 0 = _
      have := sm_vup (g := fun _ => 0) (j := l * 3 + la) (x := 1) (n := 33) (by omega)
      rw [show (0 : Nat) + 1 = 1 from rfl] at this
      rw [this, sm_zero (fun _ _ => rfl)]
end
section
/-! PART 13: Walk: start, advance, reachesTillEnd, keepOnly, and what is read off -/
theorem lN_sub0 (a : Nat) : lN a = lN a - lN 0 := (lN_sub (Nat.zero_le a)).symm
theorem lN_som {e : Nat} (h : e ≤ 4398046511104) : lN 4398046511104 - lN e = lN (4398046511104 - e) := lN_sub h
/-- what is left of a row when only so many are in the boxes -/
def kfl (m il ir : Nat) (w : Nat → Nat) : Nat → Nat := fun c => if c / 3 = il ∧ m = il + ir then w c else 0
theorem kfl_same {m il ir l la : Nat} {w : Nat → Nat} {mt : Int32} (hla : la < 3) (hl : l ≤ 10) (hir : ir ≤ 10) (hm : m ≤ 20) (hs : w (l * 3 + la) ≠ 0 → mt = nI m ∧ l ≤ m) (h1 : l = il) (h2 : mt - nI l = nI ir) : w (l * 3 + la) = kfl m il ir w (l * 3 + la) := by
  unfold kfl
  by_cases h0 : w (l * 3 + la) = 0
  · rw [h0]; split <;> rfl
  · obtain ⟨rfl, hlm⟩ := hs h0
    rw [pk_sub hlm, nI_eq (by omega) (by omega)] at h2
    rw [if_pos ⟨by omega, by omega⟩]
theorem kfl_not {m il ir l la : Nat} {w : Nat → Nat} {mt : Int32} (hla : la < 3) (hl : l ≤ 10) (hir : ir ≤ 10) (hm : m ≤ 20) (hs : w (l * 3 + la) ≠ 0 → mt = nI m ∧ l ≤ m) (h : ¬ (l = il ∧ mt - nI l = nI ir)) : 0 = kfl m il ir w (l * 3 + la) := by
  unfold kfl
  by_cases h0 : w (l * 3 + la) = 0
  · rw [h0]; split <;> rfl
  · obtain ⟨rfl, hlm⟩ := hs h0
    rw [pk_sub hlm, nI_eq (by omega) (by omega)] at h
    rw [if_neg (fun z => h ⟨by omega, by omega⟩)]
theorem smdead {f : Nat → Nat} {i n : Nat} (h : ∀ j, i ≤ j → j < n → f j = 0) (hi : i ≤ n) : sm f i = sm f n := by
  induction n with
  | zero => rw [show i = 0 by omega]
  | succ n ih =>
    rcases Nat.lt_or_ge n i with q | q
    · rw [show i = n + 1 by omega]
    · rw [sm_s, ← ih (fun j h1 h2 => h j h1 (by omega)) q, h n q (by omega), Nat.add_zero]
def kmix (m il ir : Nat) (w : Nat → Nat) (Q p : Nat) : Nat → Nat := fun j => (if j < p then kfl m il ir w j else w j) * Q
theorem kmix_0 {m il ir : Nat} {w : Nat → Nat} {Q : Nat} : (fun j => w j * Q) = kmix m il ir w Q 0 := by funext j; simp [kmix]
theorem kmix_at {m il ir : Nat} {w : Nat → Nat} {Q p : Nat} : kmix m il ir w Q p p = w p * Q := by simp [kmix]
theorem kmix_step {m il ir : Nat} {w : Nat → Nat} {Q p : Nat} (h : w p = kfl m il ir w p) : kmix m il ir w Q p = kmix m il ir w Q (p + 1) := by
  funext j
  unfold kmix
  rcases Nat.lt_trichotomy j p with q | q | q
  · rw [if_pos q, if_pos (by omega)]
  · subst q; rw [if_neg (by omega), if_pos (by omega), h]
  · rw [if_neg (by omega), if_neg (by omega)]
theorem kmix_put {m il ir : Nat} {w : Nat → Nat} {Q p : Nat} (h : 0 = kfl m il ir w p) : vup (kmix m il ir w Q p) p 0 = kmix m il ir w Q (p + 1) := by
  funext j
  by_cases q : j = p
  · subst q; rw [vup_s]; unfold kmix; rw [if_pos (by omega), ← h, Nat.zero_mul]
  · rw [vup_n q]; unfold kmix
    rcases Nat.lt_or_ge j p with z | z
    · rw [if_pos z, if_pos (by omega)]
    · rw [if_neg (by omega), if_neg (by omega)]
noncomputable def lev (m : Nat) (w : Nat → Nat) : Nat := if m % 2 = 0 then sm (fun j => w (m / 2 * 3 + j)) 3 else 0
theorem lev_dead {m : Nat} {w : Nat → Nat} (hm : m ≤ 20) (h : ∀ c, c < 33 → w c = 0) : lev m w = 0 := by
  unfold lev; split
  · exact sm_zero (fun k hk => h _ (by omega))
  · rfl
abbrev rm_X3_standing : Room := { frames := 0, cells := 0, slots := 0, locals := 0 }
set_option maxHeartbeats 4000000 in
set_option maxRecDepth 100000 in
theorem c_X3_standing (lq : Launch) (D : va_G) (t : zT) (h0 hr hn ho en kd x : Nat) (mt : Int32) (so el : Int64)  : Ct lq D t yX3_standing cX3_standing 1 (some .long) rm_X3_standing [.ref h0] [eX3 h0 hr hn ho (nI en) (nI kd) (nI x) mt so el] 0 0 (fun rv rw_ => rv = some (.long so) ∧ rw_ = [eX3 h0 hr hn ho (nI en) (nI kd) (nI x) mt so el]) := by
  refine Ct.of (by decide) (Nat.le_of_ble_eq_true rfl) (fun k X hR => ?_)
  have X : zX D t k cX3_standing 1 RX3 "standing" rm_X3_standing lq := X
  refine z_eq (lv2 := [(0, .ref h0)]) rfl rfl rfl ?_
  refine z_aload_n X (pc := 0) 0 dX3_standing_0 rfl ?_
  refine z_get X (pc := 1) 0 7 (.long so) tu_3 tw_114 dX3_standing_1 rfl rfl (by decide) rfl rfl ?_
  exact hR.l dX3_standing_4 ⟨rfl, rfl⟩

abbrev rm_X3_chanceOfLeftFirst : Room := { frames := 0, cells := 0, slots := 0, locals := 0 }
set_option maxHeartbeats 4000000 in
set_option maxRecDepth 100000 in
theorem c_X3_chanceOfLeftFirst (lq : Launch) (D : va_G) (t : zT) (h0 hr hn ho en kd x : Nat) (mt : Int32) (so : Int64) (el : Nat)  : Ct lq D t yX3_chanceOfLeftFirst cX3_chanceOfLeftFirst 1 (some .long) rm_X3_chanceOfLeftFirst [.ref h0] [eX3 h0 hr hn ho (nI en) (nI kd) (nI x) mt so (lN el)] 0 0 (fun rv rw_ => rv = some (.long (lN el)) ∧ rw_ = [eX3 h0 hr hn ho (nI en) (nI kd) (nI x) mt so (lN el)]) := by
  refine Ct.of (by decide) (Nat.le_of_ble_eq_true rfl) (fun k X hR => ?_)
  have X : zX D t k cX3_chanceOfLeftFirst 1 RX3 "chanceOfLeftFirst" rm_X3_chanceOfLeftFirst lq := X
  refine z_eq (lv2 := [(0, .ref h0)]) rfl rfl rfl ?_
  refine z_aload_n X (pc := 0) 0 dX3_chanceOfLeftFirst_0 rfl ?_
  refine z_get X (pc := 1) 0 8 (.long (lN el)) tu_3 tw_115 dX3_chanceOfLeftFirst_1 rfl rfl (by decide) rfl rfl ?_
  exact hR.l dX3_chanceOfLeftFirst_4 ⟨rfl, rfl⟩

abbrev rm_X3_chanceOfOther : Room := { frames := 1, cells := 0, slots := 0, locals := 22 }
set_option maxHeartbeats 4000000 in
set_option maxRecDepth 100000 in
theorem c_X3_chanceOfOther (lq : Launch) (D : va_G) (t : zT) (h0 hr hn ho en kd x : Nat) (mt : Int32) (so el : Int64) (os : Nat → Nat) (j : Nat) (hj : j ≤ 10) : Ct lq D t yX3_chanceOfOther cX3_chanceOfOther 2 (some .long) rm_X3_chanceOfOther [.ref h0, .int (nI j)] [eX3 h0 hr hn ho (nI en) (nI kd) (nI x) mt so el, eL t ho 11 (lf os)] 0 0 (fun rv rw_ => rv = some (.long (lN (os j))) ∧ rw_ = [eX3 h0 hr hn ho (nI en) (nI kd) (nI x) mt so el, eL t ho 11 (lf os)]) := by
  refine Ct.of (by decide) (Nat.le_of_ble_eq_true rfl) (fun k X hR => ?_)
  have X : zX D t k cX3_chanceOfOther 2 RX3 "chanceOfOther" rm_X3_chanceOfOther lq := X
  refine z_eq (lv2 := [(0, .ref h0), (1, .int (nI j))]) rfl rfl rfl ?_
  refine z_iload_n X (pc := 0) 1 dX3_chanceOfOther_0 rfl ?_
  refine z_iconst X (pc := 1) (nI 0) dX3_chanceOfOther_1 (by decide) ?_
  refine z_bipush X (pc := 2) (nI 10) dX3_chanceOfOther_2 (by decide) ?_
  refine zc_SN (as := [.int (nI j), .int (nI 0), .int (nI 10)]) X (pc := 4) (c_X4_within lq D t (nI j) (nI 0) (nI 10) ) tw_407 tw_182 tw_1 tw_181 [] rfl rfl dX3_chanceOfOther_4 rfl zdX4_within ⟨rfl, rfl, Nat.le_of_ble_eq_true rfl, Nat.le_of_ble_eq_true rfl⟩ (Nat.le_of_ble_eq_true rfl) (Nat.zero_le _) (Nat.zero_le _) (fun v_1 w_2 hp_3 => ?_)
  obtain ⟨rfl, rfl⟩ := hp_3
  refine ⟨rfl, ?_⟩
  refine z_eq (ws2 := [eX3 h0 hr hn ho (nI en) (nI kd) (nI x) mt so el, eL t ho 11 (lf os)]) (st2 := [.int (zb ((nI 0) ≤ (nI j) ∧ (nI j) ≤ (nI 10)))]) rfl rfl rfl ?_
  refine z_if_eqB X (pc := 7) 19 dX3_chanceOfOther_7 (by decide) (fun c_7 => absurd c_7 (fun z => z ⟨(nI_leI (by omega) (by omega)).mpr (by omega), (nI_leI (by omega) (by omega)).mpr (by omega)⟩)) (fun c_7 => ?_)
  refine z_aload_n X (pc := 10) 0 dX3_chanceOfOther_10 rfl ?_
  refine z_get X (pc := 11) 0 2 (.ref ho) tu_3 tw_109 dX3_chanceOfOther_11 rfl rfl (by decide) rfl rfl ?_
  refine z_iload_n X (pc := 14) 1 dX3_chanceOfOther_14 rfl ?_
  refine z_lald X (pc := 15) 1 j (lN (os j)) dX3_chanceOfOther_15 rfl rfl (Nat.le_of_ble_eq_true rfl) (by omega) rfl ?_
  refine z_goto X (pc := 16) 20 dX3_chanceOfOther_16 (by decide) ?_
  exact hR.l dX3_chanceOfOther_20 ⟨rfl, rfl⟩

abbrev rm_X3_start : Room := { frames := 1, cells := 0, slots := 0, locals := 25 }
set_option maxHeartbeats 4000000 in
set_option maxRecDepth 100000 in
theorem c_X3_start (lq : Launch) (D : va_G) (t : zT) (h0 hr hn ho hc : Nat) (g0 g1 g2 g3 : Int32) (g4 g5 : Int64) (f1 f2 f3 : Nat → Int64) (en l r la ck cx : Nat) (hen : en ≤ 1) (hl : l ≤ 10) (hr9 : r ≤ 10) (hla : la ≤ 2) : Ct lq D t yX3_start cX3_start 3 none rm_X3_start [.ref h0, .ref hc, .int (nI en)] [eX3 h0 hr hn ho g0 g1 g2 g3 g4 g5, eL t hr 33 f1, eL t hn 33 f2, eL t ho 11 f3, eX0 hc (nI l) (nI r) (nI la) (nI ck) (nI cx)] 0 0 (fun rv rw_ => rv = none ∧ rw_ = [eX3 h0 hr hn ho (nI en) (nI ck) (nI cx) (nI (l + r)) (lN 4398046511104 - lN ((wst0 en l r la).2.2.1)) (lN ((wst0 en l r la).2.2.2)), eL t hr 33 (lf (fun j => (wst0 en l r la).1 j * 4 ^ 21)), eL t hn 33 f2, eL t ho 11 (lf ((wst0 en l r la).2.1)), eX0 hc (nI l) (nI r) (nI la) (nI ck) (nI cx)]) := by
  refine Ct.of (by decide) (Nat.le_of_ble_eq_true rfl) (fun k X hR => ?_)
  have X : zX D t k cX3_start 3 RX3 "start" rm_X3_start lq := X
  refine z_eq (lv2 := [(0, .ref h0), (1, .ref hc), (2, .int (nI en))]) rfl rfl rfl ?_
  refine z_aload_n X (pc := 0) 0 dX3_start_0 rfl ?_
  refine z_get X (pc := 1) 0 0 (.ref hr) tu_3 tw_107 dX3_start_1 rfl rfl (by decide) rfl rfl ?_
  refine zc_S (as := [.ref hr]) X (pc := 4) (c_X3_wipeRow lq D t hr 33 f1 (by decide)) tw_377 tw_379 tw_6 tw_378 [1] rfl rfl dX3_start_4 rfl zdX3_wipeRow ⟨rfl, rfl, Nat.le_of_ble_eq_true rfl, Nat.le_of_ble_eq_true rfl⟩ (Nat.le_of_ble_eq_true rfl) (Nat.zero_le _) (Nat.zero_le _) (fun v_1 w_2 hp_3 => ?_)
  obtain ⟨rfl, rfl⟩ := hp_3
  refine ⟨rfl, ?_⟩
  refine z_eq (ws2 := [eX3 h0 hr hn ho g0 g1 g2 g3 g4 g5, eL t hr 33 (lf (fun _ => 0)), eL t hn 33 f2, eL t ho 11 f3, eX0 hc (nI l) (nI r) (nI la) (nI ck) (nI cx)]) (st2 := []) rfl rfl rfl ?_
  refine z_aload_n X (pc := 7) 0 dX3_start_7 rfl ?_
  refine z_get X (pc := 8) 0 2 (.ref ho) tu_3 tw_109 dX3_start_8 rfl rfl (by decide) rfl rfl ?_
  refine zc_S (as := [.ref ho]) X (pc := 11) (c_X3_wipeRow lq D t ho 11 f3 (by decide)) tw_377 tw_379 tw_6 tw_378 [3] rfl rfl dX3_start_11 rfl zdX3_wipeRow ⟨rfl, rfl, Nat.le_of_ble_eq_true rfl, Nat.le_of_ble_eq_true rfl⟩ (Nat.le_of_ble_eq_true rfl) (Nat.zero_le _) (Nat.zero_le _) (fun v_4 w_5 hp_6 => ?_)
  obtain ⟨rfl, rfl⟩ := hp_6
  refine ⟨rfl, ?_⟩
  refine z_eq (ws2 := [eX3 h0 hr hn ho g0 g1 g2 g3 g4 g5, eL t hr 33 (lf (fun _ => 0)), eL t hn 33 f2, eL t ho 11 (lf (fun _ => 0)), eX0 hc (nI l) (nI r) (nI la) (nI ck) (nI cx)]) (st2 := []) rfl rfl rfl ?_
  refine z_aload_n X (pc := 14) 0 dX3_start_14 rfl ?_
  refine z_iload_n X (pc := 15) 2 dX3_start_15 rfl ?_
  refine z_put X (pc := 16) 0 3 [eX3 h0 hr hn ho (nI en) g1 g2 g3 g4 g5, eL t hr 33 (lf (fun _ => 0)), eL t hn 33 f2, eL t ho 11 (lf (fun _ => 0)), eX0 hc (nI l) (nI r) (nI la) (nI ck) (nI cx)] tu_3 tyX3_ok nmX3 tw_110 dX3_start_16 rfl rfl (by decide) rfl rfl rfl rfl (Nat.le_of_ble_eq_true rfl) rfl ?_
  refine z_aload_n X (pc := 19) 0 dX3_start_19 rfl ?_
  refine z_aload_n X (pc := 20) 1 dX3_start_20 rfl ?_
  refine z_get X (pc := 21) 4 3 (.int (nI ck)) tu_0 tw_38 dX3_start_21 rfl rfl (by decide) rfl rfl ?_
  refine z_put X (pc := 24) 0 4 [eX3 h0 hr hn ho (nI en) (nI ck) g2 g3 g4 g5, eL t hr 33 (lf (fun _ => 0)), eL t hn 33 f2, eL t ho 11 (lf (fun _ => 0)), eX0 hc (nI l) (nI r) (nI la) (nI ck) (nI cx)] tu_3 tyX3_ok nmX3 tw_111 dX3_start_24 rfl rfl (by decide) rfl rfl rfl rfl (Nat.le_of_ble_eq_true rfl) rfl ?_
  refine z_aload_n X (pc := 27) 0 dX3_start_27 rfl ?_
  refine z_aload_n X (pc := 28) 1 dX3_start_28 rfl ?_
  refine z_get X (pc := 29) 4 4 (.int (nI cx)) tu_0 tw_41 dX3_start_29 rfl rfl (by decide) rfl rfl ?_
  refine z_put X (pc := 32) 0 5 [eX3 h0 hr hn ho (nI en) (nI ck) (nI cx) g3 g4 g5, eL t hr 33 (lf (fun _ => 0)), eL t hn 33 f2, eL t ho 11 (lf (fun _ => 0)), eX0 hc (nI l) (nI r) (nI la) (nI ck) (nI cx)] tu_3 tyX3_ok nmX3 tw_112 dX3_start_32 rfl rfl (by decide) rfl rfl rfl rfl (Nat.le_of_ble_eq_true rfl) rfl ?_
  refine z_aload_n X (pc := 35) 0 dX3_start_35 rfl ?_
  refine z_aload_n X (pc := 36) 1 dX3_start_36 rfl ?_
  refine zc_V (as := []) X (pc := 37) (c_X0_matches lq D t hc l r la ck cx ) tw_380 tw_278 tw_3 tw_276 tw_277 0 0 rfl rfl [4] rfl rfl dX3_start_37 rfl zdX0_matches ⟨rfl, rfl, Nat.le_of_ble_eq_true rfl, Nat.le_of_ble_eq_true rfl⟩ (Nat.le_of_ble_eq_true rfl) (Nat.zero_le _) (Nat.zero_le _) (fun v_7 w_8 hp_9 => ?_)
  obtain ⟨rfl, rfl⟩ := hp_9
  refine ⟨rfl, ?_⟩
  refine z_eq (ws2 := [eX3 h0 hr hn ho (nI en) (nI ck) (nI cx) g3 g4 g5, eL t hr 33 (lf (fun _ => 0)), eL t hn 33 f2, eL t ho 11 (lf (fun _ => 0)), eX0 hc (nI l) (nI r) (nI la) (nI ck) (nI cx)]) (st2 := [.int (nI (l + r)), .ref h0]) rfl rfl rfl ?_
  refine z_put X (pc := 40) 0 6 [eX3 h0 hr hn ho (nI en) (nI ck) (nI cx) (nI (l + r)) g4 g5, eL t hr 33 (lf (fun _ => 0)), eL t hn 33 f2, eL t ho 11 (lf (fun _ => 0)), eX0 hc (nI l) (nI r) (nI la) (nI ck) (nI cx)] tu_3 tyX3_ok nmX3 tw_113 dX3_start_40 rfl rfl (by decide) rfl rfl rfl rfl (Nat.le_of_ble_eq_true rfl) rfl ?_
  refine z_aload_n X (pc := 43) 0 dX3_start_43 rfl ?_
  refine z_ldc2 X (pc := 44) (4398046511104) dX3_start_44 tw_381 ?_
  refine z_topl (lN 4398046511104) rfl ?_
  refine z_put X (pc := 47) 0 7 [eX3 h0 hr hn ho (nI en) (nI ck) (nI cx) (nI (l + r)) (lN 4398046511104) g5, eL t hr 33 (lf (fun _ => 0)), eL t hn 33 f2, eL t ho 11 (lf (fun _ => 0)), eX0 hc (nI l) (nI r) (nI la) (nI ck) (nI cx)] tu_3 tyX3_ok nmX3 tw_114 dX3_start_47 rfl rfl (by decide) rfl rfl rfl rfl (Nat.le_of_ble_eq_true rfl) rfl ?_
  refine z_aload_n X (pc := 50) 0 dX3_start_50 rfl ?_
  refine z_lconst X (pc := 51) (lN 0) dX3_start_51 (by decide) ?_
  refine z_put X (pc := 52) 0 8 [eX3 h0 hr hn ho (nI en) (nI ck) (nI cx) (nI (l + r)) (lN 4398046511104) (lN 0), eL t hr 33 (lf (fun _ => 0)), eL t hn 33 f2, eL t ho 11 (lf (fun _ => 0)), eX0 hc (nI l) (nI r) (nI la) (nI ck) (nI cx)] tu_3 tyX3_ok nmX3 tw_115 dX3_start_52 rfl rfl (by decide) rfl rfl rfl rfl (Nat.le_of_ble_eq_true rfl) rfl ?_
  refine z_aload_n X (pc := 55) 0 dX3_start_55 rfl ?_
  refine z_get X (pc := 56) 0 3 (.int (nI en)) tu_3 tw_110 dX3_start_56 rfl rfl (by decide) rfl rfl ?_
  refine z_iconst X (pc := 59) (nI 1) dX3_start_59 (by decide) ?_
  refine z_icmp_neN X (pc := 60) 85 (by omega) (by omega) dX3_start_60 (by decide) (fun c_60 => ?_) (fun c_60 => ?_)
  · skip
    refine z_aload_n X (pc := 85) 0 dX3_start_85 rfl ?_
    refine z_get X (pc := 86) 0 3 (.int (nI en)) tu_3 tw_110 dX3_start_86 rfl rfl (by decide) rfl rfl ?_
    refine z_iconst X (pc := 89) (nI 1) dX3_start_89 (by decide) ?_
    refine z_icmp_neN X (pc := 90) 115 (by omega) (by omega) dX3_start_90 (by decide) (fun c_90 => ?_) (fun c_90 => absurd c_90 (by omega))
    refine z_aload_n X (pc := 115) 0 dX3_start_115 rfl ?_
    refine z_get X (pc := 116) 0 0 (.ref hr) tu_3 tw_107 dX3_start_116 rfl rfl (by decide) rfl rfl ?_
    refine z_aload_n X (pc := 119) 1 dX3_start_119 rfl ?_
    refine z_get X (pc := 120) 4 0 (.int (nI l)) tu_0 tw_29 dX3_start_120 rfl rfl (by decide) rfl rfl ?_
    refine z_aload_n X (pc := 123) 1 dX3_start_123 rfl ?_
    refine z_get X (pc := 124) 4 2 (.int (nI la)) tu_0 tw_36 dX3_start_124 rfl rfl (by decide) rfl rfl ?_
    refine z_ldc2 X (pc := 127) (4398046511104) dX3_start_127 tw_381 ?_
    refine z_topl (lN 4398046511104) rfl ?_
    refine zc_S (as := [.ref hr, .int (nI l), .int (nI la), .long (lN 4398046511104)]) X (pc := 130) (c_X3_addTo lq D t hr 33 l la 4398046511104 (fun _ => 0) (by decide) (by omega)) tw_386 tw_388 tw_6 tw_387 [1] rfl rfl dX3_start_130 rfl zdX3_addTo ⟨rfl, rfl, Nat.le_of_ble_eq_true rfl, Nat.le_of_ble_eq_true rfl⟩ (Nat.le_of_ble_eq_true rfl) (Nat.zero_le _) (Nat.zero_le _) (fun v_10 w_11 hp_12 => ?_)
    obtain ⟨rfl, rfl⟩ := hp_12
    refine ⟨rfl, ?_⟩
    refine z_eq (ws2 := [eX3 h0 hr hn ho (nI en) (nI ck) (nI cx) (nI (l + r)) (lN 4398046511104) (lN 0), eL t hr 33 (lf (vup (fun _ => 0) (l * 3 + la) ((fun _ => 0) (l * 3 + la) + 4398046511104))), eL t hn 33 f2, eL t ho 11 (lf (fun _ => 0)), eX0 hc (nI l) (nI r) (nI la) (nI ck) (nI cx)]) (st2 := []) rfl rfl rfl ?_
    have he0 : wst0 en l r la = (vup (fun _ => 0) (l * 3 + la) 1, (fun _ => 0), 0, 0) := by rw [wst0, if_neg (by omega)]
    have he1 : vup (fun _ => 0) (l * 3 + la) (0 + 4398046511104) = fun j => vup (fun _ => 0) (l * 3 + la) 1 j * 4 ^ 21 := by funext j; by_cases hj : j = l * 3 + la <;> simp [vup, hj]
    refine z_eq (ws2 := [eX3 h0 hr hn ho (nI en) (nI ck) (nI cx) (nI (l + r)) (lN 4398046511104 - lN ((wst0 en l r la).2.2.1)) (lN ((wst0 en l r la).2.2.2)), eL t hr 33 (lf (fun j => (wst0 en l r la).1 j * 4 ^ 21)), eL t hn 33 f2, eL t ho 11 (lf ((wst0 en l r la).2.1)), eX0 hc (nI l) (nI r) (nI la) (nI ck) (nI cx)]) (by rw [he0, ← he1, ← lN_sub0]) rfl rfl ?_
    exact hR.v dX3_start_133 ⟨rfl, rfl⟩
  · skip
    refine z_aload_n X (pc := 63) 1 dX3_start_63 rfl ?_
    refine z_get X (pc := 64) 4 0 (.int (nI l)) tu_0 tw_29 dX3_start_64 rfl rfl (by decide) rfl rfl ?_
    refine z_if_neN X (pc := 67) 85 (by omega) dX3_start_67 (by decide) (fun c_67 => ?_) (fun c_67 => ?_)
    · skip
      refine z_aload_n X (pc := 85) 0 dX3_start_85 rfl ?_
      refine z_get X (pc := 86) 0 3 (.int (nI en)) tu_3 tw_110 dX3_start_86 rfl rfl (by decide) rfl rfl ?_
      refine z_iconst X (pc := 89) (nI 1) dX3_start_89 (by decide) ?_
      refine z_icmp_neN X (pc := 90) 115 (by omega) (by omega) dX3_start_90 (by decide) (fun c_90 => absurd c_90 (by omega)) (fun c_90 => ?_)
      refine z_aload_n X (pc := 93) 1 dX3_start_93 rfl ?_
      refine z_get X (pc := 94) 4 1 (.int (nI r)) tu_0 tw_32 dX3_start_94 rfl rfl (by decide) rfl rfl ?_
      refine z_if_neN X (pc := 97) 115 (by omega) dX3_start_97 (by decide) (fun c_97 => ?_) (fun c_97 => ?_)
      · skip
        refine z_aload_n X (pc := 115) 0 dX3_start_115 rfl ?_
        refine z_get X (pc := 116) 0 0 (.ref hr) tu_3 tw_107 dX3_start_116 rfl rfl (by decide) rfl rfl ?_
        refine z_aload_n X (pc := 119) 1 dX3_start_119 rfl ?_
        refine z_get X (pc := 120) 4 0 (.int (nI l)) tu_0 tw_29 dX3_start_120 rfl rfl (by decide) rfl rfl ?_
        refine z_aload_n X (pc := 123) 1 dX3_start_123 rfl ?_
        refine z_get X (pc := 124) 4 2 (.int (nI la)) tu_0 tw_36 dX3_start_124 rfl rfl (by decide) rfl rfl ?_
        refine z_ldc2 X (pc := 127) (4398046511104) dX3_start_127 tw_381 ?_
        refine z_topl (lN 4398046511104) rfl ?_
        refine zc_S (as := [.ref hr, .int (nI l), .int (nI la), .long (lN 4398046511104)]) X (pc := 130) (c_X3_addTo lq D t hr 33 l la 4398046511104 (fun _ => 0) (by decide) (by omega)) tw_386 tw_388 tw_6 tw_387 [1] rfl rfl dX3_start_130 rfl zdX3_addTo ⟨rfl, rfl, Nat.le_of_ble_eq_true rfl, Nat.le_of_ble_eq_true rfl⟩ (Nat.le_of_ble_eq_true rfl) (Nat.zero_le _) (Nat.zero_le _) (fun v_13 w_14 hp_15 => ?_)
        obtain ⟨rfl, rfl⟩ := hp_15
        refine ⟨rfl, ?_⟩
        refine z_eq (ws2 := [eX3 h0 hr hn ho (nI en) (nI ck) (nI cx) (nI (l + r)) (lN 4398046511104) (lN 0), eL t hr 33 (lf (vup (fun _ => 0) (l * 3 + la) ((fun _ => 0) (l * 3 + la) + 4398046511104))), eL t hn 33 f2, eL t ho 11 (lf (fun _ => 0)), eX0 hc (nI l) (nI r) (nI la) (nI ck) (nI cx)]) (st2 := []) rfl rfl rfl ?_
        have he0 : wst0 en l r la = (vup (fun _ => 0) (l * 3 + la) 1, (fun _ => 0), 0, 0) := by rw [wst0, if_neg (by omega)]
        have he1 : vup (fun _ => 0) (l * 3 + la) (0 + 4398046511104) = fun j => vup (fun _ => 0) (l * 3 + la) 1 j * 4 ^ 21 := by funext j; by_cases hj : j = l * 3 + la <;> simp [vup, hj]
        refine z_eq (ws2 := [eX3 h0 hr hn ho (nI en) (nI ck) (nI cx) (nI (l + r)) (lN 4398046511104 - lN ((wst0 en l r la).2.2.1)) (lN ((wst0 en l r la).2.2.2)), eL t hr 33 (lf (fun j => (wst0 en l r la).1 j * 4 ^ 21)), eL t hn 33 f2, eL t ho 11 (lf ((wst0 en l r la).2.1)), eX0 hc (nI l) (nI r) (nI la) (nI ck) (nI cx)]) (by rw [he0, ← he1, ← lN_sub0]) rfl rfl ?_
        exact hR.v dX3_start_133 ⟨rfl, rfl⟩
      · skip
        refine z_aload_n X (pc := 100) 0 dX3_start_100 rfl ?_
        refine z_iconst X (pc := 101) (nI 1) dX3_start_101 (by decide) ?_
        refine z_aload_n X (pc := 102) 1 dX3_start_102 rfl ?_
        refine z_get X (pc := 103) 4 0 (.int (nI l)) tu_0 tw_29 dX3_start_103 rfl rfl (by decide) rfl rfl ?_
        refine z_ldc2 X (pc := 106) (4398046511104) dX3_start_106 tw_381 ?_
        refine z_topl (lN 4398046511104) rfl ?_
        refine zc_V (as := [.int (nI 1), .int (nI l), .long (lN 4398046511104)]) X (pc := 109) (c_X3_endBy lq D t h0 hr hn ho en ck cx (nI (l + r)) (lN 4398046511104) 0 (fun _ => 0) 1 l 4398046511104 (by decide) (by omega)) tw_382 tw_385 tw_6 tw_384 tw_1014 0 3 rfl rfl [0, 3] rfl rfl dX3_start_109 rfl zdX3_endBy ⟨rfl, rfl, Nat.le_of_ble_eq_true rfl, Nat.le_of_ble_eq_true rfl⟩ (Nat.le_of_ble_eq_true rfl) (Nat.zero_le _) (Nat.zero_le _) (fun v_16 w_17 hp_18 => ?_)
        obtain ⟨rfl, rfl⟩ := hp_18
        refine ⟨rfl, ?_⟩
        refine z_eq (ws2 := [eX3 h0 hr hn ho (nI en) (nI ck) (nI cx) (nI (l + r)) ((lN 4398046511104) - lN 4398046511104) (lN (if 1 = 0 then 0 + 4398046511104 else 0)), eL t hr 33 (lf (fun _ => 0)), eL t hn 33 f2, eL t ho 11 (lf (if l ≤ 10 then vup (fun _ => 0) l ((fun _ => 0) l + 4398046511104) else (fun _ => 0))), eX0 hc (nI l) (nI r) (nI la) (nI ck) (nI cx)]) (st2 := []) rfl rfl rfl ?_
        refine z_goto X (pc := 112) 133 dX3_start_112 (by decide) ?_
        have he0 : wst0 en l r la = ((fun _ => 0), vup (fun _ => 0) (l + r) 4398046511104, 4398046511104, if l = 0 then 4398046511104 else 0) := by rw [wst0, if_pos ⟨by omega, Or.inr c_97⟩]
        refine z_eq (ws2 := [eX3 h0 hr hn ho (nI en) (nI ck) (nI cx) (nI (l + r)) (lN 4398046511104 - lN ((wst0 en l r la).2.2.1)) (lN ((wst0 en l r la).2.2.2)), eL t hr 33 (lf (fun j => (wst0 en l r la).1 j * 4 ^ 21)), eL t hn 33 f2, eL t ho 11 (lf ((wst0 en l r la).2.1)), eX0 hc (nI l) (nI r) (nI la) (nI ck) (nI cx)]) (by rw [he0, if_neg (show ¬ (1 : Nat) = 0 by decide), if_pos (show l ≤ 10 by omega)]; subst c_97; simp only [c_67, if_false, Nat.add_zero, Nat.zero_add, Nat.zero_mul]) rfl rfl ?_
        exact hR.v dX3_start_133 ⟨rfl, rfl⟩
    · skip
      refine z_aload_n X (pc := 70) 0 dX3_start_70 rfl ?_
      refine z_iconst X (pc := 71) (nI 0) dX3_start_71 (by decide) ?_
      refine z_aload_n X (pc := 72) 1 dX3_start_72 rfl ?_
      refine z_get X (pc := 73) 4 1 (.int (nI r)) tu_0 tw_32 dX3_start_73 rfl rfl (by decide) rfl rfl ?_
      refine z_ldc2 X (pc := 76) (4398046511104) dX3_start_76 tw_381 ?_
      refine z_topl (lN 4398046511104) rfl ?_
      refine zc_V (as := [.int (nI 0), .int (nI r), .long (lN 4398046511104)]) X (pc := 79) (c_X3_endBy lq D t h0 hr hn ho en ck cx (nI (l + r)) (lN 4398046511104) 0 (fun _ => 0) 0 r 4398046511104 (by decide) (by omega)) tw_382 tw_385 tw_6 tw_384 tw_1014 0 3 rfl rfl [0, 3] rfl rfl dX3_start_79 rfl zdX3_endBy ⟨rfl, rfl, Nat.le_of_ble_eq_true rfl, Nat.le_of_ble_eq_true rfl⟩ (Nat.le_of_ble_eq_true rfl) (Nat.zero_le _) (Nat.zero_le _) (fun v_19 w_20 hp_21 => ?_)
      obtain ⟨rfl, rfl⟩ := hp_21
      refine ⟨rfl, ?_⟩
      refine z_eq (ws2 := [eX3 h0 hr hn ho (nI en) (nI ck) (nI cx) (nI (l + r)) ((lN 4398046511104) - lN 4398046511104) (lN (if 0 = 0 then 0 + 4398046511104 else 0)), eL t hr 33 (lf (fun _ => 0)), eL t hn 33 f2, eL t ho 11 (lf (if r ≤ 10 then vup (fun _ => 0) r ((fun _ => 0) r + 4398046511104) else (fun _ => 0))), eX0 hc (nI l) (nI r) (nI la) (nI ck) (nI cx)]) (st2 := []) rfl rfl rfl ?_
      refine z_goto X (pc := 82) 133 dX3_start_82 (by decide) ?_
      have he0 : wst0 en l r la = ((fun _ => 0), vup (fun _ => 0) (l + r) 4398046511104, 4398046511104, if l = 0 then 4398046511104 else 0) := by rw [wst0, if_pos ⟨by omega, Or.inl c_67⟩]
      refine z_eq (ws2 := [eX3 h0 hr hn ho (nI en) (nI ck) (nI cx) (nI (l + r)) (lN 4398046511104 - lN ((wst0 en l r la).2.2.1)) (lN ((wst0 en l r la).2.2.2)), eL t hr 33 (lf (fun j => (wst0 en l r la).1 j * 4 ^ 21)), eL t hn 33 f2, eL t ho 11 (lf ((wst0 en l r la).2.1)), eX0 hc (nI l) (nI r) (nI la) (nI ck) (nI cx)]) (by rw [he0, if_pos c_67, if_pos (show r ≤ 10 by omega)]; subst c_67; simp only [if_true, Nat.zero_add, Nat.zero_mul]) rfl rfl ?_
      exact hR.v dX3_start_133 ⟨rfl, rfl⟩

abbrev rm_X3_advance : Room := { frames := 3, cells := 0, slots := 0, locals := 79 }
set_option maxHeartbeats 4000000 in
set_option maxRecDepth 100000 in
theorem c_X3_advance (lq : Launch) (D : va_G) (t : zT) (h0 hr hn ho en kd x m s : Nat) (mt : Int32) (a : wA) (f : Nat → Int64) (n : Nat) (hen : en ≤ 1) (hkd : kd ≤ 3) (hx : x ≤ 4) (hm : m ≤ 20) (hs : s ≤ 21) (hok : wok m s a) (hmt : (∃ c, c < 33 ∧ a.1 c ≠ 0) → mt = nI m) (hn9 : n ≤ 21) : Ct lq D t yX3_advance cX3_advance 3 none rm_X3_advance [.ref h0, .int (nI n)] [eX3 h0 hr hn ho (nI en) (nI kd) (nI x) mt (lN 4398046511104 - lN (a.2.2.1)) (lN a.2.2.2), eL t hr 33 (lf (fun j => a.1 j * 4 ^ s)), eL t hn 33 f, eL t ho 11 (lf a.2.1)] 0 0 (fun rv rw_ => ∃ (mt2 : Int32) (hr2 : Nat) (hn2 : Nat) (f2 : Nat → Int64), ((∃ c, c < 33 ∧ (wrun kd x en m s a n).1 c ≠ 0) → n ≤ m ∧ mt2 = nI (m - n)) ∧ rv = none ∧ rw_ = [eX3 h0 hr2 hn2 ho (nI en) (nI kd) (nI x) mt2 (lN 4398046511104 - lN ((wrun kd x en m s a n).2.2.1)) (lN ((wrun kd x en m s a n).2.2.2)), eL t hr2 33 (lf (fun j => (wrun kd x en m s a n).1 j * 4 ^ (s - n))), eL t hn2 33 f2, eL t ho 11 (lf ((wrun kd x en m s a n).2.1))]) := by
  refine Ct.of (by decide) (Nat.le_of_ble_eq_true rfl) (fun k X hR => ?_)
  have X : zX D t k cX3_advance 3 RX3 "advance" rm_X3_advance lq := X
  refine z_eq (lv2 := [(0, .ref h0), (1, .int (nI n))]) rfl rfl rfl ?_
  refine z_iconst X (pc := 0) (nI 0) dX3_advance_0 (by decide) ?_
  refine z_istore_n X (pc := 1) (i := 2) [(2, .int (nI 0)), (0, .ref h0), (1, .int (nI n))] dX3_advance_1 rfl (by decide) rfl ?_
  have loop_2 : ∀ (fuel_2 : Nat) (i : Nat) (mt : Int32) (hr : Nat) (hn : Nat) (f : Nat → Int64) (b : wA), n < i + fuel_2 → (i ≤ n) → (b = wrun kd x en m s a i) → ((∃ c, c < 33 ∧ b.1 c ≠ 0) → i ≤ m ∧ mt = nI (m - i)) → Z D k (0, 0) [eX3 h0 hr hn ho (nI en) (nI kd) (nI x) mt (lN 4398046511104 - lN (b.2.2.1)) (lN b.2.2.2), eL t hr 33 (lf (fun j => b.1 j * 4 ^ (s - i))), eL t hn 33 f, eL t ho 11 (lf b.2.1)] 2 [(0, .ref h0), (1, .int (nI n)), (2, .int (nI i))] [] := by
    intro fuel_2
    induction fuel_2 with
    | zero =>
      intro i mt hr hn f b hfuel_2 hi hb hmt
      exfalso; omega
    | succ fuel_2 ih_2 =>
      intro i mt hr hn f b hfuel_2 hi hb hmt
      have hwk := wok_run (kd := kd) (en := en) hx hok i
      rw [← hb] at hwk
      have hle := wok_le hwk
      refine z_iload_n X (pc := 2) 2 dX3_advance_2 rfl ?_
      refine z_iload_n X (pc := 3) 1 dX3_advance_3 rfl ?_
      refine z_icmp_geN X (pc := 4) 26 (by omega) (by omega) dX3_advance_4 (by decide) (fun c_4 => ?_) (fun c_4 => ?_)
      · skip
        obtain rfl : i = n := by omega
        refine z_eq (ws2 := [eX3 h0 hr hn ho (nI en) (nI kd) (nI x) mt (lN 4398046511104 - lN ((wrun kd x en m s a i).2.2.1)) (lN ((wrun kd x en m s a i).2.2.2)), eL t hr 33 (lf (fun j => (wrun kd x en m s a i).1 j * 4 ^ (s - i))), eL t hn 33 f, eL t ho 11 (lf ((wrun kd x en m s a i).2.1))]) (by rw [hb]) rfl rfl ?_
        exact hR.v dX3_advance_26 ⟨mt, hr, hn, f, by rw [← hb]; exact hmt, rfl, rfl⟩
      · skip
        refine z_aload_n X (pc := 7) 0 dX3_advance_7 rfl ?_
        refine z_get X (pc := 8) 0 7 (.long (lN 4398046511104 - lN (b.2.2.1))) tu_3 tw_114 dX3_advance_8 rfl rfl (by decide) rfl rfl ?_
        refine z_topl (lN (4398046511104 - b.2.2.1)) (lN_som hle) ?_
        refine z_lconst X (pc := 11) (lN 0) dX3_advance_11 (by decide) ?_
        refine z_lcmp_leN X (pc := 12) 26 (by omega) (by omega) dX3_advance_12 dX3_advance_13 (by decide) (fun c_12 => ?_) (fun c_12 => ?_)
        · skip
          have hde := wok_dead hwk (by omega)
          have hd2 := wrun_dead2 (by rw [← hb]; exact hde) (show i ≤ n by omega)
          refine z_lrow 1 (lf (fun j => (wrun kd x en m s a n).1 j * 4 ^ (s - n))) [eX3 h0 hr hn ho (nI en) (nI kd) (nI x) mt (lN 4398046511104 - lN (b.2.2.1)) (lN b.2.2.2), eL t hr 33 (lf (fun j => (wrun kd x en m s a n).1 j * 4 ^ (s - n))), eL t hn 33 f, eL t ho 11 (lf b.2.1)] rfl (fun j hj => by show lN (_ * _) = lN (_ * _); rw [hde j hj, hd2.2 j hj, Nat.zero_mul, Nat.zero_mul]) rfl ?_
          refine z_eq (ws2 := [eX3 h0 hr hn ho (nI en) (nI kd) (nI x) mt (lN 4398046511104 - lN ((wrun kd x en m s a n).2.2.1)) (lN ((wrun kd x en m s a n).2.2.2)), eL t hr 33 (lf (fun j => (wrun kd x en m s a n).1 j * 4 ^ (s - n))), eL t hn 33 f, eL t ho 11 (lf ((wrun kd x en m s a n).2.1))]) (by rw [hd2.1, ← hb]) rfl rfl ?_
          exact hR.v dX3_advance_26 ⟨mt, hr, hn, f, fun ⟨c, hc, z⟩ => absurd (hd2.2 c hc) z, rfl, rfl⟩
        · skip
          have hal := wok_alive hwk (by omega)
          have hms := hwk.2.2 hal
          obtain ⟨him, rfl⟩ := hmt hal
          have h4 := pow4 (show 0 < s - i by omega)
          refine z_eq (ws2 := [eX3 h0 hr hn ho (nI en) (nI kd) (nI x) (nI (m - i)) (lN 4398046511104 - lN (b.2.2.1)) (lN b.2.2.2), eL t hr 33 (lf (fun j => b.1 j * (4 * 4 ^ (s - i - 1)))), eL t hn 33 f, eL t ho 11 (lf b.2.1)]) (by rw [h4]) rfl rfl ?_
          refine z_aload_n X (pc := 16) 0 dX3_advance_16 rfl ?_
          refine zc_V (as := []) X (pc := 17) (c_X3_advanceOnce lq D t h0 hr hn ho en kd x (m - i) (4 ^ (s - i - 1)) b.1 b.2.1 b.2.2.1 b.2.2.2 f (by omega) (by omega) (by omega) (by omega) (pow4_pos _) (fun l la h1 h2 h3 => (hwk.1 l la h1 h2 h3).1) (fun c hc => by rw [← h4]; exact wok_bd hwk hc)) tw_393 tw_396 tw_6 tw_395 tw_1015 0 3 rfl rfl [0, 1, 2, 3] rfl rfl dX3_advance_17 rfl zdX3_advanceOnce ⟨rfl, rfl, Nat.le_of_ble_eq_true rfl, Nat.le_of_ble_eq_true rfl⟩ (Nat.le_of_ble_eq_true rfl) (Nat.zero_le _) (Nat.zero_le _) (fun v_1 w_2 hp_3 => ?_)
          obtain ⟨rfl, rfl⟩ := hp_3
          refine ⟨rfl, ?_⟩
          refine z_eq (ws2 := [eX3 h0 hn hr ho (nI en) (nI kd) (nI x) (nI (m - i) - nI 1) (lN 4398046511104 - lN ((cou kd x en (4 ^ (s - i - 1)) (m - i) b.1 11 (((fun _ => 0), b.2.1, b.2.2.1, b.2.2.2) : wA)).2.2.1)) (lN ((cou kd x en (4 ^ (s - i - 1)) (m - i) b.1 11 (((fun _ => 0), b.2.1, b.2.2.1, b.2.2.2) : wA)).2.2.2)), eL t hn 33 (lf (fun j => (cou kd x en (4 ^ (s - i - 1)) (m - i) b.1 11 (((fun _ => 0), b.2.1, b.2.2.1, b.2.2.2) : wA)).1 j * (4 ^ (s - i - 1)))), eL t hr 33 (lf (fun j => b.1 j * (4 * (4 ^ (s - i - 1))))), eL t ho 11 (lf ((cou kd x en (4 ^ (s - i - 1)) (m - i) b.1 11 (((fun _ => 0), b.2.1, b.2.2.1, b.2.2.2) : wA)).2.1))]) (st2 := []) rfl rfl rfl ?_
          obtain ⟨b2, hb2⟩ : ∃ bb : wA, bb = wst kd x en (m - i) (s - i) b := ⟨_, rfl⟩
          refine z_eq (ws2 := [eX3 h0 hn hr ho (nI en) (nI kd) (nI x) (nI (m - i) - nI 1) (lN 4398046511104 - lN (b2.2.2.1)) (lN b2.2.2.2), eL t hn 33 (lf (fun j => b2.1 j * 4 ^ (s - (i + 1)))), eL t hr 33 (lf (fun j => b.1 j * (4 * 4 ^ (s - i - 1)))), eL t ho 11 (lf b2.2.1)]) (by rw [hb2, wst_def]; rfl) rfl rfl ?_
          refine z_iinc X (pc := 20) (i := 2) 2 (nI (i + 1)) [(2, .int (nI (i + 1))), (0, .ref h0), (1, .int (nI n))] dX3_advance_20 rfl (nI_incc i 1) (by decide) rfl ?_
          refine z_goto X (pc := 23) 2 dX3_advance_23 (by decide) ?_
          refine z_lv [1, 2, 0] (lv2 := [(0, .ref h0), (1, .int (nI n)), (2, .int (nI (i + 1)))]) rfl ?_
          exact ih_2 (i + 1) (nI (m - i) - nI 1) hn hr (lf (fun j => b.1 j * (4 * 4 ^ (s - i - 1)))) b2 (by omega) (by omega) (by rw [hb2, hb, wrun_s]) (fun z => by rw [hb2] at z; have h9 := wst_alive hwk.1 z; exact ⟨by omega, by rw [pk_sub h9, Nat.sub_sub]⟩)
  refine z_eq (ws2 := [eX3 h0 hr hn ho (nI en) (nI kd) (nI x) mt (lN 4398046511104 - lN (a.2.2.1)) (lN a.2.2.2), eL t hr 33 (lf (fun j => a.1 j * 4 ^ (s - 0))), eL t hn 33 f, eL t ho 11 (lf a.2.1)]) (by rw [Nat.sub_zero]) rfl rfl ?_
  refine z_lv [1, 2, 0] (lv2 := [(0, .ref h0), (1, .int (nI n)), (2, .int (nI 0))]) rfl ?_
  exact loop_2 (n + 1) 0 mt hr hn f a (by omega) (by omega) (wrun_z _ _ _ _ _ _).symm (fun z => ⟨Nat.zero_le m, hmt z⟩)

abbrev rm_X3_reachesTillEnd : Room := { frames := 3, cells := 0, slots := 0, locals := 79 }
set_option maxHeartbeats 4000000 in
set_option maxRecDepth 100000 in
theorem c_X3_reachesTillEnd (lq : Launch) (D : va_G) (t : zT) (h0 hr hn ho en kd x m s : Nat) (mt : Int32) (a : wA) (f : Nat → Int64) (hen : en ≤ 1) (hkd : kd ≤ 3) (hx : x ≤ 4) (hm : m ≤ 20) (hs : s ≤ 21) (hok : wok m s a) (hmt : (∃ c, c < 33 ∧ a.1 c ≠ 0) → mt = nI m) : Ct lq D t yX3_reachesTillEnd cX3_reachesTillEnd 4 (some .long) rm_X3_reachesTillEnd [.ref h0] [eX3 h0 hr hn ho (nI en) (nI kd) (nI x) mt (lN 4398046511104 - lN (a.2.2.1)) (lN a.2.2.2), eL t hr 33 (lf (fun j => a.1 j * 4 ^ s)), eL t hn 33 f, eL t ho 11 (lf a.2.1)] 0 0 (fun rv rw_ => ∃ (mt2 : Int32) (hr2 : Nat) (hn2 : Nat) (f2 : Nat → Int64), rv = some (.long (lN (sm (fun j => 4398046511104 - (wrun kd x en m s a j).2.2.1) 21))) ∧ rw_ = [eX3 h0 hr2 hn2 ho (nI en) (nI kd) (nI x) mt2 (lN 4398046511104 - lN ((wrun kd x en m s a 21).2.2.1)) (lN ((wrun kd x en m s a 21).2.2.2)), eL t hr2 33 (lf (fun j => (wrun kd x en m s a 21).1 j * 4 ^ (s - 21))), eL t hn2 33 f2, eL t ho 11 (lf ((wrun kd x en m s a 21).2.1))]) := by
  refine Ct.of (by decide) (Nat.le_of_ble_eq_true rfl) (fun k X hR => ?_)
  have X : zX D t k cX3_reachesTillEnd 4 RX3 "reachesTillEnd" rm_X3_reachesTillEnd lq := X
  refine z_eq (lv2 := [(0, .ref h0)]) rfl rfl rfl ?_
  refine z_lconst X (pc := 0) (lN 0) dX3_reachesTillEnd_0 (by decide) ?_
  refine z_lstore_n X (pc := 1) (i := 1) [(1, .long (lN 0)), (0, .ref h0)] dX3_reachesTillEnd_1 rfl (by decide) rfl ?_
  refine z_iconst X (pc := 2) (nI 0) dX3_reachesTillEnd_2 (by decide) ?_
  refine z_istore_n X (pc := 3) (i := 3) [(3, .int (nI 0)), (1, .long (lN 0)), (0, .ref h0)] dX3_reachesTillEnd_3 rfl (by decide) rfl ?_
  have loop_4 : ∀ (fuel_4 : Nat) (i : Nat) (mt : Int32) (hr : Nat) (hn : Nat) (f : Nat → Int64) (b : wA) (su : Nat), 21 < i + fuel_4 → (i ≤ 21) → (b = wrun kd x en m s a i) → ((∃ c, c < 33 ∧ b.1 c ≠ 0) → i ≤ m ∧ mt = nI (m - i)) → (su = sm (fun j => 4398046511104 - (wrun kd x en m s a j).2.2.1) i) → Z D k (0, 0) [eX3 h0 hr hn ho (nI en) (nI kd) (nI x) mt (lN 4398046511104 - lN (b.2.2.1)) (lN b.2.2.2), eL t hr 33 (lf (fun j => b.1 j * 4 ^ (s - i))), eL t hn 33 f, eL t ho 11 (lf b.2.1)] 4 [(0, .ref h0), (1, .long (lN su)), (3, .int (nI i))] [] := by
    intro fuel_4
    induction fuel_4 with
    | zero =>
      intro i mt hr hn f b su hfuel_4 hi hb hmt hsum
      exfalso; omega
    | succ fuel_4 ih_4 =>
      intro i mt hr hn f b su hfuel_4 hi hb hmt hsum
      have hwk := wok_run (kd := kd) (en := en) hx hok i
      rw [← hb] at hwk
      have hle := wok_le hwk
      refine z_iload_n X (pc := 4) 2 dX3_reachesTillEnd_4 rfl ?_
      refine z_bipush X (pc := 5) (nI 21) dX3_reachesTillEnd_5 (by decide) ?_
      refine z_icmp_geN X (pc := 7) 36 (by omega) (by omega) dX3_reachesTillEnd_7 (by decide) (fun c_7 => ?_) (fun c_7 => ?_)
      · skip
        obtain rfl : i = 21 := by omega
        refine z_eq (ws2 := [eX3 h0 hr hn ho (nI en) (nI kd) (nI x) mt (lN 4398046511104 - lN ((wrun kd x en m s a 21).2.2.1)) (lN ((wrun kd x en m s a 21).2.2.2)), eL t hr 33 (lf (fun j => (wrun kd x en m s a 21).1 j * 4 ^ (s - 21))), eL t hn 33 f, eL t ho 11 (lf ((wrun kd x en m s a 21).2.1))]) (by rw [hb]) rfl rfl ?_
        refine z_lload_n X (pc := 36) 1 dX3_reachesTillEnd_36 rfl ?_
        exact hR.l dX3_reachesTillEnd_37 ⟨mt, hr, hn, f, by rw [hsum], rfl⟩
      · skip
        refine z_aload_n X (pc := 10) 0 dX3_reachesTillEnd_10 rfl ?_
        refine z_get X (pc := 11) 0 7 (.long (lN 4398046511104 - lN (b.2.2.1))) tu_3 tw_114 dX3_reachesTillEnd_11 rfl rfl (by decide) rfl rfl ?_
        refine z_topl (lN (4398046511104 - b.2.2.1)) (lN_som hle) ?_
        refine z_lconst X (pc := 14) (lN 0) dX3_reachesTillEnd_14 (by decide) ?_
        refine z_lcmp_leN X (pc := 15) 36 (by omega) (by omega) dX3_reachesTillEnd_15 dX3_reachesTillEnd_16 (by decide) (fun c_15 => ?_) (fun c_15 => ?_)
        · skip
          have hde := wok_dead hwk (by omega)
          have hd2 := wrun_dead2 (by rw [← hb]; exact hde) (show i ≤ 21 by omega)
          have hsu : su = sm (fun j => 4398046511104 - (wrun kd x en m s a j).2.2.1) 21 := by rw [hsum]; exact smdead (fun j h1 h2 => by rw [(wrun_dead2 (by rw [← hb]; exact hde) h1).1, ← hb]; omega) hi
          refine z_lrow 1 (lf (fun j => (wrun kd x en m s a 21).1 j * 4 ^ (s - 21))) [eX3 h0 hr hn ho (nI en) (nI kd) (nI x) mt (lN 4398046511104 - lN (b.2.2.1)) (lN b.2.2.2), eL t hr 33 (lf (fun j => (wrun kd x en m s a 21).1 j * 4 ^ (s - 21))), eL t hn 33 f, eL t ho 11 (lf b.2.1)] rfl (fun j hj => by show lN (_ * _) = lN (_ * _); rw [hde j hj, hd2.2 j hj, Nat.zero_mul, Nat.zero_mul]) rfl ?_
          refine z_eq (ws2 := [eX3 h0 hr hn ho (nI en) (nI kd) (nI x) mt (lN 4398046511104 - lN ((wrun kd x en m s a 21).2.2.1)) (lN ((wrun kd x en m s a 21).2.2.2)), eL t hr 33 (lf (fun j => (wrun kd x en m s a 21).1 j * 4 ^ (s - 21))), eL t hn 33 f, eL t ho 11 (lf ((wrun kd x en m s a 21).2.1))]) (by rw [hd2.1, ← hb]) rfl rfl ?_
          refine z_lload_n X (pc := 36) 1 dX3_reachesTillEnd_36 rfl ?_
          exact hR.l dX3_reachesTillEnd_37 ⟨mt, hr, hn, f, by rw [hsu], rfl⟩
        · skip
          refine z_lload_n X (pc := 19) 1 dX3_reachesTillEnd_19 rfl ?_
          refine z_aload_n X (pc := 20) 0 dX3_reachesTillEnd_20 rfl ?_
          refine z_get X (pc := 21) 0 7 (.long (lN 4398046511104 - lN (b.2.2.1))) tu_3 tw_114 dX3_reachesTillEnd_21 rfl rfl (by decide) rfl rfl ?_
          refine z_topl (lN (4398046511104 - b.2.2.1)) (lN_som hle) ?_
          refine z_ladd X (pc := 24) (v := (lN (su + (4398046511104 - b.2.2.1)))) dX3_reachesTillEnd_24 (lN_add su (4398046511104 - b.2.2.1)) ?_
          refine z_lstore_n X (pc := 25) (i := 1) [(1, .long (lN (su + (4398046511104 - b.2.2.1)))), (0, .ref h0), (3, .int (nI i))] dX3_reachesTillEnd_25 rfl (by decide) rfl ?_
          have hal := wok_alive hwk (by omega)
          have hms := hwk.2.2 hal
          obtain ⟨him, rfl⟩ := hmt hal
          have h4 := pow4 (show 0 < s - i by omega)
          refine z_eq (ws2 := [eX3 h0 hr hn ho (nI en) (nI kd) (nI x) (nI (m - i)) (lN 4398046511104 - lN (b.2.2.1)) (lN b.2.2.2), eL t hr 33 (lf (fun j => b.1 j * (4 * 4 ^ (s - i - 1)))), eL t hn 33 f, eL t ho 11 (lf b.2.1)]) (by rw [h4]) rfl rfl ?_
          refine z_aload_n X (pc := 26) 1 dX3_reachesTillEnd_26 rfl ?_
          refine zc_V (as := []) X (pc := 27) (c_X3_advanceOnce lq D t h0 hr hn ho en kd x (m - i) (4 ^ (s - i - 1)) b.1 b.2.1 b.2.2.1 b.2.2.2 f (by omega) (by omega) (by omega) (by omega) (pow4_pos _) (fun l la h1 h2 h3 => (hwk.1 l la h1 h2 h3).1) (fun c hc => by rw [← h4]; exact wok_bd hwk hc)) tw_393 tw_396 tw_6 tw_395 tw_1015 0 3 rfl rfl [0, 1, 2, 3] rfl rfl dX3_reachesTillEnd_27 rfl zdX3_advanceOnce ⟨rfl, rfl, Nat.le_of_ble_eq_true rfl, Nat.le_of_ble_eq_true rfl⟩ (Nat.le_of_ble_eq_true rfl) (Nat.zero_le _) (Nat.zero_le _) (fun v_1 w_2 hp_3 => ?_)
          obtain ⟨rfl, rfl⟩ := hp_3
          refine ⟨rfl, ?_⟩
          refine z_eq (ws2 := [eX3 h0 hn hr ho (nI en) (nI kd) (nI x) (nI (m - i) - nI 1) (lN 4398046511104 - lN ((cou kd x en (4 ^ (s - i - 1)) (m - i) b.1 11 (((fun _ => 0), b.2.1, b.2.2.1, b.2.2.2) : wA)).2.2.1)) (lN ((cou kd x en (4 ^ (s - i - 1)) (m - i) b.1 11 (((fun _ => 0), b.2.1, b.2.2.1, b.2.2.2) : wA)).2.2.2)), eL t hn 33 (lf (fun j => (cou kd x en (4 ^ (s - i - 1)) (m - i) b.1 11 (((fun _ => 0), b.2.1, b.2.2.1, b.2.2.2) : wA)).1 j * (4 ^ (s - i - 1)))), eL t hr 33 (lf (fun j => b.1 j * (4 * (4 ^ (s - i - 1))))), eL t ho 11 (lf ((cou kd x en (4 ^ (s - i - 1)) (m - i) b.1 11 (((fun _ => 0), b.2.1, b.2.2.1, b.2.2.2) : wA)).2.1))]) (st2 := []) rfl rfl rfl ?_
          obtain ⟨b2, hb2⟩ : ∃ bb : wA, bb = wst kd x en (m - i) (s - i) b := ⟨_, rfl⟩
          refine z_eq (ws2 := [eX3 h0 hn hr ho (nI en) (nI kd) (nI x) (nI (m - i) - nI 1) (lN 4398046511104 - lN (b2.2.2.1)) (lN b2.2.2.2), eL t hn 33 (lf (fun j => b2.1 j * 4 ^ (s - (i + 1)))), eL t hr 33 (lf (fun j => b.1 j * (4 * 4 ^ (s - i - 1)))), eL t ho 11 (lf b2.2.1)]) (by rw [hb2, wst_def]; rfl) rfl rfl ?_
          refine z_iinc X (pc := 30) (i := 3) 2 (nI (i + 1)) [(3, .int (nI (i + 1))), (1, .long (lN (su + (4398046511104 - b.2.2.1)))), (0, .ref h0)] dX3_reachesTillEnd_30 rfl (nI_incc i 1) (by decide) rfl ?_
          refine z_goto X (pc := 33) 4 dX3_reachesTillEnd_33 (by decide) ?_
          refine z_lv [2, 1, 0] (lv2 := [(0, .ref h0), (1, .long (lN (su + (4398046511104 - b.2.2.1)))), (3, .int (nI (i + 1)))]) rfl ?_
          exact ih_4 (i + 1) (nI (m - i) - nI 1) hn hr (lf (fun j => b.1 j * (4 * 4 ^ (s - i - 1)))) b2 (su + (4398046511104 - b.2.2.1)) (by omega) (by omega) (by rw [hb2, hb, wrun_s]) (fun z => by rw [hb2] at z; have h9 := wst_alive hwk.1 z; exact ⟨by omega, by rw [pk_sub h9, Nat.sub_sub]⟩) (by rw [sm_s, hsum, hb])
  refine z_eq (ws2 := [eX3 h0 hr hn ho (nI en) (nI kd) (nI x) mt (lN 4398046511104 - lN (a.2.2.1)) (lN a.2.2.2), eL t hr 33 (lf (fun j => a.1 j * 4 ^ (s - 0))), eL t hn 33 f, eL t ho 11 (lf a.2.1)]) (by rw [Nat.sub_zero]) rfl rfl ?_
  refine z_lv [2, 1, 0] (lv2 := [(0, .ref h0), (1, .long (lN 0)), (3, .int (nI 0))]) rfl ?_
  exact loop_4 (21 + 1) 0 mt hr hn f a 0 (by omega) (by omega) (wrun_z _ _ _ _ _ _).symm (fun z => ⟨Nat.zero_le m, hmt z⟩) (sm_z _).symm

abbrev rm_X3_keepOnly : Room := { frames := 0, cells := 0, slots := 0, locals := 0 }
set_option maxHeartbeats 4000000 in
set_option maxRecDepth 100000 in
theorem c_X3_keepOnly (lq : Launch) (D : va_G) (t : zT) (h0 hr hn ho en kd x il ir m Q : Nat) (mt : Int32) (so el : Int64) (w : Nat → Nat) (hil : il ≤ 10) (hir : ir ≤ 10) (hm : m ≤ 20) (hmt : (∃ c, c < 33 ∧ w c ≠ 0) → mt = nI m) (hsup : sup m w) : Ct lq D t yX3_keepOnly cX3_keepOnly 7 none rm_X3_keepOnly [.ref h0, .int (nI il), .int (nI ir)] [eX3 h0 hr hn ho (nI en) (nI kd) (nI x) mt so el, eL t hr 33 (lf (fun j => w j * Q))] 0 0 (fun rv rw_ => rv = none ∧ rw_ = [eX3 h0 hr hn ho (nI en) (nI kd) (nI x) mt (lN (sm (kfl m il ir w) 33 * Q)) el, eL t hr 33 (lf (fun j => kfl m il ir w j * Q))]) := by
  refine Ct.of (by decide) (Nat.le_of_ble_eq_true rfl) (fun k X hR => ?_)
  have X : zX D t k cX3_keepOnly 7 RX3 "keepOnly" rm_X3_keepOnly lq := X
  refine z_eq (lv2 := [(0, .ref h0), (1, .int (nI il)), (2, .int (nI ir))]) rfl rfl rfl ?_
  refine z_aload_n X (pc := 0) 0 dX3_keepOnly_0 rfl ?_
  refine z_lconst X (pc := 1) (lN 0) dX3_keepOnly_1 (by decide) ?_
  refine z_put X (pc := 2) 0 7 [eX3 h0 hr hn ho (nI en) (nI kd) (nI x) mt (lN 0) el, eL t hr 33 (lf (fun j => w j * Q))] tu_3 tyX3_ok nmX3 tw_114 dX3_keepOnly_2 rfl rfl (by decide) rfl rfl rfl rfl (Nat.le_of_ble_eq_true rfl) rfl ?_
  refine z_iconst X (pc := 5) (nI 0) dX3_keepOnly_5 (by decide) ?_
  refine z_istore_n X (pc := 6) (i := 3) [(3, .int (nI 0)), (0, .ref h0), (1, .int (nI il)), (2, .int (nI ir))] dX3_keepOnly_6 rfl (by decide) rfl ?_
  have loop_7 : ∀ (fuel_7 : Nat) (l : Nat), 11 < l + fuel_7 → (l ≤ 11) → Z D k (0, 0) [eX3 h0 hr hn ho (nI en) (nI kd) (nI x) mt (lN (sm (kfl m il ir w) (l * 3) * Q)) el, eL t hr 33 (lf (kmix m il ir w Q (l * 3)))] 7 [(0, .ref h0), (1, .int (nI il)), (2, .int (nI ir)), (3, .int (nI l))] [] := by
    intro fuel_7
    induction fuel_7 with
    | zero =>
      intro l hfuel_7 hl
      exfalso; omega
    | succ fuel_7 ih_7 =>
      intro l hfuel_7 hl
      refine z_iload_n X (pc := 7) 3 dX3_keepOnly_7 rfl ?_
      refine z_bipush X (pc := 8) (nI 10) dX3_keepOnly_8 (by decide) ?_
      refine z_icmp_gtN X (pc := 10) 96 (by omega) (by omega) dX3_keepOnly_10 (by decide) (fun c_10 => ?_) (fun c_10 => ?_)
      · skip
        obtain rfl : l = 11 := by omega
        refine z_lrow 1 (lf (fun j => kfl m il ir w j * Q)) [eX3 h0 hr hn ho (nI en) (nI kd) (nI x) mt (lN (sm (kfl m il ir w) (33) * Q)) el, eL t hr 33 (lf (fun j => kfl m il ir w j * Q))] rfl (fun j hj => by show lN (kmix m il ir w Q (11 * 3) j) = lN (_ * _); unfold kmix; rw [if_pos hj]) rfl ?_
        exact hR.v dX3_keepOnly_96 ⟨rfl, rfl⟩
      · skip
        refine z_iload_n X (pc := 13) 3 dX3_keepOnly_13 rfl ?_
        refine z_iload_n X (pc := 14) 1 dX3_keepOnly_14 rfl ?_
        refine z_icmp_neN X (pc := 15) 32 (by omega) (by omega) dX3_keepOnly_15 (by decide) (fun c_15 => ?_) (fun c_15 => ?_)
        · skip
          refine z_iconst X (pc := 32) (nI 0) dX3_keepOnly_32 (by decide) ?_
          refine z_istore X (pc := 33) (i := 4) [(4, .int (nI 0)), (0, .ref h0), (1, .int (nI il)), (2, .int (nI ir)), (3, .int (nI l))] dX3_keepOnly_33 trivial (by decide) rfl ?_
          refine z_iconst X (pc := 35) (nI 0) dX3_keepOnly_35 (by decide) ?_
          refine z_istore X (pc := 36) (i := 5) [(5, .int (nI 0)), (4, .int (nI 0)), (0, .ref h0), (1, .int (nI il)), (2, .int (nI ir)), (3, .int (nI l))] dX3_keepOnly_36 trivial (by decide) rfl ?_
          have loop_38 : ∀ (fuel_38 : Nat) (la : Nat), 3 < la + fuel_38 → (la ≤ 3) → Z D k (0, 0) [eX3 h0 hr hn ho (nI en) (nI kd) (nI x) mt (lN (sm (kfl m il ir w) (l * 3 + la) * Q)) el, eL t hr 33 (lf (kmix m il ir w Q (l * 3 + la)))] 38 [(0, .ref h0), (1, .int (nI il)), (2, .int (nI ir)), (3, .int (nI l)), (4, .int (nI 0)), (5, .int (nI la))] [] := by
            intro fuel_38
            induction fuel_38 with
            | zero =>
              intro la hfuel_38 hla
              exfalso; omega
            | succ fuel_38 ih_38 =>
              intro la hfuel_38 hla
              refine z_iload X (pc := 38) 5 dX3_keepOnly_38 rfl ?_
              refine z_iconst X (pc := 40) (nI 3) dX3_keepOnly_40 (by decide) ?_
              refine z_icmp_geN X (pc := 41) 90 (by omega) (by omega) dX3_keepOnly_41 (by decide) (fun c_41 => ?_) (fun c_41 => ?_)
              · skip
                refine z_iinc X (pc := 90) (i := 3) 3 (nI (l + 1)) [(3, .int (nI (l + 1))), (0, .ref h0), (1, .int (nI il)), (2, .int (nI ir)), (4, .int (nI 0)), (5, .int (nI la))] dX3_keepOnly_90 rfl (nI_incc l 1) (by decide) rfl ?_
                refine z_goto X (pc := 93) 7 dX3_keepOnly_93 (by decide) ?_
                obtain rfl : la = 3 := by omega
                refine z_eq (ws2 := [eX3 h0 hr hn ho (nI en) (nI kd) (nI x) mt (lN (sm (kfl m il ir w) ((l + 1) * 3) * Q)) el, eL t hr 33 (lf (kmix m il ir w Q ((l + 1) * 3)))]) (by rw [show (l + 1) * 3 = l * 3 + 3 by omega]) rfl rfl ?_
                refine z_lv [1, 2, 3, 0] (lv2 := [(0, .ref h0), (1, .int (nI il)), (2, .int (nI ir)), (3, .int (nI (l + 1)))]) rfl ?_
                exact ih_7 (l + 1) (by omega) (by omega)
              · skip
                have hs9 : w (l * 3 + la) ≠ 0 → mt = nI m ∧ l ≤ m := fun z => ⟨hmt ⟨l * 3 + la, by omega, z⟩, (hsup l la (by omega) (by omega) z).1⟩
                have hks := kfl_not (il := il) (ir := ir) (by omega) (by omega) hir hm hs9 (fun z => c_15 z.1)
                refine z_iload_n X (pc := 44) 3 dX3_keepOnly_44 rfl ?_
                refine z_iconst X (pc := 45) (nI 3) dX3_keepOnly_45 (by decide) ?_
                refine z_imul X (pc := 46) (v := (nI (l * 3))) dX3_keepOnly_46 (pk_mul _ _) ?_
                refine z_iload X (pc := 47) 5 dX3_keepOnly_47 rfl ?_
                refine z_iadd X (pc := 49) (v := (nI (l * 3 + la))) dX3_keepOnly_49 (nI_add (l * 3) la) ?_
                refine z_istore X (pc := 50) (i := 6) [(6, .int (nI (l * 3 + la))), (0, .ref h0), (1, .int (nI il)), (2, .int (nI ir)), (3, .int (nI l)), (4, .int (nI 0)), (5, .int (nI la))] dX3_keepOnly_50 trivial (by decide) rfl ?_
                refine z_iload X (pc := 52) 5 dX3_keepOnly_52 rfl ?_
                refine z_if_eqN X (pc := 54) 76 (by omega) dX3_keepOnly_54 (by decide) (fun c_54 => ?_) (fun c_54 => absurd c_54 (by decide))
                refine z_aload_n X (pc := 76) 1 dX3_keepOnly_76 rfl ?_
                refine z_get X (pc := 77) 0 0 (.ref hr) tu_3 tw_107 dX3_keepOnly_77 rfl rfl (by decide) rfl rfl ?_
                refine z_iload X (pc := 80) 0 dX3_keepOnly_80 rfl ?_
                refine z_lconst X (pc := 82) (lN 0) dX3_keepOnly_82 (by decide) ?_
                refine z_last X (pc := 83) 1 (l * 3 + la) (lf (kmix m il ir w Q (l * 3 + (la + 1)))) [eX3 h0 hr hn ho (nI en) (nI kd) (nI x) mt (lN (sm (kfl m il ir w) (l * 3 + la) * Q)) el, eL t hr 33 (lf (kmix m il ir w Q (l * 3 + (la + 1))))] dX3_keepOnly_83 rfl rfl (Nat.le_of_ble_eq_true rfl) (by omega) (by rw [updL_lf, kmix_put hks]; rfl) rfl ?_
                refine z_iinc X (pc := 84) (i := 5) 6 (nI (la + 1)) [(5, .int (nI (la + 1))), (6, .int (nI (l * 3 + la))), (0, .ref h0), (1, .int (nI il)), (2, .int (nI ir)), (3, .int (nI l)), (4, .int (nI 0))] dX3_keepOnly_84 rfl (nI_incc la 1) (by decide) rfl ?_
                refine z_goto X (pc := 87) 38 dX3_keepOnly_87 (by decide) ?_
                refine z_eq (ws2 := [eX3 h0 hr hn ho (nI en) (nI kd) (nI x) mt (lN (sm (kfl m il ir w) (l * 3 + (la + 1)) * Q)) el, eL t hr 33 (lf (kmix m il ir w Q (l * 3 + (la + 1))))]) (by rw [← Nat.add_assoc, sm_s, ← hks, Nat.add_zero (sm (kfl m il ir w) (l * 3 + la))]) rfl rfl ?_
                refine z_lv [2, 3, 4, 5, 6, 0] (lv2 := [(0, .ref h0), (1, .int (nI il)), (2, .int (nI ir)), (3, .int (nI l)), (4, .int (nI 0)), (5, .int (nI (la + 1)))]) rfl ?_
                exact ih_38 (la + 1) (by omega) (by omega)
          refine z_lv [2, 3, 4, 5, 1, 0] (lv2 := [(0, .ref h0), (1, .int (nI il)), (2, .int (nI ir)), (3, .int (nI l)), (4, .int (nI 0)), (5, .int (nI 0))]) rfl ?_
          exact loop_38 4 0 (by omega) (by omega)
        · skip
          refine z_aload_n X (pc := 18) 0 dX3_keepOnly_18 rfl ?_
          refine z_get X (pc := 19) 0 6 (.int mt) tu_3 tw_113 dX3_keepOnly_19 rfl rfl (by decide) rfl rfl ?_
          refine z_iload_n X (pc := 22) 3 dX3_keepOnly_22 rfl ?_
          refine z_isub X (pc := 23) (v := (mt - (nI l))) dX3_keepOnly_23 rfl ?_
          refine z_iload_n X (pc := 24) 2 dX3_keepOnly_24 rfl ?_
          refine z_icmp_ne X (pc := 25) 32 dX3_keepOnly_25 (by decide) (fun c_25 => ?_) (fun c_25 => ?_)
          · skip
            refine z_iconst X (pc := 32) (nI 0) dX3_keepOnly_32 (by decide) ?_
            refine z_istore X (pc := 33) (i := 4) [(4, .int (nI 0)), (0, .ref h0), (1, .int (nI il)), (2, .int (nI ir)), (3, .int (nI l))] dX3_keepOnly_33 trivial (by decide) rfl ?_
            refine z_iconst X (pc := 35) (nI 0) dX3_keepOnly_35 (by decide) ?_
            refine z_istore X (pc := 36) (i := 5) [(5, .int (nI 0)), (4, .int (nI 0)), (0, .ref h0), (1, .int (nI il)), (2, .int (nI ir)), (3, .int (nI l))] dX3_keepOnly_36 trivial (by decide) rfl ?_
            have loop_38 : ∀ (fuel_38 : Nat) (la : Nat), 3 < la + fuel_38 → (la ≤ 3) → Z D k (0, 0) [eX3 h0 hr hn ho (nI en) (nI kd) (nI x) mt (lN (sm (kfl m il ir w) (l * 3 + la) * Q)) el, eL t hr 33 (lf (kmix m il ir w Q (l * 3 + la)))] 38 [(0, .ref h0), (1, .int (nI il)), (2, .int (nI ir)), (3, .int (nI l)), (4, .int (nI 0)), (5, .int (nI la))] [] := by
              intro fuel_38
              induction fuel_38 with
              | zero =>
                intro la hfuel_38 hla
                exfalso; omega
              | succ fuel_38 ih_38 =>
                intro la hfuel_38 hla
                refine z_iload X (pc := 38) 5 dX3_keepOnly_38 rfl ?_
                refine z_iconst X (pc := 40) (nI 3) dX3_keepOnly_40 (by decide) ?_
                refine z_icmp_geN X (pc := 41) 90 (by omega) (by omega) dX3_keepOnly_41 (by decide) (fun c_41 => ?_) (fun c_41 => ?_)
                · skip
                  refine z_iinc X (pc := 90) (i := 3) 3 (nI (l + 1)) [(3, .int (nI (l + 1))), (0, .ref h0), (1, .int (nI il)), (2, .int (nI ir)), (4, .int (nI 0)), (5, .int (nI la))] dX3_keepOnly_90 rfl (nI_incc l 1) (by decide) rfl ?_
                  refine z_goto X (pc := 93) 7 dX3_keepOnly_93 (by decide) ?_
                  obtain rfl : la = 3 := by omega
                  refine z_eq (ws2 := [eX3 h0 hr hn ho (nI en) (nI kd) (nI x) mt (lN (sm (kfl m il ir w) ((l + 1) * 3) * Q)) el, eL t hr 33 (lf (kmix m il ir w Q ((l + 1) * 3)))]) (by rw [show (l + 1) * 3 = l * 3 + 3 by omega]) rfl rfl ?_
                  refine z_lv [1, 2, 3, 0] (lv2 := [(0, .ref h0), (1, .int (nI il)), (2, .int (nI ir)), (3, .int (nI (l + 1)))]) rfl ?_
                  exact ih_7 (l + 1) (by omega) (by omega)
                · skip
                  have hs9 : w (l * 3 + la) ≠ 0 → mt = nI m ∧ l ≤ m := fun z => ⟨hmt ⟨l * 3 + la, by omega, z⟩, (hsup l la (by omega) (by omega) z).1⟩
                  have hks := kfl_not (il := il) (ir := ir) (by omega) (by omega) hir hm hs9 (fun z => c_25 z.2)
                  refine z_iload_n X (pc := 44) 3 dX3_keepOnly_44 rfl ?_
                  refine z_iconst X (pc := 45) (nI 3) dX3_keepOnly_45 (by decide) ?_
                  refine z_imul X (pc := 46) (v := (nI (l * 3))) dX3_keepOnly_46 (pk_mul _ _) ?_
                  refine z_iload X (pc := 47) 5 dX3_keepOnly_47 rfl ?_
                  refine z_iadd X (pc := 49) (v := (nI (l * 3 + la))) dX3_keepOnly_49 (nI_add (l * 3) la) ?_
                  refine z_istore X (pc := 50) (i := 6) [(6, .int (nI (l * 3 + la))), (0, .ref h0), (1, .int (nI il)), (2, .int (nI ir)), (3, .int (nI l)), (4, .int (nI 0)), (5, .int (nI la))] dX3_keepOnly_50 trivial (by decide) rfl ?_
                  refine z_iload X (pc := 52) 5 dX3_keepOnly_52 rfl ?_
                  refine z_if_eqN X (pc := 54) 76 (by omega) dX3_keepOnly_54 (by decide) (fun c_54 => ?_) (fun c_54 => absurd c_54 (by decide))
                  refine z_aload_n X (pc := 76) 1 dX3_keepOnly_76 rfl ?_
                  refine z_get X (pc := 77) 0 0 (.ref hr) tu_3 tw_107 dX3_keepOnly_77 rfl rfl (by decide) rfl rfl ?_
                  refine z_iload X (pc := 80) 0 dX3_keepOnly_80 rfl ?_
                  refine z_lconst X (pc := 82) (lN 0) dX3_keepOnly_82 (by decide) ?_
                  refine z_last X (pc := 83) 1 (l * 3 + la) (lf (kmix m il ir w Q (l * 3 + (la + 1)))) [eX3 h0 hr hn ho (nI en) (nI kd) (nI x) mt (lN (sm (kfl m il ir w) (l * 3 + la) * Q)) el, eL t hr 33 (lf (kmix m il ir w Q (l * 3 + (la + 1))))] dX3_keepOnly_83 rfl rfl (Nat.le_of_ble_eq_true rfl) (by omega) (by rw [updL_lf, kmix_put hks]; rfl) rfl ?_
                  refine z_iinc X (pc := 84) (i := 5) 6 (nI (la + 1)) [(5, .int (nI (la + 1))), (6, .int (nI (l * 3 + la))), (0, .ref h0), (1, .int (nI il)), (2, .int (nI ir)), (3, .int (nI l)), (4, .int (nI 0))] dX3_keepOnly_84 rfl (nI_incc la 1) (by decide) rfl ?_
                  refine z_goto X (pc := 87) 38 dX3_keepOnly_87 (by decide) ?_
                  refine z_eq (ws2 := [eX3 h0 hr hn ho (nI en) (nI kd) (nI x) mt (lN (sm (kfl m il ir w) (l * 3 + (la + 1)) * Q)) el, eL t hr 33 (lf (kmix m il ir w Q (l * 3 + (la + 1))))]) (by rw [← Nat.add_assoc, sm_s, ← hks, Nat.add_zero (sm (kfl m il ir w) (l * 3 + la))]) rfl rfl ?_
                  refine z_lv [2, 3, 4, 5, 6, 0] (lv2 := [(0, .ref h0), (1, .int (nI il)), (2, .int (nI ir)), (3, .int (nI l)), (4, .int (nI 0)), (5, .int (nI (la + 1)))]) rfl ?_
                  exact ih_38 (la + 1) (by omega) (by omega)
            refine z_lv [2, 3, 4, 5, 1, 0] (lv2 := [(0, .ref h0), (1, .int (nI il)), (2, .int (nI ir)), (3, .int (nI l)), (4, .int (nI 0)), (5, .int (nI 0))]) rfl ?_
            exact loop_38 4 0 (by omega) (by omega)
          · skip
            refine z_iconst X (pc := 28) (nI 1) dX3_keepOnly_28 (by decide) ?_
            refine z_goto X (pc := 29) 33 dX3_keepOnly_29 (by decide) ?_
            refine z_istore X (pc := 33) (i := 4) [(4, .int (nI 1)), (0, .ref h0), (1, .int (nI il)), (2, .int (nI ir)), (3, .int (nI l))] dX3_keepOnly_33 trivial (by decide) rfl ?_
            refine z_iconst X (pc := 35) (nI 0) dX3_keepOnly_35 (by decide) ?_
            refine z_istore X (pc := 36) (i := 5) [(5, .int (nI 0)), (4, .int (nI 1)), (0, .ref h0), (1, .int (nI il)), (2, .int (nI ir)), (3, .int (nI l))] dX3_keepOnly_36 trivial (by decide) rfl ?_
            have loop_38 : ∀ (fuel_38 : Nat) (la : Nat), 3 < la + fuel_38 → (la ≤ 3) → Z D k (0, 0) [eX3 h0 hr hn ho (nI en) (nI kd) (nI x) mt (lN (sm (kfl m il ir w) (l * 3 + la) * Q)) el, eL t hr 33 (lf (kmix m il ir w Q (l * 3 + la)))] 38 [(0, .ref h0), (1, .int (nI il)), (2, .int (nI ir)), (3, .int (nI l)), (4, .int (nI 1)), (5, .int (nI la))] [] := by
              intro fuel_38
              induction fuel_38 with
              | zero =>
                intro la hfuel_38 hla
                exfalso; omega
              | succ fuel_38 ih_38 =>
                intro la hfuel_38 hla
                refine z_iload X (pc := 38) 5 dX3_keepOnly_38 rfl ?_
                refine z_iconst X (pc := 40) (nI 3) dX3_keepOnly_40 (by decide) ?_
                refine z_icmp_geN X (pc := 41) 90 (by omega) (by omega) dX3_keepOnly_41 (by decide) (fun c_41 => ?_) (fun c_41 => ?_)
                · skip
                  refine z_iinc X (pc := 90) (i := 3) 3 (nI (l + 1)) [(3, .int (nI (l + 1))), (0, .ref h0), (1, .int (nI il)), (2, .int (nI ir)), (4, .int (nI 1)), (5, .int (nI la))] dX3_keepOnly_90 rfl (nI_incc l 1) (by decide) rfl ?_
                  refine z_goto X (pc := 93) 7 dX3_keepOnly_93 (by decide) ?_
                  obtain rfl : la = 3 := by omega
                  refine z_eq (ws2 := [eX3 h0 hr hn ho (nI en) (nI kd) (nI x) mt (lN (sm (kfl m il ir w) ((l + 1) * 3) * Q)) el, eL t hr 33 (lf (kmix m il ir w Q ((l + 1) * 3)))]) (by rw [show (l + 1) * 3 = l * 3 + 3 by omega]) rfl rfl ?_
                  refine z_lv [1, 2, 3, 0] (lv2 := [(0, .ref h0), (1, .int (nI il)), (2, .int (nI ir)), (3, .int (nI (l + 1)))]) rfl ?_
                  exact ih_7 (l + 1) (by omega) (by omega)
                · skip
                  have hs9 : w (l * 3 + la) ≠ 0 → mt = nI m ∧ l ≤ m := fun z => ⟨hmt ⟨l * 3 + la, by omega, z⟩, (hsup l la (by omega) (by omega) z).1⟩
                  have hks := kfl_same (by omega) (by omega) hir hm hs9 c_15 c_25
                  refine z_iload_n X (pc := 44) 3 dX3_keepOnly_44 rfl ?_
                  refine z_iconst X (pc := 45) (nI 3) dX3_keepOnly_45 (by decide) ?_
                  refine z_imul X (pc := 46) (v := (nI (l * 3))) dX3_keepOnly_46 (pk_mul _ _) ?_
                  refine z_iload X (pc := 47) 5 dX3_keepOnly_47 rfl ?_
                  refine z_iadd X (pc := 49) (v := (nI (l * 3 + la))) dX3_keepOnly_49 (nI_add (l * 3) la) ?_
                  refine z_istore X (pc := 50) (i := 6) [(6, .int (nI (l * 3 + la))), (0, .ref h0), (1, .int (nI il)), (2, .int (nI ir)), (3, .int (nI l)), (4, .int (nI 1)), (5, .int (nI la))] dX3_keepOnly_50 trivial (by decide) rfl ?_
                  refine z_iload X (pc := 52) 5 dX3_keepOnly_52 rfl ?_
                  refine z_if_eqN X (pc := 54) 76 (by omega) dX3_keepOnly_54 (by decide) (fun c_54 => absurd c_54 (by decide)) (fun c_54 => ?_)
                  refine z_aload_n X (pc := 57) 1 dX3_keepOnly_57 rfl ?_
                  refine z_dup X (pc := 58) dX3_keepOnly_58 rfl ?_
                  refine z_get X (pc := 59) 0 7 (.long (lN (sm (kfl m il ir w) (l * 3 + la) * Q))) tu_3 tw_114 dX3_keepOnly_59 rfl rfl (by decide) rfl rfl ?_
                  refine z_aload_n X (pc := 62) 1 dX3_keepOnly_62 rfl ?_
                  refine z_get X (pc := 63) 0 0 (.ref hr) tu_3 tw_107 dX3_keepOnly_63 rfl rfl (by decide) rfl rfl ?_
                  refine z_iload X (pc := 66) 0 dX3_keepOnly_66 rfl ?_
                  refine z_lald X (pc := 68) 1 (l * 3 + la) (lN (w (l * 3 + la) * Q)) dX3_keepOnly_68 rfl rfl (Nat.le_of_ble_eq_true rfl) (by omega) (by show lN (kmix m il ir w Q (l * 3 + la) (l * 3 + la)) = _; rw [kmix_at]) ?_
                  refine z_ladd X (pc := 69) (v := (lN (sm (kfl m il ir w) (l * 3 + la) * Q + (w (l * 3 + la) * Q)))) dX3_keepOnly_69 (lN_add (sm (kfl m il ir w) (l * 3 + la) * Q) (w (l * 3 + la) * Q)) ?_
                  refine z_put X (pc := 70) 0 7 [eX3 h0 hr hn ho (nI en) (nI kd) (nI x) mt (lN (sm (kfl m il ir w) (l * 3 + la) * Q + (w (l * 3 + la) * Q))) el, eL t hr 33 (lf (kmix m il ir w Q (l * 3 + la)))] tu_3 tyX3_ok nmX3 tw_114 dX3_keepOnly_70 rfl rfl (by decide) rfl rfl rfl rfl (Nat.le_of_ble_eq_true rfl) rfl ?_
                  refine z_goto X (pc := 73) 84 dX3_keepOnly_73 (by decide) ?_
                  refine z_iinc X (pc := 84) (i := 5) 6 (nI (la + 1)) [(5, .int (nI (la + 1))), (6, .int (nI (l * 3 + la))), (0, .ref h0), (1, .int (nI il)), (2, .int (nI ir)), (3, .int (nI l)), (4, .int (nI 1))] dX3_keepOnly_84 rfl (nI_incc la 1) (by decide) rfl ?_
                  refine z_goto X (pc := 87) 38 dX3_keepOnly_87 (by decide) ?_
                  refine z_eq (ws2 := [eX3 h0 hr hn ho (nI en) (nI kd) (nI x) mt (lN (sm (kfl m il ir w) (l * 3 + (la + 1)) * Q)) el, eL t hr 33 (lf (kmix m il ir w Q (l * 3 + (la + 1))))]) (by rw [← Nat.add_assoc, sm_s, Nat.add_mul, ← hks, kmix_step hks]) rfl rfl ?_
                  refine z_lv [2, 3, 4, 5, 6, 0] (lv2 := [(0, .ref h0), (1, .int (nI il)), (2, .int (nI ir)), (3, .int (nI l)), (4, .int (nI 1)), (5, .int (nI (la + 1)))]) rfl ?_
                  exact ih_38 (la + 1) (by omega) (by omega)
            refine z_lv [2, 3, 4, 5, 1, 0] (lv2 := [(0, .ref h0), (1, .int (nI il)), (2, .int (nI ir)), (3, .int (nI l)), (4, .int (nI 1)), (5, .int (nI 0))]) rfl ?_
            exact loop_38 4 0 (by omega) (by omega)
  refine z_eq (ws2 := [eX3 h0 hr hn ho (nI en) (nI kd) (nI x) mt (lN (sm (kfl m il ir w) (0 * 3) * Q)) el, eL t hr 33 (lf (kmix m il ir w Q (0 * 3)))]) (by rw [Nat.zero_mul, ← kmix_0, sm_z, Nat.zero_mul]) rfl rfl ?_
  refine z_lv [1, 2, 3, 0] (lv2 := [(0, .ref h0), (1, .int (nI il)), (2, .int (nI ir)), (3, .int (nI 0))]) rfl ?_
  exact loop_7 12 0 (by omega) (by omega)

abbrev rm_X3_chanceOfLevel : Room := { frames := 1, cells := 0, slots := 0, locals := 22 }
set_option maxHeartbeats 4000000 in
set_option maxRecDepth 100000 in
theorem c_X3_chanceOfLevel (lq : Launch) (D : va_G) (t : zT) (h0 hr hn ho en kd x m Q : Nat) (mt : Int32) (so el : Int64) (w : Nat → Nat) (hm : m ≤ 20) (hmt : (∃ c, c < 33 ∧ w c ≠ 0) → mt = nI m) : Ct lq D t yX3_chanceOfLevel cX3_chanceOfLevel 5 (some .long) rm_X3_chanceOfLevel [.ref h0] [eX3 h0 hr hn ho (nI en) (nI kd) (nI x) mt so el, eL t hr 33 (lf (fun j => w j * Q))] 0 0 (fun rv rw_ => rv = some (.long (lN (lev m w * Q))) ∧ rw_ = [eX3 h0 hr hn ho (nI en) (nI kd) (nI x) mt so el, eL t hr 33 (lf (fun j => w j * Q))]) := by
  refine Ct.of (by decide) (Nat.le_of_ble_eq_true rfl) (fun k X hR => ?_)
  have X : zX D t k cX3_chanceOfLevel 5 RX3 "chanceOfLevel" rm_X3_chanceOfLevel lq := X
  refine z_eq (lv2 := [(0, .ref h0)]) rfl rfl rfl ?_
  by_cases hal : ∃ c, c < 33 ∧ w c ≠ 0
  · obtain rfl := hmt hal
    refine z_aload_n X (pc := 0) 0 dX3_chanceOfLevel_0 rfl ?_
    refine z_get X (pc := 1) 0 6 (.int (nI m)) tu_3 tw_113 dX3_chanceOfLevel_1 rfl rfl (by decide) rfl rfl ?_
    refine z_iconst X (pc := 4) (nI 2) dX3_chanceOfLevel_4 (by decide) ?_
    refine z_idiv X (pc := 5) (v := (nI (m / 2))) dX3_chanceOfLevel_5 (by decide) (pk_div (by omega) (by omega) (by omega)) ?_
    refine z_istore_n X (pc := 6) (i := 1) [(1, .int (nI (m / 2))), (0, .ref h0)] dX3_chanceOfLevel_6 rfl (by decide) rfl ?_
    refine z_iload_n X (pc := 7) 0 dX3_chanceOfLevel_7 rfl ?_
    refine z_iload_n X (pc := 8) 0 dX3_chanceOfLevel_8 rfl ?_
    refine z_iadd X (pc := 9) (v := (nI ((m / 2) + (m / 2)))) dX3_chanceOfLevel_9 (nI_add (m / 2) (m / 2)) ?_
    refine z_aload_n X (pc := 10) 1 dX3_chanceOfLevel_10 rfl ?_
    refine z_get X (pc := 11) 0 6 (.int (nI m)) tu_3 tw_113 dX3_chanceOfLevel_11 rfl rfl (by decide) rfl rfl ?_
    refine z_icmp_neN X (pc := 14) 27 (by omega) (by omega) dX3_chanceOfLevel_14 (by decide) (fun c_14 => ?_) (fun c_14 => ?_)
    · skip
      refine z_lconst X (pc := 27) (lN 0) dX3_chanceOfLevel_27 (by decide) ?_
      exact hR.l dX3_chanceOfLevel_28 ⟨by rw [lev, if_neg (by omega), Nat.zero_mul], rfl⟩
    · skip
      refine z_iload_n X (pc := 17) 0 dX3_chanceOfLevel_17 rfl ?_
      refine z_iconst X (pc := 18) (nI 0) dX3_chanceOfLevel_18 (by decide) ?_
      refine z_bipush X (pc := 19) (nI 10) dX3_chanceOfLevel_19 (by decide) ?_
      refine zc_SN (as := [.int (nI (m / 2)), .int (nI 0), .int (nI 10)]) X (pc := 21) (c_X4_within lq D t (nI (m / 2)) (nI 0) (nI 10) ) tw_407 tw_182 tw_1 tw_181 [] rfl rfl dX3_chanceOfLevel_21 rfl zdX4_within ⟨rfl, rfl, Nat.le_of_ble_eq_true rfl, Nat.le_of_ble_eq_true rfl⟩ (Nat.le_of_ble_eq_true rfl) (Nat.zero_le _) (Nat.zero_le _) (fun v_1 w_2 hp_3 => ?_)
      obtain ⟨rfl, rfl⟩ := hp_3
      refine ⟨rfl, ?_⟩
      refine z_eq (ws2 := [eX3 h0 hr hn ho (nI en) (nI kd) (nI x) (nI m) so el, eL t hr 33 (lf (fun j => w j * Q))]) (st2 := [.int (zb ((nI 0) ≤ (nI (m / 2)) ∧ (nI (m / 2)) ≤ (nI 10)))]) rfl rfl rfl ?_
      refine z_if_neB X (pc := 24) 29 dX3_chanceOfLevel_24 (by decide) (fun c_24 => ?_) (fun c_24 => ?_)
      · skip
        obtain ⟨hf, hfe⟩ : ∃ hf : Nat, hf = m / 2 := ⟨_, rfl⟩
        refine z_eq (lv2 := [(1, .int (nI hf)), (0, .ref h0)]) rfl (by rw [hfe]) rfl ?_
        have hf1 : hf ≤ 10 := by omega
        refine z_lconst X (pc := 29) (lN 0) dX3_chanceOfLevel_29 (by decide) ?_
        refine z_lstore_n X (pc := 30) (i := 2) [(2, .long (lN 0)), (1, .int (nI hf)), (0, .ref h0)] dX3_chanceOfLevel_30 rfl (by decide) rfl ?_
        refine z_iconst X (pc := 31) (nI 0) dX3_chanceOfLevel_31 (by decide) ?_
        refine z_istore X (pc := 32) (i := 4) [(4, .int (nI 0)), (2, .long (lN 0)), (1, .int (nI hf)), (0, .ref h0)] dX3_chanceOfLevel_32 trivial (by decide) rfl ?_
        have loop_34 : ∀ (fuel_34 : Nat) (la : Nat) (su : Nat), 3 < la + fuel_34 → (la ≤ 3) → (su = sm (fun j => w (hf * 3 + j) * Q) la) → Z D k (0, 0) [eX3 h0 hr hn ho (nI en) (nI kd) (nI x) (nI m) so el, eL t hr 33 (lf (fun j => w j * Q))] 34 [(0, .ref h0), (1, .int (nI hf)), (2, .long (lN su)), (4, .int (nI la))] [] := by
          intro fuel_34
          induction fuel_34 with
          | zero =>
            intro la su hfuel_34 hla hsu
            exfalso; omega
          | succ fuel_34 ih_34 =>
            intro la su hfuel_34 hla hsu
            refine z_iload X (pc := 34) 3 dX3_chanceOfLevel_34 rfl ?_
            refine z_iconst X (pc := 36) (nI 3) dX3_chanceOfLevel_36 (by decide) ?_
            refine z_icmp_geN X (pc := 37) 60 (by omega) (by omega) dX3_chanceOfLevel_37 (by decide) (fun c_37 => ?_) (fun c_37 => ?_)
            · skip
              refine z_lload_n X (pc := 60) 2 dX3_chanceOfLevel_60 rfl ?_
              exact hR.l dX3_chanceOfLevel_61 ⟨by rw [hsu, show la = 3 by omega, lev, if_pos (by omega), sm_mul, hfe], rfl⟩
            · skip
              refine z_lload_n X (pc := 40) 2 dX3_chanceOfLevel_40 rfl ?_
              refine z_aload_n X (pc := 41) 0 dX3_chanceOfLevel_41 rfl ?_
              refine z_get X (pc := 42) 0 0 (.ref hr) tu_3 tw_107 dX3_chanceOfLevel_42 rfl rfl (by decide) rfl rfl ?_
              refine z_iload_n X (pc := 45) 1 dX3_chanceOfLevel_45 rfl ?_
              refine z_iconst X (pc := 46) (nI 3) dX3_chanceOfLevel_46 (by decide) ?_
              refine z_imul X (pc := 47) (v := (nI (hf * 3))) dX3_chanceOfLevel_47 (pk_mul _ _) ?_
              refine z_iload X (pc := 48) 3 dX3_chanceOfLevel_48 rfl ?_
              refine z_iadd X (pc := 50) (v := (nI (hf * 3 + la))) dX3_chanceOfLevel_50 (nI_add (hf * 3) la) ?_
              refine z_lald X (pc := 51) 1 (hf * 3 + la) (lN (w (hf * 3 + la) * Q)) dX3_chanceOfLevel_51 rfl rfl (Nat.le_of_ble_eq_true rfl) (by omega) rfl ?_
              refine z_ladd X (pc := 52) (v := (lN (su + (w (hf * 3 + la) * Q)))) dX3_chanceOfLevel_52 (lN_add su (w (hf * 3 + la) * Q)) ?_
              refine z_lstore_n X (pc := 53) (i := 2) [(2, .long (lN (su + (w (hf * 3 + la) * Q)))), (0, .ref h0), (1, .int (nI hf)), (4, .int (nI la))] dX3_chanceOfLevel_53 rfl (by decide) rfl ?_
              refine z_iinc X (pc := 54) (i := 4) 3 (nI (la + 1)) [(4, .int (nI (la + 1))), (2, .long (lN (su + (w (hf * 3 + la) * Q)))), (0, .ref h0), (1, .int (nI hf))] dX3_chanceOfLevel_54 rfl (nI_incc la 1) (by decide) rfl ?_
              refine z_goto X (pc := 57) 34 dX3_chanceOfLevel_57 (by decide) ?_
              refine z_lv [2, 3, 1, 0] (lv2 := [(0, .ref h0), (1, .int (nI hf)), (2, .long (lN (su + (w (hf * 3 + la) * Q)))), (4, .int (nI (la + 1)))]) rfl ?_
              exact ih_34 (la + 1) (su + w (hf * 3 + la) * Q) (by omega) (by omega) (by rw [sm_s, hsu])
        refine z_lv [3, 2, 1, 0] (lv2 := [(0, .ref h0), (1, .int (nI hf)), (2, .long (lN 0)), (4, .int (nI 0))]) rfl ?_
        exact loop_34 4 0 0 (by omega) (by omega) (sm_z _).symm
      · skip
        refine z_lconst X (pc := 27) (lN 0) dX3_chanceOfLevel_27 (by decide) ?_
        exact hR.l dX3_chanceOfLevel_28 ⟨absurd ⟨(nI_leI (by omega) (by omega)).mpr (by omega), (nI_leI (by omega) (by omega)).mpr (by omega)⟩ c_24, rfl⟩
  · have hde : ∀ c, c < 33 → w c = 0 := fun c hc => by rcases Nat.eq_zero_or_pos (w c) with z | z; exact z; exact absurd ⟨c, hc, by omega⟩ hal
    refine z_aload_n X (pc := 0) 0 dX3_chanceOfLevel_0 rfl ?_
    refine z_get X (pc := 1) 0 6 (.int mt) tu_3 tw_113 dX3_chanceOfLevel_1 rfl rfl (by decide) rfl rfl ?_
    refine z_iconst X (pc := 4) (nI 2) dX3_chanceOfLevel_4 (by decide) ?_
    refine z_idiv X (pc := 5) (v := (mt / (nI 2))) dX3_chanceOfLevel_5 (by decide) rfl ?_
    refine z_istore_n X (pc := 6) (i := 1) [(1, .int (mt / (nI 2))), (0, .ref h0)] dX3_chanceOfLevel_6 rfl (by decide) rfl ?_
    refine z_iload_n X (pc := 7) 0 dX3_chanceOfLevel_7 rfl ?_
    refine z_iload_n X (pc := 8) 0 dX3_chanceOfLevel_8 rfl ?_
    refine z_iadd X (pc := 9) (v := ((mt / (nI 2)) + (mt / (nI 2)))) dX3_chanceOfLevel_9 rfl ?_
    refine z_aload_n X (pc := 10) 1 dX3_chanceOfLevel_10 rfl ?_
    refine z_get X (pc := 11) 0 6 (.int mt) tu_3 tw_113 dX3_chanceOfLevel_11 rfl rfl (by decide) rfl rfl ?_
    refine z_icmp_ne X (pc := 14) 27 dX3_chanceOfLevel_14 (by decide) (fun c_14 => ?_) (fun c_14 => ?_)
    · skip
      refine z_lconst X (pc := 27) (lN 0) dX3_chanceOfLevel_27 (by decide) ?_
      exact hR.l dX3_chanceOfLevel_28 ⟨by rw [lev_dead hm hde, Nat.zero_mul], rfl⟩
    · skip
      refine z_iload_n X (pc := 17) 0 dX3_chanceOfLevel_17 rfl ?_
      refine z_iconst X (pc := 18) (nI 0) dX3_chanceOfLevel_18 (by decide) ?_
      refine z_bipush X (pc := 19) (nI 10) dX3_chanceOfLevel_19 (by decide) ?_
      refine zc_SN (as := [.int (mt / (nI 2)), .int (nI 0), .int (nI 10)]) X (pc := 21) (c_X4_within lq D t (mt / (nI 2)) (nI 0) (nI 10) ) tw_407 tw_182 tw_1 tw_181 [] rfl rfl dX3_chanceOfLevel_21 rfl zdX4_within ⟨rfl, rfl, Nat.le_of_ble_eq_true rfl, Nat.le_of_ble_eq_true rfl⟩ (Nat.le_of_ble_eq_true rfl) (Nat.zero_le _) (Nat.zero_le _) (fun v_4 w_5 hp_6 => ?_)
      obtain ⟨rfl, rfl⟩ := hp_6
      refine ⟨rfl, ?_⟩
      refine z_eq (ws2 := [eX3 h0 hr hn ho (nI en) (nI kd) (nI x) mt so el, eL t hr 33 (lf (fun j => w j * Q))]) (st2 := [.int (zb ((nI 0) ≤ (mt / (nI 2)) ∧ (mt / (nI 2)) ≤ (nI 10)))]) rfl rfl rfl ?_
      refine z_if_neB X (pc := 24) 29 dX3_chanceOfLevel_24 (by decide) (fun c_24 => ?_) (fun c_24 => ?_)
      · skip
        obtain ⟨hf, hf0, hf1, hfe⟩ := inR (by decide) (by decide) c_24
        refine z_eq (lv2 := [(1, .int (nI hf)), (0, .ref h0)]) rfl (by rw [hfe]) rfl ?_
        refine z_lconst X (pc := 29) (lN 0) dX3_chanceOfLevel_29 (by decide) ?_
        refine z_lstore_n X (pc := 30) (i := 2) [(2, .long (lN 0)), (1, .int (nI hf)), (0, .ref h0)] dX3_chanceOfLevel_30 rfl (by decide) rfl ?_
        refine z_iconst X (pc := 31) (nI 0) dX3_chanceOfLevel_31 (by decide) ?_
        refine z_istore X (pc := 32) (i := 4) [(4, .int (nI 0)), (2, .long (lN 0)), (1, .int (nI hf)), (0, .ref h0)] dX3_chanceOfLevel_32 trivial (by decide) rfl ?_
        have loop_34 : ∀ (fuel_34 : Nat) (la : Nat) (su : Nat), 3 < la + fuel_34 → (la ≤ 3) → (su = sm (fun j => w (hf * 3 + j) * Q) la) → Z D k (0, 0) [eX3 h0 hr hn ho (nI en) (nI kd) (nI x) mt so el, eL t hr 33 (lf (fun j => w j * Q))] 34 [(0, .ref h0), (1, .int (nI hf)), (2, .long (lN su)), (4, .int (nI la))] [] := by
          intro fuel_34
          induction fuel_34 with
          | zero =>
            intro la su hfuel_34 hla hsu
            exfalso; omega
          | succ fuel_34 ih_34 =>
            intro la su hfuel_34 hla hsu
            refine z_iload X (pc := 34) 3 dX3_chanceOfLevel_34 rfl ?_
            refine z_iconst X (pc := 36) (nI 3) dX3_chanceOfLevel_36 (by decide) ?_
            refine z_icmp_geN X (pc := 37) 60 (by omega) (by omega) dX3_chanceOfLevel_37 (by decide) (fun c_37 => ?_) (fun c_37 => ?_)
            · skip
              refine z_lload_n X (pc := 60) 2 dX3_chanceOfLevel_60 rfl ?_
              exact hR.l dX3_chanceOfLevel_61 ⟨by rw [hsu, show la = 3 by omega, lev_dead hm hde, Nat.zero_mul, sm_zero (fun j hj => by rw [hde _ (by omega), Nat.zero_mul])], rfl⟩
            · skip
              refine z_lload_n X (pc := 40) 2 dX3_chanceOfLevel_40 rfl ?_
              refine z_aload_n X (pc := 41) 0 dX3_chanceOfLevel_41 rfl ?_
              refine z_get X (pc := 42) 0 0 (.ref hr) tu_3 tw_107 dX3_chanceOfLevel_42 rfl rfl (by decide) rfl rfl ?_
              refine z_iload_n X (pc := 45) 1 dX3_chanceOfLevel_45 rfl ?_
              refine z_iconst X (pc := 46) (nI 3) dX3_chanceOfLevel_46 (by decide) ?_
              refine z_imul X (pc := 47) (v := (nI (hf * 3))) dX3_chanceOfLevel_47 (pk_mul _ _) ?_
              refine z_iload X (pc := 48) 3 dX3_chanceOfLevel_48 rfl ?_
              refine z_iadd X (pc := 50) (v := (nI (hf * 3 + la))) dX3_chanceOfLevel_50 (nI_add (hf * 3) la) ?_
              refine z_lald X (pc := 51) 1 (hf * 3 + la) (lN (w (hf * 3 + la) * Q)) dX3_chanceOfLevel_51 rfl rfl (Nat.le_of_ble_eq_true rfl) (by omega) rfl ?_
              refine z_ladd X (pc := 52) (v := (lN (su + (w (hf * 3 + la) * Q)))) dX3_chanceOfLevel_52 (lN_add su (w (hf * 3 + la) * Q)) ?_
              refine z_lstore_n X (pc := 53) (i := 2) [(2, .long (lN (su + (w (hf * 3 + la) * Q)))), (0, .ref h0), (1, .int (nI hf)), (4, .int (nI la))] dX3_chanceOfLevel_53 rfl (by decide) rfl ?_
              refine z_iinc X (pc := 54) (i := 4) 3 (nI (la + 1)) [(4, .int (nI (la + 1))), (2, .long (lN (su + (w (hf * 3 + la) * Q)))), (0, .ref h0), (1, .int (nI hf))] dX3_chanceOfLevel_54 rfl (nI_incc la 1) (by decide) rfl ?_
              refine z_goto X (pc := 57) 34 dX3_chanceOfLevel_57 (by decide) ?_
              refine z_lv [2, 3, 1, 0] (lv2 := [(0, .ref h0), (1, .int (nI hf)), (2, .long (lN (su + (w (hf * 3 + la) * Q)))), (4, .int (nI (la + 1)))]) rfl ?_
              exact ih_34 (la + 1) (su + w (hf * 3 + la) * Q) (by omega) (by omega) (by rw [sm_s, hsu])
        refine z_lv [3, 2, 1, 0] (lv2 := [(0, .ref h0), (1, .int (nI hf)), (2, .long (lN 0)), (4, .int (nI 0))]) rfl ?_
        exact loop_34 4 0 0 (by omega) (by omega) (sm_z _).symm
      · skip
        refine z_lconst X (pc := 27) (lN 0) dX3_chanceOfLevel_27 (by decide) ?_
        exact hR.l dX3_chanceOfLevel_28 ⟨by rw [lev_dead hm hde, Nat.zero_mul], rfl⟩
end
section
/-! PART 14: Text: the letters and their reader -/
def chf (tx : Nat → Nat) (len p : Nat) : Nat := if p < len then tx p else 32
abbrev dig (c : Nat → Nat) (p : Nat) : Prop := 48 ≤ c p ∧ c p ≤ 57
def nln (c : Nat → Nat) (p : Nat) : Nat := if dig c (p + 1) then 2 else 1
def nvl (c : Nat → Nat) (p : Nat) : Nat := if dig c (p + 1) then 10 * (c p - 48) + (c (p + 1) - 48) else c p - 48
theorem nln_le (c : Nat → Nat) (p : Nat) : nln c p ≤ 2 := by unfold nln; split <;> omega
theorem nvl_le {c : Nat → Nat} {p : Nat} (h : dig c p) : nvl c p ≤ 99 := by unfold nvl; obtain ⟨h1, h2⟩ := h; split <;> omega
/-- behind one number and its sign, behind two -/
def e1 (c : Nat → Nat) (p : Nat) : Nat := p + nln c p + 1
def e2 (c : Nat → Nat) (p : Nat) : Nat := e1 c p + nln c (e1 c p) + 1
abbrev t1 (c : Nat → Nat) (p : Nat) : Prop := dig c p ∧ c (p + nln c p) = 59
abbrev t2 (c : Nat → Nat) (p : Nat) : Prop := dig c p ∧ c (p + nln c p) = 44 ∧ dig c (e1 c p) ∧ c (e1 c p + nln c (e1 c p)) = 59
abbrev okI (c : Nat → Nat) (p : Nat) : Prop :=
  (c p = 98 ∧ t2 c (p + 1) ∧ nvl c (p + 1) ≤ 10 ∧ nvl c (e1 c (p + 1)) ≤ 10) ∨ (c p = 104 ∧ t2 c (p + 1) ∧ nvl c (p + 1) ≤ 3 ∧ nvl c (e1 c (p + 1)) ≤ 4) ∨
  (c p = 108 ∧ t1 c (p + 1) ∧ nvl c (p + 1) ≤ 1) ∨ (c p = 101 ∧ t1 c (p + 1) ∧ 1 ≤ nvl c (p + 1) ∧ nvl c (p + 1) ≤ 9)
def nxt (c : Nat → Nat) (p : Nat) : Nat := if c p = 98 ∨ c p = 104 then e2 c (p + 1) else e1 c (p + 1)
def dupd (c : Nat → Nat) (p : Nat) (d : Nat → Nat) : Nat → Nat :=
  if c p = 98 then vup (vup d 0 (nvl c (p + 1))) 1 (nvl c (e1 c (p + 1)))
  else if c p = 104 then vup (vup d 3 (nvl c (p + 1))) 4 (nvl c (e1 c (p + 1)))
  else if c p = 108 then vup d 2 (nvl c (p + 1)) else vup d 5 (nvl c (p + 1))
/-- the reader: the first fault, if there is one, and what was told -/
def prs0 (c : Nat → Nat) (len : Nat) : Nat → Nat → (Nat → Nat) → Option Nat × (Nat → Nat)
  | 0, _, d => (none, d)
  | f + 1, p, d => if p < len then (if okI c p then prs0 c len f (nxt c p) (dupd c p d) else (some p, d)) else (none, d)
noncomputable def prs (c : Nat → Nat) (len f p : Nat) (d : Nat → Nat) : Option Nat × (Nat → Nat) := hide (prs0 c len f p d)
theorem prs_z (c : Nat → Nat) (len p : Nat) (d : Nat → Nat) : prs c len 0 p d = (none, d) := hide_eq _
theorem prs_s (c : Nat → Nat) (len f p : Nat) (d : Nat → Nat) : prs c len (f + 1) p d = if p < len then (if okI c p then prs c len f (nxt c p) (dupd c p d) else (some p, d)) else (none, d) := by
  rw [prs, hide_eq, prs0, prs, hide_eq]
def flt (o : Option Nat) : Int32 := match o with
  | none => -4
  | some p => nI p
def d0 : Nat → Nat := fun j => if j = 0 then 10 else if j = 1 then 10 else if j = 2 then 2 else if j = 3 then 0 else if j = 4 then 2 else 3
theorem chf_lt {tx : Nat → Nat} {len p : Nat} (h : ∀ j, tx j < 127) : chf tx len p < 127 := by unfold chf; have := h p; split <;> omega
theorem in_len {tx : Nat → Nat} {len p v : Nat} (h : chf tx len p = v) (hv : v ≠ 32) : p < len := by
  unfold chf at h; split at h
  · assumption
  · exact absurd h.symm hv
theorem e2_len {tx : Nat → Nat} {len p : Nat} (h : t2 (chf tx len) p) : e2 (chf tx len) p ≤ len := by
  have := in_len h.2.2.2 (by decide)
  unfold e2; omega
theorem e1_len {tx : Nat → Nat} {len p : Nat} (h : t1 (chf tx len) p) : e1 (chf tx len) p ≤ len := by
  have := in_len h.2 (by decide)
  unfold e1; omega
theorem nxt_len {tx : Nat → Nat} {len p : Nat} (h : okI (chf tx len) p) : nxt (chf tx len) p ≤ len ∧ p + 1 < nxt (chf tx len) p := by
  unfold nxt
  rcases h with ⟨h1, h2, _⟩ | ⟨h1, h2, _⟩ | ⟨h1, h2, _⟩ | ⟨h1, h2, _⟩
  · rw [if_pos (Or.inl h1)]; refine ⟨e2_len h2, ?_⟩; unfold e2 e1; omega
  · rw [if_pos (Or.inr h1)]; refine ⟨e2_len h2, ?_⟩; unfold e2 e1; omega
  · rw [if_neg (by omega)]; refine ⟨e1_len h2, ?_⟩; unfold e1; omega
  · rw [if_neg (by omega)]; refine ⟨e1_len h2, ?_⟩; unfold e1; omega
theorem lk_none {x : Int} (h1 : x ≠ 98) (h2 : x ≠ 101) (h3 : x ≠ 104) (h4 : x ≠ 108) : Op.lookupswitch.offset [(98, 44), (101, 104), (104, 64), (108, 84)] 124 x = 124 := by
  have g1 : ¬ (98 : Int) = x := fun z => h1 z.symm
  have g2 : ¬ (101 : Int) = x := fun z => h2 z.symm
  have g3 : ¬ (104 : Int) = x := fun z => h3 z.symm
  have g4 : ¬ (108 : Int) = x := fun z => h4 z.symm
  simp [Op.lookupswitch.offset, g1, g2, g3, g4, h1, h2, h3, h4]
abbrev rm_X4_withinN : Room := { frames := 0, cells := 0, slots := 0, locals := 0 }
set_option maxHeartbeats 4000000 in
set_option maxRecDepth 100000 in
theorem c_X4_withinN (lq : Launch) (D : va_G) (t : zT) (x a b : Nat) (hx : x < 2 ^ 31) (ha : a < 2 ^ 31) (hb : b < 2 ^ 31) : Ct lq D t yX4_within cX4_within 3 (some .boolean) rm_X4_withinN [.int (nI x), .int (nI a), .int (nI b)] [] 0 0 (fun rv rw_ => rv = some (.int (zb (a ≤ x ∧ x ≤ b))) ∧ rw_ = []) := by
  refine Ct.of (by decide) (Nat.le_of_ble_eq_true rfl) (fun k X hR => ?_)
  have X : zX D t k cX4_within 3 RX4 "within" rm_X4_withinN lq := X
  refine z_eq (lv2 := [(0, .int (nI x)), (1, .int (nI a)), (2, .int (nI b))]) rfl rfl rfl ?_
  refine z_iload_n X (pc := 0) 0 dX4_within_0 rfl ?_
  refine z_iload_n X (pc := 1) 1 dX4_within_1 rfl ?_
  refine z_icmp_ltN X (pc := 2) 14 (by omega) (by omega) dX4_within_2 (by decide) (fun c_2 => ?_) (fun c_2 => ?_)
  · skip
    refine z_iconst X (pc := 14) (nI 0) dX4_within_14 (by decide) ?_
    exact hR.z dX4_within_15 rfl ⟨some_zb_f (by omega), rfl⟩
  · skip
    refine z_iload_n X (pc := 5) 0 dX4_within_5 rfl ?_
    refine z_iload_n X (pc := 6) 2 dX4_within_6 rfl ?_
    refine z_icmp_gtN X (pc := 7) 14 (by omega) (by omega) dX4_within_7 (by decide) (fun c_7 => ?_) (fun c_7 => ?_)
    · skip
      refine z_iconst X (pc := 14) (nI 0) dX4_within_14 (by decide) ?_
      exact hR.z dX4_within_15 rfl ⟨some_zb_f (by omega), rfl⟩
    · skip
      refine z_iconst X (pc := 10) (nI 1) dX4_within_10 (by decide) ?_
      refine z_goto X (pc := 11) 15 dX4_within_11 (by decide) ?_
      exact hR.z dX4_within_15 rfl ⟨some_zb_t (by omega), rfl⟩

abbrev rm_X4_isSideN : Room := { frames := 1, cells := 0, slots := 0, locals := 22 }
set_option maxHeartbeats 4000000 in
set_option maxRecDepth 100000 in
theorem c_X4_isSideN (lq : Launch) (D : va_G) (t : zT) (x : Nat) (hx : x < 2 ^ 31) : Ct lq D t yX4_isSide cX4_isSide 1 (some .boolean) rm_X4_isSideN [.int (nI x)] [] 0 0 (fun rv rw_ => rv = some (.int (zb (x ≤ 1))) ∧ rw_ = []) := by
  refine Ct.of (by decide) (Nat.le_of_ble_eq_true rfl) (fun k X hR => ?_)
  have X : zX D t k cX4_isSide 1 RX4 "isSide" rm_X4_isSideN lq := X
  refine z_eq (lv2 := [(0, .int (nI x))]) rfl rfl rfl ?_
  refine z_iload_n X (pc := 0) 0 dX4_isSide_0 rfl ?_
  refine z_iconst X (pc := 1) (nI 0) dX4_isSide_1 (by decide) ?_
  refine z_iconst X (pc := 2) (nI 1) dX4_isSide_2 (by decide) ?_
  refine zc_S (as := [.int (nI x), .int (nI 0), .int (nI 1)]) X (pc := 3) (c_X4_withinN lq D t x 0 1 (by omega) (by decide) (by decide)) tw_180 tw_182 tw_1 tw_181 [] rfl rfl dX4_isSide_3 rfl zdX4_within ⟨rfl, rfl, Nat.le_of_ble_eq_true rfl, Nat.le_of_ble_eq_true rfl⟩ (Nat.le_of_ble_eq_true rfl) (Nat.zero_le _) (Nat.zero_le _) (fun v_1 w_2 hp_3 => ?_)
  obtain ⟨rfl, rfl⟩ := hp_3
  refine ⟨rfl, ?_⟩
  refine z_eq (ws2 := []) (st2 := [.int (zb (0 ≤ x ∧ x ≤ 1))]) rfl rfl rfl ?_
  exact hR.z dX4_isSide_6 (zb_nar _) ⟨congrArg (fun z => some (Value.int z)) (zb_congr (by omega)), rfl⟩

abbrev rm_X4_isKindN : Room := { frames := 1, cells := 0, slots := 0, locals := 22 }
set_option maxHeartbeats 4000000 in
set_option maxRecDepth 100000 in
theorem c_X4_isKindN (lq : Launch) (D : va_G) (t : zT) (x : Nat) (hx : x < 2 ^ 31) : Ct lq D t yX4_isKind cX4_isKind 1 (some .boolean) rm_X4_isKindN [.int (nI x)] [] 0 0 (fun rv rw_ => rv = some (.int (zb (x ≤ 3))) ∧ rw_ = []) := by
  refine Ct.of (by decide) (Nat.le_of_ble_eq_true rfl) (fun k X hR => ?_)
  have X : zX D t k cX4_isKind 1 RX4 "isKind" rm_X4_isKindN lq := X
  refine z_eq (lv2 := [(0, .int (nI x))]) rfl rfl rfl ?_
  refine z_iload_n X (pc := 0) 0 dX4_isKind_0 rfl ?_
  refine z_iconst X (pc := 1) (nI 0) dX4_isKind_1 (by decide) ?_
  refine z_iconst X (pc := 2) (nI 3) dX4_isKind_2 (by decide) ?_
  refine zc_S (as := [.int (nI x), .int (nI 0), .int (nI 3)]) X (pc := 3) (c_X4_withinN lq D t x 0 3 (by omega) (by decide) (by decide)) tw_180 tw_182 tw_1 tw_181 [] rfl rfl dX4_isKind_3 rfl zdX4_within ⟨rfl, rfl, Nat.le_of_ble_eq_true rfl, Nat.le_of_ble_eq_true rfl⟩ (Nat.le_of_ble_eq_true rfl) (Nat.zero_le _) (Nat.zero_le _) (fun v_1 w_2 hp_3 => ?_)
  obtain ⟨rfl, rfl⟩ := hp_3
  refine ⟨rfl, ?_⟩
  refine z_eq (ws2 := []) (st2 := [.int (zb (0 ≤ x ∧ x ≤ 3))]) rfl rfl rfl ?_
  exact hR.z dX4_isKind_6 (zb_nar _) ⟨congrArg (fun z => some (Value.int z)) (zb_congr (by omega)), rfl⟩

abbrev rm_X4_isHandN : Room := { frames := 2, cells := 0, slots := 0, locals := 42 }
set_option maxHeartbeats 4000000 in
set_option maxRecDepth 100000 in
theorem c_X4_isHandN (lq : Launch) (D : va_G) (t : zT) (kd x : Nat) (hkd : kd < 2 ^ 31) (hx : x < 2 ^ 31) : Ct lq D t yX4_isHand cX4_isHand 2 (some .boolean) rm_X4_isHandN [.int (nI kd), .int (nI x)] [] 0 0 (fun rv rw_ => rv = some (.int (zb (kd ≤ 3 ∧ x ≤ 4))) ∧ rw_ = []) := by
  refine Ct.of (by decide) (Nat.le_of_ble_eq_true rfl) (fun k X hR => ?_)
  have X : zX D t k cX4_isHand 2 RX4 "isHand" rm_X4_isHandN lq := X
  refine z_eq (lv2 := [(0, .int (nI kd)), (1, .int (nI x))]) rfl rfl rfl ?_
  refine z_iload_n X (pc := 0) 0 dX4_isHand_0 rfl ?_
  refine zc_S (as := [.int (nI kd)]) X (pc := 1) (c_X4_isKindN lq D t kd (by omega)) tw_245 tw_247 tw_1 tw_246 [] rfl rfl dX4_isHand_1 rfl zdX4_isKind ⟨rfl, rfl, Nat.le_of_ble_eq_true rfl, Nat.le_of_ble_eq_true rfl⟩ (Nat.le_of_ble_eq_true rfl) (Nat.zero_le _) (Nat.zero_le _) (fun v_1 w_2 hp_3 => ?_)
  obtain ⟨rfl, rfl⟩ := hp_3
  refine ⟨rfl, ?_⟩
  refine z_eq (ws2 := []) (st2 := [.int (zb (kd ≤ 3))]) rfl rfl rfl ?_
  refine z_if_eqB X (pc := 4) 20 dX4_isHand_4 (by decide) (fun c_4 => ?_) (fun c_4 => ?_)
  · skip
    refine z_iconst X (pc := 20) (nI 0) dX4_isHand_20 (by decide) ?_
    exact hR.z dX4_isHand_21 rfl ⟨some_zb_f (by omega), rfl⟩
  · skip
    refine z_iload_n X (pc := 7) 1 dX4_isHand_7 rfl ?_
    refine z_iconst X (pc := 8) (nI 0) dX4_isHand_8 (by decide) ?_
    refine z_iconst X (pc := 9) (nI 4) dX4_isHand_9 (by decide) ?_
    refine zc_S (as := [.int (nI x), .int (nI 0), .int (nI 4)]) X (pc := 10) (c_X4_withinN lq D t x 0 4 (by omega) (by decide) (by decide)) tw_180 tw_182 tw_1 tw_181 [] rfl rfl dX4_isHand_10 rfl zdX4_within ⟨rfl, rfl, Nat.le_of_ble_eq_true rfl, Nat.le_of_ble_eq_true rfl⟩ (Nat.le_of_ble_eq_true rfl) (Nat.zero_le _) (Nat.zero_le _) (fun v_4 w_5 hp_6 => ?_)
    obtain ⟨rfl, rfl⟩ := hp_6
    refine ⟨rfl, ?_⟩
    refine z_eq (ws2 := []) (st2 := [.int (zb (0 ≤ x ∧ x ≤ 4))]) rfl rfl rfl ?_
    refine z_if_eqB X (pc := 13) 20 dX4_isHand_13 (by decide) (fun c_13 => ?_) (fun c_13 => ?_)
    · skip
      refine z_iconst X (pc := 20) (nI 0) dX4_isHand_20 (by decide) ?_
      exact hR.z dX4_isHand_21 rfl ⟨some_zb_f (by omega), rfl⟩
    · skip
      refine z_iconst X (pc := 16) (nI 1) dX4_isHand_16 (by decide) ?_
      refine z_goto X (pc := 17) 21 dX4_isHand_17 (by decide) ?_
      exact hR.z dX4_isHand_21 rfl ⟨some_zb_t (by omega), rfl⟩

abbrev rm_X2_letterHere : Room := { frames := 0, cells := 0, slots := 0, locals := 0 }
set_option maxHeartbeats 4000000 in
set_option maxRecDepth 100000 in
theorem c_X2_letterHere (lq : Launch) (D : va_G) (t : zT) (h0 hl ht len pl : Nat) (fi se ev : Int32) (tx : Nat → Nat) (hlen : len ≤ 200) (hpl : pl < 1000) (htx : ∀ j, tx j < 127) : Ct lq D t yX2_letterHere cX2_letterHere 1 (some .char) rm_X2_letterHere [.ref h0] [eX2 h0 hl (nI len) (nI pl) fi se ht ev, eC t hl 200 (nf tx)] 0 0 (fun rv rw_ => rv = some (.int (nI (chf tx len pl))) ∧ rw_ = [eX2 h0 hl (nI len) (nI pl) fi se ht ev, eC t hl 200 (nf tx)]) := by
  refine Ct.of (by decide) (Nat.le_of_ble_eq_true rfl) (fun k X hR => ?_)
  have X : zX D t k cX2_letterHere 1 RX2 "letterHere" rm_X2_letterHere lq := X
  refine z_eq (lv2 := [(0, .ref h0)]) rfl rfl rfl ?_
  refine z_aload_n X (pc := 0) 0 dX2_letterHere_0 rfl ?_
  refine z_get X (pc := 1) 0 2 (.int (nI pl)) tu_2 tw_58 dX2_letterHere_1 rfl rfl (by decide) rfl rfl ?_
  refine z_if_ltN X (pc := 4) 40 (by omega) dX2_letterHere_4 (by decide) ?_
  refine z_aload_n X (pc := 7) 0 dX2_letterHere_7 rfl ?_
  refine z_get X (pc := 8) 0 2 (.int (nI pl)) tu_2 tw_58 dX2_letterHere_8 rfl rfl (by decide) rfl rfl ?_
  refine z_aload_n X (pc := 11) 0 dX2_letterHere_11 rfl ?_
  refine z_get X (pc := 12) 0 1 (.int (nI len)) tu_2 tw_57 dX2_letterHere_12 rfl rfl (by decide) rfl rfl ?_
  refine z_icmp_geN X (pc := 15) 40 (by omega) (by omega) dX2_letterHere_15 (by decide) (fun c_15 => ?_) (fun c_15 => ?_)
  · skip
    refine z_bipush X (pc := 40) (nI 32) dX2_letterHere_40 (by decide) ?_
    exact hR.z dX2_letterHere_42 (pk_charN (by first | decide | (have := htx pl; omega))).1 ⟨by rw [chf, if_neg (by omega)], rfl⟩
  · skip
    refine z_aload_n X (pc := 18) 0 dX2_letterHere_18 rfl ?_
    refine z_get X (pc := 19) 0 2 (.int (nI pl)) tu_2 tw_58 dX2_letterHere_19 rfl rfl (by decide) rfl rfl ?_
    refine z_sipush X (pc := 22) (nI 200) dX2_letterHere_22 (by decide) ?_
    refine z_icmp_geN X (pc := 25) 40 (by omega) (by omega) dX2_letterHere_25 (by decide) (fun c_25 => absurd c_25 (by omega)) (fun c_25 => ?_)
    refine z_aload_n X (pc := 28) 0 dX2_letterHere_28 rfl ?_
    refine z_get X (pc := 29) 0 0 (.ref hl) tu_2 tw_56 dX2_letterHere_29 rfl rfl (by decide) rfl rfl ?_
    refine z_aload_n X (pc := 32) 0 dX2_letterHere_32 rfl ?_
    refine z_get X (pc := 33) 0 2 (.int (nI pl)) tu_2 tw_58 dX2_letterHere_33 rfl rfl (by decide) rfl rfl ?_
    refine z_cald X (pc := 36) 1 pl (nI (tx pl)) dX2_letterHere_36 rfl rfl (Nat.le_of_ble_eq_true rfl) (by omega) rfl ?_
    refine z_goto X (pc := 37) 42 dX2_letterHere_37 (by decide) ?_
    exact hR.z dX2_letterHere_42 (pk_charN (by first | decide | (have := htx pl; omega))).1 ⟨by rw [chf, if_pos (by omega)], rfl⟩

abbrev rm_X2_readFigurey : Room := { frames := 1, cells := 0, slots := 0, locals := 20 }
set_option maxHeartbeats 4000000 in
set_option maxRecDepth 100000 in
theorem c_X2_readFigurey (lq : Launch) (D : va_G) (t : zT) (h0 hl ht len pl : Nat) (fi se ev : Int32) (tx : Nat → Nat) (hlen : len ≤ 200) (hpl : pl < 1000) (htx : ∀ j, tx j < 127) (hd : dig (chf tx len) pl) : Ct lq D t yX2_readFigure cX2_readFigure 2 (some .int) rm_X2_readFigurey [.ref h0] [eX2 h0 hl (nI len) (nI pl) fi se ht ev, eC t hl 200 (nf tx)] 0 0 (fun rv rw_ => rv = some (.int (nI (chf tx len pl - 48))) ∧ rw_ = [eX2 h0 hl (nI len) (nI (pl + 1)) fi se ht ev, eC t hl 200 (nf tx)]) := by
  refine Ct.of (by decide) (Nat.le_of_ble_eq_true rfl) (fun k X hR => ?_)
  have X : zX D t k cX2_readFigure 2 RX2 "readFigure" rm_X2_readFigurey lq := X
  refine z_eq (lv2 := [(0, .ref h0)]) rfl rfl rfl ?_
  refine z_aload_n X (pc := 0) 0 dX2_readFigure_0 rfl ?_
  refine zc_V (as := []) X (pc := 1) (c_X2_letterHere lq D t h0 hl ht len pl fi se ev tx (by omega) (by omega) (by omega)) tw_214 tw_217 tw_2 tw_216 tw_1001 0 2 rfl rfl [0, 1] rfl rfl dX2_readFigure_1 rfl zdX2_letterHere ⟨rfl, rfl, Nat.le_of_ble_eq_true rfl, Nat.le_of_ble_eq_true rfl⟩ (Nat.le_of_ble_eq_true rfl) (Nat.zero_le _) (Nat.zero_le _) (fun v_1 w_2 hp_3 => ?_)
  obtain ⟨rfl, rfl⟩ := hp_3
  refine ⟨rfl, ?_⟩
  refine z_eq (ws2 := [eX2 h0 hl (nI len) (nI pl) fi se ht ev, eC t hl 200 (nf tx)]) (st2 := [.int (nI (chf tx len pl))]) rfl rfl rfl ?_
  have hch := @chf_lt tx len pl htx
  refine z_istore_n X (pc := 4) (i := 1) [(1, .int (nI (chf tx len pl))), (0, .ref h0)] dX2_readFigure_4 rfl (by decide) rfl ?_
  refine z_iload_n X (pc := 5) 0 dX2_readFigure_5 rfl ?_
  refine z_bipush X (pc := 6) (nI 48) dX2_readFigure_6 (by decide) ?_
  refine z_icmp_ltN X (pc := 8) 17 (by omega) (by omega) dX2_readFigure_8 (by decide) (fun c_8 => absurd c_8 (by omega)) (fun c_8 => ?_)
  refine z_iload_n X (pc := 11) 0 dX2_readFigure_11 rfl ?_
  refine z_bipush X (pc := 12) (nI 57) dX2_readFigure_12 (by decide) ?_
  refine z_icmp_leN X (pc := 14) 19 (by omega) (by omega) dX2_readFigure_14 (by decide) (fun c_14 => ?_) (fun c_14 => absurd c_14 (by omega))
  refine z_aload_n X (pc := 19) 1 dX2_readFigure_19 rfl ?_
  refine z_dup X (pc := 20) dX2_readFigure_20 rfl ?_
  refine z_get X (pc := 21) 0 2 (.int (nI pl)) tu_2 tw_58 dX2_readFigure_21 rfl rfl (by decide) rfl rfl ?_
  refine z_iconst X (pc := 24) (nI 1) dX2_readFigure_24 (by decide) ?_
  refine z_iadd X (pc := 25) (v := (nI (pl + 1))) dX2_readFigure_25 (nI_add pl 1) ?_
  refine z_put X (pc := 26) 0 2 [eX2 h0 hl (nI len) (nI (pl + 1)) fi se ht ev, eC t hl 200 (nf tx)] tu_2 tyX2_ok nmX2 tw_58 dX2_readFigure_26 rfl rfl (by decide) rfl rfl rfl rfl (Nat.le_of_ble_eq_true rfl) rfl ?_
  refine z_iload_n X (pc := 29) 0 dX2_readFigure_29 rfl ?_
  refine z_bipush X (pc := 30) (nI 48) dX2_readFigure_30 (by decide) ?_
  refine z_isub X (pc := 32) (v := (nI ((chf tx len pl) - 48))) dX2_readFigure_32 (pk_sub (by omega)) ?_
  exact hR.i dX2_readFigure_33 ⟨rfl, rfl⟩

abbrev rm_X2_readFiguren : Room := { frames := 1, cells := 0, slots := 0, locals := 20 }
set_option maxHeartbeats 4000000 in
set_option maxRecDepth 100000 in
theorem c_X2_readFiguren (lq : Launch) (D : va_G) (t : zT) (h0 hl ht len pl : Nat) (fi se ev : Int32) (tx : Nat → Nat) (hlen : len ≤ 200) (hpl : pl < 1000) (htx : ∀ j, tx j < 127) (hd : ¬ dig (chf tx len) pl) : Ct lq D t yX2_readFigure cX2_readFigure 2 (some .int) rm_X2_readFiguren [.ref h0] [eX2 h0 hl (nI len) (nI pl) fi se ht ev, eC t hl 200 (nf tx)] 0 0 (fun rv rw_ => rv = some (.int (-1)) ∧ rw_ = [eX2 h0 hl (nI len) (nI pl) fi se ht ev, eC t hl 200 (nf tx)]) := by
  refine Ct.of (by decide) (Nat.le_of_ble_eq_true rfl) (fun k X hR => ?_)
  have X : zX D t k cX2_readFigure 2 RX2 "readFigure" rm_X2_readFiguren lq := X
  refine z_eq (lv2 := [(0, .ref h0)]) rfl rfl rfl ?_
  refine z_aload_n X (pc := 0) 0 dX2_readFigure_0 rfl ?_
  refine zc_V (as := []) X (pc := 1) (c_X2_letterHere lq D t h0 hl ht len pl fi se ev tx (by omega) (by omega) (by omega)) tw_214 tw_217 tw_2 tw_216 tw_1001 0 2 rfl rfl [0, 1] rfl rfl dX2_readFigure_1 rfl zdX2_letterHere ⟨rfl, rfl, Nat.le_of_ble_eq_true rfl, Nat.le_of_ble_eq_true rfl⟩ (Nat.le_of_ble_eq_true rfl) (Nat.zero_le _) (Nat.zero_le _) (fun v_1 w_2 hp_3 => ?_)
  obtain ⟨rfl, rfl⟩ := hp_3
  refine ⟨rfl, ?_⟩
  refine z_eq (ws2 := [eX2 h0 hl (nI len) (nI pl) fi se ht ev, eC t hl 200 (nf tx)]) (st2 := [.int (nI (chf tx len pl))]) rfl rfl rfl ?_
  have hch := @chf_lt tx len pl htx
  refine z_istore_n X (pc := 4) (i := 1) [(1, .int (nI (chf tx len pl))), (0, .ref h0)] dX2_readFigure_4 rfl (by decide) rfl ?_
  refine z_iload_n X (pc := 5) 0 dX2_readFigure_5 rfl ?_
  refine z_bipush X (pc := 6) (nI 48) dX2_readFigure_6 (by decide) ?_
  refine z_icmp_ltN X (pc := 8) 17 (by omega) (by omega) dX2_readFigure_8 (by decide) (fun c_8 => ?_) (fun c_8 => ?_)
  · skip
    refine z_iconst X (pc := 17) (-1) dX2_readFigure_17 (by decide) ?_
    exact hR.i dX2_readFigure_18 ⟨rfl, rfl⟩
  · skip
    refine z_iload_n X (pc := 11) 0 dX2_readFigure_11 rfl ?_
    refine z_bipush X (pc := 12) (nI 57) dX2_readFigure_12 (by decide) ?_
    refine z_icmp_leN X (pc := 14) 19 (by omega) (by omega) dX2_readFigure_14 (by decide) (fun c_14 => absurd c_14 (by omega)) (fun c_14 => ?_)
    refine z_iconst X (pc := 17) (-1) dX2_readFigure_17 (by decide) ?_
    exact hR.i dX2_readFigure_18 ⟨rfl, rfl⟩

abbrev rm_X2_readNumbery : Room := { frames := 2, cells := 0, slots := 0, locals := 41 }
set_option maxHeartbeats 4000000 in
set_option maxRecDepth 100000 in
theorem c_X2_readNumbery (lq : Launch) (D : va_G) (t : zT) (h0 hl ht len pl : Nat) (fi se ev : Int32) (tx : Nat → Nat) (hlen : len ≤ 200) (hpl : pl < 1000) (htx : ∀ j, tx j < 127) (hpl2 : pl < 900) (hd : dig (chf tx len) pl) : Ct lq D t yX2_readNumber cX2_readNumber 3 (some .int) rm_X2_readNumbery [.ref h0] [eX2 h0 hl (nI len) (nI pl) fi se ht ev, eC t hl 200 (nf tx)] 0 0 (fun rv rw_ => rv = some (.int (nI (nvl (chf tx len) pl))) ∧ rw_ = [eX2 h0 hl (nI len) (nI (pl + nln (chf tx len) pl)) fi se ht ev, eC t hl 200 (nf tx)]) := by
  refine Ct.of (by decide) (Nat.le_of_ble_eq_true rfl) (fun k X hR => ?_)
  have X : zX D t k cX2_readNumber 3 RX2 "readNumber" rm_X2_readNumbery lq := X
  refine z_eq (lv2 := [(0, .ref h0)]) rfl rfl rfl ?_
  refine z_aload_n X (pc := 0) 0 dX2_readNumber_0 rfl ?_
  refine zc_V (as := []) X (pc := 1) (c_X2_readFigurey lq D t h0 hl ht len pl fi se ev tx (by omega) (by omega) htx hd) tw_226 tw_229 tw_2 tw_228 tw_1004 0 2 rfl rfl [0, 1] rfl rfl dX2_readNumber_1 rfl zdX2_readFigure ⟨rfl, rfl, Nat.le_of_ble_eq_true rfl, Nat.le_of_ble_eq_true rfl⟩ (Nat.le_of_ble_eq_true rfl) (Nat.zero_le _) (Nat.zero_le _) (fun v_1 w_2 hp_3 => ?_)
  obtain ⟨rfl, rfl⟩ := hp_3
  refine ⟨rfl, ?_⟩
  refine z_eq (ws2 := [eX2 h0 hl (nI len) (nI (pl + 1)) fi se ht ev, eC t hl 200 (nf tx)]) (st2 := [.int (nI (chf tx len pl - 48))]) rfl rfl rfl ?_
  refine z_istore_n X (pc := 4) (i := 1) [(1, .int (nI (chf tx len pl - 48))), (0, .ref h0)] dX2_readNumber_4 rfl (by decide) rfl ?_
  have hch := @chf_lt tx len pl htx
  refine z_iload_n X (pc := 5) 0 dX2_readNumber_5 rfl ?_
  refine z_if_geN X (pc := 6) 11 (by omega) dX2_readNumber_6 (by decide) ?_
  by_cases hd2 : dig (chf tx len) (pl + 1)
  · skip
    refine z_aload_n X (pc := 11) 1 dX2_readNumber_11 rfl ?_
    refine zc_V (as := []) X (pc := 12) (c_X2_readFigurey lq D t h0 hl ht len (pl + 1) fi se ev tx (by omega) (by omega) htx hd2) tw_226 tw_229 tw_2 tw_228 tw_1004 0 2 rfl rfl [0, 1] rfl rfl dX2_readNumber_12 rfl zdX2_readFigure ⟨rfl, rfl, Nat.le_of_ble_eq_true rfl, Nat.le_of_ble_eq_true rfl⟩ (Nat.le_of_ble_eq_true rfl) (Nat.zero_le _) (Nat.zero_le _) (fun v_4 w_5 hp_6 => ?_)
    obtain ⟨rfl, rfl⟩ := hp_6
    refine ⟨rfl, ?_⟩
    refine z_eq (ws2 := [eX2 h0 hl (nI len) (nI ((pl + 1) + 1)) fi se ht ev, eC t hl 200 (nf tx)]) (st2 := [.int (nI (chf tx len (pl + 1) - 48))]) rfl rfl rfl ?_
    have hch2 := @chf_lt tx len (pl + 1) htx
    refine z_istore_n X (pc := 15) (i := 2) [(2, .int (nI (chf tx len (pl + 1) - 48))), (1, .int (nI (chf tx len pl - 48))), (0, .ref h0)] dX2_readNumber_15 rfl (by decide) rfl ?_
    refine z_iload_n X (pc := 16) 0 dX2_readNumber_16 rfl ?_
    refine z_if_geN X (pc := 17) 24 (by omega) dX2_readNumber_17 (by decide) ?_
    refine z_bipush X (pc := 24) (nI 10) dX2_readNumber_24 (by decide) ?_
    refine z_iload_n X (pc := 26) 1 dX2_readNumber_26 rfl ?_
    refine z_imul X (pc := 27) (v := (nI (10 * (chf tx len pl - 48)))) dX2_readNumber_27 (pk_mul _ _) ?_
    refine z_iload_n X (pc := 28) 0 dX2_readNumber_28 rfl ?_
    refine z_iadd X (pc := 29) (v := (nI ((10 * (chf tx len pl - 48)) + (chf tx len (pl + 1) - 48)))) dX2_readNumber_29 (nI_add (10 * (chf tx len pl - 48)) (chf tx len (pl + 1) - 48)) ?_
    exact hR.i dX2_readNumber_30 ⟨by rw [nvl, if_pos hd2], by rw [nln, if_pos hd2]⟩
  · skip
    refine z_aload_n X (pc := 11) 1 dX2_readNumber_11 rfl ?_
    refine zc_V (as := []) X (pc := 12) (c_X2_readFiguren lq D t h0 hl ht len (pl + 1) fi se ev tx (by omega) (by omega) htx hd2) tw_226 tw_229 tw_2 tw_228 tw_1004 0 2 rfl rfl [0, 1] rfl rfl dX2_readNumber_12 rfl zdX2_readFigure ⟨rfl, rfl, Nat.le_of_ble_eq_true rfl, Nat.le_of_ble_eq_true rfl⟩ (Nat.le_of_ble_eq_true rfl) (Nat.zero_le _) (Nat.zero_le _) (fun v_7 w_8 hp_9 => ?_)
    obtain ⟨rfl, rfl⟩ := hp_9
    refine ⟨rfl, ?_⟩
    refine z_eq (ws2 := [eX2 h0 hl (nI len) (nI (pl + 1)) fi se ht ev, eC t hl 200 (nf tx)]) (st2 := [.int (-1)]) rfl rfl rfl ?_
    have hch2 := @chf_lt tx len (pl + 1) htx
    refine z_istore_n X (pc := 15) (i := 2) [(2, .int (-1)), (1, .int (nI (chf tx len pl - 48))), (0, .ref h0)] dX2_readNumber_15 rfl (by decide) rfl ?_
    refine z_iload_n X (pc := 16) 0 dX2_readNumber_16 rfl ?_
    refine z_if_ge X (pc := 17) 24 dX2_readNumber_17 (by decide) (fun c_17 => absurd c_17 (by decide)) (fun c_17 => ?_)
    refine z_iload_n X (pc := 20) 1 dX2_readNumber_20 rfl ?_
    refine z_goto X (pc := 21) 30 dX2_readNumber_21 (by decide) ?_
    exact hR.i dX2_readNumber_30 ⟨by rw [nvl, if_neg hd2], by rw [nln, if_neg hd2]⟩

abbrev rm_X2_readNumbern : Room := { frames := 2, cells := 0, slots := 0, locals := 41 }
set_option maxHeartbeats 4000000 in
set_option maxRecDepth 100000 in
theorem c_X2_readNumbern (lq : Launch) (D : va_G) (t : zT) (h0 hl ht len pl : Nat) (fi se ev : Int32) (tx : Nat → Nat) (hlen : len ≤ 200) (hpl : pl < 1000) (htx : ∀ j, tx j < 127) (hd : ¬ dig (chf tx len) pl) : Ct lq D t yX2_readNumber cX2_readNumber 3 (some .int) rm_X2_readNumbern [.ref h0] [eX2 h0 hl (nI len) (nI pl) fi se ht ev, eC t hl 200 (nf tx)] 0 0 (fun rv rw_ => rv = some (.int (-1)) ∧ rw_ = [eX2 h0 hl (nI len) (nI pl) fi se ht ev, eC t hl 200 (nf tx)]) := by
  refine Ct.of (by decide) (Nat.le_of_ble_eq_true rfl) (fun k X hR => ?_)
  have X : zX D t k cX2_readNumber 3 RX2 "readNumber" rm_X2_readNumbern lq := X
  refine z_eq (lv2 := [(0, .ref h0)]) rfl rfl rfl ?_
  refine z_aload_n X (pc := 0) 0 dX2_readNumber_0 rfl ?_
  refine zc_V (as := []) X (pc := 1) (c_X2_readFiguren lq D t h0 hl ht len pl fi se ev tx (by omega) (by omega) htx hd) tw_226 tw_229 tw_2 tw_228 tw_1004 0 2 rfl rfl [0, 1] rfl rfl dX2_readNumber_1 rfl zdX2_readFigure ⟨rfl, rfl, Nat.le_of_ble_eq_true rfl, Nat.le_of_ble_eq_true rfl⟩ (Nat.le_of_ble_eq_true rfl) (Nat.zero_le _) (Nat.zero_le _) (fun v_1 w_2 hp_3 => ?_)
  obtain ⟨rfl, rfl⟩ := hp_3
  refine ⟨rfl, ?_⟩
  refine z_eq (ws2 := [eX2 h0 hl (nI len) (nI pl) fi se ht ev, eC t hl 200 (nf tx)]) (st2 := [.int (-1)]) rfl rfl rfl ?_
  refine z_istore_n X (pc := 4) (i := 1) [(1, .int (-1)), (0, .ref h0)] dX2_readNumber_4 rfl (by decide) rfl ?_
  refine z_iload_n X (pc := 5) 0 dX2_readNumber_5 rfl ?_
  refine z_if_ge X (pc := 6) 11 dX2_readNumber_6 (by decide) (fun c_6 => absurd c_6 (by decide)) (fun c_6 => ?_)
  refine z_iconst X (pc := 9) (-1) dX2_readNumber_9 (by decide) ?_
  exact hR.i dX2_readNumber_10 ⟨rfl, rfl⟩

abbrev rm_X2_readSigny : Room := { frames := 1, cells := 0, slots := 0, locals := 20 }
set_option maxHeartbeats 4000000 in
set_option maxRecDepth 100000 in
theorem c_X2_readSigny (lq : Launch) (D : va_G) (t : zT) (h0 hl ht len pl : Nat) (fi se ev : Int32) (tx : Nat → Nat) (sg : Nat) (hlen : len ≤ 200) (hpl : pl < 1000) (htx : ∀ j, tx j < 127) (hsg : sg < 1000) (hd : chf tx len pl = sg) : Ct lq D t yX2_readSign cX2_readSign 2 (some .boolean) rm_X2_readSigny [.ref h0, .int (nI sg)] [eX2 h0 hl (nI len) (nI pl) fi se ht ev, eC t hl 200 (nf tx)] 0 0 (fun rv rw_ => rv = some (.int (nI 1)) ∧ rw_ = [eX2 h0 hl (nI len) (nI (pl + 1)) fi se ht ev, eC t hl 200 (nf tx)]) := by
  refine Ct.of (by decide) (Nat.le_of_ble_eq_true rfl) (fun k X hR => ?_)
  have X : zX D t k cX2_readSign 2 RX2 "readSign" rm_X2_readSigny lq := X
  refine z_eq (lv2 := [(0, .ref h0), (1, .int (nI sg))]) rfl rfl rfl ?_
  refine z_aload_n X (pc := 0) 0 dX2_readSign_0 rfl ?_
  refine zc_V (as := []) X (pc := 1) (c_X2_letterHere lq D t h0 hl ht len pl fi se ev tx (by omega) (by omega) (by omega)) tw_214 tw_217 tw_2 tw_216 tw_1001 0 2 rfl rfl [0, 1] rfl rfl dX2_readSign_1 rfl zdX2_letterHere ⟨rfl, rfl, Nat.le_of_ble_eq_true rfl, Nat.le_of_ble_eq_true rfl⟩ (Nat.le_of_ble_eq_true rfl) (Nat.zero_le _) (Nat.zero_le _) (fun v_1 w_2 hp_3 => ?_)
  obtain ⟨rfl, rfl⟩ := hp_3
  refine ⟨rfl, ?_⟩
  refine z_eq (ws2 := [eX2 h0 hl (nI len) (nI pl) fi se ht ev, eC t hl 200 (nf tx)]) (st2 := [.int (nI (chf tx len pl))]) rfl rfl rfl ?_
  have hch := @chf_lt tx len pl htx
  refine z_iload_n X (pc := 4) 1 dX2_readSign_4 rfl ?_
  refine z_icmp_eqN X (pc := 5) 10 (by omega) (by omega) dX2_readSign_5 (by decide) (fun c_5 => ?_) (fun c_5 => absurd c_5 (by omega))
  refine z_aload_n X (pc := 10) 0 dX2_readSign_10 rfl ?_
  refine z_dup X (pc := 11) dX2_readSign_11 rfl ?_
  refine z_get X (pc := 12) 0 2 (.int (nI pl)) tu_2 tw_58 dX2_readSign_12 rfl rfl (by decide) rfl rfl ?_
  refine z_iconst X (pc := 15) (nI 1) dX2_readSign_15 (by decide) ?_
  refine z_iadd X (pc := 16) (v := (nI (pl + 1))) dX2_readSign_16 (nI_add pl 1) ?_
  refine z_put X (pc := 17) 0 2 [eX2 h0 hl (nI len) (nI (pl + 1)) fi se ht ev, eC t hl 200 (nf tx)] tu_2 tyX2_ok nmX2 tw_58 dX2_readSign_17 rfl rfl (by decide) rfl rfl rfl rfl (Nat.le_of_ble_eq_true rfl) rfl ?_
  refine z_iconst X (pc := 20) (nI 1) dX2_readSign_20 (by decide) ?_
  exact hR.z dX2_readSign_21 rfl ⟨rfl, rfl⟩

abbrev rm_X2_readSignn : Room := { frames := 1, cells := 0, slots := 0, locals := 20 }
set_option maxHeartbeats 4000000 in
set_option maxRecDepth 100000 in
theorem c_X2_readSignn (lq : Launch) (D : va_G) (t : zT) (h0 hl ht len pl : Nat) (fi se ev : Int32) (tx : Nat → Nat) (sg : Nat) (hlen : len ≤ 200) (hpl : pl < 1000) (htx : ∀ j, tx j < 127) (hsg : sg < 1000) (hd : ¬ chf tx len pl = sg) : Ct lq D t yX2_readSign cX2_readSign 2 (some .boolean) rm_X2_readSignn [.ref h0, .int (nI sg)] [eX2 h0 hl (nI len) (nI pl) fi se ht ev, eC t hl 200 (nf tx)] 0 0 (fun rv rw_ => rv = some (.int (nI 0)) ∧ rw_ = [eX2 h0 hl (nI len) (nI pl) fi se ht ev, eC t hl 200 (nf tx)]) := by
  refine Ct.of (by decide) (Nat.le_of_ble_eq_true rfl) (fun k X hR => ?_)
  have X : zX D t k cX2_readSign 2 RX2 "readSign" rm_X2_readSignn lq := X
  refine z_eq (lv2 := [(0, .ref h0), (1, .int (nI sg))]) rfl rfl rfl ?_
  refine z_aload_n X (pc := 0) 0 dX2_readSign_0 rfl ?_
  refine zc_V (as := []) X (pc := 1) (c_X2_letterHere lq D t h0 hl ht len pl fi se ev tx (by omega) (by omega) (by omega)) tw_214 tw_217 tw_2 tw_216 tw_1001 0 2 rfl rfl [0, 1] rfl rfl dX2_readSign_1 rfl zdX2_letterHere ⟨rfl, rfl, Nat.le_of_ble_eq_true rfl, Nat.le_of_ble_eq_true rfl⟩ (Nat.le_of_ble_eq_true rfl) (Nat.zero_le _) (Nat.zero_le _) (fun v_1 w_2 hp_3 => ?_)
  obtain ⟨rfl, rfl⟩ := hp_3
  refine ⟨rfl, ?_⟩
  refine z_eq (ws2 := [eX2 h0 hl (nI len) (nI pl) fi se ht ev, eC t hl 200 (nf tx)]) (st2 := [.int (nI (chf tx len pl))]) rfl rfl rfl ?_
  have hch := @chf_lt tx len pl htx
  refine z_iload_n X (pc := 4) 1 dX2_readSign_4 rfl ?_
  refine z_icmp_eqN X (pc := 5) 10 (by omega) (by omega) dX2_readSign_5 (by decide) (fun c_5 => absurd c_5 (by omega)) (fun c_5 => ?_)
  refine z_iconst X (pc := 8) (nI 0) dX2_readSign_8 (by decide) ?_
  exact hR.z dX2_readSign_9 rfl ⟨rfl, rfl⟩

abbrev rm_X2_readOney : Room := { frames := 3, cells := 0, slots := 0, locals := 63 }
set_option maxHeartbeats 4000000 in
set_option maxRecDepth 100000 in
theorem c_X2_readOney (lq : Launch) (D : va_G) (t : zT) (h0 hl ht len pl : Nat) (fi se ev : Int32) (tx : Nat → Nat) (hlen : len ≤ 200) (hpl : pl < 1000) (htx : ∀ j, tx j < 127) (hpl2 : pl < 800) (hd : t1 (chf tx len) pl) : Ct lq D t yX2_readOne cX2_readOne 1 (some .boolean) rm_X2_readOney [.ref h0] [eX2 h0 hl (nI len) (nI pl) fi se ht ev, eC t hl 200 (nf tx)] 0 0 (fun rv rw_ => rv = some (.int (nI 1)) ∧ rw_ = [eX2 h0 hl (nI len) (nI (e1 (chf tx len) pl)) (nI (nvl (chf tx len) pl)) se ht ev, eC t hl 200 (nf tx)]) := by
  refine Ct.of (by decide) (Nat.le_of_ble_eq_true rfl) (fun k X hR => ?_)
  have X : zX D t k cX2_readOne 1 RX2 "readOne" rm_X2_readOney lq := X
  refine z_eq (lv2 := [(0, .ref h0)]) rfl rfl rfl ?_
  have hn1 := nln_le (chf tx len) pl
  have hnv := nvl_le hd.1
  refine z_aload_n X (pc := 0) 0 dX2_readOne_0 rfl ?_
  refine z_aload_n X (pc := 1) 0 dX2_readOne_1 rfl ?_
  refine zc_V (as := []) X (pc := 2) (c_X2_readNumbery lq D t h0 hl ht len pl fi se ev tx (by omega) (by omega) htx (by omega) hd.1) tw_222 tw_225 tw_2 tw_224 tw_1003 0 2 rfl rfl [0, 1] rfl rfl dX2_readOne_2 rfl zdX2_readNumber ⟨rfl, rfl, Nat.le_of_ble_eq_true rfl, Nat.le_of_ble_eq_true rfl⟩ (Nat.le_of_ble_eq_true rfl) (Nat.zero_le _) (Nat.zero_le _) (fun v_1 w_2 hp_3 => ?_)
  obtain ⟨rfl, rfl⟩ := hp_3
  refine ⟨rfl, ?_⟩
  refine z_eq (ws2 := [eX2 h0 hl (nI len) (nI (pl + nln (chf tx len) pl)) fi se ht ev, eC t hl 200 (nf tx)]) (st2 := [.int (nI (nvl (chf tx len) pl)), .ref h0]) rfl rfl rfl ?_
  refine z_put X (pc := 5) 0 3 [eX2 h0 hl (nI len) (nI (pl + nln (chf tx len) pl)) (nI (nvl (chf tx len) pl)) se ht ev, eC t hl 200 (nf tx)] tu_2 tyX2_ok nmX2 tw_59 dX2_readOne_5 rfl rfl (by decide) rfl rfl rfl rfl (Nat.le_of_ble_eq_true rfl) rfl ?_
  refine z_aload_n X (pc := 8) 0 dX2_readOne_8 rfl ?_
  refine z_get X (pc := 9) 0 3 (.int (nI (nvl (chf tx len) pl))) tu_2 tw_59 dX2_readOne_9 rfl rfl (by decide) rfl rfl ?_
  refine z_if_ltN X (pc := 12) 28 (by omega) dX2_readOne_12 (by decide) ?_
  refine z_aload_n X (pc := 15) 0 dX2_readOne_15 rfl ?_
  refine z_bipush X (pc := 16) (nI 59) dX2_readOne_16 (by decide) ?_
  refine zc_V (as := [.int (nI 59)]) X (pc := 18) (c_X2_readSigny lq D t h0 hl ht len (pl + nln (chf tx len) pl) (nI (nvl (chf tx len) pl)) se ev tx 59 (by omega) (by omega) htx (by decide) hd.2) tw_230 tw_233 tw_2 tw_232 tw_1005 0 2 rfl rfl [0, 1] rfl rfl dX2_readOne_18 rfl zdX2_readSign ⟨rfl, rfl, Nat.le_of_ble_eq_true rfl, Nat.le_of_ble_eq_true rfl⟩ (Nat.le_of_ble_eq_true rfl) (Nat.zero_le _) (Nat.zero_le _) (fun v_4 w_5 hp_6 => ?_)
  obtain ⟨rfl, rfl⟩ := hp_6
  refine ⟨rfl, ?_⟩
  refine z_eq (ws2 := [eX2 h0 hl (nI len) (nI ((pl + nln (chf tx len) pl) + 1)) (nI (nvl (chf tx len) pl)) se ht ev, eC t hl 200 (nf tx)]) (st2 := [.int (nI 1)]) rfl rfl rfl ?_
  refine z_if_eqN X (pc := 21) 28 (by omega) dX2_readOne_21 (by decide) (fun c_21 => absurd c_21 (by decide)) (fun c_21 => ?_)
  refine z_iconst X (pc := 24) (nI 1) dX2_readOne_24 (by decide) ?_
  refine z_goto X (pc := 25) 29 dX2_readOne_25 (by decide) ?_
  exact hR.z dX2_readOne_29 rfl ⟨rfl, rfl⟩

abbrev rm_X2_readOnen : Room := { frames := 3, cells := 0, slots := 0, locals := 63 }
set_option maxHeartbeats 4000000 in
set_option maxRecDepth 100000 in
theorem c_X2_readOnen (lq : Launch) (D : va_G) (t : zT) (h0 hl ht len pl : Nat) (fi se ev : Int32) (tx : Nat → Nat) (hlen : len ≤ 200) (hpl : pl < 1000) (htx : ∀ j, tx j < 127) (hpl2 : pl < 800) (hd : ¬ t1 (chf tx len) pl) : Ct lq D t yX2_readOne cX2_readOne 1 (some .boolean) rm_X2_readOnen [.ref h0] [eX2 h0 hl (nI len) (nI pl) fi se ht ev, eC t hl 200 (nf tx)] 0 0 (fun rv rw_ => ∃ (pl2 : Int32) (fi2 : Int32) (se2 : Int32), rv = some (.int (nI 0)) ∧ rw_ = [eX2 h0 hl (nI len) pl2 fi2 se2 ht ev, eC t hl 200 (nf tx)]) := by
  refine Ct.of (by decide) (Nat.le_of_ble_eq_true rfl) (fun k X hR => ?_)
  have X : zX D t k cX2_readOne 1 RX2 "readOne" rm_X2_readOnen lq := X
  refine z_eq (lv2 := [(0, .ref h0)]) rfl rfl rfl ?_
  by_cases h1 : dig (chf tx len) pl
  · skip
    by_cases h2 : chf tx len (pl + nln (chf tx len) pl) = 59
    · skip
      refine z_aload_n X (pc := 0) 0 dX2_readOne_0 rfl ?_
      have hn1 := nln_le (chf tx len) pl
      refine z_aload_n X (pc := 1) 0 dX2_readOne_1 rfl ?_
      refine zc_V (as := []) X (pc := 2) (c_X2_readNumbery lq D t h0 hl ht len pl fi se ev tx (by omega) (by omega) htx (by omega) h1) tw_222 tw_225 tw_2 tw_224 tw_1003 0 2 rfl rfl [0, 1] rfl rfl dX2_readOne_2 rfl zdX2_readNumber ⟨rfl, rfl, Nat.le_of_ble_eq_true rfl, Nat.le_of_ble_eq_true rfl⟩ (Nat.le_of_ble_eq_true rfl) (Nat.zero_le _) (Nat.zero_le _) (fun v_1 w_2 hp_3 => ?_)
      obtain ⟨rfl, rfl⟩ := hp_3
      refine ⟨rfl, ?_⟩
      refine z_eq (ws2 := [eX2 h0 hl (nI len) (nI (pl + nln (chf tx len) pl)) fi se ht ev, eC t hl 200 (nf tx)]) (st2 := [.int (nI (nvl (chf tx len) pl)), .ref h0]) rfl rfl rfl ?_
      refine z_put X (pc := 5) 0 3 [eX2 h0 hl (nI len) (nI (pl + nln (chf tx len) pl)) (nI (nvl (chf tx len) pl)) se ht ev, eC t hl 200 (nf tx)] tu_2 tyX2_ok nmX2 tw_59 dX2_readOne_5 rfl rfl (by decide) rfl rfl rfl rfl (Nat.le_of_ble_eq_true rfl) rfl ?_
      refine z_aload_n X (pc := 8) 0 dX2_readOne_8 rfl ?_
      refine z_get X (pc := 9) 0 3 (.int (nI (nvl (chf tx len) pl))) tu_2 tw_59 dX2_readOne_9 rfl rfl (by decide) rfl rfl ?_
      refine z_if_ltN X (pc := 12) 28 (by have := nvl_le h1; omega) dX2_readOne_12 (by decide) ?_
      refine z_aload_n X (pc := 15) 0 dX2_readOne_15 rfl ?_
      refine z_bipush X (pc := 16) (nI 59) dX2_readOne_16 (by decide) ?_
      refine zc_V (as := [.int (nI 59)]) X (pc := 18) (c_X2_readSigny lq D t h0 hl ht len (pl + nln (chf tx len) pl) (nI (nvl (chf tx len) pl)) se ev tx 59 (by omega) (by omega) htx (by decide) h2) tw_230 tw_233 tw_2 tw_232 tw_1005 0 2 rfl rfl [0, 1] rfl rfl dX2_readOne_18 rfl zdX2_readSign ⟨rfl, rfl, Nat.le_of_ble_eq_true rfl, Nat.le_of_ble_eq_true rfl⟩ (Nat.le_of_ble_eq_true rfl) (Nat.zero_le _) (Nat.zero_le _) (fun v_4 w_5 hp_6 => ?_)
      obtain ⟨rfl, rfl⟩ := hp_6
      refine ⟨rfl, ?_⟩
      refine z_eq (ws2 := [eX2 h0 hl (nI len) (nI ((pl + nln (chf tx len) pl) + 1)) (nI (nvl (chf tx len) pl)) se ht ev, eC t hl 200 (nf tx)]) (st2 := [.int (nI 1)]) rfl rfl rfl ?_
      refine z_if_eqN X (pc := 21) 28 (by omega) dX2_readOne_21 (by decide) (fun c_21 => absurd c_21 (by decide)) (fun c_21 => ?_)
      exact absurd ⟨h1, h2⟩ hd
    · skip
      refine z_aload_n X (pc := 0) 0 dX2_readOne_0 rfl ?_
      have hn1 := nln_le (chf tx len) pl
      refine z_aload_n X (pc := 1) 0 dX2_readOne_1 rfl ?_
      refine zc_V (as := []) X (pc := 2) (c_X2_readNumbery lq D t h0 hl ht len pl fi se ev tx (by omega) (by omega) htx (by omega) h1) tw_222 tw_225 tw_2 tw_224 tw_1003 0 2 rfl rfl [0, 1] rfl rfl dX2_readOne_2 rfl zdX2_readNumber ⟨rfl, rfl, Nat.le_of_ble_eq_true rfl, Nat.le_of_ble_eq_true rfl⟩ (Nat.le_of_ble_eq_true rfl) (Nat.zero_le _) (Nat.zero_le _) (fun v_7 w_8 hp_9 => ?_)
      obtain ⟨rfl, rfl⟩ := hp_9
      refine ⟨rfl, ?_⟩
      refine z_eq (ws2 := [eX2 h0 hl (nI len) (nI (pl + nln (chf tx len) pl)) fi se ht ev, eC t hl 200 (nf tx)]) (st2 := [.int (nI (nvl (chf tx len) pl)), .ref h0]) rfl rfl rfl ?_
      refine z_put X (pc := 5) 0 3 [eX2 h0 hl (nI len) (nI (pl + nln (chf tx len) pl)) (nI (nvl (chf tx len) pl)) se ht ev, eC t hl 200 (nf tx)] tu_2 tyX2_ok nmX2 tw_59 dX2_readOne_5 rfl rfl (by decide) rfl rfl rfl rfl (Nat.le_of_ble_eq_true rfl) rfl ?_
      refine z_aload_n X (pc := 8) 0 dX2_readOne_8 rfl ?_
      refine z_get X (pc := 9) 0 3 (.int (nI (nvl (chf tx len) pl))) tu_2 tw_59 dX2_readOne_9 rfl rfl (by decide) rfl rfl ?_
      refine z_if_ltN X (pc := 12) 28 (by have := nvl_le h1; omega) dX2_readOne_12 (by decide) ?_
      refine z_aload_n X (pc := 15) 0 dX2_readOne_15 rfl ?_
      refine z_bipush X (pc := 16) (nI 59) dX2_readOne_16 (by decide) ?_
      refine zc_V (as := [.int (nI 59)]) X (pc := 18) (c_X2_readSignn lq D t h0 hl ht len (pl + nln (chf tx len) pl) (nI (nvl (chf tx len) pl)) se ev tx 59 (by omega) (by omega) htx (by decide) h2) tw_230 tw_233 tw_2 tw_232 tw_1005 0 2 rfl rfl [0, 1] rfl rfl dX2_readOne_18 rfl zdX2_readSign ⟨rfl, rfl, Nat.le_of_ble_eq_true rfl, Nat.le_of_ble_eq_true rfl⟩ (Nat.le_of_ble_eq_true rfl) (Nat.zero_le _) (Nat.zero_le _) (fun v_10 w_11 hp_12 => ?_)
      obtain ⟨rfl, rfl⟩ := hp_12
      refine ⟨rfl, ?_⟩
      refine z_eq (ws2 := [eX2 h0 hl (nI len) (nI (pl + nln (chf tx len) pl)) (nI (nvl (chf tx len) pl)) se ht ev, eC t hl 200 (nf tx)]) (st2 := [.int (nI 0)]) rfl rfl rfl ?_
      refine z_if_eqN X (pc := 21) 28 (by omega) dX2_readOne_21 (by decide) (fun c_21 => ?_) (fun c_21 => absurd c_21 (by decide))
      refine z_iconst X (pc := 28) (nI 0) dX2_readOne_28 (by decide) ?_
      exact hR.z dX2_readOne_29 rfl ⟨(nI (pl + nln (chf tx len) pl)), (nI (nvl (chf tx len) pl)), se, rfl, rfl⟩
  · skip
    refine z_aload_n X (pc := 0) 0 dX2_readOne_0 rfl ?_
    have hn1 := nln_le (chf tx len) pl
    refine z_aload_n X (pc := 1) 0 dX2_readOne_1 rfl ?_
    refine zc_V (as := []) X (pc := 2) (c_X2_readNumbern lq D t h0 hl ht len pl fi se ev tx (by omega) (by omega) htx h1) tw_222 tw_225 tw_2 tw_224 tw_1003 0 2 rfl rfl [0, 1] rfl rfl dX2_readOne_2 rfl zdX2_readNumber ⟨rfl, rfl, Nat.le_of_ble_eq_true rfl, Nat.le_of_ble_eq_true rfl⟩ (Nat.le_of_ble_eq_true rfl) (Nat.zero_le _) (Nat.zero_le _) (fun v_13 w_14 hp_15 => ?_)
    obtain ⟨rfl, rfl⟩ := hp_15
    refine ⟨rfl, ?_⟩
    refine z_eq (ws2 := [eX2 h0 hl (nI len) (nI pl) fi se ht ev, eC t hl 200 (nf tx)]) (st2 := [.int (-1), .ref h0]) rfl rfl rfl ?_
    refine z_put X (pc := 5) 0 3 [eX2 h0 hl (nI len) (nI pl) (-1) se ht ev, eC t hl 200 (nf tx)] tu_2 tyX2_ok nmX2 tw_59 dX2_readOne_5 rfl rfl (by decide) rfl rfl rfl rfl (Nat.le_of_ble_eq_true rfl) rfl ?_
    refine z_aload_n X (pc := 8) 0 dX2_readOne_8 rfl ?_
    refine z_get X (pc := 9) 0 3 (.int (-1)) tu_2 tw_59 dX2_readOne_9 rfl rfl (by decide) rfl rfl ?_
    refine z_if_lt X (pc := 12) 28 dX2_readOne_12 (by decide) (fun c_12 => ?_) (fun c_12 => absurd c_12 (by decide))
    refine z_iconst X (pc := 28) (nI 0) dX2_readOne_28 (by decide) ?_
    exact hR.z dX2_readOne_29 rfl ⟨(nI pl), (-1), se, rfl, rfl⟩
end
