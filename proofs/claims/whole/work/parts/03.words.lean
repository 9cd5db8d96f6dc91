/-! the words that travel (TB), and the nest mates' words (in KK) -/
def TB : List Cond := lw_tbl.filter goodWord
theorem TB_good : ∀ w ∈ TB, (w.onTables && w.keeps) = true ∨ ∃ ty, w = .arrayClass ty := fun w h => good_of_word (List.mem_filter.mp h).2
theorem TB_in : ∀ w ∈ TB, w ∈ lw_tbl := fun w h => (List.mem_filter.mp h).1
theorem tb {w : Cond} (h : w ∈ tables_1) (hg : goodWord w = true) : w ∈ TB := List.mem_filter.mpr ⟨List.mem_append_right _ h, hg⟩
theorem tbs {w : Cond} (h : w ∈ k2_sels lw_privs) (hg : goodWord w = true) : w ∈ TB := List.mem_filter.mpr ⟨List.mem_append_left _ h, hg⟩
def isN : Cond → Bool
  | .methodLinkNest _ _ _ _ => true
  | _ => false
theorem mem_places {ws big : List Cond} (ps : List Nat) (h : ws = ps.filterMap (fun i => big[i]?)) : ∀ w ∈ ws, w ∈ big := by
  intro w hw
  rw [h] at hw
  obtain ⟨i, -, hi⟩ := List.mem_filterMap.mp hw
  exact List.mem_of_getElem? hi

theorem tw_0 : Cond.initialized RL ∈ TB := tb (List.mem_of_getElem? (i := 0) (by decide +kernel)) rfl
theorem tw_1 : Cond.initialized RX4 ∈ TB := tb (List.mem_of_getElem? (i := 1) (by decide +kernel)) rfl
theorem tw_2 : Cond.initialized RX2 ∈ TB := tb (List.mem_of_getElem? (i := 2) (by decide +kernel)) rfl
theorem tw_3 : Cond.initialized RX0 ∈ TB := tb (List.mem_of_getElem? (i := 3) (by decide +kernel)) rfl
theorem tw_4 : Cond.initialized RX1 ∈ TB := tb (List.mem_of_getElem? (i := 4) (by decide +kernel)) rfl
theorem tw_5 : Cond.initialized "java/lang/Math" ∈ TB := tb (List.mem_of_getElem? (i := 5) (by decide +kernel)) rfl
theorem tw_6 : Cond.initialized RX3 ∈ TB := tb (List.mem_of_getElem? (i := 6) (by decide +kernel)) rfl
theorem tw_7 : Cond.initialized RX5 ∈ TB := tb (List.mem_of_getElem? (i := 7) (by decide +kernel)) rfl
theorem tw_8 : Cond.classLink RL 7 RX4 ∈ TB := tb (List.mem_of_getElem? (i := 8) (by decide +kernel)) rfl
theorem tw_9 : Cond.instantiable RX4 10 ∈ TB := tb (List.mem_of_getElem? (i := 9) (by decide +kernel)) rfl
theorem tw_10 : Cond.methodLink RL 9 yX4_init ∈ TB := tb (List.mem_of_getElem? (i := 10) (by decide +kernel)) rfl
theorem tw_11 : Cond.instanceMethod yX4_init ∈ TB := tb (List.mem_of_getElem? (i := 11) (by decide +kernel)) rfl
theorem tw_12 : Cond.code yX4_init cX4_init 1 none ∈ TB := tb (List.mem_of_getElem? (i := 12) (by decide +kernel)) rfl
theorem tw_13 : Cond.methodLink RX4 1 Lib.objectInit ∈ TB := tb (List.mem_of_getElem? (i := 13) (by decide +kernel)) rfl
theorem tw_14 : Cond.instanceMethod Lib.objectInit ∈ TB := tb (List.mem_of_getElem? (i := 14) (by decide +kernel)) rfl
theorem tw_15 : Cond.code Lib.objectInit ⟨#[0xb1]⟩ 1 none ∈ TB := tb (List.mem_of_getElem? (i := 15) (by decide +kernel)) rfl
theorem tw_16 : Cond.classLink RX4 7 RX2 ∈ TB := tb (List.mem_of_getElem? (i := 16) (by decide +kernel)) rfl
theorem tw_17 : Cond.instantiable RX2 7 ∈ TB := tb (List.mem_of_getElem? (i := 17) (by decide +kernel)) rfl
theorem tw_18 : Cond.methodLinkNest RX4 9 yX2_init "EitherPocket" ∈ tables_1 := List.mem_of_getElem? (i := 18) (by decide +kernel)
theorem tw_19 : Cond.instanceMethod yX2_init ∈ TB := tb (List.mem_of_getElem? (i := 19) (by decide +kernel)) rfl
theorem tw_20 : Cond.code yX2_init cX2_init 1 none ∈ TB := tb (List.mem_of_getElem? (i := 20) (by decide +kernel)) rfl
theorem tw_21 : Cond.methodLink RX2 3 Lib.objectInit ∈ TB := tb (List.mem_of_getElem? (i := 21) (by decide +kernel)) rfl
theorem tw_22 : Cond.classLink RX2 28 RX0 ∈ TB := tb (List.mem_of_getElem? (i := 22) (by decide +kernel)) rfl
theorem tw_23 : Cond.instantiable RX0 5 ∈ TB := tb (List.mem_of_getElem? (i := 23) (by decide +kernel)) rfl
theorem tw_24 : Cond.methodLinkNest RX2 30 yX0_init "EitherPocket" ∈ tables_1 := List.mem_of_getElem? (i := 24) (by decide +kernel)
theorem tw_25 : Cond.instanceMethod yX0_init ∈ TB := tb (List.mem_of_getElem? (i := 25) (by decide +kernel)) rfl
theorem tw_26 : Cond.code yX0_init cX0_init 1 none ∈ TB := tb (List.mem_of_getElem? (i := 26) (by decide +kernel)) rfl
theorem tw_27 : Cond.methodLink RX0 3 Lib.objectInit ∈ TB := tb (List.mem_of_getElem? (i := 27) (by decide +kernel)) rfl
theorem tw_28 : Cond.fieldLink RX0 9 "EitherPocket$Coat" "left" "I" ∈ TB := tb (List.mem_of_getElem? (i := 28) (by decide +kernel)) rfl
theorem tw_29 : Cond.fieldLink RX3 54 "EitherPocket$Coat" "left" "I" ∈ TB := tb (List.mem_of_getElem? (i := 29) (by decide +kernel)) rfl
theorem tw_30 : Cond.fieldLink RX4 156 "EitherPocket$Coat" "left" "I" ∈ TB := tb (List.mem_of_getElem? (i := 30) (by decide +kernel)) rfl
theorem tw_31 : Cond.fieldLink RX0 15 "EitherPocket$Coat" "right" "I" ∈ TB := tb (List.mem_of_getElem? (i := 31) (by decide +kernel)) rfl
theorem tw_32 : Cond.fieldLink RX3 57 "EitherPocket$Coat" "right" "I" ∈ TB := tb (List.mem_of_getElem? (i := 32) (by decide +kernel)) rfl
theorem tw_33 : Cond.fieldLink RX4 159 "EitherPocket$Coat" "right" "I" ∈ TB := tb (List.mem_of_getElem? (i := 33) (by decide +kernel)) rfl
theorem tw_34 : Cond.fieldLink RX4 66 "EitherPocket$Coat" "last" "I" ∈ TB := tb (List.mem_of_getElem? (i := 34) (by decide +kernel)) rfl
theorem tw_35 : Cond.fieldLink RX0 18 "EitherPocket$Coat" "last" "I" ∈ TB := tb (List.mem_of_getElem? (i := 35) (by decide +kernel)) rfl
theorem tw_36 : Cond.fieldLink RX3 64 "EitherPocket$Coat" "last" "I" ∈ TB := tb (List.mem_of_getElem? (i := 36) (by decide +kernel)) rfl
theorem tw_37 : Cond.fieldLink RX2 49 "EitherPocket$Coat" "last" "I" ∈ TB := tb (List.mem_of_getElem? (i := 37) (by decide +kernel)) rfl
theorem tw_38 : Cond.fieldLink RX3 45 "EitherPocket$Coat" "kind" "I" ∈ TB := tb (List.mem_of_getElem? (i := 38) (by decide +kernel)) rfl
theorem tw_39 : Cond.fieldLink RX0 21 "EitherPocket$Coat" "kind" "I" ∈ TB := tb (List.mem_of_getElem? (i := 39) (by decide +kernel)) rfl
theorem tw_40 : Cond.fieldLink RX4 128 "EitherPocket$Coat" "kind" "I" ∈ TB := tb (List.mem_of_getElem? (i := 40) (by decide +kernel)) rfl
theorem tw_41 : Cond.fieldLink RX3 48 "EitherPocket$Coat" "x" "I" ∈ TB := tb (List.mem_of_getElem? (i := 41) (by decide +kernel)) rfl
theorem tw_42 : Cond.fieldLink RX0 24 "EitherPocket$Coat" "x" "I" ∈ TB := tb (List.mem_of_getElem? (i := 42) (by decide +kernel)) rfl
theorem tw_43 : Cond.fieldLink RX4 131 "EitherPocket$Coat" "x" "I" ∈ TB := tb (List.mem_of_getElem? (i := 43) (by decide +kernel)) rfl
theorem tw_55 : Cond.arrayClass .char ∈ TB := tb (List.mem_of_getElem? (i := 55) (by decide +kernel)) rfl
theorem tw_56 : Cond.fieldLink RX2 9 "EitherPocket$Text" "letters" "[C" ∈ TB := tb (List.mem_of_getElem? (i := 56) (by decide +kernel)) rfl
theorem tw_57 : Cond.fieldLink RX2 15 "EitherPocket$Text" "length" "I" ∈ TB := tb (List.mem_of_getElem? (i := 57) (by decide +kernel)) rfl
theorem tw_58 : Cond.fieldLink RX2 19 "EitherPocket$Text" "place" "I" ∈ TB := tb (List.mem_of_getElem? (i := 58) (by decide +kernel)) rfl
theorem tw_59 : Cond.fieldLink RX2 22 "EitherPocket$Text" "first" "I" ∈ TB := tb (List.mem_of_getElem? (i := 59) (by decide +kernel)) rfl
theorem tw_60 : Cond.fieldLink RX2 25 "EitherPocket$Text" "second" "I" ∈ TB := tb (List.mem_of_getElem? (i := 60) (by decide +kernel)) rfl
theorem tw_61 : Cond.fieldLink RX2 31 "EitherPocket$Text" "told" "LEitherPocket$Coat;" ∈ TB := tb (List.mem_of_getElem? (i := 61) (by decide +kernel)) rfl
theorem tw_62 : Cond.fieldLink RX4 87 "EitherPocket$Text" "told" "LEitherPocket$Coat;" ∈ TB := tb (List.mem_of_getElem? (i := 62) (by decide +kernel)) rfl
theorem tw_63 : Cond.fieldLink RX2 35 "EitherPocket$Text" "toldEvening" "I" ∈ TB := tb (List.mem_of_getElem? (i := 63) (by decide +kernel)) rfl
theorem tw_64 : Cond.fieldLink RX4 94 "EitherPocket$Text" "toldEvening" "I" ∈ TB := tb (List.mem_of_getElem? (i := 64) (by decide +kernel)) rfl
theorem tw_80 : Cond.classLink RX4 16 RX0 ∈ TB := tb (List.mem_of_getElem? (i := 80) (by decide +kernel)) rfl
theorem tw_81 : Cond.methodLinkNest RX4 18 yX0_init "EitherPocket" ∈ tables_1 := List.mem_of_getElem? (i := 81) (by decide +kernel)
theorem tw_82 : Cond.classLink RX4 26 RX1 ∈ TB := tb (List.mem_of_getElem? (i := 82) (by decide +kernel)) rfl
theorem tw_83 : Cond.instantiable RX1 2 ∈ TB := tb (List.mem_of_getElem? (i := 83) (by decide +kernel)) rfl
theorem tw_84 : Cond.methodLink RX4 28 yX1_init ∈ TB := tb (List.mem_of_getElem? (i := 84) (by decide +kernel)) rfl
theorem tw_85 : Cond.instanceMethod yX1_init ∈ TB := tb (List.mem_of_getElem? (i := 85) (by decide +kernel)) rfl
theorem tw_86 : Cond.code yX1_init cX1_init 3 none ∈ TB := tb (List.mem_of_getElem? (i := 86) (by decide +kernel)) rfl
theorem tw_87 : Cond.methodLink RX1 1 Lib.objectInit ∈ TB := tb (List.mem_of_getElem? (i := 87) (by decide +kernel)) rfl
theorem tw_88 : Cond.methodLink RX1 13 Lib.Math.max.name ∈ TB := tb (List.mem_of_getElem? (i := 88) (by decide +kernel)) rfl
theorem tw_89 : Cond.static Lib.Math.max.name ∈ TB := tb (List.mem_of_getElem? (i := 89) (by decide +kernel)) rfl
theorem tw_90 : Cond.code Lib.Math.max.name Lib.Math.max.code 2 (some .int) ∈ TB := tb (List.mem_of_getElem? (i := 90) (by decide +kernel)) rfl
theorem tw_91 : Cond.classLink RX1 19 RX0 ∈ TB := tb (List.mem_of_getElem? (i := 91) (by decide +kernel)) rfl
theorem tw_92 : Cond.arrayOver (.object "EitherPocket$Coat") ∈ tables_1 := List.mem_of_getElem? (i := 92) (by decide +kernel)
theorem tw_93 : Cond.methodLinkNest RX1 25 yX0_init "EitherPocket" ∈ tables_1 := List.mem_of_getElem? (i := 93) (by decide +kernel)
theorem tw_94 : Cond.fieldLink RX1 21 "EitherPocket$Pile" "coats" "[LEitherPocket$Coat;" ∈ TB := tb (List.mem_of_getElem? (i := 94) (by decide +kernel)) rfl
theorem tw_95 : Cond.fieldLink RX1 7 "EitherPocket$Pile" "size" "I" ∈ TB := tb (List.mem_of_getElem? (i := 95) (by decide +kernel)) rfl
theorem tw_101 : Cond.classLink RX4 38 RX3 ∈ TB := tb (List.mem_of_getElem? (i := 101) (by decide +kernel)) rfl
theorem tw_102 : Cond.instantiable RX3 9 ∈ TB := tb (List.mem_of_getElem? (i := 102) (by decide +kernel)) rfl
theorem tw_103 : Cond.methodLinkNest RX4 40 yX3_init "EitherPocket" ∈ tables_1 := List.mem_of_getElem? (i := 103) (by decide +kernel)
theorem tw_104 : Cond.instanceMethod yX3_init ∈ TB := tb (List.mem_of_getElem? (i := 104) (by decide +kernel)) rfl
theorem tw_105 : Cond.code yX3_init cX3_init 1 none ∈ TB := tb (List.mem_of_getElem? (i := 105) (by decide +kernel)) rfl
theorem tw_106 : Cond.methodLink RX3 3 Lib.objectInit ∈ TB := tb (List.mem_of_getElem? (i := 106) (by decide +kernel)) rfl
theorem tw_107 : Cond.fieldLink RX3 11 "EitherPocket$Walk" "row" "[J" ∈ TB := tb (List.mem_of_getElem? (i := 107) (by decide +kernel)) rfl
theorem tw_108 : Cond.fieldLink RX3 15 "EitherPocket$Walk" "nextRow" "[J" ∈ TB := tb (List.mem_of_getElem? (i := 108) (by decide +kernel)) rfl
theorem tw_109 : Cond.fieldLink RX3 18 "EitherPocket$Walk" "others" "[J" ∈ TB := tb (List.mem_of_getElem? (i := 109) (by decide +kernel)) rfl
theorem tw_110 : Cond.fieldLink RX3 21 "EitherPocket$Walk" "end" "I" ∈ TB := tb (List.mem_of_getElem? (i := 110) (by decide +kernel)) rfl
theorem tw_111 : Cond.fieldLink RX3 25 "EitherPocket$Walk" "kind" "I" ∈ TB := tb (List.mem_of_getElem? (i := 111) (by decide +kernel)) rfl
theorem tw_112 : Cond.fieldLink RX3 28 "EitherPocket$Walk" "x" "I" ∈ TB := tb (List.mem_of_getElem? (i := 112) (by decide +kernel)) rfl
theorem tw_113 : Cond.fieldLink RX3 31 "EitherPocket$Walk" "matches" "I" ∈ TB := tb (List.mem_of_getElem? (i := 113) (by decide +kernel)) rfl
theorem tw_114 : Cond.fieldLink RX3 34 "EitherPocket$Walk" "stillOn" "J" ∈ TB := tb (List.mem_of_getElem? (i := 114) (by decide +kernel)) rfl
theorem tw_115 : Cond.fieldLink RX3 38 "EitherPocket$Walk" "endedLeft" "J" ∈ TB := tb (List.mem_of_getElem? (i := 115) (by decide +kernel)) rfl
theorem tw_135 : Cond.arrayClass .long ∈ TB := tb (List.mem_of_getElem? (i := 135) (by decide +kernel)) rfl
theorem tw_136 : Cond.methodLink RX4 59 yX0_setBoxes ∈ TB := tb (List.mem_of_getElem? (i := 136) (by decide +kernel)) rfl
theorem tw_137 : Cond.instanceMethod yX0_setBoxes ∈ TB := tb (List.mem_of_getElem? (i := 137) (by decide +kernel)) rfl
theorem tw_138 : Cond.selects RX0 yX0_setBoxes yX0_setBoxes ∈ TB := tb (List.mem_of_getElem? (i := 138) (by decide +kernel)) rfl
theorem tw_139 : Cond.code yX0_setBoxes cX0_setBoxes 3 none ∈ TB := tb (List.mem_of_getElem? (i := 139) (by decide +kernel)) rfl
theorem tw_140 : Cond.methodLink RX4 63 yX0_setHand ∈ TB := tb (List.mem_of_getElem? (i := 140) (by decide +kernel)) rfl
theorem tw_141 : Cond.instanceMethod yX0_setHand ∈ TB := tb (List.mem_of_getElem? (i := 141) (by decide +kernel)) rfl
theorem tw_142 : Cond.selects RX0 yX0_setHand yX0_setHand ∈ TB := tb (List.mem_of_getElem? (i := 142) (by decide +kernel)) rfl
theorem tw_143 : Cond.code yX0_setHand cX0_setHand 3 none ∈ TB := tb (List.mem_of_getElem? (i := 143) (by decide +kernel)) rfl
theorem tw_144 : Cond.fieldLink RX4 10 "EitherPocket" "text" "LEitherPocket$Text;" ∈ TB := tb (List.mem_of_getElem? (i := 144) (by decide +kernel)) rfl
theorem tw_145 : Cond.fieldLink RX4 19 "EitherPocket" "now" "LEitherPocket$Coat;" ∈ TB := tb (List.mem_of_getElem? (i := 145) (by decide +kernel)) rfl
theorem tw_146 : Cond.fieldLink RX4 23 "EitherPocket" "trial" "LEitherPocket$Coat;" ∈ TB := tb (List.mem_of_getElem? (i := 146) (by decide +kernel)) rfl
theorem tw_147 : Cond.fieldLink RX4 31 "EitherPocket" "acts" "LEitherPocket$Pile;" ∈ TB := tb (List.mem_of_getElem? (i := 147) (by decide +kernel)) rfl
theorem tw_148 : Cond.fieldLink RX4 35 "EitherPocket" "kept" "LEitherPocket$Pile;" ∈ TB := tb (List.mem_of_getElem? (i := 148) (by decide +kernel)) rfl
theorem tw_149 : Cond.fieldLink RX4 41 "EitherPocket" "walk" "LEitherPocket$Walk;" ∈ TB := tb (List.mem_of_getElem? (i := 149) (by decide +kernel)) rfl
theorem tw_150 : Cond.fieldLink RX4 45 "EitherPocket" "seenLeft" "[I" ∈ TB := tb (List.mem_of_getElem? (i := 150) (by decide +kernel)) rfl
theorem tw_151 : Cond.fieldLink RX4 49 "EitherPocket" "seenRight" "[I" ∈ TB := tb (List.mem_of_getElem? (i := 151) (by decide +kernel)) rfl
theorem tw_152 : Cond.fieldLink RX4 52 "EitherPocket" "seenCount" "I" ∈ TB := tb (List.mem_of_getElem? (i := 152) (by decide +kernel)) rfl
theorem tw_153 : Cond.fieldLink RX4 56 "EitherPocket" "evening" "I" ∈ TB := tb (List.mem_of_getElem? (i := 153) (by decide +kernel)) rfl
theorem tw_175 : Cond.arrayClass .int ∈ TB := tb (List.mem_of_getElem? (i := 175) (by decide +kernel)) rfl
theorem tw_176 : Cond.methodLink RL 13 yX4_write ∈ TB := tb (List.mem_of_getElem? (i := 176) (by decide +kernel)) rfl
theorem tw_177 : Cond.instanceMethod yX4_write ∈ TB := tb (List.mem_of_getElem? (i := 177) (by decide +kernel)) rfl
theorem tw_178 : Cond.selects RX4 yX4_write yX4_write ∈ TB := tb (List.mem_of_getElem? (i := 178) (by decide +kernel)) rfl
theorem tw_179 : Cond.code yX4_write cX4_write 2 (some .int) ∈ TB := tb (List.mem_of_getElem? (i := 179) (by decide +kernel)) rfl
theorem tw_180 : Cond.methodLink RX4 69 yX4_within ∈ TB := tb (List.mem_of_getElem? (i := 180) (by decide +kernel)) rfl
theorem tw_181 : Cond.static yX4_within ∈ TB := tb (List.mem_of_getElem? (i := 181) (by decide +kernel)) rfl
theorem tw_182 : Cond.code yX4_within cX4_within 3 (some .boolean) ∈ TB := tb (List.mem_of_getElem? (i := 182) (by decide +kernel)) rfl
theorem tw_183 : Cond.methodLink RX4 73 yX2_append ∈ TB := tb (List.mem_of_getElem? (i := 183) (by decide +kernel)) rfl
theorem tw_184 : Cond.instanceMethod yX2_append ∈ TB := tb (List.mem_of_getElem? (i := 184) (by decide +kernel)) rfl
theorem tw_185 : Cond.selects RX2 yX2_append yX2_append ∈ TB := tb (List.mem_of_getElem? (i := 185) (by decide +kernel)) rfl
theorem tw_186 : Cond.code yX2_append cX2_append 2 (some .boolean) ∈ TB := tb (List.mem_of_getElem? (i := 186) (by decide +kernel)) rfl
theorem tw_187 : Cond.methodLinkNest RX2 38 yX4_within "EitherPocket" ∈ tables_1 := List.mem_of_getElem? (i := 187) (by decide +kernel)
theorem tw_188 : Cond.methodLink RX4 77 yX2_size ∈ TB := tb (List.mem_of_getElem? (i := 188) (by decide +kernel)) rfl
theorem tw_189 : Cond.instanceMethod yX2_size ∈ TB := tb (List.mem_of_getElem? (i := 189) (by decide +kernel)) rfl
theorem tw_190 : Cond.selects RX2 yX2_size yX2_size ∈ TB := tb (List.mem_of_getElem? (i := 190) (by decide +kernel)) rfl
theorem tw_191 : Cond.code yX2_size cX2_size 1 (some .int) ∈ TB := tb (List.mem_of_getElem? (i := 191) (by decide +kernel)) rfl
theorem tw_192 : Cond.methodLink RL 18 yX4_wipe ∈ TB := tb (List.mem_of_getElem? (i := 192) (by decide +kernel)) rfl
theorem tw_193 : Cond.instanceMethod yX4_wipe ∈ TB := tb (List.mem_of_getElem? (i := 193) (by decide +kernel)) rfl
theorem tw_194 : Cond.selects RX4 yX4_wipe yX4_wipe ∈ TB := tb (List.mem_of_getElem? (i := 194) (by decide +kernel)) rfl
theorem tw_195 : Cond.code yX4_wipe cX4_wipe 2 (some .int) ∈ TB := tb (List.mem_of_getElem? (i := 195) (by decide +kernel)) rfl
theorem tw_196 : Cond.methodLink RX4 81 yX2_clear ∈ TB := tb (List.mem_of_getElem? (i := 196) (by decide +kernel)) rfl
theorem tw_197 : Cond.instanceMethod yX2_clear ∈ TB := tb (List.mem_of_getElem? (i := 197) (by decide +kernel)) rfl
theorem tw_198 : Cond.selects RX2 yX2_clear yX2_clear ∈ TB := tb (List.mem_of_getElem? (i := 198) (by decide +kernel)) rfl
theorem tw_199 : Cond.code yX2_clear cX2_clear 1 none ∈ TB := tb (List.mem_of_getElem? (i := 199) (by decide +kernel)) rfl
theorem tw_200 : Cond.methodLink RL 23 yX4_fault ∈ TB := tb (List.mem_of_getElem? (i := 200) (by decide +kernel)) rfl
theorem tw_201 : Cond.instanceMethod yX4_fault ∈ TB := tb (List.mem_of_getElem? (i := 201) (by decide +kernel)) rfl
theorem tw_202 : Cond.selects RX4 yX4_fault yX4_fault ∈ TB := tb (List.mem_of_getElem? (i := 202) (by decide +kernel)) rfl
theorem tw_203 : Cond.code yX4_fault cX4_fault 1 (some .int) ∈ TB := tb (List.mem_of_getElem? (i := 203) (by decide +kernel)) rfl
theorem tw_204 : Cond.methodLink RX4 84 yX2_firstFault ∈ TB := tb (List.mem_of_getElem? (i := 204) (by decide +kernel)) rfl
theorem tw_205 : Cond.instanceMethod yX2_firstFault ∈ TB := tb (List.mem_of_getElem? (i := 205) (by decide +kernel)) rfl
theorem tw_206 : Cond.selects RX2 yX2_firstFault yX2_firstFault ∈ TB := tb (List.mem_of_getElem? (i := 206) (by decide +kernel)) rfl
theorem tw_207 : Cond.code yX2_firstFault cX2_firstFault 3 (some .int) ∈ TB := tb (List.mem_of_getElem? (i := 207) (by decide +kernel)) rfl
theorem tw_208 : Cond.methodLink RX2 42 yX0_setBoxes ∈ TB := tb (List.mem_of_getElem? (i := 208) (by decide +kernel)) rfl
theorem tw_209 : Cond.methodLink RX2 46 yX0_setHand ∈ TB := tb (List.mem_of_getElem? (i := 209) (by decide +kernel)) rfl
theorem tw_210 : Cond.methodLink RX2 52 yX2_readItem ∈ TB := tb (List.mem_of_getElem? (i := 210) (by decide +kernel)) rfl
theorem tw_212 : Cond.instanceMethod yX2_readItem ∈ TB := tb (List.mem_of_getElem? (i := 212) (by decide +kernel)) rfl
theorem tw_213 : Cond.code yX2_readItem cX2_readItem 2 (some .boolean) ∈ TB := tb (List.mem_of_getElem? (i := 213) (by decide +kernel)) rfl
theorem tw_214 : Cond.methodLink RX2 56 yX2_letterHere ∈ TB := tb (List.mem_of_getElem? (i := 214) (by decide +kernel)) rfl
theorem tw_216 : Cond.instanceMethod yX2_letterHere ∈ TB := tb (List.mem_of_getElem? (i := 216) (by decide +kernel)) rfl
theorem tw_217 : Cond.code yX2_letterHere cX2_letterHere 1 (some .char) ∈ TB := tb (List.mem_of_getElem? (i := 217) (by decide +kernel)) rfl
theorem tw_218 : Cond.methodLink RX2 60 yX2_readTwo ∈ TB := tb (List.mem_of_getElem? (i := 218) (by decide +kernel)) rfl
theorem tw_220 : Cond.instanceMethod yX2_readTwo ∈ TB := tb (List.mem_of_getElem? (i := 220) (by decide +kernel)) rfl
theorem tw_221 : Cond.code yX2_readTwo cX2_readTwo 1 (some .boolean) ∈ TB := tb (List.mem_of_getElem? (i := 221) (by decide +kernel)) rfl
theorem tw_222 : Cond.methodLink RX2 86 yX2_readNumber ∈ TB := tb (List.mem_of_getElem? (i := 222) (by decide +kernel)) rfl
theorem tw_224 : Cond.instanceMethod yX2_readNumber ∈ TB := tb (List.mem_of_getElem? (i := 224) (by decide +kernel)) rfl
theorem tw_225 : Cond.code yX2_readNumber cX2_readNumber 3 (some .int) ∈ TB := tb (List.mem_of_getElem? (i := 225) (by decide +kernel)) rfl
theorem tw_226 : Cond.methodLink RX2 94 yX2_readFigure ∈ TB := tb (List.mem_of_getElem? (i := 226) (by decide +kernel)) rfl
theorem tw_228 : Cond.instanceMethod yX2_readFigure ∈ TB := tb (List.mem_of_getElem? (i := 228) (by decide +kernel)) rfl
theorem tw_229 : Cond.code yX2_readFigure cX2_readFigure 2 (some .int) ∈ TB := tb (List.mem_of_getElem? (i := 229) (by decide +kernel)) rfl
theorem tw_230 : Cond.methodLink RX2 90 yX2_readSign ∈ TB := tb (List.mem_of_getElem? (i := 230) (by decide +kernel)) rfl
theorem tw_232 : Cond.instanceMethod yX2_readSign ∈ TB := tb (List.mem_of_getElem? (i := 232) (by decide +kernel)) rfl
theorem tw_233 : Cond.code yX2_readSign cX2_readSign 2 (some .boolean) ∈ TB := tb (List.mem_of_getElem? (i := 233) (by decide +kernel)) rfl
theorem tw_234 : Cond.methodLink RX2 63 yX2_tellBoxes ∈ TB := tb (List.mem_of_getElem? (i := 234) (by decide +kernel)) rfl
theorem tw_236 : Cond.instanceMethod yX2_tellBoxes ∈ TB := tb (List.mem_of_getElem? (i := 236) (by decide +kernel)) rfl
theorem tw_237 : Cond.code yX2_tellBoxes cX2_tellBoxes 1 (some .boolean) ∈ TB := tb (List.mem_of_getElem? (i := 237) (by decide +kernel)) rfl
theorem tw_238 : Cond.methodLink RX2 66 yX2_tellHand ∈ TB := tb (List.mem_of_getElem? (i := 238) (by decide +kernel)) rfl
theorem tw_240 : Cond.instanceMethod yX2_tellHand ∈ TB := tb (List.mem_of_getElem? (i := 240) (by decide +kernel)) rfl
theorem tw_241 : Cond.code yX2_tellHand cX2_tellHand 1 (some .boolean) ∈ TB := tb (List.mem_of_getElem? (i := 241) (by decide +kernel)) rfl
theorem tw_242 : Cond.methodLinkNest RX2 78 yX4_isHand "EitherPocket" ∈ tables_1 := List.mem_of_getElem? (i := 242) (by decide +kernel)
theorem tw_243 : Cond.static yX4_isHand ∈ TB := tb (List.mem_of_getElem? (i := 243) (by decide +kernel)) rfl
theorem tw_244 : Cond.code yX4_isHand cX4_isHand 2 (some .boolean) ∈ TB := tb (List.mem_of_getElem? (i := 244) (by decide +kernel)) rfl
theorem tw_245 : Cond.methodLink RX4 190 yX4_isKind ∈ TB := tb (List.mem_of_getElem? (i := 245) (by decide +kernel)) rfl
theorem tw_246 : Cond.static yX4_isKind ∈ TB := tb (List.mem_of_getElem? (i := 246) (by decide +kernel)) rfl
theorem tw_247 : Cond.code yX4_isKind cX4_isKind 1 (some .boolean) ∈ TB := tb (List.mem_of_getElem? (i := 247) (by decide +kernel)) rfl
theorem tw_248 : Cond.methodLink RX2 69 yX2_readOne ∈ TB := tb (List.mem_of_getElem? (i := 248) (by decide +kernel)) rfl
theorem tw_250 : Cond.instanceMethod yX2_readOne ∈ TB := tb (List.mem_of_getElem? (i := 250) (by decide +kernel)) rfl
theorem tw_251 : Cond.code yX2_readOne cX2_readOne 1 (some .boolean) ∈ TB := tb (List.mem_of_getElem? (i := 251) (by decide +kernel)) rfl
theorem tw_252 : Cond.methodLink RX2 72 yX2_tellLast ∈ TB := tb (List.mem_of_getElem? (i := 252) (by decide +kernel)) rfl
theorem tw_254 : Cond.instanceMethod yX2_tellLast ∈ TB := tb (List.mem_of_getElem? (i := 254) (by decide +kernel)) rfl
theorem tw_255 : Cond.code yX2_tellLast cX2_tellLast 1 (some .boolean) ∈ TB := tb (List.mem_of_getElem? (i := 255) (by decide +kernel)) rfl
theorem tw_256 : Cond.methodLinkNest RX2 82 yX4_isSide "EitherPocket" ∈ tables_1 := List.mem_of_getElem? (i := 256) (by decide +kernel)
theorem tw_257 : Cond.static yX4_isSide ∈ TB := tb (List.mem_of_getElem? (i := 257) (by decide +kernel)) rfl
theorem tw_258 : Cond.code yX4_isSide cX4_isSide 1 (some .boolean) ∈ TB := tb (List.mem_of_getElem? (i := 258) (by decide +kernel)) rfl
theorem tw_259 : Cond.methodLink RX2 75 yX2_tellEvening ∈ TB := tb (List.mem_of_getElem? (i := 259) (by decide +kernel)) rfl
theorem tw_261 : Cond.instanceMethod yX2_tellEvening ∈ TB := tb (List.mem_of_getElem? (i := 261) (by decide +kernel)) rfl
theorem tw_262 : Cond.code yX2_tellEvening cX2_tellEvening 1 (some .boolean) ∈ TB := tb (List.mem_of_getElem? (i := 262) (by decide +kernel)) rfl
theorem tw_263 : Cond.methodLink RL 27 yX4_lay ∈ TB := tb (List.mem_of_getElem? (i := 263) (by decide +kernel)) rfl
theorem tw_264 : Cond.instanceMethod yX4_lay ∈ TB := tb (List.mem_of_getElem? (i := 264) (by decide +kernel)) rfl
theorem tw_265 : Cond.selects RX4 yX4_lay yX4_lay ∈ TB := tb (List.mem_of_getElem? (i := 265) (by decide +kernel)) rfl
theorem tw_266 : Cond.code yX4_lay cX4_lay 1 (some .int) ∈ TB := tb (List.mem_of_getElem? (i := 266) (by decide +kernel)) rfl
theorem tw_267 : Cond.methodLink RX4 90 yX0_copyFrom ∈ TB := tb (List.mem_of_getElem? (i := 267) (by decide +kernel)) rfl
theorem tw_268 : Cond.instanceMethod yX0_copyFrom ∈ TB := tb (List.mem_of_getElem? (i := 268) (by decide +kernel)) rfl
theorem tw_269 : Cond.selects RX0 yX0_copyFrom yX0_copyFrom ∈ TB := tb (List.mem_of_getElem? (i := 269) (by decide +kernel)) rfl
theorem tw_270 : Cond.code yX0_copyFrom cX0_copyFrom 2 none ∈ TB := tb (List.mem_of_getElem? (i := 270) (by decide +kernel)) rfl
theorem tw_271 : Cond.methodLink RX4 97 yX1_clear ∈ TB := tb (List.mem_of_getElem? (i := 271) (by decide +kernel)) rfl
theorem tw_272 : Cond.instanceMethod yX1_clear ∈ TB := tb (List.mem_of_getElem? (i := 272) (by decide +kernel)) rfl
theorem tw_273 : Cond.selects RX1 yX1_clear yX1_clear ∈ TB := tb (List.mem_of_getElem? (i := 273) (by decide +kernel)) rfl
theorem tw_274 : Cond.code yX1_clear cX1_clear 1 none ∈ TB := tb (List.mem_of_getElem? (i := 274) (by decide +kernel)) rfl
theorem tw_275 : Cond.methodLink RX4 98 yX0_matches ∈ TB := tb (List.mem_of_getElem? (i := 275) (by decide +kernel)) rfl
theorem tw_276 : Cond.instanceMethod yX0_matches ∈ TB := tb (List.mem_of_getElem? (i := 276) (by decide +kernel)) rfl
theorem tw_277 : Cond.selects RX0 yX0_matches yX0_matches ∈ TB := tb (List.mem_of_getElem? (i := 277) (by decide +kernel)) rfl
theorem tw_278 : Cond.code yX0_matches cX0_matches 1 (some .int) ∈ TB := tb (List.mem_of_getElem? (i := 278) (by decide +kernel)) rfl
theorem tw_279 : Cond.methodLink RL 31 yX4_box ∈ TB := tb (List.mem_of_getElem? (i := 279) (by decide +kernel)) rfl
theorem tw_280 : Cond.instanceMethod yX4_box ∈ TB := tb (List.mem_of_getElem? (i := 280) (by decide +kernel)) rfl
theorem tw_281 : Cond.selects RX4 yX4_box yX4_box ∈ TB := tb (List.mem_of_getElem? (i := 281) (by decide +kernel)) rfl
theorem tw_282 : Cond.code yX4_box cX4_box 2 (some .int) ∈ TB := tb (List.mem_of_getElem? (i := 282) (by decide +kernel)) rfl
theorem tw_283 : Cond.methodLink RX4 101 yX4_isSide ∈ TB := tb (List.mem_of_getElem? (i := 283) (by decide +kernel)) rfl
theorem tw_284 : Cond.methodLink RX4 105 yX0_inBox ∈ TB := tb (List.mem_of_getElem? (i := 284) (by decide +kernel)) rfl
theorem tw_285 : Cond.instanceMethod yX0_inBox ∈ TB := tb (List.mem_of_getElem? (i := 285) (by decide +kernel)) rfl
theorem tw_286 : Cond.selects RX0 yX0_inBox yX0_inBox ∈ TB := tb (List.mem_of_getElem? (i := 286) (by decide +kernel)) rfl
theorem tw_287 : Cond.code yX0_inBox cX0_inBox 2 (some .int) ∈ TB := tb (List.mem_of_getElem? (i := 287) (by decide +kernel)) rfl
theorem tw_288 : Cond.methodLink RL 35 yX4_quarters ∈ TB := tb (List.mem_of_getElem? (i := 288) (by decide +kernel)) rfl
theorem tw_289 : Cond.instanceMethod yX4_quarters ∈ TB := tb (List.mem_of_getElem? (i := 289) (by decide +kernel)) rfl
theorem tw_290 : Cond.selects RX4 yX4_quarters yX4_quarters ∈ TB := tb (List.mem_of_getElem? (i := 290) (by decide +kernel)) rfl
theorem tw_291 : Cond.code yX4_quarters cX4_quarters 3 (some .int) ∈ TB := tb (List.mem_of_getElem? (i := 291) (by decide +kernel)) rfl
theorem tw_292 : Cond.methodLink RX4 109 yX0_quartersToLeft ∈ TB := tb (List.mem_of_getElem? (i := 292) (by decide +kernel)) rfl
theorem tw_293 : Cond.instanceMethod yX0_quartersToLeft ∈ TB := tb (List.mem_of_getElem? (i := 293) (by decide +kernel)) rfl
theorem tw_294 : Cond.selects RX0 yX0_quartersToLeft yX0_quartersToLeft ∈ TB := tb (List.mem_of_getElem? (i := 294) (by decide +kernel)) rfl
theorem tw_295 : Cond.code yX0_quartersToLeft cX0_quartersToLeft 1 (some .int) ∈ TB := tb (List.mem_of_getElem? (i := 295) (by decide +kernel)) rfl
theorem tw_296 : Cond.methodLinkNest RX0 27 yX4_handToLeft "EitherPocket" ∈ tables_1 := List.mem_of_getElem? (i := 296) (by decide +kernel)
theorem tw_297 : Cond.static yX4_handToLeft ∈ TB := tb (List.mem_of_getElem? (i := 297) (by decide +kernel)) rfl
theorem tw_298 : Cond.code yX4_handToLeft cX4_handToLeft 5 (some .int) ∈ TB := tb (List.mem_of_getElem? (i := 298) (by decide +kernel)) rfl
theorem tw_299 : Cond.methodLink RX4 235 yX4_leaning ∈ TB := tb (List.mem_of_getElem? (i := 299) (by decide +kernel)) rfl
theorem tw_300 : Cond.static yX4_leaning ∈ TB := tb (List.mem_of_getElem? (i := 300) (by decide +kernel)) rfl
theorem tw_301 : Cond.code yX4_leaning cX4_leaning 3 (some .int) ∈ TB := tb (List.mem_of_getElem? (i := 301) (by decide +kernel)) rfl
theorem tw_302 : Cond.methodLink RL 39 yX4_reach ∈ TB := tb (List.mem_of_getElem? (i := 302) (by decide +kernel)) rfl
theorem tw_303 : Cond.instanceMethod yX4_reach ∈ TB := tb (List.mem_of_getElem? (i := 303) (by decide +kernel)) rfl
theorem tw_304 : Cond.selects RX4 yX4_reach yX4_reach ∈ TB := tb (List.mem_of_getElem? (i := 304) (by decide +kernel)) rfl
theorem tw_305 : Cond.code yX4_reach cX4_reach 2 (some .int) ∈ TB := tb (List.mem_of_getElem? (i := 305) (by decide +kernel)) rfl
theorem tw_306 : Cond.methodLink RX4 112 yX1_put ∈ TB := tb (List.mem_of_getElem? (i := 306) (by decide +kernel)) rfl
theorem tw_307 : Cond.instanceMethod yX1_put ∈ TB := tb (List.mem_of_getElem? (i := 307) (by decide +kernel)) rfl
theorem tw_308 : Cond.selects RX1 yX1_put yX1_put ∈ TB := tb (List.mem_of_getElem? (i := 308) (by decide +kernel)) rfl
theorem tw_309 : Cond.code yX1_put cX1_put 2 none ∈ TB := tb (List.mem_of_getElem? (i := 309) (by decide +kernel)) rfl
theorem tw_310 : Cond.methodLink RX1 26 yX1_isFull ∈ TB := tb (List.mem_of_getElem? (i := 310) (by decide +kernel)) rfl
theorem tw_311 : Cond.instanceMethod yX1_isFull ∈ TB := tb (List.mem_of_getElem? (i := 311) (by decide +kernel)) rfl
theorem tw_312 : Cond.selects RX1 yX1_isFull yX1_isFull ∈ TB := tb (List.mem_of_getElem? (i := 312) (by decide +kernel)) rfl
theorem tw_313 : Cond.code yX1_isFull cX1_isFull 1 (some .boolean) ∈ TB := tb (List.mem_of_getElem? (i := 313) (by decide +kernel)) rfl
theorem tw_314 : Cond.methodLink RX1 30 yX1_dropOldest ∈ TB := tb (List.mem_of_getElem? (i := 314) (by decide +kernel)) rfl
theorem tw_316 : Cond.instanceMethod yX1_dropOldest ∈ TB := tb (List.mem_of_getElem? (i := 316) (by decide +kernel)) rfl
theorem tw_317 : Cond.code yX1_dropOldest cX1_dropOldest 2 none ∈ TB := tb (List.mem_of_getElem? (i := 317) (by decide +kernel)) rfl
theorem tw_318 : Cond.methodLink RX1 39 yX0_copyFrom ∈ TB := tb (List.mem_of_getElem? (i := 318) (by decide +kernel)) rfl
theorem tw_319 : Cond.methodLinkNest RX1 33 yX4_within "EitherPocket" ∈ tables_1 := List.mem_of_getElem? (i := 319) (by decide +kernel)
theorem tw_320 : Cond.methodLink RX4 115 yX0_draw ∈ TB := tb (List.mem_of_getElem? (i := 320) (by decide +kernel)) rfl
theorem tw_321 : Cond.instanceMethod yX0_draw ∈ TB := tb (List.mem_of_getElem? (i := 321) (by decide +kernel)) rfl
theorem tw_322 : Cond.selects RX0 yX0_draw yX0_draw ∈ TB := tb (List.mem_of_getElem? (i := 322) (by decide +kernel)) rfl
theorem tw_323 : Cond.code yX0_draw cX0_draw 3 (some .boolean) ∈ TB := tb (List.mem_of_getElem? (i := 323) (by decide +kernel)) rfl
theorem tw_324 : Cond.methodLink RX0 31 yX0_inBox ∈ TB := tb (List.mem_of_getElem? (i := 324) (by decide +kernel)) rfl
theorem tw_325 : Cond.methodLink RX0 35 yX0_setBox ∈ TB := tb (List.mem_of_getElem? (i := 325) (by decide +kernel)) rfl
theorem tw_326 : Cond.instanceMethod yX0_setBox ∈ TB := tb (List.mem_of_getElem? (i := 326) (by decide +kernel)) rfl
theorem tw_327 : Cond.selects RX0 yX0_setBox yX0_setBox ∈ TB := tb (List.mem_of_getElem? (i := 327) (by decide +kernel)) rfl
theorem tw_328 : Cond.code yX0_setBox cX0_setBox 3 none ∈ TB := tb (List.mem_of_getElem? (i := 328) (by decide +kernel)) rfl
theorem tw_329 : Cond.methodLink RL 43 yX4_putOver ∈ TB := tb (List.mem_of_getElem? (i := 329) (by decide +kernel)) rfl
theorem tw_330 : Cond.instanceMethod yX4_putOver ∈ TB := tb (List.mem_of_getElem? (i := 330) (by decide +kernel)) rfl
theorem tw_331 : Cond.selects RX4 yX4_putOver yX4_putOver ∈ TB := tb (List.mem_of_getElem? (i := 331) (by decide +kernel)) rfl
theorem tw_332 : Cond.code yX4_putOver cX4_putOver 5 (some .int) ∈ TB := tb (List.mem_of_getElem? (i := 332) (by decide +kernel)) rfl
theorem tw_333 : Cond.methodLink RX4 118 yX4_otherSide ∈ TB := tb (List.mem_of_getElem? (i := 333) (by decide +kernel)) rfl
theorem tw_334 : Cond.static yX4_otherSide ∈ TB := tb (List.mem_of_getElem? (i := 334) (by decide +kernel)) rfl
theorem tw_335 : Cond.code yX4_otherSide cX4_otherSide 1 (some .int) ∈ TB := tb (List.mem_of_getElem? (i := 335) (by decide +kernel)) rfl
theorem tw_336 : Cond.methodLink RX4 121 yX0_setBox ∈ TB := tb (List.mem_of_getElem? (i := 336) (by decide +kernel)) rfl
theorem tw_337 : Cond.methodLink RL 48 yX4_buy ∈ TB := tb (List.mem_of_getElem? (i := 337) (by decide +kernel)) rfl
theorem tw_338 : Cond.instanceMethod yX4_buy ∈ TB := tb (List.mem_of_getElem? (i := 338) (by decide +kernel)) rfl
theorem tw_339 : Cond.selects RX4 yX4_buy yX4_buy ∈ TB := tb (List.mem_of_getElem? (i := 339) (by decide +kernel)) rfl
theorem tw_340 : Cond.code yX4_buy cX4_buy 3 (some .int) ∈ TB := tb (List.mem_of_getElem? (i := 340) (by decide +kernel)) rfl
theorem tw_341 : Cond.methodLink RL 52 yX4_hand ∈ TB := tb (List.mem_of_getElem? (i := 341) (by decide +kernel)) rfl
theorem tw_342 : Cond.instanceMethod yX4_hand ∈ TB := tb (List.mem_of_getElem? (i := 342) (by decide +kernel)) rfl
theorem tw_343 : Cond.selects RX4 yX4_hand yX4_hand ∈ TB := tb (List.mem_of_getElem? (i := 343) (by decide +kernel)) rfl
theorem tw_344 : Cond.code yX4_hand cX4_hand 4 (some .int) ∈ TB := tb (List.mem_of_getElem? (i := 344) (by decide +kernel)) rfl
theorem tw_345 : Cond.methodLink RX4 124 yX4_isHand ∈ TB := tb (List.mem_of_getElem? (i := 345) (by decide +kernel)) rfl
theorem tw_346 : Cond.methodLink RL 56 yX4_undo ∈ TB := tb (List.mem_of_getElem? (i := 346) (by decide +kernel)) rfl
theorem tw_347 : Cond.instanceMethod yX4_undo ∈ TB := tb (List.mem_of_getElem? (i := 347) (by decide +kernel)) rfl
theorem tw_348 : Cond.selects RX4 yX4_undo yX4_undo ∈ TB := tb (List.mem_of_getElem? (i := 348) (by decide +kernel)) rfl
theorem tw_349 : Cond.code yX4_undo cX4_undo 1 (some .int) ∈ TB := tb (List.mem_of_getElem? (i := 349) (by decide +kernel)) rfl
theorem tw_350 : Cond.methodLink RX4 134 yX1_takeLast ∈ TB := tb (List.mem_of_getElem? (i := 350) (by decide +kernel)) rfl
theorem tw_351 : Cond.instanceMethod yX1_takeLast ∈ TB := tb (List.mem_of_getElem? (i := 351) (by decide +kernel)) rfl
theorem tw_352 : Cond.selects RX1 yX1_takeLast yX1_takeLast ∈ TB := tb (List.mem_of_getElem? (i := 352) (by decide +kernel)) rfl
theorem tw_353 : Cond.code yX1_takeLast cX1_takeLast 2 (some .boolean) ∈ TB := tb (List.mem_of_getElem? (i := 353) (by decide +kernel)) rfl
theorem tw_354 : Cond.methodLink RX4 138 yX1_size ∈ TB := tb (List.mem_of_getElem? (i := 354) (by decide +kernel)) rfl
theorem tw_355 : Cond.instanceMethod yX1_size ∈ TB := tb (List.mem_of_getElem? (i := 355) (by decide +kernel)) rfl
theorem tw_356 : Cond.selects RX1 yX1_size yX1_size ∈ TB := tb (List.mem_of_getElem? (i := 356) (by decide +kernel)) rfl
theorem tw_357 : Cond.code yX1_size cX1_size 1 (some .int) ∈ TB := tb (List.mem_of_getElem? (i := 357) (by decide +kernel)) rfl
theorem tw_358 : Cond.methodLink RL 60 yX4_left ∈ TB := tb (List.mem_of_getElem? (i := 358) (by decide +kernel)) rfl
theorem tw_359 : Cond.instanceMethod yX4_left ∈ TB := tb (List.mem_of_getElem? (i := 359) (by decide +kernel)) rfl
theorem tw_360 : Cond.selects RX4 yX4_left yX4_left ∈ TB := tb (List.mem_of_getElem? (i := 360) (by decide +kernel)) rfl
theorem tw_361 : Cond.code yX4_left cX4_left 3 (some .int) ∈ TB := tb (List.mem_of_getElem? (i := 361) (by decide +kernel)) rfl
theorem tw_362 : Cond.methodLink RX4 139 yX4_isEnd ∈ TB := tb (List.mem_of_getElem? (i := 362) (by decide +kernel)) rfl
theorem tw_363 : Cond.static yX4_isEnd ∈ TB := tb (List.mem_of_getElem? (i := 363) (by decide +kernel)) rfl
theorem tw_364 : Cond.code yX4_isEnd cX4_isEnd 1 (some .boolean) ∈ TB := tb (List.mem_of_getElem? (i := 364) (by decide +kernel)) rfl
theorem tw_365 : Cond.methodLink RX4 142 yX4_walkToEnd ∈ TB := tb (List.mem_of_getElem? (i := 365) (by decide +kernel)) rfl
theorem tw_367 : Cond.instanceMethod yX4_walkToEnd ∈ TB := tb (List.mem_of_getElem? (i := 367) (by decide +kernel)) rfl
theorem tw_368 : Cond.code yX4_walkToEnd cX4_walkToEnd 2 (some .long) ∈ TB := tb (List.mem_of_getElem? (i := 368) (by decide +kernel)) rfl
theorem tw_369 : Cond.methodLink RX4 162 yX4_startFrom ∈ TB := tb (List.mem_of_getElem? (i := 369) (by decide +kernel)) rfl
theorem tw_371 : Cond.instanceMethod yX4_startFrom ∈ TB := tb (List.mem_of_getElem? (i := 371) (by decide +kernel)) rfl
theorem tw_372 : Cond.code yX4_startFrom cX4_startFrom 4 none ∈ TB := tb (List.mem_of_getElem? (i := 372) (by decide +kernel)) rfl
theorem tw_373 : Cond.methodLink RX4 212 yX3_start ∈ TB := tb (List.mem_of_getElem? (i := 373) (by decide +kernel)) rfl
theorem tw_374 : Cond.instanceMethod yX3_start ∈ TB := tb (List.mem_of_getElem? (i := 374) (by decide +kernel)) rfl
theorem tw_375 : Cond.selects RX3 yX3_start yX3_start ∈ TB := tb (List.mem_of_getElem? (i := 375) (by decide +kernel)) rfl
theorem tw_376 : Cond.code yX3_start cX3_start 3 none ∈ TB := tb (List.mem_of_getElem? (i := 376) (by decide +kernel)) rfl
theorem tw_377 : Cond.methodLink RX3 41 yX3_wipeRow ∈ TB := tb (List.mem_of_getElem? (i := 377) (by decide +kernel)) rfl
theorem tw_378 : Cond.static yX3_wipeRow ∈ TB := tb (List.mem_of_getElem? (i := 378) (by decide +kernel)) rfl
theorem tw_379 : Cond.code yX3_wipeRow cX3_wipeRow 2 none ∈ TB := tb (List.mem_of_getElem? (i := 379) (by decide +kernel)) rfl
theorem tw_380 : Cond.methodLink RX3 49 yX0_matches ∈ TB := tb (List.mem_of_getElem? (i := 380) (by decide +kernel)) rfl
theorem tw_381 : Cond.constantLong RX3 52 (4398046511104) ∈ TB := tb (List.mem_of_getElem? (i := 381) (by decide +kernel)) rfl
theorem tw_382 : Cond.methodLink RX3 60 yX3_endBy ∈ TB := tb (List.mem_of_getElem? (i := 382) (by decide +kernel)) rfl
theorem tw_384 : Cond.instanceMethod yX3_endBy ∈ TB := tb (List.mem_of_getElem? (i := 384) (by decide +kernel)) rfl
theorem tw_385 : Cond.code yX3_endBy cX3_endBy 5 none ∈ TB := tb (List.mem_of_getElem? (i := 385) (by decide +kernel)) rfl
theorem tw_386 : Cond.methodLink RX3 67 yX3_addTo ∈ TB := tb (List.mem_of_getElem? (i := 386) (by decide +kernel)) rfl
theorem tw_387 : Cond.static yX3_addTo ∈ TB := tb (List.mem_of_getElem? (i := 387) (by decide +kernel)) rfl
theorem tw_388 : Cond.code yX3_addTo cX3_addTo 6 none ∈ TB := tb (List.mem_of_getElem? (i := 388) (by decide +kernel)) rfl
theorem tw_389 : Cond.methodLink RX4 216 yX3_reachesTillEnd ∈ TB := tb (List.mem_of_getElem? (i := 389) (by decide +kernel)) rfl
theorem tw_390 : Cond.instanceMethod yX3_reachesTillEnd ∈ TB := tb (List.mem_of_getElem? (i := 390) (by decide +kernel)) rfl
theorem tw_391 : Cond.selects RX3 yX3_reachesTillEnd yX3_reachesTillEnd ∈ TB := tb (List.mem_of_getElem? (i := 391) (by decide +kernel)) rfl
theorem tw_392 : Cond.code yX3_reachesTillEnd cX3_reachesTillEnd 4 (some .long) ∈ TB := tb (List.mem_of_getElem? (i := 392) (by decide +kernel)) rfl
theorem tw_393 : Cond.methodLink RX3 71 yX3_advanceOnce ∈ TB := tb (List.mem_of_getElem? (i := 393) (by decide +kernel)) rfl
theorem tw_395 : Cond.instanceMethod yX3_advanceOnce ∈ TB := tb (List.mem_of_getElem? (i := 395) (by decide +kernel)) rfl
theorem tw_396 : Cond.code yX3_advanceOnce cX3_advanceOnce 9 none ∈ TB := tb (List.mem_of_getElem? (i := 396) (by decide +kernel)) rfl
theorem tw_397 : Cond.methodLinkNest RX3 78 yX4_handToLeft "EitherPocket" ∈ tables_1 := List.mem_of_getElem? (i := 397) (by decide +kernel)
theorem tw_398 : Cond.constantLong RX3 82 (4) ∈ TB := tb (List.mem_of_getElem? (i := 398) (by decide +kernel)) rfl
theorem tw_399 : Cond.methodLink RX3 84 yX3_follow ∈ TB := tb (List.mem_of_getElem? (i := 399) (by decide +kernel)) rfl
theorem tw_401 : Cond.instanceMethod yX3_follow ∈ TB := tb (List.mem_of_getElem? (i := 401) (by decide +kernel)) rfl
theorem tw_402 : Cond.code yX3_follow cX3_follow 7 none ∈ TB := tb (List.mem_of_getElem? (i := 402) (by decide +kernel)) rfl
theorem tw_403 : Cond.methodLink RX4 146 yX3_chanceOfOther ∈ TB := tb (List.mem_of_getElem? (i := 403) (by decide +kernel)) rfl
theorem tw_404 : Cond.instanceMethod yX3_chanceOfOther ∈ TB := tb (List.mem_of_getElem? (i := 404) (by decide +kernel)) rfl
theorem tw_405 : Cond.selects RX3 yX3_chanceOfOther yX3_chanceOfOther ∈ TB := tb (List.mem_of_getElem? (i := 405) (by decide +kernel)) rfl
theorem tw_406 : Cond.code yX3_chanceOfOther cX3_chanceOfOther 2 (some .long) ∈ TB := tb (List.mem_of_getElem? (i := 406) (by decide +kernel)) rfl
theorem tw_407 : Cond.methodLinkNest RX3 74 yX4_within "EitherPocket" ∈ tables_1 := List.mem_of_getElem? (i := 407) (by decide +kernel)
theorem tw_408 : Cond.methodLink RX4 149 yX4_tenThousandths ∈ TB := tb (List.mem_of_getElem? (i := 408) (by decide +kernel)) rfl
theorem tw_409 : Cond.static yX4_tenThousandths ∈ TB := tb (List.mem_of_getElem? (i := 409) (by decide +kernel)) rfl
theorem tw_410 : Cond.code yX4_tenThousandths cX4_tenThousandths 2 (some .int) ∈ TB := tb (List.mem_of_getElem? (i := 410) (by decide +kernel)) rfl
theorem tw_411 : Cond.constantLong RX4 196 (10000) ∈ TB := tb (List.mem_of_getElem? (i := 411) (by decide +kernel)) rfl
theorem tw_412 : Cond.constantLong RX4 169 (4398046511104) ∈ TB := tb (List.mem_of_getElem? (i := 412) (by decide +kernel)) rfl
theorem tw_413 : Cond.methodLink RL 64 yX4_mean ∈ TB := tb (List.mem_of_getElem? (i := 413) (by decide +kernel)) rfl
theorem tw_414 : Cond.instanceMethod yX4_mean ∈ TB := tb (List.mem_of_getElem? (i := 414) (by decide +kernel)) rfl
theorem tw_415 : Cond.selects RX4 yX4_mean yX4_mean ∈ TB := tb (List.mem_of_getElem? (i := 415) (by decide +kernel)) rfl
theorem tw_416 : Cond.code yX4_mean cX4_mean 5 (some .int) ∈ TB := tb (List.mem_of_getElem? (i := 416) (by decide +kernel)) rfl
theorem tw_417 : Cond.methodLink RX4 153 yX4_hundredfold ∈ TB := tb (List.mem_of_getElem? (i := 417) (by decide +kernel)) rfl
theorem tw_418 : Cond.static yX4_hundredfold ∈ TB := tb (List.mem_of_getElem? (i := 418) (by decide +kernel)) rfl
theorem tw_419 : Cond.code yX4_hundredfold cX4_hundredfold 2 (some .int) ∈ TB := tb (List.mem_of_getElem? (i := 419) (by decide +kernel)) rfl
theorem tw_420 : Cond.constantLong RX4 233 (100) ∈ TB := tb (List.mem_of_getElem? (i := 420) (by decide +kernel)) rfl
theorem tw_421 : Cond.methodLink RL 68 yX4_soon ∈ TB := tb (List.mem_of_getElem? (i := 421) (by decide +kernel)) rfl
theorem tw_422 : Cond.instanceMethod yX4_soon ∈ TB := tb (List.mem_of_getElem? (i := 422) (by decide +kernel)) rfl
theorem tw_423 : Cond.selects RX4 yX4_soon yX4_soon ∈ TB := tb (List.mem_of_getElem? (i := 423) (by decide +kernel)) rfl
theorem tw_424 : Cond.code yX4_soon cX4_soon 3 (some .int) ∈ TB := tb (List.mem_of_getElem? (i := 424) (by decide +kernel)) rfl
theorem tw_425 : Cond.methodLink RX4 166 yX3_advance ∈ TB := tb (List.mem_of_getElem? (i := 425) (by decide +kernel)) rfl
theorem tw_426 : Cond.instanceMethod yX3_advance ∈ TB := tb (List.mem_of_getElem? (i := 426) (by decide +kernel)) rfl
theorem tw_427 : Cond.selects RX3 yX3_advance yX3_advance ∈ TB := tb (List.mem_of_getElem? (i := 427) (by decide +kernel)) rfl
theorem tw_428 : Cond.code yX3_advance cX3_advance 3 none ∈ TB := tb (List.mem_of_getElem? (i := 428) (by decide +kernel)) rfl
theorem tw_429 : Cond.methodLink RX4 171 yX3_standing ∈ TB := tb (List.mem_of_getElem? (i := 429) (by decide +kernel)) rfl
theorem tw_430 : Cond.instanceMethod yX3_standing ∈ TB := tb (List.mem_of_getElem? (i := 430) (by decide +kernel)) rfl
theorem tw_431 : Cond.selects RX3 yX3_standing yX3_standing ∈ TB := tb (List.mem_of_getElem? (i := 431) (by decide +kernel)) rfl
theorem tw_432 : Cond.code yX3_standing cX3_standing 1 (some .long) ∈ TB := tb (List.mem_of_getElem? (i := 432) (by decide +kernel)) rfl
theorem tw_433 : Cond.methodLink RL 72 yX4_times ∈ TB := tb (List.mem_of_getElem? (i := 433) (by decide +kernel)) rfl
theorem tw_434 : Cond.instanceMethod yX4_times ∈ TB := tb (List.mem_of_getElem? (i := 434) (by decide +kernel)) rfl
theorem tw_435 : Cond.selects RX4 yX4_times yX4_times ∈ TB := tb (List.mem_of_getElem? (i := 435) (by decide +kernel)) rfl
theorem tw_436 : Cond.code yX4_times cX4_times 2 (some .int) ∈ TB := tb (List.mem_of_getElem? (i := 436) (by decide +kernel)) rfl
theorem tw_437 : Cond.methodLink RL 76 yX4_likeliest ∈ TB := tb (List.mem_of_getElem? (i := 437) (by decide +kernel)) rfl
theorem tw_438 : Cond.instanceMethod yX4_likeliest ∈ TB := tb (List.mem_of_getElem? (i := 438) (by decide +kernel)) rfl
theorem tw_439 : Cond.selects RX4 yX4_likeliest yX4_likeliest ∈ TB := tb (List.mem_of_getElem? (i := 439) (by decide +kernel)) rfl
theorem tw_440 : Cond.code yX4_likeliest cX4_likeliest 4 (some .int) ∈ TB := tb (List.mem_of_getElem? (i := 440) (by decide +kernel)) rfl
theorem tw_441 : Cond.methodLink RL 80 yX4_level ∈ TB := tb (List.mem_of_getElem? (i := 441) (by decide +kernel)) rfl
theorem tw_442 : Cond.instanceMethod yX4_level ∈ TB := tb (List.mem_of_getElem? (i := 442) (by decide +kernel)) rfl
theorem tw_443 : Cond.selects RX4 yX4_level yX4_level ∈ TB := tb (List.mem_of_getElem? (i := 443) (by decide +kernel)) rfl
theorem tw_444 : Cond.code yX4_level cX4_level 2 (some .int) ∈ TB := tb (List.mem_of_getElem? (i := 444) (by decide +kernel)) rfl
theorem tw_445 : Cond.methodLink RX4 175 yX3_chanceOfLevel ∈ TB := tb (List.mem_of_getElem? (i := 445) (by decide +kernel)) rfl
theorem tw_446 : Cond.instanceMethod yX3_chanceOfLevel ∈ TB := tb (List.mem_of_getElem? (i := 446) (by decide +kernel)) rfl
theorem tw_447 : Cond.selects RX3 yX3_chanceOfLevel yX3_chanceOfLevel ∈ TB := tb (List.mem_of_getElem? (i := 447) (by decide +kernel)) rfl
theorem tw_448 : Cond.code yX3_chanceOfLevel cX3_chanceOfLevel 5 (some .long) ∈ TB := tb (List.mem_of_getElem? (i := 448) (by decide +kernel)) rfl
theorem tw_449 : Cond.methodLink RL 84 yX4_worth ∈ TB := tb (List.mem_of_getElem? (i := 449) (by decide +kernel)) rfl
theorem tw_450 : Cond.instanceMethod yX4_worth ∈ TB := tb (List.mem_of_getElem? (i := 450) (by decide +kernel)) rfl
theorem tw_451 : Cond.selects RX4 yX4_worth yX4_worth ∈ TB := tb (List.mem_of_getElem? (i := 451) (by decide +kernel)) rfl
theorem tw_452 : Cond.code yX4_worth cX4_worth 6 (some .int) ∈ TB := tb (List.mem_of_getElem? (i := 452) (by decide +kernel)) rfl
theorem tw_453 : Cond.methodLink RX4 178 yX4_reachesWith ∈ TB := tb (List.mem_of_getElem? (i := 453) (by decide +kernel)) rfl
theorem tw_455 : Cond.instanceMethod yX4_reachesWith ∈ TB := tb (List.mem_of_getElem? (i := 455) (by decide +kernel)) rfl
theorem tw_456 : Cond.code yX4_reachesWith cX4_reachesWith 3 (some .long) ∈ TB := tb (List.mem_of_getElem? (i := 456) (by decide +kernel)) rfl
theorem tw_457 : Cond.constantLong RX4 185 (-1) ∈ TB := tb (List.mem_of_getElem? (i := 457) (by decide +kernel)) rfl
theorem tw_458 : Cond.methodLink RL 88 yX4_begin ∈ TB := tb (List.mem_of_getElem? (i := 458) (by decide +kernel)) rfl
theorem tw_459 : Cond.instanceMethod yX4_begin ∈ TB := tb (List.mem_of_getElem? (i := 459) (by decide +kernel)) rfl
theorem tw_460 : Cond.selects RX4 yX4_begin yX4_begin ∈ TB := tb (List.mem_of_getElem? (i := 460) (by decide +kernel)) rfl
theorem tw_461 : Cond.code yX4_begin cX4_begin 8 (some .int) ∈ TB := tb (List.mem_of_getElem? (i := 461) (by decide +kernel)) rfl
theorem tw_462 : Cond.methodLink RX4 182 yX4_isPart ∈ TB := tb (List.mem_of_getElem? (i := 462) (by decide +kernel)) rfl
theorem tw_463 : Cond.static yX4_isPart ∈ TB := tb (List.mem_of_getElem? (i := 463) (by decide +kernel)) rfl
theorem tw_464 : Cond.code yX4_isPart cX4_isPart 1 (some .boolean) ∈ TB := tb (List.mem_of_getElem? (i := 464) (by decide +kernel)) rfl
theorem tw_465 : Cond.methodLink RL 93 yX4_over ∈ TB := tb (List.mem_of_getElem? (i := 465) (by decide +kernel)) rfl
theorem tw_466 : Cond.instanceMethod yX4_over ∈ TB := tb (List.mem_of_getElem? (i := 466) (by decide +kernel)) rfl
theorem tw_467 : Cond.selects RX4 yX4_over yX4_over ∈ TB := tb (List.mem_of_getElem? (i := 467) (by decide +kernel)) rfl
theorem tw_468 : Cond.code yX4_over cX4_over 10 (some .int) ∈ TB := tb (List.mem_of_getElem? (i := 468) (by decide +kernel)) rfl
theorem tw_469 : Cond.methodLink RL 97 yX4_seen ∈ TB := tb (List.mem_of_getElem? (i := 469) (by decide +kernel)) rfl
theorem tw_470 : Cond.instanceMethod yX4_seen ∈ TB := tb (List.mem_of_getElem? (i := 470) (by decide +kernel)) rfl
theorem tw_471 : Cond.selects RX4 yX4_seen yX4_seen ∈ TB := tb (List.mem_of_getElem? (i := 471) (by decide +kernel)) rfl
theorem tw_472 : Cond.code yX4_seen cX4_seen 3 (some .int) ∈ TB := tb (List.mem_of_getElem? (i := 472) (by decide +kernel)) rfl
theorem tw_473 : Cond.methodLink RL 101 yX4_forget ∈ TB := tb (List.mem_of_getElem? (i := 473) (by decide +kernel)) rfl
theorem tw_474 : Cond.instanceMethod yX4_forget ∈ TB := tb (List.mem_of_getElem? (i := 474) (by decide +kernel)) rfl
theorem tw_475 : Cond.selects RX4 yX4_forget yX4_forget ∈ TB := tb (List.mem_of_getElem? (i := 475) (by decide +kernel)) rfl
theorem tw_476 : Cond.code yX4_forget cX4_forget 2 (some .int) ∈ TB := tb (List.mem_of_getElem? (i := 476) (by decide +kernel)) rfl
theorem tw_477 : Cond.methodLink RL 105 yX4_fits ∈ TB := tb (List.mem_of_getElem? (i := 477) (by decide +kernel)) rfl
theorem tw_478 : Cond.instanceMethod yX4_fits ∈ TB := tb (List.mem_of_getElem? (i := 478) (by decide +kernel)) rfl
theorem tw_479 : Cond.selects RX4 yX4_fits yX4_fits ∈ TB := tb (List.mem_of_getElem? (i := 479) (by decide +kernel)) rfl
theorem tw_480 : Cond.code yX4_fits cX4_fits 3 (some .int) ∈ TB := tb (List.mem_of_getElem? (i := 480) (by decide +kernel)) rfl
theorem tw_481 : Cond.methodLink RX4 187 yX4_likeliestQuarters ∈ TB := tb (List.mem_of_getElem? (i := 481) (by decide +kernel)) rfl
theorem tw_483 : Cond.instanceMethod yX4_likeliestQuarters ∈ TB := tb (List.mem_of_getElem? (i := 483) (by decide +kernel)) rfl
theorem tw_484 : Cond.code yX4_likeliestQuarters cX4_likeliestQuarters 8 (some .int) ∈ TB := tb (List.mem_of_getElem? (i := 484) (by decide +kernel)) rfl
theorem tw_485 : Cond.methodLink RX4 193 yX4_chanceOfSeen ∈ TB := tb (List.mem_of_getElem? (i := 485) (by decide +kernel)) rfl
theorem tw_487 : Cond.instanceMethod yX4_chanceOfSeen ∈ TB := tb (List.mem_of_getElem? (i := 487) (by decide +kernel)) rfl
theorem tw_488 : Cond.code yX4_chanceOfSeen cX4_chanceOfSeen 4 (some .long) ∈ TB := tb (List.mem_of_getElem? (i := 488) (by decide +kernel)) rfl
theorem tw_489 : Cond.methodLink RX4 219 yX4_startByHand ∈ TB := tb (List.mem_of_getElem? (i := 489) (by decide +kernel)) rfl
theorem tw_491 : Cond.instanceMethod yX4_startByHand ∈ TB := tb (List.mem_of_getElem? (i := 491) (by decide +kernel)) rfl
theorem tw_492 : Cond.code yX4_startByHand cX4_startByHand 3 none ∈ TB := tb (List.mem_of_getElem? (i := 492) (by decide +kernel)) rfl
theorem tw_493 : Cond.methodLink RX4 222 yX3_keepOnly ∈ TB := tb (List.mem_of_getElem? (i := 493) (by decide +kernel)) rfl
theorem tw_494 : Cond.instanceMethod yX3_keepOnly ∈ TB := tb (List.mem_of_getElem? (i := 494) (by decide +kernel)) rfl
theorem tw_495 : Cond.selects RX3 yX3_keepOnly yX3_keepOnly ∈ TB := tb (List.mem_of_getElem? (i := 495) (by decide +kernel)) rfl
theorem tw_496 : Cond.code yX3_keepOnly cX3_keepOnly 7 none ∈ TB := tb (List.mem_of_getElem? (i := 496) (by decide +kernel)) rfl
theorem tw_497 : Cond.methodLink RL 109 yX4_asLikely ∈ TB := tb (List.mem_of_getElem? (i := 497) (by decide +kernel)) rfl
theorem tw_498 : Cond.instanceMethod yX4_asLikely ∈ TB := tb (List.mem_of_getElem? (i := 498) (by decide +kernel)) rfl
theorem tw_499 : Cond.selects RX4 yX4_asLikely yX4_asLikely ∈ TB := tb (List.mem_of_getElem? (i := 499) (by decide +kernel)) rfl
theorem tw_500 : Cond.code yX4_asLikely cX4_asLikely 4 (some .int) ∈ TB := tb (List.mem_of_getElem? (i := 500) (by decide +kernel)) rfl
theorem tw_501 : Cond.methodLink RL 113 yX4_evenings ∈ TB := tb (List.mem_of_getElem? (i := 501) (by decide +kernel)) rfl
theorem tw_502 : Cond.instanceMethod yX4_evenings ∈ TB := tb (List.mem_of_getElem? (i := 502) (by decide +kernel)) rfl
theorem tw_503 : Cond.selects RX4 yX4_evenings yX4_evenings ∈ TB := tb (List.mem_of_getElem? (i := 503) (by decide +kernel)) rfl
theorem tw_504 : Cond.code yX4_evenings cX4_evenings 4 (some .int) ∈ TB := tb (List.mem_of_getElem? (i := 504) (by decide +kernel)) rfl
theorem tw_505 : Cond.methodLink RL 117 yX4_which ∈ TB := tb (List.mem_of_getElem? (i := 505) (by decide +kernel)) rfl
theorem tw_506 : Cond.instanceMethod yX4_which ∈ TB := tb (List.mem_of_getElem? (i := 506) (by decide +kernel)) rfl
theorem tw_507 : Cond.selects RX4 yX4_which yX4_which ∈ TB := tb (List.mem_of_getElem? (i := 507) (by decide +kernel)) rfl
theorem tw_508 : Cond.code yX4_which cX4_which 1 (some .int) ∈ TB := tb (List.mem_of_getElem? (i := 508) (by decide +kernel)) rfl
theorem tw_509 : Cond.methodLink RX4 198 yX3_chanceOfLeftFirst ∈ TB := tb (List.mem_of_getElem? (i := 509) (by decide +kernel)) rfl
theorem tw_510 : Cond.instanceMethod yX3_chanceOfLeftFirst ∈ TB := tb (List.mem_of_getElem? (i := 510) (by decide +kernel)) rfl
theorem tw_511 : Cond.selects RX3 yX3_chanceOfLeftFirst yX3_chanceOfLeftFirst ∈ TB := tb (List.mem_of_getElem? (i := 511) (by decide +kernel)) rfl
theorem tw_512 : Cond.code yX3_chanceOfLeftFirst cX3_chanceOfLeftFirst 1 (some .long) ∈ TB := tb (List.mem_of_getElem? (i := 512) (by decide +kernel)) rfl
theorem tw_513 : Cond.methodLink RL 121 yX4_better ∈ TB := tb (List.mem_of_getElem? (i := 513) (by decide +kernel)) rfl
theorem tw_514 : Cond.instanceMethod yX4_better ∈ TB := tb (List.mem_of_getElem? (i := 514) (by decide +kernel)) rfl
theorem tw_515 : Cond.selects RX4 yX4_better yX4_better ∈ TB := tb (List.mem_of_getElem? (i := 515) (by decide +kernel)) rfl
theorem tw_516 : Cond.code yX4_better cX4_better 9 (some .int) ∈ TB := tb (List.mem_of_getElem? (i := 516) (by decide +kernel)) rfl
theorem tw_517 : Cond.methodLink RX4 201 yX4_reachesByHand ∈ TB := tb (List.mem_of_getElem? (i := 517) (by decide +kernel)) rfl
theorem tw_519 : Cond.instanceMethod yX4_reachesByHand ∈ TB := tb (List.mem_of_getElem? (i := 519) (by decide +kernel)) rfl
theorem tw_520 : Cond.code yX4_reachesByHand cX4_reachesByHand 3 (some .long) ∈ TB := tb (List.mem_of_getElem? (i := 520) (by decide +kernel)) rfl
theorem tw_521 : Cond.methodLink RL 126 yX4_coat ∈ TB := tb (List.mem_of_getElem? (i := 521) (by decide +kernel)) rfl
theorem tw_522 : Cond.instanceMethod yX4_coat ∈ TB := tb (List.mem_of_getElem? (i := 522) (by decide +kernel)) rfl
theorem tw_523 : Cond.selects RX4 yX4_coat yX4_coat ∈ TB := tb (List.mem_of_getElem? (i := 523) (by decide +kernel)) rfl
theorem tw_524 : Cond.code yX4_coat cX4_coat 7 (some .int) ∈ TB := tb (List.mem_of_getElem? (i := 524) (by decide +kernel)) rfl
theorem tw_525 : Cond.methodLink RX4 204 yX4_drawOf ∈ TB := tb (List.mem_of_getElem? (i := 525) (by decide +kernel)) rfl
theorem tw_526 : Cond.static yX4_drawOf ∈ TB := tb (List.mem_of_getElem? (i := 526) (by decide +kernel)) rfl
theorem tw_527 : Cond.code yX4_drawOf cX4_drawOf 4 (some .int) ∈ TB := tb (List.mem_of_getElem? (i := 527) (by decide +kernel)) rfl
theorem tw_528 : Cond.constantLong RX4 225 (7919) ∈ TB := tb (List.mem_of_getElem? (i := 528) (by decide +kernel)) rfl
theorem tw_529 : Cond.constantLong RX4 227 (6151) ∈ TB := tb (List.mem_of_getElem? (i := 529) (by decide +kernel)) rfl
theorem tw_530 : Cond.constantLong RX4 229 (65521) ∈ TB := tb (List.mem_of_getElem? (i := 530) (by decide +kernel)) rfl
theorem tw_531 : Cond.constantLong RX4 231 (8) ∈ TB := tb (List.mem_of_getElem? (i := 531) (by decide +kernel)) rfl
theorem tw_532 : Cond.methodLink RL 130 yX4_keep ∈ TB := tb (List.mem_of_getElem? (i := 532) (by decide +kernel)) rfl
theorem tw_533 : Cond.instanceMethod yX4_keep ∈ TB := tb (List.mem_of_getElem? (i := 533) (by decide +kernel)) rfl
theorem tw_534 : Cond.selects RX4 yX4_keep yX4_keep ∈ TB := tb (List.mem_of_getElem? (i := 534) (by decide +kernel)) rfl
theorem tw_535 : Cond.code yX4_keep cX4_keep 1 (some .int) ∈ TB := tb (List.mem_of_getElem? (i := 535) (by decide +kernel)) rfl
theorem tw_536 : Cond.methodLink RX4 208 yX1_isFull ∈ TB := tb (List.mem_of_getElem? (i := 536) (by decide +kernel)) rfl
theorem tw_537 : Cond.methodLink RL 134 yX4_back ∈ TB := tb (List.mem_of_getElem? (i := 537) (by decide +kernel)) rfl
theorem tw_538 : Cond.instanceMethod yX4_back ∈ TB := tb (List.mem_of_getElem? (i := 538) (by decide +kernel)) rfl
theorem tw_539 : Cond.selects RX4 yX4_back yX4_back ∈ TB := tb (List.mem_of_getElem? (i := 539) (by decide +kernel)) rfl
theorem tw_540 : Cond.code yX4_back cX4_back 1 (some .int) ∈ TB := tb (List.mem_of_getElem? (i := 540) (by decide +kernel)) rfl
theorem tw_541 : Cond.methodLink RL 138 yX4_count ∈ TB := tb (List.mem_of_getElem? (i := 541) (by decide +kernel)) rfl
theorem tw_542 : Cond.instanceMethod yX4_count ∈ TB := tb (List.mem_of_getElem? (i := 542) (by decide +kernel)) rfl
theorem tw_543 : Cond.selects RX4 yX4_count yX4_count ∈ TB := tb (List.mem_of_getElem? (i := 543) (by decide +kernel)) rfl
theorem tw_544 : Cond.code yX4_count cX4_count 2 (some .int) ∈ TB := tb (List.mem_of_getElem? (i := 544) (by decide +kernel)) rfl
theorem tw_545 : Cond.classLink RL 10 RX5 ∈ TB := tb (List.mem_of_getElem? (i := 545) (by decide +kernel)) rfl
theorem tw_546 : Cond.instantiable RX5 17 ∈ TB := tb (List.mem_of_getElem? (i := 546) (by decide +kernel)) rfl
theorem tw_547 : Cond.methodLink RL 12 yX5_init ∈ TB := tb (List.mem_of_getElem? (i := 547) (by decide +kernel)) rfl
theorem tw_548 : Cond.instanceMethod yX5_init ∈ TB := tb (List.mem_of_getElem? (i := 548) (by decide +kernel)) rfl
theorem tw_549 : Cond.code yX5_init cX5_init 1 none ∈ TB := tb (List.mem_of_getElem? (i := 549) (by decide +kernel)) rfl
theorem tw_550 : Cond.methodLink RX5 1 Lib.objectInit ∈ TB := tb (List.mem_of_getElem? (i := 550) (by decide +kernel)) rfl
theorem tw_551 : Cond.methodLink RX5 41 yX5_begins ∈ TB := tb (List.mem_of_getElem? (i := 551) (by decide +kernel)) rfl
theorem tw_553 : Cond.instanceMethod yX5_begins ∈ TB := tb (List.mem_of_getElem? (i := 553) (by decide +kernel)) rfl
theorem tw_554 : Cond.code yX5_begins cX5_begins 1 none ∈ TB := tb (List.mem_of_getElem? (i := 554) (by decide +kernel)) rfl
theorem tw_555 : Cond.methodLink RX5 44 yX5_lays ∈ TB := tb (List.mem_of_getElem? (i := 555) (by decide +kernel)) rfl
theorem tw_557 : Cond.instanceMethod yX5_lays ∈ TB := tb (List.mem_of_getElem? (i := 557) (by decide +kernel)) rfl
theorem tw_558 : Cond.code yX5_lays cX5_lays 2 none ∈ TB := tb (List.mem_of_getElem? (i := 558) (by decide +kernel)) rfl
theorem tw_559 : Cond.fieldLink RX5 7 "EitherPocketModel" "text" "[I" ∈ TB := tb (List.mem_of_getElem? (i := 559) (by decide +kernel)) rfl
theorem tw_560 : Cond.fieldLink RX5 51 "EitherPocketModel" "typed" "I" ∈ TB := tb (List.mem_of_getElem? (i := 560) (by decide +kernel)) rfl
theorem tw_561 : Cond.fieldLink RX5 13 "EitherPocketModel" "draft" "[I" ∈ TB := tb (List.mem_of_getElem? (i := 561) (by decide +kernel)) rfl
theorem tw_562 : Cond.fieldLink RX5 16 "EitherPocketModel" "s" "[I" ∈ TB := tb (List.mem_of_getElem? (i := 562) (by decide +kernel)) rfl
theorem tw_563 : Cond.fieldLink RX5 80 "EitherPocketModel" "evening" "I" ∈ TB := tb (List.mem_of_getElem? (i := 563) (by decide +kernel)) rfl
theorem tw_564 : Cond.fieldLink RX5 19 "EitherPocketModel" "past" "[I" ∈ TB := tb (List.mem_of_getElem? (i := 564) (by decide +kernel)) rfl
theorem tw_565 : Cond.fieldLink RX5 83 "EitherPocketModel" "known" "I" ∈ TB := tb (List.mem_of_getElem? (i := 565) (by decide +kernel)) rfl
theorem tw_566 : Cond.fieldLink RX5 22 "EitherPocketModel" "images" "[I" ∈ TB := tb (List.mem_of_getElem? (i := 566) (by decide +kernel)) rfl
theorem tw_567 : Cond.fieldLink RX5 86 "EitherPocketModel" "kept" "I" ∈ TB := tb (List.mem_of_getElem? (i := 567) (by decide +kernel)) rfl
theorem tw_568 : Cond.fieldLink RX5 25 "EitherPocketModel" "seen" "[I" ∈ TB := tb (List.mem_of_getElem? (i := 568) (by decide +kernel)) rfl
theorem tw_569 : Cond.fieldLink RX5 89 "EitherPocketModel" "sights" "I" ∈ TB := tb (List.mem_of_getElem? (i := 569) (by decide +kernel)) rfl
theorem tw_570 : Cond.fieldLink RX5 55 "EitherPocketModel" "at" "I" ∈ TB := tb (List.mem_of_getElem? (i := 570) (by decide +kernel)) rfl
theorem tw_571 : Cond.fieldLink RX5 28 "EitherPocketModel" "here" "[J" ∈ TB := tb (List.mem_of_getElem? (i := 571) (by decide +kernel)) rfl
theorem tw_572 : Cond.fieldLink RX5 32 "EitherPocketModel" "next" "[J" ∈ TB := tb (List.mem_of_getElem? (i := 572) (by decide +kernel)) rfl
theorem tw_573 : Cond.fieldLink RX5 35 "EitherPocketModel" "rest" "[J" ∈ TB := tb (List.mem_of_getElem? (i := 573) (by decide +kernel)) rfl
theorem tw_574 : Cond.fieldLink RX5 38 "EitherPocketModel" "soon" "[J" ∈ TB := tb (List.mem_of_getElem? (i := 574) (by decide +kernel)) rfl
theorem tw_575 : Cond.fieldLink RX5 102 "EitherPocketModel" "first" "J" ∈ TB := tb (List.mem_of_getElem? (i := 575) (by decide +kernel)) rfl
theorem tw_611 : Cond.methodLink RL 17 yX5_write ∈ TB := tb (List.mem_of_getElem? (i := 611) (by decide +kernel)) rfl
theorem tw_612 : Cond.instanceMethod yX5_write ∈ TB := tb (List.mem_of_getElem? (i := 612) (by decide +kernel)) rfl
theorem tw_613 : Cond.selects RX5 yX5_write yX5_write ∈ TB := tb (List.mem_of_getElem? (i := 613) (by decide +kernel)) rfl
theorem tw_614 : Cond.code yX5_write cX5_write 2 (some .int) ∈ TB := tb (List.mem_of_getElem? (i := 614) (by decide +kernel)) rfl
theorem tw_615 : Cond.methodLink RX5 47 yX5_in ∈ TB := tb (List.mem_of_getElem? (i := 615) (by decide +kernel)) rfl
theorem tw_616 : Cond.static yX5_in ∈ TB := tb (List.mem_of_getElem? (i := 616) (by decide +kernel)) rfl
theorem tw_617 : Cond.code yX5_in cX5_in 3 (some .boolean) ∈ TB := tb (List.mem_of_getElem? (i := 617) (by decide +kernel)) rfl
theorem tw_618 : Cond.methodLink RL 22 yX5_wipe ∈ TB := tb (List.mem_of_getElem? (i := 618) (by decide +kernel)) rfl
theorem tw_619 : Cond.instanceMethod yX5_wipe ∈ TB := tb (List.mem_of_getElem? (i := 619) (by decide +kernel)) rfl
theorem tw_620 : Cond.selects RX5 yX5_wipe yX5_wipe ∈ TB := tb (List.mem_of_getElem? (i := 620) (by decide +kernel)) rfl
theorem tw_621 : Cond.code yX5_wipe cX5_wipe 2 (some .int) ∈ TB := tb (List.mem_of_getElem? (i := 621) (by decide +kernel)) rfl
theorem tw_622 : Cond.methodLink RL 26 yX5_fault ∈ TB := tb (List.mem_of_getElem? (i := 622) (by decide +kernel)) rfl
theorem tw_623 : Cond.instanceMethod yX5_fault ∈ TB := tb (List.mem_of_getElem? (i := 623) (by decide +kernel)) rfl
theorem tw_624 : Cond.selects RX5 yX5_fault yX5_fault ∈ TB := tb (List.mem_of_getElem? (i := 624) (by decide +kernel)) rfl
theorem tw_625 : Cond.code yX5_fault cX5_fault 1 (some .int) ∈ TB := tb (List.mem_of_getElem? (i := 625) (by decide +kernel)) rfl
theorem tw_626 : Cond.methodLink RX5 76 yX5_readsAll ∈ TB := tb (List.mem_of_getElem? (i := 626) (by decide +kernel)) rfl
theorem tw_628 : Cond.instanceMethod yX5_readsAll ∈ TB := tb (List.mem_of_getElem? (i := 628) (by decide +kernel)) rfl
theorem tw_629 : Cond.code yX5_readsAll cX5_readsAll 2 (some .int) ∈ TB := tb (List.mem_of_getElem? (i := 629) (by decide +kernel)) rfl
theorem tw_630 : Cond.methodLink RX5 73 yX5_readsItem ∈ TB := tb (List.mem_of_getElem? (i := 630) (by decide +kernel)) rfl
theorem tw_632 : Cond.instanceMethod yX5_readsItem ∈ TB := tb (List.mem_of_getElem? (i := 632) (by decide +kernel)) rfl
theorem tw_633 : Cond.code yX5_readsItem cX5_readsItem 2 (some .boolean) ∈ TB := tb (List.mem_of_getElem? (i := 633) (by decide +kernel)) rfl
theorem tw_634 : Cond.methodLink RX5 70 yX5_readsTwo ∈ TB := tb (List.mem_of_getElem? (i := 634) (by decide +kernel)) rfl
theorem tw_636 : Cond.instanceMethod yX5_readsTwo ∈ TB := tb (List.mem_of_getElem? (i := 636) (by decide +kernel)) rfl
theorem tw_637 : Cond.code yX5_readsTwo cX5_readsTwo 4 (some .boolean) ∈ TB := tb (List.mem_of_getElem? (i := 637) (by decide +kernel)) rfl
theorem tw_638 : Cond.methodLink RX5 66 yX5_number ∈ TB := tb (List.mem_of_getElem? (i := 638) (by decide +kernel)) rfl
theorem tw_640 : Cond.instanceMethod yX5_number ∈ TB := tb (List.mem_of_getElem? (i := 640) (by decide +kernel)) rfl
theorem tw_641 : Cond.code yX5_number cX5_number 6 (some .int) ∈ TB := tb (List.mem_of_getElem? (i := 641) (by decide +kernel)) rfl
theorem tw_642 : Cond.methodLink RX5 58 yX5_letterAt ∈ TB := tb (List.mem_of_getElem? (i := 642) (by decide +kernel)) rfl
theorem tw_644 : Cond.instanceMethod yX5_letterAt ∈ TB := tb (List.mem_of_getElem? (i := 644) (by decide +kernel)) rfl
theorem tw_645 : Cond.code yX5_letterAt cX5_letterAt 2 (some .int) ∈ TB := tb (List.mem_of_getElem? (i := 645) (by decide +kernel)) rfl
theorem tw_646 : Cond.methodLink RX5 62 yX5_isFigure ∈ TB := tb (List.mem_of_getElem? (i := 646) (by decide +kernel)) rfl
theorem tw_647 : Cond.static yX5_isFigure ∈ TB := tb (List.mem_of_getElem? (i := 647) (by decide +kernel)) rfl
theorem tw_648 : Cond.code yX5_isFigure cX5_isFigure 1 (some .boolean) ∈ TB := tb (List.mem_of_getElem? (i := 648) (by decide +kernel)) rfl
theorem tw_649 : Cond.methodLink RL 30 yX5_lay ∈ TB := tb (List.mem_of_getElem? (i := 649) (by decide +kernel)) rfl
theorem tw_650 : Cond.instanceMethod yX5_lay ∈ TB := tb (List.mem_of_getElem? (i := 650) (by decide +kernel)) rfl
theorem tw_651 : Cond.selects RX5 yX5_lay yX5_lay ∈ TB := tb (List.mem_of_getElem? (i := 651) (by decide +kernel)) rfl
theorem tw_652 : Cond.code yX5_lay cX5_lay 1 (some .int) ∈ TB := tb (List.mem_of_getElem? (i := 652) (by decide +kernel)) rfl
theorem tw_653 : Cond.methodLink RL 34 yX5_box ∈ TB := tb (List.mem_of_getElem? (i := 653) (by decide +kernel)) rfl
theorem tw_654 : Cond.instanceMethod yX5_box ∈ TB := tb (List.mem_of_getElem? (i := 654) (by decide +kernel)) rfl
theorem tw_655 : Cond.selects RX5 yX5_box yX5_box ∈ TB := tb (List.mem_of_getElem? (i := 655) (by decide +kernel)) rfl
theorem tw_656 : Cond.code yX5_box cX5_box 2 (some .int) ∈ TB := tb (List.mem_of_getElem? (i := 656) (by decide +kernel)) rfl
theorem tw_657 : Cond.methodLink RL 38 yX5_quarters ∈ TB := tb (List.mem_of_getElem? (i := 657) (by decide +kernel)) rfl
theorem tw_658 : Cond.instanceMethod yX5_quarters ∈ TB := tb (List.mem_of_getElem? (i := 658) (by decide +kernel)) rfl
theorem tw_659 : Cond.selects RX5 yX5_quarters yX5_quarters ∈ TB := tb (List.mem_of_getElem? (i := 659) (by decide +kernel)) rfl
theorem tw_660 : Cond.code yX5_quarters cX5_quarters 3 (some .int) ∈ TB := tb (List.mem_of_getElem? (i := 660) (by decide +kernel)) rfl
theorem tw_661 : Cond.methodLink RX5 92 yX5_toLeft ∈ TB := tb (List.mem_of_getElem? (i := 661) (by decide +kernel)) rfl
theorem tw_662 : Cond.static yX5_toLeft ∈ TB := tb (List.mem_of_getElem? (i := 662) (by decide +kernel)) rfl
theorem tw_663 : Cond.code yX5_toLeft cX5_toLeft 6 (some .int) ∈ TB := tb (List.mem_of_getElem? (i := 663) (by decide +kernel)) rfl
theorem tw_664 : Cond.methodLink RL 42 yX5_reach ∈ TB := tb (List.mem_of_getElem? (i := 664) (by decide +kernel)) rfl
theorem tw_665 : Cond.instanceMethod yX5_reach ∈ TB := tb (List.mem_of_getElem? (i := 665) (by decide +kernel)) rfl
theorem tw_666 : Cond.selects RX5 yX5_reach yX5_reach ∈ TB := tb (List.mem_of_getElem? (i := 666) (by decide +kernel)) rfl
theorem tw_667 : Cond.code yX5_reach cX5_reach 2 (some .int) ∈ TB := tb (List.mem_of_getElem? (i := 667) (by decide +kernel)) rfl
theorem tw_668 : Cond.methodLink RX5 96 yX5_keeps ∈ TB := tb (List.mem_of_getElem? (i := 668) (by decide +kernel)) rfl
theorem tw_670 : Cond.instanceMethod yX5_keeps ∈ TB := tb (List.mem_of_getElem? (i := 670) (by decide +kernel)) rfl
theorem tw_671 : Cond.code yX5_keeps cX5_keeps 2 none ∈ TB := tb (List.mem_of_getElem? (i := 671) (by decide +kernel)) rfl
theorem tw_672 : Cond.methodLink RL 47 yX5_putOver ∈ TB := tb (List.mem_of_getElem? (i := 672) (by decide +kernel)) rfl
theorem tw_673 : Cond.instanceMethod yX5_putOver ∈ TB := tb (List.mem_of_getElem? (i := 673) (by decide +kernel)) rfl
theorem tw_674 : Cond.selects RX5 yX5_putOver yX5_putOver ∈ TB := tb (List.mem_of_getElem? (i := 674) (by decide +kernel)) rfl
theorem tw_675 : Cond.code yX5_putOver cX5_putOver 3 (some .int) ∈ TB := tb (List.mem_of_getElem? (i := 675) (by decide +kernel)) rfl
theorem tw_676 : Cond.methodLink RL 51 yX5_buy ∈ TB := tb (List.mem_of_getElem? (i := 676) (by decide +kernel)) rfl
theorem tw_677 : Cond.instanceMethod yX5_buy ∈ TB := tb (List.mem_of_getElem? (i := 677) (by decide +kernel)) rfl
theorem tw_678 : Cond.selects RX5 yX5_buy yX5_buy ∈ TB := tb (List.mem_of_getElem? (i := 678) (by decide +kernel)) rfl
theorem tw_679 : Cond.code yX5_buy cX5_buy 3 (some .int) ∈ TB := tb (List.mem_of_getElem? (i := 679) (by decide +kernel)) rfl
theorem tw_680 : Cond.methodLink RL 55 yX5_hand ∈ TB := tb (List.mem_of_getElem? (i := 680) (by decide +kernel)) rfl
theorem tw_681 : Cond.instanceMethod yX5_hand ∈ TB := tb (List.mem_of_getElem? (i := 681) (by decide +kernel)) rfl
theorem tw_682 : Cond.selects RX5 yX5_hand yX5_hand ∈ TB := tb (List.mem_of_getElem? (i := 682) (by decide +kernel)) rfl
theorem tw_683 : Cond.code yX5_hand cX5_hand 4 (some .int) ∈ TB := tb (List.mem_of_getElem? (i := 683) (by decide +kernel)) rfl
theorem tw_684 : Cond.methodLink RL 59 yX5_undo ∈ TB := tb (List.mem_of_getElem? (i := 684) (by decide +kernel)) rfl
theorem tw_685 : Cond.instanceMethod yX5_undo ∈ TB := tb (List.mem_of_getElem? (i := 685) (by decide +kernel)) rfl
theorem tw_686 : Cond.selects RX5 yX5_undo yX5_undo ∈ TB := tb (List.mem_of_getElem? (i := 686) (by decide +kernel)) rfl
theorem tw_687 : Cond.code yX5_undo cX5_undo 2 (some .int) ∈ TB := tb (List.mem_of_getElem? (i := 687) (by decide +kernel)) rfl
theorem tw_688 : Cond.methodLink RL 63 yX5_left ∈ TB := tb (List.mem_of_getElem? (i := 688) (by decide +kernel)) rfl
theorem tw_689 : Cond.instanceMethod yX5_left ∈ TB := tb (List.mem_of_getElem? (i := 689) (by decide +kernel)) rfl
theorem tw_690 : Cond.selects RX5 yX5_left yX5_left ∈ TB := tb (List.mem_of_getElem? (i := 690) (by decide +kernel)) rfl
theorem tw_691 : Cond.code yX5_left cX5_left 3 (some .int) ∈ TB := tb (List.mem_of_getElem? (i := 691) (by decide +kernel)) rfl
theorem tw_692 : Cond.methodLink RX5 127 yX5_isEnd ∈ TB := tb (List.mem_of_getElem? (i := 692) (by decide +kernel)) rfl
theorem tw_693 : Cond.static yX5_isEnd ∈ TB := tb (List.mem_of_getElem? (i := 693) (by decide +kernel)) rfl
theorem tw_694 : Cond.code yX5_isEnd cX5_isEnd 1 (some .boolean) ∈ TB := tb (List.mem_of_getElem? (i := 694) (by decide +kernel)) rfl
theorem tw_695 : Cond.methodLink RX5 130 yX5_weighsNow ∈ TB := tb (List.mem_of_getElem? (i := 695) (by decide +kernel)) rfl
theorem tw_697 : Cond.instanceMethod yX5_weighsNow ∈ TB := tb (List.mem_of_getElem? (i := 697) (by decide +kernel)) rfl
theorem tw_698 : Cond.code yX5_weighsNow cX5_weighsNow 2 none ∈ TB := tb (List.mem_of_getElem? (i := 698) (by decide +kernel)) rfl
theorem tw_699 : Cond.methodLink RX5 121 yX5_weighs ∈ TB := tb (List.mem_of_getElem? (i := 699) (by decide +kernel)) rfl
theorem tw_701 : Cond.instanceMethod yX5_weighs ∈ TB := tb (List.mem_of_getElem? (i := 701) (by decide +kernel)) rfl
theorem tw_702 : Cond.code yX5_weighs cX5_weighs 9 none ∈ TB := tb (List.mem_of_getElem? (i := 702) (by decide +kernel)) rfl
theorem tw_703 : Cond.methodLink RX5 106 yX5_clears ∈ TB := tb (List.mem_of_getElem? (i := 703) (by decide +kernel)) rfl
theorem tw_705 : Cond.instanceMethod yX5_clears ∈ TB := tb (List.mem_of_getElem? (i := 705) (by decide +kernel)) rfl
theorem tw_706 : Cond.code yX5_clears cX5_clears 2 none ∈ TB := tb (List.mem_of_getElem? (i := 706) (by decide +kernel)) rfl
theorem tw_707 : Cond.constantLong RX5 109 (4398046511104) ∈ TB := tb (List.mem_of_getElem? (i := 707) (by decide +kernel)) rfl
theorem tw_708 : Cond.methodLink RX5 111 yX5_begin0 ∈ TB := tb (List.mem_of_getElem? (i := 708) (by decide +kernel)) rfl
theorem tw_710 : Cond.instanceMethod yX5_begin0 ∈ TB := tb (List.mem_of_getElem? (i := 710) (by decide +kernel)) rfl
theorem tw_711 : Cond.code yX5_begin0 cX5_begin0 5 none ∈ TB := tb (List.mem_of_getElem? (i := 711) (by decide +kernel)) rfl
theorem tw_712 : Cond.methodLink RX5 99 yX5_spot ∈ TB := tb (List.mem_of_getElem? (i := 712) (by decide +kernel)) rfl
theorem tw_713 : Cond.static yX5_spot ∈ TB := tb (List.mem_of_getElem? (i := 713) (by decide +kernel)) rfl
theorem tw_714 : Cond.code yX5_spot cX5_spot 3 (some .int) ∈ TB := tb (List.mem_of_getElem? (i := 714) (by decide +kernel)) rfl
theorem tw_715 : Cond.constantLong RX5 115 (4) ∈ TB := tb (List.mem_of_getElem? (i := 715) (by decide +kernel)) rfl
theorem tw_716 : Cond.methodLink RX5 117 yX5_goes ∈ TB := tb (List.mem_of_getElem? (i := 716) (by decide +kernel)) rfl
theorem tw_718 : Cond.instanceMethod yX5_goes ∈ TB := tb (List.mem_of_getElem? (i := 718) (by decide +kernel)) rfl
theorem tw_719 : Cond.code yX5_goes cX5_goes 18 none ∈ TB := tb (List.mem_of_getElem? (i := 719) (by decide +kernel)) rfl
theorem tw_720 : Cond.methodLink RX5 134 yX5_cut ∈ TB := tb (List.mem_of_getElem? (i := 720) (by decide +kernel)) rfl
theorem tw_721 : Cond.static yX5_cut ∈ TB := tb (List.mem_of_getElem? (i := 721) (by decide +kernel)) rfl
theorem tw_722 : Cond.code yX5_cut cX5_cut 4 (some .int) ∈ TB := tb (List.mem_of_getElem? (i := 722) (by decide +kernel)) rfl
theorem tw_723 : Cond.constantLong RX5 125 (10000) ∈ TB := tb (List.mem_of_getElem? (i := 723) (by decide +kernel)) rfl
theorem tw_724 : Cond.methodLink RL 67 yX5_mean ∈ TB := tb (List.mem_of_getElem? (i := 724) (by decide +kernel)) rfl
theorem tw_725 : Cond.instanceMethod yX5_mean ∈ TB := tb (List.mem_of_getElem? (i := 725) (by decide +kernel)) rfl
theorem tw_726 : Cond.selects RX5 yX5_mean yX5_mean ∈ TB := tb (List.mem_of_getElem? (i := 726) (by decide +kernel)) rfl
theorem tw_727 : Cond.code yX5_mean cX5_mean 5 (some .int) ∈ TB := tb (List.mem_of_getElem? (i := 727) (by decide +kernel)) rfl
theorem tw_728 : Cond.constantLong RX5 138 (100) ∈ TB := tb (List.mem_of_getElem? (i := 728) (by decide +kernel)) rfl
theorem tw_729 : Cond.methodLink RL 71 yX5_soon ∈ TB := tb (List.mem_of_getElem? (i := 729) (by decide +kernel)) rfl
theorem tw_730 : Cond.instanceMethod yX5_soon ∈ TB := tb (List.mem_of_getElem? (i := 730) (by decide +kernel)) rfl
theorem tw_731 : Cond.selects RX5 yX5_soon yX5_soon ∈ TB := tb (List.mem_of_getElem? (i := 731) (by decide +kernel)) rfl
theorem tw_732 : Cond.code yX5_soon cX5_soon 3 (some .int) ∈ TB := tb (List.mem_of_getElem? (i := 732) (by decide +kernel)) rfl
theorem tw_733 : Cond.methodLink RX5 140 yX5_within ∈ TB := tb (List.mem_of_getElem? (i := 733) (by decide +kernel)) rfl
theorem tw_735 : Cond.instanceMethod yX5_within ∈ TB := tb (List.mem_of_getElem? (i := 735) (by decide +kernel)) rfl
theorem tw_736 : Cond.code yX5_within cX5_within 5 (some .long) ∈ TB := tb (List.mem_of_getElem? (i := 736) (by decide +kernel)) rfl
theorem tw_737 : Cond.methodLink RL 75 yX5_times ∈ TB := tb (List.mem_of_getElem? (i := 737) (by decide +kernel)) rfl
theorem tw_738 : Cond.instanceMethod yX5_times ∈ TB := tb (List.mem_of_getElem? (i := 738) (by decide +kernel)) rfl
theorem tw_739 : Cond.selects RX5 yX5_times yX5_times ∈ TB := tb (List.mem_of_getElem? (i := 739) (by decide +kernel)) rfl
theorem tw_740 : Cond.code yX5_times cX5_times 2 (some .int) ∈ TB := tb (List.mem_of_getElem? (i := 740) (by decide +kernel)) rfl
theorem tw_741 : Cond.methodLink RX5 144 yX5_reaches ∈ TB := tb (List.mem_of_getElem? (i := 741) (by decide +kernel)) rfl
theorem tw_743 : Cond.instanceMethod yX5_reaches ∈ TB := tb (List.mem_of_getElem? (i := 743) (by decide +kernel)) rfl
theorem tw_744 : Cond.code yX5_reaches cX5_reaches 4 (some .long) ∈ TB := tb (List.mem_of_getElem? (i := 744) (by decide +kernel)) rfl
theorem tw_745 : Cond.methodLink RL 79 yX5_likeliest ∈ TB := tb (List.mem_of_getElem? (i := 745) (by decide +kernel)) rfl
theorem tw_746 : Cond.instanceMethod yX5_likeliest ∈ TB := tb (List.mem_of_getElem? (i := 746) (by decide +kernel)) rfl
theorem tw_747 : Cond.selects RX5 yX5_likeliest yX5_likeliest ∈ TB := tb (List.mem_of_getElem? (i := 747) (by decide +kernel)) rfl
theorem tw_748 : Cond.code yX5_likeliest cX5_likeliest 4 (some .int) ∈ TB := tb (List.mem_of_getElem? (i := 748) (by decide +kernel)) rfl
theorem tw_749 : Cond.methodLink RL 83 yX5_level ∈ TB := tb (List.mem_of_getElem? (i := 749) (by decide +kernel)) rfl
theorem tw_750 : Cond.instanceMethod yX5_level ∈ TB := tb (List.mem_of_getElem? (i := 750) (by decide +kernel)) rfl
theorem tw_751 : Cond.selects RX5 yX5_level yX5_level ∈ TB := tb (List.mem_of_getElem? (i := 751) (by decide +kernel)) rfl
theorem tw_752 : Cond.code yX5_level cX5_level 8 (some .int) ∈ TB := tb (List.mem_of_getElem? (i := 752) (by decide +kernel)) rfl
theorem tw_753 : Cond.methodLink RL 87 yX5_worth ∈ TB := tb (List.mem_of_getElem? (i := 753) (by decide +kernel)) rfl
theorem tw_754 : Cond.instanceMethod yX5_worth ∈ TB := tb (List.mem_of_getElem? (i := 754) (by decide +kernel)) rfl
theorem tw_755 : Cond.selects RX5 yX5_worth yX5_worth ∈ TB := tb (List.mem_of_getElem? (i := 755) (by decide +kernel)) rfl
theorem tw_756 : Cond.code yX5_worth cX5_worth 4 (some .int) ∈ TB := tb (List.mem_of_getElem? (i := 756) (by decide +kernel)) rfl
theorem tw_757 : Cond.methodLink RX5 148 yX5_reachesFrom ∈ TB := tb (List.mem_of_getElem? (i := 757) (by decide +kernel)) rfl
theorem tw_759 : Cond.instanceMethod yX5_reachesFrom ∈ TB := tb (List.mem_of_getElem? (i := 759) (by decide +kernel)) rfl
theorem tw_760 : Cond.code yX5_reachesFrom cX5_reachesFrom 3 (some .long) ∈ TB := tb (List.mem_of_getElem? (i := 760) (by decide +kernel)) rfl
theorem tw_761 : Cond.methodLink RL 92 yX5_begin ∈ TB := tb (List.mem_of_getElem? (i := 761) (by decide +kernel)) rfl
theorem tw_762 : Cond.instanceMethod yX5_begin ∈ TB := tb (List.mem_of_getElem? (i := 762) (by decide +kernel)) rfl
theorem tw_763 : Cond.selects RX5 yX5_begin yX5_begin ∈ TB := tb (List.mem_of_getElem? (i := 763) (by decide +kernel)) rfl
theorem tw_764 : Cond.code yX5_begin cX5_begin 9 (some .int) ∈ TB := tb (List.mem_of_getElem? (i := 764) (by decide +kernel)) rfl
theorem tw_765 : Cond.methodLink RL 96 yX5_over ∈ TB := tb (List.mem_of_getElem? (i := 765) (by decide +kernel)) rfl
theorem tw_766 : Cond.instanceMethod yX5_over ∈ TB := tb (List.mem_of_getElem? (i := 766) (by decide +kernel)) rfl
theorem tw_767 : Cond.selects RX5 yX5_over yX5_over ∈ TB := tb (List.mem_of_getElem? (i := 767) (by decide +kernel)) rfl
theorem tw_768 : Cond.code yX5_over cX5_over 10 (some .int) ∈ TB := tb (List.mem_of_getElem? (i := 768) (by decide +kernel)) rfl
theorem tw_769 : Cond.methodLink RL 100 yX5_seen ∈ TB := tb (List.mem_of_getElem? (i := 769) (by decide +kernel)) rfl
theorem tw_770 : Cond.instanceMethod yX5_seen ∈ TB := tb (List.mem_of_getElem? (i := 770) (by decide +kernel)) rfl
theorem tw_771 : Cond.selects RX5 yX5_seen yX5_seen ∈ TB := tb (List.mem_of_getElem? (i := 771) (by decide +kernel)) rfl
theorem tw_772 : Cond.code yX5_seen cX5_seen 3 (some .int) ∈ TB := tb (List.mem_of_getElem? (i := 772) (by decide +kernel)) rfl
theorem tw_773 : Cond.methodLink RL 104 yX5_forget ∈ TB := tb (List.mem_of_getElem? (i := 773) (by decide +kernel)) rfl
theorem tw_774 : Cond.instanceMethod yX5_forget ∈ TB := tb (List.mem_of_getElem? (i := 774) (by decide +kernel)) rfl
theorem tw_775 : Cond.selects RX5 yX5_forget yX5_forget ∈ TB := tb (List.mem_of_getElem? (i := 775) (by decide +kernel)) rfl
theorem tw_776 : Cond.code yX5_forget cX5_forget 2 (some .int) ∈ TB := tb (List.mem_of_getElem? (i := 776) (by decide +kernel)) rfl
theorem tw_777 : Cond.methodLink RL 108 yX5_fits ∈ TB := tb (List.mem_of_getElem? (i := 777) (by decide +kernel)) rfl
theorem tw_778 : Cond.instanceMethod yX5_fits ∈ TB := tb (List.mem_of_getElem? (i := 778) (by decide +kernel)) rfl
theorem tw_779 : Cond.selects RX5 yX5_fits yX5_fits ∈ TB := tb (List.mem_of_getElem? (i := 779) (by decide +kernel)) rfl
theorem tw_780 : Cond.code yX5_fits cX5_fits 4 (some .int) ∈ TB := tb (List.mem_of_getElem? (i := 780) (by decide +kernel)) rfl
theorem tw_781 : Cond.methodLink RX5 152 yX5_sightsBy ∈ TB := tb (List.mem_of_getElem? (i := 781) (by decide +kernel)) rfl
theorem tw_783 : Cond.instanceMethod yX5_sightsBy ∈ TB := tb (List.mem_of_getElem? (i := 783) (by decide +kernel)) rfl
theorem tw_784 : Cond.code yX5_sightsBy cX5_sightsBy 8 (some .long) ∈ TB := tb (List.mem_of_getElem? (i := 784) (by decide +kernel)) rfl
theorem tw_785 : Cond.methodLink RL 112 yX5_asLikely ∈ TB := tb (List.mem_of_getElem? (i := 785) (by decide +kernel)) rfl
theorem tw_786 : Cond.instanceMethod yX5_asLikely ∈ TB := tb (List.mem_of_getElem? (i := 786) (by decide +kernel)) rfl
theorem tw_787 : Cond.selects RX5 yX5_asLikely yX5_asLikely ∈ TB := tb (List.mem_of_getElem? (i := 787) (by decide +kernel)) rfl
theorem tw_788 : Cond.code yX5_asLikely cX5_asLikely 9 (some .int) ∈ TB := tb (List.mem_of_getElem? (i := 788) (by decide +kernel)) rfl
theorem tw_789 : Cond.methodLink RL 116 yX5_evenings ∈ TB := tb (List.mem_of_getElem? (i := 789) (by decide +kernel)) rfl
theorem tw_790 : Cond.instanceMethod yX5_evenings ∈ TB := tb (List.mem_of_getElem? (i := 790) (by decide +kernel)) rfl
theorem tw_791 : Cond.selects RX5 yX5_evenings yX5_evenings ∈ TB := tb (List.mem_of_getElem? (i := 791) (by decide +kernel)) rfl
theorem tw_792 : Cond.code yX5_evenings cX5_evenings 6 (some .int) ∈ TB := tb (List.mem_of_getElem? (i := 792) (by decide +kernel)) rfl
theorem tw_793 : Cond.methodLink RL 120 yX5_which ∈ TB := tb (List.mem_of_getElem? (i := 793) (by decide +kernel)) rfl
theorem tw_794 : Cond.instanceMethod yX5_which ∈ TB := tb (List.mem_of_getElem? (i := 794) (by decide +kernel)) rfl
theorem tw_795 : Cond.selects RX5 yX5_which yX5_which ∈ TB := tb (List.mem_of_getElem? (i := 795) (by decide +kernel)) rfl
theorem tw_796 : Cond.code yX5_which cX5_which 1 (some .int) ∈ TB := tb (List.mem_of_getElem? (i := 796) (by decide +kernel)) rfl
theorem tw_797 : Cond.methodLink RL 125 yX5_better ∈ TB := tb (List.mem_of_getElem? (i := 797) (by decide +kernel)) rfl
theorem tw_798 : Cond.instanceMethod yX5_better ∈ TB := tb (List.mem_of_getElem? (i := 798) (by decide +kernel)) rfl
theorem tw_799 : Cond.selects RX5 yX5_better yX5_better ∈ TB := tb (List.mem_of_getElem? (i := 799) (by decide +kernel)) rfl
theorem tw_800 : Cond.code yX5_better cX5_better 9 (some .int) ∈ TB := tb (List.mem_of_getElem? (i := 800) (by decide +kernel)) rfl
theorem tw_801 : Cond.methodLink RL 129 yX5_coat ∈ TB := tb (List.mem_of_getElem? (i := 801) (by decide +kernel)) rfl
theorem tw_802 : Cond.instanceMethod yX5_coat ∈ TB := tb (List.mem_of_getElem? (i := 802) (by decide +kernel)) rfl
theorem tw_803 : Cond.selects RX5 yX5_coat yX5_coat ∈ TB := tb (List.mem_of_getElem? (i := 803) (by decide +kernel)) rfl
theorem tw_804 : Cond.code yX5_coat cX5_coat 13 (some .int) ∈ TB := tb (List.mem_of_getElem? (i := 804) (by decide +kernel)) rfl
theorem tw_805 : Cond.constantLong RX5 155 (7919) ∈ TB := tb (List.mem_of_getElem? (i := 805) (by decide +kernel)) rfl
theorem tw_806 : Cond.constantLong RX5 157 (6151) ∈ TB := tb (List.mem_of_getElem? (i := 806) (by decide +kernel)) rfl
theorem tw_807 : Cond.constantLong RX5 159 (65521) ∈ TB := tb (List.mem_of_getElem? (i := 807) (by decide +kernel)) rfl
theorem tw_808 : Cond.methodLink RL 133 yX5_keep ∈ TB := tb (List.mem_of_getElem? (i := 808) (by decide +kernel)) rfl
theorem tw_809 : Cond.instanceMethod yX5_keep ∈ TB := tb (List.mem_of_getElem? (i := 809) (by decide +kernel)) rfl
theorem tw_810 : Cond.selects RX5 yX5_keep yX5_keep ∈ TB := tb (List.mem_of_getElem? (i := 810) (by decide +kernel)) rfl
theorem tw_811 : Cond.code yX5_keep cX5_keep 2 (some .int) ∈ TB := tb (List.mem_of_getElem? (i := 811) (by decide +kernel)) rfl
theorem tw_812 : Cond.methodLink RL 137 yX5_back ∈ TB := tb (List.mem_of_getElem? (i := 812) (by decide +kernel)) rfl
theorem tw_813 : Cond.instanceMethod yX5_back ∈ TB := tb (List.mem_of_getElem? (i := 813) (by decide +kernel)) rfl
theorem tw_814 : Cond.selects RX5 yX5_back yX5_back ∈ TB := tb (List.mem_of_getElem? (i := 814) (by decide +kernel)) rfl
theorem tw_815 : Cond.code yX5_back cX5_back 2 (some .int) ∈ TB := tb (List.mem_of_getElem? (i := 815) (by decide +kernel)) rfl
theorem tw_816 : Cond.methodLink RL 141 yX5_count ∈ TB := tb (List.mem_of_getElem? (i := 816) (by decide +kernel)) rfl
theorem tw_817 : Cond.instanceMethod yX5_count ∈ TB := tb (List.mem_of_getElem? (i := 817) (by decide +kernel)) rfl
theorem tw_818 : Cond.selects RX5 yX5_count yX5_count ∈ TB := tb (List.mem_of_getElem? (i := 818) (by decide +kernel)) rfl
theorem tw_819 : Cond.code yX5_count cX5_count 2 (some .int) ∈ TB := tb (List.mem_of_getElem? (i := 819) (by decide +kernel)) rfl
theorem tw_1000 : Cond.selects RX2 yX2_readItem yX2_readItem ∈ TB := tbs (List.mem_of_getElem? (i := 0) (by decide +kernel)) rfl
theorem tw_1001 : Cond.selects RX2 yX2_letterHere yX2_letterHere ∈ TB := tbs (List.mem_of_getElem? (i := 1) (by decide +kernel)) rfl
theorem tw_1002 : Cond.selects RX2 yX2_readTwo yX2_readTwo ∈ TB := tbs (List.mem_of_getElem? (i := 2) (by decide +kernel)) rfl
theorem tw_1003 : Cond.selects RX2 yX2_readNumber yX2_readNumber ∈ TB := tbs (List.mem_of_getElem? (i := 3) (by decide +kernel)) rfl
theorem tw_1004 : Cond.selects RX2 yX2_readFigure yX2_readFigure ∈ TB := tbs (List.mem_of_getElem? (i := 4) (by decide +kernel)) rfl
theorem tw_1005 : Cond.selects RX2 yX2_readSign yX2_readSign ∈ TB := tbs (List.mem_of_getElem? (i := 5) (by decide +kernel)) rfl
theorem tw_1006 : Cond.selects RX2 yX2_tellBoxes yX2_tellBoxes ∈ TB := tbs (List.mem_of_getElem? (i := 6) (by decide +kernel)) rfl
theorem tw_1007 : Cond.selects RX2 yX2_tellHand yX2_tellHand ∈ TB := tbs (List.mem_of_getElem? (i := 7) (by decide +kernel)) rfl
theorem tw_1008 : Cond.selects RX2 yX2_readOne yX2_readOne ∈ TB := tbs (List.mem_of_getElem? (i := 8) (by decide +kernel)) rfl
theorem tw_1009 : Cond.selects RX2 yX2_tellLast yX2_tellLast ∈ TB := tbs (List.mem_of_getElem? (i := 9) (by decide +kernel)) rfl
theorem tw_1010 : Cond.selects RX2 yX2_tellEvening yX2_tellEvening ∈ TB := tbs (List.mem_of_getElem? (i := 10) (by decide +kernel)) rfl
theorem tw_1011 : Cond.selects RX1 yX1_dropOldest yX1_dropOldest ∈ TB := tbs (List.mem_of_getElem? (i := 11) (by decide +kernel)) rfl
theorem tw_1012 : Cond.selects RX4 yX4_walkToEnd yX4_walkToEnd ∈ TB := tbs (List.mem_of_getElem? (i := 12) (by decide +kernel)) rfl
theorem tw_1013 : Cond.selects RX4 yX4_startFrom yX4_startFrom ∈ TB := tbs (List.mem_of_getElem? (i := 13) (by decide +kernel)) rfl
theorem tw_1014 : Cond.selects RX3 yX3_endBy yX3_endBy ∈ TB := tbs (List.mem_of_getElem? (i := 14) (by decide +kernel)) rfl
theorem tw_1015 : Cond.selects RX3 yX3_advanceOnce yX3_advanceOnce ∈ TB := tbs (List.mem_of_getElem? (i := 15) (by decide +kernel)) rfl
theorem tw_1016 : Cond.selects RX3 yX3_follow yX3_follow ∈ TB := tbs (List.mem_of_getElem? (i := 16) (by decide +kernel)) rfl
theorem tw_1017 : Cond.selects RX4 yX4_reachesWith yX4_reachesWith ∈ TB := tbs (List.mem_of_getElem? (i := 17) (by decide +kernel)) rfl
theorem tw_1018 : Cond.selects RX4 yX4_likeliestQuarters yX4_likeliestQuarters ∈ TB := tbs (List.mem_of_getElem? (i := 18) (by decide +kernel)) rfl
theorem tw_1019 : Cond.selects RX4 yX4_chanceOfSeen yX4_chanceOfSeen ∈ TB := tbs (List.mem_of_getElem? (i := 19) (by decide +kernel)) rfl
theorem tw_1020 : Cond.selects RX4 yX4_startByHand yX4_startByHand ∈ TB := tbs (List.mem_of_getElem? (i := 20) (by decide +kernel)) rfl
theorem tw_1021 : Cond.selects RX4 yX4_reachesByHand yX4_reachesByHand ∈ TB := tbs (List.mem_of_getElem? (i := 21) (by decide +kernel)) rfl
theorem tw_1022 : Cond.selects RX5 yX5_begins yX5_begins ∈ TB := tbs (List.mem_of_getElem? (i := 22) (by decide +kernel)) rfl
theorem tw_1023 : Cond.selects RX5 yX5_lays yX5_lays ∈ TB := tbs (List.mem_of_getElem? (i := 23) (by decide +kernel)) rfl
theorem tw_1024 : Cond.selects RX5 yX5_readsAll yX5_readsAll ∈ TB := tbs (List.mem_of_getElem? (i := 24) (by decide +kernel)) rfl
theorem tw_1025 : Cond.selects RX5 yX5_readsItem yX5_readsItem ∈ TB := tbs (List.mem_of_getElem? (i := 25) (by decide +kernel)) rfl
theorem tw_1026 : Cond.selects RX5 yX5_readsTwo yX5_readsTwo ∈ TB := tbs (List.mem_of_getElem? (i := 26) (by decide +kernel)) rfl
theorem tw_1027 : Cond.selects RX5 yX5_number yX5_number ∈ TB := tbs (List.mem_of_getElem? (i := 27) (by decide +kernel)) rfl
theorem tw_1028 : Cond.selects RX5 yX5_letterAt yX5_letterAt ∈ TB := tbs (List.mem_of_getElem? (i := 28) (by decide +kernel)) rfl
theorem tw_1029 : Cond.selects RX5 yX5_keeps yX5_keeps ∈ TB := tbs (List.mem_of_getElem? (i := 29) (by decide +kernel)) rfl
theorem tw_1030 : Cond.selects RX5 yX5_weighsNow yX5_weighsNow ∈ TB := tbs (List.mem_of_getElem? (i := 30) (by decide +kernel)) rfl
theorem tw_1031 : Cond.selects RX5 yX5_weighs yX5_weighs ∈ TB := tbs (List.mem_of_getElem? (i := 31) (by decide +kernel)) rfl
theorem tw_1032 : Cond.selects RX5 yX5_clears yX5_clears ∈ TB := tbs (List.mem_of_getElem? (i := 32) (by decide +kernel)) rfl
theorem tw_1033 : Cond.selects RX5 yX5_begin0 yX5_begin0 ∈ TB := tbs (List.mem_of_getElem? (i := 33) (by decide +kernel)) rfl
theorem tw_1034 : Cond.selects RX5 yX5_goes yX5_goes ∈ TB := tbs (List.mem_of_getElem? (i := 34) (by decide +kernel)) rfl
theorem tw_1035 : Cond.selects RX5 yX5_within yX5_within ∈ TB := tbs (List.mem_of_getElem? (i := 35) (by decide +kernel)) rfl
theorem tw_1036 : Cond.selects RX5 yX5_reaches yX5_reaches ∈ TB := tbs (List.mem_of_getElem? (i := 36) (by decide +kernel)) rfl
theorem tw_1037 : Cond.selects RX5 yX5_reachesFrom yX5_reachesFrom ∈ TB := tbs (List.mem_of_getElem? (i := 37) (by decide +kernel)) rfl
theorem tw_1038 : Cond.selects RX5 yX5_sightsBy yX5_sightsBy ∈ TB := tbs (List.mem_of_getElem? (i := 38) (by decide +kernel)) rfl
theorem tu_0 : ∀ w ∈ u_ws RX0 TX0 5, w ∈ TB := fun w h => tb (mem_places (big := tables_1) [44, 46, 48, 50, 52] (by decide +kernel) w h) (List.all_eq_true.mp (show (u_ws RX0 TX0 5).all goodWord = true by decide +kernel) w h)
theorem tu_1 : ∀ w ∈ u_ws RX1 TX1 2, w ∈ TB := fun w h => tb (mem_places (big := tables_1) [96, 98] (by decide +kernel) w h) (List.all_eq_true.mp (show (u_ws RX1 TX1 2).all goodWord = true by decide +kernel) w h)
theorem tu_2 : ∀ w ∈ u_ws RX2 TX2 7, w ∈ TB := fun w h => tb (mem_places (big := tables_1) [65, 67, 69, 71, 73, 75, 77] (by decide +kernel) w h) (List.all_eq_true.mp (show (u_ws RX2 TX2 7).all goodWord = true by decide +kernel) w h)
theorem tu_3 : ∀ w ∈ u_ws RX3 TX3 9, w ∈ TB := fun w h => tb (mem_places (big := tables_1) [116, 118, 120, 122, 124, 126, 128, 130, 132] (by decide +kernel) w h) (List.all_eq_true.mp (show (u_ws RX3 TX3 9).all goodWord = true by decide +kernel) w h)
theorem tu_4 : ∀ w ∈ u_ws RX4 TX4 10, w ∈ TB := fun w h => tb (mem_places (big := tables_1) [154, 156, 158, 160, 162, 164, 166, 168, 170, 172] (by decide +kernel) w h) (List.all_eq_true.mp (show (u_ws RX4 TX4 10).all goodWord = true by decide +kernel) w h)
theorem tu_5 : ∀ w ∈ u_ws RX5 TX5 17, w ∈ TB := fun w h => tb (mem_places (big := tables_1) [576, 578, 580, 582, 584, 586, 588, 590, 592, 594, 596, 598, 600, 602, 604, 606, 608] (by decide +kernel) w h) (List.all_eq_true.mp (show (u_ws RX5 TX5 17).all goodWord = true by decide +kernel) w h)
