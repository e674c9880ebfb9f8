section
-- ===== PART A: goes FIRST, ahead of the names: the tables' words, and 'selects' of the private methods out of them =====
/-- a private method of a class that the tables say can be made, by its rows of tables_1 -/
def lw_okq (q : MethodName × Nat) : Prop := (q.1.cls ≠ "java/lang/invoke/MethodHandle" ∧ q.1.cls ≠ "java/lang/invoke/VarHandle") ∧ Cond.instantiable q.1.cls q.2 ∈ tables_1 ∧ Cond.privateMethod q.1 ∈ tables_1 ∧ Cond.instanceMethod q.1 ∈ tables_1
theorem lw_p0 : lw_okq (⟨"KnotLetters$Alphabet", "meetsSameRow", "(II)Z"⟩, 7) := ⟨⟨by decide +kernel, by decide +kernel⟩, List.mem_of_getElem? (i := 25) (by decide +kernel), List.mem_of_getElem? (i := 230) (by decide +kernel), List.mem_of_getElem? (i := 231) (by decide +kernel)⟩
theorem lw_p1 : lw_okq (⟨"KnotLetters$Alphabet", "noteRest", "(I)V"⟩, 7) := ⟨⟨by decide +kernel, by decide +kernel⟩, List.mem_of_getElem? (i := 25) (by decide +kernel), List.mem_of_getElem? (i := 234) (by decide +kernel), List.mem_of_getElem? (i := 235) (by decide +kernel)⟩
theorem lw_p2 : lw_okq (⟨"KnotLetters", "letterDistance", "(II)I"⟩, 10) := ⟨⟨by decide +kernel, by decide +kernel⟩, List.mem_of_getElem? (i := 17) (by decide +kernel), List.mem_of_getElem? (i := 242) (by decide +kernel), List.mem_of_getElem? (i := 243) (by decide +kernel)⟩
theorem lw_p3 : lw_okq (⟨"KnotLetters$Costs", "ghostOf", "(I)I"⟩, 4) := ⟨⟨by decide +kernel, by decide +kernel⟩, List.mem_of_getElem? (i := 86) (by decide +kernel), List.mem_of_getElem? (i := 250) (by decide +kernel), List.mem_of_getElem? (i := 251) (by decide +kernel)⟩
theorem lw_p4 : lw_okq (⟨"KnotLetters$Costs", "missing", "(I)I"⟩, 4) := ⟨⟨by decide +kernel, by decide +kernel⟩, List.mem_of_getElem? (i := 86) (by decide +kernel), List.mem_of_getElem? (i := 254) (by decide +kernel), List.mem_of_getElem? (i := 255) (by decide +kernel)⟩
theorem lw_p5 : lw_okq (⟨"java/lang/Throwable", "fillInStackTrace", "(I)Ljava/lang/Throwable;"⟩, 6) := ⟨⟨by decide +kernel, by decide +kernel⟩, List.mem_of_getElem? (i := 326) (by decide +kernel), List.mem_of_getElem? (i := 324) (by decide +kernel), List.mem_of_getElem? (i := 325) (by decide +kernel)⟩
theorem lw_p6 : lw_okq (⟨"KnotLetters", "isNoCord", "(I)Z"⟩, 10) := ⟨⟨by decide +kernel, by decide +kernel⟩, List.mem_of_getElem? (i := 17) (by decide +kernel), List.mem_of_getElem? (i := 372) (by decide +kernel), List.mem_of_getElem? (i := 373) (by decide +kernel)⟩
theorem lw_p7 : lw_okq (⟨"KnotLetters$Reader", "weighWord", "(LKnotLetters$Cord;II)V"⟩, 8) := ⟨⟨by decide +kernel, by decide +kernel⟩, List.mem_of_getElem? (i := 112) (by decide +kernel), List.mem_of_getElem? (i := 385) (by decide +kernel), List.mem_of_getElem? (i := 386) (by decide +kernel)⟩
theorem lw_p8 : lw_okq (⟨"KnotLetters$Reader", "weighLetterEnd", "(II)V"⟩, 8) := ⟨⟨by decide +kernel, by decide +kernel⟩, List.mem_of_getElem? (i := 112) (by decide +kernel), List.mem_of_getElem? (i := 389) (by decide +kernel), List.mem_of_getElem? (i := 390) (by decide +kernel)⟩
theorem lw_p9 : lw_okq (⟨"KnotLetters$Reader", "weighPlace", "(II)V"⟩, 8) := ⟨⟨by decide +kernel, by decide +kernel⟩, List.mem_of_getElem? (i := 112) (by decide +kernel), List.mem_of_getElem? (i := 396) (by decide +kernel), List.mem_of_getElem? (i := 397) (by decide +kernel)⟩
theorem lw_p10 : lw_okq (⟨"KnotLetters$Reader", "offerLetter", "(IIII)V"⟩, 8) := ⟨⟨by decide +kernel, by decide +kernel⟩, List.mem_of_getElem? (i := 112) (by decide +kernel), List.mem_of_getElem? (i := 405) (by decide +kernel), List.mem_of_getElem? (i := 406) (by decide +kernel)⟩
theorem lw_p11 : lw_okq (⟨"KnotLetters$Reader", "comesFirst", "(II)Z"⟩, 8) := ⟨⟨by decide +kernel, by decide +kernel⟩, List.mem_of_getElem? (i := 112) (by decide +kernel), List.mem_of_getElem? (i := 409) (by decide +kernel), List.mem_of_getElem? (i := 410) (by decide +kernel)⟩
theorem lw_p12 : lw_okq (⟨"KnotLetters$Reader", "weighLetter", "(III)V"⟩, 8) := ⟨⟨by decide +kernel, by decide +kernel⟩, List.mem_of_getElem? (i := 112) (by decide +kernel), List.mem_of_getElem? (i := 413) (by decide +kernel), List.mem_of_getElem? (i := 414) (by decide +kernel)⟩
theorem lw_p13 : lw_okq (⟨"KnotLetters$Reader", "offerSlot", "(III)V"⟩, 8) := ⟨⟨by decide +kernel, by decide +kernel⟩, List.mem_of_getElem? (i := 112) (by decide +kernel), List.mem_of_getElem? (i := 417) (by decide +kernel), List.mem_of_getElem? (i := 418) (by decide +kernel)⟩
theorem lw_p14 : lw_okq (⟨"KnotLetters$Reader", "exactRowsOfWord", "(LKnotLetters$Cord;II)I"⟩, 8) := ⟨⟨by decide +kernel, by decide +kernel⟩, List.mem_of_getElem? (i := 112) (by decide +kernel), List.mem_of_getElem? (i := 431) (by decide +kernel), List.mem_of_getElem? (i := 432) (by decide +kernel)⟩
theorem lw_p15 : lw_okq (⟨"KnotLetters$Reader", "stands", "(ILKnotLetters$Cord;II)Z"⟩, 8) := ⟨⟨by decide +kernel, by decide +kernel⟩, List.mem_of_getElem? (i := 112) (by decide +kernel), List.mem_of_getElem? (i := 435) (by decide +kernel), List.mem_of_getElem? (i := 436) (by decide +kernel)⟩
def lw_privs_1 : List (MethodName × Nat) := [(⟨"KnotLetters$Alphabet", "meetsSameRow", "(II)Z"⟩, 7), (⟨"KnotLetters$Alphabet", "noteRest", "(I)V"⟩, 7), (⟨"KnotLetters", "letterDistance", "(II)I"⟩, 10), (⟨"KnotLetters$Costs", "ghostOf", "(I)I"⟩, 4), (⟨"KnotLetters$Costs", "missing", "(I)I"⟩, 4), (⟨"java/lang/Throwable", "fillInStackTrace", "(I)Ljava/lang/Throwable;"⟩, 6), (⟨"KnotLetters", "isNoCord", "(I)Z"⟩, 10), (⟨"KnotLetters$Reader", "weighWord", "(LKnotLetters$Cord;II)V"⟩, 8), (⟨"KnotLetters$Reader", "weighLetterEnd", "(II)V"⟩, 8), (⟨"KnotLetters$Reader", "weighPlace", "(II)V"⟩, 8), (⟨"KnotLetters$Reader", "offerLetter", "(IIII)V"⟩, 8), (⟨"KnotLetters$Reader", "comesFirst", "(II)Z"⟩, 8), (⟨"KnotLetters$Reader", "weighLetter", "(III)V"⟩, 8), (⟨"KnotLetters$Reader", "offerSlot", "(III)V"⟩, 8), (⟨"KnotLetters$Reader", "exactRowsOfWord", "(LKnotLetters$Cord;II)I"⟩, 8), (⟨"KnotLetters$Reader", "stands", "(ILKnotLetters$Cord;II)Z"⟩, 8)]
theorem lw_r1 : ∀ q ∈ lw_privs_1, lw_okq q := List.forall_mem_cons.mpr ⟨lw_p0, List.forall_mem_cons.mpr ⟨lw_p1, List.forall_mem_cons.mpr ⟨lw_p2, List.forall_mem_cons.mpr ⟨lw_p3, List.forall_mem_cons.mpr ⟨lw_p4, List.forall_mem_cons.mpr ⟨lw_p5, List.forall_mem_cons.mpr ⟨lw_p6, List.forall_mem_cons.mpr ⟨lw_p7, List.forall_mem_cons.mpr ⟨lw_p8, List.forall_mem_cons.mpr ⟨lw_p9, List.forall_mem_cons.mpr ⟨lw_p10, List.forall_mem_cons.mpr ⟨lw_p11, List.forall_mem_cons.mpr ⟨lw_p12, List.forall_mem_cons.mpr ⟨lw_p13, List.forall_mem_cons.mpr ⟨lw_p14, List.forall_mem_cons.mpr ⟨lw_p15, fun _ h => absurd h List.not_mem_nil⟩⟩⟩⟩⟩⟩⟩⟩⟩⟩⟩⟩⟩⟩⟩⟩
theorem lw_p16 : lw_okq (⟨"KnotLetters", "appendNumber", "(I)V"⟩, 10) := ⟨⟨by decide +kernel, by decide +kernel⟩, List.mem_of_getElem? (i := 17) (by decide +kernel), List.mem_of_getElem? (i := 547) (by decide +kernel), List.mem_of_getElem? (i := 548) (by decide +kernel)⟩
theorem lw_p17 : lw_okq (⟨"KnotLetters", "placesOnTape", "()I"⟩, 10) := ⟨⟨by decide +kernel, by decide +kernel⟩, List.mem_of_getElem? (i := 17) (by decide +kernel), List.mem_of_getElem? (i := 566) (by decide +kernel), List.mem_of_getElem? (i := 567) (by decide +kernel)⟩
theorem lw_p18 : lw_okq (⟨"KnotLetters", "letterOfByte", "(I)I"⟩, 10) := ⟨⟨by decide +kernel, by decide +kernel⟩, List.mem_of_getElem? (i := 17) (by decide +kernel), List.mem_of_getElem? (i := 570) (by decide +kernel), List.mem_of_getElem? (i := 571) (by decide +kernel)⟩
theorem lw_p19 : lw_okq (⟨"KnotLetters", "isTapeText", "()Z"⟩, 10) := ⟨⟨by decide +kernel, by decide +kernel⟩, List.mem_of_getElem? (i := 17) (by decide +kernel), List.mem_of_getElem? (i := 575) (by decide +kernel), List.mem_of_getElem? (i := 576) (by decide +kernel)⟩
theorem lw_p20 : lw_okq (⟨"KnotLetters", "tieByte", "(LKnotLetters$Cord;I)V"⟩, 10) := ⟨⟨by decide +kernel, by decide +kernel⟩, List.mem_of_getElem? (i := 17) (by decide +kernel), List.mem_of_getElem? (i := 579) (by decide +kernel), List.mem_of_getElem? (i := 580) (by decide +kernel)⟩
theorem lw_p21 : lw_okq (⟨"KnotLetters", "isNoPlace", "(II)Z"⟩, 10) := ⟨⟨by decide +kernel, by decide +kernel⟩, List.mem_of_getElem? (i := 17) (by decide +kernel), List.mem_of_getElem? (i := 608) (by decide +kernel), List.mem_of_getElem? (i := 609) (by decide +kernel)⟩
theorem lw_p22 : lw_okq (⟨"KnotLetters", "cordDistance", "(II)I"⟩, 10) := ⟨⟨by decide +kernel, by decide +kernel⟩, List.mem_of_getElem? (i := 17) (by decide +kernel), List.mem_of_getElem? (i := 630) (by decide +kernel), List.mem_of_getElem? (i := 631) (by decide +kernel)⟩
theorem lw_p23 : lw_okq (⟨"KnotLetters$Reader", "writeWord", "(I[II)I"⟩, 8) := ⟨⟨by decide +kernel, by decide +kernel⟩, List.mem_of_getElem? (i := 112) (by decide +kernel), List.mem_of_getElem? (i := 652) (by decide +kernel), List.mem_of_getElem? (i := 653) (by decide +kernel)⟩
theorem lw_p24 : lw_okq (⟨"KnotLettersModel", "no", "(I)I"⟩, 23) := ⟨⟨by decide +kernel, by decide +kernel⟩, List.mem_of_getElem? (i := 669) (by decide +kernel), List.mem_of_getElem? (i := 756) (by decide +kernel), List.mem_of_getElem? (i := 757) (by decide +kernel)⟩
theorem lw_p25 : lw_okq (⟨"KnotLettersModel", "letterTold", "(II)I"⟩, 23) := ⟨⟨by decide +kernel, by decide +kernel⟩, List.mem_of_getElem? (i := 669) (by decide +kernel), List.mem_of_getElem? (i := 767) (by decide +kernel), List.mem_of_getElem? (i := 768) (by decide +kernel)⟩
theorem lw_p26 : lw_okq (⟨"KnotLettersModel", "over", "(III)I"⟩, 23) := ⟨⟨by decide +kernel, by decide +kernel⟩, List.mem_of_getElem? (i := 669) (by decide +kernel), List.mem_of_getElem? (i := 785) (by decide +kernel), List.mem_of_getElem? (i := 786) (by decide +kernel)⟩
theorem lw_p27 : lw_okq (⟨"KnotLettersModel", "apart", "(II)I"⟩, 23) := ⟨⟨by decide +kernel, by decide +kernel⟩, List.mem_of_getElem? (i := 669) (by decide +kernel), List.mem_of_getElem? (i := 798) (by decide +kernel), List.mem_of_getElem? (i := 799) (by decide +kernel)⟩
theorem lw_p28 : lw_okq (⟨"KnotLettersModel", "isLetter", "(I)Z"⟩, 23) := ⟨⟨by decide +kernel, by decide +kernel⟩, List.mem_of_getElem? (i := 669) (by decide +kernel), List.mem_of_getElem? (i := 835) (by decide +kernel), List.mem_of_getElem? (i := 836) (by decide +kernel)⟩
theorem lw_p29 : lw_okq (⟨"KnotLettersModel", "put", "(II)V"⟩, 23) := ⟨⟨by decide +kernel, by decide +kernel⟩, List.mem_of_getElem? (i := 669) (by decide +kernel), List.mem_of_getElem? (i := 839) (by decide +kernel), List.mem_of_getElem? (i := 840) (by decide +kernel)⟩
theorem lw_p30 : lw_okq (⟨"KnotLettersModel", "tie", "(II)V"⟩, 23) := ⟨⟨by decide +kernel, by decide +kernel⟩, List.mem_of_getElem? (i := 669) (by decide +kernel), List.mem_of_getElem? (i := 843) (by decide +kernel), List.mem_of_getElem? (i := 844) (by decide +kernel)⟩
theorem lw_p31 : lw_okq (⟨"KnotLettersModel", "isCord", "(I)Z"⟩, 23) := ⟨⟨by decide +kernel, by decide +kernel⟩, List.mem_of_getElem? (i := 669) (by decide +kernel), List.mem_of_getElem? (i := 851) (by decide +kernel), List.mem_of_getElem? (i := 852) (by decide +kernel)⟩
def lw_privs_2 : List (MethodName × Nat) := [(⟨"KnotLetters", "appendNumber", "(I)V"⟩, 10), (⟨"KnotLetters", "placesOnTape", "()I"⟩, 10), (⟨"KnotLetters", "letterOfByte", "(I)I"⟩, 10), (⟨"KnotLetters", "isTapeText", "()Z"⟩, 10), (⟨"KnotLetters", "tieByte", "(LKnotLetters$Cord;I)V"⟩, 10), (⟨"KnotLetters", "isNoPlace", "(II)Z"⟩, 10), (⟨"KnotLetters", "cordDistance", "(II)I"⟩, 10), (⟨"KnotLetters$Reader", "writeWord", "(I[II)I"⟩, 8), (⟨"KnotLettersModel", "no", "(I)I"⟩, 23), (⟨"KnotLettersModel", "letterTold", "(II)I"⟩, 23), (⟨"KnotLettersModel", "over", "(III)I"⟩, 23), (⟨"KnotLettersModel", "apart", "(II)I"⟩, 23), (⟨"KnotLettersModel", "isLetter", "(I)Z"⟩, 23), (⟨"KnotLettersModel", "put", "(II)V"⟩, 23), (⟨"KnotLettersModel", "tie", "(II)V"⟩, 23), (⟨"KnotLettersModel", "isCord", "(I)Z"⟩, 23)]
theorem lw_r2 : ∀ q ∈ lw_privs_2, lw_okq q := List.forall_mem_cons.mpr ⟨lw_p16, List.forall_mem_cons.mpr ⟨lw_p17, List.forall_mem_cons.mpr ⟨lw_p18, List.forall_mem_cons.mpr ⟨lw_p19, List.forall_mem_cons.mpr ⟨lw_p20, List.forall_mem_cons.mpr ⟨lw_p21, List.forall_mem_cons.mpr ⟨lw_p22, List.forall_mem_cons.mpr ⟨lw_p23, List.forall_mem_cons.mpr ⟨lw_p24, List.forall_mem_cons.mpr ⟨lw_p25, List.forall_mem_cons.mpr ⟨lw_p26, List.forall_mem_cons.mpr ⟨lw_p27, List.forall_mem_cons.mpr ⟨lw_p28, List.forall_mem_cons.mpr ⟨lw_p29, List.forall_mem_cons.mpr ⟨lw_p30, List.forall_mem_cons.mpr ⟨lw_p31, fun _ h => absurd h List.not_mem_nil⟩⟩⟩⟩⟩⟩⟩⟩⟩⟩⟩⟩⟩⟩⟩⟩
theorem lw_p32 : lw_okq (⟨"KnotLettersModel", "cordTold", "(II)I"⟩, 23) := ⟨⟨by decide +kernel, by decide +kernel⟩, List.mem_of_getElem? (i := 669) (by decide +kernel), List.mem_of_getElem? (i := 855) (by decide +kernel), List.mem_of_getElem? (i := 856) (by decide +kernel)⟩
theorem lw_p33 : lw_okq (⟨"KnotLettersModel", "over", "(IIZ)I"⟩, 23) := ⟨⟨by decide +kernel, by decide +kernel⟩, List.mem_of_getElem? (i := 669) (by decide +kernel), List.mem_of_getElem? (i := 859) (by decide +kernel), List.mem_of_getElem? (i := 860) (by decide +kernel)⟩
theorem lw_p34 : lw_okq (⟨"KnotLettersModel", "ways", "(II)I"⟩, 23) := ⟨⟨by decide +kernel, by decide +kernel⟩, List.mem_of_getElem? (i := 669) (by decide +kernel), List.mem_of_getElem? (i := 864) (by decide +kernel), List.mem_of_getElem? (i := 865) (by decide +kernel)⟩
theorem lw_p35 : lw_okq (⟨"KnotLettersModel", "find", "(II)V"⟩, 23) := ⟨⟨by decide +kernel, by decide +kernel⟩, List.mem_of_getElem? (i := 669) (by decide +kernel), List.mem_of_getElem? (i := 870) (by decide +kernel), List.mem_of_getElem? (i := 871) (by decide +kernel)⟩
theorem lw_p36 : lw_okq (⟨"KnotLettersModel", "lay", "(III)V"⟩, 23) := ⟨⟨by decide +kernel, by decide +kernel⟩, List.mem_of_getElem? (i := 669) (by decide +kernel), List.mem_of_getElem? (i := 874) (by decide +kernel), List.mem_of_getElem? (i := 875) (by decide +kernel)⟩
theorem lw_p37 : lw_okq (⟨"KnotLettersModel", "improve", "(IIII)V"⟩, 23) := ⟨⟨by decide +kernel, by decide +kernel⟩, List.mem_of_getElem? (i := 669) (by decide +kernel), List.mem_of_getElem? (i := 878) (by decide +kernel), List.mem_of_getElem? (i := 879) (by decide +kernel)⟩
theorem lw_p38 : lw_okq (⟨"KnotLettersModel", "isAhead", "(IIII)Z"⟩, 23) := ⟨⟨by decide +kernel, by decide +kernel⟩, List.mem_of_getElem? (i := 669) (by decide +kernel), List.mem_of_getElem? (i := 882) (by decide +kernel), List.mem_of_getElem? (i := 883) (by decide +kernel)⟩
theorem lw_p39 : lw_okq (⟨"KnotLettersModel", "write", "(Z)V"⟩, 23) := ⟨⟨by decide +kernel, by decide +kernel⟩, List.mem_of_getElem? (i := 669) (by decide +kernel), List.mem_of_getElem? (i := 886) (by decide +kernel), List.mem_of_getElem? (i := 887) (by decide +kernel)⟩
theorem lw_p40 : lw_okq (⟨"KnotLettersModel", "between", "(II)I"⟩, 23) := ⟨⟨by decide +kernel, by decide +kernel⟩, List.mem_of_getElem? (i := 669) (by decide +kernel), List.mem_of_getElem? (i := 902) (by decide +kernel), List.mem_of_getElem? (i := 903) (by decide +kernel)⟩
theorem lw_p41 : lw_okq (⟨"KnotLettersModel", "sum", "(I)I"⟩, 23) := ⟨⟨by decide +kernel, by decide +kernel⟩, List.mem_of_getElem? (i := 669) (by decide +kernel), List.mem_of_getElem? (i := 922) (by decide +kernel), List.mem_of_getElem? (i := 923) (by decide +kernel)⟩
def lw_privs_3 : List (MethodName × Nat) := [(⟨"KnotLettersModel", "cordTold", "(II)I"⟩, 23), (⟨"KnotLettersModel", "over", "(IIZ)I"⟩, 23), (⟨"KnotLettersModel", "ways", "(II)I"⟩, 23), (⟨"KnotLettersModel", "find", "(II)V"⟩, 23), (⟨"KnotLettersModel", "lay", "(III)V"⟩, 23), (⟨"KnotLettersModel", "improve", "(IIII)V"⟩, 23), (⟨"KnotLettersModel", "isAhead", "(IIII)Z"⟩, 23), (⟨"KnotLettersModel", "write", "(Z)V"⟩, 23), (⟨"KnotLettersModel", "between", "(II)I"⟩, 23), (⟨"KnotLettersModel", "sum", "(I)I"⟩, 23)]
theorem lw_r3 : ∀ q ∈ lw_privs_3, lw_okq q := List.forall_mem_cons.mpr ⟨lw_p32, List.forall_mem_cons.mpr ⟨lw_p33, List.forall_mem_cons.mpr ⟨lw_p34, List.forall_mem_cons.mpr ⟨lw_p35, List.forall_mem_cons.mpr ⟨lw_p36, List.forall_mem_cons.mpr ⟨lw_p37, List.forall_mem_cons.mpr ⟨lw_p38, List.forall_mem_cons.mpr ⟨lw_p39, List.forall_mem_cons.mpr ⟨lw_p40, List.forall_mem_cons.mpr ⟨lw_p41, fun _ h => absurd h List.not_mem_nil⟩⟩⟩⟩⟩⟩⟩⟩⟩⟩
def lw_privs : List (MethodName × Nat) := lw_privs_1 ++ (lw_privs_2 ++ (lw_privs_3))
def lw_tbl : List Cond := k2_sels lw_privs ++ tables_1
theorem lw_privs_ok : ∀ q ∈ lw_privs, lw_okq q := by
  show ∀ q ∈ lw_privs_1 ++ (lw_privs_2 ++ (lw_privs_3)), lw_okq q
  exact List.forall_mem_append.mpr ⟨lw_r1, List.forall_mem_append.mpr ⟨lw_r2, lw_r3⟩⟩
/-- the streams that the claim lets the run draw from -/
abbrev lw_cs : List Choice := [Jvm.Choice.named "NaN.bits"]
theorem lw_bits : nanBits ∈ lw_cs := by first | decide | exact List.mem_cons_self | simp [lw_cs, nanBits]
end
section
/-! ===== BEGIN words of one list among another's, by their places ===== -/
theorem goodIn_r {big : List Cond} (ws : List Cond) (ps : List Nat) (hp : ws = ps.filterMap (fun i => big[i]?)) (h : ws.all goodWord = true) : GoodIn big ws := by
  intro w hw
  have h1 := List.all_eq_true.mp h w hw
  rw [hp] at hw
  obtain ⟨i, -, hi⟩ := List.mem_filterMap.mp hw
  have hm : w ∈ big := by first | exact List.mem_of_getElem? hi | exact List.getElem?_mem hi
  exact ⟨hm, good_of_word h1⟩
theorem goodIn_app {big a b : List Cond} (ha : GoodIn big a) (hb : GoodIn big b) : GoodIn big (a ++ b) := fun w h => (List.mem_append.mp h).elim (ha w) (hb w)
theorem goodIn_ca {big a b : List Cond} {c : Cond} (ha : GoodIn big (c :: a)) (hb : GoodIn big b) : GoodIn big (c :: (a ++ b)) := fun w h => (List.mem_cons.mp h).elim (fun e => ha w (List.mem_cons.mpr (Or.inl e))) (fun h => (List.mem_append.mp h).elim (fun h => ha w (List.mem_cons.mpr (Or.inr h))) (hb w))
theorem goodIn_sub {big ws : List Cond} (hm : ∀ w ∈ ws, w ∈ big) (h : ws.all goodWord = true) : GoodIn big ws := fun w hw => ⟨hm w hw, good_of_word (List.all_eq_true.mp h w hw)⟩
/-! ===== END ===== -/

/-! ===== BEGIN exceptions that leave a method, and their catching by the caller (launches without stack traces) ===== -/
section VXA
/-! The laws vx_back, vx_callV, vx_callS, vx_callSW, vx_throw0, vx_throwS follow proofs of the library, with one case more: JvmDerived/Free/Laws.lean (Back.of_free), Shelf42/LK1.lean (callV, callS), Shelf/KitTraced.lean (throwNew0V, throwNewS). -/
/-- where a method has thrown q: the class by its name, the cell, what was written, the world -/
def vx_T (XC : String → State → State → Prop) (st : State) (q : Addr) (t : State) (mc ms : Nat) (free : Addr → Prop) : Prop :=
  ∃ (E : String) (ce : Cell) (L : List Loc), XC E st t ∧ t.heap[q]? = some ce ∧ ce.vm = .none ∧ st.vm.findClass E = some ce.cls ∧ st.WarmedH t.vm ∧ st.sameButNew ({ t with vm := st.vm } : State) L mc ms ∧ ∀ z ∈ L, free z.base
def vx_Q (Qc : Array Value → State → Outcome → State → Prop) (XC : String → State → State → Prop) (mc ms : Nat) (free : Addr → Prop) : Array Value → State → Outcome → State → Prop := fun a st o t =>
  (Qc a st o t ∧ ∃ L, FrameEnd st o t L mc ms ∧ ∀ q ∈ L, free q.base) ∨ ∃ q, o = .threw q ∧ vx_T XC st q t mc ms free
/-- a callee that returns or throws -/
def vx_Met (l : Launch) (y : MethodName) (ws : List Cond) (rm : Room) (Pc : Array Value → State → Prop) (Qc : Array Value → State → Outcome → State → Prop) (XC : String → State → State → Prop) (mc ms : Nat) (free : Addr → Prop) : Prop :=
  MetFree l y (headSpec ws rm) Pc (fun _ _ _ _ _ => True) (vx_Q Qc XC mc ms free)
def vx_Post (XC : String → State → State → Prop) (mc ms : Nat) (free : Addr → Prop) : Pt → Array Value → Addr → Pt → Prop := fun A a q B =>
  ∃ (g : JFrame) (mk : MethodId) (t : State) (L : List Loc) (E : String) (ce : Cell), B.U.heap = t.heap ∧ B.U.vm = t.vm ∧ XC E (A.U.calling g mk a) t ∧ t.heap[q]? = some ce ∧ ce.vm = .none ∧ A.U.vm.findClass E = some ce.cls ∧ B.locs = A.locs ++ L ∧ (∀ z ∈ L, free z.base) ∧ B.cells = A.cells + mc ∧ B.slots = A.slots + ms
def vx_Back (l : Launch) (R : Room) (p : Program) (e : Env) (below : List Frame) (s : State) (sargs : Array Value) (y : MethodName) (len W9 : Nat)
    (Pre : Pt → Array Value → Prop) (Post : Pt → Array Value → Option Value → Pt → Prop) (PostX : Pt → Array Value → Addr → Pt → Prop) : Prop :=
  ∀ (m : MethodId) (meth : Method) (c : Code) (A : Pt) (g : JFrame) (ig : Instr) (mk : MethodId) (a : Array Value),
    Stand p l e R s m sargs below meth c A.U A.locs A.cells A.slots → g.method = m → g.locals.size = c.maxLocals → decode c.code g.pc = .ok (ig, len) →
    2 * g.monitorRoom + (g.stack.map fun v => v.category).sum ≤ W9 → A.U.methodNamed? y = some mk → Pre A a →
    (∃ (v : Option Value) (B : Pt), Stand p l e R s m sargs below meth c B.U B.locs B.cells B.slots ∧ Post A a v B ∧
      Steps p.tables e below (doInvoke e (A.U.setTop g) [] mk a).1 (B.U.setTop { g with pc := g.pc + len, stack := v.toList ++ g.stack })) ∨
    (∃ (q : Addr) (B : Pt), Stand p l e R s m sargs below meth c B.U B.locs B.cells B.slots ∧ PostX A a q B ∧
      Steps p.tables e below (doInvoke e (A.U.setTop g) [] mk a).1 ((B.U.setTop g).pushFrame (.throwing q)))
section Payer
variable {l : Launch} {R : Room} {p : Program} {e : Env} {below : List Frame} {s : State} {sargs : Array Value} {y : MethodName} {len W9 : Nat}
theorem vx_back {ws : List Cond} {rm : Room} {Pc : Array Value → State → Prop} {Qc : Array Value → State → Outcome → State → Prop} {XC : String → State → State → Prop} {mc ms : Nat} {free : Addr → Prop} {bytes : ByteArray} {maxL : Nat} {ret : Option FieldType}
    (hM : vx_Met l y ws rm Pc Qc XC mc ms free) (hblind : FrameBlind Pc) (hrc : rm.cells = mc) (hrs : rm.slots = ms)
    (hframes : rm.frames + 1 ≤ R.frames) (hlocals : W9 + (maxL + 11) + rm.locals ≤ R.locals)
    (hws : ∀ w ∈ ws, ∀ a' U, s.WarmedH U.vm → w.before a' U = true) (hcode : Cond.code y bytes maxL ret ∈ ws) (hinit : ∀ a' U, s.WarmedH U.vm → (Cond.initialized y.cls).before a' U = true) :
    vx_Back l R p e below s sargs y len W9 (PreOf R mc ms Pc) (PostOf Qc mc ms free) (vx_Post XC mc ms free) := by
  intro m meth c A g ig mk a X hg hsize hdg hW hn hp
  have h1 : (headSpec ws rm).pre.before a A.U = true := atoms_intro fun w hw => hws w hw _ _ X.warmed
  have h2 : (Cond.code y bytes maxL ret).before a A.U = true := hws _ hcode _ _ X.warmed
  have h3 : (Cond.initialized y.cls).before a A.U = true := hinit _ _ X.warmed
  have h4 : A.cells + (headSpec ws rm).room.cells ≤ R.cells := by rw [show (headSpec ws rm).room.cells = mc from hrc]; exact hp.1
  have h5 : A.slots + (headSpec ws rm).room.slots ≤ R.slots := by rw [show (headSpec ws rm).room.slots = ms from hrs]; exact hp.2.1
  have hPc : Pc a (A.U.calling g mk a) := hblind _ _ _ _ hp.2.2
  obtain ⟨U, Ls, c0, s0⟩ := A
  dsimp only [Pt.U, Pt.locs, Pt.cells, Pt.slots] at h1 h2 h3 h4 h5 X hn hPc ⊢
  obtain ⟨methY, cY, hmY, hcY, -, hlY, -, -, -, -⟩ := Cond.code_spec hn h2
  obtain ⟨kY, hkY, -⟩ := className_of_methodNamed hn
  have hinitY : kY.init = .initialized := Cond.initialized_spec (findClass_of_methodNamed hn) hkY h3
  have h : At U g.method c below := by rw [hg]; exact X.here
  have hlocals9 : W9 + (maxL + 11) + (headSpec ws rm).room.locals ≤ R.locals := hlocals
  have happ : (headSpec ws rm).appliesLoose y e.platform (U.calling g mk a) = true :=
    Spec.appliesLoose_calling (g := g) h hdg hn hkY hinitY
      (X.room_calling (g := g) (R' := (headSpec ws rm).room) hsize hmY hcY hframes (by rw [hlY]; omega) h4 h5) h1
  obtain ⟨mid, hmid⟩ := h.above
  have hfr : (U.setTop g).frames = (.java g :: mid) ++ below := by rw [State.frames_setTop' g h.top, hmid]; rfl
  obtain ⟨o, s₂, hsteps, -, hend, hq⟩ := Steps.callFree hM p X.admits X.cas X.clock (acts := []) hfr happ hPc trivial
  have hq' : vx_Q Qc XC mc ms free a (U.calling g mk a) o s₂ := hq
  rw [State.frames_setTop' g h.top] at hend
  obtain ⟨g₀, hg0⟩ := Option.isSome_iff_exists.mp h.top
  obtain ⟨r, hr⟩ := State.topJava?_eq_some.mp hg0
  have hr' : (({ U with heap := s₂.heap, slotsUsed := s₂.slotsUsed } : State).setVm s₂.vm).frames = .java g₀ :: r := hr
  rcases hq' with ⟨hqc, L, hfe, hL⟩ | ⟨q, rfl, E, ce, L, hx, hce, hcv, hcl, hW₂, hsm, hL⟩
  · obtain ⟨⟨v, rfl⟩, hW₂, e2, q2, q3, q4, q5, q6⟩ := id hfe
    have e3 : s₂ = ({ (U.calling g mk a).setFrames s₂.frames with heap := s₂.heap, slotsUsed := s₂.slotsUsed } : State).setVm s₂.vm := by
      have : s₂ = ({ s₂ with vm := (U.calling g mk a).vm } : State).setVm s₂.vm := rfl
      rw [e2] at this
      exact this
    obtain ⟨c₂, i₂, len₂, hc₂, hd₂, hf₂⟩ := hend
    have hW' : U.WarmedH s₂.vm := hW₂
    have hcc : c₂ = c := by
      have h1 : s₂.code? g.method = U.code? g.method := by
        rw [State.code?_eq, State.code?_eq, hW'.alike.method?]
      exact Option.some.inj (hc₂.symm.trans (h1.trans h.code))
    subst hcc
    have hlen : len₂ = len := by rw [hdg] at hd₂; cases hd₂; rfl
    subst hlen
    have hs₂ : s₂ = (({ U with heap := s₂.heap, slotsUsed := s₂.slotsUsed } : State).setVm s₂.vm).setTop { g with pc := g.pc + len₂, stack := v.toList ++ g.stack } := by
      refine e3.trans ?_
      rw [hf₂, State.calling_eq h.top, State.setFrames_setFrames, State.setTop_of_frames _ hr', hr]
      rfl
    have hsame : U.sameButNew ({ U with heap := s₂.heap, slotsUsed := s₂.slotsUsed } : State) L mc ms := by
      refine ⟨?_, q2, q3, q4, q5, q6⟩
      obtain ⟨t, ht, -⟩ := State.frames_cons hr
      show ({ U with heap := s₂.heap, slotsUsed := s₂.slotsUsed } : State) = { U.setFrames U.frames with heap := s₂.heap, slotsUsed := s₂.slotsUsed }
      rw [State.setFrames_self ht]
    subst hg
    refine Or.inl ⟨v, ⟨(({ U with heap := s₂.heap, slotsUsed := s₂.slotsUsed } : State).setVm s₂.vm), Ls ++ L, c0 + mc, s0 + ms⟩,
      ⟨X.admits, X.cas, X.clock, X.frames, X.room, X.hears, X.method, X.code, (X.here.setHeapUsed s₂.heap s₂.slotsUsed).setVm hW'.alike, X.tail, State.WarmedH.trans X.warmed hW', X.limits, X.bytes, X.same.trans (hsame.setVm s.vm)⟩,
      ⟨g, mk, s₂, L, rfl, rfl, hqc, rfl, hL, rfl, rfl⟩, ?_⟩
    show Steps p.tables e below _ ((({ U with heap := s₂.heap, slotsUsed := s₂.slotsUsed } : State).setVm s₂.vm).setTop { g with pc := g.pc + len₂, stack := v.toList ++ g.stack })
    rw [← hs₂]
    exact hsteps
  · obtain ⟨e2, q2, q3, q4, q5, q6⟩ := id hsm
    have e3 : s₂ = ({ (U.calling g mk a).setFrames s₂.frames with heap := s₂.heap, slotsUsed := s₂.slotsUsed } : State).setVm s₂.vm := by
      have : s₂ = ({ s₂ with vm := (U.calling g mk a).vm } : State).setVm s₂.vm := rfl
      rw [e2] at this
      exact this
    have hf₂ : s₂.frames = .throwing q :: .java g :: U.frames.tail := hend
    have hW' : U.WarmedH s₂.vm := hW₂
    have hs₂ : s₂ = ((({ U with heap := s₂.heap, slotsUsed := s₂.slotsUsed } : State).setVm s₂.vm).setTop g).pushFrame (.throwing q) := by
      refine e3.trans ?_
      rw [hf₂, State.calling_eq h.top, State.setFrames_setFrames, State.pushFrame, State.frames_setTop _ hr', State.setTop_of_frames _ hr', State.setFrames_setFrames, hr]
      rfl
    have hsame : U.sameButNew ({ U with heap := s₂.heap, slotsUsed := s₂.slotsUsed } : State) L mc ms := by
      refine ⟨?_, q2, q3, q4, q5, q6⟩
      obtain ⟨t, ht, -⟩ := State.frames_cons hr
      show ({ U with heap := s₂.heap, slotsUsed := s₂.slotsUsed } : State) = { U.setFrames U.frames with heap := s₂.heap, slotsUsed := s₂.slotsUsed }
      rw [State.setFrames_self ht]
    subst hg
    refine Or.inr ⟨q, ⟨(({ U with heap := s₂.heap, slotsUsed := s₂.slotsUsed } : State).setVm s₂.vm), Ls ++ L, c0 + mc, s0 + ms⟩,
      ⟨X.admits, X.cas, X.clock, X.frames, X.room, X.hears, X.method, X.code, (X.here.setHeapUsed s₂.heap s₂.slotsUsed).setVm hW'.alike, X.tail, State.WarmedH.trans X.warmed hW', X.limits, X.bytes, X.same.trans (hsame.setVm s.vm)⟩,
      ⟨g, mk, s₂, L, E, ce, rfl, rfl, hx, hce, hcv, hcl, rfl, hL, rfl, rfl⟩, ?_⟩
    show Steps p.tables e below _ (((({ U with heap := s₂.heap, slotsUsed := s₂.slotsUsed } : State).setVm s₂.vm).setTop g).pushFrame (.throwing q))
    rw [← hs₂]
    exact hsteps
end Payer
section Calls
variable {p : Program} {l : Launch} {e : Env} {R : Room} {s : State} {m : MethodId} {args : Array Value} {below : List Frame} {meth : Method} {c : Code} {T : State} {locs : List Loc} {cells slots : Nat}
theorem vx_callV (X : Stand p l e R s m args below meth c T locs cells slots) (hexec : p.tables.exec = Jvm.exec) {own C : String} {index : Nat} {y : MethodName} {bytes : ByteArray} {maxL : Nat} {ret : Option FieldType}
    (hown : s.vm.findClass own = some m.cls) (hlink : (Cond.methodLink own index y).before args s = true) (hinst : (Cond.instanceMethod y).before args s = true) (hsel : (Cond.selects C y y).before args s = true)
    (hcode : (Cond.code y bytes maxL ret).before args s = true) (hy : y.cls ≠ "java/lang/invoke/MethodHandle" ∧ y.cls ≠ "java/lang/invoke/VarHandle")
    {W9 : Nat} {Pre : Pt → Array Value → Prop} {Post : Pt → Array Value → Option Value → Pt → Prop} {PostX : Pt → Array Value → Addr → Pt → Prop} (hK : vx_Back l R p e below s args y 3 W9 Pre Post PostX)
    {b : Addr} {cellB : Cell} (hcell : T.heap[b]? = some cellB) (hobj : cellB.vm.isStatics = false) (hcls : s.vm.findClass C = some cellB.cls)
    {g : JFrame} (hg : g.method = m) (hsize : g.locals.size = c.maxLocals) {argsL rest : List Value} (hlen : ∀ sig, parseMethodDescriptor y.desc = some sig → argsL.length = sig.parameters.length)
    (hstack : g.stack = argsL.reverse ++ .ref b :: rest) (hW : 2 * g.monitorRoom + (rest.map fun v => v.category).sum ≤ W9) (hdg : decode c.code g.pc = .ok (.invokevirtual index, 3))
    (hpre : ∀ vm₁, s.WarmedH vm₁ → Pre ⟨T.setVm vm₁, locs, cells, slots⟩ (Value.ref b :: argsL).toArray) :
    (∃ (v : Option Value) (vm₁ : Vm) (B : Pt), s.WarmedH vm₁ ∧ Stand p l e R s m args below meth c B.U B.locs B.cells B.slots ∧ Post ⟨T.setVm vm₁, locs, cells, slots⟩ (Value.ref b :: argsL).toArray v B ∧
      ∀ target, Steps p.tables e below (B.U.setTop { g with pc := g.pc + 3, stack := v.toList ++ rest }) target → Steps p.tables e below (T.setTop g) target) ∨
    (∃ (q : Addr) (vm₁ : Vm) (B : Pt), s.WarmedH vm₁ ∧ Stand p l e R s m args below meth c B.U B.locs B.cells B.slots ∧ PostX ⟨T.setVm vm₁, locs, cells, slots⟩ (Value.ref b :: argsL).toArray q B ∧
      Steps p.tables e below (T.setTop g) ((B.U.setTop { g with stack := rest }).pushFrame (.throwing q))) := by
  obtain ⟨mk, methM, hnamed, hmethM, hstM, habM⟩ := Cond.instanceMethod_spec hinst
  obtain ⟨methM', cM, hmethM', -, -, -, -, -, -, hsigM⟩ := Cond.code_spec hnamed hcode
  cases hmethM.symm.trans hmethM'
  obtain ⟨c2, r2, m2, q1, q2, q3, q4, kP, hkP, hkPi⟩ := Cond.selects_spec hsel
  cases hcls.symm.trans q1
  cases (State.methodFound?_of_named hnamed hy).symm.trans q2
  cases hnamed.symm.trans q3
  have hselP : selectMethod e.platform s.vm cellB.cls mk = .method mk := by rw [Launch.admits_selectMethod X.admits]; exact q4
  obtain ⟨vm₁, X₁, hstep₁⟩ := X.invokevirtual hexec hown hlink hnamed hmethM hstM hkP hkPi hy (a := b) (cell := cellB) hcell
    (fun z h => by rw [h] at hobj; cases hobj) hselP hmethM habM hkP hkPi (g := g) hg (argsL := argsL) (rest := rest) (hlen _ hsigM) hstack hdg
  rcases hK m meth c ⟨T.setVm vm₁, locs, cells, slots⟩ { g with stack := rest } (.invokevirtual index) mk (Value.ref b :: argsL).toArray X₁ hg hsize hdg hW (X₁.named hnamed) (hpre vm₁ X₁.warmed) with ⟨v, B, X', hpost, hsteps⟩ | ⟨q, B, X', hpost, hsteps⟩
  · exact Or.inl ⟨v, vm₁, B, X₁.warmed, X', hpost, fun target h => hstep₁ _ fun acts => by rw [doInvoke_state]; exact hsteps.trans h⟩
  · exact Or.inr ⟨q, vm₁, B, X₁.warmed, X', hpost, hstep₁ _ fun acts => by rw [doInvoke_state]; exact hsteps⟩
theorem vx_callS (X : Stand p l e R s m args below meth c T locs cells slots) (hexec : p.tables.exec = Jvm.exec) {own : String} {index : Nat} {y : MethodName} {bytes : ByteArray} {maxL : Nat} {ret : Option FieldType}
    (hown : s.vm.findClass own = some m.cls) (hlink : (Cond.methodLink own index y).before args s = true) (hstat : (Cond.static y).before args s = true) (hinit : (Cond.initialized y.cls).before args s = true)
    (hcode : (Cond.code y bytes maxL ret).before args s = true) (hy : y.cls ≠ "java/lang/invoke/MethodHandle" ∧ y.cls ≠ "java/lang/invoke/VarHandle")
    {W9 : Nat} {Pre : Pt → Array Value → Prop} {Post : Pt → Array Value → Option Value → Pt → Prop} {PostX : Pt → Array Value → Addr → Pt → Prop} (hK : vx_Back l R p e below s args y 3 W9 Pre Post PostX)
    {g : JFrame} (hg : g.method = m) (hsize : g.locals.size = c.maxLocals) {argsL rest : List Value} (hlen : ∀ sig, parseMethodDescriptor y.desc = some sig → argsL.length = sig.parameters.length)
    (hstack : g.stack = argsL.reverse ++ rest) (hW : 2 * g.monitorRoom + (rest.map fun v => v.category).sum ≤ W9) (hdg : decode c.code g.pc = .ok (.invokestatic index, 3))
    (hpre : ∀ vm₁, s.WarmedH vm₁ → Pre ⟨T.setVm vm₁, locs, cells, slots⟩ argsL.toArray) :
    (∃ (v : Option Value) (vm₁ : Vm) (B : Pt), s.WarmedH vm₁ ∧ Stand p l e R s m args below meth c B.U B.locs B.cells B.slots ∧ Post ⟨T.setVm vm₁, locs, cells, slots⟩ argsL.toArray v B ∧
      ∀ target, Steps p.tables e below (B.U.setTop { g with pc := g.pc + 3, stack := v.toList ++ rest }) target → Steps p.tables e below (T.setTop g) target) ∨
    (∃ (q : Addr) (vm₁ : Vm) (B : Pt), s.WarmedH vm₁ ∧ Stand p l e R s m args below meth c B.U B.locs B.cells B.slots ∧ PostX ⟨T.setVm vm₁, locs, cells, slots⟩ argsL.toArray q B ∧
      Steps p.tables e below (T.setTop g) ((B.U.setTop { g with stack := rest }).pushFrame (.throwing q))) := by
  obtain ⟨mk, hnamed⟩ := Cond.code_named hcode
  obtain ⟨methM, cM, hmethM, -, -, -, -, -, -, hsigM⟩ := Cond.code_spec hnamed hcode
  have hstatic : methM.isStatic = true := Cond.static_spec hnamed hmethM hstat
  obtain ⟨kP, hkP, -⟩ := className_of_methodNamed hnamed
  have hinitP : kP.init = .initialized := Cond.initialized_spec (findClass_of_methodNamed hnamed) hkP hinit
  obtain ⟨vm₁, X₁, hstep₁⟩ := X.invokestatic hexec hown hlink hnamed hmethM hstatic hkP hinitP hy (g := g) hg (argsL := argsL) (rest := rest) (hlen _ hsigM) hstack hdg
  rcases hK m meth c ⟨T.setVm vm₁, locs, cells, slots⟩ { g with stack := rest } (.invokestatic index) mk argsL.toArray X₁ hg hsize hdg hW (X₁.named hnamed) (hpre vm₁ X₁.warmed) with ⟨v, B, X', hpost, hsteps⟩ | ⟨q, B, X', hpost, hsteps⟩
  · exact Or.inl ⟨v, vm₁, B, X₁.warmed, X', hpost, fun target h => hstep₁ _ fun acts => by rw [doInvoke_state]; exact hsteps.trans h⟩
  · exact Or.inr ⟨q, vm₁, B, X₁.warmed, X', hpost, hstep₁ _ fun acts => by rw [doInvoke_state]; exact hsteps⟩
end Calls
theorem vx_cls {s : State} {T : State} {vm₁ : Vm} {E : String} {k : ClassId} (hW : s.WarmedH vm₁) (h : (T.setVm vm₁).vm.findClass E = some k) : s.vm.findClass E = some k := by
  have h1 : vm₁.findClass E = some k := h
  rw [hW.alike.findClass] at h1
  exact h1
/-- the method's frame g, with q thrown over it -/
def vx_W (p : Program) (l : Launch) (e : Env) (R : Room) (s : State) (m : MethodId) (args : Array Value) (below : List Frame) (meth : Method) (c : Code) (H : Heap) (locs : List Loc) (cells slots : Nat) (Q : State → Prop) (g : JFrame) (q : Addr) : Prop :=
  ∀ T : State, T.heap = H → Stand p l e R s m args below meth c T locs cells slots → ∃ t, Steps p.tables e below ((T.setTop g).pushFrame (.throwing q)) t ∧ Q t
def vx_Run (p : Program) (l : Launch) (e : Env) (R : Room) (s : State) (m : MethodId) (args : Array Value) (below : List Frame) (meth : Method) (c : Code) (H : Heap) (locs : List Loc) (cells slots mc ms : Nat) (g : JFrame) (rest : List Value) (Qa : State → Outcome → State → Prop) (XC : String → State → State → Prop) (free : Addr → Prop) : Prop :=
  ∀ T : State, T.heap = H → Stand p l e R s m args below meth c T locs cells slots →
    (∃ (v : Option Value) (st₀ t T' : State) (L : List Loc), st₀.heap = H ∧ Stand p l e R s m args below meth c T' (locs ++ L) (cells + mc) (slots + ms) ∧ (∀ q ∈ L, free q.base) ∧ T'.heap = t.heap ∧ T'.vm = t.vm ∧ Qa st₀ (.returned v) t ∧
      Goes p e below T g T' { g with pc := g.pc + 3, stack := v.toList ++ rest }) ∨
    (∃ (q : Addr) (st₀ t T' : State) (L : List Loc) (E : String) (ce : Cell), st₀.heap = H ∧ Stand p l e R s m args below meth c T' (locs ++ L) (cells + mc) (slots + ms) ∧ (∀ z ∈ L, free z.base) ∧ T'.heap = t.heap ∧ T'.vm = t.vm ∧ XC E st₀ t ∧ t.heap[q]? = some ce ∧ ce.vm = .none ∧ s.vm.findClass E = some ce.cls ∧
      Steps p.tables e below (T.setTop g) ((T'.setTop { g with stack := rest }).pushFrame (.throwing q)))
def vx_X {S : Type} (px : S → Prop) (B : String → S → State → Prop) (A : Nat → Prop) : String → State → State → Prop := fun E st t => ∃ u : S, px u ∧ B E u t ∧ va_F A st t
section Runs
variable {p : Program} {l : Launch} {e : Env} {R : Room} {s : State} {m : MethodId} {args : Array Value} {below : List Frame} {meth : Method} {c : Code} {H : Heap} {locs : List Loc} {cells slots : Nat}
variable {y : MethodName} {bytes cc : ByteArray} {maxL nL mc ms n index : Nat} {ret : Option FieldType} {ws : List Cond} {rm : Room} {Pc : Array Value → State → Prop} {Qc : Array Value → State → Outcome → State → Prop} {XC : String → State → State → Prop} {free : Addr → Prop} {Ts : List Cond} {own C : String} {b : Addr} {As rest : List Value} {g : JFrame}
theorem vx_callBack (cb : CallB R s args own index y bytes maxL ret ws rm mc ms n) (hM : vx_Met l y ws rm Pc Qc XC mc ms free) (hbl : FrameBlind Pc) : vx_Back l R p e below s args y 3 8 (PreOf R mc ms Pc) (PostOf Qc mc ms free) (vx_Post XC mc ms free) := by
  obtain ⟨hrc, hrs, hfr, hlo, hws, hcw, -, hini, -⟩ := cb
  exact vx_back (bytes := bytes) (maxL := maxL) (ret := ret) hM hbl hrc hrs hfr hlo hws hcw (fun a' U hW => word_at hW (Or.inl (by first | rfl | simp [Cond.onTables, Cond.keeps, Cond.steady])) hini)
theorem vx_runV (S : CallFix p m c cc nL s args Ts own) (hM : vx_Met l y ws rm Pc Qc XC mc ms free) (cw : CallW R s args own C index y bytes maxL ret ws rm mc ms n) (hp : PreV s H C b Pc As)
    (hg : g.method = m) (hn : As.length = n) (hsize : g.locals.size = nL) (hstack : g.stack = As.reverse ++ .ref b :: rest) (hW : 2 * g.monitorRoom + (rest.map fun v => v.category).sum ≤ 8) (hdg : decode cc g.pc = .ok (.invokevirtual index, 3)) (hf : cells + mc ≤ R.cells ∧ slots + ms ≤ R.slots) :
    vx_Run p l e R s m args below meth c H locs cells slots mc ms g rest (Qc (Value.ref b :: As).toArray) XC free := by
  have hK : vx_Back l R p e below s args y 3 8 (PreOf R mc ms Pc) (PostOf Qc mc ms free) (vx_Post XC mc ms free) := vx_callBack cw.1 hM hp.1
  obtain ⟨⟨-, -, -, -, -, -, hcode, -, hy, hlen, hl⟩, hin, hse⟩ := cw
  obtain ⟨hx, hb, hml, ho, -⟩ := S
  obtain ⟨-, ⟨cellB, hcB, hoB, hclB⟩, hPc⟩ := hp
  intro T hT X
  rcases vx_callV X hx (C := C) (bytes := bytes) (maxL := maxL) (ret := ret) ho hl hin hse hcode hy hK (by rw [hT]; exact hcB) hoB hclB hg (hsize.trans hml.symm) (argsL := As) (rest := rest) (fun sig h => hn.trans (hlen sig h)) hstack hW (by rw [hb]; exact hdg)
    (fun vm₁ hW₁ => ⟨hf.1, hf.2, hPc (T.setVm vm₁) hT hW₁⟩) with ⟨v, vm₁, ⟨U', l2, c2, s2⟩, hW₁, X', ⟨g', mk, t, L, e1, e2, hq, h1, hL, h2, h3⟩, st⟩ | ⟨q, vm₁, ⟨U', l2, c2, s2⟩, hW₁, X', ⟨g', mk, t, L, E, ce, e1, e2, hq, hce, hcv, hcl, h1, hL, h2, h3⟩, st⟩
  · dsimp only [Pt.U, Pt.locs, Pt.cells, Pt.slots] at X' e1 e2 h1 h2 h3 st
    subst h1; subst h2; subst h3
    exact Or.inl ⟨v, (T.setVm vm₁).calling g' mk (Value.ref b :: As).toArray, t, U', L, hT, X', hL, e1, e2, hq, st⟩
  · dsimp only [Pt.U, Pt.locs, Pt.cells, Pt.slots] at X' e1 e2 h1 h2 h3 st hcl
    subst h1; subst h2; subst h3
    exact Or.inr ⟨q, (T.setVm vm₁).calling g' mk (Value.ref b :: As).toArray, t, U', L, E, ce, hT, X', hL, e1, e2, hq, hce, hcv, vx_cls hW₁ hcl, st⟩
theorem vx_runS (S : CallFix p m c cc nL s args Ts own) (hM : vx_Met l y ws rm Pc Qc XC mc ms free) (cw : CallB R s args own index y bytes maxL ret ws rm mc ms n ∧ (Cond.static y).before args s = true) (hp : PreS s H Pc As)
    (hg : g.method = m) (hn : As.length = n) (hsize : g.locals.size = nL) (hstack : g.stack = As.reverse ++ rest) (hW : 2 * g.monitorRoom + (rest.map fun v => v.category).sum ≤ 8) (hdg : decode cc g.pc = .ok (.invokestatic index, 3)) (hf : cells + mc ≤ R.cells ∧ slots + ms ≤ R.slots) :
    vx_Run p l e R s m args below meth c H locs cells slots mc ms g rest (Qc As.toArray) XC free := by
  have hK : vx_Back l R p e below s args y 3 8 (PreOf R mc ms Pc) (PostOf Qc mc ms free) (vx_Post XC mc ms free) := vx_callBack cw.1 hM hp.1
  obtain ⟨⟨-, -, -, -, -, -, hcode, hini, hy, hlen, hl⟩, hstt⟩ := cw
  obtain ⟨hx, hb, hml, ho, -⟩ := S
  intro T hT X
  rcases vx_callS X hx (bytes := bytes) (maxL := maxL) (ret := ret) ho hl hstt hini hcode hy hK hg (hsize.trans hml.symm) (argsL := As) (rest := rest) (fun sig h => hn.trans (hlen sig h)) hstack hW (by rw [hb]; exact hdg)
    (fun vm₁ hW₁ => ⟨hf.1, hf.2, hp.2 (T.setVm vm₁) hT hW₁⟩) with ⟨v, vm₁, ⟨U', l2, c2, s2⟩, hW₁, X', ⟨g', mk, t, L, e1, e2, hq, h1, hL, h2, h3⟩, st⟩ | ⟨q, vm₁, ⟨U', l2, c2, s2⟩, hW₁, X', ⟨g', mk, t, L, E, ce, e1, e2, hq, hce, hcv, hcl, h1, hL, h2, h3⟩, st⟩
  · dsimp only [Pt.U, Pt.locs, Pt.cells, Pt.slots] at X' e1 e2 h1 h2 h3 st
    subst h1; subst h2; subst h3
    exact Or.inl ⟨v, (T.setVm vm₁).calling g' mk As.toArray, t, U', L, hT, X', hL, e1, e2, hq, st⟩
  · dsimp only [Pt.U, Pt.locs, Pt.cells, Pt.slots] at X' e1 e2 h1 h2 h3 st hcl
    subst h1; subst h2; subst h3
    exact Or.inr ⟨q, (T.setVm vm₁).calling g' mk As.toArray, t, U', L, E, ce, hT, X', hL, e1, e2, hq, hce, hcv, vx_cls hW₁ hcl, st⟩
end Runs
section Rows
variable {p : Program} {l : Launch} {e : Env} {R : Room} {s : State} {m : MethodId} {args : Array Value} {below : List Frame} {meth : Method} {c : Code} {H : Heap} {locs : List Loc} {cells slots : Nat} {Q : State → Prop}
variable {mc ms : Nat} {free : Addr → Prop} {A0 A1 : Nat → Prop} {H0 : Heap} {a : Array Value} {pc : Nat} {ls : Array Slot} {st0 rest : List Value}
theorem vx_keep {st₀ t T' : State} {L : List Loc} (h0 : st₀.heap = H) (e1 : T'.heap = t.heap) (hS : va_S A0 H0 H locs) (hA : ∀ q, q < H.size → A1 q → A0 q) (hf : ∀ q, free q → A0 q) (hL : ∀ q ∈ L, free q.base) (hF : va_F A1 st₀ t) :
    H.size ≤ T'.heap.size ∧ (∀ q : Nat, q < H.size → ¬ A1 q → T'.heap[q]? = H[q]?) ∧ va_S A0 H0 T'.heap (locs ++ L) := by
  obtain ⟨hz, hk⟩ := hF
  rw [h0] at hz hk
  exact ⟨by rw [e1]; exact hz, fun q h1 h2 => by rw [e1]; exact hk q h1 h2,
    ⟨Nat.le_trans hS.1 (by rw [e1]; exact hz), fun q h1 h2 => by rw [e1, hk q (Nat.lt_of_lt_of_le h1 hS.1) (fun z => h2 (hA q (Nat.lt_of_lt_of_le h1 hS.1) z))]; exact hS.2.1 q h1 h2, fun q hq => by
      rcases List.mem_append.mp hq with h | h
      · exact hS.2.2 q h
      · exact hf _ (hL q h)⟩⟩
theorem vx_calli {S SX : Type} {post : Int32 → S → Prop} {px : SX → Prop} {B : S → State → Prop} {BX : String → SX → State → Prop} {AX : Nat → Prop} (hr : vx_Run p l e R s m args below meth c H locs cells slots mc ms (F0 m pc ls st0) rest (va_Qi post B A1 a) (vx_X px BX AX) free) (hS : va_S A0 H0 H locs) (hA : ∀ q, q < H.size → A1 q → A0 q) (hf : ∀ q, free q → A0 q) (hAX : ∀ q, q < H.size → AX q → A0 q)
    (kx : ∀ (E : String) (ce : Cell) (q9 : Addr) (u : SX) (t : State) (H1 : Heap) (locs1 : List Loc), t.heap = H1 → s.vm.Alike t.vm → px u → BX E u t → H.size ≤ H1.size → (∀ q : Nat, q < H.size → ¬ AX q → H1[q]? = H[q]?) → va_S A0 H0 H1 locs1 → H1[q9]? = some ce → ce.vm = .none → s.vm.findClass E = some ce.cls → vx_W p l e R s m args below meth c H1 locs1 (cells + mc) (slots + ms) Q (F0 m pc ls rest) q9)
    (kk : ∀ (r : Int32) (u : S) (t : State) (H1 : Heap) (locs1 : List Loc), t.heap = H1 → s.vm.Alike t.vm → post r u → B u t → H.size ≤ H1.size → (∀ q : Nat, q < H.size → ¬ A1 q → H1[q]? = H[q]?) → va_S A0 H0 H1 locs1 → W p l e R s m args below meth c H1 locs1 (cells + mc) (slots + ms) Q (F0 m (pc + 3) ls (.int r :: rest))) : W p l e R s m args below meth c H locs cells slots Q (F0 m pc ls st0) := by
  intro T hT X
  rcases hr T hT X with ⟨v, st₀, t, T', L, h0, X', hL, e1, e2, ⟨⟨r, u, hv, hp, hb⟩, hF⟩, st⟩ | ⟨q, st₀, t, T', L, E, ce, h0, X', hL, e1, e2, ⟨u, hp, hb, hF⟩, hce, hcv, hcl, st⟩
  · cases hv
    obtain ⟨k1, k2, k3⟩ := vx_keep h0 e1 hS hA hf hL hF
    obtain ⟨t2, a1, b1⟩ := kk r u t T'.heap (locs ++ L) e1.symm (by rw [← e2]; exact X'.warmed.alike) hp hb k1 k2 k3 T' rfl X'
    exact ⟨t2, st t2 a1, b1⟩
  · obtain ⟨k1, k2, k3⟩ := vx_keep h0 e1 hS hAX hf hL hF
    obtain ⟨t2, a1, b1⟩ := kx E ce q u t T'.heap (locs ++ L) e1.symm (by rw [← e2]; exact X'.warmed.alike) hp hb k1 k2 k3 (by rw [e1]; exact hce) hcv hcl T' rfl X'
    exact ⟨t2, st.trans a1, b1⟩
theorem vx_calll {S SX : Type} {post : Int64 → S → Prop} {px : SX → Prop} {B : S → State → Prop} {BX : String → SX → State → Prop} {AX : Nat → Prop} (hr : vx_Run p l e R s m args below meth c H locs cells slots mc ms (F0 m pc ls st0) rest (va_Ql post B A1 a) (vx_X px BX AX) free) (hS : va_S A0 H0 H locs) (hA : ∀ q, q < H.size → A1 q → A0 q) (hf : ∀ q, free q → A0 q) (hAX : ∀ q, q < H.size → AX q → A0 q)
    (kx : ∀ (E : String) (ce : Cell) (q9 : Addr) (u : SX) (t : State) (H1 : Heap) (locs1 : List Loc), t.heap = H1 → s.vm.Alike t.vm → px u → BX E u t → H.size ≤ H1.size → (∀ q : Nat, q < H.size → ¬ AX q → H1[q]? = H[q]?) → va_S A0 H0 H1 locs1 → H1[q9]? = some ce → ce.vm = .none → s.vm.findClass E = some ce.cls → vx_W p l e R s m args below meth c H1 locs1 (cells + mc) (slots + ms) Q (F0 m pc ls rest) q9)
    (kk : ∀ (r : Int64) (u : S) (t : State) (H1 : Heap) (locs1 : List Loc), t.heap = H1 → s.vm.Alike t.vm → post r u → B u t → H.size ≤ H1.size → (∀ q : Nat, q < H.size → ¬ A1 q → H1[q]? = H[q]?) → va_S A0 H0 H1 locs1 → W p l e R s m args below meth c H1 locs1 (cells + mc) (slots + ms) Q (F0 m (pc + 3) ls (.long r :: rest))) : W p l e R s m args below meth c H locs cells slots Q (F0 m pc ls st0) := by
  intro T hT X
  rcases hr T hT X with ⟨v, st₀, t, T', L, h0, X', hL, e1, e2, ⟨⟨r, u, hv, hp, hb⟩, hF⟩, st⟩ | ⟨q, st₀, t, T', L, E, ce, h0, X', hL, e1, e2, ⟨u, hp, hb, hF⟩, hce, hcv, hcl, st⟩
  · cases hv
    obtain ⟨k1, k2, k3⟩ := vx_keep h0 e1 hS hA hf hL hF
    obtain ⟨t2, a1, b1⟩ := kk r u t T'.heap (locs ++ L) e1.symm (by rw [← e2]; exact X'.warmed.alike) hp hb k1 k2 k3 T' rfl X'
    exact ⟨t2, st t2 a1, b1⟩
  · obtain ⟨k1, k2, k3⟩ := vx_keep h0 e1 hS hAX hf hL hF
    obtain ⟨t2, a1, b1⟩ := kx E ce q u t T'.heap (locs ++ L) e1.symm (by rw [← e2]; exact X'.warmed.alike) hp hb k1 k2 k3 (by rw [e1]; exact hce) hcv hcl T' rfl X'
    exact ⟨t2, st.trans a1, b1⟩
theorem vx_callf {S SX : Type} {post : UInt32 → S → Prop} {px : SX → Prop} {B : S → State → Prop} {BX : String → SX → State → Prop} {AX : Nat → Prop} (hr : vx_Run p l e R s m args below meth c H locs cells slots mc ms (F0 m pc ls st0) rest (va_Qf post B A1 a) (vx_X px BX AX) free) (hS : va_S A0 H0 H locs) (hA : ∀ q, q < H.size → A1 q → A0 q) (hf : ∀ q, free q → A0 q) (hAX : ∀ q, q < H.size → AX q → A0 q)
    (kx : ∀ (E : String) (ce : Cell) (q9 : Addr) (u : SX) (t : State) (H1 : Heap) (locs1 : List Loc), t.heap = H1 → s.vm.Alike t.vm → px u → BX E u t → H.size ≤ H1.size → (∀ q : Nat, q < H.size → ¬ AX q → H1[q]? = H[q]?) → va_S A0 H0 H1 locs1 → H1[q9]? = some ce → ce.vm = .none → s.vm.findClass E = some ce.cls → vx_W p l e R s m args below meth c H1 locs1 (cells + mc) (slots + ms) Q (F0 m pc ls rest) q9)
    (kk : ∀ (r : UInt32) (u : S) (t : State) (H1 : Heap) (locs1 : List Loc), t.heap = H1 → s.vm.Alike t.vm → post r u → B u t → H.size ≤ H1.size → (∀ q : Nat, q < H.size → ¬ A1 q → H1[q]? = H[q]?) → va_S A0 H0 H1 locs1 → W p l e R s m args below meth c H1 locs1 (cells + mc) (slots + ms) Q (F0 m (pc + 3) ls (.float r :: rest))) : W p l e R s m args below meth c H locs cells slots Q (F0 m pc ls st0) := by
  intro T hT X
  rcases hr T hT X with ⟨v, st₀, t, T', L, h0, X', hL, e1, e2, ⟨⟨r, u, hv, hp, hb⟩, hF⟩, st⟩ | ⟨q, st₀, t, T', L, E, ce, h0, X', hL, e1, e2, ⟨u, hp, hb, hF⟩, hce, hcv, hcl, st⟩
  · cases hv
    obtain ⟨k1, k2, k3⟩ := vx_keep h0 e1 hS hA hf hL hF
    obtain ⟨t2, a1, b1⟩ := kk r u t T'.heap (locs ++ L) e1.symm (by rw [← e2]; exact X'.warmed.alike) hp hb k1 k2 k3 T' rfl X'
    exact ⟨t2, st t2 a1, b1⟩
  · obtain ⟨k1, k2, k3⟩ := vx_keep h0 e1 hS hAX hf hL hF
    obtain ⟨t2, a1, b1⟩ := kx E ce q u t T'.heap (locs ++ L) e1.symm (by rw [← e2]; exact X'.warmed.alike) hp hb k1 k2 k3 (by rw [e1]; exact hce) hcv hcl T' rfl X'
    exact ⟨t2, st.trans a1, b1⟩
theorem vx_calld {S SX : Type} {post : UInt64 → S → Prop} {px : SX → Prop} {B : S → State → Prop} {BX : String → SX → State → Prop} {AX : Nat → Prop} (hr : vx_Run p l e R s m args below meth c H locs cells slots mc ms (F0 m pc ls st0) rest (va_Qd post B A1 a) (vx_X px BX AX) free) (hS : va_S A0 H0 H locs) (hA : ∀ q, q < H.size → A1 q → A0 q) (hf : ∀ q, free q → A0 q) (hAX : ∀ q, q < H.size → AX q → A0 q)
    (kx : ∀ (E : String) (ce : Cell) (q9 : Addr) (u : SX) (t : State) (H1 : Heap) (locs1 : List Loc), t.heap = H1 → s.vm.Alike t.vm → px u → BX E u t → H.size ≤ H1.size → (∀ q : Nat, q < H.size → ¬ AX q → H1[q]? = H[q]?) → va_S A0 H0 H1 locs1 → H1[q9]? = some ce → ce.vm = .none → s.vm.findClass E = some ce.cls → vx_W p l e R s m args below meth c H1 locs1 (cells + mc) (slots + ms) Q (F0 m pc ls rest) q9)
    (kk : ∀ (r : UInt64) (u : S) (t : State) (H1 : Heap) (locs1 : List Loc), t.heap = H1 → s.vm.Alike t.vm → post r u → B u t → H.size ≤ H1.size → (∀ q : Nat, q < H.size → ¬ A1 q → H1[q]? = H[q]?) → va_S A0 H0 H1 locs1 → W p l e R s m args below meth c H1 locs1 (cells + mc) (slots + ms) Q (F0 m (pc + 3) ls (.double r :: rest))) : W p l e R s m args below meth c H locs cells slots Q (F0 m pc ls st0) := by
  intro T hT X
  rcases hr T hT X with ⟨v, st₀, t, T', L, h0, X', hL, e1, e2, ⟨⟨r, u, hv, hp, hb⟩, hF⟩, st⟩ | ⟨q, st₀, t, T', L, E, ce, h0, X', hL, e1, e2, ⟨u, hp, hb, hF⟩, hce, hcv, hcl, st⟩
  · cases hv
    obtain ⟨k1, k2, k3⟩ := vx_keep h0 e1 hS hA hf hL hF
    obtain ⟨t2, a1, b1⟩ := kk r u t T'.heap (locs ++ L) e1.symm (by rw [← e2]; exact X'.warmed.alike) hp hb k1 k2 k3 T' rfl X'
    exact ⟨t2, st t2 a1, b1⟩
  · obtain ⟨k1, k2, k3⟩ := vx_keep h0 e1 hS hAX hf hL hF
    obtain ⟨t2, a1, b1⟩ := kx E ce q u t T'.heap (locs ++ L) e1.symm (by rw [← e2]; exact X'.warmed.alike) hp hb k1 k2 k3 (by rw [e1]; exact hce) hcv hcl T' rfl X'
    exact ⟨t2, st.trans a1, b1⟩
theorem vx_callv {S SX : Type} {post : S → Prop} {px : SX → Prop} {B : S → State → Prop} {BX : String → SX → State → Prop} {AX : Nat → Prop} (hr : vx_Run p l e R s m args below meth c H locs cells slots mc ms (F0 m pc ls st0) rest (va_Qv post B A1 a) (vx_X px BX AX) free) (hS : va_S A0 H0 H locs) (hA : ∀ q, q < H.size → A1 q → A0 q) (hf : ∀ q, free q → A0 q) (hAX : ∀ q, q < H.size → AX q → A0 q)
    (kx : ∀ (E : String) (ce : Cell) (q9 : Addr) (u : SX) (t : State) (H1 : Heap) (locs1 : List Loc), t.heap = H1 → s.vm.Alike t.vm → px u → BX E u t → H.size ≤ H1.size → (∀ q : Nat, q < H.size → ¬ AX q → H1[q]? = H[q]?) → va_S A0 H0 H1 locs1 → H1[q9]? = some ce → ce.vm = .none → s.vm.findClass E = some ce.cls → vx_W p l e R s m args below meth c H1 locs1 (cells + mc) (slots + ms) Q (F0 m pc ls rest) q9)
    (kk : ∀ (u : S) (t : State) (H1 : Heap) (locs1 : List Loc), t.heap = H1 → s.vm.Alike t.vm → post u → B u t → H.size ≤ H1.size → (∀ q : Nat, q < H.size → ¬ A1 q → H1[q]? = H[q]?) → va_S A0 H0 H1 locs1 → W p l e R s m args below meth c H1 locs1 (cells + mc) (slots + ms) Q (F0 m (pc + 3) ls (rest))) : W p l e R s m args below meth c H locs cells slots Q (F0 m pc ls st0) := by
  intro T hT X
  rcases hr T hT X with ⟨v, st₀, t, T', L, h0, X', hL, e1, e2, ⟨⟨u, hv, hp, hb⟩, hF⟩, st⟩ | ⟨q, st₀, t, T', L, E, ce, h0, X', hL, e1, e2, ⟨u, hp, hb, hF⟩, hce, hcv, hcl, st⟩
  · cases hv
    obtain ⟨k1, k2, k3⟩ := vx_keep h0 e1 hS hA hf hL hF
    obtain ⟨t2, a1, b1⟩ := kk u t T'.heap (locs ++ L) e1.symm (by rw [← e2]; exact X'.warmed.alike) hp hb k1 k2 k3 T' rfl X'
    exact ⟨t2, st t2 a1, b1⟩
  · obtain ⟨k1, k2, k3⟩ := vx_keep h0 e1 hS hAX hf hL hF
    obtain ⟨t2, a1, b1⟩ := kx E ce q u t T'.heap (locs ++ L) e1.symm (by rw [← e2]; exact X'.warmed.alike) hp hb k1 k2 k3 (by rw [e1]; exact hce) hcv hcl T' rfl X'
    exact ⟨t2, st.trans a1, b1⟩
/-- caught by the row x of this method's table; the rows ahead don't take it -/
theorem vx_catch {own name : String} {E : String} {ce : Cell} {q : Addr} (hown : s.vm.findClass own = some m.cls) (pre : List ExceptionTableEntry) (x : ExceptionTableEntry) (suf : List ExceptionTableEntry) (hsplit : c.exceptionTable.toList = pre ++ x :: suf)
    (hpass : ∀ z ∈ pre, covers z pc = false ∨ (z.catchType ≠ 0 ∧ ∃ nm : String, (Cond.classLink own z.catchType nm).before args s = true ∧ va_Nc E nm s)) (hx : covers x pc = true) (h0 : x.catchType ≠ 0)
    (hlink : (Cond.classLink own x.catchType name).before args s = true) (hcast : (Cond.castable E name).before args s = true) (hcell : H[q]? = some ce) (hv : ce.vm = .none) (hcl : s.vm.findClass E = some ce.cls)
    (kk : W p l e R s m args below meth c H locs cells slots Q (F0 m x.handlerPc ls [.ref q])) : vx_W p l e R s m args below meth c H locs cells slots Q (F0 m pc ls rest) q := by
  intro T hT X
  have hpl : e.platform.magicAccessors = ({} : Platform).magicAccessors := by rw [X.admits.platform]
  obtain ⟨c3, c4, hc3, hc4, hasg⟩ := Cond.castable_spec hcast
  cases Option.some.inj (hc3.symm.trans hcl)
  obtain ⟨c5, hc5, hcl5⟩ := Cond.classLink_spec hown hlink e.platform hpl
  cases Option.some.inj (hc4.symm.trans hc5)
  obtain ⟨vm', X', st⟩ := X.thenCaughtThrough q (g := F0 m pc ls rest) rfl (Steps.refl _) (by rw [hT]; exact hcell) (by rw [hv]; rfl) (by obtain ⟨k9, h9, -⟩ := Vm.findClass_spec hcl; exact ⟨k9, h9⟩) pre x suf hsplit
    (fun z hz => by
      rcases hpass z hz with h | ⟨hz0, nm, hl1, hn1⟩
      · exact Or.inl h
      · obtain ⟨c6, hc6, hcl6⟩ := Cond.classLink_spec hown hl1 e.platform hpl
        obtain ⟨a8, b8, h1, h2, h3⟩ := hn1
        cases Option.some.inj (h1.symm.trans hcl)
        cases Option.some.inj (h2.symm.trans hc6)
        exact Or.inr ⟨hz0, _, hcl6, h3⟩) hx (Or.inr ⟨h0, c4, hcl5, hasg⟩)
  obtain ⟨t, a1, b1⟩ := kk (T.setVm vm') hT X'
  exact ⟨t, st.trans a1, b1⟩
end Rows
section Ends
variable {p : Program} {l : Launch} {e : Env} {R : Room} {s : State} {m : MethodId} {args : Array Value} {below : List Frame} {meth : Method} {c : Code} {H : Heap} {locs : List Loc} {cells slots : Nat} {Q : State → Prop}
variable {mc ms : Nat} {free : Addr → Prop} {A0 A1 : Nat → Prop} {H0 : Heap} {a : Array Value} {ls : Array Slot} {st0 rest : List Value}
variable {Qc : Array Value → State → Outcome → State → Prop} {XC : String → State → State → Prop}
/-- what a body that may throw owes at its end -/
def vx_MQ (below : List Frame) (Qc : Array Value → State → Outcome → State → Prop) (XC : String → State → State → Prop) (a : Array Value) (s : State) (mc ms : Nat) (free : Addr → Prop) : State → Prop := fun t =>
  ∃ o, t.status = .running ∧ Ended t below o ∧ vx_Q Qc XC mc ms free a s o t
theorem vx_ret {g : JFrame} {mc ms : Nat} (k : W p l e R s m args below meth c H locs cells slots (MQ below Qc args s mc ms free) g) : W p l e R s m args below meth c H locs cells slots (vx_MQ below Qc XC args s mc ms free) g := by
  intro T hT X
  obtain ⟨t, a1, o, b1, b2, b3, b4⟩ := k T hT X
  exact ⟨t, a1, o, b1, b2, Or.inl ⟨b3, b4⟩⟩
/-- not caught here: it goes on to the caller -/
theorem vx_widen {g : JFrame} {q : Addr} {k n : Nat} (h1 : cells ≤ k) (h2 : slots ≤ n) (kk : vx_W p l e R s m args below meth c H locs k n Q g q) : vx_W p l e R s m args below meth c H locs cells slots Q g q := fun T hT X => kk T hT (stand_widen X h1 h2)
theorem vx_out {pc : Nat} {E : String} {ce : Cell} {q : Addr} {mc ms : Nat} (hout : ∀ x ∈ c.exceptionTable.toList, covers x pc = false) (hlocks : meth.locks = false) (hcell : H[q]? = some ce) (hv : ce.vm = .none) (hcl : s.vm.findClass E = some ce.cls)
    (hx : ∀ t : State, t.heap = H → s.vm.Alike t.vm → XC E s t) (hf : ∀ z ∈ locs, free z.base) (hc : cells ≤ mc) (hs : slots ≤ ms) :
    vx_W p l e R s m args below meth c H locs cells slots (vx_MQ below Qc XC args s mc ms free) (F0 m pc ls rest) q := by
  intro T hT X
  obtain ⟨st1, hrun, hend, hW, hsm⟩ := X.leaveThrown q (g := F0 m pc ls rest) rfl rfl rfl hout hlocks
  have hcell9 : (T.setFrames (.throwing q :: below)).heap[q]? = some ce := by
    show T.heap[q]? = some ce
    rw [hT]; exact hcell
  exact ⟨_, st1, .threw q, hrun, hend, Or.inr ⟨q, rfl, E, ce, locs, hx _ hT hW.alike, hcell9, hv, hcl, hW, hsm.mono hc hs, hf⟩⟩
theorem vx_frame {U : State} {k n : Nat} (h : s.sameButNew ({ U with vm := s.vm } : State) locs k n) : s.heap.size ≤ U.heap.size ∧ ∀ q : Nat, q < s.heap.size → (∀ z ∈ locs, z.base ≠ q) → U.heap[q]? = s.heap[q]? := by
  obtain ⟨-, h2, -, -, -, h6⟩ := h
  refine ⟨h2, fun q hq hz => ?_⟩
  obtain ⟨c9, e1, e2, e3, e4⟩ := h6 q _ (Array.getElem?_eq_getElem hq)
  have hs : c9.slots = (s.heap[q]).slots := Array.ext_getElem? fun i => e4 i fun hm => hz _ hm rfl
  have h9 : c9 = s.heap[q] := by
    rw [hs] at e2
    exact e2
  have e5 : U.heap[q]? = some c9 := e1
  rw [e5, h9, Array.getElem?_eq_getElem hq]
/-- the words of a throw but the four that speak of the heap -/
def vx_no (w : Cond) : Bool := decide (w ≠ .isRef (.static Bundle.tN "UNASSIGNED_STACK" Bundle.steD)) && decide (w ≠ .isRef (.static Bundle.tN "SUPPRESSED_SENTINEL" Bundle.listD)) && decide (w ≠ .laysStatic Bundle.tN "UNASSIGNED_STACK" Bundle.steD) && decide (w ≠ .laysStatic Bundle.tN "SUPPRESSED_SENTINEL" Bundle.listD)
def vx_at0 (own : String) (ic : Nat) (X : String) (names : List String) : List Cond := (Bundle.ownAtoms0 own ic X names).filter vx_no
def vx_atS (own : String) (ic : Nat) (X : String) (names : List String) : List Cond := (Bundle.ownAtoms own ic X names).filter vx_no
/-- a word that the tables alone decide, or a good one -/
def vx_ot (w : Cond) : Bool := w.onTables || goodWord w
theorem vx_ot_at {args a' : Array Value} {s U : State} {w : Cond} (hW : s.WarmedH U.vm) (hvm : s.vm = U.vm) (hg : vx_ot w = true) (h : w.before args s = true) : w.before a' U = true := by
  simp only [vx_ot, Bool.or_eq_true] at hg
  rcases hg with hg | hg
  · exact va_tabs hg hvm h
  · exact word_at hW (good_of_word hg) h
/-- a list's words: the good ones out of the method's own list, the others by premises of their own -/
theorem vx_hat {args : Array Value} {s : State} {L B : List Cond} (h1 : ∀ w ∈ L.filter goodWord, w.before args s = true) (h2 : ∀ w ∈ L.filter (fun w => !goodWord w), w ∈ B) (h3 : ∀ w ∈ B, w.before args s = true) : ∀ w ∈ L, w.before args s = true := by
  intro w hw
  by_cases g : goodWord w = true
  · exact h1 w (List.mem_filter.mpr ⟨hw, g⟩)
  · refine h3 w (h2 w (List.mem_filter.mpr ⟨hw, ?_⟩))
    show (!goodWord w) = true
    cases hgw : goodWord w
    · rfl
    · exact absurd hgw g
theorem vx_c {args : Array Value} {s : State} {w : Cond} {B : List Cond} (h : w.before args s = true) (t : ∀ w ∈ B, w.before args s = true) : ∀ w' ∈ w :: B, w'.before args s = true := fun w' h' => (List.mem_cons.mp h').elim (fun e => by rw [e]; exact h) (t w')
theorem vx_n {args : Array Value} {s : State} : ∀ w ∈ ([] : List Cond), w.before args s = true := fun _ h => nomatch h
theorem vx_own {args : Array Value} {s : State} {L : List Cond} (h1 : ∀ w ∈ L.filter vx_no, w.before args s = true)
    (hU : (Cond.isRef (.static Bundle.tN "UNASSIGNED_STACK" Bundle.steD)).before args s = true) (hN : (Cond.isRef (.static Bundle.tN "SUPPRESSED_SENTINEL" Bundle.listD)).before args s = true)
    (lU : (Cond.laysStatic Bundle.tN "UNASSIGNED_STACK" Bundle.steD).before args s = true) (lN : (Cond.laysStatic Bundle.tN "SUPPRESSED_SENTINEL" Bundle.listD).before args s = true) : ∀ w ∈ L, w.before args s = true := by
  intro w hw
  by_cases e1 : w = .isRef (.static Bundle.tN "UNASSIGNED_STACK" Bundle.steD)
  · rw [e1]; exact hU
  · by_cases e2 : w = .isRef (.static Bundle.tN "SUPPRESSED_SENTINEL" Bundle.listD)
    · rw [e2]; exact hN
    · by_cases e3 : w = .laysStatic Bundle.tN "UNASSIGNED_STACK" Bundle.steD
      · rw [e3]; exact lU
      · by_cases e4 : w = .laysStatic Bundle.tN "SUPPRESSED_SENTINEL" Bundle.listD
        · rw [e4]; exact lN
        · exact h1 w (List.mem_filter.mpr ⟨hw, by unfold vx_no; rw [decide_eq_true e1, decide_eq_true e2, decide_eq_true e3, decide_eq_true e4]; rfl⟩)
/-- where a static field lies, its class's statics cell in H -/
def vx_L (C n d : String) (A : Nat → Prop) (U : State) (H : Heap) : Prop := ∃ (c : ClassId) (k : Class) (i : Nat) (f : Field) (a : Nat) (cell : Cell), U.vm.findClass C = some c ∧ U.fieldFound? C n d = some (c, k, i, f) ∧ f.isStatic = true ∧ k.statics = some a ∧ H[a]? = some cell ∧ cell.vm.isStatics = true ∧ cell.cls = c ∧ f.slot < cell.slots.size ∧ k.staticTypes[f.slot]? = some f.type ∧ ¬ A a
theorem vx_L.moved {C n d : String} {A : Nat → Prop} {u U : State} {H : Heap} (hvm : u.vm.Alike U.vm) (h : vx_L C n d A u H) : vx_L C n d A U H := by
  obtain ⟨c, k, i, f, a, cell, h1, h2, h3, h4, h5, h6, h7, h8, h9, h10⟩ := h
  obtain ⟨k', hi', he⟩ := State.fieldFound?_setVm hvm h2
  exact ⟨c, k', i, f, a, cell, by rw [hvm.findClass]; exact h1, hi', h3, by rw [he]; exact h4, h5, h6, h7, h8, by rw [he]; exact h9, h10⟩
theorem vx_L.kept {C n d : String} {A : Nat → Prop} {U : State} {H H1 : Heap} (h : vx_L C n d A U H) (hq : ∀ a : Nat, a < H.size → ¬ A a → H1[a]? = H[a]?) : vx_L C n d A U H1 := by
  obtain ⟨c, k, i, f, a, cell, h1, h2, h3, h4, h5, h6, h7, h8, h9, h10⟩ := h
  exact ⟨c, k, i, f, a, cell, h1, h2, h3, h4, by rw [hq a (Array.getElem?_eq_some_iff.mp h5).1 h10]; exact h5, h6, h7, h8, h9, h10⟩
theorem vx_L.narrow {C n d : String} {A B : Nat → Prop} {U : State} {H : Heap} (h : vx_L C n d A U H) (hAB : ∀ q, B q → A q) : vx_L C n d B U H := by
  obtain ⟨c, k, i, f, a, cell, h1, h2, h3, h4, h5, h6, h7, h8, h9, h10⟩ := h
  exact ⟨c, k, i, f, a, cell, h1, h2, h3, h4, h5, h6, h7, h8, h9, fun z => h10 (hAB _ z)⟩
theorem vx_L.word {C n d : String} {A : Nat → Prop} {s : State} {args : Array Value} (h : vx_L C n d A s s.heap) : (Cond.laysStatic C n d).before args s = true := by
  obtain ⟨c, k, i, f, a, cell, h1, h2, h3, h4, h5, h6, h7, h8, h9, -⟩ := h
  show (Cond.laysStatic C n d).holds args s none s [] = true
  exact Cond.laysStatic_of h1 h2 h3 h4 h5 h6 h7 h8 h9
/-- .. and what it holds: null or some reference -/
def vx_Zq (C n d : String) (A : Nat → Prop) (U : State) (H : Heap) : Prop := va_Zq C n d A U H ∧ vx_L C n d A U H
theorem vx_Zq.moved {C n d : String} {A : Nat → Prop} {u U : State} {H : Heap} (hvm : u.vm.Alike U.vm) (h : vx_Zq C n d A u H) : vx_Zq C n d A U H := ⟨va_Zq.moved hvm h.1, vx_L.moved hvm h.2⟩
theorem vx_Zq.kept {C n d : String} {A : Nat → Prop} {U : State} {H H1 : Heap} (h : vx_Zq C n d A U H) (hq : ∀ a : Nat, a < H.size → ¬ A a → H1[a]? = H[a]?) : vx_Zq C n d A U H1 := ⟨va_Zq.kept h.1 hq, vx_L.kept h.2 hq⟩
theorem vx_Zq.narrow {C n d : String} {A B : Nat → Prop} {U : State} {H : Heap} (h : vx_Zq C n d A U H) (hAB : ∀ q, B q → A q) : vx_Zq C n d B U H := ⟨va_Zq.narrow h.1 hAB, vx_L.narrow h.2 hAB⟩
theorem vx_Zqof {args : Array Value} {s : State} {C n d : String} {A : Nat → Prop} (hl : (Cond.laysStatic C n d).before args s = true) (hini : (Cond.initialized C).before args s = true) (h : (Cond.isRef (.static C n d)).before args s = true) (hA : ∀ a : Nat, a < s.heap.size → ¬ A a) : vx_Zq C n d A s s.heap := by
  refine ⟨va_Zqof hl hini h hA, ?_⟩
  obtain ⟨c, k, i, f, a, cell, h1, h2, h3, h4, h5, h6, h7, h8, h9⟩ := Cond.laysStatic_spec hl
  exact ⟨c, k, i, f, a, cell, h1, h2, h3, h4, h5, h6, h7, h8, h9, hA a (Array.getElem?_eq_some_iff.mp h5).1⟩
theorem vx_isRef {C n d : String} {v : Value} {A : Nat → Prop} {s : State} {args : Array Value} (h : va_Z C n d v A s s.heap) (hv : v.isRef = true) : (Cond.isRef (.static C n d)).before args s = true := by
  obtain ⟨cf, kf, fi, f, a, cell, h1, h2, h3, h4, h5, h6, h7, -⟩ := h
  have he : (Term.static C n d).eval args s none [] s = some v := by
    simp [Term.eval, State.fieldNamed?, h1, h2, h4, h5, h6, h7]
  simp only [Cond.before, Cond.holds, Cond.value, he]
  cases v <;> simp_all [Value.isRef]
theorem vx_isRefq {C n d : String} {A : Nat → Prop} {s : State} {args : Array Value} (h : va_Zq C n d A s s.heap) : (Cond.isRef (.static C n d)).before args s = true := by
  rcases h with h | ⟨t, h⟩
  · exact vx_isRef h rfl
  · exact vx_isRef h rfl
/-- the same frame, seen from here: as if the method were called anew in this heap -/
theorem vx_rebase {T : State} (X : Stand p l e R s m args below meth c T locs cells slots) {R' : Room} (hf : R'.frames ≤ R.frames) (hl : R'.locals ≤ R.locals) (hc : cells + R'.cells ≤ R.cells) (hs : slots + R'.slots ≤ R.slots) :
    Stand p l e R' ((T.setVm s.vm).setFrames (.invoking m args :: below)) m args below meth c T [] 0 0 := by
  have htop : (T.setVm s.vm).topJava?.isSome := X.here.top
  have hF : ((T.setVm s.vm).setFrames (.invoking m args :: below)).frames = .invoking m args :: below := State.frames_setFrames _ (State.cur_lt_of_top htop)
  obtain ⟨g₀, hg0⟩ := Option.isSome_iff_exists.mp htop
  obtain ⟨r, hr⟩ := State.topJava?_eq_some.mp hg0
  have hl9 : e.platform.stackLimits (T.setVm s.vm).me = e.platform.stackLimits s.me := X.limits
  have hb9 : (T.setVm s.vm).me.stackBytes = s.me.stackBytes := X.bytes
  refine ⟨X.admits, X.cas, X.clock, hF, ?_, X.hears, X.method, X.code, X.here, X.tail, X.warmed, ?_, ?_, ?_⟩
  · have h := X.room
    have hU : ((T.setVm s.vm).setFrames (.invoking m args :: below)).localsInUse = s.localsInUse := by
      rw [State.localsInUse_invoking hF (meth := meth) (c := c) X.method X.code, State.localsInUse_invoking X.frames X.method X.code]
    simp only [State.hasRoom, Bool.and_eq_true, decide_eq_true_eq] at h ⊢
    obtain ⟨⟨⟨⟨h1, h2, h3, h4, h5, h6⟩, h7⟩, h8⟩, h9⟩ := h
    rw [X.frames, List.length_cons] at h2 h3
    have q1 := X.heapSize
    have q2 := X.used
    simp only [hF, hU, List.length_cons, State.stackLimits_setFrames, State.stackBytes_setFrames, hl9, hb9]
    refine ⟨⟨⟨⟨by omega, by omega, by omega, by omega, by omega, h6⟩, ?_⟩, ?_⟩, X.book⟩
    · show T.heap.size + R'.cells ≤ e.platform.maxCells
      omega
    · show T.slotsUsed + R'.slots ≤ e.platform.maxSlots
      omega
  · rw [State.stackLimits_setFrames]; rfl
  · rw [State.stackBytes_setFrames]; rfl
  · refine ⟨?_, Nat.le_refl _, Nat.le_refl _, ?_, ?_, fun a c9 h9 => ⟨c9, h9, rfl, rfl, fun _ _ => rfl⟩⟩
    · obtain ⟨t, ht, -⟩ := State.frames_cons hr
      show T.setVm s.vm = { ((T.setVm s.vm).setFrames (.invoking m args :: below)).setFrames (T.setVm s.vm).frames with heap := T.heap, slotsUsed := T.slotsUsed }
      rw [State.setFrames_setFrames, State.setFrames_self ht]
      rfl
    · show T.slotsUsed = T.slotsUsed + ((T.heap.toList.drop T.heap.size).map (·.slots.size)).sum
      rw [List.drop_eq_nil_of_le (Nat.le_of_eq Array.length_toList)]
      rfl
    · show ((T.heap.toList.drop T.heap.size).map (·.slots.size)).sum ≤ 0
      rw [List.drop_eq_nil_of_le (Nat.le_of_eq Array.length_toList)]
      exact Nat.le_refl _
/-- 'throw new E()': new; dup; invokespecial; athrow -/
theorem vx_throw0 {cc : ByteArray} {pc : Nat} (hexec : p.tables.exec = Jvm.exec) (hb : c.code = cc) (hl : l.stackTraces = false) {own cls : String} {names : List String} {ik ic mc ms : Nat} {A : Nat → Prop}
    (hown : s.vm.findClass own = some m.cls) (hcls : Bundle.fit cls = true) (hnames : ∀ n ∈ names, Bundle.fit n = true)
    (hk : (Cond.classLink own ik cls).before args s = true) (hini : (Cond.initialized cls).before args s = true) (hat : ∀ w ∈ vx_at0 own ic cls names, w.before args s = true)
    (hgood : ∀ w ∈ Cond.classLink own ik cls :: Cond.initialized cls :: vx_at0 own ic cls names, vx_ot w = true)
    (hU : vx_Zq Bundle.tN "UNASSIGNED_STACK" Bundle.steD A s s.heap) (hN : vx_Zq Bundle.tN "SUPPRESSED_SENTINEL" Bundle.listD A s s.heap) (hS : va_S A s.heap H locs) (hsize : ls.size = c.maxLocals)
    (d0 : decode cc pc = .ok (.new ik, 3)) (d3 : decode cc (pc + 3) = .ok (.dup, 1)) (d4 : decode cc (pc + 4) = .ok (.invokespecial ic, 3)) (d7 : decode cc (pc + 7) = .ok (.athrow, 1))
    (hout : ∀ x ∈ c.exceptionTable.toList, covers x (pc + 7) = false)
    (hRframes : names.length + 3 < R.frames) (hRlocals : (rest.map fun v => v.category).sum + (13 * (names.length + 1) + 42) ≤ R.locals) (hRcells : cells + 1 ≤ R.cells) (hRslots : slots + 6 ≤ R.slots) (hlocks : meth.locks = false)
    (hx : ∀ t : State, s.vm.Alike t.vm → H.size ≤ t.heap.size → (∀ q : Nat, q < H.size → t.heap[q]? = H[q]?) → XC cls s t)
    (hf : ∀ z ∈ locs, free z.base) (hc : cells + 1 ≤ mc) (hs : slots + 6 ≤ ms) :
    W p l e R s m args below meth c H locs cells slots (vx_MQ below Qc XC args s mc ms free) (F0 m pc ls rest) := by
  intro T hT X
  have htr : e.platform.stackTraces = false := (show e.platform.stackTraces = l.stackTraces by rw [X.admits.platform]).trans hl
  have Y := vx_rebase X (R' := { frames := R.frames, locals := R.locals, cells := 1, slots := 6 }) (Nat.le_refl _) (Nat.le_refl _) hRcells hRslots
  obtain ⟨s', hA⟩ : ∃ z, z = (T.setVm s.vm).setFrames (.invoking m args :: below) := ⟨_, rfl⟩
  rw [← hA] at Y
  have hvm : s'.vm = s.vm := by rw [hA]; rfl
  have hhp : s'.heap = H := by rw [hA]; exact hT
  have hW0 : s.WarmedH s'.vm := by rw [hvm]; exact State.WarmedH.refl s
  have hat' : ∀ w ∈ vx_at0 own ic cls names, w.before args s' = true := fun w hw => vx_ot_at hW0 hvm.symm (hgood w (List.mem_cons_of_mem _ (List.mem_cons_of_mem _ hw))) (hat w hw)
  have hk' : (Cond.classLink own ik cls).before args s' = true := vx_ot_at hW0 hvm.symm (hgood _ List.mem_cons_self) hk
  have hini' : (Cond.initialized cls).before args s' = true := vx_ot_at hW0 hvm.symm (hgood _ (List.mem_cons_of_mem _ List.mem_cons_self)) hini
  have hU' : vx_Zq Bundle.tN "UNASSIGNED_STACK" Bundle.steD A s' s'.heap := by rw [hhp]; exact vx_Zq.moved hW0.alike (hU.kept hS.2.1)
  have hN' : vx_Zq Bundle.tN "SUPPRESSED_SENTINEL" Bundle.listD A s' s'.heap := by rw [hhp]; exact vx_Zq.moved hW0.alike (hN.kept hS.2.1)
  have h : ∀ w ∈ Bundle.ownAtoms0 own ic cls names, w.before args s' = true := vx_own hat' (vx_isRefq hU'.1) (vx_isRefq hN'.1) hU'.2.word hN'.2.word
  have hown' : s'.vm.findClass own = some m.cls := by rw [hvm]; exact hown
  have hins : (Cond.instantiable cls 6).before args s' = true := h _ (by simp [Bundle.ownAtoms0])
  obtain ⟨vm₁, cX, kX, hfX, hkX, -, -, X₁, st1⟩ := Y.newCold hexec (own := own) (C := cls) (index := ik) (n := 6) hown' hk' hins hini'
    (g := F0 m pc ls rest) rfl (by rw [hb]; exact d0) (Nat.le_refl _) (Nat.le_refl _)
  generalize hT1 : (T.setVm vm₁).pushCell { cls := cX, slots := kX.instanceTypes.map defaultValue, vm := .none } = T1 at X₁ st1
  have hcat : (Value.ref T.heap.size).category = 1 := rfl
  have hcellA : T1.heap[T.heap.size]? = some (freshCell cX kX) := by rw [← hT1]; exact State.heap_pushCell_size _ _
  have d3' : decode c.code (pc + 3) = .ok (.dup, 1) := by rw [hb]; exact d3
  obtain ⟨U, hsteps, hrun, hend, hW, hsame, ce, hce, hO⟩ := X₁.ctorThrow0 hexec htr (own := own) (cls := cls) (names := names) (ic := ic) hown' hcls hnames h (fun x hx => nomatch hx) hfX hkX hcellA (by rw [hhp, hT]; exact Nat.le_refl _)
    (g := { method := m, pc := pc + 4, locals := ls, stack := .ref T.heap.size :: .ref T.heap.size :: rest, locked := none }) rfl hsize rfl rfl (rest := rest) rfl
    (by rw [hb]; exact d4) (by rw [hb]; exact d7) hout hRframes (by simp only [List.map_cons, List.sum_cons, hcat]; omega) hlocks
  obtain ⟨f1, f2⟩ := vx_frame hsame
  rw [hhp] at f1 f2
  have hWs : s.WarmedH U.vm := State.WarmedH.trans hW0 hW
  have hcl : s.vm.findClass cls = some ce.cls := by
    have h9 := hO.cls
    rw [hvm] at h9
    exact h9
  have hall : s.sameButNew ({ U with vm := s.vm } : State) locs mc ms := by
    subst hA
    obtain ⟨e1, e2⟩ := hsame
    rw [State.setFrames_setFrames] at e1
    have h2 : (T.setVm s.vm).sameButNew ({ U with vm := s.vm } : State) [] (0 + 1) (0 + 6) := ⟨e1, e2⟩
    have h3 := X.same.trans h2
    rw [List.append_nil] at h3
    exact h3.mono hc hs
  refine ⟨U, ?_, .threw T.heap.size, hrun, hend, Or.inr ⟨T.heap.size, rfl, cls, ce, locs, hx U hWs.alike f1 (fun q hq => f2 q hq (fun z hz => nomatch hz)), hce, hO.vm, hcl, hWs, hall, hf⟩⟩
  refine st1 _ ?_
  show Steps p.tables e below (T1.setTop { method := m, pc := pc + 3, locals := ls, stack := .ref T.heap.size :: rest, locked := none }) _
  jvm_step X₁.here [X₁.here.top, hexec, d3', Value.category]
  exact hsteps
/-- 'throw new E("text")': new; dup; ldc; invokespecial; athrow -/
theorem vx_throwS {cc : ByteArray} {pc : Nat} (hexec : p.tables.exec = Jvm.exec) (hb : c.code = cc) (hl : l.stackTraces = false) {own cls text : String} {names : List String} {ik is ic mc ms sa : Nat} {A : Nat → Prop}
    (hown : s.vm.findClass own = some m.cls) (hcls : Bundle.fit cls = true) (hnames : ∀ n ∈ names, Bundle.fit n = true)
    (hk : (Cond.classLink own ik cls).before args s = true) (hini : (Cond.initialized cls).before args s = true) (hstr : vk_R own is text sa s) (hat : ∀ w ∈ vx_atS own ic cls names, w.before args s = true)
    (hgood : ∀ w ∈ Cond.classLink own ik cls :: Cond.initialized cls :: vx_atS own ic cls names, vx_ot w = true)
    (hU : vx_Zq Bundle.tN "UNASSIGNED_STACK" Bundle.steD A s s.heap) (hN : vx_Zq Bundle.tN "SUPPRESSED_SENTINEL" Bundle.listD A s s.heap) (hS : va_S A s.heap H locs) (hsize : ls.size = c.maxLocals)
    (d0 : decode cc pc = .ok (.new ik, 3)) (d3 : decode cc (pc + 3) = .ok (.dup, 1)) (d4 : decode cc (pc + 4) = .ok (.ldc is, 2)) (d6 : decode cc (pc + 6) = .ok (.invokespecial ic, 3)) (d9 : decode cc (pc + 9) = .ok (.athrow, 1))
    (hout : ∀ x ∈ c.exceptionTable.toList, covers x (pc + 9) = false)
    (hRframes : names.length + 3 < R.frames) (hRlocals : (rest.map fun v => v.category).sum + (13 * (names.length + 1) + 43) ≤ R.locals) (hRcells : cells + 1 ≤ R.cells) (hRslots : slots + 6 ≤ R.slots) (hlocks : meth.locks = false)
    (hx : ∀ t : State, s.vm.Alike t.vm → H.size ≤ t.heap.size → (∀ q : Nat, q < H.size → t.heap[q]? = H[q]?) → XC cls s t)
    (hf : ∀ z ∈ locs, free z.base) (hc : cells + 1 ≤ mc) (hs : slots + 6 ≤ ms) :
    W p l e R s m args below meth c H locs cells slots (vx_MQ below Qc XC args s mc ms free) (F0 m pc ls rest) := by
  intro T hT X
  have htr : e.platform.stackTraces = false := (show e.platform.stackTraces = l.stackTraces by rw [X.admits.platform]).trans hl
  have Y := vx_rebase X (R' := { frames := R.frames, locals := R.locals, cells := 1, slots := 6 }) (Nat.le_refl _) (Nat.le_refl _) hRcells hRslots
  obtain ⟨s', hA⟩ : ∃ z, z = (T.setVm s.vm).setFrames (.invoking m args :: below) := ⟨_, rfl⟩
  rw [← hA] at Y
  have hvm : s'.vm = s.vm := by rw [hA]; rfl
  have hhp : s'.heap = H := by rw [hA]; exact hT
  have hW0 : s.WarmedH s'.vm := by rw [hvm]; exact State.WarmedH.refl s
  have hat' : ∀ w ∈ vx_atS own ic cls names, w.before args s' = true := fun w hw => vx_ot_at hW0 hvm.symm (hgood w (List.mem_cons_of_mem _ (List.mem_cons_of_mem _ hw))) (hat w hw)
  have hk' : (Cond.classLink own ik cls).before args s' = true := vx_ot_at hW0 hvm.symm (hgood _ List.mem_cons_self) hk
  have hini' : (Cond.initialized cls).before args s' = true := vx_ot_at hW0 hvm.symm (hgood _ (List.mem_cons_of_mem _ List.mem_cons_self)) hini
  have hU' : vx_Zq Bundle.tN "UNASSIGNED_STACK" Bundle.steD A s' s'.heap := by rw [hhp]; exact vx_Zq.moved hW0.alike (hU.kept hS.2.1)
  have hN' : vx_Zq Bundle.tN "SUPPRESSED_SENTINEL" Bundle.listD A s' s'.heap := by rw [hhp]; exact vx_Zq.moved hW0.alike (hN.kept hS.2.1)
  have h : ∀ w ∈ Bundle.ownAtoms own ic cls names, w.before args s' = true := vx_own hat' (vx_isRefq hU'.1) (vx_isRefq hN'.1) hU'.2.word hN'.2.word
  have hown' : s'.vm.findClass own = some m.cls := by rw [hvm]; exact hown
  have hins : (Cond.instantiable cls 6).before args s' = true := h _ (by simp [Bundle.ownAtoms])
  obtain ⟨vm₁, cX, kX, hfX, hkX, -, -, X₁, st1⟩ := Y.newCold hexec (own := own) (C := cls) (index := ik) (n := 6) hown' hk' hins hini'
    (g := F0 m pc ls rest) rfl (by rw [hb]; exact d0) (Nat.le_refl _) (Nat.le_refl _)
  generalize hT1 : (T.setVm vm₁).pushCell { cls := cX, slots := kX.instanceTypes.map defaultValue, vm := .none } = T1 at X₁ st1
  have hcat : (Value.ref T.heap.size).category = 1 := rfl
  have hcellA : T1.heap[T.heap.size]? = some (freshCell cX kX) := by rw [← hT1]; exact State.heap_pushCell_size _ _
  have d3' : decode c.code (pc + 3) = .ok (.dup, 1) := by rw [hb]; exact d3
  have d4' : decode c.code (pc + 4) = .ok (.ldc is, 2) := by rw [hb]; exact d4
  have hstr' : vk_R own is text sa s' := vk_R.warm hW0 hstr
  obtain ⟨U, hsteps, hrun, hend, hW, hsame, ce, hce, hO⟩ := X₁.ctorThrowS hexec htr (own := own) (cls := cls) (names := names) (ic := ic) hown' hcls hnames h (fun x hx => nomatch hx) hfX hkX hcellA (by rw [hhp, hT]; exact Nat.le_refl _) (msg := .ref sa) rfl
    (g := { method := m, pc := pc + 6, locals := ls, stack := .ref sa :: .ref T.heap.size :: .ref T.heap.size :: rest, locked := none }) rfl hsize rfl rfl (rest := rest) rfl
    (by rw [hb]; exact d6) (by rw [hb]; exact d9) hout hRframes (by simp only [List.map_cons, List.sum_cons, hcat]; omega) hlocks
  obtain ⟨f1, f2⟩ := vx_frame hsame
  rw [hhp] at f1 f2
  have hWs : s.WarmedH U.vm := State.WarmedH.trans hW0 hW
  have hcl : s.vm.findClass cls = some ce.cls := by
    have h9 := hO.cls
    rw [hvm] at h9
    exact h9
  have hall : s.sameButNew ({ U with vm := s.vm } : State) locs mc ms := by
    subst hA
    obtain ⟨e1, e2⟩ := hsame
    rw [State.setFrames_setFrames] at e1
    have h2 : (T.setVm s.vm).sameButNew ({ U with vm := s.vm } : State) [] (0 + 1) (0 + 6) := ⟨e1, e2⟩
    have h3 := X.same.trans h2
    rw [List.append_nil] at h3
    exact h3.mono hc hs
  refine ⟨U, ?_, .threw T.heap.size, hrun, hend, Or.inr ⟨T.heap.size, rfl, cls, ce, locs, hx U hWs.alike f1 (fun q hq => f2 q hq (fun z hz => nomatch hz)), hce, hO.vm, hcl, hWs, hall, hf⟩⟩
  refine st1 _ ?_
  show Steps p.tables e below (T1.setTop { method := m, pc := pc + 3, locals := ls, stack := .ref T.heap.size :: rest, locked := none }) _
  jvm_step X₁.here [X₁.here.top, hexec, d3', Value.category]
  exact X₁.ldcString hexec (own := own) (text := text) (index := is) (a := sa) hown' hstr'.1 hstr'.2
    (g := { method := m, pc := pc + 4, locals := ls, stack := .ref T.heap.size :: .ref T.heap.size :: rest, locked := none }) rfl d4' _ hsteps
/-- 'throw new E("text")', the text by a wide index -/
theorem vx_throwSW {cc : ByteArray} {pc : Nat} (hexec : p.tables.exec = Jvm.exec) (hb : c.code = cc) (hl : l.stackTraces = false) {own cls text : String} {names : List String} {ik is ic mc ms sa : Nat} {A : Nat → Prop}
    (hown : s.vm.findClass own = some m.cls) (hcls : Bundle.fit cls = true) (hnames : ∀ n ∈ names, Bundle.fit n = true)
    (hk : (Cond.classLink own ik cls).before args s = true) (hini : (Cond.initialized cls).before args s = true) (hstr : vk_R own is text sa s) (hat : ∀ w ∈ vx_atS own ic cls names, w.before args s = true)
    (hgood : ∀ w ∈ Cond.classLink own ik cls :: Cond.initialized cls :: vx_atS own ic cls names, vx_ot w = true)
    (hU : vx_Zq Bundle.tN "UNASSIGNED_STACK" Bundle.steD A s s.heap) (hN : vx_Zq Bundle.tN "SUPPRESSED_SENTINEL" Bundle.listD A s s.heap) (hS : va_S A s.heap H locs) (hsize : ls.size = c.maxLocals)
    (d0 : decode cc pc = .ok (.new ik, 3)) (d3 : decode cc (pc + 3) = .ok (.dup, 1)) (d4 : decode cc (pc + 4) = .ok (.ldc_w is, 3)) (d7 : decode cc (pc + 7) = .ok (.invokespecial ic, 3)) (d10 : decode cc (pc + 10) = .ok (.athrow, 1))
    (hout : ∀ x ∈ c.exceptionTable.toList, covers x (pc + 10) = false)
    (hRframes : names.length + 3 < R.frames) (hRlocals : (rest.map fun v => v.category).sum + (13 * (names.length + 1) + 43) ≤ R.locals) (hRcells : cells + 1 ≤ R.cells) (hRslots : slots + 6 ≤ R.slots) (hlocks : meth.locks = false)
    (hx : ∀ t : State, s.vm.Alike t.vm → H.size ≤ t.heap.size → (∀ q : Nat, q < H.size → t.heap[q]? = H[q]?) → XC cls s t)
    (hf : ∀ z ∈ locs, free z.base) (hc : cells + 1 ≤ mc) (hs : slots + 6 ≤ ms) :
    W p l e R s m args below meth c H locs cells slots (vx_MQ below Qc XC args s mc ms free) (F0 m pc ls rest) := by
  intro T hT X
  have htr : e.platform.stackTraces = false := (show e.platform.stackTraces = l.stackTraces by rw [X.admits.platform]).trans hl
  have Y := vx_rebase X (R' := { frames := R.frames, locals := R.locals, cells := 1, slots := 6 }) (Nat.le_refl _) (Nat.le_refl _) hRcells hRslots
  obtain ⟨s', hA⟩ : ∃ z, z = (T.setVm s.vm).setFrames (.invoking m args :: below) := ⟨_, rfl⟩
  rw [← hA] at Y
  have hvm : s'.vm = s.vm := by rw [hA]; rfl
  have hhp : s'.heap = H := by rw [hA]; exact hT
  have hW0 : s.WarmedH s'.vm := by rw [hvm]; exact State.WarmedH.refl s
  have hat' : ∀ w ∈ vx_atS own ic cls names, w.before args s' = true := fun w hw => vx_ot_at hW0 hvm.symm (hgood w (List.mem_cons_of_mem _ (List.mem_cons_of_mem _ hw))) (hat w hw)
  have hk' : (Cond.classLink own ik cls).before args s' = true := vx_ot_at hW0 hvm.symm (hgood _ List.mem_cons_self) hk
  have hini' : (Cond.initialized cls).before args s' = true := vx_ot_at hW0 hvm.symm (hgood _ (List.mem_cons_of_mem _ List.mem_cons_self)) hini
  have hU' : vx_Zq Bundle.tN "UNASSIGNED_STACK" Bundle.steD A s' s'.heap := by rw [hhp]; exact vx_Zq.moved hW0.alike (hU.kept hS.2.1)
  have hN' : vx_Zq Bundle.tN "SUPPRESSED_SENTINEL" Bundle.listD A s' s'.heap := by rw [hhp]; exact vx_Zq.moved hW0.alike (hN.kept hS.2.1)
  have h : ∀ w ∈ Bundle.ownAtoms own ic cls names, w.before args s' = true := vx_own hat' (vx_isRefq hU'.1) (vx_isRefq hN'.1) hU'.2.word hN'.2.word
  have hown' : s'.vm.findClass own = some m.cls := by rw [hvm]; exact hown
  have hins : (Cond.instantiable cls 6).before args s' = true := h _ (by simp [Bundle.ownAtoms])
  obtain ⟨vm₁, cX, kX, hfX, hkX, -, -, X₁, st1⟩ := Y.newCold hexec (own := own) (C := cls) (index := ik) (n := 6) hown' hk' hins hini'
    (g := F0 m pc ls rest) rfl (by rw [hb]; exact d0) (Nat.le_refl _) (Nat.le_refl _)
  generalize hT1 : (T.setVm vm₁).pushCell { cls := cX, slots := kX.instanceTypes.map defaultValue, vm := .none } = T1 at X₁ st1
  have hcat : (Value.ref T.heap.size).category = 1 := rfl
  have hcellA : T1.heap[T.heap.size]? = some (freshCell cX kX) := by rw [← hT1]; exact State.heap_pushCell_size _ _
  have d3' : decode c.code (pc + 3) = .ok (.dup, 1) := by rw [hb]; exact d3
  have d4' : decode c.code (pc + 4) = .ok (.ldc_w is, 3) := by rw [hb]; exact d4
  have hstr' : vk_R own is text sa s' := vk_R.warm hW0 hstr
  obtain ⟨U, hsteps, hrun, hend, hW, hsame, ce, hce, hO⟩ := X₁.ctorThrowS hexec htr (own := own) (cls := cls) (names := names) (ic := ic) hown' hcls hnames h (fun x hx => nomatch hx) hfX hkX hcellA (by rw [hhp, hT]; exact Nat.le_refl _) (msg := .ref sa) rfl
    (g := { method := m, pc := pc + 7, locals := ls, stack := .ref sa :: .ref T.heap.size :: .ref T.heap.size :: rest, locked := none }) rfl hsize rfl rfl (rest := rest) rfl
    (by rw [hb]; exact d7) (by rw [hb]; exact d10) hout hRframes (by simp only [List.map_cons, List.sum_cons, hcat]; omega) hlocks
  obtain ⟨f1, f2⟩ := vx_frame hsame
  rw [hhp] at f1 f2
  have hWs : s.WarmedH U.vm := State.WarmedH.trans hW0 hW
  have hcl : s.vm.findClass cls = some ce.cls := by
    have h9 := hO.cls
    rw [hvm] at h9
    exact h9
  have hall : s.sameButNew ({ U with vm := s.vm } : State) locs mc ms := by
    subst hA
    obtain ⟨e1, e2⟩ := hsame
    rw [State.setFrames_setFrames] at e1
    have h2 : (T.setVm s.vm).sameButNew ({ U with vm := s.vm } : State) [] (0 + 1) (0 + 6) := ⟨e1, e2⟩
    have h3 := X.same.trans h2
    rw [List.append_nil] at h3
    exact h3.mono hc hs
  refine ⟨U, ?_, .threw T.heap.size, hrun, hend, Or.inr ⟨T.heap.size, rfl, cls, ce, locs, hx U hWs.alike f1 (fun q hq => f2 q hq (fun z hz => nomatch hz)), hce, hO.vm, hcl, hWs, hall, hf⟩⟩
  refine st1 _ ?_
  show Steps p.tables e below (T1.setTop { method := m, pc := pc + 3, locals := ls, stack := .ref T.heap.size :: rest, locked := none }) _
  jvm_step X₁.here [X₁.here.top, hexec, d3', Value.category]
  exact X₁.ldcStringW hexec (own := own) (text := text) (index := is) (a := sa) hown' hstr'.1 hstr'.2
    (g := { method := m, pc := pc + 4, locals := ls, stack := .ref T.heap.size :: .ref T.heap.size :: rest, locked := none }) rfl d4' _ hsteps
end Ends
section Bodies
variable {l : Launch}
theorem vx_ofW {y : MethodName} {ws ws' : List Cond} {rm : Room} {Pc : Array Value → State → Prop} {Qc : Array Value → State → Outcome → State → Prop} {XC : String → State → State → Prop} {mc ms : Nat} {free : Addr → Prop} {cc : ByteArray} {maxL : Nat} {ret : Option FieldType}
    (hy : plainName y.cls = true) (hw : ws = Cond.code y cc maxL ret :: ws')
    (body : ∀ p e s m args below meth c s₁, BodyLoose p l y (headSpec ws rm) cc maxL ret e s m args below meth c s₁ → c.maxLocals = maxL → (∀ x ∈ c.exceptionTable.toList, False) → Pc args s →
      W p l e (headSpec ws rm).room s m args below meth c s.heap [] 0 0 (vx_MQ below Qc XC args s mc ms free) (entryFrame m args maxL)) : vx_Met l y ws rm Pc Qc XC mc ms free := by
  refine MetFree.of_bodyS (code := cc) (maxLocals := maxL) (ret := ret) hy ?_ ?_
  · intro args s m h hn
    obtain ⟨meth, c, h1, h2, h3, h4, h5, h6, -, -⟩ := Cond.code_spec hn (atoms_spec (ws := ws) h _ (by rw [hw]; exact List.mem_cons_self))
    exact ⟨meth, c, h1, h2, h3, h4, h5, h6⟩
  · intro p e s m args below meth c s₁ B hml hP _
    have hh0 : s₁.heap = s.heap := by rw [B.state]; rfl
    have ht : ∀ x ∈ c.exceptionTable.toList, False := by
      obtain ⟨meth9, c9, h1, h2, -, -, -, -, h7, -⟩ := Cond.code_spec B.named (atoms_spec (ws := ws) B.pre _ (by rw [hw]; exact List.mem_cons_self))
      cases Option.some.inj (h1.symm.trans B.method)
      cases Option.some.inj (h2.symm.trans (Stand.of_body B).code)
      intro x hx
      rw [Array.isEmpty_iff.mp h7] at hx
      cases hx
    obtain ⟨t, a1, o, b1, b2, b3⟩ := body p e s m args below meth c s₁ B hml ht hP s₁ hh0 (Stand.of_body B)
    exact ⟨t, o, a1, b1, b2, b3⟩
/-- the table of a body with handlers -/
theorem vx_table {p : Program} {x y : MethodName} {S : Spec} {cc bytes : ByteArray} {maxL maxL' : Nat} {ret ret' : Option FieldType} {e : Env} {s s₁ : State} {m : MethodId} {args : Array Value} {below : List Frame} {meth : Method} {c : Code} {hh : List (Nat × Nat × Nat × Nat)}
    (B : BodyLoose p l y S cc maxL ret e s m args below meth c s₁) (h : (Cond.codeWith y bytes maxL' ret' hh).before args s = true) : c.exceptionTable.toList = tableOf hh := by
  obtain ⟨m9, meth9, c9, hn9, h1, h2, -, -, h6, -⟩ := Cond.codeWith_spec h
  cases Option.some.inj (hn9.symm.trans B.named)
  cases Option.some.inj (h1.symm.trans B.method)
  cases Option.some.inj (h2.symm.trans (Stand.of_body B).code)
  rw [← h6, table_eq]
end Bodies
end VXA
/-! ===== END ===== -/
/-! ===== BEGIN a static call of a method with an exception table ===== -/
section VXS
variable {p : Program} {l : Launch} {e : Env} {R : Room} {s : State} {m : MethodId} {args : Array Value} {below : List Frame} {meth : Method} {c : Code} {T : State} {H : Heap} {locs : List Loc} {cells slots : Nat}
abbrev vx_CSW (R : Room) (s : State) (args : Array Value) (own : String) (index : Nat) (y : MethodName) (bytes : ByteArray) (maxL : Nat) (ret : Option FieldType) (hh : List (Nat × Nat × Nat × Nat)) (ws : List Cond) (rm : Room) (mc ms n : Nat) : Prop :=
  (rm.cells = mc ∧ rm.slots = ms ∧ rm.frames + 1 ≤ R.frames ∧ 8 + (maxL + 11) + rm.locals ≤ R.locals ∧ (∀ w ∈ ws, ∀ (a' : Array Value) (U : State), s.WarmedH U.vm → w.before a' U = true) ∧ Cond.codeWith y bytes maxL ret hh ∈ ws) ∧
  (Cond.codeWith y bytes maxL ret hh).before args s = true ∧ (Cond.initialized y.cls).before args s = true ∧ (y.cls ≠ "java/lang/invoke/MethodHandle" ∧ y.cls ≠ "java/lang/invoke/VarHandle") ∧
  (∀ sig, parseMethodDescriptor y.desc = some sig → n = sig.parameters.length) ∧ (Cond.methodLink own index y).before args s = true ∧ (Cond.static y).before args s = true
theorem vx_cwSW {own : String} {index maxL mc ms : Nat} {y : MethodName} {bytes : ByteArray} {ret : Option FieldType} {hh : List (Nat × Nat × Nat × Nat)} {Ts ws ws' : List Cond} {rm : Room} (n : Nat) (ht : ∀ w ∈ Ts, w.before args s = true) (hT : GoodIn Ts (va_wsS own index y ws)) (hw : ws = Cond.codeWith y bytes maxL ret hh :: ws') (hrc : rm.cells = mc) (hrs : rm.slots = ms)
    (hd : y.cls ≠ "java/lang/invoke/MethodHandle" ∧ y.cls ≠ "java/lang/invoke/VarHandle" ∧ (parseMethodDescriptor y.desc).map (fun d => d.parameters.length) = some n) (hR : rm.frames + 1 ≤ R.frames ∧ 8 + (maxL + 11) + rm.locals ≤ R.locals) :
    vx_CSW R s args own index y bytes maxL ret hh ws rm mc ms n := by
  have ok : ∀ w ∈ va_wsS own index y ws, w.before args s = true := fun w h => ht w (hT w h).1
  have hG : GoodIn Ts ws := fun w h => hT w (by unfold va_wsS; exact List.mem_append_right _ h)
  have hc : Cond.codeWith y bytes maxL ret hh ∈ ws := by rw [hw]; exact List.mem_cons_self
  refine ⟨⟨hrc, hrs, hR.1, hR.2, pay_in ht hG, hc⟩, ht _ (hG _ hc).1, ok _ (by simp [va_wsS]), ⟨hd.1, hd.2.1⟩, fun sig h => ?_, ok _ (by simp [va_wsS]), ok _ (by simp [va_wsS])⟩
  have h2 := hd.2.2
  rw [h] at h2
  exact (Option.some.inj h2).symm
theorem vx_callSW (X : Stand p l e R s m args below meth c T locs cells slots) (hexec : p.tables.exec = Jvm.exec) {own : String} {index : Nat} {y : MethodName} {bytes : ByteArray} {maxL : Nat} {ret : Option FieldType} {hh : List (Nat × Nat × Nat × Nat)}
    (hown : s.vm.findClass own = some m.cls) (hlink : (Cond.methodLink own index y).before args s = true) (hstat : (Cond.static y).before args s = true) (hinit : (Cond.initialized y.cls).before args s = true)
    (hcode : (Cond.codeWith y bytes maxL ret hh).before args s = true) (hy : y.cls ≠ "java/lang/invoke/MethodHandle" ∧ y.cls ≠ "java/lang/invoke/VarHandle")
    {W9 : Nat} {Pre : Pt → Array Value → Prop} {Post : Pt → Array Value → Option Value → Pt → Prop} (hK : Back l R p e below s args y 3 W9 Pre Post)
    {g : JFrame} (hg : g.method = m) (hsize : g.locals.size = c.maxLocals) {argsL rest : List Value} (hlen : ∀ sig, parseMethodDescriptor y.desc = some sig → argsL.length = sig.parameters.length)
    (hstack : g.stack = argsL.reverse ++ rest) (hW : 2 * g.monitorRoom + (rest.map fun v => v.category).sum ≤ W9) (hdg : decode c.code g.pc = .ok (.invokestatic index, 3))
    (hpre : ∀ vm₁, s.WarmedH vm₁ → Pre ⟨T.setVm vm₁, locs, cells, slots⟩ argsL.toArray) :
    ∃ (v : Option Value) (vm₁ : Vm) (B : Pt), s.WarmedH vm₁ ∧ Stand p l e R s m args below meth c B.U B.locs B.cells B.slots ∧ Post ⟨T.setVm vm₁, locs, cells, slots⟩ argsL.toArray v B ∧
      ∀ target, Steps p.tables e below (B.U.setTop { g with pc := g.pc + 3, stack := v.toList ++ rest }) target → Steps p.tables e below (T.setTop g) target := by
  obtain ⟨mk, methM, cM, hnamed, hmethM, -, -, -, -, -, -, hsigM⟩ := Cond.codeWith_spec hcode
  have hstatic : methM.isStatic = true := Cond.static_spec hnamed hmethM hstat
  obtain ⟨kP, hkP, -⟩ := className_of_methodNamed hnamed
  have hinitP : kP.init = .initialized := Cond.initialized_spec (findClass_of_methodNamed hnamed) hkP hinit
  obtain ⟨vm₁, X₁, hstep₁⟩ := X.invokestatic hexec hown hlink hnamed hmethM hstatic hkP hinitP hy (g := g) hg (argsL := argsL) (rest := rest) (hlen _ hsigM) hstack hdg
  obtain ⟨v, B, X', hpost, hsteps⟩ := hK m meth c ⟨T.setVm vm₁, locs, cells, slots⟩ { g with stack := rest } (.invokestatic index) mk argsL.toArray X₁ hg hsize hdg hW (X₁.named hnamed) (hpre vm₁ X₁.warmed)
  exact ⟨v, vm₁, B, X₁.warmed, X', hpost, fun target h => hstep₁ _ fun acts => by rw [doInvoke_state]; exact hsteps.trans h⟩
theorem vx_runSW {y : MethodName} {bytes cc : ByteArray} {maxL nL mc ms n index : Nat} {ret : Option FieldType} {hh : List (Nat × Nat × Nat × Nat)} {ws : List Cond} {rm : Room} {Pc : Array Value → State → Prop} {Qc : Array Value → State → Outcome → State → Prop} {free : Addr → Prop} {Ts : List Cond} {own : String} {As rest : List Value} {g : JFrame}
    (S : CallFix p m c cc nL s args Ts own) (hM : Met l y ws rm Pc Qc mc ms free) (cw : vx_CSW R s args own index y bytes maxL ret hh ws rm mc ms n) (hp : PreS s H Pc As)
    (hg : g.method = m) (hn : As.length = n) (hsize : g.locals.size = nL) (hstack : g.stack = As.reverse ++ rest) (hW : 2 * g.monitorRoom + (rest.map fun v => v.category).sum ≤ 8) (hdg : decode cc g.pc = .ok (.invokestatic index, 3)) (hf : cells + mc ≤ R.cells ∧ slots + ms ≤ R.slots) :
    va_Run p l e R s m args below meth c H locs cells slots mc ms g rest (Qc As.toArray) (free) := by
  obtain ⟨⟨hrc, hrs, hfr, hlo, hws, hcw⟩, hcode, hini, hy, hlen, hl, hstt⟩ := cw
  have hK : Back l R p e below s args y 3 8 (PreOf R mc ms Pc) (PostOf Qc mc ms free) := va_backW (hh := hh) (bytes := bytes) (maxL := maxL) (ret := ret) hM hp.1 hrc hrs hfr hlo hws hcw (fun a' U hW => word_at hW (Or.inl (by first | rfl | simp [Cond.onTables, Cond.keeps, Cond.steady])) hini)
  obtain ⟨hx, hb, hml, ho, -⟩ := S
  intro T hT X
  obtain ⟨v, vm₁, ⟨U', l2, c2, s2⟩, hW₁, X', ⟨g', mk, t, L, e1, e2, hq, h1, hL, h2, h3⟩, st⟩ := vx_callSW X hx (hh := hh) (bytes := bytes) (maxL := maxL) (ret := ret) ho hl hstt hini hcode hy hK hg (hsize.trans hml.symm) (argsL := As) (rest := rest) (fun sig h => hn.trans (hlen sig h)) hstack hW (by rw [hb]; exact hdg)
    (fun vm₁ hW₁ => ⟨hf.1, hf.2, hp.2 (T.setVm vm₁) hT hW₁⟩)
  dsimp only [Pt.U, Pt.locs, Pt.cells, Pt.slots] at X' e1 e2 h1 h2 h3 st
  subst h1; subst h2; subst h3
  exact ⟨v, (T.setVm vm₁).calling g' mk As.toArray, t, U', L, hT, X', hL, e1, e2, hq, st⟩
/-- not caught here, past rows that name other classes: it goes on to the caller -/
theorem vx_outP {p : Program} {l : Launch} {e : Env} {R : Room} {s : State} {m : MethodId} {args : Array Value} {below : List Frame} {meth : Method} {c : Code} {H : Heap} {locs : List Loc} {cells slots : Nat} {free : Addr → Prop} {ls : Array Slot} {rest : List Value} {Qc : Array Value → State → Outcome → State → Prop} {XC : String → State → State → Prop}
    {pc : Nat} {own E : String} {ce : Cell} {q : Addr} {mc ms : Nat} (hown : s.vm.findClass own = some m.cls) (hlocks : meth.locks = false)
    (hpass : ∀ z ∈ c.exceptionTable.toList, covers z pc = false ∨ (z.catchType ≠ 0 ∧ ∃ nm : String, (Cond.classLink own z.catchType nm).before args s = true ∧ va_Nc E nm s)) (hcell : H[q]? = some ce) (hv : ce.vm = .none) (hcl : s.vm.findClass E = some ce.cls)
    (hx : ∀ t : State, t.heap = H → s.vm.Alike t.vm → XC E s t) (hf : ∀ z ∈ locs, free z.base) (hc : cells ≤ mc) (hs : slots ≤ ms) :
    vx_W p l e R s m args below meth c H locs cells slots (vx_MQ below Qc XC args s mc ms free) (F0 m pc ls rest) q := by
  intro T hT X
  have hpl : e.platform.magicAccessors = ({} : Platform).magicAccessors := by rw [X.admits.platform]
  obtain ⟨vm', hW', X', st⟩ := X.outThrough hlocks q (g := F0 m pc ls rest) rfl rfl rfl (cell := ce) (by rw [hT]; exact hcell) (by rw [hv]; rfl)
    (by obtain ⟨k9, h9, -⟩ := Vm.findClass_spec hcl; exact ⟨k9, h9⟩) (fun z hz => by
      rcases hpass z hz with h | ⟨hz0, nm, hl1, hn1⟩
      · exact Or.inl h
      · obtain ⟨c6, hc6, hcl6⟩ := Cond.classLink_spec hown hl1 e.platform hpl
        obtain ⟨a8, b8, h1, h2, h3⟩ := hn1
        cases Option.some.inj (h1.symm.trans hcl)
        cases Option.some.inj (h2.symm.trans hc6)
        exact Or.inr ⟨hz0, _, hcl6, h3⟩)
  obtain ⟨g₀, hfr⟩ := X'.frames_eq
  have hcell9 : ((T.setVm vm').setFrames (.throwing q :: below)).heap[q]? = some ce := by
    show T.heap[q]? = some ce
    rw [hT]; exact hcell
  have hend : Ended ((T.setVm vm').setFrames (.throwing q :: below)) below (.threw q) := State.frames_setFrames _ (State.cur_lt_of_frames hfr)
  refine ⟨(T.setVm vm').setFrames (.throwing q :: below), ?_, .threw q, X'.here.running, hend, Or.inr ⟨q, rfl, E, ce, locs, hx _ hT (X'.ends _).1.alike, hcell9, hv, hcl, (X'.ends _).1, (X'.ends _).2.mono hc hs, hf⟩⟩
  rw [X.pushThrowing_eq]
  exact st
/-- a thing of a world lies in the heap -/
theorem vx_lt {D : va_G} {cl : List vw_C} {ws : va_W} {H1 : Heap} (h : va_P D cl ws H1) {k : Nat} {q : Nat × va_E} (hk : ws[k]? = some q) : q.1 < H1.size := (h k q hk).lt
end VXS
/-! ===== END ===== -/
/-! ===== BEGIN methods with a table of their own: called by a name, returning or throwing ===== -/
section VXH
/-! vx_backW, vx_callVX, vx_callSX, vx_callVW, vx_runVW, vx_runVX, vx_runSX, vx_ofWH follow the same proofs as their sisters above (Free/Laws.lean, Shelf42/LK1.lean); vx_outP calls Shelf42/NT130.lean (outThrough). -/
section
variable {l : Launch} {R : Room} {p : Program} {e : Env} {below : List Frame} {s : State} {sargs : Array Value} {y : MethodName} {len W9 : Nat}
theorem vx_backW {ws : List Cond} {rm : Room} {Pc : Array Value → State → Prop} {Qc : Array Value → State → Outcome → State → Prop} {XC : String → State → State → Prop} {mc ms : Nat} {free : Addr → Prop} {bytes : ByteArray} {maxL : Nat} {ret : Option FieldType} {hh : List (Nat × Nat × Nat × Nat)}
    (hM : vx_Met l y ws rm Pc Qc XC mc ms free) (hblind : FrameBlind Pc) (hrc : rm.cells = mc) (hrs : rm.slots = ms)
    (hframes : rm.frames + 1 ≤ R.frames) (hlocals : W9 + (maxL + 11) + rm.locals ≤ R.locals)
    (hws : ∀ w ∈ ws, ∀ a' U, s.WarmedH U.vm → w.before a' U = true) (hcode : Cond.codeWith y bytes maxL ret hh ∈ ws) (hinit : ∀ a' U, s.WarmedH U.vm → (Cond.initialized y.cls).before a' U = true) :
    vx_Back l R p e below s sargs y len W9 (PreOf R mc ms Pc) (PostOf Qc mc ms free) (vx_Post XC mc ms free) := by
  intro m meth c A g ig mk a X hg hsize hdg hW hn hp
  have h1 : (headSpec ws rm).pre.before a A.U = true := atoms_intro fun w hw => hws w hw _ _ X.warmed
  have h2 : (Cond.codeWith y bytes maxL ret hh).before a A.U = true := hws _ hcode _ _ X.warmed
  have h3 : (Cond.initialized y.cls).before a A.U = true := hinit _ _ X.warmed
  have h4 : A.cells + (headSpec ws rm).room.cells ≤ R.cells := by rw [show (headSpec ws rm).room.cells = mc from hrc]; exact hp.1
  have h5 : A.slots + (headSpec ws rm).room.slots ≤ R.slots := by rw [show (headSpec ws rm).room.slots = ms from hrs]; exact hp.2.1
  have hPc : Pc a (A.U.calling g mk a) := hblind _ _ _ _ hp.2.2
  obtain ⟨U, Ls, c0, s0⟩ := A
  dsimp only [Pt.U, Pt.locs, Pt.cells, Pt.slots] at h1 h2 h3 h4 h5 X hn hPc ⊢
  obtain ⟨m9, methY, cY, hn9, hmY, hcY, -, hlY, -⟩ := Cond.codeWith_spec h2
  cases Option.some.inj (hn9.symm.trans hn)
  obtain ⟨kY, hkY, -⟩ := className_of_methodNamed hn
  have hinitY : kY.init = .initialized := Cond.initialized_spec (findClass_of_methodNamed hn) hkY h3
  have h : At U g.method c below := by rw [hg]; exact X.here
  have hlocals9 : W9 + (maxL + 11) + (headSpec ws rm).room.locals ≤ R.locals := hlocals
  have happ : (headSpec ws rm).appliesLoose y e.platform (U.calling g mk a) = true :=
    Spec.appliesLoose_calling (g := g) h hdg hn hkY hinitY
      (X.room_calling (g := g) (R' := (headSpec ws rm).room) hsize hmY hcY hframes (by rw [hlY]; omega) h4 h5) h1
  obtain ⟨mid, hmid⟩ := h.above
  have hfr : (U.setTop g).frames = (.java g :: mid) ++ below := by rw [State.frames_setTop' g h.top, hmid]; rfl
  obtain ⟨o, s₂, hsteps, -, hend, hq⟩ := Steps.callFree hM p X.admits X.cas X.clock (acts := []) hfr happ hPc trivial
  have hq' : vx_Q Qc XC mc ms free a (U.calling g mk a) o s₂ := hq
  rw [State.frames_setTop' g h.top] at hend
  obtain ⟨g₀, hg0⟩ := Option.isSome_iff_exists.mp h.top
  obtain ⟨r, hr⟩ := State.topJava?_eq_some.mp hg0
  have hr' : (({ U with heap := s₂.heap, slotsUsed := s₂.slotsUsed } : State).setVm s₂.vm).frames = .java g₀ :: r := hr
  rcases hq' with ⟨hqc, L, hfe, hL⟩ | ⟨q, rfl, E, ce, L, hx, hce, hcv, hcl, hW₂, hsm, hL⟩
  · obtain ⟨⟨v, rfl⟩, hW₂, e2, q2, q3, q4, q5, q6⟩ := id hfe
    have e3 : s₂ = ({ (U.calling g mk a).setFrames s₂.frames with heap := s₂.heap, slotsUsed := s₂.slotsUsed } : State).setVm s₂.vm := by
      have : s₂ = ({ s₂ with vm := (U.calling g mk a).vm } : State).setVm s₂.vm := rfl
      rw [e2] at this
      exact this
    obtain ⟨c₂, i₂, len₂, hc₂, hd₂, hf₂⟩ := hend
    have hW' : U.WarmedH s₂.vm := hW₂
    have hcc : c₂ = c := by
      have h1 : s₂.code? g.method = U.code? g.method := by
        rw [State.code?_eq, State.code?_eq, hW'.alike.method?]
      exact Option.some.inj (hc₂.symm.trans (h1.trans h.code))
    subst hcc
    have hlen : len₂ = len := by rw [hdg] at hd₂; cases hd₂; rfl
    subst hlen
    have hs₂ : s₂ = (({ U with heap := s₂.heap, slotsUsed := s₂.slotsUsed } : State).setVm s₂.vm).setTop { g with pc := g.pc + len₂, stack := v.toList ++ g.stack } := by
      refine e3.trans ?_
      rw [hf₂, State.calling_eq h.top, State.setFrames_setFrames, State.setTop_of_frames _ hr', hr]
      rfl
    have hsame : U.sameButNew ({ U with heap := s₂.heap, slotsUsed := s₂.slotsUsed } : State) L mc ms := by
      refine ⟨?_, q2, q3, q4, q5, q6⟩
      obtain ⟨t, ht, -⟩ := State.frames_cons hr
      show ({ U with heap := s₂.heap, slotsUsed := s₂.slotsUsed } : State) = { U.setFrames U.frames with heap := s₂.heap, slotsUsed := s₂.slotsUsed }
      rw [State.setFrames_self ht]
    subst hg
    refine Or.inl ⟨v, ⟨(({ U with heap := s₂.heap, slotsUsed := s₂.slotsUsed } : State).setVm s₂.vm), Ls ++ L, c0 + mc, s0 + ms⟩,
      ⟨X.admits, X.cas, X.clock, X.frames, X.room, X.hears, X.method, X.code, (X.here.setHeapUsed s₂.heap s₂.slotsUsed).setVm hW'.alike, X.tail, State.WarmedH.trans X.warmed hW', X.limits, X.bytes, X.same.trans (hsame.setVm s.vm)⟩,
      ⟨g, mk, s₂, L, rfl, rfl, hqc, rfl, hL, rfl, rfl⟩, ?_⟩
    show Steps p.tables e below _ ((({ U with heap := s₂.heap, slotsUsed := s₂.slotsUsed } : State).setVm s₂.vm).setTop { g with pc := g.pc + len₂, stack := v.toList ++ g.stack })
    rw [← hs₂]
    exact hsteps
  · obtain ⟨e2, q2, q3, q4, q5, q6⟩ := id hsm
    have e3 : s₂ = ({ (U.calling g mk a).setFrames s₂.frames with heap := s₂.heap, slotsUsed := s₂.slotsUsed } : State).setVm s₂.vm := by
      have : s₂ = ({ s₂ with vm := (U.calling g mk a).vm } : State).setVm s₂.vm := rfl
      rw [e2] at this
      exact this
    have hf₂ : s₂.frames = .throwing q :: .java g :: U.frames.tail := hend
    have hW' : U.WarmedH s₂.vm := hW₂
    have hs₂ : s₂ = ((({ U with heap := s₂.heap, slotsUsed := s₂.slotsUsed } : State).setVm s₂.vm).setTop g).pushFrame (.throwing q) := by
      refine e3.trans ?_
      rw [hf₂, State.calling_eq h.top, State.setFrames_setFrames, State.pushFrame, State.frames_setTop _ hr', State.setTop_of_frames _ hr', State.setFrames_setFrames, hr]
      rfl
    have hsame : U.sameButNew ({ U with heap := s₂.heap, slotsUsed := s₂.slotsUsed } : State) L mc ms := by
      refine ⟨?_, q2, q3, q4, q5, q6⟩
      obtain ⟨t, ht, -⟩ := State.frames_cons hr
      show ({ U with heap := s₂.heap, slotsUsed := s₂.slotsUsed } : State) = { U.setFrames U.frames with heap := s₂.heap, slotsUsed := s₂.slotsUsed }
      rw [State.setFrames_self ht]
    subst hg
    refine Or.inr ⟨q, ⟨(({ U with heap := s₂.heap, slotsUsed := s₂.slotsUsed } : State).setVm s₂.vm), Ls ++ L, c0 + mc, s0 + ms⟩,
      ⟨X.admits, X.cas, X.clock, X.frames, X.room, X.hears, X.method, X.code, (X.here.setHeapUsed s₂.heap s₂.slotsUsed).setVm hW'.alike, X.tail, State.WarmedH.trans X.warmed hW', X.limits, X.bytes, X.same.trans (hsame.setVm s.vm)⟩,
      ⟨g, mk, s₂, L, E, ce, rfl, rfl, hx, hce, hcv, hcl, rfl, hL, rfl, rfl⟩, ?_⟩
    show Steps p.tables e below _ (((({ U with heap := s₂.heap, slotsUsed := s₂.slotsUsed } : State).setVm s₂.vm).setTop g).pushFrame (.throwing q))
    rw [← hs₂]
    exact hsteps
end
variable {p : Program} {l : Launch} {e : Env} {R : Room} {s : State} {m : MethodId} {args : Array Value} {below : List Frame} {meth : Method} {c : Code} {T : State} {H : Heap} {locs : List Loc} {cells slots : Nat}
theorem vx_callVX (X : Stand p l e R s m args below meth c T locs cells slots) (hexec : p.tables.exec = Jvm.exec) {own C : String} {index : Nat} {y : MethodName} {bytes : ByteArray} {maxL : Nat} {ret : Option FieldType} {hh : List (Nat × Nat × Nat × Nat)}
    (hown : s.vm.findClass own = some m.cls) (hlink : (Cond.methodLink own index y).before args s = true) (hinst : (Cond.instanceMethod y).before args s = true) (hsel : (Cond.selects C y y).before args s = true)
    (hcode : (Cond.codeWith y bytes maxL ret hh).before args s = true) (hy : y.cls ≠ "java/lang/invoke/MethodHandle" ∧ y.cls ≠ "java/lang/invoke/VarHandle")
    {W9 : Nat} {Pre : Pt → Array Value → Prop} {Post : Pt → Array Value → Option Value → Pt → Prop} {PostX : Pt → Array Value → Addr → Pt → Prop} (hK : vx_Back l R p e below s args y 3 W9 Pre Post PostX)
    {b : Addr} {cellB : Cell} (hcell : T.heap[b]? = some cellB) (hobj : cellB.vm.isStatics = false) (hcls : s.vm.findClass C = some cellB.cls)
    {g : JFrame} (hg : g.method = m) (hsize : g.locals.size = c.maxLocals) {argsL rest : List Value} (hlen : ∀ sig, parseMethodDescriptor y.desc = some sig → argsL.length = sig.parameters.length)
    (hstack : g.stack = argsL.reverse ++ .ref b :: rest) (hW : 2 * g.monitorRoom + (rest.map fun v => v.category).sum ≤ W9) (hdg : decode c.code g.pc = .ok (.invokevirtual index, 3))
    (hpre : ∀ vm₁, s.WarmedH vm₁ → Pre ⟨T.setVm vm₁, locs, cells, slots⟩ (Value.ref b :: argsL).toArray) :
    (∃ (v : Option Value) (vm₁ : Vm) (B : Pt), s.WarmedH vm₁ ∧ Stand p l e R s m args below meth c B.U B.locs B.cells B.slots ∧ Post ⟨T.setVm vm₁, locs, cells, slots⟩ (Value.ref b :: argsL).toArray v B ∧
      ∀ target, Steps p.tables e below (B.U.setTop { g with pc := g.pc + 3, stack := v.toList ++ rest }) target → Steps p.tables e below (T.setTop g) target) ∨
    (∃ (q : Addr) (vm₁ : Vm) (B : Pt), s.WarmedH vm₁ ∧ Stand p l e R s m args below meth c B.U B.locs B.cells B.slots ∧ PostX ⟨T.setVm vm₁, locs, cells, slots⟩ (Value.ref b :: argsL).toArray q B ∧
      Steps p.tables e below (T.setTop g) ((B.U.setTop { g with stack := rest }).pushFrame (.throwing q))) := by
  obtain ⟨mk, methM, hnamed, hmethM, hstM, habM⟩ := Cond.instanceMethod_spec hinst
  obtain ⟨m8, methM', cM, hn8, hmethM', -, -, -, -, -, -, hsigM⟩ := Cond.codeWith_spec hcode
  cases Option.some.inj (hn8.symm.trans hnamed)
  cases hmethM.symm.trans hmethM'
  obtain ⟨c2, r2, m2, q1, q2, q3, q4, kP, hkP, hkPi⟩ := Cond.selects_spec hsel
  cases hcls.symm.trans q1
  cases (State.methodFound?_of_named hnamed hy).symm.trans q2
  cases hnamed.symm.trans q3
  have hselP : selectMethod e.platform s.vm cellB.cls mk = .method mk := by rw [Launch.admits_selectMethod X.admits]; exact q4
  obtain ⟨vm₁, X₁, hstep₁⟩ := X.invokevirtual hexec hown hlink hnamed hmethM hstM hkP hkPi hy (a := b) (cell := cellB) hcell
    (fun z h => by rw [h] at hobj; cases hobj) hselP hmethM habM hkP hkPi (g := g) hg (argsL := argsL) (rest := rest) (hlen _ hsigM) hstack hdg
  rcases hK m meth c ⟨T.setVm vm₁, locs, cells, slots⟩ { g with stack := rest } (.invokevirtual index) mk (Value.ref b :: argsL).toArray X₁ hg hsize hdg hW (X₁.named hnamed) (hpre vm₁ X₁.warmed) with ⟨v, B, X', hpost, hsteps⟩ | ⟨q, B, X', hpost, hsteps⟩
  · exact Or.inl ⟨v, vm₁, B, X₁.warmed, X', hpost, fun target h => hstep₁ _ fun acts => by rw [doInvoke_state]; exact hsteps.trans h⟩
  · exact Or.inr ⟨q, vm₁, B, X₁.warmed, X', hpost, hstep₁ _ fun acts => by rw [doInvoke_state]; exact hsteps⟩
theorem vx_callSX (X : Stand p l e R s m args below meth c T locs cells slots) (hexec : p.tables.exec = Jvm.exec) {own : String} {index : Nat} {y : MethodName} {bytes : ByteArray} {maxL : Nat} {ret : Option FieldType} {hh : List (Nat × Nat × Nat × Nat)}
    (hown : s.vm.findClass own = some m.cls) (hlink : (Cond.methodLink own index y).before args s = true) (hstat : (Cond.static y).before args s = true) (hinit : (Cond.initialized y.cls).before args s = true)
    (hcode : (Cond.codeWith y bytes maxL ret hh).before args s = true) (hy : y.cls ≠ "java/lang/invoke/MethodHandle" ∧ y.cls ≠ "java/lang/invoke/VarHandle")
    {W9 : Nat} {Pre : Pt → Array Value → Prop} {Post : Pt → Array Value → Option Value → Pt → Prop} {PostX : Pt → Array Value → Addr → Pt → Prop} (hK : vx_Back l R p e below s args y 3 W9 Pre Post PostX)
    {g : JFrame} (hg : g.method = m) (hsize : g.locals.size = c.maxLocals) {argsL rest : List Value} (hlen : ∀ sig, parseMethodDescriptor y.desc = some sig → argsL.length = sig.parameters.length)
    (hstack : g.stack = argsL.reverse ++ rest) (hW : 2 * g.monitorRoom + (rest.map fun v => v.category).sum ≤ W9) (hdg : decode c.code g.pc = .ok (.invokestatic index, 3))
    (hpre : ∀ vm₁, s.WarmedH vm₁ → Pre ⟨T.setVm vm₁, locs, cells, slots⟩ argsL.toArray) :
    (∃ (v : Option Value) (vm₁ : Vm) (B : Pt), s.WarmedH vm₁ ∧ Stand p l e R s m args below meth c B.U B.locs B.cells B.slots ∧ Post ⟨T.setVm vm₁, locs, cells, slots⟩ argsL.toArray v B ∧
      ∀ target, Steps p.tables e below (B.U.setTop { g with pc := g.pc + 3, stack := v.toList ++ rest }) target → Steps p.tables e below (T.setTop g) target) ∨
    (∃ (q : Addr) (vm₁ : Vm) (B : Pt), s.WarmedH vm₁ ∧ Stand p l e R s m args below meth c B.U B.locs B.cells B.slots ∧ PostX ⟨T.setVm vm₁, locs, cells, slots⟩ argsL.toArray q B ∧
      Steps p.tables e below (T.setTop g) ((B.U.setTop { g with stack := rest }).pushFrame (.throwing q))) := by
  obtain ⟨mk, methM, cM, hnamed, hmethM, -, -, -, -, -, -, hsigM⟩ := Cond.codeWith_spec hcode
  have hstatic : methM.isStatic = true := Cond.static_spec hnamed hmethM hstat
  obtain ⟨kP, hkP, -⟩ := className_of_methodNamed hnamed
  have hinitP : kP.init = .initialized := Cond.initialized_spec (findClass_of_methodNamed hnamed) hkP hinit
  obtain ⟨vm₁, X₁, hstep₁⟩ := X.invokestatic hexec hown hlink hnamed hmethM hstatic hkP hinitP hy (g := g) hg (argsL := argsL) (rest := rest) (hlen _ hsigM) hstack hdg
  rcases hK m meth c ⟨T.setVm vm₁, locs, cells, slots⟩ { g with stack := rest } (.invokestatic index) mk argsL.toArray X₁ hg hsize hdg hW (X₁.named hnamed) (hpre vm₁ X₁.warmed) with ⟨v, B, X', hpost, hsteps⟩ | ⟨q, B, X', hpost, hsteps⟩
  · exact Or.inl ⟨v, vm₁, B, X₁.warmed, X', hpost, fun target h => hstep₁ _ fun acts => by rw [doInvoke_state]; exact hsteps.trans h⟩
  · exact Or.inr ⟨q, vm₁, B, X₁.warmed, X', hpost, hstep₁ _ fun acts => by rw [doInvoke_state]; exact hsteps⟩
theorem vx_callVW (X : Stand p l e R s m args below meth c T locs cells slots) (hexec : p.tables.exec = Jvm.exec) {own C : String} {index : Nat} {y : MethodName} {bytes : ByteArray} {maxL : Nat} {ret : Option FieldType} {hh : List (Nat × Nat × Nat × Nat)}
    (hown : s.vm.findClass own = some m.cls) (hlink : (Cond.methodLink own index y).before args s = true) (hinst : (Cond.instanceMethod y).before args s = true) (hsel : (Cond.selects C y y).before args s = true)
    (hcode : (Cond.codeWith y bytes maxL ret hh).before args s = true) (hy : y.cls ≠ "java/lang/invoke/MethodHandle" ∧ y.cls ≠ "java/lang/invoke/VarHandle")
    {W9 : Nat} {Pre : Pt → Array Value → Prop} {Post : Pt → Array Value → Option Value → Pt → Prop} (hK : Back l R p e below s args y 3 W9 Pre Post)
    {b : Addr} {cellB : Cell} (hcell : T.heap[b]? = some cellB) (hobj : cellB.vm.isStatics = false) (hcls : s.vm.findClass C = some cellB.cls)
    {g : JFrame} (hg : g.method = m) (hsize : g.locals.size = c.maxLocals) {argsL rest : List Value} (hlen : ∀ sig, parseMethodDescriptor y.desc = some sig → argsL.length = sig.parameters.length)
    (hstack : g.stack = argsL.reverse ++ .ref b :: rest) (hW : 2 * g.monitorRoom + (rest.map fun v => v.category).sum ≤ W9) (hdg : decode c.code g.pc = .ok (.invokevirtual index, 3))
    (hpre : ∀ vm₁, s.WarmedH vm₁ → Pre ⟨T.setVm vm₁, locs, cells, slots⟩ (Value.ref b :: argsL).toArray) :
    ∃ (v : Option Value) (vm₁ : Vm) (B : Pt), s.WarmedH vm₁ ∧ Stand p l e R s m args below meth c B.U B.locs B.cells B.slots ∧ Post ⟨T.setVm vm₁, locs, cells, slots⟩ (Value.ref b :: argsL).toArray v B ∧
      ∀ target, Steps p.tables e below (B.U.setTop { g with pc := g.pc + 3, stack := v.toList ++ rest }) target → Steps p.tables e below (T.setTop g) target := by
  obtain ⟨mk, methM, hnamed, hmethM, hstM, habM⟩ := Cond.instanceMethod_spec hinst
  obtain ⟨m8, methM', cM, hn8, hmethM', -, -, -, -, -, -, hsigM⟩ := Cond.codeWith_spec hcode
  cases Option.some.inj (hn8.symm.trans hnamed)
  cases hmethM.symm.trans hmethM'
  obtain ⟨c2, r2, m2, q1, q2, q3, q4, kP, hkP, hkPi⟩ := Cond.selects_spec hsel
  cases hcls.symm.trans q1
  cases (State.methodFound?_of_named hnamed hy).symm.trans q2
  cases hnamed.symm.trans q3
  have hselP : selectMethod e.platform s.vm cellB.cls mk = .method mk := by rw [Launch.admits_selectMethod X.admits]; exact q4
  obtain ⟨vm₁, X₁, hstep₁⟩ := X.invokevirtual hexec hown hlink hnamed hmethM hstM hkP hkPi hy (a := b) (cell := cellB) hcell
    (fun z h => by rw [h] at hobj; cases hobj) hselP hmethM habM hkP hkPi (g := g) hg (argsL := argsL) (rest := rest) (hlen _ hsigM) hstack hdg
  obtain ⟨v, B, X', hpost, hsteps⟩ := hK m meth c ⟨T.setVm vm₁, locs, cells, slots⟩ { g with stack := rest } (.invokevirtual index) mk (Value.ref b :: argsL).toArray X₁ hg hsize hdg hW (X₁.named hnamed) (hpre vm₁ X₁.warmed)
  exact ⟨v, vm₁, B, X₁.warmed, X', hpost, fun target h => hstep₁ _ fun acts => by rw [doInvoke_state]; exact hsteps.trans h⟩
abbrev vx_CVW (R : Room) (s : State) (args : Array Value) (own C : String) (index : Nat) (y : MethodName) (bytes : ByteArray) (maxL : Nat) (ret : Option FieldType) (hh : List (Nat × Nat × Nat × Nat)) (ws : List Cond) (rm : Room) (mc ms n : Nat) : Prop :=
  (rm.cells = mc ∧ rm.slots = ms ∧ rm.frames + 1 ≤ R.frames ∧ 8 + (maxL + 11) + rm.locals ≤ R.locals ∧ (∀ w ∈ ws, ∀ (a' : Array Value) (U : State), s.WarmedH U.vm → w.before a' U = true) ∧ Cond.codeWith y bytes maxL ret hh ∈ ws) ∧
  (Cond.codeWith y bytes maxL ret hh).before args s = true ∧ (Cond.initialized y.cls).before args s = true ∧ (y.cls ≠ "java/lang/invoke/MethodHandle" ∧ y.cls ≠ "java/lang/invoke/VarHandle") ∧
  (∀ sig, parseMethodDescriptor y.desc = some sig → n = sig.parameters.length) ∧ (Cond.methodLink own index y).before args s = true ∧ (Cond.instanceMethod y).before args s = true ∧ (Cond.selects C y y).before args s = true
theorem vx_cwVW {own C : String} {index maxL mc ms : Nat} {y : MethodName} {bytes : ByteArray} {ret : Option FieldType} {hh : List (Nat × Nat × Nat × Nat)} {Ts ws ws' : List Cond} {rm : Room} (n : Nat) (ht : ∀ w ∈ Ts, w.before args s = true) (hT : GoodIn Ts (wsV own index C y ws)) (hw : ws = Cond.codeWith y bytes maxL ret hh :: ws') (hrc : rm.cells = mc) (hrs : rm.slots = ms)
    (hd : y.cls = C ∧ y.cls ≠ "java/lang/invoke/MethodHandle" ∧ y.cls ≠ "java/lang/invoke/VarHandle" ∧ (parseMethodDescriptor y.desc).map (fun d => d.parameters.length) = some n) (hR : rm.frames + 1 ≤ R.frames ∧ 8 + (maxL + 11) + rm.locals ≤ R.locals) :
    vx_CVW R s args own C index y bytes maxL ret hh ws rm mc ms n := by
  obtain ⟨hC, hd⟩ := hd
  subst hC
  have ok : ∀ w ∈ wsV own index y.cls y ws, w.before args s = true := fun w h => ht w (hT w h).1
  have hG : GoodIn Ts ws := fun w h => hT w (by unfold wsV; exact List.mem_append_right _ h)
  have hc : Cond.codeWith y bytes maxL ret hh ∈ ws := by rw [hw]; exact List.mem_cons_self
  refine ⟨⟨hrc, hrs, hR.1, hR.2, pay_in ht hG, hc⟩, ht _ (hG _ hc).1, ok _ (by simp [wsV]), ⟨hd.1, hd.2.1⟩, fun sig h => ?_, ok _ (by simp [wsV]), ok _ (by simp [wsV]), ok _ (by simp [wsV])⟩
  have h2 := hd.2.2
  rw [h] at h2
  exact (Option.some.inj h2).symm
theorem vx_runVW {y : MethodName} {bytes cc : ByteArray} {maxL nL mc ms n index : Nat} {ret : Option FieldType} {hh : List (Nat × Nat × Nat × Nat)} {ws : List Cond} {rm : Room} {Pc : Array Value → State → Prop} {Qc : Array Value → State → Outcome → State → Prop} {free : Addr → Prop} {Ts : List Cond} {own C : String} {b : Addr} {As rest : List Value} {g : JFrame}
    (S : CallFix p m c cc nL s args Ts own) (hM : Met l y ws rm Pc Qc mc ms free) (cw : vx_CVW R s args own C index y bytes maxL ret hh ws rm mc ms n) (hp : PreV s H C b Pc As)
    (hg : g.method = m) (hn : As.length = n) (hsize : g.locals.size = nL) (hstack : g.stack = As.reverse ++ .ref b :: rest) (hW : 2 * g.monitorRoom + (rest.map fun v => v.category).sum ≤ 8) (hdg : decode cc g.pc = .ok (.invokevirtual index, 3)) (hf : cells + mc ≤ R.cells ∧ slots + ms ≤ R.slots) :
    va_Run p l e R s m args below meth c H locs cells slots mc ms g rest (Qc (Value.ref b :: As).toArray) free := by
  obtain ⟨⟨hrc, hrs, hfr, hlo, hws, hcw⟩, hcode, hini, hy, hlen, hl, hin, hse⟩ := cw
  have hK : Back l R p e below s args y 3 8 (PreOf R mc ms Pc) (PostOf Qc mc ms free) := va_backW (hh := hh) (bytes := bytes) (maxL := maxL) (ret := ret) hM hp.1 hrc hrs hfr hlo hws hcw (fun a' U hW => word_at hW (Or.inl (by first | rfl | simp [Cond.onTables, Cond.keeps, Cond.steady])) hini)
  obtain ⟨hx, hb, hml, ho, -⟩ := S
  obtain ⟨-, ⟨cellB, hcB, hoB, hclB⟩, hPc⟩ := hp
  intro T hT X
  obtain ⟨v, vm₁, ⟨U', l2, c2, s2⟩, hW₁, X', ⟨g', mk, t, L, e1, e2, hq, h1, hL, h2, h3⟩, st⟩ := vx_callVW X hx (C := C) (hh := hh) (bytes := bytes) (maxL := maxL) (ret := ret) ho hl hin hse hcode hy hK (by rw [hT]; exact hcB) hoB hclB hg (hsize.trans hml.symm) (argsL := As) (rest := rest) (fun sig h => hn.trans (hlen sig h)) hstack hW (by rw [hb]; exact hdg)
    (fun vm₁ hW₁ => ⟨hf.1, hf.2, hPc (T.setVm vm₁) hT hW₁⟩)
  dsimp only [Pt.U, Pt.locs, Pt.cells, Pt.slots] at X' e1 e2 h1 h2 h3 st
  subst h1; subst h2; subst h3
  exact ⟨v, (T.setVm vm₁).calling g' mk (Value.ref b :: As).toArray, t, U', L, hT, X', hL, e1, e2, hq, st⟩
section
variable {y : MethodName} {bytes cc : ByteArray} {maxL nL mc ms n index : Nat} {ret : Option FieldType} {ws : List Cond} {rm : Room} {Pc : Array Value → State → Prop} {Qc : Array Value → State → Outcome → State → Prop} {XC : String → State → State → Prop} {free : Addr → Prop} {Ts : List Cond} {own C : String} {b : Addr} {As rest : List Value} {g : JFrame}
theorem vx_runVX {hh : List (Nat × Nat × Nat × Nat)} (S : CallFix p m c cc nL s args Ts own) (hM : vx_Met l y ws rm Pc Qc XC mc ms free) (cw : vx_CVW R s args own C index y bytes maxL ret hh ws rm mc ms n) (hp : PreV s H C b Pc As)
    (hg : g.method = m) (hn : As.length = n) (hsize : g.locals.size = nL) (hstack : g.stack = As.reverse ++ .ref b :: rest) (hW : 2 * g.monitorRoom + (rest.map fun v => v.category).sum ≤ 8) (hdg : decode cc g.pc = .ok (.invokevirtual index, 3)) (hf : cells + mc ≤ R.cells ∧ slots + ms ≤ R.slots) :
    vx_Run p l e R s m args below meth c H locs cells slots mc ms g rest (Qc (Value.ref b :: As).toArray) XC free := by
  obtain ⟨⟨hrc, hrs, hfr, hlo, hws, hcw⟩, hcode, hini, hy, hlen, hl, hin, hse⟩ := cw
  have hK : vx_Back l R p e below s args y 3 8 (PreOf R mc ms Pc) (PostOf Qc mc ms free) (vx_Post XC mc ms free) := vx_backW (hh := hh) (bytes := bytes) (maxL := maxL) (ret := ret) hM hp.1 hrc hrs hfr hlo hws hcw (fun a' U hW => word_at hW (Or.inl (by first | rfl | simp [Cond.onTables, Cond.keeps, Cond.steady])) hini)
  obtain ⟨hx, hb, hml, ho, -⟩ := S
  obtain ⟨-, ⟨cellB, hcB, hoB, hclB⟩, hPc⟩ := hp
  intro T hT X
  rcases vx_callVX X hx (C := C) (hh := hh) (bytes := bytes) (maxL := maxL) (ret := ret) ho hl hin hse hcode hy hK (by rw [hT]; exact hcB) hoB hclB hg (hsize.trans hml.symm) (argsL := As) (rest := rest) (fun sig h => hn.trans (hlen sig h)) hstack hW (by rw [hb]; exact hdg)
    (fun vm₁ hW₁ => ⟨hf.1, hf.2, hPc (T.setVm vm₁) hT hW₁⟩) with ⟨v, vm₁, ⟨U', l2, c2, s2⟩, hW₁, X', ⟨g', mk, t, L, e1, e2, hq, h1, hL, h2, h3⟩, st⟩ | ⟨q, vm₁, ⟨U', l2, c2, s2⟩, hW₁, X', ⟨g', mk, t, L, E, ce, e1, e2, hq, hce, hcv, hcl, h1, hL, h2, h3⟩, st⟩
  · dsimp only [Pt.U, Pt.locs, Pt.cells, Pt.slots] at X' e1 e2 h1 h2 h3 st
    subst h1; subst h2; subst h3
    exact Or.inl ⟨v, (T.setVm vm₁).calling g' mk (Value.ref b :: As).toArray, t, U', L, hT, X', hL, e1, e2, hq, st⟩
  · dsimp only [Pt.U, Pt.locs, Pt.cells, Pt.slots] at X' e1 e2 h1 h2 h3 st hcl
    subst h1; subst h2; subst h3
    exact Or.inr ⟨q, (T.setVm vm₁).calling g' mk (Value.ref b :: As).toArray, t, U', L, E, ce, hT, X', hL, e1, e2, hq, hce, hcv, vx_cls hW₁ hcl, st⟩
theorem vx_runSX {hh : List (Nat × Nat × Nat × Nat)} (S : CallFix p m c cc nL s args Ts own) (hM : vx_Met l y ws rm Pc Qc XC mc ms free) (cw : vx_CSW R s args own index y bytes maxL ret hh ws rm mc ms n) (hp : PreS s H Pc As)
    (hg : g.method = m) (hn : As.length = n) (hsize : g.locals.size = nL) (hstack : g.stack = As.reverse ++ rest) (hW : 2 * g.monitorRoom + (rest.map fun v => v.category).sum ≤ 8) (hdg : decode cc g.pc = .ok (.invokestatic index, 3)) (hf : cells + mc ≤ R.cells ∧ slots + ms ≤ R.slots) :
    vx_Run p l e R s m args below meth c H locs cells slots mc ms g rest (Qc As.toArray) XC free := by
  obtain ⟨⟨hrc, hrs, hfr, hlo, hws, hcw⟩, hcode, hini, hy, hlen, hl, hstt⟩ := cw
  have hK : vx_Back l R p e below s args y 3 8 (PreOf R mc ms Pc) (PostOf Qc mc ms free) (vx_Post XC mc ms free) := vx_backW (hh := hh) (bytes := bytes) (maxL := maxL) (ret := ret) hM hp.1 hrc hrs hfr hlo hws hcw (fun a' U hW => word_at hW (Or.inl (by first | rfl | simp [Cond.onTables, Cond.keeps, Cond.steady])) hini)
  obtain ⟨hx, hb, hml, ho, -⟩ := S
  intro T hT X
  rcases vx_callSX X hx (hh := hh) (bytes := bytes) (maxL := maxL) (ret := ret) ho hl hstt hini hcode hy hK hg (hsize.trans hml.symm) (argsL := As) (rest := rest) (fun sig h => hn.trans (hlen sig h)) hstack hW (by rw [hb]; exact hdg)
    (fun vm₁ hW₁ => ⟨hf.1, hf.2, hp.2 (T.setVm vm₁) hT hW₁⟩) with ⟨v, vm₁, ⟨U', l2, c2, s2⟩, hW₁, X', ⟨g', mk, t, L, e1, e2, hq, h1, hL, h2, h3⟩, st⟩ | ⟨q, vm₁, ⟨U', l2, c2, s2⟩, hW₁, X', ⟨g', mk, t, L, E, ce, e1, e2, hq, hce, hcv, hcl, h1, hL, h2, h3⟩, st⟩
  · dsimp only [Pt.U, Pt.locs, Pt.cells, Pt.slots] at X' e1 e2 h1 h2 h3 st
    subst h1; subst h2; subst h3
    exact Or.inl ⟨v, (T.setVm vm₁).calling g' mk As.toArray, t, U', L, hT, X', hL, e1, e2, hq, st⟩
  · dsimp only [Pt.U, Pt.locs, Pt.cells, Pt.slots] at X' e1 e2 h1 h2 h3 st hcl
    subst h1; subst h2; subst h3
    exact Or.inr ⟨q, (T.setVm vm₁).calling g' mk As.toArray, t, U', L, E, ce, hT, X', hL, e1, e2, hq, hce, hcv, vx_cls hW₁ hcl, st⟩
end
end VXH
theorem vx_ofWH {l : Launch} {y : MethodName} {ws ws' : List Cond} {rm : Room} {Pc : Array Value → State → Prop} {Qc : Array Value → State → Outcome → State → Prop} {XC : String → State → State → Prop} {mc ms : Nat} {free : Addr → Prop} {cc : ByteArray} {maxL : Nat} {ret : Option FieldType} {hh : List (Nat × Nat × Nat × Nat)}
    (hy : plainName y.cls = true) (hw : ws = Cond.codeWith y cc maxL ret hh :: ws')
    (body : ∀ p e s m args below meth c s₁, BodyLoose p l y (headSpec ws rm) cc maxL ret e s m args below meth c s₁ → c.maxLocals = maxL → Pc args s →
      W p l e (headSpec ws rm).room s m args below meth c s.heap [] 0 0 (vx_MQ below Qc XC args s mc ms free) (entryFrame m args maxL)) : vx_Met l y ws rm Pc Qc XC mc ms free := by
  refine MetFree.of_bodyS (code := cc) (maxLocals := maxL) (ret := ret) hy ?_ ?_
  · intro args s m h hn
    obtain ⟨m9, meth, c, hn9, h1, h2, h3, h4, -, h5, h6, -⟩ := Cond.codeWith_spec (atoms_spec (ws := ws) h _ (by rw [hw]; exact List.mem_cons_self))
    cases hn.symm.trans hn9
    exact ⟨meth, c, h1, h2, h3, h4, h5, h6⟩
  · intro p e s m args below meth c s₁ B hml hP _
    have hh0 : s₁.heap = s.heap := by rw [B.state]; rfl
    obtain ⟨t, a1, o, b1, b2, b3⟩ := body p e s m args below meth c s₁ B hml hP s₁ hh0 (Stand.of_body B)
    exact ⟨t, o, a1, b1, b2, b3⟩
/-! ===== END ===== -/

/-! ===== BEGIN printed: names, fields, word lists, decode rows ===== -/
def RX0 : String := "KnotLetters$Alphabet"
def TX0 : u_T := fun k => match k with
  | 0 => ("KnotLetters$Alphabet", "rows", "[I", true)
  | 1 => ("KnotLetters$Alphabet", "sizes", "[I", true)
  | 2 => ("KnotLetters$Alphabet", "ties", "[I", true)
  | 3 => ("KnotLetters$Alphabet", "kinds", "[I", true)
  | 4 => ("KnotLetters$Alphabet", "rests", "[I", true)
  | 5 => ("KnotLetters$Alphabet", "isRest", "[I", true)
  | _ => ("KnotLetters$Alphabet", "restCount", "I", false)
def tyX0 : Nat → FieldType := fun k => match k with
  | 0 => .array .int
  | 1 => .array .int
  | 2 => .array .int
  | 3 => .array .int
  | 4 => .array .int
  | 5 => .array .int
  | _ => .int
abbrev wsX00 : List Cond := u_ws RX0 TX0 7
theorem nmX0 : ∀ a, a < 7 → ∀ b, b < 7 → a ≠ b → (TX0 a).2.1 ≠ (TX0 b).2.1 := by decide +kernel
theorem tyX0_ok : ∀ k, k < 7 → parseFieldDescriptor (TX0 k).2.2.1 = some (tyX0 k) := by decide +kernel
abbrev cX0_init : ByteArray := prog_2_method_1_code
def yX0_init : MethodName := ⟨RX0, "<init>", "()V"⟩
abbrev cX0_isRow : ByteArray := prog_2_method_2_code
def yX0_isRow : MethodName := ⟨RX0, "isRow", "(I)Z"⟩
abbrev cX0_rowOfRank : ByteArray := prog_2_method_3_code
def yX0_rowOfRank : MethodName := ⟨RX0, "rowOfRank", "(I)I"⟩
abbrev cX0_restBehind : ByteArray := prog_2_method_4_code
def yX0_restBehind : MethodName := ⟨RX0, "restBehind", "(II)I"⟩
abbrev cX0_put : ByteArray := prog_2_method_5_code
def yX0_put : MethodName := ⟨RX0, "put", "(II)V"⟩
abbrev cX0_kindAt : ByteArray := prog_2_method_6_code
def yX0_kindAt : MethodName := ⟨RX0, "kindAt", "(II)I"⟩
abbrev cX0_lettersWithKnots : ByteArray := prog_2_method_7_code
def yX0_lettersWithKnots : MethodName := ⟨RX0, "lettersWithKnots", "()I"⟩
abbrev cX0_clashes : ByteArray := prog_2_method_8_code
def yX0_clashes : MethodName := ⟨RX0, "clashes", "(II)Z"⟩
abbrev cX0_hasOneReading : ByteArray := prog_2_method_9_code
def yX0_hasOneReading : MethodName := ⟨RX0, "hasOneReading", "()Z"⟩
abbrev cX0_meetsSameRow : ByteArray := prog_2_method_10_code
def yX0_meetsSameRow : MethodName := ⟨RX0, "meetsSameRow", "(II)Z"⟩
abbrev cX0_noteRest : ByteArray := prog_2_method_11_code
def yX0_noteRest : MethodName := ⟨RX0, "noteRest", "(I)V"⟩
def RX1 : String := "KnotLetters$Cord"
def TX1 : u_T := fun k => match k with
  | 0 => ("KnotLetters$Cord", "places", "[I", true)
  | 1 => ("KnotLetters$Cord", "size", "I", false)
  | 2 => ("KnotLetters$Cord", "gaps", "I", false)
  | 3 => ("KnotLetters$Cord", "slipped", "I", false)
  | _ => ("KnotLetters$Cord", "leftOut", "I", false)
def tyX1 : Nat → FieldType := fun k => match k with
  | 0 => .array .int
  | 1 => .int
  | 2 => .int
  | 3 => .int
  | _ => .int
abbrev wsX10 : List Cond := u_ws RX1 TX1 5
theorem nmX1 : ∀ a, a < 5 → ∀ b, b < 5 → a ≠ b → (TX1 a).2.1 ≠ (TX1 b).2.1 := by decide +kernel
theorem tyX1_ok : ∀ k, k < 5 → parseFieldDescriptor (TX1 k).2.2.1 = some (tyX1 k) := by decide +kernel
abbrev cX1_init : ByteArray := prog_3_method_1_code
def yX1_init : MethodName := ⟨RX1, "<init>", "()V"⟩
abbrev cX1_add : ByteArray := prog_3_method_2_code
def yX1_add : MethodName := ⟨RX1, "add", "(I)V"⟩
abbrev cX1_addGap : ByteArray := prog_3_method_3_code
def yX1_addGap : MethodName := ⟨RX1, "addGap", "()V"⟩
abbrev cX1_endsWord : ByteArray := prog_3_method_4_code
def yX1_endsWord : MethodName := ⟨RX1, "endsWord", "(I)Z"⟩
def RX2 : String := "KnotLetters$Costs"
def TX2 : u_T := fun k => match k with
  | 0 => ("KnotLetters$Costs", "missed", "I", false)
  | 1 => ("KnotLetters$Costs", "ghost", "I", false)
  | 2 => ("KnotLetters$Costs", "taken", "[I", true)
  | _ => ("KnotLetters$Costs", "line", "[I", true)
def tyX2 : Nat → FieldType := fun k => match k with
  | 0 => .int
  | 1 => .int
  | 2 => .array .int
  | _ => .array .int
abbrev wsX20 : List Cond := u_ws RX2 TX2 4
theorem nmX2 : ∀ a, a < 4 → ∀ b, b < 4 → a ≠ b → (TX2 a).2.1 ≠ (TX2 b).2.1 := by decide +kernel
theorem tyX2_ok : ∀ k, k < 4 → parseFieldDescriptor (TX2 k).2.2.1 = some (tyX2 k) := by decide +kernel
abbrev cX2_init : ByteArray := prog_4_method_1_code
def yX2_init : MethodName := ⟨RX2, "<init>", "()V"⟩
abbrev cX2_putTaking : ByteArray := prog_4_method_2_code
def yX2_putTaking : MethodName := ⟨RX2, "putTaking", "(III)V"⟩
abbrev cX2_taking : ByteArray := prog_4_method_3_code
def yX2_taking : MethodName := ⟨RX2, "taking", "(II)I"⟩
abbrev cX2_missing : ByteArray := prog_4_method_4_code
def yX2_missing : MethodName := ⟨RX2, "missing", "(I)I"⟩
abbrev cX2_ghostOf : ByteArray := prog_4_method_5_code
def yX2_ghostOf : MethodName := ⟨RX2, "ghostOf", "(I)I"⟩
abbrev cX2_fromRowToRow : ByteArray := prog_4_method_6_code
def yX2_fromRowToRow : MethodName := ⟨RX2, "fromRowToRow", "([III[III)I"⟩
def RX3 : String := "KnotLetters$Knotter"
def TX3 : u_T := fun k => match k with
  | 0 => ("KnotLetters$Knotter", "slip", "I", false)
  | 1 => ("KnotLetters$Knotter", "skip", "I", false)
  | 2 => ("KnotLetters$Knotter", "counted", "I", false)
  | 3 => ("KnotLetters$Knotter", "slipped", "I", false)
  | _ => ("KnotLetters$Knotter", "leftOut", "I", false)
def tyX3 : Nat → FieldType := fun k => match k with
  | 0 => .int
  | 1 => .int
  | 2 => .int
  | 3 => .int
  | _ => .int
abbrev wsX30 : List Cond := u_ws RX3 TX3 5
theorem nmX3 : ∀ a, a < 5 → ∀ b, b < 5 → a ≠ b → (TX3 a).2.1 ≠ (TX3 b).2.1 := by decide +kernel
theorem tyX3_ok : ∀ k, k < 5 → parseFieldDescriptor (TX3 k).2.2.1 = some (tyX3 k) := by decide +kernel
abbrev cX3_init : ByteArray := prog_5_method_1_code
def yX3_init : MethodName := ⟨RX3, "<init>", "()V"⟩
abbrev cX3_tieKnot : ByteArray := prog_5_method_2_code
def yX3_tieKnot : MethodName := ⟨RX3, "tieKnot", "(LKnotLetters$Cord;I)V"⟩
def RX4 : String := "KnotLetters$Reader"
def TX4 : u_T := fun k => match k with
  | 0 => ("KnotLetters$Reader", "alphabet", "LKnotLetters$Alphabet;", true)
  | 1 => ("KnotLetters$Reader", "costs", "LKnotLetters$Costs;", true)
  | 2 => ("KnotLetters$Reader", "weights", "[I", true)
  | 3 => ("KnotLetters$Reader", "firstLetters", "[I", true)
  | 4 => ("KnotLetters$Reader", "nextPlaces", "[I", true)
  | 5 => ("KnotLetters$Reader", "begunWeights", "[I", true)
  | 6 => ("KnotLetters$Reader", "begunPlaces", "[I", true)
  | _ => ("KnotLetters$Reader", "exactRows", "[I", true)
def tyX4 : Nat → FieldType := fun k => match k with
  | 0 => .object "KnotLetters$Alphabet"
  | 1 => .object "KnotLetters$Costs"
  | 2 => .array .int
  | 3 => .array .int
  | 4 => .array .int
  | 5 => .array .int
  | 6 => .array .int
  | _ => .array .int
abbrev wsX40 : List Cond := u_ws RX4 TX4 8
theorem nmX4 : ∀ a, a < 8 → ∀ b, b < 8 → a ≠ b → (TX4 a).2.1 ≠ (TX4 b).2.1 := by decide +kernel
theorem tyX4_ok : ∀ k, k < 8 → parseFieldDescriptor (TX4 k).2.2.1 = some (tyX4 k) := by decide +kernel
abbrev cX4_init : ByteArray := prog_6_method_1_code
def yX4_init : MethodName := ⟨RX4, "<init>", "(LKnotLetters$Alphabet;LKnotLetters$Costs;)V"⟩
abbrev cX4_costIn : ByteArray := prog_6_method_2_code
def yX4_costIn : MethodName := ⟨RX4, "costIn", "(I)I"⟩
abbrev cX4_lettersIn : ByteArray := prog_6_method_3_code
def yX4_lettersIn : MethodName := ⟨RX4, "lettersIn", "(I)I"⟩
abbrev cX4_weightOf : ByteArray := prog_6_method_4_code
def yX4_weightOf : MethodName := ⟨RX4, "weightOf", "(LKnotLetters$Cord;)I"⟩
abbrev cX4_writeText : ByteArray := prog_6_method_5_code
def yX4_writeText : MethodName := ⟨RX4, "writeText", "(LKnotLetters$Cord;[I)I"⟩
abbrev cX4_writeWord : ByteArray := prog_6_method_6_code
def yX4_writeWord : MethodName := ⟨RX4, "writeWord", "(I[II)I"⟩
abbrev cX4_weighWord : ByteArray := prog_6_method_7_code
def yX4_weighWord : MethodName := ⟨RX4, "weighWord", "(LKnotLetters$Cord;II)V"⟩
abbrev cX4_weighPlace : ByteArray := prog_6_method_8_code
def yX4_weighPlace : MethodName := ⟨RX4, "weighPlace", "(II)V"⟩
abbrev cX4_offerLetter : ByteArray := prog_6_method_9_code
def yX4_offerLetter : MethodName := ⟨RX4, "offerLetter", "(IIII)V"⟩
abbrev cX4_comesFirst : ByteArray := prog_6_method_10_code
def yX4_comesFirst : MethodName := ⟨RX4, "comesFirst", "(II)Z"⟩
abbrev cX4_slotOf : ByteArray := prog_6_method_11_code
def yX4_slotOf : MethodName := ⟨RX4, "slotOf", "(III)I"⟩
abbrev cX4_weighLetterEnd : ByteArray := prog_6_method_12_code
def yX4_weighLetterEnd : MethodName := ⟨RX4, "weighLetterEnd", "(II)V"⟩
abbrev cX4_weighLetter : ByteArray := prog_6_method_13_code
def yX4_weighLetter : MethodName := ⟨RX4, "weighLetter", "(III)V"⟩
abbrev cX4_offerSlot : ByteArray := prog_6_method_14_code
def yX4_offerSlot : MethodName := ⟨RX4, "offerSlot", "(III)V"⟩
abbrev cX4_exactRowsOf : ByteArray := prog_6_method_15_code
def yX4_exactRowsOf : MethodName := ⟨RX4, "exactRowsOf", "(LKnotLetters$Cord;)I"⟩
abbrev cX4_exactRowsOfWord : ByteArray := prog_6_method_16_code
def yX4_exactRowsOfWord : MethodName := ⟨RX4, "exactRowsOfWord", "(LKnotLetters$Cord;II)I"⟩
abbrev cX4_stands : ByteArray := prog_6_method_17_code
def yX4_stands : MethodName := ⟨RX4, "stands", "(ILKnotLetters$Cord;II)Z"⟩
def RX5 : String := "KnotLetters"
def TX5 : u_T := fun k => match k with
  | 0 => ("KnotLetters", "alphabet", "LKnotLetters$Alphabet;", true)
  | 1 => ("KnotLetters", "knotter", "LKnotLetters$Knotter;", true)
  | 2 => ("KnotLetters", "costs", "LKnotLetters$Costs;", true)
  | 3 => ("KnotLetters", "reader", "LKnotLetters$Reader;", true)
  | 4 => ("KnotLetters", "cords", "[LKnotLetters$Cord;", true)
  | 5 => ("KnotLetters", "cordCount", "I", false)
  | 6 => ("KnotLetters", "tape", "[I", true)
  | 7 => ("KnotLetters", "tapeSize", "I", false)
  | 8 => ("KnotLetters", "paper", "[I", true)
  | _ => ("KnotLetters", "paperSize", "I", false)
def tyX5 : Nat → FieldType := fun k => match k with
  | 0 => .object "KnotLetters$Alphabet"
  | 1 => .object "KnotLetters$Knotter"
  | 2 => .object "KnotLetters$Costs"
  | 3 => .object "KnotLetters$Reader"
  | 4 => .array (.object "KnotLetters$Cord")
  | 5 => .int
  | 6 => .array .int
  | 7 => .int
  | 8 => .array .int
  | _ => .int
abbrev wsX50 : List Cond := u_ws RX5 TX5 10
theorem nmX5 : ∀ a, a < 10 → ∀ b, b < 10 → a ≠ b → (TX5 a).2.1 ≠ (TX5 b).2.1 := by decide +kernel
theorem tyX5_ok : ∀ k, k < 10 → parseFieldDescriptor (TX5 k).2.2.1 = some (tyX5 k) := by decide +kernel
abbrev cX5_init : ByteArray := prog_1_method_1_code
def yX5_init : MethodName := ⟨RX5, "<init>", "()V"⟩
abbrev cX5_setLetter : ByteArray := prog_1_method_2_code
def yX5_setLetter : MethodName := ⟨RX5, "setLetter", "(II)I"⟩
abbrev cX5_letter : ByteArray := prog_1_method_3_code
def yX5_letter : MethodName := ⟨RX5, "letter", "(II)I"⟩
abbrev cX5_isFree : ByteArray := prog_1_method_4_code
def yX5_isFree : MethodName := ⟨RX5, "isFree", "()Z"⟩
abbrev cX5_isClear : ByteArray := prog_1_method_5_code
def yX5_isClear : MethodName := ⟨RX5, "isClear", "()Z"⟩
abbrev cX5_alike : ByteArray := prog_1_method_6_code
def yX5_alike : MethodName := ⟨RX5, "alike", "(II)I"⟩
abbrev cX5_closest : ByteArray := prog_1_method_7_code
def yX5_closest : MethodName := ⟨RX5, "closest", "()I"⟩
abbrev cX5_advise : ByteArray := prog_1_method_8_code
def yX5_advise : MethodName := ⟨RX5, "advise", "()I"⟩
abbrev cX5_setKnotter : ByteArray := prog_1_method_9_code
def yX5_setKnotter : MethodName := ⟨RX5, "setKnotter", "(II)I"⟩
abbrev cX5_setFeel : ByteArray := prog_1_method_10_code
def yX5_setFeel : MethodName := ⟨RX5, "setFeel", "(III)I"⟩
abbrev cX5_setCosts : ByteArray := prog_1_method_11_code
def yX5_setCosts : MethodName := ⟨RX5, "setCosts", "(II)I"⟩
abbrev cX5_feed : ByteArray := prog_1_method_12_code
def yX5_feed : MethodName := ⟨RX5, "feed", "(IIIII)I"⟩
abbrev cX5_trim : ByteArray := prog_1_method_13_code
def yX5_trim : MethodName := ⟨RX5, "trim", "(I)I"⟩
abbrev cX5_tie : ByteArray := prog_1_method_14_code
def yX5_tie : MethodName := ⟨RX5, "tie", "()I"⟩
abbrev cX5_cord : ByteArray := prog_1_method_15_code
def yX5_cord : MethodName := ⟨RX5, "cord", "(II)I"⟩
abbrev cX5_knot : ByteArray := prog_1_method_16_code
def yX5_knot : MethodName := ⟨RX5, "knot", "(II)I"⟩
abbrev cX5_retie : ByteArray := prog_1_method_17_code
def yX5_retie : MethodName := ⟨RX5, "retie", "(III)I"⟩
abbrev cX5_distance : ByteArray := prog_1_method_18_code
def yX5_distance : MethodName := ⟨RX5, "distance", "(II)I"⟩
abbrev cX5_nearest : ByteArray := prog_1_method_19_code
def yX5_nearest : MethodName := ⟨RX5, "nearest", "(I)I"⟩
abbrev cX5_read : ByteArray := prog_1_method_20_code
def yX5_read : MethodName := ⟨RX5, "read", "(I)I"⟩
abbrev cX5_byteAt : ByteArray := prog_1_method_21_code
def yX5_byteAt : MethodName := ⟨RX5, "byteAt", "(I)I"⟩
abbrev cX5_count : ByteArray := prog_1_method_22_code
def yX5_count : MethodName := ⟨RX5, "count", "(I)I"⟩
abbrev cX5_mean : ByteArray := prog_1_method_23_code
def yX5_mean : MethodName := ⟨RX5, "mean", "()D"⟩
abbrev cX5_digest : ByteArray := prog_1_method_24_code
def yX5_digest : MethodName := ⟨RX5, "digest", "()J"⟩
abbrev cX5_isNoLetter : ByteArray := prog_1_method_25_code
def yX5_isNoLetter : MethodName := ⟨RX5, "isNoLetter", "(I)Z"⟩
abbrev cX5_isNoKind : ByteArray := prog_1_method_26_code
def yX5_isNoKind : MethodName := ⟨RX5, "isNoKind", "(I)Z"⟩
abbrev cX5_isNoCord : ByteArray := prog_1_method_27_code
def yX5_isNoCord : MethodName := ⟨RX5, "isNoCord", "(I)Z"⟩
abbrev cX5_isNoPlace : ByteArray := prog_1_method_28_code
def yX5_isNoPlace : MethodName := ⟨RX5, "isNoPlace", "(II)Z"⟩
abbrev cX5_mixed : ByteArray := prog_1_method_29_code
def yX5_mixed : MethodName := ⟨RX5, "mixed", "(JI)J"⟩
abbrev cX5_letterDistance : ByteArray := prog_1_method_30_code
def yX5_letterDistance : MethodName := ⟨RX5, "letterDistance", "(II)I"⟩
abbrev cX5_cordDistance : ByteArray := prog_1_method_31_code
def yX5_cordDistance : MethodName := ⟨RX5, "cordDistance", "(II)I"⟩
abbrev cX5_appendNumber : ByteArray := prog_1_method_32_code
def yX5_appendNumber : MethodName := ⟨RX5, "appendNumber", "(I)V"⟩
abbrev cX5_letterOfByte : ByteArray := prog_1_method_33_code
def yX5_letterOfByte : MethodName := ⟨RX5, "letterOfByte", "(I)I"⟩
abbrev cX5_placesOnTape : ByteArray := prog_1_method_34_code
def yX5_placesOnTape : MethodName := ⟨RX5, "placesOnTape", "()I"⟩
abbrev cX5_isTapeText : ByteArray := prog_1_method_35_code
def yX5_isTapeText : MethodName := ⟨RX5, "isTapeText", "()Z"⟩
abbrev cX5_tieByte : ByteArray := prog_1_method_36_code
def yX5_tieByte : MethodName := ⟨RX5, "tieByte", "(LKnotLetters$Cord;I)V"⟩
def RX6 : String := "KnotLettersModel"
def TX6 : u_T := fun k => match k with
  | 0 => ("KnotLettersModel", "thrown", "I", false)
  | 1 => ("KnotLettersModel", "rows", "[I", true)
  | 2 => ("KnotLettersModel", "tied", "[I", true)
  | 3 => ("KnotLettersModel", "slip", "I", false)
  | 4 => ("KnotLettersModel", "skip", "I", false)
  | 5 => ("KnotLettersModel", "counted", "I", false)
  | 6 => ("KnotLettersModel", "feel", "[I", true)
  | 7 => ("KnotLettersModel", "missed", "I", false)
  | 8 => ("KnotLettersModel", "ghost", "I", false)
  | 9 => ("KnotLettersModel", "cords", "I", false)
  | 10 => ("KnotLettersModel", "size", "[I", true)
  | 11 => ("KnotLettersModel", "knots", "[I", true)
  | 12 => ("KnotLettersModel", "slipped", "[I", true)
  | 13 => ("KnotLettersModel", "skipped", "[I", true)
  | 14 => ("KnotLettersModel", "tape", "[I", true)
  | 15 => ("KnotLettersModel", "taped", "I", false)
  | 16 => ("KnotLettersModel", "paper", "[I", true)
  | 17 => ("KnotLettersModel", "papered", "I", false)
  | 18 => ("KnotLettersModel", "cost", "[I", true)
  | 19 => ("KnotLettersModel", "many", "[I", true)
  | 20 => ("KnotLettersModel", "letters", "[I", true)
  | 21 => ("KnotLettersModel", "nexts", "[I", true)
  | _ => ("KnotLettersModel", "line", "[I", true)
def tyX6 : Nat → FieldType := fun k => match k with
  | 0 => .int
  | 1 => .array .int
  | 2 => .array .int
  | 3 => .int
  | 4 => .int
  | 5 => .int
  | 6 => .array .int
  | 7 => .int
  | 8 => .int
  | 9 => .int
  | 10 => .array .int
  | 11 => .array .int
  | 12 => .array .int
  | 13 => .array .int
  | 14 => .array .int
  | 15 => .int
  | 16 => .array .int
  | 17 => .int
  | 18 => .array .int
  | 19 => .array .int
  | 20 => .array .int
  | 21 => .array .int
  | _ => .array .int
abbrev wsX60 : List Cond := u_ws RX6 TX6 23
theorem nmX6 : ∀ a, a < 23 → ∀ b, b < 23 → a ≠ b → (TX6 a).2.1 ≠ (TX6 b).2.1 := by decide +kernel
theorem tyX6_ok : ∀ k, k < 23 → parseFieldDescriptor (TX6 k).2.2.1 = some (tyX6 k) := by decide +kernel
abbrev cX6_init : ByteArray := prog_8_method_1_code
def yX6_init : MethodName := ⟨RX6, "<init>", "()V"⟩
abbrev cX6_thrown : ByteArray := prog_8_method_2_code
def yX6_thrown : MethodName := ⟨RX6, "thrown", "()I"⟩
abbrev cX6_no : ByteArray := prog_8_method_3_code
def yX6_no : MethodName := ⟨RX6, "no", "(I)I"⟩
abbrev cX6_isIn : ByteArray := prog_8_method_4_code
def yX6_isIn : MethodName := ⟨RX6, "isIn", "(III)Z"⟩
abbrev cX6_lengthOf : ByteArray := prog_8_method_5_code
def yX6_lengthOf : MethodName := ⟨RX6, "lengthOf", "(I)I"⟩
abbrev cX6_knotOf : ByteArray := prog_8_method_6_code
def yX6_knotOf : MethodName := ⟨RX6, "knotOf", "(II)I"⟩
abbrev cX6_isRow : ByteArray := prog_8_method_7_code
def yX6_isRow : MethodName := ⟨RX6, "isRow", "(I)Z"⟩
abbrev cX6_setLetter : ByteArray := prog_8_method_8_code
def yX6_setLetter : MethodName := ⟨RX6, "setLetter", "(II)I"⟩
abbrev cX6_letterTold : ByteArray := prog_8_method_9_code
def yX6_letterTold : MethodName := ⟨RX6, "letterTold", "(II)I"⟩
abbrev cX6_letter : ByteArray := prog_8_method_10_code
def yX6_letter : MethodName := ⟨RX6, "letter", "(II)I"⟩
abbrev cX6_begins : ByteArray := prog_8_method_11_code
def yX6_begins : MethodName := ⟨RX6, "begins", "(II)Z"⟩
abbrev cX6_isFree : ByteArray := prog_8_method_12_code
def yX6_isFree : MethodName := ⟨RX6, "isFree", "()Z"⟩
abbrev cX6_over : ByteArray := prog_8_method_13_code
def yX6_over : MethodName := ⟨RX6, "over", "(III)I"⟩
abbrev cX6_isClear : ByteArray := prog_8_method_14_code
def yX6_isClear : MethodName := ⟨RX6, "isClear", "()Z"⟩
abbrev cX6_lay : ByteArray := prog_8_method_15_code
def yX6_lay : MethodName := ⟨RX6, "lay", "(III)V"⟩
abbrev cX6_apart : ByteArray := prog_8_method_16_code
def yX6_apart : MethodName := ⟨RX6, "apart", "(II)I"⟩
abbrev cX6_alike : ByteArray := prog_8_method_17_code
def yX6_alike : MethodName := ⟨RX6, "alike", "(II)I"⟩
abbrev cX6_closest : ByteArray := prog_8_method_18_code
def yX6_closest : MethodName := ⟨RX6, "closest", "()I"⟩
abbrev cX6_advise : ByteArray := prog_8_method_19_code
def yX6_advise : MethodName := ⟨RX6, "advise", "()I"⟩
abbrev cX6_setKnotter : ByteArray := prog_8_method_20_code
def yX6_setKnotter : MethodName := ⟨RX6, "setKnotter", "(II)I"⟩
abbrev cX6_setFeel : ByteArray := prog_8_method_21_code
def yX6_setFeel : MethodName := ⟨RX6, "setFeel", "(III)I"⟩
abbrev cX6_setCosts : ByteArray := prog_8_method_22_code
def yX6_setCosts : MethodName := ⟨RX6, "setCosts", "(II)I"⟩
abbrev cX6_feed : ByteArray := prog_8_method_23_code
def yX6_feed : MethodName := ⟨RX6, "feed", "(IIIII)I"⟩
abbrev cX6_trim : ByteArray := prog_8_method_24_code
def yX6_trim : MethodName := ⟨RX6, "trim", "(I)I"⟩
abbrev cX6_isLetter : ByteArray := prog_8_method_25_code
def yX6_isLetter : MethodName := ⟨RX6, "isLetter", "(I)Z"⟩
abbrev cX6_tie : ByteArray := prog_8_method_26_code
def yX6_tie : MethodName := ⟨RX6, "tie", "()I"⟩
abbrev cX6_put : ByteArray := prog_8_method_27_code
def yX6_put : MethodName := ⟨RX6, "put", "(II)V"⟩
abbrev cX6_tie_ : ByteArray := prog_8_method_28_code
def yX6_tie_ : MethodName := ⟨RX6, "tie", "(II)V"⟩
abbrev cX6_isCord : ByteArray := prog_8_method_29_code
def yX6_isCord : MethodName := ⟨RX6, "isCord", "(I)Z"⟩
abbrev cX6_find : ByteArray := prog_8_method_30_code
def yX6_find : MethodName := ⟨RX6, "find", "(II)V"⟩
abbrev cX6_improve : ByteArray := prog_8_method_31_code
def yX6_improve : MethodName := ⟨RX6, "improve", "(IIII)V"⟩
abbrev cX6_isAhead : ByteArray := prog_8_method_32_code
def yX6_isAhead : MethodName := ⟨RX6, "isAhead", "(IIII)Z"⟩
abbrev cX6_ways : ByteArray := prog_8_method_33_code
def yX6_ways : MethodName := ⟨RX6, "ways", "(II)I"⟩
abbrev cX6_over_ : ByteArray := prog_8_method_34_code
def yX6_over_ : MethodName := ⟨RX6, "over", "(IIZ)I"⟩
abbrev cX6_write : ByteArray := prog_8_method_35_code
def yX6_write : MethodName := ⟨RX6, "write", "(Z)V"⟩
abbrev cX6_cordTold : ByteArray := prog_8_method_36_code
def yX6_cordTold : MethodName := ⟨RX6, "cordTold", "(II)I"⟩
abbrev cX6_cord : ByteArray := prog_8_method_37_code
def yX6_cord : MethodName := ⟨RX6, "cord", "(II)I"⟩
abbrev cX6_knot : ByteArray := prog_8_method_38_code
def yX6_knot : MethodName := ⟨RX6, "knot", "(II)I"⟩
abbrev cX6_retie : ByteArray := prog_8_method_39_code
def yX6_retie : MethodName := ⟨RX6, "retie", "(III)I"⟩
abbrev cX6_between : ByteArray := prog_8_method_40_code
def yX6_between : MethodName := ⟨RX6, "between", "(II)I"⟩
abbrev cX6_distance : ByteArray := prog_8_method_41_code
def yX6_distance : MethodName := ⟨RX6, "distance", "(II)I"⟩
abbrev cX6_nearest : ByteArray := prog_8_method_42_code
def yX6_nearest : MethodName := ⟨RX6, "nearest", "(I)I"⟩
abbrev cX6_read : ByteArray := prog_8_method_43_code
def yX6_read : MethodName := ⟨RX6, "read", "(I)I"⟩
abbrev cX6_byteAt : ByteArray := prog_8_method_44_code
def yX6_byteAt : MethodName := ⟨RX6, "byteAt", "(I)I"⟩
abbrev cX6_sum : ByteArray := prog_8_method_45_code
def yX6_sum : MethodName := ⟨RX6, "sum", "(I)I"⟩
abbrev cX6_count : ByteArray := prog_8_method_46_code
def yX6_count : MethodName := ⟨RX6, "count", "(I)I"⟩
abbrev cX6_mean : ByteArray := prog_8_method_47_code
def yX6_mean : MethodName := ⟨RX6, "mean", "()D"⟩
abbrev cX6_digest : ByteArray := prog_8_method_48_code
def yX6_digest : MethodName := ⟨RX6, "digest", "()J"⟩
def RJx145de : String := "java/io/Serializable"
def TJx145de : u_T := fun k => match k with
  | _ => ("", "", "", false)
def tyJx145de : Nat → FieldType := fun k => match k with
  | _ => .int
abbrev wsJx145de0 : List Cond := u_ws RJx145de TJx145de 0
theorem nmJx145de : ∀ a, a < 0 → ∀ b, b < 0 → a ≠ b → (TJx145de a).2.1 ≠ (TJx145de b).2.1 := by decide +kernel
theorem tyJx145de_ok : ∀ k, k < 0 → parseFieldDescriptor (TJx145de k).2.2.1 = some (tyJx145de k) := by decide +kernel
def RJ9 : String := "java/lang/Math"
def TJ9 : u_T := fun k => match k with
  | _ => ("", "", "", false)
def tyJ9 : Nat → FieldType := fun k => match k with
  | _ => .int
abbrev wsJ90 : List Cond := u_ws RJ9 TJ9 0
theorem nmJ9 : ∀ a, a < 0 → ∀ b, b < 0 → a ≠ b → (TJ9 a).2.1 ≠ (TJ9 b).2.1 := by decide +kernel
theorem tyJ9_ok : ∀ k, k < 0 → parseFieldDescriptor (TJ9 k).2.2.1 = some (tyJ9 k) := by decide +kernel
abbrev cJ9_max_7cf53 : ByteArray := prog_13_method_65_code
def yJ9_max_7cf53 : MethodName := ⟨RJ9, "max", "(II)I"⟩
abbrev cJ9_min_7cf53 : ByteArray := prog_13_method_69_code
def yJ9_min_7cf53 : MethodName := ⟨RJ9, "min", "(II)I"⟩
abbrev cJ9_min_f86c9 : ByteArray := prog_13_method_70_code
def yJ9_min_f86c9 : MethodName := ⟨RJ9, "min", "(JJ)J"⟩
def RJ0 : String := "java/lang/String"
def TJ0 : u_T := fun k => match k with
  | _ => ("", "", "", false)
def tyJ0 : Nat → FieldType := fun k => match k with
  | _ => .int
abbrev wsJ00 : List Cond := u_ws RJ0 TJ0 0
theorem nmJ0 : ∀ a, a < 0 → ∀ b, b < 0 → a ≠ b → (TJ0 a).2.1 ≠ (TJ0 b).2.1 := by decide +kernel
theorem tyJ0_ok : ∀ k, k < 0 → parseFieldDescriptor (TJ0 k).2.2.1 = some (tyJ0 k) := by decide +kernel
def RJ7 : String := "java/util/Arrays"
def TJ7 : u_T := fun k => match k with
  | _ => ("", "", "", false)
def tyJ7 : Nat → FieldType := fun k => match k with
  | _ => .int
abbrev wsJ70 : List Cond := u_ws RJ7 TJ7 0
theorem nmJ7 : ∀ a, a < 0 → ∀ b, b < 0 → a ≠ b → (TJ7 a).2.1 ≠ (TJ7 b).2.1 := by decide +kernel
theorem tyJ7_ok : ∀ k, k < 0 → parseFieldDescriptor (TJ7 k).2.2.1 = some (tyJ7 k) := by decide +kernel
abbrev cJ7_fill_53178 : ByteArray := prog_17_method_103_code
def yJ7_fill_53178 : MethodName := ⟨RJ7, "fill", "([II)V"⟩
def RL : String := "KnotLettersLaw"
abbrev cL_setLetter : ByteArray := method_3_code
def yL_setLetter : MethodName := ⟨RL, "setLetter", "(LKnotLetters;II[J)I"⟩
abbrev cL_letter : ByteArray := method_4_code
def yL_letter : MethodName := ⟨RL, "letter", "(LKnotLetters;II[J)I"⟩
abbrev cL_alike : ByteArray := method_5_code
def yL_alike : MethodName := ⟨RL, "alike", "(LKnotLetters;II[J)I"⟩
abbrev cL_setKnotter : ByteArray := method_6_code
def yL_setKnotter : MethodName := ⟨RL, "setKnotter", "(LKnotLetters;II[J)I"⟩
abbrev cL_setFeel : ByteArray := method_7_code
def yL_setFeel : MethodName := ⟨RL, "setFeel", "(LKnotLetters;III[J)I"⟩
abbrev cL_setCosts : ByteArray := method_8_code
def yL_setCosts : MethodName := ⟨RL, "setCosts", "(LKnotLetters;II[J)I"⟩
abbrev cL_feed : ByteArray := method_9_code
def yL_feed : MethodName := ⟨RL, "feed", "(LKnotLetters;IIIII[J)I"⟩
abbrev cL_trim : ByteArray := method_10_code
def yL_trim : MethodName := ⟨RL, "trim", "(LKnotLetters;I[J)I"⟩
abbrev cL_tie : ByteArray := method_11_code
def yL_tie : MethodName := ⟨RL, "tie", "(LKnotLetters;[J)I"⟩
abbrev cL_cord : ByteArray := method_12_code
def yL_cord : MethodName := ⟨RL, "cord", "(LKnotLetters;II[J)I"⟩
abbrev cL_knot : ByteArray := method_13_code
def yL_knot : MethodName := ⟨RL, "knot", "(LKnotLetters;II[J)I"⟩
abbrev cL_retie : ByteArray := method_14_code
def yL_retie : MethodName := ⟨RL, "retie", "(LKnotLetters;III[J)I"⟩
abbrev cL_distance : ByteArray := method_15_code
def yL_distance : MethodName := ⟨RL, "distance", "(LKnotLetters;II[J)I"⟩
abbrev cL_nearest : ByteArray := method_16_code
def yL_nearest : MethodName := ⟨RL, "nearest", "(LKnotLetters;I[J)I"⟩
abbrev cL_read : ByteArray := method_17_code
def yL_read : MethodName := ⟨RL, "read", "(LKnotLetters;I[J)I"⟩
abbrev cL_byteAt : ByteArray := method_18_code
def yL_byteAt : MethodName := ⟨RL, "byteAt", "(LKnotLetters;I[J)I"⟩
abbrev cL_count : ByteArray := method_19_code
def yL_count : MethodName := ⟨RL, "count", "(LKnotLetters;I[J)I"⟩
abbrev cL_law : ByteArray := code
def yL_law : MethodName := ⟨RL, "law", "([I)Z"⟩
def wsL_law0_r1 : List Cond := [Cond.classLink RL 8 RX5, Cond.instantiable RX5 10, Cond.initialized RX5, Cond.classLink RL 72 RX6, Cond.instantiable RX6 23, Cond.initialized RX6, Cond.arrayClass .long, Cond.methodLink RL 71 yX5_init, Cond.instanceMethod yX5_init, Cond.code yX5_init cX5_init 2 none, Cond.methodLink RX5 1 objectInit, Cond.instanceMethod objectInit, Cond.code objectInit ⟨#[0xb1]⟩ 1 none, Cond.classLink RX5 7 RX0, Cond.instantiable RX0 7, Cond.initialized RX0, Cond.fieldLink RX5 10 "KnotLetters" "alphabet" "LKnotLetters$Alphabet;", Cond.classLink RX5 16 RX3, Cond.instantiable RX3 5, Cond.initialized RX3, Cond.fieldLink RX5 19 "KnotLetters" "knotter" "LKnotLetters$Knotter;", Cond.classLink RX5 23 RX2, Cond.instantiable RX2 4, Cond.initialized RX2]
def wsL_law0_r2 : List Cond := [Cond.fieldLink RX5 26 "KnotLetters" "costs" "LKnotLetters$Costs;", Cond.classLink RX5 30 RX4, Cond.instantiable RX4 8, Cond.initialized RX4, Cond.fieldLink RX5 35 "KnotLetters" "reader" "LKnotLetters$Reader;", Cond.classLink RX5 39 RX1, Cond.fieldLink RX5 41 "KnotLetters" "cords" "[LKnotLetters$Cord;", Cond.instantiable RX1 5, Cond.initialized RX1, Cond.arrayClass .int, Cond.fieldLink RX5 46 "KnotLetters" "tape" "[I", Cond.fieldLink RX5 50 "KnotLetters" "paper" "[I", Cond.instanceMethod yX0_init, Cond.code yX0_init cX0_init 1 none, Cond.methodLink RX0 3 objectInit, Cond.fieldLink RX0 9 "KnotLetters$Alphabet" "rows" "[I", Cond.fieldLink RX0 15 "KnotLetters$Alphabet" "sizes" "[I", Cond.fieldLink RX0 18 "KnotLetters$Alphabet" "ties" "[I", Cond.fieldLink RX0 21 "KnotLetters$Alphabet" "kinds" "[I", Cond.fieldLink RX0 24 "KnotLetters$Alphabet" "rests" "[I", Cond.fieldLink RX0 27 "KnotLetters$Alphabet" "isRest" "[I", Cond.instanceMethod yX3_init, Cond.code yX3_init cX3_init 1 none, Cond.methodLink RX3 3 objectInit]
def wsL_law0_r3 : List Cond := [Cond.methodLink RX5 25 yX2_init, Cond.instanceMethod yX2_init, Cond.code yX2_init cX2_init 1 none, Cond.methodLink RX2 3 objectInit, Cond.fieldLink RX2 11 "KnotLetters$Costs" "missed" "I", Cond.fieldLink RX2 15 "KnotLetters$Costs" "ghost" "I", Cond.fieldLink RX2 18 "KnotLetters$Costs" "taken" "[I", Cond.fieldLink RX2 22 "KnotLetters$Costs" "line" "[I", Cond.methodLink RX2 25 yJ7_fill_53178, Cond.static yJ7_fill_53178, Cond.initialized RJ7, Cond.code yJ7_fill_53178 cJ7_fill_53178 4 none, Cond.methodLink RX5 32 yX4_init, Cond.instanceMethod yX4_init, Cond.code yX4_init cX4_init 3 none, Cond.methodLink RX4 3 objectInit, Cond.fieldLink RX4 9 "KnotLetters$Reader" "weights" "[I", Cond.fieldLink RX4 15 "KnotLetters$Reader" "firstLetters" "[I", Cond.fieldLink RX4 18 "KnotLetters$Reader" "nextPlaces" "[I", Cond.fieldLink RX4 21 "KnotLetters$Reader" "begunWeights" "[I", Cond.fieldLink RX4 24 "KnotLetters$Reader" "begunPlaces" "[I", Cond.fieldLink RX4 27 "KnotLetters$Reader" "exactRows" "[I", Cond.fieldLink RX4 30 "KnotLetters$Reader" "alphabet" "LKnotLetters$Alphabet;", Cond.fieldLink RX4 34 "KnotLetters$Reader" "costs" "LKnotLetters$Costs;"]
def wsL_law0_r4 : List Cond := [Cond.instanceMethod yX1_init, Cond.code yX1_init cX1_init 1 none, Cond.methodLink RX1 3 objectInit, Cond.fieldLink RX1 9 "KnotLetters$Cord" "places" "[I", Cond.methodLink RL 74 yX6_init, Cond.instanceMethod yX6_init, Cond.code yX6_init cX6_init 2 none, Cond.methodLink RX6 1 objectInit, Cond.fieldLink RX6 9 "KnotLettersModel" "rows" "[I", Cond.fieldLink RX6 13 "KnotLettersModel" "tied" "[I", Cond.fieldLink RX6 16 "KnotLettersModel" "feel" "[I", Cond.fieldLink RX6 19 "KnotLettersModel" "missed" "I", Cond.fieldLink RX6 23 "KnotLettersModel" "ghost" "I", Cond.fieldLink RX6 26 "KnotLettersModel" "size" "[I", Cond.fieldLink RX6 29 "KnotLettersModel" "knots" "[I", Cond.fieldLink RX6 32 "KnotLettersModel" "slipped" "[I", Cond.fieldLink RX6 35 "KnotLettersModel" "skipped" "[I", Cond.fieldLink RX6 38 "KnotLettersModel" "tape" "[I", Cond.fieldLink RX6 41 "KnotLettersModel" "paper" "[I", Cond.fieldLink RX6 44 "KnotLettersModel" "cost" "[I", Cond.fieldLink RX6 47 "KnotLettersModel" "many" "[I", Cond.fieldLink RX6 50 "KnotLettersModel" "letters" "[I", Cond.fieldLink RX6 53 "KnotLettersModel" "nexts" "[I", Cond.fieldLink RX6 56 "KnotLettersModel" "line" "[I"]
def wsL_law0_r5 : List Cond := [Cond.methodLink RL 75 yL_setLetter, Cond.static yL_setLetter, Cond.initialized RL, Cond.codeWith yL_setLetter cL_setLetter 5 (some .int) [(0, 10, 13, 13), (0, 10, 17, 15)], Cond.classLink RL 13 "java/lang/IndexOutOfBoundsException", Cond.classLink RL 15 "java/lang/IllegalArgumentException", Cond.methodLink RL 7 yX5_setLetter, Cond.instanceMethod yX5_setLetter, Cond.selects RX5 yX5_setLetter yX5_setLetter, Cond.code yX5_setLetter cX5_setLetter 4 (some .int), Cond.classLink RX5 57 "java/lang/IndexOutOfBoundsException", Cond.initialized "java/lang/IndexOutOfBoundsException", Cond.classLink RX5 67 "java/lang/IllegalArgumentException", Cond.initialized "java/lang/IllegalArgumentException", Cond.fieldLink RX5 72 "KnotLetters$Alphabet" "rows" "[I", Cond.methodLink RX5 53 yX5_isNoLetter, Cond.static yX5_isNoLetter, Cond.code yX5_isNoLetter cX5_isNoLetter 1 (some .boolean), Cond.methodLink RX5 64 yX0_isRow, Cond.static yX0_isRow, Cond.code yX0_isRow cX0_isRow 2 (some .boolean), Cond.static yX5_isNoKind, Cond.code yX5_isNoKind cX5_isNoKind 1 (some .boolean), Cond.methodLink RX5 75 yX0_put]
def wsL_law0_r6 : List Cond := [Cond.instanceMethod yX0_put, Cond.selects RX0 yX0_put yX0_put, Cond.code yX0_put cX0_put 6 none, Cond.methodLink RL 80 yX6_setLetter, Cond.instanceMethod yX6_setLetter, Cond.selects RX6 yX6_setLetter yX6_setLetter, Cond.code yX6_setLetter cX6_setLetter 4 (some .int), Cond.fieldLink RX6 59 "KnotLettersModel" "thrown" "I", Cond.methodLink RX6 66 yX6_isIn, Cond.static yX6_isIn, Cond.code yX6_isIn cX6_isIn 3 (some .boolean), Cond.methodLink RX6 70 yX6_no, Cond.instanceMethod yX6_no, Cond.selects RX6 yX6_no yX6_no, Cond.code yX6_no cX6_no 2 (some .int), Cond.methodLink RX6 73 yX6_isRow, Cond.static yX6_isRow, Cond.code yX6_isRow cX6_isRow 3 (some .boolean), Cond.methodLink RL 81 yX6_thrown, Cond.instanceMethod yX6_thrown, Cond.selects RX6 yX6_thrown yX6_thrown, Cond.code yX6_thrown cX6_thrown 1 (some .int), Cond.methodLink RL 84 yL_letter, Cond.static yL_letter]
def wsL_law0_r7 : List Cond := [Cond.codeWith yL_letter cL_letter 5 (some .int) [(0, 10, 13, 13)], Cond.methodLink RL 17 yX5_letter, Cond.instanceMethod yX5_letter, Cond.selects RX5 yX5_letter yX5_letter, Cond.code yX5_letter cX5_letter 3 (some .int), Cond.fieldLink RX5 81 "KnotLetters$Alphabet" "sizes" "[I", Cond.fieldLink RX5 84 "KnotLetters$Alphabet" "ties" "[I", Cond.methodLink RL 86 yX6_letter, Cond.instanceMethod yX6_letter, Cond.selects RX6 yX6_letter yX6_letter, Cond.code yX6_letter cX6_letter 3 (some .int), Cond.methodLink RX6 77 yX6_letterTold, Cond.instanceMethod yX6_letterTold, Cond.selects RX6 yX6_letterTold yX6_letterTold, Cond.code yX6_letterTold cX6_letterTold 3 (some .int), Cond.methodLink RX6 62 yX6_lengthOf, Cond.static yX6_lengthOf, Cond.code yX6_lengthOf cX6_lengthOf 1 (some .int), Cond.methodLink RL 87 yX5_isFree, Cond.instanceMethod yX5_isFree, Cond.selects RX5 yX5_isFree yX5_isFree, Cond.code yX5_isFree cX5_isFree 2 (some .boolean), Cond.methodLink RX5 87 yX0_clashes, Cond.instanceMethod yX0_clashes]
def wsL_law0_r8 : List Cond := [Cond.selects RX0 yX0_clashes yX0_clashes, Cond.code yX0_clashes cX0_clashes 4 (some .boolean), Cond.methodLink RX0 43 yX0_restBehind, Cond.static yX0_restBehind, Cond.code yX0_restBehind cX0_restBehind 6 (some .int), Cond.methodLink RX0 34 Lib.Math.min.name, Cond.static Lib.Math.min.name, Cond.initialized "java/lang/Math", Cond.code Lib.Math.min.name Lib.Math.min.code 2 (some .int), Cond.methodLink RX0 40 Lib.Math.max.name, Cond.static Lib.Math.max.name, Cond.code Lib.Math.max.name Lib.Math.max.code 2 (some .int), Cond.methodLink RL 91 yX6_isFree, Cond.instanceMethod yX6_isFree, Cond.selects RX6 yX6_isFree yX6_isFree, Cond.code yX6_isFree cX6_isFree 4 (some .boolean), Cond.methodLink RX6 81 yX6_begins, Cond.static yX6_begins, Cond.code yX6_begins cX6_begins 3 (some .boolean), Cond.methodLink RL 92 yX5_isClear, Cond.instanceMethod yX5_isClear, Cond.selects RX5 yX5_isClear yX5_isClear, Cond.code yX5_isClear cX5_isClear 1 (some .boolean), Cond.methodLink RX5 91 yX0_hasOneReading]
def wsL_law0_r9 : List Cond := [Cond.instanceMethod yX0_hasOneReading, Cond.selects RX0 yX0_hasOneReading yX0_hasOneReading, Cond.code yX0_hasOneReading cX0_hasOneReading 2 (some .boolean), Cond.fieldLink RX0 46 "KnotLetters$Alphabet" "restCount" "I", Cond.methodLink RX0 50 yJ7_fill_53178, Cond.methodLink RX0 56 yX0_meetsSameRow, Cond.instanceMethod yX0_meetsSameRow, Cond.selects RX0 yX0_meetsSameRow yX0_meetsSameRow, Cond.code yX0_meetsSameRow cX0_meetsSameRow 5 (some .boolean), Cond.methodLink RX0 60 yX0_noteRest, Cond.instanceMethod yX0_noteRest, Cond.selects RX0 yX0_noteRest yX0_noteRest, Cond.code yX0_noteRest cX0_noteRest 2 none, Cond.methodLink RL 95 yX6_isClear, Cond.instanceMethod yX6_isClear, Cond.selects RX6 yX6_isClear yX6_isClear, Cond.code yX6_isClear cX6_isClear 7 (some .boolean), Cond.arrayClass .boolean, Cond.methodLink RX6 93 yX6_over, Cond.instanceMethod yX6_over, Cond.selects RX6 yX6_over yX6_over, Cond.code yX6_over cX6_over 7 (some .int), Cond.methodLink RX6 85 Lib.Math.min.name, Cond.methodLink RX6 90 yX6_knotOf]
def wsL_law0_r10 : List Cond := [Cond.static yX6_knotOf, Cond.code yX6_knotOf cX6_knotOf 4 (some .int), Cond.methodLink RL 96 yL_alike, Cond.static yL_alike, Cond.codeWith yL_alike cL_alike 5 (some .int) [(0, 10, 13, 13)], Cond.methodLink RL 20 yX5_alike, Cond.instanceMethod yX5_alike, Cond.selects RX5 yX5_alike yX5_alike, Cond.code yX5_alike cX5_alike 3 (some .int), Cond.methodLink RX5 97 yX5_letterDistance, Cond.instanceMethod yX5_letterDistance, Cond.selects RX5 yX5_letterDistance yX5_letterDistance, Cond.code yX5_letterDistance cX5_letterDistance 3 (some .int), Cond.fieldLink RX5 247 "KnotLetters$Alphabet" "kinds" "[I", Cond.methodLink RX5 250 yX2_fromRowToRow, Cond.instanceMethod yX2_fromRowToRow, Cond.selects RX2 yX2_fromRowToRow yX2_fromRowToRow, Cond.code yX2_fromRowToRow cX2_fromRowToRow 15 (some .int), Cond.methodLink RX2 43 Lib.Math.min.name, Cond.methodLink RX2 32 yX2_ghostOf, Cond.instanceMethod yX2_ghostOf, Cond.selects RX2 yX2_ghostOf yX2_ghostOf, Cond.code yX2_ghostOf cX2_ghostOf 2 (some .int), Cond.methodLink RX2 36 yX2_missing]
def wsL_law0_r11 : List Cond := [Cond.instanceMethod yX2_missing, Cond.selects RX2 yX2_missing yX2_missing, Cond.code yX2_missing cX2_missing 2 (some .int), Cond.methodLink RX2 39 yX2_taking, Cond.instanceMethod yX2_taking, Cond.selects RX2 yX2_taking yX2_taking, Cond.code yX2_taking cX2_taking 3 (some .int), Cond.constant RX2 31 (100000), Cond.methodLink RL 98 yX6_alike, Cond.instanceMethod yX6_alike, Cond.selects RX6 yX6_alike yX6_alike, Cond.code yX6_alike cX6_alike 3 (some .int), Cond.methodLink RX6 98 yX6_apart, Cond.instanceMethod yX6_apart, Cond.selects RX6 yX6_apart yX6_apart, Cond.code yX6_apart cX6_apart 9 (some .int), Cond.constant RX6 97 (100000000), Cond.methodLink RL 99 yX5_closest, Cond.instanceMethod yX5_closest, Cond.selects RX5 yX5_closest yX5_closest, Cond.code yX5_closest cX5_closest 6 (some .int), Cond.methodLink RL 102 yX6_closest, Cond.instanceMethod yX6_closest, Cond.selects RX6 yX6_closest yX6_closest]
def wsL_law0_r12 : List Cond := [Cond.code yX6_closest cX6_closest 5 (some .int), Cond.methodLink RL 103 yX5_advise, Cond.instanceMethod yX5_advise, Cond.selects RX5 yX5_advise yX5_advise, Cond.code yX5_advise cX5_advise 3 (some .int), Cond.methodLink RX5 101 yX0_rowOfRank, Cond.static yX0_rowOfRank, Cond.code yX0_rowOfRank cX0_rowOfRank 4 (some .int), Cond.methodLink RL 106 yX6_advise, Cond.instanceMethod yX6_advise, Cond.selects RX6 yX6_advise yX6_advise, Cond.code yX6_advise cX6_advise 4 (some .int), Cond.methodLink RL 107 yL_setKnotter, Cond.static yL_setKnotter, Cond.codeWith yL_setKnotter cL_setKnotter 5 (some .int) [(0, 10, 13, 15)], Cond.methodLink RL 23 yX5_setKnotter, Cond.instanceMethod yX5_setKnotter, Cond.selects RX5 yX5_setKnotter yX5_setKnotter, Cond.code yX5_setKnotter cX5_setKnotter 4 (some .int), Cond.fieldLink RX5 107 "KnotLetters$Knotter" "slip" "I", Cond.fieldLink RX5 111 "KnotLetters$Knotter" "skip" "I", Cond.methodLink RL 109 yX6_setKnotter, Cond.instanceMethod yX6_setKnotter, Cond.selects RX6 yX6_setKnotter yX6_setKnotter]
def wsL_law0_r13 : List Cond := [Cond.code yX6_setKnotter cX6_setKnotter 4 (some .int), Cond.fieldLink RX6 101 "KnotLettersModel" "slip" "I", Cond.fieldLink RX6 104 "KnotLettersModel" "skip" "I", Cond.methodLink RL 110 yL_setFeel, Cond.static yL_setFeel, Cond.codeWith yL_setFeel cL_setFeel 6 (some .int) [(0, 12, 15, 15)], Cond.methodLink RL 26 yX5_setFeel, Cond.instanceMethod yX5_setFeel, Cond.selects RX5 yX5_setFeel yX5_setFeel, Cond.code yX5_setFeel cX5_setFeel 5 (some .int), Cond.methodLink RX5 114 yX5_isNoKind, Cond.methodLink RX5 119 yX2_taking, Cond.methodLink RX5 122 yX2_putTaking, Cond.instanceMethod yX2_putTaking, Cond.selects RX2 yX2_putTaking yX2_putTaking, Cond.code yX2_putTaking cX2_putTaking 4 none, Cond.methodLink RL 113 yX6_setFeel, Cond.instanceMethod yX6_setFeel, Cond.selects RX6 yX6_setFeel yX6_setFeel, Cond.code yX6_setFeel cX6_setFeel 5 (some .int), Cond.methodLink RL 114 yL_setCosts, Cond.static yL_setCosts, Cond.codeWith yL_setCosts cL_setCosts 5 (some .int) [(0, 10, 13, 15)], Cond.methodLink RL 30 yX5_setCosts]
def wsL_law0_r14 : List Cond := [Cond.instanceMethod yX5_setCosts, Cond.selects RX5 yX5_setCosts yX5_setCosts, Cond.code yX5_setCosts cX5_setCosts 4 (some .int), Cond.fieldLink RX5 128 "KnotLetters$Costs" "missed" "I", Cond.fieldLink RX5 131 "KnotLetters$Costs" "ghost" "I", Cond.methodLink RL 116 yX6_setCosts, Cond.instanceMethod yX6_setCosts, Cond.selects RX6 yX6_setCosts yX6_setCosts, Cond.code yX6_setCosts cX6_setCosts 4 (some .int), Cond.methodLink RL 117 yL_feed, Cond.static yL_feed, Cond.codeWith yL_feed cL_feed 8 (some .int) [(0, 16, 19, 37)], Cond.classLink RL 37 "java/lang/IllegalStateException", Cond.methodLink RL 33 yX5_feed, Cond.instanceMethod yX5_feed, Cond.selects RX5 yX5_feed yX5_feed, Cond.code yX5_feed cX5_feed 6 (some .int), Cond.classLink RX5 137 "java/lang/IllegalStateException", Cond.initialized "java/lang/IllegalStateException", Cond.fieldLink RX5 134 "KnotLetters" "tapeSize" "I", Cond.methodLink RX5 142 yX5_appendNumber, Cond.instanceMethod yX5_appendNumber, Cond.selects RX5 yX5_appendNumber yX5_appendNumber, Cond.code yX5_appendNumber cX5_appendNumber 3 none]
def wsL_law0_r15 : List Cond := [Cond.methodLink RL 120 yX6_feed, Cond.instanceMethod yX6_feed, Cond.selects RX6 yX6_feed yX6_feed, Cond.code yX6_feed cX6_feed 12 (some .int), Cond.fieldLink RX6 107 "KnotLettersModel" "taped" "I", Cond.methodLink RL 121 yL_trim, Cond.static yL_trim, Cond.codeWith yL_trim cL_trim 4 (some .int) [(0, 9, 12, 15)], Cond.methodLink RL 39 yX5_trim, Cond.instanceMethod yX5_trim, Cond.selects RX5 yX5_trim yX5_trim, Cond.code yX5_trim cX5_trim 2 (some .int), Cond.methodLink RL 124 yX6_trim, Cond.instanceMethod yX6_trim, Cond.selects RX6 yX6_trim yX6_trim, Cond.code yX6_trim cX6_trim 2 (some .int), Cond.methodLink RL 125 yL_tie, Cond.static yL_tie, Cond.codeWith yL_tie cL_tie 3 (some .int) [(0, 8, 11, 37)], Cond.methodLink RL 43 yX5_tie, Cond.instanceMethod yX5_tie, Cond.selects RX5 yX5_tie yX5_tie, Cond.code yX5_tie cX5_tie 3 (some .int), Cond.fieldLink RX5 148 "KnotLetters" "cordCount" "I"]
def wsL_law0_r16 : List Cond := [Cond.methodLink RX5 151 yX5_placesOnTape, Cond.instanceMethod yX5_placesOnTape, Cond.selects RX5 yX5_placesOnTape yX5_placesOnTape, Cond.code yX5_placesOnTape cX5_placesOnTape 4 (some .int), Cond.methodLink RX5 254 yX5_letterOfByte, Cond.instanceMethod yX5_letterOfByte, Cond.selects RX5 yX5_letterOfByte yX5_letterOfByte, Cond.code yX5_letterOfByte cX5_letterOfByte 3 (some .int), Cond.methodLink RX5 157 yX5_isTapeText, Cond.instanceMethod yX5_isTapeText, Cond.selects RX5 yX5_isTapeText yX5_isTapeText, Cond.code yX5_isTapeText cX5_isTapeText 2 (some .boolean), Cond.methodLink RX5 160 yX5_tieByte, Cond.instanceMethod yX5_tieByte, Cond.selects RX5 yX5_tieByte yX5_tieByte, Cond.code yX5_tieByte cX5_tieByte 5 none, Cond.methodLink RX5 257 yX1_addGap, Cond.instanceMethod yX1_addGap, Cond.selects RX1 yX1_addGap yX1_addGap, Cond.code yX1_addGap cX1_addGap 1 none, Cond.fieldLink RX1 19 "KnotLetters$Cord" "gaps" "I", Cond.methodLink RX1 22 yX1_add, Cond.instanceMethod yX1_add, Cond.selects RX1 yX1_add yX1_add]
def wsL_law0_r17 : List Cond := [Cond.code yX1_add cX1_add 2 none, Cond.fieldLink RX1 15 "KnotLetters$Cord" "size" "I", Cond.methodLink RX5 260 yX0_kindAt, Cond.instanceMethod yX0_kindAt, Cond.selects RX0 yX0_kindAt yX0_kindAt, Cond.code yX0_kindAt cX0_kindAt 3 (some .int), Cond.methodLink RX5 263 yX3_tieKnot, Cond.instanceMethod yX3_tieKnot, Cond.selects RX3 yX3_tieKnot yX3_tieKnot, Cond.code yX3_tieKnot cX3_tieKnot 3 none, Cond.fieldLink RX3 9 "KnotLetters$Knotter" "counted" "I", Cond.fieldLink RX3 15 "KnotLetters$Knotter" "skip" "I", Cond.fieldLink RX3 18 "KnotLetters$Knotter" "leftOut" "I", Cond.fieldLink RX3 21 "KnotLetters$Cord" "leftOut" "I", Cond.fieldLink RX3 24 "KnotLetters$Knotter" "slip" "I", Cond.fieldLink RX3 27 "KnotLetters$Knotter" "slipped" "I", Cond.fieldLink RX3 30 "KnotLetters$Cord" "slipped" "I", Cond.methodLink RX3 31 yX1_add, Cond.methodLink RL 128 yX6_tie, Cond.instanceMethod yX6_tie, Cond.selects RX6 yX6_tie yX6_tie, Cond.code yX6_tie cX6_tie 5 (some .int), Cond.fieldLink RX6 113 "KnotLettersModel" "cords" "I", Cond.methodLink RX6 110 yX6_isLetter]
def wsL_law0_r18 : List Cond := [Cond.instanceMethod yX6_isLetter, Cond.selects RX6 yX6_isLetter yX6_isLetter, Cond.code yX6_isLetter cX6_isLetter 2 (some .boolean), Cond.methodLink RX6 116 yX6_put, Cond.instanceMethod yX6_put, Cond.selects RX6 yX6_put yX6_put, Cond.code yX6_put cX6_put 3 none, Cond.methodLink RX6 120 yX6_tie_, Cond.instanceMethod yX6_tie_, Cond.selects RX6 yX6_tie_ yX6_tie_, Cond.code yX6_tie_ cX6_tie_ 5 none, Cond.fieldLink RX6 123 "KnotLettersModel" "counted" "I", Cond.methodLink RL 129 yL_cord, Cond.static yL_cord, Cond.codeWith yL_cord cL_cord 5 (some .int) [(0, 10, 13, 13)], Cond.methodLink RL 47 yX5_cord, Cond.instanceMethod yX5_cord, Cond.selects RX5 yX5_cord yX5_cord, Cond.code yX5_cord cX5_cord 3 (some .int), Cond.fieldLink RX5 169 "KnotLetters$Cord" "size" "I", Cond.fieldLink RX5 172 "KnotLetters$Cord" "gaps" "I", Cond.fieldLink RX5 175 "KnotLetters$Cord" "slipped" "I", Cond.fieldLink RX5 178 "KnotLetters$Cord" "leftOut" "I", Cond.methodLink RX5 164 yX5_isNoCord]
def wsL_law0_r19 : List Cond := [Cond.instanceMethod yX5_isNoCord, Cond.selects RX5 yX5_isNoCord yX5_isNoCord, Cond.code yX5_isNoCord cX5_isNoCord 2 (some .boolean), Cond.methodLink RX5 181 yX4_weightOf, Cond.instanceMethod yX4_weightOf, Cond.selects RX4 yX4_weightOf yX4_weightOf, Cond.code yX4_weightOf cX4_weightOf 5 (some .int), Cond.fieldLink RX4 38 "KnotLetters$Cord" "size" "I", Cond.methodLink RX4 44 yX1_endsWord, Cond.instanceMethod yX1_endsWord, Cond.selects RX1 yX1_endsWord yX1_endsWord, Cond.code yX1_endsWord cX1_endsWord 2 (some .boolean), Cond.methodLink RX4 48 yX4_weighWord, Cond.instanceMethod yX4_weighWord, Cond.selects RX4 yX4_weighWord yX4_weighWord, Cond.code yX4_weighWord cX4_weighWord 6 none, Cond.fieldLink RX4 64 "KnotLetters$Cord" "places" "[I", Cond.methodLink RX4 60 yX4_weighLetterEnd, Cond.instanceMethod yX4_weighLetterEnd, Cond.selects RX4 yX4_weighLetterEnd yX4_weighLetterEnd, Cond.code yX4_weighLetterEnd cX4_weighLetterEnd 6 none, Cond.fieldLink RX4 79 "KnotLetters$Alphabet" "sizes" "[I", Cond.fieldLink RX4 88 "KnotLetters$Costs" "missed" "I", Cond.methodLink RX4 84 yX4_slotOf]
def wsL_law0_r20 : List Cond := [Cond.static yX4_slotOf, Cond.code yX4_slotOf cX4_slotOf 3 (some .int), Cond.methodLink RX4 67 yX4_weighPlace, Cond.instanceMethod yX4_weighPlace, Cond.selects RX4 yX4_weighPlace yX4_weighPlace, Cond.code yX4_weighPlace cX4_weighPlace 7 none, Cond.fieldLink RX4 74 "KnotLetters$Costs" "ghost" "I", Cond.methodLink RX4 91 yX0_kindAt, Cond.methodLink RX4 95 yX2_taking, Cond.methodLink RX4 98 yX4_offerLetter, Cond.instanceMethod yX4_offerLetter, Cond.selects RX4 yX4_offerLetter yX4_offerLetter, Cond.code yX4_offerLetter cX4_offerLetter 6 none, Cond.methodLink RX4 102 yX4_comesFirst, Cond.instanceMethod yX4_comesFirst, Cond.selects RX4 yX4_comesFirst yX4_comesFirst, Cond.code yX4_comesFirst cX4_comesFirst 6 (some .boolean), Cond.methodLink RX4 70 yX4_weighLetter, Cond.instanceMethod yX4_weighLetter, Cond.selects RX4 yX4_weighLetter yX4_weighLetter, Cond.code yX4_weighLetter cX4_weighLetter 7 none, Cond.methodLink RX4 106 yX4_offerSlot, Cond.instanceMethod yX4_offerSlot, Cond.selects RX4 yX4_offerSlot yX4_offerSlot]
def wsL_law0_r21 : List Cond := [Cond.code yX4_offerSlot cX4_offerSlot 5 none, Cond.methodLink RX5 185 yX4_costIn, Cond.static yX4_costIn, Cond.code yX4_costIn cX4_costIn 1 (some .int), Cond.methodLink RX5 188 yX4_lettersIn, Cond.static yX4_lettersIn, Cond.code yX4_lettersIn cX4_lettersIn 1 (some .int), Cond.methodLink RX5 191 yX4_exactRowsOf, Cond.instanceMethod yX4_exactRowsOf, Cond.selects RX4 yX4_exactRowsOf yX4_exactRowsOf, Cond.code yX4_exactRowsOf cX4_exactRowsOf 6 (some .int), Cond.constantLong RX4 113 (1000000), Cond.methodLink RX4 115 Lib.MathLoose.min_long.x, Cond.static Lib.MathLoose.min_long.x, Cond.code Lib.MathLoose.min_long.x Lib.MathLoose.min_long.code 4 (some .long), Cond.methodLink RX4 109 yX4_exactRowsOfWord, Cond.instanceMethod yX4_exactRowsOfWord, Cond.selects RX4 yX4_exactRowsOfWord yX4_exactRowsOfWord, Cond.code yX4_exactRowsOfWord cX4_exactRowsOfWord 7 (some .int), Cond.constant RX4 125 (1000000), Cond.methodLink RX4 126 Lib.Math.min.name, Cond.methodLink RX4 121 yX4_stands, Cond.instanceMethod yX4_stands, Cond.selects RX4 yX4_stands yX4_stands]
def wsL_law0_r22 : List Cond := [Cond.code yX4_stands cX4_stands 7 (some .boolean), Cond.methodLink RL 131 yX6_cord, Cond.instanceMethod yX6_cord, Cond.selects RX6 yX6_cord yX6_cord, Cond.code yX6_cord cX6_cord 3 (some .int), Cond.methodLink RX6 160 yX6_isCord, Cond.instanceMethod yX6_isCord, Cond.selects RX6 yX6_isCord yX6_isCord, Cond.code yX6_isCord cX6_isCord 2 (some .boolean), Cond.methodLink RX6 163 yX6_cordTold, Cond.instanceMethod yX6_cordTold, Cond.selects RX6 yX6_cordTold yX6_cordTold, Cond.code yX6_cordTold cX6_cordTold 5 (some .int), Cond.methodLink RX6 157 yX6_over_, Cond.instanceMethod yX6_over_, Cond.selects RX6 yX6_over_ yX6_over_, Cond.code yX6_over_ cX6_over_ 9 (some .int), Cond.constantLong RX6 139 (1000000), Cond.methodLink RX6 144 Lib.MathLoose.min_long.x, Cond.methodLink RX6 141 yX6_ways, Cond.instanceMethod yX6_ways, Cond.selects RX6 yX6_ways yX6_ways, Cond.code yX6_ways cX6_ways 9 (some .int), Cond.constant RX6 138 (1000000)]
def wsL_law0_r23 : List Cond := [Cond.methodLink RX6 147 yX6_find, Cond.instanceMethod yX6_find, Cond.selects RX6 yX6_find yX6_find, Cond.code yX6_find cX6_find 7 none, Cond.methodLink RX6 126 yX6_lay, Cond.instanceMethod yX6_lay, Cond.selects RX6 yX6_lay yX6_lay, Cond.code yX6_lay cX6_lay 8 none, Cond.methodLink RX6 130 yX6_improve, Cond.instanceMethod yX6_improve, Cond.selects RX6 yX6_improve yX6_improve, Cond.code yX6_improve cX6_improve 5 none, Cond.methodLink RX6 134 yX6_isAhead, Cond.instanceMethod yX6_isAhead, Cond.selects RX6 yX6_isAhead yX6_isAhead, Cond.code yX6_isAhead cX6_isAhead 7 (some .boolean), Cond.methodLink RX6 150 yX6_write, Cond.instanceMethod yX6_write, Cond.selects RX6 yX6_write yX6_write, Cond.code yX6_write cX6_write 4 none, Cond.fieldLink RX6 154 "KnotLettersModel" "papered" "I", Cond.methodLink RL 132 yL_knot, Cond.static yL_knot, Cond.codeWith yL_knot cL_knot 5 (some .int) [(0, 10, 13, 13)]]
def wsL_law0_r24 : List Cond := [Cond.methodLink RL 50 yX5_knot, Cond.instanceMethod yX5_knot, Cond.selects RX5 yX5_knot yX5_knot, Cond.code yX5_knot cX5_knot 3 (some .int), Cond.fieldLink RX5 199 "KnotLetters$Cord" "places" "[I", Cond.methodLink RX5 194 yX5_isNoPlace, Cond.instanceMethod yX5_isNoPlace, Cond.selects RX5 yX5_isNoPlace yX5_isNoPlace, Cond.code yX5_isNoPlace cX5_isNoPlace 3 (some .boolean), Cond.methodLink RL 134 yX6_knot, Cond.instanceMethod yX6_knot, Cond.selects RX6 yX6_knot yX6_knot, Cond.code yX6_knot cX6_knot 3 (some .int), Cond.methodLink RL 135 yL_retie, Cond.static yL_retie, Cond.codeWith yL_retie cL_retie 6 (some .int) [(0, 12, 15, 13), (0, 12, 19, 15), (0, 12, 23, 37)], Cond.methodLink RL 53 yX5_retie, Cond.instanceMethod yX5_retie, Cond.selects RX5 yX5_retie yX5_retie, Cond.code yX5_retie cX5_retie 5 (some .int), Cond.methodLink RL 137 yX6_retie, Cond.instanceMethod yX6_retie, Cond.selects RX6 yX6_retie yX6_retie, Cond.code yX6_retie cX6_retie 5 (some .int)]
def wsL_law0_r25 : List Cond := [Cond.methodLink RL 138 yL_distance, Cond.static yL_distance, Cond.codeWith yL_distance cL_distance 5 (some .int) [(0, 10, 13, 13)], Cond.methodLink RL 56 yX5_distance, Cond.instanceMethod yX5_distance, Cond.selects RX5 yX5_distance yX5_distance, Cond.code yX5_distance cX5_distance 3 (some .int), Cond.methodLink RX5 208 yX5_cordDistance, Cond.instanceMethod yX5_cordDistance, Cond.selects RX5 yX5_cordDistance yX5_cordDistance, Cond.code yX5_cordDistance cX5_cordDistance 3 (some .int), Cond.methodLink RL 140 yX6_distance, Cond.instanceMethod yX6_distance, Cond.selects RX6 yX6_distance yX6_distance, Cond.code yX6_distance cX6_distance 3 (some .int), Cond.methodLink RX6 166 yX6_between, Cond.instanceMethod yX6_between, Cond.selects RX6 yX6_between yX6_between, Cond.code yX6_between cX6_between 10 (some .int), Cond.methodLink RL 141 yL_nearest, Cond.static yL_nearest, Cond.codeWith yL_nearest cL_nearest 4 (some .int) [(0, 9, 12, 13)], Cond.methodLink RL 59 yX5_nearest, Cond.instanceMethod yX5_nearest]
def wsL_law0_r26 : List Cond := [Cond.selects RX5 yX5_nearest yX5_nearest, Cond.code yX5_nearest cX5_nearest 6 (some .int), Cond.methodLink RL 143 yX6_nearest, Cond.instanceMethod yX6_nearest, Cond.selects RX6 yX6_nearest yX6_nearest, Cond.code yX6_nearest cX6_nearest 6 (some .int), Cond.methodLink RL 144 yL_read, Cond.static yL_read, Cond.codeWith yL_read cL_read 4 (some .int) [(0, 9, 12, 13)], Cond.methodLink RL 62 yX5_read, Cond.instanceMethod yX5_read, Cond.selects RX5 yX5_read yX5_read, Cond.code yX5_read cX5_read 2 (some .int), Cond.fieldLink RX5 215 "KnotLetters" "paperSize" "I", Cond.methodLink RX5 211 yX4_writeText, Cond.instanceMethod yX4_writeText, Cond.selects RX4 yX4_writeText yX4_writeText, Cond.code yX4_writeText cX4_writeText 6 (some .int), Cond.methodLink RX4 52 yX4_writeWord, Cond.instanceMethod yX4_writeWord, Cond.selects RX4 yX4_writeWord yX4_writeWord, Cond.code yX4_writeWord cX4_writeWord 7 (some .int), Cond.methodLink RX4 56 yX4_lettersIn, Cond.methodLink RL 146 yX6_read]
def wsL_law0_r27 : List Cond := [Cond.instanceMethod yX6_read, Cond.selects RX6 yX6_read yX6_read, Cond.code yX6_read cX6_read 2 (some .int), Cond.methodLink RL 147 yL_byteAt, Cond.static yL_byteAt, Cond.codeWith yL_byteAt cL_byteAt 4 (some .int) [(0, 9, 12, 13)], Cond.methodLink RL 65 yX5_byteAt, Cond.instanceMethod yX5_byteAt, Cond.selects RX5 yX5_byteAt yX5_byteAt, Cond.code yX5_byteAt cX5_byteAt 2 (some .int), Cond.methodLink RL 149 yX6_byteAt, Cond.instanceMethod yX6_byteAt, Cond.selects RX6 yX6_byteAt yX6_byteAt, Cond.code yX6_byteAt cX6_byteAt 2 (some .int), Cond.methodLink RL 150 yL_count, Cond.static yL_count, Cond.codeWith yL_count cL_count 4 (some .int) [(0, 9, 12, 13)], Cond.methodLink RL 68 yX5_count, Cond.instanceMethod yX5_count, Cond.selects RX5 yX5_count yX5_count, Cond.code yX5_count cX5_count 2 (some .int), Cond.fieldLink RX5 225 "KnotLetters$Knotter" "counted" "I", Cond.fieldLink RX5 228 "KnotLetters$Knotter" "slipped" "I", Cond.fieldLink RX5 229 "KnotLetters$Knotter" "leftOut" "I"]
def wsL_law0_r28 : List Cond := [Cond.methodLink RX5 222 yX0_lettersWithKnots, Cond.instanceMethod yX0_lettersWithKnots, Cond.selects RX0 yX0_lettersWithKnots yX0_lettersWithKnots, Cond.code yX0_lettersWithKnots cX0_lettersWithKnots 3 (some .int), Cond.methodLink RL 152 yX6_count, Cond.instanceMethod yX6_count, Cond.selects RX6 yX6_count yX6_count, Cond.code yX6_count cX6_count 2 (some .int), Cond.methodLink RX6 169 yX6_sum, Cond.instanceMethod yX6_sum, Cond.selects RX6 yX6_sum yX6_sum, Cond.code yX6_sum cX6_sum 6 (some .int), Cond.methodLink RL 153 yX5_mean, Cond.instanceMethod yX5_mean, Cond.selects RX5 yX5_mean yX5_mean, Cond.code yX5_mean cX5_mean 4 (some .double), Cond.methodLink RL 157 yX6_mean, Cond.instanceMethod yX6_mean, Cond.selects RX6 yX6_mean yX6_mean, Cond.code yX6_mean cX6_mean 3 (some .double), Cond.methodLink RL 158 yX5_digest, Cond.instanceMethod yX5_digest, Cond.selects RX5 yX5_digest yX5_digest, Cond.code yX5_digest cX5_digest 5 (some .long)]
def wsL_law0_r29 : List Cond := [Cond.constantLong RX5 230 (571), Cond.methodLink RX5 232 yX5_count, Cond.methodLink RX5 235 yX5_mixed, Cond.static yX5_mixed, Cond.code yX5_mixed cX5_mixed 3 (some .long), Cond.constantLong RX5 245 (31), Cond.methodLink RX5 239 yX5_letter, Cond.methodLink RX5 242 yX5_cord, Cond.methodLink RL 162 yX6_digest, Cond.instanceMethod yX6_digest, Cond.selects RX6 yX6_digest yX6_digest, Cond.code yX6_digest cX6_digest 5 (some .long), Cond.constantLong RX6 172 (571), Cond.constantLong RX6 174 (31)]
def wsL_law0 : List Cond := (wsL_law0_r1 ++ (wsL_law0_r2 ++ (wsL_law0_r3 ++ (wsL_law0_r4 ++ (wsL_law0_r5 ++ (wsL_law0_r6 ++ (wsL_law0_r7 ++ (wsL_law0_r8 ++ (wsL_law0_r9 ++ (wsL_law0_r10 ++ (wsL_law0_r11 ++ (wsL_law0_r12 ++ (wsL_law0_r13 ++ (wsL_law0_r14 ++ (wsL_law0_r15 ++ (wsL_law0_r16 ++ (wsL_law0_r17 ++ (wsL_law0_r18 ++ (wsL_law0_r19 ++ (wsL_law0_r20 ++ (wsL_law0_r21 ++ (wsL_law0_r22 ++ (wsL_law0_r23 ++ (wsL_law0_r24 ++ (wsL_law0_r25 ++ (wsL_law0_r26 ++ (wsL_law0_r27 ++ (wsL_law0_r28 ++ wsL_law0_r29)))))))))))))))))))))))))))) ++ wsX50 ++ wsX60 ++ wsX00 ++ wsX30 ++ wsX20 ++ wsX40 ++ wsX10 ++ ([] : List Cond)
def wsL_law : List Cond := wsL_law0 ++ (vx_atS RX5 61 "java/lang/IndexOutOfBoundsException" ["java/lang/RuntimeException", "java/lang/Exception"]).filter goodWord ++ (vx_atS RX5 71 "java/lang/IllegalArgumentException" ["java/lang/RuntimeException", "java/lang/Exception"]).filter goodWord ++ (vx_atS RX5 141 "java/lang/IllegalStateException" ["java/lang/RuntimeException", "java/lang/Exception"]).filter goodWord
theorem inlX0 : ∀ w ∈ wsX00, w ∈ wsL_law := fun _ h => List.mem_append_left _ (List.mem_append_left _ (List.mem_append_left _ (List.mem_append_left _ (List.mem_append_left _ (List.mem_append_left _ (List.mem_append_left _ (List.mem_append_left _ (List.mem_append_right _ h))))))))
theorem inlX1 : ∀ w ∈ wsX10, w ∈ wsL_law := fun _ h => List.mem_append_left _ (List.mem_append_left _ (List.mem_append_left _ (List.mem_append_left _ (List.mem_append_right _ h))))
theorem inlX2 : ∀ w ∈ wsX20, w ∈ wsL_law := fun _ h => List.mem_append_left _ (List.mem_append_left _ (List.mem_append_left _ (List.mem_append_left _ (List.mem_append_left _ (List.mem_append_left _ (List.mem_append_right _ h))))))
theorem inlX3 : ∀ w ∈ wsX30, w ∈ wsL_law := fun _ h => List.mem_append_left _ (List.mem_append_left _ (List.mem_append_left _ (List.mem_append_left _ (List.mem_append_left _ (List.mem_append_left _ (List.mem_append_left _ (List.mem_append_right _ h)))))))
theorem inlX4 : ∀ w ∈ wsX40, w ∈ wsL_law := fun _ h => List.mem_append_left _ (List.mem_append_left _ (List.mem_append_left _ (List.mem_append_left _ (List.mem_append_left _ (List.mem_append_right _ h)))))
theorem inlX5 : ∀ w ∈ wsX50, w ∈ wsL_law := fun _ h => List.mem_append_left _ (List.mem_append_left _ (List.mem_append_left _ (List.mem_append_left _ (List.mem_append_left _ (List.mem_append_left _ (List.mem_append_left _ (List.mem_append_left _ (List.mem_append_left _ (List.mem_append_left _ (List.mem_append_right _ h))))))))))
theorem inlX6 : ∀ w ∈ wsX60, w ∈ wsL_law := fun _ h => List.mem_append_left _ (List.mem_append_left _ (List.mem_append_left _ (List.mem_append_left _ (List.mem_append_left _ (List.mem_append_left _ (List.mem_append_left _ (List.mem_append_left _ (List.mem_append_left _ (List.mem_append_right _ h)))))))))
abbrev vwCl : List vw_C := [(RX0, TX0, 7), (RX1, TX1, 5), (RX2, TX2, 4), (RX3, TX3, 5), (RX4, TX4, 8), (RX5, TX5, 10), (RX6, TX6, 23)]
end
section
theorem dX0_init_0 : decode cX0_init 0 = .ok (.aload_n 0, 1) := by decide +kernel
theorem dX0_init_1 : decode cX0_init 1 = .ok (.invokespecial 3, 3) := by decide +kernel
theorem dX0_init_4 : decode cX0_init 4 = .ok (.aload_n 0, 1) := by decide +kernel
theorem dX0_init_5 : decode cX0_init 5 = .ok (.bipush 12, 2) := by decide +kernel
theorem dX0_init_7 : decode cX0_init 7 = .ok (.newarray .int, 2) := by decide +kernel
theorem dX0_init_9 : decode cX0_init 9 = .ok (.putfield 9, 3) := by decide +kernel
theorem dX0_init_12 : decode cX0_init 12 = .ok (.aload_n 0, 1) := by decide +kernel
theorem dX0_init_13 : decode cX0_init 13 = .ok (.bipush 12, 2) := by decide +kernel
theorem dX0_init_15 : decode cX0_init 15 = .ok (.newarray .int, 2) := by decide +kernel
theorem dX0_init_17 : decode cX0_init 17 = .ok (.putfield 15, 3) := by decide +kernel
theorem dX0_init_20 : decode cX0_init 20 = .ok (.aload_n 0, 1) := by decide +kernel
theorem dX0_init_21 : decode cX0_init 21 = .ok (.bipush 12, 2) := by decide +kernel
theorem dX0_init_23 : decode cX0_init 23 = .ok (.newarray .int, 2) := by decide +kernel
theorem dX0_init_25 : decode cX0_init 25 = .ok (.putfield 18, 3) := by decide +kernel
theorem dX0_init_28 : decode cX0_init 28 = .ok (.aload_n 0, 1) := by decide +kernel
theorem dX0_init_29 : decode cX0_init 29 = .ok (.bipush 48, 2) := by decide +kernel
theorem dX0_init_31 : decode cX0_init 31 = .ok (.newarray .int, 2) := by decide +kernel
theorem dX0_init_33 : decode cX0_init 33 = .ok (.putfield 21, 3) := by decide +kernel
theorem dX0_init_36 : decode cX0_init 36 = .ok (.aload_n 0, 1) := by decide +kernel
theorem dX0_init_37 : decode cX0_init 37 = .ok (.bipush 84, 2) := by decide +kernel
theorem dX0_init_39 : decode cX0_init 39 = .ok (.newarray .int, 2) := by decide +kernel
theorem dX0_init_41 : decode cX0_init 41 = .ok (.putfield 24, 3) := by decide +kernel
theorem dX0_init_44 : decode cX0_init 44 = .ok (.aload_n 0, 1) := by decide +kernel
theorem dX0_init_45 : decode cX0_init 45 = .ok (.sipush 445, 3) := by decide +kernel
theorem dX0_init_48 : decode cX0_init 48 = .ok (.newarray .int, 2) := by decide +kernel
theorem dX0_init_50 : decode cX0_init 50 = .ok (.putfield 27, 3) := by decide +kernel
theorem dX0_init_53 : decode cX0_init 53 = .ok (.return_, 1) := by decide +kernel
theorem dX0_isRow_0 : decode cX0_isRow 0 = .ok (.iload_n 0, 1) := by decide +kernel
theorem dX0_isRow_1 : decode cX0_isRow 1 = .ok (.iconst 1, 1) := by decide +kernel
theorem dX0_isRow_2 : decode cX0_isRow 2 = .ok (.if_icmp .lt 10, 3) := by decide +kernel
theorem dX0_isRow_5 : decode cX0_isRow 5 = .ok (.iload_n 0, 1) := by decide +kernel
theorem dX0_isRow_6 : decode cX0_isRow 6 = .ok (.sipush 4444, 3) := by decide +kernel
theorem dX0_isRow_9 : decode cX0_isRow 9 = .ok (.if_icmp .le 5, 3) := by decide +kernel
theorem dX0_isRow_12 : decode cX0_isRow 12 = .ok (.iconst 0, 1) := by decide +kernel
theorem dX0_isRow_13 : decode cX0_isRow 13 = .ok (.ireturn, 1) := by decide +kernel
theorem dX0_isRow_14 : decode cX0_isRow 14 = .ok (.iload_n 0, 1) := by decide +kernel
theorem dX0_isRow_15 : decode cX0_isRow 15 = .ok (.istore_n 1, 1) := by decide +kernel
theorem dX0_isRow_16 : decode cX0_isRow 16 = .ok (.iload_n 1, 1) := by decide +kernel
theorem dX0_isRow_17 : decode cX0_isRow 17 = .ok (.ifCond .le 23, 3) := by decide +kernel
theorem dX0_isRow_20 : decode cX0_isRow 20 = .ok (.iload_n 1, 1) := by decide +kernel
theorem dX0_isRow_21 : decode cX0_isRow 21 = .ok (.bipush 10, 2) := by decide +kernel
theorem dX0_isRow_23 : decode cX0_isRow 23 = .ok (.irem, 1) := by decide +kernel
theorem dX0_isRow_24 : decode cX0_isRow 24 = .ok (.invokestatic 30, 3) := by decide +kernel
theorem dX0_isRow_27 : decode cX0_isRow 27 = .ok (.ifCond .eq 5, 3) := by decide +kernel
theorem dX0_isRow_30 : decode cX0_isRow 30 = .ok (.iconst 0, 1) := by decide +kernel
theorem dX0_isRow_31 : decode cX0_isRow 31 = .ok (.ireturn, 1) := by decide +kernel
theorem dX0_isRow_32 : decode cX0_isRow 32 = .ok (.iload_n 1, 1) := by decide +kernel
theorem dX0_isRow_33 : decode cX0_isRow 33 = .ok (.bipush 10, 2) := by decide +kernel
theorem dX0_isRow_35 : decode cX0_isRow 35 = .ok (.idiv, 1) := by decide +kernel
theorem dX0_isRow_36 : decode cX0_isRow 36 = .ok (.istore_n 1, 1) := by decide +kernel
theorem dX0_isRow_37 : decode cX0_isRow 37 = .ok (.goto (-21), 3) := by decide +kernel
theorem dX0_isRow_40 : decode cX0_isRow 40 = .ok (.iconst 1, 1) := by decide +kernel
theorem dX0_isRow_41 : decode cX0_isRow 41 = .ok (.ireturn, 1) := by decide +kernel
theorem dX0_rowOfRank_0 : decode cX0_rowOfRank 0 = .ok (.iconst 0, 1) := by decide +kernel
theorem dX0_rowOfRank_1 : decode cX0_rowOfRank 1 = .ok (.istore_n 1, 1) := by decide +kernel
theorem dX0_rowOfRank_2 : decode cX0_rowOfRank 2 = .ok (.iconst 1, 1) := by decide +kernel
theorem dX0_rowOfRank_3 : decode cX0_rowOfRank 3 = .ok (.istore_n 2, 1) := by decide +kernel
theorem dX0_rowOfRank_4 : decode cX0_rowOfRank 4 = .ok (.iload_n 0, 1) := by decide +kernel
theorem dX0_rowOfRank_5 : decode cX0_rowOfRank 5 = .ok (.istore_n 3, 1) := by decide +kernel
theorem dX0_rowOfRank_6 : decode cX0_rowOfRank 6 = .ok (.iload_n 3, 1) := by decide +kernel
theorem dX0_rowOfRank_7 : decode cX0_rowOfRank 7 = .ok (.ifCond .le 29, 3) := by decide +kernel
theorem dX0_rowOfRank_10 : decode cX0_rowOfRank 10 = .ok (.iload_n 1, 1) := by decide +kernel
theorem dX0_rowOfRank_11 : decode cX0_rowOfRank 11 = .ok (.iload_n 2, 1) := by decide +kernel
theorem dX0_rowOfRank_12 : decode cX0_rowOfRank 12 = .ok (.iload_n 3, 1) := by decide +kernel
theorem dX0_rowOfRank_13 : decode cX0_rowOfRank 13 = .ok (.iconst 1, 1) := by decide +kernel
theorem dX0_rowOfRank_14 : decode cX0_rowOfRank 14 = .ok (.isub, 1) := by decide +kernel
theorem dX0_rowOfRank_15 : decode cX0_rowOfRank 15 = .ok (.iconst 4, 1) := by decide +kernel
theorem dX0_rowOfRank_16 : decode cX0_rowOfRank 16 = .ok (.irem, 1) := by decide +kernel
theorem dX0_rowOfRank_17 : decode cX0_rowOfRank 17 = .ok (.iconst 1, 1) := by decide +kernel
theorem dX0_rowOfRank_18 : decode cX0_rowOfRank 18 = .ok (.iadd, 1) := by decide +kernel
theorem dX0_rowOfRank_19 : decode cX0_rowOfRank 19 = .ok (.imul, 1) := by decide +kernel
theorem dX0_rowOfRank_20 : decode cX0_rowOfRank 20 = .ok (.iadd, 1) := by decide +kernel
theorem dX0_rowOfRank_21 : decode cX0_rowOfRank 21 = .ok (.istore_n 1, 1) := by decide +kernel
theorem dX0_rowOfRank_22 : decode cX0_rowOfRank 22 = .ok (.iload_n 2, 1) := by decide +kernel
theorem dX0_rowOfRank_23 : decode cX0_rowOfRank 23 = .ok (.bipush 10, 2) := by decide +kernel
theorem dX0_rowOfRank_25 : decode cX0_rowOfRank 25 = .ok (.imul, 1) := by decide +kernel
theorem dX0_rowOfRank_26 : decode cX0_rowOfRank 26 = .ok (.istore_n 2, 1) := by decide +kernel
theorem dX0_rowOfRank_27 : decode cX0_rowOfRank 27 = .ok (.iload_n 3, 1) := by decide +kernel
theorem dX0_rowOfRank_28 : decode cX0_rowOfRank 28 = .ok (.iconst 1, 1) := by decide +kernel
theorem dX0_rowOfRank_29 : decode cX0_rowOfRank 29 = .ok (.isub, 1) := by decide +kernel
theorem dX0_rowOfRank_30 : decode cX0_rowOfRank 30 = .ok (.iconst 4, 1) := by decide +kernel
theorem dX0_rowOfRank_31 : decode cX0_rowOfRank 31 = .ok (.idiv, 1) := by decide +kernel
theorem dX0_rowOfRank_32 : decode cX0_rowOfRank 32 = .ok (.istore_n 3, 1) := by decide +kernel
theorem dX0_rowOfRank_33 : decode cX0_rowOfRank 33 = .ok (.goto (-27), 3) := by decide +kernel
theorem dX0_rowOfRank_36 : decode cX0_rowOfRank 36 = .ok (.iload_n 1, 1) := by decide +kernel
theorem dX0_rowOfRank_37 : decode cX0_rowOfRank 37 = .ok (.ireturn, 1) := by decide +kernel
theorem dX0_restBehind_0 : decode cX0_restBehind 0 = .ok (.iload_n 0, 1) := by decide +kernel
theorem dX0_restBehind_1 : decode cX0_restBehind 1 = .ok (.iload_n 1, 1) := by decide +kernel
theorem dX0_restBehind_2 : decode cX0_restBehind 2 = .ok (.invokestatic 34, 3) := by decide +kernel
theorem dX0_restBehind_5 : decode cX0_restBehind 5 = .ok (.istore_n 2, 1) := by decide +kernel
theorem dX0_restBehind_6 : decode cX0_restBehind 6 = .ok (.iload_n 0, 1) := by decide +kernel
theorem dX0_restBehind_7 : decode cX0_restBehind 7 = .ok (.iload_n 1, 1) := by decide +kernel
theorem dX0_restBehind_8 : decode cX0_restBehind 8 = .ok (.invokestatic 40, 3) := by decide +kernel
theorem dX0_restBehind_11 : decode cX0_restBehind 11 = .ok (.istore_n 3, 1) := by decide +kernel
theorem dX0_restBehind_12 : decode cX0_restBehind 12 = .ok (.iconst 1, 1) := by decide +kernel
theorem dX0_restBehind_13 : decode cX0_restBehind 13 = .ok (.istore 4, 2) := by decide +kernel
theorem dX0_restBehind_15 : decode cX0_restBehind 15 = .ok (.iload_n 3, 1) := by decide +kernel
theorem dX0_restBehind_16 : decode cX0_restBehind 16 = .ok (.istore 5, 2) := by decide +kernel
theorem dX0_restBehind_18 : decode cX0_restBehind 18 = .ok (.iload 5, 2) := by decide +kernel
theorem dX0_restBehind_20 : decode cX0_restBehind 20 = .ok (.iload_n 2, 1) := by decide +kernel
theorem dX0_restBehind_21 : decode cX0_restBehind 21 = .ok (.if_icmp .lt 39, 3) := by decide +kernel
theorem dX0_restBehind_24 : decode cX0_restBehind 24 = .ok (.iload 5, 2) := by decide +kernel
theorem dX0_restBehind_26 : decode cX0_restBehind 26 = .ok (.ifCond .le 34, 3) := by decide +kernel
theorem dX0_restBehind_29 : decode cX0_restBehind 29 = .ok (.iload 5, 2) := by decide +kernel
theorem dX0_restBehind_31 : decode cX0_restBehind 31 = .ok (.iload_n 2, 1) := by decide +kernel
theorem dX0_restBehind_32 : decode cX0_restBehind 32 = .ok (.if_icmp .ne 11, 3) := by decide +kernel
theorem dX0_restBehind_35 : decode cX0_restBehind 35 = .ok (.iload_n 3, 1) := by decide +kernel
theorem dX0_restBehind_36 : decode cX0_restBehind 36 = .ok (.iload 5, 2) := by decide +kernel
theorem dX0_restBehind_38 : decode cX0_restBehind 38 = .ok (.iload 4, 2) := by decide +kernel
theorem dX0_restBehind_40 : decode cX0_restBehind 40 = .ok (.imul, 1) := by decide +kernel
theorem dX0_restBehind_41 : decode cX0_restBehind 41 = .ok (.isub, 1) := by decide +kernel
theorem dX0_restBehind_42 : decode cX0_restBehind 42 = .ok (.ireturn, 1) := by decide +kernel
theorem dX0_restBehind_43 : decode cX0_restBehind 43 = .ok (.iload 4, 2) := by decide +kernel
theorem dX0_restBehind_45 : decode cX0_restBehind 45 = .ok (.bipush 10, 2) := by decide +kernel
theorem dX0_restBehind_47 : decode cX0_restBehind 47 = .ok (.imul, 1) := by decide +kernel
theorem dX0_restBehind_48 : decode cX0_restBehind 48 = .ok (.istore 4, 2) := by decide +kernel
theorem dX0_restBehind_50 : decode cX0_restBehind 50 = .ok (.iload 5, 2) := by decide +kernel
theorem dX0_restBehind_52 : decode cX0_restBehind 52 = .ok (.bipush 10, 2) := by decide +kernel
theorem dX0_restBehind_54 : decode cX0_restBehind 54 = .ok (.idiv, 1) := by decide +kernel
theorem dX0_restBehind_55 : decode cX0_restBehind 55 = .ok (.istore 5, 2) := by decide +kernel
theorem dX0_restBehind_57 : decode cX0_restBehind 57 = .ok (.goto (-39), 3) := by decide +kernel
theorem dX0_restBehind_60 : decode cX0_restBehind 60 = .ok (.iconst (-1), 1) := by decide +kernel
theorem dX0_restBehind_61 : decode cX0_restBehind 61 = .ok (.ireturn, 1) := by decide +kernel
theorem dX0_put_0 : decode cX0_put 0 = .ok (.aload_n 0, 1) := by decide +kernel
theorem dX0_put_1 : decode cX0_put 1 = .ok (.getfield 9, 3) := by decide +kernel
theorem dX0_put_4 : decode cX0_put 4 = .ok (.iload_n 1, 1) := by decide +kernel
theorem dX0_put_5 : decode cX0_put 5 = .ok (.iload_n 2, 1) := by decide +kernel
theorem dX0_put_6 : decode cX0_put 6 = .ok (.iastore, 1) := by decide +kernel
theorem dX0_put_7 : decode cX0_put 7 = .ok (.iconst 0, 1) := by decide +kernel
theorem dX0_put_8 : decode cX0_put 8 = .ok (.istore_n 3, 1) := by decide +kernel
theorem dX0_put_9 : decode cX0_put 9 = .ok (.iload_n 2, 1) := by decide +kernel
theorem dX0_put_10 : decode cX0_put 10 = .ok (.istore 4, 2) := by decide +kernel
theorem dX0_put_12 : decode cX0_put 12 = .ok (.iload 4, 2) := by decide +kernel
theorem dX0_put_14 : decode cX0_put 14 = .ok (.ifCond .le 16, 3) := by decide +kernel
theorem dX0_put_17 : decode cX0_put 17 = .ok (.iinc 3 1, 3) := by decide +kernel
theorem dX0_put_20 : decode cX0_put 20 = .ok (.iload 4, 2) := by decide +kernel
theorem dX0_put_22 : decode cX0_put 22 = .ok (.bipush 10, 2) := by decide +kernel
theorem dX0_put_24 : decode cX0_put 24 = .ok (.idiv, 1) := by decide +kernel
theorem dX0_put_25 : decode cX0_put 25 = .ok (.istore 4, 2) := by decide +kernel
theorem dX0_put_27 : decode cX0_put 27 = .ok (.goto (-15), 3) := by decide +kernel
theorem dX0_put_30 : decode cX0_put 30 = .ok (.aload_n 0, 1) := by decide +kernel
theorem dX0_put_31 : decode cX0_put 31 = .ok (.getfield 15, 3) := by decide +kernel
theorem dX0_put_34 : decode cX0_put 34 = .ok (.iload_n 1, 1) := by decide +kernel
theorem dX0_put_35 : decode cX0_put 35 = .ok (.iload_n 3, 1) := by decide +kernel
theorem dX0_put_36 : decode cX0_put 36 = .ok (.iastore, 1) := by decide +kernel
theorem dX0_put_37 : decode cX0_put 37 = .ok (.iload_n 2, 1) := by decide +kernel
theorem dX0_put_38 : decode cX0_put 38 = .ok (.istore 4, 2) := by decide +kernel
theorem dX0_put_40 : decode cX0_put 40 = .ok (.iload_n 3, 1) := by decide +kernel
theorem dX0_put_41 : decode cX0_put 41 = .ok (.iconst 1, 1) := by decide +kernel
theorem dX0_put_42 : decode cX0_put 42 = .ok (.isub, 1) := by decide +kernel
theorem dX0_put_43 : decode cX0_put 43 = .ok (.istore 5, 2) := by decide +kernel
theorem dX0_put_45 : decode cX0_put 45 = .ok (.iload 5, 2) := by decide +kernel
theorem dX0_put_47 : decode cX0_put 47 = .ok (.ifCond .lt 32, 3) := by decide +kernel
theorem dX0_put_50 : decode cX0_put 50 = .ok (.aload_n 0, 1) := by decide +kernel
theorem dX0_put_51 : decode cX0_put 51 = .ok (.getfield 21, 3) := by decide +kernel
theorem dX0_put_54 : decode cX0_put 54 = .ok (.iload_n 1, 1) := by decide +kernel
theorem dX0_put_55 : decode cX0_put 55 = .ok (.iconst 4, 1) := by decide +kernel
theorem dX0_put_56 : decode cX0_put 56 = .ok (.imul, 1) := by decide +kernel
theorem dX0_put_57 : decode cX0_put 57 = .ok (.iload 5, 2) := by decide +kernel
theorem dX0_put_59 : decode cX0_put 59 = .ok (.iadd, 1) := by decide +kernel
theorem dX0_put_60 : decode cX0_put 60 = .ok (.iload 4, 2) := by decide +kernel
theorem dX0_put_62 : decode cX0_put 62 = .ok (.bipush 10, 2) := by decide +kernel
theorem dX0_put_64 : decode cX0_put 64 = .ok (.irem, 1) := by decide +kernel
theorem dX0_put_65 : decode cX0_put 65 = .ok (.iastore, 1) := by decide +kernel
theorem dX0_put_66 : decode cX0_put 66 = .ok (.iload 4, 2) := by decide +kernel
theorem dX0_put_68 : decode cX0_put 68 = .ok (.bipush 10, 2) := by decide +kernel
theorem dX0_put_70 : decode cX0_put 70 = .ok (.idiv, 1) := by decide +kernel
theorem dX0_put_71 : decode cX0_put 71 = .ok (.istore 4, 2) := by decide +kernel
theorem dX0_put_73 : decode cX0_put 73 = .ok (.iinc 5 (-1), 3) := by decide +kernel
theorem dX0_put_76 : decode cX0_put 76 = .ok (.goto (-31), 3) := by decide +kernel
theorem dX0_put_79 : decode cX0_put 79 = .ok (.return_, 1) := by decide +kernel
theorem dX0_kindAt_0 : decode cX0_kindAt 0 = .ok (.aload_n 0, 1) := by decide +kernel
theorem dX0_kindAt_1 : decode cX0_kindAt 1 = .ok (.getfield 21, 3) := by decide +kernel
theorem dX0_kindAt_4 : decode cX0_kindAt 4 = .ok (.iload_n 1, 1) := by decide +kernel
theorem dX0_kindAt_5 : decode cX0_kindAt 5 = .ok (.iconst 4, 1) := by decide +kernel
theorem dX0_kindAt_6 : decode cX0_kindAt 6 = .ok (.imul, 1) := by decide +kernel
theorem dX0_kindAt_7 : decode cX0_kindAt 7 = .ok (.iload_n 2, 1) := by decide +kernel
theorem dX0_kindAt_8 : decode cX0_kindAt 8 = .ok (.iadd, 1) := by decide +kernel
theorem dX0_kindAt_9 : decode cX0_kindAt 9 = .ok (.iaload, 1) := by decide +kernel
theorem dX0_kindAt_10 : decode cX0_kindAt 10 = .ok (.ireturn, 1) := by decide +kernel
theorem dX0_lettersWithKnots_0 : decode cX0_lettersWithKnots 0 = .ok (.iconst 0, 1) := by decide +kernel
theorem dX0_lettersWithKnots_1 : decode cX0_lettersWithKnots 1 = .ok (.istore_n 1, 1) := by decide +kernel
theorem dX0_lettersWithKnots_2 : decode cX0_lettersWithKnots 2 = .ok (.iconst 0, 1) := by decide +kernel
theorem dX0_lettersWithKnots_3 : decode cX0_lettersWithKnots 3 = .ok (.istore_n 2, 1) := by decide +kernel
theorem dX0_lettersWithKnots_4 : decode cX0_lettersWithKnots 4 = .ok (.iload_n 2, 1) := by decide +kernel
theorem dX0_lettersWithKnots_5 : decode cX0_lettersWithKnots 5 = .ok (.bipush 12, 2) := by decide +kernel
theorem dX0_lettersWithKnots_7 : decode cX0_lettersWithKnots 7 = .ok (.if_icmp .ge 21, 3) := by decide +kernel
theorem dX0_lettersWithKnots_10 : decode cX0_lettersWithKnots 10 = .ok (.aload_n 0, 1) := by decide +kernel
theorem dX0_lettersWithKnots_11 : decode cX0_lettersWithKnots 11 = .ok (.getfield 9, 3) := by decide +kernel
theorem dX0_lettersWithKnots_14 : decode cX0_lettersWithKnots 14 = .ok (.iload_n 2, 1) := by decide +kernel
theorem dX0_lettersWithKnots_15 : decode cX0_lettersWithKnots 15 = .ok (.iaload, 1) := by decide +kernel
theorem dX0_lettersWithKnots_16 : decode cX0_lettersWithKnots 16 = .ok (.ifCond .eq 6, 3) := by decide +kernel
theorem dX0_lettersWithKnots_19 : decode cX0_lettersWithKnots 19 = .ok (.iinc 1 1, 3) := by decide +kernel
theorem dX0_lettersWithKnots_22 : decode cX0_lettersWithKnots 22 = .ok (.iinc 2 1, 3) := by decide +kernel
theorem dX0_lettersWithKnots_25 : decode cX0_lettersWithKnots 25 = .ok (.goto (-21), 3) := by decide +kernel
theorem dX0_lettersWithKnots_28 : decode cX0_lettersWithKnots 28 = .ok (.iload_n 1, 1) := by decide +kernel
theorem dX0_lettersWithKnots_29 : decode cX0_lettersWithKnots 29 = .ok (.ireturn, 1) := by decide +kernel
theorem dX0_clashes_0 : decode cX0_clashes 0 = .ok (.iload_n 2, 1) := by decide +kernel
theorem dX0_clashes_1 : decode cX0_clashes 1 = .ok (.istore_n 3, 1) := by decide +kernel
theorem dX0_clashes_2 : decode cX0_clashes 2 = .ok (.iload_n 3, 1) := by decide +kernel
theorem dX0_clashes_3 : decode cX0_clashes 3 = .ok (.bipush 12, 2) := by decide +kernel
theorem dX0_clashes_5 : decode cX0_clashes 5 = .ok (.if_icmp .ge 34, 3) := by decide +kernel
theorem dX0_clashes_8 : decode cX0_clashes 8 = .ok (.aload_n 0, 1) := by decide +kernel
theorem dX0_clashes_9 : decode cX0_clashes 9 = .ok (.getfield 9, 3) := by decide +kernel
theorem dX0_clashes_12 : decode cX0_clashes 12 = .ok (.iload_n 3, 1) := by decide +kernel
theorem dX0_clashes_13 : decode cX0_clashes 13 = .ok (.iaload, 1) := by decide +kernel
theorem dX0_clashes_14 : decode cX0_clashes 14 = .ok (.ifCond .eq 19, 3) := by decide +kernel
theorem dX0_clashes_17 : decode cX0_clashes 17 = .ok (.iload_n 1, 1) := by decide +kernel
theorem dX0_clashes_18 : decode cX0_clashes 18 = .ok (.aload_n 0, 1) := by decide +kernel
theorem dX0_clashes_19 : decode cX0_clashes 19 = .ok (.getfield 9, 3) := by decide +kernel
theorem dX0_clashes_22 : decode cX0_clashes 22 = .ok (.iload_n 3, 1) := by decide +kernel
theorem dX0_clashes_23 : decode cX0_clashes 23 = .ok (.iaload, 1) := by decide +kernel
theorem dX0_clashes_24 : decode cX0_clashes 24 = .ok (.invokestatic 43, 3) := by decide +kernel
theorem dX0_clashes_27 : decode cX0_clashes 27 = .ok (.iconst (-1), 1) := by decide +kernel
theorem dX0_clashes_28 : decode cX0_clashes 28 = .ok (.if_icmp .eq 5, 3) := by decide +kernel
theorem dX0_clashes_31 : decode cX0_clashes 31 = .ok (.iconst 1, 1) := by decide +kernel
theorem dX0_clashes_32 : decode cX0_clashes 32 = .ok (.ireturn, 1) := by decide +kernel
theorem dX0_clashes_33 : decode cX0_clashes 33 = .ok (.iinc 3 1, 3) := by decide +kernel
theorem dX0_clashes_36 : decode cX0_clashes 36 = .ok (.goto (-34), 3) := by decide +kernel
theorem dX0_clashes_39 : decode cX0_clashes 39 = .ok (.iconst 0, 1) := by decide +kernel
theorem dX0_clashes_40 : decode cX0_clashes 40 = .ok (.ireturn, 1) := by decide +kernel
theorem dX0_hasOneReading_0 : decode cX0_hasOneReading 0 = .ok (.aload_n 0, 1) := by decide +kernel
theorem dX0_hasOneReading_1 : decode cX0_hasOneReading 1 = .ok (.iconst 0, 1) := by decide +kernel
theorem dX0_hasOneReading_2 : decode cX0_hasOneReading 2 = .ok (.putfield 46, 3) := by decide +kernel
theorem dX0_hasOneReading_5 : decode cX0_hasOneReading 5 = .ok (.aload_n 0, 1) := by decide +kernel
theorem dX0_hasOneReading_6 : decode cX0_hasOneReading 6 = .ok (.getfield 27, 3) := by decide +kernel
theorem dX0_hasOneReading_9 : decode cX0_hasOneReading 9 = .ok (.iconst 0, 1) := by decide +kernel
theorem dX0_hasOneReading_10 : decode cX0_hasOneReading 10 = .ok (.invokestatic 50, 3) := by decide +kernel
theorem dX0_hasOneReading_13 : decode cX0_hasOneReading 13 = .ok (.iconst 0, 1) := by decide +kernel
theorem dX0_hasOneReading_14 : decode cX0_hasOneReading 14 = .ok (.istore_n 1, 1) := by decide +kernel
theorem dX0_hasOneReading_15 : decode cX0_hasOneReading 15 = .ok (.iload_n 1, 1) := by decide +kernel
theorem dX0_hasOneReading_16 : decode cX0_hasOneReading 16 = .ok (.bipush 12, 2) := by decide +kernel
theorem dX0_hasOneReading_18 : decode cX0_hasOneReading 18 = .ok (.if_icmp .ge 36, 3) := by decide +kernel
theorem dX0_hasOneReading_21 : decode cX0_hasOneReading 21 = .ok (.aload_n 0, 1) := by decide +kernel
theorem dX0_hasOneReading_22 : decode cX0_hasOneReading 22 = .ok (.getfield 9, 3) := by decide +kernel
theorem dX0_hasOneReading_25 : decode cX0_hasOneReading 25 = .ok (.iload_n 1, 1) := by decide +kernel
theorem dX0_hasOneReading_26 : decode cX0_hasOneReading 26 = .ok (.iaload, 1) := by decide +kernel
theorem dX0_hasOneReading_27 : decode cX0_hasOneReading 27 = .ok (.ifCond .eq 21, 3) := by decide +kernel
theorem dX0_hasOneReading_30 : decode cX0_hasOneReading 30 = .ok (.aload_n 0, 1) := by decide +kernel
theorem dX0_hasOneReading_31 : decode cX0_hasOneReading 31 = .ok (.aload_n 0, 1) := by decide +kernel
theorem dX0_hasOneReading_32 : decode cX0_hasOneReading 32 = .ok (.getfield 9, 3) := by decide +kernel
theorem dX0_hasOneReading_35 : decode cX0_hasOneReading 35 = .ok (.iload_n 1, 1) := by decide +kernel
theorem dX0_hasOneReading_36 : decode cX0_hasOneReading 36 = .ok (.iaload, 1) := by decide +kernel
theorem dX0_hasOneReading_37 : decode cX0_hasOneReading 37 = .ok (.iload_n 1, 1) := by decide +kernel
theorem dX0_hasOneReading_38 : decode cX0_hasOneReading 38 = .ok (.iconst 1, 1) := by decide +kernel
theorem dX0_hasOneReading_39 : decode cX0_hasOneReading 39 = .ok (.iadd, 1) := by decide +kernel
theorem dX0_hasOneReading_40 : decode cX0_hasOneReading 40 = .ok (.invokevirtual 56, 3) := by decide +kernel
theorem dX0_hasOneReading_43 : decode cX0_hasOneReading 43 = .ok (.ifCond .eq 5, 3) := by decide +kernel
theorem dX0_hasOneReading_46 : decode cX0_hasOneReading 46 = .ok (.iconst 0, 1) := by decide +kernel
theorem dX0_hasOneReading_47 : decode cX0_hasOneReading 47 = .ok (.ireturn, 1) := by decide +kernel
theorem dX0_hasOneReading_48 : decode cX0_hasOneReading 48 = .ok (.iinc 1 1, 3) := by decide +kernel
theorem dX0_hasOneReading_51 : decode cX0_hasOneReading 51 = .ok (.goto (-36), 3) := by decide +kernel
theorem dX0_hasOneReading_54 : decode cX0_hasOneReading 54 = .ok (.iconst 0, 1) := by decide +kernel
theorem dX0_hasOneReading_55 : decode cX0_hasOneReading 55 = .ok (.istore_n 1, 1) := by decide +kernel
theorem dX0_hasOneReading_56 : decode cX0_hasOneReading 56 = .ok (.iload_n 1, 1) := by decide +kernel
theorem dX0_hasOneReading_57 : decode cX0_hasOneReading 57 = .ok (.aload_n 0, 1) := by decide +kernel
theorem dX0_hasOneReading_58 : decode cX0_hasOneReading 58 = .ok (.getfield 46, 3) := by decide +kernel
theorem dX0_hasOneReading_61 : decode cX0_hasOneReading 61 = .ok (.if_icmp .ge 31, 3) := by decide +kernel
theorem dX0_hasOneReading_64 : decode cX0_hasOneReading 64 = .ok (.iload_n 1, 1) := by decide +kernel
theorem dX0_hasOneReading_65 : decode cX0_hasOneReading 65 = .ok (.bipush 84, 2) := by decide +kernel
theorem dX0_hasOneReading_67 : decode cX0_hasOneReading 67 = .ok (.if_icmp .ge 25, 3) := by decide +kernel
theorem dX0_hasOneReading_70 : decode cX0_hasOneReading 70 = .ok (.aload_n 0, 1) := by decide +kernel
theorem dX0_hasOneReading_71 : decode cX0_hasOneReading 71 = .ok (.aload_n 0, 1) := by decide +kernel
theorem dX0_hasOneReading_72 : decode cX0_hasOneReading 72 = .ok (.getfield 24, 3) := by decide +kernel
theorem dX0_hasOneReading_75 : decode cX0_hasOneReading 75 = .ok (.iload_n 1, 1) := by decide +kernel
theorem dX0_hasOneReading_76 : decode cX0_hasOneReading 76 = .ok (.iaload, 1) := by decide +kernel
theorem dX0_hasOneReading_77 : decode cX0_hasOneReading 77 = .ok (.iconst 0, 1) := by decide +kernel
theorem dX0_hasOneReading_78 : decode cX0_hasOneReading 78 = .ok (.invokevirtual 56, 3) := by decide +kernel
theorem dX0_hasOneReading_81 : decode cX0_hasOneReading 81 = .ok (.ifCond .eq 5, 3) := by decide +kernel
theorem dX0_hasOneReading_84 : decode cX0_hasOneReading 84 = .ok (.iconst 0, 1) := by decide +kernel
theorem dX0_hasOneReading_85 : decode cX0_hasOneReading 85 = .ok (.ireturn, 1) := by decide +kernel
theorem dX0_hasOneReading_86 : decode cX0_hasOneReading 86 = .ok (.iinc 1 1, 3) := by decide +kernel
theorem dX0_hasOneReading_89 : decode cX0_hasOneReading 89 = .ok (.goto (-33), 3) := by decide +kernel
theorem dX0_hasOneReading_92 : decode cX0_hasOneReading 92 = .ok (.iconst 1, 1) := by decide +kernel
theorem dX0_hasOneReading_93 : decode cX0_hasOneReading 93 = .ok (.ireturn, 1) := by decide +kernel
theorem dX0_meetsSameRow_0 : decode cX0_meetsSameRow 0 = .ok (.iload_n 2, 1) := by decide +kernel
theorem dX0_meetsSameRow_1 : decode cX0_meetsSameRow 1 = .ok (.istore_n 3, 1) := by decide +kernel
theorem dX0_meetsSameRow_2 : decode cX0_meetsSameRow 2 = .ok (.iload_n 3, 1) := by decide +kernel
theorem dX0_meetsSameRow_3 : decode cX0_meetsSameRow 3 = .ok (.bipush 12, 2) := by decide +kernel
theorem dX0_meetsSameRow_5 : decode cX0_meetsSameRow 5 = .ok (.if_icmp .ge 43, 3) := by decide +kernel
theorem dX0_meetsSameRow_8 : decode cX0_meetsSameRow 8 = .ok (.aload_n 0, 1) := by decide +kernel
theorem dX0_meetsSameRow_9 : decode cX0_meetsSameRow 9 = .ok (.getfield 9, 3) := by decide +kernel
theorem dX0_meetsSameRow_12 : decode cX0_meetsSameRow 12 = .ok (.iload_n 3, 1) := by decide +kernel
theorem dX0_meetsSameRow_13 : decode cX0_meetsSameRow 13 = .ok (.iaload, 1) := by decide +kernel
theorem dX0_meetsSameRow_14 : decode cX0_meetsSameRow 14 = .ok (.ifCond .eq 28, 3) := by decide +kernel
theorem dX0_meetsSameRow_17 : decode cX0_meetsSameRow 17 = .ok (.iload_n 1, 1) := by decide +kernel
theorem dX0_meetsSameRow_18 : decode cX0_meetsSameRow 18 = .ok (.aload_n 0, 1) := by decide +kernel
theorem dX0_meetsSameRow_19 : decode cX0_meetsSameRow 19 = .ok (.getfield 9, 3) := by decide +kernel
theorem dX0_meetsSameRow_22 : decode cX0_meetsSameRow 22 = .ok (.iload_n 3, 1) := by decide +kernel
theorem dX0_meetsSameRow_23 : decode cX0_meetsSameRow 23 = .ok (.iaload, 1) := by decide +kernel
theorem dX0_meetsSameRow_24 : decode cX0_meetsSameRow 24 = .ok (.invokestatic 43, 3) := by decide +kernel
theorem dX0_meetsSameRow_27 : decode cX0_meetsSameRow 27 = .ok (.istore 4, 2) := by decide +kernel
theorem dX0_meetsSameRow_29 : decode cX0_meetsSameRow 29 = .ok (.iload 4, 2) := by decide +kernel
theorem dX0_meetsSameRow_31 : decode cX0_meetsSameRow 31 = .ok (.ifCond .ne 5, 3) := by decide +kernel
theorem dX0_meetsSameRow_34 : decode cX0_meetsSameRow 34 = .ok (.iconst 1, 1) := by decide +kernel
theorem dX0_meetsSameRow_35 : decode cX0_meetsSameRow 35 = .ok (.ireturn, 1) := by decide +kernel
theorem dX0_meetsSameRow_36 : decode cX0_meetsSameRow 36 = .ok (.aload_n 0, 1) := by decide +kernel
theorem dX0_meetsSameRow_37 : decode cX0_meetsSameRow 37 = .ok (.iload 4, 2) := by decide +kernel
theorem dX0_meetsSameRow_39 : decode cX0_meetsSameRow 39 = .ok (.invokevirtual 60, 3) := by decide +kernel
theorem dX0_meetsSameRow_42 : decode cX0_meetsSameRow 42 = .ok (.iinc 3 1, 3) := by decide +kernel
theorem dX0_meetsSameRow_45 : decode cX0_meetsSameRow 45 = .ok (.goto (-43), 3) := by decide +kernel
theorem dX0_meetsSameRow_48 : decode cX0_meetsSameRow 48 = .ok (.iconst 0, 1) := by decide +kernel
theorem dX0_meetsSameRow_49 : decode cX0_meetsSameRow 49 = .ok (.ireturn, 1) := by decide +kernel
theorem dX0_noteRest_0 : decode cX0_noteRest 0 = .ok (.iload_n 1, 1) := by decide +kernel
theorem dX0_noteRest_1 : decode cX0_noteRest 1 = .ok (.ifCond .le 55, 3) := by decide +kernel
theorem dX0_noteRest_4 : decode cX0_noteRest 4 = .ok (.iload_n 1, 1) := by decide +kernel
theorem dX0_noteRest_5 : decode cX0_noteRest 5 = .ok (.sipush 444, 3) := by decide +kernel
theorem dX0_noteRest_8 : decode cX0_noteRest 8 = .ok (.if_icmp .gt 48, 3) := by decide +kernel
theorem dX0_noteRest_11 : decode cX0_noteRest 11 = .ok (.aload_n 0, 1) := by decide +kernel
theorem dX0_noteRest_12 : decode cX0_noteRest 12 = .ok (.getfield 27, 3) := by decide +kernel
theorem dX0_noteRest_15 : decode cX0_noteRest 15 = .ok (.iload_n 1, 1) := by decide +kernel
theorem dX0_noteRest_16 : decode cX0_noteRest 16 = .ok (.iaload, 1) := by decide +kernel
theorem dX0_noteRest_17 : decode cX0_noteRest 17 = .ok (.ifCond .ne 39, 3) := by decide +kernel
theorem dX0_noteRest_20 : decode cX0_noteRest 20 = .ok (.aload_n 0, 1) := by decide +kernel
theorem dX0_noteRest_21 : decode cX0_noteRest 21 = .ok (.getfield 46, 3) := by decide +kernel
theorem dX0_noteRest_24 : decode cX0_noteRest 24 = .ok (.bipush 84, 2) := by decide +kernel
theorem dX0_noteRest_26 : decode cX0_noteRest 26 = .ok (.if_icmp .ge 30, 3) := by decide +kernel
theorem dX0_noteRest_29 : decode cX0_noteRest 29 = .ok (.aload_n 0, 1) := by decide +kernel
theorem dX0_noteRest_30 : decode cX0_noteRest 30 = .ok (.getfield 27, 3) := by decide +kernel
theorem dX0_noteRest_33 : decode cX0_noteRest 33 = .ok (.iload_n 1, 1) := by decide +kernel
theorem dX0_noteRest_34 : decode cX0_noteRest 34 = .ok (.iconst 1, 1) := by decide +kernel
theorem dX0_noteRest_35 : decode cX0_noteRest 35 = .ok (.iastore, 1) := by decide +kernel
theorem dX0_noteRest_36 : decode cX0_noteRest 36 = .ok (.aload_n 0, 1) := by decide +kernel
theorem dX0_noteRest_37 : decode cX0_noteRest 37 = .ok (.getfield 24, 3) := by decide +kernel
theorem dX0_noteRest_40 : decode cX0_noteRest 40 = .ok (.aload_n 0, 1) := by decide +kernel
theorem dX0_noteRest_41 : decode cX0_noteRest 41 = .ok (.getfield 46, 3) := by decide +kernel
theorem dX0_noteRest_44 : decode cX0_noteRest 44 = .ok (.iload_n 1, 1) := by decide +kernel
theorem dX0_noteRest_45 : decode cX0_noteRest 45 = .ok (.iastore, 1) := by decide +kernel
theorem dX0_noteRest_46 : decode cX0_noteRest 46 = .ok (.aload_n 0, 1) := by decide +kernel
theorem dX0_noteRest_47 : decode cX0_noteRest 47 = .ok (.dup, 1) := by decide +kernel
theorem dX0_noteRest_48 : decode cX0_noteRest 48 = .ok (.getfield 46, 3) := by decide +kernel
theorem dX0_noteRest_51 : decode cX0_noteRest 51 = .ok (.iconst 1, 1) := by decide +kernel
theorem dX0_noteRest_52 : decode cX0_noteRest 52 = .ok (.iadd, 1) := by decide +kernel
theorem dX0_noteRest_53 : decode cX0_noteRest 53 = .ok (.putfield 46, 3) := by decide +kernel
theorem dX0_noteRest_56 : decode cX0_noteRest 56 = .ok (.return_, 1) := by decide +kernel
theorem dX1_init_0 : decode cX1_init 0 = .ok (.aload_n 0, 1) := by decide +kernel
theorem dX1_init_1 : decode cX1_init 1 = .ok (.invokespecial 3, 3) := by decide +kernel
theorem dX1_init_4 : decode cX1_init 4 = .ok (.aload_n 0, 1) := by decide +kernel
theorem dX1_init_5 : decode cX1_init 5 = .ok (.bipush 40, 2) := by decide +kernel
theorem dX1_init_7 : decode cX1_init 7 = .ok (.newarray .int, 2) := by decide +kernel
theorem dX1_init_9 : decode cX1_init 9 = .ok (.putfield 9, 3) := by decide +kernel
theorem dX1_init_12 : decode cX1_init 12 = .ok (.return_, 1) := by decide +kernel
theorem dX1_add_0 : decode cX1_add 0 = .ok (.aload_n 0, 1) := by decide +kernel
theorem dX1_add_1 : decode cX1_add 1 = .ok (.getfield 15, 3) := by decide +kernel
theorem dX1_add_4 : decode cX1_add 4 = .ok (.bipush 40, 2) := by decide +kernel
theorem dX1_add_6 : decode cX1_add 6 = .ok (.if_icmp .ge 23, 3) := by decide +kernel
theorem dX1_add_9 : decode cX1_add 9 = .ok (.aload_n 0, 1) := by decide +kernel
theorem dX1_add_10 : decode cX1_add 10 = .ok (.getfield 9, 3) := by decide +kernel
theorem dX1_add_13 : decode cX1_add 13 = .ok (.aload_n 0, 1) := by decide +kernel
theorem dX1_add_14 : decode cX1_add 14 = .ok (.getfield 15, 3) := by decide +kernel
theorem dX1_add_17 : decode cX1_add 17 = .ok (.iload_n 1, 1) := by decide +kernel
theorem dX1_add_18 : decode cX1_add 18 = .ok (.iastore, 1) := by decide +kernel
theorem dX1_add_19 : decode cX1_add 19 = .ok (.aload_n 0, 1) := by decide +kernel
theorem dX1_add_20 : decode cX1_add 20 = .ok (.dup, 1) := by decide +kernel
theorem dX1_add_21 : decode cX1_add 21 = .ok (.getfield 15, 3) := by decide +kernel
theorem dX1_add_24 : decode cX1_add 24 = .ok (.iconst 1, 1) := by decide +kernel
theorem dX1_add_25 : decode cX1_add 25 = .ok (.iadd, 1) := by decide +kernel
theorem dX1_add_26 : decode cX1_add 26 = .ok (.putfield 15, 3) := by decide +kernel
theorem dX1_add_29 : decode cX1_add 29 = .ok (.return_, 1) := by decide +kernel
theorem dX1_addGap_0 : decode cX1_addGap 0 = .ok (.aload_n 0, 1) := by decide +kernel
theorem dX1_addGap_1 : decode cX1_addGap 1 = .ok (.dup, 1) := by decide +kernel
theorem dX1_addGap_2 : decode cX1_addGap 2 = .ok (.getfield 19, 3) := by decide +kernel
theorem dX1_addGap_5 : decode cX1_addGap 5 = .ok (.iconst 1, 1) := by decide +kernel
theorem dX1_addGap_6 : decode cX1_addGap 6 = .ok (.iadd, 1) := by decide +kernel
theorem dX1_addGap_7 : decode cX1_addGap 7 = .ok (.putfield 19, 3) := by decide +kernel
theorem dX1_addGap_10 : decode cX1_addGap 10 = .ok (.aload_n 0, 1) := by decide +kernel
theorem dX1_addGap_11 : decode cX1_addGap 11 = .ok (.iconst 5, 1) := by decide +kernel
theorem dX1_addGap_12 : decode cX1_addGap 12 = .ok (.invokevirtual 22, 3) := by decide +kernel
theorem dX1_addGap_15 : decode cX1_addGap 15 = .ok (.return_, 1) := by decide +kernel
theorem dX1_endsWord_0 : decode cX1_endsWord 0 = .ok (.iload_n 1, 1) := by decide +kernel
theorem dX1_endsWord_1 : decode cX1_endsWord 1 = .ok (.aload_n 0, 1) := by decide +kernel
theorem dX1_endsWord_2 : decode cX1_endsWord 2 = .ok (.getfield 15, 3) := by decide +kernel
theorem dX1_endsWord_5 : decode cX1_endsWord 5 = .ok (.if_icmp .ge 13, 3) := by decide +kernel
theorem dX1_endsWord_8 : decode cX1_endsWord 8 = .ok (.aload_n 0, 1) := by decide +kernel
theorem dX1_endsWord_9 : decode cX1_endsWord 9 = .ok (.getfield 9, 3) := by decide +kernel
theorem dX1_endsWord_12 : decode cX1_endsWord 12 = .ok (.iload_n 1, 1) := by decide +kernel
theorem dX1_endsWord_13 : decode cX1_endsWord 13 = .ok (.iaload, 1) := by decide +kernel
theorem dX1_endsWord_14 : decode cX1_endsWord 14 = .ok (.iconst 5, 1) := by decide +kernel
theorem dX1_endsWord_15 : decode cX1_endsWord 15 = .ok (.if_icmp .ne 7, 3) := by decide +kernel
theorem dX1_endsWord_18 : decode cX1_endsWord 18 = .ok (.iconst 1, 1) := by decide +kernel
theorem dX1_endsWord_19 : decode cX1_endsWord 19 = .ok (.goto 4, 3) := by decide +kernel
theorem dX1_endsWord_22 : decode cX1_endsWord 22 = .ok (.iconst 0, 1) := by decide +kernel
theorem dX1_endsWord_23 : decode cX1_endsWord 23 = .ok (.ireturn, 1) := by decide +kernel
theorem dX2_init_0 : decode cX2_init 0 = .ok (.aload_n 0, 1) := by decide +kernel
theorem dX2_init_1 : decode cX2_init 1 = .ok (.invokespecial 3, 3) := by decide +kernel
theorem dX2_init_4 : decode cX2_init 4 = .ok (.aload_n 0, 1) := by decide +kernel
theorem dX2_init_5 : decode cX2_init 5 = .ok (.iconst 4, 1) := by decide +kernel
theorem dX2_init_6 : decode cX2_init 6 = .ok (.putfield 11, 3) := by decide +kernel
theorem dX2_init_9 : decode cX2_init 9 = .ok (.aload_n 0, 1) := by decide +kernel
theorem dX2_init_10 : decode cX2_init 10 = .ok (.iconst 4, 1) := by decide +kernel
theorem dX2_init_11 : decode cX2_init 11 = .ok (.putfield 15, 3) := by decide +kernel
theorem dX2_init_14 : decode cX2_init 14 = .ok (.aload_n 0, 1) := by decide +kernel
theorem dX2_init_15 : decode cX2_init 15 = .ok (.bipush 25, 2) := by decide +kernel
theorem dX2_init_17 : decode cX2_init 17 = .ok (.newarray .int, 2) := by decide +kernel
theorem dX2_init_19 : decode cX2_init 19 = .ok (.putfield 18, 3) := by decide +kernel
theorem dX2_init_22 : decode cX2_init 22 = .ok (.aload_n 0, 1) := by decide +kernel
theorem dX2_init_23 : decode cX2_init 23 = .ok (.bipush 41, 2) := by decide +kernel
theorem dX2_init_25 : decode cX2_init 25 = .ok (.newarray .int, 2) := by decide +kernel
theorem dX2_init_27 : decode cX2_init 27 = .ok (.putfield 22, 3) := by decide +kernel
theorem dX2_init_30 : decode cX2_init 30 = .ok (.aload_n 0, 1) := by decide +kernel
theorem dX2_init_31 : decode cX2_init 31 = .ok (.getfield 18, 3) := by decide +kernel
theorem dX2_init_34 : decode cX2_init 34 = .ok (.iconst 3, 1) := by decide +kernel
theorem dX2_init_35 : decode cX2_init 35 = .ok (.invokestatic 25, 3) := by decide +kernel
theorem dX2_init_38 : decode cX2_init 38 = .ok (.return_, 1) := by decide +kernel
theorem dX2_putTaking_0 : decode cX2_putTaking 0 = .ok (.aload_n 0, 1) := by decide +kernel
theorem dX2_putTaking_1 : decode cX2_putTaking 1 = .ok (.getfield 18, 3) := by decide +kernel
theorem dX2_putTaking_4 : decode cX2_putTaking 4 = .ok (.iload_n 1, 1) := by decide +kernel
theorem dX2_putTaking_5 : decode cX2_putTaking 5 = .ok (.iconst 5, 1) := by decide +kernel
theorem dX2_putTaking_6 : decode cX2_putTaking 6 = .ok (.imul, 1) := by decide +kernel
theorem dX2_putTaking_7 : decode cX2_putTaking 7 = .ok (.iload_n 2, 1) := by decide +kernel
theorem dX2_putTaking_8 : decode cX2_putTaking 8 = .ok (.iadd, 1) := by decide +kernel
theorem dX2_putTaking_9 : decode cX2_putTaking 9 = .ok (.iload_n 3, 1) := by decide +kernel
theorem dX2_putTaking_10 : decode cX2_putTaking 10 = .ok (.iastore, 1) := by decide +kernel
theorem dX2_putTaking_11 : decode cX2_putTaking 11 = .ok (.aload_n 0, 1) := by decide +kernel
theorem dX2_putTaking_12 : decode cX2_putTaking 12 = .ok (.getfield 18, 3) := by decide +kernel
theorem dX2_putTaking_15 : decode cX2_putTaking 15 = .ok (.iload_n 2, 1) := by decide +kernel
theorem dX2_putTaking_16 : decode cX2_putTaking 16 = .ok (.iconst 5, 1) := by decide +kernel
theorem dX2_putTaking_17 : decode cX2_putTaking 17 = .ok (.imul, 1) := by decide +kernel
theorem dX2_putTaking_18 : decode cX2_putTaking 18 = .ok (.iload_n 1, 1) := by decide +kernel
theorem dX2_putTaking_19 : decode cX2_putTaking 19 = .ok (.iadd, 1) := by decide +kernel
theorem dX2_putTaking_20 : decode cX2_putTaking 20 = .ok (.iload_n 3, 1) := by decide +kernel
theorem dX2_putTaking_21 : decode cX2_putTaking 21 = .ok (.iastore, 1) := by decide +kernel
theorem dX2_putTaking_22 : decode cX2_putTaking 22 = .ok (.return_, 1) := by decide +kernel
theorem dX2_taking_0 : decode cX2_taking 0 = .ok (.iload_n 1, 1) := by decide +kernel
theorem dX2_taking_1 : decode cX2_taking 1 = .ok (.iload_n 2, 1) := by decide +kernel
theorem dX2_taking_2 : decode cX2_taking 2 = .ok (.if_icmp .ne 5, 3) := by decide +kernel
theorem dX2_taking_5 : decode cX2_taking 5 = .ok (.iconst 0, 1) := by decide +kernel
theorem dX2_taking_6 : decode cX2_taking 6 = .ok (.ireturn, 1) := by decide +kernel
theorem dX2_taking_7 : decode cX2_taking 7 = .ok (.iload_n 1, 1) := by decide +kernel
theorem dX2_taking_8 : decode cX2_taking 8 = .ok (.iconst 5, 1) := by decide +kernel
theorem dX2_taking_9 : decode cX2_taking 9 = .ok (.if_icmp .eq 8, 3) := by decide +kernel
theorem dX2_taking_12 : decode cX2_taking 12 = .ok (.iload_n 2, 1) := by decide +kernel
theorem dX2_taking_13 : decode cX2_taking 13 = .ok (.iconst 5, 1) := by decide +kernel
theorem dX2_taking_14 : decode cX2_taking 14 = .ok (.if_icmp .ne 8, 3) := by decide +kernel
theorem dX2_taking_17 : decode cX2_taking 17 = .ok (.ldc 31, 2) := by decide +kernel
theorem dX2_taking_19 : decode cX2_taking 19 = .ok (.goto 13, 3) := by decide +kernel
theorem dX2_taking_22 : decode cX2_taking 22 = .ok (.aload_n 0, 1) := by decide +kernel
theorem dX2_taking_23 : decode cX2_taking 23 = .ok (.getfield 18, 3) := by decide +kernel
theorem dX2_taking_26 : decode cX2_taking 26 = .ok (.iload_n 1, 1) := by decide +kernel
theorem dX2_taking_27 : decode cX2_taking 27 = .ok (.iconst 5, 1) := by decide +kernel
theorem dX2_taking_28 : decode cX2_taking 28 = .ok (.imul, 1) := by decide +kernel
theorem dX2_taking_29 : decode cX2_taking 29 = .ok (.iload_n 2, 1) := by decide +kernel
theorem dX2_taking_30 : decode cX2_taking 30 = .ok (.iadd, 1) := by decide +kernel
theorem dX2_taking_31 : decode cX2_taking 31 = .ok (.iaload, 1) := by decide +kernel
theorem dX2_taking_32 : decode cX2_taking 32 = .ok (.ireturn, 1) := by decide +kernel
theorem dX2_missing_0 : decode cX2_missing 0 = .ok (.iload_n 1, 1) := by decide +kernel
theorem dX2_missing_1 : decode cX2_missing 1 = .ok (.iconst 5, 1) := by decide +kernel
theorem dX2_missing_2 : decode cX2_missing 2 = .ok (.if_icmp .ne 8, 3) := by decide +kernel
theorem dX2_missing_5 : decode cX2_missing 5 = .ok (.bipush 9, 2) := by decide +kernel
theorem dX2_missing_7 : decode cX2_missing 7 = .ok (.goto 7, 3) := by decide +kernel
theorem dX2_missing_10 : decode cX2_missing 10 = .ok (.aload_n 0, 1) := by decide +kernel
theorem dX2_missing_11 : decode cX2_missing 11 = .ok (.getfield 11, 3) := by decide +kernel
theorem dX2_missing_14 : decode cX2_missing 14 = .ok (.ireturn, 1) := by decide +kernel
theorem dX2_ghostOf_0 : decode cX2_ghostOf 0 = .ok (.iload_n 1, 1) := by decide +kernel
theorem dX2_ghostOf_1 : decode cX2_ghostOf 1 = .ok (.iconst 5, 1) := by decide +kernel
theorem dX2_ghostOf_2 : decode cX2_ghostOf 2 = .ok (.if_icmp .ne 8, 3) := by decide +kernel
theorem dX2_ghostOf_5 : decode cX2_ghostOf 5 = .ok (.bipush 9, 2) := by decide +kernel
theorem dX2_ghostOf_7 : decode cX2_ghostOf 7 = .ok (.goto 7, 3) := by decide +kernel
theorem dX2_ghostOf_10 : decode cX2_ghostOf 10 = .ok (.aload_n 0, 1) := by decide +kernel
theorem dX2_ghostOf_11 : decode cX2_ghostOf 11 = .ok (.getfield 15, 3) := by decide +kernel
theorem dX2_ghostOf_14 : decode cX2_ghostOf 14 = .ok (.ireturn, 1) := by decide +kernel
theorem dX2_fromRowToRow_0 : decode cX2_fromRowToRow 0 = .ok (.aload_n 0, 1) := by decide +kernel
theorem dX2_fromRowToRow_1 : decode cX2_fromRowToRow 1 = .ok (.getfield 22, 3) := by decide +kernel
theorem dX2_fromRowToRow_4 : decode cX2_fromRowToRow 4 = .ok (.iconst 0, 1) := by decide +kernel
theorem dX2_fromRowToRow_5 : decode cX2_fromRowToRow 5 = .ok (.iconst 0, 1) := by decide +kernel
theorem dX2_fromRowToRow_6 : decode cX2_fromRowToRow 6 = .ok (.iastore, 1) := by decide +kernel
theorem dX2_fromRowToRow_7 : decode cX2_fromRowToRow 7 = .ok (.iconst 0, 1) := by decide +kernel
theorem dX2_fromRowToRow_8 : decode cX2_fromRowToRow 8 = .ok (.istore 7, 2) := by decide +kernel
theorem dX2_fromRowToRow_10 : decode cX2_fromRowToRow 10 = .ok (.iload 7, 2) := by decide +kernel
theorem dX2_fromRowToRow_12 : decode cX2_fromRowToRow 12 = .ok (.iload 6, 2) := by decide +kernel
theorem dX2_fromRowToRow_14 : decode cX2_fromRowToRow 14 = .ok (.if_icmp .ge 38, 3) := by decide +kernel
theorem dX2_fromRowToRow_17 : decode cX2_fromRowToRow 17 = .ok (.aload_n 0, 1) := by decide +kernel
theorem dX2_fromRowToRow_18 : decode cX2_fromRowToRow 18 = .ok (.getfield 22, 3) := by decide +kernel
theorem dX2_fromRowToRow_21 : decode cX2_fromRowToRow 21 = .ok (.iload 7, 2) := by decide +kernel
theorem dX2_fromRowToRow_23 : decode cX2_fromRowToRow 23 = .ok (.iconst 1, 1) := by decide +kernel
theorem dX2_fromRowToRow_24 : decode cX2_fromRowToRow 24 = .ok (.iadd, 1) := by decide +kernel
theorem dX2_fromRowToRow_25 : decode cX2_fromRowToRow 25 = .ok (.aload_n 0, 1) := by decide +kernel
theorem dX2_fromRowToRow_26 : decode cX2_fromRowToRow 26 = .ok (.getfield 22, 3) := by decide +kernel
theorem dX2_fromRowToRow_29 : decode cX2_fromRowToRow 29 = .ok (.iload 7, 2) := by decide +kernel
theorem dX2_fromRowToRow_31 : decode cX2_fromRowToRow 31 = .ok (.iaload, 1) := by decide +kernel
theorem dX2_fromRowToRow_32 : decode cX2_fromRowToRow 32 = .ok (.aload_n 0, 1) := by decide +kernel
theorem dX2_fromRowToRow_33 : decode cX2_fromRowToRow 33 = .ok (.aload 4, 2) := by decide +kernel
theorem dX2_fromRowToRow_35 : decode cX2_fromRowToRow 35 = .ok (.iload 5, 2) := by decide +kernel
theorem dX2_fromRowToRow_37 : decode cX2_fromRowToRow 37 = .ok (.iload 7, 2) := by decide +kernel
theorem dX2_fromRowToRow_39 : decode cX2_fromRowToRow 39 = .ok (.iadd, 1) := by decide +kernel
theorem dX2_fromRowToRow_40 : decode cX2_fromRowToRow 40 = .ok (.iaload, 1) := by decide +kernel
theorem dX2_fromRowToRow_41 : decode cX2_fromRowToRow 41 = .ok (.invokevirtual 32, 3) := by decide +kernel
theorem dX2_fromRowToRow_44 : decode cX2_fromRowToRow 44 = .ok (.iadd, 1) := by decide +kernel
theorem dX2_fromRowToRow_45 : decode cX2_fromRowToRow 45 = .ok (.iastore, 1) := by decide +kernel
theorem dX2_fromRowToRow_46 : decode cX2_fromRowToRow 46 = .ok (.iinc 7 1, 3) := by decide +kernel
theorem dX2_fromRowToRow_49 : decode cX2_fromRowToRow 49 = .ok (.goto (-39), 3) := by decide +kernel
theorem dX2_fromRowToRow_52 : decode cX2_fromRowToRow 52 = .ok (.iconst 0, 1) := by decide +kernel
theorem dX2_fromRowToRow_53 : decode cX2_fromRowToRow 53 = .ok (.istore 7, 2) := by decide +kernel
theorem dX2_fromRowToRow_55 : decode cX2_fromRowToRow 55 = .ok (.iload 7, 2) := by decide +kernel
theorem dX2_fromRowToRow_57 : decode cX2_fromRowToRow 57 = .ok (.iload_n 3, 1) := by decide +kernel
theorem dX2_fromRowToRow_58 : decode cX2_fromRowToRow 58 = .ok (.if_icmp .ge 145, 3) := by decide +kernel
theorem dX2_fromRowToRow_61 : decode cX2_fromRowToRow 61 = .ok (.aload_n 1, 1) := by decide +kernel
theorem dX2_fromRowToRow_62 : decode cX2_fromRowToRow 62 = .ok (.iload_n 2, 1) := by decide +kernel
theorem dX2_fromRowToRow_63 : decode cX2_fromRowToRow 63 = .ok (.iload 7, 2) := by decide +kernel
theorem dX2_fromRowToRow_65 : decode cX2_fromRowToRow 65 = .ok (.iadd, 1) := by decide +kernel
theorem dX2_fromRowToRow_66 : decode cX2_fromRowToRow 66 = .ok (.iaload, 1) := by decide +kernel
theorem dX2_fromRowToRow_67 : decode cX2_fromRowToRow 67 = .ok (.istore 8, 2) := by decide +kernel
theorem dX2_fromRowToRow_69 : decode cX2_fromRowToRow 69 = .ok (.aload_n 0, 1) := by decide +kernel
theorem dX2_fromRowToRow_70 : decode cX2_fromRowToRow 70 = .ok (.getfield 22, 3) := by decide +kernel
theorem dX2_fromRowToRow_73 : decode cX2_fromRowToRow 73 = .ok (.iconst 0, 1) := by decide +kernel
theorem dX2_fromRowToRow_74 : decode cX2_fromRowToRow 74 = .ok (.iaload, 1) := by decide +kernel
theorem dX2_fromRowToRow_75 : decode cX2_fromRowToRow 75 = .ok (.istore 9, 2) := by decide +kernel
theorem dX2_fromRowToRow_77 : decode cX2_fromRowToRow 77 = .ok (.aload_n 0, 1) := by decide +kernel
theorem dX2_fromRowToRow_78 : decode cX2_fromRowToRow 78 = .ok (.getfield 22, 3) := by decide +kernel
theorem dX2_fromRowToRow_81 : decode cX2_fromRowToRow 81 = .ok (.iconst 0, 1) := by decide +kernel
theorem dX2_fromRowToRow_82 : decode cX2_fromRowToRow 82 = .ok (.dup2, 1) := by decide +kernel
theorem dX2_fromRowToRow_83 : decode cX2_fromRowToRow 83 = .ok (.iaload, 1) := by decide +kernel
theorem dX2_fromRowToRow_84 : decode cX2_fromRowToRow 84 = .ok (.aload_n 0, 1) := by decide +kernel
theorem dX2_fromRowToRow_85 : decode cX2_fromRowToRow 85 = .ok (.iload 8, 2) := by decide +kernel
theorem dX2_fromRowToRow_87 : decode cX2_fromRowToRow 87 = .ok (.invokevirtual 36, 3) := by decide +kernel
theorem dX2_fromRowToRow_90 : decode cX2_fromRowToRow 90 = .ok (.iadd, 1) := by decide +kernel
theorem dX2_fromRowToRow_91 : decode cX2_fromRowToRow 91 = .ok (.iastore, 1) := by decide +kernel
theorem dX2_fromRowToRow_92 : decode cX2_fromRowToRow 92 = .ok (.iconst 0, 1) := by decide +kernel
theorem dX2_fromRowToRow_93 : decode cX2_fromRowToRow 93 = .ok (.istore 10, 2) := by decide +kernel
theorem dX2_fromRowToRow_95 : decode cX2_fromRowToRow 95 = .ok (.iload 10, 2) := by decide +kernel
theorem dX2_fromRowToRow_97 : decode cX2_fromRowToRow 97 = .ok (.iload 6, 2) := by decide +kernel
theorem dX2_fromRowToRow_99 : decode cX2_fromRowToRow 99 = .ok (.if_icmp .ge 98, 3) := by decide +kernel
theorem dX2_fromRowToRow_102 : decode cX2_fromRowToRow 102 = .ok (.aload 4, 2) := by decide +kernel
theorem dX2_fromRowToRow_104 : decode cX2_fromRowToRow 104 = .ok (.iload 5, 2) := by decide +kernel
theorem dX2_fromRowToRow_106 : decode cX2_fromRowToRow 106 = .ok (.iload 10, 2) := by decide +kernel
theorem dX2_fromRowToRow_108 : decode cX2_fromRowToRow 108 = .ok (.iadd, 1) := by decide +kernel
theorem dX2_fromRowToRow_109 : decode cX2_fromRowToRow 109 = .ok (.iaload, 1) := by decide +kernel
theorem dX2_fromRowToRow_110 : decode cX2_fromRowToRow 110 = .ok (.istore 11, 2) := by decide +kernel
theorem dX2_fromRowToRow_112 : decode cX2_fromRowToRow 112 = .ok (.iload 9, 2) := by decide +kernel
theorem dX2_fromRowToRow_114 : decode cX2_fromRowToRow 114 = .ok (.aload_n 0, 1) := by decide +kernel
theorem dX2_fromRowToRow_115 : decode cX2_fromRowToRow 115 = .ok (.iload 8, 2) := by decide +kernel
theorem dX2_fromRowToRow_117 : decode cX2_fromRowToRow 117 = .ok (.iload 11, 2) := by decide +kernel
theorem dX2_fromRowToRow_119 : decode cX2_fromRowToRow 119 = .ok (.invokevirtual 39, 3) := by decide +kernel
theorem dX2_fromRowToRow_122 : decode cX2_fromRowToRow 122 = .ok (.iadd, 1) := by decide +kernel
theorem dX2_fromRowToRow_123 : decode cX2_fromRowToRow 123 = .ok (.istore 12, 2) := by decide +kernel
theorem dX2_fromRowToRow_125 : decode cX2_fromRowToRow 125 = .ok (.aload_n 0, 1) := by decide +kernel
theorem dX2_fromRowToRow_126 : decode cX2_fromRowToRow 126 = .ok (.getfield 22, 3) := by decide +kernel
theorem dX2_fromRowToRow_129 : decode cX2_fromRowToRow 129 = .ok (.iload 10, 2) := by decide +kernel
theorem dX2_fromRowToRow_131 : decode cX2_fromRowToRow 131 = .ok (.iaload, 1) := by decide +kernel
theorem dX2_fromRowToRow_132 : decode cX2_fromRowToRow 132 = .ok (.aload_n 0, 1) := by decide +kernel
theorem dX2_fromRowToRow_133 : decode cX2_fromRowToRow 133 = .ok (.iload 11, 2) := by decide +kernel
theorem dX2_fromRowToRow_135 : decode cX2_fromRowToRow 135 = .ok (.invokevirtual 32, 3) := by decide +kernel
theorem dX2_fromRowToRow_138 : decode cX2_fromRowToRow 138 = .ok (.iadd, 1) := by decide +kernel
theorem dX2_fromRowToRow_139 : decode cX2_fromRowToRow 139 = .ok (.istore 13, 2) := by decide +kernel
theorem dX2_fromRowToRow_141 : decode cX2_fromRowToRow 141 = .ok (.aload_n 0, 1) := by decide +kernel
theorem dX2_fromRowToRow_142 : decode cX2_fromRowToRow 142 = .ok (.getfield 22, 3) := by decide +kernel
theorem dX2_fromRowToRow_145 : decode cX2_fromRowToRow 145 = .ok (.iload 10, 2) := by decide +kernel
theorem dX2_fromRowToRow_147 : decode cX2_fromRowToRow 147 = .ok (.iconst 1, 1) := by decide +kernel
theorem dX2_fromRowToRow_148 : decode cX2_fromRowToRow 148 = .ok (.iadd, 1) := by decide +kernel
theorem dX2_fromRowToRow_149 : decode cX2_fromRowToRow 149 = .ok (.iaload, 1) := by decide +kernel
theorem dX2_fromRowToRow_150 : decode cX2_fromRowToRow 150 = .ok (.aload_n 0, 1) := by decide +kernel
theorem dX2_fromRowToRow_151 : decode cX2_fromRowToRow 151 = .ok (.iload 8, 2) := by decide +kernel
theorem dX2_fromRowToRow_153 : decode cX2_fromRowToRow 153 = .ok (.invokevirtual 36, 3) := by decide +kernel
theorem dX2_fromRowToRow_156 : decode cX2_fromRowToRow 156 = .ok (.iadd, 1) := by decide +kernel
theorem dX2_fromRowToRow_157 : decode cX2_fromRowToRow 157 = .ok (.istore 14, 2) := by decide +kernel
theorem dX2_fromRowToRow_159 : decode cX2_fromRowToRow 159 = .ok (.aload_n 0, 1) := by decide +kernel
theorem dX2_fromRowToRow_160 : decode cX2_fromRowToRow 160 = .ok (.getfield 22, 3) := by decide +kernel
theorem dX2_fromRowToRow_163 : decode cX2_fromRowToRow 163 = .ok (.iload 10, 2) := by decide +kernel
theorem dX2_fromRowToRow_165 : decode cX2_fromRowToRow 165 = .ok (.iconst 1, 1) := by decide +kernel
theorem dX2_fromRowToRow_166 : decode cX2_fromRowToRow 166 = .ok (.iadd, 1) := by decide +kernel
theorem dX2_fromRowToRow_167 : decode cX2_fromRowToRow 167 = .ok (.iaload, 1) := by decide +kernel
theorem dX2_fromRowToRow_168 : decode cX2_fromRowToRow 168 = .ok (.istore 9, 2) := by decide +kernel
theorem dX2_fromRowToRow_170 : decode cX2_fromRowToRow 170 = .ok (.aload_n 0, 1) := by decide +kernel
theorem dX2_fromRowToRow_171 : decode cX2_fromRowToRow 171 = .ok (.getfield 22, 3) := by decide +kernel
theorem dX2_fromRowToRow_174 : decode cX2_fromRowToRow 174 = .ok (.iload 10, 2) := by decide +kernel
theorem dX2_fromRowToRow_176 : decode cX2_fromRowToRow 176 = .ok (.iconst 1, 1) := by decide +kernel
theorem dX2_fromRowToRow_177 : decode cX2_fromRowToRow 177 = .ok (.iadd, 1) := by decide +kernel
theorem dX2_fromRowToRow_178 : decode cX2_fromRowToRow 178 = .ok (.iload 12, 2) := by decide +kernel
theorem dX2_fromRowToRow_180 : decode cX2_fromRowToRow 180 = .ok (.iload 13, 2) := by decide +kernel
theorem dX2_fromRowToRow_182 : decode cX2_fromRowToRow 182 = .ok (.iload 14, 2) := by decide +kernel
theorem dX2_fromRowToRow_184 : decode cX2_fromRowToRow 184 = .ok (.invokestatic 43, 3) := by decide +kernel
theorem dX2_fromRowToRow_187 : decode cX2_fromRowToRow 187 = .ok (.invokestatic 43, 3) := by decide +kernel
theorem dX2_fromRowToRow_190 : decode cX2_fromRowToRow 190 = .ok (.iastore, 1) := by decide +kernel
theorem dX2_fromRowToRow_191 : decode cX2_fromRowToRow 191 = .ok (.iinc 10 1, 3) := by decide +kernel
theorem dX2_fromRowToRow_194 : decode cX2_fromRowToRow 194 = .ok (.goto (-99), 3) := by decide +kernel
theorem dX2_fromRowToRow_197 : decode cX2_fromRowToRow 197 = .ok (.iinc 7 1, 3) := by decide +kernel
theorem dX2_fromRowToRow_200 : decode cX2_fromRowToRow 200 = .ok (.goto (-145), 3) := by decide +kernel
theorem dX2_fromRowToRow_203 : decode cX2_fromRowToRow 203 = .ok (.aload_n 0, 1) := by decide +kernel
theorem dX2_fromRowToRow_204 : decode cX2_fromRowToRow 204 = .ok (.getfield 22, 3) := by decide +kernel
theorem dX2_fromRowToRow_207 : decode cX2_fromRowToRow 207 = .ok (.iload 6, 2) := by decide +kernel
theorem dX2_fromRowToRow_209 : decode cX2_fromRowToRow 209 = .ok (.iaload, 1) := by decide +kernel
theorem dX2_fromRowToRow_210 : decode cX2_fromRowToRow 210 = .ok (.ireturn, 1) := by decide +kernel
theorem dX3_init_0 : decode cX3_init 0 = .ok (.aload_n 0, 1) := by decide +kernel
theorem dX3_init_1 : decode cX3_init 1 = .ok (.invokespecial 3, 3) := by decide +kernel
theorem dX3_init_4 : decode cX3_init 4 = .ok (.return_, 1) := by decide +kernel
theorem dX3_tieKnot_0 : decode cX3_tieKnot 0 = .ok (.aload_n 0, 1) := by decide +kernel
theorem dX3_tieKnot_1 : decode cX3_tieKnot 1 = .ok (.dup, 1) := by decide +kernel
theorem dX3_tieKnot_2 : decode cX3_tieKnot 2 = .ok (.getfield 9, 3) := by decide +kernel
theorem dX3_tieKnot_5 : decode cX3_tieKnot 5 = .ok (.iconst 1, 1) := by decide +kernel
theorem dX3_tieKnot_6 : decode cX3_tieKnot 6 = .ok (.iadd, 1) := by decide +kernel
theorem dX3_tieKnot_7 : decode cX3_tieKnot 7 = .ok (.putfield 9, 3) := by decide +kernel
theorem dX3_tieKnot_10 : decode cX3_tieKnot 10 = .ok (.aload_n 0, 1) := by decide +kernel
theorem dX3_tieKnot_11 : decode cX3_tieKnot 11 = .ok (.getfield 15, 3) := by decide +kernel
theorem dX3_tieKnot_14 : decode cX3_tieKnot 14 = .ok (.ifCond .eq 38, 3) := by decide +kernel
theorem dX3_tieKnot_17 : decode cX3_tieKnot 17 = .ok (.aload_n 0, 1) := by decide +kernel
theorem dX3_tieKnot_18 : decode cX3_tieKnot 18 = .ok (.getfield 9, 3) := by decide +kernel
theorem dX3_tieKnot_21 : decode cX3_tieKnot 21 = .ok (.aload_n 0, 1) := by decide +kernel
theorem dX3_tieKnot_22 : decode cX3_tieKnot 22 = .ok (.getfield 15, 3) := by decide +kernel
theorem dX3_tieKnot_25 : decode cX3_tieKnot 25 = .ok (.irem, 1) := by decide +kernel
theorem dX3_tieKnot_26 : decode cX3_tieKnot 26 = .ok (.ifCond .ne 26, 3) := by decide +kernel
theorem dX3_tieKnot_29 : decode cX3_tieKnot 29 = .ok (.aload_n 0, 1) := by decide +kernel
theorem dX3_tieKnot_30 : decode cX3_tieKnot 30 = .ok (.dup, 1) := by decide +kernel
theorem dX3_tieKnot_31 : decode cX3_tieKnot 31 = .ok (.getfield 18, 3) := by decide +kernel
theorem dX3_tieKnot_34 : decode cX3_tieKnot 34 = .ok (.iconst 1, 1) := by decide +kernel
theorem dX3_tieKnot_35 : decode cX3_tieKnot 35 = .ok (.iadd, 1) := by decide +kernel
theorem dX3_tieKnot_36 : decode cX3_tieKnot 36 = .ok (.putfield 18, 3) := by decide +kernel
theorem dX3_tieKnot_39 : decode cX3_tieKnot 39 = .ok (.aload_n 1, 1) := by decide +kernel
theorem dX3_tieKnot_40 : decode cX3_tieKnot 40 = .ok (.dup, 1) := by decide +kernel
theorem dX3_tieKnot_41 : decode cX3_tieKnot 41 = .ok (.getfield 21, 3) := by decide +kernel
theorem dX3_tieKnot_44 : decode cX3_tieKnot 44 = .ok (.iconst 1, 1) := by decide +kernel
theorem dX3_tieKnot_45 : decode cX3_tieKnot 45 = .ok (.iadd, 1) := by decide +kernel
theorem dX3_tieKnot_46 : decode cX3_tieKnot 46 = .ok (.putfield 21, 3) := by decide +kernel
theorem dX3_tieKnot_49 : decode cX3_tieKnot 49 = .ok (.goto 59, 3) := by decide +kernel
theorem dX3_tieKnot_52 : decode cX3_tieKnot 52 = .ok (.aload_n 0, 1) := by decide +kernel
theorem dX3_tieKnot_53 : decode cX3_tieKnot 53 = .ok (.getfield 24, 3) := by decide +kernel
theorem dX3_tieKnot_56 : decode cX3_tieKnot 56 = .ok (.ifCond .eq 47, 3) := by decide +kernel
theorem dX3_tieKnot_59 : decode cX3_tieKnot 59 = .ok (.aload_n 0, 1) := by decide +kernel
theorem dX3_tieKnot_60 : decode cX3_tieKnot 60 = .ok (.getfield 9, 3) := by decide +kernel
theorem dX3_tieKnot_63 : decode cX3_tieKnot 63 = .ok (.aload_n 0, 1) := by decide +kernel
theorem dX3_tieKnot_64 : decode cX3_tieKnot 64 = .ok (.getfield 24, 3) := by decide +kernel
theorem dX3_tieKnot_67 : decode cX3_tieKnot 67 = .ok (.irem, 1) := by decide +kernel
theorem dX3_tieKnot_68 : decode cX3_tieKnot 68 = .ok (.ifCond .ne 35, 3) := by decide +kernel
theorem dX3_tieKnot_71 : decode cX3_tieKnot 71 = .ok (.aload_n 0, 1) := by decide +kernel
theorem dX3_tieKnot_72 : decode cX3_tieKnot 72 = .ok (.dup, 1) := by decide +kernel
theorem dX3_tieKnot_73 : decode cX3_tieKnot 73 = .ok (.getfield 27, 3) := by decide +kernel
theorem dX3_tieKnot_76 : decode cX3_tieKnot 76 = .ok (.iconst 1, 1) := by decide +kernel
theorem dX3_tieKnot_77 : decode cX3_tieKnot 77 = .ok (.iadd, 1) := by decide +kernel
theorem dX3_tieKnot_78 : decode cX3_tieKnot 78 = .ok (.putfield 27, 3) := by decide +kernel
theorem dX3_tieKnot_81 : decode cX3_tieKnot 81 = .ok (.aload_n 1, 1) := by decide +kernel
theorem dX3_tieKnot_82 : decode cX3_tieKnot 82 = .ok (.dup, 1) := by decide +kernel
theorem dX3_tieKnot_83 : decode cX3_tieKnot 83 = .ok (.getfield 30, 3) := by decide +kernel
theorem dX3_tieKnot_86 : decode cX3_tieKnot 86 = .ok (.iconst 1, 1) := by decide +kernel
theorem dX3_tieKnot_87 : decode cX3_tieKnot 87 = .ok (.iadd, 1) := by decide +kernel
theorem dX3_tieKnot_88 : decode cX3_tieKnot 88 = .ok (.putfield 30, 3) := by decide +kernel
theorem dX3_tieKnot_91 : decode cX3_tieKnot 91 = .ok (.aload_n 1, 1) := by decide +kernel
theorem dX3_tieKnot_92 : decode cX3_tieKnot 92 = .ok (.iload_n 2, 1) := by decide +kernel
theorem dX3_tieKnot_93 : decode cX3_tieKnot 93 = .ok (.iconst 4, 1) := by decide +kernel
theorem dX3_tieKnot_94 : decode cX3_tieKnot 94 = .ok (.irem, 1) := by decide +kernel
theorem dX3_tieKnot_95 : decode cX3_tieKnot 95 = .ok (.iconst 1, 1) := by decide +kernel
theorem dX3_tieKnot_96 : decode cX3_tieKnot 96 = .ok (.iadd, 1) := by decide +kernel
theorem dX3_tieKnot_97 : decode cX3_tieKnot 97 = .ok (.invokevirtual 31, 3) := by decide +kernel
theorem dX3_tieKnot_100 : decode cX3_tieKnot 100 = .ok (.goto 8, 3) := by decide +kernel
theorem dX3_tieKnot_103 : decode cX3_tieKnot 103 = .ok (.aload_n 1, 1) := by decide +kernel
theorem dX3_tieKnot_104 : decode cX3_tieKnot 104 = .ok (.iload_n 2, 1) := by decide +kernel
theorem dX3_tieKnot_105 : decode cX3_tieKnot 105 = .ok (.invokevirtual 31, 3) := by decide +kernel
theorem dX3_tieKnot_108 : decode cX3_tieKnot 108 = .ok (.return_, 1) := by decide +kernel
theorem dX4_init_0 : decode cX4_init 0 = .ok (.aload_n 0, 1) := by decide +kernel
theorem dX4_init_1 : decode cX4_init 1 = .ok (.invokespecial 3, 3) := by decide +kernel
theorem dX4_init_4 : decode cX4_init 4 = .ok (.aload_n 0, 1) := by decide +kernel
theorem dX4_init_5 : decode cX4_init 5 = .ok (.bipush 41, 2) := by decide +kernel
theorem dX4_init_7 : decode cX4_init 7 = .ok (.newarray .int, 2) := by decide +kernel
theorem dX4_init_9 : decode cX4_init 9 = .ok (.putfield 9, 3) := by decide +kernel
theorem dX4_init_12 : decode cX4_init 12 = .ok (.aload_n 0, 1) := by decide +kernel
theorem dX4_init_13 : decode cX4_init 13 = .ok (.bipush 41, 2) := by decide +kernel
theorem dX4_init_15 : decode cX4_init 15 = .ok (.newarray .int, 2) := by decide +kernel
theorem dX4_init_17 : decode cX4_init 17 = .ok (.putfield 15, 3) := by decide +kernel
theorem dX4_init_20 : decode cX4_init 20 = .ok (.aload_n 0, 1) := by decide +kernel
theorem dX4_init_21 : decode cX4_init 21 = .ok (.bipush 41, 2) := by decide +kernel
theorem dX4_init_23 : decode cX4_init 23 = .ok (.newarray .int, 2) := by decide +kernel
theorem dX4_init_25 : decode cX4_init 25 = .ok (.putfield 18, 3) := by decide +kernel
theorem dX4_init_28 : decode cX4_init 28 = .ok (.aload_n 0, 1) := by decide +kernel
theorem dX4_init_29 : decode cX4_init 29 = .ok (.bipush 96, 2) := by decide +kernel
theorem dX4_init_31 : decode cX4_init 31 = .ok (.newarray .int, 2) := by decide +kernel
theorem dX4_init_33 : decode cX4_init 33 = .ok (.putfield 21, 3) := by decide +kernel
theorem dX4_init_36 : decode cX4_init 36 = .ok (.aload_n 0, 1) := by decide +kernel
theorem dX4_init_37 : decode cX4_init 37 = .ok (.bipush 96, 2) := by decide +kernel
theorem dX4_init_39 : decode cX4_init 39 = .ok (.newarray .int, 2) := by decide +kernel
theorem dX4_init_41 : decode cX4_init 41 = .ok (.putfield 24, 3) := by decide +kernel
theorem dX4_init_44 : decode cX4_init 44 = .ok (.aload_n 0, 1) := by decide +kernel
theorem dX4_init_45 : decode cX4_init 45 = .ok (.bipush 41, 2) := by decide +kernel
theorem dX4_init_47 : decode cX4_init 47 = .ok (.newarray .int, 2) := by decide +kernel
theorem dX4_init_49 : decode cX4_init 49 = .ok (.putfield 27, 3) := by decide +kernel
theorem dX4_init_52 : decode cX4_init 52 = .ok (.aload_n 0, 1) := by decide +kernel
theorem dX4_init_53 : decode cX4_init 53 = .ok (.aload_n 1, 1) := by decide +kernel
theorem dX4_init_54 : decode cX4_init 54 = .ok (.putfield 30, 3) := by decide +kernel
theorem dX4_init_57 : decode cX4_init 57 = .ok (.aload_n 0, 1) := by decide +kernel
theorem dX4_init_58 : decode cX4_init 58 = .ok (.aload_n 2, 1) := by decide +kernel
theorem dX4_init_59 : decode cX4_init 59 = .ok (.putfield 34, 3) := by decide +kernel
theorem dX4_init_62 : decode cX4_init 62 = .ok (.return_, 1) := by decide +kernel
theorem dX4_costIn_0 : decode cX4_costIn 0 = .ok (.iload_n 0, 1) := by decide +kernel
theorem dX4_costIn_1 : decode cX4_costIn 1 = .ok (.bipush 64, 2) := by decide +kernel
theorem dX4_costIn_3 : decode cX4_costIn 3 = .ok (.idiv, 1) := by decide +kernel
theorem dX4_costIn_4 : decode cX4_costIn 4 = .ok (.ireturn, 1) := by decide +kernel
theorem dX4_lettersIn_0 : decode cX4_lettersIn 0 = .ok (.iload_n 0, 1) := by decide +kernel
theorem dX4_lettersIn_1 : decode cX4_lettersIn 1 = .ok (.bipush 64, 2) := by decide +kernel
theorem dX4_lettersIn_3 : decode cX4_lettersIn 3 = .ok (.irem, 1) := by decide +kernel
theorem dX4_lettersIn_4 : decode cX4_lettersIn 4 = .ok (.ireturn, 1) := by decide +kernel
theorem dX4_weightOf_0 : decode cX4_weightOf 0 = .ok (.iconst 0, 1) := by decide +kernel
theorem dX4_weightOf_1 : decode cX4_weightOf 1 = .ok (.istore_n 2, 1) := by decide +kernel
theorem dX4_weightOf_2 : decode cX4_weightOf 2 = .ok (.iconst 0, 1) := by decide +kernel
theorem dX4_weightOf_3 : decode cX4_weightOf 3 = .ok (.istore_n 3, 1) := by decide +kernel
theorem dX4_weightOf_4 : decode cX4_weightOf 4 = .ok (.iconst 0, 1) := by decide +kernel
theorem dX4_weightOf_5 : decode cX4_weightOf 5 = .ok (.istore 4, 2) := by decide +kernel
theorem dX4_weightOf_7 : decode cX4_weightOf 7 = .ok (.iload 4, 2) := by decide +kernel
theorem dX4_weightOf_9 : decode cX4_weightOf 9 = .ok (.aload_n 1, 1) := by decide +kernel
theorem dX4_weightOf_10 : decode cX4_weightOf 10 = .ok (.getfield 38, 3) := by decide +kernel
theorem dX4_weightOf_13 : decode cX4_weightOf 13 = .ok (.if_icmp .gt 40, 3) := by decide +kernel
theorem dX4_weightOf_16 : decode cX4_weightOf 16 = .ok (.aload_n 1, 1) := by decide +kernel
theorem dX4_weightOf_17 : decode cX4_weightOf 17 = .ok (.iload 4, 2) := by decide +kernel
theorem dX4_weightOf_19 : decode cX4_weightOf 19 = .ok (.invokevirtual 44, 3) := by decide +kernel
theorem dX4_weightOf_22 : decode cX4_weightOf 22 = .ok (.ifCond .eq 25, 3) := by decide +kernel
theorem dX4_weightOf_25 : decode cX4_weightOf 25 = .ok (.aload_n 0, 1) := by decide +kernel
theorem dX4_weightOf_26 : decode cX4_weightOf 26 = .ok (.aload_n 1, 1) := by decide +kernel
theorem dX4_weightOf_27 : decode cX4_weightOf 27 = .ok (.iload_n 3, 1) := by decide +kernel
theorem dX4_weightOf_28 : decode cX4_weightOf 28 = .ok (.iload 4, 2) := by decide +kernel
theorem dX4_weightOf_30 : decode cX4_weightOf 30 = .ok (.invokevirtual 48, 3) := by decide +kernel
theorem dX4_weightOf_33 : decode cX4_weightOf 33 = .ok (.iload_n 2, 1) := by decide +kernel
theorem dX4_weightOf_34 : decode cX4_weightOf 34 = .ok (.aload_n 0, 1) := by decide +kernel
theorem dX4_weightOf_35 : decode cX4_weightOf 35 = .ok (.getfield 9, 3) := by decide +kernel
theorem dX4_weightOf_38 : decode cX4_weightOf 38 = .ok (.iload_n 3, 1) := by decide +kernel
theorem dX4_weightOf_39 : decode cX4_weightOf 39 = .ok (.iaload, 1) := by decide +kernel
theorem dX4_weightOf_40 : decode cX4_weightOf 40 = .ok (.iadd, 1) := by decide +kernel
theorem dX4_weightOf_41 : decode cX4_weightOf 41 = .ok (.istore_n 2, 1) := by decide +kernel
theorem dX4_weightOf_42 : decode cX4_weightOf 42 = .ok (.iload 4, 2) := by decide +kernel
theorem dX4_weightOf_44 : decode cX4_weightOf 44 = .ok (.iconst 1, 1) := by decide +kernel
theorem dX4_weightOf_45 : decode cX4_weightOf 45 = .ok (.iadd, 1) := by decide +kernel
theorem dX4_weightOf_46 : decode cX4_weightOf 46 = .ok (.istore_n 3, 1) := by decide +kernel
theorem dX4_weightOf_47 : decode cX4_weightOf 47 = .ok (.iinc 4 1, 3) := by decide +kernel
theorem dX4_weightOf_50 : decode cX4_weightOf 50 = .ok (.goto (-43), 3) := by decide +kernel
theorem dX4_weightOf_53 : decode cX4_weightOf 53 = .ok (.iload_n 2, 1) := by decide +kernel
theorem dX4_weightOf_54 : decode cX4_weightOf 54 = .ok (.ireturn, 1) := by decide +kernel
theorem dX4_writeText_0 : decode cX4_writeText 0 = .ok (.iconst 0, 1) := by decide +kernel
theorem dX4_writeText_1 : decode cX4_writeText 1 = .ok (.istore_n 3, 1) := by decide +kernel
theorem dX4_writeText_2 : decode cX4_writeText 2 = .ok (.iconst 0, 1) := by decide +kernel
theorem dX4_writeText_3 : decode cX4_writeText 3 = .ok (.istore 4, 2) := by decide +kernel
theorem dX4_writeText_5 : decode cX4_writeText 5 = .ok (.iconst 0, 1) := by decide +kernel
theorem dX4_writeText_6 : decode cX4_writeText 6 = .ok (.istore 5, 2) := by decide +kernel
theorem dX4_writeText_8 : decode cX4_writeText 8 = .ok (.iload 5, 2) := by decide +kernel
theorem dX4_writeText_10 : decode cX4_writeText 10 = .ok (.aload_n 1, 1) := by decide +kernel
theorem dX4_writeText_11 : decode cX4_writeText 11 = .ok (.getfield 38, 3) := by decide +kernel
theorem dX4_writeText_14 : decode cX4_writeText 14 = .ok (.if_icmp .gt 65, 3) := by decide +kernel
theorem dX4_writeText_17 : decode cX4_writeText 17 = .ok (.aload_n 1, 1) := by decide +kernel
theorem dX4_writeText_18 : decode cX4_writeText 18 = .ok (.iload 5, 2) := by decide +kernel
theorem dX4_writeText_20 : decode cX4_writeText 20 = .ok (.invokevirtual 44, 3) := by decide +kernel
theorem dX4_writeText_23 : decode cX4_writeText 23 = .ok (.ifCond .eq 50, 3) := by decide +kernel
theorem dX4_writeText_26 : decode cX4_writeText 26 = .ok (.aload_n 0, 1) := by decide +kernel
theorem dX4_writeText_27 : decode cX4_writeText 27 = .ok (.aload_n 1, 1) := by decide +kernel
theorem dX4_writeText_28 : decode cX4_writeText 28 = .ok (.iload 4, 2) := by decide +kernel
theorem dX4_writeText_30 : decode cX4_writeText 30 = .ok (.iload 5, 2) := by decide +kernel
theorem dX4_writeText_32 : decode cX4_writeText 32 = .ok (.invokevirtual 48, 3) := by decide +kernel
theorem dX4_writeText_35 : decode cX4_writeText 35 = .ok (.aload_n 0, 1) := by decide +kernel
theorem dX4_writeText_36 : decode cX4_writeText 36 = .ok (.iload 4, 2) := by decide +kernel
theorem dX4_writeText_38 : decode cX4_writeText 38 = .ok (.aload_n 2, 1) := by decide +kernel
theorem dX4_writeText_39 : decode cX4_writeText 39 = .ok (.iload_n 3, 1) := by decide +kernel
theorem dX4_writeText_40 : decode cX4_writeText 40 = .ok (.invokevirtual 52, 3) := by decide +kernel
theorem dX4_writeText_43 : decode cX4_writeText 43 = .ok (.istore_n 3, 1) := by decide +kernel
theorem dX4_writeText_44 : decode cX4_writeText 44 = .ok (.iload 5, 2) := by decide +kernel
theorem dX4_writeText_46 : decode cX4_writeText 46 = .ok (.aload_n 1, 1) := by decide +kernel
theorem dX4_writeText_47 : decode cX4_writeText 47 = .ok (.getfield 38, 3) := by decide +kernel
theorem dX4_writeText_50 : decode cX4_writeText 50 = .ok (.if_icmp .ge 17, 3) := by decide +kernel
theorem dX4_writeText_53 : decode cX4_writeText 53 = .ok (.iload_n 3, 1) := by decide +kernel
theorem dX4_writeText_54 : decode cX4_writeText 54 = .ok (.aload_n 2, 1) := by decide +kernel
theorem dX4_writeText_55 : decode cX4_writeText 55 = .ok (.arraylength, 1) := by decide +kernel
theorem dX4_writeText_56 : decode cX4_writeText 56 = .ok (.if_icmp .ge 11, 3) := by decide +kernel
theorem dX4_writeText_59 : decode cX4_writeText 59 = .ok (.aload_n 2, 1) := by decide +kernel
theorem dX4_writeText_60 : decode cX4_writeText 60 = .ok (.iload_n 3, 1) := by decide +kernel
theorem dX4_writeText_61 : decode cX4_writeText 61 = .ok (.bipush 32, 2) := by decide +kernel
theorem dX4_writeText_63 : decode cX4_writeText 63 = .ok (.iastore, 1) := by decide +kernel
theorem dX4_writeText_64 : decode cX4_writeText 64 = .ok (.iinc 3 1, 3) := by decide +kernel
theorem dX4_writeText_67 : decode cX4_writeText 67 = .ok (.iload 5, 2) := by decide +kernel
theorem dX4_writeText_69 : decode cX4_writeText 69 = .ok (.iconst 1, 1) := by decide +kernel
theorem dX4_writeText_70 : decode cX4_writeText 70 = .ok (.iadd, 1) := by decide +kernel
theorem dX4_writeText_71 : decode cX4_writeText 71 = .ok (.istore 4, 2) := by decide +kernel
theorem dX4_writeText_73 : decode cX4_writeText 73 = .ok (.iinc 5 1, 3) := by decide +kernel
theorem dX4_writeText_76 : decode cX4_writeText 76 = .ok (.goto (-68), 3) := by decide +kernel
theorem dX4_writeText_79 : decode cX4_writeText 79 = .ok (.iload_n 3, 1) := by decide +kernel
theorem dX4_writeText_80 : decode cX4_writeText 80 = .ok (.ireturn, 1) := by decide +kernel
theorem dX4_writeWord_0 : decode cX4_writeWord 0 = .ok (.iload_n 3, 1) := by decide +kernel
theorem dX4_writeWord_1 : decode cX4_writeWord 1 = .ok (.istore 4, 2) := by decide +kernel
theorem dX4_writeWord_3 : decode cX4_writeWord 3 = .ok (.iload_n 1, 1) := by decide +kernel
theorem dX4_writeWord_4 : decode cX4_writeWord 4 = .ok (.istore 5, 2) := by decide +kernel
theorem dX4_writeWord_6 : decode cX4_writeWord 6 = .ok (.aload_n 0, 1) := by decide +kernel
theorem dX4_writeWord_7 : decode cX4_writeWord 7 = .ok (.getfield 9, 3) := by decide +kernel
theorem dX4_writeWord_10 : decode cX4_writeWord 10 = .ok (.iload_n 1, 1) := by decide +kernel
theorem dX4_writeWord_11 : decode cX4_writeWord 11 = .ok (.iaload, 1) := by decide +kernel
theorem dX4_writeWord_12 : decode cX4_writeWord 12 = .ok (.invokestatic 56, 3) := by decide +kernel
theorem dX4_writeWord_15 : decode cX4_writeWord 15 = .ok (.istore 6, 2) := by decide +kernel
theorem dX4_writeWord_17 : decode cX4_writeWord 17 = .ok (.iload 6, 2) := by decide +kernel
theorem dX4_writeWord_19 : decode cX4_writeWord 19 = .ok (.ifCond .le 42, 3) := by decide +kernel
theorem dX4_writeWord_22 : decode cX4_writeWord 22 = .ok (.iload 4, 2) := by decide +kernel
theorem dX4_writeWord_24 : decode cX4_writeWord 24 = .ok (.aload_n 2, 1) := by decide +kernel
theorem dX4_writeWord_25 : decode cX4_writeWord 25 = .ok (.arraylength, 1) := by decide +kernel
theorem dX4_writeWord_26 : decode cX4_writeWord 26 = .ok (.if_icmp .ge 35, 3) := by decide +kernel
theorem dX4_writeWord_29 : decode cX4_writeWord 29 = .ok (.aload_n 2, 1) := by decide +kernel
theorem dX4_writeWord_30 : decode cX4_writeWord 30 = .ok (.iload 4, 2) := by decide +kernel
theorem dX4_writeWord_32 : decode cX4_writeWord 32 = .ok (.bipush 97, 2) := by decide +kernel
theorem dX4_writeWord_34 : decode cX4_writeWord 34 = .ok (.aload_n 0, 1) := by decide +kernel
theorem dX4_writeWord_35 : decode cX4_writeWord 35 = .ok (.getfield 15, 3) := by decide +kernel
theorem dX4_writeWord_38 : decode cX4_writeWord 38 = .ok (.iload 5, 2) := by decide +kernel
theorem dX4_writeWord_40 : decode cX4_writeWord 40 = .ok (.iaload, 1) := by decide +kernel
theorem dX4_writeWord_41 : decode cX4_writeWord 41 = .ok (.iadd, 1) := by decide +kernel
theorem dX4_writeWord_42 : decode cX4_writeWord 42 = .ok (.iastore, 1) := by decide +kernel
theorem dX4_writeWord_43 : decode cX4_writeWord 43 = .ok (.iinc 4 1, 3) := by decide +kernel
theorem dX4_writeWord_46 : decode cX4_writeWord 46 = .ok (.aload_n 0, 1) := by decide +kernel
theorem dX4_writeWord_47 : decode cX4_writeWord 47 = .ok (.getfield 18, 3) := by decide +kernel
theorem dX4_writeWord_50 : decode cX4_writeWord 50 = .ok (.iload 5, 2) := by decide +kernel
theorem dX4_writeWord_52 : decode cX4_writeWord 52 = .ok (.iaload, 1) := by decide +kernel
theorem dX4_writeWord_53 : decode cX4_writeWord 53 = .ok (.istore 5, 2) := by decide +kernel
theorem dX4_writeWord_55 : decode cX4_writeWord 55 = .ok (.iinc 6 (-1), 3) := by decide +kernel
theorem dX4_writeWord_58 : decode cX4_writeWord 58 = .ok (.goto (-41), 3) := by decide +kernel
theorem dX4_writeWord_61 : decode cX4_writeWord 61 = .ok (.iload 4, 2) := by decide +kernel
theorem dX4_writeWord_63 : decode cX4_writeWord 63 = .ok (.ireturn, 1) := by decide +kernel
theorem dX4_weighWord_0 : decode cX4_weighWord 0 = .ok (.aload_n 0, 1) := by decide +kernel
theorem dX4_weighWord_1 : decode cX4_weighWord 1 = .ok (.getfield 9, 3) := by decide +kernel
theorem dX4_weighWord_4 : decode cX4_weighWord 4 = .ok (.iload_n 3, 1) := by decide +kernel
theorem dX4_weighWord_5 : decode cX4_weighWord 5 = .ok (.iconst 0, 1) := by decide +kernel
theorem dX4_weighWord_6 : decode cX4_weighWord 6 = .ok (.iastore, 1) := by decide +kernel
theorem dX4_weighWord_7 : decode cX4_weighWord 7 = .ok (.aload_n 0, 1) := by decide +kernel
theorem dX4_weighWord_8 : decode cX4_weighWord 8 = .ok (.getfield 15, 3) := by decide +kernel
theorem dX4_weighWord_11 : decode cX4_weighWord 11 = .ok (.iload_n 3, 1) := by decide +kernel
theorem dX4_weighWord_12 : decode cX4_weighWord 12 = .ok (.iconst (-1), 1) := by decide +kernel
theorem dX4_weighWord_13 : decode cX4_weighWord 13 = .ok (.iastore, 1) := by decide +kernel
theorem dX4_weighWord_14 : decode cX4_weighWord 14 = .ok (.aload_n 0, 1) := by decide +kernel
theorem dX4_weighWord_15 : decode cX4_weighWord 15 = .ok (.getfield 18, 3) := by decide +kernel
theorem dX4_weighWord_18 : decode cX4_weighWord 18 = .ok (.iload_n 3, 1) := by decide +kernel
theorem dX4_weighWord_19 : decode cX4_weighWord 19 = .ok (.iload_n 3, 1) := by decide +kernel
theorem dX4_weighWord_20 : decode cX4_weighWord 20 = .ok (.iastore, 1) := by decide +kernel
theorem dX4_weighWord_21 : decode cX4_weighWord 21 = .ok (.iconst 0, 1) := by decide +kernel
theorem dX4_weighWord_22 : decode cX4_weighWord 22 = .ok (.istore 4, 2) := by decide +kernel
theorem dX4_weighWord_24 : decode cX4_weighWord 24 = .ok (.iload 4, 2) := by decide +kernel
theorem dX4_weighWord_26 : decode cX4_weighWord 26 = .ok (.bipush 12, 2) := by decide +kernel
theorem dX4_weighWord_28 : decode cX4_weighWord 28 = .ok (.if_icmp .ge 16, 3) := by decide +kernel
theorem dX4_weighWord_31 : decode cX4_weighWord 31 = .ok (.aload_n 0, 1) := by decide +kernel
theorem dX4_weighWord_32 : decode cX4_weighWord 32 = .ok (.iload_n 3, 1) := by decide +kernel
theorem dX4_weighWord_33 : decode cX4_weighWord 33 = .ok (.iload 4, 2) := by decide +kernel
theorem dX4_weighWord_35 : decode cX4_weighWord 35 = .ok (.invokevirtual 60, 3) := by decide +kernel
theorem dX4_weighWord_38 : decode cX4_weighWord 38 = .ok (.iinc 4 1, 3) := by decide +kernel
theorem dX4_weighWord_41 : decode cX4_weighWord 41 = .ok (.goto (-17), 3) := by decide +kernel
theorem dX4_weighWord_44 : decode cX4_weighWord 44 = .ok (.iload_n 3, 1) := by decide +kernel
theorem dX4_weighWord_45 : decode cX4_weighWord 45 = .ok (.iconst 1, 1) := by decide +kernel
theorem dX4_weighWord_46 : decode cX4_weighWord 46 = .ok (.isub, 1) := by decide +kernel
theorem dX4_weighWord_47 : decode cX4_weighWord 47 = .ok (.istore 4, 2) := by decide +kernel
theorem dX4_weighWord_49 : decode cX4_weighWord 49 = .ok (.iload 4, 2) := by decide +kernel
theorem dX4_weighWord_51 : decode cX4_weighWord 51 = .ok (.iload_n 2, 1) := by decide +kernel
theorem dX4_weighWord_52 : decode cX4_weighWord 52 = .ok (.if_icmp .lt 53, 3) := by decide +kernel
theorem dX4_weighWord_55 : decode cX4_weighWord 55 = .ok (.aload_n 0, 1) := by decide +kernel
theorem dX4_weighWord_56 : decode cX4_weighWord 56 = .ok (.iload 4, 2) := by decide +kernel
theorem dX4_weighWord_58 : decode cX4_weighWord 58 = .ok (.aload_n 1, 1) := by decide +kernel
theorem dX4_weighWord_59 : decode cX4_weighWord 59 = .ok (.getfield 64, 3) := by decide +kernel
theorem dX4_weighWord_62 : decode cX4_weighWord 62 = .ok (.iload 4, 2) := by decide +kernel
theorem dX4_weighWord_64 : decode cX4_weighWord 64 = .ok (.iaload, 1) := by decide +kernel
theorem dX4_weighWord_65 : decode cX4_weighWord 65 = .ok (.invokevirtual 67, 3) := by decide +kernel
theorem dX4_weighWord_68 : decode cX4_weighWord 68 = .ok (.iconst 0, 1) := by decide +kernel
theorem dX4_weighWord_69 : decode cX4_weighWord 69 = .ok (.istore 5, 2) := by decide +kernel
theorem dX4_weighWord_71 : decode cX4_weighWord 71 = .ok (.iload 5, 2) := by decide +kernel
theorem dX4_weighWord_73 : decode cX4_weighWord 73 = .ok (.bipush 12, 2) := by decide +kernel
theorem dX4_weighWord_75 : decode cX4_weighWord 75 = .ok (.if_icmp .ge 24, 3) := by decide +kernel
theorem dX4_weighWord_78 : decode cX4_weighWord 78 = .ok (.aload_n 0, 1) := by decide +kernel
theorem dX4_weighWord_79 : decode cX4_weighWord 79 = .ok (.iload 4, 2) := by decide +kernel
theorem dX4_weighWord_81 : decode cX4_weighWord 81 = .ok (.iload 5, 2) := by decide +kernel
theorem dX4_weighWord_83 : decode cX4_weighWord 83 = .ok (.aload_n 1, 1) := by decide +kernel
theorem dX4_weighWord_84 : decode cX4_weighWord 84 = .ok (.getfield 64, 3) := by decide +kernel
theorem dX4_weighWord_87 : decode cX4_weighWord 87 = .ok (.iload 4, 2) := by decide +kernel
theorem dX4_weighWord_89 : decode cX4_weighWord 89 = .ok (.iaload, 1) := by decide +kernel
theorem dX4_weighWord_90 : decode cX4_weighWord 90 = .ok (.invokevirtual 70, 3) := by decide +kernel
theorem dX4_weighWord_93 : decode cX4_weighWord 93 = .ok (.iinc 5 1, 3) := by decide +kernel
theorem dX4_weighWord_96 : decode cX4_weighWord 96 = .ok (.goto (-25), 3) := by decide +kernel
theorem dX4_weighWord_99 : decode cX4_weighWord 99 = .ok (.iinc 4 (-1), 3) := by decide +kernel
theorem dX4_weighWord_102 : decode cX4_weighWord 102 = .ok (.goto (-53), 3) := by decide +kernel
theorem dX4_weighWord_105 : decode cX4_weighWord 105 = .ok (.return_, 1) := by decide +kernel
theorem dX4_weighPlace_0 : decode cX4_weighPlace 0 = .ok (.aload_n 0, 1) := by decide +kernel
theorem dX4_weighPlace_1 : decode cX4_weighPlace 1 = .ok (.getfield 9, 3) := by decide +kernel
theorem dX4_weighPlace_4 : decode cX4_weighPlace 4 = .ok (.iload_n 1, 1) := by decide +kernel
theorem dX4_weighPlace_5 : decode cX4_weighPlace 5 = .ok (.aload_n 0, 1) := by decide +kernel
theorem dX4_weighPlace_6 : decode cX4_weighPlace 6 = .ok (.getfield 9, 3) := by decide +kernel
theorem dX4_weighPlace_9 : decode cX4_weighPlace 9 = .ok (.iload_n 1, 1) := by decide +kernel
theorem dX4_weighPlace_10 : decode cX4_weighPlace 10 = .ok (.iconst 1, 1) := by decide +kernel
theorem dX4_weighPlace_11 : decode cX4_weighPlace 11 = .ok (.iadd, 1) := by decide +kernel
theorem dX4_weighPlace_12 : decode cX4_weighPlace 12 = .ok (.iaload, 1) := by decide +kernel
theorem dX4_weighPlace_13 : decode cX4_weighPlace 13 = .ok (.bipush 64, 2) := by decide +kernel
theorem dX4_weighPlace_15 : decode cX4_weighPlace 15 = .ok (.aload_n 0, 1) := by decide +kernel
theorem dX4_weighPlace_16 : decode cX4_weighPlace 16 = .ok (.getfield 34, 3) := by decide +kernel
theorem dX4_weighPlace_19 : decode cX4_weighPlace 19 = .ok (.getfield 74, 3) := by decide +kernel
theorem dX4_weighPlace_22 : decode cX4_weighPlace 22 = .ok (.imul, 1) := by decide +kernel
theorem dX4_weighPlace_23 : decode cX4_weighPlace 23 = .ok (.iadd, 1) := by decide +kernel
theorem dX4_weighPlace_24 : decode cX4_weighPlace 24 = .ok (.iastore, 1) := by decide +kernel
theorem dX4_weighPlace_25 : decode cX4_weighPlace 25 = .ok (.aload_n 0, 1) := by decide +kernel
theorem dX4_weighPlace_26 : decode cX4_weighPlace 26 = .ok (.getfield 15, 3) := by decide +kernel
theorem dX4_weighPlace_29 : decode cX4_weighPlace 29 = .ok (.iload_n 1, 1) := by decide +kernel
theorem dX4_weighPlace_30 : decode cX4_weighPlace 30 = .ok (.aload_n 0, 1) := by decide +kernel
theorem dX4_weighPlace_31 : decode cX4_weighPlace 31 = .ok (.getfield 15, 3) := by decide +kernel
theorem dX4_weighPlace_34 : decode cX4_weighPlace 34 = .ok (.iload_n 1, 1) := by decide +kernel
theorem dX4_weighPlace_35 : decode cX4_weighPlace 35 = .ok (.iconst 1, 1) := by decide +kernel
theorem dX4_weighPlace_36 : decode cX4_weighPlace 36 = .ok (.iadd, 1) := by decide +kernel
theorem dX4_weighPlace_37 : decode cX4_weighPlace 37 = .ok (.iaload, 1) := by decide +kernel
theorem dX4_weighPlace_38 : decode cX4_weighPlace 38 = .ok (.iastore, 1) := by decide +kernel
theorem dX4_weighPlace_39 : decode cX4_weighPlace 39 = .ok (.aload_n 0, 1) := by decide +kernel
theorem dX4_weighPlace_40 : decode cX4_weighPlace 40 = .ok (.getfield 18, 3) := by decide +kernel
theorem dX4_weighPlace_43 : decode cX4_weighPlace 43 = .ok (.iload_n 1, 1) := by decide +kernel
theorem dX4_weighPlace_44 : decode cX4_weighPlace 44 = .ok (.aload_n 0, 1) := by decide +kernel
theorem dX4_weighPlace_45 : decode cX4_weighPlace 45 = .ok (.getfield 18, 3) := by decide +kernel
theorem dX4_weighPlace_48 : decode cX4_weighPlace 48 = .ok (.iload_n 1, 1) := by decide +kernel
theorem dX4_weighPlace_49 : decode cX4_weighPlace 49 = .ok (.iconst 1, 1) := by decide +kernel
theorem dX4_weighPlace_50 : decode cX4_weighPlace 50 = .ok (.iadd, 1) := by decide +kernel
theorem dX4_weighPlace_51 : decode cX4_weighPlace 51 = .ok (.iaload, 1) := by decide +kernel
theorem dX4_weighPlace_52 : decode cX4_weighPlace 52 = .ok (.iastore, 1) := by decide +kernel
theorem dX4_weighPlace_53 : decode cX4_weighPlace 53 = .ok (.iconst 0, 1) := by decide +kernel
theorem dX4_weighPlace_54 : decode cX4_weighPlace 54 = .ok (.istore_n 3, 1) := by decide +kernel
theorem dX4_weighPlace_55 : decode cX4_weighPlace 55 = .ok (.iload_n 3, 1) := by decide +kernel
theorem dX4_weighPlace_56 : decode cX4_weighPlace 56 = .ok (.bipush 12, 2) := by decide +kernel
theorem dX4_weighPlace_58 : decode cX4_weighPlace 58 = .ok (.if_icmp .ge 104, 3) := by decide +kernel
theorem dX4_weighPlace_61 : decode cX4_weighPlace 61 = .ok (.iconst 0, 1) := by decide +kernel
theorem dX4_weighPlace_62 : decode cX4_weighPlace 62 = .ok (.istore 4, 2) := by decide +kernel
theorem dX4_weighPlace_64 : decode cX4_weighPlace 64 = .ok (.iload 4, 2) := by decide +kernel
theorem dX4_weighPlace_66 : decode cX4_weighPlace 66 = .ok (.aload_n 0, 1) := by decide +kernel
theorem dX4_weighPlace_67 : decode cX4_weighPlace 67 = .ok (.getfield 30, 3) := by decide +kernel
theorem dX4_weighPlace_70 : decode cX4_weighPlace 70 = .ok (.getfield 79, 3) := by decide +kernel
theorem dX4_weighPlace_73 : decode cX4_weighPlace 73 = .ok (.iload_n 3, 1) := by decide +kernel
theorem dX4_weighPlace_74 : decode cX4_weighPlace 74 = .ok (.iaload, 1) := by decide +kernel
theorem dX4_weighPlace_75 : decode cX4_weighPlace 75 = .ok (.if_icmp .ge 81, 3) := by decide +kernel
theorem dX4_weighPlace_78 : decode cX4_weighPlace 78 = .ok (.iload_n 1, 1) := by decide +kernel
theorem dX4_weighPlace_79 : decode cX4_weighPlace 79 = .ok (.iconst 1, 1) := by decide +kernel
theorem dX4_weighPlace_80 : decode cX4_weighPlace 80 = .ok (.iadd, 1) := by decide +kernel
theorem dX4_weighPlace_81 : decode cX4_weighPlace 81 = .ok (.iload_n 3, 1) := by decide +kernel
theorem dX4_weighPlace_82 : decode cX4_weighPlace 82 = .ok (.iload 4, 2) := by decide +kernel
theorem dX4_weighPlace_84 : decode cX4_weighPlace 84 = .ok (.iconst 1, 1) := by decide +kernel
theorem dX4_weighPlace_85 : decode cX4_weighPlace 85 = .ok (.iadd, 1) := by decide +kernel
theorem dX4_weighPlace_86 : decode cX4_weighPlace 86 = .ok (.invokestatic 84, 3) := by decide +kernel
theorem dX4_weighPlace_89 : decode cX4_weighPlace 89 = .ok (.istore 5, 2) := by decide +kernel
theorem dX4_weighPlace_91 : decode cX4_weighPlace 91 = .ok (.iload 4, 2) := by decide +kernel
theorem dX4_weighPlace_93 : decode cX4_weighPlace 93 = .ok (.aload_n 0, 1) := by decide +kernel
theorem dX4_weighPlace_94 : decode cX4_weighPlace 94 = .ok (.getfield 34, 3) := by decide +kernel
theorem dX4_weighPlace_97 : decode cX4_weighPlace 97 = .ok (.getfield 88, 3) := by decide +kernel
theorem dX4_weighPlace_100 : decode cX4_weighPlace 100 = .ok (.imul, 1) := by decide +kernel
theorem dX4_weighPlace_101 : decode cX4_weighPlace 101 = .ok (.aload_n 0, 1) := by decide +kernel
theorem dX4_weighPlace_102 : decode cX4_weighPlace 102 = .ok (.getfield 34, 3) := by decide +kernel
theorem dX4_weighPlace_105 : decode cX4_weighPlace 105 = .ok (.aload_n 0, 1) := by decide +kernel
theorem dX4_weighPlace_106 : decode cX4_weighPlace 106 = .ok (.getfield 30, 3) := by decide +kernel
theorem dX4_weighPlace_109 : decode cX4_weighPlace 109 = .ok (.iload_n 3, 1) := by decide +kernel
theorem dX4_weighPlace_110 : decode cX4_weighPlace 110 = .ok (.iload 4, 2) := by decide +kernel
theorem dX4_weighPlace_112 : decode cX4_weighPlace 112 = .ok (.invokevirtual 91, 3) := by decide +kernel
theorem dX4_weighPlace_115 : decode cX4_weighPlace 115 = .ok (.iload_n 2, 1) := by decide +kernel
theorem dX4_weighPlace_116 : decode cX4_weighPlace 116 = .ok (.invokevirtual 95, 3) := by decide +kernel
theorem dX4_weighPlace_119 : decode cX4_weighPlace 119 = .ok (.iadd, 1) := by decide +kernel
theorem dX4_weighPlace_120 : decode cX4_weighPlace 120 = .ok (.istore 6, 2) := by decide +kernel
theorem dX4_weighPlace_122 : decode cX4_weighPlace 122 = .ok (.aload_n 0, 1) := by decide +kernel
theorem dX4_weighPlace_123 : decode cX4_weighPlace 123 = .ok (.iload_n 1, 1) := by decide +kernel
theorem dX4_weighPlace_124 : decode cX4_weighPlace 124 = .ok (.aload_n 0, 1) := by decide +kernel
theorem dX4_weighPlace_125 : decode cX4_weighPlace 125 = .ok (.getfield 21, 3) := by decide +kernel
theorem dX4_weighPlace_128 : decode cX4_weighPlace 128 = .ok (.iload 5, 2) := by decide +kernel
theorem dX4_weighPlace_130 : decode cX4_weighPlace 130 = .ok (.iaload, 1) := by decide +kernel
theorem dX4_weighPlace_131 : decode cX4_weighPlace 131 = .ok (.bipush 64, 2) := by decide +kernel
theorem dX4_weighPlace_133 : decode cX4_weighPlace 133 = .ok (.iload 6, 2) := by decide +kernel
theorem dX4_weighPlace_135 : decode cX4_weighPlace 135 = .ok (.imul, 1) := by decide +kernel
theorem dX4_weighPlace_136 : decode cX4_weighPlace 136 = .ok (.iadd, 1) := by decide +kernel
theorem dX4_weighPlace_137 : decode cX4_weighPlace 137 = .ok (.iconst 1, 1) := by decide +kernel
theorem dX4_weighPlace_138 : decode cX4_weighPlace 138 = .ok (.iadd, 1) := by decide +kernel
theorem dX4_weighPlace_139 : decode cX4_weighPlace 139 = .ok (.iload_n 3, 1) := by decide +kernel
theorem dX4_weighPlace_140 : decode cX4_weighPlace 140 = .ok (.aload_n 0, 1) := by decide +kernel
theorem dX4_weighPlace_141 : decode cX4_weighPlace 141 = .ok (.getfield 24, 3) := by decide +kernel
theorem dX4_weighPlace_144 : decode cX4_weighPlace 144 = .ok (.iload 5, 2) := by decide +kernel
theorem dX4_weighPlace_146 : decode cX4_weighPlace 146 = .ok (.iaload, 1) := by decide +kernel
theorem dX4_weighPlace_147 : decode cX4_weighPlace 147 = .ok (.invokevirtual 98, 3) := by decide +kernel
theorem dX4_weighPlace_150 : decode cX4_weighPlace 150 = .ok (.iinc 4 1, 3) := by decide +kernel
theorem dX4_weighPlace_153 : decode cX4_weighPlace 153 = .ok (.goto (-89), 3) := by decide +kernel
theorem dX4_weighPlace_156 : decode cX4_weighPlace 156 = .ok (.iinc 3 1, 3) := by decide +kernel
theorem dX4_weighPlace_159 : decode cX4_weighPlace 159 = .ok (.goto (-104), 3) := by decide +kernel
theorem dX4_weighPlace_162 : decode cX4_weighPlace 162 = .ok (.return_, 1) := by decide +kernel
theorem dX4_offerLetter_0 : decode cX4_offerLetter 0 = .ok (.iload_n 2, 1) := by decide +kernel
theorem dX4_offerLetter_1 : decode cX4_offerLetter 1 = .ok (.aload_n 0, 1) := by decide +kernel
theorem dX4_offerLetter_2 : decode cX4_offerLetter 2 = .ok (.getfield 9, 3) := by decide +kernel
theorem dX4_offerLetter_5 : decode cX4_offerLetter 5 = .ok (.iload_n 1, 1) := by decide +kernel
theorem dX4_offerLetter_6 : decode cX4_offerLetter 6 = .ok (.iaload, 1) := by decide +kernel
theorem dX4_offerLetter_7 : decode cX4_offerLetter 7 = .ok (.if_icmp .ge 7, 3) := by decide +kernel
theorem dX4_offerLetter_10 : decode cX4_offerLetter 10 = .ok (.iconst 1, 1) := by decide +kernel
theorem dX4_offerLetter_11 : decode cX4_offerLetter 11 = .ok (.goto 4, 3) := by decide +kernel
theorem dX4_offerLetter_14 : decode cX4_offerLetter 14 = .ok (.iconst 0, 1) := by decide +kernel
theorem dX4_offerLetter_15 : decode cX4_offerLetter 15 = .ok (.istore 5, 2) := by decide +kernel
theorem dX4_offerLetter_17 : decode cX4_offerLetter 17 = .ok (.iload_n 2, 1) := by decide +kernel
theorem dX4_offerLetter_18 : decode cX4_offerLetter 18 = .ok (.aload_n 0, 1) := by decide +kernel
theorem dX4_offerLetter_19 : decode cX4_offerLetter 19 = .ok (.getfield 9, 3) := by decide +kernel
theorem dX4_offerLetter_22 : decode cX4_offerLetter 22 = .ok (.iload_n 1, 1) := by decide +kernel
theorem dX4_offerLetter_23 : decode cX4_offerLetter 23 = .ok (.iaload, 1) := by decide +kernel
theorem dX4_offerLetter_24 : decode cX4_offerLetter 24 = .ok (.if_icmp .ne 45, 3) := by decide +kernel
theorem dX4_offerLetter_27 : decode cX4_offerLetter 27 = .ok (.iload_n 3, 1) := by decide +kernel
theorem dX4_offerLetter_28 : decode cX4_offerLetter 28 = .ok (.aload_n 0, 1) := by decide +kernel
theorem dX4_offerLetter_29 : decode cX4_offerLetter 29 = .ok (.getfield 15, 3) := by decide +kernel
theorem dX4_offerLetter_32 : decode cX4_offerLetter 32 = .ok (.iload_n 1, 1) := by decide +kernel
theorem dX4_offerLetter_33 : decode cX4_offerLetter 33 = .ok (.iaload, 1) := by decide +kernel
theorem dX4_offerLetter_34 : decode cX4_offerLetter 34 = .ok (.if_icmp .lt 28, 3) := by decide +kernel
theorem dX4_offerLetter_37 : decode cX4_offerLetter 37 = .ok (.iload_n 3, 1) := by decide +kernel
theorem dX4_offerLetter_38 : decode cX4_offerLetter 38 = .ok (.aload_n 0, 1) := by decide +kernel
theorem dX4_offerLetter_39 : decode cX4_offerLetter 39 = .ok (.getfield 15, 3) := by decide +kernel
theorem dX4_offerLetter_42 : decode cX4_offerLetter 42 = .ok (.iload_n 1, 1) := by decide +kernel
theorem dX4_offerLetter_43 : decode cX4_offerLetter 43 = .ok (.iaload, 1) := by decide +kernel
theorem dX4_offerLetter_44 : decode cX4_offerLetter 44 = .ok (.if_icmp .ne 22, 3) := by decide +kernel
theorem dX4_offerLetter_47 : decode cX4_offerLetter 47 = .ok (.aload_n 0, 1) := by decide +kernel
theorem dX4_offerLetter_48 : decode cX4_offerLetter 48 = .ok (.iload 4, 2) := by decide +kernel
theorem dX4_offerLetter_50 : decode cX4_offerLetter 50 = .ok (.aload_n 0, 1) := by decide +kernel
theorem dX4_offerLetter_51 : decode cX4_offerLetter 51 = .ok (.getfield 18, 3) := by decide +kernel
theorem dX4_offerLetter_54 : decode cX4_offerLetter 54 = .ok (.iload_n 1, 1) := by decide +kernel
theorem dX4_offerLetter_55 : decode cX4_offerLetter 55 = .ok (.iaload, 1) := by decide +kernel
theorem dX4_offerLetter_56 : decode cX4_offerLetter 56 = .ok (.invokevirtual 102, 3) := by decide +kernel
theorem dX4_offerLetter_59 : decode cX4_offerLetter 59 = .ok (.ifCond .eq 7, 3) := by decide +kernel
theorem dX4_offerLetter_62 : decode cX4_offerLetter 62 = .ok (.iconst 1, 1) := by decide +kernel
theorem dX4_offerLetter_63 : decode cX4_offerLetter 63 = .ok (.goto 4, 3) := by decide +kernel
theorem dX4_offerLetter_66 : decode cX4_offerLetter 66 = .ok (.iconst 0, 1) := by decide +kernel
theorem dX4_offerLetter_67 : decode cX4_offerLetter 67 = .ok (.istore 5, 2) := by decide +kernel
theorem dX4_offerLetter_69 : decode cX4_offerLetter 69 = .ok (.iload 5, 2) := by decide +kernel
theorem dX4_offerLetter_71 : decode cX4_offerLetter 71 = .ok (.ifCond .eq 25, 3) := by decide +kernel
theorem dX4_offerLetter_74 : decode cX4_offerLetter 74 = .ok (.aload_n 0, 1) := by decide +kernel
theorem dX4_offerLetter_75 : decode cX4_offerLetter 75 = .ok (.getfield 9, 3) := by decide +kernel
theorem dX4_offerLetter_78 : decode cX4_offerLetter 78 = .ok (.iload_n 1, 1) := by decide +kernel
theorem dX4_offerLetter_79 : decode cX4_offerLetter 79 = .ok (.iload_n 2, 1) := by decide +kernel
theorem dX4_offerLetter_80 : decode cX4_offerLetter 80 = .ok (.iastore, 1) := by decide +kernel
theorem dX4_offerLetter_81 : decode cX4_offerLetter 81 = .ok (.aload_n 0, 1) := by decide +kernel
theorem dX4_offerLetter_82 : decode cX4_offerLetter 82 = .ok (.getfield 15, 3) := by decide +kernel
theorem dX4_offerLetter_85 : decode cX4_offerLetter 85 = .ok (.iload_n 1, 1) := by decide +kernel
theorem dX4_offerLetter_86 : decode cX4_offerLetter 86 = .ok (.iload_n 3, 1) := by decide +kernel
theorem dX4_offerLetter_87 : decode cX4_offerLetter 87 = .ok (.iastore, 1) := by decide +kernel
theorem dX4_offerLetter_88 : decode cX4_offerLetter 88 = .ok (.aload_n 0, 1) := by decide +kernel
theorem dX4_offerLetter_89 : decode cX4_offerLetter 89 = .ok (.getfield 18, 3) := by decide +kernel
theorem dX4_offerLetter_92 : decode cX4_offerLetter 92 = .ok (.iload_n 1, 1) := by decide +kernel
end
section
theorem dX4_offerLetter_93 : decode cX4_offerLetter 93 = .ok (.iload 4, 2) := by decide +kernel
theorem dX4_offerLetter_95 : decode cX4_offerLetter 95 = .ok (.iastore, 1) := by decide +kernel
theorem dX4_offerLetter_96 : decode cX4_offerLetter 96 = .ok (.return_, 1) := by decide +kernel
theorem dX4_comesFirst_0 : decode cX4_comesFirst 0 = .ok (.iload_n 1, 1) := by decide +kernel
theorem dX4_comesFirst_1 : decode cX4_comesFirst 1 = .ok (.istore_n 3, 1) := by decide +kernel
theorem dX4_comesFirst_2 : decode cX4_comesFirst 2 = .ok (.iload_n 2, 1) := by decide +kernel
theorem dX4_comesFirst_3 : decode cX4_comesFirst 3 = .ok (.istore 4, 2) := by decide +kernel
theorem dX4_comesFirst_5 : decode cX4_comesFirst 5 = .ok (.iconst 0, 1) := by decide +kernel
theorem dX4_comesFirst_6 : decode cX4_comesFirst 6 = .ok (.istore 5, 2) := by decide +kernel
theorem dX4_comesFirst_8 : decode cX4_comesFirst 8 = .ok (.iload 5, 2) := by decide +kernel
theorem dX4_comesFirst_10 : decode cX4_comesFirst 10 = .ok (.bipush 40, 2) := by decide +kernel
theorem dX4_comesFirst_12 : decode cX4_comesFirst 12 = .ok (.if_icmp .ge 69, 3) := by decide +kernel
theorem dX4_comesFirst_15 : decode cX4_comesFirst 15 = .ok (.iload_n 3, 1) := by decide +kernel
theorem dX4_comesFirst_16 : decode cX4_comesFirst 16 = .ok (.iload 4, 2) := by decide +kernel
theorem dX4_comesFirst_18 : decode cX4_comesFirst 18 = .ok (.if_icmp .eq 63, 3) := by decide +kernel
theorem dX4_comesFirst_21 : decode cX4_comesFirst 21 = .ok (.aload_n 0, 1) := by decide +kernel
theorem dX4_comesFirst_22 : decode cX4_comesFirst 22 = .ok (.getfield 15, 3) := by decide +kernel
theorem dX4_comesFirst_25 : decode cX4_comesFirst 25 = .ok (.iload_n 3, 1) := by decide +kernel
theorem dX4_comesFirst_26 : decode cX4_comesFirst 26 = .ok (.iaload, 1) := by decide +kernel
theorem dX4_comesFirst_27 : decode cX4_comesFirst 27 = .ok (.aload_n 0, 1) := by decide +kernel
theorem dX4_comesFirst_28 : decode cX4_comesFirst 28 = .ok (.getfield 15, 3) := by decide +kernel
theorem dX4_comesFirst_31 : decode cX4_comesFirst 31 = .ok (.iload 4, 2) := by decide +kernel
theorem dX4_comesFirst_33 : decode cX4_comesFirst 33 = .ok (.iaload, 1) := by decide +kernel
theorem dX4_comesFirst_34 : decode cX4_comesFirst 34 = .ok (.if_icmp .eq 25, 3) := by decide +kernel
theorem dX4_comesFirst_37 : decode cX4_comesFirst 37 = .ok (.aload_n 0, 1) := by decide +kernel
theorem dX4_comesFirst_38 : decode cX4_comesFirst 38 = .ok (.getfield 15, 3) := by decide +kernel
theorem dX4_comesFirst_41 : decode cX4_comesFirst 41 = .ok (.iload_n 3, 1) := by decide +kernel
theorem dX4_comesFirst_42 : decode cX4_comesFirst 42 = .ok (.iaload, 1) := by decide +kernel
theorem dX4_comesFirst_43 : decode cX4_comesFirst 43 = .ok (.aload_n 0, 1) := by decide +kernel
theorem dX4_comesFirst_44 : decode cX4_comesFirst 44 = .ok (.getfield 15, 3) := by decide +kernel
theorem dX4_comesFirst_47 : decode cX4_comesFirst 47 = .ok (.iload 4, 2) := by decide +kernel
theorem dX4_comesFirst_49 : decode cX4_comesFirst 49 = .ok (.iaload, 1) := by decide +kernel
theorem dX4_comesFirst_50 : decode cX4_comesFirst 50 = .ok (.if_icmp .ge 7, 3) := by decide +kernel
theorem dX4_comesFirst_53 : decode cX4_comesFirst 53 = .ok (.iconst 1, 1) := by decide +kernel
theorem dX4_comesFirst_54 : decode cX4_comesFirst 54 = .ok (.goto 4, 3) := by decide +kernel
theorem dX4_comesFirst_57 : decode cX4_comesFirst 57 = .ok (.iconst 0, 1) := by decide +kernel
theorem dX4_comesFirst_58 : decode cX4_comesFirst 58 = .ok (.ireturn, 1) := by decide +kernel
theorem dX4_comesFirst_59 : decode cX4_comesFirst 59 = .ok (.aload_n 0, 1) := by decide +kernel
theorem dX4_comesFirst_60 : decode cX4_comesFirst 60 = .ok (.getfield 18, 3) := by decide +kernel
theorem dX4_comesFirst_63 : decode cX4_comesFirst 63 = .ok (.iload_n 3, 1) := by decide +kernel
theorem dX4_comesFirst_64 : decode cX4_comesFirst 64 = .ok (.iaload, 1) := by decide +kernel
theorem dX4_comesFirst_65 : decode cX4_comesFirst 65 = .ok (.istore_n 3, 1) := by decide +kernel
theorem dX4_comesFirst_66 : decode cX4_comesFirst 66 = .ok (.aload_n 0, 1) := by decide +kernel
theorem dX4_comesFirst_67 : decode cX4_comesFirst 67 = .ok (.getfield 18, 3) := by decide +kernel
theorem dX4_comesFirst_70 : decode cX4_comesFirst 70 = .ok (.iload 4, 2) := by decide +kernel
theorem dX4_comesFirst_72 : decode cX4_comesFirst 72 = .ok (.iaload, 1) := by decide +kernel
theorem dX4_comesFirst_73 : decode cX4_comesFirst 73 = .ok (.istore 4, 2) := by decide +kernel
theorem dX4_comesFirst_75 : decode cX4_comesFirst 75 = .ok (.iinc 5 1, 3) := by decide +kernel
theorem dX4_comesFirst_78 : decode cX4_comesFirst 78 = .ok (.goto (-70), 3) := by decide +kernel
theorem dX4_comesFirst_81 : decode cX4_comesFirst 81 = .ok (.iconst 0, 1) := by decide +kernel
theorem dX4_comesFirst_82 : decode cX4_comesFirst 82 = .ok (.ireturn, 1) := by decide +kernel
theorem dX4_slotOf_0 : decode cX4_slotOf 0 = .ok (.iload_n 0, 1) := by decide +kernel
theorem dX4_slotOf_1 : decode cX4_slotOf 1 = .ok (.iconst 1, 1) := by decide +kernel
theorem dX4_slotOf_2 : decode cX4_slotOf 2 = .ok (.iand, 1) := by decide +kernel
theorem dX4_slotOf_3 : decode cX4_slotOf 3 = .ok (.bipush 12, 2) := by decide +kernel
theorem dX4_slotOf_5 : decode cX4_slotOf 5 = .ok (.imul, 1) := by decide +kernel
theorem dX4_slotOf_6 : decode cX4_slotOf 6 = .ok (.iload_n 1, 1) := by decide +kernel
theorem dX4_slotOf_7 : decode cX4_slotOf 7 = .ok (.iadd, 1) := by decide +kernel
theorem dX4_slotOf_8 : decode cX4_slotOf 8 = .ok (.iconst 4, 1) := by decide +kernel
theorem dX4_slotOf_9 : decode cX4_slotOf 9 = .ok (.imul, 1) := by decide +kernel
theorem dX4_slotOf_10 : decode cX4_slotOf 10 = .ok (.iload_n 2, 1) := by decide +kernel
theorem dX4_slotOf_11 : decode cX4_slotOf 11 = .ok (.iadd, 1) := by decide +kernel
theorem dX4_slotOf_12 : decode cX4_slotOf 12 = .ok (.iconst 1, 1) := by decide +kernel
theorem dX4_slotOf_13 : decode cX4_slotOf 13 = .ok (.isub, 1) := by decide +kernel
theorem dX4_slotOf_14 : decode cX4_slotOf 14 = .ok (.ireturn, 1) := by decide +kernel
theorem dX4_weighLetterEnd_0 : decode cX4_weighLetterEnd 0 = .ok (.aload_n 0, 1) := by decide +kernel
theorem dX4_weighLetterEnd_1 : decode cX4_weighLetterEnd 1 = .ok (.getfield 9, 3) := by decide +kernel
theorem dX4_weighLetterEnd_4 : decode cX4_weighLetterEnd 4 = .ok (.iload_n 1, 1) := by decide +kernel
theorem dX4_weighLetterEnd_5 : decode cX4_weighLetterEnd 5 = .ok (.iaload, 1) := by decide +kernel
theorem dX4_weighLetterEnd_6 : decode cX4_weighLetterEnd 6 = .ok (.istore_n 3, 1) := by decide +kernel
theorem dX4_weighLetterEnd_7 : decode cX4_weighLetterEnd 7 = .ok (.aload_n 0, 1) := by decide +kernel
theorem dX4_weighLetterEnd_8 : decode cX4_weighLetterEnd 8 = .ok (.getfield 30, 3) := by decide +kernel
theorem dX4_weighLetterEnd_11 : decode cX4_weighLetterEnd 11 = .ok (.getfield 79, 3) := by decide +kernel
theorem dX4_weighLetterEnd_14 : decode cX4_weighLetterEnd 14 = .ok (.iload_n 2, 1) := by decide +kernel
theorem dX4_weighLetterEnd_15 : decode cX4_weighLetterEnd 15 = .ok (.iaload, 1) := by decide +kernel
theorem dX4_weighLetterEnd_16 : decode cX4_weighLetterEnd 16 = .ok (.istore 4, 2) := by decide +kernel
theorem dX4_weighLetterEnd_18 : decode cX4_weighLetterEnd 18 = .ok (.iload 4, 2) := by decide +kernel
theorem dX4_weighLetterEnd_20 : decode cX4_weighLetterEnd 20 = .ok (.ifCond .le 47, 3) := by decide +kernel
theorem dX4_weighLetterEnd_23 : decode cX4_weighLetterEnd 23 = .ok (.iload_n 1, 1) := by decide +kernel
theorem dX4_weighLetterEnd_24 : decode cX4_weighLetterEnd 24 = .ok (.iload_n 2, 1) := by decide +kernel
theorem dX4_weighLetterEnd_25 : decode cX4_weighLetterEnd 25 = .ok (.iload 4, 2) := by decide +kernel
theorem dX4_weighLetterEnd_27 : decode cX4_weighLetterEnd 27 = .ok (.invokestatic 84, 3) := by decide +kernel
theorem dX4_weighLetterEnd_30 : decode cX4_weighLetterEnd 30 = .ok (.istore 5, 2) := by decide +kernel
theorem dX4_weighLetterEnd_32 : decode cX4_weighLetterEnd 32 = .ok (.aload_n 0, 1) := by decide +kernel
theorem dX4_weighLetterEnd_33 : decode cX4_weighLetterEnd 33 = .ok (.getfield 21, 3) := by decide +kernel
theorem dX4_weighLetterEnd_36 : decode cX4_weighLetterEnd 36 = .ok (.iload 5, 2) := by decide +kernel
theorem dX4_weighLetterEnd_38 : decode cX4_weighLetterEnd 38 = .ok (.iload_n 3, 1) := by decide +kernel
theorem dX4_weighLetterEnd_39 : decode cX4_weighLetterEnd 39 = .ok (.iastore, 1) := by decide +kernel
theorem dX4_weighLetterEnd_40 : decode cX4_weighLetterEnd 40 = .ok (.aload_n 0, 1) := by decide +kernel
theorem dX4_weighLetterEnd_41 : decode cX4_weighLetterEnd 41 = .ok (.getfield 24, 3) := by decide +kernel
theorem dX4_weighLetterEnd_44 : decode cX4_weighLetterEnd 44 = .ok (.iload 5, 2) := by decide +kernel
theorem dX4_weighLetterEnd_46 : decode cX4_weighLetterEnd 46 = .ok (.iload_n 1, 1) := by decide +kernel
theorem dX4_weighLetterEnd_47 : decode cX4_weighLetterEnd 47 = .ok (.iastore, 1) := by decide +kernel
theorem dX4_weighLetterEnd_48 : decode cX4_weighLetterEnd 48 = .ok (.iload_n 3, 1) := by decide +kernel
theorem dX4_weighLetterEnd_49 : decode cX4_weighLetterEnd 49 = .ok (.bipush 64, 2) := by decide +kernel
theorem dX4_weighLetterEnd_51 : decode cX4_weighLetterEnd 51 = .ok (.aload_n 0, 1) := by decide +kernel
theorem dX4_weighLetterEnd_52 : decode cX4_weighLetterEnd 52 = .ok (.getfield 34, 3) := by decide +kernel
theorem dX4_weighLetterEnd_55 : decode cX4_weighLetterEnd 55 = .ok (.getfield 88, 3) := by decide +kernel
theorem dX4_weighLetterEnd_58 : decode cX4_weighLetterEnd 58 = .ok (.imul, 1) := by decide +kernel
theorem dX4_weighLetterEnd_59 : decode cX4_weighLetterEnd 59 = .ok (.iadd, 1) := by decide +kernel
theorem dX4_weighLetterEnd_60 : decode cX4_weighLetterEnd 60 = .ok (.istore_n 3, 1) := by decide +kernel
theorem dX4_weighLetterEnd_61 : decode cX4_weighLetterEnd 61 = .ok (.iinc 4 (-1), 3) := by decide +kernel
theorem dX4_weighLetterEnd_64 : decode cX4_weighLetterEnd 64 = .ok (.goto (-46), 3) := by decide +kernel
theorem dX4_weighLetterEnd_67 : decode cX4_weighLetterEnd 67 = .ok (.return_, 1) := by decide +kernel
theorem dX4_weighLetter_0 : decode cX4_weighLetter 0 = .ok (.aload_n 0, 1) := by decide +kernel
theorem dX4_weighLetter_1 : decode cX4_weighLetter 1 = .ok (.iload_n 1, 1) := by decide +kernel
theorem dX4_weighLetter_2 : decode cX4_weighLetter 2 = .ok (.iload_n 2, 1) := by decide +kernel
theorem dX4_weighLetter_3 : decode cX4_weighLetter 3 = .ok (.invokevirtual 60, 3) := by decide +kernel
theorem dX4_weighLetter_6 : decode cX4_weighLetter 6 = .ok (.aload_n 0, 1) := by decide +kernel
theorem dX4_weighLetter_7 : decode cX4_weighLetter 7 = .ok (.getfield 30, 3) := by decide +kernel
theorem dX4_weighLetter_10 : decode cX4_weighLetter 10 = .ok (.getfield 79, 3) := by decide +kernel
theorem dX4_weighLetter_13 : decode cX4_weighLetter 13 = .ok (.iload_n 2, 1) := by decide +kernel
theorem dX4_weighLetter_14 : decode cX4_weighLetter 14 = .ok (.iaload, 1) := by decide +kernel
theorem dX4_weighLetter_15 : decode cX4_weighLetter 15 = .ok (.iconst 1, 1) := by decide +kernel
theorem dX4_weighLetter_16 : decode cX4_weighLetter 16 = .ok (.isub, 1) := by decide +kernel
theorem dX4_weighLetter_17 : decode cX4_weighLetter 17 = .ok (.istore 4, 2) := by decide +kernel
theorem dX4_weighLetter_19 : decode cX4_weighLetter 19 = .ok (.iload 4, 2) := by decide +kernel
theorem dX4_weighLetter_21 : decode cX4_weighLetter 21 = .ok (.ifCond .le 101, 3) := by decide +kernel
theorem dX4_weighLetter_24 : decode cX4_weighLetter 24 = .ok (.iload_n 1, 1) := by decide +kernel
theorem dX4_weighLetter_25 : decode cX4_weighLetter 25 = .ok (.iload_n 2, 1) := by decide +kernel
theorem dX4_weighLetter_26 : decode cX4_weighLetter 26 = .ok (.iload 4, 2) := by decide +kernel
theorem dX4_weighLetter_28 : decode cX4_weighLetter 28 = .ok (.invokestatic 84, 3) := by decide +kernel
theorem dX4_weighLetter_31 : decode cX4_weighLetter 31 = .ok (.istore 5, 2) := by decide +kernel
theorem dX4_weighLetter_33 : decode cX4_weighLetter 33 = .ok (.aload_n 0, 1) := by decide +kernel
theorem dX4_weighLetter_34 : decode cX4_weighLetter 34 = .ok (.getfield 34, 3) := by decide +kernel
theorem dX4_weighLetter_37 : decode cX4_weighLetter 37 = .ok (.aload_n 0, 1) := by decide +kernel
theorem dX4_weighLetter_38 : decode cX4_weighLetter 38 = .ok (.getfield 30, 3) := by decide +kernel
theorem dX4_weighLetter_41 : decode cX4_weighLetter 41 = .ok (.iload_n 2, 1) := by decide +kernel
theorem dX4_weighLetter_42 : decode cX4_weighLetter 42 = .ok (.iload 4, 2) := by decide +kernel
theorem dX4_weighLetter_44 : decode cX4_weighLetter 44 = .ok (.invokevirtual 91, 3) := by decide +kernel
theorem dX4_weighLetter_47 : decode cX4_weighLetter 47 = .ok (.iload_n 3, 1) := by decide +kernel
theorem dX4_weighLetter_48 : decode cX4_weighLetter 48 = .ok (.invokevirtual 95, 3) := by decide +kernel
theorem dX4_weighLetter_51 : decode cX4_weighLetter 51 = .ok (.istore 6, 2) := by decide +kernel
theorem dX4_weighLetter_53 : decode cX4_weighLetter 53 = .ok (.aload_n 0, 1) := by decide +kernel
theorem dX4_weighLetter_54 : decode cX4_weighLetter 54 = .ok (.iload 5, 2) := by decide +kernel
theorem dX4_weighLetter_56 : decode cX4_weighLetter 56 = .ok (.iload_n 1, 1) := by decide +kernel
theorem dX4_weighLetter_57 : decode cX4_weighLetter 57 = .ok (.iload_n 2, 1) := by decide +kernel
theorem dX4_weighLetter_58 : decode cX4_weighLetter 58 = .ok (.iload 4, 2) := by decide +kernel
theorem dX4_weighLetter_60 : decode cX4_weighLetter 60 = .ok (.iconst 1, 1) := by decide +kernel
theorem dX4_weighLetter_61 : decode cX4_weighLetter 61 = .ok (.iadd, 1) := by decide +kernel
theorem dX4_weighLetter_62 : decode cX4_weighLetter 62 = .ok (.invokestatic 84, 3) := by decide +kernel
theorem dX4_weighLetter_65 : decode cX4_weighLetter 65 = .ok (.aload_n 0, 1) := by decide +kernel
theorem dX4_weighLetter_66 : decode cX4_weighLetter 66 = .ok (.getfield 34, 3) := by decide +kernel
theorem dX4_weighLetter_69 : decode cX4_weighLetter 69 = .ok (.getfield 88, 3) := by decide +kernel
theorem dX4_weighLetter_72 : decode cX4_weighLetter 72 = .ok (.invokevirtual 106, 3) := by decide +kernel
theorem dX4_weighLetter_75 : decode cX4_weighLetter 75 = .ok (.aload_n 0, 1) := by decide +kernel
theorem dX4_weighLetter_76 : decode cX4_weighLetter 76 = .ok (.iload 5, 2) := by decide +kernel
theorem dX4_weighLetter_78 : decode cX4_weighLetter 78 = .ok (.iload_n 1, 1) := by decide +kernel
theorem dX4_weighLetter_79 : decode cX4_weighLetter 79 = .ok (.iconst 1, 1) := by decide +kernel
theorem dX4_weighLetter_80 : decode cX4_weighLetter 80 = .ok (.iadd, 1) := by decide +kernel
theorem dX4_weighLetter_81 : decode cX4_weighLetter 81 = .ok (.iload_n 2, 1) := by decide +kernel
theorem dX4_weighLetter_82 : decode cX4_weighLetter 82 = .ok (.iload 4, 2) := by decide +kernel
theorem dX4_weighLetter_84 : decode cX4_weighLetter 84 = .ok (.invokestatic 84, 3) := by decide +kernel
theorem dX4_weighLetter_87 : decode cX4_weighLetter 87 = .ok (.aload_n 0, 1) := by decide +kernel
theorem dX4_weighLetter_88 : decode cX4_weighLetter 88 = .ok (.getfield 34, 3) := by decide +kernel
theorem dX4_weighLetter_91 : decode cX4_weighLetter 91 = .ok (.getfield 74, 3) := by decide +kernel
theorem dX4_weighLetter_94 : decode cX4_weighLetter 94 = .ok (.invokevirtual 106, 3) := by decide +kernel
theorem dX4_weighLetter_97 : decode cX4_weighLetter 97 = .ok (.aload_n 0, 1) := by decide +kernel
theorem dX4_weighLetter_98 : decode cX4_weighLetter 98 = .ok (.iload 5, 2) := by decide +kernel
theorem dX4_weighLetter_100 : decode cX4_weighLetter 100 = .ok (.iload_n 1, 1) := by decide +kernel
theorem dX4_weighLetter_101 : decode cX4_weighLetter 101 = .ok (.iconst 1, 1) := by decide +kernel
theorem dX4_weighLetter_102 : decode cX4_weighLetter 102 = .ok (.iadd, 1) := by decide +kernel
theorem dX4_weighLetter_103 : decode cX4_weighLetter 103 = .ok (.iload_n 2, 1) := by decide +kernel
theorem dX4_weighLetter_104 : decode cX4_weighLetter 104 = .ok (.iload 4, 2) := by decide +kernel
theorem dX4_weighLetter_106 : decode cX4_weighLetter 106 = .ok (.iconst 1, 1) := by decide +kernel
theorem dX4_weighLetter_107 : decode cX4_weighLetter 107 = .ok (.iadd, 1) := by decide +kernel
theorem dX4_weighLetter_108 : decode cX4_weighLetter 108 = .ok (.invokestatic 84, 3) := by decide +kernel
theorem dX4_weighLetter_111 : decode cX4_weighLetter 111 = .ok (.iload 6, 2) := by decide +kernel
theorem dX4_weighLetter_113 : decode cX4_weighLetter 113 = .ok (.invokevirtual 106, 3) := by decide +kernel
theorem dX4_weighLetter_116 : decode cX4_weighLetter 116 = .ok (.iinc 4 (-1), 3) := by decide +kernel
theorem dX4_weighLetter_119 : decode cX4_weighLetter 119 = .ok (.goto (-100), 3) := by decide +kernel
theorem dX4_weighLetter_122 : decode cX4_weighLetter 122 = .ok (.return_, 1) := by decide +kernel
theorem dX4_offerSlot_0 : decode cX4_offerSlot 0 = .ok (.aload_n 0, 1) := by decide +kernel
theorem dX4_offerSlot_1 : decode cX4_offerSlot 1 = .ok (.getfield 21, 3) := by decide +kernel
theorem dX4_offerSlot_4 : decode cX4_offerSlot 4 = .ok (.iload_n 2, 1) := by decide +kernel
theorem dX4_offerSlot_5 : decode cX4_offerSlot 5 = .ok (.iaload, 1) := by decide +kernel
theorem dX4_offerSlot_6 : decode cX4_offerSlot 6 = .ok (.bipush 64, 2) := by decide +kernel
theorem dX4_offerSlot_8 : decode cX4_offerSlot 8 = .ok (.iload_n 3, 1) := by decide +kernel
theorem dX4_offerSlot_9 : decode cX4_offerSlot 9 = .ok (.imul, 1) := by decide +kernel
theorem dX4_offerSlot_10 : decode cX4_offerSlot 10 = .ok (.iadd, 1) := by decide +kernel
theorem dX4_offerSlot_11 : decode cX4_offerSlot 11 = .ok (.istore 4, 2) := by decide +kernel
theorem dX4_offerSlot_13 : decode cX4_offerSlot 13 = .ok (.iload 4, 2) := by decide +kernel
theorem dX4_offerSlot_15 : decode cX4_offerSlot 15 = .ok (.aload_n 0, 1) := by decide +kernel
theorem dX4_offerSlot_16 : decode cX4_offerSlot 16 = .ok (.getfield 21, 3) := by decide +kernel
theorem dX4_offerSlot_19 : decode cX4_offerSlot 19 = .ok (.iload_n 1, 1) := by decide +kernel
theorem dX4_offerSlot_20 : decode cX4_offerSlot 20 = .ok (.iaload, 1) := by decide +kernel
theorem dX4_offerSlot_21 : decode cX4_offerSlot 21 = .ok (.if_icmp .lt 33, 3) := by decide +kernel
theorem dX4_offerSlot_24 : decode cX4_offerSlot 24 = .ok (.iload 4, 2) := by decide +kernel
theorem dX4_offerSlot_26 : decode cX4_offerSlot 26 = .ok (.aload_n 0, 1) := by decide +kernel
theorem dX4_offerSlot_27 : decode cX4_offerSlot 27 = .ok (.getfield 21, 3) := by decide +kernel
theorem dX4_offerSlot_30 : decode cX4_offerSlot 30 = .ok (.iload_n 1, 1) := by decide +kernel
theorem dX4_offerSlot_31 : decode cX4_offerSlot 31 = .ok (.iaload, 1) := by decide +kernel
theorem dX4_offerSlot_32 : decode cX4_offerSlot 32 = .ok (.if_icmp .ne 42, 3) := by decide +kernel
theorem dX4_offerSlot_35 : decode cX4_offerSlot 35 = .ok (.aload_n 0, 1) := by decide +kernel
theorem dX4_offerSlot_36 : decode cX4_offerSlot 36 = .ok (.aload_n 0, 1) := by decide +kernel
theorem dX4_offerSlot_37 : decode cX4_offerSlot 37 = .ok (.getfield 24, 3) := by decide +kernel
theorem dX4_offerSlot_40 : decode cX4_offerSlot 40 = .ok (.iload_n 2, 1) := by decide +kernel
theorem dX4_offerSlot_41 : decode cX4_offerSlot 41 = .ok (.iaload, 1) := by decide +kernel
theorem dX4_offerSlot_42 : decode cX4_offerSlot 42 = .ok (.aload_n 0, 1) := by decide +kernel
theorem dX4_offerSlot_43 : decode cX4_offerSlot 43 = .ok (.getfield 24, 3) := by decide +kernel
theorem dX4_offerSlot_46 : decode cX4_offerSlot 46 = .ok (.iload_n 1, 1) := by decide +kernel
theorem dX4_offerSlot_47 : decode cX4_offerSlot 47 = .ok (.iaload, 1) := by decide +kernel
theorem dX4_offerSlot_48 : decode cX4_offerSlot 48 = .ok (.invokevirtual 102, 3) := by decide +kernel
theorem dX4_offerSlot_51 : decode cX4_offerSlot 51 = .ok (.ifCond .eq 23, 3) := by decide +kernel
theorem dX4_offerSlot_54 : decode cX4_offerSlot 54 = .ok (.aload_n 0, 1) := by decide +kernel
theorem dX4_offerSlot_55 : decode cX4_offerSlot 55 = .ok (.getfield 21, 3) := by decide +kernel
theorem dX4_offerSlot_58 : decode cX4_offerSlot 58 = .ok (.iload_n 1, 1) := by decide +kernel
theorem dX4_offerSlot_59 : decode cX4_offerSlot 59 = .ok (.iload 4, 2) := by decide +kernel
theorem dX4_offerSlot_61 : decode cX4_offerSlot 61 = .ok (.iastore, 1) := by decide +kernel
theorem dX4_offerSlot_62 : decode cX4_offerSlot 62 = .ok (.aload_n 0, 1) := by decide +kernel
theorem dX4_offerSlot_63 : decode cX4_offerSlot 63 = .ok (.getfield 24, 3) := by decide +kernel
theorem dX4_offerSlot_66 : decode cX4_offerSlot 66 = .ok (.iload_n 1, 1) := by decide +kernel
theorem dX4_offerSlot_67 : decode cX4_offerSlot 67 = .ok (.aload_n 0, 1) := by decide +kernel
theorem dX4_offerSlot_68 : decode cX4_offerSlot 68 = .ok (.getfield 24, 3) := by decide +kernel
theorem dX4_offerSlot_71 : decode cX4_offerSlot 71 = .ok (.iload_n 2, 1) := by decide +kernel
theorem dX4_offerSlot_72 : decode cX4_offerSlot 72 = .ok (.iaload, 1) := by decide +kernel
theorem dX4_offerSlot_73 : decode cX4_offerSlot 73 = .ok (.iastore, 1) := by decide +kernel
theorem dX4_offerSlot_74 : decode cX4_offerSlot 74 = .ok (.return_, 1) := by decide +kernel
theorem dX4_exactRowsOf_0 : decode cX4_exactRowsOf 0 = .ok (.lconst 1, 1) := by decide +kernel
theorem dX4_exactRowsOf_1 : decode cX4_exactRowsOf 1 = .ok (.lstore_n 2, 1) := by decide +kernel
theorem dX4_exactRowsOf_2 : decode cX4_exactRowsOf 2 = .ok (.iconst 0, 1) := by decide +kernel
theorem dX4_exactRowsOf_3 : decode cX4_exactRowsOf 3 = .ok (.istore 4, 2) := by decide +kernel
theorem dX4_exactRowsOf_5 : decode cX4_exactRowsOf 5 = .ok (.iconst 0, 1) := by decide +kernel
theorem dX4_exactRowsOf_6 : decode cX4_exactRowsOf 6 = .ok (.istore 5, 2) := by decide +kernel
theorem dX4_exactRowsOf_8 : decode cX4_exactRowsOf 8 = .ok (.iload 5, 2) := by decide +kernel
theorem dX4_exactRowsOf_10 : decode cX4_exactRowsOf 10 = .ok (.aload_n 1, 1) := by decide +kernel
theorem dX4_exactRowsOf_11 : decode cX4_exactRowsOf 11 = .ok (.getfield 38, 3) := by decide +kernel
theorem dX4_exactRowsOf_14 : decode cX4_exactRowsOf 14 = .ok (.if_icmp .gt 43, 3) := by decide +kernel
theorem dX4_exactRowsOf_17 : decode cX4_exactRowsOf 17 = .ok (.aload_n 1, 1) := by decide +kernel
theorem dX4_exactRowsOf_18 : decode cX4_exactRowsOf 18 = .ok (.iload 5, 2) := by decide +kernel
theorem dX4_exactRowsOf_20 : decode cX4_exactRowsOf 20 = .ok (.invokevirtual 44, 3) := by decide +kernel
theorem dX4_exactRowsOf_23 : decode cX4_exactRowsOf 23 = .ok (.ifCond .eq 28, 3) := by decide +kernel
theorem dX4_exactRowsOf_26 : decode cX4_exactRowsOf 26 = .ok (.lload_n 2, 1) := by decide +kernel
theorem dX4_exactRowsOf_27 : decode cX4_exactRowsOf 27 = .ok (.aload_n 0, 1) := by decide +kernel
theorem dX4_exactRowsOf_28 : decode cX4_exactRowsOf 28 = .ok (.aload_n 1, 1) := by decide +kernel
theorem dX4_exactRowsOf_29 : decode cX4_exactRowsOf 29 = .ok (.iload 4, 2) := by decide +kernel
theorem dX4_exactRowsOf_31 : decode cX4_exactRowsOf 31 = .ok (.iload 5, 2) := by decide +kernel
theorem dX4_exactRowsOf_33 : decode cX4_exactRowsOf 33 = .ok (.invokevirtual 109, 3) := by decide +kernel
theorem dX4_exactRowsOf_36 : decode cX4_exactRowsOf 36 = .ok (.i2l, 1) := by decide +kernel
theorem dX4_exactRowsOf_37 : decode cX4_exactRowsOf 37 = .ok (.lmul, 1) := by decide +kernel
theorem dX4_exactRowsOf_38 : decode cX4_exactRowsOf 38 = .ok (.ldc2_w 113, 3) := by decide +kernel
theorem dX4_exactRowsOf_41 : decode cX4_exactRowsOf 41 = .ok (.invokestatic 115, 3) := by decide +kernel
theorem dX4_exactRowsOf_44 : decode cX4_exactRowsOf 44 = .ok (.lstore_n 2, 1) := by decide +kernel
theorem dX4_exactRowsOf_45 : decode cX4_exactRowsOf 45 = .ok (.iload 5, 2) := by decide +kernel
theorem dX4_exactRowsOf_47 : decode cX4_exactRowsOf 47 = .ok (.iconst 1, 1) := by decide +kernel
theorem dX4_exactRowsOf_48 : decode cX4_exactRowsOf 48 = .ok (.iadd, 1) := by decide +kernel
theorem dX4_exactRowsOf_49 : decode cX4_exactRowsOf 49 = .ok (.istore 4, 2) := by decide +kernel
theorem dX4_exactRowsOf_51 : decode cX4_exactRowsOf 51 = .ok (.iinc 5 1, 3) := by decide +kernel
theorem dX4_exactRowsOf_54 : decode cX4_exactRowsOf 54 = .ok (.goto (-46), 3) := by decide +kernel
theorem dX4_exactRowsOf_57 : decode cX4_exactRowsOf 57 = .ok (.lload_n 2, 1) := by decide +kernel
theorem dX4_exactRowsOf_58 : decode cX4_exactRowsOf 58 = .ok (.l2i, 1) := by decide +kernel
theorem dX4_exactRowsOf_59 : decode cX4_exactRowsOf 59 = .ok (.ireturn, 1) := by decide +kernel
theorem dX4_exactRowsOfWord_0 : decode cX4_exactRowsOfWord 0 = .ok (.aload_n 0, 1) := by decide +kernel
theorem dX4_exactRowsOfWord_1 : decode cX4_exactRowsOfWord 1 = .ok (.getfield 27, 3) := by decide +kernel
theorem dX4_exactRowsOfWord_4 : decode cX4_exactRowsOfWord 4 = .ok (.iload_n 3, 1) := by decide +kernel
theorem dX4_exactRowsOfWord_5 : decode cX4_exactRowsOfWord 5 = .ok (.iconst 1, 1) := by decide +kernel
theorem dX4_exactRowsOfWord_6 : decode cX4_exactRowsOfWord 6 = .ok (.iastore, 1) := by decide +kernel
theorem dX4_exactRowsOfWord_7 : decode cX4_exactRowsOfWord 7 = .ok (.iload_n 3, 1) := by decide +kernel
theorem dX4_exactRowsOfWord_8 : decode cX4_exactRowsOfWord 8 = .ok (.iconst 1, 1) := by decide +kernel
theorem dX4_exactRowsOfWord_9 : decode cX4_exactRowsOfWord 9 = .ok (.isub, 1) := by decide +kernel
theorem dX4_exactRowsOfWord_10 : decode cX4_exactRowsOfWord 10 = .ok (.istore 4, 2) := by decide +kernel
theorem dX4_exactRowsOfWord_12 : decode cX4_exactRowsOfWord 12 = .ok (.iload 4, 2) := by decide +kernel
theorem dX4_exactRowsOfWord_14 : decode cX4_exactRowsOfWord 14 = .ok (.iload_n 2, 1) := by decide +kernel
theorem dX4_exactRowsOfWord_15 : decode cX4_exactRowsOfWord 15 = .ok (.if_icmp .lt 78, 3) := by decide +kernel
theorem dX4_exactRowsOfWord_18 : decode cX4_exactRowsOfWord 18 = .ok (.iconst 0, 1) := by decide +kernel
theorem dX4_exactRowsOfWord_19 : decode cX4_exactRowsOfWord 19 = .ok (.istore 5, 2) := by decide +kernel
theorem dX4_exactRowsOfWord_21 : decode cX4_exactRowsOfWord 21 = .ok (.iconst 0, 1) := by decide +kernel
theorem dX4_exactRowsOfWord_22 : decode cX4_exactRowsOfWord 22 = .ok (.istore 6, 2) := by decide +kernel
theorem dX4_exactRowsOfWord_24 : decode cX4_exactRowsOfWord 24 = .ok (.iload 6, 2) := by decide +kernel
theorem dX4_exactRowsOfWord_26 : decode cX4_exactRowsOfWord 26 = .ok (.bipush 12, 2) := by decide +kernel
theorem dX4_exactRowsOfWord_28 : decode cX4_exactRowsOfWord 28 = .ok (.if_icmp .ge 45, 3) := by decide +kernel
theorem dX4_exactRowsOfWord_31 : decode cX4_exactRowsOfWord 31 = .ok (.aload_n 0, 1) := by decide +kernel
theorem dX4_exactRowsOfWord_32 : decode cX4_exactRowsOfWord 32 = .ok (.iload 6, 2) := by decide +kernel
theorem dX4_exactRowsOfWord_34 : decode cX4_exactRowsOfWord 34 = .ok (.aload_n 1, 1) := by decide +kernel
theorem dX4_exactRowsOfWord_35 : decode cX4_exactRowsOfWord 35 = .ok (.iload 4, 2) := by decide +kernel
theorem dX4_exactRowsOfWord_37 : decode cX4_exactRowsOfWord 37 = .ok (.iload_n 3, 1) := by decide +kernel
theorem dX4_exactRowsOfWord_38 : decode cX4_exactRowsOfWord 38 = .ok (.invokevirtual 121, 3) := by decide +kernel
theorem dX4_exactRowsOfWord_41 : decode cX4_exactRowsOfWord 41 = .ok (.ifCond .eq 26, 3) := by decide +kernel
theorem dX4_exactRowsOfWord_44 : decode cX4_exactRowsOfWord 44 = .ok (.iload 5, 2) := by decide +kernel
theorem dX4_exactRowsOfWord_46 : decode cX4_exactRowsOfWord 46 = .ok (.aload_n 0, 1) := by decide +kernel
theorem dX4_exactRowsOfWord_47 : decode cX4_exactRowsOfWord 47 = .ok (.getfield 27, 3) := by decide +kernel
theorem dX4_exactRowsOfWord_50 : decode cX4_exactRowsOfWord 50 = .ok (.iload 4, 2) := by decide +kernel
theorem dX4_exactRowsOfWord_52 : decode cX4_exactRowsOfWord 52 = .ok (.aload_n 0, 1) := by decide +kernel
theorem dX4_exactRowsOfWord_53 : decode cX4_exactRowsOfWord 53 = .ok (.getfield 30, 3) := by decide +kernel
theorem dX4_exactRowsOfWord_56 : decode cX4_exactRowsOfWord 56 = .ok (.getfield 79, 3) := by decide +kernel
theorem dX4_exactRowsOfWord_59 : decode cX4_exactRowsOfWord 59 = .ok (.iload 6, 2) := by decide +kernel
theorem dX4_exactRowsOfWord_61 : decode cX4_exactRowsOfWord 61 = .ok (.iaload, 1) := by decide +kernel
theorem dX4_exactRowsOfWord_62 : decode cX4_exactRowsOfWord 62 = .ok (.iadd, 1) := by decide +kernel
theorem dX4_exactRowsOfWord_63 : decode cX4_exactRowsOfWord 63 = .ok (.iaload, 1) := by decide +kernel
theorem dX4_exactRowsOfWord_64 : decode cX4_exactRowsOfWord 64 = .ok (.iadd, 1) := by decide +kernel
theorem dX4_exactRowsOfWord_65 : decode cX4_exactRowsOfWord 65 = .ok (.istore 5, 2) := by decide +kernel
theorem dX4_exactRowsOfWord_67 : decode cX4_exactRowsOfWord 67 = .ok (.iinc 6 1, 3) := by decide +kernel
theorem dX4_exactRowsOfWord_70 : decode cX4_exactRowsOfWord 70 = .ok (.goto (-46), 3) := by decide +kernel
theorem dX4_exactRowsOfWord_73 : decode cX4_exactRowsOfWord 73 = .ok (.aload_n 0, 1) := by decide +kernel
theorem dX4_exactRowsOfWord_74 : decode cX4_exactRowsOfWord 74 = .ok (.getfield 27, 3) := by decide +kernel
theorem dX4_exactRowsOfWord_77 : decode cX4_exactRowsOfWord 77 = .ok (.iload 4, 2) := by decide +kernel
theorem dX4_exactRowsOfWord_79 : decode cX4_exactRowsOfWord 79 = .ok (.iload 5, 2) := by decide +kernel
theorem dX4_exactRowsOfWord_81 : decode cX4_exactRowsOfWord 81 = .ok (.ldc 125, 2) := by decide +kernel
theorem dX4_exactRowsOfWord_83 : decode cX4_exactRowsOfWord 83 = .ok (.invokestatic 126, 3) := by decide +kernel
theorem dX4_exactRowsOfWord_86 : decode cX4_exactRowsOfWord 86 = .ok (.iastore, 1) := by decide +kernel
theorem dX4_exactRowsOfWord_87 : decode cX4_exactRowsOfWord 87 = .ok (.iinc 4 (-1), 3) := by decide +kernel
theorem dX4_exactRowsOfWord_90 : decode cX4_exactRowsOfWord 90 = .ok (.goto (-78), 3) := by decide +kernel
theorem dX4_exactRowsOfWord_93 : decode cX4_exactRowsOfWord 93 = .ok (.aload_n 0, 1) := by decide +kernel
theorem dX4_exactRowsOfWord_94 : decode cX4_exactRowsOfWord 94 = .ok (.getfield 27, 3) := by decide +kernel
theorem dX4_exactRowsOfWord_97 : decode cX4_exactRowsOfWord 97 = .ok (.iload_n 2, 1) := by decide +kernel
theorem dX4_exactRowsOfWord_98 : decode cX4_exactRowsOfWord 98 = .ok (.iaload, 1) := by decide +kernel
theorem dX4_exactRowsOfWord_99 : decode cX4_exactRowsOfWord 99 = .ok (.ireturn, 1) := by decide +kernel
theorem dX4_stands_0 : decode cX4_stands 0 = .ok (.aload_n 0, 1) := by decide +kernel
theorem dX4_stands_1 : decode cX4_stands 1 = .ok (.getfield 30, 3) := by decide +kernel
theorem dX4_stands_4 : decode cX4_stands 4 = .ok (.getfield 79, 3) := by decide +kernel
theorem dX4_stands_7 : decode cX4_stands 7 = .ok (.iload_n 1, 1) := by decide +kernel
theorem dX4_stands_8 : decode cX4_stands 8 = .ok (.iaload, 1) := by decide +kernel
theorem dX4_stands_9 : decode cX4_stands 9 = .ok (.istore 5, 2) := by decide +kernel
theorem dX4_stands_11 : decode cX4_stands 11 = .ok (.iload 5, 2) := by decide +kernel
theorem dX4_stands_13 : decode cX4_stands 13 = .ok (.ifCond .eq 12, 3) := by decide +kernel
theorem dX4_stands_16 : decode cX4_stands 16 = .ok (.iload_n 3, 1) := by decide +kernel
theorem dX4_stands_17 : decode cX4_stands 17 = .ok (.iload 5, 2) := by decide +kernel
theorem dX4_stands_19 : decode cX4_stands 19 = .ok (.iadd, 1) := by decide +kernel
theorem dX4_stands_20 : decode cX4_stands 20 = .ok (.iload 4, 2) := by decide +kernel
theorem dX4_stands_22 : decode cX4_stands 22 = .ok (.if_icmp .le 5, 3) := by decide +kernel
theorem dX4_stands_25 : decode cX4_stands 25 = .ok (.iconst 0, 1) := by decide +kernel
theorem dX4_stands_26 : decode cX4_stands 26 = .ok (.ireturn, 1) := by decide +kernel
theorem dX4_stands_27 : decode cX4_stands 27 = .ok (.iconst 0, 1) := by decide +kernel
theorem dX4_stands_28 : decode cX4_stands 28 = .ok (.istore 6, 2) := by decide +kernel
theorem dX4_stands_30 : decode cX4_stands 30 = .ok (.iload 6, 2) := by decide +kernel
theorem dX4_stands_32 : decode cX4_stands 32 = .ok (.iload 5, 2) := by decide +kernel
theorem dX4_stands_34 : decode cX4_stands 34 = .ok (.if_icmp .ge 33, 3) := by decide +kernel
theorem dX4_stands_37 : decode cX4_stands 37 = .ok (.aload_n 0, 1) := by decide +kernel
theorem dX4_stands_38 : decode cX4_stands 38 = .ok (.getfield 30, 3) := by decide +kernel
theorem dX4_stands_41 : decode cX4_stands 41 = .ok (.iload_n 1, 1) := by decide +kernel
theorem dX4_stands_42 : decode cX4_stands 42 = .ok (.iload 6, 2) := by decide +kernel
theorem dX4_stands_44 : decode cX4_stands 44 = .ok (.invokevirtual 91, 3) := by decide +kernel
theorem dX4_stands_47 : decode cX4_stands 47 = .ok (.aload_n 2, 1) := by decide +kernel
theorem dX4_stands_48 : decode cX4_stands 48 = .ok (.getfield 64, 3) := by decide +kernel
theorem dX4_stands_51 : decode cX4_stands 51 = .ok (.iload_n 3, 1) := by decide +kernel
theorem dX4_stands_52 : decode cX4_stands 52 = .ok (.iload 6, 2) := by decide +kernel
theorem dX4_stands_54 : decode cX4_stands 54 = .ok (.iadd, 1) := by decide +kernel
theorem dX4_stands_55 : decode cX4_stands 55 = .ok (.iaload, 1) := by decide +kernel
theorem dX4_stands_56 : decode cX4_stands 56 = .ok (.if_icmp .eq 5, 3) := by decide +kernel
theorem dX4_stands_59 : decode cX4_stands 59 = .ok (.iconst 0, 1) := by decide +kernel
theorem dX4_stands_60 : decode cX4_stands 60 = .ok (.ireturn, 1) := by decide +kernel
theorem dX4_stands_61 : decode cX4_stands 61 = .ok (.iinc 6 1, 3) := by decide +kernel
theorem dX4_stands_64 : decode cX4_stands 64 = .ok (.goto (-34), 3) := by decide +kernel
theorem dX4_stands_67 : decode cX4_stands 67 = .ok (.iconst 1, 1) := by decide +kernel
theorem dX4_stands_68 : decode cX4_stands 68 = .ok (.ireturn, 1) := by decide +kernel
theorem dX5_init_0 : decode cX5_init 0 = .ok (.aload_n 0, 1) := by decide +kernel
theorem dX5_init_1 : decode cX5_init 1 = .ok (.invokespecial 1, 3) := by decide +kernel
theorem dX5_init_4 : decode cX5_init 4 = .ok (.aload_n 0, 1) := by decide +kernel
theorem dX5_init_5 : decode cX5_init 5 = .ok (.new 7, 3) := by decide +kernel
theorem dX5_init_8 : decode cX5_init 8 = .ok (.dup, 1) := by decide +kernel
theorem dX5_init_9 : decode cX5_init 9 = .ok (.invokespecial 9, 3) := by decide +kernel
theorem dX5_init_12 : decode cX5_init 12 = .ok (.putfield 10, 3) := by decide +kernel
theorem dX5_init_15 : decode cX5_init 15 = .ok (.aload_n 0, 1) := by decide +kernel
theorem dX5_init_16 : decode cX5_init 16 = .ok (.new 16, 3) := by decide +kernel
theorem dX5_init_19 : decode cX5_init 19 = .ok (.dup, 1) := by decide +kernel
theorem dX5_init_20 : decode cX5_init 20 = .ok (.invokespecial 18, 3) := by decide +kernel
theorem dX5_init_23 : decode cX5_init 23 = .ok (.putfield 19, 3) := by decide +kernel
theorem dX5_init_26 : decode cX5_init 26 = .ok (.aload_n 0, 1) := by decide +kernel
theorem dX5_init_27 : decode cX5_init 27 = .ok (.new 23, 3) := by decide +kernel
theorem dX5_init_30 : decode cX5_init 30 = .ok (.dup, 1) := by decide +kernel
theorem dX5_init_31 : decode cX5_init 31 = .ok (.invokespecial 25, 3) := by decide +kernel
theorem dX5_init_34 : decode cX5_init 34 = .ok (.putfield 26, 3) := by decide +kernel
theorem dX5_init_37 : decode cX5_init 37 = .ok (.aload_n 0, 1) := by decide +kernel
theorem dX5_init_38 : decode cX5_init 38 = .ok (.new 30, 3) := by decide +kernel
theorem dX5_init_41 : decode cX5_init 41 = .ok (.dup, 1) := by decide +kernel
theorem dX5_init_42 : decode cX5_init 42 = .ok (.aload_n 0, 1) := by decide +kernel
theorem dX5_init_43 : decode cX5_init 43 = .ok (.getfield 10, 3) := by decide +kernel
theorem dX5_init_46 : decode cX5_init 46 = .ok (.aload_n 0, 1) := by decide +kernel
theorem dX5_init_47 : decode cX5_init 47 = .ok (.getfield 26, 3) := by decide +kernel
theorem dX5_init_50 : decode cX5_init 50 = .ok (.invokespecial 32, 3) := by decide +kernel
theorem dX5_init_53 : decode cX5_init 53 = .ok (.putfield 35, 3) := by decide +kernel
theorem dX5_init_56 : decode cX5_init 56 = .ok (.aload_n 0, 1) := by decide +kernel
theorem dX5_init_57 : decode cX5_init 57 = .ok (.bipush 10, 2) := by decide +kernel
theorem dX5_init_59 : decode cX5_init 59 = .ok (.anewarray 39, 3) := by decide +kernel
theorem dX5_init_62 : decode cX5_init 62 = .ok (.putfield 41, 3) := by decide +kernel
theorem dX5_init_65 : decode cX5_init 65 = .ok (.iconst 0, 1) := by decide +kernel
theorem dX5_init_66 : decode cX5_init 66 = .ok (.istore_n 1, 1) := by decide +kernel
theorem dX5_init_67 : decode cX5_init 67 = .ok (.iload_n 1, 1) := by decide +kernel
theorem dX5_init_68 : decode cX5_init 68 = .ok (.bipush 10, 2) := by decide +kernel
theorem dX5_init_70 : decode cX5_init 70 = .ok (.if_icmp .ge 22, 3) := by decide +kernel
theorem dX5_init_73 : decode cX5_init 73 = .ok (.aload_n 0, 1) := by decide +kernel
theorem dX5_init_74 : decode cX5_init 74 = .ok (.getfield 41, 3) := by decide +kernel
theorem dX5_init_77 : decode cX5_init 77 = .ok (.iload_n 1, 1) := by decide +kernel
theorem dX5_init_78 : decode cX5_init 78 = .ok (.new 39, 3) := by decide +kernel
theorem dX5_init_81 : decode cX5_init 81 = .ok (.dup, 1) := by decide +kernel
theorem dX5_init_82 : decode cX5_init 82 = .ok (.invokespecial 45, 3) := by decide +kernel
theorem dX5_init_85 : decode cX5_init 85 = .ok (.aastore, 1) := by decide +kernel
theorem dX5_init_86 : decode cX5_init 86 = .ok (.iinc 1 1, 3) := by decide +kernel
theorem dX5_init_89 : decode cX5_init 89 = .ok (.goto (-22), 3) := by decide +kernel
theorem dX5_init_92 : decode cX5_init 92 = .ok (.aload_n 0, 1) := by decide +kernel
theorem dX5_init_93 : decode cX5_init 93 = .ok (.bipush 80, 2) := by decide +kernel
theorem dX5_init_95 : decode cX5_init 95 = .ok (.newarray .int, 2) := by decide +kernel
theorem dX5_init_97 : decode cX5_init 97 = .ok (.putfield 46, 3) := by decide +kernel
theorem dX5_init_100 : decode cX5_init 100 = .ok (.aload_n 0, 1) := by decide +kernel
theorem dX5_init_101 : decode cX5_init 101 = .ok (.bipush 40, 2) := by decide +kernel
theorem dX5_init_103 : decode cX5_init 103 = .ok (.newarray .int, 2) := by decide +kernel
theorem dX5_init_105 : decode cX5_init 105 = .ok (.putfield 50, 3) := by decide +kernel
theorem dX5_init_108 : decode cX5_init 108 = .ok (.return_, 1) := by decide +kernel
theorem dX5_setLetter_0 : decode cX5_setLetter 0 = .ok (.iload_n 1, 1) := by decide +kernel
theorem dX5_setLetter_1 : decode cX5_setLetter 1 = .ok (.invokestatic 53, 3) := by decide +kernel
theorem dX5_setLetter_4 : decode cX5_setLetter 4 = .ok (.ifCond .eq 13, 3) := by decide +kernel
theorem dX5_setLetter_7 : decode cX5_setLetter 7 = .ok (.new 57, 3) := by decide +kernel
theorem dX5_setLetter_10 : decode cX5_setLetter 10 = .ok (.dup, 1) := by decide +kernel
theorem dX5_setLetter_11 : decode cX5_setLetter 11 = .ok (.ldc 59, 2) := by decide +kernel
theorem dX5_setLetter_13 : decode cX5_setLetter 13 = .ok (.invokespecial 61, 3) := by decide +kernel
theorem dX5_setLetter_16 : decode cX5_setLetter 16 = .ok (.athrow, 1) := by decide +kernel
theorem dX5_setLetter_17 : decode cX5_setLetter 17 = .ok (.iload_n 2, 1) := by decide +kernel
theorem dX5_setLetter_18 : decode cX5_setLetter 18 = .ok (.ifCond .eq 20, 3) := by decide +kernel
theorem dX5_setLetter_21 : decode cX5_setLetter 21 = .ok (.iload_n 2, 1) := by decide +kernel
theorem dX5_setLetter_22 : decode cX5_setLetter 22 = .ok (.invokestatic 64, 3) := by decide +kernel
theorem dX5_setLetter_25 : decode cX5_setLetter 25 = .ok (.ifCond .ne 13, 3) := by decide +kernel
theorem dX5_setLetter_28 : decode cX5_setLetter 28 = .ok (.new 67, 3) := by decide +kernel
theorem dX5_setLetter_31 : decode cX5_setLetter 31 = .ok (.dup, 1) := by decide +kernel
theorem dX5_setLetter_32 : decode cX5_setLetter 32 = .ok (.ldc 69, 2) := by decide +kernel
theorem dX5_setLetter_34 : decode cX5_setLetter 34 = .ok (.invokespecial 71, 3) := by decide +kernel
theorem dX5_setLetter_37 : decode cX5_setLetter 37 = .ok (.athrow, 1) := by decide +kernel
theorem dX5_setLetter_38 : decode cX5_setLetter 38 = .ok (.aload_n 0, 1) := by decide +kernel
theorem dX5_setLetter_39 : decode cX5_setLetter 39 = .ok (.getfield 10, 3) := by decide +kernel
theorem dX5_setLetter_42 : decode cX5_setLetter 42 = .ok (.getfield 72, 3) := by decide +kernel
theorem dX5_setLetter_45 : decode cX5_setLetter 45 = .ok (.iload_n 1, 1) := by decide +kernel
theorem dX5_setLetter_46 : decode cX5_setLetter 46 = .ok (.iaload, 1) := by decide +kernel
theorem dX5_setLetter_47 : decode cX5_setLetter 47 = .ok (.istore_n 3, 1) := by decide +kernel
theorem dX5_setLetter_48 : decode cX5_setLetter 48 = .ok (.aload_n 0, 1) := by decide +kernel
theorem dX5_setLetter_49 : decode cX5_setLetter 49 = .ok (.getfield 10, 3) := by decide +kernel
theorem dX5_setLetter_52 : decode cX5_setLetter 52 = .ok (.iload_n 1, 1) := by decide +kernel
theorem dX5_setLetter_53 : decode cX5_setLetter 53 = .ok (.iload_n 2, 1) := by decide +kernel
theorem dX5_setLetter_54 : decode cX5_setLetter 54 = .ok (.invokevirtual 75, 3) := by decide +kernel
theorem dX5_setLetter_57 : decode cX5_setLetter 57 = .ok (.iload_n 3, 1) := by decide +kernel
theorem dX5_setLetter_58 : decode cX5_setLetter 58 = .ok (.ireturn, 1) := by decide +kernel
theorem dX5_letter_0 : decode cX5_letter 0 = .ok (.iload_n 1, 1) := by decide +kernel
theorem dX5_letter_1 : decode cX5_letter 1 = .ok (.invokestatic 53, 3) := by decide +kernel
theorem dX5_letter_4 : decode cX5_letter 4 = .ok (.ifCond .ne 12, 3) := by decide +kernel
theorem dX5_letter_7 : decode cX5_letter 7 = .ok (.iload_n 2, 1) := by decide +kernel
theorem dX5_letter_8 : decode cX5_letter 8 = .ok (.ifCond .lt 8, 3) := by decide +kernel
theorem dX5_letter_11 : decode cX5_letter 11 = .ok (.iload_n 2, 1) := by decide +kernel
theorem dX5_letter_12 : decode cX5_letter 12 = .ok (.iconst 3, 1) := by decide +kernel
theorem dX5_letter_13 : decode cX5_letter 13 = .ok (.if_icmp .lt 13, 3) := by decide +kernel
theorem dX5_letter_16 : decode cX5_letter 16 = .ok (.new 57, 3) := by decide +kernel
theorem dX5_letter_19 : decode cX5_letter 19 = .ok (.dup, 1) := by decide +kernel
theorem dX5_letter_20 : decode cX5_letter 20 = .ok (.ldc 79, 2) := by decide +kernel
theorem dX5_letter_22 : decode cX5_letter 22 = .ok (.invokespecial 61, 3) := by decide +kernel
theorem dX5_letter_25 : decode cX5_letter 25 = .ok (.athrow, 1) := by decide +kernel
theorem dX5_letter_26 : decode cX5_letter 26 = .ok (.iload_n 2, 1) := by decide +kernel
theorem dX5_letter_27 : decode cX5_letter 27 = .ok (.lookupswitch 45 #[(0, 25), (1, 35)], 25) := by decide +kernel
theorem dX5_letter_52 : decode cX5_letter 52 = .ok (.aload_n 0, 1) := by decide +kernel
theorem dX5_letter_53 : decode cX5_letter 53 = .ok (.getfield 10, 3) := by decide +kernel
theorem dX5_letter_56 : decode cX5_letter 56 = .ok (.getfield 72, 3) := by decide +kernel
theorem dX5_letter_59 : decode cX5_letter 59 = .ok (.iload_n 1, 1) := by decide +kernel
theorem dX5_letter_60 : decode cX5_letter 60 = .ok (.iaload, 1) := by decide +kernel
theorem dX5_letter_61 : decode cX5_letter 61 = .ok (.ireturn, 1) := by decide +kernel
theorem dX5_letter_62 : decode cX5_letter 62 = .ok (.aload_n 0, 1) := by decide +kernel
theorem dX5_letter_63 : decode cX5_letter 63 = .ok (.getfield 10, 3) := by decide +kernel
theorem dX5_letter_66 : decode cX5_letter 66 = .ok (.getfield 81, 3) := by decide +kernel
theorem dX5_letter_69 : decode cX5_letter 69 = .ok (.iload_n 1, 1) := by decide +kernel
theorem dX5_letter_70 : decode cX5_letter 70 = .ok (.iaload, 1) := by decide +kernel
theorem dX5_letter_71 : decode cX5_letter 71 = .ok (.ireturn, 1) := by decide +kernel
theorem dX5_letter_72 : decode cX5_letter 72 = .ok (.aload_n 0, 1) := by decide +kernel
theorem dX5_letter_73 : decode cX5_letter 73 = .ok (.getfield 10, 3) := by decide +kernel
theorem dX5_letter_76 : decode cX5_letter 76 = .ok (.getfield 84, 3) := by decide +kernel
theorem dX5_letter_79 : decode cX5_letter 79 = .ok (.iload_n 1, 1) := by decide +kernel
theorem dX5_letter_80 : decode cX5_letter 80 = .ok (.iaload, 1) := by decide +kernel
theorem dX5_letter_81 : decode cX5_letter 81 = .ok (.ireturn, 1) := by decide +kernel
theorem dX5_isFree_0 : decode cX5_isFree 0 = .ok (.iconst 0, 1) := by decide +kernel
theorem dX5_isFree_1 : decode cX5_isFree 1 = .ok (.istore_n 1, 1) := by decide +kernel
theorem dX5_isFree_2 : decode cX5_isFree 2 = .ok (.iload_n 1, 1) := by decide +kernel
theorem dX5_isFree_3 : decode cX5_isFree 3 = .ok (.bipush 12, 2) := by decide +kernel
theorem dX5_isFree_5 : decode cX5_isFree 5 = .ok (.if_icmp .ge 45, 3) := by decide +kernel
theorem dX5_isFree_8 : decode cX5_isFree 8 = .ok (.aload_n 0, 1) := by decide +kernel
theorem dX5_isFree_9 : decode cX5_isFree 9 = .ok (.getfield 10, 3) := by decide +kernel
theorem dX5_isFree_12 : decode cX5_isFree 12 = .ok (.getfield 72, 3) := by decide +kernel
theorem dX5_isFree_15 : decode cX5_isFree 15 = .ok (.iload_n 1, 1) := by decide +kernel
theorem dX5_isFree_16 : decode cX5_isFree 16 = .ok (.iaload, 1) := by decide +kernel
theorem dX5_isFree_17 : decode cX5_isFree 17 = .ok (.ifCond .eq 27, 3) := by decide +kernel
theorem dX5_isFree_20 : decode cX5_isFree 20 = .ok (.aload_n 0, 1) := by decide +kernel
theorem dX5_isFree_21 : decode cX5_isFree 21 = .ok (.getfield 10, 3) := by decide +kernel
theorem dX5_isFree_24 : decode cX5_isFree 24 = .ok (.aload_n 0, 1) := by decide +kernel
theorem dX5_isFree_25 : decode cX5_isFree 25 = .ok (.getfield 10, 3) := by decide +kernel
theorem dX5_isFree_28 : decode cX5_isFree 28 = .ok (.getfield 72, 3) := by decide +kernel
theorem dX5_isFree_31 : decode cX5_isFree 31 = .ok (.iload_n 1, 1) := by decide +kernel
theorem dX5_isFree_32 : decode cX5_isFree 32 = .ok (.iaload, 1) := by decide +kernel
theorem dX5_isFree_33 : decode cX5_isFree 33 = .ok (.iload_n 1, 1) := by decide +kernel
theorem dX5_isFree_34 : decode cX5_isFree 34 = .ok (.iconst 1, 1) := by decide +kernel
theorem dX5_isFree_35 : decode cX5_isFree 35 = .ok (.iadd, 1) := by decide +kernel
theorem dX5_isFree_36 : decode cX5_isFree 36 = .ok (.invokevirtual 87, 3) := by decide +kernel
theorem dX5_isFree_39 : decode cX5_isFree 39 = .ok (.ifCond .eq 5, 3) := by decide +kernel
theorem dX5_isFree_42 : decode cX5_isFree 42 = .ok (.iconst 0, 1) := by decide +kernel
theorem dX5_isFree_43 : decode cX5_isFree 43 = .ok (.ireturn, 1) := by decide +kernel
theorem dX5_isFree_44 : decode cX5_isFree 44 = .ok (.iinc 1 1, 3) := by decide +kernel
theorem dX5_isFree_47 : decode cX5_isFree 47 = .ok (.goto (-45), 3) := by decide +kernel
theorem dX5_isFree_50 : decode cX5_isFree 50 = .ok (.iconst 1, 1) := by decide +kernel
theorem dX5_isFree_51 : decode cX5_isFree 51 = .ok (.ireturn, 1) := by decide +kernel
theorem dX5_isClear_0 : decode cX5_isClear 0 = .ok (.aload_n 0, 1) := by decide +kernel
theorem dX5_isClear_1 : decode cX5_isClear 1 = .ok (.getfield 10, 3) := by decide +kernel
theorem dX5_isClear_4 : decode cX5_isClear 4 = .ok (.invokevirtual 91, 3) := by decide +kernel
theorem dX5_isClear_7 : decode cX5_isClear 7 = .ok (.ireturn, 1) := by decide +kernel
theorem dX5_alike_0 : decode cX5_alike 0 = .ok (.iload_n 1, 1) := by decide +kernel
theorem dX5_alike_1 : decode cX5_alike 1 = .ok (.invokestatic 53, 3) := by decide +kernel
theorem dX5_alike_4 : decode cX5_alike 4 = .ok (.ifCond .ne 10, 3) := by decide +kernel
theorem dX5_alike_7 : decode cX5_alike 7 = .ok (.iload_n 2, 1) := by decide +kernel
theorem dX5_alike_8 : decode cX5_alike 8 = .ok (.invokestatic 53, 3) := by decide +kernel
theorem dX5_alike_11 : decode cX5_alike 11 = .ok (.ifCond .eq 13, 3) := by decide +kernel
theorem dX5_alike_14 : decode cX5_alike 14 = .ok (.new 57, 3) := by decide +kernel
theorem dX5_alike_17 : decode cX5_alike 17 = .ok (.dup, 1) := by decide +kernel
theorem dX5_alike_18 : decode cX5_alike 18 = .ok (.ldc 95, 2) := by decide +kernel
theorem dX5_alike_20 : decode cX5_alike 20 = .ok (.invokespecial 61, 3) := by decide +kernel
theorem dX5_alike_23 : decode cX5_alike 23 = .ok (.athrow, 1) := by decide +kernel
theorem dX5_alike_24 : decode cX5_alike 24 = .ok (.aload_n 0, 1) := by decide +kernel
theorem dX5_alike_25 : decode cX5_alike 25 = .ok (.iload_n 1, 1) := by decide +kernel
theorem dX5_alike_26 : decode cX5_alike 26 = .ok (.iload_n 2, 1) := by decide +kernel
theorem dX5_alike_27 : decode cX5_alike 27 = .ok (.invokevirtual 97, 3) := by decide +kernel
theorem dX5_alike_30 : decode cX5_alike 30 = .ok (.ireturn, 1) := by decide +kernel
theorem dX5_closest_0 : decode cX5_closest 0 = .ok (.iconst (-1), 1) := by decide +kernel
theorem dX5_closest_1 : decode cX5_closest 1 = .ok (.istore_n 1, 1) := by decide +kernel
theorem dX5_closest_2 : decode cX5_closest 2 = .ok (.iconst 0, 1) := by decide +kernel
theorem dX5_closest_3 : decode cX5_closest 3 = .ok (.istore_n 2, 1) := by decide +kernel
theorem dX5_closest_4 : decode cX5_closest 4 = .ok (.iconst 0, 1) := by decide +kernel
theorem dX5_closest_5 : decode cX5_closest 5 = .ok (.istore_n 3, 1) := by decide +kernel
theorem dX5_closest_6 : decode cX5_closest 6 = .ok (.iload_n 3, 1) := by decide +kernel
theorem dX5_closest_7 : decode cX5_closest 7 = .ok (.bipush 12, 2) := by decide +kernel
theorem dX5_closest_9 : decode cX5_closest 9 = .ok (.if_icmp .ge 64, 3) := by decide +kernel
theorem dX5_closest_12 : decode cX5_closest 12 = .ok (.iload_n 3, 1) := by decide +kernel
theorem dX5_closest_13 : decode cX5_closest 13 = .ok (.iconst 1, 1) := by decide +kernel
theorem dX5_closest_14 : decode cX5_closest 14 = .ok (.iadd, 1) := by decide +kernel
theorem dX5_closest_15 : decode cX5_closest 15 = .ok (.istore 4, 2) := by decide +kernel
theorem dX5_closest_17 : decode cX5_closest 17 = .ok (.iload 4, 2) := by decide +kernel
theorem dX5_closest_19 : decode cX5_closest 19 = .ok (.bipush 12, 2) := by decide +kernel
theorem dX5_closest_21 : decode cX5_closest 21 = .ok (.if_icmp .ge 46, 3) := by decide +kernel
theorem dX5_closest_24 : decode cX5_closest 24 = .ok (.aload_n 0, 1) := by decide +kernel
theorem dX5_closest_25 : decode cX5_closest 25 = .ok (.iload_n 3, 1) := by decide +kernel
theorem dX5_closest_26 : decode cX5_closest 26 = .ok (.iload 4, 2) := by decide +kernel
theorem dX5_closest_28 : decode cX5_closest 28 = .ok (.invokevirtual 97, 3) := by decide +kernel
theorem dX5_closest_31 : decode cX5_closest 31 = .ok (.istore 5, 2) := by decide +kernel
theorem dX5_closest_33 : decode cX5_closest 33 = .ok (.iload 5, 2) := by decide +kernel
theorem dX5_closest_35 : decode cX5_closest 35 = .ok (.iconst (-1), 1) := by decide +kernel
theorem dX5_closest_36 : decode cX5_closest 36 = .ok (.if_icmp .eq 25, 3) := by decide +kernel
theorem dX5_closest_39 : decode cX5_closest 39 = .ok (.iload_n 1, 1) := by decide +kernel
theorem dX5_closest_40 : decode cX5_closest 40 = .ok (.iconst (-1), 1) := by decide +kernel
theorem dX5_closest_41 : decode cX5_closest 41 = .ok (.if_icmp .eq 9, 3) := by decide +kernel
theorem dX5_closest_44 : decode cX5_closest 44 = .ok (.iload 5, 2) := by decide +kernel
theorem dX5_closest_46 : decode cX5_closest 46 = .ok (.iload_n 2, 1) := by decide +kernel
theorem dX5_closest_47 : decode cX5_closest 47 = .ok (.if_icmp .ge 14, 3) := by decide +kernel
theorem dX5_closest_50 : decode cX5_closest 50 = .ok (.bipush 12, 2) := by decide +kernel
theorem dX5_closest_52 : decode cX5_closest 52 = .ok (.iload_n 3, 1) := by decide +kernel
theorem dX5_closest_53 : decode cX5_closest 53 = .ok (.imul, 1) := by decide +kernel
theorem dX5_closest_54 : decode cX5_closest 54 = .ok (.iload 4, 2) := by decide +kernel
theorem dX5_closest_56 : decode cX5_closest 56 = .ok (.iadd, 1) := by decide +kernel
theorem dX5_closest_57 : decode cX5_closest 57 = .ok (.istore_n 1, 1) := by decide +kernel
theorem dX5_closest_58 : decode cX5_closest 58 = .ok (.iload 5, 2) := by decide +kernel
theorem dX5_closest_60 : decode cX5_closest 60 = .ok (.istore_n 2, 1) := by decide +kernel
theorem dX5_closest_61 : decode cX5_closest 61 = .ok (.iinc 4 1, 3) := by decide +kernel
theorem dX5_closest_64 : decode cX5_closest 64 = .ok (.goto (-47), 3) := by decide +kernel
theorem dX5_closest_67 : decode cX5_closest 67 = .ok (.iinc 3 1, 3) := by decide +kernel
theorem dX5_closest_70 : decode cX5_closest 70 = .ok (.goto (-64), 3) := by decide +kernel
theorem dX5_closest_73 : decode cX5_closest 73 = .ok (.iload_n 1, 1) := by decide +kernel
theorem dX5_closest_74 : decode cX5_closest 74 = .ok (.ireturn, 1) := by decide +kernel
theorem dX5_advise_0 : decode cX5_advise 0 = .ok (.iconst 1, 1) := by decide +kernel
theorem dX5_advise_1 : decode cX5_advise 1 = .ok (.istore_n 1, 1) := by decide +kernel
theorem dX5_advise_2 : decode cX5_advise 2 = .ok (.iload_n 1, 1) := by decide +kernel
theorem dX5_advise_3 : decode cX5_advise 3 = .ok (.sipush 340, 3) := by decide +kernel
theorem dX5_advise_6 : decode cX5_advise 6 = .ok (.if_icmp .gt 28, 3) := by decide +kernel
theorem dX5_advise_9 : decode cX5_advise 9 = .ok (.iload_n 1, 1) := by decide +kernel
theorem dX5_advise_10 : decode cX5_advise 10 = .ok (.invokestatic 101, 3) := by decide +kernel
theorem dX5_advise_13 : decode cX5_advise 13 = .ok (.istore_n 2, 1) := by decide +kernel
theorem dX5_advise_14 : decode cX5_advise 14 = .ok (.aload_n 0, 1) := by decide +kernel
theorem dX5_advise_15 : decode cX5_advise 15 = .ok (.getfield 10, 3) := by decide +kernel
theorem dX5_advise_18 : decode cX5_advise 18 = .ok (.iload_n 2, 1) := by decide +kernel
theorem dX5_advise_19 : decode cX5_advise 19 = .ok (.iconst 0, 1) := by decide +kernel
theorem dX5_advise_20 : decode cX5_advise 20 = .ok (.invokevirtual 87, 3) := by decide +kernel
theorem dX5_advise_23 : decode cX5_advise 23 = .ok (.ifCond .ne 5, 3) := by decide +kernel
theorem dX5_advise_26 : decode cX5_advise 26 = .ok (.iload_n 2, 1) := by decide +kernel
theorem dX5_advise_27 : decode cX5_advise 27 = .ok (.ireturn, 1) := by decide +kernel
theorem dX5_advise_28 : decode cX5_advise 28 = .ok (.iinc 1 1, 3) := by decide +kernel
theorem dX5_advise_31 : decode cX5_advise 31 = .ok (.goto (-29), 3) := by decide +kernel
theorem dX5_advise_34 : decode cX5_advise 34 = .ok (.iconst 0, 1) := by decide +kernel
theorem dX5_advise_35 : decode cX5_advise 35 = .ok (.ireturn, 1) := by decide +kernel
theorem dX5_setKnotter_0 : decode cX5_setKnotter 0 = .ok (.iload_n 1, 1) := by decide +kernel
theorem dX5_setKnotter_1 : decode cX5_setKnotter 1 = .ok (.ifCond .lt 19, 3) := by decide +kernel
theorem dX5_setKnotter_4 : decode cX5_setKnotter 4 = .ok (.iload_n 1, 1) := by decide +kernel
theorem dX5_setKnotter_5 : decode cX5_setKnotter 5 = .ok (.bipush 99, 2) := by decide +kernel
theorem dX5_setKnotter_7 : decode cX5_setKnotter 7 = .ok (.if_icmp .gt 13, 3) := by decide +kernel
theorem dX5_setKnotter_10 : decode cX5_setKnotter 10 = .ok (.iload_n 2, 1) := by decide +kernel
theorem dX5_setKnotter_11 : decode cX5_setKnotter 11 = .ok (.ifCond .lt 9, 3) := by decide +kernel
theorem dX5_setKnotter_14 : decode cX5_setKnotter 14 = .ok (.iload_n 2, 1) := by decide +kernel
theorem dX5_setKnotter_15 : decode cX5_setKnotter 15 = .ok (.bipush 99, 2) := by decide +kernel
theorem dX5_setKnotter_17 : decode cX5_setKnotter 17 = .ok (.if_icmp .le 13, 3) := by decide +kernel
theorem dX5_setKnotter_20 : decode cX5_setKnotter 20 = .ok (.new 67, 3) := by decide +kernel
theorem dX5_setKnotter_23 : decode cX5_setKnotter 23 = .ok (.dup, 1) := by decide +kernel
theorem dX5_setKnotter_24 : decode cX5_setKnotter 24 = .ok (.ldc 105, 2) := by decide +kernel
theorem dX5_setKnotter_26 : decode cX5_setKnotter 26 = .ok (.invokespecial 71, 3) := by decide +kernel
theorem dX5_setKnotter_29 : decode cX5_setKnotter 29 = .ok (.athrow, 1) := by decide +kernel
theorem dX5_setKnotter_30 : decode cX5_setKnotter 30 = .ok (.bipush 100, 2) := by decide +kernel
theorem dX5_setKnotter_32 : decode cX5_setKnotter 32 = .ok (.aload_n 0, 1) := by decide +kernel
theorem dX5_setKnotter_33 : decode cX5_setKnotter 33 = .ok (.getfield 19, 3) := by decide +kernel
theorem dX5_setKnotter_36 : decode cX5_setKnotter 36 = .ok (.getfield 107, 3) := by decide +kernel
theorem dX5_setKnotter_39 : decode cX5_setKnotter 39 = .ok (.imul, 1) := by decide +kernel
theorem dX5_setKnotter_40 : decode cX5_setKnotter 40 = .ok (.aload_n 0, 1) := by decide +kernel
theorem dX5_setKnotter_41 : decode cX5_setKnotter 41 = .ok (.getfield 19, 3) := by decide +kernel
theorem dX5_setKnotter_44 : decode cX5_setKnotter 44 = .ok (.getfield 111, 3) := by decide +kernel
theorem dX5_setKnotter_47 : decode cX5_setKnotter 47 = .ok (.iadd, 1) := by decide +kernel
theorem dX5_setKnotter_48 : decode cX5_setKnotter 48 = .ok (.istore_n 3, 1) := by decide +kernel
theorem dX5_setKnotter_49 : decode cX5_setKnotter 49 = .ok (.aload_n 0, 1) := by decide +kernel
theorem dX5_setKnotter_50 : decode cX5_setKnotter 50 = .ok (.getfield 19, 3) := by decide +kernel
theorem dX5_setKnotter_53 : decode cX5_setKnotter 53 = .ok (.iload_n 1, 1) := by decide +kernel
theorem dX5_setKnotter_54 : decode cX5_setKnotter 54 = .ok (.putfield 107, 3) := by decide +kernel
theorem dX5_setKnotter_57 : decode cX5_setKnotter 57 = .ok (.aload_n 0, 1) := by decide +kernel
theorem dX5_setKnotter_58 : decode cX5_setKnotter 58 = .ok (.getfield 19, 3) := by decide +kernel
theorem dX5_setKnotter_61 : decode cX5_setKnotter 61 = .ok (.iload_n 2, 1) := by decide +kernel
theorem dX5_setKnotter_62 : decode cX5_setKnotter 62 = .ok (.putfield 111, 3) := by decide +kernel
theorem dX5_setKnotter_65 : decode cX5_setKnotter 65 = .ok (.iload_n 3, 1) := by decide +kernel
theorem dX5_setKnotter_66 : decode cX5_setKnotter 66 = .ok (.ireturn, 1) := by decide +kernel
theorem dX5_setFeel_0 : decode cX5_setFeel 0 = .ok (.iload_n 1, 1) := by decide +kernel
theorem dX5_setFeel_1 : decode cX5_setFeel 1 = .ok (.invokestatic 114, 3) := by decide +kernel
theorem dX5_setFeel_4 : decode cX5_setFeel 4 = .ok (.ifCond .ne 25, 3) := by decide +kernel
theorem dX5_setFeel_7 : decode cX5_setFeel 7 = .ok (.iload_n 2, 1) := by decide +kernel
theorem dX5_setFeel_8 : decode cX5_setFeel 8 = .ok (.invokestatic 114, 3) := by decide +kernel
theorem dX5_setFeel_11 : decode cX5_setFeel 11 = .ok (.ifCond .ne 18, 3) := by decide +kernel
theorem dX5_setFeel_14 : decode cX5_setFeel 14 = .ok (.iload_n 1, 1) := by decide +kernel
theorem dX5_setFeel_15 : decode cX5_setFeel 15 = .ok (.iload_n 2, 1) := by decide +kernel
theorem dX5_setFeel_16 : decode cX5_setFeel 16 = .ok (.if_icmp .eq 13, 3) := by decide +kernel
theorem dX5_setFeel_19 : decode cX5_setFeel 19 = .ok (.iload_n 3, 1) := by decide +kernel
theorem dX5_setFeel_20 : decode cX5_setFeel 20 = .ok (.ifCond .lt 9, 3) := by decide +kernel
theorem dX5_setFeel_23 : decode cX5_setFeel 23 = .ok (.iload_n 3, 1) := by decide +kernel
theorem dX5_setFeel_24 : decode cX5_setFeel 24 = .ok (.bipush 9, 2) := by decide +kernel
theorem dX5_setFeel_26 : decode cX5_setFeel 26 = .ok (.if_icmp .le 13, 3) := by decide +kernel
theorem dX5_setFeel_29 : decode cX5_setFeel 29 = .ok (.new 67, 3) := by decide +kernel
theorem dX5_setFeel_32 : decode cX5_setFeel 32 = .ok (.dup, 1) := by decide +kernel
theorem dX5_setFeel_33 : decode cX5_setFeel 33 = .ok (.ldc 117, 2) := by decide +kernel
theorem dX5_setFeel_35 : decode cX5_setFeel 35 = .ok (.invokespecial 71, 3) := by decide +kernel
theorem dX5_setFeel_38 : decode cX5_setFeel 38 = .ok (.athrow, 1) := by decide +kernel
theorem dX5_setFeel_39 : decode cX5_setFeel 39 = .ok (.aload_n 0, 1) := by decide +kernel
theorem dX5_setFeel_40 : decode cX5_setFeel 40 = .ok (.getfield 26, 3) := by decide +kernel
theorem dX5_setFeel_43 : decode cX5_setFeel 43 = .ok (.iload_n 1, 1) := by decide +kernel
theorem dX5_setFeel_44 : decode cX5_setFeel 44 = .ok (.iload_n 2, 1) := by decide +kernel
theorem dX5_setFeel_45 : decode cX5_setFeel 45 = .ok (.invokevirtual 119, 3) := by decide +kernel
theorem dX5_setFeel_48 : decode cX5_setFeel 48 = .ok (.istore 4, 2) := by decide +kernel
theorem dX5_setFeel_50 : decode cX5_setFeel 50 = .ok (.aload_n 0, 1) := by decide +kernel
theorem dX5_setFeel_51 : decode cX5_setFeel 51 = .ok (.getfield 26, 3) := by decide +kernel
theorem dX5_setFeel_54 : decode cX5_setFeel 54 = .ok (.iload_n 1, 1) := by decide +kernel
theorem dX5_setFeel_55 : decode cX5_setFeel 55 = .ok (.iload_n 2, 1) := by decide +kernel
theorem dX5_setFeel_56 : decode cX5_setFeel 56 = .ok (.iload_n 3, 1) := by decide +kernel
theorem dX5_setFeel_57 : decode cX5_setFeel 57 = .ok (.invokevirtual 122, 3) := by decide +kernel
theorem dX5_setFeel_60 : decode cX5_setFeel 60 = .ok (.iload 4, 2) := by decide +kernel
theorem dX5_setFeel_62 : decode cX5_setFeel 62 = .ok (.ireturn, 1) := by decide +kernel
theorem dX5_setCosts_0 : decode cX5_setCosts 0 = .ok (.iload_n 1, 1) := by decide +kernel
theorem dX5_setCosts_1 : decode cX5_setCosts 1 = .ok (.iconst 1, 1) := by decide +kernel
theorem dX5_setCosts_2 : decode cX5_setCosts 2 = .ok (.if_icmp .lt 20, 3) := by decide +kernel
theorem dX5_setCosts_5 : decode cX5_setCosts 5 = .ok (.iload_n 1, 1) := by decide +kernel
theorem dX5_setCosts_6 : decode cX5_setCosts 6 = .ok (.bipush 9, 2) := by decide +kernel
theorem dX5_setCosts_8 : decode cX5_setCosts 8 = .ok (.if_icmp .gt 14, 3) := by decide +kernel
theorem dX5_setCosts_11 : decode cX5_setCosts 11 = .ok (.iload_n 2, 1) := by decide +kernel
theorem dX5_setCosts_12 : decode cX5_setCosts 12 = .ok (.iconst 1, 1) := by decide +kernel
theorem dX5_setCosts_13 : decode cX5_setCosts 13 = .ok (.if_icmp .lt 9, 3) := by decide +kernel
theorem dX5_setCosts_16 : decode cX5_setCosts 16 = .ok (.iload_n 2, 1) := by decide +kernel
theorem dX5_setCosts_17 : decode cX5_setCosts 17 = .ok (.bipush 9, 2) := by decide +kernel
theorem dX5_setCosts_19 : decode cX5_setCosts 19 = .ok (.if_icmp .le 13, 3) := by decide +kernel
theorem dX5_setCosts_22 : decode cX5_setCosts 22 = .ok (.new 67, 3) := by decide +kernel
theorem dX5_setCosts_25 : decode cX5_setCosts 25 = .ok (.dup, 1) := by decide +kernel
theorem dX5_setCosts_26 : decode cX5_setCosts 26 = .ok (.ldc 126, 2) := by decide +kernel
theorem dX5_setCosts_28 : decode cX5_setCosts 28 = .ok (.invokespecial 71, 3) := by decide +kernel
theorem dX5_setCosts_31 : decode cX5_setCosts 31 = .ok (.athrow, 1) := by decide +kernel
theorem dX5_setCosts_32 : decode cX5_setCosts 32 = .ok (.bipush 10, 2) := by decide +kernel
theorem dX5_setCosts_34 : decode cX5_setCosts 34 = .ok (.aload_n 0, 1) := by decide +kernel
theorem dX5_setCosts_35 : decode cX5_setCosts 35 = .ok (.getfield 26, 3) := by decide +kernel
theorem dX5_setCosts_38 : decode cX5_setCosts 38 = .ok (.getfield 128, 3) := by decide +kernel
theorem dX5_setCosts_41 : decode cX5_setCosts 41 = .ok (.imul, 1) := by decide +kernel
theorem dX5_setCosts_42 : decode cX5_setCosts 42 = .ok (.aload_n 0, 1) := by decide +kernel
theorem dX5_setCosts_43 : decode cX5_setCosts 43 = .ok (.getfield 26, 3) := by decide +kernel
theorem dX5_setCosts_46 : decode cX5_setCosts 46 = .ok (.getfield 131, 3) := by decide +kernel
theorem dX5_setCosts_49 : decode cX5_setCosts 49 = .ok (.iadd, 1) := by decide +kernel
theorem dX5_setCosts_50 : decode cX5_setCosts 50 = .ok (.istore_n 3, 1) := by decide +kernel
theorem dX5_setCosts_51 : decode cX5_setCosts 51 = .ok (.aload_n 0, 1) := by decide +kernel
theorem dX5_setCosts_52 : decode cX5_setCosts 52 = .ok (.getfield 26, 3) := by decide +kernel
theorem dX5_setCosts_55 : decode cX5_setCosts 55 = .ok (.iload_n 1, 1) := by decide +kernel
theorem dX5_setCosts_56 : decode cX5_setCosts 56 = .ok (.putfield 128, 3) := by decide +kernel
theorem dX5_setCosts_59 : decode cX5_setCosts 59 = .ok (.aload_n 0, 1) := by decide +kernel
theorem dX5_setCosts_60 : decode cX5_setCosts 60 = .ok (.getfield 26, 3) := by decide +kernel
theorem dX5_setCosts_63 : decode cX5_setCosts 63 = .ok (.iload_n 2, 1) := by decide +kernel
theorem dX5_setCosts_64 : decode cX5_setCosts 64 = .ok (.putfield 131, 3) := by decide +kernel
theorem dX5_setCosts_67 : decode cX5_setCosts 67 = .ok (.iload_n 3, 1) := by decide +kernel
theorem dX5_setCosts_68 : decode cX5_setCosts 68 = .ok (.ireturn, 1) := by decide +kernel
theorem dX5_feed_0 : decode cX5_feed 0 = .ok (.aload_n 0, 1) := by decide +kernel
theorem dX5_feed_1 : decode cX5_feed 1 = .ok (.getfield 134, 3) := by decide +kernel
theorem dX5_feed_4 : decode cX5_feed 4 = .ok (.bipush 20, 2) := by decide +kernel
theorem dX5_feed_6 : decode cX5_feed 6 = .ok (.iadd, 1) := by decide +kernel
theorem dX5_feed_7 : decode cX5_feed 7 = .ok (.bipush 80, 2) := by decide +kernel
theorem dX5_feed_9 : decode cX5_feed 9 = .ok (.if_icmp .le 13, 3) := by decide +kernel
theorem dX5_feed_12 : decode cX5_feed 12 = .ok (.new 137, 3) := by decide +kernel
theorem dX5_feed_15 : decode cX5_feed 15 = .ok (.dup, 1) := by decide +kernel
theorem dX5_feed_16 : decode cX5_feed 16 = .ok (.ldc 139, 2) := by decide +kernel
theorem dX5_feed_18 : decode cX5_feed 18 = .ok (.invokespecial 141, 3) := by decide +kernel
theorem dX5_feed_21 : decode cX5_feed 21 = .ok (.athrow, 1) := by decide +kernel
theorem dX5_feed_22 : decode cX5_feed 22 = .ok (.aload_n 0, 1) := by decide +kernel
theorem dX5_feed_23 : decode cX5_feed 23 = .ok (.iload_n 1, 1) := by decide +kernel
theorem dX5_feed_24 : decode cX5_feed 24 = .ok (.invokevirtual 142, 3) := by decide +kernel
theorem dX5_feed_27 : decode cX5_feed 27 = .ok (.aload_n 0, 1) := by decide +kernel
theorem dX5_feed_28 : decode cX5_feed 28 = .ok (.iload_n 2, 1) := by decide +kernel
theorem dX5_feed_29 : decode cX5_feed 29 = .ok (.invokevirtual 142, 3) := by decide +kernel
theorem dX5_feed_32 : decode cX5_feed 32 = .ok (.aload_n 0, 1) := by decide +kernel
theorem dX5_feed_33 : decode cX5_feed 33 = .ok (.iload_n 3, 1) := by decide +kernel
theorem dX5_feed_34 : decode cX5_feed 34 = .ok (.invokevirtual 142, 3) := by decide +kernel
theorem dX5_feed_37 : decode cX5_feed 37 = .ok (.aload_n 0, 1) := by decide +kernel
theorem dX5_feed_38 : decode cX5_feed 38 = .ok (.iload 4, 2) := by decide +kernel
theorem dX5_feed_40 : decode cX5_feed 40 = .ok (.invokevirtual 142, 3) := by decide +kernel
theorem dX5_feed_43 : decode cX5_feed 43 = .ok (.aload_n 0, 1) := by decide +kernel
theorem dX5_feed_44 : decode cX5_feed 44 = .ok (.iload 5, 2) := by decide +kernel
theorem dX5_feed_46 : decode cX5_feed 46 = .ok (.invokevirtual 142, 3) := by decide +kernel
theorem dX5_feed_49 : decode cX5_feed 49 = .ok (.aload_n 0, 1) := by decide +kernel
theorem dX5_feed_50 : decode cX5_feed 50 = .ok (.getfield 134, 3) := by decide +kernel
theorem dX5_feed_53 : decode cX5_feed 53 = .ok (.ireturn, 1) := by decide +kernel
theorem dX5_trim_0 : decode cX5_trim 0 = .ok (.iload_n 1, 1) := by decide +kernel
theorem dX5_trim_1 : decode cX5_trim 1 = .ok (.ifCond .lt 11, 3) := by decide +kernel
theorem dX5_trim_4 : decode cX5_trim 4 = .ok (.iload_n 1, 1) := by decide +kernel
theorem dX5_trim_5 : decode cX5_trim 5 = .ok (.aload_n 0, 1) := by decide +kernel
theorem dX5_trim_6 : decode cX5_trim 6 = .ok (.getfield 134, 3) := by decide +kernel
theorem dX5_trim_9 : decode cX5_trim 9 = .ok (.if_icmp .le 13, 3) := by decide +kernel
theorem dX5_trim_12 : decode cX5_trim 12 = .ok (.new 67, 3) := by decide +kernel
theorem dX5_trim_15 : decode cX5_trim 15 = .ok (.dup, 1) := by decide +kernel
theorem dX5_trim_16 : decode cX5_trim 16 = .ok (.ldc 146, 2) := by decide +kernel
theorem dX5_trim_18 : decode cX5_trim 18 = .ok (.invokespecial 71, 3) := by decide +kernel
theorem dX5_trim_21 : decode cX5_trim 21 = .ok (.athrow, 1) := by decide +kernel
theorem dX5_trim_22 : decode cX5_trim 22 = .ok (.aload_n 0, 1) := by decide +kernel
theorem dX5_trim_23 : decode cX5_trim 23 = .ok (.iload_n 1, 1) := by decide +kernel
theorem dX5_trim_24 : decode cX5_trim 24 = .ok (.putfield 134, 3) := by decide +kernel
theorem dX5_trim_27 : decode cX5_trim 27 = .ok (.iload_n 1, 1) := by decide +kernel
theorem dX5_trim_28 : decode cX5_trim 28 = .ok (.ireturn, 1) := by decide +kernel
theorem dX5_tie_0 : decode cX5_tie 0 = .ok (.aload_n 0, 1) := by decide +kernel
theorem dX5_tie_1 : decode cX5_tie 1 = .ok (.getfield 148, 3) := by decide +kernel
theorem dX5_tie_4 : decode cX5_tie 4 = .ok (.bipush 10, 2) := by decide +kernel
theorem dX5_tie_6 : decode cX5_tie 6 = .ok (.if_icmp .ge 12, 3) := by decide +kernel
theorem dX5_tie_9 : decode cX5_tie 9 = .ok (.aload_n 0, 1) := by decide +kernel
theorem dX5_tie_10 : decode cX5_tie 10 = .ok (.invokevirtual 151, 3) := by decide +kernel
theorem dX5_tie_13 : decode cX5_tie 13 = .ok (.bipush 40, 2) := by decide +kernel
theorem dX5_tie_15 : decode cX5_tie 15 = .ok (.if_icmp .le 13, 3) := by decide +kernel
theorem dX5_tie_18 : decode cX5_tie 18 = .ok (.new 137, 3) := by decide +kernel
theorem dX5_tie_21 : decode cX5_tie 21 = .ok (.dup, 1) := by decide +kernel
theorem dX5_tie_22 : decode cX5_tie 22 = .ok (.ldc 155, 2) := by decide +kernel
theorem dX5_tie_24 : decode cX5_tie 24 = .ok (.invokespecial 141, 3) := by decide +kernel
theorem dX5_tie_27 : decode cX5_tie 27 = .ok (.athrow, 1) := by decide +kernel
theorem dX5_tie_28 : decode cX5_tie 28 = .ok (.aload_n 0, 1) := by decide +kernel
theorem dX5_tie_29 : decode cX5_tie 29 = .ok (.invokevirtual 157, 3) := by decide +kernel
theorem dX5_tie_32 : decode cX5_tie 32 = .ok (.ifCond .ne 5, 3) := by decide +kernel
theorem dX5_tie_35 : decode cX5_tie 35 = .ok (.iconst (-1), 1) := by decide +kernel
theorem dX5_tie_36 : decode cX5_tie 36 = .ok (.ireturn, 1) := by decide +kernel
theorem dX5_tie_37 : decode cX5_tie 37 = .ok (.aload_n 0, 1) := by decide +kernel
theorem dX5_tie_38 : decode cX5_tie 38 = .ok (.getfield 41, 3) := by decide +kernel
theorem dX5_tie_41 : decode cX5_tie 41 = .ok (.aload_n 0, 1) := by decide +kernel
theorem dX5_tie_42 : decode cX5_tie 42 = .ok (.getfield 148, 3) := by decide +kernel
theorem dX5_tie_45 : decode cX5_tie 45 = .ok (.aaload, 1) := by decide +kernel
theorem dX5_tie_46 : decode cX5_tie 46 = .ok (.astore_n 1, 1) := by decide +kernel
theorem dX5_tie_47 : decode cX5_tie 47 = .ok (.iconst 0, 1) := by decide +kernel
theorem dX5_tie_48 : decode cX5_tie 48 = .ok (.istore_n 2, 1) := by decide +kernel
theorem dX5_tie_49 : decode cX5_tie 49 = .ok (.iload_n 2, 1) := by decide +kernel
theorem dX5_tie_50 : decode cX5_tie 50 = .ok (.aload_n 0, 1) := by decide +kernel
theorem dX5_tie_51 : decode cX5_tie 51 = .ok (.getfield 134, 3) := by decide +kernel
theorem dX5_tie_54 : decode cX5_tie 54 = .ok (.if_icmp .ge 20, 3) := by decide +kernel
theorem dX5_tie_57 : decode cX5_tie 57 = .ok (.aload_n 0, 1) := by decide +kernel
theorem dX5_tie_58 : decode cX5_tie 58 = .ok (.aload_n 1, 1) := by decide +kernel
theorem dX5_tie_59 : decode cX5_tie 59 = .ok (.aload_n 0, 1) := by decide +kernel
theorem dX5_tie_60 : decode cX5_tie 60 = .ok (.getfield 46, 3) := by decide +kernel
theorem dX5_tie_63 : decode cX5_tie 63 = .ok (.iload_n 2, 1) := by decide +kernel
theorem dX5_tie_64 : decode cX5_tie 64 = .ok (.iaload, 1) := by decide +kernel
theorem dX5_tie_65 : decode cX5_tie 65 = .ok (.invokevirtual 160, 3) := by decide +kernel
theorem dX5_tie_68 : decode cX5_tie 68 = .ok (.iinc 2 1, 3) := by decide +kernel
theorem dX5_tie_71 : decode cX5_tie 71 = .ok (.goto (-22), 3) := by decide +kernel
theorem dX5_tie_74 : decode cX5_tie 74 = .ok (.aload_n 0, 1) := by decide +kernel
theorem dX5_tie_75 : decode cX5_tie 75 = .ok (.iconst 0, 1) := by decide +kernel
theorem dX5_tie_76 : decode cX5_tie 76 = .ok (.putfield 134, 3) := by decide +kernel
theorem dX5_tie_79 : decode cX5_tie 79 = .ok (.aload_n 0, 1) := by decide +kernel
theorem dX5_tie_80 : decode cX5_tie 80 = .ok (.dup, 1) := by decide +kernel
theorem dX5_tie_81 : decode cX5_tie 81 = .ok (.getfield 148, 3) := by decide +kernel
theorem dX5_tie_84 : decode cX5_tie 84 = .ok (.iconst 1, 1) := by decide +kernel
theorem dX5_tie_85 : decode cX5_tie 85 = .ok (.iadd, 1) := by decide +kernel
theorem dX5_tie_86 : decode cX5_tie 86 = .ok (.putfield 148, 3) := by decide +kernel
theorem dX5_tie_89 : decode cX5_tie 89 = .ok (.aload_n 0, 1) := by decide +kernel
theorem dX5_tie_90 : decode cX5_tie 90 = .ok (.getfield 148, 3) := by decide +kernel
theorem dX5_tie_93 : decode cX5_tie 93 = .ok (.iconst 1, 1) := by decide +kernel
theorem dX5_tie_94 : decode cX5_tie 94 = .ok (.isub, 1) := by decide +kernel
theorem dX5_tie_95 : decode cX5_tie 95 = .ok (.ireturn, 1) := by decide +kernel
theorem dX5_cord_0 : decode cX5_cord 0 = .ok (.aload_n 0, 1) := by decide +kernel
theorem dX5_cord_1 : decode cX5_cord 1 = .ok (.iload_n 1, 1) := by decide +kernel
theorem dX5_cord_2 : decode cX5_cord 2 = .ok (.invokevirtual 164, 3) := by decide +kernel
theorem dX5_cord_5 : decode cX5_cord 5 = .ok (.ifCond .ne 13, 3) := by decide +kernel
theorem dX5_cord_8 : decode cX5_cord 8 = .ok (.iload_n 2, 1) := by decide +kernel
theorem dX5_cord_9 : decode cX5_cord 9 = .ok (.ifCond .lt 9, 3) := by decide +kernel
theorem dX5_cord_12 : decode cX5_cord 12 = .ok (.iload_n 2, 1) := by decide +kernel
theorem dX5_cord_13 : decode cX5_cord 13 = .ok (.bipush 7, 2) := by decide +kernel
theorem dX5_cord_15 : decode cX5_cord 15 = .ok (.if_icmp .lt 13, 3) := by decide +kernel
theorem dX5_cord_18 : decode cX5_cord 18 = .ok (.new 57, 3) := by decide +kernel
theorem dX5_cord_21 : decode cX5_cord 21 = .ok (.dup, 1) := by decide +kernel
theorem dX5_cord_22 : decode cX5_cord 22 = .ok (.ldc 167, 2) := by decide +kernel
theorem dX5_cord_24 : decode cX5_cord 24 = .ok (.invokespecial 61, 3) := by decide +kernel
theorem dX5_cord_27 : decode cX5_cord 27 = .ok (.athrow, 1) := by decide +kernel
theorem dX5_cord_28 : decode cX5_cord 28 = .ok (.iload_n 2, 1) := by decide +kernel
theorem dX5_cord_29 : decode cX5_cord 29 = .ok (.tableswitch 113 0 5 #[39, 49, 59, 69, 79, 96], 39) := by decide +kernel
theorem dX5_cord_68 : decode cX5_cord 68 = .ok (.aload_n 0, 1) := by decide +kernel
theorem dX5_cord_69 : decode cX5_cord 69 = .ok (.getfield 41, 3) := by decide +kernel
theorem dX5_cord_72 : decode cX5_cord 72 = .ok (.iload_n 1, 1) := by decide +kernel
theorem dX5_cord_73 : decode cX5_cord 73 = .ok (.aaload, 1) := by decide +kernel
theorem dX5_cord_74 : decode cX5_cord 74 = .ok (.getfield 169, 3) := by decide +kernel
theorem dX5_cord_77 : decode cX5_cord 77 = .ok (.ireturn, 1) := by decide +kernel
theorem dX5_cord_78 : decode cX5_cord 78 = .ok (.aload_n 0, 1) := by decide +kernel
theorem dX5_cord_79 : decode cX5_cord 79 = .ok (.getfield 41, 3) := by decide +kernel
theorem dX5_cord_82 : decode cX5_cord 82 = .ok (.iload_n 1, 1) := by decide +kernel
theorem dX5_cord_83 : decode cX5_cord 83 = .ok (.aaload, 1) := by decide +kernel
theorem dX5_cord_84 : decode cX5_cord 84 = .ok (.getfield 172, 3) := by decide +kernel
theorem dX5_cord_87 : decode cX5_cord 87 = .ok (.ireturn, 1) := by decide +kernel
theorem dX5_cord_88 : decode cX5_cord 88 = .ok (.aload_n 0, 1) := by decide +kernel
theorem dX5_cord_89 : decode cX5_cord 89 = .ok (.getfield 41, 3) := by decide +kernel
theorem dX5_cord_92 : decode cX5_cord 92 = .ok (.iload_n 1, 1) := by decide +kernel
theorem dX5_cord_93 : decode cX5_cord 93 = .ok (.aaload, 1) := by decide +kernel
theorem dX5_cord_94 : decode cX5_cord 94 = .ok (.getfield 175, 3) := by decide +kernel
theorem dX5_cord_97 : decode cX5_cord 97 = .ok (.ireturn, 1) := by decide +kernel
theorem dX5_cord_98 : decode cX5_cord 98 = .ok (.aload_n 0, 1) := by decide +kernel
theorem dX5_cord_99 : decode cX5_cord 99 = .ok (.getfield 41, 3) := by decide +kernel
theorem dX5_cord_102 : decode cX5_cord 102 = .ok (.iload_n 1, 1) := by decide +kernel
theorem dX5_cord_103 : decode cX5_cord 103 = .ok (.aaload, 1) := by decide +kernel
theorem dX5_cord_104 : decode cX5_cord 104 = .ok (.getfield 178, 3) := by decide +kernel
theorem dX5_cord_107 : decode cX5_cord 107 = .ok (.ireturn, 1) := by decide +kernel
theorem dX5_cord_108 : decode cX5_cord 108 = .ok (.aload_n 0, 1) := by decide +kernel
theorem dX5_cord_109 : decode cX5_cord 109 = .ok (.getfield 35, 3) := by decide +kernel
theorem dX5_cord_112 : decode cX5_cord 112 = .ok (.aload_n 0, 1) := by decide +kernel
theorem dX5_cord_113 : decode cX5_cord 113 = .ok (.getfield 41, 3) := by decide +kernel
theorem dX5_cord_116 : decode cX5_cord 116 = .ok (.iload_n 1, 1) := by decide +kernel
theorem dX5_cord_117 : decode cX5_cord 117 = .ok (.aaload, 1) := by decide +kernel
theorem dX5_cord_118 : decode cX5_cord 118 = .ok (.invokevirtual 181, 3) := by decide +kernel
theorem dX5_cord_121 : decode cX5_cord 121 = .ok (.invokestatic 185, 3) := by decide +kernel
theorem dX5_cord_124 : decode cX5_cord 124 = .ok (.ireturn, 1) := by decide +kernel
theorem dX5_cord_125 : decode cX5_cord 125 = .ok (.aload_n 0, 1) := by decide +kernel
theorem dX5_cord_126 : decode cX5_cord 126 = .ok (.getfield 35, 3) := by decide +kernel
theorem dX5_cord_129 : decode cX5_cord 129 = .ok (.aload_n 0, 1) := by decide +kernel
theorem dX5_cord_130 : decode cX5_cord 130 = .ok (.getfield 41, 3) := by decide +kernel
theorem dX5_cord_133 : decode cX5_cord 133 = .ok (.iload_n 1, 1) := by decide +kernel
theorem dX5_cord_134 : decode cX5_cord 134 = .ok (.aaload, 1) := by decide +kernel
theorem dX5_cord_135 : decode cX5_cord 135 = .ok (.invokevirtual 181, 3) := by decide +kernel
theorem dX5_cord_138 : decode cX5_cord 138 = .ok (.invokestatic 188, 3) := by decide +kernel
theorem dX5_cord_141 : decode cX5_cord 141 = .ok (.ireturn, 1) := by decide +kernel
theorem dX5_cord_142 : decode cX5_cord 142 = .ok (.aload_n 0, 1) := by decide +kernel
theorem dX5_cord_143 : decode cX5_cord 143 = .ok (.getfield 35, 3) := by decide +kernel
theorem dX5_cord_146 : decode cX5_cord 146 = .ok (.aload_n 0, 1) := by decide +kernel
theorem dX5_cord_147 : decode cX5_cord 147 = .ok (.getfield 41, 3) := by decide +kernel
theorem dX5_cord_150 : decode cX5_cord 150 = .ok (.iload_n 1, 1) := by decide +kernel
theorem dX5_cord_151 : decode cX5_cord 151 = .ok (.aaload, 1) := by decide +kernel
theorem dX5_cord_152 : decode cX5_cord 152 = .ok (.invokevirtual 191, 3) := by decide +kernel
theorem dX5_cord_155 : decode cX5_cord 155 = .ok (.ireturn, 1) := by decide +kernel
theorem dX5_knot_0 : decode cX5_knot 0 = .ok (.aload_n 0, 1) := by decide +kernel
theorem dX5_knot_1 : decode cX5_knot 1 = .ok (.iload_n 1, 1) := by decide +kernel
theorem dX5_knot_2 : decode cX5_knot 2 = .ok (.iload_n 2, 1) := by decide +kernel
theorem dX5_knot_3 : decode cX5_knot 3 = .ok (.invokevirtual 194, 3) := by decide +kernel
theorem dX5_knot_6 : decode cX5_knot 6 = .ok (.ifCond .eq 13, 3) := by decide +kernel
theorem dX5_knot_9 : decode cX5_knot 9 = .ok (.new 57, 3) := by decide +kernel
theorem dX5_knot_12 : decode cX5_knot 12 = .ok (.dup, 1) := by decide +kernel
theorem dX5_knot_13 : decode cX5_knot 13 = .ok (.ldc 197, 2) := by decide +kernel
theorem dX5_knot_15 : decode cX5_knot 15 = .ok (.invokespecial 61, 3) := by decide +kernel
theorem dX5_knot_18 : decode cX5_knot 18 = .ok (.athrow, 1) := by decide +kernel
theorem dX5_knot_19 : decode cX5_knot 19 = .ok (.aload_n 0, 1) := by decide +kernel
theorem dX5_knot_20 : decode cX5_knot 20 = .ok (.getfield 41, 3) := by decide +kernel
theorem dX5_knot_23 : decode cX5_knot 23 = .ok (.iload_n 1, 1) := by decide +kernel
theorem dX5_knot_24 : decode cX5_knot 24 = .ok (.aaload, 1) := by decide +kernel
theorem dX5_knot_25 : decode cX5_knot 25 = .ok (.getfield 199, 3) := by decide +kernel
theorem dX5_knot_28 : decode cX5_knot 28 = .ok (.iload_n 2, 1) := by decide +kernel
theorem dX5_knot_29 : decode cX5_knot 29 = .ok (.iaload, 1) := by decide +kernel
theorem dX5_knot_30 : decode cX5_knot 30 = .ok (.ireturn, 1) := by decide +kernel
theorem dX5_retie_0 : decode cX5_retie 0 = .ok (.aload_n 0, 1) := by decide +kernel
theorem dX5_retie_1 : decode cX5_retie 1 = .ok (.iload_n 1, 1) := by decide +kernel
theorem dX5_retie_2 : decode cX5_retie 2 = .ok (.iload_n 2, 1) := by decide +kernel
theorem dX5_retie_3 : decode cX5_retie 3 = .ok (.invokevirtual 194, 3) := by decide +kernel
theorem dX5_retie_6 : decode cX5_retie 6 = .ok (.ifCond .eq 13, 3) := by decide +kernel
theorem dX5_retie_9 : decode cX5_retie 9 = .ok (.new 57, 3) := by decide +kernel
theorem dX5_retie_12 : decode cX5_retie 12 = .ok (.dup, 1) := by decide +kernel
theorem dX5_retie_13 : decode cX5_retie 13 = .ok (.ldc 197, 2) := by decide +kernel
theorem dX5_retie_15 : decode cX5_retie 15 = .ok (.invokespecial 61, 3) := by decide +kernel
theorem dX5_retie_18 : decode cX5_retie 18 = .ok (.athrow, 1) := by decide +kernel
theorem dX5_retie_19 : decode cX5_retie 19 = .ok (.iload_n 3, 1) := by decide +kernel
theorem dX5_retie_20 : decode cX5_retie 20 = .ok (.invokestatic 114, 3) := by decide +kernel
theorem dX5_retie_23 : decode cX5_retie 23 = .ok (.ifCond .eq 13, 3) := by decide +kernel
theorem dX5_retie_26 : decode cX5_retie 26 = .ok (.new 67, 3) := by decide +kernel
theorem dX5_retie_29 : decode cX5_retie 29 = .ok (.dup, 1) := by decide +kernel
theorem dX5_retie_30 : decode cX5_retie 30 = .ok (.ldc 202, 2) := by decide +kernel
theorem dX5_retie_32 : decode cX5_retie 32 = .ok (.invokespecial 71, 3) := by decide +kernel
theorem dX5_retie_35 : decode cX5_retie 35 = .ok (.athrow, 1) := by decide +kernel
theorem dX5_retie_36 : decode cX5_retie 36 = .ok (.aload_n 0, 1) := by decide +kernel
theorem dX5_retie_37 : decode cX5_retie 37 = .ok (.getfield 41, 3) := by decide +kernel
theorem dX5_retie_40 : decode cX5_retie 40 = .ok (.iload_n 1, 1) := by decide +kernel
theorem dX5_retie_41 : decode cX5_retie 41 = .ok (.aaload, 1) := by decide +kernel
theorem dX5_retie_42 : decode cX5_retie 42 = .ok (.getfield 199, 3) := by decide +kernel
theorem dX5_retie_45 : decode cX5_retie 45 = .ok (.iload_n 2, 1) := by decide +kernel
theorem dX5_retie_46 : decode cX5_retie 46 = .ok (.iaload, 1) := by decide +kernel
theorem dX5_retie_47 : decode cX5_retie 47 = .ok (.istore 4, 2) := by decide +kernel
theorem dX5_retie_49 : decode cX5_retie 49 = .ok (.iload 4, 2) := by decide +kernel
theorem dX5_retie_51 : decode cX5_retie 51 = .ok (.iconst 5, 1) := by decide +kernel
theorem dX5_retie_52 : decode cX5_retie 52 = .ok (.if_icmp .ne 13, 3) := by decide +kernel
theorem dX5_retie_55 : decode cX5_retie 55 = .ok (.new 137, 3) := by decide +kernel
theorem dX5_retie_58 : decode cX5_retie 58 = .ok (.dup, 1) := by decide +kernel
theorem dX5_retie_59 : decode cX5_retie 59 = .ok (.ldc 204, 2) := by decide +kernel
theorem dX5_retie_61 : decode cX5_retie 61 = .ok (.invokespecial 141, 3) := by decide +kernel
theorem dX5_retie_64 : decode cX5_retie 64 = .ok (.athrow, 1) := by decide +kernel
theorem dX5_retie_65 : decode cX5_retie 65 = .ok (.aload_n 0, 1) := by decide +kernel
theorem dX5_retie_66 : decode cX5_retie 66 = .ok (.getfield 41, 3) := by decide +kernel
theorem dX5_retie_69 : decode cX5_retie 69 = .ok (.iload_n 1, 1) := by decide +kernel
theorem dX5_retie_70 : decode cX5_retie 70 = .ok (.aaload, 1) := by decide +kernel
theorem dX5_retie_71 : decode cX5_retie 71 = .ok (.getfield 199, 3) := by decide +kernel
theorem dX5_retie_74 : decode cX5_retie 74 = .ok (.iload_n 2, 1) := by decide +kernel
theorem dX5_retie_75 : decode cX5_retie 75 = .ok (.iload_n 3, 1) := by decide +kernel
theorem dX5_retie_76 : decode cX5_retie 76 = .ok (.iastore, 1) := by decide +kernel
theorem dX5_retie_77 : decode cX5_retie 77 = .ok (.iload 4, 2) := by decide +kernel
theorem dX5_retie_79 : decode cX5_retie 79 = .ok (.ireturn, 1) := by decide +kernel
theorem dX5_distance_0 : decode cX5_distance 0 = .ok (.aload_n 0, 1) := by decide +kernel
theorem dX5_distance_1 : decode cX5_distance 1 = .ok (.iload_n 1, 1) := by decide +kernel
theorem dX5_distance_2 : decode cX5_distance 2 = .ok (.invokevirtual 164, 3) := by decide +kernel
theorem dX5_distance_5 : decode cX5_distance 5 = .ok (.ifCond .ne 11, 3) := by decide +kernel
theorem dX5_distance_8 : decode cX5_distance 8 = .ok (.aload_n 0, 1) := by decide +kernel
theorem dX5_distance_9 : decode cX5_distance 9 = .ok (.iload_n 2, 1) := by decide +kernel
theorem dX5_distance_10 : decode cX5_distance 10 = .ok (.invokevirtual 164, 3) := by decide +kernel
theorem dX5_distance_13 : decode cX5_distance 13 = .ok (.ifCond .eq 13, 3) := by decide +kernel
theorem dX5_distance_16 : decode cX5_distance 16 = .ok (.new 57, 3) := by decide +kernel
theorem dX5_distance_19 : decode cX5_distance 19 = .ok (.dup, 1) := by decide +kernel
theorem dX5_distance_20 : decode cX5_distance 20 = .ok (.ldc 206, 2) := by decide +kernel
theorem dX5_distance_22 : decode cX5_distance 22 = .ok (.invokespecial 61, 3) := by decide +kernel
theorem dX5_distance_25 : decode cX5_distance 25 = .ok (.athrow, 1) := by decide +kernel
theorem dX5_distance_26 : decode cX5_distance 26 = .ok (.aload_n 0, 1) := by decide +kernel
theorem dX5_distance_27 : decode cX5_distance 27 = .ok (.iload_n 1, 1) := by decide +kernel
theorem dX5_distance_28 : decode cX5_distance 28 = .ok (.iload_n 2, 1) := by decide +kernel
theorem dX5_distance_29 : decode cX5_distance 29 = .ok (.invokevirtual 208, 3) := by decide +kernel
theorem dX5_distance_32 : decode cX5_distance 32 = .ok (.ireturn, 1) := by decide +kernel
theorem dX5_nearest_0 : decode cX5_nearest 0 = .ok (.aload_n 0, 1) := by decide +kernel
theorem dX5_nearest_1 : decode cX5_nearest 1 = .ok (.iload_n 1, 1) := by decide +kernel
theorem dX5_nearest_2 : decode cX5_nearest 2 = .ok (.invokevirtual 164, 3) := by decide +kernel
theorem dX5_nearest_5 : decode cX5_nearest 5 = .ok (.ifCond .eq 13, 3) := by decide +kernel
theorem dX5_nearest_8 : decode cX5_nearest 8 = .ok (.new 57, 3) := by decide +kernel
theorem dX5_nearest_11 : decode cX5_nearest 11 = .ok (.dup, 1) := by decide +kernel
theorem dX5_nearest_12 : decode cX5_nearest 12 = .ok (.ldc 206, 2) := by decide +kernel
theorem dX5_nearest_14 : decode cX5_nearest 14 = .ok (.invokespecial 61, 3) := by decide +kernel
theorem dX5_nearest_17 : decode cX5_nearest 17 = .ok (.athrow, 1) := by decide +kernel
theorem dX5_nearest_18 : decode cX5_nearest 18 = .ok (.iconst (-1), 1) := by decide +kernel
theorem dX5_nearest_19 : decode cX5_nearest 19 = .ok (.istore_n 2, 1) := by decide +kernel
theorem dX5_nearest_20 : decode cX5_nearest 20 = .ok (.iconst 0, 1) := by decide +kernel
theorem dX5_nearest_21 : decode cX5_nearest 21 = .ok (.istore_n 3, 1) := by decide +kernel
theorem dX5_nearest_22 : decode cX5_nearest 22 = .ok (.iconst 0, 1) := by decide +kernel
theorem dX5_nearest_23 : decode cX5_nearest 23 = .ok (.istore 4, 2) := by decide +kernel
theorem dX5_nearest_25 : decode cX5_nearest 25 = .ok (.iload 4, 2) := by decide +kernel
theorem dX5_nearest_27 : decode cX5_nearest 27 = .ok (.aload_n 0, 1) := by decide +kernel
theorem dX5_nearest_28 : decode cX5_nearest 28 = .ok (.getfield 148, 3) := by decide +kernel
theorem dX5_nearest_31 : decode cX5_nearest 31 = .ok (.if_icmp .ge 41, 3) := by decide +kernel
theorem dX5_nearest_34 : decode cX5_nearest 34 = .ok (.iload 4, 2) := by decide +kernel
theorem dX5_nearest_36 : decode cX5_nearest 36 = .ok (.iload_n 1, 1) := by decide +kernel
theorem dX5_nearest_37 : decode cX5_nearest 37 = .ok (.if_icmp .eq 29, 3) := by decide +kernel
theorem dX5_nearest_40 : decode cX5_nearest 40 = .ok (.aload_n 0, 1) := by decide +kernel
theorem dX5_nearest_41 : decode cX5_nearest 41 = .ok (.iload_n 1, 1) := by decide +kernel
theorem dX5_nearest_42 : decode cX5_nearest 42 = .ok (.iload 4, 2) := by decide +kernel
theorem dX5_nearest_44 : decode cX5_nearest 44 = .ok (.invokevirtual 208, 3) := by decide +kernel
theorem dX5_nearest_47 : decode cX5_nearest 47 = .ok (.istore 5, 2) := by decide +kernel
theorem dX5_nearest_49 : decode cX5_nearest 49 = .ok (.iload_n 2, 1) := by decide +kernel
theorem dX5_nearest_50 : decode cX5_nearest 50 = .ok (.iconst (-1), 1) := by decide +kernel
theorem dX5_nearest_51 : decode cX5_nearest 51 = .ok (.if_icmp .eq 9, 3) := by decide +kernel
theorem dX5_nearest_54 : decode cX5_nearest 54 = .ok (.iload 5, 2) := by decide +kernel
theorem dX5_nearest_56 : decode cX5_nearest 56 = .ok (.iload_n 3, 1) := by decide +kernel
theorem dX5_nearest_57 : decode cX5_nearest 57 = .ok (.if_icmp .ge 9, 3) := by decide +kernel
theorem dX5_nearest_60 : decode cX5_nearest 60 = .ok (.iload 4, 2) := by decide +kernel
theorem dX5_nearest_62 : decode cX5_nearest 62 = .ok (.istore_n 2, 1) := by decide +kernel
theorem dX5_nearest_63 : decode cX5_nearest 63 = .ok (.iload 5, 2) := by decide +kernel
theorem dX5_nearest_65 : decode cX5_nearest 65 = .ok (.istore_n 3, 1) := by decide +kernel
theorem dX5_nearest_66 : decode cX5_nearest 66 = .ok (.iinc 4 1, 3) := by decide +kernel
theorem dX5_nearest_69 : decode cX5_nearest 69 = .ok (.goto (-44), 3) := by decide +kernel
theorem dX5_nearest_72 : decode cX5_nearest 72 = .ok (.iload_n 2, 1) := by decide +kernel
theorem dX5_nearest_73 : decode cX5_nearest 73 = .ok (.ireturn, 1) := by decide +kernel
theorem dX5_read_0 : decode cX5_read 0 = .ok (.aload_n 0, 1) := by decide +kernel
theorem dX5_read_1 : decode cX5_read 1 = .ok (.iload_n 1, 1) := by decide +kernel
theorem dX5_read_2 : decode cX5_read 2 = .ok (.invokevirtual 164, 3) := by decide +kernel
theorem dX5_read_5 : decode cX5_read 5 = .ok (.ifCond .eq 13, 3) := by decide +kernel
theorem dX5_read_8 : decode cX5_read 8 = .ok (.new 57, 3) := by decide +kernel
theorem dX5_read_11 : decode cX5_read 11 = .ok (.dup, 1) := by decide +kernel
theorem dX5_read_12 : decode cX5_read 12 = .ok (.ldc 206, 2) := by decide +kernel
theorem dX5_read_14 : decode cX5_read 14 = .ok (.invokespecial 61, 3) := by decide +kernel
theorem dX5_read_17 : decode cX5_read 17 = .ok (.athrow, 1) := by decide +kernel
theorem dX5_read_18 : decode cX5_read 18 = .ok (.aload_n 0, 1) := by decide +kernel
theorem dX5_read_19 : decode cX5_read 19 = .ok (.aload_n 0, 1) := by decide +kernel
theorem dX5_read_20 : decode cX5_read 20 = .ok (.getfield 35, 3) := by decide +kernel
theorem dX5_read_23 : decode cX5_read 23 = .ok (.aload_n 0, 1) := by decide +kernel
theorem dX5_read_24 : decode cX5_read 24 = .ok (.getfield 41, 3) := by decide +kernel
theorem dX5_read_27 : decode cX5_read 27 = .ok (.iload_n 1, 1) := by decide +kernel
theorem dX5_read_28 : decode cX5_read 28 = .ok (.aaload, 1) := by decide +kernel
theorem dX5_read_29 : decode cX5_read 29 = .ok (.aload_n 0, 1) := by decide +kernel
theorem dX5_read_30 : decode cX5_read 30 = .ok (.getfield 50, 3) := by decide +kernel
theorem dX5_read_33 : decode cX5_read 33 = .ok (.invokevirtual 211, 3) := by decide +kernel
theorem dX5_read_36 : decode cX5_read 36 = .ok (.putfield 215, 3) := by decide +kernel
theorem dX5_read_39 : decode cX5_read 39 = .ok (.aload_n 0, 1) := by decide +kernel
theorem dX5_read_40 : decode cX5_read 40 = .ok (.getfield 215, 3) := by decide +kernel
theorem dX5_read_43 : decode cX5_read 43 = .ok (.ireturn, 1) := by decide +kernel
theorem dX5_byteAt_0 : decode cX5_byteAt 0 = .ok (.iload_n 1, 1) := by decide +kernel
theorem dX5_byteAt_1 : decode cX5_byteAt 1 = .ok (.ifCond .lt 11, 3) := by decide +kernel
theorem dX5_byteAt_4 : decode cX5_byteAt 4 = .ok (.iload_n 1, 1) := by decide +kernel
theorem dX5_byteAt_5 : decode cX5_byteAt 5 = .ok (.aload_n 0, 1) := by decide +kernel
theorem dX5_byteAt_6 : decode cX5_byteAt 6 = .ok (.getfield 215, 3) := by decide +kernel
theorem dX5_byteAt_9 : decode cX5_byteAt 9 = .ok (.if_icmp .lt 13, 3) := by decide +kernel
theorem dX5_byteAt_12 : decode cX5_byteAt 12 = .ok (.new 57, 3) := by decide +kernel
theorem dX5_byteAt_15 : decode cX5_byteAt 15 = .ok (.dup, 1) := by decide +kernel
theorem dX5_byteAt_16 : decode cX5_byteAt 16 = .ok (.ldc 218, 2) := by decide +kernel
theorem dX5_byteAt_18 : decode cX5_byteAt 18 = .ok (.invokespecial 61, 3) := by decide +kernel
theorem dX5_byteAt_21 : decode cX5_byteAt 21 = .ok (.athrow, 1) := by decide +kernel
theorem dX5_byteAt_22 : decode cX5_byteAt 22 = .ok (.aload_n 0, 1) := by decide +kernel
theorem dX5_byteAt_23 : decode cX5_byteAt 23 = .ok (.getfield 50, 3) := by decide +kernel
theorem dX5_byteAt_26 : decode cX5_byteAt 26 = .ok (.iload_n 1, 1) := by decide +kernel
theorem dX5_byteAt_27 : decode cX5_byteAt 27 = .ok (.iaload, 1) := by decide +kernel
theorem dX5_byteAt_28 : decode cX5_byteAt 28 = .ok (.ireturn, 1) := by decide +kernel
theorem dX5_count_0 : decode cX5_count 0 = .ok (.iload_n 1, 1) := by decide +kernel
theorem dX5_count_1 : decode cX5_count 1 = .ok (.ifCond .lt 9, 3) := by decide +kernel
theorem dX5_count_4 : decode cX5_count 4 = .ok (.iload_n 1, 1) := by decide +kernel
theorem dX5_count_5 : decode cX5_count 5 = .ok (.bipush 7, 2) := by decide +kernel
theorem dX5_count_7 : decode cX5_count 7 = .ok (.if_icmp .lt 13, 3) := by decide +kernel
theorem dX5_count_10 : decode cX5_count 10 = .ok (.new 57, 3) := by decide +kernel
theorem dX5_count_13 : decode cX5_count 13 = .ok (.dup, 1) := by decide +kernel
theorem dX5_count_14 : decode cX5_count 14 = .ok (.ldc 220, 2) := by decide +kernel
theorem dX5_count_16 : decode cX5_count 16 = .ok (.invokespecial 61, 3) := by decide +kernel
end
section
theorem dX5_count_19 : decode cX5_count 19 = .ok (.athrow, 1) := by decide +kernel
theorem dX5_count_20 : decode cX5_count 20 = .ok (.iload_n 1, 1) := by decide +kernel
theorem dX5_count_21 : decode cX5_count 21 = .ok (.tableswitch 81 0 5 #[39, 47, 52, 60, 68, 76], 39) := by decide +kernel
theorem dX5_count_60 : decode cX5_count 60 = .ok (.aload_n 0, 1) := by decide +kernel
theorem dX5_count_61 : decode cX5_count 61 = .ok (.getfield 10, 3) := by decide +kernel
theorem dX5_count_64 : decode cX5_count 64 = .ok (.invokevirtual 222, 3) := by decide +kernel
theorem dX5_count_67 : decode cX5_count 67 = .ok (.ireturn, 1) := by decide +kernel
theorem dX5_count_68 : decode cX5_count 68 = .ok (.aload_n 0, 1) := by decide +kernel
theorem dX5_count_69 : decode cX5_count 69 = .ok (.getfield 148, 3) := by decide +kernel
theorem dX5_count_72 : decode cX5_count 72 = .ok (.ireturn, 1) := by decide +kernel
theorem dX5_count_73 : decode cX5_count 73 = .ok (.aload_n 0, 1) := by decide +kernel
theorem dX5_count_74 : decode cX5_count 74 = .ok (.getfield 19, 3) := by decide +kernel
theorem dX5_count_77 : decode cX5_count 77 = .ok (.getfield 225, 3) := by decide +kernel
theorem dX5_count_80 : decode cX5_count 80 = .ok (.ireturn, 1) := by decide +kernel
theorem dX5_count_81 : decode cX5_count 81 = .ok (.aload_n 0, 1) := by decide +kernel
theorem dX5_count_82 : decode cX5_count 82 = .ok (.getfield 19, 3) := by decide +kernel
theorem dX5_count_85 : decode cX5_count 85 = .ok (.getfield 228, 3) := by decide +kernel
theorem dX5_count_88 : decode cX5_count 88 = .ok (.ireturn, 1) := by decide +kernel
theorem dX5_count_89 : decode cX5_count 89 = .ok (.aload_n 0, 1) := by decide +kernel
theorem dX5_count_90 : decode cX5_count 90 = .ok (.getfield 19, 3) := by decide +kernel
theorem dX5_count_93 : decode cX5_count 93 = .ok (.getfield 229, 3) := by decide +kernel
theorem dX5_count_96 : decode cX5_count 96 = .ok (.ireturn, 1) := by decide +kernel
theorem dX5_count_97 : decode cX5_count 97 = .ok (.aload_n 0, 1) := by decide +kernel
theorem dX5_count_98 : decode cX5_count 98 = .ok (.getfield 134, 3) := by decide +kernel
theorem dX5_count_101 : decode cX5_count 101 = .ok (.ireturn, 1) := by decide +kernel
theorem dX5_count_102 : decode cX5_count 102 = .ok (.aload_n 0, 1) := by decide +kernel
theorem dX5_count_103 : decode cX5_count 103 = .ok (.getfield 215, 3) := by decide +kernel
theorem dX5_count_106 : decode cX5_count 106 = .ok (.ireturn, 1) := by decide +kernel
theorem dX5_mean_0 : decode cX5_mean 0 = .ok (.aload_n 0, 1) := by decide +kernel
theorem dX5_mean_1 : decode cX5_mean 1 = .ok (.getfield 10, 3) := by decide +kernel
theorem dX5_mean_4 : decode cX5_mean 4 = .ok (.invokevirtual 222, 3) := by decide +kernel
theorem dX5_mean_7 : decode cX5_mean 7 = .ok (.istore_n 1, 1) := by decide +kernel
theorem dX5_mean_8 : decode cX5_mean 8 = .ok (.iload_n 1, 1) := by decide +kernel
theorem dX5_mean_9 : decode cX5_mean 9 = .ok (.ifCond .ne 5, 3) := by decide +kernel
theorem dX5_mean_12 : decode cX5_mean 12 = .ok (.dconst 0, 1) := by decide +kernel
theorem dX5_mean_13 : decode cX5_mean 13 = .ok (.dreturn, 1) := by decide +kernel
theorem dX5_mean_14 : decode cX5_mean 14 = .ok (.iconst 0, 1) := by decide +kernel
theorem dX5_mean_15 : decode cX5_mean 15 = .ok (.istore_n 2, 1) := by decide +kernel
theorem dX5_mean_16 : decode cX5_mean 16 = .ok (.iconst 0, 1) := by decide +kernel
theorem dX5_mean_17 : decode cX5_mean 17 = .ok (.istore_n 3, 1) := by decide +kernel
theorem dX5_mean_18 : decode cX5_mean 18 = .ok (.iload_n 3, 1) := by decide +kernel
theorem dX5_mean_19 : decode cX5_mean 19 = .ok (.bipush 12, 2) := by decide +kernel
theorem dX5_mean_21 : decode cX5_mean 21 = .ok (.if_icmp .ge 21, 3) := by decide +kernel
theorem dX5_mean_24 : decode cX5_mean 24 = .ok (.iload_n 2, 1) := by decide +kernel
theorem dX5_mean_25 : decode cX5_mean 25 = .ok (.aload_n 0, 1) := by decide +kernel
theorem dX5_mean_26 : decode cX5_mean 26 = .ok (.getfield 10, 3) := by decide +kernel
theorem dX5_mean_29 : decode cX5_mean 29 = .ok (.getfield 81, 3) := by decide +kernel
theorem dX5_mean_32 : decode cX5_mean 32 = .ok (.iload_n 3, 1) := by decide +kernel
theorem dX5_mean_33 : decode cX5_mean 33 = .ok (.iaload, 1) := by decide +kernel
theorem dX5_mean_34 : decode cX5_mean 34 = .ok (.iadd, 1) := by decide +kernel
theorem dX5_mean_35 : decode cX5_mean 35 = .ok (.istore_n 2, 1) := by decide +kernel
theorem dX5_mean_36 : decode cX5_mean 36 = .ok (.iinc 3 1, 3) := by decide +kernel
theorem dX5_mean_39 : decode cX5_mean 39 = .ok (.goto (-21), 3) := by decide +kernel
theorem dX5_mean_42 : decode cX5_mean 42 = .ok (.iload_n 2, 1) := by decide +kernel
theorem dX5_mean_43 : decode cX5_mean 43 = .ok (.i2d, 1) := by decide +kernel
theorem dX5_mean_44 : decode cX5_mean 44 = .ok (.iload_n 1, 1) := by decide +kernel
theorem dX5_mean_45 : decode cX5_mean 45 = .ok (.i2d, 1) := by decide +kernel
theorem dX5_mean_46 : decode cX5_mean 46 = .ok (.ddiv, 1) := by decide +kernel
theorem dX5_mean_47 : decode cX5_mean 47 = .ok (.dreturn, 1) := by decide +kernel
theorem dX5_digest_0 : decode cX5_digest 0 = .ok (.ldc2_w 230, 3) := by decide +kernel
theorem dX5_digest_3 : decode cX5_digest 3 = .ok (.lstore_n 1, 1) := by decide +kernel
theorem dX5_digest_4 : decode cX5_digest 4 = .ok (.iconst 0, 1) := by decide +kernel
theorem dX5_digest_5 : decode cX5_digest 5 = .ok (.istore_n 3, 1) := by decide +kernel
theorem dX5_digest_6 : decode cX5_digest 6 = .ok (.iload_n 3, 1) := by decide +kernel
theorem dX5_digest_7 : decode cX5_digest 7 = .ok (.bipush 7, 2) := by decide +kernel
theorem dX5_digest_9 : decode cX5_digest 9 = .ok (.if_icmp .ge 19, 3) := by decide +kernel
theorem dX5_digest_12 : decode cX5_digest 12 = .ok (.lload_n 1, 1) := by decide +kernel
theorem dX5_digest_13 : decode cX5_digest 13 = .ok (.aload_n 0, 1) := by decide +kernel
theorem dX5_digest_14 : decode cX5_digest 14 = .ok (.iload_n 3, 1) := by decide +kernel
theorem dX5_digest_15 : decode cX5_digest 15 = .ok (.invokevirtual 232, 3) := by decide +kernel
theorem dX5_digest_18 : decode cX5_digest 18 = .ok (.invokestatic 235, 3) := by decide +kernel
theorem dX5_digest_21 : decode cX5_digest 21 = .ok (.lstore_n 1, 1) := by decide +kernel
theorem dX5_digest_22 : decode cX5_digest 22 = .ok (.iinc 3 1, 3) := by decide +kernel
theorem dX5_digest_25 : decode cX5_digest 25 = .ok (.goto (-19), 3) := by decide +kernel
theorem dX5_digest_28 : decode cX5_digest 28 = .ok (.iconst 0, 1) := by decide +kernel
theorem dX5_digest_29 : decode cX5_digest 29 = .ok (.istore_n 3, 1) := by decide +kernel
theorem dX5_digest_30 : decode cX5_digest 30 = .ok (.iload_n 3, 1) := by decide +kernel
theorem dX5_digest_31 : decode cX5_digest 31 = .ok (.bipush 12, 2) := by decide +kernel
theorem dX5_digest_33 : decode cX5_digest 33 = .ok (.if_icmp .ge 36, 3) := by decide +kernel
theorem dX5_digest_36 : decode cX5_digest 36 = .ok (.iconst 0, 1) := by decide +kernel
theorem dX5_digest_37 : decode cX5_digest 37 = .ok (.istore 4, 2) := by decide +kernel
theorem dX5_digest_39 : decode cX5_digest 39 = .ok (.iload 4, 2) := by decide +kernel
theorem dX5_digest_41 : decode cX5_digest 41 = .ok (.iconst 3, 1) := by decide +kernel
theorem dX5_digest_42 : decode cX5_digest 42 = .ok (.if_icmp .ge 21, 3) := by decide +kernel
theorem dX5_digest_45 : decode cX5_digest 45 = .ok (.lload_n 1, 1) := by decide +kernel
theorem dX5_digest_46 : decode cX5_digest 46 = .ok (.aload_n 0, 1) := by decide +kernel
theorem dX5_digest_47 : decode cX5_digest 47 = .ok (.iload_n 3, 1) := by decide +kernel
theorem dX5_digest_48 : decode cX5_digest 48 = .ok (.iload 4, 2) := by decide +kernel
theorem dX5_digest_50 : decode cX5_digest 50 = .ok (.invokevirtual 239, 3) := by decide +kernel
theorem dX5_digest_53 : decode cX5_digest 53 = .ok (.invokestatic 235, 3) := by decide +kernel
theorem dX5_digest_56 : decode cX5_digest 56 = .ok (.lstore_n 1, 1) := by decide +kernel
theorem dX5_digest_57 : decode cX5_digest 57 = .ok (.iinc 4 1, 3) := by decide +kernel
theorem dX5_digest_60 : decode cX5_digest 60 = .ok (.goto (-21), 3) := by decide +kernel
theorem dX5_digest_63 : decode cX5_digest 63 = .ok (.iinc 3 1, 3) := by decide +kernel
theorem dX5_digest_66 : decode cX5_digest 66 = .ok (.goto (-36), 3) := by decide +kernel
theorem dX5_digest_69 : decode cX5_digest 69 = .ok (.iconst 0, 1) := by decide +kernel
theorem dX5_digest_70 : decode cX5_digest 70 = .ok (.istore_n 3, 1) := by decide +kernel
theorem dX5_digest_71 : decode cX5_digest 71 = .ok (.iload_n 3, 1) := by decide +kernel
theorem dX5_digest_72 : decode cX5_digest 72 = .ok (.aload_n 0, 1) := by decide +kernel
theorem dX5_digest_73 : decode cX5_digest 73 = .ok (.getfield 148, 3) := by decide +kernel
theorem dX5_digest_76 : decode cX5_digest 76 = .ok (.if_icmp .ge 77, 3) := by decide +kernel
theorem dX5_digest_79 : decode cX5_digest 79 = .ok (.iconst 0, 1) := by decide +kernel
theorem dX5_digest_80 : decode cX5_digest 80 = .ok (.istore 4, 2) := by decide +kernel
theorem dX5_digest_82 : decode cX5_digest 82 = .ok (.iload 4, 2) := by decide +kernel
theorem dX5_digest_84 : decode cX5_digest 84 = .ok (.bipush 7, 2) := by decide +kernel
theorem dX5_digest_86 : decode cX5_digest 86 = .ok (.if_icmp .ge 21, 3) := by decide +kernel
theorem dX5_digest_89 : decode cX5_digest 89 = .ok (.lload_n 1, 1) := by decide +kernel
theorem dX5_digest_90 : decode cX5_digest 90 = .ok (.aload_n 0, 1) := by decide +kernel
theorem dX5_digest_91 : decode cX5_digest 91 = .ok (.iload_n 3, 1) := by decide +kernel
theorem dX5_digest_92 : decode cX5_digest 92 = .ok (.iload 4, 2) := by decide +kernel
theorem dX5_digest_94 : decode cX5_digest 94 = .ok (.invokevirtual 242, 3) := by decide +kernel
theorem dX5_digest_97 : decode cX5_digest 97 = .ok (.invokestatic 235, 3) := by decide +kernel
theorem dX5_digest_100 : decode cX5_digest 100 = .ok (.lstore_n 1, 1) := by decide +kernel
theorem dX5_digest_101 : decode cX5_digest 101 = .ok (.iinc 4 1, 3) := by decide +kernel
theorem dX5_digest_104 : decode cX5_digest 104 = .ok (.goto (-22), 3) := by decide +kernel
theorem dX5_digest_107 : decode cX5_digest 107 = .ok (.iconst 0, 1) := by decide +kernel
theorem dX5_digest_108 : decode cX5_digest 108 = .ok (.istore 4, 2) := by decide +kernel
theorem dX5_digest_110 : decode cX5_digest 110 = .ok (.iload 4, 2) := by decide +kernel
theorem dX5_digest_112 : decode cX5_digest 112 = .ok (.aload_n 0, 1) := by decide +kernel
theorem dX5_digest_113 : decode cX5_digest 113 = .ok (.getfield 41, 3) := by decide +kernel
theorem dX5_digest_116 : decode cX5_digest 116 = .ok (.iload_n 3, 1) := by decide +kernel
theorem dX5_digest_117 : decode cX5_digest 117 = .ok (.aaload, 1) := by decide +kernel
theorem dX5_digest_118 : decode cX5_digest 118 = .ok (.getfield 169, 3) := by decide +kernel
theorem dX5_digest_121 : decode cX5_digest 121 = .ok (.if_icmp .ge 26, 3) := by decide +kernel
theorem dX5_digest_124 : decode cX5_digest 124 = .ok (.lload_n 1, 1) := by decide +kernel
theorem dX5_digest_125 : decode cX5_digest 125 = .ok (.aload_n 0, 1) := by decide +kernel
theorem dX5_digest_126 : decode cX5_digest 126 = .ok (.getfield 41, 3) := by decide +kernel
theorem dX5_digest_129 : decode cX5_digest 129 = .ok (.iload_n 3, 1) := by decide +kernel
theorem dX5_digest_130 : decode cX5_digest 130 = .ok (.aaload, 1) := by decide +kernel
theorem dX5_digest_131 : decode cX5_digest 131 = .ok (.getfield 199, 3) := by decide +kernel
theorem dX5_digest_134 : decode cX5_digest 134 = .ok (.iload 4, 2) := by decide +kernel
theorem dX5_digest_136 : decode cX5_digest 136 = .ok (.iaload, 1) := by decide +kernel
theorem dX5_digest_137 : decode cX5_digest 137 = .ok (.invokestatic 235, 3) := by decide +kernel
theorem dX5_digest_140 : decode cX5_digest 140 = .ok (.lstore_n 1, 1) := by decide +kernel
theorem dX5_digest_141 : decode cX5_digest 141 = .ok (.iinc 4 1, 3) := by decide +kernel
theorem dX5_digest_144 : decode cX5_digest 144 = .ok (.goto (-34), 3) := by decide +kernel
theorem dX5_digest_147 : decode cX5_digest 147 = .ok (.iinc 3 1, 3) := by decide +kernel
theorem dX5_digest_150 : decode cX5_digest 150 = .ok (.goto (-79), 3) := by decide +kernel
theorem dX5_digest_153 : decode cX5_digest 153 = .ok (.iconst 0, 1) := by decide +kernel
theorem dX5_digest_154 : decode cX5_digest 154 = .ok (.istore_n 3, 1) := by decide +kernel
theorem dX5_digest_155 : decode cX5_digest 155 = .ok (.iload_n 3, 1) := by decide +kernel
theorem dX5_digest_156 : decode cX5_digest 156 = .ok (.aload_n 0, 1) := by decide +kernel
theorem dX5_digest_157 : decode cX5_digest 157 = .ok (.getfield 215, 3) := by decide +kernel
theorem dX5_digest_160 : decode cX5_digest 160 = .ok (.if_icmp .ge 20, 3) := by decide +kernel
theorem dX5_digest_163 : decode cX5_digest 163 = .ok (.lload_n 1, 1) := by decide +kernel
theorem dX5_digest_164 : decode cX5_digest 164 = .ok (.aload_n 0, 1) := by decide +kernel
theorem dX5_digest_165 : decode cX5_digest 165 = .ok (.getfield 50, 3) := by decide +kernel
theorem dX5_digest_168 : decode cX5_digest 168 = .ok (.iload_n 3, 1) := by decide +kernel
theorem dX5_digest_169 : decode cX5_digest 169 = .ok (.iaload, 1) := by decide +kernel
theorem dX5_digest_170 : decode cX5_digest 170 = .ok (.invokestatic 235, 3) := by decide +kernel
theorem dX5_digest_173 : decode cX5_digest 173 = .ok (.lstore_n 1, 1) := by decide +kernel
theorem dX5_digest_174 : decode cX5_digest 174 = .ok (.iinc 3 1, 3) := by decide +kernel
theorem dX5_digest_177 : decode cX5_digest 177 = .ok (.goto (-22), 3) := by decide +kernel
theorem dX5_digest_180 : decode cX5_digest 180 = .ok (.lload_n 1, 1) := by decide +kernel
theorem dX5_digest_181 : decode cX5_digest 181 = .ok (.lreturn, 1) := by decide +kernel
theorem dX5_isNoLetter_0 : decode cX5_isNoLetter 0 = .ok (.iload_n 0, 1) := by decide +kernel
theorem dX5_isNoLetter_1 : decode cX5_isNoLetter 1 = .ok (.ifCond .lt 9, 3) := by decide +kernel
theorem dX5_isNoLetter_4 : decode cX5_isNoLetter 4 = .ok (.iload_n 0, 1) := by decide +kernel
theorem dX5_isNoLetter_5 : decode cX5_isNoLetter 5 = .ok (.bipush 12, 2) := by decide +kernel
theorem dX5_isNoLetter_7 : decode cX5_isNoLetter 7 = .ok (.if_icmp .lt 7, 3) := by decide +kernel
theorem dX5_isNoLetter_10 : decode cX5_isNoLetter 10 = .ok (.iconst 1, 1) := by decide +kernel
theorem dX5_isNoLetter_11 : decode cX5_isNoLetter 11 = .ok (.goto 4, 3) := by decide +kernel
theorem dX5_isNoLetter_14 : decode cX5_isNoLetter 14 = .ok (.iconst 0, 1) := by decide +kernel
theorem dX5_isNoLetter_15 : decode cX5_isNoLetter 15 = .ok (.ireturn, 1) := by decide +kernel
theorem dX5_isNoKind_0 : decode cX5_isNoKind 0 = .ok (.iload_n 0, 1) := by decide +kernel
theorem dX5_isNoKind_1 : decode cX5_isNoKind 1 = .ok (.iconst 1, 1) := by decide +kernel
theorem dX5_isNoKind_2 : decode cX5_isNoKind 2 = .ok (.if_icmp .lt 8, 3) := by decide +kernel
theorem dX5_isNoKind_5 : decode cX5_isNoKind 5 = .ok (.iload_n 0, 1) := by decide +kernel
theorem dX5_isNoKind_6 : decode cX5_isNoKind 6 = .ok (.iconst 4, 1) := by decide +kernel
theorem dX5_isNoKind_7 : decode cX5_isNoKind 7 = .ok (.if_icmp .le 7, 3) := by decide +kernel
theorem dX5_isNoKind_10 : decode cX5_isNoKind 10 = .ok (.iconst 1, 1) := by decide +kernel
theorem dX5_isNoKind_11 : decode cX5_isNoKind 11 = .ok (.goto 4, 3) := by decide +kernel
theorem dX5_isNoKind_14 : decode cX5_isNoKind 14 = .ok (.iconst 0, 1) := by decide +kernel
theorem dX5_isNoKind_15 : decode cX5_isNoKind 15 = .ok (.ireturn, 1) := by decide +kernel
theorem dX5_isNoCord_0 : decode cX5_isNoCord 0 = .ok (.iload_n 1, 1) := by decide +kernel
theorem dX5_isNoCord_1 : decode cX5_isNoCord 1 = .ok (.ifCond .lt 11, 3) := by decide +kernel
theorem dX5_isNoCord_4 : decode cX5_isNoCord 4 = .ok (.iload_n 1, 1) := by decide +kernel
theorem dX5_isNoCord_5 : decode cX5_isNoCord 5 = .ok (.aload_n 0, 1) := by decide +kernel
theorem dX5_isNoCord_6 : decode cX5_isNoCord 6 = .ok (.getfield 148, 3) := by decide +kernel
theorem dX5_isNoCord_9 : decode cX5_isNoCord 9 = .ok (.if_icmp .lt 7, 3) := by decide +kernel
theorem dX5_isNoCord_12 : decode cX5_isNoCord 12 = .ok (.iconst 1, 1) := by decide +kernel
theorem dX5_isNoCord_13 : decode cX5_isNoCord 13 = .ok (.goto 4, 3) := by decide +kernel
theorem dX5_isNoCord_16 : decode cX5_isNoCord 16 = .ok (.iconst 0, 1) := by decide +kernel
theorem dX5_isNoCord_17 : decode cX5_isNoCord 17 = .ok (.ireturn, 1) := by decide +kernel
theorem dX5_isNoPlace_0 : decode cX5_isNoPlace 0 = .ok (.aload_n 0, 1) := by decide +kernel
theorem dX5_isNoPlace_1 : decode cX5_isNoPlace 1 = .ok (.iload_n 1, 1) := by decide +kernel
theorem dX5_isNoPlace_2 : decode cX5_isNoPlace 2 = .ok (.invokevirtual 164, 3) := by decide +kernel
theorem dX5_isNoPlace_5 : decode cX5_isNoPlace 5 = .ok (.ifCond .ne 20, 3) := by decide +kernel
theorem dX5_isNoPlace_8 : decode cX5_isNoPlace 8 = .ok (.iload_n 2, 1) := by decide +kernel
theorem dX5_isNoPlace_9 : decode cX5_isNoPlace 9 = .ok (.ifCond .lt 16, 3) := by decide +kernel
theorem dX5_isNoPlace_12 : decode cX5_isNoPlace 12 = .ok (.iload_n 2, 1) := by decide +kernel
theorem dX5_isNoPlace_13 : decode cX5_isNoPlace 13 = .ok (.aload_n 0, 1) := by decide +kernel
theorem dX5_isNoPlace_14 : decode cX5_isNoPlace 14 = .ok (.getfield 41, 3) := by decide +kernel
theorem dX5_isNoPlace_17 : decode cX5_isNoPlace 17 = .ok (.iload_n 1, 1) := by decide +kernel
theorem dX5_isNoPlace_18 : decode cX5_isNoPlace 18 = .ok (.aaload, 1) := by decide +kernel
theorem dX5_isNoPlace_19 : decode cX5_isNoPlace 19 = .ok (.getfield 169, 3) := by decide +kernel
theorem dX5_isNoPlace_22 : decode cX5_isNoPlace 22 = .ok (.if_icmp .lt 7, 3) := by decide +kernel
theorem dX5_isNoPlace_25 : decode cX5_isNoPlace 25 = .ok (.iconst 1, 1) := by decide +kernel
theorem dX5_isNoPlace_26 : decode cX5_isNoPlace 26 = .ok (.goto 4, 3) := by decide +kernel
theorem dX5_isNoPlace_29 : decode cX5_isNoPlace 29 = .ok (.iconst 0, 1) := by decide +kernel
theorem dX5_isNoPlace_30 : decode cX5_isNoPlace 30 = .ok (.ireturn, 1) := by decide +kernel
theorem dX5_mixed_0 : decode cX5_mixed 0 = .ok (.lload_n 0, 1) := by decide +kernel
theorem dX5_mixed_1 : decode cX5_mixed 1 = .ok (.ldc2_w 245, 3) := by decide +kernel
theorem dX5_mixed_4 : decode cX5_mixed 4 = .ok (.lmul, 1) := by decide +kernel
theorem dX5_mixed_5 : decode cX5_mixed 5 = .ok (.iload_n 2, 1) := by decide +kernel
theorem dX5_mixed_6 : decode cX5_mixed 6 = .ok (.i2l, 1) := by decide +kernel
theorem dX5_mixed_7 : decode cX5_mixed 7 = .ok (.ladd, 1) := by decide +kernel
theorem dX5_mixed_8 : decode cX5_mixed 8 = .ok (.lreturn, 1) := by decide +kernel
theorem dX5_letterDistance_0 : decode cX5_letterDistance 0 = .ok (.aload_n 0, 1) := by decide +kernel
theorem dX5_letterDistance_1 : decode cX5_letterDistance 1 = .ok (.getfield 10, 3) := by decide +kernel
theorem dX5_letterDistance_4 : decode cX5_letterDistance 4 = .ok (.getfield 72, 3) := by decide +kernel
theorem dX5_letterDistance_7 : decode cX5_letterDistance 7 = .ok (.iload_n 1, 1) := by decide +kernel
theorem dX5_letterDistance_8 : decode cX5_letterDistance 8 = .ok (.iaload, 1) := by decide +kernel
theorem dX5_letterDistance_9 : decode cX5_letterDistance 9 = .ok (.ifCond .eq 15, 3) := by decide +kernel
theorem dX5_letterDistance_12 : decode cX5_letterDistance 12 = .ok (.aload_n 0, 1) := by decide +kernel
theorem dX5_letterDistance_13 : decode cX5_letterDistance 13 = .ok (.getfield 10, 3) := by decide +kernel
theorem dX5_letterDistance_16 : decode cX5_letterDistance 16 = .ok (.getfield 72, 3) := by decide +kernel
theorem dX5_letterDistance_19 : decode cX5_letterDistance 19 = .ok (.iload_n 2, 1) := by decide +kernel
theorem dX5_letterDistance_20 : decode cX5_letterDistance 20 = .ok (.iaload, 1) := by decide +kernel
theorem dX5_letterDistance_21 : decode cX5_letterDistance 21 = .ok (.ifCond .ne 5, 3) := by decide +kernel
theorem dX5_letterDistance_24 : decode cX5_letterDistance 24 = .ok (.iconst (-1), 1) := by decide +kernel
theorem dX5_letterDistance_25 : decode cX5_letterDistance 25 = .ok (.ireturn, 1) := by decide +kernel
theorem dX5_letterDistance_26 : decode cX5_letterDistance 26 = .ok (.aload_n 0, 1) := by decide +kernel
theorem dX5_letterDistance_27 : decode cX5_letterDistance 27 = .ok (.getfield 26, 3) := by decide +kernel
theorem dX5_letterDistance_30 : decode cX5_letterDistance 30 = .ok (.aload_n 0, 1) := by decide +kernel
theorem dX5_letterDistance_31 : decode cX5_letterDistance 31 = .ok (.getfield 10, 3) := by decide +kernel
theorem dX5_letterDistance_34 : decode cX5_letterDistance 34 = .ok (.getfield 247, 3) := by decide +kernel
theorem dX5_letterDistance_37 : decode cX5_letterDistance 37 = .ok (.iload_n 1, 1) := by decide +kernel
theorem dX5_letterDistance_38 : decode cX5_letterDistance 38 = .ok (.iconst 4, 1) := by decide +kernel
theorem dX5_letterDistance_39 : decode cX5_letterDistance 39 = .ok (.imul, 1) := by decide +kernel
theorem dX5_letterDistance_40 : decode cX5_letterDistance 40 = .ok (.aload_n 0, 1) := by decide +kernel
theorem dX5_letterDistance_41 : decode cX5_letterDistance 41 = .ok (.getfield 10, 3) := by decide +kernel
theorem dX5_letterDistance_44 : decode cX5_letterDistance 44 = .ok (.getfield 81, 3) := by decide +kernel
theorem dX5_letterDistance_47 : decode cX5_letterDistance 47 = .ok (.iload_n 1, 1) := by decide +kernel
theorem dX5_letterDistance_48 : decode cX5_letterDistance 48 = .ok (.iaload, 1) := by decide +kernel
theorem dX5_letterDistance_49 : decode cX5_letterDistance 49 = .ok (.aload_n 0, 1) := by decide +kernel
theorem dX5_letterDistance_50 : decode cX5_letterDistance 50 = .ok (.getfield 10, 3) := by decide +kernel
theorem dX5_letterDistance_53 : decode cX5_letterDistance 53 = .ok (.getfield 247, 3) := by decide +kernel
theorem dX5_letterDistance_56 : decode cX5_letterDistance 56 = .ok (.iload_n 2, 1) := by decide +kernel
theorem dX5_letterDistance_57 : decode cX5_letterDistance 57 = .ok (.iconst 4, 1) := by decide +kernel
theorem dX5_letterDistance_58 : decode cX5_letterDistance 58 = .ok (.imul, 1) := by decide +kernel
theorem dX5_letterDistance_59 : decode cX5_letterDistance 59 = .ok (.aload_n 0, 1) := by decide +kernel
theorem dX5_letterDistance_60 : decode cX5_letterDistance 60 = .ok (.getfield 10, 3) := by decide +kernel
theorem dX5_letterDistance_63 : decode cX5_letterDistance 63 = .ok (.getfield 81, 3) := by decide +kernel
theorem dX5_letterDistance_66 : decode cX5_letterDistance 66 = .ok (.iload_n 2, 1) := by decide +kernel
theorem dX5_letterDistance_67 : decode cX5_letterDistance 67 = .ok (.iaload, 1) := by decide +kernel
theorem dX5_letterDistance_68 : decode cX5_letterDistance 68 = .ok (.invokevirtual 250, 3) := by decide +kernel
theorem dX5_letterDistance_71 : decode cX5_letterDistance 71 = .ok (.ireturn, 1) := by decide +kernel
theorem dX5_cordDistance_0 : decode cX5_cordDistance 0 = .ok (.aload_n 0, 1) := by decide +kernel
theorem dX5_cordDistance_1 : decode cX5_cordDistance 1 = .ok (.getfield 26, 3) := by decide +kernel
theorem dX5_cordDistance_4 : decode cX5_cordDistance 4 = .ok (.aload_n 0, 1) := by decide +kernel
theorem dX5_cordDistance_5 : decode cX5_cordDistance 5 = .ok (.getfield 41, 3) := by decide +kernel
theorem dX5_cordDistance_8 : decode cX5_cordDistance 8 = .ok (.iload_n 1, 1) := by decide +kernel
theorem dX5_cordDistance_9 : decode cX5_cordDistance 9 = .ok (.aaload, 1) := by decide +kernel
theorem dX5_cordDistance_10 : decode cX5_cordDistance 10 = .ok (.getfield 199, 3) := by decide +kernel
theorem dX5_cordDistance_13 : decode cX5_cordDistance 13 = .ok (.iconst 0, 1) := by decide +kernel
theorem dX5_cordDistance_14 : decode cX5_cordDistance 14 = .ok (.aload_n 0, 1) := by decide +kernel
theorem dX5_cordDistance_15 : decode cX5_cordDistance 15 = .ok (.getfield 41, 3) := by decide +kernel
theorem dX5_cordDistance_18 : decode cX5_cordDistance 18 = .ok (.iload_n 1, 1) := by decide +kernel
theorem dX5_cordDistance_19 : decode cX5_cordDistance 19 = .ok (.aaload, 1) := by decide +kernel
theorem dX5_cordDistance_20 : decode cX5_cordDistance 20 = .ok (.getfield 169, 3) := by decide +kernel
theorem dX5_cordDistance_23 : decode cX5_cordDistance 23 = .ok (.aload_n 0, 1) := by decide +kernel
theorem dX5_cordDistance_24 : decode cX5_cordDistance 24 = .ok (.getfield 41, 3) := by decide +kernel
theorem dX5_cordDistance_27 : decode cX5_cordDistance 27 = .ok (.iload_n 2, 1) := by decide +kernel
theorem dX5_cordDistance_28 : decode cX5_cordDistance 28 = .ok (.aaload, 1) := by decide +kernel
theorem dX5_cordDistance_29 : decode cX5_cordDistance 29 = .ok (.getfield 199, 3) := by decide +kernel
theorem dX5_cordDistance_32 : decode cX5_cordDistance 32 = .ok (.iconst 0, 1) := by decide +kernel
theorem dX5_cordDistance_33 : decode cX5_cordDistance 33 = .ok (.aload_n 0, 1) := by decide +kernel
theorem dX5_cordDistance_34 : decode cX5_cordDistance 34 = .ok (.getfield 41, 3) := by decide +kernel
theorem dX5_cordDistance_37 : decode cX5_cordDistance 37 = .ok (.iload_n 2, 1) := by decide +kernel
theorem dX5_cordDistance_38 : decode cX5_cordDistance 38 = .ok (.aaload, 1) := by decide +kernel
theorem dX5_cordDistance_39 : decode cX5_cordDistance 39 = .ok (.getfield 169, 3) := by decide +kernel
theorem dX5_cordDistance_42 : decode cX5_cordDistance 42 = .ok (.invokevirtual 250, 3) := by decide +kernel
theorem dX5_cordDistance_45 : decode cX5_cordDistance 45 = .ok (.ireturn, 1) := by decide +kernel
theorem dX5_appendNumber_0 : decode cX5_appendNumber 0 = .ok (.bipush 24, 2) := by decide +kernel
theorem dX5_appendNumber_2 : decode cX5_appendNumber 2 = .ok (.istore_n 2, 1) := by decide +kernel
theorem dX5_appendNumber_3 : decode cX5_appendNumber 3 = .ok (.iload_n 2, 1) := by decide +kernel
theorem dX5_appendNumber_4 : decode cX5_appendNumber 4 = .ok (.ifCond .lt 44, 3) := by decide +kernel
theorem dX5_appendNumber_7 : decode cX5_appendNumber 7 = .ok (.aload_n 0, 1) := by decide +kernel
theorem dX5_appendNumber_8 : decode cX5_appendNumber 8 = .ok (.getfield 134, 3) := by decide +kernel
theorem dX5_appendNumber_11 : decode cX5_appendNumber 11 = .ok (.bipush 80, 2) := by decide +kernel
theorem dX5_appendNumber_13 : decode cX5_appendNumber 13 = .ok (.if_icmp .ge 29, 3) := by decide +kernel
theorem dX5_appendNumber_16 : decode cX5_appendNumber 16 = .ok (.aload_n 0, 1) := by decide +kernel
theorem dX5_appendNumber_17 : decode cX5_appendNumber 17 = .ok (.getfield 46, 3) := by decide +kernel
theorem dX5_appendNumber_20 : decode cX5_appendNumber 20 = .ok (.aload_n 0, 1) := by decide +kernel
theorem dX5_appendNumber_21 : decode cX5_appendNumber 21 = .ok (.getfield 134, 3) := by decide +kernel
theorem dX5_appendNumber_24 : decode cX5_appendNumber 24 = .ok (.iload_n 1, 1) := by decide +kernel
theorem dX5_appendNumber_25 : decode cX5_appendNumber 25 = .ok (.iload_n 2, 1) := by decide +kernel
theorem dX5_appendNumber_26 : decode cX5_appendNumber 26 = .ok (.iushr, 1) := by decide +kernel
theorem dX5_appendNumber_27 : decode cX5_appendNumber 27 = .ok (.sipush 255, 3) := by decide +kernel
theorem dX5_appendNumber_30 : decode cX5_appendNumber 30 = .ok (.iand, 1) := by decide +kernel
theorem dX5_appendNumber_31 : decode cX5_appendNumber 31 = .ok (.iastore, 1) := by decide +kernel
theorem dX5_appendNumber_32 : decode cX5_appendNumber 32 = .ok (.aload_n 0, 1) := by decide +kernel
theorem dX5_appendNumber_33 : decode cX5_appendNumber 33 = .ok (.dup, 1) := by decide +kernel
theorem dX5_appendNumber_34 : decode cX5_appendNumber 34 = .ok (.getfield 134, 3) := by decide +kernel
theorem dX5_appendNumber_37 : decode cX5_appendNumber 37 = .ok (.iconst 1, 1) := by decide +kernel
theorem dX5_appendNumber_38 : decode cX5_appendNumber 38 = .ok (.iadd, 1) := by decide +kernel
theorem dX5_appendNumber_39 : decode cX5_appendNumber 39 = .ok (.putfield 134, 3) := by decide +kernel
theorem dX5_appendNumber_42 : decode cX5_appendNumber 42 = .ok (.iinc 2 (-8), 3) := by decide +kernel
theorem dX5_appendNumber_45 : decode cX5_appendNumber 45 = .ok (.goto (-42), 3) := by decide +kernel
theorem dX5_appendNumber_48 : decode cX5_appendNumber 48 = .ok (.return_, 1) := by decide +kernel
theorem dX5_letterOfByte_0 : decode cX5_letterOfByte 0 = .ok (.iload_n 1, 1) := by decide +kernel
theorem dX5_letterOfByte_1 : decode cX5_letterOfByte 1 = .ok (.bipush 97, 2) := by decide +kernel
theorem dX5_letterOfByte_3 : decode cX5_letterOfByte 3 = .ok (.isub, 1) := by decide +kernel
theorem dX5_letterOfByte_4 : decode cX5_letterOfByte 4 = .ok (.istore_n 2, 1) := by decide +kernel
theorem dX5_letterOfByte_5 : decode cX5_letterOfByte 5 = .ok (.iload_n 2, 1) := by decide +kernel
theorem dX5_letterOfByte_6 : decode cX5_letterOfByte 6 = .ok (.invokestatic 53, 3) := by decide +kernel
theorem dX5_letterOfByte_9 : decode cX5_letterOfByte 9 = .ok (.ifCond .ne 15, 3) := by decide +kernel
theorem dX5_letterOfByte_12 : decode cX5_letterOfByte 12 = .ok (.aload_n 0, 1) := by decide +kernel
theorem dX5_letterOfByte_13 : decode cX5_letterOfByte 13 = .ok (.getfield 10, 3) := by decide +kernel
theorem dX5_letterOfByte_16 : decode cX5_letterOfByte 16 = .ok (.getfield 72, 3) := by decide +kernel
theorem dX5_letterOfByte_19 : decode cX5_letterOfByte 19 = .ok (.iload_n 2, 1) := by decide +kernel
theorem dX5_letterOfByte_20 : decode cX5_letterOfByte 20 = .ok (.iaload, 1) := by decide +kernel
theorem dX5_letterOfByte_21 : decode cX5_letterOfByte 21 = .ok (.ifCond .ne 7, 3) := by decide +kernel
theorem dX5_letterOfByte_24 : decode cX5_letterOfByte 24 = .ok (.iconst (-1), 1) := by decide +kernel
theorem dX5_letterOfByte_25 : decode cX5_letterOfByte 25 = .ok (.goto 4, 3) := by decide +kernel
theorem dX5_letterOfByte_28 : decode cX5_letterOfByte 28 = .ok (.iload_n 2, 1) := by decide +kernel
theorem dX5_letterOfByte_29 : decode cX5_letterOfByte 29 = .ok (.ireturn, 1) := by decide +kernel
theorem dX5_placesOnTape_0 : decode cX5_placesOnTape 0 = .ok (.iconst 0, 1) := by decide +kernel
theorem dX5_placesOnTape_1 : decode cX5_placesOnTape 1 = .ok (.istore_n 1, 1) := by decide +kernel
theorem dX5_placesOnTape_2 : decode cX5_placesOnTape 2 = .ok (.iconst 0, 1) := by decide +kernel
theorem dX5_placesOnTape_3 : decode cX5_placesOnTape 3 = .ok (.istore_n 2, 1) := by decide +kernel
theorem dX5_placesOnTape_4 : decode cX5_placesOnTape 4 = .ok (.iload_n 2, 1) := by decide +kernel
theorem dX5_placesOnTape_5 : decode cX5_placesOnTape 5 = .ok (.aload_n 0, 1) := by decide +kernel
theorem dX5_placesOnTape_6 : decode cX5_placesOnTape 6 = .ok (.getfield 134, 3) := by decide +kernel
theorem dX5_placesOnTape_9 : decode cX5_placesOnTape 9 = .ok (.if_icmp .ge 54, 3) := by decide +kernel
theorem dX5_placesOnTape_12 : decode cX5_placesOnTape 12 = .ok (.aload_n 0, 1) := by decide +kernel
theorem dX5_placesOnTape_13 : decode cX5_placesOnTape 13 = .ok (.aload_n 0, 1) := by decide +kernel
theorem dX5_placesOnTape_14 : decode cX5_placesOnTape 14 = .ok (.getfield 46, 3) := by decide +kernel
theorem dX5_placesOnTape_17 : decode cX5_placesOnTape 17 = .ok (.iload_n 2, 1) := by decide +kernel
theorem dX5_placesOnTape_18 : decode cX5_placesOnTape 18 = .ok (.iaload, 1) := by decide +kernel
theorem dX5_placesOnTape_19 : decode cX5_placesOnTape 19 = .ok (.invokevirtual 254, 3) := by decide +kernel
theorem dX5_placesOnTape_22 : decode cX5_placesOnTape 22 = .ok (.istore_n 3, 1) := by decide +kernel
theorem dX5_placesOnTape_23 : decode cX5_placesOnTape 23 = .ok (.iload_n 3, 1) := by decide +kernel
theorem dX5_placesOnTape_24 : decode cX5_placesOnTape 24 = .ok (.iconst (-1), 1) := by decide +kernel
theorem dX5_placesOnTape_25 : decode cX5_placesOnTape 25 = .ok (.if_icmp .eq 18, 3) := by decide +kernel
theorem dX5_placesOnTape_28 : decode cX5_placesOnTape 28 = .ok (.iload_n 1, 1) := by decide +kernel
theorem dX5_placesOnTape_29 : decode cX5_placesOnTape 29 = .ok (.aload_n 0, 1) := by decide +kernel
theorem dX5_placesOnTape_30 : decode cX5_placesOnTape 30 = .ok (.getfield 10, 3) := by decide +kernel
theorem dX5_placesOnTape_33 : decode cX5_placesOnTape 33 = .ok (.getfield 81, 3) := by decide +kernel
theorem dX5_placesOnTape_36 : decode cX5_placesOnTape 36 = .ok (.iload_n 3, 1) := by decide +kernel
theorem dX5_placesOnTape_37 : decode cX5_placesOnTape 37 = .ok (.iaload, 1) := by decide +kernel
theorem dX5_placesOnTape_38 : decode cX5_placesOnTape 38 = .ok (.iadd, 1) := by decide +kernel
theorem dX5_placesOnTape_39 : decode cX5_placesOnTape 39 = .ok (.istore_n 1, 1) := by decide +kernel
theorem dX5_placesOnTape_40 : decode cX5_placesOnTape 40 = .ok (.goto 17, 3) := by decide +kernel
theorem dX5_placesOnTape_43 : decode cX5_placesOnTape 43 = .ok (.aload_n 0, 1) := by decide +kernel
theorem dX5_placesOnTape_44 : decode cX5_placesOnTape 44 = .ok (.getfield 46, 3) := by decide +kernel
theorem dX5_placesOnTape_47 : decode cX5_placesOnTape 47 = .ok (.iload_n 2, 1) := by decide +kernel
theorem dX5_placesOnTape_48 : decode cX5_placesOnTape 48 = .ok (.iaload, 1) := by decide +kernel
theorem dX5_placesOnTape_49 : decode cX5_placesOnTape 49 = .ok (.bipush 32, 2) := by decide +kernel
theorem dX5_placesOnTape_51 : decode cX5_placesOnTape 51 = .ok (.if_icmp .ne 6, 3) := by decide +kernel
theorem dX5_placesOnTape_54 : decode cX5_placesOnTape 54 = .ok (.iinc 1 1, 3) := by decide +kernel
theorem dX5_placesOnTape_57 : decode cX5_placesOnTape 57 = .ok (.iinc 2 1, 3) := by decide +kernel
theorem dX5_placesOnTape_60 : decode cX5_placesOnTape 60 = .ok (.goto (-56), 3) := by decide +kernel
theorem dX5_placesOnTape_63 : decode cX5_placesOnTape 63 = .ok (.iload_n 1, 1) := by decide +kernel
theorem dX5_placesOnTape_64 : decode cX5_placesOnTape 64 = .ok (.ireturn, 1) := by decide +kernel
theorem dX5_isTapeText_0 : decode cX5_isTapeText 0 = .ok (.iconst 0, 1) := by decide +kernel
theorem dX5_isTapeText_1 : decode cX5_isTapeText 1 = .ok (.istore_n 1, 1) := by decide +kernel
theorem dX5_isTapeText_2 : decode cX5_isTapeText 2 = .ok (.iload_n 1, 1) := by decide +kernel
theorem dX5_isTapeText_3 : decode cX5_isTapeText 3 = .ok (.aload_n 0, 1) := by decide +kernel
theorem dX5_isTapeText_4 : decode cX5_isTapeText 4 = .ok (.getfield 134, 3) := by decide +kernel
theorem dX5_isTapeText_7 : decode cX5_isTapeText 7 = .ok (.if_icmp .ge 36, 3) := by decide +kernel
theorem dX5_isTapeText_10 : decode cX5_isTapeText 10 = .ok (.aload_n 0, 1) := by decide +kernel
theorem dX5_isTapeText_11 : decode cX5_isTapeText 11 = .ok (.getfield 46, 3) := by decide +kernel
theorem dX5_isTapeText_14 : decode cX5_isTapeText 14 = .ok (.iload_n 1, 1) := by decide +kernel
theorem dX5_isTapeText_15 : decode cX5_isTapeText 15 = .ok (.iaload, 1) := by decide +kernel
theorem dX5_isTapeText_16 : decode cX5_isTapeText 16 = .ok (.bipush 32, 2) := by decide +kernel
theorem dX5_isTapeText_18 : decode cX5_isTapeText 18 = .ok (.if_icmp .eq 19, 3) := by decide +kernel
theorem dX5_isTapeText_21 : decode cX5_isTapeText 21 = .ok (.aload_n 0, 1) := by decide +kernel
theorem dX5_isTapeText_22 : decode cX5_isTapeText 22 = .ok (.aload_n 0, 1) := by decide +kernel
theorem dX5_isTapeText_23 : decode cX5_isTapeText 23 = .ok (.getfield 46, 3) := by decide +kernel
theorem dX5_isTapeText_26 : decode cX5_isTapeText 26 = .ok (.iload_n 1, 1) := by decide +kernel
theorem dX5_isTapeText_27 : decode cX5_isTapeText 27 = .ok (.iaload, 1) := by decide +kernel
theorem dX5_isTapeText_28 : decode cX5_isTapeText 28 = .ok (.invokevirtual 254, 3) := by decide +kernel
theorem dX5_isTapeText_31 : decode cX5_isTapeText 31 = .ok (.iconst (-1), 1) := by decide +kernel
theorem dX5_isTapeText_32 : decode cX5_isTapeText 32 = .ok (.if_icmp .ne 5, 3) := by decide +kernel
theorem dX5_isTapeText_35 : decode cX5_isTapeText 35 = .ok (.iconst 0, 1) := by decide +kernel
theorem dX5_isTapeText_36 : decode cX5_isTapeText 36 = .ok (.ireturn, 1) := by decide +kernel
theorem dX5_isTapeText_37 : decode cX5_isTapeText 37 = .ok (.iinc 1 1, 3) := by decide +kernel
theorem dX5_isTapeText_40 : decode cX5_isTapeText 40 = .ok (.goto (-38), 3) := by decide +kernel
theorem dX5_isTapeText_43 : decode cX5_isTapeText 43 = .ok (.iconst 1, 1) := by decide +kernel
theorem dX5_isTapeText_44 : decode cX5_isTapeText 44 = .ok (.ireturn, 1) := by decide +kernel
theorem dX5_tieByte_0 : decode cX5_tieByte 0 = .ok (.aload_n 0, 1) := by decide +kernel
theorem dX5_tieByte_1 : decode cX5_tieByte 1 = .ok (.iload_n 2, 1) := by decide +kernel
theorem dX5_tieByte_2 : decode cX5_tieByte 2 = .ok (.invokevirtual 254, 3) := by decide +kernel
theorem dX5_tieByte_5 : decode cX5_tieByte 5 = .ok (.istore_n 3, 1) := by decide +kernel
theorem dX5_tieByte_6 : decode cX5_tieByte 6 = .ok (.iload_n 3, 1) := by decide +kernel
theorem dX5_tieByte_7 : decode cX5_tieByte 7 = .ok (.iconst (-1), 1) := by decide +kernel
theorem dX5_tieByte_8 : decode cX5_tieByte 8 = .ok (.if_icmp .ne 8, 3) := by decide +kernel
theorem dX5_tieByte_11 : decode cX5_tieByte 11 = .ok (.aload_n 1, 1) := by decide +kernel
theorem dX5_tieByte_12 : decode cX5_tieByte 12 = .ok (.invokevirtual 257, 3) := by decide +kernel
theorem dX5_tieByte_15 : decode cX5_tieByte 15 = .ok (.return_, 1) := by decide +kernel
theorem dX5_tieByte_16 : decode cX5_tieByte 16 = .ok (.aload_n 0, 1) := by decide +kernel
theorem dX5_tieByte_17 : decode cX5_tieByte 17 = .ok (.getfield 10, 3) := by decide +kernel
theorem dX5_tieByte_20 : decode cX5_tieByte 20 = .ok (.getfield 84, 3) := by decide +kernel
theorem dX5_tieByte_23 : decode cX5_tieByte 23 = .ok (.iload_n 3, 1) := by decide +kernel
theorem dX5_tieByte_24 : decode cX5_tieByte 24 = .ok (.dup2, 1) := by decide +kernel
theorem dX5_tieByte_25 : decode cX5_tieByte 25 = .ok (.iaload, 1) := by decide +kernel
theorem dX5_tieByte_26 : decode cX5_tieByte 26 = .ok (.iconst 1, 1) := by decide +kernel
theorem dX5_tieByte_27 : decode cX5_tieByte 27 = .ok (.iadd, 1) := by decide +kernel
theorem dX5_tieByte_28 : decode cX5_tieByte 28 = .ok (.iastore, 1) := by decide +kernel
theorem dX5_tieByte_29 : decode cX5_tieByte 29 = .ok (.iconst 0, 1) := by decide +kernel
theorem dX5_tieByte_30 : decode cX5_tieByte 30 = .ok (.istore 4, 2) := by decide +kernel
theorem dX5_tieByte_32 : decode cX5_tieByte 32 = .ok (.iload 4, 2) := by decide +kernel
theorem dX5_tieByte_34 : decode cX5_tieByte 34 = .ok (.aload_n 0, 1) := by decide +kernel
theorem dX5_tieByte_35 : decode cX5_tieByte 35 = .ok (.getfield 10, 3) := by decide +kernel
theorem dX5_tieByte_38 : decode cX5_tieByte 38 = .ok (.getfield 81, 3) := by decide +kernel
theorem dX5_tieByte_41 : decode cX5_tieByte 41 = .ok (.iload_n 3, 1) := by decide +kernel
theorem dX5_tieByte_42 : decode cX5_tieByte 42 = .ok (.iaload, 1) := by decide +kernel
theorem dX5_tieByte_43 : decode cX5_tieByte 43 = .ok (.if_icmp .ge 27, 3) := by decide +kernel
theorem dX5_tieByte_46 : decode cX5_tieByte 46 = .ok (.aload_n 0, 1) := by decide +kernel
theorem dX5_tieByte_47 : decode cX5_tieByte 47 = .ok (.getfield 19, 3) := by decide +kernel
theorem dX5_tieByte_50 : decode cX5_tieByte 50 = .ok (.aload_n 1, 1) := by decide +kernel
theorem dX5_tieByte_51 : decode cX5_tieByte 51 = .ok (.aload_n 0, 1) := by decide +kernel
theorem dX5_tieByte_52 : decode cX5_tieByte 52 = .ok (.getfield 10, 3) := by decide +kernel
theorem dX5_tieByte_55 : decode cX5_tieByte 55 = .ok (.iload_n 3, 1) := by decide +kernel
theorem dX5_tieByte_56 : decode cX5_tieByte 56 = .ok (.iload 4, 2) := by decide +kernel
theorem dX5_tieByte_58 : decode cX5_tieByte 58 = .ok (.invokevirtual 260, 3) := by decide +kernel
theorem dX5_tieByte_61 : decode cX5_tieByte 61 = .ok (.invokevirtual 263, 3) := by decide +kernel
theorem dX5_tieByte_64 : decode cX5_tieByte 64 = .ok (.iinc 4 1, 3) := by decide +kernel
theorem dX5_tieByte_67 : decode cX5_tieByte 67 = .ok (.goto (-35), 3) := by decide +kernel
theorem dX5_tieByte_70 : decode cX5_tieByte 70 = .ok (.return_, 1) := by decide +kernel
theorem dX6_init_0 : decode cX6_init 0 = .ok (.aload_n 0, 1) := by decide +kernel
theorem dX6_init_1 : decode cX6_init 1 = .ok (.invokespecial 1, 3) := by decide +kernel
theorem dX6_init_4 : decode cX6_init 4 = .ok (.aload_n 0, 1) := by decide +kernel
theorem dX6_init_5 : decode cX6_init 5 = .ok (.bipush 12, 2) := by decide +kernel
theorem dX6_init_7 : decode cX6_init 7 = .ok (.newarray .int, 2) := by decide +kernel
theorem dX6_init_9 : decode cX6_init 9 = .ok (.putfield 9, 3) := by decide +kernel
theorem dX6_init_12 : decode cX6_init 12 = .ok (.aload_n 0, 1) := by decide +kernel
theorem dX6_init_13 : decode cX6_init 13 = .ok (.bipush 12, 2) := by decide +kernel
theorem dX6_init_15 : decode cX6_init 15 = .ok (.newarray .int, 2) := by decide +kernel
theorem dX6_init_17 : decode cX6_init 17 = .ok (.putfield 13, 3) := by decide +kernel
theorem dX6_init_20 : decode cX6_init 20 = .ok (.aload_n 0, 1) := by decide +kernel
theorem dX6_init_21 : decode cX6_init 21 = .ok (.bipush 25, 2) := by decide +kernel
theorem dX6_init_23 : decode cX6_init 23 = .ok (.newarray .int, 2) := by decide +kernel
theorem dX6_init_25 : decode cX6_init 25 = .ok (.putfield 16, 3) := by decide +kernel
theorem dX6_init_28 : decode cX6_init 28 = .ok (.aload_n 0, 1) := by decide +kernel
theorem dX6_init_29 : decode cX6_init 29 = .ok (.iconst 4, 1) := by decide +kernel
theorem dX6_init_30 : decode cX6_init 30 = .ok (.putfield 19, 3) := by decide +kernel
theorem dX6_init_33 : decode cX6_init 33 = .ok (.aload_n 0, 1) := by decide +kernel
theorem dX6_init_34 : decode cX6_init 34 = .ok (.iconst 4, 1) := by decide +kernel
theorem dX6_init_35 : decode cX6_init 35 = .ok (.putfield 23, 3) := by decide +kernel
theorem dX6_init_38 : decode cX6_init 38 = .ok (.aload_n 0, 1) := by decide +kernel
theorem dX6_init_39 : decode cX6_init 39 = .ok (.bipush 10, 2) := by decide +kernel
theorem dX6_init_41 : decode cX6_init 41 = .ok (.newarray .int, 2) := by decide +kernel
theorem dX6_init_43 : decode cX6_init 43 = .ok (.putfield 26, 3) := by decide +kernel
theorem dX6_init_46 : decode cX6_init 46 = .ok (.aload_n 0, 1) := by decide +kernel
theorem dX6_init_47 : decode cX6_init 47 = .ok (.sipush 400, 3) := by decide +kernel
theorem dX6_init_50 : decode cX6_init 50 = .ok (.newarray .int, 2) := by decide +kernel
theorem dX6_init_52 : decode cX6_init 52 = .ok (.putfield 29, 3) := by decide +kernel
theorem dX6_init_55 : decode cX6_init 55 = .ok (.aload_n 0, 1) := by decide +kernel
theorem dX6_init_56 : decode cX6_init 56 = .ok (.bipush 10, 2) := by decide +kernel
theorem dX6_init_58 : decode cX6_init 58 = .ok (.newarray .int, 2) := by decide +kernel
theorem dX6_init_60 : decode cX6_init 60 = .ok (.putfield 32, 3) := by decide +kernel
theorem dX6_init_63 : decode cX6_init 63 = .ok (.aload_n 0, 1) := by decide +kernel
theorem dX6_init_64 : decode cX6_init 64 = .ok (.bipush 10, 2) := by decide +kernel
theorem dX6_init_66 : decode cX6_init 66 = .ok (.newarray .int, 2) := by decide +kernel
theorem dX6_init_68 : decode cX6_init 68 = .ok (.putfield 35, 3) := by decide +kernel
theorem dX6_init_71 : decode cX6_init 71 = .ok (.aload_n 0, 1) := by decide +kernel
theorem dX6_init_72 : decode cX6_init 72 = .ok (.bipush 80, 2) := by decide +kernel
theorem dX6_init_74 : decode cX6_init 74 = .ok (.newarray .int, 2) := by decide +kernel
theorem dX6_init_76 : decode cX6_init 76 = .ok (.putfield 38, 3) := by decide +kernel
theorem dX6_init_79 : decode cX6_init 79 = .ok (.aload_n 0, 1) := by decide +kernel
theorem dX6_init_80 : decode cX6_init 80 = .ok (.bipush 40, 2) := by decide +kernel
theorem dX6_init_82 : decode cX6_init 82 = .ok (.newarray .int, 2) := by decide +kernel
theorem dX6_init_84 : decode cX6_init 84 = .ok (.putfield 41, 3) := by decide +kernel
theorem dX6_init_87 : decode cX6_init 87 = .ok (.aload_n 0, 1) := by decide +kernel
theorem dX6_init_88 : decode cX6_init 88 = .ok (.bipush 41, 2) := by decide +kernel
theorem dX6_init_90 : decode cX6_init 90 = .ok (.newarray .int, 2) := by decide +kernel
theorem dX6_init_92 : decode cX6_init 92 = .ok (.putfield 44, 3) := by decide +kernel
theorem dX6_init_95 : decode cX6_init 95 = .ok (.aload_n 0, 1) := by decide +kernel
theorem dX6_init_96 : decode cX6_init 96 = .ok (.bipush 41, 2) := by decide +kernel
theorem dX6_init_98 : decode cX6_init 98 = .ok (.newarray .int, 2) := by decide +kernel
theorem dX6_init_100 : decode cX6_init 100 = .ok (.putfield 47, 3) := by decide +kernel
theorem dX6_init_103 : decode cX6_init 103 = .ok (.aload_n 0, 1) := by decide +kernel
theorem dX6_init_104 : decode cX6_init 104 = .ok (.bipush 41, 2) := by decide +kernel
theorem dX6_init_106 : decode cX6_init 106 = .ok (.newarray .int, 2) := by decide +kernel
theorem dX6_init_108 : decode cX6_init 108 = .ok (.putfield 50, 3) := by decide +kernel
theorem dX6_init_111 : decode cX6_init 111 = .ok (.aload_n 0, 1) := by decide +kernel
theorem dX6_init_112 : decode cX6_init 112 = .ok (.bipush 41, 2) := by decide +kernel
theorem dX6_init_114 : decode cX6_init 114 = .ok (.newarray .int, 2) := by decide +kernel
theorem dX6_init_116 : decode cX6_init 116 = .ok (.putfield 53, 3) := by decide +kernel
theorem dX6_init_119 : decode cX6_init 119 = .ok (.aload_n 0, 1) := by decide +kernel
theorem dX6_init_120 : decode cX6_init 120 = .ok (.bipush 41, 2) := by decide +kernel
theorem dX6_init_122 : decode cX6_init 122 = .ok (.newarray .int, 2) := by decide +kernel
theorem dX6_init_124 : decode cX6_init 124 = .ok (.putfield 56, 3) := by decide +kernel
theorem dX6_init_127 : decode cX6_init 127 = .ok (.iconst 0, 1) := by decide +kernel
theorem dX6_init_128 : decode cX6_init 128 = .ok (.istore_n 1, 1) := by decide +kernel
theorem dX6_init_129 : decode cX6_init 129 = .ok (.iload_n 1, 1) := by decide +kernel
theorem dX6_init_130 : decode cX6_init 130 = .ok (.bipush 25, 2) := by decide +kernel
theorem dX6_init_132 : decode cX6_init 132 = .ok (.if_icmp .ge 29, 3) := by decide +kernel
theorem dX6_init_135 : decode cX6_init 135 = .ok (.aload_n 0, 1) := by decide +kernel
theorem dX6_init_136 : decode cX6_init 136 = .ok (.getfield 16, 3) := by decide +kernel
theorem dX6_init_139 : decode cX6_init 139 = .ok (.iload_n 1, 1) := by decide +kernel
theorem dX6_init_140 : decode cX6_init 140 = .ok (.iload_n 1, 1) := by decide +kernel
theorem dX6_init_141 : decode cX6_init 141 = .ok (.iconst 5, 1) := by decide +kernel
theorem dX6_init_142 : decode cX6_init 142 = .ok (.idiv, 1) := by decide +kernel
theorem dX6_init_143 : decode cX6_init 143 = .ok (.iload_n 1, 1) := by decide +kernel
theorem dX6_init_144 : decode cX6_init 144 = .ok (.iconst 5, 1) := by decide +kernel
theorem dX6_init_145 : decode cX6_init 145 = .ok (.irem, 1) := by decide +kernel
theorem dX6_init_146 : decode cX6_init 146 = .ok (.if_icmp .ne 7, 3) := by decide +kernel
theorem dX6_init_149 : decode cX6_init 149 = .ok (.iconst 0, 1) := by decide +kernel
theorem dX6_init_150 : decode cX6_init 150 = .ok (.goto 4, 3) := by decide +kernel
theorem dX6_init_153 : decode cX6_init 153 = .ok (.iconst 3, 1) := by decide +kernel
theorem dX6_init_154 : decode cX6_init 154 = .ok (.iastore, 1) := by decide +kernel
theorem dX6_init_155 : decode cX6_init 155 = .ok (.iinc 1 1, 3) := by decide +kernel
theorem dX6_init_158 : decode cX6_init 158 = .ok (.goto (-29), 3) := by decide +kernel
theorem dX6_init_161 : decode cX6_init 161 = .ok (.return_, 1) := by decide +kernel
theorem dX6_thrown_0 : decode cX6_thrown 0 = .ok (.aload_n 0, 1) := by decide +kernel
theorem dX6_thrown_1 : decode cX6_thrown 1 = .ok (.getfield 59, 3) := by decide +kernel
theorem dX6_thrown_4 : decode cX6_thrown 4 = .ok (.ireturn, 1) := by decide +kernel
theorem dX6_no_0 : decode cX6_no 0 = .ok (.aload_n 0, 1) := by decide +kernel
theorem dX6_no_1 : decode cX6_no 1 = .ok (.iload_n 1, 1) := by decide +kernel
theorem dX6_no_2 : decode cX6_no 2 = .ok (.putfield 59, 3) := by decide +kernel
theorem dX6_no_5 : decode cX6_no 5 = .ok (.iconst 0, 1) := by decide +kernel
theorem dX6_no_6 : decode cX6_no 6 = .ok (.ireturn, 1) := by decide +kernel
theorem dX6_isIn_0 : decode cX6_isIn 0 = .ok (.iload_n 0, 1) := by decide +kernel
theorem dX6_isIn_1 : decode cX6_isIn 1 = .ok (.iload_n 1, 1) := by decide +kernel
theorem dX6_isIn_2 : decode cX6_isIn 2 = .ok (.if_icmp .lt 12, 3) := by decide +kernel
theorem dX6_isIn_5 : decode cX6_isIn 5 = .ok (.iload_n 0, 1) := by decide +kernel
theorem dX6_isIn_6 : decode cX6_isIn 6 = .ok (.iload_n 2, 1) := by decide +kernel
theorem dX6_isIn_7 : decode cX6_isIn 7 = .ok (.if_icmp .gt 7, 3) := by decide +kernel
theorem dX6_isIn_10 : decode cX6_isIn 10 = .ok (.iconst 1, 1) := by decide +kernel
theorem dX6_isIn_11 : decode cX6_isIn 11 = .ok (.goto 4, 3) := by decide +kernel
theorem dX6_isIn_14 : decode cX6_isIn 14 = .ok (.iconst 0, 1) := by decide +kernel
theorem dX6_isIn_15 : decode cX6_isIn 15 = .ok (.ireturn, 1) := by decide +kernel
theorem dX6_lengthOf_0 : decode cX6_lengthOf 0 = .ok (.iload_n 0, 1) := by decide +kernel
theorem dX6_lengthOf_1 : decode cX6_lengthOf 1 = .ok (.ifCond .ne 7, 3) := by decide +kernel
theorem dX6_lengthOf_4 : decode cX6_lengthOf 4 = .ok (.iconst 0, 1) := by decide +kernel
theorem dX6_lengthOf_5 : decode cX6_lengthOf 5 = .ok (.goto 12, 3) := by decide +kernel
theorem dX6_lengthOf_8 : decode cX6_lengthOf 8 = .ok (.iconst 1, 1) := by decide +kernel
theorem dX6_lengthOf_9 : decode cX6_lengthOf 9 = .ok (.iload_n 0, 1) := by decide +kernel
theorem dX6_lengthOf_10 : decode cX6_lengthOf 10 = .ok (.bipush 10, 2) := by decide +kernel
theorem dX6_lengthOf_12 : decode cX6_lengthOf 12 = .ok (.idiv, 1) := by decide +kernel
theorem dX6_lengthOf_13 : decode cX6_lengthOf 13 = .ok (.invokestatic 62, 3) := by decide +kernel
theorem dX6_lengthOf_16 : decode cX6_lengthOf 16 = .ok (.iadd, 1) := by decide +kernel
theorem dX6_lengthOf_17 : decode cX6_lengthOf 17 = .ok (.ireturn, 1) := by decide +kernel
theorem dX6_knotOf_0 : decode cX6_knotOf 0 = .ok (.iload_n 0, 1) := by decide +kernel
theorem dX6_knotOf_1 : decode cX6_knotOf 1 = .ok (.istore_n 2, 1) := by decide +kernel
theorem dX6_knotOf_2 : decode cX6_knotOf 2 = .ok (.iload_n 0, 1) := by decide +kernel
theorem dX6_knotOf_3 : decode cX6_knotOf 3 = .ok (.invokestatic 62, 3) := by decide +kernel
theorem dX6_knotOf_6 : decode cX6_knotOf 6 = .ok (.iconst 1, 1) := by decide +kernel
theorem dX6_knotOf_7 : decode cX6_knotOf 7 = .ok (.isub, 1) := by decide +kernel
theorem dX6_knotOf_8 : decode cX6_knotOf 8 = .ok (.istore_n 3, 1) := by decide +kernel
theorem dX6_knotOf_9 : decode cX6_knotOf 9 = .ok (.iload_n 3, 1) := by decide +kernel
theorem dX6_knotOf_10 : decode cX6_knotOf 10 = .ok (.iload_n 1, 1) := by decide +kernel
theorem dX6_knotOf_11 : decode cX6_knotOf 11 = .ok (.if_icmp .le 14, 3) := by decide +kernel
theorem dX6_knotOf_14 : decode cX6_knotOf 14 = .ok (.iload_n 2, 1) := by decide +kernel
theorem dX6_knotOf_15 : decode cX6_knotOf 15 = .ok (.bipush 10, 2) := by decide +kernel
theorem dX6_knotOf_17 : decode cX6_knotOf 17 = .ok (.idiv, 1) := by decide +kernel
theorem dX6_knotOf_18 : decode cX6_knotOf 18 = .ok (.istore_n 2, 1) := by decide +kernel
theorem dX6_knotOf_19 : decode cX6_knotOf 19 = .ok (.iinc 3 (-1), 3) := by decide +kernel
theorem dX6_knotOf_22 : decode cX6_knotOf 22 = .ok (.goto (-13), 3) := by decide +kernel
theorem dX6_knotOf_25 : decode cX6_knotOf 25 = .ok (.iload_n 2, 1) := by decide +kernel
theorem dX6_knotOf_26 : decode cX6_knotOf 26 = .ok (.bipush 10, 2) := by decide +kernel
theorem dX6_knotOf_28 : decode cX6_knotOf 28 = .ok (.irem, 1) := by decide +kernel
theorem dX6_knotOf_29 : decode cX6_knotOf 29 = .ok (.ireturn, 1) := by decide +kernel
theorem dX6_isRow_0 : decode cX6_isRow 0 = .ok (.iload_n 0, 1) := by decide +kernel
theorem dX6_isRow_1 : decode cX6_isRow 1 = .ok (.ifCond .lt 14, 3) := by decide +kernel
theorem dX6_isRow_4 : decode cX6_isRow 4 = .ok (.iload_n 0, 1) := by decide +kernel
theorem dX6_isRow_5 : decode cX6_isRow 5 = .ok (.sipush 10000, 3) := by decide +kernel
theorem dX6_isRow_8 : decode cX6_isRow 8 = .ok (.if_icmp .ge 7, 3) := by decide +kernel
theorem dX6_isRow_11 : decode cX6_isRow 11 = .ok (.iconst 1, 1) := by decide +kernel
theorem dX6_isRow_12 : decode cX6_isRow 12 = .ok (.goto 4, 3) := by decide +kernel
theorem dX6_isRow_15 : decode cX6_isRow 15 = .ok (.iconst 0, 1) := by decide +kernel
theorem dX6_isRow_16 : decode cX6_isRow 16 = .ok (.istore_n 1, 1) := by decide +kernel
theorem dX6_isRow_17 : decode cX6_isRow 17 = .ok (.iload_n 0, 1) := by decide +kernel
theorem dX6_isRow_18 : decode cX6_isRow 18 = .ok (.istore_n 2, 1) := by decide +kernel
theorem dX6_isRow_19 : decode cX6_isRow 19 = .ok (.iload_n 2, 1) := by decide +kernel
theorem dX6_isRow_20 : decode cX6_isRow 20 = .ok (.ifCond .le 25, 3) := by decide +kernel
theorem dX6_isRow_23 : decode cX6_isRow 23 = .ok (.iload_n 1, 1) := by decide +kernel
theorem dX6_isRow_24 : decode cX6_isRow 24 = .ok (.ifCond .eq 21, 3) := by decide +kernel
theorem dX6_isRow_27 : decode cX6_isRow 27 = .ok (.iload_n 2, 1) := by decide +kernel
theorem dX6_isRow_28 : decode cX6_isRow 28 = .ok (.bipush 10, 2) := by decide +kernel
theorem dX6_isRow_30 : decode cX6_isRow 30 = .ok (.irem, 1) := by decide +kernel
theorem dX6_isRow_31 : decode cX6_isRow 31 = .ok (.iconst 1, 1) := by decide +kernel
theorem dX6_isRow_32 : decode cX6_isRow 32 = .ok (.iconst 4, 1) := by decide +kernel
theorem dX6_isRow_33 : decode cX6_isRow 33 = .ok (.invokestatic 66, 3) := by decide +kernel
theorem dX6_isRow_36 : decode cX6_isRow 36 = .ok (.istore_n 1, 1) := by decide +kernel
theorem dX6_isRow_37 : decode cX6_isRow 37 = .ok (.iload_n 2, 1) := by decide +kernel
theorem dX6_isRow_38 : decode cX6_isRow 38 = .ok (.bipush 10, 2) := by decide +kernel
theorem dX6_isRow_40 : decode cX6_isRow 40 = .ok (.idiv, 1) := by decide +kernel
theorem dX6_isRow_41 : decode cX6_isRow 41 = .ok (.istore_n 2, 1) := by decide +kernel
theorem dX6_isRow_42 : decode cX6_isRow 42 = .ok (.goto (-23), 3) := by decide +kernel
theorem dX6_isRow_45 : decode cX6_isRow 45 = .ok (.iload_n 1, 1) := by decide +kernel
theorem dX6_isRow_46 : decode cX6_isRow 46 = .ok (.ireturn, 1) := by decide +kernel
theorem dX6_setLetter_0 : decode cX6_setLetter 0 = .ok (.aload_n 0, 1) := by decide +kernel
theorem dX6_setLetter_1 : decode cX6_setLetter 1 = .ok (.iconst 0, 1) := by decide +kernel
theorem dX6_setLetter_2 : decode cX6_setLetter 2 = .ok (.putfield 59, 3) := by decide +kernel
theorem dX6_setLetter_5 : decode cX6_setLetter 5 = .ok (.iload_n 1, 1) := by decide +kernel
theorem dX6_setLetter_6 : decode cX6_setLetter 6 = .ok (.iconst 0, 1) := by decide +kernel
theorem dX6_setLetter_7 : decode cX6_setLetter 7 = .ok (.bipush 11, 2) := by decide +kernel
theorem dX6_setLetter_9 : decode cX6_setLetter 9 = .ok (.invokestatic 66, 3) := by decide +kernel
theorem dX6_setLetter_12 : decode cX6_setLetter 12 = .ok (.ifCond .ne 9, 3) := by decide +kernel
theorem dX6_setLetter_15 : decode cX6_setLetter 15 = .ok (.aload_n 0, 1) := by decide +kernel
theorem dX6_setLetter_16 : decode cX6_setLetter 16 = .ok (.iconst 1, 1) := by decide +kernel
theorem dX6_setLetter_17 : decode cX6_setLetter 17 = .ok (.invokevirtual 70, 3) := by decide +kernel
theorem dX6_setLetter_20 : decode cX6_setLetter 20 = .ok (.ireturn, 1) := by decide +kernel
theorem dX6_setLetter_21 : decode cX6_setLetter 21 = .ok (.iload_n 2, 1) := by decide +kernel
theorem dX6_setLetter_22 : decode cX6_setLetter 22 = .ok (.invokestatic 73, 3) := by decide +kernel
theorem dX6_setLetter_25 : decode cX6_setLetter 25 = .ok (.ifCond .ne 9, 3) := by decide +kernel
theorem dX6_setLetter_28 : decode cX6_setLetter 28 = .ok (.aload_n 0, 1) := by decide +kernel
theorem dX6_setLetter_29 : decode cX6_setLetter 29 = .ok (.iconst 2, 1) := by decide +kernel
theorem dX6_setLetter_30 : decode cX6_setLetter 30 = .ok (.invokevirtual 70, 3) := by decide +kernel
theorem dX6_setLetter_33 : decode cX6_setLetter 33 = .ok (.ireturn, 1) := by decide +kernel
theorem dX6_setLetter_34 : decode cX6_setLetter 34 = .ok (.aload_n 0, 1) := by decide +kernel
theorem dX6_setLetter_35 : decode cX6_setLetter 35 = .ok (.getfield 9, 3) := by decide +kernel
theorem dX6_setLetter_38 : decode cX6_setLetter 38 = .ok (.iload_n 1, 1) := by decide +kernel
theorem dX6_setLetter_39 : decode cX6_setLetter 39 = .ok (.iaload, 1) := by decide +kernel
theorem dX6_setLetter_40 : decode cX6_setLetter 40 = .ok (.istore_n 3, 1) := by decide +kernel
theorem dX6_setLetter_41 : decode cX6_setLetter 41 = .ok (.aload_n 0, 1) := by decide +kernel
theorem dX6_setLetter_42 : decode cX6_setLetter 42 = .ok (.getfield 9, 3) := by decide +kernel
theorem dX6_setLetter_45 : decode cX6_setLetter 45 = .ok (.iload_n 1, 1) := by decide +kernel
theorem dX6_setLetter_46 : decode cX6_setLetter 46 = .ok (.iload_n 2, 1) := by decide +kernel
theorem dX6_setLetter_47 : decode cX6_setLetter 47 = .ok (.iastore, 1) := by decide +kernel
theorem dX6_setLetter_48 : decode cX6_setLetter 48 = .ok (.iload_n 3, 1) := by decide +kernel
theorem dX6_setLetter_49 : decode cX6_setLetter 49 = .ok (.ireturn, 1) := by decide +kernel
theorem dX6_letterTold_0 : decode cX6_letterTold 0 = .ok (.iload_n 2, 1) := by decide +kernel
theorem dX6_letterTold_1 : decode cX6_letterTold 1 = .ok (.ifCond .ne 12, 3) := by decide +kernel
theorem dX6_letterTold_4 : decode cX6_letterTold 4 = .ok (.aload_n 0, 1) := by decide +kernel
theorem dX6_letterTold_5 : decode cX6_letterTold 5 = .ok (.getfield 9, 3) := by decide +kernel
theorem dX6_letterTold_8 : decode cX6_letterTold 8 = .ok (.iload_n 1, 1) := by decide +kernel
theorem dX6_letterTold_9 : decode cX6_letterTold 9 = .ok (.iaload, 1) := by decide +kernel
theorem dX6_letterTold_10 : decode cX6_letterTold 10 = .ok (.goto 26, 3) := by decide +kernel
theorem dX6_letterTold_13 : decode cX6_letterTold 13 = .ok (.iload_n 2, 1) := by decide +kernel
theorem dX6_letterTold_14 : decode cX6_letterTold 14 = .ok (.iconst 1, 1) := by decide +kernel
theorem dX6_letterTold_15 : decode cX6_letterTold 15 = .ok (.if_icmp .ne 15, 3) := by decide +kernel
theorem dX6_letterTold_18 : decode cX6_letterTold 18 = .ok (.aload_n 0, 1) := by decide +kernel
theorem dX6_letterTold_19 : decode cX6_letterTold 19 = .ok (.getfield 9, 3) := by decide +kernel
theorem dX6_letterTold_22 : decode cX6_letterTold 22 = .ok (.iload_n 1, 1) := by decide +kernel
theorem dX6_letterTold_23 : decode cX6_letterTold 23 = .ok (.iaload, 1) := by decide +kernel
theorem dX6_letterTold_24 : decode cX6_letterTold 24 = .ok (.invokestatic 62, 3) := by decide +kernel
theorem dX6_letterTold_27 : decode cX6_letterTold 27 = .ok (.goto 9, 3) := by decide +kernel
theorem dX6_letterTold_30 : decode cX6_letterTold 30 = .ok (.aload_n 0, 1) := by decide +kernel
theorem dX6_letterTold_31 : decode cX6_letterTold 31 = .ok (.getfield 13, 3) := by decide +kernel
theorem dX6_letterTold_34 : decode cX6_letterTold 34 = .ok (.iload_n 1, 1) := by decide +kernel
theorem dX6_letterTold_35 : decode cX6_letterTold 35 = .ok (.iaload, 1) := by decide +kernel
theorem dX6_letterTold_36 : decode cX6_letterTold 36 = .ok (.ireturn, 1) := by decide +kernel
theorem dX6_letter_0 : decode cX6_letter 0 = .ok (.aload_n 0, 1) := by decide +kernel
theorem dX6_letter_1 : decode cX6_letter 1 = .ok (.iconst 0, 1) := by decide +kernel
theorem dX6_letter_2 : decode cX6_letter 2 = .ok (.putfield 59, 3) := by decide +kernel
theorem dX6_letter_5 : decode cX6_letter 5 = .ok (.iload_n 1, 1) := by decide +kernel
theorem dX6_letter_6 : decode cX6_letter 6 = .ok (.iconst 0, 1) := by decide +kernel
theorem dX6_letter_7 : decode cX6_letter 7 = .ok (.bipush 11, 2) := by decide +kernel
theorem dX6_letter_9 : decode cX6_letter 9 = .ok (.invokestatic 66, 3) := by decide +kernel
theorem dX6_letter_12 : decode cX6_letter 12 = .ok (.ifCond .eq 21, 3) := by decide +kernel
theorem dX6_letter_15 : decode cX6_letter 15 = .ok (.iload_n 2, 1) := by decide +kernel
theorem dX6_letter_16 : decode cX6_letter 16 = .ok (.iconst 0, 1) := by decide +kernel
theorem dX6_letter_17 : decode cX6_letter 17 = .ok (.iconst 2, 1) := by decide +kernel
theorem dX6_letter_18 : decode cX6_letter 18 = .ok (.invokestatic 66, 3) := by decide +kernel
theorem dX6_letter_21 : decode cX6_letter 21 = .ok (.ifCond .eq 12, 3) := by decide +kernel
theorem dX6_letter_24 : decode cX6_letter 24 = .ok (.aload_n 0, 1) := by decide +kernel
theorem dX6_letter_25 : decode cX6_letter 25 = .ok (.iload_n 1, 1) := by decide +kernel
theorem dX6_letter_26 : decode cX6_letter 26 = .ok (.iload_n 2, 1) := by decide +kernel
theorem dX6_letter_27 : decode cX6_letter 27 = .ok (.invokevirtual 77, 3) := by decide +kernel
theorem dX6_letter_30 : decode cX6_letter 30 = .ok (.goto 8, 3) := by decide +kernel
theorem dX6_letter_33 : decode cX6_letter 33 = .ok (.aload_n 0, 1) := by decide +kernel
theorem dX6_letter_34 : decode cX6_letter 34 = .ok (.iconst 1, 1) := by decide +kernel
theorem dX6_letter_35 : decode cX6_letter 35 = .ok (.invokevirtual 70, 3) := by decide +kernel
theorem dX6_letter_38 : decode cX6_letter 38 = .ok (.ireturn, 1) := by decide +kernel
theorem dX6_begins_0 : decode cX6_begins 0 = .ok (.iload_n 1, 1) := by decide +kernel
theorem dX6_begins_1 : decode cX6_begins 1 = .ok (.istore_n 2, 1) := by decide +kernel
theorem dX6_begins_2 : decode cX6_begins 2 = .ok (.iload_n 2, 1) := by decide +kernel
theorem dX6_begins_3 : decode cX6_begins 3 = .ok (.invokestatic 62, 3) := by decide +kernel
theorem dX6_begins_6 : decode cX6_begins 6 = .ok (.iload_n 0, 1) := by decide +kernel
theorem dX6_begins_7 : decode cX6_begins 7 = .ok (.invokestatic 62, 3) := by decide +kernel
theorem dX6_begins_10 : decode cX6_begins 10 = .ok (.if_icmp .le 11, 3) := by decide +kernel
theorem dX6_begins_13 : decode cX6_begins 13 = .ok (.iload_n 2, 1) := by decide +kernel
theorem dX6_begins_14 : decode cX6_begins 14 = .ok (.bipush 10, 2) := by decide +kernel
theorem dX6_begins_16 : decode cX6_begins 16 = .ok (.idiv, 1) := by decide +kernel
theorem dX6_begins_17 : decode cX6_begins 17 = .ok (.istore_n 2, 1) := by decide +kernel
theorem dX6_begins_18 : decode cX6_begins 18 = .ok (.goto (-16), 3) := by decide +kernel
theorem dX6_begins_21 : decode cX6_begins 21 = .ok (.iload_n 2, 1) := by decide +kernel
theorem dX6_begins_22 : decode cX6_begins 22 = .ok (.iload_n 0, 1) := by decide +kernel
theorem dX6_begins_23 : decode cX6_begins 23 = .ok (.if_icmp .ne 7, 3) := by decide +kernel
theorem dX6_begins_26 : decode cX6_begins 26 = .ok (.iconst 1, 1) := by decide +kernel
theorem dX6_begins_27 : decode cX6_begins 27 = .ok (.goto 4, 3) := by decide +kernel
theorem dX6_begins_30 : decode cX6_begins 30 = .ok (.iconst 0, 1) := by decide +kernel
theorem dX6_begins_31 : decode cX6_begins 31 = .ok (.ireturn, 1) := by decide +kernel
theorem dX6_isFree_0 : decode cX6_isFree 0 = .ok (.aload_n 0, 1) := by decide +kernel
theorem dX6_isFree_1 : decode cX6_isFree 1 = .ok (.iconst 0, 1) := by decide +kernel
theorem dX6_isFree_2 : decode cX6_isFree 2 = .ok (.putfield 59, 3) := by decide +kernel
theorem dX6_isFree_5 : decode cX6_isFree 5 = .ok (.iconst 1, 1) := by decide +kernel
theorem dX6_isFree_6 : decode cX6_isFree 6 = .ok (.istore_n 1, 1) := by decide +kernel
theorem dX6_isFree_7 : decode cX6_isFree 7 = .ok (.iconst 0, 1) := by decide +kernel
theorem dX6_isFree_8 : decode cX6_isFree 8 = .ok (.istore_n 2, 1) := by decide +kernel
theorem dX6_isFree_9 : decode cX6_isFree 9 = .ok (.iload_n 2, 1) := by decide +kernel
theorem dX6_isFree_10 : decode cX6_isFree 10 = .ok (.bipush 12, 2) := by decide +kernel
theorem dX6_isFree_12 : decode cX6_isFree 12 = .ok (.if_icmp .ge 74, 3) := by decide +kernel
theorem dX6_isFree_15 : decode cX6_isFree 15 = .ok (.iconst 0, 1) := by decide +kernel
theorem dX6_isFree_16 : decode cX6_isFree 16 = .ok (.istore_n 3, 1) := by decide +kernel
theorem dX6_isFree_17 : decode cX6_isFree 17 = .ok (.iload_n 3, 1) := by decide +kernel
theorem dX6_isFree_18 : decode cX6_isFree 18 = .ok (.bipush 12, 2) := by decide +kernel
theorem dX6_isFree_20 : decode cX6_isFree 20 = .ok (.if_icmp .ge 60, 3) := by decide +kernel
theorem dX6_isFree_23 : decode cX6_isFree 23 = .ok (.iload_n 1, 1) := by decide +kernel
theorem dX6_isFree_24 : decode cX6_isFree 24 = .ok (.ifCond .eq 48, 3) := by decide +kernel
theorem dX6_isFree_27 : decode cX6_isFree 27 = .ok (.iload_n 2, 1) := by decide +kernel
theorem dX6_isFree_28 : decode cX6_isFree 28 = .ok (.iload_n 3, 1) := by decide +kernel
theorem dX6_isFree_29 : decode cX6_isFree 29 = .ok (.if_icmp .eq 39, 3) := by decide +kernel
theorem dX6_isFree_32 : decode cX6_isFree 32 = .ok (.aload_n 0, 1) := by decide +kernel
theorem dX6_isFree_33 : decode cX6_isFree 33 = .ok (.getfield 9, 3) := by decide +kernel
theorem dX6_isFree_36 : decode cX6_isFree 36 = .ok (.iload_n 2, 1) := by decide +kernel
theorem dX6_isFree_37 : decode cX6_isFree 37 = .ok (.iaload, 1) := by decide +kernel
theorem dX6_isFree_38 : decode cX6_isFree 38 = .ok (.ifCond .eq 30, 3) := by decide +kernel
theorem dX6_isFree_41 : decode cX6_isFree 41 = .ok (.aload_n 0, 1) := by decide +kernel
theorem dX6_isFree_42 : decode cX6_isFree 42 = .ok (.getfield 9, 3) := by decide +kernel
theorem dX6_isFree_45 : decode cX6_isFree 45 = .ok (.iload_n 3, 1) := by decide +kernel
theorem dX6_isFree_46 : decode cX6_isFree 46 = .ok (.iaload, 1) := by decide +kernel
theorem dX6_isFree_47 : decode cX6_isFree 47 = .ok (.ifCond .eq 21, 3) := by decide +kernel
theorem dX6_isFree_50 : decode cX6_isFree 50 = .ok (.aload_n 0, 1) := by decide +kernel
theorem dX6_isFree_51 : decode cX6_isFree 51 = .ok (.getfield 9, 3) := by decide +kernel
theorem dX6_isFree_54 : decode cX6_isFree 54 = .ok (.iload_n 2, 1) := by decide +kernel
theorem dX6_isFree_55 : decode cX6_isFree 55 = .ok (.iaload, 1) := by decide +kernel
theorem dX6_isFree_56 : decode cX6_isFree 56 = .ok (.aload_n 0, 1) := by decide +kernel
theorem dX6_isFree_57 : decode cX6_isFree 57 = .ok (.getfield 9, 3) := by decide +kernel
theorem dX6_isFree_60 : decode cX6_isFree 60 = .ok (.iload_n 3, 1) := by decide +kernel
theorem dX6_isFree_61 : decode cX6_isFree 61 = .ok (.iaload, 1) := by decide +kernel
theorem dX6_isFree_62 : decode cX6_isFree 62 = .ok (.invokestatic 81, 3) := by decide +kernel
theorem dX6_isFree_65 : decode cX6_isFree 65 = .ok (.ifCond .ne 7, 3) := by decide +kernel
theorem dX6_isFree_68 : decode cX6_isFree 68 = .ok (.iconst 1, 1) := by decide +kernel
theorem dX6_isFree_69 : decode cX6_isFree 69 = .ok (.goto 4, 3) := by decide +kernel
theorem dX6_isFree_72 : decode cX6_isFree 72 = .ok (.iconst 0, 1) := by decide +kernel
theorem dX6_isFree_73 : decode cX6_isFree 73 = .ok (.istore_n 1, 1) := by decide +kernel
theorem dX6_isFree_74 : decode cX6_isFree 74 = .ok (.iinc 3 1, 3) := by decide +kernel
theorem dX6_isFree_77 : decode cX6_isFree 77 = .ok (.goto (-60), 3) := by decide +kernel
theorem dX6_isFree_80 : decode cX6_isFree 80 = .ok (.iinc 2 1, 3) := by decide +kernel
theorem dX6_isFree_83 : decode cX6_isFree 83 = .ok (.goto (-74), 3) := by decide +kernel
theorem dX6_isFree_86 : decode cX6_isFree 86 = .ok (.iload_n 1, 1) := by decide +kernel
theorem dX6_isFree_87 : decode cX6_isFree 87 = .ok (.ireturn, 1) := by decide +kernel
theorem dX6_over_0 : decode cX6_over 0 = .ok (.aload_n 0, 1) := by decide +kernel
theorem dX6_over_1 : decode cX6_over 1 = .ok (.getfield 9, 3) := by decide +kernel
theorem dX6_over_4 : decode cX6_over 4 = .ok (.iload_n 1, 1) := by decide +kernel
theorem dX6_over_5 : decode cX6_over 5 = .ok (.iaload, 1) := by decide +kernel
theorem dX6_over_6 : decode cX6_over 6 = .ok (.invokestatic 62, 3) := by decide +kernel
theorem dX6_over_9 : decode cX6_over 9 = .ok (.iload_n 2, 1) := by decide +kernel
theorem dX6_over_10 : decode cX6_over 10 = .ok (.isub, 1) := by decide +kernel
theorem dX6_over_11 : decode cX6_over 11 = .ok (.istore 4, 2) := by decide +kernel
theorem dX6_over_13 : decode cX6_over 13 = .ok (.aload_n 0, 1) := by decide +kernel
theorem dX6_over_14 : decode cX6_over 14 = .ok (.getfield 9, 3) := by decide +kernel
theorem dX6_over_17 : decode cX6_over 17 = .ok (.iload_n 3, 1) := by decide +kernel
theorem dX6_over_18 : decode cX6_over 18 = .ok (.iaload, 1) := by decide +kernel
theorem dX6_over_19 : decode cX6_over 19 = .ok (.invokestatic 62, 3) := by decide +kernel
theorem dX6_over_22 : decode cX6_over 22 = .ok (.istore 5, 2) := by decide +kernel
theorem dX6_over_24 : decode cX6_over 24 = .ok (.iconst 0, 1) := by decide +kernel
theorem dX6_over_25 : decode cX6_over 25 = .ok (.istore 6, 2) := by decide +kernel
theorem dX6_over_27 : decode cX6_over 27 = .ok (.iload 6, 2) := by decide +kernel
theorem dX6_over_29 : decode cX6_over 29 = .ok (.iload 4, 2) := by decide +kernel
theorem dX6_over_31 : decode cX6_over 31 = .ok (.iload 5, 2) := by decide +kernel
theorem dX6_over_33 : decode cX6_over 33 = .ok (.invokestatic 85, 3) := by decide +kernel
theorem dX6_over_36 : decode cX6_over 36 = .ok (.if_icmp .ge 38, 3) := by decide +kernel
theorem dX6_over_39 : decode cX6_over 39 = .ok (.aload_n 0, 1) := by decide +kernel
theorem dX6_over_40 : decode cX6_over 40 = .ok (.getfield 9, 3) := by decide +kernel
theorem dX6_over_43 : decode cX6_over 43 = .ok (.iload_n 1, 1) := by decide +kernel
theorem dX6_over_44 : decode cX6_over 44 = .ok (.iaload, 1) := by decide +kernel
theorem dX6_over_45 : decode cX6_over 45 = .ok (.iload_n 2, 1) := by decide +kernel
theorem dX6_over_46 : decode cX6_over 46 = .ok (.iload 6, 2) := by decide +kernel
theorem dX6_over_48 : decode cX6_over 48 = .ok (.iadd, 1) := by decide +kernel
theorem dX6_over_49 : decode cX6_over 49 = .ok (.invokestatic 90, 3) := by decide +kernel
theorem dX6_over_52 : decode cX6_over 52 = .ok (.aload_n 0, 1) := by decide +kernel
theorem dX6_over_53 : decode cX6_over 53 = .ok (.getfield 9, 3) := by decide +kernel
theorem dX6_over_56 : decode cX6_over 56 = .ok (.iload_n 3, 1) := by decide +kernel
theorem dX6_over_57 : decode cX6_over 57 = .ok (.iaload, 1) := by decide +kernel
theorem dX6_over_58 : decode cX6_over 58 = .ok (.iload 6, 2) := by decide +kernel
theorem dX6_over_60 : decode cX6_over 60 = .ok (.invokestatic 90, 3) := by decide +kernel
theorem dX6_over_63 : decode cX6_over 63 = .ok (.if_icmp .eq 5, 3) := by decide +kernel
theorem dX6_over_66 : decode cX6_over 66 = .ok (.iconst (-1), 1) := by decide +kernel
theorem dX6_over_67 : decode cX6_over 67 = .ok (.ireturn, 1) := by decide +kernel
theorem dX6_over_68 : decode cX6_over 68 = .ok (.iinc 6 1, 3) := by decide +kernel
theorem dX6_over_71 : decode cX6_over 71 = .ok (.goto (-44), 3) := by decide +kernel
theorem dX6_over_74 : decode cX6_over 74 = .ok (.iload 4, 2) := by decide +kernel
theorem dX6_over_76 : decode cX6_over 76 = .ok (.iload 5, 2) := by decide +kernel
theorem dX6_over_78 : decode cX6_over 78 = .ok (.if_icmp .ne 8, 3) := by decide +kernel
theorem dX6_over_81 : decode cX6_over 81 = .ok (.bipush (-2), 2) := by decide +kernel
theorem dX6_over_83 : decode cX6_over 83 = .ok (.goto 27, 3) := by decide +kernel
theorem dX6_over_86 : decode cX6_over 86 = .ok (.iload 4, 2) := by decide +kernel
theorem dX6_over_88 : decode cX6_over 88 = .ok (.iload 5, 2) := by decide +kernel
theorem dX6_over_90 : decode cX6_over 90 = .ok (.if_icmp .le 14, 3) := by decide +kernel
theorem dX6_over_93 : decode cX6_over 93 = .ok (.iconst 4, 1) := by decide +kernel
theorem dX6_over_94 : decode cX6_over 94 = .ok (.iload_n 1, 1) := by decide +kernel
theorem dX6_over_95 : decode cX6_over 95 = .ok (.imul, 1) := by decide +kernel
theorem dX6_over_96 : decode cX6_over 96 = .ok (.iload_n 2, 1) := by decide +kernel
theorem dX6_over_97 : decode cX6_over 97 = .ok (.iadd, 1) := by decide +kernel
theorem dX6_over_98 : decode cX6_over 98 = .ok (.iload 5, 2) := by decide +kernel
theorem dX6_over_100 : decode cX6_over 100 = .ok (.iadd, 1) := by decide +kernel
theorem dX6_over_101 : decode cX6_over 101 = .ok (.goto 9, 3) := by decide +kernel
theorem dX6_over_104 : decode cX6_over 104 = .ok (.iconst 4, 1) := by decide +kernel
theorem dX6_over_105 : decode cX6_over 105 = .ok (.iload_n 3, 1) := by decide +kernel
theorem dX6_over_106 : decode cX6_over 106 = .ok (.imul, 1) := by decide +kernel
theorem dX6_over_107 : decode cX6_over 107 = .ok (.iload 4, 2) := by decide +kernel
theorem dX6_over_109 : decode cX6_over 109 = .ok (.iadd, 1) := by decide +kernel
theorem dX6_over_110 : decode cX6_over 110 = .ok (.ireturn, 1) := by decide +kernel
theorem dX6_isClear_0 : decode cX6_isClear 0 = .ok (.aload_n 0, 1) := by decide +kernel
theorem dX6_isClear_1 : decode cX6_isClear 1 = .ok (.iconst 0, 1) := by decide +kernel
theorem dX6_isClear_2 : decode cX6_isClear 2 = .ok (.putfield 59, 3) := by decide +kernel
theorem dX6_isClear_5 : decode cX6_isClear 5 = .ok (.bipush 48, 2) := by decide +kernel
theorem dX6_isClear_7 : decode cX6_isClear 7 = .ok (.newarray .boolean, 2) := by decide +kernel
theorem dX6_isClear_9 : decode cX6_isClear 9 = .ok (.astore_n 1, 1) := by decide +kernel
theorem dX6_isClear_10 : decode cX6_isClear 10 = .ok (.bipush 48, 2) := by decide +kernel
theorem dX6_isClear_12 : decode cX6_isClear 12 = .ok (.newarray .int, 2) := by decide +kernel
theorem dX6_isClear_14 : decode cX6_isClear 14 = .ok (.astore_n 2, 1) := by decide +kernel
theorem dX6_isClear_15 : decode cX6_isClear 15 = .ok (.iconst 0, 1) := by decide +kernel
theorem dX6_isClear_16 : decode cX6_isClear 16 = .ok (.istore_n 3, 1) := by decide +kernel
theorem dX6_isClear_17 : decode cX6_isClear 17 = .ok (.iconst 0, 1) := by decide +kernel
theorem dX6_isClear_18 : decode cX6_isClear 18 = .ok (.istore 4, 2) := by decide +kernel
theorem dX6_isClear_20 : decode cX6_isClear 20 = .ok (.iload 4, 2) := by decide +kernel
theorem dX6_isClear_22 : decode cX6_isClear 22 = .ok (.bipush 12, 2) := by decide +kernel
theorem dX6_isClear_24 : decode cX6_isClear 24 = .ok (.if_icmp .ge 100, 3) := by decide +kernel
theorem dX6_isClear_27 : decode cX6_isClear 27 = .ok (.iload 4, 2) := by decide +kernel
theorem dX6_isClear_29 : decode cX6_isClear 29 = .ok (.iconst 1, 1) := by decide +kernel
theorem dX6_isClear_30 : decode cX6_isClear 30 = .ok (.iadd, 1) := by decide +kernel
theorem dX6_isClear_31 : decode cX6_isClear 31 = .ok (.istore 5, 2) := by decide +kernel
theorem dX6_isClear_33 : decode cX6_isClear 33 = .ok (.iload 5, 2) := by decide +kernel
theorem dX6_isClear_35 : decode cX6_isClear 35 = .ok (.bipush 12, 2) := by decide +kernel
theorem dX6_isClear_37 : decode cX6_isClear 37 = .ok (.if_icmp .ge 81, 3) := by decide +kernel
theorem dX6_isClear_40 : decode cX6_isClear 40 = .ok (.aload_n 0, 1) := by decide +kernel
theorem dX6_isClear_41 : decode cX6_isClear 41 = .ok (.getfield 9, 3) := by decide +kernel
theorem dX6_isClear_44 : decode cX6_isClear 44 = .ok (.iload 4, 2) := by decide +kernel
theorem dX6_isClear_46 : decode cX6_isClear 46 = .ok (.iaload, 1) := by decide +kernel
theorem dX6_isClear_47 : decode cX6_isClear 47 = .ok (.ifCond .eq 65, 3) := by decide +kernel
theorem dX6_isClear_50 : decode cX6_isClear 50 = .ok (.aload_n 0, 1) := by decide +kernel
theorem dX6_isClear_51 : decode cX6_isClear 51 = .ok (.getfield 9, 3) := by decide +kernel
theorem dX6_isClear_54 : decode cX6_isClear 54 = .ok (.iload 5, 2) := by decide +kernel
theorem dX6_isClear_56 : decode cX6_isClear 56 = .ok (.iaload, 1) := by decide +kernel
theorem dX6_isClear_57 : decode cX6_isClear 57 = .ok (.ifCond .ne 6, 3) := by decide +kernel
theorem dX6_isClear_60 : decode cX6_isClear 60 = .ok (.goto 52, 3) := by decide +kernel
theorem dX6_isClear_63 : decode cX6_isClear 63 = .ok (.aload_n 0, 1) := by decide +kernel
theorem dX6_isClear_64 : decode cX6_isClear 64 = .ok (.iload 4, 2) := by decide +kernel
theorem dX6_isClear_66 : decode cX6_isClear 66 = .ok (.iconst 0, 1) := by decide +kernel
theorem dX6_isClear_67 : decode cX6_isClear 67 = .ok (.iload 5, 2) := by decide +kernel
theorem dX6_isClear_69 : decode cX6_isClear 69 = .ok (.invokevirtual 93, 3) := by decide +kernel
theorem dX6_isClear_72 : decode cX6_isClear 72 = .ok (.istore 6, 2) := by decide +kernel
theorem dX6_isClear_74 : decode cX6_isClear 74 = .ok (.iload 6, 2) := by decide +kernel
theorem dX6_isClear_76 : decode cX6_isClear 76 = .ok (.bipush (-2), 2) := by decide +kernel
theorem dX6_isClear_78 : decode cX6_isClear 78 = .ok (.if_icmp .ne 5, 3) := by decide +kernel
theorem dX6_isClear_81 : decode cX6_isClear 81 = .ok (.iconst 0, 1) := by decide +kernel
theorem dX6_isClear_82 : decode cX6_isClear 82 = .ok (.ireturn, 1) := by decide +kernel
theorem dX6_isClear_83 : decode cX6_isClear 83 = .ok (.iload 6, 2) := by decide +kernel
theorem dX6_isClear_85 : decode cX6_isClear 85 = .ok (.iconst (-1), 1) := by decide +kernel
theorem dX6_isClear_86 : decode cX6_isClear 86 = .ok (.if_icmp .eq 26, 3) := by decide +kernel
theorem dX6_isClear_89 : decode cX6_isClear 89 = .ok (.aload_n 1, 1) := by decide +kernel
theorem dX6_isClear_90 : decode cX6_isClear 90 = .ok (.iload 6, 2) := by decide +kernel
theorem dX6_isClear_92 : decode cX6_isClear 92 = .ok (.baload, 1) := by decide +kernel
theorem dX6_isClear_93 : decode cX6_isClear 93 = .ok (.ifCond .eq 6, 3) := by decide +kernel
theorem dX6_isClear_96 : decode cX6_isClear 96 = .ok (.goto 16, 3) := by decide +kernel
theorem dX6_isClear_99 : decode cX6_isClear 99 = .ok (.aload_n 1, 1) := by decide +kernel
theorem dX6_isClear_100 : decode cX6_isClear 100 = .ok (.iload 6, 2) := by decide +kernel
theorem dX6_isClear_102 : decode cX6_isClear 102 = .ok (.iconst 1, 1) := by decide +kernel
theorem dX6_isClear_103 : decode cX6_isClear 103 = .ok (.bastore, 1) := by decide +kernel
theorem dX6_isClear_104 : decode cX6_isClear 104 = .ok (.aload_n 2, 1) := by decide +kernel
theorem dX6_isClear_105 : decode cX6_isClear 105 = .ok (.iload_n 3, 1) := by decide +kernel
theorem dX6_isClear_106 : decode cX6_isClear 106 = .ok (.iload 6, 2) := by decide +kernel
theorem dX6_isClear_108 : decode cX6_isClear 108 = .ok (.iastore, 1) := by decide +kernel
theorem dX6_isClear_109 : decode cX6_isClear 109 = .ok (.iinc 3 1, 3) := by decide +kernel
theorem dX6_isClear_112 : decode cX6_isClear 112 = .ok (.iinc 5 1, 3) := by decide +kernel
theorem dX6_isClear_115 : decode cX6_isClear 115 = .ok (.goto (-82), 3) := by decide +kernel
theorem dX6_isClear_118 : decode cX6_isClear 118 = .ok (.iinc 4 1, 3) := by decide +kernel
theorem dX6_isClear_121 : decode cX6_isClear 121 = .ok (.goto (-101), 3) := by decide +kernel
theorem dX6_isClear_124 : decode cX6_isClear 124 = .ok (.iconst 0, 1) := by decide +kernel
theorem dX6_isClear_125 : decode cX6_isClear 125 = .ok (.istore 4, 2) := by decide +kernel
theorem dX6_isClear_127 : decode cX6_isClear 127 = .ok (.iload 4, 2) := by decide +kernel
theorem dX6_isClear_129 : decode cX6_isClear 129 = .ok (.iload_n 3, 1) := by decide +kernel
theorem dX6_isClear_130 : decode cX6_isClear 130 = .ok (.if_icmp .ge 96, 3) := by decide +kernel
theorem dX6_isClear_133 : decode cX6_isClear 133 = .ok (.iconst 0, 1) := by decide +kernel
theorem dX6_isClear_134 : decode cX6_isClear 134 = .ok (.istore 5, 2) := by decide +kernel
theorem dX6_isClear_136 : decode cX6_isClear 136 = .ok (.iload 5, 2) := by decide +kernel
theorem dX6_isClear_138 : decode cX6_isClear 138 = .ok (.bipush 12, 2) := by decide +kernel
theorem dX6_isClear_140 : decode cX6_isClear 140 = .ok (.if_icmp .ge 80, 3) := by decide +kernel
theorem dX6_isClear_143 : decode cX6_isClear 143 = .ok (.aload_n 0, 1) := by decide +kernel
theorem dX6_isClear_144 : decode cX6_isClear 144 = .ok (.getfield 9, 3) := by decide +kernel
theorem dX6_isClear_147 : decode cX6_isClear 147 = .ok (.iload 5, 2) := by decide +kernel
theorem dX6_isClear_149 : decode cX6_isClear 149 = .ok (.iaload, 1) := by decide +kernel
theorem dX6_isClear_150 : decode cX6_isClear 150 = .ok (.ifCond .ne 6, 3) := by decide +kernel
theorem dX6_isClear_153 : decode cX6_isClear 153 = .ok (.goto 61, 3) := by decide +kernel
theorem dX6_isClear_156 : decode cX6_isClear 156 = .ok (.aload_n 0, 1) := by decide +kernel
theorem dX6_isClear_157 : decode cX6_isClear 157 = .ok (.aload_n 2, 1) := by decide +kernel
theorem dX6_isClear_158 : decode cX6_isClear 158 = .ok (.iload 4, 2) := by decide +kernel
theorem dX6_isClear_160 : decode cX6_isClear 160 = .ok (.iaload, 1) := by decide +kernel
theorem dX6_isClear_161 : decode cX6_isClear 161 = .ok (.iconst 4, 1) := by decide +kernel
theorem dX6_isClear_162 : decode cX6_isClear 162 = .ok (.idiv, 1) := by decide +kernel
theorem dX6_isClear_163 : decode cX6_isClear 163 = .ok (.aload_n 2, 1) := by decide +kernel
theorem dX6_isClear_164 : decode cX6_isClear 164 = .ok (.iload 4, 2) := by decide +kernel
theorem dX6_isClear_166 : decode cX6_isClear 166 = .ok (.iaload, 1) := by decide +kernel
theorem dX6_isClear_167 : decode cX6_isClear 167 = .ok (.iconst 4, 1) := by decide +kernel
theorem dX6_isClear_168 : decode cX6_isClear 168 = .ok (.irem, 1) := by decide +kernel
theorem dX6_isClear_169 : decode cX6_isClear 169 = .ok (.iload 5, 2) := by decide +kernel
theorem dX6_isClear_171 : decode cX6_isClear 171 = .ok (.invokevirtual 93, 3) := by decide +kernel
theorem dX6_isClear_174 : decode cX6_isClear 174 = .ok (.istore 6, 2) := by decide +kernel
theorem dX6_isClear_176 : decode cX6_isClear 176 = .ok (.iload 6, 2) := by decide +kernel
theorem dX6_isClear_178 : decode cX6_isClear 178 = .ok (.bipush (-2), 2) := by decide +kernel
theorem dX6_isClear_180 : decode cX6_isClear 180 = .ok (.if_icmp .ne 5, 3) := by decide +kernel
theorem dX6_isClear_183 : decode cX6_isClear 183 = .ok (.iconst 0, 1) := by decide +kernel
theorem dX6_isClear_184 : decode cX6_isClear 184 = .ok (.ireturn, 1) := by decide +kernel
theorem dX6_isClear_185 : decode cX6_isClear 185 = .ok (.iload 6, 2) := by decide +kernel
theorem dX6_isClear_187 : decode cX6_isClear 187 = .ok (.iconst (-1), 1) := by decide +kernel
theorem dX6_isClear_188 : decode cX6_isClear 188 = .ok (.if_icmp .eq 26, 3) := by decide +kernel
theorem dX6_isClear_191 : decode cX6_isClear 191 = .ok (.aload_n 1, 1) := by decide +kernel
theorem dX6_isClear_192 : decode cX6_isClear 192 = .ok (.iload 6, 2) := by decide +kernel
theorem dX6_isClear_194 : decode cX6_isClear 194 = .ok (.baload, 1) := by decide +kernel
theorem dX6_isClear_195 : decode cX6_isClear 195 = .ok (.ifCond .eq 6, 3) := by decide +kernel
theorem dX6_isClear_198 : decode cX6_isClear 198 = .ok (.goto 16, 3) := by decide +kernel
theorem dX6_isClear_201 : decode cX6_isClear 201 = .ok (.aload_n 1, 1) := by decide +kernel
theorem dX6_isClear_202 : decode cX6_isClear 202 = .ok (.iload 6, 2) := by decide +kernel
theorem dX6_isClear_204 : decode cX6_isClear 204 = .ok (.iconst 1, 1) := by decide +kernel
theorem dX6_isClear_205 : decode cX6_isClear 205 = .ok (.bastore, 1) := by decide +kernel
theorem dX6_isClear_206 : decode cX6_isClear 206 = .ok (.aload_n 2, 1) := by decide +kernel
theorem dX6_isClear_207 : decode cX6_isClear 207 = .ok (.iload_n 3, 1) := by decide +kernel
theorem dX6_isClear_208 : decode cX6_isClear 208 = .ok (.iload 6, 2) := by decide +kernel
theorem dX6_isClear_210 : decode cX6_isClear 210 = .ok (.iastore, 1) := by decide +kernel
theorem dX6_isClear_211 : decode cX6_isClear 211 = .ok (.iinc 3 1, 3) := by decide +kernel
theorem dX6_isClear_214 : decode cX6_isClear 214 = .ok (.iinc 5 1, 3) := by decide +kernel
theorem dX6_isClear_217 : decode cX6_isClear 217 = .ok (.goto (-81), 3) := by decide +kernel
theorem dX6_isClear_220 : decode cX6_isClear 220 = .ok (.iinc 4 1, 3) := by decide +kernel
theorem dX6_isClear_223 : decode cX6_isClear 223 = .ok (.goto (-96), 3) := by decide +kernel
theorem dX6_isClear_226 : decode cX6_isClear 226 = .ok (.iconst 1, 1) := by decide +kernel
theorem dX6_isClear_227 : decode cX6_isClear 227 = .ok (.ireturn, 1) := by decide +kernel
theorem dX6_lay_0 : decode cX6_lay 0 = .ok (.iconst 0, 1) := by decide +kernel
theorem dX6_lay_1 : decode cX6_lay 1 = .ok (.istore 4, 2) := by decide +kernel
theorem dX6_lay_3 : decode cX6_lay 3 = .ok (.iload 4, 2) := by decide +kernel
theorem dX6_lay_5 : decode cX6_lay 5 = .ok (.iload_n 3, 1) := by decide +kernel
theorem dX6_lay_6 : decode cX6_lay 6 = .ok (.iload_n 2, 1) := by decide +kernel
theorem dX6_lay_7 : decode cX6_lay 7 = .ok (.isub, 1) := by decide +kernel
theorem dX6_lay_8 : decode cX6_lay 8 = .ok (.if_icmp .gt 23, 3) := by decide +kernel
theorem dX6_lay_11 : decode cX6_lay 11 = .ok (.aload_n 0, 1) := by decide +kernel
theorem dX6_lay_12 : decode cX6_lay 12 = .ok (.getfield 56, 3) := by decide +kernel
theorem dX6_lay_15 : decode cX6_lay 15 = .ok (.iload 4, 2) := by decide +kernel
theorem dX6_lay_17 : decode cX6_lay 17 = .ok (.iload 4, 2) := by decide +kernel
theorem dX6_lay_19 : decode cX6_lay 19 = .ok (.aload_n 0, 1) := by decide +kernel
theorem dX6_lay_20 : decode cX6_lay 20 = .ok (.getfield 23, 3) := by decide +kernel
theorem dX6_lay_23 : decode cX6_lay 23 = .ok (.imul, 1) := by decide +kernel
theorem dX6_lay_24 : decode cX6_lay 24 = .ok (.iastore, 1) := by decide +kernel
theorem dX6_lay_25 : decode cX6_lay 25 = .ok (.iinc 4 1, 3) := by decide +kernel
theorem dX6_lay_28 : decode cX6_lay 28 = .ok (.goto (-25), 3) := by decide +kernel
theorem dX6_lay_31 : decode cX6_lay 31 = .ok (.iconst 0, 1) := by decide +kernel
theorem dX6_lay_32 : decode cX6_lay 32 = .ok (.istore 4, 2) := by decide +kernel
theorem dX6_lay_34 : decode cX6_lay 34 = .ok (.iload 4, 2) := by decide +kernel
theorem dX6_lay_36 : decode cX6_lay 36 = .ok (.iload_n 1, 1) := by decide +kernel
theorem dX6_lay_37 : decode cX6_lay 37 = .ok (.invokestatic 62, 3) := by decide +kernel
theorem dX6_lay_40 : decode cX6_lay 40 = .ok (.if_icmp .ge 127, 3) := by decide +kernel
theorem dX6_lay_43 : decode cX6_lay 43 = .ok (.aload_n 0, 1) := by decide +kernel
theorem dX6_lay_44 : decode cX6_lay 44 = .ok (.getfield 56, 3) := by decide +kernel
theorem dX6_lay_47 : decode cX6_lay 47 = .ok (.iconst 0, 1) := by decide +kernel
theorem dX6_lay_48 : decode cX6_lay 48 = .ok (.iaload, 1) := by decide +kernel
theorem dX6_lay_49 : decode cX6_lay 49 = .ok (.istore 5, 2) := by decide +kernel
theorem dX6_lay_51 : decode cX6_lay 51 = .ok (.aload_n 0, 1) := by decide +kernel
theorem dX6_lay_52 : decode cX6_lay 52 = .ok (.getfield 56, 3) := by decide +kernel
theorem dX6_lay_55 : decode cX6_lay 55 = .ok (.iconst 0, 1) := by decide +kernel
theorem dX6_lay_56 : decode cX6_lay 56 = .ok (.dup2, 1) := by decide +kernel
theorem dX6_lay_57 : decode cX6_lay 57 = .ok (.iaload, 1) := by decide +kernel
theorem dX6_lay_58 : decode cX6_lay 58 = .ok (.aload_n 0, 1) := by decide +kernel
theorem dX6_lay_59 : decode cX6_lay 59 = .ok (.getfield 19, 3) := by decide +kernel
theorem dX6_lay_62 : decode cX6_lay 62 = .ok (.iadd, 1) := by decide +kernel
theorem dX6_lay_63 : decode cX6_lay 63 = .ok (.iastore, 1) := by decide +kernel
theorem dX6_lay_64 : decode cX6_lay 64 = .ok (.iconst 1, 1) := by decide +kernel
theorem dX6_lay_65 : decode cX6_lay 65 = .ok (.istore 6, 2) := by decide +kernel
theorem dX6_lay_67 : decode cX6_lay 67 = .ok (.iload 6, 2) := by decide +kernel
theorem dX6_lay_69 : decode cX6_lay 69 = .ok (.iload_n 3, 1) := by decide +kernel
theorem dX6_lay_70 : decode cX6_lay 70 = .ok (.iload_n 2, 1) := by decide +kernel
theorem dX6_lay_71 : decode cX6_lay 71 = .ok (.isub, 1) := by decide +kernel
theorem dX6_lay_72 : decode cX6_lay 72 = .ok (.if_icmp .gt 89, 3) := by decide +kernel
theorem dX6_lay_75 : decode cX6_lay 75 = .ok (.iload 5, 2) := by decide +kernel
theorem dX6_lay_77 : decode cX6_lay 77 = .ok (.aload_n 0, 1) := by decide +kernel
theorem dX6_lay_78 : decode cX6_lay 78 = .ok (.getfield 16, 3) := by decide +kernel
theorem dX6_lay_81 : decode cX6_lay 81 = .ok (.iconst 5, 1) := by decide +kernel
theorem dX6_lay_82 : decode cX6_lay 82 = .ok (.iload_n 1, 1) := by decide +kernel
theorem dX6_lay_83 : decode cX6_lay 83 = .ok (.iload 4, 2) := by decide +kernel
theorem dX6_lay_85 : decode cX6_lay 85 = .ok (.invokestatic 90, 3) := by decide +kernel
theorem dX6_lay_88 : decode cX6_lay 88 = .ok (.imul, 1) := by decide +kernel
theorem dX6_lay_89 : decode cX6_lay 89 = .ok (.aload_n 0, 1) := by decide +kernel
theorem dX6_lay_90 : decode cX6_lay 90 = .ok (.getfield 29, 3) := by decide +kernel
theorem dX6_lay_93 : decode cX6_lay 93 = .ok (.iload_n 2, 1) := by decide +kernel
theorem dX6_lay_94 : decode cX6_lay 94 = .ok (.iload 6, 2) := by decide +kernel
theorem dX6_lay_96 : decode cX6_lay 96 = .ok (.iadd, 1) := by decide +kernel
theorem dX6_lay_97 : decode cX6_lay 97 = .ok (.iconst 1, 1) := by decide +kernel
theorem dX6_lay_98 : decode cX6_lay 98 = .ok (.isub, 1) := by decide +kernel
theorem dX6_lay_99 : decode cX6_lay 99 = .ok (.iaload, 1) := by decide +kernel
theorem dX6_lay_100 : decode cX6_lay 100 = .ok (.iadd, 1) := by decide +kernel
theorem dX6_lay_101 : decode cX6_lay 101 = .ok (.iaload, 1) := by decide +kernel
theorem dX6_lay_102 : decode cX6_lay 102 = .ok (.iadd, 1) := by decide +kernel
theorem dX6_lay_103 : decode cX6_lay 103 = .ok (.aload_n 0, 1) := by decide +kernel
theorem dX6_lay_104 : decode cX6_lay 104 = .ok (.getfield 56, 3) := by decide +kernel
theorem dX6_lay_107 : decode cX6_lay 107 = .ok (.iload 6, 2) := by decide +kernel
theorem dX6_lay_109 : decode cX6_lay 109 = .ok (.iaload, 1) := by decide +kernel
theorem dX6_lay_110 : decode cX6_lay 110 = .ok (.aload_n 0, 1) := by decide +kernel
theorem dX6_lay_111 : decode cX6_lay 111 = .ok (.getfield 19, 3) := by decide +kernel
theorem dX6_lay_114 : decode cX6_lay 114 = .ok (.iadd, 1) := by decide +kernel
theorem dX6_lay_115 : decode cX6_lay 115 = .ok (.aload_n 0, 1) := by decide +kernel
theorem dX6_lay_116 : decode cX6_lay 116 = .ok (.getfield 56, 3) := by decide +kernel
theorem dX6_lay_119 : decode cX6_lay 119 = .ok (.iload 6, 2) := by decide +kernel
theorem dX6_lay_121 : decode cX6_lay 121 = .ok (.iconst 1, 1) := by decide +kernel
theorem dX6_lay_122 : decode cX6_lay 122 = .ok (.isub, 1) := by decide +kernel
theorem dX6_lay_123 : decode cX6_lay 123 = .ok (.iaload, 1) := by decide +kernel
theorem dX6_lay_124 : decode cX6_lay 124 = .ok (.aload_n 0, 1) := by decide +kernel
theorem dX6_lay_125 : decode cX6_lay 125 = .ok (.getfield 23, 3) := by decide +kernel
theorem dX6_lay_128 : decode cX6_lay 128 = .ok (.iadd, 1) := by decide +kernel
theorem dX6_lay_129 : decode cX6_lay 129 = .ok (.invokestatic 85, 3) := by decide +kernel
theorem dX6_lay_132 : decode cX6_lay 132 = .ok (.invokestatic 85, 3) := by decide +kernel
theorem dX6_lay_135 : decode cX6_lay 135 = .ok (.istore 7, 2) := by decide +kernel
theorem dX6_lay_137 : decode cX6_lay 137 = .ok (.aload_n 0, 1) := by decide +kernel
theorem dX6_lay_138 : decode cX6_lay 138 = .ok (.getfield 56, 3) := by decide +kernel
theorem dX6_lay_141 : decode cX6_lay 141 = .ok (.iload 6, 2) := by decide +kernel
theorem dX6_lay_143 : decode cX6_lay 143 = .ok (.iaload, 1) := by decide +kernel
theorem dX6_lay_144 : decode cX6_lay 144 = .ok (.istore 5, 2) := by decide +kernel
theorem dX6_lay_146 : decode cX6_lay 146 = .ok (.aload_n 0, 1) := by decide +kernel
theorem dX6_lay_147 : decode cX6_lay 147 = .ok (.getfield 56, 3) := by decide +kernel
theorem dX6_lay_150 : decode cX6_lay 150 = .ok (.iload 6, 2) := by decide +kernel
theorem dX6_lay_152 : decode cX6_lay 152 = .ok (.iload 7, 2) := by decide +kernel
theorem dX6_lay_154 : decode cX6_lay 154 = .ok (.iastore, 1) := by decide +kernel
theorem dX6_lay_155 : decode cX6_lay 155 = .ok (.iinc 6 1, 3) := by decide +kernel
theorem dX6_lay_158 : decode cX6_lay 158 = .ok (.goto (-91), 3) := by decide +kernel
theorem dX6_lay_161 : decode cX6_lay 161 = .ok (.iinc 4 1, 3) := by decide +kernel
theorem dX6_lay_164 : decode cX6_lay 164 = .ok (.goto (-130), 3) := by decide +kernel
theorem dX6_lay_167 : decode cX6_lay 167 = .ok (.return_, 1) := by decide +kernel
theorem dX6_apart_0 : decode cX6_apart 0 = .ok (.aload_n 0, 1) := by decide +kernel
end
section
theorem dX6_apart_1 : decode cX6_apart 1 = .ok (.getfield 9, 3) := by decide +kernel
theorem dX6_apart_4 : decode cX6_apart 4 = .ok (.iload_n 1, 1) := by decide +kernel
theorem dX6_apart_5 : decode cX6_apart 5 = .ok (.iaload, 1) := by decide +kernel
theorem dX6_apart_6 : decode cX6_apart 6 = .ok (.invokestatic 62, 3) := by decide +kernel
theorem dX6_apart_9 : decode cX6_apart 9 = .ok (.istore_n 3, 1) := by decide +kernel
theorem dX6_apart_10 : decode cX6_apart 10 = .ok (.aload_n 0, 1) := by decide +kernel
theorem dX6_apart_11 : decode cX6_apart 11 = .ok (.getfield 9, 3) := by decide +kernel
theorem dX6_apart_14 : decode cX6_apart 14 = .ok (.iload_n 2, 1) := by decide +kernel
theorem dX6_apart_15 : decode cX6_apart 15 = .ok (.iaload, 1) := by decide +kernel
theorem dX6_apart_16 : decode cX6_apart 16 = .ok (.invokestatic 62, 3) := by decide +kernel
theorem dX6_apart_19 : decode cX6_apart 19 = .ok (.iconst 1, 1) := by decide +kernel
theorem dX6_apart_20 : decode cX6_apart 20 = .ok (.iadd, 1) := by decide +kernel
theorem dX6_apart_21 : decode cX6_apart 21 = .ok (.istore 4, 2) := by decide +kernel
theorem dX6_apart_23 : decode cX6_apart 23 = .ok (.bipush 25, 2) := by decide +kernel
theorem dX6_apart_25 : decode cX6_apart 25 = .ok (.newarray .int, 2) := by decide +kernel
theorem dX6_apart_27 : decode cX6_apart 27 = .ok (.astore 5, 2) := by decide +kernel
theorem dX6_apart_29 : decode cX6_apart 29 = .ok (.iconst 0, 1) := by decide +kernel
theorem dX6_apart_30 : decode cX6_apart 30 = .ok (.istore 6, 2) := by decide +kernel
theorem dX6_apart_32 : decode cX6_apart 32 = .ok (.iload 6, 2) := by decide +kernel
theorem dX6_apart_34 : decode cX6_apart 34 = .ok (.iload_n 3, 1) := by decide +kernel
theorem dX6_apart_35 : decode cX6_apart 35 = .ok (.if_icmp .gt 178, 3) := by decide +kernel
theorem dX6_apart_38 : decode cX6_apart 38 = .ok (.iconst 0, 1) := by decide +kernel
theorem dX6_apart_39 : decode cX6_apart 39 = .ok (.istore 7, 2) := by decide +kernel
theorem dX6_apart_41 : decode cX6_apart 41 = .ok (.iload 7, 2) := by decide +kernel
theorem dX6_apart_43 : decode cX6_apart 43 = .ok (.iload 4, 2) := by decide +kernel
theorem dX6_apart_45 : decode cX6_apart 45 = .ok (.if_icmp .ge 162, 3) := by decide +kernel
theorem dX6_apart_48 : decode cX6_apart 48 = .ok (.iload 6, 2) := by decide +kernel
theorem dX6_apart_50 : decode cX6_apart 50 = .ok (.ifCond .ne 12, 3) := by decide +kernel
theorem dX6_apart_53 : decode cX6_apart 53 = .ok (.iload 7, 2) := by decide +kernel
theorem dX6_apart_55 : decode cX6_apart 55 = .ok (.ifCond .ne 7, 3) := by decide +kernel
theorem dX6_apart_58 : decode cX6_apart 58 = .ok (.iconst 0, 1) := by decide +kernel
theorem dX6_apart_59 : decode cX6_apart 59 = .ok (.goto 5, 3) := by decide +kernel
theorem dX6_apart_62 : decode cX6_apart 62 = .ok (.ldc 97, 2) := by decide +kernel
theorem dX6_apart_64 : decode cX6_apart 64 = .ok (.istore 8, 2) := by decide +kernel
theorem dX6_apart_66 : decode cX6_apart 66 = .ok (.iload 6, 2) := by decide +kernel
theorem dX6_apart_68 : decode cX6_apart 68 = .ok (.ifCond .le 27, 3) := by decide +kernel
theorem dX6_apart_71 : decode cX6_apart 71 = .ok (.iload 8, 2) := by decide +kernel
theorem dX6_apart_73 : decode cX6_apart 73 = .ok (.aload 5, 2) := by decide +kernel
theorem dX6_apart_75 : decode cX6_apart 75 = .ok (.iconst 5, 1) := by decide +kernel
theorem dX6_apart_76 : decode cX6_apart 76 = .ok (.iload 6, 2) := by decide +kernel
theorem dX6_apart_78 : decode cX6_apart 78 = .ok (.imul, 1) := by decide +kernel
theorem dX6_apart_79 : decode cX6_apart 79 = .ok (.iconst 5, 1) := by decide +kernel
theorem dX6_apart_80 : decode cX6_apart 80 = .ok (.isub, 1) := by decide +kernel
theorem dX6_apart_81 : decode cX6_apart 81 = .ok (.iload 7, 2) := by decide +kernel
theorem dX6_apart_83 : decode cX6_apart 83 = .ok (.iadd, 1) := by decide +kernel
theorem dX6_apart_84 : decode cX6_apart 84 = .ok (.iaload, 1) := by decide +kernel
theorem dX6_apart_85 : decode cX6_apart 85 = .ok (.aload_n 0, 1) := by decide +kernel
theorem dX6_apart_86 : decode cX6_apart 86 = .ok (.getfield 19, 3) := by decide +kernel
theorem dX6_apart_89 : decode cX6_apart 89 = .ok (.iadd, 1) := by decide +kernel
theorem dX6_apart_90 : decode cX6_apart 90 = .ok (.invokestatic 85, 3) := by decide +kernel
theorem dX6_apart_93 : decode cX6_apart 93 = .ok (.istore 8, 2) := by decide +kernel
theorem dX6_apart_95 : decode cX6_apart 95 = .ok (.iload 7, 2) := by decide +kernel
theorem dX6_apart_97 : decode cX6_apart 97 = .ok (.ifCond .le 27, 3) := by decide +kernel
theorem dX6_apart_100 : decode cX6_apart 100 = .ok (.iload 8, 2) := by decide +kernel
theorem dX6_apart_102 : decode cX6_apart 102 = .ok (.aload 5, 2) := by decide +kernel
theorem dX6_apart_104 : decode cX6_apart 104 = .ok (.iconst 5, 1) := by decide +kernel
theorem dX6_apart_105 : decode cX6_apart 105 = .ok (.iload 6, 2) := by decide +kernel
theorem dX6_apart_107 : decode cX6_apart 107 = .ok (.imul, 1) := by decide +kernel
theorem dX6_apart_108 : decode cX6_apart 108 = .ok (.iload 7, 2) := by decide +kernel
theorem dX6_apart_110 : decode cX6_apart 110 = .ok (.iadd, 1) := by decide +kernel
theorem dX6_apart_111 : decode cX6_apart 111 = .ok (.iconst 1, 1) := by decide +kernel
theorem dX6_apart_112 : decode cX6_apart 112 = .ok (.isub, 1) := by decide +kernel
theorem dX6_apart_113 : decode cX6_apart 113 = .ok (.iaload, 1) := by decide +kernel
theorem dX6_apart_114 : decode cX6_apart 114 = .ok (.aload_n 0, 1) := by decide +kernel
theorem dX6_apart_115 : decode cX6_apart 115 = .ok (.getfield 23, 3) := by decide +kernel
theorem dX6_apart_118 : decode cX6_apart 118 = .ok (.iadd, 1) := by decide +kernel
theorem dX6_apart_119 : decode cX6_apart 119 = .ok (.invokestatic 85, 3) := by decide +kernel
theorem dX6_apart_122 : decode cX6_apart 122 = .ok (.istore 8, 2) := by decide +kernel
theorem dX6_apart_124 : decode cX6_apart 124 = .ok (.iload 6, 2) := by decide +kernel
theorem dX6_apart_126 : decode cX6_apart 126 = .ok (.ifCond .le 63, 3) := by decide +kernel
theorem dX6_apart_129 : decode cX6_apart 129 = .ok (.iload 7, 2) := by decide +kernel
theorem dX6_apart_131 : decode cX6_apart 131 = .ok (.ifCond .le 58, 3) := by decide +kernel
theorem dX6_apart_134 : decode cX6_apart 134 = .ok (.iload 8, 2) := by decide +kernel
theorem dX6_apart_136 : decode cX6_apart 136 = .ok (.aload 5, 2) := by decide +kernel
theorem dX6_apart_138 : decode cX6_apart 138 = .ok (.iconst 5, 1) := by decide +kernel
theorem dX6_apart_139 : decode cX6_apart 139 = .ok (.iload 6, 2) := by decide +kernel
theorem dX6_apart_141 : decode cX6_apart 141 = .ok (.imul, 1) := by decide +kernel
theorem dX6_apart_142 : decode cX6_apart 142 = .ok (.bipush 6, 2) := by decide +kernel
theorem dX6_apart_144 : decode cX6_apart 144 = .ok (.isub, 1) := by decide +kernel
theorem dX6_apart_145 : decode cX6_apart 145 = .ok (.iload 7, 2) := by decide +kernel
theorem dX6_apart_147 : decode cX6_apart 147 = .ok (.iadd, 1) := by decide +kernel
theorem dX6_apart_148 : decode cX6_apart 148 = .ok (.iaload, 1) := by decide +kernel
theorem dX6_apart_149 : decode cX6_apart 149 = .ok (.aload_n 0, 1) := by decide +kernel
theorem dX6_apart_150 : decode cX6_apart 150 = .ok (.getfield 16, 3) := by decide +kernel
theorem dX6_apart_153 : decode cX6_apart 153 = .ok (.iconst 5, 1) := by decide +kernel
theorem dX6_apart_154 : decode cX6_apart 154 = .ok (.aload_n 0, 1) := by decide +kernel
theorem dX6_apart_155 : decode cX6_apart 155 = .ok (.getfield 9, 3) := by decide +kernel
theorem dX6_apart_158 : decode cX6_apart 158 = .ok (.iload_n 1, 1) := by decide +kernel
theorem dX6_apart_159 : decode cX6_apart 159 = .ok (.iaload, 1) := by decide +kernel
theorem dX6_apart_160 : decode cX6_apart 160 = .ok (.iload 6, 2) := by decide +kernel
theorem dX6_apart_162 : decode cX6_apart 162 = .ok (.iconst 1, 1) := by decide +kernel
theorem dX6_apart_163 : decode cX6_apart 163 = .ok (.isub, 1) := by decide +kernel
theorem dX6_apart_164 : decode cX6_apart 164 = .ok (.invokestatic 90, 3) := by decide +kernel
theorem dX6_apart_167 : decode cX6_apart 167 = .ok (.imul, 1) := by decide +kernel
theorem dX6_apart_168 : decode cX6_apart 168 = .ok (.aload_n 0, 1) := by decide +kernel
theorem dX6_apart_169 : decode cX6_apart 169 = .ok (.getfield 9, 3) := by decide +kernel
theorem dX6_apart_172 : decode cX6_apart 172 = .ok (.iload_n 2, 1) := by decide +kernel
theorem dX6_apart_173 : decode cX6_apart 173 = .ok (.iaload, 1) := by decide +kernel
theorem dX6_apart_174 : decode cX6_apart 174 = .ok (.iload 7, 2) := by decide +kernel
theorem dX6_apart_176 : decode cX6_apart 176 = .ok (.iconst 1, 1) := by decide +kernel
theorem dX6_apart_177 : decode cX6_apart 177 = .ok (.isub, 1) := by decide +kernel
theorem dX6_apart_178 : decode cX6_apart 178 = .ok (.invokestatic 90, 3) := by decide +kernel
theorem dX6_apart_181 : decode cX6_apart 181 = .ok (.iadd, 1) := by decide +kernel
theorem dX6_apart_182 : decode cX6_apart 182 = .ok (.iaload, 1) := by decide +kernel
theorem dX6_apart_183 : decode cX6_apart 183 = .ok (.iadd, 1) := by decide +kernel
theorem dX6_apart_184 : decode cX6_apart 184 = .ok (.invokestatic 85, 3) := by decide +kernel
theorem dX6_apart_187 : decode cX6_apart 187 = .ok (.istore 8, 2) := by decide +kernel
theorem dX6_apart_189 : decode cX6_apart 189 = .ok (.aload 5, 2) := by decide +kernel
theorem dX6_apart_191 : decode cX6_apart 191 = .ok (.iconst 5, 1) := by decide +kernel
theorem dX6_apart_192 : decode cX6_apart 192 = .ok (.iload 6, 2) := by decide +kernel
theorem dX6_apart_194 : decode cX6_apart 194 = .ok (.imul, 1) := by decide +kernel
theorem dX6_apart_195 : decode cX6_apart 195 = .ok (.iload 7, 2) := by decide +kernel
theorem dX6_apart_197 : decode cX6_apart 197 = .ok (.iadd, 1) := by decide +kernel
theorem dX6_apart_198 : decode cX6_apart 198 = .ok (.iload 8, 2) := by decide +kernel
theorem dX6_apart_200 : decode cX6_apart 200 = .ok (.iastore, 1) := by decide +kernel
theorem dX6_apart_201 : decode cX6_apart 201 = .ok (.iinc 7 1, 3) := by decide +kernel
theorem dX6_apart_204 : decode cX6_apart 204 = .ok (.goto (-163), 3) := by decide +kernel
theorem dX6_apart_207 : decode cX6_apart 207 = .ok (.iinc 6 1, 3) := by decide +kernel
theorem dX6_apart_210 : decode cX6_apart 210 = .ok (.goto (-178), 3) := by decide +kernel
theorem dX6_apart_213 : decode cX6_apart 213 = .ok (.aload 5, 2) := by decide +kernel
theorem dX6_apart_215 : decode cX6_apart 215 = .ok (.iconst 5, 1) := by decide +kernel
theorem dX6_apart_216 : decode cX6_apart 216 = .ok (.iload_n 3, 1) := by decide +kernel
theorem dX6_apart_217 : decode cX6_apart 217 = .ok (.imul, 1) := by decide +kernel
theorem dX6_apart_218 : decode cX6_apart 218 = .ok (.iload 4, 2) := by decide +kernel
theorem dX6_apart_220 : decode cX6_apart 220 = .ok (.iadd, 1) := by decide +kernel
theorem dX6_apart_221 : decode cX6_apart 221 = .ok (.iconst 1, 1) := by decide +kernel
theorem dX6_apart_222 : decode cX6_apart 222 = .ok (.isub, 1) := by decide +kernel
theorem dX6_apart_223 : decode cX6_apart 223 = .ok (.iaload, 1) := by decide +kernel
theorem dX6_apart_224 : decode cX6_apart 224 = .ok (.ireturn, 1) := by decide +kernel
theorem dX6_alike_0 : decode cX6_alike 0 = .ok (.aload_n 0, 1) := by decide +kernel
theorem dX6_alike_1 : decode cX6_alike 1 = .ok (.iconst 0, 1) := by decide +kernel
theorem dX6_alike_2 : decode cX6_alike 2 = .ok (.putfield 59, 3) := by decide +kernel
theorem dX6_alike_5 : decode cX6_alike 5 = .ok (.iload_n 1, 1) := by decide +kernel
theorem dX6_alike_6 : decode cX6_alike 6 = .ok (.iconst 0, 1) := by decide +kernel
theorem dX6_alike_7 : decode cX6_alike 7 = .ok (.bipush 11, 2) := by decide +kernel
theorem dX6_alike_9 : decode cX6_alike 9 = .ok (.invokestatic 66, 3) := by decide +kernel
theorem dX6_alike_12 : decode cX6_alike 12 = .ok (.ifCond .eq 13, 3) := by decide +kernel
theorem dX6_alike_15 : decode cX6_alike 15 = .ok (.iload_n 2, 1) := by decide +kernel
theorem dX6_alike_16 : decode cX6_alike 16 = .ok (.iconst 0, 1) := by decide +kernel
theorem dX6_alike_17 : decode cX6_alike 17 = .ok (.bipush 11, 2) := by decide +kernel
theorem dX6_alike_19 : decode cX6_alike 19 = .ok (.invokestatic 66, 3) := by decide +kernel
theorem dX6_alike_22 : decode cX6_alike 22 = .ok (.ifCond .ne 9, 3) := by decide +kernel
theorem dX6_alike_25 : decode cX6_alike 25 = .ok (.aload_n 0, 1) := by decide +kernel
theorem dX6_alike_26 : decode cX6_alike 26 = .ok (.iconst 1, 1) := by decide +kernel
theorem dX6_alike_27 : decode cX6_alike 27 = .ok (.invokevirtual 70, 3) := by decide +kernel
theorem dX6_alike_30 : decode cX6_alike 30 = .ok (.ireturn, 1) := by decide +kernel
theorem dX6_alike_31 : decode cX6_alike 31 = .ok (.aload_n 0, 1) := by decide +kernel
theorem dX6_alike_32 : decode cX6_alike 32 = .ok (.getfield 9, 3) := by decide +kernel
theorem dX6_alike_35 : decode cX6_alike 35 = .ok (.iload_n 1, 1) := by decide +kernel
theorem dX6_alike_36 : decode cX6_alike 36 = .ok (.iaload, 1) := by decide +kernel
theorem dX6_alike_37 : decode cX6_alike 37 = .ok (.ifCond .eq 12, 3) := by decide +kernel
theorem dX6_alike_40 : decode cX6_alike 40 = .ok (.aload_n 0, 1) := by decide +kernel
theorem dX6_alike_41 : decode cX6_alike 41 = .ok (.getfield 9, 3) := by decide +kernel
theorem dX6_alike_44 : decode cX6_alike 44 = .ok (.iload_n 2, 1) := by decide +kernel
theorem dX6_alike_45 : decode cX6_alike 45 = .ok (.iaload, 1) := by decide +kernel
theorem dX6_alike_46 : decode cX6_alike 46 = .ok (.ifCond .ne 7, 3) := by decide +kernel
theorem dX6_alike_49 : decode cX6_alike 49 = .ok (.iconst (-1), 1) := by decide +kernel
theorem dX6_alike_50 : decode cX6_alike 50 = .ok (.goto 9, 3) := by decide +kernel
theorem dX6_alike_53 : decode cX6_alike 53 = .ok (.aload_n 0, 1) := by decide +kernel
theorem dX6_alike_54 : decode cX6_alike 54 = .ok (.iload_n 1, 1) := by decide +kernel
theorem dX6_alike_55 : decode cX6_alike 55 = .ok (.iload_n 2, 1) := by decide +kernel
theorem dX6_alike_56 : decode cX6_alike 56 = .ok (.invokevirtual 98, 3) := by decide +kernel
theorem dX6_alike_59 : decode cX6_alike 59 = .ok (.ireturn, 1) := by decide +kernel
theorem dX6_closest_0 : decode cX6_closest 0 = .ok (.aload_n 0, 1) := by decide +kernel
theorem dX6_closest_1 : decode cX6_closest 1 = .ok (.iconst 0, 1) := by decide +kernel
theorem dX6_closest_2 : decode cX6_closest 2 = .ok (.putfield 59, 3) := by decide +kernel
theorem dX6_closest_5 : decode cX6_closest 5 = .ok (.iconst (-1), 1) := by decide +kernel
theorem dX6_closest_6 : decode cX6_closest 6 = .ok (.istore_n 1, 1) := by decide +kernel
theorem dX6_closest_7 : decode cX6_closest 7 = .ok (.iconst 0, 1) := by decide +kernel
theorem dX6_closest_8 : decode cX6_closest 8 = .ok (.istore_n 2, 1) := by decide +kernel
theorem dX6_closest_9 : decode cX6_closest 9 = .ok (.iconst 0, 1) := by decide +kernel
theorem dX6_closest_10 : decode cX6_closest 10 = .ok (.istore_n 3, 1) := by decide +kernel
theorem dX6_closest_11 : decode cX6_closest 11 = .ok (.iload_n 3, 1) := by decide +kernel
theorem dX6_closest_12 : decode cX6_closest 12 = .ok (.bipush 12, 2) := by decide +kernel
theorem dX6_closest_14 : decode cX6_closest 14 = .ok (.if_icmp .ge 81, 3) := by decide +kernel
theorem dX6_closest_17 : decode cX6_closest 17 = .ok (.iload_n 3, 1) := by decide +kernel
theorem dX6_closest_18 : decode cX6_closest 18 = .ok (.iconst 1, 1) := by decide +kernel
theorem dX6_closest_19 : decode cX6_closest 19 = .ok (.iadd, 1) := by decide +kernel
theorem dX6_closest_20 : decode cX6_closest 20 = .ok (.istore 4, 2) := by decide +kernel
theorem dX6_closest_22 : decode cX6_closest 22 = .ok (.iload 4, 2) := by decide +kernel
theorem dX6_closest_24 : decode cX6_closest 24 = .ok (.bipush 12, 2) := by decide +kernel
theorem dX6_closest_26 : decode cX6_closest 26 = .ok (.if_icmp .ge 63, 3) := by decide +kernel
theorem dX6_closest_29 : decode cX6_closest 29 = .ok (.aload_n 0, 1) := by decide +kernel
theorem dX6_closest_30 : decode cX6_closest 30 = .ok (.getfield 9, 3) := by decide +kernel
theorem dX6_closest_33 : decode cX6_closest 33 = .ok (.iload_n 3, 1) := by decide +kernel
theorem dX6_closest_34 : decode cX6_closest 34 = .ok (.iaload, 1) := by decide +kernel
theorem dX6_closest_35 : decode cX6_closest 35 = .ok (.ifCond .eq 48, 3) := by decide +kernel
theorem dX6_closest_38 : decode cX6_closest 38 = .ok (.aload_n 0, 1) := by decide +kernel
theorem dX6_closest_39 : decode cX6_closest 39 = .ok (.getfield 9, 3) := by decide +kernel
theorem dX6_closest_42 : decode cX6_closest 42 = .ok (.iload 4, 2) := by decide +kernel
theorem dX6_closest_44 : decode cX6_closest 44 = .ok (.iaload, 1) := by decide +kernel
theorem dX6_closest_45 : decode cX6_closest 45 = .ok (.ifCond .eq 38, 3) := by decide +kernel
theorem dX6_closest_48 : decode cX6_closest 48 = .ok (.iload_n 1, 1) := by decide +kernel
theorem dX6_closest_49 : decode cX6_closest 49 = .ok (.iconst (-1), 1) := by decide +kernel
theorem dX6_closest_50 : decode cX6_closest 50 = .ok (.if_icmp .eq 17, 3) := by decide +kernel
theorem dX6_closest_53 : decode cX6_closest 53 = .ok (.aload_n 0, 1) := by decide +kernel
theorem dX6_closest_54 : decode cX6_closest 54 = .ok (.iload_n 3, 1) := by decide +kernel
theorem dX6_closest_55 : decode cX6_closest 55 = .ok (.iload 4, 2) := by decide +kernel
theorem dX6_closest_57 : decode cX6_closest 57 = .ok (.invokevirtual 98, 3) := by decide +kernel
theorem dX6_closest_60 : decode cX6_closest 60 = .ok (.iload_n 2, 1) := by decide +kernel
theorem dX6_closest_61 : decode cX6_closest 61 = .ok (.if_icmp .lt 6, 3) := by decide +kernel
theorem dX6_closest_64 : decode cX6_closest 64 = .ok (.goto 19, 3) := by decide +kernel
theorem dX6_closest_67 : decode cX6_closest 67 = .ok (.bipush 12, 2) := by decide +kernel
theorem dX6_closest_69 : decode cX6_closest 69 = .ok (.iload_n 3, 1) := by decide +kernel
theorem dX6_closest_70 : decode cX6_closest 70 = .ok (.imul, 1) := by decide +kernel
theorem dX6_closest_71 : decode cX6_closest 71 = .ok (.iload 4, 2) := by decide +kernel
theorem dX6_closest_73 : decode cX6_closest 73 = .ok (.iadd, 1) := by decide +kernel
theorem dX6_closest_74 : decode cX6_closest 74 = .ok (.istore_n 1, 1) := by decide +kernel
theorem dX6_closest_75 : decode cX6_closest 75 = .ok (.aload_n 0, 1) := by decide +kernel
theorem dX6_closest_76 : decode cX6_closest 76 = .ok (.iload_n 3, 1) := by decide +kernel
theorem dX6_closest_77 : decode cX6_closest 77 = .ok (.iload 4, 2) := by decide +kernel
theorem dX6_closest_79 : decode cX6_closest 79 = .ok (.invokevirtual 98, 3) := by decide +kernel
theorem dX6_closest_82 : decode cX6_closest 82 = .ok (.istore_n 2, 1) := by decide +kernel
theorem dX6_closest_83 : decode cX6_closest 83 = .ok (.iinc 4 1, 3) := by decide +kernel
theorem dX6_closest_86 : decode cX6_closest 86 = .ok (.goto (-64), 3) := by decide +kernel
theorem dX6_closest_89 : decode cX6_closest 89 = .ok (.iinc 3 1, 3) := by decide +kernel
theorem dX6_closest_92 : decode cX6_closest 92 = .ok (.goto (-81), 3) := by decide +kernel
theorem dX6_closest_95 : decode cX6_closest 95 = .ok (.iload_n 1, 1) := by decide +kernel
theorem dX6_closest_96 : decode cX6_closest 96 = .ok (.ireturn, 1) := by decide +kernel
theorem dX6_advise_0 : decode cX6_advise 0 = .ok (.aload_n 0, 1) := by decide +kernel
theorem dX6_advise_1 : decode cX6_advise 1 = .ok (.iconst 0, 1) := by decide +kernel
theorem dX6_advise_2 : decode cX6_advise 2 = .ok (.putfield 59, 3) := by decide +kernel
theorem dX6_advise_5 : decode cX6_advise 5 = .ok (.iconst 1, 1) := by decide +kernel
theorem dX6_advise_6 : decode cX6_advise 6 = .ok (.istore_n 1, 1) := by decide +kernel
theorem dX6_advise_7 : decode cX6_advise 7 = .ok (.iload_n 1, 1) := by decide +kernel
theorem dX6_advise_8 : decode cX6_advise 8 = .ok (.sipush 5000, 3) := by decide +kernel
theorem dX6_advise_11 : decode cX6_advise 11 = .ok (.if_icmp .ge 79, 3) := by decide +kernel
theorem dX6_advise_14 : decode cX6_advise 14 = .ok (.iload_n 1, 1) := by decide +kernel
theorem dX6_advise_15 : decode cX6_advise 15 = .ok (.invokestatic 73, 3) := by decide +kernel
theorem dX6_advise_18 : decode cX6_advise 18 = .ok (.istore_n 2, 1) := by decide +kernel
theorem dX6_advise_19 : decode cX6_advise 19 = .ok (.iconst 0, 1) := by decide +kernel
theorem dX6_advise_20 : decode cX6_advise 20 = .ok (.istore_n 3, 1) := by decide +kernel
theorem dX6_advise_21 : decode cX6_advise 21 = .ok (.iload_n 3, 1) := by decide +kernel
theorem dX6_advise_22 : decode cX6_advise 22 = .ok (.bipush 12, 2) := by decide +kernel
theorem dX6_advise_24 : decode cX6_advise 24 = .ok (.if_icmp .ge 54, 3) := by decide +kernel
theorem dX6_advise_27 : decode cX6_advise 27 = .ok (.iload_n 2, 1) := by decide +kernel
theorem dX6_advise_28 : decode cX6_advise 28 = .ok (.ifCond .eq 50, 3) := by decide +kernel
theorem dX6_advise_31 : decode cX6_advise 31 = .ok (.aload_n 0, 1) := by decide +kernel
theorem dX6_advise_32 : decode cX6_advise 32 = .ok (.getfield 9, 3) := by decide +kernel
theorem dX6_advise_35 : decode cX6_advise 35 = .ok (.iload_n 3, 1) := by decide +kernel
theorem dX6_advise_36 : decode cX6_advise 36 = .ok (.iaload, 1) := by decide +kernel
theorem dX6_advise_37 : decode cX6_advise 37 = .ok (.ifCond .eq 29, 3) := by decide +kernel
theorem dX6_advise_40 : decode cX6_advise 40 = .ok (.iload_n 1, 1) := by decide +kernel
theorem dX6_advise_41 : decode cX6_advise 41 = .ok (.aload_n 0, 1) := by decide +kernel
theorem dX6_advise_42 : decode cX6_advise 42 = .ok (.getfield 9, 3) := by decide +kernel
theorem dX6_advise_45 : decode cX6_advise 45 = .ok (.iload_n 3, 1) := by decide +kernel
theorem dX6_advise_46 : decode cX6_advise 46 = .ok (.iaload, 1) := by decide +kernel
theorem dX6_advise_47 : decode cX6_advise 47 = .ok (.invokestatic 81, 3) := by decide +kernel
theorem dX6_advise_50 : decode cX6_advise 50 = .ok (.ifCond .ne 20, 3) := by decide +kernel
theorem dX6_advise_53 : decode cX6_advise 53 = .ok (.aload_n 0, 1) := by decide +kernel
theorem dX6_advise_54 : decode cX6_advise 54 = .ok (.getfield 9, 3) := by decide +kernel
theorem dX6_advise_57 : decode cX6_advise 57 = .ok (.iload_n 3, 1) := by decide +kernel
theorem dX6_advise_58 : decode cX6_advise 58 = .ok (.iaload, 1) := by decide +kernel
theorem dX6_advise_59 : decode cX6_advise 59 = .ok (.iload_n 1, 1) := by decide +kernel
theorem dX6_advise_60 : decode cX6_advise 60 = .ok (.invokestatic 81, 3) := by decide +kernel
theorem dX6_advise_63 : decode cX6_advise 63 = .ok (.ifCond .ne 7, 3) := by decide +kernel
theorem dX6_advise_66 : decode cX6_advise 66 = .ok (.iconst 1, 1) := by decide +kernel
theorem dX6_advise_67 : decode cX6_advise 67 = .ok (.goto 4, 3) := by decide +kernel
theorem dX6_advise_70 : decode cX6_advise 70 = .ok (.iconst 0, 1) := by decide +kernel
theorem dX6_advise_71 : decode cX6_advise 71 = .ok (.istore_n 2, 1) := by decide +kernel
theorem dX6_advise_72 : decode cX6_advise 72 = .ok (.iinc 3 1, 3) := by decide +kernel
theorem dX6_advise_75 : decode cX6_advise 75 = .ok (.goto (-54), 3) := by decide +kernel
theorem dX6_advise_78 : decode cX6_advise 78 = .ok (.iload_n 2, 1) := by decide +kernel
theorem dX6_advise_79 : decode cX6_advise 79 = .ok (.ifCond .eq 5, 3) := by decide +kernel
theorem dX6_advise_82 : decode cX6_advise 82 = .ok (.iload_n 1, 1) := by decide +kernel
theorem dX6_advise_83 : decode cX6_advise 83 = .ok (.ireturn, 1) := by decide +kernel
theorem dX6_advise_84 : decode cX6_advise 84 = .ok (.iinc 1 1, 3) := by decide +kernel
theorem dX6_advise_87 : decode cX6_advise 87 = .ok (.goto (-80), 3) := by decide +kernel
theorem dX6_advise_90 : decode cX6_advise 90 = .ok (.iconst 0, 1) := by decide +kernel
theorem dX6_advise_91 : decode cX6_advise 91 = .ok (.ireturn, 1) := by decide +kernel
theorem dX6_setKnotter_0 : decode cX6_setKnotter 0 = .ok (.aload_n 0, 1) := by decide +kernel
theorem dX6_setKnotter_1 : decode cX6_setKnotter 1 = .ok (.iconst 0, 1) := by decide +kernel
theorem dX6_setKnotter_2 : decode cX6_setKnotter 2 = .ok (.putfield 59, 3) := by decide +kernel
theorem dX6_setKnotter_5 : decode cX6_setKnotter 5 = .ok (.iload_n 1, 1) := by decide +kernel
theorem dX6_setKnotter_6 : decode cX6_setKnotter 6 = .ok (.iconst 0, 1) := by decide +kernel
theorem dX6_setKnotter_7 : decode cX6_setKnotter 7 = .ok (.bipush 99, 2) := by decide +kernel
theorem dX6_setKnotter_9 : decode cX6_setKnotter 9 = .ok (.invokestatic 66, 3) := by decide +kernel
theorem dX6_setKnotter_12 : decode cX6_setKnotter 12 = .ok (.ifCond .eq 13, 3) := by decide +kernel
theorem dX6_setKnotter_15 : decode cX6_setKnotter 15 = .ok (.iload_n 2, 1) := by decide +kernel
theorem dX6_setKnotter_16 : decode cX6_setKnotter 16 = .ok (.iconst 0, 1) := by decide +kernel
theorem dX6_setKnotter_17 : decode cX6_setKnotter 17 = .ok (.bipush 99, 2) := by decide +kernel
theorem dX6_setKnotter_19 : decode cX6_setKnotter 19 = .ok (.invokestatic 66, 3) := by decide +kernel
theorem dX6_setKnotter_22 : decode cX6_setKnotter 22 = .ok (.ifCond .ne 9, 3) := by decide +kernel
theorem dX6_setKnotter_25 : decode cX6_setKnotter 25 = .ok (.aload_n 0, 1) := by decide +kernel
theorem dX6_setKnotter_26 : decode cX6_setKnotter 26 = .ok (.iconst 1, 1) := by decide +kernel
theorem dX6_setKnotter_27 : decode cX6_setKnotter 27 = .ok (.invokevirtual 70, 3) := by decide +kernel
theorem dX6_setKnotter_30 : decode cX6_setKnotter 30 = .ok (.ireturn, 1) := by decide +kernel
theorem dX6_setKnotter_31 : decode cX6_setKnotter 31 = .ok (.bipush 100, 2) := by decide +kernel
theorem dX6_setKnotter_33 : decode cX6_setKnotter 33 = .ok (.aload_n 0, 1) := by decide +kernel
theorem dX6_setKnotter_34 : decode cX6_setKnotter 34 = .ok (.getfield 101, 3) := by decide +kernel
theorem dX6_setKnotter_37 : decode cX6_setKnotter 37 = .ok (.imul, 1) := by decide +kernel
theorem dX6_setKnotter_38 : decode cX6_setKnotter 38 = .ok (.aload_n 0, 1) := by decide +kernel
theorem dX6_setKnotter_39 : decode cX6_setKnotter 39 = .ok (.getfield 104, 3) := by decide +kernel
theorem dX6_setKnotter_42 : decode cX6_setKnotter 42 = .ok (.iadd, 1) := by decide +kernel
theorem dX6_setKnotter_43 : decode cX6_setKnotter 43 = .ok (.istore_n 3, 1) := by decide +kernel
theorem dX6_setKnotter_44 : decode cX6_setKnotter 44 = .ok (.aload_n 0, 1) := by decide +kernel
theorem dX6_setKnotter_45 : decode cX6_setKnotter 45 = .ok (.iload_n 1, 1) := by decide +kernel
theorem dX6_setKnotter_46 : decode cX6_setKnotter 46 = .ok (.putfield 101, 3) := by decide +kernel
theorem dX6_setKnotter_49 : decode cX6_setKnotter 49 = .ok (.aload_n 0, 1) := by decide +kernel
theorem dX6_setKnotter_50 : decode cX6_setKnotter 50 = .ok (.iload_n 2, 1) := by decide +kernel
theorem dX6_setKnotter_51 : decode cX6_setKnotter 51 = .ok (.putfield 104, 3) := by decide +kernel
theorem dX6_setKnotter_54 : decode cX6_setKnotter 54 = .ok (.iload_n 3, 1) := by decide +kernel
theorem dX6_setKnotter_55 : decode cX6_setKnotter 55 = .ok (.ireturn, 1) := by decide +kernel
theorem dX6_setFeel_0 : decode cX6_setFeel 0 = .ok (.aload_n 0, 1) := by decide +kernel
theorem dX6_setFeel_1 : decode cX6_setFeel 1 = .ok (.iconst 0, 1) := by decide +kernel
theorem dX6_setFeel_2 : decode cX6_setFeel 2 = .ok (.putfield 59, 3) := by decide +kernel
theorem dX6_setFeel_5 : decode cX6_setFeel 5 = .ok (.iload_n 1, 1) := by decide +kernel
theorem dX6_setFeel_6 : decode cX6_setFeel 6 = .ok (.iconst 1, 1) := by decide +kernel
theorem dX6_setFeel_7 : decode cX6_setFeel 7 = .ok (.iconst 4, 1) := by decide +kernel
theorem dX6_setFeel_8 : decode cX6_setFeel 8 = .ok (.invokestatic 66, 3) := by decide +kernel
theorem dX6_setFeel_11 : decode cX6_setFeel 11 = .ok (.ifCond .eq 27, 3) := by decide +kernel
theorem dX6_setFeel_14 : decode cX6_setFeel 14 = .ok (.iload_n 2, 1) := by decide +kernel
theorem dX6_setFeel_15 : decode cX6_setFeel 15 = .ok (.iconst 1, 1) := by decide +kernel
theorem dX6_setFeel_16 : decode cX6_setFeel 16 = .ok (.iconst 4, 1) := by decide +kernel
theorem dX6_setFeel_17 : decode cX6_setFeel 17 = .ok (.invokestatic 66, 3) := by decide +kernel
theorem dX6_setFeel_20 : decode cX6_setFeel 20 = .ok (.ifCond .eq 18, 3) := by decide +kernel
theorem dX6_setFeel_23 : decode cX6_setFeel 23 = .ok (.iload_n 1, 1) := by decide +kernel
theorem dX6_setFeel_24 : decode cX6_setFeel 24 = .ok (.iload_n 2, 1) := by decide +kernel
theorem dX6_setFeel_25 : decode cX6_setFeel 25 = .ok (.if_icmp .eq 13, 3) := by decide +kernel
theorem dX6_setFeel_28 : decode cX6_setFeel 28 = .ok (.iload_n 3, 1) := by decide +kernel
theorem dX6_setFeel_29 : decode cX6_setFeel 29 = .ok (.iconst 0, 1) := by decide +kernel
theorem dX6_setFeel_30 : decode cX6_setFeel 30 = .ok (.bipush 9, 2) := by decide +kernel
theorem dX6_setFeel_32 : decode cX6_setFeel 32 = .ok (.invokestatic 66, 3) := by decide +kernel
theorem dX6_setFeel_35 : decode cX6_setFeel 35 = .ok (.ifCond .ne 9, 3) := by decide +kernel
theorem dX6_setFeel_38 : decode cX6_setFeel 38 = .ok (.aload_n 0, 1) := by decide +kernel
theorem dX6_setFeel_39 : decode cX6_setFeel 39 = .ok (.iconst 1, 1) := by decide +kernel
theorem dX6_setFeel_40 : decode cX6_setFeel 40 = .ok (.invokevirtual 70, 3) := by decide +kernel
theorem dX6_setFeel_43 : decode cX6_setFeel 43 = .ok (.ireturn, 1) := by decide +kernel
theorem dX6_setFeel_44 : decode cX6_setFeel 44 = .ok (.aload_n 0, 1) := by decide +kernel
theorem dX6_setFeel_45 : decode cX6_setFeel 45 = .ok (.getfield 16, 3) := by decide +kernel
theorem dX6_setFeel_48 : decode cX6_setFeel 48 = .ok (.iconst 5, 1) := by decide +kernel
theorem dX6_setFeel_49 : decode cX6_setFeel 49 = .ok (.iload_n 1, 1) := by decide +kernel
theorem dX6_setFeel_50 : decode cX6_setFeel 50 = .ok (.imul, 1) := by decide +kernel
theorem dX6_setFeel_51 : decode cX6_setFeel 51 = .ok (.iload_n 2, 1) := by decide +kernel
theorem dX6_setFeel_52 : decode cX6_setFeel 52 = .ok (.iadd, 1) := by decide +kernel
theorem dX6_setFeel_53 : decode cX6_setFeel 53 = .ok (.iaload, 1) := by decide +kernel
theorem dX6_setFeel_54 : decode cX6_setFeel 54 = .ok (.istore 4, 2) := by decide +kernel
theorem dX6_setFeel_56 : decode cX6_setFeel 56 = .ok (.aload_n 0, 1) := by decide +kernel
theorem dX6_setFeel_57 : decode cX6_setFeel 57 = .ok (.getfield 16, 3) := by decide +kernel
theorem dX6_setFeel_60 : decode cX6_setFeel 60 = .ok (.iconst 5, 1) := by decide +kernel
theorem dX6_setFeel_61 : decode cX6_setFeel 61 = .ok (.iload_n 1, 1) := by decide +kernel
theorem dX6_setFeel_62 : decode cX6_setFeel 62 = .ok (.imul, 1) := by decide +kernel
theorem dX6_setFeel_63 : decode cX6_setFeel 63 = .ok (.iload_n 2, 1) := by decide +kernel
theorem dX6_setFeel_64 : decode cX6_setFeel 64 = .ok (.iadd, 1) := by decide +kernel
theorem dX6_setFeel_65 : decode cX6_setFeel 65 = .ok (.iload_n 3, 1) := by decide +kernel
theorem dX6_setFeel_66 : decode cX6_setFeel 66 = .ok (.iastore, 1) := by decide +kernel
theorem dX6_setFeel_67 : decode cX6_setFeel 67 = .ok (.aload_n 0, 1) := by decide +kernel
theorem dX6_setFeel_68 : decode cX6_setFeel 68 = .ok (.getfield 16, 3) := by decide +kernel
theorem dX6_setFeel_71 : decode cX6_setFeel 71 = .ok (.iconst 5, 1) := by decide +kernel
theorem dX6_setFeel_72 : decode cX6_setFeel 72 = .ok (.iload_n 2, 1) := by decide +kernel
theorem dX6_setFeel_73 : decode cX6_setFeel 73 = .ok (.imul, 1) := by decide +kernel
theorem dX6_setFeel_74 : decode cX6_setFeel 74 = .ok (.iload_n 1, 1) := by decide +kernel
theorem dX6_setFeel_75 : decode cX6_setFeel 75 = .ok (.iadd, 1) := by decide +kernel
theorem dX6_setFeel_76 : decode cX6_setFeel 76 = .ok (.iload_n 3, 1) := by decide +kernel
theorem dX6_setFeel_77 : decode cX6_setFeel 77 = .ok (.iastore, 1) := by decide +kernel
theorem dX6_setFeel_78 : decode cX6_setFeel 78 = .ok (.iload 4, 2) := by decide +kernel
theorem dX6_setFeel_80 : decode cX6_setFeel 80 = .ok (.ireturn, 1) := by decide +kernel
theorem dX6_setCosts_0 : decode cX6_setCosts 0 = .ok (.aload_n 0, 1) := by decide +kernel
theorem dX6_setCosts_1 : decode cX6_setCosts 1 = .ok (.iconst 0, 1) := by decide +kernel
theorem dX6_setCosts_2 : decode cX6_setCosts 2 = .ok (.putfield 59, 3) := by decide +kernel
theorem dX6_setCosts_5 : decode cX6_setCosts 5 = .ok (.iload_n 1, 1) := by decide +kernel
theorem dX6_setCosts_6 : decode cX6_setCosts 6 = .ok (.iconst 1, 1) := by decide +kernel
theorem dX6_setCosts_7 : decode cX6_setCosts 7 = .ok (.bipush 9, 2) := by decide +kernel
theorem dX6_setCosts_9 : decode cX6_setCosts 9 = .ok (.invokestatic 66, 3) := by decide +kernel
theorem dX6_setCosts_12 : decode cX6_setCosts 12 = .ok (.ifCond .eq 13, 3) := by decide +kernel
theorem dX6_setCosts_15 : decode cX6_setCosts 15 = .ok (.iload_n 2, 1) := by decide +kernel
theorem dX6_setCosts_16 : decode cX6_setCosts 16 = .ok (.iconst 1, 1) := by decide +kernel
theorem dX6_setCosts_17 : decode cX6_setCosts 17 = .ok (.bipush 9, 2) := by decide +kernel
theorem dX6_setCosts_19 : decode cX6_setCosts 19 = .ok (.invokestatic 66, 3) := by decide +kernel
theorem dX6_setCosts_22 : decode cX6_setCosts 22 = .ok (.ifCond .ne 9, 3) := by decide +kernel
theorem dX6_setCosts_25 : decode cX6_setCosts 25 = .ok (.aload_n 0, 1) := by decide +kernel
theorem dX6_setCosts_26 : decode cX6_setCosts 26 = .ok (.iconst 1, 1) := by decide +kernel
theorem dX6_setCosts_27 : decode cX6_setCosts 27 = .ok (.invokevirtual 70, 3) := by decide +kernel
theorem dX6_setCosts_30 : decode cX6_setCosts 30 = .ok (.ireturn, 1) := by decide +kernel
theorem dX6_setCosts_31 : decode cX6_setCosts 31 = .ok (.bipush 10, 2) := by decide +kernel
theorem dX6_setCosts_33 : decode cX6_setCosts 33 = .ok (.aload_n 0, 1) := by decide +kernel
theorem dX6_setCosts_34 : decode cX6_setCosts 34 = .ok (.getfield 19, 3) := by decide +kernel
theorem dX6_setCosts_37 : decode cX6_setCosts 37 = .ok (.imul, 1) := by decide +kernel
theorem dX6_setCosts_38 : decode cX6_setCosts 38 = .ok (.aload_n 0, 1) := by decide +kernel
theorem dX6_setCosts_39 : decode cX6_setCosts 39 = .ok (.getfield 23, 3) := by decide +kernel
theorem dX6_setCosts_42 : decode cX6_setCosts 42 = .ok (.iadd, 1) := by decide +kernel
theorem dX6_setCosts_43 : decode cX6_setCosts 43 = .ok (.istore_n 3, 1) := by decide +kernel
theorem dX6_setCosts_44 : decode cX6_setCosts 44 = .ok (.aload_n 0, 1) := by decide +kernel
theorem dX6_setCosts_45 : decode cX6_setCosts 45 = .ok (.iload_n 1, 1) := by decide +kernel
theorem dX6_setCosts_46 : decode cX6_setCosts 46 = .ok (.putfield 19, 3) := by decide +kernel
theorem dX6_setCosts_49 : decode cX6_setCosts 49 = .ok (.aload_n 0, 1) := by decide +kernel
theorem dX6_setCosts_50 : decode cX6_setCosts 50 = .ok (.iload_n 2, 1) := by decide +kernel
theorem dX6_setCosts_51 : decode cX6_setCosts 51 = .ok (.putfield 23, 3) := by decide +kernel
theorem dX6_setCosts_54 : decode cX6_setCosts 54 = .ok (.iload_n 3, 1) := by decide +kernel
theorem dX6_setCosts_55 : decode cX6_setCosts 55 = .ok (.ireturn, 1) := by decide +kernel
theorem dX6_feed_0 : decode cX6_feed 0 = .ok (.aload_n 0, 1) := by decide +kernel
theorem dX6_feed_1 : decode cX6_feed 1 = .ok (.iconst 0, 1) := by decide +kernel
theorem dX6_feed_2 : decode cX6_feed 2 = .ok (.putfield 59, 3) := by decide +kernel
theorem dX6_feed_5 : decode cX6_feed 5 = .ok (.aload_n 0, 1) := by decide +kernel
theorem dX6_feed_6 : decode cX6_feed 6 = .ok (.getfield 107, 3) := by decide +kernel
theorem dX6_feed_9 : decode cX6_feed 9 = .ok (.bipush 20, 2) := by decide +kernel
theorem dX6_feed_11 : decode cX6_feed 11 = .ok (.iadd, 1) := by decide +kernel
theorem dX6_feed_12 : decode cX6_feed 12 = .ok (.bipush 80, 2) := by decide +kernel
theorem dX6_feed_14 : decode cX6_feed 14 = .ok (.if_icmp .le 9, 3) := by decide +kernel
theorem dX6_feed_17 : decode cX6_feed 17 = .ok (.aload_n 0, 1) := by decide +kernel
theorem dX6_feed_18 : decode cX6_feed 18 = .ok (.iconst 1, 1) := by decide +kernel
theorem dX6_feed_19 : decode cX6_feed 19 = .ok (.invokevirtual 70, 3) := by decide +kernel
theorem dX6_feed_22 : decode cX6_feed 22 = .ok (.ireturn, 1) := by decide +kernel
theorem dX6_feed_23 : decode cX6_feed 23 = .ok (.iconst 5, 1) := by decide +kernel
theorem dX6_feed_24 : decode cX6_feed 24 = .ok (.newarray .int, 2) := by decide +kernel
theorem dX6_feed_26 : decode cX6_feed 26 = .ok (.dup, 1) := by decide +kernel
theorem dX6_feed_27 : decode cX6_feed 27 = .ok (.iconst 0, 1) := by decide +kernel
theorem dX6_feed_28 : decode cX6_feed 28 = .ok (.iload_n 1, 1) := by decide +kernel
theorem dX6_feed_29 : decode cX6_feed 29 = .ok (.iastore, 1) := by decide +kernel
theorem dX6_feed_30 : decode cX6_feed 30 = .ok (.dup, 1) := by decide +kernel
theorem dX6_feed_31 : decode cX6_feed 31 = .ok (.iconst 1, 1) := by decide +kernel
theorem dX6_feed_32 : decode cX6_feed 32 = .ok (.iload_n 2, 1) := by decide +kernel
theorem dX6_feed_33 : decode cX6_feed 33 = .ok (.iastore, 1) := by decide +kernel
theorem dX6_feed_34 : decode cX6_feed 34 = .ok (.dup, 1) := by decide +kernel
theorem dX6_feed_35 : decode cX6_feed 35 = .ok (.iconst 2, 1) := by decide +kernel
theorem dX6_feed_36 : decode cX6_feed 36 = .ok (.iload_n 3, 1) := by decide +kernel
theorem dX6_feed_37 : decode cX6_feed 37 = .ok (.iastore, 1) := by decide +kernel
theorem dX6_feed_38 : decode cX6_feed 38 = .ok (.dup, 1) := by decide +kernel
theorem dX6_feed_39 : decode cX6_feed 39 = .ok (.iconst 3, 1) := by decide +kernel
theorem dX6_feed_40 : decode cX6_feed 40 = .ok (.iload 4, 2) := by decide +kernel
theorem dX6_feed_42 : decode cX6_feed 42 = .ok (.iastore, 1) := by decide +kernel
theorem dX6_feed_43 : decode cX6_feed 43 = .ok (.dup, 1) := by decide +kernel
theorem dX6_feed_44 : decode cX6_feed 44 = .ok (.iconst 4, 1) := by decide +kernel
theorem dX6_feed_45 : decode cX6_feed 45 = .ok (.iload 5, 2) := by decide +kernel
theorem dX6_feed_47 : decode cX6_feed 47 = .ok (.iastore, 1) := by decide +kernel
theorem dX6_feed_48 : decode cX6_feed 48 = .ok (.astore 6, 2) := by decide +kernel
theorem dX6_feed_50 : decode cX6_feed 50 = .ok (.aload 6, 2) := by decide +kernel
theorem dX6_feed_52 : decode cX6_feed 52 = .ok (.astore 7, 2) := by decide +kernel
theorem dX6_feed_54 : decode cX6_feed 54 = .ok (.aload 7, 2) := by decide +kernel
theorem dX6_feed_56 : decode cX6_feed 56 = .ok (.arraylength, 1) := by decide +kernel
theorem dX6_feed_57 : decode cX6_feed 57 = .ok (.istore 8, 2) := by decide +kernel
theorem dX6_feed_59 : decode cX6_feed 59 = .ok (.iconst 0, 1) := by decide +kernel
theorem dX6_feed_60 : decode cX6_feed 60 = .ok (.istore 9, 2) := by decide +kernel
theorem dX6_feed_62 : decode cX6_feed 62 = .ok (.iload 9, 2) := by decide +kernel
theorem dX6_feed_64 : decode cX6_feed 64 = .ok (.iload 8, 2) := by decide +kernel
theorem dX6_feed_66 : decode cX6_feed 66 = .ok (.if_icmp .ge 61, 3) := by decide +kernel
theorem dX6_feed_69 : decode cX6_feed 69 = .ok (.aload 7, 2) := by decide +kernel
theorem dX6_feed_71 : decode cX6_feed 71 = .ok (.iload 9, 2) := by decide +kernel
theorem dX6_feed_73 : decode cX6_feed 73 = .ok (.iaload, 1) := by decide +kernel
theorem dX6_feed_74 : decode cX6_feed 74 = .ok (.istore 10, 2) := by decide +kernel
theorem dX6_feed_76 : decode cX6_feed 76 = .ok (.iconst 3, 1) := by decide +kernel
theorem dX6_feed_77 : decode cX6_feed 77 = .ok (.istore 11, 2) := by decide +kernel
theorem dX6_feed_79 : decode cX6_feed 79 = .ok (.iload 11, 2) := by decide +kernel
theorem dX6_feed_81 : decode cX6_feed 81 = .ok (.ifCond .lt 40, 3) := by decide +kernel
theorem dX6_feed_84 : decode cX6_feed 84 = .ok (.aload_n 0, 1) := by decide +kernel
theorem dX6_feed_85 : decode cX6_feed 85 = .ok (.getfield 38, 3) := by decide +kernel
theorem dX6_feed_88 : decode cX6_feed 88 = .ok (.aload_n 0, 1) := by decide +kernel
theorem dX6_feed_89 : decode cX6_feed 89 = .ok (.getfield 107, 3) := by decide +kernel
theorem dX6_feed_92 : decode cX6_feed 92 = .ok (.iload 10, 2) := by decide +kernel
theorem dX6_feed_94 : decode cX6_feed 94 = .ok (.bipush 8, 2) := by decide +kernel
theorem dX6_feed_96 : decode cX6_feed 96 = .ok (.iload 11, 2) := by decide +kernel
theorem dX6_feed_98 : decode cX6_feed 98 = .ok (.imul, 1) := by decide +kernel
theorem dX6_feed_99 : decode cX6_feed 99 = .ok (.ishr, 1) := by decide +kernel
theorem dX6_feed_100 : decode cX6_feed 100 = .ok (.sipush 255, 3) := by decide +kernel
theorem dX6_feed_103 : decode cX6_feed 103 = .ok (.iand, 1) := by decide +kernel
theorem dX6_feed_104 : decode cX6_feed 104 = .ok (.iastore, 1) := by decide +kernel
theorem dX6_feed_105 : decode cX6_feed 105 = .ok (.aload_n 0, 1) := by decide +kernel
theorem dX6_feed_106 : decode cX6_feed 106 = .ok (.dup, 1) := by decide +kernel
theorem dX6_feed_107 : decode cX6_feed 107 = .ok (.getfield 107, 3) := by decide +kernel
theorem dX6_feed_110 : decode cX6_feed 110 = .ok (.iconst 1, 1) := by decide +kernel
theorem dX6_feed_111 : decode cX6_feed 111 = .ok (.iadd, 1) := by decide +kernel
theorem dX6_feed_112 : decode cX6_feed 112 = .ok (.putfield 107, 3) := by decide +kernel
theorem dX6_feed_115 : decode cX6_feed 115 = .ok (.iinc 11 (-1), 3) := by decide +kernel
theorem dX6_feed_118 : decode cX6_feed 118 = .ok (.goto (-39), 3) := by decide +kernel
theorem dX6_feed_121 : decode cX6_feed 121 = .ok (.iinc 9 1, 3) := by decide +kernel
theorem dX6_feed_124 : decode cX6_feed 124 = .ok (.goto (-62), 3) := by decide +kernel
theorem dX6_feed_127 : decode cX6_feed 127 = .ok (.aload_n 0, 1) := by decide +kernel
theorem dX6_feed_128 : decode cX6_feed 128 = .ok (.getfield 107, 3) := by decide +kernel
theorem dX6_feed_131 : decode cX6_feed 131 = .ok (.ireturn, 1) := by decide +kernel
theorem dX6_trim_0 : decode cX6_trim 0 = .ok (.aload_n 0, 1) := by decide +kernel
theorem dX6_trim_1 : decode cX6_trim 1 = .ok (.iconst 0, 1) := by decide +kernel
theorem dX6_trim_2 : decode cX6_trim 2 = .ok (.putfield 59, 3) := by decide +kernel
theorem dX6_trim_5 : decode cX6_trim 5 = .ok (.iload_n 1, 1) := by decide +kernel
theorem dX6_trim_6 : decode cX6_trim 6 = .ok (.iconst 0, 1) := by decide +kernel
theorem dX6_trim_7 : decode cX6_trim 7 = .ok (.aload_n 0, 1) := by decide +kernel
theorem dX6_trim_8 : decode cX6_trim 8 = .ok (.getfield 107, 3) := by decide +kernel
theorem dX6_trim_11 : decode cX6_trim 11 = .ok (.invokestatic 66, 3) := by decide +kernel
theorem dX6_trim_14 : decode cX6_trim 14 = .ok (.ifCond .ne 9, 3) := by decide +kernel
theorem dX6_trim_17 : decode cX6_trim 17 = .ok (.aload_n 0, 1) := by decide +kernel
theorem dX6_trim_18 : decode cX6_trim 18 = .ok (.iconst 1, 1) := by decide +kernel
theorem dX6_trim_19 : decode cX6_trim 19 = .ok (.invokevirtual 70, 3) := by decide +kernel
theorem dX6_trim_22 : decode cX6_trim 22 = .ok (.ireturn, 1) := by decide +kernel
theorem dX6_trim_23 : decode cX6_trim 23 = .ok (.aload_n 0, 1) := by decide +kernel
theorem dX6_trim_24 : decode cX6_trim 24 = .ok (.iload_n 1, 1) := by decide +kernel
theorem dX6_trim_25 : decode cX6_trim 25 = .ok (.putfield 107, 3) := by decide +kernel
theorem dX6_trim_28 : decode cX6_trim 28 = .ok (.iload_n 1, 1) := by decide +kernel
theorem dX6_trim_29 : decode cX6_trim 29 = .ok (.ireturn, 1) := by decide +kernel
theorem dX6_isLetter_0 : decode cX6_isLetter 0 = .ok (.iload_n 1, 1) := by decide +kernel
theorem dX6_isLetter_1 : decode cX6_isLetter 1 = .ok (.bipush 97, 2) := by decide +kernel
theorem dX6_isLetter_3 : decode cX6_isLetter 3 = .ok (.isub, 1) := by decide +kernel
theorem dX6_isLetter_4 : decode cX6_isLetter 4 = .ok (.iconst 0, 1) := by decide +kernel
theorem dX6_isLetter_5 : decode cX6_isLetter 5 = .ok (.bipush 11, 2) := by decide +kernel
theorem dX6_isLetter_7 : decode cX6_isLetter 7 = .ok (.invokestatic 66, 3) := by decide +kernel
theorem dX6_isLetter_10 : decode cX6_isLetter 10 = .ok (.ifCond .eq 19, 3) := by decide +kernel
theorem dX6_isLetter_13 : decode cX6_isLetter 13 = .ok (.aload_n 0, 1) := by decide +kernel
theorem dX6_isLetter_14 : decode cX6_isLetter 14 = .ok (.getfield 9, 3) := by decide +kernel
theorem dX6_isLetter_17 : decode cX6_isLetter 17 = .ok (.iload_n 1, 1) := by decide +kernel
theorem dX6_isLetter_18 : decode cX6_isLetter 18 = .ok (.bipush 97, 2) := by decide +kernel
theorem dX6_isLetter_20 : decode cX6_isLetter 20 = .ok (.isub, 1) := by decide +kernel
theorem dX6_isLetter_21 : decode cX6_isLetter 21 = .ok (.iaload, 1) := by decide +kernel
theorem dX6_isLetter_22 : decode cX6_isLetter 22 = .ok (.ifCond .le 7, 3) := by decide +kernel
theorem dX6_isLetter_25 : decode cX6_isLetter 25 = .ok (.iconst 1, 1) := by decide +kernel
theorem dX6_isLetter_26 : decode cX6_isLetter 26 = .ok (.goto 4, 3) := by decide +kernel
theorem dX6_isLetter_29 : decode cX6_isLetter 29 = .ok (.iconst 0, 1) := by decide +kernel
theorem dX6_isLetter_30 : decode cX6_isLetter 30 = .ok (.ireturn, 1) := by decide +kernel
theorem dX6_tie_0 : decode cX6_tie 0 = .ok (.aload_n 0, 1) := by decide +kernel
theorem dX6_tie_1 : decode cX6_tie 1 = .ok (.iconst 0, 1) := by decide +kernel
theorem dX6_tie_2 : decode cX6_tie 2 = .ok (.putfield 59, 3) := by decide +kernel
theorem dX6_tie_5 : decode cX6_tie 5 = .ok (.iconst 0, 1) := by decide +kernel
theorem dX6_tie_6 : decode cX6_tie 6 = .ok (.istore_n 1, 1) := by decide +kernel
theorem dX6_tie_7 : decode cX6_tie 7 = .ok (.iconst 1, 1) := by decide +kernel
theorem dX6_tie_8 : decode cX6_tie 8 = .ok (.istore_n 2, 1) := by decide +kernel
theorem dX6_tie_9 : decode cX6_tie 9 = .ok (.iconst 0, 1) := by decide +kernel
theorem dX6_tie_10 : decode cX6_tie 10 = .ok (.istore_n 3, 1) := by decide +kernel
theorem dX6_tie_11 : decode cX6_tie 11 = .ok (.iload_n 3, 1) := by decide +kernel
theorem dX6_tie_12 : decode cX6_tie 12 = .ok (.aload_n 0, 1) := by decide +kernel
theorem dX6_tie_13 : decode cX6_tie 13 = .ok (.getfield 107, 3) := by decide +kernel
theorem dX6_tie_16 : decode cX6_tie 16 = .ok (.if_icmp .ge 95, 3) := by decide +kernel
theorem dX6_tie_19 : decode cX6_tie 19 = .ok (.iload_n 1, 1) := by decide +kernel
theorem dX6_tie_20 : decode cX6_tie 20 = .ok (.aload_n 0, 1) := by decide +kernel
theorem dX6_tie_21 : decode cX6_tie 21 = .ok (.getfield 38, 3) := by decide +kernel
theorem dX6_tie_24 : decode cX6_tie 24 = .ok (.iload_n 3, 1) := by decide +kernel
theorem dX6_tie_25 : decode cX6_tie 25 = .ok (.iaload, 1) := by decide +kernel
theorem dX6_tie_26 : decode cX6_tie 26 = .ok (.bipush 32, 2) := by decide +kernel
theorem dX6_tie_28 : decode cX6_tie 28 = .ok (.if_icmp .ne 7, 3) := by decide +kernel
theorem dX6_tie_31 : decode cX6_tie 31 = .ok (.iconst 1, 1) := by decide +kernel
theorem dX6_tie_32 : decode cX6_tie 32 = .ok (.goto 37, 3) := by decide +kernel
theorem dX6_tie_35 : decode cX6_tie 35 = .ok (.aload_n 0, 1) := by decide +kernel
theorem dX6_tie_36 : decode cX6_tie 36 = .ok (.aload_n 0, 1) := by decide +kernel
theorem dX6_tie_37 : decode cX6_tie 37 = .ok (.getfield 38, 3) := by decide +kernel
theorem dX6_tie_40 : decode cX6_tie 40 = .ok (.iload_n 3, 1) := by decide +kernel
theorem dX6_tie_41 : decode cX6_tie 41 = .ok (.iaload, 1) := by decide +kernel
theorem dX6_tie_42 : decode cX6_tie 42 = .ok (.invokevirtual 110, 3) := by decide +kernel
theorem dX6_tie_45 : decode cX6_tie 45 = .ok (.ifCond .eq 23, 3) := by decide +kernel
theorem dX6_tie_48 : decode cX6_tie 48 = .ok (.aload_n 0, 1) := by decide +kernel
theorem dX6_tie_49 : decode cX6_tie 49 = .ok (.getfield 9, 3) := by decide +kernel
theorem dX6_tie_52 : decode cX6_tie 52 = .ok (.aload_n 0, 1) := by decide +kernel
theorem dX6_tie_53 : decode cX6_tie 53 = .ok (.getfield 38, 3) := by decide +kernel
theorem dX6_tie_56 : decode cX6_tie 56 = .ok (.iload_n 3, 1) := by decide +kernel
theorem dX6_tie_57 : decode cX6_tie 57 = .ok (.iaload, 1) := by decide +kernel
theorem dX6_tie_58 : decode cX6_tie 58 = .ok (.bipush 97, 2) := by decide +kernel
theorem dX6_tie_60 : decode cX6_tie 60 = .ok (.isub, 1) := by decide +kernel
theorem dX6_tie_61 : decode cX6_tie 61 = .ok (.iaload, 1) := by decide +kernel
theorem dX6_tie_62 : decode cX6_tie 62 = .ok (.invokestatic 62, 3) := by decide +kernel
theorem dX6_tie_65 : decode cX6_tie 65 = .ok (.goto 4, 3) := by decide +kernel
theorem dX6_tie_68 : decode cX6_tie 68 = .ok (.iconst 0, 1) := by decide +kernel
theorem dX6_tie_69 : decode cX6_tie 69 = .ok (.iadd, 1) := by decide +kernel
theorem dX6_tie_70 : decode cX6_tie 70 = .ok (.istore_n 1, 1) := by decide +kernel
theorem dX6_tie_71 : decode cX6_tie 71 = .ok (.iload_n 2, 1) := by decide +kernel
theorem dX6_tie_72 : decode cX6_tie 72 = .ok (.ifCond .eq 31, 3) := by decide +kernel
theorem dX6_tie_75 : decode cX6_tie 75 = .ok (.aload_n 0, 1) := by decide +kernel
theorem dX6_tie_76 : decode cX6_tie 76 = .ok (.getfield 38, 3) := by decide +kernel
theorem dX6_tie_79 : decode cX6_tie 79 = .ok (.iload_n 3, 1) := by decide +kernel
theorem dX6_tie_80 : decode cX6_tie 80 = .ok (.iaload, 1) := by decide +kernel
theorem dX6_tie_81 : decode cX6_tie 81 = .ok (.bipush 32, 2) := by decide +kernel
theorem dX6_tie_83 : decode cX6_tie 83 = .ok (.if_icmp .eq 16, 3) := by decide +kernel
theorem dX6_tie_86 : decode cX6_tie 86 = .ok (.aload_n 0, 1) := by decide +kernel
theorem dX6_tie_87 : decode cX6_tie 87 = .ok (.aload_n 0, 1) := by decide +kernel
theorem dX6_tie_88 : decode cX6_tie 88 = .ok (.getfield 38, 3) := by decide +kernel
theorem dX6_tie_91 : decode cX6_tie 91 = .ok (.iload_n 3, 1) := by decide +kernel
theorem dX6_tie_92 : decode cX6_tie 92 = .ok (.iaload, 1) := by decide +kernel
theorem dX6_tie_93 : decode cX6_tie 93 = .ok (.invokevirtual 110, 3) := by decide +kernel
theorem dX6_tie_96 : decode cX6_tie 96 = .ok (.ifCond .eq 7, 3) := by decide +kernel
theorem dX6_tie_99 : decode cX6_tie 99 = .ok (.iconst 1, 1) := by decide +kernel
theorem dX6_tie_100 : decode cX6_tie 100 = .ok (.goto 4, 3) := by decide +kernel
theorem dX6_tie_103 : decode cX6_tie 103 = .ok (.iconst 0, 1) := by decide +kernel
theorem dX6_tie_104 : decode cX6_tie 104 = .ok (.istore_n 2, 1) := by decide +kernel
theorem dX6_tie_105 : decode cX6_tie 105 = .ok (.iinc 3 1, 3) := by decide +kernel
theorem dX6_tie_108 : decode cX6_tie 108 = .ok (.goto (-97), 3) := by decide +kernel
theorem dX6_tie_111 : decode cX6_tie 111 = .ok (.aload_n 0, 1) := by decide +kernel
theorem dX6_tie_112 : decode cX6_tie 112 = .ok (.getfield 113, 3) := by decide +kernel
theorem dX6_tie_115 : decode cX6_tie 115 = .ok (.bipush 10, 2) := by decide +kernel
theorem dX6_tie_117 : decode cX6_tie 117 = .ok (.if_icmp .eq 9, 3) := by decide +kernel
theorem dX6_tie_120 : decode cX6_tie 120 = .ok (.iload_n 1, 1) := by decide +kernel
theorem dX6_tie_121 : decode cX6_tie 121 = .ok (.bipush 40, 2) := by decide +kernel
theorem dX6_tie_123 : decode cX6_tie 123 = .ok (.if_icmp .le 9, 3) := by decide +kernel
theorem dX6_tie_126 : decode cX6_tie 126 = .ok (.aload_n 0, 1) := by decide +kernel
theorem dX6_tie_127 : decode cX6_tie 127 = .ok (.iconst 1, 1) := by decide +kernel
theorem dX6_tie_128 : decode cX6_tie 128 = .ok (.invokevirtual 70, 3) := by decide +kernel
theorem dX6_tie_131 : decode cX6_tie 131 = .ok (.ireturn, 1) := by decide +kernel
theorem dX6_tie_132 : decode cX6_tie 132 = .ok (.iload_n 2, 1) := by decide +kernel
theorem dX6_tie_133 : decode cX6_tie 133 = .ok (.ifCond .ne 5, 3) := by decide +kernel
theorem dX6_tie_136 : decode cX6_tie 136 = .ok (.iconst (-1), 1) := by decide +kernel
theorem dX6_tie_137 : decode cX6_tie 137 = .ok (.ireturn, 1) := by decide +kernel
theorem dX6_tie_138 : decode cX6_tie 138 = .ok (.aload_n 0, 1) := by decide +kernel
theorem dX6_tie_139 : decode cX6_tie 139 = .ok (.getfield 113, 3) := by decide +kernel
theorem dX6_tie_142 : decode cX6_tie 142 = .ok (.istore_n 3, 1) := by decide +kernel
theorem dX6_tie_143 : decode cX6_tie 143 = .ok (.aload_n 0, 1) := by decide +kernel
theorem dX6_tie_144 : decode cX6_tie 144 = .ok (.dup, 1) := by decide +kernel
theorem dX6_tie_145 : decode cX6_tie 145 = .ok (.getfield 113, 3) := by decide +kernel
theorem dX6_tie_148 : decode cX6_tie 148 = .ok (.iconst 1, 1) := by decide +kernel
theorem dX6_tie_149 : decode cX6_tie 149 = .ok (.iadd, 1) := by decide +kernel
theorem dX6_tie_150 : decode cX6_tie 150 = .ok (.putfield 113, 3) := by decide +kernel
theorem dX6_tie_153 : decode cX6_tie 153 = .ok (.iconst 0, 1) := by decide +kernel
theorem dX6_tie_154 : decode cX6_tie 154 = .ok (.istore 4, 2) := by decide +kernel
theorem dX6_tie_156 : decode cX6_tie 156 = .ok (.iload 4, 2) := by decide +kernel
theorem dX6_tie_158 : decode cX6_tie 158 = .ok (.aload_n 0, 1) := by decide +kernel
theorem dX6_tie_159 : decode cX6_tie 159 = .ok (.getfield 107, 3) := by decide +kernel
theorem dX6_tie_162 : decode cX6_tie 162 = .ok (.if_icmp .ge 45, 3) := by decide +kernel
theorem dX6_tie_165 : decode cX6_tie 165 = .ok (.aload_n 0, 1) := by decide +kernel
theorem dX6_tie_166 : decode cX6_tie 166 = .ok (.getfield 38, 3) := by decide +kernel
theorem dX6_tie_169 : decode cX6_tie 169 = .ok (.iload 4, 2) := by decide +kernel
theorem dX6_tie_171 : decode cX6_tie 171 = .ok (.iaload, 1) := by decide +kernel
theorem dX6_tie_172 : decode cX6_tie 172 = .ok (.bipush 32, 2) := by decide +kernel
theorem dX6_tie_174 : decode cX6_tie 174 = .ok (.if_icmp .ne 12, 3) := by decide +kernel
theorem dX6_tie_177 : decode cX6_tie 177 = .ok (.aload_n 0, 1) := by decide +kernel
theorem dX6_tie_178 : decode cX6_tie 178 = .ok (.iload_n 3, 1) := by decide +kernel
theorem dX6_tie_179 : decode cX6_tie 179 = .ok (.iconst 5, 1) := by decide +kernel
theorem dX6_tie_180 : decode cX6_tie 180 = .ok (.invokevirtual 116, 3) := by decide +kernel
theorem dX6_tie_183 : decode cX6_tie 183 = .ok (.goto 18, 3) := by decide +kernel
theorem dX6_tie_186 : decode cX6_tie 186 = .ok (.aload_n 0, 1) := by decide +kernel
theorem dX6_tie_187 : decode cX6_tie 187 = .ok (.iload_n 3, 1) := by decide +kernel
theorem dX6_tie_188 : decode cX6_tie 188 = .ok (.aload_n 0, 1) := by decide +kernel
theorem dX6_tie_189 : decode cX6_tie 189 = .ok (.getfield 38, 3) := by decide +kernel
theorem dX6_tie_192 : decode cX6_tie 192 = .ok (.iload 4, 2) := by decide +kernel
theorem dX6_tie_194 : decode cX6_tie 194 = .ok (.iaload, 1) := by decide +kernel
theorem dX6_tie_195 : decode cX6_tie 195 = .ok (.bipush 97, 2) := by decide +kernel
theorem dX6_tie_197 : decode cX6_tie 197 = .ok (.isub, 1) := by decide +kernel
theorem dX6_tie_198 : decode cX6_tie 198 = .ok (.invokevirtual 120, 3) := by decide +kernel
theorem dX6_tie_201 : decode cX6_tie 201 = .ok (.iinc 4 1, 3) := by decide +kernel
theorem dX6_tie_204 : decode cX6_tie 204 = .ok (.goto (-48), 3) := by decide +kernel
theorem dX6_tie_207 : decode cX6_tie 207 = .ok (.aload_n 0, 1) := by decide +kernel
theorem dX6_tie_208 : decode cX6_tie 208 = .ok (.iconst 0, 1) := by decide +kernel
theorem dX6_tie_209 : decode cX6_tie 209 = .ok (.putfield 107, 3) := by decide +kernel
theorem dX6_tie_212 : decode cX6_tie 212 = .ok (.iload_n 3, 1) := by decide +kernel
theorem dX6_tie_213 : decode cX6_tie 213 = .ok (.ireturn, 1) := by decide +kernel
theorem dX6_put_0 : decode cX6_put 0 = .ok (.aload_n 0, 1) := by decide +kernel
theorem dX6_put_1 : decode cX6_put 1 = .ok (.getfield 29, 3) := by decide +kernel
theorem dX6_put_4 : decode cX6_put 4 = .ok (.bipush 40, 2) := by decide +kernel
theorem dX6_put_6 : decode cX6_put 6 = .ok (.iload_n 1, 1) := by decide +kernel
theorem dX6_put_7 : decode cX6_put 7 = .ok (.imul, 1) := by decide +kernel
theorem dX6_put_8 : decode cX6_put 8 = .ok (.aload_n 0, 1) := by decide +kernel
theorem dX6_put_9 : decode cX6_put 9 = .ok (.getfield 26, 3) := by decide +kernel
theorem dX6_put_12 : decode cX6_put 12 = .ok (.iload_n 1, 1) := by decide +kernel
theorem dX6_put_13 : decode cX6_put 13 = .ok (.iaload, 1) := by decide +kernel
theorem dX6_put_14 : decode cX6_put 14 = .ok (.iadd, 1) := by decide +kernel
theorem dX6_put_15 : decode cX6_put 15 = .ok (.iload_n 2, 1) := by decide +kernel
theorem dX6_put_16 : decode cX6_put 16 = .ok (.iastore, 1) := by decide +kernel
theorem dX6_put_17 : decode cX6_put 17 = .ok (.aload_n 0, 1) := by decide +kernel
theorem dX6_put_18 : decode cX6_put 18 = .ok (.getfield 26, 3) := by decide +kernel
theorem dX6_put_21 : decode cX6_put 21 = .ok (.iload_n 1, 1) := by decide +kernel
theorem dX6_put_22 : decode cX6_put 22 = .ok (.dup2, 1) := by decide +kernel
theorem dX6_put_23 : decode cX6_put 23 = .ok (.iaload, 1) := by decide +kernel
theorem dX6_put_24 : decode cX6_put 24 = .ok (.iconst 1, 1) := by decide +kernel
theorem dX6_put_25 : decode cX6_put 25 = .ok (.iadd, 1) := by decide +kernel
theorem dX6_put_26 : decode cX6_put 26 = .ok (.iastore, 1) := by decide +kernel
theorem dX6_put_27 : decode cX6_put 27 = .ok (.return_, 1) := by decide +kernel
theorem dX6_tie__0 : decode cX6_tie_ 0 = .ok (.aload_n 0, 1) := by decide +kernel
theorem dX6_tie__1 : decode cX6_tie_ 1 = .ok (.getfield 13, 3) := by decide +kernel
theorem dX6_tie__4 : decode cX6_tie_ 4 = .ok (.iload_n 2, 1) := by decide +kernel
theorem dX6_tie__5 : decode cX6_tie_ 5 = .ok (.dup2, 1) := by decide +kernel
theorem dX6_tie__6 : decode cX6_tie_ 6 = .ok (.iaload, 1) := by decide +kernel
theorem dX6_tie__7 : decode cX6_tie_ 7 = .ok (.iconst 1, 1) := by decide +kernel
theorem dX6_tie__8 : decode cX6_tie_ 8 = .ok (.iadd, 1) := by decide +kernel
theorem dX6_tie__9 : decode cX6_tie_ 9 = .ok (.iastore, 1) := by decide +kernel
theorem dX6_tie__10 : decode cX6_tie_ 10 = .ok (.iconst 0, 1) := by decide +kernel
theorem dX6_tie__11 : decode cX6_tie_ 11 = .ok (.istore_n 3, 1) := by decide +kernel
theorem dX6_tie__12 : decode cX6_tie_ 12 = .ok (.iload_n 3, 1) := by decide +kernel
theorem dX6_tie__13 : decode cX6_tie_ 13 = .ok (.aload_n 0, 1) := by decide +kernel
theorem dX6_tie__14 : decode cX6_tie_ 14 = .ok (.getfield 9, 3) := by decide +kernel
theorem dX6_tie__17 : decode cX6_tie_ 17 = .ok (.iload_n 2, 1) := by decide +kernel
theorem dX6_tie__18 : decode cX6_tie_ 18 = .ok (.iaload, 1) := by decide +kernel
theorem dX6_tie__19 : decode cX6_tie_ 19 = .ok (.invokestatic 62, 3) := by decide +kernel
theorem dX6_tie__22 : decode cX6_tie_ 22 = .ok (.if_icmp .ge 113, 3) := by decide +kernel
theorem dX6_tie__25 : decode cX6_tie_ 25 = .ok (.aload_n 0, 1) := by decide +kernel
theorem dX6_tie__26 : decode cX6_tie_ 26 = .ok (.getfield 9, 3) := by decide +kernel
theorem dX6_tie__29 : decode cX6_tie_ 29 = .ok (.iload_n 2, 1) := by decide +kernel
theorem dX6_tie__30 : decode cX6_tie_ 30 = .ok (.iaload, 1) := by decide +kernel
theorem dX6_tie__31 : decode cX6_tie_ 31 = .ok (.iload_n 3, 1) := by decide +kernel
theorem dX6_tie__32 : decode cX6_tie_ 32 = .ok (.invokestatic 90, 3) := by decide +kernel
theorem dX6_tie__35 : decode cX6_tie_ 35 = .ok (.istore 4, 2) := by decide +kernel
theorem dX6_tie__37 : decode cX6_tie_ 37 = .ok (.aload_n 0, 1) := by decide +kernel
theorem dX6_tie__38 : decode cX6_tie_ 38 = .ok (.dup, 1) := by decide +kernel
theorem dX6_tie__39 : decode cX6_tie_ 39 = .ok (.getfield 123, 3) := by decide +kernel
theorem dX6_tie__42 : decode cX6_tie_ 42 = .ok (.iconst 1, 1) := by decide +kernel
theorem dX6_tie__43 : decode cX6_tie_ 43 = .ok (.iadd, 1) := by decide +kernel
theorem dX6_tie__44 : decode cX6_tie_ 44 = .ok (.putfield 123, 3) := by decide +kernel
theorem dX6_tie__47 : decode cX6_tie_ 47 = .ok (.aload_n 0, 1) := by decide +kernel
theorem dX6_tie__48 : decode cX6_tie_ 48 = .ok (.getfield 104, 3) := by decide +kernel
theorem dX6_tie__51 : decode cX6_tie_ 51 = .ok (.ifCond .le 28, 3) := by decide +kernel
theorem dX6_tie__54 : decode cX6_tie_ 54 = .ok (.aload_n 0, 1) := by decide +kernel
theorem dX6_tie__55 : decode cX6_tie_ 55 = .ok (.getfield 123, 3) := by decide +kernel
theorem dX6_tie__58 : decode cX6_tie_ 58 = .ok (.aload_n 0, 1) := by decide +kernel
theorem dX6_tie__59 : decode cX6_tie_ 59 = .ok (.getfield 104, 3) := by decide +kernel
theorem dX6_tie__62 : decode cX6_tie_ 62 = .ok (.irem, 1) := by decide +kernel
theorem dX6_tie__63 : decode cX6_tie_ 63 = .ok (.ifCond .ne 16, 3) := by decide +kernel
theorem dX6_tie__66 : decode cX6_tie_ 66 = .ok (.aload_n 0, 1) := by decide +kernel
theorem dX6_tie__67 : decode cX6_tie_ 67 = .ok (.getfield 35, 3) := by decide +kernel
theorem dX6_tie__70 : decode cX6_tie_ 70 = .ok (.iload_n 1, 1) := by decide +kernel
theorem dX6_tie__71 : decode cX6_tie_ 71 = .ok (.dup2, 1) := by decide +kernel
theorem dX6_tie__72 : decode cX6_tie_ 72 = .ok (.iaload, 1) := by decide +kernel
theorem dX6_tie__73 : decode cX6_tie_ 73 = .ok (.iconst 1, 1) := by decide +kernel
theorem dX6_tie__74 : decode cX6_tie_ 74 = .ok (.iadd, 1) := by decide +kernel
theorem dX6_tie__75 : decode cX6_tie_ 75 = .ok (.iastore, 1) := by decide +kernel
theorem dX6_tie__76 : decode cX6_tie_ 76 = .ok (.goto 53, 3) := by decide +kernel
theorem dX6_tie__79 : decode cX6_tie_ 79 = .ok (.aload_n 0, 1) := by decide +kernel
theorem dX6_tie__80 : decode cX6_tie_ 80 = .ok (.getfield 101, 3) := by decide +kernel
theorem dX6_tie__83 : decode cX6_tie_ 83 = .ok (.ifCond .le 39, 3) := by decide +kernel
theorem dX6_tie__86 : decode cX6_tie_ 86 = .ok (.aload_n 0, 1) := by decide +kernel
theorem dX6_tie__87 : decode cX6_tie_ 87 = .ok (.getfield 123, 3) := by decide +kernel
theorem dX6_tie__90 : decode cX6_tie_ 90 = .ok (.aload_n 0, 1) := by decide +kernel
theorem dX6_tie__91 : decode cX6_tie_ 91 = .ok (.getfield 101, 3) := by decide +kernel
theorem dX6_tie__94 : decode cX6_tie_ 94 = .ok (.irem, 1) := by decide +kernel
theorem dX6_tie__95 : decode cX6_tie_ 95 = .ok (.ifCond .ne 27, 3) := by decide +kernel
theorem dX6_tie__98 : decode cX6_tie_ 98 = .ok (.aload_n 0, 1) := by decide +kernel
theorem dX6_tie__99 : decode cX6_tie_ 99 = .ok (.getfield 32, 3) := by decide +kernel
theorem dX6_tie__102 : decode cX6_tie_ 102 = .ok (.iload_n 1, 1) := by decide +kernel
theorem dX6_tie__103 : decode cX6_tie_ 103 = .ok (.dup2, 1) := by decide +kernel
theorem dX6_tie__104 : decode cX6_tie_ 104 = .ok (.iaload, 1) := by decide +kernel
theorem dX6_tie__105 : decode cX6_tie_ 105 = .ok (.iconst 1, 1) := by decide +kernel
theorem dX6_tie__106 : decode cX6_tie_ 106 = .ok (.iadd, 1) := by decide +kernel
theorem dX6_tie__107 : decode cX6_tie_ 107 = .ok (.iastore, 1) := by decide +kernel
theorem dX6_tie__108 : decode cX6_tie_ 108 = .ok (.aload_n 0, 1) := by decide +kernel
theorem dX6_tie__109 : decode cX6_tie_ 109 = .ok (.iload_n 1, 1) := by decide +kernel
theorem dX6_tie__110 : decode cX6_tie_ 110 = .ok (.iload 4, 2) := by decide +kernel
theorem dX6_tie__112 : decode cX6_tie_ 112 = .ok (.iconst 4, 1) := by decide +kernel
theorem dX6_tie__113 : decode cX6_tie_ 113 = .ok (.irem, 1) := by decide +kernel
theorem dX6_tie__114 : decode cX6_tie_ 114 = .ok (.iconst 1, 1) := by decide +kernel
theorem dX6_tie__115 : decode cX6_tie_ 115 = .ok (.iadd, 1) := by decide +kernel
theorem dX6_tie__116 : decode cX6_tie_ 116 = .ok (.invokevirtual 116, 3) := by decide +kernel
theorem dX6_tie__119 : decode cX6_tie_ 119 = .ok (.goto 10, 3) := by decide +kernel
theorem dX6_tie__122 : decode cX6_tie_ 122 = .ok (.aload_n 0, 1) := by decide +kernel
theorem dX6_tie__123 : decode cX6_tie_ 123 = .ok (.iload_n 1, 1) := by decide +kernel
theorem dX6_tie__124 : decode cX6_tie_ 124 = .ok (.iload 4, 2) := by decide +kernel
theorem dX6_tie__126 : decode cX6_tie_ 126 = .ok (.invokevirtual 116, 3) := by decide +kernel
theorem dX6_tie__129 : decode cX6_tie_ 129 = .ok (.iinc 3 1, 3) := by decide +kernel
theorem dX6_tie__132 : decode cX6_tie_ 132 = .ok (.goto (-120), 3) := by decide +kernel
theorem dX6_tie__135 : decode cX6_tie_ 135 = .ok (.return_, 1) := by decide +kernel
theorem dX6_isCord_0 : decode cX6_isCord 0 = .ok (.iload_n 1, 1) := by decide +kernel
theorem dX6_isCord_1 : decode cX6_isCord 1 = .ok (.iconst 0, 1) := by decide +kernel
theorem dX6_isCord_2 : decode cX6_isCord 2 = .ok (.aload_n 0, 1) := by decide +kernel
theorem dX6_isCord_3 : decode cX6_isCord 3 = .ok (.getfield 113, 3) := by decide +kernel
theorem dX6_isCord_6 : decode cX6_isCord 6 = .ok (.iconst 1, 1) := by decide +kernel
theorem dX6_isCord_7 : decode cX6_isCord 7 = .ok (.isub, 1) := by decide +kernel
theorem dX6_isCord_8 : decode cX6_isCord 8 = .ok (.invokestatic 66, 3) := by decide +kernel
theorem dX6_isCord_11 : decode cX6_isCord 11 = .ok (.ireturn, 1) := by decide +kernel
theorem dX6_find_0 : decode cX6_find 0 = .ok (.iload_n 2, 1) := by decide +kernel
theorem dX6_find_1 : decode cX6_find 1 = .ok (.iload_n 1, 1) := by decide +kernel
theorem dX6_find_2 : decode cX6_find 2 = .ok (.isub, 1) := by decide +kernel
theorem dX6_find_3 : decode cX6_find 3 = .ok (.istore_n 3, 1) := by decide +kernel
theorem dX6_find_4 : decode cX6_find 4 = .ok (.iload_n 3, 1) := by decide +kernel
theorem dX6_find_5 : decode cX6_find 5 = .ok (.istore 4, 2) := by decide +kernel
theorem dX6_find_7 : decode cX6_find 7 = .ok (.iload 4, 2) := by decide +kernel
theorem dX6_find_9 : decode cX6_find 9 = .ok (.ifCond .lt 136, 3) := by decide +kernel
theorem dX6_find_12 : decode cX6_find 12 = .ok (.aload_n 0, 1) := by decide +kernel
theorem dX6_find_13 : decode cX6_find 13 = .ok (.getfield 44, 3) := by decide +kernel
theorem dX6_find_16 : decode cX6_find 16 = .ok (.iload 4, 2) := by decide +kernel
theorem dX6_find_18 : decode cX6_find 18 = .ok (.iload 4, 2) := by decide +kernel
theorem dX6_find_20 : decode cX6_find 20 = .ok (.iload_n 3, 1) := by decide +kernel
theorem dX6_find_21 : decode cX6_find 21 = .ok (.if_icmp .ne 7, 3) := by decide +kernel
theorem dX6_find_24 : decode cX6_find 24 = .ok (.iconst 0, 1) := by decide +kernel
theorem dX6_find_25 : decode cX6_find 25 = .ok (.goto 5, 3) := by decide +kernel
theorem dX6_find_28 : decode cX6_find 28 = .ok (.ldc 97, 2) := by decide +kernel
theorem dX6_find_30 : decode cX6_find 30 = .ok (.iastore, 1) := by decide +kernel
theorem dX6_find_31 : decode cX6_find 31 = .ok (.aload_n 0, 1) := by decide +kernel
theorem dX6_find_32 : decode cX6_find 32 = .ok (.getfield 47, 3) := by decide +kernel
theorem dX6_find_35 : decode cX6_find 35 = .ok (.iload 4, 2) := by decide +kernel
theorem dX6_find_37 : decode cX6_find 37 = .ok (.iconst 0, 1) := by decide +kernel
theorem dX6_find_38 : decode cX6_find 38 = .ok (.iastore, 1) := by decide +kernel
theorem dX6_find_39 : decode cX6_find 39 = .ok (.iconst 0, 1) := by decide +kernel
theorem dX6_find_40 : decode cX6_find 40 = .ok (.istore 5, 2) := by decide +kernel
theorem dX6_find_42 : decode cX6_find 42 = .ok (.iload 5, 2) := by decide +kernel
theorem dX6_find_44 : decode cX6_find 44 = .ok (.bipush 12, 2) := by decide +kernel
theorem dX6_find_46 : decode cX6_find 46 = .ok (.if_icmp .ge 93, 3) := by decide +kernel
theorem dX6_find_49 : decode cX6_find 49 = .ok (.iload 4, 2) := by decide +kernel
theorem dX6_find_51 : decode cX6_find 51 = .ok (.iload_n 3, 1) := by decide +kernel
theorem dX6_find_52 : decode cX6_find 52 = .ok (.if_icmp .ge 87, 3) := by decide +kernel
theorem dX6_find_55 : decode cX6_find 55 = .ok (.aload_n 0, 1) := by decide +kernel
theorem dX6_find_56 : decode cX6_find 56 = .ok (.getfield 9, 3) := by decide +kernel
theorem dX6_find_59 : decode cX6_find 59 = .ok (.iload 5, 2) := by decide +kernel
theorem dX6_find_61 : decode cX6_find 61 = .ok (.iaload, 1) := by decide +kernel
theorem dX6_find_62 : decode cX6_find 62 = .ok (.ifCond .ne 6, 3) := by decide +kernel
theorem dX6_find_65 : decode cX6_find 65 = .ok (.goto 68, 3) := by decide +kernel
theorem dX6_find_68 : decode cX6_find 68 = .ok (.aload_n 0, 1) := by decide +kernel
theorem dX6_find_69 : decode cX6_find 69 = .ok (.aload_n 0, 1) := by decide +kernel
theorem dX6_find_70 : decode cX6_find 70 = .ok (.getfield 9, 3) := by decide +kernel
theorem dX6_find_73 : decode cX6_find 73 = .ok (.iload 5, 2) := by decide +kernel
theorem dX6_find_75 : decode cX6_find 75 = .ok (.iaload, 1) := by decide +kernel
theorem dX6_find_76 : decode cX6_find 76 = .ok (.iload_n 1, 1) := by decide +kernel
theorem dX6_find_77 : decode cX6_find 77 = .ok (.iload 4, 2) := by decide +kernel
theorem dX6_find_79 : decode cX6_find 79 = .ok (.iadd, 1) := by decide +kernel
theorem dX6_find_80 : decode cX6_find 80 = .ok (.iload_n 2, 1) := by decide +kernel
theorem dX6_find_81 : decode cX6_find 81 = .ok (.invokevirtual 126, 3) := by decide +kernel
theorem dX6_find_84 : decode cX6_find 84 = .ok (.iconst 1, 1) := by decide +kernel
theorem dX6_find_85 : decode cX6_find 85 = .ok (.istore 6, 2) := by decide +kernel
theorem dX6_find_87 : decode cX6_find 87 = .ok (.iload 6, 2) := by decide +kernel
theorem dX6_find_89 : decode cX6_find 89 = .ok (.iload_n 3, 1) := by decide +kernel
theorem dX6_find_90 : decode cX6_find 90 = .ok (.iload 4, 2) := by decide +kernel
theorem dX6_find_92 : decode cX6_find 92 = .ok (.isub, 1) := by decide +kernel
theorem dX6_find_93 : decode cX6_find 93 = .ok (.if_icmp .gt 40, 3) := by decide +kernel
theorem dX6_find_96 : decode cX6_find 96 = .ok (.aload_n 0, 1) := by decide +kernel
theorem dX6_find_97 : decode cX6_find 97 = .ok (.iload 4, 2) := by decide +kernel
theorem dX6_find_99 : decode cX6_find 99 = .ok (.iload 5, 2) := by decide +kernel
theorem dX6_find_101 : decode cX6_find 101 = .ok (.aload_n 0, 1) := by decide +kernel
theorem dX6_find_102 : decode cX6_find 102 = .ok (.getfield 56, 3) := by decide +kernel
theorem dX6_find_105 : decode cX6_find 105 = .ok (.iload 6, 2) := by decide +kernel
theorem dX6_find_107 : decode cX6_find 107 = .ok (.iaload, 1) := by decide +kernel
theorem dX6_find_108 : decode cX6_find 108 = .ok (.aload_n 0, 1) := by decide +kernel
theorem dX6_find_109 : decode cX6_find 109 = .ok (.getfield 44, 3) := by decide +kernel
theorem dX6_find_112 : decode cX6_find 112 = .ok (.iload 4, 2) := by decide +kernel
theorem dX6_find_114 : decode cX6_find 114 = .ok (.iload 6, 2) := by decide +kernel
theorem dX6_find_116 : decode cX6_find 116 = .ok (.iadd, 1) := by decide +kernel
theorem dX6_find_117 : decode cX6_find 117 = .ok (.iaload, 1) := by decide +kernel
theorem dX6_find_118 : decode cX6_find 118 = .ok (.iadd, 1) := by decide +kernel
theorem dX6_find_119 : decode cX6_find 119 = .ok (.iload 4, 2) := by decide +kernel
theorem dX6_find_121 : decode cX6_find 121 = .ok (.iload 6, 2) := by decide +kernel
theorem dX6_find_123 : decode cX6_find 123 = .ok (.iadd, 1) := by decide +kernel
theorem dX6_find_124 : decode cX6_find 124 = .ok (.invokevirtual 130, 3) := by decide +kernel
theorem dX6_find_127 : decode cX6_find 127 = .ok (.iinc 6 1, 3) := by decide +kernel
theorem dX6_find_130 : decode cX6_find 130 = .ok (.goto (-43), 3) := by decide +kernel
theorem dX6_find_133 : decode cX6_find 133 = .ok (.iinc 5 1, 3) := by decide +kernel
theorem dX6_find_136 : decode cX6_find 136 = .ok (.goto (-94), 3) := by decide +kernel
theorem dX6_find_139 : decode cX6_find 139 = .ok (.iinc 4 (-1), 3) := by decide +kernel
theorem dX6_find_142 : decode cX6_find 142 = .ok (.goto (-135), 3) := by decide +kernel
theorem dX6_find_145 : decode cX6_find 145 = .ok (.iload_n 3, 1) := by decide +kernel
theorem dX6_find_146 : decode cX6_find 146 = .ok (.aload_n 0, 1) := by decide +kernel
theorem dX6_find_147 : decode cX6_find 147 = .ok (.getfield 23, 3) := by decide +kernel
theorem dX6_find_150 : decode cX6_find 150 = .ok (.imul, 1) := by decide +kernel
theorem dX6_find_151 : decode cX6_find 151 = .ok (.aload_n 0, 1) := by decide +kernel
theorem dX6_find_152 : decode cX6_find 152 = .ok (.getfield 44, 3) := by decide +kernel
theorem dX6_find_155 : decode cX6_find 155 = .ok (.iconst 0, 1) := by decide +kernel
theorem dX6_find_156 : decode cX6_find 156 = .ok (.iaload, 1) := by decide +kernel
theorem dX6_find_157 : decode cX6_find 157 = .ok (.if_icmp .le 4, 3) := by decide +kernel
theorem dX6_find_160 : decode cX6_find 160 = .ok (.return_, 1) := by decide +kernel
theorem dX6_find_161 : decode cX6_find 161 = .ok (.aload_n 0, 1) := by decide +kernel
theorem dX6_find_162 : decode cX6_find 162 = .ok (.getfield 44, 3) := by decide +kernel
theorem dX6_find_165 : decode cX6_find 165 = .ok (.iconst 0, 1) := by decide +kernel
theorem dX6_find_166 : decode cX6_find 166 = .ok (.iload_n 3, 1) := by decide +kernel
theorem dX6_find_167 : decode cX6_find 167 = .ok (.aload_n 0, 1) := by decide +kernel
theorem dX6_find_168 : decode cX6_find 168 = .ok (.getfield 23, 3) := by decide +kernel
theorem dX6_find_171 : decode cX6_find 171 = .ok (.imul, 1) := by decide +kernel
theorem dX6_find_172 : decode cX6_find 172 = .ok (.iastore, 1) := by decide +kernel
theorem dX6_find_173 : decode cX6_find 173 = .ok (.aload_n 0, 1) := by decide +kernel
theorem dX6_find_174 : decode cX6_find 174 = .ok (.getfield 47, 3) := by decide +kernel
theorem dX6_find_177 : decode cX6_find 177 = .ok (.iconst 0, 1) := by decide +kernel
theorem dX6_find_178 : decode cX6_find 178 = .ok (.iconst 0, 1) := by decide +kernel
theorem dX6_find_179 : decode cX6_find 179 = .ok (.iastore, 1) := by decide +kernel
theorem dX6_find_180 : decode cX6_find 180 = .ok (.return_, 1) := by decide +kernel
theorem dX6_improve_0 : decode cX6_improve 0 = .ok (.iload_n 3, 1) := by decide +kernel
theorem dX6_improve_1 : decode cX6_improve 1 = .ok (.aload_n 0, 1) := by decide +kernel
theorem dX6_improve_2 : decode cX6_improve 2 = .ok (.getfield 44, 3) := by decide +kernel
theorem dX6_improve_5 : decode cX6_improve 5 = .ok (.iload_n 1, 1) := by decide +kernel
theorem dX6_improve_6 : decode cX6_improve 6 = .ok (.iaload, 1) := by decide +kernel
theorem dX6_improve_7 : decode cX6_improve 7 = .ok (.if_icmp .gt 31, 3) := by decide +kernel
theorem dX6_improve_10 : decode cX6_improve 10 = .ok (.iload_n 3, 1) := by decide +kernel
theorem dX6_improve_11 : decode cX6_improve 11 = .ok (.aload_n 0, 1) := by decide +kernel
theorem dX6_improve_12 : decode cX6_improve 12 = .ok (.getfield 44, 3) := by decide +kernel
theorem dX6_improve_15 : decode cX6_improve 15 = .ok (.iload_n 1, 1) := by decide +kernel
theorem dX6_improve_16 : decode cX6_improve 16 = .ok (.iaload, 1) := by decide +kernel
theorem dX6_improve_17 : decode cX6_improve 17 = .ok (.if_icmp .ne 22, 3) := by decide +kernel
theorem dX6_improve_20 : decode cX6_improve 20 = .ok (.aload_n 0, 1) := by decide +kernel
theorem dX6_improve_21 : decode cX6_improve 21 = .ok (.getfield 47, 3) := by decide +kernel
theorem dX6_improve_24 : decode cX6_improve 24 = .ok (.iload 4, 2) := by decide +kernel
theorem dX6_improve_26 : decode cX6_improve 26 = .ok (.iaload, 1) := by decide +kernel
theorem dX6_improve_27 : decode cX6_improve 27 = .ok (.iconst 1, 1) := by decide +kernel
theorem dX6_improve_28 : decode cX6_improve 28 = .ok (.iadd, 1) := by decide +kernel
theorem dX6_improve_29 : decode cX6_improve 29 = .ok (.aload_n 0, 1) := by decide +kernel
theorem dX6_improve_30 : decode cX6_improve 30 = .ok (.getfield 47, 3) := by decide +kernel
theorem dX6_improve_33 : decode cX6_improve 33 = .ok (.iload_n 1, 1) := by decide +kernel
theorem dX6_improve_34 : decode cX6_improve 34 = .ok (.iaload, 1) := by decide +kernel
theorem dX6_improve_35 : decode cX6_improve 35 = .ok (.if_icmp .le 4, 3) := by decide +kernel
theorem dX6_improve_38 : decode cX6_improve 38 = .ok (.return_, 1) := by decide +kernel
theorem dX6_improve_39 : decode cX6_improve 39 = .ok (.iload_n 3, 1) := by decide +kernel
theorem dX6_improve_40 : decode cX6_improve 40 = .ok (.aload_n 0, 1) := by decide +kernel
theorem dX6_improve_41 : decode cX6_improve 41 = .ok (.getfield 44, 3) := by decide +kernel
theorem dX6_improve_44 : decode cX6_improve 44 = .ok (.iload_n 1, 1) := by decide +kernel
theorem dX6_improve_45 : decode cX6_improve 45 = .ok (.iaload, 1) := by decide +kernel
theorem dX6_improve_46 : decode cX6_improve 46 = .ok (.if_icmp .ne 44, 3) := by decide +kernel
theorem dX6_improve_49 : decode cX6_improve 49 = .ok (.aload_n 0, 1) := by decide +kernel
theorem dX6_improve_50 : decode cX6_improve 50 = .ok (.getfield 47, 3) := by decide +kernel
theorem dX6_improve_53 : decode cX6_improve 53 = .ok (.iload 4, 2) := by decide +kernel
theorem dX6_improve_55 : decode cX6_improve 55 = .ok (.iaload, 1) := by decide +kernel
theorem dX6_improve_56 : decode cX6_improve 56 = .ok (.iconst 1, 1) := by decide +kernel
theorem dX6_improve_57 : decode cX6_improve 57 = .ok (.iadd, 1) := by decide +kernel
theorem dX6_improve_58 : decode cX6_improve 58 = .ok (.aload_n 0, 1) := by decide +kernel
theorem dX6_improve_59 : decode cX6_improve 59 = .ok (.getfield 47, 3) := by decide +kernel
theorem dX6_improve_62 : decode cX6_improve 62 = .ok (.iload_n 1, 1) := by decide +kernel
theorem dX6_improve_63 : decode cX6_improve 63 = .ok (.iaload, 1) := by decide +kernel
theorem dX6_improve_64 : decode cX6_improve 64 = .ok (.if_icmp .ne 26, 3) := by decide +kernel
theorem dX6_improve_67 : decode cX6_improve 67 = .ok (.aload_n 0, 1) := by decide +kernel
theorem dX6_improve_68 : decode cX6_improve 68 = .ok (.iload_n 2, 1) := by decide +kernel
theorem dX6_improve_69 : decode cX6_improve 69 = .ok (.iload 4, 2) := by decide +kernel
theorem dX6_improve_71 : decode cX6_improve 71 = .ok (.aload_n 0, 1) := by decide +kernel
theorem dX6_improve_72 : decode cX6_improve 72 = .ok (.getfield 50, 3) := by decide +kernel
theorem dX6_improve_75 : decode cX6_improve 75 = .ok (.iload_n 1, 1) := by decide +kernel
theorem dX6_improve_76 : decode cX6_improve 76 = .ok (.iaload, 1) := by decide +kernel
theorem dX6_improve_77 : decode cX6_improve 77 = .ok (.aload_n 0, 1) := by decide +kernel
theorem dX6_improve_78 : decode cX6_improve 78 = .ok (.getfield 53, 3) := by decide +kernel
theorem dX6_improve_81 : decode cX6_improve 81 = .ok (.iload_n 1, 1) := by decide +kernel
theorem dX6_improve_82 : decode cX6_improve 82 = .ok (.iaload, 1) := by decide +kernel
theorem dX6_improve_83 : decode cX6_improve 83 = .ok (.invokevirtual 134, 3) := by decide +kernel
theorem dX6_improve_86 : decode cX6_improve 86 = .ok (.ifCond .ne 4, 3) := by decide +kernel
theorem dX6_improve_89 : decode cX6_improve 89 = .ok (.return_, 1) := by decide +kernel
theorem dX6_improve_90 : decode cX6_improve 90 = .ok (.aload_n 0, 1) := by decide +kernel
theorem dX6_improve_91 : decode cX6_improve 91 = .ok (.getfield 44, 3) := by decide +kernel
theorem dX6_improve_94 : decode cX6_improve 94 = .ok (.iload_n 1, 1) := by decide +kernel
theorem dX6_improve_95 : decode cX6_improve 95 = .ok (.iload_n 3, 1) := by decide +kernel
theorem dX6_improve_96 : decode cX6_improve 96 = .ok (.iastore, 1) := by decide +kernel
theorem dX6_improve_97 : decode cX6_improve 97 = .ok (.aload_n 0, 1) := by decide +kernel
theorem dX6_improve_98 : decode cX6_improve 98 = .ok (.getfield 47, 3) := by decide +kernel
theorem dX6_improve_101 : decode cX6_improve 101 = .ok (.iload_n 1, 1) := by decide +kernel
theorem dX6_improve_102 : decode cX6_improve 102 = .ok (.aload_n 0, 1) := by decide +kernel
theorem dX6_improve_103 : decode cX6_improve 103 = .ok (.getfield 47, 3) := by decide +kernel
theorem dX6_improve_106 : decode cX6_improve 106 = .ok (.iload 4, 2) := by decide +kernel
theorem dX6_improve_108 : decode cX6_improve 108 = .ok (.iaload, 1) := by decide +kernel
theorem dX6_improve_109 : decode cX6_improve 109 = .ok (.iconst 1, 1) := by decide +kernel
theorem dX6_improve_110 : decode cX6_improve 110 = .ok (.iadd, 1) := by decide +kernel
theorem dX6_improve_111 : decode cX6_improve 111 = .ok (.iastore, 1) := by decide +kernel
theorem dX6_improve_112 : decode cX6_improve 112 = .ok (.aload_n 0, 1) := by decide +kernel
theorem dX6_improve_113 : decode cX6_improve 113 = .ok (.getfield 50, 3) := by decide +kernel
theorem dX6_improve_116 : decode cX6_improve 116 = .ok (.iload_n 1, 1) := by decide +kernel
theorem dX6_improve_117 : decode cX6_improve 117 = .ok (.iload_n 2, 1) := by decide +kernel
theorem dX6_improve_118 : decode cX6_improve 118 = .ok (.iastore, 1) := by decide +kernel
theorem dX6_improve_119 : decode cX6_improve 119 = .ok (.aload_n 0, 1) := by decide +kernel
theorem dX6_improve_120 : decode cX6_improve 120 = .ok (.getfield 53, 3) := by decide +kernel
theorem dX6_improve_123 : decode cX6_improve 123 = .ok (.iload_n 1, 1) := by decide +kernel
theorem dX6_improve_124 : decode cX6_improve 124 = .ok (.iload 4, 2) := by decide +kernel
theorem dX6_improve_126 : decode cX6_improve 126 = .ok (.iastore, 1) := by decide +kernel
theorem dX6_improve_127 : decode cX6_improve 127 = .ok (.return_, 1) := by decide +kernel
theorem dX6_isAhead_0 : decode cX6_isAhead 0 = .ok (.iload_n 1, 1) := by decide +kernel
theorem dX6_isAhead_1 : decode cX6_isAhead 1 = .ok (.iload_n 3, 1) := by decide +kernel
theorem dX6_isAhead_2 : decode cX6_isAhead 2 = .ok (.if_icmp .eq 14, 3) := by decide +kernel
theorem dX6_isAhead_5 : decode cX6_isAhead 5 = .ok (.iload_n 1, 1) := by decide +kernel
theorem dX6_isAhead_6 : decode cX6_isAhead 6 = .ok (.iload_n 3, 1) := by decide +kernel
theorem dX6_isAhead_7 : decode cX6_isAhead 7 = .ok (.if_icmp .ge 7, 3) := by decide +kernel
theorem dX6_isAhead_10 : decode cX6_isAhead 10 = .ok (.iconst 1, 1) := by decide +kernel
theorem dX6_isAhead_11 : decode cX6_isAhead 11 = .ok (.goto 4, 3) := by decide +kernel
theorem dX6_isAhead_14 : decode cX6_isAhead 14 = .ok (.iconst 0, 1) := by decide +kernel
theorem dX6_isAhead_15 : decode cX6_isAhead 15 = .ok (.ireturn, 1) := by decide +kernel
theorem dX6_isAhead_16 : decode cX6_isAhead 16 = .ok (.iload_n 2, 1) := by decide +kernel
theorem dX6_isAhead_17 : decode cX6_isAhead 17 = .ok (.istore 5, 2) := by decide +kernel
theorem dX6_isAhead_19 : decode cX6_isAhead 19 = .ok (.iload 4, 2) := by decide +kernel
theorem dX6_isAhead_21 : decode cX6_isAhead 21 = .ok (.istore 6, 2) := by decide +kernel
theorem dX6_isAhead_23 : decode cX6_isAhead 23 = .ok (.aload_n 0, 1) := by decide +kernel
theorem dX6_isAhead_24 : decode cX6_isAhead 24 = .ok (.getfield 47, 3) := by decide +kernel
theorem dX6_isAhead_27 : decode cX6_isAhead 27 = .ok (.iload 5, 2) := by decide +kernel
theorem dX6_isAhead_29 : decode cX6_isAhead 29 = .ok (.iaload, 1) := by decide +kernel
theorem dX6_isAhead_30 : decode cX6_isAhead 30 = .ok (.ifCond .le 48, 3) := by decide +kernel
theorem dX6_isAhead_33 : decode cX6_isAhead 33 = .ok (.aload_n 0, 1) := by decide +kernel
theorem dX6_isAhead_34 : decode cX6_isAhead 34 = .ok (.getfield 50, 3) := by decide +kernel
theorem dX6_isAhead_37 : decode cX6_isAhead 37 = .ok (.iload 5, 2) := by decide +kernel
theorem dX6_isAhead_39 : decode cX6_isAhead 39 = .ok (.iaload, 1) := by decide +kernel
theorem dX6_isAhead_40 : decode cX6_isAhead 40 = .ok (.aload_n 0, 1) := by decide +kernel
theorem dX6_isAhead_41 : decode cX6_isAhead 41 = .ok (.getfield 50, 3) := by decide +kernel
theorem dX6_isAhead_44 : decode cX6_isAhead 44 = .ok (.iload 6, 2) := by decide +kernel
theorem dX6_isAhead_46 : decode cX6_isAhead 46 = .ok (.iaload, 1) := by decide +kernel
theorem dX6_isAhead_47 : decode cX6_isAhead 47 = .ok (.if_icmp .ne 31, 3) := by decide +kernel
theorem dX6_isAhead_50 : decode cX6_isAhead 50 = .ok (.iload 5, 2) := by decide +kernel
theorem dX6_isAhead_52 : decode cX6_isAhead 52 = .ok (.iload 6, 2) := by decide +kernel
theorem dX6_isAhead_54 : decode cX6_isAhead 54 = .ok (.if_icmp .eq 24, 3) := by decide +kernel
theorem dX6_isAhead_57 : decode cX6_isAhead 57 = .ok (.aload_n 0, 1) := by decide +kernel
theorem dX6_isAhead_58 : decode cX6_isAhead 58 = .ok (.getfield 53, 3) := by decide +kernel
theorem dX6_isAhead_61 : decode cX6_isAhead 61 = .ok (.iload 5, 2) := by decide +kernel
theorem dX6_isAhead_63 : decode cX6_isAhead 63 = .ok (.iaload, 1) := by decide +kernel
theorem dX6_isAhead_64 : decode cX6_isAhead 64 = .ok (.istore 5, 2) := by decide +kernel
theorem dX6_isAhead_66 : decode cX6_isAhead 66 = .ok (.aload_n 0, 1) := by decide +kernel
theorem dX6_isAhead_67 : decode cX6_isAhead 67 = .ok (.getfield 53, 3) := by decide +kernel
theorem dX6_isAhead_70 : decode cX6_isAhead 70 = .ok (.iload 6, 2) := by decide +kernel
theorem dX6_isAhead_72 : decode cX6_isAhead 72 = .ok (.iaload, 1) := by decide +kernel
theorem dX6_isAhead_73 : decode cX6_isAhead 73 = .ok (.istore 6, 2) := by decide +kernel
theorem dX6_isAhead_75 : decode cX6_isAhead 75 = .ok (.goto (-52), 3) := by decide +kernel
theorem dX6_isAhead_78 : decode cX6_isAhead 78 = .ok (.aload_n 0, 1) := by decide +kernel
theorem dX6_isAhead_79 : decode cX6_isAhead 79 = .ok (.getfield 47, 3) := by decide +kernel
theorem dX6_isAhead_82 : decode cX6_isAhead 82 = .ok (.iload 5, 2) := by decide +kernel
theorem dX6_isAhead_84 : decode cX6_isAhead 84 = .ok (.iaload, 1) := by decide +kernel
theorem dX6_isAhead_85 : decode cX6_isAhead 85 = .ok (.ifCond .le 24, 3) := by decide +kernel
theorem dX6_isAhead_88 : decode cX6_isAhead 88 = .ok (.aload_n 0, 1) := by decide +kernel
theorem dX6_isAhead_89 : decode cX6_isAhead 89 = .ok (.getfield 50, 3) := by decide +kernel
theorem dX6_isAhead_92 : decode cX6_isAhead 92 = .ok (.iload 5, 2) := by decide +kernel
theorem dX6_isAhead_94 : decode cX6_isAhead 94 = .ok (.iaload, 1) := by decide +kernel
theorem dX6_isAhead_95 : decode cX6_isAhead 95 = .ok (.aload_n 0, 1) := by decide +kernel
theorem dX6_isAhead_96 : decode cX6_isAhead 96 = .ok (.getfield 50, 3) := by decide +kernel
theorem dX6_isAhead_99 : decode cX6_isAhead 99 = .ok (.iload 6, 2) := by decide +kernel
theorem dX6_isAhead_101 : decode cX6_isAhead 101 = .ok (.iaload, 1) := by decide +kernel
theorem dX6_isAhead_102 : decode cX6_isAhead 102 = .ok (.if_icmp .ge 7, 3) := by decide +kernel
theorem dX6_isAhead_105 : decode cX6_isAhead 105 = .ok (.iconst 1, 1) := by decide +kernel
theorem dX6_isAhead_106 : decode cX6_isAhead 106 = .ok (.goto 4, 3) := by decide +kernel
theorem dX6_isAhead_109 : decode cX6_isAhead 109 = .ok (.iconst 0, 1) := by decide +kernel
theorem dX6_isAhead_110 : decode cX6_isAhead 110 = .ok (.ireturn, 1) := by decide +kernel
theorem dX6_ways_0 : decode cX6_ways 0 = .ok (.iload_n 2, 1) := by decide +kernel
theorem dX6_ways_1 : decode cX6_ways 1 = .ok (.iload_n 1, 1) := by decide +kernel
theorem dX6_ways_2 : decode cX6_ways 2 = .ok (.isub, 1) := by decide +kernel
theorem dX6_ways_3 : decode cX6_ways 3 = .ok (.iconst 1, 1) := by decide +kernel
theorem dX6_ways_4 : decode cX6_ways 4 = .ok (.iadd, 1) := by decide +kernel
theorem dX6_ways_5 : decode cX6_ways 5 = .ok (.newarray .int, 2) := by decide +kernel
theorem dX6_ways_7 : decode cX6_ways 7 = .ok (.astore_n 3, 1) := by decide +kernel
theorem dX6_ways_8 : decode cX6_ways 8 = .ok (.aload_n 3, 1) := by decide +kernel
theorem dX6_ways_9 : decode cX6_ways 9 = .ok (.iload_n 2, 1) := by decide +kernel
theorem dX6_ways_10 : decode cX6_ways 10 = .ok (.iload_n 1, 1) := by decide +kernel
theorem dX6_ways_11 : decode cX6_ways 11 = .ok (.isub, 1) := by decide +kernel
theorem dX6_ways_12 : decode cX6_ways 12 = .ok (.iconst 1, 1) := by decide +kernel
theorem dX6_ways_13 : decode cX6_ways 13 = .ok (.iastore, 1) := by decide +kernel
theorem dX6_ways_14 : decode cX6_ways 14 = .ok (.iload_n 2, 1) := by decide +kernel
theorem dX6_ways_15 : decode cX6_ways 15 = .ok (.iload_n 1, 1) := by decide +kernel
theorem dX6_ways_16 : decode cX6_ways 16 = .ok (.isub, 1) := by decide +kernel
theorem dX6_ways_17 : decode cX6_ways 17 = .ok (.iconst 1, 1) := by decide +kernel
theorem dX6_ways_18 : decode cX6_ways 18 = .ok (.isub, 1) := by decide +kernel
theorem dX6_ways_19 : decode cX6_ways 19 = .ok (.istore 4, 2) := by decide +kernel
theorem dX6_ways_21 : decode cX6_ways 21 = .ok (.iload 4, 2) := by decide +kernel
theorem dX6_ways_23 : decode cX6_ways 23 = .ok (.ifCond .lt 141, 3) := by decide +kernel
theorem dX6_ways_26 : decode cX6_ways 26 = .ok (.iconst 0, 1) := by decide +kernel
theorem dX6_ways_27 : decode cX6_ways 27 = .ok (.istore 5, 2) := by decide +kernel
theorem dX6_ways_29 : decode cX6_ways 29 = .ok (.iload 5, 2) := by decide +kernel
theorem dX6_ways_31 : decode cX6_ways 31 = .ok (.bipush 12, 2) := by decide +kernel
theorem dX6_ways_33 : decode cX6_ways 33 = .ok (.if_icmp .ge 125, 3) := by decide +kernel
theorem dX6_ways_36 : decode cX6_ways 36 = .ok (.aload_n 0, 1) := by decide +kernel
theorem dX6_ways_37 : decode cX6_ways 37 = .ok (.getfield 9, 3) := by decide +kernel
theorem dX6_ways_40 : decode cX6_ways 40 = .ok (.iload 5, 2) := by decide +kernel
theorem dX6_ways_42 : decode cX6_ways 42 = .ok (.iaload, 1) := by decide +kernel
theorem dX6_ways_43 : decode cX6_ways 43 = .ok (.invokestatic 62, 3) := by decide +kernel
theorem dX6_ways_46 : decode cX6_ways 46 = .ok (.istore 6, 2) := by decide +kernel
theorem dX6_ways_48 : decode cX6_ways 48 = .ok (.iload 6, 2) := by decide +kernel
theorem dX6_ways_50 : decode cX6_ways 50 = .ok (.ifCond .le 18, 3) := by decide +kernel
end
section
theorem dX6_ways_53 : decode cX6_ways 53 = .ok (.iload 6, 2) := by decide +kernel
theorem dX6_ways_55 : decode cX6_ways 55 = .ok (.iload_n 2, 1) := by decide +kernel
theorem dX6_ways_56 : decode cX6_ways 56 = .ok (.iload_n 1, 1) := by decide +kernel
theorem dX6_ways_57 : decode cX6_ways 57 = .ok (.isub, 1) := by decide +kernel
theorem dX6_ways_58 : decode cX6_ways 58 = .ok (.iload 4, 2) := by decide +kernel
theorem dX6_ways_60 : decode cX6_ways 60 = .ok (.isub, 1) := by decide +kernel
theorem dX6_ways_61 : decode cX6_ways 61 = .ok (.if_icmp .gt 7, 3) := by decide +kernel
theorem dX6_ways_64 : decode cX6_ways 64 = .ok (.iconst 1, 1) := by decide +kernel
theorem dX6_ways_65 : decode cX6_ways 65 = .ok (.goto 4, 3) := by decide +kernel
theorem dX6_ways_68 : decode cX6_ways 68 = .ok (.iconst 0, 1) := by decide +kernel
theorem dX6_ways_69 : decode cX6_ways 69 = .ok (.istore 7, 2) := by decide +kernel
theorem dX6_ways_71 : decode cX6_ways 71 = .ok (.iconst 0, 1) := by decide +kernel
theorem dX6_ways_72 : decode cX6_ways 72 = .ok (.istore 8, 2) := by decide +kernel
theorem dX6_ways_74 : decode cX6_ways 74 = .ok (.iload 8, 2) := by decide +kernel
theorem dX6_ways_76 : decode cX6_ways 76 = .ok (.iload 6, 2) := by decide +kernel
theorem dX6_ways_78 : decode cX6_ways 78 = .ok (.if_icmp .ge 48, 3) := by decide +kernel
theorem dX6_ways_81 : decode cX6_ways 81 = .ok (.iload 7, 2) := by decide +kernel
theorem dX6_ways_83 : decode cX6_ways 83 = .ok (.ifCond .eq 43, 3) := by decide +kernel
theorem dX6_ways_86 : decode cX6_ways 86 = .ok (.aload_n 0, 1) := by decide +kernel
theorem dX6_ways_87 : decode cX6_ways 87 = .ok (.getfield 9, 3) := by decide +kernel
theorem dX6_ways_90 : decode cX6_ways 90 = .ok (.iload 5, 2) := by decide +kernel
theorem dX6_ways_92 : decode cX6_ways 92 = .ok (.iaload, 1) := by decide +kernel
theorem dX6_ways_93 : decode cX6_ways 93 = .ok (.iload 8, 2) := by decide +kernel
theorem dX6_ways_95 : decode cX6_ways 95 = .ok (.invokestatic 90, 3) := by decide +kernel
theorem dX6_ways_98 : decode cX6_ways 98 = .ok (.aload_n 0, 1) := by decide +kernel
theorem dX6_ways_99 : decode cX6_ways 99 = .ok (.getfield 29, 3) := by decide +kernel
theorem dX6_ways_102 : decode cX6_ways 102 = .ok (.iload_n 1, 1) := by decide +kernel
theorem dX6_ways_103 : decode cX6_ways 103 = .ok (.iload 4, 2) := by decide +kernel
theorem dX6_ways_105 : decode cX6_ways 105 = .ok (.iadd, 1) := by decide +kernel
theorem dX6_ways_106 : decode cX6_ways 106 = .ok (.iload 8, 2) := by decide +kernel
theorem dX6_ways_108 : decode cX6_ways 108 = .ok (.iadd, 1) := by decide +kernel
theorem dX6_ways_109 : decode cX6_ways 109 = .ok (.iaload, 1) := by decide +kernel
theorem dX6_ways_110 : decode cX6_ways 110 = .ok (.if_icmp .ne 7, 3) := by decide +kernel
theorem dX6_ways_113 : decode cX6_ways 113 = .ok (.iconst 1, 1) := by decide +kernel
theorem dX6_ways_114 : decode cX6_ways 114 = .ok (.goto 4, 3) := by decide +kernel
theorem dX6_ways_117 : decode cX6_ways 117 = .ok (.iconst 0, 1) := by decide +kernel
theorem dX6_ways_118 : decode cX6_ways 118 = .ok (.istore 7, 2) := by decide +kernel
theorem dX6_ways_120 : decode cX6_ways 120 = .ok (.iinc 8 1, 3) := by decide +kernel
theorem dX6_ways_123 : decode cX6_ways 123 = .ok (.goto (-49), 3) := by decide +kernel
theorem dX6_ways_126 : decode cX6_ways 126 = .ok (.iload 7, 2) := by decide +kernel
theorem dX6_ways_128 : decode cX6_ways 128 = .ok (.ifCond .eq 24, 3) := by decide +kernel
theorem dX6_ways_131 : decode cX6_ways 131 = .ok (.aload_n 3, 1) := by decide +kernel
theorem dX6_ways_132 : decode cX6_ways 132 = .ok (.iload 4, 2) := by decide +kernel
theorem dX6_ways_134 : decode cX6_ways 134 = .ok (.ldc 138, 2) := by decide +kernel
theorem dX6_ways_136 : decode cX6_ways 136 = .ok (.aload_n 3, 1) := by decide +kernel
theorem dX6_ways_137 : decode cX6_ways 137 = .ok (.iload 4, 2) := by decide +kernel
theorem dX6_ways_139 : decode cX6_ways 139 = .ok (.iaload, 1) := by decide +kernel
theorem dX6_ways_140 : decode cX6_ways 140 = .ok (.aload_n 3, 1) := by decide +kernel
theorem dX6_ways_141 : decode cX6_ways 141 = .ok (.iload 4, 2) := by decide +kernel
theorem dX6_ways_143 : decode cX6_ways 143 = .ok (.iload 6, 2) := by decide +kernel
theorem dX6_ways_145 : decode cX6_ways 145 = .ok (.iadd, 1) := by decide +kernel
theorem dX6_ways_146 : decode cX6_ways 146 = .ok (.iaload, 1) := by decide +kernel
theorem dX6_ways_147 : decode cX6_ways 147 = .ok (.iadd, 1) := by decide +kernel
theorem dX6_ways_148 : decode cX6_ways 148 = .ok (.invokestatic 85, 3) := by decide +kernel
theorem dX6_ways_151 : decode cX6_ways 151 = .ok (.iastore, 1) := by decide +kernel
theorem dX6_ways_152 : decode cX6_ways 152 = .ok (.iinc 5 1, 3) := by decide +kernel
theorem dX6_ways_155 : decode cX6_ways 155 = .ok (.goto (-126), 3) := by decide +kernel
theorem dX6_ways_158 : decode cX6_ways 158 = .ok (.iinc 4 (-1), 3) := by decide +kernel
theorem dX6_ways_161 : decode cX6_ways 161 = .ok (.goto (-140), 3) := by decide +kernel
theorem dX6_ways_164 : decode cX6_ways 164 = .ok (.aload_n 3, 1) := by decide +kernel
theorem dX6_ways_165 : decode cX6_ways 165 = .ok (.iconst 0, 1) := by decide +kernel
theorem dX6_ways_166 : decode cX6_ways 166 = .ok (.iaload, 1) := by decide +kernel
theorem dX6_ways_167 : decode cX6_ways 167 = .ok (.ireturn, 1) := by decide +kernel
theorem dX6_over__0 : decode cX6_over_ 0 = .ok (.iload_n 2, 1) := by decide +kernel
theorem dX6_over__1 : decode cX6_over_ 1 = .ok (.bipush 6, 2) := by decide +kernel
theorem dX6_over__3 : decode cX6_over_ 3 = .ok (.if_icmp .ne 7, 3) := by decide +kernel
theorem dX6_over__6 : decode cX6_over_ 6 = .ok (.lconst 1, 1) := by decide +kernel
theorem dX6_over__7 : decode cX6_over_ 7 = .ok (.goto 4, 3) := by decide +kernel
theorem dX6_over__10 : decode cX6_over_ 10 = .ok (.lconst 0, 1) := by decide +kernel
theorem dX6_over__11 : decode cX6_over_ 11 = .ok (.lstore 4, 2) := by decide +kernel
theorem dX6_over__13 : decode cX6_over_ 13 = .ok (.bipush 40, 2) := by decide +kernel
theorem dX6_over__15 : decode cX6_over_ 15 = .ok (.iload_n 1, 1) := by decide +kernel
theorem dX6_over__16 : decode cX6_over_ 16 = .ok (.imul, 1) := by decide +kernel
theorem dX6_over__17 : decode cX6_over_ 17 = .ok (.istore 6, 2) := by decide +kernel
theorem dX6_over__19 : decode cX6_over_ 19 = .ok (.iload 6, 2) := by decide +kernel
theorem dX6_over__21 : decode cX6_over_ 21 = .ok (.aload_n 0, 1) := by decide +kernel
theorem dX6_over__22 : decode cX6_over_ 22 = .ok (.getfield 26, 3) := by decide +kernel
theorem dX6_over__25 : decode cX6_over_ 25 = .ok (.iload_n 1, 1) := by decide +kernel
theorem dX6_over__26 : decode cX6_over_ 26 = .ok (.iaload, 1) := by decide +kernel
theorem dX6_over__27 : decode cX6_over_ 27 = .ok (.iadd, 1) := by decide +kernel
theorem dX6_over__28 : decode cX6_over_ 28 = .ok (.istore 7, 2) := by decide +kernel
theorem dX6_over__30 : decode cX6_over_ 30 = .ok (.iload 6, 2) := by decide +kernel
theorem dX6_over__32 : decode cX6_over_ 32 = .ok (.iload 7, 2) := by decide +kernel
theorem dX6_over__34 : decode cX6_over_ 34 = .ok (.if_icmp .gt 124, 3) := by decide +kernel
theorem dX6_over__37 : decode cX6_over_ 37 = .ok (.iload 6, 2) := by decide +kernel
theorem dX6_over__39 : decode cX6_over_ 39 = .ok (.istore 8, 2) := by decide +kernel
theorem dX6_over__41 : decode cX6_over_ 41 = .ok (.iload 8, 2) := by decide +kernel
theorem dX6_over__43 : decode cX6_over_ 43 = .ok (.iload 7, 2) := by decide +kernel
theorem dX6_over__45 : decode cX6_over_ 45 = .ok (.if_icmp .ge 20, 3) := by decide +kernel
theorem dX6_over__48 : decode cX6_over_ 48 = .ok (.aload_n 0, 1) := by decide +kernel
theorem dX6_over__49 : decode cX6_over_ 49 = .ok (.getfield 29, 3) := by decide +kernel
theorem dX6_over__52 : decode cX6_over_ 52 = .ok (.iload 8, 2) := by decide +kernel
theorem dX6_over__54 : decode cX6_over_ 54 = .ok (.iaload, 1) := by decide +kernel
theorem dX6_over__55 : decode cX6_over_ 55 = .ok (.iconst 5, 1) := by decide +kernel
theorem dX6_over__56 : decode cX6_over_ 56 = .ok (.if_icmp .eq 9, 3) := by decide +kernel
theorem dX6_over__59 : decode cX6_over_ 59 = .ok (.iinc 8 1, 3) := by decide +kernel
theorem dX6_over__62 : decode cX6_over_ 62 = .ok (.goto (-21), 3) := by decide +kernel
theorem dX6_over__65 : decode cX6_over_ 65 = .ok (.iload_n 2, 1) := by decide +kernel
theorem dX6_over__66 : decode cX6_over_ 66 = .ok (.bipush 6, 2) := by decide +kernel
theorem dX6_over__68 : decode cX6_over_ 68 = .ok (.if_icmp .ne 26, 3) := by decide +kernel
theorem dX6_over__71 : decode cX6_over_ 71 = .ok (.ldc2_w 139, 3) := by decide +kernel
theorem dX6_over__74 : decode cX6_over_ 74 = .ok (.lload 4, 2) := by decide +kernel
theorem dX6_over__76 : decode cX6_over_ 76 = .ok (.aload_n 0, 1) := by decide +kernel
theorem dX6_over__77 : decode cX6_over_ 77 = .ok (.iload 6, 2) := by decide +kernel
theorem dX6_over__79 : decode cX6_over_ 79 = .ok (.iload 8, 2) := by decide +kernel
theorem dX6_over__81 : decode cX6_over_ 81 = .ok (.invokevirtual 141, 3) := by decide +kernel
theorem dX6_over__84 : decode cX6_over_ 84 = .ok (.i2l, 1) := by decide +kernel
theorem dX6_over__85 : decode cX6_over_ 85 = .ok (.lmul, 1) := by decide +kernel
theorem dX6_over__86 : decode cX6_over_ 86 = .ok (.invokestatic 144, 3) := by decide +kernel
theorem dX6_over__89 : decode cX6_over_ 89 = .ok (.lstore 4, 2) := by decide +kernel
theorem dX6_over__91 : decode cX6_over_ 91 = .ok (.goto 58, 3) := by decide +kernel
theorem dX6_over__94 : decode cX6_over_ 94 = .ok (.aload_n 0, 1) := by decide +kernel
theorem dX6_over__95 : decode cX6_over_ 95 = .ok (.iload 6, 2) := by decide +kernel
theorem dX6_over__97 : decode cX6_over_ 97 = .ok (.iload 8, 2) := by decide +kernel
theorem dX6_over__99 : decode cX6_over_ 99 = .ok (.invokevirtual 147, 3) := by decide +kernel
theorem dX6_over__102 : decode cX6_over_ 102 = .ok (.lload 4, 2) := by decide +kernel
theorem dX6_over__104 : decode cX6_over_ 104 = .ok (.iload_n 2, 1) := by decide +kernel
theorem dX6_over__105 : decode cX6_over_ 105 = .ok (.iconst 4, 1) := by decide +kernel
theorem dX6_over__106 : decode cX6_over_ 106 = .ok (.if_icmp .ne 13, 3) := by decide +kernel
theorem dX6_over__109 : decode cX6_over_ 109 = .ok (.aload_n 0, 1) := by decide +kernel
theorem dX6_over__110 : decode cX6_over_ 110 = .ok (.getfield 44, 3) := by decide +kernel
theorem dX6_over__113 : decode cX6_over_ 113 = .ok (.iconst 0, 1) := by decide +kernel
theorem dX6_over__114 : decode cX6_over_ 114 = .ok (.iaload, 1) := by decide +kernel
theorem dX6_over__115 : decode cX6_over_ 115 = .ok (.i2l, 1) := by decide +kernel
theorem dX6_over__116 : decode cX6_over_ 116 = .ok (.goto 10, 3) := by decide +kernel
theorem dX6_over__119 : decode cX6_over_ 119 = .ok (.aload_n 0, 1) := by decide +kernel
theorem dX6_over__120 : decode cX6_over_ 120 = .ok (.getfield 47, 3) := by decide +kernel
theorem dX6_over__123 : decode cX6_over_ 123 = .ok (.iconst 0, 1) := by decide +kernel
theorem dX6_over__124 : decode cX6_over_ 124 = .ok (.iaload, 1) := by decide +kernel
theorem dX6_over__125 : decode cX6_over_ 125 = .ok (.i2l, 1) := by decide +kernel
theorem dX6_over__126 : decode cX6_over_ 126 = .ok (.ladd, 1) := by decide +kernel
theorem dX6_over__127 : decode cX6_over_ 127 = .ok (.lstore 4, 2) := by decide +kernel
theorem dX6_over__129 : decode cX6_over_ 129 = .ok (.iload_n 3, 1) := by decide +kernel
theorem dX6_over__130 : decode cX6_over_ 130 = .ok (.ifCond .eq 19, 3) := by decide +kernel
theorem dX6_over__133 : decode cX6_over_ 133 = .ok (.aload_n 0, 1) := by decide +kernel
theorem dX6_over__134 : decode cX6_over_ 134 = .ok (.iload 8, 2) := by decide +kernel
theorem dX6_over__136 : decode cX6_over_ 136 = .ok (.iload 7, 2) := by decide +kernel
theorem dX6_over__138 : decode cX6_over_ 138 = .ok (.if_icmp .ge 7, 3) := by decide +kernel
theorem dX6_over__141 : decode cX6_over_ 141 = .ok (.iconst 1, 1) := by decide +kernel
theorem dX6_over__142 : decode cX6_over_ 142 = .ok (.goto 4, 3) := by decide +kernel
theorem dX6_over__145 : decode cX6_over_ 145 = .ok (.iconst 0, 1) := by decide +kernel
theorem dX6_over__146 : decode cX6_over_ 146 = .ok (.invokevirtual 150, 3) := by decide +kernel
theorem dX6_over__149 : decode cX6_over_ 149 = .ok (.iload 8, 2) := by decide +kernel
theorem dX6_over__151 : decode cX6_over_ 151 = .ok (.iconst 1, 1) := by decide +kernel
theorem dX6_over__152 : decode cX6_over_ 152 = .ok (.iadd, 1) := by decide +kernel
theorem dX6_over__153 : decode cX6_over_ 153 = .ok (.istore 6, 2) := by decide +kernel
theorem dX6_over__155 : decode cX6_over_ 155 = .ok (.goto (-125), 3) := by decide +kernel
theorem dX6_over__158 : decode cX6_over_ 158 = .ok (.lload 4, 2) := by decide +kernel
theorem dX6_over__160 : decode cX6_over_ 160 = .ok (.l2i, 1) := by decide +kernel
theorem dX6_over__161 : decode cX6_over_ 161 = .ok (.ireturn, 1) := by decide +kernel
theorem dX6_write_0 : decode cX6_write 0 = .ok (.iconst 0, 1) := by decide +kernel
theorem dX6_write_1 : decode cX6_write 1 = .ok (.istore_n 2, 1) := by decide +kernel
theorem dX6_write_2 : decode cX6_write 2 = .ok (.aload_n 0, 1) := by decide +kernel
theorem dX6_write_3 : decode cX6_write 3 = .ok (.getfield 47, 3) := by decide +kernel
theorem dX6_write_6 : decode cX6_write 6 = .ok (.iconst 0, 1) := by decide +kernel
theorem dX6_write_7 : decode cX6_write 7 = .ok (.iaload, 1) := by decide +kernel
theorem dX6_write_8 : decode cX6_write 8 = .ok (.istore_n 3, 1) := by decide +kernel
theorem dX6_write_9 : decode cX6_write 9 = .ok (.iload_n 3, 1) := by decide +kernel
theorem dX6_write_10 : decode cX6_write 10 = .ok (.ifCond .le 44, 3) := by decide +kernel
theorem dX6_write_13 : decode cX6_write 13 = .ok (.aload_n 0, 1) := by decide +kernel
theorem dX6_write_14 : decode cX6_write 14 = .ok (.getfield 41, 3) := by decide +kernel
theorem dX6_write_17 : decode cX6_write 17 = .ok (.aload_n 0, 1) := by decide +kernel
theorem dX6_write_18 : decode cX6_write 18 = .ok (.getfield 154, 3) := by decide +kernel
theorem dX6_write_21 : decode cX6_write 21 = .ok (.bipush 97, 2) := by decide +kernel
theorem dX6_write_23 : decode cX6_write 23 = .ok (.aload_n 0, 1) := by decide +kernel
theorem dX6_write_24 : decode cX6_write 24 = .ok (.getfield 50, 3) := by decide +kernel
theorem dX6_write_27 : decode cX6_write 27 = .ok (.iload_n 2, 1) := by decide +kernel
theorem dX6_write_28 : decode cX6_write 28 = .ok (.iaload, 1) := by decide +kernel
theorem dX6_write_29 : decode cX6_write 29 = .ok (.iadd, 1) := by decide +kernel
theorem dX6_write_30 : decode cX6_write 30 = .ok (.iastore, 1) := by decide +kernel
theorem dX6_write_31 : decode cX6_write 31 = .ok (.aload_n 0, 1) := by decide +kernel
theorem dX6_write_32 : decode cX6_write 32 = .ok (.dup, 1) := by decide +kernel
theorem dX6_write_33 : decode cX6_write 33 = .ok (.getfield 154, 3) := by decide +kernel
theorem dX6_write_36 : decode cX6_write 36 = .ok (.iconst 1, 1) := by decide +kernel
theorem dX6_write_37 : decode cX6_write 37 = .ok (.iadd, 1) := by decide +kernel
theorem dX6_write_38 : decode cX6_write 38 = .ok (.putfield 154, 3) := by decide +kernel
theorem dX6_write_41 : decode cX6_write 41 = .ok (.aload_n 0, 1) := by decide +kernel
theorem dX6_write_42 : decode cX6_write 42 = .ok (.getfield 53, 3) := by decide +kernel
theorem dX6_write_45 : decode cX6_write 45 = .ok (.iload_n 2, 1) := by decide +kernel
theorem dX6_write_46 : decode cX6_write 46 = .ok (.iaload, 1) := by decide +kernel
theorem dX6_write_47 : decode cX6_write 47 = .ok (.istore_n 2, 1) := by decide +kernel
theorem dX6_write_48 : decode cX6_write 48 = .ok (.iinc 3 (-1), 3) := by decide +kernel
theorem dX6_write_51 : decode cX6_write 51 = .ok (.goto (-42), 3) := by decide +kernel
theorem dX6_write_54 : decode cX6_write 54 = .ok (.iload_n 1, 1) := by decide +kernel
theorem dX6_write_55 : decode cX6_write 55 = .ok (.ifCond .ne 4, 3) := by decide +kernel
theorem dX6_write_58 : decode cX6_write 58 = .ok (.return_, 1) := by decide +kernel
theorem dX6_write_59 : decode cX6_write 59 = .ok (.aload_n 0, 1) := by decide +kernel
theorem dX6_write_60 : decode cX6_write 60 = .ok (.getfield 41, 3) := by decide +kernel
theorem dX6_write_63 : decode cX6_write 63 = .ok (.aload_n 0, 1) := by decide +kernel
theorem dX6_write_64 : decode cX6_write 64 = .ok (.getfield 154, 3) := by decide +kernel
theorem dX6_write_67 : decode cX6_write 67 = .ok (.bipush 32, 2) := by decide +kernel
theorem dX6_write_69 : decode cX6_write 69 = .ok (.iastore, 1) := by decide +kernel
theorem dX6_write_70 : decode cX6_write 70 = .ok (.aload_n 0, 1) := by decide +kernel
theorem dX6_write_71 : decode cX6_write 71 = .ok (.dup, 1) := by decide +kernel
theorem dX6_write_72 : decode cX6_write 72 = .ok (.getfield 154, 3) := by decide +kernel
theorem dX6_write_75 : decode cX6_write 75 = .ok (.iconst 1, 1) := by decide +kernel
theorem dX6_write_76 : decode cX6_write 76 = .ok (.iadd, 1) := by decide +kernel
theorem dX6_write_77 : decode cX6_write 77 = .ok (.putfield 154, 3) := by decide +kernel
theorem dX6_write_80 : decode cX6_write 80 = .ok (.return_, 1) := by decide +kernel
theorem dX6_cordTold_0 : decode cX6_cordTold 0 = .ok (.iload_n 2, 1) := by decide +kernel
theorem dX6_cordTold_1 : decode cX6_cordTold 1 = .ok (.iconst 3, 1) := by decide +kernel
theorem dX6_cordTold_2 : decode cX6_cordTold 2 = .ok (.if_icmp .le 11, 3) := by decide +kernel
theorem dX6_cordTold_5 : decode cX6_cordTold 5 = .ok (.aload_n 0, 1) := by decide +kernel
theorem dX6_cordTold_6 : decode cX6_cordTold 6 = .ok (.iload_n 1, 1) := by decide +kernel
theorem dX6_cordTold_7 : decode cX6_cordTold 7 = .ok (.iload_n 2, 1) := by decide +kernel
theorem dX6_cordTold_8 : decode cX6_cordTold 8 = .ok (.iconst 0, 1) := by decide +kernel
theorem dX6_cordTold_9 : decode cX6_cordTold 9 = .ok (.invokevirtual 157, 3) := by decide +kernel
theorem dX6_cordTold_12 : decode cX6_cordTold 12 = .ok (.ireturn, 1) := by decide +kernel
theorem dX6_cordTold_13 : decode cX6_cordTold 13 = .ok (.iconst 0, 1) := by decide +kernel
theorem dX6_cordTold_14 : decode cX6_cordTold 14 = .ok (.istore_n 3, 1) := by decide +kernel
theorem dX6_cordTold_15 : decode cX6_cordTold 15 = .ok (.iconst 0, 1) := by decide +kernel
theorem dX6_cordTold_16 : decode cX6_cordTold 16 = .ok (.istore 4, 2) := by decide +kernel
theorem dX6_cordTold_18 : decode cX6_cordTold 18 = .ok (.iload 4, 2) := by decide +kernel
theorem dX6_cordTold_20 : decode cX6_cordTold 20 = .ok (.aload_n 0, 1) := by decide +kernel
theorem dX6_cordTold_21 : decode cX6_cordTold 21 = .ok (.getfield 26, 3) := by decide +kernel
theorem dX6_cordTold_24 : decode cX6_cordTold 24 = .ok (.iload_n 1, 1) := by decide +kernel
theorem dX6_cordTold_25 : decode cX6_cordTold 25 = .ok (.iaload, 1) := by decide +kernel
theorem dX6_cordTold_26 : decode cX6_cordTold 26 = .ok (.if_icmp .ge 33, 3) := by decide +kernel
theorem dX6_cordTold_29 : decode cX6_cordTold 29 = .ok (.iload_n 3, 1) := by decide +kernel
theorem dX6_cordTold_30 : decode cX6_cordTold 30 = .ok (.aload_n 0, 1) := by decide +kernel
theorem dX6_cordTold_31 : decode cX6_cordTold 31 = .ok (.getfield 29, 3) := by decide +kernel
theorem dX6_cordTold_34 : decode cX6_cordTold 34 = .ok (.bipush 40, 2) := by decide +kernel
theorem dX6_cordTold_36 : decode cX6_cordTold 36 = .ok (.iload_n 1, 1) := by decide +kernel
theorem dX6_cordTold_37 : decode cX6_cordTold 37 = .ok (.imul, 1) := by decide +kernel
theorem dX6_cordTold_38 : decode cX6_cordTold 38 = .ok (.iload 4, 2) := by decide +kernel
theorem dX6_cordTold_40 : decode cX6_cordTold 40 = .ok (.iadd, 1) := by decide +kernel
theorem dX6_cordTold_41 : decode cX6_cordTold 41 = .ok (.iaload, 1) := by decide +kernel
theorem dX6_cordTold_42 : decode cX6_cordTold 42 = .ok (.iconst 5, 1) := by decide +kernel
theorem dX6_cordTold_43 : decode cX6_cordTold 43 = .ok (.if_icmp .ne 7, 3) := by decide +kernel
theorem dX6_cordTold_46 : decode cX6_cordTold 46 = .ok (.iconst 1, 1) := by decide +kernel
theorem dX6_cordTold_47 : decode cX6_cordTold 47 = .ok (.goto 4, 3) := by decide +kernel
theorem dX6_cordTold_50 : decode cX6_cordTold 50 = .ok (.iconst 0, 1) := by decide +kernel
theorem dX6_cordTold_51 : decode cX6_cordTold 51 = .ok (.iadd, 1) := by decide +kernel
theorem dX6_cordTold_52 : decode cX6_cordTold 52 = .ok (.istore_n 3, 1) := by decide +kernel
theorem dX6_cordTold_53 : decode cX6_cordTold 53 = .ok (.iinc 4 1, 3) := by decide +kernel
theorem dX6_cordTold_56 : decode cX6_cordTold 56 = .ok (.goto (-38), 3) := by decide +kernel
theorem dX6_cordTold_59 : decode cX6_cordTold 59 = .ok (.iload_n 2, 1) := by decide +kernel
theorem dX6_cordTold_60 : decode cX6_cordTold 60 = .ok (.ifCond .ne 12, 3) := by decide +kernel
theorem dX6_cordTold_63 : decode cX6_cordTold 63 = .ok (.aload_n 0, 1) := by decide +kernel
theorem dX6_cordTold_64 : decode cX6_cordTold 64 = .ok (.getfield 26, 3) := by decide +kernel
theorem dX6_cordTold_67 : decode cX6_cordTold 67 = .ok (.iload_n 1, 1) := by decide +kernel
theorem dX6_cordTold_68 : decode cX6_cordTold 68 = .ok (.iaload, 1) := by decide +kernel
theorem dX6_cordTold_69 : decode cX6_cordTold 69 = .ok (.goto 32, 3) := by decide +kernel
theorem dX6_cordTold_72 : decode cX6_cordTold 72 = .ok (.iload_n 2, 1) := by decide +kernel
theorem dX6_cordTold_73 : decode cX6_cordTold 73 = .ok (.iconst 1, 1) := by decide +kernel
theorem dX6_cordTold_74 : decode cX6_cordTold 74 = .ok (.if_icmp .ne 7, 3) := by decide +kernel
theorem dX6_cordTold_77 : decode cX6_cordTold 77 = .ok (.iload_n 3, 1) := by decide +kernel
theorem dX6_cordTold_78 : decode cX6_cordTold 78 = .ok (.goto 23, 3) := by decide +kernel
theorem dX6_cordTold_81 : decode cX6_cordTold 81 = .ok (.iload_n 2, 1) := by decide +kernel
theorem dX6_cordTold_82 : decode cX6_cordTold 82 = .ok (.iconst 2, 1) := by decide +kernel
theorem dX6_cordTold_83 : decode cX6_cordTold 83 = .ok (.if_icmp .ne 12, 3) := by decide +kernel
theorem dX6_cordTold_86 : decode cX6_cordTold 86 = .ok (.aload_n 0, 1) := by decide +kernel
theorem dX6_cordTold_87 : decode cX6_cordTold 87 = .ok (.getfield 32, 3) := by decide +kernel
theorem dX6_cordTold_90 : decode cX6_cordTold 90 = .ok (.iload_n 1, 1) := by decide +kernel
theorem dX6_cordTold_91 : decode cX6_cordTold 91 = .ok (.iaload, 1) := by decide +kernel
theorem dX6_cordTold_92 : decode cX6_cordTold 92 = .ok (.goto 9, 3) := by decide +kernel
theorem dX6_cordTold_95 : decode cX6_cordTold 95 = .ok (.aload_n 0, 1) := by decide +kernel
theorem dX6_cordTold_96 : decode cX6_cordTold 96 = .ok (.getfield 35, 3) := by decide +kernel
theorem dX6_cordTold_99 : decode cX6_cordTold 99 = .ok (.iload_n 1, 1) := by decide +kernel
theorem dX6_cordTold_100 : decode cX6_cordTold 100 = .ok (.iaload, 1) := by decide +kernel
theorem dX6_cordTold_101 : decode cX6_cordTold 101 = .ok (.ireturn, 1) := by decide +kernel
theorem dX6_cord_0 : decode cX6_cord 0 = .ok (.aload_n 0, 1) := by decide +kernel
theorem dX6_cord_1 : decode cX6_cord 1 = .ok (.iconst 0, 1) := by decide +kernel
theorem dX6_cord_2 : decode cX6_cord 2 = .ok (.putfield 59, 3) := by decide +kernel
theorem dX6_cord_5 : decode cX6_cord 5 = .ok (.aload_n 0, 1) := by decide +kernel
theorem dX6_cord_6 : decode cX6_cord 6 = .ok (.iload_n 1, 1) := by decide +kernel
theorem dX6_cord_7 : decode cX6_cord 7 = .ok (.invokevirtual 160, 3) := by decide +kernel
theorem dX6_cord_10 : decode cX6_cord 10 = .ok (.ifCond .eq 22, 3) := by decide +kernel
theorem dX6_cord_13 : decode cX6_cord 13 = .ok (.iload_n 2, 1) := by decide +kernel
theorem dX6_cord_14 : decode cX6_cord 14 = .ok (.iconst 0, 1) := by decide +kernel
theorem dX6_cord_15 : decode cX6_cord 15 = .ok (.bipush 6, 2) := by decide +kernel
theorem dX6_cord_17 : decode cX6_cord 17 = .ok (.invokestatic 66, 3) := by decide +kernel
theorem dX6_cord_20 : decode cX6_cord 20 = .ok (.ifCond .eq 12, 3) := by decide +kernel
theorem dX6_cord_23 : decode cX6_cord 23 = .ok (.aload_n 0, 1) := by decide +kernel
theorem dX6_cord_24 : decode cX6_cord 24 = .ok (.iload_n 1, 1) := by decide +kernel
theorem dX6_cord_25 : decode cX6_cord 25 = .ok (.iload_n 2, 1) := by decide +kernel
theorem dX6_cord_26 : decode cX6_cord 26 = .ok (.invokevirtual 163, 3) := by decide +kernel
theorem dX6_cord_29 : decode cX6_cord 29 = .ok (.goto 8, 3) := by decide +kernel
theorem dX6_cord_32 : decode cX6_cord 32 = .ok (.aload_n 0, 1) := by decide +kernel
theorem dX6_cord_33 : decode cX6_cord 33 = .ok (.iconst 1, 1) := by decide +kernel
theorem dX6_cord_34 : decode cX6_cord 34 = .ok (.invokevirtual 70, 3) := by decide +kernel
theorem dX6_cord_37 : decode cX6_cord 37 = .ok (.ireturn, 1) := by decide +kernel
theorem dX6_knot_0 : decode cX6_knot 0 = .ok (.aload_n 0, 1) := by decide +kernel
theorem dX6_knot_1 : decode cX6_knot 1 = .ok (.iconst 0, 1) := by decide +kernel
theorem dX6_knot_2 : decode cX6_knot 2 = .ok (.putfield 59, 3) := by decide +kernel
theorem dX6_knot_5 : decode cX6_knot 5 = .ok (.aload_n 0, 1) := by decide +kernel
theorem dX6_knot_6 : decode cX6_knot 6 = .ok (.iload_n 1, 1) := by decide +kernel
theorem dX6_knot_7 : decode cX6_knot 7 = .ok (.invokevirtual 160, 3) := by decide +kernel
theorem dX6_knot_10 : decode cX6_knot 10 = .ok (.ifCond .eq 33, 3) := by decide +kernel
theorem dX6_knot_13 : decode cX6_knot 13 = .ok (.iload_n 2, 1) := by decide +kernel
theorem dX6_knot_14 : decode cX6_knot 14 = .ok (.iconst 0, 1) := by decide +kernel
theorem dX6_knot_15 : decode cX6_knot 15 = .ok (.aload_n 0, 1) := by decide +kernel
theorem dX6_knot_16 : decode cX6_knot 16 = .ok (.getfield 26, 3) := by decide +kernel
theorem dX6_knot_19 : decode cX6_knot 19 = .ok (.iload_n 1, 1) := by decide +kernel
theorem dX6_knot_20 : decode cX6_knot 20 = .ok (.iaload, 1) := by decide +kernel
theorem dX6_knot_21 : decode cX6_knot 21 = .ok (.iconst 1, 1) := by decide +kernel
theorem dX6_knot_22 : decode cX6_knot 22 = .ok (.isub, 1) := by decide +kernel
theorem dX6_knot_23 : decode cX6_knot 23 = .ok (.invokestatic 66, 3) := by decide +kernel
theorem dX6_knot_26 : decode cX6_knot 26 = .ok (.ifCond .eq 17, 3) := by decide +kernel
theorem dX6_knot_29 : decode cX6_knot 29 = .ok (.aload_n 0, 1) := by decide +kernel
theorem dX6_knot_30 : decode cX6_knot 30 = .ok (.getfield 29, 3) := by decide +kernel
theorem dX6_knot_33 : decode cX6_knot 33 = .ok (.bipush 40, 2) := by decide +kernel
theorem dX6_knot_35 : decode cX6_knot 35 = .ok (.iload_n 1, 1) := by decide +kernel
theorem dX6_knot_36 : decode cX6_knot 36 = .ok (.imul, 1) := by decide +kernel
theorem dX6_knot_37 : decode cX6_knot 37 = .ok (.iload_n 2, 1) := by decide +kernel
theorem dX6_knot_38 : decode cX6_knot 38 = .ok (.iadd, 1) := by decide +kernel
theorem dX6_knot_39 : decode cX6_knot 39 = .ok (.iaload, 1) := by decide +kernel
theorem dX6_knot_40 : decode cX6_knot 40 = .ok (.goto 8, 3) := by decide +kernel
theorem dX6_knot_43 : decode cX6_knot 43 = .ok (.aload_n 0, 1) := by decide +kernel
theorem dX6_knot_44 : decode cX6_knot 44 = .ok (.iconst 1, 1) := by decide +kernel
theorem dX6_knot_45 : decode cX6_knot 45 = .ok (.invokevirtual 70, 3) := by decide +kernel
theorem dX6_knot_48 : decode cX6_knot 48 = .ok (.ireturn, 1) := by decide +kernel
theorem dX6_retie_0 : decode cX6_retie 0 = .ok (.aload_n 0, 1) := by decide +kernel
theorem dX6_retie_1 : decode cX6_retie 1 = .ok (.iconst 0, 1) := by decide +kernel
theorem dX6_retie_2 : decode cX6_retie 2 = .ok (.putfield 59, 3) := by decide +kernel
theorem dX6_retie_5 : decode cX6_retie 5 = .ok (.aload_n 0, 1) := by decide +kernel
theorem dX6_retie_6 : decode cX6_retie 6 = .ok (.iload_n 1, 1) := by decide +kernel
theorem dX6_retie_7 : decode cX6_retie 7 = .ok (.invokevirtual 160, 3) := by decide +kernel
theorem dX6_retie_10 : decode cX6_retie 10 = .ok (.ifCond .eq 19, 3) := by decide +kernel
theorem dX6_retie_13 : decode cX6_retie 13 = .ok (.iload_n 2, 1) := by decide +kernel
theorem dX6_retie_14 : decode cX6_retie 14 = .ok (.iconst 0, 1) := by decide +kernel
theorem dX6_retie_15 : decode cX6_retie 15 = .ok (.aload_n 0, 1) := by decide +kernel
theorem dX6_retie_16 : decode cX6_retie 16 = .ok (.getfield 26, 3) := by decide +kernel
theorem dX6_retie_19 : decode cX6_retie 19 = .ok (.iload_n 1, 1) := by decide +kernel
theorem dX6_retie_20 : decode cX6_retie 20 = .ok (.iaload, 1) := by decide +kernel
theorem dX6_retie_21 : decode cX6_retie 21 = .ok (.iconst 1, 1) := by decide +kernel
theorem dX6_retie_22 : decode cX6_retie 22 = .ok (.isub, 1) := by decide +kernel
theorem dX6_retie_23 : decode cX6_retie 23 = .ok (.invokestatic 66, 3) := by decide +kernel
theorem dX6_retie_26 : decode cX6_retie 26 = .ok (.ifCond .ne 9, 3) := by decide +kernel
theorem dX6_retie_29 : decode cX6_retie 29 = .ok (.aload_n 0, 1) := by decide +kernel
theorem dX6_retie_30 : decode cX6_retie 30 = .ok (.iconst 1, 1) := by decide +kernel
theorem dX6_retie_31 : decode cX6_retie 31 = .ok (.invokevirtual 70, 3) := by decide +kernel
theorem dX6_retie_34 : decode cX6_retie 34 = .ok (.ireturn, 1) := by decide +kernel
theorem dX6_retie_35 : decode cX6_retie 35 = .ok (.iload_n 3, 1) := by decide +kernel
theorem dX6_retie_36 : decode cX6_retie 36 = .ok (.iconst 1, 1) := by decide +kernel
theorem dX6_retie_37 : decode cX6_retie 37 = .ok (.iconst 4, 1) := by decide +kernel
theorem dX6_retie_38 : decode cX6_retie 38 = .ok (.invokestatic 66, 3) := by decide +kernel
theorem dX6_retie_41 : decode cX6_retie 41 = .ok (.ifCond .ne 9, 3) := by decide +kernel
theorem dX6_retie_44 : decode cX6_retie 44 = .ok (.aload_n 0, 1) := by decide +kernel
theorem dX6_retie_45 : decode cX6_retie 45 = .ok (.iconst 2, 1) := by decide +kernel
theorem dX6_retie_46 : decode cX6_retie 46 = .ok (.invokevirtual 70, 3) := by decide +kernel
theorem dX6_retie_49 : decode cX6_retie 49 = .ok (.ireturn, 1) := by decide +kernel
theorem dX6_retie_50 : decode cX6_retie 50 = .ok (.aload_n 0, 1) := by decide +kernel
theorem dX6_retie_51 : decode cX6_retie 51 = .ok (.getfield 29, 3) := by decide +kernel
theorem dX6_retie_54 : decode cX6_retie 54 = .ok (.bipush 40, 2) := by decide +kernel
theorem dX6_retie_56 : decode cX6_retie 56 = .ok (.iload_n 1, 1) := by decide +kernel
theorem dX6_retie_57 : decode cX6_retie 57 = .ok (.imul, 1) := by decide +kernel
theorem dX6_retie_58 : decode cX6_retie 58 = .ok (.iload_n 2, 1) := by decide +kernel
theorem dX6_retie_59 : decode cX6_retie 59 = .ok (.iadd, 1) := by decide +kernel
theorem dX6_retie_60 : decode cX6_retie 60 = .ok (.iaload, 1) := by decide +kernel
theorem dX6_retie_61 : decode cX6_retie 61 = .ok (.istore 4, 2) := by decide +kernel
theorem dX6_retie_63 : decode cX6_retie 63 = .ok (.iload 4, 2) := by decide +kernel
theorem dX6_retie_65 : decode cX6_retie 65 = .ok (.iconst 5, 1) := by decide +kernel
theorem dX6_retie_66 : decode cX6_retie 66 = .ok (.if_icmp .ne 9, 3) := by decide +kernel
theorem dX6_retie_69 : decode cX6_retie 69 = .ok (.aload_n 0, 1) := by decide +kernel
theorem dX6_retie_70 : decode cX6_retie 70 = .ok (.iconst 3, 1) := by decide +kernel
theorem dX6_retie_71 : decode cX6_retie 71 = .ok (.invokevirtual 70, 3) := by decide +kernel
theorem dX6_retie_74 : decode cX6_retie 74 = .ok (.ireturn, 1) := by decide +kernel
theorem dX6_retie_75 : decode cX6_retie 75 = .ok (.aload_n 0, 1) := by decide +kernel
theorem dX6_retie_76 : decode cX6_retie 76 = .ok (.getfield 29, 3) := by decide +kernel
theorem dX6_retie_79 : decode cX6_retie 79 = .ok (.bipush 40, 2) := by decide +kernel
theorem dX6_retie_81 : decode cX6_retie 81 = .ok (.iload_n 1, 1) := by decide +kernel
theorem dX6_retie_82 : decode cX6_retie 82 = .ok (.imul, 1) := by decide +kernel
theorem dX6_retie_83 : decode cX6_retie 83 = .ok (.iload_n 2, 1) := by decide +kernel
theorem dX6_retie_84 : decode cX6_retie 84 = .ok (.iadd, 1) := by decide +kernel
theorem dX6_retie_85 : decode cX6_retie 85 = .ok (.iload_n 3, 1) := by decide +kernel
theorem dX6_retie_86 : decode cX6_retie 86 = .ok (.iastore, 1) := by decide +kernel
theorem dX6_retie_87 : decode cX6_retie 87 = .ok (.iload 4, 2) := by decide +kernel
theorem dX6_retie_89 : decode cX6_retie 89 = .ok (.ireturn, 1) := by decide +kernel
theorem dX6_between_0 : decode cX6_between 0 = .ok (.aload_n 0, 1) := by decide +kernel
theorem dX6_between_1 : decode cX6_between 1 = .ok (.getfield 26, 3) := by decide +kernel
theorem dX6_between_4 : decode cX6_between 4 = .ok (.iload_n 2, 1) := by decide +kernel
theorem dX6_between_5 : decode cX6_between 5 = .ok (.iaload, 1) := by decide +kernel
theorem dX6_between_6 : decode cX6_between 6 = .ok (.iconst 1, 1) := by decide +kernel
theorem dX6_between_7 : decode cX6_between 7 = .ok (.iadd, 1) := by decide +kernel
theorem dX6_between_8 : decode cX6_between 8 = .ok (.istore_n 3, 1) := by decide +kernel
theorem dX6_between_9 : decode cX6_between 9 = .ok (.aload_n 0, 1) := by decide +kernel
theorem dX6_between_10 : decode cX6_between 10 = .ok (.getfield 26, 3) := by decide +kernel
theorem dX6_between_13 : decode cX6_between 13 = .ok (.iload_n 1, 1) := by decide +kernel
theorem dX6_between_14 : decode cX6_between 14 = .ok (.iaload, 1) := by decide +kernel
theorem dX6_between_15 : decode cX6_between 15 = .ok (.iconst 1, 1) := by decide +kernel
theorem dX6_between_16 : decode cX6_between 16 = .ok (.iadd, 1) := by decide +kernel
theorem dX6_between_17 : decode cX6_between 17 = .ok (.iload_n 3, 1) := by decide +kernel
theorem dX6_between_18 : decode cX6_between 18 = .ok (.imul, 1) := by decide +kernel
theorem dX6_between_19 : decode cX6_between 19 = .ok (.newarray .int, 2) := by decide +kernel
theorem dX6_between_21 : decode cX6_between 21 = .ok (.astore 4, 2) := by decide +kernel
theorem dX6_between_23 : decode cX6_between 23 = .ok (.iconst 0, 1) := by decide +kernel
theorem dX6_between_24 : decode cX6_between 24 = .ok (.istore 5, 2) := by decide +kernel
theorem dX6_between_26 : decode cX6_between 26 = .ok (.iload 5, 2) := by decide +kernel
theorem dX6_between_28 : decode cX6_between 28 = .ok (.aload_n 0, 1) := by decide +kernel
theorem dX6_between_29 : decode cX6_between 29 = .ok (.getfield 26, 3) := by decide +kernel
theorem dX6_between_32 : decode cX6_between 32 = .ok (.iload_n 1, 1) := by decide +kernel
theorem dX6_between_33 : decode cX6_between 33 = .ok (.iaload, 1) := by decide +kernel
theorem dX6_between_34 : decode cX6_between 34 = .ok (.if_icmp .gt 263, 3) := by decide +kernel
theorem dX6_between_37 : decode cX6_between 37 = .ok (.iconst 0, 1) := by decide +kernel
theorem dX6_between_38 : decode cX6_between 38 = .ok (.istore 6, 2) := by decide +kernel
theorem dX6_between_40 : decode cX6_between 40 = .ok (.iload 6, 2) := by decide +kernel
theorem dX6_between_42 : decode cX6_between 42 = .ok (.iload_n 3, 1) := by decide +kernel
theorem dX6_between_43 : decode cX6_between 43 = .ok (.if_icmp .ge 248, 3) := by decide +kernel
theorem dX6_between_46 : decode cX6_between 46 = .ok (.iload 5, 2) := by decide +kernel
theorem dX6_between_48 : decode cX6_between 48 = .ok (.ifCond .ne 7, 3) := by decide +kernel
theorem dX6_between_51 : decode cX6_between 51 = .ok (.iconst 0, 1) := by decide +kernel
theorem dX6_between_52 : decode cX6_between 52 = .ok (.goto 17, 3) := by decide +kernel
theorem dX6_between_55 : decode cX6_between 55 = .ok (.aload_n 0, 1) := by decide +kernel
theorem dX6_between_56 : decode cX6_between 56 = .ok (.getfield 29, 3) := by decide +kernel
theorem dX6_between_59 : decode cX6_between 59 = .ok (.bipush 40, 2) := by decide +kernel
theorem dX6_between_61 : decode cX6_between 61 = .ok (.iload_n 1, 1) := by decide +kernel
theorem dX6_between_62 : decode cX6_between 62 = .ok (.imul, 1) := by decide +kernel
theorem dX6_between_63 : decode cX6_between 63 = .ok (.iload 5, 2) := by decide +kernel
theorem dX6_between_65 : decode cX6_between 65 = .ok (.iadd, 1) := by decide +kernel
theorem dX6_between_66 : decode cX6_between 66 = .ok (.iconst 1, 1) := by decide +kernel
theorem dX6_between_67 : decode cX6_between 67 = .ok (.isub, 1) := by decide +kernel
theorem dX6_between_68 : decode cX6_between 68 = .ok (.iaload, 1) := by decide +kernel
theorem dX6_between_69 : decode cX6_between 69 = .ok (.istore 7, 2) := by decide +kernel
theorem dX6_between_71 : decode cX6_between 71 = .ok (.iload 6, 2) := by decide +kernel
theorem dX6_between_73 : decode cX6_between 73 = .ok (.ifCond .ne 7, 3) := by decide +kernel
theorem dX6_between_76 : decode cX6_between 76 = .ok (.iconst 0, 1) := by decide +kernel
theorem dX6_between_77 : decode cX6_between 77 = .ok (.goto 17, 3) := by decide +kernel
theorem dX6_between_80 : decode cX6_between 80 = .ok (.aload_n 0, 1) := by decide +kernel
theorem dX6_between_81 : decode cX6_between 81 = .ok (.getfield 29, 3) := by decide +kernel
theorem dX6_between_84 : decode cX6_between 84 = .ok (.bipush 40, 2) := by decide +kernel
theorem dX6_between_86 : decode cX6_between 86 = .ok (.iload_n 2, 1) := by decide +kernel
theorem dX6_between_87 : decode cX6_between 87 = .ok (.imul, 1) := by decide +kernel
theorem dX6_between_88 : decode cX6_between 88 = .ok (.iload 6, 2) := by decide +kernel
theorem dX6_between_90 : decode cX6_between 90 = .ok (.iadd, 1) := by decide +kernel
theorem dX6_between_91 : decode cX6_between 91 = .ok (.iconst 1, 1) := by decide +kernel
theorem dX6_between_92 : decode cX6_between 92 = .ok (.isub, 1) := by decide +kernel
theorem dX6_between_93 : decode cX6_between 93 = .ok (.iaload, 1) := by decide +kernel
theorem dX6_between_94 : decode cX6_between 94 = .ok (.istore 8, 2) := by decide +kernel
theorem dX6_between_96 : decode cX6_between 96 = .ok (.iload 5, 2) := by decide +kernel
theorem dX6_between_98 : decode cX6_between 98 = .ok (.ifCond .ne 12, 3) := by decide +kernel
theorem dX6_between_101 : decode cX6_between 101 = .ok (.iload 6, 2) := by decide +kernel
theorem dX6_between_103 : decode cX6_between 103 = .ok (.ifCond .ne 7, 3) := by decide +kernel
theorem dX6_between_106 : decode cX6_between 106 = .ok (.iconst 0, 1) := by decide +kernel
theorem dX6_between_107 : decode cX6_between 107 = .ok (.goto 5, 3) := by decide +kernel
theorem dX6_between_110 : decode cX6_between 110 = .ok (.ldc 97, 2) := by decide +kernel
theorem dX6_between_112 : decode cX6_between 112 = .ok (.istore 9, 2) := by decide +kernel
theorem dX6_between_114 : decode cX6_between 114 = .ok (.iload 5, 2) := by decide +kernel
theorem dX6_between_116 : decode cX6_between 116 = .ok (.ifCond .le 38, 3) := by decide +kernel
theorem dX6_between_119 : decode cX6_between 119 = .ok (.iload 9, 2) := by decide +kernel
theorem dX6_between_121 : decode cX6_between 121 = .ok (.aload 4, 2) := by decide +kernel
theorem dX6_between_123 : decode cX6_between 123 = .ok (.iload 5, 2) := by decide +kernel
theorem dX6_between_125 : decode cX6_between 125 = .ok (.iconst 1, 1) := by decide +kernel
theorem dX6_between_126 : decode cX6_between 126 = .ok (.isub, 1) := by decide +kernel
theorem dX6_between_127 : decode cX6_between 127 = .ok (.iload_n 3, 1) := by decide +kernel
theorem dX6_between_128 : decode cX6_between 128 = .ok (.imul, 1) := by decide +kernel
theorem dX6_between_129 : decode cX6_between 129 = .ok (.iload 6, 2) := by decide +kernel
theorem dX6_between_131 : decode cX6_between 131 = .ok (.iadd, 1) := by decide +kernel
theorem dX6_between_132 : decode cX6_between 132 = .ok (.iaload, 1) := by decide +kernel
theorem dX6_between_133 : decode cX6_between 133 = .ok (.iload 7, 2) := by decide +kernel
theorem dX6_between_135 : decode cX6_between 135 = .ok (.iconst 5, 1) := by decide +kernel
theorem dX6_between_136 : decode cX6_between 136 = .ok (.if_icmp .ne 8, 3) := by decide +kernel
theorem dX6_between_139 : decode cX6_between 139 = .ok (.bipush 9, 2) := by decide +kernel
theorem dX6_between_141 : decode cX6_between 141 = .ok (.goto 7, 3) := by decide +kernel
theorem dX6_between_144 : decode cX6_between 144 = .ok (.aload_n 0, 1) := by decide +kernel
theorem dX6_between_145 : decode cX6_between 145 = .ok (.getfield 19, 3) := by decide +kernel
theorem dX6_between_148 : decode cX6_between 148 = .ok (.iadd, 1) := by decide +kernel
theorem dX6_between_149 : decode cX6_between 149 = .ok (.invokestatic 85, 3) := by decide +kernel
theorem dX6_between_152 : decode cX6_between 152 = .ok (.istore 9, 2) := by decide +kernel
theorem dX6_between_154 : decode cX6_between 154 = .ok (.iload 6, 2) := by decide +kernel
theorem dX6_between_156 : decode cX6_between 156 = .ok (.ifCond .le 38, 3) := by decide +kernel
theorem dX6_between_159 : decode cX6_between 159 = .ok (.iload 9, 2) := by decide +kernel
theorem dX6_between_161 : decode cX6_between 161 = .ok (.aload 4, 2) := by decide +kernel
theorem dX6_between_163 : decode cX6_between 163 = .ok (.iload 5, 2) := by decide +kernel
theorem dX6_between_165 : decode cX6_between 165 = .ok (.iload_n 3, 1) := by decide +kernel
theorem dX6_between_166 : decode cX6_between 166 = .ok (.imul, 1) := by decide +kernel
theorem dX6_between_167 : decode cX6_between 167 = .ok (.iload 6, 2) := by decide +kernel
theorem dX6_between_169 : decode cX6_between 169 = .ok (.iadd, 1) := by decide +kernel
theorem dX6_between_170 : decode cX6_between 170 = .ok (.iconst 1, 1) := by decide +kernel
theorem dX6_between_171 : decode cX6_between 171 = .ok (.isub, 1) := by decide +kernel
theorem dX6_between_172 : decode cX6_between 172 = .ok (.iaload, 1) := by decide +kernel
theorem dX6_between_173 : decode cX6_between 173 = .ok (.iload 8, 2) := by decide +kernel
theorem dX6_between_175 : decode cX6_between 175 = .ok (.iconst 5, 1) := by decide +kernel
theorem dX6_between_176 : decode cX6_between 176 = .ok (.if_icmp .ne 8, 3) := by decide +kernel
theorem dX6_between_179 : decode cX6_between 179 = .ok (.bipush 9, 2) := by decide +kernel
theorem dX6_between_181 : decode cX6_between 181 = .ok (.goto 7, 3) := by decide +kernel
theorem dX6_between_184 : decode cX6_between 184 = .ok (.aload_n 0, 1) := by decide +kernel
theorem dX6_between_185 : decode cX6_between 185 = .ok (.getfield 23, 3) := by decide +kernel
theorem dX6_between_188 : decode cX6_between 188 = .ok (.iadd, 1) := by decide +kernel
theorem dX6_between_189 : decode cX6_between 189 = .ok (.invokestatic 85, 3) := by decide +kernel
theorem dX6_between_192 : decode cX6_between 192 = .ok (.istore 9, 2) := by decide +kernel
theorem dX6_between_194 : decode cX6_between 194 = .ok (.iload 5, 2) := by decide +kernel
theorem dX6_between_196 : decode cX6_between 196 = .ok (.ifCond .le 77, 3) := by decide +kernel
theorem dX6_between_199 : decode cX6_between 199 = .ok (.iload 6, 2) := by decide +kernel
theorem dX6_between_201 : decode cX6_between 201 = .ok (.ifCond .le 72, 3) := by decide +kernel
theorem dX6_between_204 : decode cX6_between 204 = .ok (.iload 7, 2) := by decide +kernel
theorem dX6_between_206 : decode cX6_between 206 = .ok (.iconst 5, 1) := by decide +kernel
theorem dX6_between_207 : decode cX6_between 207 = .ok (.if_icmp .ne 7, 3) := by decide +kernel
theorem dX6_between_210 : decode cX6_between 210 = .ok (.iconst 1, 1) := by decide +kernel
theorem dX6_between_211 : decode cX6_between 211 = .ok (.goto 4, 3) := by decide +kernel
theorem dX6_between_214 : decode cX6_between 214 = .ok (.iconst 0, 1) := by decide +kernel
theorem dX6_between_215 : decode cX6_between 215 = .ok (.iload 8, 2) := by decide +kernel
theorem dX6_between_217 : decode cX6_between 217 = .ok (.iconst 5, 1) := by decide +kernel
theorem dX6_between_218 : decode cX6_between 218 = .ok (.if_icmp .ne 7, 3) := by decide +kernel
theorem dX6_between_221 : decode cX6_between 221 = .ok (.iconst 1, 1) := by decide +kernel
theorem dX6_between_222 : decode cX6_between 222 = .ok (.goto 4, 3) := by decide +kernel
theorem dX6_between_225 : decode cX6_between 225 = .ok (.iconst 0, 1) := by decide +kernel
theorem dX6_between_226 : decode cX6_between 226 = .ok (.if_icmp .ne 47, 3) := by decide +kernel
theorem dX6_between_229 : decode cX6_between 229 = .ok (.iload 9, 2) := by decide +kernel
theorem dX6_between_231 : decode cX6_between 231 = .ok (.aload 4, 2) := by decide +kernel
theorem dX6_between_233 : decode cX6_between 233 = .ok (.iload 5, 2) := by decide +kernel
theorem dX6_between_235 : decode cX6_between 235 = .ok (.iconst 1, 1) := by decide +kernel
theorem dX6_between_236 : decode cX6_between 236 = .ok (.isub, 1) := by decide +kernel
theorem dX6_between_237 : decode cX6_between 237 = .ok (.iload_n 3, 1) := by decide +kernel
theorem dX6_between_238 : decode cX6_between 238 = .ok (.imul, 1) := by decide +kernel
theorem dX6_between_239 : decode cX6_between 239 = .ok (.iload 6, 2) := by decide +kernel
theorem dX6_between_241 : decode cX6_between 241 = .ok (.iadd, 1) := by decide +kernel
theorem dX6_between_242 : decode cX6_between 242 = .ok (.iconst 1, 1) := by decide +kernel
theorem dX6_between_243 : decode cX6_between 243 = .ok (.isub, 1) := by decide +kernel
theorem dX6_between_244 : decode cX6_between 244 = .ok (.iaload, 1) := by decide +kernel
theorem dX6_between_245 : decode cX6_between 245 = .ok (.iload 7, 2) := by decide +kernel
theorem dX6_between_247 : decode cX6_between 247 = .ok (.iconst 5, 1) := by decide +kernel
theorem dX6_between_248 : decode cX6_between 248 = .ok (.if_icmp .ne 7, 3) := by decide +kernel
theorem dX6_between_251 : decode cX6_between 251 = .ok (.iconst 0, 1) := by decide +kernel
theorem dX6_between_252 : decode cX6_between 252 = .ok (.goto 15, 3) := by decide +kernel
theorem dX6_between_255 : decode cX6_between 255 = .ok (.aload_n 0, 1) := by decide +kernel
theorem dX6_between_256 : decode cX6_between 256 = .ok (.getfield 16, 3) := by decide +kernel
theorem dX6_between_259 : decode cX6_between 259 = .ok (.iconst 5, 1) := by decide +kernel
theorem dX6_between_260 : decode cX6_between 260 = .ok (.iload 7, 2) := by decide +kernel
theorem dX6_between_262 : decode cX6_between 262 = .ok (.imul, 1) := by decide +kernel
theorem dX6_between_263 : decode cX6_between 263 = .ok (.iload 8, 2) := by decide +kernel
theorem dX6_between_265 : decode cX6_between 265 = .ok (.iadd, 1) := by decide +kernel
theorem dX6_between_266 : decode cX6_between 266 = .ok (.iaload, 1) := by decide +kernel
theorem dX6_between_267 : decode cX6_between 267 = .ok (.iadd, 1) := by decide +kernel
theorem dX6_between_268 : decode cX6_between 268 = .ok (.invokestatic 85, 3) := by decide +kernel
theorem dX6_between_271 : decode cX6_between 271 = .ok (.istore 9, 2) := by decide +kernel
theorem dX6_between_273 : decode cX6_between 273 = .ok (.aload 4, 2) := by decide +kernel
theorem dX6_between_275 : decode cX6_between 275 = .ok (.iload 5, 2) := by decide +kernel
theorem dX6_between_277 : decode cX6_between 277 = .ok (.iload_n 3, 1) := by decide +kernel
theorem dX6_between_278 : decode cX6_between 278 = .ok (.imul, 1) := by decide +kernel
theorem dX6_between_279 : decode cX6_between 279 = .ok (.iload 6, 2) := by decide +kernel
theorem dX6_between_281 : decode cX6_between 281 = .ok (.iadd, 1) := by decide +kernel
theorem dX6_between_282 : decode cX6_between 282 = .ok (.iload 9, 2) := by decide +kernel
theorem dX6_between_284 : decode cX6_between 284 = .ok (.iastore, 1) := by decide +kernel
theorem dX6_between_285 : decode cX6_between 285 = .ok (.iinc 6 1, 3) := by decide +kernel
theorem dX6_between_288 : decode cX6_between 288 = .ok (.goto (-248), 3) := by decide +kernel
theorem dX6_between_291 : decode cX6_between 291 = .ok (.iinc 5 1, 3) := by decide +kernel
theorem dX6_between_294 : decode cX6_between 294 = .ok (.goto (-268), 3) := by decide +kernel
theorem dX6_between_297 : decode cX6_between 297 = .ok (.aload 4, 2) := by decide +kernel
theorem dX6_between_299 : decode cX6_between 299 = .ok (.aload_n 0, 1) := by decide +kernel
theorem dX6_between_300 : decode cX6_between 300 = .ok (.getfield 26, 3) := by decide +kernel
theorem dX6_between_303 : decode cX6_between 303 = .ok (.iload_n 1, 1) := by decide +kernel
theorem dX6_between_304 : decode cX6_between 304 = .ok (.iaload, 1) := by decide +kernel
theorem dX6_between_305 : decode cX6_between 305 = .ok (.iload_n 3, 1) := by decide +kernel
theorem dX6_between_306 : decode cX6_between 306 = .ok (.imul, 1) := by decide +kernel
theorem dX6_between_307 : decode cX6_between 307 = .ok (.iload_n 3, 1) := by decide +kernel
theorem dX6_between_308 : decode cX6_between 308 = .ok (.iadd, 1) := by decide +kernel
theorem dX6_between_309 : decode cX6_between 309 = .ok (.iconst 1, 1) := by decide +kernel
theorem dX6_between_310 : decode cX6_between 310 = .ok (.isub, 1) := by decide +kernel
theorem dX6_between_311 : decode cX6_between 311 = .ok (.iaload, 1) := by decide +kernel
theorem dX6_between_312 : decode cX6_between 312 = .ok (.ireturn, 1) := by decide +kernel
theorem dX6_distance_0 : decode cX6_distance 0 = .ok (.aload_n 0, 1) := by decide +kernel
theorem dX6_distance_1 : decode cX6_distance 1 = .ok (.iconst 0, 1) := by decide +kernel
theorem dX6_distance_2 : decode cX6_distance 2 = .ok (.putfield 59, 3) := by decide +kernel
theorem dX6_distance_5 : decode cX6_distance 5 = .ok (.aload_n 0, 1) := by decide +kernel
theorem dX6_distance_6 : decode cX6_distance 6 = .ok (.iload_n 1, 1) := by decide +kernel
theorem dX6_distance_7 : decode cX6_distance 7 = .ok (.invokevirtual 160, 3) := by decide +kernel
theorem dX6_distance_10 : decode cX6_distance 10 = .ok (.ifCond .eq 20, 3) := by decide +kernel
theorem dX6_distance_13 : decode cX6_distance 13 = .ok (.aload_n 0, 1) := by decide +kernel
theorem dX6_distance_14 : decode cX6_distance 14 = .ok (.iload_n 2, 1) := by decide +kernel
theorem dX6_distance_15 : decode cX6_distance 15 = .ok (.invokevirtual 160, 3) := by decide +kernel
theorem dX6_distance_18 : decode cX6_distance 18 = .ok (.ifCond .eq 12, 3) := by decide +kernel
theorem dX6_distance_21 : decode cX6_distance 21 = .ok (.aload_n 0, 1) := by decide +kernel
theorem dX6_distance_22 : decode cX6_distance 22 = .ok (.iload_n 1, 1) := by decide +kernel
theorem dX6_distance_23 : decode cX6_distance 23 = .ok (.iload_n 2, 1) := by decide +kernel
theorem dX6_distance_24 : decode cX6_distance 24 = .ok (.invokevirtual 166, 3) := by decide +kernel
theorem dX6_distance_27 : decode cX6_distance 27 = .ok (.goto 8, 3) := by decide +kernel
theorem dX6_distance_30 : decode cX6_distance 30 = .ok (.aload_n 0, 1) := by decide +kernel
theorem dX6_distance_31 : decode cX6_distance 31 = .ok (.iconst 1, 1) := by decide +kernel
theorem dX6_distance_32 : decode cX6_distance 32 = .ok (.invokevirtual 70, 3) := by decide +kernel
theorem dX6_distance_35 : decode cX6_distance 35 = .ok (.ireturn, 1) := by decide +kernel
theorem dX6_nearest_0 : decode cX6_nearest 0 = .ok (.aload_n 0, 1) := by decide +kernel
theorem dX6_nearest_1 : decode cX6_nearest 1 = .ok (.iconst 0, 1) := by decide +kernel
theorem dX6_nearest_2 : decode cX6_nearest 2 = .ok (.putfield 59, 3) := by decide +kernel
theorem dX6_nearest_5 : decode cX6_nearest 5 = .ok (.aload_n 0, 1) := by decide +kernel
theorem dX6_nearest_6 : decode cX6_nearest 6 = .ok (.iload_n 1, 1) := by decide +kernel
theorem dX6_nearest_7 : decode cX6_nearest 7 = .ok (.invokevirtual 160, 3) := by decide +kernel
theorem dX6_nearest_10 : decode cX6_nearest 10 = .ok (.ifCond .ne 9, 3) := by decide +kernel
theorem dX6_nearest_13 : decode cX6_nearest 13 = .ok (.aload_n 0, 1) := by decide +kernel
theorem dX6_nearest_14 : decode cX6_nearest 14 = .ok (.iconst 1, 1) := by decide +kernel
theorem dX6_nearest_15 : decode cX6_nearest 15 = .ok (.invokevirtual 70, 3) := by decide +kernel
theorem dX6_nearest_18 : decode cX6_nearest 18 = .ok (.ireturn, 1) := by decide +kernel
theorem dX6_nearest_19 : decode cX6_nearest 19 = .ok (.iconst (-1), 1) := by decide +kernel
theorem dX6_nearest_20 : decode cX6_nearest 20 = .ok (.istore_n 2, 1) := by decide +kernel
theorem dX6_nearest_21 : decode cX6_nearest 21 = .ok (.iconst 0, 1) := by decide +kernel
theorem dX6_nearest_22 : decode cX6_nearest 22 = .ok (.istore_n 3, 1) := by decide +kernel
theorem dX6_nearest_23 : decode cX6_nearest 23 = .ok (.iconst 0, 1) := by decide +kernel
theorem dX6_nearest_24 : decode cX6_nearest 24 = .ok (.istore 4, 2) := by decide +kernel
theorem dX6_nearest_26 : decode cX6_nearest 26 = .ok (.iload 4, 2) := by decide +kernel
theorem dX6_nearest_28 : decode cX6_nearest 28 = .ok (.aload_n 0, 1) := by decide +kernel
theorem dX6_nearest_29 : decode cX6_nearest 29 = .ok (.getfield 113, 3) := by decide +kernel
theorem dX6_nearest_32 : decode cX6_nearest 32 = .ok (.if_icmp .ge 47, 3) := by decide +kernel
theorem dX6_nearest_35 : decode cX6_nearest 35 = .ok (.iload 4, 2) := by decide +kernel
theorem dX6_nearest_37 : decode cX6_nearest 37 = .ok (.iload_n 1, 1) := by decide +kernel
theorem dX6_nearest_38 : decode cX6_nearest 38 = .ok (.if_icmp .ne 6, 3) := by decide +kernel
theorem dX6_nearest_41 : decode cX6_nearest 41 = .ok (.goto 32, 3) := by decide +kernel
theorem dX6_nearest_44 : decode cX6_nearest 44 = .ok (.aload_n 0, 1) := by decide +kernel
theorem dX6_nearest_45 : decode cX6_nearest 45 = .ok (.iload_n 1, 1) := by decide +kernel
theorem dX6_nearest_46 : decode cX6_nearest 46 = .ok (.iload 4, 2) := by decide +kernel
theorem dX6_nearest_48 : decode cX6_nearest 48 = .ok (.invokevirtual 166, 3) := by decide +kernel
theorem dX6_nearest_51 : decode cX6_nearest 51 = .ok (.istore 5, 2) := by decide +kernel
theorem dX6_nearest_53 : decode cX6_nearest 53 = .ok (.iload_n 2, 1) := by decide +kernel
theorem dX6_nearest_54 : decode cX6_nearest 54 = .ok (.iconst (-1), 1) := by decide +kernel
theorem dX6_nearest_55 : decode cX6_nearest 55 = .ok (.if_icmp .eq 12, 3) := by decide +kernel
theorem dX6_nearest_58 : decode cX6_nearest 58 = .ok (.iload 5, 2) := by decide +kernel
theorem dX6_nearest_60 : decode cX6_nearest 60 = .ok (.iload_n 3, 1) := by decide +kernel
theorem dX6_nearest_61 : decode cX6_nearest 61 = .ok (.if_icmp .lt 6, 3) := by decide +kernel
theorem dX6_nearest_64 : decode cX6_nearest 64 = .ok (.goto 9, 3) := by decide +kernel
theorem dX6_nearest_67 : decode cX6_nearest 67 = .ok (.iload 4, 2) := by decide +kernel
theorem dX6_nearest_69 : decode cX6_nearest 69 = .ok (.istore_n 2, 1) := by decide +kernel
theorem dX6_nearest_70 : decode cX6_nearest 70 = .ok (.iload 5, 2) := by decide +kernel
theorem dX6_nearest_72 : decode cX6_nearest 72 = .ok (.istore_n 3, 1) := by decide +kernel
theorem dX6_nearest_73 : decode cX6_nearest 73 = .ok (.iinc 4 1, 3) := by decide +kernel
theorem dX6_nearest_76 : decode cX6_nearest 76 = .ok (.goto (-50), 3) := by decide +kernel
theorem dX6_nearest_79 : decode cX6_nearest 79 = .ok (.iload_n 2, 1) := by decide +kernel
theorem dX6_nearest_80 : decode cX6_nearest 80 = .ok (.ireturn, 1) := by decide +kernel
theorem dX6_read_0 : decode cX6_read 0 = .ok (.aload_n 0, 1) := by decide +kernel
theorem dX6_read_1 : decode cX6_read 1 = .ok (.iconst 0, 1) := by decide +kernel
theorem dX6_read_2 : decode cX6_read 2 = .ok (.putfield 59, 3) := by decide +kernel
theorem dX6_read_5 : decode cX6_read 5 = .ok (.aload_n 0, 1) := by decide +kernel
theorem dX6_read_6 : decode cX6_read 6 = .ok (.iload_n 1, 1) := by decide +kernel
theorem dX6_read_7 : decode cX6_read 7 = .ok (.invokevirtual 160, 3) := by decide +kernel
theorem dX6_read_10 : decode cX6_read 10 = .ok (.ifCond .ne 9, 3) := by decide +kernel
theorem dX6_read_13 : decode cX6_read 13 = .ok (.aload_n 0, 1) := by decide +kernel
theorem dX6_read_14 : decode cX6_read 14 = .ok (.iconst 1, 1) := by decide +kernel
theorem dX6_read_15 : decode cX6_read 15 = .ok (.invokevirtual 70, 3) := by decide +kernel
theorem dX6_read_18 : decode cX6_read 18 = .ok (.ireturn, 1) := by decide +kernel
theorem dX6_read_19 : decode cX6_read 19 = .ok (.aload_n 0, 1) := by decide +kernel
theorem dX6_read_20 : decode cX6_read 20 = .ok (.iconst 0, 1) := by decide +kernel
theorem dX6_read_21 : decode cX6_read 21 = .ok (.putfield 154, 3) := by decide +kernel
theorem dX6_read_24 : decode cX6_read 24 = .ok (.aload_n 0, 1) := by decide +kernel
theorem dX6_read_25 : decode cX6_read 25 = .ok (.iload_n 1, 1) := by decide +kernel
theorem dX6_read_26 : decode cX6_read 26 = .ok (.iconst 5, 1) := by decide +kernel
theorem dX6_read_27 : decode cX6_read 27 = .ok (.iconst 1, 1) := by decide +kernel
theorem dX6_read_28 : decode cX6_read 28 = .ok (.invokevirtual 157, 3) := by decide +kernel
theorem dX6_read_31 : decode cX6_read 31 = .ok (.pop, 1) := by decide +kernel
theorem dX6_read_32 : decode cX6_read 32 = .ok (.aload_n 0, 1) := by decide +kernel
theorem dX6_read_33 : decode cX6_read 33 = .ok (.getfield 154, 3) := by decide +kernel
theorem dX6_read_36 : decode cX6_read 36 = .ok (.ireturn, 1) := by decide +kernel
theorem dX6_byteAt_0 : decode cX6_byteAt 0 = .ok (.aload_n 0, 1) := by decide +kernel
theorem dX6_byteAt_1 : decode cX6_byteAt 1 = .ok (.iconst 0, 1) := by decide +kernel
theorem dX6_byteAt_2 : decode cX6_byteAt 2 = .ok (.putfield 59, 3) := by decide +kernel
theorem dX6_byteAt_5 : decode cX6_byteAt 5 = .ok (.iload_n 1, 1) := by decide +kernel
theorem dX6_byteAt_6 : decode cX6_byteAt 6 = .ok (.iconst 0, 1) := by decide +kernel
theorem dX6_byteAt_7 : decode cX6_byteAt 7 = .ok (.aload_n 0, 1) := by decide +kernel
theorem dX6_byteAt_8 : decode cX6_byteAt 8 = .ok (.getfield 154, 3) := by decide +kernel
theorem dX6_byteAt_11 : decode cX6_byteAt 11 = .ok (.iconst 1, 1) := by decide +kernel
theorem dX6_byteAt_12 : decode cX6_byteAt 12 = .ok (.isub, 1) := by decide +kernel
theorem dX6_byteAt_13 : decode cX6_byteAt 13 = .ok (.invokestatic 66, 3) := by decide +kernel
theorem dX6_byteAt_16 : decode cX6_byteAt 16 = .ok (.ifCond .eq 12, 3) := by decide +kernel
theorem dX6_byteAt_19 : decode cX6_byteAt 19 = .ok (.aload_n 0, 1) := by decide +kernel
theorem dX6_byteAt_20 : decode cX6_byteAt 20 = .ok (.getfield 41, 3) := by decide +kernel
theorem dX6_byteAt_23 : decode cX6_byteAt 23 = .ok (.iload_n 1, 1) := by decide +kernel
theorem dX6_byteAt_24 : decode cX6_byteAt 24 = .ok (.iaload, 1) := by decide +kernel
theorem dX6_byteAt_25 : decode cX6_byteAt 25 = .ok (.goto 8, 3) := by decide +kernel
theorem dX6_byteAt_28 : decode cX6_byteAt 28 = .ok (.aload_n 0, 1) := by decide +kernel
theorem dX6_byteAt_29 : decode cX6_byteAt 29 = .ok (.iconst 1, 1) := by decide +kernel
theorem dX6_byteAt_30 : decode cX6_byteAt 30 = .ok (.invokevirtual 70, 3) := by decide +kernel
theorem dX6_byteAt_33 : decode cX6_byteAt 33 = .ok (.ireturn, 1) := by decide +kernel
theorem dX6_sum_0 : decode cX6_sum 0 = .ok (.iconst 0, 1) := by decide +kernel
theorem dX6_sum_1 : decode cX6_sum 1 = .ok (.istore_n 2, 1) := by decide +kernel
theorem dX6_sum_2 : decode cX6_sum 2 = .ok (.iconst 0, 1) := by decide +kernel
theorem dX6_sum_3 : decode cX6_sum 3 = .ok (.istore_n 3, 1) := by decide +kernel
theorem dX6_sum_4 : decode cX6_sum 4 = .ok (.iconst 0, 1) := by decide +kernel
theorem dX6_sum_5 : decode cX6_sum 5 = .ok (.istore 4, 2) := by decide +kernel
theorem dX6_sum_7 : decode cX6_sum 7 = .ok (.iconst 0, 1) := by decide +kernel
theorem dX6_sum_8 : decode cX6_sum 8 = .ok (.istore 5, 2) := by decide +kernel
theorem dX6_sum_10 : decode cX6_sum 10 = .ok (.iload 5, 2) := by decide +kernel
theorem dX6_sum_12 : decode cX6_sum 12 = .ok (.bipush 12, 2) := by decide +kernel
theorem dX6_sum_14 : decode cX6_sum 14 = .ok (.if_icmp .ge 27, 3) := by decide +kernel
theorem dX6_sum_17 : decode cX6_sum 17 = .ok (.iload_n 2, 1) := by decide +kernel
theorem dX6_sum_18 : decode cX6_sum 18 = .ok (.aload_n 0, 1) := by decide +kernel
theorem dX6_sum_19 : decode cX6_sum 19 = .ok (.getfield 9, 3) := by decide +kernel
theorem dX6_sum_22 : decode cX6_sum 22 = .ok (.iload 5, 2) := by decide +kernel
theorem dX6_sum_24 : decode cX6_sum 24 = .ok (.iaload, 1) := by decide +kernel
theorem dX6_sum_25 : decode cX6_sum 25 = .ok (.ifCond .le 7, 3) := by decide +kernel
theorem dX6_sum_28 : decode cX6_sum 28 = .ok (.iconst 1, 1) := by decide +kernel
theorem dX6_sum_29 : decode cX6_sum 29 = .ok (.goto 4, 3) := by decide +kernel
theorem dX6_sum_32 : decode cX6_sum 32 = .ok (.iconst 0, 1) := by decide +kernel
theorem dX6_sum_33 : decode cX6_sum 33 = .ok (.iadd, 1) := by decide +kernel
theorem dX6_sum_34 : decode cX6_sum 34 = .ok (.istore_n 2, 1) := by decide +kernel
theorem dX6_sum_35 : decode cX6_sum 35 = .ok (.iinc 5 1, 3) := by decide +kernel
theorem dX6_sum_38 : decode cX6_sum 38 = .ok (.goto (-28), 3) := by decide +kernel
theorem dX6_sum_41 : decode cX6_sum 41 = .ok (.iconst 0, 1) := by decide +kernel
theorem dX6_sum_42 : decode cX6_sum 42 = .ok (.istore 5, 2) := by decide +kernel
theorem dX6_sum_44 : decode cX6_sum 44 = .ok (.iload 5, 2) := by decide +kernel
theorem dX6_sum_46 : decode cX6_sum 46 = .ok (.aload_n 0, 1) := by decide +kernel
theorem dX6_sum_47 : decode cX6_sum 47 = .ok (.getfield 113, 3) := by decide +kernel
theorem dX6_sum_50 : decode cX6_sum 50 = .ok (.if_icmp .ge 31, 3) := by decide +kernel
theorem dX6_sum_53 : decode cX6_sum 53 = .ok (.iload_n 3, 1) := by decide +kernel
theorem dX6_sum_54 : decode cX6_sum 54 = .ok (.aload_n 0, 1) := by decide +kernel
theorem dX6_sum_55 : decode cX6_sum 55 = .ok (.getfield 32, 3) := by decide +kernel
theorem dX6_sum_58 : decode cX6_sum 58 = .ok (.iload 5, 2) := by decide +kernel
theorem dX6_sum_60 : decode cX6_sum 60 = .ok (.iaload, 1) := by decide +kernel
theorem dX6_sum_61 : decode cX6_sum 61 = .ok (.iadd, 1) := by decide +kernel
theorem dX6_sum_62 : decode cX6_sum 62 = .ok (.istore_n 3, 1) := by decide +kernel
theorem dX6_sum_63 : decode cX6_sum 63 = .ok (.iload 4, 2) := by decide +kernel
theorem dX6_sum_65 : decode cX6_sum 65 = .ok (.aload_n 0, 1) := by decide +kernel
theorem dX6_sum_66 : decode cX6_sum 66 = .ok (.getfield 35, 3) := by decide +kernel
theorem dX6_sum_69 : decode cX6_sum 69 = .ok (.iload 5, 2) := by decide +kernel
theorem dX6_sum_71 : decode cX6_sum 71 = .ok (.iaload, 1) := by decide +kernel
theorem dX6_sum_72 : decode cX6_sum 72 = .ok (.iadd, 1) := by decide +kernel
theorem dX6_sum_73 : decode cX6_sum 73 = .ok (.istore 4, 2) := by decide +kernel
theorem dX6_sum_75 : decode cX6_sum 75 = .ok (.iinc 5 1, 3) := by decide +kernel
theorem dX6_sum_78 : decode cX6_sum 78 = .ok (.goto (-34), 3) := by decide +kernel
theorem dX6_sum_81 : decode cX6_sum 81 = .ok (.bipush 7, 2) := by decide +kernel
theorem dX6_sum_83 : decode cX6_sum 83 = .ok (.newarray .int, 2) := by decide +kernel
theorem dX6_sum_85 : decode cX6_sum 85 = .ok (.dup, 1) := by decide +kernel
theorem dX6_sum_86 : decode cX6_sum 86 = .ok (.iconst 0, 1) := by decide +kernel
theorem dX6_sum_87 : decode cX6_sum 87 = .ok (.iload_n 2, 1) := by decide +kernel
theorem dX6_sum_88 : decode cX6_sum 88 = .ok (.iastore, 1) := by decide +kernel
theorem dX6_sum_89 : decode cX6_sum 89 = .ok (.dup, 1) := by decide +kernel
theorem dX6_sum_90 : decode cX6_sum 90 = .ok (.iconst 1, 1) := by decide +kernel
theorem dX6_sum_91 : decode cX6_sum 91 = .ok (.aload_n 0, 1) := by decide +kernel
theorem dX6_sum_92 : decode cX6_sum 92 = .ok (.getfield 113, 3) := by decide +kernel
theorem dX6_sum_95 : decode cX6_sum 95 = .ok (.iastore, 1) := by decide +kernel
theorem dX6_sum_96 : decode cX6_sum 96 = .ok (.dup, 1) := by decide +kernel
theorem dX6_sum_97 : decode cX6_sum 97 = .ok (.iconst 2, 1) := by decide +kernel
theorem dX6_sum_98 : decode cX6_sum 98 = .ok (.aload_n 0, 1) := by decide +kernel
theorem dX6_sum_99 : decode cX6_sum 99 = .ok (.getfield 123, 3) := by decide +kernel
theorem dX6_sum_102 : decode cX6_sum 102 = .ok (.iastore, 1) := by decide +kernel
theorem dX6_sum_103 : decode cX6_sum 103 = .ok (.dup, 1) := by decide +kernel
theorem dX6_sum_104 : decode cX6_sum 104 = .ok (.iconst 3, 1) := by decide +kernel
theorem dX6_sum_105 : decode cX6_sum 105 = .ok (.iload_n 3, 1) := by decide +kernel
theorem dX6_sum_106 : decode cX6_sum 106 = .ok (.iastore, 1) := by decide +kernel
theorem dX6_sum_107 : decode cX6_sum 107 = .ok (.dup, 1) := by decide +kernel
theorem dX6_sum_108 : decode cX6_sum 108 = .ok (.iconst 4, 1) := by decide +kernel
theorem dX6_sum_109 : decode cX6_sum 109 = .ok (.iload 4, 2) := by decide +kernel
theorem dX6_sum_111 : decode cX6_sum 111 = .ok (.iastore, 1) := by decide +kernel
theorem dX6_sum_112 : decode cX6_sum 112 = .ok (.dup, 1) := by decide +kernel
theorem dX6_sum_113 : decode cX6_sum 113 = .ok (.iconst 5, 1) := by decide +kernel
theorem dX6_sum_114 : decode cX6_sum 114 = .ok (.aload_n 0, 1) := by decide +kernel
theorem dX6_sum_115 : decode cX6_sum 115 = .ok (.getfield 107, 3) := by decide +kernel
theorem dX6_sum_118 : decode cX6_sum 118 = .ok (.iastore, 1) := by decide +kernel
theorem dX6_sum_119 : decode cX6_sum 119 = .ok (.dup, 1) := by decide +kernel
theorem dX6_sum_120 : decode cX6_sum 120 = .ok (.bipush 6, 2) := by decide +kernel
theorem dX6_sum_122 : decode cX6_sum 122 = .ok (.aload_n 0, 1) := by decide +kernel
theorem dX6_sum_123 : decode cX6_sum 123 = .ok (.getfield 154, 3) := by decide +kernel
theorem dX6_sum_126 : decode cX6_sum 126 = .ok (.iastore, 1) := by decide +kernel
theorem dX6_sum_127 : decode cX6_sum 127 = .ok (.astore 5, 2) := by decide +kernel
theorem dX6_sum_129 : decode cX6_sum 129 = .ok (.aload 5, 2) := by decide +kernel
theorem dX6_sum_131 : decode cX6_sum 131 = .ok (.iload_n 1, 1) := by decide +kernel
theorem dX6_sum_132 : decode cX6_sum 132 = .ok (.iaload, 1) := by decide +kernel
theorem dX6_sum_133 : decode cX6_sum 133 = .ok (.ireturn, 1) := by decide +kernel
theorem dX6_count_0 : decode cX6_count 0 = .ok (.aload_n 0, 1) := by decide +kernel
theorem dX6_count_1 : decode cX6_count 1 = .ok (.iconst 0, 1) := by decide +kernel
theorem dX6_count_2 : decode cX6_count 2 = .ok (.putfield 59, 3) := by decide +kernel
theorem dX6_count_5 : decode cX6_count 5 = .ok (.iload_n 1, 1) := by decide +kernel
theorem dX6_count_6 : decode cX6_count 6 = .ok (.iconst 0, 1) := by decide +kernel
theorem dX6_count_7 : decode cX6_count 7 = .ok (.bipush 6, 2) := by decide +kernel
theorem dX6_count_9 : decode cX6_count 9 = .ok (.invokestatic 66, 3) := by decide +kernel
theorem dX6_count_12 : decode cX6_count 12 = .ok (.ifCond .eq 11, 3) := by decide +kernel
theorem dX6_count_15 : decode cX6_count 15 = .ok (.aload_n 0, 1) := by decide +kernel
theorem dX6_count_16 : decode cX6_count 16 = .ok (.iload_n 1, 1) := by decide +kernel
theorem dX6_count_17 : decode cX6_count 17 = .ok (.invokevirtual 169, 3) := by decide +kernel
theorem dX6_count_20 : decode cX6_count 20 = .ok (.goto 8, 3) := by decide +kernel
theorem dX6_count_23 : decode cX6_count 23 = .ok (.aload_n 0, 1) := by decide +kernel
theorem dX6_count_24 : decode cX6_count 24 = .ok (.iconst 1, 1) := by decide +kernel
theorem dX6_count_25 : decode cX6_count 25 = .ok (.invokevirtual 70, 3) := by decide +kernel
theorem dX6_count_28 : decode cX6_count 28 = .ok (.ireturn, 1) := by decide +kernel
theorem dX6_mean_0 : decode cX6_mean 0 = .ok (.aload_n 0, 1) := by decide +kernel
theorem dX6_mean_1 : decode cX6_mean 1 = .ok (.iconst 0, 1) := by decide +kernel
theorem dX6_mean_2 : decode cX6_mean 2 = .ok (.putfield 59, 3) := by decide +kernel
theorem dX6_mean_5 : decode cX6_mean 5 = .ok (.iconst 0, 1) := by decide +kernel
theorem dX6_mean_6 : decode cX6_mean 6 = .ok (.istore_n 1, 1) := by decide +kernel
theorem dX6_mean_7 : decode cX6_mean 7 = .ok (.iconst 0, 1) := by decide +kernel
theorem dX6_mean_8 : decode cX6_mean 8 = .ok (.istore_n 2, 1) := by decide +kernel
theorem dX6_mean_9 : decode cX6_mean 9 = .ok (.iload_n 2, 1) := by decide +kernel
theorem dX6_mean_10 : decode cX6_mean 10 = .ok (.bipush 12, 2) := by decide +kernel
theorem dX6_mean_12 : decode cX6_mean 12 = .ok (.if_icmp .ge 21, 3) := by decide +kernel
theorem dX6_mean_15 : decode cX6_mean 15 = .ok (.iload_n 1, 1) := by decide +kernel
theorem dX6_mean_16 : decode cX6_mean 16 = .ok (.aload_n 0, 1) := by decide +kernel
theorem dX6_mean_17 : decode cX6_mean 17 = .ok (.getfield 9, 3) := by decide +kernel
theorem dX6_mean_20 : decode cX6_mean 20 = .ok (.iload_n 2, 1) := by decide +kernel
theorem dX6_mean_21 : decode cX6_mean 21 = .ok (.iaload, 1) := by decide +kernel
theorem dX6_mean_22 : decode cX6_mean 22 = .ok (.invokestatic 62, 3) := by decide +kernel
theorem dX6_mean_25 : decode cX6_mean 25 = .ok (.iadd, 1) := by decide +kernel
theorem dX6_mean_26 : decode cX6_mean 26 = .ok (.istore_n 1, 1) := by decide +kernel
theorem dX6_mean_27 : decode cX6_mean 27 = .ok (.iinc 2 1, 3) := by decide +kernel
theorem dX6_mean_30 : decode cX6_mean 30 = .ok (.goto (-21), 3) := by decide +kernel
theorem dX6_mean_33 : decode cX6_mean 33 = .ok (.aload_n 0, 1) := by decide +kernel
theorem dX6_mean_34 : decode cX6_mean 34 = .ok (.iconst 0, 1) := by decide +kernel
theorem dX6_mean_35 : decode cX6_mean 35 = .ok (.invokevirtual 169, 3) := by decide +kernel
theorem dX6_mean_38 : decode cX6_mean 38 = .ok (.ifCond .ne 7, 3) := by decide +kernel
theorem dX6_mean_41 : decode cX6_mean 41 = .ok (.dconst 0, 1) := by decide +kernel
theorem dX6_mean_42 : decode cX6_mean 42 = .ok (.goto 12, 3) := by decide +kernel
theorem dX6_mean_45 : decode cX6_mean 45 = .ok (.iload_n 1, 1) := by decide +kernel
theorem dX6_mean_46 : decode cX6_mean 46 = .ok (.i2d, 1) := by decide +kernel
theorem dX6_mean_47 : decode cX6_mean 47 = .ok (.aload_n 0, 1) := by decide +kernel
theorem dX6_mean_48 : decode cX6_mean 48 = .ok (.iconst 0, 1) := by decide +kernel
theorem dX6_mean_49 : decode cX6_mean 49 = .ok (.invokevirtual 169, 3) := by decide +kernel
theorem dX6_mean_52 : decode cX6_mean 52 = .ok (.i2d, 1) := by decide +kernel
theorem dX6_mean_53 : decode cX6_mean 53 = .ok (.ddiv, 1) := by decide +kernel
theorem dX6_mean_54 : decode cX6_mean 54 = .ok (.dreturn, 1) := by decide +kernel
theorem dX6_digest_0 : decode cX6_digest 0 = .ok (.aload_n 0, 1) := by decide +kernel
theorem dX6_digest_1 : decode cX6_digest 1 = .ok (.iconst 0, 1) := by decide +kernel
theorem dX6_digest_2 : decode cX6_digest 2 = .ok (.putfield 59, 3) := by decide +kernel
theorem dX6_digest_5 : decode cX6_digest 5 = .ok (.ldc2_w 172, 3) := by decide +kernel
theorem dX6_digest_8 : decode cX6_digest 8 = .ok (.lstore_n 1, 1) := by decide +kernel
theorem dX6_digest_9 : decode cX6_digest 9 = .ok (.iconst 0, 1) := by decide +kernel
theorem dX6_digest_10 : decode cX6_digest 10 = .ok (.istore_n 3, 1) := by decide +kernel
theorem dX6_digest_11 : decode cX6_digest 11 = .ok (.iload_n 3, 1) := by decide +kernel
theorem dX6_digest_12 : decode cX6_digest 12 = .ok (.bipush 7, 2) := by decide +kernel
theorem dX6_digest_14 : decode cX6_digest 14 = .ok (.if_icmp .ge 22, 3) := by decide +kernel
theorem dX6_digest_17 : decode cX6_digest 17 = .ok (.lload_n 1, 1) := by decide +kernel
theorem dX6_digest_18 : decode cX6_digest 18 = .ok (.ldc2_w 174, 3) := by decide +kernel
theorem dX6_digest_21 : decode cX6_digest 21 = .ok (.lmul, 1) := by decide +kernel
theorem dX6_digest_22 : decode cX6_digest 22 = .ok (.aload_n 0, 1) := by decide +kernel
theorem dX6_digest_23 : decode cX6_digest 23 = .ok (.iload_n 3, 1) := by decide +kernel
theorem dX6_digest_24 : decode cX6_digest 24 = .ok (.invokevirtual 169, 3) := by decide +kernel
theorem dX6_digest_27 : decode cX6_digest 27 = .ok (.i2l, 1) := by decide +kernel
theorem dX6_digest_28 : decode cX6_digest 28 = .ok (.ladd, 1) := by decide +kernel
theorem dX6_digest_29 : decode cX6_digest 29 = .ok (.lstore_n 1, 1) := by decide +kernel
theorem dX6_digest_30 : decode cX6_digest 30 = .ok (.iinc 3 1, 3) := by decide +kernel
theorem dX6_digest_33 : decode cX6_digest 33 = .ok (.goto (-22), 3) := by decide +kernel
theorem dX6_digest_36 : decode cX6_digest 36 = .ok (.iconst 0, 1) := by decide +kernel
theorem dX6_digest_37 : decode cX6_digest 37 = .ok (.istore_n 3, 1) := by decide +kernel
theorem dX6_digest_38 : decode cX6_digest 38 = .ok (.iload_n 3, 1) := by decide +kernel
theorem dX6_digest_39 : decode cX6_digest 39 = .ok (.bipush 12, 2) := by decide +kernel
theorem dX6_digest_41 : decode cX6_digest 41 = .ok (.if_icmp .ge 39, 3) := by decide +kernel
theorem dX6_digest_44 : decode cX6_digest 44 = .ok (.iconst 0, 1) := by decide +kernel
theorem dX6_digest_45 : decode cX6_digest 45 = .ok (.istore 4, 2) := by decide +kernel
theorem dX6_digest_47 : decode cX6_digest 47 = .ok (.iload 4, 2) := by decide +kernel
theorem dX6_digest_49 : decode cX6_digest 49 = .ok (.iconst 3, 1) := by decide +kernel
theorem dX6_digest_50 : decode cX6_digest 50 = .ok (.if_icmp .ge 24, 3) := by decide +kernel
theorem dX6_digest_53 : decode cX6_digest 53 = .ok (.lload_n 1, 1) := by decide +kernel
theorem dX6_digest_54 : decode cX6_digest 54 = .ok (.ldc2_w 174, 3) := by decide +kernel
theorem dX6_digest_57 : decode cX6_digest 57 = .ok (.lmul, 1) := by decide +kernel
theorem dX6_digest_58 : decode cX6_digest 58 = .ok (.aload_n 0, 1) := by decide +kernel
theorem dX6_digest_59 : decode cX6_digest 59 = .ok (.iload_n 3, 1) := by decide +kernel
theorem dX6_digest_60 : decode cX6_digest 60 = .ok (.iload 4, 2) := by decide +kernel
theorem dX6_digest_62 : decode cX6_digest 62 = .ok (.invokevirtual 77, 3) := by decide +kernel
theorem dX6_digest_65 : decode cX6_digest 65 = .ok (.i2l, 1) := by decide +kernel
theorem dX6_digest_66 : decode cX6_digest 66 = .ok (.ladd, 1) := by decide +kernel
theorem dX6_digest_67 : decode cX6_digest 67 = .ok (.lstore_n 1, 1) := by decide +kernel
theorem dX6_digest_68 : decode cX6_digest 68 = .ok (.iinc 4 1, 3) := by decide +kernel
theorem dX6_digest_71 : decode cX6_digest 71 = .ok (.goto (-24), 3) := by decide +kernel
theorem dX6_digest_74 : decode cX6_digest 74 = .ok (.iinc 3 1, 3) := by decide +kernel
theorem dX6_digest_77 : decode cX6_digest 77 = .ok (.goto (-39), 3) := by decide +kernel
theorem dX6_digest_80 : decode cX6_digest 80 = .ok (.iconst 0, 1) := by decide +kernel
theorem dX6_digest_81 : decode cX6_digest 81 = .ok (.istore_n 3, 1) := by decide +kernel
theorem dX6_digest_82 : decode cX6_digest 82 = .ok (.iload_n 3, 1) := by decide +kernel
theorem dX6_digest_83 : decode cX6_digest 83 = .ok (.aload_n 0, 1) := by decide +kernel
theorem dX6_digest_84 : decode cX6_digest 84 = .ok (.getfield 113, 3) := by decide +kernel
theorem dX6_digest_87 : decode cX6_digest 87 = .ok (.if_icmp .ge 80, 3) := by decide +kernel
theorem dX6_digest_90 : decode cX6_digest 90 = .ok (.iconst 0, 1) := by decide +kernel
theorem dX6_digest_91 : decode cX6_digest 91 = .ok (.istore 4, 2) := by decide +kernel
theorem dX6_digest_93 : decode cX6_digest 93 = .ok (.iload 4, 2) := by decide +kernel
theorem dX6_digest_95 : decode cX6_digest 95 = .ok (.bipush 7, 2) := by decide +kernel
theorem dX6_digest_97 : decode cX6_digest 97 = .ok (.if_icmp .ge 24, 3) := by decide +kernel
theorem dX6_digest_100 : decode cX6_digest 100 = .ok (.lload_n 1, 1) := by decide +kernel
theorem dX6_digest_101 : decode cX6_digest 101 = .ok (.ldc2_w 174, 3) := by decide +kernel
theorem dX6_digest_104 : decode cX6_digest 104 = .ok (.lmul, 1) := by decide +kernel
theorem dX6_digest_105 : decode cX6_digest 105 = .ok (.aload_n 0, 1) := by decide +kernel
theorem dX6_digest_106 : decode cX6_digest 106 = .ok (.iload_n 3, 1) := by decide +kernel
theorem dX6_digest_107 : decode cX6_digest 107 = .ok (.iload 4, 2) := by decide +kernel
theorem dX6_digest_109 : decode cX6_digest 109 = .ok (.invokevirtual 163, 3) := by decide +kernel
theorem dX6_digest_112 : decode cX6_digest 112 = .ok (.i2l, 1) := by decide +kernel
theorem dX6_digest_113 : decode cX6_digest 113 = .ok (.ladd, 1) := by decide +kernel
theorem dX6_digest_114 : decode cX6_digest 114 = .ok (.lstore_n 1, 1) := by decide +kernel
theorem dX6_digest_115 : decode cX6_digest 115 = .ok (.iinc 4 1, 3) := by decide +kernel
theorem dX6_digest_118 : decode cX6_digest 118 = .ok (.goto (-25), 3) := by decide +kernel
theorem dX6_digest_121 : decode cX6_digest 121 = .ok (.iconst 0, 1) := by decide +kernel
theorem dX6_digest_122 : decode cX6_digest 122 = .ok (.istore 4, 2) := by decide +kernel
theorem dX6_digest_124 : decode cX6_digest 124 = .ok (.iload 4, 2) := by decide +kernel
theorem dX6_digest_126 : decode cX6_digest 126 = .ok (.aload_n 0, 1) := by decide +kernel
theorem dX6_digest_127 : decode cX6_digest 127 = .ok (.getfield 26, 3) := by decide +kernel
theorem dX6_digest_130 : decode cX6_digest 130 = .ok (.iload_n 3, 1) := by decide +kernel
theorem dX6_digest_131 : decode cX6_digest 131 = .ok (.iaload, 1) := by decide +kernel
theorem dX6_digest_132 : decode cX6_digest 132 = .ok (.if_icmp .ge 29, 3) := by decide +kernel
theorem dX6_digest_135 : decode cX6_digest 135 = .ok (.lload_n 1, 1) := by decide +kernel
theorem dX6_digest_136 : decode cX6_digest 136 = .ok (.ldc2_w 174, 3) := by decide +kernel
theorem dX6_digest_139 : decode cX6_digest 139 = .ok (.lmul, 1) := by decide +kernel
theorem dX6_digest_140 : decode cX6_digest 140 = .ok (.aload_n 0, 1) := by decide +kernel
theorem dX6_digest_141 : decode cX6_digest 141 = .ok (.getfield 29, 3) := by decide +kernel
theorem dX6_digest_144 : decode cX6_digest 144 = .ok (.bipush 40, 2) := by decide +kernel
theorem dX6_digest_146 : decode cX6_digest 146 = .ok (.iload_n 3, 1) := by decide +kernel
theorem dX6_digest_147 : decode cX6_digest 147 = .ok (.imul, 1) := by decide +kernel
theorem dX6_digest_148 : decode cX6_digest 148 = .ok (.iload 4, 2) := by decide +kernel
theorem dX6_digest_150 : decode cX6_digest 150 = .ok (.iadd, 1) := by decide +kernel
theorem dX6_digest_151 : decode cX6_digest 151 = .ok (.iaload, 1) := by decide +kernel
theorem dX6_digest_152 : decode cX6_digest 152 = .ok (.i2l, 1) := by decide +kernel
theorem dX6_digest_153 : decode cX6_digest 153 = .ok (.ladd, 1) := by decide +kernel
theorem dX6_digest_154 : decode cX6_digest 154 = .ok (.lstore_n 1, 1) := by decide +kernel
theorem dX6_digest_155 : decode cX6_digest 155 = .ok (.iinc 4 1, 3) := by decide +kernel
theorem dX6_digest_158 : decode cX6_digest 158 = .ok (.goto (-34), 3) := by decide +kernel
theorem dX6_digest_161 : decode cX6_digest 161 = .ok (.iinc 3 1, 3) := by decide +kernel
theorem dX6_digest_164 : decode cX6_digest 164 = .ok (.goto (-82), 3) := by decide +kernel
theorem dX6_digest_167 : decode cX6_digest 167 = .ok (.iconst 0, 1) := by decide +kernel
theorem dX6_digest_168 : decode cX6_digest 168 = .ok (.istore_n 3, 1) := by decide +kernel
theorem dX6_digest_169 : decode cX6_digest 169 = .ok (.iload_n 3, 1) := by decide +kernel
theorem dX6_digest_170 : decode cX6_digest 170 = .ok (.aload_n 0, 1) := by decide +kernel
theorem dX6_digest_171 : decode cX6_digest 171 = .ok (.getfield 154, 3) := by decide +kernel
theorem dX6_digest_174 : decode cX6_digest 174 = .ok (.if_icmp .ge 23, 3) := by decide +kernel
theorem dX6_digest_177 : decode cX6_digest 177 = .ok (.lload_n 1, 1) := by decide +kernel
theorem dX6_digest_178 : decode cX6_digest 178 = .ok (.ldc2_w 174, 3) := by decide +kernel
theorem dX6_digest_181 : decode cX6_digest 181 = .ok (.lmul, 1) := by decide +kernel
theorem dX6_digest_182 : decode cX6_digest 182 = .ok (.aload_n 0, 1) := by decide +kernel
theorem dX6_digest_183 : decode cX6_digest 183 = .ok (.getfield 41, 3) := by decide +kernel
theorem dX6_digest_186 : decode cX6_digest 186 = .ok (.iload_n 3, 1) := by decide +kernel
theorem dX6_digest_187 : decode cX6_digest 187 = .ok (.iaload, 1) := by decide +kernel
theorem dX6_digest_188 : decode cX6_digest 188 = .ok (.i2l, 1) := by decide +kernel
theorem dX6_digest_189 : decode cX6_digest 189 = .ok (.ladd, 1) := by decide +kernel
theorem dX6_digest_190 : decode cX6_digest 190 = .ok (.lstore_n 1, 1) := by decide +kernel
theorem dX6_digest_191 : decode cX6_digest 191 = .ok (.iinc 3 1, 3) := by decide +kernel
theorem dX6_digest_194 : decode cX6_digest 194 = .ok (.goto (-25), 3) := by decide +kernel
theorem dX6_digest_197 : decode cX6_digest 197 = .ok (.lload_n 1, 1) := by decide +kernel
theorem dX6_digest_198 : decode cX6_digest 198 = .ok (.lreturn, 1) := by decide +kernel
theorem dJ9_max_7cf53_0 : decode cJ9_max_7cf53 0 = .ok (.iload_n 0, 1) := by decide +kernel
theorem dJ9_max_7cf53_1 : decode cJ9_max_7cf53 1 = .ok (.iload_n 1, 1) := by decide +kernel
theorem dJ9_max_7cf53_2 : decode cJ9_max_7cf53 2 = .ok (.if_icmp .lt 7, 3) := by decide +kernel
theorem dJ9_max_7cf53_5 : decode cJ9_max_7cf53 5 = .ok (.iload_n 0, 1) := by decide +kernel
theorem dJ9_max_7cf53_6 : decode cJ9_max_7cf53 6 = .ok (.goto 4, 3) := by decide +kernel
theorem dJ9_max_7cf53_9 : decode cJ9_max_7cf53 9 = .ok (.iload_n 1, 1) := by decide +kernel
theorem dJ9_max_7cf53_10 : decode cJ9_max_7cf53 10 = .ok (.ireturn, 1) := by decide +kernel
theorem dJ9_min_7cf53_0 : decode cJ9_min_7cf53 0 = .ok (.iload_n 0, 1) := by decide +kernel
theorem dJ9_min_7cf53_1 : decode cJ9_min_7cf53 1 = .ok (.iload_n 1, 1) := by decide +kernel
theorem dJ9_min_7cf53_2 : decode cJ9_min_7cf53 2 = .ok (.if_icmp .gt 7, 3) := by decide +kernel
theorem dJ9_min_7cf53_5 : decode cJ9_min_7cf53 5 = .ok (.iload_n 0, 1) := by decide +kernel
theorem dJ9_min_7cf53_6 : decode cJ9_min_7cf53 6 = .ok (.goto 4, 3) := by decide +kernel
theorem dJ9_min_7cf53_9 : decode cJ9_min_7cf53 9 = .ok (.iload_n 1, 1) := by decide +kernel
theorem dJ9_min_7cf53_10 : decode cJ9_min_7cf53 10 = .ok (.ireturn, 1) := by decide +kernel
theorem dJ9_min_f86c9_0 : decode cJ9_min_f86c9 0 = .ok (.lload_n 0, 1) := by decide +kernel
theorem dJ9_min_f86c9_1 : decode cJ9_min_f86c9 1 = .ok (.lload_n 2, 1) := by decide +kernel
theorem dJ9_min_f86c9_2 : decode cJ9_min_f86c9 2 = .ok (.lcmp, 1) := by decide +kernel
theorem dJ9_min_f86c9_3 : decode cJ9_min_f86c9 3 = .ok (.ifCond .gt 7, 3) := by decide +kernel
theorem dJ9_min_f86c9_6 : decode cJ9_min_f86c9 6 = .ok (.lload_n 0, 1) := by decide +kernel
theorem dJ9_min_f86c9_7 : decode cJ9_min_f86c9 7 = .ok (.goto 4, 3) := by decide +kernel
theorem dJ9_min_f86c9_10 : decode cJ9_min_f86c9 10 = .ok (.lload_n 2, 1) := by decide +kernel
theorem dJ9_min_f86c9_11 : decode cJ9_min_f86c9 11 = .ok (.lreturn, 1) := by decide +kernel
theorem dJ7_fill_53178_0 : decode cJ7_fill_53178 0 = .ok (.iconst 0, 1) := by decide +kernel
theorem dJ7_fill_53178_1 : decode cJ7_fill_53178 1 = .ok (.istore_n 2, 1) := by decide +kernel
theorem dJ7_fill_53178_2 : decode cJ7_fill_53178 2 = .ok (.aload_n 0, 1) := by decide +kernel
theorem dJ7_fill_53178_3 : decode cJ7_fill_53178 3 = .ok (.arraylength, 1) := by decide +kernel
theorem dJ7_fill_53178_4 : decode cJ7_fill_53178 4 = .ok (.istore_n 3, 1) := by decide +kernel
theorem dJ7_fill_53178_5 : decode cJ7_fill_53178 5 = .ok (.iload_n 2, 1) := by decide +kernel
theorem dJ7_fill_53178_6 : decode cJ7_fill_53178 6 = .ok (.iload_n 3, 1) := by decide +kernel
theorem dJ7_fill_53178_7 : decode cJ7_fill_53178 7 = .ok (.if_icmp .ge 13, 3) := by decide +kernel
theorem dJ7_fill_53178_10 : decode cJ7_fill_53178 10 = .ok (.aload_n 0, 1) := by decide +kernel
theorem dJ7_fill_53178_11 : decode cJ7_fill_53178 11 = .ok (.iload_n 2, 1) := by decide +kernel
theorem dJ7_fill_53178_12 : decode cJ7_fill_53178 12 = .ok (.iload_n 1, 1) := by decide +kernel
theorem dJ7_fill_53178_13 : decode cJ7_fill_53178 13 = .ok (.iastore, 1) := by decide +kernel
theorem dJ7_fill_53178_14 : decode cJ7_fill_53178 14 = .ok (.iinc 2 1, 3) := by decide +kernel
theorem dJ7_fill_53178_17 : decode cJ7_fill_53178 17 = .ok (.goto (-12), 3) := by decide +kernel
theorem dJ7_fill_53178_20 : decode cJ7_fill_53178 20 = .ok (.return_, 1) := by decide +kernel
theorem dL_setLetter_0 : decode cL_setLetter 0 = .ok (.aload_n 3, 1) := by decide +kernel
theorem dL_setLetter_1 : decode cL_setLetter 1 = .ok (.iconst 0, 1) := by decide +kernel
theorem dL_setLetter_2 : decode cL_setLetter 2 = .ok (.aload_n 0, 1) := by decide +kernel
theorem dL_setLetter_3 : decode cL_setLetter 3 = .ok (.iload_n 1, 1) := by decide +kernel
theorem dL_setLetter_4 : decode cL_setLetter 4 = .ok (.iload_n 2, 1) := by decide +kernel
theorem dL_setLetter_5 : decode cL_setLetter 5 = .ok (.invokevirtual 7, 3) := by decide +kernel
theorem dL_setLetter_8 : decode cL_setLetter 8 = .ok (.i2l, 1) := by decide +kernel
theorem dL_setLetter_9 : decode cL_setLetter 9 = .ok (.lastore, 1) := by decide +kernel
theorem dL_setLetter_10 : decode cL_setLetter 10 = .ok (.goto 11, 3) := by decide +kernel
theorem dL_setLetter_13 : decode cL_setLetter 13 = .ok (.astore 4, 2) := by decide +kernel
theorem dL_setLetter_15 : decode cL_setLetter 15 = .ok (.iconst 1, 1) := by decide +kernel
theorem dL_setLetter_16 : decode cL_setLetter 16 = .ok (.ireturn, 1) := by decide +kernel
theorem dL_setLetter_17 : decode cL_setLetter 17 = .ok (.astore 4, 2) := by decide +kernel
theorem dL_setLetter_19 : decode cL_setLetter 19 = .ok (.iconst 2, 1) := by decide +kernel
theorem dL_setLetter_20 : decode cL_setLetter 20 = .ok (.ireturn, 1) := by decide +kernel
theorem dL_setLetter_21 : decode cL_setLetter 21 = .ok (.iconst 0, 1) := by decide +kernel
theorem dL_setLetter_22 : decode cL_setLetter 22 = .ok (.ireturn, 1) := by decide +kernel
theorem dL_letter_0 : decode cL_letter 0 = .ok (.aload_n 3, 1) := by decide +kernel
theorem dL_letter_1 : decode cL_letter 1 = .ok (.iconst 0, 1) := by decide +kernel
theorem dL_letter_2 : decode cL_letter 2 = .ok (.aload_n 0, 1) := by decide +kernel
theorem dL_letter_3 : decode cL_letter 3 = .ok (.iload_n 1, 1) := by decide +kernel
theorem dL_letter_4 : decode cL_letter 4 = .ok (.iload_n 2, 1) := by decide +kernel
theorem dL_letter_5 : decode cL_letter 5 = .ok (.invokevirtual 17, 3) := by decide +kernel
theorem dL_letter_8 : decode cL_letter 8 = .ok (.i2l, 1) := by decide +kernel
theorem dL_letter_9 : decode cL_letter 9 = .ok (.lastore, 1) := by decide +kernel
theorem dL_letter_10 : decode cL_letter 10 = .ok (.goto 7, 3) := by decide +kernel
theorem dL_letter_13 : decode cL_letter 13 = .ok (.astore 4, 2) := by decide +kernel
theorem dL_letter_15 : decode cL_letter 15 = .ok (.iconst 1, 1) := by decide +kernel
theorem dL_letter_16 : decode cL_letter 16 = .ok (.ireturn, 1) := by decide +kernel
theorem dL_letter_17 : decode cL_letter 17 = .ok (.iconst 0, 1) := by decide +kernel
theorem dL_letter_18 : decode cL_letter 18 = .ok (.ireturn, 1) := by decide +kernel
theorem dL_alike_0 : decode cL_alike 0 = .ok (.aload_n 3, 1) := by decide +kernel
theorem dL_alike_1 : decode cL_alike 1 = .ok (.iconst 0, 1) := by decide +kernel
theorem dL_alike_2 : decode cL_alike 2 = .ok (.aload_n 0, 1) := by decide +kernel
theorem dL_alike_3 : decode cL_alike 3 = .ok (.iload_n 1, 1) := by decide +kernel
theorem dL_alike_4 : decode cL_alike 4 = .ok (.iload_n 2, 1) := by decide +kernel
theorem dL_alike_5 : decode cL_alike 5 = .ok (.invokevirtual 20, 3) := by decide +kernel
theorem dL_alike_8 : decode cL_alike 8 = .ok (.i2l, 1) := by decide +kernel
theorem dL_alike_9 : decode cL_alike 9 = .ok (.lastore, 1) := by decide +kernel
theorem dL_alike_10 : decode cL_alike 10 = .ok (.goto 7, 3) := by decide +kernel
theorem dL_alike_13 : decode cL_alike 13 = .ok (.astore 4, 2) := by decide +kernel
theorem dL_alike_15 : decode cL_alike 15 = .ok (.iconst 1, 1) := by decide +kernel
theorem dL_alike_16 : decode cL_alike 16 = .ok (.ireturn, 1) := by decide +kernel
theorem dL_alike_17 : decode cL_alike 17 = .ok (.iconst 0, 1) := by decide +kernel
theorem dL_alike_18 : decode cL_alike 18 = .ok (.ireturn, 1) := by decide +kernel
theorem dL_setKnotter_0 : decode cL_setKnotter 0 = .ok (.aload_n 3, 1) := by decide +kernel
theorem dL_setKnotter_1 : decode cL_setKnotter 1 = .ok (.iconst 0, 1) := by decide +kernel
theorem dL_setKnotter_2 : decode cL_setKnotter 2 = .ok (.aload_n 0, 1) := by decide +kernel
theorem dL_setKnotter_3 : decode cL_setKnotter 3 = .ok (.iload_n 1, 1) := by decide +kernel
theorem dL_setKnotter_4 : decode cL_setKnotter 4 = .ok (.iload_n 2, 1) := by decide +kernel
theorem dL_setKnotter_5 : decode cL_setKnotter 5 = .ok (.invokevirtual 23, 3) := by decide +kernel
theorem dL_setKnotter_8 : decode cL_setKnotter 8 = .ok (.i2l, 1) := by decide +kernel
theorem dL_setKnotter_9 : decode cL_setKnotter 9 = .ok (.lastore, 1) := by decide +kernel
theorem dL_setKnotter_10 : decode cL_setKnotter 10 = .ok (.goto 7, 3) := by decide +kernel
theorem dL_setKnotter_13 : decode cL_setKnotter 13 = .ok (.astore 4, 2) := by decide +kernel
theorem dL_setKnotter_15 : decode cL_setKnotter 15 = .ok (.iconst 1, 1) := by decide +kernel
theorem dL_setKnotter_16 : decode cL_setKnotter 16 = .ok (.ireturn, 1) := by decide +kernel
theorem dL_setKnotter_17 : decode cL_setKnotter 17 = .ok (.iconst 0, 1) := by decide +kernel
theorem dL_setKnotter_18 : decode cL_setKnotter 18 = .ok (.ireturn, 1) := by decide +kernel
theorem dL_setFeel_0 : decode cL_setFeel 0 = .ok (.aload 4, 2) := by decide +kernel
theorem dL_setFeel_2 : decode cL_setFeel 2 = .ok (.iconst 0, 1) := by decide +kernel
theorem dL_setFeel_3 : decode cL_setFeel 3 = .ok (.aload_n 0, 1) := by decide +kernel
theorem dL_setFeel_4 : decode cL_setFeel 4 = .ok (.iload_n 1, 1) := by decide +kernel
theorem dL_setFeel_5 : decode cL_setFeel 5 = .ok (.iload_n 2, 1) := by decide +kernel
theorem dL_setFeel_6 : decode cL_setFeel 6 = .ok (.iload_n 3, 1) := by decide +kernel
theorem dL_setFeel_7 : decode cL_setFeel 7 = .ok (.invokevirtual 26, 3) := by decide +kernel
theorem dL_setFeel_10 : decode cL_setFeel 10 = .ok (.i2l, 1) := by decide +kernel
theorem dL_setFeel_11 : decode cL_setFeel 11 = .ok (.lastore, 1) := by decide +kernel
end
section
theorem dL_setFeel_12 : decode cL_setFeel 12 = .ok (.goto 7, 3) := by decide +kernel
theorem dL_setFeel_15 : decode cL_setFeel 15 = .ok (.astore 5, 2) := by decide +kernel
theorem dL_setFeel_17 : decode cL_setFeel 17 = .ok (.iconst 1, 1) := by decide +kernel
theorem dL_setFeel_18 : decode cL_setFeel 18 = .ok (.ireturn, 1) := by decide +kernel
theorem dL_setFeel_19 : decode cL_setFeel 19 = .ok (.iconst 0, 1) := by decide +kernel
theorem dL_setFeel_20 : decode cL_setFeel 20 = .ok (.ireturn, 1) := by decide +kernel
theorem dL_setCosts_0 : decode cL_setCosts 0 = .ok (.aload_n 3, 1) := by decide +kernel
theorem dL_setCosts_1 : decode cL_setCosts 1 = .ok (.iconst 0, 1) := by decide +kernel
theorem dL_setCosts_2 : decode cL_setCosts 2 = .ok (.aload_n 0, 1) := by decide +kernel
theorem dL_setCosts_3 : decode cL_setCosts 3 = .ok (.iload_n 1, 1) := by decide +kernel
theorem dL_setCosts_4 : decode cL_setCosts 4 = .ok (.iload_n 2, 1) := by decide +kernel
theorem dL_setCosts_5 : decode cL_setCosts 5 = .ok (.invokevirtual 30, 3) := by decide +kernel
theorem dL_setCosts_8 : decode cL_setCosts 8 = .ok (.i2l, 1) := by decide +kernel
theorem dL_setCosts_9 : decode cL_setCosts 9 = .ok (.lastore, 1) := by decide +kernel
theorem dL_setCosts_10 : decode cL_setCosts 10 = .ok (.goto 7, 3) := by decide +kernel
theorem dL_setCosts_13 : decode cL_setCosts 13 = .ok (.astore 4, 2) := by decide +kernel
theorem dL_setCosts_15 : decode cL_setCosts 15 = .ok (.iconst 1, 1) := by decide +kernel
theorem dL_setCosts_16 : decode cL_setCosts 16 = .ok (.ireturn, 1) := by decide +kernel
theorem dL_setCosts_17 : decode cL_setCosts 17 = .ok (.iconst 0, 1) := by decide +kernel
theorem dL_setCosts_18 : decode cL_setCosts 18 = .ok (.ireturn, 1) := by decide +kernel
theorem dL_feed_0 : decode cL_feed 0 = .ok (.aload 6, 2) := by decide +kernel
theorem dL_feed_2 : decode cL_feed 2 = .ok (.iconst 0, 1) := by decide +kernel
theorem dL_feed_3 : decode cL_feed 3 = .ok (.aload_n 0, 1) := by decide +kernel
theorem dL_feed_4 : decode cL_feed 4 = .ok (.iload_n 1, 1) := by decide +kernel
theorem dL_feed_5 : decode cL_feed 5 = .ok (.iload_n 2, 1) := by decide +kernel
theorem dL_feed_6 : decode cL_feed 6 = .ok (.iload_n 3, 1) := by decide +kernel
theorem dL_feed_7 : decode cL_feed 7 = .ok (.iload 4, 2) := by decide +kernel
theorem dL_feed_9 : decode cL_feed 9 = .ok (.iload 5, 2) := by decide +kernel
theorem dL_feed_11 : decode cL_feed 11 = .ok (.invokevirtual 33, 3) := by decide +kernel
theorem dL_feed_14 : decode cL_feed 14 = .ok (.i2l, 1) := by decide +kernel
theorem dL_feed_15 : decode cL_feed 15 = .ok (.lastore, 1) := by decide +kernel
theorem dL_feed_16 : decode cL_feed 16 = .ok (.goto 7, 3) := by decide +kernel
theorem dL_feed_19 : decode cL_feed 19 = .ok (.astore 7, 2) := by decide +kernel
theorem dL_feed_21 : decode cL_feed 21 = .ok (.iconst 1, 1) := by decide +kernel
theorem dL_feed_22 : decode cL_feed 22 = .ok (.ireturn, 1) := by decide +kernel
theorem dL_feed_23 : decode cL_feed 23 = .ok (.iconst 0, 1) := by decide +kernel
theorem dL_feed_24 : decode cL_feed 24 = .ok (.ireturn, 1) := by decide +kernel
theorem dL_trim_0 : decode cL_trim 0 = .ok (.aload_n 2, 1) := by decide +kernel
theorem dL_trim_1 : decode cL_trim 1 = .ok (.iconst 0, 1) := by decide +kernel
theorem dL_trim_2 : decode cL_trim 2 = .ok (.aload_n 0, 1) := by decide +kernel
theorem dL_trim_3 : decode cL_trim 3 = .ok (.iload_n 1, 1) := by decide +kernel
theorem dL_trim_4 : decode cL_trim 4 = .ok (.invokevirtual 39, 3) := by decide +kernel
theorem dL_trim_7 : decode cL_trim 7 = .ok (.i2l, 1) := by decide +kernel
theorem dL_trim_8 : decode cL_trim 8 = .ok (.lastore, 1) := by decide +kernel
theorem dL_trim_9 : decode cL_trim 9 = .ok (.goto 6, 3) := by decide +kernel
theorem dL_trim_12 : decode cL_trim 12 = .ok (.astore_n 3, 1) := by decide +kernel
theorem dL_trim_13 : decode cL_trim 13 = .ok (.iconst 1, 1) := by decide +kernel
theorem dL_trim_14 : decode cL_trim 14 = .ok (.ireturn, 1) := by decide +kernel
theorem dL_trim_15 : decode cL_trim 15 = .ok (.iconst 0, 1) := by decide +kernel
theorem dL_trim_16 : decode cL_trim 16 = .ok (.ireturn, 1) := by decide +kernel
theorem dL_tie_0 : decode cL_tie 0 = .ok (.aload_n 1, 1) := by decide +kernel
theorem dL_tie_1 : decode cL_tie 1 = .ok (.iconst 0, 1) := by decide +kernel
theorem dL_tie_2 : decode cL_tie 2 = .ok (.aload_n 0, 1) := by decide +kernel
theorem dL_tie_3 : decode cL_tie 3 = .ok (.invokevirtual 43, 3) := by decide +kernel
theorem dL_tie_6 : decode cL_tie 6 = .ok (.i2l, 1) := by decide +kernel
theorem dL_tie_7 : decode cL_tie 7 = .ok (.lastore, 1) := by decide +kernel
theorem dL_tie_8 : decode cL_tie 8 = .ok (.goto 6, 3) := by decide +kernel
theorem dL_tie_11 : decode cL_tie 11 = .ok (.astore_n 2, 1) := by decide +kernel
theorem dL_tie_12 : decode cL_tie 12 = .ok (.iconst 1, 1) := by decide +kernel
theorem dL_tie_13 : decode cL_tie 13 = .ok (.ireturn, 1) := by decide +kernel
theorem dL_tie_14 : decode cL_tie 14 = .ok (.iconst 0, 1) := by decide +kernel
theorem dL_tie_15 : decode cL_tie 15 = .ok (.ireturn, 1) := by decide +kernel
theorem dL_cord_0 : decode cL_cord 0 = .ok (.aload_n 3, 1) := by decide +kernel
theorem dL_cord_1 : decode cL_cord 1 = .ok (.iconst 0, 1) := by decide +kernel
theorem dL_cord_2 : decode cL_cord 2 = .ok (.aload_n 0, 1) := by decide +kernel
theorem dL_cord_3 : decode cL_cord 3 = .ok (.iload_n 1, 1) := by decide +kernel
theorem dL_cord_4 : decode cL_cord 4 = .ok (.iload_n 2, 1) := by decide +kernel
theorem dL_cord_5 : decode cL_cord 5 = .ok (.invokevirtual 47, 3) := by decide +kernel
theorem dL_cord_8 : decode cL_cord 8 = .ok (.i2l, 1) := by decide +kernel
theorem dL_cord_9 : decode cL_cord 9 = .ok (.lastore, 1) := by decide +kernel
theorem dL_cord_10 : decode cL_cord 10 = .ok (.goto 7, 3) := by decide +kernel
theorem dL_cord_13 : decode cL_cord 13 = .ok (.astore 4, 2) := by decide +kernel
theorem dL_cord_15 : decode cL_cord 15 = .ok (.iconst 1, 1) := by decide +kernel
theorem dL_cord_16 : decode cL_cord 16 = .ok (.ireturn, 1) := by decide +kernel
theorem dL_cord_17 : decode cL_cord 17 = .ok (.iconst 0, 1) := by decide +kernel
theorem dL_cord_18 : decode cL_cord 18 = .ok (.ireturn, 1) := by decide +kernel
theorem dL_knot_0 : decode cL_knot 0 = .ok (.aload_n 3, 1) := by decide +kernel
theorem dL_knot_1 : decode cL_knot 1 = .ok (.iconst 0, 1) := by decide +kernel
theorem dL_knot_2 : decode cL_knot 2 = .ok (.aload_n 0, 1) := by decide +kernel
theorem dL_knot_3 : decode cL_knot 3 = .ok (.iload_n 1, 1) := by decide +kernel
theorem dL_knot_4 : decode cL_knot 4 = .ok (.iload_n 2, 1) := by decide +kernel
theorem dL_knot_5 : decode cL_knot 5 = .ok (.invokevirtual 50, 3) := by decide +kernel
theorem dL_knot_8 : decode cL_knot 8 = .ok (.i2l, 1) := by decide +kernel
theorem dL_knot_9 : decode cL_knot 9 = .ok (.lastore, 1) := by decide +kernel
theorem dL_knot_10 : decode cL_knot 10 = .ok (.goto 7, 3) := by decide +kernel
theorem dL_knot_13 : decode cL_knot 13 = .ok (.astore 4, 2) := by decide +kernel
theorem dL_knot_15 : decode cL_knot 15 = .ok (.iconst 1, 1) := by decide +kernel
theorem dL_knot_16 : decode cL_knot 16 = .ok (.ireturn, 1) := by decide +kernel
theorem dL_knot_17 : decode cL_knot 17 = .ok (.iconst 0, 1) := by decide +kernel
theorem dL_knot_18 : decode cL_knot 18 = .ok (.ireturn, 1) := by decide +kernel
theorem dL_retie_0 : decode cL_retie 0 = .ok (.aload 4, 2) := by decide +kernel
theorem dL_retie_2 : decode cL_retie 2 = .ok (.iconst 0, 1) := by decide +kernel
theorem dL_retie_3 : decode cL_retie 3 = .ok (.aload_n 0, 1) := by decide +kernel
theorem dL_retie_4 : decode cL_retie 4 = .ok (.iload_n 1, 1) := by decide +kernel
theorem dL_retie_5 : decode cL_retie 5 = .ok (.iload_n 2, 1) := by decide +kernel
theorem dL_retie_6 : decode cL_retie 6 = .ok (.iload_n 3, 1) := by decide +kernel
theorem dL_retie_7 : decode cL_retie 7 = .ok (.invokevirtual 53, 3) := by decide +kernel
theorem dL_retie_10 : decode cL_retie 10 = .ok (.i2l, 1) := by decide +kernel
theorem dL_retie_11 : decode cL_retie 11 = .ok (.lastore, 1) := by decide +kernel
theorem dL_retie_12 : decode cL_retie 12 = .ok (.goto 15, 3) := by decide +kernel
theorem dL_retie_15 : decode cL_retie 15 = .ok (.astore 5, 2) := by decide +kernel
theorem dL_retie_17 : decode cL_retie 17 = .ok (.iconst 1, 1) := by decide +kernel
theorem dL_retie_18 : decode cL_retie 18 = .ok (.ireturn, 1) := by decide +kernel
theorem dL_retie_19 : decode cL_retie 19 = .ok (.astore 5, 2) := by decide +kernel
theorem dL_retie_21 : decode cL_retie 21 = .ok (.iconst 2, 1) := by decide +kernel
theorem dL_retie_22 : decode cL_retie 22 = .ok (.ireturn, 1) := by decide +kernel
theorem dL_retie_23 : decode cL_retie 23 = .ok (.astore 5, 2) := by decide +kernel
theorem dL_retie_25 : decode cL_retie 25 = .ok (.iconst 3, 1) := by decide +kernel
theorem dL_retie_26 : decode cL_retie 26 = .ok (.ireturn, 1) := by decide +kernel
theorem dL_retie_27 : decode cL_retie 27 = .ok (.iconst 0, 1) := by decide +kernel
theorem dL_retie_28 : decode cL_retie 28 = .ok (.ireturn, 1) := by decide +kernel
theorem dL_distance_0 : decode cL_distance 0 = .ok (.aload_n 3, 1) := by decide +kernel
theorem dL_distance_1 : decode cL_distance 1 = .ok (.iconst 0, 1) := by decide +kernel
theorem dL_distance_2 : decode cL_distance 2 = .ok (.aload_n 0, 1) := by decide +kernel
theorem dL_distance_3 : decode cL_distance 3 = .ok (.iload_n 1, 1) := by decide +kernel
theorem dL_distance_4 : decode cL_distance 4 = .ok (.iload_n 2, 1) := by decide +kernel
theorem dL_distance_5 : decode cL_distance 5 = .ok (.invokevirtual 56, 3) := by decide +kernel
theorem dL_distance_8 : decode cL_distance 8 = .ok (.i2l, 1) := by decide +kernel
theorem dL_distance_9 : decode cL_distance 9 = .ok (.lastore, 1) := by decide +kernel
theorem dL_distance_10 : decode cL_distance 10 = .ok (.goto 7, 3) := by decide +kernel
theorem dL_distance_13 : decode cL_distance 13 = .ok (.astore 4, 2) := by decide +kernel
theorem dL_distance_15 : decode cL_distance 15 = .ok (.iconst 1, 1) := by decide +kernel
theorem dL_distance_16 : decode cL_distance 16 = .ok (.ireturn, 1) := by decide +kernel
theorem dL_distance_17 : decode cL_distance 17 = .ok (.iconst 0, 1) := by decide +kernel
theorem dL_distance_18 : decode cL_distance 18 = .ok (.ireturn, 1) := by decide +kernel
theorem dL_nearest_0 : decode cL_nearest 0 = .ok (.aload_n 2, 1) := by decide +kernel
theorem dL_nearest_1 : decode cL_nearest 1 = .ok (.iconst 0, 1) := by decide +kernel
theorem dL_nearest_2 : decode cL_nearest 2 = .ok (.aload_n 0, 1) := by decide +kernel
theorem dL_nearest_3 : decode cL_nearest 3 = .ok (.iload_n 1, 1) := by decide +kernel
theorem dL_nearest_4 : decode cL_nearest 4 = .ok (.invokevirtual 59, 3) := by decide +kernel
theorem dL_nearest_7 : decode cL_nearest 7 = .ok (.i2l, 1) := by decide +kernel
theorem dL_nearest_8 : decode cL_nearest 8 = .ok (.lastore, 1) := by decide +kernel
theorem dL_nearest_9 : decode cL_nearest 9 = .ok (.goto 6, 3) := by decide +kernel
theorem dL_nearest_12 : decode cL_nearest 12 = .ok (.astore_n 3, 1) := by decide +kernel
theorem dL_nearest_13 : decode cL_nearest 13 = .ok (.iconst 1, 1) := by decide +kernel
theorem dL_nearest_14 : decode cL_nearest 14 = .ok (.ireturn, 1) := by decide +kernel
theorem dL_nearest_15 : decode cL_nearest 15 = .ok (.iconst 0, 1) := by decide +kernel
theorem dL_nearest_16 : decode cL_nearest 16 = .ok (.ireturn, 1) := by decide +kernel
theorem dL_read_0 : decode cL_read 0 = .ok (.aload_n 2, 1) := by decide +kernel
theorem dL_read_1 : decode cL_read 1 = .ok (.iconst 0, 1) := by decide +kernel
theorem dL_read_2 : decode cL_read 2 = .ok (.aload_n 0, 1) := by decide +kernel
theorem dL_read_3 : decode cL_read 3 = .ok (.iload_n 1, 1) := by decide +kernel
theorem dL_read_4 : decode cL_read 4 = .ok (.invokevirtual 62, 3) := by decide +kernel
theorem dL_read_7 : decode cL_read 7 = .ok (.i2l, 1) := by decide +kernel
theorem dL_read_8 : decode cL_read 8 = .ok (.lastore, 1) := by decide +kernel
theorem dL_read_9 : decode cL_read 9 = .ok (.goto 6, 3) := by decide +kernel
theorem dL_read_12 : decode cL_read 12 = .ok (.astore_n 3, 1) := by decide +kernel
theorem dL_read_13 : decode cL_read 13 = .ok (.iconst 1, 1) := by decide +kernel
theorem dL_read_14 : decode cL_read 14 = .ok (.ireturn, 1) := by decide +kernel
theorem dL_read_15 : decode cL_read 15 = .ok (.iconst 0, 1) := by decide +kernel
theorem dL_read_16 : decode cL_read 16 = .ok (.ireturn, 1) := by decide +kernel
theorem dL_byteAt_0 : decode cL_byteAt 0 = .ok (.aload_n 2, 1) := by decide +kernel
theorem dL_byteAt_1 : decode cL_byteAt 1 = .ok (.iconst 0, 1) := by decide +kernel
theorem dL_byteAt_2 : decode cL_byteAt 2 = .ok (.aload_n 0, 1) := by decide +kernel
theorem dL_byteAt_3 : decode cL_byteAt 3 = .ok (.iload_n 1, 1) := by decide +kernel
theorem dL_byteAt_4 : decode cL_byteAt 4 = .ok (.invokevirtual 65, 3) := by decide +kernel
theorem dL_byteAt_7 : decode cL_byteAt 7 = .ok (.i2l, 1) := by decide +kernel
theorem dL_byteAt_8 : decode cL_byteAt 8 = .ok (.lastore, 1) := by decide +kernel
theorem dL_byteAt_9 : decode cL_byteAt 9 = .ok (.goto 6, 3) := by decide +kernel
theorem dL_byteAt_12 : decode cL_byteAt 12 = .ok (.astore_n 3, 1) := by decide +kernel
theorem dL_byteAt_13 : decode cL_byteAt 13 = .ok (.iconst 1, 1) := by decide +kernel
theorem dL_byteAt_14 : decode cL_byteAt 14 = .ok (.ireturn, 1) := by decide +kernel
theorem dL_byteAt_15 : decode cL_byteAt 15 = .ok (.iconst 0, 1) := by decide +kernel
theorem dL_byteAt_16 : decode cL_byteAt 16 = .ok (.ireturn, 1) := by decide +kernel
theorem dL_count_0 : decode cL_count 0 = .ok (.aload_n 2, 1) := by decide +kernel
theorem dL_count_1 : decode cL_count 1 = .ok (.iconst 0, 1) := by decide +kernel
theorem dL_count_2 : decode cL_count 2 = .ok (.aload_n 0, 1) := by decide +kernel
theorem dL_count_3 : decode cL_count 3 = .ok (.iload_n 1, 1) := by decide +kernel
theorem dL_count_4 : decode cL_count 4 = .ok (.invokevirtual 68, 3) := by decide +kernel
theorem dL_count_7 : decode cL_count 7 = .ok (.i2l, 1) := by decide +kernel
theorem dL_count_8 : decode cL_count 8 = .ok (.lastore, 1) := by decide +kernel
theorem dL_count_9 : decode cL_count 9 = .ok (.goto 6, 3) := by decide +kernel
theorem dL_count_12 : decode cL_count 12 = .ok (.astore_n 3, 1) := by decide +kernel
theorem dL_count_13 : decode cL_count 13 = .ok (.iconst 1, 1) := by decide +kernel
theorem dL_count_14 : decode cL_count 14 = .ok (.ireturn, 1) := by decide +kernel
theorem dL_count_15 : decode cL_count 15 = .ok (.iconst 0, 1) := by decide +kernel
theorem dL_count_16 : decode cL_count 16 = .ok (.ireturn, 1) := by decide +kernel
theorem dL_law_0 : decode cL_law 0 = .ok (.new 8, 3) := by decide +kernel
theorem dL_law_3 : decode cL_law 3 = .ok (.dup, 1) := by decide +kernel
theorem dL_law_4 : decode cL_law 4 = .ok (.invokespecial 71, 3) := by decide +kernel
theorem dL_law_7 : decode cL_law 7 = .ok (.astore_n 1, 1) := by decide +kernel
theorem dL_law_8 : decode cL_law 8 = .ok (.new 72, 3) := by decide +kernel
theorem dL_law_11 : decode cL_law 11 = .ok (.dup, 1) := by decide +kernel
theorem dL_law_12 : decode cL_law 12 = .ok (.invokespecial 74, 3) := by decide +kernel
theorem dL_law_15 : decode cL_law 15 = .ok (.astore_n 2, 1) := by decide +kernel
theorem dL_law_16 : decode cL_law 16 = .ok (.iconst 1, 1) := by decide +kernel
theorem dL_law_17 : decode cL_law 17 = .ok (.newarray .long, 2) := by decide +kernel
theorem dL_law_19 : decode cL_law 19 = .ok (.astore_n 3, 1) := by decide +kernel
theorem dL_law_20 : decode cL_law 20 = .ok (.iconst 0, 1) := by decide +kernel
theorem dL_law_21 : decode cL_law 21 = .ok (.istore 4, 2) := by decide +kernel
theorem dL_law_23 : decode cL_law 23 = .ok (.iload 4, 2) := by decide +kernel
theorem dL_law_25 : decode cL_law 25 = .ok (.aload_n 0, 1) := by decide +kernel
theorem dL_law_26 : decode cL_law 26 = .ok (.arraylength, 1) := by decide +kernel
theorem dL_law_27 : decode cL_law 27 = .ok (.bipush 6, 2) := by decide +kernel
theorem dL_law_29 : decode cL_law 29 = .ok (.isub, 1) := by decide +kernel
theorem dL_law_30 : decode cL_law 30 = .ok (.if_icmp .gt 1363, 3) := by decide +kernel
theorem dL_law_33 : decode cL_law 33 = .ok (.aload_n 0, 1) := by decide +kernel
theorem dL_law_34 : decode cL_law 34 = .ok (.iload 4, 2) := by decide +kernel
theorem dL_law_36 : decode cL_law 36 = .ok (.iaload, 1) := by decide +kernel
theorem dL_law_37 : decode cL_law 37 = .ok (.bipush 31, 2) := by decide +kernel
theorem dL_law_39 : decode cL_law 39 = .ok (.iand, 1) := by decide +kernel
theorem dL_law_40 : decode cL_law 40 = .ok (.tableswitch 1347 0 22 #[108, 176, 244, 257, 270, 338, 351, 364, 432, 512, 580, 684, 740, 784, 852, 920, 1000, 1068, 1124, 1180, 1236, 1292, 1333], 108) := by decide +kernel
theorem dL_law_148 : decode cL_law 148 = .ok (.aload_n 1, 1) := by decide +kernel
theorem dL_law_149 : decode cL_law 149 = .ok (.aload_n 0, 1) := by decide +kernel
theorem dL_law_150 : decode cL_law 150 = .ok (.iload 4, 2) := by decide +kernel
theorem dL_law_152 : decode cL_law 152 = .ok (.iconst 1, 1) := by decide +kernel
theorem dL_law_153 : decode cL_law 153 = .ok (.iadd, 1) := by decide +kernel
theorem dL_law_154 : decode cL_law 154 = .ok (.iaload, 1) := by decide +kernel
theorem dL_law_155 : decode cL_law 155 = .ok (.aload_n 0, 1) := by decide +kernel
theorem dL_law_156 : decode cL_law 156 = .ok (.iload 4, 2) := by decide +kernel
theorem dL_law_158 : decode cL_law 158 = .ok (.iconst 2, 1) := by decide +kernel
theorem dL_law_159 : decode cL_law 159 = .ok (.iadd, 1) := by decide +kernel
theorem dL_law_160 : decode cL_law 160 = .ok (.iaload, 1) := by decide +kernel
theorem dL_law_161 : decode cL_law 161 = .ok (.aload_n 3, 1) := by decide +kernel
theorem dL_law_162 : decode cL_law 162 = .ok (.invokestatic 75, 3) := by decide +kernel
theorem dL_law_165 : decode cL_law 165 = .ok (.istore 5, 2) := by decide +kernel
theorem dL_law_167 : decode cL_law 167 = .ok (.aload_n 2, 1) := by decide +kernel
theorem dL_law_168 : decode cL_law 168 = .ok (.aload_n 0, 1) := by decide +kernel
theorem dL_law_169 : decode cL_law 169 = .ok (.iload 4, 2) := by decide +kernel
theorem dL_law_171 : decode cL_law 171 = .ok (.iconst 1, 1) := by decide +kernel
theorem dL_law_172 : decode cL_law 172 = .ok (.iadd, 1) := by decide +kernel
theorem dL_law_173 : decode cL_law 173 = .ok (.iaload, 1) := by decide +kernel
theorem dL_law_174 : decode cL_law 174 = .ok (.aload_n 0, 1) := by decide +kernel
theorem dL_law_175 : decode cL_law 175 = .ok (.iload 4, 2) := by decide +kernel
theorem dL_law_177 : decode cL_law 177 = .ok (.iconst 2, 1) := by decide +kernel
theorem dL_law_178 : decode cL_law 178 = .ok (.iadd, 1) := by decide +kernel
theorem dL_law_179 : decode cL_law 179 = .ok (.iaload, 1) := by decide +kernel
theorem dL_law_180 : decode cL_law 180 = .ok (.invokevirtual 80, 3) := by decide +kernel
theorem dL_law_183 : decode cL_law 183 = .ok (.istore 6, 2) := by decide +kernel
theorem dL_law_185 : decode cL_law 185 = .ok (.aload_n 2, 1) := by decide +kernel
theorem dL_law_186 : decode cL_law 186 = .ok (.invokevirtual 81, 3) := by decide +kernel
theorem dL_law_189 : decode cL_law 189 = .ok (.iload 5, 2) := by decide +kernel
theorem dL_law_191 : decode cL_law 191 = .ok (.if_icmp .eq 5, 3) := by decide +kernel
theorem dL_law_194 : decode cL_law 194 = .ok (.iconst 0, 1) := by decide +kernel
theorem dL_law_195 : decode cL_law 195 = .ok (.ireturn, 1) := by decide +kernel
theorem dL_law_196 : decode cL_law 196 = .ok (.iload 5, 2) := by decide +kernel
theorem dL_law_198 : decode cL_law 198 = .ok (.ifCond .ne 15, 3) := by decide +kernel
theorem dL_law_201 : decode cL_law 201 = .ok (.aload_n 3, 1) := by decide +kernel
theorem dL_law_202 : decode cL_law 202 = .ok (.iconst 0, 1) := by decide +kernel
theorem dL_law_203 : decode cL_law 203 = .ok (.laload, 1) := by decide +kernel
theorem dL_law_204 : decode cL_law 204 = .ok (.iload 6, 2) := by decide +kernel
theorem dL_law_206 : decode cL_law 206 = .ok (.i2l, 1) := by decide +kernel
theorem dL_law_207 : decode cL_law 207 = .ok (.lcmp, 1) := by decide +kernel
theorem dL_law_208 : decode cL_law 208 = .ok (.ifCond .eq 5, 3) := by decide +kernel
theorem dL_law_211 : decode cL_law 211 = .ok (.iconst 0, 1) := by decide +kernel
theorem dL_law_212 : decode cL_law 212 = .ok (.ireturn, 1) := by decide +kernel
theorem dL_law_213 : decode cL_law 213 = .ok (.goto 1174, 3) := by decide +kernel
theorem dL_law_216 : decode cL_law 216 = .ok (.aload_n 1, 1) := by decide +kernel
theorem dL_law_217 : decode cL_law 217 = .ok (.aload_n 0, 1) := by decide +kernel
theorem dL_law_218 : decode cL_law 218 = .ok (.iload 4, 2) := by decide +kernel
theorem dL_law_220 : decode cL_law 220 = .ok (.iconst 1, 1) := by decide +kernel
theorem dL_law_221 : decode cL_law 221 = .ok (.iadd, 1) := by decide +kernel
theorem dL_law_222 : decode cL_law 222 = .ok (.iaload, 1) := by decide +kernel
theorem dL_law_223 : decode cL_law 223 = .ok (.aload_n 0, 1) := by decide +kernel
theorem dL_law_224 : decode cL_law 224 = .ok (.iload 4, 2) := by decide +kernel
theorem dL_law_226 : decode cL_law 226 = .ok (.iconst 2, 1) := by decide +kernel
theorem dL_law_227 : decode cL_law 227 = .ok (.iadd, 1) := by decide +kernel
theorem dL_law_228 : decode cL_law 228 = .ok (.iaload, 1) := by decide +kernel
theorem dL_law_229 : decode cL_law 229 = .ok (.aload_n 3, 1) := by decide +kernel
theorem dL_law_230 : decode cL_law 230 = .ok (.invokestatic 84, 3) := by decide +kernel
theorem dL_law_233 : decode cL_law 233 = .ok (.istore 5, 2) := by decide +kernel
theorem dL_law_235 : decode cL_law 235 = .ok (.aload_n 2, 1) := by decide +kernel
theorem dL_law_236 : decode cL_law 236 = .ok (.aload_n 0, 1) := by decide +kernel
theorem dL_law_237 : decode cL_law 237 = .ok (.iload 4, 2) := by decide +kernel
theorem dL_law_239 : decode cL_law 239 = .ok (.iconst 1, 1) := by decide +kernel
theorem dL_law_240 : decode cL_law 240 = .ok (.iadd, 1) := by decide +kernel
theorem dL_law_241 : decode cL_law 241 = .ok (.iaload, 1) := by decide +kernel
theorem dL_law_242 : decode cL_law 242 = .ok (.aload_n 0, 1) := by decide +kernel
theorem dL_law_243 : decode cL_law 243 = .ok (.iload 4, 2) := by decide +kernel
theorem dL_law_245 : decode cL_law 245 = .ok (.iconst 2, 1) := by decide +kernel
theorem dL_law_246 : decode cL_law 246 = .ok (.iadd, 1) := by decide +kernel
theorem dL_law_247 : decode cL_law 247 = .ok (.iaload, 1) := by decide +kernel
theorem dL_law_248 : decode cL_law 248 = .ok (.invokevirtual 86, 3) := by decide +kernel
theorem dL_law_251 : decode cL_law 251 = .ok (.istore 6, 2) := by decide +kernel
theorem dL_law_253 : decode cL_law 253 = .ok (.aload_n 2, 1) := by decide +kernel
theorem dL_law_254 : decode cL_law 254 = .ok (.invokevirtual 81, 3) := by decide +kernel
theorem dL_law_257 : decode cL_law 257 = .ok (.iload 5, 2) := by decide +kernel
theorem dL_law_259 : decode cL_law 259 = .ok (.if_icmp .eq 5, 3) := by decide +kernel
theorem dL_law_262 : decode cL_law 262 = .ok (.iconst 0, 1) := by decide +kernel
theorem dL_law_263 : decode cL_law 263 = .ok (.ireturn, 1) := by decide +kernel
theorem dL_law_264 : decode cL_law 264 = .ok (.iload 5, 2) := by decide +kernel
theorem dL_law_266 : decode cL_law 266 = .ok (.ifCond .ne 15, 3) := by decide +kernel
theorem dL_law_269 : decode cL_law 269 = .ok (.aload_n 3, 1) := by decide +kernel
theorem dL_law_270 : decode cL_law 270 = .ok (.iconst 0, 1) := by decide +kernel
theorem dL_law_271 : decode cL_law 271 = .ok (.laload, 1) := by decide +kernel
theorem dL_law_272 : decode cL_law 272 = .ok (.iload 6, 2) := by decide +kernel
theorem dL_law_274 : decode cL_law 274 = .ok (.i2l, 1) := by decide +kernel
theorem dL_law_275 : decode cL_law 275 = .ok (.lcmp, 1) := by decide +kernel
theorem dL_law_276 : decode cL_law 276 = .ok (.ifCond .eq 5, 3) := by decide +kernel
theorem dL_law_279 : decode cL_law 279 = .ok (.iconst 0, 1) := by decide +kernel
theorem dL_law_280 : decode cL_law 280 = .ok (.ireturn, 1) := by decide +kernel
theorem dL_law_281 : decode cL_law 281 = .ok (.goto 1106, 3) := by decide +kernel
theorem dL_law_284 : decode cL_law 284 = .ok (.aload_n 1, 1) := by decide +kernel
theorem dL_law_285 : decode cL_law 285 = .ok (.invokevirtual 87, 3) := by decide +kernel
theorem dL_law_288 : decode cL_law 288 = .ok (.aload_n 2, 1) := by decide +kernel
theorem dL_law_289 : decode cL_law 289 = .ok (.invokevirtual 91, 3) := by decide +kernel
theorem dL_law_292 : decode cL_law 292 = .ok (.if_icmp .eq 1095, 3) := by decide +kernel
theorem dL_law_295 : decode cL_law 295 = .ok (.iconst 0, 1) := by decide +kernel
theorem dL_law_296 : decode cL_law 296 = .ok (.ireturn, 1) := by decide +kernel
theorem dL_law_297 : decode cL_law 297 = .ok (.aload_n 1, 1) := by decide +kernel
theorem dL_law_298 : decode cL_law 298 = .ok (.invokevirtual 92, 3) := by decide +kernel
theorem dL_law_301 : decode cL_law 301 = .ok (.aload_n 2, 1) := by decide +kernel
theorem dL_law_302 : decode cL_law 302 = .ok (.invokevirtual 95, 3) := by decide +kernel
theorem dL_law_305 : decode cL_law 305 = .ok (.if_icmp .eq 1082, 3) := by decide +kernel
theorem dL_law_308 : decode cL_law 308 = .ok (.iconst 0, 1) := by decide +kernel
theorem dL_law_309 : decode cL_law 309 = .ok (.ireturn, 1) := by decide +kernel
theorem dL_law_310 : decode cL_law 310 = .ok (.aload_n 1, 1) := by decide +kernel
theorem dL_law_311 : decode cL_law 311 = .ok (.aload_n 0, 1) := by decide +kernel
theorem dL_law_312 : decode cL_law 312 = .ok (.iload 4, 2) := by decide +kernel
theorem dL_law_314 : decode cL_law 314 = .ok (.iconst 1, 1) := by decide +kernel
theorem dL_law_315 : decode cL_law 315 = .ok (.iadd, 1) := by decide +kernel
theorem dL_law_316 : decode cL_law 316 = .ok (.iaload, 1) := by decide +kernel
theorem dL_law_317 : decode cL_law 317 = .ok (.aload_n 0, 1) := by decide +kernel
theorem dL_law_318 : decode cL_law 318 = .ok (.iload 4, 2) := by decide +kernel
theorem dL_law_320 : decode cL_law 320 = .ok (.iconst 2, 1) := by decide +kernel
theorem dL_law_321 : decode cL_law 321 = .ok (.iadd, 1) := by decide +kernel
theorem dL_law_322 : decode cL_law 322 = .ok (.iaload, 1) := by decide +kernel
theorem dL_law_323 : decode cL_law 323 = .ok (.aload_n 3, 1) := by decide +kernel
theorem dL_law_324 : decode cL_law 324 = .ok (.invokestatic 96, 3) := by decide +kernel
theorem dL_law_327 : decode cL_law 327 = .ok (.istore 5, 2) := by decide +kernel
theorem dL_law_329 : decode cL_law 329 = .ok (.aload_n 2, 1) := by decide +kernel
theorem dL_law_330 : decode cL_law 330 = .ok (.aload_n 0, 1) := by decide +kernel
theorem dL_law_331 : decode cL_law 331 = .ok (.iload 4, 2) := by decide +kernel
theorem dL_law_333 : decode cL_law 333 = .ok (.iconst 1, 1) := by decide +kernel
theorem dL_law_334 : decode cL_law 334 = .ok (.iadd, 1) := by decide +kernel
theorem dL_law_335 : decode cL_law 335 = .ok (.iaload, 1) := by decide +kernel
theorem dL_law_336 : decode cL_law 336 = .ok (.aload_n 0, 1) := by decide +kernel
theorem dL_law_337 : decode cL_law 337 = .ok (.iload 4, 2) := by decide +kernel
theorem dL_law_339 : decode cL_law 339 = .ok (.iconst 2, 1) := by decide +kernel
theorem dL_law_340 : decode cL_law 340 = .ok (.iadd, 1) := by decide +kernel
theorem dL_law_341 : decode cL_law 341 = .ok (.iaload, 1) := by decide +kernel
theorem dL_law_342 : decode cL_law 342 = .ok (.invokevirtual 98, 3) := by decide +kernel
theorem dL_law_345 : decode cL_law 345 = .ok (.istore 6, 2) := by decide +kernel
theorem dL_law_347 : decode cL_law 347 = .ok (.aload_n 2, 1) := by decide +kernel
theorem dL_law_348 : decode cL_law 348 = .ok (.invokevirtual 81, 3) := by decide +kernel
theorem dL_law_351 : decode cL_law 351 = .ok (.iload 5, 2) := by decide +kernel
theorem dL_law_353 : decode cL_law 353 = .ok (.if_icmp .eq 5, 3) := by decide +kernel
theorem dL_law_356 : decode cL_law 356 = .ok (.iconst 0, 1) := by decide +kernel
theorem dL_law_357 : decode cL_law 357 = .ok (.ireturn, 1) := by decide +kernel
theorem dL_law_358 : decode cL_law 358 = .ok (.iload 5, 2) := by decide +kernel
theorem dL_law_360 : decode cL_law 360 = .ok (.ifCond .ne 15, 3) := by decide +kernel
theorem dL_law_363 : decode cL_law 363 = .ok (.aload_n 3, 1) := by decide +kernel
theorem dL_law_364 : decode cL_law 364 = .ok (.iconst 0, 1) := by decide +kernel
theorem dL_law_365 : decode cL_law 365 = .ok (.laload, 1) := by decide +kernel
theorem dL_law_366 : decode cL_law 366 = .ok (.iload 6, 2) := by decide +kernel
theorem dL_law_368 : decode cL_law 368 = .ok (.i2l, 1) := by decide +kernel
theorem dL_law_369 : decode cL_law 369 = .ok (.lcmp, 1) := by decide +kernel
theorem dL_law_370 : decode cL_law 370 = .ok (.ifCond .eq 5, 3) := by decide +kernel
theorem dL_law_373 : decode cL_law 373 = .ok (.iconst 0, 1) := by decide +kernel
theorem dL_law_374 : decode cL_law 374 = .ok (.ireturn, 1) := by decide +kernel
theorem dL_law_375 : decode cL_law 375 = .ok (.goto 1012, 3) := by decide +kernel
theorem dL_law_378 : decode cL_law 378 = .ok (.aload_n 1, 1) := by decide +kernel
theorem dL_law_379 : decode cL_law 379 = .ok (.invokevirtual 99, 3) := by decide +kernel
theorem dL_law_382 : decode cL_law 382 = .ok (.aload_n 2, 1) := by decide +kernel
theorem dL_law_383 : decode cL_law 383 = .ok (.invokevirtual 102, 3) := by decide +kernel
theorem dL_law_386 : decode cL_law 386 = .ok (.if_icmp .eq 1001, 3) := by decide +kernel
theorem dL_law_389 : decode cL_law 389 = .ok (.iconst 0, 1) := by decide +kernel
theorem dL_law_390 : decode cL_law 390 = .ok (.ireturn, 1) := by decide +kernel
theorem dL_law_391 : decode cL_law 391 = .ok (.aload_n 1, 1) := by decide +kernel
theorem dL_law_392 : decode cL_law 392 = .ok (.invokevirtual 103, 3) := by decide +kernel
theorem dL_law_395 : decode cL_law 395 = .ok (.aload_n 2, 1) := by decide +kernel
theorem dL_law_396 : decode cL_law 396 = .ok (.invokevirtual 106, 3) := by decide +kernel
theorem dL_law_399 : decode cL_law 399 = .ok (.if_icmp .eq 988, 3) := by decide +kernel
theorem dL_law_402 : decode cL_law 402 = .ok (.iconst 0, 1) := by decide +kernel
theorem dL_law_403 : decode cL_law 403 = .ok (.ireturn, 1) := by decide +kernel
theorem dL_law_404 : decode cL_law 404 = .ok (.aload_n 1, 1) := by decide +kernel
theorem dL_law_405 : decode cL_law 405 = .ok (.aload_n 0, 1) := by decide +kernel
theorem dL_law_406 : decode cL_law 406 = .ok (.iload 4, 2) := by decide +kernel
theorem dL_law_408 : decode cL_law 408 = .ok (.iconst 1, 1) := by decide +kernel
theorem dL_law_409 : decode cL_law 409 = .ok (.iadd, 1) := by decide +kernel
theorem dL_law_410 : decode cL_law 410 = .ok (.iaload, 1) := by decide +kernel
theorem dL_law_411 : decode cL_law 411 = .ok (.aload_n 0, 1) := by decide +kernel
theorem dL_law_412 : decode cL_law 412 = .ok (.iload 4, 2) := by decide +kernel
theorem dL_law_414 : decode cL_law 414 = .ok (.iconst 2, 1) := by decide +kernel
theorem dL_law_415 : decode cL_law 415 = .ok (.iadd, 1) := by decide +kernel
theorem dL_law_416 : decode cL_law 416 = .ok (.iaload, 1) := by decide +kernel
theorem dL_law_417 : decode cL_law 417 = .ok (.aload_n 3, 1) := by decide +kernel
theorem dL_law_418 : decode cL_law 418 = .ok (.invokestatic 107, 3) := by decide +kernel
theorem dL_law_421 : decode cL_law 421 = .ok (.istore 5, 2) := by decide +kernel
theorem dL_law_423 : decode cL_law 423 = .ok (.aload_n 2, 1) := by decide +kernel
theorem dL_law_424 : decode cL_law 424 = .ok (.aload_n 0, 1) := by decide +kernel
theorem dL_law_425 : decode cL_law 425 = .ok (.iload 4, 2) := by decide +kernel
theorem dL_law_427 : decode cL_law 427 = .ok (.iconst 1, 1) := by decide +kernel
theorem dL_law_428 : decode cL_law 428 = .ok (.iadd, 1) := by decide +kernel
theorem dL_law_429 : decode cL_law 429 = .ok (.iaload, 1) := by decide +kernel
theorem dL_law_430 : decode cL_law 430 = .ok (.aload_n 0, 1) := by decide +kernel
theorem dL_law_431 : decode cL_law 431 = .ok (.iload 4, 2) := by decide +kernel
theorem dL_law_433 : decode cL_law 433 = .ok (.iconst 2, 1) := by decide +kernel
theorem dL_law_434 : decode cL_law 434 = .ok (.iadd, 1) := by decide +kernel
theorem dL_law_435 : decode cL_law 435 = .ok (.iaload, 1) := by decide +kernel
theorem dL_law_436 : decode cL_law 436 = .ok (.invokevirtual 109, 3) := by decide +kernel
theorem dL_law_439 : decode cL_law 439 = .ok (.istore 6, 2) := by decide +kernel
theorem dL_law_441 : decode cL_law 441 = .ok (.aload_n 2, 1) := by decide +kernel
theorem dL_law_442 : decode cL_law 442 = .ok (.invokevirtual 81, 3) := by decide +kernel
theorem dL_law_445 : decode cL_law 445 = .ok (.iload 5, 2) := by decide +kernel
theorem dL_law_447 : decode cL_law 447 = .ok (.if_icmp .eq 5, 3) := by decide +kernel
theorem dL_law_450 : decode cL_law 450 = .ok (.iconst 0, 1) := by decide +kernel
theorem dL_law_451 : decode cL_law 451 = .ok (.ireturn, 1) := by decide +kernel
theorem dL_law_452 : decode cL_law 452 = .ok (.iload 5, 2) := by decide +kernel
theorem dL_law_454 : decode cL_law 454 = .ok (.ifCond .ne 15, 3) := by decide +kernel
theorem dL_law_457 : decode cL_law 457 = .ok (.aload_n 3, 1) := by decide +kernel
theorem dL_law_458 : decode cL_law 458 = .ok (.iconst 0, 1) := by decide +kernel
theorem dL_law_459 : decode cL_law 459 = .ok (.laload, 1) := by decide +kernel
theorem dL_law_460 : decode cL_law 460 = .ok (.iload 6, 2) := by decide +kernel
theorem dL_law_462 : decode cL_law 462 = .ok (.i2l, 1) := by decide +kernel
theorem dL_law_463 : decode cL_law 463 = .ok (.lcmp, 1) := by decide +kernel
theorem dL_law_464 : decode cL_law 464 = .ok (.ifCond .eq 5, 3) := by decide +kernel
theorem dL_law_467 : decode cL_law 467 = .ok (.iconst 0, 1) := by decide +kernel
theorem dL_law_468 : decode cL_law 468 = .ok (.ireturn, 1) := by decide +kernel
theorem dL_law_469 : decode cL_law 469 = .ok (.goto 918, 3) := by decide +kernel
theorem dL_law_472 : decode cL_law 472 = .ok (.aload_n 1, 1) := by decide +kernel
theorem dL_law_473 : decode cL_law 473 = .ok (.aload_n 0, 1) := by decide +kernel
theorem dL_law_474 : decode cL_law 474 = .ok (.iload 4, 2) := by decide +kernel
theorem dL_law_476 : decode cL_law 476 = .ok (.iconst 1, 1) := by decide +kernel
theorem dL_law_477 : decode cL_law 477 = .ok (.iadd, 1) := by decide +kernel
theorem dL_law_478 : decode cL_law 478 = .ok (.iaload, 1) := by decide +kernel
theorem dL_law_479 : decode cL_law 479 = .ok (.aload_n 0, 1) := by decide +kernel
theorem dL_law_480 : decode cL_law 480 = .ok (.iload 4, 2) := by decide +kernel
theorem dL_law_482 : decode cL_law 482 = .ok (.iconst 2, 1) := by decide +kernel
theorem dL_law_483 : decode cL_law 483 = .ok (.iadd, 1) := by decide +kernel
theorem dL_law_484 : decode cL_law 484 = .ok (.iaload, 1) := by decide +kernel
theorem dL_law_485 : decode cL_law 485 = .ok (.aload_n 0, 1) := by decide +kernel
theorem dL_law_486 : decode cL_law 486 = .ok (.iload 4, 2) := by decide +kernel
theorem dL_law_488 : decode cL_law 488 = .ok (.iconst 3, 1) := by decide +kernel
theorem dL_law_489 : decode cL_law 489 = .ok (.iadd, 1) := by decide +kernel
theorem dL_law_490 : decode cL_law 490 = .ok (.iaload, 1) := by decide +kernel
theorem dL_law_491 : decode cL_law 491 = .ok (.aload_n 3, 1) := by decide +kernel
theorem dL_law_492 : decode cL_law 492 = .ok (.invokestatic 110, 3) := by decide +kernel
theorem dL_law_495 : decode cL_law 495 = .ok (.istore 5, 2) := by decide +kernel
theorem dL_law_497 : decode cL_law 497 = .ok (.aload_n 2, 1) := by decide +kernel
theorem dL_law_498 : decode cL_law 498 = .ok (.aload_n 0, 1) := by decide +kernel
theorem dL_law_499 : decode cL_law 499 = .ok (.iload 4, 2) := by decide +kernel
theorem dL_law_501 : decode cL_law 501 = .ok (.iconst 1, 1) := by decide +kernel
theorem dL_law_502 : decode cL_law 502 = .ok (.iadd, 1) := by decide +kernel
theorem dL_law_503 : decode cL_law 503 = .ok (.iaload, 1) := by decide +kernel
theorem dL_law_504 : decode cL_law 504 = .ok (.aload_n 0, 1) := by decide +kernel
theorem dL_law_505 : decode cL_law 505 = .ok (.iload 4, 2) := by decide +kernel
theorem dL_law_507 : decode cL_law 507 = .ok (.iconst 2, 1) := by decide +kernel
theorem dL_law_508 : decode cL_law 508 = .ok (.iadd, 1) := by decide +kernel
theorem dL_law_509 : decode cL_law 509 = .ok (.iaload, 1) := by decide +kernel
theorem dL_law_510 : decode cL_law 510 = .ok (.aload_n 0, 1) := by decide +kernel
theorem dL_law_511 : decode cL_law 511 = .ok (.iload 4, 2) := by decide +kernel
theorem dL_law_513 : decode cL_law 513 = .ok (.iconst 3, 1) := by decide +kernel
theorem dL_law_514 : decode cL_law 514 = .ok (.iadd, 1) := by decide +kernel
theorem dL_law_515 : decode cL_law 515 = .ok (.iaload, 1) := by decide +kernel
theorem dL_law_516 : decode cL_law 516 = .ok (.invokevirtual 113, 3) := by decide +kernel
theorem dL_law_519 : decode cL_law 519 = .ok (.istore 6, 2) := by decide +kernel
theorem dL_law_521 : decode cL_law 521 = .ok (.aload_n 2, 1) := by decide +kernel
theorem dL_law_522 : decode cL_law 522 = .ok (.invokevirtual 81, 3) := by decide +kernel
theorem dL_law_525 : decode cL_law 525 = .ok (.iload 5, 2) := by decide +kernel
theorem dL_law_527 : decode cL_law 527 = .ok (.if_icmp .eq 5, 3) := by decide +kernel
theorem dL_law_530 : decode cL_law 530 = .ok (.iconst 0, 1) := by decide +kernel
theorem dL_law_531 : decode cL_law 531 = .ok (.ireturn, 1) := by decide +kernel
theorem dL_law_532 : decode cL_law 532 = .ok (.iload 5, 2) := by decide +kernel
theorem dL_law_534 : decode cL_law 534 = .ok (.ifCond .ne 15, 3) := by decide +kernel
theorem dL_law_537 : decode cL_law 537 = .ok (.aload_n 3, 1) := by decide +kernel
theorem dL_law_538 : decode cL_law 538 = .ok (.iconst 0, 1) := by decide +kernel
theorem dL_law_539 : decode cL_law 539 = .ok (.laload, 1) := by decide +kernel
theorem dL_law_540 : decode cL_law 540 = .ok (.iload 6, 2) := by decide +kernel
theorem dL_law_542 : decode cL_law 542 = .ok (.i2l, 1) := by decide +kernel
theorem dL_law_543 : decode cL_law 543 = .ok (.lcmp, 1) := by decide +kernel
theorem dL_law_544 : decode cL_law 544 = .ok (.ifCond .eq 5, 3) := by decide +kernel
theorem dL_law_547 : decode cL_law 547 = .ok (.iconst 0, 1) := by decide +kernel
theorem dL_law_548 : decode cL_law 548 = .ok (.ireturn, 1) := by decide +kernel
theorem dL_law_549 : decode cL_law 549 = .ok (.goto 838, 3) := by decide +kernel
theorem dL_law_552 : decode cL_law 552 = .ok (.aload_n 1, 1) := by decide +kernel
theorem dL_law_553 : decode cL_law 553 = .ok (.aload_n 0, 1) := by decide +kernel
theorem dL_law_554 : decode cL_law 554 = .ok (.iload 4, 2) := by decide +kernel
theorem dL_law_556 : decode cL_law 556 = .ok (.iconst 1, 1) := by decide +kernel
theorem dL_law_557 : decode cL_law 557 = .ok (.iadd, 1) := by decide +kernel
theorem dL_law_558 : decode cL_law 558 = .ok (.iaload, 1) := by decide +kernel
theorem dL_law_559 : decode cL_law 559 = .ok (.aload_n 0, 1) := by decide +kernel
theorem dL_law_560 : decode cL_law 560 = .ok (.iload 4, 2) := by decide +kernel
theorem dL_law_562 : decode cL_law 562 = .ok (.iconst 2, 1) := by decide +kernel
theorem dL_law_563 : decode cL_law 563 = .ok (.iadd, 1) := by decide +kernel
theorem dL_law_564 : decode cL_law 564 = .ok (.iaload, 1) := by decide +kernel
theorem dL_law_565 : decode cL_law 565 = .ok (.aload_n 3, 1) := by decide +kernel
theorem dL_law_566 : decode cL_law 566 = .ok (.invokestatic 114, 3) := by decide +kernel
theorem dL_law_569 : decode cL_law 569 = .ok (.istore 5, 2) := by decide +kernel
theorem dL_law_571 : decode cL_law 571 = .ok (.aload_n 2, 1) := by decide +kernel
theorem dL_law_572 : decode cL_law 572 = .ok (.aload_n 0, 1) := by decide +kernel
theorem dL_law_573 : decode cL_law 573 = .ok (.iload 4, 2) := by decide +kernel
theorem dL_law_575 : decode cL_law 575 = .ok (.iconst 1, 1) := by decide +kernel
theorem dL_law_576 : decode cL_law 576 = .ok (.iadd, 1) := by decide +kernel
theorem dL_law_577 : decode cL_law 577 = .ok (.iaload, 1) := by decide +kernel
theorem dL_law_578 : decode cL_law 578 = .ok (.aload_n 0, 1) := by decide +kernel
theorem dL_law_579 : decode cL_law 579 = .ok (.iload 4, 2) := by decide +kernel
theorem dL_law_581 : decode cL_law 581 = .ok (.iconst 2, 1) := by decide +kernel
theorem dL_law_582 : decode cL_law 582 = .ok (.iadd, 1) := by decide +kernel
theorem dL_law_583 : decode cL_law 583 = .ok (.iaload, 1) := by decide +kernel
theorem dL_law_584 : decode cL_law 584 = .ok (.invokevirtual 116, 3) := by decide +kernel
theorem dL_law_587 : decode cL_law 587 = .ok (.istore 6, 2) := by decide +kernel
theorem dL_law_589 : decode cL_law 589 = .ok (.aload_n 2, 1) := by decide +kernel
theorem dL_law_590 : decode cL_law 590 = .ok (.invokevirtual 81, 3) := by decide +kernel
theorem dL_law_593 : decode cL_law 593 = .ok (.iload 5, 2) := by decide +kernel
theorem dL_law_595 : decode cL_law 595 = .ok (.if_icmp .eq 5, 3) := by decide +kernel
theorem dL_law_598 : decode cL_law 598 = .ok (.iconst 0, 1) := by decide +kernel
theorem dL_law_599 : decode cL_law 599 = .ok (.ireturn, 1) := by decide +kernel
theorem dL_law_600 : decode cL_law 600 = .ok (.iload 5, 2) := by decide +kernel
theorem dL_law_602 : decode cL_law 602 = .ok (.ifCond .ne 15, 3) := by decide +kernel
theorem dL_law_605 : decode cL_law 605 = .ok (.aload_n 3, 1) := by decide +kernel
theorem dL_law_606 : decode cL_law 606 = .ok (.iconst 0, 1) := by decide +kernel
theorem dL_law_607 : decode cL_law 607 = .ok (.laload, 1) := by decide +kernel
theorem dL_law_608 : decode cL_law 608 = .ok (.iload 6, 2) := by decide +kernel
theorem dL_law_610 : decode cL_law 610 = .ok (.i2l, 1) := by decide +kernel
theorem dL_law_611 : decode cL_law 611 = .ok (.lcmp, 1) := by decide +kernel
theorem dL_law_612 : decode cL_law 612 = .ok (.ifCond .eq 5, 3) := by decide +kernel
theorem dL_law_615 : decode cL_law 615 = .ok (.iconst 0, 1) := by decide +kernel
theorem dL_law_616 : decode cL_law 616 = .ok (.ireturn, 1) := by decide +kernel
theorem dL_law_617 : decode cL_law 617 = .ok (.goto 770, 3) := by decide +kernel
theorem dL_law_620 : decode cL_law 620 = .ok (.aload_n 1, 1) := by decide +kernel
theorem dL_law_621 : decode cL_law 621 = .ok (.aload_n 0, 1) := by decide +kernel
theorem dL_law_622 : decode cL_law 622 = .ok (.iload 4, 2) := by decide +kernel
theorem dL_law_624 : decode cL_law 624 = .ok (.iconst 1, 1) := by decide +kernel
theorem dL_law_625 : decode cL_law 625 = .ok (.iadd, 1) := by decide +kernel
theorem dL_law_626 : decode cL_law 626 = .ok (.iaload, 1) := by decide +kernel
theorem dL_law_627 : decode cL_law 627 = .ok (.aload_n 0, 1) := by decide +kernel
theorem dL_law_628 : decode cL_law 628 = .ok (.iload 4, 2) := by decide +kernel
theorem dL_law_630 : decode cL_law 630 = .ok (.iconst 2, 1) := by decide +kernel
theorem dL_law_631 : decode cL_law 631 = .ok (.iadd, 1) := by decide +kernel
theorem dL_law_632 : decode cL_law 632 = .ok (.iaload, 1) := by decide +kernel
theorem dL_law_633 : decode cL_law 633 = .ok (.aload_n 0, 1) := by decide +kernel
theorem dL_law_634 : decode cL_law 634 = .ok (.iload 4, 2) := by decide +kernel
theorem dL_law_636 : decode cL_law 636 = .ok (.iconst 3, 1) := by decide +kernel
theorem dL_law_637 : decode cL_law 637 = .ok (.iadd, 1) := by decide +kernel
theorem dL_law_638 : decode cL_law 638 = .ok (.iaload, 1) := by decide +kernel
theorem dL_law_639 : decode cL_law 639 = .ok (.aload_n 0, 1) := by decide +kernel
theorem dL_law_640 : decode cL_law 640 = .ok (.iload 4, 2) := by decide +kernel
theorem dL_law_642 : decode cL_law 642 = .ok (.iconst 4, 1) := by decide +kernel
theorem dL_law_643 : decode cL_law 643 = .ok (.iadd, 1) := by decide +kernel
theorem dL_law_644 : decode cL_law 644 = .ok (.iaload, 1) := by decide +kernel
theorem dL_law_645 : decode cL_law 645 = .ok (.aload_n 0, 1) := by decide +kernel
theorem dL_law_646 : decode cL_law 646 = .ok (.iload 4, 2) := by decide +kernel
theorem dL_law_648 : decode cL_law 648 = .ok (.iconst 5, 1) := by decide +kernel
theorem dL_law_649 : decode cL_law 649 = .ok (.iadd, 1) := by decide +kernel
theorem dL_law_650 : decode cL_law 650 = .ok (.iaload, 1) := by decide +kernel
theorem dL_law_651 : decode cL_law 651 = .ok (.aload_n 3, 1) := by decide +kernel
theorem dL_law_652 : decode cL_law 652 = .ok (.invokestatic 117, 3) := by decide +kernel
theorem dL_law_655 : decode cL_law 655 = .ok (.istore 5, 2) := by decide +kernel
theorem dL_law_657 : decode cL_law 657 = .ok (.aload_n 2, 1) := by decide +kernel
theorem dL_law_658 : decode cL_law 658 = .ok (.aload_n 0, 1) := by decide +kernel
theorem dL_law_659 : decode cL_law 659 = .ok (.iload 4, 2) := by decide +kernel
theorem dL_law_661 : decode cL_law 661 = .ok (.iconst 1, 1) := by decide +kernel
theorem dL_law_662 : decode cL_law 662 = .ok (.iadd, 1) := by decide +kernel
theorem dL_law_663 : decode cL_law 663 = .ok (.iaload, 1) := by decide +kernel
theorem dL_law_664 : decode cL_law 664 = .ok (.aload_n 0, 1) := by decide +kernel
theorem dL_law_665 : decode cL_law 665 = .ok (.iload 4, 2) := by decide +kernel
theorem dL_law_667 : decode cL_law 667 = .ok (.iconst 2, 1) := by decide +kernel
theorem dL_law_668 : decode cL_law 668 = .ok (.iadd, 1) := by decide +kernel
theorem dL_law_669 : decode cL_law 669 = .ok (.iaload, 1) := by decide +kernel
theorem dL_law_670 : decode cL_law 670 = .ok (.aload_n 0, 1) := by decide +kernel
theorem dL_law_671 : decode cL_law 671 = .ok (.iload 4, 2) := by decide +kernel
theorem dL_law_673 : decode cL_law 673 = .ok (.iconst 3, 1) := by decide +kernel
theorem dL_law_674 : decode cL_law 674 = .ok (.iadd, 1) := by decide +kernel
theorem dL_law_675 : decode cL_law 675 = .ok (.iaload, 1) := by decide +kernel
theorem dL_law_676 : decode cL_law 676 = .ok (.aload_n 0, 1) := by decide +kernel
theorem dL_law_677 : decode cL_law 677 = .ok (.iload 4, 2) := by decide +kernel
theorem dL_law_679 : decode cL_law 679 = .ok (.iconst 4, 1) := by decide +kernel
theorem dL_law_680 : decode cL_law 680 = .ok (.iadd, 1) := by decide +kernel
theorem dL_law_681 : decode cL_law 681 = .ok (.iaload, 1) := by decide +kernel
theorem dL_law_682 : decode cL_law 682 = .ok (.aload_n 0, 1) := by decide +kernel
theorem dL_law_683 : decode cL_law 683 = .ok (.iload 4, 2) := by decide +kernel
theorem dL_law_685 : decode cL_law 685 = .ok (.iconst 5, 1) := by decide +kernel
theorem dL_law_686 : decode cL_law 686 = .ok (.iadd, 1) := by decide +kernel
theorem dL_law_687 : decode cL_law 687 = .ok (.iaload, 1) := by decide +kernel
theorem dL_law_688 : decode cL_law 688 = .ok (.invokevirtual 120, 3) := by decide +kernel
theorem dL_law_691 : decode cL_law 691 = .ok (.istore 6, 2) := by decide +kernel
theorem dL_law_693 : decode cL_law 693 = .ok (.aload_n 2, 1) := by decide +kernel
theorem dL_law_694 : decode cL_law 694 = .ok (.invokevirtual 81, 3) := by decide +kernel
theorem dL_law_697 : decode cL_law 697 = .ok (.iload 5, 2) := by decide +kernel
theorem dL_law_699 : decode cL_law 699 = .ok (.if_icmp .eq 5, 3) := by decide +kernel
theorem dL_law_702 : decode cL_law 702 = .ok (.iconst 0, 1) := by decide +kernel
theorem dL_law_703 : decode cL_law 703 = .ok (.ireturn, 1) := by decide +kernel
theorem dL_law_704 : decode cL_law 704 = .ok (.iload 5, 2) := by decide +kernel
theorem dL_law_706 : decode cL_law 706 = .ok (.ifCond .ne 15, 3) := by decide +kernel
theorem dL_law_709 : decode cL_law 709 = .ok (.aload_n 3, 1) := by decide +kernel
theorem dL_law_710 : decode cL_law 710 = .ok (.iconst 0, 1) := by decide +kernel
theorem dL_law_711 : decode cL_law 711 = .ok (.laload, 1) := by decide +kernel
theorem dL_law_712 : decode cL_law 712 = .ok (.iload 6, 2) := by decide +kernel
theorem dL_law_714 : decode cL_law 714 = .ok (.i2l, 1) := by decide +kernel
theorem dL_law_715 : decode cL_law 715 = .ok (.lcmp, 1) := by decide +kernel
theorem dL_law_716 : decode cL_law 716 = .ok (.ifCond .eq 5, 3) := by decide +kernel
theorem dL_law_719 : decode cL_law 719 = .ok (.iconst 0, 1) := by decide +kernel
theorem dL_law_720 : decode cL_law 720 = .ok (.ireturn, 1) := by decide +kernel
theorem dL_law_721 : decode cL_law 721 = .ok (.goto 666, 3) := by decide +kernel
theorem dL_law_724 : decode cL_law 724 = .ok (.aload_n 1, 1) := by decide +kernel
theorem dL_law_725 : decode cL_law 725 = .ok (.aload_n 0, 1) := by decide +kernel
theorem dL_law_726 : decode cL_law 726 = .ok (.iload 4, 2) := by decide +kernel
theorem dL_law_728 : decode cL_law 728 = .ok (.iconst 1, 1) := by decide +kernel
theorem dL_law_729 : decode cL_law 729 = .ok (.iadd, 1) := by decide +kernel
theorem dL_law_730 : decode cL_law 730 = .ok (.iaload, 1) := by decide +kernel
theorem dL_law_731 : decode cL_law 731 = .ok (.aload_n 3, 1) := by decide +kernel
theorem dL_law_732 : decode cL_law 732 = .ok (.invokestatic 121, 3) := by decide +kernel
theorem dL_law_735 : decode cL_law 735 = .ok (.istore 5, 2) := by decide +kernel
theorem dL_law_737 : decode cL_law 737 = .ok (.aload_n 2, 1) := by decide +kernel
theorem dL_law_738 : decode cL_law 738 = .ok (.aload_n 0, 1) := by decide +kernel
theorem dL_law_739 : decode cL_law 739 = .ok (.iload 4, 2) := by decide +kernel
theorem dL_law_741 : decode cL_law 741 = .ok (.iconst 1, 1) := by decide +kernel
theorem dL_law_742 : decode cL_law 742 = .ok (.iadd, 1) := by decide +kernel
theorem dL_law_743 : decode cL_law 743 = .ok (.iaload, 1) := by decide +kernel
theorem dL_law_744 : decode cL_law 744 = .ok (.invokevirtual 124, 3) := by decide +kernel
theorem dL_law_747 : decode cL_law 747 = .ok (.istore 6, 2) := by decide +kernel
theorem dL_law_749 : decode cL_law 749 = .ok (.aload_n 2, 1) := by decide +kernel
theorem dL_law_750 : decode cL_law 750 = .ok (.invokevirtual 81, 3) := by decide +kernel
theorem dL_law_753 : decode cL_law 753 = .ok (.iload 5, 2) := by decide +kernel
theorem dL_law_755 : decode cL_law 755 = .ok (.if_icmp .eq 5, 3) := by decide +kernel
theorem dL_law_758 : decode cL_law 758 = .ok (.iconst 0, 1) := by decide +kernel
theorem dL_law_759 : decode cL_law 759 = .ok (.ireturn, 1) := by decide +kernel
theorem dL_law_760 : decode cL_law 760 = .ok (.iload 5, 2) := by decide +kernel
theorem dL_law_762 : decode cL_law 762 = .ok (.ifCond .ne 15, 3) := by decide +kernel
theorem dL_law_765 : decode cL_law 765 = .ok (.aload_n 3, 1) := by decide +kernel
theorem dL_law_766 : decode cL_law 766 = .ok (.iconst 0, 1) := by decide +kernel
theorem dL_law_767 : decode cL_law 767 = .ok (.laload, 1) := by decide +kernel
theorem dL_law_768 : decode cL_law 768 = .ok (.iload 6, 2) := by decide +kernel
theorem dL_law_770 : decode cL_law 770 = .ok (.i2l, 1) := by decide +kernel
theorem dL_law_771 : decode cL_law 771 = .ok (.lcmp, 1) := by decide +kernel
theorem dL_law_772 : decode cL_law 772 = .ok (.ifCond .eq 5, 3) := by decide +kernel
theorem dL_law_775 : decode cL_law 775 = .ok (.iconst 0, 1) := by decide +kernel
theorem dL_law_776 : decode cL_law 776 = .ok (.ireturn, 1) := by decide +kernel
theorem dL_law_777 : decode cL_law 777 = .ok (.goto 610, 3) := by decide +kernel
theorem dL_law_780 : decode cL_law 780 = .ok (.aload_n 1, 1) := by decide +kernel
theorem dL_law_781 : decode cL_law 781 = .ok (.aload_n 3, 1) := by decide +kernel
theorem dL_law_782 : decode cL_law 782 = .ok (.invokestatic 125, 3) := by decide +kernel
theorem dL_law_785 : decode cL_law 785 = .ok (.istore 5, 2) := by decide +kernel
theorem dL_law_787 : decode cL_law 787 = .ok (.aload_n 2, 1) := by decide +kernel
theorem dL_law_788 : decode cL_law 788 = .ok (.invokevirtual 128, 3) := by decide +kernel
theorem dL_law_791 : decode cL_law 791 = .ok (.istore 6, 2) := by decide +kernel
theorem dL_law_793 : decode cL_law 793 = .ok (.aload_n 2, 1) := by decide +kernel
theorem dL_law_794 : decode cL_law 794 = .ok (.invokevirtual 81, 3) := by decide +kernel
theorem dL_law_797 : decode cL_law 797 = .ok (.iload 5, 2) := by decide +kernel
theorem dL_law_799 : decode cL_law 799 = .ok (.if_icmp .eq 5, 3) := by decide +kernel
theorem dL_law_802 : decode cL_law 802 = .ok (.iconst 0, 1) := by decide +kernel
theorem dL_law_803 : decode cL_law 803 = .ok (.ireturn, 1) := by decide +kernel
theorem dL_law_804 : decode cL_law 804 = .ok (.iload 5, 2) := by decide +kernel
theorem dL_law_806 : decode cL_law 806 = .ok (.ifCond .ne 15, 3) := by decide +kernel
theorem dL_law_809 : decode cL_law 809 = .ok (.aload_n 3, 1) := by decide +kernel
theorem dL_law_810 : decode cL_law 810 = .ok (.iconst 0, 1) := by decide +kernel
theorem dL_law_811 : decode cL_law 811 = .ok (.laload, 1) := by decide +kernel
theorem dL_law_812 : decode cL_law 812 = .ok (.iload 6, 2) := by decide +kernel
theorem dL_law_814 : decode cL_law 814 = .ok (.i2l, 1) := by decide +kernel
theorem dL_law_815 : decode cL_law 815 = .ok (.lcmp, 1) := by decide +kernel
theorem dL_law_816 : decode cL_law 816 = .ok (.ifCond .eq 5, 3) := by decide +kernel
theorem dL_law_819 : decode cL_law 819 = .ok (.iconst 0, 1) := by decide +kernel
theorem dL_law_820 : decode cL_law 820 = .ok (.ireturn, 1) := by decide +kernel
theorem dL_law_821 : decode cL_law 821 = .ok (.goto 566, 3) := by decide +kernel
theorem dL_law_824 : decode cL_law 824 = .ok (.aload_n 1, 1) := by decide +kernel
theorem dL_law_825 : decode cL_law 825 = .ok (.aload_n 0, 1) := by decide +kernel
theorem dL_law_826 : decode cL_law 826 = .ok (.iload 4, 2) := by decide +kernel
theorem dL_law_828 : decode cL_law 828 = .ok (.iconst 1, 1) := by decide +kernel
theorem dL_law_829 : decode cL_law 829 = .ok (.iadd, 1) := by decide +kernel
theorem dL_law_830 : decode cL_law 830 = .ok (.iaload, 1) := by decide +kernel
theorem dL_law_831 : decode cL_law 831 = .ok (.aload_n 0, 1) := by decide +kernel
theorem dL_law_832 : decode cL_law 832 = .ok (.iload 4, 2) := by decide +kernel
theorem dL_law_834 : decode cL_law 834 = .ok (.iconst 2, 1) := by decide +kernel
theorem dL_law_835 : decode cL_law 835 = .ok (.iadd, 1) := by decide +kernel
theorem dL_law_836 : decode cL_law 836 = .ok (.iaload, 1) := by decide +kernel
theorem dL_law_837 : decode cL_law 837 = .ok (.aload_n 3, 1) := by decide +kernel
theorem dL_law_838 : decode cL_law 838 = .ok (.invokestatic 129, 3) := by decide +kernel
theorem dL_law_841 : decode cL_law 841 = .ok (.istore 5, 2) := by decide +kernel
theorem dL_law_843 : decode cL_law 843 = .ok (.aload_n 2, 1) := by decide +kernel
theorem dL_law_844 : decode cL_law 844 = .ok (.aload_n 0, 1) := by decide +kernel
theorem dL_law_845 : decode cL_law 845 = .ok (.iload 4, 2) := by decide +kernel
theorem dL_law_847 : decode cL_law 847 = .ok (.iconst 1, 1) := by decide +kernel
theorem dL_law_848 : decode cL_law 848 = .ok (.iadd, 1) := by decide +kernel
theorem dL_law_849 : decode cL_law 849 = .ok (.iaload, 1) := by decide +kernel
theorem dL_law_850 : decode cL_law 850 = .ok (.aload_n 0, 1) := by decide +kernel
theorem dL_law_851 : decode cL_law 851 = .ok (.iload 4, 2) := by decide +kernel
theorem dL_law_853 : decode cL_law 853 = .ok (.iconst 2, 1) := by decide +kernel
theorem dL_law_854 : decode cL_law 854 = .ok (.iadd, 1) := by decide +kernel
theorem dL_law_855 : decode cL_law 855 = .ok (.iaload, 1) := by decide +kernel
theorem dL_law_856 : decode cL_law 856 = .ok (.invokevirtual 131, 3) := by decide +kernel
theorem dL_law_859 : decode cL_law 859 = .ok (.istore 6, 2) := by decide +kernel
theorem dL_law_861 : decode cL_law 861 = .ok (.aload_n 2, 1) := by decide +kernel
theorem dL_law_862 : decode cL_law 862 = .ok (.invokevirtual 81, 3) := by decide +kernel
theorem dL_law_865 : decode cL_law 865 = .ok (.iload 5, 2) := by decide +kernel
theorem dL_law_867 : decode cL_law 867 = .ok (.if_icmp .eq 5, 3) := by decide +kernel
theorem dL_law_870 : decode cL_law 870 = .ok (.iconst 0, 1) := by decide +kernel
theorem dL_law_871 : decode cL_law 871 = .ok (.ireturn, 1) := by decide +kernel
theorem dL_law_872 : decode cL_law 872 = .ok (.iload 5, 2) := by decide +kernel
theorem dL_law_874 : decode cL_law 874 = .ok (.ifCond .ne 15, 3) := by decide +kernel
theorem dL_law_877 : decode cL_law 877 = .ok (.aload_n 3, 1) := by decide +kernel
theorem dL_law_878 : decode cL_law 878 = .ok (.iconst 0, 1) := by decide +kernel
theorem dL_law_879 : decode cL_law 879 = .ok (.laload, 1) := by decide +kernel
theorem dL_law_880 : decode cL_law 880 = .ok (.iload 6, 2) := by decide +kernel
theorem dL_law_882 : decode cL_law 882 = .ok (.i2l, 1) := by decide +kernel
theorem dL_law_883 : decode cL_law 883 = .ok (.lcmp, 1) := by decide +kernel
theorem dL_law_884 : decode cL_law 884 = .ok (.ifCond .eq 5, 3) := by decide +kernel
theorem dL_law_887 : decode cL_law 887 = .ok (.iconst 0, 1) := by decide +kernel
theorem dL_law_888 : decode cL_law 888 = .ok (.ireturn, 1) := by decide +kernel
theorem dL_law_889 : decode cL_law 889 = .ok (.goto 498, 3) := by decide +kernel
theorem dL_law_892 : decode cL_law 892 = .ok (.aload_n 1, 1) := by decide +kernel
theorem dL_law_893 : decode cL_law 893 = .ok (.aload_n 0, 1) := by decide +kernel
theorem dL_law_894 : decode cL_law 894 = .ok (.iload 4, 2) := by decide +kernel
theorem dL_law_896 : decode cL_law 896 = .ok (.iconst 1, 1) := by decide +kernel
theorem dL_law_897 : decode cL_law 897 = .ok (.iadd, 1) := by decide +kernel
theorem dL_law_898 : decode cL_law 898 = .ok (.iaload, 1) := by decide +kernel
theorem dL_law_899 : decode cL_law 899 = .ok (.aload_n 0, 1) := by decide +kernel
theorem dL_law_900 : decode cL_law 900 = .ok (.iload 4, 2) := by decide +kernel
theorem dL_law_902 : decode cL_law 902 = .ok (.iconst 2, 1) := by decide +kernel
theorem dL_law_903 : decode cL_law 903 = .ok (.iadd, 1) := by decide +kernel
theorem dL_law_904 : decode cL_law 904 = .ok (.iaload, 1) := by decide +kernel
theorem dL_law_905 : decode cL_law 905 = .ok (.aload_n 3, 1) := by decide +kernel
theorem dL_law_906 : decode cL_law 906 = .ok (.invokestatic 132, 3) := by decide +kernel
theorem dL_law_909 : decode cL_law 909 = .ok (.istore 5, 2) := by decide +kernel
theorem dL_law_911 : decode cL_law 911 = .ok (.aload_n 2, 1) := by decide +kernel
theorem dL_law_912 : decode cL_law 912 = .ok (.aload_n 0, 1) := by decide +kernel
theorem dL_law_913 : decode cL_law 913 = .ok (.iload 4, 2) := by decide +kernel
theorem dL_law_915 : decode cL_law 915 = .ok (.iconst 1, 1) := by decide +kernel
theorem dL_law_916 : decode cL_law 916 = .ok (.iadd, 1) := by decide +kernel
theorem dL_law_917 : decode cL_law 917 = .ok (.iaload, 1) := by decide +kernel
theorem dL_law_918 : decode cL_law 918 = .ok (.aload_n 0, 1) := by decide +kernel
theorem dL_law_919 : decode cL_law 919 = .ok (.iload 4, 2) := by decide +kernel
theorem dL_law_921 : decode cL_law 921 = .ok (.iconst 2, 1) := by decide +kernel
theorem dL_law_922 : decode cL_law 922 = .ok (.iadd, 1) := by decide +kernel
theorem dL_law_923 : decode cL_law 923 = .ok (.iaload, 1) := by decide +kernel
theorem dL_law_924 : decode cL_law 924 = .ok (.invokevirtual 134, 3) := by decide +kernel
theorem dL_law_927 : decode cL_law 927 = .ok (.istore 6, 2) := by decide +kernel
theorem dL_law_929 : decode cL_law 929 = .ok (.aload_n 2, 1) := by decide +kernel
theorem dL_law_930 : decode cL_law 930 = .ok (.invokevirtual 81, 3) := by decide +kernel
theorem dL_law_933 : decode cL_law 933 = .ok (.iload 5, 2) := by decide +kernel
theorem dL_law_935 : decode cL_law 935 = .ok (.if_icmp .eq 5, 3) := by decide +kernel
theorem dL_law_938 : decode cL_law 938 = .ok (.iconst 0, 1) := by decide +kernel
theorem dL_law_939 : decode cL_law 939 = .ok (.ireturn, 1) := by decide +kernel
theorem dL_law_940 : decode cL_law 940 = .ok (.iload 5, 2) := by decide +kernel
theorem dL_law_942 : decode cL_law 942 = .ok (.ifCond .ne 15, 3) := by decide +kernel
theorem dL_law_945 : decode cL_law 945 = .ok (.aload_n 3, 1) := by decide +kernel
theorem dL_law_946 : decode cL_law 946 = .ok (.iconst 0, 1) := by decide +kernel
theorem dL_law_947 : decode cL_law 947 = .ok (.laload, 1) := by decide +kernel
theorem dL_law_948 : decode cL_law 948 = .ok (.iload 6, 2) := by decide +kernel
theorem dL_law_950 : decode cL_law 950 = .ok (.i2l, 1) := by decide +kernel
theorem dL_law_951 : decode cL_law 951 = .ok (.lcmp, 1) := by decide +kernel
theorem dL_law_952 : decode cL_law 952 = .ok (.ifCond .eq 5, 3) := by decide +kernel
theorem dL_law_955 : decode cL_law 955 = .ok (.iconst 0, 1) := by decide +kernel
theorem dL_law_956 : decode cL_law 956 = .ok (.ireturn, 1) := by decide +kernel
theorem dL_law_957 : decode cL_law 957 = .ok (.goto 430, 3) := by decide +kernel
theorem dL_law_960 : decode cL_law 960 = .ok (.aload_n 1, 1) := by decide +kernel
theorem dL_law_961 : decode cL_law 961 = .ok (.aload_n 0, 1) := by decide +kernel
theorem dL_law_962 : decode cL_law 962 = .ok (.iload 4, 2) := by decide +kernel
theorem dL_law_964 : decode cL_law 964 = .ok (.iconst 1, 1) := by decide +kernel
theorem dL_law_965 : decode cL_law 965 = .ok (.iadd, 1) := by decide +kernel
theorem dL_law_966 : decode cL_law 966 = .ok (.iaload, 1) := by decide +kernel
theorem dL_law_967 : decode cL_law 967 = .ok (.aload_n 0, 1) := by decide +kernel
theorem dL_law_968 : decode cL_law 968 = .ok (.iload 4, 2) := by decide +kernel
theorem dL_law_970 : decode cL_law 970 = .ok (.iconst 2, 1) := by decide +kernel
theorem dL_law_971 : decode cL_law 971 = .ok (.iadd, 1) := by decide +kernel
theorem dL_law_972 : decode cL_law 972 = .ok (.iaload, 1) := by decide +kernel
theorem dL_law_973 : decode cL_law 973 = .ok (.aload_n 0, 1) := by decide +kernel
theorem dL_law_974 : decode cL_law 974 = .ok (.iload 4, 2) := by decide +kernel
theorem dL_law_976 : decode cL_law 976 = .ok (.iconst 3, 1) := by decide +kernel
theorem dL_law_977 : decode cL_law 977 = .ok (.iadd, 1) := by decide +kernel
theorem dL_law_978 : decode cL_law 978 = .ok (.iaload, 1) := by decide +kernel
theorem dL_law_979 : decode cL_law 979 = .ok (.aload_n 3, 1) := by decide +kernel
theorem dL_law_980 : decode cL_law 980 = .ok (.invokestatic 135, 3) := by decide +kernel
theorem dL_law_983 : decode cL_law 983 = .ok (.istore 5, 2) := by decide +kernel
theorem dL_law_985 : decode cL_law 985 = .ok (.aload_n 2, 1) := by decide +kernel
theorem dL_law_986 : decode cL_law 986 = .ok (.aload_n 0, 1) := by decide +kernel
theorem dL_law_987 : decode cL_law 987 = .ok (.iload 4, 2) := by decide +kernel
theorem dL_law_989 : decode cL_law 989 = .ok (.iconst 1, 1) := by decide +kernel
theorem dL_law_990 : decode cL_law 990 = .ok (.iadd, 1) := by decide +kernel
theorem dL_law_991 : decode cL_law 991 = .ok (.iaload, 1) := by decide +kernel
theorem dL_law_992 : decode cL_law 992 = .ok (.aload_n 0, 1) := by decide +kernel
theorem dL_law_993 : decode cL_law 993 = .ok (.iload 4, 2) := by decide +kernel
theorem dL_law_995 : decode cL_law 995 = .ok (.iconst 2, 1) := by decide +kernel
theorem dL_law_996 : decode cL_law 996 = .ok (.iadd, 1) := by decide +kernel
theorem dL_law_997 : decode cL_law 997 = .ok (.iaload, 1) := by decide +kernel
theorem dL_law_998 : decode cL_law 998 = .ok (.aload_n 0, 1) := by decide +kernel
theorem dL_law_999 : decode cL_law 999 = .ok (.iload 4, 2) := by decide +kernel
theorem dL_law_1001 : decode cL_law 1001 = .ok (.iconst 3, 1) := by decide +kernel
theorem dL_law_1002 : decode cL_law 1002 = .ok (.iadd, 1) := by decide +kernel
theorem dL_law_1003 : decode cL_law 1003 = .ok (.iaload, 1) := by decide +kernel
theorem dL_law_1004 : decode cL_law 1004 = .ok (.invokevirtual 137, 3) := by decide +kernel
theorem dL_law_1007 : decode cL_law 1007 = .ok (.istore 6, 2) := by decide +kernel
theorem dL_law_1009 : decode cL_law 1009 = .ok (.aload_n 2, 1) := by decide +kernel
theorem dL_law_1010 : decode cL_law 1010 = .ok (.invokevirtual 81, 3) := by decide +kernel
theorem dL_law_1013 : decode cL_law 1013 = .ok (.iload 5, 2) := by decide +kernel
theorem dL_law_1015 : decode cL_law 1015 = .ok (.if_icmp .eq 5, 3) := by decide +kernel
theorem dL_law_1018 : decode cL_law 1018 = .ok (.iconst 0, 1) := by decide +kernel
theorem dL_law_1019 : decode cL_law 1019 = .ok (.ireturn, 1) := by decide +kernel
theorem dL_law_1020 : decode cL_law 1020 = .ok (.iload 5, 2) := by decide +kernel
theorem dL_law_1022 : decode cL_law 1022 = .ok (.ifCond .ne 15, 3) := by decide +kernel
theorem dL_law_1025 : decode cL_law 1025 = .ok (.aload_n 3, 1) := by decide +kernel
theorem dL_law_1026 : decode cL_law 1026 = .ok (.iconst 0, 1) := by decide +kernel
theorem dL_law_1027 : decode cL_law 1027 = .ok (.laload, 1) := by decide +kernel
theorem dL_law_1028 : decode cL_law 1028 = .ok (.iload 6, 2) := by decide +kernel
theorem dL_law_1030 : decode cL_law 1030 = .ok (.i2l, 1) := by decide +kernel
theorem dL_law_1031 : decode cL_law 1031 = .ok (.lcmp, 1) := by decide +kernel
theorem dL_law_1032 : decode cL_law 1032 = .ok (.ifCond .eq 5, 3) := by decide +kernel
theorem dL_law_1035 : decode cL_law 1035 = .ok (.iconst 0, 1) := by decide +kernel
theorem dL_law_1036 : decode cL_law 1036 = .ok (.ireturn, 1) := by decide +kernel
theorem dL_law_1037 : decode cL_law 1037 = .ok (.goto 350, 3) := by decide +kernel
theorem dL_law_1040 : decode cL_law 1040 = .ok (.aload_n 1, 1) := by decide +kernel
theorem dL_law_1041 : decode cL_law 1041 = .ok (.aload_n 0, 1) := by decide +kernel
theorem dL_law_1042 : decode cL_law 1042 = .ok (.iload 4, 2) := by decide +kernel
theorem dL_law_1044 : decode cL_law 1044 = .ok (.iconst 1, 1) := by decide +kernel
theorem dL_law_1045 : decode cL_law 1045 = .ok (.iadd, 1) := by decide +kernel
theorem dL_law_1046 : decode cL_law 1046 = .ok (.iaload, 1) := by decide +kernel
theorem dL_law_1047 : decode cL_law 1047 = .ok (.aload_n 0, 1) := by decide +kernel
theorem dL_law_1048 : decode cL_law 1048 = .ok (.iload 4, 2) := by decide +kernel
theorem dL_law_1050 : decode cL_law 1050 = .ok (.iconst 2, 1) := by decide +kernel
theorem dL_law_1051 : decode cL_law 1051 = .ok (.iadd, 1) := by decide +kernel
theorem dL_law_1052 : decode cL_law 1052 = .ok (.iaload, 1) := by decide +kernel
theorem dL_law_1053 : decode cL_law 1053 = .ok (.aload_n 3, 1) := by decide +kernel
theorem dL_law_1054 : decode cL_law 1054 = .ok (.invokestatic 138, 3) := by decide +kernel
theorem dL_law_1057 : decode cL_law 1057 = .ok (.istore 5, 2) := by decide +kernel
theorem dL_law_1059 : decode cL_law 1059 = .ok (.aload_n 2, 1) := by decide +kernel
theorem dL_law_1060 : decode cL_law 1060 = .ok (.aload_n 0, 1) := by decide +kernel
theorem dL_law_1061 : decode cL_law 1061 = .ok (.iload 4, 2) := by decide +kernel
theorem dL_law_1063 : decode cL_law 1063 = .ok (.iconst 1, 1) := by decide +kernel
theorem dL_law_1064 : decode cL_law 1064 = .ok (.iadd, 1) := by decide +kernel
theorem dL_law_1065 : decode cL_law 1065 = .ok (.iaload, 1) := by decide +kernel
theorem dL_law_1066 : decode cL_law 1066 = .ok (.aload_n 0, 1) := by decide +kernel
theorem dL_law_1067 : decode cL_law 1067 = .ok (.iload 4, 2) := by decide +kernel
theorem dL_law_1069 : decode cL_law 1069 = .ok (.iconst 2, 1) := by decide +kernel
theorem dL_law_1070 : decode cL_law 1070 = .ok (.iadd, 1) := by decide +kernel
theorem dL_law_1071 : decode cL_law 1071 = .ok (.iaload, 1) := by decide +kernel
theorem dL_law_1072 : decode cL_law 1072 = .ok (.invokevirtual 140, 3) := by decide +kernel
theorem dL_law_1075 : decode cL_law 1075 = .ok (.istore 6, 2) := by decide +kernel
theorem dL_law_1077 : decode cL_law 1077 = .ok (.aload_n 2, 1) := by decide +kernel
theorem dL_law_1078 : decode cL_law 1078 = .ok (.invokevirtual 81, 3) := by decide +kernel
theorem dL_law_1081 : decode cL_law 1081 = .ok (.iload 5, 2) := by decide +kernel
theorem dL_law_1083 : decode cL_law 1083 = .ok (.if_icmp .eq 5, 3) := by decide +kernel
theorem dL_law_1086 : decode cL_law 1086 = .ok (.iconst 0, 1) := by decide +kernel
theorem dL_law_1087 : decode cL_law 1087 = .ok (.ireturn, 1) := by decide +kernel
theorem dL_law_1088 : decode cL_law 1088 = .ok (.iload 5, 2) := by decide +kernel
theorem dL_law_1090 : decode cL_law 1090 = .ok (.ifCond .ne 15, 3) := by decide +kernel
theorem dL_law_1093 : decode cL_law 1093 = .ok (.aload_n 3, 1) := by decide +kernel
theorem dL_law_1094 : decode cL_law 1094 = .ok (.iconst 0, 1) := by decide +kernel
theorem dL_law_1095 : decode cL_law 1095 = .ok (.laload, 1) := by decide +kernel
theorem dL_law_1096 : decode cL_law 1096 = .ok (.iload 6, 2) := by decide +kernel
theorem dL_law_1098 : decode cL_law 1098 = .ok (.i2l, 1) := by decide +kernel
theorem dL_law_1099 : decode cL_law 1099 = .ok (.lcmp, 1) := by decide +kernel
theorem dL_law_1100 : decode cL_law 1100 = .ok (.ifCond .eq 5, 3) := by decide +kernel
theorem dL_law_1103 : decode cL_law 1103 = .ok (.iconst 0, 1) := by decide +kernel
theorem dL_law_1104 : decode cL_law 1104 = .ok (.ireturn, 1) := by decide +kernel
theorem dL_law_1105 : decode cL_law 1105 = .ok (.goto 282, 3) := by decide +kernel
theorem dL_law_1108 : decode cL_law 1108 = .ok (.aload_n 1, 1) := by decide +kernel
theorem dL_law_1109 : decode cL_law 1109 = .ok (.aload_n 0, 1) := by decide +kernel
theorem dL_law_1110 : decode cL_law 1110 = .ok (.iload 4, 2) := by decide +kernel
theorem dL_law_1112 : decode cL_law 1112 = .ok (.iconst 1, 1) := by decide +kernel
theorem dL_law_1113 : decode cL_law 1113 = .ok (.iadd, 1) := by decide +kernel
theorem dL_law_1114 : decode cL_law 1114 = .ok (.iaload, 1) := by decide +kernel
theorem dL_law_1115 : decode cL_law 1115 = .ok (.aload_n 3, 1) := by decide +kernel
theorem dL_law_1116 : decode cL_law 1116 = .ok (.invokestatic 141, 3) := by decide +kernel
theorem dL_law_1119 : decode cL_law 1119 = .ok (.istore 5, 2) := by decide +kernel
theorem dL_law_1121 : decode cL_law 1121 = .ok (.aload_n 2, 1) := by decide +kernel
theorem dL_law_1122 : decode cL_law 1122 = .ok (.aload_n 0, 1) := by decide +kernel
theorem dL_law_1123 : decode cL_law 1123 = .ok (.iload 4, 2) := by decide +kernel
theorem dL_law_1125 : decode cL_law 1125 = .ok (.iconst 1, 1) := by decide +kernel
theorem dL_law_1126 : decode cL_law 1126 = .ok (.iadd, 1) := by decide +kernel
theorem dL_law_1127 : decode cL_law 1127 = .ok (.iaload, 1) := by decide +kernel
theorem dL_law_1128 : decode cL_law 1128 = .ok (.invokevirtual 143, 3) := by decide +kernel
theorem dL_law_1131 : decode cL_law 1131 = .ok (.istore 6, 2) := by decide +kernel
theorem dL_law_1133 : decode cL_law 1133 = .ok (.aload_n 2, 1) := by decide +kernel
theorem dL_law_1134 : decode cL_law 1134 = .ok (.invokevirtual 81, 3) := by decide +kernel
theorem dL_law_1137 : decode cL_law 1137 = .ok (.iload 5, 2) := by decide +kernel
theorem dL_law_1139 : decode cL_law 1139 = .ok (.if_icmp .eq 5, 3) := by decide +kernel
theorem dL_law_1142 : decode cL_law 1142 = .ok (.iconst 0, 1) := by decide +kernel
theorem dL_law_1143 : decode cL_law 1143 = .ok (.ireturn, 1) := by decide +kernel
theorem dL_law_1144 : decode cL_law 1144 = .ok (.iload 5, 2) := by decide +kernel
theorem dL_law_1146 : decode cL_law 1146 = .ok (.ifCond .ne 15, 3) := by decide +kernel
theorem dL_law_1149 : decode cL_law 1149 = .ok (.aload_n 3, 1) := by decide +kernel
theorem dL_law_1150 : decode cL_law 1150 = .ok (.iconst 0, 1) := by decide +kernel
theorem dL_law_1151 : decode cL_law 1151 = .ok (.laload, 1) := by decide +kernel
theorem dL_law_1152 : decode cL_law 1152 = .ok (.iload 6, 2) := by decide +kernel
theorem dL_law_1154 : decode cL_law 1154 = .ok (.i2l, 1) := by decide +kernel
theorem dL_law_1155 : decode cL_law 1155 = .ok (.lcmp, 1) := by decide +kernel
theorem dL_law_1156 : decode cL_law 1156 = .ok (.ifCond .eq 5, 3) := by decide +kernel
theorem dL_law_1159 : decode cL_law 1159 = .ok (.iconst 0, 1) := by decide +kernel
theorem dL_law_1160 : decode cL_law 1160 = .ok (.ireturn, 1) := by decide +kernel
theorem dL_law_1161 : decode cL_law 1161 = .ok (.goto 226, 3) := by decide +kernel
theorem dL_law_1164 : decode cL_law 1164 = .ok (.aload_n 1, 1) := by decide +kernel
theorem dL_law_1165 : decode cL_law 1165 = .ok (.aload_n 0, 1) := by decide +kernel
theorem dL_law_1166 : decode cL_law 1166 = .ok (.iload 4, 2) := by decide +kernel
theorem dL_law_1168 : decode cL_law 1168 = .ok (.iconst 1, 1) := by decide +kernel
theorem dL_law_1169 : decode cL_law 1169 = .ok (.iadd, 1) := by decide +kernel
theorem dL_law_1170 : decode cL_law 1170 = .ok (.iaload, 1) := by decide +kernel
theorem dL_law_1171 : decode cL_law 1171 = .ok (.aload_n 3, 1) := by decide +kernel
theorem dL_law_1172 : decode cL_law 1172 = .ok (.invokestatic 144, 3) := by decide +kernel
theorem dL_law_1175 : decode cL_law 1175 = .ok (.istore 5, 2) := by decide +kernel
theorem dL_law_1177 : decode cL_law 1177 = .ok (.aload_n 2, 1) := by decide +kernel
theorem dL_law_1178 : decode cL_law 1178 = .ok (.aload_n 0, 1) := by decide +kernel
theorem dL_law_1179 : decode cL_law 1179 = .ok (.iload 4, 2) := by decide +kernel
theorem dL_law_1181 : decode cL_law 1181 = .ok (.iconst 1, 1) := by decide +kernel
theorem dL_law_1182 : decode cL_law 1182 = .ok (.iadd, 1) := by decide +kernel
theorem dL_law_1183 : decode cL_law 1183 = .ok (.iaload, 1) := by decide +kernel
theorem dL_law_1184 : decode cL_law 1184 = .ok (.invokevirtual 146, 3) := by decide +kernel
theorem dL_law_1187 : decode cL_law 1187 = .ok (.istore 6, 2) := by decide +kernel
theorem dL_law_1189 : decode cL_law 1189 = .ok (.aload_n 2, 1) := by decide +kernel
theorem dL_law_1190 : decode cL_law 1190 = .ok (.invokevirtual 81, 3) := by decide +kernel
theorem dL_law_1193 : decode cL_law 1193 = .ok (.iload 5, 2) := by decide +kernel
theorem dL_law_1195 : decode cL_law 1195 = .ok (.if_icmp .eq 5, 3) := by decide +kernel
theorem dL_law_1198 : decode cL_law 1198 = .ok (.iconst 0, 1) := by decide +kernel
theorem dL_law_1199 : decode cL_law 1199 = .ok (.ireturn, 1) := by decide +kernel
theorem dL_law_1200 : decode cL_law 1200 = .ok (.iload 5, 2) := by decide +kernel
theorem dL_law_1202 : decode cL_law 1202 = .ok (.ifCond .ne 15, 3) := by decide +kernel
theorem dL_law_1205 : decode cL_law 1205 = .ok (.aload_n 3, 1) := by decide +kernel
theorem dL_law_1206 : decode cL_law 1206 = .ok (.iconst 0, 1) := by decide +kernel
theorem dL_law_1207 : decode cL_law 1207 = .ok (.laload, 1) := by decide +kernel
theorem dL_law_1208 : decode cL_law 1208 = .ok (.iload 6, 2) := by decide +kernel
theorem dL_law_1210 : decode cL_law 1210 = .ok (.i2l, 1) := by decide +kernel
theorem dL_law_1211 : decode cL_law 1211 = .ok (.lcmp, 1) := by decide +kernel
theorem dL_law_1212 : decode cL_law 1212 = .ok (.ifCond .eq 5, 3) := by decide +kernel
theorem dL_law_1215 : decode cL_law 1215 = .ok (.iconst 0, 1) := by decide +kernel
theorem dL_law_1216 : decode cL_law 1216 = .ok (.ireturn, 1) := by decide +kernel
theorem dL_law_1217 : decode cL_law 1217 = .ok (.goto 170, 3) := by decide +kernel
theorem dL_law_1220 : decode cL_law 1220 = .ok (.aload_n 1, 1) := by decide +kernel
theorem dL_law_1221 : decode cL_law 1221 = .ok (.aload_n 0, 1) := by decide +kernel
theorem dL_law_1222 : decode cL_law 1222 = .ok (.iload 4, 2) := by decide +kernel
theorem dL_law_1224 : decode cL_law 1224 = .ok (.iconst 1, 1) := by decide +kernel
theorem dL_law_1225 : decode cL_law 1225 = .ok (.iadd, 1) := by decide +kernel
theorem dL_law_1226 : decode cL_law 1226 = .ok (.iaload, 1) := by decide +kernel
theorem dL_law_1227 : decode cL_law 1227 = .ok (.aload_n 3, 1) := by decide +kernel
theorem dL_law_1228 : decode cL_law 1228 = .ok (.invokestatic 147, 3) := by decide +kernel
theorem dL_law_1231 : decode cL_law 1231 = .ok (.istore 5, 2) := by decide +kernel
theorem dL_law_1233 : decode cL_law 1233 = .ok (.aload_n 2, 1) := by decide +kernel
theorem dL_law_1234 : decode cL_law 1234 = .ok (.aload_n 0, 1) := by decide +kernel
theorem dL_law_1235 : decode cL_law 1235 = .ok (.iload 4, 2) := by decide +kernel
theorem dL_law_1237 : decode cL_law 1237 = .ok (.iconst 1, 1) := by decide +kernel
theorem dL_law_1238 : decode cL_law 1238 = .ok (.iadd, 1) := by decide +kernel
theorem dL_law_1239 : decode cL_law 1239 = .ok (.iaload, 1) := by decide +kernel
theorem dL_law_1240 : decode cL_law 1240 = .ok (.invokevirtual 149, 3) := by decide +kernel
theorem dL_law_1243 : decode cL_law 1243 = .ok (.istore 6, 2) := by decide +kernel
theorem dL_law_1245 : decode cL_law 1245 = .ok (.aload_n 2, 1) := by decide +kernel
theorem dL_law_1246 : decode cL_law 1246 = .ok (.invokevirtual 81, 3) := by decide +kernel
theorem dL_law_1249 : decode cL_law 1249 = .ok (.iload 5, 2) := by decide +kernel
theorem dL_law_1251 : decode cL_law 1251 = .ok (.if_icmp .eq 5, 3) := by decide +kernel
theorem dL_law_1254 : decode cL_law 1254 = .ok (.iconst 0, 1) := by decide +kernel
theorem dL_law_1255 : decode cL_law 1255 = .ok (.ireturn, 1) := by decide +kernel
theorem dL_law_1256 : decode cL_law 1256 = .ok (.iload 5, 2) := by decide +kernel
theorem dL_law_1258 : decode cL_law 1258 = .ok (.ifCond .ne 15, 3) := by decide +kernel
theorem dL_law_1261 : decode cL_law 1261 = .ok (.aload_n 3, 1) := by decide +kernel
theorem dL_law_1262 : decode cL_law 1262 = .ok (.iconst 0, 1) := by decide +kernel
theorem dL_law_1263 : decode cL_law 1263 = .ok (.laload, 1) := by decide +kernel
theorem dL_law_1264 : decode cL_law 1264 = .ok (.iload 6, 2) := by decide +kernel
theorem dL_law_1266 : decode cL_law 1266 = .ok (.i2l, 1) := by decide +kernel
theorem dL_law_1267 : decode cL_law 1267 = .ok (.lcmp, 1) := by decide +kernel
theorem dL_law_1268 : decode cL_law 1268 = .ok (.ifCond .eq 5, 3) := by decide +kernel
theorem dL_law_1271 : decode cL_law 1271 = .ok (.iconst 0, 1) := by decide +kernel
theorem dL_law_1272 : decode cL_law 1272 = .ok (.ireturn, 1) := by decide +kernel
theorem dL_law_1273 : decode cL_law 1273 = .ok (.goto 114, 3) := by decide +kernel
theorem dL_law_1276 : decode cL_law 1276 = .ok (.aload_n 1, 1) := by decide +kernel
theorem dL_law_1277 : decode cL_law 1277 = .ok (.aload_n 0, 1) := by decide +kernel
theorem dL_law_1278 : decode cL_law 1278 = .ok (.iload 4, 2) := by decide +kernel
theorem dL_law_1280 : decode cL_law 1280 = .ok (.iconst 1, 1) := by decide +kernel
theorem dL_law_1281 : decode cL_law 1281 = .ok (.iadd, 1) := by decide +kernel
theorem dL_law_1282 : decode cL_law 1282 = .ok (.iaload, 1) := by decide +kernel
theorem dL_law_1283 : decode cL_law 1283 = .ok (.aload_n 3, 1) := by decide +kernel
theorem dL_law_1284 : decode cL_law 1284 = .ok (.invokestatic 150, 3) := by decide +kernel
theorem dL_law_1287 : decode cL_law 1287 = .ok (.istore 5, 2) := by decide +kernel
theorem dL_law_1289 : decode cL_law 1289 = .ok (.aload_n 2, 1) := by decide +kernel
theorem dL_law_1290 : decode cL_law 1290 = .ok (.aload_n 0, 1) := by decide +kernel
theorem dL_law_1291 : decode cL_law 1291 = .ok (.iload 4, 2) := by decide +kernel
theorem dL_law_1293 : decode cL_law 1293 = .ok (.iconst 1, 1) := by decide +kernel
theorem dL_law_1294 : decode cL_law 1294 = .ok (.iadd, 1) := by decide +kernel
theorem dL_law_1295 : decode cL_law 1295 = .ok (.iaload, 1) := by decide +kernel
theorem dL_law_1296 : decode cL_law 1296 = .ok (.invokevirtual 152, 3) := by decide +kernel
theorem dL_law_1299 : decode cL_law 1299 = .ok (.istore 6, 2) := by decide +kernel
theorem dL_law_1301 : decode cL_law 1301 = .ok (.aload_n 2, 1) := by decide +kernel
theorem dL_law_1302 : decode cL_law 1302 = .ok (.invokevirtual 81, 3) := by decide +kernel
theorem dL_law_1305 : decode cL_law 1305 = .ok (.iload 5, 2) := by decide +kernel
theorem dL_law_1307 : decode cL_law 1307 = .ok (.if_icmp .eq 5, 3) := by decide +kernel
theorem dL_law_1310 : decode cL_law 1310 = .ok (.iconst 0, 1) := by decide +kernel
theorem dL_law_1311 : decode cL_law 1311 = .ok (.ireturn, 1) := by decide +kernel
theorem dL_law_1312 : decode cL_law 1312 = .ok (.iload 5, 2) := by decide +kernel
theorem dL_law_1314 : decode cL_law 1314 = .ok (.ifCond .ne 15, 3) := by decide +kernel
theorem dL_law_1317 : decode cL_law 1317 = .ok (.aload_n 3, 1) := by decide +kernel
theorem dL_law_1318 : decode cL_law 1318 = .ok (.iconst 0, 1) := by decide +kernel
theorem dL_law_1319 : decode cL_law 1319 = .ok (.laload, 1) := by decide +kernel
theorem dL_law_1320 : decode cL_law 1320 = .ok (.iload 6, 2) := by decide +kernel
theorem dL_law_1322 : decode cL_law 1322 = .ok (.i2l, 1) := by decide +kernel
theorem dL_law_1323 : decode cL_law 1323 = .ok (.lcmp, 1) := by decide +kernel
theorem dL_law_1324 : decode cL_law 1324 = .ok (.ifCond .eq 5, 3) := by decide +kernel
theorem dL_law_1327 : decode cL_law 1327 = .ok (.iconst 0, 1) := by decide +kernel
theorem dL_law_1328 : decode cL_law 1328 = .ok (.ireturn, 1) := by decide +kernel
theorem dL_law_1329 : decode cL_law 1329 = .ok (.goto 58, 3) := by decide +kernel
theorem dL_law_1332 : decode cL_law 1332 = .ok (.aload_n 1, 1) := by decide +kernel
theorem dL_law_1333 : decode cL_law 1333 = .ok (.invokevirtual 153, 3) := by decide +kernel
theorem dL_law_1336 : decode cL_law 1336 = .ok (.dstore 5, 2) := by decide +kernel
theorem dL_law_1338 : decode cL_law 1338 = .ok (.aload_n 2, 1) := by decide +kernel
theorem dL_law_1339 : decode cL_law 1339 = .ok (.invokevirtual 157, 3) := by decide +kernel
theorem dL_law_1342 : decode cL_law 1342 = .ok (.dstore 7, 2) := by decide +kernel
theorem dL_law_1344 : decode cL_law 1344 = .ok (.dload 5, 2) := by decide +kernel
theorem dL_law_1346 : decode cL_law 1346 = .ok (.dload 7, 2) := by decide +kernel
theorem dL_law_1348 : decode cL_law 1348 = .ok (.dcmp .l, 1) := by decide +kernel
theorem dL_law_1349 : decode cL_law 1349 = .ok (.ifCond .eq 21, 3) := by decide +kernel
theorem dL_law_1352 : decode cL_law 1352 = .ok (.dload 5, 2) := by decide +kernel
theorem dL_law_1354 : decode cL_law 1354 = .ok (.dload 5, 2) := by decide +kernel
theorem dL_law_1356 : decode cL_law 1356 = .ok (.dcmp .l, 1) := by decide +kernel
theorem dL_law_1357 : decode cL_law 1357 = .ok (.ifCond .eq 11, 3) := by decide +kernel
theorem dL_law_1360 : decode cL_law 1360 = .ok (.dload 7, 2) := by decide +kernel
theorem dL_law_1362 : decode cL_law 1362 = .ok (.dload 7, 2) := by decide +kernel
theorem dL_law_1364 : decode cL_law 1364 = .ok (.dcmp .l, 1) := by decide +kernel
theorem dL_law_1365 : decode cL_law 1365 = .ok (.ifCond .ne 5, 3) := by decide +kernel
theorem dL_law_1368 : decode cL_law 1368 = .ok (.iconst 0, 1) := by decide +kernel
theorem dL_law_1369 : decode cL_law 1369 = .ok (.ireturn, 1) := by decide +kernel
theorem dL_law_1370 : decode cL_law 1370 = .ok (.goto 17, 3) := by decide +kernel
theorem dL_law_1373 : decode cL_law 1373 = .ok (.aload_n 1, 1) := by decide +kernel
theorem dL_law_1374 : decode cL_law 1374 = .ok (.invokevirtual 158, 3) := by decide +kernel
theorem dL_law_1377 : decode cL_law 1377 = .ok (.aload_n 2, 1) := by decide +kernel
theorem dL_law_1378 : decode cL_law 1378 = .ok (.invokevirtual 162, 3) := by decide +kernel
theorem dL_law_1381 : decode cL_law 1381 = .ok (.lcmp, 1) := by decide +kernel
theorem dL_law_1382 : decode cL_law 1382 = .ok (.ifCond .eq 5, 3) := by decide +kernel
theorem dL_law_1385 : decode cL_law 1385 = .ok (.iconst 0, 1) := by decide +kernel
theorem dL_law_1386 : decode cL_law 1386 = .ok (.ireturn, 1) := by decide +kernel
theorem dL_law_1387 : decode cL_law 1387 = .ok (.iinc 4 6, 3) := by decide +kernel
theorem dL_law_1390 : decode cL_law 1390 = .ok (.goto (-1367), 3) := by decide +kernel
theorem dL_law_1393 : decode cL_law 1393 = .ok (.iconst 1, 1) := by decide +kernel
theorem dL_law_1394 : decode cL_law 1394 = .ok (.ireturn, 1) := by decide +kernel
end
section
theorem inLr1 : ∀ w ∈ wsL_law0_r1, w ∈ wsL_law := fun w h => List.mem_append_left _ (List.mem_append_left _ (List.mem_append_left _ (List.mem_append_left _ (List.mem_append_left _ (List.mem_append_left _ (List.mem_append_left _ (List.mem_append_left _ (List.mem_append_left _ (List.mem_append_left _ (List.mem_append_left _ (List.mem_append_left _ h)))))))))))
theorem inLr2 : ∀ w ∈ wsL_law0_r2, w ∈ wsL_law := fun w h => List.mem_append_left _ (List.mem_append_left _ (List.mem_append_left _ (List.mem_append_left _ (List.mem_append_left _ (List.mem_append_left _ (List.mem_append_left _ (List.mem_append_left _ (List.mem_append_left _ (List.mem_append_left _ (List.mem_append_left _ (List.mem_append_right _ (List.mem_append_left _ h))))))))))))
theorem inLr3 : ∀ w ∈ wsL_law0_r3, w ∈ wsL_law := fun w h => List.mem_append_left _ (List.mem_append_left _ (List.mem_append_left _ (List.mem_append_left _ (List.mem_append_left _ (List.mem_append_left _ (List.mem_append_left _ (List.mem_append_left _ (List.mem_append_left _ (List.mem_append_left _ (List.mem_append_left _ (List.mem_append_right _ (List.mem_append_right _ (List.mem_append_left _ h)))))))))))))
theorem inLr4 : ∀ w ∈ wsL_law0_r4, w ∈ wsL_law := fun w h => List.mem_append_left _ (List.mem_append_left _ (List.mem_append_left _ (List.mem_append_left _ (List.mem_append_left _ (List.mem_append_left _ (List.mem_append_left _ (List.mem_append_left _ (List.mem_append_left _ (List.mem_append_left _ (List.mem_append_left _ (List.mem_append_right _ (List.mem_append_right _ (List.mem_append_right _ (List.mem_append_left _ h))))))))))))))
theorem inLr5 : ∀ w ∈ wsL_law0_r5, w ∈ wsL_law := fun w h => List.mem_append_left _ (List.mem_append_left _ (List.mem_append_left _ (List.mem_append_left _ (List.mem_append_left _ (List.mem_append_left _ (List.mem_append_left _ (List.mem_append_left _ (List.mem_append_left _ (List.mem_append_left _ (List.mem_append_left _ (List.mem_append_right _ (List.mem_append_right _ (List.mem_append_right _ (List.mem_append_right _ (List.mem_append_left _ h)))))))))))))))
theorem inLr6 : ∀ w ∈ wsL_law0_r6, w ∈ wsL_law := fun w h => List.mem_append_left _ (List.mem_append_left _ (List.mem_append_left _ (List.mem_append_left _ (List.mem_append_left _ (List.mem_append_left _ (List.mem_append_left _ (List.mem_append_left _ (List.mem_append_left _ (List.mem_append_left _ (List.mem_append_left _ (List.mem_append_right _ (List.mem_append_right _ (List.mem_append_right _ (List.mem_append_right _ (List.mem_append_right _ (List.mem_append_left _ h))))))))))))))))
theorem inLr7 : ∀ w ∈ wsL_law0_r7, w ∈ wsL_law := fun w h => List.mem_append_left _ (List.mem_append_left _ (List.mem_append_left _ (List.mem_append_left _ (List.mem_append_left _ (List.mem_append_left _ (List.mem_append_left _ (List.mem_append_left _ (List.mem_append_left _ (List.mem_append_left _ (List.mem_append_left _ (List.mem_append_right _ (List.mem_append_right _ (List.mem_append_right _ (List.mem_append_right _ (List.mem_append_right _ (List.mem_append_right _ (List.mem_append_left _ h)))))))))))))))))
theorem inLr8 : ∀ w ∈ wsL_law0_r8, w ∈ wsL_law := fun w h => List.mem_append_left _ (List.mem_append_left _ (List.mem_append_left _ (List.mem_append_left _ (List.mem_append_left _ (List.mem_append_left _ (List.mem_append_left _ (List.mem_append_left _ (List.mem_append_left _ (List.mem_append_left _ (List.mem_append_left _ (List.mem_append_right _ (List.mem_append_right _ (List.mem_append_right _ (List.mem_append_right _ (List.mem_append_right _ (List.mem_append_right _ (List.mem_append_right _ (List.mem_append_left _ h))))))))))))))))))
theorem inLr9 : ∀ w ∈ wsL_law0_r9, w ∈ wsL_law := fun w h => List.mem_append_left _ (List.mem_append_left _ (List.mem_append_left _ (List.mem_append_left _ (List.mem_append_left _ (List.mem_append_left _ (List.mem_append_left _ (List.mem_append_left _ (List.mem_append_left _ (List.mem_append_left _ (List.mem_append_left _ (List.mem_append_right _ (List.mem_append_right _ (List.mem_append_right _ (List.mem_append_right _ (List.mem_append_right _ (List.mem_append_right _ (List.mem_append_right _ (List.mem_append_right _ (List.mem_append_left _ h)))))))))))))))))))
theorem inLr10 : ∀ w ∈ wsL_law0_r10, w ∈ wsL_law := fun w h => List.mem_append_left _ (List.mem_append_left _ (List.mem_append_left _ (List.mem_append_left _ (List.mem_append_left _ (List.mem_append_left _ (List.mem_append_left _ (List.mem_append_left _ (List.mem_append_left _ (List.mem_append_left _ (List.mem_append_left _ (List.mem_append_right _ (List.mem_append_right _ (List.mem_append_right _ (List.mem_append_right _ (List.mem_append_right _ (List.mem_append_right _ (List.mem_append_right _ (List.mem_append_right _ (List.mem_append_right _ (List.mem_append_left _ h))))))))))))))))))))
theorem inLr11 : ∀ w ∈ wsL_law0_r11, w ∈ wsL_law := fun w h => List.mem_append_left _ (List.mem_append_left _ (List.mem_append_left _ (List.mem_append_left _ (List.mem_append_left _ (List.mem_append_left _ (List.mem_append_left _ (List.mem_append_left _ (List.mem_append_left _ (List.mem_append_left _ (List.mem_append_left _ (List.mem_append_right _ (List.mem_append_right _ (List.mem_append_right _ (List.mem_append_right _ (List.mem_append_right _ (List.mem_append_right _ (List.mem_append_right _ (List.mem_append_right _ (List.mem_append_right _ (List.mem_append_right _ (List.mem_append_left _ h)))))))))))))))))))))
theorem inLr12 : ∀ w ∈ wsL_law0_r12, w ∈ wsL_law := fun w h => List.mem_append_left _ (List.mem_append_left _ (List.mem_append_left _ (List.mem_append_left _ (List.mem_append_left _ (List.mem_append_left _ (List.mem_append_left _ (List.mem_append_left _ (List.mem_append_left _ (List.mem_append_left _ (List.mem_append_left _ (List.mem_append_right _ (List.mem_append_right _ (List.mem_append_right _ (List.mem_append_right _ (List.mem_append_right _ (List.mem_append_right _ (List.mem_append_right _ (List.mem_append_right _ (List.mem_append_right _ (List.mem_append_right _ (List.mem_append_right _ (List.mem_append_left _ h))))))))))))))))))))))
theorem inLr13 : ∀ w ∈ wsL_law0_r13, w ∈ wsL_law := fun w h => List.mem_append_left _ (List.mem_append_left _ (List.mem_append_left _ (List.mem_append_left _ (List.mem_append_left _ (List.mem_append_left _ (List.mem_append_left _ (List.mem_append_left _ (List.mem_append_left _ (List.mem_append_left _ (List.mem_append_left _ (List.mem_append_right _ (List.mem_append_right _ (List.mem_append_right _ (List.mem_append_right _ (List.mem_append_right _ (List.mem_append_right _ (List.mem_append_right _ (List.mem_append_right _ (List.mem_append_right _ (List.mem_append_right _ (List.mem_append_right _ (List.mem_append_right _ (List.mem_append_left _ h)))))))))))))))))))))))
theorem inLr14 : ∀ w ∈ wsL_law0_r14, w ∈ wsL_law := fun w h => List.mem_append_left _ (List.mem_append_left _ (List.mem_append_left _ (List.mem_append_left _ (List.mem_append_left _ (List.mem_append_left _ (List.mem_append_left _ (List.mem_append_left _ (List.mem_append_left _ (List.mem_append_left _ (List.mem_append_left _ (List.mem_append_right _ (List.mem_append_right _ (List.mem_append_right _ (List.mem_append_right _ (List.mem_append_right _ (List.mem_append_right _ (List.mem_append_right _ (List.mem_append_right _ (List.mem_append_right _ (List.mem_append_right _ (List.mem_append_right _ (List.mem_append_right _ (List.mem_append_right _ (List.mem_append_left _ h))))))))))))))))))))))))
theorem inLr15 : ∀ w ∈ wsL_law0_r15, w ∈ wsL_law := fun w h => List.mem_append_left _ (List.mem_append_left _ (List.mem_append_left _ (List.mem_append_left _ (List.mem_append_left _ (List.mem_append_left _ (List.mem_append_left _ (List.mem_append_left _ (List.mem_append_left _ (List.mem_append_left _ (List.mem_append_left _ (List.mem_append_right _ (List.mem_append_right _ (List.mem_append_right _ (List.mem_append_right _ (List.mem_append_right _ (List.mem_append_right _ (List.mem_append_right _ (List.mem_append_right _ (List.mem_append_right _ (List.mem_append_right _ (List.mem_append_right _ (List.mem_append_right _ (List.mem_append_right _ (List.mem_append_right _ (List.mem_append_left _ h)))))))))))))))))))))))))
theorem inLr16 : ∀ w ∈ wsL_law0_r16, w ∈ wsL_law := fun w h => List.mem_append_left _ (List.mem_append_left _ (List.mem_append_left _ (List.mem_append_left _ (List.mem_append_left _ (List.mem_append_left _ (List.mem_append_left _ (List.mem_append_left _ (List.mem_append_left _ (List.mem_append_left _ (List.mem_append_left _ (List.mem_append_right _ (List.mem_append_right _ (List.mem_append_right _ (List.mem_append_right _ (List.mem_append_right _ (List.mem_append_right _ (List.mem_append_right _ (List.mem_append_right _ (List.mem_append_right _ (List.mem_append_right _ (List.mem_append_right _ (List.mem_append_right _ (List.mem_append_right _ (List.mem_append_right _ (List.mem_append_right _ (List.mem_append_left _ h))))))))))))))))))))))))))
theorem inLr17 : ∀ w ∈ wsL_law0_r17, w ∈ wsL_law := fun w h => List.mem_append_left _ (List.mem_append_left _ (List.mem_append_left _ (List.mem_append_left _ (List.mem_append_left _ (List.mem_append_left _ (List.mem_append_left _ (List.mem_append_left _ (List.mem_append_left _ (List.mem_append_left _ (List.mem_append_left _ (List.mem_append_right _ (List.mem_append_right _ (List.mem_append_right _ (List.mem_append_right _ (List.mem_append_right _ (List.mem_append_right _ (List.mem_append_right _ (List.mem_append_right _ (List.mem_append_right _ (List.mem_append_right _ (List.mem_append_right _ (List.mem_append_right _ (List.mem_append_right _ (List.mem_append_right _ (List.mem_append_right _ (List.mem_append_right _ (List.mem_append_left _ h)))))))))))))))))))))))))))
theorem inLr18 : ∀ w ∈ wsL_law0_r18, w ∈ wsL_law := fun w h => List.mem_append_left _ (List.mem_append_left _ (List.mem_append_left _ (List.mem_append_left _ (List.mem_append_left _ (List.mem_append_left _ (List.mem_append_left _ (List.mem_append_left _ (List.mem_append_left _ (List.mem_append_left _ (List.mem_append_left _ (List.mem_append_right _ (List.mem_append_right _ (List.mem_append_right _ (List.mem_append_right _ (List.mem_append_right _ (List.mem_append_right _ (List.mem_append_right _ (List.mem_append_right _ (List.mem_append_right _ (List.mem_append_right _ (List.mem_append_right _ (List.mem_append_right _ (List.mem_append_right _ (List.mem_append_right _ (List.mem_append_right _ (List.mem_append_right _ (List.mem_append_right _ (List.mem_append_left _ h))))))))))))))))))))))))))))
theorem inLr19 : ∀ w ∈ wsL_law0_r19, w ∈ wsL_law := fun w h => List.mem_append_left _ (List.mem_append_left _ (List.mem_append_left _ (List.mem_append_left _ (List.mem_append_left _ (List.mem_append_left _ (List.mem_append_left _ (List.mem_append_left _ (List.mem_append_left _ (List.mem_append_left _ (List.mem_append_left _ (List.mem_append_right _ (List.mem_append_right _ (List.mem_append_right _ (List.mem_append_right _ (List.mem_append_right _ (List.mem_append_right _ (List.mem_append_right _ (List.mem_append_right _ (List.mem_append_right _ (List.mem_append_right _ (List.mem_append_right _ (List.mem_append_right _ (List.mem_append_right _ (List.mem_append_right _ (List.mem_append_right _ (List.mem_append_right _ (List.mem_append_right _ (List.mem_append_right _ (List.mem_append_left _ h)))))))))))))))))))))))))))))
theorem inLr20 : ∀ w ∈ wsL_law0_r20, w ∈ wsL_law := fun w h => List.mem_append_left _ (List.mem_append_left _ (List.mem_append_left _ (List.mem_append_left _ (List.mem_append_left _ (List.mem_append_left _ (List.mem_append_left _ (List.mem_append_left _ (List.mem_append_left _ (List.mem_append_left _ (List.mem_append_left _ (List.mem_append_right _ (List.mem_append_right _ (List.mem_append_right _ (List.mem_append_right _ (List.mem_append_right _ (List.mem_append_right _ (List.mem_append_right _ (List.mem_append_right _ (List.mem_append_right _ (List.mem_append_right _ (List.mem_append_right _ (List.mem_append_right _ (List.mem_append_right _ (List.mem_append_right _ (List.mem_append_right _ (List.mem_append_right _ (List.mem_append_right _ (List.mem_append_right _ (List.mem_append_right _ (List.mem_append_left _ h))))))))))))))))))))))))))))))
theorem inLr21 : ∀ w ∈ wsL_law0_r21, w ∈ wsL_law := fun w h => List.mem_append_left _ (List.mem_append_left _ (List.mem_append_left _ (List.mem_append_left _ (List.mem_append_left _ (List.mem_append_left _ (List.mem_append_left _ (List.mem_append_left _ (List.mem_append_left _ (List.mem_append_left _ (List.mem_append_left _ (List.mem_append_right _ (List.mem_append_right _ (List.mem_append_right _ (List.mem_append_right _ (List.mem_append_right _ (List.mem_append_right _ (List.mem_append_right _ (List.mem_append_right _ (List.mem_append_right _ (List.mem_append_right _ (List.mem_append_right _ (List.mem_append_right _ (List.mem_append_right _ (List.mem_append_right _ (List.mem_append_right _ (List.mem_append_right _ (List.mem_append_right _ (List.mem_append_right _ (List.mem_append_right _ (List.mem_append_right _ (List.mem_append_left _ h)))))))))))))))))))))))))))))))
theorem inLr22 : ∀ w ∈ wsL_law0_r22, w ∈ wsL_law := fun w h => List.mem_append_left _ (List.mem_append_left _ (List.mem_append_left _ (List.mem_append_left _ (List.mem_append_left _ (List.mem_append_left _ (List.mem_append_left _ (List.mem_append_left _ (List.mem_append_left _ (List.mem_append_left _ (List.mem_append_left _ (List.mem_append_right _ (List.mem_append_right _ (List.mem_append_right _ (List.mem_append_right _ (List.mem_append_right _ (List.mem_append_right _ (List.mem_append_right _ (List.mem_append_right _ (List.mem_append_right _ (List.mem_append_right _ (List.mem_append_right _ (List.mem_append_right _ (List.mem_append_right _ (List.mem_append_right _ (List.mem_append_right _ (List.mem_append_right _ (List.mem_append_right _ (List.mem_append_right _ (List.mem_append_right _ (List.mem_append_right _ (List.mem_append_right _ (List.mem_append_left _ h))))))))))))))))))))))))))))))))
theorem inLr23 : ∀ w ∈ wsL_law0_r23, w ∈ wsL_law := fun w h => List.mem_append_left _ (List.mem_append_left _ (List.mem_append_left _ (List.mem_append_left _ (List.mem_append_left _ (List.mem_append_left _ (List.mem_append_left _ (List.mem_append_left _ (List.mem_append_left _ (List.mem_append_left _ (List.mem_append_left _ (List.mem_append_right _ (List.mem_append_right _ (List.mem_append_right _ (List.mem_append_right _ (List.mem_append_right _ (List.mem_append_right _ (List.mem_append_right _ (List.mem_append_right _ (List.mem_append_right _ (List.mem_append_right _ (List.mem_append_right _ (List.mem_append_right _ (List.mem_append_right _ (List.mem_append_right _ (List.mem_append_right _ (List.mem_append_right _ (List.mem_append_right _ (List.mem_append_right _ (List.mem_append_right _ (List.mem_append_right _ (List.mem_append_right _ (List.mem_append_right _ (List.mem_append_left _ h)))))))))))))))))))))))))))))))))
theorem inLr24 : ∀ w ∈ wsL_law0_r24, w ∈ wsL_law := fun w h => List.mem_append_left _ (List.mem_append_left _ (List.mem_append_left _ (List.mem_append_left _ (List.mem_append_left _ (List.mem_append_left _ (List.mem_append_left _ (List.mem_append_left _ (List.mem_append_left _ (List.mem_append_left _ (List.mem_append_left _ (List.mem_append_right _ (List.mem_append_right _ (List.mem_append_right _ (List.mem_append_right _ (List.mem_append_right _ (List.mem_append_right _ (List.mem_append_right _ (List.mem_append_right _ (List.mem_append_right _ (List.mem_append_right _ (List.mem_append_right _ (List.mem_append_right _ (List.mem_append_right _ (List.mem_append_right _ (List.mem_append_right _ (List.mem_append_right _ (List.mem_append_right _ (List.mem_append_right _ (List.mem_append_right _ (List.mem_append_right _ (List.mem_append_right _ (List.mem_append_right _ (List.mem_append_right _ (List.mem_append_left _ h))))))))))))))))))))))))))))))))))
theorem inLr25 : ∀ w ∈ wsL_law0_r25, w ∈ wsL_law := fun w h => List.mem_append_left _ (List.mem_append_left _ (List.mem_append_left _ (List.mem_append_left _ (List.mem_append_left _ (List.mem_append_left _ (List.mem_append_left _ (List.mem_append_left _ (List.mem_append_left _ (List.mem_append_left _ (List.mem_append_left _ (List.mem_append_right _ (List.mem_append_right _ (List.mem_append_right _ (List.mem_append_right _ (List.mem_append_right _ (List.mem_append_right _ (List.mem_append_right _ (List.mem_append_right _ (List.mem_append_right _ (List.mem_append_right _ (List.mem_append_right _ (List.mem_append_right _ (List.mem_append_right _ (List.mem_append_right _ (List.mem_append_right _ (List.mem_append_right _ (List.mem_append_right _ (List.mem_append_right _ (List.mem_append_right _ (List.mem_append_right _ (List.mem_append_right _ (List.mem_append_right _ (List.mem_append_right _ (List.mem_append_right _ (List.mem_append_left _ h)))))))))))))))))))))))))))))))))))
theorem inLr26 : ∀ w ∈ wsL_law0_r26, w ∈ wsL_law := fun w h => List.mem_append_left _ (List.mem_append_left _ (List.mem_append_left _ (List.mem_append_left _ (List.mem_append_left _ (List.mem_append_left _ (List.mem_append_left _ (List.mem_append_left _ (List.mem_append_left _ (List.mem_append_left _ (List.mem_append_left _ (List.mem_append_right _ (List.mem_append_right _ (List.mem_append_right _ (List.mem_append_right _ (List.mem_append_right _ (List.mem_append_right _ (List.mem_append_right _ (List.mem_append_right _ (List.mem_append_right _ (List.mem_append_right _ (List.mem_append_right _ (List.mem_append_right _ (List.mem_append_right _ (List.mem_append_right _ (List.mem_append_right _ (List.mem_append_right _ (List.mem_append_right _ (List.mem_append_right _ (List.mem_append_right _ (List.mem_append_right _ (List.mem_append_right _ (List.mem_append_right _ (List.mem_append_right _ (List.mem_append_right _ (List.mem_append_right _ (List.mem_append_left _ h))))))))))))))))))))))))))))))))))))
theorem inLr27 : ∀ w ∈ wsL_law0_r27, w ∈ wsL_law := fun w h => List.mem_append_left _ (List.mem_append_left _ (List.mem_append_left _ (List.mem_append_left _ (List.mem_append_left _ (List.mem_append_left _ (List.mem_append_left _ (List.mem_append_left _ (List.mem_append_left _ (List.mem_append_left _ (List.mem_append_left _ (List.mem_append_right _ (List.mem_append_right _ (List.mem_append_right _ (List.mem_append_right _ (List.mem_append_right _ (List.mem_append_right _ (List.mem_append_right _ (List.mem_append_right _ (List.mem_append_right _ (List.mem_append_right _ (List.mem_append_right _ (List.mem_append_right _ (List.mem_append_right _ (List.mem_append_right _ (List.mem_append_right _ (List.mem_append_right _ (List.mem_append_right _ (List.mem_append_right _ (List.mem_append_right _ (List.mem_append_right _ (List.mem_append_right _ (List.mem_append_right _ (List.mem_append_right _ (List.mem_append_right _ (List.mem_append_right _ (List.mem_append_right _ (List.mem_append_left _ h)))))))))))))))))))))))))))))))))))))
theorem inLr28 : ∀ w ∈ wsL_law0_r28, w ∈ wsL_law := fun w h => List.mem_append_left _ (List.mem_append_left _ (List.mem_append_left _ (List.mem_append_left _ (List.mem_append_left _ (List.mem_append_left _ (List.mem_append_left _ (List.mem_append_left _ (List.mem_append_left _ (List.mem_append_left _ (List.mem_append_left _ (List.mem_append_right _ (List.mem_append_right _ (List.mem_append_right _ (List.mem_append_right _ (List.mem_append_right _ (List.mem_append_right _ (List.mem_append_right _ (List.mem_append_right _ (List.mem_append_right _ (List.mem_append_right _ (List.mem_append_right _ (List.mem_append_right _ (List.mem_append_right _ (List.mem_append_right _ (List.mem_append_right _ (List.mem_append_right _ (List.mem_append_right _ (List.mem_append_right _ (List.mem_append_right _ (List.mem_append_right _ (List.mem_append_right _ (List.mem_append_right _ (List.mem_append_right _ (List.mem_append_right _ (List.mem_append_right _ (List.mem_append_right _ (List.mem_append_right _ (List.mem_append_left _ h))))))))))))))))))))))))))))))))))))))
theorem inLr29 : ∀ w ∈ wsL_law0_r29, w ∈ wsL_law := fun w h => List.mem_append_left _ (List.mem_append_left _ (List.mem_append_left _ (List.mem_append_left _ (List.mem_append_left _ (List.mem_append_left _ (List.mem_append_left _ (List.mem_append_left _ (List.mem_append_left _ (List.mem_append_left _ (List.mem_append_left _ (List.mem_append_right _ (List.mem_append_right _ (List.mem_append_right _ (List.mem_append_right _ (List.mem_append_right _ (List.mem_append_right _ (List.mem_append_right _ (List.mem_append_right _ (List.mem_append_right _ (List.mem_append_right _ (List.mem_append_right _ (List.mem_append_right _ (List.mem_append_right _ (List.mem_append_right _ (List.mem_append_right _ (List.mem_append_right _ (List.mem_append_right _ (List.mem_append_right _ (List.mem_append_right _ (List.mem_append_right _ (List.mem_append_right _ (List.mem_append_right _ (List.mem_append_right _ (List.mem_append_right _ (List.mem_append_right _ (List.mem_append_right _ (List.mem_append_right _ (List.mem_append_right _ (h)))))))))))))))))))))))))))))))))))))))
/-! the Y layer: one goal G (cells made, slots made, world, pc, locals, operands); every fact that a row needs stands in Cx -/
section YL
theorem all_good : ∀ w ∈ wsL_law, goodWord w = true := by
  have h0 : wsL_law0.all goodWord = true := by decide +kernel
  intro w hw
  unfold wsL_law at hw
  rcases List.mem_append.mp hw with hw | hw
  · rcases List.mem_append.mp hw with hw | hw
    · rcases List.mem_append.mp hw with hw | hw
      · exact List.all_eq_true.mp h0 w hw
      · exact (List.mem_filter.mp hw).2
    · exact (List.mem_filter.mp hw).2
  · exact (List.mem_filter.mp hw).2
theorem all_in {ws : List Cond} (h : ∀ w ∈ ws, w ∈ wsL_law) : GoodIn wsL_law ws := goodIn_sub h (List.all_eq_true.mpr fun w hw => all_good w (h w hw))
def inW (ws : va_W) : Nat → Prop := fun q => ∃ (k : Nat) (e : va_E), ws[k]? = some (q, e)
def nestL : List (String × Nat × MethodName) := [(RX0, 30, yX5_isNoKind), (RX5, 9, yX0_init), (RX5, 18, yX3_init), (RX5, 45, yX1_init)]
def gN (U : State) : Prop := ∀ q ∈ nestL, va_Nw (.methodLinkNest q.1 q.2.1 q.2.2 "KnotLetters") U
def strL : List (String × Nat × String) := [(RX5, 220, "what is 0 to 6"), (RX5, 79, "letter is 0 to 11, what is 0 to 2"), (RX5, 167, "there is no such cord, or what is not 0 to 6"), (RX5, 59, "letter is 0 to 11"), (RX5, 69, "row is 0 or has 1 to 4 digits from 1 to 4"), (RX5, 95, "a and b are 0 to 11"), (RX5, 105, "slip and skip are 0 to 99"), (RX5, 117, "a and b are two kinds, cost is 0 to 9"), (RX5, 126, "missed and ghost are 1 to 9"), (RX5, 139, "the tape has at most 80 bytes"), (RX5, 146, "n is 0 to the number of bytes of the tape"), (RX5, 155, "there are at most 10 cords of 40 knots and gaps"), (RX5, 197, "there is no such cord or place"), (RX5, 202, "kind is 1 to 4"), (RX5, 204, "a gap is there"), (RX5, 206, "there is no such cord"), (RX5, 218, "there is no such place on the paper")]
def gStr (U : State) : Prop := ∀ q ∈ strL, ∃ sa : Nat, vk_R q.1 q.2.1 q.2.2 sa U
def gT (A : Nat → Prop) (U : State) (H : Heap) : Prop := vx_Zq Bundle.tN "UNASSIGNED_STACK" Bundle.steD A U H ∧ vx_Zq Bundle.tN "SUPPRESSED_SENTINEL" Bundle.listD A U H
def ncL : List (String × String) := [("java/lang/IllegalArgumentException", "java/lang/IllegalStateException"), ("java/lang/IllegalArgumentException", "java/lang/IndexOutOfBoundsException"), ("java/lang/IllegalStateException", "java/lang/IllegalArgumentException"), ("java/lang/IllegalStateException", "java/lang/IndexOutOfBoundsException"), ("java/lang/IndexOutOfBoundsException", "java/lang/IllegalArgumentException"), ("java/lang/IndexOutOfBoundsException", "java/lang/IllegalStateException")]
def gNc (U : State) : Prop := ∀ q ∈ ncL, va_Nc q.1 q.2 U
def exL : List String := ["java/lang/IndexOutOfBoundsException", "java/lang/IllegalArgumentException", "java/lang/IllegalStateException"]
def exW : List Cond := [.castable "java/lang/IndexOutOfBoundsException" "java/lang/IndexOutOfBoundsException", .castable "java/lang/IllegalArgumentException" "java/lang/IllegalArgumentException", .castable "java/lang/IllegalStateException" "java/lang/IllegalStateException", .declares (Bundle.initS "java/lang/RuntimeException"), .declares (Bundle.initS "java/lang/Exception"), .declares (Bundle.initS "java/lang/Throwable")]
def gCa (U : State) : Prop := ∀ w ∈ exW, va_Nw w U
theorem gCa.warm {s U : State} (hW : s.WarmedH U.vm) (h : gCa s) : gCa U := by
  intro w hw
  have h1 := h w hw
  simp only [exW, List.mem_cons, List.not_mem_nil, or_false] at hw
  rcases hw with rfl | rfl | rfl | rfl | rfl | rfl
  · exact va_Nw.warmC hW h1
  · exact va_Nw.warmC hW h1
  · exact va_Nw.warmC hW h1
  · exact va_Nw.warmD hW h1
  · exact va_Nw.warmD hW h1
  · exact va_Nw.warmD hW h1
theorem exW_tab : ∀ w ∈ exW, w.onTables = true := by
  intro w hw
  simp only [exW, List.mem_cons, List.not_mem_nil, or_false] at hw
  rcases hw with rfl | rfl | rfl | rfl | rfl | rfl <;> rfl
theorem exL_cast {X : String} (h : X ∈ exL) : Cond.castable X X ∈ exW := by
  simp only [exL, List.mem_cons, List.not_mem_nil, or_false] at h
  rcases h with rfl | rfl | rfl <;> simp [exW]
def gK (D : va_G) (tys : List (ClassId × FieldType)) (U : State) : Prop := va_K D vwCl tys U ∧ gN U ∧ gStr U ∧ gNc U ∧ gCa U
theorem gK.warm {D : va_G} {tys : List (ClassId × FieldType)} {s U : State} (hW : s.WarmedH U.vm) (h : gK D tys s) : gK D tys U :=
  ⟨va_K.moved hW.alike h.1, fun q hq => va_Nw.warmM hW (h.2.1 q hq), fun q hq => by obtain ⟨sa, h9⟩ := h.2.2.1 q hq; exact ⟨sa, vk_R.warm hW h9⟩, fun q hq => va_Nc.moved hW.alike (h.2.2.2.1 q hq), h.2.2.2.2.warm hW⟩
theorem gK.same {D : va_G} {tys : List (ClassId × FieldType)} {s U : State} (hv : U.vm = s.vm) (h : gK D tys s) : gK D tys U :=
  ⟨va_K.moved (by rw [hv]; exact Vm.Alike.refl s.vm) h.1, fun q hq => va_Nw.same rfl hv.symm (h.2.1 q hq), fun q hq => by obtain ⟨sa, h9⟩ := h.2.2.1 q hq; exact ⟨sa, vk_R.same hv h9⟩, fun q hq => va_Nc.moved (by rw [hv]; exact Vm.Alike.refl s.vm) (h.2.2.2.1 q hq), fun w hw => va_Nw.same (exW_tab w hw) hv.symm (h.2.2.2.2 w hw)⟩
theorem zq_re {C n d : String} {A B : Nat → Prop} {U : State} {H : Heap} (hAB : ∀ q, q < H.size → B q → A q) (h : vx_Zq C n d A U H) : vx_Zq C n d B U H := by
  refine ⟨?_, ?_⟩
  · rcases h.1 with h | ⟨t, h⟩
    · obtain ⟨cf, kf, fi, f, a, cell, h1, h2, h3, h4, h5, h6, h7, h8⟩ := h
      exact Or.inl ⟨cf, kf, fi, f, a, cell, h1, h2, h3, h4, h5, h6, h7, fun z => h8 (hAB a (Array.getElem?_eq_some_iff.mp h5).1 z)⟩
    · obtain ⟨cf, kf, fi, f, a, cell, h1, h2, h3, h4, h5, h6, h7, h8⟩ := h
      exact Or.inr ⟨t, cf, kf, fi, f, a, cell, h1, h2, h3, h4, h5, h6, h7, fun z => h8 (hAB a (Array.getElem?_eq_some_iff.mp h5).1 z)⟩
  · obtain ⟨c, k, i, f, a, cell, h1, h2, h3, h4, h5, h6, h7, h8, h9, h10⟩ := h.2
    exact ⟨c, k, i, f, a, cell, h1, h2, h3, h4, h5, h6, h7, h8, h9, fun z => h10 (hAB a (Array.getElem?_eq_some_iff.mp h5).1 z)⟩
theorem gT.re {A B : Nat → Prop} {U : State} {H : Heap} (hAB : ∀ q, q < H.size → B q → A q) (h : gT A U H) : gT B U H := ⟨zq_re hAB h.1, zq_re hAB h.2⟩
theorem gT.moved {A : Nat → Prop} {u U : State} {H : Heap} (hvm : u.vm.Alike U.vm) (h : gT A u H) : gT A U H := ⟨vx_Zq.moved hvm h.1, vx_Zq.moved hvm h.2⟩
theorem gT.kept {A : Nat → Prop} {U : State} {H H1 : Heap} (h : gT A U H) (hq : ∀ a : Nat, a < H.size → ¬ A a → H1[a]? = H[a]?) : gT A U H1 := ⟨vx_Zq.kept h.1 hq, vx_Zq.kept h.2 hq⟩
def gP (D : va_G) (tys : List (ClassId × FieldType)) (ws : va_W) (U : State) : Prop := va_P D vwCl ws U.heap ∧ va_D (fun _ => True) ws ∧ gK D tys U ∧ gT (inW ws) U U.heap
def gPc (av : List Value) (sz : Nat) (D : va_G) (tys : List (ClassId × FieldType)) (ws : va_W) : Array Value → State → Prop := va_Pc av (fun U => U.heap.size = sz ∧ gP D tys ws U)
def gB {S : Type} (D : va_G) (A : Nat → Prop) (wf : S → va_W) : S → State → Prop := fun u t => va_P D vwCl (wf u) t.heap ∧ va_D A (wf u)
theorem gPc_blind {av : List Value} {sz : Nat} {D : va_G} {tys : List (ClassId × FieldType)} {ws : va_W} : FrameBlind (gPc av sz D tys ws) := by
  intro a U g mk q
  obtain ⟨q0, q1, q2, q3, q4, q5⟩ := q
  exact ⟨q0, q1, q2, q3, gK.same (s := U) (U := U.calling g mk a) rfl q4, gT.moved (u := U) (U := U.calling g mk a) (Vm.Alike.refl U.vm) q5⟩
/-- contracts: an int or boolean answer, none, a long, a double -/
def MI (l : Launch) (D : va_G) (tys : List (ClassId × FieldType)) (y : MethodName) (cc : ByteArray) (maxL : Nat) (ty : FieldType) (rm : Room) (av : List Value) (ws : va_W) {S : Type} (post : Int32 → S → Prop) (wf : S → va_W) : Prop :=
  ∀ sz : Nat, Met l y (Cond.code y cc maxL (some ty) :: wsL_law) rm (gPc av sz D tys ws) (va_Qi post (gB D (va_A ws sz) wf) (va_A ws sz)) rm.cells rm.slots (va_A ws sz)
def MV (l : Launch) (D : va_G) (tys : List (ClassId × FieldType)) (y : MethodName) (cc : ByteArray) (maxL : Nat) (rm : Room) (av : List Value) (ws : va_W) {S : Type} (post : S → Prop) (wf : S → va_W) : Prop :=
  ∀ sz : Nat, Met l y (Cond.code y cc maxL none :: wsL_law) rm (gPc av sz D tys ws) (va_Qv post (gB D (va_A ws sz) wf) (va_A ws sz)) rm.cells rm.slots (va_A ws sz)
def ML (l : Launch) (D : va_G) (tys : List (ClassId × FieldType)) (y : MethodName) (cc : ByteArray) (maxL : Nat) (rm : Room) (av : List Value) (ws : va_W) {S : Type} (post : Int64 → S → Prop) (wf : S → va_W) : Prop :=
  ∀ sz : Nat, Met l y (Cond.code y cc maxL (some .long) :: wsL_law) rm (gPc av sz D tys ws) (va_Ql post (gB D (va_A ws sz) wf) (va_A ws sz)) rm.cells rm.slots (va_A ws sz)
def MF (l : Launch) (D : va_G) (tys : List (ClassId × FieldType)) (y : MethodName) (cc : ByteArray) (maxL : Nat) (rm : Room) (av : List Value) (ws : va_W) {S : Type} (post : UInt64 → S → Prop) (wf : S → va_W) : Prop :=
  ∀ sz : Nat, Met l y (Cond.code y cc maxL (some .double) :: wsL_law) rm (gPc av sz D tys ws) (va_Qd post (gB D (va_A ws sz) wf) (va_A ws sz)) rm.cells rm.slots (va_A ws sz)
/-- the same, or it throws the exception named E, where px E holds, the world as it was -/
def gX (D : va_G) (ws : va_W) (sz : Nat) (px : String → Prop) : String → State → State → Prop := vx_X (fun _ : Unit => True) (fun E _ t => px E ∧ va_P D vwCl ws t.heap ∧ va_D (va_A ws sz) ws) (va_A ws sz)
def XI (l : Launch) (D : va_G) (tys : List (ClassId × FieldType)) (y : MethodName) (cc : ByteArray) (maxL : Nat) (ty : FieldType) (rm : Room) (av : List Value) (ws : va_W) {S : Type} (post : Int32 → S → Prop) (wf : S → va_W) (px : String → Prop) : Prop :=
  ∀ sz : Nat, vx_Met l y (Cond.code y cc maxL (some ty) :: wsL_law) rm (gPc av sz D tys ws) (va_Qi post (gB D (va_A ws sz) wf) (va_A ws sz)) (gX D ws sz px) rm.cells rm.slots (va_A ws sz)
def Y (p : Program) (l : Launch) (e : Env) (R : Room) (s : State) (m : MethodId) (args : Array Value) (below : List Frame) (meth : Method) (c : Code) (A : Nat → Prop) (D : va_G) (nL : Nat) (Q : State → Prop) (ce sl : Nat) (ws : va_W) (pc : Nat) (lv : List (Nat × Value)) (st : List Value) : Prop :=
  ∀ (H : Heap) (locs : List Loc) (ls : Array Slot), va_P D vwCl ws H → va_D A ws → va_S A s.heap H locs → lv_has ls nL lv → W p l e R s m args below meth c H locs ce sl Q (F0 m pc ls st)
abbrev GT : Type := Nat → Nat → va_W → Nat → List (Nat × Value) → List Value → Prop
def Cx (l : Launch) (G : GT) (cc : ByteArray) (own : String) (nL : Nat) (R : Room) (D : va_G) (tys : List (ClassId × FieldType)) (nm : String) : Prop :=
  ∃ (p : Program) (e : Env) (s : State) (m : MethodId) (args : Array Value) (below : List Frame) (meth : Method) (c : Code) (A : Nat → Prop) (Q : State → Prop),
    CallFix p m c cc nL s args wsL_law own ∧ gK D tys s ∧ gT A s s.heap ∧ (∀ q, s.heap.size ≤ q → A q) ∧ meth.name = nm ∧ meth.locks = false ∧ G = Y p l e R s m args below meth c A D nL Q
variable {l : Launch} {G : GT} {cc : ByteArray} {own : String} {nL : Nat} {R : Room} {D : va_G} {tys : List (ClassId × FieldType)} {nm : String}
variable {ce sl : Nat} {ws : va_W} {pc : Nat} {lv : List (Nat × Value)} {st : List Value}

theorem y_sub (hC : Cx l G cc own nL R D tys nm) (ks : List Nat) {lv' : List (Nat × Value)} (hl9 : lv_pick lv ks = lv') (kk : G ce sl ws pc lv' st) : G ce sl ws pc lv st := by
  obtain ⟨p, e, s, m, args, below, meth, c, A, Q, ⟨hx, hb, hml, hown, hts⟩, hK, hT, hA, hnm, hlk, rfl⟩ := hC
  intro H locs ls hP hD hS hl
  exact kk H locs ls hP hD hS (lv_sub hl ks hl9)
theorem y_wide (hC : Cx l G cc own nL R D tys nm) {k n : Nat} (h1 : ce ≤ k) (h2 : sl ≤ n) (kk : G k n ws pc lv st) : G ce sl ws pc lv st := by
  obtain ⟨p, e, s, m, args, below, meth, c, A, Q, ⟨hx, hb, hml, hown, hts⟩, hK, hT, hA, hnm, hlk, rfl⟩ := hC
  intro H locs ls hP hD hS hl
  exact W.widen h1 h2 (kk H locs ls hP hD hS hl)
theorem y_world (hC : Cx l G cc own nL R D tys nm) (ks : List Nat) {ws' : va_W} (hn : va_nd ks = true) (hw : ks.map (fun i => ws[i]?) = ws'.map some) (kk : G ce sl ws' pc lv st) : G ce sl ws pc lv st := by
  obtain ⟨p, e, s, m, args, below, meth, c, A, Q, ⟨hx, hb, hml, hown, hts⟩, hK, hT, hA, hnm, hlk, rfl⟩ := hC
  intro H locs ls hP hD hS hl
  refine kk H locs ls (hP.sub ks ?_) (hD.sub ks hn hw) hS hl
  have h9 := congrArg (fun z : List (Option (Nat × va_E)) => z.filterMap id) hw
  simpa [List.filterMap_map, Function.comp_def] using h9
theorem y_iconst (hC : Cx l G cc own nL R D tys nm) {n : Int} {v : Int32} (hdg : decode cc pc = .ok (.iconst n, 1)) (hv : Int32.ofInt n = v) (kk : G ce sl ws (pc + 1) lv (.int v :: st)) : G ce sl ws (pc) lv (st) := by
  obtain ⟨p, e, s, m, args, below, meth, c, A, Q, ⟨hx, hb, hml, hown, hts⟩, hK, hT, hA, hnm, hlk, rfl⟩ := hC
  intro H locs ls hP hD hS hl
  exact lv_iconst hx hb hdg hv (kk H locs ls hP hD hS hl)
theorem y_bipush (hC : Cx l G cc own nL R D tys nm) {n : Int} {v : Int32} (hdg : decode cc pc = .ok (.bipush n, 2)) (hv : (Int8.ofInt n).toInt32 = v) (kk : G ce sl ws (pc + 2) lv (.int v :: st)) : G ce sl ws (pc) lv (st) := by
  obtain ⟨p, e, s, m, args, below, meth, c, A, Q, ⟨hx, hb, hml, hown, hts⟩, hK, hT, hA, hnm, hlk, rfl⟩ := hC
  intro H locs ls hP hD hS hl
  exact lv_bipush hx hb hdg hv (kk H locs ls hP hD hS hl)
theorem y_sipush (hC : Cx l G cc own nL R D tys nm) {n : Int} {v : Int32} (hdg : decode cc pc = .ok (.sipush n, 3)) (hv : (Int16.ofInt n).toInt32 = v) (kk : G ce sl ws (pc + 3) lv (.int v :: st)) : G ce sl ws (pc) lv (st) := by
  obtain ⟨p, e, s, m, args, below, meth, c, A, Q, ⟨hx, hb, hml, hown, hts⟩, hK, hT, hA, hnm, hlk, rfl⟩ := hC
  intro H locs ls hP hD hS hl
  exact lv_sipush hx hb hdg hv (kk H locs ls hP hD hS hl)
theorem y_lconst (hC : Cx l G cc own nL R D tys nm) {n : Fin 2} {v : Int64} (hdg : decode cc pc = .ok (.lconst n, 1)) (hv : Int64.ofNat (n : Nat) = v) (kk : G ce sl ws (pc + 1) lv (.long v :: st)) : G ce sl ws (pc) lv (st) := by
  obtain ⟨p, e, s, m, args, below, meth, c, A, Q, ⟨hx, hb, hml, hown, hts⟩, hK, hT, hA, hnm, hlk, rfl⟩ := hC
  intro H locs ls hP hD hS hl
  exact lv_lconst hx hb hdg hv (kk H locs ls hP hD hS hl)
theorem y_ldc (hC : Cx l G cc own nL R D tys nm) {index : Nat} {v : Int32} (hdg : decode cc pc = .ok (.ldc index, 2)) (hw : Cond.constant own index v ∈ wsL_law) (kk : G ce sl ws (pc + 2) lv (.int v :: st)) : G ce sl ws (pc) lv (st) := by
  obtain ⟨p, e, s, m, args, below, meth, c, A, Q, ⟨hx, hb, hml, hown, hts⟩, hK, hT, hA, hnm, hlk, rfl⟩ := hC
  intro H locs ls hP hD hS hl
  exact lv_ldc hx hb hown (hts _ hw) hdg (kk H locs ls hP hD hS hl)
theorem y_ldc2 (hC : Cx l G cc own nL R D tys nm) {index : Nat} {v : Int64} (hdg : decode cc pc = .ok (.ldc2_w index, 3)) (hw : Cond.constantLong own index v ∈ wsL_law) (kk : G ce sl ws (pc + 3) lv (.long v :: st)) : G ce sl ws (pc) lv (st) := by
  obtain ⟨p, e, s, m, args, below, meth, c, A, Q, ⟨hx, hb, hml, hown, hts⟩, hK, hT, hA, hnm, hlk, rfl⟩ := hC
  intro H locs ls hP hD hS hl
  exact lv_ldc2 hx hb hown (hts _ hw) hdg (kk H locs ls hP hD hS hl)
theorem y_dconst0 (hC : Cx l G cc own nL R D tys nm)  (hdg : decode cc pc = .ok (.dconst 0, 1)) (kk : G ce sl ws (pc + 1) lv (.double 0 :: st)) : G ce sl ws (pc) lv (st) := by
  obtain ⟨p, e, s, m, args, below, meth, c, A, Q, ⟨hx, hb, hml, hown, hts⟩, hK, hT, hA, hnm, hlk, rfl⟩ := hC
  intro H locs ls hP hD hS hl
  exact lv_dconst0 hx hb hdg (kk H locs ls hP hD hS hl)
theorem y_iload_n (hC : Cx l G cc own nL R D tys nm) {k : Fin 4} {i : Nat} {x : Int32} (hdg : decode cc pc = .ok (.iload_n k, 1)) (j : Nat) (hi : (k : Nat) = i) (hj : lv[j]? = some (i, .int x)) (kk : G ce sl ws (pc + 1) lv (.int x :: st)) : G ce sl ws (pc) lv (st) := by
  obtain ⟨p, e, s, m, args, below, meth, c, A, Q, ⟨hx, hb, hml, hown, hts⟩, hK, hT, hA, hnm, hlk, rfl⟩ := hC
  intro H locs ls hP hD hS hl
  exact lv_iload_n hx hb hdg hi (lv_at hl j hj) (kk H locs ls hP hD hS hl)
theorem y_iload (hC : Cx l G cc own nL R D tys nm) {i : Nat} {x : Int32} (hdg : decode cc pc = .ok (.iload i, 2)) (j : Nat) (hj : lv[j]? = some (i, .int x)) (kk : G ce sl ws (pc + 2) lv (.int x :: st)) : G ce sl ws (pc) lv (st) := by
  obtain ⟨p, e, s, m, args, below, meth, c, A, Q, ⟨hx, hb, hml, hown, hts⟩, hK, hT, hA, hnm, hlk, rfl⟩ := hC
  intro H locs ls hP hD hS hl
  exact lv_iload hx hb hdg (lv_at hl j hj) (kk H locs ls hP hD hS hl)
theorem y_lload_n (hC : Cx l G cc own nL R D tys nm) {k : Fin 4} {i : Nat} {x : Int64} (hdg : decode cc pc = .ok (.lload_n k, 1)) (j : Nat) (hi : (k : Nat) = i) (hj : lv[j]? = some (i, .long x)) (kk : G ce sl ws (pc + 1) lv (.long x :: st)) : G ce sl ws (pc) lv (st) := by
  obtain ⟨p, e, s, m, args, below, meth, c, A, Q, ⟨hx, hb, hml, hown, hts⟩, hK, hT, hA, hnm, hlk, rfl⟩ := hC
  intro H locs ls hP hD hS hl
  exact lv_lload_n hx hb hdg hi (lv_at hl j hj) (kk H locs ls hP hD hS hl)
theorem y_lload (hC : Cx l G cc own nL R D tys nm) {i : Nat} {x : Int64} (hdg : decode cc pc = .ok (.lload i, 2)) (j : Nat) (hj : lv[j]? = some (i, .long x)) (kk : G ce sl ws (pc + 2) lv (.long x :: st)) : G ce sl ws (pc) lv (st) := by
  obtain ⟨p, e, s, m, args, below, meth, c, A, Q, ⟨hx, hb, hml, hown, hts⟩, hK, hT, hA, hnm, hlk, rfl⟩ := hC
  intro H locs ls hP hD hS hl
  exact lv_lload hx hb hdg (lv_at hl j hj) (kk H locs ls hP hD hS hl)
theorem y_aload_n (hC : Cx l G cc own nL R D tys nm) {k : Fin 4} {i : Nat} {x : Nat} (hdg : decode cc pc = .ok (.aload_n k, 1)) (j : Nat) (hi : (k : Nat) = i) (hj : lv[j]? = some (i, .ref x)) (kk : G ce sl ws (pc + 1) lv (.ref x :: st)) : G ce sl ws (pc) lv (st) := by
  obtain ⟨p, e, s, m, args, below, meth, c, A, Q, ⟨hx, hb, hml, hown, hts⟩, hK, hT, hA, hnm, hlk, rfl⟩ := hC
  intro H locs ls hP hD hS hl
  exact lv_aload_n hx hb hdg hi (lv_at hl j hj) (kk H locs ls hP hD hS hl)
theorem y_aload (hC : Cx l G cc own nL R D tys nm) {i : Nat} {x : Nat} (hdg : decode cc pc = .ok (.aload i, 2)) (j : Nat) (hj : lv[j]? = some (i, .ref x)) (kk : G ce sl ws (pc + 2) lv (.ref x :: st)) : G ce sl ws (pc) lv (st) := by
  obtain ⟨p, e, s, m, args, below, meth, c, A, Q, ⟨hx, hb, hml, hown, hts⟩, hK, hT, hA, hnm, hlk, rfl⟩ := hC
  intro H locs ls hP hD hS hl
  exact lv_aload hx hb hdg (lv_at hl j hj) (kk H locs ls hP hD hS hl)
theorem y_dload_n (hC : Cx l G cc own nL R D tys nm) {k : Fin 4} {i : Nat} {x : UInt64} (hdg : decode cc pc = .ok (.dload_n k, 1)) (j : Nat) (hi : (k : Nat) = i) (hj : lv[j]? = some (i, .double x)) (kk : G ce sl ws (pc + 1) lv (.double x :: st)) : G ce sl ws (pc) lv (st) := by
  obtain ⟨p, e, s, m, args, below, meth, c, A, Q, ⟨hx, hb, hml, hown, hts⟩, hK, hT, hA, hnm, hlk, rfl⟩ := hC
  intro H locs ls hP hD hS hl
  exact lv_dload_n hx hb hdg hi (lv_at hl j hj) (kk H locs ls hP hD hS hl)
theorem y_dload (hC : Cx l G cc own nL R D tys nm) {i : Nat} {x : UInt64} (hdg : decode cc pc = .ok (.dload i, 2)) (j : Nat) (hj : lv[j]? = some (i, .double x)) (kk : G ce sl ws (pc + 2) lv (.double x :: st)) : G ce sl ws (pc) lv (st) := by
  obtain ⟨p, e, s, m, args, below, meth, c, A, Q, ⟨hx, hb, hml, hown, hts⟩, hK, hT, hA, hnm, hlk, rfl⟩ := hC
  intro H locs ls hP hD hS hl
  exact lv_dload hx hb hdg (lv_at hl j hj) (kk H locs ls hP hD hS hl)
theorem y_istore_n (hC : Cx l G cc own nL R D tys nm) {k : Fin 4} {i : Nat} {x : Int32} (lv' : List (Nat × Value)) (hdg : decode cc pc = .ok (.istore_n k, 1)) (hi : (k : Nat) = i) (hn : i < nL) (hl9 : (i, Value.int x) :: lv.filter (fun q => !(q.1 == i) && !(q.1 + 1 == i && q.2.category == 2)) = lv') (kk : G ce sl ws (pc + 1) lv' (st)) : G ce sl ws (pc) lv (.int x :: st) := by
  obtain ⟨p, e, s, m, args, below, meth, c, A, Q, ⟨hx, hb, hml, hown, hts⟩, hK, hT, hA, hnm, hlk, rfl⟩ := hC
  intro H locs ls hP hD hS hl
  exact lv_istore_n hx hb hdg hi hl hn hl9 (fun ls hl => kk H locs ls hP hD hS hl)
theorem y_istore (hC : Cx l G cc own nL R D tys nm) {i : Nat} {x : Int32} (lv' : List (Nat × Value)) (hdg : decode cc pc = .ok (.istore i, 2)) (hn : i < nL) (hl9 : (i, Value.int x) :: lv.filter (fun q => !(q.1 == i) && !(q.1 + 1 == i && q.2.category == 2)) = lv') (kk : G ce sl ws (pc + 2) lv' (st)) : G ce sl ws (pc) lv (.int x :: st) := by
  obtain ⟨p, e, s, m, args, below, meth, c, A, Q, ⟨hx, hb, hml, hown, hts⟩, hK, hT, hA, hnm, hlk, rfl⟩ := hC
  intro H locs ls hP hD hS hl
  exact lv_istore hx hb hdg hl hn hl9 (fun ls hl => kk H locs ls hP hD hS hl)
theorem y_astore_n (hC : Cx l G cc own nL R D tys nm) {k : Fin 4} {i : Nat} {x : Nat} (lv' : List (Nat × Value)) (hdg : decode cc pc = .ok (.astore_n k, 1)) (hi : (k : Nat) = i) (hn : i < nL) (hl9 : (i, Value.ref x) :: lv.filter (fun q => !(q.1 == i) && !(q.1 + 1 == i && q.2.category == 2)) = lv') (kk : G ce sl ws (pc + 1) lv' (st)) : G ce sl ws (pc) lv (.ref x :: st) := by
  obtain ⟨p, e, s, m, args, below, meth, c, A, Q, ⟨hx, hb, hml, hown, hts⟩, hK, hT, hA, hnm, hlk, rfl⟩ := hC
  intro H locs ls hP hD hS hl
  exact lv_astore_n hx hb hdg hi hl hn hl9 (fun ls hl => kk H locs ls hP hD hS hl)
theorem y_astore (hC : Cx l G cc own nL R D tys nm) {i : Nat} {x : Nat} (lv' : List (Nat × Value)) (hdg : decode cc pc = .ok (.astore i, 2)) (hn : i < nL) (hl9 : (i, Value.ref x) :: lv.filter (fun q => !(q.1 == i) && !(q.1 + 1 == i && q.2.category == 2)) = lv') (kk : G ce sl ws (pc + 2) lv' (st)) : G ce sl ws (pc) lv (.ref x :: st) := by
  obtain ⟨p, e, s, m, args, below, meth, c, A, Q, ⟨hx, hb, hml, hown, hts⟩, hK, hT, hA, hnm, hlk, rfl⟩ := hC
  intro H locs ls hP hD hS hl
  exact lv_astore hx hb hdg hl hn hl9 (fun ls hl => kk H locs ls hP hD hS hl)
theorem y_lstore_n (hC : Cx l G cc own nL R D tys nm) {k : Fin 4} {i : Nat} {x : Int64} (lv' : List (Nat × Value)) (hdg : decode cc pc = .ok (.lstore_n k, 1)) (hi : (k : Nat) = i) (hn : i + 1 < nL) (hl9 : (i, Value.long x) :: lv.filter (fun q => !(q.1 == i) && (!(q.1 == i + 1) && !(q.1 + 1 == i && q.2.category == 2))) = lv') (kk : G ce sl ws (pc + 1) lv' (st)) : G ce sl ws (pc) lv (.long x :: st) := by
  obtain ⟨p, e, s, m, args, below, meth, c, A, Q, ⟨hx, hb, hml, hown, hts⟩, hK, hT, hA, hnm, hlk, rfl⟩ := hC
  intro H locs ls hP hD hS hl
  exact lv_lstore_n hx hb hdg hi hl hn hl9 (fun ls hl => kk H locs ls hP hD hS hl)
theorem y_lstore (hC : Cx l G cc own nL R D tys nm) {i : Nat} {x : Int64} (lv' : List (Nat × Value)) (hdg : decode cc pc = .ok (.lstore i, 2)) (hn : i + 1 < nL) (hl9 : (i, Value.long x) :: lv.filter (fun q => !(q.1 == i) && (!(q.1 == i + 1) && !(q.1 + 1 == i && q.2.category == 2))) = lv') (kk : G ce sl ws (pc + 2) lv' (st)) : G ce sl ws (pc) lv (.long x :: st) := by
  obtain ⟨p, e, s, m, args, below, meth, c, A, Q, ⟨hx, hb, hml, hown, hts⟩, hK, hT, hA, hnm, hlk, rfl⟩ := hC
  intro H locs ls hP hD hS hl
  exact lv_lstore hx hb hdg hl hn hl9 (fun ls hl => kk H locs ls hP hD hS hl)
theorem y_dstore_n (hC : Cx l G cc own nL R D tys nm) {k : Fin 4} {i : Nat} {x : UInt64} (lv' : List (Nat × Value)) (hdg : decode cc pc = .ok (.dstore_n k, 1)) (hi : (k : Nat) = i) (hn : i + 1 < nL) (hl9 : (i, Value.double x) :: lv.filter (fun q => !(q.1 == i) && (!(q.1 == i + 1) && !(q.1 + 1 == i && q.2.category == 2))) = lv') (kk : G ce sl ws (pc + 1) lv' (st)) : G ce sl ws (pc) lv (.double x :: st) := by
  obtain ⟨p, e, s, m, args, below, meth, c, A, Q, ⟨hx, hb, hml, hown, hts⟩, hK, hT, hA, hnm, hlk, rfl⟩ := hC
  intro H locs ls hP hD hS hl
  exact lv_dstore_n hx hb hdg hi hl hn hl9 (fun ls hl => kk H locs ls hP hD hS hl)
theorem y_dstore (hC : Cx l G cc own nL R D tys nm) {i : Nat} {x : UInt64} (lv' : List (Nat × Value)) (hdg : decode cc pc = .ok (.dstore i, 2)) (hn : i + 1 < nL) (hl9 : (i, Value.double x) :: lv.filter (fun q => !(q.1 == i) && (!(q.1 == i + 1) && !(q.1 + 1 == i && q.2.category == 2))) = lv') (kk : G ce sl ws (pc + 2) lv' (st)) : G ce sl ws (pc) lv (.double x :: st) := by
  obtain ⟨p, e, s, m, args, below, meth, c, A, Q, ⟨hx, hb, hml, hown, hts⟩, hK, hT, hA, hnm, hlk, rfl⟩ := hC
  intro H locs ls hP hD hS hl
  exact lv_dstore hx hb hdg hl hn hl9 (fun ls hl => kk H locs ls hP hD hS hl)
theorem y_iinc (hC : Cx l G cc own nL R D tys nm) {i k : Nat} {n : Int} {x v : Int32} (lv' : List (Nat × Value)) (hdg : decode cc pc = .ok (.iinc i n, 3)) (hk : lv[k]? = some (i, .int x)) (hv : x + Int32.ofInt n = v) (hn : i < nL) (hl9 : (i, Value.int v) :: lv.filter (fun q => !(q.1 == i) && !(q.1 + 1 == i && q.2.category == 2)) = lv') (kk : G ce sl ws (pc + 3) lv' st) : G ce sl ws (pc) lv (st) := by
  obtain ⟨p, e, s, m, args, below, meth, c, A, Q, ⟨hx, hb, hml, hown, hts⟩, hK, hT, hA, hnm, hlk, rfl⟩ := hC
  intro H locs ls hP hD hS hl
  exact lv_iinc hx hb hdg hl hk hv hn hl9 (fun ls hl => kk H locs ls hP hD hS hl)
theorem y_iadd (hC : Cx l G cc own nL R D tys nm) {x y v : Int32} (hdg : decode cc pc = .ok (.iadd, 1)) (hv : x + y = v) (kk : G ce sl ws (pc + 1) lv (.int v :: st)) : G ce sl ws (pc) lv (.int y :: .int x :: st) := by
  obtain ⟨p, e, s, m, args, below, meth, c, A, Q, ⟨hx, hb, hml, hown, hts⟩, hK, hT, hA, hnm, hlk, rfl⟩ := hC
  intro H locs ls hP hD hS hl
  subst hv; exact lv_iadd hx hb hdg (kk H locs ls hP hD hS hl)
theorem y_isub (hC : Cx l G cc own nL R D tys nm) {x y v : Int32} (hdg : decode cc pc = .ok (.isub, 1)) (hv : x - y = v) (kk : G ce sl ws (pc + 1) lv (.int v :: st)) : G ce sl ws (pc) lv (.int y :: .int x :: st) := by
  obtain ⟨p, e, s, m, args, below, meth, c, A, Q, ⟨hx, hb, hml, hown, hts⟩, hK, hT, hA, hnm, hlk, rfl⟩ := hC
  intro H locs ls hP hD hS hl
  subst hv; exact lv_isub hx hb hdg (kk H locs ls hP hD hS hl)
theorem y_imul (hC : Cx l G cc own nL R D tys nm) {x y v : Int32} (hdg : decode cc pc = .ok (.imul, 1)) (hv : x * y = v) (kk : G ce sl ws (pc + 1) lv (.int v :: st)) : G ce sl ws (pc) lv (.int y :: .int x :: st) := by
  obtain ⟨p, e, s, m, args, below, meth, c, A, Q, ⟨hx, hb, hml, hown, hts⟩, hK, hT, hA, hnm, hlk, rfl⟩ := hC
  intro H locs ls hP hD hS hl
  subst hv; exact lv_imul hx hb hdg (kk H locs ls hP hD hS hl)
theorem y_iand (hC : Cx l G cc own nL R D tys nm) {x y v : Int32} (hdg : decode cc pc = .ok (.iand, 1)) (hv : x &&& y = v) (kk : G ce sl ws (pc + 1) lv (.int v :: st)) : G ce sl ws (pc) lv (.int y :: .int x :: st) := by
  obtain ⟨p, e, s, m, args, below, meth, c, A, Q, ⟨hx, hb, hml, hown, hts⟩, hK, hT, hA, hnm, hlk, rfl⟩ := hC
  intro H locs ls hP hD hS hl
  subst hv; exact lv_iand hx hb hdg (kk H locs ls hP hD hS hl)
theorem y_ior (hC : Cx l G cc own nL R D tys nm) {x y v : Int32} (hdg : decode cc pc = .ok (.ior, 1)) (hv : x ||| y = v) (kk : G ce sl ws (pc + 1) lv (.int v :: st)) : G ce sl ws (pc) lv (.int y :: .int x :: st) := by
  obtain ⟨p, e, s, m, args, below, meth, c, A, Q, ⟨hx, hb, hml, hown, hts⟩, hK, hT, hA, hnm, hlk, rfl⟩ := hC
  intro H locs ls hP hD hS hl
  subst hv; exact lv_ior hx hb hdg (kk H locs ls hP hD hS hl)
theorem y_ixor (hC : Cx l G cc own nL R D tys nm) {x y v : Int32} (hdg : decode cc pc = .ok (.ixor, 1)) (hv : x ^^^ y = v) (kk : G ce sl ws (pc + 1) lv (.int v :: st)) : G ce sl ws (pc) lv (.int y :: .int x :: st) := by
  obtain ⟨p, e, s, m, args, below, meth, c, A, Q, ⟨hx, hb, hml, hown, hts⟩, hK, hT, hA, hnm, hlk, rfl⟩ := hC
  intro H locs ls hP hD hS hl
  subst hv; exact lv_ixor hx hb hdg (kk H locs ls hP hD hS hl)
theorem y_idiv (hC : Cx l G cc own nL R D tys nm) {x y v : Int32} (hdg : decode cc pc = .ok (.idiv, 1)) (hne : ¬ y = 0) (hv : x / y = v) (kk : G ce sl ws (pc + 1) lv (.int v :: st)) : G ce sl ws (pc) lv (.int y :: .int x :: st) := by
  obtain ⟨p, e, s, m, args, below, meth, c, A, Q, ⟨hx, hb, hml, hown, hts⟩, hK, hT, hA, hnm, hlk, rfl⟩ := hC
  intro H locs ls hP hD hS hl
  subst hv; exact lv_idiv hx hb hdg hne (kk H locs ls hP hD hS hl)
theorem y_irem (hC : Cx l G cc own nL R D tys nm) {x y v : Int32} (hdg : decode cc pc = .ok (.irem, 1)) (hne : ¬ y = 0) (hv : x - x / y * y = v) (kk : G ce sl ws (pc + 1) lv (.int v :: st)) : G ce sl ws (pc) lv (.int y :: .int x :: st) := by
  obtain ⟨p, e, s, m, args, below, meth, c, A, Q, ⟨hx, hb, hml, hown, hts⟩, hK, hT, hA, hnm, hlk, rfl⟩ := hC
  intro H locs ls hP hD hS hl
  subst hv; exact lv_irem hx hb hdg hne (kk H locs ls hP hD hS hl)
theorem y_ladd (hC : Cx l G cc own nL R D tys nm) {x y v : Int64} (hdg : decode cc pc = .ok (.ladd, 1)) (hv : x + y = v) (kk : G ce sl ws (pc + 1) lv (.long v :: st)) : G ce sl ws (pc) lv (.long y :: .long x :: st) := by
  obtain ⟨p, e, s, m, args, below, meth, c, A, Q, ⟨hx, hb, hml, hown, hts⟩, hK, hT, hA, hnm, hlk, rfl⟩ := hC
  intro H locs ls hP hD hS hl
  subst hv; exact lv_ladd hx hb hdg (kk H locs ls hP hD hS hl)
theorem y_lsub (hC : Cx l G cc own nL R D tys nm) {x y v : Int64} (hdg : decode cc pc = .ok (.lsub, 1)) (hv : x - y = v) (kk : G ce sl ws (pc + 1) lv (.long v :: st)) : G ce sl ws (pc) lv (.long y :: .long x :: st) := by
  obtain ⟨p, e, s, m, args, below, meth, c, A, Q, ⟨hx, hb, hml, hown, hts⟩, hK, hT, hA, hnm, hlk, rfl⟩ := hC
  intro H locs ls hP hD hS hl
  subst hv; exact lv_lsub hx hb hdg (kk H locs ls hP hD hS hl)
theorem y_lmul (hC : Cx l G cc own nL R D tys nm) {x y v : Int64} (hdg : decode cc pc = .ok (.lmul, 1)) (hv : x * y = v) (kk : G ce sl ws (pc + 1) lv (.long v :: st)) : G ce sl ws (pc) lv (.long y :: .long x :: st) := by
  obtain ⟨p, e, s, m, args, below, meth, c, A, Q, ⟨hx, hb, hml, hown, hts⟩, hK, hT, hA, hnm, hlk, rfl⟩ := hC
  intro H locs ls hP hD hS hl
  subst hv; exact lv_lmul hx hb hdg (kk H locs ls hP hD hS hl)
theorem y_ishr (hC : Cx l G cc own nL R D tys nm) {x y v : Int32} (hdg : decode cc pc = .ok (.ishr, 1)) (hv : x >>> (y &&& 31) = v) (kk : G ce sl ws (pc + 1) lv (.int v :: st)) : G ce sl ws (pc) lv (.int y :: .int x :: st) := by
  obtain ⟨p, e, s, m, args, below, meth, c, A, Q, ⟨hx, hb, hml, hown, hts⟩, hK, hT, hA, hnm, hlk, rfl⟩ := hC
  intro H locs ls hP hD hS hl
  subst hv; exact lv_ishr hx hb hdg (kk H locs ls hP hD hS hl)
theorem y_iushr (hC : Cx l G cc own nL R D tys nm) {x y v : Int32} (hdg : decode cc pc = .ok (.iushr, 1)) (hv : (x.toUInt32 >>> (y.toUInt32 &&& Int32.toUInt32 31)).toInt32 = v) (kk : G ce sl ws (pc + 1) lv (.int v :: st)) : G ce sl ws (pc) lv (.int y :: .int x :: st) := by
  obtain ⟨p, e, s, m, args, below, meth, c, A, Q, ⟨hx, hb, hml, hown, hts⟩, hK, hT, hA, hnm, hlk, rfl⟩ := hC
  intro H locs ls hP hD hS hl
  exact lv_iushr hx hb hdg hv (kk H locs ls hP hD hS hl)
theorem y_i2l (hC : Cx l G cc own nL R D tys nm) {x : Int32} {v : Int64} (hdg : decode cc pc = .ok (.i2l, 1)) (hv : x.toInt64 = v) (kk : G ce sl ws (pc + 1) lv (.long v :: st)) : G ce sl ws (pc) lv (.int x :: st) := by
  obtain ⟨p, e, s, m, args, below, meth, c, A, Q, ⟨hx, hb, hml, hown, hts⟩, hK, hT, hA, hnm, hlk, rfl⟩ := hC
  intro H locs ls hP hD hS hl
  exact lv_i2l hx hb hdg hv (kk H locs ls hP hD hS hl)
theorem y_l2i (hC : Cx l G cc own nL R D tys nm) {x : Int64} {v : Int32} (hdg : decode cc pc = .ok (.l2i, 1)) (hv : x.toInt32 = v) (kk : G ce sl ws (pc + 1) lv (.int v :: st)) : G ce sl ws (pc) lv (.long x :: st) := by
  obtain ⟨p, e, s, m, args, below, meth, c, A, Q, ⟨hx, hb, hml, hown, hts⟩, hK, hT, hA, hnm, hlk, rfl⟩ := hC
  intro H locs ls hP hD hS hl
  exact lv_l2i hx hb hdg hv (kk H locs ls hP hD hS hl)
theorem y_lcmp (hC : Cx l G cc own nL R D tys nm) {x y : Int64} (hdg : decode cc pc = .ok (.lcmp, 1)) (kk : ∀ v : Int32, v = lg_cmp x y → G ce sl ws (pc + 1) lv (.int v :: st)) : G ce sl ws (pc) lv (.long y :: .long x :: st) := by
  obtain ⟨p, e, s, m, args, below, meth, c, A, Q, ⟨hx, hb, hml, hown, hts⟩, hK, hT, hA, hnm, hlk, rfl⟩ := hC
  intro H locs ls hP hD hS hl
  exact W.lcmp hx hb hdg (kk _ rfl H locs ls hP hD hS hl)
theorem y_dcmp (hC : Cx l G cc own nL R D tys nm) {x y : UInt64} {op : CmpOp} (hdg : decode cc pc = .ok (.dcmp op, 1)) (kk : ∀ v : Int32, v = Op.cmpValue (FP.dcmp x y) op → G ce sl ws (pc + 1) lv (.int v :: st)) : G ce sl ws (pc) lv (.double y :: .double x :: st) := by
  obtain ⟨p, e, s, m, args, below, meth, c, A, Q, ⟨hx, hb, hml, hown, hts⟩, hK, hT, hA, hnm, hlk, rfl⟩ := hC
  intro H locs ls hP hD hS hl
  exact lv_dcmp hx hb hdg (kk _ rfl H locs ls hP hD hS hl)
theorem y_dup (hC : Cx l G cc own nL R D tys nm) {va : Value} (hdg : decode cc pc = .ok (.dup, 1)) (hva : va.category = 1) (kk : G ce sl ws (pc + 1) lv (va :: va :: st)) : G ce sl ws (pc) lv (va :: st) := by
  obtain ⟨p, e, s, m, args, below, meth, c, A, Q, ⟨hx, hb, hml, hown, hts⟩, hK, hT, hA, hnm, hlk, rfl⟩ := hC
  intro H locs ls hP hD hS hl
  exact lv_dup hx hb hdg hva (kk H locs ls hP hD hS hl)
theorem y_pop (hC : Cx l G cc own nL R D tys nm) {va : Value} (hdg : decode cc pc = .ok (.pop, 1)) (hva : va.category = 1) (kk : G ce sl ws (pc + 1) lv (st)) : G ce sl ws (pc) lv (va :: st) := by
  obtain ⟨p, e, s, m, args, below, meth, c, A, Q, ⟨hx, hb, hml, hown, hts⟩, hK, hT, hA, hnm, hlk, rfl⟩ := hC
  intro H locs ls hP hD hS hl
  exact lv_pop hx hb hdg hva (kk H locs ls hP hD hS hl)
theorem y_dup2 (hC : Cx l G cc own nL R D tys nm) {va vb : Value} (hdg : decode cc pc = .ok (.dup2, 1)) (hva : va.category = 1) (hvb : vb.category = 1) (kk : G ce sl ws (pc + 1) lv (va :: vb :: va :: vb :: st)) : G ce sl ws (pc) lv (va :: vb :: st) := by
  obtain ⟨p, e, s, m, args, below, meth, c, A, Q, ⟨hx, hb, hml, hown, hts⟩, hK, hT, hA, hnm, hlk, rfl⟩ := hC
  intro H locs ls hP hD hS hl
  exact lv_dup2_11 hx hb hdg hva hvb (kk H locs ls hP hD hS hl)
theorem y_if_eq (hC : Cx l G cc own nL R D tys nm) {x : Int32} {off : Int} (tgt : Nat) (hdg : decode cc pc = .ok (.ifCond .eq off, 3)) (ht : (pc : Int) + off = (tgt : Int)) (kt : x = 0 → G ce sl ws (tgt) lv (st)) (kf : ¬ x = 0 → G ce sl ws (pc + 3) lv (st)) : G ce sl ws (pc) lv (.int x :: st) := by
  obtain ⟨p, e, s, m, args, below, meth, c, A, Q, ⟨hx, hb, hml, hown, hts⟩, hK, hT, hA, hnm, hlk, rfl⟩ := hC
  intro H locs ls hP hD hS hl
  exact lv_if_eq hx hb hdg ht (fun h => kt h H locs ls hP hD hS hl) (fun h => kf h H locs ls hP hD hS hl)
theorem y_icmp_eq (hC : Cx l G cc own nL R D tys nm) {x y : Int32} {off : Int} (tgt : Nat) (hdg : decode cc pc = .ok (.if_icmp .eq off, 3)) (ht : (pc : Int) + off = (tgt : Int)) (kt : x = y → G ce sl ws (tgt) lv (st)) (kf : ¬ x = y → G ce sl ws (pc + 3) lv (st)) : G ce sl ws (pc) lv (.int y :: .int x :: st) := by
  obtain ⟨p, e, s, m, args, below, meth, c, A, Q, ⟨hx, hb, hml, hown, hts⟩, hK, hT, hA, hnm, hlk, rfl⟩ := hC
  intro H locs ls hP hD hS hl
  exact lv_icmp_eq hx hb hdg ht (fun h => kt h H locs ls hP hD hS hl) (fun h => kf h H locs ls hP hD hS hl)
theorem y_if_ne (hC : Cx l G cc own nL R D tys nm) {x : Int32} {off : Int} (tgt : Nat) (hdg : decode cc pc = .ok (.ifCond .ne off, 3)) (ht : (pc : Int) + off = (tgt : Int)) (kt : ¬ x = 0 → G ce sl ws (tgt) lv (st)) (kf : x = 0 → G ce sl ws (pc + 3) lv (st)) : G ce sl ws (pc) lv (.int x :: st) := by
  obtain ⟨p, e, s, m, args, below, meth, c, A, Q, ⟨hx, hb, hml, hown, hts⟩, hK, hT, hA, hnm, hlk, rfl⟩ := hC
  intro H locs ls hP hD hS hl
  exact lv_if_ne hx hb hdg ht (fun h => kt h H locs ls hP hD hS hl) (fun h => kf h H locs ls hP hD hS hl)
theorem y_icmp_ne (hC : Cx l G cc own nL R D tys nm) {x y : Int32} {off : Int} (tgt : Nat) (hdg : decode cc pc = .ok (.if_icmp .ne off, 3)) (ht : (pc : Int) + off = (tgt : Int)) (kt : ¬ x = y → G ce sl ws (tgt) lv (st)) (kf : x = y → G ce sl ws (pc + 3) lv (st)) : G ce sl ws (pc) lv (.int y :: .int x :: st) := by
  obtain ⟨p, e, s, m, args, below, meth, c, A, Q, ⟨hx, hb, hml, hown, hts⟩, hK, hT, hA, hnm, hlk, rfl⟩ := hC
  intro H locs ls hP hD hS hl
  exact lv_icmp_ne hx hb hdg ht (fun h => kt h H locs ls hP hD hS hl) (fun h => kf h H locs ls hP hD hS hl)
theorem y_if_lt (hC : Cx l G cc own nL R D tys nm) {x : Int32} {off : Int} (tgt : Nat) (hdg : decode cc pc = .ok (.ifCond .lt off, 3)) (ht : (pc : Int) + off = (tgt : Int)) (kt : x < 0 → G ce sl ws (tgt) lv (st)) (kf : ¬ x < 0 → G ce sl ws (pc + 3) lv (st)) : G ce sl ws (pc) lv (.int x :: st) := by
  obtain ⟨p, e, s, m, args, below, meth, c, A, Q, ⟨hx, hb, hml, hown, hts⟩, hK, hT, hA, hnm, hlk, rfl⟩ := hC
  intro H locs ls hP hD hS hl
  exact lv_if_lt hx hb hdg ht (fun h => kt h H locs ls hP hD hS hl) (fun h => kf h H locs ls hP hD hS hl)
theorem y_icmp_lt (hC : Cx l G cc own nL R D tys nm) {x y : Int32} {off : Int} (tgt : Nat) (hdg : decode cc pc = .ok (.if_icmp .lt off, 3)) (ht : (pc : Int) + off = (tgt : Int)) (kt : x < y → G ce sl ws (tgt) lv (st)) (kf : ¬ x < y → G ce sl ws (pc + 3) lv (st)) : G ce sl ws (pc) lv (.int y :: .int x :: st) := by
  obtain ⟨p, e, s, m, args, below, meth, c, A, Q, ⟨hx, hb, hml, hown, hts⟩, hK, hT, hA, hnm, hlk, rfl⟩ := hC
  intro H locs ls hP hD hS hl
  exact lv_icmp_lt hx hb hdg ht (fun h => kt h H locs ls hP hD hS hl) (fun h => kf h H locs ls hP hD hS hl)
theorem y_if_ge (hC : Cx l G cc own nL R D tys nm) {x : Int32} {off : Int} (tgt : Nat) (hdg : decode cc pc = .ok (.ifCond .ge off, 3)) (ht : (pc : Int) + off = (tgt : Int)) (kt : 0 ≤ x → G ce sl ws (tgt) lv (st)) (kf : ¬ 0 ≤ x → G ce sl ws (pc + 3) lv (st)) : G ce sl ws (pc) lv (.int x :: st) := by
  obtain ⟨p, e, s, m, args, below, meth, c, A, Q, ⟨hx, hb, hml, hown, hts⟩, hK, hT, hA, hnm, hlk, rfl⟩ := hC
  intro H locs ls hP hD hS hl
  exact lv_if_ge hx hb hdg ht (fun h => kt h H locs ls hP hD hS hl) (fun h => kf h H locs ls hP hD hS hl)
theorem y_icmp_ge (hC : Cx l G cc own nL R D tys nm) {x y : Int32} {off : Int} (tgt : Nat) (hdg : decode cc pc = .ok (.if_icmp .ge off, 3)) (ht : (pc : Int) + off = (tgt : Int)) (kt : y ≤ x → G ce sl ws (tgt) lv (st)) (kf : ¬ y ≤ x → G ce sl ws (pc + 3) lv (st)) : G ce sl ws (pc) lv (.int y :: .int x :: st) := by
  obtain ⟨p, e, s, m, args, below, meth, c, A, Q, ⟨hx, hb, hml, hown, hts⟩, hK, hT, hA, hnm, hlk, rfl⟩ := hC
  intro H locs ls hP hD hS hl
  exact lv_icmp_ge hx hb hdg ht (fun h => kt h H locs ls hP hD hS hl) (fun h => kf h H locs ls hP hD hS hl)
theorem y_if_gt (hC : Cx l G cc own nL R D tys nm) {x : Int32} {off : Int} (tgt : Nat) (hdg : decode cc pc = .ok (.ifCond .gt off, 3)) (ht : (pc : Int) + off = (tgt : Int)) (kt : 0 < x → G ce sl ws (tgt) lv (st)) (kf : ¬ 0 < x → G ce sl ws (pc + 3) lv (st)) : G ce sl ws (pc) lv (.int x :: st) := by
  obtain ⟨p, e, s, m, args, below, meth, c, A, Q, ⟨hx, hb, hml, hown, hts⟩, hK, hT, hA, hnm, hlk, rfl⟩ := hC
  intro H locs ls hP hD hS hl
  exact lv_if_gt hx hb hdg ht (fun h => kt h H locs ls hP hD hS hl) (fun h => kf h H locs ls hP hD hS hl)
theorem y_icmp_gt (hC : Cx l G cc own nL R D tys nm) {x y : Int32} {off : Int} (tgt : Nat) (hdg : decode cc pc = .ok (.if_icmp .gt off, 3)) (ht : (pc : Int) + off = (tgt : Int)) (kt : y < x → G ce sl ws (tgt) lv (st)) (kf : ¬ y < x → G ce sl ws (pc + 3) lv (st)) : G ce sl ws (pc) lv (.int y :: .int x :: st) := by
  obtain ⟨p, e, s, m, args, below, meth, c, A, Q, ⟨hx, hb, hml, hown, hts⟩, hK, hT, hA, hnm, hlk, rfl⟩ := hC
  intro H locs ls hP hD hS hl
  exact lv_icmp_gt hx hb hdg ht (fun h => kt h H locs ls hP hD hS hl) (fun h => kf h H locs ls hP hD hS hl)
theorem y_if_le (hC : Cx l G cc own nL R D tys nm) {x : Int32} {off : Int} (tgt : Nat) (hdg : decode cc pc = .ok (.ifCond .le off, 3)) (ht : (pc : Int) + off = (tgt : Int)) (kt : x ≤ 0 → G ce sl ws (tgt) lv (st)) (kf : ¬ x ≤ 0 → G ce sl ws (pc + 3) lv (st)) : G ce sl ws (pc) lv (.int x :: st) := by
  obtain ⟨p, e, s, m, args, below, meth, c, A, Q, ⟨hx, hb, hml, hown, hts⟩, hK, hT, hA, hnm, hlk, rfl⟩ := hC
  intro H locs ls hP hD hS hl
  exact lv_if_le hx hb hdg ht (fun h => kt h H locs ls hP hD hS hl) (fun h => kf h H locs ls hP hD hS hl)
theorem y_icmp_le (hC : Cx l G cc own nL R D tys nm) {x y : Int32} {off : Int} (tgt : Nat) (hdg : decode cc pc = .ok (.if_icmp .le off, 3)) (ht : (pc : Int) + off = (tgt : Int)) (kt : x ≤ y → G ce sl ws (tgt) lv (st)) (kf : ¬ x ≤ y → G ce sl ws (pc + 3) lv (st)) : G ce sl ws (pc) lv (.int y :: .int x :: st) := by
  obtain ⟨p, e, s, m, args, below, meth, c, A, Q, ⟨hx, hb, hml, hown, hts⟩, hK, hT, hA, hnm, hlk, rfl⟩ := hC
  intro H locs ls hP hD hS hl
  exact lv_icmp_le hx hb hdg ht (fun h => kt h H locs ls hP hD hS hl) (fun h => kf h H locs ls hP hD hS hl)
theorem y_goto (hC : Cx l G cc own nL R D tys nm) {off : Int} (tgt : Nat) (hdg : decode cc pc = .ok (.goto off, 3)) (ht : (pc : Int) + off = (tgt : Int)) (kk : G ce sl ws (tgt) lv (st)) : G ce sl ws (pc) lv (st) := by
  obtain ⟨p, e, s, m, args, below, meth, c, A, Q, ⟨hx, hb, hml, hown, hts⟩, hK, hT, hA, hnm, hlk, rfl⟩ := hC
  intro H locs ls hP hD hS hl
  exact lv_goto hx hb hdg ht (kk H locs ls hP hD hS hl)
theorem y_tableOut (hC : Cx l G cc own nL R D tys nm) {dflt lo hi : Int} {offs : Array Int} {len : Nat} {x : Int32} (tgt : Nat) (hdg : decode cc pc = .ok (.tableswitch dflt lo hi offs, len)) (h : x.toInt < lo ∨ hi < x.toInt) (ht : (pc : Int) + dflt = (tgt : Int)) (kk : G ce sl ws (tgt) lv (st)) : G ce sl ws (pc) lv (.int x :: st) := by
  obtain ⟨p, e, s, m, args, below, meth, c, A, Q, ⟨hx, hb, hml, hown, hts⟩, hK, hT, hA, hnm, hlk, rfl⟩ := hC
  intro H locs ls hP hD hS hl
  exact lv_tableOut hx hb hdg h ht (kk H locs ls hP hD hS hl)
theorem y_tableIn (hC : Cx l G cc own nL R D tys nm) {dflt lo hi : Int} {offs : Array Int} {len : Nat} {x : Int32} {off : Int} (tgt : Nat) (hdg : decode cc pc = .ok (.tableswitch dflt lo hi offs, len)) (h1 : ¬ x.toInt < lo) (h2 : ¬ hi < x.toInt) (ho : offs[(x.toInt - lo).toNat]? = some off) (ht : (pc : Int) + off = (tgt : Int)) (kk : G ce sl ws (tgt) lv (st)) : G ce sl ws (pc) lv (.int x :: st) := by
  obtain ⟨p, e, s, m, args, below, meth, c, A, Q, ⟨hx, hb, hml, hown, hts⟩, hK, hT, hA, hnm, hlk, rfl⟩ := hC
  intro H locs ls hP hD hS hl
  exact lv_tableIn hx hb hdg h1 h2 ho ht (kk H locs ls hP hD hS hl)
theorem y_lookup (hC : Cx l G cc own nL R D tys nm) {dflt : Int} {ps : Array (Int × Int)} {len : Nat} {x : Int32} {off : Int} (tgt : Nat) (hdg : decode cc pc = .ok (.lookupswitch dflt ps, len)) (hp : (ps.toList.zip (ps.toList.drop 1)).all (fun (a, next) => a.1 < next.1) = true) (ho : Op.lookupswitch.offset ps.toList dflt x.toInt = off) (ht : (pc : Int) + off = (tgt : Int)) (kk : G ce sl ws (tgt) lv (st)) : G ce sl ws (pc) lv (.int x :: st) := by
  obtain ⟨p, e, s, m, args, below, meth, c, A, Q, ⟨hx, hb, hml, hown, hts⟩, hK, hT, hA, hnm, hlk, rfl⟩ := hC
  intro H locs ls hP hD hS hl
  exact lv_lookup hx hb hdg hp ho ht (kk H locs ls hP hD hS hl)
/-- what the tables say of a class, by its number in vwCl -/
def cC (ci : Nat) (C : String) (T : u_T) (N : Nat) (ty : Nat → FieldType) : Prop := vwCl[ci]? = some (C, T, N) ∧ (∀ w ∈ u_ws C T N, w ∈ wsL_law) ∧ (∀ k, k < N → parseFieldDescriptor (T k).2.2.1 = some (ty k)) ∧ (∀ a, a < N → ∀ b, b < N → a ≠ b → (T a).2.1 ≠ (T b).2.1)
theorem cC0 : cC 0 RX0 TX0 7 tyX0 := ⟨rfl, inlX0, tyX0_ok, nmX0⟩
theorem cC1 : cC 1 RX1 TX1 5 tyX1 := ⟨rfl, inlX1, tyX1_ok, nmX1⟩
theorem cC2 : cC 2 RX2 TX2 4 tyX2 := ⟨rfl, inlX2, tyX2_ok, nmX2⟩
theorem cC3 : cC 3 RX3 TX3 5 tyX3 := ⟨rfl, inlX3, tyX3_ok, nmX3⟩
theorem cC4 : cC 4 RX4 TX4 8 tyX4 := ⟨rfl, inlX4, tyX4_ok, nmX4⟩
theorem cC5 : cC 5 RX5 TX5 10 tyX5 := ⟨rfl, inlX5, tyX5_ok, nmX5⟩
theorem cC6 : cC 6 RX6 TX6 23 tyX6 := ⟨rfl, inlX6, tyX6_ok, nmX6⟩
theorem y_get (hC : Cx l G cc own nL R D tys nm) {ci : Nat} {C : String} {T : u_T} {N : Nat} {ty : Nat → FieldType} {index a : Nat} (hc : cC ci C T N ty) (q0 : Nat) {fs : List Value} (he : ws[q0]? = some (a, .inr (ci, fs))) (k : Nat) (hk : k < N) (hw : Cond.fieldLink own index (T k).1 (T k).2.1 (T k).2.2.1 ∈ wsL_law) {v : Value} (hv : fs[k]? = some v) (hdg : decode cc pc = .ok (.getfield index, 3)) (kk : G ce sl ws (pc + 3) lv (v :: st)) : G ce sl ws (pc) lv (.ref a :: st) := by
  obtain ⟨p, e, s, m, args, below, meth, c, A, Q, ⟨hx, hb, hml, hown, hts⟩, hK, hT, hA, hnm, hlk, rfl⟩ := hC
  intro H locs ls hP hD hS hl
  exact va_get hx hb hts hc.2.1 hown hK.1 hP q0 he hc.1 k hk (hts _ hw) (fun _ h9 => h9) hv hdg (kk H locs ls hP hD hS hl)
theorem y_put (hC : Cx l G cc own nL R D tys nm) {ci : Nat} {C : String} {T : u_T} {N : Nat} {ty : Nat → FieldType} {index a : Nat} (hc : cC ci C T N ty) (q0 : Nat) {fs : List Value} (he : ws[q0]? = some (a, .inr (ci, fs))) (k : Nat) (hk : k < N) (hw : Cond.fieldLink own index (T k).1 (T k).2.1 (T k).2.2.1 ∈ wsL_law) (hfin : (T k).2.2.2 = false) {v : Value} (hn : narrow (ty k) v = v) (hfit : fits (ty k) v = true) (hl9 : k < fs.length) (hdg : decode cc pc = .ok (.putfield index, 3)) (ws' : va_W) (hw9 : ws.set q0 (a, .inr (ci, fs.set k v)) = ws') (kk : G ce sl ws' (pc + 3) lv (st)) : G ce sl ws (pc) lv (v :: .ref a :: st) := by
  obtain ⟨p, e, s, m, args, below, meth, c, A, Q, ⟨hx, hb, hml, hown, hts⟩, hK, hT, hA, hnm, hlk, rfl⟩ := hC
  intro H locs ls hP hD hS hl
  subst hw9; exact va_put hx hb hts hc.2.1 ty hc.2.2.1 hc.2.2.2 hown hK.1 hP hD hS q0 he hc.1 k hk (hts _ hw) (fun _ h9 => h9) hfin (hc.2.2.1 k hk) hn hfit hl9 hdg (fun H locs hP hD hS => kk H locs ls hP hD hS hl)
theorem y_putF (hC : Cx l G cc own nL R D tys nm) {ci : Nat} {C : String} {T : u_T} {N : Nat} {ty : Nat → FieldType} {index a : Nat} (hc : cC ci C T N ty) (hin : nm = "<init>") (q0 : Nat) {fs : List Value} (he : ws[q0]? = some (a, .inr (ci, fs))) (k : Nat) (hk : k < N) (hw : Cond.fieldLink own index (T k).1 (T k).2.1 (T k).2.2.1 ∈ wsL_law) (hfin : (T k).2.2.2 = true) (hdecl : (T k).1 = own) {v : Value} (hn : narrow (ty k) v = v) (hfit : fits (ty k) v = true) (hl9 : k < fs.length) (hdg : decode cc pc = .ok (.putfield index, 3)) (ws' : va_W) (hw9 : ws.set q0 (a, .inr (ci, fs.set k v)) = ws') (kk : G ce sl ws' (pc + 3) lv (st)) : G ce sl ws (pc) lv (v :: .ref a :: st) := by
  obtain ⟨p, e, s, m, args, below, meth, c, A, Q, ⟨hx, hb, hml, hown, hts⟩, hK, hT, hA, hnm, hlk, rfl⟩ := hC
  intro H locs ls hP hD hS hl
  subst hw9; exact va_putF hx hb hts hc.2.1 ty hc.2.2.1 hc.2.2.2 hown hK.1 hP hD hS q0 he hc.1 k hk (hts _ hw) (fun _ h9 => h9) hfin (hnm.trans hin) hdecl (hc.2.2.1 k hk) hn hfit hl9 hdg (fun H locs hP hD hS => kk H locs ls hP hD hS hl)
theorem y_iald (hC : Cx l G cc own nL R D tys nm) {cA : ClassId} {n a : Nat} {f : Nat → Int32} {i : Int32} (q0 t0 : Nat) (ha : ws[q0]? = some (a, .inl (cA, n, .inl f))) (ht : tys[t0]? = some (cA, .int)) (k : Nat) (hi : i = nI k) (hk : k < n) (hn : n < 2 ^ 31) (hdg : decode cc pc = .ok (.iaload, 1)) (kk : G ce sl ws (pc + 1) lv (.int (f k) :: st)) : G ce sl ws (pc) lv (.int i :: .ref a :: st) := by
  obtain ⟨p, e, s, m, args, below, meth, c, A, Q, ⟨hx, hb, hml, hown, hts⟩, hK, hT, hA, hnm, hlk, rfl⟩ := hC
  intro H locs ls hP hD hS hl
  subst hi; refine va_iald hx hb hK.1 hP q0 t0 ha ht (vp_in_nI hk hn) hdg ?_; rw [nI_clamp (by omega)]; exact kk H locs ls hP hD hS hl
theorem y_zald (hC : Cx l G cc own nL R D tys nm) {cA : ClassId} {n a : Nat} {f : Nat → Int32} {i : Int32} (q0 t0 : Nat) (ha : ws[q0]? = some (a, .inl (cA, n, .inl f))) (ht : tys[t0]? = some (cA, .boolean)) (k : Nat) (hi : i = nI k) (hk : k < n) (hn : n < 2 ^ 31) (hdg : decode cc pc = .ok (.baload, 1)) (kk : G ce sl ws (pc + 1) lv (.int (f k) :: st)) : G ce sl ws (pc) lv (.int i :: .ref a :: st) := by
  obtain ⟨p, e, s, m, args, below, meth, c, A, Q, ⟨hx, hb, hml, hown, hts⟩, hK, hT, hA, hnm, hlk, rfl⟩ := hC
  intro H locs ls hP hD hS hl
  subst hi; refine va_zald hx hb hK.1 hP q0 t0 ha ht (vp_in_nI hk hn) hdg ?_; rw [nI_clamp (by omega)]; exact kk H locs ls hP hD hS hl
theorem y_lald (hC : Cx l G cc own nL R D tys nm) {cA : ClassId} {n a : Nat} {f : Nat → Int64} {i : Int32} (q0 t0 : Nat) (ha : ws[q0]? = some (a, .inl (cA, n, .inr (.inl f)))) (ht : tys[t0]? = some (cA, .long)) (k : Nat) (hi : i = nI k) (hk : k < n) (hn : n < 2 ^ 31) (hdg : decode cc pc = .ok (.laload, 1)) (kk : G ce sl ws (pc + 1) lv (.long (f k) :: st)) : G ce sl ws (pc) lv (.int i :: .ref a :: st) := by
  obtain ⟨p, e, s, m, args, below, meth, c, A, Q, ⟨hx, hb, hml, hown, hts⟩, hK, hT, hA, hnm, hlk, rfl⟩ := hC
  intro H locs ls hP hD hS hl
  subst hi; refine va_lald hx hb hK.1 hP q0 t0 ha ht (vp_in_nI hk hn) hdg ?_; rw [nI_clamp (by omega)]; exact kk H locs ls hP hD hS hl
theorem y_iast (hC : Cx l G cc own nL R D tys nm) {cA : ClassId} {n a : Nat} {f : Nat → Int32} {i : Int32} {x : Int32} (q0 t0 : Nat) (ha : ws[q0]? = some (a, .inl (cA, n, .inl f))) (ht : tys[t0]? = some (cA, .int)) (k : Nat) (hi : i = nI k) (hk : k < n) (hn : n < 2 ^ 31) (hdg : decode cc pc = .ok (.iastore, 1)) (ws' : va_W) (hw9 : ws.set q0 (a, .inl (cA, n, .inl (upd f k x))) = ws') (kk : G ce sl ws' (pc + 1) lv (st)) : G ce sl ws (pc) lv (.int x :: .int i :: .ref a :: st) := by
  obtain ⟨p, e, s, m, args, below, meth, c, A, Q, ⟨hx, hb, hml, hown, hts⟩, hK, hT, hA, hnm, hlk, rfl⟩ := hC
  intro H locs ls hP hD hS hl
  subst hi; subst hw9; exact va_iast hx hb hK.1 hP hD hS q0 t0 ha ht (vp_in_nI hk hn) hdg (by rw [nI_clamp (show k < 2 ^ 31 by omega)]; exact fun H locs hP hD hS => kk H locs ls hP hD hS hl)
theorem y_zast (hC : Cx l G cc own nL R D tys nm) {cA : ClassId} {n a : Nat} {f : Nat → Int32} {i : Int32} {x : Int32} (q0 t0 : Nat) (ha : ws[q0]? = some (a, .inl (cA, n, .inl f))) (ht : tys[t0]? = some (cA, .boolean)) (k : Nat) (hi : i = nI k) (hk : k < n) (hn : n < 2 ^ 31) {x9 : Int32} (hz : vp_nar .boolean x = x9) (hdg : decode cc pc = .ok (.bastore, 1)) (ws' : va_W) (hw9 : ws.set q0 (a, .inl (cA, n, .inl (upd f k x9))) = ws') (kk : G ce sl ws' (pc + 1) lv (st)) : G ce sl ws (pc) lv (.int x :: .int i :: .ref a :: st) := by
  obtain ⟨p, e, s, m, args, below, meth, c, A, Q, ⟨hx, hb, hml, hown, hts⟩, hK, hT, hA, hnm, hlk, rfl⟩ := hC
  intro H locs ls hP hD hS hl
  subst hi; subst hw9; subst hz; exact va_zast hx hb hK.1 hP hD hS q0 t0 ha ht (vp_in_nI hk hn) hdg (by rw [nI_clamp (show k < 2 ^ 31 by omega)]; exact fun H locs hP hD hS => kk H locs ls hP hD hS hl)
theorem y_last (hC : Cx l G cc own nL R D tys nm) {cA : ClassId} {n a : Nat} {f : Nat → Int64} {i : Int32} {x : Int64} (q0 t0 : Nat) (ha : ws[q0]? = some (a, .inl (cA, n, .inr (.inl f)))) (ht : tys[t0]? = some (cA, .long)) (k : Nat) (hi : i = nI k) (hk : k < n) (hn : n < 2 ^ 31) (hdg : decode cc pc = .ok (.lastore, 1)) (ws' : va_W) (hw9 : ws.set q0 (a, .inl (cA, n, .inr (.inl (vp_updL f k x)))) = ws') (kk : G ce sl ws' (pc + 1) lv (st)) : G ce sl ws (pc) lv (.long x :: .int i :: .ref a :: st) := by
  obtain ⟨p, e, s, m, args, below, meth, c, A, Q, ⟨hx, hb, hml, hown, hts⟩, hK, hT, hA, hnm, hlk, rfl⟩ := hC
  intro H locs ls hP hD hS hl
  subst hi; subst hw9; exact va_last hx hb hK.1 hP hD hS q0 t0 ha ht (vp_in_nI hk hn) hdg (by rw [nI_clamp (show k < 2 ^ 31 by omega)]; exact fun H locs hP hD hS => kk H locs ls hP hD hS hl)
theorem y_aldq (hC : Cx l G cc own nL R D tys nm) {cA : ClassId} {C : String} {n a b : Nat} {f : Nat → Option Nat} {i : Int32} (q0 t0 : Nat) (ha : ws[q0]? = some (a, .inl (cA, n, .inr (.inr (.inr (.inr f)))))) (ht : tys[t0]? = some (cA, .object C)) (k : Nat) (hi : i = nI k) (hk : k < n) (hn : n < 2 ^ 31) (hf : f k = some b) (hdg : decode cc pc = .ok (.aaload, 1)) (kk : G ce sl ws (pc + 1) lv (.ref b :: st)) : G ce sl ws (pc) lv (.int i :: .ref a :: st) := by
  obtain ⟨p, e, s, m, args, below, meth, c, A, Q, ⟨hx, hb, hml, hown, hts⟩, hK, hT, hA, hnm, hlk, rfl⟩ := hC
  intro H locs ls hP hD hS hl
  subst hi; refine va_aldq hx hb hK.1 hP q0 t0 ha ht (vp_in_nI hk hn) hdg ?_; rw [nI_clamp (by omega), hf]; exact kk H locs ls hP hD hS hl
theorem y_alen (hC : Cx l G cc own nL R D tys nm) {cA : ClassId} {a : Nat} {x : vp_A} {ty : FieldType} {v : Int32} (q0 t0 : Nat) (ha : ws[q0]? = some (a, .inl (cA, x))) (ht : tys[t0]? = some (cA, ty)) (hv : Int32.ofNat x.1 = v) (hdg : decode cc pc = .ok (.arraylength, 1)) (kk : G ce sl ws (pc + 1) lv (.int v :: st)) : G ce sl ws (pc) lv (.ref a :: st) := by
  obtain ⟨p, e, s, m, args, below, meth, c, A, Q, ⟨hx, hb, hml, hown, hts⟩, hK, hT, hA, hnm, hlk, rfl⟩ := hC
  intro H locs ls hP hD hS hl
  exact va_alen hx hb hK.1 hP q0 t0 ha ht hv hdg (kk H locs ls hP hD hS hl)
theorem y_newa (hC : Cx l G cc own nL R D tys nm) {atype : ArrayType} {ty : FieldType} {n : Int32} {N : Nat} {a0 : vp_A} {cA : ClassId} (hw : Cond.arrayClass (newarray.typeOf atype) ∈ wsL_law) (hty : newarray.typeOf atype = ty) (t0 : Nat) (ht : tys[t0]? = some (cA, ty)) (hp : va_RA = va_RA ∧ (∀ (U : State), va_RA U cA ty → U.vm.findClass ("[" ++ ty.toString) = some cA)) (ha : ∀ cA : ClassId, vp_cell cA a0 = arrV cA N (fun _ => defaultValue ty)) (hN : n = nI N) (hN2 : N < 2 ^ 24) (hc : ce + 1 ≤ R.cells) (hs : sl + N ≤ R.slots) (hdg : decode cc pc = .ok (.newarray atype, 2)) (kk : ∀ q : Nat, G (ce + 1) (sl + N) (ws ++ [(q, .inl (cA, a0))]) (pc + 2) lv (.ref q :: st)) : G ce sl ws (pc) lv (.int n :: st) := by
  obtain ⟨p, e, s, m, args, below, meth, c, A, Q, ⟨hx, hb, hml, hown, hts⟩, hK, hT, hA, hnm, hlk, rfl⟩ := hC
  intro H locs ls hP hD hS hl
  subst hN; subst hty
  have hcl : (nI N).toNatClampNeg = N := nI_clamp (by omega)
  refine va_newaK hx hb (hts _ hw) rfl hdg rfl (nI_pos (by omega)) hcl (by
    have h8 : componentBytes (newarray.typeOf atype) ≤ 8 := by cases atype <;> decide
    calc N * componentBytes (newarray.typeOf atype) ≤ N * 8 := Nat.mul_le_mul_left _ h8
      _ ≤ 536870912 := by omega) hc hs rfl fun H1 cA9 e1 z1 o1 hAr hNm => ?_
  have hcA : cA9 = cA := Option.some.inj (hNm.symm.trans (hp.2 s (hK.1.2 t0 _ ht).2))
  subst hcA
  have hk : ∀ (k : Nat) (x : Nat × va_E), ws[k]? = some x → H1[x.1]? = H[x.1]? := fun k x hx => o1 x.1 ((hP k x hx).lt)
  refine kk H.size H1 locs ls ((hP.kept hk).app (fun k x hx => ?_)) (hD.push hP rfl (hA _ hS.1)) ⟨Nat.le_trans hS.1 (by omega), fun x h1 h2 => (o1 x (Nat.lt_of_lt_of_le h1 hS.1)).trans (hS.2.1 x h1 h2), hS.2.2⟩ hl
  have hz : k < 1 := (List.getElem?_eq_some_iff.mp hx).1
  rw [show k = 0 by omega] at hx
  cases hx
  show H1[H.size]? = some (vp_cell _ _)
  rw [ha]
  exact e1
theorem y_new (hC : Cx l G cc own nL R D tys nm) {ci : Nat} {C : String} {T : u_T} {N : Nat} {ty : Nat → FieldType} {index : Nat} (hc : cC ci C T N ty) (hw1 : Cond.classLink own index C ∈ wsL_law) (hw2 : Cond.instantiable C N ∈ wsL_law) (hw3 : Cond.initialized C ∈ wsL_law) (fs : List Value) (hfs : ∀ j, j < N → defaultValue (ty j) = vp_V fs j) (hce : ce + 1 ≤ R.cells) (hsl : sl + N ≤ R.slots) (hdg : decode cc pc = .ok (.new index, 3)) (kk : ∀ q : Nat, G (ce + 1) (sl + N) (ws ++ [(q, .inr (ci, fs))]) (pc + 3) lv (.ref q :: st)) : G ce sl ws (pc) lv (st) := by
  obtain ⟨p, e, s, m, args, below, meth, c, A, Q, ⟨hx, hb, hml, hown, hts⟩, hK, hT, hA, hnm, hlk, rfl⟩ := hC
  intro H locs ls hP hD hS hl
  exact va_new hx hb hts hc.2.1 ty hc.2.2.1 hown (hts _ hw1) (hts _ hw2) (hts _ hw3) hK.1 hP hD hS hA hc.1 hfs hce hsl hdg (fun q H hP hD hS => kk q H locs ls hP hD hS hl)
theorem y_objInit (hC : Cx l G cc own nL R D tys nm) {index a : Nat} (hw1 : Cond.methodLink own index objectInit ∈ wsL_law) (hw2 : Cond.instanceMethod objectInit ∈ wsL_law) (hw3 : Cond.code objectInit ⟨#[0xb1]⟩ 1 none ∈ wsL_law) (hdg : decode cc pc = .ok (.invokespecial index, 3)) (hR : 1 ≤ R.frames) (hR2 : (st.map fun v => v.category).sum + 12 ≤ R.locals) (kk : G ce sl ws (pc + 3) lv (st)) : G ce sl ws (pc) lv (.ref a :: st) := by
  obtain ⟨p, e, s, m, args, below, meth, c, A, Q, ⟨hx, hb, hml, hown, hts⟩, hK, hT, hA, hnm, hlk, rfl⟩ := hC
  intro H locs ls hP hD hS hl
  exact W.objInit hx hb hown (hts _ hw1) (hts _ hw2) (hts _ hw3) rfl (by rw [hml]; exact hl.1) rfl hdg hR (by show 2 * 0 + _ + 12 ≤ _; omega) (W.eq (g2 := F0 m (pc + 3) ls st) rfl (kk H locs ls hP hD hS hl))
theorem mem_minc : Cond.code Lib.Math.min.name Lib.Math.min.code 2 (some .int) ∈ wsL_law := (inLr8 _ (List.mem_of_getElem? (i := 8) rfl))
theorem mem_mins : Cond.static Lib.Math.min.name ∈ wsL_law := (inLr8 _ (List.mem_of_getElem? (i := 6) rfl))
theorem mem_maxc : Cond.code Lib.Math.max.name Lib.Math.max.code 2 (some .int) ∈ wsL_law := (inLr8 _ (List.mem_of_getElem? (i := 11) rfl))
theorem mem_maxs : Cond.static Lib.Math.max.name ∈ wsL_law := (inLr8 _ (List.mem_of_getElem? (i := 10) rfl))
theorem mem_mathi : Cond.initialized "java/lang/Math" ∈ wsL_law := (inLr8 _ (List.mem_of_getElem? (i := 7) rfl))
theorem y_min (hC : Cx l G cc own nL R D tys nm) {index : Nat} {x y v : Int32} (hw : Cond.methodLink own index Lib.Math.min.name ∈ wsL_law) (hdg : decode cc pc = .ok (.invokestatic index, 3)) (hR : 1 ≤ R.frames) (hR2 : (st.map fun v => v.category).sum + 13 ≤ R.locals) (hc : ce ≤ R.cells) (hs : sl ≤ R.slots) (hv : (if y < x then y else x) = v) (kk : G ce sl ws (pc + 3) lv (.int v :: st)) : G ce sl ws (pc) lv (.int y :: .int x :: st) := by
  obtain ⟨p, e, s, m, args, below, meth, c, A, Q, ⟨hx, hb, hml, hown, hts⟩, hK, hT, hA, hnm, hlk, rfl⟩ := hC
  intro H locs ls hP hD hS hl
  subst hv; exact va_mmin hx hb (by rw [hml]; exact hl.1.symm) hown (hts _ hw) (hts _ mem_mins) (hts _ mem_mathi) (hts _ mem_minc) hR hR2 hc hs hdg (kk H locs ls hP hD hS hl)
theorem y_max (hC : Cx l G cc own nL R D tys nm) {index : Nat} {x y v : Int32} (hw : Cond.methodLink own index Lib.Math.max.name ∈ wsL_law) (hdg : decode cc pc = .ok (.invokestatic index, 3)) (hR : 1 ≤ R.frames) (hR2 : (st.map fun v => v.category).sum + 13 ≤ R.locals) (hc : ce ≤ R.cells) (hs : sl ≤ R.slots) (hv : (if x < y then y else x) = v) (kk : G ce sl ws (pc + 3) lv (.int v :: st)) : G ce sl ws (pc) lv (.int y :: .int x :: st) := by
  obtain ⟨p, e, s, m, args, below, meth, c, A, Q, ⟨hx, hb, hml, hown, hts⟩, hK, hT, hA, hnm, hlk, rfl⟩ := hC
  intro H locs ls hP hD hS hl
  subst hv; exact va_mmax hx hb (by rw [hml]; exact hl.1.symm) hown (hts _ hw) (hts _ mem_maxs) (hts _ mem_mathi) (hts _ mem_maxc) hR hR2 hc hs hdg (kk H locs ls hP hD hS hl)
/-- behind a call: the callee's world beside the rest, in a wanted order -/
theorem y_aft {A0 : Nat → Prop} {D : va_G} {ws wc wr w1 w2 : va_W} {H H1 : Heap} (hP : va_P D vwCl ws H) (hD : va_D A0 ws) (isC isR isB : List Nat) (hC : isC.map (fun i => ws[i]?) = wc.map some) (hR : isR.map (fun i => ws[i]?) = wr.map some) (hn : va_nd isR = true) (hdis : ∀ i ∈ isR, i ∉ isC)
    (hk : ∀ q : Nat, q < H.size → ¬ va_A wc H.size q → H1[q]? = H[q]?) (hF : ∀ q, va_A wc H.size q → A0 q) (hP1 : va_P D vwCl w1 H1) (hD1 : va_D (va_A wc H.size) w1) (hnB : va_nd isB = true) (hB : isB.map (fun i => (wr ++ w1)[i]?) = w2.map some) : va_P D vwCl w2 H1 ∧ va_D A0 w2 := by
  obtain ⟨h1, h2⟩ := va_join hP hD isC isR hC hR hn hdis hk hF hP1 hD1
  refine ⟨h1.sub isB ?_, h2.sub isB hnB hB⟩
  have h9 := congrArg (fun z : List (Option (Nat × va_E)) => z.filterMap id) hB
  simpa [List.filterMap_map, Function.comp_def] using h9
theorem y_preU {A0 : Nat → Prop} {D : va_G} {tys : List (ClassId × FieldType)} {s : State} {ws wc : va_W} {H : Heap} {locs : List Loc} (hK : gK D tys s) (hT : gT A0 s s.heap) (hP : va_P D vwCl ws H) (hD : va_D A0 ws) (hS : va_S A0 s.heap H locs) (isC : List Nat) (hC : isC.map (fun i => ws[i]?) = wc.map some) (hn : va_nd isC = true) (av : List Value) :
    ∀ U : State, U.heap = H → s.WarmedH U.vm → gPc av H.size D tys wc av.toArray U := by
  intro U hU hW
  have hPc : va_P D vwCl wc H := hP.sub isC (by
    have h9 := congrArg (fun z : List (Option (Nat × va_E)) => z.filterMap id) hC
    simpa [List.filterMap_map, Function.comp_def] using h9)
  have hDc : va_D A0 wc := hD.sub isC hn hC
  refine ⟨rfl, by rw [hU], by rw [hU]; exact hPc, hDc.weaken (fun _ _ _ _ => trivial), gK.warm hW hK, ?_⟩
  rw [hU]
  refine gT.re (A := A0) (fun q _ hq => ?_) (gT.moved hW.alike (hT.kept hS.2.1))
  obtain ⟨k, e, hk⟩ := hq
  exact hDc.2 k (q, e) hk
/-- a method's own words -/
def yV (y : MethodName) (C : String) (bytes : ByteArray) (maxL : Nat) (ret : Option FieldType) (n : Nat) : Prop :=
  Cond.instanceMethod y ∈ wsL_law ∧ Cond.selects C y y ∈ wsL_law ∧ Cond.initialized C ∈ wsL_law ∧ Cond.code y bytes maxL ret ∈ wsL_law ∧ (y.cls = C ∧ y.cls ≠ "java/lang/invoke/MethodHandle" ∧ y.cls ≠ "java/lang/invoke/VarHandle" ∧ (parseMethodDescriptor y.desc).map (fun d => d.parameters.length) = some n)
def yS (y : MethodName) (bytes : ByteArray) (maxL : Nat) (ret : Option FieldType) (n : Nat) : Prop :=
  Cond.static y ∈ wsL_law ∧ Cond.initialized y.cls ∈ wsL_law ∧ Cond.code y bytes maxL ret ∈ wsL_law ∧ (y.cls ≠ "java/lang/invoke/MethodHandle" ∧ y.cls ≠ "java/lang/invoke/VarHandle" ∧ (parseMethodDescriptor y.desc).map (fun d => d.parameters.length) = some n)
def yI (y : MethodName) (bytes : ByteArray) (maxL : Nat) (n : Nat) : Prop :=
  Cond.instanceMethod y ∈ wsL_law ∧ Cond.initialized y.cls ∈ wsL_law ∧ Cond.code y bytes maxL none ∈ wsL_law ∧ y.name = "<init>" ∧ (y.cls ≠ "java/lang/invoke/MethodHandle" ∧ y.cls ≠ "java/lang/invoke/VarHandle" ∧ (parseMethodDescriptor y.desc).map (fun d => d.parameters.length) = some n)
theorem mem_cc {w : Cond} {ws : List Cond} (h : w ∈ wsL_law) (h2 : ∀ w ∈ ws, w ∈ wsL_law) : ∀ w' ∈ w :: ws, w' ∈ wsL_law := fun w' h' => (List.mem_cons.mp h').elim (fun e => by rw [e]; exact h) (h2 w')
section YC
variable {p : Program} {e : Env} {s : State} {m : MethodId} {args : Array Value} {below : List Frame} {meth : Method} {c : Code} {A : Nat → Prop} {Q : State → Prop}
variable {y : MethodName} {bytes : ByteArray} {maxL n index : Nat} {ret : Option FieldType} {rm : Room} {C : String}
theorem y_cwV (hts : ∀ w ∈ wsL_law, w.before args s = true) (hY : yV y C bytes maxL ret n) (hl : Cond.methodLink own index y ∈ wsL_law) (hR : rm.frames + 1 ≤ R.frames ∧ 8 + (maxL + 11) + rm.locals ≤ R.locals) : CallW R s args own C index y bytes maxL ret (Cond.code y bytes maxL ret :: wsL_law) rm rm.cells rm.slots n :=
  cwV n hts (all_in (mem_cc hl (mem_cc hY.1 (mem_cc hY.2.1 (mem_cc hY.2.2.1 (mem_cc hY.2.2.2.1 (fun w h => h))))))) rfl rfl rfl hY.2.2.2.2 hR
theorem y_cwS (hts : ∀ w ∈ wsL_law, w.before args s = true) (hY : yS y bytes maxL ret n) (hl : Cond.methodLink own index y ∈ wsL_law) (hR : rm.frames + 1 ≤ R.frames ∧ 8 + (maxL + 11) + rm.locals ≤ R.locals) : CallB R s args own index y bytes maxL ret (Cond.code y bytes maxL ret :: wsL_law) rm rm.cells rm.slots n ∧ (Cond.static y).before args s = true :=
  va_cwS n hts (all_in (mem_cc hl (mem_cc hY.1 (mem_cc hY.2.1 (mem_cc hY.2.2.1 (fun w h => h)))))) rfl rfl rfl hY.2.2.2 hR
theorem y_cwI (hts : ∀ w ∈ wsL_law, w.before args s = true) (hY : yI y bytes maxL n) (hl : Cond.methodLink own index y ∈ wsL_law) (hR : rm.frames + 1 ≤ R.frames ∧ 8 + (maxL + 11) + rm.locals ≤ R.locals) : CallB R s args own index y bytes maxL none (Cond.code y bytes maxL none :: wsL_law) rm rm.cells rm.slots n ∧ y.name = "<init>" ∧ (Cond.instanceMethod y).before args s = true :=
  cwI n hts (all_in (mem_cc hY.2.2.1 (fun w h => h))) rfl rfl rfl (hts _ hY.2.1) (hts _ hl) (hts _ hY.1) hY.2.2.2.1 hY.2.2.2.2 hR
theorem y_cnB {host : String} (hts : ∀ w ∈ wsL_law, w.before args s = true) (hini : Cond.initialized y.cls ∈ wsL_law) (hcode : Cond.code y bytes maxL ret ∈ wsL_law) (hd : y.cls ≠ "java/lang/invoke/MethodHandle" ∧ y.cls ≠ "java/lang/invoke/VarHandle" ∧ (parseMethodDescriptor y.desc).map (fun d => d.parameters.length) = some n) (hl : va_Nw (.methodLinkNest own index y host) s) (hR : rm.frames + 1 ≤ R.frames ∧ 8 + (maxL + 11) + rm.locals ≤ R.locals) : va_CN R s args own index y host bytes maxL ret (Cond.code y bytes maxL ret :: wsL_law) rm rm.cells rm.slots n :=
  va_cnB n hts (all_in (mem_cc hcode (fun w h => h))) rfl rfl rfl hl (hts _ hini) hd hR
end YC
theorem y_callV_i (hC : Cx l G cc own nL R D tys nm) {y : MethodName} {bytes : ByteArray} {maxL n index : Nat} {ty : FieldType} {rm : Room} {As rest : List Value} {S : Type} {post : Int32 → S → Prop} {wf : S → va_W} {b : Nat} {C : String} {wc : va_W} (hM : MI l D tys y bytes maxL ty rm (.ref b :: As) wc post wf) (hY : yV y C bytes maxL (some ty) n) (hlk9 : Cond.methodLink own index y ∈ wsL_law) (isC isR isB : List Nat) (w2 : S → va_W) (hC9 : isC.map (fun i => ws[i]?) = wc.map some) (hR9 : isR.map (fun i => ws[i]?) = (isR.filterMap (fun i => ws[i]?)).map some) (hnC : va_nd isC = true) (hnR : va_nd isR = true) (hdis : ∀ i ∈ isR, i ∉ isC) (hnB : va_nd isB = true) (hB : ∀ u, isB.map (fun i => (isR.filterMap (fun i => ws[i]?) ++ wf u)[i]?) = (w2 u).map some) (kb : Nat) {ci : Nat} {fs : List Value} {T : u_T} {N : Nat} (hb0 : wc[kb]? = some (b, .inr (ci, fs))) (hci : vwCl[ci]? = some (C, T, N)) (hn : As.length = n) (hst : st = As.reverse ++ .ref b :: rest) (hcat : (rest.map fun v => v.category).sum ≤ 8) (hdg : decode cc pc = .ok (.invokevirtual index, 3)) (hR : rm.frames + 1 ≤ R.frames ∧ 8 + (maxL + 11) + rm.locals ≤ R.locals) (hf : ce + rm.cells ≤ R.cells ∧ sl + rm.slots ≤ R.slots) (kk : ∀ (r : Int32) (u : S), post r u → G (ce + rm.cells) (sl + rm.slots) (w2 u) (pc + 3) lv (.int r :: rest)) : G ce sl ws pc lv st := by
  obtain ⟨p, e, s, m, args, below, meth, c, A, Q, hfix, hK, hT, hA, hnm, hlk, rfl⟩ := hC
  obtain ⟨hx, hb, hml, hown, hts⟩ := id hfix
  intro H locs ls hP hD hS hl
  subst hst
  have hPc : va_P D vwCl wc H := hP.sub isC (by
    have h9 := congrArg (fun z : List (Option (Nat × va_E)) => z.filterMap id) hC9
    simpa [List.filterMap_map, Function.comp_def] using h9)
  have hFc := va_free (wc := wc) hD hS hA isC hC9
  refine va_calli (va_runV (As := As) (rest := rest) hfix (hM H.size) (y_cwV hts hY hlk9 hR) ⟨gPc_blind, va_recv hK.1 hPc hci hb0, y_preU hK hT hP hD hS isC hC9 hnC (.ref b :: As)⟩ rfl hn hl.1 rfl (lv_room hcat) hdg hf) hS (fun q _ h => hFc q h) hFc (fun r u t H1 locs ht hvm hw hB9 hz1 hk1 hS => ?_)
  obtain ⟨hP1, hD1⟩ := hB9
  rw [ht] at hP1
  obtain ⟨hP2, hD2⟩ := y_aft hP hD isC isR isB hC9 hR9 hnR hdis hk1 hFc hP1 hD1 hnB (hB u)
  exact kk r u hw H1 locs ls hP2 hD2 hS hl
theorem y_callS_i (hC : Cx l G cc own nL R D tys nm) {y : MethodName} {bytes : ByteArray} {maxL n index : Nat} {ty : FieldType} {rm : Room} {As rest : List Value} {S : Type} {post : Int32 → S → Prop} {wf : S → va_W} {wc : va_W} (hM : MI l D tys y bytes maxL ty rm As wc post wf) (hY : yS y bytes maxL (some ty) n) (hlk9 : Cond.methodLink own index y ∈ wsL_law) (isC isR isB : List Nat) (w2 : S → va_W) (hC9 : isC.map (fun i => ws[i]?) = wc.map some) (hR9 : isR.map (fun i => ws[i]?) = (isR.filterMap (fun i => ws[i]?)).map some) (hnC : va_nd isC = true) (hnR : va_nd isR = true) (hdis : ∀ i ∈ isR, i ∉ isC) (hnB : va_nd isB = true) (hB : ∀ u, isB.map (fun i => (isR.filterMap (fun i => ws[i]?) ++ wf u)[i]?) = (w2 u).map some)  (hn : As.length = n) (hst : st = As.reverse ++ rest) (hcat : (rest.map fun v => v.category).sum ≤ 8) (hdg : decode cc pc = .ok (.invokestatic index, 3)) (hR : rm.frames + 1 ≤ R.frames ∧ 8 + (maxL + 11) + rm.locals ≤ R.locals) (hf : ce + rm.cells ≤ R.cells ∧ sl + rm.slots ≤ R.slots) (kk : ∀ (r : Int32) (u : S), post r u → G (ce + rm.cells) (sl + rm.slots) (w2 u) (pc + 3) lv (.int r :: rest)) : G ce sl ws pc lv st := by
  obtain ⟨p, e, s, m, args, below, meth, c, A, Q, hfix, hK, hT, hA, hnm, hlk, rfl⟩ := hC
  obtain ⟨hx, hb, hml, hown, hts⟩ := id hfix
  intro H locs ls hP hD hS hl
  subst hst
  have hPc : va_P D vwCl wc H := hP.sub isC (by
    have h9 := congrArg (fun z : List (Option (Nat × va_E)) => z.filterMap id) hC9
    simpa [List.filterMap_map, Function.comp_def] using h9)
  have hFc := va_free (wc := wc) hD hS hA isC hC9
  refine va_calli (va_runS (As := As) (rest := rest) hfix (hM H.size) (y_cwS hts hY hlk9 hR) ⟨gPc_blind, y_preU hK hT hP hD hS isC hC9 hnC As⟩ rfl hn hl.1 rfl (lv_room hcat) hdg hf) hS (fun q _ h => hFc q h) hFc (fun r u t H1 locs ht hvm hw hB9 hz1 hk1 hS => ?_)
  obtain ⟨hP1, hD1⟩ := hB9
  rw [ht] at hP1
  obtain ⟨hP2, hD2⟩ := y_aft hP hD isC isR isB hC9 hR9 hnR hdis hk1 hFc hP1 hD1 hnB (hB u)
  exact kk r u hw H1 locs ls hP2 hD2 hS hl
theorem y_callNS_i (hC : Cx l G cc own nL R D tys nm) {y : MethodName} {bytes : ByteArray} {maxL n index : Nat} {ty : FieldType} {rm : Room} {As rest : List Value} {S : Type} {post : Int32 → S → Prop} {wf : S → va_W} {wc : va_W} (hM : MI l D tys y bytes maxL ty rm As wc post wf) (hY : yS y bytes maxL (some ty) n) (hnl : (own, index, y) ∈ nestL) (isC isR isB : List Nat) (w2 : S → va_W) (hC9 : isC.map (fun i => ws[i]?) = wc.map some) (hR9 : isR.map (fun i => ws[i]?) = (isR.filterMap (fun i => ws[i]?)).map some) (hnC : va_nd isC = true) (hnR : va_nd isR = true) (hdis : ∀ i ∈ isR, i ∉ isC) (hnB : va_nd isB = true) (hB : ∀ u, isB.map (fun i => (isR.filterMap (fun i => ws[i]?) ++ wf u)[i]?) = (w2 u).map some)  (hn : As.length = n) (hst : st = As.reverse ++ rest) (hcat : (rest.map fun v => v.category).sum ≤ 8) (hdg : decode cc pc = .ok (.invokestatic index, 3)) (hR : rm.frames + 1 ≤ R.frames ∧ 8 + (maxL + 11) + rm.locals ≤ R.locals) (hf : ce + rm.cells ≤ R.cells ∧ sl + rm.slots ≤ R.slots) (kk : ∀ (r : Int32) (u : S), post r u → G (ce + rm.cells) (sl + rm.slots) (w2 u) (pc + 3) lv (.int r :: rest)) : G ce sl ws pc lv st := by
  obtain ⟨p, e, s, m, args, below, meth, c, A, Q, hfix, hK, hT, hA, hnm, hlk, rfl⟩ := hC
  obtain ⟨hx, hb, hml, hown, hts⟩ := id hfix
  intro H locs ls hP hD hS hl
  subst hst
  have hPc : va_P D vwCl wc H := hP.sub isC (by
    have h9 := congrArg (fun z : List (Option (Nat × va_E)) => z.filterMap id) hC9
    simpa [List.filterMap_map, Function.comp_def] using h9)
  have hFc := va_free (wc := wc) hD hS hA isC hC9
  refine va_calli (va_runSN (As := As) (rest := rest) hfix (hM H.size) ⟨y_cnB hts hY.2.1 hY.2.2.1 hY.2.2.2 (hK.2.1 _ hnl) hR, hts _ hY.1, trivial⟩ ⟨gPc_blind, y_preU hK hT hP hD hS isC hC9 hnC As⟩ rfl hn hl.1 rfl (lv_room hcat) hdg hf) hS (fun q _ h => hFc q h) hFc (fun r u t H1 locs ht hvm hw hB9 hz1 hk1 hS => ?_)
  obtain ⟨hP1, hD1⟩ := hB9
  rw [ht] at hP1
  obtain ⟨hP2, hD2⟩ := y_aft hP hD isC isR isB hC9 hR9 hnR hdis hk1 hFc hP1 hD1 hnB (hB u)
  exact kk r u hw H1 locs ls hP2 hD2 hS hl
theorem y_callV_v (hC : Cx l G cc own nL R D tys nm) {y : MethodName} {bytes : ByteArray} {maxL n index : Nat} {rm : Room} {As rest : List Value} {S : Type} {post : S → Prop} {wf : S → va_W} {b : Nat} {C : String} {wc : va_W} (hM : MV l D tys y bytes maxL rm (.ref b :: As) wc post wf) (hY : yV y C bytes maxL none n) (hlk9 : Cond.methodLink own index y ∈ wsL_law) (isC isR isB : List Nat) (w2 : S → va_W) (hC9 : isC.map (fun i => ws[i]?) = wc.map some) (hR9 : isR.map (fun i => ws[i]?) = (isR.filterMap (fun i => ws[i]?)).map some) (hnC : va_nd isC = true) (hnR : va_nd isR = true) (hdis : ∀ i ∈ isR, i ∉ isC) (hnB : va_nd isB = true) (hB : ∀ u, isB.map (fun i => (isR.filterMap (fun i => ws[i]?) ++ wf u)[i]?) = (w2 u).map some) (kb : Nat) {ci : Nat} {fs : List Value} {T : u_T} {N : Nat} (hb0 : wc[kb]? = some (b, .inr (ci, fs))) (hci : vwCl[ci]? = some (C, T, N)) (hn : As.length = n) (hst : st = As.reverse ++ .ref b :: rest) (hcat : (rest.map fun v => v.category).sum ≤ 8) (hdg : decode cc pc = .ok (.invokevirtual index, 3)) (hR : rm.frames + 1 ≤ R.frames ∧ 8 + (maxL + 11) + rm.locals ≤ R.locals) (hf : ce + rm.cells ≤ R.cells ∧ sl + rm.slots ≤ R.slots) (kk : ∀ (u : S), post u → G (ce + rm.cells) (sl + rm.slots) (w2 u) (pc + 3) lv (rest)) : G ce sl ws pc lv st := by
  obtain ⟨p, e, s, m, args, below, meth, c, A, Q, hfix, hK, hT, hA, hnm, hlk, rfl⟩ := hC
  obtain ⟨hx, hb, hml, hown, hts⟩ := id hfix
  intro H locs ls hP hD hS hl
  subst hst
  have hPc : va_P D vwCl wc H := hP.sub isC (by
    have h9 := congrArg (fun z : List (Option (Nat × va_E)) => z.filterMap id) hC9
    simpa [List.filterMap_map, Function.comp_def] using h9)
  have hFc := va_free (wc := wc) hD hS hA isC hC9
  refine va_callv (va_runV (As := As) (rest := rest) hfix (hM H.size) (y_cwV hts hY hlk9 hR) ⟨gPc_blind, va_recv hK.1 hPc hci hb0, y_preU hK hT hP hD hS isC hC9 hnC (.ref b :: As)⟩ rfl hn hl.1 rfl (lv_room hcat) hdg hf) hS (fun q _ h => hFc q h) hFc (fun u t H1 locs ht hvm hw hB9 hz1 hk1 hS => ?_)
  obtain ⟨hP1, hD1⟩ := hB9
  rw [ht] at hP1
  obtain ⟨hP2, hD2⟩ := y_aft hP hD isC isR isB hC9 hR9 hnR hdis hk1 hFc hP1 hD1 hnB (hB u)
  exact kk u hw H1 locs ls hP2 hD2 hS hl
theorem y_callS_v (hC : Cx l G cc own nL R D tys nm) {y : MethodName} {bytes : ByteArray} {maxL n index : Nat} {rm : Room} {As rest : List Value} {S : Type} {post : S → Prop} {wf : S → va_W} {wc : va_W} (hM : MV l D tys y bytes maxL rm As wc post wf) (hY : yS y bytes maxL none n) (hlk9 : Cond.methodLink own index y ∈ wsL_law) (isC isR isB : List Nat) (w2 : S → va_W) (hC9 : isC.map (fun i => ws[i]?) = wc.map some) (hR9 : isR.map (fun i => ws[i]?) = (isR.filterMap (fun i => ws[i]?)).map some) (hnC : va_nd isC = true) (hnR : va_nd isR = true) (hdis : ∀ i ∈ isR, i ∉ isC) (hnB : va_nd isB = true) (hB : ∀ u, isB.map (fun i => (isR.filterMap (fun i => ws[i]?) ++ wf u)[i]?) = (w2 u).map some)  (hn : As.length = n) (hst : st = As.reverse ++ rest) (hcat : (rest.map fun v => v.category).sum ≤ 8) (hdg : decode cc pc = .ok (.invokestatic index, 3)) (hR : rm.frames + 1 ≤ R.frames ∧ 8 + (maxL + 11) + rm.locals ≤ R.locals) (hf : ce + rm.cells ≤ R.cells ∧ sl + rm.slots ≤ R.slots) (kk : ∀ (u : S), post u → G (ce + rm.cells) (sl + rm.slots) (w2 u) (pc + 3) lv (rest)) : G ce sl ws pc lv st := by
  obtain ⟨p, e, s, m, args, below, meth, c, A, Q, hfix, hK, hT, hA, hnm, hlk, rfl⟩ := hC
  obtain ⟨hx, hb, hml, hown, hts⟩ := id hfix
  intro H locs ls hP hD hS hl
  subst hst
  have hPc : va_P D vwCl wc H := hP.sub isC (by
    have h9 := congrArg (fun z : List (Option (Nat × va_E)) => z.filterMap id) hC9
    simpa [List.filterMap_map, Function.comp_def] using h9)
  have hFc := va_free (wc := wc) hD hS hA isC hC9
  refine va_callv (va_runS (As := As) (rest := rest) hfix (hM H.size) (y_cwS hts hY hlk9 hR) ⟨gPc_blind, y_preU hK hT hP hD hS isC hC9 hnC As⟩ rfl hn hl.1 rfl (lv_room hcat) hdg hf) hS (fun q _ h => hFc q h) hFc (fun u t H1 locs ht hvm hw hB9 hz1 hk1 hS => ?_)
  obtain ⟨hP1, hD1⟩ := hB9
  rw [ht] at hP1
  obtain ⟨hP2, hD2⟩ := y_aft hP hD isC isR isB hC9 hR9 hnR hdis hk1 hFc hP1 hD1 hnB (hB u)
  exact kk u hw H1 locs ls hP2 hD2 hS hl
theorem y_callI_v (hC : Cx l G cc own nL R D tys nm) {y : MethodName} {bytes : ByteArray} {maxL n index : Nat} {rm : Room} {As rest : List Value} {S : Type} {post : S → Prop} {wf : S → va_W} {b : Nat} {wc : va_W} (hM : MV l D tys y bytes maxL rm (.ref b :: As) wc post wf) (hY : yI y bytes maxL n) (hlk9 : Cond.methodLink own index y ∈ wsL_law) (isC isR isB : List Nat) (w2 : S → va_W) (hC9 : isC.map (fun i => ws[i]?) = wc.map some) (hR9 : isR.map (fun i => ws[i]?) = (isR.filterMap (fun i => ws[i]?)).map some) (hnC : va_nd isC = true) (hnR : va_nd isR = true) (hdis : ∀ i ∈ isR, i ∉ isC) (hnB : va_nd isB = true) (hB : ∀ u, isB.map (fun i => (isR.filterMap (fun i => ws[i]?) ++ wf u)[i]?) = (w2 u).map some)  (hn : As.length = n) (hst : st = As.reverse ++ .ref b :: rest) (hcat : (rest.map fun v => v.category).sum ≤ 8) (hdg : decode cc pc = .ok (.invokespecial index, 3)) (hR : rm.frames + 1 ≤ R.frames ∧ 8 + (maxL + 11) + rm.locals ≤ R.locals) (hf : ce + rm.cells ≤ R.cells ∧ sl + rm.slots ≤ R.slots) (kk : ∀ (u : S), post u → G (ce + rm.cells) (sl + rm.slots) (w2 u) (pc + 3) lv (rest)) : G ce sl ws pc lv st := by
  obtain ⟨p, e, s, m, args, below, meth, c, A, Q, hfix, hK, hT, hA, hnm, hlk, rfl⟩ := hC
  obtain ⟨hx, hb, hml, hown, hts⟩ := id hfix
  intro H locs ls hP hD hS hl
  subst hst
  have hPc : va_P D vwCl wc H := hP.sub isC (by
    have h9 := congrArg (fun z : List (Option (Nat × va_E)) => z.filterMap id) hC9
    simpa [List.filterMap_map, Function.comp_def] using h9)
  have hFc := va_free (wc := wc) hD hS hA isC hC9
  refine va_callv (va_runI (As := As) (rest := rest) hfix (hM H.size) (y_cwI hts hY hlk9 hR) ⟨gPc_blind, y_preU hK hT hP hD hS isC hC9 hnC (.ref b :: As)⟩ rfl hn hl.1 rfl (lv_room hcat) hdg hf) hS (fun q _ h => hFc q h) hFc (fun u t H1 locs ht hvm hw hB9 hz1 hk1 hS => ?_)
  obtain ⟨hP1, hD1⟩ := hB9
  rw [ht] at hP1
  obtain ⟨hP2, hD2⟩ := y_aft hP hD isC isR isB hC9 hR9 hnR hdis hk1 hFc hP1 hD1 hnB (hB u)
  exact kk u hw H1 locs ls hP2 hD2 hS hl
theorem y_callNI_v (hC : Cx l G cc own nL R D tys nm) {y : MethodName} {bytes : ByteArray} {maxL n index : Nat} {rm : Room} {As rest : List Value} {S : Type} {post : S → Prop} {wf : S → va_W} {b : Nat} {wc : va_W} (hM : MV l D tys y bytes maxL rm (.ref b :: As) wc post wf) (hY : yI y bytes maxL n) (hnl : (own, index, y) ∈ nestL) (isC isR isB : List Nat) (w2 : S → va_W) (hC9 : isC.map (fun i => ws[i]?) = wc.map some) (hR9 : isR.map (fun i => ws[i]?) = (isR.filterMap (fun i => ws[i]?)).map some) (hnC : va_nd isC = true) (hnR : va_nd isR = true) (hdis : ∀ i ∈ isR, i ∉ isC) (hnB : va_nd isB = true) (hB : ∀ u, isB.map (fun i => (isR.filterMap (fun i => ws[i]?) ++ wf u)[i]?) = (w2 u).map some)  (hn : As.length = n) (hst : st = As.reverse ++ .ref b :: rest) (hcat : (rest.map fun v => v.category).sum ≤ 8) (hdg : decode cc pc = .ok (.invokespecial index, 3)) (hR : rm.frames + 1 ≤ R.frames ∧ 8 + (maxL + 11) + rm.locals ≤ R.locals) (hf : ce + rm.cells ≤ R.cells ∧ sl + rm.slots ≤ R.slots) (kk : ∀ (u : S), post u → G (ce + rm.cells) (sl + rm.slots) (w2 u) (pc + 3) lv (rest)) : G ce sl ws pc lv st := by
  obtain ⟨p, e, s, m, args, below, meth, c, A, Q, hfix, hK, hT, hA, hnm, hlk, rfl⟩ := hC
  obtain ⟨hx, hb, hml, hown, hts⟩ := id hfix
  intro H locs ls hP hD hS hl
  subst hst
  have hPc : va_P D vwCl wc H := hP.sub isC (by
    have h9 := congrArg (fun z : List (Option (Nat × va_E)) => z.filterMap id) hC9
    simpa [List.filterMap_map, Function.comp_def] using h9)
  have hFc := va_free (wc := wc) hD hS hA isC hC9
  refine va_callv (va_runIN (As := As) (rest := rest) hfix (hM H.size) ⟨y_cnB hts hY.2.1 hY.2.2.1 hY.2.2.2.2 (hK.2.1 _ hnl) hR, hY.2.2.2.1, hts _ hY.1⟩ ⟨gPc_blind, y_preU hK hT hP hD hS isC hC9 hnC (.ref b :: As)⟩ rfl hn hl.1 rfl (lv_room hcat) hdg hf) hS (fun q _ h => hFc q h) hFc (fun u t H1 locs ht hvm hw hB9 hz1 hk1 hS => ?_)
  obtain ⟨hP1, hD1⟩ := hB9
  rw [ht] at hP1
  obtain ⟨hP2, hD2⟩ := y_aft hP hD isC isR isB hC9 hR9 hnR hdis hk1 hFc hP1 hD1 hnB (hB u)
  exact kk u hw H1 locs ls hP2 hD2 hS hl
theorem y_callV_l (hC : Cx l G cc own nL R D tys nm) {y : MethodName} {bytes : ByteArray} {maxL n index : Nat} {rm : Room} {As rest : List Value} {S : Type} {post : Int64 → S → Prop} {wf : S → va_W} {b : Nat} {C : String} {wc : va_W} (hM : ML l D tys y bytes maxL rm (.ref b :: As) wc post wf) (hY : yV y C bytes maxL (some .long) n) (hlk9 : Cond.methodLink own index y ∈ wsL_law) (isC isR isB : List Nat) (w2 : S → va_W) (hC9 : isC.map (fun i => ws[i]?) = wc.map some) (hR9 : isR.map (fun i => ws[i]?) = (isR.filterMap (fun i => ws[i]?)).map some) (hnC : va_nd isC = true) (hnR : va_nd isR = true) (hdis : ∀ i ∈ isR, i ∉ isC) (hnB : va_nd isB = true) (hB : ∀ u, isB.map (fun i => (isR.filterMap (fun i => ws[i]?) ++ wf u)[i]?) = (w2 u).map some) (kb : Nat) {ci : Nat} {fs : List Value} {T : u_T} {N : Nat} (hb0 : wc[kb]? = some (b, .inr (ci, fs))) (hci : vwCl[ci]? = some (C, T, N)) (hn : As.length = n) (hst : st = As.reverse ++ .ref b :: rest) (hcat : (rest.map fun v => v.category).sum ≤ 8) (hdg : decode cc pc = .ok (.invokevirtual index, 3)) (hR : rm.frames + 1 ≤ R.frames ∧ 8 + (maxL + 11) + rm.locals ≤ R.locals) (hf : ce + rm.cells ≤ R.cells ∧ sl + rm.slots ≤ R.slots) (kk : ∀ (r : Int64) (u : S), post r u → G (ce + rm.cells) (sl + rm.slots) (w2 u) (pc + 3) lv (.long r :: rest)) : G ce sl ws pc lv st := by
  obtain ⟨p, e, s, m, args, below, meth, c, A, Q, hfix, hK, hT, hA, hnm, hlk, rfl⟩ := hC
  obtain ⟨hx, hb, hml, hown, hts⟩ := id hfix
  intro H locs ls hP hD hS hl
  subst hst
  have hPc : va_P D vwCl wc H := hP.sub isC (by
    have h9 := congrArg (fun z : List (Option (Nat × va_E)) => z.filterMap id) hC9
    simpa [List.filterMap_map, Function.comp_def] using h9)
  have hFc := va_free (wc := wc) hD hS hA isC hC9
  refine va_calll (va_runV (As := As) (rest := rest) hfix (hM H.size) (y_cwV hts hY hlk9 hR) ⟨gPc_blind, va_recv hK.1 hPc hci hb0, y_preU hK hT hP hD hS isC hC9 hnC (.ref b :: As)⟩ rfl hn hl.1 rfl (lv_room hcat) hdg hf) hS (fun q _ h => hFc q h) hFc (fun r u t H1 locs ht hvm hw hB9 hz1 hk1 hS => ?_)
  obtain ⟨hP1, hD1⟩ := hB9
  rw [ht] at hP1
  obtain ⟨hP2, hD2⟩ := y_aft hP hD isC isR isB hC9 hR9 hnR hdis hk1 hFc hP1 hD1 hnB (hB u)
  exact kk r u hw H1 locs ls hP2 hD2 hS hl
theorem y_callS_l (hC : Cx l G cc own nL R D tys nm) {y : MethodName} {bytes : ByteArray} {maxL n index : Nat} {rm : Room} {As rest : List Value} {S : Type} {post : Int64 → S → Prop} {wf : S → va_W} {wc : va_W} (hM : ML l D tys y bytes maxL rm As wc post wf) (hY : yS y bytes maxL (some .long) n) (hlk9 : Cond.methodLink own index y ∈ wsL_law) (isC isR isB : List Nat) (w2 : S → va_W) (hC9 : isC.map (fun i => ws[i]?) = wc.map some) (hR9 : isR.map (fun i => ws[i]?) = (isR.filterMap (fun i => ws[i]?)).map some) (hnC : va_nd isC = true) (hnR : va_nd isR = true) (hdis : ∀ i ∈ isR, i ∉ isC) (hnB : va_nd isB = true) (hB : ∀ u, isB.map (fun i => (isR.filterMap (fun i => ws[i]?) ++ wf u)[i]?) = (w2 u).map some)  (hn : As.length = n) (hst : st = As.reverse ++ rest) (hcat : (rest.map fun v => v.category).sum ≤ 8) (hdg : decode cc pc = .ok (.invokestatic index, 3)) (hR : rm.frames + 1 ≤ R.frames ∧ 8 + (maxL + 11) + rm.locals ≤ R.locals) (hf : ce + rm.cells ≤ R.cells ∧ sl + rm.slots ≤ R.slots) (kk : ∀ (r : Int64) (u : S), post r u → G (ce + rm.cells) (sl + rm.slots) (w2 u) (pc + 3) lv (.long r :: rest)) : G ce sl ws pc lv st := by
  obtain ⟨p, e, s, m, args, below, meth, c, A, Q, hfix, hK, hT, hA, hnm, hlk, rfl⟩ := hC
  obtain ⟨hx, hb, hml, hown, hts⟩ := id hfix
  intro H locs ls hP hD hS hl
  subst hst
  have hPc : va_P D vwCl wc H := hP.sub isC (by
    have h9 := congrArg (fun z : List (Option (Nat × va_E)) => z.filterMap id) hC9
    simpa [List.filterMap_map, Function.comp_def] using h9)
  have hFc := va_free (wc := wc) hD hS hA isC hC9
  refine va_calll (va_runS (As := As) (rest := rest) hfix (hM H.size) (y_cwS hts hY hlk9 hR) ⟨gPc_blind, y_preU hK hT hP hD hS isC hC9 hnC As⟩ rfl hn hl.1 rfl (lv_room hcat) hdg hf) hS (fun q _ h => hFc q h) hFc (fun r u t H1 locs ht hvm hw hB9 hz1 hk1 hS => ?_)
  obtain ⟨hP1, hD1⟩ := hB9
  rw [ht] at hP1
  obtain ⟨hP2, hD2⟩ := y_aft hP hD isC isR isB hC9 hR9 hnR hdis hk1 hFc hP1 hD1 hnB (hB u)
  exact kk r u hw H1 locs ls hP2 hD2 hS hl
theorem y_callV_d (hC : Cx l G cc own nL R D tys nm) {y : MethodName} {bytes : ByteArray} {maxL n index : Nat} {rm : Room} {As rest : List Value} {S : Type} {post : UInt64 → S → Prop} {wf : S → va_W} {b : Nat} {C : String} {wc : va_W} (hM : MF l D tys y bytes maxL rm (.ref b :: As) wc post wf) (hY : yV y C bytes maxL (some .double) n) (hlk9 : Cond.methodLink own index y ∈ wsL_law) (isC isR isB : List Nat) (w2 : S → va_W) (hC9 : isC.map (fun i => ws[i]?) = wc.map some) (hR9 : isR.map (fun i => ws[i]?) = (isR.filterMap (fun i => ws[i]?)).map some) (hnC : va_nd isC = true) (hnR : va_nd isR = true) (hdis : ∀ i ∈ isR, i ∉ isC) (hnB : va_nd isB = true) (hB : ∀ u, isB.map (fun i => (isR.filterMap (fun i => ws[i]?) ++ wf u)[i]?) = (w2 u).map some) (kb : Nat) {ci : Nat} {fs : List Value} {T : u_T} {N : Nat} (hb0 : wc[kb]? = some (b, .inr (ci, fs))) (hci : vwCl[ci]? = some (C, T, N)) (hn : As.length = n) (hst : st = As.reverse ++ .ref b :: rest) (hcat : (rest.map fun v => v.category).sum ≤ 8) (hdg : decode cc pc = .ok (.invokevirtual index, 3)) (hR : rm.frames + 1 ≤ R.frames ∧ 8 + (maxL + 11) + rm.locals ≤ R.locals) (hf : ce + rm.cells ≤ R.cells ∧ sl + rm.slots ≤ R.slots) (kk : ∀ (r : UInt64) (u : S), post r u → G (ce + rm.cells) (sl + rm.slots) (w2 u) (pc + 3) lv (.double r :: rest)) : G ce sl ws pc lv st := by
  obtain ⟨p, e, s, m, args, below, meth, c, A, Q, hfix, hK, hT, hA, hnm, hlk, rfl⟩ := hC
  obtain ⟨hx, hb, hml, hown, hts⟩ := id hfix
  intro H locs ls hP hD hS hl
  subst hst
  have hPc : va_P D vwCl wc H := hP.sub isC (by
    have h9 := congrArg (fun z : List (Option (Nat × va_E)) => z.filterMap id) hC9
    simpa [List.filterMap_map, Function.comp_def] using h9)
  have hFc := va_free (wc := wc) hD hS hA isC hC9
  refine va_calld (va_runV (As := As) (rest := rest) hfix (hM H.size) (y_cwV hts hY hlk9 hR) ⟨gPc_blind, va_recv hK.1 hPc hci hb0, y_preU hK hT hP hD hS isC hC9 hnC (.ref b :: As)⟩ rfl hn hl.1 rfl (lv_room hcat) hdg hf) hS (fun q _ h => hFc q h) hFc (fun r u t H1 locs ht hvm hw hB9 hz1 hk1 hS => ?_)
  obtain ⟨hP1, hD1⟩ := hB9
  rw [ht] at hP1
  obtain ⟨hP2, hD2⟩ := y_aft hP hD isC isR isB hC9 hR9 hnR hdis hk1 hFc hP1 hD1 hnB (hB u)
  exact kk r u hw H1 locs ls hP2 hD2 hS hl
theorem y_callS_d (hC : Cx l G cc own nL R D tys nm) {y : MethodName} {bytes : ByteArray} {maxL n index : Nat} {rm : Room} {As rest : List Value} {S : Type} {post : UInt64 → S → Prop} {wf : S → va_W} {wc : va_W} (hM : MF l D tys y bytes maxL rm As wc post wf) (hY : yS y bytes maxL (some .double) n) (hlk9 : Cond.methodLink own index y ∈ wsL_law) (isC isR isB : List Nat) (w2 : S → va_W) (hC9 : isC.map (fun i => ws[i]?) = wc.map some) (hR9 : isR.map (fun i => ws[i]?) = (isR.filterMap (fun i => ws[i]?)).map some) (hnC : va_nd isC = true) (hnR : va_nd isR = true) (hdis : ∀ i ∈ isR, i ∉ isC) (hnB : va_nd isB = true) (hB : ∀ u, isB.map (fun i => (isR.filterMap (fun i => ws[i]?) ++ wf u)[i]?) = (w2 u).map some)  (hn : As.length = n) (hst : st = As.reverse ++ rest) (hcat : (rest.map fun v => v.category).sum ≤ 8) (hdg : decode cc pc = .ok (.invokestatic index, 3)) (hR : rm.frames + 1 ≤ R.frames ∧ 8 + (maxL + 11) + rm.locals ≤ R.locals) (hf : ce + rm.cells ≤ R.cells ∧ sl + rm.slots ≤ R.slots) (kk : ∀ (r : UInt64) (u : S), post r u → G (ce + rm.cells) (sl + rm.slots) (w2 u) (pc + 3) lv (.double r :: rest)) : G ce sl ws pc lv st := by
  obtain ⟨p, e, s, m, args, below, meth, c, A, Q, hfix, hK, hT, hA, hnm, hlk, rfl⟩ := hC
  obtain ⟨hx, hb, hml, hown, hts⟩ := id hfix
  intro H locs ls hP hD hS hl
  subst hst
  have hPc : va_P D vwCl wc H := hP.sub isC (by
    have h9 := congrArg (fun z : List (Option (Nat × va_E)) => z.filterMap id) hC9
    simpa [List.filterMap_map, Function.comp_def] using h9)
  have hFc := va_free (wc := wc) hD hS hA isC hC9
  refine va_calld (va_runS (As := As) (rest := rest) hfix (hM H.size) (y_cwS hts hY hlk9 hR) ⟨gPc_blind, y_preU hK hT hP hD hS isC hC9 hnC As⟩ rfl hn hl.1 rfl (lv_room hcat) hdg hf) hS (fun q _ h => hFc q h) hFc (fun r u t H1 locs ht hvm hw hB9 hz1 hk1 hS => ?_)
  obtain ⟨hP1, hD1⟩ := hB9
  rw [ht] at hP1
  obtain ⟨hP2, hD2⟩ := y_aft hP hD isC isR isB hC9 hR9 hnR hdis hk1 hFc hP1 hD1 hnB (hB u)
  exact kk r u hw H1 locs ls hP2 hD2 hS hl
set_option maxHeartbeats 1000000 in
theorem MI.of {y : MethodName} {maxL : Nat} {ty : FieldType} {rm : Room} {av : List Value} {S : Type} {post : Int32 → S → Prop} {wf : S → va_W} (hy : plainName y.cls = true) (hav : (lg_sl av).length ≤ maxL)
    (body : ∀ G : GT, Cx l G cc y.cls maxL rm D tys y.name → (∀ (r : Int32) (u : S) (ce sl pc : Nat) (lv : List (Nat × Value)), decode cc pc = .ok (.ireturn, 1) → ce ≤ rm.cells → sl ≤ rm.slots → narrow ty (.int r) = .int r → post r u → G ce sl (wf u) pc lv [.int r]) → G 0 0 ws 0 (lv_args 0 av) []) : MI l D tys y cc maxL ty rm av ws post wf := by
  intro sz
  refine Met.ofW (cc := cc) (maxL := maxL) (ret := (some ty)) hy rfl ?_
  intro p e s m args below meth c s₁ B hml hv
  obtain ⟨rfl, hsz, hP, hD0, hK, hT⟩ := hv
  subst hsz
  have hD := hD0.self (sz := s.heap.size)
  have hA : ∀ q : Nat, s.heap.size ≤ q → va_A ws s.heap.size q := fun q h => Or.inr h
  have hT9 : gT (va_A ws s.heap.size) s s.heap := hT.re (fun q hq h => h.elim id (fun h => absurd hq (Nat.not_lt.mpr h)))
  have hts0 := atoms_spec (ws := Cond.code y cc maxL (some ty) :: wsL_law) B.pre
  have hts : ∀ w ∈ wsL_law, w.before av.toArray s = true := fun w h => hts0 w (List.mem_cons_of_mem _ h)
  have hl := lv_entry av (n := maxL) hav
  rw [lg_entry_eq]
  refine body (Y p l e rm s m av.toArray below meth c (va_A ws s.heap.size) D maxL (MQ below (va_Qi post (gB D (va_A ws s.heap.size) wf) (va_A ws s.heap.size)) av.toArray s rm.cells rm.slots (va_A ws s.heap.size))) ⟨p, e, s, m, av.toArray, below, meth, c, va_A ws s.heap.size, _, ⟨B.exec, B.bytes, hml, findClass_of_methodNamed B.named, hts⟩, hK, hT9, hA, (name_of_methodNamed B.named B.method).1, B.notSynchronized, rfl⟩ ?_ s.heap [] _ hP hD va_S.rf hl
  intro r u ce sl pc lv hdg h1 h2 hn hp H locs ls hP hD hS hl
  refine W.widen h1 h2 ?_
  exact W.zret (v := r) (ty := ty) B.exec B.bytes B.returns hn (fun t ht hW => ⟨⟨r, u, rfl, hp, by rw [ht]; exact hP, hD⟩, hS.F ht⟩) hS.2.2 hdg
set_option maxHeartbeats 1000000 in
theorem MV.of {y : MethodName} {maxL : Nat} {rm : Room} {av : List Value} {S : Type} {post : S → Prop} {wf : S → va_W} (hy : plainName y.cls = true) (hav : (lg_sl av).length ≤ maxL)
    (body : ∀ G : GT, Cx l G cc y.cls maxL rm D tys y.name → (∀ (u : S) (ce sl pc : Nat) (lv : List (Nat × Value)), decode cc pc = .ok (.return_, 1) → ce ≤ rm.cells → sl ≤ rm.slots → post u → G ce sl (wf u) pc lv []) → G 0 0 ws 0 (lv_args 0 av) []) : MV l D tys y cc maxL rm av ws post wf := by
  intro sz
  refine Met.ofW (cc := cc) (maxL := maxL) (ret := none) hy rfl ?_
  intro p e s m args below meth c s₁ B hml hv
  obtain ⟨rfl, hsz, hP, hD0, hK, hT⟩ := hv
  subst hsz
  have hD := hD0.self (sz := s.heap.size)
  have hA : ∀ q : Nat, s.heap.size ≤ q → va_A ws s.heap.size q := fun q h => Or.inr h
  have hT9 : gT (va_A ws s.heap.size) s s.heap := hT.re (fun q hq h => h.elim id (fun h => absurd hq (Nat.not_lt.mpr h)))
  have hts0 := atoms_spec (ws := Cond.code y cc maxL none :: wsL_law) B.pre
  have hts : ∀ w ∈ wsL_law, w.before av.toArray s = true := fun w h => hts0 w (List.mem_cons_of_mem _ h)
  have hl := lv_entry av (n := maxL) hav
  rw [lg_entry_eq]
  refine body (Y p l e rm s m av.toArray below meth c (va_A ws s.heap.size) D maxL (MQ below (va_Qv post (gB D (va_A ws s.heap.size) wf) (va_A ws s.heap.size)) av.toArray s rm.cells rm.slots (va_A ws s.heap.size))) ⟨p, e, s, m, av.toArray, below, meth, c, va_A ws s.heap.size, _, ⟨B.exec, B.bytes, hml, findClass_of_methodNamed B.named, hts⟩, hK, hT9, hA, (name_of_methodNamed B.named B.method).1, B.notSynchronized, rfl⟩ ?_ s.heap [] _ hP hD va_S.rf hl
  intro u ce sl pc lv hdg h1 h2 hp H locs ls hP hD hS hl
  refine W.widen h1 h2 ?_
  exact W.vret B.exec B.bytes B.returns (fun t ht hW => ⟨⟨u, rfl, hp, by rw [ht]; exact hP, hD⟩, hS.F ht⟩) hS.2.2 hdg
set_option maxHeartbeats 1000000 in
theorem ML.of {y : MethodName} {maxL : Nat} {rm : Room} {av : List Value} {S : Type} {post : Int64 → S → Prop} {wf : S → va_W} (hy : plainName y.cls = true) (hav : (lg_sl av).length ≤ maxL)
    (body : ∀ G : GT, Cx l G cc y.cls maxL rm D tys y.name → (∀ (r : Int64) (u : S) (ce sl pc : Nat) (lv : List (Nat × Value)), decode cc pc = .ok (.lreturn, 1) → ce ≤ rm.cells → sl ≤ rm.slots → post r u → G ce sl (wf u) pc lv [.long r]) → G 0 0 ws 0 (lv_args 0 av) []) : ML l D tys y cc maxL rm av ws post wf := by
  intro sz
  refine Met.ofW (cc := cc) (maxL := maxL) (ret := (some .long)) hy rfl ?_
  intro p e s m args below meth c s₁ B hml hv
  obtain ⟨rfl, hsz, hP, hD0, hK, hT⟩ := hv
  subst hsz
  have hD := hD0.self (sz := s.heap.size)
  have hA : ∀ q : Nat, s.heap.size ≤ q → va_A ws s.heap.size q := fun q h => Or.inr h
  have hT9 : gT (va_A ws s.heap.size) s s.heap := hT.re (fun q hq h => h.elim id (fun h => absurd hq (Nat.not_lt.mpr h)))
  have hts0 := atoms_spec (ws := Cond.code y cc maxL (some .long) :: wsL_law) B.pre
  have hts : ∀ w ∈ wsL_law, w.before av.toArray s = true := fun w h => hts0 w (List.mem_cons_of_mem _ h)
  have hl := lv_entry av (n := maxL) hav
  rw [lg_entry_eq]
  refine body (Y p l e rm s m av.toArray below meth c (va_A ws s.heap.size) D maxL (MQ below (va_Ql post (gB D (va_A ws s.heap.size) wf) (va_A ws s.heap.size)) av.toArray s rm.cells rm.slots (va_A ws s.heap.size))) ⟨p, e, s, m, av.toArray, below, meth, c, va_A ws s.heap.size, _, ⟨B.exec, B.bytes, hml, findClass_of_methodNamed B.named, hts⟩, hK, hT9, hA, (name_of_methodNamed B.named B.method).1, B.notSynchronized, rfl⟩ ?_ s.heap [] _ hP hD va_S.rf hl
  intro r u ce sl pc lv hdg h1 h2 hp H locs ls hP hD hS hl
  refine W.widen h1 h2 ?_
  exact W.lret (v := r) B.exec B.bytes B.returns (fun t ht hW => ⟨⟨r, u, rfl, hp, by rw [ht]; exact hP, hD⟩, hS.F ht⟩) hS.2.2 hdg
set_option maxHeartbeats 1000000 in
theorem MF.of {y : MethodName} {maxL : Nat} {rm : Room} {av : List Value} {S : Type} {post : UInt64 → S → Prop} {wf : S → va_W} (hy : plainName y.cls = true) (hav : (lg_sl av).length ≤ maxL)
    (body : ∀ G : GT, Cx l G cc y.cls maxL rm D tys y.name → (∀ (r : UInt64) (u : S) (ce sl pc : Nat) (lv : List (Nat × Value)), decode cc pc = .ok (.dreturn, 1) → ce ≤ rm.cells → sl ≤ rm.slots → post r u → G ce sl (wf u) pc lv [.double r]) → G 0 0 ws 0 (lv_args 0 av) []) : MF l D tys y cc maxL rm av ws post wf := by
  intro sz
  refine Met.ofW (cc := cc) (maxL := maxL) (ret := (some .double)) hy rfl ?_
  intro p e s m args below meth c s₁ B hml hv
  obtain ⟨rfl, hsz, hP, hD0, hK, hT⟩ := hv
  subst hsz
  have hD := hD0.self (sz := s.heap.size)
  have hA : ∀ q : Nat, s.heap.size ≤ q → va_A ws s.heap.size q := fun q h => Or.inr h
  have hT9 : gT (va_A ws s.heap.size) s s.heap := hT.re (fun q hq h => h.elim id (fun h => absurd hq (Nat.not_lt.mpr h)))
  have hts0 := atoms_spec (ws := Cond.code y cc maxL (some .double) :: wsL_law) B.pre
  have hts : ∀ w ∈ wsL_law, w.before av.toArray s = true := fun w h => hts0 w (List.mem_cons_of_mem _ h)
  have hl := lv_entry av (n := maxL) hav
  rw [lg_entry_eq]
  refine body (Y p l e rm s m av.toArray below meth c (va_A ws s.heap.size) D maxL (MQ below (va_Qd post (gB D (va_A ws s.heap.size) wf) (va_A ws s.heap.size)) av.toArray s rm.cells rm.slots (va_A ws s.heap.size))) ⟨p, e, s, m, av.toArray, below, meth, c, va_A ws s.heap.size, _, ⟨B.exec, B.bytes, hml, findClass_of_methodNamed B.named, hts⟩, hK, hT9, hA, (name_of_methodNamed B.named B.method).1, B.notSynchronized, rfl⟩ ?_ s.heap [] _ hP hD va_S.rf hl
  intro r u ce sl pc lv hdg h1 h2 hp H locs ls hP hD hS hl
  refine W.widen h1 h2 ?_
  exact W.dret (v := r) B.exec B.bytes B.returns (fun t ht hW => ⟨⟨r, u, rfl, hp, by rw [ht]; exact hP, hD⟩, hS.F ht⟩) hS.2.2 hdg (hlocks := B.notSynchronized)
end YL
section YN
variable {l : Launch} {G : GT} {cc : ByteArray} {own : String} {nL : Nat} {R : Room} {D : va_G} {tys : List (ClassId × FieldType)} {nm : String}
variable {ce sl : Nat} {ws : va_W} {pc : Nat} {lv : List (Nat × Value)} {st : List Value}
theorem ninc (a : Nat) : nI a + Int32.ofInt 1 = nI (a + 1) := nI_1 a
theorem ndec {a : Nat} (h : 1 ≤ a) : nI a + Int32.ofInt (-1) = nI (a - 1) := by
  obtain ⟨b, rfl⟩ : ∃ b, a = b + 1 := ⟨a - 1, by omega⟩
  exact pk_m1 b
theorem y_icmp_eq_n (hC : Cx l G cc own nL R D tys nm) {x y : Int32} {off : Int} (tgt : Nat) (hdg : decode cc pc = .ok (.if_icmp .eq off, 3)) (ht : (pc : Int) + off = (tgt : Int)) (a b : Nat) (hx : x = nI a) (hy : y = nI b) (ha : a < 2 ^ 31) (hb : b < 2 ^ 31) (kt : a = b → G ce sl ws tgt lv st) (kf : a ≠ b → G ce sl ws (pc + 3) lv st) : G ce sl ws pc lv (.int y :: .int x :: st) := by
  subst hx; subst hy
  exact y_icmp_eq hC tgt hdg ht (fun h => kt ((nI_eq ha hb).mp h)) (fun h => kf (fun q => h ((nI_eq ha hb).mpr q)))
theorem y_icmp_ne_n (hC : Cx l G cc own nL R D tys nm) {x y : Int32} {off : Int} (tgt : Nat) (hdg : decode cc pc = .ok (.if_icmp .ne off, 3)) (ht : (pc : Int) + off = (tgt : Int)) (a b : Nat) (hx : x = nI a) (hy : y = nI b) (ha : a < 2 ^ 31) (hb : b < 2 ^ 31) (kt : a ≠ b → G ce sl ws tgt lv st) (kf : a = b → G ce sl ws (pc + 3) lv st) : G ce sl ws pc lv (.int y :: .int x :: st) := by
  subst hx; subst hy
  exact y_icmp_ne hC tgt hdg ht (fun h => kt (fun q => h ((nI_eq ha hb).mpr q))) (fun h => kf ((nI_eq ha hb).mp h))
theorem y_icmp_lt_n (hC : Cx l G cc own nL R D tys nm) {x y : Int32} {off : Int} (tgt : Nat) (hdg : decode cc pc = .ok (.if_icmp .lt off, 3)) (ht : (pc : Int) + off = (tgt : Int)) (a b : Nat) (hx : x = nI a) (hy : y = nI b) (ha : a < 2 ^ 31) (hb : b < 2 ^ 31) (kt : a < b → G ce sl ws tgt lv st) (kf : b ≤ a → G ce sl ws (pc + 3) lv st) : G ce sl ws pc lv (.int y :: .int x :: st) := by
  subst hx; subst hy
  exact y_icmp_lt hC tgt hdg ht (fun h => kt ((nI_ltI ha hb).mp h)) (fun h => kf (Nat.not_lt.mp fun q => h ((nI_ltI ha hb).mpr q)))
theorem y_icmp_ge_n (hC : Cx l G cc own nL R D tys nm) {x y : Int32} {off : Int} (tgt : Nat) (hdg : decode cc pc = .ok (.if_icmp .ge off, 3)) (ht : (pc : Int) + off = (tgt : Int)) (a b : Nat) (hx : x = nI a) (hy : y = nI b) (ha : a < 2 ^ 31) (hb : b < 2 ^ 31) (kt : b ≤ a → G ce sl ws tgt lv st) (kf : a < b → G ce sl ws (pc + 3) lv st) : G ce sl ws pc lv (.int y :: .int x :: st) := by
  subst hx; subst hy
  exact y_icmp_ge hC tgt hdg ht (fun h => kt ((nI_leI hb ha).mp h)) (fun h => kf (Nat.not_le.mp fun q => h ((nI_leI hb ha).mpr q)))
theorem y_icmp_gt_n (hC : Cx l G cc own nL R D tys nm) {x y : Int32} {off : Int} (tgt : Nat) (hdg : decode cc pc = .ok (.if_icmp .gt off, 3)) (ht : (pc : Int) + off = (tgt : Int)) (a b : Nat) (hx : x = nI a) (hy : y = nI b) (ha : a < 2 ^ 31) (hb : b < 2 ^ 31) (kt : b < a → G ce sl ws tgt lv st) (kf : a ≤ b → G ce sl ws (pc + 3) lv st) : G ce sl ws pc lv (.int y :: .int x :: st) := by
  subst hx; subst hy
  exact y_icmp_gt hC tgt hdg ht (fun h => kt ((nI_ltI hb ha).mp h)) (fun h => kf (Nat.not_lt.mp fun q => h ((nI_ltI hb ha).mpr q)))
theorem y_icmp_le_n (hC : Cx l G cc own nL R D tys nm) {x y : Int32} {off : Int} (tgt : Nat) (hdg : decode cc pc = .ok (.if_icmp .le off, 3)) (ht : (pc : Int) + off = (tgt : Int)) (a b : Nat) (hx : x = nI a) (hy : y = nI b) (ha : a < 2 ^ 31) (hb : b < 2 ^ 31) (kt : a ≤ b → G ce sl ws tgt lv st) (kf : b < a → G ce sl ws (pc + 3) lv st) : G ce sl ws pc lv (.int y :: .int x :: st) := by
  subst hx; subst hy
  exact y_icmp_le hC tgt hdg ht (fun h => kt ((nI_leI ha hb).mp h)) (fun h => kf (Nat.not_le.mp fun q => h ((nI_leI ha hb).mpr q)))
theorem y_if_eq_n (hC : Cx l G cc own nL R D tys nm) {x : Int32} {off : Int} (tgt : Nat) (hdg : decode cc pc = .ok (.ifCond .eq off, 3)) (ht : (pc : Int) + off = (tgt : Int)) (a : Nat) (hx : x = nI a) (ha : a < 2 ^ 31) (kt : a = 0 → G ce sl ws tgt lv st) (kf : a ≠ 0 → G ce sl ws (pc + 3) lv st) : G ce sl ws pc lv (.int x :: st) := by
  subst hx
  exact y_if_eq hC tgt hdg ht (fun h => kt ((nI_eq ha (by decide)).mp (h.trans nI_0.symm))) (fun h => kf (fun q => h (by rw [q]; exact nI_0)))
theorem y_if_ne_n (hC : Cx l G cc own nL R D tys nm) {x : Int32} {off : Int} (tgt : Nat) (hdg : decode cc pc = .ok (.ifCond .ne off, 3)) (ht : (pc : Int) + off = (tgt : Int)) (a : Nat) (hx : x = nI a) (ha : a < 2 ^ 31) (kt : a ≠ 0 → G ce sl ws tgt lv st) (kf : a = 0 → G ce sl ws (pc + 3) lv st) : G ce sl ws pc lv (.int x :: st) := by
  subst hx
  exact y_if_ne hC tgt hdg ht (fun h => kt (fun q => h (by rw [q]; exact nI_0))) (fun h => kf ((nI_eq ha (by decide)).mp (h.trans nI_0.symm)))
theorem y_if_lt_n (hC : Cx l G cc own nL R D tys nm) {x : Int32} {off : Int} (tgt : Nat) (hdg : decode cc pc = .ok (.ifCond .lt off, 3)) (ht : (pc : Int) + off = (tgt : Int)) (a : Nat) (hx : x = nI a) (ha : a < 2 ^ 31) (kf : G ce sl ws (pc + 3) lv st) : G ce sl ws pc lv (.int x :: st) := by
  subst hx
  exact y_if_lt hC tgt hdg ht (fun h => absurd h (nI_pos ha)) (fun _ => kf)
theorem y_if_ge_n (hC : Cx l G cc own nL R D tys nm) {x : Int32} {off : Int} (tgt : Nat) (hdg : decode cc pc = .ok (.ifCond .ge off, 3)) (ht : (pc : Int) + off = (tgt : Int)) (a : Nat) (hx : x = nI a) (ha : a < 2 ^ 31) (kt : G ce sl ws tgt lv st) : G ce sl ws pc lv (.int x :: st) := by
  subst hx
  exact y_if_ge hC tgt hdg ht (fun _ => kt) (fun h => absurd (nI_pos' ha) h)
theorem y_if_gt_n (hC : Cx l G cc own nL R D tys nm) {x : Int32} {off : Int} (tgt : Nat) (hdg : decode cc pc = .ok (.ifCond .gt off, 3)) (ht : (pc : Int) + off = (tgt : Int)) (a : Nat) (hx : x = nI a) (ha : a < 2 ^ 31) (kt : a ≠ 0 → G ce sl ws tgt lv st) (kf : a = 0 → G ce sl ws (pc + 3) lv st) : G ce sl ws pc lv (.int x :: st) := by
  subst hx
  refine y_if_gt hC tgt hdg ht (fun h => kt (fun q => ?_)) (fun h => kf ?_)
  · rw [q, nI_0] at h; exact absurd h (by decide)
  · rcases Nat.eq_zero_or_pos a with q | q
    · exact q
    · exact absurd (by rw [← nI_0]; exact nI_lt q ha) h
theorem y_if_le_n (hC : Cx l G cc own nL R D tys nm) {x : Int32} {off : Int} (tgt : Nat) (hdg : decode cc pc = .ok (.ifCond .le off, 3)) (ht : (pc : Int) + off = (tgt : Int)) (a : Nat) (hx : x = nI a) (ha : a < 2 ^ 31) (kt : a = 0 → G ce sl ws tgt lv st) (kf : a ≠ 0 → G ce sl ws (pc + 3) lv st) : G ce sl ws pc lv (.int x :: st) := by
  subst hx
  refine y_if_le hC tgt hdg ht (fun h => kt ?_) (fun h => kf (fun q => ?_))
  · rcases Nat.eq_zero_or_pos a with q | q
    · exact q
    · exact absurd h (nI_nle q ha)
  · rw [q, nI_0] at h; exact absurd (by decide) h
theorem y_min_n (hC : Cx l G cc own nL R D tys nm) {index : Nat} {x y : Int32} (hw : Cond.methodLink own index Lib.Math.min.name ∈ wsL_law) (hdg : decode cc pc = .ok (.invokestatic index, 3)) (hR : 1 ≤ R.frames) (hR2 : (st.map fun v => v.category).sum + 13 ≤ R.locals) (hc : ce ≤ R.cells) (hs : sl ≤ R.slots) (a b : Nat) (hx : x = nI a) (hy : y = nI b) (ha : a < 2 ^ 31) (hb : b < 2 ^ 31) (kk : G ce sl ws (pc + 3) lv (.int (nI (min a b)) :: st)) : G ce sl ws pc lv (.int y :: .int x :: st) := by
  subst hx; subst hy
  refine y_min hC hw hdg hR hR2 hc hs (v := nI (min a b)) ?_ kk
  by_cases h : b < a
  · rw [if_pos ((nI_ltI hb ha).mpr h), Nat.min_eq_right (Nat.le_of_lt h)]
  · rw [if_neg (fun q => h ((nI_ltI hb ha).mp q)), Nat.min_eq_left (Nat.not_lt.mp h)]
theorem y_max_n (hC : Cx l G cc own nL R D tys nm) {index : Nat} {x y : Int32} (hw : Cond.methodLink own index Lib.Math.max.name ∈ wsL_law) (hdg : decode cc pc = .ok (.invokestatic index, 3)) (hR : 1 ≤ R.frames) (hR2 : (st.map fun v => v.category).sum + 13 ≤ R.locals) (hc : ce ≤ R.cells) (hs : sl ≤ R.slots) (a b : Nat) (hx : x = nI a) (hy : y = nI b) (ha : a < 2 ^ 31) (hb : b < 2 ^ 31) (kk : G ce sl ws (pc + 3) lv (.int (nI (max a b)) :: st)) : G ce sl ws pc lv (.int y :: .int x :: st) := by
  subst hx; subst hy
  refine y_max hC hw hdg hR hR2 hc hs (v := nI (max a b)) ?_ kk
  by_cases h : a < b
  · rw [if_pos ((nI_ltI ha hb).mpr h), Nat.max_eq_right (Nat.le_of_lt h)]
  · rw [if_neg (fun q => h ((nI_ltI ha hb).mp q)), Nat.max_eq_left (Nat.not_lt.mp h)]
end YN
end
section
/-! exceptions that a method of the class throws, in the Y layer -/
section YX
variable {l : Launch} {G : GT} {cc : ByteArray} {own : String} {nL : Nat} {R : Room} {D : va_G} {tys : List (ClassId × FieldType)} {nm : String}
variable {ce sl : Nat} {ws : va_W} {pc : Nat} {lv : List (Nat × Value)} {st : List Value}
abbrev exN : List String := ["java/lang/RuntimeException", "java/lang/Exception"]
/-- what a 'throw new' of this class needs of the tables -/
def exOK (own cls : String) (ik ic : Nat) : Prop := Cond.classLink own ik cls ∈ wsL_law ∧ Cond.initialized cls ∈ wsL_law ∧ (∀ w ∈ vx_atS own ic cls exN, w ∈ wsL_law ∨ w ∈ exW) ∧ Bundle.fit cls = true ∧ cls ∈ exL
theorem exN_fit : ∀ n ∈ exN, Bundle.fit n = true := by decide +kernel
theorem ex_all {own cls : String} {ic : Nat} (h : (vx_atS own ic cls exN).all (fun w => goodWord w || decide (w ∈ exW)) = true) (h2 : ∀ w ∈ (vx_atS own ic cls exN).filter goodWord, w ∈ wsL_law) : ∀ w ∈ vx_atS own ic cls exN, w ∈ wsL_law ∨ w ∈ exW := by
  intro w hw
  have h3 := List.all_eq_true.mp h w hw
  rw [Bool.or_eq_true, decide_eq_true_eq] at h3
  exact h3.elim (fun g => Or.inl (h2 w (List.mem_filter.mpr ⟨hw, g⟩))) Or.inr
theorem exOK1 : exOK RX5 "java/lang/IndexOutOfBoundsException" 57 61 := ⟨(inLr5 _ (List.mem_of_getElem? (i := 10) rfl)), (inLr5 _ (List.mem_of_getElem? (i := 11) rfl)), ex_all (by decide +kernel) (fun w h => List.mem_append_left _ (List.mem_append_left _ (List.mem_append_right _ h))), by decide +kernel, by decide⟩
theorem exOK2 : exOK RX5 "java/lang/IllegalArgumentException" 67 71 := ⟨(inLr5 _ (List.mem_of_getElem? (i := 12) rfl)), (inLr5 _ (List.mem_of_getElem? (i := 13) rfl)), ex_all (by decide +kernel) (fun w h => List.mem_append_left _ (List.mem_append_right _ h)), by decide +kernel, by decide⟩
theorem exOK3 : exOK RX5 "java/lang/IllegalStateException" 137 141 := ⟨(inLr14 _ (List.mem_of_getElem? (i := 17) rfl)), (inLr14 _ (List.mem_of_getElem? (i := 18) rfl)), ex_all (by decide +kernel) (fun w h => List.mem_append_right _ h), by decide +kernel, by decide⟩
/-- the throw rule that a body gets: from a state with the world of its start -/
def XR (G : GT) (cc : ByteArray) (own : String) (rm : Room) (ws : va_W) (px : String → Prop) : Prop :=
  ∀ (ce sl pc : Nat) (lv : List (Nat × Value)) (st : List Value) (cls text : String) (ik is ic : Nat), exOK own cls ik ic → (own, is, text) ∈ strL → px cls →
    decode cc pc = .ok (.new ik, 3) → decode cc (pc + 3) = .ok (.dup, 1) → decode cc (pc + 4) = .ok (.ldc is, 2) → decode cc (pc + 6) = .ok (.invokespecial ic, 3) → decode cc (pc + 9) = .ok (.athrow, 1) →
    5 < rm.frames → (st.map fun v => v.category).sum + 82 ≤ rm.locals → ce + 1 ≤ rm.cells → sl + 6 ≤ rm.slots → G ce sl ws pc lv st
set_option maxHeartbeats 1000000 in
theorem XI.of {y : MethodName} {maxL : Nat} {ty : FieldType} {rm : Room} {av : List Value} {S : Type} {post : Int32 → S → Prop} {wf : S → va_W} {px : String → Prop} (hlt : l.stackTraces = false) (hy : plainName y.cls = true) (hav : (lg_sl av).length ≤ maxL)
    (body : ∀ G : GT, Cx l G cc y.cls maxL rm D tys y.name → (∀ (r : Int32) (u : S) (ce sl pc : Nat) (lv : List (Nat × Value)), decode cc pc = .ok (.ireturn, 1) → ce ≤ rm.cells → sl ≤ rm.slots → narrow ty (.int r) = .int r → post r u → G ce sl (wf u) pc lv [.int r]) → XR G cc y.cls rm ws px → G 0 0 ws 0 (lv_args 0 av) []) : XI l D tys y cc maxL ty rm av ws post wf px := by
  intro sz
  refine vx_ofW (cc := cc) (maxL := maxL) (ret := some ty) hy rfl ?_
  intro p e s m args below meth c s₁ B hml hno hv
  obtain ⟨rfl, hsz, hP, hD0, hK, hT⟩ := hv
  subst hsz
  have hD := hD0.self (sz := s.heap.size)
  have hA : ∀ q : Nat, s.heap.size ≤ q → va_A ws s.heap.size q := fun q h => Or.inr h
  have hT9 : gT (va_A ws s.heap.size) s s.heap := hT.re (fun q hq h => h.elim id (fun h => absurd hq (Nat.not_lt.mpr h)))
  have hts0 := atoms_spec (ws := Cond.code y cc maxL (some ty) :: wsL_law) B.pre
  have hts : ∀ w ∈ wsL_law, w.before av.toArray s = true := fun w h => hts0 w (List.mem_cons_of_mem _ h)
  have hl := lv_entry av (n := maxL) hav
  have hown : s.vm.findClass y.cls = some m.cls := findClass_of_methodNamed B.named
  rw [lg_entry_eq]
  refine body (Y p l e rm s m av.toArray below meth c (va_A ws s.heap.size) D maxL (vx_MQ below (va_Qi post (gB D (va_A ws s.heap.size) wf) (va_A ws s.heap.size)) (gX D ws s.heap.size px) av.toArray s rm.cells rm.slots (va_A ws s.heap.size))) ⟨p, e, s, m, av.toArray, below, meth, c, va_A ws s.heap.size, _, ⟨B.exec, B.bytes, hml, hown, hts⟩, hK, hT9, hA, (name_of_methodNamed B.named B.method).1, B.notSynchronized, rfl⟩ ?_ ?_ s.heap [] _ hP hD va_S.rf hl
  · intro r u ce sl pc lv hdg h1 h2 hn hp H locs ls hP hD hS hl
    refine W.widen h1 h2 (vx_ret ?_)
    exact W.zret (v := r) (ty := ty) B.exec B.bytes B.returns hn (fun t ht hW => ⟨⟨r, u, rfl, hp, by rw [ht]; exact hP, hD⟩, hS.F ht⟩) hS.2.2 hdg
  · intro ce sl pc lv st cls text ik is ic hok hstr hpx d0 d3 d4 d6 d9 hfr hlo hc hs H locs ls hP hD hS hl
    obtain ⟨sa, hsa⟩ := hK.2.2.1 _ hstr
    refine vx_throwS (A := va_A ws s.heap.size) (names := exN) B.exec B.bytes hlt hown hok.2.2.2.1 exN_fit (hts _ hok.1) (hts _ hok.2.1) hsa (fun w hw => (hok.2.2.1 w hw).elim (hts w) (fun q => va_Nw.use (exW_tab w q) (hK.2.2.2.2 w q))) ?_ hT9.1 hT9.2 hS (hl.1.trans hml.symm) d0 d3 d4 d6 d9 (fun x hx => (hno x hx).elim) hfr hlo hc hs B.notSynchronized ?_ hS.2.2 hc hs
    · intro w hw
      have hg : w ∈ wsL_law ∨ w ∈ exW := by
        rcases List.mem_cons.mp hw with h | hw
        · rw [h]; exact Or.inl hok.1
        · rcases List.mem_cons.mp hw with h | hw
          · rw [h]; exact Or.inl hok.2.1
          · exact hok.2.2.1 w hw
      show (w.onTables || goodWord w) = true
      rcases hg with hg | hg
      · rw [all_good w hg, Bool.or_true]
      · rw [exW_tab w hg, Bool.true_or]
    · intro t hvm hz hk
      exact ⟨(), trivial, ⟨hpx, hP.kept (fun k q hq => hk q.1 ((hP k q hq).lt)), hD⟩, ⟨Nat.le_trans hS.1 hz, fun q h1 h2 => (hk q (Nat.lt_of_lt_of_le h1 hS.1)).trans (hS.2.1 q h1 h2)⟩⟩
/-- a method with a table of its own, that returns -/
def XW (l : Launch) (D : va_G) (tys : List (ClassId × FieldType)) (y : MethodName) (cc : ByteArray) (maxL : Nat) (hh : List (Nat × Nat × Nat × Nat)) (rm : Room) (av : List Value) (ws : va_W) {S : Type} (post : Int32 → S → Prop) (wf : S → va_W) : Prop :=
  ∀ sz : Nat, vx_Met l y (Cond.codeWith y cc maxL (some .int) hh :: wsL_law) rm (gPc av sz D tys ws) (va_Qi post (gB D (va_A ws sz) wf) (va_A ws sz)) (gX D ws sz (fun _ => False)) rm.cells rm.slots (va_A ws sz)
def CxT (l : Launch) (G : GT) (cc : ByteArray) (own : String) (nL : Nat) (R : Room) (D : va_G) (tys : List (ClassId × FieldType)) (nm : String) (hh : List (Nat × Nat × Nat × Nat)) : Prop :=
  ∃ (p : Program) (e : Env) (s : State) (m : MethodId) (args : Array Value) (below : List Frame) (meth : Method) (c : Code) (A : Nat → Prop) (Q : State → Prop),
    (CallFix p m c cc nL s args wsL_law own ∧ gK D tys s ∧ gT A s s.heap ∧ (∀ q, s.heap.size ≤ q → A q) ∧ meth.name = nm ∧ meth.locks = false ∧ G = Y p l e R s m args below meth c A D nL Q) ∧ c.exceptionTable.toList = tableOf hh
theorem CxT.cx {hh : List (Nat × Nat × Nat × Nat)} (h : CxT l G cc own nL R D tys nm hh) : Cx l G cc own nL R D tys nm := by
  obtain ⟨p, e, s, m, args, below, meth, c, A, Q, h1, -⟩ := h
  exact ⟨p, e, s, m, args, below, meth, c, A, Q, h1⟩
set_option maxHeartbeats 1000000 in
theorem XW.of {y : MethodName} {maxL : Nat} {hh : List (Nat × Nat × Nat × Nat)} {rm : Room} {av : List Value} {S : Type} {post : Int32 → S → Prop} {wf : S → va_W} (hy : plainName y.cls = true) (hav : (lg_sl av).length ≤ maxL)
    (body : ∀ G : GT, CxT l G cc y.cls maxL rm D tys y.name hh → (∀ (r : Int32) (u : S) (ce sl pc : Nat) (lv : List (Nat × Value)), decode cc pc = .ok (.ireturn, 1) → ce ≤ rm.cells → sl ≤ rm.slots → narrow .int (.int r) = .int r → post r u → G ce sl (wf u) pc lv [.int r]) → G 0 0 ws 0 (lv_args 0 av) []) : XW l D tys y cc maxL hh rm av ws post wf := by
  intro sz
  refine vx_ofWH (cc := cc) (maxL := maxL) (ret := some .int) (hh := hh) hy rfl ?_
  intro p e s m args below meth c s₁ B hml hv
  obtain ⟨rfl, hsz, hP, hD0, hK, hT⟩ := hv
  subst hsz
  have hD := hD0.self (sz := s.heap.size)
  have hA : ∀ q : Nat, s.heap.size ≤ q → va_A ws s.heap.size q := fun q h => Or.inr h
  have hT9 : gT (va_A ws s.heap.size) s s.heap := hT.re (fun q hq h => h.elim id (fun h => absurd hq (Nat.not_lt.mpr h)))
  have hts0 := atoms_spec (ws := Cond.codeWith y cc maxL (some .int) hh :: wsL_law) B.pre
  have hts : ∀ w ∈ wsL_law, w.before av.toArray s = true := fun w h => hts0 w (List.mem_cons_of_mem _ h)
  have hl := lv_entry av (n := maxL) hav
  have hown : s.vm.findClass y.cls = some m.cls := findClass_of_methodNamed B.named
  have htab := vx_table (x := y) B (hts0 _ List.mem_cons_self)
  rw [lg_entry_eq]
  refine body (Y p l e rm s m av.toArray below meth c (va_A ws s.heap.size) D maxL (vx_MQ below (va_Qi post (gB D (va_A ws s.heap.size) wf) (va_A ws s.heap.size)) (gX D ws s.heap.size (fun _ => False)) av.toArray s rm.cells rm.slots (va_A ws s.heap.size))) ⟨p, e, s, m, av.toArray, below, meth, c, va_A ws s.heap.size, _, ⟨⟨B.exec, B.bytes, hml, hown, hts⟩, hK, hT9, hA, (name_of_methodNamed B.named B.method).1, B.notSynchronized, rfl⟩, htab⟩ ?_ s.heap [] _ hP hD va_S.rf hl
  intro r u ce sl pc lv hdg h1 h2 hn hp H locs ls hP hD hS hl
  refine W.widen h1 h2 (vx_ret ?_)
  exact W.zret (v := r) (ty := .int) B.exec B.bytes B.returns hn (fun t ht hW => ⟨⟨r, u, rfl, hp, by rw [ht]; exact hP, hD⟩, hS.F ht⟩) hS.2.2 hdg
set_option maxHeartbeats 1000000 in
/-- a virtual call that may throw, under a table that catches it -/
theorem y_callX_i {hh : List (Nat × Nat × Nat × Nat)} (hC : CxT l G cc own nL R D tys nm hh) {y : MethodName} {bytes : ByteArray} {maxL n index : Nat} {ty : FieldType} {rm : Room} {As rest : List Value} {S : Type} {post : Int32 → S → Prop} {wf : S → va_W} {px : String → Prop} {b : Nat} {C : String} {wc : va_W} (hM : XI l D tys y bytes maxL ty rm (.ref b :: As) wc post wf px) (hY : yV y C bytes maxL (some ty) n) (hlk9 : Cond.methodLink own index y ∈ wsL_law) (isC isR isB isX : List Nat) (w2 : S → va_W) (hC9 : isC.map (fun i => ws[i]?) = wc.map some) (hR9 : isR.map (fun i => ws[i]?) = (isR.filterMap (fun i => ws[i]?)).map some) (hnC : va_nd isC = true) (hnR : va_nd isR = true) (hdis : ∀ i ∈ isR, i ∉ isC) (hnB : va_nd isB = true) (hB : ∀ u, isB.map (fun i => (isR.filterMap (fun i => ws[i]?) ++ wf u)[i]?) = (w2 u).map some) (hnX : va_nd isX = true) (hBX : isX.map (fun i => (isR.filterMap (fun i => ws[i]?) ++ wc)[i]?) = ws.map some) (kb : Nat) {ci : Nat} {fs : List Value} {T : u_T} {N : Nat} (hb0 : wc[kb]? = some (b, .inr (ci, fs))) (hci : vwCl[ci]? = some (C, T, N)) (hn : As.length = n) (hst : st = As.reverse ++ .ref b :: rest) (hcat : (rest.map fun v => v.category).sum ≤ 8) (hdg : decode cc pc = .ok (.invokevirtual index, 3)) (hR : rm.frames + 1 ≤ R.frames ∧ 8 + (maxL + 11) + rm.locals ≤ R.locals) (hf : ce + rm.cells ≤ R.cells ∧ sl + rm.slots ≤ R.slots)
    (kx : ∀ E : String, px E → ∃ (pre : List ExceptionTableEntry) (x : ExceptionTableEntry) (suf : List ExceptionTableEntry), tableOf hh = pre ++ x :: suf ∧ (∀ z ∈ pre, covers z pc = false ∨ (z.catchType ≠ 0 ∧ ∃ nm : String, Cond.classLink own z.catchType nm ∈ wsL_law ∧ (E, nm) ∈ ncL)) ∧ covers x pc = true ∧ x.catchType ≠ 0 ∧ Cond.classLink own x.catchType E ∈ wsL_law ∧ E ∈ exL ∧ ∀ q : Nat, G (ce + rm.cells) (sl + rm.slots) ws x.handlerPc lv [.ref q])
    (kk : ∀ (r : Int32) (u : S), post r u → G (ce + rm.cells) (sl + rm.slots) (w2 u) (pc + 3) lv (.int r :: rest)) : G ce sl ws pc lv st := by
  obtain ⟨p, e, s, m, args, below, meth, c, A, Q, ⟨hfix, hK, hT, hA, hnm, hlk, rfl⟩, htab⟩ := hC
  obtain ⟨hx, hb, hml, hown, hts⟩ := id hfix
  intro H locs ls hP hD hS hl
  subst hst
  have hPc : va_P D vwCl wc H := hP.sub isC (by
    have h9 := congrArg (fun z : List (Option (Nat × va_E)) => z.filterMap id) hC9
    simpa [List.filterMap_map, Function.comp_def] using h9)
  have hFc := va_free (wc := wc) hD hS hA isC hC9
  refine vx_calli (vx_runV (As := As) (rest := rest) hfix (hM H.size) (y_cwV hts hY hlk9 hR) ⟨gPc_blind, va_recv hK.1 hPc hci hb0, y_preU hK hT hP hD hS isC hC9 hnC (.ref b :: As)⟩ rfl hn hl.1 rfl (lv_room hcat) hdg hf) hS (fun q _ h => hFc q h) hFc (fun q _ h => hFc q h) (fun E ce9 q9 u t H1 locs ht hvm hu hBx hz1 hk1 hS hcell hcv hcl => ?_) (fun r u t H1 locs ht hvm hw hB9 hz1 hk1 hS => ?_)
  · obtain ⟨hpx, hP1, hD1⟩ := hBx
    rw [ht] at hP1
    obtain ⟨hP2, hD2⟩ := y_aft hP hD isC isR isX hC9 hR9 hnR hdis hk1 hFc hP1 hD1 hnX hBX
    obtain ⟨pre, x, suf, h1, h2, h3, h4, h5, h6, h7⟩ := kx E hpx
    refine vx_catch (name := E) hown pre x suf (htab.trans h1) (fun z hz => ?_) h3 h4 (hts _ h5) (va_Nw.use rfl (hK.2.2.2.2 _ (exL_cast h6))) hcell hcv hcl (h7 q9 H1 locs ls hP2 hD2 hS hl)
    rcases h2 z hz with h | ⟨hz0, nm9, hl9, hn9⟩
    · exact Or.inl h
    · exact Or.inr ⟨hz0, nm9, hts _ hl9, hK.2.2.2.1 _ hn9⟩
  · obtain ⟨hP1, hD1⟩ := hB9
    rw [ht] at hP1
    obtain ⟨hP2, hD2⟩ := y_aft hP hD isC isR isB hC9 hR9 hnR hdis hk1 hFc hP1 hD1 hnB (hB u)
    exact kk r u hw H1 locs ls hP2 hD2 hS hl
set_option maxHeartbeats 1000000 in
/-- a static call of a method with a table, that returns -/
theorem y_callSX_i (hC : Cx l G cc own nL R D tys nm) {y : MethodName} {bytes : ByteArray} {maxL n index : Nat} {hh : List (Nat × Nat × Nat × Nat)} {rm : Room} {As rest : List Value} {S : Type} {post : Int32 → S → Prop} {wf : S → va_W} {wc : va_W} (hM : XW l D tys y bytes maxL hh rm As wc post wf) (hY : Cond.static y ∈ wsL_law ∧ Cond.initialized y.cls ∈ wsL_law ∧ Cond.codeWith y bytes maxL (some .int) hh ∈ wsL_law ∧ (y.cls ≠ "java/lang/invoke/MethodHandle" ∧ y.cls ≠ "java/lang/invoke/VarHandle" ∧ (parseMethodDescriptor y.desc).map (fun d => d.parameters.length) = some n)) (hlk9 : Cond.methodLink own index y ∈ wsL_law) (isC isR isB : List Nat) (w2 : S → va_W) (hC9 : isC.map (fun i => ws[i]?) = wc.map some) (hR9 : isR.map (fun i => ws[i]?) = (isR.filterMap (fun i => ws[i]?)).map some) (hnC : va_nd isC = true) (hnR : va_nd isR = true) (hdis : ∀ i ∈ isR, i ∉ isC) (hnB : va_nd isB = true) (hB : ∀ u, isB.map (fun i => (isR.filterMap (fun i => ws[i]?) ++ wf u)[i]?) = (w2 u).map some) (hn : As.length = n) (hst : st = As.reverse ++ rest) (hcat : (rest.map fun v => v.category).sum ≤ 8) (hdg : decode cc pc = .ok (.invokestatic index, 3)) (hR : rm.frames + 1 ≤ R.frames ∧ 8 + (maxL + 11) + rm.locals ≤ R.locals) (hf : ce + rm.cells ≤ R.cells ∧ sl + rm.slots ≤ R.slots)
    (kk : ∀ (r : Int32) (u : S), post r u → G (ce + rm.cells) (sl + rm.slots) (w2 u) (pc + 3) lv (.int r :: rest)) : G ce sl ws pc lv st := by
  obtain ⟨p, e, s, m, args, below, meth, c, A, Q, hfix, hK, hT, hA, hnm, hlk, rfl⟩ := hC
  obtain ⟨hx, hb, hml, hown, hts⟩ := id hfix
  intro H locs ls hP hD hS hl
  subst hst
  have hFc := va_free (wc := wc) hD hS hA isC hC9
  have hcw := vx_cwSW (rm := rm) (R := R) n hts (all_in (mem_cc hlk9 (mem_cc hY.1 (mem_cc hY.2.1 (mem_cc hY.2.2.1 (fun w h => h)))))) rfl rfl rfl hY.2.2.2 hR
  refine vx_calli (vx_runSX (As := As) (rest := rest) hfix (hM H.size) hcw ⟨gPc_blind, y_preU hK hT hP hD hS isC hC9 hnC As⟩ rfl hn hl.1 rfl (lv_room hcat) hdg hf) hS (fun q _ h => hFc q h) hFc (fun q _ h => hFc q h) (fun E ce9 q9 u t H1 locs ht hvm hu hBx hz1 hk1 hS hcell hcv hcl => hBx.1.elim) (fun r u t H1 locs ht hvm hw hB9 hz1 hk1 hS => ?_)
  obtain ⟨hP1, hD1⟩ := hB9
  rw [ht] at hP1
  obtain ⟨hP2, hD2⟩ := y_aft hP hD isC isR isB hC9 hR9 hnR hdis hk1 hFc hP1 hD1 hnB (hB u)
  exact kk r u hw H1 locs ls hP2 hD2 hS hl
end YX
end
section
/-! the pictures of the system: arrays and numbers as natural functions -/
abbrev tyL (cI cO cJ cZ : ClassId) : List (ClassId × FieldType) := [(cI, .int), (cO, .object "KnotLetters$Cord"), (cJ, .long), (cZ, .boolean)]
def updN (F : Nat → Nat) (i v : Nat) : Nat → Nat := fun k => if k = i then v else F k
def updF (F : Nat → Nat → Nat) (j : Nat) (g : Nat → Nat) : Nat → Nat → Nat := fun i => if i = j then g else F i
theorem updN_eq (F : Nat → Nat) (i v : Nat) : (fun k => nI (updN F i v k)) = upd (fun k => nI (F k)) i (nI v) := by
  funext k
  unfold updN upd
  by_cases h : k = i
  · rw [if_pos h, if_pos h]
  · rw [if_neg h, if_neg h]
/-- the reference: the object, and its fourteen rows -/
abbrev mW (cI : ClassId) (a : Nat → Nat) (V : Nat → Nat) (F : Nat → Nat → Nat) : va_W := [
  (a 0, .inr (6, [.int (nI (V 0)), .ref (a 1), .ref (a 2), .int (nI (V 1)), .int (nI (V 2)), .int (nI (V 3)), .ref (a 3), .int (nI (V 4)), .int (nI (V 5)), .int (nI (V 6)), .ref (a 4), .ref (a 5), .ref (a 6), .ref (a 7), .ref (a 8), .int (nI (V 7)), .ref (a 9), .int (nI (V 8)), .ref (a 10), .ref (a 11), .ref (a 12), .ref (a 13), .ref (a 14)])),
  (a 1, .inl (cI, 12, .inl (fun k => nI (F 1 k)))), (a 2, .inl (cI, 12, .inl (fun k => nI (F 2 k)))), (a 3, .inl (cI, 25, .inl (fun k => nI (F 3 k)))), (a 4, .inl (cI, 10, .inl (fun k => nI (F 4 k)))), (a 5, .inl (cI, 400, .inl (fun k => nI (F 5 k)))), (a 6, .inl (cI, 10, .inl (fun k => nI (F 6 k)))), (a 7, .inl (cI, 10, .inl (fun k => nI (F 7 k)))), (a 8, .inl (cI, 80, .inl (fun k => nI (F 8 k)))), (a 9, .inl (cI, 40, .inl (fun k => nI (F 9 k)))), (a 10, .inl (cI, 41, .inl (fun k => nI (F 10 k)))), (a 11, .inl (cI, 41, .inl (fun k => nI (F 11 k)))), (a 12, .inl (cI, 41, .inl (fun k => nI (F 12 k)))), (a 13, .inl (cI, 41, .inl (fun k => nI (F 13 k)))), (a 14, .inl (cI, 41, .inl (fun k => nI (F 14 k))))]
section YZ
variable {l : Launch} {G : GT} {cc : ByteArray} {own : String} {nL : Nat} {R : Room} {D : va_G} {tys : List (ClassId × FieldType)} {nm : String}
variable {ce sl : Nat} {ws : va_W} {pc : Nat} {lv : List (Nat × Value)} {st : List Value}
theorem i32_nat {x : Int32} {n : Nat} (h0 : 0 ≤ x.toInt) (h1 : x.toInt < n) : ∃ j : Nat, j < n ∧ x = nI j := by
  refine ⟨x.toInt.toNat, by omega, ?_⟩
  have h2 := x.toInt_lt
  apply Int32.toInt_inj.mp
  rw [nI_toInt (by omega)]
  omega
theorem y_if_eq_z (hC : Cx l G cc own nL R D tys nm) {x : Int32} {off : Int} (tgt : Nat) (hdg : decode cc pc = .ok (.ifCond .eq off, 3)) (ht : (pc : Int) + off = (tgt : Int)) (kt : x.toInt = (0 : Int) → G ce sl ws tgt lv st) (kf : x.toInt ≠ (0 : Int) → G ce sl ws (pc + 3) lv st) : G ce sl ws pc lv (.int x :: st) := by
  exact y_if_eq hC tgt hdg ht (fun h => kt (by rw [h]; exact Int32.toInt_zero)) (fun h => kf (fun q => h (Int32.toInt_inj.mp (q.trans Int32.toInt_zero.symm))))
theorem y_icmp_eq_z (hC : Cx l G cc own nL R D tys nm) {x y : Int32} {off : Int} (tgt : Nat) (hdg : decode cc pc = .ok (.if_icmp .eq off, 3)) (ht : (pc : Int) + off = (tgt : Int)) (b : Nat) (hy : y = nI b) (hb : b < 2 ^ 31) (kt : x.toInt = (b : Int) → G ce sl ws tgt lv st) (kf : x.toInt ≠ (b : Int) → G ce sl ws (pc + 3) lv st) : G ce sl ws pc lv (.int y :: .int x :: st) := by
  subst hy
  have e := nI_toInt hb
  exact y_icmp_eq hC tgt hdg ht (fun h => kt (by rw [h]; exact e)) (fun h => kf (fun q => h (Int32.toInt_inj.mp (q.trans e.symm))))
theorem y_if_ne_z (hC : Cx l G cc own nL R D tys nm) {x : Int32} {off : Int} (tgt : Nat) (hdg : decode cc pc = .ok (.ifCond .ne off, 3)) (ht : (pc : Int) + off = (tgt : Int)) (kt : x.toInt ≠ (0 : Int) → G ce sl ws tgt lv st) (kf : x.toInt = (0 : Int) → G ce sl ws (pc + 3) lv st) : G ce sl ws pc lv (.int x :: st) := by
  exact y_if_ne hC tgt hdg ht (fun h => kt (fun q => h (Int32.toInt_inj.mp (q.trans Int32.toInt_zero.symm)))) (fun h => kf (by rw [h]; exact Int32.toInt_zero))
theorem y_icmp_ne_z (hC : Cx l G cc own nL R D tys nm) {x y : Int32} {off : Int} (tgt : Nat) (hdg : decode cc pc = .ok (.if_icmp .ne off, 3)) (ht : (pc : Int) + off = (tgt : Int)) (b : Nat) (hy : y = nI b) (hb : b < 2 ^ 31) (kt : x.toInt ≠ (b : Int) → G ce sl ws tgt lv st) (kf : x.toInt = (b : Int) → G ce sl ws (pc + 3) lv st) : G ce sl ws pc lv (.int y :: .int x :: st) := by
  subst hy
  have e := nI_toInt hb
  exact y_icmp_ne hC tgt hdg ht (fun h => kt (fun q => h (Int32.toInt_inj.mp (q.trans e.symm)))) (fun h => kf (by rw [h]; exact e))
theorem y_if_lt_z (hC : Cx l G cc own nL R D tys nm) {x : Int32} {off : Int} (tgt : Nat) (hdg : decode cc pc = .ok (.ifCond .lt off, 3)) (ht : (pc : Int) + off = (tgt : Int)) (kt : x.toInt < (0 : Int) → G ce sl ws tgt lv st) (kf : (0 : Int) ≤ x.toInt → G ce sl ws (pc + 3) lv st) : G ce sl ws pc lv (.int x :: st) := by
  exact y_if_lt hC tgt hdg ht (fun h => kt (by rw [Int32.lt_iff_toInt_lt] at h; first | (rw [Int32.toInt_zero] at h; omega) | omega)) (fun h => kf (by rw [Int32.lt_iff_toInt_lt] at h; first | (rw [Int32.toInt_zero] at h; omega) | omega))
theorem y_icmp_lt_z (hC : Cx l G cc own nL R D tys nm) {x y : Int32} {off : Int} (tgt : Nat) (hdg : decode cc pc = .ok (.if_icmp .lt off, 3)) (ht : (pc : Int) + off = (tgt : Int)) (b : Nat) (hy : y = nI b) (hb : b < 2 ^ 31) (kt : x.toInt < (b : Int) → G ce sl ws tgt lv st) (kf : (b : Int) ≤ x.toInt → G ce sl ws (pc + 3) lv st) : G ce sl ws pc lv (.int y :: .int x :: st) := by
  subst hy
  have e := nI_toInt hb
  exact y_icmp_lt hC tgt hdg ht (fun h => kt (by rw [Int32.lt_iff_toInt_lt] at h; first | (rw [Int32.toInt_zero] at h; omega) | omega)) (fun h => kf (by rw [Int32.lt_iff_toInt_lt] at h; first | (rw [Int32.toInt_zero] at h; omega) | omega))
theorem y_if_ge_z (hC : Cx l G cc own nL R D tys nm) {x : Int32} {off : Int} (tgt : Nat) (hdg : decode cc pc = .ok (.ifCond .ge off, 3)) (ht : (pc : Int) + off = (tgt : Int)) (kt : (0 : Int) ≤ x.toInt → G ce sl ws tgt lv st) (kf : x.toInt < (0 : Int) → G ce sl ws (pc + 3) lv st) : G ce sl ws pc lv (.int x :: st) := by
  exact y_if_ge hC tgt hdg ht (fun h => kt (by rw [Int32.le_iff_toInt_le] at h; first | (rw [Int32.toInt_zero] at h; omega) | omega)) (fun h => kf (by rw [Int32.le_iff_toInt_le] at h; first | (rw [Int32.toInt_zero] at h; omega) | omega))
theorem y_icmp_ge_z (hC : Cx l G cc own nL R D tys nm) {x y : Int32} {off : Int} (tgt : Nat) (hdg : decode cc pc = .ok (.if_icmp .ge off, 3)) (ht : (pc : Int) + off = (tgt : Int)) (b : Nat) (hy : y = nI b) (hb : b < 2 ^ 31) (kt : (b : Int) ≤ x.toInt → G ce sl ws tgt lv st) (kf : x.toInt < (b : Int) → G ce sl ws (pc + 3) lv st) : G ce sl ws pc lv (.int y :: .int x :: st) := by
  subst hy
  have e := nI_toInt hb
  exact y_icmp_ge hC tgt hdg ht (fun h => kt (by rw [Int32.le_iff_toInt_le] at h; first | (rw [Int32.toInt_zero] at h; omega) | omega)) (fun h => kf (by rw [Int32.le_iff_toInt_le] at h; first | (rw [Int32.toInt_zero] at h; omega) | omega))
theorem y_if_gt_z (hC : Cx l G cc own nL R D tys nm) {x : Int32} {off : Int} (tgt : Nat) (hdg : decode cc pc = .ok (.ifCond .gt off, 3)) (ht : (pc : Int) + off = (tgt : Int)) (kt : (0 : Int) < x.toInt → G ce sl ws tgt lv st) (kf : x.toInt ≤ (0 : Int) → G ce sl ws (pc + 3) lv st) : G ce sl ws pc lv (.int x :: st) := by
  exact y_if_gt hC tgt hdg ht (fun h => kt (by rw [Int32.lt_iff_toInt_lt] at h; first | (rw [Int32.toInt_zero] at h; omega) | omega)) (fun h => kf (by rw [Int32.lt_iff_toInt_lt] at h; first | (rw [Int32.toInt_zero] at h; omega) | omega))
theorem y_icmp_gt_z (hC : Cx l G cc own nL R D tys nm) {x y : Int32} {off : Int} (tgt : Nat) (hdg : decode cc pc = .ok (.if_icmp .gt off, 3)) (ht : (pc : Int) + off = (tgt : Int)) (b : Nat) (hy : y = nI b) (hb : b < 2 ^ 31) (kt : (b : Int) < x.toInt → G ce sl ws tgt lv st) (kf : x.toInt ≤ (b : Int) → G ce sl ws (pc + 3) lv st) : G ce sl ws pc lv (.int y :: .int x :: st) := by
  subst hy
  have e := nI_toInt hb
  exact y_icmp_gt hC tgt hdg ht (fun h => kt (by rw [Int32.lt_iff_toInt_lt] at h; first | (rw [Int32.toInt_zero] at h; omega) | omega)) (fun h => kf (by rw [Int32.lt_iff_toInt_lt] at h; first | (rw [Int32.toInt_zero] at h; omega) | omega))
theorem y_if_le_z (hC : Cx l G cc own nL R D tys nm) {x : Int32} {off : Int} (tgt : Nat) (hdg : decode cc pc = .ok (.ifCond .le off, 3)) (ht : (pc : Int) + off = (tgt : Int)) (kt : x.toInt ≤ (0 : Int) → G ce sl ws tgt lv st) (kf : (0 : Int) < x.toInt → G ce sl ws (pc + 3) lv st) : G ce sl ws pc lv (.int x :: st) := by
  exact y_if_le hC tgt hdg ht (fun h => kt (by rw [Int32.le_iff_toInt_le] at h; first | (rw [Int32.toInt_zero] at h; omega) | omega)) (fun h => kf (by rw [Int32.le_iff_toInt_le] at h; first | (rw [Int32.toInt_zero] at h; omega) | omega))
theorem y_icmp_le_z (hC : Cx l G cc own nL R D tys nm) {x y : Int32} {off : Int} (tgt : Nat) (hdg : decode cc pc = .ok (.if_icmp .le off, 3)) (ht : (pc : Int) + off = (tgt : Int)) (b : Nat) (hy : y = nI b) (hb : b < 2 ^ 31) (kt : x.toInt ≤ (b : Int) → G ce sl ws tgt lv st) (kf : (b : Int) < x.toInt → G ce sl ws (pc + 3) lv st) : G ce sl ws pc lv (.int y :: .int x :: st) := by
  subst hy
  have e := nI_toInt hb
  exact y_icmp_le hC tgt hdg ht (fun h => kt (by rw [Int32.le_iff_toInt_le] at h; first | (rw [Int32.toInt_zero] at h; omega) | omega)) (fun h => kf (by rw [Int32.le_iff_toInt_le] at h; first | (rw [Int32.toInt_zero] at h; omega) | omega))
end YZ
end
section
section LEAF
variable {l : Launch} {D : va_G} {cI cO cJ cZ : ClassId}
theorem nV_X6_thrown : yV yX6_thrown RX6 cX6_thrown 1 (some .int) 0 := ⟨(inLr6 _ (List.mem_of_getElem? (i := 19) rfl)), (inLr6 _ (List.mem_of_getElem? (i := 20) rfl)), (inLr1 _ (List.mem_of_getElem? (i := 5) rfl)), (inLr6 _ (List.mem_of_getElem? (i := 21) rfl)), rfl, by decide, by decide, by decide +kernel⟩
theorem nV_X6_no : yV yX6_no RX6 cX6_no 2 (some .int) 1 := ⟨(inLr6 _ (List.mem_of_getElem? (i := 12) rfl)), (inLr6 _ (List.mem_of_getElem? (i := 13) rfl)), (inLr1 _ (List.mem_of_getElem? (i := 5) rfl)), (inLr6 _ (List.mem_of_getElem? (i := 14) rfl)), rfl, by decide, by decide, by decide +kernel⟩
theorem nS_X6_isIn : yS yX6_isIn cX6_isIn 3 (some .boolean) 3 := ⟨(inLr6 _ (List.mem_of_getElem? (i := 9) rfl)), (inLr1 _ (List.mem_of_getElem? (i := 5) rfl)), (inLr6 _ (List.mem_of_getElem? (i := 10) rfl)), ⟨by decide, by decide, by decide +kernel⟩⟩
theorem nS_X6_lengthOf : yS yX6_lengthOf cX6_lengthOf 1 (some .int) 1 := ⟨(inLr7 _ (List.mem_of_getElem? (i := 16) rfl)), (inLr1 _ (List.mem_of_getElem? (i := 5) rfl)), (inLr7 _ (List.mem_of_getElem? (i := 17) rfl)), ⟨by decide, by decide, by decide +kernel⟩⟩
theorem nS_X6_knotOf : yS yX6_knotOf cX6_knotOf 4 (some .int) 2 := ⟨(inLr10 _ (List.mem_of_getElem? (i := 0) rfl)), (inLr1 _ (List.mem_of_getElem? (i := 5) rfl)), (inLr10 _ (List.mem_of_getElem? (i := 1) rfl)), ⟨by decide, by decide, by decide +kernel⟩⟩
theorem nS_X6_isRow : yS yX6_isRow cX6_isRow 3 (some .boolean) 1 := ⟨(inLr6 _ (List.mem_of_getElem? (i := 16) rfl)), (inLr1 _ (List.mem_of_getElem? (i := 5) rfl)), (inLr6 _ (List.mem_of_getElem? (i := 17) rfl)), ⟨by decide, by decide, by decide +kernel⟩⟩
theorem nS_X5_isNoLetter : yS yX5_isNoLetter cX5_isNoLetter 1 (some .boolean) 1 := ⟨(inLr5 _ (List.mem_of_getElem? (i := 16) rfl)), (inLr1 _ (List.mem_of_getElem? (i := 2) rfl)), (inLr5 _ (List.mem_of_getElem? (i := 17) rfl)), ⟨by decide, by decide, by decide +kernel⟩⟩
theorem nS_X5_isNoKind : yS yX5_isNoKind cX5_isNoKind 1 (some .boolean) 1 := ⟨(inLr5 _ (List.mem_of_getElem? (i := 21) rfl)), (inLr1 _ (List.mem_of_getElem? (i := 2) rfl)), (inLr5 _ (List.mem_of_getElem? (i := 22) rfl)), ⟨by decide, by decide, by decide +kernel⟩⟩
theorem nV_X0_kindAt : yV yX0_kindAt RX0 cX0_kindAt 3 (some .int) 2 := ⟨(inLr17 _ (List.mem_of_getElem? (i := 3) rfl)), (inLr17 _ (List.mem_of_getElem? (i := 4) rfl)), (inLr1 _ (List.mem_of_getElem? (i := 15) rfl)), (inLr17 _ (List.mem_of_getElem? (i := 5) rfl)), rfl, by decide, by decide, by decide +kernel⟩
set_option maxHeartbeats 1000000 in
theorem c_X6_thrown (h : Nat) (t : Int32) (fs : List Value) : MI l D (tyL cI cO cJ cZ) yX6_thrown cX6_thrown 1 .int ({ frames := 0, cells := 0, slots := 0, locals := 0 } : Room) [.ref h] [(h, .inr (6, .int t :: fs))] (fun r (_ : Unit) => r = t) (fun _ => [(h, .inr (6, .int t :: fs))]) := by
  refine MI.of (by decide) (Nat.le_of_ble_eq_true rfl) (fun G hC hE => ?_)
  show G 0 0 [(h, .inr (6, .int t :: fs))] 0 [(0, .ref h)] []
  refine y_aload_n hC dX6_thrown_0 0 rfl rfl ?_
  refine y_get hC cC6 0 rfl 0 (by decide) (inLr6 _ (List.mem_of_getElem? (i := 7) rfl)) rfl dX6_thrown_1 ?_
  exact hE t () _ _ _ _ dX6_thrown_4 (Nat.le_of_ble_eq_true rfl) (Nat.le_of_ble_eq_true rfl) rfl rfl
set_option maxHeartbeats 1000000 in
theorem c_X6_no (h : Nat) (t : Int32) (fs : List Value) (n : Nat) : MI l D (tyL cI cO cJ cZ) yX6_no cX6_no 2 .int ({ frames := 0, cells := 0, slots := 0, locals := 0 } : Room) [.ref h, .int (nI n)] [(h, .inr (6, .int t :: fs))] (fun r (_ : Unit) => r = nI 0) (fun _ => [(h, .inr (6, .int (nI n) :: fs))]) := by
  refine MI.of (by decide) (Nat.le_of_ble_eq_true rfl) (fun G hC hE => ?_)
  show G 0 0 [(h, .inr (6, .int t :: fs))] 0 [(0, .ref h), (1, .int (nI n))] []
  refine y_aload_n hC dX6_no_0 0 rfl rfl ?_
  refine y_iload_n hC dX6_no_1 1 rfl rfl ?_
  refine y_put hC cC6 0 (fs := .int t :: fs) rfl 0 (by decide) (inLr6 _ (List.mem_of_getElem? (i := 7) rfl)) rfl rfl rfl (by simp) dX6_no_2 ([(h, .inr (6, .int (nI n) :: fs))]) rfl ?_
  refine y_iconst hC (v := nI 0) dX6_no_5 rfl ?_
  exact hE (nI 0) () _ _ _ _ dX6_no_6 (Nat.le_of_ble_eq_true rfl) (Nat.le_of_ble_eq_true rfl) rfl rfl
set_option maxHeartbeats 4000000 in
set_option maxRecDepth 100000 in
theorem c_X6_isIn (x : Int32) (lo hi : Nat) (hlo : lo < 2 ^ 31) (hhi : hi < 2 ^ 31) : MI l D (tyL cI cO cJ cZ) yX6_isIn cX6_isIn 3 .boolean ({ frames := 0, cells := 0, slots := 0, locals := 0 } : Room) [.int x, .int (nI lo), .int (nI hi)] ([]) (fun r (u : Nat) => r = nI u ∧ ((u = 1 ∧ (lo : Int) ≤ x.toInt ∧ x.toInt ≤ hi) ∨ (u = 0 ∧ (x.toInt < lo ∨ (hi : Int) < x.toInt)))) (fun _ => []) := by
  refine MI.of (by decide) (Nat.le_of_ble_eq_true rfl) (fun G hC hE => ?_)
  show G 0 0 ([]) 0 [(0, .int x), (1, .int (nI lo)), (2, .int (nI hi))] []
  refine y_iload_n hC dX6_isIn_0 0 rfl rfl ?_
  refine y_iload_n hC dX6_isIn_1 1 rfl rfl ?_
  refine y_icmp_lt_z hC 14 dX6_isIn_2 (by decide) lo rfl (by omega) (fun c2 => ?_) (fun c2 => ?_)
  · refine y_iconst hC (v := nI 0) dX6_isIn_14 rfl ?_
    exact hE (nI 0) 0 _ _ _ _ dX6_isIn_15 (Nat.le_of_ble_eq_true rfl) (Nat.le_of_ble_eq_true rfl) rfl ⟨rfl, by omega⟩
  · refine y_iload_n hC dX6_isIn_5 0 rfl rfl ?_
    refine y_iload_n hC dX6_isIn_6 2 rfl rfl ?_
    refine y_icmp_gt_z hC 14 dX6_isIn_7 (by decide) hi rfl (by omega) (fun c7 => ?_) (fun c7 => ?_)
    · refine y_iconst hC (v := nI 0) dX6_isIn_14 rfl ?_
      exact hE (nI 0) 0 _ _ _ _ dX6_isIn_15 (Nat.le_of_ble_eq_true rfl) (Nat.le_of_ble_eq_true rfl) rfl ⟨rfl, by omega⟩
    · refine y_iconst hC (v := nI 1) dX6_isIn_10 rfl ?_
      refine y_goto hC 15 dX6_isIn_11 (by decide) ?_
      exact hE (nI 1) 1 _ _ _ _ dX6_isIn_15 (Nat.le_of_ble_eq_true rfl) (Nat.le_of_ble_eq_true rfl) rfl ⟨rfl, by omega⟩
end LEAF
end
section
/-! which exception a call on a fresh object throws: its number, 0 for none -/
def kcLet (x y : Int32) : Nat := if (0 ≤ x.toInt ∧ x.toInt ≤ 11) ∧ (0 ≤ y.toInt ∧ y.toInt ≤ 2) then 0 else 1
def kcAli (x y : Int32) : Nat := if (0 ≤ x.toInt ∧ x.toInt ≤ 11) ∧ (0 ≤ y.toInt ∧ y.toInt ≤ 11) then 0 else 1
def kcKno (x y : Int32) : Nat := if (0 ≤ x.toInt ∧ x.toInt ≤ 99) ∧ (0 ≤ y.toInt ∧ y.toInt ≤ 99) then 0 else 1
def kcFee (x y z : Int32) : Nat := if (1 ≤ x.toInt ∧ x.toInt ≤ 4) ∧ (1 ≤ y.toInt ∧ y.toInt ≤ 4) ∧ x.toInt ≠ y.toInt ∧ (0 ≤ z.toInt ∧ z.toInt ≤ 9) then 0 else 1
def kcCos (x y : Int32) : Nat := if (1 ≤ x.toInt ∧ x.toInt ≤ 9) ∧ (1 ≤ y.toInt ∧ y.toInt ≤ 9) then 0 else 1
def kcTri (x : Int32) : Nat := if x.toInt = 0 then 0 else 1
def kcCou (x : Int32) : Nat := if 0 ≤ x.toInt ∧ x.toInt ≤ 6 then 0 else 1
end
section
section P1M
variable {l : Launch} {D : va_G} {cI cO cJ cZ : ClassId}
/-- the fresh reference, but for what it threw -/
abbrev mOb (a : Nat → Nat) (t : Nat) : va_E := .inr (6, [.int (nI t), .ref (a 1), .ref (a 2), .int (nI 0), .int (nI 0), .int (nI 0), .ref (a 3), .int (nI 4), .int (nI 4), .int (nI 0), .ref (a 4), .ref (a 5), .ref (a 6), .ref (a 7), .ref (a 8), .int (nI 0), .ref (a 9), .int (nI 0), .ref (a 10), .ref (a 11), .ref (a 12), .ref (a 13), .ref (a 14)])
set_option maxHeartbeats 4000000 in
set_option maxRecDepth 100000 in
theorem p_len0  : MI l D (tyL cI cO cJ cZ) yX6_lengthOf cX6_lengthOf 1 .int ({ frames := 0, cells := 0, slots := 0, locals := 0 } : Room) [.int (nI 0)] [] (fun r (_ : Unit) => r = nI 0) (fun _ => []) := by
  refine MI.of (by decide) (Nat.le_of_ble_eq_true rfl) (fun G hC hE => ?_)
  show G 0 0 ([]) 0 [(0, .int (nI 0))] []
  refine y_iload_n hC dX6_lengthOf_0 0 rfl rfl ?_
  refine y_if_ne_n hC 8 dX6_lengthOf_1 (by decide) 0 rfl (by omega) (fun c1 => absurd c1 (by omega)) (fun c1 => ?_)
  refine y_iconst hC (v := nI 0) dX6_lengthOf_4 rfl ?_
  refine y_goto hC 17 dX6_lengthOf_5 (by decide) ?_
  exact hE (nI 0) () _ _ _ _ dX6_lengthOf_17 (Nat.le_of_ble_eq_true rfl) (Nat.le_of_ble_eq_true rfl) rfl rfl
theorem nV_X6_letterTold : yV yX6_letterTold RX6 cX6_letterTold 3 (some .int) 2 := ⟨(inLr7 _ (List.mem_of_getElem? (i := 12) rfl)), (inLr7 _ (List.mem_of_getElem? (i := 13) rfl)), (inLr1 _ (List.mem_of_getElem? (i := 5) rfl)), (inLr7 _ (List.mem_of_getElem? (i := 14) rfl)), rfl, by decide, by decide, by decide +kernel⟩
set_option maxHeartbeats 4000000 in
set_option maxRecDepth 100000 in
theorem p_told (a : Nat → Nat) (t i k : Nat) (hi : i < 12) (hk : k < 3) : MI l D (tyL cI cO cJ cZ) yX6_letterTold cX6_letterTold 3 .int ({ frames := 1, cells := 0, slots := 0, locals := 20 } : Room) [.ref (a 0), .int (nI i), .int (nI k)] [((a 0), mOb a t), ((a 1), .inl (cI, 12, .inl (fun k => nI ((fun _ => 0) k)))), ((a 2), .inl (cI, 12, .inl (fun k => nI ((fun _ => 0) k))))] (fun r (_ : Unit) => r = nI 0) (fun _ => [((a 0), mOb a t), ((a 1), .inl (cI, 12, .inl (fun k => nI ((fun _ => 0) k)))), ((a 2), .inl (cI, 12, .inl (fun k => nI ((fun _ => 0) k))))]) := by
  refine MI.of (by decide) (Nat.le_of_ble_eq_true rfl) (fun G hC hE => ?_)
  show G 0 0 [((a 0), mOb a t), ((a 1), .inl (cI, 12, .inl (fun k => nI ((fun _ => 0) k)))), ((a 2), .inl (cI, 12, .inl (fun k => nI ((fun _ => 0) k))))] 0 [(0, .ref (a 0)), (1, .int (nI i)), (2, .int (nI k))] []
  refine y_iload_n hC dX6_letterTold_0 2 rfl rfl ?_
  refine y_if_ne_n hC 13 dX6_letterTold_1 (by decide) k rfl (by omega) (fun c1 => ?_) (fun c1 => ?_)
  · refine y_iload_n hC dX6_letterTold_13 2 rfl rfl ?_
    refine y_iconst hC (v := nI 1) dX6_letterTold_14 rfl ?_
    refine y_icmp_ne_n hC 30 dX6_letterTold_15 (by decide) k 1 rfl rfl (by omega) (by omega) (fun c15 => ?_) (fun c15 => ?_)
    · refine y_aload_n hC dX6_letterTold_30 0 rfl rfl ?_
      refine y_get hC cC6 0 rfl 2 (by decide) (inLr4 _ (List.mem_of_getElem? (i := 9) rfl)) rfl dX6_letterTold_31 ?_
      refine y_iload_n hC dX6_letterTold_34 1 rfl rfl ?_
      refine y_iald hC 2 0 rfl rfl i rfl (by omega) (by decide) dX6_letterTold_35 ?_
      exact hE (nI 0) () _ _ _ _ dX6_letterTold_36 (Nat.le_of_ble_eq_true rfl) (Nat.le_of_ble_eq_true rfl) rfl rfl
    · refine y_aload_n hC dX6_letterTold_18 0 rfl rfl ?_
      refine y_get hC cC6 0 rfl 1 (by decide) (inLr4 _ (List.mem_of_getElem? (i := 8) rfl)) rfl dX6_letterTold_19 ?_
      refine y_iload_n hC dX6_letterTold_22 1 rfl rfl ?_
      refine y_iald hC 1 0 rfl rfl i rfl (by omega) (by decide) dX6_letterTold_23 ?_
      refine y_callS_i hC (As := [.int (nI 0)]) (rest := []) (p_len0) nS_X6_lengthOf (inLr7 _ (List.mem_of_getElem? (i := 15) rfl)) [] [0, 1, 2] [0, 1, 2] (fun u => [((a 0), mOb a t), ((a 1), .inl (cI, 12, .inl (fun k => nI ((fun _ => 0) k)))), ((a 2), .inl (cI, 12, .inl (fun k => nI ((fun _ => 0) k))))]) rfl rfl rfl rfl (by decide) rfl (fun _ => rfl) rfl rfl (Nat.le_of_ble_eq_true rfl) dX6_letterTold_24 ⟨(Nat.le_of_ble_eq_true rfl), (Nat.le_of_ble_eq_true rfl)⟩ ⟨(Nat.le_of_ble_eq_true rfl), (Nat.le_of_ble_eq_true rfl)⟩ (fun r1 u1 hw1 => ?_)
      subst hw1
      refine y_goto hC 36 dX6_letterTold_27 (by decide) ?_
      exact hE (nI 0) () _ _ _ _ dX6_letterTold_36 (Nat.le_of_ble_eq_true rfl) (Nat.le_of_ble_eq_true rfl) rfl rfl
  · refine y_aload_n hC dX6_letterTold_4 0 rfl rfl ?_
    refine y_get hC cC6 0 rfl 1 (by decide) (inLr4 _ (List.mem_of_getElem? (i := 8) rfl)) rfl dX6_letterTold_5 ?_
    refine y_iload_n hC dX6_letterTold_8 1 rfl rfl ?_
    refine y_iald hC 1 0 rfl rfl i rfl (by omega) (by decide) dX6_letterTold_9 ?_
    refine y_goto hC 36 dX6_letterTold_10 (by decide) ?_
    exact hE (nI 0) () _ _ _ _ dX6_letterTold_36 (Nat.le_of_ble_eq_true rfl) (Nat.le_of_ble_eq_true rfl) rfl rfl
theorem nV_X6_letter : yV yX6_letter RX6 cX6_letter 3 (some .int) 2 := ⟨(inLr7 _ (List.mem_of_getElem? (i := 8) rfl)), (inLr7 _ (List.mem_of_getElem? (i := 9) rfl)), (inLr1 _ (List.mem_of_getElem? (i := 5) rfl)), (inLr7 _ (List.mem_of_getElem? (i := 10) rfl)), rfl, by decide, by decide, by decide +kernel⟩
set_option maxHeartbeats 4000000 in
set_option maxRecDepth 100000 in
theorem p_X6_letter (a : Nat → Nat) (x : Int32) (y : Int32)  : MI l D (tyL cI cO cJ cZ) yX6_letter cX6_letter 3 .int ({ frames := 2, cells := 0, slots := 0, locals := 60 } : Room) [.ref (a 0), .int x, .int y] [((a 0), mOb a 0), ((a 1), .inl (cI, 12, .inl (fun k => nI ((fun _ => 0) k)))), ((a 2), .inl (cI, 12, .inl (fun k => nI ((fun _ => 0) k))))] (fun r u => u.1 = kcLet x y ∧ (kcLet x y = 0 → r = nI 0)) (fun (u : Nat × List Value) => [((a 0), .inr (6, .int (nI u.1) :: u.2))]) := by
  refine MI.of (by decide) (Nat.le_of_ble_eq_true rfl) (fun G hC hE => ?_)
  show G 0 0 ([((a 0), mOb a 0), ((a 1), .inl (cI, 12, .inl (fun k => nI ((fun _ => 0) k)))), ((a 2), .inl (cI, 12, .inl (fun k => nI ((fun _ => 0) k))))]) 0 [(0, .ref (a 0)), (1, .int x), (2, .int y)] []
  refine y_aload_n hC dX6_letter_0 0 rfl rfl ?_
  refine y_iconst hC (v := nI 0) dX6_letter_1 rfl ?_
  refine y_put hC cC6 0 rfl 0 (by decide) (inLr6 _ (List.mem_of_getElem? (i := 7) rfl)) rfl rfl rfl (Nat.le_of_ble_eq_true rfl) dX6_letter_2 ([((a 0), mOb a 0), ((a 1), .inl (cI, 12, .inl (fun k => nI ((fun _ => 0) k)))), ((a 2), .inl (cI, 12, .inl (fun k => nI ((fun _ => 0) k))))]) rfl ?_
  refine y_iload_n hC dX6_letter_5 1 rfl rfl ?_
  refine y_iconst hC (v := nI 0) dX6_letter_6 rfl ?_
  refine y_bipush hC (v := nI 11) dX6_letter_7 rfl ?_
  refine y_callS_i hC (As := [.int x, .int (nI 0), .int (nI 11)]) (rest := []) (c_X6_isIn (x) 0 11 (by decide) (by decide)) nS_X6_isIn (inLr6 _ (List.mem_of_getElem? (i := 8) rfl)) [] [0, 1, 2] [0, 1, 2] (fun u => [((a 0), mOb a 0), ((a 1), .inl (cI, 12, .inl (fun k => nI ((fun _ => 0) k)))), ((a 2), .inl (cI, 12, .inl (fun k => nI ((fun _ => 0) k))))]) rfl rfl rfl rfl (by decide) rfl (fun _ => rfl) rfl rfl (Nat.le_of_ble_eq_true rfl) dX6_letter_9 ⟨(Nat.le_of_ble_eq_true rfl), (Nat.le_of_ble_eq_true rfl)⟩ ⟨(Nat.le_of_ble_eq_true rfl), (Nat.le_of_ble_eq_true rfl)⟩ (fun r1 u1 hw1 => ?_)
  obtain ⟨rfl, hb_u1⟩ := hw1
  refine y_if_eq_n hC 33 dX6_letter_12 (by decide) u1 rfl (by omega) (fun c12 => ?_) (fun c12 => ?_)
  · refine y_aload_n hC dX6_letter_33 0 rfl rfl ?_
    refine y_iconst hC (v := nI 1) dX6_letter_34 rfl ?_
    refine y_callV_i hC (As := [.int (nI 1)]) (rest := []) (c_X6_no _ _ _ 1) nV_X6_no (inLr6 _ (List.mem_of_getElem? (i := 11) rfl)) [0] [1, 2] [2, 0, 1] (fun u => [((a 0), mOb a 1), ((a 1), .inl (cI, 12, .inl (fun k => nI ((fun _ => 0) k)))), ((a 2), .inl (cI, 12, .inl (fun k => nI ((fun _ => 0) k))))]) rfl rfl rfl rfl (by decide) rfl (fun _ => rfl) 0 rfl rfl rfl rfl (Nat.le_of_ble_eq_true rfl) dX6_letter_35 ⟨(Nat.le_of_ble_eq_true rfl), (Nat.le_of_ble_eq_true rfl)⟩ ⟨(Nat.le_of_ble_eq_true rfl), (Nat.le_of_ble_eq_true rfl)⟩ (fun r2 u2 hw2 => ?_)
    subst hw2
    refine y_world hC [0] (ws' := [((a 0), mOb a 1)]) rfl rfl ?_
    exact hE (nI 0) (1, _) _ _ _ _ dX6_letter_38 (Nat.le_of_ble_eq_true rfl) (Nat.le_of_ble_eq_true rfl) rfl ⟨by show (1 : Nat) = _; unfold kcLet; split <;> omega, fun _ => rfl⟩
  · refine y_iload_n hC dX6_letter_15 2 rfl rfl ?_
    refine y_iconst hC (v := nI 0) dX6_letter_16 rfl ?_
    refine y_iconst hC (v := nI 2) dX6_letter_17 rfl ?_
    refine y_callS_i hC (As := [.int y, .int (nI 0), .int (nI 2)]) (rest := []) (c_X6_isIn (y) 0 2 (by decide) (by decide)) nS_X6_isIn (inLr6 _ (List.mem_of_getElem? (i := 8) rfl)) [] [0, 1, 2] [0, 1, 2] (fun u => [((a 0), mOb a 0), ((a 1), .inl (cI, 12, .inl (fun k => nI ((fun _ => 0) k)))), ((a 2), .inl (cI, 12, .inl (fun k => nI ((fun _ => 0) k))))]) rfl rfl rfl rfl (by decide) rfl (fun _ => rfl) rfl rfl (Nat.le_of_ble_eq_true rfl) dX6_letter_18 ⟨(Nat.le_of_ble_eq_true rfl), (Nat.le_of_ble_eq_true rfl)⟩ ⟨(Nat.le_of_ble_eq_true rfl), (Nat.le_of_ble_eq_true rfl)⟩ (fun r3 u3 hw3 => ?_)
    obtain ⟨rfl, hb_u3⟩ := hw3
    refine y_if_eq_n hC 33 dX6_letter_21 (by decide) u3 rfl (by omega) (fun c21 => ?_) (fun c21 => ?_)
    · refine y_aload_n hC dX6_letter_33 0 rfl rfl ?_
      refine y_iconst hC (v := nI 1) dX6_letter_34 rfl ?_
      refine y_callV_i hC (As := [.int (nI 1)]) (rest := []) (c_X6_no _ _ _ 1) nV_X6_no (inLr6 _ (List.mem_of_getElem? (i := 11) rfl)) [0] [1, 2] [2, 0, 1] (fun u => [((a 0), mOb a 1), ((a 1), .inl (cI, 12, .inl (fun k => nI ((fun _ => 0) k)))), ((a 2), .inl (cI, 12, .inl (fun k => nI ((fun _ => 0) k))))]) rfl rfl rfl rfl (by decide) rfl (fun _ => rfl) 0 rfl rfl rfl rfl (Nat.le_of_ble_eq_true rfl) dX6_letter_35 ⟨(Nat.le_of_ble_eq_true rfl), (Nat.le_of_ble_eq_true rfl)⟩ ⟨(Nat.le_of_ble_eq_true rfl), (Nat.le_of_ble_eq_true rfl)⟩ (fun r4 u4 hw4 => ?_)
      subst hw4
      refine y_world hC [0] (ws' := [((a 0), mOb a 1)]) rfl rfl ?_
      exact hE (nI 0) (1, _) _ _ _ _ dX6_letter_38 (Nat.le_of_ble_eq_true rfl) (Nat.le_of_ble_eq_true rfl) rfl ⟨by show (1 : Nat) = _; unfold kcLet; split <;> omega, fun _ => rfl⟩
    · obtain ⟨j1, hj1, rfl⟩ := i32_nat (x := x) (n := 12) (by omega) (by omega)
      have ej1 := nI_toInt (show j1 < 2 ^ 31 by omega)
      obtain ⟨j2, hj2, rfl⟩ := i32_nat (x := y) (n := 3) (by omega) (by omega)
      have ej2 := nI_toInt (show j2 < 2 ^ 31 by omega)
      refine y_aload_n hC dX6_letter_24 0 rfl rfl ?_
      refine y_iload_n hC dX6_letter_25 1 rfl rfl ?_
      refine y_iload_n hC dX6_letter_26 2 rfl rfl ?_
      refine y_callV_i hC (As := [.int (nI j1), .int (nI j2)]) (rest := []) (p_told a 0 j1 j2 (by omega) (by omega)) nV_X6_letterTold (inLr7 _ (List.mem_of_getElem? (i := 11) rfl)) [0, 1, 2] [] [0, 1, 2] (fun u => [((a 0), mOb a 0), ((a 1), .inl (cI, 12, .inl (fun k => nI ((fun _ => 0) k)))), ((a 2), .inl (cI, 12, .inl (fun k => nI ((fun _ => 0) k))))]) rfl rfl rfl rfl (by decide) rfl (fun _ => rfl) 0 rfl rfl rfl rfl (Nat.le_of_ble_eq_true rfl) dX6_letter_27 ⟨(Nat.le_of_ble_eq_true rfl), (Nat.le_of_ble_eq_true rfl)⟩ ⟨(Nat.le_of_ble_eq_true rfl), (Nat.le_of_ble_eq_true rfl)⟩ (fun r5 u5 hw5 => ?_)
      subst hw5
      refine y_goto hC 38 dX6_letter_30 (by decide) ?_
      refine y_world hC [0] (ws' := [((a 0), mOb a 0)]) rfl rfl ?_
      exact hE (nI 0) (0, _) _ _ _ _ dX6_letter_38 (Nat.le_of_ble_eq_true rfl) (Nat.le_of_ble_eq_true rfl) rfl ⟨by show (0 : Nat) = _; unfold kcLet; split <;> omega, fun _ => rfl⟩
end P1M
end
