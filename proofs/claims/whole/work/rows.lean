section
-- ===== PART A: goes FIRST, ahead of the names: the tables' words, and 'selects' of the private methods out of them =====
/-- a private method of a class that the tables say can be made, by its rows of tables_1 -/
def lw_okq (q : MethodName × Nat) : Prop := (q.1.cls ≠ "java/lang/invoke/MethodHandle" ∧ q.1.cls ≠ "java/lang/invoke/VarHandle") ∧ Cond.instantiable q.1.cls q.2 ∈ tables_1 ∧ Cond.privateMethod q.1 ∈ tables_1 ∧ Cond.instanceMethod q.1 ∈ tables_1
theorem lw_p0 : lw_okq (⟨"PictureBlock", "isPicture", "(I)Z"⟩, 9) := ⟨⟨by decide +kernel, by decide +kernel⟩, List.mem_of_getElem? (i := 18) (by decide +kernel), List.mem_of_getElem? (i := 284) (by decide +kernel), List.mem_of_getElem? (i := 285) (by decide +kernel)⟩
theorem lw_p1 : lw_okq (⟨"PictureBlock", "error", "(I)I"⟩, 9) := ⟨⟨by decide +kernel, by decide +kernel⟩, List.mem_of_getElem? (i := 18) (by decide +kernel), List.mem_of_getElem? (i := 291) (by decide +kernel), List.mem_of_getElem? (i := 292) (by decide +kernel)⟩
theorem lw_p2 : lw_okq (⟨"PictureBlock$Block", "add", "(IIII)I"⟩, 17) := ⟨⟨by decide +kernel, by decide +kernel⟩, List.mem_of_getElem? (i := 26) (by decide +kernel), List.mem_of_getElem? (i := 296) (by decide +kernel), List.mem_of_getElem? (i := 297) (by decide +kernel)⟩
theorem lw_p3 : lw_okq (⟨"PictureBlock$Block", "turn", "(IZ)V"⟩, 17) := ⟨⟨by decide +kernel, by decide +kernel⟩, List.mem_of_getElem? (i := 26) (by decide +kernel), List.mem_of_getElem? (i := 300) (by decide +kernel), List.mem_of_getElem? (i := 301) (by decide +kernel)⟩
theorem lw_p4 : lw_okq (⟨"PictureBlock", "isMark", "(I)Z"⟩, 9) := ⟨⟨by decide +kernel, by decide +kernel⟩, List.mem_of_getElem? (i := 18) (by decide +kernel), List.mem_of_getElem? (i := 308) (by decide +kernel), List.mem_of_getElem? (i := 309) (by decide +kernel)⟩
theorem lw_p5 : lw_okq (⟨"PictureBlock$Block", "isOn", "(I)Z"⟩, 17) := ⟨⟨by decide +kernel, by decide +kernel⟩, List.mem_of_getElem? (i := 26) (by decide +kernel), List.mem_of_getElem? (i := 312) (by decide +kernel), List.mem_of_getElem? (i := 313) (by decide +kernel)⟩
theorem lw_p6 : lw_okq (⟨"PictureBlock$Block", "weightOf", "(I)I"⟩, 17) := ⟨⟨by decide +kernel, by decide +kernel⟩, List.mem_of_getElem? (i := 26) (by decide +kernel), List.mem_of_getElem? (i := 316) (by decide +kernel), List.mem_of_getElem? (i := 317) (by decide +kernel)⟩
theorem lw_p7 : lw_okq (⟨"PictureBlock$Block", "touching", "(I)I"⟩, 17) := ⟨⟨by decide +kernel, by decide +kernel⟩, List.mem_of_getElem? (i := 26) (by decide +kernel), List.mem_of_getElem? (i := 320) (by decide +kernel), List.mem_of_getElem? (i := 321) (by decide +kernel)⟩
theorem lw_p8 : lw_okq (⟨"PictureBlock$Block", "weighed", "(II)I"⟩, 17) := ⟨⟨by decide +kernel, by decide +kernel⟩, List.mem_of_getElem? (i := 26) (by decide +kernel), List.mem_of_getElem? (i := 325) (by decide +kernel), List.mem_of_getElem? (i := 326) (by decide +kernel)⟩
theorem lw_p9 : lw_okq (⟨"PictureBlock$Text", "given", "(III)I"⟩, 6) := ⟨⟨by decide +kernel, by decide +kernel⟩, List.mem_of_getElem? (i := 33) (by decide +kernel), List.mem_of_getElem? (i := 332) (by decide +kernel), List.mem_of_getElem? (i := 333) (by decide +kernel)⟩
theorem lw_p10 : lw_okq (⟨"PictureBlock$Block", "saidBy", "(I)I"⟩, 17) := ⟨⟨by decide +kernel, by decide +kernel⟩, List.mem_of_getElem? (i := 26) (by decide +kernel), List.mem_of_getElem? (i := 345) (by decide +kernel), List.mem_of_getElem? (i := 346) (by decide +kernel)⟩
theorem lw_p11 : lw_okq (⟨"PictureBlock$Block", "read", "(I)I"⟩, 17) := ⟨⟨by decide +kernel, by decide +kernel⟩, List.mem_of_getElem? (i := 26) (by decide +kernel), List.mem_of_getElem? (i := 349) (by decide +kernel), List.mem_of_getElem? (i := 350) (by decide +kernel)⟩
theorem lw_p12 : lw_okq (⟨"PictureBlock$Block", "lastPictureMarked", "()I"⟩, 17) := ⟨⟨by decide +kernel, by decide +kernel⟩, List.mem_of_getElem? (i := 26) (by decide +kernel), List.mem_of_getElem? (i := 380) (by decide +kernel), List.mem_of_getElem? (i := 381) (by decide +kernel)⟩
theorem lw_p13 : lw_okq (⟨"PictureBlock$Reader", "faultOf", "(ILjava/lang/String;)I"⟩, 6) := ⟨⟨by decide +kernel, by decide +kernel⟩, List.mem_of_getElem? (i := 142) (by decide +kernel), List.mem_of_getElem? (i := 399) (by decide +kernel), List.mem_of_getElem? (i := 400) (by decide +kernel)⟩
theorem lw_p14 : lw_okq (⟨"PictureBlock$Reader", "readOr", "(I)Z"⟩, 6) := ⟨⟨by decide +kernel, by decide +kernel⟩, List.mem_of_getElem? (i := 142) (by decide +kernel), List.mem_of_getElem? (i := 403) (by decide +kernel), List.mem_of_getElem? (i := 404) (by decide +kernel)⟩
theorem lw_p15 : lw_okq (⟨"PictureBlock$Reader", "readAnd", "(I)Z"⟩, 6) := ⟨⟨by decide +kernel, by decide +kernel⟩, List.mem_of_getElem? (i := 142) (by decide +kernel), List.mem_of_getElem? (i := 407) (by decide +kernel), List.mem_of_getElem? (i := 408) (by decide +kernel)⟩
def lw_privs_1 : List (MethodName × Nat) := [(⟨"PictureBlock", "isPicture", "(I)Z"⟩, 9), (⟨"PictureBlock", "error", "(I)I"⟩, 9), (⟨"PictureBlock$Block", "add", "(IIII)I"⟩, 17), (⟨"PictureBlock$Block", "turn", "(IZ)V"⟩, 17), (⟨"PictureBlock", "isMark", "(I)Z"⟩, 9), (⟨"PictureBlock$Block", "isOn", "(I)Z"⟩, 17), (⟨"PictureBlock$Block", "weightOf", "(I)I"⟩, 17), (⟨"PictureBlock$Block", "touching", "(I)I"⟩, 17), (⟨"PictureBlock$Block", "weighed", "(II)I"⟩, 17), (⟨"PictureBlock$Text", "given", "(III)I"⟩, 6), (⟨"PictureBlock$Block", "saidBy", "(I)I"⟩, 17), (⟨"PictureBlock$Block", "read", "(I)I"⟩, 17), (⟨"PictureBlock$Block", "lastPictureMarked", "()I"⟩, 17), (⟨"PictureBlock$Reader", "faultOf", "(ILjava/lang/String;)I"⟩, 6), (⟨"PictureBlock$Reader", "readOr", "(I)Z"⟩, 6), (⟨"PictureBlock$Reader", "readAnd", "(I)Z"⟩, 6)]
theorem lw_r1 : ∀ q ∈ lw_privs_1, lw_okq q := List.forall_mem_cons.mpr ⟨lw_p0, List.forall_mem_cons.mpr ⟨lw_p1, List.forall_mem_cons.mpr ⟨lw_p2, List.forall_mem_cons.mpr ⟨lw_p3, List.forall_mem_cons.mpr ⟨lw_p4, List.forall_mem_cons.mpr ⟨lw_p5, List.forall_mem_cons.mpr ⟨lw_p6, List.forall_mem_cons.mpr ⟨lw_p7, List.forall_mem_cons.mpr ⟨lw_p8, List.forall_mem_cons.mpr ⟨lw_p9, List.forall_mem_cons.mpr ⟨lw_p10, List.forall_mem_cons.mpr ⟨lw_p11, List.forall_mem_cons.mpr ⟨lw_p12, List.forall_mem_cons.mpr ⟨lw_p13, List.forall_mem_cons.mpr ⟨lw_p14, List.forall_mem_cons.mpr ⟨lw_p15, fun _ h => absurd h List.not_mem_nil⟩⟩⟩⟩⟩⟩⟩⟩⟩⟩⟩⟩⟩⟩⟩⟩
theorem lw_p16 : lw_okq (⟨"PictureBlock$Reader", "readCompared", "(I)Z"⟩, 6) := ⟨⟨by decide +kernel, by decide +kernel⟩, List.mem_of_getElem? (i := 142) (by decide +kernel), List.mem_of_getElem? (i := 411) (by decide +kernel), List.mem_of_getElem? (i := 412) (by decide +kernel)⟩
theorem lw_p17 : lw_okq (⟨"PictureBlock$Reader", "readAdded", "(I)Z"⟩, 6) := ⟨⟨by decide +kernel, by decide +kernel⟩, List.mem_of_getElem? (i := 142) (by decide +kernel), List.mem_of_getElem? (i := 415) (by decide +kernel), List.mem_of_getElem? (i := 416) (by decide +kernel)⟩
theorem lw_p18 : lw_okq (⟨"PictureBlock$Reader", "readMultiplied", "(I)Z"⟩, 6) := ⟨⟨by decide +kernel, by decide +kernel⟩, List.mem_of_getElem? (i := 142) (by decide +kernel), List.mem_of_getElem? (i := 419) (by decide +kernel), List.mem_of_getElem? (i := 420) (by decide +kernel)⟩
theorem lw_p19 : lw_okq (⟨"PictureBlock$Reader", "readPart", "(I)Z"⟩, 6) := ⟨⟨by decide +kernel, by decide +kernel⟩, List.mem_of_getElem? (i := 142) (by decide +kernel), List.mem_of_getElem? (i := 423) (by decide +kernel), List.mem_of_getElem? (i := 424) (by decide +kernel)⟩
theorem lw_p20 : lw_okq (⟨"PictureBlock$Reader", "next", "()I"⟩, 6) := ⟨⟨by decide +kernel, by decide +kernel⟩, List.mem_of_getElem? (i := 142) (by decide +kernel), List.mem_of_getElem? (i := 427) (by decide +kernel), List.mem_of_getElem? (i := 428) (by decide +kernel)⟩
theorem lw_p21 : lw_okq (⟨"PictureBlock$Reader", "readNumber", "()Z"⟩, 6) := ⟨⟨by decide +kernel, by decide +kernel⟩, List.mem_of_getElem? (i := 142) (by decide +kernel), List.mem_of_getElem? (i := 432) (by decide +kernel), List.mem_of_getElem? (i := 433) (by decide +kernel)⟩
theorem lw_p22 : lw_okq (⟨"PictureBlock$Reader", "write", "(I)V"⟩, 6) := ⟨⟨by decide +kernel, by decide +kernel⟩, List.mem_of_getElem? (i := 142) (by decide +kernel), List.mem_of_getElem? (i := 436) (by decide +kernel), List.mem_of_getElem? (i := 437) (by decide +kernel)⟩
theorem lw_p23 : lw_okq (⟨"PictureBlock$Reader", "readOpened", "(II)Z"⟩, 6) := ⟨⟨by decide +kernel, by decide +kernel⟩, List.mem_of_getElem? (i := 142) (by decide +kernel), List.mem_of_getElem? (i := 440) (by decide +kernel), List.mem_of_getElem? (i := 441) (by decide +kernel)⟩
theorem lw_p24 : lw_okq (⟨"PictureBlock$Text", "copy", "([II)V"⟩, 6) := ⟨⟨by decide +kernel, by decide +kernel⟩, List.mem_of_getElem? (i := 33) (by decide +kernel), List.mem_of_getElem? (i := 529) (by decide +kernel), List.mem_of_getElem? (i := 530) (by decide +kernel)⟩
theorem lw_p25 : lw_okq (⟨"PictureBlock$Text", "isThere", "()Z"⟩, 6) := ⟨⟨by decide +kernel, by decide +kernel⟩, List.mem_of_getElem? (i := 33) (by decide +kernel), List.mem_of_getElem? (i := 540) (by decide +kernel), List.mem_of_getElem? (i := 541) (by decide +kernel)⟩
theorem lw_p26 : lw_okq (⟨"PictureBlock$Text", "clear", "()V"⟩, 6) := ⟨⟨by decide +kernel, by decide +kernel⟩, List.mem_of_getElem? (i := 33) (by decide +kernel), List.mem_of_getElem? (i := 544) (by decide +kernel), List.mem_of_getElem? (i := 545) (by decide +kernel)⟩
theorem lw_p27 : lw_okq (⟨"PictureBlock$Places", "passRound", "(LPictureBlock$Block;)V"⟩, 5) := ⟨⟨by decide +kernel, by decide +kernel⟩, List.mem_of_getElem? (i := 170) (by decide +kernel), List.mem_of_getElem? (i := 557) (by decide +kernel), List.mem_of_getElem? (i := 558) (by decide +kernel)⟩
theorem lw_p28 : lw_okq (⟨"PictureBlock$Places", "find", "(LPictureBlock$Block;)Z"⟩, 5) := ⟨⟨by decide +kernel, by decide +kernel⟩, List.mem_of_getElem? (i := 170) (by decide +kernel), List.mem_of_getElem? (i := 561) (by decide +kernel), List.mem_of_getElem? (i := 562) (by decide +kernel)⟩
theorem lw_p29 : lw_okq (⟨"PictureBlock$Block", "holds", "(I)Z"⟩, 17) := ⟨⟨by decide +kernel, by decide +kernel⟩, List.mem_of_getElem? (i := 26) (by decide +kernel), List.mem_of_getElem? (i := 565) (by decide +kernel), List.mem_of_getElem? (i := 566) (by decide +kernel)⟩
theorem lw_p30 : lw_okq (⟨"PictureBlock$Block", "tiedBy", "(I)I"⟩, 17) := ⟨⟨by decide +kernel, by decide +kernel⟩, List.mem_of_getElem? (i := 26) (by decide +kernel), List.mem_of_getElem? (i := 569) (by decide +kernel), List.mem_of_getElem? (i := 570) (by decide +kernel)⟩
theorem lw_p31 : lw_okq (⟨"PictureBlock$Places", "enter", "(IIII)V"⟩, 5) := ⟨⟨by decide +kernel, by decide +kernel⟩, List.mem_of_getElem? (i := 170) (by decide +kernel), List.mem_of_getElem? (i := 576) (by decide +kernel), List.mem_of_getElem? (i := 577) (by decide +kernel)⟩
def lw_privs_2 : List (MethodName × Nat) := [(⟨"PictureBlock$Reader", "readCompared", "(I)Z"⟩, 6), (⟨"PictureBlock$Reader", "readAdded", "(I)Z"⟩, 6), (⟨"PictureBlock$Reader", "readMultiplied", "(I)Z"⟩, 6), (⟨"PictureBlock$Reader", "readPart", "(I)Z"⟩, 6), (⟨"PictureBlock$Reader", "next", "()I"⟩, 6), (⟨"PictureBlock$Reader", "readNumber", "()Z"⟩, 6), (⟨"PictureBlock$Reader", "write", "(I)V"⟩, 6), (⟨"PictureBlock$Reader", "readOpened", "(II)Z"⟩, 6), (⟨"PictureBlock$Text", "copy", "([II)V"⟩, 6), (⟨"PictureBlock$Text", "isThere", "()Z"⟩, 6), (⟨"PictureBlock$Text", "clear", "()V"⟩, 6), (⟨"PictureBlock$Places", "passRound", "(LPictureBlock$Block;)V"⟩, 5), (⟨"PictureBlock$Places", "find", "(LPictureBlock$Block;)Z"⟩, 5), (⟨"PictureBlock$Block", "holds", "(I)Z"⟩, 17), (⟨"PictureBlock$Block", "tiedBy", "(I)I"⟩, 17), (⟨"PictureBlock$Places", "enter", "(IIII)V"⟩, 5)]
theorem lw_r2 : ∀ q ∈ lw_privs_2, lw_okq q := List.forall_mem_cons.mpr ⟨lw_p16, List.forall_mem_cons.mpr ⟨lw_p17, List.forall_mem_cons.mpr ⟨lw_p18, List.forall_mem_cons.mpr ⟨lw_p19, List.forall_mem_cons.mpr ⟨lw_p20, List.forall_mem_cons.mpr ⟨lw_p21, List.forall_mem_cons.mpr ⟨lw_p22, List.forall_mem_cons.mpr ⟨lw_p23, List.forall_mem_cons.mpr ⟨lw_p24, List.forall_mem_cons.mpr ⟨lw_p25, List.forall_mem_cons.mpr ⟨lw_p26, List.forall_mem_cons.mpr ⟨lw_p27, List.forall_mem_cons.mpr ⟨lw_p28, List.forall_mem_cons.mpr ⟨lw_p29, List.forall_mem_cons.mpr ⟨lw_p30, List.forall_mem_cons.mpr ⟨lw_p31, fun _ h => absurd h List.not_mem_nil⟩⟩⟩⟩⟩⟩⟩⟩⟩⟩⟩⟩⟩⟩⟩⟩
theorem lw_p32 : lw_okq (⟨"PictureBlock$Places", "solve", "(I)V"⟩, 5) := ⟨⟨by decide +kernel, by decide +kernel⟩, List.mem_of_getElem? (i := 170) (by decide +kernel), List.mem_of_getElem? (i := 580) (by decide +kernel), List.mem_of_getElem? (i := 581) (by decide +kernel)⟩
theorem lw_p33 : lw_okq (⟨"PictureBlock$Places", "mostDoubted", "(LPictureBlock$Block;)I"⟩, 5) := ⟨⟨by decide +kernel, by decide +kernel⟩, List.mem_of_getElem? (i := 170) (by decide +kernel), List.mem_of_getElem? (i := 590) (by decide +kernel), List.mem_of_getElem? (i := 591) (by decide +kernel)⟩
theorem lw_p34 : lw_okq (⟨"PictureBlock$Places", "doubtAbove", "(LPictureBlock$Block;I)J"⟩, 5) := ⟨⟨by decide +kernel, by decide +kernel⟩, List.mem_of_getElem? (i := 170) (by decide +kernel), List.mem_of_getElem? (i := 595) (by decide +kernel), List.mem_of_getElem? (i := 596) (by decide +kernel)⟩
theorem lw_p35 : lw_okq (⟨"PictureBlock$Places", "missAbove", "(LPictureBlock$Block;II)J"⟩, 5) := ⟨⟨by decide +kernel, by decide +kernel⟩, List.mem_of_getElem? (i := 170) (by decide +kernel), List.mem_of_getElem? (i := 599) (by decide +kernel), List.mem_of_getElem? (i := 600) (by decide +kernel)⟩
theorem lw_p36 : lw_okq (⟨"PictureBlock$Block", "drawMark", "()V"⟩, 17) := ⟨⟨by decide +kernel, by decide +kernel⟩, List.mem_of_getElem? (i := 26) (by decide +kernel), List.mem_of_getElem? (i := 618) (by decide +kernel), List.mem_of_getElem? (i := 619) (by decide +kernel)⟩
theorem lw_p37 : lw_okq (⟨"PictureBlock$Block", "draw", "()I"⟩, 17) := ⟨⟨by decide +kernel, by decide +kernel⟩, List.mem_of_getElem? (i := 26) (by decide +kernel), List.mem_of_getElem? (i := 622) (by decide +kernel), List.mem_of_getElem? (i := 623) (by decide +kernel)⟩
theorem lw_p38 : lw_okq (⟨"PictureBlock$Places", "sumAbove", "(LPictureBlock$Block;)J"⟩, 5) := ⟨⟨by decide +kernel, by decide +kernel⟩, List.mem_of_getElem? (i := 170) (by decide +kernel), List.mem_of_getElem? (i := 660) (by decide +kernel), List.mem_of_getElem? (i := 661) (by decide +kernel)⟩
theorem lw_p39 : lw_okq (⟨"PictureBlock$Block", "weightOfAll", "(I)I"⟩, 17) := ⟨⟨by decide +kernel, by decide +kernel⟩, List.mem_of_getElem? (i := 26) (by decide +kernel), List.mem_of_getElem? (i := 678) (by decide +kernel), List.mem_of_getElem? (i := 679) (by decide +kernel)⟩
theorem lw_p40 : lw_okq (⟨"PictureBlock$Block", "copy", "(LPictureBlock$Block;)V"⟩, 17) := ⟨⟨by decide +kernel, by decide +kernel⟩, List.mem_of_getElem? (i := 26) (by decide +kernel), List.mem_of_getElem? (i := 687) (by decide +kernel), List.mem_of_getElem? (i := 688) (by decide +kernel)⟩
theorem lw_p41 : lw_okq (⟨"PictureBlock", "roundsUntilOff", "(II)I"⟩, 9) := ⟨⟨by decide +kernel, by decide +kernel⟩, List.mem_of_getElem? (i := 18) (by decide +kernel), List.mem_of_getElem? (i := 697) (by decide +kernel), List.mem_of_getElem? (i := 698) (by decide +kernel)⟩
theorem lw_p42 : lw_okq (⟨"PictureBlock$Places", "leastLimit", "(LPictureBlock$Block;)J"⟩, 5) := ⟨⟨by decide +kernel, by decide +kernel⟩, List.mem_of_getElem? (i := 170) (by decide +kernel), List.mem_of_getElem? (i := 705) (by decide +kernel), List.mem_of_getElem? (i := 706) (by decide +kernel)⟩
theorem lw_p43 : lw_okq (⟨"PictureBlock$Sheets", "isMissing", "(I)Z"⟩, 3) := ⟨⟨by decide +kernel, by decide +kernel⟩, List.mem_of_getElem? (i := 225) (by decide +kernel), List.mem_of_getElem? (i := 730) (by decide +kernel), List.mem_of_getElem? (i := 731) (by decide +kernel)⟩
theorem lw_p44 : lw_okq (⟨"PictureBlock", "goesAsSheetTells", "(I)Z"⟩, 9) := ⟨⟨by decide +kernel, by decide +kernel⟩, List.mem_of_getElem? (i := 18) (by decide +kernel), List.mem_of_getElem? (i := 734) (by decide +kernel), List.mem_of_getElem? (i := 735) (by decide +kernel)⟩
theorem lw_p45 : lw_okq (⟨"PictureBlock$Voices", "answerOf", "(IIIII)I"⟩, 6) := ⟨⟨by decide +kernel, by decide +kernel⟩, List.mem_of_getElem? (i := 197) (by decide +kernel), List.mem_of_getElem? (i := 742) (by decide +kernel), List.mem_of_getElem? (i := 743) (by decide +kernel)⟩
theorem lw_p46 : lw_okq (⟨"PictureBlock$Voices", "spoken", "(IIII)I"⟩, 6) := ⟨⟨by decide +kernel, by decide +kernel⟩, List.mem_of_getElem? (i := 197) (by decide +kernel), List.mem_of_getElem? (i := 746) (by decide +kernel), List.mem_of_getElem? (i := 747) (by decide +kernel)⟩
theorem lw_p47 : lw_okq (⟨"PictureBlock$Voices", "worked", "(III)I"⟩, 6) := ⟨⟨by decide +kernel, by decide +kernel⟩, List.mem_of_getElem? (i := 197) (by decide +kernel), List.mem_of_getElem? (i := 753) (by decide +kernel), List.mem_of_getElem? (i := 754) (by decide +kernel)⟩
def lw_privs_3 : List (MethodName × Nat) := [(⟨"PictureBlock$Places", "solve", "(I)V"⟩, 5), (⟨"PictureBlock$Places", "mostDoubted", "(LPictureBlock$Block;)I"⟩, 5), (⟨"PictureBlock$Places", "doubtAbove", "(LPictureBlock$Block;I)J"⟩, 5), (⟨"PictureBlock$Places", "missAbove", "(LPictureBlock$Block;II)J"⟩, 5), (⟨"PictureBlock$Block", "drawMark", "()V"⟩, 17), (⟨"PictureBlock$Block", "draw", "()I"⟩, 17), (⟨"PictureBlock$Places", "sumAbove", "(LPictureBlock$Block;)J"⟩, 5), (⟨"PictureBlock$Block", "weightOfAll", "(I)I"⟩, 17), (⟨"PictureBlock$Block", "copy", "(LPictureBlock$Block;)V"⟩, 17), (⟨"PictureBlock", "roundsUntilOff", "(II)I"⟩, 9), (⟨"PictureBlock$Places", "leastLimit", "(LPictureBlock$Block;)J"⟩, 5), (⟨"PictureBlock$Sheets", "isMissing", "(I)Z"⟩, 3), (⟨"PictureBlock", "goesAsSheetTells", "(I)Z"⟩, 9), (⟨"PictureBlock$Voices", "answerOf", "(IIIII)I"⟩, 6), (⟨"PictureBlock$Voices", "spoken", "(IIII)I"⟩, 6), (⟨"PictureBlock$Voices", "worked", "(III)I"⟩, 6)]
theorem lw_r3 : ∀ q ∈ lw_privs_3, lw_okq q := List.forall_mem_cons.mpr ⟨lw_p32, List.forall_mem_cons.mpr ⟨lw_p33, List.forall_mem_cons.mpr ⟨lw_p34, List.forall_mem_cons.mpr ⟨lw_p35, List.forall_mem_cons.mpr ⟨lw_p36, List.forall_mem_cons.mpr ⟨lw_p37, List.forall_mem_cons.mpr ⟨lw_p38, List.forall_mem_cons.mpr ⟨lw_p39, List.forall_mem_cons.mpr ⟨lw_p40, List.forall_mem_cons.mpr ⟨lw_p41, List.forall_mem_cons.mpr ⟨lw_p42, List.forall_mem_cons.mpr ⟨lw_p43, List.forall_mem_cons.mpr ⟨lw_p44, List.forall_mem_cons.mpr ⟨lw_p45, List.forall_mem_cons.mpr ⟨lw_p46, List.forall_mem_cons.mpr ⟨lw_p47, fun _ h => absurd h List.not_mem_nil⟩⟩⟩⟩⟩⟩⟩⟩⟩⟩⟩⟩⟩⟩⟩⟩
theorem lw_p48 : lw_okq (⟨"PictureBlock$Voices", "partOfDifference", "(I)I"⟩, 6) := ⟨⟨by decide +kernel, by decide +kernel⟩, List.mem_of_getElem? (i := 197) (by decide +kernel), List.mem_of_getElem? (i := 757) (by decide +kernel), List.mem_of_getElem? (i := 758) (by decide +kernel)⟩
theorem lw_p49 : lw_okq (⟨"PictureBlock$Sheets", "lay", "(III)V"⟩, 3) := ⟨⟨by decide +kernel, by decide +kernel⟩, List.mem_of_getElem? (i := 225) (by decide +kernel), List.mem_of_getElem? (i := 769) (by decide +kernel), List.mem_of_getElem? (i := 770) (by decide +kernel)⟩
theorem lw_p50 : lw_okq (⟨"PictureBlock$Sheets", "write", "(III)V"⟩, 3) := ⟨⟨by decide +kernel, by decide +kernel⟩, List.mem_of_getElem? (i := 225) (by decide +kernel), List.mem_of_getElem? (i := 777) (by decide +kernel), List.mem_of_getElem? (i := 778) (by decide +kernel)⟩
theorem lw_p51 : lw_okq (⟨"PictureBlock$Sheets", "stand", "(III)Z"⟩, 3) := ⟨⟨by decide +kernel, by decide +kernel⟩, List.mem_of_getElem? (i := 225) (by decide +kernel), List.mem_of_getElem? (i := 785) (by decide +kernel), List.mem_of_getElem? (i := 786) (by decide +kernel)⟩
theorem lw_p52 : lw_okq (⟨"PictureBlockModel", "isPicture", "(I)Z"⟩, 24) := ⟨⟨by decide +kernel, by decide +kernel⟩, List.mem_of_getElem? (i := 824) (by decide +kernel), List.mem_of_getElem? (i := 913) (by decide +kernel), List.mem_of_getElem? (i := 914) (by decide +kernel)⟩
theorem lw_p53 : lw_okq (⟨"PictureBlockModel", "error", "(I)I"⟩, 24) := ⟨⟨by decide +kernel, by decide +kernel⟩, List.mem_of_getElem? (i := 824) (by decide +kernel), List.mem_of_getElem? (i := 918) (by decide +kernel), List.mem_of_getElem? (i := 919) (by decide +kernel)⟩
theorem lw_p54 : lw_okq (⟨"PictureBlockModel", "puts", "(III)V"⟩, 24) := ⟨⟨by decide +kernel, by decide +kernel⟩, List.mem_of_getElem? (i := 824) (by decide +kernel), List.mem_of_getElem? (i := 924) (by decide +kernel), List.mem_of_getElem? (i := 925) (by decide +kernel)⟩
theorem lw_p55 : lw_okq (⟨"PictureBlockModel", "isMark", "(I)Z"⟩, 24) := ⟨⟨by decide +kernel, by decide +kernel⟩, List.mem_of_getElem? (i := 824) (by decide +kernel), List.mem_of_getElem? (i := 932) (by decide +kernel), List.mem_of_getElem? (i := 933) (by decide +kernel)⟩
theorem lw_p56 : lw_okq (⟨"PictureBlockModel", "of", "(II)I"⟩, 24) := ⟨⟨by decide +kernel, by decide +kernel⟩, List.mem_of_getElem? (i := 824) (by decide +kernel), List.mem_of_getElem? (i := 936) (by decide +kernel), List.mem_of_getElem? (i := 937) (by decide +kernel)⟩
theorem lw_p57 : lw_okq (⟨"PictureBlockModel", "weight", "(I)I"⟩, 24) := ⟨⟨by decide +kernel, by decide +kernel⟩, List.mem_of_getElem? (i := 824) (by decide +kernel), List.mem_of_getElem? (i := 940) (by decide +kernel), List.mem_of_getElem? (i := 941) (by decide +kernel)⟩
theorem lw_p58 : lw_okq (⟨"PictureBlockModel", "weighsBy", "(I)I"⟩, 24) := ⟨⟨by decide +kernel, by decide +kernel⟩, List.mem_of_getElem? (i := 824) (by decide +kernel), List.mem_of_getElem? (i := 944) (by decide +kernel), List.mem_of_getElem? (i := 945) (by decide +kernel)⟩
theorem lw_p59 : lw_okq (⟨"PictureBlockModel", "touching", "(I)I"⟩, 24) := ⟨⟨by decide +kernel, by decide +kernel⟩, List.mem_of_getElem? (i := 824) (by decide +kernel), List.mem_of_getElem? (i := 948) (by decide +kernel), List.mem_of_getElem? (i := 949) (by decide +kernel)⟩
theorem lw_p60 : lw_okq (⟨"PictureBlockModel", "gives", "(IIII)I"⟩, 24) := ⟨⟨by decide +kernel, by decide +kernel⟩, List.mem_of_getElem? (i := 824) (by decide +kernel), List.mem_of_getElem? (i := 952) (by decide +kernel), List.mem_of_getElem? (i := 953) (by decide +kernel)⟩
theorem lw_p61 : lw_okq (⟨"PictureBlockModel", "works", "(I)I"⟩, 24) := ⟨⟨by decide +kernel, by decide +kernel⟩, List.mem_of_getElem? (i := 824) (by decide +kernel), List.mem_of_getElem? (i := 956) (by decide +kernel), List.mem_of_getElem? (i := 957) (by decide +kernel)⟩
theorem lw_p62 : lw_okq (⟨"PictureBlockModel", "saysOf", "(I)I"⟩, 24) := ⟨⟨by decide +kernel, by decide +kernel⟩, List.mem_of_getElem? (i := 824) (by decide +kernel), List.mem_of_getElem? (i := 966) (by decide +kernel), List.mem_of_getElem? (i := 967) (by decide +kernel)⟩
theorem lw_p63 : lw_okq (⟨"PictureBlockModel", "readBy", "(I)I"⟩, 24) := ⟨⟨by decide +kernel, by decide +kernel⟩, List.mem_of_getElem? (i := 824) (by decide +kernel), List.mem_of_getElem? (i := 970) (by decide +kernel), List.mem_of_getElem? (i := 971) (by decide +kernel)⟩
def lw_privs_4 : List (MethodName × Nat) := [(⟨"PictureBlock$Voices", "partOfDifference", "(I)I"⟩, 6), (⟨"PictureBlock$Sheets", "lay", "(III)V"⟩, 3), (⟨"PictureBlock$Sheets", "write", "(III)V"⟩, 3), (⟨"PictureBlock$Sheets", "stand", "(III)Z"⟩, 3), (⟨"PictureBlockModel", "isPicture", "(I)Z"⟩, 24), (⟨"PictureBlockModel", "error", "(I)I"⟩, 24), (⟨"PictureBlockModel", "puts", "(III)V"⟩, 24), (⟨"PictureBlockModel", "isMark", "(I)Z"⟩, 24), (⟨"PictureBlockModel", "of", "(II)I"⟩, 24), (⟨"PictureBlockModel", "weight", "(I)I"⟩, 24), (⟨"PictureBlockModel", "weighsBy", "(I)I"⟩, 24), (⟨"PictureBlockModel", "touching", "(I)I"⟩, 24), (⟨"PictureBlockModel", "gives", "(IIII)I"⟩, 24), (⟨"PictureBlockModel", "works", "(I)I"⟩, 24), (⟨"PictureBlockModel", "saysOf", "(I)I"⟩, 24), (⟨"PictureBlockModel", "readBy", "(I)I"⟩, 24)]
theorem lw_r4 : ∀ q ∈ lw_privs_4, lw_okq q := List.forall_mem_cons.mpr ⟨lw_p48, List.forall_mem_cons.mpr ⟨lw_p49, List.forall_mem_cons.mpr ⟨lw_p50, List.forall_mem_cons.mpr ⟨lw_p51, List.forall_mem_cons.mpr ⟨lw_p52, List.forall_mem_cons.mpr ⟨lw_p53, List.forall_mem_cons.mpr ⟨lw_p54, List.forall_mem_cons.mpr ⟨lw_p55, List.forall_mem_cons.mpr ⟨lw_p56, List.forall_mem_cons.mpr ⟨lw_p57, List.forall_mem_cons.mpr ⟨lw_p58, List.forall_mem_cons.mpr ⟨lw_p59, List.forall_mem_cons.mpr ⟨lw_p60, List.forall_mem_cons.mpr ⟨lw_p61, List.forall_mem_cons.mpr ⟨lw_p62, List.forall_mem_cons.mpr ⟨lw_p63, fun _ h => absurd h List.not_mem_nil⟩⟩⟩⟩⟩⟩⟩⟩⟩⟩⟩⟩⟩⟩⟩⟩
theorem lw_p64 : lw_okq (⟨"PictureBlockModel", "becomes", "(II)I"⟩, 24) := ⟨⟨by decide +kernel, by decide +kernel⟩, List.mem_of_getElem? (i := 824) (by decide +kernel), List.mem_of_getElem? (i := 978) (by decide +kernel), List.mem_of_getElem? (i := 979) (by decide +kernel)⟩
theorem lw_p65 : lw_okq (⟨"PictureBlockModel", "any", "()V"⟩, 24) := ⟨⟨by decide +kernel, by decide +kernel⟩, List.mem_of_getElem? (i := 824) (by decide +kernel), List.mem_of_getElem? (i := 1013) (by decide +kernel), List.mem_of_getElem? (i := 1014) (by decide +kernel)⟩
theorem lw_p66 : lw_okq (⟨"PictureBlockModel", "all", "()V"⟩, 24) := ⟨⟨by decide +kernel, by decide +kernel⟩, List.mem_of_getElem? (i := 824) (by decide +kernel), List.mem_of_getElem? (i := 1017) (by decide +kernel), List.mem_of_getElem? (i := 1018) (by decide +kernel)⟩
theorem lw_p67 : lw_okq (⟨"PictureBlockModel", "compares", "()V"⟩, 24) := ⟨⟨by decide +kernel, by decide +kernel⟩, List.mem_of_getElem? (i := 824) (by decide +kernel), List.mem_of_getElem? (i := 1021) (by decide +kernel), List.mem_of_getElem? (i := 1022) (by decide +kernel)⟩
theorem lw_p68 : lw_okq (⟨"PictureBlockModel", "sumBy", "()V"⟩, 24) := ⟨⟨by decide +kernel, by decide +kernel⟩, List.mem_of_getElem? (i := 824) (by decide +kernel), List.mem_of_getElem? (i := 1025) (by decide +kernel), List.mem_of_getElem? (i := 1026) (by decide +kernel)⟩
theorem lw_p69 : lw_okq (⟨"PictureBlockModel", "times", "()V"⟩, 24) := ⟨⟨by decide +kernel, by decide +kernel⟩, List.mem_of_getElem? (i := 824) (by decide +kernel), List.mem_of_getElem? (i := 1029) (by decide +kernel), List.mem_of_getElem? (i := 1030) (by decide +kernel)⟩
theorem lw_p70 : lw_okq (⟨"PictureBlockModel", "one", "()V"⟩, 24) := ⟨⟨by decide +kernel, by decide +kernel⟩, List.mem_of_getElem? (i := 824) (by decide +kernel), List.mem_of_getElem? (i := 1033) (by decide +kernel), List.mem_of_getElem? (i := 1034) (by decide +kernel)⟩
theorem lw_p71 : lw_okq (⟨"PictureBlockModel", "look", "()I"⟩, 24) := ⟨⟨by decide +kernel, by decide +kernel⟩, List.mem_of_getElem? (i := 824) (by decide +kernel), List.mem_of_getElem? (i := 1037) (by decide +kernel), List.mem_of_getElem? (i := 1038) (by decide +kernel)⟩
theorem lw_p72 : lw_okq (⟨"PictureBlockModel", "nameOf", "(I)I"⟩, 24) := ⟨⟨by decide +kernel, by decide +kernel⟩, List.mem_of_getElem? (i := 824) (by decide +kernel), List.mem_of_getElem? (i := 1041) (by decide +kernel), List.mem_of_getElem? (i := 1042) (by decide +kernel)⟩
theorem lw_p73 : lw_okq (⟨"PictureBlockModel", "lays", "(II)V"⟩, 24) := ⟨⟨by decide +kernel, by decide +kernel⟩, List.mem_of_getElem? (i := 824) (by decide +kernel), List.mem_of_getElem? (i := 1045) (by decide +kernel), List.mem_of_getElem? (i := 1046) (by decide +kernel)⟩
theorem lw_p74 : lw_okq (⟨"PictureBlockModel", "opens", "(I)V"⟩, 24) := ⟨⟨by decide +kernel, by decide +kernel⟩, List.mem_of_getElem? (i := 824) (by decide +kernel), List.mem_of_getElem? (i := 1049) (by decide +kernel), List.mem_of_getElem? (i := 1050) (by decide +kernel)⟩
theorem lw_p75 : lw_okq (⟨"PictureBlockModel", "number", "()V"⟩, 24) := ⟨⟨by decide +kernel, by decide +kernel⟩, List.mem_of_getElem? (i := 824) (by decide +kernel), List.mem_of_getElem? (i := 1053) (by decide +kernel), List.mem_of_getElem? (i := 1054) (by decide +kernel)⟩
theorem lw_p76 : lw_okq (⟨"PictureBlockModel", "goesFor", "(I)V"⟩, 24) := ⟨⟨by decide +kernel, by decide +kernel⟩, List.mem_of_getElem? (i := 824) (by decide +kernel), List.mem_of_getElem? (i := 1069) (by decide +kernel), List.mem_of_getElem? (i := 1070) (by decide +kernel)⟩
theorem lw_p77 : lw_okq (⟨"PictureBlockModel", "goes", "()V"⟩, 24) := ⟨⟨by decide +kernel, by decide +kernel⟩, List.mem_of_getElem? (i := 824) (by decide +kernel), List.mem_of_getElem? (i := 1073) (by decide +kernel), List.mem_of_getElem? (i := 1074) (by decide +kernel)⟩
theorem lw_p78 : lw_okq (⟨"PictureBlockModel", "isSolved", "()Z"⟩, 24) := ⟨⟨by decide +kernel, by decide +kernel⟩, List.mem_of_getElem? (i := 824) (by decide +kernel), List.mem_of_getElem? (i := 1077) (by decide +kernel), List.mem_of_getElem? (i := 1078) (by decide +kernel)⟩
theorem lw_p79 : lw_okq (⟨"PictureBlockModel", "onOnes", "()I"⟩, 24) := ⟨⟨by decide +kernel, by decide +kernel⟩, List.mem_of_getElem? (i := 824) (by decide +kernel), List.mem_of_getElem? (i := 1081) (by decide +kernel), List.mem_of_getElem? (i := 1082) (by decide +kernel)⟩
def lw_privs_5 : List (MethodName × Nat) := [(⟨"PictureBlockModel", "becomes", "(II)I"⟩, 24), (⟨"PictureBlockModel", "any", "()V"⟩, 24), (⟨"PictureBlockModel", "all", "()V"⟩, 24), (⟨"PictureBlockModel", "compares", "()V"⟩, 24), (⟨"PictureBlockModel", "sumBy", "()V"⟩, 24), (⟨"PictureBlockModel", "times", "()V"⟩, 24), (⟨"PictureBlockModel", "one", "()V"⟩, 24), (⟨"PictureBlockModel", "look", "()I"⟩, 24), (⟨"PictureBlockModel", "nameOf", "(I)I"⟩, 24), (⟨"PictureBlockModel", "lays", "(II)V"⟩, 24), (⟨"PictureBlockModel", "opens", "(I)V"⟩, 24), (⟨"PictureBlockModel", "number", "()V"⟩, 24), (⟨"PictureBlockModel", "goesFor", "(I)V"⟩, 24), (⟨"PictureBlockModel", "goes", "()V"⟩, 24), (⟨"PictureBlockModel", "isSolved", "()Z"⟩, 24), (⟨"PictureBlockModel", "onOnes", "()I"⟩, 24)]
theorem lw_r5 : ∀ q ∈ lw_privs_5, lw_okq q := List.forall_mem_cons.mpr ⟨lw_p64, List.forall_mem_cons.mpr ⟨lw_p65, List.forall_mem_cons.mpr ⟨lw_p66, List.forall_mem_cons.mpr ⟨lw_p67, List.forall_mem_cons.mpr ⟨lw_p68, List.forall_mem_cons.mpr ⟨lw_p69, List.forall_mem_cons.mpr ⟨lw_p70, List.forall_mem_cons.mpr ⟨lw_p71, List.forall_mem_cons.mpr ⟨lw_p72, List.forall_mem_cons.mpr ⟨lw_p73, List.forall_mem_cons.mpr ⟨lw_p74, List.forall_mem_cons.mpr ⟨lw_p75, List.forall_mem_cons.mpr ⟨lw_p76, List.forall_mem_cons.mpr ⟨lw_p77, List.forall_mem_cons.mpr ⟨lw_p78, List.forall_mem_cons.mpr ⟨lw_p79, fun _ h => absurd h List.not_mem_nil⟩⟩⟩⟩⟩⟩⟩⟩⟩⟩⟩⟩⟩⟩⟩⟩
theorem lw_p80 : lw_okq (⟨"PictureBlockModel", "doesHold", "(I)Z"⟩, 24) := ⟨⟨by decide +kernel, by decide +kernel⟩, List.mem_of_getElem? (i := 824) (by decide +kernel), List.mem_of_getElem? (i := 1085) (by decide +kernel), List.mem_of_getElem? (i := 1086) (by decide +kernel)⟩
theorem lw_p81 : lw_okq (⟨"PictureBlockModel", "tiedBy", "(I)I"⟩, 24) := ⟨⟨by decide +kernel, by decide +kernel⟩, List.mem_of_getElem? (i := 824) (by decide +kernel), List.mem_of_getElem? (i := 1089) (by decide +kernel), List.mem_of_getElem? (i := 1090) (by decide +kernel)⟩
theorem lw_p82 : lw_okq (⟨"PictureBlockModel", "adds", "(I)V"⟩, 24) := ⟨⟨by decide +kernel, by decide +kernel⟩, List.mem_of_getElem? (i := 824) (by decide +kernel), List.mem_of_getElem? (i := 1093) (by decide +kernel), List.mem_of_getElem? (i := 1094) (by decide +kernel)⟩
theorem lw_p83 : lw_okq (⟨"PictureBlockModel", "det", "(III)J"⟩, 24) := ⟨⟨by decide +kernel, by decide +kernel⟩, List.mem_of_getElem? (i := 824) (by decide +kernel), List.mem_of_getElem? (i := 1097) (by decide +kernel), List.mem_of_getElem? (i := 1098) (by decide +kernel)⟩
theorem lw_p84 : lw_okq (⟨"PictureBlockModel", "mostDoubted", "()I"⟩, 24) := ⟨⟨by decide +kernel, by decide +kernel⟩, List.mem_of_getElem? (i := 824) (by decide +kernel), List.mem_of_getElem? (i := 1101) (by decide +kernel), List.mem_of_getElem? (i := 1102) (by decide +kernel)⟩
theorem lw_p85 : lw_okq (⟨"PictureBlockModel", "doubt", "(I)J"⟩, 24) := ⟨⟨by decide +kernel, by decide +kernel⟩, List.mem_of_getElem? (i := 824) (by decide +kernel), List.mem_of_getElem? (i := 1105) (by decide +kernel), List.mem_of_getElem? (i := 1106) (by decide +kernel)⟩
theorem lw_p86 : lw_okq (⟨"PictureBlockModel", "missOf", "(I)J"⟩, 24) := ⟨⟨by decide +kernel, by decide +kernel⟩, List.mem_of_getElem? (i := 824) (by decide +kernel), List.mem_of_getElem? (i := 1109) (by decide +kernel), List.mem_of_getElem? (i := 1110) (by decide +kernel)⟩
theorem lw_p87 : lw_okq (⟨"PictureBlockModel", "drawn", "()V"⟩, 24) := ⟨⟨by decide +kernel, by decide +kernel⟩, List.mem_of_getElem? (i := 824) (by decide +kernel), List.mem_of_getElem? (i := 1120) (by decide +kernel), List.mem_of_getElem? (i := 1121) (by decide +kernel)⟩
theorem lw_p88 : lw_okq (⟨"PictureBlockModel", "draw", "()I"⟩, 24) := ⟨⟨by decide +kernel, by decide +kernel⟩, List.mem_of_getElem? (i := 824) (by decide +kernel), List.mem_of_getElem? (i := 1124) (by decide +kernel), List.mem_of_getElem? (i := 1125) (by decide +kernel)⟩
theorem lw_p89 : lw_okq (⟨"PictureBlockModel", "allMiss", "()J"⟩, 24) := ⟨⟨by decide +kernel, by decide +kernel⟩, List.mem_of_getElem? (i := 824) (by decide +kernel), List.mem_of_getElem? (i := 1155) (by decide +kernel), List.mem_of_getElem? (i := 1156) (by decide +kernel)⟩
theorem lw_p90 : lw_okq (⟨"PictureBlockModel", "weightOf", "(I)I"⟩, 24) := ⟨⟨by decide +kernel, by decide +kernel⟩, List.mem_of_getElem? (i := 824) (by decide +kernel), List.mem_of_getElem? (i := 1171) (by decide +kernel), List.mem_of_getElem? (i := 1172) (by decide +kernel)⟩
theorem lw_p91 : lw_okq (⟨"PictureBlockModel", "thinks", "()V"⟩, 24) := ⟨⟨by decide +kernel, by decide +kernel⟩, List.mem_of_getElem? (i := 824) (by decide +kernel), List.mem_of_getElem? (i := 1179) (by decide +kernel), List.mem_of_getElem? (i := 1180) (by decide +kernel)⟩
theorem lw_p92 : lw_okq (⟨"PictureBlockModel", "putsBack", "()V"⟩, 24) := ⟨⟨by decide +kernel, by decide +kernel⟩, List.mem_of_getElem? (i := 824) (by decide +kernel), List.mem_of_getElem? (i := 1186) (by decide +kernel), List.mem_of_getElem? (i := 1187) (by decide +kernel)⟩
theorem lw_p93 : lw_okq (⟨"PictureBlockModel", "doStay", "(I)Z"⟩, 24) := ⟨⟨by decide +kernel, by decide +kernel⟩, List.mem_of_getElem? (i := 824) (by decide +kernel), List.mem_of_getElem? (i := 1199) (by decide +kernel), List.mem_of_getElem? (i := 1200) (by decide +kernel)⟩
theorem lw_p94 : lw_okq (⟨"PictureBlockModel", "isSo", "(I)Z"⟩, 24) := ⟨⟨by decide +kernel, by decide +kernel⟩, List.mem_of_getElem? (i := 824) (by decide +kernel), List.mem_of_getElem? (i := 1220) (by decide +kernel), List.mem_of_getElem? (i := 1221) (by decide +kernel)⟩
theorem lw_p95 : lw_okq (⟨"PictureBlockModel", "weighs", "(II)I"⟩, 24) := ⟨⟨by decide +kernel, by decide +kernel⟩, List.mem_of_getElem? (i := 824) (by decide +kernel), List.mem_of_getElem? (i := 1228) (by decide +kernel), List.mem_of_getElem? (i := 1229) (by decide +kernel)⟩
def lw_privs_6 : List (MethodName × Nat) := [(⟨"PictureBlockModel", "doesHold", "(I)Z"⟩, 24), (⟨"PictureBlockModel", "tiedBy", "(I)I"⟩, 24), (⟨"PictureBlockModel", "adds", "(I)V"⟩, 24), (⟨"PictureBlockModel", "det", "(III)J"⟩, 24), (⟨"PictureBlockModel", "mostDoubted", "()I"⟩, 24), (⟨"PictureBlockModel", "doubt", "(I)J"⟩, 24), (⟨"PictureBlockModel", "missOf", "(I)J"⟩, 24), (⟨"PictureBlockModel", "drawn", "()V"⟩, 24), (⟨"PictureBlockModel", "draw", "()I"⟩, 24), (⟨"PictureBlockModel", "allMiss", "()J"⟩, 24), (⟨"PictureBlockModel", "weightOf", "(I)I"⟩, 24), (⟨"PictureBlockModel", "thinks", "()V"⟩, 24), (⟨"PictureBlockModel", "putsBack", "()V"⟩, 24), (⟨"PictureBlockModel", "doStay", "(I)Z"⟩, 24), (⟨"PictureBlockModel", "isSo", "(I)Z"⟩, 24), (⟨"PictureBlockModel", "weighs", "(II)I"⟩, 24)]
theorem lw_r6 : ∀ q ∈ lw_privs_6, lw_okq q := List.forall_mem_cons.mpr ⟨lw_p80, List.forall_mem_cons.mpr ⟨lw_p81, List.forall_mem_cons.mpr ⟨lw_p82, List.forall_mem_cons.mpr ⟨lw_p83, List.forall_mem_cons.mpr ⟨lw_p84, List.forall_mem_cons.mpr ⟨lw_p85, List.forall_mem_cons.mpr ⟨lw_p86, List.forall_mem_cons.mpr ⟨lw_p87, List.forall_mem_cons.mpr ⟨lw_p88, List.forall_mem_cons.mpr ⟨lw_p89, List.forall_mem_cons.mpr ⟨lw_p90, List.forall_mem_cons.mpr ⟨lw_p91, List.forall_mem_cons.mpr ⟨lw_p92, List.forall_mem_cons.mpr ⟨lw_p93, List.forall_mem_cons.mpr ⟨lw_p94, List.forall_mem_cons.mpr ⟨lw_p95, fun _ h => absurd h List.not_mem_nil⟩⟩⟩⟩⟩⟩⟩⟩⟩⟩⟩⟩⟩⟩⟩⟩
theorem lw_p96 : lw_okq (⟨"PictureBlockModel", "flatWeighs", "(II)I"⟩, 24) := ⟨⟨by decide +kernel, by decide +kernel⟩, List.mem_of_getElem? (i := 824) (by decide +kernel), List.mem_of_getElem? (i := 1232) (by decide +kernel), List.mem_of_getElem? (i := 1233) (by decide +kernel)⟩
theorem lw_p97 : lw_okq (⟨"PictureBlockModel", "begins", "(I)V"⟩, 24) := ⟨⟨by decide +kernel, by decide +kernel⟩, List.mem_of_getElem? (i := 824) (by decide +kernel), List.mem_of_getElem? (i := 1236) (by decide +kernel), List.mem_of_getElem? (i := 1237) (by decide +kernel)⟩
theorem lw_p98 : lw_okq (⟨"PictureBlockModel", "plainWeighs", "(II)I"⟩, 24) := ⟨⟨by decide +kernel, by decide +kernel⟩, List.mem_of_getElem? (i := 824) (by decide +kernel), List.mem_of_getElem? (i := 1240) (by decide +kernel), List.mem_of_getElem? (i := 1241) (by decide +kernel)⟩
theorem lw_p99 : lw_okq (⟨"PictureBlockModel", "says", "(II)I"⟩, 24) := ⟨⟨by decide +kernel, by decide +kernel⟩, List.mem_of_getElem? (i := 824) (by decide +kernel), List.mem_of_getElem? (i := 1244) (by decide +kernel), List.mem_of_getElem? (i := 1245) (by decide +kernel)⟩
theorem lw_p100 : lw_okq (⟨"PictureBlockModel", "starSays", "(II)I"⟩, 24) := ⟨⟨by decide +kernel, by decide +kernel⟩, List.mem_of_getElem? (i := 824) (by decide +kernel), List.mem_of_getElem? (i := 1248) (by decide +kernel), List.mem_of_getElem? (i := 1249) (by decide +kernel)⟩
theorem lw_p101 : lw_okq (⟨"PictureBlockModel", "plainSays", "(II)I"⟩, 24) := ⟨⟨by decide +kernel, by decide +kernel⟩, List.mem_of_getElem? (i := 824) (by decide +kernel), List.mem_of_getElem? (i := 1252) (by decide +kernel), List.mem_of_getElem? (i := 1253) (by decide +kernel)⟩
theorem lw_p102 : lw_okq (⟨"PictureBlockModel", "ties", "(II)I"⟩, 24) := ⟨⟨by decide +kernel, by decide +kernel⟩, List.mem_of_getElem? (i := 824) (by decide +kernel), List.mem_of_getElem? (i := 1256) (by decide +kernel), List.mem_of_getElem? (i := 1257) (by decide +kernel)⟩
theorem lw_p103 : lw_okq (⟨"PictureBlockModel", "plainTies", "(II)I"⟩, 24) := ⟨⟨by decide +kernel, by decide +kernel⟩, List.mem_of_getElem? (i := 824) (by decide +kernel), List.mem_of_getElem? (i := 1260) (by decide +kernel), List.mem_of_getElem? (i := 1261) (by decide +kernel)⟩
theorem lw_p104 : lw_okq (⟨"PictureBlockModel", "partsBy", "(II)I"⟩, 24) := ⟨⟨by decide +kernel, by decide +kernel⟩, List.mem_of_getElem? (i := 824) (by decide +kernel), List.mem_of_getElem? (i := 1264) (by decide +kernel), List.mem_of_getElem? (i := 1265) (by decide +kernel)⟩
theorem lw_p105 : lw_okq (⟨"PictureBlockModel", "plainParts", "(II)I"⟩, 24) := ⟨⟨by decide +kernel, by decide +kernel⟩, List.mem_of_getElem? (i := 824) (by decide +kernel), List.mem_of_getElem? (i := 1268) (by decide +kernel), List.mem_of_getElem? (i := 1269) (by decide +kernel)⟩
theorem lw_p106 : lw_okq (⟨"PictureBlockModel", "notThere", "(I)I"⟩, 24) := ⟨⟨by decide +kernel, by decide +kernel⟩, List.mem_of_getElem? (i := 824) (by decide +kernel), List.mem_of_getElem? (i := 1285) (by decide +kernel), List.mem_of_getElem? (i := 1286) (by decide +kernel)⟩
theorem lw_p107 : lw_okq (⟨"PictureBlockModel", "notMoved", "(IIIII)I"⟩, 24) := ⟨⟨by decide +kernel, by decide +kernel⟩, List.mem_of_getElem? (i := 824) (by decide +kernel), List.mem_of_getElem? (i := 1293) (by decide +kernel), List.mem_of_getElem? (i := 1294) (by decide +kernel)⟩
def lw_privs_7 : List (MethodName × Nat) := [(⟨"PictureBlockModel", "flatWeighs", "(II)I"⟩, 24), (⟨"PictureBlockModel", "begins", "(I)V"⟩, 24), (⟨"PictureBlockModel", "plainWeighs", "(II)I"⟩, 24), (⟨"PictureBlockModel", "says", "(II)I"⟩, 24), (⟨"PictureBlockModel", "starSays", "(II)I"⟩, 24), (⟨"PictureBlockModel", "plainSays", "(II)I"⟩, 24), (⟨"PictureBlockModel", "ties", "(II)I"⟩, 24), (⟨"PictureBlockModel", "plainTies", "(II)I"⟩, 24), (⟨"PictureBlockModel", "partsBy", "(II)I"⟩, 24), (⟨"PictureBlockModel", "plainParts", "(II)I"⟩, 24), (⟨"PictureBlockModel", "notThere", "(I)I"⟩, 24), (⟨"PictureBlockModel", "notMoved", "(IIIII)I"⟩, 24)]
theorem lw_r7 : ∀ q ∈ lw_privs_7, lw_okq q := List.forall_mem_cons.mpr ⟨lw_p96, List.forall_mem_cons.mpr ⟨lw_p97, List.forall_mem_cons.mpr ⟨lw_p98, List.forall_mem_cons.mpr ⟨lw_p99, List.forall_mem_cons.mpr ⟨lw_p100, List.forall_mem_cons.mpr ⟨lw_p101, List.forall_mem_cons.mpr ⟨lw_p102, List.forall_mem_cons.mpr ⟨lw_p103, List.forall_mem_cons.mpr ⟨lw_p104, List.forall_mem_cons.mpr ⟨lw_p105, List.forall_mem_cons.mpr ⟨lw_p106, List.forall_mem_cons.mpr ⟨lw_p107, fun _ h => absurd h List.not_mem_nil⟩⟩⟩⟩⟩⟩⟩⟩⟩⟩⟩⟩
def lw_privs : List (MethodName × Nat) := lw_privs_1 ++ (lw_privs_2 ++ (lw_privs_3 ++ (lw_privs_4 ++ (lw_privs_5 ++ (lw_privs_6 ++ (lw_privs_7))))))
def lw_tbl : List Cond := k2_sels lw_privs ++ tables_1
theorem lw_privs_ok : ∀ q ∈ lw_privs, lw_okq q := by
  show ∀ q ∈ lw_privs_1 ++ (lw_privs_2 ++ (lw_privs_3 ++ (lw_privs_4 ++ (lw_privs_5 ++ (lw_privs_6 ++ (lw_privs_7)))))), lw_okq q
  exact List.forall_mem_append.mpr ⟨lw_r1, List.forall_mem_append.mpr ⟨lw_r2, List.forall_mem_append.mpr ⟨lw_r3, List.forall_mem_append.mpr ⟨lw_r4, List.forall_mem_append.mpr ⟨lw_r5, List.forall_mem_append.mpr ⟨lw_r6, lw_r7⟩⟩⟩⟩⟩⟩
/-- wanting in the printed text: an array of arrays of a kind can be made -/
def va_AOA (ty : FieldType) (U : State) : Prop := (Cond.arrayOver (.array ty)).before #[] U = true
theorem va_AOA.use {ty : FieldType} {A : Array Value} {U : State} (h : va_AOA ty U) : (Cond.arrayOver (.array ty)).before A U = true := h
/-! ===== BEGIN words of one list among another's, by their places ===== -/
theorem goodIn_r {big : List Cond} (ws : List Cond) (ps : List Nat) (hp : ws = ps.filterMap (fun i => big[i]?)) (h : ws.all goodWord = true) : GoodIn big ws := by
  intro w hw
  have h1 := List.all_eq_true.mp h w hw
  rw [hp] at hw
  obtain ⟨i, -, hi⟩ := List.mem_filterMap.mp hw
  have hm : w ∈ big := by first | exact List.mem_of_getElem? hi | exact List.getElem?_mem hi
  exact ⟨hm, good_of_word h1⟩
theorem goodIn_app {big a b : List Cond} (ha : GoodIn big a) (hb : GoodIn big b) : GoodIn big (a ++ b) := fun w h => (List.mem_append.mp h).elim (ha w) (hb w)
theorem goodIn_ca {big a b : List Cond} {c : Cond} (ha : GoodIn big (c :: a)) (hb : GoodIn big b) : GoodIn big (c :: (a ++ b)) := fun w h => (List.mem_cons.mp h).elim (fun e => ha w (List.mem_cons.mpr (Or.inl e))) (fun h => (List.mem_append.mp h).elim (fun h => ha w (List.mem_cons.mpr (Or.inr h))) (hb w))
theorem goodIn_sub {big ws : List Cond} (hm : ∀ w ∈ ws, w ∈ big) (h : ws.all goodWord = true) : GoodIn big ws := fun w hw => ⟨hm w hw, good_of_word (List.all_eq_true.mp h w hw)⟩
/-! ===== END ===== -/

/-! ===== BEGIN new T[n][m]: the outer array a place, the inner ones among the pooled ===== -/
def vr_up {α : Type} (f : Nat → α) (l : List Nat) (v : α) : Nat → α := fun a => if a ∈ l then v else f a
theorem vr_up_in {α : Type} {f : Nat → α} {l : List Nat} {v : α} {a : Nat} (h : a ∈ l) : vr_up f l v a = v := if_pos h
theorem vr_up_ne {α : Type} {f : Nat → α} {l : List Nat} {v : α} {a : Nat} (h : a ∉ l) : vr_up f l v a = f a := if_neg h
theorem vr_rows {L l : List Nat} {f : Nat → va_E} {e : va_E} (h : ∀ a, a ∈ l → a ∉ L) : va_pl L f ++ l.map (fun a => (a, e)) = va_pl (L ++ l) (vr_up f l e) := by
  unfold va_pl
  rw [List.map_append]
  congr 1
  · apply List.map_congr_left
    intro a ha
    rw [vr_up_ne (fun q => h a q ha)]
  · apply List.map_congr_left
    intro a ha
    rw [vr_up_in ha]
theorem vr_lay {X rows : va_W} {x : Nat × va_E} {pl : va_W} {D : va_G} {cl : List vw_C} {H : Heap} (hP : va_P D cl (((X ++ pl) ++ [x]) ++ rows) H) : va_P D cl ((X ++ [x]) ++ (pl ++ rows)) H := by
  rw [List.append_assoc (X ++ pl)] at hP
  have h := va_P.swap hP
  rw [← List.append_assoc X] at h
  have h2 := va_P.swap h
  rw [List.append_assoc (X ++ [x])] at h2
  exact h2
theorem vr_layD {X rows : va_W} {x : Nat × va_E} {pl : va_W} {A : Nat → Prop} (hD : va_D A (((X ++ pl) ++ [x]) ++ rows)) : va_D A ((X ++ [x]) ++ (pl ++ rows)) := by
  rw [List.append_assoc (X ++ pl)] at hD
  have h := va_D.swap hD
  rw [← List.append_assoc X] at h
  have h2 := va_D.swap h
  rw [List.append_assoc (X ++ [x])] at h2
  exact h2
theorem vr_outer (c : ClassId) (N h0 : Nat) : ∀ i : Nat, Jvm.Free.Multi.outerC c N h0 i = arrV c N (fun j => va_rf (if j < i then some (h0 + 1 + j) else none))
  | 0 => by
    show ({ cls := c, slots := Array.replicate N .null, vm := .none } : Cell) = _
    rw [arrV_new]
    refine congrArg (arrV c N) (funext fun j => ?_)
    simp [va_rf]
  | i + 1 => by
    show (Jvm.Free.Multi.outerC c N h0 i).setSlot i (.ref (h0 + 1 + i)) = _
    rw [vr_outer c N h0 i, arrV_store]
    refine congrArg (arrV c N) (funext fun j => ?_)
    by_cases e : j = i
    · subst e
      simp [updV, va_rf]
    · by_cases h : j < i
      · simp [updV, e, h, Nat.lt_succ_of_lt h]
      · simp [updV, e, h, show ¬ j < i + 1 by omega]
section VGM
variable {p : Program} {l : Launch} {e : Env} {R : Room} {s : State} {m : MethodId} {args : Array Value} {below : List Frame} {meth : Method} {c : Code} {H : Heap} {locs : List Loc} {cells slots : Nat} {Q : State → Prop}
variable {cc : ByteArray} {pc : Nat} {ls : Array Slot} {rest : List Value} {D : va_G} {cl : List vw_C} {A : Nat → Prop} {a : Nat} {tys : List (ClassId × FieldType)} {ws : va_W} {H0 : Heap}
theorem va_mna {X : va_W} {L : List Nat} {f : Nat → va_E} {cc : ByteArray} (hexec : p.tables.exec = Jvm.exec) (hb : c.code = cc) {own : String} {index : Nat} {ty : FieldType} {cy : ClassId} (hown : s.vm.findClass own = some m.cls) (hclink : (Cond.classLink own index ("[" ++ (FieldType.array ty).toString)).before args s = true) (hover : va_AOA ty s) (harr : (Cond.arrayClass ty).before args s = true) (hcy : s.vm.findClass (FieldType.array ty).toString = some cy)
    (hK : va_K D cl tys s) (hP : va_P D cl (X ++ va_pl L f) H) (hD : va_D A (X ++ va_pl L f)) (hS : va_S A H0 H locs) (hA : ∀ q, H0.size ≤ q → A q) {n k : Int32} {N' K' : Nat} {z : vp_A} (hn : ¬ n < 0) (hk : ¬ k < 0) (hN : n.toNatClampNeg = N') (hM : k.toNatClampNeg = K')
    (hb1 : N' * 4 ≤ 536870912) (hb2 : K' * componentBytes ty ≤ 536870912) (hb3 : K' ≤ 536870912) (hdf : fits ty (defaultValue ty) = true) (hdd : (defaultValue ty).isDefault = true) (hcells : cells + (1 + N') ≤ R.cells) (hslots : slots + (N' + N' * K') ≤ R.slots) (hz : ∀ c : ClassId, Jvm.Free.Multi.innerC c K' (defaultValue ty) = vp_cell c z) (hdg : decode cc pc = .ok (.multianewarray index 2, 4))
    (kk : ∀ (q : Nat) (r : Nat → Nat) (cA : ClassId) (H1 : Heap), (∀ i j : Nat, i < N' → j < N' → r i = r j → i = j) → (∀ i : Nat, i < N' → r i ∉ L) → va_K D cl (tys ++ [(cA, .array ty)]) s →
      va_P D cl ((X ++ [(q, .inl (cA, N', .inr (.inr (.inr (.inr (fun i => if i < N' then some (r i) else none))))))]) ++ va_pl (L ++ (List.range N').map r) (vr_up f ((List.range N').map r) (.inl (cy, z)))) H1 → va_D A ((X ++ [(q, .inl (cA, N', .inr (.inr (.inr (.inr (fun i => if i < N' then some (r i) else none))))))]) ++ va_pl (L ++ (List.range N').map r) (vr_up f ((List.range N').map r) (.inl (cy, z)))) → va_S A H0 H1 locs →
      W p l e R s m args below meth c H1 locs (cells + 1 + N') (slots + N' + N' * K') Q (F0 m (pc + 4) ls (.ref q :: rest))) : W p l e R s m args below meth c H locs cells slots Q (F0 m pc ls (.int k :: .int n :: rest)) := by
  subst hN
  subst hM
  intro T hT Xs
  obtain ⟨vm₁, cA, comp, -, fA, fC, hO, -, X', step⟩ := Xs.multianewarray2F hexec hown hclink (va_AOA.use hover) harr (g := F0 m pc ls (.int k :: .int n :: rest)) rfl (by rw [hb]; exact hdg) rfl hn hk hb1 hb2 hb3 hdf hdd hcells hslots
  have ec : some cy = some comp := hcy.symm.trans fC
  cases ec
  generalize hF : Jvm.Free.Multi.fill (T.setVm vm₁) cA cy n.toNatClampNeg k.toNatClampNeg (defaultValue ty) n.toNatClampNeg = F at X' step
  have hTh : (T.setVm vm₁).heap = H := hT
  obtain ⟨f1, f2, -, -⟩ := Jvm.Free.Multi.fill_facts (T.setVm vm₁) cA cy n.toNatClampNeg k.toNatClampNeg (defaultValue ty) n.toNatClampNeg
  rw [hF, hTh] at f1 f2
  have hold : ∀ x : Nat, x < H.size → F.heap[x]? = H[x]? := fun x hx => by
    have := Jvm.Free.Multi.fill_old (T.setVm vm₁) cA cy n.toNatClampNeg k.toNatClampNeg (defaultValue ty) (a := x) (by rw [hTh]; exact hx) n.toNatClampNeg
    rw [hF, hTh] at this
    exact this
  have hrow : ∀ j : Nat, j < n.toNatClampNeg → F.heap[H.size + 1 + j]? = some (vp_cell cy z) := fun j hj => by
    have := Jvm.Free.Multi.fill_inner (T.setVm vm₁) cA cy n.toNatClampNeg k.toNatClampNeg (defaultValue ty) n.toNatClampNeg j hj
    rw [hF, hTh, hz] at this
    exact this
  have hout : Jvm.Free.Multi.outerC cA n.toNatClampNeg H.size n.toNatClampNeg = vp_cell cA (n.toNatClampNeg, .inr (.inr (.inr (.inr (fun i => if i < n.toNatClampNeg then some (H.size + 1 + i) else none))))) := by
    rw [vp_cell_q]
    exact vr_outer cA n.toNatClampNeg H.size n.toNatClampNeg
  rw [hout] at f2
  have hlt : ∀ a, a ∈ L → a < H.size := fun a ha => by
    obtain ⟨k9, hk9⟩ := va_pl_get (X := X) (f := f) ha
    exact (hP k9 _ hk9).lt
  have hnl : ∀ i : Nat, i < n.toNatClampNeg → H.size + 1 + i ∉ L := fun i _ h => by
    have := hlt _ h
    omega
  have hnm : ∀ a, a ∈ (List.range n.toNatClampNeg).map (fun i => H.size + 1 + i) → a ∉ L := fun a ha h => by
    obtain ⟨i, -, rfl⟩ := List.mem_map.mp ha
    have := hlt _ h
    omega
  have hP0 : va_P D cl (X ++ va_pl L f) F.heap := hP.kept (fun k9 x hx => hold x.1 ((hP k9 x hx).lt))
  have hP1 : va_P D cl ((X ++ va_pl L f) ++ [(H.size, .inl (cA, n.toNatClampNeg, .inr (.inr (.inr (.inr (fun i => if i < n.toNatClampNeg then some (H.size + 1 + i) else none))))))]) F.heap := hP0.app (fun k9 x hx => by
    have h0 : k9 < 1 := (List.getElem?_eq_some_iff.mp hx).1
    rw [show k9 = 0 by omega] at hx
    cases hx
    exact f2)
  have hP2 : va_P D cl (((X ++ va_pl L f) ++ [(H.size, .inl (cA, n.toNatClampNeg, .inr (.inr (.inr (.inr (fun i => if i < n.toNatClampNeg then some (H.size + 1 + i) else none))))))]) ++ ((List.range n.toNatClampNeg).map (fun i => H.size + 1 + i)).map (fun a => (a, .inl (cy, z)))) F.heap := hP1.app (fun k9 x hx => by
    obtain ⟨a, ha, rfl⟩ := List.mem_map.mp (List.mem_of_getElem? hx)
    obtain ⟨i, hi, rfl⟩ := List.mem_map.mp ha
    exact hrow i (List.mem_range.mp hi))
  have hD2 : va_D A (((X ++ va_pl L f) ++ [(H.size, .inl (cA, n.toNatClampNeg, .inr (.inr (.inr (.inr (fun i => if i < n.toNatClampNeg then some (H.size + 1 + i) else none))))))]) ++ ((List.range n.toNatClampNeg).map (fun i => H.size + 1 + i)).map (fun a => (a, .inl (cy, z)))) := by
    have hD1 := hD.push (e := .inl (cA, n.toNatClampNeg, .inr (.inr (.inr (.inr (fun i => if i < n.toNatClampNeg then some (H.size + 1 + i) else none)))))) hP rfl (hA _ hS.1)
    generalize hW1 : (X ++ va_pl L f) ++ [(H.size, .inl (cA, n.toNatClampNeg, .inr (.inr (.inr (.inr (fun i => if i < n.toNatClampNeg then some (H.size + 1 + i) else none))))))] = W1 at hD1 hP1 ⊢
    have hle : ∀ (k9 : Nat) (x : Nat × va_E), W1[k9]? = some x → x.1 ≤ H.size := fun k9 x hx => by
      rw [← hW1] at hx
      by_cases hl : k9 < (X ++ va_pl L f).length
      · rw [List.getElem?_append_left hl] at hx
        exact Nat.le_of_lt ((hP k9 x hx).lt)
      · rw [List.getElem?_append_right (by omega)] at hx
        have h0 : k9 - (X ++ va_pl L f).length < 1 := (List.getElem?_eq_some_iff.mp hx).1
        rw [show k9 - (X ++ va_pl L f).length = 0 by omega] at hx
        cases hx
        exact Nat.le_refl _
    have hr : ∀ (k9 : Nat) (x : Nat × va_E), (((List.range n.toNatClampNeg).map (fun i => H.size + 1 + i)).map (fun a => ((a, .inl (cy, z)) : Nat × va_E)))[k9]? = some x → x.1 = H.size + 1 + k9 := fun k9 x hx => by
      rw [List.getElem?_map, List.getElem?_map] at hx
      by_cases h9 : k9 < n.toNatClampNeg
      · rw [List.getElem?_range h9] at hx
        cases hx
        rfl
      · have hn0 : (List.range n.toNatClampNeg)[k9]? = none := List.getElem?_eq_none (by rw [List.length_range]; omega)
        rw [hn0] at hx
        cases hx
    refine ⟨fun i j x y hi hj hxy => ?_, fun k9 x hx => ?_⟩
    · by_cases h1 : i < W1.length <;> by_cases h2 : j < W1.length
      · rw [List.getElem?_append_left h1] at hi
        rw [List.getElem?_append_left h2] at hj
        exact hD1.1 i j x y hi hj hxy
      · rw [List.getElem?_append_left h1] at hi
        rw [List.getElem?_append_right (by omega)] at hj
        have := hle _ _ hi
        have := hr _ _ hj
        omega
      · rw [List.getElem?_append_right (by omega)] at hi
        rw [List.getElem?_append_left h2] at hj
        have := hle _ _ hj
        have := hr _ _ hi
        omega
      · rw [List.getElem?_append_right (by omega)] at hi hj
        have := hr _ _ hi
        have := hr _ _ hj
        omega
    · by_cases h1 : k9 < W1.length
      · rw [List.getElem?_append_left h1] at hx
        exact hD1.2 k9 x hx
      · rw [List.getElem?_append_right (by omega)] at hx
        have := hr _ _ hx
        exact hA _ (by have := hS.1; omega)
  have hAr : ArrOfT s cA (.array ty) := fun N9 z9 => by
    obtain ⟨-, k9, hk9, cm9, hkk9⟩ := (hO 0 0 0).1
    exact ⟨(fun q hq => by cases hq), k9, hk9, cm9, hkk9⟩
  have hK2 : va_K D cl (tys ++ [(cA, .array ty)]) s := ⟨hK.1, fun k9 x hx => by
    by_cases hl : k9 < tys.length
    · rw [List.getElem?_append_left hl] at hx
      exact hK.2 k9 x hx
    · rw [List.getElem?_append_right (by omega)] at hx
      have h0 : k9 - tys.length < 1 := (List.getElem?_eq_some_iff.mp hx).1
      rw [show k9 - tys.length = 0 by omega] at hx
      cases hx
      exact ⟨hAr, fA⟩⟩
  obtain ⟨t, a1, b1⟩ := kk H.size (fun i => H.size + 1 + i) cA F.heap (fun i j _ _ h => by have h9 : H.size + 1 + i = H.size + 1 + j := h; omega) hnl hK2 (by rw [← vr_rows hnm]; exact vr_lay hP2) (by rw [← vr_rows hnm]; exact vr_layD hD2) ⟨by rw [f1]; have := hS.1; omega, fun x h1 h2 => (hold x (Nat.lt_of_lt_of_le h1 hS.1)).trans (hS.2.1 x h1 h2), hS.2.2⟩ F rfl X'
  refine ⟨t, step t ?_, b1⟩
  have e : T.heap.size = H.size := by rw [hT]
  rw [e]
  exact a1
end VGM
/-! ===== END ===== -/

/-! ===== BEGIN printed: names, fields, word lists, decode rows ===== -/
def RX0 : String := "PictureBlock$Block"
def TX0 : u_T := fun k => match k with
  | 0 => ("PictureBlock$Block", "kind", "[I", true)
  | 1 => ("PictureBlock$Block", "m", "[I", true)
  | 2 => ("PictureBlock$Block", "from", "[I", true)
  | 3 => ("PictureBlock$Block", "to", "[I", true)
  | 4 => ("PictureBlock$Block", "told", "[I", true)
  | 5 => ("PictureBlock$Block", "tape", "[I", true)
  | 6 => ("PictureBlock$Block", "waits", "[I", true)
  | 7 => ("PictureBlock$Block", "texts", "[LPictureBlock$Text;", true)
  | 8 => ("PictureBlock$Block", "marks", "I", false)
  | 9 => ("PictureBlock$Block", "on", "I", false)
  | 10 => ("PictureBlock$Block", "pictures", "I", false)
  | 11 => ("PictureBlock$Block", "round", "I", false)
  | 12 => ("PictureBlock$Block", "limit", "I", false)
  | 13 => ("PictureBlock$Block", "dropped", "I", false)
  | 14 => ("PictureBlock$Block", "z", "I", false)
  | 15 => ("PictureBlock$Block", "fed", "I", false)
  | _ => ("PictureBlock$Block", "waiting", "I", false)
def tyX0 : Nat → FieldType := fun k => match k with
  | 0 => .array .int
  | 1 => .array .int
  | 2 => .array .int
  | 3 => .array .int
  | 4 => .array .int
  | 5 => .array .int
  | 6 => .array .int
  | 7 => .array (.object "PictureBlock$Text")
  | 8 => .int
  | 9 => .int
  | 10 => .int
  | 11 => .int
  | 12 => .int
  | 13 => .int
  | 14 => .int
  | 15 => .int
  | _ => .int
abbrev wsX00 : List Cond := u_ws RX0 TX0 17
theorem nmX0 : ∀ a, a < 17 → ∀ b, b < 17 → a ≠ b → (TX0 a).2.1 ≠ (TX0 b).2.1 := by decide +kernel
theorem tyX0_ok : ∀ k, k < 17 → parseFieldDescriptor (TX0 k).2.2.1 = some (tyX0 k) := by decide +kernel
abbrev cX0_init : ByteArray := prog_2_method_1_code
def yX0_init : MethodName := ⟨RX0, "<init>", "()V"⟩
abbrev cX0_copy : ByteArray := prog_2_method_2_code
def yX0_copy : MethodName := ⟨RX0, "copy", "(LPictureBlock$Block;)V"⟩
abbrev cX0_add : ByteArray := prog_2_method_3_code
def yX0_add : MethodName := ⟨RX0, "add", "(IIII)I"⟩
abbrev cX0_isOn : ByteArray := prog_2_method_4_code
def yX0_isOn : MethodName := ⟨RX0, "isOn", "(I)Z"⟩
abbrev cX0_turn : ByteArray := prog_2_method_5_code
def yX0_turn : MethodName := ⟨RX0, "turn", "(IZ)V"⟩
abbrev cX0_lastPictureMarked : ByteArray := prog_2_method_6_code
def yX0_lastPictureMarked : MethodName := ⟨RX0, "lastPictureMarked", "()I"⟩
abbrev cX0_tiedBy : ByteArray := prog_2_method_7_code
def yX0_tiedBy : MethodName := ⟨RX0, "tiedBy", "(I)I"⟩
abbrev cX0_holds : ByteArray := prog_2_method_8_code
def yX0_holds : MethodName := ⟨RX0, "holds", "(I)Z"⟩
abbrev cX0_touching : ByteArray := prog_2_method_9_code
def yX0_touching : MethodName := ⟨RX0, "touching", "(I)I"⟩
abbrev cX0_weightOf : ByteArray := prog_2_method_10_code
def yX0_weightOf : MethodName := ⟨RX0, "weightOf", "(I)I"⟩
abbrev cX0_weightOfAll : ByteArray := prog_2_method_11_code
def yX0_weightOfAll : MethodName := ⟨RX0, "weightOfAll", "(I)I"⟩
abbrev cX0_saidBy : ByteArray := prog_2_method_12_code
def yX0_saidBy : MethodName := ⟨RX0, "saidBy", "(I)I"⟩
abbrev cX0_weighed : ByteArray := prog_2_method_13_code
def yX0_weighed : MethodName := ⟨RX0, "weighed", "(II)I"⟩
abbrev cX0_starWeighed : ByteArray := prog_2_method_14_code
def yX0_starWeighed : MethodName := ⟨RX0, "starWeighed", "(I)I"⟩
abbrev cX0_read : ByteArray := prog_2_method_15_code
def yX0_read : MethodName := ⟨RX0, "read", "(I)I"⟩
abbrev cX0_drawMark : ByteArray := prog_2_method_16_code
def yX0_drawMark : MethodName := ⟨RX0, "drawMark", "()V"⟩
abbrev cX0_draw : ByteArray := prog_2_method_17_code
def yX0_draw : MethodName := ⟨RX0, "draw", "()I"⟩
def RX1 : String := "PictureBlock$Places"
def TX1 : u_T := fun k => match k with
  | 0 => ("PictureBlock$Places", "rows", "[[J", true)
  | 1 => ("PictureBlock$Places", "above", "[J", true)
  | 2 => ("PictureBlock$Places", "weights", "[I", true)
  | 3 => ("PictureBlock$Places", "said", "[I", true)
  | _ => ("PictureBlock$Places", "line", "J", false)
def tyX1 : Nat → FieldType := fun k => match k with
  | 0 => .array (.array .long)
  | 1 => .array .long
  | 2 => .array .int
  | 3 => .array .int
  | _ => .long
abbrev wsX10 : List Cond := u_ws RX1 TX1 5
theorem nmX1 : ∀ a, a < 5 → ∀ b, b < 5 → a ≠ b → (TX1 a).2.1 ≠ (TX1 b).2.1 := by decide +kernel
theorem tyX1_ok : ∀ k, k < 5 → parseFieldDescriptor (TX1 k).2.2.1 = some (tyX1 k) := by decide +kernel
abbrev cX1_init : ByteArray := prog_3_method_1_code
def yX1_init : MethodName := ⟨RX1, "<init>", "()V"⟩
abbrev cX1_find : ByteArray := prog_3_method_2_code
def yX1_find : MethodName := ⟨RX1, "find", "(LPictureBlock$Block;)Z"⟩
abbrev cX1_enter : ByteArray := prog_3_method_3_code
def yX1_enter : MethodName := ⟨RX1, "enter", "(IIII)V"⟩
abbrev cX1_solve : ByteArray := prog_3_method_4_code
def yX1_solve : MethodName := ⟨RX1, "solve", "(I)V"⟩
abbrev cX1_clearColumn : ByteArray := prog_3_method_5_code
def yX1_clearColumn : MethodName := ⟨RX1, "clearColumn", "([J[JIJ)V"⟩
abbrev cX1_missAbove : ByteArray := prog_3_method_6_code
def yX1_missAbove : MethodName := ⟨RX1, "missAbove", "(LPictureBlock$Block;II)J"⟩
abbrev cX1_sumAbove : ByteArray := prog_3_method_7_code
def yX1_sumAbove : MethodName := ⟨RX1, "sumAbove", "(LPictureBlock$Block;)J"⟩
abbrev cX1_doubtAbove : ByteArray := prog_3_method_8_code
def yX1_doubtAbove : MethodName := ⟨RX1, "doubtAbove", "(LPictureBlock$Block;I)J"⟩
abbrev cX1_mostDoubted : ByteArray := prog_3_method_9_code
def yX1_mostDoubted : MethodName := ⟨RX1, "mostDoubted", "(LPictureBlock$Block;)I"⟩
abbrev cX1_passRound : ByteArray := prog_3_method_10_code
def yX1_passRound : MethodName := ⟨RX1, "passRound", "(LPictureBlock$Block;)V"⟩
abbrev cX1_leastLimit : ByteArray := prog_3_method_11_code
def yX1_leastLimit : MethodName := ⟨RX1, "leastLimit", "(LPictureBlock$Block;)J"⟩
def RX2 : String := "PictureBlock$Reader"
def TX2 : u_T := fun k => match k with
  | 0 => ("PictureBlock$Reader", "tape", "[I", true)
  | 1 => ("PictureBlock$Reader", "steps", "[I", true)
  | 2 => ("PictureBlock$Reader", "count", "I", false)
  | 3 => ("PictureBlock$Reader", "fed", "I", false)
  | 4 => ("PictureBlock$Reader", "at", "I", false)
  | _ => ("PictureBlock$Reader", "names", "Ljava/lang/String;", false)
def tyX2 : Nat → FieldType := fun k => match k with
  | 0 => .array .int
  | 1 => .array .int
  | 2 => .int
  | 3 => .int
  | 4 => .int
  | _ => .object "java/lang/String"
abbrev wsX20 : List Cond := u_ws RX2 TX2 6
theorem nmX2 : ∀ a, a < 6 → ∀ b, b < 6 → a ≠ b → (TX2 a).2.1 ≠ (TX2 b).2.1 := by decide +kernel
theorem tyX2_ok : ∀ k, k < 6 → parseFieldDescriptor (TX2 k).2.2.1 = some (tyX2 k) := by decide +kernel
abbrev cX2_init : ByteArray := prog_4_method_1_code
def yX2_init : MethodName := ⟨RX2, "<init>", "([I)V"⟩
abbrev cX2_faultOf : ByteArray := prog_4_method_2_code
def yX2_faultOf : MethodName := ⟨RX2, "faultOf", "(ILjava/lang/String;)I"⟩
abbrev cX2_next : ByteArray := prog_4_method_3_code
def yX2_next : MethodName := ⟨RX2, "next", "()I"⟩
abbrev cX2_write : ByteArray := prog_4_method_4_code
def yX2_write : MethodName := ⟨RX2, "write", "(I)V"⟩
abbrev cX2_readOr : ByteArray := prog_4_method_5_code
def yX2_readOr : MethodName := ⟨RX2, "readOr", "(I)Z"⟩
abbrev cX2_readAnd : ByteArray := prog_4_method_6_code
def yX2_readAnd : MethodName := ⟨RX2, "readAnd", "(I)Z"⟩
abbrev cX2_readCompared : ByteArray := prog_4_method_7_code
def yX2_readCompared : MethodName := ⟨RX2, "readCompared", "(I)Z"⟩
abbrev cX2_readAdded : ByteArray := prog_4_method_8_code
def yX2_readAdded : MethodName := ⟨RX2, "readAdded", "(I)Z"⟩
abbrev cX2_readMultiplied : ByteArray := prog_4_method_9_code
def yX2_readMultiplied : MethodName := ⟨RX2, "readMultiplied", "(I)Z"⟩
abbrev cX2_isProductSign : ByteArray := prog_4_method_10_code
def yX2_isProductSign : MethodName := ⟨RX2, "isProductSign", "(I)Z"⟩
abbrev cX2_readPart : ByteArray := prog_4_method_11_code
def yX2_readPart : MethodName := ⟨RX2, "readPart", "(I)Z"⟩
abbrev cX2_readNumber : ByteArray := prog_4_method_12_code
def yX2_readNumber : MethodName := ⟨RX2, "readNumber", "()Z"⟩
abbrev cX2_readOpened : ByteArray := prog_4_method_13_code
def yX2_readOpened : MethodName := ⟨RX2, "readOpened", "(II)Z"⟩
def RX3 : String := "PictureBlock$Sheets"
def TX3 : u_T := fun k => match k with
  | 0 => ("PictureBlock$Sheets", "numbers", "[[I", true)
  | 1 => ("PictureBlock$Sheets", "bits", "[I", true)
  | _ => ("PictureBlock$Sheets", "length", "[I", true)
def tyX3 : Nat → FieldType := fun k => match k with
  | 0 => .array (.array .int)
  | 1 => .array .int
  | _ => .array .int
abbrev wsX30 : List Cond := u_ws RX3 TX3 3
theorem nmX3 : ∀ a, a < 3 → ∀ b, b < 3 → a ≠ b → (TX3 a).2.1 ≠ (TX3 b).2.1 := by decide +kernel
theorem tyX3_ok : ∀ k, k < 3 → parseFieldDescriptor (TX3 k).2.2.1 = some (tyX3 k) := by decide +kernel
abbrev cX3_init : ByteArray := prog_5_method_1_code
def yX3_init : MethodName := ⟨RX3, "<init>", "()V"⟩
abbrev cX3_isMissing : ByteArray := prog_5_method_2_code
def yX3_isMissing : MethodName := ⟨RX3, "isMissing", "(I)Z"⟩
abbrev cX3_lay : ByteArray := prog_5_method_3_code
def yX3_lay : MethodName := ⟨RX3, "lay", "(III)V"⟩
abbrev cX3_write : ByteArray := prog_5_method_4_code
def yX3_write : MethodName := ⟨RX3, "write", "(III)V"⟩
abbrev cX3_stand : ByteArray := prog_5_method_5_code
def yX3_stand : MethodName := ⟨RX3, "stand", "(III)Z"⟩
def RX4 : String := "PictureBlock$Text"
def TX4 : u_T := fun k => match k with
  | 0 => ("PictureBlock$Text", "names", "Ljava/lang/String;", true)
  | 1 => ("PictureBlock$Text", "least", "I", true)
  | 2 => ("PictureBlock$Text", "most", "I", true)
  | 3 => ("PictureBlock$Text", "steps", "[I", true)
  | 4 => ("PictureBlock$Text", "open", "[I", true)
  | _ => ("PictureBlock$Text", "count", "I", false)
def tyX4 : Nat → FieldType := fun k => match k with
  | 0 => .object "java/lang/String"
  | 1 => .int
  | 2 => .int
  | 3 => .array .int
  | 4 => .array .int
  | _ => .int
abbrev wsX40 : List Cond := u_ws RX4 TX4 6
theorem nmX4 : ∀ a, a < 6 → ∀ b, b < 6 → a ≠ b → (TX4 a).2.1 ≠ (TX4 b).2.1 := by decide +kernel
theorem tyX4_ok : ∀ k, k < 6 → parseFieldDescriptor (TX4 k).2.2.1 = some (tyX4 k) := by decide +kernel
abbrev cX4_init : ByteArray := prog_6_method_1_code
def yX4_init : MethodName := ⟨RX4, "<init>", "(Ljava/lang/String;II)V"⟩
abbrev cX4_copy : ByteArray := prog_6_method_2_code
def yX4_copy : MethodName := ⟨RX4, "copy", "([II)V"⟩
abbrev cX4_clear : ByteArray := prog_6_method_3_code
def yX4_clear : MethodName := ⟨RX4, "clear", "()V"⟩
abbrev cX4_isThere : ByteArray := prog_6_method_4_code
def yX4_isThere : MethodName := ⟨RX4, "isThere", "()Z"⟩
abbrev cX4_given : ByteArray := prog_6_method_5_code
def yX4_given : MethodName := ⟨RX4, "given", "(III)I"⟩
abbrev cX4_joined : ByteArray := prog_6_method_6_code
def yX4_joined : MethodName := ⟨RX4, "joined", "(III)I"⟩
def RX5 : String := "PictureBlock$Voices"
def TX5 : u_T := fun k => match k with
  | 0 => ("PictureBlock$Voices", "trace", "[I", true)
  | 1 => ("PictureBlock$Voices", "traced", "I", false)
  | 2 => ("PictureBlock$Voices", "kind", "I", false)
  | 3 => ("PictureBlock$Voices", "k", "I", false)
  | 4 => ("PictureBlock$Voices", "m", "I", false)
  | _ => ("PictureBlock$Voices", "parted", "Z", false)
def tyX5 : Nat → FieldType := fun k => match k with
  | 0 => .array .int
  | 1 => .int
  | 2 => .int
  | 3 => .int
  | 4 => .int
  | _ => .boolean
abbrev wsX50 : List Cond := u_ws RX5 TX5 6
theorem nmX5 : ∀ a, a < 6 → ∀ b, b < 6 → a ≠ b → (TX5 a).2.1 ≠ (TX5 b).2.1 := by decide +kernel
theorem tyX5_ok : ∀ k, k < 6 → parseFieldDescriptor (TX5 k).2.2.1 = some (tyX5 k) := by decide +kernel
abbrev cX5_init : ByteArray := prog_7_method_1_code
def yX5_init : MethodName := ⟨RX5, "<init>", "()V"⟩
abbrev cX5_answerOf : ByteArray := prog_7_method_2_code
def yX5_answerOf : MethodName := ⟨RX5, "answerOf", "(IIIII)I"⟩
abbrev cX5_spoken : ByteArray := prog_7_method_3_code
def yX5_spoken : MethodName := ⟨RX5, "spoken", "(IIII)I"⟩
abbrev cX5_worked : ByteArray := prog_7_method_4_code
def yX5_worked : MethodName := ⟨RX5, "worked", "(III)I"⟩
abbrev cX5_partOfDifference : ByteArray := prog_7_method_5_code
def yX5_partOfDifference : MethodName := ⟨RX5, "partOfDifference", "(I)I"⟩
def RX6 : String := "PictureBlock"
def TX6 : u_T := fun k => match k with
  | 0 => ("PictureBlock", "now", "LPictureBlock$Block;", true)
  | 1 => ("PictureBlock", "kept", "LPictureBlock$Block;", true)
  | 2 => ("PictureBlock", "thought", "LPictureBlock$Block;", true)
  | 3 => ("PictureBlock", "reader", "LPictureBlock$Reader;", true)
  | 4 => ("PictureBlock", "places", "LPictureBlock$Places;", true)
  | 5 => ("PictureBlock", "voices", "LPictureBlock$Voices;", true)
  | 6 => ("PictureBlock", "sheets", "LPictureBlock$Sheets;", true)
  | 7 => ("PictureBlock", "errors", "[I", true)
  | _ => ("PictureBlock", "images", "I", false)
def tyX6 : Nat → FieldType := fun k => match k with
  | 0 => .object "PictureBlock$Block"
  | 1 => .object "PictureBlock$Block"
  | 2 => .object "PictureBlock$Block"
  | 3 => .object "PictureBlock$Reader"
  | 4 => .object "PictureBlock$Places"
  | 5 => .object "PictureBlock$Voices"
  | 6 => .object "PictureBlock$Sheets"
  | 7 => .array .int
  | _ => .int
abbrev wsX60 : List Cond := u_ws RX6 TX6 9
theorem nmX6 : ∀ a, a < 9 → ∀ b, b < 9 → a ≠ b → (TX6 a).2.1 ≠ (TX6 b).2.1 := by decide +kernel
theorem tyX6_ok : ∀ k, k < 9 → parseFieldDescriptor (TX6 k).2.2.1 = some (tyX6 k) := by decide +kernel
abbrev cX6_init : ByteArray := prog_1_method_1_code
def yX6_init : MethodName := ⟨RX6, "<init>", "()V"⟩
abbrev cX6_mark : ByteArray := prog_1_method_2_code
def yX6_mark : MethodName := ⟨RX6, "mark", "(IIII)I"⟩
abbrev cX6_markIs : ByteArray := prog_1_method_3_code
def yX6_markIs : MethodName := ⟨RX6, "markIs", "(II)I"⟩
abbrev cX6_become : ByteArray := prog_1_method_4_code
def yX6_become : MethodName := ⟨RX6, "become", "(II)I"⟩
abbrev cX6_as : ByteArray := prog_1_method_5_code
def yX6_as : MethodName := ⟨RX6, "as", "(II)I"⟩
abbrev cX6_measure : ByteArray := prog_1_method_6_code
def yX6_measure : MethodName := ⟨RX6, "measure", "(II)I"⟩
abbrev cX6_on : ByteArray := prog_1_method_7_code
def yX6_on : MethodName := ⟨RX6, "on", "(II)I"⟩
abbrev cX6_pictures : ByteArray := prog_1_method_8_code
def yX6_pictures : MethodName := ⟨RX6, "pictures", "(I)I"⟩
abbrev cX6_limit : ByteArray := prog_1_method_9_code
def yX6_limit : MethodName := ⟨RX6, "limit", "(I)I"⟩
abbrev cX6_feed : ByteArray := prog_1_method_10_code
def yX6_feed : MethodName := ⟨RX6, "feed", "(JI)I"⟩
abbrev cX6_text : ByteArray := prog_1_method_11_code
def yX6_text : MethodName := ⟨RX6, "text", "(I)I"⟩
abbrev cX6_untell : ByteArray := prog_1_method_12_code
def yX6_untell : MethodName := ⟨RX6, "untell", "(I)I"⟩
abbrev cX6_law : ByteArray := prog_1_method_13_code
def yX6_law : MethodName := ⟨RX6, "law", "(IIII)I"⟩
abbrev cX6_rounds : ByteArray := prog_1_method_14_code
def yX6_rounds : MethodName := ⟨RX6, "rounds", "(I)I"⟩
abbrev cX6_loose : ByteArray := prog_1_method_15_code
def yX6_loose : MethodName := ⟨RX6, "loose", "(I)I"⟩
abbrev cX6_round : ByteArray := prog_1_method_16_code
def yX6_round : MethodName := ⟨RX6, "round", "(I)I"⟩
abbrev cX6_seed : ByteArray := prog_1_method_17_code
def yX6_seed : MethodName := ⟨RX6, "seed", "(I)I"⟩
abbrev cX6_place : ByteArray := prog_1_method_18_code
def yX6_place : MethodName := ⟨RX6, "place", "(II)J"⟩
abbrev cX6_miss : ByteArray := prog_1_method_19_code
def yX6_miss : MethodName := ⟨RX6, "miss", "(II)J"⟩
abbrev cX6_sum : ByteArray := prog_1_method_20_code
def yX6_sum : MethodName := ⟨RX6, "sum", "(I)J"⟩
abbrev cX6_doubted : ByteArray := prog_1_method_21_code
def yX6_doubted : MethodName := ⟨RX6, "doubted", "()I"⟩
abbrev cX6_needed : ByteArray := prog_1_method_22_code
def yX6_needed : MethodName := ⟨RX6, "needed", "()I"⟩
abbrev cX6_spine : ByteArray := prog_1_method_23_code
def yX6_spine : MethodName := ⟨RX6, "spine", "()I"⟩
abbrev cX6_then : ByteArray := prog_1_method_24_code
def yX6_then : MethodName := ⟨RX6, "then", "(II)I"⟩
abbrev cX6_soonest : ByteArray := prog_1_method_25_code
def yX6_soonest : MethodName := ⟨RX6, "soonest", "(I)I"⟩
abbrev cX6_limitFor : ByteArray := prog_1_method_26_code
def yX6_limitFor : MethodName := ⟨RX6, "limitFor", "(I)I"⟩
abbrev cX6_toldFor : ByteArray := prog_1_method_27_code
def yX6_toldFor : MethodName := ⟨RX6, "toldFor", "(I)I"⟩
abbrev cX6_odds : ByteArray := prog_1_method_28_code
def yX6_odds : MethodName := ⟨RX6, "odds", "(III)I"⟩
abbrev cX6_fits : ByteArray := prog_1_method_29_code
def yX6_fits : MethodName := ⟨RX6, "fits", "(III)I"⟩
abbrev cX6_voice : ByteArray := prog_1_method_30_code
def yX6_voice : MethodName := ⟨RX6, "voice", "(III)I"⟩
abbrev cX6_body : ByteArray := prog_1_method_31_code
def yX6_body : MethodName := ⟨RX6, "body", "(I)I"⟩
abbrev cX6_sheet : ByteArray := prog_1_method_32_code
def yX6_sheet : MethodName := ⟨RX6, "sheet", "(III)I"⟩
abbrev cX6_put : ByteArray := prog_1_method_33_code
def yX6_put : MethodName := ⟨RX6, "put", "(III)I"⟩
abbrev cX6_move : ByteArray := prog_1_method_34_code
def yX6_move : MethodName := ⟨RX6, "move", "(IIIII)I"⟩
abbrev cX6_tells : ByteArray := prog_1_method_35_code
def yX6_tells : MethodName := ⟨RX6, "tells", "(I)I"⟩
abbrev cX6_judge : ByteArray := prog_1_method_36_code
def yX6_judge : MethodName := ⟨RX6, "judge", "(I)I"⟩
abbrev cX6_image : ByteArray := prog_1_method_37_code
def yX6_image : MethodName := ⟨RX6, "image", "()I"⟩
abbrev cX6_restore : ByteArray := prog_1_method_38_code
def yX6_restore : MethodName := ⟨RX6, "restore", "()I"⟩
abbrev cX6_tell : ByteArray := prog_1_method_39_code
def yX6_tell : MethodName := ⟨RX6, "tell", "(I)I"⟩
abbrev cX6_check : ByteArray := prog_1_method_40_code
def yX6_check : MethodName := ⟨RX6, "check", "()I"⟩
abbrev cX6_count : ByteArray := prog_1_method_41_code
def yX6_count : MethodName := ⟨RX6, "count", "(I)I"⟩
abbrev cX6_told : ByteArray := prog_1_method_42_code
def yX6_told : MethodName := ⟨RX6, "told", "(I)I"⟩
abbrev cX6_error : ByteArray := prog_1_method_43_code
def yX6_error : MethodName := ⟨RX6, "error", "(I)I"⟩
abbrev cX6_isMark : ByteArray := prog_1_method_44_code
def yX6_isMark : MethodName := ⟨RX6, "isMark", "(I)Z"⟩
abbrev cX6_isPicture : ByteArray := prog_1_method_45_code
def yX6_isPicture : MethodName := ⟨RX6, "isPicture", "(I)Z"⟩
abbrev cX6_roundsUntilOff : ByteArray := prog_1_method_46_code
def yX6_roundsUntilOff : MethodName := ⟨RX6, "roundsUntilOff", "(II)I"⟩
abbrev cX6_goesAsSheetTells : ByteArray := prog_1_method_47_code
def yX6_goesAsSheetTells : MethodName := ⟨RX6, "goesAsSheetTells", "(I)Z"⟩
abbrev cX6_isWithin : ByteArray := prog_1_method_48_code
def yX6_isWithin : MethodName := ⟨RX6, "isWithin", "(III)Z"⟩
abbrev cX6_isTold : ByteArray := prog_1_method_49_code
def yX6_isTold : MethodName := ⟨RX6, "isTold", "(I)Z"⟩
abbrev cX6_isKindAndNumber : ByteArray := prog_1_method_50_code
def yX6_isKindAndNumber : MethodName := ⟨RX6, "isKindAndNumber", "(I)Z"⟩
abbrev cX6_isUse : ByteArray := prog_1_method_51_code
def yX6_isUse : MethodName := ⟨RX6, "isUse", "(I)Z"⟩
abbrev cX6_isPart : ByteArray := prog_1_method_52_code
def yX6_isPart : MethodName := ⟨RX6, "isPart", "(I)Z"⟩
abbrev cX6_isSheet : ByteArray := prog_1_method_53_code
def yX6_isSheet : MethodName := ⟨RX6, "isSheet", "(I)Z"⟩
abbrev cX6_isOfKind : ByteArray := prog_1_method_54_code
def yX6_isOfKind : MethodName := ⟨RX6, "isOfKind", "(II)Z"⟩
abbrev cX6_partOf : ByteArray := prog_1_method_55_code
def yX6_partOf : MethodName := ⟨RX6, "partOf", "(JJI)J"⟩
abbrev cX6_greatestDivisor : ByteArray := prog_1_method_56_code
def yX6_greatestDivisor : MethodName := ⟨RX6, "greatestDivisor", "(JJ)J"⟩
abbrev cX6_quotient : ByteArray := prog_1_method_57_code
def yX6_quotient : MethodName := ⟨RX6, "quotient", "(JJ)J"⟩
def RX7 : String := "PictureBlockModel"
def TX7 : u_T := fun k => match k with
  | 0 => ("PictureBlockModel", "row", "[I", true)
  | 1 => ("PictureBlockModel", "kept", "[I", true)
  | 2 => ("PictureBlockModel", "before", "[I", true)
  | 3 => ("PictureBlockModel", "images", "I", false)
  | 4 => ("PictureBlockModel", "errors", "[I", true)
  | 5 => ("PictureBlockModel", "bitsOf", "[I", true)
  | 6 => ("PictureBlockModel", "sizeOf", "[I", true)
  | 7 => ("PictureBlockModel", "cells", "[I", true)
  | 8 => ("PictureBlockModel", "square", "[J", true)
  | 9 => ("PictureBlockModel", "right", "[J", true)
  | 10 => ("PictureBlockModel", "above", "[J", true)
  | 11 => ("PictureBlockModel", "line", "J", false)
  | 12 => ("PictureBlockModel", "act", "[I", true)
  | 13 => ("PictureBlockModel", "with", "[I", true)
  | 14 => ("PictureBlockModel", "facts", "[I", true)
  | 15 => ("PictureBlockModel", "pile", "[I", true)
  | 16 => ("PictureBlockModel", "laid", "I", false)
  | 17 => ("PictureBlockModel", "here", "I", false)
  | 18 => ("PictureBlockModel", "opened", "I", false)
  | 19 => ("PictureBlockModel", "bad", "Z", false)
  | 20 => ("PictureBlockModel", "using", "I", false)
  | 21 => ("PictureBlockModel", "trace", "[I", true)
  | 22 => ("PictureBlockModel", "traced", "I", false)
  | _ => ("PictureBlockModel", "isParted", "Z", false)
def tyX7 : Nat → FieldType := fun k => match k with
  | 0 => .array .int
  | 1 => .array .int
  | 2 => .array .int
  | 3 => .int
  | 4 => .array .int
  | 5 => .array .int
  | 6 => .array .int
  | 7 => .array .int
  | 8 => .array .long
  | 9 => .array .long
  | 10 => .array .long
  | 11 => .long
  | 12 => .array .int
  | 13 => .array .int
  | 14 => .array .int
  | 15 => .array .int
  | 16 => .int
  | 17 => .int
  | 18 => .int
  | 19 => .boolean
  | 20 => .int
  | 21 => .array .int
  | 22 => .int
  | _ => .boolean
abbrev wsX70 : List Cond := u_ws RX7 TX7 24
theorem nmX7 : ∀ a, a < 24 → ∀ b, b < 24 → a ≠ b → (TX7 a).2.1 ≠ (TX7 b).2.1 := by decide +kernel
theorem tyX7_ok : ∀ k, k < 24 → parseFieldDescriptor (TX7 k).2.2.1 = some (tyX7 k) := by decide +kernel
abbrev cX7_init : ByteArray := prog_9_method_1_code
def yX7_init : MethodName := ⟨RX7, "<init>", "()V"⟩
abbrev cX7_error : ByteArray := prog_9_method_2_code
def yX7_error : MethodName := ⟨RX7, "error", "(I)I"⟩
abbrev cX7_in : ByteArray := prog_9_method_3_code
def yX7_in : MethodName := ⟨RX7, "in", "(III)Z"⟩
abbrev cX7_held : ByteArray := prog_9_method_4_code
def yX7_held : MethodName := ⟨RX7, "held", "(III)I"⟩
abbrev cX7_copyAll : ByteArray := prog_9_method_5_code
def yX7_copyAll : MethodName := ⟨RX7, "copyAll", "([I[I)V"⟩
abbrev cX7_thinks : ByteArray := prog_9_method_6_code
def yX7_thinks : MethodName := ⟨RX7, "thinks", "()V"⟩
abbrev cX7_putsBack : ByteArray := prog_9_method_7_code
def yX7_putsBack : MethodName := ⟨RX7, "putsBack", "()V"⟩
abbrev cX7_bits : ByteArray := prog_9_method_8_code
def yX7_bits : MethodName := ⟨RX7, "bits", "(I)I"⟩
abbrev cX7_isMark : ByteArray := prog_9_method_9_code
def yX7_isMark : MethodName := ⟨RX7, "isMark", "(I)Z"⟩
abbrev cX7_isPicture : ByteArray := prog_9_method_10_code
def yX7_isPicture : MethodName := ⟨RX7, "isPicture", "(I)Z"⟩
abbrev cX7_becomes : ByteArray := prog_9_method_11_code
def yX7_becomes : MethodName := ⟨RX7, "becomes", "(II)I"⟩
abbrev cX7_of : ByteArray := prog_9_method_12_code
def yX7_of : MethodName := ⟨RX7, "of", "(II)I"⟩
abbrev cX7_puts : ByteArray := prog_9_method_13_code
def yX7_puts : MethodName := ⟨RX7, "puts", "(III)V"⟩
abbrev cX7_onOnes : ByteArray := prog_9_method_14_code
def yX7_onOnes : MethodName := ⟨RX7, "onOnes", "()I"⟩
abbrev cX7_touching : ByteArray := prog_9_method_15_code
def yX7_touching : MethodName := ⟨RX7, "touching", "(I)I"⟩
abbrev cX7_weighsBy : ByteArray := prog_9_method_16_code
def yX7_weighsBy : MethodName := ⟨RX7, "weighsBy", "(I)I"⟩
abbrev cX7_readBy : ByteArray := prog_9_method_17_code
def yX7_readBy : MethodName := ⟨RX7, "readBy", "(I)I"⟩
abbrev cX7_weight : ByteArray := prog_9_method_18_code
def yX7_weight : MethodName := ⟨RX7, "weight", "(I)I"⟩
abbrev cX7_saysOf : ByteArray := prog_9_method_19_code
def yX7_saysOf : MethodName := ⟨RX7, "saysOf", "(I)I"⟩
abbrev cX7_tiedBy : ByteArray := prog_9_method_20_code
def yX7_tiedBy : MethodName := ⟨RX7, "tiedBy", "(I)I"⟩
abbrev cX7_doesHold : ByteArray := prog_9_method_21_code
def yX7_doesHold : MethodName := ⟨RX7, "doesHold", "(I)Z"⟩
abbrev cX7_det : ByteArray := prog_9_method_22_code
def yX7_det : MethodName := ⟨RX7, "det", "(III)J"⟩
abbrev cX7_adds : ByteArray := prog_9_method_23_code
def yX7_adds : MethodName := ⟨RX7, "adds", "(I)V"⟩
abbrev cX7_isSolved : ByteArray := prog_9_method_24_code
def yX7_isSolved : MethodName := ⟨RX7, "isSolved", "()Z"⟩
abbrev cX7_missOf : ByteArray := prog_9_method_25_code
def yX7_missOf : MethodName := ⟨RX7, "missOf", "(I)J"⟩
abbrev cX7_doubt : ByteArray := prog_9_method_26_code
def yX7_doubt : MethodName := ⟨RX7, "doubt", "(I)J"⟩
abbrev cX7_mostDoubted : ByteArray := prog_9_method_27_code
def yX7_mostDoubted : MethodName := ⟨RX7, "mostDoubted", "()I"⟩
abbrev cX7_allMiss : ByteArray := prog_9_method_28_code
def yX7_allMiss : MethodName := ⟨RX7, "allMiss", "()J"⟩
abbrev cX7_inTerms : ByteArray := prog_9_method_29_code
def yX7_inTerms : MethodName := ⟨RX7, "inTerms", "(JJI)J"⟩
abbrev cX7_isKm : ByteArray := prog_9_method_30_code
def yX7_isKm : MethodName := ⟨RX7, "isKm", "(I)Z"⟩
abbrev cX7_mark : ByteArray := prog_9_method_31_code
def yX7_mark : MethodName := ⟨RX7, "mark", "(IIII)I"⟩
abbrev cX7_markIs : ByteArray := prog_9_method_32_code
def yX7_markIs : MethodName := ⟨RX7, "markIs", "(II)I"⟩
abbrev cX7_become : ByteArray := prog_9_method_33_code
def yX7_become : MethodName := ⟨RX7, "become", "(II)I"⟩
abbrev cX7_as : ByteArray := prog_9_method_34_code
def yX7_as : MethodName := ⟨RX7, "as", "(II)I"⟩
abbrev cX7_measure : ByteArray := prog_9_method_35_code
def yX7_measure : MethodName := ⟨RX7, "measure", "(II)I"⟩
abbrev cX7_on : ByteArray := prog_9_method_36_code
def yX7_on : MethodName := ⟨RX7, "on", "(II)I"⟩
abbrev cX7_pictures : ByteArray := prog_9_method_37_code
def yX7_pictures : MethodName := ⟨RX7, "pictures", "(I)I"⟩
abbrev cX7_limit : ByteArray := prog_9_method_38_code
def yX7_limit : MethodName := ⟨RX7, "limit", "(I)I"⟩
abbrev cX7_feed : ByteArray := prog_9_method_39_code
def yX7_feed : MethodName := ⟨RX7, "feed", "(JI)I"⟩
abbrev cX7_look : ByteArray := prog_9_method_40_code
def yX7_look : MethodName := ⟨RX7, "look", "()I"⟩
abbrev cX7_lays : ByteArray := prog_9_method_41_code
def yX7_lays : MethodName := ⟨RX7, "lays", "(II)V"⟩
abbrev cX7_nameOf : ByteArray := prog_9_method_42_code
def yX7_nameOf : MethodName := ⟨RX7, "nameOf", "(I)I"⟩
abbrev cX7_number : ByteArray := prog_9_method_43_code
def yX7_number : MethodName := ⟨RX7, "number", "()V"⟩
abbrev cX7_opens : ByteArray := prog_9_method_44_code
def yX7_opens : MethodName := ⟨RX7, "opens", "(I)V"⟩
abbrev cX7_one : ByteArray := prog_9_method_45_code
def yX7_one : MethodName := ⟨RX7, "one", "()V"⟩
abbrev cX7_times : ByteArray := prog_9_method_46_code
def yX7_times : MethodName := ⟨RX7, "times", "()V"⟩
abbrev cX7_sumBy : ByteArray := prog_9_method_47_code
def yX7_sumBy : MethodName := ⟨RX7, "sumBy", "()V"⟩
abbrev cX7_compares : ByteArray := prog_9_method_48_code
def yX7_compares : MethodName := ⟨RX7, "compares", "()V"⟩
abbrev cX7_all : ByteArray := prog_9_method_49_code
def yX7_all : MethodName := ⟨RX7, "all", "()V"⟩
abbrev cX7_any : ByteArray := prog_9_method_50_code
def yX7_any : MethodName := ⟨RX7, "any", "()V"⟩
abbrev cX7_text : ByteArray := prog_9_method_51_code
def yX7_text : MethodName := ⟨RX7, "text", "(I)I"⟩
abbrev cX7_untell : ByteArray := prog_9_method_52_code
def yX7_untell : MethodName := ⟨RX7, "untell", "(I)I"⟩
abbrev cX7_twoOf : ByteArray := prog_9_method_53_code
def yX7_twoOf : MethodName := ⟨RX7, "twoOf", "(III)I"⟩
abbrev cX7_works : ByteArray := prog_9_method_54_code
def yX7_works : MethodName := ⟨RX7, "works", "(I)I"⟩
abbrev cX7_gives : ByteArray := prog_9_method_55_code
def yX7_gives : MethodName := ⟨RX7, "gives", "(IIII)I"⟩
abbrev cX7_law : ByteArray := prog_9_method_56_code
def yX7_law : MethodName := ⟨RX7, "law", "(IIII)I"⟩
abbrev cX7_goes : ByteArray := prog_9_method_57_code
def yX7_goes : MethodName := ⟨RX7, "goes", "()V"⟩
abbrev cX7_goesFor : ByteArray := prog_9_method_58_code
def yX7_goesFor : MethodName := ⟨RX7, "goesFor", "(I)V"⟩
abbrev cX7_rounds : ByteArray := prog_9_method_59_code
def yX7_rounds : MethodName := ⟨RX7, "rounds", "(I)I"⟩
abbrev cX7_draw : ByteArray := prog_9_method_60_code
def yX7_draw : MethodName := ⟨RX7, "draw", "()I"⟩
abbrev cX7_drawn : ByteArray := prog_9_method_61_code
def yX7_drawn : MethodName := ⟨RX7, "drawn", "()V"⟩
abbrev cX7_loose : ByteArray := prog_9_method_62_code
def yX7_loose : MethodName := ⟨RX7, "loose", "(I)I"⟩
abbrev cX7_round : ByteArray := prog_9_method_63_code
def yX7_round : MethodName := ⟨RX7, "round", "(I)I"⟩
abbrev cX7_seed : ByteArray := prog_9_method_64_code
def yX7_seed : MethodName := ⟨RX7, "seed", "(I)I"⟩
abbrev cX7_isPart : ByteArray := prog_9_method_65_code
def yX7_isPart : MethodName := ⟨RX7, "isPart", "(I)Z"⟩
abbrev cX7_place : ByteArray := prog_9_method_66_code
def yX7_place : MethodName := ⟨RX7, "place", "(II)J"⟩
abbrev cX7_miss : ByteArray := prog_9_method_67_code
def yX7_miss : MethodName := ⟨RX7, "miss", "(II)J"⟩
abbrev cX7_sum : ByteArray := prog_9_method_68_code
def yX7_sum : MethodName := ⟨RX7, "sum", "(I)J"⟩
abbrev cX7_doubted : ByteArray := prog_9_method_69_code
def yX7_doubted : MethodName := ⟨RX7, "doubted", "()I"⟩
abbrev cX7_needed : ByteArray := prog_9_method_70_code
def yX7_needed : MethodName := ⟨RX7, "needed", "()I"⟩
abbrev cX7_weightOf : ByteArray := prog_9_method_71_code
def yX7_weightOf : MethodName := ⟨RX7, "weightOf", "(I)I"⟩
abbrev cX7_spine : ByteArray := prog_9_method_72_code
def yX7_spine : MethodName := ⟨RX7, "spine", "()I"⟩
abbrev cX7_then : ByteArray := prog_9_method_73_code
def yX7_then : MethodName := ⟨RX7, "then", "(II)I"⟩
abbrev cX7_soonest : ByteArray := prog_9_method_74_code
def yX7_soonest : MethodName := ⟨RX7, "soonest", "(I)I"⟩
abbrev cX7_doStay : ByteArray := prog_9_method_75_code
def yX7_doStay : MethodName := ⟨RX7, "doStay", "(I)Z"⟩
abbrev cX7_limitFor : ByteArray := prog_9_method_76_code
def yX7_limitFor : MethodName := ⟨RX7, "limitFor", "(I)I"⟩
abbrev cX7_toldFor : ByteArray := prog_9_method_77_code
def yX7_toldFor : MethodName := ⟨RX7, "toldFor", "(I)I"⟩
abbrev cX7_odds : ByteArray := prog_9_method_78_code
def yX7_odds : MethodName := ⟨RX7, "odds", "(III)I"⟩
abbrev cX7_isSo : ByteArray := prog_9_method_79_code
def yX7_isSo : MethodName := ⟨RX7, "isSo", "(I)Z"⟩
abbrev cX7_fits : ByteArray := prog_9_method_80_code
def yX7_fits : MethodName := ⟨RX7, "fits", "(III)I"⟩
abbrev cX7_begins : ByteArray := prog_9_method_81_code
def yX7_begins : MethodName := ⟨RX7, "begins", "(I)V"⟩
abbrev cX7_plainWeighs : ByteArray := prog_9_method_82_code
def yX7_plainWeighs : MethodName := ⟨RX7, "plainWeighs", "(II)I"⟩
abbrev cX7_flatWeighs : ByteArray := prog_9_method_83_code
def yX7_flatWeighs : MethodName := ⟨RX7, "flatWeighs", "(II)I"⟩
abbrev cX7_weighs : ByteArray := prog_9_method_84_code
def yX7_weighs : MethodName := ⟨RX7, "weighs", "(II)I"⟩
abbrev cX7_plainSays : ByteArray := prog_9_method_85_code
def yX7_plainSays : MethodName := ⟨RX7, "plainSays", "(II)I"⟩
abbrev cX7_starSays : ByteArray := prog_9_method_86_code
def yX7_starSays : MethodName := ⟨RX7, "starSays", "(II)I"⟩
abbrev cX7_says : ByteArray := prog_9_method_87_code
def yX7_says : MethodName := ⟨RX7, "says", "(II)I"⟩
abbrev cX7_plainTies : ByteArray := prog_9_method_88_code
def yX7_plainTies : MethodName := ⟨RX7, "plainTies", "(II)I"⟩
abbrev cX7_ties : ByteArray := prog_9_method_89_code
def yX7_ties : MethodName := ⟨RX7, "ties", "(II)I"⟩
abbrev cX7_plainParts : ByteArray := prog_9_method_90_code
def yX7_plainParts : MethodName := ⟨RX7, "plainParts", "(II)I"⟩
abbrev cX7_partsBy : ByteArray := prog_9_method_91_code
def yX7_partsBy : MethodName := ⟨RX7, "partsBy", "(II)I"⟩
abbrev cX7_voice : ByteArray := prog_9_method_92_code
def yX7_voice : MethodName := ⟨RX7, "voice", "(III)I"⟩
abbrev cX7_body : ByteArray := prog_9_method_93_code
def yX7_body : MethodName := ⟨RX7, "body", "(I)I"⟩
abbrev cX7_isSheet : ByteArray := prog_9_method_94_code
def yX7_isSheet : MethodName := ⟨RX7, "isSheet", "(I)Z"⟩
abbrev cX7_sheet : ByteArray := prog_9_method_95_code
def yX7_sheet : MethodName := ⟨RX7, "sheet", "(III)I"⟩
abbrev cX7_notThere : ByteArray := prog_9_method_96_code
def yX7_notThere : MethodName := ⟨RX7, "notThere", "(I)I"⟩
abbrev cX7_put : ByteArray := prog_9_method_97_code
def yX7_put : MethodName := ⟨RX7, "put", "(III)I"⟩
abbrev cX7_notMoved : ByteArray := prog_9_method_98_code
def yX7_notMoved : MethodName := ⟨RX7, "notMoved", "(IIIII)I"⟩
abbrev cX7_move : ByteArray := prog_9_method_99_code
def yX7_move : MethodName := ⟨RX7, "move", "(IIIII)I"⟩
abbrev cX7_tells : ByteArray := prog_9_method_100_code
def yX7_tells : MethodName := ⟨RX7, "tells", "(I)I"⟩
abbrev cX7_judge : ByteArray := prog_9_method_101_code
def yX7_judge : MethodName := ⟨RX7, "judge", "(I)I"⟩
abbrev cX7_image : ByteArray := prog_9_method_102_code
def yX7_image : MethodName := ⟨RX7, "image", "()I"⟩
abbrev cX7_restore : ByteArray := prog_9_method_103_code
def yX7_restore : MethodName := ⟨RX7, "restore", "()I"⟩
abbrev cX7_tell : ByteArray := prog_9_method_104_code
def yX7_tell : MethodName := ⟨RX7, "tell", "(I)I"⟩
abbrev cX7_check : ByteArray := prog_9_method_105_code
def yX7_check : MethodName := ⟨RX7, "check", "()I"⟩
abbrev cX7_count : ByteArray := prog_9_method_106_code
def yX7_count : MethodName := ⟨RX7, "count", "(I)I"⟩
abbrev cX7_told : ByteArray := prog_9_method_107_code
def yX7_told : MethodName := ⟨RX7, "told", "(I)I"⟩
def RJ11 : String := "java/lang/Character"
def TJ11 : u_T := fun k => match k with
  | _ => ("", "", "", false)
def tyJ11 : Nat → FieldType := fun k => match k with
  | _ => .int
abbrev wsJ110 : List Cond := u_ws RJ11 TJ11 0
theorem nmJ11 : ∀ a, a < 0 → ∀ b, b < 0 → a ≠ b → (TJ11 a).2.1 ≠ (TJ11 b).2.1 := by decide +kernel
theorem tyJ11_ok : ∀ k, k < 0 → parseFieldDescriptor (TJ11 k).2.2.1 = some (tyJ11 k) := by decide +kernel
abbrev cJ11_isValidCodePoint_9a6ad : ByteArray := prog_10_method_11_code
def yJ11_isValidCodePoint_9a6ad : MethodName := ⟨RJ11, "isValidCodePoint", "(I)Z"⟩
abbrev cJ11_highSurrogate_5068e : ByteArray := prog_10_method_28_code
def yJ11_highSurrogate_5068e : MethodName := ⟨RJ11, "highSurrogate", "(I)C"⟩
abbrev cJ11_lowSurrogate_5068e : ByteArray := prog_10_method_29_code
def yJ11_lowSurrogate_5068e : MethodName := ⟨RJ11, "lowSurrogate", "(I)C"⟩
def RJ6 : String := "java/lang/Integer"
def TJ6 : u_T := fun k => match k with
  | _ => ("", "", "", false)
def tyJ6 : Nat → FieldType := fun k => match k with
  | _ => .int
abbrev wsJ60 : List Cond := u_ws RJ6 TJ6 0
theorem nmJ6 : ∀ a, a < 0 → ∀ b, b < 0 → a ≠ b → (TJ6 a).2.1 ≠ (TJ6 b).2.1 := by decide +kernel
theorem tyJ6_ok : ∀ k, k < 0 → parseFieldDescriptor (TJ6 k).2.2.1 = some (tyJ6 k) := by decide +kernel
abbrev cJ6_bitCount_0f7a4 : ByteArray := prog_11_method_49_code
def yJ6_bitCount_0f7a4 : MethodName := ⟨RJ6, "bitCount", "(I)I"⟩
def RJ9 : String := "java/lang/Math"
def TJ9 : u_T := fun k => match k with
  | _ => ("", "", "", false)
def tyJ9 : Nat → FieldType := fun k => match k with
  | _ => .int
abbrev wsJ90 : List Cond := u_ws RJ9 TJ9 0
theorem nmJ9 : ∀ a, a < 0 → ∀ b, b < 0 → a ≠ b → (TJ9 a).2.1 ≠ (TJ9 b).2.1 := by decide +kernel
theorem tyJ9_ok : ∀ k, k < 0 → parseFieldDescriptor (TJ9 k).2.2.1 = some (tyJ9 k) := by decide +kernel
abbrev cJ9_abs_067f4 : ByteArray := prog_12_method_61_code
def yJ9_abs_067f4 : MethodName := ⟨RJ9, "abs", "(J)J"⟩
abbrev cJ9_max_7cf53 : ByteArray := prog_12_method_65_code
def yJ9_max_7cf53 : MethodName := ⟨RJ9, "max", "(II)I"⟩
abbrev cJ9_max_f86c9 : ByteArray := prog_12_method_66_code
def yJ9_max_f86c9 : MethodName := ⟨RJ9, "max", "(JJ)J"⟩
abbrev cJ9_min_7cf53 : ByteArray := prog_12_method_69_code
def yJ9_min_7cf53 : MethodName := ⟨RJ9, "min", "(II)I"⟩
def RJ0 : String := "java/lang/String"
def TJ0 : u_T := fun k => match k with
  | _ => ("", "", "", false)
def tyJ0 : Nat → FieldType := fun k => match k with
  | _ => .int
abbrev wsJ00 : List Cond := u_ws RJ0 TJ0 0
theorem nmJ0 : ∀ a, a < 0 → ∀ b, b < 0 → a ≠ b → (TJ0 a).2.1 ≠ (TJ0 b).2.1 := by decide +kernel
theorem tyJ0_ok : ∀ k, k < 0 → parseFieldDescriptor (TJ0 k).2.2.1 = some (tyJ0 k) := by decide +kernel
abbrev cJ0_length_8abf5 : ByteArray := prog_13_method_54_code
def yJ0_length_8abf5 : MethodName := ⟨RJ0, "length", "()I"⟩
abbrev cJ0_indexOf_0f7a4 : ByteArray := prog_13_method_79_code
def yJ0_indexOf_0f7a4 : MethodName := ⟨RJ0, "indexOf", "(I)I"⟩
abbrev cJ0_indexOf_7cf53 : ByteArray := prog_13_method_80_code
def yJ0_indexOf_7cf53 : MethodName := ⟨RJ0, "indexOf", "(II)I"⟩
abbrev cJ0_coder_7d493 : ByteArray := prog_13_method_152_code
def yJ0_coder_7d493 : MethodName := ⟨RJ0, "coder", "()B"⟩
abbrev cJ0_isLatin1_aae02 : ByteArray := prog_13_method_154_code
def yJ0_isLatin1_aae02 : MethodName := ⟨RJ0, "isLatin1", "()Z"⟩
abbrev cJ0_checkBoundsBeginEnd_23922 : ByteArray := prog_13_method_158_code
def yJ0_checkBoundsBeginEnd_23922 : MethodName := ⟨RJ0, "checkBoundsBeginEnd", "(III)V"⟩
def RJ1 : String := "java/lang/StringLatin1"
def TJ1 : u_T := fun k => match k with
  | _ => ("", "", "", false)
def tyJ1 : Nat → FieldType := fun k => match k with
  | _ => .int
abbrev wsJ10 : List Cond := u_ws RJ1 TJ1 0
theorem nmJ1 : ∀ a, a < 0 → ∀ b, b < 0 → a ≠ b → (TJ1 a).2.1 ≠ (TJ1 b).2.1 := by decide +kernel
theorem tyJ1_ok : ∀ k, k < 0 → parseFieldDescriptor (TJ1 k).2.2.1 = some (tyJ1 k) := by decide +kernel
abbrev cJ1_canEncode_9a6ad : ByteArray := prog_14_method_4_code
def yJ1_canEncode_9a6ad : MethodName := ⟨RJ1, "canEncode", "(I)Z"⟩
abbrev cJ1_indexOf_4cfef : ByteArray := prog_14_method_22_code
def yJ1_indexOf_4cfef : MethodName := ⟨RJ1, "indexOf", "([BIII)I"⟩
abbrev cJ1_indexOfChar_4cfef : ByteArray := prog_14_method_23_code
def yJ1_indexOfChar_4cfef : MethodName := ⟨RJ1, "indexOfChar", "([BIII)I"⟩
def RJ2 : String := "java/lang/StringUTF16"
def TJ2 : u_T := fun k => match k with
  | _ => ("", "", "", false)
def tyJ2 : Nat → FieldType := fun k => match k with
  | _ => .int
abbrev wsJ20 : List Cond := u_ws RJ2 TJ2 0
theorem nmJ2 : ∀ a, a < 0 → ∀ b, b < 0 → a ≠ b → (TJ2 a).2.1 ≠ (TJ2 b).2.1 := by decide +kernel
theorem tyJ2_ok : ∀ k, k < 0 → parseFieldDescriptor (TJ2 k).2.2.1 = some (tyJ2 k) := by decide +kernel
abbrev cJ2_getChar_3b067 : ByteArray := prog_15_method_5_code
def yJ2_getChar_3b067 : MethodName := ⟨RJ2, "getChar", "([BI)C"⟩
abbrev cJ2_length_9d52b : ByteArray := prog_15_method_6_code
def yJ2_length_9d52b : MethodName := ⟨RJ2, "length", "([B)I"⟩
abbrev cJ2_indexOf_4cfef : ByteArray := prog_15_method_40_code
def yJ2_indexOf_4cfef : MethodName := ⟨RJ2, "indexOf", "([BIII)I"⟩
abbrev cJ2_indexOfChar_4cfef : ByteArray := prog_15_method_47_code
def yJ2_indexOfChar_4cfef : MethodName := ⟨RJ2, "indexOfChar", "([BIII)I"⟩
abbrev cJ2_indexOfCharUnsafe_4cfef : ByteArray := prog_15_method_48_code
def yJ2_indexOfCharUnsafe_4cfef : MethodName := ⟨RJ2, "indexOfCharUnsafe", "([BIII)I"⟩
abbrev cJ2_indexOfSupplementary_4cfef : ByteArray := prog_15_method_49_code
def yJ2_indexOfSupplementary_4cfef : MethodName := ⟨RJ2, "indexOfSupplementary", "([BIII)I"⟩
abbrev cJ2_checkBoundsBeginEnd_d044e : ByteArray := prog_15_method_93_code
def yJ2_checkBoundsBeginEnd_d044e : MethodName := ⟨RJ2, "checkBoundsBeginEnd", "(II[B)V"⟩
def RJ10 : String := "java/lang/System"
def TJ10 : u_T := fun k => match k with
  | _ => ("", "", "", false)
def tyJ10 : Nat → FieldType := fun k => match k with
  | _ => .int
abbrev wsJ100 : List Cond := u_ws RJ10 TJ10 0
theorem nmJ10 : ∀ a, a < 0 → ∀ b, b < 0 → a ≠ b → (TJ10 a).2.1 ≠ (TJ10 b).2.1 := by decide +kernel
theorem tyJ10_ok : ∀ k, k < 0 → parseFieldDescriptor (TJ10 k).2.2.1 = some (tyJ10 k) := by decide +kernel
def RJ3 : String := "jdk/internal/util/Preconditions"
def TJ3 : u_T := fun k => match k with
  | _ => ("", "", "", false)
def tyJ3 : Nat → FieldType := fun k => match k with
  | _ => .int
abbrev wsJ30 : List Cond := u_ws RJ3 TJ3 0
theorem nmJ3 : ∀ a, a < 0 → ∀ b, b < 0 → a ≠ b → (TJ3 a).2.1 ≠ (TJ3 b).2.1 := by decide +kernel
theorem tyJ3_ok : ∀ k, k < 0 → parseFieldDescriptor (TJ3 k).2.2.1 = some (tyJ3 k) := by decide +kernel
abbrev cJ3_checkFromToIndex_8c36e : ByteArray := prog_17_method_12_code
def yJ3_checkFromToIndex_8c36e : MethodName := ⟨RJ3, "checkFromToIndex", "(IIILjava/util/function/BiFunction;)I"⟩
def RL : String := "PictureBlockLaw"
abbrev cL_law : ByteArray := code
def yL_law : MethodName := ⟨RL, "law", "([I)Z"⟩
abbrev vwCl : List vw_C := [(RX0, TX0, 17), (RX1, TX1, 5), (RX2, TX2, 6), (RX3, TX3, 3), (RX4, TX4, 6), (RX5, TX5, 6), (RX6, TX6, 9), (RX7, TX7, 24)]
/-! ===== END printed: names ===== -/
end
section
theorem dX0_init_0 : decode cX0_init 0 = .ok (.aload_n 0, 1) := by decide +kernel
theorem dX0_init_1 : decode cX0_init 1 = .ok (.invokespecial 3, 3) := by decide +kernel
theorem dX0_init_4 : decode cX0_init 4 = .ok (.aload_n 0, 1) := by decide +kernel
theorem dX0_init_5 : decode cX0_init 5 = .ok (.bipush 8, 2) := by decide +kernel
theorem dX0_init_7 : decode cX0_init 7 = .ok (.newarray .int, 2) := by decide +kernel
theorem dX0_init_9 : decode cX0_init 9 = .ok (.putfield 9, 3) := by decide +kernel
theorem dX0_init_12 : decode cX0_init 12 = .ok (.aload_n 0, 1) := by decide +kernel
theorem dX0_init_13 : decode cX0_init 13 = .ok (.bipush 8, 2) := by decide +kernel
theorem dX0_init_15 : decode cX0_init 15 = .ok (.newarray .int, 2) := by decide +kernel
theorem dX0_init_17 : decode cX0_init 17 = .ok (.putfield 15, 3) := by decide +kernel
theorem dX0_init_20 : decode cX0_init 20 = .ok (.aload_n 0, 1) := by decide +kernel
theorem dX0_init_21 : decode cX0_init 21 = .ok (.bipush 8, 2) := by decide +kernel
theorem dX0_init_23 : decode cX0_init 23 = .ok (.newarray .int, 2) := by decide +kernel
theorem dX0_init_25 : decode cX0_init 25 = .ok (.putfield 18, 3) := by decide +kernel
theorem dX0_init_28 : decode cX0_init 28 = .ok (.aload_n 0, 1) := by decide +kernel
theorem dX0_init_29 : decode cX0_init 29 = .ok (.bipush 8, 2) := by decide +kernel
theorem dX0_init_31 : decode cX0_init 31 = .ok (.newarray .int, 2) := by decide +kernel
theorem dX0_init_33 : decode cX0_init 33 = .ok (.putfield 21, 3) := by decide +kernel
theorem dX0_init_36 : decode cX0_init 36 = .ok (.aload_n 0, 1) := by decide +kernel
theorem dX0_init_37 : decode cX0_init 37 = .ok (.bipush 8, 2) := by decide +kernel
theorem dX0_init_39 : decode cX0_init 39 = .ok (.newarray .int, 2) := by decide +kernel
theorem dX0_init_41 : decode cX0_init 41 = .ok (.putfield 24, 3) := by decide +kernel
theorem dX0_init_44 : decode cX0_init 44 = .ok (.aload_n 0, 1) := by decide +kernel
theorem dX0_init_45 : decode cX0_init 45 = .ok (.bipush 60, 2) := by decide +kernel
theorem dX0_init_47 : decode cX0_init 47 = .ok (.newarray .int, 2) := by decide +kernel
theorem dX0_init_49 : decode cX0_init 49 = .ok (.putfield 27, 3) := by decide +kernel
theorem dX0_init_52 : decode cX0_init 52 = .ok (.aload_n 0, 1) := by decide +kernel
theorem dX0_init_53 : decode cX0_init 53 = .ok (.bipush 24, 2) := by decide +kernel
theorem dX0_init_55 : decode cX0_init 55 = .ok (.newarray .int, 2) := by decide +kernel
theorem dX0_init_57 : decode cX0_init 57 = .ok (.putfield 30, 3) := by decide +kernel
theorem dX0_init_60 : decode cX0_init 60 = .ok (.aload_n 0, 1) := by decide +kernel
theorem dX0_init_61 : decode cX0_init 61 = .ok (.iconst 2, 1) := by decide +kernel
theorem dX0_init_62 : decode cX0_init 62 = .ok (.anewarray 33, 3) := by decide +kernel
theorem dX0_init_65 : decode cX0_init 65 = .ok (.dup, 1) := by decide +kernel
theorem dX0_init_66 : decode cX0_init 66 = .ok (.iconst 0, 1) := by decide +kernel
theorem dX0_init_67 : decode cX0_init 67 = .ok (.new 33, 3) := by decide +kernel
theorem dX0_init_70 : decode cX0_init 70 = .ok (.dup, 1) := by decide +kernel
theorem dX0_init_71 : decode cX0_init 71 = .ok (.ldc 35, 2) := by decide +kernel
theorem dX0_init_73 : decode cX0_init 73 = .ok (.iconst 1, 1) := by decide +kernel
theorem dX0_init_74 : decode cX0_init 74 = .ok (.iconst 4, 1) := by decide +kernel
theorem dX0_init_75 : decode cX0_init 75 = .ok (.invokespecial 37, 3) := by decide +kernel
theorem dX0_init_78 : decode cX0_init 78 = .ok (.aastore, 1) := by decide +kernel
theorem dX0_init_79 : decode cX0_init 79 = .ok (.dup, 1) := by decide +kernel
theorem dX0_init_80 : decode cX0_init 80 = .ok (.iconst 1, 1) := by decide +kernel
theorem dX0_init_81 : decode cX0_init 81 = .ok (.new 33, 3) := by decide +kernel
theorem dX0_init_84 : decode cX0_init 84 = .ok (.dup, 1) := by decide +kernel
theorem dX0_init_85 : decode cX0_init 85 = .ok (.ldc 40, 2) := by decide +kernel
theorem dX0_init_87 : decode cX0_init 87 = .ok (.bipush (-30), 2) := by decide +kernel
theorem dX0_init_89 : decode cX0_init 89 = .ok (.bipush 30, 2) := by decide +kernel
theorem dX0_init_91 : decode cX0_init 91 = .ok (.invokespecial 37, 3) := by decide +kernel
theorem dX0_init_94 : decode cX0_init 94 = .ok (.aastore, 1) := by decide +kernel
theorem dX0_init_95 : decode cX0_init 95 = .ok (.putfield 42, 3) := by decide +kernel
theorem dX0_init_98 : decode cX0_init 98 = .ok (.aload_n 0, 1) := by decide +kernel
theorem dX0_init_99 : decode cX0_init 99 = .ok (.iconst 2, 1) := by decide +kernel
theorem dX0_init_100 : decode cX0_init 100 = .ok (.putfield 46, 3) := by decide +kernel
theorem dX0_init_103 : decode cX0_init 103 = .ok (.aload_n 0, 1) := by decide +kernel
theorem dX0_init_104 : decode cX0_init 104 = .ok (.bipush 20, 2) := by decide +kernel
theorem dX0_init_106 : decode cX0_init 106 = .ok (.putfield 50, 3) := by decide +kernel
theorem dX0_init_109 : decode cX0_init 109 = .ok (.aload_n 0, 1) := by decide +kernel
theorem dX0_init_110 : decode cX0_init 110 = .ok (.iconst 1, 1) := by decide +kernel
theorem dX0_init_111 : decode cX0_init 111 = .ok (.putfield 53, 3) := by decide +kernel
theorem dX0_init_114 : decode cX0_init 114 = .ok (.return_, 1) := by decide +kernel
theorem dX0_copy_0 : decode cX0_copy 0 = .ok (.aload_n 1, 1) := by decide +kernel
theorem dX0_copy_1 : decode cX0_copy 1 = .ok (.getfield 9, 3) := by decide +kernel
theorem dX0_copy_4 : decode cX0_copy 4 = .ok (.iconst 0, 1) := by decide +kernel
theorem dX0_copy_5 : decode cX0_copy 5 = .ok (.aload_n 0, 1) := by decide +kernel
theorem dX0_copy_6 : decode cX0_copy 6 = .ok (.getfield 9, 3) := by decide +kernel
theorem dX0_copy_9 : decode cX0_copy 9 = .ok (.iconst 0, 1) := by decide +kernel
theorem dX0_copy_10 : decode cX0_copy 10 = .ok (.bipush 8, 2) := by decide +kernel
theorem dX0_copy_12 : decode cX0_copy 12 = .ok (.invokestatic 56, 3) := by decide +kernel
theorem dX0_copy_15 : decode cX0_copy 15 = .ok (.aload_n 1, 1) := by decide +kernel
theorem dX0_copy_16 : decode cX0_copy 16 = .ok (.getfield 15, 3) := by decide +kernel
theorem dX0_copy_19 : decode cX0_copy 19 = .ok (.iconst 0, 1) := by decide +kernel
theorem dX0_copy_20 : decode cX0_copy 20 = .ok (.aload_n 0, 1) := by decide +kernel
theorem dX0_copy_21 : decode cX0_copy 21 = .ok (.getfield 15, 3) := by decide +kernel
theorem dX0_copy_24 : decode cX0_copy 24 = .ok (.iconst 0, 1) := by decide +kernel
theorem dX0_copy_25 : decode cX0_copy 25 = .ok (.bipush 8, 2) := by decide +kernel
theorem dX0_copy_27 : decode cX0_copy 27 = .ok (.invokestatic 56, 3) := by decide +kernel
theorem dX0_copy_30 : decode cX0_copy 30 = .ok (.aload_n 1, 1) := by decide +kernel
theorem dX0_copy_31 : decode cX0_copy 31 = .ok (.getfield 18, 3) := by decide +kernel
theorem dX0_copy_34 : decode cX0_copy 34 = .ok (.iconst 0, 1) := by decide +kernel
theorem dX0_copy_35 : decode cX0_copy 35 = .ok (.aload_n 0, 1) := by decide +kernel
theorem dX0_copy_36 : decode cX0_copy 36 = .ok (.getfield 18, 3) := by decide +kernel
theorem dX0_copy_39 : decode cX0_copy 39 = .ok (.iconst 0, 1) := by decide +kernel
theorem dX0_copy_40 : decode cX0_copy 40 = .ok (.bipush 8, 2) := by decide +kernel
theorem dX0_copy_42 : decode cX0_copy 42 = .ok (.invokestatic 56, 3) := by decide +kernel
theorem dX0_copy_45 : decode cX0_copy 45 = .ok (.aload_n 1, 1) := by decide +kernel
theorem dX0_copy_46 : decode cX0_copy 46 = .ok (.getfield 21, 3) := by decide +kernel
theorem dX0_copy_49 : decode cX0_copy 49 = .ok (.iconst 0, 1) := by decide +kernel
theorem dX0_copy_50 : decode cX0_copy 50 = .ok (.aload_n 0, 1) := by decide +kernel
theorem dX0_copy_51 : decode cX0_copy 51 = .ok (.getfield 21, 3) := by decide +kernel
theorem dX0_copy_54 : decode cX0_copy 54 = .ok (.iconst 0, 1) := by decide +kernel
theorem dX0_copy_55 : decode cX0_copy 55 = .ok (.bipush 8, 2) := by decide +kernel
theorem dX0_copy_57 : decode cX0_copy 57 = .ok (.invokestatic 56, 3) := by decide +kernel
theorem dX0_copy_60 : decode cX0_copy 60 = .ok (.aload_n 1, 1) := by decide +kernel
theorem dX0_copy_61 : decode cX0_copy 61 = .ok (.getfield 24, 3) := by decide +kernel
theorem dX0_copy_64 : decode cX0_copy 64 = .ok (.iconst 0, 1) := by decide +kernel
theorem dX0_copy_65 : decode cX0_copy 65 = .ok (.aload_n 0, 1) := by decide +kernel
theorem dX0_copy_66 : decode cX0_copy 66 = .ok (.getfield 24, 3) := by decide +kernel
theorem dX0_copy_69 : decode cX0_copy 69 = .ok (.iconst 0, 1) := by decide +kernel
theorem dX0_copy_70 : decode cX0_copy 70 = .ok (.bipush 8, 2) := by decide +kernel
theorem dX0_copy_72 : decode cX0_copy 72 = .ok (.invokestatic 56, 3) := by decide +kernel
theorem dX0_copy_75 : decode cX0_copy 75 = .ok (.aload_n 1, 1) := by decide +kernel
theorem dX0_copy_76 : decode cX0_copy 76 = .ok (.getfield 27, 3) := by decide +kernel
theorem dX0_copy_79 : decode cX0_copy 79 = .ok (.iconst 0, 1) := by decide +kernel
theorem dX0_copy_80 : decode cX0_copy 80 = .ok (.aload_n 0, 1) := by decide +kernel
theorem dX0_copy_81 : decode cX0_copy 81 = .ok (.getfield 27, 3) := by decide +kernel
theorem dX0_copy_84 : decode cX0_copy 84 = .ok (.iconst 0, 1) := by decide +kernel
theorem dX0_copy_85 : decode cX0_copy 85 = .ok (.bipush 60, 2) := by decide +kernel
theorem dX0_copy_87 : decode cX0_copy 87 = .ok (.invokestatic 56, 3) := by decide +kernel
theorem dX0_copy_90 : decode cX0_copy 90 = .ok (.aload_n 1, 1) := by decide +kernel
theorem dX0_copy_91 : decode cX0_copy 91 = .ok (.getfield 30, 3) := by decide +kernel
theorem dX0_copy_94 : decode cX0_copy 94 = .ok (.iconst 0, 1) := by decide +kernel
theorem dX0_copy_95 : decode cX0_copy 95 = .ok (.aload_n 0, 1) := by decide +kernel
theorem dX0_copy_96 : decode cX0_copy 96 = .ok (.getfield 30, 3) := by decide +kernel
theorem dX0_copy_99 : decode cX0_copy 99 = .ok (.iconst 0, 1) := by decide +kernel
theorem dX0_copy_100 : decode cX0_copy 100 = .ok (.bipush 24, 2) := by decide +kernel
theorem dX0_copy_102 : decode cX0_copy 102 = .ok (.invokestatic 56, 3) := by decide +kernel
theorem dX0_copy_105 : decode cX0_copy 105 = .ok (.iconst 0, 1) := by decide +kernel
theorem dX0_copy_106 : decode cX0_copy 106 = .ok (.istore_n 2, 1) := by decide +kernel
theorem dX0_copy_107 : decode cX0_copy 107 = .ok (.iload_n 2, 1) := by decide +kernel
theorem dX0_copy_108 : decode cX0_copy 108 = .ok (.iconst 2, 1) := by decide +kernel
theorem dX0_copy_109 : decode cX0_copy 109 = .ok (.if_icmp .ge 36, 3) := by decide +kernel
theorem dX0_copy_112 : decode cX0_copy 112 = .ok (.aload_n 0, 1) := by decide +kernel
theorem dX0_copy_113 : decode cX0_copy 113 = .ok (.getfield 42, 3) := by decide +kernel
theorem dX0_copy_116 : decode cX0_copy 116 = .ok (.iload_n 2, 1) := by decide +kernel
theorem dX0_copy_117 : decode cX0_copy 117 = .ok (.aaload, 1) := by decide +kernel
theorem dX0_copy_118 : decode cX0_copy 118 = .ok (.aload_n 1, 1) := by decide +kernel
theorem dX0_copy_119 : decode cX0_copy 119 = .ok (.getfield 42, 3) := by decide +kernel
theorem dX0_copy_122 : decode cX0_copy 122 = .ok (.iload_n 2, 1) := by decide +kernel
theorem dX0_copy_123 : decode cX0_copy 123 = .ok (.aaload, 1) := by decide +kernel
theorem dX0_copy_124 : decode cX0_copy 124 = .ok (.getfield 62, 3) := by decide +kernel
theorem dX0_copy_127 : decode cX0_copy 127 = .ok (.aload_n 1, 1) := by decide +kernel
theorem dX0_copy_128 : decode cX0_copy 128 = .ok (.getfield 42, 3) := by decide +kernel
theorem dX0_copy_131 : decode cX0_copy 131 = .ok (.iload_n 2, 1) := by decide +kernel
theorem dX0_copy_132 : decode cX0_copy 132 = .ok (.aaload, 1) := by decide +kernel
theorem dX0_copy_133 : decode cX0_copy 133 = .ok (.getfield 65, 3) := by decide +kernel
theorem dX0_copy_136 : decode cX0_copy 136 = .ok (.invokevirtual 68, 3) := by decide +kernel
theorem dX0_copy_139 : decode cX0_copy 139 = .ok (.iinc 2 1, 3) := by decide +kernel
theorem dX0_copy_142 : decode cX0_copy 142 = .ok (.goto (-35), 3) := by decide +kernel
theorem dX0_copy_145 : decode cX0_copy 145 = .ok (.aload_n 0, 1) := by decide +kernel
theorem dX0_copy_146 : decode cX0_copy 146 = .ok (.aload_n 1, 1) := by decide +kernel
theorem dX0_copy_147 : decode cX0_copy 147 = .ok (.getfield 72, 3) := by decide +kernel
theorem dX0_copy_150 : decode cX0_copy 150 = .ok (.putfield 72, 3) := by decide +kernel
theorem dX0_copy_153 : decode cX0_copy 153 = .ok (.aload_n 0, 1) := by decide +kernel
theorem dX0_copy_154 : decode cX0_copy 154 = .ok (.aload_n 1, 1) := by decide +kernel
theorem dX0_copy_155 : decode cX0_copy 155 = .ok (.getfield 75, 3) := by decide +kernel
theorem dX0_copy_158 : decode cX0_copy 158 = .ok (.putfield 75, 3) := by decide +kernel
theorem dX0_copy_161 : decode cX0_copy 161 = .ok (.aload_n 0, 1) := by decide +kernel
theorem dX0_copy_162 : decode cX0_copy 162 = .ok (.aload_n 1, 1) := by decide +kernel
theorem dX0_copy_163 : decode cX0_copy 163 = .ok (.getfield 46, 3) := by decide +kernel
theorem dX0_copy_166 : decode cX0_copy 166 = .ok (.putfield 46, 3) := by decide +kernel
theorem dX0_copy_169 : decode cX0_copy 169 = .ok (.aload_n 0, 1) := by decide +kernel
theorem dX0_copy_170 : decode cX0_copy 170 = .ok (.aload_n 1, 1) := by decide +kernel
theorem dX0_copy_171 : decode cX0_copy 171 = .ok (.getfield 78, 3) := by decide +kernel
theorem dX0_copy_174 : decode cX0_copy 174 = .ok (.putfield 78, 3) := by decide +kernel
theorem dX0_copy_177 : decode cX0_copy 177 = .ok (.aload_n 0, 1) := by decide +kernel
theorem dX0_copy_178 : decode cX0_copy 178 = .ok (.aload_n 1, 1) := by decide +kernel
theorem dX0_copy_179 : decode cX0_copy 179 = .ok (.getfield 50, 3) := by decide +kernel
theorem dX0_copy_182 : decode cX0_copy 182 = .ok (.putfield 50, 3) := by decide +kernel
theorem dX0_copy_185 : decode cX0_copy 185 = .ok (.aload_n 0, 1) := by decide +kernel
theorem dX0_copy_186 : decode cX0_copy 186 = .ok (.aload_n 1, 1) := by decide +kernel
theorem dX0_copy_187 : decode cX0_copy 187 = .ok (.getfield 81, 3) := by decide +kernel
theorem dX0_copy_190 : decode cX0_copy 190 = .ok (.putfield 81, 3) := by decide +kernel
theorem dX0_copy_193 : decode cX0_copy 193 = .ok (.aload_n 0, 1) := by decide +kernel
theorem dX0_copy_194 : decode cX0_copy 194 = .ok (.aload_n 1, 1) := by decide +kernel
theorem dX0_copy_195 : decode cX0_copy 195 = .ok (.getfield 53, 3) := by decide +kernel
theorem dX0_copy_198 : decode cX0_copy 198 = .ok (.putfield 53, 3) := by decide +kernel
theorem dX0_copy_201 : decode cX0_copy 201 = .ok (.aload_n 0, 1) := by decide +kernel
theorem dX0_copy_202 : decode cX0_copy 202 = .ok (.aload_n 1, 1) := by decide +kernel
theorem dX0_copy_203 : decode cX0_copy 203 = .ok (.getfield 84, 3) := by decide +kernel
theorem dX0_copy_206 : decode cX0_copy 206 = .ok (.putfield 84, 3) := by decide +kernel
theorem dX0_copy_209 : decode cX0_copy 209 = .ok (.aload_n 0, 1) := by decide +kernel
theorem dX0_copy_210 : decode cX0_copy 210 = .ok (.aload_n 1, 1) := by decide +kernel
theorem dX0_copy_211 : decode cX0_copy 211 = .ok (.getfield 87, 3) := by decide +kernel
theorem dX0_copy_214 : decode cX0_copy 214 = .ok (.putfield 87, 3) := by decide +kernel
theorem dX0_copy_217 : decode cX0_copy 217 = .ok (.return_, 1) := by decide +kernel
theorem dX0_add_0 : decode cX0_add 0 = .ok (.aload_n 0, 1) := by decide +kernel
theorem dX0_add_1 : decode cX0_add 1 = .ok (.getfield 72, 3) := by decide +kernel
theorem dX0_add_4 : decode cX0_add 4 = .ok (.istore 5, 2) := by decide +kernel
theorem dX0_add_6 : decode cX0_add 6 = .ok (.aload_n 0, 1) := by decide +kernel
theorem dX0_add_7 : decode cX0_add 7 = .ok (.getfield 9, 3) := by decide +kernel
theorem dX0_add_10 : decode cX0_add 10 = .ok (.iload 5, 2) := by decide +kernel
theorem dX0_add_12 : decode cX0_add 12 = .ok (.iload_n 1, 1) := by decide +kernel
theorem dX0_add_13 : decode cX0_add 13 = .ok (.bipush 10, 2) := by decide +kernel
theorem dX0_add_15 : decode cX0_add 15 = .ok (.idiv, 1) := by decide +kernel
theorem dX0_add_16 : decode cX0_add 16 = .ok (.iastore, 1) := by decide +kernel
theorem dX0_add_17 : decode cX0_add 17 = .ok (.aload_n 0, 1) := by decide +kernel
theorem dX0_add_18 : decode cX0_add 18 = .ok (.getfield 15, 3) := by decide +kernel
theorem dX0_add_21 : decode cX0_add 21 = .ok (.iload 5, 2) := by decide +kernel
theorem dX0_add_23 : decode cX0_add 23 = .ok (.iload_n 1, 1) := by decide +kernel
theorem dX0_add_24 : decode cX0_add 24 = .ok (.bipush 10, 2) := by decide +kernel
theorem dX0_add_26 : decode cX0_add 26 = .ok (.irem, 1) := by decide +kernel
theorem dX0_add_27 : decode cX0_add 27 = .ok (.iastore, 1) := by decide +kernel
theorem dX0_add_28 : decode cX0_add 28 = .ok (.aload_n 0, 1) := by decide +kernel
theorem dX0_add_29 : decode cX0_add 29 = .ok (.getfield 18, 3) := by decide +kernel
theorem dX0_add_32 : decode cX0_add 32 = .ok (.iload 5, 2) := by decide +kernel
theorem dX0_add_34 : decode cX0_add 34 = .ok (.iload_n 2, 1) := by decide +kernel
theorem dX0_add_35 : decode cX0_add 35 = .ok (.iastore, 1) := by decide +kernel
theorem dX0_add_36 : decode cX0_add 36 = .ok (.aload_n 0, 1) := by decide +kernel
theorem dX0_add_37 : decode cX0_add 37 = .ok (.getfield 21, 3) := by decide +kernel
theorem dX0_add_40 : decode cX0_add 40 = .ok (.iload 5, 2) := by decide +kernel
theorem dX0_add_42 : decode cX0_add 42 = .ok (.iload_n 3, 1) := by decide +kernel
theorem dX0_add_43 : decode cX0_add 43 = .ok (.iastore, 1) := by decide +kernel
theorem dX0_add_44 : decode cX0_add 44 = .ok (.aload_n 0, 1) := by decide +kernel
theorem dX0_add_45 : decode cX0_add 45 = .ok (.getfield 24, 3) := by decide +kernel
theorem dX0_add_48 : decode cX0_add 48 = .ok (.iload 5, 2) := by decide +kernel
theorem dX0_add_50 : decode cX0_add 50 = .ok (.iload 4, 2) := by decide +kernel
theorem dX0_add_52 : decode cX0_add 52 = .ok (.iastore, 1) := by decide +kernel
theorem dX0_add_53 : decode cX0_add 53 = .ok (.aload_n 0, 1) := by decide +kernel
theorem dX0_add_54 : decode cX0_add 54 = .ok (.iload 5, 2) := by decide +kernel
theorem dX0_add_56 : decode cX0_add 56 = .ok (.iconst 1, 1) := by decide +kernel
theorem dX0_add_57 : decode cX0_add 57 = .ok (.invokevirtual 90, 3) := by decide +kernel
theorem dX0_add_60 : decode cX0_add 60 = .ok (.aload_n 0, 1) := by decide +kernel
theorem dX0_add_61 : decode cX0_add 61 = .ok (.dup, 1) := by decide +kernel
theorem dX0_add_62 : decode cX0_add 62 = .ok (.getfield 72, 3) := by decide +kernel
theorem dX0_add_65 : decode cX0_add 65 = .ok (.iconst 1, 1) := by decide +kernel
theorem dX0_add_66 : decode cX0_add 66 = .ok (.iadd, 1) := by decide +kernel
theorem dX0_add_67 : decode cX0_add 67 = .ok (.putfield 72, 3) := by decide +kernel
theorem dX0_add_70 : decode cX0_add 70 = .ok (.iload 5, 2) := by decide +kernel
theorem dX0_add_72 : decode cX0_add 72 = .ok (.ireturn, 1) := by decide +kernel
theorem dX0_isOn_0 : decode cX0_isOn 0 = .ok (.aload_n 0, 1) := by decide +kernel
theorem dX0_isOn_1 : decode cX0_isOn 1 = .ok (.getfield 75, 3) := by decide +kernel
theorem dX0_isOn_4 : decode cX0_isOn 4 = .ok (.iload_n 1, 1) := by decide +kernel
theorem dX0_isOn_5 : decode cX0_isOn 5 = .ok (.ishr, 1) := by decide +kernel
theorem dX0_isOn_6 : decode cX0_isOn 6 = .ok (.iconst 1, 1) := by decide +kernel
theorem dX0_isOn_7 : decode cX0_isOn 7 = .ok (.iand, 1) := by decide +kernel
theorem dX0_isOn_8 : decode cX0_isOn 8 = .ok (.iconst 1, 1) := by decide +kernel
theorem dX0_isOn_9 : decode cX0_isOn 9 = .ok (.if_icmp .ne 7, 3) := by decide +kernel
theorem dX0_isOn_12 : decode cX0_isOn 12 = .ok (.iconst 1, 1) := by decide +kernel
theorem dX0_isOn_13 : decode cX0_isOn 13 = .ok (.goto 4, 3) := by decide +kernel
theorem dX0_isOn_16 : decode cX0_isOn 16 = .ok (.iconst 0, 1) := by decide +kernel
theorem dX0_isOn_17 : decode cX0_isOn 17 = .ok (.ireturn, 1) := by decide +kernel
theorem dX0_turn_0 : decode cX0_turn 0 = .ok (.aload_n 0, 1) := by decide +kernel
theorem dX0_turn_1 : decode cX0_turn 1 = .ok (.iload_n 2, 1) := by decide +kernel
theorem dX0_turn_2 : decode cX0_turn 2 = .ok (.ifCond .eq 14, 3) := by decide +kernel
theorem dX0_turn_5 : decode cX0_turn 5 = .ok (.aload_n 0, 1) := by decide +kernel
theorem dX0_turn_6 : decode cX0_turn 6 = .ok (.getfield 75, 3) := by decide +kernel
theorem dX0_turn_9 : decode cX0_turn 9 = .ok (.iconst 1, 1) := by decide +kernel
theorem dX0_turn_10 : decode cX0_turn 10 = .ok (.iload_n 1, 1) := by decide +kernel
theorem dX0_turn_11 : decode cX0_turn 11 = .ok (.ishl, 1) := by decide +kernel
theorem dX0_turn_12 : decode cX0_turn 12 = .ok (.ior, 1) := by decide +kernel
theorem dX0_turn_13 : decode cX0_turn 13 = .ok (.goto 13, 3) := by decide +kernel
theorem dX0_turn_16 : decode cX0_turn 16 = .ok (.aload_n 0, 1) := by decide +kernel
theorem dX0_turn_17 : decode cX0_turn 17 = .ok (.getfield 75, 3) := by decide +kernel
theorem dX0_turn_20 : decode cX0_turn 20 = .ok (.iconst 1, 1) := by decide +kernel
theorem dX0_turn_21 : decode cX0_turn 21 = .ok (.iload_n 1, 1) := by decide +kernel
theorem dX0_turn_22 : decode cX0_turn 22 = .ok (.ishl, 1) := by decide +kernel
theorem dX0_turn_23 : decode cX0_turn 23 = .ok (.iconst (-1), 1) := by decide +kernel
theorem dX0_turn_24 : decode cX0_turn 24 = .ok (.ixor, 1) := by decide +kernel
theorem dX0_turn_25 : decode cX0_turn 25 = .ok (.iand, 1) := by decide +kernel
theorem dX0_turn_26 : decode cX0_turn 26 = .ok (.putfield 75, 3) := by decide +kernel
theorem dX0_turn_29 : decode cX0_turn 29 = .ok (.return_, 1) := by decide +kernel
theorem dX0_lastPictureMarked_0 : decode cX0_lastPictureMarked 0 = .ok (.iconst (-1), 1) := by decide +kernel
theorem dX0_lastPictureMarked_1 : decode cX0_lastPictureMarked 1 = .ok (.istore_n 1, 1) := by decide +kernel
theorem dX0_lastPictureMarked_2 : decode cX0_lastPictureMarked 2 = .ok (.iconst 0, 1) := by decide +kernel
theorem dX0_lastPictureMarked_3 : decode cX0_lastPictureMarked 3 = .ok (.istore_n 2, 1) := by decide +kernel
theorem dX0_lastPictureMarked_4 : decode cX0_lastPictureMarked 4 = .ok (.iload_n 2, 1) := by decide +kernel
theorem dX0_lastPictureMarked_5 : decode cX0_lastPictureMarked 5 = .ok (.aload_n 0, 1) := by decide +kernel
theorem dX0_lastPictureMarked_6 : decode cX0_lastPictureMarked 6 = .ok (.getfield 72, 3) := by decide +kernel
theorem dX0_lastPictureMarked_9 : decode cX0_lastPictureMarked 9 = .ok (.if_icmp .ge 29, 3) := by decide +kernel
theorem dX0_lastPictureMarked_12 : decode cX0_lastPictureMarked 12 = .ok (.iload_n 1, 1) := by decide +kernel
theorem dX0_lastPictureMarked_13 : decode cX0_lastPictureMarked 13 = .ok (.aload_n 0, 1) := by decide +kernel
theorem dX0_lastPictureMarked_14 : decode cX0_lastPictureMarked 14 = .ok (.getfield 18, 3) := by decide +kernel
theorem dX0_lastPictureMarked_17 : decode cX0_lastPictureMarked 17 = .ok (.iload_n 2, 1) := by decide +kernel
theorem dX0_lastPictureMarked_18 : decode cX0_lastPictureMarked 18 = .ok (.iaload, 1) := by decide +kernel
theorem dX0_lastPictureMarked_19 : decode cX0_lastPictureMarked 19 = .ok (.aload_n 0, 1) := by decide +kernel
theorem dX0_lastPictureMarked_20 : decode cX0_lastPictureMarked 20 = .ok (.getfield 21, 3) := by decide +kernel
theorem dX0_lastPictureMarked_23 : decode cX0_lastPictureMarked 23 = .ok (.iload_n 2, 1) := by decide +kernel
theorem dX0_lastPictureMarked_24 : decode cX0_lastPictureMarked 24 = .ok (.iaload, 1) := by decide +kernel
theorem dX0_lastPictureMarked_25 : decode cX0_lastPictureMarked 25 = .ok (.invokestatic 94, 3) := by decide +kernel
theorem dX0_lastPictureMarked_28 : decode cX0_lastPictureMarked 28 = .ok (.invokestatic 94, 3) := by decide +kernel
theorem dX0_lastPictureMarked_31 : decode cX0_lastPictureMarked 31 = .ok (.istore_n 1, 1) := by decide +kernel
theorem dX0_lastPictureMarked_32 : decode cX0_lastPictureMarked 32 = .ok (.iinc 2 1, 3) := by decide +kernel
theorem dX0_lastPictureMarked_35 : decode cX0_lastPictureMarked 35 = .ok (.goto (-31), 3) := by decide +kernel
theorem dX0_lastPictureMarked_38 : decode cX0_lastPictureMarked 38 = .ok (.iload_n 1, 1) := by decide +kernel
theorem dX0_lastPictureMarked_39 : decode cX0_lastPictureMarked 39 = .ok (.ireturn, 1) := by decide +kernel
theorem dX0_tiedBy_0 : decode cX0_tiedBy 0 = .ok (.iconst 1, 1) := by decide +kernel
theorem dX0_tiedBy_1 : decode cX0_tiedBy 1 = .ok (.istore_n 2, 1) := by decide +kernel
theorem dX0_tiedBy_2 : decode cX0_tiedBy 2 = .ok (.iconst 0, 1) := by decide +kernel
theorem dX0_tiedBy_3 : decode cX0_tiedBy 3 = .ok (.istore_n 3, 1) := by decide +kernel
theorem dX0_tiedBy_4 : decode cX0_tiedBy 4 = .ok (.iload_n 3, 1) := by decide +kernel
theorem dX0_tiedBy_5 : decode cX0_tiedBy 5 = .ok (.aload_n 0, 1) := by decide +kernel
theorem dX0_tiedBy_6 : decode cX0_tiedBy 6 = .ok (.getfield 46, 3) := by decide +kernel
theorem dX0_tiedBy_9 : decode cX0_tiedBy 9 = .ok (.if_icmp .ge 74, 3) := by decide +kernel
theorem dX0_tiedBy_12 : decode cX0_tiedBy 12 = .ok (.iconst 0, 1) := by decide +kernel
theorem dX0_tiedBy_13 : decode cX0_tiedBy 13 = .ok (.istore 4, 2) := by decide +kernel
theorem dX0_tiedBy_15 : decode cX0_tiedBy 15 = .ok (.iload 4, 2) := by decide +kernel
theorem dX0_tiedBy_17 : decode cX0_tiedBy 17 = .ok (.aload_n 0, 1) := by decide +kernel
theorem dX0_tiedBy_18 : decode cX0_tiedBy 18 = .ok (.getfield 72, 3) := by decide +kernel
theorem dX0_tiedBy_21 : decode cX0_tiedBy 21 = .ok (.if_icmp .ge 56, 3) := by decide +kernel
theorem dX0_tiedBy_24 : decode cX0_tiedBy 24 = .ok (.iconst 1, 1) := by decide +kernel
theorem dX0_tiedBy_25 : decode cX0_tiedBy 25 = .ok (.aload_n 0, 1) := by decide +kernel
theorem dX0_tiedBy_26 : decode cX0_tiedBy 26 = .ok (.getfield 18, 3) := by decide +kernel
theorem dX0_tiedBy_29 : decode cX0_tiedBy 29 = .ok (.iload 4, 2) := by decide +kernel
theorem dX0_tiedBy_31 : decode cX0_tiedBy 31 = .ok (.iaload, 1) := by decide +kernel
theorem dX0_tiedBy_32 : decode cX0_tiedBy 32 = .ok (.iconst 1, 1) := by decide +kernel
theorem dX0_tiedBy_33 : decode cX0_tiedBy 33 = .ok (.iadd, 1) := by decide +kernel
theorem dX0_tiedBy_34 : decode cX0_tiedBy 34 = .ok (.ishl, 1) := by decide +kernel
theorem dX0_tiedBy_35 : decode cX0_tiedBy 35 = .ok (.iconst 1, 1) := by decide +kernel
theorem dX0_tiedBy_36 : decode cX0_tiedBy 36 = .ok (.aload_n 0, 1) := by decide +kernel
theorem dX0_tiedBy_37 : decode cX0_tiedBy 37 = .ok (.getfield 21, 3) := by decide +kernel
theorem dX0_tiedBy_40 : decode cX0_tiedBy 40 = .ok (.iload 4, 2) := by decide +kernel
theorem dX0_tiedBy_42 : decode cX0_tiedBy 42 = .ok (.iaload, 1) := by decide +kernel
theorem dX0_tiedBy_43 : decode cX0_tiedBy 43 = .ok (.iconst 1, 1) := by decide +kernel
theorem dX0_tiedBy_44 : decode cX0_tiedBy 44 = .ok (.iadd, 1) := by decide +kernel
theorem dX0_tiedBy_45 : decode cX0_tiedBy 45 = .ok (.ishl, 1) := by decide +kernel
theorem dX0_tiedBy_46 : decode cX0_tiedBy 46 = .ok (.ior, 1) := by decide +kernel
theorem dX0_tiedBy_47 : decode cX0_tiedBy 47 = .ok (.istore 5, 2) := by decide +kernel
theorem dX0_tiedBy_49 : decode cX0_tiedBy 49 = .ok (.iload_n 1, 1) := by decide +kernel
theorem dX0_tiedBy_50 : decode cX0_tiedBy 50 = .ok (.iload 4, 2) := by decide +kernel
theorem dX0_tiedBy_52 : decode cX0_tiedBy 52 = .ok (.ishr, 1) := by decide +kernel
theorem dX0_tiedBy_53 : decode cX0_tiedBy 53 = .ok (.iconst 1, 1) := by decide +kernel
theorem dX0_tiedBy_54 : decode cX0_tiedBy 54 = .ok (.iand, 1) := by decide +kernel
theorem dX0_tiedBy_55 : decode cX0_tiedBy 55 = .ok (.iconst 1, 1) := by decide +kernel
theorem dX0_tiedBy_56 : decode cX0_tiedBy 56 = .ok (.if_icmp .ne 15, 3) := by decide +kernel
theorem dX0_tiedBy_59 : decode cX0_tiedBy 59 = .ok (.iload_n 2, 1) := by decide +kernel
theorem dX0_tiedBy_60 : decode cX0_tiedBy 60 = .ok (.iload 5, 2) := by decide +kernel
theorem dX0_tiedBy_62 : decode cX0_tiedBy 62 = .ok (.iand, 1) := by decide +kernel
theorem dX0_tiedBy_63 : decode cX0_tiedBy 63 = .ok (.ifCond .eq 8, 3) := by decide +kernel
theorem dX0_tiedBy_66 : decode cX0_tiedBy 66 = .ok (.iload_n 2, 1) := by decide +kernel
theorem dX0_tiedBy_67 : decode cX0_tiedBy 67 = .ok (.iload 5, 2) := by decide +kernel
theorem dX0_tiedBy_69 : decode cX0_tiedBy 69 = .ok (.ior, 1) := by decide +kernel
theorem dX0_tiedBy_70 : decode cX0_tiedBy 70 = .ok (.istore_n 2, 1) := by decide +kernel
theorem dX0_tiedBy_71 : decode cX0_tiedBy 71 = .ok (.iinc 4 1, 3) := by decide +kernel
theorem dX0_tiedBy_74 : decode cX0_tiedBy 74 = .ok (.goto (-59), 3) := by decide +kernel
theorem dX0_tiedBy_77 : decode cX0_tiedBy 77 = .ok (.iinc 3 1, 3) := by decide +kernel
theorem dX0_tiedBy_80 : decode cX0_tiedBy 80 = .ok (.goto (-76), 3) := by decide +kernel
theorem dX0_tiedBy_83 : decode cX0_tiedBy 83 = .ok (.iload_n 2, 1) := by decide +kernel
theorem dX0_tiedBy_84 : decode cX0_tiedBy 84 = .ok (.iconst 1, 1) := by decide +kernel
theorem dX0_tiedBy_85 : decode cX0_tiedBy 85 = .ok (.ishr, 1) := by decide +kernel
theorem dX0_tiedBy_86 : decode cX0_tiedBy 86 = .ok (.ireturn, 1) := by decide +kernel
theorem dX0_holds_0 : decode cX0_holds 0 = .ok (.aload_n 0, 1) := by decide +kernel
theorem dX0_holds_1 : decode cX0_holds 1 = .ok (.iload_n 1, 1) := by decide +kernel
theorem dX0_holds_2 : decode cX0_holds 2 = .ok (.invokevirtual 100, 3) := by decide +kernel
theorem dX0_holds_5 : decode cX0_holds 5 = .ok (.iconst 1, 1) := by decide +kernel
theorem dX0_holds_6 : decode cX0_holds 6 = .ok (.aload_n 0, 1) := by decide +kernel
theorem dX0_holds_7 : decode cX0_holds 7 = .ok (.getfield 46, 3) := by decide +kernel
theorem dX0_holds_10 : decode cX0_holds 10 = .ok (.ishl, 1) := by decide +kernel
theorem dX0_holds_11 : decode cX0_holds 11 = .ok (.iconst 1, 1) := by decide +kernel
theorem dX0_holds_12 : decode cX0_holds 12 = .ok (.isub, 1) := by decide +kernel
theorem dX0_holds_13 : decode cX0_holds 13 = .ok (.if_icmp .ne 7, 3) := by decide +kernel
theorem dX0_holds_16 : decode cX0_holds 16 = .ok (.iconst 1, 1) := by decide +kernel
theorem dX0_holds_17 : decode cX0_holds 17 = .ok (.goto 4, 3) := by decide +kernel
theorem dX0_holds_20 : decode cX0_holds 20 = .ok (.iconst 0, 1) := by decide +kernel
theorem dX0_holds_21 : decode cX0_holds 21 = .ok (.ireturn, 1) := by decide +kernel
theorem dX0_touching_0 : decode cX0_touching 0 = .ok (.iconst 0, 1) := by decide +kernel
theorem dX0_touching_1 : decode cX0_touching 1 = .ok (.istore_n 2, 1) := by decide +kernel
theorem dX0_touching_2 : decode cX0_touching 2 = .ok (.iconst 0, 1) := by decide +kernel
theorem dX0_touching_3 : decode cX0_touching 3 = .ok (.istore_n 3, 1) := by decide +kernel
theorem dX0_touching_4 : decode cX0_touching 4 = .ok (.iload_n 3, 1) := by decide +kernel
theorem dX0_touching_5 : decode cX0_touching 5 = .ok (.aload_n 0, 1) := by decide +kernel
theorem dX0_touching_6 : decode cX0_touching 6 = .ok (.getfield 72, 3) := by decide +kernel
theorem dX0_touching_9 : decode cX0_touching 9 = .ok (.if_icmp .ge 40, 3) := by decide +kernel
theorem dX0_touching_12 : decode cX0_touching 12 = .ok (.aload_n 0, 1) := by decide +kernel
theorem dX0_touching_13 : decode cX0_touching 13 = .ok (.iload_n 3, 1) := by decide +kernel
theorem dX0_touching_14 : decode cX0_touching 14 = .ok (.invokevirtual 104, 3) := by decide +kernel
theorem dX0_touching_17 : decode cX0_touching 17 = .ok (.ifCond .eq 26, 3) := by decide +kernel
theorem dX0_touching_20 : decode cX0_touching 20 = .ok (.aload_n 0, 1) := by decide +kernel
theorem dX0_touching_21 : decode cX0_touching 21 = .ok (.getfield 18, 3) := by decide +kernel
theorem dX0_touching_24 : decode cX0_touching 24 = .ok (.iload_n 3, 1) := by decide +kernel
theorem dX0_touching_25 : decode cX0_touching 25 = .ok (.iaload, 1) := by decide +kernel
theorem dX0_touching_26 : decode cX0_touching 26 = .ok (.iload_n 1, 1) := by decide +kernel
theorem dX0_touching_27 : decode cX0_touching 27 = .ok (.if_icmp .eq 13, 3) := by decide +kernel
theorem dX0_touching_30 : decode cX0_touching 30 = .ok (.aload_n 0, 1) := by decide +kernel
theorem dX0_touching_31 : decode cX0_touching 31 = .ok (.getfield 21, 3) := by decide +kernel
theorem dX0_touching_34 : decode cX0_touching 34 = .ok (.iload_n 3, 1) := by decide +kernel
theorem dX0_touching_35 : decode cX0_touching 35 = .ok (.iaload, 1) := by decide +kernel
theorem dX0_touching_36 : decode cX0_touching 36 = .ok (.iload_n 1, 1) := by decide +kernel
theorem dX0_touching_37 : decode cX0_touching 37 = .ok (.if_icmp .ne 6, 3) := by decide +kernel
theorem dX0_touching_40 : decode cX0_touching 40 = .ok (.iinc 2 1, 3) := by decide +kernel
theorem dX0_touching_43 : decode cX0_touching 43 = .ok (.iinc 3 1, 3) := by decide +kernel
theorem dX0_touching_46 : decode cX0_touching 46 = .ok (.goto (-42), 3) := by decide +kernel
theorem dX0_touching_49 : decode cX0_touching 49 = .ok (.iload_n 2, 1) := by decide +kernel
theorem dX0_touching_50 : decode cX0_touching 50 = .ok (.ireturn, 1) := by decide +kernel
theorem dX0_weightOf_0 : decode cX0_weightOf 0 = .ok (.aload_n 0, 1) := by decide +kernel
theorem dX0_weightOf_1 : decode cX0_weightOf 1 = .ok (.aload_n 0, 1) := by decide +kernel
theorem dX0_weightOf_2 : decode cX0_weightOf 2 = .ok (.getfield 21, 3) := by decide +kernel
theorem dX0_weightOf_5 : decode cX0_weightOf 5 = .ok (.iload_n 1, 1) := by decide +kernel
theorem dX0_weightOf_6 : decode cX0_weightOf 6 = .ok (.iaload, 1) := by decide +kernel
theorem dX0_weightOf_7 : decode cX0_weightOf 7 = .ok (.invokevirtual 108, 3) := by decide +kernel
theorem dX0_weightOf_10 : decode cX0_weightOf 10 = .ok (.istore_n 2, 1) := by decide +kernel
theorem dX0_weightOf_11 : decode cX0_weightOf 11 = .ok (.aload_n 0, 1) := by decide +kernel
theorem dX0_weightOf_12 : decode cX0_weightOf 12 = .ok (.getfield 42, 3) := by decide +kernel
theorem dX0_weightOf_15 : decode cX0_weightOf 15 = .ok (.iconst 0, 1) := by decide +kernel
theorem dX0_weightOf_16 : decode cX0_weightOf 16 = .ok (.aaload, 1) := by decide +kernel
theorem dX0_weightOf_17 : decode cX0_weightOf 17 = .ok (.aload_n 0, 1) := by decide +kernel
theorem dX0_weightOf_18 : decode cX0_weightOf 18 = .ok (.iload_n 1, 1) := by decide +kernel
theorem dX0_weightOf_19 : decode cX0_weightOf 19 = .ok (.iload_n 2, 1) := by decide +kernel
theorem dX0_weightOf_20 : decode cX0_weightOf 20 = .ok (.invokevirtual 111, 3) := by decide +kernel
theorem dX0_weightOf_23 : decode cX0_weightOf 23 = .ok (.iload_n 2, 1) := by decide +kernel
theorem dX0_weightOf_24 : decode cX0_weightOf 24 = .ok (.aload_n 0, 1) := by decide +kernel
theorem dX0_weightOf_25 : decode cX0_weightOf 25 = .ok (.getfield 78, 3) := by decide +kernel
theorem dX0_weightOf_28 : decode cX0_weightOf 28 = .ok (.bipush 8, 2) := by decide +kernel
theorem dX0_weightOf_30 : decode cX0_weightOf 30 = .ok (.irem, 1) := by decide +kernel
theorem dX0_weightOf_31 : decode cX0_weightOf 31 = .ok (.invokevirtual 114, 3) := by decide +kernel
theorem dX0_weightOf_34 : decode cX0_weightOf 34 = .ok (.ireturn, 1) := by decide +kernel
theorem dX0_weightOfAll_0 : decode cX0_weightOfAll 0 = .ok (.iconst 0, 1) := by decide +kernel
theorem dX0_weightOfAll_1 : decode cX0_weightOfAll 1 = .ok (.istore_n 2, 1) := by decide +kernel
theorem dX0_weightOfAll_2 : decode cX0_weightOfAll 2 = .ok (.iconst 0, 1) := by decide +kernel
theorem dX0_weightOfAll_3 : decode cX0_weightOfAll 3 = .ok (.istore_n 3, 1) := by decide +kernel
theorem dX0_weightOfAll_4 : decode cX0_weightOfAll 4 = .ok (.iload_n 3, 1) := by decide +kernel
theorem dX0_weightOfAll_5 : decode cX0_weightOfAll 5 = .ok (.aload_n 0, 1) := by decide +kernel
theorem dX0_weightOfAll_6 : decode cX0_weightOfAll 6 = .ok (.getfield 72, 3) := by decide +kernel
theorem dX0_weightOfAll_9 : decode cX0_weightOfAll 9 = .ok (.if_icmp .ge 26, 3) := by decide +kernel
theorem dX0_weightOfAll_12 : decode cX0_weightOfAll 12 = .ok (.iload_n 1, 1) := by decide +kernel
theorem dX0_weightOfAll_13 : decode cX0_weightOfAll 13 = .ok (.iload_n 3, 1) := by decide +kernel
theorem dX0_weightOfAll_14 : decode cX0_weightOfAll 14 = .ok (.ishr, 1) := by decide +kernel
theorem dX0_weightOfAll_15 : decode cX0_weightOfAll 15 = .ok (.iconst 1, 1) := by decide +kernel
theorem dX0_weightOfAll_16 : decode cX0_weightOfAll 16 = .ok (.iand, 1) := by decide +kernel
theorem dX0_weightOfAll_17 : decode cX0_weightOfAll 17 = .ok (.iconst 1, 1) := by decide +kernel
theorem dX0_weightOfAll_18 : decode cX0_weightOfAll 18 = .ok (.if_icmp .ne 11, 3) := by decide +kernel
theorem dX0_weightOfAll_21 : decode cX0_weightOfAll 21 = .ok (.iload_n 2, 1) := by decide +kernel
theorem dX0_weightOfAll_22 : decode cX0_weightOfAll 22 = .ok (.aload_n 0, 1) := by decide +kernel
theorem dX0_weightOfAll_23 : decode cX0_weightOfAll 23 = .ok (.iload_n 3, 1) := by decide +kernel
theorem dX0_weightOfAll_24 : decode cX0_weightOfAll 24 = .ok (.invokevirtual 118, 3) := by decide +kernel
theorem dX0_weightOfAll_27 : decode cX0_weightOfAll 27 = .ok (.iadd, 1) := by decide +kernel
theorem dX0_weightOfAll_28 : decode cX0_weightOfAll 28 = .ok (.istore_n 2, 1) := by decide +kernel
theorem dX0_weightOfAll_29 : decode cX0_weightOfAll 29 = .ok (.iinc 3 1, 3) := by decide +kernel
theorem dX0_weightOfAll_32 : decode cX0_weightOfAll 32 = .ok (.goto (-28), 3) := by decide +kernel
theorem dX0_weightOfAll_35 : decode cX0_weightOfAll 35 = .ok (.iload_n 2, 1) := by decide +kernel
theorem dX0_weightOfAll_36 : decode cX0_weightOfAll 36 = .ok (.ireturn, 1) := by decide +kernel
theorem dX0_saidBy_0 : decode cX0_saidBy 0 = .ok (.aload_n 0, 1) := by decide +kernel
theorem dX0_saidBy_1 : decode cX0_saidBy 1 = .ok (.getfield 42, 3) := by decide +kernel
theorem dX0_saidBy_4 : decode cX0_saidBy 4 = .ok (.iconst 1, 1) := by decide +kernel
theorem dX0_saidBy_5 : decode cX0_saidBy 5 = .ok (.aaload, 1) := by decide +kernel
theorem dX0_saidBy_6 : decode cX0_saidBy 6 = .ok (.aload_n 0, 1) := by decide +kernel
theorem dX0_saidBy_7 : decode cX0_saidBy 7 = .ok (.iload_n 1, 1) := by decide +kernel
theorem dX0_saidBy_8 : decode cX0_saidBy 8 = .ok (.invokevirtual 121, 3) := by decide +kernel
theorem dX0_saidBy_11 : decode cX0_saidBy 11 = .ok (.aload_n 0, 1) := by decide +kernel
theorem dX0_saidBy_12 : decode cX0_saidBy 12 = .ok (.getfield 24, 3) := by decide +kernel
theorem dX0_saidBy_15 : decode cX0_saidBy 15 = .ok (.iload_n 1, 1) := by decide +kernel
theorem dX0_saidBy_16 : decode cX0_saidBy 16 = .ok (.iaload, 1) := by decide +kernel
theorem dX0_saidBy_17 : decode cX0_saidBy 17 = .ok (.aload_n 0, 1) := by decide +kernel
theorem dX0_saidBy_18 : decode cX0_saidBy 18 = .ok (.getfield 78, 3) := by decide +kernel
theorem dX0_saidBy_21 : decode cX0_saidBy 21 = .ok (.bipush 8, 2) := by decide +kernel
theorem dX0_saidBy_23 : decode cX0_saidBy 23 = .ok (.irem, 1) := by decide +kernel
theorem dX0_saidBy_24 : decode cX0_saidBy 24 = .ok (.invokevirtual 114, 3) := by decide +kernel
theorem dX0_saidBy_27 : decode cX0_saidBy 27 = .ok (.ireturn, 1) := by decide +kernel
theorem dX0_weighed_0 : decode cX0_weighed 0 = .ok (.aload_n 0, 1) := by decide +kernel
theorem dX0_weighed_1 : decode cX0_weighed 1 = .ok (.getfield 9, 3) := by decide +kernel
theorem dX0_weighed_4 : decode cX0_weighed 4 = .ok (.iload_n 1, 1) := by decide +kernel
theorem dX0_weighed_5 : decode cX0_weighed 5 = .ok (.iaload, 1) := by decide +kernel
theorem dX0_weighed_6 : decode cX0_weighed 6 = .ok (.tableswitch 85 1 6 #[38, 40, 45, 61, 76, 83], 38) := by decide +kernel
theorem dX0_weighed_44 : decode cX0_weighed 44 = .ok (.iconst 3, 1) := by decide +kernel
theorem dX0_weighed_45 : decode cX0_weighed 45 = .ok (.ireturn, 1) := by decide +kernel
theorem dX0_weighed_46 : decode cX0_weighed 46 = .ok (.iload_n 2, 1) := by decide +kernel
theorem dX0_weighed_47 : decode cX0_weighed 47 = .ok (.invokestatic 124, 3) := by decide +kernel
theorem dX0_weighed_50 : decode cX0_weighed 50 = .ok (.ireturn, 1) := by decide +kernel
theorem dX0_weighed_51 : decode cX0_weighed 51 = .ok (.aload_n 0, 1) := by decide +kernel
theorem dX0_weighed_52 : decode cX0_weighed 52 = .ok (.getfield 15, 3) := by decide +kernel
theorem dX0_weighed_55 : decode cX0_weighed 55 = .ok (.iload_n 1, 1) := by decide +kernel
theorem dX0_weighed_56 : decode cX0_weighed 56 = .ok (.iaload, 1) := by decide +kernel
theorem dX0_weighed_57 : decode cX0_weighed 57 = .ok (.iconst 4, 1) := by decide +kernel
theorem dX0_weighed_58 : decode cX0_weighed 58 = .ok (.if_icmp .le 7, 3) := by decide +kernel
theorem dX0_weighed_61 : decode cX0_weighed 61 = .ok (.iconst 4, 1) := by decide +kernel
theorem dX0_weighed_62 : decode cX0_weighed 62 = .ok (.goto 4, 3) := by decide +kernel
theorem dX0_weighed_65 : decode cX0_weighed 65 = .ok (.iconst 2, 1) := by decide +kernel
theorem dX0_weighed_66 : decode cX0_weighed 66 = .ok (.ireturn, 1) := by decide +kernel
theorem dX0_weighed_67 : decode cX0_weighed 67 = .ok (.aload_n 0, 1) := by decide +kernel
theorem dX0_weighed_68 : decode cX0_weighed 68 = .ok (.getfield 78, 3) := by decide +kernel
theorem dX0_weighed_71 : decode cX0_weighed 71 = .ok (.iconst 2, 1) := by decide +kernel
theorem dX0_weighed_72 : decode cX0_weighed 72 = .ok (.irem, 1) := by decide +kernel
theorem dX0_weighed_73 : decode cX0_weighed 73 = .ok (.ifCond .ne 7, 3) := by decide +kernel
theorem dX0_weighed_76 : decode cX0_weighed 76 = .ok (.iconst 3, 1) := by decide +kernel
theorem dX0_weighed_77 : decode cX0_weighed 77 = .ok (.goto 4, 3) := by decide +kernel
theorem dX0_weighed_80 : decode cX0_weighed 80 = .ok (.iconst 1, 1) := by decide +kernel
theorem dX0_weighed_81 : decode cX0_weighed 81 = .ok (.ireturn, 1) := by decide +kernel
theorem dX0_weighed_82 : decode cX0_weighed 82 = .ok (.iload_n 2, 1) := by decide +kernel
theorem dX0_weighed_83 : decode cX0_weighed 83 = .ok (.invokestatic 124, 3) := by decide +kernel
theorem dX0_weighed_86 : decode cX0_weighed 86 = .ok (.iconst 1, 1) := by decide +kernel
theorem dX0_weighed_87 : decode cX0_weighed 87 = .ok (.isub, 1) := by decide +kernel
theorem dX0_weighed_88 : decode cX0_weighed 88 = .ok (.ireturn, 1) := by decide +kernel
theorem dX0_weighed_89 : decode cX0_weighed 89 = .ok (.iconst 4, 1) := by decide +kernel
theorem dX0_weighed_90 : decode cX0_weighed 90 = .ok (.ireturn, 1) := by decide +kernel
theorem dX0_weighed_91 : decode cX0_weighed 91 = .ok (.iconst 2, 1) := by decide +kernel
theorem dX0_weighed_92 : decode cX0_weighed 92 = .ok (.ireturn, 1) := by decide +kernel
theorem dX0_starWeighed_0 : decode cX0_starWeighed 0 = .ok (.iload_n 0, 1) := by decide +kernel
theorem dX0_starWeighed_1 : decode cX0_starWeighed 1 = .ok (.iconst 3, 1) := by decide +kernel
theorem dX0_starWeighed_2 : decode cX0_starWeighed 2 = .ok (.if_icmp .le 7, 3) := by decide +kernel
theorem dX0_starWeighed_5 : decode cX0_starWeighed 5 = .ok (.iconst 1, 1) := by decide +kernel
theorem dX0_starWeighed_6 : decode cX0_starWeighed 6 = .ok (.goto 4, 3) := by decide +kernel
theorem dX0_starWeighed_9 : decode cX0_starWeighed 9 = .ok (.iconst 3, 1) := by decide +kernel
theorem dX0_starWeighed_10 : decode cX0_starWeighed 10 = .ok (.ireturn, 1) := by decide +kernel
theorem dX0_read_0 : decode cX0_read 0 = .ok (.aload_n 0, 1) := by decide +kernel
theorem dX0_read_1 : decode cX0_read 1 = .ok (.getfield 24, 3) := by decide +kernel
theorem dX0_read_4 : decode cX0_read 4 = .ok (.iload_n 1, 1) := by decide +kernel
theorem dX0_read_5 : decode cX0_read 5 = .ok (.iaload, 1) := by decide +kernel
theorem dX0_read_6 : decode cX0_read 6 = .ok (.istore_n 2, 1) := by decide +kernel
theorem dX0_read_7 : decode cX0_read 7 = .ok (.aload_n 0, 1) := by decide +kernel
theorem dX0_read_8 : decode cX0_read 8 = .ok (.getfield 9, 3) := by decide +kernel
theorem dX0_read_11 : decode cX0_read 11 = .ok (.iload_n 1, 1) := by decide +kernel
theorem dX0_read_12 : decode cX0_read 12 = .ok (.iaload, 1) := by decide +kernel
theorem dX0_read_13 : decode cX0_read 13 = .ok (.tableswitch 83 3 6 #[31, 44, 64, 70], 31) := by decide +kernel
theorem dX0_read_44 : decode cX0_read 44 = .ok (.iload_n 2, 1) := by decide +kernel
theorem dX0_read_45 : decode cX0_read 45 = .ok (.aload_n 0, 1) := by decide +kernel
theorem dX0_read_46 : decode cX0_read 46 = .ok (.getfield 15, 3) := by decide +kernel
theorem dX0_read_49 : decode cX0_read 49 = .ok (.iload_n 1, 1) := by decide +kernel
theorem dX0_read_50 : decode cX0_read 50 = .ok (.iaload, 1) := by decide +kernel
theorem dX0_read_51 : decode cX0_read 51 = .ok (.iconst 3, 1) := by decide +kernel
theorem dX0_read_52 : decode cX0_read 52 = .ok (.irem, 1) := by decide +kernel
theorem dX0_read_53 : decode cX0_read 53 = .ok (.iadd, 1) := by decide +kernel
theorem dX0_read_54 : decode cX0_read 54 = .ok (.iconst 1, 1) := by decide +kernel
theorem dX0_read_55 : decode cX0_read 55 = .ok (.isub, 1) := by decide +kernel
theorem dX0_read_56 : decode cX0_read 56 = .ok (.ireturn, 1) := by decide +kernel
theorem dX0_read_57 : decode cX0_read 57 = .ok (.iload_n 2, 1) := by decide +kernel
theorem dX0_read_58 : decode cX0_read 58 = .ok (.aload_n 0, 1) := by decide +kernel
theorem dX0_read_59 : decode cX0_read 59 = .ok (.getfield 78, 3) := by decide +kernel
theorem dX0_read_62 : decode cX0_read 62 = .ok (.iconst 1, 1) := by decide +kernel
theorem dX0_read_63 : decode cX0_read 63 = .ok (.aload_n 0, 1) := by decide +kernel
theorem dX0_read_64 : decode cX0_read 64 = .ok (.getfield 15, 3) := by decide +kernel
theorem dX0_read_67 : decode cX0_read 67 = .ok (.iload_n 1, 1) := by decide +kernel
theorem dX0_read_68 : decode cX0_read 68 = .ok (.iaload, 1) := by decide +kernel
theorem dX0_read_69 : decode cX0_read 69 = .ok (.iconst 1, 1) := by decide +kernel
theorem dX0_read_70 : decode cX0_read 70 = .ok (.iadd, 1) := by decide +kernel
theorem dX0_read_71 : decode cX0_read 71 = .ok (.invokestatic 94, 3) := by decide +kernel
theorem dX0_read_74 : decode cX0_read 74 = .ok (.irem, 1) := by decide +kernel
theorem dX0_read_75 : decode cX0_read 75 = .ok (.iadd, 1) := by decide +kernel
theorem dX0_read_76 : decode cX0_read 76 = .ok (.ireturn, 1) := by decide +kernel
theorem dX0_read_77 : decode cX0_read 77 = .ok (.iconst 2, 1) := by decide +kernel
theorem dX0_read_78 : decode cX0_read 78 = .ok (.iload_n 2, 1) := by decide +kernel
theorem dX0_read_79 : decode cX0_read 79 = .ok (.iconst 2, 1) := by decide +kernel
theorem dX0_read_80 : decode cX0_read 80 = .ok (.idiv, 1) := by decide +kernel
theorem dX0_read_81 : decode cX0_read 81 = .ok (.imul, 1) := by decide +kernel
theorem dX0_read_82 : decode cX0_read 82 = .ok (.ireturn, 1) := by decide +kernel
theorem dX0_read_83 : decode cX0_read 83 = .ok (.iconst 0, 1) := by decide +kernel
theorem dX0_read_84 : decode cX0_read 84 = .ok (.iload_n 2, 1) := by decide +kernel
theorem dX0_read_85 : decode cX0_read 85 = .ok (.invokestatic 94, 3) := by decide +kernel
theorem dX0_read_88 : decode cX0_read 88 = .ok (.aload_n 0, 1) := by decide +kernel
theorem dX0_read_89 : decode cX0_read 89 = .ok (.getfield 15, 3) := by decide +kernel
theorem dX0_read_92 : decode cX0_read 92 = .ok (.iload_n 1, 1) := by decide +kernel
theorem dX0_read_93 : decode cX0_read 93 = .ok (.iaload, 1) := by decide +kernel
theorem dX0_read_94 : decode cX0_read 94 = .ok (.isub, 1) := by decide +kernel
theorem dX0_read_95 : decode cX0_read 95 = .ok (.ireturn, 1) := by decide +kernel
theorem dX0_read_96 : decode cX0_read 96 = .ok (.iload_n 2, 1) := by decide +kernel
theorem dX0_read_97 : decode cX0_read 97 = .ok (.ireturn, 1) := by decide +kernel
theorem dX0_drawMark_0 : decode cX0_drawMark 0 = .ok (.aload_n 0, 1) := by decide +kernel
theorem dX0_drawMark_1 : decode cX0_drawMark 1 = .ok (.getfield 72, 3) := by decide +kernel
theorem dX0_drawMark_4 : decode cX0_drawMark 4 = .ok (.ifCond .le 35, 3) := by decide +kernel
theorem dX0_drawMark_7 : decode cX0_drawMark 7 = .ok (.aload_n 0, 1) := by decide +kernel
theorem dX0_drawMark_8 : decode cX0_drawMark 8 = .ok (.invokevirtual 127, 3) := by decide +kernel
theorem dX0_drawMark_11 : decode cX0_drawMark 11 = .ok (.aload_n 0, 1) := by decide +kernel
theorem dX0_drawMark_12 : decode cX0_drawMark 12 = .ok (.getfield 72, 3) := by decide +kernel
theorem dX0_drawMark_15 : decode cX0_drawMark 15 = .ok (.irem, 1) := by decide +kernel
theorem dX0_drawMark_16 : decode cX0_drawMark 16 = .ok (.istore_n 1, 1) := by decide +kernel
theorem dX0_drawMark_17 : decode cX0_drawMark 17 = .ok (.aload_n 0, 1) := by decide +kernel
theorem dX0_drawMark_18 : decode cX0_drawMark 18 = .ok (.getfield 24, 3) := by decide +kernel
theorem dX0_drawMark_21 : decode cX0_drawMark 21 = .ok (.iload_n 1, 1) := by decide +kernel
theorem dX0_drawMark_22 : decode cX0_drawMark 22 = .ok (.aload_n 0, 1) := by decide +kernel
theorem dX0_drawMark_23 : decode cX0_drawMark 23 = .ok (.invokevirtual 127, 3) := by decide +kernel
theorem dX0_drawMark_26 : decode cX0_drawMark 26 = .ok (.bipush 41, 2) := by decide +kernel
theorem dX0_drawMark_28 : decode cX0_drawMark 28 = .ok (.irem, 1) := by decide +kernel
theorem dX0_drawMark_29 : decode cX0_drawMark 29 = .ok (.bipush 20, 2) := by decide +kernel
theorem dX0_drawMark_31 : decode cX0_drawMark 31 = .ok (.isub, 1) := by decide +kernel
theorem dX0_drawMark_32 : decode cX0_drawMark 32 = .ok (.iastore, 1) := by decide +kernel
theorem dX0_drawMark_33 : decode cX0_drawMark 33 = .ok (.aload_n 0, 1) := by decide +kernel
theorem dX0_drawMark_34 : decode cX0_drawMark 34 = .ok (.iload_n 1, 1) := by decide +kernel
theorem dX0_drawMark_35 : decode cX0_drawMark 35 = .ok (.iconst 1, 1) := by decide +kernel
theorem dX0_drawMark_36 : decode cX0_drawMark 36 = .ok (.invokevirtual 90, 3) := by decide +kernel
theorem dX0_drawMark_39 : decode cX0_drawMark 39 = .ok (.return_, 1) := by decide +kernel
theorem dX0_draw_0 : decode cX0_draw 0 = .ok (.aload_n 0, 1) := by decide +kernel
theorem dX0_draw_1 : decode cX0_draw 1 = .ok (.aload_n 0, 1) := by decide +kernel
theorem dX0_draw_2 : decode cX0_draw 2 = .ok (.getfield 53, 3) := by decide +kernel
theorem dX0_draw_5 : decode cX0_draw 5 = .ok (.ldc 131, 2) := by decide +kernel
theorem dX0_draw_7 : decode cX0_draw 7 = .ok (.imul, 1) := by decide +kernel
theorem dX0_draw_8 : decode cX0_draw 8 = .ok (.sipush 12345, 3) := by decide +kernel
theorem dX0_draw_11 : decode cX0_draw 11 = .ok (.iadd, 1) := by decide +kernel
theorem dX0_draw_12 : decode cX0_draw 12 = .ok (.putfield 53, 3) := by decide +kernel
theorem dX0_draw_15 : decode cX0_draw 15 = .ok (.aload_n 0, 1) := by decide +kernel
theorem dX0_draw_16 : decode cX0_draw 16 = .ok (.getfield 53, 3) := by decide +kernel
theorem dX0_draw_19 : decode cX0_draw 19 = .ok (.bipush 8, 2) := by decide +kernel
theorem dX0_draw_21 : decode cX0_draw 21 = .ok (.iushr, 1) := by decide +kernel
theorem dX0_draw_22 : decode cX0_draw 22 = .ok (.ireturn, 1) := by decide +kernel
theorem dX1_init_0 : decode cX1_init 0 = .ok (.aload_n 0, 1) := by decide +kernel
theorem dX1_init_1 : decode cX1_init 1 = .ok (.invokespecial 3, 3) := by decide +kernel
theorem dX1_init_4 : decode cX1_init 4 = .ok (.aload_n 0, 1) := by decide +kernel
theorem dX1_init_5 : decode cX1_init 5 = .ok (.iconst 4, 1) := by decide +kernel
theorem dX1_init_6 : decode cX1_init 6 = .ok (.iconst 5, 1) := by decide +kernel
theorem dX1_init_7 : decode cX1_init 7 = .ok (.multianewarray 9 2, 4) := by decide +kernel
theorem dX1_init_11 : decode cX1_init 11 = .ok (.putfield 11, 3) := by decide +kernel
theorem dX1_init_14 : decode cX1_init 14 = .ok (.aload_n 0, 1) := by decide +kernel
theorem dX1_init_15 : decode cX1_init 15 = .ok (.iconst 4, 1) := by decide +kernel
theorem dX1_init_16 : decode cX1_init 16 = .ok (.newarray .long, 2) := by decide +kernel
theorem dX1_init_18 : decode cX1_init 18 = .ok (.putfield 16, 3) := by decide +kernel
theorem dX1_init_21 : decode cX1_init 21 = .ok (.aload_n 0, 1) := by decide +kernel
theorem dX1_init_22 : decode cX1_init 22 = .ok (.bipush 8, 2) := by decide +kernel
theorem dX1_init_24 : decode cX1_init 24 = .ok (.newarray .int, 2) := by decide +kernel
theorem dX1_init_26 : decode cX1_init 26 = .ok (.putfield 20, 3) := by decide +kernel
theorem dX1_init_29 : decode cX1_init 29 = .ok (.aload_n 0, 1) := by decide +kernel
theorem dX1_init_30 : decode cX1_init 30 = .ok (.bipush 8, 2) := by decide +kernel
theorem dX1_init_32 : decode cX1_init 32 = .ok (.newarray .int, 2) := by decide +kernel
theorem dX1_init_34 : decode cX1_init 34 = .ok (.putfield 24, 3) := by decide +kernel
theorem dX1_init_37 : decode cX1_init 37 = .ok (.aload_n 0, 1) := by decide +kernel
theorem dX1_init_38 : decode cX1_init 38 = .ok (.lconst 1, 1) := by decide +kernel
theorem dX1_init_39 : decode cX1_init 39 = .ok (.putfield 27, 3) := by decide +kernel
theorem dX1_init_42 : decode cX1_init 42 = .ok (.return_, 1) := by decide +kernel
theorem dX1_find_0 : decode cX1_find 0 = .ok (.aload_n 1, 1) := by decide +kernel
theorem dX1_find_1 : decode cX1_find 1 = .ok (.aload_n 1, 1) := by decide +kernel
theorem dX1_find_2 : decode cX1_find 2 = .ok (.getfield 31, 3) := by decide +kernel
theorem dX1_find_5 : decode cX1_find 5 = .ok (.invokevirtual 37, 3) := by decide +kernel
theorem dX1_find_8 : decode cX1_find 8 = .ok (.ifCond .ne 5, 3) := by decide +kernel
theorem dX1_find_11 : decode cX1_find 11 = .ok (.iconst 0, 1) := by decide +kernel
theorem dX1_find_12 : decode cX1_find 12 = .ok (.ireturn, 1) := by decide +kernel
theorem dX1_find_13 : decode cX1_find 13 = .ok (.iconst 0, 1) := by decide +kernel
theorem dX1_find_14 : decode cX1_find 14 = .ok (.istore_n 2, 1) := by decide +kernel
theorem dX1_find_15 : decode cX1_find 15 = .ok (.iload_n 2, 1) := by decide +kernel
theorem dX1_find_16 : decode cX1_find 16 = .ok (.iconst 4, 1) := by decide +kernel
theorem dX1_find_17 : decode cX1_find 17 = .ok (.if_icmp .ge 31, 3) := by decide +kernel
theorem dX1_find_20 : decode cX1_find 20 = .ok (.iconst 0, 1) := by decide +kernel
theorem dX1_find_21 : decode cX1_find 21 = .ok (.istore_n 3, 1) := by decide +kernel
theorem dX1_find_22 : decode cX1_find 22 = .ok (.iload_n 3, 1) := by decide +kernel
theorem dX1_find_23 : decode cX1_find 23 = .ok (.iconst 4, 1) := by decide +kernel
theorem dX1_find_24 : decode cX1_find 24 = .ok (.if_icmp .gt 18, 3) := by decide +kernel
theorem dX1_find_27 : decode cX1_find 27 = .ok (.aload_n 0, 1) := by decide +kernel
theorem dX1_find_28 : decode cX1_find 28 = .ok (.getfield 11, 3) := by decide +kernel
theorem dX1_find_31 : decode cX1_find 31 = .ok (.iload_n 2, 1) := by decide +kernel
theorem dX1_find_32 : decode cX1_find 32 = .ok (.aaload, 1) := by decide +kernel
theorem dX1_find_33 : decode cX1_find 33 = .ok (.iload_n 3, 1) := by decide +kernel
theorem dX1_find_34 : decode cX1_find 34 = .ok (.lconst 0, 1) := by decide +kernel
theorem dX1_find_35 : decode cX1_find 35 = .ok (.lastore, 1) := by decide +kernel
theorem dX1_find_36 : decode cX1_find 36 = .ok (.iinc 3 1, 3) := by decide +kernel
theorem dX1_find_39 : decode cX1_find 39 = .ok (.goto (-17), 3) := by decide +kernel
theorem dX1_find_42 : decode cX1_find 42 = .ok (.iinc 2 1, 3) := by decide +kernel
theorem dX1_find_45 : decode cX1_find 45 = .ok (.goto (-30), 3) := by decide +kernel
theorem dX1_find_48 : decode cX1_find 48 = .ok (.iconst 0, 1) := by decide +kernel
theorem dX1_find_49 : decode cX1_find 49 = .ok (.istore_n 2, 1) := by decide +kernel
theorem dX1_find_50 : decode cX1_find 50 = .ok (.iload_n 2, 1) := by decide +kernel
theorem dX1_find_51 : decode cX1_find 51 = .ok (.aload_n 1, 1) := by decide +kernel
theorem dX1_find_52 : decode cX1_find 52 = .ok (.getfield 41, 3) := by decide +kernel
theorem dX1_find_55 : decode cX1_find 55 = .ok (.if_icmp .ge 67, 3) := by decide +kernel
theorem dX1_find_58 : decode cX1_find 58 = .ok (.aload_n 1, 1) := by decide +kernel
theorem dX1_find_59 : decode cX1_find 59 = .ok (.iload_n 2, 1) := by decide +kernel
theorem dX1_find_60 : decode cX1_find 60 = .ok (.invokevirtual 44, 3) := by decide +kernel
theorem dX1_find_63 : decode cX1_find 63 = .ok (.ifCond .eq 53, 3) := by decide +kernel
theorem dX1_find_66 : decode cX1_find 66 = .ok (.aload_n 0, 1) := by decide +kernel
theorem dX1_find_67 : decode cX1_find 67 = .ok (.getfield 20, 3) := by decide +kernel
theorem dX1_find_70 : decode cX1_find 70 = .ok (.iload_n 2, 1) := by decide +kernel
theorem dX1_find_71 : decode cX1_find 71 = .ok (.aload_n 1, 1) := by decide +kernel
theorem dX1_find_72 : decode cX1_find 72 = .ok (.iload_n 2, 1) := by decide +kernel
theorem dX1_find_73 : decode cX1_find 73 = .ok (.invokevirtual 47, 3) := by decide +kernel
theorem dX1_find_76 : decode cX1_find 76 = .ok (.iastore, 1) := by decide +kernel
theorem dX1_find_77 : decode cX1_find 77 = .ok (.aload_n 0, 1) := by decide +kernel
theorem dX1_find_78 : decode cX1_find 78 = .ok (.getfield 24, 3) := by decide +kernel
theorem dX1_find_81 : decode cX1_find 81 = .ok (.iload_n 2, 1) := by decide +kernel
theorem dX1_find_82 : decode cX1_find 82 = .ok (.aload_n 1, 1) := by decide +kernel
theorem dX1_find_83 : decode cX1_find 83 = .ok (.iload_n 2, 1) := by decide +kernel
theorem dX1_find_84 : decode cX1_find 84 = .ok (.invokevirtual 51, 3) := by decide +kernel
theorem dX1_find_87 : decode cX1_find 87 = .ok (.iastore, 1) := by decide +kernel
theorem dX1_find_88 : decode cX1_find 88 = .ok (.aload_n 0, 1) := by decide +kernel
theorem dX1_find_89 : decode cX1_find 89 = .ok (.aload_n 1, 1) := by decide +kernel
theorem dX1_find_90 : decode cX1_find 90 = .ok (.getfield 54, 3) := by decide +kernel
theorem dX1_find_93 : decode cX1_find 93 = .ok (.iload_n 2, 1) := by decide +kernel
theorem dX1_find_94 : decode cX1_find 94 = .ok (.iaload, 1) := by decide +kernel
theorem dX1_find_95 : decode cX1_find 95 = .ok (.aload_n 1, 1) := by decide +kernel
theorem dX1_find_96 : decode cX1_find 96 = .ok (.getfield 57, 3) := by decide +kernel
theorem dX1_find_99 : decode cX1_find 99 = .ok (.iload_n 2, 1) := by decide +kernel
theorem dX1_find_100 : decode cX1_find 100 = .ok (.iaload, 1) := by decide +kernel
theorem dX1_find_101 : decode cX1_find 101 = .ok (.aload_n 0, 1) := by decide +kernel
theorem dX1_find_102 : decode cX1_find 102 = .ok (.getfield 20, 3) := by decide +kernel
theorem dX1_find_105 : decode cX1_find 105 = .ok (.iload_n 2, 1) := by decide +kernel
theorem dX1_find_106 : decode cX1_find 106 = .ok (.iaload, 1) := by decide +kernel
theorem dX1_find_107 : decode cX1_find 107 = .ok (.aload_n 0, 1) := by decide +kernel
theorem dX1_find_108 : decode cX1_find 108 = .ok (.getfield 24, 3) := by decide +kernel
theorem dX1_find_111 : decode cX1_find 111 = .ok (.iload_n 2, 1) := by decide +kernel
theorem dX1_find_112 : decode cX1_find 112 = .ok (.iaload, 1) := by decide +kernel
theorem dX1_find_113 : decode cX1_find 113 = .ok (.invokevirtual 60, 3) := by decide +kernel
theorem dX1_find_116 : decode cX1_find 116 = .ok (.iinc 2 1, 3) := by decide +kernel
theorem dX1_find_119 : decode cX1_find 119 = .ok (.goto (-69), 3) := by decide +kernel
theorem dX1_find_122 : decode cX1_find 122 = .ok (.aload_n 0, 1) := by decide +kernel
theorem dX1_find_123 : decode cX1_find 123 = .ok (.aload_n 1, 1) := by decide +kernel
theorem dX1_find_124 : decode cX1_find 124 = .ok (.getfield 64, 3) := by decide +kernel
theorem dX1_find_127 : decode cX1_find 127 = .ok (.invokevirtual 67, 3) := by decide +kernel
theorem dX1_find_130 : decode cX1_find 130 = .ok (.iconst 1, 1) := by decide +kernel
theorem dX1_find_131 : decode cX1_find 131 = .ok (.ireturn, 1) := by decide +kernel
theorem dX1_enter_0 : decode cX1_enter 0 = .ok (.aload_n 0, 1) := by decide +kernel
theorem dX1_enter_1 : decode cX1_enter 1 = .ok (.getfield 11, 3) := by decide +kernel
theorem dX1_enter_4 : decode cX1_enter 4 = .ok (.iload_n 2, 1) := by decide +kernel
theorem dX1_enter_5 : decode cX1_enter 5 = .ok (.aaload, 1) := by decide +kernel
theorem dX1_enter_6 : decode cX1_enter 6 = .ok (.iload_n 2, 1) := by decide +kernel
theorem dX1_enter_7 : decode cX1_enter 7 = .ok (.dup2, 1) := by decide +kernel
theorem dX1_enter_8 : decode cX1_enter 8 = .ok (.laload, 1) := by decide +kernel
theorem dX1_enter_9 : decode cX1_enter 9 = .ok (.iload_n 3, 1) := by decide +kernel
theorem dX1_enter_10 : decode cX1_enter 10 = .ok (.i2l, 1) := by decide +kernel
theorem dX1_enter_11 : decode cX1_enter 11 = .ok (.ladd, 1) := by decide +kernel
theorem dX1_enter_12 : decode cX1_enter 12 = .ok (.lastore, 1) := by decide +kernel
theorem dX1_enter_13 : decode cX1_enter 13 = .ok (.aload_n 0, 1) := by decide +kernel
theorem dX1_enter_14 : decode cX1_enter 14 = .ok (.getfield 11, 3) := by decide +kernel
theorem dX1_enter_17 : decode cX1_enter 17 = .ok (.iload_n 2, 1) := by decide +kernel
theorem dX1_enter_18 : decode cX1_enter 18 = .ok (.aaload, 1) := by decide +kernel
theorem dX1_enter_19 : decode cX1_enter 19 = .ok (.iconst 4, 1) := by decide +kernel
theorem dX1_enter_20 : decode cX1_enter 20 = .ok (.dup2, 1) := by decide +kernel
theorem dX1_enter_21 : decode cX1_enter 21 = .ok (.laload, 1) := by decide +kernel
theorem dX1_enter_22 : decode cX1_enter 22 = .ok (.iload_n 3, 1) := by decide +kernel
theorem dX1_enter_23 : decode cX1_enter 23 = .ok (.iload 4, 2) := by decide +kernel
theorem dX1_enter_25 : decode cX1_enter 25 = .ok (.imul, 1) := by decide +kernel
theorem dX1_enter_26 : decode cX1_enter 26 = .ok (.i2l, 1) := by decide +kernel
theorem dX1_enter_27 : decode cX1_enter 27 = .ok (.ladd, 1) := by decide +kernel
theorem dX1_enter_28 : decode cX1_enter 28 = .ok (.lastore, 1) := by decide +kernel
theorem dX1_enter_29 : decode cX1_enter 29 = .ok (.iload_n 1, 1) := by decide +kernel
theorem dX1_enter_30 : decode cX1_enter 30 = .ok (.ifCond .lt 58, 3) := by decide +kernel
theorem dX1_enter_33 : decode cX1_enter 33 = .ok (.aload_n 0, 1) := by decide +kernel
theorem dX1_enter_34 : decode cX1_enter 34 = .ok (.getfield 11, 3) := by decide +kernel
theorem dX1_enter_37 : decode cX1_enter 37 = .ok (.iload_n 1, 1) := by decide +kernel
theorem dX1_enter_38 : decode cX1_enter 38 = .ok (.aaload, 1) := by decide +kernel
theorem dX1_enter_39 : decode cX1_enter 39 = .ok (.iload_n 1, 1) := by decide +kernel
theorem dX1_enter_40 : decode cX1_enter 40 = .ok (.dup2, 1) := by decide +kernel
theorem dX1_enter_41 : decode cX1_enter 41 = .ok (.laload, 1) := by decide +kernel
theorem dX1_enter_42 : decode cX1_enter 42 = .ok (.iload_n 3, 1) := by decide +kernel
theorem dX1_enter_43 : decode cX1_enter 43 = .ok (.i2l, 1) := by decide +kernel
theorem dX1_enter_44 : decode cX1_enter 44 = .ok (.ladd, 1) := by decide +kernel
theorem dX1_enter_45 : decode cX1_enter 45 = .ok (.lastore, 1) := by decide +kernel
theorem dX1_enter_46 : decode cX1_enter 46 = .ok (.aload_n 0, 1) := by decide +kernel
theorem dX1_enter_47 : decode cX1_enter 47 = .ok (.getfield 11, 3) := by decide +kernel
theorem dX1_enter_50 : decode cX1_enter 50 = .ok (.iload_n 1, 1) := by decide +kernel
theorem dX1_enter_51 : decode cX1_enter 51 = .ok (.aaload, 1) := by decide +kernel
theorem dX1_enter_52 : decode cX1_enter 52 = .ok (.iload_n 2, 1) := by decide +kernel
theorem dX1_enter_53 : decode cX1_enter 53 = .ok (.dup2, 1) := by decide +kernel
theorem dX1_enter_54 : decode cX1_enter 54 = .ok (.laload, 1) := by decide +kernel
theorem dX1_enter_55 : decode cX1_enter 55 = .ok (.iload_n 3, 1) := by decide +kernel
theorem dX1_enter_56 : decode cX1_enter 56 = .ok (.i2l, 1) := by decide +kernel
theorem dX1_enter_57 : decode cX1_enter 57 = .ok (.lsub, 1) := by decide +kernel
theorem dX1_enter_58 : decode cX1_enter 58 = .ok (.lastore, 1) := by decide +kernel
theorem dX1_enter_59 : decode cX1_enter 59 = .ok (.aload_n 0, 1) := by decide +kernel
theorem dX1_enter_60 : decode cX1_enter 60 = .ok (.getfield 11, 3) := by decide +kernel
theorem dX1_enter_63 : decode cX1_enter 63 = .ok (.iload_n 2, 1) := by decide +kernel
theorem dX1_enter_64 : decode cX1_enter 64 = .ok (.aaload, 1) := by decide +kernel
theorem dX1_enter_65 : decode cX1_enter 65 = .ok (.iload_n 1, 1) := by decide +kernel
theorem dX1_enter_66 : decode cX1_enter 66 = .ok (.dup2, 1) := by decide +kernel
theorem dX1_enter_67 : decode cX1_enter 67 = .ok (.laload, 1) := by decide +kernel
theorem dX1_enter_68 : decode cX1_enter 68 = .ok (.iload_n 3, 1) := by decide +kernel
theorem dX1_enter_69 : decode cX1_enter 69 = .ok (.i2l, 1) := by decide +kernel
theorem dX1_enter_70 : decode cX1_enter 70 = .ok (.lsub, 1) := by decide +kernel
theorem dX1_enter_71 : decode cX1_enter 71 = .ok (.lastore, 1) := by decide +kernel
theorem dX1_enter_72 : decode cX1_enter 72 = .ok (.aload_n 0, 1) := by decide +kernel
theorem dX1_enter_73 : decode cX1_enter 73 = .ok (.getfield 11, 3) := by decide +kernel
theorem dX1_enter_76 : decode cX1_enter 76 = .ok (.iload_n 1, 1) := by decide +kernel
theorem dX1_enter_77 : decode cX1_enter 77 = .ok (.aaload, 1) := by decide +kernel
theorem dX1_enter_78 : decode cX1_enter 78 = .ok (.iconst 4, 1) := by decide +kernel
theorem dX1_enter_79 : decode cX1_enter 79 = .ok (.dup2, 1) := by decide +kernel
theorem dX1_enter_80 : decode cX1_enter 80 = .ok (.laload, 1) := by decide +kernel
theorem dX1_enter_81 : decode cX1_enter 81 = .ok (.iload_n 3, 1) := by decide +kernel
theorem dX1_enter_82 : decode cX1_enter 82 = .ok (.iload 4, 2) := by decide +kernel
theorem dX1_enter_84 : decode cX1_enter 84 = .ok (.imul, 1) := by decide +kernel
theorem dX1_enter_85 : decode cX1_enter 85 = .ok (.i2l, 1) := by decide +kernel
theorem dX1_enter_86 : decode cX1_enter 86 = .ok (.lsub, 1) := by decide +kernel
theorem dX1_enter_87 : decode cX1_enter 87 = .ok (.lastore, 1) := by decide +kernel
theorem dX1_enter_88 : decode cX1_enter 88 = .ok (.return_, 1) := by decide +kernel
theorem dX1_solve_0 : decode cX1_solve 0 = .ok (.lconst 1, 1) := by decide +kernel
theorem dX1_solve_1 : decode cX1_solve 1 = .ok (.lstore_n 2, 1) := by decide +kernel
theorem dX1_solve_2 : decode cX1_solve 2 = .ok (.iconst 0, 1) := by decide +kernel
theorem dX1_solve_3 : decode cX1_solve 3 = .ok (.istore 4, 2) := by decide +kernel
theorem dX1_solve_5 : decode cX1_solve 5 = .ok (.iload 4, 2) := by decide +kernel
theorem dX1_solve_7 : decode cX1_solve 7 = .ok (.iload_n 1, 1) := by decide +kernel
theorem dX1_solve_8 : decode cX1_solve 8 = .ok (.if_icmp .ge 66, 3) := by decide +kernel
theorem dX1_solve_11 : decode cX1_solve 11 = .ok (.aload_n 0, 1) := by decide +kernel
theorem dX1_solve_12 : decode cX1_solve 12 = .ok (.getfield 11, 3) := by decide +kernel
theorem dX1_solve_15 : decode cX1_solve 15 = .ok (.iload 4, 2) := by decide +kernel
theorem dX1_solve_17 : decode cX1_solve 17 = .ok (.aaload, 1) := by decide +kernel
theorem dX1_solve_18 : decode cX1_solve 18 = .ok (.iload 4, 2) := by decide +kernel
theorem dX1_solve_20 : decode cX1_solve 20 = .ok (.laload, 1) := by decide +kernel
theorem dX1_solve_21 : decode cX1_solve 21 = .ok (.lstore 5, 2) := by decide +kernel
theorem dX1_solve_23 : decode cX1_solve 23 = .ok (.iconst 0, 1) := by decide +kernel
theorem dX1_solve_24 : decode cX1_solve 24 = .ok (.istore 7, 2) := by decide +kernel
theorem dX1_solve_26 : decode cX1_solve 26 = .ok (.iload 7, 2) := by decide +kernel
theorem dX1_solve_28 : decode cX1_solve 28 = .ok (.iload_n 1, 1) := by decide +kernel
theorem dX1_solve_29 : decode cX1_solve 29 = .ok (.if_icmp .ge 36, 3) := by decide +kernel
theorem dX1_solve_32 : decode cX1_solve 32 = .ok (.iload 7, 2) := by decide +kernel
theorem dX1_solve_34 : decode cX1_solve 34 = .ok (.iload 4, 2) := by decide +kernel
theorem dX1_solve_36 : decode cX1_solve 36 = .ok (.if_icmp .eq 23, 3) := by decide +kernel
theorem dX1_solve_39 : decode cX1_solve 39 = .ok (.aload_n 0, 1) := by decide +kernel
theorem dX1_solve_40 : decode cX1_solve 40 = .ok (.getfield 11, 3) := by decide +kernel
theorem dX1_solve_43 : decode cX1_solve 43 = .ok (.iload 7, 2) := by decide +kernel
theorem dX1_solve_45 : decode cX1_solve 45 = .ok (.aaload, 1) := by decide +kernel
theorem dX1_solve_46 : decode cX1_solve 46 = .ok (.aload_n 0, 1) := by decide +kernel
theorem dX1_solve_47 : decode cX1_solve 47 = .ok (.getfield 11, 3) := by decide +kernel
theorem dX1_solve_50 : decode cX1_solve 50 = .ok (.iload 4, 2) := by decide +kernel
theorem dX1_solve_52 : decode cX1_solve 52 = .ok (.aaload, 1) := by decide +kernel
theorem dX1_solve_53 : decode cX1_solve 53 = .ok (.iload 4, 2) := by decide +kernel
theorem dX1_solve_55 : decode cX1_solve 55 = .ok (.lload_n 2, 1) := by decide +kernel
theorem dX1_solve_56 : decode cX1_solve 56 = .ok (.invokestatic 71, 3) := by decide +kernel
theorem dX1_solve_59 : decode cX1_solve 59 = .ok (.iinc 7 1, 3) := by decide +kernel
theorem dX1_solve_62 : decode cX1_solve 62 = .ok (.goto (-36), 3) := by decide +kernel
theorem dX1_solve_65 : decode cX1_solve 65 = .ok (.lload 5, 2) := by decide +kernel
theorem dX1_solve_67 : decode cX1_solve 67 = .ok (.lstore_n 2, 1) := by decide +kernel
theorem dX1_solve_68 : decode cX1_solve 68 = .ok (.iinc 4 1, 3) := by decide +kernel
theorem dX1_solve_71 : decode cX1_solve 71 = .ok (.goto (-66), 3) := by decide +kernel
theorem dX1_solve_74 : decode cX1_solve 74 = .ok (.aload_n 0, 1) := by decide +kernel
theorem dX1_solve_75 : decode cX1_solve 75 = .ok (.lload_n 2, 1) := by decide +kernel
theorem dX1_solve_76 : decode cX1_solve 76 = .ok (.putfield 27, 3) := by decide +kernel
theorem dX1_solve_79 : decode cX1_solve 79 = .ok (.iconst 0, 1) := by decide +kernel
theorem dX1_solve_80 : decode cX1_solve 80 = .ok (.istore 4, 2) := by decide +kernel
theorem dX1_solve_82 : decode cX1_solve 82 = .ok (.iload 4, 2) := by decide +kernel
theorem dX1_solve_84 : decode cX1_solve 84 = .ok (.iload_n 1, 1) := by decide +kernel
theorem dX1_solve_85 : decode cX1_solve 85 = .ok (.if_icmp .ge 25, 3) := by decide +kernel
theorem dX1_solve_88 : decode cX1_solve 88 = .ok (.aload_n 0, 1) := by decide +kernel
theorem dX1_solve_89 : decode cX1_solve 89 = .ok (.getfield 16, 3) := by decide +kernel
theorem dX1_solve_92 : decode cX1_solve 92 = .ok (.iload 4, 2) := by decide +kernel
theorem dX1_solve_94 : decode cX1_solve 94 = .ok (.aload_n 0, 1) := by decide +kernel
theorem dX1_solve_95 : decode cX1_solve 95 = .ok (.getfield 11, 3) := by decide +kernel
theorem dX1_solve_98 : decode cX1_solve 98 = .ok (.iload 4, 2) := by decide +kernel
theorem dX1_solve_100 : decode cX1_solve 100 = .ok (.aaload, 1) := by decide +kernel
theorem dX1_solve_101 : decode cX1_solve 101 = .ok (.iconst 4, 1) := by decide +kernel
theorem dX1_solve_102 : decode cX1_solve 102 = .ok (.laload, 1) := by decide +kernel
theorem dX1_solve_103 : decode cX1_solve 103 = .ok (.lastore, 1) := by decide +kernel
theorem dX1_solve_104 : decode cX1_solve 104 = .ok (.iinc 4 1, 3) := by decide +kernel
theorem dX1_solve_107 : decode cX1_solve 107 = .ok (.goto (-25), 3) := by decide +kernel
theorem dX1_solve_110 : decode cX1_solve 110 = .ok (.return_, 1) := by decide +kernel
theorem dX1_clearColumn_0 : decode cX1_clearColumn 0 = .ok (.aload_n 1, 1) := by decide +kernel
theorem dX1_clearColumn_1 : decode cX1_clearColumn 1 = .ok (.iload_n 2, 1) := by decide +kernel
theorem dX1_clearColumn_2 : decode cX1_clearColumn 2 = .ok (.laload, 1) := by decide +kernel
theorem dX1_clearColumn_3 : decode cX1_clearColumn 3 = .ok (.lstore 5, 2) := by decide +kernel
theorem dX1_clearColumn_5 : decode cX1_clearColumn 5 = .ok (.aload_n 0, 1) := by decide +kernel
theorem dX1_clearColumn_6 : decode cX1_clearColumn 6 = .ok (.iload_n 2, 1) := by decide +kernel
theorem dX1_clearColumn_7 : decode cX1_clearColumn 7 = .ok (.laload, 1) := by decide +kernel
theorem dX1_clearColumn_8 : decode cX1_clearColumn 8 = .ok (.lstore 7, 2) := by decide +kernel
theorem dX1_clearColumn_10 : decode cX1_clearColumn 10 = .ok (.iconst 0, 1) := by decide +kernel
theorem dX1_clearColumn_11 : decode cX1_clearColumn 11 = .ok (.istore 9, 2) := by decide +kernel
theorem dX1_clearColumn_13 : decode cX1_clearColumn 13 = .ok (.iload 9, 2) := by decide +kernel
theorem dX1_clearColumn_15 : decode cX1_clearColumn 15 = .ok (.iconst 4, 1) := by decide +kernel
theorem dX1_clearColumn_16 : decode cX1_clearColumn 16 = .ok (.if_icmp .gt 32, 3) := by decide +kernel
theorem dX1_clearColumn_19 : decode cX1_clearColumn 19 = .ok (.aload_n 0, 1) := by decide +kernel
theorem dX1_clearColumn_20 : decode cX1_clearColumn 20 = .ok (.iload 9, 2) := by decide +kernel
theorem dX1_clearColumn_22 : decode cX1_clearColumn 22 = .ok (.aload_n 0, 1) := by decide +kernel
theorem dX1_clearColumn_23 : decode cX1_clearColumn 23 = .ok (.iload 9, 2) := by decide +kernel
theorem dX1_clearColumn_25 : decode cX1_clearColumn 25 = .ok (.laload, 1) := by decide +kernel
theorem dX1_clearColumn_26 : decode cX1_clearColumn 26 = .ok (.lload 5, 2) := by decide +kernel
theorem dX1_clearColumn_28 : decode cX1_clearColumn 28 = .ok (.lmul, 1) := by decide +kernel
theorem dX1_clearColumn_29 : decode cX1_clearColumn 29 = .ok (.lload 7, 2) := by decide +kernel
theorem dX1_clearColumn_31 : decode cX1_clearColumn 31 = .ok (.aload_n 1, 1) := by decide +kernel
theorem dX1_clearColumn_32 : decode cX1_clearColumn 32 = .ok (.iload 9, 2) := by decide +kernel
theorem dX1_clearColumn_34 : decode cX1_clearColumn 34 = .ok (.laload, 1) := by decide +kernel
theorem dX1_clearColumn_35 : decode cX1_clearColumn 35 = .ok (.lmul, 1) := by decide +kernel
theorem dX1_clearColumn_36 : decode cX1_clearColumn 36 = .ok (.lsub, 1) := by decide +kernel
theorem dX1_clearColumn_37 : decode cX1_clearColumn 37 = .ok (.lload_n 3, 1) := by decide +kernel
theorem dX1_clearColumn_38 : decode cX1_clearColumn 38 = .ok (.invokestatic 75, 3) := by decide +kernel
theorem dX1_clearColumn_41 : decode cX1_clearColumn 41 = .ok (.lastore, 1) := by decide +kernel
theorem dX1_clearColumn_42 : decode cX1_clearColumn 42 = .ok (.iinc 9 1, 3) := by decide +kernel
theorem dX1_clearColumn_45 : decode cX1_clearColumn 45 = .ok (.goto (-32), 3) := by decide +kernel
theorem dX1_clearColumn_48 : decode cX1_clearColumn 48 = .ok (.return_, 1) := by decide +kernel
theorem dX1_missAbove_0 : decode cX1_missAbove 0 = .ok (.aload_n 1, 1) := by decide +kernel
theorem dX1_missAbove_1 : decode cX1_missAbove 1 = .ok (.getfield 54, 3) := by decide +kernel
theorem dX1_missAbove_4 : decode cX1_missAbove 4 = .ok (.iload_n 2, 1) := by decide +kernel
theorem dX1_missAbove_5 : decode cX1_missAbove 5 = .ok (.iaload, 1) := by decide +kernel
theorem dX1_missAbove_6 : decode cX1_missAbove 6 = .ok (.istore 4, 2) := by decide +kernel
theorem dX1_missAbove_8 : decode cX1_missAbove 8 = .ok (.iload_n 3, 1) := by decide +kernel
theorem dX1_missAbove_9 : decode cX1_missAbove 9 = .ok (.i2l, 1) := by decide +kernel
theorem dX1_missAbove_10 : decode cX1_missAbove 10 = .ok (.aload_n 0, 1) := by decide +kernel
theorem dX1_missAbove_11 : decode cX1_missAbove 11 = .ok (.getfield 27, 3) := by decide +kernel
theorem dX1_missAbove_14 : decode cX1_missAbove 14 = .ok (.lmul, 1) := by decide +kernel
theorem dX1_missAbove_15 : decode cX1_missAbove 15 = .ok (.aload_n 0, 1) := by decide +kernel
theorem dX1_missAbove_16 : decode cX1_missAbove 16 = .ok (.getfield 16, 3) := by decide +kernel
theorem dX1_missAbove_19 : decode cX1_missAbove 19 = .ok (.aload_n 1, 1) := by decide +kernel
theorem dX1_missAbove_20 : decode cX1_missAbove 20 = .ok (.getfield 57, 3) := by decide +kernel
theorem dX1_missAbove_23 : decode cX1_missAbove 23 = .ok (.iload_n 2, 1) := by decide +kernel
theorem dX1_missAbove_24 : decode cX1_missAbove 24 = .ok (.iaload, 1) := by decide +kernel
theorem dX1_missAbove_25 : decode cX1_missAbove 25 = .ok (.laload, 1) := by decide +kernel
theorem dX1_missAbove_26 : decode cX1_missAbove 26 = .ok (.lsub, 1) := by decide +kernel
theorem dX1_missAbove_27 : decode cX1_missAbove 27 = .ok (.iload 4, 2) := by decide +kernel
theorem dX1_missAbove_29 : decode cX1_missAbove 29 = .ok (.ifCond .ge 7, 3) := by decide +kernel
theorem dX1_missAbove_32 : decode cX1_missAbove 32 = .ok (.lconst 0, 1) := by decide +kernel
theorem dX1_missAbove_33 : decode cX1_missAbove 33 = .ok (.goto 10, 3) := by decide +kernel
theorem dX1_missAbove_36 : decode cX1_missAbove 36 = .ok (.aload_n 0, 1) := by decide +kernel
theorem dX1_missAbove_37 : decode cX1_missAbove 37 = .ok (.getfield 16, 3) := by decide +kernel
theorem dX1_missAbove_40 : decode cX1_missAbove 40 = .ok (.iload 4, 2) := by decide +kernel
theorem dX1_missAbove_42 : decode cX1_missAbove 42 = .ok (.laload, 1) := by decide +kernel
theorem dX1_missAbove_43 : decode cX1_missAbove 43 = .ok (.ladd, 1) := by decide +kernel
theorem dX1_missAbove_44 : decode cX1_missAbove 44 = .ok (.lreturn, 1) := by decide +kernel
theorem dX1_sumAbove_0 : decode cX1_sumAbove 0 = .ok (.lconst 0, 1) := by decide +kernel
theorem dX1_sumAbove_1 : decode cX1_sumAbove 1 = .ok (.lstore_n 2, 1) := by decide +kernel
theorem dX1_sumAbove_2 : decode cX1_sumAbove 2 = .ok (.iconst 0, 1) := by decide +kernel
theorem dX1_sumAbove_3 : decode cX1_sumAbove 3 = .ok (.istore 4, 2) := by decide +kernel
theorem dX1_sumAbove_5 : decode cX1_sumAbove 5 = .ok (.iload 4, 2) := by decide +kernel
theorem dX1_sumAbove_7 : decode cX1_sumAbove 7 = .ok (.aload_n 1, 1) := by decide +kernel
theorem dX1_sumAbove_8 : decode cX1_sumAbove 8 = .ok (.getfield 41, 3) := by decide +kernel
theorem dX1_sumAbove_11 : decode cX1_sumAbove 11 = .ok (.if_icmp .ge 51, 3) := by decide +kernel
theorem dX1_sumAbove_14 : decode cX1_sumAbove 14 = .ok (.aload_n 1, 1) := by decide +kernel
theorem dX1_sumAbove_15 : decode cX1_sumAbove 15 = .ok (.iload 4, 2) := by decide +kernel
theorem dX1_sumAbove_17 : decode cX1_sumAbove 17 = .ok (.invokevirtual 44, 3) := by decide +kernel
theorem dX1_sumAbove_20 : decode cX1_sumAbove 20 = .ok (.ifCond .eq 36, 3) := by decide +kernel
theorem dX1_sumAbove_23 : decode cX1_sumAbove 23 = .ok (.aload_n 0, 1) := by decide +kernel
theorem dX1_sumAbove_24 : decode cX1_sumAbove 24 = .ok (.aload_n 1, 1) := by decide +kernel
theorem dX1_sumAbove_25 : decode cX1_sumAbove 25 = .ok (.iload 4, 2) := by decide +kernel
theorem dX1_sumAbove_27 : decode cX1_sumAbove 27 = .ok (.aload_n 0, 1) := by decide +kernel
theorem dX1_sumAbove_28 : decode cX1_sumAbove 28 = .ok (.getfield 24, 3) := by decide +kernel
theorem dX1_sumAbove_31 : decode cX1_sumAbove 31 = .ok (.iload 4, 2) := by decide +kernel
theorem dX1_sumAbove_33 : decode cX1_sumAbove 33 = .ok (.iaload, 1) := by decide +kernel
theorem dX1_sumAbove_34 : decode cX1_sumAbove 34 = .ok (.invokevirtual 79, 3) := by decide +kernel
theorem dX1_sumAbove_37 : decode cX1_sumAbove 37 = .ok (.lstore 5, 2) := by decide +kernel
theorem dX1_sumAbove_39 : decode cX1_sumAbove 39 = .ok (.lload_n 2, 1) := by decide +kernel
theorem dX1_sumAbove_40 : decode cX1_sumAbove 40 = .ok (.aload_n 0, 1) := by decide +kernel
theorem dX1_sumAbove_41 : decode cX1_sumAbove 41 = .ok (.getfield 20, 3) := by decide +kernel
theorem dX1_sumAbove_44 : decode cX1_sumAbove 44 = .ok (.iload 4, 2) := by decide +kernel
theorem dX1_sumAbove_46 : decode cX1_sumAbove 46 = .ok (.iaload, 1) := by decide +kernel
theorem dX1_sumAbove_47 : decode cX1_sumAbove 47 = .ok (.i2l, 1) := by decide +kernel
theorem dX1_sumAbove_48 : decode cX1_sumAbove 48 = .ok (.lload 5, 2) := by decide +kernel
theorem dX1_sumAbove_50 : decode cX1_sumAbove 50 = .ok (.lmul, 1) := by decide +kernel
theorem dX1_sumAbove_51 : decode cX1_sumAbove 51 = .ok (.lload 5, 2) := by decide +kernel
theorem dX1_sumAbove_53 : decode cX1_sumAbove 53 = .ok (.lmul, 1) := by decide +kernel
theorem dX1_sumAbove_54 : decode cX1_sumAbove 54 = .ok (.ladd, 1) := by decide +kernel
theorem dX1_sumAbove_55 : decode cX1_sumAbove 55 = .ok (.lstore_n 2, 1) := by decide +kernel
theorem dX1_sumAbove_56 : decode cX1_sumAbove 56 = .ok (.iinc 4 1, 3) := by decide +kernel
theorem dX1_sumAbove_59 : decode cX1_sumAbove 59 = .ok (.goto (-54), 3) := by decide +kernel
theorem dX1_sumAbove_62 : decode cX1_sumAbove 62 = .ok (.lload_n 2, 1) := by decide +kernel
theorem dX1_sumAbove_63 : decode cX1_sumAbove 63 = .ok (.lreturn, 1) := by decide +kernel
theorem dX1_doubtAbove_0 : decode cX1_doubtAbove 0 = .ok (.aload_n 0, 1) := by decide +kernel
theorem dX1_doubtAbove_1 : decode cX1_doubtAbove 1 = .ok (.getfield 20, 3) := by decide +kernel
theorem dX1_doubtAbove_4 : decode cX1_doubtAbove 4 = .ok (.iload_n 2, 1) := by decide +kernel
theorem dX1_doubtAbove_5 : decode cX1_doubtAbove 5 = .ok (.iaload, 1) := by decide +kernel
theorem dX1_doubtAbove_6 : decode cX1_doubtAbove 6 = .ok (.i2l, 1) := by decide +kernel
theorem dX1_doubtAbove_7 : decode cX1_doubtAbove 7 = .ok (.aload_n 0, 1) := by decide +kernel
theorem dX1_doubtAbove_8 : decode cX1_doubtAbove 8 = .ok (.aload_n 1, 1) := by decide +kernel
theorem dX1_doubtAbove_9 : decode cX1_doubtAbove 9 = .ok (.iload_n 2, 1) := by decide +kernel
theorem dX1_doubtAbove_10 : decode cX1_doubtAbove 10 = .ok (.aload_n 0, 1) := by decide +kernel
theorem dX1_doubtAbove_11 : decode cX1_doubtAbove 11 = .ok (.getfield 24, 3) := by decide +kernel
theorem dX1_doubtAbove_14 : decode cX1_doubtAbove 14 = .ok (.iload_n 2, 1) := by decide +kernel
theorem dX1_doubtAbove_15 : decode cX1_doubtAbove 15 = .ok (.iaload, 1) := by decide +kernel
theorem dX1_doubtAbove_16 : decode cX1_doubtAbove 16 = .ok (.invokevirtual 79, 3) := by decide +kernel
theorem dX1_doubtAbove_19 : decode cX1_doubtAbove 19 = .ok (.invokestatic 83, 3) := by decide +kernel
theorem dX1_doubtAbove_22 : decode cX1_doubtAbove 22 = .ok (.lmul, 1) := by decide +kernel
theorem dX1_doubtAbove_23 : decode cX1_doubtAbove 23 = .ok (.lreturn, 1) := by decide +kernel
theorem dX1_mostDoubted_0 : decode cX1_mostDoubted 0 = .ok (.iconst (-1), 1) := by decide +kernel
theorem dX1_mostDoubted_1 : decode cX1_mostDoubted 1 = .ok (.istore_n 2, 1) := by decide +kernel
theorem dX1_mostDoubted_2 : decode cX1_mostDoubted 2 = .ok (.ldc2_w 89, 3) := by decide +kernel
theorem dX1_mostDoubted_5 : decode cX1_mostDoubted 5 = .ok (.lstore_n 3, 1) := by decide +kernel
theorem dX1_mostDoubted_6 : decode cX1_mostDoubted 6 = .ok (.iconst 0, 1) := by decide +kernel
theorem dX1_mostDoubted_7 : decode cX1_mostDoubted 7 = .ok (.istore 5, 2) := by decide +kernel
theorem dX1_mostDoubted_9 : decode cX1_mostDoubted 9 = .ok (.iload 5, 2) := by decide +kernel
theorem dX1_mostDoubted_11 : decode cX1_mostDoubted 11 = .ok (.aload_n 1, 1) := by decide +kernel
theorem dX1_mostDoubted_12 : decode cX1_mostDoubted 12 = .ok (.getfield 41, 3) := by decide +kernel
theorem dX1_mostDoubted_15 : decode cX1_mostDoubted 15 = .ok (.if_icmp .ge 46, 3) := by decide +kernel
theorem dX1_mostDoubted_18 : decode cX1_mostDoubted 18 = .ok (.aload_n 1, 1) := by decide +kernel
theorem dX1_mostDoubted_19 : decode cX1_mostDoubted 19 = .ok (.iload 5, 2) := by decide +kernel
theorem dX1_mostDoubted_21 : decode cX1_mostDoubted 21 = .ok (.invokevirtual 44, 3) := by decide +kernel
theorem dX1_mostDoubted_24 : decode cX1_mostDoubted 24 = .ok (.ifCond .eq 13, 3) := by decide +kernel
theorem dX1_mostDoubted_27 : decode cX1_mostDoubted 27 = .ok (.aload_n 0, 1) := by decide +kernel
theorem dX1_mostDoubted_28 : decode cX1_mostDoubted 28 = .ok (.aload_n 1, 1) := by decide +kernel
theorem dX1_mostDoubted_29 : decode cX1_mostDoubted 29 = .ok (.iload 5, 2) := by decide +kernel
theorem dX1_mostDoubted_31 : decode cX1_mostDoubted 31 = .ok (.invokevirtual 91, 3) := by decide +kernel
theorem dX1_mostDoubted_34 : decode cX1_mostDoubted 34 = .ok (.goto 6, 3) := by decide +kernel
theorem dX1_mostDoubted_37 : decode cX1_mostDoubted 37 = .ok (.ldc2_w 89, 3) := by decide +kernel
theorem dX1_mostDoubted_40 : decode cX1_mostDoubted 40 = .ok (.lstore 6, 2) := by decide +kernel
theorem dX1_mostDoubted_42 : decode cX1_mostDoubted 42 = .ok (.lload 6, 2) := by decide +kernel
theorem dX1_mostDoubted_44 : decode cX1_mostDoubted 44 = .ok (.lload_n 3, 1) := by decide +kernel
theorem dX1_mostDoubted_45 : decode cX1_mostDoubted 45 = .ok (.lcmp, 1) := by decide +kernel
theorem dX1_mostDoubted_46 : decode cX1_mostDoubted 46 = .ok (.ifCond .le 9, 3) := by decide +kernel
theorem dX1_mostDoubted_49 : decode cX1_mostDoubted 49 = .ok (.lload 6, 2) := by decide +kernel
theorem dX1_mostDoubted_51 : decode cX1_mostDoubted 51 = .ok (.lstore_n 3, 1) := by decide +kernel
theorem dX1_mostDoubted_52 : decode cX1_mostDoubted 52 = .ok (.iload 5, 2) := by decide +kernel
theorem dX1_mostDoubted_54 : decode cX1_mostDoubted 54 = .ok (.istore_n 2, 1) := by decide +kernel
theorem dX1_mostDoubted_55 : decode cX1_mostDoubted 55 = .ok (.iinc 5 1, 3) := by decide +kernel
theorem dX1_mostDoubted_58 : decode cX1_mostDoubted 58 = .ok (.goto (-49), 3) := by decide +kernel
theorem dX1_mostDoubted_61 : decode cX1_mostDoubted 61 = .ok (.iload_n 2, 1) := by decide +kernel
theorem dX1_mostDoubted_62 : decode cX1_mostDoubted 62 = .ok (.ireturn, 1) := by decide +kernel
theorem dX1_passRound_0 : decode cX1_passRound 0 = .ok (.aload_n 0, 1) := by decide +kernel
theorem dX1_passRound_1 : decode cX1_passRound 1 = .ok (.aload_n 1, 1) := by decide +kernel
theorem dX1_passRound_2 : decode cX1_passRound 2 = .ok (.invokevirtual 95, 3) := by decide +kernel
theorem dX1_passRound_5 : decode cX1_passRound 5 = .ok (.ifCond .eq 55, 3) := by decide +kernel
theorem dX1_passRound_8 : decode cX1_passRound 8 = .ok (.aload_n 0, 1) := by decide +kernel
theorem dX1_passRound_9 : decode cX1_passRound 9 = .ok (.aload_n 1, 1) := by decide +kernel
theorem dX1_passRound_10 : decode cX1_passRound 10 = .ok (.invokevirtual 99, 3) := by decide +kernel
theorem dX1_passRound_13 : decode cX1_passRound 13 = .ok (.istore_n 2, 1) := by decide +kernel
theorem dX1_passRound_14 : decode cX1_passRound 14 = .ok (.iload_n 2, 1) := by decide +kernel
theorem dX1_passRound_15 : decode cX1_passRound 15 = .ok (.ifCond .lt 45, 3) := by decide +kernel
theorem dX1_passRound_18 : decode cX1_passRound 18 = .ok (.aload_n 0, 1) := by decide +kernel
theorem dX1_passRound_19 : decode cX1_passRound 19 = .ok (.aload_n 1, 1) := by decide +kernel
theorem dX1_passRound_20 : decode cX1_passRound 20 = .ok (.iload_n 2, 1) := by decide +kernel
theorem dX1_passRound_21 : decode cX1_passRound 21 = .ok (.invokevirtual 91, 3) := by decide +kernel
theorem dX1_passRound_24 : decode cX1_passRound 24 = .ok (.aload_n 1, 1) := by decide +kernel
theorem dX1_passRound_25 : decode cX1_passRound 25 = .ok (.getfield 103, 3) := by decide +kernel
theorem dX1_passRound_28 : decode cX1_passRound 28 = .ok (.i2l, 1) := by decide +kernel
theorem dX1_passRound_29 : decode cX1_passRound 29 = .ok (.aload_n 0, 1) := by decide +kernel
theorem dX1_passRound_30 : decode cX1_passRound 30 = .ok (.getfield 27, 3) := by decide +kernel
theorem dX1_passRound_33 : decode cX1_passRound 33 = .ok (.lmul, 1) := by decide +kernel
theorem dX1_passRound_34 : decode cX1_passRound 34 = .ok (.lcmp, 1) := by decide +kernel
theorem dX1_passRound_35 : decode cX1_passRound 35 = .ok (.ifCond .le 25, 3) := by decide +kernel
theorem dX1_passRound_38 : decode cX1_passRound 38 = .ok (.aload_n 1, 1) := by decide +kernel
theorem dX1_passRound_39 : decode cX1_passRound 39 = .ok (.iload_n 2, 1) := by decide +kernel
theorem dX1_passRound_40 : decode cX1_passRound 40 = .ok (.iconst 0, 1) := by decide +kernel
theorem dX1_passRound_41 : decode cX1_passRound 41 = .ok (.invokevirtual 106, 3) := by decide +kernel
theorem dX1_passRound_44 : decode cX1_passRound 44 = .ok (.aload_n 1, 1) := by decide +kernel
theorem dX1_passRound_45 : decode cX1_passRound 45 = .ok (.sipush 9999, 3) := by decide +kernel
theorem dX1_passRound_48 : decode cX1_passRound 48 = .ok (.aload_n 1, 1) := by decide +kernel
theorem dX1_passRound_49 : decode cX1_passRound 49 = .ok (.getfield 110, 3) := by decide +kernel
theorem dX1_passRound_52 : decode cX1_passRound 52 = .ok (.iconst 1, 1) := by decide +kernel
theorem dX1_passRound_53 : decode cX1_passRound 53 = .ok (.iadd, 1) := by decide +kernel
theorem dX1_passRound_54 : decode cX1_passRound 54 = .ok (.invokestatic 113, 3) := by decide +kernel
theorem dX1_passRound_57 : decode cX1_passRound 57 = .ok (.putfield 110, 3) := by decide +kernel
theorem dX1_passRound_60 : decode cX1_passRound 60 = .ok (.aload_n 1, 1) := by decide +kernel
theorem dX1_passRound_61 : decode cX1_passRound 61 = .ok (.dup, 1) := by decide +kernel
theorem dX1_passRound_62 : decode cX1_passRound 62 = .ok (.getfield 117, 3) := by decide +kernel
theorem dX1_passRound_65 : decode cX1_passRound 65 = .ok (.iconst 1, 1) := by decide +kernel
theorem dX1_passRound_66 : decode cX1_passRound 66 = .ok (.iadd, 1) := by decide +kernel
theorem dX1_passRound_67 : decode cX1_passRound 67 = .ok (.putfield 117, 3) := by decide +kernel
theorem dX1_passRound_70 : decode cX1_passRound 70 = .ok (.return_, 1) := by decide +kernel
theorem dX1_leastLimit_0 : decode cX1_leastLimit 0 = .ok (.aload_n 0, 1) := by decide +kernel
theorem dX1_leastLimit_1 : decode cX1_leastLimit 1 = .ok (.aload_n 1, 1) := by decide +kernel
theorem dX1_leastLimit_2 : decode cX1_leastLimit 2 = .ok (.invokevirtual 95, 3) := by decide +kernel
theorem dX1_leastLimit_5 : decode cX1_leastLimit 5 = .ok (.ifCond .ne 5, 3) := by decide +kernel
theorem dX1_leastLimit_8 : decode cX1_leastLimit 8 = .ok (.lconst 0, 1) := by decide +kernel
theorem dX1_leastLimit_9 : decode cX1_leastLimit 9 = .ok (.lreturn, 1) := by decide +kernel
theorem dX1_leastLimit_10 : decode cX1_leastLimit 10 = .ok (.aload_n 0, 1) := by decide +kernel
theorem dX1_leastLimit_11 : decode cX1_leastLimit 11 = .ok (.aload_n 1, 1) := by decide +kernel
theorem dX1_leastLimit_12 : decode cX1_leastLimit 12 = .ok (.invokevirtual 99, 3) := by decide +kernel
theorem dX1_leastLimit_15 : decode cX1_leastLimit 15 = .ok (.istore_n 2, 1) := by decide +kernel
theorem dX1_leastLimit_16 : decode cX1_leastLimit 16 = .ok (.iload_n 2, 1) := by decide +kernel
theorem dX1_leastLimit_17 : decode cX1_leastLimit 17 = .ok (.ifCond .ge 7, 3) := by decide +kernel
theorem dX1_leastLimit_20 : decode cX1_leastLimit 20 = .ok (.lconst 0, 1) := by decide +kernel
theorem dX1_leastLimit_21 : decode cX1_leastLimit 21 = .ok (.goto 23, 3) := by decide +kernel
theorem dX1_leastLimit_24 : decode cX1_leastLimit 24 = .ok (.aload_n 0, 1) := by decide +kernel
theorem dX1_leastLimit_25 : decode cX1_leastLimit 25 = .ok (.aload_n 1, 1) := by decide +kernel
theorem dX1_leastLimit_26 : decode cX1_leastLimit 26 = .ok (.iload_n 2, 1) := by decide +kernel
theorem dX1_leastLimit_27 : decode cX1_leastLimit 27 = .ok (.invokevirtual 91, 3) := by decide +kernel
theorem dX1_leastLimit_30 : decode cX1_leastLimit 30 = .ok (.aload_n 0, 1) := by decide +kernel
theorem dX1_leastLimit_31 : decode cX1_leastLimit 31 = .ok (.getfield 27, 3) := by decide +kernel
theorem dX1_leastLimit_34 : decode cX1_leastLimit 34 = .ok (.ladd, 1) := by decide +kernel
theorem dX1_leastLimit_35 : decode cX1_leastLimit 35 = .ok (.lconst 1, 1) := by decide +kernel
theorem dX1_leastLimit_36 : decode cX1_leastLimit 36 = .ok (.lsub, 1) := by decide +kernel
theorem dX1_leastLimit_37 : decode cX1_leastLimit 37 = .ok (.aload_n 0, 1) := by decide +kernel
theorem dX1_leastLimit_38 : decode cX1_leastLimit 38 = .ok (.getfield 27, 3) := by decide +kernel
theorem dX1_leastLimit_41 : decode cX1_leastLimit 41 = .ok (.invokestatic 75, 3) := by decide +kernel
theorem dX1_leastLimit_44 : decode cX1_leastLimit 44 = .ok (.lreturn, 1) := by decide +kernel
theorem dX2_init_0 : decode cX2_init 0 = .ok (.aload_n 0, 1) := by decide +kernel
theorem dX2_init_1 : decode cX2_init 1 = .ok (.invokespecial 3, 3) := by decide +kernel
theorem dX2_init_4 : decode cX2_init 4 = .ok (.aload_n 0, 1) := by decide +kernel
theorem dX2_init_5 : decode cX2_init 5 = .ok (.bipush 60, 2) := by decide +kernel
theorem dX2_init_7 : decode cX2_init 7 = .ok (.newarray .int, 2) := by decide +kernel
theorem dX2_init_9 : decode cX2_init 9 = .ok (.putfield 9, 3) := by decide +kernel
theorem dX2_init_12 : decode cX2_init 12 = .ok (.aload_n 0, 1) := by decide +kernel
theorem dX2_init_13 : decode cX2_init 13 = .ok (.ldc 15, 2) := by decide +kernel
theorem dX2_init_15 : decode cX2_init 15 = .ok (.putfield 17, 3) := by decide +kernel
theorem dX2_init_18 : decode cX2_init 18 = .ok (.aload_n 0, 1) := by decide +kernel
theorem dX2_init_19 : decode cX2_init 19 = .ok (.aload_n 1, 1) := by decide +kernel
theorem dX2_init_20 : decode cX2_init 20 = .ok (.putfield 21, 3) := by decide +kernel
theorem dX2_init_23 : decode cX2_init 23 = .ok (.return_, 1) := by decide +kernel
theorem dX2_faultOf_0 : decode cX2_faultOf 0 = .ok (.aload_n 0, 1) := by decide +kernel
theorem dX2_faultOf_1 : decode cX2_faultOf 1 = .ok (.iload_n 1, 1) := by decide +kernel
theorem dX2_faultOf_2 : decode cX2_faultOf 2 = .ok (.putfield 24, 3) := by decide +kernel
theorem dX2_faultOf_5 : decode cX2_faultOf 5 = .ok (.aload_n 0, 1) := by decide +kernel
theorem dX2_faultOf_6 : decode cX2_faultOf 6 = .ok (.aload_n 2, 1) := by decide +kernel
theorem dX2_faultOf_7 : decode cX2_faultOf 7 = .ok (.putfield 17, 3) := by decide +kernel
theorem dX2_faultOf_10 : decode cX2_faultOf 10 = .ok (.aload_n 0, 1) := by decide +kernel
theorem dX2_faultOf_11 : decode cX2_faultOf 11 = .ok (.iconst 0, 1) := by decide +kernel
theorem dX2_faultOf_12 : decode cX2_faultOf 12 = .ok (.putfield 28, 3) := by decide +kernel
theorem dX2_faultOf_15 : decode cX2_faultOf 15 = .ok (.aload_n 0, 1) := by decide +kernel
theorem dX2_faultOf_16 : decode cX2_faultOf 16 = .ok (.iconst 0, 1) := by decide +kernel
theorem dX2_faultOf_17 : decode cX2_faultOf 17 = .ok (.putfield 31, 3) := by decide +kernel
theorem dX2_faultOf_20 : decode cX2_faultOf 20 = .ok (.aload_n 0, 1) := by decide +kernel
theorem dX2_faultOf_21 : decode cX2_faultOf 21 = .ok (.iconst 0, 1) := by decide +kernel
theorem dX2_faultOf_22 : decode cX2_faultOf 22 = .ok (.invokevirtual 34, 3) := by decide +kernel
theorem dX2_faultOf_25 : decode cX2_faultOf 25 = .ok (.ifCond .eq 15, 3) := by decide +kernel
theorem dX2_faultOf_28 : decode cX2_faultOf 28 = .ok (.aload_n 0, 1) := by decide +kernel
theorem dX2_faultOf_29 : decode cX2_faultOf 29 = .ok (.getfield 28, 3) := by decide +kernel
theorem dX2_faultOf_32 : decode cX2_faultOf 32 = .ok (.iload_n 1, 1) := by decide +kernel
theorem dX2_faultOf_33 : decode cX2_faultOf 33 = .ok (.if_icmp .ne 7, 3) := by decide +kernel
theorem dX2_faultOf_36 : decode cX2_faultOf 36 = .ok (.iconst (-1), 1) := by decide +kernel
theorem dX2_faultOf_37 : decode cX2_faultOf 37 = .ok (.goto 7, 3) := by decide +kernel
theorem dX2_faultOf_40 : decode cX2_faultOf 40 = .ok (.aload_n 0, 1) := by decide +kernel
theorem dX2_faultOf_41 : decode cX2_faultOf 41 = .ok (.getfield 28, 3) := by decide +kernel
theorem dX2_faultOf_44 : decode cX2_faultOf 44 = .ok (.ireturn, 1) := by decide +kernel
theorem dX2_next_0 : decode cX2_next 0 = .ok (.aload_n 0, 1) := by decide +kernel
theorem dX2_next_1 : decode cX2_next 1 = .ok (.getfield 28, 3) := by decide +kernel
theorem dX2_next_4 : decode cX2_next 4 = .ok (.aload_n 0, 1) := by decide +kernel
theorem dX2_next_5 : decode cX2_next 5 = .ok (.getfield 24, 3) := by decide +kernel
theorem dX2_next_8 : decode cX2_next 8 = .ok (.if_icmp .ge 24, 3) := by decide +kernel
theorem dX2_next_11 : decode cX2_next 11 = .ok (.aload_n 0, 1) := by decide +kernel
theorem dX2_next_12 : decode cX2_next 12 = .ok (.getfield 28, 3) := by decide +kernel
theorem dX2_next_15 : decode cX2_next 15 = .ok (.bipush 60, 2) := by decide +kernel
theorem dX2_next_17 : decode cX2_next 17 = .ok (.if_icmp .ge 15, 3) := by decide +kernel
theorem dX2_next_20 : decode cX2_next 20 = .ok (.aload_n 0, 1) := by decide +kernel
theorem dX2_next_21 : decode cX2_next 21 = .ok (.getfield 21, 3) := by decide +kernel
theorem dX2_next_24 : decode cX2_next 24 = .ok (.aload_n 0, 1) := by decide +kernel
theorem dX2_next_25 : decode cX2_next 25 = .ok (.getfield 28, 3) := by decide +kernel
theorem dX2_next_28 : decode cX2_next 28 = .ok (.iaload, 1) := by decide +kernel
theorem dX2_next_29 : decode cX2_next 29 = .ok (.goto 4, 3) := by decide +kernel
theorem dX2_next_32 : decode cX2_next 32 = .ok (.iconst (-1), 1) := by decide +kernel
theorem dX2_next_33 : decode cX2_next 33 = .ok (.ireturn, 1) := by decide +kernel
theorem dX2_write_0 : decode cX2_write 0 = .ok (.aload_n 0, 1) := by decide +kernel
theorem dX2_write_1 : decode cX2_write 1 = .ok (.getfield 31, 3) := by decide +kernel
theorem dX2_write_4 : decode cX2_write 4 = .ok (.bipush 60, 2) := by decide +kernel
theorem dX2_write_6 : decode cX2_write 6 = .ok (.if_icmp .ge 23, 3) := by decide +kernel
theorem dX2_write_9 : decode cX2_write 9 = .ok (.aload_n 0, 1) := by decide +kernel
theorem dX2_write_10 : decode cX2_write 10 = .ok (.getfield 9, 3) := by decide +kernel
theorem dX2_write_13 : decode cX2_write 13 = .ok (.aload_n 0, 1) := by decide +kernel
theorem dX2_write_14 : decode cX2_write 14 = .ok (.getfield 31, 3) := by decide +kernel
theorem dX2_write_17 : decode cX2_write 17 = .ok (.iload_n 1, 1) := by decide +kernel
theorem dX2_write_18 : decode cX2_write 18 = .ok (.iastore, 1) := by decide +kernel
theorem dX2_write_19 : decode cX2_write 19 = .ok (.aload_n 0, 1) := by decide +kernel
theorem dX2_write_20 : decode cX2_write 20 = .ok (.dup, 1) := by decide +kernel
theorem dX2_write_21 : decode cX2_write 21 = .ok (.getfield 31, 3) := by decide +kernel
theorem dX2_write_24 : decode cX2_write 24 = .ok (.iconst 1, 1) := by decide +kernel
theorem dX2_write_25 : decode cX2_write 25 = .ok (.iadd, 1) := by decide +kernel
theorem dX2_write_26 : decode cX2_write 26 = .ok (.putfield 31, 3) := by decide +kernel
theorem dX2_write_29 : decode cX2_write 29 = .ok (.return_, 1) := by decide +kernel
theorem dX2_readOr_0 : decode cX2_readOr 0 = .ok (.aload_n 0, 1) := by decide +kernel
theorem dX2_readOr_1 : decode cX2_readOr 1 = .ok (.iload_n 1, 1) := by decide +kernel
theorem dX2_readOr_2 : decode cX2_readOr 2 = .ok (.invokevirtual 38, 3) := by decide +kernel
theorem dX2_readOr_5 : decode cX2_readOr 5 = .ok (.istore_n 2, 1) := by decide +kernel
theorem dX2_readOr_6 : decode cX2_readOr 6 = .ok (.iconst 0, 1) := by decide +kernel
theorem dX2_readOr_7 : decode cX2_readOr 7 = .ok (.istore_n 3, 1) := by decide +kernel
theorem dX2_readOr_8 : decode cX2_readOr 8 = .ok (.iload_n 3, 1) := by decide +kernel
theorem dX2_readOr_9 : decode cX2_readOr 9 = .ok (.bipush 60, 2) := by decide +kernel
theorem dX2_readOr_11 : decode cX2_readOr 11 = .ok (.if_icmp .ge 44, 3) := by decide +kernel
theorem dX2_readOr_14 : decode cX2_readOr 14 = .ok (.iload_n 2, 1) := by decide +kernel
theorem dX2_readOr_15 : decode cX2_readOr 15 = .ok (.ifCond .eq 40, 3) := by decide +kernel
theorem dX2_readOr_18 : decode cX2_readOr 18 = .ok (.aload_n 0, 1) := by decide +kernel
theorem dX2_readOr_19 : decode cX2_readOr 19 = .ok (.invokevirtual 41, 3) := by decide +kernel
theorem dX2_readOr_22 : decode cX2_readOr 22 = .ok (.bipush 124, 2) := by decide +kernel
theorem dX2_readOr_24 : decode cX2_readOr 24 = .ok (.if_icmp .ne 31, 3) := by decide +kernel
theorem dX2_readOr_27 : decode cX2_readOr 27 = .ok (.aload_n 0, 1) := by decide +kernel
theorem dX2_readOr_28 : decode cX2_readOr 28 = .ok (.dup, 1) := by decide +kernel
theorem dX2_readOr_29 : decode cX2_readOr 29 = .ok (.getfield 28, 3) := by decide +kernel
theorem dX2_readOr_32 : decode cX2_readOr 32 = .ok (.iconst 1, 1) := by decide +kernel
theorem dX2_readOr_33 : decode cX2_readOr 33 = .ok (.iadd, 1) := by decide +kernel
theorem dX2_readOr_34 : decode cX2_readOr 34 = .ok (.putfield 28, 3) := by decide +kernel
theorem dX2_readOr_37 : decode cX2_readOr 37 = .ok (.aload_n 0, 1) := by decide +kernel
theorem dX2_readOr_38 : decode cX2_readOr 38 = .ok (.iload_n 1, 1) := by decide +kernel
theorem dX2_readOr_39 : decode cX2_readOr 39 = .ok (.invokevirtual 38, 3) := by decide +kernel
theorem dX2_readOr_42 : decode cX2_readOr 42 = .ok (.istore_n 2, 1) := by decide +kernel
theorem dX2_readOr_43 : decode cX2_readOr 43 = .ok (.aload_n 0, 1) := by decide +kernel
theorem dX2_readOr_44 : decode cX2_readOr 44 = .ok (.bipush (-124), 2) := by decide +kernel
theorem dX2_readOr_46 : decode cX2_readOr 46 = .ok (.invokevirtual 45, 3) := by decide +kernel
theorem dX2_readOr_49 : decode cX2_readOr 49 = .ok (.iinc 3 1, 3) := by decide +kernel
theorem dX2_readOr_52 : decode cX2_readOr 52 = .ok (.goto (-44), 3) := by decide +kernel
theorem dX2_readOr_55 : decode cX2_readOr 55 = .ok (.iload_n 2, 1) := by decide +kernel
theorem dX2_readOr_56 : decode cX2_readOr 56 = .ok (.ireturn, 1) := by decide +kernel
theorem dX2_readAnd_0 : decode cX2_readAnd 0 = .ok (.aload_n 0, 1) := by decide +kernel
theorem dX2_readAnd_1 : decode cX2_readAnd 1 = .ok (.iload_n 1, 1) := by decide +kernel
theorem dX2_readAnd_2 : decode cX2_readAnd 2 = .ok (.invokevirtual 49, 3) := by decide +kernel
theorem dX2_readAnd_5 : decode cX2_readAnd 5 = .ok (.istore_n 2, 1) := by decide +kernel
theorem dX2_readAnd_6 : decode cX2_readAnd 6 = .ok (.iconst 0, 1) := by decide +kernel
theorem dX2_readAnd_7 : decode cX2_readAnd 7 = .ok (.istore_n 3, 1) := by decide +kernel
theorem dX2_readAnd_8 : decode cX2_readAnd 8 = .ok (.iload_n 3, 1) := by decide +kernel
theorem dX2_readAnd_9 : decode cX2_readAnd 9 = .ok (.bipush 60, 2) := by decide +kernel
theorem dX2_readAnd_11 : decode cX2_readAnd 11 = .ok (.if_icmp .ge 44, 3) := by decide +kernel
theorem dX2_readAnd_14 : decode cX2_readAnd 14 = .ok (.iload_n 2, 1) := by decide +kernel
theorem dX2_readAnd_15 : decode cX2_readAnd 15 = .ok (.ifCond .eq 40, 3) := by decide +kernel
theorem dX2_readAnd_18 : decode cX2_readAnd 18 = .ok (.aload_n 0, 1) := by decide +kernel
theorem dX2_readAnd_19 : decode cX2_readAnd 19 = .ok (.invokevirtual 41, 3) := by decide +kernel
theorem dX2_readAnd_22 : decode cX2_readAnd 22 = .ok (.bipush 38, 2) := by decide +kernel
theorem dX2_readAnd_24 : decode cX2_readAnd 24 = .ok (.if_icmp .ne 31, 3) := by decide +kernel
theorem dX2_readAnd_27 : decode cX2_readAnd 27 = .ok (.aload_n 0, 1) := by decide +kernel
theorem dX2_readAnd_28 : decode cX2_readAnd 28 = .ok (.dup, 1) := by decide +kernel
theorem dX2_readAnd_29 : decode cX2_readAnd 29 = .ok (.getfield 28, 3) := by decide +kernel
theorem dX2_readAnd_32 : decode cX2_readAnd 32 = .ok (.iconst 1, 1) := by decide +kernel
theorem dX2_readAnd_33 : decode cX2_readAnd 33 = .ok (.iadd, 1) := by decide +kernel
theorem dX2_readAnd_34 : decode cX2_readAnd 34 = .ok (.putfield 28, 3) := by decide +kernel
theorem dX2_readAnd_37 : decode cX2_readAnd 37 = .ok (.aload_n 0, 1) := by decide +kernel
theorem dX2_readAnd_38 : decode cX2_readAnd 38 = .ok (.iload_n 1, 1) := by decide +kernel
theorem dX2_readAnd_39 : decode cX2_readAnd 39 = .ok (.invokevirtual 49, 3) := by decide +kernel
theorem dX2_readAnd_42 : decode cX2_readAnd 42 = .ok (.istore_n 2, 1) := by decide +kernel
theorem dX2_readAnd_43 : decode cX2_readAnd 43 = .ok (.aload_n 0, 1) := by decide +kernel
theorem dX2_readAnd_44 : decode cX2_readAnd 44 = .ok (.bipush (-38), 2) := by decide +kernel
theorem dX2_readAnd_46 : decode cX2_readAnd 46 = .ok (.invokevirtual 45, 3) := by decide +kernel
theorem dX2_readAnd_49 : decode cX2_readAnd 49 = .ok (.iinc 3 1, 3) := by decide +kernel
theorem dX2_readAnd_52 : decode cX2_readAnd 52 = .ok (.goto (-44), 3) := by decide +kernel
theorem dX2_readAnd_55 : decode cX2_readAnd 55 = .ok (.iload_n 2, 1) := by decide +kernel
theorem dX2_readAnd_56 : decode cX2_readAnd 56 = .ok (.ireturn, 1) := by decide +kernel
theorem dX2_readCompared_0 : decode cX2_readCompared 0 = .ok (.aload_n 0, 1) := by decide +kernel
theorem dX2_readCompared_1 : decode cX2_readCompared 1 = .ok (.iload_n 1, 1) := by decide +kernel
theorem dX2_readCompared_2 : decode cX2_readCompared 2 = .ok (.invokevirtual 52, 3) := by decide +kernel
theorem dX2_readCompared_5 : decode cX2_readCompared 5 = .ok (.ifCond .ne 5, 3) := by decide +kernel
theorem dX2_readCompared_8 : decode cX2_readCompared 8 = .ok (.iconst 0, 1) := by decide +kernel
theorem dX2_readCompared_9 : decode cX2_readCompared 9 = .ok (.ireturn, 1) := by decide +kernel
theorem dX2_readCompared_10 : decode cX2_readCompared 10 = .ok (.aload_n 0, 1) := by decide +kernel
theorem dX2_readCompared_11 : decode cX2_readCompared 11 = .ok (.invokevirtual 41, 3) := by decide +kernel
theorem dX2_readCompared_14 : decode cX2_readCompared 14 = .ok (.istore_n 2, 1) := by decide +kernel
theorem dX2_readCompared_15 : decode cX2_readCompared 15 = .ok (.iload_n 2, 1) := by decide +kernel
theorem dX2_readCompared_16 : decode cX2_readCompared 16 = .ok (.bipush 60, 2) := by decide +kernel
theorem dX2_readCompared_18 : decode cX2_readCompared 18 = .ok (.if_icmp .eq 17, 3) := by decide +kernel
theorem dX2_readCompared_21 : decode cX2_readCompared 21 = .ok (.iload_n 2, 1) := by decide +kernel
theorem dX2_readCompared_22 : decode cX2_readCompared 22 = .ok (.bipush 61, 2) := by decide +kernel
theorem dX2_readCompared_24 : decode cX2_readCompared 24 = .ok (.if_icmp .eq 11, 3) := by decide +kernel
theorem dX2_readCompared_27 : decode cX2_readCompared 27 = .ok (.iload_n 2, 1) := by decide +kernel
theorem dX2_readCompared_28 : decode cX2_readCompared 28 = .ok (.bipush 62, 2) := by decide +kernel
theorem dX2_readCompared_30 : decode cX2_readCompared 30 = .ok (.if_icmp .eq 5, 3) := by decide +kernel
theorem dX2_readCompared_33 : decode cX2_readCompared 33 = .ok (.iconst 1, 1) := by decide +kernel
theorem dX2_readCompared_34 : decode cX2_readCompared 34 = .ok (.ireturn, 1) := by decide +kernel
theorem dX2_readCompared_35 : decode cX2_readCompared 35 = .ok (.aload_n 0, 1) := by decide +kernel
theorem dX2_readCompared_36 : decode cX2_readCompared 36 = .ok (.dup, 1) := by decide +kernel
theorem dX2_readCompared_37 : decode cX2_readCompared 37 = .ok (.getfield 28, 3) := by decide +kernel
theorem dX2_readCompared_40 : decode cX2_readCompared 40 = .ok (.iconst 1, 1) := by decide +kernel
theorem dX2_readCompared_41 : decode cX2_readCompared 41 = .ok (.iadd, 1) := by decide +kernel
theorem dX2_readCompared_42 : decode cX2_readCompared 42 = .ok (.putfield 28, 3) := by decide +kernel
theorem dX2_readCompared_45 : decode cX2_readCompared 45 = .ok (.aload_n 0, 1) := by decide +kernel
theorem dX2_readCompared_46 : decode cX2_readCompared 46 = .ok (.iload_n 1, 1) := by decide +kernel
theorem dX2_readCompared_47 : decode cX2_readCompared 47 = .ok (.invokevirtual 52, 3) := by decide +kernel
theorem dX2_readCompared_50 : decode cX2_readCompared 50 = .ok (.istore_n 3, 1) := by decide +kernel
theorem dX2_readCompared_51 : decode cX2_readCompared 51 = .ok (.aload_n 0, 1) := by decide +kernel
theorem dX2_readCompared_52 : decode cX2_readCompared 52 = .ok (.iload_n 2, 1) := by decide +kernel
theorem dX2_readCompared_53 : decode cX2_readCompared 53 = .ok (.ineg, 1) := by decide +kernel
theorem dX2_readCompared_54 : decode cX2_readCompared 54 = .ok (.invokevirtual 45, 3) := by decide +kernel
theorem dX2_readCompared_57 : decode cX2_readCompared 57 = .ok (.iload_n 3, 1) := by decide +kernel
theorem dX2_readCompared_58 : decode cX2_readCompared 58 = .ok (.ireturn, 1) := by decide +kernel
theorem dX2_readAdded_0 : decode cX2_readAdded 0 = .ok (.aload_n 0, 1) := by decide +kernel
theorem dX2_readAdded_1 : decode cX2_readAdded 1 = .ok (.iload_n 1, 1) := by decide +kernel
theorem dX2_readAdded_2 : decode cX2_readAdded 2 = .ok (.invokevirtual 55, 3) := by decide +kernel
theorem dX2_readAdded_5 : decode cX2_readAdded 5 = .ok (.istore_n 2, 1) := by decide +kernel
theorem dX2_readAdded_6 : decode cX2_readAdded 6 = .ok (.iconst 0, 1) := by decide +kernel
theorem dX2_readAdded_7 : decode cX2_readAdded 7 = .ok (.istore_n 3, 1) := by decide +kernel
theorem dX2_readAdded_8 : decode cX2_readAdded 8 = .ok (.iload_n 3, 1) := by decide +kernel
theorem dX2_readAdded_9 : decode cX2_readAdded 9 = .ok (.bipush 60, 2) := by decide +kernel
theorem dX2_readAdded_11 : decode cX2_readAdded 11 = .ok (.if_icmp .ge 60, 3) := by decide +kernel
theorem dX2_readAdded_14 : decode cX2_readAdded 14 = .ok (.iload_n 2, 1) := by decide +kernel
theorem dX2_readAdded_15 : decode cX2_readAdded 15 = .ok (.ifCond .eq 56, 3) := by decide +kernel
theorem dX2_readAdded_18 : decode cX2_readAdded 18 = .ok (.aload_n 0, 1) := by decide +kernel
theorem dX2_readAdded_19 : decode cX2_readAdded 19 = .ok (.invokevirtual 41, 3) := by decide +kernel
theorem dX2_readAdded_22 : decode cX2_readAdded 22 = .ok (.bipush 43, 2) := by decide +kernel
theorem dX2_readAdded_24 : decode cX2_readAdded 24 = .ok (.if_icmp .eq 12, 3) := by decide +kernel
theorem dX2_readAdded_27 : decode cX2_readAdded 27 = .ok (.aload_n 0, 1) := by decide +kernel
theorem dX2_readAdded_28 : decode cX2_readAdded 28 = .ok (.invokevirtual 41, 3) := by decide +kernel
theorem dX2_readAdded_31 : decode cX2_readAdded 31 = .ok (.bipush 45, 2) := by decide +kernel
theorem dX2_readAdded_33 : decode cX2_readAdded 33 = .ok (.if_icmp .ne 38, 3) := by decide +kernel
theorem dX2_readAdded_36 : decode cX2_readAdded 36 = .ok (.aload_n 0, 1) := by decide +kernel
theorem dX2_readAdded_37 : decode cX2_readAdded 37 = .ok (.invokevirtual 41, 3) := by decide +kernel
theorem dX2_readAdded_40 : decode cX2_readAdded 40 = .ok (.istore 4, 2) := by decide +kernel
theorem dX2_readAdded_42 : decode cX2_readAdded 42 = .ok (.aload_n 0, 1) := by decide +kernel
theorem dX2_readAdded_43 : decode cX2_readAdded 43 = .ok (.dup, 1) := by decide +kernel
theorem dX2_readAdded_44 : decode cX2_readAdded 44 = .ok (.getfield 28, 3) := by decide +kernel
theorem dX2_readAdded_47 : decode cX2_readAdded 47 = .ok (.iconst 1, 1) := by decide +kernel
theorem dX2_readAdded_48 : decode cX2_readAdded 48 = .ok (.iadd, 1) := by decide +kernel
theorem dX2_readAdded_49 : decode cX2_readAdded 49 = .ok (.putfield 28, 3) := by decide +kernel
theorem dX2_readAdded_52 : decode cX2_readAdded 52 = .ok (.aload_n 0, 1) := by decide +kernel
theorem dX2_readAdded_53 : decode cX2_readAdded 53 = .ok (.iload_n 1, 1) := by decide +kernel
theorem dX2_readAdded_54 : decode cX2_readAdded 54 = .ok (.invokevirtual 55, 3) := by decide +kernel
theorem dX2_readAdded_57 : decode cX2_readAdded 57 = .ok (.istore_n 2, 1) := by decide +kernel
theorem dX2_readAdded_58 : decode cX2_readAdded 58 = .ok (.aload_n 0, 1) := by decide +kernel
theorem dX2_readAdded_59 : decode cX2_readAdded 59 = .ok (.iload 4, 2) := by decide +kernel
theorem dX2_readAdded_61 : decode cX2_readAdded 61 = .ok (.ineg, 1) := by decide +kernel
theorem dX2_readAdded_62 : decode cX2_readAdded 62 = .ok (.invokevirtual 45, 3) := by decide +kernel
theorem dX2_readAdded_65 : decode cX2_readAdded 65 = .ok (.iinc 3 1, 3) := by decide +kernel
theorem dX2_readAdded_68 : decode cX2_readAdded 68 = .ok (.goto (-60), 3) := by decide +kernel
theorem dX2_readAdded_71 : decode cX2_readAdded 71 = .ok (.iload_n 2, 1) := by decide +kernel
theorem dX2_readAdded_72 : decode cX2_readAdded 72 = .ok (.ireturn, 1) := by decide +kernel
theorem dX2_readMultiplied_0 : decode cX2_readMultiplied 0 = .ok (.aload_n 0, 1) := by decide +kernel
theorem dX2_readMultiplied_1 : decode cX2_readMultiplied 1 = .ok (.iload_n 1, 1) := by decide +kernel
theorem dX2_readMultiplied_2 : decode cX2_readMultiplied 2 = .ok (.invokevirtual 58, 3) := by decide +kernel
theorem dX2_readMultiplied_5 : decode cX2_readMultiplied 5 = .ok (.istore_n 2, 1) := by decide +kernel
theorem dX2_readMultiplied_6 : decode cX2_readMultiplied 6 = .ok (.iconst 0, 1) := by decide +kernel
theorem dX2_readMultiplied_7 : decode cX2_readMultiplied 7 = .ok (.istore_n 3, 1) := by decide +kernel
theorem dX2_readMultiplied_8 : decode cX2_readMultiplied 8 = .ok (.iload_n 3, 1) := by decide +kernel
theorem dX2_readMultiplied_9 : decode cX2_readMultiplied 9 = .ok (.bipush 60, 2) := by decide +kernel
theorem dX2_readMultiplied_11 : decode cX2_readMultiplied 11 = .ok (.if_icmp .ge 52, 3) := by decide +kernel
theorem dX2_readMultiplied_14 : decode cX2_readMultiplied 14 = .ok (.iload_n 2, 1) := by decide +kernel
theorem dX2_readMultiplied_15 : decode cX2_readMultiplied 15 = .ok (.ifCond .eq 48, 3) := by decide +kernel
theorem dX2_readMultiplied_18 : decode cX2_readMultiplied 18 = .ok (.aload_n 0, 1) := by decide +kernel
theorem dX2_readMultiplied_19 : decode cX2_readMultiplied 19 = .ok (.invokevirtual 41, 3) := by decide +kernel
theorem dX2_readMultiplied_22 : decode cX2_readMultiplied 22 = .ok (.invokestatic 61, 3) := by decide +kernel
theorem dX2_readMultiplied_25 : decode cX2_readMultiplied 25 = .ok (.ifCond .eq 38, 3) := by decide +kernel
theorem dX2_readMultiplied_28 : decode cX2_readMultiplied 28 = .ok (.aload_n 0, 1) := by decide +kernel
theorem dX2_readMultiplied_29 : decode cX2_readMultiplied 29 = .ok (.invokevirtual 41, 3) := by decide +kernel
theorem dX2_readMultiplied_32 : decode cX2_readMultiplied 32 = .ok (.istore 4, 2) := by decide +kernel
theorem dX2_readMultiplied_34 : decode cX2_readMultiplied 34 = .ok (.aload_n 0, 1) := by decide +kernel
theorem dX2_readMultiplied_35 : decode cX2_readMultiplied 35 = .ok (.dup, 1) := by decide +kernel
theorem dX2_readMultiplied_36 : decode cX2_readMultiplied 36 = .ok (.getfield 28, 3) := by decide +kernel
theorem dX2_readMultiplied_39 : decode cX2_readMultiplied 39 = .ok (.iconst 1, 1) := by decide +kernel
theorem dX2_readMultiplied_40 : decode cX2_readMultiplied 40 = .ok (.iadd, 1) := by decide +kernel
theorem dX2_readMultiplied_41 : decode cX2_readMultiplied 41 = .ok (.putfield 28, 3) := by decide +kernel
theorem dX2_readMultiplied_44 : decode cX2_readMultiplied 44 = .ok (.aload_n 0, 1) := by decide +kernel
theorem dX2_readMultiplied_45 : decode cX2_readMultiplied 45 = .ok (.iload_n 1, 1) := by decide +kernel
theorem dX2_readMultiplied_46 : decode cX2_readMultiplied 46 = .ok (.invokevirtual 58, 3) := by decide +kernel
theorem dX2_readMultiplied_49 : decode cX2_readMultiplied 49 = .ok (.istore_n 2, 1) := by decide +kernel
theorem dX2_readMultiplied_50 : decode cX2_readMultiplied 50 = .ok (.aload_n 0, 1) := by decide +kernel
theorem dX2_readMultiplied_51 : decode cX2_readMultiplied 51 = .ok (.iload 4, 2) := by decide +kernel
theorem dX2_readMultiplied_53 : decode cX2_readMultiplied 53 = .ok (.ineg, 1) := by decide +kernel
theorem dX2_readMultiplied_54 : decode cX2_readMultiplied 54 = .ok (.invokevirtual 45, 3) := by decide +kernel
theorem dX2_readMultiplied_57 : decode cX2_readMultiplied 57 = .ok (.iinc 3 1, 3) := by decide +kernel
theorem dX2_readMultiplied_60 : decode cX2_readMultiplied 60 = .ok (.goto (-52), 3) := by decide +kernel
theorem dX2_readMultiplied_63 : decode cX2_readMultiplied 63 = .ok (.iload_n 2, 1) := by decide +kernel
theorem dX2_readMultiplied_64 : decode cX2_readMultiplied 64 = .ok (.ireturn, 1) := by decide +kernel
theorem dX2_isProductSign_0 : decode cX2_isProductSign 0 = .ok (.iload_n 0, 1) := by decide +kernel
theorem dX2_isProductSign_1 : decode cX2_isProductSign 1 = .ok (.bipush 42, 2) := by decide +kernel
theorem dX2_isProductSign_3 : decode cX2_isProductSign 3 = .ok (.if_icmp .eq 15, 3) := by decide +kernel
theorem dX2_isProductSign_6 : decode cX2_isProductSign 6 = .ok (.iload_n 0, 1) := by decide +kernel
theorem dX2_isProductSign_7 : decode cX2_isProductSign 7 = .ok (.bipush 47, 2) := by decide +kernel
theorem dX2_isProductSign_9 : decode cX2_isProductSign 9 = .ok (.if_icmp .eq 9, 3) := by decide +kernel
theorem dX2_isProductSign_12 : decode cX2_isProductSign 12 = .ok (.iload_n 0, 1) := by decide +kernel
theorem dX2_isProductSign_13 : decode cX2_isProductSign 13 = .ok (.bipush 37, 2) := by decide +kernel
theorem dX2_isProductSign_15 : decode cX2_isProductSign 15 = .ok (.if_icmp .ne 7, 3) := by decide +kernel
theorem dX2_isProductSign_18 : decode cX2_isProductSign 18 = .ok (.iconst 1, 1) := by decide +kernel
theorem dX2_isProductSign_19 : decode cX2_isProductSign 19 = .ok (.goto 4, 3) := by decide +kernel
theorem dX2_isProductSign_22 : decode cX2_isProductSign 22 = .ok (.iconst 0, 1) := by decide +kernel
theorem dX2_isProductSign_23 : decode cX2_isProductSign 23 = .ok (.ireturn, 1) := by decide +kernel
theorem dX2_readPart_0 : decode cX2_readPart 0 = .ok (.aload_n 0, 1) := by decide +kernel
theorem dX2_readPart_1 : decode cX2_readPart 1 = .ok (.invokevirtual 41, 3) := by decide +kernel
theorem dX2_readPart_4 : decode cX2_readPart 4 = .ok (.istore_n 2, 1) := by decide +kernel
theorem dX2_readPart_5 : decode cX2_readPart 5 = .ok (.iload_n 2, 1) := by decide +kernel
theorem dX2_readPart_6 : decode cX2_readPart 6 = .ok (.bipush 48, 2) := by decide +kernel
theorem dX2_readPart_8 : decode cX2_readPart 8 = .ok (.bipush 57, 2) := by decide +kernel
theorem dX2_readPart_10 : decode cX2_readPart 10 = .ok (.invokestatic 64, 3) := by decide +kernel
theorem dX2_readPart_13 : decode cX2_readPart 13 = .ok (.ifCond .eq 8, 3) := by decide +kernel
theorem dX2_readPart_16 : decode cX2_readPart 16 = .ok (.aload_n 0, 1) := by decide +kernel
theorem dX2_readPart_17 : decode cX2_readPart 17 = .ok (.invokevirtual 68, 3) := by decide +kernel
theorem dX2_readPart_20 : decode cX2_readPart 20 = .ok (.ireturn, 1) := by decide +kernel
theorem dX2_readPart_21 : decode cX2_readPart 21 = .ok (.iload_n 2, 1) := by decide +kernel
theorem dX2_readPart_22 : decode cX2_readPart 22 = .ok (.bipush 33, 2) := by decide +kernel
theorem dX2_readPart_24 : decode cX2_readPart 24 = .ok (.if_icmp .eq 9, 3) := by decide +kernel
theorem dX2_readPart_27 : decode cX2_readPart 27 = .ok (.iload_n 2, 1) := by decide +kernel
theorem dX2_readPart_28 : decode cX2_readPart 28 = .ok (.bipush 40, 2) := by decide +kernel
theorem dX2_readPart_30 : decode cX2_readPart 30 = .ok (.if_icmp .ne 25, 3) := by decide +kernel
theorem dX2_readPart_33 : decode cX2_readPart 33 = .ok (.iload_n 1, 1) := by decide +kernel
theorem dX2_readPart_34 : decode cX2_readPart 34 = .ok (.iconst 5, 1) := by decide +kernel
theorem dX2_readPart_35 : decode cX2_readPart 35 = .ok (.if_icmp .ge 18, 3) := by decide +kernel
theorem dX2_readPart_38 : decode cX2_readPart 38 = .ok (.aload_n 0, 1) := by decide +kernel
theorem dX2_readPart_39 : decode cX2_readPart 39 = .ok (.iload_n 2, 1) := by decide +kernel
theorem dX2_readPart_40 : decode cX2_readPart 40 = .ok (.iload_n 1, 1) := by decide +kernel
theorem dX2_readPart_41 : decode cX2_readPart 41 = .ok (.iconst 1, 1) := by decide +kernel
theorem dX2_readPart_42 : decode cX2_readPart 42 = .ok (.iadd, 1) := by decide +kernel
theorem dX2_readPart_43 : decode cX2_readPart 43 = .ok (.invokevirtual 72, 3) := by decide +kernel
theorem dX2_readPart_46 : decode cX2_readPart 46 = .ok (.ifCond .eq 7, 3) := by decide +kernel
theorem dX2_readPart_49 : decode cX2_readPart 49 = .ok (.iconst 1, 1) := by decide +kernel
theorem dX2_readPart_50 : decode cX2_readPart 50 = .ok (.goto 4, 3) := by decide +kernel
theorem dX2_readPart_53 : decode cX2_readPart 53 = .ok (.iconst 0, 1) := by decide +kernel
theorem dX2_readPart_54 : decode cX2_readPart 54 = .ok (.ireturn, 1) := by decide +kernel
theorem dX2_readPart_55 : decode cX2_readPart 55 = .ok (.iload_n 2, 1) := by decide +kernel
theorem dX2_readPart_56 : decode cX2_readPart 56 = .ok (.ifCond .ge 7, 3) := by decide +kernel
theorem dX2_readPart_59 : decode cX2_readPart 59 = .ok (.iconst (-1), 1) := by decide +kernel
theorem dX2_readPart_60 : decode cX2_readPart 60 = .ok (.goto 12, 3) := by decide +kernel
theorem dX2_readPart_63 : decode cX2_readPart 63 = .ok (.aload_n 0, 1) := by decide +kernel
theorem dX2_readPart_64 : decode cX2_readPart 64 = .ok (.getfield 17, 3) := by decide +kernel
theorem dX2_readPart_67 : decode cX2_readPart 67 = .ok (.iload_n 2, 1) := by decide +kernel
theorem dX2_readPart_68 : decode cX2_readPart 68 = .ok (.i2c, 1) := by decide +kernel
theorem dX2_readPart_69 : decode cX2_readPart 69 = .ok (.invokevirtual 76, 3) := by decide +kernel
theorem dX2_readPart_72 : decode cX2_readPart 72 = .ok (.istore_n 3, 1) := by decide +kernel
theorem dX2_readPart_73 : decode cX2_readPart 73 = .ok (.iload_n 3, 1) := by decide +kernel
theorem dX2_readPart_74 : decode cX2_readPart 74 = .ok (.ifCond .ge 5, 3) := by decide +kernel
theorem dX2_readPart_77 : decode cX2_readPart 77 = .ok (.iconst 0, 1) := by decide +kernel
theorem dX2_readPart_78 : decode cX2_readPart 78 = .ok (.ireturn, 1) := by decide +kernel
theorem dX2_readPart_79 : decode cX2_readPart 79 = .ok (.aload_n 0, 1) := by decide +kernel
theorem dX2_readPart_80 : decode cX2_readPart 80 = .ok (.dup, 1) := by decide +kernel
theorem dX2_readPart_81 : decode cX2_readPart 81 = .ok (.getfield 28, 3) := by decide +kernel
theorem dX2_readPart_84 : decode cX2_readPart 84 = .ok (.iconst 1, 1) := by decide +kernel
theorem dX2_readPart_85 : decode cX2_readPart 85 = .ok (.iadd, 1) := by decide +kernel
theorem dX2_readPart_86 : decode cX2_readPart 86 = .ok (.putfield 28, 3) := by decide +kernel
theorem dX2_readPart_89 : decode cX2_readPart 89 = .ok (.aload_n 0, 1) := by decide +kernel
theorem dX2_readPart_90 : decode cX2_readPart 90 = .ok (.iconst (-1), 1) := by decide +kernel
theorem dX2_readPart_91 : decode cX2_readPart 91 = .ok (.iload_n 3, 1) := by decide +kernel
theorem dX2_readPart_92 : decode cX2_readPart 92 = .ok (.isub, 1) := by decide +kernel
theorem dX2_readPart_93 : decode cX2_readPart 93 = .ok (.invokevirtual 45, 3) := by decide +kernel
theorem dX2_readPart_96 : decode cX2_readPart 96 = .ok (.iconst 1, 1) := by decide +kernel
theorem dX2_readPart_97 : decode cX2_readPart 97 = .ok (.ireturn, 1) := by decide +kernel
theorem dX2_readNumber_0 : decode cX2_readNumber 0 = .ok (.iconst 0, 1) := by decide +kernel
theorem dX2_readNumber_1 : decode cX2_readNumber 1 = .ok (.istore_n 1, 1) := by decide +kernel
theorem dX2_readNumber_2 : decode cX2_readNumber 2 = .ok (.iconst 0, 1) := by decide +kernel
theorem dX2_readNumber_3 : decode cX2_readNumber 3 = .ok (.istore_n 2, 1) := by decide +kernel
theorem dX2_readNumber_4 : decode cX2_readNumber 4 = .ok (.iload_n 2, 1) := by decide +kernel
theorem dX2_readNumber_5 : decode cX2_readNumber 5 = .ok (.iconst 4, 1) := by decide +kernel
theorem dX2_readNumber_6 : decode cX2_readNumber 6 = .ok (.if_icmp .ge 46, 3) := by decide +kernel
theorem dX2_readNumber_9 : decode cX2_readNumber 9 = .ok (.aload_n 0, 1) := by decide +kernel
theorem dX2_readNumber_10 : decode cX2_readNumber 10 = .ok (.invokevirtual 41, 3) := by decide +kernel
theorem dX2_readNumber_13 : decode cX2_readNumber 13 = .ok (.bipush 48, 2) := by decide +kernel
theorem dX2_readNumber_15 : decode cX2_readNumber 15 = .ok (.bipush 57, 2) := by decide +kernel
theorem dX2_readNumber_17 : decode cX2_readNumber 17 = .ok (.invokestatic 64, 3) := by decide +kernel
theorem dX2_readNumber_20 : decode cX2_readNumber 20 = .ok (.ifCond .eq 32, 3) := by decide +kernel
theorem dX2_readNumber_23 : decode cX2_readNumber 23 = .ok (.bipush 10, 2) := by decide +kernel
theorem dX2_readNumber_25 : decode cX2_readNumber 25 = .ok (.iload_n 1, 1) := by decide +kernel
theorem dX2_readNumber_26 : decode cX2_readNumber 26 = .ok (.imul, 1) := by decide +kernel
theorem dX2_readNumber_27 : decode cX2_readNumber 27 = .ok (.aload_n 0, 1) := by decide +kernel
theorem dX2_readNumber_28 : decode cX2_readNumber 28 = .ok (.invokevirtual 41, 3) := by decide +kernel
theorem dX2_readNumber_31 : decode cX2_readNumber 31 = .ok (.iadd, 1) := by decide +kernel
theorem dX2_readNumber_32 : decode cX2_readNumber 32 = .ok (.bipush 48, 2) := by decide +kernel
theorem dX2_readNumber_34 : decode cX2_readNumber 34 = .ok (.isub, 1) := by decide +kernel
theorem dX2_readNumber_35 : decode cX2_readNumber 35 = .ok (.istore_n 1, 1) := by decide +kernel
theorem dX2_readNumber_36 : decode cX2_readNumber 36 = .ok (.aload_n 0, 1) := by decide +kernel
theorem dX2_readNumber_37 : decode cX2_readNumber 37 = .ok (.dup, 1) := by decide +kernel
theorem dX2_readNumber_38 : decode cX2_readNumber 38 = .ok (.getfield 28, 3) := by decide +kernel
theorem dX2_readNumber_41 : decode cX2_readNumber 41 = .ok (.iconst 1, 1) := by decide +kernel
theorem dX2_readNumber_42 : decode cX2_readNumber 42 = .ok (.iadd, 1) := by decide +kernel
theorem dX2_readNumber_43 : decode cX2_readNumber 43 = .ok (.putfield 28, 3) := by decide +kernel
theorem dX2_readNumber_46 : decode cX2_readNumber 46 = .ok (.iinc 2 1, 3) := by decide +kernel
theorem dX2_readNumber_49 : decode cX2_readNumber 49 = .ok (.goto (-45), 3) := by decide +kernel
theorem dX2_readNumber_52 : decode cX2_readNumber 52 = .ok (.aload_n 0, 1) := by decide +kernel
theorem dX2_readNumber_53 : decode cX2_readNumber 53 = .ok (.iload_n 1, 1) := by decide +kernel
theorem dX2_readNumber_54 : decode cX2_readNumber 54 = .ok (.invokevirtual 45, 3) := by decide +kernel
theorem dX2_readNumber_57 : decode cX2_readNumber 57 = .ok (.iconst 1, 1) := by decide +kernel
theorem dX2_readNumber_58 : decode cX2_readNumber 58 = .ok (.ireturn, 1) := by decide +kernel
theorem dX2_readOpened_0 : decode cX2_readOpened 0 = .ok (.aload_n 0, 1) := by decide +kernel
theorem dX2_readOpened_1 : decode cX2_readOpened 1 = .ok (.dup, 1) := by decide +kernel
theorem dX2_readOpened_2 : decode cX2_readOpened 2 = .ok (.getfield 28, 3) := by decide +kernel
theorem dX2_readOpened_5 : decode cX2_readOpened 5 = .ok (.iconst 1, 1) := by decide +kernel
theorem dX2_readOpened_6 : decode cX2_readOpened 6 = .ok (.iadd, 1) := by decide +kernel
theorem dX2_readOpened_7 : decode cX2_readOpened 7 = .ok (.putfield 28, 3) := by decide +kernel
theorem dX2_readOpened_10 : decode cX2_readOpened 10 = .ok (.iload_n 1, 1) := by decide +kernel
theorem dX2_readOpened_11 : decode cX2_readOpened 11 = .ok (.bipush 33, 2) := by decide +kernel
theorem dX2_readOpened_13 : decode cX2_readOpened 13 = .ok (.if_icmp .ne 17, 3) := by decide +kernel
theorem dX2_readOpened_16 : decode cX2_readOpened 16 = .ok (.aload_n 0, 1) := by decide +kernel
theorem dX2_readOpened_17 : decode cX2_readOpened 17 = .ok (.iload_n 2, 1) := by decide +kernel
theorem dX2_readOpened_18 : decode cX2_readOpened 18 = .ok (.invokevirtual 58, 3) := by decide +kernel
theorem dX2_readOpened_21 : decode cX2_readOpened 21 = .ok (.istore_n 3, 1) := by decide +kernel
theorem dX2_readOpened_22 : decode cX2_readOpened 22 = .ok (.aload_n 0, 1) := by decide +kernel
theorem dX2_readOpened_23 : decode cX2_readOpened 23 = .ok (.bipush (-33), 2) := by decide +kernel
theorem dX2_readOpened_25 : decode cX2_readOpened 25 = .ok (.invokevirtual 45, 3) := by decide +kernel
theorem dX2_readOpened_28 : decode cX2_readOpened 28 = .ok (.iload_n 3, 1) := by decide +kernel
theorem dX2_readOpened_29 : decode cX2_readOpened 29 = .ok (.ireturn, 1) := by decide +kernel
theorem dX2_readOpened_30 : decode cX2_readOpened 30 = .ok (.aload_n 0, 1) := by decide +kernel
theorem dX2_readOpened_31 : decode cX2_readOpened 31 = .ok (.iload_n 2, 1) := by decide +kernel
theorem dX2_readOpened_32 : decode cX2_readOpened 32 = .ok (.invokevirtual 34, 3) := by decide +kernel
theorem dX2_readOpened_35 : decode cX2_readOpened 35 = .ok (.ifCond .eq 12, 3) := by decide +kernel
theorem dX2_readOpened_38 : decode cX2_readOpened 38 = .ok (.aload_n 0, 1) := by decide +kernel
theorem dX2_readOpened_39 : decode cX2_readOpened 39 = .ok (.invokevirtual 41, 3) := by decide +kernel
theorem dX2_readOpened_42 : decode cX2_readOpened 42 = .ok (.bipush 41, 2) := by decide +kernel
theorem dX2_readOpened_44 : decode cX2_readOpened 44 = .ok (.if_icmp .eq 5, 3) := by decide +kernel
theorem dX2_readOpened_47 : decode cX2_readOpened 47 = .ok (.iconst 0, 1) := by decide +kernel
theorem dX2_readOpened_48 : decode cX2_readOpened 48 = .ok (.ireturn, 1) := by decide +kernel
theorem dX2_readOpened_49 : decode cX2_readOpened 49 = .ok (.aload_n 0, 1) := by decide +kernel
theorem dX2_readOpened_50 : decode cX2_readOpened 50 = .ok (.dup, 1) := by decide +kernel
theorem dX2_readOpened_51 : decode cX2_readOpened 51 = .ok (.getfield 28, 3) := by decide +kernel
theorem dX2_readOpened_54 : decode cX2_readOpened 54 = .ok (.iconst 1, 1) := by decide +kernel
theorem dX2_readOpened_55 : decode cX2_readOpened 55 = .ok (.iadd, 1) := by decide +kernel
theorem dX2_readOpened_56 : decode cX2_readOpened 56 = .ok (.putfield 28, 3) := by decide +kernel
theorem dX2_readOpened_59 : decode cX2_readOpened 59 = .ok (.iconst 1, 1) := by decide +kernel
theorem dX2_readOpened_60 : decode cX2_readOpened 60 = .ok (.ireturn, 1) := by decide +kernel
theorem dX3_init_0 : decode cX3_init 0 = .ok (.aload_n 0, 1) := by decide +kernel
theorem dX3_init_1 : decode cX3_init 1 = .ok (.invokespecial 3, 3) := by decide +kernel
theorem dX3_init_4 : decode cX3_init 4 = .ok (.aload_n 0, 1) := by decide +kernel
theorem dX3_init_5 : decode cX3_init 5 = .ok (.iconst 4, 1) := by decide +kernel
theorem dX3_init_6 : decode cX3_init 6 = .ok (.bipush 24, 2) := by decide +kernel
theorem dX3_init_8 : decode cX3_init 8 = .ok (.multianewarray 9 2, 4) := by decide +kernel
theorem dX3_init_12 : decode cX3_init 12 = .ok (.putfield 11, 3) := by decide +kernel
theorem dX3_init_15 : decode cX3_init 15 = .ok (.aload_n 0, 1) := by decide +kernel
theorem dX3_init_16 : decode cX3_init 16 = .ok (.iconst 4, 1) := by decide +kernel
theorem dX3_init_17 : decode cX3_init 17 = .ok (.newarray .int, 2) := by decide +kernel
theorem dX3_init_19 : decode cX3_init 19 = .ok (.putfield 16, 3) := by decide +kernel
theorem dX3_init_22 : decode cX3_init 22 = .ok (.aload_n 0, 1) := by decide +kernel
theorem dX3_init_23 : decode cX3_init 23 = .ok (.iconst 4, 1) := by decide +kernel
theorem dX3_init_24 : decode cX3_init 24 = .ok (.newarray .int, 2) := by decide +kernel
theorem dX3_init_26 : decode cX3_init 26 = .ok (.putfield 20, 3) := by decide +kernel
theorem dX3_init_29 : decode cX3_init 29 = .ok (.return_, 1) := by decide +kernel
theorem dX3_isMissing_0 : decode cX3_isMissing 0 = .ok (.aload_n 0, 1) := by decide +kernel
theorem dX3_isMissing_1 : decode cX3_isMissing 1 = .ok (.getfield 16, 3) := by decide +kernel
theorem dX3_isMissing_4 : decode cX3_isMissing 4 = .ok (.iload_n 1, 1) := by decide +kernel
theorem dX3_isMissing_5 : decode cX3_isMissing 5 = .ok (.iaload, 1) := by decide +kernel
theorem dX3_isMissing_6 : decode cX3_isMissing 6 = .ok (.ifCond .ne 7, 3) := by decide +kernel
theorem dX3_isMissing_9 : decode cX3_isMissing 9 = .ok (.iconst 1, 1) := by decide +kernel
theorem dX3_isMissing_10 : decode cX3_isMissing 10 = .ok (.goto 4, 3) := by decide +kernel
theorem dX3_isMissing_13 : decode cX3_isMissing 13 = .ok (.iconst 0, 1) := by decide +kernel
theorem dX3_isMissing_14 : decode cX3_isMissing 14 = .ok (.ireturn, 1) := by decide +kernel
theorem dX3_lay_0 : decode cX3_lay 0 = .ok (.aload_n 0, 1) := by decide +kernel
theorem dX3_lay_1 : decode cX3_lay 1 = .ok (.getfield 16, 3) := by decide +kernel
theorem dX3_lay_4 : decode cX3_lay 4 = .ok (.iload_n 1, 1) := by decide +kernel
theorem dX3_lay_5 : decode cX3_lay 5 = .ok (.iload_n 2, 1) := by decide +kernel
theorem dX3_lay_6 : decode cX3_lay 6 = .ok (.iastore, 1) := by decide +kernel
theorem dX3_lay_7 : decode cX3_lay 7 = .ok (.aload_n 0, 1) := by decide +kernel
theorem dX3_lay_8 : decode cX3_lay 8 = .ok (.getfield 20, 3) := by decide +kernel
theorem dX3_lay_11 : decode cX3_lay 11 = .ok (.iload_n 1, 1) := by decide +kernel
theorem dX3_lay_12 : decode cX3_lay 12 = .ok (.iload_n 3, 1) := by decide +kernel
theorem dX3_lay_13 : decode cX3_lay 13 = .ok (.iastore, 1) := by decide +kernel
theorem dX3_lay_14 : decode cX3_lay 14 = .ok (.iconst 0, 1) := by decide +kernel
theorem dX3_lay_15 : decode cX3_lay 15 = .ok (.istore 4, 2) := by decide +kernel
theorem dX3_lay_17 : decode cX3_lay 17 = .ok (.iload 4, 2) := by decide +kernel
theorem dX3_lay_19 : decode cX3_lay 19 = .ok (.bipush 24, 2) := by decide +kernel
theorem dX3_lay_21 : decode cX3_lay 21 = .ok (.if_icmp .ge 19, 3) := by decide +kernel
theorem dX3_lay_24 : decode cX3_lay 24 = .ok (.aload_n 0, 1) := by decide +kernel
theorem dX3_lay_25 : decode cX3_lay 25 = .ok (.getfield 11, 3) := by decide +kernel
theorem dX3_lay_28 : decode cX3_lay 28 = .ok (.iload_n 1, 1) := by decide +kernel
theorem dX3_lay_29 : decode cX3_lay 29 = .ok (.aaload, 1) := by decide +kernel
theorem dX3_lay_30 : decode cX3_lay 30 = .ok (.iload 4, 2) := by decide +kernel
theorem dX3_lay_32 : decode cX3_lay 32 = .ok (.iconst 0, 1) := by decide +kernel
theorem dX3_lay_33 : decode cX3_lay 33 = .ok (.iastore, 1) := by decide +kernel
theorem dX3_lay_34 : decode cX3_lay 34 = .ok (.iinc 4 1, 3) := by decide +kernel
theorem dX3_lay_37 : decode cX3_lay 37 = .ok (.goto (-20), 3) := by decide +kernel
theorem dX3_lay_40 : decode cX3_lay 40 = .ok (.return_, 1) := by decide +kernel
theorem dX3_write_0 : decode cX3_write 0 = .ok (.aload_n 0, 1) := by decide +kernel
theorem dX3_write_1 : decode cX3_write 1 = .ok (.getfield 11, 3) := by decide +kernel
theorem dX3_write_4 : decode cX3_write 4 = .ok (.iload_n 1, 1) := by decide +kernel
theorem dX3_write_5 : decode cX3_write 5 = .ok (.aaload, 1) := by decide +kernel
theorem dX3_write_6 : decode cX3_write 6 = .ok (.iload_n 2, 1) := by decide +kernel
theorem dX3_write_7 : decode cX3_write 7 = .ok (.aload_n 0, 1) := by decide +kernel
theorem dX3_write_8 : decode cX3_write 8 = .ok (.getfield 16, 3) := by decide +kernel
theorem dX3_write_11 : decode cX3_write 11 = .ok (.iload_n 1, 1) := by decide +kernel
theorem dX3_write_12 : decode cX3_write 12 = .ok (.iaload, 1) := by decide +kernel
theorem dX3_write_13 : decode cX3_write 13 = .ok (.bipush 8, 2) := by decide +kernel
theorem dX3_write_15 : decode cX3_write 15 = .ok (.if_icmp .ne 8, 3) := by decide +kernel
theorem dX3_write_18 : decode cX3_write 18 = .ok (.iload_n 3, 1) := by decide +kernel
theorem dX3_write_19 : decode cX3_write 19 = .ok (.i2b, 1) := by decide +kernel
theorem dX3_write_20 : decode cX3_write 20 = .ok (.goto 20, 3) := by decide +kernel
theorem dX3_write_23 : decode cX3_write 23 = .ok (.aload_n 0, 1) := by decide +kernel
theorem dX3_write_24 : decode cX3_write 24 = .ok (.getfield 16, 3) := by decide +kernel
theorem dX3_write_27 : decode cX3_write 27 = .ok (.iload_n 1, 1) := by decide +kernel
theorem dX3_write_28 : decode cX3_write 28 = .ok (.iaload, 1) := by decide +kernel
theorem dX3_write_29 : decode cX3_write 29 = .ok (.bipush 16, 2) := by decide +kernel
theorem dX3_write_31 : decode cX3_write 31 = .ok (.if_icmp .ne 8, 3) := by decide +kernel
theorem dX3_write_34 : decode cX3_write 34 = .ok (.iload_n 3, 1) := by decide +kernel
theorem dX3_write_35 : decode cX3_write 35 = .ok (.i2s, 1) := by decide +kernel
theorem dX3_write_36 : decode cX3_write 36 = .ok (.goto 4, 3) := by decide +kernel
theorem dX3_write_39 : decode cX3_write 39 = .ok (.iload_n 3, 1) := by decide +kernel
theorem dX3_write_40 : decode cX3_write 40 = .ok (.iastore, 1) := by decide +kernel
theorem dX3_write_41 : decode cX3_write 41 = .ok (.return_, 1) := by decide +kernel
theorem dX3_stand_0 : decode cX3_stand 0 = .ok (.iload_n 2, 1) := by decide +kernel
theorem dX3_stand_1 : decode cX3_stand 1 = .ok (.ifCond .lt 33, 3) := by decide +kernel
theorem dX3_stand_4 : decode cX3_stand 4 = .ok (.iload_n 2, 1) := by decide +kernel
theorem dX3_stand_5 : decode cX3_stand 5 = .ok (.aload_n 0, 1) := by decide +kernel
theorem dX3_stand_6 : decode cX3_stand 6 = .ok (.getfield 20, 3) := by decide +kernel
theorem dX3_stand_9 : decode cX3_stand 9 = .ok (.iload_n 1, 1) := by decide +kernel
theorem dX3_stand_10 : decode cX3_stand 10 = .ok (.iaload, 1) := by decide +kernel
theorem dX3_stand_11 : decode cX3_stand 11 = .ok (.if_icmp .gt 23, 3) := by decide +kernel
theorem dX3_stand_14 : decode cX3_stand 14 = .ok (.iload_n 3, 1) := by decide +kernel
theorem dX3_stand_15 : decode cX3_stand 15 = .ok (.ifCond .lt 19, 3) := by decide +kernel
theorem dX3_stand_18 : decode cX3_stand 18 = .ok (.iload_n 3, 1) := by decide +kernel
theorem dX3_stand_19 : decode cX3_stand 19 = .ok (.aload_n 0, 1) := by decide +kernel
theorem dX3_stand_20 : decode cX3_stand 20 = .ok (.getfield 20, 3) := by decide +kernel
theorem dX3_stand_23 : decode cX3_stand 23 = .ok (.iload_n 1, 1) := by decide +kernel
theorem dX3_stand_24 : decode cX3_stand 24 = .ok (.iaload, 1) := by decide +kernel
theorem dX3_stand_25 : decode cX3_stand 25 = .ok (.iload_n 2, 1) := by decide +kernel
theorem dX3_stand_26 : decode cX3_stand 26 = .ok (.isub, 1) := by decide +kernel
theorem dX3_stand_27 : decode cX3_stand 27 = .ok (.if_icmp .gt 7, 3) := by decide +kernel
theorem dX3_stand_30 : decode cX3_stand 30 = .ok (.iconst 1, 1) := by decide +kernel
theorem dX3_stand_31 : decode cX3_stand 31 = .ok (.goto 4, 3) := by decide +kernel
theorem dX3_stand_34 : decode cX3_stand 34 = .ok (.iconst 0, 1) := by decide +kernel
theorem dX3_stand_35 : decode cX3_stand 35 = .ok (.ireturn, 1) := by decide +kernel
theorem dX4_init_0 : decode cX4_init 0 = .ok (.aload_n 0, 1) := by decide +kernel
theorem dX4_init_1 : decode cX4_init 1 = .ok (.invokespecial 3, 3) := by decide +kernel
theorem dX4_init_4 : decode cX4_init 4 = .ok (.aload_n 0, 1) := by decide +kernel
theorem dX4_init_5 : decode cX4_init 5 = .ok (.bipush 60, 2) := by decide +kernel
theorem dX4_init_7 : decode cX4_init 7 = .ok (.newarray .int, 2) := by decide +kernel
theorem dX4_init_9 : decode cX4_init 9 = .ok (.putfield 9, 3) := by decide +kernel
theorem dX4_init_12 : decode cX4_init 12 = .ok (.aload_n 0, 1) := by decide +kernel
theorem dX4_init_13 : decode cX4_init 13 = .ok (.bipush 60, 2) := by decide +kernel
theorem dX4_init_15 : decode cX4_init 15 = .ok (.newarray .int, 2) := by decide +kernel
theorem dX4_init_17 : decode cX4_init 17 = .ok (.putfield 15, 3) := by decide +kernel
theorem dX4_init_20 : decode cX4_init 20 = .ok (.aload_n 0, 1) := by decide +kernel
theorem dX4_init_21 : decode cX4_init 21 = .ok (.aload_n 1, 1) := by decide +kernel
theorem dX4_init_22 : decode cX4_init 22 = .ok (.putfield 18, 3) := by decide +kernel
theorem dX4_init_25 : decode cX4_init 25 = .ok (.aload_n 0, 1) := by decide +kernel
theorem dX4_init_26 : decode cX4_init 26 = .ok (.iload_n 2, 1) := by decide +kernel
theorem dX4_init_27 : decode cX4_init 27 = .ok (.putfield 22, 3) := by decide +kernel
theorem dX4_init_30 : decode cX4_init 30 = .ok (.aload_n 0, 1) := by decide +kernel
theorem dX4_init_31 : decode cX4_init 31 = .ok (.iload_n 3, 1) := by decide +kernel
theorem dX4_init_32 : decode cX4_init 32 = .ok (.putfield 26, 3) := by decide +kernel
theorem dX4_init_35 : decode cX4_init 35 = .ok (.return_, 1) := by decide +kernel
theorem dX4_copy_0 : decode cX4_copy 0 = .ok (.aload_n 1, 1) := by decide +kernel
theorem dX4_copy_1 : decode cX4_copy 1 = .ok (.iconst 0, 1) := by decide +kernel
theorem dX4_copy_2 : decode cX4_copy 2 = .ok (.aload_n 0, 1) := by decide +kernel
theorem dX4_copy_3 : decode cX4_copy 3 = .ok (.getfield 9, 3) := by decide +kernel
theorem dX4_copy_6 : decode cX4_copy 6 = .ok (.iconst 0, 1) := by decide +kernel
theorem dX4_copy_7 : decode cX4_copy 7 = .ok (.bipush 60, 2) := by decide +kernel
theorem dX4_copy_9 : decode cX4_copy 9 = .ok (.invokestatic 29, 3) := by decide +kernel
theorem dX4_copy_12 : decode cX4_copy 12 = .ok (.aload_n 0, 1) := by decide +kernel
theorem dX4_copy_13 : decode cX4_copy 13 = .ok (.iload_n 2, 1) := by decide +kernel
theorem dX4_copy_14 : decode cX4_copy 14 = .ok (.putfield 35, 3) := by decide +kernel
theorem dX4_copy_17 : decode cX4_copy 17 = .ok (.return_, 1) := by decide +kernel
theorem dX4_clear_0 : decode cX4_clear 0 = .ok (.aload_n 0, 1) := by decide +kernel
theorem dX4_clear_1 : decode cX4_clear 1 = .ok (.iconst 0, 1) := by decide +kernel
theorem dX4_clear_2 : decode cX4_clear 2 = .ok (.putfield 35, 3) := by decide +kernel
theorem dX4_clear_5 : decode cX4_clear 5 = .ok (.return_, 1) := by decide +kernel
theorem dX4_isThere_0 : decode cX4_isThere 0 = .ok (.aload_n 0, 1) := by decide +kernel
theorem dX4_isThere_1 : decode cX4_isThere 1 = .ok (.getfield 35, 3) := by decide +kernel
theorem dX4_isThere_4 : decode cX4_isThere 4 = .ok (.ifCond .le 7, 3) := by decide +kernel
theorem dX4_isThere_7 : decode cX4_isThere 7 = .ok (.iconst 1, 1) := by decide +kernel
theorem dX4_isThere_8 : decode cX4_isThere 8 = .ok (.goto 4, 3) := by decide +kernel
theorem dX4_isThere_11 : decode cX4_isThere 11 = .ok (.iconst 0, 1) := by decide +kernel
theorem dX4_isThere_12 : decode cX4_isThere 12 = .ok (.ireturn, 1) := by decide +kernel
theorem dX4_given_0 : decode cX4_given 0 = .ok (.aload_n 0, 1) := by decide +kernel
theorem dX4_given_1 : decode cX4_given 1 = .ok (.getfield 15, 3) := by decide +kernel
theorem dX4_given_4 : decode cX4_given 4 = .ok (.iconst 0, 1) := by decide +kernel
theorem dX4_given_5 : decode cX4_given 5 = .ok (.iload_n 1, 1) := by decide +kernel
theorem dX4_given_6 : decode cX4_given 6 = .ok (.iastore, 1) := by decide +kernel
theorem dX4_given_7 : decode cX4_given 7 = .ok (.iconst (-1), 1) := by decide +kernel
theorem dX4_given_8 : decode cX4_given 8 = .ok (.istore 4, 2) := by decide +kernel
theorem dX4_given_10 : decode cX4_given 10 = .ok (.iconst 0, 1) := by decide +kernel
theorem dX4_given_11 : decode cX4_given 11 = .ok (.istore 5, 2) := by decide +kernel
theorem dX4_given_13 : decode cX4_given 13 = .ok (.iload 5, 2) := by decide +kernel
theorem dX4_given_15 : decode cX4_given 15 = .ok (.aload_n 0, 1) := by decide +kernel
theorem dX4_given_16 : decode cX4_given 16 = .ok (.getfield 35, 3) := by decide +kernel
theorem dX4_given_19 : decode cX4_given 19 = .ok (.if_icmp .ge 160, 3) := by decide +kernel
theorem dX4_given_22 : decode cX4_given 22 = .ok (.iload 5, 2) := by decide +kernel
theorem dX4_given_24 : decode cX4_given 24 = .ok (.bipush 60, 2) := by decide +kernel
theorem dX4_given_26 : decode cX4_given 26 = .ok (.if_icmp .ge 153, 3) := by decide +kernel
theorem dX4_given_29 : decode cX4_given 29 = .ok (.aload_n 0, 1) := by decide +kernel
theorem dX4_given_30 : decode cX4_given 30 = .ok (.getfield 9, 3) := by decide +kernel
theorem dX4_given_33 : decode cX4_given 33 = .ok (.iload 5, 2) := by decide +kernel
theorem dX4_given_35 : decode cX4_given 35 = .ok (.iaload, 1) := by decide +kernel
theorem dX4_given_36 : decode cX4_given 36 = .ok (.istore 6, 2) := by decide +kernel
theorem dX4_given_38 : decode cX4_given 38 = .ok (.iload 6, 2) := by decide +kernel
theorem dX4_given_40 : decode cX4_given 40 = .ok (.bipush (-3), 2) := by decide +kernel
theorem dX4_given_42 : decode cX4_given 42 = .ok (.if_icmp .lt 56, 3) := by decide +kernel
theorem dX4_given_45 : decode cX4_given 45 = .ok (.iload 4, 2) := by decide +kernel
theorem dX4_given_47 : decode cX4_given 47 = .ok (.iconst 1, 1) := by decide +kernel
theorem dX4_given_48 : decode cX4_given 48 = .ok (.iadd, 1) := by decide +kernel
theorem dX4_given_49 : decode cX4_given 49 = .ok (.bipush 59, 2) := by decide +kernel
theorem dX4_given_51 : decode cX4_given 51 = .ok (.invokestatic 38, 3) := by decide +kernel
theorem dX4_given_54 : decode cX4_given 54 = .ok (.istore 4, 2) := by decide +kernel
theorem dX4_given_56 : decode cX4_given 56 = .ok (.aload_n 0, 1) := by decide +kernel
theorem dX4_given_57 : decode cX4_given 57 = .ok (.getfield 15, 3) := by decide +kernel
theorem dX4_given_60 : decode cX4_given 60 = .ok (.iload 4, 2) := by decide +kernel
theorem dX4_given_62 : decode cX4_given 62 = .ok (.iload 6, 2) := by decide +kernel
theorem dX4_given_64 : decode cX4_given 64 = .ok (.ifCond .lt 8, 3) := by decide +kernel
theorem dX4_given_67 : decode cX4_given 67 = .ok (.iload 6, 2) := by decide +kernel
theorem dX4_given_69 : decode cX4_given 69 = .ok (.goto 25, 3) := by decide +kernel
theorem dX4_given_72 : decode cX4_given 72 = .ok (.iload 6, 2) := by decide +kernel
theorem dX4_given_74 : decode cX4_given 74 = .ok (.iconst (-1), 1) := by decide +kernel
theorem dX4_given_75 : decode cX4_given 75 = .ok (.if_icmp .ne 7, 3) := by decide +kernel
theorem dX4_given_78 : decode cX4_given 78 = .ok (.iload_n 1, 1) := by decide +kernel
theorem dX4_given_79 : decode cX4_given 79 = .ok (.goto 15, 3) := by decide +kernel
theorem dX4_given_82 : decode cX4_given 82 = .ok (.iload 6, 2) := by decide +kernel
theorem dX4_given_84 : decode cX4_given 84 = .ok (.bipush (-2), 2) := by decide +kernel
theorem dX4_given_86 : decode cX4_given 86 = .ok (.if_icmp .ne 7, 3) := by decide +kernel
theorem dX4_given_89 : decode cX4_given 89 = .ok (.iload_n 2, 1) := by decide +kernel
theorem dX4_given_90 : decode cX4_given 90 = .ok (.goto 4, 3) := by decide +kernel
theorem dX4_given_93 : decode cX4_given 93 = .ok (.iload_n 3, 1) := by decide +kernel
theorem dX4_given_94 : decode cX4_given 94 = .ok (.iastore, 1) := by decide +kernel
theorem dX4_given_95 : decode cX4_given 95 = .ok (.goto 78, 3) := by decide +kernel
theorem dX4_given_98 : decode cX4_given 98 = .ok (.iload 6, 2) := by decide +kernel
theorem dX4_given_100 : decode cX4_given 100 = .ok (.bipush (-33), 2) := by decide +kernel
theorem dX4_given_102 : decode cX4_given 102 = .ok (.if_icmp .ne 33, 3) := by decide +kernel
theorem dX4_given_105 : decode cX4_given 105 = .ok (.iload 4, 2) := by decide +kernel
theorem dX4_given_107 : decode cX4_given 107 = .ok (.ifCond .lt 28, 3) := by decide +kernel
theorem dX4_given_110 : decode cX4_given 110 = .ok (.aload_n 0, 1) := by decide +kernel
theorem dX4_given_111 : decode cX4_given 111 = .ok (.getfield 15, 3) := by decide +kernel
theorem dX4_given_114 : decode cX4_given 114 = .ok (.iload 4, 2) := by decide +kernel
theorem dX4_given_116 : decode cX4_given 116 = .ok (.aload_n 0, 1) := by decide +kernel
theorem dX4_given_117 : decode cX4_given 117 = .ok (.getfield 15, 3) := by decide +kernel
theorem dX4_given_120 : decode cX4_given 120 = .ok (.iload 4, 2) := by decide +kernel
theorem dX4_given_122 : decode cX4_given 122 = .ok (.iaload, 1) := by decide +kernel
theorem dX4_given_123 : decode cX4_given 123 = .ok (.ifCond .ne 7, 3) := by decide +kernel
theorem dX4_given_126 : decode cX4_given 126 = .ok (.iconst 1, 1) := by decide +kernel
theorem dX4_given_127 : decode cX4_given 127 = .ok (.goto 4, 3) := by decide +kernel
theorem dX4_given_130 : decode cX4_given 130 = .ok (.iconst 0, 1) := by decide +kernel
theorem dX4_given_131 : decode cX4_given 131 = .ok (.iastore, 1) := by decide +kernel
theorem dX4_given_132 : decode cX4_given 132 = .ok (.goto 41, 3) := by decide +kernel
theorem dX4_given_135 : decode cX4_given 135 = .ok (.iload 4, 2) := by decide +kernel
theorem dX4_given_137 : decode cX4_given 137 = .ok (.iconst 1, 1) := by decide +kernel
theorem dX4_given_138 : decode cX4_given 138 = .ok (.if_icmp .lt 35, 3) := by decide +kernel
theorem dX4_given_141 : decode cX4_given 141 = .ok (.iinc 4 (-1), 3) := by decide +kernel
theorem dX4_given_144 : decode cX4_given 144 = .ok (.aload_n 0, 1) := by decide +kernel
theorem dX4_given_145 : decode cX4_given 145 = .ok (.getfield 15, 3) := by decide +kernel
theorem dX4_given_148 : decode cX4_given 148 = .ok (.iload 4, 2) := by decide +kernel
theorem dX4_given_150 : decode cX4_given 150 = .ok (.iload 6, 2) := by decide +kernel
theorem dX4_given_152 : decode cX4_given 152 = .ok (.ineg, 1) := by decide +kernel
theorem dX4_given_153 : decode cX4_given 153 = .ok (.aload_n 0, 1) := by decide +kernel
theorem dX4_given_154 : decode cX4_given 154 = .ok (.getfield 15, 3) := by decide +kernel
theorem dX4_given_157 : decode cX4_given 157 = .ok (.iload 4, 2) := by decide +kernel
theorem dX4_given_159 : decode cX4_given 159 = .ok (.iaload, 1) := by decide +kernel
theorem dX4_given_160 : decode cX4_given 160 = .ok (.aload_n 0, 1) := by decide +kernel
theorem dX4_given_161 : decode cX4_given 161 = .ok (.getfield 15, 3) := by decide +kernel
theorem dX4_given_164 : decode cX4_given 164 = .ok (.iload 4, 2) := by decide +kernel
theorem dX4_given_166 : decode cX4_given 166 = .ok (.iconst 1, 1) := by decide +kernel
theorem dX4_given_167 : decode cX4_given 167 = .ok (.iadd, 1) := by decide +kernel
theorem dX4_given_168 : decode cX4_given 168 = .ok (.iaload, 1) := by decide +kernel
theorem dX4_given_169 : decode cX4_given 169 = .ok (.invokestatic 44, 3) := by decide +kernel
theorem dX4_given_172 : decode cX4_given 172 = .ok (.iastore, 1) := by decide +kernel
theorem dX4_given_173 : decode cX4_given 173 = .ok (.iinc 5 1, 3) := by decide +kernel
theorem dX4_given_176 : decode cX4_given 176 = .ok (.goto (-163), 3) := by decide +kernel
theorem dX4_given_179 : decode cX4_given 179 = .ok (.aload_n 0, 1) := by decide +kernel
theorem dX4_given_180 : decode cX4_given 180 = .ok (.getfield 22, 3) := by decide +kernel
theorem dX4_given_183 : decode cX4_given 183 = .ok (.aload_n 0, 1) := by decide +kernel
theorem dX4_given_184 : decode cX4_given 184 = .ok (.getfield 26, 3) := by decide +kernel
theorem dX4_given_187 : decode cX4_given 187 = .ok (.aload_n 0, 1) := by decide +kernel
theorem dX4_given_188 : decode cX4_given 188 = .ok (.getfield 15, 3) := by decide +kernel
theorem dX4_given_191 : decode cX4_given 191 = .ok (.iconst 0, 1) := by decide +kernel
theorem dX4_given_192 : decode cX4_given 192 = .ok (.iaload, 1) := by decide +kernel
theorem dX4_given_193 : decode cX4_given 193 = .ok (.invokestatic 38, 3) := by decide +kernel
theorem dX4_given_196 : decode cX4_given 196 = .ok (.invokestatic 48, 3) := by decide +kernel
theorem dX4_given_199 : decode cX4_given 199 = .ok (.ireturn, 1) := by decide +kernel
theorem dX4_joined_0 : decode cX4_joined 0 = .ok (.iload_n 0, 1) := by decide +kernel
theorem dX4_joined_1 : decode cX4_joined 1 = .ok (.lookupswitch 188 #[(37, 176), (38, 105), (42, 160), (43, 152), (45, 156), (47, 164), (60, 119), (61, 130), (62, 141), (124, 91)], 91) := by decide +kernel
theorem dX4_joined_92 : decode cX4_joined 92 = .ok (.iload_n 1, 1) := by decide +kernel
theorem dX4_joined_93 : decode cX4_joined 93 = .ok (.ifCond .ne 7, 3) := by decide +kernel
theorem dX4_joined_96 : decode cX4_joined 96 = .ok (.iload_n 2, 1) := by decide +kernel
theorem dX4_joined_97 : decode cX4_joined 97 = .ok (.ifCond .eq 7, 3) := by decide +kernel
theorem dX4_joined_100 : decode cX4_joined 100 = .ok (.iconst 1, 1) := by decide +kernel
theorem dX4_joined_101 : decode cX4_joined 101 = .ok (.goto 4, 3) := by decide +kernel
theorem dX4_joined_104 : decode cX4_joined 104 = .ok (.iconst 0, 1) := by decide +kernel
theorem dX4_joined_105 : decode cX4_joined 105 = .ok (.ireturn, 1) := by decide +kernel
theorem dX4_joined_106 : decode cX4_joined 106 = .ok (.iload_n 1, 1) := by decide +kernel
theorem dX4_joined_107 : decode cX4_joined 107 = .ok (.ifCond .eq 11, 3) := by decide +kernel
theorem dX4_joined_110 : decode cX4_joined 110 = .ok (.iload_n 2, 1) := by decide +kernel
theorem dX4_joined_111 : decode cX4_joined 111 = .ok (.ifCond .eq 7, 3) := by decide +kernel
theorem dX4_joined_114 : decode cX4_joined 114 = .ok (.iconst 1, 1) := by decide +kernel
theorem dX4_joined_115 : decode cX4_joined 115 = .ok (.goto 4, 3) := by decide +kernel
theorem dX4_joined_118 : decode cX4_joined 118 = .ok (.iconst 0, 1) := by decide +kernel
theorem dX4_joined_119 : decode cX4_joined 119 = .ok (.ireturn, 1) := by decide +kernel
theorem dX4_joined_120 : decode cX4_joined 120 = .ok (.iload_n 1, 1) := by decide +kernel
theorem dX4_joined_121 : decode cX4_joined 121 = .ok (.iload_n 2, 1) := by decide +kernel
theorem dX4_joined_122 : decode cX4_joined 122 = .ok (.if_icmp .ge 7, 3) := by decide +kernel
theorem dX4_joined_125 : decode cX4_joined 125 = .ok (.iconst 1, 1) := by decide +kernel
theorem dX4_joined_126 : decode cX4_joined 126 = .ok (.goto 4, 3) := by decide +kernel
theorem dX4_joined_129 : decode cX4_joined 129 = .ok (.iconst 0, 1) := by decide +kernel
theorem dX4_joined_130 : decode cX4_joined 130 = .ok (.ireturn, 1) := by decide +kernel
theorem dX4_joined_131 : decode cX4_joined 131 = .ok (.iload_n 1, 1) := by decide +kernel
theorem dX4_joined_132 : decode cX4_joined 132 = .ok (.iload_n 2, 1) := by decide +kernel
theorem dX4_joined_133 : decode cX4_joined 133 = .ok (.if_icmp .ne 7, 3) := by decide +kernel
theorem dX4_joined_136 : decode cX4_joined 136 = .ok (.iconst 1, 1) := by decide +kernel
theorem dX4_joined_137 : decode cX4_joined 137 = .ok (.goto 4, 3) := by decide +kernel
theorem dX4_joined_140 : decode cX4_joined 140 = .ok (.iconst 0, 1) := by decide +kernel
theorem dX4_joined_141 : decode cX4_joined 141 = .ok (.ireturn, 1) := by decide +kernel
theorem dX4_joined_142 : decode cX4_joined 142 = .ok (.iload_n 1, 1) := by decide +kernel
theorem dX4_joined_143 : decode cX4_joined 143 = .ok (.iload_n 2, 1) := by decide +kernel
theorem dX4_joined_144 : decode cX4_joined 144 = .ok (.if_icmp .le 7, 3) := by decide +kernel
theorem dX4_joined_147 : decode cX4_joined 147 = .ok (.iconst 1, 1) := by decide +kernel
theorem dX4_joined_148 : decode cX4_joined 148 = .ok (.goto 4, 3) := by decide +kernel
theorem dX4_joined_151 : decode cX4_joined 151 = .ok (.iconst 0, 1) := by decide +kernel
theorem dX4_joined_152 : decode cX4_joined 152 = .ok (.ireturn, 1) := by decide +kernel
theorem dX4_joined_153 : decode cX4_joined 153 = .ok (.iload_n 1, 1) := by decide +kernel
theorem dX4_joined_154 : decode cX4_joined 154 = .ok (.iload_n 2, 1) := by decide +kernel
theorem dX4_joined_155 : decode cX4_joined 155 = .ok (.iadd, 1) := by decide +kernel
theorem dX4_joined_156 : decode cX4_joined 156 = .ok (.ireturn, 1) := by decide +kernel
theorem dX4_joined_157 : decode cX4_joined 157 = .ok (.iload_n 1, 1) := by decide +kernel
theorem dX4_joined_158 : decode cX4_joined 158 = .ok (.iload_n 2, 1) := by decide +kernel
theorem dX4_joined_159 : decode cX4_joined 159 = .ok (.isub, 1) := by decide +kernel
theorem dX4_joined_160 : decode cX4_joined 160 = .ok (.ireturn, 1) := by decide +kernel
theorem dX4_joined_161 : decode cX4_joined 161 = .ok (.iload_n 1, 1) := by decide +kernel
theorem dX4_joined_162 : decode cX4_joined 162 = .ok (.iload_n 2, 1) := by decide +kernel
theorem dX4_joined_163 : decode cX4_joined 163 = .ok (.imul, 1) := by decide +kernel
theorem dX4_joined_164 : decode cX4_joined 164 = .ok (.ireturn, 1) := by decide +kernel
theorem dX4_joined_165 : decode cX4_joined 165 = .ok (.iload_n 2, 1) := by decide +kernel
theorem dX4_joined_166 : decode cX4_joined 166 = .ok (.ifCond .ne 7, 3) := by decide +kernel
theorem dX4_joined_169 : decode cX4_joined 169 = .ok (.iconst 0, 1) := by decide +kernel
theorem dX4_joined_170 : decode cX4_joined 170 = .ok (.goto 6, 3) := by decide +kernel
theorem dX4_joined_173 : decode cX4_joined 173 = .ok (.iload_n 1, 1) := by decide +kernel
theorem dX4_joined_174 : decode cX4_joined 174 = .ok (.iload_n 2, 1) := by decide +kernel
theorem dX4_joined_175 : decode cX4_joined 175 = .ok (.idiv, 1) := by decide +kernel
theorem dX4_joined_176 : decode cX4_joined 176 = .ok (.ireturn, 1) := by decide +kernel
theorem dX4_joined_177 : decode cX4_joined 177 = .ok (.iload_n 2, 1) := by decide +kernel
theorem dX4_joined_178 : decode cX4_joined 178 = .ok (.ifCond .ne 7, 3) := by decide +kernel
theorem dX4_joined_181 : decode cX4_joined 181 = .ok (.iconst 0, 1) := by decide +kernel
theorem dX4_joined_182 : decode cX4_joined 182 = .ok (.goto 6, 3) := by decide +kernel
theorem dX4_joined_185 : decode cX4_joined 185 = .ok (.iload_n 1, 1) := by decide +kernel
theorem dX4_joined_186 : decode cX4_joined 186 = .ok (.iload_n 2, 1) := by decide +kernel
theorem dX4_joined_187 : decode cX4_joined 187 = .ok (.irem, 1) := by decide +kernel
theorem dX4_joined_188 : decode cX4_joined 188 = .ok (.ireturn, 1) := by decide +kernel
theorem dX4_joined_189 : decode cX4_joined 189 = .ok (.iconst 0, 1) := by decide +kernel
theorem dX4_joined_190 : decode cX4_joined 190 = .ok (.ireturn, 1) := by decide +kernel
theorem dX5_init_0 : decode cX5_init 0 = .ok (.aload_n 0, 1) := by decide +kernel
theorem dX5_init_1 : decode cX5_init 1 = .ok (.invokespecial 3, 3) := by decide +kernel
theorem dX5_init_4 : decode cX5_init 4 = .ok (.aload_n 0, 1) := by decide +kernel
theorem dX5_init_5 : decode cX5_init 5 = .ok (.bipush 30, 2) := by decide +kernel
theorem dX5_init_7 : decode cX5_init 7 = .ok (.newarray .int, 2) := by decide +kernel
theorem dX5_init_9 : decode cX5_init 9 = .ok (.putfield 9, 3) := by decide +kernel
theorem dX5_init_12 : decode cX5_init 12 = .ok (.return_, 1) := by decide +kernel
theorem dX5_answerOf_0 : decode cX5_answerOf 0 = .ok (.aload_n 0, 1) := by decide +kernel
theorem dX5_answerOf_1 : decode cX5_answerOf 1 = .ok (.iload_n 1, 1) := by decide +kernel
theorem dX5_answerOf_2 : decode cX5_answerOf 2 = .ok (.putfield 15, 3) := by decide +kernel
theorem dX5_answerOf_5 : decode cX5_answerOf 5 = .ok (.aload_n 0, 1) := by decide +kernel
theorem dX5_answerOf_6 : decode cX5_answerOf 6 = .ok (.iload_n 2, 1) := by decide +kernel
theorem dX5_answerOf_7 : decode cX5_answerOf 7 = .ok (.putfield 19, 3) := by decide +kernel
theorem dX5_answerOf_10 : decode cX5_answerOf 10 = .ok (.aload_n 0, 1) := by decide +kernel
theorem dX5_answerOf_11 : decode cX5_answerOf 11 = .ok (.iload_n 3, 1) := by decide +kernel
theorem dX5_answerOf_12 : decode cX5_answerOf 12 = .ok (.putfield 22, 3) := by decide +kernel
theorem dX5_answerOf_15 : decode cX5_answerOf 15 = .ok (.aload_n 0, 1) := by decide +kernel
theorem dX5_answerOf_16 : decode cX5_answerOf 16 = .ok (.iconst 0, 1) := by decide +kernel
theorem dX5_answerOf_17 : decode cX5_answerOf 17 = .ok (.putfield 25, 3) := by decide +kernel
theorem dX5_answerOf_20 : decode cX5_answerOf 20 = .ok (.aload_n 0, 1) := by decide +kernel
theorem dX5_answerOf_21 : decode cX5_answerOf 21 = .ok (.iconst 0, 1) := by decide +kernel
theorem dX5_answerOf_22 : decode cX5_answerOf 22 = .ok (.putfield 29, 3) := by decide +kernel
theorem dX5_answerOf_25 : decode cX5_answerOf 25 = .ok (.aload_n 0, 1) := by decide +kernel
theorem dX5_answerOf_26 : decode cX5_answerOf 26 = .ok (.iload_n 3, 1) := by decide +kernel
theorem dX5_answerOf_27 : decode cX5_answerOf 27 = .ok (.iload 4, 2) := by decide +kernel
theorem dX5_answerOf_29 : decode cX5_answerOf 29 = .ok (.iload 5, 2) := by decide +kernel
theorem dX5_answerOf_31 : decode cX5_answerOf 31 = .ok (.iconst 0, 1) := by decide +kernel
theorem dX5_answerOf_32 : decode cX5_answerOf 32 = .ok (.invokevirtual 32, 3) := by decide +kernel
theorem dX5_answerOf_35 : decode cX5_answerOf 35 = .ok (.ireturn, 1) := by decide +kernel
theorem dX5_spoken_0 : decode cX5_spoken 0 = .ok (.iconst 4, 1) := by decide +kernel
theorem dX5_spoken_1 : decode cX5_spoken 1 = .ok (.iload_n 1, 1) := by decide +kernel
theorem dX5_spoken_2 : decode cX5_spoken 2 = .ok (.imul, 1) := by decide +kernel
theorem dX5_spoken_3 : decode cX5_spoken 3 = .ok (.iload_n 2, 1) := by decide +kernel
theorem dX5_spoken_4 : decode cX5_spoken 4 = .ok (.iadd, 1) := by decide +kernel
theorem dX5_spoken_5 : decode cX5_spoken 5 = .ok (.istore 5, 2) := by decide +kernel
theorem dX5_spoken_7 : decode cX5_spoken 7 = .ok (.aload_n 0, 1) := by decide +kernel
theorem dX5_spoken_8 : decode cX5_spoken 8 = .ok (.getfield 25, 3) := by decide +kernel
theorem dX5_spoken_11 : decode cX5_spoken 11 = .ok (.ifCond .ne 25, 3) := by decide +kernel
theorem dX5_spoken_14 : decode cX5_spoken 14 = .ok (.iload 4, 2) := by decide +kernel
theorem dX5_spoken_16 : decode cX5_spoken 16 = .ok (.bipush 20, 2) := by decide +kernel
theorem dX5_spoken_18 : decode cX5_spoken 18 = .ok (.if_icmp .gt 18, 3) := by decide +kernel
theorem dX5_spoken_21 : decode cX5_spoken 21 = .ok (.iload 5, 2) := by decide +kernel
theorem dX5_spoken_23 : decode cX5_spoken 23 = .ok (.iconst 0, 1) := by decide +kernel
theorem dX5_spoken_24 : decode cX5_spoken 24 = .ok (.getstatic 36, 3) := by decide +kernel
theorem dX5_spoken_27 : decode cX5_spoken 27 = .ok (.arraylength, 1) := by decide +kernel
theorem dX5_spoken_28 : decode cX5_spoken 28 = .ok (.iconst 1, 1) := by decide +kernel
theorem dX5_spoken_29 : decode cX5_spoken 29 = .ok (.isub, 1) := by decide +kernel
theorem dX5_spoken_30 : decode cX5_spoken 30 = .ok (.invokestatic 39, 3) := by decide +kernel
theorem dX5_spoken_33 : decode cX5_spoken 33 = .ok (.ifCond .ne 5, 3) := by decide +kernel
theorem dX5_spoken_36 : decode cX5_spoken 36 = .ok (.iconst 0, 1) := by decide +kernel
theorem dX5_spoken_37 : decode cX5_spoken 37 = .ok (.ireturn, 1) := by decide +kernel
theorem dX5_spoken_38 : decode cX5_spoken 38 = .ok (.aload_n 0, 1) := by decide +kernel
theorem dX5_spoken_39 : decode cX5_spoken 39 = .ok (.getstatic 36, 3) := by decide +kernel
theorem dX5_spoken_42 : decode cX5_spoken 42 = .ok (.iload 5, 2) := by decide +kernel
theorem dX5_spoken_44 : decode cX5_spoken 44 = .ok (.iaload, 1) := by decide +kernel
theorem dX5_spoken_45 : decode cX5_spoken 45 = .ok (.iload_n 3, 1) := by decide +kernel
theorem dX5_spoken_46 : decode cX5_spoken 46 = .ok (.iload 4, 2) := by decide +kernel
theorem dX5_spoken_48 : decode cX5_spoken 48 = .ok (.iconst 1, 1) := by decide +kernel
theorem dX5_spoken_49 : decode cX5_spoken 49 = .ok (.iadd, 1) := by decide +kernel
theorem dX5_spoken_50 : decode cX5_spoken 50 = .ok (.invokevirtual 43, 3) := by decide +kernel
theorem dX5_spoken_53 : decode cX5_spoken 53 = .ok (.ireturn, 1) := by decide +kernel
theorem dX5_worked_0 : decode cX5_worked 0 = .ok (.aload_n 0, 1) := by decide +kernel
theorem dX5_worked_1 : decode cX5_worked 1 = .ok (.getfield 29, 3) := by decide +kernel
theorem dX5_worked_4 : decode cX5_worked 4 = .ok (.bipush 30, 2) := by decide +kernel
theorem dX5_worked_6 : decode cX5_worked 6 = .ok (.if_icmp .ge 23, 3) := by decide +kernel
theorem dX5_worked_9 : decode cX5_worked 9 = .ok (.aload_n 0, 1) := by decide +kernel
theorem dX5_worked_10 : decode cX5_worked 10 = .ok (.getfield 9, 3) := by decide +kernel
theorem dX5_worked_13 : decode cX5_worked 13 = .ok (.aload_n 0, 1) := by decide +kernel
theorem dX5_worked_14 : decode cX5_worked 14 = .ok (.getfield 29, 3) := by decide +kernel
theorem dX5_worked_17 : decode cX5_worked 17 = .ok (.iload_n 1, 1) := by decide +kernel
theorem dX5_worked_18 : decode cX5_worked 18 = .ok (.iastore, 1) := by decide +kernel
theorem dX5_worked_19 : decode cX5_worked 19 = .ok (.aload_n 0, 1) := by decide +kernel
theorem dX5_worked_20 : decode cX5_worked 20 = .ok (.dup, 1) := by decide +kernel
theorem dX5_worked_21 : decode cX5_worked 21 = .ok (.getfield 29, 3) := by decide +kernel
theorem dX5_worked_24 : decode cX5_worked 24 = .ok (.iconst 1, 1) := by decide +kernel
theorem dX5_worked_25 : decode cX5_worked 25 = .ok (.iadd, 1) := by decide +kernel
theorem dX5_worked_26 : decode cX5_worked 26 = .ok (.putfield 29, 3) := by decide +kernel
theorem dX5_worked_29 : decode cX5_worked 29 = .ok (.iload_n 1, 1) := by decide +kernel
theorem dX5_worked_30 : decode cX5_worked 30 = .ok (.lookupswitch 264 #[(10, 114), (11, 121), (12, 135), (13, 152), (20, 158), (21, 169), (30, 190), (40, 200), (50, 211), (51, 222), (60, 236), (70, 247), (71, 250)], 114) := by decide +kernel
theorem dX5_worked_144 : decode cX5_worked 144 = .ok (.iload_n 2, 1) := by decide +kernel
theorem dX5_worked_145 : decode cX5_worked 145 = .ok (.aload_n 0, 1) := by decide +kernel
theorem dX5_worked_146 : decode cX5_worked 146 = .ok (.getfield 15, 3) := by decide +kernel
theorem dX5_worked_149 : decode cX5_worked 149 = .ok (.iadd, 1) := by decide +kernel
theorem dX5_worked_150 : decode cX5_worked 150 = .ok (.ireturn, 1) := by decide +kernel
theorem dX5_worked_151 : decode cX5_worked 151 = .ok (.aload_n 0, 1) := by decide +kernel
theorem dX5_worked_152 : decode cX5_worked 152 = .ok (.aload_n 0, 1) := by decide +kernel
theorem dX5_worked_153 : decode cX5_worked 153 = .ok (.getfield 22, 3) := by decide +kernel
theorem dX5_worked_156 : decode cX5_worked 156 = .ok (.iconst 0, 1) := by decide +kernel
theorem dX5_worked_157 : decode cX5_worked 157 = .ok (.iload_n 2, 1) := by decide +kernel
theorem dX5_worked_158 : decode cX5_worked 158 = .ok (.iload_n 3, 1) := by decide +kernel
theorem dX5_worked_159 : decode cX5_worked 159 = .ok (.invokevirtual 32, 3) := by decide +kernel
theorem dX5_worked_162 : decode cX5_worked 162 = .ok (.iconst 2, 1) := by decide +kernel
theorem dX5_worked_163 : decode cX5_worked 163 = .ok (.imul, 1) := by decide +kernel
theorem dX5_worked_164 : decode cX5_worked 164 = .ok (.ireturn, 1) := by decide +kernel
theorem dX5_worked_165 : decode cX5_worked 165 = .ok (.aload_n 0, 1) := by decide +kernel
theorem dX5_worked_166 : decode cX5_worked 166 = .ok (.aload_n 0, 1) := by decide +kernel
theorem dX5_worked_167 : decode cX5_worked 167 = .ok (.getfield 22, 3) := by decide +kernel
theorem dX5_worked_170 : decode cX5_worked 170 = .ok (.iconst 1, 1) := by decide +kernel
theorem dX5_worked_171 : decode cX5_worked 171 = .ok (.iload_n 2, 1) := by decide +kernel
theorem dX5_worked_172 : decode cX5_worked 172 = .ok (.iload_n 3, 1) := by decide +kernel
theorem dX5_worked_173 : decode cX5_worked 173 = .ok (.invokevirtual 32, 3) := by decide +kernel
theorem dX5_worked_176 : decode cX5_worked 176 = .ok (.aload_n 0, 1) := by decide +kernel
theorem dX5_worked_177 : decode cX5_worked 177 = .ok (.getfield 19, 3) := by decide +kernel
theorem dX5_worked_180 : decode cX5_worked 180 = .ok (.isub, 1) := by decide +kernel
theorem dX5_worked_181 : decode cX5_worked 181 = .ok (.ireturn, 1) := by decide +kernel
theorem dX5_worked_182 : decode cX5_worked 182 = .ok (.aload_n 0, 1) := by decide +kernel
theorem dX5_worked_183 : decode cX5_worked 183 = .ok (.iload_n 2, 1) := by decide +kernel
theorem dX5_worked_184 : decode cX5_worked 184 = .ok (.invokevirtual 47, 3) := by decide +kernel
theorem dX5_worked_187 : decode cX5_worked 187 = .ok (.ireturn, 1) := by decide +kernel
theorem dX5_worked_188 : decode cX5_worked 188 = .ok (.aload_n 0, 1) := by decide +kernel
theorem dX5_worked_189 : decode cX5_worked 189 = .ok (.iconst 0, 1) := by decide +kernel
theorem dX5_worked_190 : decode cX5_worked 190 = .ok (.iconst 0, 1) := by decide +kernel
theorem dX5_worked_191 : decode cX5_worked 191 = .ok (.iload_n 2, 1) := by decide +kernel
theorem dX5_worked_192 : decode cX5_worked 192 = .ok (.iload_n 3, 1) := by decide +kernel
theorem dX5_worked_193 : decode cX5_worked 193 = .ok (.invokevirtual 32, 3) := by decide +kernel
theorem dX5_worked_196 : decode cX5_worked 196 = .ok (.iconst 4, 1) := by decide +kernel
theorem dX5_worked_197 : decode cX5_worked 197 = .ok (.isub, 1) := by decide +kernel
theorem dX5_worked_198 : decode cX5_worked 198 = .ok (.ireturn, 1) := by decide +kernel
theorem dX5_worked_199 : decode cX5_worked 199 = .ok (.aload_n 0, 1) := by decide +kernel
theorem dX5_worked_200 : decode cX5_worked 200 = .ok (.iconst 0, 1) := by decide +kernel
theorem dX5_worked_201 : decode cX5_worked 201 = .ok (.iconst 3, 1) := by decide +kernel
theorem dX5_worked_202 : decode cX5_worked 202 = .ok (.iload_n 2, 1) := by decide +kernel
theorem dX5_worked_203 : decode cX5_worked 203 = .ok (.iload_n 3, 1) := by decide +kernel
theorem dX5_worked_204 : decode cX5_worked 204 = .ok (.invokevirtual 32, 3) := by decide +kernel
theorem dX5_worked_207 : decode cX5_worked 207 = .ok (.aload_n 0, 1) := by decide +kernel
theorem dX5_worked_208 : decode cX5_worked 208 = .ok (.aload_n 0, 1) := by decide +kernel
theorem dX5_worked_209 : decode cX5_worked 209 = .ok (.getfield 22, 3) := by decide +kernel
theorem dX5_worked_212 : decode cX5_worked 212 = .ok (.iconst 1, 1) := by decide +kernel
theorem dX5_worked_213 : decode cX5_worked 213 = .ok (.iconst 1, 1) := by decide +kernel
theorem dX5_worked_214 : decode cX5_worked 214 = .ok (.iload_n 3, 1) := by decide +kernel
theorem dX5_worked_215 : decode cX5_worked 215 = .ok (.invokevirtual 32, 3) := by decide +kernel
theorem dX5_worked_218 : decode cX5_worked 218 = .ok (.iadd, 1) := by decide +kernel
theorem dX5_worked_219 : decode cX5_worked 219 = .ok (.ireturn, 1) := by decide +kernel
theorem dX5_worked_220 : decode cX5_worked 220 = .ok (.aload_n 0, 1) := by decide +kernel
theorem dX5_worked_221 : decode cX5_worked 221 = .ok (.iconst 0, 1) := by decide +kernel
theorem dX5_worked_222 : decode cX5_worked 222 = .ok (.iconst 1, 1) := by decide +kernel
theorem dX5_worked_223 : decode cX5_worked 223 = .ok (.iload_n 2, 1) := by decide +kernel
theorem dX5_worked_224 : decode cX5_worked 224 = .ok (.iload_n 3, 1) := by decide +kernel
theorem dX5_worked_225 : decode cX5_worked 225 = .ok (.invokevirtual 32, 3) := by decide +kernel
theorem dX5_worked_228 : decode cX5_worked 228 = .ok (.ineg, 1) := by decide +kernel
theorem dX5_worked_229 : decode cX5_worked 229 = .ok (.ireturn, 1) := by decide +kernel
theorem dX5_worked_230 : decode cX5_worked 230 = .ok (.aload_n 0, 1) := by decide +kernel
theorem dX5_worked_231 : decode cX5_worked 231 = .ok (.iconst 0, 1) := by decide +kernel
theorem dX5_worked_232 : decode cX5_worked 232 = .ok (.iconst 2, 1) := by decide +kernel
theorem dX5_worked_233 : decode cX5_worked 233 = .ok (.iload_n 2, 1) := by decide +kernel
theorem dX5_worked_234 : decode cX5_worked 234 = .ok (.iconst 2, 1) := by decide +kernel
theorem dX5_worked_235 : decode cX5_worked 235 = .ok (.idiv, 1) := by decide +kernel
theorem dX5_worked_236 : decode cX5_worked 236 = .ok (.iload_n 3, 1) := by decide +kernel
theorem dX5_worked_237 : decode cX5_worked 237 = .ok (.invokevirtual 32, 3) := by decide +kernel
theorem dX5_worked_240 : decode cX5_worked 240 = .ok (.ireturn, 1) := by decide +kernel
theorem dX5_worked_241 : decode cX5_worked 241 = .ok (.aload_n 0, 1) := by decide +kernel
theorem dX5_worked_242 : decode cX5_worked 242 = .ok (.iconst 1, 1) := by decide +kernel
theorem dX5_worked_243 : decode cX5_worked 243 = .ok (.iconst 0, 1) := by decide +kernel
theorem dX5_worked_244 : decode cX5_worked 244 = .ok (.iload_n 2, 1) := by decide +kernel
theorem dX5_worked_245 : decode cX5_worked 245 = .ok (.iload_n 3, 1) := by decide +kernel
theorem dX5_worked_246 : decode cX5_worked 246 = .ok (.invokevirtual 32, 3) := by decide +kernel
theorem dX5_worked_249 : decode cX5_worked 249 = .ok (.iconst 3, 1) := by decide +kernel
theorem dX5_worked_250 : decode cX5_worked 250 = .ok (.imul, 1) := by decide +kernel
theorem dX5_worked_251 : decode cX5_worked 251 = .ok (.ireturn, 1) := by decide +kernel
theorem dX5_worked_252 : decode cX5_worked 252 = .ok (.aload_n 0, 1) := by decide +kernel
theorem dX5_worked_253 : decode cX5_worked 253 = .ok (.iconst 1, 1) := by decide +kernel
theorem dX5_worked_254 : decode cX5_worked 254 = .ok (.iconst 2, 1) := by decide +kernel
theorem dX5_worked_255 : decode cX5_worked 255 = .ok (.iload_n 2, 1) := by decide +kernel
theorem dX5_worked_256 : decode cX5_worked 256 = .ok (.iload_n 3, 1) := by decide +kernel
theorem dX5_worked_257 : decode cX5_worked 257 = .ok (.invokevirtual 32, 3) := by decide +kernel
theorem dX5_worked_260 : decode cX5_worked 260 = .ok (.aload_n 0, 1) := by decide +kernel
theorem dX5_worked_261 : decode cX5_worked 261 = .ok (.getfield 15, 3) := by decide +kernel
theorem dX5_worked_264 : decode cX5_worked 264 = .ok (.ixor, 1) := by decide +kernel
theorem dX5_worked_265 : decode cX5_worked 265 = .ok (.ireturn, 1) := by decide +kernel
theorem dX5_worked_266 : decode cX5_worked 266 = .ok (.aload_n 0, 1) := by decide +kernel
theorem dX5_worked_267 : decode cX5_worked 267 = .ok (.iconst 2, 1) := by decide +kernel
theorem dX5_worked_268 : decode cX5_worked 268 = .ok (.iconst 1, 1) := by decide +kernel
theorem dX5_worked_269 : decode cX5_worked 269 = .ok (.iload_n 2, 1) := by decide +kernel
theorem dX5_worked_270 : decode cX5_worked 270 = .ok (.iconst 1, 1) := by decide +kernel
theorem dX5_worked_271 : decode cX5_worked 271 = .ok (.iadd, 1) := by decide +kernel
theorem dX5_worked_272 : decode cX5_worked 272 = .ok (.iload_n 3, 1) := by decide +kernel
theorem dX5_worked_273 : decode cX5_worked 273 = .ok (.invokevirtual 32, 3) := by decide +kernel
theorem dX5_worked_276 : decode cX5_worked 276 = .ok (.ireturn, 1) := by decide +kernel
theorem dX5_worked_277 : decode cX5_worked 277 = .ok (.bipush 9, 2) := by decide +kernel
theorem dX5_worked_279 : decode cX5_worked 279 = .ok (.ireturn, 1) := by decide +kernel
theorem dX5_worked_280 : decode cX5_worked 280 = .ok (.aload_n 0, 1) := by decide +kernel
theorem dX5_worked_281 : decode cX5_worked 281 = .ok (.iconst 0, 1) := by decide +kernel
theorem dX5_worked_282 : decode cX5_worked 282 = .ok (.iconst 1, 1) := by decide +kernel
theorem dX5_worked_283 : decode cX5_worked 283 = .ok (.iload_n 2, 1) := by decide +kernel
theorem dX5_worked_284 : decode cX5_worked 284 = .ok (.iload_n 3, 1) := by decide +kernel
theorem dX5_worked_285 : decode cX5_worked 285 = .ok (.invokevirtual 32, 3) := by decide +kernel
theorem dX5_worked_288 : decode cX5_worked 288 = .ok (.aload_n 0, 1) := by decide +kernel
theorem dX5_worked_289 : decode cX5_worked 289 = .ok (.getfield 19, 3) := by decide +kernel
theorem dX5_worked_292 : decode cX5_worked 292 = .ok (.iadd, 1) := by decide +kernel
theorem dX5_worked_293 : decode cX5_worked 293 = .ok (.ireturn, 1) := by decide +kernel
theorem dX5_worked_294 : decode cX5_worked 294 = .ok (.iconst 0, 1) := by decide +kernel
theorem dX5_worked_295 : decode cX5_worked 295 = .ok (.ireturn, 1) := by decide +kernel
theorem dX5_partOfDifference_0 : decode cX5_partOfDifference 0 = .ok (.aload_n 0, 1) := by decide +kernel
theorem dX5_partOfDifference_1 : decode cX5_partOfDifference 1 = .ok (.getfield 19, 3) := by decide +kernel
theorem dX5_partOfDifference_4 : decode cX5_partOfDifference 4 = .ok (.aload_n 0, 1) := by decide +kernel
theorem dX5_partOfDifference_5 : decode cX5_partOfDifference 5 = .ok (.getfield 15, 3) := by decide +kernel
theorem dX5_partOfDifference_8 : decode cX5_partOfDifference 8 = .ok (.isub, 1) := by decide +kernel
theorem dX5_partOfDifference_9 : decode cX5_partOfDifference 9 = .ok (.istore_n 2, 1) := by decide +kernel
theorem dX5_partOfDifference_10 : decode cX5_partOfDifference 10 = .ok (.iload_n 2, 1) := by decide +kernel
theorem dX5_partOfDifference_11 : decode cX5_partOfDifference 11 = .ok (.ifCond .ne 10, 3) := by decide +kernel
theorem dX5_partOfDifference_14 : decode cX5_partOfDifference 14 = .ok (.aload_n 0, 1) := by decide +kernel
theorem dX5_partOfDifference_15 : decode cX5_partOfDifference 15 = .ok (.iconst 1, 1) := by decide +kernel
theorem dX5_partOfDifference_16 : decode cX5_partOfDifference 16 = .ok (.putfield 25, 3) := by decide +kernel
theorem dX5_partOfDifference_19 : decode cX5_partOfDifference 19 = .ok (.iconst 0, 1) := by decide +kernel
theorem dX5_partOfDifference_20 : decode cX5_partOfDifference 20 = .ok (.ireturn, 1) := by decide +kernel
theorem dX5_partOfDifference_21 : decode cX5_partOfDifference 21 = .ok (.iload_n 1, 1) := by decide +kernel
theorem dX5_partOfDifference_22 : decode cX5_partOfDifference 22 = .ok (.iload_n 2, 1) := by decide +kernel
theorem dX5_partOfDifference_23 : decode cX5_partOfDifference 23 = .ok (.idiv, 1) := by decide +kernel
theorem dX5_partOfDifference_24 : decode cX5_partOfDifference 24 = .ok (.ireturn, 1) := by decide +kernel
theorem dX6_init_0 : decode cX6_init 0 = .ok (.aload_n 0, 1) := by decide +kernel
theorem dX6_init_1 : decode cX6_init 1 = .ok (.invokespecial 3, 3) := by decide +kernel
theorem dX6_init_4 : decode cX6_init 4 = .ok (.aload_n 0, 1) := by decide +kernel
theorem dX6_init_5 : decode cX6_init 5 = .ok (.new 9, 3) := by decide +kernel
theorem dX6_init_8 : decode cX6_init 8 = .ok (.dup, 1) := by decide +kernel
theorem dX6_init_9 : decode cX6_init 9 = .ok (.invokespecial 11, 3) := by decide +kernel
theorem dX6_init_12 : decode cX6_init 12 = .ok (.putfield 12, 3) := by decide +kernel
theorem dX6_init_15 : decode cX6_init 15 = .ok (.aload_n 0, 1) := by decide +kernel
theorem dX6_init_16 : decode cX6_init 16 = .ok (.new 9, 3) := by decide +kernel
theorem dX6_init_19 : decode cX6_init 19 = .ok (.dup, 1) := by decide +kernel
theorem dX6_init_20 : decode cX6_init 20 = .ok (.invokespecial 11, 3) := by decide +kernel
theorem dX6_init_23 : decode cX6_init 23 = .ok (.putfield 16, 3) := by decide +kernel
theorem dX6_init_26 : decode cX6_init 26 = .ok (.aload_n 0, 1) := by decide +kernel
theorem dX6_init_27 : decode cX6_init 27 = .ok (.new 9, 3) := by decide +kernel
theorem dX6_init_30 : decode cX6_init 30 = .ok (.dup, 1) := by decide +kernel
theorem dX6_init_31 : decode cX6_init 31 = .ok (.invokespecial 11, 3) := by decide +kernel
theorem dX6_init_34 : decode cX6_init 34 = .ok (.putfield 19, 3) := by decide +kernel
theorem dX6_init_37 : decode cX6_init 37 = .ok (.aload_n 0, 1) := by decide +kernel
theorem dX6_init_38 : decode cX6_init 38 = .ok (.new 22, 3) := by decide +kernel
theorem dX6_init_41 : decode cX6_init 41 = .ok (.dup, 1) := by decide +kernel
theorem dX6_init_42 : decode cX6_init 42 = .ok (.aload_n 0, 1) := by decide +kernel
theorem dX6_init_43 : decode cX6_init 43 = .ok (.getfield 12, 3) := by decide +kernel
theorem dX6_init_46 : decode cX6_init 46 = .ok (.getfield 24, 3) := by decide +kernel
theorem dX6_init_49 : decode cX6_init 49 = .ok (.invokespecial 28, 3) := by decide +kernel
theorem dX6_init_52 : decode cX6_init 52 = .ok (.putfield 31, 3) := by decide +kernel
theorem dX6_init_55 : decode cX6_init 55 = .ok (.aload_n 0, 1) := by decide +kernel
theorem dX6_init_56 : decode cX6_init 56 = .ok (.new 35, 3) := by decide +kernel
theorem dX6_init_59 : decode cX6_init 59 = .ok (.dup, 1) := by decide +kernel
theorem dX6_init_60 : decode cX6_init 60 = .ok (.invokespecial 37, 3) := by decide +kernel
theorem dX6_init_63 : decode cX6_init 63 = .ok (.putfield 38, 3) := by decide +kernel
theorem dX6_init_66 : decode cX6_init 66 = .ok (.aload_n 0, 1) := by decide +kernel
theorem dX6_init_67 : decode cX6_init 67 = .ok (.new 42, 3) := by decide +kernel
theorem dX6_init_70 : decode cX6_init 70 = .ok (.dup, 1) := by decide +kernel
theorem dX6_init_71 : decode cX6_init 71 = .ok (.invokespecial 44, 3) := by decide +kernel
theorem dX6_init_74 : decode cX6_init 74 = .ok (.putfield 45, 3) := by decide +kernel
theorem dX6_init_77 : decode cX6_init 77 = .ok (.aload_n 0, 1) := by decide +kernel
theorem dX6_init_78 : decode cX6_init 78 = .ok (.new 49, 3) := by decide +kernel
theorem dX6_init_81 : decode cX6_init 81 = .ok (.dup, 1) := by decide +kernel
theorem dX6_init_82 : decode cX6_init 82 = .ok (.invokespecial 51, 3) := by decide +kernel
theorem dX6_init_85 : decode cX6_init 85 = .ok (.putfield 52, 3) := by decide +kernel
theorem dX6_init_88 : decode cX6_init 88 = .ok (.aload_n 0, 1) := by decide +kernel
theorem dX6_init_89 : decode cX6_init 89 = .ok (.bipush 7, 2) := by decide +kernel
theorem dX6_init_91 : decode cX6_init 91 = .ok (.newarray .int, 2) := by decide +kernel
theorem dX6_init_93 : decode cX6_init 93 = .ok (.putfield 56, 3) := by decide +kernel
theorem dX6_init_96 : decode cX6_init 96 = .ok (.return_, 1) := by decide +kernel
theorem dX6_mark_0 : decode cX6_mark 0 = .ok (.iload_n 1, 1) := by decide +kernel
theorem dX6_mark_1 : decode cX6_mark 1 = .ok (.invokestatic 59, 3) := by decide +kernel
theorem dX6_mark_4 : decode cX6_mark 4 = .ok (.ifCond .eq 28, 3) := by decide +kernel
theorem dX6_mark_7 : decode cX6_mark 7 = .ok (.iload_n 2, 1) := by decide +kernel
theorem dX6_mark_8 : decode cX6_mark 8 = .ok (.iconst (-1), 1) := by decide +kernel
theorem dX6_mark_9 : decode cX6_mark 9 = .ok (.if_icmp .eq 11, 3) := by decide +kernel
theorem dX6_mark_12 : decode cX6_mark 12 = .ok (.aload_n 0, 1) := by decide +kernel
theorem dX6_mark_13 : decode cX6_mark 13 = .ok (.iload_n 2, 1) := by decide +kernel
theorem dX6_mark_14 : decode cX6_mark 14 = .ok (.invokevirtual 63, 3) := by decide +kernel
theorem dX6_mark_17 : decode cX6_mark 17 = .ok (.ifCond .eq 15, 3) := by decide +kernel
theorem dX6_mark_20 : decode cX6_mark 20 = .ok (.aload_n 0, 1) := by decide +kernel
theorem dX6_mark_21 : decode cX6_mark 21 = .ok (.iload_n 3, 1) := by decide +kernel
theorem dX6_mark_22 : decode cX6_mark 22 = .ok (.invokevirtual 63, 3) := by decide +kernel
theorem dX6_mark_25 : decode cX6_mark 25 = .ok (.ifCond .eq 7, 3) := by decide +kernel
theorem dX6_mark_28 : decode cX6_mark 28 = .ok (.iconst 1, 1) := by decide +kernel
theorem dX6_mark_29 : decode cX6_mark 29 = .ok (.goto 4, 3) := by decide +kernel
theorem dX6_mark_32 : decode cX6_mark 32 = .ok (.iconst 0, 1) := by decide +kernel
theorem dX6_mark_33 : decode cX6_mark 33 = .ok (.istore 5, 2) := by decide +kernel
theorem dX6_mark_35 : decode cX6_mark 35 = .ok (.iload 5, 2) := by decide +kernel
theorem dX6_mark_37 : decode cX6_mark 37 = .ok (.ifCond .eq 16, 3) := by decide +kernel
theorem dX6_mark_40 : decode cX6_mark 40 = .ok (.iload_n 2, 1) := by decide +kernel
theorem dX6_mark_41 : decode cX6_mark 41 = .ok (.iload_n 3, 1) := by decide +kernel
theorem dX6_mark_42 : decode cX6_mark 42 = .ok (.if_icmp .eq 11, 3) := by decide +kernel
theorem dX6_mark_45 : decode cX6_mark 45 = .ok (.iload 4, 2) := by decide +kernel
theorem dX6_mark_47 : decode cX6_mark 47 = .ok (.invokestatic 66, 3) := by decide +kernel
theorem dX6_mark_50 : decode cX6_mark 50 = .ok (.ifCond .ne 9, 3) := by decide +kernel
theorem dX6_mark_53 : decode cX6_mark 53 = .ok (.aload_n 0, 1) := by decide +kernel
theorem dX6_mark_54 : decode cX6_mark 54 = .ok (.iconst 1, 1) := by decide +kernel
theorem dX6_mark_55 : decode cX6_mark 55 = .ok (.invokevirtual 69, 3) := by decide +kernel
theorem dX6_mark_58 : decode cX6_mark 58 = .ok (.ireturn, 1) := by decide +kernel
theorem dX6_mark_59 : decode cX6_mark 59 = .ok (.aload_n 0, 1) := by decide +kernel
theorem dX6_mark_60 : decode cX6_mark 60 = .ok (.getfield 12, 3) := by decide +kernel
theorem dX6_mark_63 : decode cX6_mark 63 = .ok (.getfield 73, 3) := by decide +kernel
theorem dX6_mark_66 : decode cX6_mark 66 = .ok (.bipush 8, 2) := by decide +kernel
theorem dX6_mark_68 : decode cX6_mark 68 = .ok (.if_icmp .lt 9, 3) := by decide +kernel
theorem dX6_mark_71 : decode cX6_mark 71 = .ok (.aload_n 0, 1) := by decide +kernel
theorem dX6_mark_72 : decode cX6_mark 72 = .ok (.iconst 4, 1) := by decide +kernel
theorem dX6_mark_73 : decode cX6_mark 73 = .ok (.invokevirtual 69, 3) := by decide +kernel
theorem dX6_mark_76 : decode cX6_mark 76 = .ok (.ireturn, 1) := by decide +kernel
theorem dX6_mark_77 : decode cX6_mark 77 = .ok (.aload_n 0, 1) := by decide +kernel
theorem dX6_mark_78 : decode cX6_mark 78 = .ok (.getfield 12, 3) := by decide +kernel
theorem dX6_mark_81 : decode cX6_mark 81 = .ok (.iload_n 1, 1) := by decide +kernel
theorem dX6_mark_82 : decode cX6_mark 82 = .ok (.iload_n 2, 1) := by decide +kernel
theorem dX6_mark_83 : decode cX6_mark 83 = .ok (.iload_n 3, 1) := by decide +kernel
theorem dX6_mark_84 : decode cX6_mark 84 = .ok (.iload 4, 2) := by decide +kernel
theorem dX6_mark_86 : decode cX6_mark 86 = .ok (.invokevirtual 77, 3) := by decide +kernel
theorem dX6_mark_89 : decode cX6_mark 89 = .ok (.ireturn, 1) := by decide +kernel
theorem dX6_markIs_0 : decode cX6_markIs 0 = .ok (.aload_n 0, 1) := by decide +kernel
theorem dX6_markIs_1 : decode cX6_markIs 1 = .ok (.iload_n 1, 1) := by decide +kernel
theorem dX6_markIs_2 : decode cX6_markIs 2 = .ok (.invokevirtual 81, 3) := by decide +kernel
theorem dX6_markIs_5 : decode cX6_markIs 5 = .ok (.ifCond .ne 9, 3) := by decide +kernel
theorem dX6_markIs_8 : decode cX6_markIs 8 = .ok (.aload_n 0, 1) := by decide +kernel
theorem dX6_markIs_9 : decode cX6_markIs 9 = .ok (.iconst 1, 1) := by decide +kernel
theorem dX6_markIs_10 : decode cX6_markIs 10 = .ok (.invokevirtual 69, 3) := by decide +kernel
theorem dX6_markIs_13 : decode cX6_markIs 13 = .ok (.ireturn, 1) := by decide +kernel
theorem dX6_markIs_14 : decode cX6_markIs 14 = .ok (.iload_n 2, 1) := by decide +kernel
theorem dX6_markIs_15 : decode cX6_markIs 15 = .ok (.tableswitch 130 0 7 #[45, 55, 65, 75, 85, 95, 112, 121], 45) := by decide +kernel
theorem dX6_markIs_60 : decode cX6_markIs 60 = .ok (.aload_n 0, 1) := by decide +kernel
theorem dX6_markIs_61 : decode cX6_markIs 61 = .ok (.getfield 12, 3) := by decide +kernel
theorem dX6_markIs_64 : decode cX6_markIs 64 = .ok (.getfield 84, 3) := by decide +kernel
theorem dX6_markIs_67 : decode cX6_markIs 67 = .ok (.iload_n 1, 1) := by decide +kernel
theorem dX6_markIs_68 : decode cX6_markIs 68 = .ok (.iaload, 1) := by decide +kernel
theorem dX6_markIs_69 : decode cX6_markIs 69 = .ok (.ireturn, 1) := by decide +kernel
theorem dX6_markIs_70 : decode cX6_markIs 70 = .ok (.aload_n 0, 1) := by decide +kernel
theorem dX6_markIs_71 : decode cX6_markIs 71 = .ok (.getfield 12, 3) := by decide +kernel
theorem dX6_markIs_74 : decode cX6_markIs 74 = .ok (.getfield 87, 3) := by decide +kernel
theorem dX6_markIs_77 : decode cX6_markIs 77 = .ok (.iload_n 1, 1) := by decide +kernel
theorem dX6_markIs_78 : decode cX6_markIs 78 = .ok (.iaload, 1) := by decide +kernel
theorem dX6_markIs_79 : decode cX6_markIs 79 = .ok (.ireturn, 1) := by decide +kernel
theorem dX6_markIs_80 : decode cX6_markIs 80 = .ok (.aload_n 0, 1) := by decide +kernel
theorem dX6_markIs_81 : decode cX6_markIs 81 = .ok (.getfield 12, 3) := by decide +kernel
theorem dX6_markIs_84 : decode cX6_markIs 84 = .ok (.getfield 90, 3) := by decide +kernel
theorem dX6_markIs_87 : decode cX6_markIs 87 = .ok (.iload_n 1, 1) := by decide +kernel
theorem dX6_markIs_88 : decode cX6_markIs 88 = .ok (.iaload, 1) := by decide +kernel
theorem dX6_markIs_89 : decode cX6_markIs 89 = .ok (.ireturn, 1) := by decide +kernel
theorem dX6_markIs_90 : decode cX6_markIs 90 = .ok (.aload_n 0, 1) := by decide +kernel
theorem dX6_markIs_91 : decode cX6_markIs 91 = .ok (.getfield 12, 3) := by decide +kernel
theorem dX6_markIs_94 : decode cX6_markIs 94 = .ok (.getfield 93, 3) := by decide +kernel
theorem dX6_markIs_97 : decode cX6_markIs 97 = .ok (.iload_n 1, 1) := by decide +kernel
theorem dX6_markIs_98 : decode cX6_markIs 98 = .ok (.iaload, 1) := by decide +kernel
theorem dX6_markIs_99 : decode cX6_markIs 99 = .ok (.ireturn, 1) := by decide +kernel
theorem dX6_markIs_100 : decode cX6_markIs 100 = .ok (.aload_n 0, 1) := by decide +kernel
theorem dX6_markIs_101 : decode cX6_markIs 101 = .ok (.getfield 12, 3) := by decide +kernel
theorem dX6_markIs_104 : decode cX6_markIs 104 = .ok (.getfield 96, 3) := by decide +kernel
theorem dX6_markIs_107 : decode cX6_markIs 107 = .ok (.iload_n 1, 1) := by decide +kernel
theorem dX6_markIs_108 : decode cX6_markIs 108 = .ok (.iaload, 1) := by decide +kernel
theorem dX6_markIs_109 : decode cX6_markIs 109 = .ok (.ireturn, 1) := by decide +kernel
theorem dX6_markIs_110 : decode cX6_markIs 110 = .ok (.aload_n 0, 1) := by decide +kernel
theorem dX6_markIs_111 : decode cX6_markIs 111 = .ok (.getfield 12, 3) := by decide +kernel
theorem dX6_markIs_114 : decode cX6_markIs 114 = .ok (.iload_n 1, 1) := by decide +kernel
theorem dX6_markIs_115 : decode cX6_markIs 115 = .ok (.invokevirtual 99, 3) := by decide +kernel
theorem dX6_markIs_118 : decode cX6_markIs 118 = .ok (.ifCond .eq 7, 3) := by decide +kernel
theorem dX6_markIs_121 : decode cX6_markIs 121 = .ok (.iconst 1, 1) := by decide +kernel
theorem dX6_markIs_122 : decode cX6_markIs 122 = .ok (.goto 4, 3) := by decide +kernel
theorem dX6_markIs_125 : decode cX6_markIs 125 = .ok (.iconst 0, 1) := by decide +kernel
theorem dX6_markIs_126 : decode cX6_markIs 126 = .ok (.ireturn, 1) := by decide +kernel
theorem dX6_markIs_127 : decode cX6_markIs 127 = .ok (.aload_n 0, 1) := by decide +kernel
theorem dX6_markIs_128 : decode cX6_markIs 128 = .ok (.getfield 12, 3) := by decide +kernel
theorem dX6_markIs_131 : decode cX6_markIs 131 = .ok (.iload_n 1, 1) := by decide +kernel
theorem dX6_markIs_132 : decode cX6_markIs 132 = .ok (.invokevirtual 102, 3) := by decide +kernel
theorem dX6_markIs_135 : decode cX6_markIs 135 = .ok (.ireturn, 1) := by decide +kernel
theorem dX6_markIs_136 : decode cX6_markIs 136 = .ok (.aload_n 0, 1) := by decide +kernel
theorem dX6_markIs_137 : decode cX6_markIs 137 = .ok (.getfield 12, 3) := by decide +kernel
theorem dX6_markIs_140 : decode cX6_markIs 140 = .ok (.iload_n 1, 1) := by decide +kernel
theorem dX6_markIs_141 : decode cX6_markIs 141 = .ok (.invokevirtual 105, 3) := by decide +kernel
theorem dX6_markIs_144 : decode cX6_markIs 144 = .ok (.ireturn, 1) := by decide +kernel
theorem dX6_markIs_145 : decode cX6_markIs 145 = .ok (.aload_n 0, 1) := by decide +kernel
theorem dX6_markIs_146 : decode cX6_markIs 146 = .ok (.iconst 1, 1) := by decide +kernel
theorem dX6_markIs_147 : decode cX6_markIs 147 = .ok (.invokevirtual 69, 3) := by decide +kernel
theorem dX6_markIs_150 : decode cX6_markIs 150 = .ok (.ireturn, 1) := by decide +kernel
theorem dX6_become_0 : decode cX6_become 0 = .ok (.aload_n 0, 1) := by decide +kernel
theorem dX6_become_1 : decode cX6_become 1 = .ok (.iload_n 1, 1) := by decide +kernel
theorem dX6_become_2 : decode cX6_become 2 = .ok (.invokevirtual 81, 3) := by decide +kernel
theorem dX6_become_5 : decode cX6_become 5 = .ok (.ifCond .eq 10, 3) := by decide +kernel
theorem dX6_become_8 : decode cX6_become 8 = .ok (.iload_n 2, 1) := by decide +kernel
theorem dX6_become_9 : decode cX6_become 9 = .ok (.invokestatic 59, 3) := by decide +kernel
theorem dX6_become_12 : decode cX6_become 12 = .ok (.ifCond .ne 9, 3) := by decide +kernel
theorem dX6_become_15 : decode cX6_become 15 = .ok (.aload_n 0, 1) := by decide +kernel
theorem dX6_become_16 : decode cX6_become 16 = .ok (.iconst 1, 1) := by decide +kernel
theorem dX6_become_17 : decode cX6_become 17 = .ok (.invokevirtual 69, 3) := by decide +kernel
theorem dX6_become_20 : decode cX6_become 20 = .ok (.ireturn, 1) := by decide +kernel
theorem dX6_become_21 : decode cX6_become 21 = .ok (.aload_n 0, 1) := by decide +kernel
theorem dX6_become_22 : decode cX6_become 22 = .ok (.getfield 12, 3) := by decide +kernel
theorem dX6_become_25 : decode cX6_become 25 = .ok (.getfield 84, 3) := by decide +kernel
theorem dX6_become_28 : decode cX6_become 28 = .ok (.iload_n 1, 1) := by decide +kernel
theorem dX6_become_29 : decode cX6_become 29 = .ok (.iaload, 1) := by decide +kernel
theorem dX6_become_30 : decode cX6_become 30 = .ok (.istore_n 3, 1) := by decide +kernel
theorem dX6_become_31 : decode cX6_become 31 = .ok (.aload_n 0, 1) := by decide +kernel
theorem dX6_become_32 : decode cX6_become 32 = .ok (.getfield 12, 3) := by decide +kernel
theorem dX6_become_35 : decode cX6_become 35 = .ok (.getfield 84, 3) := by decide +kernel
theorem dX6_become_38 : decode cX6_become 38 = .ok (.iload_n 1, 1) := by decide +kernel
theorem dX6_become_39 : decode cX6_become 39 = .ok (.iload_n 2, 1) := by decide +kernel
theorem dX6_become_40 : decode cX6_become 40 = .ok (.bipush 10, 2) := by decide +kernel
theorem dX6_become_42 : decode cX6_become 42 = .ok (.idiv, 1) := by decide +kernel
theorem dX6_become_43 : decode cX6_become 43 = .ok (.iastore, 1) := by decide +kernel
theorem dX6_become_44 : decode cX6_become 44 = .ok (.aload_n 0, 1) := by decide +kernel
theorem dX6_become_45 : decode cX6_become 45 = .ok (.getfield 12, 3) := by decide +kernel
theorem dX6_become_48 : decode cX6_become 48 = .ok (.getfield 87, 3) := by decide +kernel
theorem dX6_become_51 : decode cX6_become 51 = .ok (.iload_n 1, 1) := by decide +kernel
theorem dX6_become_52 : decode cX6_become 52 = .ok (.iload_n 2, 1) := by decide +kernel
theorem dX6_become_53 : decode cX6_become 53 = .ok (.bipush 10, 2) := by decide +kernel
theorem dX6_become_55 : decode cX6_become 55 = .ok (.irem, 1) := by decide +kernel
theorem dX6_become_56 : decode cX6_become 56 = .ok (.iastore, 1) := by decide +kernel
theorem dX6_become_57 : decode cX6_become 57 = .ok (.iload_n 3, 1) := by decide +kernel
theorem dX6_become_58 : decode cX6_become 58 = .ok (.ireturn, 1) := by decide +kernel
theorem dX6_as_0 : decode cX6_as 0 = .ok (.aload_n 0, 1) := by decide +kernel
theorem dX6_as_1 : decode cX6_as 1 = .ok (.iload_n 1, 1) := by decide +kernel
theorem dX6_as_2 : decode cX6_as 2 = .ok (.invokevirtual 81, 3) := by decide +kernel
theorem dX6_as_5 : decode cX6_as 5 = .ok (.ifCond .eq 13, 3) := by decide +kernel
theorem dX6_as_8 : decode cX6_as 8 = .ok (.iload_n 2, 1) := by decide +kernel
theorem dX6_as_9 : decode cX6_as 9 = .ok (.iconst 0, 1) := by decide +kernel
theorem dX6_as_10 : decode cX6_as 10 = .ok (.bipush 6, 2) := by decide +kernel
theorem dX6_as_12 : decode cX6_as 12 = .ok (.invokestatic 108, 3) := by decide +kernel
theorem dX6_as_15 : decode cX6_as 15 = .ok (.ifCond .ne 9, 3) := by decide +kernel
theorem dX6_as_18 : decode cX6_as 18 = .ok (.aload_n 0, 1) := by decide +kernel
theorem dX6_as_19 : decode cX6_as 19 = .ok (.iconst 1, 1) := by decide +kernel
theorem dX6_as_20 : decode cX6_as 20 = .ok (.invokevirtual 69, 3) := by decide +kernel
theorem dX6_as_23 : decode cX6_as 23 = .ok (.ireturn, 1) := by decide +kernel
theorem dX6_as_24 : decode cX6_as 24 = .ok (.aload_n 0, 1) := by decide +kernel
theorem dX6_as_25 : decode cX6_as 25 = .ok (.getfield 12, 3) := by decide +kernel
theorem dX6_as_28 : decode cX6_as 28 = .ok (.getfield 84, 3) := by decide +kernel
theorem dX6_as_31 : decode cX6_as 31 = .ok (.iload_n 1, 1) := by decide +kernel
theorem dX6_as_32 : decode cX6_as 32 = .ok (.iaload, 1) := by decide +kernel
theorem dX6_as_33 : decode cX6_as 33 = .ok (.iload_n 2, 1) := by decide +kernel
theorem dX6_as_34 : decode cX6_as 34 = .ok (.invokestatic 112, 3) := by decide +kernel
theorem dX6_as_37 : decode cX6_as 37 = .ok (.ifCond .ne 9, 3) := by decide +kernel
theorem dX6_as_40 : decode cX6_as 40 = .ok (.aload_n 0, 1) := by decide +kernel
theorem dX6_as_41 : decode cX6_as 41 = .ok (.iconst 5, 1) := by decide +kernel
theorem dX6_as_42 : decode cX6_as 42 = .ok (.invokevirtual 69, 3) := by decide +kernel
theorem dX6_as_45 : decode cX6_as 45 = .ok (.ireturn, 1) := by decide +kernel
theorem dX6_as_46 : decode cX6_as 46 = .ok (.aload_n 0, 1) := by decide +kernel
theorem dX6_as_47 : decode cX6_as 47 = .ok (.getfield 12, 3) := by decide +kernel
theorem dX6_as_50 : decode cX6_as 50 = .ok (.getfield 87, 3) := by decide +kernel
theorem dX6_as_53 : decode cX6_as 53 = .ok (.iload_n 1, 1) := by decide +kernel
theorem dX6_as_54 : decode cX6_as 54 = .ok (.iaload, 1) := by decide +kernel
theorem dX6_as_55 : decode cX6_as 55 = .ok (.ireturn, 1) := by decide +kernel
theorem dX6_measure_0 : decode cX6_measure 0 = .ok (.aload_n 0, 1) := by decide +kernel
theorem dX6_measure_1 : decode cX6_measure 1 = .ok (.iload_n 1, 1) := by decide +kernel
theorem dX6_measure_2 : decode cX6_measure 2 = .ok (.invokevirtual 81, 3) := by decide +kernel
theorem dX6_measure_5 : decode cX6_measure 5 = .ok (.ifCond .eq 10, 3) := by decide +kernel
theorem dX6_measure_8 : decode cX6_measure 8 = .ok (.iload_n 2, 1) := by decide +kernel
theorem dX6_measure_9 : decode cX6_measure 9 = .ok (.invokestatic 66, 3) := by decide +kernel
theorem dX6_measure_12 : decode cX6_measure 12 = .ok (.ifCond .ne 9, 3) := by decide +kernel
theorem dX6_measure_15 : decode cX6_measure 15 = .ok (.aload_n 0, 1) := by decide +kernel
theorem dX6_measure_16 : decode cX6_measure 16 = .ok (.iconst 1, 1) := by decide +kernel
theorem dX6_measure_17 : decode cX6_measure 17 = .ok (.invokevirtual 69, 3) := by decide +kernel
theorem dX6_measure_20 : decode cX6_measure 20 = .ok (.ireturn, 1) := by decide +kernel
theorem dX6_measure_21 : decode cX6_measure 21 = .ok (.aload_n 0, 1) := by decide +kernel
theorem dX6_measure_22 : decode cX6_measure 22 = .ok (.getfield 12, 3) := by decide +kernel
theorem dX6_measure_25 : decode cX6_measure 25 = .ok (.getfield 96, 3) := by decide +kernel
theorem dX6_measure_28 : decode cX6_measure 28 = .ok (.iload_n 1, 1) := by decide +kernel
theorem dX6_measure_29 : decode cX6_measure 29 = .ok (.iaload, 1) := by decide +kernel
theorem dX6_measure_30 : decode cX6_measure 30 = .ok (.istore_n 3, 1) := by decide +kernel
theorem dX6_measure_31 : decode cX6_measure 31 = .ok (.aload_n 0, 1) := by decide +kernel
theorem dX6_measure_32 : decode cX6_measure 32 = .ok (.getfield 12, 3) := by decide +kernel
theorem dX6_measure_35 : decode cX6_measure 35 = .ok (.getfield 96, 3) := by decide +kernel
theorem dX6_measure_38 : decode cX6_measure 38 = .ok (.iload_n 1, 1) := by decide +kernel
theorem dX6_measure_39 : decode cX6_measure 39 = .ok (.iload_n 2, 1) := by decide +kernel
theorem dX6_measure_40 : decode cX6_measure 40 = .ok (.iastore, 1) := by decide +kernel
theorem dX6_measure_41 : decode cX6_measure 41 = .ok (.iload_n 3, 1) := by decide +kernel
theorem dX6_measure_42 : decode cX6_measure 42 = .ok (.ireturn, 1) := by decide +kernel
theorem dX6_on_0 : decode cX6_on 0 = .ok (.aload_n 0, 1) := by decide +kernel
theorem dX6_on_1 : decode cX6_on 1 = .ok (.iload_n 1, 1) := by decide +kernel
theorem dX6_on_2 : decode cX6_on 2 = .ok (.invokevirtual 81, 3) := by decide +kernel
theorem dX6_on_5 : decode cX6_on 5 = .ok (.ifCond .eq 12, 3) := by decide +kernel
theorem dX6_on_8 : decode cX6_on 8 = .ok (.iload_n 2, 1) := by decide +kernel
theorem dX6_on_9 : decode cX6_on 9 = .ok (.iconst 0, 1) := by decide +kernel
theorem dX6_on_10 : decode cX6_on 10 = .ok (.iconst 1, 1) := by decide +kernel
theorem dX6_on_11 : decode cX6_on 11 = .ok (.invokestatic 108, 3) := by decide +kernel
theorem dX6_on_14 : decode cX6_on 14 = .ok (.ifCond .ne 9, 3) := by decide +kernel
theorem dX6_on_17 : decode cX6_on 17 = .ok (.aload_n 0, 1) := by decide +kernel
theorem dX6_on_18 : decode cX6_on 18 = .ok (.iconst 1, 1) := by decide +kernel
theorem dX6_on_19 : decode cX6_on 19 = .ok (.invokevirtual 69, 3) := by decide +kernel
theorem dX6_on_22 : decode cX6_on 22 = .ok (.ireturn, 1) := by decide +kernel
theorem dX6_on_23 : decode cX6_on 23 = .ok (.aload_n 0, 1) := by decide +kernel
theorem dX6_on_24 : decode cX6_on 24 = .ok (.getfield 12, 3) := by decide +kernel
theorem dX6_on_27 : decode cX6_on 27 = .ok (.iload_n 1, 1) := by decide +kernel
theorem dX6_on_28 : decode cX6_on 28 = .ok (.invokevirtual 99, 3) := by decide +kernel
theorem dX6_on_31 : decode cX6_on 31 = .ok (.ifCond .eq 7, 3) := by decide +kernel
theorem dX6_on_34 : decode cX6_on 34 = .ok (.iconst 1, 1) := by decide +kernel
theorem dX6_on_35 : decode cX6_on 35 = .ok (.goto 4, 3) := by decide +kernel
theorem dX6_on_38 : decode cX6_on 38 = .ok (.iconst 0, 1) := by decide +kernel
theorem dX6_on_39 : decode cX6_on 39 = .ok (.istore_n 3, 1) := by decide +kernel
theorem dX6_on_40 : decode cX6_on 40 = .ok (.aload_n 0, 1) := by decide +kernel
theorem dX6_on_41 : decode cX6_on 41 = .ok (.getfield 12, 3) := by decide +kernel
theorem dX6_on_44 : decode cX6_on 44 = .ok (.iload_n 1, 1) := by decide +kernel
theorem dX6_on_45 : decode cX6_on 45 = .ok (.iload_n 2, 1) := by decide +kernel
theorem dX6_on_46 : decode cX6_on 46 = .ok (.iconst 1, 1) := by decide +kernel
theorem dX6_on_47 : decode cX6_on 47 = .ok (.if_icmp .ne 7, 3) := by decide +kernel
theorem dX6_on_50 : decode cX6_on 50 = .ok (.iconst 1, 1) := by decide +kernel
theorem dX6_on_51 : decode cX6_on 51 = .ok (.goto 4, 3) := by decide +kernel
theorem dX6_on_54 : decode cX6_on 54 = .ok (.iconst 0, 1) := by decide +kernel
theorem dX6_on_55 : decode cX6_on 55 = .ok (.invokevirtual 116, 3) := by decide +kernel
theorem dX6_on_58 : decode cX6_on 58 = .ok (.iload_n 3, 1) := by decide +kernel
theorem dX6_on_59 : decode cX6_on 59 = .ok (.ireturn, 1) := by decide +kernel
theorem dX6_pictures_0 : decode cX6_pictures 0 = .ok (.iload_n 1, 1) := by decide +kernel
theorem dX6_pictures_1 : decode cX6_pictures 1 = .ok (.iconst 1, 1) := by decide +kernel
theorem dX6_pictures_2 : decode cX6_pictures 2 = .ok (.iconst 4, 1) := by decide +kernel
theorem dX6_pictures_3 : decode cX6_pictures 3 = .ok (.invokestatic 108, 3) := by decide +kernel
theorem dX6_pictures_6 : decode cX6_pictures 6 = .ok (.ifCond .ne 9, 3) := by decide +kernel
theorem dX6_pictures_9 : decode cX6_pictures 9 = .ok (.aload_n 0, 1) := by decide +kernel
theorem dX6_pictures_10 : decode cX6_pictures 10 = .ok (.iconst 1, 1) := by decide +kernel
theorem dX6_pictures_11 : decode cX6_pictures 11 = .ok (.invokevirtual 69, 3) := by decide +kernel
theorem dX6_pictures_14 : decode cX6_pictures 14 = .ok (.ireturn, 1) := by decide +kernel
theorem dX6_pictures_15 : decode cX6_pictures 15 = .ok (.aload_n 0, 1) := by decide +kernel
theorem dX6_pictures_16 : decode cX6_pictures 16 = .ok (.getfield 12, 3) := by decide +kernel
theorem dX6_pictures_19 : decode cX6_pictures 19 = .ok (.invokevirtual 120, 3) := by decide +kernel
theorem dX6_pictures_22 : decode cX6_pictures 22 = .ok (.iload_n 1, 1) := by decide +kernel
theorem dX6_pictures_23 : decode cX6_pictures 23 = .ok (.if_icmp .lt 9, 3) := by decide +kernel
theorem dX6_pictures_26 : decode cX6_pictures 26 = .ok (.aload_n 0, 1) := by decide +kernel
theorem dX6_pictures_27 : decode cX6_pictures 27 = .ok (.iconst 3, 1) := by decide +kernel
theorem dX6_pictures_28 : decode cX6_pictures 28 = .ok (.invokevirtual 69, 3) := by decide +kernel
theorem dX6_pictures_31 : decode cX6_pictures 31 = .ok (.ireturn, 1) := by decide +kernel
theorem dX6_pictures_32 : decode cX6_pictures 32 = .ok (.aload_n 0, 1) := by decide +kernel
theorem dX6_pictures_33 : decode cX6_pictures 33 = .ok (.getfield 12, 3) := by decide +kernel
theorem dX6_pictures_36 : decode cX6_pictures 36 = .ok (.getfield 124, 3) := by decide +kernel
theorem dX6_pictures_39 : decode cX6_pictures 39 = .ok (.istore_n 2, 1) := by decide +kernel
theorem dX6_pictures_40 : decode cX6_pictures 40 = .ok (.aload_n 0, 1) := by decide +kernel
theorem dX6_pictures_41 : decode cX6_pictures 41 = .ok (.getfield 12, 3) := by decide +kernel
theorem dX6_pictures_44 : decode cX6_pictures 44 = .ok (.iload_n 1, 1) := by decide +kernel
theorem dX6_pictures_45 : decode cX6_pictures 45 = .ok (.putfield 124, 3) := by decide +kernel
theorem dX6_pictures_48 : decode cX6_pictures 48 = .ok (.iload_n 2, 1) := by decide +kernel
theorem dX6_pictures_49 : decode cX6_pictures 49 = .ok (.ireturn, 1) := by decide +kernel
theorem dX6_limit_0 : decode cX6_limit 0 = .ok (.iload_n 1, 1) := by decide +kernel
theorem dX6_limit_1 : decode cX6_limit 1 = .ok (.iconst 0, 1) := by decide +kernel
theorem dX6_limit_2 : decode cX6_limit 2 = .ok (.bipush 99, 2) := by decide +kernel
theorem dX6_limit_4 : decode cX6_limit 4 = .ok (.invokestatic 108, 3) := by decide +kernel
theorem dX6_limit_7 : decode cX6_limit 7 = .ok (.ifCond .ne 9, 3) := by decide +kernel
theorem dX6_limit_10 : decode cX6_limit 10 = .ok (.aload_n 0, 1) := by decide +kernel
theorem dX6_limit_11 : decode cX6_limit 11 = .ok (.iconst 1, 1) := by decide +kernel
theorem dX6_limit_12 : decode cX6_limit 12 = .ok (.invokevirtual 69, 3) := by decide +kernel
theorem dX6_limit_15 : decode cX6_limit 15 = .ok (.ireturn, 1) := by decide +kernel
theorem dX6_limit_16 : decode cX6_limit 16 = .ok (.aload_n 0, 1) := by decide +kernel
theorem dX6_limit_17 : decode cX6_limit 17 = .ok (.getfield 12, 3) := by decide +kernel
theorem dX6_limit_20 : decode cX6_limit 20 = .ok (.getfield 127, 3) := by decide +kernel
theorem dX6_limit_23 : decode cX6_limit 23 = .ok (.istore_n 2, 1) := by decide +kernel
theorem dX6_limit_24 : decode cX6_limit 24 = .ok (.aload_n 0, 1) := by decide +kernel
theorem dX6_limit_25 : decode cX6_limit 25 = .ok (.getfield 12, 3) := by decide +kernel
theorem dX6_limit_28 : decode cX6_limit 28 = .ok (.iload_n 1, 1) := by decide +kernel
theorem dX6_limit_29 : decode cX6_limit 29 = .ok (.putfield 127, 3) := by decide +kernel
theorem dX6_limit_32 : decode cX6_limit 32 = .ok (.iload_n 2, 1) := by decide +kernel
theorem dX6_limit_33 : decode cX6_limit 33 = .ok (.ireturn, 1) := by decide +kernel
theorem dX6_feed_0 : decode cX6_feed 0 = .ok (.iload_n 3, 1) := by decide +kernel
theorem dX6_feed_1 : decode cX6_feed 1 = .ok (.iconst 1, 1) := by decide +kernel
theorem dX6_feed_2 : decode cX6_feed 2 = .ok (.bipush 8, 2) := by decide +kernel
theorem dX6_feed_4 : decode cX6_feed 4 = .ok (.invokestatic 108, 3) := by decide +kernel
theorem dX6_feed_7 : decode cX6_feed 7 = .ok (.ifCond .ne 9, 3) := by decide +kernel
theorem dX6_feed_10 : decode cX6_feed 10 = .ok (.aload_n 0, 1) := by decide +kernel
theorem dX6_feed_11 : decode cX6_feed 11 = .ok (.iconst 1, 1) := by decide +kernel
theorem dX6_feed_12 : decode cX6_feed 12 = .ok (.invokevirtual 69, 3) := by decide +kernel
theorem dX6_feed_15 : decode cX6_feed 15 = .ok (.ireturn, 1) := by decide +kernel
theorem dX6_feed_16 : decode cX6_feed 16 = .ok (.iload_n 3, 1) := by decide +kernel
theorem dX6_feed_17 : decode cX6_feed 17 = .ok (.bipush 60, 2) := by decide +kernel
theorem dX6_feed_19 : decode cX6_feed 19 = .ok (.aload_n 0, 1) := by decide +kernel
theorem dX6_feed_20 : decode cX6_feed 20 = .ok (.getfield 12, 3) := by decide +kernel
theorem dX6_feed_23 : decode cX6_feed 23 = .ok (.getfield 130, 3) := by decide +kernel
theorem dX6_feed_26 : decode cX6_feed 26 = .ok (.isub, 1) := by decide +kernel
theorem dX6_feed_27 : decode cX6_feed 27 = .ok (.if_icmp .le 9, 3) := by decide +kernel
theorem dX6_feed_30 : decode cX6_feed 30 = .ok (.aload_n 0, 1) := by decide +kernel
theorem dX6_feed_31 : decode cX6_feed 31 = .ok (.iconst 4, 1) := by decide +kernel
theorem dX6_feed_32 : decode cX6_feed 32 = .ok (.invokevirtual 69, 3) := by decide +kernel
theorem dX6_feed_35 : decode cX6_feed 35 = .ok (.ireturn, 1) := by decide +kernel
theorem dX6_feed_36 : decode cX6_feed 36 = .ok (.iconst 0, 1) := by decide +kernel
theorem dX6_feed_37 : decode cX6_feed 37 = .ok (.istore 4, 2) := by decide +kernel
theorem dX6_feed_39 : decode cX6_feed 39 = .ok (.iload 4, 2) := by decide +kernel
theorem dX6_feed_41 : decode cX6_feed 41 = .ok (.iload_n 3, 1) := by decide +kernel
theorem dX6_feed_42 : decode cX6_feed 42 = .ok (.if_icmp .ge 49, 3) := by decide +kernel
theorem dX6_feed_45 : decode cX6_feed 45 = .ok (.aload_n 0, 1) := by decide +kernel
theorem dX6_feed_46 : decode cX6_feed 46 = .ok (.getfield 12, 3) := by decide +kernel
theorem dX6_feed_49 : decode cX6_feed 49 = .ok (.getfield 24, 3) := by decide +kernel
theorem dX6_feed_52 : decode cX6_feed 52 = .ok (.aload_n 0, 1) := by decide +kernel
theorem dX6_feed_53 : decode cX6_feed 53 = .ok (.getfield 12, 3) := by decide +kernel
theorem dX6_feed_56 : decode cX6_feed 56 = .ok (.getfield 130, 3) := by decide +kernel
theorem dX6_feed_59 : decode cX6_feed 59 = .ok (.lload_n 1, 1) := by decide +kernel
theorem dX6_feed_60 : decode cX6_feed 60 = .ok (.bipush 8, 2) := by decide +kernel
theorem dX6_feed_62 : decode cX6_feed 62 = .ok (.iload 4, 2) := by decide +kernel
theorem dX6_feed_64 : decode cX6_feed 64 = .ok (.imul, 1) := by decide +kernel
theorem dX6_feed_65 : decode cX6_feed 65 = .ok (.lushr, 1) := by decide +kernel
theorem dX6_feed_66 : decode cX6_feed 66 = .ok (.l2i, 1) := by decide +kernel
theorem dX6_feed_67 : decode cX6_feed 67 = .ok (.sipush 255, 3) := by decide +kernel
theorem dX6_feed_70 : decode cX6_feed 70 = .ok (.iand, 1) := by decide +kernel
theorem dX6_feed_71 : decode cX6_feed 71 = .ok (.iastore, 1) := by decide +kernel
theorem dX6_feed_72 : decode cX6_feed 72 = .ok (.aload_n 0, 1) := by decide +kernel
theorem dX6_feed_73 : decode cX6_feed 73 = .ok (.getfield 12, 3) := by decide +kernel
theorem dX6_feed_76 : decode cX6_feed 76 = .ok (.dup, 1) := by decide +kernel
theorem dX6_feed_77 : decode cX6_feed 77 = .ok (.getfield 130, 3) := by decide +kernel
theorem dX6_feed_80 : decode cX6_feed 80 = .ok (.iconst 1, 1) := by decide +kernel
theorem dX6_feed_81 : decode cX6_feed 81 = .ok (.iadd, 1) := by decide +kernel
theorem dX6_feed_82 : decode cX6_feed 82 = .ok (.putfield 130, 3) := by decide +kernel
theorem dX6_feed_85 : decode cX6_feed 85 = .ok (.iinc 4 1, 3) := by decide +kernel
theorem dX6_feed_88 : decode cX6_feed 88 = .ok (.goto (-49), 3) := by decide +kernel
theorem dX6_feed_91 : decode cX6_feed 91 = .ok (.aload_n 0, 1) := by decide +kernel
theorem dX6_feed_92 : decode cX6_feed 92 = .ok (.getfield 12, 3) := by decide +kernel
theorem dX6_feed_95 : decode cX6_feed 95 = .ok (.getfield 130, 3) := by decide +kernel
theorem dX6_feed_98 : decode cX6_feed 98 = .ok (.ireturn, 1) := by decide +kernel
theorem dX6_text_0 : decode cX6_text 0 = .ok (.iload_n 1, 1) := by decide +kernel
theorem dX6_text_1 : decode cX6_text 1 = .ok (.invokestatic 133, 3) := by decide +kernel
theorem dX6_text_4 : decode cX6_text 4 = .ok (.ifCond .ne 9, 3) := by decide +kernel
theorem dX6_text_7 : decode cX6_text 7 = .ok (.aload_n 0, 1) := by decide +kernel
theorem dX6_text_8 : decode cX6_text 8 = .ok (.iconst 1, 1) := by decide +kernel
theorem dX6_text_9 : decode cX6_text 9 = .ok (.invokevirtual 69, 3) := by decide +kernel
theorem dX6_text_12 : decode cX6_text 12 = .ok (.ireturn, 1) := by decide +kernel
theorem dX6_text_13 : decode cX6_text 13 = .ok (.aload_n 0, 1) := by decide +kernel
theorem dX6_text_14 : decode cX6_text 14 = .ok (.getfield 31, 3) := by decide +kernel
theorem dX6_text_17 : decode cX6_text 17 = .ok (.aload_n 0, 1) := by decide +kernel
theorem dX6_text_18 : decode cX6_text 18 = .ok (.getfield 12, 3) := by decide +kernel
theorem dX6_text_21 : decode cX6_text 21 = .ok (.getfield 130, 3) := by decide +kernel
theorem dX6_text_24 : decode cX6_text 24 = .ok (.aload_n 0, 1) := by decide +kernel
theorem dX6_text_25 : decode cX6_text 25 = .ok (.getfield 12, 3) := by decide +kernel
theorem dX6_text_28 : decode cX6_text 28 = .ok (.getfield 136, 3) := by decide +kernel
theorem dX6_text_31 : decode cX6_text 31 = .ok (.iload_n 1, 1) := by decide +kernel
theorem dX6_text_32 : decode cX6_text 32 = .ok (.aaload, 1) := by decide +kernel
theorem dX6_text_33 : decode cX6_text 33 = .ok (.getfield 140, 3) := by decide +kernel
theorem dX6_text_36 : decode cX6_text 36 = .ok (.invokevirtual 146, 3) := by decide +kernel
theorem dX6_text_39 : decode cX6_text 39 = .ok (.istore_n 2, 1) := by decide +kernel
theorem dX6_text_40 : decode cX6_text 40 = .ok (.aload_n 0, 1) := by decide +kernel
theorem dX6_text_41 : decode cX6_text 41 = .ok (.getfield 12, 3) := by decide +kernel
theorem dX6_text_44 : decode cX6_text 44 = .ok (.iconst 0, 1) := by decide +kernel
theorem dX6_text_45 : decode cX6_text 45 = .ok (.putfield 130, 3) := by decide +kernel
theorem dX6_text_48 : decode cX6_text 48 = .ok (.iload_n 2, 1) := by decide +kernel
theorem dX6_text_49 : decode cX6_text 49 = .ok (.ifCond .lt 8, 3) := by decide +kernel
theorem dX6_text_52 : decode cX6_text 52 = .ok (.bipush (-10), 2) := by decide +kernel
theorem dX6_text_54 : decode cX6_text 54 = .ok (.iload_n 2, 1) := by decide +kernel
theorem dX6_text_55 : decode cX6_text 55 = .ok (.isub, 1) := by decide +kernel
theorem dX6_text_56 : decode cX6_text 56 = .ok (.ireturn, 1) := by decide +kernel
theorem dX6_text_57 : decode cX6_text 57 = .ok (.aload_n 0, 1) := by decide +kernel
theorem dX6_text_58 : decode cX6_text 58 = .ok (.getfield 12, 3) := by decide +kernel
theorem dX6_text_61 : decode cX6_text 61 = .ok (.getfield 136, 3) := by decide +kernel
theorem dX6_text_64 : decode cX6_text 64 = .ok (.iload_n 1, 1) := by decide +kernel
theorem dX6_text_65 : decode cX6_text 65 = .ok (.aaload, 1) := by decide +kernel
theorem dX6_text_66 : decode cX6_text 66 = .ok (.aload_n 0, 1) := by decide +kernel
theorem dX6_text_67 : decode cX6_text 67 = .ok (.getfield 31, 3) := by decide +kernel
theorem dX6_text_70 : decode cX6_text 70 = .ok (.getfield 150, 3) := by decide +kernel
theorem dX6_text_73 : decode cX6_text 73 = .ok (.aload_n 0, 1) := by decide +kernel
theorem dX6_text_74 : decode cX6_text 74 = .ok (.getfield 31, 3) := by decide +kernel
theorem dX6_text_77 : decode cX6_text 77 = .ok (.getfield 153, 3) := by decide +kernel
theorem dX6_text_80 : decode cX6_text 80 = .ok (.invokevirtual 156, 3) := by decide +kernel
theorem dX6_text_83 : decode cX6_text 83 = .ok (.iconst 1, 1) := by decide +kernel
theorem dX6_text_84 : decode cX6_text 84 = .ok (.ireturn, 1) := by decide +kernel
theorem dX6_untell_0 : decode cX6_untell 0 = .ok (.iload_n 1, 1) := by decide +kernel
theorem dX6_untell_1 : decode cX6_untell 1 = .ok (.invokestatic 133, 3) := by decide +kernel
theorem dX6_untell_4 : decode cX6_untell 4 = .ok (.ifCond .ne 9, 3) := by decide +kernel
theorem dX6_untell_7 : decode cX6_untell 7 = .ok (.aload_n 0, 1) := by decide +kernel
theorem dX6_untell_8 : decode cX6_untell 8 = .ok (.iconst 1, 1) := by decide +kernel
theorem dX6_untell_9 : decode cX6_untell 9 = .ok (.invokevirtual 69, 3) := by decide +kernel
theorem dX6_untell_12 : decode cX6_untell 12 = .ok (.ireturn, 1) := by decide +kernel
theorem dX6_untell_13 : decode cX6_untell 13 = .ok (.aload_n 0, 1) := by decide +kernel
theorem dX6_untell_14 : decode cX6_untell 14 = .ok (.getfield 12, 3) := by decide +kernel
theorem dX6_untell_17 : decode cX6_untell 17 = .ok (.getfield 136, 3) := by decide +kernel
theorem dX6_untell_20 : decode cX6_untell 20 = .ok (.iload_n 1, 1) := by decide +kernel
theorem dX6_untell_21 : decode cX6_untell 21 = .ok (.aaload, 1) := by decide +kernel
theorem dX6_untell_22 : decode cX6_untell 22 = .ok (.invokevirtual 160, 3) := by decide +kernel
theorem dX6_untell_25 : decode cX6_untell 25 = .ok (.ifCond .eq 7, 3) := by decide +kernel
theorem dX6_untell_28 : decode cX6_untell 28 = .ok (.iconst 1, 1) := by decide +kernel
theorem dX6_untell_29 : decode cX6_untell 29 = .ok (.goto 4, 3) := by decide +kernel
theorem dX6_untell_32 : decode cX6_untell 32 = .ok (.iconst 0, 1) := by decide +kernel
theorem dX6_untell_33 : decode cX6_untell 33 = .ok (.istore_n 2, 1) := by decide +kernel
theorem dX6_untell_34 : decode cX6_untell 34 = .ok (.aload_n 0, 1) := by decide +kernel
theorem dX6_untell_35 : decode cX6_untell 35 = .ok (.getfield 12, 3) := by decide +kernel
theorem dX6_untell_38 : decode cX6_untell 38 = .ok (.getfield 136, 3) := by decide +kernel
theorem dX6_untell_41 : decode cX6_untell 41 = .ok (.iload_n 1, 1) := by decide +kernel
theorem dX6_untell_42 : decode cX6_untell 42 = .ok (.aaload, 1) := by decide +kernel
theorem dX6_untell_43 : decode cX6_untell 43 = .ok (.invokevirtual 164, 3) := by decide +kernel
theorem dX6_untell_46 : decode cX6_untell 46 = .ok (.iload_n 2, 1) := by decide +kernel
theorem dX6_untell_47 : decode cX6_untell 47 = .ok (.ireturn, 1) := by decide +kernel
theorem dX6_law_0 : decode cX6_law 0 = .ok (.iload_n 1, 1) := by decide +kernel
theorem dX6_law_1 : decode cX6_law 1 = .ok (.invokestatic 133, 3) := by decide +kernel
theorem dX6_law_4 : decode cX6_law 4 = .ok (.ifCond .eq 22, 3) := by decide +kernel
theorem dX6_law_7 : decode cX6_law 7 = .ok (.aload_n 0, 1) := by decide +kernel
theorem dX6_law_8 : decode cX6_law 8 = .ok (.getfield 12, 3) := by decide +kernel
theorem dX6_law_11 : decode cX6_law 11 = .ok (.getfield 136, 3) := by decide +kernel
theorem dX6_law_14 : decode cX6_law 14 = .ok (.iload_n 1, 1) := by decide +kernel
theorem dX6_law_15 : decode cX6_law 15 = .ok (.aaload, 1) := by decide +kernel
theorem dX6_law_16 : decode cX6_law 16 = .ok (.iload_n 2, 1) := by decide +kernel
theorem dX6_law_17 : decode cX6_law 17 = .ok (.iload_n 3, 1) := by decide +kernel
theorem dX6_law_18 : decode cX6_law 18 = .ok (.iload 4, 2) := by decide +kernel
theorem dX6_law_20 : decode cX6_law 20 = .ok (.invokevirtual 167, 3) := by decide +kernel
theorem dX6_law_23 : decode cX6_law 23 = .ok (.goto 8, 3) := by decide +kernel
theorem dX6_law_26 : decode cX6_law 26 = .ok (.aload_n 0, 1) := by decide +kernel
theorem dX6_law_27 : decode cX6_law 27 = .ok (.iconst 1, 1) := by decide +kernel
theorem dX6_law_28 : decode cX6_law 28 = .ok (.invokevirtual 69, 3) := by decide +kernel
theorem dX6_law_31 : decode cX6_law 31 = .ok (.ireturn, 1) := by decide +kernel
theorem dX6_rounds_0 : decode cX6_rounds 0 = .ok (.iload_n 1, 1) := by decide +kernel
theorem dX6_rounds_1 : decode cX6_rounds 1 = .ok (.iconst 1, 1) := by decide +kernel
theorem dX6_rounds_2 : decode cX6_rounds 2 = .ok (.bipush 60, 2) := by decide +kernel
theorem dX6_rounds_4 : decode cX6_rounds 4 = .ok (.invokestatic 108, 3) := by decide +kernel
theorem dX6_rounds_7 : decode cX6_rounds 7 = .ok (.ifCond .ne 9, 3) := by decide +kernel
theorem dX6_rounds_10 : decode cX6_rounds 10 = .ok (.aload_n 0, 1) := by decide +kernel
theorem dX6_rounds_11 : decode cX6_rounds 11 = .ok (.iconst 1, 1) := by decide +kernel
theorem dX6_rounds_12 : decode cX6_rounds 12 = .ok (.invokevirtual 69, 3) := by decide +kernel
theorem dX6_rounds_15 : decode cX6_rounds 15 = .ok (.ireturn, 1) := by decide +kernel
theorem dX6_rounds_16 : decode cX6_rounds 16 = .ok (.aload_n 0, 1) := by decide +kernel
theorem dX6_rounds_17 : decode cX6_rounds 17 = .ok (.getfield 12, 3) := by decide +kernel
theorem dX6_rounds_20 : decode cX6_rounds 20 = .ok (.getfield 171, 3) := by decide +kernel
theorem dX6_rounds_23 : decode cX6_rounds 23 = .ok (.sipush 9999, 3) := by decide +kernel
theorem dX6_rounds_26 : decode cX6_rounds 26 = .ok (.iload_n 1, 1) := by decide +kernel
theorem dX6_rounds_27 : decode cX6_rounds 27 = .ok (.isub, 1) := by decide +kernel
theorem dX6_rounds_28 : decode cX6_rounds 28 = .ok (.if_icmp .le 9, 3) := by decide +kernel
theorem dX6_rounds_31 : decode cX6_rounds 31 = .ok (.aload_n 0, 1) := by decide +kernel
theorem dX6_rounds_32 : decode cX6_rounds 32 = .ok (.iconst 3, 1) := by decide +kernel
theorem dX6_rounds_33 : decode cX6_rounds 33 = .ok (.invokevirtual 69, 3) := by decide +kernel
theorem dX6_rounds_36 : decode cX6_rounds 36 = .ok (.ireturn, 1) := by decide +kernel
theorem dX6_rounds_37 : decode cX6_rounds 37 = .ok (.iconst 0, 1) := by decide +kernel
theorem dX6_rounds_38 : decode cX6_rounds 38 = .ok (.istore_n 2, 1) := by decide +kernel
theorem dX6_rounds_39 : decode cX6_rounds 39 = .ok (.iload_n 2, 1) := by decide +kernel
theorem dX6_rounds_40 : decode cX6_rounds 40 = .ok (.iload_n 1, 1) := by decide +kernel
theorem dX6_rounds_41 : decode cX6_rounds 41 = .ok (.if_icmp .ge 20, 3) := by decide +kernel
theorem dX6_rounds_44 : decode cX6_rounds 44 = .ok (.aload_n 0, 1) := by decide +kernel
theorem dX6_rounds_45 : decode cX6_rounds 45 = .ok (.getfield 38, 3) := by decide +kernel
theorem dX6_rounds_48 : decode cX6_rounds 48 = .ok (.aload_n 0, 1) := by decide +kernel
theorem dX6_rounds_49 : decode cX6_rounds 49 = .ok (.getfield 12, 3) := by decide +kernel
theorem dX6_rounds_52 : decode cX6_rounds 52 = .ok (.invokevirtual 174, 3) := by decide +kernel
theorem dX6_rounds_55 : decode cX6_rounds 55 = .ok (.iinc 2 1, 3) := by decide +kernel
theorem dX6_rounds_58 : decode cX6_rounds 58 = .ok (.goto (-19), 3) := by decide +kernel
theorem dX6_rounds_61 : decode cX6_rounds 61 = .ok (.aload_n 0, 1) := by decide +kernel
theorem dX6_rounds_62 : decode cX6_rounds 62 = .ok (.getfield 12, 3) := by decide +kernel
theorem dX6_rounds_65 : decode cX6_rounds 65 = .ok (.getfield 178, 3) := by decide +kernel
theorem dX6_rounds_68 : decode cX6_rounds 68 = .ok (.invokestatic 181, 3) := by decide +kernel
theorem dX6_rounds_71 : decode cX6_rounds 71 = .ok (.ireturn, 1) := by decide +kernel
theorem dX6_loose_0 : decode cX6_loose 0 = .ok (.iload_n 1, 1) := by decide +kernel
theorem dX6_loose_1 : decode cX6_loose 1 = .ok (.iconst 1, 1) := by decide +kernel
theorem dX6_loose_2 : decode cX6_loose 2 = .ok (.bipush 30, 2) := by decide +kernel
theorem dX6_loose_4 : decode cX6_loose 4 = .ok (.invokestatic 108, 3) := by decide +kernel
theorem dX6_loose_7 : decode cX6_loose 7 = .ok (.ifCond .ne 9, 3) := by decide +kernel
theorem dX6_loose_10 : decode cX6_loose 10 = .ok (.aload_n 0, 1) := by decide +kernel
theorem dX6_loose_11 : decode cX6_loose 11 = .ok (.iconst 1, 1) := by decide +kernel
theorem dX6_loose_12 : decode cX6_loose 12 = .ok (.invokevirtual 69, 3) := by decide +kernel
theorem dX6_loose_15 : decode cX6_loose 15 = .ok (.ireturn, 1) := by decide +kernel
theorem dX6_loose_16 : decode cX6_loose 16 = .ok (.aload_n 0, 1) := by decide +kernel
theorem dX6_loose_17 : decode cX6_loose 17 = .ok (.getfield 12, 3) := by decide +kernel
theorem dX6_loose_20 : decode cX6_loose 20 = .ok (.getfield 171, 3) := by decide +kernel
theorem dX6_loose_23 : decode cX6_loose 23 = .ok (.sipush 9999, 3) := by decide +kernel
theorem dX6_loose_26 : decode cX6_loose 26 = .ok (.iload_n 1, 1) := by decide +kernel
theorem dX6_loose_27 : decode cX6_loose 27 = .ok (.isub, 1) := by decide +kernel
theorem dX6_loose_28 : decode cX6_loose 28 = .ok (.if_icmp .le 9, 3) := by decide +kernel
theorem dX6_loose_31 : decode cX6_loose 31 = .ok (.aload_n 0, 1) := by decide +kernel
theorem dX6_loose_32 : decode cX6_loose 32 = .ok (.iconst 3, 1) := by decide +kernel
theorem dX6_loose_33 : decode cX6_loose 33 = .ok (.invokevirtual 69, 3) := by decide +kernel
theorem dX6_loose_36 : decode cX6_loose 36 = .ok (.ireturn, 1) := by decide +kernel
theorem dX6_loose_37 : decode cX6_loose 37 = .ok (.iconst 0, 1) := by decide +kernel
theorem dX6_loose_38 : decode cX6_loose 38 = .ok (.istore_n 2, 1) := by decide +kernel
theorem dX6_loose_39 : decode cX6_loose 39 = .ok (.iload_n 2, 1) := by decide +kernel
theorem dX6_loose_40 : decode cX6_loose 40 = .ok (.iload_n 1, 1) := by decide +kernel
theorem dX6_loose_41 : decode cX6_loose 41 = .ok (.if_icmp .ge 27, 3) := by decide +kernel
theorem dX6_loose_44 : decode cX6_loose 44 = .ok (.aload_n 0, 1) := by decide +kernel
theorem dX6_loose_45 : decode cX6_loose 45 = .ok (.getfield 12, 3) := by decide +kernel
theorem dX6_loose_48 : decode cX6_loose 48 = .ok (.invokevirtual 186, 3) := by decide +kernel
theorem dX6_loose_51 : decode cX6_loose 51 = .ok (.aload_n 0, 1) := by decide +kernel
theorem dX6_loose_52 : decode cX6_loose 52 = .ok (.getfield 38, 3) := by decide +kernel
theorem dX6_loose_55 : decode cX6_loose 55 = .ok (.aload_n 0, 1) := by decide +kernel
theorem dX6_loose_56 : decode cX6_loose 56 = .ok (.getfield 12, 3) := by decide +kernel
theorem dX6_loose_59 : decode cX6_loose 59 = .ok (.invokevirtual 174, 3) := by decide +kernel
theorem dX6_loose_62 : decode cX6_loose 62 = .ok (.iinc 2 1, 3) := by decide +kernel
theorem dX6_loose_65 : decode cX6_loose 65 = .ok (.goto (-26), 3) := by decide +kernel
theorem dX6_loose_68 : decode cX6_loose 68 = .ok (.aload_n 0, 1) := by decide +kernel
theorem dX6_loose_69 : decode cX6_loose 69 = .ok (.getfield 12, 3) := by decide +kernel
theorem dX6_loose_72 : decode cX6_loose 72 = .ok (.getfield 178, 3) := by decide +kernel
theorem dX6_loose_75 : decode cX6_loose 75 = .ok (.invokestatic 181, 3) := by decide +kernel
theorem dX6_loose_78 : decode cX6_loose 78 = .ok (.ireturn, 1) := by decide +kernel
theorem dX6_round_0 : decode cX6_round 0 = .ok (.iload_n 1, 1) := by decide +kernel
theorem dX6_round_1 : decode cX6_round 1 = .ok (.iconst 0, 1) := by decide +kernel
theorem dX6_round_2 : decode cX6_round 2 = .ok (.sipush 9999, 3) := by decide +kernel
theorem dX6_round_5 : decode cX6_round 5 = .ok (.invokestatic 108, 3) := by decide +kernel
theorem dX6_round_8 : decode cX6_round 8 = .ok (.ifCond .ne 9, 3) := by decide +kernel
theorem dX6_round_11 : decode cX6_round 11 = .ok (.aload_n 0, 1) := by decide +kernel
theorem dX6_round_12 : decode cX6_round 12 = .ok (.iconst 1, 1) := by decide +kernel
theorem dX6_round_13 : decode cX6_round 13 = .ok (.invokevirtual 69, 3) := by decide +kernel
theorem dX6_round_16 : decode cX6_round 16 = .ok (.ireturn, 1) := by decide +kernel
theorem dX6_round_17 : decode cX6_round 17 = .ok (.aload_n 0, 1) := by decide +kernel
theorem dX6_round_18 : decode cX6_round 18 = .ok (.getfield 12, 3) := by decide +kernel
theorem dX6_round_21 : decode cX6_round 21 = .ok (.getfield 171, 3) := by decide +kernel
theorem dX6_round_24 : decode cX6_round 24 = .ok (.istore_n 2, 1) := by decide +kernel
theorem dX6_round_25 : decode cX6_round 25 = .ok (.aload_n 0, 1) := by decide +kernel
theorem dX6_round_26 : decode cX6_round 26 = .ok (.getfield 12, 3) := by decide +kernel
theorem dX6_round_29 : decode cX6_round 29 = .ok (.iload_n 1, 1) := by decide +kernel
theorem dX6_round_30 : decode cX6_round 30 = .ok (.putfield 171, 3) := by decide +kernel
theorem dX6_round_33 : decode cX6_round 33 = .ok (.iload_n 2, 1) := by decide +kernel
theorem dX6_round_34 : decode cX6_round 34 = .ok (.ireturn, 1) := by decide +kernel
theorem dX6_seed_0 : decode cX6_seed 0 = .ok (.aload_n 0, 1) := by decide +kernel
theorem dX6_seed_1 : decode cX6_seed 1 = .ok (.getfield 12, 3) := by decide +kernel
theorem dX6_seed_4 : decode cX6_seed 4 = .ok (.getfield 189, 3) := by decide +kernel
theorem dX6_seed_7 : decode cX6_seed 7 = .ok (.istore_n 2, 1) := by decide +kernel
theorem dX6_seed_8 : decode cX6_seed 8 = .ok (.aload_n 0, 1) := by decide +kernel
theorem dX6_seed_9 : decode cX6_seed 9 = .ok (.getfield 12, 3) := by decide +kernel
theorem dX6_seed_12 : decode cX6_seed 12 = .ok (.iload_n 1, 1) := by decide +kernel
theorem dX6_seed_13 : decode cX6_seed 13 = .ok (.putfield 189, 3) := by decide +kernel
theorem dX6_seed_16 : decode cX6_seed 16 = .ok (.iload_n 2, 1) := by decide +kernel
theorem dX6_seed_17 : decode cX6_seed 17 = .ok (.ireturn, 1) := by decide +kernel
theorem dX6_place_0 : decode cX6_place 0 = .ok (.aload_n 0, 1) := by decide +kernel
theorem dX6_place_1 : decode cX6_place 1 = .ok (.iload_n 1, 1) := by decide +kernel
theorem dX6_place_2 : decode cX6_place 2 = .ok (.invokevirtual 63, 3) := by decide +kernel
theorem dX6_place_5 : decode cX6_place 5 = .ok (.ifCond .eq 10, 3) := by decide +kernel
theorem dX6_place_8 : decode cX6_place 8 = .ok (.iload_n 2, 1) := by decide +kernel
theorem dX6_place_9 : decode cX6_place 9 = .ok (.invokestatic 192, 3) := by decide +kernel
theorem dX6_place_12 : decode cX6_place 12 = .ok (.ifCond .ne 10, 3) := by decide +kernel
theorem dX6_place_15 : decode cX6_place 15 = .ok (.aload_n 0, 1) := by decide +kernel
theorem dX6_place_16 : decode cX6_place 16 = .ok (.iconst 1, 1) := by decide +kernel
theorem dX6_place_17 : decode cX6_place 17 = .ok (.invokevirtual 69, 3) := by decide +kernel
theorem dX6_place_20 : decode cX6_place 20 = .ok (.i2l, 1) := by decide +kernel
theorem dX6_place_21 : decode cX6_place 21 = .ok (.lreturn, 1) := by decide +kernel
theorem dX6_place_22 : decode cX6_place 22 = .ok (.aload_n 0, 1) := by decide +kernel
theorem dX6_place_23 : decode cX6_place 23 = .ok (.getfield 38, 3) := by decide +kernel
theorem dX6_place_26 : decode cX6_place 26 = .ok (.aload_n 0, 1) := by decide +kernel
theorem dX6_place_27 : decode cX6_place 27 = .ok (.getfield 12, 3) := by decide +kernel
theorem dX6_place_30 : decode cX6_place 30 = .ok (.invokevirtual 195, 3) := by decide +kernel
theorem dX6_place_33 : decode cX6_place 33 = .ok (.ifCond .ne 10, 3) := by decide +kernel
theorem dX6_place_36 : decode cX6_place 36 = .ok (.aload_n 0, 1) := by decide +kernel
theorem dX6_place_37 : decode cX6_place 37 = .ok (.iconst 3, 1) := by decide +kernel
theorem dX6_place_38 : decode cX6_place 38 = .ok (.invokevirtual 69, 3) := by decide +kernel
theorem dX6_place_41 : decode cX6_place 41 = .ok (.i2l, 1) := by decide +kernel
theorem dX6_place_42 : decode cX6_place 42 = .ok (.lreturn, 1) := by decide +kernel
theorem dX6_place_43 : decode cX6_place 43 = .ok (.aload_n 0, 1) := by decide +kernel
theorem dX6_place_44 : decode cX6_place 44 = .ok (.getfield 38, 3) := by decide +kernel
theorem dX6_place_47 : decode cX6_place 47 = .ok (.getfield 199, 3) := by decide +kernel
theorem dX6_place_50 : decode cX6_place 50 = .ok (.iload_n 1, 1) := by decide +kernel
theorem dX6_place_51 : decode cX6_place 51 = .ok (.laload, 1) := by decide +kernel
theorem dX6_place_52 : decode cX6_place 52 = .ok (.aload_n 0, 1) := by decide +kernel
theorem dX6_place_53 : decode cX6_place 53 = .ok (.getfield 38, 3) := by decide +kernel
theorem dX6_place_56 : decode cX6_place 56 = .ok (.getfield 203, 3) := by decide +kernel
theorem dX6_place_59 : decode cX6_place 59 = .ok (.iload_n 2, 1) := by decide +kernel
theorem dX6_place_60 : decode cX6_place 60 = .ok (.invokestatic 207, 3) := by decide +kernel
theorem dX6_place_63 : decode cX6_place 63 = .ok (.lreturn, 1) := by decide +kernel
theorem dX6_miss_0 : decode cX6_miss 0 = .ok (.aload_n 0, 1) := by decide +kernel
theorem dX6_miss_1 : decode cX6_miss 1 = .ok (.iload_n 1, 1) := by decide +kernel
theorem dX6_miss_2 : decode cX6_miss 2 = .ok (.invokevirtual 81, 3) := by decide +kernel
theorem dX6_miss_5 : decode cX6_miss 5 = .ok (.ifCond .eq 10, 3) := by decide +kernel
theorem dX6_miss_8 : decode cX6_miss 8 = .ok (.iload_n 2, 1) := by decide +kernel
theorem dX6_miss_9 : decode cX6_miss 9 = .ok (.invokestatic 192, 3) := by decide +kernel
theorem dX6_miss_12 : decode cX6_miss 12 = .ok (.ifCond .ne 10, 3) := by decide +kernel
theorem dX6_miss_15 : decode cX6_miss 15 = .ok (.aload_n 0, 1) := by decide +kernel
theorem dX6_miss_16 : decode cX6_miss 16 = .ok (.iconst 1, 1) := by decide +kernel
theorem dX6_miss_17 : decode cX6_miss 17 = .ok (.invokevirtual 69, 3) := by decide +kernel
theorem dX6_miss_20 : decode cX6_miss 20 = .ok (.i2l, 1) := by decide +kernel
theorem dX6_miss_21 : decode cX6_miss 21 = .ok (.lreturn, 1) := by decide +kernel
theorem dX6_miss_22 : decode cX6_miss 22 = .ok (.aload_n 0, 1) := by decide +kernel
theorem dX6_miss_23 : decode cX6_miss 23 = .ok (.getfield 38, 3) := by decide +kernel
theorem dX6_miss_26 : decode cX6_miss 26 = .ok (.aload_n 0, 1) := by decide +kernel
theorem dX6_miss_27 : decode cX6_miss 27 = .ok (.getfield 12, 3) := by decide +kernel
theorem dX6_miss_30 : decode cX6_miss 30 = .ok (.invokevirtual 195, 3) := by decide +kernel
theorem dX6_miss_33 : decode cX6_miss 33 = .ok (.ifCond .ne 10, 3) := by decide +kernel
theorem dX6_miss_36 : decode cX6_miss 36 = .ok (.aload_n 0, 1) := by decide +kernel
theorem dX6_miss_37 : decode cX6_miss 37 = .ok (.iconst 3, 1) := by decide +kernel
theorem dX6_miss_38 : decode cX6_miss 38 = .ok (.invokevirtual 69, 3) := by decide +kernel
theorem dX6_miss_41 : decode cX6_miss 41 = .ok (.i2l, 1) := by decide +kernel
theorem dX6_miss_42 : decode cX6_miss 42 = .ok (.lreturn, 1) := by decide +kernel
theorem dX6_miss_43 : decode cX6_miss 43 = .ok (.aload_n 0, 1) := by decide +kernel
theorem dX6_miss_44 : decode cX6_miss 44 = .ok (.getfield 38, 3) := by decide +kernel
theorem dX6_miss_47 : decode cX6_miss 47 = .ok (.aload_n 0, 1) := by decide +kernel
theorem dX6_miss_48 : decode cX6_miss 48 = .ok (.getfield 12, 3) := by decide +kernel
theorem dX6_miss_51 : decode cX6_miss 51 = .ok (.iload_n 1, 1) := by decide +kernel
theorem dX6_miss_52 : decode cX6_miss 52 = .ok (.aload_n 0, 1) := by decide +kernel
theorem dX6_miss_53 : decode cX6_miss 53 = .ok (.getfield 12, 3) := by decide +kernel
theorem dX6_miss_56 : decode cX6_miss 56 = .ok (.iload_n 1, 1) := by decide +kernel
theorem dX6_miss_57 : decode cX6_miss 57 = .ok (.invokevirtual 105, 3) := by decide +kernel
theorem dX6_miss_60 : decode cX6_miss 60 = .ok (.invokevirtual 211, 3) := by decide +kernel
theorem dX6_miss_63 : decode cX6_miss 63 = .ok (.aload_n 0, 1) := by decide +kernel
theorem dX6_miss_64 : decode cX6_miss 64 = .ok (.getfield 38, 3) := by decide +kernel
theorem dX6_miss_67 : decode cX6_miss 67 = .ok (.getfield 203, 3) := by decide +kernel
theorem dX6_miss_70 : decode cX6_miss 70 = .ok (.iload_n 2, 1) := by decide +kernel
theorem dX6_miss_71 : decode cX6_miss 71 = .ok (.invokestatic 207, 3) := by decide +kernel
theorem dX6_miss_74 : decode cX6_miss 74 = .ok (.lreturn, 1) := by decide +kernel
theorem dX6_sum_0 : decode cX6_sum 0 = .ok (.iload_n 1, 1) := by decide +kernel
theorem dX6_sum_1 : decode cX6_sum 1 = .ok (.invokestatic 192, 3) := by decide +kernel
theorem dX6_sum_4 : decode cX6_sum 4 = .ok (.ifCond .ne 10, 3) := by decide +kernel
theorem dX6_sum_7 : decode cX6_sum 7 = .ok (.aload_n 0, 1) := by decide +kernel
theorem dX6_sum_8 : decode cX6_sum 8 = .ok (.iconst 1, 1) := by decide +kernel
theorem dX6_sum_9 : decode cX6_sum 9 = .ok (.invokevirtual 69, 3) := by decide +kernel
theorem dX6_sum_12 : decode cX6_sum 12 = .ok (.i2l, 1) := by decide +kernel
theorem dX6_sum_13 : decode cX6_sum 13 = .ok (.lreturn, 1) := by decide +kernel
theorem dX6_sum_14 : decode cX6_sum 14 = .ok (.aload_n 0, 1) := by decide +kernel
theorem dX6_sum_15 : decode cX6_sum 15 = .ok (.getfield 38, 3) := by decide +kernel
theorem dX6_sum_18 : decode cX6_sum 18 = .ok (.aload_n 0, 1) := by decide +kernel
theorem dX6_sum_19 : decode cX6_sum 19 = .ok (.getfield 12, 3) := by decide +kernel
theorem dX6_sum_22 : decode cX6_sum 22 = .ok (.invokevirtual 195, 3) := by decide +kernel
theorem dX6_sum_25 : decode cX6_sum 25 = .ok (.ifCond .ne 10, 3) := by decide +kernel
theorem dX6_sum_28 : decode cX6_sum 28 = .ok (.aload_n 0, 1) := by decide +kernel
theorem dX6_sum_29 : decode cX6_sum 29 = .ok (.iconst 3, 1) := by decide +kernel
theorem dX6_sum_30 : decode cX6_sum 30 = .ok (.invokevirtual 69, 3) := by decide +kernel
theorem dX6_sum_33 : decode cX6_sum 33 = .ok (.i2l, 1) := by decide +kernel
theorem dX6_sum_34 : decode cX6_sum 34 = .ok (.lreturn, 1) := by decide +kernel
theorem dX6_sum_35 : decode cX6_sum 35 = .ok (.aload_n 0, 1) := by decide +kernel
theorem dX6_sum_36 : decode cX6_sum 36 = .ok (.getfield 38, 3) := by decide +kernel
theorem dX6_sum_39 : decode cX6_sum 39 = .ok (.aload_n 0, 1) := by decide +kernel
theorem dX6_sum_40 : decode cX6_sum 40 = .ok (.getfield 12, 3) := by decide +kernel
theorem dX6_sum_43 : decode cX6_sum 43 = .ok (.invokevirtual 215, 3) := by decide +kernel
theorem dX6_sum_46 : decode cX6_sum 46 = .ok (.aload_n 0, 1) := by decide +kernel
theorem dX6_sum_47 : decode cX6_sum 47 = .ok (.getfield 38, 3) := by decide +kernel
theorem dX6_sum_50 : decode cX6_sum 50 = .ok (.getfield 203, 3) := by decide +kernel
theorem dX6_sum_53 : decode cX6_sum 53 = .ok (.aload_n 0, 1) := by decide +kernel
theorem dX6_sum_54 : decode cX6_sum 54 = .ok (.getfield 38, 3) := by decide +kernel
theorem dX6_sum_57 : decode cX6_sum 57 = .ok (.getfield 203, 3) := by decide +kernel
theorem dX6_sum_60 : decode cX6_sum 60 = .ok (.lmul, 1) := by decide +kernel
theorem dX6_sum_61 : decode cX6_sum 61 = .ok (.iload_n 1, 1) := by decide +kernel
theorem dX6_sum_62 : decode cX6_sum 62 = .ok (.invokestatic 207, 3) := by decide +kernel
theorem dX6_sum_65 : decode cX6_sum 65 = .ok (.lreturn, 1) := by decide +kernel
theorem dX6_doubted_0 : decode cX6_doubted 0 = .ok (.aload_n 0, 1) := by decide +kernel
theorem dX6_doubted_1 : decode cX6_doubted 1 = .ok (.getfield 38, 3) := by decide +kernel
theorem dX6_doubted_4 : decode cX6_doubted 4 = .ok (.aload_n 0, 1) := by decide +kernel
theorem dX6_doubted_5 : decode cX6_doubted 5 = .ok (.getfield 12, 3) := by decide +kernel
theorem dX6_doubted_8 : decode cX6_doubted 8 = .ok (.invokevirtual 195, 3) := by decide +kernel
theorem dX6_doubted_11 : decode cX6_doubted 11 = .ok (.ifCond .eq 17, 3) := by decide +kernel
theorem dX6_doubted_14 : decode cX6_doubted 14 = .ok (.aload_n 0, 1) := by decide +kernel
theorem dX6_doubted_15 : decode cX6_doubted 15 = .ok (.getfield 38, 3) := by decide +kernel
theorem dX6_doubted_18 : decode cX6_doubted 18 = .ok (.aload_n 0, 1) := by decide +kernel
theorem dX6_doubted_19 : decode cX6_doubted 19 = .ok (.getfield 12, 3) := by decide +kernel
theorem dX6_doubted_22 : decode cX6_doubted 22 = .ok (.invokevirtual 219, 3) := by decide +kernel
theorem dX6_doubted_25 : decode cX6_doubted 25 = .ok (.goto 8, 3) := by decide +kernel
theorem dX6_doubted_28 : decode cX6_doubted 28 = .ok (.aload_n 0, 1) := by decide +kernel
theorem dX6_doubted_29 : decode cX6_doubted 29 = .ok (.iconst 3, 1) := by decide +kernel
theorem dX6_doubted_30 : decode cX6_doubted 30 = .ok (.invokevirtual 69, 3) := by decide +kernel
theorem dX6_doubted_33 : decode cX6_doubted 33 = .ok (.ireturn, 1) := by decide +kernel
theorem dX6_needed_0 : decode cX6_needed 0 = .ok (.aload_n 0, 1) := by decide +kernel
theorem dX6_needed_1 : decode cX6_needed 1 = .ok (.getfield 12, 3) := by decide +kernel
theorem dX6_needed_4 : decode cX6_needed 4 = .ok (.aload_n 0, 1) := by decide +kernel
theorem dX6_needed_5 : decode cX6_needed 5 = .ok (.getfield 12, 3) := by decide +kernel
theorem dX6_needed_8 : decode cX6_needed 8 = .ok (.getfield 178, 3) := by decide +kernel
theorem dX6_needed_11 : decode cX6_needed 11 = .ok (.invokevirtual 223, 3) := by decide +kernel
theorem dX6_needed_14 : decode cX6_needed 14 = .ok (.ifCond .ne 9, 3) := by decide +kernel
theorem dX6_needed_17 : decode cX6_needed 17 = .ok (.aload_n 0, 1) := by decide +kernel
theorem dX6_needed_18 : decode cX6_needed 18 = .ok (.iconst 3, 1) := by decide +kernel
theorem dX6_needed_19 : decode cX6_needed 19 = .ok (.invokevirtual 69, 3) := by decide +kernel
theorem dX6_needed_22 : decode cX6_needed 22 = .ok (.ireturn, 1) := by decide +kernel
theorem dX6_needed_23 : decode cX6_needed 23 = .ok (.iconst 0, 1) := by decide +kernel
theorem dX6_needed_24 : decode cX6_needed 24 = .ok (.istore_n 1, 1) := by decide +kernel
theorem dX6_needed_25 : decode cX6_needed 25 = .ok (.iconst 0, 1) := by decide +kernel
theorem dX6_needed_26 : decode cX6_needed 26 = .ok (.istore_n 2, 1) := by decide +kernel
theorem dX6_needed_27 : decode cX6_needed 27 = .ok (.iload_n 2, 1) := by decide +kernel
theorem dX6_needed_28 : decode cX6_needed 28 = .ok (.aload_n 0, 1) := by decide +kernel
theorem dX6_needed_29 : decode cX6_needed 29 = .ok (.getfield 12, 3) := by decide +kernel
theorem dX6_needed_32 : decode cX6_needed 32 = .ok (.getfield 73, 3) := by decide +kernel
theorem dX6_needed_35 : decode cX6_needed 35 = .ok (.if_icmp .ge 49, 3) := by decide +kernel
theorem dX6_needed_38 : decode cX6_needed 38 = .ok (.aload_n 0, 1) := by decide +kernel
theorem dX6_needed_39 : decode cX6_needed 39 = .ok (.getfield 12, 3) := by decide +kernel
theorem dX6_needed_42 : decode cX6_needed 42 = .ok (.iload_n 2, 1) := by decide +kernel
theorem dX6_needed_43 : decode cX6_needed 43 = .ok (.invokevirtual 99, 3) := by decide +kernel
theorem dX6_needed_46 : decode cX6_needed 46 = .ok (.ifCond .eq 32, 3) := by decide +kernel
theorem dX6_needed_49 : decode cX6_needed 49 = .ok (.aload_n 0, 1) := by decide +kernel
theorem dX6_needed_50 : decode cX6_needed 50 = .ok (.getfield 12, 3) := by decide +kernel
theorem dX6_needed_53 : decode cX6_needed 53 = .ok (.aload_n 0, 1) := by decide +kernel
theorem dX6_needed_54 : decode cX6_needed 54 = .ok (.getfield 12, 3) := by decide +kernel
theorem dX6_needed_57 : decode cX6_needed 57 = .ok (.getfield 178, 3) := by decide +kernel
theorem dX6_needed_60 : decode cX6_needed 60 = .ok (.iconst 1, 1) := by decide +kernel
theorem dX6_needed_61 : decode cX6_needed 61 = .ok (.iload_n 2, 1) := by decide +kernel
theorem dX6_needed_62 : decode cX6_needed 62 = .ok (.ishl, 1) := by decide +kernel
theorem dX6_needed_63 : decode cX6_needed 63 = .ok (.iconst (-1), 1) := by decide +kernel
theorem dX6_needed_64 : decode cX6_needed 64 = .ok (.ixor, 1) := by decide +kernel
theorem dX6_needed_65 : decode cX6_needed 65 = .ok (.iand, 1) := by decide +kernel
theorem dX6_needed_66 : decode cX6_needed 66 = .ok (.invokevirtual 223, 3) := by decide +kernel
theorem dX6_needed_69 : decode cX6_needed 69 = .ok (.ifCond .ne 9, 3) := by decide +kernel
theorem dX6_needed_72 : decode cX6_needed 72 = .ok (.iload_n 1, 1) := by decide +kernel
theorem dX6_needed_73 : decode cX6_needed 73 = .ok (.iconst 1, 1) := by decide +kernel
theorem dX6_needed_74 : decode cX6_needed 74 = .ok (.iload_n 2, 1) := by decide +kernel
theorem dX6_needed_75 : decode cX6_needed 75 = .ok (.ishl, 1) := by decide +kernel
theorem dX6_needed_76 : decode cX6_needed 76 = .ok (.ior, 1) := by decide +kernel
theorem dX6_needed_77 : decode cX6_needed 77 = .ok (.istore_n 1, 1) := by decide +kernel
theorem dX6_needed_78 : decode cX6_needed 78 = .ok (.iinc 2 1, 3) := by decide +kernel
theorem dX6_needed_81 : decode cX6_needed 81 = .ok (.goto (-54), 3) := by decide +kernel
theorem dX6_needed_84 : decode cX6_needed 84 = .ok (.iload_n 1, 1) := by decide +kernel
theorem dX6_needed_85 : decode cX6_needed 85 = .ok (.ireturn, 1) := by decide +kernel
theorem dX6_spine_0 : decode cX6_spine 0 = .ok (.aload_n 0, 1) := by decide +kernel
theorem dX6_spine_1 : decode cX6_spine 1 = .ok (.getfield 12, 3) := by decide +kernel
theorem dX6_spine_4 : decode cX6_spine 4 = .ok (.aload_n 0, 1) := by decide +kernel
theorem dX6_spine_5 : decode cX6_spine 5 = .ok (.getfield 12, 3) := by decide +kernel
theorem dX6_spine_8 : decode cX6_spine 8 = .ok (.getfield 178, 3) := by decide +kernel
theorem dX6_spine_11 : decode cX6_spine 11 = .ok (.invokevirtual 223, 3) := by decide +kernel
theorem dX6_spine_14 : decode cX6_spine 14 = .ok (.ifCond .ne 9, 3) := by decide +kernel
theorem dX6_spine_17 : decode cX6_spine 17 = .ok (.aload_n 0, 1) := by decide +kernel
theorem dX6_spine_18 : decode cX6_spine 18 = .ok (.iconst 3, 1) := by decide +kernel
theorem dX6_spine_19 : decode cX6_spine 19 = .ok (.invokevirtual 69, 3) := by decide +kernel
theorem dX6_spine_22 : decode cX6_spine 22 = .ok (.ireturn, 1) := by decide +kernel
theorem dX6_spine_23 : decode cX6_spine 23 = .ok (.iconst 0, 1) := by decide +kernel
theorem dX6_spine_24 : decode cX6_spine 24 = .ok (.istore_n 1, 1) := by decide +kernel
theorem dX6_spine_25 : decode cX6_spine 25 = .ok (.iconst 0, 1) := by decide +kernel
theorem dX6_spine_26 : decode cX6_spine 26 = .ok (.istore_n 2, 1) := by decide +kernel
theorem dX6_spine_27 : decode cX6_spine 27 = .ok (.iconst 1, 1) := by decide +kernel
theorem dX6_spine_28 : decode cX6_spine 28 = .ok (.istore_n 3, 1) := by decide +kernel
theorem dX6_spine_29 : decode cX6_spine 29 = .ok (.iload_n 3, 1) := by decide +kernel
theorem dX6_spine_30 : decode cX6_spine 30 = .ok (.sipush 256, 3) := by decide +kernel
theorem dX6_spine_33 : decode cX6_spine 33 = .ok (.if_icmp .ge 81, 3) := by decide +kernel
theorem dX6_spine_36 : decode cX6_spine 36 = .ok (.iload_n 3, 1) := by decide +kernel
theorem dX6_spine_37 : decode cX6_spine 37 = .ok (.invokestatic 181, 3) := by decide +kernel
theorem dX6_spine_40 : decode cX6_spine 40 = .ok (.aload_n 0, 1) := by decide +kernel
theorem dX6_spine_41 : decode cX6_spine 41 = .ok (.getfield 12, 3) := by decide +kernel
theorem dX6_spine_44 : decode cX6_spine 44 = .ok (.getfield 124, 3) := by decide +kernel
theorem dX6_spine_47 : decode cX6_spine 47 = .ok (.if_icmp .ne 21, 3) := by decide +kernel
theorem dX6_spine_50 : decode cX6_spine 50 = .ok (.iload_n 3, 1) := by decide +kernel
theorem dX6_spine_51 : decode cX6_spine 51 = .ok (.aload_n 0, 1) := by decide +kernel
theorem dX6_spine_52 : decode cX6_spine 52 = .ok (.getfield 12, 3) := by decide +kernel
theorem dX6_spine_55 : decode cX6_spine 55 = .ok (.getfield 178, 3) := by decide +kernel
theorem dX6_spine_58 : decode cX6_spine 58 = .ok (.iconst (-1), 1) := by decide +kernel
theorem dX6_spine_59 : decode cX6_spine 59 = .ok (.ixor, 1) := by decide +kernel
theorem dX6_spine_60 : decode cX6_spine 60 = .ok (.iand, 1) := by decide +kernel
theorem dX6_spine_61 : decode cX6_spine 61 = .ok (.ifCond .ne 7, 3) := by decide +kernel
theorem dX6_spine_64 : decode cX6_spine 64 = .ok (.iconst 1, 1) := by decide +kernel
theorem dX6_spine_65 : decode cX6_spine 65 = .ok (.goto 4, 3) := by decide +kernel
theorem dX6_spine_68 : decode cX6_spine 68 = .ok (.iconst 0, 1) := by decide +kernel
theorem dX6_spine_69 : decode cX6_spine 69 = .ok (.istore 4, 2) := by decide +kernel
theorem dX6_spine_71 : decode cX6_spine 71 = .ok (.iload 4, 2) := by decide +kernel
theorem dX6_spine_73 : decode cX6_spine 73 = .ok (.ifCond .eq 35, 3) := by decide +kernel
theorem dX6_spine_76 : decode cX6_spine 76 = .ok (.aload_n 0, 1) := by decide +kernel
theorem dX6_spine_77 : decode cX6_spine 77 = .ok (.getfield 12, 3) := by decide +kernel
theorem dX6_spine_80 : decode cX6_spine 80 = .ok (.iload_n 3, 1) := by decide +kernel
theorem dX6_spine_81 : decode cX6_spine 81 = .ok (.invokevirtual 223, 3) := by decide +kernel
theorem dX6_spine_84 : decode cX6_spine 84 = .ok (.ifCond .eq 24, 3) := by decide +kernel
theorem dX6_spine_87 : decode cX6_spine 87 = .ok (.aload_n 0, 1) := by decide +kernel
theorem dX6_spine_88 : decode cX6_spine 88 = .ok (.getfield 12, 3) := by decide +kernel
theorem dX6_spine_91 : decode cX6_spine 91 = .ok (.iload_n 3, 1) := by decide +kernel
theorem dX6_spine_92 : decode cX6_spine 92 = .ok (.invokevirtual 226, 3) := by decide +kernel
theorem dX6_spine_95 : decode cX6_spine 95 = .ok (.istore 5, 2) := by decide +kernel
theorem dX6_spine_97 : decode cX6_spine 97 = .ok (.iload 5, 2) := by decide +kernel
theorem dX6_spine_99 : decode cX6_spine 99 = .ok (.iload_n 2, 1) := by decide +kernel
theorem dX6_spine_100 : decode cX6_spine 100 = .ok (.if_icmp .le 8, 3) := by decide +kernel
theorem dX6_spine_103 : decode cX6_spine 103 = .ok (.iload 5, 2) := by decide +kernel
theorem dX6_spine_105 : decode cX6_spine 105 = .ok (.istore_n 2, 1) := by decide +kernel
theorem dX6_spine_106 : decode cX6_spine 106 = .ok (.iload_n 3, 1) := by decide +kernel
theorem dX6_spine_107 : decode cX6_spine 107 = .ok (.istore_n 1, 1) := by decide +kernel
theorem dX6_spine_108 : decode cX6_spine 108 = .ok (.iinc 3 1, 3) := by decide +kernel
theorem dX6_spine_111 : decode cX6_spine 111 = .ok (.goto (-82), 3) := by decide +kernel
theorem dX6_spine_114 : decode cX6_spine 114 = .ok (.iload_n 1, 1) := by decide +kernel
theorem dX6_spine_115 : decode cX6_spine 115 = .ok (.ireturn, 1) := by decide +kernel
theorem dX6_then_0 : decode cX6_then 0 = .ok (.iload_n 1, 1) := by decide +kernel
theorem dX6_then_1 : decode cX6_then 1 = .ok (.iconst 0, 1) := by decide +kernel
theorem dX6_then_2 : decode cX6_then 2 = .ok (.bipush 60, 2) := by decide +kernel
theorem dX6_then_4 : decode cX6_then 4 = .ok (.invokestatic 108, 3) := by decide +kernel
theorem dX6_then_7 : decode cX6_then 7 = .ok (.ifCond .eq 12, 3) := by decide +kernel
theorem dX6_then_10 : decode cX6_then 10 = .ok (.iload_n 2, 1) := by decide +kernel
theorem dX6_then_11 : decode cX6_then 11 = .ok (.iconst 0, 1) := by decide +kernel
theorem dX6_then_12 : decode cX6_then 12 = .ok (.iconst 2, 1) := by decide +kernel
theorem dX6_then_13 : decode cX6_then 13 = .ok (.invokestatic 108, 3) := by decide +kernel
theorem dX6_then_16 : decode cX6_then 16 = .ok (.ifCond .ne 9, 3) := by decide +kernel
theorem dX6_then_19 : decode cX6_then 19 = .ok (.aload_n 0, 1) := by decide +kernel
theorem dX6_then_20 : decode cX6_then 20 = .ok (.iconst 1, 1) := by decide +kernel
theorem dX6_then_21 : decode cX6_then 21 = .ok (.invokevirtual 69, 3) := by decide +kernel
theorem dX6_then_24 : decode cX6_then 24 = .ok (.ireturn, 1) := by decide +kernel
theorem dX6_then_25 : decode cX6_then 25 = .ok (.aload_n 0, 1) := by decide +kernel
theorem dX6_then_26 : decode cX6_then 26 = .ok (.getfield 19, 3) := by decide +kernel
theorem dX6_then_29 : decode cX6_then 29 = .ok (.aload_n 0, 1) := by decide +kernel
theorem dX6_then_30 : decode cX6_then 30 = .ok (.getfield 12, 3) := by decide +kernel
theorem dX6_then_33 : decode cX6_then 33 = .ok (.invokevirtual 229, 3) := by decide +kernel
theorem dX6_then_36 : decode cX6_then 36 = .ok (.iconst 0, 1) := by decide +kernel
theorem dX6_then_37 : decode cX6_then 37 = .ok (.istore_n 3, 1) := by decide +kernel
theorem dX6_then_38 : decode cX6_then 38 = .ok (.iload_n 3, 1) := by decide +kernel
theorem dX6_then_39 : decode cX6_then 39 = .ok (.iload_n 1, 1) := by decide +kernel
theorem dX6_then_40 : decode cX6_then 40 = .ok (.if_icmp .ge 20, 3) := by decide +kernel
theorem dX6_then_43 : decode cX6_then 43 = .ok (.aload_n 0, 1) := by decide +kernel
theorem dX6_then_44 : decode cX6_then 44 = .ok (.getfield 38, 3) := by decide +kernel
theorem dX6_then_47 : decode cX6_then 47 = .ok (.aload_n 0, 1) := by decide +kernel
theorem dX6_then_48 : decode cX6_then 48 = .ok (.getfield 19, 3) := by decide +kernel
theorem dX6_then_51 : decode cX6_then 51 = .ok (.invokevirtual 174, 3) := by decide +kernel
theorem dX6_then_54 : decode cX6_then 54 = .ok (.iinc 3 1, 3) := by decide +kernel
theorem dX6_then_57 : decode cX6_then 57 = .ok (.goto (-19), 3) := by decide +kernel
theorem dX6_then_60 : decode cX6_then 60 = .ok (.iload_n 2, 1) := by decide +kernel
theorem dX6_then_61 : decode cX6_then 61 = .ok (.ifCond .ne 14, 3) := by decide +kernel
theorem dX6_then_64 : decode cX6_then 64 = .ok (.aload_n 0, 1) := by decide +kernel
theorem dX6_then_65 : decode cX6_then 65 = .ok (.getfield 19, 3) := by decide +kernel
theorem dX6_then_68 : decode cX6_then 68 = .ok (.getfield 178, 3) := by decide +kernel
theorem dX6_then_71 : decode cX6_then 71 = .ok (.invokestatic 181, 3) := by decide +kernel
theorem dX6_then_74 : decode cX6_then 74 = .ok (.ireturn, 1) := by decide +kernel
theorem dX6_then_75 : decode cX6_then 75 = .ok (.iload_n 2, 1) := by decide +kernel
theorem dX6_then_76 : decode cX6_then 76 = .ok (.iconst 1, 1) := by decide +kernel
theorem dX6_then_77 : decode cX6_then 77 = .ok (.if_icmp .ne 13, 3) := by decide +kernel
theorem dX6_then_80 : decode cX6_then 80 = .ok (.aload_n 0, 1) := by decide +kernel
theorem dX6_then_81 : decode cX6_then 81 = .ok (.getfield 19, 3) := by decide +kernel
theorem dX6_then_84 : decode cX6_then 84 = .ok (.getfield 178, 3) := by decide +kernel
theorem dX6_then_87 : decode cX6_then 87 = .ok (.goto 10, 3) := by decide +kernel
theorem dX6_then_90 : decode cX6_then 90 = .ok (.aload_n 0, 1) := by decide +kernel
theorem dX6_then_91 : decode cX6_then 91 = .ok (.getfield 19, 3) := by decide +kernel
theorem dX6_then_94 : decode cX6_then 94 = .ok (.getfield 231, 3) := by decide +kernel
theorem dX6_then_97 : decode cX6_then 97 = .ok (.ireturn, 1) := by decide +kernel
theorem dX6_soonest_0 : decode cX6_soonest 0 = .ok (.aload_n 0, 1) := by decide +kernel
theorem dX6_soonest_1 : decode cX6_soonest 1 = .ok (.iload_n 1, 1) := by decide +kernel
theorem dX6_soonest_2 : decode cX6_soonest 2 = .ok (.invokevirtual 81, 3) := by decide +kernel
theorem dX6_soonest_5 : decode cX6_soonest 5 = .ok (.ifCond .ne 9, 3) := by decide +kernel
theorem dX6_soonest_8 : decode cX6_soonest 8 = .ok (.aload_n 0, 1) := by decide +kernel
theorem dX6_soonest_9 : decode cX6_soonest 9 = .ok (.iconst 1, 1) := by decide +kernel
theorem dX6_soonest_10 : decode cX6_soonest 10 = .ok (.invokevirtual 69, 3) := by decide +kernel
theorem dX6_soonest_13 : decode cX6_soonest 13 = .ok (.ireturn, 1) := by decide +kernel
theorem dX6_soonest_14 : decode cX6_soonest 14 = .ok (.aload_n 0, 1) := by decide +kernel
theorem dX6_soonest_15 : decode cX6_soonest 15 = .ok (.getfield 19, 3) := by decide +kernel
theorem dX6_soonest_18 : decode cX6_soonest 18 = .ok (.aload_n 0, 1) := by decide +kernel
theorem dX6_soonest_19 : decode cX6_soonest 19 = .ok (.getfield 12, 3) := by decide +kernel
theorem dX6_soonest_22 : decode cX6_soonest 22 = .ok (.invokevirtual 229, 3) := by decide +kernel
theorem dX6_soonest_25 : decode cX6_soonest 25 = .ok (.aload_n 0, 1) := by decide +kernel
theorem dX6_soonest_26 : decode cX6_soonest 26 = .ok (.iload_n 1, 1) := by decide +kernel
theorem dX6_soonest_27 : decode cX6_soonest 27 = .ok (.bipush 60, 2) := by decide +kernel
theorem dX6_soonest_29 : decode cX6_soonest 29 = .ok (.invokevirtual 234, 3) := by decide +kernel
theorem dX6_soonest_32 : decode cX6_soonest 32 = .ok (.istore_n 2, 1) := by decide +kernel
theorem dX6_soonest_33 : decode cX6_soonest 33 = .ok (.iload_n 2, 1) := by decide +kernel
theorem dX6_soonest_34 : decode cX6_soonest 34 = .ok (.ifCond .lt 7, 3) := by decide +kernel
theorem dX6_soonest_37 : decode cX6_soonest 37 = .ok (.iload_n 2, 1) := by decide +kernel
theorem dX6_soonest_38 : decode cX6_soonest 38 = .ok (.goto 8, 3) := by decide +kernel
theorem dX6_soonest_41 : decode cX6_soonest 41 = .ok (.aload_n 0, 1) := by decide +kernel
theorem dX6_soonest_42 : decode cX6_soonest 42 = .ok (.iconst 2, 1) := by decide +kernel
theorem dX6_soonest_43 : decode cX6_soonest 43 = .ok (.invokevirtual 69, 3) := by decide +kernel
theorem dX6_soonest_46 : decode cX6_soonest 46 = .ok (.ireturn, 1) := by decide +kernel
theorem dX6_limitFor_0 : decode cX6_limitFor 0 = .ok (.iload_n 1, 1) := by decide +kernel
theorem dX6_limitFor_1 : decode cX6_limitFor 1 = .ok (.iconst 0, 1) := by decide +kernel
theorem dX6_limitFor_2 : decode cX6_limitFor 2 = .ok (.bipush 40, 2) := by decide +kernel
theorem dX6_limitFor_4 : decode cX6_limitFor 4 = .ok (.invokestatic 108, 3) := by decide +kernel
theorem dX6_limitFor_7 : decode cX6_limitFor 7 = .ok (.ifCond .ne 9, 3) := by decide +kernel
theorem dX6_limitFor_10 : decode cX6_limitFor 10 = .ok (.aload_n 0, 1) := by decide +kernel
theorem dX6_limitFor_11 : decode cX6_limitFor 11 = .ok (.iconst 1, 1) := by decide +kernel
theorem dX6_limitFor_12 : decode cX6_limitFor 12 = .ok (.invokevirtual 69, 3) := by decide +kernel
theorem dX6_limitFor_15 : decode cX6_limitFor 15 = .ok (.ireturn, 1) := by decide +kernel
theorem dX6_limitFor_16 : decode cX6_limitFor 16 = .ok (.aload_n 0, 1) := by decide +kernel
theorem dX6_limitFor_17 : decode cX6_limitFor 17 = .ok (.getfield 19, 3) := by decide +kernel
theorem dX6_limitFor_20 : decode cX6_limitFor 20 = .ok (.aload_n 0, 1) := by decide +kernel
theorem dX6_limitFor_21 : decode cX6_limitFor 21 = .ok (.getfield 12, 3) := by decide +kernel
theorem dX6_limitFor_24 : decode cX6_limitFor 24 = .ok (.invokevirtual 229, 3) := by decide +kernel
theorem dX6_limitFor_27 : decode cX6_limitFor 27 = .ok (.lconst 0, 1) := by decide +kernel
theorem dX6_limitFor_28 : decode cX6_limitFor 28 = .ok (.lstore_n 2, 1) := by decide +kernel
theorem dX6_limitFor_29 : decode cX6_limitFor 29 = .ok (.iconst 0, 1) := by decide +kernel
theorem dX6_limitFor_30 : decode cX6_limitFor 30 = .ok (.istore 4, 2) := by decide +kernel
theorem dX6_limitFor_32 : decode cX6_limitFor 32 = .ok (.iload 4, 2) := by decide +kernel
theorem dX6_limitFor_34 : decode cX6_limitFor 34 = .ok (.iload_n 1, 1) := by decide +kernel
theorem dX6_limitFor_35 : decode cX6_limitFor 35 = .ok (.if_icmp .ge 38, 3) := by decide +kernel
theorem dX6_limitFor_38 : decode cX6_limitFor 38 = .ok (.lload_n 2, 1) := by decide +kernel
theorem dX6_limitFor_39 : decode cX6_limitFor 39 = .ok (.aload_n 0, 1) := by decide +kernel
theorem dX6_limitFor_40 : decode cX6_limitFor 40 = .ok (.getfield 38, 3) := by decide +kernel
theorem dX6_limitFor_43 : decode cX6_limitFor 43 = .ok (.aload_n 0, 1) := by decide +kernel
theorem dX6_limitFor_44 : decode cX6_limitFor 44 = .ok (.getfield 19, 3) := by decide +kernel
theorem dX6_limitFor_47 : decode cX6_limitFor 47 = .ok (.invokevirtual 238, 3) := by decide +kernel
theorem dX6_limitFor_50 : decode cX6_limitFor 50 = .ok (.invokestatic 241, 3) := by decide +kernel
theorem dX6_limitFor_53 : decode cX6_limitFor 53 = .ok (.lstore_n 2, 1) := by decide +kernel
theorem dX6_limitFor_54 : decode cX6_limitFor 54 = .ok (.aload_n 0, 1) := by decide +kernel
theorem dX6_limitFor_55 : decode cX6_limitFor 55 = .ok (.getfield 19, 3) := by decide +kernel
theorem dX6_limitFor_58 : decode cX6_limitFor 58 = .ok (.dup, 1) := by decide +kernel
theorem dX6_limitFor_59 : decode cX6_limitFor 59 = .ok (.getfield 171, 3) := by decide +kernel
theorem dX6_limitFor_62 : decode cX6_limitFor 62 = .ok (.iconst 1, 1) := by decide +kernel
theorem dX6_limitFor_63 : decode cX6_limitFor 63 = .ok (.iadd, 1) := by decide +kernel
theorem dX6_limitFor_64 : decode cX6_limitFor 64 = .ok (.putfield 171, 3) := by decide +kernel
theorem dX6_limitFor_67 : decode cX6_limitFor 67 = .ok (.iinc 4 1, 3) := by decide +kernel
theorem dX6_limitFor_70 : decode cX6_limitFor 70 = .ok (.goto (-38), 3) := by decide +kernel
theorem dX6_limitFor_73 : decode cX6_limitFor 73 = .ok (.lload_n 2, 1) := by decide +kernel
theorem dX6_limitFor_74 : decode cX6_limitFor 74 = .ok (.ldc2_w 247, 3) := by decide +kernel
theorem dX6_limitFor_77 : decode cX6_limitFor 77 = .ok (.lcmp, 1) := by decide +kernel
theorem dX6_limitFor_78 : decode cX6_limitFor 78 = .ok (.ifCond .gt 8, 3) := by decide +kernel
theorem dX6_limitFor_81 : decode cX6_limitFor 81 = .ok (.lload_n 2, 1) := by decide +kernel
theorem dX6_limitFor_82 : decode cX6_limitFor 82 = .ok (.l2i, 1) := by decide +kernel
theorem dX6_limitFor_83 : decode cX6_limitFor 83 = .ok (.goto 8, 3) := by decide +kernel
theorem dX6_limitFor_86 : decode cX6_limitFor 86 = .ok (.aload_n 0, 1) := by decide +kernel
theorem dX6_limitFor_87 : decode cX6_limitFor 87 = .ok (.iconst 2, 1) := by decide +kernel
theorem dX6_limitFor_88 : decode cX6_limitFor 88 = .ok (.invokevirtual 69, 3) := by decide +kernel
theorem dX6_limitFor_91 : decode cX6_limitFor 91 = .ok (.ireturn, 1) := by decide +kernel
theorem dX6_toldFor_0 : decode cX6_toldFor 0 = .ok (.aload_n 0, 1) := by decide +kernel
theorem dX6_toldFor_1 : decode cX6_toldFor 1 = .ok (.iload_n 1, 1) := by decide +kernel
theorem dX6_toldFor_2 : decode cX6_toldFor 2 = .ok (.invokevirtual 81, 3) := by decide +kernel
theorem dX6_toldFor_5 : decode cX6_toldFor 5 = .ok (.ifCond .ne 9, 3) := by decide +kernel
theorem dX6_toldFor_8 : decode cX6_toldFor 8 = .ok (.aload_n 0, 1) := by decide +kernel
theorem dX6_toldFor_9 : decode cX6_toldFor 9 = .ok (.iconst 1, 1) := by decide +kernel
theorem dX6_toldFor_10 : decode cX6_toldFor 10 = .ok (.invokevirtual 69, 3) := by decide +kernel
theorem dX6_toldFor_13 : decode cX6_toldFor 13 = .ok (.ireturn, 1) := by decide +kernel
theorem dX6_toldFor_14 : decode cX6_toldFor 14 = .ok (.aload_n 0, 1) := by decide +kernel
theorem dX6_toldFor_15 : decode cX6_toldFor 15 = .ok (.getfield 12, 3) := by decide +kernel
theorem dX6_toldFor_18 : decode cX6_toldFor 18 = .ok (.aload_n 0, 1) := by decide +kernel
theorem dX6_toldFor_19 : decode cX6_toldFor 19 = .ok (.getfield 12, 3) := by decide +kernel
theorem dX6_toldFor_22 : decode cX6_toldFor 22 = .ok (.getfield 178, 3) := by decide +kernel
theorem dX6_toldFor_25 : decode cX6_toldFor 25 = .ok (.invokevirtual 223, 3) := by decide +kernel
theorem dX6_toldFor_28 : decode cX6_toldFor 28 = .ok (.ifCond .ne 9, 3) := by decide +kernel
theorem dX6_toldFor_31 : decode cX6_toldFor 31 = .ok (.aload_n 0, 1) := by decide +kernel
theorem dX6_toldFor_32 : decode cX6_toldFor 32 = .ok (.iconst 3, 1) := by decide +kernel
theorem dX6_toldFor_33 : decode cX6_toldFor 33 = .ok (.invokevirtual 69, 3) := by decide +kernel
theorem dX6_toldFor_36 : decode cX6_toldFor 36 = .ok (.ireturn, 1) := by decide +kernel
theorem dX6_toldFor_37 : decode cX6_toldFor 37 = .ok (.aload_n 0, 1) := by decide +kernel
theorem dX6_toldFor_38 : decode cX6_toldFor 38 = .ok (.getfield 19, 3) := by decide +kernel
theorem dX6_toldFor_41 : decode cX6_toldFor 41 = .ok (.aload_n 0, 1) := by decide +kernel
theorem dX6_toldFor_42 : decode cX6_toldFor 42 = .ok (.getfield 12, 3) := by decide +kernel
theorem dX6_toldFor_45 : decode cX6_toldFor 45 = .ok (.invokevirtual 229, 3) := by decide +kernel
theorem dX6_toldFor_48 : decode cX6_toldFor 48 = .ok (.bipush (-20), 2) := by decide +kernel
theorem dX6_toldFor_50 : decode cX6_toldFor 50 = .ok (.istore_n 2, 1) := by decide +kernel
theorem dX6_toldFor_51 : decode cX6_toldFor 51 = .ok (.ldc2_w 251, 3) := by decide +kernel
theorem dX6_toldFor_54 : decode cX6_toldFor 54 = .ok (.lstore_n 3, 1) := by decide +kernel
theorem dX6_toldFor_55 : decode cX6_toldFor 55 = .ok (.bipush (-20), 2) := by decide +kernel
theorem dX6_toldFor_57 : decode cX6_toldFor 57 = .ok (.istore 5, 2) := by decide +kernel
theorem dX6_toldFor_59 : decode cX6_toldFor 59 = .ok (.iload 5, 2) := by decide +kernel
theorem dX6_toldFor_61 : decode cX6_toldFor 61 = .ok (.bipush 20, 2) := by decide +kernel
theorem dX6_toldFor_63 : decode cX6_toldFor 63 = .ok (.if_icmp .gt 58, 3) := by decide +kernel
theorem dX6_toldFor_66 : decode cX6_toldFor 66 = .ok (.aload_n 0, 1) := by decide +kernel
theorem dX6_toldFor_67 : decode cX6_toldFor 67 = .ok (.getfield 19, 3) := by decide +kernel
theorem dX6_toldFor_70 : decode cX6_toldFor 70 = .ok (.getfield 96, 3) := by decide +kernel
theorem dX6_toldFor_73 : decode cX6_toldFor 73 = .ok (.iload_n 1, 1) := by decide +kernel
theorem dX6_toldFor_74 : decode cX6_toldFor 74 = .ok (.iload 5, 2) := by decide +kernel
theorem dX6_toldFor_76 : decode cX6_toldFor 76 = .ok (.iastore, 1) := by decide +kernel
theorem dX6_toldFor_77 : decode cX6_toldFor 77 = .ok (.aload_n 0, 1) := by decide +kernel
theorem dX6_toldFor_78 : decode cX6_toldFor 78 = .ok (.getfield 38, 3) := by decide +kernel
theorem dX6_toldFor_81 : decode cX6_toldFor 81 = .ok (.aload_n 0, 1) := by decide +kernel
theorem dX6_toldFor_82 : decode cX6_toldFor 82 = .ok (.getfield 19, 3) := by decide +kernel
theorem dX6_toldFor_85 : decode cX6_toldFor 85 = .ok (.invokevirtual 195, 3) := by decide +kernel
theorem dX6_toldFor_88 : decode cX6_toldFor 88 = .ok (.pop, 1) := by decide +kernel
theorem dX6_toldFor_89 : decode cX6_toldFor 89 = .ok (.aload_n 0, 1) := by decide +kernel
theorem dX6_toldFor_90 : decode cX6_toldFor 90 = .ok (.getfield 38, 3) := by decide +kernel
theorem dX6_toldFor_93 : decode cX6_toldFor 93 = .ok (.aload_n 0, 1) := by decide +kernel
theorem dX6_toldFor_94 : decode cX6_toldFor 94 = .ok (.getfield 19, 3) := by decide +kernel
theorem dX6_toldFor_97 : decode cX6_toldFor 97 = .ok (.invokevirtual 215, 3) := by decide +kernel
theorem dX6_toldFor_100 : decode cX6_toldFor 100 = .ok (.lstore 6, 2) := by decide +kernel
theorem dX6_toldFor_102 : decode cX6_toldFor 102 = .ok (.lload 6, 2) := by decide +kernel
theorem dX6_toldFor_104 : decode cX6_toldFor 104 = .ok (.lload_n 3, 1) := by decide +kernel
theorem dX6_toldFor_105 : decode cX6_toldFor 105 = .ok (.lcmp, 1) := by decide +kernel
theorem dX6_toldFor_106 : decode cX6_toldFor 106 = .ok (.ifCond .ge 9, 3) := by decide +kernel
theorem dX6_toldFor_109 : decode cX6_toldFor 109 = .ok (.lload 6, 2) := by decide +kernel
theorem dX6_toldFor_111 : decode cX6_toldFor 111 = .ok (.lstore_n 3, 1) := by decide +kernel
theorem dX6_toldFor_112 : decode cX6_toldFor 112 = .ok (.iload 5, 2) := by decide +kernel
theorem dX6_toldFor_114 : decode cX6_toldFor 114 = .ok (.istore_n 2, 1) := by decide +kernel
theorem dX6_toldFor_115 : decode cX6_toldFor 115 = .ok (.iinc 5 1, 3) := by decide +kernel
theorem dX6_toldFor_118 : decode cX6_toldFor 118 = .ok (.goto (-59), 3) := by decide +kernel
theorem dX6_toldFor_121 : decode cX6_toldFor 121 = .ok (.iload_n 2, 1) := by decide +kernel
theorem dX6_toldFor_122 : decode cX6_toldFor 122 = .ok (.ireturn, 1) := by decide +kernel
theorem dX6_odds_0 : decode cX6_odds 0 = .ok (.aload_n 0, 1) := by decide +kernel
theorem dX6_odds_1 : decode cX6_odds 1 = .ok (.iload_n 1, 1) := by decide +kernel
theorem dX6_odds_2 : decode cX6_odds 2 = .ok (.invokevirtual 81, 3) := by decide +kernel
theorem dX6_odds_5 : decode cX6_odds 5 = .ok (.ifCond .eq 20, 3) := by decide +kernel
theorem dX6_odds_8 : decode cX6_odds 8 = .ok (.iload_n 2, 1) := by decide +kernel
theorem dX6_odds_9 : decode cX6_odds 9 = .ok (.iconst 0, 1) := by decide +kernel
theorem dX6_odds_10 : decode cX6_odds 10 = .ok (.bipush 40, 2) := by decide +kernel
theorem dX6_odds_12 : decode cX6_odds 12 = .ok (.invokestatic 108, 3) := by decide +kernel
theorem dX6_odds_15 : decode cX6_odds 15 = .ok (.ifCond .eq 10, 3) := by decide +kernel
theorem dX6_odds_18 : decode cX6_odds 18 = .ok (.iload_n 3, 1) := by decide +kernel
theorem dX6_odds_19 : decode cX6_odds 19 = .ok (.invokestatic 192, 3) := by decide +kernel
theorem dX6_odds_22 : decode cX6_odds 22 = .ok (.ifCond .ne 9, 3) := by decide +kernel
theorem dX6_odds_25 : decode cX6_odds 25 = .ok (.aload_n 0, 1) := by decide +kernel
theorem dX6_odds_26 : decode cX6_odds 26 = .ok (.iconst 1, 1) := by decide +kernel
theorem dX6_odds_27 : decode cX6_odds 27 = .ok (.invokevirtual 69, 3) := by decide +kernel
theorem dX6_odds_30 : decode cX6_odds 30 = .ok (.ireturn, 1) := by decide +kernel
theorem dX6_odds_31 : decode cX6_odds 31 = .ok (.iconst 0, 1) := by decide +kernel
theorem dX6_odds_32 : decode cX6_odds 32 = .ok (.istore 4, 2) := by decide +kernel
theorem dX6_odds_34 : decode cX6_odds 34 = .ok (.bipush (-20), 2) := by decide +kernel
theorem dX6_odds_36 : decode cX6_odds 36 = .ok (.istore 5, 2) := by decide +kernel
theorem dX6_odds_38 : decode cX6_odds 38 = .ok (.iload 5, 2) := by decide +kernel
theorem dX6_odds_40 : decode cX6_odds 40 = .ok (.bipush 20, 2) := by decide +kernel
theorem dX6_odds_42 : decode cX6_odds 42 = .ok (.if_icmp .gt 43, 3) := by decide +kernel
theorem dX6_odds_45 : decode cX6_odds 45 = .ok (.aload_n 0, 1) := by decide +kernel
theorem dX6_odds_46 : decode cX6_odds 46 = .ok (.getfield 19, 3) := by decide +kernel
theorem dX6_odds_49 : decode cX6_odds 49 = .ok (.aload_n 0, 1) := by decide +kernel
theorem dX6_odds_50 : decode cX6_odds 50 = .ok (.getfield 12, 3) := by decide +kernel
theorem dX6_odds_53 : decode cX6_odds 53 = .ok (.invokevirtual 229, 3) := by decide +kernel
theorem dX6_odds_56 : decode cX6_odds 56 = .ok (.aload_n 0, 1) := by decide +kernel
theorem dX6_odds_57 : decode cX6_odds 57 = .ok (.getfield 19, 3) := by decide +kernel
theorem dX6_odds_60 : decode cX6_odds 60 = .ok (.getfield 96, 3) := by decide +kernel
theorem dX6_odds_63 : decode cX6_odds 63 = .ok (.iload_n 1, 1) := by decide +kernel
theorem dX6_odds_64 : decode cX6_odds 64 = .ok (.iload 5, 2) := by decide +kernel
theorem dX6_odds_66 : decode cX6_odds 66 = .ok (.iastore, 1) := by decide +kernel
theorem dX6_odds_67 : decode cX6_odds 67 = .ok (.aload_n 0, 1) := by decide +kernel
theorem dX6_odds_68 : decode cX6_odds 68 = .ok (.iload_n 1, 1) := by decide +kernel
theorem dX6_odds_69 : decode cX6_odds 69 = .ok (.iload_n 2, 1) := by decide +kernel
theorem dX6_odds_70 : decode cX6_odds 70 = .ok (.invokevirtual 234, 3) := by decide +kernel
theorem dX6_odds_73 : decode cX6_odds 73 = .ok (.ifCond .ge 6, 3) := by decide +kernel
theorem dX6_odds_76 : decode cX6_odds 76 = .ok (.iinc 4 1, 3) := by decide +kernel
theorem dX6_odds_79 : decode cX6_odds 79 = .ok (.iinc 5 1, 3) := by decide +kernel
theorem dX6_odds_82 : decode cX6_odds 82 = .ok (.goto (-44), 3) := by decide +kernel
theorem dX6_odds_85 : decode cX6_odds 85 = .ok (.iload 4, 2) := by decide +kernel
theorem dX6_odds_87 : decode cX6_odds 87 = .ok (.i2l, 1) := by decide +kernel
theorem dX6_odds_88 : decode cX6_odds 88 = .ok (.ldc2_w 253, 3) := by decide +kernel
theorem dX6_odds_91 : decode cX6_odds 91 = .ok (.iload_n 3, 1) := by decide +kernel
theorem dX6_odds_92 : decode cX6_odds 92 = .ok (.invokestatic 207, 3) := by decide +kernel
theorem dX6_odds_95 : decode cX6_odds 95 = .ok (.l2i, 1) := by decide +kernel
theorem dX6_odds_96 : decode cX6_odds 96 = .ok (.ireturn, 1) := by decide +kernel
theorem dX6_fits_0 : decode cX6_fits 0 = .ok (.iload_n 1, 1) := by decide +kernel
theorem dX6_fits_1 : decode cX6_fits 1 = .ok (.invokestatic 255, 3) := by decide +kernel
theorem dX6_fits_4 : decode cX6_fits 4 = .ok (.ifCond .eq 20, 3) := by decide +kernel
theorem dX6_fits_7 : decode cX6_fits 7 = .ok (.aload_n 0, 1) := by decide +kernel
theorem dX6_fits_8 : decode cX6_fits 8 = .ok (.iload_n 2, 1) := by decide +kernel
theorem dX6_fits_9 : decode cX6_fits 9 = .ok (.invokevirtual 81, 3) := by decide +kernel
theorem dX6_fits_12 : decode cX6_fits 12 = .ok (.ifCond .eq 12, 3) := by decide +kernel
theorem dX6_fits_15 : decode cX6_fits 15 = .ok (.iload_n 3, 1) := by decide +kernel
theorem dX6_fits_16 : decode cX6_fits 16 = .ok (.iconst 0, 1) := by decide +kernel
theorem dX6_fits_17 : decode cX6_fits 17 = .ok (.iconst 1, 1) := by decide +kernel
theorem dX6_fits_18 : decode cX6_fits 18 = .ok (.invokestatic 108, 3) := by decide +kernel
theorem dX6_fits_21 : decode cX6_fits 21 = .ok (.ifCond .ne 9, 3) := by decide +kernel
theorem dX6_fits_24 : decode cX6_fits 24 = .ok (.aload_n 0, 1) := by decide +kernel
theorem dX6_fits_25 : decode cX6_fits 25 = .ok (.iconst 1, 1) := by decide +kernel
theorem dX6_fits_26 : decode cX6_fits 26 = .ok (.invokevirtual 69, 3) := by decide +kernel
theorem dX6_fits_29 : decode cX6_fits 29 = .ok (.ireturn, 1) := by decide +kernel
theorem dX6_fits_30 : decode cX6_fits 30 = .ok (.aload_n 0, 1) := by decide +kernel
theorem dX6_fits_31 : decode cX6_fits 31 = .ok (.getfield 52, 3) := by decide +kernel
theorem dX6_fits_34 : decode cX6_fits 34 = .ok (.iload_n 1, 1) := by decide +kernel
theorem dX6_fits_35 : decode cX6_fits 35 = .ok (.invokevirtual 258, 3) := by decide +kernel
theorem dX6_fits_38 : decode cX6_fits 38 = .ok (.ifCond .eq 9, 3) := by decide +kernel
theorem dX6_fits_41 : decode cX6_fits 41 = .ok (.aload_n 0, 1) := by decide +kernel
theorem dX6_fits_42 : decode cX6_fits 42 = .ok (.iconst 2, 1) := by decide +kernel
theorem dX6_fits_43 : decode cX6_fits 43 = .ok (.invokevirtual 69, 3) := by decide +kernel
theorem dX6_fits_46 : decode cX6_fits 46 = .ok (.ireturn, 1) := by decide +kernel
theorem dX6_fits_47 : decode cX6_fits 47 = .ok (.iconst 0, 1) := by decide +kernel
theorem dX6_fits_48 : decode cX6_fits 48 = .ok (.istore 4, 2) := by decide +kernel
theorem dX6_fits_50 : decode cX6_fits 50 = .ok (.iconst 0, 1) := by decide +kernel
theorem dX6_fits_51 : decode cX6_fits 51 = .ok (.istore 5, 2) := by decide +kernel
theorem dX6_fits_53 : decode cX6_fits 53 = .ok (.iload 5, 2) := by decide +kernel
theorem dX6_fits_55 : decode cX6_fits 55 = .ok (.bipush 7, 2) := by decide +kernel
theorem dX6_fits_57 : decode cX6_fits 57 = .ok (.if_icmp .ge 48, 3) := by decide +kernel
theorem dX6_fits_60 : decode cX6_fits 60 = .ok (.aload_n 0, 1) := by decide +kernel
theorem dX6_fits_61 : decode cX6_fits 61 = .ok (.getfield 19, 3) := by decide +kernel
theorem dX6_fits_64 : decode cX6_fits 64 = .ok (.aload_n 0, 1) := by decide +kernel
theorem dX6_fits_65 : decode cX6_fits 65 = .ok (.getfield 12, 3) := by decide +kernel
theorem dX6_fits_68 : decode cX6_fits 68 = .ok (.invokevirtual 229, 3) := by decide +kernel
theorem dX6_fits_71 : decode cX6_fits 71 = .ok (.aload_n 0, 1) := by decide +kernel
theorem dX6_fits_72 : decode cX6_fits 72 = .ok (.getfield 19, 3) := by decide +kernel
theorem dX6_fits_75 : decode cX6_fits 75 = .ok (.getfield 84, 3) := by decide +kernel
theorem dX6_fits_78 : decode cX6_fits 78 = .ok (.iload_n 2, 1) := by decide +kernel
theorem dX6_fits_79 : decode cX6_fits 79 = .ok (.iload 5, 2) := by decide +kernel
theorem dX6_fits_81 : decode cX6_fits 81 = .ok (.iastore, 1) := by decide +kernel
theorem dX6_fits_82 : decode cX6_fits 82 = .ok (.aload_n 0, 1) := by decide +kernel
theorem dX6_fits_83 : decode cX6_fits 83 = .ok (.iload_n 1, 1) := by decide +kernel
theorem dX6_fits_84 : decode cX6_fits 84 = .ok (.invokevirtual 261, 3) := by decide +kernel
theorem dX6_fits_87 : decode cX6_fits 87 = .ok (.ifCond .eq 12, 3) := by decide +kernel
theorem dX6_fits_90 : decode cX6_fits 90 = .ok (.iload 4, 2) := by decide +kernel
theorem dX6_fits_92 : decode cX6_fits 92 = .ok (.iconst 1, 1) := by decide +kernel
theorem dX6_fits_93 : decode cX6_fits 93 = .ok (.iload 5, 2) := by decide +kernel
theorem dX6_fits_95 : decode cX6_fits 95 = .ok (.ishl, 1) := by decide +kernel
theorem dX6_fits_96 : decode cX6_fits 96 = .ok (.ior, 1) := by decide +kernel
theorem dX6_fits_97 : decode cX6_fits 97 = .ok (.istore 4, 2) := by decide +kernel
theorem dX6_fits_99 : decode cX6_fits 99 = .ok (.iinc 5 1, 3) := by decide +kernel
theorem dX6_fits_102 : decode cX6_fits 102 = .ok (.goto (-49), 3) := by decide +kernel
theorem dX6_fits_105 : decode cX6_fits 105 = .ok (.iload_n 3, 1) := by decide +kernel
theorem dX6_fits_106 : decode cX6_fits 106 = .ok (.ifCond .ne 8, 3) := by decide +kernel
theorem dX6_fits_109 : decode cX6_fits 109 = .ok (.iload 4, 2) := by decide +kernel
theorem dX6_fits_111 : decode cX6_fits 111 = .ok (.goto 8, 3) := by decide +kernel
theorem dX6_fits_114 : decode cX6_fits 114 = .ok (.iload 4, 2) := by decide +kernel
theorem dX6_fits_116 : decode cX6_fits 116 = .ok (.invokestatic 181, 3) := by decide +kernel
theorem dX6_fits_119 : decode cX6_fits 119 = .ok (.ireturn, 1) := by decide +kernel
theorem dX6_voice_0 : decode cX6_voice 0 = .ok (.aload_n 0, 1) := by decide +kernel
theorem dX6_voice_1 : decode cX6_voice 1 = .ok (.iload_n 1, 1) := by decide +kernel
theorem dX6_voice_2 : decode cX6_voice 2 = .ok (.invokevirtual 81, 3) := by decide +kernel
theorem dX6_voice_5 : decode cX6_voice 5 = .ok (.ifCond .eq 12, 3) := by decide +kernel
theorem dX6_voice_8 : decode cX6_voice 8 = .ok (.iload_n 2, 1) := by decide +kernel
theorem dX6_voice_9 : decode cX6_voice 9 = .ok (.iconst 0, 1) := by decide +kernel
theorem dX6_voice_10 : decode cX6_voice 10 = .ok (.iconst 3, 1) := by decide +kernel
theorem dX6_voice_11 : decode cX6_voice 11 = .ok (.invokestatic 108, 3) := by decide +kernel
theorem dX6_voice_14 : decode cX6_voice 14 = .ok (.ifCond .ne 9, 3) := by decide +kernel
theorem dX6_voice_17 : decode cX6_voice 17 = .ok (.aload_n 0, 1) := by decide +kernel
theorem dX6_voice_18 : decode cX6_voice 18 = .ok (.iconst 1, 1) := by decide +kernel
theorem dX6_voice_19 : decode cX6_voice 19 = .ok (.invokevirtual 69, 3) := by decide +kernel
theorem dX6_voice_22 : decode cX6_voice 22 = .ok (.ireturn, 1) := by decide +kernel
theorem dX6_voice_23 : decode cX6_voice 23 = .ok (.aload_n 0, 1) := by decide +kernel
theorem dX6_voice_24 : decode cX6_voice 24 = .ok (.getfield 45, 3) := by decide +kernel
theorem dX6_voice_27 : decode cX6_voice 27 = .ok (.iload_n 1, 1) := by decide +kernel
theorem dX6_voice_28 : decode cX6_voice 28 = .ok (.aload_n 0, 1) := by decide +kernel
theorem dX6_voice_29 : decode cX6_voice 29 = .ok (.getfield 12, 3) := by decide +kernel
theorem dX6_voice_32 : decode cX6_voice 32 = .ok (.getfield 87, 3) := by decide +kernel
theorem dX6_voice_35 : decode cX6_voice 35 = .ok (.iload_n 1, 1) := by decide +kernel
theorem dX6_voice_36 : decode cX6_voice 36 = .ok (.iaload, 1) := by decide +kernel
theorem dX6_voice_37 : decode cX6_voice 37 = .ok (.aload_n 0, 1) := by decide +kernel
theorem dX6_voice_38 : decode cX6_voice 38 = .ok (.getfield 12, 3) := by decide +kernel
theorem dX6_voice_41 : decode cX6_voice 41 = .ok (.getfield 84, 3) := by decide +kernel
theorem dX6_voice_44 : decode cX6_voice 44 = .ok (.iload_n 1, 1) := by decide +kernel
theorem dX6_voice_45 : decode cX6_voice 45 = .ok (.iaload, 1) := by decide +kernel
theorem dX6_voice_46 : decode cX6_voice 46 = .ok (.iload_n 2, 1) := by decide +kernel
theorem dX6_voice_47 : decode cX6_voice 47 = .ok (.iload_n 3, 1) := by decide +kernel
theorem dX6_voice_48 : decode cX6_voice 48 = .ok (.invokevirtual 264, 3) := by decide +kernel
theorem dX6_voice_51 : decode cX6_voice 51 = .ok (.istore 4, 2) := by decide +kernel
theorem dX6_voice_53 : decode cX6_voice 53 = .ok (.aload_n 0, 1) := by decide +kernel
theorem dX6_voice_54 : decode cX6_voice 54 = .ok (.getfield 45, 3) := by decide +kernel
theorem dX6_voice_57 : decode cX6_voice 57 = .ok (.getfield 268, 3) := by decide +kernel
theorem dX6_voice_60 : decode cX6_voice 60 = .ok (.ifCond .eq 12, 3) := by decide +kernel
theorem dX6_voice_63 : decode cX6_voice 63 = .ok (.aload_n 0, 1) := by decide +kernel
theorem dX6_voice_64 : decode cX6_voice 64 = .ok (.bipush 6, 2) := by decide +kernel
theorem dX6_voice_66 : decode cX6_voice 66 = .ok (.invokevirtual 69, 3) := by decide +kernel
theorem dX6_voice_69 : decode cX6_voice 69 = .ok (.goto 5, 3) := by decide +kernel
theorem dX6_voice_72 : decode cX6_voice 72 = .ok (.iload 4, 2) := by decide +kernel
theorem dX6_voice_74 : decode cX6_voice 74 = .ok (.ireturn, 1) := by decide +kernel
theorem dX6_body_0 : decode cX6_body 0 = .ok (.iload_n 1, 1) := by decide +kernel
theorem dX6_body_1 : decode cX6_body 1 = .ok (.iconst 0, 1) := by decide +kernel
theorem dX6_body_2 : decode cX6_body 2 = .ok (.aload_n 0, 1) := by decide +kernel
theorem dX6_body_3 : decode cX6_body 3 = .ok (.getfield 45, 3) := by decide +kernel
theorem dX6_body_6 : decode cX6_body 6 = .ok (.getfield 272, 3) := by decide +kernel
theorem dX6_body_9 : decode cX6_body 9 = .ok (.iconst 1, 1) := by decide +kernel
theorem dX6_body_10 : decode cX6_body 10 = .ok (.isub, 1) := by decide +kernel
theorem dX6_body_11 : decode cX6_body 11 = .ok (.invokestatic 108, 3) := by decide +kernel
theorem dX6_body_14 : decode cX6_body 14 = .ok (.ifCond .eq 15, 3) := by decide +kernel
theorem dX6_body_17 : decode cX6_body 17 = .ok (.aload_n 0, 1) := by decide +kernel
theorem dX6_body_18 : decode cX6_body 18 = .ok (.getfield 45, 3) := by decide +kernel
theorem dX6_body_21 : decode cX6_body 21 = .ok (.getfield 275, 3) := by decide +kernel
theorem dX6_body_24 : decode cX6_body 24 = .ok (.iload_n 1, 1) := by decide +kernel
theorem dX6_body_25 : decode cX6_body 25 = .ok (.iaload, 1) := by decide +kernel
theorem dX6_body_26 : decode cX6_body 26 = .ok (.goto 8, 3) := by decide +kernel
theorem dX6_body_29 : decode cX6_body 29 = .ok (.aload_n 0, 1) := by decide +kernel
theorem dX6_body_30 : decode cX6_body 30 = .ok (.iconst 2, 1) := by decide +kernel
theorem dX6_body_31 : decode cX6_body 31 = .ok (.invokevirtual 69, 3) := by decide +kernel
theorem dX6_body_34 : decode cX6_body 34 = .ok (.ireturn, 1) := by decide +kernel
theorem dX6_sheet_0 : decode cX6_sheet 0 = .ok (.iload_n 2, 1) := by decide +kernel
theorem dX6_sheet_1 : decode cX6_sheet 1 = .ok (.ifCond .eq 21, 3) := by decide +kernel
theorem dX6_sheet_4 : decode cX6_sheet 4 = .ok (.iload_n 2, 1) := by decide +kernel
theorem dX6_sheet_5 : decode cX6_sheet 5 = .ok (.bipush 8, 2) := by decide +kernel
theorem dX6_sheet_7 : decode cX6_sheet 7 = .ok (.if_icmp .eq 15, 3) := by decide +kernel
theorem dX6_sheet_10 : decode cX6_sheet 10 = .ok (.iload_n 2, 1) := by decide +kernel
theorem dX6_sheet_11 : decode cX6_sheet 11 = .ok (.bipush 16, 2) := by decide +kernel
theorem dX6_sheet_13 : decode cX6_sheet 13 = .ok (.if_icmp .eq 9, 3) := by decide +kernel
theorem dX6_sheet_16 : decode cX6_sheet 16 = .ok (.iload_n 2, 1) := by decide +kernel
theorem dX6_sheet_17 : decode cX6_sheet 17 = .ok (.bipush 32, 2) := by decide +kernel
theorem dX6_sheet_19 : decode cX6_sheet 19 = .ok (.if_icmp .ne 7, 3) := by decide +kernel
theorem dX6_sheet_22 : decode cX6_sheet 22 = .ok (.iconst 1, 1) := by decide +kernel
theorem dX6_sheet_23 : decode cX6_sheet 23 = .ok (.goto 4, 3) := by decide +kernel
theorem dX6_sheet_26 : decode cX6_sheet 26 = .ok (.iconst 0, 1) := by decide +kernel
theorem dX6_sheet_27 : decode cX6_sheet 27 = .ok (.istore 4, 2) := by decide +kernel
theorem dX6_sheet_29 : decode cX6_sheet 29 = .ok (.iload_n 1, 1) := by decide +kernel
theorem dX6_sheet_30 : decode cX6_sheet 30 = .ok (.invokestatic 255, 3) := by decide +kernel
theorem dX6_sheet_33 : decode cX6_sheet 33 = .ok (.ifCond .eq 8, 3) := by decide +kernel
theorem dX6_sheet_36 : decode cX6_sheet 36 = .ok (.iload 4, 2) := by decide +kernel
theorem dX6_sheet_38 : decode cX6_sheet 38 = .ok (.ifCond .ne 9, 3) := by decide +kernel
theorem dX6_sheet_41 : decode cX6_sheet 41 = .ok (.aload_n 0, 1) := by decide +kernel
theorem dX6_sheet_42 : decode cX6_sheet 42 = .ok (.iconst 1, 1) := by decide +kernel
theorem dX6_sheet_43 : decode cX6_sheet 43 = .ok (.invokevirtual 69, 3) := by decide +kernel
theorem dX6_sheet_46 : decode cX6_sheet 46 = .ok (.ireturn, 1) := by decide +kernel
theorem dX6_sheet_47 : decode cX6_sheet 47 = .ok (.iload_n 2, 1) := by decide +kernel
theorem dX6_sheet_48 : decode cX6_sheet 48 = .ok (.ifCond .eq 13, 3) := by decide +kernel
theorem dX6_sheet_51 : decode cX6_sheet 51 = .ok (.iload_n 3, 1) := by decide +kernel
theorem dX6_sheet_52 : decode cX6_sheet 52 = .ok (.ifCond .ge 9, 3) := by decide +kernel
theorem dX6_sheet_55 : decode cX6_sheet 55 = .ok (.aload_n 0, 1) := by decide +kernel
theorem dX6_sheet_56 : decode cX6_sheet 56 = .ok (.iconst 3, 1) := by decide +kernel
theorem dX6_sheet_57 : decode cX6_sheet 57 = .ok (.invokevirtual 69, 3) := by decide +kernel
theorem dX6_sheet_60 : decode cX6_sheet 60 = .ok (.ireturn, 1) := by decide +kernel
theorem dX6_sheet_61 : decode cX6_sheet 61 = .ok (.iload_n 2, 1) := by decide +kernel
theorem dX6_sheet_62 : decode cX6_sheet 62 = .ok (.ifCond .eq 15, 3) := by decide +kernel
theorem dX6_sheet_65 : decode cX6_sheet 65 = .ok (.iload_n 3, 1) := by decide +kernel
theorem dX6_sheet_66 : decode cX6_sheet 66 = .ok (.bipush 24, 2) := by decide +kernel
theorem dX6_sheet_68 : decode cX6_sheet 68 = .ok (.if_icmp .le 9, 3) := by decide +kernel
theorem dX6_sheet_71 : decode cX6_sheet 71 = .ok (.aload_n 0, 1) := by decide +kernel
theorem dX6_sheet_72 : decode cX6_sheet 72 = .ok (.iconst 1, 1) := by decide +kernel
theorem dX6_sheet_73 : decode cX6_sheet 73 = .ok (.invokevirtual 69, 3) := by decide +kernel
theorem dX6_sheet_76 : decode cX6_sheet 76 = .ok (.ireturn, 1) := by decide +kernel
theorem dX6_sheet_77 : decode cX6_sheet 77 = .ok (.aload_n 0, 1) := by decide +kernel
theorem dX6_sheet_78 : decode cX6_sheet 78 = .ok (.getfield 52, 3) := by decide +kernel
theorem dX6_sheet_81 : decode cX6_sheet 81 = .ok (.iload_n 1, 1) := by decide +kernel
theorem dX6_sheet_82 : decode cX6_sheet 82 = .ok (.iload_n 2, 1) := by decide +kernel
theorem dX6_sheet_83 : decode cX6_sheet 83 = .ok (.iload_n 2, 1) := by decide +kernel
theorem dX6_sheet_84 : decode cX6_sheet 84 = .ok (.ifCond .ne 7, 3) := by decide +kernel
theorem dX6_sheet_87 : decode cX6_sheet 87 = .ok (.iconst 0, 1) := by decide +kernel
theorem dX6_sheet_88 : decode cX6_sheet 88 = .ok (.goto 4, 3) := by decide +kernel
theorem dX6_sheet_91 : decode cX6_sheet 91 = .ok (.iload_n 3, 1) := by decide +kernel
theorem dX6_sheet_92 : decode cX6_sheet 92 = .ok (.invokevirtual 278, 3) := by decide +kernel
theorem dX6_sheet_95 : decode cX6_sheet 95 = .ok (.iconst 1, 1) := by decide +kernel
theorem dX6_sheet_96 : decode cX6_sheet 96 = .ok (.ireturn, 1) := by decide +kernel
theorem dX6_put_0 : decode cX6_put 0 = .ok (.iload_n 1, 1) := by decide +kernel
theorem dX6_put_1 : decode cX6_put 1 = .ok (.invokestatic 255, 3) := by decide +kernel
theorem dX6_put_4 : decode cX6_put 4 = .ok (.ifCond .ne 9, 3) := by decide +kernel
theorem dX6_put_7 : decode cX6_put 7 = .ok (.aload_n 0, 1) := by decide +kernel
theorem dX6_put_8 : decode cX6_put 8 = .ok (.iconst 1, 1) := by decide +kernel
theorem dX6_put_9 : decode cX6_put 9 = .ok (.invokevirtual 69, 3) := by decide +kernel
theorem dX6_put_12 : decode cX6_put 12 = .ok (.ireturn, 1) := by decide +kernel
theorem dX6_put_13 : decode cX6_put 13 = .ok (.aload_n 0, 1) := by decide +kernel
theorem dX6_put_14 : decode cX6_put 14 = .ok (.getfield 52, 3) := by decide +kernel
theorem dX6_put_17 : decode cX6_put 17 = .ok (.iload_n 1, 1) := by decide +kernel
theorem dX6_put_18 : decode cX6_put 18 = .ok (.invokevirtual 258, 3) := by decide +kernel
theorem dX6_put_21 : decode cX6_put 21 = .ok (.ifCond .eq 9, 3) := by decide +kernel
theorem dX6_put_24 : decode cX6_put 24 = .ok (.aload_n 0, 1) := by decide +kernel
theorem dX6_put_25 : decode cX6_put 25 = .ok (.iconst 2, 1) := by decide +kernel
theorem dX6_put_26 : decode cX6_put 26 = .ok (.invokevirtual 69, 3) := by decide +kernel
theorem dX6_put_29 : decode cX6_put 29 = .ok (.ireturn, 1) := by decide +kernel
theorem dX6_put_30 : decode cX6_put 30 = .ok (.iload_n 2, 1) := by decide +kernel
theorem dX6_put_31 : decode cX6_put 31 = .ok (.iconst 0, 1) := by decide +kernel
theorem dX6_put_32 : decode cX6_put 32 = .ok (.aload_n 0, 1) := by decide +kernel
theorem dX6_put_33 : decode cX6_put 33 = .ok (.getfield 52, 3) := by decide +kernel
theorem dX6_put_36 : decode cX6_put 36 = .ok (.getfield 282, 3) := by decide +kernel
theorem dX6_put_39 : decode cX6_put 39 = .ok (.iload_n 1, 1) := by decide +kernel
theorem dX6_put_40 : decode cX6_put 40 = .ok (.iaload, 1) := by decide +kernel
theorem dX6_put_41 : decode cX6_put 41 = .ok (.iconst 1, 1) := by decide +kernel
theorem dX6_put_42 : decode cX6_put 42 = .ok (.isub, 1) := by decide +kernel
theorem dX6_put_43 : decode cX6_put 43 = .ok (.invokestatic 108, 3) := by decide +kernel
theorem dX6_put_46 : decode cX6_put 46 = .ok (.ifCond .ne 9, 3) := by decide +kernel
theorem dX6_put_49 : decode cX6_put 49 = .ok (.aload_n 0, 1) := by decide +kernel
theorem dX6_put_50 : decode cX6_put 50 = .ok (.iconst 1, 1) := by decide +kernel
theorem dX6_put_51 : decode cX6_put 51 = .ok (.invokevirtual 69, 3) := by decide +kernel
theorem dX6_put_54 : decode cX6_put 54 = .ok (.ireturn, 1) := by decide +kernel
theorem dX6_put_55 : decode cX6_put 55 = .ok (.aload_n 0, 1) := by decide +kernel
theorem dX6_put_56 : decode cX6_put 56 = .ok (.getfield 52, 3) := by decide +kernel
theorem dX6_put_59 : decode cX6_put 59 = .ok (.iload_n 1, 1) := by decide +kernel
theorem dX6_put_60 : decode cX6_put 60 = .ok (.iload_n 2, 1) := by decide +kernel
theorem dX6_put_61 : decode cX6_put 61 = .ok (.iload_n 3, 1) := by decide +kernel
theorem dX6_put_62 : decode cX6_put 62 = .ok (.invokevirtual 285, 3) := by decide +kernel
theorem dX6_put_65 : decode cX6_put 65 = .ok (.iconst 1, 1) := by decide +kernel
theorem dX6_put_66 : decode cX6_put 66 = .ok (.ireturn, 1) := by decide +kernel
theorem dX6_move_0 : decode cX6_move 0 = .ok (.iload_n 1, 1) := by decide +kernel
theorem dX6_move_1 : decode cX6_move 1 = .ok (.invokestatic 255, 3) := by decide +kernel
theorem dX6_move_4 : decode cX6_move 4 = .ok (.ifCond .eq 10, 3) := by decide +kernel
theorem dX6_move_7 : decode cX6_move 7 = .ok (.iload_n 3, 1) := by decide +kernel
theorem dX6_move_8 : decode cX6_move 8 = .ok (.invokestatic 255, 3) := by decide +kernel
theorem dX6_move_11 : decode cX6_move 11 = .ok (.ifCond .ne 9, 3) := by decide +kernel
theorem dX6_move_14 : decode cX6_move 14 = .ok (.aload_n 0, 1) := by decide +kernel
theorem dX6_move_15 : decode cX6_move 15 = .ok (.iconst 1, 1) := by decide +kernel
theorem dX6_move_16 : decode cX6_move 16 = .ok (.invokevirtual 69, 3) := by decide +kernel
theorem dX6_move_19 : decode cX6_move 19 = .ok (.ireturn, 1) := by decide +kernel
theorem dX6_move_20 : decode cX6_move 20 = .ok (.aload_n 0, 1) := by decide +kernel
theorem dX6_move_21 : decode cX6_move 21 = .ok (.getfield 52, 3) := by decide +kernel
theorem dX6_move_24 : decode cX6_move 24 = .ok (.iload_n 1, 1) := by decide +kernel
theorem dX6_move_25 : decode cX6_move 25 = .ok (.invokevirtual 258, 3) := by decide +kernel
theorem dX6_move_28 : decode cX6_move 28 = .ok (.ifCond .ne 14, 3) := by decide +kernel
theorem dX6_move_31 : decode cX6_move 31 = .ok (.aload_n 0, 1) := by decide +kernel
theorem dX6_move_32 : decode cX6_move 32 = .ok (.getfield 52, 3) := by decide +kernel
theorem dX6_move_35 : decode cX6_move 35 = .ok (.iload_n 3, 1) := by decide +kernel
theorem dX6_move_36 : decode cX6_move 36 = .ok (.invokevirtual 258, 3) := by decide +kernel
theorem dX6_move_39 : decode cX6_move 39 = .ok (.ifCond .eq 9, 3) := by decide +kernel
theorem dX6_move_42 : decode cX6_move 42 = .ok (.aload_n 0, 1) := by decide +kernel
theorem dX6_move_43 : decode cX6_move 43 = .ok (.iconst 2, 1) := by decide +kernel
theorem dX6_move_44 : decode cX6_move 44 = .ok (.invokevirtual 69, 3) := by decide +kernel
theorem dX6_move_47 : decode cX6_move 47 = .ok (.ireturn, 1) := by decide +kernel
theorem dX6_move_48 : decode cX6_move 48 = .ok (.aload_n 0, 1) := by decide +kernel
theorem dX6_move_49 : decode cX6_move 49 = .ok (.getfield 52, 3) := by decide +kernel
theorem dX6_move_52 : decode cX6_move 52 = .ok (.getfield 288, 3) := by decide +kernel
theorem dX6_move_55 : decode cX6_move 55 = .ok (.iload_n 1, 1) := by decide +kernel
theorem dX6_move_56 : decode cX6_move 56 = .ok (.iaload, 1) := by decide +kernel
theorem dX6_move_57 : decode cX6_move 57 = .ok (.aload_n 0, 1) := by decide +kernel
theorem dX6_move_58 : decode cX6_move 58 = .ok (.getfield 52, 3) := by decide +kernel
theorem dX6_move_61 : decode cX6_move 61 = .ok (.getfield 288, 3) := by decide +kernel
theorem dX6_move_64 : decode cX6_move 64 = .ok (.iload_n 3, 1) := by decide +kernel
theorem dX6_move_65 : decode cX6_move 65 = .ok (.iaload, 1) := by decide +kernel
theorem dX6_move_66 : decode cX6_move 66 = .ok (.if_icmp .eq 9, 3) := by decide +kernel
theorem dX6_move_69 : decode cX6_move 69 = .ok (.aload_n 0, 1) := by decide +kernel
theorem dX6_move_70 : decode cX6_move 70 = .ok (.iconst 5, 1) := by decide +kernel
theorem dX6_move_71 : decode cX6_move 71 = .ok (.invokevirtual 69, 3) := by decide +kernel
theorem dX6_move_74 : decode cX6_move 74 = .ok (.ireturn, 1) := by decide +kernel
theorem dX6_move_75 : decode cX6_move 75 = .ok (.aload_n 0, 1) := by decide +kernel
theorem dX6_move_76 : decode cX6_move 76 = .ok (.getfield 52, 3) := by decide +kernel
theorem dX6_move_79 : decode cX6_move 79 = .ok (.iload_n 1, 1) := by decide +kernel
theorem dX6_move_80 : decode cX6_move 80 = .ok (.iload_n 2, 1) := by decide +kernel
theorem dX6_move_81 : decode cX6_move 81 = .ok (.iload 5, 2) := by decide +kernel
theorem dX6_move_83 : decode cX6_move 83 = .ok (.invokevirtual 291, 3) := by decide +kernel
theorem dX6_move_86 : decode cX6_move 86 = .ok (.ifCond .eq 18, 3) := by decide +kernel
theorem dX6_move_89 : decode cX6_move 89 = .ok (.aload_n 0, 1) := by decide +kernel
theorem dX6_move_90 : decode cX6_move 90 = .ok (.getfield 52, 3) := by decide +kernel
theorem dX6_move_93 : decode cX6_move 93 = .ok (.iload_n 3, 1) := by decide +kernel
theorem dX6_move_94 : decode cX6_move 94 = .ok (.iload 4, 2) := by decide +kernel
theorem dX6_move_96 : decode cX6_move 96 = .ok (.iload 5, 2) := by decide +kernel
theorem dX6_move_98 : decode cX6_move 98 = .ok (.invokevirtual 291, 3) := by decide +kernel
theorem dX6_move_101 : decode cX6_move 101 = .ok (.ifCond .ne 9, 3) := by decide +kernel
theorem dX6_move_104 : decode cX6_move 104 = .ok (.aload_n 0, 1) := by decide +kernel
theorem dX6_move_105 : decode cX6_move 105 = .ok (.iconst 1, 1) := by decide +kernel
theorem dX6_move_106 : decode cX6_move 106 = .ok (.invokevirtual 69, 3) := by decide +kernel
theorem dX6_move_109 : decode cX6_move 109 = .ok (.ireturn, 1) := by decide +kernel
theorem dX6_move_110 : decode cX6_move 110 = .ok (.aload_n 0, 1) := by decide +kernel
theorem dX6_move_111 : decode cX6_move 111 = .ok (.getfield 52, 3) := by decide +kernel
theorem dX6_move_114 : decode cX6_move 114 = .ok (.getfield 294, 3) := by decide +kernel
theorem dX6_move_117 : decode cX6_move 117 = .ok (.iload_n 1, 1) := by decide +kernel
theorem dX6_move_118 : decode cX6_move 118 = .ok (.aaload, 1) := by decide +kernel
theorem dX6_move_119 : decode cX6_move 119 = .ok (.iload_n 2, 1) := by decide +kernel
theorem dX6_move_120 : decode cX6_move 120 = .ok (.aload_n 0, 1) := by decide +kernel
theorem dX6_move_121 : decode cX6_move 121 = .ok (.getfield 52, 3) := by decide +kernel
theorem dX6_move_124 : decode cX6_move 124 = .ok (.getfield 294, 3) := by decide +kernel
theorem dX6_move_127 : decode cX6_move 127 = .ok (.iload_n 3, 1) := by decide +kernel
theorem dX6_move_128 : decode cX6_move 128 = .ok (.aaload, 1) := by decide +kernel
theorem dX6_move_129 : decode cX6_move 129 = .ok (.iload 4, 2) := by decide +kernel
theorem dX6_move_131 : decode cX6_move 131 = .ok (.iload 5, 2) := by decide +kernel
theorem dX6_move_133 : decode cX6_move 133 = .ok (.invokestatic 298, 3) := by decide +kernel
theorem dX6_move_136 : decode cX6_move 136 = .ok (.iload 5, 2) := by decide +kernel
theorem dX6_move_138 : decode cX6_move 138 = .ok (.ireturn, 1) := by decide +kernel
theorem dX6_tells_0 : decode cX6_tells 0 = .ok (.iload_n 1, 1) := by decide +kernel
theorem dX6_tells_1 : decode cX6_tells 1 = .ok (.invokestatic 255, 3) := by decide +kernel
theorem dX6_tells_4 : decode cX6_tells 4 = .ok (.ifCond .ne 9, 3) := by decide +kernel
theorem dX6_tells_7 : decode cX6_tells 7 = .ok (.aload_n 0, 1) := by decide +kernel
theorem dX6_tells_8 : decode cX6_tells 8 = .ok (.iconst 1, 1) := by decide +kernel
theorem dX6_tells_9 : decode cX6_tells 9 = .ok (.invokevirtual 69, 3) := by decide +kernel
theorem dX6_tells_12 : decode cX6_tells 12 = .ok (.ireturn, 1) := by decide +kernel
theorem dX6_tells_13 : decode cX6_tells 13 = .ok (.aload_n 0, 1) := by decide +kernel
theorem dX6_tells_14 : decode cX6_tells 14 = .ok (.getfield 52, 3) := by decide +kernel
theorem dX6_tells_17 : decode cX6_tells 17 = .ok (.iload_n 1, 1) := by decide +kernel
theorem dX6_tells_18 : decode cX6_tells 18 = .ok (.invokevirtual 258, 3) := by decide +kernel
theorem dX6_tells_21 : decode cX6_tells 21 = .ok (.ifCond .eq 9, 3) := by decide +kernel
theorem dX6_tells_24 : decode cX6_tells 24 = .ok (.aload_n 0, 1) := by decide +kernel
theorem dX6_tells_25 : decode cX6_tells 25 = .ok (.iconst 2, 1) := by decide +kernel
theorem dX6_tells_26 : decode cX6_tells 26 = .ok (.invokevirtual 69, 3) := by decide +kernel
theorem dX6_tells_29 : decode cX6_tells 29 = .ok (.ireturn, 1) := by decide +kernel
theorem dX6_tells_30 : decode cX6_tells 30 = .ok (.aload_n 0, 1) := by decide +kernel
theorem dX6_tells_31 : decode cX6_tells 31 = .ok (.getfield 52, 3) := by decide +kernel
theorem dX6_tells_34 : decode cX6_tells 34 = .ok (.getfield 282, 3) := by decide +kernel
theorem dX6_tells_37 : decode cX6_tells 37 = .ok (.iload_n 1, 1) := by decide +kernel
theorem dX6_tells_38 : decode cX6_tells 38 = .ok (.iaload, 1) := by decide +kernel
theorem dX6_tells_39 : decode cX6_tells 39 = .ok (.aload_n 0, 1) := by decide +kernel
theorem dX6_tells_40 : decode cX6_tells 40 = .ok (.getfield 12, 3) := by decide +kernel
theorem dX6_tells_43 : decode cX6_tells 43 = .ok (.getfield 73, 3) := by decide +kernel
theorem dX6_tells_46 : decode cX6_tells 46 = .ok (.invokestatic 304, 3) := by decide +kernel
theorem dX6_tells_49 : decode cX6_tells 49 = .ok (.istore_n 2, 1) := by decide +kernel
theorem dX6_tells_50 : decode cX6_tells 50 = .ok (.iconst 0, 1) := by decide +kernel
theorem dX6_tells_51 : decode cX6_tells 51 = .ok (.istore_n 3, 1) := by decide +kernel
theorem dX6_tells_52 : decode cX6_tells 52 = .ok (.iload_n 3, 1) := by decide +kernel
theorem dX6_tells_53 : decode cX6_tells 53 = .ok (.iload_n 2, 1) := by decide +kernel
theorem dX6_tells_54 : decode cX6_tells 54 = .ok (.if_icmp .ge 43, 3) := by decide +kernel
theorem dX6_tells_57 : decode cX6_tells 57 = .ok (.aload_n 0, 1) := by decide +kernel
theorem dX6_tells_58 : decode cX6_tells 58 = .ok (.getfield 52, 3) := by decide +kernel
theorem dX6_tells_61 : decode cX6_tells 61 = .ok (.getfield 294, 3) := by decide +kernel
theorem dX6_tells_64 : decode cX6_tells 64 = .ok (.iload_n 1, 1) := by decide +kernel
theorem dX6_tells_65 : decode cX6_tells 65 = .ok (.aaload, 1) := by decide +kernel
theorem dX6_tells_66 : decode cX6_tells 66 = .ok (.iload_n 3, 1) := by decide +kernel
theorem dX6_tells_67 : decode cX6_tells 67 = .ok (.iaload, 1) := by decide +kernel
theorem dX6_tells_68 : decode cX6_tells 68 = .ok (.istore 4, 2) := by decide +kernel
theorem dX6_tells_70 : decode cX6_tells 70 = .ok (.iload 4, 2) := by decide +kernel
theorem dX6_tells_72 : decode cX6_tells 72 = .ok (.invokestatic 66, 3) := by decide +kernel
theorem dX6_tells_75 : decode cX6_tells 75 = .ok (.ifCond .ne 5, 3) := by decide +kernel
theorem dX6_tells_78 : decode cX6_tells 78 = .ok (.iload_n 3, 1) := by decide +kernel
theorem dX6_tells_79 : decode cX6_tells 79 = .ok (.ireturn, 1) := by decide +kernel
theorem dX6_tells_80 : decode cX6_tells 80 = .ok (.aload_n 0, 1) := by decide +kernel
theorem dX6_tells_81 : decode cX6_tells 81 = .ok (.getfield 12, 3) := by decide +kernel
theorem dX6_tells_84 : decode cX6_tells 84 = .ok (.getfield 96, 3) := by decide +kernel
theorem dX6_tells_87 : decode cX6_tells 87 = .ok (.iload_n 3, 1) := by decide +kernel
theorem dX6_tells_88 : decode cX6_tells 88 = .ok (.iload 4, 2) := by decide +kernel
theorem dX6_tells_90 : decode cX6_tells 90 = .ok (.iastore, 1) := by decide +kernel
theorem dX6_tells_91 : decode cX6_tells 91 = .ok (.iinc 3 1, 3) := by decide +kernel
theorem dX6_tells_94 : decode cX6_tells 94 = .ok (.goto (-42), 3) := by decide +kernel
theorem dX6_tells_97 : decode cX6_tells 97 = .ok (.iload_n 2, 1) := by decide +kernel
theorem dX6_tells_98 : decode cX6_tells 98 = .ok (.ireturn, 1) := by decide +kernel
theorem dX6_judge_0 : decode cX6_judge 0 = .ok (.iload_n 1, 1) := by decide +kernel
theorem dX6_judge_1 : decode cX6_judge 1 = .ok (.invokestatic 255, 3) := by decide +kernel
theorem dX6_judge_4 : decode cX6_judge 4 = .ok (.ifCond .ne 9, 3) := by decide +kernel
theorem dX6_judge_7 : decode cX6_judge 7 = .ok (.aload_n 0, 1) := by decide +kernel
theorem dX6_judge_8 : decode cX6_judge 8 = .ok (.iconst 1, 1) := by decide +kernel
theorem dX6_judge_9 : decode cX6_judge 9 = .ok (.invokevirtual 69, 3) := by decide +kernel
theorem dX6_judge_12 : decode cX6_judge 12 = .ok (.ireturn, 1) := by decide +kernel
theorem dX6_judge_13 : decode cX6_judge 13 = .ok (.aload_n 0, 1) := by decide +kernel
theorem dX6_judge_14 : decode cX6_judge 14 = .ok (.getfield 52, 3) := by decide +kernel
theorem dX6_judge_17 : decode cX6_judge 17 = .ok (.iload_n 1, 1) := by decide +kernel
theorem dX6_judge_18 : decode cX6_judge 18 = .ok (.invokevirtual 258, 3) := by decide +kernel
theorem dX6_judge_21 : decode cX6_judge 21 = .ok (.ifCond .eq 9, 3) := by decide +kernel
theorem dX6_judge_24 : decode cX6_judge 24 = .ok (.aload_n 0, 1) := by decide +kernel
theorem dX6_judge_25 : decode cX6_judge 25 = .ok (.iconst 2, 1) := by decide +kernel
theorem dX6_judge_26 : decode cX6_judge 26 = .ok (.invokevirtual 69, 3) := by decide +kernel
theorem dX6_judge_29 : decode cX6_judge 29 = .ok (.ireturn, 1) := by decide +kernel
theorem dX6_judge_30 : decode cX6_judge 30 = .ok (.aload_n 0, 1) := by decide +kernel
theorem dX6_judge_31 : decode cX6_judge 31 = .ok (.getfield 52, 3) := by decide +kernel
theorem dX6_judge_34 : decode cX6_judge 34 = .ok (.getfield 282, 3) := by decide +kernel
theorem dX6_judge_37 : decode cX6_judge 37 = .ok (.iload_n 1, 1) := by decide +kernel
theorem dX6_judge_38 : decode cX6_judge 38 = .ok (.iaload, 1) := by decide +kernel
theorem dX6_judge_39 : decode cX6_judge 39 = .ok (.aload_n 0, 1) := by decide +kernel
theorem dX6_judge_40 : decode cX6_judge 40 = .ok (.getfield 12, 3) := by decide +kernel
theorem dX6_judge_43 : decode cX6_judge 43 = .ok (.getfield 73, 3) := by decide +kernel
theorem dX6_judge_46 : decode cX6_judge 46 = .ok (.invokestatic 304, 3) := by decide +kernel
theorem dX6_judge_49 : decode cX6_judge 49 = .ok (.istore_n 2, 1) := by decide +kernel
theorem dX6_judge_50 : decode cX6_judge 50 = .ok (.iconst 0, 1) := by decide +kernel
theorem dX6_judge_51 : decode cX6_judge 51 = .ok (.istore_n 3, 1) := by decide +kernel
theorem dX6_judge_52 : decode cX6_judge 52 = .ok (.iload_n 3, 1) := by decide +kernel
theorem dX6_judge_53 : decode cX6_judge 53 = .ok (.iload_n 2, 1) := by decide +kernel
theorem dX6_judge_54 : decode cX6_judge 54 = .ok (.if_icmp .ge 34, 3) := by decide +kernel
theorem dX6_judge_57 : decode cX6_judge 57 = .ok (.aload_n 0, 1) := by decide +kernel
theorem dX6_judge_58 : decode cX6_judge 58 = .ok (.getfield 52, 3) := by decide +kernel
theorem dX6_judge_61 : decode cX6_judge 61 = .ok (.getfield 294, 3) := by decide +kernel
theorem dX6_judge_64 : decode cX6_judge 64 = .ok (.iload_n 1, 1) := by decide +kernel
theorem dX6_judge_65 : decode cX6_judge 65 = .ok (.aaload, 1) := by decide +kernel
theorem dX6_judge_66 : decode cX6_judge 66 = .ok (.iload_n 3, 1) := by decide +kernel
theorem dX6_judge_67 : decode cX6_judge 67 = .ok (.iaload, 1) := by decide +kernel
theorem dX6_judge_68 : decode cX6_judge 68 = .ok (.aload_n 0, 1) := by decide +kernel
theorem dX6_judge_69 : decode cX6_judge 69 = .ok (.getfield 12, 3) := by decide +kernel
theorem dX6_judge_72 : decode cX6_judge 72 = .ok (.getfield 96, 3) := by decide +kernel
theorem dX6_judge_75 : decode cX6_judge 75 = .ok (.iload_n 3, 1) := by decide +kernel
theorem dX6_judge_76 : decode cX6_judge 76 = .ok (.iaload, 1) := by decide +kernel
theorem dX6_judge_77 : decode cX6_judge 77 = .ok (.if_icmp .eq 5, 3) := by decide +kernel
theorem dX6_judge_80 : decode cX6_judge 80 = .ok (.iload_n 3, 1) := by decide +kernel
theorem dX6_judge_81 : decode cX6_judge 81 = .ok (.ireturn, 1) := by decide +kernel
theorem dX6_judge_82 : decode cX6_judge 82 = .ok (.iinc 3 1, 3) := by decide +kernel
theorem dX6_judge_85 : decode cX6_judge 85 = .ok (.goto (-33), 3) := by decide +kernel
theorem dX6_judge_88 : decode cX6_judge 88 = .ok (.iload_n 2, 1) := by decide +kernel
theorem dX6_judge_89 : decode cX6_judge 89 = .ok (.ireturn, 1) := by decide +kernel
theorem dX6_image_0 : decode cX6_image 0 = .ok (.aload_n 0, 1) := by decide +kernel
theorem dX6_image_1 : decode cX6_image 1 = .ok (.getfield 16, 3) := by decide +kernel
theorem dX6_image_4 : decode cX6_image 4 = .ok (.aload_n 0, 1) := by decide +kernel
theorem dX6_image_5 : decode cX6_image 5 = .ok (.getfield 12, 3) := by decide +kernel
theorem dX6_image_8 : decode cX6_image 8 = .ok (.invokevirtual 229, 3) := by decide +kernel
theorem dX6_image_11 : decode cX6_image 11 = .ok (.aload_n 0, 1) := by decide +kernel
theorem dX6_image_12 : decode cX6_image 12 = .ok (.dup, 1) := by decide +kernel
theorem dX6_image_13 : decode cX6_image 13 = .ok (.getfield 307, 3) := by decide +kernel
theorem dX6_image_16 : decode cX6_image 16 = .ok (.iconst 1, 1) := by decide +kernel
theorem dX6_image_17 : decode cX6_image 17 = .ok (.iadd, 1) := by decide +kernel
theorem dX6_image_18 : decode cX6_image 18 = .ok (.putfield 307, 3) := by decide +kernel
theorem dX6_image_21 : decode cX6_image 21 = .ok (.aload_n 0, 1) := by decide +kernel
theorem dX6_image_22 : decode cX6_image 22 = .ok (.getfield 307, 3) := by decide +kernel
theorem dX6_image_25 : decode cX6_image 25 = .ok (.ireturn, 1) := by decide +kernel
theorem dX6_restore_0 : decode cX6_restore 0 = .ok (.aload_n 0, 1) := by decide +kernel
theorem dX6_restore_1 : decode cX6_restore 1 = .ok (.getfield 307, 3) := by decide +kernel
theorem dX6_restore_4 : decode cX6_restore 4 = .ok (.ifCond .ne 9, 3) := by decide +kernel
theorem dX6_restore_7 : decode cX6_restore 7 = .ok (.aload_n 0, 1) := by decide +kernel
theorem dX6_restore_8 : decode cX6_restore 8 = .ok (.iconst 2, 1) := by decide +kernel
theorem dX6_restore_9 : decode cX6_restore 9 = .ok (.invokevirtual 69, 3) := by decide +kernel
theorem dX6_restore_12 : decode cX6_restore 12 = .ok (.ireturn, 1) := by decide +kernel
theorem dX6_restore_13 : decode cX6_restore 13 = .ok (.aload_n 0, 1) := by decide +kernel
theorem dX6_restore_14 : decode cX6_restore 14 = .ok (.getfield 12, 3) := by decide +kernel
theorem dX6_restore_17 : decode cX6_restore 17 = .ok (.aload_n 0, 1) := by decide +kernel
theorem dX6_restore_18 : decode cX6_restore 18 = .ok (.getfield 16, 3) := by decide +kernel
theorem dX6_restore_21 : decode cX6_restore 21 = .ok (.invokevirtual 229, 3) := by decide +kernel
theorem dX6_restore_24 : decode cX6_restore 24 = .ok (.aload_n 0, 1) := by decide +kernel
theorem dX6_restore_25 : decode cX6_restore 25 = .ok (.getfield 12, 3) := by decide +kernel
theorem dX6_restore_28 : decode cX6_restore 28 = .ok (.getfield 171, 3) := by decide +kernel
theorem dX6_restore_31 : decode cX6_restore 31 = .ok (.ireturn, 1) := by decide +kernel
theorem dX6_tell_0 : decode cX6_tell 0 = .ok (.aload_n 0, 1) := by decide +kernel
theorem dX6_tell_1 : decode cX6_tell 1 = .ok (.getfield 12, 3) := by decide +kernel
theorem dX6_tell_4 : decode cX6_tell 4 = .ok (.getfield 310, 3) := by decide +kernel
theorem dX6_tell_7 : decode cX6_tell 7 = .ok (.bipush 24, 2) := by decide +kernel
theorem dX6_tell_9 : decode cX6_tell 9 = .ok (.if_icmp .lt 9, 3) := by decide +kernel
theorem dX6_tell_12 : decode cX6_tell 12 = .ok (.aload_n 0, 1) := by decide +kernel
theorem dX6_tell_13 : decode cX6_tell 13 = .ok (.iconst 4, 1) := by decide +kernel
theorem dX6_tell_14 : decode cX6_tell 14 = .ok (.invokevirtual 69, 3) := by decide +kernel
theorem dX6_tell_17 : decode cX6_tell 17 = .ok (.ireturn, 1) := by decide +kernel
theorem dX6_tell_18 : decode cX6_tell 18 = .ok (.aload_n 0, 1) := by decide +kernel
theorem dX6_tell_19 : decode cX6_tell 19 = .ok (.getfield 12, 3) := by decide +kernel
theorem dX6_tell_22 : decode cX6_tell 22 = .ok (.getfield 313, 3) := by decide +kernel
theorem dX6_tell_25 : decode cX6_tell 25 = .ok (.aload_n 0, 1) := by decide +kernel
theorem dX6_tell_26 : decode cX6_tell 26 = .ok (.getfield 12, 3) := by decide +kernel
theorem dX6_tell_29 : decode cX6_tell 29 = .ok (.getfield 310, 3) := by decide +kernel
theorem dX6_tell_32 : decode cX6_tell 32 = .ok (.iload_n 1, 1) := by decide +kernel
theorem dX6_tell_33 : decode cX6_tell 33 = .ok (.iastore, 1) := by decide +kernel
theorem dX6_tell_34 : decode cX6_tell 34 = .ok (.aload_n 0, 1) := by decide +kernel
theorem dX6_tell_35 : decode cX6_tell 35 = .ok (.getfield 12, 3) := by decide +kernel
theorem dX6_tell_38 : decode cX6_tell 38 = .ok (.dup, 1) := by decide +kernel
theorem dX6_tell_39 : decode cX6_tell 39 = .ok (.getfield 310, 3) := by decide +kernel
theorem dX6_tell_42 : decode cX6_tell 42 = .ok (.iconst 1, 1) := by decide +kernel
theorem dX6_tell_43 : decode cX6_tell 43 = .ok (.iadd, 1) := by decide +kernel
theorem dX6_tell_44 : decode cX6_tell 44 = .ok (.putfield 310, 3) := by decide +kernel
theorem dX6_tell_47 : decode cX6_tell 47 = .ok (.aload_n 0, 1) := by decide +kernel
theorem dX6_tell_48 : decode cX6_tell 48 = .ok (.getfield 12, 3) := by decide +kernel
theorem dX6_tell_51 : decode cX6_tell 51 = .ok (.getfield 310, 3) := by decide +kernel
theorem dX6_tell_54 : decode cX6_tell 54 = .ok (.ireturn, 1) := by decide +kernel
theorem dX6_check_0 : decode cX6_check 0 = .ok (.aload_n 0, 1) := by decide +kernel
theorem dX6_check_1 : decode cX6_check 1 = .ok (.getfield 12, 3) := by decide +kernel
theorem dX6_check_4 : decode cX6_check 4 = .ok (.getfield 310, 3) := by decide +kernel
theorem dX6_check_7 : decode cX6_check 7 = .ok (.istore_n 1, 1) := by decide +kernel
theorem dX6_check_8 : decode cX6_check 8 = .ok (.aload_n 0, 1) := by decide +kernel
theorem dX6_check_9 : decode cX6_check 9 = .ok (.getfield 12, 3) := by decide +kernel
theorem dX6_check_12 : decode cX6_check 12 = .ok (.iconst 0, 1) := by decide +kernel
theorem dX6_check_13 : decode cX6_check 13 = .ok (.putfield 310, 3) := by decide +kernel
theorem dX6_check_16 : decode cX6_check 16 = .ok (.iconst 0, 1) := by decide +kernel
theorem dX6_check_17 : decode cX6_check 17 = .ok (.istore_n 2, 1) := by decide +kernel
theorem dX6_check_18 : decode cX6_check 18 = .ok (.iload_n 2, 1) := by decide +kernel
theorem dX6_check_19 : decode cX6_check 19 = .ok (.iload_n 1, 1) := by decide +kernel
theorem dX6_check_20 : decode cX6_check 20 = .ok (.if_icmp .ge 44, 3) := by decide +kernel
theorem dX6_check_23 : decode cX6_check 23 = .ok (.iload_n 2, 1) := by decide +kernel
theorem dX6_check_24 : decode cX6_check 24 = .ok (.aload_n 0, 1) := by decide +kernel
theorem dX6_check_25 : decode cX6_check 25 = .ok (.getfield 12, 3) := by decide +kernel
theorem dX6_check_28 : decode cX6_check 28 = .ok (.getfield 73, 3) := by decide +kernel
theorem dX6_check_31 : decode cX6_check 31 = .ok (.if_icmp .ge 23, 3) := by decide +kernel
theorem dX6_check_34 : decode cX6_check 34 = .ok (.aload_n 0, 1) := by decide +kernel
theorem dX6_check_35 : decode cX6_check 35 = .ok (.getfield 12, 3) := by decide +kernel
theorem dX6_check_38 : decode cX6_check 38 = .ok (.getfield 313, 3) := by decide +kernel
theorem dX6_check_41 : decode cX6_check 41 = .ok (.iload_n 2, 1) := by decide +kernel
theorem dX6_check_42 : decode cX6_check 42 = .ok (.iaload, 1) := by decide +kernel
theorem dX6_check_43 : decode cX6_check 43 = .ok (.aload_n 0, 1) := by decide +kernel
theorem dX6_check_44 : decode cX6_check 44 = .ok (.getfield 12, 3) := by decide +kernel
theorem dX6_check_47 : decode cX6_check 47 = .ok (.iload_n 2, 1) := by decide +kernel
theorem dX6_check_48 : decode cX6_check 48 = .ok (.invokevirtual 105, 3) := by decide +kernel
theorem dX6_check_51 : decode cX6_check 51 = .ok (.if_icmp .eq 7, 3) := by decide +kernel
theorem dX6_check_54 : decode cX6_check 54 = .ok (.iconst 1, 1) := by decide +kernel
theorem dX6_check_55 : decode cX6_check 55 = .ok (.iload_n 2, 1) := by decide +kernel
theorem dX6_check_56 : decode cX6_check 56 = .ok (.iadd, 1) := by decide +kernel
theorem dX6_check_57 : decode cX6_check 57 = .ok (.ireturn, 1) := by decide +kernel
theorem dX6_check_58 : decode cX6_check 58 = .ok (.iinc 2 1, 3) := by decide +kernel
theorem dX6_check_61 : decode cX6_check 61 = .ok (.goto (-43), 3) := by decide +kernel
theorem dX6_check_64 : decode cX6_check 64 = .ok (.iconst 0, 1) := by decide +kernel
theorem dX6_check_65 : decode cX6_check 65 = .ok (.ireturn, 1) := by decide +kernel
theorem dX6_count_0 : decode cX6_count 0 = .ok (.iload_n 1, 1) := by decide +kernel
theorem dX6_count_1 : decode cX6_count 1 = .ok (.tableswitch 154 0 10 #[59, 67, 75, 83, 91, 99, 107, 122, 130, 138, 146], 59) := by decide +kernel
theorem dX6_count_60 : decode cX6_count 60 = .ok (.aload_n 0, 1) := by decide +kernel
theorem dX6_count_61 : decode cX6_count 61 = .ok (.getfield 12, 3) := by decide +kernel
theorem dX6_count_64 : decode cX6_count 64 = .ok (.getfield 73, 3) := by decide +kernel
theorem dX6_count_67 : decode cX6_count 67 = .ok (.ireturn, 1) := by decide +kernel
theorem dX6_count_68 : decode cX6_count 68 = .ok (.aload_n 0, 1) := by decide +kernel
theorem dX6_count_69 : decode cX6_count 69 = .ok (.getfield 12, 3) := by decide +kernel
theorem dX6_count_72 : decode cX6_count 72 = .ok (.getfield 124, 3) := by decide +kernel
theorem dX6_count_75 : decode cX6_count 75 = .ok (.ireturn, 1) := by decide +kernel
theorem dX6_count_76 : decode cX6_count 76 = .ok (.aload_n 0, 1) := by decide +kernel
theorem dX6_count_77 : decode cX6_count 77 = .ok (.getfield 12, 3) := by decide +kernel
theorem dX6_count_80 : decode cX6_count 80 = .ok (.getfield 171, 3) := by decide +kernel
theorem dX6_count_83 : decode cX6_count 83 = .ok (.ireturn, 1) := by decide +kernel
theorem dX6_count_84 : decode cX6_count 84 = .ok (.aload_n 0, 1) := by decide +kernel
theorem dX6_count_85 : decode cX6_count 85 = .ok (.getfield 12, 3) := by decide +kernel
theorem dX6_count_88 : decode cX6_count 88 = .ok (.getfield 127, 3) := by decide +kernel
theorem dX6_count_91 : decode cX6_count 91 = .ok (.ireturn, 1) := by decide +kernel
theorem dX6_count_92 : decode cX6_count 92 = .ok (.aload_n 0, 1) := by decide +kernel
theorem dX6_count_93 : decode cX6_count 93 = .ok (.getfield 12, 3) := by decide +kernel
theorem dX6_count_96 : decode cX6_count 96 = .ok (.getfield 231, 3) := by decide +kernel
theorem dX6_count_99 : decode cX6_count 99 = .ok (.ireturn, 1) := by decide +kernel
theorem dX6_count_100 : decode cX6_count 100 = .ok (.aload_n 0, 1) := by decide +kernel
theorem dX6_count_101 : decode cX6_count 101 = .ok (.getfield 12, 3) := by decide +kernel
theorem dX6_count_104 : decode cX6_count 104 = .ok (.getfield 178, 3) := by decide +kernel
theorem dX6_count_107 : decode cX6_count 107 = .ok (.ireturn, 1) := by decide +kernel
theorem dX6_count_108 : decode cX6_count 108 = .ok (.aload_n 0, 1) := by decide +kernel
theorem dX6_count_109 : decode cX6_count 109 = .ok (.getfield 12, 3) := by decide +kernel
theorem dX6_count_112 : decode cX6_count 112 = .ok (.aload_n 0, 1) := by decide +kernel
theorem dX6_count_113 : decode cX6_count 113 = .ok (.getfield 12, 3) := by decide +kernel
theorem dX6_count_116 : decode cX6_count 116 = .ok (.getfield 178, 3) := by decide +kernel
theorem dX6_count_119 : decode cX6_count 119 = .ok (.invokevirtual 316, 3) := by decide +kernel
theorem dX6_count_122 : decode cX6_count 122 = .ok (.ireturn, 1) := by decide +kernel
theorem dX6_count_123 : decode cX6_count 123 = .ok (.aload_n 0, 1) := by decide +kernel
theorem dX6_count_124 : decode cX6_count 124 = .ok (.getfield 12, 3) := by decide +kernel
theorem dX6_count_127 : decode cX6_count 127 = .ok (.getfield 130, 3) := by decide +kernel
theorem dX6_count_130 : decode cX6_count 130 = .ok (.ireturn, 1) := by decide +kernel
theorem dX6_count_131 : decode cX6_count 131 = .ok (.aload_n 0, 1) := by decide +kernel
theorem dX6_count_132 : decode cX6_count 132 = .ok (.getfield 12, 3) := by decide +kernel
theorem dX6_count_135 : decode cX6_count 135 = .ok (.getfield 310, 3) := by decide +kernel
theorem dX6_count_138 : decode cX6_count 138 = .ok (.ireturn, 1) := by decide +kernel
theorem dX6_count_139 : decode cX6_count 139 = .ok (.aload_n 0, 1) := by decide +kernel
theorem dX6_count_140 : decode cX6_count 140 = .ok (.getfield 45, 3) := by decide +kernel
theorem dX6_count_143 : decode cX6_count 143 = .ok (.getfield 272, 3) := by decide +kernel
theorem dX6_count_146 : decode cX6_count 146 = .ok (.ireturn, 1) := by decide +kernel
theorem dX6_count_147 : decode cX6_count 147 = .ok (.aload_n 0, 1) := by decide +kernel
theorem dX6_count_148 : decode cX6_count 148 = .ok (.getfield 12, 3) := by decide +kernel
theorem dX6_count_151 : decode cX6_count 151 = .ok (.getfield 189, 3) := by decide +kernel
theorem dX6_count_154 : decode cX6_count 154 = .ok (.ireturn, 1) := by decide +kernel
theorem dX6_count_155 : decode cX6_count 155 = .ok (.aload_n 0, 1) := by decide +kernel
theorem dX6_count_156 : decode cX6_count 156 = .ok (.iconst 1, 1) := by decide +kernel
theorem dX6_count_157 : decode cX6_count 157 = .ok (.invokevirtual 69, 3) := by decide +kernel
theorem dX6_count_160 : decode cX6_count 160 = .ok (.ireturn, 1) := by decide +kernel
theorem dX6_told_0 : decode cX6_told 0 = .ok (.iload_n 1, 1) := by decide +kernel
theorem dX6_told_1 : decode cX6_told 1 = .ok (.iconst 1, 1) := by decide +kernel
theorem dX6_told_2 : decode cX6_told 2 = .ok (.bipush 6, 2) := by decide +kernel
theorem dX6_told_4 : decode cX6_told 4 = .ok (.invokestatic 108, 3) := by decide +kernel
theorem dX6_told_7 : decode cX6_told 7 = .ok (.ifCond .eq 12, 3) := by decide +kernel
theorem dX6_told_10 : decode cX6_told 10 = .ok (.aload_n 0, 1) := by decide +kernel
theorem dX6_told_11 : decode cX6_told 11 = .ok (.getfield 56, 3) := by decide +kernel
theorem dX6_told_14 : decode cX6_told 14 = .ok (.iload_n 1, 1) := by decide +kernel
theorem dX6_told_15 : decode cX6_told 15 = .ok (.iaload, 1) := by decide +kernel
theorem dX6_told_16 : decode cX6_told 16 = .ok (.goto 8, 3) := by decide +kernel
theorem dX6_told_19 : decode cX6_told 19 = .ok (.aload_n 0, 1) := by decide +kernel
theorem dX6_told_20 : decode cX6_told 20 = .ok (.iconst 1, 1) := by decide +kernel
theorem dX6_told_21 : decode cX6_told 21 = .ok (.invokevirtual 69, 3) := by decide +kernel
theorem dX6_told_24 : decode cX6_told 24 = .ok (.ireturn, 1) := by decide +kernel
theorem dX6_error_0 : decode cX6_error 0 = .ok (.aload_n 0, 1) := by decide +kernel
theorem dX6_error_1 : decode cX6_error 1 = .ok (.getfield 56, 3) := by decide +kernel
theorem dX6_error_4 : decode cX6_error 4 = .ok (.iload_n 1, 1) := by decide +kernel
theorem dX6_error_5 : decode cX6_error 5 = .ok (.dup2, 1) := by decide +kernel
theorem dX6_error_6 : decode cX6_error 6 = .ok (.iaload, 1) := by decide +kernel
theorem dX6_error_7 : decode cX6_error 7 = .ok (.iconst 1, 1) := by decide +kernel
theorem dX6_error_8 : decode cX6_error 8 = .ok (.iadd, 1) := by decide +kernel
theorem dX6_error_9 : decode cX6_error 9 = .ok (.iastore, 1) := by decide +kernel
theorem dX6_error_10 : decode cX6_error 10 = .ok (.ldc_w 319, 3) := by decide +kernel
theorem dX6_error_13 : decode cX6_error 13 = .ok (.iload_n 1, 1) := by decide +kernel
theorem dX6_error_14 : decode cX6_error 14 = .ok (.isub, 1) := by decide +kernel
theorem dX6_error_15 : decode cX6_error 15 = .ok (.ireturn, 1) := by decide +kernel
theorem dX6_isMark_0 : decode cX6_isMark 0 = .ok (.iload_n 1, 1) := by decide +kernel
theorem dX6_isMark_1 : decode cX6_isMark 1 = .ok (.iconst 0, 1) := by decide +kernel
theorem dX6_isMark_2 : decode cX6_isMark 2 = .ok (.aload_n 0, 1) := by decide +kernel
theorem dX6_isMark_3 : decode cX6_isMark 3 = .ok (.getfield 12, 3) := by decide +kernel
theorem dX6_isMark_6 : decode cX6_isMark 6 = .ok (.getfield 73, 3) := by decide +kernel
theorem dX6_isMark_9 : decode cX6_isMark 9 = .ok (.iconst 1, 1) := by decide +kernel
theorem dX6_isMark_10 : decode cX6_isMark 10 = .ok (.isub, 1) := by decide +kernel
theorem dX6_isMark_11 : decode cX6_isMark 11 = .ok (.invokestatic 108, 3) := by decide +kernel
theorem dX6_isMark_14 : decode cX6_isMark 14 = .ok (.ireturn, 1) := by decide +kernel
theorem dX6_isPicture_0 : decode cX6_isPicture 0 = .ok (.iload_n 1, 1) := by decide +kernel
theorem dX6_isPicture_1 : decode cX6_isPicture 1 = .ok (.iconst 0, 1) := by decide +kernel
theorem dX6_isPicture_2 : decode cX6_isPicture 2 = .ok (.aload_n 0, 1) := by decide +kernel
theorem dX6_isPicture_3 : decode cX6_isPicture 3 = .ok (.getfield 12, 3) := by decide +kernel
theorem dX6_isPicture_6 : decode cX6_isPicture 6 = .ok (.getfield 124, 3) := by decide +kernel
theorem dX6_isPicture_9 : decode cX6_isPicture 9 = .ok (.iconst 1, 1) := by decide +kernel
theorem dX6_isPicture_10 : decode cX6_isPicture 10 = .ok (.isub, 1) := by decide +kernel
theorem dX6_isPicture_11 : decode cX6_isPicture 11 = .ok (.invokestatic 108, 3) := by decide +kernel
theorem dX6_isPicture_14 : decode cX6_isPicture 14 = .ok (.ireturn, 1) := by decide +kernel
theorem dX6_roundsUntilOff_0 : decode cX6_roundsUntilOff 0 = .ok (.aload_n 0, 1) := by decide +kernel
theorem dX6_roundsUntilOff_1 : decode cX6_roundsUntilOff 1 = .ok (.getfield 19, 3) := by decide +kernel
theorem dX6_roundsUntilOff_4 : decode cX6_roundsUntilOff 4 = .ok (.iload_n 1, 1) := by decide +kernel
theorem dX6_roundsUntilOff_5 : decode cX6_roundsUntilOff 5 = .ok (.invokevirtual 99, 3) := by decide +kernel
theorem dX6_roundsUntilOff_8 : decode cX6_roundsUntilOff 8 = .ok (.ifCond .ne 5, 3) := by decide +kernel
theorem dX6_roundsUntilOff_11 : decode cX6_roundsUntilOff 11 = .ok (.iconst 0, 1) := by decide +kernel
theorem dX6_roundsUntilOff_12 : decode cX6_roundsUntilOff 12 = .ok (.ireturn, 1) := by decide +kernel
theorem dX6_roundsUntilOff_13 : decode cX6_roundsUntilOff 13 = .ok (.iconst 1, 1) := by decide +kernel
theorem dX6_roundsUntilOff_14 : decode cX6_roundsUntilOff 14 = .ok (.istore_n 3, 1) := by decide +kernel
theorem dX6_roundsUntilOff_15 : decode cX6_roundsUntilOff 15 = .ok (.iload_n 3, 1) := by decide +kernel
theorem dX6_roundsUntilOff_16 : decode cX6_roundsUntilOff 16 = .ok (.iload_n 2, 1) := by decide +kernel
theorem dX6_roundsUntilOff_17 : decode cX6_roundsUntilOff 17 = .ok (.if_icmp .gt 33, 3) := by decide +kernel
theorem dX6_roundsUntilOff_20 : decode cX6_roundsUntilOff 20 = .ok (.aload_n 0, 1) := by decide +kernel
theorem dX6_roundsUntilOff_21 : decode cX6_roundsUntilOff 21 = .ok (.getfield 38, 3) := by decide +kernel
theorem dX6_roundsUntilOff_24 : decode cX6_roundsUntilOff 24 = .ok (.aload_n 0, 1) := by decide +kernel
theorem dX6_roundsUntilOff_25 : decode cX6_roundsUntilOff 25 = .ok (.getfield 19, 3) := by decide +kernel
theorem dX6_roundsUntilOff_28 : decode cX6_roundsUntilOff 28 = .ok (.invokevirtual 174, 3) := by decide +kernel
theorem dX6_roundsUntilOff_31 : decode cX6_roundsUntilOff 31 = .ok (.aload_n 0, 1) := by decide +kernel
theorem dX6_roundsUntilOff_32 : decode cX6_roundsUntilOff 32 = .ok (.getfield 19, 3) := by decide +kernel
theorem dX6_roundsUntilOff_35 : decode cX6_roundsUntilOff 35 = .ok (.iload_n 1, 1) := by decide +kernel
theorem dX6_roundsUntilOff_36 : decode cX6_roundsUntilOff 36 = .ok (.invokevirtual 99, 3) := by decide +kernel
theorem dX6_roundsUntilOff_39 : decode cX6_roundsUntilOff 39 = .ok (.ifCond .ne 5, 3) := by decide +kernel
theorem dX6_roundsUntilOff_42 : decode cX6_roundsUntilOff 42 = .ok (.iload_n 3, 1) := by decide +kernel
theorem dX6_roundsUntilOff_43 : decode cX6_roundsUntilOff 43 = .ok (.ireturn, 1) := by decide +kernel
theorem dX6_roundsUntilOff_44 : decode cX6_roundsUntilOff 44 = .ok (.iinc 3 1, 3) := by decide +kernel
theorem dX6_roundsUntilOff_47 : decode cX6_roundsUntilOff 47 = .ok (.goto (-32), 3) := by decide +kernel
theorem dX6_roundsUntilOff_50 : decode cX6_roundsUntilOff 50 = .ok (.iconst (-1), 1) := by decide +kernel
theorem dX6_roundsUntilOff_51 : decode cX6_roundsUntilOff 51 = .ok (.ireturn, 1) := by decide +kernel
theorem dX6_goesAsSheetTells_0 : decode cX6_goesAsSheetTells 0 = .ok (.iconst 0, 1) := by decide +kernel
theorem dX6_goesAsSheetTells_1 : decode cX6_goesAsSheetTells 1 = .ok (.istore_n 2, 1) := by decide +kernel
theorem dX6_goesAsSheetTells_2 : decode cX6_goesAsSheetTells 2 = .ok (.iload_n 2, 1) := by decide +kernel
theorem dX6_goesAsSheetTells_3 : decode cX6_goesAsSheetTells 3 = .ok (.aload_n 0, 1) := by decide +kernel
theorem dX6_goesAsSheetTells_4 : decode cX6_goesAsSheetTells 4 = .ok (.getfield 52, 3) := by decide +kernel
theorem dX6_goesAsSheetTells_7 : decode cX6_goesAsSheetTells 7 = .ok (.getfield 282, 3) := by decide +kernel
theorem dX6_goesAsSheetTells_10 : decode cX6_goesAsSheetTells 10 = .ok (.iload_n 1, 1) := by decide +kernel
theorem dX6_goesAsSheetTells_11 : decode cX6_goesAsSheetTells 11 = .ok (.iaload, 1) := by decide +kernel
theorem dX6_goesAsSheetTells_12 : decode cX6_goesAsSheetTells 12 = .ok (.if_icmp .ge 47, 3) := by decide +kernel
theorem dX6_goesAsSheetTells_15 : decode cX6_goesAsSheetTells 15 = .ok (.iload_n 2, 1) := by decide +kernel
theorem dX6_goesAsSheetTells_16 : decode cX6_goesAsSheetTells 16 = .ok (.ifCond .le 14, 3) := by decide +kernel
theorem dX6_goesAsSheetTells_19 : decode cX6_goesAsSheetTells 19 = .ok (.aload_n 0, 1) := by decide +kernel
theorem dX6_goesAsSheetTells_20 : decode cX6_goesAsSheetTells 20 = .ok (.getfield 38, 3) := by decide +kernel
theorem dX6_goesAsSheetTells_23 : decode cX6_goesAsSheetTells 23 = .ok (.aload_n 0, 1) := by decide +kernel
theorem dX6_goesAsSheetTells_24 : decode cX6_goesAsSheetTells 24 = .ok (.getfield 19, 3) := by decide +kernel
theorem dX6_goesAsSheetTells_27 : decode cX6_goesAsSheetTells 27 = .ok (.invokevirtual 174, 3) := by decide +kernel
theorem dX6_goesAsSheetTells_30 : decode cX6_goesAsSheetTells 30 = .ok (.aload_n 0, 1) := by decide +kernel
theorem dX6_goesAsSheetTells_31 : decode cX6_goesAsSheetTells 31 = .ok (.getfield 52, 3) := by decide +kernel
theorem dX6_goesAsSheetTells_34 : decode cX6_goesAsSheetTells 34 = .ok (.getfield 294, 3) := by decide +kernel
theorem dX6_goesAsSheetTells_37 : decode cX6_goesAsSheetTells 37 = .ok (.iload_n 1, 1) := by decide +kernel
theorem dX6_goesAsSheetTells_38 : decode cX6_goesAsSheetTells 38 = .ok (.aaload, 1) := by decide +kernel
theorem dX6_goesAsSheetTells_39 : decode cX6_goesAsSheetTells 39 = .ok (.iload_n 2, 1) := by decide +kernel
theorem dX6_goesAsSheetTells_40 : decode cX6_goesAsSheetTells 40 = .ok (.iaload, 1) := by decide +kernel
theorem dX6_goesAsSheetTells_41 : decode cX6_goesAsSheetTells 41 = .ok (.aload_n 0, 1) := by decide +kernel
theorem dX6_goesAsSheetTells_42 : decode cX6_goesAsSheetTells 42 = .ok (.getfield 19, 3) := by decide +kernel
theorem dX6_goesAsSheetTells_45 : decode cX6_goesAsSheetTells 45 = .ok (.getfield 178, 3) := by decide +kernel
theorem dX6_goesAsSheetTells_48 : decode cX6_goesAsSheetTells 48 = .ok (.if_icmp .eq 5, 3) := by decide +kernel
theorem dX6_goesAsSheetTells_51 : decode cX6_goesAsSheetTells 51 = .ok (.iconst 0, 1) := by decide +kernel
theorem dX6_goesAsSheetTells_52 : decode cX6_goesAsSheetTells 52 = .ok (.ireturn, 1) := by decide +kernel
theorem dX6_goesAsSheetTells_53 : decode cX6_goesAsSheetTells 53 = .ok (.iinc 2 1, 3) := by decide +kernel
theorem dX6_goesAsSheetTells_56 : decode cX6_goesAsSheetTells 56 = .ok (.goto (-54), 3) := by decide +kernel
theorem dX6_goesAsSheetTells_59 : decode cX6_goesAsSheetTells 59 = .ok (.iconst 1, 1) := by decide +kernel
theorem dX6_goesAsSheetTells_60 : decode cX6_goesAsSheetTells 60 = .ok (.ireturn, 1) := by decide +kernel
theorem dX6_isWithin_0 : decode cX6_isWithin 0 = .ok (.iload_n 0, 1) := by decide +kernel
theorem dX6_isWithin_1 : decode cX6_isWithin 1 = .ok (.iload_n 1, 1) := by decide +kernel
theorem dX6_isWithin_2 : decode cX6_isWithin 2 = .ok (.if_icmp .lt 12, 3) := by decide +kernel
theorem dX6_isWithin_5 : decode cX6_isWithin 5 = .ok (.iload_n 0, 1) := by decide +kernel
theorem dX6_isWithin_6 : decode cX6_isWithin 6 = .ok (.iload_n 2, 1) := by decide +kernel
theorem dX6_isWithin_7 : decode cX6_isWithin 7 = .ok (.if_icmp .gt 7, 3) := by decide +kernel
theorem dX6_isWithin_10 : decode cX6_isWithin 10 = .ok (.iconst 1, 1) := by decide +kernel
theorem dX6_isWithin_11 : decode cX6_isWithin 11 = .ok (.goto 4, 3) := by decide +kernel
theorem dX6_isWithin_14 : decode cX6_isWithin 14 = .ok (.iconst 0, 1) := by decide +kernel
theorem dX6_isWithin_15 : decode cX6_isWithin 15 = .ok (.ireturn, 1) := by decide +kernel
theorem dX6_isTold_0 : decode cX6_isTold 0 = .ok (.iload_n 0, 1) := by decide +kernel
theorem dX6_isTold_1 : decode cX6_isTold 1 = .ok (.bipush (-20), 2) := by decide +kernel
theorem dX6_isTold_3 : decode cX6_isTold 3 = .ok (.bipush 20, 2) := by decide +kernel
theorem dX6_isTold_5 : decode cX6_isTold 5 = .ok (.invokestatic 108, 3) := by decide +kernel
theorem dX6_isTold_8 : decode cX6_isTold 8 = .ok (.ireturn, 1) := by decide +kernel
theorem dX6_isKindAndNumber_0 : decode cX6_isKindAndNumber 0 = .ok (.iload_n 0, 1) := by decide +kernel
theorem dX6_isKindAndNumber_1 : decode cX6_isKindAndNumber 1 = .ok (.iconst 0, 1) := by decide +kernel
theorem dX6_isKindAndNumber_2 : decode cX6_isKindAndNumber 2 = .ok (.bipush 69, 2) := by decide +kernel
theorem dX6_isKindAndNumber_4 : decode cX6_isKindAndNumber 4 = .ok (.invokestatic 108, 3) := by decide +kernel
theorem dX6_isKindAndNumber_7 : decode cX6_isKindAndNumber 7 = .ok (.ireturn, 1) := by decide +kernel
theorem dX6_isUse_0 : decode cX6_isUse 0 = .ok (.iload_n 0, 1) := by decide +kernel
theorem dX6_isUse_1 : decode cX6_isUse 1 = .ok (.iconst 0, 1) := by decide +kernel
theorem dX6_isUse_2 : decode cX6_isUse 2 = .ok (.iconst 1, 1) := by decide +kernel
theorem dX6_isUse_3 : decode cX6_isUse 3 = .ok (.invokestatic 108, 3) := by decide +kernel
theorem dX6_isUse_6 : decode cX6_isUse 6 = .ok (.ireturn, 1) := by decide +kernel
theorem dX6_isPart_0 : decode cX6_isPart 0 = .ok (.iload_n 0, 1) := by decide +kernel
theorem dX6_isPart_1 : decode cX6_isPart 1 = .ok (.iconst 0, 1) := by decide +kernel
theorem dX6_isPart_2 : decode cX6_isPart 2 = .ok (.iconst 1, 1) := by decide +kernel
theorem dX6_isPart_3 : decode cX6_isPart 3 = .ok (.invokestatic 108, 3) := by decide +kernel
theorem dX6_isPart_6 : decode cX6_isPart 6 = .ok (.ireturn, 1) := by decide +kernel
theorem dX6_isSheet_0 : decode cX6_isSheet 0 = .ok (.iload_n 0, 1) := by decide +kernel
theorem dX6_isSheet_1 : decode cX6_isSheet 1 = .ok (.iconst 0, 1) := by decide +kernel
theorem dX6_isSheet_2 : decode cX6_isSheet 2 = .ok (.iconst 3, 1) := by decide +kernel
theorem dX6_isSheet_3 : decode cX6_isSheet 3 = .ok (.invokestatic 108, 3) := by decide +kernel
theorem dX6_isSheet_6 : decode cX6_isSheet 6 = .ok (.ireturn, 1) := by decide +kernel
theorem dX6_isOfKind_0 : decode cX6_isOfKind 0 = .ok (.iload_n 0, 1) := by decide +kernel
theorem dX6_isOfKind_1 : decode cX6_isOfKind 1 = .ok (.istore_n 2, 1) := by decide +kernel
theorem dX6_isOfKind_2 : decode cX6_isOfKind 2 = .ok (.iconst 0, 1) := by decide +kernel
theorem dX6_isOfKind_3 : decode cX6_isOfKind 3 = .ok (.istore_n 3, 1) := by decide +kernel
theorem dX6_isOfKind_4 : decode cX6_isOfKind 4 = .ok (.iload_n 3, 1) := by decide +kernel
theorem dX6_isOfKind_5 : decode cX6_isOfKind 5 = .ok (.bipush 7, 2) := by decide +kernel
theorem dX6_isOfKind_7 : decode cX6_isOfKind 7 = .ok (.if_icmp .ge 26, 3) := by decide +kernel
theorem dX6_isOfKind_10 : decode cX6_isOfKind 10 = .ok (.iload_n 2, 1) := by decide +kernel
theorem dX6_isOfKind_11 : decode cX6_isOfKind 11 = .ok (.ifCond .lt 22, 3) := by decide +kernel
theorem dX6_isOfKind_14 : decode cX6_isOfKind 14 = .ok (.iload_n 2, 1) := by decide +kernel
theorem dX6_isOfKind_15 : decode cX6_isOfKind 15 = .ok (.iload_n 1, 1) := by decide +kernel
theorem dX6_isOfKind_16 : decode cX6_isOfKind 16 = .ok (.if_icmp .ne 5, 3) := by decide +kernel
theorem dX6_isOfKind_19 : decode cX6_isOfKind 19 = .ok (.iconst 1, 1) := by decide +kernel
theorem dX6_isOfKind_20 : decode cX6_isOfKind 20 = .ok (.ireturn, 1) := by decide +kernel
theorem dX6_isOfKind_21 : decode cX6_isOfKind 21 = .ok (.getstatic 320, 3) := by decide +kernel
theorem dX6_isOfKind_24 : decode cX6_isOfKind 24 = .ok (.iload_n 2, 1) := by decide +kernel
theorem dX6_isOfKind_25 : decode cX6_isOfKind 25 = .ok (.iaload, 1) := by decide +kernel
theorem dX6_isOfKind_26 : decode cX6_isOfKind 26 = .ok (.istore_n 2, 1) := by decide +kernel
theorem dX6_isOfKind_27 : decode cX6_isOfKind 27 = .ok (.iinc 3 1, 3) := by decide +kernel
theorem dX6_isOfKind_30 : decode cX6_isOfKind 30 = .ok (.goto (-26), 3) := by decide +kernel
theorem dX6_isOfKind_33 : decode cX6_isOfKind 33 = .ok (.iconst 0, 1) := by decide +kernel
theorem dX6_isOfKind_34 : decode cX6_isOfKind 34 = .ok (.ireturn, 1) := by decide +kernel
theorem dX6_partOf_0 : decode cX6_partOf 0 = .ok (.iload 4, 2) := by decide +kernel
theorem dX6_partOf_2 : decode cX6_partOf 2 = .ok (.ifCond .ne 7, 3) := by decide +kernel
theorem dX6_partOf_5 : decode cX6_partOf 5 = .ok (.lload_n 0, 1) := by decide +kernel
theorem dX6_partOf_6 : decode cX6_partOf 6 = .ok (.goto 4, 3) := by decide +kernel
theorem dX6_partOf_9 : decode cX6_partOf 9 = .ok (.lload_n 2, 1) := by decide +kernel
theorem dX6_partOf_10 : decode cX6_partOf 10 = .ok (.lload_n 0, 1) := by decide +kernel
theorem dX6_partOf_11 : decode cX6_partOf 11 = .ok (.invokestatic 323, 3) := by decide +kernel
theorem dX6_partOf_14 : decode cX6_partOf 14 = .ok (.lload_n 2, 1) := by decide +kernel
theorem dX6_partOf_15 : decode cX6_partOf 15 = .ok (.invokestatic 327, 3) := by decide +kernel
theorem dX6_partOf_18 : decode cX6_partOf 18 = .ok (.invokestatic 330, 3) := by decide +kernel
theorem dX6_partOf_21 : decode cX6_partOf 21 = .ok (.lreturn, 1) := by decide +kernel
theorem dX6_greatestDivisor_0 : decode cX6_greatestDivisor 0 = .ok (.lload_n 0, 1) := by decide +kernel
theorem dX6_greatestDivisor_1 : decode cX6_greatestDivisor 1 = .ok (.lstore 4, 2) := by decide +kernel
theorem dX6_greatestDivisor_3 : decode cX6_greatestDivisor 3 = .ok (.lload_n 2, 1) := by decide +kernel
theorem dX6_greatestDivisor_4 : decode cX6_greatestDivisor 4 = .ok (.lstore 6, 2) := by decide +kernel
theorem dX6_greatestDivisor_6 : decode cX6_greatestDivisor 6 = .ok (.iconst 0, 1) := by decide +kernel
theorem dX6_greatestDivisor_7 : decode cX6_greatestDivisor 7 = .ok (.istore 8, 2) := by decide +kernel
theorem dX6_greatestDivisor_9 : decode cX6_greatestDivisor 9 = .ok (.iload 8, 2) := by decide +kernel
theorem dX6_greatestDivisor_11 : decode cX6_greatestDivisor 11 = .ok (.sipush 128, 3) := by decide +kernel
theorem dX6_greatestDivisor_14 : decode cX6_greatestDivisor 14 = .ok (.if_icmp .ge 31, 3) := by decide +kernel
theorem dX6_greatestDivisor_17 : decode cX6_greatestDivisor 17 = .ok (.lload 6, 2) := by decide +kernel
theorem dX6_greatestDivisor_19 : decode cX6_greatestDivisor 19 = .ok (.lconst 0, 1) := by decide +kernel
theorem dX6_greatestDivisor_20 : decode cX6_greatestDivisor 20 = .ok (.lcmp, 1) := by decide +kernel
theorem dX6_greatestDivisor_21 : decode cX6_greatestDivisor 21 = .ok (.ifCond .eq 24, 3) := by decide +kernel
theorem dX6_greatestDivisor_24 : decode cX6_greatestDivisor 24 = .ok (.lload 4, 2) := by decide +kernel
theorem dX6_greatestDivisor_26 : decode cX6_greatestDivisor 26 = .ok (.lload 6, 2) := by decide +kernel
theorem dX6_greatestDivisor_28 : decode cX6_greatestDivisor 28 = .ok (.lrem, 1) := by decide +kernel
theorem dX6_greatestDivisor_29 : decode cX6_greatestDivisor 29 = .ok (.lstore 9, 2) := by decide +kernel
theorem dX6_greatestDivisor_31 : decode cX6_greatestDivisor 31 = .ok (.lload 6, 2) := by decide +kernel
theorem dX6_greatestDivisor_33 : decode cX6_greatestDivisor 33 = .ok (.lstore 4, 2) := by decide +kernel
theorem dX6_greatestDivisor_35 : decode cX6_greatestDivisor 35 = .ok (.lload 9, 2) := by decide +kernel
theorem dX6_greatestDivisor_37 : decode cX6_greatestDivisor 37 = .ok (.lstore 6, 2) := by decide +kernel
theorem dX6_greatestDivisor_39 : decode cX6_greatestDivisor 39 = .ok (.iinc 8 1, 3) := by decide +kernel
theorem dX6_greatestDivisor_42 : decode cX6_greatestDivisor 42 = .ok (.goto (-33), 3) := by decide +kernel
theorem dX6_greatestDivisor_45 : decode cX6_greatestDivisor 45 = .ok (.lload 4, 2) := by decide +kernel
theorem dX6_greatestDivisor_47 : decode cX6_greatestDivisor 47 = .ok (.lreturn, 1) := by decide +kernel
theorem dX6_quotient_0 : decode cX6_quotient 0 = .ok (.lload_n 2, 1) := by decide +kernel
theorem dX6_quotient_1 : decode cX6_quotient 1 = .ok (.lconst 0, 1) := by decide +kernel
theorem dX6_quotient_2 : decode cX6_quotient 2 = .ok (.lcmp, 1) := by decide +kernel
theorem dX6_quotient_3 : decode cX6_quotient 3 = .ok (.ifCond .ne 7, 3) := by decide +kernel
theorem dX6_quotient_6 : decode cX6_quotient 6 = .ok (.lconst 0, 1) := by decide +kernel
theorem dX6_quotient_7 : decode cX6_quotient 7 = .ok (.goto 6, 3) := by decide +kernel
theorem dX6_quotient_10 : decode cX6_quotient 10 = .ok (.lload_n 0, 1) := by decide +kernel
theorem dX6_quotient_11 : decode cX6_quotient 11 = .ok (.lload_n 2, 1) := by decide +kernel
theorem dX6_quotient_12 : decode cX6_quotient 12 = .ok (.ldiv, 1) := by decide +kernel
theorem dX6_quotient_13 : decode cX6_quotient 13 = .ok (.lreturn, 1) := by decide +kernel
end
section
theorem dX7_init_0 : decode cX7_init 0 = .ok (.aload_n 0, 1) := by decide +kernel
theorem dX7_init_1 : decode cX7_init 1 = .ok (.invokespecial 3, 3) := by decide +kernel
theorem dX7_init_4 : decode cX7_init 4 = .ok (.aload_n 0, 1) := by decide +kernel
theorem dX7_init_5 : decode cX7_init 5 = .ok (.sipush 382, 3) := by decide +kernel
theorem dX7_init_8 : decode cX7_init 8 = .ok (.newarray .int, 2) := by decide +kernel
theorem dX7_init_10 : decode cX7_init 10 = .ok (.putfield 9, 3) := by decide +kernel
theorem dX7_init_13 : decode cX7_init 13 = .ok (.aload_n 0, 1) := by decide +kernel
theorem dX7_init_14 : decode cX7_init 14 = .ok (.sipush 382, 3) := by decide +kernel
theorem dX7_init_17 : decode cX7_init 17 = .ok (.newarray .int, 2) := by decide +kernel
theorem dX7_init_19 : decode cX7_init 19 = .ok (.putfield 13, 3) := by decide +kernel
theorem dX7_init_22 : decode cX7_init 22 = .ok (.aload_n 0, 1) := by decide +kernel
theorem dX7_init_23 : decode cX7_init 23 = .ok (.sipush 382, 3) := by decide +kernel
theorem dX7_init_26 : decode cX7_init 26 = .ok (.newarray .int, 2) := by decide +kernel
theorem dX7_init_28 : decode cX7_init 28 = .ok (.putfield 16, 3) := by decide +kernel
theorem dX7_init_31 : decode cX7_init 31 = .ok (.aload_n 0, 1) := by decide +kernel
theorem dX7_init_32 : decode cX7_init 32 = .ok (.bipush 7, 2) := by decide +kernel
theorem dX7_init_34 : decode cX7_init 34 = .ok (.newarray .int, 2) := by decide +kernel
theorem dX7_init_36 : decode cX7_init 36 = .ok (.putfield 19, 3) := by decide +kernel
theorem dX7_init_39 : decode cX7_init 39 = .ok (.aload_n 0, 1) := by decide +kernel
theorem dX7_init_40 : decode cX7_init 40 = .ok (.iconst 4, 1) := by decide +kernel
theorem dX7_init_41 : decode cX7_init 41 = .ok (.newarray .int, 2) := by decide +kernel
theorem dX7_init_43 : decode cX7_init 43 = .ok (.putfield 22, 3) := by decide +kernel
theorem dX7_init_46 : decode cX7_init 46 = .ok (.aload_n 0, 1) := by decide +kernel
theorem dX7_init_47 : decode cX7_init 47 = .ok (.iconst 4, 1) := by decide +kernel
theorem dX7_init_48 : decode cX7_init 48 = .ok (.newarray .int, 2) := by decide +kernel
theorem dX7_init_50 : decode cX7_init 50 = .ok (.putfield 25, 3) := by decide +kernel
theorem dX7_init_53 : decode cX7_init 53 = .ok (.aload_n 0, 1) := by decide +kernel
theorem dX7_init_54 : decode cX7_init 54 = .ok (.bipush 96, 2) := by decide +kernel
theorem dX7_init_56 : decode cX7_init 56 = .ok (.newarray .int, 2) := by decide +kernel
theorem dX7_init_58 : decode cX7_init 58 = .ok (.putfield 28, 3) := by decide +kernel
theorem dX7_init_61 : decode cX7_init 61 = .ok (.aload_n 0, 1) := by decide +kernel
theorem dX7_init_62 : decode cX7_init 62 = .ok (.bipush 16, 2) := by decide +kernel
theorem dX7_init_64 : decode cX7_init 64 = .ok (.newarray .long, 2) := by decide +kernel
theorem dX7_init_66 : decode cX7_init 66 = .ok (.putfield 31, 3) := by decide +kernel
theorem dX7_init_69 : decode cX7_init 69 = .ok (.aload_n 0, 1) := by decide +kernel
theorem dX7_init_70 : decode cX7_init 70 = .ok (.iconst 4, 1) := by decide +kernel
theorem dX7_init_71 : decode cX7_init 71 = .ok (.newarray .long, 2) := by decide +kernel
theorem dX7_init_73 : decode cX7_init 73 = .ok (.putfield 35, 3) := by decide +kernel
theorem dX7_init_76 : decode cX7_init 76 = .ok (.aload_n 0, 1) := by decide +kernel
theorem dX7_init_77 : decode cX7_init 77 = .ok (.iconst 4, 1) := by decide +kernel
theorem dX7_init_78 : decode cX7_init 78 = .ok (.newarray .long, 2) := by decide +kernel
theorem dX7_init_80 : decode cX7_init 80 = .ok (.putfield 38, 3) := by decide +kernel
theorem dX7_init_83 : decode cX7_init 83 = .ok (.aload_n 0, 1) := by decide +kernel
theorem dX7_init_84 : decode cX7_init 84 = .ok (.bipush 60, 2) := by decide +kernel
theorem dX7_init_86 : decode cX7_init 86 = .ok (.newarray .int, 2) := by decide +kernel
theorem dX7_init_88 : decode cX7_init 88 = .ok (.putfield 41, 3) := by decide +kernel
theorem dX7_init_91 : decode cX7_init 91 = .ok (.aload_n 0, 1) := by decide +kernel
theorem dX7_init_92 : decode cX7_init 92 = .ok (.bipush 60, 2) := by decide +kernel
theorem dX7_init_94 : decode cX7_init 94 = .ok (.newarray .int, 2) := by decide +kernel
theorem dX7_init_96 : decode cX7_init 96 = .ok (.putfield 44, 3) := by decide +kernel
theorem dX7_init_99 : decode cX7_init 99 = .ok (.aload_n 0, 1) := by decide +kernel
theorem dX7_init_100 : decode cX7_init 100 = .ok (.iconst 3, 1) := by decide +kernel
theorem dX7_init_101 : decode cX7_init 101 = .ok (.newarray .int, 2) := by decide +kernel
theorem dX7_init_103 : decode cX7_init 103 = .ok (.putfield 47, 3) := by decide +kernel
theorem dX7_init_106 : decode cX7_init 106 = .ok (.aload_n 0, 1) := by decide +kernel
theorem dX7_init_107 : decode cX7_init 107 = .ok (.bipush 60, 2) := by decide +kernel
theorem dX7_init_109 : decode cX7_init 109 = .ok (.newarray .int, 2) := by decide +kernel
theorem dX7_init_111 : decode cX7_init 111 = .ok (.putfield 50, 3) := by decide +kernel
theorem dX7_init_114 : decode cX7_init 114 = .ok (.aload_n 0, 1) := by decide +kernel
theorem dX7_init_115 : decode cX7_init 115 = .ok (.bipush 30, 2) := by decide +kernel
theorem dX7_init_117 : decode cX7_init 117 = .ok (.newarray .int, 2) := by decide +kernel
theorem dX7_init_119 : decode cX7_init 119 = .ok (.putfield 53, 3) := by decide +kernel
theorem dX7_init_122 : decode cX7_init 122 = .ok (.aload_n 0, 1) := by decide +kernel
theorem dX7_init_123 : decode cX7_init 123 = .ok (.getfield 9, 3) := by decide +kernel
theorem dX7_init_126 : decode cX7_init 126 = .ok (.iconst 1, 1) := by decide +kernel
theorem dX7_init_127 : decode cX7_init 127 = .ok (.iconst 1, 1) := by decide +kernel
theorem dX7_init_128 : decode cX7_init 128 = .ok (.iastore, 1) := by decide +kernel
theorem dX7_init_129 : decode cX7_init 129 = .ok (.aload_n 0, 1) := by decide +kernel
theorem dX7_init_130 : decode cX7_init 130 = .ok (.getfield 9, 3) := by decide +kernel
theorem dX7_init_133 : decode cX7_init 133 = .ok (.iconst 3, 1) := by decide +kernel
theorem dX7_init_134 : decode cX7_init 134 = .ok (.iconst 2, 1) := by decide +kernel
theorem dX7_init_135 : decode cX7_init 135 = .ok (.iastore, 1) := by decide +kernel
theorem dX7_init_136 : decode cX7_init 136 = .ok (.aload_n 0, 1) := by decide +kernel
theorem dX7_init_137 : decode cX7_init 137 = .ok (.getfield 9, 3) := by decide +kernel
theorem dX7_init_140 : decode cX7_init 140 = .ok (.iconst 4, 1) := by decide +kernel
theorem dX7_init_141 : decode cX7_init 141 = .ok (.bipush 20, 2) := by decide +kernel
theorem dX7_init_143 : decode cX7_init 143 = .ok (.iastore, 1) := by decide +kernel
theorem dX7_init_144 : decode cX7_init 144 = .ok (.return_, 1) := by decide +kernel
theorem dX7_error_0 : decode cX7_error 0 = .ok (.aload_n 0, 1) := by decide +kernel
theorem dX7_error_1 : decode cX7_error 1 = .ok (.getfield 19, 3) := by decide +kernel
theorem dX7_error_4 : decode cX7_error 4 = .ok (.ldc 56, 2) := by decide +kernel
theorem dX7_error_6 : decode cX7_error 6 = .ok (.iload_n 1, 1) := by decide +kernel
theorem dX7_error_7 : decode cX7_error 7 = .ok (.isub, 1) := by decide +kernel
theorem dX7_error_8 : decode cX7_error 8 = .ok (.dup2, 1) := by decide +kernel
theorem dX7_error_9 : decode cX7_error 9 = .ok (.iaload, 1) := by decide +kernel
theorem dX7_error_10 : decode cX7_error 10 = .ok (.iconst 1, 1) := by decide +kernel
theorem dX7_error_11 : decode cX7_error 11 = .ok (.iadd, 1) := by decide +kernel
theorem dX7_error_12 : decode cX7_error 12 = .ok (.iastore, 1) := by decide +kernel
theorem dX7_error_13 : decode cX7_error 13 = .ok (.iload_n 1, 1) := by decide +kernel
theorem dX7_error_14 : decode cX7_error 14 = .ok (.ireturn, 1) := by decide +kernel
theorem dX7_in_0 : decode cX7_in 0 = .ok (.iload_n 0, 1) := by decide +kernel
theorem dX7_in_1 : decode cX7_in 1 = .ok (.iload_n 1, 1) := by decide +kernel
theorem dX7_in_2 : decode cX7_in 2 = .ok (.if_icmp .lt 12, 3) := by decide +kernel
theorem dX7_in_5 : decode cX7_in 5 = .ok (.iload_n 0, 1) := by decide +kernel
theorem dX7_in_6 : decode cX7_in 6 = .ok (.iload_n 2, 1) := by decide +kernel
theorem dX7_in_7 : decode cX7_in 7 = .ok (.if_icmp .gt 7, 3) := by decide +kernel
theorem dX7_in_10 : decode cX7_in 10 = .ok (.iconst 1, 1) := by decide +kernel
theorem dX7_in_11 : decode cX7_in 11 = .ok (.goto 4, 3) := by decide +kernel
theorem dX7_in_14 : decode cX7_in 14 = .ok (.iconst 0, 1) := by decide +kernel
theorem dX7_in_15 : decode cX7_in 15 = .ok (.ireturn, 1) := by decide +kernel
theorem dX7_held_0 : decode cX7_held 0 = .ok (.iload_n 0, 1) := by decide +kernel
theorem dX7_held_1 : decode cX7_held 1 = .ok (.iload_n 1, 1) := by decide +kernel
theorem dX7_held_2 : decode cX7_held 2 = .ok (.if_icmp .ge 7, 3) := by decide +kernel
theorem dX7_held_5 : decode cX7_held 5 = .ok (.iload_n 1, 1) := by decide +kernel
theorem dX7_held_6 : decode cX7_held 6 = .ok (.goto 13, 3) := by decide +kernel
theorem dX7_held_9 : decode cX7_held 9 = .ok (.iload_n 0, 1) := by decide +kernel
theorem dX7_held_10 : decode cX7_held 10 = .ok (.iload_n 2, 1) := by decide +kernel
theorem dX7_held_11 : decode cX7_held 11 = .ok (.if_icmp .le 7, 3) := by decide +kernel
theorem dX7_held_14 : decode cX7_held 14 = .ok (.iload_n 2, 1) := by decide +kernel
theorem dX7_held_15 : decode cX7_held 15 = .ok (.goto 4, 3) := by decide +kernel
theorem dX7_held_18 : decode cX7_held 18 = .ok (.iload_n 0, 1) := by decide +kernel
theorem dX7_held_19 : decode cX7_held 19 = .ok (.ireturn, 1) := by decide +kernel
theorem dX7_copyAll_0 : decode cX7_copyAll 0 = .ok (.iconst 0, 1) := by decide +kernel
theorem dX7_copyAll_1 : decode cX7_copyAll 1 = .ok (.istore_n 2, 1) := by decide +kernel
theorem dX7_copyAll_2 : decode cX7_copyAll 2 = .ok (.iload_n 2, 1) := by decide +kernel
theorem dX7_copyAll_3 : decode cX7_copyAll 3 = .ok (.sipush 382, 3) := by decide +kernel
theorem dX7_copyAll_6 : decode cX7_copyAll 6 = .ok (.if_icmp .ge 15, 3) := by decide +kernel
theorem dX7_copyAll_9 : decode cX7_copyAll 9 = .ok (.aload_n 1, 1) := by decide +kernel
theorem dX7_copyAll_10 : decode cX7_copyAll 10 = .ok (.iload_n 2, 1) := by decide +kernel
theorem dX7_copyAll_11 : decode cX7_copyAll 11 = .ok (.aload_n 0, 1) := by decide +kernel
theorem dX7_copyAll_12 : decode cX7_copyAll 12 = .ok (.iload_n 2, 1) := by decide +kernel
theorem dX7_copyAll_13 : decode cX7_copyAll 13 = .ok (.iaload, 1) := by decide +kernel
theorem dX7_copyAll_14 : decode cX7_copyAll 14 = .ok (.iastore, 1) := by decide +kernel
theorem dX7_copyAll_15 : decode cX7_copyAll 15 = .ok (.iinc 2 1, 3) := by decide +kernel
theorem dX7_copyAll_18 : decode cX7_copyAll 18 = .ok (.goto (-16), 3) := by decide +kernel
theorem dX7_copyAll_21 : decode cX7_copyAll 21 = .ok (.return_, 1) := by decide +kernel
theorem dX7_thinks_0 : decode cX7_thinks 0 = .ok (.aload_n 0, 1) := by decide +kernel
theorem dX7_thinks_1 : decode cX7_thinks 1 = .ok (.getfield 9, 3) := by decide +kernel
theorem dX7_thinks_4 : decode cX7_thinks 4 = .ok (.aload_n 0, 1) := by decide +kernel
theorem dX7_thinks_5 : decode cX7_thinks 5 = .ok (.getfield 16, 3) := by decide +kernel
theorem dX7_thinks_8 : decode cX7_thinks 8 = .ok (.invokestatic 57, 3) := by decide +kernel
theorem dX7_thinks_11 : decode cX7_thinks 11 = .ok (.return_, 1) := by decide +kernel
theorem dX7_putsBack_0 : decode cX7_putsBack 0 = .ok (.aload_n 0, 1) := by decide +kernel
theorem dX7_putsBack_1 : decode cX7_putsBack 1 = .ok (.getfield 16, 3) := by decide +kernel
theorem dX7_putsBack_4 : decode cX7_putsBack 4 = .ok (.aload_n 0, 1) := by decide +kernel
theorem dX7_putsBack_5 : decode cX7_putsBack 5 = .ok (.getfield 9, 3) := by decide +kernel
theorem dX7_putsBack_8 : decode cX7_putsBack 8 = .ok (.invokestatic 57, 3) := by decide +kernel
theorem dX7_putsBack_11 : decode cX7_putsBack 11 = .ok (.return_, 1) := by decide +kernel
theorem dX7_bits_0 : decode cX7_bits 0 = .ok (.iconst 0, 1) := by decide +kernel
theorem dX7_bits_1 : decode cX7_bits 1 = .ok (.istore_n 1, 1) := by decide +kernel
theorem dX7_bits_2 : decode cX7_bits 2 = .ok (.iload_n 0, 1) := by decide +kernel
theorem dX7_bits_3 : decode cX7_bits 3 = .ok (.istore_n 2, 1) := by decide +kernel
theorem dX7_bits_4 : decode cX7_bits 4 = .ok (.iload_n 2, 1) := by decide +kernel
theorem dX7_bits_5 : decode cX7_bits 5 = .ok (.ifCond .eq 15, 3) := by decide +kernel
theorem dX7_bits_8 : decode cX7_bits 8 = .ok (.iinc 1 1, 3) := by decide +kernel
theorem dX7_bits_11 : decode cX7_bits 11 = .ok (.iload_n 2, 1) := by decide +kernel
theorem dX7_bits_12 : decode cX7_bits 12 = .ok (.iload_n 2, 1) := by decide +kernel
theorem dX7_bits_13 : decode cX7_bits 13 = .ok (.iconst 1, 1) := by decide +kernel
theorem dX7_bits_14 : decode cX7_bits 14 = .ok (.isub, 1) := by decide +kernel
theorem dX7_bits_15 : decode cX7_bits 15 = .ok (.iand, 1) := by decide +kernel
theorem dX7_bits_16 : decode cX7_bits 16 = .ok (.istore_n 2, 1) := by decide +kernel
theorem dX7_bits_17 : decode cX7_bits 17 = .ok (.goto (-13), 3) := by decide +kernel
theorem dX7_bits_20 : decode cX7_bits 20 = .ok (.iload_n 1, 1) := by decide +kernel
theorem dX7_bits_21 : decode cX7_bits 21 = .ok (.ireturn, 1) := by decide +kernel
theorem dX7_isMark_0 : decode cX7_isMark 0 = .ok (.iload_n 1, 1) := by decide +kernel
theorem dX7_isMark_1 : decode cX7_isMark 1 = .ok (.iconst 0, 1) := by decide +kernel
theorem dX7_isMark_2 : decode cX7_isMark 2 = .ok (.aload_n 0, 1) := by decide +kernel
theorem dX7_isMark_3 : decode cX7_isMark 3 = .ok (.getfield 9, 3) := by decide +kernel
theorem dX7_isMark_6 : decode cX7_isMark 6 = .ok (.iconst 2, 1) := by decide +kernel
theorem dX7_isMark_7 : decode cX7_isMark 7 = .ok (.iaload, 1) := by decide +kernel
theorem dX7_isMark_8 : decode cX7_isMark 8 = .ok (.iconst 1, 1) := by decide +kernel
theorem dX7_isMark_9 : decode cX7_isMark 9 = .ok (.isub, 1) := by decide +kernel
theorem dX7_isMark_10 : decode cX7_isMark 10 = .ok (.invokestatic 61, 3) := by decide +kernel
theorem dX7_isMark_13 : decode cX7_isMark 13 = .ok (.ireturn, 1) := by decide +kernel
theorem dX7_isPicture_0 : decode cX7_isPicture 0 = .ok (.iload_n 1, 1) := by decide +kernel
theorem dX7_isPicture_1 : decode cX7_isPicture 1 = .ok (.iconst 0, 1) := by decide +kernel
theorem dX7_isPicture_2 : decode cX7_isPicture 2 = .ok (.aload_n 0, 1) := by decide +kernel
theorem dX7_isPicture_3 : decode cX7_isPicture 3 = .ok (.getfield 9, 3) := by decide +kernel
theorem dX7_isPicture_6 : decode cX7_isPicture 6 = .ok (.iconst 3, 1) := by decide +kernel
theorem dX7_isPicture_7 : decode cX7_isPicture 7 = .ok (.iaload, 1) := by decide +kernel
theorem dX7_isPicture_8 : decode cX7_isPicture 8 = .ok (.iconst 1, 1) := by decide +kernel
theorem dX7_isPicture_9 : decode cX7_isPicture 9 = .ok (.isub, 1) := by decide +kernel
theorem dX7_isPicture_10 : decode cX7_isPicture 10 = .ok (.invokestatic 61, 3) := by decide +kernel
theorem dX7_isPicture_13 : decode cX7_isPicture 13 = .ok (.ireturn, 1) := by decide +kernel
theorem dX7_becomes_0 : decode cX7_becomes 0 = .ok (.aload_n 0, 1) := by decide +kernel
theorem dX7_becomes_1 : decode cX7_becomes 1 = .ok (.getfield 9, 3) := by decide +kernel
theorem dX7_becomes_4 : decode cX7_becomes 4 = .ok (.iload_n 1, 1) := by decide +kernel
theorem dX7_becomes_5 : decode cX7_becomes 5 = .ok (.iaload, 1) := by decide +kernel
theorem dX7_becomes_6 : decode cX7_becomes 6 = .ok (.istore_n 3, 1) := by decide +kernel
theorem dX7_becomes_7 : decode cX7_becomes 7 = .ok (.aload_n 0, 1) := by decide +kernel
theorem dX7_becomes_8 : decode cX7_becomes 8 = .ok (.getfield 9, 3) := by decide +kernel
theorem dX7_becomes_11 : decode cX7_becomes 11 = .ok (.iload_n 1, 1) := by decide +kernel
theorem dX7_becomes_12 : decode cX7_becomes 12 = .ok (.iload_n 2, 1) := by decide +kernel
theorem dX7_becomes_13 : decode cX7_becomes 13 = .ok (.iastore, 1) := by decide +kernel
theorem dX7_becomes_14 : decode cX7_becomes 14 = .ok (.iload_n 3, 1) := by decide +kernel
theorem dX7_becomes_15 : decode cX7_becomes 15 = .ok (.ireturn, 1) := by decide +kernel
theorem dX7_of_0 : decode cX7_of 0 = .ok (.aload_n 0, 1) := by decide +kernel
theorem dX7_of_1 : decode cX7_of 1 = .ok (.getfield 9, 3) := by decide +kernel
theorem dX7_of_4 : decode cX7_of 4 = .ok (.bipush 8, 2) := by decide +kernel
theorem dX7_of_6 : decode cX7_of 6 = .ok (.bipush 6, 2) := by decide +kernel
theorem dX7_of_8 : decode cX7_of 8 = .ok (.iload_n 1, 1) := by decide +kernel
theorem dX7_of_9 : decode cX7_of 9 = .ok (.imul, 1) := by decide +kernel
theorem dX7_of_10 : decode cX7_of 10 = .ok (.iadd, 1) := by decide +kernel
theorem dX7_of_11 : decode cX7_of 11 = .ok (.iload_n 2, 1) := by decide +kernel
theorem dX7_of_12 : decode cX7_of 12 = .ok (.iadd, 1) := by decide +kernel
theorem dX7_of_13 : decode cX7_of 13 = .ok (.iaload, 1) := by decide +kernel
theorem dX7_of_14 : decode cX7_of 14 = .ok (.ireturn, 1) := by decide +kernel
theorem dX7_puts_0 : decode cX7_puts 0 = .ok (.aload_n 0, 1) := by decide +kernel
theorem dX7_puts_1 : decode cX7_puts 1 = .ok (.getfield 9, 3) := by decide +kernel
theorem dX7_puts_4 : decode cX7_puts 4 = .ok (.bipush 8, 2) := by decide +kernel
theorem dX7_puts_6 : decode cX7_puts 6 = .ok (.bipush 6, 2) := by decide +kernel
theorem dX7_puts_8 : decode cX7_puts 8 = .ok (.iload_n 1, 1) := by decide +kernel
theorem dX7_puts_9 : decode cX7_puts 9 = .ok (.imul, 1) := by decide +kernel
theorem dX7_puts_10 : decode cX7_puts 10 = .ok (.iadd, 1) := by decide +kernel
theorem dX7_puts_11 : decode cX7_puts 11 = .ok (.iload_n 2, 1) := by decide +kernel
theorem dX7_puts_12 : decode cX7_puts 12 = .ok (.iadd, 1) := by decide +kernel
theorem dX7_puts_13 : decode cX7_puts 13 = .ok (.iload_n 3, 1) := by decide +kernel
theorem dX7_puts_14 : decode cX7_puts 14 = .ok (.iastore, 1) := by decide +kernel
theorem dX7_puts_15 : decode cX7_puts 15 = .ok (.return_, 1) := by decide +kernel
theorem dX7_onOnes_0 : decode cX7_onOnes 0 = .ok (.iconst 0, 1) := by decide +kernel
theorem dX7_onOnes_1 : decode cX7_onOnes 1 = .ok (.istore_n 1, 1) := by decide +kernel
theorem dX7_onOnes_2 : decode cX7_onOnes 2 = .ok (.iconst 0, 1) := by decide +kernel
theorem dX7_onOnes_3 : decode cX7_onOnes 3 = .ok (.istore_n 2, 1) := by decide +kernel
theorem dX7_onOnes_4 : decode cX7_onOnes 4 = .ok (.iload_n 2, 1) := by decide +kernel
theorem dX7_onOnes_5 : decode cX7_onOnes 5 = .ok (.aload_n 0, 1) := by decide +kernel
theorem dX7_onOnes_6 : decode cX7_onOnes 6 = .ok (.getfield 9, 3) := by decide +kernel
theorem dX7_onOnes_9 : decode cX7_onOnes 9 = .ok (.iconst 2, 1) := by decide +kernel
theorem dX7_onOnes_10 : decode cX7_onOnes 10 = .ok (.iaload, 1) := by decide +kernel
theorem dX7_onOnes_11 : decode cX7_onOnes 11 = .ok (.if_icmp .ge 20, 3) := by decide +kernel
theorem dX7_onOnes_14 : decode cX7_onOnes 14 = .ok (.iload_n 1, 1) := by decide +kernel
theorem dX7_onOnes_15 : decode cX7_onOnes 15 = .ok (.aload_n 0, 1) := by decide +kernel
theorem dX7_onOnes_16 : decode cX7_onOnes 16 = .ok (.iload_n 2, 1) := by decide +kernel
theorem dX7_onOnes_17 : decode cX7_onOnes 17 = .ok (.iconst 5, 1) := by decide +kernel
theorem dX7_onOnes_18 : decode cX7_onOnes 18 = .ok (.invokevirtual 65, 3) := by decide +kernel
theorem dX7_onOnes_21 : decode cX7_onOnes 21 = .ok (.iload_n 2, 1) := by decide +kernel
theorem dX7_onOnes_22 : decode cX7_onOnes 22 = .ok (.ishl, 1) := by decide +kernel
theorem dX7_onOnes_23 : decode cX7_onOnes 23 = .ok (.ior, 1) := by decide +kernel
theorem dX7_onOnes_24 : decode cX7_onOnes 24 = .ok (.istore_n 1, 1) := by decide +kernel
theorem dX7_onOnes_25 : decode cX7_onOnes 25 = .ok (.iinc 2 1, 3) := by decide +kernel
theorem dX7_onOnes_28 : decode cX7_onOnes 28 = .ok (.goto (-24), 3) := by decide +kernel
theorem dX7_onOnes_31 : decode cX7_onOnes 31 = .ok (.iload_n 1, 1) := by decide +kernel
theorem dX7_onOnes_32 : decode cX7_onOnes 32 = .ok (.ireturn, 1) := by decide +kernel
theorem dX7_touching_0 : decode cX7_touching 0 = .ok (.iconst 0, 1) := by decide +kernel
theorem dX7_touching_1 : decode cX7_touching 1 = .ok (.istore_n 2, 1) := by decide +kernel
theorem dX7_touching_2 : decode cX7_touching 2 = .ok (.iconst 0, 1) := by decide +kernel
theorem dX7_touching_3 : decode cX7_touching 3 = .ok (.istore_n 3, 1) := by decide +kernel
theorem dX7_touching_4 : decode cX7_touching 4 = .ok (.iload_n 3, 1) := by decide +kernel
theorem dX7_touching_5 : decode cX7_touching 5 = .ok (.aload_n 0, 1) := by decide +kernel
theorem dX7_touching_6 : decode cX7_touching 6 = .ok (.getfield 9, 3) := by decide +kernel
theorem dX7_touching_9 : decode cX7_touching 9 = .ok (.iconst 2, 1) := by decide +kernel
theorem dX7_touching_10 : decode cX7_touching 10 = .ok (.iaload, 1) := by decide +kernel
theorem dX7_touching_11 : decode cX7_touching 11 = .ok (.if_icmp .ge 69, 3) := by decide +kernel
theorem dX7_touching_14 : decode cX7_touching 14 = .ok (.aload_n 0, 1) := by decide +kernel
theorem dX7_touching_15 : decode cX7_touching 15 = .ok (.iload_n 3, 1) := by decide +kernel
theorem dX7_touching_16 : decode cX7_touching 16 = .ok (.iconst 2, 1) := by decide +kernel
theorem dX7_touching_17 : decode cX7_touching 17 = .ok (.invokevirtual 65, 3) := by decide +kernel
theorem dX7_touching_20 : decode cX7_touching 20 = .ok (.aload_n 0, 1) := by decide +kernel
theorem dX7_touching_21 : decode cX7_touching 21 = .ok (.iload_n 1, 1) := by decide +kernel
theorem dX7_touching_22 : decode cX7_touching 22 = .ok (.iconst 3, 1) := by decide +kernel
theorem dX7_touching_23 : decode cX7_touching 23 = .ok (.invokevirtual 65, 3) := by decide +kernel
theorem dX7_touching_26 : decode cX7_touching 26 = .ok (.if_icmp .eq 18, 3) := by decide +kernel
theorem dX7_touching_29 : decode cX7_touching 29 = .ok (.aload_n 0, 1) := by decide +kernel
theorem dX7_touching_30 : decode cX7_touching 30 = .ok (.iload_n 3, 1) := by decide +kernel
theorem dX7_touching_31 : decode cX7_touching 31 = .ok (.iconst 3, 1) := by decide +kernel
theorem dX7_touching_32 : decode cX7_touching 32 = .ok (.invokevirtual 65, 3) := by decide +kernel
theorem dX7_touching_35 : decode cX7_touching 35 = .ok (.aload_n 0, 1) := by decide +kernel
theorem dX7_touching_36 : decode cX7_touching 36 = .ok (.iload_n 1, 1) := by decide +kernel
theorem dX7_touching_37 : decode cX7_touching 37 = .ok (.iconst 3, 1) := by decide +kernel
theorem dX7_touching_38 : decode cX7_touching 38 = .ok (.invokevirtual 65, 3) := by decide +kernel
theorem dX7_touching_41 : decode cX7_touching 41 = .ok (.if_icmp .ne 7, 3) := by decide +kernel
theorem dX7_touching_44 : decode cX7_touching 44 = .ok (.iconst 1, 1) := by decide +kernel
theorem dX7_touching_45 : decode cX7_touching 45 = .ok (.goto 4, 3) := by decide +kernel
theorem dX7_touching_48 : decode cX7_touching 48 = .ok (.iconst 0, 1) := by decide +kernel
theorem dX7_touching_49 : decode cX7_touching 49 = .ok (.istore 4, 2) := by decide +kernel
theorem dX7_touching_51 : decode cX7_touching 51 = .ok (.iload_n 2, 1) := by decide +kernel
theorem dX7_touching_52 : decode cX7_touching 52 = .ok (.iload 4, 2) := by decide +kernel
theorem dX7_touching_54 : decode cX7_touching 54 = .ok (.ifCond .eq 17, 3) := by decide +kernel
theorem dX7_touching_57 : decode cX7_touching 57 = .ok (.aload_n 0, 1) := by decide +kernel
theorem dX7_touching_58 : decode cX7_touching 58 = .ok (.iload_n 3, 1) := by decide +kernel
theorem dX7_touching_59 : decode cX7_touching 59 = .ok (.iconst 5, 1) := by decide +kernel
theorem dX7_touching_60 : decode cX7_touching 60 = .ok (.invokevirtual 65, 3) := by decide +kernel
theorem dX7_touching_63 : decode cX7_touching 63 = .ok (.iconst 1, 1) := by decide +kernel
theorem dX7_touching_64 : decode cX7_touching 64 = .ok (.if_icmp .ne 7, 3) := by decide +kernel
theorem dX7_touching_67 : decode cX7_touching 67 = .ok (.iconst 1, 1) := by decide +kernel
theorem dX7_touching_68 : decode cX7_touching 68 = .ok (.goto 4, 3) := by decide +kernel
theorem dX7_touching_71 : decode cX7_touching 71 = .ok (.iconst 0, 1) := by decide +kernel
theorem dX7_touching_72 : decode cX7_touching 72 = .ok (.iadd, 1) := by decide +kernel
theorem dX7_touching_73 : decode cX7_touching 73 = .ok (.istore_n 2, 1) := by decide +kernel
theorem dX7_touching_74 : decode cX7_touching 74 = .ok (.iinc 3 1, 3) := by decide +kernel
theorem dX7_touching_77 : decode cX7_touching 77 = .ok (.goto (-73), 3) := by decide +kernel
theorem dX7_touching_80 : decode cX7_touching 80 = .ok (.iload_n 2, 1) := by decide +kernel
theorem dX7_touching_81 : decode cX7_touching 81 = .ok (.ireturn, 1) := by decide +kernel
theorem dX7_weighsBy_0 : decode cX7_weighsBy 0 = .ok (.aload_n 0, 1) := by decide +kernel
theorem dX7_weighsBy_1 : decode cX7_weighsBy 1 = .ok (.iload_n 1, 1) := by decide +kernel
theorem dX7_weighsBy_2 : decode cX7_weighsBy 2 = .ok (.invokevirtual 69, 3) := by decide +kernel
theorem dX7_weighsBy_5 : decode cX7_weighsBy 5 = .ok (.iconst 3, 1) := by decide +kernel
theorem dX7_weighsBy_6 : decode cX7_weighsBy 6 = .ok (.if_icmp .le 7, 3) := by decide +kernel
theorem dX7_weighsBy_9 : decode cX7_weighsBy 9 = .ok (.iconst 1, 1) := by decide +kernel
theorem dX7_weighsBy_10 : decode cX7_weighsBy 10 = .ok (.goto 4, 3) := by decide +kernel
theorem dX7_weighsBy_13 : decode cX7_weighsBy 13 = .ok (.iconst 3, 1) := by decide +kernel
theorem dX7_weighsBy_14 : decode cX7_weighsBy 14 = .ok (.istore_n 2, 1) := by decide +kernel
theorem dX7_weighsBy_15 : decode cX7_weighsBy 15 = .ok (.aload_n 0, 1) := by decide +kernel
theorem dX7_weighsBy_16 : decode cX7_weighsBy 16 = .ok (.iload_n 1, 1) := by decide +kernel
theorem dX7_weighsBy_17 : decode cX7_weighsBy 17 = .ok (.iconst 0, 1) := by decide +kernel
theorem dX7_weighsBy_18 : decode cX7_weighsBy 18 = .ok (.invokevirtual 65, 3) := by decide +kernel
theorem dX7_weighsBy_21 : decode cX7_weighsBy 21 = .ok (.tableswitch 82 1 6 #[39, 41, 43, 59, 76, 80], 39) := by decide +kernel
theorem dX7_weighsBy_60 : decode cX7_weighsBy 60 = .ok (.iconst 3, 1) := by decide +kernel
theorem dX7_weighsBy_61 : decode cX7_weighsBy 61 = .ok (.ireturn, 1) := by decide +kernel
theorem dX7_weighsBy_62 : decode cX7_weighsBy 62 = .ok (.iload_n 2, 1) := by decide +kernel
theorem dX7_weighsBy_63 : decode cX7_weighsBy 63 = .ok (.ireturn, 1) := by decide +kernel
theorem dX7_weighsBy_64 : decode cX7_weighsBy 64 = .ok (.aload_n 0, 1) := by decide +kernel
theorem dX7_weighsBy_65 : decode cX7_weighsBy 65 = .ok (.iload_n 1, 1) := by decide +kernel
theorem dX7_weighsBy_66 : decode cX7_weighsBy 66 = .ok (.iconst 1, 1) := by decide +kernel
theorem dX7_weighsBy_67 : decode cX7_weighsBy 67 = .ok (.invokevirtual 65, 3) := by decide +kernel
theorem dX7_weighsBy_70 : decode cX7_weighsBy 70 = .ok (.iconst 4, 1) := by decide +kernel
theorem dX7_weighsBy_71 : decode cX7_weighsBy 71 = .ok (.if_icmp .le 7, 3) := by decide +kernel
theorem dX7_weighsBy_74 : decode cX7_weighsBy 74 = .ok (.iconst 4, 1) := by decide +kernel
theorem dX7_weighsBy_75 : decode cX7_weighsBy 75 = .ok (.goto 4, 3) := by decide +kernel
theorem dX7_weighsBy_78 : decode cX7_weighsBy 78 = .ok (.iconst 2, 1) := by decide +kernel
theorem dX7_weighsBy_79 : decode cX7_weighsBy 79 = .ok (.ireturn, 1) := by decide +kernel
theorem dX7_weighsBy_80 : decode cX7_weighsBy 80 = .ok (.aload_n 0, 1) := by decide +kernel
theorem dX7_weighsBy_81 : decode cX7_weighsBy 81 = .ok (.getfield 9, 3) := by decide +kernel
theorem dX7_weighsBy_84 : decode cX7_weighsBy 84 = .ok (.iconst 0, 1) := by decide +kernel
theorem dX7_weighsBy_85 : decode cX7_weighsBy 85 = .ok (.iaload, 1) := by decide +kernel
theorem dX7_weighsBy_86 : decode cX7_weighsBy 86 = .ok (.iconst 2, 1) := by decide +kernel
theorem dX7_weighsBy_87 : decode cX7_weighsBy 87 = .ok (.irem, 1) := by decide +kernel
theorem dX7_weighsBy_88 : decode cX7_weighsBy 88 = .ok (.ifCond .ne 7, 3) := by decide +kernel
theorem dX7_weighsBy_91 : decode cX7_weighsBy 91 = .ok (.iconst 3, 1) := by decide +kernel
theorem dX7_weighsBy_92 : decode cX7_weighsBy 92 = .ok (.goto 4, 3) := by decide +kernel
theorem dX7_weighsBy_95 : decode cX7_weighsBy 95 = .ok (.iconst 1, 1) := by decide +kernel
theorem dX7_weighsBy_96 : decode cX7_weighsBy 96 = .ok (.ireturn, 1) := by decide +kernel
theorem dX7_weighsBy_97 : decode cX7_weighsBy 97 = .ok (.iload_n 2, 1) := by decide +kernel
theorem dX7_weighsBy_98 : decode cX7_weighsBy 98 = .ok (.iconst 1, 1) := by decide +kernel
theorem dX7_weighsBy_99 : decode cX7_weighsBy 99 = .ok (.isub, 1) := by decide +kernel
theorem dX7_weighsBy_100 : decode cX7_weighsBy 100 = .ok (.ireturn, 1) := by decide +kernel
theorem dX7_weighsBy_101 : decode cX7_weighsBy 101 = .ok (.iconst 4, 1) := by decide +kernel
theorem dX7_weighsBy_102 : decode cX7_weighsBy 102 = .ok (.ireturn, 1) := by decide +kernel
theorem dX7_weighsBy_103 : decode cX7_weighsBy 103 = .ok (.iconst 2, 1) := by decide +kernel
theorem dX7_weighsBy_104 : decode cX7_weighsBy 104 = .ok (.ireturn, 1) := by decide +kernel
theorem dX7_readBy_0 : decode cX7_readBy 0 = .ok (.aload_n 0, 1) := by decide +kernel
theorem dX7_readBy_1 : decode cX7_readBy 1 = .ok (.iload_n 1, 1) := by decide +kernel
theorem dX7_readBy_2 : decode cX7_readBy 2 = .ok (.iconst 4, 1) := by decide +kernel
theorem dX7_readBy_3 : decode cX7_readBy 3 = .ok (.invokevirtual 65, 3) := by decide +kernel
theorem dX7_readBy_6 : decode cX7_readBy 6 = .ok (.istore_n 2, 1) := by decide +kernel
theorem dX7_readBy_7 : decode cX7_readBy 7 = .ok (.aload_n 0, 1) := by decide +kernel
theorem dX7_readBy_8 : decode cX7_readBy 8 = .ok (.iload_n 1, 1) := by decide +kernel
theorem dX7_readBy_9 : decode cX7_readBy 9 = .ok (.iconst 0, 1) := by decide +kernel
theorem dX7_readBy_10 : decode cX7_readBy 10 = .ok (.invokevirtual 65, 3) := by decide +kernel
theorem dX7_readBy_13 : decode cX7_readBy 13 = .ok (.tableswitch 85 3 6 #[31, 44, 62, 68], 31) := by decide +kernel
theorem dX7_readBy_44 : decode cX7_readBy 44 = .ok (.iload_n 2, 1) := by decide +kernel
theorem dX7_readBy_45 : decode cX7_readBy 45 = .ok (.aload_n 0, 1) := by decide +kernel
theorem dX7_readBy_46 : decode cX7_readBy 46 = .ok (.iload_n 1, 1) := by decide +kernel
theorem dX7_readBy_47 : decode cX7_readBy 47 = .ok (.iconst 1, 1) := by decide +kernel
theorem dX7_readBy_48 : decode cX7_readBy 48 = .ok (.invokevirtual 65, 3) := by decide +kernel
theorem dX7_readBy_51 : decode cX7_readBy 51 = .ok (.iconst 3, 1) := by decide +kernel
theorem dX7_readBy_52 : decode cX7_readBy 52 = .ok (.irem, 1) := by decide +kernel
theorem dX7_readBy_53 : decode cX7_readBy 53 = .ok (.iadd, 1) := by decide +kernel
theorem dX7_readBy_54 : decode cX7_readBy 54 = .ok (.iconst 1, 1) := by decide +kernel
theorem dX7_readBy_55 : decode cX7_readBy 55 = .ok (.isub, 1) := by decide +kernel
theorem dX7_readBy_56 : decode cX7_readBy 56 = .ok (.ireturn, 1) := by decide +kernel
theorem dX7_readBy_57 : decode cX7_readBy 57 = .ok (.iload_n 2, 1) := by decide +kernel
theorem dX7_readBy_58 : decode cX7_readBy 58 = .ok (.aload_n 0, 1) := by decide +kernel
theorem dX7_readBy_59 : decode cX7_readBy 59 = .ok (.getfield 9, 3) := by decide +kernel
theorem dX7_readBy_62 : decode cX7_readBy 62 = .ok (.iconst 0, 1) := by decide +kernel
theorem dX7_readBy_63 : decode cX7_readBy 63 = .ok (.iaload, 1) := by decide +kernel
theorem dX7_readBy_64 : decode cX7_readBy 64 = .ok (.aload_n 0, 1) := by decide +kernel
theorem dX7_readBy_65 : decode cX7_readBy 65 = .ok (.iload_n 1, 1) := by decide +kernel
theorem dX7_readBy_66 : decode cX7_readBy 66 = .ok (.iconst 1, 1) := by decide +kernel
theorem dX7_readBy_67 : decode cX7_readBy 67 = .ok (.invokevirtual 65, 3) := by decide +kernel
theorem dX7_readBy_70 : decode cX7_readBy 70 = .ok (.iconst 1, 1) := by decide +kernel
theorem dX7_readBy_71 : decode cX7_readBy 71 = .ok (.iadd, 1) := by decide +kernel
theorem dX7_readBy_72 : decode cX7_readBy 72 = .ok (.irem, 1) := by decide +kernel
theorem dX7_readBy_73 : decode cX7_readBy 73 = .ok (.iadd, 1) := by decide +kernel
theorem dX7_readBy_74 : decode cX7_readBy 74 = .ok (.ireturn, 1) := by decide +kernel
theorem dX7_readBy_75 : decode cX7_readBy 75 = .ok (.iconst 2, 1) := by decide +kernel
theorem dX7_readBy_76 : decode cX7_readBy 76 = .ok (.iload_n 2, 1) := by decide +kernel
theorem dX7_readBy_77 : decode cX7_readBy 77 = .ok (.iconst 2, 1) := by decide +kernel
theorem dX7_readBy_78 : decode cX7_readBy 78 = .ok (.idiv, 1) := by decide +kernel
theorem dX7_readBy_79 : decode cX7_readBy 79 = .ok (.imul, 1) := by decide +kernel
theorem dX7_readBy_80 : decode cX7_readBy 80 = .ok (.ireturn, 1) := by decide +kernel
theorem dX7_readBy_81 : decode cX7_readBy 81 = .ok (.iload_n 2, 1) := by decide +kernel
theorem dX7_readBy_82 : decode cX7_readBy 82 = .ok (.ifCond .ge 7, 3) := by decide +kernel
theorem dX7_readBy_85 : decode cX7_readBy 85 = .ok (.iconst 0, 1) := by decide +kernel
theorem dX7_readBy_86 : decode cX7_readBy 86 = .ok (.goto 4, 3) := by decide +kernel
theorem dX7_readBy_89 : decode cX7_readBy 89 = .ok (.iload_n 2, 1) := by decide +kernel
theorem dX7_readBy_90 : decode cX7_readBy 90 = .ok (.aload_n 0, 1) := by decide +kernel
theorem dX7_readBy_91 : decode cX7_readBy 91 = .ok (.iload_n 1, 1) := by decide +kernel
theorem dX7_readBy_92 : decode cX7_readBy 92 = .ok (.iconst 1, 1) := by decide +kernel
theorem dX7_readBy_93 : decode cX7_readBy 93 = .ok (.invokevirtual 65, 3) := by decide +kernel
theorem dX7_readBy_96 : decode cX7_readBy 96 = .ok (.isub, 1) := by decide +kernel
theorem dX7_readBy_97 : decode cX7_readBy 97 = .ok (.ireturn, 1) := by decide +kernel
theorem dX7_readBy_98 : decode cX7_readBy 98 = .ok (.iload_n 2, 1) := by decide +kernel
theorem dX7_readBy_99 : decode cX7_readBy 99 = .ok (.ireturn, 1) := by decide +kernel
theorem dX7_weight_0 : decode cX7_weight 0 = .ok (.aload_n 0, 1) := by decide +kernel
theorem dX7_weight_1 : decode cX7_weight 1 = .ok (.iconst 0, 1) := by decide +kernel
theorem dX7_weight_2 : decode cX7_weight 2 = .ok (.aload_n 0, 1) := by decide +kernel
theorem dX7_weight_3 : decode cX7_weight 3 = .ok (.iload_n 1, 1) := by decide +kernel
theorem dX7_weight_4 : decode cX7_weight 4 = .ok (.invokevirtual 73, 3) := by decide +kernel
theorem dX7_weight_7 : decode cX7_weight 7 = .ok (.aload_n 0, 1) := by decide +kernel
theorem dX7_weight_8 : decode cX7_weight 8 = .ok (.iload_n 1, 1) := by decide +kernel
theorem dX7_weight_9 : decode cX7_weight 9 = .ok (.invokevirtual 69, 3) := by decide +kernel
theorem dX7_weight_12 : decode cX7_weight 12 = .ok (.aload_n 0, 1) := by decide +kernel
theorem dX7_weight_13 : decode cX7_weight 13 = .ok (.getfield 9, 3) := by decide +kernel
theorem dX7_weight_16 : decode cX7_weight 16 = .ok (.iconst 0, 1) := by decide +kernel
theorem dX7_weight_17 : decode cX7_weight 17 = .ok (.iaload, 1) := by decide +kernel
theorem dX7_weight_18 : decode cX7_weight 18 = .ok (.bipush 8, 2) := by decide +kernel
theorem dX7_weight_20 : decode cX7_weight 20 = .ok (.irem, 1) := by decide +kernel
theorem dX7_weight_21 : decode cX7_weight 21 = .ok (.invokevirtual 76, 3) := by decide +kernel
theorem dX7_weight_24 : decode cX7_weight 24 = .ok (.ireturn, 1) := by decide +kernel
theorem dX7_saysOf_0 : decode cX7_saysOf 0 = .ok (.aload_n 0, 1) := by decide +kernel
theorem dX7_saysOf_1 : decode cX7_saysOf 1 = .ok (.iconst 1, 1) := by decide +kernel
theorem dX7_saysOf_2 : decode cX7_saysOf 2 = .ok (.aload_n 0, 1) := by decide +kernel
theorem dX7_saysOf_3 : decode cX7_saysOf 3 = .ok (.iload_n 1, 1) := by decide +kernel
theorem dX7_saysOf_4 : decode cX7_saysOf 4 = .ok (.invokevirtual 80, 3) := by decide +kernel
theorem dX7_saysOf_7 : decode cX7_saysOf 7 = .ok (.aload_n 0, 1) := by decide +kernel
theorem dX7_saysOf_8 : decode cX7_saysOf 8 = .ok (.iload_n 1, 1) := by decide +kernel
theorem dX7_saysOf_9 : decode cX7_saysOf 9 = .ok (.iconst 4, 1) := by decide +kernel
theorem dX7_saysOf_10 : decode cX7_saysOf 10 = .ok (.invokevirtual 65, 3) := by decide +kernel
theorem dX7_saysOf_13 : decode cX7_saysOf 13 = .ok (.aload_n 0, 1) := by decide +kernel
theorem dX7_saysOf_14 : decode cX7_saysOf 14 = .ok (.getfield 9, 3) := by decide +kernel
theorem dX7_saysOf_17 : decode cX7_saysOf 17 = .ok (.iconst 0, 1) := by decide +kernel
theorem dX7_saysOf_18 : decode cX7_saysOf 18 = .ok (.iaload, 1) := by decide +kernel
theorem dX7_saysOf_19 : decode cX7_saysOf 19 = .ok (.bipush 8, 2) := by decide +kernel
theorem dX7_saysOf_21 : decode cX7_saysOf 21 = .ok (.irem, 1) := by decide +kernel
theorem dX7_saysOf_22 : decode cX7_saysOf 22 = .ok (.invokevirtual 76, 3) := by decide +kernel
theorem dX7_saysOf_25 : decode cX7_saysOf 25 = .ok (.ireturn, 1) := by decide +kernel
theorem dX7_tiedBy_0 : decode cX7_tiedBy 0 = .ok (.iconst 0, 1) := by decide +kernel
theorem dX7_tiedBy_1 : decode cX7_tiedBy 1 = .ok (.istore_n 2, 1) := by decide +kernel
theorem dX7_tiedBy_2 : decode cX7_tiedBy 2 = .ok (.iconst 0, 1) := by decide +kernel
theorem dX7_tiedBy_3 : decode cX7_tiedBy 3 = .ok (.istore_n 3, 1) := by decide +kernel
theorem dX7_tiedBy_4 : decode cX7_tiedBy 4 = .ok (.iload_n 3, 1) := by decide +kernel
theorem dX7_tiedBy_5 : decode cX7_tiedBy 5 = .ok (.iconst 4, 1) := by decide +kernel
theorem dX7_tiedBy_6 : decode cX7_tiedBy 6 = .ok (.if_icmp .ge 139, 3) := by decide +kernel
theorem dX7_tiedBy_9 : decode cX7_tiedBy 9 = .ok (.iconst 0, 1) := by decide +kernel
theorem dX7_tiedBy_10 : decode cX7_tiedBy 10 = .ok (.istore 4, 2) := by decide +kernel
theorem dX7_tiedBy_12 : decode cX7_tiedBy 12 = .ok (.iload 4, 2) := by decide +kernel
theorem dX7_tiedBy_14 : decode cX7_tiedBy 14 = .ok (.aload_n 0, 1) := by decide +kernel
theorem dX7_tiedBy_15 : decode cX7_tiedBy 15 = .ok (.getfield 9, 3) := by decide +kernel
theorem dX7_tiedBy_18 : decode cX7_tiedBy 18 = .ok (.iconst 2, 1) := by decide +kernel
theorem dX7_tiedBy_19 : decode cX7_tiedBy 19 = .ok (.iaload, 1) := by decide +kernel
theorem dX7_tiedBy_20 : decode cX7_tiedBy 20 = .ok (.if_icmp .ge 119, 3) := by decide +kernel
theorem dX7_tiedBy_23 : decode cX7_tiedBy 23 = .ok (.aload_n 0, 1) := by decide +kernel
theorem dX7_tiedBy_24 : decode cX7_tiedBy 24 = .ok (.iload 4, 2) := by decide +kernel
theorem dX7_tiedBy_26 : decode cX7_tiedBy 26 = .ok (.iconst 2, 1) := by decide +kernel
theorem dX7_tiedBy_27 : decode cX7_tiedBy 27 = .ok (.invokevirtual 65, 3) := by decide +kernel
theorem dX7_tiedBy_30 : decode cX7_tiedBy 30 = .ok (.ifCond .lt 18, 3) := by decide +kernel
theorem dX7_tiedBy_33 : decode cX7_tiedBy 33 = .ok (.iload_n 2, 1) := by decide +kernel
theorem dX7_tiedBy_34 : decode cX7_tiedBy 34 = .ok (.aload_n 0, 1) := by decide +kernel
theorem dX7_tiedBy_35 : decode cX7_tiedBy 35 = .ok (.iload 4, 2) := by decide +kernel
theorem dX7_tiedBy_37 : decode cX7_tiedBy 37 = .ok (.iconst 2, 1) := by decide +kernel
theorem dX7_tiedBy_38 : decode cX7_tiedBy 38 = .ok (.invokevirtual 65, 3) := by decide +kernel
theorem dX7_tiedBy_41 : decode cX7_tiedBy 41 = .ok (.ishr, 1) := by decide +kernel
theorem dX7_tiedBy_42 : decode cX7_tiedBy 42 = .ok (.iconst 1, 1) := by decide +kernel
theorem dX7_tiedBy_43 : decode cX7_tiedBy 43 = .ok (.iand, 1) := by decide +kernel
theorem dX7_tiedBy_44 : decode cX7_tiedBy 44 = .ok (.iconst 1, 1) := by decide +kernel
theorem dX7_tiedBy_45 : decode cX7_tiedBy 45 = .ok (.if_icmp .ne 7, 3) := by decide +kernel
theorem dX7_tiedBy_48 : decode cX7_tiedBy 48 = .ok (.iconst 1, 1) := by decide +kernel
theorem dX7_tiedBy_49 : decode cX7_tiedBy 49 = .ok (.goto 4, 3) := by decide +kernel
theorem dX7_tiedBy_52 : decode cX7_tiedBy 52 = .ok (.iconst 0, 1) := by decide +kernel
theorem dX7_tiedBy_53 : decode cX7_tiedBy 53 = .ok (.istore 5, 2) := by decide +kernel
theorem dX7_tiedBy_55 : decode cX7_tiedBy 55 = .ok (.iload_n 2, 1) := by decide +kernel
theorem dX7_tiedBy_56 : decode cX7_tiedBy 56 = .ok (.aload_n 0, 1) := by decide +kernel
theorem dX7_tiedBy_57 : decode cX7_tiedBy 57 = .ok (.iload 4, 2) := by decide +kernel
theorem dX7_tiedBy_59 : decode cX7_tiedBy 59 = .ok (.iconst 3, 1) := by decide +kernel
theorem dX7_tiedBy_60 : decode cX7_tiedBy 60 = .ok (.invokevirtual 65, 3) := by decide +kernel
theorem dX7_tiedBy_63 : decode cX7_tiedBy 63 = .ok (.ishr, 1) := by decide +kernel
theorem dX7_tiedBy_64 : decode cX7_tiedBy 64 = .ok (.iconst 1, 1) := by decide +kernel
theorem dX7_tiedBy_65 : decode cX7_tiedBy 65 = .ok (.iand, 1) := by decide +kernel
theorem dX7_tiedBy_66 : decode cX7_tiedBy 66 = .ok (.iconst 1, 1) := by decide +kernel
theorem dX7_tiedBy_67 : decode cX7_tiedBy 67 = .ok (.if_icmp .ne 7, 3) := by decide +kernel
theorem dX7_tiedBy_70 : decode cX7_tiedBy 70 = .ok (.iconst 1, 1) := by decide +kernel
theorem dX7_tiedBy_71 : decode cX7_tiedBy 71 = .ok (.goto 4, 3) := by decide +kernel
theorem dX7_tiedBy_74 : decode cX7_tiedBy 74 = .ok (.iconst 0, 1) := by decide +kernel
theorem dX7_tiedBy_75 : decode cX7_tiedBy 75 = .ok (.istore 6, 2) := by decide +kernel
theorem dX7_tiedBy_77 : decode cX7_tiedBy 77 = .ok (.iload_n 1, 1) := by decide +kernel
theorem dX7_tiedBy_78 : decode cX7_tiedBy 78 = .ok (.iload 4, 2) := by decide +kernel
theorem dX7_tiedBy_80 : decode cX7_tiedBy 80 = .ok (.ishr, 1) := by decide +kernel
theorem dX7_tiedBy_81 : decode cX7_tiedBy 81 = .ok (.iconst 1, 1) := by decide +kernel
theorem dX7_tiedBy_82 : decode cX7_tiedBy 82 = .ok (.iand, 1) := by decide +kernel
theorem dX7_tiedBy_83 : decode cX7_tiedBy 83 = .ok (.iconst 1, 1) := by decide +kernel
theorem dX7_tiedBy_84 : decode cX7_tiedBy 84 = .ok (.if_icmp .ne 49, 3) := by decide +kernel
theorem dX7_tiedBy_87 : decode cX7_tiedBy 87 = .ok (.iload 5, 2) := by decide +kernel
theorem dX7_tiedBy_89 : decode cX7_tiedBy 89 = .ok (.ifCond .ne 8, 3) := by decide +kernel
theorem dX7_tiedBy_92 : decode cX7_tiedBy 92 = .ok (.iload 6, 2) := by decide +kernel
theorem dX7_tiedBy_94 : decode cX7_tiedBy 94 = .ok (.ifCond .eq 39, 3) := by decide +kernel
theorem dX7_tiedBy_97 : decode cX7_tiedBy 97 = .ok (.iload_n 2, 1) := by decide +kernel
theorem dX7_tiedBy_98 : decode cX7_tiedBy 98 = .ok (.iconst 1, 1) := by decide +kernel
theorem dX7_tiedBy_99 : decode cX7_tiedBy 99 = .ok (.aload_n 0, 1) := by decide +kernel
theorem dX7_tiedBy_100 : decode cX7_tiedBy 100 = .ok (.iload 4, 2) := by decide +kernel
theorem dX7_tiedBy_102 : decode cX7_tiedBy 102 = .ok (.iconst 3, 1) := by decide +kernel
theorem dX7_tiedBy_103 : decode cX7_tiedBy 103 = .ok (.invokevirtual 65, 3) := by decide +kernel
theorem dX7_tiedBy_106 : decode cX7_tiedBy 106 = .ok (.ishl, 1) := by decide +kernel
theorem dX7_tiedBy_107 : decode cX7_tiedBy 107 = .ok (.aload_n 0, 1) := by decide +kernel
theorem dX7_tiedBy_108 : decode cX7_tiedBy 108 = .ok (.iload 4, 2) := by decide +kernel
theorem dX7_tiedBy_110 : decode cX7_tiedBy 110 = .ok (.iconst 2, 1) := by decide +kernel
theorem dX7_tiedBy_111 : decode cX7_tiedBy 111 = .ok (.invokevirtual 65, 3) := by decide +kernel
theorem dX7_tiedBy_114 : decode cX7_tiedBy 114 = .ok (.ifCond .ge 7, 3) := by decide +kernel
theorem dX7_tiedBy_117 : decode cX7_tiedBy 117 = .ok (.iconst 0, 1) := by decide +kernel
theorem dX7_tiedBy_118 : decode cX7_tiedBy 118 = .ok (.goto 12, 3) := by decide +kernel
theorem dX7_tiedBy_121 : decode cX7_tiedBy 121 = .ok (.iconst 1, 1) := by decide +kernel
theorem dX7_tiedBy_122 : decode cX7_tiedBy 122 = .ok (.aload_n 0, 1) := by decide +kernel
theorem dX7_tiedBy_123 : decode cX7_tiedBy 123 = .ok (.iload 4, 2) := by decide +kernel
theorem dX7_tiedBy_125 : decode cX7_tiedBy 125 = .ok (.iconst 2, 1) := by decide +kernel
theorem dX7_tiedBy_126 : decode cX7_tiedBy 126 = .ok (.invokevirtual 65, 3) := by decide +kernel
theorem dX7_tiedBy_129 : decode cX7_tiedBy 129 = .ok (.ishl, 1) := by decide +kernel
theorem dX7_tiedBy_130 : decode cX7_tiedBy 130 = .ok (.ior, 1) := by decide +kernel
theorem dX7_tiedBy_131 : decode cX7_tiedBy 131 = .ok (.ior, 1) := by decide +kernel
theorem dX7_tiedBy_132 : decode cX7_tiedBy 132 = .ok (.istore_n 2, 1) := by decide +kernel
theorem dX7_tiedBy_133 : decode cX7_tiedBy 133 = .ok (.iinc 4 1, 3) := by decide +kernel
theorem dX7_tiedBy_136 : decode cX7_tiedBy 136 = .ok (.goto (-124), 3) := by decide +kernel
theorem dX7_tiedBy_139 : decode cX7_tiedBy 139 = .ok (.iinc 3 1, 3) := by decide +kernel
theorem dX7_tiedBy_142 : decode cX7_tiedBy 142 = .ok (.goto (-138), 3) := by decide +kernel
theorem dX7_tiedBy_145 : decode cX7_tiedBy 145 = .ok (.iload_n 2, 1) := by decide +kernel
theorem dX7_tiedBy_146 : decode cX7_tiedBy 146 = .ok (.ireturn, 1) := by decide +kernel
theorem dX7_doesHold_0 : decode cX7_doesHold 0 = .ok (.aload_n 0, 1) := by decide +kernel
theorem dX7_doesHold_1 : decode cX7_doesHold 1 = .ok (.iload_n 1, 1) := by decide +kernel
theorem dX7_doesHold_2 : decode cX7_doesHold 2 = .ok (.invokevirtual 83, 3) := by decide +kernel
theorem dX7_doesHold_5 : decode cX7_doesHold 5 = .ok (.iconst 1, 1) := by decide +kernel
theorem dX7_doesHold_6 : decode cX7_doesHold 6 = .ok (.aload_n 0, 1) := by decide +kernel
theorem dX7_doesHold_7 : decode cX7_doesHold 7 = .ok (.getfield 9, 3) := by decide +kernel
theorem dX7_doesHold_10 : decode cX7_doesHold 10 = .ok (.iconst 3, 1) := by decide +kernel
theorem dX7_doesHold_11 : decode cX7_doesHold 11 = .ok (.iaload, 1) := by decide +kernel
theorem dX7_doesHold_12 : decode cX7_doesHold 12 = .ok (.ishl, 1) := by decide +kernel
theorem dX7_doesHold_13 : decode cX7_doesHold 13 = .ok (.iconst 1, 1) := by decide +kernel
theorem dX7_doesHold_14 : decode cX7_doesHold 14 = .ok (.isub, 1) := by decide +kernel
theorem dX7_doesHold_15 : decode cX7_doesHold 15 = .ok (.if_icmp .ne 7, 3) := by decide +kernel
theorem dX7_doesHold_18 : decode cX7_doesHold 18 = .ok (.iconst 1, 1) := by decide +kernel
theorem dX7_doesHold_19 : decode cX7_doesHold 19 = .ok (.goto 4, 3) := by decide +kernel
theorem dX7_doesHold_22 : decode cX7_doesHold 22 = .ok (.iconst 0, 1) := by decide +kernel
theorem dX7_doesHold_23 : decode cX7_doesHold 23 = .ok (.ireturn, 1) := by decide +kernel
theorem dX7_det_0 : decode cX7_det 0 = .ok (.aload_n 0, 1) := by decide +kernel
theorem dX7_det_1 : decode cX7_det 1 = .ok (.getfield 9, 3) := by decide +kernel
theorem dX7_det_4 : decode cX7_det 4 = .ok (.iconst 3, 1) := by decide +kernel
theorem dX7_det_5 : decode cX7_det 5 = .ok (.iaload, 1) := by decide +kernel
theorem dX7_det_6 : decode cX7_det 6 = .ok (.istore 4, 2) := by decide +kernel
theorem dX7_det_8 : decode cX7_det 8 = .ok (.iload_n 1, 1) := by decide +kernel
theorem dX7_det_9 : decode cX7_det 9 = .ok (.iload 4, 2) := by decide +kernel
theorem dX7_det_11 : decode cX7_det 11 = .ok (.if_icmp .ne 5, 3) := by decide +kernel
theorem dX7_det_14 : decode cX7_det 14 = .ok (.lconst 1, 1) := by decide +kernel
theorem dX7_det_15 : decode cX7_det 15 = .ok (.lreturn, 1) := by decide +kernel
theorem dX7_det_16 : decode cX7_det 16 = .ok (.lconst 0, 1) := by decide +kernel
theorem dX7_det_17 : decode cX7_det 17 = .ok (.lstore 5, 2) := by decide +kernel
theorem dX7_det_19 : decode cX7_det 19 = .ok (.lconst 1, 1) := by decide +kernel
theorem dX7_det_20 : decode cX7_det 20 = .ok (.lstore 7, 2) := by decide +kernel
theorem dX7_det_22 : decode cX7_det 22 = .ok (.iconst 0, 1) := by decide +kernel
theorem dX7_det_23 : decode cX7_det 23 = .ok (.istore 9, 2) := by decide +kernel
theorem dX7_det_25 : decode cX7_det 25 = .ok (.iload 9, 2) := by decide +kernel
theorem dX7_det_27 : decode cX7_det 27 = .ok (.iload 4, 2) := by decide +kernel
theorem dX7_det_29 : decode cX7_det 29 = .ok (.if_icmp .ge 87, 3) := by decide +kernel
theorem dX7_det_32 : decode cX7_det 32 = .ok (.iload_n 2, 1) := by decide +kernel
theorem dX7_det_33 : decode cX7_det 33 = .ok (.iload 9, 2) := by decide +kernel
theorem dX7_det_35 : decode cX7_det 35 = .ok (.ishr, 1) := by decide +kernel
theorem dX7_det_36 : decode cX7_det 36 = .ok (.iconst 1, 1) := by decide +kernel
theorem dX7_det_37 : decode cX7_det 37 = .ok (.iand, 1) := by decide +kernel
theorem dX7_det_38 : decode cX7_det 38 = .ok (.ifCond .ne 72, 3) := by decide +kernel
theorem dX7_det_41 : decode cX7_det 41 = .ok (.iload 9, 2) := by decide +kernel
theorem dX7_det_43 : decode cX7_det 43 = .ok (.iload_n 3, 1) := by decide +kernel
theorem dX7_det_44 : decode cX7_det 44 = .ok (.if_icmp .ne 12, 3) := by decide +kernel
theorem dX7_det_47 : decode cX7_det 47 = .ok (.aload_n 0, 1) := by decide +kernel
theorem dX7_det_48 : decode cX7_det 48 = .ok (.getfield 35, 3) := by decide +kernel
theorem dX7_det_51 : decode cX7_det 51 = .ok (.iload_n 1, 1) := by decide +kernel
theorem dX7_det_52 : decode cX7_det 52 = .ok (.laload, 1) := by decide +kernel
theorem dX7_det_53 : decode cX7_det 53 = .ok (.goto 14, 3) := by decide +kernel
theorem dX7_det_56 : decode cX7_det 56 = .ok (.aload_n 0, 1) := by decide +kernel
theorem dX7_det_57 : decode cX7_det 57 = .ok (.getfield 31, 3) := by decide +kernel
theorem dX7_det_60 : decode cX7_det 60 = .ok (.iconst 4, 1) := by decide +kernel
theorem dX7_det_61 : decode cX7_det 61 = .ok (.iload_n 1, 1) := by decide +kernel
theorem dX7_det_62 : decode cX7_det 62 = .ok (.imul, 1) := by decide +kernel
theorem dX7_det_63 : decode cX7_det 63 = .ok (.iload 9, 2) := by decide +kernel
theorem dX7_det_65 : decode cX7_det 65 = .ok (.iadd, 1) := by decide +kernel
theorem dX7_det_66 : decode cX7_det 66 = .ok (.laload, 1) := by decide +kernel
theorem dX7_det_67 : decode cX7_det 67 = .ok (.lstore 10, 2) := by decide +kernel
theorem dX7_det_69 : decode cX7_det 69 = .ok (.lload 5, 2) := by decide +kernel
theorem dX7_det_71 : decode cX7_det 71 = .ok (.lload 10, 2) := by decide +kernel
theorem dX7_det_73 : decode cX7_det 73 = .ok (.lconst 0, 1) := by decide +kernel
theorem dX7_det_74 : decode cX7_det 74 = .ok (.lcmp, 1) := by decide +kernel
theorem dX7_det_75 : decode cX7_det 75 = .ok (.ifCond .ne 7, 3) := by decide +kernel
theorem dX7_det_78 : decode cX7_det 78 = .ok (.lconst 0, 1) := by decide +kernel
theorem dX7_det_79 : decode cX7_det 79 = .ok (.goto 23, 3) := by decide +kernel
theorem dX7_det_82 : decode cX7_det 82 = .ok (.lload 7, 2) := by decide +kernel
theorem dX7_det_84 : decode cX7_det 84 = .ok (.lload 10, 2) := by decide +kernel
theorem dX7_det_86 : decode cX7_det 86 = .ok (.lmul, 1) := by decide +kernel
theorem dX7_det_87 : decode cX7_det 87 = .ok (.aload_n 0, 1) := by decide +kernel
theorem dX7_det_88 : decode cX7_det 88 = .ok (.iload_n 1, 1) := by decide +kernel
theorem dX7_det_89 : decode cX7_det 89 = .ok (.iconst 1, 1) := by decide +kernel
theorem dX7_det_90 : decode cX7_det 90 = .ok (.iadd, 1) := by decide +kernel
theorem dX7_det_91 : decode cX7_det 91 = .ok (.iload_n 2, 1) := by decide +kernel
theorem dX7_det_92 : decode cX7_det 92 = .ok (.iconst 1, 1) := by decide +kernel
theorem dX7_det_93 : decode cX7_det 93 = .ok (.iload 9, 2) := by decide +kernel
theorem dX7_det_95 : decode cX7_det 95 = .ok (.ishl, 1) := by decide +kernel
theorem dX7_det_96 : decode cX7_det 96 = .ok (.ior, 1) := by decide +kernel
theorem dX7_det_97 : decode cX7_det 97 = .ok (.iload_n 3, 1) := by decide +kernel
theorem dX7_det_98 : decode cX7_det 98 = .ok (.invokevirtual 86, 3) := by decide +kernel
theorem dX7_det_101 : decode cX7_det 101 = .ok (.lmul, 1) := by decide +kernel
theorem dX7_det_102 : decode cX7_det 102 = .ok (.ladd, 1) := by decide +kernel
theorem dX7_det_103 : decode cX7_det 103 = .ok (.lstore 5, 2) := by decide +kernel
theorem dX7_det_105 : decode cX7_det 105 = .ok (.lload 7, 2) := by decide +kernel
theorem dX7_det_107 : decode cX7_det 107 = .ok (.lneg, 1) := by decide +kernel
theorem dX7_det_108 : decode cX7_det 108 = .ok (.lstore 7, 2) := by decide +kernel
theorem dX7_det_110 : decode cX7_det 110 = .ok (.iinc 9 1, 3) := by decide +kernel
theorem dX7_det_113 : decode cX7_det 113 = .ok (.goto (-88), 3) := by decide +kernel
theorem dX7_det_116 : decode cX7_det 116 = .ok (.lload 5, 2) := by decide +kernel
theorem dX7_det_118 : decode cX7_det 118 = .ok (.lreturn, 1) := by decide +kernel
theorem dX7_adds_0 : decode cX7_adds 0 = .ok (.aload_n 0, 1) := by decide +kernel
theorem dX7_adds_1 : decode cX7_adds 1 = .ok (.iload_n 1, 1) := by decide +kernel
theorem dX7_adds_2 : decode cX7_adds 2 = .ok (.invokevirtual 90, 3) := by decide +kernel
theorem dX7_adds_5 : decode cX7_adds 5 = .ok (.i2l, 1) := by decide +kernel
theorem dX7_adds_6 : decode cX7_adds 6 = .ok (.lstore_n 2, 1) := by decide +kernel
theorem dX7_adds_7 : decode cX7_adds 7 = .ok (.aload_n 0, 1) := by decide +kernel
theorem dX7_adds_8 : decode cX7_adds 8 = .ok (.iload_n 1, 1) := by decide +kernel
theorem dX7_adds_9 : decode cX7_adds 9 = .ok (.iconst 2, 1) := by decide +kernel
theorem dX7_adds_10 : decode cX7_adds 10 = .ok (.invokevirtual 65, 3) := by decide +kernel
theorem dX7_adds_13 : decode cX7_adds 13 = .ok (.istore 4, 2) := by decide +kernel
theorem dX7_adds_15 : decode cX7_adds 15 = .ok (.aload_n 0, 1) := by decide +kernel
theorem dX7_adds_16 : decode cX7_adds 16 = .ok (.iload_n 1, 1) := by decide +kernel
theorem dX7_adds_17 : decode cX7_adds 17 = .ok (.iconst 3, 1) := by decide +kernel
theorem dX7_adds_18 : decode cX7_adds 18 = .ok (.invokevirtual 65, 3) := by decide +kernel
theorem dX7_adds_21 : decode cX7_adds 21 = .ok (.istore 5, 2) := by decide +kernel
theorem dX7_adds_23 : decode cX7_adds 23 = .ok (.aload_n 0, 1) := by decide +kernel
theorem dX7_adds_24 : decode cX7_adds 24 = .ok (.getfield 31, 3) := by decide +kernel
theorem dX7_adds_27 : decode cX7_adds 27 = .ok (.iconst 5, 1) := by decide +kernel
theorem dX7_adds_28 : decode cX7_adds 28 = .ok (.iload 5, 2) := by decide +kernel
theorem dX7_adds_30 : decode cX7_adds 30 = .ok (.imul, 1) := by decide +kernel
theorem dX7_adds_31 : decode cX7_adds 31 = .ok (.dup2, 1) := by decide +kernel
theorem dX7_adds_32 : decode cX7_adds 32 = .ok (.laload, 1) := by decide +kernel
theorem dX7_adds_33 : decode cX7_adds 33 = .ok (.lload_n 2, 1) := by decide +kernel
theorem dX7_adds_34 : decode cX7_adds 34 = .ok (.ladd, 1) := by decide +kernel
theorem dX7_adds_35 : decode cX7_adds 35 = .ok (.lastore, 1) := by decide +kernel
theorem dX7_adds_36 : decode cX7_adds 36 = .ok (.aload_n 0, 1) := by decide +kernel
theorem dX7_adds_37 : decode cX7_adds 37 = .ok (.getfield 35, 3) := by decide +kernel
theorem dX7_adds_40 : decode cX7_adds 40 = .ok (.iload 5, 2) := by decide +kernel
theorem dX7_adds_42 : decode cX7_adds 42 = .ok (.dup2, 1) := by decide +kernel
theorem dX7_adds_43 : decode cX7_adds 43 = .ok (.laload, 1) := by decide +kernel
theorem dX7_adds_44 : decode cX7_adds 44 = .ok (.lload_n 2, 1) := by decide +kernel
theorem dX7_adds_45 : decode cX7_adds 45 = .ok (.aload_n 0, 1) := by decide +kernel
theorem dX7_adds_46 : decode cX7_adds 46 = .ok (.iload_n 1, 1) := by decide +kernel
theorem dX7_adds_47 : decode cX7_adds 47 = .ok (.invokevirtual 93, 3) := by decide +kernel
theorem dX7_adds_50 : decode cX7_adds 50 = .ok (.i2l, 1) := by decide +kernel
theorem dX7_adds_51 : decode cX7_adds 51 = .ok (.lmul, 1) := by decide +kernel
theorem dX7_adds_52 : decode cX7_adds 52 = .ok (.ladd, 1) := by decide +kernel
theorem dX7_adds_53 : decode cX7_adds 53 = .ok (.lastore, 1) := by decide +kernel
theorem dX7_adds_54 : decode cX7_adds 54 = .ok (.iload 4, 2) := by decide +kernel
theorem dX7_adds_56 : decode cX7_adds 56 = .ok (.ifCond .lt 66, 3) := by decide +kernel
theorem dX7_adds_59 : decode cX7_adds 59 = .ok (.aload_n 0, 1) := by decide +kernel
theorem dX7_adds_60 : decode cX7_adds 60 = .ok (.getfield 31, 3) := by decide +kernel
theorem dX7_adds_63 : decode cX7_adds 63 = .ok (.iconst 5, 1) := by decide +kernel
theorem dX7_adds_64 : decode cX7_adds 64 = .ok (.iload 4, 2) := by decide +kernel
theorem dX7_adds_66 : decode cX7_adds 66 = .ok (.imul, 1) := by decide +kernel
theorem dX7_adds_67 : decode cX7_adds 67 = .ok (.dup2, 1) := by decide +kernel
theorem dX7_adds_68 : decode cX7_adds 68 = .ok (.laload, 1) := by decide +kernel
theorem dX7_adds_69 : decode cX7_adds 69 = .ok (.lload_n 2, 1) := by decide +kernel
theorem dX7_adds_70 : decode cX7_adds 70 = .ok (.ladd, 1) := by decide +kernel
theorem dX7_adds_71 : decode cX7_adds 71 = .ok (.lastore, 1) := by decide +kernel
theorem dX7_adds_72 : decode cX7_adds 72 = .ok (.aload_n 0, 1) := by decide +kernel
theorem dX7_adds_73 : decode cX7_adds 73 = .ok (.getfield 31, 3) := by decide +kernel
theorem dX7_adds_76 : decode cX7_adds 76 = .ok (.iconst 4, 1) := by decide +kernel
theorem dX7_adds_77 : decode cX7_adds 77 = .ok (.iload 4, 2) := by decide +kernel
theorem dX7_adds_79 : decode cX7_adds 79 = .ok (.imul, 1) := by decide +kernel
theorem dX7_adds_80 : decode cX7_adds 80 = .ok (.iload 5, 2) := by decide +kernel
theorem dX7_adds_82 : decode cX7_adds 82 = .ok (.iadd, 1) := by decide +kernel
theorem dX7_adds_83 : decode cX7_adds 83 = .ok (.dup2, 1) := by decide +kernel
theorem dX7_adds_84 : decode cX7_adds 84 = .ok (.laload, 1) := by decide +kernel
theorem dX7_adds_85 : decode cX7_adds 85 = .ok (.lload_n 2, 1) := by decide +kernel
theorem dX7_adds_86 : decode cX7_adds 86 = .ok (.lsub, 1) := by decide +kernel
theorem dX7_adds_87 : decode cX7_adds 87 = .ok (.lastore, 1) := by decide +kernel
theorem dX7_adds_88 : decode cX7_adds 88 = .ok (.aload_n 0, 1) := by decide +kernel
theorem dX7_adds_89 : decode cX7_adds 89 = .ok (.getfield 31, 3) := by decide +kernel
theorem dX7_adds_92 : decode cX7_adds 92 = .ok (.iconst 4, 1) := by decide +kernel
theorem dX7_adds_93 : decode cX7_adds 93 = .ok (.iload 5, 2) := by decide +kernel
theorem dX7_adds_95 : decode cX7_adds 95 = .ok (.imul, 1) := by decide +kernel
theorem dX7_adds_96 : decode cX7_adds 96 = .ok (.iload 4, 2) := by decide +kernel
theorem dX7_adds_98 : decode cX7_adds 98 = .ok (.iadd, 1) := by decide +kernel
theorem dX7_adds_99 : decode cX7_adds 99 = .ok (.dup2, 1) := by decide +kernel
theorem dX7_adds_100 : decode cX7_adds 100 = .ok (.laload, 1) := by decide +kernel
theorem dX7_adds_101 : decode cX7_adds 101 = .ok (.lload_n 2, 1) := by decide +kernel
theorem dX7_adds_102 : decode cX7_adds 102 = .ok (.lsub, 1) := by decide +kernel
theorem dX7_adds_103 : decode cX7_adds 103 = .ok (.lastore, 1) := by decide +kernel
theorem dX7_adds_104 : decode cX7_adds 104 = .ok (.aload_n 0, 1) := by decide +kernel
theorem dX7_adds_105 : decode cX7_adds 105 = .ok (.getfield 35, 3) := by decide +kernel
theorem dX7_adds_108 : decode cX7_adds 108 = .ok (.iload 4, 2) := by decide +kernel
theorem dX7_adds_110 : decode cX7_adds 110 = .ok (.dup2, 1) := by decide +kernel
theorem dX7_adds_111 : decode cX7_adds 111 = .ok (.laload, 1) := by decide +kernel
theorem dX7_adds_112 : decode cX7_adds 112 = .ok (.lload_n 2, 1) := by decide +kernel
theorem dX7_adds_113 : decode cX7_adds 113 = .ok (.aload_n 0, 1) := by decide +kernel
theorem dX7_adds_114 : decode cX7_adds 114 = .ok (.iload_n 1, 1) := by decide +kernel
theorem dX7_adds_115 : decode cX7_adds 115 = .ok (.invokevirtual 93, 3) := by decide +kernel
theorem dX7_adds_118 : decode cX7_adds 118 = .ok (.i2l, 1) := by decide +kernel
theorem dX7_adds_119 : decode cX7_adds 119 = .ok (.lmul, 1) := by decide +kernel
theorem dX7_adds_120 : decode cX7_adds 120 = .ok (.lsub, 1) := by decide +kernel
theorem dX7_adds_121 : decode cX7_adds 121 = .ok (.lastore, 1) := by decide +kernel
theorem dX7_adds_122 : decode cX7_adds 122 = .ok (.return_, 1) := by decide +kernel
theorem dX7_isSolved_0 : decode cX7_isSolved 0 = .ok (.aload_n 0, 1) := by decide +kernel
theorem dX7_isSolved_1 : decode cX7_isSolved 1 = .ok (.aload_n 0, 1) := by decide +kernel
theorem dX7_isSolved_2 : decode cX7_isSolved 2 = .ok (.invokevirtual 96, 3) := by decide +kernel
theorem dX7_isSolved_5 : decode cX7_isSolved 5 = .ok (.invokevirtual 100, 3) := by decide +kernel
theorem dX7_isSolved_8 : decode cX7_isSolved 8 = .ok (.ifCond .ne 5, 3) := by decide +kernel
theorem dX7_isSolved_11 : decode cX7_isSolved 11 = .ok (.iconst 0, 1) := by decide +kernel
theorem dX7_isSolved_12 : decode cX7_isSolved 12 = .ok (.ireturn, 1) := by decide +kernel
theorem dX7_isSolved_13 : decode cX7_isSolved 13 = .ok (.iconst 0, 1) := by decide +kernel
theorem dX7_isSolved_14 : decode cX7_isSolved 14 = .ok (.istore_n 1, 1) := by decide +kernel
theorem dX7_isSolved_15 : decode cX7_isSolved 15 = .ok (.iload_n 1, 1) := by decide +kernel
theorem dX7_isSolved_16 : decode cX7_isSolved 16 = .ok (.bipush 16, 2) := by decide +kernel
theorem dX7_isSolved_18 : decode cX7_isSolved 18 = .ok (.if_icmp .ge 25, 3) := by decide +kernel
theorem dX7_isSolved_21 : decode cX7_isSolved 21 = .ok (.aload_n 0, 1) := by decide +kernel
theorem dX7_isSolved_22 : decode cX7_isSolved 22 = .ok (.getfield 31, 3) := by decide +kernel
theorem dX7_isSolved_25 : decode cX7_isSolved 25 = .ok (.iload_n 1, 1) := by decide +kernel
theorem dX7_isSolved_26 : decode cX7_isSolved 26 = .ok (.lconst 0, 1) := by decide +kernel
theorem dX7_isSolved_27 : decode cX7_isSolved 27 = .ok (.lastore, 1) := by decide +kernel
theorem dX7_isSolved_28 : decode cX7_isSolved 28 = .ok (.aload_n 0, 1) := by decide +kernel
theorem dX7_isSolved_29 : decode cX7_isSolved 29 = .ok (.getfield 35, 3) := by decide +kernel
theorem dX7_isSolved_32 : decode cX7_isSolved 32 = .ok (.iload_n 1, 1) := by decide +kernel
theorem dX7_isSolved_33 : decode cX7_isSolved 33 = .ok (.iconst 4, 1) := by decide +kernel
theorem dX7_isSolved_34 : decode cX7_isSolved 34 = .ok (.idiv, 1) := by decide +kernel
theorem dX7_isSolved_35 : decode cX7_isSolved 35 = .ok (.lconst 0, 1) := by decide +kernel
theorem dX7_isSolved_36 : decode cX7_isSolved 36 = .ok (.lastore, 1) := by decide +kernel
theorem dX7_isSolved_37 : decode cX7_isSolved 37 = .ok (.iinc 1 1, 3) := by decide +kernel
theorem dX7_isSolved_40 : decode cX7_isSolved 40 = .ok (.goto (-25), 3) := by decide +kernel
theorem dX7_isSolved_43 : decode cX7_isSolved 43 = .ok (.iconst 0, 1) := by decide +kernel
theorem dX7_isSolved_44 : decode cX7_isSolved 44 = .ok (.istore_n 1, 1) := by decide +kernel
theorem dX7_isSolved_45 : decode cX7_isSolved 45 = .ok (.iload_n 1, 1) := by decide +kernel
theorem dX7_isSolved_46 : decode cX7_isSolved 46 = .ok (.aload_n 0, 1) := by decide +kernel
theorem dX7_isSolved_47 : decode cX7_isSolved 47 = .ok (.getfield 9, 3) := by decide +kernel
theorem dX7_isSolved_50 : decode cX7_isSolved 50 = .ok (.iconst 2, 1) := by decide +kernel
theorem dX7_isSolved_51 : decode cX7_isSolved 51 = .ok (.iaload, 1) := by decide +kernel
theorem dX7_isSolved_52 : decode cX7_isSolved 52 = .ok (.if_icmp .ge 24, 3) := by decide +kernel
theorem dX7_isSolved_55 : decode cX7_isSolved 55 = .ok (.aload_n 0, 1) := by decide +kernel
theorem dX7_isSolved_56 : decode cX7_isSolved 56 = .ok (.iload_n 1, 1) := by decide +kernel
theorem dX7_isSolved_57 : decode cX7_isSolved 57 = .ok (.iconst 5, 1) := by decide +kernel
theorem dX7_isSolved_58 : decode cX7_isSolved 58 = .ok (.invokevirtual 65, 3) := by decide +kernel
theorem dX7_isSolved_61 : decode cX7_isSolved 61 = .ok (.iconst 1, 1) := by decide +kernel
theorem dX7_isSolved_62 : decode cX7_isSolved 62 = .ok (.if_icmp .ne 8, 3) := by decide +kernel
theorem dX7_isSolved_65 : decode cX7_isSolved 65 = .ok (.aload_n 0, 1) := by decide +kernel
theorem dX7_isSolved_66 : decode cX7_isSolved 66 = .ok (.iload_n 1, 1) := by decide +kernel
theorem dX7_isSolved_67 : decode cX7_isSolved 67 = .ok (.invokevirtual 104, 3) := by decide +kernel
theorem dX7_isSolved_70 : decode cX7_isSolved 70 = .ok (.iinc 1 1, 3) := by decide +kernel
theorem dX7_isSolved_73 : decode cX7_isSolved 73 = .ok (.goto (-28), 3) := by decide +kernel
theorem dX7_isSolved_76 : decode cX7_isSolved 76 = .ok (.aload_n 0, 1) := by decide +kernel
theorem dX7_isSolved_77 : decode cX7_isSolved 77 = .ok (.aload_n 0, 1) := by decide +kernel
theorem dX7_isSolved_78 : decode cX7_isSolved 78 = .ok (.iconst 0, 1) := by decide +kernel
theorem dX7_isSolved_79 : decode cX7_isSolved 79 = .ok (.iconst 0, 1) := by decide +kernel
theorem dX7_isSolved_80 : decode cX7_isSolved 80 = .ok (.iconst (-1), 1) := by decide +kernel
theorem dX7_isSolved_81 : decode cX7_isSolved 81 = .ok (.invokevirtual 86, 3) := by decide +kernel
theorem dX7_isSolved_84 : decode cX7_isSolved 84 = .ok (.putfield 108, 3) := by decide +kernel
theorem dX7_isSolved_87 : decode cX7_isSolved 87 = .ok (.iconst 0, 1) := by decide +kernel
theorem dX7_isSolved_88 : decode cX7_isSolved 88 = .ok (.istore_n 1, 1) := by decide +kernel
theorem dX7_isSolved_89 : decode cX7_isSolved 89 = .ok (.iload_n 1, 1) := by decide +kernel
theorem dX7_isSolved_90 : decode cX7_isSolved 90 = .ok (.aload_n 0, 1) := by decide +kernel
theorem dX7_isSolved_91 : decode cX7_isSolved 91 = .ok (.getfield 9, 3) := by decide +kernel
theorem dX7_isSolved_94 : decode cX7_isSolved 94 = .ok (.iconst 3, 1) := by decide +kernel
theorem dX7_isSolved_95 : decode cX7_isSolved 95 = .ok (.iaload, 1) := by decide +kernel
theorem dX7_isSolved_96 : decode cX7_isSolved 96 = .ok (.if_icmp .ge 22, 3) := by decide +kernel
theorem dX7_isSolved_99 : decode cX7_isSolved 99 = .ok (.aload_n 0, 1) := by decide +kernel
theorem dX7_isSolved_100 : decode cX7_isSolved 100 = .ok (.getfield 38, 3) := by decide +kernel
theorem dX7_isSolved_103 : decode cX7_isSolved 103 = .ok (.iload_n 1, 1) := by decide +kernel
theorem dX7_isSolved_104 : decode cX7_isSolved 104 = .ok (.aload_n 0, 1) := by decide +kernel
theorem dX7_isSolved_105 : decode cX7_isSolved 105 = .ok (.iconst 0, 1) := by decide +kernel
theorem dX7_isSolved_106 : decode cX7_isSolved 106 = .ok (.iconst 0, 1) := by decide +kernel
theorem dX7_isSolved_107 : decode cX7_isSolved 107 = .ok (.iload_n 1, 1) := by decide +kernel
theorem dX7_isSolved_108 : decode cX7_isSolved 108 = .ok (.invokevirtual 86, 3) := by decide +kernel
theorem dX7_isSolved_111 : decode cX7_isSolved 111 = .ok (.lastore, 1) := by decide +kernel
theorem dX7_isSolved_112 : decode cX7_isSolved 112 = .ok (.iinc 1 1, 3) := by decide +kernel
theorem dX7_isSolved_115 : decode cX7_isSolved 115 = .ok (.goto (-26), 3) := by decide +kernel
theorem dX7_isSolved_118 : decode cX7_isSolved 118 = .ok (.iconst 1, 1) := by decide +kernel
theorem dX7_isSolved_119 : decode cX7_isSolved 119 = .ok (.ireturn, 1) := by decide +kernel
theorem dX7_missOf_0 : decode cX7_missOf 0 = .ok (.aload_n 0, 1) := by decide +kernel
theorem dX7_missOf_1 : decode cX7_missOf 1 = .ok (.iload_n 1, 1) := by decide +kernel
theorem dX7_missOf_2 : decode cX7_missOf 2 = .ok (.iconst 2, 1) := by decide +kernel
theorem dX7_missOf_3 : decode cX7_missOf 3 = .ok (.invokevirtual 65, 3) := by decide +kernel
theorem dX7_missOf_6 : decode cX7_missOf 6 = .ok (.ifCond .ge 7, 3) := by decide +kernel
theorem dX7_missOf_9 : decode cX7_missOf 9 = .ok (.lconst 0, 1) := by decide +kernel
theorem dX7_missOf_10 : decode cX7_missOf 10 = .ok (.goto 14, 3) := by decide +kernel
theorem dX7_missOf_13 : decode cX7_missOf 13 = .ok (.aload_n 0, 1) := by decide +kernel
theorem dX7_missOf_14 : decode cX7_missOf 14 = .ok (.getfield 38, 3) := by decide +kernel
theorem dX7_missOf_17 : decode cX7_missOf 17 = .ok (.aload_n 0, 1) := by decide +kernel
theorem dX7_missOf_18 : decode cX7_missOf 18 = .ok (.iload_n 1, 1) := by decide +kernel
theorem dX7_missOf_19 : decode cX7_missOf 19 = .ok (.iconst 2, 1) := by decide +kernel
theorem dX7_missOf_20 : decode cX7_missOf 20 = .ok (.invokevirtual 65, 3) := by decide +kernel
theorem dX7_missOf_23 : decode cX7_missOf 23 = .ok (.laload, 1) := by decide +kernel
theorem dX7_missOf_24 : decode cX7_missOf 24 = .ok (.lstore_n 2, 1) := by decide +kernel
theorem dX7_missOf_25 : decode cX7_missOf 25 = .ok (.aload_n 0, 1) := by decide +kernel
theorem dX7_missOf_26 : decode cX7_missOf 26 = .ok (.iload_n 1, 1) := by decide +kernel
theorem dX7_missOf_27 : decode cX7_missOf 27 = .ok (.invokevirtual 93, 3) := by decide +kernel
theorem dX7_missOf_30 : decode cX7_missOf 30 = .ok (.i2l, 1) := by decide +kernel
theorem dX7_missOf_31 : decode cX7_missOf 31 = .ok (.aload_n 0, 1) := by decide +kernel
theorem dX7_missOf_32 : decode cX7_missOf 32 = .ok (.getfield 108, 3) := by decide +kernel
theorem dX7_missOf_35 : decode cX7_missOf 35 = .ok (.lmul, 1) := by decide +kernel
theorem dX7_missOf_36 : decode cX7_missOf 36 = .ok (.aload_n 0, 1) := by decide +kernel
theorem dX7_missOf_37 : decode cX7_missOf 37 = .ok (.getfield 38, 3) := by decide +kernel
theorem dX7_missOf_40 : decode cX7_missOf 40 = .ok (.aload_n 0, 1) := by decide +kernel
theorem dX7_missOf_41 : decode cX7_missOf 41 = .ok (.iload_n 1, 1) := by decide +kernel
theorem dX7_missOf_42 : decode cX7_missOf 42 = .ok (.iconst 3, 1) := by decide +kernel
theorem dX7_missOf_43 : decode cX7_missOf 43 = .ok (.invokevirtual 65, 3) := by decide +kernel
theorem dX7_missOf_46 : decode cX7_missOf 46 = .ok (.laload, 1) := by decide +kernel
theorem dX7_missOf_47 : decode cX7_missOf 47 = .ok (.lsub, 1) := by decide +kernel
theorem dX7_missOf_48 : decode cX7_missOf 48 = .ok (.lload_n 2, 1) := by decide +kernel
theorem dX7_missOf_49 : decode cX7_missOf 49 = .ok (.ladd, 1) := by decide +kernel
theorem dX7_missOf_50 : decode cX7_missOf 50 = .ok (.lreturn, 1) := by decide +kernel
theorem dX7_doubt_0 : decode cX7_doubt 0 = .ok (.aload_n 0, 1) := by decide +kernel
theorem dX7_doubt_1 : decode cX7_doubt 1 = .ok (.iload_n 1, 1) := by decide +kernel
theorem dX7_doubt_2 : decode cX7_doubt 2 = .ok (.invokevirtual 112, 3) := by decide +kernel
theorem dX7_doubt_5 : decode cX7_doubt 5 = .ok (.lstore_n 2, 1) := by decide +kernel
theorem dX7_doubt_6 : decode cX7_doubt 6 = .ok (.aload_n 0, 1) := by decide +kernel
theorem dX7_doubt_7 : decode cX7_doubt 7 = .ok (.iload_n 1, 1) := by decide +kernel
theorem dX7_doubt_8 : decode cX7_doubt 8 = .ok (.invokevirtual 90, 3) := by decide +kernel
theorem dX7_doubt_11 : decode cX7_doubt 11 = .ok (.i2l, 1) := by decide +kernel
theorem dX7_doubt_12 : decode cX7_doubt 12 = .ok (.lload_n 2, 1) := by decide +kernel
theorem dX7_doubt_13 : decode cX7_doubt 13 = .ok (.lconst 0, 1) := by decide +kernel
theorem dX7_doubt_14 : decode cX7_doubt 14 = .ok (.lcmp, 1) := by decide +kernel
theorem dX7_doubt_15 : decode cX7_doubt 15 = .ok (.ifCond .ge 8, 3) := by decide +kernel
theorem dX7_doubt_18 : decode cX7_doubt 18 = .ok (.lload_n 2, 1) := by decide +kernel
theorem dX7_doubt_19 : decode cX7_doubt 19 = .ok (.lneg, 1) := by decide +kernel
theorem dX7_doubt_20 : decode cX7_doubt 20 = .ok (.goto 4, 3) := by decide +kernel
theorem dX7_doubt_23 : decode cX7_doubt 23 = .ok (.lload_n 2, 1) := by decide +kernel
theorem dX7_doubt_24 : decode cX7_doubt 24 = .ok (.lmul, 1) := by decide +kernel
theorem dX7_doubt_25 : decode cX7_doubt 25 = .ok (.lreturn, 1) := by decide +kernel
theorem dX7_mostDoubted_0 : decode cX7_mostDoubted 0 = .ok (.iconst (-1), 1) := by decide +kernel
theorem dX7_mostDoubted_1 : decode cX7_mostDoubted 1 = .ok (.istore_n 1, 1) := by decide +kernel
theorem dX7_mostDoubted_2 : decode cX7_mostDoubted 2 = .ok (.iconst 0, 1) := by decide +kernel
theorem dX7_mostDoubted_3 : decode cX7_mostDoubted 3 = .ok (.istore_n 2, 1) := by decide +kernel
theorem dX7_mostDoubted_4 : decode cX7_mostDoubted 4 = .ok (.iload_n 2, 1) := by decide +kernel
theorem dX7_mostDoubted_5 : decode cX7_mostDoubted 5 = .ok (.aload_n 0, 1) := by decide +kernel
theorem dX7_mostDoubted_6 : decode cX7_mostDoubted 6 = .ok (.getfield 9, 3) := by decide +kernel
theorem dX7_mostDoubted_9 : decode cX7_mostDoubted 9 = .ok (.iconst 2, 1) := by decide +kernel
theorem dX7_mostDoubted_10 : decode cX7_mostDoubted 10 = .ok (.iaload, 1) := by decide +kernel
theorem dX7_mostDoubted_11 : decode cX7_mostDoubted 11 = .ok (.if_icmp .ge 43, 3) := by decide +kernel
theorem dX7_mostDoubted_14 : decode cX7_mostDoubted 14 = .ok (.aload_n 0, 1) := by decide +kernel
theorem dX7_mostDoubted_15 : decode cX7_mostDoubted 15 = .ok (.iload_n 2, 1) := by decide +kernel
theorem dX7_mostDoubted_16 : decode cX7_mostDoubted 16 = .ok (.iconst 5, 1) := by decide +kernel
theorem dX7_mostDoubted_17 : decode cX7_mostDoubted 17 = .ok (.invokevirtual 65, 3) := by decide +kernel
theorem dX7_mostDoubted_20 : decode cX7_mostDoubted 20 = .ok (.iconst 1, 1) := by decide +kernel
theorem dX7_mostDoubted_21 : decode cX7_mostDoubted 21 = .ok (.if_icmp .ne 25, 3) := by decide +kernel
theorem dX7_mostDoubted_24 : decode cX7_mostDoubted 24 = .ok (.iload_n 1, 1) := by decide +kernel
theorem dX7_mostDoubted_25 : decode cX7_mostDoubted 25 = .ok (.ifCond .lt 17, 3) := by decide +kernel
theorem dX7_mostDoubted_28 : decode cX7_mostDoubted 28 = .ok (.aload_n 0, 1) := by decide +kernel
theorem dX7_mostDoubted_29 : decode cX7_mostDoubted 29 = .ok (.iload_n 2, 1) := by decide +kernel
theorem dX7_mostDoubted_30 : decode cX7_mostDoubted 30 = .ok (.invokevirtual 116, 3) := by decide +kernel
theorem dX7_mostDoubted_33 : decode cX7_mostDoubted 33 = .ok (.aload_n 0, 1) := by decide +kernel
theorem dX7_mostDoubted_34 : decode cX7_mostDoubted 34 = .ok (.iload_n 1, 1) := by decide +kernel
theorem dX7_mostDoubted_35 : decode cX7_mostDoubted 35 = .ok (.invokevirtual 116, 3) := by decide +kernel
theorem dX7_mostDoubted_38 : decode cX7_mostDoubted 38 = .ok (.lcmp, 1) := by decide +kernel
theorem dX7_mostDoubted_39 : decode cX7_mostDoubted 39 = .ok (.ifCond .le 7, 3) := by decide +kernel
theorem dX7_mostDoubted_42 : decode cX7_mostDoubted 42 = .ok (.iload_n 2, 1) := by decide +kernel
theorem dX7_mostDoubted_43 : decode cX7_mostDoubted 43 = .ok (.goto 4, 3) := by decide +kernel
theorem dX7_mostDoubted_46 : decode cX7_mostDoubted 46 = .ok (.iload_n 1, 1) := by decide +kernel
theorem dX7_mostDoubted_47 : decode cX7_mostDoubted 47 = .ok (.istore_n 1, 1) := by decide +kernel
theorem dX7_mostDoubted_48 : decode cX7_mostDoubted 48 = .ok (.iinc 2 1, 3) := by decide +kernel
theorem dX7_mostDoubted_51 : decode cX7_mostDoubted 51 = .ok (.goto (-47), 3) := by decide +kernel
theorem dX7_mostDoubted_54 : decode cX7_mostDoubted 54 = .ok (.iload_n 1, 1) := by decide +kernel
theorem dX7_mostDoubted_55 : decode cX7_mostDoubted 55 = .ok (.ireturn, 1) := by decide +kernel
theorem dX7_allMiss_0 : decode cX7_allMiss 0 = .ok (.lconst 0, 1) := by decide +kernel
theorem dX7_allMiss_1 : decode cX7_allMiss 1 = .ok (.lstore_n 1, 1) := by decide +kernel
theorem dX7_allMiss_2 : decode cX7_allMiss 2 = .ok (.iconst 0, 1) := by decide +kernel
theorem dX7_allMiss_3 : decode cX7_allMiss 3 = .ok (.istore_n 3, 1) := by decide +kernel
theorem dX7_allMiss_4 : decode cX7_allMiss 4 = .ok (.iload_n 3, 1) := by decide +kernel
theorem dX7_allMiss_5 : decode cX7_allMiss 5 = .ok (.aload_n 0, 1) := by decide +kernel
theorem dX7_allMiss_6 : decode cX7_allMiss 6 = .ok (.getfield 9, 3) := by decide +kernel
theorem dX7_allMiss_9 : decode cX7_allMiss 9 = .ok (.iconst 2, 1) := by decide +kernel
theorem dX7_allMiss_10 : decode cX7_allMiss 10 = .ok (.iaload, 1) := by decide +kernel
theorem dX7_allMiss_11 : decode cX7_allMiss 11 = .ok (.if_icmp .ge 44, 3) := by decide +kernel
theorem dX7_allMiss_14 : decode cX7_allMiss 14 = .ok (.lload_n 1, 1) := by decide +kernel
theorem dX7_allMiss_15 : decode cX7_allMiss 15 = .ok (.aload_n 0, 1) := by decide +kernel
theorem dX7_allMiss_16 : decode cX7_allMiss 16 = .ok (.iload_n 3, 1) := by decide +kernel
theorem dX7_allMiss_17 : decode cX7_allMiss 17 = .ok (.iconst 5, 1) := by decide +kernel
theorem dX7_allMiss_18 : decode cX7_allMiss 18 = .ok (.invokevirtual 65, 3) := by decide +kernel
theorem dX7_allMiss_21 : decode cX7_allMiss 21 = .ok (.iconst 1, 1) := by decide +kernel
theorem dX7_allMiss_22 : decode cX7_allMiss 22 = .ok (.if_icmp .ne 24, 3) := by decide +kernel
theorem dX7_allMiss_25 : decode cX7_allMiss 25 = .ok (.aload_n 0, 1) := by decide +kernel
theorem dX7_allMiss_26 : decode cX7_allMiss 26 = .ok (.iload_n 3, 1) := by decide +kernel
theorem dX7_allMiss_27 : decode cX7_allMiss 27 = .ok (.invokevirtual 90, 3) := by decide +kernel
theorem dX7_allMiss_30 : decode cX7_allMiss 30 = .ok (.i2l, 1) := by decide +kernel
theorem dX7_allMiss_31 : decode cX7_allMiss 31 = .ok (.aload_n 0, 1) := by decide +kernel
theorem dX7_allMiss_32 : decode cX7_allMiss 32 = .ok (.iload_n 3, 1) := by decide +kernel
theorem dX7_allMiss_33 : decode cX7_allMiss 33 = .ok (.invokevirtual 112, 3) := by decide +kernel
theorem dX7_allMiss_36 : decode cX7_allMiss 36 = .ok (.lmul, 1) := by decide +kernel
theorem dX7_allMiss_37 : decode cX7_allMiss 37 = .ok (.aload_n 0, 1) := by decide +kernel
theorem dX7_allMiss_38 : decode cX7_allMiss 38 = .ok (.iload_n 3, 1) := by decide +kernel
theorem dX7_allMiss_39 : decode cX7_allMiss 39 = .ok (.invokevirtual 112, 3) := by decide +kernel
theorem dX7_allMiss_42 : decode cX7_allMiss 42 = .ok (.lmul, 1) := by decide +kernel
theorem dX7_allMiss_43 : decode cX7_allMiss 43 = .ok (.goto 4, 3) := by decide +kernel
theorem dX7_allMiss_46 : decode cX7_allMiss 46 = .ok (.lconst 0, 1) := by decide +kernel
theorem dX7_allMiss_47 : decode cX7_allMiss 47 = .ok (.ladd, 1) := by decide +kernel
theorem dX7_allMiss_48 : decode cX7_allMiss 48 = .ok (.lstore_n 1, 1) := by decide +kernel
theorem dX7_allMiss_49 : decode cX7_allMiss 49 = .ok (.iinc 3 1, 3) := by decide +kernel
theorem dX7_allMiss_52 : decode cX7_allMiss 52 = .ok (.goto (-48), 3) := by decide +kernel
theorem dX7_allMiss_55 : decode cX7_allMiss 55 = .ok (.lload_n 1, 1) := by decide +kernel
theorem dX7_allMiss_56 : decode cX7_allMiss 56 = .ok (.lreturn, 1) := by decide +kernel
theorem dX7_inTerms_0 : decode cX7_inTerms 0 = .ok (.lload_n 0, 1) := by decide +kernel
theorem dX7_inTerms_1 : decode cX7_inTerms 1 = .ok (.lconst 0, 1) := by decide +kernel
theorem dX7_inTerms_2 : decode cX7_inTerms 2 = .ok (.lcmp, 1) := by decide +kernel
theorem dX7_inTerms_3 : decode cX7_inTerms 3 = .ok (.ifCond .ge 8, 3) := by decide +kernel
theorem dX7_inTerms_6 : decode cX7_inTerms 6 = .ok (.lload_n 0, 1) := by decide +kernel
theorem dX7_inTerms_7 : decode cX7_inTerms 7 = .ok (.lneg, 1) := by decide +kernel
theorem dX7_inTerms_8 : decode cX7_inTerms 8 = .ok (.goto 4, 3) := by decide +kernel
theorem dX7_inTerms_11 : decode cX7_inTerms 11 = .ok (.lload_n 0, 1) := by decide +kernel
theorem dX7_inTerms_12 : decode cX7_inTerms 12 = .ok (.lstore 5, 2) := by decide +kernel
theorem dX7_inTerms_14 : decode cX7_inTerms 14 = .ok (.lload_n 2, 1) := by decide +kernel
theorem dX7_inTerms_15 : decode cX7_inTerms 15 = .ok (.lstore 7, 2) := by decide +kernel
theorem dX7_inTerms_17 : decode cX7_inTerms 17 = .ok (.lload 7, 2) := by decide +kernel
theorem dX7_inTerms_19 : decode cX7_inTerms 19 = .ok (.lconst 0, 1) := by decide +kernel
theorem dX7_inTerms_20 : decode cX7_inTerms 20 = .ok (.lcmp, 1) := by decide +kernel
theorem dX7_inTerms_21 : decode cX7_inTerms 21 = .ok (.ifCond .eq 21, 3) := by decide +kernel
theorem dX7_inTerms_24 : decode cX7_inTerms 24 = .ok (.lload 5, 2) := by decide +kernel
theorem dX7_inTerms_26 : decode cX7_inTerms 26 = .ok (.lload 7, 2) := by decide +kernel
theorem dX7_inTerms_28 : decode cX7_inTerms 28 = .ok (.lrem, 1) := by decide +kernel
theorem dX7_inTerms_29 : decode cX7_inTerms 29 = .ok (.lstore 9, 2) := by decide +kernel
theorem dX7_inTerms_31 : decode cX7_inTerms 31 = .ok (.lload 7, 2) := by decide +kernel
theorem dX7_inTerms_33 : decode cX7_inTerms 33 = .ok (.lstore 5, 2) := by decide +kernel
theorem dX7_inTerms_35 : decode cX7_inTerms 35 = .ok (.lload 9, 2) := by decide +kernel
theorem dX7_inTerms_37 : decode cX7_inTerms 37 = .ok (.lstore 7, 2) := by decide +kernel
theorem dX7_inTerms_39 : decode cX7_inTerms 39 = .ok (.goto (-22), 3) := by decide +kernel
theorem dX7_inTerms_42 : decode cX7_inTerms 42 = .ok (.iload 4, 2) := by decide +kernel
theorem dX7_inTerms_44 : decode cX7_inTerms 44 = .ok (.ifCond .ne 10, 3) := by decide +kernel
theorem dX7_inTerms_47 : decode cX7_inTerms 47 = .ok (.lload_n 0, 1) := by decide +kernel
theorem dX7_inTerms_48 : decode cX7_inTerms 48 = .ok (.lload 5, 2) := by decide +kernel
theorem dX7_inTerms_50 : decode cX7_inTerms 50 = .ok (.ldiv, 1) := by decide +kernel
theorem dX7_inTerms_51 : decode cX7_inTerms 51 = .ok (.goto 7, 3) := by decide +kernel
theorem dX7_inTerms_54 : decode cX7_inTerms 54 = .ok (.lload_n 2, 1) := by decide +kernel
theorem dX7_inTerms_55 : decode cX7_inTerms 55 = .ok (.lload 5, 2) := by decide +kernel
theorem dX7_inTerms_57 : decode cX7_inTerms 57 = .ok (.ldiv, 1) := by decide +kernel
theorem dX7_inTerms_58 : decode cX7_inTerms 58 = .ok (.lreturn, 1) := by decide +kernel
theorem dX7_isKm_0 : decode cX7_isKm 0 = .ok (.iload_n 0, 1) := by decide +kernel
theorem dX7_isKm_1 : decode cX7_isKm 1 = .ok (.iconst 0, 1) := by decide +kernel
theorem dX7_isKm_2 : decode cX7_isKm 2 = .ok (.bipush 69, 2) := by decide +kernel
theorem dX7_isKm_4 : decode cX7_isKm 4 = .ok (.invokestatic 61, 3) := by decide +kernel
theorem dX7_isKm_7 : decode cX7_isKm 7 = .ok (.ireturn, 1) := by decide +kernel
theorem dX7_mark_0 : decode cX7_mark 0 = .ok (.iload_n 1, 1) := by decide +kernel
theorem dX7_mark_1 : decode cX7_mark 1 = .ok (.invokestatic 119, 3) := by decide +kernel
theorem dX7_mark_4 : decode cX7_mark 4 = .ok (.ifCond .eq 41, 3) := by decide +kernel
theorem dX7_mark_7 : decode cX7_mark 7 = .ok (.iload_n 2, 1) := by decide +kernel
theorem dX7_mark_8 : decode cX7_mark 8 = .ok (.iconst (-1), 1) := by decide +kernel
theorem dX7_mark_9 : decode cX7_mark 9 = .ok (.if_icmp .eq 11, 3) := by decide +kernel
theorem dX7_mark_12 : decode cX7_mark 12 = .ok (.aload_n 0, 1) := by decide +kernel
theorem dX7_mark_13 : decode cX7_mark 13 = .ok (.iload_n 2, 1) := by decide +kernel
theorem dX7_mark_14 : decode cX7_mark 14 = .ok (.invokevirtual 122, 3) := by decide +kernel
theorem dX7_mark_17 : decode cX7_mark 17 = .ok (.ifCond .eq 28, 3) := by decide +kernel
theorem dX7_mark_20 : decode cX7_mark 20 = .ok (.aload_n 0, 1) := by decide +kernel
theorem dX7_mark_21 : decode cX7_mark 21 = .ok (.iload_n 3, 1) := by decide +kernel
theorem dX7_mark_22 : decode cX7_mark 22 = .ok (.invokevirtual 122, 3) := by decide +kernel
theorem dX7_mark_25 : decode cX7_mark 25 = .ok (.ifCond .eq 20, 3) := by decide +kernel
theorem dX7_mark_28 : decode cX7_mark 28 = .ok (.iload_n 2, 1) := by decide +kernel
theorem dX7_mark_29 : decode cX7_mark 29 = .ok (.iload_n 3, 1) := by decide +kernel
theorem dX7_mark_30 : decode cX7_mark 30 = .ok (.if_icmp .eq 15, 3) := by decide +kernel
theorem dX7_mark_33 : decode cX7_mark 33 = .ok (.iload 4, 2) := by decide +kernel
theorem dX7_mark_35 : decode cX7_mark 35 = .ok (.bipush (-20), 2) := by decide +kernel
theorem dX7_mark_37 : decode cX7_mark 37 = .ok (.bipush 20, 2) := by decide +kernel
theorem dX7_mark_39 : decode cX7_mark 39 = .ok (.invokestatic 61, 3) := by decide +kernel
theorem dX7_mark_42 : decode cX7_mark 42 = .ok (.ifCond .ne 10, 3) := by decide +kernel
theorem dX7_mark_45 : decode cX7_mark 45 = .ok (.aload_n 0, 1) := by decide +kernel
theorem dX7_mark_46 : decode cX7_mark 46 = .ok (.ldc 125, 2) := by decide +kernel
theorem dX7_mark_48 : decode cX7_mark 48 = .ok (.invokevirtual 126, 3) := by decide +kernel
theorem dX7_mark_51 : decode cX7_mark 51 = .ok (.ireturn, 1) := by decide +kernel
theorem dX7_mark_52 : decode cX7_mark 52 = .ok (.aload_n 0, 1) := by decide +kernel
theorem dX7_mark_53 : decode cX7_mark 53 = .ok (.getfield 9, 3) := by decide +kernel
theorem dX7_mark_56 : decode cX7_mark 56 = .ok (.iconst 2, 1) := by decide +kernel
theorem dX7_mark_57 : decode cX7_mark 57 = .ok (.iaload, 1) := by decide +kernel
theorem dX7_mark_58 : decode cX7_mark 58 = .ok (.istore 5, 2) := by decide +kernel
theorem dX7_mark_60 : decode cX7_mark 60 = .ok (.iload 5, 2) := by decide +kernel
theorem dX7_mark_62 : decode cX7_mark 62 = .ok (.bipush 8, 2) := by decide +kernel
theorem dX7_mark_64 : decode cX7_mark 64 = .ok (.if_icmp .ne 10, 3) := by decide +kernel
theorem dX7_mark_67 : decode cX7_mark 67 = .ok (.aload_n 0, 1) := by decide +kernel
theorem dX7_mark_68 : decode cX7_mark 68 = .ok (.ldc 129, 2) := by decide +kernel
theorem dX7_mark_70 : decode cX7_mark 70 = .ok (.invokevirtual 126, 3) := by decide +kernel
theorem dX7_mark_73 : decode cX7_mark 73 = .ok (.ireturn, 1) := by decide +kernel
theorem dX7_mark_74 : decode cX7_mark 74 = .ok (.aload_n 0, 1) := by decide +kernel
theorem dX7_mark_75 : decode cX7_mark 75 = .ok (.getfield 9, 3) := by decide +kernel
theorem dX7_mark_78 : decode cX7_mark 78 = .ok (.iconst 2, 1) := by decide +kernel
theorem dX7_mark_79 : decode cX7_mark 79 = .ok (.dup2, 1) := by decide +kernel
theorem dX7_mark_80 : decode cX7_mark 80 = .ok (.iaload, 1) := by decide +kernel
theorem dX7_mark_81 : decode cX7_mark 81 = .ok (.iconst 1, 1) := by decide +kernel
theorem dX7_mark_82 : decode cX7_mark 82 = .ok (.iadd, 1) := by decide +kernel
theorem dX7_mark_83 : decode cX7_mark 83 = .ok (.iastore, 1) := by decide +kernel
theorem dX7_mark_84 : decode cX7_mark 84 = .ok (.aload_n 0, 1) := by decide +kernel
theorem dX7_mark_85 : decode cX7_mark 85 = .ok (.iload 5, 2) := by decide +kernel
theorem dX7_mark_87 : decode cX7_mark 87 = .ok (.iconst 0, 1) := by decide +kernel
theorem dX7_mark_88 : decode cX7_mark 88 = .ok (.iload_n 1, 1) := by decide +kernel
theorem dX7_mark_89 : decode cX7_mark 89 = .ok (.bipush 10, 2) := by decide +kernel
theorem dX7_mark_91 : decode cX7_mark 91 = .ok (.idiv, 1) := by decide +kernel
theorem dX7_mark_92 : decode cX7_mark 92 = .ok (.invokevirtual 130, 3) := by decide +kernel
theorem dX7_mark_95 : decode cX7_mark 95 = .ok (.aload_n 0, 1) := by decide +kernel
theorem dX7_mark_96 : decode cX7_mark 96 = .ok (.iload 5, 2) := by decide +kernel
theorem dX7_mark_98 : decode cX7_mark 98 = .ok (.iconst 1, 1) := by decide +kernel
theorem dX7_mark_99 : decode cX7_mark 99 = .ok (.iload_n 1, 1) := by decide +kernel
theorem dX7_mark_100 : decode cX7_mark 100 = .ok (.bipush 10, 2) := by decide +kernel
theorem dX7_mark_102 : decode cX7_mark 102 = .ok (.irem, 1) := by decide +kernel
theorem dX7_mark_103 : decode cX7_mark 103 = .ok (.invokevirtual 130, 3) := by decide +kernel
theorem dX7_mark_106 : decode cX7_mark 106 = .ok (.aload_n 0, 1) := by decide +kernel
theorem dX7_mark_107 : decode cX7_mark 107 = .ok (.iload 5, 2) := by decide +kernel
theorem dX7_mark_109 : decode cX7_mark 109 = .ok (.iconst 2, 1) := by decide +kernel
theorem dX7_mark_110 : decode cX7_mark 110 = .ok (.iload_n 2, 1) := by decide +kernel
theorem dX7_mark_111 : decode cX7_mark 111 = .ok (.invokevirtual 130, 3) := by decide +kernel
theorem dX7_mark_114 : decode cX7_mark 114 = .ok (.aload_n 0, 1) := by decide +kernel
theorem dX7_mark_115 : decode cX7_mark 115 = .ok (.iload 5, 2) := by decide +kernel
theorem dX7_mark_117 : decode cX7_mark 117 = .ok (.iconst 3, 1) := by decide +kernel
theorem dX7_mark_118 : decode cX7_mark 118 = .ok (.iload_n 3, 1) := by decide +kernel
theorem dX7_mark_119 : decode cX7_mark 119 = .ok (.invokevirtual 130, 3) := by decide +kernel
theorem dX7_mark_122 : decode cX7_mark 122 = .ok (.aload_n 0, 1) := by decide +kernel
theorem dX7_mark_123 : decode cX7_mark 123 = .ok (.iload 5, 2) := by decide +kernel
theorem dX7_mark_125 : decode cX7_mark 125 = .ok (.iconst 4, 1) := by decide +kernel
theorem dX7_mark_126 : decode cX7_mark 126 = .ok (.iload 4, 2) := by decide +kernel
theorem dX7_mark_128 : decode cX7_mark 128 = .ok (.invokevirtual 130, 3) := by decide +kernel
theorem dX7_mark_131 : decode cX7_mark 131 = .ok (.aload_n 0, 1) := by decide +kernel
theorem dX7_mark_132 : decode cX7_mark 132 = .ok (.iload 5, 2) := by decide +kernel
theorem dX7_mark_134 : decode cX7_mark 134 = .ok (.iconst 5, 1) := by decide +kernel
theorem dX7_mark_135 : decode cX7_mark 135 = .ok (.iconst 1, 1) := by decide +kernel
theorem dX7_mark_136 : decode cX7_mark 136 = .ok (.invokevirtual 130, 3) := by decide +kernel
theorem dX7_mark_139 : decode cX7_mark 139 = .ok (.iload 5, 2) := by decide +kernel
theorem dX7_mark_141 : decode cX7_mark 141 = .ok (.ireturn, 1) := by decide +kernel
theorem dX7_markIs_0 : decode cX7_markIs 0 = .ok (.aload_n 0, 1) := by decide +kernel
theorem dX7_markIs_1 : decode cX7_markIs 1 = .ok (.iload_n 1, 1) := by decide +kernel
theorem dX7_markIs_2 : decode cX7_markIs 2 = .ok (.invokevirtual 134, 3) := by decide +kernel
theorem dX7_markIs_5 : decode cX7_markIs 5 = .ok (.ifCond .eq 13, 3) := by decide +kernel
theorem dX7_markIs_8 : decode cX7_markIs 8 = .ok (.iload_n 2, 1) := by decide +kernel
theorem dX7_markIs_9 : decode cX7_markIs 9 = .ok (.iconst 0, 1) := by decide +kernel
theorem dX7_markIs_10 : decode cX7_markIs 10 = .ok (.bipush 7, 2) := by decide +kernel
theorem dX7_markIs_12 : decode cX7_markIs 12 = .ok (.invokestatic 61, 3) := by decide +kernel
theorem dX7_markIs_15 : decode cX7_markIs 15 = .ok (.ifCond .ne 10, 3) := by decide +kernel
theorem dX7_markIs_18 : decode cX7_markIs 18 = .ok (.aload_n 0, 1) := by decide +kernel
theorem dX7_markIs_19 : decode cX7_markIs 19 = .ok (.ldc 125, 2) := by decide +kernel
theorem dX7_markIs_21 : decode cX7_markIs 21 = .ok (.invokevirtual 126, 3) := by decide +kernel
theorem dX7_markIs_24 : decode cX7_markIs 24 = .ok (.ireturn, 1) := by decide +kernel
theorem dX7_markIs_25 : decode cX7_markIs 25 = .ok (.iload_n 2, 1) := by decide +kernel
theorem dX7_markIs_26 : decode cX7_markIs 26 = .ok (.bipush 6, 2) := by decide +kernel
theorem dX7_markIs_28 : decode cX7_markIs 28 = .ok (.if_icmp .ge 12, 3) := by decide +kernel
theorem dX7_markIs_31 : decode cX7_markIs 31 = .ok (.aload_n 0, 1) := by decide +kernel
theorem dX7_markIs_32 : decode cX7_markIs 32 = .ok (.iload_n 1, 1) := by decide +kernel
theorem dX7_markIs_33 : decode cX7_markIs 33 = .ok (.iload_n 2, 1) := by decide +kernel
theorem dX7_markIs_34 : decode cX7_markIs 34 = .ok (.invokevirtual 65, 3) := by decide +kernel
theorem dX7_markIs_37 : decode cX7_markIs 37 = .ok (.goto 22, 3) := by decide +kernel
theorem dX7_markIs_40 : decode cX7_markIs 40 = .ok (.iload_n 2, 1) := by decide +kernel
theorem dX7_markIs_41 : decode cX7_markIs 41 = .ok (.bipush 6, 2) := by decide +kernel
theorem dX7_markIs_43 : decode cX7_markIs 43 = .ok (.if_icmp .ne 11, 3) := by decide +kernel
theorem dX7_markIs_46 : decode cX7_markIs 46 = .ok (.aload_n 0, 1) := by decide +kernel
theorem dX7_markIs_47 : decode cX7_markIs 47 = .ok (.iload_n 1, 1) := by decide +kernel
theorem dX7_markIs_48 : decode cX7_markIs 48 = .ok (.invokevirtual 90, 3) := by decide +kernel
theorem dX7_markIs_51 : decode cX7_markIs 51 = .ok (.goto 8, 3) := by decide +kernel
theorem dX7_markIs_54 : decode cX7_markIs 54 = .ok (.aload_n 0, 1) := by decide +kernel
theorem dX7_markIs_55 : decode cX7_markIs 55 = .ok (.iload_n 1, 1) := by decide +kernel
theorem dX7_markIs_56 : decode cX7_markIs 56 = .ok (.invokevirtual 93, 3) := by decide +kernel
theorem dX7_markIs_59 : decode cX7_markIs 59 = .ok (.ireturn, 1) := by decide +kernel
theorem dX7_become_0 : decode cX7_become 0 = .ok (.aload_n 0, 1) := by decide +kernel
theorem dX7_become_1 : decode cX7_become 1 = .ok (.iload_n 1, 1) := by decide +kernel
theorem dX7_become_2 : decode cX7_become 2 = .ok (.invokevirtual 134, 3) := by decide +kernel
theorem dX7_become_5 : decode cX7_become 5 = .ok (.ifCond .eq 10, 3) := by decide +kernel
theorem dX7_become_8 : decode cX7_become 8 = .ok (.iload_n 2, 1) := by decide +kernel
theorem dX7_become_9 : decode cX7_become 9 = .ok (.invokestatic 119, 3) := by decide +kernel
theorem dX7_become_12 : decode cX7_become 12 = .ok (.ifCond .ne 10, 3) := by decide +kernel
theorem dX7_become_15 : decode cX7_become 15 = .ok (.aload_n 0, 1) := by decide +kernel
theorem dX7_become_16 : decode cX7_become 16 = .ok (.ldc 125, 2) := by decide +kernel
theorem dX7_become_18 : decode cX7_become 18 = .ok (.invokevirtual 126, 3) := by decide +kernel
theorem dX7_become_21 : decode cX7_become 21 = .ok (.ireturn, 1) := by decide +kernel
theorem dX7_become_22 : decode cX7_become 22 = .ok (.aload_n 0, 1) := by decide +kernel
theorem dX7_become_23 : decode cX7_become 23 = .ok (.iload_n 1, 1) := by decide +kernel
theorem dX7_become_24 : decode cX7_become 24 = .ok (.iconst 1, 1) := by decide +kernel
theorem dX7_become_25 : decode cX7_become 25 = .ok (.iload_n 2, 1) := by decide +kernel
theorem dX7_become_26 : decode cX7_become 26 = .ok (.bipush 10, 2) := by decide +kernel
theorem dX7_become_28 : decode cX7_become 28 = .ok (.irem, 1) := by decide +kernel
theorem dX7_become_29 : decode cX7_become 29 = .ok (.invokevirtual 130, 3) := by decide +kernel
theorem dX7_become_32 : decode cX7_become 32 = .ok (.aload_n 0, 1) := by decide +kernel
theorem dX7_become_33 : decode cX7_become 33 = .ok (.bipush 8, 2) := by decide +kernel
theorem dX7_become_35 : decode cX7_become 35 = .ok (.bipush 6, 2) := by decide +kernel
theorem dX7_become_37 : decode cX7_become 37 = .ok (.iload_n 1, 1) := by decide +kernel
theorem dX7_become_38 : decode cX7_become 38 = .ok (.imul, 1) := by decide +kernel
theorem dX7_become_39 : decode cX7_become 39 = .ok (.iadd, 1) := by decide +kernel
theorem dX7_become_40 : decode cX7_become 40 = .ok (.iload_n 2, 1) := by decide +kernel
theorem dX7_become_41 : decode cX7_become 41 = .ok (.bipush 10, 2) := by decide +kernel
theorem dX7_become_43 : decode cX7_become 43 = .ok (.idiv, 1) := by decide +kernel
theorem dX7_become_44 : decode cX7_become 44 = .ok (.invokevirtual 137, 3) := by decide +kernel
theorem dX7_become_47 : decode cX7_become 47 = .ok (.ireturn, 1) := by decide +kernel
theorem dX7_as_0 : decode cX7_as 0 = .ok (.aload_n 0, 1) := by decide +kernel
theorem dX7_as_1 : decode cX7_as 1 = .ok (.iload_n 1, 1) := by decide +kernel
theorem dX7_as_2 : decode cX7_as 2 = .ok (.invokevirtual 134, 3) := by decide +kernel
theorem dX7_as_5 : decode cX7_as 5 = .ok (.ifCond .eq 13, 3) := by decide +kernel
theorem dX7_as_8 : decode cX7_as 8 = .ok (.iload_n 2, 1) := by decide +kernel
theorem dX7_as_9 : decode cX7_as 9 = .ok (.iconst 0, 1) := by decide +kernel
theorem dX7_as_10 : decode cX7_as 10 = .ok (.bipush 6, 2) := by decide +kernel
theorem dX7_as_12 : decode cX7_as 12 = .ok (.invokestatic 61, 3) := by decide +kernel
theorem dX7_as_15 : decode cX7_as 15 = .ok (.ifCond .ne 10, 3) := by decide +kernel
theorem dX7_as_18 : decode cX7_as 18 = .ok (.aload_n 0, 1) := by decide +kernel
theorem dX7_as_19 : decode cX7_as 19 = .ok (.ldc 125, 2) := by decide +kernel
theorem dX7_as_21 : decode cX7_as 21 = .ok (.invokevirtual 126, 3) := by decide +kernel
theorem dX7_as_24 : decode cX7_as 24 = .ok (.ireturn, 1) := by decide +kernel
theorem dX7_as_25 : decode cX7_as 25 = .ok (.aload_n 0, 1) := by decide +kernel
theorem dX7_as_26 : decode cX7_as 26 = .ok (.iload_n 1, 1) := by decide +kernel
theorem dX7_as_27 : decode cX7_as 27 = .ok (.iconst 0, 1) := by decide +kernel
theorem dX7_as_28 : decode cX7_as 28 = .ok (.invokevirtual 65, 3) := by decide +kernel
theorem dX7_as_31 : decode cX7_as 31 = .ok (.istore_n 3, 1) := by decide +kernel
theorem dX7_as_32 : decode cX7_as 32 = .ok (.iload_n 2, 1) := by decide +kernel
theorem dX7_as_33 : decode cX7_as 33 = .ok (.ifCond .eq 28, 3) := by decide +kernel
theorem dX7_as_36 : decode cX7_as 36 = .ok (.iload_n 2, 1) := by decide +kernel
theorem dX7_as_37 : decode cX7_as 37 = .ok (.iload_n 3, 1) := by decide +kernel
theorem dX7_as_38 : decode cX7_as 38 = .ok (.if_icmp .eq 23, 3) := by decide +kernel
theorem dX7_as_41 : decode cX7_as 41 = .ok (.iload_n 2, 1) := by decide +kernel
theorem dX7_as_42 : decode cX7_as 42 = .ok (.iconst 1, 1) := by decide +kernel
theorem dX7_as_43 : decode cX7_as 43 = .ok (.if_icmp .ne 8, 3) := by decide +kernel
theorem dX7_as_46 : decode cX7_as 46 = .ok (.iload_n 3, 1) := by decide +kernel
theorem dX7_as_47 : decode cX7_as 47 = .ok (.iconst 4, 1) := by decide +kernel
theorem dX7_as_48 : decode cX7_as 48 = .ok (.if_icmp .eq 13, 3) := by decide +kernel
theorem dX7_as_51 : decode cX7_as 51 = .ok (.iload_n 2, 1) := by decide +kernel
theorem dX7_as_52 : decode cX7_as 52 = .ok (.iconst 2, 1) := by decide +kernel
theorem dX7_as_53 : decode cX7_as 53 = .ok (.if_icmp .ne 12, 3) := by decide +kernel
theorem dX7_as_56 : decode cX7_as 56 = .ok (.iload_n 3, 1) := by decide +kernel
theorem dX7_as_57 : decode cX7_as 57 = .ok (.iconst 5, 1) := by decide +kernel
theorem dX7_as_58 : decode cX7_as 58 = .ok (.if_icmp .ne 7, 3) := by decide +kernel
theorem dX7_as_61 : decode cX7_as 61 = .ok (.iconst 1, 1) := by decide +kernel
theorem dX7_as_62 : decode cX7_as 62 = .ok (.goto 4, 3) := by decide +kernel
theorem dX7_as_65 : decode cX7_as 65 = .ok (.iconst 0, 1) := by decide +kernel
theorem dX7_as_66 : decode cX7_as 66 = .ok (.istore 4, 2) := by decide +kernel
theorem dX7_as_68 : decode cX7_as 68 = .ok (.iload 4, 2) := by decide +kernel
theorem dX7_as_70 : decode cX7_as 70 = .ok (.ifCond .eq 12, 3) := by decide +kernel
theorem dX7_as_73 : decode cX7_as 73 = .ok (.aload_n 0, 1) := by decide +kernel
theorem dX7_as_74 : decode cX7_as 74 = .ok (.iload_n 1, 1) := by decide +kernel
theorem dX7_as_75 : decode cX7_as 75 = .ok (.iconst 1, 1) := by decide +kernel
theorem dX7_as_76 : decode cX7_as 76 = .ok (.invokevirtual 65, 3) := by decide +kernel
theorem dX7_as_79 : decode cX7_as 79 = .ok (.goto 9, 3) := by decide +kernel
theorem dX7_as_82 : decode cX7_as 82 = .ok (.aload_n 0, 1) := by decide +kernel
theorem dX7_as_83 : decode cX7_as 83 = .ok (.ldc 140, 2) := by decide +kernel
theorem dX7_as_85 : decode cX7_as 85 = .ok (.invokevirtual 126, 3) := by decide +kernel
theorem dX7_as_88 : decode cX7_as 88 = .ok (.ireturn, 1) := by decide +kernel
theorem dX7_measure_0 : decode cX7_measure 0 = .ok (.aload_n 0, 1) := by decide +kernel
theorem dX7_measure_1 : decode cX7_measure 1 = .ok (.iload_n 1, 1) := by decide +kernel
theorem dX7_measure_2 : decode cX7_measure 2 = .ok (.invokevirtual 134, 3) := by decide +kernel
theorem dX7_measure_5 : decode cX7_measure 5 = .ok (.ifCond .eq 31, 3) := by decide +kernel
theorem dX7_measure_8 : decode cX7_measure 8 = .ok (.iload_n 2, 1) := by decide +kernel
theorem dX7_measure_9 : decode cX7_measure 9 = .ok (.bipush (-20), 2) := by decide +kernel
theorem dX7_measure_11 : decode cX7_measure 11 = .ok (.bipush 20, 2) := by decide +kernel
theorem dX7_measure_13 : decode cX7_measure 13 = .ok (.invokestatic 61, 3) := by decide +kernel
theorem dX7_measure_16 : decode cX7_measure 16 = .ok (.ifCond .eq 20, 3) := by decide +kernel
theorem dX7_measure_19 : decode cX7_measure 19 = .ok (.aload_n 0, 1) := by decide +kernel
theorem dX7_measure_20 : decode cX7_measure 20 = .ok (.bipush 8, 2) := by decide +kernel
theorem dX7_measure_22 : decode cX7_measure 22 = .ok (.bipush 6, 2) := by decide +kernel
theorem dX7_measure_24 : decode cX7_measure 24 = .ok (.iload_n 1, 1) := by decide +kernel
theorem dX7_measure_25 : decode cX7_measure 25 = .ok (.imul, 1) := by decide +kernel
theorem dX7_measure_26 : decode cX7_measure 26 = .ok (.iadd, 1) := by decide +kernel
theorem dX7_measure_27 : decode cX7_measure 27 = .ok (.iconst 4, 1) := by decide +kernel
theorem dX7_measure_28 : decode cX7_measure 28 = .ok (.iadd, 1) := by decide +kernel
theorem dX7_measure_29 : decode cX7_measure 29 = .ok (.iload_n 2, 1) := by decide +kernel
theorem dX7_measure_30 : decode cX7_measure 30 = .ok (.invokevirtual 137, 3) := by decide +kernel
theorem dX7_measure_33 : decode cX7_measure 33 = .ok (.goto 9, 3) := by decide +kernel
theorem dX7_measure_36 : decode cX7_measure 36 = .ok (.aload_n 0, 1) := by decide +kernel
theorem dX7_measure_37 : decode cX7_measure 37 = .ok (.ldc 125, 2) := by decide +kernel
theorem dX7_measure_39 : decode cX7_measure 39 = .ok (.invokevirtual 126, 3) := by decide +kernel
theorem dX7_measure_42 : decode cX7_measure 42 = .ok (.ireturn, 1) := by decide +kernel
theorem dX7_on_0 : decode cX7_on 0 = .ok (.aload_n 0, 1) := by decide +kernel
theorem dX7_on_1 : decode cX7_on 1 = .ok (.iload_n 1, 1) := by decide +kernel
theorem dX7_on_2 : decode cX7_on 2 = .ok (.invokevirtual 134, 3) := by decide +kernel
theorem dX7_on_5 : decode cX7_on 5 = .ok (.ifCond .eq 29, 3) := by decide +kernel
theorem dX7_on_8 : decode cX7_on 8 = .ok (.iload_n 2, 1) := by decide +kernel
theorem dX7_on_9 : decode cX7_on 9 = .ok (.iconst 0, 1) := by decide +kernel
theorem dX7_on_10 : decode cX7_on 10 = .ok (.iconst 1, 1) := by decide +kernel
theorem dX7_on_11 : decode cX7_on 11 = .ok (.invokestatic 61, 3) := by decide +kernel
theorem dX7_on_14 : decode cX7_on 14 = .ok (.ifCond .eq 20, 3) := by decide +kernel
theorem dX7_on_17 : decode cX7_on 17 = .ok (.aload_n 0, 1) := by decide +kernel
theorem dX7_on_18 : decode cX7_on 18 = .ok (.bipush 8, 2) := by decide +kernel
theorem dX7_on_20 : decode cX7_on 20 = .ok (.bipush 6, 2) := by decide +kernel
theorem dX7_on_22 : decode cX7_on 22 = .ok (.iload_n 1, 1) := by decide +kernel
theorem dX7_on_23 : decode cX7_on 23 = .ok (.imul, 1) := by decide +kernel
theorem dX7_on_24 : decode cX7_on 24 = .ok (.iadd, 1) := by decide +kernel
theorem dX7_on_25 : decode cX7_on 25 = .ok (.iconst 5, 1) := by decide +kernel
theorem dX7_on_26 : decode cX7_on 26 = .ok (.iadd, 1) := by decide +kernel
theorem dX7_on_27 : decode cX7_on 27 = .ok (.iload_n 2, 1) := by decide +kernel
theorem dX7_on_28 : decode cX7_on 28 = .ok (.invokevirtual 137, 3) := by decide +kernel
theorem dX7_on_31 : decode cX7_on 31 = .ok (.goto 9, 3) := by decide +kernel
theorem dX7_on_34 : decode cX7_on 34 = .ok (.aload_n 0, 1) := by decide +kernel
theorem dX7_on_35 : decode cX7_on 35 = .ok (.ldc 125, 2) := by decide +kernel
theorem dX7_on_37 : decode cX7_on 37 = .ok (.invokevirtual 126, 3) := by decide +kernel
theorem dX7_on_40 : decode cX7_on 40 = .ok (.ireturn, 1) := by decide +kernel
theorem dX7_pictures_0 : decode cX7_pictures 0 = .ok (.iload_n 1, 1) := by decide +kernel
theorem dX7_pictures_1 : decode cX7_pictures 1 = .ok (.iconst 1, 1) := by decide +kernel
theorem dX7_pictures_2 : decode cX7_pictures 2 = .ok (.iconst 4, 1) := by decide +kernel
theorem dX7_pictures_3 : decode cX7_pictures 3 = .ok (.invokestatic 61, 3) := by decide +kernel
theorem dX7_pictures_6 : decode cX7_pictures 6 = .ok (.ifCond .ne 10, 3) := by decide +kernel
theorem dX7_pictures_9 : decode cX7_pictures 9 = .ok (.aload_n 0, 1) := by decide +kernel
theorem dX7_pictures_10 : decode cX7_pictures 10 = .ok (.ldc 125, 2) := by decide +kernel
theorem dX7_pictures_12 : decode cX7_pictures 12 = .ok (.invokevirtual 126, 3) := by decide +kernel
theorem dX7_pictures_15 : decode cX7_pictures 15 = .ok (.ireturn, 1) := by decide +kernel
theorem dX7_pictures_16 : decode cX7_pictures 16 = .ok (.iconst 1, 1) := by decide +kernel
theorem dX7_pictures_17 : decode cX7_pictures 17 = .ok (.istore_n 2, 1) := by decide +kernel
theorem dX7_pictures_18 : decode cX7_pictures 18 = .ok (.iconst 0, 1) := by decide +kernel
theorem dX7_pictures_19 : decode cX7_pictures 19 = .ok (.istore_n 3, 1) := by decide +kernel
theorem dX7_pictures_20 : decode cX7_pictures 20 = .ok (.iload_n 3, 1) := by decide +kernel
theorem dX7_pictures_21 : decode cX7_pictures 21 = .ok (.aload_n 0, 1) := by decide +kernel
theorem dX7_pictures_22 : decode cX7_pictures 22 = .ok (.getfield 9, 3) := by decide +kernel
theorem dX7_pictures_25 : decode cX7_pictures 25 = .ok (.iconst 2, 1) := by decide +kernel
theorem dX7_pictures_26 : decode cX7_pictures 26 = .ok (.iaload, 1) := by decide +kernel
theorem dX7_pictures_27 : decode cX7_pictures 27 = .ok (.if_icmp .ge 39, 3) := by decide +kernel
theorem dX7_pictures_30 : decode cX7_pictures 30 = .ok (.iload_n 2, 1) := by decide +kernel
theorem dX7_pictures_31 : decode cX7_pictures 31 = .ok (.ifCond .eq 27, 3) := by decide +kernel
theorem dX7_pictures_34 : decode cX7_pictures 34 = .ok (.aload_n 0, 1) := by decide +kernel
theorem dX7_pictures_35 : decode cX7_pictures 35 = .ok (.iload_n 3, 1) := by decide +kernel
theorem dX7_pictures_36 : decode cX7_pictures 36 = .ok (.iconst 2, 1) := by decide +kernel
theorem dX7_pictures_37 : decode cX7_pictures 37 = .ok (.invokevirtual 65, 3) := by decide +kernel
theorem dX7_pictures_40 : decode cX7_pictures 40 = .ok (.iload_n 1, 1) := by decide +kernel
theorem dX7_pictures_41 : decode cX7_pictures 41 = .ok (.if_icmp .ge 17, 3) := by decide +kernel
theorem dX7_pictures_44 : decode cX7_pictures 44 = .ok (.aload_n 0, 1) := by decide +kernel
theorem dX7_pictures_45 : decode cX7_pictures 45 = .ok (.iload_n 3, 1) := by decide +kernel
theorem dX7_pictures_46 : decode cX7_pictures 46 = .ok (.iconst 3, 1) := by decide +kernel
theorem dX7_pictures_47 : decode cX7_pictures 47 = .ok (.invokevirtual 65, 3) := by decide +kernel
theorem dX7_pictures_50 : decode cX7_pictures 50 = .ok (.iload_n 1, 1) := by decide +kernel
theorem dX7_pictures_51 : decode cX7_pictures 51 = .ok (.if_icmp .ge 7, 3) := by decide +kernel
theorem dX7_pictures_54 : decode cX7_pictures 54 = .ok (.iconst 1, 1) := by decide +kernel
theorem dX7_pictures_55 : decode cX7_pictures 55 = .ok (.goto 4, 3) := by decide +kernel
theorem dX7_pictures_58 : decode cX7_pictures 58 = .ok (.iconst 0, 1) := by decide +kernel
theorem dX7_pictures_59 : decode cX7_pictures 59 = .ok (.istore_n 2, 1) := by decide +kernel
theorem dX7_pictures_60 : decode cX7_pictures 60 = .ok (.iinc 3 1, 3) := by decide +kernel
theorem dX7_pictures_63 : decode cX7_pictures 63 = .ok (.goto (-43), 3) := by decide +kernel
theorem dX7_pictures_66 : decode cX7_pictures 66 = .ok (.iload_n 2, 1) := by decide +kernel
theorem dX7_pictures_67 : decode cX7_pictures 67 = .ok (.ifCond .eq 12, 3) := by decide +kernel
theorem dX7_pictures_70 : decode cX7_pictures 70 = .ok (.aload_n 0, 1) := by decide +kernel
theorem dX7_pictures_71 : decode cX7_pictures 71 = .ok (.iconst 3, 1) := by decide +kernel
theorem dX7_pictures_72 : decode cX7_pictures 72 = .ok (.iload_n 1, 1) := by decide +kernel
theorem dX7_pictures_73 : decode cX7_pictures 73 = .ok (.invokevirtual 137, 3) := by decide +kernel
theorem dX7_pictures_76 : decode cX7_pictures 76 = .ok (.goto 9, 3) := by decide +kernel
theorem dX7_pictures_79 : decode cX7_pictures 79 = .ok (.aload_n 0, 1) := by decide +kernel
theorem dX7_pictures_80 : decode cX7_pictures 80 = .ok (.ldc 141, 2) := by decide +kernel
theorem dX7_pictures_82 : decode cX7_pictures 82 = .ok (.invokevirtual 126, 3) := by decide +kernel
theorem dX7_pictures_85 : decode cX7_pictures 85 = .ok (.ireturn, 1) := by decide +kernel
theorem dX7_limit_0 : decode cX7_limit 0 = .ok (.iload_n 1, 1) := by decide +kernel
theorem dX7_limit_1 : decode cX7_limit 1 = .ok (.iconst 0, 1) := by decide +kernel
theorem dX7_limit_2 : decode cX7_limit 2 = .ok (.bipush 99, 2) := by decide +kernel
theorem dX7_limit_4 : decode cX7_limit 4 = .ok (.invokestatic 61, 3) := by decide +kernel
theorem dX7_limit_7 : decode cX7_limit 7 = .ok (.ifCond .eq 12, 3) := by decide +kernel
theorem dX7_limit_10 : decode cX7_limit 10 = .ok (.aload_n 0, 1) := by decide +kernel
theorem dX7_limit_11 : decode cX7_limit 11 = .ok (.iconst 4, 1) := by decide +kernel
theorem dX7_limit_12 : decode cX7_limit 12 = .ok (.iload_n 1, 1) := by decide +kernel
theorem dX7_limit_13 : decode cX7_limit 13 = .ok (.invokevirtual 137, 3) := by decide +kernel
theorem dX7_limit_16 : decode cX7_limit 16 = .ok (.goto 9, 3) := by decide +kernel
theorem dX7_limit_19 : decode cX7_limit 19 = .ok (.aload_n 0, 1) := by decide +kernel
theorem dX7_limit_20 : decode cX7_limit 20 = .ok (.ldc 125, 2) := by decide +kernel
theorem dX7_limit_22 : decode cX7_limit 22 = .ok (.invokevirtual 126, 3) := by decide +kernel
theorem dX7_limit_25 : decode cX7_limit 25 = .ok (.ireturn, 1) := by decide +kernel
theorem dX7_feed_0 : decode cX7_feed 0 = .ok (.iload_n 3, 1) := by decide +kernel
theorem dX7_feed_1 : decode cX7_feed 1 = .ok (.iconst 1, 1) := by decide +kernel
theorem dX7_feed_2 : decode cX7_feed 2 = .ok (.bipush 8, 2) := by decide +kernel
theorem dX7_feed_4 : decode cX7_feed 4 = .ok (.invokestatic 61, 3) := by decide +kernel
theorem dX7_feed_7 : decode cX7_feed 7 = .ok (.ifCond .ne 10, 3) := by decide +kernel
theorem dX7_feed_10 : decode cX7_feed 10 = .ok (.aload_n 0, 1) := by decide +kernel
theorem dX7_feed_11 : decode cX7_feed 11 = .ok (.ldc 125, 2) := by decide +kernel
theorem dX7_feed_13 : decode cX7_feed 13 = .ok (.invokevirtual 126, 3) := by decide +kernel
theorem dX7_feed_16 : decode cX7_feed 16 = .ok (.ireturn, 1) := by decide +kernel
theorem dX7_feed_17 : decode cX7_feed 17 = .ok (.aload_n 0, 1) := by decide +kernel
theorem dX7_feed_18 : decode cX7_feed 18 = .ok (.getfield 9, 3) := by decide +kernel
theorem dX7_feed_21 : decode cX7_feed 21 = .ok (.bipush 6, 2) := by decide +kernel
theorem dX7_feed_23 : decode cX7_feed 23 = .ok (.iaload, 1) := by decide +kernel
theorem dX7_feed_24 : decode cX7_feed 24 = .ok (.iload_n 3, 1) := by decide +kernel
theorem dX7_feed_25 : decode cX7_feed 25 = .ok (.iadd, 1) := by decide +kernel
theorem dX7_feed_26 : decode cX7_feed 26 = .ok (.bipush 60, 2) := by decide +kernel
theorem dX7_feed_28 : decode cX7_feed 28 = .ok (.if_icmp .le 10, 3) := by decide +kernel
theorem dX7_feed_31 : decode cX7_feed 31 = .ok (.aload_n 0, 1) := by decide +kernel
theorem dX7_feed_32 : decode cX7_feed 32 = .ok (.ldc 129, 2) := by decide +kernel
theorem dX7_feed_34 : decode cX7_feed 34 = .ok (.invokevirtual 126, 3) := by decide +kernel
theorem dX7_feed_37 : decode cX7_feed 37 = .ok (.ireturn, 1) := by decide +kernel
theorem dX7_feed_38 : decode cX7_feed 38 = .ok (.iconst 0, 1) := by decide +kernel
theorem dX7_feed_39 : decode cX7_feed 39 = .ok (.istore 4, 2) := by decide +kernel
theorem dX7_feed_41 : decode cX7_feed 41 = .ok (.iload 4, 2) := by decide +kernel
theorem dX7_feed_43 : decode cX7_feed 43 = .ok (.iload_n 3, 1) := by decide +kernel
theorem dX7_feed_44 : decode cX7_feed 44 = .ok (.if_icmp .ge 47, 3) := by decide +kernel
theorem dX7_feed_47 : decode cX7_feed 47 = .ok (.aload_n 0, 1) := by decide +kernel
theorem dX7_feed_48 : decode cX7_feed 48 = .ok (.getfield 9, 3) := by decide +kernel
theorem dX7_feed_51 : decode cX7_feed 51 = .ok (.bipush 56, 2) := by decide +kernel
theorem dX7_feed_53 : decode cX7_feed 53 = .ok (.aload_n 0, 1) := by decide +kernel
theorem dX7_feed_54 : decode cX7_feed 54 = .ok (.getfield 9, 3) := by decide +kernel
theorem dX7_feed_57 : decode cX7_feed 57 = .ok (.bipush 6, 2) := by decide +kernel
theorem dX7_feed_59 : decode cX7_feed 59 = .ok (.iaload, 1) := by decide +kernel
theorem dX7_feed_60 : decode cX7_feed 60 = .ok (.iadd, 1) := by decide +kernel
theorem dX7_feed_61 : decode cX7_feed 61 = .ok (.lload_n 1, 1) := by decide +kernel
theorem dX7_feed_62 : decode cX7_feed 62 = .ok (.bipush 8, 2) := by decide +kernel
theorem dX7_feed_64 : decode cX7_feed 64 = .ok (.iload 4, 2) := by decide +kernel
theorem dX7_feed_66 : decode cX7_feed 66 = .ok (.imul, 1) := by decide +kernel
theorem dX7_feed_67 : decode cX7_feed 67 = .ok (.lshr, 1) := by decide +kernel
theorem dX7_feed_68 : decode cX7_feed 68 = .ok (.ldc2_w 142, 3) := by decide +kernel
theorem dX7_feed_71 : decode cX7_feed 71 = .ok (.land, 1) := by decide +kernel
theorem dX7_feed_72 : decode cX7_feed 72 = .ok (.l2i, 1) := by decide +kernel
theorem dX7_feed_73 : decode cX7_feed 73 = .ok (.iastore, 1) := by decide +kernel
theorem dX7_feed_74 : decode cX7_feed 74 = .ok (.aload_n 0, 1) := by decide +kernel
theorem dX7_feed_75 : decode cX7_feed 75 = .ok (.getfield 9, 3) := by decide +kernel
theorem dX7_feed_78 : decode cX7_feed 78 = .ok (.bipush 6, 2) := by decide +kernel
theorem dX7_feed_80 : decode cX7_feed 80 = .ok (.dup2, 1) := by decide +kernel
theorem dX7_feed_81 : decode cX7_feed 81 = .ok (.iaload, 1) := by decide +kernel
theorem dX7_feed_82 : decode cX7_feed 82 = .ok (.iconst 1, 1) := by decide +kernel
theorem dX7_feed_83 : decode cX7_feed 83 = .ok (.iadd, 1) := by decide +kernel
theorem dX7_feed_84 : decode cX7_feed 84 = .ok (.iastore, 1) := by decide +kernel
theorem dX7_feed_85 : decode cX7_feed 85 = .ok (.iinc 4 1, 3) := by decide +kernel
theorem dX7_feed_88 : decode cX7_feed 88 = .ok (.goto (-47), 3) := by decide +kernel
theorem dX7_feed_91 : decode cX7_feed 91 = .ok (.aload_n 0, 1) := by decide +kernel
theorem dX7_feed_92 : decode cX7_feed 92 = .ok (.getfield 9, 3) := by decide +kernel
theorem dX7_feed_95 : decode cX7_feed 95 = .ok (.bipush 6, 2) := by decide +kernel
theorem dX7_feed_97 : decode cX7_feed 97 = .ok (.iaload, 1) := by decide +kernel
theorem dX7_feed_98 : decode cX7_feed 98 = .ok (.ireturn, 1) := by decide +kernel
theorem dX7_look_0 : decode cX7_look 0 = .ok (.aload_n 0, 1) := by decide +kernel
theorem dX7_look_1 : decode cX7_look 1 = .ok (.getfield 144, 3) := by decide +kernel
theorem dX7_look_4 : decode cX7_look 4 = .ok (.aload_n 0, 1) := by decide +kernel
theorem dX7_look_5 : decode cX7_look 5 = .ok (.getfield 9, 3) := by decide +kernel
theorem dX7_look_8 : decode cX7_look 8 = .ok (.bipush 6, 2) := by decide +kernel
theorem dX7_look_10 : decode cX7_look 10 = .ok (.iaload, 1) := by decide +kernel
theorem dX7_look_11 : decode cX7_look 11 = .ok (.if_icmp .ge 18, 3) := by decide +kernel
theorem dX7_look_14 : decode cX7_look 14 = .ok (.aload_n 0, 1) := by decide +kernel
theorem dX7_look_15 : decode cX7_look 15 = .ok (.getfield 9, 3) := by decide +kernel
theorem dX7_look_18 : decode cX7_look 18 = .ok (.bipush 56, 2) := by decide +kernel
theorem dX7_look_20 : decode cX7_look 20 = .ok (.aload_n 0, 1) := by decide +kernel
theorem dX7_look_21 : decode cX7_look 21 = .ok (.getfield 144, 3) := by decide +kernel
theorem dX7_look_24 : decode cX7_look 24 = .ok (.iadd, 1) := by decide +kernel
theorem dX7_look_25 : decode cX7_look 25 = .ok (.iaload, 1) := by decide +kernel
theorem dX7_look_26 : decode cX7_look 26 = .ok (.goto 4, 3) := by decide +kernel
theorem dX7_look_29 : decode cX7_look 29 = .ok (.iconst (-1), 1) := by decide +kernel
theorem dX7_look_30 : decode cX7_look 30 = .ok (.ireturn, 1) := by decide +kernel
theorem dX7_lays_0 : decode cX7_lays 0 = .ok (.aload_n 0, 1) := by decide +kernel
theorem dX7_lays_1 : decode cX7_lays 1 = .ok (.getfield 148, 3) := by decide +kernel
theorem dX7_lays_4 : decode cX7_lays 4 = .ok (.aload_n 0, 1) := by decide +kernel
theorem dX7_lays_5 : decode cX7_lays 5 = .ok (.getfield 41, 3) := by decide +kernel
theorem dX7_lays_8 : decode cX7_lays 8 = .ok (.arraylength, 1) := by decide +kernel
theorem dX7_lays_9 : decode cX7_lays 9 = .ok (.if_icmp .ge 33, 3) := by decide +kernel
theorem dX7_lays_12 : decode cX7_lays 12 = .ok (.aload_n 0, 1) := by decide +kernel
theorem dX7_lays_13 : decode cX7_lays 13 = .ok (.getfield 41, 3) := by decide +kernel
theorem dX7_lays_16 : decode cX7_lays 16 = .ok (.aload_n 0, 1) := by decide +kernel
theorem dX7_lays_17 : decode cX7_lays 17 = .ok (.getfield 148, 3) := by decide +kernel
theorem dX7_lays_20 : decode cX7_lays 20 = .ok (.iload_n 1, 1) := by decide +kernel
theorem dX7_lays_21 : decode cX7_lays 21 = .ok (.iastore, 1) := by decide +kernel
theorem dX7_lays_22 : decode cX7_lays 22 = .ok (.aload_n 0, 1) := by decide +kernel
theorem dX7_lays_23 : decode cX7_lays 23 = .ok (.getfield 44, 3) := by decide +kernel
theorem dX7_lays_26 : decode cX7_lays 26 = .ok (.aload_n 0, 1) := by decide +kernel
theorem dX7_lays_27 : decode cX7_lays 27 = .ok (.getfield 148, 3) := by decide +kernel
theorem dX7_lays_30 : decode cX7_lays 30 = .ok (.iload_n 2, 1) := by decide +kernel
theorem dX7_lays_31 : decode cX7_lays 31 = .ok (.iastore, 1) := by decide +kernel
theorem dX7_lays_32 : decode cX7_lays 32 = .ok (.aload_n 0, 1) := by decide +kernel
theorem dX7_lays_33 : decode cX7_lays 33 = .ok (.dup, 1) := by decide +kernel
theorem dX7_lays_34 : decode cX7_lays 34 = .ok (.getfield 148, 3) := by decide +kernel
theorem dX7_lays_37 : decode cX7_lays 37 = .ok (.iconst 1, 1) := by decide +kernel
theorem dX7_lays_38 : decode cX7_lays 38 = .ok (.iadd, 1) := by decide +kernel
theorem dX7_lays_39 : decode cX7_lays 39 = .ok (.putfield 148, 3) := by decide +kernel
theorem dX7_lays_42 : decode cX7_lays 42 = .ok (.return_, 1) := by decide +kernel
theorem dX7_nameOf_0 : decode cX7_nameOf 0 = .ok (.iload_n 1, 1) := by decide +kernel
theorem dX7_nameOf_1 : decode cX7_nameOf 1 = .ok (.tableswitch 116 107 119 #[67, 116, 116, 114, 116, 116, 116, 116, 90, 90, 116, 116, 67], 67) := by decide +kernel
theorem dX7_nameOf_68 : decode cX7_nameOf 68 = .ok (.aload_n 0, 1) := by decide +kernel
theorem dX7_nameOf_69 : decode cX7_nameOf 69 = .ok (.getfield 151, 3) := by decide +kernel
theorem dX7_nameOf_72 : decode cX7_nameOf 72 = .ok (.ifCond .eq 7, 3) := by decide +kernel
theorem dX7_nameOf_75 : decode cX7_nameOf 75 = .ok (.iconst (-1), 1) := by decide +kernel
theorem dX7_nameOf_76 : decode cX7_nameOf 76 = .ok (.goto 14, 3) := by decide +kernel
theorem dX7_nameOf_79 : decode cX7_nameOf 79 = .ok (.iload_n 1, 1) := by decide +kernel
theorem dX7_nameOf_80 : decode cX7_nameOf 80 = .ok (.bipush 119, 2) := by decide +kernel
theorem dX7_nameOf_82 : decode cX7_nameOf 82 = .ok (.if_icmp .ne 7, 3) := by decide +kernel
theorem dX7_nameOf_85 : decode cX7_nameOf 85 = .ok (.iconst 0, 1) := by decide +kernel
theorem dX7_nameOf_86 : decode cX7_nameOf 86 = .ok (.goto 4, 3) := by decide +kernel
theorem dX7_nameOf_89 : decode cX7_nameOf 89 = .ok (.iconst 1, 1) := by decide +kernel
theorem dX7_nameOf_90 : decode cX7_nameOf 90 = .ok (.ireturn, 1) := by decide +kernel
theorem dX7_nameOf_91 : decode cX7_nameOf 91 = .ok (.aload_n 0, 1) := by decide +kernel
theorem dX7_nameOf_92 : decode cX7_nameOf 92 = .ok (.getfield 151, 3) := by decide +kernel
theorem dX7_nameOf_95 : decode cX7_nameOf 95 = .ok (.iconst 1, 1) := by decide +kernel
theorem dX7_nameOf_96 : decode cX7_nameOf 96 = .ok (.if_icmp .eq 7, 3) := by decide +kernel
theorem dX7_nameOf_99 : decode cX7_nameOf 99 = .ok (.iconst (-1), 1) := by decide +kernel
theorem dX7_nameOf_100 : decode cX7_nameOf 100 = .ok (.goto 14, 3) := by decide +kernel
theorem dX7_nameOf_103 : decode cX7_nameOf 103 = .ok (.iload_n 1, 1) := by decide +kernel
theorem dX7_nameOf_104 : decode cX7_nameOf 104 = .ok (.bipush 115, 2) := by decide +kernel
theorem dX7_nameOf_106 : decode cX7_nameOf 106 = .ok (.if_icmp .ne 7, 3) := by decide +kernel
theorem dX7_nameOf_109 : decode cX7_nameOf 109 = .ok (.iconst 0, 1) := by decide +kernel
theorem dX7_nameOf_110 : decode cX7_nameOf 110 = .ok (.goto 4, 3) := by decide +kernel
theorem dX7_nameOf_113 : decode cX7_nameOf 113 = .ok (.iconst 1, 1) := by decide +kernel
theorem dX7_nameOf_114 : decode cX7_nameOf 114 = .ok (.ireturn, 1) := by decide +kernel
theorem dX7_nameOf_115 : decode cX7_nameOf 115 = .ok (.iconst 2, 1) := by decide +kernel
theorem dX7_nameOf_116 : decode cX7_nameOf 116 = .ok (.ireturn, 1) := by decide +kernel
theorem dX7_nameOf_117 : decode cX7_nameOf 117 = .ok (.iconst (-1), 1) := by decide +kernel
theorem dX7_nameOf_118 : decode cX7_nameOf 118 = .ok (.ireturn, 1) := by decide +kernel
theorem dX7_number_0 : decode cX7_number 0 = .ok (.iconst 0, 1) := by decide +kernel
theorem dX7_number_1 : decode cX7_number 1 = .ok (.istore_n 1, 1) := by decide +kernel
theorem dX7_number_2 : decode cX7_number 2 = .ok (.iconst 0, 1) := by decide +kernel
theorem dX7_number_3 : decode cX7_number 3 = .ok (.istore_n 2, 1) := by decide +kernel
theorem dX7_number_4 : decode cX7_number 4 = .ok (.iload_n 2, 1) := by decide +kernel
theorem dX7_number_5 : decode cX7_number 5 = .ok (.iconst 4, 1) := by decide +kernel
theorem dX7_number_6 : decode cX7_number 6 = .ok (.if_icmp .ge 46, 3) := by decide +kernel
theorem dX7_number_9 : decode cX7_number 9 = .ok (.aload_n 0, 1) := by decide +kernel
theorem dX7_number_10 : decode cX7_number 10 = .ok (.invokevirtual 154, 3) := by decide +kernel
theorem dX7_number_13 : decode cX7_number 13 = .ok (.bipush 48, 2) := by decide +kernel
theorem dX7_number_15 : decode cX7_number 15 = .ok (.bipush 57, 2) := by decide +kernel
theorem dX7_number_17 : decode cX7_number 17 = .ok (.invokestatic 61, 3) := by decide +kernel
theorem dX7_number_20 : decode cX7_number 20 = .ok (.ifCond .eq 32, 3) := by decide +kernel
theorem dX7_number_23 : decode cX7_number 23 = .ok (.bipush 10, 2) := by decide +kernel
theorem dX7_number_25 : decode cX7_number 25 = .ok (.iload_n 1, 1) := by decide +kernel
theorem dX7_number_26 : decode cX7_number 26 = .ok (.imul, 1) := by decide +kernel
theorem dX7_number_27 : decode cX7_number 27 = .ok (.aload_n 0, 1) := by decide +kernel
theorem dX7_number_28 : decode cX7_number 28 = .ok (.invokevirtual 154, 3) := by decide +kernel
theorem dX7_number_31 : decode cX7_number 31 = .ok (.iadd, 1) := by decide +kernel
theorem dX7_number_32 : decode cX7_number 32 = .ok (.bipush 48, 2) := by decide +kernel
theorem dX7_number_34 : decode cX7_number 34 = .ok (.isub, 1) := by decide +kernel
theorem dX7_number_35 : decode cX7_number 35 = .ok (.istore_n 1, 1) := by decide +kernel
theorem dX7_number_36 : decode cX7_number 36 = .ok (.aload_n 0, 1) := by decide +kernel
theorem dX7_number_37 : decode cX7_number 37 = .ok (.dup, 1) := by decide +kernel
theorem dX7_number_38 : decode cX7_number 38 = .ok (.getfield 144, 3) := by decide +kernel
theorem dX7_number_41 : decode cX7_number 41 = .ok (.iconst 1, 1) := by decide +kernel
theorem dX7_number_42 : decode cX7_number 42 = .ok (.iadd, 1) := by decide +kernel
theorem dX7_number_43 : decode cX7_number 43 = .ok (.putfield 144, 3) := by decide +kernel
theorem dX7_number_46 : decode cX7_number 46 = .ok (.iinc 2 1, 3) := by decide +kernel
theorem dX7_number_49 : decode cX7_number 49 = .ok (.goto (-45), 3) := by decide +kernel
theorem dX7_number_52 : decode cX7_number 52 = .ok (.aload_n 0, 1) := by decide +kernel
theorem dX7_number_53 : decode cX7_number 53 = .ok (.iload_n 2, 1) := by decide +kernel
theorem dX7_number_54 : decode cX7_number 54 = .ok (.ifCond .ne 7, 3) := by decide +kernel
theorem dX7_number_57 : decode cX7_number 57 = .ok (.iconst 1, 1) := by decide +kernel
theorem dX7_number_58 : decode cX7_number 58 = .ok (.goto 4, 3) := by decide +kernel
theorem dX7_number_61 : decode cX7_number 61 = .ok (.iconst 0, 1) := by decide +kernel
theorem dX7_number_62 : decode cX7_number 62 = .ok (.putfield 157, 3) := by decide +kernel
theorem dX7_number_65 : decode cX7_number 65 = .ok (.aload_n 0, 1) := by decide +kernel
theorem dX7_number_66 : decode cX7_number 66 = .ok (.iconst 1, 1) := by decide +kernel
theorem dX7_number_67 : decode cX7_number 67 = .ok (.iload_n 1, 1) := by decide +kernel
theorem dX7_number_68 : decode cX7_number 68 = .ok (.invokevirtual 161, 3) := by decide +kernel
theorem dX7_number_71 : decode cX7_number 71 = .ok (.return_, 1) := by decide +kernel
theorem dX7_opens_0 : decode cX7_opens 0 = .ok (.aload_n 0, 1) := by decide +kernel
theorem dX7_opens_1 : decode cX7_opens 1 = .ok (.getfield 165, 3) := by decide +kernel
theorem dX7_opens_4 : decode cX7_opens 4 = .ok (.iconst 5, 1) := by decide +kernel
theorem dX7_opens_5 : decode cX7_opens 5 = .ok (.if_icmp .ne 9, 3) := by decide +kernel
theorem dX7_opens_8 : decode cX7_opens 8 = .ok (.aload_n 0, 1) := by decide +kernel
theorem dX7_opens_9 : decode cX7_opens 9 = .ok (.iconst 1, 1) := by decide +kernel
theorem dX7_opens_10 : decode cX7_opens 10 = .ok (.putfield 157, 3) := by decide +kernel
theorem dX7_opens_13 : decode cX7_opens 13 = .ok (.return_, 1) := by decide +kernel
theorem dX7_opens_14 : decode cX7_opens 14 = .ok (.aload_n 0, 1) := by decide +kernel
theorem dX7_opens_15 : decode cX7_opens 15 = .ok (.dup, 1) := by decide +kernel
theorem dX7_opens_16 : decode cX7_opens 16 = .ok (.getfield 165, 3) := by decide +kernel
theorem dX7_opens_19 : decode cX7_opens 19 = .ok (.iconst 1, 1) := by decide +kernel
theorem dX7_opens_20 : decode cX7_opens 20 = .ok (.iadd, 1) := by decide +kernel
theorem dX7_opens_21 : decode cX7_opens 21 = .ok (.putfield 165, 3) := by decide +kernel
theorem dX7_opens_24 : decode cX7_opens 24 = .ok (.aload_n 0, 1) := by decide +kernel
theorem dX7_opens_25 : decode cX7_opens 25 = .ok (.dup, 1) := by decide +kernel
theorem dX7_opens_26 : decode cX7_opens 26 = .ok (.getfield 144, 3) := by decide +kernel
theorem dX7_opens_29 : decode cX7_opens 29 = .ok (.iconst 1, 1) := by decide +kernel
theorem dX7_opens_30 : decode cX7_opens 30 = .ok (.iadd, 1) := by decide +kernel
theorem dX7_opens_31 : decode cX7_opens 31 = .ok (.putfield 144, 3) := by decide +kernel
theorem dX7_opens_34 : decode cX7_opens 34 = .ok (.iload_n 1, 1) := by decide +kernel
theorem dX7_opens_35 : decode cX7_opens 35 = .ok (.bipush 33, 2) := by decide +kernel
theorem dX7_opens_37 : decode cX7_opens 37 = .ok (.if_icmp .ne 16, 3) := by decide +kernel
theorem dX7_opens_40 : decode cX7_opens 40 = .ok (.aload_n 0, 1) := by decide +kernel
theorem dX7_opens_41 : decode cX7_opens 41 = .ok (.invokevirtual 168, 3) := by decide +kernel
theorem dX7_opens_44 : decode cX7_opens 44 = .ok (.aload_n 0, 1) := by decide +kernel
theorem dX7_opens_45 : decode cX7_opens 45 = .ok (.iconst 3, 1) := by decide +kernel
theorem dX7_opens_46 : decode cX7_opens 46 = .ok (.iconst 0, 1) := by decide +kernel
theorem dX7_opens_47 : decode cX7_opens 47 = .ok (.invokevirtual 161, 3) := by decide +kernel
theorem dX7_opens_50 : decode cX7_opens 50 = .ok (.goto 53, 3) := by decide +kernel
theorem dX7_opens_53 : decode cX7_opens 53 = .ok (.aload_n 0, 1) := by decide +kernel
theorem dX7_opens_54 : decode cX7_opens 54 = .ok (.invokevirtual 171, 3) := by decide +kernel
theorem dX7_opens_57 : decode cX7_opens 57 = .ok (.aload_n 0, 1) := by decide +kernel
theorem dX7_opens_58 : decode cX7_opens 58 = .ok (.aload_n 0, 1) := by decide +kernel
theorem dX7_opens_59 : decode cX7_opens 59 = .ok (.getfield 157, 3) := by decide +kernel
theorem dX7_opens_62 : decode cX7_opens 62 = .ok (.ifCond .ne 12, 3) := by decide +kernel
theorem dX7_opens_65 : decode cX7_opens 65 = .ok (.aload_n 0, 1) := by decide +kernel
theorem dX7_opens_66 : decode cX7_opens 66 = .ok (.invokevirtual 154, 3) := by decide +kernel
theorem dX7_opens_69 : decode cX7_opens 69 = .ok (.bipush 41, 2) := by decide +kernel
theorem dX7_opens_71 : decode cX7_opens 71 = .ok (.if_icmp .eq 7, 3) := by decide +kernel
theorem dX7_opens_74 : decode cX7_opens 74 = .ok (.iconst 1, 1) := by decide +kernel
theorem dX7_opens_75 : decode cX7_opens 75 = .ok (.goto 4, 3) := by decide +kernel
theorem dX7_opens_78 : decode cX7_opens 78 = .ok (.iconst 0, 1) := by decide +kernel
theorem dX7_opens_79 : decode cX7_opens 79 = .ok (.putfield 157, 3) := by decide +kernel
theorem dX7_opens_82 : decode cX7_opens 82 = .ok (.aload_n 0, 1) := by decide +kernel
theorem dX7_opens_83 : decode cX7_opens 83 = .ok (.dup, 1) := by decide +kernel
theorem dX7_opens_84 : decode cX7_opens 84 = .ok (.getfield 144, 3) := by decide +kernel
theorem dX7_opens_87 : decode cX7_opens 87 = .ok (.aload_n 0, 1) := by decide +kernel
theorem dX7_opens_88 : decode cX7_opens 88 = .ok (.getfield 157, 3) := by decide +kernel
theorem dX7_opens_91 : decode cX7_opens 91 = .ok (.ifCond .eq 7, 3) := by decide +kernel
theorem dX7_opens_94 : decode cX7_opens 94 = .ok (.iconst 0, 1) := by decide +kernel
theorem dX7_opens_95 : decode cX7_opens 95 = .ok (.goto 4, 3) := by decide +kernel
theorem dX7_opens_98 : decode cX7_opens 98 = .ok (.iconst 1, 1) := by decide +kernel
theorem dX7_opens_99 : decode cX7_opens 99 = .ok (.iadd, 1) := by decide +kernel
theorem dX7_opens_100 : decode cX7_opens 100 = .ok (.putfield 144, 3) := by decide +kernel
theorem dX7_opens_103 : decode cX7_opens 103 = .ok (.aload_n 0, 1) := by decide +kernel
theorem dX7_opens_104 : decode cX7_opens 104 = .ok (.dup, 1) := by decide +kernel
theorem dX7_opens_105 : decode cX7_opens 105 = .ok (.getfield 165, 3) := by decide +kernel
theorem dX7_opens_108 : decode cX7_opens 108 = .ok (.iconst 1, 1) := by decide +kernel
theorem dX7_opens_109 : decode cX7_opens 109 = .ok (.isub, 1) := by decide +kernel
theorem dX7_opens_110 : decode cX7_opens 110 = .ok (.putfield 165, 3) := by decide +kernel
theorem dX7_opens_113 : decode cX7_opens 113 = .ok (.return_, 1) := by decide +kernel
theorem dX7_one_0 : decode cX7_one 0 = .ok (.aload_n 0, 1) := by decide +kernel
theorem dX7_one_1 : decode cX7_one 1 = .ok (.invokevirtual 154, 3) := by decide +kernel
theorem dX7_one_4 : decode cX7_one 4 = .ok (.istore_n 1, 1) := by decide +kernel
theorem dX7_one_5 : decode cX7_one 5 = .ok (.aload_n 0, 1) := by decide +kernel
theorem dX7_one_6 : decode cX7_one 6 = .ok (.iload_n 1, 1) := by decide +kernel
theorem dX7_one_7 : decode cX7_one 7 = .ok (.invokevirtual 174, 3) := by decide +kernel
theorem dX7_one_10 : decode cX7_one 10 = .ok (.istore_n 2, 1) := by decide +kernel
theorem dX7_one_11 : decode cX7_one 11 = .ok (.iload_n 2, 1) := by decide +kernel
theorem dX7_one_12 : decode cX7_one 12 = .ok (.ifCond .lt 22, 3) := by decide +kernel
theorem dX7_one_15 : decode cX7_one 15 = .ok (.aload_n 0, 1) := by decide +kernel
theorem dX7_one_16 : decode cX7_one 16 = .ok (.dup, 1) := by decide +kernel
theorem dX7_one_17 : decode cX7_one 17 = .ok (.getfield 144, 3) := by decide +kernel
theorem dX7_one_20 : decode cX7_one 20 = .ok (.iconst 1, 1) := by decide +kernel
theorem dX7_one_21 : decode cX7_one 21 = .ok (.iadd, 1) := by decide +kernel
theorem dX7_one_22 : decode cX7_one 22 = .ok (.putfield 144, 3) := by decide +kernel
theorem dX7_one_25 : decode cX7_one 25 = .ok (.aload_n 0, 1) := by decide +kernel
theorem dX7_one_26 : decode cX7_one 26 = .ok (.iconst 2, 1) := by decide +kernel
theorem dX7_one_27 : decode cX7_one 27 = .ok (.iload_n 2, 1) := by decide +kernel
theorem dX7_one_28 : decode cX7_one 28 = .ok (.invokevirtual 161, 3) := by decide +kernel
theorem dX7_one_31 : decode cX7_one 31 = .ok (.goto 27, 3) := by decide +kernel
theorem dX7_one_34 : decode cX7_one 34 = .ok (.iload_n 1, 1) := by decide +kernel
theorem dX7_one_35 : decode cX7_one 35 = .ok (.bipush 33, 2) := by decide +kernel
theorem dX7_one_37 : decode cX7_one 37 = .ok (.if_icmp .eq 9, 3) := by decide +kernel
theorem dX7_one_40 : decode cX7_one 40 = .ok (.iload_n 1, 1) := by decide +kernel
theorem dX7_one_41 : decode cX7_one 41 = .ok (.bipush 40, 2) := by decide +kernel
theorem dX7_one_43 : decode cX7_one 43 = .ok (.if_icmp .ne 11, 3) := by decide +kernel
theorem dX7_one_46 : decode cX7_one 46 = .ok (.aload_n 0, 1) := by decide +kernel
theorem dX7_one_47 : decode cX7_one 47 = .ok (.iload_n 1, 1) := by decide +kernel
theorem dX7_one_48 : decode cX7_one 48 = .ok (.invokevirtual 177, 3) := by decide +kernel
theorem dX7_one_51 : decode cX7_one 51 = .ok (.goto 7, 3) := by decide +kernel
theorem dX7_one_54 : decode cX7_one 54 = .ok (.aload_n 0, 1) := by decide +kernel
theorem dX7_one_55 : decode cX7_one 55 = .ok (.invokevirtual 180, 3) := by decide +kernel
theorem dX7_one_58 : decode cX7_one 58 = .ok (.return_, 1) := by decide +kernel
theorem dX7_times_0 : decode cX7_times 0 = .ok (.aload_n 0, 1) := by decide +kernel
theorem dX7_times_1 : decode cX7_times 1 = .ok (.invokevirtual 168, 3) := by decide +kernel
theorem dX7_times_4 : decode cX7_times 4 = .ok (.aload_n 0, 1) := by decide +kernel
theorem dX7_times_5 : decode cX7_times 5 = .ok (.getfield 157, 3) := by decide +kernel
theorem dX7_times_8 : decode cX7_times 8 = .ok (.ifCond .ne 58, 3) := by decide +kernel
theorem dX7_times_11 : decode cX7_times 11 = .ok (.aload_n 0, 1) := by decide +kernel
theorem dX7_times_12 : decode cX7_times 12 = .ok (.invokevirtual 154, 3) := by decide +kernel
theorem dX7_times_15 : decode cX7_times 15 = .ok (.bipush 42, 2) := by decide +kernel
theorem dX7_times_17 : decode cX7_times 17 = .ok (.if_icmp .eq 21, 3) := by decide +kernel
theorem dX7_times_20 : decode cX7_times 20 = .ok (.aload_n 0, 1) := by decide +kernel
theorem dX7_times_21 : decode cX7_times 21 = .ok (.invokevirtual 154, 3) := by decide +kernel
theorem dX7_times_24 : decode cX7_times 24 = .ok (.bipush 47, 2) := by decide +kernel
theorem dX7_times_26 : decode cX7_times 26 = .ok (.if_icmp .eq 12, 3) := by decide +kernel
theorem dX7_times_29 : decode cX7_times 29 = .ok (.aload_n 0, 1) := by decide +kernel
theorem dX7_times_30 : decode cX7_times 30 = .ok (.invokevirtual 154, 3) := by decide +kernel
theorem dX7_times_33 : decode cX7_times 33 = .ok (.bipush 37, 2) := by decide +kernel
theorem dX7_times_35 : decode cX7_times 35 = .ok (.if_icmp .ne 31, 3) := by decide +kernel
theorem dX7_times_38 : decode cX7_times 38 = .ok (.aload_n 0, 1) := by decide +kernel
theorem dX7_times_39 : decode cX7_times 39 = .ok (.invokevirtual 154, 3) := by decide +kernel
theorem dX7_times_42 : decode cX7_times 42 = .ok (.istore_n 1, 1) := by decide +kernel
theorem dX7_times_43 : decode cX7_times 43 = .ok (.aload_n 0, 1) := by decide +kernel
theorem dX7_times_44 : decode cX7_times 44 = .ok (.dup, 1) := by decide +kernel
theorem dX7_times_45 : decode cX7_times 45 = .ok (.getfield 144, 3) := by decide +kernel
theorem dX7_times_48 : decode cX7_times 48 = .ok (.iconst 1, 1) := by decide +kernel
theorem dX7_times_49 : decode cX7_times 49 = .ok (.iadd, 1) := by decide +kernel
theorem dX7_times_50 : decode cX7_times 50 = .ok (.putfield 144, 3) := by decide +kernel
theorem dX7_times_53 : decode cX7_times 53 = .ok (.aload_n 0, 1) := by decide +kernel
theorem dX7_times_54 : decode cX7_times 54 = .ok (.invokevirtual 168, 3) := by decide +kernel
theorem dX7_times_57 : decode cX7_times 57 = .ok (.aload_n 0, 1) := by decide +kernel
theorem dX7_times_58 : decode cX7_times 58 = .ok (.iload_n 1, 1) := by decide +kernel
theorem dX7_times_59 : decode cX7_times 59 = .ok (.iconst 0, 1) := by decide +kernel
theorem dX7_times_60 : decode cX7_times 60 = .ok (.invokevirtual 161, 3) := by decide +kernel
theorem dX7_times_63 : decode cX7_times 63 = .ok (.goto (-59), 3) := by decide +kernel
theorem dX7_times_66 : decode cX7_times 66 = .ok (.return_, 1) := by decide +kernel
theorem dX7_sumBy_0 : decode cX7_sumBy 0 = .ok (.aload_n 0, 1) := by decide +kernel
theorem dX7_sumBy_1 : decode cX7_sumBy 1 = .ok (.invokevirtual 183, 3) := by decide +kernel
theorem dX7_sumBy_4 : decode cX7_sumBy 4 = .ok (.aload_n 0, 1) := by decide +kernel
theorem dX7_sumBy_5 : decode cX7_sumBy 5 = .ok (.getfield 157, 3) := by decide +kernel
theorem dX7_sumBy_8 : decode cX7_sumBy 8 = .ok (.ifCond .ne 49, 3) := by decide +kernel
theorem dX7_sumBy_11 : decode cX7_sumBy 11 = .ok (.aload_n 0, 1) := by decide +kernel
theorem dX7_sumBy_12 : decode cX7_sumBy 12 = .ok (.invokevirtual 154, 3) := by decide +kernel
theorem dX7_sumBy_15 : decode cX7_sumBy 15 = .ok (.bipush 43, 2) := by decide +kernel
theorem dX7_sumBy_17 : decode cX7_sumBy 17 = .ok (.if_icmp .eq 12, 3) := by decide +kernel
theorem dX7_sumBy_20 : decode cX7_sumBy 20 = .ok (.aload_n 0, 1) := by decide +kernel
theorem dX7_sumBy_21 : decode cX7_sumBy 21 = .ok (.invokevirtual 154, 3) := by decide +kernel
theorem dX7_sumBy_24 : decode cX7_sumBy 24 = .ok (.bipush 45, 2) := by decide +kernel
theorem dX7_sumBy_26 : decode cX7_sumBy 26 = .ok (.if_icmp .ne 31, 3) := by decide +kernel
theorem dX7_sumBy_29 : decode cX7_sumBy 29 = .ok (.aload_n 0, 1) := by decide +kernel
theorem dX7_sumBy_30 : decode cX7_sumBy 30 = .ok (.invokevirtual 154, 3) := by decide +kernel
theorem dX7_sumBy_33 : decode cX7_sumBy 33 = .ok (.istore_n 1, 1) := by decide +kernel
theorem dX7_sumBy_34 : decode cX7_sumBy 34 = .ok (.aload_n 0, 1) := by decide +kernel
theorem dX7_sumBy_35 : decode cX7_sumBy 35 = .ok (.dup, 1) := by decide +kernel
theorem dX7_sumBy_36 : decode cX7_sumBy 36 = .ok (.getfield 144, 3) := by decide +kernel
theorem dX7_sumBy_39 : decode cX7_sumBy 39 = .ok (.iconst 1, 1) := by decide +kernel
theorem dX7_sumBy_40 : decode cX7_sumBy 40 = .ok (.iadd, 1) := by decide +kernel
theorem dX7_sumBy_41 : decode cX7_sumBy 41 = .ok (.putfield 144, 3) := by decide +kernel
theorem dX7_sumBy_44 : decode cX7_sumBy 44 = .ok (.aload_n 0, 1) := by decide +kernel
theorem dX7_sumBy_45 : decode cX7_sumBy 45 = .ok (.invokevirtual 183, 3) := by decide +kernel
theorem dX7_sumBy_48 : decode cX7_sumBy 48 = .ok (.aload_n 0, 1) := by decide +kernel
theorem dX7_sumBy_49 : decode cX7_sumBy 49 = .ok (.iload_n 1, 1) := by decide +kernel
theorem dX7_sumBy_50 : decode cX7_sumBy 50 = .ok (.iconst 0, 1) := by decide +kernel
theorem dX7_sumBy_51 : decode cX7_sumBy 51 = .ok (.invokevirtual 161, 3) := by decide +kernel
theorem dX7_sumBy_54 : decode cX7_sumBy 54 = .ok (.goto (-50), 3) := by decide +kernel
theorem dX7_sumBy_57 : decode cX7_sumBy 57 = .ok (.return_, 1) := by decide +kernel
theorem dX7_compares_0 : decode cX7_compares 0 = .ok (.aload_n 0, 1) := by decide +kernel
theorem dX7_compares_1 : decode cX7_compares 1 = .ok (.invokevirtual 186, 3) := by decide +kernel
theorem dX7_compares_4 : decode cX7_compares 4 = .ok (.aload_n 0, 1) := by decide +kernel
theorem dX7_compares_5 : decode cX7_compares 5 = .ok (.invokevirtual 154, 3) := by decide +kernel
theorem dX7_compares_8 : decode cX7_compares 8 = .ok (.istore_n 1, 1) := by decide +kernel
theorem dX7_compares_9 : decode cX7_compares 9 = .ok (.aload_n 0, 1) := by decide +kernel
theorem dX7_compares_10 : decode cX7_compares 10 = .ok (.getfield 157, 3) := by decide +kernel
theorem dX7_compares_13 : decode cX7_compares 13 = .ok (.ifCond .ne 41, 3) := by decide +kernel
theorem dX7_compares_16 : decode cX7_compares 16 = .ok (.iload_n 1, 1) := by decide +kernel
theorem dX7_compares_17 : decode cX7_compares 17 = .ok (.bipush 60, 2) := by decide +kernel
theorem dX7_compares_19 : decode cX7_compares 19 = .ok (.if_icmp .eq 15, 3) := by decide +kernel
theorem dX7_compares_22 : decode cX7_compares 22 = .ok (.iload_n 1, 1) := by decide +kernel
theorem dX7_compares_23 : decode cX7_compares 23 = .ok (.bipush 61, 2) := by decide +kernel
theorem dX7_compares_25 : decode cX7_compares 25 = .ok (.if_icmp .eq 9, 3) := by decide +kernel
theorem dX7_compares_28 : decode cX7_compares 28 = .ok (.iload_n 1, 1) := by decide +kernel
theorem dX7_compares_29 : decode cX7_compares 29 = .ok (.bipush 62, 2) := by decide +kernel
theorem dX7_compares_31 : decode cX7_compares 31 = .ok (.if_icmp .ne 23, 3) := by decide +kernel
theorem dX7_compares_34 : decode cX7_compares 34 = .ok (.aload_n 0, 1) := by decide +kernel
theorem dX7_compares_35 : decode cX7_compares 35 = .ok (.dup, 1) := by decide +kernel
theorem dX7_compares_36 : decode cX7_compares 36 = .ok (.getfield 144, 3) := by decide +kernel
theorem dX7_compares_39 : decode cX7_compares 39 = .ok (.iconst 1, 1) := by decide +kernel
theorem dX7_compares_40 : decode cX7_compares 40 = .ok (.iadd, 1) := by decide +kernel
theorem dX7_compares_41 : decode cX7_compares 41 = .ok (.putfield 144, 3) := by decide +kernel
theorem dX7_compares_44 : decode cX7_compares 44 = .ok (.aload_n 0, 1) := by decide +kernel
theorem dX7_compares_45 : decode cX7_compares 45 = .ok (.invokevirtual 186, 3) := by decide +kernel
theorem dX7_compares_48 : decode cX7_compares 48 = .ok (.aload_n 0, 1) := by decide +kernel
theorem dX7_compares_49 : decode cX7_compares 49 = .ok (.iload_n 1, 1) := by decide +kernel
theorem dX7_compares_50 : decode cX7_compares 50 = .ok (.iconst 0, 1) := by decide +kernel
theorem dX7_compares_51 : decode cX7_compares 51 = .ok (.invokevirtual 161, 3) := by decide +kernel
theorem dX7_compares_54 : decode cX7_compares 54 = .ok (.return_, 1) := by decide +kernel
theorem dX7_all_0 : decode cX7_all 0 = .ok (.aload_n 0, 1) := by decide +kernel
theorem dX7_all_1 : decode cX7_all 1 = .ok (.invokevirtual 189, 3) := by decide +kernel
theorem dX7_all_4 : decode cX7_all 4 = .ok (.aload_n 0, 1) := by decide +kernel
theorem dX7_all_5 : decode cX7_all 5 = .ok (.getfield 157, 3) := by decide +kernel
theorem dX7_all_8 : decode cX7_all 8 = .ok (.ifCond .ne 36, 3) := by decide +kernel
theorem dX7_all_11 : decode cX7_all 11 = .ok (.aload_n 0, 1) := by decide +kernel
theorem dX7_all_12 : decode cX7_all 12 = .ok (.invokevirtual 154, 3) := by decide +kernel
theorem dX7_all_15 : decode cX7_all 15 = .ok (.bipush 38, 2) := by decide +kernel
theorem dX7_all_17 : decode cX7_all 17 = .ok (.if_icmp .ne 27, 3) := by decide +kernel
theorem dX7_all_20 : decode cX7_all 20 = .ok (.aload_n 0, 1) := by decide +kernel
theorem dX7_all_21 : decode cX7_all 21 = .ok (.dup, 1) := by decide +kernel
theorem dX7_all_22 : decode cX7_all 22 = .ok (.getfield 144, 3) := by decide +kernel
theorem dX7_all_25 : decode cX7_all 25 = .ok (.iconst 1, 1) := by decide +kernel
theorem dX7_all_26 : decode cX7_all 26 = .ok (.iadd, 1) := by decide +kernel
theorem dX7_all_27 : decode cX7_all 27 = .ok (.putfield 144, 3) := by decide +kernel
theorem dX7_all_30 : decode cX7_all 30 = .ok (.aload_n 0, 1) := by decide +kernel
theorem dX7_all_31 : decode cX7_all 31 = .ok (.invokevirtual 189, 3) := by decide +kernel
theorem dX7_all_34 : decode cX7_all 34 = .ok (.aload_n 0, 1) := by decide +kernel
theorem dX7_all_35 : decode cX7_all 35 = .ok (.bipush 38, 2) := by decide +kernel
theorem dX7_all_37 : decode cX7_all 37 = .ok (.iconst 0, 1) := by decide +kernel
theorem dX7_all_38 : decode cX7_all 38 = .ok (.invokevirtual 161, 3) := by decide +kernel
theorem dX7_all_41 : decode cX7_all 41 = .ok (.goto (-37), 3) := by decide +kernel
theorem dX7_all_44 : decode cX7_all 44 = .ok (.return_, 1) := by decide +kernel
theorem dX7_any_0 : decode cX7_any 0 = .ok (.aload_n 0, 1) := by decide +kernel
theorem dX7_any_1 : decode cX7_any 1 = .ok (.invokevirtual 192, 3) := by decide +kernel
theorem dX7_any_4 : decode cX7_any 4 = .ok (.aload_n 0, 1) := by decide +kernel
theorem dX7_any_5 : decode cX7_any 5 = .ok (.getfield 157, 3) := by decide +kernel
theorem dX7_any_8 : decode cX7_any 8 = .ok (.ifCond .ne 36, 3) := by decide +kernel
theorem dX7_any_11 : decode cX7_any 11 = .ok (.aload_n 0, 1) := by decide +kernel
theorem dX7_any_12 : decode cX7_any 12 = .ok (.invokevirtual 154, 3) := by decide +kernel
theorem dX7_any_15 : decode cX7_any 15 = .ok (.bipush 124, 2) := by decide +kernel
theorem dX7_any_17 : decode cX7_any 17 = .ok (.if_icmp .ne 27, 3) := by decide +kernel
theorem dX7_any_20 : decode cX7_any 20 = .ok (.aload_n 0, 1) := by decide +kernel
theorem dX7_any_21 : decode cX7_any 21 = .ok (.dup, 1) := by decide +kernel
theorem dX7_any_22 : decode cX7_any 22 = .ok (.getfield 144, 3) := by decide +kernel
theorem dX7_any_25 : decode cX7_any 25 = .ok (.iconst 1, 1) := by decide +kernel
theorem dX7_any_26 : decode cX7_any 26 = .ok (.iadd, 1) := by decide +kernel
theorem dX7_any_27 : decode cX7_any 27 = .ok (.putfield 144, 3) := by decide +kernel
theorem dX7_any_30 : decode cX7_any 30 = .ok (.aload_n 0, 1) := by decide +kernel
theorem dX7_any_31 : decode cX7_any 31 = .ok (.invokevirtual 192, 3) := by decide +kernel
theorem dX7_any_34 : decode cX7_any 34 = .ok (.aload_n 0, 1) := by decide +kernel
theorem dX7_any_35 : decode cX7_any 35 = .ok (.bipush 124, 2) := by decide +kernel
theorem dX7_any_37 : decode cX7_any 37 = .ok (.iconst 0, 1) := by decide +kernel
theorem dX7_any_38 : decode cX7_any 38 = .ok (.invokevirtual 161, 3) := by decide +kernel
theorem dX7_any_41 : decode cX7_any 41 = .ok (.goto (-37), 3) := by decide +kernel
theorem dX7_any_44 : decode cX7_any 44 = .ok (.return_, 1) := by decide +kernel
theorem dX7_text_0 : decode cX7_text 0 = .ok (.iload_n 1, 1) := by decide +kernel
theorem dX7_text_1 : decode cX7_text 1 = .ok (.iconst 0, 1) := by decide +kernel
theorem dX7_text_2 : decode cX7_text 2 = .ok (.iconst 1, 1) := by decide +kernel
theorem dX7_text_3 : decode cX7_text 3 = .ok (.invokestatic 61, 3) := by decide +kernel
theorem dX7_text_6 : decode cX7_text 6 = .ok (.ifCond .ne 10, 3) := by decide +kernel
theorem dX7_text_9 : decode cX7_text 9 = .ok (.aload_n 0, 1) := by decide +kernel
theorem dX7_text_10 : decode cX7_text 10 = .ok (.ldc 125, 2) := by decide +kernel
theorem dX7_text_12 : decode cX7_text 12 = .ok (.invokevirtual 126, 3) := by decide +kernel
theorem dX7_text_15 : decode cX7_text 15 = .ok (.ireturn, 1) := by decide +kernel
theorem dX7_text_16 : decode cX7_text 16 = .ok (.aload_n 0, 1) := by decide +kernel
theorem dX7_text_17 : decode cX7_text 17 = .ok (.iload_n 1, 1) := by decide +kernel
theorem dX7_text_18 : decode cX7_text 18 = .ok (.putfield 151, 3) := by decide +kernel
theorem dX7_text_21 : decode cX7_text 21 = .ok (.aload_n 0, 1) := by decide +kernel
theorem dX7_text_22 : decode cX7_text 22 = .ok (.iconst 0, 1) := by decide +kernel
theorem dX7_text_23 : decode cX7_text 23 = .ok (.putfield 148, 3) := by decide +kernel
theorem dX7_text_26 : decode cX7_text 26 = .ok (.aload_n 0, 1) := by decide +kernel
theorem dX7_text_27 : decode cX7_text 27 = .ok (.iconst 0, 1) := by decide +kernel
theorem dX7_text_28 : decode cX7_text 28 = .ok (.putfield 144, 3) := by decide +kernel
theorem dX7_text_31 : decode cX7_text 31 = .ok (.aload_n 0, 1) := by decide +kernel
theorem dX7_text_32 : decode cX7_text 32 = .ok (.iconst 0, 1) := by decide +kernel
theorem dX7_text_33 : decode cX7_text 33 = .ok (.putfield 165, 3) := by decide +kernel
theorem dX7_text_36 : decode cX7_text 36 = .ok (.aload_n 0, 1) := by decide +kernel
theorem dX7_text_37 : decode cX7_text 37 = .ok (.iconst 0, 1) := by decide +kernel
theorem dX7_text_38 : decode cX7_text 38 = .ok (.putfield 157, 3) := by decide +kernel
theorem dX7_text_41 : decode cX7_text 41 = .ok (.aload_n 0, 1) := by decide +kernel
theorem dX7_text_42 : decode cX7_text 42 = .ok (.invokevirtual 171, 3) := by decide +kernel
theorem dX7_text_45 : decode cX7_text 45 = .ok (.aload_n 0, 1) := by decide +kernel
theorem dX7_text_46 : decode cX7_text 46 = .ok (.aload_n 0, 1) := by decide +kernel
theorem dX7_text_47 : decode cX7_text 47 = .ok (.getfield 157, 3) := by decide +kernel
theorem dX7_text_50 : decode cX7_text 50 = .ok (.ifCond .ne 17, 3) := by decide +kernel
theorem dX7_text_53 : decode cX7_text 53 = .ok (.aload_n 0, 1) := by decide +kernel
theorem dX7_text_54 : decode cX7_text 54 = .ok (.getfield 144, 3) := by decide +kernel
theorem dX7_text_57 : decode cX7_text 57 = .ok (.aload_n 0, 1) := by decide +kernel
theorem dX7_text_58 : decode cX7_text 58 = .ok (.getfield 9, 3) := by decide +kernel
theorem dX7_text_61 : decode cX7_text 61 = .ok (.bipush 6, 2) := by decide +kernel
theorem dX7_text_63 : decode cX7_text 63 = .ok (.iaload, 1) := by decide +kernel
theorem dX7_text_64 : decode cX7_text 64 = .ok (.if_icmp .ge 7, 3) := by decide +kernel
theorem dX7_text_67 : decode cX7_text 67 = .ok (.iconst 1, 1) := by decide +kernel
theorem dX7_text_68 : decode cX7_text 68 = .ok (.goto 4, 3) := by decide +kernel
theorem dX7_text_71 : decode cX7_text 71 = .ok (.iconst 0, 1) := by decide +kernel
theorem dX7_text_72 : decode cX7_text 72 = .ok (.putfield 157, 3) := by decide +kernel
theorem dX7_text_75 : decode cX7_text 75 = .ok (.aload_n 0, 1) := by decide +kernel
theorem dX7_text_76 : decode cX7_text 76 = .ok (.getfield 9, 3) := by decide +kernel
theorem dX7_text_79 : decode cX7_text 79 = .ok (.bipush 6, 2) := by decide +kernel
theorem dX7_text_81 : decode cX7_text 81 = .ok (.iconst 0, 1) := by decide +kernel
theorem dX7_text_82 : decode cX7_text 82 = .ok (.iastore, 1) := by decide +kernel
theorem dX7_text_83 : decode cX7_text 83 = .ok (.aload_n 0, 1) := by decide +kernel
theorem dX7_text_84 : decode cX7_text 84 = .ok (.getfield 157, 3) := by decide +kernel
theorem dX7_text_87 : decode cX7_text 87 = .ok (.ifCond .eq 11, 3) := by decide +kernel
theorem dX7_text_90 : decode cX7_text 90 = .ok (.bipush (-10), 2) := by decide +kernel
theorem dX7_text_92 : decode cX7_text 92 = .ok (.aload_n 0, 1) := by decide +kernel
theorem dX7_text_93 : decode cX7_text 93 = .ok (.getfield 144, 3) := by decide +kernel
theorem dX7_text_96 : decode cX7_text 96 = .ok (.isub, 1) := by decide +kernel
theorem dX7_text_97 : decode cX7_text 97 = .ok (.ireturn, 1) := by decide +kernel
theorem dX7_text_98 : decode cX7_text 98 = .ok (.sipush 140, 3) := by decide +kernel
theorem dX7_text_101 : decode cX7_text 101 = .ok (.bipush 121, 2) := by decide +kernel
theorem dX7_text_103 : decode cX7_text 103 = .ok (.iload_n 1, 1) := by decide +kernel
theorem dX7_text_104 : decode cX7_text 104 = .ok (.imul, 1) := by decide +kernel
theorem dX7_text_105 : decode cX7_text 105 = .ok (.iadd, 1) := by decide +kernel
theorem dX7_text_106 : decode cX7_text 106 = .ok (.istore_n 2, 1) := by decide +kernel
theorem dX7_text_107 : decode cX7_text 107 = .ok (.aload_n 0, 1) := by decide +kernel
theorem dX7_text_108 : decode cX7_text 108 = .ok (.getfield 9, 3) := by decide +kernel
theorem dX7_text_111 : decode cX7_text 111 = .ok (.iload_n 2, 1) := by decide +kernel
theorem dX7_text_112 : decode cX7_text 112 = .ok (.aload_n 0, 1) := by decide +kernel
theorem dX7_text_113 : decode cX7_text 113 = .ok (.getfield 148, 3) := by decide +kernel
theorem dX7_text_116 : decode cX7_text 116 = .ok (.iastore, 1) := by decide +kernel
theorem dX7_text_117 : decode cX7_text 117 = .ok (.iconst 0, 1) := by decide +kernel
theorem dX7_text_118 : decode cX7_text 118 = .ok (.istore_n 3, 1) := by decide +kernel
theorem dX7_text_119 : decode cX7_text 119 = .ok (.iload_n 3, 1) := by decide +kernel
theorem dX7_text_120 : decode cX7_text 120 = .ok (.aload_n 0, 1) := by decide +kernel
theorem dX7_text_121 : decode cX7_text 121 = .ok (.getfield 148, 3) := by decide +kernel
theorem dX7_text_124 : decode cX7_text 124 = .ok (.if_icmp .ge 42, 3) := by decide +kernel
theorem dX7_text_127 : decode cX7_text 127 = .ok (.aload_n 0, 1) := by decide +kernel
theorem dX7_text_128 : decode cX7_text 128 = .ok (.getfield 9, 3) := by decide +kernel
theorem dX7_text_131 : decode cX7_text 131 = .ok (.iload_n 2, 1) := by decide +kernel
theorem dX7_text_132 : decode cX7_text 132 = .ok (.iconst 1, 1) := by decide +kernel
theorem dX7_text_133 : decode cX7_text 133 = .ok (.iadd, 1) := by decide +kernel
theorem dX7_text_134 : decode cX7_text 134 = .ok (.iload_n 3, 1) := by decide +kernel
theorem dX7_text_135 : decode cX7_text 135 = .ok (.iadd, 1) := by decide +kernel
theorem dX7_text_136 : decode cX7_text 136 = .ok (.aload_n 0, 1) := by decide +kernel
theorem dX7_text_137 : decode cX7_text 137 = .ok (.getfield 41, 3) := by decide +kernel
theorem dX7_text_140 : decode cX7_text 140 = .ok (.iload_n 3, 1) := by decide +kernel
theorem dX7_text_141 : decode cX7_text 141 = .ok (.iaload, 1) := by decide +kernel
theorem dX7_text_142 : decode cX7_text 142 = .ok (.iastore, 1) := by decide +kernel
theorem dX7_text_143 : decode cX7_text 143 = .ok (.aload_n 0, 1) := by decide +kernel
theorem dX7_text_144 : decode cX7_text 144 = .ok (.getfield 9, 3) := by decide +kernel
theorem dX7_text_147 : decode cX7_text 147 = .ok (.iload_n 2, 1) := by decide +kernel
theorem dX7_text_148 : decode cX7_text 148 = .ok (.bipush 61, 2) := by decide +kernel
theorem dX7_text_150 : decode cX7_text 150 = .ok (.iadd, 1) := by decide +kernel
theorem dX7_text_151 : decode cX7_text 151 = .ok (.iload_n 3, 1) := by decide +kernel
theorem dX7_text_152 : decode cX7_text 152 = .ok (.iadd, 1) := by decide +kernel
theorem dX7_text_153 : decode cX7_text 153 = .ok (.aload_n 0, 1) := by decide +kernel
theorem dX7_text_154 : decode cX7_text 154 = .ok (.getfield 44, 3) := by decide +kernel
theorem dX7_text_157 : decode cX7_text 157 = .ok (.iload_n 3, 1) := by decide +kernel
theorem dX7_text_158 : decode cX7_text 158 = .ok (.iaload, 1) := by decide +kernel
theorem dX7_text_159 : decode cX7_text 159 = .ok (.iastore, 1) := by decide +kernel
theorem dX7_text_160 : decode cX7_text 160 = .ok (.iinc 3 1, 3) := by decide +kernel
theorem dX7_text_163 : decode cX7_text 163 = .ok (.goto (-44), 3) := by decide +kernel
theorem dX7_text_166 : decode cX7_text 166 = .ok (.iconst 1, 1) := by decide +kernel
theorem dX7_text_167 : decode cX7_text 167 = .ok (.ireturn, 1) := by decide +kernel
theorem dX7_untell_0 : decode cX7_untell 0 = .ok (.iload_n 1, 1) := by decide +kernel
theorem dX7_untell_1 : decode cX7_untell 1 = .ok (.iconst 0, 1) := by decide +kernel
theorem dX7_untell_2 : decode cX7_untell 2 = .ok (.iconst 1, 1) := by decide +kernel
theorem dX7_untell_3 : decode cX7_untell 3 = .ok (.invokestatic 61, 3) := by decide +kernel
theorem dX7_untell_6 : decode cX7_untell 6 = .ok (.ifCond .ne 10, 3) := by decide +kernel
theorem dX7_untell_9 : decode cX7_untell 9 = .ok (.aload_n 0, 1) := by decide +kernel
theorem dX7_untell_10 : decode cX7_untell 10 = .ok (.ldc 125, 2) := by decide +kernel
theorem dX7_untell_12 : decode cX7_untell 12 = .ok (.invokevirtual 126, 3) := by decide +kernel
theorem dX7_untell_15 : decode cX7_untell 15 = .ok (.ireturn, 1) := by decide +kernel
theorem dX7_untell_16 : decode cX7_untell 16 = .ok (.aload_n 0, 1) := by decide +kernel
theorem dX7_untell_17 : decode cX7_untell 17 = .ok (.sipush 140, 3) := by decide +kernel
theorem dX7_untell_20 : decode cX7_untell 20 = .ok (.bipush 121, 2) := by decide +kernel
theorem dX7_untell_22 : decode cX7_untell 22 = .ok (.iload_n 1, 1) := by decide +kernel
theorem dX7_untell_23 : decode cX7_untell 23 = .ok (.imul, 1) := by decide +kernel
theorem dX7_untell_24 : decode cX7_untell 24 = .ok (.iadd, 1) := by decide +kernel
theorem dX7_untell_25 : decode cX7_untell 25 = .ok (.iconst 0, 1) := by decide +kernel
theorem dX7_untell_26 : decode cX7_untell 26 = .ok (.invokevirtual 137, 3) := by decide +kernel
theorem dX7_untell_29 : decode cX7_untell 29 = .ok (.ifCond .le 7, 3) := by decide +kernel
theorem dX7_untell_32 : decode cX7_untell 32 = .ok (.iconst 1, 1) := by decide +kernel
theorem dX7_untell_33 : decode cX7_untell 33 = .ok (.goto 4, 3) := by decide +kernel
theorem dX7_untell_36 : decode cX7_untell 36 = .ok (.iconst 0, 1) := by decide +kernel
theorem dX7_untell_37 : decode cX7_untell 37 = .ok (.ireturn, 1) := by decide +kernel
theorem dX7_twoOf_0 : decode cX7_twoOf 0 = .ok (.iload_n 0, 1) := by decide +kernel
theorem dX7_twoOf_1 : decode cX7_twoOf 1 = .ok (.tableswitch 202 37 62 #[143, 188, 202, 202, 202, 127, 119, 202, 123, 202, 131, 202, 202, 202, 202, 202, 202, 202, 202, 202, 202, 202, 202, 155, 166, 177], 119) := by decide +kernel
theorem dX7_twoOf_120 : decode cX7_twoOf 120 = .ok (.iload_n 1, 1) := by decide +kernel
theorem dX7_twoOf_121 : decode cX7_twoOf 121 = .ok (.iload_n 2, 1) := by decide +kernel
theorem dX7_twoOf_122 : decode cX7_twoOf 122 = .ok (.iadd, 1) := by decide +kernel
theorem dX7_twoOf_123 : decode cX7_twoOf 123 = .ok (.ireturn, 1) := by decide +kernel
theorem dX7_twoOf_124 : decode cX7_twoOf 124 = .ok (.iload_n 1, 1) := by decide +kernel
theorem dX7_twoOf_125 : decode cX7_twoOf 125 = .ok (.iload_n 2, 1) := by decide +kernel
theorem dX7_twoOf_126 : decode cX7_twoOf 126 = .ok (.isub, 1) := by decide +kernel
theorem dX7_twoOf_127 : decode cX7_twoOf 127 = .ok (.ireturn, 1) := by decide +kernel
theorem dX7_twoOf_128 : decode cX7_twoOf 128 = .ok (.iload_n 1, 1) := by decide +kernel
theorem dX7_twoOf_129 : decode cX7_twoOf 129 = .ok (.iload_n 2, 1) := by decide +kernel
theorem dX7_twoOf_130 : decode cX7_twoOf 130 = .ok (.imul, 1) := by decide +kernel
theorem dX7_twoOf_131 : decode cX7_twoOf 131 = .ok (.ireturn, 1) := by decide +kernel
theorem dX7_twoOf_132 : decode cX7_twoOf 132 = .ok (.iload_n 2, 1) := by decide +kernel
theorem dX7_twoOf_133 : decode cX7_twoOf 133 = .ok (.ifCond .ne 7, 3) := by decide +kernel
theorem dX7_twoOf_136 : decode cX7_twoOf 136 = .ok (.iconst 0, 1) := by decide +kernel
theorem dX7_twoOf_137 : decode cX7_twoOf 137 = .ok (.goto 6, 3) := by decide +kernel
theorem dX7_twoOf_140 : decode cX7_twoOf 140 = .ok (.iload_n 1, 1) := by decide +kernel
theorem dX7_twoOf_141 : decode cX7_twoOf 141 = .ok (.iload_n 2, 1) := by decide +kernel
theorem dX7_twoOf_142 : decode cX7_twoOf 142 = .ok (.idiv, 1) := by decide +kernel
theorem dX7_twoOf_143 : decode cX7_twoOf 143 = .ok (.ireturn, 1) := by decide +kernel
theorem dX7_twoOf_144 : decode cX7_twoOf 144 = .ok (.iload_n 2, 1) := by decide +kernel
theorem dX7_twoOf_145 : decode cX7_twoOf 145 = .ok (.ifCond .ne 7, 3) := by decide +kernel
theorem dX7_twoOf_148 : decode cX7_twoOf 148 = .ok (.iconst 0, 1) := by decide +kernel
theorem dX7_twoOf_149 : decode cX7_twoOf 149 = .ok (.goto 6, 3) := by decide +kernel
theorem dX7_twoOf_152 : decode cX7_twoOf 152 = .ok (.iload_n 1, 1) := by decide +kernel
theorem dX7_twoOf_153 : decode cX7_twoOf 153 = .ok (.iload_n 2, 1) := by decide +kernel
theorem dX7_twoOf_154 : decode cX7_twoOf 154 = .ok (.irem, 1) := by decide +kernel
theorem dX7_twoOf_155 : decode cX7_twoOf 155 = .ok (.ireturn, 1) := by decide +kernel
theorem dX7_twoOf_156 : decode cX7_twoOf 156 = .ok (.iload_n 1, 1) := by decide +kernel
theorem dX7_twoOf_157 : decode cX7_twoOf 157 = .ok (.iload_n 2, 1) := by decide +kernel
theorem dX7_twoOf_158 : decode cX7_twoOf 158 = .ok (.if_icmp .ge 7, 3) := by decide +kernel
theorem dX7_twoOf_161 : decode cX7_twoOf 161 = .ok (.iconst 1, 1) := by decide +kernel
theorem dX7_twoOf_162 : decode cX7_twoOf 162 = .ok (.goto 4, 3) := by decide +kernel
theorem dX7_twoOf_165 : decode cX7_twoOf 165 = .ok (.iconst 0, 1) := by decide +kernel
theorem dX7_twoOf_166 : decode cX7_twoOf 166 = .ok (.ireturn, 1) := by decide +kernel
theorem dX7_twoOf_167 : decode cX7_twoOf 167 = .ok (.iload_n 1, 1) := by decide +kernel
theorem dX7_twoOf_168 : decode cX7_twoOf 168 = .ok (.iload_n 2, 1) := by decide +kernel
theorem dX7_twoOf_169 : decode cX7_twoOf 169 = .ok (.if_icmp .ne 7, 3) := by decide +kernel
theorem dX7_twoOf_172 : decode cX7_twoOf 172 = .ok (.iconst 1, 1) := by decide +kernel
theorem dX7_twoOf_173 : decode cX7_twoOf 173 = .ok (.goto 4, 3) := by decide +kernel
theorem dX7_twoOf_176 : decode cX7_twoOf 176 = .ok (.iconst 0, 1) := by decide +kernel
theorem dX7_twoOf_177 : decode cX7_twoOf 177 = .ok (.ireturn, 1) := by decide +kernel
theorem dX7_twoOf_178 : decode cX7_twoOf 178 = .ok (.iload_n 1, 1) := by decide +kernel
theorem dX7_twoOf_179 : decode cX7_twoOf 179 = .ok (.iload_n 2, 1) := by decide +kernel
theorem dX7_twoOf_180 : decode cX7_twoOf 180 = .ok (.if_icmp .le 7, 3) := by decide +kernel
theorem dX7_twoOf_183 : decode cX7_twoOf 183 = .ok (.iconst 1, 1) := by decide +kernel
theorem dX7_twoOf_184 : decode cX7_twoOf 184 = .ok (.goto 4, 3) := by decide +kernel
theorem dX7_twoOf_187 : decode cX7_twoOf 187 = .ok (.iconst 0, 1) := by decide +kernel
theorem dX7_twoOf_188 : decode cX7_twoOf 188 = .ok (.ireturn, 1) := by decide +kernel
theorem dX7_twoOf_189 : decode cX7_twoOf 189 = .ok (.iload_n 1, 1) := by decide +kernel
theorem dX7_twoOf_190 : decode cX7_twoOf 190 = .ok (.ifCond .eq 11, 3) := by decide +kernel
theorem dX7_twoOf_193 : decode cX7_twoOf 193 = .ok (.iload_n 2, 1) := by decide +kernel
theorem dX7_twoOf_194 : decode cX7_twoOf 194 = .ok (.ifCond .eq 7, 3) := by decide +kernel
theorem dX7_twoOf_197 : decode cX7_twoOf 197 = .ok (.iconst 1, 1) := by decide +kernel
theorem dX7_twoOf_198 : decode cX7_twoOf 198 = .ok (.goto 4, 3) := by decide +kernel
theorem dX7_twoOf_201 : decode cX7_twoOf 201 = .ok (.iconst 0, 1) := by decide +kernel
theorem dX7_twoOf_202 : decode cX7_twoOf 202 = .ok (.ireturn, 1) := by decide +kernel
theorem dX7_twoOf_203 : decode cX7_twoOf 203 = .ok (.iload_n 1, 1) := by decide +kernel
theorem dX7_twoOf_204 : decode cX7_twoOf 204 = .ok (.ifCond .ne 7, 3) := by decide +kernel
theorem dX7_twoOf_207 : decode cX7_twoOf 207 = .ok (.iload_n 2, 1) := by decide +kernel
theorem dX7_twoOf_208 : decode cX7_twoOf 208 = .ok (.ifCond .eq 7, 3) := by decide +kernel
theorem dX7_twoOf_211 : decode cX7_twoOf 211 = .ok (.iconst 1, 1) := by decide +kernel
theorem dX7_twoOf_212 : decode cX7_twoOf 212 = .ok (.goto 4, 3) := by decide +kernel
theorem dX7_twoOf_215 : decode cX7_twoOf 215 = .ok (.iconst 0, 1) := by decide +kernel
theorem dX7_twoOf_216 : decode cX7_twoOf 216 = .ok (.ireturn, 1) := by decide +kernel
theorem dX7_works_0 : decode cX7_works 0 = .ok (.iconst 0, 1) := by decide +kernel
theorem dX7_works_1 : decode cX7_works 1 = .ok (.istore_n 2, 1) := by decide +kernel
theorem dX7_works_2 : decode cX7_works 2 = .ok (.iconst 0, 1) := by decide +kernel
theorem dX7_works_3 : decode cX7_works 3 = .ok (.istore_n 3, 1) := by decide +kernel
theorem dX7_works_4 : decode cX7_works 4 = .ok (.iload_n 3, 1) := by decide +kernel
theorem dX7_works_5 : decode cX7_works 5 = .ok (.aload_n 0, 1) := by decide +kernel
theorem dX7_works_6 : decode cX7_works 6 = .ok (.getfield 9, 3) := by decide +kernel
theorem dX7_works_9 : decode cX7_works 9 = .ok (.iload_n 1, 1) := by decide +kernel
theorem dX7_works_10 : decode cX7_works 10 = .ok (.iaload, 1) := by decide +kernel
theorem dX7_works_11 : decode cX7_works 11 = .ok (.if_icmp .ge 144, 3) := by decide +kernel
theorem dX7_works_14 : decode cX7_works 14 = .ok (.aload_n 0, 1) := by decide +kernel
theorem dX7_works_15 : decode cX7_works 15 = .ok (.getfield 9, 3) := by decide +kernel
theorem dX7_works_18 : decode cX7_works 18 = .ok (.iload_n 1, 1) := by decide +kernel
theorem dX7_works_19 : decode cX7_works 19 = .ok (.iconst 1, 1) := by decide +kernel
theorem dX7_works_20 : decode cX7_works 20 = .ok (.iadd, 1) := by decide +kernel
theorem dX7_works_21 : decode cX7_works 21 = .ok (.iload_n 3, 1) := by decide +kernel
theorem dX7_works_22 : decode cX7_works 22 = .ok (.iadd, 1) := by decide +kernel
theorem dX7_works_23 : decode cX7_works 23 = .ok (.iaload, 1) := by decide +kernel
theorem dX7_works_24 : decode cX7_works 24 = .ok (.istore 4, 2) := by decide +kernel
theorem dX7_works_26 : decode cX7_works 26 = .ok (.iload 4, 2) := by decide +kernel
theorem dX7_works_28 : decode cX7_works 28 = .ok (.iconst 1, 1) := by decide +kernel
theorem dX7_works_29 : decode cX7_works 29 = .ok (.if_icmp .eq 9, 3) := by decide +kernel
theorem dX7_works_32 : decode cX7_works 32 = .ok (.iload 4, 2) := by decide +kernel
theorem dX7_works_34 : decode cX7_works 34 = .ok (.iconst 2, 1) := by decide +kernel
theorem dX7_works_35 : decode cX7_works 35 = .ok (.if_icmp .ne 51, 3) := by decide +kernel
theorem dX7_works_38 : decode cX7_works 38 = .ok (.aload_n 0, 1) := by decide +kernel
theorem dX7_works_39 : decode cX7_works 39 = .ok (.getfield 50, 3) := by decide +kernel
theorem dX7_works_42 : decode cX7_works 42 = .ok (.iload_n 2, 1) := by decide +kernel
theorem dX7_works_43 : decode cX7_works 43 = .ok (.iload 4, 2) := by decide +kernel
theorem dX7_works_45 : decode cX7_works 45 = .ok (.iconst 1, 1) := by decide +kernel
theorem dX7_works_46 : decode cX7_works 46 = .ok (.if_icmp .ne 17, 3) := by decide +kernel
theorem dX7_works_49 : decode cX7_works 49 = .ok (.aload_n 0, 1) := by decide +kernel
theorem dX7_works_50 : decode cX7_works 50 = .ok (.getfield 9, 3) := by decide +kernel
theorem dX7_works_53 : decode cX7_works 53 = .ok (.iload_n 1, 1) := by decide +kernel
theorem dX7_works_54 : decode cX7_works 54 = .ok (.bipush 61, 2) := by decide +kernel
theorem dX7_works_56 : decode cX7_works 56 = .ok (.iadd, 1) := by decide +kernel
theorem dX7_works_57 : decode cX7_works 57 = .ok (.iload_n 3, 1) := by decide +kernel
theorem dX7_works_58 : decode cX7_works 58 = .ok (.iadd, 1) := by decide +kernel
theorem dX7_works_59 : decode cX7_works 59 = .ok (.iaload, 1) := by decide +kernel
theorem dX7_works_60 : decode cX7_works 60 = .ok (.goto 19, 3) := by decide +kernel
theorem dX7_works_63 : decode cX7_works 63 = .ok (.aload_n 0, 1) := by decide +kernel
theorem dX7_works_64 : decode cX7_works 64 = .ok (.getfield 47, 3) := by decide +kernel
theorem dX7_works_67 : decode cX7_works 67 = .ok (.aload_n 0, 1) := by decide +kernel
theorem dX7_works_68 : decode cX7_works 68 = .ok (.getfield 9, 3) := by decide +kernel
theorem dX7_works_71 : decode cX7_works 71 = .ok (.iload_n 1, 1) := by decide +kernel
theorem dX7_works_72 : decode cX7_works 72 = .ok (.bipush 61, 2) := by decide +kernel
theorem dX7_works_74 : decode cX7_works 74 = .ok (.iadd, 1) := by decide +kernel
theorem dX7_works_75 : decode cX7_works 75 = .ok (.iload_n 3, 1) := by decide +kernel
theorem dX7_works_76 : decode cX7_works 76 = .ok (.iadd, 1) := by decide +kernel
theorem dX7_works_77 : decode cX7_works 77 = .ok (.iaload, 1) := by decide +kernel
theorem dX7_works_78 : decode cX7_works 78 = .ok (.iaload, 1) := by decide +kernel
theorem dX7_works_79 : decode cX7_works 79 = .ok (.iastore, 1) := by decide +kernel
theorem dX7_works_80 : decode cX7_works 80 = .ok (.iinc 2 1, 3) := by decide +kernel
theorem dX7_works_83 : decode cX7_works 83 = .ok (.goto 66, 3) := by decide +kernel
theorem dX7_works_86 : decode cX7_works 86 = .ok (.iload 4, 2) := by decide +kernel
theorem dX7_works_88 : decode cX7_works 88 = .ok (.iconst 3, 1) := by decide +kernel
theorem dX7_works_89 : decode cX7_works 89 = .ok (.if_icmp .ne 30, 3) := by decide +kernel
theorem dX7_works_92 : decode cX7_works 92 = .ok (.aload_n 0, 1) := by decide +kernel
theorem dX7_works_93 : decode cX7_works 93 = .ok (.getfield 50, 3) := by decide +kernel
theorem dX7_works_96 : decode cX7_works 96 = .ok (.iload_n 2, 1) := by decide +kernel
theorem dX7_works_97 : decode cX7_works 97 = .ok (.iconst 1, 1) := by decide +kernel
theorem dX7_works_98 : decode cX7_works 98 = .ok (.isub, 1) := by decide +kernel
theorem dX7_works_99 : decode cX7_works 99 = .ok (.aload_n 0, 1) := by decide +kernel
theorem dX7_works_100 : decode cX7_works 100 = .ok (.getfield 50, 3) := by decide +kernel
theorem dX7_works_103 : decode cX7_works 103 = .ok (.iload_n 2, 1) := by decide +kernel
theorem dX7_works_104 : decode cX7_works 104 = .ok (.iconst 1, 1) := by decide +kernel
theorem dX7_works_105 : decode cX7_works 105 = .ok (.isub, 1) := by decide +kernel
theorem dX7_works_106 : decode cX7_works 106 = .ok (.iaload, 1) := by decide +kernel
theorem dX7_works_107 : decode cX7_works 107 = .ok (.ifCond .ne 7, 3) := by decide +kernel
theorem dX7_works_110 : decode cX7_works 110 = .ok (.iconst 1, 1) := by decide +kernel
theorem dX7_works_111 : decode cX7_works 111 = .ok (.goto 4, 3) := by decide +kernel
theorem dX7_works_114 : decode cX7_works 114 = .ok (.iconst 0, 1) := by decide +kernel
theorem dX7_works_115 : decode cX7_works 115 = .ok (.iastore, 1) := by decide +kernel
theorem dX7_works_116 : decode cX7_works 116 = .ok (.goto 33, 3) := by decide +kernel
theorem dX7_works_119 : decode cX7_works 119 = .ok (.iinc 2 (-1), 3) := by decide +kernel
theorem dX7_works_122 : decode cX7_works 122 = .ok (.aload_n 0, 1) := by decide +kernel
theorem dX7_works_123 : decode cX7_works 123 = .ok (.getfield 50, 3) := by decide +kernel
theorem dX7_works_126 : decode cX7_works 126 = .ok (.iload_n 2, 1) := by decide +kernel
theorem dX7_works_127 : decode cX7_works 127 = .ok (.iconst 1, 1) := by decide +kernel
theorem dX7_works_128 : decode cX7_works 128 = .ok (.isub, 1) := by decide +kernel
theorem dX7_works_129 : decode cX7_works 129 = .ok (.iload 4, 2) := by decide +kernel
theorem dX7_works_131 : decode cX7_works 131 = .ok (.aload_n 0, 1) := by decide +kernel
theorem dX7_works_132 : decode cX7_works 132 = .ok (.getfield 50, 3) := by decide +kernel
theorem dX7_works_135 : decode cX7_works 135 = .ok (.iload_n 2, 1) := by decide +kernel
theorem dX7_works_136 : decode cX7_works 136 = .ok (.iconst 1, 1) := by decide +kernel
theorem dX7_works_137 : decode cX7_works 137 = .ok (.isub, 1) := by decide +kernel
theorem dX7_works_138 : decode cX7_works 138 = .ok (.iaload, 1) := by decide +kernel
theorem dX7_works_139 : decode cX7_works 139 = .ok (.aload_n 0, 1) := by decide +kernel
theorem dX7_works_140 : decode cX7_works 140 = .ok (.getfield 50, 3) := by decide +kernel
theorem dX7_works_143 : decode cX7_works 143 = .ok (.iload_n 2, 1) := by decide +kernel
theorem dX7_works_144 : decode cX7_works 144 = .ok (.iaload, 1) := by decide +kernel
theorem dX7_works_145 : decode cX7_works 145 = .ok (.invokestatic 195, 3) := by decide +kernel
theorem dX7_works_148 : decode cX7_works 148 = .ok (.iastore, 1) := by decide +kernel
theorem dX7_works_149 : decode cX7_works 149 = .ok (.iinc 3 1, 3) := by decide +kernel
theorem dX7_works_152 : decode cX7_works 152 = .ok (.goto (-148), 3) := by decide +kernel
theorem dX7_works_155 : decode cX7_works 155 = .ok (.aload_n 0, 1) := by decide +kernel
theorem dX7_works_156 : decode cX7_works 156 = .ok (.getfield 50, 3) := by decide +kernel
theorem dX7_works_159 : decode cX7_works 159 = .ok (.iconst 0, 1) := by decide +kernel
theorem dX7_works_160 : decode cX7_works 160 = .ok (.iaload, 1) := by decide +kernel
theorem dX7_works_161 : decode cX7_works 161 = .ok (.ireturn, 1) := by decide +kernel
theorem dX7_gives_0 : decode cX7_gives 0 = .ok (.sipush 140, 3) := by decide +kernel
theorem dX7_gives_3 : decode cX7_gives 3 = .ok (.bipush 121, 2) := by decide +kernel
theorem dX7_gives_5 : decode cX7_gives 5 = .ok (.iload_n 1, 1) := by decide +kernel
theorem dX7_gives_6 : decode cX7_gives 6 = .ok (.imul, 1) := by decide +kernel
theorem dX7_gives_7 : decode cX7_gives 7 = .ok (.iadd, 1) := by decide +kernel
theorem dX7_gives_8 : decode cX7_gives 8 = .ok (.istore 5, 2) := by decide +kernel
theorem dX7_gives_10 : decode cX7_gives 10 = .ok (.aload_n 0, 1) := by decide +kernel
theorem dX7_gives_11 : decode cX7_gives 11 = .ok (.getfield 47, 3) := by decide +kernel
theorem dX7_gives_14 : decode cX7_gives 14 = .ok (.iconst 0, 1) := by decide +kernel
theorem dX7_gives_15 : decode cX7_gives 15 = .ok (.iload_n 2, 1) := by decide +kernel
theorem dX7_gives_16 : decode cX7_gives 16 = .ok (.iastore, 1) := by decide +kernel
theorem dX7_gives_17 : decode cX7_gives 17 = .ok (.aload_n 0, 1) := by decide +kernel
theorem dX7_gives_18 : decode cX7_gives 18 = .ok (.getfield 47, 3) := by decide +kernel
theorem dX7_gives_21 : decode cX7_gives 21 = .ok (.iconst 1, 1) := by decide +kernel
theorem dX7_gives_22 : decode cX7_gives 22 = .ok (.iload_n 3, 1) := by decide +kernel
theorem dX7_gives_23 : decode cX7_gives 23 = .ok (.iastore, 1) := by decide +kernel
theorem dX7_gives_24 : decode cX7_gives 24 = .ok (.aload_n 0, 1) := by decide +kernel
theorem dX7_gives_25 : decode cX7_gives 25 = .ok (.getfield 47, 3) := by decide +kernel
theorem dX7_gives_28 : decode cX7_gives 28 = .ok (.iconst 2, 1) := by decide +kernel
theorem dX7_gives_29 : decode cX7_gives 29 = .ok (.iload 4, 2) := by decide +kernel
theorem dX7_gives_31 : decode cX7_gives 31 = .ok (.iastore, 1) := by decide +kernel
theorem dX7_gives_32 : decode cX7_gives 32 = .ok (.aload_n 0, 1) := by decide +kernel
theorem dX7_gives_33 : decode cX7_gives 33 = .ok (.getfield 9, 3) := by decide +kernel
theorem dX7_gives_36 : decode cX7_gives 36 = .ok (.iload 5, 2) := by decide +kernel
theorem dX7_gives_38 : decode cX7_gives 38 = .ok (.iaload, 1) := by decide +kernel
theorem dX7_gives_39 : decode cX7_gives 39 = .ok (.ifCond .le 12, 3) := by decide +kernel
theorem dX7_gives_42 : decode cX7_gives 42 = .ok (.aload_n 0, 1) := by decide +kernel
theorem dX7_gives_43 : decode cX7_gives 43 = .ok (.iload 5, 2) := by decide +kernel
theorem dX7_gives_45 : decode cX7_gives 45 = .ok (.invokevirtual 199, 3) := by decide +kernel
theorem dX7_gives_48 : decode cX7_gives 48 = .ok (.goto 4, 3) := by decide +kernel
theorem dX7_gives_51 : decode cX7_gives 51 = .ok (.iload_n 2, 1) := by decide +kernel
theorem dX7_gives_52 : decode cX7_gives 52 = .ok (.istore 6, 2) := by decide +kernel
theorem dX7_gives_54 : decode cX7_gives 54 = .ok (.iload_n 1, 1) := by decide +kernel
theorem dX7_gives_55 : decode cX7_gives 55 = .ok (.ifCond .ne 13, 3) := by decide +kernel
theorem dX7_gives_58 : decode cX7_gives 58 = .ok (.iload 6, 2) := by decide +kernel
theorem dX7_gives_60 : decode cX7_gives 60 = .ok (.iconst 1, 1) := by decide +kernel
theorem dX7_gives_61 : decode cX7_gives 61 = .ok (.iconst 4, 1) := by decide +kernel
theorem dX7_gives_62 : decode cX7_gives 62 = .ok (.invokestatic 202, 3) := by decide +kernel
theorem dX7_gives_65 : decode cX7_gives 65 = .ok (.goto 12, 3) := by decide +kernel
theorem dX7_gives_68 : decode cX7_gives 68 = .ok (.iload 6, 2) := by decide +kernel
theorem dX7_gives_70 : decode cX7_gives 70 = .ok (.bipush (-30), 2) := by decide +kernel
theorem dX7_gives_72 : decode cX7_gives 72 = .ok (.bipush 30, 2) := by decide +kernel
theorem dX7_gives_74 : decode cX7_gives 74 = .ok (.invokestatic 202, 3) := by decide +kernel
theorem dX7_gives_77 : decode cX7_gives 77 = .ok (.ireturn, 1) := by decide +kernel
theorem dX7_law_0 : decode cX7_law 0 = .ok (.iload_n 1, 1) := by decide +kernel
theorem dX7_law_1 : decode cX7_law 1 = .ok (.iconst 0, 1) := by decide +kernel
theorem dX7_law_2 : decode cX7_law 2 = .ok (.iconst 1, 1) := by decide +kernel
theorem dX7_law_3 : decode cX7_law 3 = .ok (.invokestatic 61, 3) := by decide +kernel
theorem dX7_law_6 : decode cX7_law 6 = .ok (.ifCond .eq 15, 3) := by decide +kernel
theorem dX7_law_9 : decode cX7_law 9 = .ok (.aload_n 0, 1) := by decide +kernel
theorem dX7_law_10 : decode cX7_law 10 = .ok (.iload_n 1, 1) := by decide +kernel
theorem dX7_law_11 : decode cX7_law 11 = .ok (.iload_n 2, 1) := by decide +kernel
theorem dX7_law_12 : decode cX7_law 12 = .ok (.iload_n 3, 1) := by decide +kernel
theorem dX7_law_13 : decode cX7_law 13 = .ok (.iload 4, 2) := by decide +kernel
theorem dX7_law_15 : decode cX7_law 15 = .ok (.invokevirtual 76, 3) := by decide +kernel
theorem dX7_law_18 : decode cX7_law 18 = .ok (.goto 9, 3) := by decide +kernel
theorem dX7_law_21 : decode cX7_law 21 = .ok (.aload_n 0, 1) := by decide +kernel
theorem dX7_law_22 : decode cX7_law 22 = .ok (.ldc 125, 2) := by decide +kernel
theorem dX7_law_24 : decode cX7_law 24 = .ok (.invokevirtual 126, 3) := by decide +kernel
theorem dX7_law_27 : decode cX7_law 27 = .ok (.ireturn, 1) := by decide +kernel
theorem dX7_goes_0 : decode cX7_goes 0 = .ok (.aload_n 0, 1) := by decide +kernel
theorem dX7_goes_1 : decode cX7_goes 1 = .ok (.invokevirtual 205, 3) := by decide +kernel
theorem dX7_goes_4 : decode cX7_goes 4 = .ok (.ifCond .eq 57, 3) := by decide +kernel
theorem dX7_goes_7 : decode cX7_goes 7 = .ok (.aload_n 0, 1) := by decide +kernel
theorem dX7_goes_8 : decode cX7_goes 8 = .ok (.invokevirtual 209, 3) := by decide +kernel
theorem dX7_goes_11 : decode cX7_goes 11 = .ok (.istore_n 1, 1) := by decide +kernel
theorem dX7_goes_12 : decode cX7_goes 12 = .ok (.aload_n 0, 1) := by decide +kernel
theorem dX7_goes_13 : decode cX7_goes 13 = .ok (.iload_n 1, 1) := by decide +kernel
theorem dX7_goes_14 : decode cX7_goes 14 = .ok (.invokevirtual 116, 3) := by decide +kernel
theorem dX7_goes_17 : decode cX7_goes 17 = .ok (.aload_n 0, 1) := by decide +kernel
theorem dX7_goes_18 : decode cX7_goes 18 = .ok (.getfield 9, 3) := by decide +kernel
theorem dX7_goes_21 : decode cX7_goes 21 = .ok (.iconst 4, 1) := by decide +kernel
theorem dX7_goes_22 : decode cX7_goes 22 = .ok (.iaload, 1) := by decide +kernel
theorem dX7_goes_23 : decode cX7_goes 23 = .ok (.i2l, 1) := by decide +kernel
theorem dX7_goes_24 : decode cX7_goes 24 = .ok (.aload_n 0, 1) := by decide +kernel
theorem dX7_goes_25 : decode cX7_goes 25 = .ok (.getfield 108, 3) := by decide +kernel
theorem dX7_goes_28 : decode cX7_goes 28 = .ok (.lmul, 1) := by decide +kernel
theorem dX7_goes_29 : decode cX7_goes 29 = .ok (.lcmp, 1) := by decide +kernel
theorem dX7_goes_30 : decode cX7_goes 30 = .ok (.ifCond .le 31, 3) := by decide +kernel
theorem dX7_goes_33 : decode cX7_goes 33 = .ok (.aload_n 0, 1) := by decide +kernel
theorem dX7_goes_34 : decode cX7_goes 34 = .ok (.iload_n 1, 1) := by decide +kernel
theorem dX7_goes_35 : decode cX7_goes 35 = .ok (.iconst 5, 1) := by decide +kernel
theorem dX7_goes_36 : decode cX7_goes 36 = .ok (.iconst 0, 1) := by decide +kernel
theorem dX7_goes_37 : decode cX7_goes 37 = .ok (.invokevirtual 130, 3) := by decide +kernel
theorem dX7_goes_40 : decode cX7_goes 40 = .ok (.aload_n 0, 1) := by decide +kernel
theorem dX7_goes_41 : decode cX7_goes 41 = .ok (.getfield 9, 3) := by decide +kernel
theorem dX7_goes_44 : decode cX7_goes 44 = .ok (.iconst 5, 1) := by decide +kernel
theorem dX7_goes_45 : decode cX7_goes 45 = .ok (.aload_n 0, 1) := by decide +kernel
theorem dX7_goes_46 : decode cX7_goes 46 = .ok (.getfield 9, 3) := by decide +kernel
theorem dX7_goes_49 : decode cX7_goes 49 = .ok (.iconst 5, 1) := by decide +kernel
theorem dX7_goes_50 : decode cX7_goes 50 = .ok (.iaload, 1) := by decide +kernel
theorem dX7_goes_51 : decode cX7_goes 51 = .ok (.iconst 1, 1) := by decide +kernel
theorem dX7_goes_52 : decode cX7_goes 52 = .ok (.iadd, 1) := by decide +kernel
theorem dX7_goes_53 : decode cX7_goes 53 = .ok (.iconst 0, 1) := by decide +kernel
theorem dX7_goes_54 : decode cX7_goes 54 = .ok (.sipush 9999, 3) := by decide +kernel
theorem dX7_goes_57 : decode cX7_goes 57 = .ok (.invokestatic 202, 3) := by decide +kernel
theorem dX7_goes_60 : decode cX7_goes 60 = .ok (.iastore, 1) := by decide +kernel
theorem dX7_goes_61 : decode cX7_goes 61 = .ok (.aload_n 0, 1) := by decide +kernel
theorem dX7_goes_62 : decode cX7_goes 62 = .ok (.getfield 9, 3) := by decide +kernel
theorem dX7_goes_65 : decode cX7_goes 65 = .ok (.iconst 0, 1) := by decide +kernel
theorem dX7_goes_66 : decode cX7_goes 66 = .ok (.dup2, 1) := by decide +kernel
theorem dX7_goes_67 : decode cX7_goes 67 = .ok (.iaload, 1) := by decide +kernel
theorem dX7_goes_68 : decode cX7_goes 68 = .ok (.iconst 1, 1) := by decide +kernel
theorem dX7_goes_69 : decode cX7_goes 69 = .ok (.iadd, 1) := by decide +kernel
theorem dX7_goes_70 : decode cX7_goes 70 = .ok (.iastore, 1) := by decide +kernel
theorem dX7_goes_71 : decode cX7_goes 71 = .ok (.return_, 1) := by decide +kernel
theorem dX7_goesFor_0 : decode cX7_goesFor 0 = .ok (.iconst 0, 1) := by decide +kernel
theorem dX7_goesFor_1 : decode cX7_goesFor 1 = .ok (.istore_n 2, 1) := by decide +kernel
theorem dX7_goesFor_2 : decode cX7_goesFor 2 = .ok (.iload_n 2, 1) := by decide +kernel
theorem dX7_goesFor_3 : decode cX7_goesFor 3 = .ok (.iload_n 1, 1) := by decide +kernel
theorem dX7_goesFor_4 : decode cX7_goesFor 4 = .ok (.if_icmp .ge 13, 3) := by decide +kernel
theorem dX7_goesFor_7 : decode cX7_goesFor 7 = .ok (.aload_n 0, 1) := by decide +kernel
theorem dX7_goesFor_8 : decode cX7_goesFor 8 = .ok (.invokevirtual 212, 3) := by decide +kernel
theorem dX7_goesFor_11 : decode cX7_goesFor 11 = .ok (.iinc 2 1, 3) := by decide +kernel
theorem dX7_goesFor_14 : decode cX7_goesFor 14 = .ok (.goto (-12), 3) := by decide +kernel
theorem dX7_goesFor_17 : decode cX7_goesFor 17 = .ok (.return_, 1) := by decide +kernel
theorem dX7_rounds_0 : decode cX7_rounds 0 = .ok (.iload_n 1, 1) := by decide +kernel
theorem dX7_rounds_1 : decode cX7_rounds 1 = .ok (.iconst 1, 1) := by decide +kernel
theorem dX7_rounds_2 : decode cX7_rounds 2 = .ok (.bipush 60, 2) := by decide +kernel
theorem dX7_rounds_4 : decode cX7_rounds 4 = .ok (.invokestatic 61, 3) := by decide +kernel
theorem dX7_rounds_7 : decode cX7_rounds 7 = .ok (.ifCond .ne 10, 3) := by decide +kernel
theorem dX7_rounds_10 : decode cX7_rounds 10 = .ok (.aload_n 0, 1) := by decide +kernel
theorem dX7_rounds_11 : decode cX7_rounds 11 = .ok (.ldc 125, 2) := by decide +kernel
theorem dX7_rounds_13 : decode cX7_rounds 13 = .ok (.invokevirtual 126, 3) := by decide +kernel
theorem dX7_rounds_16 : decode cX7_rounds 16 = .ok (.ireturn, 1) := by decide +kernel
theorem dX7_rounds_17 : decode cX7_rounds 17 = .ok (.aload_n 0, 1) := by decide +kernel
theorem dX7_rounds_18 : decode cX7_rounds 18 = .ok (.getfield 9, 3) := by decide +kernel
theorem dX7_rounds_21 : decode cX7_rounds 21 = .ok (.iconst 0, 1) := by decide +kernel
theorem dX7_rounds_22 : decode cX7_rounds 22 = .ok (.iaload, 1) := by decide +kernel
theorem dX7_rounds_23 : decode cX7_rounds 23 = .ok (.iload_n 1, 1) := by decide +kernel
theorem dX7_rounds_24 : decode cX7_rounds 24 = .ok (.iadd, 1) := by decide +kernel
theorem dX7_rounds_25 : decode cX7_rounds 25 = .ok (.sipush 9999, 3) := by decide +kernel
theorem dX7_rounds_28 : decode cX7_rounds 28 = .ok (.if_icmp .le 10, 3) := by decide +kernel
theorem dX7_rounds_31 : decode cX7_rounds 31 = .ok (.aload_n 0, 1) := by decide +kernel
theorem dX7_rounds_32 : decode cX7_rounds 32 = .ok (.ldc 141, 2) := by decide +kernel
theorem dX7_rounds_34 : decode cX7_rounds 34 = .ok (.invokevirtual 126, 3) := by decide +kernel
theorem dX7_rounds_37 : decode cX7_rounds 37 = .ok (.ireturn, 1) := by decide +kernel
theorem dX7_rounds_38 : decode cX7_rounds 38 = .ok (.aload_n 0, 1) := by decide +kernel
theorem dX7_rounds_39 : decode cX7_rounds 39 = .ok (.iload_n 1, 1) := by decide +kernel
theorem dX7_rounds_40 : decode cX7_rounds 40 = .ok (.invokevirtual 215, 3) := by decide +kernel
theorem dX7_rounds_43 : decode cX7_rounds 43 = .ok (.aload_n 0, 1) := by decide +kernel
theorem dX7_rounds_44 : decode cX7_rounds 44 = .ok (.invokevirtual 96, 3) := by decide +kernel
theorem dX7_rounds_47 : decode cX7_rounds 47 = .ok (.invokestatic 218, 3) := by decide +kernel
theorem dX7_rounds_50 : decode cX7_rounds 50 = .ok (.ireturn, 1) := by decide +kernel
theorem dX7_draw_0 : decode cX7_draw 0 = .ok (.aload_n 0, 1) := by decide +kernel
theorem dX7_draw_1 : decode cX7_draw 1 = .ok (.getfield 9, 3) := by decide +kernel
theorem dX7_draw_4 : decode cX7_draw 4 = .ok (.iconst 1, 1) := by decide +kernel
theorem dX7_draw_5 : decode cX7_draw 5 = .ok (.aload_n 0, 1) := by decide +kernel
theorem dX7_draw_6 : decode cX7_draw 6 = .ok (.getfield 9, 3) := by decide +kernel
theorem dX7_draw_9 : decode cX7_draw 9 = .ok (.iconst 1, 1) := by decide +kernel
theorem dX7_draw_10 : decode cX7_draw 10 = .ok (.iaload, 1) := by decide +kernel
theorem dX7_draw_11 : decode cX7_draw 11 = .ok (.ldc 221, 2) := by decide +kernel
theorem dX7_draw_13 : decode cX7_draw 13 = .ok (.imul, 1) := by decide +kernel
theorem dX7_draw_14 : decode cX7_draw 14 = .ok (.sipush 12345, 3) := by decide +kernel
theorem dX7_draw_17 : decode cX7_draw 17 = .ok (.iadd, 1) := by decide +kernel
theorem dX7_draw_18 : decode cX7_draw 18 = .ok (.iastore, 1) := by decide +kernel
theorem dX7_draw_19 : decode cX7_draw 19 = .ok (.aload_n 0, 1) := by decide +kernel
theorem dX7_draw_20 : decode cX7_draw 20 = .ok (.getfield 9, 3) := by decide +kernel
theorem dX7_draw_23 : decode cX7_draw 23 = .ok (.iconst 1, 1) := by decide +kernel
theorem dX7_draw_24 : decode cX7_draw 24 = .ok (.iaload, 1) := by decide +kernel
theorem dX7_draw_25 : decode cX7_draw 25 = .ok (.bipush 8, 2) := by decide +kernel
theorem dX7_draw_27 : decode cX7_draw 27 = .ok (.iushr, 1) := by decide +kernel
theorem dX7_draw_28 : decode cX7_draw 28 = .ok (.ireturn, 1) := by decide +kernel
theorem dX7_drawn_0 : decode cX7_drawn 0 = .ok (.aload_n 0, 1) := by decide +kernel
theorem dX7_drawn_1 : decode cX7_drawn 1 = .ok (.getfield 9, 3) := by decide +kernel
theorem dX7_drawn_4 : decode cX7_drawn 4 = .ok (.iconst 2, 1) := by decide +kernel
theorem dX7_drawn_5 : decode cX7_drawn 5 = .ok (.iaload, 1) := by decide +kernel
theorem dX7_drawn_6 : decode cX7_drawn 6 = .ok (.ifCond .le 38, 3) := by decide +kernel
theorem dX7_drawn_9 : decode cX7_drawn 9 = .ok (.aload_n 0, 1) := by decide +kernel
theorem dX7_drawn_10 : decode cX7_drawn 10 = .ok (.invokevirtual 222, 3) := by decide +kernel
theorem dX7_drawn_13 : decode cX7_drawn 13 = .ok (.aload_n 0, 1) := by decide +kernel
theorem dX7_drawn_14 : decode cX7_drawn 14 = .ok (.getfield 9, 3) := by decide +kernel
theorem dX7_drawn_17 : decode cX7_drawn 17 = .ok (.iconst 2, 1) := by decide +kernel
theorem dX7_drawn_18 : decode cX7_drawn 18 = .ok (.iaload, 1) := by decide +kernel
theorem dX7_drawn_19 : decode cX7_drawn 19 = .ok (.irem, 1) := by decide +kernel
theorem dX7_drawn_20 : decode cX7_drawn 20 = .ok (.istore_n 1, 1) := by decide +kernel
theorem dX7_drawn_21 : decode cX7_drawn 21 = .ok (.aload_n 0, 1) := by decide +kernel
theorem dX7_drawn_22 : decode cX7_drawn 22 = .ok (.iload_n 1, 1) := by decide +kernel
theorem dX7_drawn_23 : decode cX7_drawn 23 = .ok (.iconst 4, 1) := by decide +kernel
theorem dX7_drawn_24 : decode cX7_drawn 24 = .ok (.aload_n 0, 1) := by decide +kernel
theorem dX7_drawn_25 : decode cX7_drawn 25 = .ok (.invokevirtual 222, 3) := by decide +kernel
theorem dX7_drawn_28 : decode cX7_drawn 28 = .ok (.bipush 41, 2) := by decide +kernel
theorem dX7_drawn_30 : decode cX7_drawn 30 = .ok (.irem, 1) := by decide +kernel
theorem dX7_drawn_31 : decode cX7_drawn 31 = .ok (.bipush 20, 2) := by decide +kernel
theorem dX7_drawn_33 : decode cX7_drawn 33 = .ok (.isub, 1) := by decide +kernel
theorem dX7_drawn_34 : decode cX7_drawn 34 = .ok (.invokevirtual 130, 3) := by decide +kernel
theorem dX7_drawn_37 : decode cX7_drawn 37 = .ok (.aload_n 0, 1) := by decide +kernel
theorem dX7_drawn_38 : decode cX7_drawn 38 = .ok (.iload_n 1, 1) := by decide +kernel
theorem dX7_drawn_39 : decode cX7_drawn 39 = .ok (.iconst 5, 1) := by decide +kernel
theorem dX7_drawn_40 : decode cX7_drawn 40 = .ok (.iconst 1, 1) := by decide +kernel
theorem dX7_drawn_41 : decode cX7_drawn 41 = .ok (.invokevirtual 130, 3) := by decide +kernel
theorem dX7_drawn_44 : decode cX7_drawn 44 = .ok (.aload_n 0, 1) := by decide +kernel
theorem dX7_drawn_45 : decode cX7_drawn 45 = .ok (.invokevirtual 212, 3) := by decide +kernel
theorem dX7_drawn_48 : decode cX7_drawn 48 = .ok (.return_, 1) := by decide +kernel
theorem dX7_loose_0 : decode cX7_loose 0 = .ok (.iload_n 1, 1) := by decide +kernel
theorem dX7_loose_1 : decode cX7_loose 1 = .ok (.iconst 1, 1) := by decide +kernel
theorem dX7_loose_2 : decode cX7_loose 2 = .ok (.bipush 30, 2) := by decide +kernel
theorem dX7_loose_4 : decode cX7_loose 4 = .ok (.invokestatic 61, 3) := by decide +kernel
theorem dX7_loose_7 : decode cX7_loose 7 = .ok (.ifCond .ne 10, 3) := by decide +kernel
theorem dX7_loose_10 : decode cX7_loose 10 = .ok (.aload_n 0, 1) := by decide +kernel
theorem dX7_loose_11 : decode cX7_loose 11 = .ok (.ldc 125, 2) := by decide +kernel
theorem dX7_loose_13 : decode cX7_loose 13 = .ok (.invokevirtual 126, 3) := by decide +kernel
theorem dX7_loose_16 : decode cX7_loose 16 = .ok (.ireturn, 1) := by decide +kernel
theorem dX7_loose_17 : decode cX7_loose 17 = .ok (.aload_n 0, 1) := by decide +kernel
theorem dX7_loose_18 : decode cX7_loose 18 = .ok (.getfield 9, 3) := by decide +kernel
theorem dX7_loose_21 : decode cX7_loose 21 = .ok (.iconst 0, 1) := by decide +kernel
theorem dX7_loose_22 : decode cX7_loose 22 = .ok (.iaload, 1) := by decide +kernel
theorem dX7_loose_23 : decode cX7_loose 23 = .ok (.iload_n 1, 1) := by decide +kernel
theorem dX7_loose_24 : decode cX7_loose 24 = .ok (.iadd, 1) := by decide +kernel
theorem dX7_loose_25 : decode cX7_loose 25 = .ok (.sipush 9999, 3) := by decide +kernel
theorem dX7_loose_28 : decode cX7_loose 28 = .ok (.if_icmp .le 10, 3) := by decide +kernel
theorem dX7_loose_31 : decode cX7_loose 31 = .ok (.aload_n 0, 1) := by decide +kernel
theorem dX7_loose_32 : decode cX7_loose 32 = .ok (.ldc 141, 2) := by decide +kernel
theorem dX7_loose_34 : decode cX7_loose 34 = .ok (.invokevirtual 126, 3) := by decide +kernel
theorem dX7_loose_37 : decode cX7_loose 37 = .ok (.ireturn, 1) := by decide +kernel
theorem dX7_loose_38 : decode cX7_loose 38 = .ok (.iconst 0, 1) := by decide +kernel
theorem dX7_loose_39 : decode cX7_loose 39 = .ok (.istore_n 2, 1) := by decide +kernel
theorem dX7_loose_40 : decode cX7_loose 40 = .ok (.iload_n 2, 1) := by decide +kernel
theorem dX7_loose_41 : decode cX7_loose 41 = .ok (.iload_n 1, 1) := by decide +kernel
theorem dX7_loose_42 : decode cX7_loose 42 = .ok (.if_icmp .ge 13, 3) := by decide +kernel
theorem dX7_loose_45 : decode cX7_loose 45 = .ok (.aload_n 0, 1) := by decide +kernel
theorem dX7_loose_46 : decode cX7_loose 46 = .ok (.invokevirtual 225, 3) := by decide +kernel
theorem dX7_loose_49 : decode cX7_loose 49 = .ok (.iinc 2 1, 3) := by decide +kernel
theorem dX7_loose_52 : decode cX7_loose 52 = .ok (.goto (-12), 3) := by decide +kernel
theorem dX7_loose_55 : decode cX7_loose 55 = .ok (.aload_n 0, 1) := by decide +kernel
theorem dX7_loose_56 : decode cX7_loose 56 = .ok (.invokevirtual 96, 3) := by decide +kernel
theorem dX7_loose_59 : decode cX7_loose 59 = .ok (.invokestatic 218, 3) := by decide +kernel
theorem dX7_loose_62 : decode cX7_loose 62 = .ok (.ireturn, 1) := by decide +kernel
theorem dX7_round_0 : decode cX7_round 0 = .ok (.iload_n 1, 1) := by decide +kernel
theorem dX7_round_1 : decode cX7_round 1 = .ok (.iconst 0, 1) := by decide +kernel
theorem dX7_round_2 : decode cX7_round 2 = .ok (.sipush 9999, 3) := by decide +kernel
theorem dX7_round_5 : decode cX7_round 5 = .ok (.invokestatic 61, 3) := by decide +kernel
theorem dX7_round_8 : decode cX7_round 8 = .ok (.ifCond .eq 12, 3) := by decide +kernel
theorem dX7_round_11 : decode cX7_round 11 = .ok (.aload_n 0, 1) := by decide +kernel
theorem dX7_round_12 : decode cX7_round 12 = .ok (.iconst 0, 1) := by decide +kernel
theorem dX7_round_13 : decode cX7_round 13 = .ok (.iload_n 1, 1) := by decide +kernel
theorem dX7_round_14 : decode cX7_round 14 = .ok (.invokevirtual 137, 3) := by decide +kernel
theorem dX7_round_17 : decode cX7_round 17 = .ok (.goto 9, 3) := by decide +kernel
theorem dX7_round_20 : decode cX7_round 20 = .ok (.aload_n 0, 1) := by decide +kernel
theorem dX7_round_21 : decode cX7_round 21 = .ok (.ldc 125, 2) := by decide +kernel
theorem dX7_round_23 : decode cX7_round 23 = .ok (.invokevirtual 126, 3) := by decide +kernel
theorem dX7_round_26 : decode cX7_round 26 = .ok (.ireturn, 1) := by decide +kernel
theorem dX7_seed_0 : decode cX7_seed 0 = .ok (.aload_n 0, 1) := by decide +kernel
theorem dX7_seed_1 : decode cX7_seed 1 = .ok (.iconst 1, 1) := by decide +kernel
theorem dX7_seed_2 : decode cX7_seed 2 = .ok (.iload_n 1, 1) := by decide +kernel
theorem dX7_seed_3 : decode cX7_seed 3 = .ok (.invokevirtual 137, 3) := by decide +kernel
theorem dX7_seed_6 : decode cX7_seed 6 = .ok (.ireturn, 1) := by decide +kernel
theorem dX7_isPart_0 : decode cX7_isPart 0 = .ok (.iload_n 0, 1) := by decide +kernel
theorem dX7_isPart_1 : decode cX7_isPart 1 = .ok (.iconst 0, 1) := by decide +kernel
theorem dX7_isPart_2 : decode cX7_isPart 2 = .ok (.iconst 1, 1) := by decide +kernel
theorem dX7_isPart_3 : decode cX7_isPart 3 = .ok (.invokestatic 61, 3) := by decide +kernel
theorem dX7_isPart_6 : decode cX7_isPart 6 = .ok (.ireturn, 1) := by decide +kernel
theorem dX7_place_0 : decode cX7_place 0 = .ok (.aload_n 0, 1) := by decide +kernel
theorem dX7_place_1 : decode cX7_place 1 = .ok (.iload_n 1, 1) := by decide +kernel
theorem dX7_place_2 : decode cX7_place 2 = .ok (.invokevirtual 122, 3) := by decide +kernel
theorem dX7_place_5 : decode cX7_place 5 = .ok (.ifCond .eq 10, 3) := by decide +kernel
theorem dX7_place_8 : decode cX7_place 8 = .ok (.iload_n 2, 1) := by decide +kernel
theorem dX7_place_9 : decode cX7_place 9 = .ok (.invokestatic 228, 3) := by decide +kernel
theorem dX7_place_12 : decode cX7_place 12 = .ok (.ifCond .ne 11, 3) := by decide +kernel
theorem dX7_place_15 : decode cX7_place 15 = .ok (.aload_n 0, 1) := by decide +kernel
theorem dX7_place_16 : decode cX7_place 16 = .ok (.ldc 125, 2) := by decide +kernel
theorem dX7_place_18 : decode cX7_place 18 = .ok (.invokevirtual 126, 3) := by decide +kernel
theorem dX7_place_21 : decode cX7_place 21 = .ok (.i2l, 1) := by decide +kernel
theorem dX7_place_22 : decode cX7_place 22 = .ok (.lreturn, 1) := by decide +kernel
theorem dX7_place_23 : decode cX7_place 23 = .ok (.aload_n 0, 1) := by decide +kernel
theorem dX7_place_24 : decode cX7_place 24 = .ok (.invokevirtual 205, 3) := by decide +kernel
theorem dX7_place_27 : decode cX7_place 27 = .ok (.ifCond .eq 20, 3) := by decide +kernel
theorem dX7_place_30 : decode cX7_place 30 = .ok (.aload_n 0, 1) := by decide +kernel
theorem dX7_place_31 : decode cX7_place 31 = .ok (.getfield 38, 3) := by decide +kernel
theorem dX7_place_34 : decode cX7_place 34 = .ok (.iload_n 1, 1) := by decide +kernel
theorem dX7_place_35 : decode cX7_place 35 = .ok (.laload, 1) := by decide +kernel
theorem dX7_place_36 : decode cX7_place 36 = .ok (.aload_n 0, 1) := by decide +kernel
theorem dX7_place_37 : decode cX7_place 37 = .ok (.getfield 108, 3) := by decide +kernel
theorem dX7_place_40 : decode cX7_place 40 = .ok (.iload_n 2, 1) := by decide +kernel
theorem dX7_place_41 : decode cX7_place 41 = .ok (.invokestatic 231, 3) := by decide +kernel
theorem dX7_place_44 : decode cX7_place 44 = .ok (.goto 10, 3) := by decide +kernel
theorem dX7_place_47 : decode cX7_place 47 = .ok (.aload_n 0, 1) := by decide +kernel
theorem dX7_place_48 : decode cX7_place 48 = .ok (.ldc 141, 2) := by decide +kernel
theorem dX7_place_50 : decode cX7_place 50 = .ok (.invokevirtual 126, 3) := by decide +kernel
theorem dX7_place_53 : decode cX7_place 53 = .ok (.i2l, 1) := by decide +kernel
theorem dX7_place_54 : decode cX7_place 54 = .ok (.lreturn, 1) := by decide +kernel
theorem dX7_miss_0 : decode cX7_miss 0 = .ok (.aload_n 0, 1) := by decide +kernel
theorem dX7_miss_1 : decode cX7_miss 1 = .ok (.iload_n 1, 1) := by decide +kernel
theorem dX7_miss_2 : decode cX7_miss 2 = .ok (.invokevirtual 134, 3) := by decide +kernel
theorem dX7_miss_5 : decode cX7_miss 5 = .ok (.ifCond .eq 10, 3) := by decide +kernel
theorem dX7_miss_8 : decode cX7_miss 8 = .ok (.iload_n 2, 1) := by decide +kernel
theorem dX7_miss_9 : decode cX7_miss 9 = .ok (.invokestatic 228, 3) := by decide +kernel
theorem dX7_miss_12 : decode cX7_miss 12 = .ok (.ifCond .ne 11, 3) := by decide +kernel
theorem dX7_miss_15 : decode cX7_miss 15 = .ok (.aload_n 0, 1) := by decide +kernel
theorem dX7_miss_16 : decode cX7_miss 16 = .ok (.ldc 125, 2) := by decide +kernel
theorem dX7_miss_18 : decode cX7_miss 18 = .ok (.invokevirtual 126, 3) := by decide +kernel
theorem dX7_miss_21 : decode cX7_miss 21 = .ok (.i2l, 1) := by decide +kernel
theorem dX7_miss_22 : decode cX7_miss 22 = .ok (.lreturn, 1) := by decide +kernel
theorem dX7_miss_23 : decode cX7_miss 23 = .ok (.aload_n 0, 1) := by decide +kernel
theorem dX7_miss_24 : decode cX7_miss 24 = .ok (.invokevirtual 205, 3) := by decide +kernel
theorem dX7_miss_27 : decode cX7_miss 27 = .ok (.ifCond .eq 19, 3) := by decide +kernel
theorem dX7_miss_30 : decode cX7_miss 30 = .ok (.aload_n 0, 1) := by decide +kernel
theorem dX7_miss_31 : decode cX7_miss 31 = .ok (.iload_n 1, 1) := by decide +kernel
theorem dX7_miss_32 : decode cX7_miss 32 = .ok (.invokevirtual 112, 3) := by decide +kernel
theorem dX7_miss_35 : decode cX7_miss 35 = .ok (.aload_n 0, 1) := by decide +kernel
theorem dX7_miss_36 : decode cX7_miss 36 = .ok (.getfield 108, 3) := by decide +kernel
theorem dX7_miss_39 : decode cX7_miss 39 = .ok (.iload_n 2, 1) := by decide +kernel
theorem dX7_miss_40 : decode cX7_miss 40 = .ok (.invokestatic 231, 3) := by decide +kernel
theorem dX7_miss_43 : decode cX7_miss 43 = .ok (.goto 10, 3) := by decide +kernel
theorem dX7_miss_46 : decode cX7_miss 46 = .ok (.aload_n 0, 1) := by decide +kernel
theorem dX7_miss_47 : decode cX7_miss 47 = .ok (.ldc 141, 2) := by decide +kernel
theorem dX7_miss_49 : decode cX7_miss 49 = .ok (.invokevirtual 126, 3) := by decide +kernel
theorem dX7_miss_52 : decode cX7_miss 52 = .ok (.i2l, 1) := by decide +kernel
theorem dX7_miss_53 : decode cX7_miss 53 = .ok (.lreturn, 1) := by decide +kernel
theorem dX7_sum_0 : decode cX7_sum 0 = .ok (.iload_n 1, 1) := by decide +kernel
theorem dX7_sum_1 : decode cX7_sum 1 = .ok (.invokestatic 228, 3) := by decide +kernel
theorem dX7_sum_4 : decode cX7_sum 4 = .ok (.ifCond .ne 11, 3) := by decide +kernel
theorem dX7_sum_7 : decode cX7_sum 7 = .ok (.aload_n 0, 1) := by decide +kernel
theorem dX7_sum_8 : decode cX7_sum 8 = .ok (.ldc 125, 2) := by decide +kernel
theorem dX7_sum_10 : decode cX7_sum 10 = .ok (.invokevirtual 126, 3) := by decide +kernel
theorem dX7_sum_13 : decode cX7_sum 13 = .ok (.i2l, 1) := by decide +kernel
theorem dX7_sum_14 : decode cX7_sum 14 = .ok (.lreturn, 1) := by decide +kernel
theorem dX7_sum_15 : decode cX7_sum 15 = .ok (.aload_n 0, 1) := by decide +kernel
theorem dX7_sum_16 : decode cX7_sum 16 = .ok (.invokevirtual 205, 3) := by decide +kernel
theorem dX7_sum_19 : decode cX7_sum 19 = .ok (.ifCond .eq 23, 3) := by decide +kernel
theorem dX7_sum_22 : decode cX7_sum 22 = .ok (.aload_n 0, 1) := by decide +kernel
theorem dX7_sum_23 : decode cX7_sum 23 = .ok (.invokevirtual 235, 3) := by decide +kernel
theorem dX7_sum_26 : decode cX7_sum 26 = .ok (.aload_n 0, 1) := by decide +kernel
theorem dX7_sum_27 : decode cX7_sum 27 = .ok (.getfield 108, 3) := by decide +kernel
theorem dX7_sum_30 : decode cX7_sum 30 = .ok (.aload_n 0, 1) := by decide +kernel
theorem dX7_sum_31 : decode cX7_sum 31 = .ok (.getfield 108, 3) := by decide +kernel
theorem dX7_sum_34 : decode cX7_sum 34 = .ok (.lmul, 1) := by decide +kernel
theorem dX7_sum_35 : decode cX7_sum 35 = .ok (.iload_n 1, 1) := by decide +kernel
theorem dX7_sum_36 : decode cX7_sum 36 = .ok (.invokestatic 231, 3) := by decide +kernel
theorem dX7_sum_39 : decode cX7_sum 39 = .ok (.goto 10, 3) := by decide +kernel
theorem dX7_sum_42 : decode cX7_sum 42 = .ok (.aload_n 0, 1) := by decide +kernel
theorem dX7_sum_43 : decode cX7_sum 43 = .ok (.ldc 141, 2) := by decide +kernel
theorem dX7_sum_45 : decode cX7_sum 45 = .ok (.invokevirtual 126, 3) := by decide +kernel
theorem dX7_sum_48 : decode cX7_sum 48 = .ok (.i2l, 1) := by decide +kernel
theorem dX7_sum_49 : decode cX7_sum 49 = .ok (.lreturn, 1) := by decide +kernel
theorem dX7_doubted_0 : decode cX7_doubted 0 = .ok (.aload_n 0, 1) := by decide +kernel
theorem dX7_doubted_1 : decode cX7_doubted 1 = .ok (.invokevirtual 205, 3) := by decide +kernel
theorem dX7_doubted_4 : decode cX7_doubted 4 = .ok (.ifCond .eq 10, 3) := by decide +kernel
theorem dX7_doubted_7 : decode cX7_doubted 7 = .ok (.aload_n 0, 1) := by decide +kernel
theorem dX7_doubted_8 : decode cX7_doubted 8 = .ok (.invokevirtual 209, 3) := by decide +kernel
theorem dX7_doubted_11 : decode cX7_doubted 11 = .ok (.goto 9, 3) := by decide +kernel
theorem dX7_doubted_14 : decode cX7_doubted 14 = .ok (.aload_n 0, 1) := by decide +kernel
theorem dX7_doubted_15 : decode cX7_doubted 15 = .ok (.ldc 141, 2) := by decide +kernel
theorem dX7_doubted_17 : decode cX7_doubted 17 = .ok (.invokevirtual 126, 3) := by decide +kernel
theorem dX7_doubted_20 : decode cX7_doubted 20 = .ok (.ireturn, 1) := by decide +kernel
theorem dX7_needed_0 : decode cX7_needed 0 = .ok (.aload_n 0, 1) := by decide +kernel
theorem dX7_needed_1 : decode cX7_needed 1 = .ok (.invokevirtual 96, 3) := by decide +kernel
theorem dX7_needed_4 : decode cX7_needed 4 = .ok (.istore_n 1, 1) := by decide +kernel
theorem dX7_needed_5 : decode cX7_needed 5 = .ok (.aload_n 0, 1) := by decide +kernel
theorem dX7_needed_6 : decode cX7_needed 6 = .ok (.iload_n 1, 1) := by decide +kernel
theorem dX7_needed_7 : decode cX7_needed 7 = .ok (.invokevirtual 100, 3) := by decide +kernel
theorem dX7_needed_10 : decode cX7_needed 10 = .ok (.ifCond .ne 10, 3) := by decide +kernel
theorem dX7_needed_13 : decode cX7_needed 13 = .ok (.aload_n 0, 1) := by decide +kernel
theorem dX7_needed_14 : decode cX7_needed 14 = .ok (.ldc 141, 2) := by decide +kernel
theorem dX7_needed_16 : decode cX7_needed 16 = .ok (.invokevirtual 126, 3) := by decide +kernel
theorem dX7_needed_19 : decode cX7_needed 19 = .ok (.ireturn, 1) := by decide +kernel
theorem dX7_needed_20 : decode cX7_needed 20 = .ok (.iconst 0, 1) := by decide +kernel
theorem dX7_needed_21 : decode cX7_needed 21 = .ok (.istore_n 2, 1) := by decide +kernel
theorem dX7_needed_22 : decode cX7_needed 22 = .ok (.iconst 0, 1) := by decide +kernel
theorem dX7_needed_23 : decode cX7_needed 23 = .ok (.istore_n 3, 1) := by decide +kernel
theorem dX7_needed_24 : decode cX7_needed 24 = .ok (.iload_n 3, 1) := by decide +kernel
theorem dX7_needed_25 : decode cX7_needed 25 = .ok (.aload_n 0, 1) := by decide +kernel
theorem dX7_needed_26 : decode cX7_needed 26 = .ok (.getfield 9, 3) := by decide +kernel
theorem dX7_needed_29 : decode cX7_needed 29 = .ok (.iconst 2, 1) := by decide +kernel
theorem dX7_needed_30 : decode cX7_needed 30 = .ok (.iaload, 1) := by decide +kernel
theorem dX7_needed_31 : decode cX7_needed 31 = .ok (.if_icmp .ge 42, 3) := by decide +kernel
theorem dX7_needed_34 : decode cX7_needed 34 = .ok (.iload_n 2, 1) := by decide +kernel
theorem dX7_needed_35 : decode cX7_needed 35 = .ok (.iload_n 1, 1) := by decide +kernel
theorem dX7_needed_36 : decode cX7_needed 36 = .ok (.iload_n 3, 1) := by decide +kernel
theorem dX7_needed_37 : decode cX7_needed 37 = .ok (.ishr, 1) := by decide +kernel
theorem dX7_needed_38 : decode cX7_needed 38 = .ok (.iconst 1, 1) := by decide +kernel
theorem dX7_needed_39 : decode cX7_needed 39 = .ok (.iand, 1) := by decide +kernel
theorem dX7_needed_40 : decode cX7_needed 40 = .ok (.iconst 1, 1) := by decide +kernel
theorem dX7_needed_41 : decode cX7_needed 41 = .ok (.if_icmp .ne 23, 3) := by decide +kernel
theorem dX7_needed_44 : decode cX7_needed 44 = .ok (.aload_n 0, 1) := by decide +kernel
theorem dX7_needed_45 : decode cX7_needed 45 = .ok (.iload_n 1, 1) := by decide +kernel
theorem dX7_needed_46 : decode cX7_needed 46 = .ok (.iconst 1, 1) := by decide +kernel
theorem dX7_needed_47 : decode cX7_needed 47 = .ok (.iload_n 3, 1) := by decide +kernel
theorem dX7_needed_48 : decode cX7_needed 48 = .ok (.ishl, 1) := by decide +kernel
theorem dX7_needed_49 : decode cX7_needed 49 = .ok (.iconst (-1), 1) := by decide +kernel
theorem dX7_needed_50 : decode cX7_needed 50 = .ok (.ixor, 1) := by decide +kernel
theorem dX7_needed_51 : decode cX7_needed 51 = .ok (.iand, 1) := by decide +kernel
theorem dX7_needed_52 : decode cX7_needed 52 = .ok (.invokevirtual 100, 3) := by decide +kernel
theorem dX7_needed_55 : decode cX7_needed 55 = .ok (.ifCond .ne 9, 3) := by decide +kernel
theorem dX7_needed_58 : decode cX7_needed 58 = .ok (.iconst 1, 1) := by decide +kernel
theorem dX7_needed_59 : decode cX7_needed 59 = .ok (.iload_n 3, 1) := by decide +kernel
theorem dX7_needed_60 : decode cX7_needed 60 = .ok (.ishl, 1) := by decide +kernel
theorem dX7_needed_61 : decode cX7_needed 61 = .ok (.goto 4, 3) := by decide +kernel
theorem dX7_needed_64 : decode cX7_needed 64 = .ok (.iconst 0, 1) := by decide +kernel
theorem dX7_needed_65 : decode cX7_needed 65 = .ok (.ior, 1) := by decide +kernel
theorem dX7_needed_66 : decode cX7_needed 66 = .ok (.istore_n 2, 1) := by decide +kernel
theorem dX7_needed_67 : decode cX7_needed 67 = .ok (.iinc 3 1, 3) := by decide +kernel
theorem dX7_needed_70 : decode cX7_needed 70 = .ok (.goto (-46), 3) := by decide +kernel
theorem dX7_needed_73 : decode cX7_needed 73 = .ok (.iload_n 2, 1) := by decide +kernel
theorem dX7_needed_74 : decode cX7_needed 74 = .ok (.ireturn, 1) := by decide +kernel
theorem dX7_weightOf_0 : decode cX7_weightOf 0 = .ok (.iconst 0, 1) := by decide +kernel
theorem dX7_weightOf_1 : decode cX7_weightOf 1 = .ok (.istore_n 2, 1) := by decide +kernel
theorem dX7_weightOf_2 : decode cX7_weightOf 2 = .ok (.iconst 0, 1) := by decide +kernel
theorem dX7_weightOf_3 : decode cX7_weightOf 3 = .ok (.istore_n 3, 1) := by decide +kernel
theorem dX7_weightOf_4 : decode cX7_weightOf 4 = .ok (.iload_n 3, 1) := by decide +kernel
theorem dX7_weightOf_5 : decode cX7_weightOf 5 = .ok (.aload_n 0, 1) := by decide +kernel
theorem dX7_weightOf_6 : decode cX7_weightOf 6 = .ok (.getfield 9, 3) := by decide +kernel
theorem dX7_weightOf_9 : decode cX7_weightOf 9 = .ok (.iconst 2, 1) := by decide +kernel
theorem dX7_weightOf_10 : decode cX7_weightOf 10 = .ok (.iaload, 1) := by decide +kernel
theorem dX7_weightOf_11 : decode cX7_weightOf 11 = .ok (.if_icmp .ge 30, 3) := by decide +kernel
theorem dX7_weightOf_14 : decode cX7_weightOf 14 = .ok (.iload_n 2, 1) := by decide +kernel
theorem dX7_weightOf_15 : decode cX7_weightOf 15 = .ok (.iload_n 1, 1) := by decide +kernel
theorem dX7_weightOf_16 : decode cX7_weightOf 16 = .ok (.iload_n 3, 1) := by decide +kernel
theorem dX7_weightOf_17 : decode cX7_weightOf 17 = .ok (.ishr, 1) := by decide +kernel
theorem dX7_weightOf_18 : decode cX7_weightOf 18 = .ok (.iconst 1, 1) := by decide +kernel
theorem dX7_weightOf_19 : decode cX7_weightOf 19 = .ok (.iand, 1) := by decide +kernel
theorem dX7_weightOf_20 : decode cX7_weightOf 20 = .ok (.iconst 1, 1) := by decide +kernel
theorem dX7_weightOf_21 : decode cX7_weightOf 21 = .ok (.if_icmp .ne 11, 3) := by decide +kernel
theorem dX7_weightOf_24 : decode cX7_weightOf 24 = .ok (.aload_n 0, 1) := by decide +kernel
theorem dX7_weightOf_25 : decode cX7_weightOf 25 = .ok (.iload_n 3, 1) := by decide +kernel
theorem dX7_weightOf_26 : decode cX7_weightOf 26 = .ok (.invokevirtual 90, 3) := by decide +kernel
theorem dX7_weightOf_29 : decode cX7_weightOf 29 = .ok (.goto 4, 3) := by decide +kernel
theorem dX7_weightOf_32 : decode cX7_weightOf 32 = .ok (.iconst 0, 1) := by decide +kernel
theorem dX7_weightOf_33 : decode cX7_weightOf 33 = .ok (.iadd, 1) := by decide +kernel
theorem dX7_weightOf_34 : decode cX7_weightOf 34 = .ok (.istore_n 2, 1) := by decide +kernel
theorem dX7_weightOf_35 : decode cX7_weightOf 35 = .ok (.iinc 3 1, 3) := by decide +kernel
theorem dX7_weightOf_38 : decode cX7_weightOf 38 = .ok (.goto (-34), 3) := by decide +kernel
theorem dX7_weightOf_41 : decode cX7_weightOf 41 = .ok (.iload_n 2, 1) := by decide +kernel
theorem dX7_weightOf_42 : decode cX7_weightOf 42 = .ok (.ireturn, 1) := by decide +kernel
theorem dX7_spine_0 : decode cX7_spine 0 = .ok (.aload_n 0, 1) := by decide +kernel
theorem dX7_spine_1 : decode cX7_spine 1 = .ok (.invokevirtual 96, 3) := by decide +kernel
theorem dX7_spine_4 : decode cX7_spine 4 = .ok (.istore_n 1, 1) := by decide +kernel
theorem dX7_spine_5 : decode cX7_spine 5 = .ok (.aload_n 0, 1) := by decide +kernel
theorem dX7_spine_6 : decode cX7_spine 6 = .ok (.iload_n 1, 1) := by decide +kernel
theorem dX7_spine_7 : decode cX7_spine 7 = .ok (.invokevirtual 100, 3) := by decide +kernel
theorem dX7_spine_10 : decode cX7_spine 10 = .ok (.ifCond .ne 10, 3) := by decide +kernel
theorem dX7_spine_13 : decode cX7_spine 13 = .ok (.aload_n 0, 1) := by decide +kernel
theorem dX7_spine_14 : decode cX7_spine 14 = .ok (.ldc 141, 2) := by decide +kernel
theorem dX7_spine_16 : decode cX7_spine 16 = .ok (.invokevirtual 126, 3) := by decide +kernel
theorem dX7_spine_19 : decode cX7_spine 19 = .ok (.ireturn, 1) := by decide +kernel
theorem dX7_spine_20 : decode cX7_spine 20 = .ok (.iload_n 1, 1) := by decide +kernel
theorem dX7_spine_21 : decode cX7_spine 21 = .ok (.istore_n 2, 1) := by decide +kernel
theorem dX7_spine_22 : decode cX7_spine 22 = .ok (.iload_n 1, 1) := by decide +kernel
theorem dX7_spine_23 : decode cX7_spine 23 = .ok (.istore_n 3, 1) := by decide +kernel
theorem dX7_spine_24 : decode cX7_spine 24 = .ok (.iload_n 3, 1) := by decide +kernel
theorem dX7_spine_25 : decode cX7_spine 25 = .ok (.ifCond .lt 78, 3) := by decide +kernel
theorem dX7_spine_28 : decode cX7_spine 28 = .ok (.iload_n 3, 1) := by decide +kernel
theorem dX7_spine_29 : decode cX7_spine 29 = .ok (.iload_n 1, 1) := by decide +kernel
theorem dX7_spine_30 : decode cX7_spine 30 = .ok (.iconst (-1), 1) := by decide +kernel
theorem dX7_spine_31 : decode cX7_spine 31 = .ok (.ixor, 1) := by decide +kernel
theorem dX7_spine_32 : decode cX7_spine 32 = .ok (.iand, 1) := by decide +kernel
theorem dX7_spine_33 : decode cX7_spine 33 = .ok (.ifCond .ne 26, 3) := by decide +kernel
theorem dX7_spine_36 : decode cX7_spine 36 = .ok (.iload_n 3, 1) := by decide +kernel
theorem dX7_spine_37 : decode cX7_spine 37 = .ok (.invokestatic 218, 3) := by decide +kernel
theorem dX7_spine_40 : decode cX7_spine 40 = .ok (.iload_n 2, 1) := by decide +kernel
theorem dX7_spine_41 : decode cX7_spine 41 = .ok (.invokestatic 218, 3) := by decide +kernel
theorem dX7_spine_44 : decode cX7_spine 44 = .ok (.if_icmp .gt 15, 3) := by decide +kernel
theorem dX7_spine_47 : decode cX7_spine 47 = .ok (.aload_n 0, 1) := by decide +kernel
theorem dX7_spine_48 : decode cX7_spine 48 = .ok (.iload_n 3, 1) := by decide +kernel
theorem dX7_spine_49 : decode cX7_spine 49 = .ok (.invokevirtual 100, 3) := by decide +kernel
theorem dX7_spine_52 : decode cX7_spine 52 = .ok (.ifCond .eq 7, 3) := by decide +kernel
theorem dX7_spine_55 : decode cX7_spine 55 = .ok (.iconst 1, 1) := by decide +kernel
theorem dX7_spine_56 : decode cX7_spine 56 = .ok (.goto 4, 3) := by decide +kernel
theorem dX7_spine_59 : decode cX7_spine 59 = .ok (.iconst 0, 1) := by decide +kernel
theorem dX7_spine_60 : decode cX7_spine 60 = .ok (.istore 4, 2) := by decide +kernel
theorem dX7_spine_62 : decode cX7_spine 62 = .ok (.iload 4, 2) := by decide +kernel
theorem dX7_spine_64 : decode cX7_spine 64 = .ok (.ifCond .eq 31, 3) := by decide +kernel
theorem dX7_spine_67 : decode cX7_spine 67 = .ok (.iload_n 3, 1) := by decide +kernel
theorem dX7_spine_68 : decode cX7_spine 68 = .ok (.invokestatic 218, 3) := by decide +kernel
theorem dX7_spine_71 : decode cX7_spine 71 = .ok (.iload_n 2, 1) := by decide +kernel
theorem dX7_spine_72 : decode cX7_spine 72 = .ok (.invokestatic 218, 3) := by decide +kernel
theorem dX7_spine_75 : decode cX7_spine 75 = .ok (.if_icmp .lt 16, 3) := by decide +kernel
theorem dX7_spine_78 : decode cX7_spine 78 = .ok (.aload_n 0, 1) := by decide +kernel
theorem dX7_spine_79 : decode cX7_spine 79 = .ok (.iload_n 3, 1) := by decide +kernel
theorem dX7_spine_80 : decode cX7_spine 80 = .ok (.invokevirtual 239, 3) := by decide +kernel
theorem dX7_spine_83 : decode cX7_spine 83 = .ok (.aload_n 0, 1) := by decide +kernel
theorem dX7_spine_84 : decode cX7_spine 84 = .ok (.iload_n 2, 1) := by decide +kernel
theorem dX7_spine_85 : decode cX7_spine 85 = .ok (.invokevirtual 239, 3) := by decide +kernel
theorem dX7_spine_88 : decode cX7_spine 88 = .ok (.if_icmp .lt 7, 3) := by decide +kernel
theorem dX7_spine_91 : decode cX7_spine 91 = .ok (.iload_n 3, 1) := by decide +kernel
theorem dX7_spine_92 : decode cX7_spine 92 = .ok (.goto 4, 3) := by decide +kernel
theorem dX7_spine_95 : decode cX7_spine 95 = .ok (.iload_n 2, 1) := by decide +kernel
theorem dX7_spine_96 : decode cX7_spine 96 = .ok (.istore_n 2, 1) := by decide +kernel
theorem dX7_spine_97 : decode cX7_spine 97 = .ok (.iinc 3 (-1), 3) := by decide +kernel
theorem dX7_spine_100 : decode cX7_spine 100 = .ok (.goto (-76), 3) := by decide +kernel
theorem dX7_spine_103 : decode cX7_spine 103 = .ok (.iload_n 2, 1) := by decide +kernel
theorem dX7_spine_104 : decode cX7_spine 104 = .ok (.ireturn, 1) := by decide +kernel
theorem dX7_then_0 : decode cX7_then 0 = .ok (.iload_n 1, 1) := by decide +kernel
theorem dX7_then_1 : decode cX7_then 1 = .ok (.iconst 0, 1) := by decide +kernel
theorem dX7_then_2 : decode cX7_then 2 = .ok (.bipush 60, 2) := by decide +kernel
theorem dX7_then_4 : decode cX7_then 4 = .ok (.invokestatic 61, 3) := by decide +kernel
theorem dX7_then_7 : decode cX7_then 7 = .ok (.ifCond .eq 12, 3) := by decide +kernel
theorem dX7_then_10 : decode cX7_then 10 = .ok (.iload_n 2, 1) := by decide +kernel
theorem dX7_then_11 : decode cX7_then 11 = .ok (.iconst 0, 1) := by decide +kernel
theorem dX7_then_12 : decode cX7_then 12 = .ok (.iconst 2, 1) := by decide +kernel
theorem dX7_then_13 : decode cX7_then 13 = .ok (.invokestatic 61, 3) := by decide +kernel
theorem dX7_then_16 : decode cX7_then 16 = .ok (.ifCond .ne 10, 3) := by decide +kernel
theorem dX7_then_19 : decode cX7_then 19 = .ok (.aload_n 0, 1) := by decide +kernel
theorem dX7_then_20 : decode cX7_then 20 = .ok (.ldc 125, 2) := by decide +kernel
theorem dX7_then_22 : decode cX7_then 22 = .ok (.invokevirtual 126, 3) := by decide +kernel
theorem dX7_then_25 : decode cX7_then 25 = .ok (.ireturn, 1) := by decide +kernel
theorem dX7_then_26 : decode cX7_then 26 = .ok (.aload_n 0, 1) := by decide +kernel
theorem dX7_then_27 : decode cX7_then 27 = .ok (.invokevirtual 242, 3) := by decide +kernel
theorem dX7_then_30 : decode cX7_then 30 = .ok (.aload_n 0, 1) := by decide +kernel
theorem dX7_then_31 : decode cX7_then 31 = .ok (.iload_n 1, 1) := by decide +kernel
theorem dX7_then_32 : decode cX7_then 32 = .ok (.invokevirtual 215, 3) := by decide +kernel
theorem dX7_then_35 : decode cX7_then 35 = .ok (.iload_n 2, 1) := by decide +kernel
theorem dX7_then_36 : decode cX7_then 36 = .ok (.iconst 2, 1) := by decide +kernel
theorem dX7_then_37 : decode cX7_then 37 = .ok (.if_icmp .ne 12, 3) := by decide +kernel
theorem dX7_then_40 : decode cX7_then 40 = .ok (.aload_n 0, 1) := by decide +kernel
theorem dX7_then_41 : decode cX7_then 41 = .ok (.getfield 9, 3) := by decide +kernel
theorem dX7_then_44 : decode cX7_then 44 = .ok (.iconst 5, 1) := by decide +kernel
theorem dX7_then_45 : decode cX7_then 45 = .ok (.iaload, 1) := by decide +kernel
theorem dX7_then_46 : decode cX7_then 46 = .ok (.goto 22, 3) := by decide +kernel
theorem dX7_then_49 : decode cX7_then 49 = .ok (.iload_n 2, 1) := by decide +kernel
theorem dX7_then_50 : decode cX7_then 50 = .ok (.iconst 1, 1) := by decide +kernel
theorem dX7_then_51 : decode cX7_then 51 = .ok (.if_icmp .ne 10, 3) := by decide +kernel
theorem dX7_then_54 : decode cX7_then 54 = .ok (.aload_n 0, 1) := by decide +kernel
theorem dX7_then_55 : decode cX7_then 55 = .ok (.invokevirtual 96, 3) := by decide +kernel
theorem dX7_then_58 : decode cX7_then 58 = .ok (.goto 10, 3) := by decide +kernel
theorem dX7_then_61 : decode cX7_then 61 = .ok (.aload_n 0, 1) := by decide +kernel
theorem dX7_then_62 : decode cX7_then 62 = .ok (.invokevirtual 96, 3) := by decide +kernel
theorem dX7_then_65 : decode cX7_then 65 = .ok (.invokestatic 218, 3) := by decide +kernel
theorem dX7_then_68 : decode cX7_then 68 = .ok (.istore_n 3, 1) := by decide +kernel
theorem dX7_then_69 : decode cX7_then 69 = .ok (.aload_n 0, 1) := by decide +kernel
theorem dX7_then_70 : decode cX7_then 70 = .ok (.invokevirtual 245, 3) := by decide +kernel
theorem dX7_then_73 : decode cX7_then 73 = .ok (.iload_n 3, 1) := by decide +kernel
theorem dX7_then_74 : decode cX7_then 74 = .ok (.ireturn, 1) := by decide +kernel
theorem dX7_soonest_0 : decode cX7_soonest 0 = .ok (.aload_n 0, 1) := by decide +kernel
theorem dX7_soonest_1 : decode cX7_soonest 1 = .ok (.iload_n 1, 1) := by decide +kernel
theorem dX7_soonest_2 : decode cX7_soonest 2 = .ok (.invokevirtual 134, 3) := by decide +kernel
theorem dX7_soonest_5 : decode cX7_soonest 5 = .ok (.ifCond .ne 10, 3) := by decide +kernel
theorem dX7_soonest_8 : decode cX7_soonest 8 = .ok (.aload_n 0, 1) := by decide +kernel
theorem dX7_soonest_9 : decode cX7_soonest 9 = .ok (.ldc 125, 2) := by decide +kernel
theorem dX7_soonest_11 : decode cX7_soonest 11 = .ok (.invokevirtual 126, 3) := by decide +kernel
theorem dX7_soonest_14 : decode cX7_soonest 14 = .ok (.ireturn, 1) := by decide +kernel
theorem dX7_soonest_15 : decode cX7_soonest 15 = .ok (.aload_n 0, 1) := by decide +kernel
theorem dX7_soonest_16 : decode cX7_soonest 16 = .ok (.invokevirtual 242, 3) := by decide +kernel
theorem dX7_soonest_19 : decode cX7_soonest 19 = .ok (.iconst 0, 1) := by decide +kernel
theorem dX7_soonest_20 : decode cX7_soonest 20 = .ok (.istore_n 2, 1) := by decide +kernel
theorem dX7_soonest_21 : decode cX7_soonest 21 = .ok (.iload_n 2, 1) := by decide +kernel
theorem dX7_soonest_22 : decode cX7_soonest 22 = .ok (.bipush 60, 2) := by decide +kernel
theorem dX7_soonest_24 : decode cX7_soonest 24 = .ok (.if_icmp .gt 23, 3) := by decide +kernel
theorem dX7_soonest_27 : decode cX7_soonest 27 = .ok (.aload_n 0, 1) := by decide +kernel
theorem dX7_soonest_28 : decode cX7_soonest 28 = .ok (.iload_n 1, 1) := by decide +kernel
theorem dX7_soonest_29 : decode cX7_soonest 29 = .ok (.iconst 5, 1) := by decide +kernel
theorem dX7_soonest_30 : decode cX7_soonest 30 = .ok (.invokevirtual 65, 3) := by decide +kernel
theorem dX7_soonest_33 : decode cX7_soonest 33 = .ok (.iconst 1, 1) := by decide +kernel
theorem dX7_soonest_34 : decode cX7_soonest 34 = .ok (.if_icmp .ne 13, 3) := by decide +kernel
theorem dX7_soonest_37 : decode cX7_soonest 37 = .ok (.aload_n 0, 1) := by decide +kernel
theorem dX7_soonest_38 : decode cX7_soonest 38 = .ok (.invokevirtual 212, 3) := by decide +kernel
theorem dX7_soonest_41 : decode cX7_soonest 41 = .ok (.iinc 2 1, 3) := by decide +kernel
theorem dX7_soonest_44 : decode cX7_soonest 44 = .ok (.goto (-23), 3) := by decide +kernel
theorem dX7_soonest_47 : decode cX7_soonest 47 = .ok (.aload_n 0, 1) := by decide +kernel
theorem dX7_soonest_48 : decode cX7_soonest 48 = .ok (.invokevirtual 245, 3) := by decide +kernel
theorem dX7_soonest_51 : decode cX7_soonest 51 = .ok (.iload_n 2, 1) := by decide +kernel
theorem dX7_soonest_52 : decode cX7_soonest 52 = .ok (.bipush 60, 2) := by decide +kernel
theorem dX7_soonest_54 : decode cX7_soonest 54 = .ok (.if_icmp .le 12, 3) := by decide +kernel
theorem dX7_soonest_57 : decode cX7_soonest 57 = .ok (.aload_n 0, 1) := by decide +kernel
theorem dX7_soonest_58 : decode cX7_soonest 58 = .ok (.ldc 248, 2) := by decide +kernel
theorem dX7_soonest_60 : decode cX7_soonest 60 = .ok (.invokevirtual 126, 3) := by decide +kernel
theorem dX7_soonest_63 : decode cX7_soonest 63 = .ok (.goto 4, 3) := by decide +kernel
theorem dX7_soonest_66 : decode cX7_soonest 66 = .ok (.iload_n 2, 1) := by decide +kernel
theorem dX7_soonest_67 : decode cX7_soonest 67 = .ok (.ireturn, 1) := by decide +kernel
theorem dX7_doStay_0 : decode cX7_doStay 0 = .ok (.aload_n 0, 1) := by decide +kernel
theorem dX7_doStay_1 : decode cX7_doStay 1 = .ok (.invokevirtual 96, 3) := by decide +kernel
theorem dX7_doStay_4 : decode cX7_doStay 4 = .ok (.istore_n 2, 1) := by decide +kernel
theorem dX7_doStay_5 : decode cX7_doStay 5 = .ok (.iconst 1, 1) := by decide +kernel
theorem dX7_doStay_6 : decode cX7_doStay 6 = .ok (.istore_n 3, 1) := by decide +kernel
theorem dX7_doStay_7 : decode cX7_doStay 7 = .ok (.iconst 0, 1) := by decide +kernel
theorem dX7_doStay_8 : decode cX7_doStay 8 = .ok (.istore 4, 2) := by decide +kernel
theorem dX7_doStay_10 : decode cX7_doStay 10 = .ok (.iload 4, 2) := by decide +kernel
theorem dX7_doStay_12 : decode cX7_doStay 12 = .ok (.iload_n 1, 1) := by decide +kernel
theorem dX7_doStay_13 : decode cX7_doStay 13 = .ok (.if_icmp .ge 34, 3) := by decide +kernel
theorem dX7_doStay_16 : decode cX7_doStay 16 = .ok (.iload_n 3, 1) := by decide +kernel
theorem dX7_doStay_17 : decode cX7_doStay 17 = .ok (.ifCond .eq 30, 3) := by decide +kernel
theorem dX7_doStay_20 : decode cX7_doStay 20 = .ok (.aload_n 0, 1) := by decide +kernel
theorem dX7_doStay_21 : decode cX7_doStay 21 = .ok (.invokevirtual 212, 3) := by decide +kernel
theorem dX7_doStay_24 : decode cX7_doStay 24 = .ok (.iload_n 2, 1) := by decide +kernel
theorem dX7_doStay_25 : decode cX7_doStay 25 = .ok (.aload_n 0, 1) := by decide +kernel
theorem dX7_doStay_26 : decode cX7_doStay 26 = .ok (.invokevirtual 96, 3) := by decide +kernel
theorem dX7_doStay_29 : decode cX7_doStay 29 = .ok (.iconst (-1), 1) := by decide +kernel
theorem dX7_doStay_30 : decode cX7_doStay 30 = .ok (.ixor, 1) := by decide +kernel
theorem dX7_doStay_31 : decode cX7_doStay 31 = .ok (.iand, 1) := by decide +kernel
theorem dX7_doStay_32 : decode cX7_doStay 32 = .ok (.ifCond .ne 7, 3) := by decide +kernel
theorem dX7_doStay_35 : decode cX7_doStay 35 = .ok (.iconst 1, 1) := by decide +kernel
theorem dX7_doStay_36 : decode cX7_doStay 36 = .ok (.goto 4, 3) := by decide +kernel
theorem dX7_doStay_39 : decode cX7_doStay 39 = .ok (.iconst 0, 1) := by decide +kernel
theorem dX7_doStay_40 : decode cX7_doStay 40 = .ok (.istore_n 3, 1) := by decide +kernel
theorem dX7_doStay_41 : decode cX7_doStay 41 = .ok (.iinc 4 1, 3) := by decide +kernel
theorem dX7_doStay_44 : decode cX7_doStay 44 = .ok (.goto (-34), 3) := by decide +kernel
theorem dX7_doStay_47 : decode cX7_doStay 47 = .ok (.aload_n 0, 1) := by decide +kernel
theorem dX7_doStay_48 : decode cX7_doStay 48 = .ok (.invokevirtual 245, 3) := by decide +kernel
theorem dX7_doStay_51 : decode cX7_doStay 51 = .ok (.iload_n 3, 1) := by decide +kernel
theorem dX7_doStay_52 : decode cX7_doStay 52 = .ok (.ireturn, 1) := by decide +kernel
theorem dX7_limitFor_0 : decode cX7_limitFor 0 = .ok (.iload_n 1, 1) := by decide +kernel
theorem dX7_limitFor_1 : decode cX7_limitFor 1 = .ok (.iconst 0, 1) := by decide +kernel
theorem dX7_limitFor_2 : decode cX7_limitFor 2 = .ok (.bipush 40, 2) := by decide +kernel
theorem dX7_limitFor_4 : decode cX7_limitFor 4 = .ok (.invokestatic 61, 3) := by decide +kernel
theorem dX7_limitFor_7 : decode cX7_limitFor 7 = .ok (.ifCond .ne 10, 3) := by decide +kernel
theorem dX7_limitFor_10 : decode cX7_limitFor 10 = .ok (.aload_n 0, 1) := by decide +kernel
theorem dX7_limitFor_11 : decode cX7_limitFor 11 = .ok (.ldc 125, 2) := by decide +kernel
theorem dX7_limitFor_13 : decode cX7_limitFor 13 = .ok (.invokevirtual 126, 3) := by decide +kernel
theorem dX7_limitFor_16 : decode cX7_limitFor 16 = .ok (.ireturn, 1) := by decide +kernel
theorem dX7_limitFor_17 : decode cX7_limitFor 17 = .ok (.aload_n 0, 1) := by decide +kernel
theorem dX7_limitFor_18 : decode cX7_limitFor 18 = .ok (.invokevirtual 242, 3) := by decide +kernel
theorem dX7_limitFor_21 : decode cX7_limitFor 21 = .ok (.iconst 0, 1) := by decide +kernel
theorem dX7_limitFor_22 : decode cX7_limitFor 22 = .ok (.istore_n 2, 1) := by decide +kernel
theorem dX7_limitFor_23 : decode cX7_limitFor 23 = .ok (.iload_n 2, 1) := by decide +kernel
theorem dX7_limitFor_24 : decode cX7_limitFor 24 = .ok (.bipush 99, 2) := by decide +kernel
theorem dX7_limitFor_26 : decode cX7_limitFor 26 = .ok (.if_icmp .gt 26, 3) := by decide +kernel
theorem dX7_limitFor_29 : decode cX7_limitFor 29 = .ok (.aload_n 0, 1) := by decide +kernel
theorem dX7_limitFor_30 : decode cX7_limitFor 30 = .ok (.getfield 9, 3) := by decide +kernel
theorem dX7_limitFor_33 : decode cX7_limitFor 33 = .ok (.iconst 4, 1) := by decide +kernel
theorem dX7_limitFor_34 : decode cX7_limitFor 34 = .ok (.iload_n 2, 1) := by decide +kernel
theorem dX7_limitFor_35 : decode cX7_limitFor 35 = .ok (.iastore, 1) := by decide +kernel
theorem dX7_limitFor_36 : decode cX7_limitFor 36 = .ok (.aload_n 0, 1) := by decide +kernel
theorem dX7_limitFor_37 : decode cX7_limitFor 37 = .ok (.iload_n 1, 1) := by decide +kernel
theorem dX7_limitFor_38 : decode cX7_limitFor 38 = .ok (.invokevirtual 249, 3) := by decide +kernel
theorem dX7_limitFor_41 : decode cX7_limitFor 41 = .ok (.ifCond .eq 5, 3) := by decide +kernel
theorem dX7_limitFor_44 : decode cX7_limitFor 44 = .ok (.iload_n 2, 1) := by decide +kernel
theorem dX7_limitFor_45 : decode cX7_limitFor 45 = .ok (.ireturn, 1) := by decide +kernel
theorem dX7_limitFor_46 : decode cX7_limitFor 46 = .ok (.iinc 2 1, 3) := by decide +kernel
theorem dX7_limitFor_49 : decode cX7_limitFor 49 = .ok (.goto (-26), 3) := by decide +kernel
theorem dX7_limitFor_52 : decode cX7_limitFor 52 = .ok (.aload_n 0, 1) := by decide +kernel
theorem dX7_limitFor_53 : decode cX7_limitFor 53 = .ok (.ldc 248, 2) := by decide +kernel
theorem dX7_limitFor_55 : decode cX7_limitFor 55 = .ok (.invokevirtual 126, 3) := by decide +kernel
theorem dX7_limitFor_58 : decode cX7_limitFor 58 = .ok (.ireturn, 1) := by decide +kernel
theorem dX7_toldFor_0 : decode cX7_toldFor 0 = .ok (.aload_n 0, 1) := by decide +kernel
theorem dX7_toldFor_1 : decode cX7_toldFor 1 = .ok (.iload_n 1, 1) := by decide +kernel
theorem dX7_toldFor_2 : decode cX7_toldFor 2 = .ok (.invokevirtual 134, 3) := by decide +kernel
theorem dX7_toldFor_5 : decode cX7_toldFor 5 = .ok (.ifCond .ne 10, 3) := by decide +kernel
theorem dX7_toldFor_8 : decode cX7_toldFor 8 = .ok (.aload_n 0, 1) := by decide +kernel
theorem dX7_toldFor_9 : decode cX7_toldFor 9 = .ok (.ldc 125, 2) := by decide +kernel
theorem dX7_toldFor_11 : decode cX7_toldFor 11 = .ok (.invokevirtual 126, 3) := by decide +kernel
theorem dX7_toldFor_14 : decode cX7_toldFor 14 = .ok (.ireturn, 1) := by decide +kernel
theorem dX7_toldFor_15 : decode cX7_toldFor 15 = .ok (.aload_n 0, 1) := by decide +kernel
theorem dX7_toldFor_16 : decode cX7_toldFor 16 = .ok (.invokevirtual 205, 3) := by decide +kernel
theorem dX7_toldFor_19 : decode cX7_toldFor 19 = .ok (.ifCond .ne 10, 3) := by decide +kernel
theorem dX7_toldFor_22 : decode cX7_toldFor 22 = .ok (.aload_n 0, 1) := by decide +kernel
theorem dX7_toldFor_23 : decode cX7_toldFor 23 = .ok (.ldc 141, 2) := by decide +kernel
theorem dX7_toldFor_25 : decode cX7_toldFor 25 = .ok (.invokevirtual 126, 3) := by decide +kernel
theorem dX7_toldFor_28 : decode cX7_toldFor 28 = .ok (.ireturn, 1) := by decide +kernel
theorem dX7_toldFor_29 : decode cX7_toldFor 29 = .ok (.aload_n 0, 1) := by decide +kernel
theorem dX7_toldFor_30 : decode cX7_toldFor 30 = .ok (.invokevirtual 242, 3) := by decide +kernel
theorem dX7_toldFor_33 : decode cX7_toldFor 33 = .ok (.iconst 0, 1) := by decide +kernel
theorem dX7_toldFor_34 : decode cX7_toldFor 34 = .ok (.istore_n 2, 1) := by decide +kernel
theorem dX7_toldFor_35 : decode cX7_toldFor 35 = .ok (.ldc2_w 252, 3) := by decide +kernel
theorem dX7_toldFor_38 : decode cX7_toldFor 38 = .ok (.lstore_n 3, 1) := by decide +kernel
theorem dX7_toldFor_39 : decode cX7_toldFor 39 = .ok (.bipush (-20), 2) := by decide +kernel
theorem dX7_toldFor_41 : decode cX7_toldFor 41 = .ok (.istore 5, 2) := by decide +kernel
theorem dX7_toldFor_43 : decode cX7_toldFor 43 = .ok (.iload 5, 2) := by decide +kernel
theorem dX7_toldFor_45 : decode cX7_toldFor 45 = .ok (.bipush 20, 2) := by decide +kernel
theorem dX7_toldFor_47 : decode cX7_toldFor 47 = .ok (.if_icmp .gt 78, 3) := by decide +kernel
theorem dX7_toldFor_50 : decode cX7_toldFor 50 = .ok (.aload_n 0, 1) := by decide +kernel
theorem dX7_toldFor_51 : decode cX7_toldFor 51 = .ok (.iload_n 1, 1) := by decide +kernel
theorem dX7_toldFor_52 : decode cX7_toldFor 52 = .ok (.iconst 4, 1) := by decide +kernel
theorem dX7_toldFor_53 : decode cX7_toldFor 53 = .ok (.iload 5, 2) := by decide +kernel
theorem dX7_toldFor_55 : decode cX7_toldFor 55 = .ok (.invokevirtual 130, 3) := by decide +kernel
theorem dX7_toldFor_58 : decode cX7_toldFor 58 = .ok (.aload_n 0, 1) := by decide +kernel
theorem dX7_toldFor_59 : decode cX7_toldFor 59 = .ok (.invokevirtual 205, 3) := by decide +kernel
theorem dX7_toldFor_62 : decode cX7_toldFor 62 = .ok (.istore 6, 2) := by decide +kernel
theorem dX7_toldFor_64 : decode cX7_toldFor 64 = .ok (.aload_n 0, 1) := by decide +kernel
theorem dX7_toldFor_65 : decode cX7_toldFor 65 = .ok (.invokevirtual 235, 3) := by decide +kernel
theorem dX7_toldFor_68 : decode cX7_toldFor 68 = .ok (.lstore 7, 2) := by decide +kernel
theorem dX7_toldFor_70 : decode cX7_toldFor 70 = .ok (.iload 6, 2) := by decide +kernel
theorem dX7_toldFor_72 : decode cX7_toldFor 72 = .ok (.ifCond .eq 20, 3) := by decide +kernel
theorem dX7_toldFor_75 : decode cX7_toldFor 75 = .ok (.lload_n 3, 1) := by decide +kernel
theorem dX7_toldFor_76 : decode cX7_toldFor 76 = .ok (.lconst 0, 1) := by decide +kernel
theorem dX7_toldFor_77 : decode cX7_toldFor 77 = .ok (.lcmp, 1) := by decide +kernel
theorem dX7_toldFor_78 : decode cX7_toldFor 78 = .ok (.ifCond .lt 10, 3) := by decide +kernel
theorem dX7_toldFor_81 : decode cX7_toldFor 81 = .ok (.lload 7, 2) := by decide +kernel
theorem dX7_toldFor_83 : decode cX7_toldFor 83 = .ok (.lload_n 3, 1) := by decide +kernel
theorem dX7_toldFor_84 : decode cX7_toldFor 84 = .ok (.lcmp, 1) := by decide +kernel
theorem dX7_toldFor_85 : decode cX7_toldFor 85 = .ok (.ifCond .ge 7, 3) := by decide +kernel
theorem dX7_toldFor_88 : decode cX7_toldFor 88 = .ok (.iconst 1, 1) := by decide +kernel
theorem dX7_toldFor_89 : decode cX7_toldFor 89 = .ok (.goto 4, 3) := by decide +kernel
theorem dX7_toldFor_92 : decode cX7_toldFor 92 = .ok (.iconst 0, 1) := by decide +kernel
theorem dX7_toldFor_93 : decode cX7_toldFor 93 = .ok (.istore 9, 2) := by decide +kernel
theorem dX7_toldFor_95 : decode cX7_toldFor 95 = .ok (.iload 9, 2) := by decide +kernel
theorem dX7_toldFor_97 : decode cX7_toldFor 97 = .ok (.ifCond .eq 8, 3) := by decide +kernel
theorem dX7_toldFor_100 : decode cX7_toldFor 100 = .ok (.iload 5, 2) := by decide +kernel
theorem dX7_toldFor_102 : decode cX7_toldFor 102 = .ok (.goto 4, 3) := by decide +kernel
theorem dX7_toldFor_105 : decode cX7_toldFor 105 = .ok (.iload_n 2, 1) := by decide +kernel
theorem dX7_toldFor_106 : decode cX7_toldFor 106 = .ok (.istore_n 2, 1) := by decide +kernel
theorem dX7_toldFor_107 : decode cX7_toldFor 107 = .ok (.iload 9, 2) := by decide +kernel
theorem dX7_toldFor_109 : decode cX7_toldFor 109 = .ok (.ifCond .eq 8, 3) := by decide +kernel
theorem dX7_toldFor_112 : decode cX7_toldFor 112 = .ok (.lload 7, 2) := by decide +kernel
theorem dX7_toldFor_114 : decode cX7_toldFor 114 = .ok (.goto 4, 3) := by decide +kernel
theorem dX7_toldFor_117 : decode cX7_toldFor 117 = .ok (.lload_n 3, 1) := by decide +kernel
theorem dX7_toldFor_118 : decode cX7_toldFor 118 = .ok (.lstore_n 3, 1) := by decide +kernel
theorem dX7_toldFor_119 : decode cX7_toldFor 119 = .ok (.iinc 5 1, 3) := by decide +kernel
theorem dX7_toldFor_122 : decode cX7_toldFor 122 = .ok (.goto (-79), 3) := by decide +kernel
theorem dX7_toldFor_125 : decode cX7_toldFor 125 = .ok (.aload_n 0, 1) := by decide +kernel
theorem dX7_toldFor_126 : decode cX7_toldFor 126 = .ok (.invokevirtual 245, 3) := by decide +kernel
theorem dX7_toldFor_129 : decode cX7_toldFor 129 = .ok (.iload_n 2, 1) := by decide +kernel
theorem dX7_toldFor_130 : decode cX7_toldFor 130 = .ok (.ireturn, 1) := by decide +kernel
theorem dX7_odds_0 : decode cX7_odds 0 = .ok (.aload_n 0, 1) := by decide +kernel
theorem dX7_odds_1 : decode cX7_odds 1 = .ok (.iload_n 1, 1) := by decide +kernel
theorem dX7_odds_2 : decode cX7_odds 2 = .ok (.invokevirtual 134, 3) := by decide +kernel
theorem dX7_odds_5 : decode cX7_odds 5 = .ok (.ifCond .eq 20, 3) := by decide +kernel
theorem dX7_odds_8 : decode cX7_odds 8 = .ok (.iload_n 2, 1) := by decide +kernel
theorem dX7_odds_9 : decode cX7_odds 9 = .ok (.iconst 0, 1) := by decide +kernel
theorem dX7_odds_10 : decode cX7_odds 10 = .ok (.bipush 40, 2) := by decide +kernel
theorem dX7_odds_12 : decode cX7_odds 12 = .ok (.invokestatic 61, 3) := by decide +kernel
theorem dX7_odds_15 : decode cX7_odds 15 = .ok (.ifCond .eq 10, 3) := by decide +kernel
theorem dX7_odds_18 : decode cX7_odds 18 = .ok (.iload_n 3, 1) := by decide +kernel
theorem dX7_odds_19 : decode cX7_odds 19 = .ok (.invokestatic 228, 3) := by decide +kernel
theorem dX7_odds_22 : decode cX7_odds 22 = .ok (.ifCond .ne 10, 3) := by decide +kernel
theorem dX7_odds_25 : decode cX7_odds 25 = .ok (.aload_n 0, 1) := by decide +kernel
theorem dX7_odds_26 : decode cX7_odds 26 = .ok (.ldc 125, 2) := by decide +kernel
theorem dX7_odds_28 : decode cX7_odds 28 = .ok (.invokevirtual 126, 3) := by decide +kernel
theorem dX7_odds_31 : decode cX7_odds 31 = .ok (.ireturn, 1) := by decide +kernel
theorem dX7_odds_32 : decode cX7_odds 32 = .ok (.aload_n 0, 1) := by decide +kernel
theorem dX7_odds_33 : decode cX7_odds 33 = .ok (.invokevirtual 242, 3) := by decide +kernel
theorem dX7_odds_36 : decode cX7_odds 36 = .ok (.lconst 0, 1) := by decide +kernel
theorem dX7_odds_37 : decode cX7_odds 37 = .ok (.lstore 4, 2) := by decide +kernel
theorem dX7_odds_39 : decode cX7_odds 39 = .ok (.bipush (-20), 2) := by decide +kernel
theorem dX7_odds_41 : decode cX7_odds 41 = .ok (.istore 6, 2) := by decide +kernel
theorem dX7_odds_43 : decode cX7_odds 43 = .ok (.iload 6, 2) := by decide +kernel
theorem dX7_odds_45 : decode cX7_odds 45 = .ok (.bipush 20, 2) := by decide +kernel
theorem dX7_odds_47 : decode cX7_odds 47 = .ok (.if_icmp .gt 38, 3) := by decide +kernel
theorem dX7_odds_50 : decode cX7_odds 50 = .ok (.aload_n 0, 1) := by decide +kernel
theorem dX7_odds_51 : decode cX7_odds 51 = .ok (.iload_n 1, 1) := by decide +kernel
theorem dX7_odds_52 : decode cX7_odds 52 = .ok (.iconst 4, 1) := by decide +kernel
theorem dX7_odds_53 : decode cX7_odds 53 = .ok (.iload 6, 2) := by decide +kernel
theorem dX7_odds_55 : decode cX7_odds 55 = .ok (.invokevirtual 130, 3) := by decide +kernel
theorem dX7_odds_58 : decode cX7_odds 58 = .ok (.aload_n 0, 1) := by decide +kernel
theorem dX7_odds_59 : decode cX7_odds 59 = .ok (.iload_n 2, 1) := by decide +kernel
theorem dX7_odds_60 : decode cX7_odds 60 = .ok (.invokevirtual 215, 3) := by decide +kernel
theorem dX7_odds_63 : decode cX7_odds 63 = .ok (.lload 4, 2) := by decide +kernel
theorem dX7_odds_65 : decode cX7_odds 65 = .ok (.aload_n 0, 1) := by decide +kernel
theorem dX7_odds_66 : decode cX7_odds 66 = .ok (.iload_n 1, 1) := by decide +kernel
theorem dX7_odds_67 : decode cX7_odds 67 = .ok (.iconst 5, 1) := by decide +kernel
theorem dX7_odds_68 : decode cX7_odds 68 = .ok (.invokevirtual 65, 3) := by decide +kernel
theorem dX7_odds_71 : decode cX7_odds 71 = .ok (.i2l, 1) := by decide +kernel
theorem dX7_odds_72 : decode cX7_odds 72 = .ok (.ladd, 1) := by decide +kernel
theorem dX7_odds_73 : decode cX7_odds 73 = .ok (.lstore 4, 2) := by decide +kernel
theorem dX7_odds_75 : decode cX7_odds 75 = .ok (.aload_n 0, 1) := by decide +kernel
theorem dX7_odds_76 : decode cX7_odds 76 = .ok (.invokevirtual 245, 3) := by decide +kernel
theorem dX7_odds_79 : decode cX7_odds 79 = .ok (.iinc 6 1, 3) := by decide +kernel
theorem dX7_odds_82 : decode cX7_odds 82 = .ok (.goto (-39), 3) := by decide +kernel
theorem dX7_odds_85 : decode cX7_odds 85 = .ok (.lload 4, 2) := by decide +kernel
theorem dX7_odds_87 : decode cX7_odds 87 = .ok (.ldc2_w 254, 3) := by decide +kernel
theorem dX7_odds_90 : decode cX7_odds 90 = .ok (.iload_n 3, 1) := by decide +kernel
theorem dX7_odds_91 : decode cX7_odds 91 = .ok (.invokestatic 231, 3) := by decide +kernel
theorem dX7_odds_94 : decode cX7_odds 94 = .ok (.l2i, 1) := by decide +kernel
theorem dX7_odds_95 : decode cX7_odds 95 = .ok (.ireturn, 1) := by decide +kernel
theorem dX7_isSo_0 : decode cX7_isSo 0 = .ok (.iconst 1, 1) := by decide +kernel
theorem dX7_isSo_1 : decode cX7_isSo 1 = .ok (.istore_n 2, 1) := by decide +kernel
theorem dX7_isSo_2 : decode cX7_isSo 2 = .ok (.iconst 0, 1) := by decide +kernel
theorem dX7_isSo_3 : decode cX7_isSo 3 = .ok (.istore_n 3, 1) := by decide +kernel
theorem dX7_isSo_4 : decode cX7_isSo 4 = .ok (.iload_n 3, 1) := by decide +kernel
theorem dX7_isSo_5 : decode cX7_isSo 5 = .ok (.aload_n 0, 1) := by decide +kernel
theorem dX7_isSo_6 : decode cX7_isSo 6 = .ok (.getfield 25, 3) := by decide +kernel
theorem dX7_isSo_9 : decode cX7_isSo 9 = .ok (.iload_n 1, 1) := by decide +kernel
theorem dX7_isSo_10 : decode cX7_isSo 10 = .ok (.iaload, 1) := by decide +kernel
theorem dX7_isSo_11 : decode cX7_isSo 11 = .ok (.if_icmp .ge 41, 3) := by decide +kernel
theorem dX7_isSo_14 : decode cX7_isSo 14 = .ok (.iload_n 2, 1) := by decide +kernel
theorem dX7_isSo_15 : decode cX7_isSo 15 = .ok (.ifCond .eq 37, 3) := by decide +kernel
theorem dX7_isSo_18 : decode cX7_isSo 18 = .ok (.aload_n 0, 1) := by decide +kernel
theorem dX7_isSo_19 : decode cX7_isSo 19 = .ok (.getfield 28, 3) := by decide +kernel
theorem dX7_isSo_22 : decode cX7_isSo 22 = .ok (.bipush 24, 2) := by decide +kernel
theorem dX7_isSo_24 : decode cX7_isSo 24 = .ok (.iload_n 1, 1) := by decide +kernel
theorem dX7_isSo_25 : decode cX7_isSo 25 = .ok (.imul, 1) := by decide +kernel
theorem dX7_isSo_26 : decode cX7_isSo 26 = .ok (.iload_n 3, 1) := by decide +kernel
theorem dX7_isSo_27 : decode cX7_isSo 27 = .ok (.iadd, 1) := by decide +kernel
theorem dX7_isSo_28 : decode cX7_isSo 28 = .ok (.iaload, 1) := by decide +kernel
theorem dX7_isSo_29 : decode cX7_isSo 29 = .ok (.aload_n 0, 1) := by decide +kernel
theorem dX7_isSo_30 : decode cX7_isSo 30 = .ok (.invokevirtual 96, 3) := by decide +kernel
theorem dX7_isSo_33 : decode cX7_isSo 33 = .ok (.if_icmp .ne 7, 3) := by decide +kernel
theorem dX7_isSo_36 : decode cX7_isSo 36 = .ok (.iconst 1, 1) := by decide +kernel
theorem dX7_isSo_37 : decode cX7_isSo 37 = .ok (.goto 4, 3) := by decide +kernel
theorem dX7_isSo_40 : decode cX7_isSo 40 = .ok (.iconst 0, 1) := by decide +kernel
theorem dX7_isSo_41 : decode cX7_isSo 41 = .ok (.istore_n 2, 1) := by decide +kernel
theorem dX7_isSo_42 : decode cX7_isSo 42 = .ok (.aload_n 0, 1) := by decide +kernel
theorem dX7_isSo_43 : decode cX7_isSo 43 = .ok (.invokevirtual 212, 3) := by decide +kernel
theorem dX7_isSo_46 : decode cX7_isSo 46 = .ok (.iinc 3 1, 3) := by decide +kernel
theorem dX7_isSo_49 : decode cX7_isSo 49 = .ok (.goto (-45), 3) := by decide +kernel
theorem dX7_isSo_52 : decode cX7_isSo 52 = .ok (.aload_n 0, 1) := by decide +kernel
theorem dX7_isSo_53 : decode cX7_isSo 53 = .ok (.invokevirtual 245, 3) := by decide +kernel
theorem dX7_isSo_56 : decode cX7_isSo 56 = .ok (.iload_n 2, 1) := by decide +kernel
theorem dX7_isSo_57 : decode cX7_isSo 57 = .ok (.ireturn, 1) := by decide +kernel
theorem dX7_fits_0 : decode cX7_fits 0 = .ok (.iload_n 1, 1) := by decide +kernel
theorem dX7_fits_1 : decode cX7_fits 1 = .ok (.invokestatic 256, 3) := by decide +kernel
theorem dX7_fits_4 : decode cX7_fits 4 = .ok (.ifCond .eq 20, 3) := by decide +kernel
theorem dX7_fits_7 : decode cX7_fits 7 = .ok (.aload_n 0, 1) := by decide +kernel
theorem dX7_fits_8 : decode cX7_fits 8 = .ok (.iload_n 2, 1) := by decide +kernel
theorem dX7_fits_9 : decode cX7_fits 9 = .ok (.invokevirtual 134, 3) := by decide +kernel
theorem dX7_fits_12 : decode cX7_fits 12 = .ok (.ifCond .eq 12, 3) := by decide +kernel
theorem dX7_fits_15 : decode cX7_fits 15 = .ok (.iload_n 3, 1) := by decide +kernel
theorem dX7_fits_16 : decode cX7_fits 16 = .ok (.iconst 0, 1) := by decide +kernel
theorem dX7_fits_17 : decode cX7_fits 17 = .ok (.iconst 1, 1) := by decide +kernel
theorem dX7_fits_18 : decode cX7_fits 18 = .ok (.invokestatic 61, 3) := by decide +kernel
theorem dX7_fits_21 : decode cX7_fits 21 = .ok (.ifCond .ne 10, 3) := by decide +kernel
theorem dX7_fits_24 : decode cX7_fits 24 = .ok (.aload_n 0, 1) := by decide +kernel
theorem dX7_fits_25 : decode cX7_fits 25 = .ok (.ldc 125, 2) := by decide +kernel
theorem dX7_fits_27 : decode cX7_fits 27 = .ok (.invokevirtual 126, 3) := by decide +kernel
theorem dX7_fits_30 : decode cX7_fits 30 = .ok (.ireturn, 1) := by decide +kernel
theorem dX7_fits_31 : decode cX7_fits 31 = .ok (.aload_n 0, 1) := by decide +kernel
theorem dX7_fits_32 : decode cX7_fits 32 = .ok (.getfield 22, 3) := by decide +kernel
theorem dX7_fits_35 : decode cX7_fits 35 = .ok (.iload_n 1, 1) := by decide +kernel
theorem dX7_fits_36 : decode cX7_fits 36 = .ok (.iaload, 1) := by decide +kernel
theorem dX7_fits_37 : decode cX7_fits 37 = .ok (.ifCond .ne 10, 3) := by decide +kernel
theorem dX7_fits_40 : decode cX7_fits 40 = .ok (.aload_n 0, 1) := by decide +kernel
theorem dX7_fits_41 : decode cX7_fits 41 = .ok (.ldc 248, 2) := by decide +kernel
theorem dX7_fits_43 : decode cX7_fits 43 = .ok (.invokevirtual 126, 3) := by decide +kernel
theorem dX7_fits_46 : decode cX7_fits 46 = .ok (.ireturn, 1) := by decide +kernel
theorem dX7_fits_47 : decode cX7_fits 47 = .ok (.aload_n 0, 1) := by decide +kernel
theorem dX7_fits_48 : decode cX7_fits 48 = .ok (.invokevirtual 242, 3) := by decide +kernel
theorem dX7_fits_51 : decode cX7_fits 51 = .ok (.iconst 0, 1) := by decide +kernel
theorem dX7_fits_52 : decode cX7_fits 52 = .ok (.istore 4, 2) := by decide +kernel
theorem dX7_fits_54 : decode cX7_fits 54 = .ok (.iconst 0, 1) := by decide +kernel
theorem dX7_fits_55 : decode cX7_fits 55 = .ok (.istore 5, 2) := by decide +kernel
theorem dX7_fits_57 : decode cX7_fits 57 = .ok (.iload 5, 2) := by decide +kernel
theorem dX7_fits_59 : decode cX7_fits 59 = .ok (.bipush 6, 2) := by decide +kernel
theorem dX7_fits_61 : decode cX7_fits 61 = .ok (.if_icmp .gt 38, 3) := by decide +kernel
theorem dX7_fits_64 : decode cX7_fits 64 = .ok (.aload_n 0, 1) := by decide +kernel
theorem dX7_fits_65 : decode cX7_fits 65 = .ok (.iload_n 2, 1) := by decide +kernel
theorem dX7_fits_66 : decode cX7_fits 66 = .ok (.iconst 0, 1) := by decide +kernel
theorem dX7_fits_67 : decode cX7_fits 67 = .ok (.iload 5, 2) := by decide +kernel
theorem dX7_fits_69 : decode cX7_fits 69 = .ok (.invokevirtual 130, 3) := by decide +kernel
theorem dX7_fits_72 : decode cX7_fits 72 = .ok (.iload 4, 2) := by decide +kernel
theorem dX7_fits_74 : decode cX7_fits 74 = .ok (.aload_n 0, 1) := by decide +kernel
theorem dX7_fits_75 : decode cX7_fits 75 = .ok (.iload_n 1, 1) := by decide +kernel
theorem dX7_fits_76 : decode cX7_fits 76 = .ok (.invokevirtual 259, 3) := by decide +kernel
theorem dX7_fits_79 : decode cX7_fits 79 = .ok (.ifCond .eq 10, 3) := by decide +kernel
theorem dX7_fits_82 : decode cX7_fits 82 = .ok (.iconst 1, 1) := by decide +kernel
theorem dX7_fits_83 : decode cX7_fits 83 = .ok (.iload 5, 2) := by decide +kernel
theorem dX7_fits_85 : decode cX7_fits 85 = .ok (.ishl, 1) := by decide +kernel
theorem dX7_fits_86 : decode cX7_fits 86 = .ok (.goto 4, 3) := by decide +kernel
theorem dX7_fits_89 : decode cX7_fits 89 = .ok (.iconst 0, 1) := by decide +kernel
theorem dX7_fits_90 : decode cX7_fits 90 = .ok (.ior, 1) := by decide +kernel
theorem dX7_fits_91 : decode cX7_fits 91 = .ok (.istore 4, 2) := by decide +kernel
theorem dX7_fits_93 : decode cX7_fits 93 = .ok (.iinc 5 1, 3) := by decide +kernel
theorem dX7_fits_96 : decode cX7_fits 96 = .ok (.goto (-39), 3) := by decide +kernel
theorem dX7_fits_99 : decode cX7_fits 99 = .ok (.iload_n 3, 1) := by decide +kernel
theorem dX7_fits_100 : decode cX7_fits 100 = .ok (.ifCond .ne 8, 3) := by decide +kernel
theorem dX7_fits_103 : decode cX7_fits 103 = .ok (.iload 4, 2) := by decide +kernel
theorem dX7_fits_105 : decode cX7_fits 105 = .ok (.goto 8, 3) := by decide +kernel
theorem dX7_fits_108 : decode cX7_fits 108 = .ok (.iload 4, 2) := by decide +kernel
theorem dX7_fits_110 : decode cX7_fits 110 = .ok (.invokestatic 218, 3) := by decide +kernel
theorem dX7_fits_113 : decode cX7_fits 113 = .ok (.ireturn, 1) := by decide +kernel
theorem dX7_begins_0 : decode cX7_begins 0 = .ok (.aload_n 0, 1) := by decide +kernel
theorem dX7_begins_1 : decode cX7_begins 1 = .ok (.getfield 262, 3) := by decide +kernel
theorem dX7_begins_4 : decode cX7_begins 4 = .ok (.bipush 30, 2) := by decide +kernel
theorem dX7_begins_6 : decode cX7_begins 6 = .ok (.if_icmp .ge 23, 3) := by decide +kernel
theorem dX7_begins_9 : decode cX7_begins 9 = .ok (.aload_n 0, 1) := by decide +kernel
theorem dX7_begins_10 : decode cX7_begins 10 = .ok (.getfield 53, 3) := by decide +kernel
theorem dX7_begins_13 : decode cX7_begins 13 = .ok (.aload_n 0, 1) := by decide +kernel
theorem dX7_begins_14 : decode cX7_begins 14 = .ok (.getfield 262, 3) := by decide +kernel
theorem dX7_begins_17 : decode cX7_begins 17 = .ok (.iload_n 1, 1) := by decide +kernel
theorem dX7_begins_18 : decode cX7_begins 18 = .ok (.iastore, 1) := by decide +kernel
theorem dX7_begins_19 : decode cX7_begins 19 = .ok (.aload_n 0, 1) := by decide +kernel
theorem dX7_begins_20 : decode cX7_begins 20 = .ok (.dup, 1) := by decide +kernel
theorem dX7_begins_21 : decode cX7_begins 21 = .ok (.getfield 262, 3) := by decide +kernel
theorem dX7_begins_24 : decode cX7_begins 24 = .ok (.iconst 1, 1) := by decide +kernel
theorem dX7_begins_25 : decode cX7_begins 25 = .ok (.iadd, 1) := by decide +kernel
theorem dX7_begins_26 : decode cX7_begins 26 = .ok (.putfield 262, 3) := by decide +kernel
theorem dX7_begins_29 : decode cX7_begins 29 = .ok (.return_, 1) := by decide +kernel
theorem dX7_plainWeighs_0 : decode cX7_plainWeighs 0 = .ok (.aload_n 0, 1) := by decide +kernel
theorem dX7_plainWeighs_1 : decode cX7_plainWeighs 1 = .ok (.bipush 10, 2) := by decide +kernel
theorem dX7_plainWeighs_3 : decode cX7_plainWeighs 3 = .ok (.invokevirtual 265, 3) := by decide +kernel
theorem dX7_plainWeighs_6 : decode cX7_plainWeighs 6 = .ok (.iload_n 2, 1) := by decide +kernel
theorem dX7_plainWeighs_7 : decode cX7_plainWeighs 7 = .ok (.iload_n 1, 1) := by decide +kernel
theorem dX7_plainWeighs_8 : decode cX7_plainWeighs 8 = .ok (.iadd, 1) := by decide +kernel
theorem dX7_plainWeighs_9 : decode cX7_plainWeighs 9 = .ok (.ireturn, 1) := by decide +kernel
theorem dX7_flatWeighs_0 : decode cX7_flatWeighs 0 = .ok (.aload_n 0, 1) := by decide +kernel
theorem dX7_flatWeighs_1 : decode cX7_flatWeighs 1 = .ok (.bipush 20, 2) := by decide +kernel
theorem dX7_flatWeighs_3 : decode cX7_flatWeighs 3 = .ok (.invokevirtual 265, 3) := by decide +kernel
theorem dX7_flatWeighs_6 : decode cX7_flatWeighs 6 = .ok (.aload_n 0, 1) := by decide +kernel
theorem dX7_flatWeighs_7 : decode cX7_flatWeighs 7 = .ok (.iload_n 1, 1) := by decide +kernel
theorem dX7_flatWeighs_8 : decode cX7_flatWeighs 8 = .ok (.iload_n 2, 1) := by decide +kernel
theorem dX7_flatWeighs_9 : decode cX7_flatWeighs 9 = .ok (.invokevirtual 268, 3) := by decide +kernel
theorem dX7_flatWeighs_12 : decode cX7_flatWeighs 12 = .ok (.iconst 4, 1) := by decide +kernel
theorem dX7_flatWeighs_13 : decode cX7_flatWeighs 13 = .ok (.isub, 1) := by decide +kernel
theorem dX7_flatWeighs_14 : decode cX7_flatWeighs 14 = .ok (.ireturn, 1) := by decide +kernel
theorem dX7_weighs_0 : decode cX7_weighs 0 = .ok (.aload_n 0, 1) := by decide +kernel
theorem dX7_weighs_1 : decode cX7_weighs 1 = .ok (.iload_n 1, 1) := by decide +kernel
theorem dX7_weighs_2 : decode cX7_weighs 2 = .ok (.iconst 0, 1) := by decide +kernel
theorem dX7_weighs_3 : decode cX7_weighs 3 = .ok (.invokevirtual 65, 3) := by decide +kernel
theorem dX7_weighs_6 : decode cX7_weighs 6 = .ok (.lookupswitch 65 #[(1, 34), (4, 41), (6, 56)], 34) := by decide +kernel
theorem dX7_weighs_40 : decode cX7_weighs 40 = .ok (.aload_n 0, 1) := by decide +kernel
theorem dX7_weighs_41 : decode cX7_weighs 41 = .ok (.iload_n 1, 1) := by decide +kernel
theorem dX7_weighs_42 : decode cX7_weighs 42 = .ok (.iload_n 2, 1) := by decide +kernel
theorem dX7_weighs_43 : decode cX7_weighs 43 = .ok (.invokevirtual 271, 3) := by decide +kernel
theorem dX7_weighs_46 : decode cX7_weighs 46 = .ok (.ireturn, 1) := by decide +kernel
theorem dX7_weighs_47 : decode cX7_weighs 47 = .ok (.aload_n 0, 1) := by decide +kernel
theorem dX7_weighs_48 : decode cX7_weighs 48 = .ok (.bipush 50, 2) := by decide +kernel
theorem dX7_weighs_50 : decode cX7_weighs 50 = .ok (.invokevirtual 265, 3) := by decide +kernel
theorem dX7_weighs_53 : decode cX7_weighs 53 = .ok (.aload_n 0, 1) := by decide +kernel
theorem dX7_weighs_54 : decode cX7_weighs 54 = .ok (.iload_n 1, 1) := by decide +kernel
theorem dX7_weighs_55 : decode cX7_weighs 55 = .ok (.iload_n 2, 1) := by decide +kernel
theorem dX7_weighs_56 : decode cX7_weighs 56 = .ok (.invokevirtual 271, 3) := by decide +kernel
theorem dX7_weighs_59 : decode cX7_weighs 59 = .ok (.iconst 3, 1) := by decide +kernel
theorem dX7_weighs_60 : decode cX7_weighs 60 = .ok (.imul, 1) := by decide +kernel
theorem dX7_weighs_61 : decode cX7_weighs 61 = .ok (.ireturn, 1) := by decide +kernel
theorem dX7_weighs_62 : decode cX7_weighs 62 = .ok (.aload_n 0, 1) := by decide +kernel
theorem dX7_weighs_63 : decode cX7_weighs 63 = .ok (.bipush 70, 2) := by decide +kernel
theorem dX7_weighs_65 : decode cX7_weighs 65 = .ok (.invokevirtual 265, 3) := by decide +kernel
theorem dX7_weighs_68 : decode cX7_weighs 68 = .ok (.bipush 9, 2) := by decide +kernel
theorem dX7_weighs_70 : decode cX7_weighs 70 = .ok (.ireturn, 1) := by decide +kernel
theorem dX7_weighs_71 : decode cX7_weighs 71 = .ok (.aload_n 0, 1) := by decide +kernel
theorem dX7_weighs_72 : decode cX7_weighs 72 = .ok (.iload_n 1, 1) := by decide +kernel
theorem dX7_weighs_73 : decode cX7_weighs 73 = .ok (.iload_n 2, 1) := by decide +kernel
theorem dX7_weighs_74 : decode cX7_weighs 74 = .ok (.invokevirtual 268, 3) := by decide +kernel
theorem dX7_weighs_77 : decode cX7_weighs 77 = .ok (.ireturn, 1) := by decide +kernel
theorem dX7_plainSays_0 : decode cX7_plainSays 0 = .ok (.aload_n 0, 1) := by decide +kernel
theorem dX7_plainSays_1 : decode cX7_plainSays 1 = .ok (.bipush 11, 2) := by decide +kernel
theorem dX7_plainSays_3 : decode cX7_plainSays 3 = .ok (.invokevirtual 265, 3) := by decide +kernel
theorem dX7_plainSays_6 : decode cX7_plainSays 6 = .ok (.aload_n 0, 1) := by decide +kernel
theorem dX7_plainSays_7 : decode cX7_plainSays 7 = .ok (.iload_n 1, 1) := by decide +kernel
theorem dX7_plainSays_8 : decode cX7_plainSays 8 = .ok (.iload_n 2, 1) := by decide +kernel
theorem dX7_plainSays_9 : decode cX7_plainSays 9 = .ok (.invokevirtual 274, 3) := by decide +kernel
theorem dX7_plainSays_12 : decode cX7_plainSays 12 = .ok (.iconst 2, 1) := by decide +kernel
theorem dX7_plainSays_13 : decode cX7_plainSays 13 = .ok (.imul, 1) := by decide +kernel
theorem dX7_plainSays_14 : decode cX7_plainSays 14 = .ok (.ireturn, 1) := by decide +kernel
theorem dX7_starSays_0 : decode cX7_starSays 0 = .ok (.aload_n 0, 1) := by decide +kernel
theorem dX7_starSays_1 : decode cX7_starSays 1 = .ok (.bipush 30, 2) := by decide +kernel
theorem dX7_starSays_3 : decode cX7_starSays 3 = .ok (.invokevirtual 265, 3) := by decide +kernel
theorem dX7_starSays_6 : decode cX7_starSays 6 = .ok (.aload_n 0, 1) := by decide +kernel
theorem dX7_starSays_7 : decode cX7_starSays 7 = .ok (.iload_n 1, 1) := by decide +kernel
theorem dX7_starSays_8 : decode cX7_starSays 8 = .ok (.iload_n 2, 1) := by decide +kernel
theorem dX7_starSays_9 : decode cX7_starSays 9 = .ok (.invokevirtual 277, 3) := by decide +kernel
theorem dX7_starSays_12 : decode cX7_starSays 12 = .ok (.ineg, 1) := by decide +kernel
theorem dX7_starSays_13 : decode cX7_starSays 13 = .ok (.ireturn, 1) := by decide +kernel
theorem dX7_says_0 : decode cX7_says 0 = .ok (.aload_n 0, 1) := by decide +kernel
theorem dX7_says_1 : decode cX7_says 1 = .ok (.iload_n 1, 1) := by decide +kernel
theorem dX7_says_2 : decode cX7_says 2 = .ok (.iconst 0, 1) := by decide +kernel
theorem dX7_says_3 : decode cX7_says 3 = .ok (.invokevirtual 65, 3) := by decide +kernel
theorem dX7_says_6 : decode cX7_says 6 = .ok (.tableswitch 76 2 6 #[34, 76, 76, 41, 56], 34) := by decide +kernel
theorem dX7_says_40 : decode cX7_says 40 = .ok (.aload_n 0, 1) := by decide +kernel
theorem dX7_says_41 : decode cX7_says 41 = .ok (.iload_n 1, 1) := by decide +kernel
theorem dX7_says_42 : decode cX7_says 42 = .ok (.iload_n 2, 1) := by decide +kernel
theorem dX7_says_43 : decode cX7_says 43 = .ok (.invokevirtual 280, 3) := by decide +kernel
theorem dX7_says_46 : decode cX7_says 46 = .ok (.ireturn, 1) := by decide +kernel
theorem dX7_says_47 : decode cX7_says 47 = .ok (.aload_n 0, 1) := by decide +kernel
theorem dX7_says_48 : decode cX7_says 48 = .ok (.bipush 60, 2) := by decide +kernel
theorem dX7_says_50 : decode cX7_says 50 = .ok (.invokevirtual 265, 3) := by decide +kernel
theorem dX7_says_53 : decode cX7_says 53 = .ok (.aload_n 0, 1) := by decide +kernel
theorem dX7_says_54 : decode cX7_says 54 = .ok (.iload_n 1, 1) := by decide +kernel
theorem dX7_says_55 : decode cX7_says 55 = .ok (.iload_n 2, 1) := by decide +kernel
theorem dX7_says_56 : decode cX7_says 56 = .ok (.iconst 1, 1) := by decide +kernel
theorem dX7_says_57 : decode cX7_says 57 = .ok (.iadd, 1) := by decide +kernel
theorem dX7_says_58 : decode cX7_says 58 = .ok (.invokevirtual 280, 3) := by decide +kernel
theorem dX7_says_61 : decode cX7_says 61 = .ok (.ireturn, 1) := by decide +kernel
theorem dX7_says_62 : decode cX7_says 62 = .ok (.aload_n 0, 1) := by decide +kernel
theorem dX7_says_63 : decode cX7_says 63 = .ok (.bipush 71, 2) := by decide +kernel
theorem dX7_says_65 : decode cX7_says 65 = .ok (.invokevirtual 265, 3) := by decide +kernel
theorem dX7_says_68 : decode cX7_says 68 = .ok (.aload_n 0, 1) := by decide +kernel
theorem dX7_says_69 : decode cX7_says 69 = .ok (.iload_n 1, 1) := by decide +kernel
theorem dX7_says_70 : decode cX7_says 70 = .ok (.iload_n 2, 1) := by decide +kernel
theorem dX7_says_71 : decode cX7_says 71 = .ok (.invokevirtual 277, 3) := by decide +kernel
theorem dX7_says_74 : decode cX7_says 74 = .ok (.aload_n 0, 1) := by decide +kernel
theorem dX7_says_75 : decode cX7_says 75 = .ok (.iload_n 1, 1) := by decide +kernel
theorem dX7_says_76 : decode cX7_says 76 = .ok (.iconst 1, 1) := by decide +kernel
theorem dX7_says_77 : decode cX7_says 77 = .ok (.invokevirtual 65, 3) := by decide +kernel
theorem dX7_says_80 : decode cX7_says 80 = .ok (.iadd, 1) := by decide +kernel
theorem dX7_says_81 : decode cX7_says 81 = .ok (.ireturn, 1) := by decide +kernel
theorem dX7_says_82 : decode cX7_says 82 = .ok (.aload_n 0, 1) := by decide +kernel
theorem dX7_says_83 : decode cX7_says 83 = .ok (.iload_n 1, 1) := by decide +kernel
theorem dX7_says_84 : decode cX7_says 84 = .ok (.iload_n 2, 1) := by decide +kernel
theorem dX7_says_85 : decode cX7_says 85 = .ok (.invokevirtual 277, 3) := by decide +kernel
theorem dX7_says_88 : decode cX7_says 88 = .ok (.ireturn, 1) := by decide +kernel
theorem dX7_plainTies_0 : decode cX7_plainTies 0 = .ok (.aload_n 0, 1) := by decide +kernel
theorem dX7_plainTies_1 : decode cX7_plainTies 1 = .ok (.bipush 12, 2) := by decide +kernel
theorem dX7_plainTies_3 : decode cX7_plainTies 3 = .ok (.invokevirtual 265, 3) := by decide +kernel
theorem dX7_plainTies_6 : decode cX7_plainTies 6 = .ok (.aload_n 0, 1) := by decide +kernel
theorem dX7_plainTies_7 : decode cX7_plainTies 7 = .ok (.iload_n 1, 1) := by decide +kernel
theorem dX7_plainTies_8 : decode cX7_plainTies 8 = .ok (.iload_n 2, 1) := by decide +kernel
theorem dX7_plainTies_9 : decode cX7_plainTies 9 = .ok (.invokevirtual 283, 3) := by decide +kernel
theorem dX7_plainTies_12 : decode cX7_plainTies 12 = .ok (.aload_n 0, 1) := by decide +kernel
theorem dX7_plainTies_13 : decode cX7_plainTies 13 = .ok (.iload_n 1, 1) := by decide +kernel
theorem dX7_plainTies_14 : decode cX7_plainTies 14 = .ok (.iconst 1, 1) := by decide +kernel
theorem dX7_plainTies_15 : decode cX7_plainTies 15 = .ok (.invokevirtual 65, 3) := by decide +kernel
theorem dX7_plainTies_18 : decode cX7_plainTies 18 = .ok (.isub, 1) := by decide +kernel
theorem dX7_plainTies_19 : decode cX7_plainTies 19 = .ok (.ireturn, 1) := by decide +kernel
theorem dX7_ties_0 : decode cX7_ties 0 = .ok (.aload_n 0, 1) := by decide +kernel
theorem dX7_ties_1 : decode cX7_ties 1 = .ok (.iload_n 1, 1) := by decide +kernel
theorem dX7_ties_2 : decode cX7_ties 2 = .ok (.iconst 0, 1) := by decide +kernel
theorem dX7_ties_3 : decode cX7_ties 3 = .ok (.invokevirtual 65, 3) := by decide +kernel
theorem dX7_ties_6 : decode cX7_ties 6 = .ok (.lookupswitch 56 #[(3, 26), (4, 41)], 26) := by decide +kernel
theorem dX7_ties_32 : decode cX7_ties 32 = .ok (.aload_n 0, 1) := by decide +kernel
theorem dX7_ties_33 : decode cX7_ties 33 = .ok (.bipush 40, 2) := by decide +kernel
theorem dX7_ties_35 : decode cX7_ties 35 = .ok (.invokevirtual 265, 3) := by decide +kernel
theorem dX7_ties_38 : decode cX7_ties 38 = .ok (.aload_n 0, 1) := by decide +kernel
theorem dX7_ties_39 : decode cX7_ties 39 = .ok (.iload_n 1, 1) := by decide +kernel
theorem dX7_ties_40 : decode cX7_ties 40 = .ok (.iload_n 2, 1) := by decide +kernel
theorem dX7_ties_41 : decode cX7_ties 41 = .ok (.iconst 2, 1) := by decide +kernel
theorem dX7_ties_42 : decode cX7_ties 42 = .ok (.idiv, 1) := by decide +kernel
theorem dX7_ties_43 : decode cX7_ties 43 = .ok (.invokevirtual 286, 3) := by decide +kernel
theorem dX7_ties_46 : decode cX7_ties 46 = .ok (.ireturn, 1) := by decide +kernel
theorem dX7_ties_47 : decode cX7_ties 47 = .ok (.aload_n 0, 1) := by decide +kernel
theorem dX7_ties_48 : decode cX7_ties 48 = .ok (.bipush 51, 2) := by decide +kernel
theorem dX7_ties_50 : decode cX7_ties 50 = .ok (.invokevirtual 265, 3) := by decide +kernel
theorem dX7_ties_53 : decode cX7_ties 53 = .ok (.aload_n 0, 1) := by decide +kernel
theorem dX7_ties_54 : decode cX7_ties 54 = .ok (.iload_n 1, 1) := by decide +kernel
theorem dX7_ties_55 : decode cX7_ties 55 = .ok (.iload_n 2, 1) := by decide +kernel
theorem dX7_ties_56 : decode cX7_ties 56 = .ok (.invokevirtual 286, 3) := by decide +kernel
theorem dX7_ties_59 : decode cX7_ties 59 = .ok (.iload_n 1, 1) := by decide +kernel
theorem dX7_ties_60 : decode cX7_ties 60 = .ok (.ixor, 1) := by decide +kernel
theorem dX7_ties_61 : decode cX7_ties 61 = .ok (.ireturn, 1) := by decide +kernel
theorem dX7_ties_62 : decode cX7_ties 62 = .ok (.aload_n 0, 1) := by decide +kernel
theorem dX7_ties_63 : decode cX7_ties 63 = .ok (.iload_n 1, 1) := by decide +kernel
theorem dX7_ties_64 : decode cX7_ties 64 = .ok (.iload_n 2, 1) := by decide +kernel
theorem dX7_ties_65 : decode cX7_ties 65 = .ok (.invokevirtual 286, 3) := by decide +kernel
theorem dX7_ties_68 : decode cX7_ties 68 = .ok (.ireturn, 1) := by decide +kernel
theorem dX7_plainParts_0 : decode cX7_plainParts 0 = .ok (.aload_n 0, 1) := by decide +kernel
theorem dX7_plainParts_1 : decode cX7_plainParts 1 = .ok (.bipush 13, 2) := by decide +kernel
theorem dX7_plainParts_3 : decode cX7_plainParts 3 = .ok (.invokevirtual 265, 3) := by decide +kernel
theorem dX7_plainParts_6 : decode cX7_plainParts 6 = .ok (.aload_n 0, 1) := by decide +kernel
theorem dX7_plainParts_7 : decode cX7_plainParts 7 = .ok (.iload_n 1, 1) := by decide +kernel
theorem dX7_plainParts_8 : decode cX7_plainParts 8 = .ok (.iconst 1, 1) := by decide +kernel
theorem dX7_plainParts_9 : decode cX7_plainParts 9 = .ok (.invokevirtual 65, 3) := by decide +kernel
theorem dX7_plainParts_12 : decode cX7_plainParts 12 = .ok (.iload_n 1, 1) := by decide +kernel
theorem dX7_plainParts_13 : decode cX7_plainParts 13 = .ok (.isub, 1) := by decide +kernel
theorem dX7_plainParts_14 : decode cX7_plainParts 14 = .ok (.istore_n 3, 1) := by decide +kernel
theorem dX7_plainParts_15 : decode cX7_plainParts 15 = .ok (.aload_n 0, 1) := by decide +kernel
theorem dX7_plainParts_16 : decode cX7_plainParts 16 = .ok (.iload_n 3, 1) := by decide +kernel
theorem dX7_plainParts_17 : decode cX7_plainParts 17 = .ok (.ifCond .ne 7, 3) := by decide +kernel
theorem dX7_plainParts_20 : decode cX7_plainParts 20 = .ok (.iconst 1, 1) := by decide +kernel
theorem dX7_plainParts_21 : decode cX7_plainParts 21 = .ok (.goto 4, 3) := by decide +kernel
theorem dX7_plainParts_24 : decode cX7_plainParts 24 = .ok (.iconst 0, 1) := by decide +kernel
theorem dX7_plainParts_25 : decode cX7_plainParts 25 = .ok (.putfield 289, 3) := by decide +kernel
theorem dX7_plainParts_28 : decode cX7_plainParts 28 = .ok (.aload_n 0, 1) := by decide +kernel
theorem dX7_plainParts_29 : decode cX7_plainParts 29 = .ok (.getfield 289, 3) := by decide +kernel
theorem dX7_plainParts_32 : decode cX7_plainParts 32 = .ok (.ifCond .eq 7, 3) := by decide +kernel
theorem dX7_plainParts_35 : decode cX7_plainParts 35 = .ok (.iconst 0, 1) := by decide +kernel
theorem dX7_plainParts_36 : decode cX7_plainParts 36 = .ok (.goto 6, 3) := by decide +kernel
theorem dX7_plainParts_39 : decode cX7_plainParts 39 = .ok (.iload_n 2, 1) := by decide +kernel
theorem dX7_plainParts_40 : decode cX7_plainParts 40 = .ok (.iload_n 3, 1) := by decide +kernel
theorem dX7_plainParts_41 : decode cX7_plainParts 41 = .ok (.idiv, 1) := by decide +kernel
theorem dX7_plainParts_42 : decode cX7_plainParts 42 = .ok (.ireturn, 1) := by decide +kernel
theorem dX7_partsBy_0 : decode cX7_partsBy 0 = .ok (.aload_n 0, 1) := by decide +kernel
theorem dX7_partsBy_1 : decode cX7_partsBy 1 = .ok (.iload_n 1, 1) := by decide +kernel
theorem dX7_partsBy_2 : decode cX7_partsBy 2 = .ok (.iconst 0, 1) := by decide +kernel
theorem dX7_partsBy_3 : decode cX7_partsBy 3 = .ok (.invokevirtual 65, 3) := by decide +kernel
theorem dX7_partsBy_6 : decode cX7_partsBy 6 = .ok (.iconst 1, 1) := by decide +kernel
theorem dX7_partsBy_7 : decode cX7_partsBy 7 = .ok (.if_icmp .eq 13, 3) := by decide +kernel
theorem dX7_partsBy_10 : decode cX7_partsBy 10 = .ok (.aload_n 0, 1) := by decide +kernel
theorem dX7_partsBy_11 : decode cX7_partsBy 11 = .ok (.iload_n 1, 1) := by decide +kernel
theorem dX7_partsBy_12 : decode cX7_partsBy 12 = .ok (.iconst 0, 1) := by decide +kernel
theorem dX7_partsBy_13 : decode cX7_partsBy 13 = .ok (.invokevirtual 65, 3) := by decide +kernel
theorem dX7_partsBy_16 : decode cX7_partsBy 16 = .ok (.iconst 4, 1) := by decide +kernel
theorem dX7_partsBy_17 : decode cX7_partsBy 17 = .ok (.if_icmp .ne 36, 3) := by decide +kernel
theorem dX7_partsBy_20 : decode cX7_partsBy 20 = .ok (.aload_n 0, 1) := by decide +kernel
theorem dX7_partsBy_21 : decode cX7_partsBy 21 = .ok (.bipush 21, 2) := by decide +kernel
theorem dX7_partsBy_23 : decode cX7_partsBy 23 = .ok (.invokevirtual 265, 3) := by decide +kernel
theorem dX7_partsBy_26 : decode cX7_partsBy 26 = .ok (.aload_n 0, 1) := by decide +kernel
theorem dX7_partsBy_27 : decode cX7_partsBy 27 = .ok (.iload_n 1, 1) := by decide +kernel
theorem dX7_partsBy_28 : decode cX7_partsBy 28 = .ok (.iload_n 2, 1) := by decide +kernel
theorem dX7_partsBy_29 : decode cX7_partsBy 29 = .ok (.invokevirtual 292, 3) := by decide +kernel
theorem dX7_partsBy_32 : decode cX7_partsBy 32 = .ok (.istore_n 3, 1) := by decide +kernel
theorem dX7_partsBy_33 : decode cX7_partsBy 33 = .ok (.aload_n 0, 1) := by decide +kernel
theorem dX7_partsBy_34 : decode cX7_partsBy 34 = .ok (.getfield 289, 3) := by decide +kernel
theorem dX7_partsBy_37 : decode cX7_partsBy 37 = .ok (.ifCond .eq 7, 3) := by decide +kernel
theorem dX7_partsBy_40 : decode cX7_partsBy 40 = .ok (.iconst 0, 1) := by decide +kernel
theorem dX7_partsBy_41 : decode cX7_partsBy 41 = .ok (.goto 11, 3) := by decide +kernel
theorem dX7_partsBy_44 : decode cX7_partsBy 44 = .ok (.iload_n 3, 1) := by decide +kernel
theorem dX7_partsBy_45 : decode cX7_partsBy 45 = .ok (.aload_n 0, 1) := by decide +kernel
theorem dX7_partsBy_46 : decode cX7_partsBy 46 = .ok (.iload_n 1, 1) := by decide +kernel
theorem dX7_partsBy_47 : decode cX7_partsBy 47 = .ok (.iconst 1, 1) := by decide +kernel
theorem dX7_partsBy_48 : decode cX7_partsBy 48 = .ok (.invokevirtual 283, 3) := by decide +kernel
theorem dX7_partsBy_51 : decode cX7_partsBy 51 = .ok (.iadd, 1) := by decide +kernel
theorem dX7_partsBy_52 : decode cX7_partsBy 52 = .ok (.ireturn, 1) := by decide +kernel
theorem dX7_partsBy_53 : decode cX7_partsBy 53 = .ok (.aload_n 0, 1) := by decide +kernel
theorem dX7_partsBy_54 : decode cX7_partsBy 54 = .ok (.iload_n 1, 1) := by decide +kernel
theorem dX7_partsBy_55 : decode cX7_partsBy 55 = .ok (.iload_n 2, 1) := by decide +kernel
theorem dX7_partsBy_56 : decode cX7_partsBy 56 = .ok (.invokevirtual 292, 3) := by decide +kernel
theorem dX7_partsBy_59 : decode cX7_partsBy 59 = .ok (.ireturn, 1) := by decide +kernel
theorem dX7_voice_0 : decode cX7_voice 0 = .ok (.aload_n 0, 1) := by decide +kernel
theorem dX7_voice_1 : decode cX7_voice 1 = .ok (.iload_n 1, 1) := by decide +kernel
theorem dX7_voice_2 : decode cX7_voice 2 = .ok (.invokevirtual 134, 3) := by decide +kernel
theorem dX7_voice_5 : decode cX7_voice 5 = .ok (.ifCond .eq 12, 3) := by decide +kernel
theorem dX7_voice_8 : decode cX7_voice 8 = .ok (.iload_n 2, 1) := by decide +kernel
theorem dX7_voice_9 : decode cX7_voice 9 = .ok (.iconst 0, 1) := by decide +kernel
theorem dX7_voice_10 : decode cX7_voice 10 = .ok (.iconst 3, 1) := by decide +kernel
theorem dX7_voice_11 : decode cX7_voice 11 = .ok (.invokestatic 61, 3) := by decide +kernel
theorem dX7_voice_14 : decode cX7_voice 14 = .ok (.ifCond .ne 10, 3) := by decide +kernel
theorem dX7_voice_17 : decode cX7_voice 17 = .ok (.aload_n 0, 1) := by decide +kernel
theorem dX7_voice_18 : decode cX7_voice 18 = .ok (.ldc 125, 2) := by decide +kernel
theorem dX7_voice_20 : decode cX7_voice 20 = .ok (.invokevirtual 126, 3) := by decide +kernel
theorem dX7_voice_23 : decode cX7_voice 23 = .ok (.ireturn, 1) := by decide +kernel
theorem dX7_voice_24 : decode cX7_voice 24 = .ok (.aload_n 0, 1) := by decide +kernel
theorem dX7_voice_25 : decode cX7_voice 25 = .ok (.iconst 0, 1) := by decide +kernel
theorem dX7_voice_26 : decode cX7_voice 26 = .ok (.putfield 262, 3) := by decide +kernel
theorem dX7_voice_29 : decode cX7_voice 29 = .ok (.aload_n 0, 1) := by decide +kernel
theorem dX7_voice_30 : decode cX7_voice 30 = .ok (.iconst 0, 1) := by decide +kernel
theorem dX7_voice_31 : decode cX7_voice 31 = .ok (.putfield 289, 3) := by decide +kernel
theorem dX7_voice_34 : decode cX7_voice 34 = .ok (.iload_n 2, 1) := by decide +kernel
theorem dX7_voice_35 : decode cX7_voice 35 = .ok (.ifCond .ne 12, 3) := by decide +kernel
theorem dX7_voice_38 : decode cX7_voice 38 = .ok (.aload_n 0, 1) := by decide +kernel
theorem dX7_voice_39 : decode cX7_voice 39 = .ok (.iload_n 1, 1) := by decide +kernel
theorem dX7_voice_40 : decode cX7_voice 40 = .ok (.iload_n 3, 1) := by decide +kernel
theorem dX7_voice_41 : decode cX7_voice 41 = .ok (.invokevirtual 274, 3) := by decide +kernel
theorem dX7_voice_44 : decode cX7_voice 44 = .ok (.goto 37, 3) := by decide +kernel
theorem dX7_voice_47 : decode cX7_voice 47 = .ok (.iload_n 2, 1) := by decide +kernel
theorem dX7_voice_48 : decode cX7_voice 48 = .ok (.iconst 1, 1) := by decide +kernel
theorem dX7_voice_49 : decode cX7_voice 49 = .ok (.if_icmp .ne 12, 3) := by decide +kernel
theorem dX7_voice_52 : decode cX7_voice 52 = .ok (.aload_n 0, 1) := by decide +kernel
theorem dX7_voice_53 : decode cX7_voice 53 = .ok (.iload_n 1, 1) := by decide +kernel
theorem dX7_voice_54 : decode cX7_voice 54 = .ok (.iload_n 3, 1) := by decide +kernel
theorem dX7_voice_55 : decode cX7_voice 55 = .ok (.invokevirtual 283, 3) := by decide +kernel
theorem dX7_voice_58 : decode cX7_voice 58 = .ok (.goto 23, 3) := by decide +kernel
theorem dX7_voice_61 : decode cX7_voice 61 = .ok (.iload_n 2, 1) := by decide +kernel
theorem dX7_voice_62 : decode cX7_voice 62 = .ok (.iconst 2, 1) := by decide +kernel
theorem dX7_voice_63 : decode cX7_voice 63 = .ok (.if_icmp .ne 12, 3) := by decide +kernel
theorem dX7_voice_66 : decode cX7_voice 66 = .ok (.aload_n 0, 1) := by decide +kernel
theorem dX7_voice_67 : decode cX7_voice 67 = .ok (.iload_n 1, 1) := by decide +kernel
theorem dX7_voice_68 : decode cX7_voice 68 = .ok (.iload_n 3, 1) := by decide +kernel
theorem dX7_voice_69 : decode cX7_voice 69 = .ok (.invokevirtual 295, 3) := by decide +kernel
theorem dX7_voice_72 : decode cX7_voice 72 = .ok (.goto 9, 3) := by decide +kernel
theorem dX7_voice_75 : decode cX7_voice 75 = .ok (.aload_n 0, 1) := by decide +kernel
theorem dX7_voice_76 : decode cX7_voice 76 = .ok (.iload_n 1, 1) := by decide +kernel
theorem dX7_voice_77 : decode cX7_voice 77 = .ok (.iload_n 3, 1) := by decide +kernel
theorem dX7_voice_78 : decode cX7_voice 78 = .ok (.invokevirtual 298, 3) := by decide +kernel
theorem dX7_voice_81 : decode cX7_voice 81 = .ok (.istore 4, 2) := by decide +kernel
theorem dX7_voice_83 : decode cX7_voice 83 = .ok (.aload_n 0, 1) := by decide +kernel
theorem dX7_voice_84 : decode cX7_voice 84 = .ok (.getfield 289, 3) := by decide +kernel
theorem dX7_voice_87 : decode cX7_voice 87 = .ok (.ifCond .eq 13, 3) := by decide +kernel
theorem dX7_voice_90 : decode cX7_voice 90 = .ok (.aload_n 0, 1) := by decide +kernel
theorem dX7_voice_91 : decode cX7_voice 91 = .ok (.ldc_w 301, 3) := by decide +kernel
theorem dX7_voice_94 : decode cX7_voice 94 = .ok (.invokevirtual 126, 3) := by decide +kernel
theorem dX7_voice_97 : decode cX7_voice 97 = .ok (.goto 5, 3) := by decide +kernel
theorem dX7_voice_100 : decode cX7_voice 100 = .ok (.iload 4, 2) := by decide +kernel
theorem dX7_voice_102 : decode cX7_voice 102 = .ok (.ireturn, 1) := by decide +kernel
theorem dX7_body_0 : decode cX7_body 0 = .ok (.iload_n 1, 1) := by decide +kernel
theorem dX7_body_1 : decode cX7_body 1 = .ok (.iconst 0, 1) := by decide +kernel
theorem dX7_body_2 : decode cX7_body 2 = .ok (.aload_n 0, 1) := by decide +kernel
theorem dX7_body_3 : decode cX7_body 3 = .ok (.getfield 262, 3) := by decide +kernel
theorem dX7_body_6 : decode cX7_body 6 = .ok (.iconst 1, 1) := by decide +kernel
theorem dX7_body_7 : decode cX7_body 7 = .ok (.isub, 1) := by decide +kernel
theorem dX7_body_8 : decode cX7_body 8 = .ok (.invokestatic 61, 3) := by decide +kernel
theorem dX7_body_11 : decode cX7_body 11 = .ok (.ifCond .eq 12, 3) := by decide +kernel
theorem dX7_body_14 : decode cX7_body 14 = .ok (.aload_n 0, 1) := by decide +kernel
theorem dX7_body_15 : decode cX7_body 15 = .ok (.getfield 53, 3) := by decide +kernel
theorem dX7_body_18 : decode cX7_body 18 = .ok (.iload_n 1, 1) := by decide +kernel
theorem dX7_body_19 : decode cX7_body 19 = .ok (.iaload, 1) := by decide +kernel
theorem dX7_body_20 : decode cX7_body 20 = .ok (.goto 9, 3) := by decide +kernel
theorem dX7_body_23 : decode cX7_body 23 = .ok (.aload_n 0, 1) := by decide +kernel
theorem dX7_body_24 : decode cX7_body 24 = .ok (.ldc 248, 2) := by decide +kernel
theorem dX7_body_26 : decode cX7_body 26 = .ok (.invokevirtual 126, 3) := by decide +kernel
theorem dX7_body_29 : decode cX7_body 29 = .ok (.ireturn, 1) := by decide +kernel
theorem dX7_isSheet_0 : decode cX7_isSheet 0 = .ok (.iload_n 0, 1) := by decide +kernel
theorem dX7_isSheet_1 : decode cX7_isSheet 1 = .ok (.iconst 0, 1) := by decide +kernel
theorem dX7_isSheet_2 : decode cX7_isSheet 2 = .ok (.iconst 3, 1) := by decide +kernel
theorem dX7_isSheet_3 : decode cX7_isSheet 3 = .ok (.invokestatic 61, 3) := by decide +kernel
theorem dX7_isSheet_6 : decode cX7_isSheet 6 = .ok (.ireturn, 1) := by decide +kernel
theorem dX7_sheet_0 : decode cX7_sheet 0 = .ok (.iload_n 1, 1) := by decide +kernel
theorem dX7_sheet_1 : decode cX7_sheet 1 = .ok (.invokestatic 256, 3) := by decide +kernel
theorem dX7_sheet_4 : decode cX7_sheet 4 = .ok (.ifCond .eq 25, 3) := by decide +kernel
theorem dX7_sheet_7 : decode cX7_sheet 7 = .ok (.iload_n 2, 1) := by decide +kernel
theorem dX7_sheet_8 : decode cX7_sheet 8 = .ok (.ifCond .eq 28, 3) := by decide +kernel
theorem dX7_sheet_11 : decode cX7_sheet 11 = .ok (.iload_n 2, 1) := by decide +kernel
theorem dX7_sheet_12 : decode cX7_sheet 12 = .ok (.bipush 8, 2) := by decide +kernel
theorem dX7_sheet_14 : decode cX7_sheet 14 = .ok (.if_icmp .eq 22, 3) := by decide +kernel
theorem dX7_sheet_17 : decode cX7_sheet 17 = .ok (.iload_n 2, 1) := by decide +kernel
theorem dX7_sheet_18 : decode cX7_sheet 18 = .ok (.bipush 16, 2) := by decide +kernel
theorem dX7_sheet_20 : decode cX7_sheet 20 = .ok (.if_icmp .eq 16, 3) := by decide +kernel
theorem dX7_sheet_23 : decode cX7_sheet 23 = .ok (.iload_n 2, 1) := by decide +kernel
theorem dX7_sheet_24 : decode cX7_sheet 24 = .ok (.bipush 32, 2) := by decide +kernel
theorem dX7_sheet_26 : decode cX7_sheet 26 = .ok (.if_icmp .eq 10, 3) := by decide +kernel
theorem dX7_sheet_29 : decode cX7_sheet 29 = .ok (.aload_n 0, 1) := by decide +kernel
theorem dX7_sheet_30 : decode cX7_sheet 30 = .ok (.ldc 125, 2) := by decide +kernel
theorem dX7_sheet_32 : decode cX7_sheet 32 = .ok (.invokevirtual 126, 3) := by decide +kernel
theorem dX7_sheet_35 : decode cX7_sheet 35 = .ok (.ireturn, 1) := by decide +kernel
theorem dX7_sheet_36 : decode cX7_sheet 36 = .ok (.iload_n 2, 1) := by decide +kernel
theorem dX7_sheet_37 : decode cX7_sheet 37 = .ok (.ifCond .le 14, 3) := by decide +kernel
theorem dX7_sheet_40 : decode cX7_sheet 40 = .ok (.iload_n 3, 1) := by decide +kernel
theorem dX7_sheet_41 : decode cX7_sheet 41 = .ok (.ifCond .ge 10, 3) := by decide +kernel
theorem dX7_sheet_44 : decode cX7_sheet 44 = .ok (.aload_n 0, 1) := by decide +kernel
theorem dX7_sheet_45 : decode cX7_sheet 45 = .ok (.ldc 141, 2) := by decide +kernel
theorem dX7_sheet_47 : decode cX7_sheet 47 = .ok (.invokevirtual 126, 3) := by decide +kernel
theorem dX7_sheet_50 : decode cX7_sheet 50 = .ok (.ireturn, 1) := by decide +kernel
theorem dX7_sheet_51 : decode cX7_sheet 51 = .ok (.iload_n 2, 1) := by decide +kernel
theorem dX7_sheet_52 : decode cX7_sheet 52 = .ok (.ifCond .le 16, 3) := by decide +kernel
theorem dX7_sheet_55 : decode cX7_sheet 55 = .ok (.iload_n 3, 1) := by decide +kernel
theorem dX7_sheet_56 : decode cX7_sheet 56 = .ok (.bipush 24, 2) := by decide +kernel
theorem dX7_sheet_58 : decode cX7_sheet 58 = .ok (.if_icmp .le 10, 3) := by decide +kernel
theorem dX7_sheet_61 : decode cX7_sheet 61 = .ok (.aload_n 0, 1) := by decide +kernel
theorem dX7_sheet_62 : decode cX7_sheet 62 = .ok (.ldc 125, 2) := by decide +kernel
theorem dX7_sheet_64 : decode cX7_sheet 64 = .ok (.invokevirtual 126, 3) := by decide +kernel
theorem dX7_sheet_67 : decode cX7_sheet 67 = .ok (.ireturn, 1) := by decide +kernel
theorem dX7_sheet_68 : decode cX7_sheet 68 = .ok (.aload_n 0, 1) := by decide +kernel
theorem dX7_sheet_69 : decode cX7_sheet 69 = .ok (.getfield 22, 3) := by decide +kernel
theorem dX7_sheet_72 : decode cX7_sheet 72 = .ok (.iload_n 1, 1) := by decide +kernel
theorem dX7_sheet_73 : decode cX7_sheet 73 = .ok (.iload_n 2, 1) := by decide +kernel
theorem dX7_sheet_74 : decode cX7_sheet 74 = .ok (.iastore, 1) := by decide +kernel
theorem dX7_sheet_75 : decode cX7_sheet 75 = .ok (.aload_n 0, 1) := by decide +kernel
theorem dX7_sheet_76 : decode cX7_sheet 76 = .ok (.getfield 25, 3) := by decide +kernel
theorem dX7_sheet_79 : decode cX7_sheet 79 = .ok (.iload_n 1, 1) := by decide +kernel
theorem dX7_sheet_80 : decode cX7_sheet 80 = .ok (.iload_n 2, 1) := by decide +kernel
theorem dX7_sheet_81 : decode cX7_sheet 81 = .ok (.ifCond .ne 7, 3) := by decide +kernel
theorem dX7_sheet_84 : decode cX7_sheet 84 = .ok (.iconst 0, 1) := by decide +kernel
theorem dX7_sheet_85 : decode cX7_sheet 85 = .ok (.goto 4, 3) := by decide +kernel
theorem dX7_sheet_88 : decode cX7_sheet 88 = .ok (.iload_n 3, 1) := by decide +kernel
theorem dX7_sheet_89 : decode cX7_sheet 89 = .ok (.iastore, 1) := by decide +kernel
theorem dX7_sheet_90 : decode cX7_sheet 90 = .ok (.iconst 0, 1) := by decide +kernel
theorem dX7_sheet_91 : decode cX7_sheet 91 = .ok (.istore 4, 2) := by decide +kernel
theorem dX7_sheet_93 : decode cX7_sheet 93 = .ok (.iload 4, 2) := by decide +kernel
theorem dX7_sheet_95 : decode cX7_sheet 95 = .ok (.bipush 24, 2) := by decide +kernel
theorem dX7_sheet_97 : decode cX7_sheet 97 = .ok (.if_icmp .ge 22, 3) := by decide +kernel
theorem dX7_sheet_100 : decode cX7_sheet 100 = .ok (.aload_n 0, 1) := by decide +kernel
theorem dX7_sheet_101 : decode cX7_sheet 101 = .ok (.getfield 28, 3) := by decide +kernel
theorem dX7_sheet_104 : decode cX7_sheet 104 = .ok (.bipush 24, 2) := by decide +kernel
theorem dX7_sheet_106 : decode cX7_sheet 106 = .ok (.iload_n 1, 1) := by decide +kernel
theorem dX7_sheet_107 : decode cX7_sheet 107 = .ok (.imul, 1) := by decide +kernel
theorem dX7_sheet_108 : decode cX7_sheet 108 = .ok (.iload 4, 2) := by decide +kernel
theorem dX7_sheet_110 : decode cX7_sheet 110 = .ok (.iadd, 1) := by decide +kernel
theorem dX7_sheet_111 : decode cX7_sheet 111 = .ok (.iconst 0, 1) := by decide +kernel
theorem dX7_sheet_112 : decode cX7_sheet 112 = .ok (.iastore, 1) := by decide +kernel
theorem dX7_sheet_113 : decode cX7_sheet 113 = .ok (.iinc 4 1, 3) := by decide +kernel
theorem dX7_sheet_116 : decode cX7_sheet 116 = .ok (.goto (-23), 3) := by decide +kernel
theorem dX7_sheet_119 : decode cX7_sheet 119 = .ok (.iconst 1, 1) := by decide +kernel
theorem dX7_sheet_120 : decode cX7_sheet 120 = .ok (.ireturn, 1) := by decide +kernel
theorem dX7_notThere_0 : decode cX7_notThere 0 = .ok (.iload_n 1, 1) := by decide +kernel
theorem dX7_notThere_1 : decode cX7_notThere 1 = .ok (.invokestatic 256, 3) := by decide +kernel
theorem dX7_notThere_4 : decode cX7_notThere 4 = .ok (.ifCond .ne 8, 3) := by decide +kernel
theorem dX7_notThere_7 : decode cX7_notThere 7 = .ok (.ldc 125, 2) := by decide +kernel
theorem dX7_notThere_9 : decode cX7_notThere 9 = .ok (.goto 18, 3) := by decide +kernel
theorem dX7_notThere_12 : decode cX7_notThere 12 = .ok (.aload_n 0, 1) := by decide +kernel
theorem dX7_notThere_13 : decode cX7_notThere 13 = .ok (.getfield 22, 3) := by decide +kernel
theorem dX7_notThere_16 : decode cX7_notThere 16 = .ok (.iload_n 1, 1) := by decide +kernel
theorem dX7_notThere_17 : decode cX7_notThere 17 = .ok (.iaload, 1) := by decide +kernel
theorem dX7_notThere_18 : decode cX7_notThere 18 = .ok (.ifCond .ne 8, 3) := by decide +kernel
theorem dX7_notThere_21 : decode cX7_notThere 21 = .ok (.ldc 248, 2) := by decide +kernel
theorem dX7_notThere_23 : decode cX7_notThere 23 = .ok (.goto 4, 3) := by decide +kernel
theorem dX7_notThere_26 : decode cX7_notThere 26 = .ok (.iconst 0, 1) := by decide +kernel
theorem dX7_notThere_27 : decode cX7_notThere 27 = .ok (.ireturn, 1) := by decide +kernel
theorem dX7_put_0 : decode cX7_put 0 = .ok (.aload_n 0, 1) := by decide +kernel
theorem dX7_put_1 : decode cX7_put 1 = .ok (.iload_n 1, 1) := by decide +kernel
theorem dX7_put_2 : decode cX7_put 2 = .ok (.invokevirtual 302, 3) := by decide +kernel
theorem dX7_put_5 : decode cX7_put 5 = .ok (.istore 4, 2) := by decide +kernel
theorem dX7_put_7 : decode cX7_put 7 = .ok (.iload 4, 2) := by decide +kernel
theorem dX7_put_9 : decode cX7_put 9 = .ok (.ifCond .ne 24, 3) := by decide +kernel
theorem dX7_put_12 : decode cX7_put 12 = .ok (.iload_n 2, 1) := by decide +kernel
theorem dX7_put_13 : decode cX7_put 13 = .ok (.iconst 0, 1) := by decide +kernel
theorem dX7_put_14 : decode cX7_put 14 = .ok (.aload_n 0, 1) := by decide +kernel
theorem dX7_put_15 : decode cX7_put 15 = .ok (.getfield 25, 3) := by decide +kernel
theorem dX7_put_18 : decode cX7_put 18 = .ok (.iload_n 1, 1) := by decide +kernel
theorem dX7_put_19 : decode cX7_put 19 = .ok (.iaload, 1) := by decide +kernel
theorem dX7_put_20 : decode cX7_put 20 = .ok (.iconst 1, 1) := by decide +kernel
theorem dX7_put_21 : decode cX7_put 21 = .ok (.isub, 1) := by decide +kernel
theorem dX7_put_22 : decode cX7_put 22 = .ok (.invokestatic 61, 3) := by decide +kernel
theorem dX7_put_25 : decode cX7_put 25 = .ok (.ifCond .ne 8, 3) := by decide +kernel
theorem dX7_put_28 : decode cX7_put 28 = .ok (.ldc 125, 2) := by decide +kernel
theorem dX7_put_30 : decode cX7_put 30 = .ok (.goto 5, 3) := by decide +kernel
theorem dX7_put_33 : decode cX7_put 33 = .ok (.iload 4, 2) := by decide +kernel
theorem dX7_put_35 : decode cX7_put 35 = .ok (.istore 4, 2) := by decide +kernel
theorem dX7_put_37 : decode cX7_put 37 = .ok (.iload 4, 2) := by decide +kernel
theorem dX7_put_39 : decode cX7_put 39 = .ok (.ifCond .eq 10, 3) := by decide +kernel
theorem dX7_put_42 : decode cX7_put 42 = .ok (.aload_n 0, 1) := by decide +kernel
theorem dX7_put_43 : decode cX7_put 43 = .ok (.iload 4, 2) := by decide +kernel
theorem dX7_put_45 : decode cX7_put 45 = .ok (.invokevirtual 126, 3) := by decide +kernel
theorem dX7_put_48 : decode cX7_put 48 = .ok (.ireturn, 1) := by decide +kernel
theorem dX7_put_49 : decode cX7_put 49 = .ok (.aload_n 0, 1) := by decide +kernel
theorem dX7_put_50 : decode cX7_put 50 = .ok (.getfield 28, 3) := by decide +kernel
theorem dX7_put_53 : decode cX7_put 53 = .ok (.bipush 24, 2) := by decide +kernel
theorem dX7_put_55 : decode cX7_put 55 = .ok (.iload_n 1, 1) := by decide +kernel
theorem dX7_put_56 : decode cX7_put 56 = .ok (.imul, 1) := by decide +kernel
theorem dX7_put_57 : decode cX7_put 57 = .ok (.iload_n 2, 1) := by decide +kernel
theorem dX7_put_58 : decode cX7_put 58 = .ok (.iadd, 1) := by decide +kernel
theorem dX7_put_59 : decode cX7_put 59 = .ok (.aload_n 0, 1) := by decide +kernel
theorem dX7_put_60 : decode cX7_put 60 = .ok (.getfield 22, 3) := by decide +kernel
theorem dX7_put_63 : decode cX7_put 63 = .ok (.iload_n 1, 1) := by decide +kernel
theorem dX7_put_64 : decode cX7_put 64 = .ok (.iaload, 1) := by decide +kernel
theorem dX7_put_65 : decode cX7_put 65 = .ok (.bipush 8, 2) := by decide +kernel
theorem dX7_put_67 : decode cX7_put 67 = .ok (.if_icmp .ne 8, 3) := by decide +kernel
theorem dX7_put_70 : decode cX7_put 70 = .ok (.iload_n 3, 1) := by decide +kernel
theorem dX7_put_71 : decode cX7_put 71 = .ok (.i2b, 1) := by decide +kernel
theorem dX7_put_72 : decode cX7_put 72 = .ok (.goto 20, 3) := by decide +kernel
theorem dX7_put_75 : decode cX7_put 75 = .ok (.aload_n 0, 1) := by decide +kernel
theorem dX7_put_76 : decode cX7_put 76 = .ok (.getfield 22, 3) := by decide +kernel
theorem dX7_put_79 : decode cX7_put 79 = .ok (.iload_n 1, 1) := by decide +kernel
theorem dX7_put_80 : decode cX7_put 80 = .ok (.iaload, 1) := by decide +kernel
theorem dX7_put_81 : decode cX7_put 81 = .ok (.bipush 16, 2) := by decide +kernel
theorem dX7_put_83 : decode cX7_put 83 = .ok (.if_icmp .ne 8, 3) := by decide +kernel
theorem dX7_put_86 : decode cX7_put 86 = .ok (.iload_n 3, 1) := by decide +kernel
theorem dX7_put_87 : decode cX7_put 87 = .ok (.i2s, 1) := by decide +kernel
theorem dX7_put_88 : decode cX7_put 88 = .ok (.goto 4, 3) := by decide +kernel
theorem dX7_put_91 : decode cX7_put 91 = .ok (.iload_n 3, 1) := by decide +kernel
theorem dX7_put_92 : decode cX7_put 92 = .ok (.iastore, 1) := by decide +kernel
theorem dX7_put_93 : decode cX7_put 93 = .ok (.iconst 1, 1) := by decide +kernel
theorem dX7_put_94 : decode cX7_put 94 = .ok (.ireturn, 1) := by decide +kernel
theorem dX7_notMoved_0 : decode cX7_notMoved 0 = .ok (.iload_n 1, 1) := by decide +kernel
theorem dX7_notMoved_1 : decode cX7_notMoved 1 = .ok (.invokestatic 256, 3) := by decide +kernel
theorem dX7_notMoved_4 : decode cX7_notMoved 4 = .ok (.ifCond .eq 10, 3) := by decide +kernel
theorem dX7_notMoved_7 : decode cX7_notMoved 7 = .ok (.iload_n 3, 1) := by decide +kernel
theorem dX7_notMoved_8 : decode cX7_notMoved 8 = .ok (.invokestatic 256, 3) := by decide +kernel
theorem dX7_notMoved_11 : decode cX7_notMoved 11 = .ok (.ifCond .ne 6, 3) := by decide +kernel
theorem dX7_notMoved_14 : decode cX7_notMoved 14 = .ok (.ldc 125, 2) := by decide +kernel
theorem dX7_notMoved_16 : decode cX7_notMoved 16 = .ok (.ireturn, 1) := by decide +kernel
theorem dX7_notMoved_17 : decode cX7_notMoved 17 = .ok (.aload_n 0, 1) := by decide +kernel
theorem dX7_notMoved_18 : decode cX7_notMoved 18 = .ok (.getfield 22, 3) := by decide +kernel
theorem dX7_notMoved_21 : decode cX7_notMoved 21 = .ok (.iload_n 1, 1) := by decide +kernel
theorem dX7_notMoved_22 : decode cX7_notMoved 22 = .ok (.iaload, 1) := by decide +kernel
theorem dX7_notMoved_23 : decode cX7_notMoved 23 = .ok (.ifCond .eq 12, 3) := by decide +kernel
theorem dX7_notMoved_26 : decode cX7_notMoved 26 = .ok (.aload_n 0, 1) := by decide +kernel
theorem dX7_notMoved_27 : decode cX7_notMoved 27 = .ok (.getfield 22, 3) := by decide +kernel
theorem dX7_notMoved_30 : decode cX7_notMoved 30 = .ok (.iload_n 3, 1) := by decide +kernel
theorem dX7_notMoved_31 : decode cX7_notMoved 31 = .ok (.iaload, 1) := by decide +kernel
theorem dX7_notMoved_32 : decode cX7_notMoved 32 = .ok (.ifCond .ne 6, 3) := by decide +kernel
theorem dX7_notMoved_35 : decode cX7_notMoved 35 = .ok (.ldc 248, 2) := by decide +kernel
theorem dX7_notMoved_37 : decode cX7_notMoved 37 = .ok (.ireturn, 1) := by decide +kernel
theorem dX7_notMoved_38 : decode cX7_notMoved 38 = .ok (.aload_n 0, 1) := by decide +kernel
theorem dX7_notMoved_39 : decode cX7_notMoved 39 = .ok (.getfield 22, 3) := by decide +kernel
theorem dX7_notMoved_42 : decode cX7_notMoved 42 = .ok (.iload_n 1, 1) := by decide +kernel
theorem dX7_notMoved_43 : decode cX7_notMoved 43 = .ok (.iaload, 1) := by decide +kernel
theorem dX7_notMoved_44 : decode cX7_notMoved 44 = .ok (.aload_n 0, 1) := by decide +kernel
theorem dX7_notMoved_45 : decode cX7_notMoved 45 = .ok (.getfield 22, 3) := by decide +kernel
theorem dX7_notMoved_48 : decode cX7_notMoved 48 = .ok (.iload_n 3, 1) := by decide +kernel
theorem dX7_notMoved_49 : decode cX7_notMoved 49 = .ok (.iaload, 1) := by decide +kernel
theorem dX7_notMoved_50 : decode cX7_notMoved 50 = .ok (.if_icmp .eq 6, 3) := by decide +kernel
theorem dX7_notMoved_53 : decode cX7_notMoved 53 = .ok (.ldc 140, 2) := by decide +kernel
theorem dX7_notMoved_55 : decode cX7_notMoved 55 = .ok (.ireturn, 1) := by decide +kernel
theorem dX7_notMoved_56 : decode cX7_notMoved 56 = .ok (.iload 5, 2) := by decide +kernel
theorem dX7_notMoved_58 : decode cX7_notMoved 58 = .ok (.ifCond .lt 43, 3) := by decide +kernel
theorem dX7_notMoved_61 : decode cX7_notMoved 61 = .ok (.iload_n 2, 1) := by decide +kernel
theorem dX7_notMoved_62 : decode cX7_notMoved 62 = .ok (.ifCond .lt 39, 3) := by decide +kernel
theorem dX7_notMoved_65 : decode cX7_notMoved 65 = .ok (.iload 4, 2) := by decide +kernel
theorem dX7_notMoved_67 : decode cX7_notMoved 67 = .ok (.ifCond .lt 34, 3) := by decide +kernel
theorem dX7_notMoved_70 : decode cX7_notMoved 70 = .ok (.iload 5, 2) := by decide +kernel
theorem dX7_notMoved_72 : decode cX7_notMoved 72 = .ok (.aload_n 0, 1) := by decide +kernel
theorem dX7_notMoved_73 : decode cX7_notMoved 73 = .ok (.getfield 25, 3) := by decide +kernel
theorem dX7_notMoved_76 : decode cX7_notMoved 76 = .ok (.iload_n 1, 1) := by decide +kernel
theorem dX7_notMoved_77 : decode cX7_notMoved 77 = .ok (.iaload, 1) := by decide +kernel
theorem dX7_notMoved_78 : decode cX7_notMoved 78 = .ok (.iload_n 2, 1) := by decide +kernel
theorem dX7_notMoved_79 : decode cX7_notMoved 79 = .ok (.isub, 1) := by decide +kernel
theorem dX7_notMoved_80 : decode cX7_notMoved 80 = .ok (.if_icmp .gt 21, 3) := by decide +kernel
theorem dX7_notMoved_83 : decode cX7_notMoved 83 = .ok (.iload 5, 2) := by decide +kernel
theorem dX7_notMoved_85 : decode cX7_notMoved 85 = .ok (.aload_n 0, 1) := by decide +kernel
theorem dX7_notMoved_86 : decode cX7_notMoved 86 = .ok (.getfield 25, 3) := by decide +kernel
theorem dX7_notMoved_89 : decode cX7_notMoved 89 = .ok (.iload_n 3, 1) := by decide +kernel
theorem dX7_notMoved_90 : decode cX7_notMoved 90 = .ok (.iaload, 1) := by decide +kernel
theorem dX7_notMoved_91 : decode cX7_notMoved 91 = .ok (.iload 4, 2) := by decide +kernel
theorem dX7_notMoved_93 : decode cX7_notMoved 93 = .ok (.isub, 1) := by decide +kernel
theorem dX7_notMoved_94 : decode cX7_notMoved 94 = .ok (.if_icmp .gt 7, 3) := by decide +kernel
theorem dX7_notMoved_97 : decode cX7_notMoved 97 = .ok (.iconst 1, 1) := by decide +kernel
theorem dX7_notMoved_98 : decode cX7_notMoved 98 = .ok (.goto 4, 3) := by decide +kernel
theorem dX7_notMoved_101 : decode cX7_notMoved 101 = .ok (.iconst 0, 1) := by decide +kernel
theorem dX7_notMoved_102 : decode cX7_notMoved 102 = .ok (.istore 6, 2) := by decide +kernel
theorem dX7_notMoved_104 : decode cX7_notMoved 104 = .ok (.iload 6, 2) := by decide +kernel
theorem dX7_notMoved_106 : decode cX7_notMoved 106 = .ok (.ifCond .eq 7, 3) := by decide +kernel
theorem dX7_notMoved_109 : decode cX7_notMoved 109 = .ok (.iconst 0, 1) := by decide +kernel
theorem dX7_notMoved_110 : decode cX7_notMoved 110 = .ok (.goto 5, 3) := by decide +kernel
theorem dX7_notMoved_113 : decode cX7_notMoved 113 = .ok (.ldc 125, 2) := by decide +kernel
theorem dX7_notMoved_115 : decode cX7_notMoved 115 = .ok (.ireturn, 1) := by decide +kernel
theorem dX7_move_0 : decode cX7_move 0 = .ok (.aload_n 0, 1) := by decide +kernel
theorem dX7_move_1 : decode cX7_move 1 = .ok (.iload_n 1, 1) := by decide +kernel
theorem dX7_move_2 : decode cX7_move 2 = .ok (.iload_n 2, 1) := by decide +kernel
theorem dX7_move_3 : decode cX7_move 3 = .ok (.iload_n 3, 1) := by decide +kernel
theorem dX7_move_4 : decode cX7_move 4 = .ok (.iload 4, 2) := by decide +kernel
theorem dX7_move_6 : decode cX7_move 6 = .ok (.iload 5, 2) := by decide +kernel
theorem dX7_move_8 : decode cX7_move 8 = .ok (.invokevirtual 305, 3) := by decide +kernel
theorem dX7_move_11 : decode cX7_move 11 = .ok (.istore 6, 2) := by decide +kernel
theorem dX7_move_13 : decode cX7_move 13 = .ok (.iload 6, 2) := by decide +kernel
theorem dX7_move_15 : decode cX7_move 15 = .ok (.ifCond .eq 10, 3) := by decide +kernel
theorem dX7_move_18 : decode cX7_move 18 = .ok (.aload_n 0, 1) := by decide +kernel
theorem dX7_move_19 : decode cX7_move 19 = .ok (.iload 6, 2) := by decide +kernel
theorem dX7_move_21 : decode cX7_move 21 = .ok (.invokevirtual 126, 3) := by decide +kernel
theorem dX7_move_24 : decode cX7_move 24 = .ok (.ireturn, 1) := by decide +kernel
theorem dX7_move_25 : decode cX7_move 25 = .ok (.iconst 0, 1) := by decide +kernel
theorem dX7_move_26 : decode cX7_move 26 = .ok (.istore 7, 2) := by decide +kernel
theorem dX7_move_28 : decode cX7_move 28 = .ok (.iload 7, 2) := by decide +kernel
theorem dX7_move_30 : decode cX7_move 30 = .ok (.iload 5, 2) := by decide +kernel
theorem dX7_move_32 : decode cX7_move 32 = .ok (.if_icmp .ge 58, 3) := by decide +kernel
theorem dX7_move_35 : decode cX7_move 35 = .ok (.iload_n 2, 1) := by decide +kernel
theorem dX7_move_36 : decode cX7_move 36 = .ok (.iload 4, 2) := by decide +kernel
theorem dX7_move_38 : decode cX7_move 38 = .ok (.if_icmp .ge 13, 3) := by decide +kernel
theorem dX7_move_41 : decode cX7_move 41 = .ok (.iload 5, 2) := by decide +kernel
theorem dX7_move_43 : decode cX7_move 43 = .ok (.iconst 1, 1) := by decide +kernel
theorem dX7_move_44 : decode cX7_move 44 = .ok (.isub, 1) := by decide +kernel
theorem dX7_move_45 : decode cX7_move 45 = .ok (.iload 7, 2) := by decide +kernel
theorem dX7_move_47 : decode cX7_move 47 = .ok (.isub, 1) := by decide +kernel
theorem dX7_move_48 : decode cX7_move 48 = .ok (.goto 5, 3) := by decide +kernel
theorem dX7_move_51 : decode cX7_move 51 = .ok (.iload 7, 2) := by decide +kernel
theorem dX7_move_53 : decode cX7_move 53 = .ok (.istore 8, 2) := by decide +kernel
theorem dX7_move_55 : decode cX7_move 55 = .ok (.aload_n 0, 1) := by decide +kernel
theorem dX7_move_56 : decode cX7_move 56 = .ok (.getfield 28, 3) := by decide +kernel
theorem dX7_move_59 : decode cX7_move 59 = .ok (.bipush 24, 2) := by decide +kernel
theorem dX7_move_61 : decode cX7_move 61 = .ok (.iload_n 3, 1) := by decide +kernel
theorem dX7_move_62 : decode cX7_move 62 = .ok (.imul, 1) := by decide +kernel
theorem dX7_move_63 : decode cX7_move 63 = .ok (.iload 4, 2) := by decide +kernel
theorem dX7_move_65 : decode cX7_move 65 = .ok (.iadd, 1) := by decide +kernel
theorem dX7_move_66 : decode cX7_move 66 = .ok (.iload 8, 2) := by decide +kernel
theorem dX7_move_68 : decode cX7_move 68 = .ok (.iadd, 1) := by decide +kernel
theorem dX7_move_69 : decode cX7_move 69 = .ok (.aload_n 0, 1) := by decide +kernel
theorem dX7_move_70 : decode cX7_move 70 = .ok (.getfield 28, 3) := by decide +kernel
theorem dX7_move_73 : decode cX7_move 73 = .ok (.bipush 24, 2) := by decide +kernel
theorem dX7_move_75 : decode cX7_move 75 = .ok (.iload_n 1, 1) := by decide +kernel
theorem dX7_move_76 : decode cX7_move 76 = .ok (.imul, 1) := by decide +kernel
theorem dX7_move_77 : decode cX7_move 77 = .ok (.iload_n 2, 1) := by decide +kernel
theorem dX7_move_78 : decode cX7_move 78 = .ok (.iadd, 1) := by decide +kernel
theorem dX7_move_79 : decode cX7_move 79 = .ok (.iload 8, 2) := by decide +kernel
theorem dX7_move_81 : decode cX7_move 81 = .ok (.iadd, 1) := by decide +kernel
theorem dX7_move_82 : decode cX7_move 82 = .ok (.iaload, 1) := by decide +kernel
theorem dX7_move_83 : decode cX7_move 83 = .ok (.iastore, 1) := by decide +kernel
theorem dX7_move_84 : decode cX7_move 84 = .ok (.iinc 7 1, 3) := by decide +kernel
theorem dX7_move_87 : decode cX7_move 87 = .ok (.goto (-59), 3) := by decide +kernel
theorem dX7_move_90 : decode cX7_move 90 = .ok (.iload 5, 2) := by decide +kernel
theorem dX7_move_92 : decode cX7_move 92 = .ok (.ireturn, 1) := by decide +kernel
theorem dX7_tells_0 : decode cX7_tells 0 = .ok (.aload_n 0, 1) := by decide +kernel
theorem dX7_tells_1 : decode cX7_tells 1 = .ok (.iload_n 1, 1) := by decide +kernel
theorem dX7_tells_2 : decode cX7_tells 2 = .ok (.invokevirtual 302, 3) := by decide +kernel
theorem dX7_tells_5 : decode cX7_tells 5 = .ok (.istore_n 2, 1) := by decide +kernel
theorem dX7_tells_6 : decode cX7_tells 6 = .ok (.iload_n 2, 1) := by decide +kernel
theorem dX7_tells_7 : decode cX7_tells 7 = .ok (.ifCond .eq 9, 3) := by decide +kernel
theorem dX7_tells_10 : decode cX7_tells 10 = .ok (.aload_n 0, 1) := by decide +kernel
theorem dX7_tells_11 : decode cX7_tells 11 = .ok (.iload_n 2, 1) := by decide +kernel
theorem dX7_tells_12 : decode cX7_tells 12 = .ok (.invokevirtual 126, 3) := by decide +kernel
theorem dX7_tells_15 : decode cX7_tells 15 = .ok (.ireturn, 1) := by decide +kernel
theorem dX7_tells_16 : decode cX7_tells 16 = .ok (.iconst 0, 1) := by decide +kernel
theorem dX7_tells_17 : decode cX7_tells 17 = .ok (.istore_n 3, 1) := by decide +kernel
theorem dX7_tells_18 : decode cX7_tells 18 = .ok (.iload_n 3, 1) := by decide +kernel
theorem dX7_tells_19 : decode cX7_tells 19 = .ok (.aload_n 0, 1) := by decide +kernel
theorem dX7_tells_20 : decode cX7_tells 20 = .ok (.getfield 25, 3) := by decide +kernel
theorem dX7_tells_23 : decode cX7_tells 23 = .ok (.iload_n 1, 1) := by decide +kernel
theorem dX7_tells_24 : decode cX7_tells 24 = .ok (.iaload, 1) := by decide +kernel
theorem dX7_tells_25 : decode cX7_tells 25 = .ok (.if_icmp .ge 57, 3) := by decide +kernel
theorem dX7_tells_28 : decode cX7_tells 28 = .ok (.iload_n 3, 1) := by decide +kernel
theorem dX7_tells_29 : decode cX7_tells 29 = .ok (.aload_n 0, 1) := by decide +kernel
theorem dX7_tells_30 : decode cX7_tells 30 = .ok (.getfield 9, 3) := by decide +kernel
theorem dX7_tells_33 : decode cX7_tells 33 = .ok (.iconst 2, 1) := by decide +kernel
theorem dX7_tells_34 : decode cX7_tells 34 = .ok (.iaload, 1) := by decide +kernel
theorem dX7_tells_35 : decode cX7_tells 35 = .ok (.if_icmp .ge 47, 3) := by decide +kernel
theorem dX7_tells_38 : decode cX7_tells 38 = .ok (.aload_n 0, 1) := by decide +kernel
theorem dX7_tells_39 : decode cX7_tells 39 = .ok (.getfield 28, 3) := by decide +kernel
theorem dX7_tells_42 : decode cX7_tells 42 = .ok (.bipush 24, 2) := by decide +kernel
theorem dX7_tells_44 : decode cX7_tells 44 = .ok (.iload_n 1, 1) := by decide +kernel
theorem dX7_tells_45 : decode cX7_tells 45 = .ok (.imul, 1) := by decide +kernel
theorem dX7_tells_46 : decode cX7_tells 46 = .ok (.iload_n 3, 1) := by decide +kernel
theorem dX7_tells_47 : decode cX7_tells 47 = .ok (.iadd, 1) := by decide +kernel
theorem dX7_tells_48 : decode cX7_tells 48 = .ok (.iaload, 1) := by decide +kernel
theorem dX7_tells_49 : decode cX7_tells 49 = .ok (.bipush (-20), 2) := by decide +kernel
theorem dX7_tells_51 : decode cX7_tells 51 = .ok (.bipush 20, 2) := by decide +kernel
theorem dX7_tells_53 : decode cX7_tells 53 = .ok (.invokestatic 61, 3) := by decide +kernel
theorem dX7_tells_56 : decode cX7_tells 56 = .ok (.ifCond .eq 26, 3) := by decide +kernel
theorem dX7_tells_59 : decode cX7_tells 59 = .ok (.aload_n 0, 1) := by decide +kernel
theorem dX7_tells_60 : decode cX7_tells 60 = .ok (.iload_n 3, 1) := by decide +kernel
theorem dX7_tells_61 : decode cX7_tells 61 = .ok (.iconst 4, 1) := by decide +kernel
theorem dX7_tells_62 : decode cX7_tells 62 = .ok (.aload_n 0, 1) := by decide +kernel
theorem dX7_tells_63 : decode cX7_tells 63 = .ok (.getfield 28, 3) := by decide +kernel
theorem dX7_tells_66 : decode cX7_tells 66 = .ok (.bipush 24, 2) := by decide +kernel
theorem dX7_tells_68 : decode cX7_tells 68 = .ok (.iload_n 1, 1) := by decide +kernel
theorem dX7_tells_69 : decode cX7_tells 69 = .ok (.imul, 1) := by decide +kernel
theorem dX7_tells_70 : decode cX7_tells 70 = .ok (.iload_n 3, 1) := by decide +kernel
theorem dX7_tells_71 : decode cX7_tells 71 = .ok (.iadd, 1) := by decide +kernel
theorem dX7_tells_72 : decode cX7_tells 72 = .ok (.iaload, 1) := by decide +kernel
theorem dX7_tells_73 : decode cX7_tells 73 = .ok (.invokevirtual 130, 3) := by decide +kernel
theorem dX7_tells_76 : decode cX7_tells 76 = .ok (.iinc 3 1, 3) := by decide +kernel
theorem dX7_tells_79 : decode cX7_tells 79 = .ok (.goto (-61), 3) := by decide +kernel
theorem dX7_tells_82 : decode cX7_tells 82 = .ok (.iload_n 3, 1) := by decide +kernel
theorem dX7_tells_83 : decode cX7_tells 83 = .ok (.ireturn, 1) := by decide +kernel
theorem dX7_judge_0 : decode cX7_judge 0 = .ok (.aload_n 0, 1) := by decide +kernel
theorem dX7_judge_1 : decode cX7_judge 1 = .ok (.iload_n 1, 1) := by decide +kernel
theorem dX7_judge_2 : decode cX7_judge 2 = .ok (.invokevirtual 302, 3) := by decide +kernel
theorem dX7_judge_5 : decode cX7_judge 5 = .ok (.istore_n 2, 1) := by decide +kernel
theorem dX7_judge_6 : decode cX7_judge 6 = .ok (.iload_n 2, 1) := by decide +kernel
theorem dX7_judge_7 : decode cX7_judge 7 = .ok (.ifCond .eq 9, 3) := by decide +kernel
theorem dX7_judge_10 : decode cX7_judge 10 = .ok (.aload_n 0, 1) := by decide +kernel
theorem dX7_judge_11 : decode cX7_judge 11 = .ok (.iload_n 2, 1) := by decide +kernel
theorem dX7_judge_12 : decode cX7_judge 12 = .ok (.invokevirtual 126, 3) := by decide +kernel
theorem dX7_judge_15 : decode cX7_judge 15 = .ok (.ireturn, 1) := by decide +kernel
theorem dX7_judge_16 : decode cX7_judge 16 = .ok (.iconst 0, 1) := by decide +kernel
theorem dX7_judge_17 : decode cX7_judge 17 = .ok (.istore_n 3, 1) := by decide +kernel
theorem dX7_judge_18 : decode cX7_judge 18 = .ok (.iload_n 3, 1) := by decide +kernel
theorem dX7_judge_19 : decode cX7_judge 19 = .ok (.aload_n 0, 1) := by decide +kernel
theorem dX7_judge_20 : decode cX7_judge 20 = .ok (.getfield 25, 3) := by decide +kernel
theorem dX7_judge_23 : decode cX7_judge 23 = .ok (.iload_n 1, 1) := by decide +kernel
theorem dX7_judge_24 : decode cX7_judge 24 = .ok (.iaload, 1) := by decide +kernel
theorem dX7_judge_25 : decode cX7_judge 25 = .ok (.if_icmp .ge 39, 3) := by decide +kernel
theorem dX7_judge_28 : decode cX7_judge 28 = .ok (.iload_n 3, 1) := by decide +kernel
theorem dX7_judge_29 : decode cX7_judge 29 = .ok (.aload_n 0, 1) := by decide +kernel
theorem dX7_judge_30 : decode cX7_judge 30 = .ok (.getfield 9, 3) := by decide +kernel
theorem dX7_judge_33 : decode cX7_judge 33 = .ok (.iconst 2, 1) := by decide +kernel
theorem dX7_judge_34 : decode cX7_judge 34 = .ok (.iaload, 1) := by decide +kernel
theorem dX7_judge_35 : decode cX7_judge 35 = .ok (.if_icmp .ge 29, 3) := by decide +kernel
theorem dX7_judge_38 : decode cX7_judge 38 = .ok (.aload_n 0, 1) := by decide +kernel
theorem dX7_judge_39 : decode cX7_judge 39 = .ok (.getfield 28, 3) := by decide +kernel
theorem dX7_judge_42 : decode cX7_judge 42 = .ok (.bipush 24, 2) := by decide +kernel
theorem dX7_judge_44 : decode cX7_judge 44 = .ok (.iload_n 1, 1) := by decide +kernel
theorem dX7_judge_45 : decode cX7_judge 45 = .ok (.imul, 1) := by decide +kernel
theorem dX7_judge_46 : decode cX7_judge 46 = .ok (.iload_n 3, 1) := by decide +kernel
theorem dX7_judge_47 : decode cX7_judge 47 = .ok (.iadd, 1) := by decide +kernel
theorem dX7_judge_48 : decode cX7_judge 48 = .ok (.iaload, 1) := by decide +kernel
theorem dX7_judge_49 : decode cX7_judge 49 = .ok (.aload_n 0, 1) := by decide +kernel
theorem dX7_judge_50 : decode cX7_judge 50 = .ok (.iload_n 3, 1) := by decide +kernel
theorem dX7_judge_51 : decode cX7_judge 51 = .ok (.iconst 4, 1) := by decide +kernel
theorem dX7_judge_52 : decode cX7_judge 52 = .ok (.invokevirtual 65, 3) := by decide +kernel
theorem dX7_judge_55 : decode cX7_judge 55 = .ok (.if_icmp .ne 9, 3) := by decide +kernel
theorem dX7_judge_58 : decode cX7_judge 58 = .ok (.iinc 3 1, 3) := by decide +kernel
theorem dX7_judge_61 : decode cX7_judge 61 = .ok (.goto (-43), 3) := by decide +kernel
theorem dX7_judge_64 : decode cX7_judge 64 = .ok (.iload_n 3, 1) := by decide +kernel
theorem dX7_judge_65 : decode cX7_judge 65 = .ok (.ireturn, 1) := by decide +kernel
theorem dX7_image_0 : decode cX7_image 0 = .ok (.aload_n 0, 1) := by decide +kernel
theorem dX7_image_1 : decode cX7_image 1 = .ok (.getfield 9, 3) := by decide +kernel
theorem dX7_image_4 : decode cX7_image 4 = .ok (.aload_n 0, 1) := by decide +kernel
theorem dX7_image_5 : decode cX7_image 5 = .ok (.getfield 13, 3) := by decide +kernel
theorem dX7_image_8 : decode cX7_image 8 = .ok (.invokestatic 57, 3) := by decide +kernel
theorem dX7_image_11 : decode cX7_image 11 = .ok (.aload_n 0, 1) := by decide +kernel
theorem dX7_image_12 : decode cX7_image 12 = .ok (.dup, 1) := by decide +kernel
theorem dX7_image_13 : decode cX7_image 13 = .ok (.getfield 309, 3) := by decide +kernel
theorem dX7_image_16 : decode cX7_image 16 = .ok (.iconst 1, 1) := by decide +kernel
theorem dX7_image_17 : decode cX7_image 17 = .ok (.iadd, 1) := by decide +kernel
theorem dX7_image_18 : decode cX7_image 18 = .ok (.putfield 309, 3) := by decide +kernel
theorem dX7_image_21 : decode cX7_image 21 = .ok (.aload_n 0, 1) := by decide +kernel
theorem dX7_image_22 : decode cX7_image 22 = .ok (.getfield 309, 3) := by decide +kernel
theorem dX7_image_25 : decode cX7_image 25 = .ok (.ireturn, 1) := by decide +kernel
theorem dX7_restore_0 : decode cX7_restore 0 = .ok (.aload_n 0, 1) := by decide +kernel
theorem dX7_restore_1 : decode cX7_restore 1 = .ok (.getfield 309, 3) := by decide +kernel
theorem dX7_restore_4 : decode cX7_restore 4 = .ok (.ifCond .ne 10, 3) := by decide +kernel
theorem dX7_restore_7 : decode cX7_restore 7 = .ok (.aload_n 0, 1) := by decide +kernel
theorem dX7_restore_8 : decode cX7_restore 8 = .ok (.ldc 248, 2) := by decide +kernel
theorem dX7_restore_10 : decode cX7_restore 10 = .ok (.invokevirtual 126, 3) := by decide +kernel
theorem dX7_restore_13 : decode cX7_restore 13 = .ok (.ireturn, 1) := by decide +kernel
theorem dX7_restore_14 : decode cX7_restore 14 = .ok (.aload_n 0, 1) := by decide +kernel
theorem dX7_restore_15 : decode cX7_restore 15 = .ok (.getfield 13, 3) := by decide +kernel
theorem dX7_restore_18 : decode cX7_restore 18 = .ok (.aload_n 0, 1) := by decide +kernel
theorem dX7_restore_19 : decode cX7_restore 19 = .ok (.getfield 9, 3) := by decide +kernel
theorem dX7_restore_22 : decode cX7_restore 22 = .ok (.invokestatic 57, 3) := by decide +kernel
theorem dX7_restore_25 : decode cX7_restore 25 = .ok (.aload_n 0, 1) := by decide +kernel
theorem dX7_restore_26 : decode cX7_restore 26 = .ok (.getfield 9, 3) := by decide +kernel
theorem dX7_restore_29 : decode cX7_restore 29 = .ok (.iconst 0, 1) := by decide +kernel
theorem dX7_restore_30 : decode cX7_restore 30 = .ok (.iaload, 1) := by decide +kernel
theorem dX7_restore_31 : decode cX7_restore 31 = .ok (.ireturn, 1) := by decide +kernel
theorem dX7_tell_0 : decode cX7_tell 0 = .ok (.aload_n 0, 1) := by decide +kernel
theorem dX7_tell_1 : decode cX7_tell 1 = .ok (.getfield 9, 3) := by decide +kernel
theorem dX7_tell_4 : decode cX7_tell 4 = .ok (.bipush 7, 2) := by decide +kernel
theorem dX7_tell_6 : decode cX7_tell 6 = .ok (.iaload, 1) := by decide +kernel
theorem dX7_tell_7 : decode cX7_tell 7 = .ok (.bipush 24, 2) := by decide +kernel
theorem dX7_tell_9 : decode cX7_tell 9 = .ok (.if_icmp .ne 10, 3) := by decide +kernel
theorem dX7_tell_12 : decode cX7_tell 12 = .ok (.aload_n 0, 1) := by decide +kernel
theorem dX7_tell_13 : decode cX7_tell 13 = .ok (.ldc 129, 2) := by decide +kernel
theorem dX7_tell_15 : decode cX7_tell 15 = .ok (.invokevirtual 126, 3) := by decide +kernel
theorem dX7_tell_18 : decode cX7_tell 18 = .ok (.ireturn, 1) := by decide +kernel
theorem dX7_tell_19 : decode cX7_tell 19 = .ok (.aload_n 0, 1) := by decide +kernel
theorem dX7_tell_20 : decode cX7_tell 20 = .ok (.getfield 9, 3) := by decide +kernel
theorem dX7_tell_23 : decode cX7_tell 23 = .ok (.bipush 116, 2) := by decide +kernel
theorem dX7_tell_25 : decode cX7_tell 25 = .ok (.aload_n 0, 1) := by decide +kernel
theorem dX7_tell_26 : decode cX7_tell 26 = .ok (.getfield 9, 3) := by decide +kernel
theorem dX7_tell_29 : decode cX7_tell 29 = .ok (.bipush 7, 2) := by decide +kernel
theorem dX7_tell_31 : decode cX7_tell 31 = .ok (.iaload, 1) := by decide +kernel
theorem dX7_tell_32 : decode cX7_tell 32 = .ok (.iadd, 1) := by decide +kernel
theorem dX7_tell_33 : decode cX7_tell 33 = .ok (.iload_n 1, 1) := by decide +kernel
theorem dX7_tell_34 : decode cX7_tell 34 = .ok (.iastore, 1) := by decide +kernel
theorem dX7_tell_35 : decode cX7_tell 35 = .ok (.aload_n 0, 1) := by decide +kernel
theorem dX7_tell_36 : decode cX7_tell 36 = .ok (.getfield 9, 3) := by decide +kernel
theorem dX7_tell_39 : decode cX7_tell 39 = .ok (.bipush 7, 2) := by decide +kernel
theorem dX7_tell_41 : decode cX7_tell 41 = .ok (.dup2, 1) := by decide +kernel
theorem dX7_tell_42 : decode cX7_tell 42 = .ok (.iaload, 1) := by decide +kernel
theorem dX7_tell_43 : decode cX7_tell 43 = .ok (.iconst 1, 1) := by decide +kernel
theorem dX7_tell_44 : decode cX7_tell 44 = .ok (.iadd, 1) := by decide +kernel
theorem dX7_tell_45 : decode cX7_tell 45 = .ok (.iastore, 1) := by decide +kernel
theorem dX7_tell_46 : decode cX7_tell 46 = .ok (.aload_n 0, 1) := by decide +kernel
theorem dX7_tell_47 : decode cX7_tell 47 = .ok (.getfield 9, 3) := by decide +kernel
theorem dX7_tell_50 : decode cX7_tell 50 = .ok (.bipush 7, 2) := by decide +kernel
theorem dX7_tell_52 : decode cX7_tell 52 = .ok (.iaload, 1) := by decide +kernel
theorem dX7_tell_53 : decode cX7_tell 53 = .ok (.ireturn, 1) := by decide +kernel
theorem dX7_check_0 : decode cX7_check 0 = .ok (.aload_n 0, 1) := by decide +kernel
theorem dX7_check_1 : decode cX7_check 1 = .ok (.getfield 9, 3) := by decide +kernel
theorem dX7_check_4 : decode cX7_check 4 = .ok (.bipush 7, 2) := by decide +kernel
theorem dX7_check_6 : decode cX7_check 6 = .ok (.iaload, 1) := by decide +kernel
theorem dX7_check_7 : decode cX7_check 7 = .ok (.istore_n 1, 1) := by decide +kernel
theorem dX7_check_8 : decode cX7_check 8 = .ok (.aload_n 0, 1) := by decide +kernel
theorem dX7_check_9 : decode cX7_check 9 = .ok (.getfield 9, 3) := by decide +kernel
theorem dX7_check_12 : decode cX7_check 12 = .ok (.bipush 7, 2) := by decide +kernel
theorem dX7_check_14 : decode cX7_check 14 = .ok (.iconst 0, 1) := by decide +kernel
theorem dX7_check_15 : decode cX7_check 15 = .ok (.iastore, 1) := by decide +kernel
theorem dX7_check_16 : decode cX7_check 16 = .ok (.iconst 0, 1) := by decide +kernel
theorem dX7_check_17 : decode cX7_check 17 = .ok (.istore_n 2, 1) := by decide +kernel
theorem dX7_check_18 : decode cX7_check 18 = .ok (.iload_n 2, 1) := by decide +kernel
theorem dX7_check_19 : decode cX7_check 19 = .ok (.iload_n 1, 1) := by decide +kernel
theorem dX7_check_20 : decode cX7_check 20 = .ok (.if_icmp .ge 38, 3) := by decide +kernel
theorem dX7_check_23 : decode cX7_check 23 = .ok (.aload_n 0, 1) := by decide +kernel
theorem dX7_check_24 : decode cX7_check 24 = .ok (.iload_n 2, 1) := by decide +kernel
theorem dX7_check_25 : decode cX7_check 25 = .ok (.invokevirtual 134, 3) := by decide +kernel
theorem dX7_check_28 : decode cX7_check 28 = .ok (.ifCond .eq 20, 3) := by decide +kernel
theorem dX7_check_31 : decode cX7_check 31 = .ok (.aload_n 0, 1) := by decide +kernel
theorem dX7_check_32 : decode cX7_check 32 = .ok (.getfield 9, 3) := by decide +kernel
theorem dX7_check_35 : decode cX7_check 35 = .ok (.bipush 116, 2) := by decide +kernel
theorem dX7_check_37 : decode cX7_check 37 = .ok (.iload_n 2, 1) := by decide +kernel
theorem dX7_check_38 : decode cX7_check 38 = .ok (.iadd, 1) := by decide +kernel
theorem dX7_check_39 : decode cX7_check 39 = .ok (.iaload, 1) := by decide +kernel
theorem dX7_check_40 : decode cX7_check 40 = .ok (.aload_n 0, 1) := by decide +kernel
theorem dX7_check_41 : decode cX7_check 41 = .ok (.iload_n 2, 1) := by decide +kernel
theorem dX7_check_42 : decode cX7_check 42 = .ok (.invokevirtual 93, 3) := by decide +kernel
theorem dX7_check_45 : decode cX7_check 45 = .ok (.if_icmp .eq 7, 3) := by decide +kernel
theorem dX7_check_48 : decode cX7_check 48 = .ok (.iconst 1, 1) := by decide +kernel
theorem dX7_check_49 : decode cX7_check 49 = .ok (.iload_n 2, 1) := by decide +kernel
theorem dX7_check_50 : decode cX7_check 50 = .ok (.iadd, 1) := by decide +kernel
theorem dX7_check_51 : decode cX7_check 51 = .ok (.ireturn, 1) := by decide +kernel
theorem dX7_check_52 : decode cX7_check 52 = .ok (.iinc 2 1, 3) := by decide +kernel
theorem dX7_check_55 : decode cX7_check 55 = .ok (.goto (-37), 3) := by decide +kernel
theorem dX7_check_58 : decode cX7_check 58 = .ok (.iconst 0, 1) := by decide +kernel
theorem dX7_check_59 : decode cX7_check 59 = .ok (.ireturn, 1) := by decide +kernel
theorem dX7_count_0 : decode cX7_count 0 = .ok (.iload_n 1, 1) := by decide +kernel
theorem dX7_count_1 : decode cX7_count 1 = .ok (.tableswitch 133 0 10 #[59, 66, 73, 80, 80, 91, 96, 105, 113, 121, 126], 59) := by decide +kernel
theorem dX7_count_60 : decode cX7_count 60 = .ok (.aload_n 0, 1) := by decide +kernel
theorem dX7_count_61 : decode cX7_count 61 = .ok (.getfield 9, 3) := by decide +kernel
theorem dX7_count_64 : decode cX7_count 64 = .ok (.iconst 2, 1) := by decide +kernel
theorem dX7_count_65 : decode cX7_count 65 = .ok (.iaload, 1) := by decide +kernel
theorem dX7_count_66 : decode cX7_count 66 = .ok (.ireturn, 1) := by decide +kernel
theorem dX7_count_67 : decode cX7_count 67 = .ok (.aload_n 0, 1) := by decide +kernel
theorem dX7_count_68 : decode cX7_count 68 = .ok (.getfield 9, 3) := by decide +kernel
theorem dX7_count_71 : decode cX7_count 71 = .ok (.iconst 3, 1) := by decide +kernel
theorem dX7_count_72 : decode cX7_count 72 = .ok (.iaload, 1) := by decide +kernel
theorem dX7_count_73 : decode cX7_count 73 = .ok (.ireturn, 1) := by decide +kernel
theorem dX7_count_74 : decode cX7_count 74 = .ok (.aload_n 0, 1) := by decide +kernel
theorem dX7_count_75 : decode cX7_count 75 = .ok (.getfield 9, 3) := by decide +kernel
theorem dX7_count_78 : decode cX7_count 78 = .ok (.iconst 0, 1) := by decide +kernel
theorem dX7_count_79 : decode cX7_count 79 = .ok (.iaload, 1) := by decide +kernel
theorem dX7_count_80 : decode cX7_count 80 = .ok (.ireturn, 1) := by decide +kernel
theorem dX7_count_81 : decode cX7_count 81 = .ok (.aload_n 0, 1) := by decide +kernel
theorem dX7_count_82 : decode cX7_count 82 = .ok (.getfield 9, 3) := by decide +kernel
theorem dX7_count_85 : decode cX7_count 85 = .ok (.iconst 4, 1) := by decide +kernel
theorem dX7_count_86 : decode cX7_count 86 = .ok (.iload_n 1, 1) := by decide +kernel
theorem dX7_count_87 : decode cX7_count 87 = .ok (.iadd, 1) := by decide +kernel
theorem dX7_count_88 : decode cX7_count 88 = .ok (.iconst 3, 1) := by decide +kernel
theorem dX7_count_89 : decode cX7_count 89 = .ok (.isub, 1) := by decide +kernel
theorem dX7_count_90 : decode cX7_count 90 = .ok (.iaload, 1) := by decide +kernel
theorem dX7_count_91 : decode cX7_count 91 = .ok (.ireturn, 1) := by decide +kernel
theorem dX7_count_92 : decode cX7_count 92 = .ok (.aload_n 0, 1) := by decide +kernel
theorem dX7_count_93 : decode cX7_count 93 = .ok (.invokevirtual 96, 3) := by decide +kernel
theorem dX7_count_96 : decode cX7_count 96 = .ok (.ireturn, 1) := by decide +kernel
theorem dX7_count_97 : decode cX7_count 97 = .ok (.aload_n 0, 1) := by decide +kernel
theorem dX7_count_98 : decode cX7_count 98 = .ok (.aload_n 0, 1) := by decide +kernel
theorem dX7_count_99 : decode cX7_count 99 = .ok (.invokevirtual 96, 3) := by decide +kernel
theorem dX7_count_102 : decode cX7_count 102 = .ok (.invokevirtual 83, 3) := by decide +kernel
theorem dX7_count_105 : decode cX7_count 105 = .ok (.ireturn, 1) := by decide +kernel
theorem dX7_count_106 : decode cX7_count 106 = .ok (.aload_n 0, 1) := by decide +kernel
theorem dX7_count_107 : decode cX7_count 107 = .ok (.getfield 9, 3) := by decide +kernel
theorem dX7_count_110 : decode cX7_count 110 = .ok (.bipush 6, 2) := by decide +kernel
theorem dX7_count_112 : decode cX7_count 112 = .ok (.iaload, 1) := by decide +kernel
theorem dX7_count_113 : decode cX7_count 113 = .ok (.ireturn, 1) := by decide +kernel
theorem dX7_count_114 : decode cX7_count 114 = .ok (.aload_n 0, 1) := by decide +kernel
theorem dX7_count_115 : decode cX7_count 115 = .ok (.getfield 9, 3) := by decide +kernel
theorem dX7_count_118 : decode cX7_count 118 = .ok (.bipush 7, 2) := by decide +kernel
theorem dX7_count_120 : decode cX7_count 120 = .ok (.iaload, 1) := by decide +kernel
theorem dX7_count_121 : decode cX7_count 121 = .ok (.ireturn, 1) := by decide +kernel
theorem dX7_count_122 : decode cX7_count 122 = .ok (.aload_n 0, 1) := by decide +kernel
theorem dX7_count_123 : decode cX7_count 123 = .ok (.getfield 262, 3) := by decide +kernel
theorem dX7_count_126 : decode cX7_count 126 = .ok (.ireturn, 1) := by decide +kernel
theorem dX7_count_127 : decode cX7_count 127 = .ok (.aload_n 0, 1) := by decide +kernel
theorem dX7_count_128 : decode cX7_count 128 = .ok (.getfield 9, 3) := by decide +kernel
theorem dX7_count_131 : decode cX7_count 131 = .ok (.iconst 1, 1) := by decide +kernel
theorem dX7_count_132 : decode cX7_count 132 = .ok (.iaload, 1) := by decide +kernel
theorem dX7_count_133 : decode cX7_count 133 = .ok (.ireturn, 1) := by decide +kernel
theorem dX7_count_134 : decode cX7_count 134 = .ok (.aload_n 0, 1) := by decide +kernel
theorem dX7_count_135 : decode cX7_count 135 = .ok (.ldc 125, 2) := by decide +kernel
theorem dX7_count_137 : decode cX7_count 137 = .ok (.invokevirtual 126, 3) := by decide +kernel
theorem dX7_count_140 : decode cX7_count 140 = .ok (.ireturn, 1) := by decide +kernel
theorem dX7_told_0 : decode cX7_told 0 = .ok (.iload_n 1, 1) := by decide +kernel
theorem dX7_told_1 : decode cX7_told 1 = .ok (.iconst 1, 1) := by decide +kernel
theorem dX7_told_2 : decode cX7_told 2 = .ok (.bipush 6, 2) := by decide +kernel
theorem dX7_told_4 : decode cX7_told 4 = .ok (.invokestatic 61, 3) := by decide +kernel
theorem dX7_told_7 : decode cX7_told 7 = .ok (.ifCond .eq 12, 3) := by decide +kernel
theorem dX7_told_10 : decode cX7_told 10 = .ok (.aload_n 0, 1) := by decide +kernel
theorem dX7_told_11 : decode cX7_told 11 = .ok (.getfield 19, 3) := by decide +kernel
theorem dX7_told_14 : decode cX7_told 14 = .ok (.iload_n 1, 1) := by decide +kernel
theorem dX7_told_15 : decode cX7_told 15 = .ok (.iaload, 1) := by decide +kernel
theorem dX7_told_16 : decode cX7_told 16 = .ok (.goto 9, 3) := by decide +kernel
theorem dX7_told_19 : decode cX7_told 19 = .ok (.aload_n 0, 1) := by decide +kernel
theorem dX7_told_20 : decode cX7_told 20 = .ok (.ldc 125, 2) := by decide +kernel
theorem dX7_told_22 : decode cX7_told 22 = .ok (.invokevirtual 126, 3) := by decide +kernel
theorem dX7_told_25 : decode cX7_told 25 = .ok (.ireturn, 1) := by decide +kernel
end
section
theorem dL_law_0 : decode cL_law 0 = .ok (.new 7, 3) := by decide +kernel
theorem dL_law_3 : decode cL_law 3 = .ok (.dup, 1) := by decide +kernel
theorem dL_law_4 : decode cL_law 4 = .ok (.invokespecial 9, 3) := by decide +kernel
theorem dL_law_7 : decode cL_law 7 = .ok (.astore_n 1, 1) := by decide +kernel
theorem dL_law_8 : decode cL_law 8 = .ok (.new 10, 3) := by decide +kernel
theorem dL_law_11 : decode cL_law 11 = .ok (.dup, 1) := by decide +kernel
theorem dL_law_12 : decode cL_law 12 = .ok (.invokespecial 12, 3) := by decide +kernel
theorem dL_law_15 : decode cL_law 15 = .ok (.astore_n 2, 1) := by decide +kernel
theorem dL_law_16 : decode cL_law 16 = .ok (.iconst 0, 1) := by decide +kernel
theorem dL_law_17 : decode cL_law 17 = .ok (.istore_n 3, 1) := by decide +kernel
theorem dL_law_18 : decode cL_law 18 = .ok (.iload_n 3, 1) := by decide +kernel
theorem dL_law_19 : decode cL_law 19 = .ok (.aload_n 0, 1) := by decide +kernel
theorem dL_law_20 : decode cL_law 20 = .ok (.arraylength, 1) := by decide +kernel
theorem dL_law_21 : decode cL_law 21 = .ok (.bipush 6, 2) := by decide +kernel
theorem dL_law_23 : decode cL_law 23 = .ok (.isub, 1) := by decide +kernel
theorem dL_law_24 : decode cL_law 24 = .ok (.if_icmp .gt 1400, 3) := by decide +kernel
theorem dL_law_27 : decode cL_law 27 = .ok (.aload_n 0, 1) := by decide +kernel
theorem dL_law_28 : decode cL_law 28 = .ok (.iload_n 3, 1) := by decide +kernel
theorem dL_law_29 : decode cL_law 29 = .ok (.iaload, 1) := by decide +kernel
theorem dL_law_30 : decode cL_law 30 = .ok (.bipush 63, 2) := by decide +kernel
theorem dL_law_32 : decode cL_law 32 = .ok (.iand, 1) := by decide +kernel
theorem dL_law_33 : decode cL_law 33 = .ok (.tableswitch 1385 0 40 #[179, 232, 265, 298, 331, 364, 397, 420, 443, 506, 529, 552, 605, 628, 651, 674, 697, 731, 765, 789, 802, 815, 828, 861, 884, 907, 930, 973, 1016, 1059, 1082, 1125, 1168, 1231, 1254, 1277, 1290, 1303, 1326, 1339, 1362], 179) := by decide +kernel
theorem dL_law_212 : decode cL_law 212 = .ok (.aload_n 1, 1) := by decide +kernel
theorem dL_law_213 : decode cL_law 213 = .ok (.aload_n 0, 1) := by decide +kernel
theorem dL_law_214 : decode cL_law 214 = .ok (.iload_n 3, 1) := by decide +kernel
theorem dL_law_215 : decode cL_law 215 = .ok (.iconst 1, 1) := by decide +kernel
theorem dL_law_216 : decode cL_law 216 = .ok (.iadd, 1) := by decide +kernel
theorem dL_law_217 : decode cL_law 217 = .ok (.iaload, 1) := by decide +kernel
theorem dL_law_218 : decode cL_law 218 = .ok (.aload_n 0, 1) := by decide +kernel
theorem dL_law_219 : decode cL_law 219 = .ok (.iload_n 3, 1) := by decide +kernel
theorem dL_law_220 : decode cL_law 220 = .ok (.iconst 2, 1) := by decide +kernel
theorem dL_law_221 : decode cL_law 221 = .ok (.iadd, 1) := by decide +kernel
theorem dL_law_222 : decode cL_law 222 = .ok (.iaload, 1) := by decide +kernel
theorem dL_law_223 : decode cL_law 223 = .ok (.aload_n 0, 1) := by decide +kernel
theorem dL_law_224 : decode cL_law 224 = .ok (.iload_n 3, 1) := by decide +kernel
theorem dL_law_225 : decode cL_law 225 = .ok (.iconst 3, 1) := by decide +kernel
theorem dL_law_226 : decode cL_law 226 = .ok (.iadd, 1) := by decide +kernel
theorem dL_law_227 : decode cL_law 227 = .ok (.iaload, 1) := by decide +kernel
theorem dL_law_228 : decode cL_law 228 = .ok (.aload_n 0, 1) := by decide +kernel
theorem dL_law_229 : decode cL_law 229 = .ok (.iload_n 3, 1) := by decide +kernel
theorem dL_law_230 : decode cL_law 230 = .ok (.iconst 4, 1) := by decide +kernel
theorem dL_law_231 : decode cL_law 231 = .ok (.iadd, 1) := by decide +kernel
theorem dL_law_232 : decode cL_law 232 = .ok (.iaload, 1) := by decide +kernel
theorem dL_law_233 : decode cL_law 233 = .ok (.invokevirtual 13, 3) := by decide +kernel
theorem dL_law_236 : decode cL_law 236 = .ok (.aload_n 2, 1) := by decide +kernel
theorem dL_law_237 : decode cL_law 237 = .ok (.aload_n 0, 1) := by decide +kernel
theorem dL_law_238 : decode cL_law 238 = .ok (.iload_n 3, 1) := by decide +kernel
theorem dL_law_239 : decode cL_law 239 = .ok (.iconst 1, 1) := by decide +kernel
theorem dL_law_240 : decode cL_law 240 = .ok (.iadd, 1) := by decide +kernel
theorem dL_law_241 : decode cL_law 241 = .ok (.iaload, 1) := by decide +kernel
theorem dL_law_242 : decode cL_law 242 = .ok (.aload_n 0, 1) := by decide +kernel
theorem dL_law_243 : decode cL_law 243 = .ok (.iload_n 3, 1) := by decide +kernel
theorem dL_law_244 : decode cL_law 244 = .ok (.iconst 2, 1) := by decide +kernel
theorem dL_law_245 : decode cL_law 245 = .ok (.iadd, 1) := by decide +kernel
theorem dL_law_246 : decode cL_law 246 = .ok (.iaload, 1) := by decide +kernel
theorem dL_law_247 : decode cL_law 247 = .ok (.aload_n 0, 1) := by decide +kernel
theorem dL_law_248 : decode cL_law 248 = .ok (.iload_n 3, 1) := by decide +kernel
theorem dL_law_249 : decode cL_law 249 = .ok (.iconst 3, 1) := by decide +kernel
theorem dL_law_250 : decode cL_law 250 = .ok (.iadd, 1) := by decide +kernel
theorem dL_law_251 : decode cL_law 251 = .ok (.iaload, 1) := by decide +kernel
theorem dL_law_252 : decode cL_law 252 = .ok (.aload_n 0, 1) := by decide +kernel
theorem dL_law_253 : decode cL_law 253 = .ok (.iload_n 3, 1) := by decide +kernel
theorem dL_law_254 : decode cL_law 254 = .ok (.iconst 4, 1) := by decide +kernel
theorem dL_law_255 : decode cL_law 255 = .ok (.iadd, 1) := by decide +kernel
theorem dL_law_256 : decode cL_law 256 = .ok (.iaload, 1) := by decide +kernel
theorem dL_law_257 : decode cL_law 257 = .ok (.invokevirtual 17, 3) := by decide +kernel
theorem dL_law_260 : decode cL_law 260 = .ok (.if_icmp .eq 1158, 3) := by decide +kernel
theorem dL_law_263 : decode cL_law 263 = .ok (.iconst 0, 1) := by decide +kernel
theorem dL_law_264 : decode cL_law 264 = .ok (.ireturn, 1) := by decide +kernel
theorem dL_law_265 : decode cL_law 265 = .ok (.aload_n 1, 1) := by decide +kernel
theorem dL_law_266 : decode cL_law 266 = .ok (.aload_n 0, 1) := by decide +kernel
theorem dL_law_267 : decode cL_law 267 = .ok (.iload_n 3, 1) := by decide +kernel
theorem dL_law_268 : decode cL_law 268 = .ok (.iconst 1, 1) := by decide +kernel
theorem dL_law_269 : decode cL_law 269 = .ok (.iadd, 1) := by decide +kernel
theorem dL_law_270 : decode cL_law 270 = .ok (.iaload, 1) := by decide +kernel
theorem dL_law_271 : decode cL_law 271 = .ok (.aload_n 0, 1) := by decide +kernel
theorem dL_law_272 : decode cL_law 272 = .ok (.iload_n 3, 1) := by decide +kernel
theorem dL_law_273 : decode cL_law 273 = .ok (.iconst 2, 1) := by decide +kernel
theorem dL_law_274 : decode cL_law 274 = .ok (.iadd, 1) := by decide +kernel
theorem dL_law_275 : decode cL_law 275 = .ok (.iaload, 1) := by decide +kernel
theorem dL_law_276 : decode cL_law 276 = .ok (.invokevirtual 18, 3) := by decide +kernel
theorem dL_law_279 : decode cL_law 279 = .ok (.aload_n 2, 1) := by decide +kernel
theorem dL_law_280 : decode cL_law 280 = .ok (.aload_n 0, 1) := by decide +kernel
theorem dL_law_281 : decode cL_law 281 = .ok (.iload_n 3, 1) := by decide +kernel
theorem dL_law_282 : decode cL_law 282 = .ok (.iconst 1, 1) := by decide +kernel
theorem dL_law_283 : decode cL_law 283 = .ok (.iadd, 1) := by decide +kernel
theorem dL_law_284 : decode cL_law 284 = .ok (.iaload, 1) := by decide +kernel
theorem dL_law_285 : decode cL_law 285 = .ok (.aload_n 0, 1) := by decide +kernel
theorem dL_law_286 : decode cL_law 286 = .ok (.iload_n 3, 1) := by decide +kernel
theorem dL_law_287 : decode cL_law 287 = .ok (.iconst 2, 1) := by decide +kernel
theorem dL_law_288 : decode cL_law 288 = .ok (.iadd, 1) := by decide +kernel
theorem dL_law_289 : decode cL_law 289 = .ok (.iaload, 1) := by decide +kernel
theorem dL_law_290 : decode cL_law 290 = .ok (.invokevirtual 22, 3) := by decide +kernel
theorem dL_law_293 : decode cL_law 293 = .ok (.if_icmp .eq 1125, 3) := by decide +kernel
theorem dL_law_296 : decode cL_law 296 = .ok (.iconst 0, 1) := by decide +kernel
theorem dL_law_297 : decode cL_law 297 = .ok (.ireturn, 1) := by decide +kernel
theorem dL_law_298 : decode cL_law 298 = .ok (.aload_n 1, 1) := by decide +kernel
theorem dL_law_299 : decode cL_law 299 = .ok (.aload_n 0, 1) := by decide +kernel
theorem dL_law_300 : decode cL_law 300 = .ok (.iload_n 3, 1) := by decide +kernel
theorem dL_law_301 : decode cL_law 301 = .ok (.iconst 1, 1) := by decide +kernel
theorem dL_law_302 : decode cL_law 302 = .ok (.iadd, 1) := by decide +kernel
theorem dL_law_303 : decode cL_law 303 = .ok (.iaload, 1) := by decide +kernel
theorem dL_law_304 : decode cL_law 304 = .ok (.aload_n 0, 1) := by decide +kernel
theorem dL_law_305 : decode cL_law 305 = .ok (.iload_n 3, 1) := by decide +kernel
theorem dL_law_306 : decode cL_law 306 = .ok (.iconst 2, 1) := by decide +kernel
theorem dL_law_307 : decode cL_law 307 = .ok (.iadd, 1) := by decide +kernel
theorem dL_law_308 : decode cL_law 308 = .ok (.iaload, 1) := by decide +kernel
theorem dL_law_309 : decode cL_law 309 = .ok (.invokevirtual 23, 3) := by decide +kernel
theorem dL_law_312 : decode cL_law 312 = .ok (.aload_n 2, 1) := by decide +kernel
theorem dL_law_313 : decode cL_law 313 = .ok (.aload_n 0, 1) := by decide +kernel
theorem dL_law_314 : decode cL_law 314 = .ok (.iload_n 3, 1) := by decide +kernel
theorem dL_law_315 : decode cL_law 315 = .ok (.iconst 1, 1) := by decide +kernel
theorem dL_law_316 : decode cL_law 316 = .ok (.iadd, 1) := by decide +kernel
theorem dL_law_317 : decode cL_law 317 = .ok (.iaload, 1) := by decide +kernel
theorem dL_law_318 : decode cL_law 318 = .ok (.aload_n 0, 1) := by decide +kernel
theorem dL_law_319 : decode cL_law 319 = .ok (.iload_n 3, 1) := by decide +kernel
theorem dL_law_320 : decode cL_law 320 = .ok (.iconst 2, 1) := by decide +kernel
theorem dL_law_321 : decode cL_law 321 = .ok (.iadd, 1) := by decide +kernel
theorem dL_law_322 : decode cL_law 322 = .ok (.iaload, 1) := by decide +kernel
theorem dL_law_323 : decode cL_law 323 = .ok (.invokevirtual 26, 3) := by decide +kernel
theorem dL_law_326 : decode cL_law 326 = .ok (.if_icmp .eq 1092, 3) := by decide +kernel
theorem dL_law_329 : decode cL_law 329 = .ok (.iconst 0, 1) := by decide +kernel
theorem dL_law_330 : decode cL_law 330 = .ok (.ireturn, 1) := by decide +kernel
theorem dL_law_331 : decode cL_law 331 = .ok (.aload_n 1, 1) := by decide +kernel
theorem dL_law_332 : decode cL_law 332 = .ok (.aload_n 0, 1) := by decide +kernel
theorem dL_law_333 : decode cL_law 333 = .ok (.iload_n 3, 1) := by decide +kernel
theorem dL_law_334 : decode cL_law 334 = .ok (.iconst 1, 1) := by decide +kernel
theorem dL_law_335 : decode cL_law 335 = .ok (.iadd, 1) := by decide +kernel
theorem dL_law_336 : decode cL_law 336 = .ok (.iaload, 1) := by decide +kernel
theorem dL_law_337 : decode cL_law 337 = .ok (.aload_n 0, 1) := by decide +kernel
theorem dL_law_338 : decode cL_law 338 = .ok (.iload_n 3, 1) := by decide +kernel
theorem dL_law_339 : decode cL_law 339 = .ok (.iconst 2, 1) := by decide +kernel
theorem dL_law_340 : decode cL_law 340 = .ok (.iadd, 1) := by decide +kernel
theorem dL_law_341 : decode cL_law 341 = .ok (.iaload, 1) := by decide +kernel
theorem dL_law_342 : decode cL_law 342 = .ok (.invokevirtual 27, 3) := by decide +kernel
theorem dL_law_345 : decode cL_law 345 = .ok (.aload_n 2, 1) := by decide +kernel
theorem dL_law_346 : decode cL_law 346 = .ok (.aload_n 0, 1) := by decide +kernel
theorem dL_law_347 : decode cL_law 347 = .ok (.iload_n 3, 1) := by decide +kernel
theorem dL_law_348 : decode cL_law 348 = .ok (.iconst 1, 1) := by decide +kernel
theorem dL_law_349 : decode cL_law 349 = .ok (.iadd, 1) := by decide +kernel
theorem dL_law_350 : decode cL_law 350 = .ok (.iaload, 1) := by decide +kernel
theorem dL_law_351 : decode cL_law 351 = .ok (.aload_n 0, 1) := by decide +kernel
theorem dL_law_352 : decode cL_law 352 = .ok (.iload_n 3, 1) := by decide +kernel
theorem dL_law_353 : decode cL_law 353 = .ok (.iconst 2, 1) := by decide +kernel
theorem dL_law_354 : decode cL_law 354 = .ok (.iadd, 1) := by decide +kernel
theorem dL_law_355 : decode cL_law 355 = .ok (.iaload, 1) := by decide +kernel
theorem dL_law_356 : decode cL_law 356 = .ok (.invokevirtual 30, 3) := by decide +kernel
theorem dL_law_359 : decode cL_law 359 = .ok (.if_icmp .eq 1059, 3) := by decide +kernel
theorem dL_law_362 : decode cL_law 362 = .ok (.iconst 0, 1) := by decide +kernel
theorem dL_law_363 : decode cL_law 363 = .ok (.ireturn, 1) := by decide +kernel
theorem dL_law_364 : decode cL_law 364 = .ok (.aload_n 1, 1) := by decide +kernel
theorem dL_law_365 : decode cL_law 365 = .ok (.aload_n 0, 1) := by decide +kernel
theorem dL_law_366 : decode cL_law 366 = .ok (.iload_n 3, 1) := by decide +kernel
theorem dL_law_367 : decode cL_law 367 = .ok (.iconst 1, 1) := by decide +kernel
theorem dL_law_368 : decode cL_law 368 = .ok (.iadd, 1) := by decide +kernel
theorem dL_law_369 : decode cL_law 369 = .ok (.iaload, 1) := by decide +kernel
theorem dL_law_370 : decode cL_law 370 = .ok (.aload_n 0, 1) := by decide +kernel
theorem dL_law_371 : decode cL_law 371 = .ok (.iload_n 3, 1) := by decide +kernel
theorem dL_law_372 : decode cL_law 372 = .ok (.iconst 2, 1) := by decide +kernel
theorem dL_law_373 : decode cL_law 373 = .ok (.iadd, 1) := by decide +kernel
theorem dL_law_374 : decode cL_law 374 = .ok (.iaload, 1) := by decide +kernel
theorem dL_law_375 : decode cL_law 375 = .ok (.invokevirtual 31, 3) := by decide +kernel
theorem dL_law_378 : decode cL_law 378 = .ok (.aload_n 2, 1) := by decide +kernel
theorem dL_law_379 : decode cL_law 379 = .ok (.aload_n 0, 1) := by decide +kernel
theorem dL_law_380 : decode cL_law 380 = .ok (.iload_n 3, 1) := by decide +kernel
theorem dL_law_381 : decode cL_law 381 = .ok (.iconst 1, 1) := by decide +kernel
theorem dL_law_382 : decode cL_law 382 = .ok (.iadd, 1) := by decide +kernel
theorem dL_law_383 : decode cL_law 383 = .ok (.iaload, 1) := by decide +kernel
theorem dL_law_384 : decode cL_law 384 = .ok (.aload_n 0, 1) := by decide +kernel
theorem dL_law_385 : decode cL_law 385 = .ok (.iload_n 3, 1) := by decide +kernel
theorem dL_law_386 : decode cL_law 386 = .ok (.iconst 2, 1) := by decide +kernel
theorem dL_law_387 : decode cL_law 387 = .ok (.iadd, 1) := by decide +kernel
theorem dL_law_388 : decode cL_law 388 = .ok (.iaload, 1) := by decide +kernel
theorem dL_law_389 : decode cL_law 389 = .ok (.invokevirtual 34, 3) := by decide +kernel
theorem dL_law_392 : decode cL_law 392 = .ok (.if_icmp .eq 1026, 3) := by decide +kernel
theorem dL_law_395 : decode cL_law 395 = .ok (.iconst 0, 1) := by decide +kernel
theorem dL_law_396 : decode cL_law 396 = .ok (.ireturn, 1) := by decide +kernel
theorem dL_law_397 : decode cL_law 397 = .ok (.aload_n 1, 1) := by decide +kernel
theorem dL_law_398 : decode cL_law 398 = .ok (.aload_n 0, 1) := by decide +kernel
theorem dL_law_399 : decode cL_law 399 = .ok (.iload_n 3, 1) := by decide +kernel
theorem dL_law_400 : decode cL_law 400 = .ok (.iconst 1, 1) := by decide +kernel
theorem dL_law_401 : decode cL_law 401 = .ok (.iadd, 1) := by decide +kernel
theorem dL_law_402 : decode cL_law 402 = .ok (.iaload, 1) := by decide +kernel
theorem dL_law_403 : decode cL_law 403 = .ok (.aload_n 0, 1) := by decide +kernel
theorem dL_law_404 : decode cL_law 404 = .ok (.iload_n 3, 1) := by decide +kernel
theorem dL_law_405 : decode cL_law 405 = .ok (.iconst 2, 1) := by decide +kernel
theorem dL_law_406 : decode cL_law 406 = .ok (.iadd, 1) := by decide +kernel
theorem dL_law_407 : decode cL_law 407 = .ok (.iaload, 1) := by decide +kernel
theorem dL_law_408 : decode cL_law 408 = .ok (.invokevirtual 35, 3) := by decide +kernel
theorem dL_law_411 : decode cL_law 411 = .ok (.aload_n 2, 1) := by decide +kernel
theorem dL_law_412 : decode cL_law 412 = .ok (.aload_n 0, 1) := by decide +kernel
theorem dL_law_413 : decode cL_law 413 = .ok (.iload_n 3, 1) := by decide +kernel
theorem dL_law_414 : decode cL_law 414 = .ok (.iconst 1, 1) := by decide +kernel
theorem dL_law_415 : decode cL_law 415 = .ok (.iadd, 1) := by decide +kernel
theorem dL_law_416 : decode cL_law 416 = .ok (.iaload, 1) := by decide +kernel
theorem dL_law_417 : decode cL_law 417 = .ok (.aload_n 0, 1) := by decide +kernel
theorem dL_law_418 : decode cL_law 418 = .ok (.iload_n 3, 1) := by decide +kernel
theorem dL_law_419 : decode cL_law 419 = .ok (.iconst 2, 1) := by decide +kernel
theorem dL_law_420 : decode cL_law 420 = .ok (.iadd, 1) := by decide +kernel
theorem dL_law_421 : decode cL_law 421 = .ok (.iaload, 1) := by decide +kernel
theorem dL_law_422 : decode cL_law 422 = .ok (.invokevirtual 38, 3) := by decide +kernel
theorem dL_law_425 : decode cL_law 425 = .ok (.if_icmp .eq 993, 3) := by decide +kernel
theorem dL_law_428 : decode cL_law 428 = .ok (.iconst 0, 1) := by decide +kernel
theorem dL_law_429 : decode cL_law 429 = .ok (.ireturn, 1) := by decide +kernel
theorem dL_law_430 : decode cL_law 430 = .ok (.aload_n 1, 1) := by decide +kernel
theorem dL_law_431 : decode cL_law 431 = .ok (.aload_n 0, 1) := by decide +kernel
theorem dL_law_432 : decode cL_law 432 = .ok (.iload_n 3, 1) := by decide +kernel
theorem dL_law_433 : decode cL_law 433 = .ok (.iconst 1, 1) := by decide +kernel
theorem dL_law_434 : decode cL_law 434 = .ok (.iadd, 1) := by decide +kernel
theorem dL_law_435 : decode cL_law 435 = .ok (.iaload, 1) := by decide +kernel
theorem dL_law_436 : decode cL_law 436 = .ok (.invokevirtual 39, 3) := by decide +kernel
theorem dL_law_439 : decode cL_law 439 = .ok (.aload_n 2, 1) := by decide +kernel
theorem dL_law_440 : decode cL_law 440 = .ok (.aload_n 0, 1) := by decide +kernel
theorem dL_law_441 : decode cL_law 441 = .ok (.iload_n 3, 1) := by decide +kernel
theorem dL_law_442 : decode cL_law 442 = .ok (.iconst 1, 1) := by decide +kernel
theorem dL_law_443 : decode cL_law 443 = .ok (.iadd, 1) := by decide +kernel
theorem dL_law_444 : decode cL_law 444 = .ok (.iaload, 1) := by decide +kernel
theorem dL_law_445 : decode cL_law 445 = .ok (.invokevirtual 43, 3) := by decide +kernel
theorem dL_law_448 : decode cL_law 448 = .ok (.if_icmp .eq 970, 3) := by decide +kernel
theorem dL_law_451 : decode cL_law 451 = .ok (.iconst 0, 1) := by decide +kernel
theorem dL_law_452 : decode cL_law 452 = .ok (.ireturn, 1) := by decide +kernel
theorem dL_law_453 : decode cL_law 453 = .ok (.aload_n 1, 1) := by decide +kernel
theorem dL_law_454 : decode cL_law 454 = .ok (.aload_n 0, 1) := by decide +kernel
theorem dL_law_455 : decode cL_law 455 = .ok (.iload_n 3, 1) := by decide +kernel
theorem dL_law_456 : decode cL_law 456 = .ok (.iconst 1, 1) := by decide +kernel
theorem dL_law_457 : decode cL_law 457 = .ok (.iadd, 1) := by decide +kernel
theorem dL_law_458 : decode cL_law 458 = .ok (.iaload, 1) := by decide +kernel
theorem dL_law_459 : decode cL_law 459 = .ok (.invokevirtual 44, 3) := by decide +kernel
theorem dL_law_462 : decode cL_law 462 = .ok (.aload_n 2, 1) := by decide +kernel
theorem dL_law_463 : decode cL_law 463 = .ok (.aload_n 0, 1) := by decide +kernel
theorem dL_law_464 : decode cL_law 464 = .ok (.iload_n 3, 1) := by decide +kernel
theorem dL_law_465 : decode cL_law 465 = .ok (.iconst 1, 1) := by decide +kernel
theorem dL_law_466 : decode cL_law 466 = .ok (.iadd, 1) := by decide +kernel
theorem dL_law_467 : decode cL_law 467 = .ok (.iaload, 1) := by decide +kernel
theorem dL_law_468 : decode cL_law 468 = .ok (.invokevirtual 47, 3) := by decide +kernel
theorem dL_law_471 : decode cL_law 471 = .ok (.if_icmp .eq 947, 3) := by decide +kernel
theorem dL_law_474 : decode cL_law 474 = .ok (.iconst 0, 1) := by decide +kernel
theorem dL_law_475 : decode cL_law 475 = .ok (.ireturn, 1) := by decide +kernel
theorem dL_law_476 : decode cL_law 476 = .ok (.aload_n 1, 1) := by decide +kernel
theorem dL_law_477 : decode cL_law 477 = .ok (.aload_n 0, 1) := by decide +kernel
theorem dL_law_478 : decode cL_law 478 = .ok (.iload_n 3, 1) := by decide +kernel
theorem dL_law_479 : decode cL_law 479 = .ok (.iconst 1, 1) := by decide +kernel
theorem dL_law_480 : decode cL_law 480 = .ok (.iadd, 1) := by decide +kernel
theorem dL_law_481 : decode cL_law 481 = .ok (.iaload, 1) := by decide +kernel
theorem dL_law_482 : decode cL_law 482 = .ok (.i2l, 1) := by decide +kernel
theorem dL_law_483 : decode cL_law 483 = .ok (.bipush 32, 2) := by decide +kernel
theorem dL_law_485 : decode cL_law 485 = .ok (.lshl, 1) := by decide +kernel
theorem dL_law_486 : decode cL_law 486 = .ok (.aload_n 0, 1) := by decide +kernel
theorem dL_law_487 : decode cL_law 487 = .ok (.iload_n 3, 1) := by decide +kernel
theorem dL_law_488 : decode cL_law 488 = .ok (.iconst 2, 1) := by decide +kernel
theorem dL_law_489 : decode cL_law 489 = .ok (.iadd, 1) := by decide +kernel
theorem dL_law_490 : decode cL_law 490 = .ok (.iaload, 1) := by decide +kernel
theorem dL_law_491 : decode cL_law 491 = .ok (.i2l, 1) := by decide +kernel
theorem dL_law_492 : decode cL_law 492 = .ok (.ldc2_w 48, 3) := by decide +kernel
theorem dL_law_495 : decode cL_law 495 = .ok (.land, 1) := by decide +kernel
theorem dL_law_496 : decode cL_law 496 = .ok (.lor, 1) := by decide +kernel
theorem dL_law_497 : decode cL_law 497 = .ok (.aload_n 0, 1) := by decide +kernel
theorem dL_law_498 : decode cL_law 498 = .ok (.iload_n 3, 1) := by decide +kernel
theorem dL_law_499 : decode cL_law 499 = .ok (.iconst 3, 1) := by decide +kernel
theorem dL_law_500 : decode cL_law 500 = .ok (.iadd, 1) := by decide +kernel
theorem dL_law_501 : decode cL_law 501 = .ok (.iaload, 1) := by decide +kernel
theorem dL_law_502 : decode cL_law 502 = .ok (.invokevirtual 50, 3) := by decide +kernel
theorem dL_law_505 : decode cL_law 505 = .ok (.aload_n 2, 1) := by decide +kernel
theorem dL_law_506 : decode cL_law 506 = .ok (.aload_n 0, 1) := by decide +kernel
theorem dL_law_507 : decode cL_law 507 = .ok (.iload_n 3, 1) := by decide +kernel
theorem dL_law_508 : decode cL_law 508 = .ok (.iconst 1, 1) := by decide +kernel
theorem dL_law_509 : decode cL_law 509 = .ok (.iadd, 1) := by decide +kernel
theorem dL_law_510 : decode cL_law 510 = .ok (.iaload, 1) := by decide +kernel
theorem dL_law_511 : decode cL_law 511 = .ok (.i2l, 1) := by decide +kernel
theorem dL_law_512 : decode cL_law 512 = .ok (.bipush 32, 2) := by decide +kernel
theorem dL_law_514 : decode cL_law 514 = .ok (.lshl, 1) := by decide +kernel
theorem dL_law_515 : decode cL_law 515 = .ok (.aload_n 0, 1) := by decide +kernel
theorem dL_law_516 : decode cL_law 516 = .ok (.iload_n 3, 1) := by decide +kernel
theorem dL_law_517 : decode cL_law 517 = .ok (.iconst 2, 1) := by decide +kernel
theorem dL_law_518 : decode cL_law 518 = .ok (.iadd, 1) := by decide +kernel
theorem dL_law_519 : decode cL_law 519 = .ok (.iaload, 1) := by decide +kernel
theorem dL_law_520 : decode cL_law 520 = .ok (.i2l, 1) := by decide +kernel
theorem dL_law_521 : decode cL_law 521 = .ok (.ldc2_w 48, 3) := by decide +kernel
theorem dL_law_524 : decode cL_law 524 = .ok (.land, 1) := by decide +kernel
theorem dL_law_525 : decode cL_law 525 = .ok (.lor, 1) := by decide +kernel
theorem dL_law_526 : decode cL_law 526 = .ok (.aload_n 0, 1) := by decide +kernel
theorem dL_law_527 : decode cL_law 527 = .ok (.iload_n 3, 1) := by decide +kernel
theorem dL_law_528 : decode cL_law 528 = .ok (.iconst 3, 1) := by decide +kernel
theorem dL_law_529 : decode cL_law 529 = .ok (.iadd, 1) := by decide +kernel
theorem dL_law_530 : decode cL_law 530 = .ok (.iaload, 1) := by decide +kernel
theorem dL_law_531 : decode cL_law 531 = .ok (.invokevirtual 54, 3) := by decide +kernel
theorem dL_law_534 : decode cL_law 534 = .ok (.if_icmp .eq 884, 3) := by decide +kernel
theorem dL_law_537 : decode cL_law 537 = .ok (.iconst 0, 1) := by decide +kernel
theorem dL_law_538 : decode cL_law 538 = .ok (.ireturn, 1) := by decide +kernel
theorem dL_law_539 : decode cL_law 539 = .ok (.aload_n 1, 1) := by decide +kernel
theorem dL_law_540 : decode cL_law 540 = .ok (.aload_n 0, 1) := by decide +kernel
theorem dL_law_541 : decode cL_law 541 = .ok (.iload_n 3, 1) := by decide +kernel
theorem dL_law_542 : decode cL_law 542 = .ok (.iconst 1, 1) := by decide +kernel
theorem dL_law_543 : decode cL_law 543 = .ok (.iadd, 1) := by decide +kernel
theorem dL_law_544 : decode cL_law 544 = .ok (.iaload, 1) := by decide +kernel
theorem dL_law_545 : decode cL_law 545 = .ok (.invokevirtual 55, 3) := by decide +kernel
theorem dL_law_548 : decode cL_law 548 = .ok (.aload_n 2, 1) := by decide +kernel
theorem dL_law_549 : decode cL_law 549 = .ok (.aload_n 0, 1) := by decide +kernel
theorem dL_law_550 : decode cL_law 550 = .ok (.iload_n 3, 1) := by decide +kernel
theorem dL_law_551 : decode cL_law 551 = .ok (.iconst 1, 1) := by decide +kernel
theorem dL_law_552 : decode cL_law 552 = .ok (.iadd, 1) := by decide +kernel
theorem dL_law_553 : decode cL_law 553 = .ok (.iaload, 1) := by decide +kernel
theorem dL_law_554 : decode cL_law 554 = .ok (.invokevirtual 58, 3) := by decide +kernel
theorem dL_law_557 : decode cL_law 557 = .ok (.if_icmp .eq 861, 3) := by decide +kernel
theorem dL_law_560 : decode cL_law 560 = .ok (.iconst 0, 1) := by decide +kernel
theorem dL_law_561 : decode cL_law 561 = .ok (.ireturn, 1) := by decide +kernel
theorem dL_law_562 : decode cL_law 562 = .ok (.aload_n 1, 1) := by decide +kernel
theorem dL_law_563 : decode cL_law 563 = .ok (.aload_n 0, 1) := by decide +kernel
theorem dL_law_564 : decode cL_law 564 = .ok (.iload_n 3, 1) := by decide +kernel
theorem dL_law_565 : decode cL_law 565 = .ok (.iconst 1, 1) := by decide +kernel
theorem dL_law_566 : decode cL_law 566 = .ok (.iadd, 1) := by decide +kernel
theorem dL_law_567 : decode cL_law 567 = .ok (.iaload, 1) := by decide +kernel
theorem dL_law_568 : decode cL_law 568 = .ok (.invokevirtual 59, 3) := by decide +kernel
theorem dL_law_571 : decode cL_law 571 = .ok (.aload_n 2, 1) := by decide +kernel
theorem dL_law_572 : decode cL_law 572 = .ok (.aload_n 0, 1) := by decide +kernel
theorem dL_law_573 : decode cL_law 573 = .ok (.iload_n 3, 1) := by decide +kernel
theorem dL_law_574 : decode cL_law 574 = .ok (.iconst 1, 1) := by decide +kernel
theorem dL_law_575 : decode cL_law 575 = .ok (.iadd, 1) := by decide +kernel
theorem dL_law_576 : decode cL_law 576 = .ok (.iaload, 1) := by decide +kernel
theorem dL_law_577 : decode cL_law 577 = .ok (.invokevirtual 62, 3) := by decide +kernel
theorem dL_law_580 : decode cL_law 580 = .ok (.if_icmp .eq 838, 3) := by decide +kernel
theorem dL_law_583 : decode cL_law 583 = .ok (.iconst 0, 1) := by decide +kernel
theorem dL_law_584 : decode cL_law 584 = .ok (.ireturn, 1) := by decide +kernel
theorem dL_law_585 : decode cL_law 585 = .ok (.aload_n 1, 1) := by decide +kernel
theorem dL_law_586 : decode cL_law 586 = .ok (.aload_n 0, 1) := by decide +kernel
theorem dL_law_587 : decode cL_law 587 = .ok (.iload_n 3, 1) := by decide +kernel
theorem dL_law_588 : decode cL_law 588 = .ok (.iconst 1, 1) := by decide +kernel
theorem dL_law_589 : decode cL_law 589 = .ok (.iadd, 1) := by decide +kernel
theorem dL_law_590 : decode cL_law 590 = .ok (.iaload, 1) := by decide +kernel
theorem dL_law_591 : decode cL_law 591 = .ok (.aload_n 0, 1) := by decide +kernel
theorem dL_law_592 : decode cL_law 592 = .ok (.iload_n 3, 1) := by decide +kernel
theorem dL_law_593 : decode cL_law 593 = .ok (.iconst 2, 1) := by decide +kernel
theorem dL_law_594 : decode cL_law 594 = .ok (.iadd, 1) := by decide +kernel
theorem dL_law_595 : decode cL_law 595 = .ok (.iaload, 1) := by decide +kernel
theorem dL_law_596 : decode cL_law 596 = .ok (.aload_n 0, 1) := by decide +kernel
theorem dL_law_597 : decode cL_law 597 = .ok (.iload_n 3, 1) := by decide +kernel
theorem dL_law_598 : decode cL_law 598 = .ok (.iconst 3, 1) := by decide +kernel
theorem dL_law_599 : decode cL_law 599 = .ok (.iadd, 1) := by decide +kernel
theorem dL_law_600 : decode cL_law 600 = .ok (.iaload, 1) := by decide +kernel
theorem dL_law_601 : decode cL_law 601 = .ok (.aload_n 0, 1) := by decide +kernel
theorem dL_law_602 : decode cL_law 602 = .ok (.iload_n 3, 1) := by decide +kernel
theorem dL_law_603 : decode cL_law 603 = .ok (.iconst 4, 1) := by decide +kernel
theorem dL_law_604 : decode cL_law 604 = .ok (.iadd, 1) := by decide +kernel
theorem dL_law_605 : decode cL_law 605 = .ok (.iaload, 1) := by decide +kernel
theorem dL_law_606 : decode cL_law 606 = .ok (.invokevirtual 63, 3) := by decide +kernel
theorem dL_law_609 : decode cL_law 609 = .ok (.aload_n 2, 1) := by decide +kernel
theorem dL_law_610 : decode cL_law 610 = .ok (.aload_n 0, 1) := by decide +kernel
theorem dL_law_611 : decode cL_law 611 = .ok (.iload_n 3, 1) := by decide +kernel
theorem dL_law_612 : decode cL_law 612 = .ok (.iconst 1, 1) := by decide +kernel
theorem dL_law_613 : decode cL_law 613 = .ok (.iadd, 1) := by decide +kernel
theorem dL_law_614 : decode cL_law 614 = .ok (.iaload, 1) := by decide +kernel
theorem dL_law_615 : decode cL_law 615 = .ok (.aload_n 0, 1) := by decide +kernel
theorem dL_law_616 : decode cL_law 616 = .ok (.iload_n 3, 1) := by decide +kernel
theorem dL_law_617 : decode cL_law 617 = .ok (.iconst 2, 1) := by decide +kernel
theorem dL_law_618 : decode cL_law 618 = .ok (.iadd, 1) := by decide +kernel
theorem dL_law_619 : decode cL_law 619 = .ok (.iaload, 1) := by decide +kernel
theorem dL_law_620 : decode cL_law 620 = .ok (.aload_n 0, 1) := by decide +kernel
theorem dL_law_621 : decode cL_law 621 = .ok (.iload_n 3, 1) := by decide +kernel
theorem dL_law_622 : decode cL_law 622 = .ok (.iconst 3, 1) := by decide +kernel
theorem dL_law_623 : decode cL_law 623 = .ok (.iadd, 1) := by decide +kernel
theorem dL_law_624 : decode cL_law 624 = .ok (.iaload, 1) := by decide +kernel
theorem dL_law_625 : decode cL_law 625 = .ok (.aload_n 0, 1) := by decide +kernel
theorem dL_law_626 : decode cL_law 626 = .ok (.iload_n 3, 1) := by decide +kernel
theorem dL_law_627 : decode cL_law 627 = .ok (.iconst 4, 1) := by decide +kernel
theorem dL_law_628 : decode cL_law 628 = .ok (.iadd, 1) := by decide +kernel
theorem dL_law_629 : decode cL_law 629 = .ok (.iaload, 1) := by decide +kernel
theorem dL_law_630 : decode cL_law 630 = .ok (.invokevirtual 66, 3) := by decide +kernel
theorem dL_law_633 : decode cL_law 633 = .ok (.if_icmp .eq 785, 3) := by decide +kernel
theorem dL_law_636 : decode cL_law 636 = .ok (.iconst 0, 1) := by decide +kernel
theorem dL_law_637 : decode cL_law 637 = .ok (.ireturn, 1) := by decide +kernel
theorem dL_law_638 : decode cL_law 638 = .ok (.aload_n 1, 1) := by decide +kernel
theorem dL_law_639 : decode cL_law 639 = .ok (.aload_n 0, 1) := by decide +kernel
theorem dL_law_640 : decode cL_law 640 = .ok (.iload_n 3, 1) := by decide +kernel
theorem dL_law_641 : decode cL_law 641 = .ok (.iconst 1, 1) := by decide +kernel
theorem dL_law_642 : decode cL_law 642 = .ok (.iadd, 1) := by decide +kernel
theorem dL_law_643 : decode cL_law 643 = .ok (.iaload, 1) := by decide +kernel
theorem dL_law_644 : decode cL_law 644 = .ok (.invokevirtual 67, 3) := by decide +kernel
theorem dL_law_647 : decode cL_law 647 = .ok (.aload_n 2, 1) := by decide +kernel
theorem dL_law_648 : decode cL_law 648 = .ok (.aload_n 0, 1) := by decide +kernel
theorem dL_law_649 : decode cL_law 649 = .ok (.iload_n 3, 1) := by decide +kernel
theorem dL_law_650 : decode cL_law 650 = .ok (.iconst 1, 1) := by decide +kernel
theorem dL_law_651 : decode cL_law 651 = .ok (.iadd, 1) := by decide +kernel
theorem dL_law_652 : decode cL_law 652 = .ok (.iaload, 1) := by decide +kernel
theorem dL_law_653 : decode cL_law 653 = .ok (.invokevirtual 70, 3) := by decide +kernel
theorem dL_law_656 : decode cL_law 656 = .ok (.if_icmp .eq 762, 3) := by decide +kernel
theorem dL_law_659 : decode cL_law 659 = .ok (.iconst 0, 1) := by decide +kernel
theorem dL_law_660 : decode cL_law 660 = .ok (.ireturn, 1) := by decide +kernel
theorem dL_law_661 : decode cL_law 661 = .ok (.aload_n 1, 1) := by decide +kernel
theorem dL_law_662 : decode cL_law 662 = .ok (.aload_n 0, 1) := by decide +kernel
theorem dL_law_663 : decode cL_law 663 = .ok (.iload_n 3, 1) := by decide +kernel
theorem dL_law_664 : decode cL_law 664 = .ok (.iconst 1, 1) := by decide +kernel
theorem dL_law_665 : decode cL_law 665 = .ok (.iadd, 1) := by decide +kernel
theorem dL_law_666 : decode cL_law 666 = .ok (.iaload, 1) := by decide +kernel
theorem dL_law_667 : decode cL_law 667 = .ok (.invokevirtual 71, 3) := by decide +kernel
theorem dL_law_670 : decode cL_law 670 = .ok (.aload_n 2, 1) := by decide +kernel
theorem dL_law_671 : decode cL_law 671 = .ok (.aload_n 0, 1) := by decide +kernel
theorem dL_law_672 : decode cL_law 672 = .ok (.iload_n 3, 1) := by decide +kernel
theorem dL_law_673 : decode cL_law 673 = .ok (.iconst 1, 1) := by decide +kernel
theorem dL_law_674 : decode cL_law 674 = .ok (.iadd, 1) := by decide +kernel
theorem dL_law_675 : decode cL_law 675 = .ok (.iaload, 1) := by decide +kernel
theorem dL_law_676 : decode cL_law 676 = .ok (.invokevirtual 74, 3) := by decide +kernel
theorem dL_law_679 : decode cL_law 679 = .ok (.if_icmp .eq 739, 3) := by decide +kernel
theorem dL_law_682 : decode cL_law 682 = .ok (.iconst 0, 1) := by decide +kernel
theorem dL_law_683 : decode cL_law 683 = .ok (.ireturn, 1) := by decide +kernel
theorem dL_law_684 : decode cL_law 684 = .ok (.aload_n 1, 1) := by decide +kernel
theorem dL_law_685 : decode cL_law 685 = .ok (.aload_n 0, 1) := by decide +kernel
theorem dL_law_686 : decode cL_law 686 = .ok (.iload_n 3, 1) := by decide +kernel
theorem dL_law_687 : decode cL_law 687 = .ok (.iconst 1, 1) := by decide +kernel
theorem dL_law_688 : decode cL_law 688 = .ok (.iadd, 1) := by decide +kernel
theorem dL_law_689 : decode cL_law 689 = .ok (.iaload, 1) := by decide +kernel
theorem dL_law_690 : decode cL_law 690 = .ok (.invokevirtual 75, 3) := by decide +kernel
theorem dL_law_693 : decode cL_law 693 = .ok (.aload_n 2, 1) := by decide +kernel
theorem dL_law_694 : decode cL_law 694 = .ok (.aload_n 0, 1) := by decide +kernel
theorem dL_law_695 : decode cL_law 695 = .ok (.iload_n 3, 1) := by decide +kernel
theorem dL_law_696 : decode cL_law 696 = .ok (.iconst 1, 1) := by decide +kernel
theorem dL_law_697 : decode cL_law 697 = .ok (.iadd, 1) := by decide +kernel
theorem dL_law_698 : decode cL_law 698 = .ok (.iaload, 1) := by decide +kernel
theorem dL_law_699 : decode cL_law 699 = .ok (.invokevirtual 78, 3) := by decide +kernel
theorem dL_law_702 : decode cL_law 702 = .ok (.if_icmp .eq 716, 3) := by decide +kernel
theorem dL_law_705 : decode cL_law 705 = .ok (.iconst 0, 1) := by decide +kernel
theorem dL_law_706 : decode cL_law 706 = .ok (.ireturn, 1) := by decide +kernel
theorem dL_law_707 : decode cL_law 707 = .ok (.aload_n 1, 1) := by decide +kernel
theorem dL_law_708 : decode cL_law 708 = .ok (.aload_n 0, 1) := by decide +kernel
theorem dL_law_709 : decode cL_law 709 = .ok (.iload_n 3, 1) := by decide +kernel
theorem dL_law_710 : decode cL_law 710 = .ok (.iconst 1, 1) := by decide +kernel
theorem dL_law_711 : decode cL_law 711 = .ok (.iadd, 1) := by decide +kernel
theorem dL_law_712 : decode cL_law 712 = .ok (.iaload, 1) := by decide +kernel
theorem dL_law_713 : decode cL_law 713 = .ok (.invokevirtual 79, 3) := by decide +kernel
theorem dL_law_716 : decode cL_law 716 = .ok (.aload_n 2, 1) := by decide +kernel
theorem dL_law_717 : decode cL_law 717 = .ok (.aload_n 0, 1) := by decide +kernel
theorem dL_law_718 : decode cL_law 718 = .ok (.iload_n 3, 1) := by decide +kernel
theorem dL_law_719 : decode cL_law 719 = .ok (.iconst 1, 1) := by decide +kernel
theorem dL_law_720 : decode cL_law 720 = .ok (.iadd, 1) := by decide +kernel
theorem dL_law_721 : decode cL_law 721 = .ok (.iaload, 1) := by decide +kernel
theorem dL_law_722 : decode cL_law 722 = .ok (.invokevirtual 82, 3) := by decide +kernel
theorem dL_law_725 : decode cL_law 725 = .ok (.if_icmp .eq 693, 3) := by decide +kernel
theorem dL_law_728 : decode cL_law 728 = .ok (.iconst 0, 1) := by decide +kernel
theorem dL_law_729 : decode cL_law 729 = .ok (.ireturn, 1) := by decide +kernel
theorem dL_law_730 : decode cL_law 730 = .ok (.aload_n 1, 1) := by decide +kernel
theorem dL_law_731 : decode cL_law 731 = .ok (.aload_n 0, 1) := by decide +kernel
theorem dL_law_732 : decode cL_law 732 = .ok (.iload_n 3, 1) := by decide +kernel
theorem dL_law_733 : decode cL_law 733 = .ok (.iconst 1, 1) := by decide +kernel
theorem dL_law_734 : decode cL_law 734 = .ok (.iadd, 1) := by decide +kernel
theorem dL_law_735 : decode cL_law 735 = .ok (.iaload, 1) := by decide +kernel
theorem dL_law_736 : decode cL_law 736 = .ok (.aload_n 0, 1) := by decide +kernel
theorem dL_law_737 : decode cL_law 737 = .ok (.iload_n 3, 1) := by decide +kernel
theorem dL_law_738 : decode cL_law 738 = .ok (.iconst 2, 1) := by decide +kernel
theorem dL_law_739 : decode cL_law 739 = .ok (.iadd, 1) := by decide +kernel
theorem dL_law_740 : decode cL_law 740 = .ok (.iaload, 1) := by decide +kernel
theorem dL_law_741 : decode cL_law 741 = .ok (.invokevirtual 83, 3) := by decide +kernel
theorem dL_law_744 : decode cL_law 744 = .ok (.aload_n 2, 1) := by decide +kernel
theorem dL_law_745 : decode cL_law 745 = .ok (.aload_n 0, 1) := by decide +kernel
theorem dL_law_746 : decode cL_law 746 = .ok (.iload_n 3, 1) := by decide +kernel
theorem dL_law_747 : decode cL_law 747 = .ok (.iconst 1, 1) := by decide +kernel
theorem dL_law_748 : decode cL_law 748 = .ok (.iadd, 1) := by decide +kernel
theorem dL_law_749 : decode cL_law 749 = .ok (.iaload, 1) := by decide +kernel
theorem dL_law_750 : decode cL_law 750 = .ok (.aload_n 0, 1) := by decide +kernel
theorem dL_law_751 : decode cL_law 751 = .ok (.iload_n 3, 1) := by decide +kernel
theorem dL_law_752 : decode cL_law 752 = .ok (.iconst 2, 1) := by decide +kernel
theorem dL_law_753 : decode cL_law 753 = .ok (.iadd, 1) := by decide +kernel
theorem dL_law_754 : decode cL_law 754 = .ok (.iaload, 1) := by decide +kernel
theorem dL_law_755 : decode cL_law 755 = .ok (.invokevirtual 87, 3) := by decide +kernel
theorem dL_law_758 : decode cL_law 758 = .ok (.lcmp, 1) := by decide +kernel
theorem dL_law_759 : decode cL_law 759 = .ok (.ifCond .eq 659, 3) := by decide +kernel
theorem dL_law_762 : decode cL_law 762 = .ok (.iconst 0, 1) := by decide +kernel
theorem dL_law_763 : decode cL_law 763 = .ok (.ireturn, 1) := by decide +kernel
theorem dL_law_764 : decode cL_law 764 = .ok (.aload_n 1, 1) := by decide +kernel
theorem dL_law_765 : decode cL_law 765 = .ok (.aload_n 0, 1) := by decide +kernel
theorem dL_law_766 : decode cL_law 766 = .ok (.iload_n 3, 1) := by decide +kernel
theorem dL_law_767 : decode cL_law 767 = .ok (.iconst 1, 1) := by decide +kernel
theorem dL_law_768 : decode cL_law 768 = .ok (.iadd, 1) := by decide +kernel
theorem dL_law_769 : decode cL_law 769 = .ok (.iaload, 1) := by decide +kernel
theorem dL_law_770 : decode cL_law 770 = .ok (.aload_n 0, 1) := by decide +kernel
theorem dL_law_771 : decode cL_law 771 = .ok (.iload_n 3, 1) := by decide +kernel
theorem dL_law_772 : decode cL_law 772 = .ok (.iconst 2, 1) := by decide +kernel
theorem dL_law_773 : decode cL_law 773 = .ok (.iadd, 1) := by decide +kernel
theorem dL_law_774 : decode cL_law 774 = .ok (.iaload, 1) := by decide +kernel
theorem dL_law_775 : decode cL_law 775 = .ok (.invokevirtual 88, 3) := by decide +kernel
theorem dL_law_778 : decode cL_law 778 = .ok (.aload_n 2, 1) := by decide +kernel
theorem dL_law_779 : decode cL_law 779 = .ok (.aload_n 0, 1) := by decide +kernel
theorem dL_law_780 : decode cL_law 780 = .ok (.iload_n 3, 1) := by decide +kernel
theorem dL_law_781 : decode cL_law 781 = .ok (.iconst 1, 1) := by decide +kernel
theorem dL_law_782 : decode cL_law 782 = .ok (.iadd, 1) := by decide +kernel
theorem dL_law_783 : decode cL_law 783 = .ok (.iaload, 1) := by decide +kernel
theorem dL_law_784 : decode cL_law 784 = .ok (.aload_n 0, 1) := by decide +kernel
theorem dL_law_785 : decode cL_law 785 = .ok (.iload_n 3, 1) := by decide +kernel
theorem dL_law_786 : decode cL_law 786 = .ok (.iconst 2, 1) := by decide +kernel
theorem dL_law_787 : decode cL_law 787 = .ok (.iadd, 1) := by decide +kernel
theorem dL_law_788 : decode cL_law 788 = .ok (.iaload, 1) := by decide +kernel
theorem dL_law_789 : decode cL_law 789 = .ok (.invokevirtual 91, 3) := by decide +kernel
theorem dL_law_792 : decode cL_law 792 = .ok (.lcmp, 1) := by decide +kernel
theorem dL_law_793 : decode cL_law 793 = .ok (.ifCond .eq 625, 3) := by decide +kernel
theorem dL_law_796 : decode cL_law 796 = .ok (.iconst 0, 1) := by decide +kernel
theorem dL_law_797 : decode cL_law 797 = .ok (.ireturn, 1) := by decide +kernel
theorem dL_law_798 : decode cL_law 798 = .ok (.aload_n 1, 1) := by decide +kernel
theorem dL_law_799 : decode cL_law 799 = .ok (.aload_n 0, 1) := by decide +kernel
theorem dL_law_800 : decode cL_law 800 = .ok (.iload_n 3, 1) := by decide +kernel
theorem dL_law_801 : decode cL_law 801 = .ok (.iconst 1, 1) := by decide +kernel
theorem dL_law_802 : decode cL_law 802 = .ok (.iadd, 1) := by decide +kernel
theorem dL_law_803 : decode cL_law 803 = .ok (.iaload, 1) := by decide +kernel
theorem dL_law_804 : decode cL_law 804 = .ok (.invokevirtual 92, 3) := by decide +kernel
theorem dL_law_807 : decode cL_law 807 = .ok (.aload_n 2, 1) := by decide +kernel
theorem dL_law_808 : decode cL_law 808 = .ok (.aload_n 0, 1) := by decide +kernel
theorem dL_law_809 : decode cL_law 809 = .ok (.iload_n 3, 1) := by decide +kernel
theorem dL_law_810 : decode cL_law 810 = .ok (.iconst 1, 1) := by decide +kernel
theorem dL_law_811 : decode cL_law 811 = .ok (.iadd, 1) := by decide +kernel
theorem dL_law_812 : decode cL_law 812 = .ok (.iaload, 1) := by decide +kernel
theorem dL_law_813 : decode cL_law 813 = .ok (.invokevirtual 96, 3) := by decide +kernel
theorem dL_law_816 : decode cL_law 816 = .ok (.lcmp, 1) := by decide +kernel
theorem dL_law_817 : decode cL_law 817 = .ok (.ifCond .eq 601, 3) := by decide +kernel
theorem dL_law_820 : decode cL_law 820 = .ok (.iconst 0, 1) := by decide +kernel
theorem dL_law_821 : decode cL_law 821 = .ok (.ireturn, 1) := by decide +kernel
theorem dL_law_822 : decode cL_law 822 = .ok (.aload_n 1, 1) := by decide +kernel
theorem dL_law_823 : decode cL_law 823 = .ok (.invokevirtual 97, 3) := by decide +kernel
theorem dL_law_826 : decode cL_law 826 = .ok (.aload_n 2, 1) := by decide +kernel
theorem dL_law_827 : decode cL_law 827 = .ok (.invokevirtual 101, 3) := by decide +kernel
theorem dL_law_830 : decode cL_law 830 = .ok (.if_icmp .eq 588, 3) := by decide +kernel
theorem dL_law_833 : decode cL_law 833 = .ok (.iconst 0, 1) := by decide +kernel
theorem dL_law_834 : decode cL_law 834 = .ok (.ireturn, 1) := by decide +kernel
theorem dL_law_835 : decode cL_law 835 = .ok (.aload_n 1, 1) := by decide +kernel
theorem dL_law_836 : decode cL_law 836 = .ok (.invokevirtual 102, 3) := by decide +kernel
theorem dL_law_839 : decode cL_law 839 = .ok (.aload_n 2, 1) := by decide +kernel
theorem dL_law_840 : decode cL_law 840 = .ok (.invokevirtual 105, 3) := by decide +kernel
theorem dL_law_843 : decode cL_law 843 = .ok (.if_icmp .eq 575, 3) := by decide +kernel
theorem dL_law_846 : decode cL_law 846 = .ok (.iconst 0, 1) := by decide +kernel
theorem dL_law_847 : decode cL_law 847 = .ok (.ireturn, 1) := by decide +kernel
theorem dL_law_848 : decode cL_law 848 = .ok (.aload_n 1, 1) := by decide +kernel
theorem dL_law_849 : decode cL_law 849 = .ok (.invokevirtual 106, 3) := by decide +kernel
theorem dL_law_852 : decode cL_law 852 = .ok (.aload_n 2, 1) := by decide +kernel
theorem dL_law_853 : decode cL_law 853 = .ok (.invokevirtual 109, 3) := by decide +kernel
theorem dL_law_856 : decode cL_law 856 = .ok (.if_icmp .eq 562, 3) := by decide +kernel
theorem dL_law_859 : decode cL_law 859 = .ok (.iconst 0, 1) := by decide +kernel
theorem dL_law_860 : decode cL_law 860 = .ok (.ireturn, 1) := by decide +kernel
theorem dL_law_861 : decode cL_law 861 = .ok (.aload_n 1, 1) := by decide +kernel
theorem dL_law_862 : decode cL_law 862 = .ok (.aload_n 0, 1) := by decide +kernel
theorem dL_law_863 : decode cL_law 863 = .ok (.iload_n 3, 1) := by decide +kernel
theorem dL_law_864 : decode cL_law 864 = .ok (.iconst 1, 1) := by decide +kernel
theorem dL_law_865 : decode cL_law 865 = .ok (.iadd, 1) := by decide +kernel
theorem dL_law_866 : decode cL_law 866 = .ok (.iaload, 1) := by decide +kernel
theorem dL_law_867 : decode cL_law 867 = .ok (.aload_n 0, 1) := by decide +kernel
theorem dL_law_868 : decode cL_law 868 = .ok (.iload_n 3, 1) := by decide +kernel
theorem dL_law_869 : decode cL_law 869 = .ok (.iconst 2, 1) := by decide +kernel
theorem dL_law_870 : decode cL_law 870 = .ok (.iadd, 1) := by decide +kernel
theorem dL_law_871 : decode cL_law 871 = .ok (.iaload, 1) := by decide +kernel
theorem dL_law_872 : decode cL_law 872 = .ok (.invokevirtual 110, 3) := by decide +kernel
theorem dL_law_875 : decode cL_law 875 = .ok (.aload_n 2, 1) := by decide +kernel
theorem dL_law_876 : decode cL_law 876 = .ok (.aload_n 0, 1) := by decide +kernel
theorem dL_law_877 : decode cL_law 877 = .ok (.iload_n 3, 1) := by decide +kernel
theorem dL_law_878 : decode cL_law 878 = .ok (.iconst 1, 1) := by decide +kernel
theorem dL_law_879 : decode cL_law 879 = .ok (.iadd, 1) := by decide +kernel
theorem dL_law_880 : decode cL_law 880 = .ok (.iaload, 1) := by decide +kernel
theorem dL_law_881 : decode cL_law 881 = .ok (.aload_n 0, 1) := by decide +kernel
theorem dL_law_882 : decode cL_law 882 = .ok (.iload_n 3, 1) := by decide +kernel
theorem dL_law_883 : decode cL_law 883 = .ok (.iconst 2, 1) := by decide +kernel
theorem dL_law_884 : decode cL_law 884 = .ok (.iadd, 1) := by decide +kernel
theorem dL_law_885 : decode cL_law 885 = .ok (.iaload, 1) := by decide +kernel
theorem dL_law_886 : decode cL_law 886 = .ok (.invokevirtual 113, 3) := by decide +kernel
theorem dL_law_889 : decode cL_law 889 = .ok (.if_icmp .eq 529, 3) := by decide +kernel
theorem dL_law_892 : decode cL_law 892 = .ok (.iconst 0, 1) := by decide +kernel
theorem dL_law_893 : decode cL_law 893 = .ok (.ireturn, 1) := by decide +kernel
theorem dL_law_894 : decode cL_law 894 = .ok (.aload_n 1, 1) := by decide +kernel
theorem dL_law_895 : decode cL_law 895 = .ok (.aload_n 0, 1) := by decide +kernel
theorem dL_law_896 : decode cL_law 896 = .ok (.iload_n 3, 1) := by decide +kernel
theorem dL_law_897 : decode cL_law 897 = .ok (.iconst 1, 1) := by decide +kernel
theorem dL_law_898 : decode cL_law 898 = .ok (.iadd, 1) := by decide +kernel
theorem dL_law_899 : decode cL_law 899 = .ok (.iaload, 1) := by decide +kernel
theorem dL_law_900 : decode cL_law 900 = .ok (.invokevirtual 114, 3) := by decide +kernel
theorem dL_law_903 : decode cL_law 903 = .ok (.aload_n 2, 1) := by decide +kernel
theorem dL_law_904 : decode cL_law 904 = .ok (.aload_n 0, 1) := by decide +kernel
theorem dL_law_905 : decode cL_law 905 = .ok (.iload_n 3, 1) := by decide +kernel
theorem dL_law_906 : decode cL_law 906 = .ok (.iconst 1, 1) := by decide +kernel
theorem dL_law_907 : decode cL_law 907 = .ok (.iadd, 1) := by decide +kernel
theorem dL_law_908 : decode cL_law 908 = .ok (.iaload, 1) := by decide +kernel
theorem dL_law_909 : decode cL_law 909 = .ok (.invokevirtual 117, 3) := by decide +kernel
theorem dL_law_912 : decode cL_law 912 = .ok (.if_icmp .eq 506, 3) := by decide +kernel
theorem dL_law_915 : decode cL_law 915 = .ok (.iconst 0, 1) := by decide +kernel
theorem dL_law_916 : decode cL_law 916 = .ok (.ireturn, 1) := by decide +kernel
theorem dL_law_917 : decode cL_law 917 = .ok (.aload_n 1, 1) := by decide +kernel
theorem dL_law_918 : decode cL_law 918 = .ok (.aload_n 0, 1) := by decide +kernel
theorem dL_law_919 : decode cL_law 919 = .ok (.iload_n 3, 1) := by decide +kernel
theorem dL_law_920 : decode cL_law 920 = .ok (.iconst 1, 1) := by decide +kernel
theorem dL_law_921 : decode cL_law 921 = .ok (.iadd, 1) := by decide +kernel
theorem dL_law_922 : decode cL_law 922 = .ok (.iaload, 1) := by decide +kernel
theorem dL_law_923 : decode cL_law 923 = .ok (.invokevirtual 118, 3) := by decide +kernel
theorem dL_law_926 : decode cL_law 926 = .ok (.aload_n 2, 1) := by decide +kernel
theorem dL_law_927 : decode cL_law 927 = .ok (.aload_n 0, 1) := by decide +kernel
theorem dL_law_928 : decode cL_law 928 = .ok (.iload_n 3, 1) := by decide +kernel
theorem dL_law_929 : decode cL_law 929 = .ok (.iconst 1, 1) := by decide +kernel
theorem dL_law_930 : decode cL_law 930 = .ok (.iadd, 1) := by decide +kernel
theorem dL_law_931 : decode cL_law 931 = .ok (.iaload, 1) := by decide +kernel
theorem dL_law_932 : decode cL_law 932 = .ok (.invokevirtual 121, 3) := by decide +kernel
theorem dL_law_935 : decode cL_law 935 = .ok (.if_icmp .eq 483, 3) := by decide +kernel
theorem dL_law_938 : decode cL_law 938 = .ok (.iconst 0, 1) := by decide +kernel
theorem dL_law_939 : decode cL_law 939 = .ok (.ireturn, 1) := by decide +kernel
theorem dL_law_940 : decode cL_law 940 = .ok (.aload_n 1, 1) := by decide +kernel
theorem dL_law_941 : decode cL_law 941 = .ok (.aload_n 0, 1) := by decide +kernel
theorem dL_law_942 : decode cL_law 942 = .ok (.iload_n 3, 1) := by decide +kernel
theorem dL_law_943 : decode cL_law 943 = .ok (.iconst 1, 1) := by decide +kernel
theorem dL_law_944 : decode cL_law 944 = .ok (.iadd, 1) := by decide +kernel
theorem dL_law_945 : decode cL_law 945 = .ok (.iaload, 1) := by decide +kernel
theorem dL_law_946 : decode cL_law 946 = .ok (.invokevirtual 122, 3) := by decide +kernel
theorem dL_law_949 : decode cL_law 949 = .ok (.aload_n 2, 1) := by decide +kernel
theorem dL_law_950 : decode cL_law 950 = .ok (.aload_n 0, 1) := by decide +kernel
theorem dL_law_951 : decode cL_law 951 = .ok (.iload_n 3, 1) := by decide +kernel
theorem dL_law_952 : decode cL_law 952 = .ok (.iconst 1, 1) := by decide +kernel
theorem dL_law_953 : decode cL_law 953 = .ok (.iadd, 1) := by decide +kernel
theorem dL_law_954 : decode cL_law 954 = .ok (.iaload, 1) := by decide +kernel
theorem dL_law_955 : decode cL_law 955 = .ok (.invokevirtual 125, 3) := by decide +kernel
theorem dL_law_958 : decode cL_law 958 = .ok (.if_icmp .eq 460, 3) := by decide +kernel
theorem dL_law_961 : decode cL_law 961 = .ok (.iconst 0, 1) := by decide +kernel
theorem dL_law_962 : decode cL_law 962 = .ok (.ireturn, 1) := by decide +kernel
theorem dL_law_963 : decode cL_law 963 = .ok (.aload_n 1, 1) := by decide +kernel
theorem dL_law_964 : decode cL_law 964 = .ok (.aload_n 0, 1) := by decide +kernel
theorem dL_law_965 : decode cL_law 965 = .ok (.iload_n 3, 1) := by decide +kernel
theorem dL_law_966 : decode cL_law 966 = .ok (.iconst 1, 1) := by decide +kernel
theorem dL_law_967 : decode cL_law 967 = .ok (.iadd, 1) := by decide +kernel
theorem dL_law_968 : decode cL_law 968 = .ok (.iaload, 1) := by decide +kernel
theorem dL_law_969 : decode cL_law 969 = .ok (.aload_n 0, 1) := by decide +kernel
theorem dL_law_970 : decode cL_law 970 = .ok (.iload_n 3, 1) := by decide +kernel
theorem dL_law_971 : decode cL_law 971 = .ok (.iconst 2, 1) := by decide +kernel
theorem dL_law_972 : decode cL_law 972 = .ok (.iadd, 1) := by decide +kernel
theorem dL_law_973 : decode cL_law 973 = .ok (.iaload, 1) := by decide +kernel
theorem dL_law_974 : decode cL_law 974 = .ok (.aload_n 0, 1) := by decide +kernel
theorem dL_law_975 : decode cL_law 975 = .ok (.iload_n 3, 1) := by decide +kernel
theorem dL_law_976 : decode cL_law 976 = .ok (.iconst 3, 1) := by decide +kernel
theorem dL_law_977 : decode cL_law 977 = .ok (.iadd, 1) := by decide +kernel
theorem dL_law_978 : decode cL_law 978 = .ok (.iaload, 1) := by decide +kernel
theorem dL_law_979 : decode cL_law 979 = .ok (.invokevirtual 126, 3) := by decide +kernel
theorem dL_law_982 : decode cL_law 982 = .ok (.aload_n 2, 1) := by decide +kernel
theorem dL_law_983 : decode cL_law 983 = .ok (.aload_n 0, 1) := by decide +kernel
theorem dL_law_984 : decode cL_law 984 = .ok (.iload_n 3, 1) := by decide +kernel
theorem dL_law_985 : decode cL_law 985 = .ok (.iconst 1, 1) := by decide +kernel
theorem dL_law_986 : decode cL_law 986 = .ok (.iadd, 1) := by decide +kernel
theorem dL_law_987 : decode cL_law 987 = .ok (.iaload, 1) := by decide +kernel
theorem dL_law_988 : decode cL_law 988 = .ok (.aload_n 0, 1) := by decide +kernel
theorem dL_law_989 : decode cL_law 989 = .ok (.iload_n 3, 1) := by decide +kernel
theorem dL_law_990 : decode cL_law 990 = .ok (.iconst 2, 1) := by decide +kernel
theorem dL_law_991 : decode cL_law 991 = .ok (.iadd, 1) := by decide +kernel
theorem dL_law_992 : decode cL_law 992 = .ok (.iaload, 1) := by decide +kernel
theorem dL_law_993 : decode cL_law 993 = .ok (.aload_n 0, 1) := by decide +kernel
theorem dL_law_994 : decode cL_law 994 = .ok (.iload_n 3, 1) := by decide +kernel
theorem dL_law_995 : decode cL_law 995 = .ok (.iconst 3, 1) := by decide +kernel
theorem dL_law_996 : decode cL_law 996 = .ok (.iadd, 1) := by decide +kernel
theorem dL_law_997 : decode cL_law 997 = .ok (.iaload, 1) := by decide +kernel
theorem dL_law_998 : decode cL_law 998 = .ok (.invokevirtual 130, 3) := by decide +kernel
theorem dL_law_1001 : decode cL_law 1001 = .ok (.if_icmp .eq 417, 3) := by decide +kernel
theorem dL_law_1004 : decode cL_law 1004 = .ok (.iconst 0, 1) := by decide +kernel
theorem dL_law_1005 : decode cL_law 1005 = .ok (.ireturn, 1) := by decide +kernel
theorem dL_law_1006 : decode cL_law 1006 = .ok (.aload_n 1, 1) := by decide +kernel
theorem dL_law_1007 : decode cL_law 1007 = .ok (.aload_n 0, 1) := by decide +kernel
theorem dL_law_1008 : decode cL_law 1008 = .ok (.iload_n 3, 1) := by decide +kernel
theorem dL_law_1009 : decode cL_law 1009 = .ok (.iconst 1, 1) := by decide +kernel
theorem dL_law_1010 : decode cL_law 1010 = .ok (.iadd, 1) := by decide +kernel
theorem dL_law_1011 : decode cL_law 1011 = .ok (.iaload, 1) := by decide +kernel
theorem dL_law_1012 : decode cL_law 1012 = .ok (.aload_n 0, 1) := by decide +kernel
theorem dL_law_1013 : decode cL_law 1013 = .ok (.iload_n 3, 1) := by decide +kernel
theorem dL_law_1014 : decode cL_law 1014 = .ok (.iconst 2, 1) := by decide +kernel
theorem dL_law_1015 : decode cL_law 1015 = .ok (.iadd, 1) := by decide +kernel
theorem dL_law_1016 : decode cL_law 1016 = .ok (.iaload, 1) := by decide +kernel
theorem dL_law_1017 : decode cL_law 1017 = .ok (.aload_n 0, 1) := by decide +kernel
theorem dL_law_1018 : decode cL_law 1018 = .ok (.iload_n 3, 1) := by decide +kernel
theorem dL_law_1019 : decode cL_law 1019 = .ok (.iconst 3, 1) := by decide +kernel
theorem dL_law_1020 : decode cL_law 1020 = .ok (.iadd, 1) := by decide +kernel
theorem dL_law_1021 : decode cL_law 1021 = .ok (.iaload, 1) := by decide +kernel
theorem dL_law_1022 : decode cL_law 1022 = .ok (.invokevirtual 131, 3) := by decide +kernel
theorem dL_law_1025 : decode cL_law 1025 = .ok (.aload_n 2, 1) := by decide +kernel
theorem dL_law_1026 : decode cL_law 1026 = .ok (.aload_n 0, 1) := by decide +kernel
theorem dL_law_1027 : decode cL_law 1027 = .ok (.iload_n 3, 1) := by decide +kernel
theorem dL_law_1028 : decode cL_law 1028 = .ok (.iconst 1, 1) := by decide +kernel
theorem dL_law_1029 : decode cL_law 1029 = .ok (.iadd, 1) := by decide +kernel
theorem dL_law_1030 : decode cL_law 1030 = .ok (.iaload, 1) := by decide +kernel
theorem dL_law_1031 : decode cL_law 1031 = .ok (.aload_n 0, 1) := by decide +kernel
theorem dL_law_1032 : decode cL_law 1032 = .ok (.iload_n 3, 1) := by decide +kernel
theorem dL_law_1033 : decode cL_law 1033 = .ok (.iconst 2, 1) := by decide +kernel
theorem dL_law_1034 : decode cL_law 1034 = .ok (.iadd, 1) := by decide +kernel
theorem dL_law_1035 : decode cL_law 1035 = .ok (.iaload, 1) := by decide +kernel
theorem dL_law_1036 : decode cL_law 1036 = .ok (.aload_n 0, 1) := by decide +kernel
theorem dL_law_1037 : decode cL_law 1037 = .ok (.iload_n 3, 1) := by decide +kernel
theorem dL_law_1038 : decode cL_law 1038 = .ok (.iconst 3, 1) := by decide +kernel
theorem dL_law_1039 : decode cL_law 1039 = .ok (.iadd, 1) := by decide +kernel
theorem dL_law_1040 : decode cL_law 1040 = .ok (.iaload, 1) := by decide +kernel
theorem dL_law_1041 : decode cL_law 1041 = .ok (.invokevirtual 134, 3) := by decide +kernel
theorem dL_law_1044 : decode cL_law 1044 = .ok (.if_icmp .eq 374, 3) := by decide +kernel
theorem dL_law_1047 : decode cL_law 1047 = .ok (.iconst 0, 1) := by decide +kernel
theorem dL_law_1048 : decode cL_law 1048 = .ok (.ireturn, 1) := by decide +kernel
theorem dL_law_1049 : decode cL_law 1049 = .ok (.aload_n 1, 1) := by decide +kernel
theorem dL_law_1050 : decode cL_law 1050 = .ok (.aload_n 0, 1) := by decide +kernel
theorem dL_law_1051 : decode cL_law 1051 = .ok (.iload_n 3, 1) := by decide +kernel
theorem dL_law_1052 : decode cL_law 1052 = .ok (.iconst 1, 1) := by decide +kernel
theorem dL_law_1053 : decode cL_law 1053 = .ok (.iadd, 1) := by decide +kernel
theorem dL_law_1054 : decode cL_law 1054 = .ok (.iaload, 1) := by decide +kernel
theorem dL_law_1055 : decode cL_law 1055 = .ok (.aload_n 0, 1) := by decide +kernel
theorem dL_law_1056 : decode cL_law 1056 = .ok (.iload_n 3, 1) := by decide +kernel
theorem dL_law_1057 : decode cL_law 1057 = .ok (.iconst 2, 1) := by decide +kernel
theorem dL_law_1058 : decode cL_law 1058 = .ok (.iadd, 1) := by decide +kernel
theorem dL_law_1059 : decode cL_law 1059 = .ok (.iaload, 1) := by decide +kernel
theorem dL_law_1060 : decode cL_law 1060 = .ok (.aload_n 0, 1) := by decide +kernel
theorem dL_law_1061 : decode cL_law 1061 = .ok (.iload_n 3, 1) := by decide +kernel
theorem dL_law_1062 : decode cL_law 1062 = .ok (.iconst 3, 1) := by decide +kernel
theorem dL_law_1063 : decode cL_law 1063 = .ok (.iadd, 1) := by decide +kernel
theorem dL_law_1064 : decode cL_law 1064 = .ok (.iaload, 1) := by decide +kernel
theorem dL_law_1065 : decode cL_law 1065 = .ok (.invokevirtual 135, 3) := by decide +kernel
theorem dL_law_1068 : decode cL_law 1068 = .ok (.aload_n 2, 1) := by decide +kernel
theorem dL_law_1069 : decode cL_law 1069 = .ok (.aload_n 0, 1) := by decide +kernel
theorem dL_law_1070 : decode cL_law 1070 = .ok (.iload_n 3, 1) := by decide +kernel
theorem dL_law_1071 : decode cL_law 1071 = .ok (.iconst 1, 1) := by decide +kernel
theorem dL_law_1072 : decode cL_law 1072 = .ok (.iadd, 1) := by decide +kernel
theorem dL_law_1073 : decode cL_law 1073 = .ok (.iaload, 1) := by decide +kernel
theorem dL_law_1074 : decode cL_law 1074 = .ok (.aload_n 0, 1) := by decide +kernel
theorem dL_law_1075 : decode cL_law 1075 = .ok (.iload_n 3, 1) := by decide +kernel
theorem dL_law_1076 : decode cL_law 1076 = .ok (.iconst 2, 1) := by decide +kernel
theorem dL_law_1077 : decode cL_law 1077 = .ok (.iadd, 1) := by decide +kernel
theorem dL_law_1078 : decode cL_law 1078 = .ok (.iaload, 1) := by decide +kernel
theorem dL_law_1079 : decode cL_law 1079 = .ok (.aload_n 0, 1) := by decide +kernel
theorem dL_law_1080 : decode cL_law 1080 = .ok (.iload_n 3, 1) := by decide +kernel
theorem dL_law_1081 : decode cL_law 1081 = .ok (.iconst 3, 1) := by decide +kernel
theorem dL_law_1082 : decode cL_law 1082 = .ok (.iadd, 1) := by decide +kernel
theorem dL_law_1083 : decode cL_law 1083 = .ok (.iaload, 1) := by decide +kernel
theorem dL_law_1084 : decode cL_law 1084 = .ok (.invokevirtual 138, 3) := by decide +kernel
theorem dL_law_1087 : decode cL_law 1087 = .ok (.if_icmp .eq 331, 3) := by decide +kernel
theorem dL_law_1090 : decode cL_law 1090 = .ok (.iconst 0, 1) := by decide +kernel
theorem dL_law_1091 : decode cL_law 1091 = .ok (.ireturn, 1) := by decide +kernel
theorem dL_law_1092 : decode cL_law 1092 = .ok (.aload_n 1, 1) := by decide +kernel
theorem dL_law_1093 : decode cL_law 1093 = .ok (.aload_n 0, 1) := by decide +kernel
theorem dL_law_1094 : decode cL_law 1094 = .ok (.iload_n 3, 1) := by decide +kernel
theorem dL_law_1095 : decode cL_law 1095 = .ok (.iconst 1, 1) := by decide +kernel
theorem dL_law_1096 : decode cL_law 1096 = .ok (.iadd, 1) := by decide +kernel
theorem dL_law_1097 : decode cL_law 1097 = .ok (.iaload, 1) := by decide +kernel
theorem dL_law_1098 : decode cL_law 1098 = .ok (.invokevirtual 139, 3) := by decide +kernel
theorem dL_law_1101 : decode cL_law 1101 = .ok (.aload_n 2, 1) := by decide +kernel
theorem dL_law_1102 : decode cL_law 1102 = .ok (.aload_n 0, 1) := by decide +kernel
theorem dL_law_1103 : decode cL_law 1103 = .ok (.iload_n 3, 1) := by decide +kernel
theorem dL_law_1104 : decode cL_law 1104 = .ok (.iconst 1, 1) := by decide +kernel
theorem dL_law_1105 : decode cL_law 1105 = .ok (.iadd, 1) := by decide +kernel
theorem dL_law_1106 : decode cL_law 1106 = .ok (.iaload, 1) := by decide +kernel
theorem dL_law_1107 : decode cL_law 1107 = .ok (.invokevirtual 142, 3) := by decide +kernel
theorem dL_law_1110 : decode cL_law 1110 = .ok (.if_icmp .eq 308, 3) := by decide +kernel
theorem dL_law_1113 : decode cL_law 1113 = .ok (.iconst 0, 1) := by decide +kernel
theorem dL_law_1114 : decode cL_law 1114 = .ok (.ireturn, 1) := by decide +kernel
theorem dL_law_1115 : decode cL_law 1115 = .ok (.aload_n 1, 1) := by decide +kernel
theorem dL_law_1116 : decode cL_law 1116 = .ok (.aload_n 0, 1) := by decide +kernel
theorem dL_law_1117 : decode cL_law 1117 = .ok (.iload_n 3, 1) := by decide +kernel
theorem dL_law_1118 : decode cL_law 1118 = .ok (.iconst 1, 1) := by decide +kernel
theorem dL_law_1119 : decode cL_law 1119 = .ok (.iadd, 1) := by decide +kernel
theorem dL_law_1120 : decode cL_law 1120 = .ok (.iaload, 1) := by decide +kernel
theorem dL_law_1121 : decode cL_law 1121 = .ok (.aload_n 0, 1) := by decide +kernel
theorem dL_law_1122 : decode cL_law 1122 = .ok (.iload_n 3, 1) := by decide +kernel
theorem dL_law_1123 : decode cL_law 1123 = .ok (.iconst 2, 1) := by decide +kernel
theorem dL_law_1124 : decode cL_law 1124 = .ok (.iadd, 1) := by decide +kernel
theorem dL_law_1125 : decode cL_law 1125 = .ok (.iaload, 1) := by decide +kernel
theorem dL_law_1126 : decode cL_law 1126 = .ok (.aload_n 0, 1) := by decide +kernel
theorem dL_law_1127 : decode cL_law 1127 = .ok (.iload_n 3, 1) := by decide +kernel
theorem dL_law_1128 : decode cL_law 1128 = .ok (.iconst 3, 1) := by decide +kernel
theorem dL_law_1129 : decode cL_law 1129 = .ok (.iadd, 1) := by decide +kernel
theorem dL_law_1130 : decode cL_law 1130 = .ok (.iaload, 1) := by decide +kernel
theorem dL_law_1131 : decode cL_law 1131 = .ok (.invokevirtual 143, 3) := by decide +kernel
theorem dL_law_1134 : decode cL_law 1134 = .ok (.aload_n 2, 1) := by decide +kernel
theorem dL_law_1135 : decode cL_law 1135 = .ok (.aload_n 0, 1) := by decide +kernel
theorem dL_law_1136 : decode cL_law 1136 = .ok (.iload_n 3, 1) := by decide +kernel
theorem dL_law_1137 : decode cL_law 1137 = .ok (.iconst 1, 1) := by decide +kernel
theorem dL_law_1138 : decode cL_law 1138 = .ok (.iadd, 1) := by decide +kernel
theorem dL_law_1139 : decode cL_law 1139 = .ok (.iaload, 1) := by decide +kernel
theorem dL_law_1140 : decode cL_law 1140 = .ok (.aload_n 0, 1) := by decide +kernel
theorem dL_law_1141 : decode cL_law 1141 = .ok (.iload_n 3, 1) := by decide +kernel
theorem dL_law_1142 : decode cL_law 1142 = .ok (.iconst 2, 1) := by decide +kernel
theorem dL_law_1143 : decode cL_law 1143 = .ok (.iadd, 1) := by decide +kernel
theorem dL_law_1144 : decode cL_law 1144 = .ok (.iaload, 1) := by decide +kernel
theorem dL_law_1145 : decode cL_law 1145 = .ok (.aload_n 0, 1) := by decide +kernel
theorem dL_law_1146 : decode cL_law 1146 = .ok (.iload_n 3, 1) := by decide +kernel
theorem dL_law_1147 : decode cL_law 1147 = .ok (.iconst 3, 1) := by decide +kernel
theorem dL_law_1148 : decode cL_law 1148 = .ok (.iadd, 1) := by decide +kernel
theorem dL_law_1149 : decode cL_law 1149 = .ok (.iaload, 1) := by decide +kernel
theorem dL_law_1150 : decode cL_law 1150 = .ok (.invokevirtual 146, 3) := by decide +kernel
theorem dL_law_1153 : decode cL_law 1153 = .ok (.if_icmp .eq 265, 3) := by decide +kernel
theorem dL_law_1156 : decode cL_law 1156 = .ok (.iconst 0, 1) := by decide +kernel
theorem dL_law_1157 : decode cL_law 1157 = .ok (.ireturn, 1) := by decide +kernel
theorem dL_law_1158 : decode cL_law 1158 = .ok (.aload_n 1, 1) := by decide +kernel
theorem dL_law_1159 : decode cL_law 1159 = .ok (.aload_n 0, 1) := by decide +kernel
theorem dL_law_1160 : decode cL_law 1160 = .ok (.iload_n 3, 1) := by decide +kernel
theorem dL_law_1161 : decode cL_law 1161 = .ok (.iconst 1, 1) := by decide +kernel
theorem dL_law_1162 : decode cL_law 1162 = .ok (.iadd, 1) := by decide +kernel
theorem dL_law_1163 : decode cL_law 1163 = .ok (.iaload, 1) := by decide +kernel
theorem dL_law_1164 : decode cL_law 1164 = .ok (.aload_n 0, 1) := by decide +kernel
theorem dL_law_1165 : decode cL_law 1165 = .ok (.iload_n 3, 1) := by decide +kernel
theorem dL_law_1166 : decode cL_law 1166 = .ok (.iconst 2, 1) := by decide +kernel
theorem dL_law_1167 : decode cL_law 1167 = .ok (.iadd, 1) := by decide +kernel
theorem dL_law_1168 : decode cL_law 1168 = .ok (.iaload, 1) := by decide +kernel
theorem dL_law_1169 : decode cL_law 1169 = .ok (.aload_n 0, 1) := by decide +kernel
theorem dL_law_1170 : decode cL_law 1170 = .ok (.iload_n 3, 1) := by decide +kernel
theorem dL_law_1171 : decode cL_law 1171 = .ok (.iconst 3, 1) := by decide +kernel
theorem dL_law_1172 : decode cL_law 1172 = .ok (.iadd, 1) := by decide +kernel
theorem dL_law_1173 : decode cL_law 1173 = .ok (.iaload, 1) := by decide +kernel
theorem dL_law_1174 : decode cL_law 1174 = .ok (.invokevirtual 147, 3) := by decide +kernel
theorem dL_law_1177 : decode cL_law 1177 = .ok (.aload_n 2, 1) := by decide +kernel
theorem dL_law_1178 : decode cL_law 1178 = .ok (.aload_n 0, 1) := by decide +kernel
theorem dL_law_1179 : decode cL_law 1179 = .ok (.iload_n 3, 1) := by decide +kernel
theorem dL_law_1180 : decode cL_law 1180 = .ok (.iconst 1, 1) := by decide +kernel
theorem dL_law_1181 : decode cL_law 1181 = .ok (.iadd, 1) := by decide +kernel
theorem dL_law_1182 : decode cL_law 1182 = .ok (.iaload, 1) := by decide +kernel
theorem dL_law_1183 : decode cL_law 1183 = .ok (.aload_n 0, 1) := by decide +kernel
theorem dL_law_1184 : decode cL_law 1184 = .ok (.iload_n 3, 1) := by decide +kernel
theorem dL_law_1185 : decode cL_law 1185 = .ok (.iconst 2, 1) := by decide +kernel
theorem dL_law_1186 : decode cL_law 1186 = .ok (.iadd, 1) := by decide +kernel
theorem dL_law_1187 : decode cL_law 1187 = .ok (.iaload, 1) := by decide +kernel
theorem dL_law_1188 : decode cL_law 1188 = .ok (.aload_n 0, 1) := by decide +kernel
theorem dL_law_1189 : decode cL_law 1189 = .ok (.iload_n 3, 1) := by decide +kernel
theorem dL_law_1190 : decode cL_law 1190 = .ok (.iconst 3, 1) := by decide +kernel
theorem dL_law_1191 : decode cL_law 1191 = .ok (.iadd, 1) := by decide +kernel
theorem dL_law_1192 : decode cL_law 1192 = .ok (.iaload, 1) := by decide +kernel
theorem dL_law_1193 : decode cL_law 1193 = .ok (.invokevirtual 150, 3) := by decide +kernel
theorem dL_law_1196 : decode cL_law 1196 = .ok (.if_icmp .eq 222, 3) := by decide +kernel
theorem dL_law_1199 : decode cL_law 1199 = .ok (.iconst 0, 1) := by decide +kernel
theorem dL_law_1200 : decode cL_law 1200 = .ok (.ireturn, 1) := by decide +kernel
theorem dL_law_1201 : decode cL_law 1201 = .ok (.aload_n 1, 1) := by decide +kernel
theorem dL_law_1202 : decode cL_law 1202 = .ok (.aload_n 0, 1) := by decide +kernel
theorem dL_law_1203 : decode cL_law 1203 = .ok (.iload_n 3, 1) := by decide +kernel
theorem dL_law_1204 : decode cL_law 1204 = .ok (.iconst 1, 1) := by decide +kernel
theorem dL_law_1205 : decode cL_law 1205 = .ok (.iadd, 1) := by decide +kernel
theorem dL_law_1206 : decode cL_law 1206 = .ok (.iaload, 1) := by decide +kernel
theorem dL_law_1207 : decode cL_law 1207 = .ok (.aload_n 0, 1) := by decide +kernel
theorem dL_law_1208 : decode cL_law 1208 = .ok (.iload_n 3, 1) := by decide +kernel
theorem dL_law_1209 : decode cL_law 1209 = .ok (.iconst 2, 1) := by decide +kernel
theorem dL_law_1210 : decode cL_law 1210 = .ok (.iadd, 1) := by decide +kernel
theorem dL_law_1211 : decode cL_law 1211 = .ok (.iaload, 1) := by decide +kernel
theorem dL_law_1212 : decode cL_law 1212 = .ok (.aload_n 0, 1) := by decide +kernel
theorem dL_law_1213 : decode cL_law 1213 = .ok (.iload_n 3, 1) := by decide +kernel
theorem dL_law_1214 : decode cL_law 1214 = .ok (.iconst 3, 1) := by decide +kernel
theorem dL_law_1215 : decode cL_law 1215 = .ok (.iadd, 1) := by decide +kernel
theorem dL_law_1216 : decode cL_law 1216 = .ok (.iaload, 1) := by decide +kernel
theorem dL_law_1217 : decode cL_law 1217 = .ok (.aload_n 0, 1) := by decide +kernel
theorem dL_law_1218 : decode cL_law 1218 = .ok (.iload_n 3, 1) := by decide +kernel
theorem dL_law_1219 : decode cL_law 1219 = .ok (.iconst 4, 1) := by decide +kernel
theorem dL_law_1220 : decode cL_law 1220 = .ok (.iadd, 1) := by decide +kernel
theorem dL_law_1221 : decode cL_law 1221 = .ok (.iaload, 1) := by decide +kernel
theorem dL_law_1222 : decode cL_law 1222 = .ok (.aload_n 0, 1) := by decide +kernel
theorem dL_law_1223 : decode cL_law 1223 = .ok (.iload_n 3, 1) := by decide +kernel
theorem dL_law_1224 : decode cL_law 1224 = .ok (.iconst 5, 1) := by decide +kernel
theorem dL_law_1225 : decode cL_law 1225 = .ok (.iadd, 1) := by decide +kernel
theorem dL_law_1226 : decode cL_law 1226 = .ok (.iaload, 1) := by decide +kernel
theorem dL_law_1227 : decode cL_law 1227 = .ok (.invokevirtual 151, 3) := by decide +kernel
theorem dL_law_1230 : decode cL_law 1230 = .ok (.aload_n 2, 1) := by decide +kernel
theorem dL_law_1231 : decode cL_law 1231 = .ok (.aload_n 0, 1) := by decide +kernel
theorem dL_law_1232 : decode cL_law 1232 = .ok (.iload_n 3, 1) := by decide +kernel
theorem dL_law_1233 : decode cL_law 1233 = .ok (.iconst 1, 1) := by decide +kernel
theorem dL_law_1234 : decode cL_law 1234 = .ok (.iadd, 1) := by decide +kernel
theorem dL_law_1235 : decode cL_law 1235 = .ok (.iaload, 1) := by decide +kernel
theorem dL_law_1236 : decode cL_law 1236 = .ok (.aload_n 0, 1) := by decide +kernel
theorem dL_law_1237 : decode cL_law 1237 = .ok (.iload_n 3, 1) := by decide +kernel
theorem dL_law_1238 : decode cL_law 1238 = .ok (.iconst 2, 1) := by decide +kernel
theorem dL_law_1239 : decode cL_law 1239 = .ok (.iadd, 1) := by decide +kernel
theorem dL_law_1240 : decode cL_law 1240 = .ok (.iaload, 1) := by decide +kernel
theorem dL_law_1241 : decode cL_law 1241 = .ok (.aload_n 0, 1) := by decide +kernel
theorem dL_law_1242 : decode cL_law 1242 = .ok (.iload_n 3, 1) := by decide +kernel
theorem dL_law_1243 : decode cL_law 1243 = .ok (.iconst 3, 1) := by decide +kernel
theorem dL_law_1244 : decode cL_law 1244 = .ok (.iadd, 1) := by decide +kernel
theorem dL_law_1245 : decode cL_law 1245 = .ok (.iaload, 1) := by decide +kernel
theorem dL_law_1246 : decode cL_law 1246 = .ok (.aload_n 0, 1) := by decide +kernel
theorem dL_law_1247 : decode cL_law 1247 = .ok (.iload_n 3, 1) := by decide +kernel
theorem dL_law_1248 : decode cL_law 1248 = .ok (.iconst 4, 1) := by decide +kernel
theorem dL_law_1249 : decode cL_law 1249 = .ok (.iadd, 1) := by decide +kernel
theorem dL_law_1250 : decode cL_law 1250 = .ok (.iaload, 1) := by decide +kernel
theorem dL_law_1251 : decode cL_law 1251 = .ok (.aload_n 0, 1) := by decide +kernel
theorem dL_law_1252 : decode cL_law 1252 = .ok (.iload_n 3, 1) := by decide +kernel
theorem dL_law_1253 : decode cL_law 1253 = .ok (.iconst 5, 1) := by decide +kernel
theorem dL_law_1254 : decode cL_law 1254 = .ok (.iadd, 1) := by decide +kernel
theorem dL_law_1255 : decode cL_law 1255 = .ok (.iaload, 1) := by decide +kernel
theorem dL_law_1256 : decode cL_law 1256 = .ok (.invokevirtual 155, 3) := by decide +kernel
theorem dL_law_1259 : decode cL_law 1259 = .ok (.if_icmp .eq 159, 3) := by decide +kernel
theorem dL_law_1262 : decode cL_law 1262 = .ok (.iconst 0, 1) := by decide +kernel
theorem dL_law_1263 : decode cL_law 1263 = .ok (.ireturn, 1) := by decide +kernel
theorem dL_law_1264 : decode cL_law 1264 = .ok (.aload_n 1, 1) := by decide +kernel
theorem dL_law_1265 : decode cL_law 1265 = .ok (.aload_n 0, 1) := by decide +kernel
theorem dL_law_1266 : decode cL_law 1266 = .ok (.iload_n 3, 1) := by decide +kernel
theorem dL_law_1267 : decode cL_law 1267 = .ok (.iconst 1, 1) := by decide +kernel
theorem dL_law_1268 : decode cL_law 1268 = .ok (.iadd, 1) := by decide +kernel
theorem dL_law_1269 : decode cL_law 1269 = .ok (.iaload, 1) := by decide +kernel
theorem dL_law_1270 : decode cL_law 1270 = .ok (.invokevirtual 156, 3) := by decide +kernel
theorem dL_law_1273 : decode cL_law 1273 = .ok (.aload_n 2, 1) := by decide +kernel
theorem dL_law_1274 : decode cL_law 1274 = .ok (.aload_n 0, 1) := by decide +kernel
theorem dL_law_1275 : decode cL_law 1275 = .ok (.iload_n 3, 1) := by decide +kernel
theorem dL_law_1276 : decode cL_law 1276 = .ok (.iconst 1, 1) := by decide +kernel
theorem dL_law_1277 : decode cL_law 1277 = .ok (.iadd, 1) := by decide +kernel
theorem dL_law_1278 : decode cL_law 1278 = .ok (.iaload, 1) := by decide +kernel
theorem dL_law_1279 : decode cL_law 1279 = .ok (.invokevirtual 159, 3) := by decide +kernel
theorem dL_law_1282 : decode cL_law 1282 = .ok (.if_icmp .eq 136, 3) := by decide +kernel
theorem dL_law_1285 : decode cL_law 1285 = .ok (.iconst 0, 1) := by decide +kernel
theorem dL_law_1286 : decode cL_law 1286 = .ok (.ireturn, 1) := by decide +kernel
theorem dL_law_1287 : decode cL_law 1287 = .ok (.aload_n 1, 1) := by decide +kernel
theorem dL_law_1288 : decode cL_law 1288 = .ok (.aload_n 0, 1) := by decide +kernel
theorem dL_law_1289 : decode cL_law 1289 = .ok (.iload_n 3, 1) := by decide +kernel
theorem dL_law_1290 : decode cL_law 1290 = .ok (.iconst 1, 1) := by decide +kernel
theorem dL_law_1291 : decode cL_law 1291 = .ok (.iadd, 1) := by decide +kernel
theorem dL_law_1292 : decode cL_law 1292 = .ok (.iaload, 1) := by decide +kernel
theorem dL_law_1293 : decode cL_law 1293 = .ok (.invokevirtual 160, 3) := by decide +kernel
theorem dL_law_1296 : decode cL_law 1296 = .ok (.aload_n 2, 1) := by decide +kernel
theorem dL_law_1297 : decode cL_law 1297 = .ok (.aload_n 0, 1) := by decide +kernel
theorem dL_law_1298 : decode cL_law 1298 = .ok (.iload_n 3, 1) := by decide +kernel
theorem dL_law_1299 : decode cL_law 1299 = .ok (.iconst 1, 1) := by decide +kernel
theorem dL_law_1300 : decode cL_law 1300 = .ok (.iadd, 1) := by decide +kernel
theorem dL_law_1301 : decode cL_law 1301 = .ok (.iaload, 1) := by decide +kernel
theorem dL_law_1302 : decode cL_law 1302 = .ok (.invokevirtual 163, 3) := by decide +kernel
theorem dL_law_1305 : decode cL_law 1305 = .ok (.if_icmp .eq 113, 3) := by decide +kernel
theorem dL_law_1308 : decode cL_law 1308 = .ok (.iconst 0, 1) := by decide +kernel
theorem dL_law_1309 : decode cL_law 1309 = .ok (.ireturn, 1) := by decide +kernel
theorem dL_law_1310 : decode cL_law 1310 = .ok (.aload_n 1, 1) := by decide +kernel
theorem dL_law_1311 : decode cL_law 1311 = .ok (.invokevirtual 164, 3) := by decide +kernel
theorem dL_law_1314 : decode cL_law 1314 = .ok (.aload_n 2, 1) := by decide +kernel
theorem dL_law_1315 : decode cL_law 1315 = .ok (.invokevirtual 167, 3) := by decide +kernel
theorem dL_law_1318 : decode cL_law 1318 = .ok (.if_icmp .eq 100, 3) := by decide +kernel
theorem dL_law_1321 : decode cL_law 1321 = .ok (.iconst 0, 1) := by decide +kernel
theorem dL_law_1322 : decode cL_law 1322 = .ok (.ireturn, 1) := by decide +kernel
theorem dL_law_1323 : decode cL_law 1323 = .ok (.aload_n 1, 1) := by decide +kernel
theorem dL_law_1324 : decode cL_law 1324 = .ok (.invokevirtual 168, 3) := by decide +kernel
theorem dL_law_1327 : decode cL_law 1327 = .ok (.aload_n 2, 1) := by decide +kernel
theorem dL_law_1328 : decode cL_law 1328 = .ok (.invokevirtual 171, 3) := by decide +kernel
theorem dL_law_1331 : decode cL_law 1331 = .ok (.if_icmp .eq 87, 3) := by decide +kernel
theorem dL_law_1334 : decode cL_law 1334 = .ok (.iconst 0, 1) := by decide +kernel
theorem dL_law_1335 : decode cL_law 1335 = .ok (.ireturn, 1) := by decide +kernel
theorem dL_law_1336 : decode cL_law 1336 = .ok (.aload_n 1, 1) := by decide +kernel
theorem dL_law_1337 : decode cL_law 1337 = .ok (.aload_n 0, 1) := by decide +kernel
theorem dL_law_1338 : decode cL_law 1338 = .ok (.iload_n 3, 1) := by decide +kernel
theorem dL_law_1339 : decode cL_law 1339 = .ok (.iconst 1, 1) := by decide +kernel
theorem dL_law_1340 : decode cL_law 1340 = .ok (.iadd, 1) := by decide +kernel
theorem dL_law_1341 : decode cL_law 1341 = .ok (.iaload, 1) := by decide +kernel
theorem dL_law_1342 : decode cL_law 1342 = .ok (.invokevirtual 172, 3) := by decide +kernel
theorem dL_law_1345 : decode cL_law 1345 = .ok (.aload_n 2, 1) := by decide +kernel
theorem dL_law_1346 : decode cL_law 1346 = .ok (.aload_n 0, 1) := by decide +kernel
theorem dL_law_1347 : decode cL_law 1347 = .ok (.iload_n 3, 1) := by decide +kernel
theorem dL_law_1348 : decode cL_law 1348 = .ok (.iconst 1, 1) := by decide +kernel
theorem dL_law_1349 : decode cL_law 1349 = .ok (.iadd, 1) := by decide +kernel
theorem dL_law_1350 : decode cL_law 1350 = .ok (.iaload, 1) := by decide +kernel
theorem dL_law_1351 : decode cL_law 1351 = .ok (.invokevirtual 175, 3) := by decide +kernel
theorem dL_law_1354 : decode cL_law 1354 = .ok (.if_icmp .eq 64, 3) := by decide +kernel
theorem dL_law_1357 : decode cL_law 1357 = .ok (.iconst 0, 1) := by decide +kernel
theorem dL_law_1358 : decode cL_law 1358 = .ok (.ireturn, 1) := by decide +kernel
theorem dL_law_1359 : decode cL_law 1359 = .ok (.aload_n 1, 1) := by decide +kernel
theorem dL_law_1360 : decode cL_law 1360 = .ok (.invokevirtual 176, 3) := by decide +kernel
theorem dL_law_1363 : decode cL_law 1363 = .ok (.aload_n 2, 1) := by decide +kernel
theorem dL_law_1364 : decode cL_law 1364 = .ok (.invokevirtual 179, 3) := by decide +kernel
theorem dL_law_1367 : decode cL_law 1367 = .ok (.if_icmp .eq 51, 3) := by decide +kernel
theorem dL_law_1370 : decode cL_law 1370 = .ok (.iconst 0, 1) := by decide +kernel
theorem dL_law_1371 : decode cL_law 1371 = .ok (.ireturn, 1) := by decide +kernel
theorem dL_law_1372 : decode cL_law 1372 = .ok (.aload_n 1, 1) := by decide +kernel
theorem dL_law_1373 : decode cL_law 1373 = .ok (.aload_n 0, 1) := by decide +kernel
theorem dL_law_1374 : decode cL_law 1374 = .ok (.iload_n 3, 1) := by decide +kernel
theorem dL_law_1375 : decode cL_law 1375 = .ok (.iconst 1, 1) := by decide +kernel
theorem dL_law_1376 : decode cL_law 1376 = .ok (.iadd, 1) := by decide +kernel
theorem dL_law_1377 : decode cL_law 1377 = .ok (.iaload, 1) := by decide +kernel
theorem dL_law_1378 : decode cL_law 1378 = .ok (.invokevirtual 180, 3) := by decide +kernel
theorem dL_law_1381 : decode cL_law 1381 = .ok (.aload_n 2, 1) := by decide +kernel
theorem dL_law_1382 : decode cL_law 1382 = .ok (.aload_n 0, 1) := by decide +kernel
theorem dL_law_1383 : decode cL_law 1383 = .ok (.iload_n 3, 1) := by decide +kernel
theorem dL_law_1384 : decode cL_law 1384 = .ok (.iconst 1, 1) := by decide +kernel
theorem dL_law_1385 : decode cL_law 1385 = .ok (.iadd, 1) := by decide +kernel
theorem dL_law_1386 : decode cL_law 1386 = .ok (.iaload, 1) := by decide +kernel
theorem dL_law_1387 : decode cL_law 1387 = .ok (.invokevirtual 183, 3) := by decide +kernel
theorem dL_law_1390 : decode cL_law 1390 = .ok (.if_icmp .eq 28, 3) := by decide +kernel
theorem dL_law_1393 : decode cL_law 1393 = .ok (.iconst 0, 1) := by decide +kernel
theorem dL_law_1394 : decode cL_law 1394 = .ok (.ireturn, 1) := by decide +kernel
theorem dL_law_1395 : decode cL_law 1395 = .ok (.aload_n 1, 1) := by decide +kernel
theorem dL_law_1396 : decode cL_law 1396 = .ok (.aload_n 0, 1) := by decide +kernel
theorem dL_law_1397 : decode cL_law 1397 = .ok (.iload_n 3, 1) := by decide +kernel
theorem dL_law_1398 : decode cL_law 1398 = .ok (.iconst 1, 1) := by decide +kernel
theorem dL_law_1399 : decode cL_law 1399 = .ok (.iadd, 1) := by decide +kernel
theorem dL_law_1400 : decode cL_law 1400 = .ok (.iaload, 1) := by decide +kernel
theorem dL_law_1401 : decode cL_law 1401 = .ok (.invokevirtual 184, 3) := by decide +kernel
theorem dL_law_1404 : decode cL_law 1404 = .ok (.aload_n 2, 1) := by decide +kernel
theorem dL_law_1405 : decode cL_law 1405 = .ok (.aload_n 0, 1) := by decide +kernel
theorem dL_law_1406 : decode cL_law 1406 = .ok (.iload_n 3, 1) := by decide +kernel
theorem dL_law_1407 : decode cL_law 1407 = .ok (.iconst 1, 1) := by decide +kernel
theorem dL_law_1408 : decode cL_law 1408 = .ok (.iadd, 1) := by decide +kernel
theorem dL_law_1409 : decode cL_law 1409 = .ok (.iaload, 1) := by decide +kernel
theorem dL_law_1410 : decode cL_law 1410 = .ok (.invokevirtual 187, 3) := by decide +kernel
theorem dL_law_1413 : decode cL_law 1413 = .ok (.if_icmp .eq 5, 3) := by decide +kernel
theorem dL_law_1416 : decode cL_law 1416 = .ok (.iconst 0, 1) := by decide +kernel
theorem dL_law_1417 : decode cL_law 1417 = .ok (.ireturn, 1) := by decide +kernel
theorem dL_law_1418 : decode cL_law 1418 = .ok (.iinc 3 6, 3) := by decide +kernel
theorem dL_law_1421 : decode cL_law 1421 = .ok (.goto (-1403), 3) := by decide +kernel
theorem dL_law_1424 : decode cL_law 1424 = .ok (.iconst 1, 1) := by decide +kernel
theorem dL_law_1425 : decode cL_law 1425 = .ok (.ireturn, 1) := by decide +kernel
theorem dJ11_isValidCodePoint_9a6ad_0 : decode cJ11_isValidCodePoint_9a6ad 0 = .ok (.iload_n 0, 1) := by decide +kernel
theorem dJ11_isValidCodePoint_9a6ad_1 : decode cJ11_isValidCodePoint_9a6ad 1 = .ok (.bipush 16, 2) := by decide +kernel
theorem dJ11_isValidCodePoint_9a6ad_3 : decode cJ11_isValidCodePoint_9a6ad 3 = .ok (.iushr, 1) := by decide +kernel
theorem dJ11_isValidCodePoint_9a6ad_4 : decode cJ11_isValidCodePoint_9a6ad 4 = .ok (.istore_n 1, 1) := by decide +kernel
theorem dJ11_isValidCodePoint_9a6ad_5 : decode cJ11_isValidCodePoint_9a6ad 5 = .ok (.iload_n 1, 1) := by decide +kernel
theorem dJ11_isValidCodePoint_9a6ad_6 : decode cJ11_isValidCodePoint_9a6ad 6 = .ok (.bipush 17, 2) := by decide +kernel
theorem dJ11_isValidCodePoint_9a6ad_8 : decode cJ11_isValidCodePoint_9a6ad 8 = .ok (.if_icmp .ge 7, 3) := by decide +kernel
theorem dJ11_isValidCodePoint_9a6ad_11 : decode cJ11_isValidCodePoint_9a6ad 11 = .ok (.iconst 1, 1) := by decide +kernel
theorem dJ11_isValidCodePoint_9a6ad_12 : decode cJ11_isValidCodePoint_9a6ad 12 = .ok (.goto 4, 3) := by decide +kernel
theorem dJ11_isValidCodePoint_9a6ad_15 : decode cJ11_isValidCodePoint_9a6ad 15 = .ok (.iconst 0, 1) := by decide +kernel
theorem dJ11_isValidCodePoint_9a6ad_16 : decode cJ11_isValidCodePoint_9a6ad 16 = .ok (.ireturn, 1) := by decide +kernel
theorem dJ11_highSurrogate_5068e_0 : decode cJ11_highSurrogate_5068e 0 = .ok (.iload_n 0, 1) := by decide +kernel
theorem dJ11_highSurrogate_5068e_1 : decode cJ11_highSurrogate_5068e 1 = .ok (.bipush 10, 2) := by decide +kernel
theorem dJ11_highSurrogate_5068e_3 : decode cJ11_highSurrogate_5068e 3 = .ok (.iushr, 1) := by decide +kernel
theorem dJ11_highSurrogate_5068e_4 : decode cJ11_highSurrogate_5068e 4 = .ok (.ldc 110, 2) := by decide +kernel
theorem dJ11_highSurrogate_5068e_6 : decode cJ11_highSurrogate_5068e 6 = .ok (.iadd, 1) := by decide +kernel
theorem dJ11_highSurrogate_5068e_7 : decode cJ11_highSurrogate_5068e 7 = .ok (.i2c, 1) := by decide +kernel
theorem dJ11_highSurrogate_5068e_8 : decode cJ11_highSurrogate_5068e 8 = .ok (.ireturn, 1) := by decide +kernel
theorem dJ11_lowSurrogate_5068e_0 : decode cJ11_lowSurrogate_5068e 0 = .ok (.iload_n 0, 1) := by decide +kernel
theorem dJ11_lowSurrogate_5068e_1 : decode cJ11_lowSurrogate_5068e 1 = .ok (.sipush 1023, 3) := by decide +kernel
theorem dJ11_lowSurrogate_5068e_4 : decode cJ11_lowSurrogate_5068e 4 = .ok (.iand, 1) := by decide +kernel
theorem dJ11_lowSurrogate_5068e_5 : decode cJ11_lowSurrogate_5068e 5 = .ok (.ldc 76, 2) := by decide +kernel
theorem dJ11_lowSurrogate_5068e_7 : decode cJ11_lowSurrogate_5068e 7 = .ok (.iadd, 1) := by decide +kernel
theorem dJ11_lowSurrogate_5068e_8 : decode cJ11_lowSurrogate_5068e 8 = .ok (.i2c, 1) := by decide +kernel
theorem dJ11_lowSurrogate_5068e_9 : decode cJ11_lowSurrogate_5068e 9 = .ok (.ireturn, 1) := by decide +kernel
theorem dJ6_bitCount_0f7a4_0 : decode cJ6_bitCount_0f7a4 0 = .ok (.iload_n 0, 1) := by decide +kernel
theorem dJ6_bitCount_0f7a4_1 : decode cJ6_bitCount_0f7a4 1 = .ok (.iload_n 0, 1) := by decide +kernel
theorem dJ6_bitCount_0f7a4_2 : decode cJ6_bitCount_0f7a4 2 = .ok (.iconst 1, 1) := by decide +kernel
theorem dJ6_bitCount_0f7a4_3 : decode cJ6_bitCount_0f7a4 3 = .ok (.iushr, 1) := by decide +kernel
theorem dJ6_bitCount_0f7a4_4 : decode cJ6_bitCount_0f7a4 4 = .ok (.ldc_w 265, 3) := by decide +kernel
theorem dJ6_bitCount_0f7a4_7 : decode cJ6_bitCount_0f7a4 7 = .ok (.iand, 1) := by decide +kernel
theorem dJ6_bitCount_0f7a4_8 : decode cJ6_bitCount_0f7a4 8 = .ok (.isub, 1) := by decide +kernel
theorem dJ6_bitCount_0f7a4_9 : decode cJ6_bitCount_0f7a4 9 = .ok (.istore_n 0, 1) := by decide +kernel
theorem dJ6_bitCount_0f7a4_10 : decode cJ6_bitCount_0f7a4 10 = .ok (.iload_n 0, 1) := by decide +kernel
theorem dJ6_bitCount_0f7a4_11 : decode cJ6_bitCount_0f7a4 11 = .ok (.ldc_w 266, 3) := by decide +kernel
theorem dJ6_bitCount_0f7a4_14 : decode cJ6_bitCount_0f7a4 14 = .ok (.iand, 1) := by decide +kernel
theorem dJ6_bitCount_0f7a4_15 : decode cJ6_bitCount_0f7a4 15 = .ok (.iload_n 0, 1) := by decide +kernel
theorem dJ6_bitCount_0f7a4_16 : decode cJ6_bitCount_0f7a4 16 = .ok (.iconst 2, 1) := by decide +kernel
theorem dJ6_bitCount_0f7a4_17 : decode cJ6_bitCount_0f7a4 17 = .ok (.iushr, 1) := by decide +kernel
theorem dJ6_bitCount_0f7a4_18 : decode cJ6_bitCount_0f7a4 18 = .ok (.ldc_w 266, 3) := by decide +kernel
theorem dJ6_bitCount_0f7a4_21 : decode cJ6_bitCount_0f7a4 21 = .ok (.iand, 1) := by decide +kernel
theorem dJ6_bitCount_0f7a4_22 : decode cJ6_bitCount_0f7a4 22 = .ok (.iadd, 1) := by decide +kernel
theorem dJ6_bitCount_0f7a4_23 : decode cJ6_bitCount_0f7a4 23 = .ok (.istore_n 0, 1) := by decide +kernel
theorem dJ6_bitCount_0f7a4_24 : decode cJ6_bitCount_0f7a4 24 = .ok (.iload_n 0, 1) := by decide +kernel
theorem dJ6_bitCount_0f7a4_25 : decode cJ6_bitCount_0f7a4 25 = .ok (.iload_n 0, 1) := by decide +kernel
theorem dJ6_bitCount_0f7a4_26 : decode cJ6_bitCount_0f7a4 26 = .ok (.iconst 4, 1) := by decide +kernel
theorem dJ6_bitCount_0f7a4_27 : decode cJ6_bitCount_0f7a4 27 = .ok (.iushr, 1) := by decide +kernel
theorem dJ6_bitCount_0f7a4_28 : decode cJ6_bitCount_0f7a4 28 = .ok (.iadd, 1) := by decide +kernel
theorem dJ6_bitCount_0f7a4_29 : decode cJ6_bitCount_0f7a4 29 = .ok (.ldc_w 267, 3) := by decide +kernel
theorem dJ6_bitCount_0f7a4_32 : decode cJ6_bitCount_0f7a4 32 = .ok (.iand, 1) := by decide +kernel
theorem dJ6_bitCount_0f7a4_33 : decode cJ6_bitCount_0f7a4 33 = .ok (.istore_n 0, 1) := by decide +kernel
theorem dJ6_bitCount_0f7a4_34 : decode cJ6_bitCount_0f7a4 34 = .ok (.iload_n 0, 1) := by decide +kernel
theorem dJ6_bitCount_0f7a4_35 : decode cJ6_bitCount_0f7a4 35 = .ok (.iload_n 0, 1) := by decide +kernel
theorem dJ6_bitCount_0f7a4_36 : decode cJ6_bitCount_0f7a4 36 = .ok (.bipush 8, 2) := by decide +kernel
theorem dJ6_bitCount_0f7a4_38 : decode cJ6_bitCount_0f7a4 38 = .ok (.iushr, 1) := by decide +kernel
theorem dJ6_bitCount_0f7a4_39 : decode cJ6_bitCount_0f7a4 39 = .ok (.iadd, 1) := by decide +kernel
theorem dJ6_bitCount_0f7a4_40 : decode cJ6_bitCount_0f7a4 40 = .ok (.istore_n 0, 1) := by decide +kernel
theorem dJ6_bitCount_0f7a4_41 : decode cJ6_bitCount_0f7a4 41 = .ok (.iload_n 0, 1) := by decide +kernel
theorem dJ6_bitCount_0f7a4_42 : decode cJ6_bitCount_0f7a4 42 = .ok (.iload_n 0, 1) := by decide +kernel
theorem dJ6_bitCount_0f7a4_43 : decode cJ6_bitCount_0f7a4 43 = .ok (.bipush 16, 2) := by decide +kernel
theorem dJ6_bitCount_0f7a4_45 : decode cJ6_bitCount_0f7a4 45 = .ok (.iushr, 1) := by decide +kernel
theorem dJ6_bitCount_0f7a4_46 : decode cJ6_bitCount_0f7a4 46 = .ok (.iadd, 1) := by decide +kernel
theorem dJ6_bitCount_0f7a4_47 : decode cJ6_bitCount_0f7a4 47 = .ok (.istore_n 0, 1) := by decide +kernel
theorem dJ6_bitCount_0f7a4_48 : decode cJ6_bitCount_0f7a4 48 = .ok (.iload_n 0, 1) := by decide +kernel
theorem dJ6_bitCount_0f7a4_49 : decode cJ6_bitCount_0f7a4 49 = .ok (.bipush 63, 2) := by decide +kernel
theorem dJ6_bitCount_0f7a4_51 : decode cJ6_bitCount_0f7a4 51 = .ok (.iand, 1) := by decide +kernel
theorem dJ6_bitCount_0f7a4_52 : decode cJ6_bitCount_0f7a4 52 = .ok (.ireturn, 1) := by decide +kernel
theorem dJ9_abs_067f4_0 : decode cJ9_abs_067f4 0 = .ok (.lload_n 0, 1) := by decide +kernel
theorem dJ9_abs_067f4_1 : decode cJ9_abs_067f4 1 = .ok (.lconst 0, 1) := by decide +kernel
theorem dJ9_abs_067f4_2 : decode cJ9_abs_067f4 2 = .ok (.lcmp, 1) := by decide +kernel
theorem dJ9_abs_067f4_3 : decode cJ9_abs_067f4 3 = .ok (.ifCond .ge 8, 3) := by decide +kernel
theorem dJ9_abs_067f4_6 : decode cJ9_abs_067f4 6 = .ok (.lload_n 0, 1) := by decide +kernel
theorem dJ9_abs_067f4_7 : decode cJ9_abs_067f4 7 = .ok (.lneg, 1) := by decide +kernel
theorem dJ9_abs_067f4_8 : decode cJ9_abs_067f4 8 = .ok (.goto 4, 3) := by decide +kernel
theorem dJ9_abs_067f4_11 : decode cJ9_abs_067f4 11 = .ok (.lload_n 0, 1) := by decide +kernel
theorem dJ9_abs_067f4_12 : decode cJ9_abs_067f4 12 = .ok (.lreturn, 1) := by decide +kernel
theorem dJ9_max_7cf53_0 : decode cJ9_max_7cf53 0 = .ok (.iload_n 0, 1) := by decide +kernel
theorem dJ9_max_7cf53_1 : decode cJ9_max_7cf53 1 = .ok (.iload_n 1, 1) := by decide +kernel
theorem dJ9_max_7cf53_2 : decode cJ9_max_7cf53 2 = .ok (.if_icmp .lt 7, 3) := by decide +kernel
theorem dJ9_max_7cf53_5 : decode cJ9_max_7cf53 5 = .ok (.iload_n 0, 1) := by decide +kernel
theorem dJ9_max_7cf53_6 : decode cJ9_max_7cf53 6 = .ok (.goto 4, 3) := by decide +kernel
theorem dJ9_max_7cf53_9 : decode cJ9_max_7cf53 9 = .ok (.iload_n 1, 1) := by decide +kernel
theorem dJ9_max_7cf53_10 : decode cJ9_max_7cf53 10 = .ok (.ireturn, 1) := by decide +kernel
theorem dJ9_max_f86c9_0 : decode cJ9_max_f86c9 0 = .ok (.lload_n 0, 1) := by decide +kernel
theorem dJ9_max_f86c9_1 : decode cJ9_max_f86c9 1 = .ok (.lload_n 2, 1) := by decide +kernel
theorem dJ9_max_f86c9_2 : decode cJ9_max_f86c9 2 = .ok (.lcmp, 1) := by decide +kernel
theorem dJ9_max_f86c9_3 : decode cJ9_max_f86c9 3 = .ok (.ifCond .lt 7, 3) := by decide +kernel
theorem dJ9_max_f86c9_6 : decode cJ9_max_f86c9 6 = .ok (.lload_n 0, 1) := by decide +kernel
theorem dJ9_max_f86c9_7 : decode cJ9_max_f86c9 7 = .ok (.goto 4, 3) := by decide +kernel
theorem dJ9_max_f86c9_10 : decode cJ9_max_f86c9 10 = .ok (.lload_n 2, 1) := by decide +kernel
theorem dJ9_max_f86c9_11 : decode cJ9_max_f86c9 11 = .ok (.lreturn, 1) := by decide +kernel
theorem dJ9_min_7cf53_0 : decode cJ9_min_7cf53 0 = .ok (.iload_n 0, 1) := by decide +kernel
theorem dJ9_min_7cf53_1 : decode cJ9_min_7cf53 1 = .ok (.iload_n 1, 1) := by decide +kernel
theorem dJ9_min_7cf53_2 : decode cJ9_min_7cf53 2 = .ok (.if_icmp .gt 7, 3) := by decide +kernel
theorem dJ9_min_7cf53_5 : decode cJ9_min_7cf53 5 = .ok (.iload_n 0, 1) := by decide +kernel
theorem dJ9_min_7cf53_6 : decode cJ9_min_7cf53 6 = .ok (.goto 4, 3) := by decide +kernel
theorem dJ9_min_7cf53_9 : decode cJ9_min_7cf53 9 = .ok (.iload_n 1, 1) := by decide +kernel
theorem dJ9_min_7cf53_10 : decode cJ9_min_7cf53 10 = .ok (.ireturn, 1) := by decide +kernel
theorem dJ0_length_8abf5_0 : decode cJ0_length_8abf5 0 = .ok (.aload_n 0, 1) := by decide +kernel
theorem dJ0_length_8abf5_1 : decode cJ0_length_8abf5 1 = .ok (.getfield 9, 3) := by decide +kernel
theorem dJ0_length_8abf5_4 : decode cJ0_length_8abf5 4 = .ok (.arraylength, 1) := by decide +kernel
theorem dJ0_length_8abf5_5 : decode cJ0_length_8abf5 5 = .ok (.aload_n 0, 1) := by decide +kernel
theorem dJ0_length_8abf5_6 : decode cJ0_length_8abf5 6 = .ok (.invokevirtual 335, 3) := by decide +kernel
theorem dJ0_length_8abf5_9 : decode cJ0_length_8abf5 9 = .ok (.ishr, 1) := by decide +kernel
theorem dJ0_length_8abf5_10 : decode cJ0_length_8abf5 10 = .ok (.ireturn, 1) := by decide +kernel
theorem dJ0_indexOf_0f7a4_0 : decode cJ0_indexOf_0f7a4 0 = .ok (.aload_n 0, 1) := by decide +kernel
theorem dJ0_indexOf_0f7a4_1 : decode cJ0_indexOf_0f7a4 1 = .ok (.iload_n 1, 1) := by decide +kernel
theorem dJ0_indexOf_0f7a4_2 : decode cJ0_indexOf_0f7a4 2 = .ok (.iconst 0, 1) := by decide +kernel
theorem dJ0_indexOf_0f7a4_3 : decode cJ0_indexOf_0f7a4 3 = .ok (.invokevirtual 633, 3) := by decide +kernel
theorem dJ0_indexOf_0f7a4_6 : decode cJ0_indexOf_0f7a4 6 = .ok (.ireturn, 1) := by decide +kernel
theorem dJ0_indexOf_7cf53_0 : decode cJ0_indexOf_7cf53 0 = .ok (.aload_n 0, 1) := by decide +kernel
theorem dJ0_indexOf_7cf53_1 : decode cJ0_indexOf_7cf53 1 = .ok (.invokevirtual 492, 3) := by decide +kernel
theorem dJ0_indexOf_7cf53_4 : decode cJ0_indexOf_7cf53 4 = .ok (.ifCond .eq 19, 3) := by decide +kernel
theorem dJ0_indexOf_7cf53_7 : decode cJ0_indexOf_7cf53 7 = .ok (.aload_n 0, 1) := by decide +kernel
theorem dJ0_indexOf_7cf53_8 : decode cJ0_indexOf_7cf53 8 = .ok (.getfield 9, 3) := by decide +kernel
theorem dJ0_indexOf_7cf53_11 : decode cJ0_indexOf_7cf53 11 = .ok (.iload_n 1, 1) := by decide +kernel
theorem dJ0_indexOf_7cf53_12 : decode cJ0_indexOf_7cf53 12 = .ok (.iload_n 2, 1) := by decide +kernel
theorem dJ0_indexOf_7cf53_13 : decode cJ0_indexOf_7cf53 13 = .ok (.aload_n 0, 1) := by decide +kernel
theorem dJ0_indexOf_7cf53_14 : decode cJ0_indexOf_7cf53 14 = .ok (.invokevirtual 505, 3) := by decide +kernel
theorem dJ0_indexOf_7cf53_17 : decode cJ0_indexOf_7cf53 17 = .ok (.invokestatic 637, 3) := by decide +kernel
theorem dJ0_indexOf_7cf53_20 : decode cJ0_indexOf_7cf53 20 = .ok (.goto 16, 3) := by decide +kernel
theorem dJ0_indexOf_7cf53_23 : decode cJ0_indexOf_7cf53 23 = .ok (.aload_n 0, 1) := by decide +kernel
theorem dJ0_indexOf_7cf53_24 : decode cJ0_indexOf_7cf53 24 = .ok (.getfield 9, 3) := by decide +kernel
theorem dJ0_indexOf_7cf53_27 : decode cJ0_indexOf_7cf53 27 = .ok (.iload_n 1, 1) := by decide +kernel
theorem dJ0_indexOf_7cf53_28 : decode cJ0_indexOf_7cf53 28 = .ok (.iload_n 2, 1) := by decide +kernel
theorem dJ0_indexOf_7cf53_29 : decode cJ0_indexOf_7cf53 29 = .ok (.aload_n 0, 1) := by decide +kernel
theorem dJ0_indexOf_7cf53_30 : decode cJ0_indexOf_7cf53 30 = .ok (.invokevirtual 505, 3) := by decide +kernel
theorem dJ0_indexOf_7cf53_33 : decode cJ0_indexOf_7cf53 33 = .ok (.invokestatic 640, 3) := by decide +kernel
theorem dJ0_indexOf_7cf53_36 : decode cJ0_indexOf_7cf53 36 = .ok (.ireturn, 1) := by decide +kernel
theorem dJ0_coder_7d493_0 : decode cJ0_coder_7d493 0 = .ok (.getstatic 38, 3) := by decide +kernel
theorem dJ0_coder_7d493_3 : decode cJ0_coder_7d493 3 = .ok (.ifCond .eq 10, 3) := by decide +kernel
theorem dJ0_coder_7d493_6 : decode cJ0_coder_7d493 6 = .ok (.aload_n 0, 1) := by decide +kernel
theorem dJ0_coder_7d493_7 : decode cJ0_coder_7d493 7 = .ok (.getfield 15, 3) := by decide +kernel
theorem dJ0_coder_7d493_10 : decode cJ0_coder_7d493 10 = .ok (.goto 4, 3) := by decide +kernel
theorem dJ0_coder_7d493_13 : decode cJ0_coder_7d493 13 = .ok (.iconst 1, 1) := by decide +kernel
theorem dJ0_coder_7d493_14 : decode cJ0_coder_7d493 14 = .ok (.ireturn, 1) := by decide +kernel
theorem dJ0_isLatin1_aae02_0 : decode cJ0_isLatin1_aae02 0 = .ok (.getstatic 38, 3) := by decide +kernel
theorem dJ0_isLatin1_aae02_3 : decode cJ0_isLatin1_aae02 3 = .ok (.ifCond .eq 14, 3) := by decide +kernel
theorem dJ0_isLatin1_aae02_6 : decode cJ0_isLatin1_aae02 6 = .ok (.aload_n 0, 1) := by decide +kernel
theorem dJ0_isLatin1_aae02_7 : decode cJ0_isLatin1_aae02 7 = .ok (.getfield 15, 3) := by decide +kernel
theorem dJ0_isLatin1_aae02_10 : decode cJ0_isLatin1_aae02 10 = .ok (.ifCond .ne 7, 3) := by decide +kernel
theorem dJ0_isLatin1_aae02_13 : decode cJ0_isLatin1_aae02 13 = .ok (.iconst 1, 1) := by decide +kernel
theorem dJ0_isLatin1_aae02_14 : decode cJ0_isLatin1_aae02 14 = .ok (.goto 4, 3) := by decide +kernel
theorem dJ0_isLatin1_aae02_17 : decode cJ0_isLatin1_aae02 17 = .ok (.iconst 0, 1) := by decide +kernel
theorem dJ0_isLatin1_aae02_18 : decode cJ0_isLatin1_aae02 18 = .ok (.ireturn, 1) := by decide +kernel
theorem dJ0_checkBoundsBeginEnd_23922_0 : decode cJ0_checkBoundsBeginEnd_23922 0 = .ok (.iload_n 0, 1) := by decide +kernel
theorem dJ0_checkBoundsBeginEnd_23922_1 : decode cJ0_checkBoundsBeginEnd_23922 1 = .ok (.iload_n 1, 1) := by decide +kernel
theorem dJ0_checkBoundsBeginEnd_23922_2 : decode cJ0_checkBoundsBeginEnd_23922 2 = .ok (.iload_n 2, 1) := by decide +kernel
theorem dJ0_checkBoundsBeginEnd_23922_3 : decode cJ0_checkBoundsBeginEnd_23922 3 = .ok (.getstatic 1053, 3) := by decide +kernel
theorem dJ0_checkBoundsBeginEnd_23922_6 : decode cJ0_checkBoundsBeginEnd_23922 6 = .ok (.invokestatic 1062, 3) := by decide +kernel
theorem dJ0_checkBoundsBeginEnd_23922_9 : decode cJ0_checkBoundsBeginEnd_23922 9 = .ok (.pop, 1) := by decide +kernel
theorem dJ0_checkBoundsBeginEnd_23922_10 : decode cJ0_checkBoundsBeginEnd_23922 10 = .ok (.return_, 1) := by decide +kernel
theorem dJ1_canEncode_9a6ad_0 : decode cJ1_canEncode_9a6ad 0 = .ok (.iload_n 0, 1) := by decide +kernel
theorem dJ1_canEncode_9a6ad_1 : decode cJ1_canEncode_9a6ad 1 = .ok (.ifCond .lt 14, 3) := by decide +kernel
theorem dJ1_canEncode_9a6ad_4 : decode cJ1_canEncode_9a6ad 4 = .ok (.iload_n 0, 1) := by decide +kernel
theorem dJ1_canEncode_9a6ad_5 : decode cJ1_canEncode_9a6ad 5 = .ok (.sipush 255, 3) := by decide +kernel
theorem dJ1_canEncode_9a6ad_8 : decode cJ1_canEncode_9a6ad 8 = .ok (.if_icmp .gt 7, 3) := by decide +kernel
theorem dJ1_canEncode_9a6ad_11 : decode cJ1_canEncode_9a6ad 11 = .ok (.iconst 1, 1) := by decide +kernel
theorem dJ1_canEncode_9a6ad_12 : decode cJ1_canEncode_9a6ad 12 = .ok (.goto 4, 3) := by decide +kernel
theorem dJ1_canEncode_9a6ad_15 : decode cJ1_canEncode_9a6ad 15 = .ok (.iconst 0, 1) := by decide +kernel
theorem dJ1_canEncode_9a6ad_16 : decode cJ1_canEncode_9a6ad 16 = .ok (.ireturn, 1) := by decide +kernel
theorem dJ1_indexOf_4cfef_0 : decode cJ1_indexOf_4cfef 0 = .ok (.iload_n 1, 1) := by decide +kernel
theorem dJ1_indexOf_4cfef_1 : decode cJ1_indexOf_4cfef 1 = .ok (.invokestatic 88, 3) := by decide +kernel
theorem dJ1_indexOf_4cfef_4 : decode cJ1_indexOf_4cfef 4 = .ok (.ifCond .ne 5, 3) := by decide +kernel
theorem dJ1_indexOf_4cfef_7 : decode cJ1_indexOf_4cfef 7 = .ok (.iconst (-1), 1) := by decide +kernel
theorem dJ1_indexOf_4cfef_8 : decode cJ1_indexOf_4cfef 8 = .ok (.ireturn, 1) := by decide +kernel
theorem dJ1_indexOf_4cfef_9 : decode cJ1_indexOf_4cfef 9 = .ok (.iload_n 2, 1) := by decide +kernel
theorem dJ1_indexOf_4cfef_10 : decode cJ1_indexOf_4cfef 10 = .ok (.iconst 0, 1) := by decide +kernel
theorem dJ1_indexOf_4cfef_11 : decode cJ1_indexOf_4cfef 11 = .ok (.invokestatic 92, 3) := by decide +kernel
theorem dJ1_indexOf_4cfef_14 : decode cJ1_indexOf_4cfef 14 = .ok (.istore_n 2, 1) := by decide +kernel
theorem dJ1_indexOf_4cfef_15 : decode cJ1_indexOf_4cfef 15 = .ok (.iload_n 3, 1) := by decide +kernel
theorem dJ1_indexOf_4cfef_16 : decode cJ1_indexOf_4cfef 16 = .ok (.aload_n 0, 1) := by decide +kernel
theorem dJ1_indexOf_4cfef_17 : decode cJ1_indexOf_4cfef 17 = .ok (.arraylength, 1) := by decide +kernel
theorem dJ1_indexOf_4cfef_18 : decode cJ1_indexOf_4cfef 18 = .ok (.invokestatic 38, 3) := by decide +kernel
theorem dJ1_indexOf_4cfef_21 : decode cJ1_indexOf_4cfef 21 = .ok (.istore_n 3, 1) := by decide +kernel
theorem dJ1_indexOf_4cfef_22 : decode cJ1_indexOf_4cfef 22 = .ok (.iload_n 2, 1) := by decide +kernel
theorem dJ1_indexOf_4cfef_23 : decode cJ1_indexOf_4cfef 23 = .ok (.iload_n 3, 1) := by decide +kernel
theorem dJ1_indexOf_4cfef_24 : decode cJ1_indexOf_4cfef 24 = .ok (.if_icmp .lt 5, 3) := by decide +kernel
theorem dJ1_indexOf_4cfef_27 : decode cJ1_indexOf_4cfef 27 = .ok (.iconst (-1), 1) := by decide +kernel
theorem dJ1_indexOf_4cfef_28 : decode cJ1_indexOf_4cfef 28 = .ok (.ireturn, 1) := by decide +kernel
theorem dJ1_indexOf_4cfef_29 : decode cJ1_indexOf_4cfef 29 = .ok (.aload_n 0, 1) := by decide +kernel
theorem dJ1_indexOf_4cfef_30 : decode cJ1_indexOf_4cfef 30 = .ok (.iload_n 1, 1) := by decide +kernel
theorem dJ1_indexOf_4cfef_31 : decode cJ1_indexOf_4cfef 31 = .ok (.iload_n 2, 1) := by decide +kernel
theorem dJ1_indexOf_4cfef_32 : decode cJ1_indexOf_4cfef 32 = .ok (.iload_n 3, 1) := by decide +kernel
theorem dJ1_indexOf_4cfef_33 : decode cJ1_indexOf_4cfef 33 = .ok (.invokestatic 95, 3) := by decide +kernel
theorem dJ1_indexOf_4cfef_36 : decode cJ1_indexOf_4cfef 36 = .ok (.ireturn, 1) := by decide +kernel
theorem dJ1_indexOfChar_4cfef_0 : decode cJ1_indexOfChar_4cfef 0 = .ok (.iload_n 1, 1) := by decide +kernel
theorem dJ1_indexOfChar_4cfef_1 : decode cJ1_indexOfChar_4cfef 1 = .ok (.i2b, 1) := by decide +kernel
theorem dJ1_indexOfChar_4cfef_2 : decode cJ1_indexOfChar_4cfef 2 = .ok (.istore 4, 2) := by decide +kernel
theorem dJ1_indexOfChar_4cfef_4 : decode cJ1_indexOfChar_4cfef 4 = .ok (.iload_n 2, 1) := by decide +kernel
theorem dJ1_indexOfChar_4cfef_5 : decode cJ1_indexOfChar_4cfef 5 = .ok (.istore 5, 2) := by decide +kernel
theorem dJ1_indexOfChar_4cfef_7 : decode cJ1_indexOfChar_4cfef 7 = .ok (.iload 5, 2) := by decide +kernel
theorem dJ1_indexOfChar_4cfef_9 : decode cJ1_indexOfChar_4cfef 9 = .ok (.iload_n 3, 1) := by decide +kernel
theorem dJ1_indexOfChar_4cfef_10 : decode cJ1_indexOfChar_4cfef 10 = .ok (.if_icmp .ge 21, 3) := by decide +kernel
theorem dJ1_indexOfChar_4cfef_13 : decode cJ1_indexOfChar_4cfef 13 = .ok (.aload_n 0, 1) := by decide +kernel
theorem dJ1_indexOfChar_4cfef_14 : decode cJ1_indexOfChar_4cfef 14 = .ok (.iload 5, 2) := by decide +kernel
theorem dJ1_indexOfChar_4cfef_16 : decode cJ1_indexOfChar_4cfef 16 = .ok (.baload, 1) := by decide +kernel
theorem dJ1_indexOfChar_4cfef_17 : decode cJ1_indexOfChar_4cfef 17 = .ok (.iload 4, 2) := by decide +kernel
theorem dJ1_indexOfChar_4cfef_19 : decode cJ1_indexOfChar_4cfef 19 = .ok (.if_icmp .ne 6, 3) := by decide +kernel
theorem dJ1_indexOfChar_4cfef_22 : decode cJ1_indexOfChar_4cfef 22 = .ok (.iload 5, 2) := by decide +kernel
theorem dJ1_indexOfChar_4cfef_24 : decode cJ1_indexOfChar_4cfef 24 = .ok (.ireturn, 1) := by decide +kernel
theorem dJ1_indexOfChar_4cfef_25 : decode cJ1_indexOfChar_4cfef 25 = .ok (.iinc 5 1, 3) := by decide +kernel
theorem dJ1_indexOfChar_4cfef_28 : decode cJ1_indexOfChar_4cfef 28 = .ok (.goto (-21), 3) := by decide +kernel
theorem dJ1_indexOfChar_4cfef_31 : decode cJ1_indexOfChar_4cfef 31 = .ok (.iconst (-1), 1) := by decide +kernel
theorem dJ1_indexOfChar_4cfef_32 : decode cJ1_indexOfChar_4cfef 32 = .ok (.ireturn, 1) := by decide +kernel
theorem dJ2_getChar_3b067_0 : decode cJ2_getChar_3b067 0 = .ok (.getstatic 44, 3) := by decide +kernel
theorem dJ2_getChar_3b067_3 : decode cJ2_getChar_3b067 3 = .ok (.ifCond .ne 25, 3) := by decide +kernel
theorem dJ2_getChar_3b067_6 : decode cJ2_getChar_3b067 6 = .ok (.iload_n 1, 1) := by decide +kernel
theorem dJ2_getChar_3b067_7 : decode cJ2_getChar_3b067 7 = .ok (.ifCond .lt 11, 3) := by decide +kernel
theorem dJ2_getChar_3b067_10 : decode cJ2_getChar_3b067 10 = .ok (.iload_n 1, 1) := by decide +kernel
theorem dJ2_getChar_3b067_11 : decode cJ2_getChar_3b067 11 = .ok (.aload_n 0, 1) := by decide +kernel
theorem dJ2_getChar_3b067_12 : decode cJ2_getChar_3b067 12 = .ok (.invokestatic 48, 3) := by decide +kernel
theorem dJ2_getChar_3b067_15 : decode cJ2_getChar_3b067 15 = .ok (.if_icmp .lt 13, 3) := by decide +kernel
theorem dJ2_getChar_3b067_18 : decode cJ2_getChar_3b067 18 = .ok (.new 52, 3) := by decide +kernel
theorem dJ2_getChar_3b067_21 : decode cJ2_getChar_3b067 21 = .ok (.dup, 1) := by decide +kernel
theorem dJ2_getChar_3b067_22 : decode cJ2_getChar_3b067 22 = .ok (.ldc 54, 2) := by decide +kernel
theorem dJ2_getChar_3b067_24 : decode cJ2_getChar_3b067 24 = .ok (.invokespecial 56, 3) := by decide +kernel
theorem dJ2_getChar_3b067_27 : decode cJ2_getChar_3b067 27 = .ok (.athrow, 1) := by decide +kernel
theorem dJ2_getChar_3b067_28 : decode cJ2_getChar_3b067 28 = .ok (.iload_n 1, 1) := by decide +kernel
theorem dJ2_getChar_3b067_29 : decode cJ2_getChar_3b067 29 = .ok (.iconst 1, 1) := by decide +kernel
theorem dJ2_getChar_3b067_30 : decode cJ2_getChar_3b067 30 = .ok (.ishl, 1) := by decide +kernel
theorem dJ2_getChar_3b067_31 : decode cJ2_getChar_3b067 31 = .ok (.istore_n 1, 1) := by decide +kernel
theorem dJ2_getChar_3b067_32 : decode cJ2_getChar_3b067 32 = .ok (.aload_n 0, 1) := by decide +kernel
theorem dJ2_getChar_3b067_33 : decode cJ2_getChar_3b067 33 = .ok (.iload_n 1, 1) := by decide +kernel
theorem dJ2_getChar_3b067_34 : decode cJ2_getChar_3b067 34 = .ok (.iinc 1 1, 3) := by decide +kernel
theorem dJ2_getChar_3b067_37 : decode cJ2_getChar_3b067 37 = .ok (.baload, 1) := by decide +kernel
theorem dJ2_getChar_3b067_38 : decode cJ2_getChar_3b067 38 = .ok (.sipush 255, 3) := by decide +kernel
theorem dJ2_getChar_3b067_41 : decode cJ2_getChar_3b067 41 = .ok (.iand, 1) := by decide +kernel
theorem dJ2_getChar_3b067_42 : decode cJ2_getChar_3b067 42 = .ok (.getstatic 59, 3) := by decide +kernel
theorem dJ2_getChar_3b067_45 : decode cJ2_getChar_3b067 45 = .ok (.ishl, 1) := by decide +kernel
theorem dJ2_getChar_3b067_46 : decode cJ2_getChar_3b067 46 = .ok (.aload_n 0, 1) := by decide +kernel
theorem dJ2_getChar_3b067_47 : decode cJ2_getChar_3b067 47 = .ok (.iload_n 1, 1) := by decide +kernel
theorem dJ2_getChar_3b067_48 : decode cJ2_getChar_3b067 48 = .ok (.baload, 1) := by decide +kernel
theorem dJ2_getChar_3b067_49 : decode cJ2_getChar_3b067 49 = .ok (.sipush 255, 3) := by decide +kernel
theorem dJ2_getChar_3b067_52 : decode cJ2_getChar_3b067 52 = .ok (.iand, 1) := by decide +kernel
theorem dJ2_getChar_3b067_53 : decode cJ2_getChar_3b067 53 = .ok (.getstatic 63, 3) := by decide +kernel
theorem dJ2_getChar_3b067_56 : decode cJ2_getChar_3b067 56 = .ok (.ishl, 1) := by decide +kernel
theorem dJ2_getChar_3b067_57 : decode cJ2_getChar_3b067 57 = .ok (.ior, 1) := by decide +kernel
theorem dJ2_getChar_3b067_58 : decode cJ2_getChar_3b067 58 = .ok (.i2c, 1) := by decide +kernel
theorem dJ2_getChar_3b067_59 : decode cJ2_getChar_3b067 59 = .ok (.ireturn, 1) := by decide +kernel
theorem dJ2_length_9d52b_0 : decode cJ2_length_9d52b 0 = .ok (.aload_n 0, 1) := by decide +kernel
theorem dJ2_length_9d52b_1 : decode cJ2_length_9d52b 1 = .ok (.arraylength, 1) := by decide +kernel
theorem dJ2_length_9d52b_2 : decode cJ2_length_9d52b 2 = .ok (.iconst 1, 1) := by decide +kernel
theorem dJ2_length_9d52b_3 : decode cJ2_length_9d52b 3 = .ok (.ishr, 1) := by decide +kernel
theorem dJ2_length_9d52b_4 : decode cJ2_length_9d52b 4 = .ok (.ireturn, 1) := by decide +kernel
theorem dJ2_indexOf_4cfef_0 : decode cJ2_indexOf_4cfef 0 = .ok (.iload_n 2, 1) := by decide +kernel
theorem dJ2_indexOf_4cfef_1 : decode cJ2_indexOf_4cfef 1 = .ok (.iconst 0, 1) := by decide +kernel
theorem dJ2_indexOf_4cfef_2 : decode cJ2_indexOf_4cfef 2 = .ok (.invokestatic 224, 3) := by decide +kernel
theorem dJ2_indexOf_4cfef_5 : decode cJ2_indexOf_4cfef 5 = .ok (.istore_n 2, 1) := by decide +kernel
theorem dJ2_indexOf_4cfef_6 : decode cJ2_indexOf_4cfef 6 = .ok (.iload_n 3, 1) := by decide +kernel
theorem dJ2_indexOf_4cfef_7 : decode cJ2_indexOf_4cfef 7 = .ok (.aload_n 0, 1) := by decide +kernel
theorem dJ2_indexOf_4cfef_8 : decode cJ2_indexOf_4cfef 8 = .ok (.arraylength, 1) := by decide +kernel
theorem dJ2_indexOf_4cfef_9 : decode cJ2_indexOf_4cfef 9 = .ok (.iconst 1, 1) := by decide +kernel
theorem dJ2_indexOf_4cfef_10 : decode cJ2_indexOf_4cfef 10 = .ok (.ishr, 1) := by decide +kernel
theorem dJ2_indexOf_4cfef_11 : decode cJ2_indexOf_4cfef 11 = .ok (.invokestatic 183, 3) := by decide +kernel
theorem dJ2_indexOf_4cfef_14 : decode cJ2_indexOf_4cfef 14 = .ok (.istore_n 3, 1) := by decide +kernel
theorem dJ2_indexOf_4cfef_15 : decode cJ2_indexOf_4cfef 15 = .ok (.iload_n 2, 1) := by decide +kernel
theorem dJ2_indexOf_4cfef_16 : decode cJ2_indexOf_4cfef 16 = .ok (.iload_n 3, 1) := by decide +kernel
theorem dJ2_indexOf_4cfef_17 : decode cJ2_indexOf_4cfef 17 = .ok (.if_icmp .lt 5, 3) := by decide +kernel
theorem dJ2_indexOf_4cfef_20 : decode cJ2_indexOf_4cfef 20 = .ok (.iconst (-1), 1) := by decide +kernel
theorem dJ2_indexOf_4cfef_21 : decode cJ2_indexOf_4cfef 21 = .ok (.ireturn, 1) := by decide +kernel
theorem dJ2_indexOf_4cfef_22 : decode cJ2_indexOf_4cfef 22 = .ok (.iload_n 1, 1) := by decide +kernel
theorem dJ2_indexOf_4cfef_23 : decode cJ2_indexOf_4cfef 23 = .ok (.ldc 227, 2) := by decide +kernel
theorem dJ2_indexOf_4cfef_25 : decode cJ2_indexOf_4cfef 25 = .ok (.if_icmp .ge 11, 3) := by decide +kernel
theorem dJ2_indexOf_4cfef_28 : decode cJ2_indexOf_4cfef 28 = .ok (.aload_n 0, 1) := by decide +kernel
theorem dJ2_indexOf_4cfef_29 : decode cJ2_indexOf_4cfef 29 = .ok (.iload_n 1, 1) := by decide +kernel
theorem dJ2_indexOf_4cfef_30 : decode cJ2_indexOf_4cfef 30 = .ok (.iload_n 2, 1) := by decide +kernel
theorem dJ2_indexOf_4cfef_31 : decode cJ2_indexOf_4cfef 31 = .ok (.iload_n 3, 1) := by decide +kernel
theorem dJ2_indexOf_4cfef_32 : decode cJ2_indexOf_4cfef 32 = .ok (.invokestatic 228, 3) := by decide +kernel
theorem dJ2_indexOf_4cfef_35 : decode cJ2_indexOf_4cfef 35 = .ok (.ireturn, 1) := by decide +kernel
theorem dJ2_indexOf_4cfef_36 : decode cJ2_indexOf_4cfef 36 = .ok (.aload_n 0, 1) := by decide +kernel
theorem dJ2_indexOf_4cfef_37 : decode cJ2_indexOf_4cfef 37 = .ok (.iload_n 1, 1) := by decide +kernel
theorem dJ2_indexOf_4cfef_38 : decode cJ2_indexOf_4cfef 38 = .ok (.iload_n 2, 1) := by decide +kernel
theorem dJ2_indexOf_4cfef_39 : decode cJ2_indexOf_4cfef 39 = .ok (.iload_n 3, 1) := by decide +kernel
theorem dJ2_indexOf_4cfef_40 : decode cJ2_indexOf_4cfef 40 = .ok (.invokestatic 232, 3) := by decide +kernel
theorem dJ2_indexOf_4cfef_43 : decode cJ2_indexOf_4cfef 43 = .ok (.ireturn, 1) := by decide +kernel
theorem dJ2_indexOfChar_4cfef_0 : decode cJ2_indexOfChar_4cfef 0 = .ok (.iload_n 2, 1) := by decide +kernel
theorem dJ2_indexOfChar_4cfef_1 : decode cJ2_indexOfChar_4cfef 1 = .ok (.iload_n 3, 1) := by decide +kernel
theorem dJ2_indexOfChar_4cfef_2 : decode cJ2_indexOfChar_4cfef 2 = .ok (.aload_n 0, 1) := by decide +kernel
theorem dJ2_indexOfChar_4cfef_3 : decode cJ2_indexOfChar_4cfef 3 = .ok (.invokestatic 96, 3) := by decide +kernel
theorem dJ2_indexOfChar_4cfef_6 : decode cJ2_indexOfChar_4cfef 6 = .ok (.aload_n 0, 1) := by decide +kernel
theorem dJ2_indexOfChar_4cfef_7 : decode cJ2_indexOfChar_4cfef 7 = .ok (.iload_n 1, 1) := by decide +kernel
theorem dJ2_indexOfChar_4cfef_8 : decode cJ2_indexOfChar_4cfef 8 = .ok (.iload_n 2, 1) := by decide +kernel
theorem dJ2_indexOfChar_4cfef_9 : decode cJ2_indexOfChar_4cfef 9 = .ok (.iload_n 3, 1) := by decide +kernel
theorem dJ2_indexOfChar_4cfef_10 : decode cJ2_indexOfChar_4cfef 10 = .ok (.invokestatic 244, 3) := by decide +kernel
theorem dJ2_indexOfChar_4cfef_13 : decode cJ2_indexOfChar_4cfef 13 = .ok (.ireturn, 1) := by decide +kernel
theorem dJ2_indexOfCharUnsafe_4cfef_0 : decode cJ2_indexOfCharUnsafe_4cfef 0 = .ok (.iload_n 2, 1) := by decide +kernel
theorem dJ2_indexOfCharUnsafe_4cfef_1 : decode cJ2_indexOfCharUnsafe_4cfef 1 = .ok (.istore 4, 2) := by decide +kernel
theorem dJ2_indexOfCharUnsafe_4cfef_3 : decode cJ2_indexOfCharUnsafe_4cfef 3 = .ok (.iload 4, 2) := by decide +kernel
theorem dJ2_indexOfCharUnsafe_4cfef_5 : decode cJ2_indexOfCharUnsafe_4cfef 5 = .ok (.iload_n 3, 1) := by decide +kernel
theorem dJ2_indexOfCharUnsafe_4cfef_6 : decode cJ2_indexOfCharUnsafe_4cfef 6 = .ok (.if_icmp .ge 22, 3) := by decide +kernel
theorem dJ2_indexOfCharUnsafe_4cfef_9 : decode cJ2_indexOfCharUnsafe_4cfef 9 = .ok (.aload_n 0, 1) := by decide +kernel
theorem dJ2_indexOfCharUnsafe_4cfef_10 : decode cJ2_indexOfCharUnsafe_4cfef 10 = .ok (.iload 4, 2) := by decide +kernel
theorem dJ2_indexOfCharUnsafe_4cfef_12 : decode cJ2_indexOfCharUnsafe_4cfef 12 = .ok (.invokestatic 71, 3) := by decide +kernel
theorem dJ2_indexOfCharUnsafe_4cfef_15 : decode cJ2_indexOfCharUnsafe_4cfef 15 = .ok (.iload_n 1, 1) := by decide +kernel
theorem dJ2_indexOfCharUnsafe_4cfef_16 : decode cJ2_indexOfCharUnsafe_4cfef 16 = .ok (.if_icmp .ne 6, 3) := by decide +kernel
theorem dJ2_indexOfCharUnsafe_4cfef_19 : decode cJ2_indexOfCharUnsafe_4cfef 19 = .ok (.iload 4, 2) := by decide +kernel
theorem dJ2_indexOfCharUnsafe_4cfef_21 : decode cJ2_indexOfCharUnsafe_4cfef 21 = .ok (.ireturn, 1) := by decide +kernel
theorem dJ2_indexOfCharUnsafe_4cfef_22 : decode cJ2_indexOfCharUnsafe_4cfef 22 = .ok (.iinc 4 1, 3) := by decide +kernel
theorem dJ2_indexOfCharUnsafe_4cfef_25 : decode cJ2_indexOfCharUnsafe_4cfef 25 = .ok (.goto (-22), 3) := by decide +kernel
theorem dJ2_indexOfCharUnsafe_4cfef_28 : decode cJ2_indexOfCharUnsafe_4cfef 28 = .ok (.iconst (-1), 1) := by decide +kernel
theorem dJ2_indexOfCharUnsafe_4cfef_29 : decode cJ2_indexOfCharUnsafe_4cfef 29 = .ok (.ireturn, 1) := by decide +kernel
theorem dJ2_indexOfSupplementary_4cfef_0 : decode cJ2_indexOfSupplementary_4cfef 0 = .ok (.iload_n 1, 1) := by decide +kernel
theorem dJ2_indexOfSupplementary_4cfef_1 : decode cJ2_indexOfSupplementary_4cfef 1 = .ok (.invokestatic 164, 3) := by decide +kernel
theorem dJ2_indexOfSupplementary_4cfef_4 : decode cJ2_indexOfSupplementary_4cfef 4 = .ok (.ifCond .eq 65, 3) := by decide +kernel
theorem dJ2_indexOfSupplementary_4cfef_7 : decode cJ2_indexOfSupplementary_4cfef 7 = .ok (.iload_n 1, 1) := by decide +kernel
theorem dJ2_indexOfSupplementary_4cfef_8 : decode cJ2_indexOfSupplementary_4cfef 8 = .ok (.invokestatic 157, 3) := by decide +kernel
theorem dJ2_indexOfSupplementary_4cfef_11 : decode cJ2_indexOfSupplementary_4cfef 11 = .ok (.istore 4, 2) := by decide +kernel
theorem dJ2_indexOfSupplementary_4cfef_13 : decode cJ2_indexOfSupplementary_4cfef 13 = .ok (.iload_n 1, 1) := by decide +kernel
theorem dJ2_indexOfSupplementary_4cfef_14 : decode cJ2_indexOfSupplementary_4cfef 14 = .ok (.invokestatic 161, 3) := by decide +kernel
theorem dJ2_indexOfSupplementary_4cfef_17 : decode cJ2_indexOfSupplementary_4cfef 17 = .ok (.istore 5, 2) := by decide +kernel
theorem dJ2_indexOfSupplementary_4cfef_19 : decode cJ2_indexOfSupplementary_4cfef 19 = .ok (.iload_n 2, 1) := by decide +kernel
theorem dJ2_indexOfSupplementary_4cfef_20 : decode cJ2_indexOfSupplementary_4cfef 20 = .ok (.iload_n 3, 1) := by decide +kernel
theorem dJ2_indexOfSupplementary_4cfef_21 : decode cJ2_indexOfSupplementary_4cfef 21 = .ok (.aload_n 0, 1) := by decide +kernel
theorem dJ2_indexOfSupplementary_4cfef_22 : decode cJ2_indexOfSupplementary_4cfef 22 = .ok (.invokestatic 96, 3) := by decide +kernel
theorem dJ2_indexOfSupplementary_4cfef_25 : decode cJ2_indexOfSupplementary_4cfef 25 = .ok (.iload_n 2, 1) := by decide +kernel
theorem dJ2_indexOfSupplementary_4cfef_26 : decode cJ2_indexOfSupplementary_4cfef 26 = .ok (.istore 6, 2) := by decide +kernel
theorem dJ2_indexOfSupplementary_4cfef_28 : decode cJ2_indexOfSupplementary_4cfef 28 = .ok (.iload 6, 2) := by decide +kernel
theorem dJ2_indexOfSupplementary_4cfef_30 : decode cJ2_indexOfSupplementary_4cfef 30 = .ok (.iload_n 3, 1) := by decide +kernel
theorem dJ2_indexOfSupplementary_4cfef_31 : decode cJ2_indexOfSupplementary_4cfef 31 = .ok (.iconst 1, 1) := by decide +kernel
theorem dJ2_indexOfSupplementary_4cfef_32 : decode cJ2_indexOfSupplementary_4cfef 32 = .ok (.isub, 1) := by decide +kernel
theorem dJ2_indexOfSupplementary_4cfef_33 : decode cJ2_indexOfSupplementary_4cfef 33 = .ok (.if_icmp .ge 36, 3) := by decide +kernel
theorem dJ2_indexOfSupplementary_4cfef_36 : decode cJ2_indexOfSupplementary_4cfef 36 = .ok (.aload_n 0, 1) := by decide +kernel
theorem dJ2_indexOfSupplementary_4cfef_37 : decode cJ2_indexOfSupplementary_4cfef 37 = .ok (.iload 6, 2) := by decide +kernel
theorem dJ2_indexOfSupplementary_4cfef_39 : decode cJ2_indexOfSupplementary_4cfef 39 = .ok (.invokestatic 71, 3) := by decide +kernel
theorem dJ2_indexOfSupplementary_4cfef_42 : decode cJ2_indexOfSupplementary_4cfef 42 = .ok (.iload 4, 2) := by decide +kernel
theorem dJ2_indexOfSupplementary_4cfef_44 : decode cJ2_indexOfSupplementary_4cfef 44 = .ok (.if_icmp .ne 19, 3) := by decide +kernel
theorem dJ2_indexOfSupplementary_4cfef_47 : decode cJ2_indexOfSupplementary_4cfef 47 = .ok (.aload_n 0, 1) := by decide +kernel
theorem dJ2_indexOfSupplementary_4cfef_48 : decode cJ2_indexOfSupplementary_4cfef 48 = .ok (.iload 6, 2) := by decide +kernel
theorem dJ2_indexOfSupplementary_4cfef_50 : decode cJ2_indexOfSupplementary_4cfef 50 = .ok (.iconst 1, 1) := by decide +kernel
theorem dJ2_indexOfSupplementary_4cfef_51 : decode cJ2_indexOfSupplementary_4cfef 51 = .ok (.iadd, 1) := by decide +kernel
theorem dJ2_indexOfSupplementary_4cfef_52 : decode cJ2_indexOfSupplementary_4cfef 52 = .ok (.invokestatic 71, 3) := by decide +kernel
theorem dJ2_indexOfSupplementary_4cfef_55 : decode cJ2_indexOfSupplementary_4cfef 55 = .ok (.iload 5, 2) := by decide +kernel
theorem dJ2_indexOfSupplementary_4cfef_57 : decode cJ2_indexOfSupplementary_4cfef 57 = .ok (.if_icmp .ne 6, 3) := by decide +kernel
theorem dJ2_indexOfSupplementary_4cfef_60 : decode cJ2_indexOfSupplementary_4cfef 60 = .ok (.iload 6, 2) := by decide +kernel
theorem dJ2_indexOfSupplementary_4cfef_62 : decode cJ2_indexOfSupplementary_4cfef 62 = .ok (.ireturn, 1) := by decide +kernel
theorem dJ2_indexOfSupplementary_4cfef_63 : decode cJ2_indexOfSupplementary_4cfef 63 = .ok (.iinc 6 1, 3) := by decide +kernel
theorem dJ2_indexOfSupplementary_4cfef_66 : decode cJ2_indexOfSupplementary_4cfef 66 = .ok (.goto (-38), 3) := by decide +kernel
theorem dJ2_indexOfSupplementary_4cfef_69 : decode cJ2_indexOfSupplementary_4cfef 69 = .ok (.iconst (-1), 1) := by decide +kernel
theorem dJ2_indexOfSupplementary_4cfef_70 : decode cJ2_indexOfSupplementary_4cfef 70 = .ok (.ireturn, 1) := by decide +kernel
theorem dJ2_checkBoundsBeginEnd_d044e_0 : decode cJ2_checkBoundsBeginEnd_d044e 0 = .ok (.iload_n 0, 1) := by decide +kernel
theorem dJ2_checkBoundsBeginEnd_d044e_1 : decode cJ2_checkBoundsBeginEnd_d044e 1 = .ok (.iload_n 1, 1) := by decide +kernel
theorem dJ2_checkBoundsBeginEnd_d044e_2 : decode cJ2_checkBoundsBeginEnd_d044e 2 = .ok (.aload_n 2, 1) := by decide +kernel
theorem dJ2_checkBoundsBeginEnd_d044e_3 : decode cJ2_checkBoundsBeginEnd_d044e 3 = .ok (.invokestatic 48, 3) := by decide +kernel
theorem dJ2_checkBoundsBeginEnd_d044e_6 : decode cJ2_checkBoundsBeginEnd_d044e 6 = .ok (.invokestatic 241, 3) := by decide +kernel
theorem dJ2_checkBoundsBeginEnd_d044e_9 : decode cJ2_checkBoundsBeginEnd_d044e 9 = .ok (.return_, 1) := by decide +kernel
theorem dJ3_checkFromToIndex_8c36e_0 : decode cJ3_checkFromToIndex_8c36e 0 = .ok (.iload_n 0, 1) := by decide +kernel
theorem dJ3_checkFromToIndex_8c36e_1 : decode cJ3_checkFromToIndex_8c36e 1 = .ok (.ifCond .lt 13, 3) := by decide +kernel
theorem dJ3_checkFromToIndex_8c36e_4 : decode cJ3_checkFromToIndex_8c36e 4 = .ok (.iload_n 0, 1) := by decide +kernel
theorem dJ3_checkFromToIndex_8c36e_5 : decode cJ3_checkFromToIndex_8c36e 5 = .ok (.iload_n 1, 1) := by decide +kernel
theorem dJ3_checkFromToIndex_8c36e_6 : decode cJ3_checkFromToIndex_8c36e 6 = .ok (.if_icmp .gt 8, 3) := by decide +kernel
theorem dJ3_checkFromToIndex_8c36e_9 : decode cJ3_checkFromToIndex_8c36e 9 = .ok (.iload_n 1, 1) := by decide +kernel
theorem dJ3_checkFromToIndex_8c36e_10 : decode cJ3_checkFromToIndex_8c36e 10 = .ok (.iload_n 2, 1) := by decide +kernel
theorem dJ3_checkFromToIndex_8c36e_11 : decode cJ3_checkFromToIndex_8c36e 11 = .ok (.if_icmp .le 11, 3) := by decide +kernel
theorem dJ3_checkFromToIndex_8c36e_14 : decode cJ3_checkFromToIndex_8c36e 14 = .ok (.aload_n 3, 1) := by decide +kernel
theorem dJ3_checkFromToIndex_8c36e_15 : decode cJ3_checkFromToIndex_8c36e 15 = .ok (.iload_n 0, 1) := by decide +kernel
theorem dJ3_checkFromToIndex_8c36e_16 : decode cJ3_checkFromToIndex_8c36e 16 = .ok (.iload_n 1, 1) := by decide +kernel
theorem dJ3_checkFromToIndex_8c36e_17 : decode cJ3_checkFromToIndex_8c36e 17 = .ok (.iload_n 2, 1) := by decide +kernel
theorem dJ3_checkFromToIndex_8c36e_18 : decode cJ3_checkFromToIndex_8c36e 18 = .ok (.invokestatic 99, 3) := by decide +kernel
theorem dJ3_checkFromToIndex_8c36e_21 : decode cJ3_checkFromToIndex_8c36e 21 = .ok (.athrow, 1) := by decide +kernel
theorem dJ3_checkFromToIndex_8c36e_22 : decode cJ3_checkFromToIndex_8c36e 22 = .ok (.iload_n 0, 1) := by decide +kernel
theorem dJ3_checkFromToIndex_8c36e_23 : decode cJ3_checkFromToIndex_8c36e 23 = .ok (.ireturn, 1) := by decide +kernel
end
section
/-! ===== J: walks over the whole world, its cells by their numbers ===== -/
/-- what the int cells and the long cells hold: cell, place -/
abbrev jWd : Type := (Nat → Nat → Int32) × (Nat → Nat → Int64)
/-- kind of a cell, how many places, what the places are (kind, number) -/
abbrev jLK : Type := Nat × Nat × List (Nat × Nat)
abbrev jG : Type := Launch × (Nat → ClassId) × (Nat → Nat → Nat) × (Nat → Nat) × (Nat → ClassId)
abbrev jad (G : jG) : Nat → Nat := G.2.2.2.1
abbrev jcA (G : jG) : Nat → ClassId := G.2.2.2.2
abbrev jD (G : jG) : va_G := (G.2.1, G.2.2.1)
def jBlkS (b : Nat) : List (Nat × Nat) := [(2, b + 1), (2, b + 2), (2, b + 3), (2, b + 4), (2, b + 5), (2, b + 6), (2, b + 7), (2, b + 8), (0, 0), (0, 0), (0, 0), (0, 0), (0, 0), (0, 0), (0, 0), (0, 0), (0, 0)]
def jTxtS (t n : Nat) : List (Nat × Nat) := [(2, n), (0, 0), (0, 0), (2, t + 1), (2, t + 2), (0, 0)]
def jBlk (b : Nat) : List jLK := [(5, 17, jBlkS b), (0, 8, []), (0, 8, []), (0, 8, []), (0, 8, []), (0, 8, []), (0, 60, []), (0, 24, []), (4, 2, [(2, b + 9), (2, b + 12)]), (9, 6, jTxtS (b + 9) 1002), (0, 60, []), (0, 60, []), (9, 6, jTxtS (b + 12) 1003), (0, 60, []), (0, 60, [])]
/-- the cells: the class's 0 .. 67, the reference's 68 .. 83 -/
def jLY : List jLK := (11, 9, [(2, 1), (2, 16), (2, 31), (2, 46), (2, 48), (2, 57), (2, 59), (2, 67), (0, 0)]) :: (jBlk 1 ++ (jBlk 16 ++ (jBlk 31 ++ [
  (7, 6, [(2, 7), (2, 47), (0, 0), (0, 0), (0, 0), (3, 0)]), (0, 60, []),
  (6, 5, [(2, 49), (2, 54), (2, 55), (2, 56), (1, 0)]), (2, 4, [(2, 50), (2, 51), (2, 52), (2, 53)]), (1, 5, []), (1, 5, []), (1, 5, []), (1, 5, []), (1, 4, []), (0, 8, []), (0, 8, []),
  (10, 6, [(2, 58), (0, 0), (0, 0), (0, 0), (0, 0), (0, 0)]), (0, 30, []),
  (8, 3, [(2, 60), (2, 65), (2, 66)]), (3, 4, [(2, 61), (2, 62), (2, 63), (2, 64)]), (0, 24, []), (0, 24, []), (0, 24, []), (0, 24, []), (0, 4, []), (0, 4, []), (0, 7, []),
  (12, 24, [(2, 69), (2, 70), (2, 71), (0, 0), (2, 72), (2, 73), (2, 74), (2, 75), (2, 76), (2, 77), (2, 78), (1, 0), (2, 79), (2, 80), (2, 81), (2, 82), (0, 0), (0, 0), (0, 0), (0, 0), (0, 0), (2, 83), (0, 0), (0, 0)]),
  (0, 382, []), (0, 382, []), (0, 382, []), (0, 7, []), (0, 4, []), (0, 4, []), (0, 96, []), (1, 16, []), (1, 4, []), (1, 4, []), (0, 60, []), (0, 60, []), (0, 3, []), (0, 60, []), (0, 30, [])])))
def jly (i : Nat) : jLK := (jLY[i]?).getD (99, 0, [])
theorem jly_len : jLY.length = 84 := by decide +kernel
/-- values as they stand in the machine -/
def jtr (G : jG) : Value → Value
  | .ref i => .ref (jad G i)
  | v => v
def jsv (w : jWd) (i k : Nat) (q : Nat × Nat) : Value := match q with
  | (0, _) => .int (w.1 i k)
  | (1, _) => .long (w.2 i k)
  | (2, j) => .ref j
  | _ => .ref (1002 + (w.1 i k).toNatClampNeg)
def jfs (G : jG) (w : jWd) (i : Nat) : Nat → List (Nat × Nat) → List Value
  | _, [] => []
  | k, q :: r => jtr G (jsv w i k q) :: jfs G w i (k + 1) r
def jCntOf (G : jG) (w : jWd) (i : Nat) (L : jLK) : va_E := match L with
  | (0, n, _) => .inl (jcA G 0, n, .inl (w.1 i))
  | (1, n, _) => .inl (jcA G 1, n, .inr (.inl (w.2 i)))
  | (2, n, rs) => .inl (jcA G 2, n, .inr (.inr (.inr (.inr (fun j => (rs[j]?).map (fun q => jad G q.2))))))
  | (3, n, rs) => .inl (jcA G 3, n, .inr (.inr (.inr (.inr (fun j => (rs[j]?).map (fun q => jad G q.2))))))
  | (4, n, rs) => .inl (jcA G 4, n, .inr (.inr (.inr (.inr (fun j => (rs[j]?).map (fun q => jad G q.2))))))
  | (c + 5, _, sl) => .inr (c, jfs G w i 0 sl)
def jCnt (G : jG) (w : jWd) (i : Nat) : va_E := jCntOf G w i (jly i)
def jW (G : jG) (w : jWd) : va_W := (List.range 84).map (fun i => (jad G i, jCnt G w i))
def jTys (G : jG) : List (ClassId × FieldType) := [(jcA G 0, .int), (jcA G 1, .long), (jcA G 2, .array .long), (jcA G 3, .array .int), (jcA G 4, .object RX4)]
def jA (G : jG) : Nat → Prop := fun q => ∃ i, i < 84 ∧ q = jad G i
theorem jfs_get (G : jG) (w : jWd) (i : Nat) : ∀ (sl : List (Nat × Nat)) (k0 k : Nat), (jfs G w i k0 sl)[k]? = (sl[k]?).map (fun q => jtr G (jsv w i (k0 + k) q))
  | [], k0, k => by simp [jfs]
  | q :: r, k0, 0 => by simp [jfs]
  | q :: r, k0, k + 1 => by
    simp only [jfs, List.getElem?_cons_succ]
    rw [jfs_get G w i r (k0 + 1) k, show k0 + 1 + k = k0 + (k + 1) by omega]
theorem jfs_len (G : jG) (w : jWd) (i : Nat) : ∀ (sl : List (Nat × Nat)) (k0 : Nat), (jfs G w i k0 sl).length = sl.length
  | [], _ => rfl
  | q :: r, k0 => by simp [jfs, jfs_len G w i r]
theorem jW_get (G : jG) (w : jWd) {i : Nat} (h : i < 84) : (jW G w)[i]? = some (jad G i, jCnt G w i) := by
  simp [jW, List.getElem?_map, List.getElem?_range h]
theorem jCnt_congr {G : jG} {w w' : jWd} {i : Nat} (h1 : w.1 i = w'.1 i) (h2 : w.2 i = w'.2 i) : jCnt G w i = jCnt G w' i := by
  have hsv : ∀ k q, jsv w i k q = jsv w' i k q := by
    intro k q
    obtain ⟨a, b⟩ := q
    unfold jsv
    rw [h1, h2]
  have hfs : ∀ (sl : List (Nat × Nat)) (k0 : Nat), jfs G w i k0 sl = jfs G w' i k0 sl := by
    intro sl
    induction sl with
    | nil => intro _; rfl
    | cons q r ih => intro k0; simp only [jfs, hsv, ih]
  unfold jCnt jCntOf
  rw [h1, h2]
  split <;> simp only [hfs]
theorem jW_set {G : jG} {w w' : jWd} {i : Nat} {e : va_E} (h : i < 84) (ho : ∀ j, j ≠ i → w.1 j = w'.1 j ∧ w.2 j = w'.2 j) (he : jCnt G w' i = e) : (jW G w).set i (jad G i, e) = jW G w' := by
  apply List.ext_getElem?
  intro j
  by_cases hj : j < 84
  · by_cases hij : j = i
    · subst hij
      rw [jW_get G w' hj, List.getElem?_set_self (by simp [jW]; exact h), he]
    · rw [List.getElem?_set_ne (fun q => hij q.symm), jW_get G w hj, jW_get G w' hj, jCnt_congr (ho j hij).1 (ho j hij).2]
  · rw [List.getElem?_eq_none (by simp [jW]; omega), List.getElem?_eq_none (by simp [jW]; omega)]
/-- an int cell's place, a whole int cell; a long cell's place -/
def jsetA (w : jWd) (a : Nat) (f : Nat → Int32) : jWd := (fun a' => if a' = a then f else w.1 a', w.2)
def jset (w : jWd) (a k : Nat) (v : Int32) : jWd := jsetA w a (upd (w.1 a) k v)
def jsetL (w : jWd) (a k : Nat) (v : Int64) : jWd := (w.1, fun a' => if a' = a then vp_updL (w.2 a) k v else w.2 a')
theorem jsetA_1 (w : jWd) (a : Nat) (f : Nat → Int32) (a' : Nat) : (jsetA w a f).1 a' = if a' = a then f else w.1 a' := rfl
theorem jsetA_2 (w : jWd) (a : Nat) (f : Nat → Int32) : (jsetA w a f).2 = w.2 := rfl
theorem jset_1 (w : jWd) (a k : Nat) (v : Int32) (a' k' : Nat) : (jset w a k v).1 a' k' = if a' = a then (if k' = k then v else w.1 a k') else w.1 a' k' := by
  unfold jset
  rw [jsetA_1]
  by_cases h : a' = a
  · rw [if_pos h, if_pos h]; rfl
  · rw [if_neg h, if_neg h]
theorem jset_2 (w : jWd) (a k : Nat) (v : Int32) : (jset w a k v).2 = w.2 := rfl
theorem jsetL_1 (w : jWd) (a k : Nat) (v : Int64) : (jsetL w a k v).1 = w.1 := rfl
theorem jsetL_2 (w : jWd) (a k : Nat) (v : Int64) (a' k' : Nat) : (jsetL w a k v).2 a' k' = if a' = a then (if k' = k then v else w.2 a k') else w.2 a' k' := by
  show (if a' = a then vp_updL (w.2 a) k v else w.2 a') k' = _
  by_cases h : a' = a
  · rw [if_pos h, if_pos h]; rfl
  · rw [if_neg h, if_neg h]
/-- locals: listed by places -/
def jL (G : jG) : Nat → List (Option Value) → List (Nat × Value)
  | _, [] => []
  | i, none :: r => jL G (i + 1) r
  | i, some v :: r => (i, jtr G v) :: jL G (i + 1) r
theorem jL_mem (G : jG) : ∀ (ls : List (Option Value)) (i : Nat) (q : Nat × Value), q ∈ jL G i ls ↔ ∃ j v, ls[j]? = some (some v) ∧ q = (i + j, jtr G v)
  | [], i, q => by simp [jL]
  | none :: r, i, q => by
    rw [jL, jL_mem G r (i + 1) q]
    constructor
    · rintro ⟨j, v, h, rfl⟩
      exact ⟨j + 1, v, h, by rw [show i + (j + 1) = i + 1 + j by omega]⟩
    · rintro ⟨j, v, h, rfl⟩
      cases j with
      | zero => simp at h
      | succ j => exact ⟨j, v, h, by rw [show i + (j + 1) = i + 1 + j by omega]⟩
  | some u :: r, i, q => by
    rw [jL, List.mem_cons, jL_mem G r (i + 1) q]
    constructor
    · rintro (rfl | ⟨j, v, h, rfl⟩)
      · exact ⟨0, u, rfl, rfl⟩
      · exact ⟨j + 1, v, h, by rw [show i + (j + 1) = i + 1 + j by omega]⟩
    · rintro ⟨j, v, h, rfl⟩
      cases j with
      | zero => simp at h; subst h; exact Or.inl rfl
      | succ j => exact Or.inr ⟨j, v, h, by rw [show i + (j + 1) = i + 1 + j by omega]⟩
theorem jL_at {G : jG} {lsA : Array Slot} {nL : Nat} {ls : List (Option Value)} (h : lv_has lsA nL (jL G 0 ls)) {i : Nat} {v : Value} (hv : ls[i]? = some (some v)) : lsA[i]? = some (.val (jtr G v)) :=
  h.2.2 (i, jtr G v) ((jL_mem G ls 0 _).mpr ⟨i, v, hv, by simp⟩)
theorem jtr_cat (G : jG) (v : Value) : (jtr G v).category = v.category := by cases v <;> rfl
/-- locals behind a store at place i -/
def jSt (ls : List (Option Value)) (i : Nat) (v : Value) (ls' : List (Option Value)) : Prop :=
  ∀ j u, ls'[j]? = some (some u) → (j = i ∧ u = v) ∨ (j ≠ i ∧ (v.category = 2 → j ≠ i + 1) ∧ ls[j]? = some (some u) ∧ (j + 1 = i → u.category ≠ 2))
theorem jSt_1 {G : jG} {lsA : Array Slot} {nL i : Nat} {ls ls' : List (Option Value)} {v : Value} (h : lv_has lsA nL ((i, jtr G v) :: (jL G 0 ls).filter (fun q => !(q.1 == i) && !(q.1 + 1 == i && q.2.category == 2)))) (hs : jSt ls i v ls') : lv_has lsA nL (jL G 0 ls') := by
  refine ⟨h.1, h.2.1, fun q hq => h.2.2 q ?_⟩
  obtain ⟨j, u, hj, rfl⟩ := (jL_mem G ls' 0 q).mp hq
  rcases hs j u hj with ⟨rfl, rfl⟩ | ⟨h1, -, h3, h4⟩
  · simp
  · refine List.mem_cons_of_mem _ (List.mem_filter.mpr ⟨(jL_mem G ls 0 _).mpr ⟨j, u, h3, rfl⟩, ?_⟩)
    simp only [Nat.zero_add, jtr_cat, Bool.and_eq_true, Bool.not_eq_true', beq_eq_false_iff_ne, ne_eq, Bool.and_eq_false_iff]
    refine ⟨h1, ?_⟩
    by_cases e : j + 1 = i
    · exact Or.inr (h4 e)
    · exact Or.inl e
theorem jSt_2 {G : jG} {lsA : Array Slot} {nL i : Nat} {ls ls' : List (Option Value)} {v : Value} (hc : v.category = 2) (h : lv_has lsA nL ((i, jtr G v) :: (jL G 0 ls).filter (fun q => !(q.1 == i) && (!(q.1 == i + 1) && !(q.1 + 1 == i && q.2.category == 2))))) (hs : jSt ls i v ls') : lv_has lsA nL (jL G 0 ls') := by
  refine ⟨h.1, h.2.1, fun q hq => h.2.2 q ?_⟩
  obtain ⟨j, u, hj, rfl⟩ := (jL_mem G ls' 0 q).mp hq
  rcases hs j u hj with ⟨rfl, rfl⟩ | ⟨h1, h2, h3, h4⟩
  · simp
  · refine List.mem_cons_of_mem _ (List.mem_filter.mpr ⟨(jL_mem G ls 0 _).mpr ⟨j, u, h3, rfl⟩, ?_⟩)
    simp only [Nat.zero_add, jtr_cat, Bool.and_eq_true, Bool.not_eq_true', beq_eq_false_iff_ne, ne_eq, Bool.and_eq_false_iff]
    refine ⟨h1, h2 hc, ?_⟩
    by_cases e : j + 1 = i
    · exact Or.inr (h4 e)
    · exact Or.inl e
/-- no long -/
def jnl : Option Value → Bool
  | some (.long _) => false
  | some (.double _) => false
  | _ => true
theorem jSt_0 {v : Value} (hc : v.category = 1) (a : Option Value) (r : List (Option Value)) : jSt (a :: r) 0 v (some v :: r) := by
  intro j u h
  cases j with
  | zero => simp at h; exact Or.inl ⟨rfl, h.symm⟩
  | succ j => exact Or.inr ⟨by omega, fun q => (by rw [hc] at q; cases q), h, by omega⟩
theorem jSt_0L {v : Value} (a b : Option Value) (r : List (Option Value)) : jSt (a :: b :: r) 0 v (some v :: none :: r) := by
  intro j u h
  match j with
  | 0 => simp at h; exact Or.inl ⟨rfl, h.symm⟩
  | 1 => simp at h
  | j + 2 => exact Or.inr ⟨by omega, fun _ => by omega, h, by omega⟩
theorem jSt_s {v : Value} {a : Option Value} {r r' : List (Option Value)} {i : Nat} (h : jSt r i v r') (ha : i = 0 → jnl a = true) : jSt (a :: r) (i + 1) v (a :: r') := by
  intro j u hj
  cases j with
  | zero =>
    simp at hj
    subst hj
    refine Or.inr ⟨by omega, fun _ => by omega, rfl, fun e => ?_⟩
    have h2 := ha (by omega)
    cases u <;> simp [jnl, Value.category] at h2 ⊢
  | succ j =>
    rcases h j u hj with ⟨rfl, rfl⟩ | ⟨h1, h2, h3, h4⟩
    · exact Or.inl ⟨rfl, rfl⟩
    · exact Or.inr ⟨by omega, fun q => by have := h2 q; omega, h3, fun e => h4 (by omega)⟩
/-! ===== the context ===== -/
def jNestW : Cond → Bool
  | .fieldLinkNest .. => true
  | .methodLinkNest .. => true
  | _ => false
/-- the tables' words that stay, whatever is called; the nest mates' words -/
def jTbl : List Cond := lw_tbl.filter goodWord
def jNest : List Cond := lw_tbl.filter jNestW
theorem jTbl_in {k : Nat} {w : Cond} (h : lw_tbl[k]? = some w) (hg : goodWord w = true) : w ∈ jTbl := List.mem_filter.mpr ⟨List.mem_of_getElem? h, hg⟩
theorem jNest_in {k : Nat} {w : Cond} (h : lw_tbl[k]? = some w) (hg : jNestW w = true) : w ∈ jNest := List.mem_filter.mpr ⟨List.mem_of_getElem? h, hg⟩
theorem jTbl_good : ∀ w ∈ jTbl, goodWord w = true := fun _ h => (List.mem_filter.mp h).2
def jNw (U : State) : Prop := ∀ w ∈ jNest, va_Nw w U
theorem jNw.warm {s U : State} (hW : s.WarmedH U.vm) (h : jNw s) : jNw U := by
  intro w hw
  have h1 := (List.mem_filter.mp hw).2
  have h2 := h w hw
  cases w <;> first | exact va_Nw.warmF hW h2 | exact va_Nw.warmM hW h2 | (simp [jNestW] at h1)
theorem jNw.same {u U : State} (he : u.vm = U.vm) (h : jNw u) : jNw U := by
  intro w hw
  have h1 := (List.mem_filter.mp hw).2
  refine va_Nw.same ?_ he (h w hw)
  cases w <;> first | rfl | (simp [jNestW] at h1)
def jAbv (k : Nat) : Value := .int (([-1, 0, 0, 0, 1, 2, 0] : List Int32).getD k 0)
def jBodL : List Int32 := [10, 11, 12, 13, 20, 11, 12, 21, 10, 30, 12, 13, 10, 11, 40, 13, 50, 11, 51, 21, 10, 60, 12, 13, 70, 71, 12, 13]
def jBod (k : Nat) : Value := .int (jBodL.getD k 0)
def jStrB (i : Nat) : List Int32 := if i = 0 then [119, 107, 110] else [115, 116, 110]
/-- what is static: never written -/
def jStr (G : jG) (i : Nat) (U : State) (H : Heap) : Prop := va_O "java/lang/String" (jad G (1002 + i)) (jA G) U H ∧ va_OF "java/lang/String" "value" "[B" (.ref (jad G (1010 + i))) (jad G (1002 + i)) (jA G) U H ∧ va_OF "java/lang/String" "coder" "B" (.int 0) (jad G (1002 + i)) (jA G) U H ∧ va_T .byte (jad G (1010 + i)) 3 (fun k => .int ((jStrB i).getD k 0)) (jA G) U H
def jS (G : jG) (U : State) (H : Heap) : Prop := va_Z "PictureBlock" "ABOVE" "[I" (.ref (jad G 1000)) (jA G) U H ∧ va_T .int (jad G 1000) 7 jAbv (jA G) U H ∧ va_Z "PictureBlock$Voices" "BODIES" "[I" (.ref (jad G 1001)) (jA G) U H ∧ va_T .int (jad G 1001) 28 jBod (jA G) U H ∧
  va_Z "java/lang/String" "COMPACT_STRINGS" "Z" (.int 1) (jA G) U H ∧ jStr G 0 U H ∧ jStr G 1 U H
theorem jS.moved {G : jG} {u U : State} {H : Heap} (hvm : u.vm.Alike U.vm) (h : jS G u H) : jS G U H := by
  obtain ⟨h1, h2, h3, h4, h5, ⟨a1, a2, a3, a4⟩, b1, b2, b3, b4⟩ := h
  exact ⟨h1.moved hvm, h2.moved hvm, h3.moved hvm, h4.moved hvm, h5.moved hvm, ⟨a1.moved hvm, a2.moved hvm, a3.moved hvm, a4.moved hvm⟩, b1.moved hvm, b2.moved hvm, b3.moved hvm, b4.moved hvm⟩
theorem jS.kept {G : jG} {U : State} {H H1 : Heap} (h : jS G U H) (hq : ∀ a : Nat, a < H.size → ¬ jA G a → H1[a]? = H[a]?) : jS G U H1 := by
  obtain ⟨h1, h2, h3, h4, h5, ⟨a1, a2, a3, a4⟩, b1, b2, b3, b4⟩ := h
  exact ⟨h1.kept hq, h2.kept hq, h3.kept hq, h4.kept hq, h5.kept hq, ⟨a1.kept hq, a2.kept hq, a3.kept hq, a4.kept hq⟩, b1.kept hq, b2.kept hq, b3.kept hq, b4.kept hq⟩
/-- the world at a state -/
def jH (G : jG) (w : jWd) (U : State) : Prop := va_P (jD G) vwCl (jW G w) U.heap ∧ va_K (jD G) vwCl (jTys G) U ∧ va_D (jA G) (jW G w) ∧ jS G U U.heap ∧ jNw U
/-- a method: owner, code, locals, answer's type, room, cells, slots, what is known of the entry, the end -/
abbrev jΓ : Type := String × ByteArray × Nat × Option FieldType × Room × Nat × Nat × (State → Array Value → Heap → Prop) × (State → Array Value → List Frame → State → Prop)
abbrev jown (Γ : jΓ) : String := Γ.1
abbrev jcc (Γ : jΓ) : ByteArray := Γ.2.1
abbrev jnL (Γ : jΓ) : Nat := Γ.2.2.1
abbrev jret (Γ : jΓ) : Option FieldType := Γ.2.2.2.1
abbrev jR (Γ : jΓ) : Room := Γ.2.2.2.2.1
abbrev jcl (Γ : jΓ) : Nat := Γ.2.2.2.2.2.1
abbrev jsl (Γ : jΓ) : Nat := Γ.2.2.2.2.2.2.1
abbrev jE (Γ : jΓ) : State → Array Value → Heap → Prop := Γ.2.2.2.2.2.2.2.1
abbrev jZ (Γ : jΓ) : State → Array Value → List Frame → State → Prop := Γ.2.2.2.2.2.2.2.2
def jC (G : jG) (Γ : jΓ) (p : Program) (s : State) (m : MethodId) (args : Array Value) (meth : Method) (c : Code) (Hs : Heap) : Prop :=
  p.tables.exec = Jvm.exec ∧ c.code = jcc Γ ∧ meth.sig.returnType = jret Γ ∧ meth.locks = false ∧ c.maxLocals = jnL Γ ∧ s.vm.findClass (jown Γ) = some m.cls ∧ (∀ w ∈ jTbl, w.before args s = true) ∧ va_K (jD G) vwCl (jTys G) s ∧ jS G s Hs ∧ jNw s ∧ jE Γ s args Hs
/-- from this place of the method, in this world, it comes to its end -/
def J (G : jG) (Γ : jΓ) (w : jWd) (pc : Nat) (ls : List (Option Value)) (st : List Value) : Prop :=
  ∀ (p : Program) (e : Env) (s : State) (m : MethodId) (args : Array Value) (below : List Frame) (meth : Method) (c : Code) (H : Heap) (locs : List Loc) (lsA : Array Slot) (Hs : Heap), jC G Γ p s m args meth c Hs →
    va_P (jD G) vwCl (jW G w) H → va_D (jA G) (jW G w) → va_S (jA G) Hs H locs → lv_has lsA (jnL Γ) (jL G 0 ls) →
    W p G.1 e (jR Γ) s m args below meth c H locs (jcl Γ) (jsl Γ) (jZ Γ s args below) (F0 m pc lsA (st.map (jtr G)))
/-- the room of a method that calls d deep -/
def jRm (d : Nat) : Room := { frames := d, cells := 0, slots := 0, locals := 40 * d }
def jQ (G : jG) (Q : Option Value → jWd → Prop) : Array Value → State → Outcome → State → Prop := fun _ st oc t => ∃ (r : Option Value) (w : jWd), oc = .returned (r.map (jtr G)) ∧ Q r w ∧ va_P (jD G) vwCl (jW G w) t.heap ∧ va_D (jA G) (jW G w) ∧ va_F (jA G) st t
abbrev jM (G : jG) (d : Nat) (own : String) (cc : ByteArray) (nL : Nat) (ret : Option FieldType) (Q : Option Value → jWd → Prop) : jΓ :=
  (own, cc, nL, ret, jRm d, 0, 0, fun s _ Hs => Hs = s.heap, fun s args below => MQ below (jQ G Q) args s 0 0 (jA G))
/-- a method's contract: called so in this world it returns so -/
def jK (G : jG) (d : Nat) (y : MethodName) (cc : ByteArray) (nL : Nat) (ret : Option FieldType) (args : List Value) (w : jWd) (Q : Option Value → jWd → Prop) : Prop :=
  Met G.1 y (Cond.code y cc nL ret :: jTbl) (jRm d) (va_Pc (args.map (jtr G)) (jH G w)) (jQ G Q) 0 0 (jA G)
theorem jK_of {G : jG} {d : Nat} {y : MethodName} {own : String} {cc : ByteArray} {nL : Nat} {ret : Option FieldType} {args : List Value} {w : jWd} {Q : Option Value → jWd → Prop} (ls : List (Option Value)) (hy : plainName y.cls = true) (ho : y.cls = own) (hn : (lg_sl (args.map (jtr G))).length ≤ nL) (hl : jL G 0 ls = lv_args 0 (args.map (jtr G)))
    (body : J G (jM G d own cc nL ret Q) w 0 ls []) : jK G d y cc nL ret args w Q := by
  refine Met.ofW (cc := cc) (maxL := nL) (ret := ret) hy rfl ?_
  intro p e s m args' below meth c s₁ B hml hv
  obtain ⟨rfl, hP, hK, hD, hS, hN⟩ := hv
  have hts := atoms_spec (ws := Cond.code y cc nL ret :: jTbl) B.pre
  have hown : s.vm.findClass own = some m.cls := ho ▸ findClass_of_methodNamed B.named
  have hl0 := lv_entry (args.map (jtr G)) (n := nL) hn
  rw [lg_entry_eq]
  rw [← hl] at hl0
  exact body p e s m _ below meth c s.heap [] _ s.heap ⟨B.exec, B.bytes, B.returns, B.notSynchronized, hml, hown, fun w hw => hts w (List.mem_cons_of_mem _ hw), hK, hS, hN, rfl⟩ hP hD va_S.rf hl0
theorem jK_post {G : jG} {d : Nat} {y : MethodName} {cc : ByteArray} {nL : Nat} {ret : Option FieldType} {args : List Value} {w : jWd} {Q Q' : Option Value → jWd → Prop} (h : jK G d y cc nL ret args w Q) (hq : ∀ r w', Q r w' → Q' r w') : jK G d y cc nL ret args w Q' := by
  intro p e ha hc hk s m args' below hf happ hP hx
  obtain ⟨k, o, h1, h2, h3, ⟨r, w', q1, q2, q3⟩, h4⟩ := h p e ha hc hk s m args' below hf happ hP hx
  exact ⟨k, o, h1, h2, h3, ⟨r, w', q1, hq r w' q2, q3⟩, h4⟩
end
section
/-! ===== the rules, one an instruction (written by wip/whole/gen/rules.py) ===== -/
theorem J_iconst {G : jG} {Γ : jΓ} {w : jWd} {pc pc' : Nat} {ls : List (Option Value)} {st : List Value} {n : Int} {v : Int32} (hd : decode (jcc Γ) pc = .ok (.iconst n, 1)) (hv : Int32.ofInt n = v) (hp : pc' = pc + 1) (k : J G Γ w pc' ls (.int v :: st)) : J G Γ w pc ls (st) := by
  subst hp
  intro p e s m args below meth c H locs lsA Hs hC hP hD hS hl
  exact lv_iconst hC.1 hC.2.1 hd hv (k p e s m args below meth c H locs lsA Hs hC hP hD hS hl)
theorem J_bipush {G : jG} {Γ : jΓ} {w : jWd} {pc pc' : Nat} {ls : List (Option Value)} {st : List Value} {n : Int} {v : Int32} (hd : decode (jcc Γ) pc = .ok (.bipush n, 2)) (hv : (Int8.ofInt n).toInt32 = v) (hp : pc' = pc + 2) (k : J G Γ w pc' ls (.int v :: st)) : J G Γ w pc ls (st) := by
  subst hp
  intro p e s m args below meth c H locs lsA Hs hC hP hD hS hl
  exact lv_bipush hC.1 hC.2.1 hd hv (k p e s m args below meth c H locs lsA Hs hC hP hD hS hl)
theorem J_sipush {G : jG} {Γ : jΓ} {w : jWd} {pc pc' : Nat} {ls : List (Option Value)} {st : List Value} {n : Int} {v : Int32} (hd : decode (jcc Γ) pc = .ok (.sipush n, 3)) (hv : (Int16.ofInt n).toInt32 = v) (hp : pc' = pc + 3) (k : J G Γ w pc' ls (.int v :: st)) : J G Γ w pc ls (st) := by
  subst hp
  intro p e s m args below meth c H locs lsA Hs hC hP hD hS hl
  exact lv_sipush hC.1 hC.2.1 hd hv (k p e s m args below meth c H locs lsA Hs hC hP hD hS hl)
theorem J_lconst {G : jG} {Γ : jΓ} {w : jWd} {pc pc' : Nat} {ls : List (Option Value)} {st : List Value} {n : Fin 2} {v : Int64} (hd : decode (jcc Γ) pc = .ok (.lconst n, 1)) (hv : Int64.ofNat (n : Nat) = v) (hp : pc' = pc + 1) (k : J G Γ w pc' ls (.long v :: st)) : J G Γ w pc ls (st) := by
  subst hp
  intro p e s m args below meth c H locs lsA Hs hC hP hD hS hl
  exact lv_lconst hC.1 hC.2.1 hd hv (k p e s m args below meth c H locs lsA Hs hC hP hD hS hl)
theorem J_ldc {G : jG} {Γ : jΓ} {w : jWd} {pc pc' : Nat} {ls : List (Option Value)} {st : List Value} {i : Nat} {v : Int32} (hd : decode (jcc Γ) pc = .ok (.ldc i, 2)) (hw : Cond.constant (jown Γ) i v ∈ jTbl) (hp : pc' = pc + 2) (k : J G Γ w pc' ls (.int v :: st)) : J G Γ w pc ls st := by
  subst hp
  intro p e s m args below meth c H locs lsA Hs hC hP hD hS hl
  exact lv_ldc hC.1 hC.2.1 hC.2.2.2.2.2.1 (hC.2.2.2.2.2.2.1 _ hw) hd (k p e s m args below meth c H locs lsA Hs hC hP hD hS hl)
theorem J_ldcw {G : jG} {Γ : jΓ} {w : jWd} {pc pc' : Nat} {ls : List (Option Value)} {st : List Value} {i : Nat} {v : Int32} (hd : decode (jcc Γ) pc = .ok (.ldc_w i, 3)) (hw : Cond.constant (jown Γ) i v ∈ jTbl) (hp : pc' = pc + 3) (k : J G Γ w pc' ls (.int v :: st)) : J G Γ w pc ls st := by
  subst hp
  intro p e s m args below meth c H locs lsA Hs hC hP hD hS hl
  exact lv_ldcw hC.1 hC.2.1 hC.2.2.2.2.2.1 (hC.2.2.2.2.2.2.1 _ hw) hd (k p e s m args below meth c H locs lsA Hs hC hP hD hS hl)
theorem J_ldc2 {G : jG} {Γ : jΓ} {w : jWd} {pc pc' : Nat} {ls : List (Option Value)} {st : List Value} {i : Nat} {v : Int64} (hd : decode (jcc Γ) pc = .ok (.ldc2_w i, 3)) (hw : Cond.constantLong (jown Γ) i v ∈ jTbl) (hp : pc' = pc + 3) (k : J G Γ w pc' ls (.long v :: st)) : J G Γ w pc ls st := by
  subst hp
  intro p e s m args below meth c H locs lsA Hs hC hP hD hS hl
  exact lv_ldc2 hC.1 hC.2.1 hC.2.2.2.2.2.1 (hC.2.2.2.2.2.2.1 _ hw) hd (k p e s m args below meth c H locs lsA Hs hC hP hD hS hl)
theorem J_iadd {G : jG} {Γ : jΓ} {w : jWd} {pc pc' : Nat} {ls : List (Option Value)} {st : List Value} {x y : Int32} (hd : decode (jcc Γ) pc = .ok (.iadd, 1)) (hp : pc' = pc + 1) (k : J G Γ w pc' ls (.int (x + y) :: st)) : J G Γ w pc ls (.int y :: .int x :: st) := by
  subst hp
  intro p e s m args below meth c H locs lsA Hs hC hP hD hS hl
  exact lv_iadd hC.1 hC.2.1 hd (k p e s m args below meth c H locs lsA Hs hC hP hD hS hl)
theorem J_isub {G : jG} {Γ : jΓ} {w : jWd} {pc pc' : Nat} {ls : List (Option Value)} {st : List Value} {x y : Int32} (hd : decode (jcc Γ) pc = .ok (.isub, 1)) (hp : pc' = pc + 1) (k : J G Γ w pc' ls (.int (x - y) :: st)) : J G Γ w pc ls (.int y :: .int x :: st) := by
  subst hp
  intro p e s m args below meth c H locs lsA Hs hC hP hD hS hl
  exact lv_isub hC.1 hC.2.1 hd (k p e s m args below meth c H locs lsA Hs hC hP hD hS hl)
theorem J_imul {G : jG} {Γ : jΓ} {w : jWd} {pc pc' : Nat} {ls : List (Option Value)} {st : List Value} {x y : Int32} (hd : decode (jcc Γ) pc = .ok (.imul, 1)) (hp : pc' = pc + 1) (k : J G Γ w pc' ls (.int (x * y) :: st)) : J G Γ w pc ls (.int y :: .int x :: st) := by
  subst hp
  intro p e s m args below meth c H locs lsA Hs hC hP hD hS hl
  exact lv_imul hC.1 hC.2.1 hd (k p e s m args below meth c H locs lsA Hs hC hP hD hS hl)
theorem J_iand {G : jG} {Γ : jΓ} {w : jWd} {pc pc' : Nat} {ls : List (Option Value)} {st : List Value} {x y : Int32} (hd : decode (jcc Γ) pc = .ok (.iand, 1)) (hp : pc' = pc + 1) (k : J G Γ w pc' ls (.int (x &&& y) :: st)) : J G Γ w pc ls (.int y :: .int x :: st) := by
  subst hp
  intro p e s m args below meth c H locs lsA Hs hC hP hD hS hl
  exact lv_iand hC.1 hC.2.1 hd (k p e s m args below meth c H locs lsA Hs hC hP hD hS hl)
theorem J_ior {G : jG} {Γ : jΓ} {w : jWd} {pc pc' : Nat} {ls : List (Option Value)} {st : List Value} {x y : Int32} (hd : decode (jcc Γ) pc = .ok (.ior, 1)) (hp : pc' = pc + 1) (k : J G Γ w pc' ls (.int (x ||| y) :: st)) : J G Γ w pc ls (.int y :: .int x :: st) := by
  subst hp
  intro p e s m args below meth c H locs lsA Hs hC hP hD hS hl
  exact lv_ior hC.1 hC.2.1 hd (k p e s m args below meth c H locs lsA Hs hC hP hD hS hl)
theorem J_ixor {G : jG} {Γ : jΓ} {w : jWd} {pc pc' : Nat} {ls : List (Option Value)} {st : List Value} {x y : Int32} (hd : decode (jcc Γ) pc = .ok (.ixor, 1)) (hp : pc' = pc + 1) (k : J G Γ w pc' ls (.int (x ^^^ y) :: st)) : J G Γ w pc ls (.int y :: .int x :: st) := by
  subst hp
  intro p e s m args below meth c H locs lsA Hs hC hP hD hS hl
  exact lv_ixor hC.1 hC.2.1 hd (k p e s m args below meth c H locs lsA Hs hC hP hD hS hl)
theorem J_ishl {G : jG} {Γ : jΓ} {w : jWd} {pc pc' : Nat} {ls : List (Option Value)} {st : List Value} {x y : Int32} (hd : decode (jcc Γ) pc = .ok (.ishl, 1)) (hp : pc' = pc + 1) (k : J G Γ w pc' ls (.int (x <<< (y &&& 31)) :: st)) : J G Γ w pc ls (.int y :: .int x :: st) := by
  subst hp
  intro p e s m args below meth c H locs lsA Hs hC hP hD hS hl
  exact lv_ishl hC.1 hC.2.1 hd (k p e s m args below meth c H locs lsA Hs hC hP hD hS hl)
theorem J_ishr {G : jG} {Γ : jΓ} {w : jWd} {pc pc' : Nat} {ls : List (Option Value)} {st : List Value} {x y : Int32} (hd : decode (jcc Γ) pc = .ok (.ishr, 1)) (hp : pc' = pc + 1) (k : J G Γ w pc' ls (.int (x >>> (y &&& 31)) :: st)) : J G Γ w pc ls (.int y :: .int x :: st) := by
  subst hp
  intro p e s m args below meth c H locs lsA Hs hC hP hD hS hl
  exact lv_ishr hC.1 hC.2.1 hd (k p e s m args below meth c H locs lsA Hs hC hP hD hS hl)
theorem J_iushr {G : jG} {Γ : jΓ} {w : jWd} {pc pc' : Nat} {ls : List (Option Value)} {st : List Value} {x y : Int32} (hd : decode (jcc Γ) pc = .ok (.iushr, 1)) (hp : pc' = pc + 1) (k : J G Γ w pc' ls (.int ((x.toUInt32 >>> (y.toUInt32 &&& Int32.toUInt32 31)).toInt32) :: st)) : J G Γ w pc ls (.int y :: .int x :: st) := by
  subst hp
  intro p e s m args below meth c H locs lsA Hs hC hP hD hS hl
  exact lv_iushr hC.1 hC.2.1 hd rfl (k p e s m args below meth c H locs lsA Hs hC hP hD hS hl)
theorem J_idiv {G : jG} {Γ : jΓ} {w : jWd} {pc pc' : Nat} {ls : List (Option Value)} {st : List Value} {x y : Int32} (hd : decode (jcc Γ) pc = .ok (.idiv, 1)) (hne : ¬ y = 0) (hp : pc' = pc + 1) (k : J G Γ w pc' ls (.int (x / y) :: st)) : J G Γ w pc ls (.int y :: .int x :: st) := by
  subst hp
  intro p e s m args below meth c H locs lsA Hs hC hP hD hS hl
  exact lv_idiv hC.1 hC.2.1 hd hne (k p e s m args below meth c H locs lsA Hs hC hP hD hS hl)
theorem J_irem {G : jG} {Γ : jΓ} {w : jWd} {pc pc' : Nat} {ls : List (Option Value)} {st : List Value} {x y : Int32} (hd : decode (jcc Γ) pc = .ok (.irem, 1)) (hne : ¬ y = 0) (hp : pc' = pc + 1) (k : J G Γ w pc' ls (.int (x - x / y * y) :: st)) : J G Γ w pc ls (.int y :: .int x :: st) := by
  subst hp
  intro p e s m args below meth c H locs lsA Hs hC hP hD hS hl
  exact lv_irem hC.1 hC.2.1 hd hne (k p e s m args below meth c H locs lsA Hs hC hP hD hS hl)
theorem J_ineg {G : jG} {Γ : jΓ} {w : jWd} {pc pc' : Nat} {ls : List (Option Value)} {st : List Value} {x : Int32} (hd : decode (jcc Γ) pc = .ok (.ineg, 1)) (hp : pc' = pc + 1) (k : J G Γ w pc' ls (.int (-x) :: st)) : J G Γ w pc ls (.int x :: st) := by
  subst hp
  intro p e s m args below meth c H locs lsA Hs hC hP hD hS hl
  exact lv_ineg hC.1 hC.2.1 hd (k p e s m args below meth c H locs lsA Hs hC hP hD hS hl)
theorem J_ladd {G : jG} {Γ : jΓ} {w : jWd} {pc pc' : Nat} {ls : List (Option Value)} {st : List Value} {x y : Int64} (hd : decode (jcc Γ) pc = .ok (.ladd, 1)) (hp : pc' = pc + 1) (k : J G Γ w pc' ls (.long (x + y) :: st)) : J G Γ w pc ls (.long y :: .long x :: st) := by
  subst hp
  intro p e s m args below meth c H locs lsA Hs hC hP hD hS hl
  exact lv_ladd hC.1 hC.2.1 hd (k p e s m args below meth c H locs lsA Hs hC hP hD hS hl)
theorem J_lsub {G : jG} {Γ : jΓ} {w : jWd} {pc pc' : Nat} {ls : List (Option Value)} {st : List Value} {x y : Int64} (hd : decode (jcc Γ) pc = .ok (.lsub, 1)) (hp : pc' = pc + 1) (k : J G Γ w pc' ls (.long (x - y) :: st)) : J G Γ w pc ls (.long y :: .long x :: st) := by
  subst hp
  intro p e s m args below meth c H locs lsA Hs hC hP hD hS hl
  exact lv_lsub hC.1 hC.2.1 hd (k p e s m args below meth c H locs lsA Hs hC hP hD hS hl)
theorem J_lmul {G : jG} {Γ : jΓ} {w : jWd} {pc pc' : Nat} {ls : List (Option Value)} {st : List Value} {x y : Int64} (hd : decode (jcc Γ) pc = .ok (.lmul, 1)) (hp : pc' = pc + 1) (k : J G Γ w pc' ls (.long (x * y) :: st)) : J G Γ w pc ls (.long y :: .long x :: st) := by
  subst hp
  intro p e s m args below meth c H locs lsA Hs hC hP hD hS hl
  exact lv_lmul hC.1 hC.2.1 hd (k p e s m args below meth c H locs lsA Hs hC hP hD hS hl)
theorem J_land {G : jG} {Γ : jΓ} {w : jWd} {pc pc' : Nat} {ls : List (Option Value)} {st : List Value} {x y : Int64} (hd : decode (jcc Γ) pc = .ok (.land, 1)) (hp : pc' = pc + 1) (k : J G Γ w pc' ls (.long (x &&& y) :: st)) : J G Γ w pc ls (.long y :: .long x :: st) := by
  subst hp
  intro p e s m args below meth c H locs lsA Hs hC hP hD hS hl
  exact lv_land hC.1 hC.2.1 hd (k p e s m args below meth c H locs lsA Hs hC hP hD hS hl)
theorem J_lor {G : jG} {Γ : jΓ} {w : jWd} {pc pc' : Nat} {ls : List (Option Value)} {st : List Value} {x y : Int64} (hd : decode (jcc Γ) pc = .ok (.lor, 1)) (hp : pc' = pc + 1) (k : J G Γ w pc' ls (.long (x ||| y) :: st)) : J G Γ w pc ls (.long y :: .long x :: st) := by
  subst hp
  intro p e s m args below meth c H locs lsA Hs hC hP hD hS hl
  exact lv_lor hC.1 hC.2.1 hd (k p e s m args below meth c H locs lsA Hs hC hP hD hS hl)
theorem J_ldiv {G : jG} {Γ : jΓ} {w : jWd} {pc pc' : Nat} {ls : List (Option Value)} {st : List Value} {x y : Int64} (hd : decode (jcc Γ) pc = .ok (.ldiv, 1)) (hne : ¬ y = 0) (hp : pc' = pc + 1) (k : J G Γ w pc' ls (.long (x / y) :: st)) : J G Γ w pc ls (.long y :: .long x :: st) := by
  subst hp
  intro p e s m args below meth c H locs lsA Hs hC hP hD hS hl
  exact lv_ldiv hC.1 hC.2.1 hd hne (k p e s m args below meth c H locs lsA Hs hC hP hD hS hl)
theorem J_lrem {G : jG} {Γ : jΓ} {w : jWd} {pc pc' : Nat} {ls : List (Option Value)} {st : List Value} {x y : Int64} (hd : decode (jcc Γ) pc = .ok (.lrem, 1)) (hne : ¬ y = 0) (hp : pc' = pc + 1) (k : J G Γ w pc' ls (.long (x - x / y * y) :: st)) : J G Γ w pc ls (.long y :: .long x :: st) := by
  subst hp
  intro p e s m args below meth c H locs lsA Hs hC hP hD hS hl
  exact lv_lrem hC.1 hC.2.1 hd hne (k p e s m args below meth c H locs lsA Hs hC hP hD hS hl)
theorem J_lneg {G : jG} {Γ : jΓ} {w : jWd} {pc pc' : Nat} {ls : List (Option Value)} {st : List Value} {x : Int64} (hd : decode (jcc Γ) pc = .ok (.lneg, 1)) (hp : pc' = pc + 1) (k : J G Γ w pc' ls (.long (-x) :: st)) : J G Γ w pc ls (.long x :: st) := by
  subst hp
  intro p e s m args below meth c H locs lsA Hs hC hP hD hS hl
  exact lv_lneg hC.1 hC.2.1 hd (k p e s m args below meth c H locs lsA Hs hC hP hD hS hl)
theorem J_lshl {G : jG} {Γ : jΓ} {w : jWd} {pc pc' : Nat} {ls : List (Option Value)} {st : List Value} {x : Int64} {y : Int32} (hd : decode (jcc Γ) pc = .ok (.lshl, 1)) (hp : pc' = pc + 1) (k : J G Γ w pc' ls (.long (x <<< (y.toInt64 &&& 63)) :: st)) : J G Γ w pc ls (.int y :: .long x :: st) := by
  subst hp
  intro p e s m args below meth c H locs lsA Hs hC hP hD hS hl
  exact lv_lshl hC.1 hC.2.1 hd rfl (k p e s m args below meth c H locs lsA Hs hC hP hD hS hl)
theorem J_lshr {G : jG} {Γ : jΓ} {w : jWd} {pc pc' : Nat} {ls : List (Option Value)} {st : List Value} {x : Int64} {y : Int32} (hd : decode (jcc Γ) pc = .ok (.lshr, 1)) (hp : pc' = pc + 1) (k : J G Γ w pc' ls (.long (x >>> (y.toInt64 &&& 63)) :: st)) : J G Γ w pc ls (.int y :: .long x :: st) := by
  subst hp
  intro p e s m args below meth c H locs lsA Hs hC hP hD hS hl
  exact lv_lshr hC.1 hC.2.1 hd rfl (k p e s m args below meth c H locs lsA Hs hC hP hD hS hl)
theorem J_lushr {G : jG} {Γ : jΓ} {w : jWd} {pc pc' : Nat} {ls : List (Option Value)} {st : List Value} {x : Int64} {y : Int32} (hd : decode (jcc Γ) pc = .ok (.lushr, 1)) (hp : pc' = pc + 1) (k : J G Γ w pc' ls (.long ((x.toUInt64 >>> (y.toInt64.toUInt64 &&& Int64.toUInt64 63)).toInt64) :: st)) : J G Γ w pc ls (.int y :: .long x :: st) := by
  subst hp
  intro p e s m args below meth c H locs lsA Hs hC hP hD hS hl
  exact lv_lushr hC.1 hC.2.1 hd rfl (k p e s m args below meth c H locs lsA Hs hC hP hD hS hl)
theorem J_i2l {G : jG} {Γ : jΓ} {w : jWd} {pc pc' : Nat} {ls : List (Option Value)} {st : List Value} {x : Int32} (hd : decode (jcc Γ) pc = .ok (.i2l, 1)) (hp : pc' = pc + 1) (k : J G Γ w pc' ls (.long x.toInt64 :: st)) : J G Γ w pc ls (.int x :: st) := by
  subst hp
  intro p e s m args below meth c H locs lsA Hs hC hP hD hS hl
  exact lv_i2l hC.1 hC.2.1 hd rfl (k p e s m args below meth c H locs lsA Hs hC hP hD hS hl)
theorem J_l2i {G : jG} {Γ : jΓ} {w : jWd} {pc pc' : Nat} {ls : List (Option Value)} {st : List Value} {x : Int64} (hd : decode (jcc Γ) pc = .ok (.l2i, 1)) (hp : pc' = pc + 1) (k : J G Γ w pc' ls (.int x.toInt32 :: st)) : J G Γ w pc ls (.long x :: st) := by
  subst hp
  intro p e s m args below meth c H locs lsA Hs hC hP hD hS hl
  exact lv_l2i hC.1 hC.2.1 hd rfl (k p e s m args below meth c H locs lsA Hs hC hP hD hS hl)
theorem J_i2b {G : jG} {Γ : jΓ} {w : jWd} {pc pc' : Nat} {ls : List (Option Value)} {st : List Value} {x : Int32} (hd : decode (jcc Γ) pc = .ok (.i2b, 1)) (hp : pc' = pc + 1) (k : J G Γ w pc' ls (.int x.toInt8.toInt32 :: st)) : J G Γ w pc ls (.int x :: st) := by
  subst hp
  intro p e s m args below meth c H locs lsA Hs hC hP hD hS hl
  exact lv_i2b hC.1 hC.2.1 hd rfl (k p e s m args below meth c H locs lsA Hs hC hP hD hS hl)
theorem J_i2s {G : jG} {Γ : jΓ} {w : jWd} {pc pc' : Nat} {ls : List (Option Value)} {st : List Value} {x : Int32} (hd : decode (jcc Γ) pc = .ok (.i2s, 1)) (hp : pc' = pc + 1) (k : J G Γ w pc' ls (.int x.toInt16.toInt32 :: st)) : J G Γ w pc ls (.int x :: st) := by
  subst hp
  intro p e s m args below meth c H locs lsA Hs hC hP hD hS hl
  exact lv_i2s hC.1 hC.2.1 hd rfl (k p e s m args below meth c H locs lsA Hs hC hP hD hS hl)
theorem J_i2c {G : jG} {Γ : jΓ} {w : jWd} {pc pc' : Nat} {ls : List (Option Value)} {st : List Value} {x : Int32} (hd : decode (jcc Γ) pc = .ok (.i2c, 1)) (hp : pc' = pc + 1) (k : J G Γ w pc' ls (.int (x.toUInt32 % 65536).toInt32 :: st)) : J G Γ w pc ls (.int x :: st) := by
  subst hp
  intro p e s m args below meth c H locs lsA Hs hC hP hD hS hl
  exact lv_i2c hC.1 hC.2.1 hd rfl (k p e s m args below meth c H locs lsA Hs hC hP hD hS hl)
theorem J_lcmp {G : jG} {Γ : jΓ} {w : jWd} {pc pc' : Nat} {ls : List (Option Value)} {st : List Value} {x y : Int64} (hd : decode (jcc Γ) pc = .ok (.lcmp, 1)) (hp : pc' = pc + 1) (k : J G Γ w pc' ls (.int (lg_cmp x y) :: st)) : J G Γ w pc ls (.long y :: .long x :: st) := by
  subst hp
  intro p e s m args below meth c H locs lsA Hs hC hP hD hS hl
  exact W.lcmp hC.1 hC.2.1 hd (k p e s m args below meth c H locs lsA Hs hC hP hD hS hl)
theorem J_dup {G : jG} {Γ : jΓ} {w : jWd} {pc pc' : Nat} {ls : List (Option Value)} {st : List Value} {v : Value} (hd : decode (jcc Γ) pc = .ok (.dup, 1)) (hv : v.category = 1) (hp : pc' = pc + 1) (k : J G Γ w pc' ls (v :: v :: st)) : J G Γ w pc ls (v :: st) := by
  subst hp
  intro p e s m args below meth c H locs lsA Hs hC hP hD hS hl
  exact lv_dup hC.1 hC.2.1 hd (by rw [jtr_cat]; exact hv) (k p e s m args below meth c H locs lsA Hs hC hP hD hS hl)
theorem J_pop {G : jG} {Γ : jΓ} {w : jWd} {pc pc' : Nat} {ls : List (Option Value)} {st : List Value} {v : Value} (hd : decode (jcc Γ) pc = .ok (.pop, 1)) (hv : v.category = 1) (hp : pc' = pc + 1) (k : J G Γ w pc' ls (st)) : J G Γ w pc ls (v :: st) := by
  subst hp
  intro p e s m args below meth c H locs lsA Hs hC hP hD hS hl
  exact lv_pop hC.1 hC.2.1 hd (by rw [jtr_cat]; exact hv) (k p e s m args below meth c H locs lsA Hs hC hP hD hS hl)
theorem J_dup2 {G : jG} {Γ : jΓ} {w : jWd} {pc pc' : Nat} {ls : List (Option Value)} {st : List Value} {v u : Value} (hd : decode (jcc Γ) pc = .ok (.dup2, 1)) (hv : v.category = 1) (hu : u.category = 1) (hp : pc' = pc + 1) (k : J G Γ w pc' ls (v :: u :: v :: u :: st)) : J G Γ w pc ls (v :: u :: st) := by
  subst hp
  intro p e s m args below meth c H locs lsA Hs hC hP hD hS hl
  exact lv_dup2_11 hC.1 hC.2.1 hd (by rw [jtr_cat]; exact hv) (by rw [jtr_cat]; exact hu) (k p e s m args below meth c H locs lsA Hs hC hP hD hS hl)
theorem J_if_eq {G : jG} {Γ : jΓ} {w : jWd} {pc pc' : Nat} {ls : List (Option Value)} {st : List Value} {x : Int32} {off : Int} (tgt : Nat) (hd : decode (jcc Γ) pc = .ok (.ifCond .eq off, 3)) (ht : (pc : Int) + off = (tgt : Int)) (hp : pc' = pc + 3) (kt : x = 0 → J G Γ w tgt ls st) (kf : ¬ x = 0 → J G Γ w pc' ls st) : J G Γ w pc ls (.int x :: st) := by
  subst hp
  intro p e s m args below meth c H locs lsA Hs hC hP hD hS hl
  exact lv_if_eq hC.1 hC.2.1 hd ht (fun h => kt h p e s m args below meth c H locs lsA Hs hC hP hD hS hl) (fun h => kf h p e s m args below meth c H locs lsA Hs hC hP hD hS hl)
theorem J_icmp_eq {G : jG} {Γ : jΓ} {w : jWd} {pc pc' : Nat} {ls : List (Option Value)} {st : List Value} {x y : Int32} {off : Int} (tgt : Nat) (hd : decode (jcc Γ) pc = .ok (.if_icmp .eq off, 3)) (ht : (pc : Int) + off = (tgt : Int)) (hp : pc' = pc + 3) (kt : x = y → J G Γ w tgt ls st) (kf : ¬ x = y → J G Γ w pc' ls st) : J G Γ w pc ls (.int y :: .int x :: st) := by
  subst hp
  intro p e s m args below meth c H locs lsA Hs hC hP hD hS hl
  exact lv_icmp_eq hC.1 hC.2.1 hd ht (fun h => kt h p e s m args below meth c H locs lsA Hs hC hP hD hS hl) (fun h => kf h p e s m args below meth c H locs lsA Hs hC hP hD hS hl)
theorem J_if_ne {G : jG} {Γ : jΓ} {w : jWd} {pc pc' : Nat} {ls : List (Option Value)} {st : List Value} {x : Int32} {off : Int} (tgt : Nat) (hd : decode (jcc Γ) pc = .ok (.ifCond .ne off, 3)) (ht : (pc : Int) + off = (tgt : Int)) (hp : pc' = pc + 3) (kt : x ≠ 0 → J G Γ w tgt ls st) (kf : x = 0 → J G Γ w pc' ls st) : J G Γ w pc ls (.int x :: st) := by
  subst hp
  intro p e s m args below meth c H locs lsA Hs hC hP hD hS hl
  exact lv_if_ne hC.1 hC.2.1 hd ht (fun h => kt h p e s m args below meth c H locs lsA Hs hC hP hD hS hl) (fun h => kf h p e s m args below meth c H locs lsA Hs hC hP hD hS hl)
theorem J_icmp_ne {G : jG} {Γ : jΓ} {w : jWd} {pc pc' : Nat} {ls : List (Option Value)} {st : List Value} {x y : Int32} {off : Int} (tgt : Nat) (hd : decode (jcc Γ) pc = .ok (.if_icmp .ne off, 3)) (ht : (pc : Int) + off = (tgt : Int)) (hp : pc' = pc + 3) (kt : x ≠ y → J G Γ w tgt ls st) (kf : x = y → J G Γ w pc' ls st) : J G Γ w pc ls (.int y :: .int x :: st) := by
  subst hp
  intro p e s m args below meth c H locs lsA Hs hC hP hD hS hl
  exact lv_icmp_ne hC.1 hC.2.1 hd ht (fun h => kt h p e s m args below meth c H locs lsA Hs hC hP hD hS hl) (fun h => kf h p e s m args below meth c H locs lsA Hs hC hP hD hS hl)
theorem J_if_lt {G : jG} {Γ : jΓ} {w : jWd} {pc pc' : Nat} {ls : List (Option Value)} {st : List Value} {x : Int32} {off : Int} (tgt : Nat) (hd : decode (jcc Γ) pc = .ok (.ifCond .lt off, 3)) (ht : (pc : Int) + off = (tgt : Int)) (hp : pc' = pc + 3) (kt : x < 0 → J G Γ w tgt ls st) (kf : ¬ x < 0 → J G Γ w pc' ls st) : J G Γ w pc ls (.int x :: st) := by
  subst hp
  intro p e s m args below meth c H locs lsA Hs hC hP hD hS hl
  exact lv_if_lt hC.1 hC.2.1 hd ht (fun h => kt h p e s m args below meth c H locs lsA Hs hC hP hD hS hl) (fun h => kf h p e s m args below meth c H locs lsA Hs hC hP hD hS hl)
theorem J_icmp_lt {G : jG} {Γ : jΓ} {w : jWd} {pc pc' : Nat} {ls : List (Option Value)} {st : List Value} {x y : Int32} {off : Int} (tgt : Nat) (hd : decode (jcc Γ) pc = .ok (.if_icmp .lt off, 3)) (ht : (pc : Int) + off = (tgt : Int)) (hp : pc' = pc + 3) (kt : x < y → J G Γ w tgt ls st) (kf : ¬ x < y → J G Γ w pc' ls st) : J G Γ w pc ls (.int y :: .int x :: st) := by
  subst hp
  intro p e s m args below meth c H locs lsA Hs hC hP hD hS hl
  exact lv_icmp_lt hC.1 hC.2.1 hd ht (fun h => kt h p e s m args below meth c H locs lsA Hs hC hP hD hS hl) (fun h => kf h p e s m args below meth c H locs lsA Hs hC hP hD hS hl)
theorem J_if_ge {G : jG} {Γ : jΓ} {w : jWd} {pc pc' : Nat} {ls : List (Option Value)} {st : List Value} {x : Int32} {off : Int} (tgt : Nat) (hd : decode (jcc Γ) pc = .ok (.ifCond .ge off, 3)) (ht : (pc : Int) + off = (tgt : Int)) (hp : pc' = pc + 3) (kt : 0 ≤ x → J G Γ w tgt ls st) (kf : ¬ 0 ≤ x → J G Γ w pc' ls st) : J G Γ w pc ls (.int x :: st) := by
  subst hp
  intro p e s m args below meth c H locs lsA Hs hC hP hD hS hl
  exact lv_if_ge hC.1 hC.2.1 hd ht (fun h => kt h p e s m args below meth c H locs lsA Hs hC hP hD hS hl) (fun h => kf h p e s m args below meth c H locs lsA Hs hC hP hD hS hl)
theorem J_icmp_ge {G : jG} {Γ : jΓ} {w : jWd} {pc pc' : Nat} {ls : List (Option Value)} {st : List Value} {x y : Int32} {off : Int} (tgt : Nat) (hd : decode (jcc Γ) pc = .ok (.if_icmp .ge off, 3)) (ht : (pc : Int) + off = (tgt : Int)) (hp : pc' = pc + 3) (kt : y ≤ x → J G Γ w tgt ls st) (kf : ¬ y ≤ x → J G Γ w pc' ls st) : J G Γ w pc ls (.int y :: .int x :: st) := by
  subst hp
  intro p e s m args below meth c H locs lsA Hs hC hP hD hS hl
  exact lv_icmp_ge hC.1 hC.2.1 hd ht (fun h => kt h p e s m args below meth c H locs lsA Hs hC hP hD hS hl) (fun h => kf h p e s m args below meth c H locs lsA Hs hC hP hD hS hl)
theorem J_if_gt {G : jG} {Γ : jΓ} {w : jWd} {pc pc' : Nat} {ls : List (Option Value)} {st : List Value} {x : Int32} {off : Int} (tgt : Nat) (hd : decode (jcc Γ) pc = .ok (.ifCond .gt off, 3)) (ht : (pc : Int) + off = (tgt : Int)) (hp : pc' = pc + 3) (kt : 0 < x → J G Γ w tgt ls st) (kf : ¬ 0 < x → J G Γ w pc' ls st) : J G Γ w pc ls (.int x :: st) := by
  subst hp
  intro p e s m args below meth c H locs lsA Hs hC hP hD hS hl
  exact lv_if_gt hC.1 hC.2.1 hd ht (fun h => kt h p e s m args below meth c H locs lsA Hs hC hP hD hS hl) (fun h => kf h p e s m args below meth c H locs lsA Hs hC hP hD hS hl)
theorem J_icmp_gt {G : jG} {Γ : jΓ} {w : jWd} {pc pc' : Nat} {ls : List (Option Value)} {st : List Value} {x y : Int32} {off : Int} (tgt : Nat) (hd : decode (jcc Γ) pc = .ok (.if_icmp .gt off, 3)) (ht : (pc : Int) + off = (tgt : Int)) (hp : pc' = pc + 3) (kt : y < x → J G Γ w tgt ls st) (kf : ¬ y < x → J G Γ w pc' ls st) : J G Γ w pc ls (.int y :: .int x :: st) := by
  subst hp
  intro p e s m args below meth c H locs lsA Hs hC hP hD hS hl
  exact lv_icmp_gt hC.1 hC.2.1 hd ht (fun h => kt h p e s m args below meth c H locs lsA Hs hC hP hD hS hl) (fun h => kf h p e s m args below meth c H locs lsA Hs hC hP hD hS hl)
theorem J_if_le {G : jG} {Γ : jΓ} {w : jWd} {pc pc' : Nat} {ls : List (Option Value)} {st : List Value} {x : Int32} {off : Int} (tgt : Nat) (hd : decode (jcc Γ) pc = .ok (.ifCond .le off, 3)) (ht : (pc : Int) + off = (tgt : Int)) (hp : pc' = pc + 3) (kt : x ≤ 0 → J G Γ w tgt ls st) (kf : ¬ x ≤ 0 → J G Γ w pc' ls st) : J G Γ w pc ls (.int x :: st) := by
  subst hp
  intro p e s m args below meth c H locs lsA Hs hC hP hD hS hl
  exact lv_if_le hC.1 hC.2.1 hd ht (fun h => kt h p e s m args below meth c H locs lsA Hs hC hP hD hS hl) (fun h => kf h p e s m args below meth c H locs lsA Hs hC hP hD hS hl)
theorem J_icmp_le {G : jG} {Γ : jΓ} {w : jWd} {pc pc' : Nat} {ls : List (Option Value)} {st : List Value} {x y : Int32} {off : Int} (tgt : Nat) (hd : decode (jcc Γ) pc = .ok (.if_icmp .le off, 3)) (ht : (pc : Int) + off = (tgt : Int)) (hp : pc' = pc + 3) (kt : x ≤ y → J G Γ w tgt ls st) (kf : ¬ x ≤ y → J G Γ w pc' ls st) : J G Γ w pc ls (.int y :: .int x :: st) := by
  subst hp
  intro p e s m args below meth c H locs lsA Hs hC hP hD hS hl
  exact lv_icmp_le hC.1 hC.2.1 hd ht (fun h => kt h p e s m args below meth c H locs lsA Hs hC hP hD hS hl) (fun h => kf h p e s m args below meth c H locs lsA Hs hC hP hD hS hl)
theorem J_goto {G : jG} {Γ : jΓ} {w : jWd} {pc pc' : Nat} {ls : List (Option Value)} {st : List Value} {off : Int} (tgt : Nat) (hd : decode (jcc Γ) pc = .ok (.goto off, 3)) (ht : (pc : Int) + off = (tgt : Int)) (k : J G Γ w tgt ls st) : J G Γ w pc ls st := by
  intro p e s m args below meth c H locs lsA Hs hC hP hD hS hl
  exact lv_goto hC.1 hC.2.1 hd ht (k p e s m args below meth c H locs lsA Hs hC hP hD hS hl)
theorem J_tabOut {G : jG} {Γ : jΓ} {w : jWd} {pc pc' : Nat} {ls : List (Option Value)} {st : List Value} {dflt lo hi : Int} {offs : Array Int} {len : Nat} {x : Int32} (tgt : Nat) (hd : decode (jcc Γ) pc = .ok (.tableswitch dflt lo hi offs, len)) (h : x.toInt < lo ∨ hi < x.toInt) (ht : (pc : Int) + dflt = (tgt : Int)) (k : J G Γ w tgt ls st) : J G Γ w pc ls (.int x :: st) := by
  intro p e s m args below meth c H locs lsA Hs hC hP hD hS hl
  exact lv_tableOut hC.1 hC.2.1 hd h ht (k p e s m args below meth c H locs lsA Hs hC hP hD hS hl)
theorem J_tabIn {G : jG} {Γ : jΓ} {w : jWd} {pc pc' : Nat} {ls : List (Option Value)} {st : List Value} {dflt lo hi : Int} {offs : Array Int} {len : Nat} {x : Int32} {off : Int} (tgt : Nat) (hd : decode (jcc Γ) pc = .ok (.tableswitch dflt lo hi offs, len)) (h1 : ¬ x.toInt < lo) (h2 : ¬ hi < x.toInt) (ho : offs[(x.toInt - lo).toNat]? = some off) (ht : (pc : Int) + off = (tgt : Int)) (k : J G Γ w tgt ls st) : J G Γ w pc ls (.int x :: st) := by
  intro p e s m args below meth c H locs lsA Hs hC hP hD hS hl
  exact lv_tableIn hC.1 hC.2.1 hd h1 h2 ho ht (k p e s m args below meth c H locs lsA Hs hC hP hD hS hl)
theorem J_look {G : jG} {Γ : jΓ} {w : jWd} {pc pc' : Nat} {ls : List (Option Value)} {st : List Value} {dflt : Int} {ps : Array (Int × Int)} {len : Nat} {x : Int32} {off : Int} (tgt : Nat) (hd : decode (jcc Γ) pc = .ok (.lookupswitch dflt ps, len)) (hs : (ps.toList.zip (ps.toList.drop 1)).all (fun (a, next) => a.1 < next.1) = true) (ho : Op.lookupswitch.offset ps.toList dflt x.toInt = off) (ht : (pc : Int) + off = (tgt : Int)) (k : J G Γ w tgt ls st) : J G Γ w pc ls (.int x :: st) := by
  intro p e s m args below meth c H locs lsA Hs hC hP hD hS hl
  exact lv_lookup hC.1 hC.2.1 hd hs ho ht (k p e s m args below meth c H locs lsA Hs hC hP hD hS hl)
theorem J_iload_n {G : jG} {Γ : jΓ} {w : jWd} {pc pc' : Nat} {ls : List (Option Value)} {st : List Value} {n : Fin 4} {x : Int32} (hd : decode (jcc Γ) pc = .ok (.iload_n n, 1)) (hv : ls[(n : Nat)]? = some (some (.int x))) (hp : pc' = pc + 1) (k : J G Γ w pc' ls (.int x :: st)) : J G Γ w pc ls st := by
  subst hp
  intro p e s m args below meth c H locs lsA Hs hC hP hD hS hl
  exact lv_iload_n hC.1 hC.2.1 hd rfl (jL_at hl hv) (k p e s m args below meth c H locs lsA Hs hC hP hD hS hl)
theorem J_iload {G : jG} {Γ : jΓ} {w : jWd} {pc pc' : Nat} {ls : List (Option Value)} {st : List Value} {i : Nat} {x : Int32} (hd : decode (jcc Γ) pc = .ok (.iload i, 2)) (hv : ls[i]? = some (some (.int x))) (hp : pc' = pc + 2) (k : J G Γ w pc' ls (.int x :: st)) : J G Γ w pc ls st := by
  subst hp
  intro p e s m args below meth c H locs lsA Hs hC hP hD hS hl
  exact lv_iload hC.1 hC.2.1 hd (jL_at hl hv) (k p e s m args below meth c H locs lsA Hs hC hP hD hS hl)
theorem J_lload_n {G : jG} {Γ : jΓ} {w : jWd} {pc pc' : Nat} {ls : List (Option Value)} {st : List Value} {n : Fin 4} {x : Int64} (hd : decode (jcc Γ) pc = .ok (.lload_n n, 1)) (hv : ls[(n : Nat)]? = some (some (.long x))) (hp : pc' = pc + 1) (k : J G Γ w pc' ls (.long x :: st)) : J G Γ w pc ls st := by
  subst hp
  intro p e s m args below meth c H locs lsA Hs hC hP hD hS hl
  exact lv_lload_n hC.1 hC.2.1 hd rfl (jL_at hl hv) (k p e s m args below meth c H locs lsA Hs hC hP hD hS hl)
theorem J_lload {G : jG} {Γ : jΓ} {w : jWd} {pc pc' : Nat} {ls : List (Option Value)} {st : List Value} {i : Nat} {x : Int64} (hd : decode (jcc Γ) pc = .ok (.lload i, 2)) (hv : ls[i]? = some (some (.long x))) (hp : pc' = pc + 2) (k : J G Γ w pc' ls (.long x :: st)) : J G Γ w pc ls st := by
  subst hp
  intro p e s m args below meth c H locs lsA Hs hC hP hD hS hl
  exact lv_lload hC.1 hC.2.1 hd (jL_at hl hv) (k p e s m args below meth c H locs lsA Hs hC hP hD hS hl)
theorem J_aload_n {G : jG} {Γ : jΓ} {w : jWd} {pc pc' : Nat} {ls : List (Option Value)} {st : List Value} {n : Fin 4} {x : Nat} (hd : decode (jcc Γ) pc = .ok (.aload_n n, 1)) (hv : ls[(n : Nat)]? = some (some (.ref x))) (hp : pc' = pc + 1) (k : J G Γ w pc' ls (.ref x :: st)) : J G Γ w pc ls st := by
  subst hp
  intro p e s m args below meth c H locs lsA Hs hC hP hD hS hl
  exact lv_aload_n hC.1 hC.2.1 hd rfl (jL_at hl hv) (k p e s m args below meth c H locs lsA Hs hC hP hD hS hl)
theorem J_aload {G : jG} {Γ : jΓ} {w : jWd} {pc pc' : Nat} {ls : List (Option Value)} {st : List Value} {i : Nat} {x : Nat} (hd : decode (jcc Γ) pc = .ok (.aload i, 2)) (hv : ls[i]? = some (some (.ref x))) (hp : pc' = pc + 2) (k : J G Γ w pc' ls (.ref x :: st)) : J G Γ w pc ls st := by
  subst hp
  intro p e s m args below meth c H locs lsA Hs hC hP hD hS hl
  exact lv_aload hC.1 hC.2.1 hd (jL_at hl hv) (k p e s m args below meth c H locs lsA Hs hC hP hD hS hl)
theorem J_istore_n {G : jG} {Γ : jΓ} {w : jWd} {pc pc' : Nat} {ls : List (Option Value)} {st : List Value} {n : Fin 4} {x : Int32} {ls' : List (Option Value)} (hd : decode (jcc Γ) pc = .ok (.istore_n n, 1)) (hn : (n : Nat) < jnL Γ) (hs : jSt ls n (.int x) ls') (hp : pc' = pc + 1) (k : J G Γ w pc' ls' st) : J G Γ w pc ls (.int x :: st) := by
  subst hp
  intro p e s m args below meth c H locs lsA Hs hC hP hD hS hl
  exact lv_istore_n hC.1 hC.2.1 hd rfl hl hn rfl (fun lsB hl2 => k p e s m args below meth c H locs lsB Hs hC hP hD hS (jSt_1 hl2 hs))
theorem J_istore {G : jG} {Γ : jΓ} {w : jWd} {pc pc' : Nat} {ls : List (Option Value)} {st : List Value} {i : Nat} {x : Int32} {ls' : List (Option Value)} (hd : decode (jcc Γ) pc = .ok (.istore i, 2)) (hn : i < jnL Γ) (hs : jSt ls i (.int x) ls') (hp : pc' = pc + 2) (k : J G Γ w pc' ls' st) : J G Γ w pc ls (.int x :: st) := by
  subst hp
  intro p e s m args below meth c H locs lsA Hs hC hP hD hS hl
  exact lv_istore hC.1 hC.2.1 hd hl hn rfl (fun lsB hl2 => k p e s m args below meth c H locs lsB Hs hC hP hD hS (jSt_1 hl2 hs))
theorem J_lstore_n {G : jG} {Γ : jΓ} {w : jWd} {pc pc' : Nat} {ls : List (Option Value)} {st : List Value} {n : Fin 4} {x : Int64} {ls' : List (Option Value)} (hd : decode (jcc Γ) pc = .ok (.lstore_n n, 1)) (hn : (n : Nat) + 1 < jnL Γ) (hs : jSt ls n (.long x) ls') (hp : pc' = pc + 1) (k : J G Γ w pc' ls' st) : J G Γ w pc ls (.long x :: st) := by
  subst hp
  intro p e s m args below meth c H locs lsA Hs hC hP hD hS hl
  exact lv_lstore_n hC.1 hC.2.1 hd rfl hl hn rfl (fun lsB hl2 => k p e s m args below meth c H locs lsB Hs hC hP hD hS (jSt_2 rfl hl2 hs))
theorem J_lstore {G : jG} {Γ : jΓ} {w : jWd} {pc pc' : Nat} {ls : List (Option Value)} {st : List Value} {i : Nat} {x : Int64} {ls' : List (Option Value)} (hd : decode (jcc Γ) pc = .ok (.lstore i, 2)) (hn : i + 1 < jnL Γ) (hs : jSt ls i (.long x) ls') (hp : pc' = pc + 2) (k : J G Γ w pc' ls' st) : J G Γ w pc ls (.long x :: st) := by
  subst hp
  intro p e s m args below meth c H locs lsA Hs hC hP hD hS hl
  exact lv_lstore hC.1 hC.2.1 hd hl hn rfl (fun lsB hl2 => k p e s m args below meth c H locs lsB Hs hC hP hD hS (jSt_2 rfl hl2 hs))
theorem J_iinc {G : jG} {Γ : jΓ} {w : jWd} {pc pc' : Nat} {ls : List (Option Value)} {st : List Value} {i : Nat} {n : Int} {x : Int32} {ls' : List (Option Value)} (hd : decode (jcc Γ) pc = .ok (.iinc i n, 3)) (hv : ls[i]? = some (some (.int x))) (hn : i < jnL Γ) (hs : jSt ls i (.int (x + Int32.ofInt n)) ls') (hp : pc' = pc + 3) (k : J G Γ w pc' ls' st) : J G Γ w pc ls st := by
  subst hp
  intro p e s m args below meth c H locs lsA Hs hC hP hD hS hl
  obtain ⟨kk, hk⟩ := List.getElem?_of_mem ((jL_mem G ls 0 (i, jtr G (.int x))).mpr ⟨i, .int x, hv, by simp⟩)
  exact lv_iinc hC.1 hC.2.1 hd hl hk rfl hn rfl (fun lsB hl2 => k p e s m args below meth c H locs lsB Hs hC hP hD hS (jSt_1 hl2 hs))
theorem J_iret {G : jG} {d : Nat} {own : String} {cc : ByteArray} {nL : Nat} {Q : Option Value → jWd → Prop} {w : jWd} {pc : Nat} {ls : List (Option Value)} {x : Int32} (hd : decode cc pc = .ok (.ireturn, 1)) (h : Q (some (.int x)) w) : J G (jM G d own cc nL (some .int) Q) w pc ls [.int x] := by
  intro p e s m args below meth c H locs lsA Hs hC hP hD hS hl
  have hH : Hs = s.heap := hC.2.2.2.2.2.2.2.2.2.2
  subst hH
  have hlocks : meth.locks = false := hC.2.2.2.1
  exact W.iret hC.1 hC.2.1 hC.2.2.1 (fun t ht hW => ⟨some (.int x), w, rfl, h, by rw [ht]; exact hP, hD, hS.F ht⟩) hS.2.2 hd hlocks
theorem J_zret {G : jG} {d : Nat} {own : String} {cc : ByteArray} {nL : Nat} {Q : Option Value → jWd → Prop} {w : jWd} {pc : Nat} {ls : List (Option Value)} {x : Int32} (hd : decode cc pc = .ok (.ireturn, 1)) (hx : x = 0 ∨ x = 1) (h : Q (some (.int x)) w) : J G (jM G d own cc nL (some .boolean) Q) w pc ls [.int x] := by
  intro p e s m args below meth c H locs lsA Hs hC hP hD hS hl
  have hH : Hs = s.heap := hC.2.2.2.2.2.2.2.2.2.2
  subst hH
  have hlocks : meth.locks = false := hC.2.2.2.1
  have hn : narrow .boolean (.int x) = .int x := by rcases hx with rfl | rfl <;> rfl
  exact W.zret hC.1 hC.2.1 hC.2.2.1 hn (fun t ht hW => ⟨some (.int x), w, rfl, h, by rw [ht]; exact hP, hD, hS.F ht⟩) hS.2.2 hd hlocks
theorem J_lret {G : jG} {d : Nat} {own : String} {cc : ByteArray} {nL : Nat} {Q : Option Value → jWd → Prop} {w : jWd} {pc : Nat} {ls : List (Option Value)} {x : Int64} (hd : decode cc pc = .ok (.lreturn, 1)) (h : Q (some (.long x)) w) : J G (jM G d own cc nL (some .long) Q) w pc ls [.long x] := by
  intro p e s m args below meth c H locs lsA Hs hC hP hD hS hl
  have hH : Hs = s.heap := hC.2.2.2.2.2.2.2.2.2.2
  subst hH
  have hlocks : meth.locks = false := hC.2.2.2.1
  exact W.lret hC.1 hC.2.1 hC.2.2.1 (fun t ht hW => ⟨some (.long x), w, rfl, h, by rw [ht]; exact hP, hD, hS.F ht⟩) hS.2.2 hd hlocks
theorem J_vret {G : jG} {d : Nat} {own : String} {cc : ByteArray} {nL : Nat} {Q : Option Value → jWd → Prop} {w : jWd} {pc : Nat} {ls : List (Option Value)} (hd : decode cc pc = .ok (.return_, 1)) (h : Q none w) : J G (jM G d own cc nL none Q) w pc ls [] := by
  intro p e s m args below meth c H locs lsA Hs hC hP hD hS hl
  have hH : Hs = s.heap := hC.2.2.2.2.2.2.2.2.2.2
  subst hH
  have hlocks : meth.locks = false := hC.2.2.2.1
  exact W.vret hC.1 hC.2.1 hC.2.2.1 (fun t ht hW => ⟨none, w, rfl, h, by rw [ht]; exact hP, hD, hS.F ht⟩) hS.2.2 hd hlocks
end
section
/-! ===== arrays, fields, statics, copies ===== -/
theorem jCnt_i {G : jG} {w : jWd} {a n : Nat} {z : List (Nat × Nat)} (hL : jly a = (0, n, z)) : jCnt G w a = .inl (jcA G 0, n, .inl (w.1 a)) := by unfold jCnt; rw [hL]; rfl
theorem jCnt_l {G : jG} {w : jWd} {a n : Nat} {z : List (Nat × Nat)} (hL : jly a = (1, n, z)) : jCnt G w a = .inl (jcA G 1, n, .inr (.inl (w.2 a))) := by unfold jCnt; rw [hL]; rfl
theorem jCnt_o {G : jG} {w : jWd} {a c n : Nat} {sl : List (Nat × Nat)} (hL : jly a = (c + 5, n, sl)) : jCnt G w a = .inr (c, jfs G w a 0 sl) := by unfold jCnt; rw [hL]; rfl
theorem jAt {G : jG} {w : jWd} {a : Nat} (ha : a < 84) {e : va_E} (h : jCnt G w a = e) : (jW G w)[a]? = some (jad G a, e) := by rw [jW_get G w ha, h]
theorem jin {i : Int32} {j n : Nat} (hi : i = nI j) (hj : j < n) (hn : n < 2 ^ 31) : vp_in i n ∧ i.toNatClampNeg = j := by
  subst hi
  exact ⟨vp_in_nI hj hn, nI_clamp (by omega)⟩
theorem J_iald {G : jG} {Γ : jΓ} {w : jWd} {pc pc' : Nat} {ls : List (Option Value)} {st : List Value} {a n : Nat} {z : List (Nat × Nat)} {i : Int32} (j : Nat) (hd : decode (jcc Γ) pc = .ok (.iaload, 1)) (hL : jly a = (0, n, z)) (ha : a < 84) (hi : i = nI j) (hj : j < n) (hn : n < 2 ^ 31) (hp : pc' = pc + 1) (k : J G Γ w pc' ls (.int (w.1 a j) :: st)) : J G Γ w pc ls (.int i :: .ref a :: st) := by
  subst hp
  obtain ⟨h1, h2⟩ := jin hi hj hn
  intro p e s m args below meth c H locs lsA Hs hC hP hD hS hl
  refine va_iald hC.1 hC.2.1 hC.2.2.2.2.2.2.2.1 hP a 0 (jAt ha (jCnt_i hL)) rfl h1 hd ?_
  rw [h2]
  exact k p e s m args below meth c H locs lsA Hs hC hP hD hS hl
theorem J_lald {G : jG} {Γ : jΓ} {w : jWd} {pc pc' : Nat} {ls : List (Option Value)} {st : List Value} {a n : Nat} {z : List (Nat × Nat)} {i : Int32} (j : Nat) (hd : decode (jcc Γ) pc = .ok (.laload, 1)) (hL : jly a = (1, n, z)) (ha : a < 84) (hi : i = nI j) (hj : j < n) (hn : n < 2 ^ 31) (hp : pc' = pc + 1) (k : J G Γ w pc' ls (.long (w.2 a j) :: st)) : J G Γ w pc ls (.int i :: .ref a :: st) := by
  subst hp
  obtain ⟨h1, h2⟩ := jin hi hj hn
  intro p e s m args below meth c H locs lsA Hs hC hP hD hS hl
  refine va_lald hC.1 hC.2.1 hC.2.2.2.2.2.2.2.1 hP a 1 (jAt ha (jCnt_l hL)) rfl h1 hd ?_
  rw [h2]
  exact k p e s m args below meth c H locs lsA Hs hC hP hD hS hl
theorem J_iast {G : jG} {Γ : jΓ} {w : jWd} {pc pc' : Nat} {ls : List (Option Value)} {st : List Value} {a n : Nat} {z : List (Nat × Nat)} {i x : Int32} (j : Nat) (hd : decode (jcc Γ) pc = .ok (.iastore, 1)) (hL : jly a = (0, n, z)) (ha : a < 84) (hi : i = nI j) (hj : j < n) (hn : n < 2 ^ 31) (hp : pc' = pc + 1) (k : J G Γ (jset w a j x) pc' ls st) : J G Γ w pc ls (.int x :: .int i :: .ref a :: st) := by
  subst hp
  obtain ⟨h1, h2⟩ := jin hi hj hn
  intro p e s m args below meth c H locs lsA Hs hC hP hD hS hl
  have he : (jW G w).set a (jad G a, .inl (jcA G 0, n, .inl (upd (w.1 a) j x))) = jW G (jset w a j x) :=
    jW_set ha (fun b hb => ⟨by unfold jset; rw [jsetA_1, if_neg hb], rfl⟩) (by rw [jCnt_i hL]; unfold jset; rw [jsetA_1, if_pos rfl])
  refine va_iast hC.1 hC.2.1 hC.2.2.2.2.2.2.2.1 hP hD hS a 0 (jAt ha (jCnt_i hL)) rfl h1 hd (fun H1 locs1 hP1 hD1 hS1 => ?_)
  rw [h2, he] at hP1 hD1
  exact k p e s m args below meth c H1 locs1 lsA Hs hC hP1 hD1 hS1 hl
theorem J_last {G : jG} {Γ : jΓ} {w : jWd} {pc pc' : Nat} {ls : List (Option Value)} {st : List Value} {a n : Nat} {z : List (Nat × Nat)} {i : Int32} {x : Int64} (j : Nat) (hd : decode (jcc Γ) pc = .ok (.lastore, 1)) (hL : jly a = (1, n, z)) (ha : a < 84) (hi : i = nI j) (hj : j < n) (hn : n < 2 ^ 31) (hp : pc' = pc + 1) (k : J G Γ (jsetL w a j x) pc' ls st) : J G Γ w pc ls (.long x :: .int i :: .ref a :: st) := by
  subst hp
  obtain ⟨h1, h2⟩ := jin hi hj hn
  intro p e s m args below meth c H locs lsA Hs hC hP hD hS hl
  have he : (jW G w).set a (jad G a, .inl (jcA G 1, n, .inr (.inl (vp_updL (w.2 a) j x)))) = jW G (jsetL w a j x) :=
    jW_set ha (fun b hb => ⟨rfl, by show _ = (if b = a then vp_updL (w.2 a) j x else w.2 b); rw [if_neg hb]⟩) (by rw [jCnt_l hL]; show Sum.inl (_, n, Sum.inr (Sum.inl (if a = a then vp_updL (w.2 a) j x else w.2 a))) = _; rw [if_pos rfl])
  refine va_last hC.1 hC.2.1 hC.2.2.2.2.2.2.2.1 hP hD hS a 1 (jAt ha (jCnt_l hL)) rfl h1 hd (fun H1 locs1 hP1 hD1 hS1 => ?_)
  rw [h2, he] at hP1 hD1
  exact k p e s m args below meth c H1 locs1 lsA Hs hC hP1 hD1 hS1 hl
theorem J_alen {G : jG} {Γ : jΓ} {w : jWd} {pc pc' : Nat} {ls : List (Option Value)} {st : List Value} {a n : Nat} {z : List (Nat × Nat)} (hd : decode (jcc Γ) pc = .ok (.arraylength, 1)) (hL : jly a = (0, n, z)) (ha : a < 84) (hp : pc' = pc + 1) (k : J G Γ w pc' ls (.int (nI n) :: st)) : J G Γ w pc ls (.ref a :: st) := by
  subst hp
  intro p e s m args below meth c H locs lsA Hs hC hP hD hS hl
  exact va_alen hC.1 hC.2.1 hC.2.2.2.2.2.2.2.1 hP a 0 (jAt ha (jCnt_i hL)) rfl rfl hd (k p e s m args below meth c H locs lsA Hs hC hP hD hS hl)
/-- an array's place that is a cell -/
theorem J_aald {G : jG} {Γ : jΓ} {w : jWd} {pc pc' : Nat} {ls : List (Option Value)} {st : List Value} {a b n ki : Nat} {rs : List (Nat × Nat)} {i : Int32} (j : Nat) (hd : decode (jcc Γ) pc = .ok (.aaload, 1)) (hL : jly a = (ki, n, rs)) (hk : ki = 2 ∨ ki = 3 ∨ ki = 4) (ha : a < 84) (hi : i = nI j) (hr : rs[j]? = some (2, b)) (hj : j < n) (hn : n < 2 ^ 31) (hp : pc' = pc + 1) (k : J G Γ w pc' ls (.ref b :: st)) : J G Γ w pc ls (.int i :: .ref a :: st) := by
  subst hp
  obtain ⟨h1, h2⟩ := jin hi hj hn
  intro p e s m args below meth c H locs lsA Hs hC hP hD hS hl
  have hk' := k p e s m args below meth c H locs lsA Hs hC hP hD hS hl
  have hv : va_rf (((fun j => (rs[j]?).map (fun q : Nat × Nat => jad G q.2)) : Nat → Option Nat) i.toNatClampNeg) = .ref (jad G b) := by
    rw [h2]
    simp [hr, va_rf]
  have hlt : i.toNatClampNeg < n := by omega
  have key : ∀ (c0 t0 : Nat) (ty : FieldType), jCnt G w a = .inl (jcA G c0, n, .inr (.inr (.inr (.inr (fun j => (rs[j]?).map (fun q : Nat × Nat => jad G q.2)))))) → (jTys G)[t0]? = some (jcA G c0, ty) → ty.isReference = true → W p G.1 e (jR Γ) s m args below meth c H locs (jcl Γ) (jsl Γ) (jZ Γ s args below) (F0 m pc lsA (.int i :: .ref (jad G a) :: st.map (jtr G))) := by
    intro c0 t0 ty hc0 ht0 hty
    exact W.aald (v := .ref (jad G b)) (ty := ty) hC.1 hC.2.1 (hP a _ (jAt ha hc0)) ((hC.2.2.2.2.2.2.2.1.2 t0 _ ht0).1 n (fun j => va_rf ((rs[j]?).map (fun q : Nat × Nat => jad G q.2)))) hty (fun q => by cases q) (by show ¬ (i < 0 ∨ (arrV _ _ _).slots.size ≤ _); rw [arrV_size]; exact h1) (by show (arrV _ _ _).slots[_]? = _; rw [arrV_read _ _ hlt]; exact congrArg some hv) rfl rfl hd hk'
  rcases hk with rfl | rfl | rfl
  · exact key 2 2 (.array .long) (by unfold jCnt; rw [hL]; rfl) rfl rfl
  · exact key 3 3 (.array .int) (by unfold jCnt; rw [hL]; rfl) rfl rfl
  · exact key 4 4 (.object RX4) (by unfold jCnt; rw [hL]; rfl) rfl rfl
/-- a field by its entry in a class's file -/
def jFl (own : String) (idx ci k : Nat) : Prop := ∃ (C : String) (T : u_T) (N : Nat), vwCl[ci]? = some (C, T, N) ∧ k < N ∧ (∀ w ∈ u_ws C T N, w ∈ jTbl) ∧ (T k).1 = C ∧
  (Cond.fieldLink own idx C (T k).2.1 (T k).2.2.1 ∈ jTbl ∨ ∃ host, Cond.fieldLinkNest own idx C (T k).2.1 (T k).2.2.1 host ∈ jNest)
def jFp (own : String) (idx ci k : Nat) (ty : FieldType) : Prop := ∃ (C : String) (T : u_T) (N : Nat) (ty0 : Nat → FieldType), vwCl[ci]? = some (C, T, N) ∧ k < N ∧ (∀ w ∈ u_ws C T N, w ∈ jTbl) ∧ (T k).1 = C ∧
  (Cond.fieldLink own idx C (T k).2.1 (T k).2.2.1 ∈ jTbl ∨ ∃ host, Cond.fieldLinkNest own idx C (T k).2.1 (T k).2.2.1 host ∈ jNest) ∧
  (∀ k, k < N → parseFieldDescriptor (T k).2.2.1 = some (ty0 k)) ∧ (∀ a, a < N → ∀ b, b < N → a ≠ b → (T a).2.1 ≠ (T b).2.1) ∧ (T k).2.2.2 = false ∧ parseFieldDescriptor (T k).2.2.1 = some ty
theorem J_get {G : jG} {Γ : jΓ} {w : jWd} {pc pc' : Nat} {ls : List (Option Value)} {st : List Value} {a n ci k idx : Nat} {q : Nat × Nat} {sl : List (Nat × Nat)} {v : Value} (hd : decode (jcc Γ) pc = .ok (.getfield idx, 3)) (hf : jFl (jown Γ) idx ci k) (hL : jly a = (ci + 5, n, sl)) (ha : a < 84) (hq : sl[k]? = some q) (hv : jsv w a k q = v) (hp : pc' = pc + 3) (kk : J G Γ w pc' ls (v :: st)) : J G Γ w pc ls (.ref a :: st) := by
  subst hp
  intro p e s m args below meth c H locs lsA Hs hC hP hD hS hl
  obtain ⟨C, T, N, h1, h2, h3, h4, h5⟩ := hf
  have hfs : (jfs G w a 0 sl)[k]? = some (jtr G v) := by rw [jfs_get, hq, ← hv, Nat.zero_add]; rfl
  have hsame : ∀ x, s.fieldFound? (T k).1 (T k).2.1 (T k).2.2.1 = some x → s.fieldFound? C (T k).2.1 (T k).2.2.1 = some x := by rw [h4]; exact fun _ h => h
  have hk := kk p e s m args below meth c H locs lsA Hs hC hP hD hS hl
  rcases h5 with h5 | ⟨host, h5⟩
  · exact va_get hC.1 hC.2.1 hC.2.2.2.2.2.2.1 h3 hC.2.2.2.2.2.1 hC.2.2.2.2.2.2.2.1 hP a (jAt ha (jCnt_o hL)) h1 k h2 (hC.2.2.2.2.2.2.1 _ h5) hsame hfs hd hk
  · exact va_getN hC.1 hC.2.1 hC.2.2.2.2.2.2.1 h3 hC.2.2.2.2.2.1 hC.2.2.2.2.2.2.2.1 hP a (jAt ha (jCnt_o hL)) h1 k h2 (va_Nw.use rfl (hC.2.2.2.2.2.2.2.2.2.1 _ h5)) hsame hfs hd hk
theorem J_getI {G : jG} {Γ : jΓ} {w : jWd} {pc pc' : Nat} {ls : List (Option Value)} {st : List Value} {a n ci k idx z : Nat} {sl : List (Nat × Nat)} (hd : decode (jcc Γ) pc = .ok (.getfield idx, 3)) (hf : jFl (jown Γ) idx ci k) (hL : jly a = (ci + 5, n, sl)) (ha : a < 84) (hq : sl[k]? = some (0, z)) (hp : pc' = pc + 3) (kk : J G Γ w pc' ls (.int (w.1 a k) :: st)) : J G Γ w pc ls (.ref a :: st) := J_get hd hf hL ha hq rfl hp kk
theorem J_getJ {G : jG} {Γ : jΓ} {w : jWd} {pc pc' : Nat} {ls : List (Option Value)} {st : List Value} {a n ci k idx z : Nat} {sl : List (Nat × Nat)} (hd : decode (jcc Γ) pc = .ok (.getfield idx, 3)) (hf : jFl (jown Γ) idx ci k) (hL : jly a = (ci + 5, n, sl)) (ha : a < 84) (hq : sl[k]? = some (1, z)) (hp : pc' = pc + 3) (kk : J G Γ w pc' ls (.long (w.2 a k) :: st)) : J G Γ w pc ls (.ref a :: st) := J_get hd hf hL ha hq rfl hp kk
theorem J_getR {G : jG} {Γ : jΓ} {w : jWd} {pc pc' : Nat} {ls : List (Option Value)} {st : List Value} {a b n ci k idx : Nat} {sl : List (Nat × Nat)} (hd : decode (jcc Γ) pc = .ok (.getfield idx, 3)) (hf : jFl (jown Γ) idx ci k) (hL : jly a = (ci + 5, n, sl)) (ha : a < 84) (hq : sl[k]? = some (2, b)) (hp : pc' = pc + 3) (kk : J G Γ w pc' ls (.ref b :: st)) : J G Γ w pc ls (.ref a :: st) := J_get hd hf hL ha hq rfl hp kk
theorem jfs_set {G : jG} {w w' : jWd} {a k : Nat} {v : Value} : ∀ (sl : List (Nat × Nat)) (k0 : Nat) (_ : ∀ j q, k0 + j ≠ k0 + k → sl[j]? = some q → jsv w a (k0 + j) q = jsv w' a (k0 + j) q) (_ : ∀ q, sl[k]? = some q → v = jtr G (jsv w' a (k0 + k) q)), (jfs G w a k0 sl).set k v = jfs G w' a k0 sl := by
  intro sl k0 h1 h2
  apply List.ext_getElem?
  intro j
  rw [jfs_get G w' a sl k0 j]
  by_cases hj : j < sl.length
  · by_cases hjk : j = k
    · subst hjk
      rw [List.getElem?_set_self (by rw [jfs_len]; exact hj)]
      rw [List.getElem?_eq_getElem hj]
      exact congrArg some (h2 _ (List.getElem?_eq_getElem hj))
    · rw [List.getElem?_set_ne (fun q => hjk q.symm), jfs_get G w a sl k0 j, List.getElem?_eq_getElem hj]
      simp only [Option.map_some]
      rw [h1 j _ (by omega) (List.getElem?_eq_getElem hj)]
  · rw [List.getElem?_eq_none (by rw [List.length_set, jfs_len]; omega), List.getElem?_eq_none (by omega)]
    rfl
/-- a field is written: the world behind it is the one that differs there alone -/
theorem J_put {G : jG} {Γ : jΓ} {w w' : jWd} {pc pc' : Nat} {ls : List (Option Value)} {st : List Value} {a n ci k idx : Nat} {q : Nat × Nat} {sl : List (Nat × Nat)} {v : Value} {ty : FieldType} (hd : decode (jcc Γ) pc = .ok (.putfield idx, 3)) (hf : jFp (jown Γ) idx ci k ty) (hL : jly a = (ci + 5, n, sl)) (ha : a < 84) (hq : sl[k]? = some q)
    (hn : narrow ty (jtr G v) = jtr G v) (hfit : fits ty (jtr G v) = true) (ho : ∀ b, b ≠ a → w.1 b = w'.1 b ∧ w.2 b = w'.2 b) (hs : ∀ j q, j ≠ k → jsv w a j q = jsv w' a j q) (hv : jtr G v = jtr G (jsv w' a k q)) (hp : pc' = pc + 3) (kk : J G Γ w' pc' ls st) : J G Γ w pc ls (v :: .ref a :: st) := by
  subst hp
  intro p e s m args below meth c H locs lsA Hs hC hP hD hS hl
  obtain ⟨C, T, N, ty0, h1, h2, h3, h4, h5, h6, h7, h8, h9⟩ := hf
  have hsame : ∀ x, s.fieldFound? (T k).1 (T k).2.1 (T k).2.2.1 = some x → s.fieldFound? C (T k).2.1 (T k).2.2.1 = some x := by rw [h4]; exact fun _ h => h
  have hkl : k < (jfs G w a 0 sl).length := by rw [jfs_len]; exact (List.getElem?_eq_some_iff.mp hq).1
  have he : (jW G w).set a (jad G a, .inr (ci, (jfs G w a 0 sl).set k (jtr G v))) = jW G w' :=
    jW_set ha (fun b hb => ho b hb) (by
      rw [jCnt_o hL]
      refine congrArg (fun z => Sum.inr (ci, z)) (jfs_set sl 0 (fun j q hj _ => hs _ q (by omega)) (fun q' hq' => ?_)).symm
      rw [hq] at hq'
      cases hq'
      rw [Nat.zero_add]
      exact hv)
  have hk : ∀ (H1 : Heap) (locs1 : List Loc), va_P (jD G) vwCl ((jW G w).set a (jad G a, .inr (ci, (jfs G w a 0 sl).set k (jtr G v)))) H1 → va_D (jA G) ((jW G w).set a (jad G a, .inr (ci, (jfs G w a 0 sl).set k (jtr G v)))) → va_S (jA G) Hs H1 locs1 → W p G.1 e (jR Γ) s m args below meth c H1 locs1 (jcl Γ) (jsl Γ) (jZ Γ s args below) (F0 m (pc + 3) lsA (st.map (jtr G))) := by
    intro H1 locs1 hP1 hD1 hS1
    rw [he] at hP1 hD1
    exact kk p e s m args below meth c H1 locs1 lsA Hs hC hP1 hD1 hS1 hl
  rcases h5 with h5 | ⟨host, h5⟩
  · exact va_put hC.1 hC.2.1 hC.2.2.2.2.2.2.1 h3 ty0 h6 h7 hC.2.2.2.2.2.1 hC.2.2.2.2.2.2.2.1 hP hD hS a (jAt ha (jCnt_o hL)) h1 k h2 (hC.2.2.2.2.2.2.1 _ h5) hsame h8 h9 hn hfit hkl hd hk
  · exact va_putN hC.1 hC.2.1 hC.2.2.2.2.2.2.1 h3 ty0 h6 h7 hC.2.2.2.2.2.1 hC.2.2.2.2.2.2.2.1 hP hD hS a (jAt ha (jCnt_o hL)) h1 k h2 (va_Nw.use rfl (hC.2.2.2.2.2.2.2.2.2.1 _ h5)) hsame h8 h9 hn hfit hkl hd hk
theorem jsv_ne {w : jWd} {a j k : Nat} (x : Int32) (q : Nat × Nat) (h : j ≠ k) : jsv w a j q = jsv (jset w a k x) a j q := by
  have e1 : (jset w a k x).1 a j = w.1 a j := by rw [jset_1, if_pos rfl, if_neg h]
  have e2 : (jset w a k x).2 a j = w.2 a j := rfl
  unfold jsv
  rw [e1, e2]
theorem J_putI {G : jG} {Γ : jΓ} {w : jWd} {pc pc' : Nat} {ls : List (Option Value)} {st : List Value} {a n ci k idx z : Nat} {sl : List (Nat × Nat)} {x : Int32} (hd : decode (jcc Γ) pc = .ok (.putfield idx, 3)) (hf : jFp (jown Γ) idx ci k .int) (hL : jly a = (ci + 5, n, sl)) (ha : a < 84) (hq : sl[k]? = some (0, z)) (hp : pc' = pc + 3) (kk : J G Γ (jset w a k x) pc' ls st) : J G Γ w pc ls (.int x :: .ref a :: st) :=
  J_put (w' := jset w a k x) hd hf hL ha hq rfl rfl (fun b hb => ⟨by unfold jset; rw [jsetA_1, if_neg hb], rfl⟩) (fun j q hj => jsv_ne x q hj) (by show Value.int x = .int ((jset w a k x).1 a k); rw [jset_1, if_pos rfl, if_pos rfl]) hp kk
theorem J_putZ {G : jG} {Γ : jΓ} {w : jWd} {pc pc' : Nat} {ls : List (Option Value)} {st : List Value} {a n ci k idx z : Nat} {sl : List (Nat × Nat)} {x : Int32} (hd : decode (jcc Γ) pc = .ok (.putfield idx, 3)) (hf : jFp (jown Γ) idx ci k .boolean) (hL : jly a = (ci + 5, n, sl)) (ha : a < 84) (hq : sl[k]? = some (0, z)) (hx : x = 0 ∨ x = 1) (hp : pc' = pc + 3) (kk : J G Γ (jset w a k x) pc' ls st) : J G Γ w pc ls (.int x :: .ref a :: st) :=
  J_put (w' := jset w a k x) hd hf hL ha hq (by rcases hx with rfl | rfl <;> rfl) (by rcases hx with rfl | rfl <;> rfl) (fun b hb => ⟨by unfold jset; rw [jsetA_1, if_neg hb], rfl⟩) (fun j q hj => jsv_ne x q hj) (by show Value.int x = .int ((jset w a k x).1 a k); rw [jset_1, if_pos rfl, if_pos rfl]) hp kk
theorem J_putJ {G : jG} {Γ : jΓ} {w : jWd} {pc pc' : Nat} {ls : List (Option Value)} {st : List Value} {a n ci k idx z : Nat} {sl : List (Nat × Nat)} {x : Int64} (hd : decode (jcc Γ) pc = .ok (.putfield idx, 3)) (hf : jFp (jown Γ) idx ci k .long) (hL : jly a = (ci + 5, n, sl)) (ha : a < 84) (hq : sl[k]? = some (1, z)) (hp : pc' = pc + 3) (kk : J G Γ (jsetL w a k x) pc' ls st) : J G Γ w pc ls (.long x :: .ref a :: st) :=
  J_put (w' := jsetL w a k x) hd hf hL ha hq rfl rfl (fun b hb => ⟨rfl, by show _ = (if b = a then vp_updL (w.2 a) k x else w.2 b); rw [if_neg hb]⟩) (fun j q hj => by
    have e2 : (jsetL w a k x).2 a j = w.2 a j := by rw [jsetL_2, if_pos rfl, if_neg hj]
    unfold jsv
    rw [e2]
    rfl) (by show Value.long x = .long ((jsetL w a k x).2 a k); rw [jsetL_2, if_pos rfl, if_pos rfl]) hp kk
/-- a text that is a field: which of the class's constants -/
theorem J_putS {G : jG} {Γ : jΓ} {w : jWd} {pc pc' : Nat} {ls : List (Option Value)} {st : List Value} {a n ci k idx z j : Nat} {sl : List (Nat × Nat)} (hd : decode (jcc Γ) pc = .ok (.putfield idx, 3)) (hf : jFp (jown Γ) idx ci k (.object "java/lang/String")) (hL : jly a = (ci + 5, n, sl)) (ha : a < 84) (hq : sl[k]? = some (3, z)) (hj : j < 2 ^ 31) (hp : pc' = pc + 3) (kk : J G Γ (jset w a k (nI j)) pc' ls st) : J G Γ w pc ls (.ref (1002 + j) :: .ref a :: st) :=
  J_put (w' := jset w a k (nI j)) hd hf hL ha hq rfl rfl (fun b hb => ⟨by unfold jset; rw [jsetA_1, if_neg hb], rfl⟩) (fun j q hj => jsv_ne _ q hj) (by
    show Value.ref (jad G (1002 + j)) = .ref (jad G (1002 + ((jset w a k (nI j)).1 a k).toNatClampNeg))
    rw [jset_1, if_pos rfl, if_pos rfl, nI_clamp hj]) hp kk
theorem J_getS {G : jG} {Γ : jΓ} {w : jWd} {pc pc' : Nat} {ls : List (Option Value)} {st : List Value} {a n ci k idx z : Nat} {sl : List (Nat × Nat)} (hd : decode (jcc Γ) pc = .ok (.getfield idx, 3)) (hf : jFl (jown Γ) idx ci k) (hL : jly a = (ci + 5, n, sl)) (ha : a < 84) (hq : sl[k]? = some (3, z)) (hp : pc' = pc + 3) (kk : J G Γ w pc' ls (.ref (1002 + (w.1 a k).toNatClampNeg) :: st)) : J G Γ w pc ls (.ref a :: st) := J_get hd hf hL ha hq rfl hp kk
end
section
/-! ===== calls (written by wip/whole/gen/calls.py) ===== -/
/-- what a call site links -/
def jLk (own : String) (idx : Nat) (y : MethodName) (n : Nat) : Prop := (y.cls ≠ "java/lang/invoke/MethodHandle" ∧ y.cls ≠ "java/lang/invoke/VarHandle" ∧ (parseMethodDescriptor y.desc).map (fun d => d.parameters.length) = some n) ∧ Cond.initialized y.cls ∈ jTbl ∧ (Cond.methodLink own idx y ∈ jTbl ∨ ∃ host, Cond.methodLinkNest own idx y host ∈ jNest)
def jLkV (own : String) (idx : Nat) (y : MethodName) (n : Nat) : Prop := jLk own idx y n ∧ Cond.instanceMethod y ∈ jTbl ∧ Cond.selects y.cls y y ∈ jTbl
def jLkS (own : String) (idx : Nat) (y : MethodName) (n : Nat) : Prop := jLk own idx y n ∧ Cond.static y ∈ jTbl
def jroom (Γ : jΓ) (d nL : Nat) : Prop := (d + 1 ≤ (jR Γ).frames ∧ 8 + (nL + 11) + 40 * d ≤ (jR Γ).locals) ∧ jcl Γ ≤ (jR Γ).cells ∧ jsl Γ ≤ (jR Γ).slots
theorem jGood {y : MethodName} {cc : ByteArray} {nL : Nat} {ret : Option FieldType} (h : Cond.code y cc nL ret ∈ jTbl) : GoodIn jTbl (Cond.code y cc nL ret :: jTbl) := fun w hw => by
  have hm : w ∈ jTbl := by
    rcases List.mem_cons.mp hw with rfl | hw
    · exact h
    · exact hw
  exact ⟨hm, good_of_word (jTbl_good w hm)⟩
theorem jCallB {G : jG} {Γ : jΓ} {p : Program} {s : State} {m : MethodId} {args : Array Value} {meth : Method} {c : Code} {Hs : Heap} {d idx n nL : Nat} {y : MethodName} {cc : ByteArray} {ret : Option FieldType} (hC : jC G Γ p s m args meth c Hs) (hk : jLk (jown Γ) idx y n) (hcode : Cond.code y cc nL ret ∈ jTbl) (hr : jroom Γ d nL) :
    (CallB (jR Γ) s args (jown Γ) idx y cc nL ret (Cond.code y cc nL ret :: jTbl) (jRm d) 0 0 n) ∨ ∃ host, va_CN (jR Γ) s args (jown Γ) idx y host cc nL ret (Cond.code y cc nL ret :: jTbl) (jRm d) 0 0 n := by
  obtain ⟨h1, h2, h3⟩ := hk
  have hts := hC.2.2.2.2.2.2.1
  rcases h3 with h3 | ⟨host, h3⟩
  · exact Or.inl (callB_of n hts (jGood hcode) rfl rfl rfl (hts _ h2) (hts _ h3) h1 hr.1)
  · exact Or.inr ⟨host, va_cnB n hts (jGood hcode) rfl rfl rfl (hC.2.2.2.2.2.2.2.2.2.1 _ h3) (hts _ h2) h1 hr.1⟩
theorem jPre {G : jG} {Γ : jΓ} {p : Program} {s : State} {m : MethodId} {args : Array Value} {meth : Method} {c : Code} {H Hs : Heap} {locs : List Loc} {w : jWd} (as : List Value) (hC : jC G Γ p s m args meth c Hs) (hP : va_P (jD G) vwCl (jW G w) H) (hD : va_D (jA G) (jW G w)) (hS : va_S (jA G) Hs H locs) : PreS s H (va_Pc (as.map (jtr G)) (jH G w)) (as.map (jtr G)) := by
  refine ⟨fun a U g mk q => ?_, fun U hU hW => ?_⟩
  · obtain ⟨q0, qP, qK, qD, qS, qN⟩ := q
    exact ⟨q0, qP, va_K.moved (u := U) (U := U.calling g mk a) (Vm.Alike.refl U.vm) qK, qD, jS.moved (u := U) (U := U.calling g mk a) (Vm.Alike.refl U.vm) qS, jNw.same (u := U) (U := U.calling g mk a) rfl qN⟩
  · exact ⟨rfl, by rw [hU]; exact hP, va_K.moved hW.alike hC.2.2.2.2.2.2.2.1, hD, by rw [hU]; exact (hC.2.2.2.2.2.2.2.2.1.kept (fun a h1 h2 => hS.2.1 a h1 h2)).moved hW.alike, jNw.warm hW hC.2.2.2.2.2.2.2.2.2.1⟩
theorem jBack {G : jG} {p : Program} {e : Env} {R : Room} {s : State} {m : MethodId} {args : Array Value} {below : List Frame} {meth : Method} {c : Code} {H Hs : Heap} {locs : List Loc} {cells slots : Nat} {Z : State → Prop} {pc : Nat} {ls : Array Slot} {st0 rest : List Value} {a : Array Value} {Q : Option Value → jWd → Prop}
    (hr : va_Run p G.1 e R s m args below meth c H locs cells slots 0 0 (F0 m pc ls st0) rest (jQ G Q a) (jA G)) (hS : va_S (jA G) Hs H locs)
    (kk : ∀ (r : Option Value) (w' : jWd) (H1 : Heap) (locs1 : List Loc), Q r w' → va_P (jD G) vwCl (jW G w') H1 → va_D (jA G) (jW G w') → va_S (jA G) Hs H1 locs1 → W p G.1 e R s m args below meth c H1 locs1 cells slots Z (F0 m (pc + 3) ls ((r.map (jtr G)).toList ++ rest))) : W p G.1 e R s m args below meth c H locs cells slots Z (F0 m pc ls st0) := by
  intro T hT X
  obtain ⟨v, st₀, t, T', L, h0, X', hL, e1, e2, ⟨r, w', hv, hq, hP, hD, hz, hk⟩, st⟩ := hr T hT X
  cases hv
  rw [h0] at hz hk
  rw [← e1] at hP hz hk
  obtain ⟨t2, a1, b1⟩ := kk r w' T'.heap (locs ++ L) hq hP hD
    ⟨Nat.le_trans hS.1 hz, fun q h1 h2 => by rw [hk q (Nat.lt_of_lt_of_le h1 hS.1) h2]; exact hS.2.1 q h1 h2, fun q hq => by
      rcases List.mem_append.mp hq with h | h
      · exact hS.2.2 q h
      · exact hL q h⟩ T' rfl X'
  exact ⟨t2, st t2 a1, b1⟩
theorem jcats (G : jG) (st : List Value) : (st.map (jtr G)).map (fun v => v.category) = st.map (fun v => v.category) := by
  rw [List.map_map]
  exact List.map_congr_left (fun v _ => jtr_cat G v)
/-- a call of an object's method; of a static one -/
theorem J_callV {G : jG} {Γ : jΓ} {w : jWd} {pc pc' : Nat} {ls : List (Option Value)} {rest : List Value} {a ci nn d idx n nL : Nat} {z : List (Nat × Nat)} {cq : vw_C} {y : MethodName} {cc : ByteArray} {ret : Option FieldType} {Q : Option Value → jWd → Prop} (As : List Value) {st : List Value} (hst : st = As.reverse ++ .ref a :: rest) (hd : decode (jcc Γ) pc = .ok (.invokevirtual idx, 3)) (hk : jLkV (jown Γ) idx y n) (hcode : Cond.code y cc nL ret ∈ jTbl) (hM : jK G d y cc nL ret (.ref a :: As) w Q)
    (hL : jly a = (ci + 5, nn, z)) (ha : a < 84) (hc : vwCl[ci]? = some cq) (hcy : cq.1 = y.cls) (hn : As.length = n) (hr : jroom Γ d nL) (hw : (rest.map fun v => v.category).sum ≤ 8) (hp : pc' = pc + 3)
    (kk : ∀ r w', Q r w' → J G Γ w' pc' ls (r.toList ++ rest)) : J G Γ w pc ls st := by
  subst hp hst
  intro p e s m args below meth c H locs lsA Hs hC hP hD hS hl
  have hx : CallFix p m c (jcc Γ) (jnL Γ) s args jTbl (jown Γ) := ⟨hC.1, hC.2.1, hC.2.2.2.2.1, hC.2.2.2.2.2.1, hC.2.2.2.2.2.2.1⟩
  have hpre := jPre (.ref a :: As) hC hP hD hS
  have hrecv := va_recv hC.2.2.2.2.2.2.2.1 hP hc (jAt ha (jCnt_o hL))
  rw [hcy] at hrecv
  have hts := hC.2.2.2.2.2.2.1
  have hmap : (As.reverse ++ .ref a :: rest).map (jtr G) = (As.map (jtr G)).reverse ++ .ref (jad G a) :: rest.map (jtr G) := by simp [List.map_reverse]; rfl
  rw [hmap]
  have hroom : 2 * (F0 m pc lsA ((As.map (jtr G)).reverse ++ .ref (jad G a) :: rest.map (jtr G))).monitorRoom + ((rest.map (jtr G)).map fun v => v.category).sum ≤ 8 := lv_room (by rw [jcats]; exact hw)
  have goes : ∀ hr2 : va_Run p G.1 e (jR Γ) s m args below meth c H locs (jcl Γ) (jsl Γ) 0 0 (F0 m pc lsA ((As.map (jtr G)).reverse ++ .ref (jad G a) :: rest.map (jtr G))) (rest.map (jtr G)) (jQ G Q (Value.ref (jad G a) :: As.map (jtr G)).toArray) (jA G), W p G.1 e (jR Γ) s m args below meth c H locs (jcl Γ) (jsl Γ) (jZ Γ s args below) (F0 m pc lsA ((As.map (jtr G)).reverse ++ .ref (jad G a) :: rest.map (jtr G))) := by
    intro hr2
    refine jBack hr2 hS (fun r w' H1 locs1 hq hP1 hD1 hS1 => ?_)
    have h := kk r w' hq p e s m args below meth c H1 locs1 lsA Hs hC hP1 hD1 hS1 hl
    rw [List.map_append] at h
    cases r <;> exact h
  rcases jCallB hC hk.1 hcode hr with cw | ⟨host, cw⟩
  · exact goes (va_runV hx hM ⟨cw, hts _ hk.2.1, hts _ hk.2.2⟩ ⟨hpre.1, hrecv, hpre.2⟩ rfl (by rw [List.length_map]; exact hn) hl.1 rfl hroom hd ⟨hr.2.1, hr.2.2⟩)
  · exact goes (va_runVN hx hM ⟨cw, hts _ hk.2.1, hts _ hk.2.2⟩ ⟨hpre.1, hrecv, hpre.2⟩ rfl (by rw [List.length_map]; exact hn) hl.1 rfl hroom hd ⟨hr.2.1, hr.2.2⟩)
theorem J_callS {G : jG} {Γ : jΓ} {w : jWd} {pc pc' : Nat} {ls : List (Option Value)} {rest : List Value} {d idx n nL : Nat} {y : MethodName} {cc : ByteArray} {ret : Option FieldType} {Q : Option Value → jWd → Prop} (As : List Value) {st : List Value} (hst : st = As.reverse ++ rest) (hd : decode (jcc Γ) pc = .ok (.invokestatic idx, 3)) (hk : jLkS (jown Γ) idx y n) (hcode : Cond.code y cc nL ret ∈ jTbl) (hM : jK G d y cc nL ret As w Q)
    (hn : As.length = n) (hr : jroom Γ d nL) (hw : (rest.map fun v => v.category).sum ≤ 8) (hp : pc' = pc + 3)
    (kk : ∀ r w', Q r w' → J G Γ w' pc' ls (r.toList ++ rest)) : J G Γ w pc ls st := by
  subst hp hst
  intro p e s m args below meth c H locs lsA Hs hC hP hD hS hl
  have hx : CallFix p m c (jcc Γ) (jnL Γ) s args jTbl (jown Γ) := ⟨hC.1, hC.2.1, hC.2.2.2.2.1, hC.2.2.2.2.2.1, hC.2.2.2.2.2.2.1⟩
  have hpre := jPre As hC hP hD hS
  have hts := hC.2.2.2.2.2.2.1
  have hmap : (As.reverse ++ rest).map (jtr G) = (As.map (jtr G)).reverse ++ rest.map (jtr G) := by simp [List.map_reverse]
  rw [hmap]
  have hroom : 2 * (F0 m pc lsA ((As.map (jtr G)).reverse ++ rest.map (jtr G))).monitorRoom + ((rest.map (jtr G)).map fun v => v.category).sum ≤ 8 := lv_room (by rw [jcats]; exact hw)
  have goes : ∀ hr2 : va_Run p G.1 e (jR Γ) s m args below meth c H locs (jcl Γ) (jsl Γ) 0 0 (F0 m pc lsA ((As.map (jtr G)).reverse ++ rest.map (jtr G))) (rest.map (jtr G)) (jQ G Q (As.map (jtr G)).toArray) (jA G), W p G.1 e (jR Γ) s m args below meth c H locs (jcl Γ) (jsl Γ) (jZ Γ s args below) (F0 m pc lsA ((As.map (jtr G)).reverse ++ rest.map (jtr G))) := by
    intro hr2
    refine jBack hr2 hS (fun r w' H1 locs1 hq hP1 hD1 hS1 => ?_)
    have h := kk r w' hq p e s m args below meth c H1 locs1 lsA Hs hC hP1 hD1 hS1 hl
    rw [List.map_append] at h
    cases r <;> exact h
  rcases jCallB hC hk.1 hcode hr with cw | ⟨host, cw⟩
  · exact goes (va_runS hx hM ⟨cw, hts _ hk.2⟩ hpre rfl (by rw [List.length_map]; exact hn) hl.1 rfl hroom hd ⟨hr.2.1, hr.2.2⟩)
  · exact goes (va_runSN hx hM ⟨cw, hts _ hk.2, trivial⟩ hpre rfl (by rw [List.length_map]; exact hn) hl.1 rfl hroom hd ⟨hr.2.1, hr.2.2⟩)
/-- a method that answers one thing, and leaves one world -/
abbrev jKd (G : jG) (d : Nat) (y : MethodName) (cc : ByteArray) (nL : Nat) (ret : Option FieldType) (args : List Value) (w : jWd) (r : Option Value) (w1 : jWd) : Prop := jK G d y cc nL ret args w (fun r' w' => r' = r ∧ w' = w1)

theorem J_V0q {G : jG} {Γ : jΓ} {w w1 : jWd} {pc pc' : Nat} {ls : List (Option Value)} {rest : List Value} {d idx nL : Nat} {y : MethodName} {cc : ByteArray} {ret : Option FieldType} {v : Value}  {Q : Option Value → jWd → Prop} {a ci nn : Nat} {z : List (Nat × Nat)} {cq : vw_C} (hd : decode (jcc Γ) pc = .ok (.invokevirtual idx, 3)) (hk : jLkV (jown Γ) idx y 0) (hcode : Cond.code y cc nL ret ∈ jTbl) (hM : jK G d y cc nL ret [.ref a] w Q) (hL : jly a = (ci + 5, nn, z)) (ha : a < 84) (hc : vwCl[ci]? = some cq) (hcy : cq.1 = y.cls) (hr : jroom Γ d nL) (hw : (rest.map fun v => v.category).sum ≤ 8) (hp : pc' = pc + 3) (kk : ∀ r w', Q r w' → J G Γ w' pc' ls (r.toList ++ rest)) : J G Γ w pc ls (.ref a :: rest) := J_callV [] rfl hd hk hcode hM hL ha hc hcy rfl hr hw hp kk
theorem J_V0v {G : jG} {Γ : jΓ} {w w1 : jWd} {pc pc' : Nat} {ls : List (Option Value)} {rest : List Value} {d idx nL : Nat} {y : MethodName} {cc : ByteArray} {ret : Option FieldType} {v : Value}   {a ci nn : Nat} {z : List (Nat × Nat)} {cq : vw_C} (hd : decode (jcc Γ) pc = .ok (.invokevirtual idx, 3)) (hk : jLkV (jown Γ) idx y 0) (hcode : Cond.code y cc nL ret ∈ jTbl) (hM : jKd G d y cc nL ret [.ref a] w (some v) w1) (hL : jly a = (ci + 5, nn, z)) (ha : a < 84) (hc : vwCl[ci]? = some cq) (hcy : cq.1 = y.cls) (hr : jroom Γ d nL) (hw : (rest.map fun v => v.category).sum ≤ 8) (hp : pc' = pc + 3) (kk : J G Γ w1 pc' ls (v :: rest)) : J G Γ w pc ls (.ref a :: rest) := J_callV [] rfl hd hk hcode hM hL ha hc hcy rfl hr hw hp (fun r w' h => by obtain ⟨rfl, rfl⟩ := h; exact kk)
theorem J_V00 {G : jG} {Γ : jΓ} {w w1 : jWd} {pc pc' : Nat} {ls : List (Option Value)} {rest : List Value} {d idx nL : Nat} {y : MethodName} {cc : ByteArray} {ret : Option FieldType} {v : Value}   {a ci nn : Nat} {z : List (Nat × Nat)} {cq : vw_C} (hd : decode (jcc Γ) pc = .ok (.invokevirtual idx, 3)) (hk : jLkV (jown Γ) idx y 0) (hcode : Cond.code y cc nL ret ∈ jTbl) (hM : jKd G d y cc nL ret [.ref a] w none w1) (hL : jly a = (ci + 5, nn, z)) (ha : a < 84) (hc : vwCl[ci]? = some cq) (hcy : cq.1 = y.cls) (hr : jroom Γ d nL) (hw : (rest.map fun v => v.category).sum ≤ 8) (hp : pc' = pc + 3) (kk : J G Γ w1 pc' ls rest) : J G Γ w pc ls (.ref a :: rest) := J_callV [] rfl hd hk hcode hM hL ha hc hcy rfl hr hw hp (fun r w' h => by obtain ⟨rfl, rfl⟩ := h; exact kk)
theorem J_V1q {G : jG} {Γ : jΓ} {w w1 : jWd} {pc pc' : Nat} {ls : List (Option Value)} {rest : List Value} {d idx nL : Nat} {y : MethodName} {cc : ByteArray} {ret : Option FieldType} {v : Value} {x1 : Value} {Q : Option Value → jWd → Prop} {a ci nn : Nat} {z : List (Nat × Nat)} {cq : vw_C} (hd : decode (jcc Γ) pc = .ok (.invokevirtual idx, 3)) (hk : jLkV (jown Γ) idx y 1) (hcode : Cond.code y cc nL ret ∈ jTbl) (hM : jK G d y cc nL ret [.ref a, x1] w Q) (hL : jly a = (ci + 5, nn, z)) (ha : a < 84) (hc : vwCl[ci]? = some cq) (hcy : cq.1 = y.cls) (hr : jroom Γ d nL) (hw : (rest.map fun v => v.category).sum ≤ 8) (hp : pc' = pc + 3) (kk : ∀ r w', Q r w' → J G Γ w' pc' ls (r.toList ++ rest)) : J G Γ w pc ls (x1 :: .ref a :: rest) := J_callV [x1] rfl hd hk hcode hM hL ha hc hcy rfl hr hw hp kk
theorem J_S1q {G : jG} {Γ : jΓ} {w w1 : jWd} {pc pc' : Nat} {ls : List (Option Value)} {rest : List Value} {d idx nL : Nat} {y : MethodName} {cc : ByteArray} {ret : Option FieldType} {v : Value} {x1 : Value} {Q : Option Value → jWd → Prop} (hd : decode (jcc Γ) pc = .ok (.invokestatic idx, 3)) (hk : jLkS (jown Γ) idx y 1) (hcode : Cond.code y cc nL ret ∈ jTbl) (hM : jK G d y cc nL ret [x1] w Q) (hr : jroom Γ d nL) (hw : (rest.map fun v => v.category).sum ≤ 8) (hp : pc' = pc + 3) (kk : ∀ r w', Q r w' → J G Γ w' pc' ls (r.toList ++ rest)) : J G Γ w pc ls (x1 :: rest) := J_callS [x1] rfl hd hk hcode hM rfl hr hw hp kk
theorem J_V1v {G : jG} {Γ : jΓ} {w w1 : jWd} {pc pc' : Nat} {ls : List (Option Value)} {rest : List Value} {d idx nL : Nat} {y : MethodName} {cc : ByteArray} {ret : Option FieldType} {v : Value} {x1 : Value}  {a ci nn : Nat} {z : List (Nat × Nat)} {cq : vw_C} (hd : decode (jcc Γ) pc = .ok (.invokevirtual idx, 3)) (hk : jLkV (jown Γ) idx y 1) (hcode : Cond.code y cc nL ret ∈ jTbl) (hM : jKd G d y cc nL ret [.ref a, x1] w (some v) w1) (hL : jly a = (ci + 5, nn, z)) (ha : a < 84) (hc : vwCl[ci]? = some cq) (hcy : cq.1 = y.cls) (hr : jroom Γ d nL) (hw : (rest.map fun v => v.category).sum ≤ 8) (hp : pc' = pc + 3) (kk : J G Γ w1 pc' ls (v :: rest)) : J G Γ w pc ls (x1 :: .ref a :: rest) := J_callV [x1] rfl hd hk hcode hM hL ha hc hcy rfl hr hw hp (fun r w' h => by obtain ⟨rfl, rfl⟩ := h; exact kk)
theorem J_S1v {G : jG} {Γ : jΓ} {w w1 : jWd} {pc pc' : Nat} {ls : List (Option Value)} {rest : List Value} {d idx nL : Nat} {y : MethodName} {cc : ByteArray} {ret : Option FieldType} {v : Value} {x1 : Value}  (hd : decode (jcc Γ) pc = .ok (.invokestatic idx, 3)) (hk : jLkS (jown Γ) idx y 1) (hcode : Cond.code y cc nL ret ∈ jTbl) (hM : jKd G d y cc nL ret [x1] w (some v) w1) (hr : jroom Γ d nL) (hw : (rest.map fun v => v.category).sum ≤ 8) (hp : pc' = pc + 3) (kk : J G Γ w1 pc' ls (v :: rest)) : J G Γ w pc ls (x1 :: rest) := J_callS [x1] rfl hd hk hcode hM rfl hr hw hp (fun r w' h => by obtain ⟨rfl, rfl⟩ := h; exact kk)
theorem J_V10 {G : jG} {Γ : jΓ} {w w1 : jWd} {pc pc' : Nat} {ls : List (Option Value)} {rest : List Value} {d idx nL : Nat} {y : MethodName} {cc : ByteArray} {ret : Option FieldType} {v : Value} {x1 : Value}  {a ci nn : Nat} {z : List (Nat × Nat)} {cq : vw_C} (hd : decode (jcc Γ) pc = .ok (.invokevirtual idx, 3)) (hk : jLkV (jown Γ) idx y 1) (hcode : Cond.code y cc nL ret ∈ jTbl) (hM : jKd G d y cc nL ret [.ref a, x1] w none w1) (hL : jly a = (ci + 5, nn, z)) (ha : a < 84) (hc : vwCl[ci]? = some cq) (hcy : cq.1 = y.cls) (hr : jroom Γ d nL) (hw : (rest.map fun v => v.category).sum ≤ 8) (hp : pc' = pc + 3) (kk : J G Γ w1 pc' ls rest) : J G Γ w pc ls (x1 :: .ref a :: rest) := J_callV [x1] rfl hd hk hcode hM hL ha hc hcy rfl hr hw hp (fun r w' h => by obtain ⟨rfl, rfl⟩ := h; exact kk)
theorem J_S10 {G : jG} {Γ : jΓ} {w w1 : jWd} {pc pc' : Nat} {ls : List (Option Value)} {rest : List Value} {d idx nL : Nat} {y : MethodName} {cc : ByteArray} {ret : Option FieldType} {v : Value} {x1 : Value}  (hd : decode (jcc Γ) pc = .ok (.invokestatic idx, 3)) (hk : jLkS (jown Γ) idx y 1) (hcode : Cond.code y cc nL ret ∈ jTbl) (hM : jKd G d y cc nL ret [x1] w none w1) (hr : jroom Γ d nL) (hw : (rest.map fun v => v.category).sum ≤ 8) (hp : pc' = pc + 3) (kk : J G Γ w1 pc' ls rest) : J G Γ w pc ls (x1 :: rest) := J_callS [x1] rfl hd hk hcode hM rfl hr hw hp (fun r w' h => by obtain ⟨rfl, rfl⟩ := h; exact kk)
theorem J_V2q {G : jG} {Γ : jΓ} {w w1 : jWd} {pc pc' : Nat} {ls : List (Option Value)} {rest : List Value} {d idx nL : Nat} {y : MethodName} {cc : ByteArray} {ret : Option FieldType} {v : Value} {x1 x2 : Value} {Q : Option Value → jWd → Prop} {a ci nn : Nat} {z : List (Nat × Nat)} {cq : vw_C} (hd : decode (jcc Γ) pc = .ok (.invokevirtual idx, 3)) (hk : jLkV (jown Γ) idx y 2) (hcode : Cond.code y cc nL ret ∈ jTbl) (hM : jK G d y cc nL ret [.ref a, x1, x2] w Q) (hL : jly a = (ci + 5, nn, z)) (ha : a < 84) (hc : vwCl[ci]? = some cq) (hcy : cq.1 = y.cls) (hr : jroom Γ d nL) (hw : (rest.map fun v => v.category).sum ≤ 8) (hp : pc' = pc + 3) (kk : ∀ r w', Q r w' → J G Γ w' pc' ls (r.toList ++ rest)) : J G Γ w pc ls (x2 :: x1 :: .ref a :: rest) := J_callV [x1, x2] rfl hd hk hcode hM hL ha hc hcy rfl hr hw hp kk
theorem J_S2q {G : jG} {Γ : jΓ} {w w1 : jWd} {pc pc' : Nat} {ls : List (Option Value)} {rest : List Value} {d idx nL : Nat} {y : MethodName} {cc : ByteArray} {ret : Option FieldType} {v : Value} {x1 x2 : Value} {Q : Option Value → jWd → Prop} (hd : decode (jcc Γ) pc = .ok (.invokestatic idx, 3)) (hk : jLkS (jown Γ) idx y 2) (hcode : Cond.code y cc nL ret ∈ jTbl) (hM : jK G d y cc nL ret [x1, x2] w Q) (hr : jroom Γ d nL) (hw : (rest.map fun v => v.category).sum ≤ 8) (hp : pc' = pc + 3) (kk : ∀ r w', Q r w' → J G Γ w' pc' ls (r.toList ++ rest)) : J G Γ w pc ls (x2 :: x1 :: rest) := J_callS [x1, x2] rfl hd hk hcode hM rfl hr hw hp kk
theorem J_V2v {G : jG} {Γ : jΓ} {w w1 : jWd} {pc pc' : Nat} {ls : List (Option Value)} {rest : List Value} {d idx nL : Nat} {y : MethodName} {cc : ByteArray} {ret : Option FieldType} {v : Value} {x1 x2 : Value}  {a ci nn : Nat} {z : List (Nat × Nat)} {cq : vw_C} (hd : decode (jcc Γ) pc = .ok (.invokevirtual idx, 3)) (hk : jLkV (jown Γ) idx y 2) (hcode : Cond.code y cc nL ret ∈ jTbl) (hM : jKd G d y cc nL ret [.ref a, x1, x2] w (some v) w1) (hL : jly a = (ci + 5, nn, z)) (ha : a < 84) (hc : vwCl[ci]? = some cq) (hcy : cq.1 = y.cls) (hr : jroom Γ d nL) (hw : (rest.map fun v => v.category).sum ≤ 8) (hp : pc' = pc + 3) (kk : J G Γ w1 pc' ls (v :: rest)) : J G Γ w pc ls (x2 :: x1 :: .ref a :: rest) := J_callV [x1, x2] rfl hd hk hcode hM hL ha hc hcy rfl hr hw hp (fun r w' h => by obtain ⟨rfl, rfl⟩ := h; exact kk)
theorem J_S2v {G : jG} {Γ : jΓ} {w w1 : jWd} {pc pc' : Nat} {ls : List (Option Value)} {rest : List Value} {d idx nL : Nat} {y : MethodName} {cc : ByteArray} {ret : Option FieldType} {v : Value} {x1 x2 : Value}  (hd : decode (jcc Γ) pc = .ok (.invokestatic idx, 3)) (hk : jLkS (jown Γ) idx y 2) (hcode : Cond.code y cc nL ret ∈ jTbl) (hM : jKd G d y cc nL ret [x1, x2] w (some v) w1) (hr : jroom Γ d nL) (hw : (rest.map fun v => v.category).sum ≤ 8) (hp : pc' = pc + 3) (kk : J G Γ w1 pc' ls (v :: rest)) : J G Γ w pc ls (x2 :: x1 :: rest) := J_callS [x1, x2] rfl hd hk hcode hM rfl hr hw hp (fun r w' h => by obtain ⟨rfl, rfl⟩ := h; exact kk)
theorem J_V20 {G : jG} {Γ : jΓ} {w w1 : jWd} {pc pc' : Nat} {ls : List (Option Value)} {rest : List Value} {d idx nL : Nat} {y : MethodName} {cc : ByteArray} {ret : Option FieldType} {v : Value} {x1 x2 : Value}  {a ci nn : Nat} {z : List (Nat × Nat)} {cq : vw_C} (hd : decode (jcc Γ) pc = .ok (.invokevirtual idx, 3)) (hk : jLkV (jown Γ) idx y 2) (hcode : Cond.code y cc nL ret ∈ jTbl) (hM : jKd G d y cc nL ret [.ref a, x1, x2] w none w1) (hL : jly a = (ci + 5, nn, z)) (ha : a < 84) (hc : vwCl[ci]? = some cq) (hcy : cq.1 = y.cls) (hr : jroom Γ d nL) (hw : (rest.map fun v => v.category).sum ≤ 8) (hp : pc' = pc + 3) (kk : J G Γ w1 pc' ls rest) : J G Γ w pc ls (x2 :: x1 :: .ref a :: rest) := J_callV [x1, x2] rfl hd hk hcode hM hL ha hc hcy rfl hr hw hp (fun r w' h => by obtain ⟨rfl, rfl⟩ := h; exact kk)
theorem J_S20 {G : jG} {Γ : jΓ} {w w1 : jWd} {pc pc' : Nat} {ls : List (Option Value)} {rest : List Value} {d idx nL : Nat} {y : MethodName} {cc : ByteArray} {ret : Option FieldType} {v : Value} {x1 x2 : Value}  (hd : decode (jcc Γ) pc = .ok (.invokestatic idx, 3)) (hk : jLkS (jown Γ) idx y 2) (hcode : Cond.code y cc nL ret ∈ jTbl) (hM : jKd G d y cc nL ret [x1, x2] w none w1) (hr : jroom Γ d nL) (hw : (rest.map fun v => v.category).sum ≤ 8) (hp : pc' = pc + 3) (kk : J G Γ w1 pc' ls rest) : J G Γ w pc ls (x2 :: x1 :: rest) := J_callS [x1, x2] rfl hd hk hcode hM rfl hr hw hp (fun r w' h => by obtain ⟨rfl, rfl⟩ := h; exact kk)
theorem J_V3q {G : jG} {Γ : jΓ} {w w1 : jWd} {pc pc' : Nat} {ls : List (Option Value)} {rest : List Value} {d idx nL : Nat} {y : MethodName} {cc : ByteArray} {ret : Option FieldType} {v : Value} {x1 x2 x3 : Value} {Q : Option Value → jWd → Prop} {a ci nn : Nat} {z : List (Nat × Nat)} {cq : vw_C} (hd : decode (jcc Γ) pc = .ok (.invokevirtual idx, 3)) (hk : jLkV (jown Γ) idx y 3) (hcode : Cond.code y cc nL ret ∈ jTbl) (hM : jK G d y cc nL ret [.ref a, x1, x2, x3] w Q) (hL : jly a = (ci + 5, nn, z)) (ha : a < 84) (hc : vwCl[ci]? = some cq) (hcy : cq.1 = y.cls) (hr : jroom Γ d nL) (hw : (rest.map fun v => v.category).sum ≤ 8) (hp : pc' = pc + 3) (kk : ∀ r w', Q r w' → J G Γ w' pc' ls (r.toList ++ rest)) : J G Γ w pc ls (x3 :: x2 :: x1 :: .ref a :: rest) := J_callV [x1, x2, x3] rfl hd hk hcode hM hL ha hc hcy rfl hr hw hp kk
theorem J_S3q {G : jG} {Γ : jΓ} {w w1 : jWd} {pc pc' : Nat} {ls : List (Option Value)} {rest : List Value} {d idx nL : Nat} {y : MethodName} {cc : ByteArray} {ret : Option FieldType} {v : Value} {x1 x2 x3 : Value} {Q : Option Value → jWd → Prop} (hd : decode (jcc Γ) pc = .ok (.invokestatic idx, 3)) (hk : jLkS (jown Γ) idx y 3) (hcode : Cond.code y cc nL ret ∈ jTbl) (hM : jK G d y cc nL ret [x1, x2, x3] w Q) (hr : jroom Γ d nL) (hw : (rest.map fun v => v.category).sum ≤ 8) (hp : pc' = pc + 3) (kk : ∀ r w', Q r w' → J G Γ w' pc' ls (r.toList ++ rest)) : J G Γ w pc ls (x3 :: x2 :: x1 :: rest) := J_callS [x1, x2, x3] rfl hd hk hcode hM rfl hr hw hp kk
theorem J_V3v {G : jG} {Γ : jΓ} {w w1 : jWd} {pc pc' : Nat} {ls : List (Option Value)} {rest : List Value} {d idx nL : Nat} {y : MethodName} {cc : ByteArray} {ret : Option FieldType} {v : Value} {x1 x2 x3 : Value}  {a ci nn : Nat} {z : List (Nat × Nat)} {cq : vw_C} (hd : decode (jcc Γ) pc = .ok (.invokevirtual idx, 3)) (hk : jLkV (jown Γ) idx y 3) (hcode : Cond.code y cc nL ret ∈ jTbl) (hM : jKd G d y cc nL ret [.ref a, x1, x2, x3] w (some v) w1) (hL : jly a = (ci + 5, nn, z)) (ha : a < 84) (hc : vwCl[ci]? = some cq) (hcy : cq.1 = y.cls) (hr : jroom Γ d nL) (hw : (rest.map fun v => v.category).sum ≤ 8) (hp : pc' = pc + 3) (kk : J G Γ w1 pc' ls (v :: rest)) : J G Γ w pc ls (x3 :: x2 :: x1 :: .ref a :: rest) := J_callV [x1, x2, x3] rfl hd hk hcode hM hL ha hc hcy rfl hr hw hp (fun r w' h => by obtain ⟨rfl, rfl⟩ := h; exact kk)
theorem J_S3v {G : jG} {Γ : jΓ} {w w1 : jWd} {pc pc' : Nat} {ls : List (Option Value)} {rest : List Value} {d idx nL : Nat} {y : MethodName} {cc : ByteArray} {ret : Option FieldType} {v : Value} {x1 x2 x3 : Value}  (hd : decode (jcc Γ) pc = .ok (.invokestatic idx, 3)) (hk : jLkS (jown Γ) idx y 3) (hcode : Cond.code y cc nL ret ∈ jTbl) (hM : jKd G d y cc nL ret [x1, x2, x3] w (some v) w1) (hr : jroom Γ d nL) (hw : (rest.map fun v => v.category).sum ≤ 8) (hp : pc' = pc + 3) (kk : J G Γ w1 pc' ls (v :: rest)) : J G Γ w pc ls (x3 :: x2 :: x1 :: rest) := J_callS [x1, x2, x3] rfl hd hk hcode hM rfl hr hw hp (fun r w' h => by obtain ⟨rfl, rfl⟩ := h; exact kk)
theorem J_V30 {G : jG} {Γ : jΓ} {w w1 : jWd} {pc pc' : Nat} {ls : List (Option Value)} {rest : List Value} {d idx nL : Nat} {y : MethodName} {cc : ByteArray} {ret : Option FieldType} {v : Value} {x1 x2 x3 : Value}  {a ci nn : Nat} {z : List (Nat × Nat)} {cq : vw_C} (hd : decode (jcc Γ) pc = .ok (.invokevirtual idx, 3)) (hk : jLkV (jown Γ) idx y 3) (hcode : Cond.code y cc nL ret ∈ jTbl) (hM : jKd G d y cc nL ret [.ref a, x1, x2, x3] w none w1) (hL : jly a = (ci + 5, nn, z)) (ha : a < 84) (hc : vwCl[ci]? = some cq) (hcy : cq.1 = y.cls) (hr : jroom Γ d nL) (hw : (rest.map fun v => v.category).sum ≤ 8) (hp : pc' = pc + 3) (kk : J G Γ w1 pc' ls rest) : J G Γ w pc ls (x3 :: x2 :: x1 :: .ref a :: rest) := J_callV [x1, x2, x3] rfl hd hk hcode hM hL ha hc hcy rfl hr hw hp (fun r w' h => by obtain ⟨rfl, rfl⟩ := h; exact kk)
theorem J_S30 {G : jG} {Γ : jΓ} {w w1 : jWd} {pc pc' : Nat} {ls : List (Option Value)} {rest : List Value} {d idx nL : Nat} {y : MethodName} {cc : ByteArray} {ret : Option FieldType} {v : Value} {x1 x2 x3 : Value}  (hd : decode (jcc Γ) pc = .ok (.invokestatic idx, 3)) (hk : jLkS (jown Γ) idx y 3) (hcode : Cond.code y cc nL ret ∈ jTbl) (hM : jKd G d y cc nL ret [x1, x2, x3] w none w1) (hr : jroom Γ d nL) (hw : (rest.map fun v => v.category).sum ≤ 8) (hp : pc' = pc + 3) (kk : J G Γ w1 pc' ls rest) : J G Γ w pc ls (x3 :: x2 :: x1 :: rest) := J_callS [x1, x2, x3] rfl hd hk hcode hM rfl hr hw hp (fun r w' h => by obtain ⟨rfl, rfl⟩ := h; exact kk)
theorem J_V4q {G : jG} {Γ : jΓ} {w w1 : jWd} {pc pc' : Nat} {ls : List (Option Value)} {rest : List Value} {d idx nL : Nat} {y : MethodName} {cc : ByteArray} {ret : Option FieldType} {v : Value} {x1 x2 x3 x4 : Value} {Q : Option Value → jWd → Prop} {a ci nn : Nat} {z : List (Nat × Nat)} {cq : vw_C} (hd : decode (jcc Γ) pc = .ok (.invokevirtual idx, 3)) (hk : jLkV (jown Γ) idx y 4) (hcode : Cond.code y cc nL ret ∈ jTbl) (hM : jK G d y cc nL ret [.ref a, x1, x2, x3, x4] w Q) (hL : jly a = (ci + 5, nn, z)) (ha : a < 84) (hc : vwCl[ci]? = some cq) (hcy : cq.1 = y.cls) (hr : jroom Γ d nL) (hw : (rest.map fun v => v.category).sum ≤ 8) (hp : pc' = pc + 3) (kk : ∀ r w', Q r w' → J G Γ w' pc' ls (r.toList ++ rest)) : J G Γ w pc ls (x4 :: x3 :: x2 :: x1 :: .ref a :: rest) := J_callV [x1, x2, x3, x4] rfl hd hk hcode hM hL ha hc hcy rfl hr hw hp kk
theorem J_S4q {G : jG} {Γ : jΓ} {w w1 : jWd} {pc pc' : Nat} {ls : List (Option Value)} {rest : List Value} {d idx nL : Nat} {y : MethodName} {cc : ByteArray} {ret : Option FieldType} {v : Value} {x1 x2 x3 x4 : Value} {Q : Option Value → jWd → Prop} (hd : decode (jcc Γ) pc = .ok (.invokestatic idx, 3)) (hk : jLkS (jown Γ) idx y 4) (hcode : Cond.code y cc nL ret ∈ jTbl) (hM : jK G d y cc nL ret [x1, x2, x3, x4] w Q) (hr : jroom Γ d nL) (hw : (rest.map fun v => v.category).sum ≤ 8) (hp : pc' = pc + 3) (kk : ∀ r w', Q r w' → J G Γ w' pc' ls (r.toList ++ rest)) : J G Γ w pc ls (x4 :: x3 :: x2 :: x1 :: rest) := J_callS [x1, x2, x3, x4] rfl hd hk hcode hM rfl hr hw hp kk
theorem J_V4v {G : jG} {Γ : jΓ} {w w1 : jWd} {pc pc' : Nat} {ls : List (Option Value)} {rest : List Value} {d idx nL : Nat} {y : MethodName} {cc : ByteArray} {ret : Option FieldType} {v : Value} {x1 x2 x3 x4 : Value}  {a ci nn : Nat} {z : List (Nat × Nat)} {cq : vw_C} (hd : decode (jcc Γ) pc = .ok (.invokevirtual idx, 3)) (hk : jLkV (jown Γ) idx y 4) (hcode : Cond.code y cc nL ret ∈ jTbl) (hM : jKd G d y cc nL ret [.ref a, x1, x2, x3, x4] w (some v) w1) (hL : jly a = (ci + 5, nn, z)) (ha : a < 84) (hc : vwCl[ci]? = some cq) (hcy : cq.1 = y.cls) (hr : jroom Γ d nL) (hw : (rest.map fun v => v.category).sum ≤ 8) (hp : pc' = pc + 3) (kk : J G Γ w1 pc' ls (v :: rest)) : J G Γ w pc ls (x4 :: x3 :: x2 :: x1 :: .ref a :: rest) := J_callV [x1, x2, x3, x4] rfl hd hk hcode hM hL ha hc hcy rfl hr hw hp (fun r w' h => by obtain ⟨rfl, rfl⟩ := h; exact kk)
theorem J_S4v {G : jG} {Γ : jΓ} {w w1 : jWd} {pc pc' : Nat} {ls : List (Option Value)} {rest : List Value} {d idx nL : Nat} {y : MethodName} {cc : ByteArray} {ret : Option FieldType} {v : Value} {x1 x2 x3 x4 : Value}  (hd : decode (jcc Γ) pc = .ok (.invokestatic idx, 3)) (hk : jLkS (jown Γ) idx y 4) (hcode : Cond.code y cc nL ret ∈ jTbl) (hM : jKd G d y cc nL ret [x1, x2, x3, x4] w (some v) w1) (hr : jroom Γ d nL) (hw : (rest.map fun v => v.category).sum ≤ 8) (hp : pc' = pc + 3) (kk : J G Γ w1 pc' ls (v :: rest)) : J G Γ w pc ls (x4 :: x3 :: x2 :: x1 :: rest) := J_callS [x1, x2, x3, x4] rfl hd hk hcode hM rfl hr hw hp (fun r w' h => by obtain ⟨rfl, rfl⟩ := h; exact kk)
theorem J_V40 {G : jG} {Γ : jΓ} {w w1 : jWd} {pc pc' : Nat} {ls : List (Option Value)} {rest : List Value} {d idx nL : Nat} {y : MethodName} {cc : ByteArray} {ret : Option FieldType} {v : Value} {x1 x2 x3 x4 : Value}  {a ci nn : Nat} {z : List (Nat × Nat)} {cq : vw_C} (hd : decode (jcc Γ) pc = .ok (.invokevirtual idx, 3)) (hk : jLkV (jown Γ) idx y 4) (hcode : Cond.code y cc nL ret ∈ jTbl) (hM : jKd G d y cc nL ret [.ref a, x1, x2, x3, x4] w none w1) (hL : jly a = (ci + 5, nn, z)) (ha : a < 84) (hc : vwCl[ci]? = some cq) (hcy : cq.1 = y.cls) (hr : jroom Γ d nL) (hw : (rest.map fun v => v.category).sum ≤ 8) (hp : pc' = pc + 3) (kk : J G Γ w1 pc' ls rest) : J G Γ w pc ls (x4 :: x3 :: x2 :: x1 :: .ref a :: rest) := J_callV [x1, x2, x3, x4] rfl hd hk hcode hM hL ha hc hcy rfl hr hw hp (fun r w' h => by obtain ⟨rfl, rfl⟩ := h; exact kk)
theorem J_S40 {G : jG} {Γ : jΓ} {w w1 : jWd} {pc pc' : Nat} {ls : List (Option Value)} {rest : List Value} {d idx nL : Nat} {y : MethodName} {cc : ByteArray} {ret : Option FieldType} {v : Value} {x1 x2 x3 x4 : Value}  (hd : decode (jcc Γ) pc = .ok (.invokestatic idx, 3)) (hk : jLkS (jown Γ) idx y 4) (hcode : Cond.code y cc nL ret ∈ jTbl) (hM : jKd G d y cc nL ret [x1, x2, x3, x4] w none w1) (hr : jroom Γ d nL) (hw : (rest.map fun v => v.category).sum ≤ 8) (hp : pc' = pc + 3) (kk : J G Γ w1 pc' ls rest) : J G Γ w pc ls (x4 :: x3 :: x2 :: x1 :: rest) := J_callS [x1, x2, x3, x4] rfl hd hk hcode hM rfl hr hw hp (fun r w' h => by obtain ⟨rfl, rfl⟩ := h; exact kk)
theorem J_V5q {G : jG} {Γ : jΓ} {w w1 : jWd} {pc pc' : Nat} {ls : List (Option Value)} {rest : List Value} {d idx nL : Nat} {y : MethodName} {cc : ByteArray} {ret : Option FieldType} {v : Value} {x1 x2 x3 x4 x5 : Value} {Q : Option Value → jWd → Prop} {a ci nn : Nat} {z : List (Nat × Nat)} {cq : vw_C} (hd : decode (jcc Γ) pc = .ok (.invokevirtual idx, 3)) (hk : jLkV (jown Γ) idx y 5) (hcode : Cond.code y cc nL ret ∈ jTbl) (hM : jK G d y cc nL ret [.ref a, x1, x2, x3, x4, x5] w Q) (hL : jly a = (ci + 5, nn, z)) (ha : a < 84) (hc : vwCl[ci]? = some cq) (hcy : cq.1 = y.cls) (hr : jroom Γ d nL) (hw : (rest.map fun v => v.category).sum ≤ 8) (hp : pc' = pc + 3) (kk : ∀ r w', Q r w' → J G Γ w' pc' ls (r.toList ++ rest)) : J G Γ w pc ls (x5 :: x4 :: x3 :: x2 :: x1 :: .ref a :: rest) := J_callV [x1, x2, x3, x4, x5] rfl hd hk hcode hM hL ha hc hcy rfl hr hw hp kk
theorem J_S5q {G : jG} {Γ : jΓ} {w w1 : jWd} {pc pc' : Nat} {ls : List (Option Value)} {rest : List Value} {d idx nL : Nat} {y : MethodName} {cc : ByteArray} {ret : Option FieldType} {v : Value} {x1 x2 x3 x4 x5 : Value} {Q : Option Value → jWd → Prop} (hd : decode (jcc Γ) pc = .ok (.invokestatic idx, 3)) (hk : jLkS (jown Γ) idx y 5) (hcode : Cond.code y cc nL ret ∈ jTbl) (hM : jK G d y cc nL ret [x1, x2, x3, x4, x5] w Q) (hr : jroom Γ d nL) (hw : (rest.map fun v => v.category).sum ≤ 8) (hp : pc' = pc + 3) (kk : ∀ r w', Q r w' → J G Γ w' pc' ls (r.toList ++ rest)) : J G Γ w pc ls (x5 :: x4 :: x3 :: x2 :: x1 :: rest) := J_callS [x1, x2, x3, x4, x5] rfl hd hk hcode hM rfl hr hw hp kk
theorem J_V5v {G : jG} {Γ : jΓ} {w w1 : jWd} {pc pc' : Nat} {ls : List (Option Value)} {rest : List Value} {d idx nL : Nat} {y : MethodName} {cc : ByteArray} {ret : Option FieldType} {v : Value} {x1 x2 x3 x4 x5 : Value}  {a ci nn : Nat} {z : List (Nat × Nat)} {cq : vw_C} (hd : decode (jcc Γ) pc = .ok (.invokevirtual idx, 3)) (hk : jLkV (jown Γ) idx y 5) (hcode : Cond.code y cc nL ret ∈ jTbl) (hM : jKd G d y cc nL ret [.ref a, x1, x2, x3, x4, x5] w (some v) w1) (hL : jly a = (ci + 5, nn, z)) (ha : a < 84) (hc : vwCl[ci]? = some cq) (hcy : cq.1 = y.cls) (hr : jroom Γ d nL) (hw : (rest.map fun v => v.category).sum ≤ 8) (hp : pc' = pc + 3) (kk : J G Γ w1 pc' ls (v :: rest)) : J G Γ w pc ls (x5 :: x4 :: x3 :: x2 :: x1 :: .ref a :: rest) := J_callV [x1, x2, x3, x4, x5] rfl hd hk hcode hM hL ha hc hcy rfl hr hw hp (fun r w' h => by obtain ⟨rfl, rfl⟩ := h; exact kk)
theorem J_S5v {G : jG} {Γ : jΓ} {w w1 : jWd} {pc pc' : Nat} {ls : List (Option Value)} {rest : List Value} {d idx nL : Nat} {y : MethodName} {cc : ByteArray} {ret : Option FieldType} {v : Value} {x1 x2 x3 x4 x5 : Value}  (hd : decode (jcc Γ) pc = .ok (.invokestatic idx, 3)) (hk : jLkS (jown Γ) idx y 5) (hcode : Cond.code y cc nL ret ∈ jTbl) (hM : jKd G d y cc nL ret [x1, x2, x3, x4, x5] w (some v) w1) (hr : jroom Γ d nL) (hw : (rest.map fun v => v.category).sum ≤ 8) (hp : pc' = pc + 3) (kk : J G Γ w1 pc' ls (v :: rest)) : J G Γ w pc ls (x5 :: x4 :: x3 :: x2 :: x1 :: rest) := J_callS [x1, x2, x3, x4, x5] rfl hd hk hcode hM rfl hr hw hp (fun r w' h => by obtain ⟨rfl, rfl⟩ := h; exact kk)
theorem J_V50 {G : jG} {Γ : jΓ} {w w1 : jWd} {pc pc' : Nat} {ls : List (Option Value)} {rest : List Value} {d idx nL : Nat} {y : MethodName} {cc : ByteArray} {ret : Option FieldType} {v : Value} {x1 x2 x3 x4 x5 : Value}  {a ci nn : Nat} {z : List (Nat × Nat)} {cq : vw_C} (hd : decode (jcc Γ) pc = .ok (.invokevirtual idx, 3)) (hk : jLkV (jown Γ) idx y 5) (hcode : Cond.code y cc nL ret ∈ jTbl) (hM : jKd G d y cc nL ret [.ref a, x1, x2, x3, x4, x5] w none w1) (hL : jly a = (ci + 5, nn, z)) (ha : a < 84) (hc : vwCl[ci]? = some cq) (hcy : cq.1 = y.cls) (hr : jroom Γ d nL) (hw : (rest.map fun v => v.category).sum ≤ 8) (hp : pc' = pc + 3) (kk : J G Γ w1 pc' ls rest) : J G Γ w pc ls (x5 :: x4 :: x3 :: x2 :: x1 :: .ref a :: rest) := J_callV [x1, x2, x3, x4, x5] rfl hd hk hcode hM hL ha hc hcy rfl hr hw hp (fun r w' h => by obtain ⟨rfl, rfl⟩ := h; exact kk)
theorem J_S50 {G : jG} {Γ : jΓ} {w w1 : jWd} {pc pc' : Nat} {ls : List (Option Value)} {rest : List Value} {d idx nL : Nat} {y : MethodName} {cc : ByteArray} {ret : Option FieldType} {v : Value} {x1 x2 x3 x4 x5 : Value}  (hd : decode (jcc Γ) pc = .ok (.invokestatic idx, 3)) (hk : jLkS (jown Γ) idx y 5) (hcode : Cond.code y cc nL ret ∈ jTbl) (hM : jKd G d y cc nL ret [x1, x2, x3, x4, x5] w none w1) (hr : jroom Γ d nL) (hw : (rest.map fun v => v.category).sum ≤ 8) (hp : pc' = pc + 3) (kk : J G Γ w1 pc' ls rest) : J G Γ w pc ls (x5 :: x4 :: x3 :: x2 :: x1 :: rest) := J_callS [x1, x2, x3, x4, x5] rfl hd hk hcode hM rfl hr hw hp (fun r w' h => by obtain ⟨rfl, rfl⟩ := h; exact kk)
theorem J_gets0 {G : jG} {d : Nat} {own : String} {cc : ByteArray} {nL : Nat} {ret : Option FieldType} {Q : Option Value → jWd → Prop} {w : jWd} {pc pc' idx : Nat} {ls : List (Option Value)} {st : List Value} (hd : decode cc pc = .ok (.getstatic idx, 3)) (hw : Cond.fieldLink own idx "PictureBlock" "ABOVE" "[I" ∈ jTbl) (hp : pc' = pc + 3) (k : J G (jM G d own cc nL ret Q) w pc' ls (.ref 1000 :: st)) : J G (jM G d own cc nL ret Q) w pc ls st := by
  subst hp
  intro p e s m args below meth c H locs lsA Hs hC hP hD hS hl
  have hH : Hs = s.heap := hC.2.2.2.2.2.2.2.2.2.2
  subst hH
  exact va_gets hC.1 hC.2.1 hC.2.2.2.2.2.2.2.2.1.1 hS hC.2.2.2.2.2.1 (hC.2.2.2.2.2.2.1 _ hw) (fun _ h => h) hd (k p e s m args below meth c H locs lsA s.heap hC hP hD hS hl)
theorem J_gets1 {G : jG} {d : Nat} {own : String} {cc : ByteArray} {nL : Nat} {ret : Option FieldType} {Q : Option Value → jWd → Prop} {w : jWd} {pc pc' idx : Nat} {ls : List (Option Value)} {st : List Value} (hd : decode cc pc = .ok (.getstatic idx, 3)) (hw : Cond.fieldLink own idx "PictureBlock$Voices" "BODIES" "[I" ∈ jTbl) (hp : pc' = pc + 3) (k : J G (jM G d own cc nL ret Q) w pc' ls (.ref 1001 :: st)) : J G (jM G d own cc nL ret Q) w pc ls st := by
  subst hp
  intro p e s m args below meth c H locs lsA Hs hC hP hD hS hl
  have hH : Hs = s.heap := hC.2.2.2.2.2.2.2.2.2.2
  subst hH
  exact va_gets hC.1 hC.2.1 hC.2.2.2.2.2.2.2.2.1.2.2.1 hS hC.2.2.2.2.2.1 (hC.2.2.2.2.2.2.1 _ hw) (fun _ h => h) hd (k p e s m args below meth c H locs lsA s.heap hC hP hD hS hl)
theorem J_ald0 {G : jG} {d : Nat} {own : String} {cc : ByteArray} {nL : Nat} {ret : Option FieldType} {Q : Option Value → jWd → Prop} {w : jWd} {pc pc' : Nat} {ls : List (Option Value)} {st : List Value} {i : Int32} (j : Nat) (hd : decode cc pc = .ok (.iaload, 1)) (hi : i = nI j) (hj : j < 7) (hp : pc' = pc + 1) (k : J G (jM G d own cc nL ret Q) w pc' ls (.int (([-1, 0, 0, 0, 1, 2, 0] : List Int32).getD j 0) :: st)) : J G (jM G d own cc nL ret Q) w pc ls (.int i :: .ref 1000 :: st) := by
  subst hp
  obtain ⟨h1, h2⟩ := jin hi hj (by omega)
  intro p e s m args below meth c H locs lsA Hs hC hP hD hS hl
  have hH : Hs = s.heap := hC.2.2.2.2.2.2.2.2.2.2
  subst hH
  exact va_ti hC.1 hC.2.1 hC.2.2.2.2.2.2.2.2.1.2.1 hS h1 (by rw [h2]; rfl) hd (k p e s m args below meth c H locs lsA s.heap hC hP hD hS hl)
theorem J_ald1 {G : jG} {d : Nat} {own : String} {cc : ByteArray} {nL : Nat} {ret : Option FieldType} {Q : Option Value → jWd → Prop} {w : jWd} {pc pc' : Nat} {ls : List (Option Value)} {st : List Value} {i : Int32} (j : Nat) (hd : decode cc pc = .ok (.iaload, 1)) (hi : i = nI j) (hj : j < 28) (hp : pc' = pc + 1) (k : J G (jM G d own cc nL ret Q) w pc' ls (.int (jBodL.getD j 0) :: st)) : J G (jM G d own cc nL ret Q) w pc ls (.int i :: .ref 1001 :: st) := by
  subst hp
  obtain ⟨h1, h2⟩ := jin hi hj (by omega)
  intro p e s m args below meth c H locs lsA Hs hC hP hD hS hl
  have hH : Hs = s.heap := hC.2.2.2.2.2.2.2.2.2.2
  subst hH
  exact va_ti hC.1 hC.2.1 hC.2.2.2.2.2.2.2.2.1.2.2.2.1 hS h1 (by rw [h2]; rfl) hd (k p e s m args below meth c H locs lsA s.heap hC hP hD hS hl)
theorem J_alen1 {G : jG} {d : Nat} {own : String} {cc : ByteArray} {nL : Nat} {ret : Option FieldType} {Q : Option Value → jWd → Prop} {w : jWd} {pc pc' : Nat} {ls : List (Option Value)} {st : List Value} (hd : decode cc pc = .ok (.arraylength, 1)) (hp : pc' = pc + 1) (k : J G (jM G d own cc nL ret Q) w pc' ls (.int 28 :: st)) : J G (jM G d own cc nL ret Q) w pc ls (.ref 1001 :: st) := by
  subst hp
  intro p e s m args below meth c H locs lsA Hs hC hP hD hS hl
  have hH : Hs = s.heap := hC.2.2.2.2.2.2.2.2.2.2
  subst hH
  exact va_tlen hC.1 hC.2.1 hC.2.2.2.2.2.2.2.2.1.2.2.2.1 hS rfl hd (k p e s m args below meth c H locs lsA s.heap hC hP hD hS hl)
/-- a copy of whole numbers -/
theorem J_copy {G : jG} {Γ : jΓ} {w : jWd} {pc pc' : Nat} {ls : List (Option Value)} {st : List Value} {a a0 n0 n1 idx : Nat} {z0 z1 : List (Nat × Nat)} {isp idp inn : Int32} (sp dp n : Nat) (hd : decode (jcc Γ) pc = .ok (.invokestatic idx, 3)) (hw1 : Cond.methodLink (jown Γ) idx arraycopyName ∈ jTbl) (hw2 : Cond.native arraycopyName ∈ jTbl) (hw3 : Cond.static arraycopyName ∈ jTbl) (hw4 : Cond.initialized "java/lang/System" ∈ jTbl)
    (hL0 : jly a0 = (0, n0, z0)) (hL1 : jly a = (0, n1, z1)) (ha0 : a0 < 84) (ha : a < 84) (hsp : isp = nI sp) (hdp : idp = nI dp) (hnn : inn = nI n) (h4 : sp + n ≤ n0) (h5 : dp + n ≤ n1) (hn0 : n0 < 2 ^ 31) (hn1 : n1 < 2 ^ 31) (hr : 1 ≤ (jR Γ).frames ∧ (st.map fun v => v.category).sum + (nativeFrameWords "java/lang/System" "arraycopy" 5 + 11) ≤ (jR Γ).locals) (hp : pc' = pc + 3) (k : J G Γ (jsetA w a (va_cpy (w.1 a0) (w.1 a) sp dp n)) pc' ls st) : J G Γ w pc ls (.int inn :: .int idp :: .ref a :: .int isp :: .ref a0 :: st) := by
  subst hp hsp hdp hnn
  intro p e s m args below meth c H locs lsA Hs hC hP hD hS hl
  have e1 : (nI sp).toNatClampNeg = sp := nI_clamp (by omega)
  have e2 : (nI dp).toNatClampNeg = dp := nI_clamp (by omega)
  have e3 : (nI n).toNatClampNeg = n := nI_clamp (by omega)
  have he : (jW G w).set a (jad G a, .inl (jcA G 0, n1, .inl (va_cpy (w.1 a0) (w.1 a) sp dp n))) = jW G (jsetA w a (va_cpy (w.1 a0) (w.1 a) sp dp n)) :=
    jW_set ha (fun b hb => ⟨by rw [jsetA_1, if_neg hb], rfl⟩) (by rw [jCnt_i hL1, jsetA_1, if_pos rfl])
  refine va_copyi hC.1 hC.2.1 (by rw [hC.2.2.2.2.1]; exact hl.1.symm) hC.2.2.2.2.2.1 (hC.2.2.2.2.2.2.1 _ hw1) (hC.2.2.2.2.2.2.1 _ hw2) (hC.2.2.2.2.2.2.1 _ hw3) (hC.2.2.2.2.2.2.1 _ hw4) hC.2.2.2.2.2.2.2.1 hP hD hS a0 a 0 0 (jAt ha0 (jCnt_i hL0)) (jAt ha (jCnt_i hL1)) rfl rfl rfl (nI_pos (by omega)) (nI_pos (by omega)) (nI_pos (by omega)) (by rw [e1, e3]; exact h4) (by rw [e2, e3]; exact h5) (fun _ _ => rfl) hr.1 (by rw [jcats]; exact hr.2) hd (fun H1 locs1 hP1 hD1 hS1 => ?_)
  rw [e1, e2, e3, he] at hP1 hD1
  exact k p e s m args below meth c H1 locs1 lsA Hs hC hP1 hD1 hS1 hl
end
