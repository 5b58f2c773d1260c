-- ===== PART A: goes FIRST, ahead of the names: the tables' words, and 'selects' of the private methods out of them =====
/-- a private method of a class that the tables say can be made, by its rows of tables_1 -/
def lw_okq (q : MethodName × Nat) : Prop := (q.1.cls ≠ "java/lang/invoke/MethodHandle" ∧ q.1.cls ≠ "java/lang/invoke/VarHandle") ∧ Cond.instantiable q.1.cls q.2 ∈ tables_1 ∧ Cond.privateMethod q.1 ∈ tables_1 ∧ Cond.instanceMethod q.1 ∈ tables_1
theorem lw_p0 : lw_okq (⟨"DarkRoom", "keepPicture", "(I)V"⟩, 12) := ⟨⟨by decide +kernel, by decide +kernel⟩, List.mem_of_getElem? (i := 18) (by decide +kernel), List.mem_of_getElem? (i := 263) (by decide +kernel), List.mem_of_getElem? (i := 264) (by decide +kernel)⟩
theorem lw_p1 : lw_okq (⟨"DarkRoom$History", "nth", "(I)LDarkRoom$Act;"⟩, 4) := ⟨⟨by decide +kernel, by decide +kernel⟩, List.mem_of_getElem? (i := 72) (by decide +kernel), List.mem_of_getElem? (i := 271) (by decide +kernel), List.mem_of_getElem? (i := 272) (by decide +kernel)⟩
theorem lw_p2 : lw_okq (⟨"DarkRoom", "isFilterTold", "(III)Z"⟩, 12) := ⟨⟨by decide +kernel, by decide +kernel⟩, List.mem_of_getElem? (i := 18) (by decide +kernel), List.mem_of_getElem? (i := 412) (by decide +kernel), List.mem_of_getElem? (i := 413) (by decide +kernel)⟩
theorem lw_p3 : lw_okq (⟨"DarkRoom", "partOf", "(I)LDarkRoom$Filter;"⟩, 12) := ⟨⟨by decide +kernel, by decide +kernel⟩, List.mem_of_getElem? (i := 18) (by decide +kernel), List.mem_of_getElem? (i := 418) (by decide +kernel), List.mem_of_getElem? (i := 419) (by decide +kernel)⟩
theorem lw_p4 : lw_okq (⟨"DarkRoom$Bench", "developAround", "(LDarkRoom$Filter;LDarkRoom$Picture;LDarkRoom$Picture;I)V"⟩, 2) := ⟨⟨by decide +kernel, by decide +kernel⟩, List.mem_of_getElem? (i := 121) (by decide +kernel), List.mem_of_getElem? (i := 481) (by decide +kernel), List.mem_of_getElem? (i := 482) (by decide +kernel)⟩
theorem lw_p5 : lw_okq (⟨"DarkRoom$Bench", "gather", "(LDarkRoom$Picture;III)V"⟩, 2) := ⟨⟨by decide +kernel, by decide +kernel⟩, List.mem_of_getElem? (i := 121) (by decide +kernel), List.mem_of_getElem? (i := 485) (by decide +kernel), List.mem_of_getElem? (i := 486) (by decide +kernel)⟩
theorem lw_p6 : lw_okq (⟨"DarkRoom$Bench", "weighed", "(LDarkRoom$Filter;)J"⟩, 2) := ⟨⟨by decide +kernel, by decide +kernel⟩, List.mem_of_getElem? (i := 121) (by decide +kernel), List.mem_of_getElem? (i := 490) (by decide +kernel), List.mem_of_getElem? (i := 491) (by decide +kernel)⟩
theorem lw_p7 : lw_okq (⟨"DarkRoom$Bench", "ranked", "(I)I"⟩, 2) := ⟨⟨by decide +kernel, by decide +kernel⟩, List.mem_of_getElem? (i := 121) (by decide +kernel), List.mem_of_getElem? (i := 503) (by decide +kernel), List.mem_of_getElem? (i := 504) (by decide +kernel)⟩
theorem lw_p8 : lw_okq (⟨"DarkRoom", "keepMask", "(I)V"⟩, 12) := ⟨⟨by decide +kernel, by decide +kernel⟩, List.mem_of_getElem? (i := 18) (by decide +kernel), List.mem_of_getElem? (i := 549) (by decide +kernel), List.mem_of_getElem? (i := 550) (by decide +kernel)⟩
theorem lw_p9 : lw_okq (⟨"DarkRoom$Mask", "row", "(II)I"⟩, 1) := ⟨⟨by decide +kernel, by decide +kernel⟩, List.mem_of_getElem? (i := 62) (by decide +kernel), List.mem_of_getElem? (i := 583) (by decide +kernel), List.mem_of_getElem? (i := 584) (by decide +kernel)⟩
theorem lw_p10 : lw_okq (⟨"DarkRoom$Flood", "reach", "(LDarkRoom$Picture;IIII)V"⟩, 3) := ⟨⟨by decide +kernel, by decide +kernel⟩, List.mem_of_getElem? (i := 136) (by decide +kernel), List.mem_of_getElem? (i := 603) (by decide +kernel), List.mem_of_getElem? (i := 604) (by decide +kernel)⟩
theorem lw_p11 : lw_okq (⟨"DarkRoom$Tones", "spreadAt", "(LDarkRoom$Picture;LDarkRoom$Picture;III)V"⟩, 2) := ⟨⟨by decide +kernel, by decide +kernel⟩, List.mem_of_getElem? (i := 153) (by decide +kernel), List.mem_of_getElem? (i := 625) (by decide +kernel), List.mem_of_getElem? (i := 626) (by decide +kernel)⟩
theorem lw_p12 : lw_okq (⟨"DarkRoom$Tones", "carry", "(LDarkRoom$Picture;III)V"⟩, 2) := ⟨⟨by decide +kernel, by decide +kernel⟩, List.mem_of_getElem? (i := 153) (by decide +kernel), List.mem_of_getElem? (i := 636) (by decide +kernel), List.mem_of_getElem? (i := 637) (by decide +kernel)⟩
theorem lw_p13 : lw_okq (⟨"DarkRoom$Tones", "countUp", "(LDarkRoom$Picture;)V"⟩, 2) := ⟨⟨by decide +kernel, by decide +kernel⟩, List.mem_of_getElem? (i := 153) (by decide +kernel), List.mem_of_getElem? (i := 651) (by decide +kernel), List.mem_of_getElem? (i := 652) (by decide +kernel)⟩
theorem lw_p14 : lw_okq (⟨"DarkRoom$Tones", "howManyAtMost", "(I)I"⟩, 2) := ⟨⟨by decide +kernel, by decide +kernel⟩, List.mem_of_getElem? (i := 153) (by decide +kernel), List.mem_of_getElem? (i := 656) (by decide +kernel), List.mem_of_getElem? (i := 657) (by decide +kernel)⟩
theorem lw_p15 : lw_okq (⟨"DarkRoom$Seam", "leastIn", "(LDarkRoom$Picture;III)I"⟩, 3) := ⟨⟨by decide +kernel, by decide +kernel⟩, List.mem_of_getElem? (i := 166) (by decide +kernel), List.mem_of_getElem? (i := 678) (by decide +kernel), List.mem_of_getElem? (i := 679) (by decide +kernel)⟩
def lw_privs_1 : List (MethodName × Nat) := [(⟨"DarkRoom", "keepPicture", "(I)V"⟩, 12), (⟨"DarkRoom$History", "nth", "(I)LDarkRoom$Act;"⟩, 4), (⟨"DarkRoom", "isFilterTold", "(III)Z"⟩, 12), (⟨"DarkRoom", "partOf", "(I)LDarkRoom$Filter;"⟩, 12), (⟨"DarkRoom$Bench", "developAround", "(LDarkRoom$Filter;LDarkRoom$Picture;LDarkRoom$Picture;I)V"⟩, 2), (⟨"DarkRoom$Bench", "gather", "(LDarkRoom$Picture;III)V"⟩, 2), (⟨"DarkRoom$Bench", "weighed", "(LDarkRoom$Filter;)J"⟩, 2), (⟨"DarkRoom$Bench", "ranked", "(I)I"⟩, 2), (⟨"DarkRoom", "keepMask", "(I)V"⟩, 12), (⟨"DarkRoom$Mask", "row", "(II)I"⟩, 1), (⟨"DarkRoom$Flood", "reach", "(LDarkRoom$Picture;IIII)V"⟩, 3), (⟨"DarkRoom$Tones", "spreadAt", "(LDarkRoom$Picture;LDarkRoom$Picture;III)V"⟩, 2), (⟨"DarkRoom$Tones", "carry", "(LDarkRoom$Picture;III)V"⟩, 2), (⟨"DarkRoom$Tones", "countUp", "(LDarkRoom$Picture;)V"⟩, 2), (⟨"DarkRoom$Tones", "howManyAtMost", "(I)I"⟩, 2), (⟨"DarkRoom$Seam", "leastIn", "(LDarkRoom$Picture;III)I"⟩, 3)]
theorem lw_r1 : ∀ q ∈ lw_privs_1, lw_okq q := List.forall_mem_cons.mpr ⟨lw_p0, List.forall_mem_cons.mpr ⟨lw_p1, List.forall_mem_cons.mpr ⟨lw_p2, List.forall_mem_cons.mpr ⟨lw_p3, List.forall_mem_cons.mpr ⟨lw_p4, List.forall_mem_cons.mpr ⟨lw_p5, List.forall_mem_cons.mpr ⟨lw_p6, List.forall_mem_cons.mpr ⟨lw_p7, List.forall_mem_cons.mpr ⟨lw_p8, List.forall_mem_cons.mpr ⟨lw_p9, List.forall_mem_cons.mpr ⟨lw_p10, List.forall_mem_cons.mpr ⟨lw_p11, List.forall_mem_cons.mpr ⟨lw_p12, List.forall_mem_cons.mpr ⟨lw_p13, List.forall_mem_cons.mpr ⟨lw_p14, List.forall_mem_cons.mpr ⟨lw_p15, fun _ h => absurd h List.not_mem_nil⟩⟩⟩⟩⟩⟩⟩⟩⟩⟩⟩⟩⟩⟩⟩⟩
theorem lw_p16 : lw_okq (⟨"DarkRoom$Seam", "cost", "(LDarkRoom$Picture;II)I"⟩, 3) := ⟨⟨by decide +kernel, by decide +kernel⟩, List.mem_of_getElem? (i := 166) (by decide +kernel), List.mem_of_getElem? (i := 683) (by decide +kernel), List.mem_of_getElem? (i := 684) (by decide +kernel)⟩
theorem lw_p17 : lw_okq (⟨"DarkRoom$Seam", "setCost", "(II)V"⟩, 3) := ⟨⟨by decide +kernel, by decide +kernel⟩, List.mem_of_getElem? (i := 166) (by decide +kernel), List.mem_of_getElem? (i := 689) (by decide +kernel), List.mem_of_getElem? (i := 690) (by decide +kernel)⟩
theorem lw_p18 : lw_okq (⟨"DarkRoom$Picture", "isRun", "(II)Z"⟩, 4) := ⟨⟨by decide +kernel, by decide +kernel⟩, List.mem_of_getElem? (i := 31) (by decide +kernel), List.mem_of_getElem? (i := 709) (by decide +kernel), List.mem_of_getElem? (i := 710) (by decide +kernel)⟩
theorem lw_p19 : lw_okq (⟨"DarkRoom$Picture", "pixelByte", "(II)I"⟩, 4) := ⟨⟨by decide +kernel, by decide +kernel⟩, List.mem_of_getElem? (i := 31) (by decide +kernel), List.mem_of_getElem? (i := 717) (by decide +kernel), List.mem_of_getElem? (i := 718) (by decide +kernel)⟩
theorem lw_p20 : lw_okq (⟨"DarkRoom$Tape", "soundHead", "()I"⟩, 2) := ⟨⟨by decide +kernel, by decide +kernel⟩, List.mem_of_getElem? (i := 183) (by decide +kernel), List.mem_of_getElem? (i := 730) (by decide +kernel), List.mem_of_getElem? (i := 731) (by decide +kernel)⟩
theorem lw_p21 : lw_okq (⟨"DarkRoom$Tape", "byteAt", "(I)I"⟩, 2) := ⟨⟨by decide +kernel, by decide +kernel⟩, List.mem_of_getElem? (i := 183) (by decide +kernel), List.mem_of_getElem? (i := 734) (by decide +kernel), List.mem_of_getElem? (i := 735) (by decide +kernel)⟩
theorem lw_p22 : lw_okq (⟨"DarkRoom", "exchange", "(LDarkRoom$Act;)V"⟩, 12) := ⟨⟨by decide +kernel, by decide +kernel⟩, List.mem_of_getElem? (i := 18) (by decide +kernel), List.mem_of_getElem? (i := 760) (by decide +kernel), List.mem_of_getElem? (i := 761) (by decide +kernel)⟩
theorem lw_p23 : lw_okq (⟨"DarkRoom", "standingPictures", "()I"⟩, 12) := ⟨⟨by decide +kernel, by decide +kernel⟩, List.mem_of_getElem? (i := 18) (by decide +kernel), List.mem_of_getElem? (i := 776) (by decide +kernel), List.mem_of_getElem? (i := 777) (by decide +kernel)⟩
theorem lw_p24 : lw_okq (⟨"DarkRoomModel", "load", "(I)V"⟩, 26) := ⟨⟨by decide +kernel, by decide +kernel⟩, List.mem_of_getElem? (i := 780) (by decide +kernel), List.mem_of_getElem? (i := 871) (by decide +kernel), List.mem_of_getElem? (i := 872) (by decide +kernel)⟩
theorem lw_p25 : lw_okq (⟨"DarkRoomModel", "begin", "()V"⟩, 26) := ⟨⟨by decide +kernel, by decide +kernel⟩, List.mem_of_getElem? (i := 780) (by decide +kernel), List.mem_of_getElem? (i := 893) (by decide +kernel), List.mem_of_getElem? (i := 894) (by decide +kernel)⟩
theorem lw_p26 : lw_okq (⟨"DarkRoomModel", "become", "(IIII)V"⟩, 26) := ⟨⟨by decide +kernel, by decide +kernel⟩, List.mem_of_getElem? (i := 780) (by decide +kernel), List.mem_of_getElem? (i := 898) (by decide +kernel), List.mem_of_getElem? (i := 899) (by decide +kernel)⟩
theorem lw_p27 : lw_okq (⟨"DarkRoomModel", "isThere", "(I)Z"⟩, 26) := ⟨⟨by decide +kernel, by decide +kernel⟩, List.mem_of_getElem? (i := 780) (by decide +kernel), List.mem_of_getElem? (i := 906) (by decide +kernel), List.mem_of_getElem? (i := 907) (by decide +kernel)⟩
theorem lw_p28 : lw_okq (⟨"DarkRoomModel", "isWithin", "(III)Z"⟩, 26) := ⟨⟨by decide +kernel, by decide +kernel⟩, List.mem_of_getElem? (i := 780) (by decide +kernel), List.mem_of_getElem? (i := 910) (by decide +kernel), List.mem_of_getElem? (i := 911) (by decide +kernel)⟩
theorem lw_p29 : lw_okq (⟨"DarkRoomModel", "wide", "(I)I"⟩, 26) := ⟨⟨by decide +kernel, by decide +kernel⟩, List.mem_of_getElem? (i := 780) (by decide +kernel), List.mem_of_getElem? (i := 914) (by decide +kernel), List.mem_of_getElem? (i := 915) (by decide +kernel)⟩
theorem lw_p30 : lw_okq (⟨"DarkRoomModel", "tall", "(I)I"⟩, 26) := ⟨⟨by decide +kernel, by decide +kernel⟩, List.mem_of_getElem? (i := 780) (by decide +kernel), List.mem_of_getElem? (i := 918) (by decide +kernel), List.mem_of_getElem? (i := 919) (by decide +kernel)⟩
theorem lw_p31 : lw_okq (⟨"DarkRoomModel", "kindOf", "(I)I"⟩, 26) := ⟨⟨by decide +kernel, by decide +kernel⟩, List.mem_of_getElem? (i := 780) (by decide +kernel), List.mem_of_getElem? (i := 922) (by decide +kernel), List.mem_of_getElem? (i := 923) (by decide +kernel)⟩
def lw_privs_2 : List (MethodName × Nat) := [(⟨"DarkRoom$Seam", "cost", "(LDarkRoom$Picture;II)I"⟩, 3), (⟨"DarkRoom$Seam", "setCost", "(II)V"⟩, 3), (⟨"DarkRoom$Picture", "isRun", "(II)Z"⟩, 4), (⟨"DarkRoom$Picture", "pixelByte", "(II)I"⟩, 4), (⟨"DarkRoom$Tape", "soundHead", "()I"⟩, 2), (⟨"DarkRoom$Tape", "byteAt", "(I)I"⟩, 2), (⟨"DarkRoom", "exchange", "(LDarkRoom$Act;)V"⟩, 12), (⟨"DarkRoom", "standingPictures", "()I"⟩, 12), (⟨"DarkRoomModel", "load", "(I)V"⟩, 26), (⟨"DarkRoomModel", "begin", "()V"⟩, 26), (⟨"DarkRoomModel", "become", "(IIII)V"⟩, 26), (⟨"DarkRoomModel", "isThere", "(I)Z"⟩, 26), (⟨"DarkRoomModel", "isWithin", "(III)Z"⟩, 26), (⟨"DarkRoomModel", "wide", "(I)I"⟩, 26), (⟨"DarkRoomModel", "tall", "(I)I"⟩, 26), (⟨"DarkRoomModel", "kindOf", "(I)I"⟩, 26)]
theorem lw_r2 : ∀ q ∈ lw_privs_2, lw_okq q := List.forall_mem_cons.mpr ⟨lw_p16, List.forall_mem_cons.mpr ⟨lw_p17, List.forall_mem_cons.mpr ⟨lw_p18, List.forall_mem_cons.mpr ⟨lw_p19, List.forall_mem_cons.mpr ⟨lw_p20, List.forall_mem_cons.mpr ⟨lw_p21, List.forall_mem_cons.mpr ⟨lw_p22, List.forall_mem_cons.mpr ⟨lw_p23, List.forall_mem_cons.mpr ⟨lw_p24, List.forall_mem_cons.mpr ⟨lw_p25, List.forall_mem_cons.mpr ⟨lw_p26, List.forall_mem_cons.mpr ⟨lw_p27, List.forall_mem_cons.mpr ⟨lw_p28, List.forall_mem_cons.mpr ⟨lw_p29, List.forall_mem_cons.mpr ⟨lw_p30, List.forall_mem_cons.mpr ⟨lw_p31, fun _ h => absurd h List.not_mem_nil⟩⟩⟩⟩⟩⟩⟩⟩⟩⟩⟩⟩⟩⟩⟩⟩
theorem lw_p32 : lw_okq (⟨"DarkRoomModel", "pixelAt", "(III)I"⟩, 26) := ⟨⟨by decide +kernel, by decide +kernel⟩, List.mem_of_getElem? (i := 780) (by decide +kernel), List.mem_of_getElem? (i := 932) (by decide +kernel), List.mem_of_getElem? (i := 933) (by decide +kernel)⟩
theorem lw_p33 : lw_okq (⟨"DarkRoomModel", "pixels", "(I)I"⟩, 26) := ⟨⟨by decide +kernel, by decide +kernel⟩, List.mem_of_getElem? (i := 780) (by decide +kernel), List.mem_of_getElem? (i := 941) (by decide +kernel), List.mem_of_getElem? (i := 942) (by decide +kernel)⟩
theorem lw_p34 : lw_okq (⟨"DarkRoomModel", "look", "(I)V"⟩, 26) := ⟨⟨by decide +kernel, by decide +kernel⟩, List.mem_of_getElem? (i := 780) (by decide +kernel), List.mem_of_getElem? (i := 953) (by decide +kernel), List.mem_of_getElem? (i := 954) (by decide +kernel)⟩
theorem lw_p35 : lw_okq (⟨"DarkRoomModel", "seenAt", "(III)I"⟩, 26) := ⟨⟨by decide +kernel, by decide +kernel⟩, List.mem_of_getElem? (i := 780) (by decide +kernel), List.mem_of_getElem? (i := 957) (by decide +kernel), List.mem_of_getElem? (i := 958) (by decide +kernel)⟩
theorem lw_p36 : lw_okq (⟨"DarkRoomModel", "isFilter", "(I)Z"⟩, 26) := ⟨⟨by decide +kernel, by decide +kernel⟩, List.mem_of_getElem? (i := 780) (by decide +kernel), List.mem_of_getElem? (i := 997) (by decide +kernel), List.mem_of_getElem? (i := 998) (by decide +kernel)⟩
theorem lw_p37 : lw_okq (⟨"DarkRoomModel", "highOf", "(III)I"⟩, 26) := ⟨⟨by decide +kernel, by decide +kernel⟩, List.mem_of_getElem? (i := 780) (by decide +kernel), List.mem_of_getElem? (i := 1001) (by decide +kernel), List.mem_of_getElem? (i := 1002) (by decide +kernel)⟩
theorem lw_p38 : lw_okq (⟨"DarkRoomModel", "giveTo", "(IIZ)V"⟩, 26) := ⟨⟨by decide +kernel, by decide +kernel⟩, List.mem_of_getElem? (i := 780) (by decide +kernel), List.mem_of_getElem? (i := 1014) (by decide +kernel), List.mem_of_getElem? (i := 1015) (by decide +kernel)⟩
theorem lw_p39 : lw_okq (⟨"DarkRoomModel", "goOn", "(III)I"⟩, 26) := ⟨⟨by decide +kernel, by decide +kernel⟩, List.mem_of_getElem? (i := 780) (by decide +kernel), List.mem_of_getElem? (i := 1018) (by decide +kernel), List.mem_of_getElem? (i := 1019) (by decide +kernel)⟩
theorem lw_p40 : lw_okq (⟨"DarkRoomModel", "single", "(IIIII)I"⟩, 26) := ⟨⟨by decide +kernel, by decide +kernel⟩, List.mem_of_getElem? (i := 780) (by decide +kernel), List.mem_of_getElem? (i := 1022) (by decide +kernel), List.mem_of_getElem? (i := 1023) (by decide +kernel)⟩
theorem lw_p41 : lw_okq (⟨"DarkRoomModel", "ranked", "(I)I"⟩, 26) := ⟨⟨by decide +kernel, by decide +kernel⟩, List.mem_of_getElem? (i := 780) (by decide +kernel), List.mem_of_getElem? (i := 1033) (by decide +kernel), List.mem_of_getElem? (i := 1034) (by decide +kernel)⟩
theorem lw_p42 : lw_okq (⟨"DarkRoomModel", "takes", "(I)I"⟩, 26) := ⟨⟨by decide +kernel, by decide +kernel⟩, List.mem_of_getElem? (i := 780) (by decide +kernel), List.mem_of_getElem? (i := 1037) (by decide +kernel), List.mem_of_getElem? (i := 1038) (by decide +kernel)⟩
theorem lw_p43 : lw_okq (⟨"DarkRoomModel", "ons", "(I)I"⟩, 26) := ⟨⟨by decide +kernel, by decide +kernel⟩, List.mem_of_getElem? (i := 780) (by decide +kernel), List.mem_of_getElem? (i := 1059) (by decide +kernel), List.mem_of_getElem? (i := 1060) (by decide +kernel)⟩
theorem lw_p44 : lw_okq (⟨"DarkRoomModel", "beside", "(IIZ)I"⟩, 26) := ⟨⟨by decide +kernel, by decide +kernel⟩, List.mem_of_getElem? (i := 780) (by decide +kernel), List.mem_of_getElem? (i := 1068) (by decide +kernel), List.mem_of_getElem? (i := 1069) (by decide +kernel)⟩
theorem lw_p45 : lw_okq (⟨"DarkRoomModel", "isBeside", "(I)Z"⟩, 26) := ⟨⟨by decide +kernel, by decide +kernel⟩, List.mem_of_getElem? (i := 780) (by decide +kernel), List.mem_of_getElem? (i := 1080) (by decide +kernel), List.mem_of_getElem? (i := 1081) (by decide +kernel)⟩
theorem lw_p46 : lw_okq (⟨"DarkRoomModel", "carry", "(III)V"⟩, 26) := ⟨⟨by decide +kernel, by decide +kernel⟩, List.mem_of_getElem? (i := 780) (by decide +kernel), List.mem_of_getElem? (i := 1088) (by decide +kernel), List.mem_of_getElem? (i := 1089) (by decide +kernel)⟩
theorem lw_p47 : lw_okq (⟨"DarkRoomModel", "upTo", "(I)I"⟩, 26) := ⟨⟨by decide +kernel, by decide +kernel⟩, List.mem_of_getElem? (i := 780) (by decide +kernel), List.mem_of_getElem? (i := 1097) (by decide +kernel), List.mem_of_getElem? (i := 1098) (by decide +kernel)⟩
def lw_privs_3 : List (MethodName × Nat) := [(⟨"DarkRoomModel", "pixelAt", "(III)I"⟩, 26), (⟨"DarkRoomModel", "pixels", "(I)I"⟩, 26), (⟨"DarkRoomModel", "look", "(I)V"⟩, 26), (⟨"DarkRoomModel", "seenAt", "(III)I"⟩, 26), (⟨"DarkRoomModel", "isFilter", "(I)Z"⟩, 26), (⟨"DarkRoomModel", "highOf", "(III)I"⟩, 26), (⟨"DarkRoomModel", "giveTo", "(IIZ)V"⟩, 26), (⟨"DarkRoomModel", "goOn", "(III)I"⟩, 26), (⟨"DarkRoomModel", "single", "(IIIII)I"⟩, 26), (⟨"DarkRoomModel", "ranked", "(I)I"⟩, 26), (⟨"DarkRoomModel", "takes", "(I)I"⟩, 26), (⟨"DarkRoomModel", "ons", "(I)I"⟩, 26), (⟨"DarkRoomModel", "beside", "(IIZ)I"⟩, 26), (⟨"DarkRoomModel", "isBeside", "(I)Z"⟩, 26), (⟨"DarkRoomModel", "carry", "(III)V"⟩, 26), (⟨"DarkRoomModel", "upTo", "(I)I"⟩, 26)]
theorem lw_r3 : ∀ q ∈ lw_privs_3, lw_okq q := List.forall_mem_cons.mpr ⟨lw_p32, List.forall_mem_cons.mpr ⟨lw_p33, List.forall_mem_cons.mpr ⟨lw_p34, List.forall_mem_cons.mpr ⟨lw_p35, List.forall_mem_cons.mpr ⟨lw_p36, List.forall_mem_cons.mpr ⟨lw_p37, List.forall_mem_cons.mpr ⟨lw_p38, List.forall_mem_cons.mpr ⟨lw_p39, List.forall_mem_cons.mpr ⟨lw_p40, List.forall_mem_cons.mpr ⟨lw_p41, List.forall_mem_cons.mpr ⟨lw_p42, List.forall_mem_cons.mpr ⟨lw_p43, List.forall_mem_cons.mpr ⟨lw_p44, List.forall_mem_cons.mpr ⟨lw_p45, List.forall_mem_cons.mpr ⟨lw_p46, List.forall_mem_cons.mpr ⟨lw_p47, fun _ h => absurd h List.not_mem_nil⟩⟩⟩⟩⟩⟩⟩⟩⟩⟩⟩⟩⟩⟩⟩⟩
theorem lw_p48 : lw_okq (⟨"DarkRoomModel", "energyAt", "(II)I"⟩, 26) := ⟨⟨by decide +kernel, by decide +kernel⟩, List.mem_of_getElem? (i := 780) (by decide +kernel), List.mem_of_getElem? (i := 1105) (by decide +kernel), List.mem_of_getElem? (i := 1106) (by decide +kernel)⟩
theorem lw_p49 : lw_okq (⟨"DarkRoomModel", "laySeam", "(I)I"⟩, 26) := ⟨⟨by decide +kernel, by decide +kernel⟩, List.mem_of_getElem? (i := 780) (by decide +kernel), List.mem_of_getElem? (i := 1116) (by decide +kernel), List.mem_of_getElem? (i := 1117) (by decide +kernel)⟩
theorem lw_p50 : lw_okq (⟨"DarkRoomModel", "leastIn", "(III)I"⟩, 26) := ⟨⟨by decide +kernel, by decide +kernel⟩, List.mem_of_getElem? (i := 780) (by decide +kernel), List.mem_of_getElem? (i := 1120) (by decide +kernel), List.mem_of_getElem? (i := 1121) (by decide +kernel)⟩
theorem lw_p51 : lw_okq (⟨"DarkRoomModel", "layRuns", "(I)V"⟩, 26) := ⟨⟨by decide +kernel, by decide +kernel⟩, List.mem_of_getElem? (i := 780) (by decide +kernel), List.mem_of_getElem? (i := 1132) (by decide +kernel), List.mem_of_getElem? (i := 1133) (by decide +kernel)⟩
theorem lw_p52 : lw_okq (⟨"DarkRoomModel", "addRun", "(I)V"⟩, 26) := ⟨⟨by decide +kernel, by decide +kernel⟩, List.mem_of_getElem? (i := 780) (by decide +kernel), List.mem_of_getElem? (i := 1136) (by decide +kernel), List.mem_of_getElem? (i := 1137) (by decide +kernel)⟩
theorem lw_p53 : lw_okq (⟨"DarkRoomModel", "fault", "()I"⟩, 26) := ⟨⟨by decide +kernel, by decide +kernel⟩, List.mem_of_getElem? (i := 780) (by decide +kernel), List.mem_of_getElem? (i := 1144) (by decide +kernel), List.mem_of_getElem? (i := 1145) (by decide +kernel)⟩
theorem lw_p54 : lw_okq (⟨"DarkRoomModel", "isByte", "(III)Z"⟩, 26) := ⟨⟨by decide +kernel, by decide +kernel⟩, List.mem_of_getElem? (i := 780) (by decide +kernel), List.mem_of_getElem? (i := 1148) (by decide +kernel), List.mem_of_getElem? (i := 1149) (by decide +kernel)⟩
def lw_privs_4 : List (MethodName × Nat) := [(⟨"DarkRoomModel", "energyAt", "(II)I"⟩, 26), (⟨"DarkRoomModel", "laySeam", "(I)I"⟩, 26), (⟨"DarkRoomModel", "leastIn", "(III)I"⟩, 26), (⟨"DarkRoomModel", "layRuns", "(I)V"⟩, 26), (⟨"DarkRoomModel", "addRun", "(I)V"⟩, 26), (⟨"DarkRoomModel", "fault", "()I"⟩, 26), (⟨"DarkRoomModel", "isByte", "(III)Z"⟩, 26)]
theorem lw_r4 : ∀ q ∈ lw_privs_4, lw_okq q := List.forall_mem_cons.mpr ⟨lw_p48, List.forall_mem_cons.mpr ⟨lw_p49, List.forall_mem_cons.mpr ⟨lw_p50, List.forall_mem_cons.mpr ⟨lw_p51, List.forall_mem_cons.mpr ⟨lw_p52, List.forall_mem_cons.mpr ⟨lw_p53, List.forall_mem_cons.mpr ⟨lw_p54, fun _ h => absurd h List.not_mem_nil⟩⟩⟩⟩⟩⟩⟩
def lw_privs : List (MethodName × Nat) := lw_privs_1 ++ (lw_privs_2 ++ (lw_privs_3 ++ (lw_privs_4)))
def lw_tbl : List Cond := k2_sels lw_privs ++ tables_1
theorem lw_privs_ok : ∀ q ∈ lw_privs, lw_okq q := by
  show ∀ q ∈ lw_privs_1 ++ (lw_privs_2 ++ (lw_privs_3 ++ (lw_privs_4))), lw_okq q
  exact List.forall_mem_append.mpr ⟨lw_r1, List.forall_mem_append.mpr ⟨lw_r2, List.forall_mem_append.mpr ⟨lw_r3, lw_r4⟩⟩⟩
def RX0 : String := "DarkRoom$Act"
def TX0 : u_T := fun k => match k with
  | 0 => ("DarkRoom$Act", "ofMask", "Z", false)
  | 1 => ("DarkRoom$Act", "slot", "I", false)
  | 2 => ("DarkRoom$Act", "picture", "LDarkRoom$Picture;", false)
  | _ => ("DarkRoom$Act", "mask", "LDarkRoom$Mask;", false)
def tyX0 : Nat → FieldType := fun k => match k with
  | 0 => .boolean
  | 1 => .int
  | 2 => .object "DarkRoom$Picture"
  | _ => .object "DarkRoom$Mask"
theorem nmX0 : ∀ a, a < 4 → ∀ b, b < 4 → a ≠ b → (TX0 a).2.1 ≠ (TX0 b).2.1 := by decide +kernel
theorem tyX0_ok : ∀ k, k < 4 → parseFieldDescriptor (TX0 k).2.2.1 = some (tyX0 k) := by decide +kernel
abbrev cX0_init : ByteArray := prog_2_method_1_code
def yX0_init : MethodName := ⟨RX0, "<init>", "()V"⟩
def RX1 : String := "DarkRoom$Bench"
def TX1 : u_T := fun k => match k with
  | 0 => ("DarkRoom$Bench", "between", "[LDarkRoom$Picture;", true)
  | _ => ("DarkRoom$Bench", "nine", "[I", true)
def tyX1 : Nat → FieldType := fun k => match k with
  | 0 => .array (.object "DarkRoom$Picture")
  | _ => .array .int
theorem nmX1 : ∀ a, a < 2 → ∀ b, b < 2 → a ≠ b → (TX1 a).2.1 ≠ (TX1 b).2.1 := by decide +kernel
theorem tyX1_ok : ∀ k, k < 2 → parseFieldDescriptor (TX1 k).2.2.1 = some (tyX1 k) := by decide +kernel
abbrev cX1_init : ByteArray := prog_3_method_1_code
def yX1_init : MethodName := ⟨RX1, "<init>", "()V"⟩
abbrev cX1_develop : ByteArray := prog_3_method_2_code
def yX1_develop : MethodName := ⟨RX1, "develop", "(LDarkRoom$Bench;LDarkRoom$Filter;LDarkRoom$Picture;LDarkRoom$Picture;[LDarkRoom$Mask;II)V"⟩
abbrev cX1_developEach : ByteArray := prog_3_method_3_code
def yX1_developEach : MethodName := ⟨RX1, "developEach", "(LDarkRoom$Filter;LDarkRoom$Picture;LDarkRoom$Picture;)V"⟩
abbrev cX1_madeOf : ByteArray := prog_3_method_4_code
def yX1_madeOf : MethodName := ⟨RX1, "madeOf", "(LDarkRoom$Filter;LDarkRoom$Picture;I)I"⟩
abbrev cX1_developAround : ByteArray := prog_3_method_5_code
def yX1_developAround : MethodName := ⟨RX1, "developAround", "(LDarkRoom$Filter;LDarkRoom$Picture;LDarkRoom$Picture;I)V"⟩
abbrev cX1_gather : ByteArray := prog_3_method_6_code
def yX1_gather : MethodName := ⟨RX1, "gather", "(LDarkRoom$Picture;III)V"⟩
abbrev cX1_weighed : ByteArray := prog_3_method_7_code
def yX1_weighed : MethodName := ⟨RX1, "weighed", "(LDarkRoom$Filter;)J"⟩
abbrev cX1_ranked : ByteArray := prog_3_method_8_code
def yX1_ranked : MethodName := ⟨RX1, "ranked", "(I)I"⟩
abbrev cX1_restoreUnlit : ByteArray := prog_3_method_9_code
def yX1_restoreUnlit : MethodName := ⟨RX1, "restoreUnlit", "(LDarkRoom$Mask;LDarkRoom$Picture;LDarkRoom$Picture;)V"⟩
abbrev cX1_halve : ByteArray := prog_3_method_10_code
def yX1_halve : MethodName := ⟨RX1, "halve", "(LDarkRoom$Picture;LDarkRoom$Picture;)V"⟩
def RX2 : String := "DarkRoom$Filter"
def TX2 : u_T := fun k => match k with
  | 0 => ("DarkRoom$Filter", "kind", "I", true)
  | 1 => ("DarkRoom$Filter", "a", "I", true)
  | 2 => ("DarkRoom$Filter", "b", "I", true)
  | 3 => ("DarkRoom$Filter", "high", "I", true)
  | 4 => ("DarkRoom$Filter", "first", "LDarkRoom$Filter;", true)
  | 5 => ("DarkRoom$Filter", "second", "LDarkRoom$Filter;", true)
  | _ => ("DarkRoom$Filter", "weights", "[I", true)
def tyX2 : Nat → FieldType := fun k => match k with
  | 0 => .int
  | 1 => .int
  | 2 => .int
  | 3 => .int
  | 4 => .object "DarkRoom$Filter"
  | 5 => .object "DarkRoom$Filter"
  | _ => .array .int
theorem nmX2 : ∀ a, a < 7 → ∀ b, b < 7 → a ≠ b → (TX2 a).2.1 ≠ (TX2 b).2.1 := by decide +kernel
theorem tyX2_ok : ∀ k, k < 7 → parseFieldDescriptor (TX2 k).2.2.1 = some (tyX2 k) := by decide +kernel
abbrev cX2_init : ByteArray := prog_4_method_1_code
def yX2_init : MethodName := ⟨RX2, "<init>", "(IIIILDarkRoom$Filter;LDarkRoom$Filter;)V"⟩
abbrev cX2_weightAt : ByteArray := prog_4_method_2_code
def yX2_weightAt : MethodName := ⟨RX2, "weightAt", "(I)I"⟩
abbrev cX2_weigh : ByteArray := prog_4_method_3_code
def yX2_weigh : MethodName := ⟨RX2, "weigh", "(II)V"⟩
def RX3 : String := "DarkRoom$Flood"
def TX3 : u_T := fun k => match k with
  | 0 => ("DarkRoom$Flood", "places", "[I", true)
  | 1 => ("DarkRoom$Flood", "wet", "[Z", true)
  | _ => ("DarkRoom$Flood", "reached", "I", false)
def tyX3 : Nat → FieldType := fun k => match k with
  | 0 => .array .int
  | 1 => .array .boolean
  | _ => .int
theorem nmX3 : ∀ a, a < 3 → ∀ b, b < 3 → a ≠ b → (TX3 a).2.1 ≠ (TX3 b).2.1 := by decide +kernel
theorem tyX3_ok : ∀ k, k < 3 → parseFieldDescriptor (TX3 k).2.2.1 = some (tyX3 k) := by decide +kernel
abbrev cX3_init : ByteArray := prog_5_method_1_code
def yX3_init : MethodName := ⟨RX3, "<init>", "()V"⟩
abbrev cX3_placeAt : ByteArray := prog_5_method_2_code
def yX3_placeAt : MethodName := ⟨RX3, "placeAt", "(I)I"⟩
abbrev cX3_pour : ByteArray := prog_5_method_3_code
def yX3_pour : MethodName := ⟨RX3, "pour", "(LDarkRoom$Picture;III)I"⟩
abbrev cX3_reach : ByteArray := prog_5_method_4_code
def yX3_reach : MethodName := ⟨RX3, "reach", "(LDarkRoom$Picture;IIII)V"⟩
def RX4 : String := "DarkRoom$History"
def TX4 : u_T := fun k => match k with
  | 0 => ("DarkRoom$History", "acts", "[LDarkRoom$Act;", true)
  | 1 => ("DarkRoom$History", "first", "I", false)
  | 2 => ("DarkRoom$History", "done", "I", false)
  | _ => ("DarkRoom$History", "undone", "I", false)
def tyX4 : Nat → FieldType := fun k => match k with
  | 0 => .array (.object "DarkRoom$Act")
  | 1 => .int
  | 2 => .int
  | _ => .int
theorem nmX4 : ∀ a, a < 4 → ∀ b, b < 4 → a ≠ b → (TX4 a).2.1 ≠ (TX4 b).2.1 := by decide +kernel
theorem tyX4_ok : ∀ k, k < 4 → parseFieldDescriptor (TX4 k).2.2.1 = some (tyX4 k) := by decide +kernel
abbrev cX4_init : ByteArray := prog_6_method_1_code
def yX4_init : MethodName := ⟨RX4, "<init>", "()V"⟩
abbrev cX4_next : ByteArray := prog_6_method_2_code
def yX4_next : MethodName := ⟨RX4, "next", "()LDarkRoom$Act;"⟩
abbrev cX4_stepBack : ByteArray := prog_6_method_3_code
def yX4_stepBack : MethodName := ⟨RX4, "stepBack", "()LDarkRoom$Act;"⟩
abbrev cX4_stepForth : ByteArray := prog_6_method_4_code
def yX4_stepForth : MethodName := ⟨RX4, "stepForth", "()LDarkRoom$Act;"⟩
abbrev cX4_nth : ByteArray := prog_6_method_5_code
def yX4_nth : MethodName := ⟨RX4, "nth", "(I)LDarkRoom$Act;"⟩
def RX5 : String := "DarkRoom$Mask"
def TX5 : u_T := fun k => match k with
  | _ => ("DarkRoom$Mask", "rows", "[I", true)
def tyX5 : Nat → FieldType := fun k => match k with
  | _ => .array .int
theorem nmX5 : ∀ a, a < 1 → ∀ b, b < 1 → a ≠ b → (TX5 a).2.1 ≠ (TX5 b).2.1 := by decide +kernel
theorem tyX5_ok : ∀ k, k < 1 → parseFieldDescriptor (TX5 k).2.2.1 = some (tyX5 k) := by decide +kernel
abbrev cX5_init : ByteArray := prog_7_method_1_code
def yX5_init : MethodName := ⟨RX5, "<init>", "()V"⟩
abbrev cX5_darken : ByteArray := prog_7_method_2_code
def yX5_darken : MethodName := ⟨RX5, "darken", "()V"⟩
abbrev cX5_copyFrom : ByteArray := prog_7_method_3_code
def yX5_copyFrom : MethodName := ⟨RX5, "copyFrom", "(LDarkRoom$Mask;)V"⟩
abbrev cX5_lit : ByteArray := prog_7_method_4_code
def yX5_lit : MethodName := ⟨RX5, "lit", "(II)Z"⟩
abbrev cX5_light : ByteArray := prog_7_method_5_code
def yX5_light : MethodName := ⟨RX5, "light", "(IIZ)V"⟩
abbrev cX5_howMany : ByteArray := prog_7_method_6_code
def yX5_howMany : MethodName := ⟨RX5, "howMany", "()I"⟩
abbrev cX5_joinedFrom : ByteArray := prog_7_method_7_code
def yX5_joinedFrom : MethodName := ⟨RX5, "joinedFrom", "(LDarkRoom$Mask;LDarkRoom$Mask;I)V"⟩
abbrev cX5_joinedRow : ByteArray := prog_7_method_8_code
def yX5_joinedRow : MethodName := ⟨RX5, "joinedRow", "(ILDarkRoom$Mask;II)I"⟩
abbrev cX5_row : ByteArray := prog_7_method_9_code
def yX5_row : MethodName := ⟨RX5, "row", "(II)I"⟩
def RX6 : String := "DarkRoom$Picture"
def TX6 : u_T := fun k => match k with
  | 0 => ("DarkRoom$Picture", "kind", "I", false)
  | 1 => ("DarkRoom$Picture", "width", "I", false)
  | 2 => ("DarkRoom$Picture", "height", "I", false)
  | _ => ("DarkRoom$Picture", "pixels", "[I", true)
def tyX6 : Nat → FieldType := fun k => match k with
  | 0 => .int
  | 1 => .int
  | 2 => .int
  | _ => .array .int
theorem nmX6 : ∀ a, a < 4 → ∀ b, b < 4 → a ≠ b → (TX6 a).2.1 ≠ (TX6 b).2.1 := by decide +kernel
theorem tyX6_ok : ∀ k, k < 4 → parseFieldDescriptor (TX6 k).2.2.1 = some (tyX6 k) := by decide +kernel
abbrev cX6_init : ByteArray := prog_8_method_1_code
def yX6_init : MethodName := ⟨RX6, "<init>", "()V"⟩
abbrev cX6_vanish : ByteArray := prog_8_method_2_code
def yX6_vanish : MethodName := ⟨RX6, "vanish", "()V"⟩
abbrev cX6_shape : ByteArray := prog_8_method_3_code
def yX6_shape : MethodName := ⟨RX6, "shape", "(III)V"⟩
abbrev cX6_blank : ByteArray := prog_8_method_4_code
def yX6_blank : MethodName := ⟨RX6, "blank", "()V"⟩
abbrev cX6_copyFrom : ByteArray := prog_8_method_5_code
def yX6_copyFrom : MethodName := ⟨RX6, "copyFrom", "(LDarkRoom$Picture;)V"⟩
abbrev cX6_isMissing : ByteArray := prog_8_method_6_code
def yX6_isMissing : MethodName := ⟨RX6, "isMissing", "()Z"⟩
abbrev cX6_has : ByteArray := prog_8_method_7_code
def yX6_has : MethodName := ⟨RX6, "has", "(II)Z"⟩
abbrev cX6_area : ByteArray := prog_8_method_8_code
def yX6_area : MethodName := ⟨RX6, "area", "()I"⟩
abbrev cX6_place : ByteArray := prog_8_method_9_code
def yX6_place : MethodName := ⟨RX6, "place", "(II)I"⟩
abbrev cX6_pixel : ByteArray := prog_8_method_10_code
def yX6_pixel : MethodName := ⟨RX6, "pixel", "(I)I"⟩
abbrev cX6_set : ByteArray := prog_8_method_11_code
def yX6_set : MethodName := ⟨RX6, "set", "(II)V"⟩
abbrev cX6_least : ByteArray := prog_8_method_12_code
def yX6_least : MethodName := ⟨RX6, "least", "()I"⟩
abbrev cX6_greatest : ByteArray := prog_8_method_13_code
def yX6_greatest : MethodName := ⟨RX6, "greatest", "()I"⟩
abbrev cX6_holds : ByteArray := prog_8_method_14_code
def yX6_holds : MethodName := ⟨RX6, "holds", "(I)Z"⟩
abbrev cX6_kept : ByteArray := prog_8_method_15_code
def yX6_kept : MethodName := ⟨RX6, "kept", "(J)I"⟩
abbrev cX6_seen : ByteArray := prog_8_method_16_code
def yX6_seen : MethodName := ⟨RX6, "seen", "(III)I"⟩
abbrev cX6_inside : ByteArray := prog_8_method_17_code
def yX6_inside : MethodName := ⟨RX6, "inside", "(III)I"⟩
abbrev cX6_leastPixel : ByteArray := prog_8_method_18_code
def yX6_leastPixel : MethodName := ⟨RX6, "leastPixel", "()I"⟩
abbrev cX6_greatestPixel : ByteArray := prog_8_method_19_code
def yX6_greatestPixel : MethodName := ⟨RX6, "greatestPixel", "()I"⟩
abbrev cX6_sum : ByteArray := prog_8_method_20_code
def yX6_sum : MethodName := ⟨RX6, "sum", "()I"⟩
abbrev cX6_unlikePixels : ByteArray := prog_8_method_21_code
def yX6_unlikePixels : MethodName := ⟨RX6, "unlikePixels", "(LDarkRoom$Picture;)I"⟩
abbrev cX6_turnedFrom : ByteArray := prog_8_method_22_code
def yX6_turnedFrom : MethodName := ⟨RX6, "turnedFrom", "(LDarkRoom$Picture;IZ)V"⟩
abbrev cX6_energyAt : ByteArray := prog_8_method_23_code
def yX6_energyAt : MethodName := ⟨RX6, "energyAt", "(II)I"⟩
abbrev cX6_bytesEach : ByteArray := prog_8_method_24_code
def yX6_bytesEach : MethodName := ⟨RX6, "bytesEach", "()I"⟩
abbrev cX6_rolled : ByteArray := prog_8_method_25_code
def yX6_rolled : MethodName := ⟨RX6, "rolled", "(I)I"⟩
abbrev cX6_isRun : ByteArray := prog_8_method_26_code
def yX6_isRun : MethodName := ⟨RX6, "isRun", "(II)Z"⟩
abbrev cX6_pixelByte : ByteArray := prog_8_method_27_code
def yX6_pixelByte : MethodName := ⟨RX6, "pixelByte", "(II)I"⟩
def RX7 : String := "DarkRoom$Seam"
def TX7 : u_T := fun k => match k with
  | 0 => ("DarkRoom$Seam", "costs", "[I", true)
  | 1 => ("DarkRoom$Seam", "columns", "[I", true)
  | _ => ("DarkRoom$Seam", "total", "I", false)
def tyX7 : Nat → FieldType := fun k => match k with
  | 0 => .array .int
  | 1 => .array .int
  | _ => .int
theorem nmX7 : ∀ a, a < 3 → ∀ b, b < 3 → a ≠ b → (TX7 a).2.1 ≠ (TX7 b).2.1 := by decide +kernel
theorem tyX7_ok : ∀ k, k < 3 → parseFieldDescriptor (TX7 k).2.2.1 = some (tyX7 k) := by decide +kernel
abbrev cX7_init : ByteArray := prog_9_method_1_code
def yX7_init : MethodName := ⟨RX7, "<init>", "()V"⟩
abbrev cX7_column : ByteArray := prog_9_method_2_code
def yX7_column : MethodName := ⟨RX7, "column", "(I)I"⟩
abbrev cX7_trace : ByteArray := prog_9_method_3_code
def yX7_trace : MethodName := ⟨RX7, "trace", "(LDarkRoom$Picture;)V"⟩
abbrev cX7_leastIn : ByteArray := prog_9_method_4_code
def yX7_leastIn : MethodName := ⟨RX7, "leastIn", "(LDarkRoom$Picture;III)I"⟩
abbrev cX7_cost : ByteArray := prog_9_method_5_code
def yX7_cost : MethodName := ⟨RX7, "cost", "(LDarkRoom$Picture;II)I"⟩
abbrev cX7_setCost : ByteArray := prog_9_method_6_code
def yX7_setCost : MethodName := ⟨RX7, "setCost", "(II)V"⟩
def RX8 : String := "DarkRoom$Tape"
def TX8 : u_T := fun k => match k with
  | 0 => ("DarkRoom$Tape", "bytes", "[I", true)
  | _ => ("DarkRoom$Tape", "length", "I", false)
def tyX8 : Nat → FieldType := fun k => match k with
  | 0 => .array .int
  | _ => .int
theorem nmX8 : ∀ a, a < 2 → ∀ b, b < 2 → a ≠ b → (TX8 a).2.1 ≠ (TX8 b).2.1 := by decide +kernel
theorem tyX8_ok : ∀ k, k < 2 → parseFieldDescriptor (TX8 k).2.2.1 = some (tyX8 k) := by decide +kernel
abbrev cX8_init : ByteArray := prog_10_method_1_code
def yX8_init : MethodName := ⟨RX8, "<init>", "()V"⟩
abbrev cX8_append : ByteArray := prog_10_method_2_code
def yX8_append : MethodName := ⟨RX8, "append", "(I)Z"⟩
abbrev cX8_unroll : ByteArray := prog_10_method_3_code
def yX8_unroll : MethodName := ⟨RX8, "unroll", "(LDarkRoom$Picture;)I"⟩
abbrev cX8_soundHead : ByteArray := prog_10_method_4_code
def yX8_soundHead : MethodName := ⟨RX8, "soundHead", "()I"⟩
abbrev cX8_byteAt : ByteArray := prog_10_method_5_code
def yX8_byteAt : MethodName := ⟨RX8, "byteAt", "(I)I"⟩
def RX9 : String := "DarkRoom$Tones"
def TX9 : u_T := fun k => match k with
  | 0 => ("DarkRoom$Tones", "carried", "[I", true)
  | _ => ("DarkRoom$Tones", "atMost", "[I", true)
def tyX9 : Nat → FieldType := fun k => match k with
  | 0 => .array .int
  | _ => .array .int
theorem nmX9 : ∀ a, a < 2 → ∀ b, b < 2 → a ≠ b → (TX9 a).2.1 ≠ (TX9 b).2.1 := by decide +kernel
theorem tyX9_ok : ∀ k, k < 2 → parseFieldDescriptor (TX9 k).2.2.1 = some (tyX9 k) := by decide +kernel
abbrev cX9_init : ByteArray := prog_11_method_1_code
def yX9_init : MethodName := ⟨RX9, "<init>", "()V"⟩
abbrev cX9_spread : ByteArray := prog_11_method_2_code
def yX9_spread : MethodName := ⟨RX9, "spread", "(LDarkRoom$Picture;LDarkRoom$Picture;I)V"⟩
abbrev cX9_spreadAt : ByteArray := prog_11_method_3_code
def yX9_spreadAt : MethodName := ⟨RX9, "spreadAt", "(LDarkRoom$Picture;LDarkRoom$Picture;III)V"⟩
abbrev cX9_carry : ByteArray := prog_11_method_4_code
def yX9_carry : MethodName := ⟨RX9, "carry", "(LDarkRoom$Picture;III)V"⟩
abbrev cX9_flatten : ByteArray := prog_11_method_5_code
def yX9_flatten : MethodName := ⟨RX9, "flatten", "(LDarkRoom$Picture;LDarkRoom$Picture;)V"⟩
abbrev cX9_countUp : ByteArray := prog_11_method_6_code
def yX9_countUp : MethodName := ⟨RX9, "countUp", "(LDarkRoom$Picture;)V"⟩
abbrev cX9_howManyAtMost : ByteArray := prog_11_method_7_code
def yX9_howManyAtMost : MethodName := ⟨RX9, "howManyAtMost", "(I)I"⟩
def RX10 : String := "DarkRoom"
def TX10 : u_T := fun k => match k with
  | 0 => ("DarkRoom", "pictures", "[LDarkRoom$Picture;", true)
  | 1 => ("DarkRoom", "masks", "[LDarkRoom$Mask;", true)
  | 2 => ("DarkRoom", "filters", "[LDarkRoom$Filter;", true)
  | 3 => ("DarkRoom", "filterCount", "I", false)
  | 4 => ("DarkRoom", "tray", "LDarkRoom$Picture;", false)
  | 5 => ("DarkRoom", "maskTray", "LDarkRoom$Mask;", false)
  | 6 => ("DarkRoom", "history", "LDarkRoom$History;", true)
  | 7 => ("DarkRoom", "bench", "LDarkRoom$Bench;", true)
  | 8 => ("DarkRoom", "flood", "LDarkRoom$Flood;", true)
  | 9 => ("DarkRoom", "tones", "LDarkRoom$Tones;", true)
  | 10 => ("DarkRoom", "leastSeam", "LDarkRoom$Seam;", true)
  | _ => ("DarkRoom", "tape", "LDarkRoom$Tape;", true)
def tyX10 : Nat → FieldType := fun k => match k with
  | 0 => .array (.object "DarkRoom$Picture")
  | 1 => .array (.object "DarkRoom$Mask")
  | 2 => .array (.object "DarkRoom$Filter")
  | 3 => .int
  | 4 => .object "DarkRoom$Picture"
  | 5 => .object "DarkRoom$Mask"
  | 6 => .object "DarkRoom$History"
  | 7 => .object "DarkRoom$Bench"
  | 8 => .object "DarkRoom$Flood"
  | 9 => .object "DarkRoom$Tones"
  | 10 => .object "DarkRoom$Seam"
  | _ => .object "DarkRoom$Tape"
theorem nmX10 : ∀ a, a < 12 → ∀ b, b < 12 → a ≠ b → (TX10 a).2.1 ≠ (TX10 b).2.1 := by decide +kernel
theorem tyX10_ok : ∀ k, k < 12 → parseFieldDescriptor (TX10 k).2.2.1 = some (tyX10 k) := by decide +kernel
abbrev cX10_init : ByteArray := prog_1_method_1_code
def yX10_init : MethodName := ⟨RX10, "<init>", "()V"⟩
abbrev cX10_picture : ByteArray := prog_1_method_2_code
def yX10_picture : MethodName := ⟨RX10, "picture", "(IIII)I"⟩
abbrev cX10_put : ByteArray := prog_1_method_3_code
def yX10_put : MethodName := ⟨RX10, "put", "(IIII)I"⟩
abbrev cX10_feed : ByteArray := prog_1_method_4_code
def yX10_feed : MethodName := ⟨RX10, "feed", "(IIIJI)I"⟩
abbrev cX10_at : ByteArray := prog_1_method_5_code
def yX10_at : MethodName := ⟨RX10, "at", "(IIII)I"⟩
abbrev cX10_about : ByteArray := prog_1_method_6_code
def yX10_about : MethodName := ⟨RX10, "about", "(II)I"⟩
abbrev cX10_convert : ByteArray := prog_1_method_7_code
def yX10_convert : MethodName := ⟨RX10, "convert", "(IIII)I"⟩
abbrev cX10_cut : ByteArray := prog_1_method_8_code
def yX10_cut : MethodName := ⟨RX10, "cut", "(IIIIIII)I"⟩
abbrev cX10_turn : ByteArray := prog_1_method_9_code
def yX10_turn : MethodName := ⟨RX10, "turn", "(III)I"⟩
abbrev cX10_unlike : ByteArray := prog_1_method_10_code
def yX10_unlike : MethodName := ⟨RX10, "unlike", "(II)I"⟩
abbrev cX10_filter : ByteArray := prog_1_method_11_code
def yX10_filter : MethodName := ⟨RX10, "filter", "(III)I"⟩
abbrev cX10_weight : ByteArray := prog_1_method_12_code
def yX10_weight : MethodName := ⟨RX10, "weight", "(III)I"⟩
abbrev cX10_apply : ByteArray := prog_1_method_13_code
def yX10_apply : MethodName := ⟨RX10, "apply", "(III)I"⟩
abbrev cX10_mask : ByteArray := prog_1_method_14_code
def yX10_mask : MethodName := ⟨RX10, "mask", "(IIIZ)I"⟩
abbrev cX10_maskOf : ByteArray := prog_1_method_15_code
def yX10_maskOf : MethodName := ⟨RX10, "maskOf", "(IIII)I"⟩
abbrev cX10_maskBy : ByteArray := prog_1_method_16_code
def yX10_maskBy : MethodName := ⟨RX10, "maskBy", "(III)I"⟩
abbrev cX10_isOn : ByteArray := prog_1_method_17_code
def yX10_isOn : MethodName := ⟨RX10, "isOn", "(III)I"⟩
abbrev cX10_fill : ByteArray := prog_1_method_18_code
def yX10_fill : MethodName := ⟨RX10, "fill", "(IIIII)I"⟩
abbrev cX10_dither : ByteArray := prog_1_method_19_code
def yX10_dither : MethodName := ⟨RX10, "dither", "(II)I"⟩
abbrev cX10_even : ByteArray := prog_1_method_20_code
def yX10_even : MethodName := ⟨RX10, "even", "(I)I"⟩
abbrev cX10_energy : ByteArray := prog_1_method_21_code
def yX10_energy : MethodName := ⟨RX10, "energy", "(III)I"⟩
abbrev cX10_seam : ByteArray := prog_1_method_22_code
def yX10_seam : MethodName := ⟨RX10, "seam", "(II)I"⟩
abbrev cX10_seamGoes : ByteArray := prog_1_method_23_code
def yX10_seamGoes : MethodName := ⟨RX10, "seamGoes", "(II)I"⟩
abbrev cX10_runs : ByteArray := prog_1_method_24_code
def yX10_runs : MethodName := ⟨RX10, "runs", "(II)I"⟩
abbrev cX10_read : ByteArray := prog_1_method_25_code
def yX10_read : MethodName := ⟨RX10, "read", "(I)I"⟩
abbrev cX10_byteTo : ByteArray := prog_1_method_26_code
def yX10_byteTo : MethodName := ⟨RX10, "byteTo", "(I)I"⟩
abbrev cX10_undo : ByteArray := prog_1_method_27_code
def yX10_undo : MethodName := ⟨RX10, "undo", "()I"⟩
abbrev cX10_redo : ByteArray := prog_1_method_28_code
def yX10_redo : MethodName := ⟨RX10, "redo", "()I"⟩
abbrev cX10_count : ByteArray := prog_1_method_29_code
def yX10_count : MethodName := ⟨RX10, "count", "(I)I"⟩
abbrev cX10_within : ByteArray := prog_1_method_30_code
def yX10_within : MethodName := ⟨RX10, "within", "(III)Z"⟩
abbrev cX10_isPicture : ByteArray := prog_1_method_31_code
def yX10_isPicture : MethodName := ⟨RX10, "isPicture", "(I)Z"⟩
abbrev cX10_isMask : ByteArray := prog_1_method_32_code
def yX10_isMask : MethodName := ⟨RX10, "isMask", "(I)Z"⟩
abbrev cX10_isOfMask : ByteArray := prog_1_method_33_code
def yX10_isOfMask : MethodName := ⟨RX10, "isOfMask", "(II)Z"⟩
abbrev cX10_isSide : ByteArray := prog_1_method_34_code
def yX10_isSide : MethodName := ⟨RX10, "isSide", "(I)Z"⟩
abbrev cX10_isEdge : ByteArray := prog_1_method_35_code
def yX10_isEdge : MethodName := ⟨RX10, "isEdge", "(I)Z"⟩
abbrev cX10_nearest : ByteArray := prog_1_method_36_code
def yX10_nearest : MethodName := ⟨RX10, "nearest", "(JJ)J"⟩
abbrev cX10_partOf : ByteArray := prog_1_method_37_code
def yX10_partOf : MethodName := ⟨RX10, "partOf", "(I)LDarkRoom$Filter;"⟩
abbrev cX10_isFilterTold : ByteArray := prog_1_method_38_code
def yX10_isFilterTold : MethodName := ⟨RX10, "isFilterTold", "(III)Z"⟩
abbrev cX10_standingPictures : ByteArray := prog_1_method_39_code
def yX10_standingPictures : MethodName := ⟨RX10, "standingPictures", "()I"⟩
abbrev cX10_keepPicture : ByteArray := prog_1_method_40_code
def yX10_keepPicture : MethodName := ⟨RX10, "keepPicture", "(I)V"⟩
abbrev cX10_keepMask : ByteArray := prog_1_method_41_code
def yX10_keepMask : MethodName := ⟨RX10, "keepMask", "(I)V"⟩
abbrev cX10_exchange : ByteArray := prog_1_method_42_code
def yX10_exchange : MethodName := ⟨RX10, "exchange", "(LDarkRoom$Act;)V"⟩
def RX11 : String := "DarkRoomModel"
def TX11 : u_T := fun k => match k with
  | 0 => ("DarkRoomModel", "st", "[I", true)
  | 1 => ("DarkRoomModel", "was", "[I", true)
  | 2 => ("DarkRoomModel", "now", "I", false)
  | 3 => ("DarkRoomModel", "top", "I", false)
  | 4 => ("DarkRoomModel", "filters", "I", false)
  | 5 => ("DarkRoomModel", "kind", "[I", true)
  | 6 => ("DarkRoomModel", "numA", "[I", true)
  | 7 => ("DarkRoomModel", "numB", "[I", true)
  | 8 => ("DarkRoomModel", "high", "[I", true)
  | 9 => ("DarkRoomModel", "weights", "[I", true)
  | 10 => ("DarkRoomModel", "taped", "I", false)
  | 11 => ("DarkRoomModel", "tape", "[I", true)
  | 12 => ("DarkRoomModel", "seen", "[I", true)
  | 13 => ("DarkRoomModel", "seenWide", "I", false)
  | 14 => ("DarkRoomModel", "seenTall", "I", false)
  | 15 => ("DarkRoomModel", "begun", "[I", true)
  | 16 => ("DarkRoomModel", "phase", "[I", true)
  | 17 => ("DarkRoomModel", "given", "[I", true)
  | 18 => ("DarkRoomModel", "saved", "[I", true)
  | 19 => ("DarkRoomModel", "made", "[I", true)
  | 20 => ("DarkRoomModel", "nine", "[I", true)
  | 21 => ("DarkRoomModel", "isFilled", "[Z", true)
  | 22 => ("DarkRoomModel", "cost", "[I", true)
  | 23 => ("DarkRoomModel", "seamAt", "[I", true)
  | 24 => ("DarkRoomModel", "runMany", "I", false)
  | _ => ("DarkRoomModel", "runBytes", "[I", true)
def tyX11 : Nat → FieldType := fun k => match k with
  | 0 => .array .int
  | 1 => .array .int
  | 2 => .int
  | 3 => .int
  | 4 => .int
  | 5 => .array .int
  | 6 => .array .int
  | 7 => .array .int
  | 8 => .array .int
  | 9 => .array .int
  | 10 => .int
  | 11 => .array .int
  | 12 => .array .int
  | 13 => .int
  | 14 => .int
  | 15 => .array .int
  | 16 => .array .int
  | 17 => .array .int
  | 18 => .array .int
  | 19 => .array .int
  | 20 => .array .int
  | 21 => .array .boolean
  | 22 => .array .int
  | 23 => .array .int
  | 24 => .int
  | _ => .array .int
theorem nmX11 : ∀ a, a < 26 → ∀ b, b < 26 → a ≠ b → (TX11 a).2.1 ≠ (TX11 b).2.1 := by decide +kernel
theorem tyX11_ok : ∀ k, k < 26 → parseFieldDescriptor (TX11 k).2.2.1 = some (tyX11 k) := by decide +kernel
abbrev cX11_init : ByteArray := prog_13_method_1_code
def yX11_init : MethodName := ⟨RX11, "<init>", "()V"⟩
abbrev cX11_in : ByteArray := prog_13_method_2_code
def yX11_in : MethodName := ⟨RX11, "in", "(JJJ)Z"⟩
abbrev cX11_isPicture : ByteArray := prog_13_method_3_code
def yX11_isPicture : MethodName := ⟨RX11, "isPicture", "(I)Z"⟩
abbrev cX11_isThere : ByteArray := prog_13_method_4_code
def yX11_isThere : MethodName := ⟨RX11, "isThere", "(I)Z"⟩
abbrev cX11_kindOf : ByteArray := prog_13_method_5_code
def yX11_kindOf : MethodName := ⟨RX11, "kindOf", "(I)I"⟩
abbrev cX11_wide : ByteArray := prog_13_method_6_code
def yX11_wide : MethodName := ⟨RX11, "wide", "(I)I"⟩
abbrev cX11_tall : ByteArray := prog_13_method_7_code
def yX11_tall : MethodName := ⟨RX11, "tall", "(I)I"⟩
abbrev cX11_least : ByteArray := prog_13_method_8_code
def yX11_least : MethodName := ⟨RX11, "least", "(I)I"⟩
abbrev cX11_greatest : ByteArray := prog_13_method_9_code
def yX11_greatest : MethodName := ⟨RX11, "greatest", "(I)I"⟩
abbrev cX11_keptIn : ByteArray := prog_13_method_10_code
def yX11_keptIn : MethodName := ⟨RX11, "keptIn", "(IJ)I"⟩
abbrev cX11_pixels : ByteArray := prog_13_method_11_code
def yX11_pixels : MethodName := ⟨RX11, "pixels", "(I)I"⟩
abbrev cX11_pixelAt : ByteArray := prog_13_method_12_code
def yX11_pixelAt : MethodName := ⟨RX11, "pixelAt", "(III)I"⟩
abbrev cX11_isWithin : ByteArray := prog_13_method_13_code
def yX11_isWithin : MethodName := ⟨RX11, "isWithin", "(III)Z"⟩
abbrev cX11_begin : ByteArray := prog_13_method_14_code
def yX11_begin : MethodName := ⟨RX11, "begin", "()V"⟩
abbrev cX11_load : ByteArray := prog_13_method_15_code
def yX11_load : MethodName := ⟨RX11, "load", "(I)V"⟩
abbrev cX11_undo : ByteArray := prog_13_method_16_code
def yX11_undo : MethodName := ⟨RX11, "undo", "()I"⟩
abbrev cX11_redo : ByteArray := prog_13_method_17_code
def yX11_redo : MethodName := ⟨RX11, "redo", "()I"⟩
abbrev cX11_become : ByteArray := prog_13_method_18_code
def yX11_become : MethodName := ⟨RX11, "become", "(IIII)V"⟩
abbrev cX11_picture : ByteArray := prog_13_method_19_code
def yX11_picture : MethodName := ⟨RX11, "picture", "(IIII)I"⟩
abbrev cX11_put : ByteArray := prog_13_method_20_code
def yX11_put : MethodName := ⟨RX11, "put", "(IIII)I"⟩
abbrev cX11_feed : ByteArray := prog_13_method_21_code
def yX11_feed : MethodName := ⟨RX11, "feed", "(IIIJI)I"⟩
abbrev cX11_folded : ByteArray := prog_13_method_22_code
def yX11_folded : MethodName := ⟨RX11, "folded", "(III)I"⟩
abbrev cX11_look : ByteArray := prog_13_method_23_code
def yX11_look : MethodName := ⟨RX11, "look", "(I)V"⟩
abbrev cX11_seenAt : ByteArray := prog_13_method_24_code
def yX11_seenAt : MethodName := ⟨RX11, "seenAt", "(III)I"⟩
abbrev cX11_at : ByteArray := prog_13_method_25_code
def yX11_at : MethodName := ⟨RX11, "at", "(IIII)I"⟩
abbrev cX11_about : ByteArray := prog_13_method_26_code
def yX11_about : MethodName := ⟨RX11, "about", "(II)I"⟩
abbrev cX11_convert : ByteArray := prog_13_method_27_code
def yX11_convert : MethodName := ⟨RX11, "convert", "(IIII)I"⟩
abbrev cX11_cut : ByteArray := prog_13_method_28_code
def yX11_cut : MethodName := ⟨RX11, "cut", "(IIIIIII)I"⟩
abbrev cX11_turn : ByteArray := prog_13_method_29_code
def yX11_turn : MethodName := ⟨RX11, "turn", "(III)I"⟩
abbrev cX11_unlike : ByteArray := prog_13_method_30_code
def yX11_unlike : MethodName := ⟨RX11, "unlike", "(II)I"⟩
abbrev cX11_isFilter : ByteArray := prog_13_method_31_code
def yX11_isFilter : MethodName := ⟨RX11, "isFilter", "(I)Z"⟩
abbrev cX11_highOf : ByteArray := prog_13_method_32_code
def yX11_highOf : MethodName := ⟨RX11, "highOf", "(III)I"⟩
abbrev cX11_filter : ByteArray := prog_13_method_33_code
def yX11_filter : MethodName := ⟨RX11, "filter", "(III)I"⟩
abbrev cX11_weight : ByteArray := prog_13_method_34_code
def yX11_weight : MethodName := ⟨RX11, "weight", "(III)I"⟩
abbrev cX11_floored : ByteArray := prog_13_method_35_code
def yX11_floored : MethodName := ⟨RX11, "floored", "(JJ)J"⟩
abbrev cX11_rounded : ByteArray := prog_13_method_36_code
def yX11_rounded : MethodName := ⟨RX11, "rounded", "(JJ)J"⟩
abbrev cX11_ranked : ByteArray := prog_13_method_37_code
def yX11_ranked : MethodName := ⟨RX11, "ranked", "(I)I"⟩
abbrev cX11_single : ByteArray := prog_13_method_38_code
def yX11_single : MethodName := ⟨RX11, "single", "(IIIII)I"⟩
abbrev cX11_giveTo : ByteArray := prog_13_method_39_code
def yX11_giveTo : MethodName := ⟨RX11, "giveTo", "(IIZ)V"⟩
abbrev cX11_goOn : ByteArray := prog_13_method_40_code
def yX11_goOn : MethodName := ⟨RX11, "goOn", "(III)I"⟩
abbrev cX11_apply : ByteArray := prog_13_method_41_code
def yX11_apply : MethodName := ⟨RX11, "apply", "(III)I"⟩
abbrev cX11_takes : ByteArray := prog_13_method_42_code
def yX11_takes : MethodName := ⟨RX11, "takes", "(I)I"⟩
abbrev cX11_isMask : ByteArray := prog_13_method_43_code
def yX11_isMask : MethodName := ⟨RX11, "isMask", "(I)Z"⟩
abbrev cX11_isSpot : ByteArray := prog_13_method_44_code
def yX11_isSpot : MethodName := ⟨RX11, "isSpot", "(II)Z"⟩
abbrev cX11_spot : ByteArray := prog_13_method_45_code
def yX11_spot : MethodName := ⟨RX11, "spot", "(III)I"⟩
abbrev cX11_mask : ByteArray := prog_13_method_46_code
def yX11_mask : MethodName := ⟨RX11, "mask", "(IIIZ)I"⟩
abbrev cX11_ons : ByteArray := prog_13_method_47_code
def yX11_ons : MethodName := ⟨RX11, "ons", "(I)I"⟩
abbrev cX11_maskOf : ByteArray := prog_13_method_48_code
def yX11_maskOf : MethodName := ⟨RX11, "maskOf", "(IIII)I"⟩
abbrev cX11_beside : ByteArray := prog_13_method_49_code
def yX11_beside : MethodName := ⟨RX11, "beside", "(IIZ)I"⟩
abbrev cX11_maskBy : ByteArray := prog_13_method_50_code
def yX11_maskBy : MethodName := ⟨RX11, "maskBy", "(III)I"⟩
abbrev cX11_isOn : ByteArray := prog_13_method_51_code
def yX11_isOn : MethodName := ⟨RX11, "isOn", "(III)I"⟩
abbrev cX11_fill : ByteArray := prog_13_method_52_code
def yX11_fill : MethodName := ⟨RX11, "fill", "(IIIII)I"⟩
abbrev cX11_isBeside : ByteArray := prog_13_method_53_code
def yX11_isBeside : MethodName := ⟨RX11, "isBeside", "(I)Z"⟩
abbrev cX11_carry : ByteArray := prog_13_method_54_code
def yX11_carry : MethodName := ⟨RX11, "carry", "(III)V"⟩
abbrev cX11_dither : ByteArray := prog_13_method_55_code
def yX11_dither : MethodName := ⟨RX11, "dither", "(II)I"⟩
abbrev cX11_even : ByteArray := prog_13_method_56_code
def yX11_even : MethodName := ⟨RX11, "even", "(I)I"⟩
abbrev cX11_upTo : ByteArray := prog_13_method_57_code
def yX11_upTo : MethodName := ⟨RX11, "upTo", "(I)I"⟩
abbrev cX11_between : ByteArray := prog_13_method_58_code
def yX11_between : MethodName := ⟨RX11, "between", "(II)I"⟩
abbrev cX11_energyAt : ByteArray := prog_13_method_59_code
def yX11_energyAt : MethodName := ⟨RX11, "energyAt", "(II)I"⟩
abbrev cX11_energy : ByteArray := prog_13_method_60_code
def yX11_energy : MethodName := ⟨RX11, "energy", "(III)I"⟩
abbrev cX11_leastIn : ByteArray := prog_13_method_61_code
def yX11_leastIn : MethodName := ⟨RX11, "leastIn", "(III)I"⟩
abbrev cX11_laySeam : ByteArray := prog_13_method_62_code
def yX11_laySeam : MethodName := ⟨RX11, "laySeam", "(I)I"⟩
abbrev cX11_seam : ByteArray := prog_13_method_63_code
def yX11_seam : MethodName := ⟨RX11, "seam", "(II)I"⟩
abbrev cX11_seamGoes : ByteArray := prog_13_method_64_code
def yX11_seamGoes : MethodName := ⟨RX11, "seamGoes", "(II)I"⟩
abbrev cX11_addRun : ByteArray := prog_13_method_65_code
def yX11_addRun : MethodName := ⟨RX11, "addRun", "(I)V"⟩
abbrev cX11_layRuns : ByteArray := prog_13_method_66_code
def yX11_layRuns : MethodName := ⟨RX11, "layRuns", "(I)V"⟩
abbrev cX11_runs : ByteArray := prog_13_method_67_code
def yX11_runs : MethodName := ⟨RX11, "runs", "(II)I"⟩
abbrev cX11_isByte : ByteArray := prog_13_method_68_code
def yX11_isByte : MethodName := ⟨RX11, "isByte", "(III)Z"⟩
abbrev cX11_fault : ByteArray := prog_13_method_69_code
def yX11_fault : MethodName := ⟨RX11, "fault", "()I"⟩
abbrev cX11_read : ByteArray := prog_13_method_70_code
def yX11_read : MethodName := ⟨RX11, "read", "(I)I"⟩
abbrev cX11_byteTo : ByteArray := prog_13_method_71_code
def yX11_byteTo : MethodName := ⟨RX11, "byteTo", "(I)I"⟩
abbrev cX11_count : ByteArray := prog_13_method_72_code
def yX11_count : MethodName := ⟨RX11, "count", "(I)I"⟩
def RJ6 : String := "java/lang/Integer"
abbrev cJ6_bitCount_0f7a4 : ByteArray := prog_14_method_49_code
def yJ6_bitCount_0f7a4 : MethodName := ⟨RJ6, "bitCount", "(I)I"⟩
def RJ9 : String := "java/lang/Math"
abbrev cJ9_floorDiv_f86c9 : ByteArray := prog_15_method_49_code
def yJ9_floorDiv_f86c9 : MethodName := ⟨RJ9, "floorDiv", "(JJ)J"⟩
abbrev cJ9_floorMod_7cf53 : ByteArray := prog_15_method_50_code
def yJ9_floorMod_7cf53 : MethodName := ⟨RJ9, "floorMod", "(II)I"⟩
abbrev cJ9_abs_0f7a4 : ByteArray := prog_15_method_59_code
def yJ9_abs_0f7a4 : MethodName := ⟨RJ9, "abs", "(I)I"⟩
abbrev cJ9_max_7cf53 : ByteArray := prog_15_method_65_code
def yJ9_max_7cf53 : MethodName := ⟨RJ9, "max", "(II)I"⟩
abbrev cJ9_max_f86c9 : ByteArray := prog_15_method_66_code
def yJ9_max_f86c9 : MethodName := ⟨RJ9, "max", "(JJ)J"⟩
abbrev cJ9_min_7cf53 : ByteArray := prog_15_method_69_code
def yJ9_min_7cf53 : MethodName := ⟨RJ9, "min", "(II)I"⟩
abbrev cJ9_min_f86c9 : ByteArray := prog_15_method_70_code
def yJ9_min_f86c9 : MethodName := ⟨RJ9, "min", "(JJ)J"⟩
def RJ10 : String := "java/lang/System"
def RJ7 : String := "java/util/Arrays"
abbrev cJ7_fill_53178 : ByteArray := prog_17_method_103_code
def yJ7_fill_53178 : MethodName := ⟨RJ7, "fill", "([II)V"⟩
def RL : String := "DarkRoomLaw"
abbrev cL_law : ByteArray := code
def yL_law : MethodName := ⟨RL, "law", "([I)Z"⟩
abbrev vwCl : List vw_C := [(RX0, TX0, 4), (RX1, TX1, 2), (RX2, TX2, 7), (RX3, TX3, 3), (RX4, TX4, 4), (RX5, TX5, 1), (RX6, TX6, 4), (RX7, TX7, 3), (RX8, TX8, 2), (RX9, TX9, 2), (RX10, TX10, 12), (RX11, TX11, 26)]
def gk_nest : List (String × Nat × MethodName × String) := [("DarkRoom", 31, ({ cls := "DarkRoom$Picture", name := "<init>", desc := "()V" } : Jvm.MethodName), "DarkRoom"), ("DarkRoom", 36, ({ cls := "DarkRoom$Mask", name := "<init>", desc := "()V" } : Jvm.MethodName), "DarkRoom"), ("DarkRoom$History", 27, ({ cls := "DarkRoom$Act", name := "<init>", desc := "()V" } : Jvm.MethodName), "DarkRoom"), ("DarkRoom$Act", 19, ({ cls := "DarkRoom$Picture", name := "<init>", desc := "()V" } : Jvm.MethodName), "DarkRoom"), ("DarkRoom$Act", 26, ({ cls := "DarkRoom$Mask", name := "<init>", desc := "()V" } : Jvm.MethodName), "DarkRoom"), ("DarkRoom$Bench", 21, ({ cls := "DarkRoom$Picture", name := "<init>", desc := "()V" } : Jvm.MethodName), "DarkRoom"), ("DarkRoom", 57, ({ cls := "DarkRoom$Flood", name := "<init>", desc := "()V" } : Jvm.MethodName), "DarkRoom"), ("DarkRoom", 64, ({ cls := "DarkRoom$Tones", name := "<init>", desc := "()V" } : Jvm.MethodName), "DarkRoom"), ("DarkRoom", 71, ({ cls := "DarkRoom$Seam", name := "<init>", desc := "()V" } : Jvm.MethodName), "DarkRoom"), ("DarkRoom", 78, ({ cls := "DarkRoom$Tape", name := "<init>", desc := "()V" } : Jvm.MethodName), "DarkRoom"), ("DarkRoom", 205, ({ cls := "DarkRoom$Bench", name := "develop", desc := "(LDarkRoom$Bench;LDarkRoom$Filter;LDarkRoom$Picture;LDarkRoom$Picture;[LDarkRoom$Mask;II)V" } : Jvm.MethodName), "DarkRoom"), ("DarkRoom$Bench", 102, ({ cls := "DarkRoom", name := "nearest", desc := "(JJ)J" } : Jvm.MethodName), "DarkRoom"), ("DarkRoom$Bench", 57, ({ cls := "DarkRoom", name := "isMask", desc := "(I)Z" } : Jvm.MethodName), "DarkRoom"), ("DarkRoom$Mask", 27, ({ cls := "DarkRoom", name := "isOfMask", desc := "(II)Z" } : Jvm.MethodName), "DarkRoom"), ("DarkRoom$Tones", 54, ({ cls := "DarkRoom", name := "nearest", desc := "(JJ)J" } : Jvm.MethodName), "DarkRoom"), ("DarkRoom$Tape", 43, ({ cls := "DarkRoom", name := "within", desc := "(III)Z" } : Jvm.MethodName), "DarkRoom"), ("DarkRoom$Tape", 47, ({ cls := "DarkRoom", name := "isSide", desc := "(I)Z" } : Jvm.MethodName), "DarkRoom")]
def gk_over : List String := ["DarkRoom$Picture", "DarkRoom$Mask", "DarkRoom$Filter", "DarkRoom$Act"]
