theorem gwp_0 : Cond.selects "DarkRoom" ⟨"DarkRoom", "keepPicture", "(I)V"⟩ ⟨"DarkRoom", "keepPicture", "(I)V"⟩ ∈ gk_good := gk_in 0 (by decide +kernel) (by decide +kernel)
theorem gwp_1 : Cond.selects "DarkRoom$History" ⟨"DarkRoom$History", "nth", "(I)LDarkRoom$Act;"⟩ ⟨"DarkRoom$History", "nth", "(I)LDarkRoom$Act;"⟩ ∈ gk_good := gk_in 1 (by decide +kernel) (by decide +kernel)
theorem gwp_2 : Cond.selects "DarkRoom" ⟨"DarkRoom", "isFilterTold", "(III)Z"⟩ ⟨"DarkRoom", "isFilterTold", "(III)Z"⟩ ∈ gk_good := gk_in 2 (by decide +kernel) (by decide +kernel)
theorem gwp_3 : Cond.selects "DarkRoom" ⟨"DarkRoom", "partOf", "(I)LDarkRoom$Filter;"⟩ ⟨"DarkRoom", "partOf", "(I)LDarkRoom$Filter;"⟩ ∈ gk_good := gk_in 3 (by decide +kernel) (by decide +kernel)
theorem gwp_4 : Cond.selects "DarkRoom$Bench" ⟨"DarkRoom$Bench", "developAround", "(LDarkRoom$Filter;LDarkRoom$Picture;LDarkRoom$Picture;I)V"⟩ ⟨"DarkRoom$Bench", "developAround", "(LDarkRoom$Filter;LDarkRoom$Picture;LDarkRoom$Picture;I)V"⟩ ∈ gk_good := gk_in 4 (by decide +kernel) (by decide +kernel)
theorem gwp_5 : Cond.selects "DarkRoom$Bench" ⟨"DarkRoom$Bench", "gather", "(LDarkRoom$Picture;III)V"⟩ ⟨"DarkRoom$Bench", "gather", "(LDarkRoom$Picture;III)V"⟩ ∈ gk_good := gk_in 5 (by decide +kernel) (by decide +kernel)
theorem gwp_6 : Cond.selects "DarkRoom$Bench" ⟨"DarkRoom$Bench", "weighed", "(LDarkRoom$Filter;)J"⟩ ⟨"DarkRoom$Bench", "weighed", "(LDarkRoom$Filter;)J"⟩ ∈ gk_good := gk_in 6 (by decide +kernel) (by decide +kernel)
theorem gwp_7 : Cond.selects "DarkRoom$Bench" ⟨"DarkRoom$Bench", "ranked", "(I)I"⟩ ⟨"DarkRoom$Bench", "ranked", "(I)I"⟩ ∈ gk_good := gk_in 7 (by decide +kernel) (by decide +kernel)
theorem gwp_8 : Cond.selects "DarkRoom" ⟨"DarkRoom", "keepMask", "(I)V"⟩ ⟨"DarkRoom", "keepMask", "(I)V"⟩ ∈ gk_good := gk_in 8 (by decide +kernel) (by decide +kernel)
theorem gwp_9 : Cond.selects "DarkRoom$Mask" ⟨"DarkRoom$Mask", "row", "(II)I"⟩ ⟨"DarkRoom$Mask", "row", "(II)I"⟩ ∈ gk_good := gk_in 9 (by decide +kernel) (by decide +kernel)
theorem gwp_10 : Cond.selects "DarkRoom$Flood" ⟨"DarkRoom$Flood", "reach", "(LDarkRoom$Picture;IIII)V"⟩ ⟨"DarkRoom$Flood", "reach", "(LDarkRoom$Picture;IIII)V"⟩ ∈ gk_good := gk_in 10 (by decide +kernel) (by decide +kernel)
theorem gwp_11 : Cond.selects "DarkRoom$Tones" ⟨"DarkRoom$Tones", "spreadAt", "(LDarkRoom$Picture;LDarkRoom$Picture;III)V"⟩ ⟨"DarkRoom$Tones", "spreadAt", "(LDarkRoom$Picture;LDarkRoom$Picture;III)V"⟩ ∈ gk_good := gk_in 11 (by decide +kernel) (by decide +kernel)
theorem gwp_12 : Cond.selects "DarkRoom$Tones" ⟨"DarkRoom$Tones", "carry", "(LDarkRoom$Picture;III)V"⟩ ⟨"DarkRoom$Tones", "carry", "(LDarkRoom$Picture;III)V"⟩ ∈ gk_good := gk_in 12 (by decide +kernel) (by decide +kernel)
theorem gwp_13 : Cond.selects "DarkRoom$Tones" ⟨"DarkRoom$Tones", "countUp", "(LDarkRoom$Picture;)V"⟩ ⟨"DarkRoom$Tones", "countUp", "(LDarkRoom$Picture;)V"⟩ ∈ gk_good := gk_in 13 (by decide +kernel) (by decide +kernel)
theorem gwp_14 : Cond.selects "DarkRoom$Tones" ⟨"DarkRoom$Tones", "howManyAtMost", "(I)I"⟩ ⟨"DarkRoom$Tones", "howManyAtMost", "(I)I"⟩ ∈ gk_good := gk_in 14 (by decide +kernel) (by decide +kernel)
theorem gwp_15 : Cond.selects "DarkRoom$Seam" ⟨"DarkRoom$Seam", "leastIn", "(LDarkRoom$Picture;III)I"⟩ ⟨"DarkRoom$Seam", "leastIn", "(LDarkRoom$Picture;III)I"⟩ ∈ gk_good := gk_in 15 (by decide +kernel) (by decide +kernel)
theorem gwp_16 : Cond.selects "DarkRoom$Seam" ⟨"DarkRoom$Seam", "cost", "(LDarkRoom$Picture;II)I"⟩ ⟨"DarkRoom$Seam", "cost", "(LDarkRoom$Picture;II)I"⟩ ∈ gk_good := gk_in 16 (by decide +kernel) (by decide +kernel)
theorem gwp_17 : Cond.selects "DarkRoom$Seam" ⟨"DarkRoom$Seam", "setCost", "(II)V"⟩ ⟨"DarkRoom$Seam", "setCost", "(II)V"⟩ ∈ gk_good := gk_in 17 (by decide +kernel) (by decide +kernel)
theorem gwp_18 : Cond.selects "DarkRoom$Picture" ⟨"DarkRoom$Picture", "isRun", "(II)Z"⟩ ⟨"DarkRoom$Picture", "isRun", "(II)Z"⟩ ∈ gk_good := gk_in 18 (by decide +kernel) (by decide +kernel)
theorem gwp_19 : Cond.selects "DarkRoom$Picture" ⟨"DarkRoom$Picture", "pixelByte", "(II)I"⟩ ⟨"DarkRoom$Picture", "pixelByte", "(II)I"⟩ ∈ gk_good := gk_in 19 (by decide +kernel) (by decide +kernel)
theorem gwp_20 : Cond.selects "DarkRoom$Tape" ⟨"DarkRoom$Tape", "soundHead", "()I"⟩ ⟨"DarkRoom$Tape", "soundHead", "()I"⟩ ∈ gk_good := gk_in 20 (by decide +kernel) (by decide +kernel)
theorem gwp_21 : Cond.selects "DarkRoom$Tape" ⟨"DarkRoom$Tape", "byteAt", "(I)I"⟩ ⟨"DarkRoom$Tape", "byteAt", "(I)I"⟩ ∈ gk_good := gk_in 21 (by decide +kernel) (by decide +kernel)
theorem gwp_22 : Cond.selects "DarkRoom" ⟨"DarkRoom", "exchange", "(LDarkRoom$Act;)V"⟩ ⟨"DarkRoom", "exchange", "(LDarkRoom$Act;)V"⟩ ∈ gk_good := gk_in 22 (by decide +kernel) (by decide +kernel)
theorem gwp_23 : Cond.selects "DarkRoom" ⟨"DarkRoom", "standingPictures", "()I"⟩ ⟨"DarkRoom", "standingPictures", "()I"⟩ ∈ gk_good := gk_in 23 (by decide +kernel) (by decide +kernel)
theorem gwp_24 : Cond.selects "DarkRoomModel" ⟨"DarkRoomModel", "load", "(I)V"⟩ ⟨"DarkRoomModel", "load", "(I)V"⟩ ∈ gk_good := gk_in 24 (by decide +kernel) (by decide +kernel)
theorem gwp_25 : Cond.selects "DarkRoomModel" ⟨"DarkRoomModel", "begin", "()V"⟩ ⟨"DarkRoomModel", "begin", "()V"⟩ ∈ gk_good := gk_in 25 (by decide +kernel) (by decide +kernel)
theorem gwp_26 : Cond.selects "DarkRoomModel" ⟨"DarkRoomModel", "become", "(IIII)V"⟩ ⟨"DarkRoomModel", "become", "(IIII)V"⟩ ∈ gk_good := gk_in 26 (by decide +kernel) (by decide +kernel)
theorem gwp_27 : Cond.selects "DarkRoomModel" ⟨"DarkRoomModel", "isThere", "(I)Z"⟩ ⟨"DarkRoomModel", "isThere", "(I)Z"⟩ ∈ gk_good := gk_in 27 (by decide +kernel) (by decide +kernel)
theorem gwp_28 : Cond.selects "DarkRoomModel" ⟨"DarkRoomModel", "isWithin", "(III)Z"⟩ ⟨"DarkRoomModel", "isWithin", "(III)Z"⟩ ∈ gk_good := gk_in 28 (by decide +kernel) (by decide +kernel)
theorem gwp_29 : Cond.selects "DarkRoomModel" ⟨"DarkRoomModel", "wide", "(I)I"⟩ ⟨"DarkRoomModel", "wide", "(I)I"⟩ ∈ gk_good := gk_in 29 (by decide +kernel) (by decide +kernel)
theorem gwp_30 : Cond.selects "DarkRoomModel" ⟨"DarkRoomModel", "tall", "(I)I"⟩ ⟨"DarkRoomModel", "tall", "(I)I"⟩ ∈ gk_good := gk_in 30 (by decide +kernel) (by decide +kernel)
theorem gwp_31 : Cond.selects "DarkRoomModel" ⟨"DarkRoomModel", "kindOf", "(I)I"⟩ ⟨"DarkRoomModel", "kindOf", "(I)I"⟩ ∈ gk_good := gk_in 31 (by decide +kernel) (by decide +kernel)
theorem gwp_32 : Cond.selects "DarkRoomModel" ⟨"DarkRoomModel", "pixelAt", "(III)I"⟩ ⟨"DarkRoomModel", "pixelAt", "(III)I"⟩ ∈ gk_good := gk_in 32 (by decide +kernel) (by decide +kernel)
theorem gwp_33 : Cond.selects "DarkRoomModel" ⟨"DarkRoomModel", "pixels", "(I)I"⟩ ⟨"DarkRoomModel", "pixels", "(I)I"⟩ ∈ gk_good := gk_in 33 (by decide +kernel) (by decide +kernel)
theorem gwp_34 : Cond.selects "DarkRoomModel" ⟨"DarkRoomModel", "look", "(I)V"⟩ ⟨"DarkRoomModel", "look", "(I)V"⟩ ∈ gk_good := gk_in 34 (by decide +kernel) (by decide +kernel)
theorem gwp_35 : Cond.selects "DarkRoomModel" ⟨"DarkRoomModel", "seenAt", "(III)I"⟩ ⟨"DarkRoomModel", "seenAt", "(III)I"⟩ ∈ gk_good := gk_in 35 (by decide +kernel) (by decide +kernel)
theorem gwp_36 : Cond.selects "DarkRoomModel" ⟨"DarkRoomModel", "isFilter", "(I)Z"⟩ ⟨"DarkRoomModel", "isFilter", "(I)Z"⟩ ∈ gk_good := gk_in 36 (by decide +kernel) (by decide +kernel)
theorem gwp_37 : Cond.selects "DarkRoomModel" ⟨"DarkRoomModel", "highOf", "(III)I"⟩ ⟨"DarkRoomModel", "highOf", "(III)I"⟩ ∈ gk_good := gk_in 37 (by decide +kernel) (by decide +kernel)
theorem gwp_38 : Cond.selects "DarkRoomModel" ⟨"DarkRoomModel", "giveTo", "(IIZ)V"⟩ ⟨"DarkRoomModel", "giveTo", "(IIZ)V"⟩ ∈ gk_good := gk_in 38 (by decide +kernel) (by decide +kernel)
theorem gwp_39 : Cond.selects "DarkRoomModel" ⟨"DarkRoomModel", "goOn", "(III)I"⟩ ⟨"DarkRoomModel", "goOn", "(III)I"⟩ ∈ gk_good := gk_in 39 (by decide +kernel) (by decide +kernel)
theorem gwp_40 : Cond.selects "DarkRoomModel" ⟨"DarkRoomModel", "single", "(IIIII)I"⟩ ⟨"DarkRoomModel", "single", "(IIIII)I"⟩ ∈ gk_good := gk_in 40 (by decide +kernel) (by decide +kernel)
theorem gwp_41 : Cond.selects "DarkRoomModel" ⟨"DarkRoomModel", "ranked", "(I)I"⟩ ⟨"DarkRoomModel", "ranked", "(I)I"⟩ ∈ gk_good := gk_in 41 (by decide +kernel) (by decide +kernel)
theorem gwp_42 : Cond.selects "DarkRoomModel" ⟨"DarkRoomModel", "takes", "(I)I"⟩ ⟨"DarkRoomModel", "takes", "(I)I"⟩ ∈ gk_good := gk_in 42 (by decide +kernel) (by decide +kernel)
theorem gwp_43 : Cond.selects "DarkRoomModel" ⟨"DarkRoomModel", "ons", "(I)I"⟩ ⟨"DarkRoomModel", "ons", "(I)I"⟩ ∈ gk_good := gk_in 43 (by decide +kernel) (by decide +kernel)
theorem gwp_44 : Cond.selects "DarkRoomModel" ⟨"DarkRoomModel", "beside", "(IIZ)I"⟩ ⟨"DarkRoomModel", "beside", "(IIZ)I"⟩ ∈ gk_good := gk_in 44 (by decide +kernel) (by decide +kernel)
theorem gwp_45 : Cond.selects "DarkRoomModel" ⟨"DarkRoomModel", "isBeside", "(I)Z"⟩ ⟨"DarkRoomModel", "isBeside", "(I)Z"⟩ ∈ gk_good := gk_in 45 (by decide +kernel) (by decide +kernel)
theorem gwp_46 : Cond.selects "DarkRoomModel" ⟨"DarkRoomModel", "carry", "(III)V"⟩ ⟨"DarkRoomModel", "carry", "(III)V"⟩ ∈ gk_good := gk_in 46 (by decide +kernel) (by decide +kernel)
theorem gwp_47 : Cond.selects "DarkRoomModel" ⟨"DarkRoomModel", "upTo", "(I)I"⟩ ⟨"DarkRoomModel", "upTo", "(I)I"⟩ ∈ gk_good := gk_in 47 (by decide +kernel) (by decide +kernel)
theorem gwp_48 : Cond.selects "DarkRoomModel" ⟨"DarkRoomModel", "energyAt", "(II)I"⟩ ⟨"DarkRoomModel", "energyAt", "(II)I"⟩ ∈ gk_good := gk_in 48 (by decide +kernel) (by decide +kernel)
theorem gwp_49 : Cond.selects "DarkRoomModel" ⟨"DarkRoomModel", "laySeam", "(I)I"⟩ ⟨"DarkRoomModel", "laySeam", "(I)I"⟩ ∈ gk_good := gk_in 49 (by decide +kernel) (by decide +kernel)
theorem gwp_50 : Cond.selects "DarkRoomModel" ⟨"DarkRoomModel", "leastIn", "(III)I"⟩ ⟨"DarkRoomModel", "leastIn", "(III)I"⟩ ∈ gk_good := gk_in 50 (by decide +kernel) (by decide +kernel)
theorem gwp_51 : Cond.selects "DarkRoomModel" ⟨"DarkRoomModel", "layRuns", "(I)V"⟩ ⟨"DarkRoomModel", "layRuns", "(I)V"⟩ ∈ gk_good := gk_in 51 (by decide +kernel) (by decide +kernel)
theorem gwp_52 : Cond.selects "DarkRoomModel" ⟨"DarkRoomModel", "addRun", "(I)V"⟩ ⟨"DarkRoomModel", "addRun", "(I)V"⟩ ∈ gk_good := gk_in 52 (by decide +kernel) (by decide +kernel)
theorem gwp_53 : Cond.selects "DarkRoomModel" ⟨"DarkRoomModel", "fault", "()I"⟩ ⟨"DarkRoomModel", "fault", "()I"⟩ ∈ gk_good := gk_in 53 (by decide +kernel) (by decide +kernel)
theorem gwp_54 : Cond.selects "DarkRoomModel" ⟨"DarkRoomModel", "isByte", "(III)Z"⟩ ⟨"DarkRoomModel", "isByte", "(III)Z"⟩ ∈ gk_good := gk_in 54 (by decide +kernel) (by decide +kernel)
theorem gw_0 : (Jvm.Cond.initialized "DarkRoomLaw") ∈ gk_good := gk_in 55 (by decide +kernel) (by decide +kernel)
theorem gw_1 : (Jvm.Cond.initialized "DarkRoom") ∈ gk_good := gk_in 56 (by decide +kernel) (by decide +kernel)
theorem gw_2 : (Jvm.Cond.initialized "DarkRoom$Picture") ∈ gk_good := gk_in 57 (by decide +kernel) (by decide +kernel)
theorem gw_3 : (Jvm.Cond.initialized "DarkRoom$Mask") ∈ gk_good := gk_in 58 (by decide +kernel) (by decide +kernel)
theorem gw_4 : (Jvm.Cond.initialized "DarkRoom$History") ∈ gk_good := gk_in 59 (by decide +kernel) (by decide +kernel)
theorem gw_5 : (Jvm.Cond.initialized "DarkRoom$Act") ∈ gk_good := gk_in 60 (by decide +kernel) (by decide +kernel)
theorem gw_6 : (Jvm.Cond.initialized "DarkRoom$Bench") ∈ gk_good := gk_in 61 (by decide +kernel) (by decide +kernel)
theorem gw_7 : (Jvm.Cond.initialized "DarkRoom$Flood") ∈ gk_good := gk_in 62 (by decide +kernel) (by decide +kernel)
theorem gw_8 : (Jvm.Cond.initialized "DarkRoom$Tones") ∈ gk_good := gk_in 63 (by decide +kernel) (by decide +kernel)
theorem gw_9 : (Jvm.Cond.initialized "DarkRoom$Seam") ∈ gk_good := gk_in 64 (by decide +kernel) (by decide +kernel)
theorem gw_10 : (Jvm.Cond.initialized "DarkRoom$Tape") ∈ gk_good := gk_in 65 (by decide +kernel) (by decide +kernel)
theorem gw_11 : (Jvm.Cond.initialized "DarkRoomModel") ∈ gk_good := gk_in 66 (by decide +kernel) (by decide +kernel)
theorem gw_12 : (Jvm.Cond.initialized "java/util/Arrays") ∈ gk_good := gk_in 67 (by decide +kernel) (by decide +kernel)
theorem gw_13 : (Jvm.Cond.initialized "java/lang/Math") ∈ gk_good := gk_in 68 (by decide +kernel) (by decide +kernel)
theorem gw_14 : (Jvm.Cond.initialized "java/lang/System") ∈ gk_good := gk_in 69 (by decide +kernel) (by decide +kernel)
theorem gw_15 : (Jvm.Cond.initialized "DarkRoom$Filter") ∈ gk_good := gk_in 70 (by decide +kernel) (by decide +kernel)
theorem gw_16 : (Jvm.Cond.initialized "java/lang/Integer") ∈ gk_good := gk_in 71 (by decide +kernel) (by decide +kernel)
theorem gw_17 : (Jvm.Cond.classLink "DarkRoomLaw" (7 : Nat) "DarkRoom") ∈ gk_good := gk_in 72 (by decide +kernel) (by decide +kernel)
theorem gw_18 : (Jvm.Cond.instantiable "DarkRoom" (12 : Nat)) ∈ gk_good := gk_in 73 (by decide +kernel) (by decide +kernel)
theorem gw_19 : (Jvm.Cond.methodLink "DarkRoomLaw" (9 : Nat) ({ cls := "DarkRoom", name := "<init>", desc := "()V" } : Jvm.MethodName)) ∈ gk_good := gk_in 74 (by decide +kernel) (by decide +kernel)
theorem gw_20 : (Jvm.Cond.instanceMethod ({ cls := "DarkRoom", name := "<init>", desc := "()V" } : Jvm.MethodName)) ∈ gk_good := gk_in 75 (by decide +kernel) (by decide +kernel)
theorem gw_21 : (Jvm.Cond.code ({ cls := "DarkRoom", name := "<init>", desc := "()V" } : Jvm.MethodName) prog_1_method_1_code (2 : Nat) (Option.none : Option Jvm.ClassFile.FieldType)) ∈ gk_good := gk_in 76 (by decide +kernel) (by decide +kernel)
theorem gw_22 : (Jvm.Cond.methodLink "DarkRoom" (1 : Nat) ({ cls := "java/lang/Object", name := "<init>", desc := "()V" } : Jvm.MethodName)) ∈ gk_good := gk_in 77 (by decide +kernel) (by decide +kernel)
theorem gw_23 : (Jvm.Cond.instanceMethod ({ cls := "java/lang/Object", name := "<init>", desc := "()V" } : Jvm.MethodName)) ∈ gk_good := gk_in 78 (by decide +kernel) (by decide +kernel)
theorem gw_24 : (Jvm.Cond.code ({ cls := "java/lang/Object", name := "<init>", desc := "()V" } : Jvm.MethodName) object_method_1_code (1 : Nat) (Option.none : Option Jvm.ClassFile.FieldType)) ∈ gk_good := gk_in 79 (by decide +kernel) (by decide +kernel)
theorem gw_25 : (Jvm.Cond.classLink "DarkRoom" (9 : Nat) "DarkRoom$Picture") ∈ gk_good := gk_in 80 (by decide +kernel) (by decide +kernel)
theorem gw_27 : (Jvm.Cond.classLink "DarkRoom" (15 : Nat) "DarkRoom$Mask") ∈ gk_good := gk_in 82 (by decide +kernel) (by decide +kernel)
theorem gw_29 : (Jvm.Cond.classLink "DarkRoom" (21 : Nat) "DarkRoom$Filter") ∈ gk_good := gk_in 84 (by decide +kernel) (by decide +kernel)
theorem gw_31 : (Jvm.Cond.instantiable "DarkRoom$Picture" (4 : Nat)) ∈ gk_good := gk_in 86 (by decide +kernel) (by decide +kernel)
theorem gw_33 : (Jvm.Cond.instanceMethod ({ cls := "DarkRoom$Picture", name := "<init>", desc := "()V" } : Jvm.MethodName)) ∈ gk_good := gk_in 88 (by decide +kernel) (by decide +kernel)
theorem gw_34 : (Jvm.Cond.code ({ cls := "DarkRoom$Picture", name := "<init>", desc := "()V" } : Jvm.MethodName) prog_8_method_1_code (1 : Nat) (Option.none : Option Jvm.ClassFile.FieldType)) ∈ gk_good := gk_in 89 (by decide +kernel) (by decide +kernel)
theorem gw_35 : (Jvm.Cond.methodLink "DarkRoom$Picture" (3 : Nat) ({ cls := "java/lang/Object", name := "<init>", desc := "()V" } : Jvm.MethodName)) ∈ gk_good := gk_in 90 (by decide +kernel) (by decide +kernel)
theorem gw_36 : (Jvm.Cond.fieldLink "DarkRoom$Picture" (9 : Nat) "DarkRoom$Picture" "kind" "I") ∈ gk_good := gk_in 91 (by decide +kernel) (by decide +kernel)
theorem gw_37 : (Jvm.Cond.fieldLink "DarkRoom$Tones" (18 : Nat) "DarkRoom$Picture" "kind" "I") ∈ gk_good := gk_in 92 (by decide +kernel) (by decide +kernel)
theorem gw_38 : (Jvm.Cond.fieldLink "DarkRoom$Bench" (22 : Nat) "DarkRoom$Picture" "kind" "I") ∈ gk_good := gk_in 93 (by decide +kernel) (by decide +kernel)
theorem gw_39 : (Jvm.Cond.fieldLink "DarkRoom" (133 : Nat) "DarkRoom$Picture" "kind" "I") ∈ gk_good := gk_in 94 (by decide +kernel) (by decide +kernel)
theorem gw_40 : (Jvm.Cond.fieldLink "DarkRoom$Picture" (15 : Nat) "DarkRoom$Picture" "width" "I") ∈ gk_good := gk_in 95 (by decide +kernel) (by decide +kernel)
theorem gw_41 : (Jvm.Cond.fieldLink "DarkRoom$Tones" (24 : Nat) "DarkRoom$Picture" "width" "I") ∈ gk_good := gk_in 96 (by decide +kernel) (by decide +kernel)
theorem gw_42 : (Jvm.Cond.fieldLink "DarkRoom$Bench" (26 : Nat) "DarkRoom$Picture" "width" "I") ∈ gk_good := gk_in 97 (by decide +kernel) (by decide +kernel)
theorem gw_43 : (Jvm.Cond.fieldLink "DarkRoom$Seam" (27 : Nat) "DarkRoom$Picture" "width" "I") ∈ gk_good := gk_in 98 (by decide +kernel) (by decide +kernel)
theorem gw_44 : (Jvm.Cond.fieldLink "DarkRoom$Flood" (37 : Nat) "DarkRoom$Picture" "width" "I") ∈ gk_good := gk_in 99 (by decide +kernel) (by decide +kernel)
theorem gw_45 : (Jvm.Cond.fieldLink "DarkRoom" (152 : Nat) "DarkRoom$Picture" "width" "I") ∈ gk_good := gk_in 100 (by decide +kernel) (by decide +kernel)
theorem gw_46 : (Jvm.Cond.fieldLink "DarkRoom$Picture" (18 : Nat) "DarkRoom$Picture" "height" "I") ∈ gk_good := gk_in 101 (by decide +kernel) (by decide +kernel)
theorem gw_47 : (Jvm.Cond.fieldLink "DarkRoom$Tones" (27 : Nat) "DarkRoom$Picture" "height" "I") ∈ gk_good := gk_in 102 (by decide +kernel) (by decide +kernel)
theorem gw_48 : (Jvm.Cond.fieldLink "DarkRoom$Bench" (29 : Nat) "DarkRoom$Picture" "height" "I") ∈ gk_good := gk_in 103 (by decide +kernel) (by decide +kernel)
theorem gw_49 : (Jvm.Cond.fieldLink "DarkRoom$Seam" (22 : Nat) "DarkRoom$Picture" "height" "I") ∈ gk_good := gk_in 104 (by decide +kernel) (by decide +kernel)
theorem gw_50 : (Jvm.Cond.fieldLink "DarkRoom" (155 : Nat) "DarkRoom$Picture" "height" "I") ∈ gk_good := gk_in 105 (by decide +kernel) (by decide +kernel)
theorem gw_51 : (Jvm.Cond.fieldLink "DarkRoom$Picture" (21 : Nat) "DarkRoom$Picture" "pixels" "[I") ∈ gk_good := gk_in 106 (by decide +kernel) (by decide +kernel)
theorem gw_61 : (Jvm.Cond.arrayClass Jvm.ClassFile.FieldType.int) ∈ gk_good := gk_in 116 (by decide +kernel) (by decide +kernel)
theorem gw_62 : (Jvm.Cond.instantiable "DarkRoom$Mask" (1 : Nat)) ∈ gk_good := gk_in 117 (by decide +kernel) (by decide +kernel)
theorem gw_64 : (Jvm.Cond.instanceMethod ({ cls := "DarkRoom$Mask", name := "<init>", desc := "()V" } : Jvm.MethodName)) ∈ gk_good := gk_in 119 (by decide +kernel) (by decide +kernel)
theorem gw_65 : (Jvm.Cond.code ({ cls := "DarkRoom$Mask", name := "<init>", desc := "()V" } : Jvm.MethodName) prog_7_method_1_code (1 : Nat) (Option.none : Option Jvm.ClassFile.FieldType)) ∈ gk_good := gk_in 120 (by decide +kernel) (by decide +kernel)
theorem gw_66 : (Jvm.Cond.methodLink "DarkRoom$Mask" (3 : Nat) ({ cls := "java/lang/Object", name := "<init>", desc := "()V" } : Jvm.MethodName)) ∈ gk_good := gk_in 121 (by decide +kernel) (by decide +kernel)
theorem gw_67 : (Jvm.Cond.fieldLink "DarkRoom$Mask" (9 : Nat) "DarkRoom$Mask" "rows" "[I") ∈ gk_good := gk_in 122 (by decide +kernel) (by decide +kernel)
theorem gw_71 : (Jvm.Cond.classLink "DarkRoom" (41 : Nat) "DarkRoom$History") ∈ gk_good := gk_in 126 (by decide +kernel) (by decide +kernel)
theorem gw_72 : (Jvm.Cond.instantiable "DarkRoom$History" (4 : Nat)) ∈ gk_good := gk_in 127 (by decide +kernel) (by decide +kernel)
theorem gw_73 : (Jvm.Cond.methodLink "DarkRoom" (43 : Nat) ({ cls := "DarkRoom$History", name := "<init>", desc := "()V" } : Jvm.MethodName)) ∈ gk_good := gk_in 128 (by decide +kernel) (by decide +kernel)
theorem gw_74 : (Jvm.Cond.instanceMethod ({ cls := "DarkRoom$History", name := "<init>", desc := "()V" } : Jvm.MethodName)) ∈ gk_good := gk_in 129 (by decide +kernel) (by decide +kernel)
theorem gw_75 : (Jvm.Cond.code ({ cls := "DarkRoom$History", name := "<init>", desc := "()V" } : Jvm.MethodName) prog_6_method_1_code (2 : Nat) (Option.none : Option Jvm.ClassFile.FieldType)) ∈ gk_good := gk_in 130 (by decide +kernel) (by decide +kernel)
theorem gw_76 : (Jvm.Cond.methodLink "DarkRoom$History" (3 : Nat) ({ cls := "java/lang/Object", name := "<init>", desc := "()V" } : Jvm.MethodName)) ∈ gk_good := gk_in 131 (by decide +kernel) (by decide +kernel)
theorem gw_77 : (Jvm.Cond.classLink "DarkRoom$History" (9 : Nat) "DarkRoom$Act") ∈ gk_good := gk_in 132 (by decide +kernel) (by decide +kernel)
theorem gw_79 : (Jvm.Cond.instantiable "DarkRoom$Act" (4 : Nat)) ∈ gk_good := gk_in 134 (by decide +kernel) (by decide +kernel)
theorem gw_81 : (Jvm.Cond.instanceMethod ({ cls := "DarkRoom$Act", name := "<init>", desc := "()V" } : Jvm.MethodName)) ∈ gk_good := gk_in 136 (by decide +kernel) (by decide +kernel)
theorem gw_82 : (Jvm.Cond.code ({ cls := "DarkRoom$Act", name := "<init>", desc := "()V" } : Jvm.MethodName) prog_2_method_1_code (1 : Nat) (Option.none : Option Jvm.ClassFile.FieldType)) ∈ gk_good := gk_in 137 (by decide +kernel) (by decide +kernel)
theorem gw_83 : (Jvm.Cond.methodLink "DarkRoom$Act" (1 : Nat) ({ cls := "java/lang/Object", name := "<init>", desc := "()V" } : Jvm.MethodName)) ∈ gk_good := gk_in 138 (by decide +kernel) (by decide +kernel)
theorem gw_84 : (Jvm.Cond.classLink "DarkRoom$Act" (17 : Nat) "DarkRoom$Picture") ∈ gk_good := gk_in 139 (by decide +kernel) (by decide +kernel)
theorem gw_86 : (Jvm.Cond.classLink "DarkRoom$Act" (24 : Nat) "DarkRoom$Mask") ∈ gk_good := gk_in 141 (by decide +kernel) (by decide +kernel)
theorem gw_88 : (Jvm.Cond.fieldLink "DarkRoom$Act" (7 : Nat) "DarkRoom$Act" "ofMask" "Z") ∈ gk_good := gk_in 143 (by decide +kernel) (by decide +kernel)
theorem gw_89 : (Jvm.Cond.fieldLink "DarkRoom" (308 : Nat) "DarkRoom$Act" "ofMask" "Z") ∈ gk_good := gk_in 144 (by decide +kernel) (by decide +kernel)
theorem gw_90 : (Jvm.Cond.fieldLink "DarkRoom$Act" (13 : Nat) "DarkRoom$Act" "slot" "I") ∈ gk_good := gk_in 145 (by decide +kernel) (by decide +kernel)
theorem gw_91 : (Jvm.Cond.fieldLink "DarkRoom" (314 : Nat) "DarkRoom$Act" "slot" "I") ∈ gk_good := gk_in 146 (by decide +kernel) (by decide +kernel)
theorem gw_92 : (Jvm.Cond.fieldLink "DarkRoom$Act" (20 : Nat) "DarkRoom$Act" "picture" "LDarkRoom$Picture;") ∈ gk_good := gk_in 147 (by decide +kernel) (by decide +kernel)
theorem gw_93 : (Jvm.Cond.fieldLink "DarkRoom" (317 : Nat) "DarkRoom$Act" "picture" "LDarkRoom$Picture;") ∈ gk_good := gk_in 148 (by decide +kernel) (by decide +kernel)
theorem gw_94 : (Jvm.Cond.fieldLink "DarkRoom$Act" (27 : Nat) "DarkRoom$Act" "mask" "LDarkRoom$Mask;") ∈ gk_good := gk_in 149 (by decide +kernel) (by decide +kernel)
theorem gw_95 : (Jvm.Cond.fieldLink "DarkRoom" (320 : Nat) "DarkRoom$Act" "mask" "LDarkRoom$Mask;") ∈ gk_good := gk_in 150 (by decide +kernel) (by decide +kernel)
theorem gw_105 : (Jvm.Cond.fieldLink "DarkRoom$History" (11 : Nat) "DarkRoom$History" "acts" "[LDarkRoom$Act;") ∈ gk_good := gk_in 160 (by decide +kernel) (by decide +kernel)
theorem gw_106 : (Jvm.Cond.fieldLink "DarkRoom$History" (17 : Nat) "DarkRoom$History" "first" "I") ∈ gk_good := gk_in 161 (by decide +kernel) (by decide +kernel)
theorem gw_107 : (Jvm.Cond.fieldLink "DarkRoom$History" (21 : Nat) "DarkRoom$History" "done" "I") ∈ gk_good := gk_in 162 (by decide +kernel) (by decide +kernel)
theorem gw_108 : (Jvm.Cond.fieldLink "DarkRoom" (291 : Nat) "DarkRoom$History" "done" "I") ∈ gk_good := gk_in 163 (by decide +kernel) (by decide +kernel)
theorem gw_109 : (Jvm.Cond.fieldLink "DarkRoom$History" (24 : Nat) "DarkRoom$History" "undone" "I") ∈ gk_good := gk_in 164 (by decide +kernel) (by decide +kernel)
theorem gw_110 : (Jvm.Cond.fieldLink "DarkRoom" (294 : Nat) "DarkRoom$History" "undone" "I") ∈ gk_good := gk_in 165 (by decide +kernel) (by decide +kernel)
theorem gw_120 : (Jvm.Cond.classLink "DarkRoom" (48 : Nat) "DarkRoom$Bench") ∈ gk_good := gk_in 175 (by decide +kernel) (by decide +kernel)
theorem gw_121 : (Jvm.Cond.instantiable "DarkRoom$Bench" (2 : Nat)) ∈ gk_good := gk_in 176 (by decide +kernel) (by decide +kernel)
theorem gw_122 : (Jvm.Cond.methodLink "DarkRoom" (50 : Nat) ({ cls := "DarkRoom$Bench", name := "<init>", desc := "()V" } : Jvm.MethodName)) ∈ gk_good := gk_in 177 (by decide +kernel) (by decide +kernel)
theorem gw_123 : (Jvm.Cond.instanceMethod ({ cls := "DarkRoom$Bench", name := "<init>", desc := "()V" } : Jvm.MethodName)) ∈ gk_good := gk_in 178 (by decide +kernel) (by decide +kernel)
theorem gw_124 : (Jvm.Cond.code ({ cls := "DarkRoom$Bench", name := "<init>", desc := "()V" } : Jvm.MethodName) prog_3_method_1_code (2 : Nat) (Option.none : Option Jvm.ClassFile.FieldType)) ∈ gk_good := gk_in 179 (by decide +kernel) (by decide +kernel)
theorem gw_125 : (Jvm.Cond.methodLink "DarkRoom$Bench" (3 : Nat) ({ cls := "java/lang/Object", name := "<init>", desc := "()V" } : Jvm.MethodName)) ∈ gk_good := gk_in 180 (by decide +kernel) (by decide +kernel)
theorem gw_126 : (Jvm.Cond.classLink "DarkRoom$Bench" (9 : Nat) "DarkRoom$Picture") ∈ gk_good := gk_in 181 (by decide +kernel) (by decide +kernel)
theorem gw_128 : (Jvm.Cond.fieldLink "DarkRoom$Bench" (11 : Nat) "DarkRoom$Bench" "between" "[LDarkRoom$Picture;") ∈ gk_good := gk_in 183 (by decide +kernel) (by decide +kernel)
theorem gw_129 : (Jvm.Cond.fieldLink "DarkRoom$Bench" (17 : Nat) "DarkRoom$Bench" "nine" "[I") ∈ gk_good := gk_in 184 (by decide +kernel) (by decide +kernel)
theorem gw_135 : (Jvm.Cond.classLink "DarkRoom" (55 : Nat) "DarkRoom$Flood") ∈ gk_good := gk_in 190 (by decide +kernel) (by decide +kernel)
theorem gw_136 : (Jvm.Cond.instantiable "DarkRoom$Flood" (3 : Nat)) ∈ gk_good := gk_in 191 (by decide +kernel) (by decide +kernel)
theorem gw_138 : (Jvm.Cond.instanceMethod ({ cls := "DarkRoom$Flood", name := "<init>", desc := "()V" } : Jvm.MethodName)) ∈ gk_good := gk_in 193 (by decide +kernel) (by decide +kernel)
theorem gw_139 : (Jvm.Cond.code ({ cls := "DarkRoom$Flood", name := "<init>", desc := "()V" } : Jvm.MethodName) prog_5_method_1_code (1 : Nat) (Option.none : Option Jvm.ClassFile.FieldType)) ∈ gk_good := gk_in 194 (by decide +kernel) (by decide +kernel)
theorem gw_140 : (Jvm.Cond.methodLink "DarkRoom$Flood" (3 : Nat) ({ cls := "java/lang/Object", name := "<init>", desc := "()V" } : Jvm.MethodName)) ∈ gk_good := gk_in 195 (by decide +kernel) (by decide +kernel)
theorem gw_141 : (Jvm.Cond.fieldLink "DarkRoom$Flood" (9 : Nat) "DarkRoom$Flood" "places" "[I") ∈ gk_good := gk_in 196 (by decide +kernel) (by decide +kernel)
theorem gw_142 : (Jvm.Cond.fieldLink "DarkRoom$Flood" (15 : Nat) "DarkRoom$Flood" "wet" "[Z") ∈ gk_good := gk_in 197 (by decide +kernel) (by decide +kernel)
theorem gw_143 : (Jvm.Cond.fieldLink "DarkRoom$Flood" (19 : Nat) "DarkRoom$Flood" "reached" "I") ∈ gk_good := gk_in 198 (by decide +kernel) (by decide +kernel)
theorem gw_151 : (Jvm.Cond.arrayClass Jvm.ClassFile.FieldType.boolean) ∈ gk_good := gk_in 206 (by decide +kernel) (by decide +kernel)
theorem gw_152 : (Jvm.Cond.classLink "DarkRoom" (62 : Nat) "DarkRoom$Tones") ∈ gk_good := gk_in 207 (by decide +kernel) (by decide +kernel)
theorem gw_153 : (Jvm.Cond.instantiable "DarkRoom$Tones" (2 : Nat)) ∈ gk_good := gk_in 208 (by decide +kernel) (by decide +kernel)
theorem gw_155 : (Jvm.Cond.instanceMethod ({ cls := "DarkRoom$Tones", name := "<init>", desc := "()V" } : Jvm.MethodName)) ∈ gk_good := gk_in 210 (by decide +kernel) (by decide +kernel)
theorem gw_156 : (Jvm.Cond.code ({ cls := "DarkRoom$Tones", name := "<init>", desc := "()V" } : Jvm.MethodName) prog_11_method_1_code (1 : Nat) (Option.none : Option Jvm.ClassFile.FieldType)) ∈ gk_good := gk_in 211 (by decide +kernel) (by decide +kernel)
theorem gw_157 : (Jvm.Cond.methodLink "DarkRoom$Tones" (3 : Nat) ({ cls := "java/lang/Object", name := "<init>", desc := "()V" } : Jvm.MethodName)) ∈ gk_good := gk_in 212 (by decide +kernel) (by decide +kernel)
theorem gw_158 : (Jvm.Cond.fieldLink "DarkRoom$Tones" (9 : Nat) "DarkRoom$Tones" "carried" "[I") ∈ gk_good := gk_in 213 (by decide +kernel) (by decide +kernel)
theorem gw_159 : (Jvm.Cond.fieldLink "DarkRoom$Tones" (15 : Nat) "DarkRoom$Tones" "atMost" "[I") ∈ gk_good := gk_in 214 (by decide +kernel) (by decide +kernel)
theorem gw_165 : (Jvm.Cond.classLink "DarkRoom" (69 : Nat) "DarkRoom$Seam") ∈ gk_good := gk_in 220 (by decide +kernel) (by decide +kernel)
theorem gw_166 : (Jvm.Cond.instantiable "DarkRoom$Seam" (3 : Nat)) ∈ gk_good := gk_in 221 (by decide +kernel) (by decide +kernel)
theorem gw_168 : (Jvm.Cond.instanceMethod ({ cls := "DarkRoom$Seam", name := "<init>", desc := "()V" } : Jvm.MethodName)) ∈ gk_good := gk_in 223 (by decide +kernel) (by decide +kernel)
theorem gw_169 : (Jvm.Cond.code ({ cls := "DarkRoom$Seam", name := "<init>", desc := "()V" } : Jvm.MethodName) prog_9_method_1_code (1 : Nat) (Option.none : Option Jvm.ClassFile.FieldType)) ∈ gk_good := gk_in 224 (by decide +kernel) (by decide +kernel)
theorem gw_170 : (Jvm.Cond.methodLink "DarkRoom$Seam" (3 : Nat) ({ cls := "java/lang/Object", name := "<init>", desc := "()V" } : Jvm.MethodName)) ∈ gk_good := gk_in 225 (by decide +kernel) (by decide +kernel)
theorem gw_171 : (Jvm.Cond.fieldLink "DarkRoom$Seam" (9 : Nat) "DarkRoom$Seam" "costs" "[I") ∈ gk_good := gk_in 226 (by decide +kernel) (by decide +kernel)
theorem gw_172 : (Jvm.Cond.fieldLink "DarkRoom$Seam" (15 : Nat) "DarkRoom$Seam" "columns" "[I") ∈ gk_good := gk_in 227 (by decide +kernel) (by decide +kernel)
theorem gw_173 : (Jvm.Cond.fieldLink "DarkRoom$Seam" (18 : Nat) "DarkRoom$Seam" "total" "I") ∈ gk_good := gk_in 228 (by decide +kernel) (by decide +kernel)
theorem gw_174 : (Jvm.Cond.fieldLink "DarkRoom" (259 : Nat) "DarkRoom$Seam" "total" "I") ∈ gk_good := gk_in 229 (by decide +kernel) (by decide +kernel)
theorem gw_182 : (Jvm.Cond.classLink "DarkRoom" (76 : Nat) "DarkRoom$Tape") ∈ gk_good := gk_in 237 (by decide +kernel) (by decide +kernel)
theorem gw_183 : (Jvm.Cond.instantiable "DarkRoom$Tape" (2 : Nat)) ∈ gk_good := gk_in 238 (by decide +kernel) (by decide +kernel)
theorem gw_185 : (Jvm.Cond.instanceMethod ({ cls := "DarkRoom$Tape", name := "<init>", desc := "()V" } : Jvm.MethodName)) ∈ gk_good := gk_in 240 (by decide +kernel) (by decide +kernel)
theorem gw_186 : (Jvm.Cond.code ({ cls := "DarkRoom$Tape", name := "<init>", desc := "()V" } : Jvm.MethodName) prog_10_method_1_code (1 : Nat) (Option.none : Option Jvm.ClassFile.FieldType)) ∈ gk_good := gk_in 241 (by decide +kernel) (by decide +kernel)
theorem gw_187 : (Jvm.Cond.methodLink "DarkRoom$Tape" (3 : Nat) ({ cls := "java/lang/Object", name := "<init>", desc := "()V" } : Jvm.MethodName)) ∈ gk_good := gk_in 242 (by decide +kernel) (by decide +kernel)
theorem gw_188 : (Jvm.Cond.fieldLink "DarkRoom$Tape" (9 : Nat) "DarkRoom$Tape" "bytes" "[I") ∈ gk_good := gk_in 243 (by decide +kernel) (by decide +kernel)
theorem gw_189 : (Jvm.Cond.fieldLink "DarkRoom$Tape" (15 : Nat) "DarkRoom$Tape" "length" "I") ∈ gk_good := gk_in 244 (by decide +kernel) (by decide +kernel)
theorem gw_190 : (Jvm.Cond.fieldLink "DarkRoom" (271 : Nat) "DarkRoom$Tape" "length" "I") ∈ gk_good := gk_in 245 (by decide +kernel) (by decide +kernel)
theorem gw_196 : (Jvm.Cond.fieldLink "DarkRoom" (11 : Nat) "DarkRoom" "pictures" "[LDarkRoom$Picture;") ∈ gk_good := gk_in 251 (by decide +kernel) (by decide +kernel)
theorem gw_197 : (Jvm.Cond.fieldLink "DarkRoom" (17 : Nat) "DarkRoom" "masks" "[LDarkRoom$Mask;") ∈ gk_good := gk_in 252 (by decide +kernel) (by decide +kernel)
theorem gw_198 : (Jvm.Cond.fieldLink "DarkRoom" (23 : Nat) "DarkRoom" "filters" "[LDarkRoom$Filter;") ∈ gk_good := gk_in 253 (by decide +kernel) (by decide +kernel)
theorem gw_199 : (Jvm.Cond.fieldLink "DarkRoom" (27 : Nat) "DarkRoom" "filterCount" "I") ∈ gk_good := gk_in 254 (by decide +kernel) (by decide +kernel)
theorem gw_200 : (Jvm.Cond.fieldLink "DarkRoom" (32 : Nat) "DarkRoom" "tray" "LDarkRoom$Picture;") ∈ gk_good := gk_in 255 (by decide +kernel) (by decide +kernel)
theorem gw_201 : (Jvm.Cond.fieldLink "DarkRoom" (37 : Nat) "DarkRoom" "maskTray" "LDarkRoom$Mask;") ∈ gk_good := gk_in 256 (by decide +kernel) (by decide +kernel)
theorem gw_202 : (Jvm.Cond.fieldLink "DarkRoom" (44 : Nat) "DarkRoom" "history" "LDarkRoom$History;") ∈ gk_good := gk_in 257 (by decide +kernel) (by decide +kernel)
theorem gw_203 : (Jvm.Cond.fieldLink "DarkRoom" (51 : Nat) "DarkRoom" "bench" "LDarkRoom$Bench;") ∈ gk_good := gk_in 258 (by decide +kernel) (by decide +kernel)
theorem gw_204 : (Jvm.Cond.fieldLink "DarkRoom" (58 : Nat) "DarkRoom" "flood" "LDarkRoom$Flood;") ∈ gk_good := gk_in 259 (by decide +kernel) (by decide +kernel)
theorem gw_205 : (Jvm.Cond.fieldLink "DarkRoom" (65 : Nat) "DarkRoom" "tones" "LDarkRoom$Tones;") ∈ gk_good := gk_in 260 (by decide +kernel) (by decide +kernel)
theorem gw_206 : (Jvm.Cond.fieldLink "DarkRoom" (72 : Nat) "DarkRoom" "leastSeam" "LDarkRoom$Seam;") ∈ gk_good := gk_in 261 (by decide +kernel) (by decide +kernel)
theorem gw_207 : (Jvm.Cond.fieldLink "DarkRoom" (79 : Nat) "DarkRoom" "tape" "LDarkRoom$Tape;") ∈ gk_good := gk_in 262 (by decide +kernel) (by decide +kernel)
theorem gw_233 : (Jvm.Cond.methodLink "DarkRoomLaw" (13 : Nat) ({ cls := "DarkRoom", name := "picture", desc := "(IIII)I" } : Jvm.MethodName)) ∈ gk_good := gk_in 288 (by decide +kernel) (by decide +kernel)
theorem gw_234 : (Jvm.Cond.instanceMethod ({ cls := "DarkRoom", name := "picture", desc := "(IIII)I" } : Jvm.MethodName)) ∈ gk_good := gk_in 289 (by decide +kernel) (by decide +kernel)
theorem gw_235 : (Jvm.Cond.selects "DarkRoom" ({ cls := "DarkRoom", name := "picture", desc := "(IIII)I" } : Jvm.MethodName) ({ cls := "DarkRoom", name := "picture", desc := "(IIII)I" } : Jvm.MethodName)) ∈ gk_good := gk_in 290 (by decide +kernel) (by decide +kernel)
theorem gw_236 : (Jvm.Cond.code ({ cls := "DarkRoom", name := "picture", desc := "(IIII)I" } : Jvm.MethodName) prog_1_method_2_code (5 : Nat) (Option.some Jvm.ClassFile.FieldType.int)) ∈ gk_good := gk_in 291 (by decide +kernel) (by decide +kernel)
theorem gw_237 : (Jvm.Cond.methodLink "DarkRoom" (83 : Nat) ({ cls := "DarkRoom", name := "isPicture", desc := "(I)Z" } : Jvm.MethodName)) ∈ gk_good := gk_in 292 (by decide +kernel) (by decide +kernel)
theorem gw_238 : (Jvm.Cond.static ({ cls := "DarkRoom", name := "isPicture", desc := "(I)Z" } : Jvm.MethodName)) ∈ gk_good := gk_in 293 (by decide +kernel) (by decide +kernel)
theorem gw_239 : (Jvm.Cond.code ({ cls := "DarkRoom", name := "isPicture", desc := "(I)Z" } : Jvm.MethodName) prog_1_method_31_code (1 : Nat) (Option.some Jvm.ClassFile.FieldType.boolean)) ∈ gk_good := gk_in 294 (by decide +kernel) (by decide +kernel)
theorem gw_240 : (Jvm.Cond.methodLink "DarkRoom" (87 : Nat) ({ cls := "DarkRoom", name := "within", desc := "(III)Z" } : Jvm.MethodName)) ∈ gk_good := gk_in 295 (by decide +kernel) (by decide +kernel)
theorem gw_241 : (Jvm.Cond.static ({ cls := "DarkRoom", name := "within", desc := "(III)Z" } : Jvm.MethodName)) ∈ gk_good := gk_in 296 (by decide +kernel) (by decide +kernel)
theorem gw_242 : (Jvm.Cond.code ({ cls := "DarkRoom", name := "within", desc := "(III)Z" } : Jvm.MethodName) prog_1_method_30_code (3 : Nat) (Option.some Jvm.ClassFile.FieldType.boolean)) ∈ gk_good := gk_in 297 (by decide +kernel) (by decide +kernel)
theorem gw_243 : (Jvm.Cond.constant "DarkRoom" (91 : Nat) (-100001 : Int32)) ∈ gk_good := gk_in 298 (by decide +kernel) (by decide +kernel)
theorem gw_244 : (Jvm.Cond.methodLink "DarkRoom" (92 : Nat) ({ cls := "DarkRoom$Picture", name := "vanish", desc := "()V" } : Jvm.MethodName)) ∈ gk_good := gk_in 299 (by decide +kernel) (by decide +kernel)
theorem gw_245 : (Jvm.Cond.instanceMethod ({ cls := "DarkRoom$Picture", name := "vanish", desc := "()V" } : Jvm.MethodName)) ∈ gk_good := gk_in 300 (by decide +kernel) (by decide +kernel)
theorem gw_246 : (Jvm.Cond.selects "DarkRoom$Picture" ({ cls := "DarkRoom$Picture", name := "vanish", desc := "()V" } : Jvm.MethodName) ({ cls := "DarkRoom$Picture", name := "vanish", desc := "()V" } : Jvm.MethodName)) ∈ gk_good := gk_in 301 (by decide +kernel) (by decide +kernel)
theorem gw_247 : (Jvm.Cond.code ({ cls := "DarkRoom$Picture", name := "vanish", desc := "()V" } : Jvm.MethodName) prog_8_method_2_code (1 : Nat) (Option.none : Option Jvm.ClassFile.FieldType)) ∈ gk_good := gk_in 302 (by decide +kernel) (by decide +kernel)
theorem gw_248 : (Jvm.Cond.methodLink "DarkRoom" (95 : Nat) ({ cls := "DarkRoom", name := "isSide", desc := "(I)Z" } : Jvm.MethodName)) ∈ gk_good := gk_in 303 (by decide +kernel) (by decide +kernel)
theorem gw_249 : (Jvm.Cond.static ({ cls := "DarkRoom", name := "isSide", desc := "(I)Z" } : Jvm.MethodName)) ∈ gk_good := gk_in 304 (by decide +kernel) (by decide +kernel)
theorem gw_250 : (Jvm.Cond.code ({ cls := "DarkRoom", name := "isSide", desc := "(I)Z" } : Jvm.MethodName) prog_1_method_34_code (1 : Nat) (Option.some Jvm.ClassFile.FieldType.boolean)) ∈ gk_good := gk_in 305 (by decide +kernel) (by decide +kernel)
theorem gw_251 : (Jvm.Cond.methodLink "DarkRoom" (98 : Nat) ({ cls := "DarkRoom$Picture", name := "shape", desc := "(III)V" } : Jvm.MethodName)) ∈ gk_good := gk_in 306 (by decide +kernel) (by decide +kernel)
theorem gw_252 : (Jvm.Cond.instanceMethod ({ cls := "DarkRoom$Picture", name := "shape", desc := "(III)V" } : Jvm.MethodName)) ∈ gk_good := gk_in 307 (by decide +kernel) (by decide +kernel)
theorem gw_253 : (Jvm.Cond.selects "DarkRoom$Picture" ({ cls := "DarkRoom$Picture", name := "shape", desc := "(III)V" } : Jvm.MethodName) ({ cls := "DarkRoom$Picture", name := "shape", desc := "(III)V" } : Jvm.MethodName)) ∈ gk_good := gk_in 308 (by decide +kernel) (by decide +kernel)
theorem gw_254 : (Jvm.Cond.code ({ cls := "DarkRoom$Picture", name := "shape", desc := "(III)V" } : Jvm.MethodName) prog_8_method_3_code (4 : Nat) (Option.none : Option Jvm.ClassFile.FieldType)) ∈ gk_good := gk_in 309 (by decide +kernel) (by decide +kernel)
theorem gw_255 : (Jvm.Cond.methodLink "DarkRoom" (102 : Nat) ({ cls := "DarkRoom$Picture", name := "blank", desc := "()V" } : Jvm.MethodName)) ∈ gk_good := gk_in 310 (by decide +kernel) (by decide +kernel)
theorem gw_256 : (Jvm.Cond.instanceMethod ({ cls := "DarkRoom$Picture", name := "blank", desc := "()V" } : Jvm.MethodName)) ∈ gk_good := gk_in 311 (by decide +kernel) (by decide +kernel)
theorem gw_257 : (Jvm.Cond.selects "DarkRoom$Picture" ({ cls := "DarkRoom$Picture", name := "blank", desc := "()V" } : Jvm.MethodName) ({ cls := "DarkRoom$Picture", name := "blank", desc := "()V" } : Jvm.MethodName)) ∈ gk_good := gk_in 312 (by decide +kernel) (by decide +kernel)
theorem gw_258 : (Jvm.Cond.code ({ cls := "DarkRoom$Picture", name := "blank", desc := "()V" } : Jvm.MethodName) prog_8_method_4_code (1 : Nat) (Option.none : Option Jvm.ClassFile.FieldType)) ∈ gk_good := gk_in 313 (by decide +kernel) (by decide +kernel)
theorem gw_259 : (Jvm.Cond.methodLink "DarkRoom$Picture" (25 : Nat) ({ cls := "java/util/Arrays", name := "fill", desc := "([II)V" } : Jvm.MethodName)) ∈ gk_good := gk_in 314 (by decide +kernel) (by decide +kernel)
theorem gw_260 : (Jvm.Cond.static ({ cls := "java/util/Arrays", name := "fill", desc := "([II)V" } : Jvm.MethodName)) ∈ gk_good := gk_in 315 (by decide +kernel) (by decide +kernel)
theorem gw_261 : (Jvm.Cond.code ({ cls := "java/util/Arrays", name := "fill", desc := "([II)V" } : Jvm.MethodName) prog_17_method_103_code (4 : Nat) (Option.none : Option Jvm.ClassFile.FieldType)) ∈ gk_good := gk_in 316 (by decide +kernel) (by decide +kernel)
theorem gw_262 : (Jvm.Cond.methodLink "DarkRoom" (105 : Nat) ({ cls := "DarkRoom", name := "keepPicture", desc := "(I)V" } : Jvm.MethodName)) ∈ gk_good := gk_in 317 (by decide +kernel) (by decide +kernel)
theorem gw_264 : (Jvm.Cond.instanceMethod ({ cls := "DarkRoom", name := "keepPicture", desc := "(I)V" } : Jvm.MethodName)) ∈ gk_good := gk_in 319 (by decide +kernel) (by decide +kernel)
theorem gw_265 : (Jvm.Cond.code ({ cls := "DarkRoom", name := "keepPicture", desc := "(I)V" } : Jvm.MethodName) prog_1_method_40_code (4 : Nat) (Option.none : Option Jvm.ClassFile.FieldType)) ∈ gk_good := gk_in 320 (by decide +kernel) (by decide +kernel)
theorem gw_266 : (Jvm.Cond.methodLink "DarkRoom" (305 : Nat) ({ cls := "DarkRoom$History", name := "next", desc := "()LDarkRoom$Act;" } : Jvm.MethodName)) ∈ gk_good := gk_in 321 (by decide +kernel) (by decide +kernel)
theorem gw_267 : (Jvm.Cond.instanceMethod ({ cls := "DarkRoom$History", name := "next", desc := "()LDarkRoom$Act;" } : Jvm.MethodName)) ∈ gk_good := gk_in 322 (by decide +kernel) (by decide +kernel)
theorem gw_268 : (Jvm.Cond.selects "DarkRoom$History" ({ cls := "DarkRoom$History", name := "next", desc := "()LDarkRoom$Act;" } : Jvm.MethodName) ({ cls := "DarkRoom$History", name := "next", desc := "()LDarkRoom$Act;" } : Jvm.MethodName)) ∈ gk_good := gk_in 323 (by decide +kernel) (by decide +kernel)
theorem gw_269 : (Jvm.Cond.code ({ cls := "DarkRoom$History", name := "next", desc := "()LDarkRoom$Act;" } : Jvm.MethodName) prog_6_method_2_code (1 : Nat) (Option.some (Jvm.ClassFile.FieldType.object "DarkRoom$Act"))) ∈ gk_good := gk_in 324 (by decide +kernel) (by decide +kernel)
theorem gw_270 : (Jvm.Cond.methodLink "DarkRoom$History" (28 : Nat) ({ cls := "DarkRoom$History", name := "nth", desc := "(I)LDarkRoom$Act;" } : Jvm.MethodName)) ∈ gk_good := gk_in 325 (by decide +kernel) (by decide +kernel)
theorem gw_272 : (Jvm.Cond.instanceMethod ({ cls := "DarkRoom$History", name := "nth", desc := "(I)LDarkRoom$Act;" } : Jvm.MethodName)) ∈ gk_good := gk_in 327 (by decide +kernel) (by decide +kernel)
theorem gw_273 : (Jvm.Cond.code ({ cls := "DarkRoom$History", name := "nth", desc := "(I)LDarkRoom$Act;" } : Jvm.MethodName) prog_6_method_5_code (2 : Nat) (Option.some (Jvm.ClassFile.FieldType.object "DarkRoom$Act"))) ∈ gk_good := gk_in 328 (by decide +kernel) (by decide +kernel)
theorem gw_274 : (Jvm.Cond.methodLink "DarkRoom$History" (32 : Nat) ({ cls := "java/lang/Math", name := "floorMod", desc := "(II)I" } : Jvm.MethodName)) ∈ gk_good := gk_in 329 (by decide +kernel) (by decide +kernel)
theorem gw_275 : (Jvm.Cond.static ({ cls := "java/lang/Math", name := "floorMod", desc := "(II)I" } : Jvm.MethodName)) ∈ gk_good := gk_in 330 (by decide +kernel) (by decide +kernel)
theorem gw_276 : (Jvm.Cond.code ({ cls := "java/lang/Math", name := "floorMod", desc := "(II)I" } : Jvm.MethodName) prog_15_method_50_code (3 : Nat) (Option.some Jvm.ClassFile.FieldType.int)) ∈ gk_good := gk_in 331 (by decide +kernel) (by decide +kernel)
theorem gw_277 : (Jvm.Cond.methodLink "DarkRoomLaw" (18 : Nat) ({ cls := "DarkRoom", name := "put", desc := "(IIII)I" } : Jvm.MethodName)) ∈ gk_good := gk_in 332 (by decide +kernel) (by decide +kernel)
theorem gw_278 : (Jvm.Cond.instanceMethod ({ cls := "DarkRoom", name := "put", desc := "(IIII)I" } : Jvm.MethodName)) ∈ gk_good := gk_in 333 (by decide +kernel) (by decide +kernel)
theorem gw_279 : (Jvm.Cond.selects "DarkRoom" ({ cls := "DarkRoom", name := "put", desc := "(IIII)I" } : Jvm.MethodName) ({ cls := "DarkRoom", name := "put", desc := "(IIII)I" } : Jvm.MethodName)) ∈ gk_good := gk_in 334 (by decide +kernel) (by decide +kernel)
theorem gw_280 : (Jvm.Cond.code ({ cls := "DarkRoom", name := "put", desc := "(IIII)I" } : Jvm.MethodName) prog_1_method_3_code (8 : Nat) (Option.some Jvm.ClassFile.FieldType.int)) ∈ gk_good := gk_in 335 (by decide +kernel) (by decide +kernel)
theorem gw_281 : (Jvm.Cond.methodLink "DarkRoom" (109 : Nat) ({ cls := "DarkRoom$Picture", name := "has", desc := "(II)Z" } : Jvm.MethodName)) ∈ gk_good := gk_in 336 (by decide +kernel) (by decide +kernel)
theorem gw_282 : (Jvm.Cond.instanceMethod ({ cls := "DarkRoom$Picture", name := "has", desc := "(II)Z" } : Jvm.MethodName)) ∈ gk_good := gk_in 337 (by decide +kernel) (by decide +kernel)
theorem gw_283 : (Jvm.Cond.selects "DarkRoom$Picture" ({ cls := "DarkRoom$Picture", name := "has", desc := "(II)Z" } : Jvm.MethodName) ({ cls := "DarkRoom$Picture", name := "has", desc := "(II)Z" } : Jvm.MethodName)) ∈ gk_good := gk_in 338 (by decide +kernel) (by decide +kernel)
theorem gw_284 : (Jvm.Cond.code ({ cls := "DarkRoom$Picture", name := "has", desc := "(II)Z" } : Jvm.MethodName) prog_8_method_7_code (3 : Nat) (Option.some Jvm.ClassFile.FieldType.boolean)) ∈ gk_good := gk_in 339 (by decide +kernel) (by decide +kernel)
theorem gw_285 : (Jvm.Cond.methodLink "DarkRoom" (113 : Nat) ({ cls := "DarkRoom$Picture", name := "holds", desc := "(I)Z" } : Jvm.MethodName)) ∈ gk_good := gk_in 340 (by decide +kernel) (by decide +kernel)
theorem gw_286 : (Jvm.Cond.instanceMethod ({ cls := "DarkRoom$Picture", name := "holds", desc := "(I)Z" } : Jvm.MethodName)) ∈ gk_good := gk_in 341 (by decide +kernel) (by decide +kernel)
theorem gw_287 : (Jvm.Cond.selects "DarkRoom$Picture" ({ cls := "DarkRoom$Picture", name := "holds", desc := "(I)Z" } : Jvm.MethodName) ({ cls := "DarkRoom$Picture", name := "holds", desc := "(I)Z" } : Jvm.MethodName)) ∈ gk_good := gk_in 342 (by decide +kernel) (by decide +kernel)
theorem gw_288 : (Jvm.Cond.code ({ cls := "DarkRoom$Picture", name := "holds", desc := "(I)Z" } : Jvm.MethodName) prog_8_method_14_code (2 : Nat) (Option.some Jvm.ClassFile.FieldType.boolean)) ∈ gk_good := gk_in 343 (by decide +kernel) (by decide +kernel)
theorem gw_289 : (Jvm.Cond.methodLink "DarkRoom$Picture" (41 : Nat) ({ cls := "DarkRoom$Picture", name := "least", desc := "()I" } : Jvm.MethodName)) ∈ gk_good := gk_in 344 (by decide +kernel) (by decide +kernel)
theorem gw_290 : (Jvm.Cond.instanceMethod ({ cls := "DarkRoom$Picture", name := "least", desc := "()I" } : Jvm.MethodName)) ∈ gk_good := gk_in 345 (by decide +kernel) (by decide +kernel)
theorem gw_291 : (Jvm.Cond.selects "DarkRoom$Picture" ({ cls := "DarkRoom$Picture", name := "least", desc := "()I" } : Jvm.MethodName) ({ cls := "DarkRoom$Picture", name := "least", desc := "()I" } : Jvm.MethodName)) ∈ gk_good := gk_in 346 (by decide +kernel) (by decide +kernel)
theorem gw_292 : (Jvm.Cond.code ({ cls := "DarkRoom$Picture", name := "least", desc := "()I" } : Jvm.MethodName) prog_8_method_12_code (1 : Nat) (Option.some Jvm.ClassFile.FieldType.int)) ∈ gk_good := gk_in 347 (by decide +kernel) (by decide +kernel)
theorem gw_293 : (Jvm.Cond.methodLink "DarkRoom$Picture" (45 : Nat) ({ cls := "DarkRoom$Picture", name := "greatest", desc := "()I" } : Jvm.MethodName)) ∈ gk_good := gk_in 348 (by decide +kernel) (by decide +kernel)
theorem gw_294 : (Jvm.Cond.instanceMethod ({ cls := "DarkRoom$Picture", name := "greatest", desc := "()I" } : Jvm.MethodName)) ∈ gk_good := gk_in 349 (by decide +kernel) (by decide +kernel)
theorem gw_295 : (Jvm.Cond.selects "DarkRoom$Picture" ({ cls := "DarkRoom$Picture", name := "greatest", desc := "()I" } : Jvm.MethodName) ({ cls := "DarkRoom$Picture", name := "greatest", desc := "()I" } : Jvm.MethodName)) ∈ gk_good := gk_in 350 (by decide +kernel) (by decide +kernel)
theorem gw_296 : (Jvm.Cond.code ({ cls := "DarkRoom$Picture", name := "greatest", desc := "()I" } : Jvm.MethodName) prog_8_method_13_code (1 : Nat) (Option.some Jvm.ClassFile.FieldType.int)) ∈ gk_good := gk_in 351 (by decide +kernel) (by decide +kernel)
theorem gw_297 : (Jvm.Cond.constant "DarkRoom" (116 : Nat) (-100002 : Int32)) ∈ gk_good := gk_in 352 (by decide +kernel) (by decide +kernel)
theorem gw_298 : (Jvm.Cond.methodLink "DarkRoom" (117 : Nat) ({ cls := "DarkRoom$Picture", name := "place", desc := "(II)I" } : Jvm.MethodName)) ∈ gk_good := gk_in 353 (by decide +kernel) (by decide +kernel)
theorem gw_299 : (Jvm.Cond.instanceMethod ({ cls := "DarkRoom$Picture", name := "place", desc := "(II)I" } : Jvm.MethodName)) ∈ gk_good := gk_in 354 (by decide +kernel) (by decide +kernel)
theorem gw_300 : (Jvm.Cond.selects "DarkRoom$Picture" ({ cls := "DarkRoom$Picture", name := "place", desc := "(II)I" } : Jvm.MethodName) ({ cls := "DarkRoom$Picture", name := "place", desc := "(II)I" } : Jvm.MethodName)) ∈ gk_good := gk_in 355 (by decide +kernel) (by decide +kernel)
theorem gw_301 : (Jvm.Cond.code ({ cls := "DarkRoom$Picture", name := "place", desc := "(II)I" } : Jvm.MethodName) prog_8_method_9_code (3 : Nat) (Option.some Jvm.ClassFile.FieldType.int)) ∈ gk_good := gk_in 356 (by decide +kernel) (by decide +kernel)
theorem gw_302 : (Jvm.Cond.methodLink "DarkRoom" (121 : Nat) ({ cls := "DarkRoom$Picture", name := "pixel", desc := "(I)I" } : Jvm.MethodName)) ∈ gk_good := gk_in 357 (by decide +kernel) (by decide +kernel)
theorem gw_303 : (Jvm.Cond.instanceMethod ({ cls := "DarkRoom$Picture", name := "pixel", desc := "(I)I" } : Jvm.MethodName)) ∈ gk_good := gk_in 358 (by decide +kernel) (by decide +kernel)
theorem gw_304 : (Jvm.Cond.selects "DarkRoom$Picture" ({ cls := "DarkRoom$Picture", name := "pixel", desc := "(I)I" } : Jvm.MethodName) ({ cls := "DarkRoom$Picture", name := "pixel", desc := "(I)I" } : Jvm.MethodName)) ∈ gk_good := gk_in 359 (by decide +kernel) (by decide +kernel)
theorem gw_305 : (Jvm.Cond.code ({ cls := "DarkRoom$Picture", name := "pixel", desc := "(I)I" } : Jvm.MethodName) prog_8_method_10_code (2 : Nat) (Option.some Jvm.ClassFile.FieldType.int)) ∈ gk_good := gk_in 360 (by decide +kernel) (by decide +kernel)
theorem gw_306 : (Jvm.Cond.methodLink "DarkRoom" (125 : Nat) ({ cls := "DarkRoom$Picture", name := "copyFrom", desc := "(LDarkRoom$Picture;)V" } : Jvm.MethodName)) ∈ gk_good := gk_in 361 (by decide +kernel) (by decide +kernel)
theorem gw_307 : (Jvm.Cond.instanceMethod ({ cls := "DarkRoom$Picture", name := "copyFrom", desc := "(LDarkRoom$Picture;)V" } : Jvm.MethodName)) ∈ gk_good := gk_in 362 (by decide +kernel) (by decide +kernel)
theorem gw_308 : (Jvm.Cond.selects "DarkRoom$Picture" ({ cls := "DarkRoom$Picture", name := "copyFrom", desc := "(LDarkRoom$Picture;)V" } : Jvm.MethodName) ({ cls := "DarkRoom$Picture", name := "copyFrom", desc := "(LDarkRoom$Picture;)V" } : Jvm.MethodName)) ∈ gk_good := gk_in 363 (by decide +kernel) (by decide +kernel)
theorem gw_309 : (Jvm.Cond.code ({ cls := "DarkRoom$Picture", name := "copyFrom", desc := "(LDarkRoom$Picture;)V" } : Jvm.MethodName) prog_8_method_5_code (2 : Nat) (Option.none : Option Jvm.ClassFile.FieldType)) ∈ gk_good := gk_in 364 (by decide +kernel) (by decide +kernel)
theorem gw_310 : (Jvm.Cond.methodLink "DarkRoom$Picture" (31 : Nat) ({ cls := "DarkRoom$Picture", name := "shape", desc := "(III)V" } : Jvm.MethodName)) ∈ gk_good := gk_in 365 (by decide +kernel) (by decide +kernel)
theorem gw_311 : (Jvm.Cond.methodLink "DarkRoom$Picture" (35 : Nat) ({ cls := "java/lang/System", name := "arraycopy", desc := "(Ljava/lang/Object;ILjava/lang/Object;II)V" } : Jvm.MethodName)) ∈ gk_good := gk_in 366 (by decide +kernel) (by decide +kernel)
theorem gw_312 : (Jvm.Cond.static ({ cls := "java/lang/System", name := "arraycopy", desc := "(Ljava/lang/Object;ILjava/lang/Object;II)V" } : Jvm.MethodName)) ∈ gk_good := gk_in 367 (by decide +kernel) (by decide +kernel)
theorem gw_313 : (Jvm.Cond.native ({ cls := "java/lang/System", name := "arraycopy", desc := "(Ljava/lang/Object;ILjava/lang/Object;II)V" } : Jvm.MethodName)) ∈ gk_good := gk_in 368 (by decide +kernel) (by decide +kernel)
theorem gw_314 : (Jvm.Cond.methodLink "DarkRoom" (129 : Nat) ({ cls := "DarkRoom$Picture", name := "set", desc := "(II)V" } : Jvm.MethodName)) ∈ gk_good := gk_in 369 (by decide +kernel) (by decide +kernel)
theorem gw_315 : (Jvm.Cond.instanceMethod ({ cls := "DarkRoom$Picture", name := "set", desc := "(II)V" } : Jvm.MethodName)) ∈ gk_good := gk_in 370 (by decide +kernel) (by decide +kernel)
theorem gw_316 : (Jvm.Cond.selects "DarkRoom$Picture" ({ cls := "DarkRoom$Picture", name := "set", desc := "(II)V" } : Jvm.MethodName) ({ cls := "DarkRoom$Picture", name := "set", desc := "(II)V" } : Jvm.MethodName)) ∈ gk_good := gk_in 371 (by decide +kernel) (by decide +kernel)
theorem gw_317 : (Jvm.Cond.code ({ cls := "DarkRoom$Picture", name := "set", desc := "(II)V" } : Jvm.MethodName) prog_8_method_11_code (3 : Nat) (Option.none : Option Jvm.ClassFile.FieldType)) ∈ gk_good := gk_in 372 (by decide +kernel) (by decide +kernel)
theorem gw_318 : (Jvm.Cond.methodLink "DarkRoomLaw" (24 : Nat) ({ cls := "DarkRoom", name := "feed", desc := "(IIIJI)I" } : Jvm.MethodName)) ∈ gk_good := gk_in 373 (by decide +kernel) (by decide +kernel)
theorem gw_319 : (Jvm.Cond.instanceMethod ({ cls := "DarkRoom", name := "feed", desc := "(IIIJI)I" } : Jvm.MethodName)) ∈ gk_good := gk_in 374 (by decide +kernel) (by decide +kernel)
theorem gw_320 : (Jvm.Cond.selects "DarkRoom" ({ cls := "DarkRoom", name := "feed", desc := "(IIIJI)I" } : Jvm.MethodName) ({ cls := "DarkRoom", name := "feed", desc := "(IIIJI)I" } : Jvm.MethodName)) ∈ gk_good := gk_in 375 (by decide +kernel) (by decide +kernel)
theorem gw_321 : (Jvm.Cond.code ({ cls := "DarkRoom", name := "feed", desc := "(IIIJI)I" } : Jvm.MethodName) prog_1_method_4_code (12 : Nat) (Option.some Jvm.ClassFile.FieldType.int)) ∈ gk_good := gk_in 376 (by decide +kernel) (by decide +kernel)
theorem gw_322 : (Jvm.Cond.methodLink "DarkRoom" (136 : Nat) ({ cls := "DarkRoom$Picture", name := "area", desc := "()I" } : Jvm.MethodName)) ∈ gk_good := gk_in 377 (by decide +kernel) (by decide +kernel)
theorem gw_323 : (Jvm.Cond.instanceMethod ({ cls := "DarkRoom$Picture", name := "area", desc := "()I" } : Jvm.MethodName)) ∈ gk_good := gk_in 378 (by decide +kernel) (by decide +kernel)
theorem gw_324 : (Jvm.Cond.selects "DarkRoom$Picture" ({ cls := "DarkRoom$Picture", name := "area", desc := "()I" } : Jvm.MethodName) ({ cls := "DarkRoom$Picture", name := "area", desc := "()I" } : Jvm.MethodName)) ∈ gk_good := gk_in 379 (by decide +kernel) (by decide +kernel)
theorem gw_325 : (Jvm.Cond.code ({ cls := "DarkRoom$Picture", name := "area", desc := "()I" } : Jvm.MethodName) prog_8_method_8_code (1 : Nat) (Option.some Jvm.ClassFile.FieldType.int)) ∈ gk_good := gk_in 380 (by decide +kernel) (by decide +kernel)
theorem gw_326 : (Jvm.Cond.methodLink "DarkRoomLaw" (29 : Nat) ({ cls := "DarkRoom", name := "at", desc := "(IIII)I" } : Jvm.MethodName)) ∈ gk_good := gk_in 381 (by decide +kernel) (by decide +kernel)
theorem gw_327 : (Jvm.Cond.instanceMethod ({ cls := "DarkRoom", name := "at", desc := "(IIII)I" } : Jvm.MethodName)) ∈ gk_good := gk_in 382 (by decide +kernel) (by decide +kernel)
theorem gw_328 : (Jvm.Cond.selects "DarkRoom" ({ cls := "DarkRoom", name := "at", desc := "(IIII)I" } : Jvm.MethodName) ({ cls := "DarkRoom", name := "at", desc := "(IIII)I" } : Jvm.MethodName)) ∈ gk_good := gk_in 383 (by decide +kernel) (by decide +kernel)
theorem gw_329 : (Jvm.Cond.code ({ cls := "DarkRoom", name := "at", desc := "(IIII)I" } : Jvm.MethodName) prog_1_method_5_code (5 : Nat) (Option.some Jvm.ClassFile.FieldType.int)) ∈ gk_good := gk_in 384 (by decide +kernel) (by decide +kernel)
theorem gw_330 : (Jvm.Cond.methodLink "DarkRoom" (140 : Nat) ({ cls := "DarkRoom$Picture", name := "isMissing", desc := "()Z" } : Jvm.MethodName)) ∈ gk_good := gk_in 385 (by decide +kernel) (by decide +kernel)
theorem gw_331 : (Jvm.Cond.instanceMethod ({ cls := "DarkRoom$Picture", name := "isMissing", desc := "()Z" } : Jvm.MethodName)) ∈ gk_good := gk_in 386 (by decide +kernel) (by decide +kernel)
theorem gw_332 : (Jvm.Cond.selects "DarkRoom$Picture" ({ cls := "DarkRoom$Picture", name := "isMissing", desc := "()Z" } : Jvm.MethodName) ({ cls := "DarkRoom$Picture", name := "isMissing", desc := "()Z" } : Jvm.MethodName)) ∈ gk_good := gk_in 387 (by decide +kernel) (by decide +kernel)
theorem gw_333 : (Jvm.Cond.code ({ cls := "DarkRoom$Picture", name := "isMissing", desc := "()Z" } : Jvm.MethodName) prog_8_method_6_code (1 : Nat) (Option.some Jvm.ClassFile.FieldType.boolean)) ∈ gk_good := gk_in 388 (by decide +kernel) (by decide +kernel)
theorem gw_334 : (Jvm.Cond.methodLink "DarkRoom" (144 : Nat) ({ cls := "DarkRoom", name := "isEdge", desc := "(I)Z" } : Jvm.MethodName)) ∈ gk_good := gk_in 389 (by decide +kernel) (by decide +kernel)
theorem gw_335 : (Jvm.Cond.static ({ cls := "DarkRoom", name := "isEdge", desc := "(I)Z" } : Jvm.MethodName)) ∈ gk_good := gk_in 390 (by decide +kernel) (by decide +kernel)
theorem gw_336 : (Jvm.Cond.code ({ cls := "DarkRoom", name := "isEdge", desc := "(I)Z" } : Jvm.MethodName) prog_1_method_35_code (1 : Nat) (Option.some Jvm.ClassFile.FieldType.boolean)) ∈ gk_good := gk_in 391 (by decide +kernel) (by decide +kernel)
theorem gw_337 : (Jvm.Cond.methodLink "DarkRoom" (147 : Nat) ({ cls := "DarkRoom$Picture", name := "seen", desc := "(III)I" } : Jvm.MethodName)) ∈ gk_good := gk_in 392 (by decide +kernel) (by decide +kernel)
theorem gw_338 : (Jvm.Cond.instanceMethod ({ cls := "DarkRoom$Picture", name := "seen", desc := "(III)I" } : Jvm.MethodName)) ∈ gk_good := gk_in 393 (by decide +kernel) (by decide +kernel)
theorem gw_339 : (Jvm.Cond.selects "DarkRoom$Picture" ({ cls := "DarkRoom$Picture", name := "seen", desc := "(III)I" } : Jvm.MethodName) ({ cls := "DarkRoom$Picture", name := "seen", desc := "(III)I" } : Jvm.MethodName)) ∈ gk_good := gk_in 394 (by decide +kernel) (by decide +kernel)
theorem gw_340 : (Jvm.Cond.code ({ cls := "DarkRoom$Picture", name := "seen", desc := "(III)I" } : Jvm.MethodName) prog_8_method_16_code (4 : Nat) (Option.some Jvm.ClassFile.FieldType.int)) ∈ gk_good := gk_in 395 (by decide +kernel) (by decide +kernel)
theorem gw_341 : (Jvm.Cond.methodLink "DarkRoom$Picture" (57 : Nat) ({ cls := "DarkRoom$Picture", name := "has", desc := "(II)Z" } : Jvm.MethodName)) ∈ gk_good := gk_in 396 (by decide +kernel) (by decide +kernel)
theorem gw_342 : (Jvm.Cond.methodLink "DarkRoom$Picture" (61 : Nat) ({ cls := "DarkRoom$Picture", name := "place", desc := "(II)I" } : Jvm.MethodName)) ∈ gk_good := gk_in 397 (by decide +kernel) (by decide +kernel)
theorem gw_343 : (Jvm.Cond.methodLink "DarkRoom$Picture" (65 : Nat) ({ cls := "DarkRoom$Picture", name := "pixel", desc := "(I)I" } : Jvm.MethodName)) ∈ gk_good := gk_in 398 (by decide +kernel) (by decide +kernel)
theorem gw_344 : (Jvm.Cond.methodLink "DarkRoom$Picture" (69 : Nat) ({ cls := "DarkRoom$Picture", name := "inside", desc := "(III)I" } : Jvm.MethodName)) ∈ gk_good := gk_in 399 (by decide +kernel) (by decide +kernel)
theorem gw_345 : (Jvm.Cond.static ({ cls := "DarkRoom$Picture", name := "inside", desc := "(III)I" } : Jvm.MethodName)) ∈ gk_good := gk_in 400 (by decide +kernel) (by decide +kernel)
theorem gw_346 : (Jvm.Cond.code ({ cls := "DarkRoom$Picture", name := "inside", desc := "(III)I" } : Jvm.MethodName) prog_8_method_17_code (4 : Nat) (Option.some Jvm.ClassFile.FieldType.int)) ∈ gk_good := gk_in 401 (by decide +kernel) (by decide +kernel)
theorem gw_347 : (Jvm.Cond.methodLink "DarkRoom$Picture" (73 : Nat) ({ cls := "java/lang/Math", name := "floorMod", desc := "(II)I" } : Jvm.MethodName)) ∈ gk_good := gk_in 402 (by decide +kernel) (by decide +kernel)
theorem gw_348 : (Jvm.Cond.methodLink "DarkRoom$Picture" (76 : Nat) ({ cls := "java/lang/Math", name := "min", desc := "(II)I" } : Jvm.MethodName)) ∈ gk_good := gk_in 403 (by decide +kernel) (by decide +kernel)
theorem gw_349 : (Jvm.Cond.static ({ cls := "java/lang/Math", name := "min", desc := "(II)I" } : Jvm.MethodName)) ∈ gk_good := gk_in 404 (by decide +kernel) (by decide +kernel)
theorem gw_350 : (Jvm.Cond.code ({ cls := "java/lang/Math", name := "min", desc := "(II)I" } : Jvm.MethodName) prog_15_method_69_code (2 : Nat) (Option.some Jvm.ClassFile.FieldType.int)) ∈ gk_good := gk_in 405 (by decide +kernel) (by decide +kernel)
theorem gw_351 : (Jvm.Cond.methodLink "DarkRoom$Picture" (78 : Nat) ({ cls := "java/lang/Math", name := "max", desc := "(II)I" } : Jvm.MethodName)) ∈ gk_good := gk_in 406 (by decide +kernel) (by decide +kernel)
theorem gw_352 : (Jvm.Cond.static ({ cls := "java/lang/Math", name := "max", desc := "(II)I" } : Jvm.MethodName)) ∈ gk_good := gk_in 407 (by decide +kernel) (by decide +kernel)
theorem gw_353 : (Jvm.Cond.code ({ cls := "java/lang/Math", name := "max", desc := "(II)I" } : Jvm.MethodName) prog_15_method_65_code (2 : Nat) (Option.some Jvm.ClassFile.FieldType.int)) ∈ gk_good := gk_in 408 (by decide +kernel) (by decide +kernel)
theorem gw_354 : (Jvm.Cond.methodLink "DarkRoomLaw" (33 : Nat) ({ cls := "DarkRoom", name := "about", desc := "(II)I" } : Jvm.MethodName)) ∈ gk_good := gk_in 409 (by decide +kernel) (by decide +kernel)
theorem gw_355 : (Jvm.Cond.instanceMethod ({ cls := "DarkRoom", name := "about", desc := "(II)I" } : Jvm.MethodName)) ∈ gk_good := gk_in 410 (by decide +kernel) (by decide +kernel)
theorem gw_356 : (Jvm.Cond.selects "DarkRoom" ({ cls := "DarkRoom", name := "about", desc := "(II)I" } : Jvm.MethodName) ({ cls := "DarkRoom", name := "about", desc := "(II)I" } : Jvm.MethodName)) ∈ gk_good := gk_in 411 (by decide +kernel) (by decide +kernel)
theorem gw_357 : (Jvm.Cond.code ({ cls := "DarkRoom", name := "about", desc := "(II)I" } : Jvm.MethodName) prog_1_method_6_code (4 : Nat) (Option.some Jvm.ClassFile.FieldType.int)) ∈ gk_good := gk_in 412 (by decide +kernel) (by decide +kernel)
theorem gw_358 : (Jvm.Cond.constant "DarkRoom" (151 : Nat) (-100004 : Int32)) ∈ gk_good := gk_in 413 (by decide +kernel) (by decide +kernel)
theorem gw_359 : (Jvm.Cond.methodLink "DarkRoom" (158 : Nat) ({ cls := "DarkRoom$Picture", name := "leastPixel", desc := "()I" } : Jvm.MethodName)) ∈ gk_good := gk_in 414 (by decide +kernel) (by decide +kernel)
theorem gw_360 : (Jvm.Cond.instanceMethod ({ cls := "DarkRoom$Picture", name := "leastPixel", desc := "()I" } : Jvm.MethodName)) ∈ gk_good := gk_in 415 (by decide +kernel) (by decide +kernel)
theorem gw_361 : (Jvm.Cond.selects "DarkRoom$Picture" ({ cls := "DarkRoom$Picture", name := "leastPixel", desc := "()I" } : Jvm.MethodName) ({ cls := "DarkRoom$Picture", name := "leastPixel", desc := "()I" } : Jvm.MethodName)) ∈ gk_good := gk_in 416 (by decide +kernel) (by decide +kernel)
theorem gw_362 : (Jvm.Cond.code ({ cls := "DarkRoom$Picture", name := "leastPixel", desc := "()I" } : Jvm.MethodName) prog_8_method_18_code (3 : Nat) (Option.some Jvm.ClassFile.FieldType.int)) ∈ gk_good := gk_in 417 (by decide +kernel) (by decide +kernel)
theorem gw_363 : (Jvm.Cond.methodLink "DarkRoom$Picture" (80 : Nat) ({ cls := "DarkRoom$Picture", name := "area", desc := "()I" } : Jvm.MethodName)) ∈ gk_good := gk_in 418 (by decide +kernel) (by decide +kernel)
theorem gw_364 : (Jvm.Cond.methodLink "DarkRoom" (161 : Nat) ({ cls := "DarkRoom$Picture", name := "greatestPixel", desc := "()I" } : Jvm.MethodName)) ∈ gk_good := gk_in 419 (by decide +kernel) (by decide +kernel)
theorem gw_365 : (Jvm.Cond.instanceMethod ({ cls := "DarkRoom$Picture", name := "greatestPixel", desc := "()I" } : Jvm.MethodName)) ∈ gk_good := gk_in 420 (by decide +kernel) (by decide +kernel)
theorem gw_366 : (Jvm.Cond.selects "DarkRoom$Picture" ({ cls := "DarkRoom$Picture", name := "greatestPixel", desc := "()I" } : Jvm.MethodName) ({ cls := "DarkRoom$Picture", name := "greatestPixel", desc := "()I" } : Jvm.MethodName)) ∈ gk_good := gk_in 421 (by decide +kernel) (by decide +kernel)
theorem gw_367 : (Jvm.Cond.code ({ cls := "DarkRoom$Picture", name := "greatestPixel", desc := "()I" } : Jvm.MethodName) prog_8_method_19_code (3 : Nat) (Option.some Jvm.ClassFile.FieldType.int)) ∈ gk_good := gk_in 422 (by decide +kernel) (by decide +kernel)
theorem gw_368 : (Jvm.Cond.methodLink "DarkRoom" (164 : Nat) ({ cls := "DarkRoom$Picture", name := "sum", desc := "()I" } : Jvm.MethodName)) ∈ gk_good := gk_in 423 (by decide +kernel) (by decide +kernel)
theorem gw_369 : (Jvm.Cond.instanceMethod ({ cls := "DarkRoom$Picture", name := "sum", desc := "()I" } : Jvm.MethodName)) ∈ gk_good := gk_in 424 (by decide +kernel) (by decide +kernel)
theorem gw_370 : (Jvm.Cond.selects "DarkRoom$Picture" ({ cls := "DarkRoom$Picture", name := "sum", desc := "()I" } : Jvm.MethodName) ({ cls := "DarkRoom$Picture", name := "sum", desc := "()I" } : Jvm.MethodName)) ∈ gk_good := gk_in 425 (by decide +kernel) (by decide +kernel)
theorem gw_371 : (Jvm.Cond.code ({ cls := "DarkRoom$Picture", name := "sum", desc := "()I" } : Jvm.MethodName) prog_8_method_20_code (3 : Nat) (Option.some Jvm.ClassFile.FieldType.int)) ∈ gk_good := gk_in 426 (by decide +kernel) (by decide +kernel)
theorem gw_372 : (Jvm.Cond.methodLink "DarkRoomLaw" (38 : Nat) ({ cls := "DarkRoom", name := "convert", desc := "(IIII)I" } : Jvm.MethodName)) ∈ gk_good := gk_in 427 (by decide +kernel) (by decide +kernel)
theorem gw_373 : (Jvm.Cond.instanceMethod ({ cls := "DarkRoom", name := "convert", desc := "(IIII)I" } : Jvm.MethodName)) ∈ gk_good := gk_in 428 (by decide +kernel) (by decide +kernel)
theorem gw_374 : (Jvm.Cond.selects "DarkRoom" ({ cls := "DarkRoom", name := "convert", desc := "(IIII)I" } : Jvm.MethodName) ({ cls := "DarkRoom", name := "convert", desc := "(IIII)I" } : Jvm.MethodName)) ∈ gk_good := gk_in 429 (by decide +kernel) (by decide +kernel)
theorem gw_375 : (Jvm.Cond.code ({ cls := "DarkRoom", name := "convert", desc := "(IIII)I" } : Jvm.MethodName) prog_1_method_7_code (8 : Nat) (Option.some Jvm.ClassFile.FieldType.int)) ∈ gk_good := gk_in 430 (by decide +kernel) (by decide +kernel)
theorem gw_376 : (Jvm.Cond.methodLink "DarkRoom" (167 : Nat) ({ cls := "DarkRoom$Picture", name := "kept", desc := "(J)I" } : Jvm.MethodName)) ∈ gk_good := gk_in 431 (by decide +kernel) (by decide +kernel)
theorem gw_377 : (Jvm.Cond.instanceMethod ({ cls := "DarkRoom$Picture", name := "kept", desc := "(J)I" } : Jvm.MethodName)) ∈ gk_good := gk_in 432 (by decide +kernel) (by decide +kernel)
theorem gw_378 : (Jvm.Cond.selects "DarkRoom$Picture" ({ cls := "DarkRoom$Picture", name := "kept", desc := "(J)I" } : Jvm.MethodName) ({ cls := "DarkRoom$Picture", name := "kept", desc := "(J)I" } : Jvm.MethodName)) ∈ gk_good := gk_in 433 (by decide +kernel) (by decide +kernel)
theorem gw_379 : (Jvm.Cond.code ({ cls := "DarkRoom$Picture", name := "kept", desc := "(J)I" } : Jvm.MethodName) prog_8_method_15_code (3 : Nat) (Option.some Jvm.ClassFile.FieldType.int)) ∈ gk_good := gk_in 434 (by decide +kernel) (by decide +kernel)
theorem gw_380 : (Jvm.Cond.methodLink "DarkRoom$Picture" (48 : Nat) ({ cls := "java/lang/Math", name := "min", desc := "(JJ)J" } : Jvm.MethodName)) ∈ gk_good := gk_in 435 (by decide +kernel) (by decide +kernel)
theorem gw_381 : (Jvm.Cond.static ({ cls := "java/lang/Math", name := "min", desc := "(JJ)J" } : Jvm.MethodName)) ∈ gk_good := gk_in 436 (by decide +kernel) (by decide +kernel)
theorem gw_382 : (Jvm.Cond.code ({ cls := "java/lang/Math", name := "min", desc := "(JJ)J" } : Jvm.MethodName) prog_15_method_70_code (4 : Nat) (Option.some Jvm.ClassFile.FieldType.long)) ∈ gk_good := gk_in 437 (by decide +kernel) (by decide +kernel)
theorem gw_383 : (Jvm.Cond.methodLink "DarkRoom$Picture" (54 : Nat) ({ cls := "java/lang/Math", name := "max", desc := "(JJ)J" } : Jvm.MethodName)) ∈ gk_good := gk_in 438 (by decide +kernel) (by decide +kernel)
theorem gw_384 : (Jvm.Cond.static ({ cls := "java/lang/Math", name := "max", desc := "(JJ)J" } : Jvm.MethodName)) ∈ gk_good := gk_in 439 (by decide +kernel) (by decide +kernel)
theorem gw_385 : (Jvm.Cond.code ({ cls := "java/lang/Math", name := "max", desc := "(JJ)J" } : Jvm.MethodName) prog_15_method_66_code (4 : Nat) (Option.some Jvm.ClassFile.FieldType.long)) ∈ gk_good := gk_in 440 (by decide +kernel) (by decide +kernel)
theorem gw_386 : (Jvm.Cond.methodLink "DarkRoom" (171 : Nat) ({ cls := "DarkRoom$Picture", name := "unlikePixels", desc := "(LDarkRoom$Picture;)I" } : Jvm.MethodName)) ∈ gk_good := gk_in 441 (by decide +kernel) (by decide +kernel)
theorem gw_387 : (Jvm.Cond.instanceMethod ({ cls := "DarkRoom$Picture", name := "unlikePixels", desc := "(LDarkRoom$Picture;)I" } : Jvm.MethodName)) ∈ gk_good := gk_in 442 (by decide +kernel) (by decide +kernel)
theorem gw_388 : (Jvm.Cond.selects "DarkRoom$Picture" ({ cls := "DarkRoom$Picture", name := "unlikePixels", desc := "(LDarkRoom$Picture;)I" } : Jvm.MethodName) ({ cls := "DarkRoom$Picture", name := "unlikePixels", desc := "(LDarkRoom$Picture;)I" } : Jvm.MethodName)) ∈ gk_good := gk_in 443 (by decide +kernel) (by decide +kernel)
theorem gw_389 : (Jvm.Cond.code ({ cls := "DarkRoom$Picture", name := "unlikePixels", desc := "(LDarkRoom$Picture;)I" } : Jvm.MethodName) prog_8_method_21_code (4 : Nat) (Option.some Jvm.ClassFile.FieldType.int)) ∈ gk_good := gk_in 444 (by decide +kernel) (by decide +kernel)
theorem gw_390 : (Jvm.Cond.methodLink "DarkRoomLaw" (42 : Nat) ({ cls := "DarkRoom", name := "cut", desc := "(IIIIIII)I" } : Jvm.MethodName)) ∈ gk_good := gk_in 445 (by decide +kernel) (by decide +kernel)
theorem gw_391 : (Jvm.Cond.instanceMethod ({ cls := "DarkRoom", name := "cut", desc := "(IIIIIII)I" } : Jvm.MethodName)) ∈ gk_good := gk_in 446 (by decide +kernel) (by decide +kernel)
theorem gw_392 : (Jvm.Cond.selects "DarkRoom" ({ cls := "DarkRoom", name := "cut", desc := "(IIIIIII)I" } : Jvm.MethodName) ({ cls := "DarkRoom", name := "cut", desc := "(IIIIIII)I" } : Jvm.MethodName)) ∈ gk_good := gk_in 447 (by decide +kernel) (by decide +kernel)
theorem gw_393 : (Jvm.Cond.code ({ cls := "DarkRoom", name := "cut", desc := "(IIIIIII)I" } : Jvm.MethodName) prog_1_method_8_code (10 : Nat) (Option.some Jvm.ClassFile.FieldType.int)) ∈ gk_good := gk_in 448 (by decide +kernel) (by decide +kernel)
theorem gw_394 : (Jvm.Cond.methodLink "DarkRoomLaw" (47 : Nat) ({ cls := "DarkRoom", name := "turn", desc := "(III)I" } : Jvm.MethodName)) ∈ gk_good := gk_in 449 (by decide +kernel) (by decide +kernel)
theorem gw_395 : (Jvm.Cond.instanceMethod ({ cls := "DarkRoom", name := "turn", desc := "(III)I" } : Jvm.MethodName)) ∈ gk_good := gk_in 450 (by decide +kernel) (by decide +kernel)
theorem gw_396 : (Jvm.Cond.selects "DarkRoom" ({ cls := "DarkRoom", name := "turn", desc := "(III)I" } : Jvm.MethodName) ({ cls := "DarkRoom", name := "turn", desc := "(III)I" } : Jvm.MethodName)) ∈ gk_good := gk_in 451 (by decide +kernel) (by decide +kernel)
theorem gw_397 : (Jvm.Cond.code ({ cls := "DarkRoom", name := "turn", desc := "(III)I" } : Jvm.MethodName) prog_1_method_9_code (5 : Nat) (Option.some Jvm.ClassFile.FieldType.int)) ∈ gk_good := gk_in 452 (by decide +kernel) (by decide +kernel)
theorem gw_398 : (Jvm.Cond.methodLink "DarkRoom" (175 : Nat) ({ cls := "DarkRoom$Picture", name := "turnedFrom", desc := "(LDarkRoom$Picture;IZ)V" } : Jvm.MethodName)) ∈ gk_good := gk_in 453 (by decide +kernel) (by decide +kernel)
theorem gw_399 : (Jvm.Cond.instanceMethod ({ cls := "DarkRoom$Picture", name := "turnedFrom", desc := "(LDarkRoom$Picture;IZ)V" } : Jvm.MethodName)) ∈ gk_good := gk_in 454 (by decide +kernel) (by decide +kernel)
theorem gw_400 : (Jvm.Cond.selects "DarkRoom$Picture" ({ cls := "DarkRoom$Picture", name := "turnedFrom", desc := "(LDarkRoom$Picture;IZ)V" } : Jvm.MethodName) ({ cls := "DarkRoom$Picture", name := "turnedFrom", desc := "(LDarkRoom$Picture;IZ)V" } : Jvm.MethodName)) ∈ gk_good := gk_in 455 (by decide +kernel) (by decide +kernel)
theorem gw_401 : (Jvm.Cond.code ({ cls := "DarkRoom$Picture", name := "turnedFrom", desc := "(LDarkRoom$Picture;IZ)V" } : Jvm.MethodName) prog_8_method_22_code (11 : Nat) (Option.none : Option Jvm.ClassFile.FieldType)) ∈ gk_good := gk_in 456 (by decide +kernel) (by decide +kernel)
theorem gw_402 : (Jvm.Cond.methodLink "DarkRoom$Picture" (83 : Nat) ({ cls := "DarkRoom$Picture", name := "set", desc := "(II)V" } : Jvm.MethodName)) ∈ gk_good := gk_in 457 (by decide +kernel) (by decide +kernel)
theorem gw_403 : (Jvm.Cond.methodLink "DarkRoomLaw" (52 : Nat) ({ cls := "DarkRoom", name := "unlike", desc := "(II)I" } : Jvm.MethodName)) ∈ gk_good := gk_in 458 (by decide +kernel) (by decide +kernel)
theorem gw_404 : (Jvm.Cond.instanceMethod ({ cls := "DarkRoom", name := "unlike", desc := "(II)I" } : Jvm.MethodName)) ∈ gk_good := gk_in 459 (by decide +kernel) (by decide +kernel)
theorem gw_405 : (Jvm.Cond.selects "DarkRoom" ({ cls := "DarkRoom", name := "unlike", desc := "(II)I" } : Jvm.MethodName) ({ cls := "DarkRoom", name := "unlike", desc := "(II)I" } : Jvm.MethodName)) ∈ gk_good := gk_in 460 (by decide +kernel) (by decide +kernel)
theorem gw_406 : (Jvm.Cond.code ({ cls := "DarkRoom", name := "unlike", desc := "(II)I" } : Jvm.MethodName) prog_1_method_10_code (5 : Nat) (Option.some Jvm.ClassFile.FieldType.int)) ∈ gk_good := gk_in 461 (by decide +kernel) (by decide +kernel)
theorem gw_407 : (Jvm.Cond.methodLink "DarkRoomLaw" (56 : Nat) ({ cls := "DarkRoom", name := "filter", desc := "(III)I" } : Jvm.MethodName)) ∈ gk_good := gk_in 462 (by decide +kernel) (by decide +kernel)
theorem gw_408 : (Jvm.Cond.instanceMethod ({ cls := "DarkRoom", name := "filter", desc := "(III)I" } : Jvm.MethodName)) ∈ gk_good := gk_in 463 (by decide +kernel) (by decide +kernel)
theorem gw_409 : (Jvm.Cond.selects "DarkRoom" ({ cls := "DarkRoom", name := "filter", desc := "(III)I" } : Jvm.MethodName) ({ cls := "DarkRoom", name := "filter", desc := "(III)I" } : Jvm.MethodName)) ∈ gk_good := gk_in 464 (by decide +kernel) (by decide +kernel)
theorem gw_410 : (Jvm.Cond.code ({ cls := "DarkRoom", name := "filter", desc := "(III)I" } : Jvm.MethodName) prog_1_method_11_code (7 : Nat) (Option.some Jvm.ClassFile.FieldType.int)) ∈ gk_good := gk_in 465 (by decide +kernel) (by decide +kernel)
theorem gw_411 : (Jvm.Cond.methodLink "DarkRoom" (179 : Nat) ({ cls := "DarkRoom", name := "isFilterTold", desc := "(III)Z" } : Jvm.MethodName)) ∈ gk_good := gk_in 466 (by decide +kernel) (by decide +kernel)
theorem gw_413 : (Jvm.Cond.instanceMethod ({ cls := "DarkRoom", name := "isFilterTold", desc := "(III)Z" } : Jvm.MethodName)) ∈ gk_good := gk_in 468 (by decide +kernel) (by decide +kernel)
theorem gw_414 : (Jvm.Cond.code ({ cls := "DarkRoom", name := "isFilterTold", desc := "(III)Z" } : Jvm.MethodName) prog_1_method_38_code (4 : Nat) (Option.some Jvm.ClassFile.FieldType.boolean)) ∈ gk_good := gk_in 469 (by decide +kernel) (by decide +kernel)
theorem gw_415 : (Jvm.Cond.constant "DarkRoom" (303 : Nat) (-100000 : Int32)) ∈ gk_good := gk_in 470 (by decide +kernel) (by decide +kernel)
theorem gw_416 : (Jvm.Cond.constant "DarkRoom" (304 : Nat) (100000 : Int32)) ∈ gk_good := gk_in 471 (by decide +kernel) (by decide +kernel)
theorem gw_417 : (Jvm.Cond.methodLink "DarkRoom" (182 : Nat) ({ cls := "DarkRoom", name := "partOf", desc := "(I)LDarkRoom$Filter;" } : Jvm.MethodName)) ∈ gk_good := gk_in 472 (by decide +kernel) (by decide +kernel)
theorem gw_419 : (Jvm.Cond.instanceMethod ({ cls := "DarkRoom", name := "partOf", desc := "(I)LDarkRoom$Filter;" } : Jvm.MethodName)) ∈ gk_good := gk_in 474 (by decide +kernel) (by decide +kernel)
theorem gw_420 : (Jvm.Cond.code ({ cls := "DarkRoom", name := "partOf", desc := "(I)LDarkRoom$Filter;" } : Jvm.MethodName) prog_1_method_37_code (2 : Nat) (Option.some (Jvm.ClassFile.FieldType.object "DarkRoom$Filter"))) ∈ gk_good := gk_in 475 (by decide +kernel) (by decide +kernel)
theorem gw_421 : (Jvm.Cond.methodLink "DarkRoom" (209 : Nat) ({ cls := "DarkRoom", name := "isMask", desc := "(I)Z" } : Jvm.MethodName)) ∈ gk_good := gk_in 476 (by decide +kernel) (by decide +kernel)
theorem gw_422 : (Jvm.Cond.static ({ cls := "DarkRoom", name := "isMask", desc := "(I)Z" } : Jvm.MethodName)) ∈ gk_good := gk_in 477 (by decide +kernel) (by decide +kernel)
theorem gw_423 : (Jvm.Cond.code ({ cls := "DarkRoom", name := "isMask", desc := "(I)Z" } : Jvm.MethodName) prog_1_method_32_code (1 : Nat) (Option.some Jvm.ClassFile.FieldType.boolean)) ∈ gk_good := gk_in 478 (by decide +kernel) (by decide +kernel)
theorem gw_424 : (Jvm.Cond.methodLink "DarkRoom" (189 : Nat) ({ cls := "java/lang/Math", name := "max", desc := "(II)I" } : Jvm.MethodName)) ∈ gk_good := gk_in 479 (by decide +kernel) (by decide +kernel)
theorem gw_425 : (Jvm.Cond.constant "DarkRoom" (194 : Nat) (-100003 : Int32)) ∈ gk_good := gk_in 480 (by decide +kernel) (by decide +kernel)
theorem gw_426 : (Jvm.Cond.instantiable "DarkRoom$Filter" (7 : Nat)) ∈ gk_good := gk_in 481 (by decide +kernel) (by decide +kernel)
theorem gw_427 : (Jvm.Cond.methodLink "DarkRoom" (195 : Nat) ({ cls := "DarkRoom$Filter", name := "<init>", desc := "(IIIILDarkRoom$Filter;LDarkRoom$Filter;)V" } : Jvm.MethodName)) ∈ gk_good := gk_in 482 (by decide +kernel) (by decide +kernel)
theorem gw_428 : (Jvm.Cond.instanceMethod ({ cls := "DarkRoom$Filter", name := "<init>", desc := "(IIIILDarkRoom$Filter;LDarkRoom$Filter;)V" } : Jvm.MethodName)) ∈ gk_good := gk_in 483 (by decide +kernel) (by decide +kernel)
theorem gw_429 : (Jvm.Cond.code ({ cls := "DarkRoom$Filter", name := "<init>", desc := "(IIIILDarkRoom$Filter;LDarkRoom$Filter;)V" } : Jvm.MethodName) prog_4_method_1_code (7 : Nat) (Option.none : Option Jvm.ClassFile.FieldType)) ∈ gk_good := gk_in 484 (by decide +kernel) (by decide +kernel)
theorem gw_430 : (Jvm.Cond.methodLink "DarkRoom$Filter" (3 : Nat) ({ cls := "java/lang/Object", name := "<init>", desc := "()V" } : Jvm.MethodName)) ∈ gk_good := gk_in 485 (by decide +kernel) (by decide +kernel)
theorem gw_431 : (Jvm.Cond.fieldLink "DarkRoom$Filter" (9 : Nat) "DarkRoom$Filter" "kind" "I") ∈ gk_good := gk_in 486 (by decide +kernel) (by decide +kernel)
theorem gw_432 : (Jvm.Cond.fieldLink "DarkRoom$Bench" (36 : Nat) "DarkRoom$Filter" "kind" "I") ∈ gk_good := gk_in 487 (by decide +kernel) (by decide +kernel)
theorem gw_433 : (Jvm.Cond.fieldLink "DarkRoom" (198 : Nat) "DarkRoom$Filter" "kind" "I") ∈ gk_good := gk_in 488 (by decide +kernel) (by decide +kernel)
theorem gw_434 : (Jvm.Cond.fieldLink "DarkRoom$Filter" (15 : Nat) "DarkRoom$Filter" "a" "I") ∈ gk_good := gk_in 489 (by decide +kernel) (by decide +kernel)
theorem gw_435 : (Jvm.Cond.fieldLink "DarkRoom$Bench" (54 : Nat) "DarkRoom$Filter" "a" "I") ∈ gk_good := gk_in 490 (by decide +kernel) (by decide +kernel)
theorem gw_436 : (Jvm.Cond.fieldLink "DarkRoom$Filter" (18 : Nat) "DarkRoom$Filter" "b" "I") ∈ gk_good := gk_in 491 (by decide +kernel) (by decide +kernel)
theorem gw_437 : (Jvm.Cond.fieldLink "DarkRoom$Bench" (99 : Nat) "DarkRoom$Filter" "b" "I") ∈ gk_good := gk_in 492 (by decide +kernel) (by decide +kernel)
theorem gw_438 : (Jvm.Cond.fieldLink "DarkRoom$Filter" (21 : Nat) "DarkRoom$Filter" "high" "I") ∈ gk_good := gk_in 493 (by decide +kernel) (by decide +kernel)
theorem gw_439 : (Jvm.Cond.fieldLink "DarkRoom" (186 : Nat) "DarkRoom$Filter" "high" "I") ∈ gk_good := gk_in 494 (by decide +kernel) (by decide +kernel)
theorem gw_440 : (Jvm.Cond.fieldLink "DarkRoom$Filter" (24 : Nat) "DarkRoom$Filter" "first" "LDarkRoom$Filter;") ∈ gk_good := gk_in 495 (by decide +kernel) (by decide +kernel)
theorem gw_441 : (Jvm.Cond.fieldLink "DarkRoom$Bench" (43 : Nat) "DarkRoom$Filter" "first" "LDarkRoom$Filter;") ∈ gk_good := gk_in 496 (by decide +kernel) (by decide +kernel)
theorem gw_442 : (Jvm.Cond.fieldLink "DarkRoom$Filter" (28 : Nat) "DarkRoom$Filter" "second" "LDarkRoom$Filter;") ∈ gk_good := gk_in 497 (by decide +kernel) (by decide +kernel)
theorem gw_443 : (Jvm.Cond.fieldLink "DarkRoom$Bench" (51 : Nat) "DarkRoom$Filter" "second" "LDarkRoom$Filter;") ∈ gk_good := gk_in 498 (by decide +kernel) (by decide +kernel)
theorem gw_444 : (Jvm.Cond.fieldLink "DarkRoom$Filter" (31 : Nat) "DarkRoom$Filter" "weights" "[I") ∈ gk_good := gk_in 499 (by decide +kernel) (by decide +kernel)
theorem gw_460 : (Jvm.Cond.methodLink "DarkRoomLaw" (60 : Nat) ({ cls := "DarkRoom", name := "weight", desc := "(III)I" } : Jvm.MethodName)) ∈ gk_good := gk_in 515 (by decide +kernel) (by decide +kernel)
theorem gw_461 : (Jvm.Cond.instanceMethod ({ cls := "DarkRoom", name := "weight", desc := "(III)I" } : Jvm.MethodName)) ∈ gk_good := gk_in 516 (by decide +kernel) (by decide +kernel)
theorem gw_462 : (Jvm.Cond.selects "DarkRoom" ({ cls := "DarkRoom", name := "weight", desc := "(III)I" } : Jvm.MethodName) ({ cls := "DarkRoom", name := "weight", desc := "(III)I" } : Jvm.MethodName)) ∈ gk_good := gk_in 517 (by decide +kernel) (by decide +kernel)
theorem gw_463 : (Jvm.Cond.code ({ cls := "DarkRoom", name := "weight", desc := "(III)I" } : Jvm.MethodName) prog_1_method_12_code (6 : Nat) (Option.some Jvm.ClassFile.FieldType.int)) ∈ gk_good := gk_in 518 (by decide +kernel) (by decide +kernel)
theorem gw_464 : (Jvm.Cond.methodLink "DarkRoom" (199 : Nat) ({ cls := "DarkRoom$Filter", name := "weightAt", desc := "(I)I" } : Jvm.MethodName)) ∈ gk_good := gk_in 519 (by decide +kernel) (by decide +kernel)
theorem gw_465 : (Jvm.Cond.instanceMethod ({ cls := "DarkRoom$Filter", name := "weightAt", desc := "(I)I" } : Jvm.MethodName)) ∈ gk_good := gk_in 520 (by decide +kernel) (by decide +kernel)
theorem gw_466 : (Jvm.Cond.selects "DarkRoom$Filter" ({ cls := "DarkRoom$Filter", name := "weightAt", desc := "(I)I" } : Jvm.MethodName) ({ cls := "DarkRoom$Filter", name := "weightAt", desc := "(I)I" } : Jvm.MethodName)) ∈ gk_good := gk_in 521 (by decide +kernel) (by decide +kernel)
theorem gw_467 : (Jvm.Cond.code ({ cls := "DarkRoom$Filter", name := "weightAt", desc := "(I)I" } : Jvm.MethodName) prog_4_method_2_code (2 : Nat) (Option.some Jvm.ClassFile.FieldType.int)) ∈ gk_good := gk_in 522 (by decide +kernel) (by decide +kernel)
theorem gw_468 : (Jvm.Cond.methodLink "DarkRoom" (202 : Nat) ({ cls := "DarkRoom$Filter", name := "weigh", desc := "(II)V" } : Jvm.MethodName)) ∈ gk_good := gk_in 523 (by decide +kernel) (by decide +kernel)
theorem gw_469 : (Jvm.Cond.instanceMethod ({ cls := "DarkRoom$Filter", name := "weigh", desc := "(II)V" } : Jvm.MethodName)) ∈ gk_good := gk_in 524 (by decide +kernel) (by decide +kernel)
theorem gw_470 : (Jvm.Cond.selects "DarkRoom$Filter" ({ cls := "DarkRoom$Filter", name := "weigh", desc := "(II)V" } : Jvm.MethodName) ({ cls := "DarkRoom$Filter", name := "weigh", desc := "(II)V" } : Jvm.MethodName)) ∈ gk_good := gk_in 525 (by decide +kernel) (by decide +kernel)
theorem gw_471 : (Jvm.Cond.code ({ cls := "DarkRoom$Filter", name := "weigh", desc := "(II)V" } : Jvm.MethodName) prog_4_method_3_code (3 : Nat) (Option.none : Option Jvm.ClassFile.FieldType)) ∈ gk_good := gk_in 526 (by decide +kernel) (by decide +kernel)
theorem gw_472 : (Jvm.Cond.methodLink "DarkRoomLaw" (64 : Nat) ({ cls := "DarkRoom", name := "apply", desc := "(III)I" } : Jvm.MethodName)) ∈ gk_good := gk_in 527 (by decide +kernel) (by decide +kernel)
theorem gw_473 : (Jvm.Cond.instanceMethod ({ cls := "DarkRoom", name := "apply", desc := "(III)I" } : Jvm.MethodName)) ∈ gk_good := gk_in 528 (by decide +kernel) (by decide +kernel)
theorem gw_474 : (Jvm.Cond.selects "DarkRoom" ({ cls := "DarkRoom", name := "apply", desc := "(III)I" } : Jvm.MethodName) ({ cls := "DarkRoom", name := "apply", desc := "(III)I" } : Jvm.MethodName)) ∈ gk_good := gk_in 529 (by decide +kernel) (by decide +kernel)
theorem gw_475 : (Jvm.Cond.code ({ cls := "DarkRoom", name := "apply", desc := "(III)I" } : Jvm.MethodName) prog_1_method_13_code (7 : Nat) (Option.some Jvm.ClassFile.FieldType.int)) ∈ gk_good := gk_in 530 (by decide +kernel) (by decide +kernel)
theorem gw_477 : (Jvm.Cond.static ({ cls := "DarkRoom$Bench", name := "develop", desc := "(LDarkRoom$Bench;LDarkRoom$Filter;LDarkRoom$Picture;LDarkRoom$Picture;[LDarkRoom$Mask;II)V" } : Jvm.MethodName)) ∈ gk_good := gk_in 532 (by decide +kernel) (by decide +kernel)
theorem gw_478 : (Jvm.Cond.code ({ cls := "DarkRoom$Bench", name := "develop", desc := "(LDarkRoom$Bench;LDarkRoom$Filter;LDarkRoom$Picture;LDarkRoom$Picture;[LDarkRoom$Mask;II)V" } : Jvm.MethodName) prog_3_method_2_code (8 : Nat) (Option.none : Option Jvm.ClassFile.FieldType)) ∈ gk_good := gk_in 533 (by decide +kernel) (by decide +kernel)
theorem gw_479 : (Jvm.Cond.methodLink "DarkRoom$Bench" (32 : Nat) ({ cls := "DarkRoom$Picture", name := "shape", desc := "(III)V" } : Jvm.MethodName)) ∈ gk_good := gk_in 534 (by decide +kernel) (by decide +kernel)
theorem gw_480 : (Jvm.Cond.methodLink "DarkRoom$Bench" (39 : Nat) ({ cls := "DarkRoom$Bench", name := "developAround", desc := "(LDarkRoom$Filter;LDarkRoom$Picture;LDarkRoom$Picture;I)V" } : Jvm.MethodName)) ∈ gk_good := gk_in 535 (by decide +kernel) (by decide +kernel)
theorem gw_482 : (Jvm.Cond.instanceMethod ({ cls := "DarkRoom$Bench", name := "developAround", desc := "(LDarkRoom$Filter;LDarkRoom$Picture;LDarkRoom$Picture;I)V" } : Jvm.MethodName)) ∈ gk_good := gk_in 537 (by decide +kernel) (by decide +kernel)
theorem gw_483 : (Jvm.Cond.code ({ cls := "DarkRoom$Bench", name := "developAround", desc := "(LDarkRoom$Filter;LDarkRoom$Picture;LDarkRoom$Picture;I)V" } : Jvm.MethodName) prog_3_method_5_code (8 : Nat) (Option.none : Option Jvm.ClassFile.FieldType)) ∈ gk_good := gk_in 538 (by decide +kernel) (by decide +kernel)
theorem gw_484 : (Jvm.Cond.methodLink "DarkRoom$Bench" (106 : Nat) ({ cls := "DarkRoom$Bench", name := "gather", desc := "(LDarkRoom$Picture;III)V" } : Jvm.MethodName)) ∈ gk_good := gk_in 539 (by decide +kernel) (by decide +kernel)
theorem gw_486 : (Jvm.Cond.instanceMethod ({ cls := "DarkRoom$Bench", name := "gather", desc := "(LDarkRoom$Picture;III)V" } : Jvm.MethodName)) ∈ gk_good := gk_in 541 (by decide +kernel) (by decide +kernel)
theorem gw_487 : (Jvm.Cond.code ({ cls := "DarkRoom$Bench", name := "gather", desc := "(LDarkRoom$Picture;III)V" } : Jvm.MethodName) prog_3_method_6_code (6 : Nat) (Option.none : Option Jvm.ClassFile.FieldType)) ∈ gk_good := gk_in 542 (by decide +kernel) (by decide +kernel)
theorem gw_488 : (Jvm.Cond.methodLink "DarkRoom$Bench" (121 : Nat) ({ cls := "DarkRoom$Picture", name := "seen", desc := "(III)I" } : Jvm.MethodName)) ∈ gk_good := gk_in 543 (by decide +kernel) (by decide +kernel)
theorem gw_489 : (Jvm.Cond.methodLink "DarkRoom$Bench" (110 : Nat) ({ cls := "DarkRoom$Bench", name := "weighed", desc := "(LDarkRoom$Filter;)J" } : Jvm.MethodName)) ∈ gk_good := gk_in 544 (by decide +kernel) (by decide +kernel)
theorem gw_491 : (Jvm.Cond.instanceMethod ({ cls := "DarkRoom$Bench", name := "weighed", desc := "(LDarkRoom$Filter;)J" } : Jvm.MethodName)) ∈ gk_good := gk_in 546 (by decide +kernel) (by decide +kernel)
theorem gw_492 : (Jvm.Cond.code ({ cls := "DarkRoom$Bench", name := "weighed", desc := "(LDarkRoom$Filter;)J" } : Jvm.MethodName) prog_3_method_7_code (5 : Nat) (Option.some Jvm.ClassFile.FieldType.long)) ∈ gk_good := gk_in 547 (by decide +kernel) (by decide +kernel)
theorem gw_493 : (Jvm.Cond.methodLink "DarkRoom$Bench" (125 : Nat) ({ cls := "DarkRoom$Filter", name := "weightAt", desc := "(I)I" } : Jvm.MethodName)) ∈ gk_good := gk_in 548 (by decide +kernel) (by decide +kernel)
theorem gw_495 : (Jvm.Cond.static ({ cls := "DarkRoom", name := "nearest", desc := "(JJ)J" } : Jvm.MethodName)) ∈ gk_good := gk_in 550 (by decide +kernel) (by decide +kernel)
theorem gw_496 : (Jvm.Cond.code ({ cls := "DarkRoom", name := "nearest", desc := "(JJ)J" } : Jvm.MethodName) prog_1_method_36_code (4 : Nat) (Option.some Jvm.ClassFile.FieldType.long)) ∈ gk_good := gk_in 551 (by decide +kernel) (by decide +kernel)
theorem gw_497 : (Jvm.Cond.constantLong "DarkRoom" (297 : Nat) (2 : Int64)) ∈ gk_good := gk_in 552 (by decide +kernel) (by decide +kernel)
theorem gw_498 : (Jvm.Cond.methodLink "DarkRoom" (299 : Nat) ({ cls := "java/lang/Math", name := "floorDiv", desc := "(JJ)J" } : Jvm.MethodName)) ∈ gk_good := gk_in 553 (by decide +kernel) (by decide +kernel)
theorem gw_499 : (Jvm.Cond.static ({ cls := "java/lang/Math", name := "floorDiv", desc := "(JJ)J" } : Jvm.MethodName)) ∈ gk_good := gk_in 554 (by decide +kernel) (by decide +kernel)
theorem gw_500 : (Jvm.Cond.code ({ cls := "java/lang/Math", name := "floorDiv", desc := "(JJ)J" } : Jvm.MethodName) prog_15_method_49_code (6 : Nat) (Option.some Jvm.ClassFile.FieldType.long)) ∈ gk_good := gk_in 555 (by decide +kernel) (by decide +kernel)
theorem gw_501 : (Jvm.Cond.methodLink "DarkRoom$Bench" (89 : Nat) ({ cls := "DarkRoom$Picture", name := "kept", desc := "(J)I" } : Jvm.MethodName)) ∈ gk_good := gk_in 556 (by decide +kernel) (by decide +kernel)
theorem gw_502 : (Jvm.Cond.methodLink "DarkRoom$Bench" (114 : Nat) ({ cls := "DarkRoom$Bench", name := "ranked", desc := "(I)I" } : Jvm.MethodName)) ∈ gk_good := gk_in 557 (by decide +kernel) (by decide +kernel)
theorem gw_504 : (Jvm.Cond.instanceMethod ({ cls := "DarkRoom$Bench", name := "ranked", desc := "(I)I" } : Jvm.MethodName)) ∈ gk_good := gk_in 559 (by decide +kernel) (by decide +kernel)
theorem gw_505 : (Jvm.Cond.code ({ cls := "DarkRoom$Bench", name := "ranked", desc := "(I)I" } : Jvm.MethodName) prog_3_method_8_code (5 : Nat) (Option.some Jvm.ClassFile.FieldType.int)) ∈ gk_good := gk_in 560 (by decide +kernel) (by decide +kernel)
theorem gw_506 : (Jvm.Cond.methodLink "DarkRoom$Bench" (117 : Nat) ({ cls := "DarkRoom$Picture", name := "place", desc := "(II)I" } : Jvm.MethodName)) ∈ gk_good := gk_in 561 (by decide +kernel) (by decide +kernel)
theorem gw_507 : (Jvm.Cond.methodLink "DarkRoom$Bench" (85 : Nat) ({ cls := "DarkRoom$Picture", name := "set", desc := "(II)V" } : Jvm.MethodName)) ∈ gk_good := gk_in 562 (by decide +kernel) (by decide +kernel)
theorem gw_508 : (Jvm.Cond.methodLink "DarkRoom$Bench" (47 : Nat) ({ cls := "DarkRoom$Bench", name := "develop", desc := "(LDarkRoom$Bench;LDarkRoom$Filter;LDarkRoom$Picture;LDarkRoom$Picture;[LDarkRoom$Mask;II)V" } : Jvm.MethodName)) ∈ gk_good := gk_in 563 (by decide +kernel) (by decide +kernel)
theorem gw_510 : (Jvm.Cond.methodLink "DarkRoom$Bench" (61 : Nat) ({ cls := "DarkRoom$Bench", name := "restoreUnlit", desc := "(LDarkRoom$Mask;LDarkRoom$Picture;LDarkRoom$Picture;)V" } : Jvm.MethodName)) ∈ gk_good := gk_in 565 (by decide +kernel) (by decide +kernel)
theorem gw_511 : (Jvm.Cond.static ({ cls := "DarkRoom$Bench", name := "restoreUnlit", desc := "(LDarkRoom$Mask;LDarkRoom$Picture;LDarkRoom$Picture;)V" } : Jvm.MethodName)) ∈ gk_good := gk_in 566 (by decide +kernel) (by decide +kernel)
theorem gw_512 : (Jvm.Cond.code ({ cls := "DarkRoom$Bench", name := "restoreUnlit", desc := "(LDarkRoom$Mask;LDarkRoom$Picture;LDarkRoom$Picture;)V" } : Jvm.MethodName) prog_3_method_9_code (5 : Nat) (Option.none : Option Jvm.ClassFile.FieldType)) ∈ gk_good := gk_in 567 (by decide +kernel) (by decide +kernel)
theorem gw_513 : (Jvm.Cond.methodLink "DarkRoom$Bench" (128 : Nat) ({ cls := "DarkRoom$Mask", name := "lit", desc := "(II)Z" } : Jvm.MethodName)) ∈ gk_good := gk_in 568 (by decide +kernel) (by decide +kernel)
theorem gw_514 : (Jvm.Cond.instanceMethod ({ cls := "DarkRoom$Mask", name := "lit", desc := "(II)Z" } : Jvm.MethodName)) ∈ gk_good := gk_in 569 (by decide +kernel) (by decide +kernel)
theorem gw_515 : (Jvm.Cond.selects "DarkRoom$Mask" ({ cls := "DarkRoom$Mask", name := "lit", desc := "(II)Z" } : Jvm.MethodName) ({ cls := "DarkRoom$Mask", name := "lit", desc := "(II)Z" } : Jvm.MethodName)) ∈ gk_good := gk_in 570 (by decide +kernel) (by decide +kernel)
theorem gw_516 : (Jvm.Cond.code ({ cls := "DarkRoom$Mask", name := "lit", desc := "(II)Z" } : Jvm.MethodName) prog_7_method_4_code (3 : Nat) (Option.some Jvm.ClassFile.FieldType.boolean)) ∈ gk_good := gk_in 571 (by decide +kernel) (by decide +kernel)
theorem gw_518 : (Jvm.Cond.static ({ cls := "DarkRoom", name := "isOfMask", desc := "(II)Z" } : Jvm.MethodName)) ∈ gk_good := gk_in 573 (by decide +kernel) (by decide +kernel)
theorem gw_519 : (Jvm.Cond.code ({ cls := "DarkRoom", name := "isOfMask", desc := "(II)Z" } : Jvm.MethodName) prog_1_method_33_code (2 : Nat) (Option.some Jvm.ClassFile.FieldType.boolean)) ∈ gk_good := gk_in 574 (by decide +kernel) (by decide +kernel)
theorem gw_520 : (Jvm.Cond.methodLink "DarkRoom$Bench" (77 : Nat) ({ cls := "DarkRoom$Picture", name := "pixel", desc := "(I)I" } : Jvm.MethodName)) ∈ gk_good := gk_in 575 (by decide +kernel) (by decide +kernel)
theorem gw_521 : (Jvm.Cond.methodLink "DarkRoom$Bench" (65 : Nat) ({ cls := "DarkRoom$Bench", name := "halve", desc := "(LDarkRoom$Picture;LDarkRoom$Picture;)V" } : Jvm.MethodName)) ∈ gk_good := gk_in 576 (by decide +kernel) (by decide +kernel)
theorem gw_522 : (Jvm.Cond.static ({ cls := "DarkRoom$Bench", name := "halve", desc := "(LDarkRoom$Picture;LDarkRoom$Picture;)V" } : Jvm.MethodName)) ∈ gk_good := gk_in 577 (by decide +kernel) (by decide +kernel)
theorem gw_523 : (Jvm.Cond.code ({ cls := "DarkRoom$Bench", name := "halve", desc := "(LDarkRoom$Picture;LDarkRoom$Picture;)V" } : Jvm.MethodName) prog_3_method_10_code (3 : Nat) (Option.none : Option Jvm.ClassFile.FieldType)) ∈ gk_good := gk_in 578 (by decide +kernel) (by decide +kernel)
theorem gw_524 : (Jvm.Cond.methodLink "DarkRoom$Bench" (73 : Nat) ({ cls := "DarkRoom$Picture", name := "area", desc := "()I" } : Jvm.MethodName)) ∈ gk_good := gk_in 579 (by decide +kernel) (by decide +kernel)
theorem gw_525 : (Jvm.Cond.methodLink "DarkRoom$Bench" (69 : Nat) ({ cls := "DarkRoom$Bench", name := "developEach", desc := "(LDarkRoom$Filter;LDarkRoom$Picture;LDarkRoom$Picture;)V" } : Jvm.MethodName)) ∈ gk_good := gk_in 580 (by decide +kernel) (by decide +kernel)
theorem gw_526 : (Jvm.Cond.static ({ cls := "DarkRoom$Bench", name := "developEach", desc := "(LDarkRoom$Filter;LDarkRoom$Picture;LDarkRoom$Picture;)V" } : Jvm.MethodName)) ∈ gk_good := gk_in 581 (by decide +kernel) (by decide +kernel)
theorem gw_527 : (Jvm.Cond.code ({ cls := "DarkRoom$Bench", name := "developEach", desc := "(LDarkRoom$Filter;LDarkRoom$Picture;LDarkRoom$Picture;)V" } : Jvm.MethodName) prog_3_method_3_code (4 : Nat) (Option.none : Option Jvm.ClassFile.FieldType)) ∈ gk_good := gk_in 582 (by decide +kernel) (by decide +kernel)
theorem gw_528 : (Jvm.Cond.methodLink "DarkRoom$Bench" (81 : Nat) ({ cls := "DarkRoom$Bench", name := "madeOf", desc := "(LDarkRoom$Filter;LDarkRoom$Picture;I)I" } : Jvm.MethodName)) ∈ gk_good := gk_in 583 (by decide +kernel) (by decide +kernel)
theorem gw_529 : (Jvm.Cond.static ({ cls := "DarkRoom$Bench", name := "madeOf", desc := "(LDarkRoom$Filter;LDarkRoom$Picture;I)I" } : Jvm.MethodName)) ∈ gk_good := gk_in 584 (by decide +kernel) (by decide +kernel)
theorem gw_530 : (Jvm.Cond.code ({ cls := "DarkRoom$Bench", name := "madeOf", desc := "(LDarkRoom$Filter;LDarkRoom$Picture;I)I" } : Jvm.MethodName) prog_3_method_4_code (3 : Nat) (Option.some Jvm.ClassFile.FieldType.int)) ∈ gk_good := gk_in 585 (by decide +kernel) (by decide +kernel)
theorem gw_531 : (Jvm.Cond.methodLink "DarkRoom$Bench" (93 : Nat) ({ cls := "DarkRoom$Picture", name := "least", desc := "()I" } : Jvm.MethodName)) ∈ gk_good := gk_in 586 (by decide +kernel) (by decide +kernel)
theorem gw_532 : (Jvm.Cond.methodLink "DarkRoom$Bench" (96 : Nat) ({ cls := "DarkRoom$Picture", name := "greatest", desc := "()I" } : Jvm.MethodName)) ∈ gk_good := gk_in 587 (by decide +kernel) (by decide +kernel)
theorem gw_533 : (Jvm.Cond.methodLink "DarkRoomLaw" (68 : Nat) ({ cls := "DarkRoom", name := "mask", desc := "(IIIZ)I" } : Jvm.MethodName)) ∈ gk_good := gk_in 588 (by decide +kernel) (by decide +kernel)
theorem gw_534 : (Jvm.Cond.instanceMethod ({ cls := "DarkRoom", name := "mask", desc := "(IIIZ)I" } : Jvm.MethodName)) ∈ gk_good := gk_in 589 (by decide +kernel) (by decide +kernel)
theorem gw_535 : (Jvm.Cond.selects "DarkRoom" ({ cls := "DarkRoom", name := "mask", desc := "(IIIZ)I" } : Jvm.MethodName) ({ cls := "DarkRoom", name := "mask", desc := "(IIIZ)I" } : Jvm.MethodName)) ∈ gk_good := gk_in 590 (by decide +kernel) (by decide +kernel)
theorem gw_536 : (Jvm.Cond.code ({ cls := "DarkRoom", name := "mask", desc := "(IIIZ)I" } : Jvm.MethodName) prog_1_method_14_code (7 : Nat) (Option.some Jvm.ClassFile.FieldType.int)) ∈ gk_good := gk_in 591 (by decide +kernel) (by decide +kernel)
theorem gw_537 : (Jvm.Cond.methodLink "DarkRoom" (212 : Nat) ({ cls := "DarkRoom", name := "isOfMask", desc := "(II)Z" } : Jvm.MethodName)) ∈ gk_good := gk_in 592 (by decide +kernel) (by decide +kernel)
theorem gw_538 : (Jvm.Cond.methodLink "DarkRoom" (215 : Nat) ({ cls := "DarkRoom$Mask", name := "lit", desc := "(II)Z" } : Jvm.MethodName)) ∈ gk_good := gk_in 593 (by decide +kernel) (by decide +kernel)
theorem gw_539 : (Jvm.Cond.methodLink "DarkRoom" (218 : Nat) ({ cls := "DarkRoom$Mask", name := "copyFrom", desc := "(LDarkRoom$Mask;)V" } : Jvm.MethodName)) ∈ gk_good := gk_in 594 (by decide +kernel) (by decide +kernel)
theorem gw_540 : (Jvm.Cond.instanceMethod ({ cls := "DarkRoom$Mask", name := "copyFrom", desc := "(LDarkRoom$Mask;)V" } : Jvm.MethodName)) ∈ gk_good := gk_in 595 (by decide +kernel) (by decide +kernel)
theorem gw_541 : (Jvm.Cond.selects "DarkRoom$Mask" ({ cls := "DarkRoom$Mask", name := "copyFrom", desc := "(LDarkRoom$Mask;)V" } : Jvm.MethodName) ({ cls := "DarkRoom$Mask", name := "copyFrom", desc := "(LDarkRoom$Mask;)V" } : Jvm.MethodName)) ∈ gk_good := gk_in 596 (by decide +kernel) (by decide +kernel)
theorem gw_542 : (Jvm.Cond.code ({ cls := "DarkRoom$Mask", name := "copyFrom", desc := "(LDarkRoom$Mask;)V" } : Jvm.MethodName) prog_7_method_3_code (2 : Nat) (Option.none : Option Jvm.ClassFile.FieldType)) ∈ gk_good := gk_in 597 (by decide +kernel) (by decide +kernel)
theorem gw_543 : (Jvm.Cond.methodLink "DarkRoom$Mask" (21 : Nat) ({ cls := "java/lang/System", name := "arraycopy", desc := "(Ljava/lang/Object;ILjava/lang/Object;II)V" } : Jvm.MethodName)) ∈ gk_good := gk_in 598 (by decide +kernel) (by decide +kernel)
theorem gw_544 : (Jvm.Cond.methodLink "DarkRoom" (221 : Nat) ({ cls := "DarkRoom$Mask", name := "light", desc := "(IIZ)V" } : Jvm.MethodName)) ∈ gk_good := gk_in 599 (by decide +kernel) (by decide +kernel)
theorem gw_545 : (Jvm.Cond.instanceMethod ({ cls := "DarkRoom$Mask", name := "light", desc := "(IIZ)V" } : Jvm.MethodName)) ∈ gk_good := gk_in 600 (by decide +kernel) (by decide +kernel)
theorem gw_546 : (Jvm.Cond.selects "DarkRoom$Mask" ({ cls := "DarkRoom$Mask", name := "light", desc := "(IIZ)V" } : Jvm.MethodName) ({ cls := "DarkRoom$Mask", name := "light", desc := "(IIZ)V" } : Jvm.MethodName)) ∈ gk_good := gk_in 601 (by decide +kernel) (by decide +kernel)
theorem gw_547 : (Jvm.Cond.code ({ cls := "DarkRoom$Mask", name := "light", desc := "(IIZ)V" } : Jvm.MethodName) prog_7_method_5_code (4 : Nat) (Option.none : Option Jvm.ClassFile.FieldType)) ∈ gk_good := gk_in 602 (by decide +kernel) (by decide +kernel)
theorem gw_548 : (Jvm.Cond.methodLink "DarkRoom" (225 : Nat) ({ cls := "DarkRoom", name := "keepMask", desc := "(I)V" } : Jvm.MethodName)) ∈ gk_good := gk_in 603 (by decide +kernel) (by decide +kernel)
theorem gw_550 : (Jvm.Cond.instanceMethod ({ cls := "DarkRoom", name := "keepMask", desc := "(I)V" } : Jvm.MethodName)) ∈ gk_good := gk_in 605 (by decide +kernel) (by decide +kernel)
theorem gw_551 : (Jvm.Cond.code ({ cls := "DarkRoom", name := "keepMask", desc := "(I)V" } : Jvm.MethodName) prog_1_method_41_code (4 : Nat) (Option.none : Option Jvm.ClassFile.FieldType)) ∈ gk_good := gk_in 606 (by decide +kernel) (by decide +kernel)
theorem gw_552 : (Jvm.Cond.methodLink "DarkRoomLaw" (73 : Nat) ({ cls := "DarkRoom", name := "maskOf", desc := "(IIII)I" } : Jvm.MethodName)) ∈ gk_good := gk_in 607 (by decide +kernel) (by decide +kernel)
theorem gw_553 : (Jvm.Cond.instanceMethod ({ cls := "DarkRoom", name := "maskOf", desc := "(IIII)I" } : Jvm.MethodName)) ∈ gk_good := gk_in 608 (by decide +kernel) (by decide +kernel)
theorem gw_554 : (Jvm.Cond.selects "DarkRoom" ({ cls := "DarkRoom", name := "maskOf", desc := "(IIII)I" } : Jvm.MethodName) ({ cls := "DarkRoom", name := "maskOf", desc := "(IIII)I" } : Jvm.MethodName)) ∈ gk_good := gk_in 609 (by decide +kernel) (by decide +kernel)
theorem gw_555 : (Jvm.Cond.code ({ cls := "DarkRoom", name := "maskOf", desc := "(IIII)I" } : Jvm.MethodName) prog_1_method_15_code (8 : Nat) (Option.some Jvm.ClassFile.FieldType.int)) ∈ gk_good := gk_in 610 (by decide +kernel) (by decide +kernel)
theorem gw_556 : (Jvm.Cond.methodLink "DarkRoom" (228 : Nat) ({ cls := "DarkRoom$Mask", name := "darken", desc := "()V" } : Jvm.MethodName)) ∈ gk_good := gk_in 611 (by decide +kernel) (by decide +kernel)
theorem gw_557 : (Jvm.Cond.instanceMethod ({ cls := "DarkRoom$Mask", name := "darken", desc := "()V" } : Jvm.MethodName)) ∈ gk_good := gk_in 612 (by decide +kernel) (by decide +kernel)
theorem gw_558 : (Jvm.Cond.selects "DarkRoom$Mask" ({ cls := "DarkRoom$Mask", name := "darken", desc := "()V" } : Jvm.MethodName) ({ cls := "DarkRoom$Mask", name := "darken", desc := "()V" } : Jvm.MethodName)) ∈ gk_good := gk_in 613 (by decide +kernel) (by decide +kernel)
theorem gw_559 : (Jvm.Cond.code ({ cls := "DarkRoom$Mask", name := "darken", desc := "()V" } : Jvm.MethodName) prog_7_method_2_code (1 : Nat) (Option.none : Option Jvm.ClassFile.FieldType)) ∈ gk_good := gk_in 614 (by decide +kernel) (by decide +kernel)
theorem gw_560 : (Jvm.Cond.methodLink "DarkRoom$Mask" (15 : Nat) ({ cls := "java/util/Arrays", name := "fill", desc := "([II)V" } : Jvm.MethodName)) ∈ gk_good := gk_in 615 (by decide +kernel) (by decide +kernel)
theorem gw_561 : (Jvm.Cond.methodLink "DarkRoom" (231 : Nat) ({ cls := "DarkRoom$Mask", name := "howMany", desc := "()I" } : Jvm.MethodName)) ∈ gk_good := gk_in 616 (by decide +kernel) (by decide +kernel)
theorem gw_562 : (Jvm.Cond.instanceMethod ({ cls := "DarkRoom$Mask", name := "howMany", desc := "()I" } : Jvm.MethodName)) ∈ gk_good := gk_in 617 (by decide +kernel) (by decide +kernel)
theorem gw_563 : (Jvm.Cond.selects "DarkRoom$Mask" ({ cls := "DarkRoom$Mask", name := "howMany", desc := "()I" } : Jvm.MethodName) ({ cls := "DarkRoom$Mask", name := "howMany", desc := "()I" } : Jvm.MethodName)) ∈ gk_good := gk_in 618 (by decide +kernel) (by decide +kernel)
theorem gw_564 : (Jvm.Cond.code ({ cls := "DarkRoom$Mask", name := "howMany", desc := "()I" } : Jvm.MethodName) prog_7_method_6_code (3 : Nat) (Option.some Jvm.ClassFile.FieldType.int)) ∈ gk_good := gk_in 619 (by decide +kernel) (by decide +kernel)
theorem gw_565 : (Jvm.Cond.methodLink "DarkRoom$Mask" (31 : Nat) ({ cls := "java/lang/Integer", name := "bitCount", desc := "(I)I" } : Jvm.MethodName)) ∈ gk_good := gk_in 620 (by decide +kernel) (by decide +kernel)
theorem gw_566 : (Jvm.Cond.static ({ cls := "java/lang/Integer", name := "bitCount", desc := "(I)I" } : Jvm.MethodName)) ∈ gk_good := gk_in 621 (by decide +kernel) (by decide +kernel)
theorem gw_567 : (Jvm.Cond.code ({ cls := "java/lang/Integer", name := "bitCount", desc := "(I)I" } : Jvm.MethodName) prog_14_method_49_code (1 : Nat) (Option.some Jvm.ClassFile.FieldType.int)) ∈ gk_good := gk_in 622 (by decide +kernel) (by decide +kernel)
theorem gw_568 : (Jvm.Cond.constant "java/lang/Integer" (265 : Nat) (1431655765 : Int32)) ∈ gk_good := gk_in 623 (by decide +kernel) (by decide +kernel)
theorem gw_569 : (Jvm.Cond.constant "java/lang/Integer" (266 : Nat) (858993459 : Int32)) ∈ gk_good := gk_in 624 (by decide +kernel) (by decide +kernel)
theorem gw_570 : (Jvm.Cond.constant "java/lang/Integer" (267 : Nat) (252645135 : Int32)) ∈ gk_good := gk_in 625 (by decide +kernel) (by decide +kernel)
theorem gw_571 : (Jvm.Cond.methodLink "DarkRoomLaw" (77 : Nat) ({ cls := "DarkRoom", name := "maskBy", desc := "(III)I" } : Jvm.MethodName)) ∈ gk_good := gk_in 626 (by decide +kernel) (by decide +kernel)
theorem gw_572 : (Jvm.Cond.instanceMethod ({ cls := "DarkRoom", name := "maskBy", desc := "(III)I" } : Jvm.MethodName)) ∈ gk_good := gk_in 627 (by decide +kernel) (by decide +kernel)
theorem gw_573 : (Jvm.Cond.selects "DarkRoom" ({ cls := "DarkRoom", name := "maskBy", desc := "(III)I" } : Jvm.MethodName) ({ cls := "DarkRoom", name := "maskBy", desc := "(III)I" } : Jvm.MethodName)) ∈ gk_good := gk_in 628 (by decide +kernel) (by decide +kernel)
theorem gw_574 : (Jvm.Cond.code ({ cls := "DarkRoom", name := "maskBy", desc := "(III)I" } : Jvm.MethodName) prog_1_method_16_code (4 : Nat) (Option.some Jvm.ClassFile.FieldType.int)) ∈ gk_good := gk_in 629 (by decide +kernel) (by decide +kernel)
theorem gw_575 : (Jvm.Cond.methodLink "DarkRoom" (234 : Nat) ({ cls := "DarkRoom$Mask", name := "joinedFrom", desc := "(LDarkRoom$Mask;LDarkRoom$Mask;I)V" } : Jvm.MethodName)) ∈ gk_good := gk_in 630 (by decide +kernel) (by decide +kernel)
theorem gw_576 : (Jvm.Cond.instanceMethod ({ cls := "DarkRoom$Mask", name := "joinedFrom", desc := "(LDarkRoom$Mask;LDarkRoom$Mask;I)V" } : Jvm.MethodName)) ∈ gk_good := gk_in 631 (by decide +kernel) (by decide +kernel)
theorem gw_577 : (Jvm.Cond.selects "DarkRoom$Mask" ({ cls := "DarkRoom$Mask", name := "joinedFrom", desc := "(LDarkRoom$Mask;LDarkRoom$Mask;I)V" } : Jvm.MethodName) ({ cls := "DarkRoom$Mask", name := "joinedFrom", desc := "(LDarkRoom$Mask;LDarkRoom$Mask;I)V" } : Jvm.MethodName)) ∈ gk_good := gk_in 632 (by decide +kernel) (by decide +kernel)
theorem gw_578 : (Jvm.Cond.code ({ cls := "DarkRoom$Mask", name := "joinedFrom", desc := "(LDarkRoom$Mask;LDarkRoom$Mask;I)V" } : Jvm.MethodName) prog_7_method_7_code (5 : Nat) (Option.none : Option Jvm.ClassFile.FieldType)) ∈ gk_good := gk_in 633 (by decide +kernel) (by decide +kernel)
theorem gw_579 : (Jvm.Cond.methodLink "DarkRoom$Mask" (37 : Nat) ({ cls := "DarkRoom$Mask", name := "joinedRow", desc := "(ILDarkRoom$Mask;II)I" } : Jvm.MethodName)) ∈ gk_good := gk_in 634 (by decide +kernel) (by decide +kernel)
theorem gw_580 : (Jvm.Cond.static ({ cls := "DarkRoom$Mask", name := "joinedRow", desc := "(ILDarkRoom$Mask;II)I" } : Jvm.MethodName)) ∈ gk_good := gk_in 635 (by decide +kernel) (by decide +kernel)
theorem gw_581 : (Jvm.Cond.code ({ cls := "DarkRoom$Mask", name := "joinedRow", desc := "(ILDarkRoom$Mask;II)I" } : Jvm.MethodName) prog_7_method_8_code (5 : Nat) (Option.some Jvm.ClassFile.FieldType.int)) ∈ gk_good := gk_in 636 (by decide +kernel) (by decide +kernel)
theorem gw_582 : (Jvm.Cond.methodLink "DarkRoom$Mask" (42 : Nat) ({ cls := "DarkRoom$Mask", name := "row", desc := "(II)I" } : Jvm.MethodName)) ∈ gk_good := gk_in 637 (by decide +kernel) (by decide +kernel)
theorem gw_584 : (Jvm.Cond.instanceMethod ({ cls := "DarkRoom$Mask", name := "row", desc := "(II)I" } : Jvm.MethodName)) ∈ gk_good := gk_in 639 (by decide +kernel) (by decide +kernel)
theorem gw_585 : (Jvm.Cond.code ({ cls := "DarkRoom$Mask", name := "row", desc := "(II)I" } : Jvm.MethodName) prog_7_method_9_code (3 : Nat) (Option.some Jvm.ClassFile.FieldType.int)) ∈ gk_good := gk_in 640 (by decide +kernel) (by decide +kernel)
theorem gw_586 : (Jvm.Cond.constant "DarkRoom$Mask" (46 : Nat) (32768 : Int32)) ∈ gk_good := gk_in 641 (by decide +kernel) (by decide +kernel)
theorem gw_587 : (Jvm.Cond.constant "DarkRoom$Mask" (41 : Nat) (65535 : Int32)) ∈ gk_good := gk_in 642 (by decide +kernel) (by decide +kernel)
theorem gw_588 : (Jvm.Cond.methodLink "DarkRoomLaw" (81 : Nat) ({ cls := "DarkRoom", name := "isOn", desc := "(III)I" } : Jvm.MethodName)) ∈ gk_good := gk_in 643 (by decide +kernel) (by decide +kernel)
theorem gw_589 : (Jvm.Cond.instanceMethod ({ cls := "DarkRoom", name := "isOn", desc := "(III)I" } : Jvm.MethodName)) ∈ gk_good := gk_in 644 (by decide +kernel) (by decide +kernel)
theorem gw_590 : (Jvm.Cond.selects "DarkRoom" ({ cls := "DarkRoom", name := "isOn", desc := "(III)I" } : Jvm.MethodName) ({ cls := "DarkRoom", name := "isOn", desc := "(III)I" } : Jvm.MethodName)) ∈ gk_good := gk_in 645 (by decide +kernel) (by decide +kernel)
theorem gw_591 : (Jvm.Cond.code ({ cls := "DarkRoom", name := "isOn", desc := "(III)I" } : Jvm.MethodName) prog_1_method_17_code (4 : Nat) (Option.some Jvm.ClassFile.FieldType.int)) ∈ gk_good := gk_in 646 (by decide +kernel) (by decide +kernel)
theorem gw_592 : (Jvm.Cond.methodLink "DarkRoomLaw" (85 : Nat) ({ cls := "DarkRoom", name := "fill", desc := "(IIIII)I" } : Jvm.MethodName)) ∈ gk_good := gk_in 647 (by decide +kernel) (by decide +kernel)
theorem gw_593 : (Jvm.Cond.instanceMethod ({ cls := "DarkRoom", name := "fill", desc := "(IIIII)I" } : Jvm.MethodName)) ∈ gk_good := gk_in 648 (by decide +kernel) (by decide +kernel)
theorem gw_594 : (Jvm.Cond.selects "DarkRoom" ({ cls := "DarkRoom", name := "fill", desc := "(IIIII)I" } : Jvm.MethodName) ({ cls := "DarkRoom", name := "fill", desc := "(IIIII)I" } : Jvm.MethodName)) ∈ gk_good := gk_in 649 (by decide +kernel) (by decide +kernel)
theorem gw_595 : (Jvm.Cond.code ({ cls := "DarkRoom", name := "fill", desc := "(IIIII)I" } : Jvm.MethodName) prog_1_method_18_code (9 : Nat) (Option.some Jvm.ClassFile.FieldType.int)) ∈ gk_good := gk_in 650 (by decide +kernel) (by decide +kernel)
theorem gw_596 : (Jvm.Cond.methodLink "DarkRoom" (238 : Nat) ({ cls := "DarkRoom$Flood", name := "pour", desc := "(LDarkRoom$Picture;III)I" } : Jvm.MethodName)) ∈ gk_good := gk_in 651 (by decide +kernel) (by decide +kernel)
theorem gw_597 : (Jvm.Cond.instanceMethod ({ cls := "DarkRoom$Flood", name := "pour", desc := "(LDarkRoom$Picture;III)I" } : Jvm.MethodName)) ∈ gk_good := gk_in 652 (by decide +kernel) (by decide +kernel)
theorem gw_598 : (Jvm.Cond.selects "DarkRoom$Flood" ({ cls := "DarkRoom$Flood", name := "pour", desc := "(LDarkRoom$Picture;III)I" } : Jvm.MethodName) ({ cls := "DarkRoom$Flood", name := "pour", desc := "(LDarkRoom$Picture;III)I" } : Jvm.MethodName)) ∈ gk_good := gk_in 653 (by decide +kernel) (by decide +kernel)
theorem gw_599 : (Jvm.Cond.code ({ cls := "DarkRoom$Flood", name := "pour", desc := "(LDarkRoom$Picture;III)I" } : Jvm.MethodName) prog_5_method_3_code (9 : Nat) (Option.some Jvm.ClassFile.FieldType.int)) ∈ gk_good := gk_in 654 (by decide +kernel) (by decide +kernel)
theorem gw_600 : (Jvm.Cond.methodLink "DarkRoom$Flood" (23 : Nat) ({ cls := "DarkRoom$Picture", name := "place", desc := "(II)I" } : Jvm.MethodName)) ∈ gk_good := gk_in 655 (by decide +kernel) (by decide +kernel)
theorem gw_601 : (Jvm.Cond.methodLink "DarkRoom$Flood" (29 : Nat) ({ cls := "DarkRoom$Picture", name := "pixel", desc := "(I)I" } : Jvm.MethodName)) ∈ gk_good := gk_in 656 (by decide +kernel) (by decide +kernel)
theorem gw_602 : (Jvm.Cond.methodLink "DarkRoom$Flood" (33 : Nat) ({ cls := "DarkRoom$Flood", name := "reach", desc := "(LDarkRoom$Picture;IIII)V" } : Jvm.MethodName)) ∈ gk_good := gk_in 657 (by decide +kernel) (by decide +kernel)
theorem gw_604 : (Jvm.Cond.instanceMethod ({ cls := "DarkRoom$Flood", name := "reach", desc := "(LDarkRoom$Picture;IIII)V" } : Jvm.MethodName)) ∈ gk_good := gk_in 659 (by decide +kernel) (by decide +kernel)
theorem gw_605 : (Jvm.Cond.code ({ cls := "DarkRoom$Flood", name := "reach", desc := "(LDarkRoom$Picture;IIII)V" } : Jvm.MethodName) prog_5_method_4_code (7 : Nat) (Option.none : Option Jvm.ClassFile.FieldType)) ∈ gk_good := gk_in 660 (by decide +kernel) (by decide +kernel)
theorem gw_606 : (Jvm.Cond.methodLink "DarkRoom$Flood" (40 : Nat) ({ cls := "DarkRoom$Picture", name := "has", desc := "(II)Z" } : Jvm.MethodName)) ∈ gk_good := gk_in 661 (by decide +kernel) (by decide +kernel)
theorem gw_607 : (Jvm.Cond.methodLink "DarkRoom$Flood" (44 : Nat) ({ cls := "java/lang/Math", name := "abs", desc := "(I)I" } : Jvm.MethodName)) ∈ gk_good := gk_in 662 (by decide +kernel) (by decide +kernel)
theorem gw_608 : (Jvm.Cond.static ({ cls := "java/lang/Math", name := "abs", desc := "(I)I" } : Jvm.MethodName)) ∈ gk_good := gk_in 663 (by decide +kernel) (by decide +kernel)
theorem gw_609 : (Jvm.Cond.code ({ cls := "java/lang/Math", name := "abs", desc := "(I)I" } : Jvm.MethodName) prog_15_method_59_code (1 : Nat) (Option.some Jvm.ClassFile.FieldType.int)) ∈ gk_good := gk_in 664 (by decide +kernel) (by decide +kernel)
theorem gw_610 : (Jvm.Cond.methodLink "DarkRoom" (242 : Nat) ({ cls := "DarkRoom$Flood", name := "placeAt", desc := "(I)I" } : Jvm.MethodName)) ∈ gk_good := gk_in 665 (by decide +kernel) (by decide +kernel)
theorem gw_611 : (Jvm.Cond.instanceMethod ({ cls := "DarkRoom$Flood", name := "placeAt", desc := "(I)I" } : Jvm.MethodName)) ∈ gk_good := gk_in 666 (by decide +kernel) (by decide +kernel)
theorem gw_612 : (Jvm.Cond.selects "DarkRoom$Flood" ({ cls := "DarkRoom$Flood", name := "placeAt", desc := "(I)I" } : Jvm.MethodName) ({ cls := "DarkRoom$Flood", name := "placeAt", desc := "(I)I" } : Jvm.MethodName)) ∈ gk_good := gk_in 667 (by decide +kernel) (by decide +kernel)
theorem gw_613 : (Jvm.Cond.code ({ cls := "DarkRoom$Flood", name := "placeAt", desc := "(I)I" } : Jvm.MethodName) prog_5_method_2_code (2 : Nat) (Option.some Jvm.ClassFile.FieldType.int)) ∈ gk_good := gk_in 668 (by decide +kernel) (by decide +kernel)
theorem gw_614 : (Jvm.Cond.methodLink "DarkRoomLaw" (90 : Nat) ({ cls := "DarkRoom", name := "dither", desc := "(II)I" } : Jvm.MethodName)) ∈ gk_good := gk_in 669 (by decide +kernel) (by decide +kernel)
theorem gw_615 : (Jvm.Cond.instanceMethod ({ cls := "DarkRoom", name := "dither", desc := "(II)I" } : Jvm.MethodName)) ∈ gk_good := gk_in 670 (by decide +kernel) (by decide +kernel)
theorem gw_616 : (Jvm.Cond.selects "DarkRoom" ({ cls := "DarkRoom", name := "dither", desc := "(II)I" } : Jvm.MethodName) ({ cls := "DarkRoom", name := "dither", desc := "(II)I" } : Jvm.MethodName)) ∈ gk_good := gk_in 671 (by decide +kernel) (by decide +kernel)
theorem gw_617 : (Jvm.Cond.code ({ cls := "DarkRoom", name := "dither", desc := "(II)I" } : Jvm.MethodName) prog_1_method_19_code (5 : Nat) (Option.some Jvm.ClassFile.FieldType.int)) ∈ gk_good := gk_in 672 (by decide +kernel) (by decide +kernel)
theorem gw_618 : (Jvm.Cond.methodLink "DarkRoom" (245 : Nat) ({ cls := "DarkRoom$Tones", name := "spread", desc := "(LDarkRoom$Picture;LDarkRoom$Picture;I)V" } : Jvm.MethodName)) ∈ gk_good := gk_in 673 (by decide +kernel) (by decide +kernel)
theorem gw_619 : (Jvm.Cond.instanceMethod ({ cls := "DarkRoom$Tones", name := "spread", desc := "(LDarkRoom$Picture;LDarkRoom$Picture;I)V" } : Jvm.MethodName)) ∈ gk_good := gk_in 674 (by decide +kernel) (by decide +kernel)
theorem gw_620 : (Jvm.Cond.selects "DarkRoom$Tones" ({ cls := "DarkRoom$Tones", name := "spread", desc := "(LDarkRoom$Picture;LDarkRoom$Picture;I)V" } : Jvm.MethodName) ({ cls := "DarkRoom$Tones", name := "spread", desc := "(LDarkRoom$Picture;LDarkRoom$Picture;I)V" } : Jvm.MethodName)) ∈ gk_good := gk_in 675 (by decide +kernel) (by decide +kernel)
theorem gw_621 : (Jvm.Cond.code ({ cls := "DarkRoom$Tones", name := "spread", desc := "(LDarkRoom$Picture;LDarkRoom$Picture;I)V" } : Jvm.MethodName) prog_11_method_2_code (6 : Nat) (Option.none : Option Jvm.ClassFile.FieldType)) ∈ gk_good := gk_in 676 (by decide +kernel) (by decide +kernel)
theorem gw_622 : (Jvm.Cond.methodLink "DarkRoom$Tones" (30 : Nat) ({ cls := "DarkRoom$Picture", name := "shape", desc := "(III)V" } : Jvm.MethodName)) ∈ gk_good := gk_in 677 (by decide +kernel) (by decide +kernel)
theorem gw_623 : (Jvm.Cond.methodLink "DarkRoom$Tones" (34 : Nat) ({ cls := "java/util/Arrays", name := "fill", desc := "([II)V" } : Jvm.MethodName)) ∈ gk_good := gk_in 678 (by decide +kernel) (by decide +kernel)
theorem gw_624 : (Jvm.Cond.methodLink "DarkRoom$Tones" (40 : Nat) ({ cls := "DarkRoom$Tones", name := "spreadAt", desc := "(LDarkRoom$Picture;LDarkRoom$Picture;III)V" } : Jvm.MethodName)) ∈ gk_good := gk_in 679 (by decide +kernel) (by decide +kernel)
theorem gw_626 : (Jvm.Cond.instanceMethod ({ cls := "DarkRoom$Tones", name := "spreadAt", desc := "(LDarkRoom$Picture;LDarkRoom$Picture;III)V" } : Jvm.MethodName)) ∈ gk_good := gk_in 681 (by decide +kernel) (by decide +kernel)
theorem gw_627 : (Jvm.Cond.code ({ cls := "DarkRoom$Tones", name := "spreadAt", desc := "(LDarkRoom$Picture;LDarkRoom$Picture;III)V" } : Jvm.MethodName) prog_11_method_3_code (14 : Nat) (Option.none : Option Jvm.ClassFile.FieldType)) ∈ gk_good := gk_in 682 (by decide +kernel) (by decide +kernel)
theorem gw_628 : (Jvm.Cond.methodLink "DarkRoom$Tones" (44 : Nat) ({ cls := "DarkRoom$Picture", name := "place", desc := "(II)I" } : Jvm.MethodName)) ∈ gk_good := gk_in 683 (by decide +kernel) (by decide +kernel)
theorem gw_629 : (Jvm.Cond.methodLink "DarkRoom$Tones" (48 : Nat) ({ cls := "DarkRoom$Picture", name := "pixel", desc := "(I)I" } : Jvm.MethodName)) ∈ gk_good := gk_in 684 (by decide +kernel) (by decide +kernel)
theorem gw_630 : (Jvm.Cond.constantLong "DarkRoom$Tones" (52 : Nat) (255 : Int64)) ∈ gk_good := gk_in 685 (by decide +kernel) (by decide +kernel)
theorem gw_632 : (Jvm.Cond.methodLink "DarkRoom$Tones" (58 : Nat) ({ cls := "java/lang/Math", name := "min", desc := "(JJ)J" } : Jvm.MethodName)) ∈ gk_good := gk_in 687 (by decide +kernel) (by decide +kernel)
theorem gw_633 : (Jvm.Cond.methodLink "DarkRoom$Tones" (63 : Nat) ({ cls := "java/lang/Math", name := "max", desc := "(JJ)J" } : Jvm.MethodName)) ∈ gk_good := gk_in 688 (by decide +kernel) (by decide +kernel)
theorem gw_634 : (Jvm.Cond.methodLink "DarkRoom$Tones" (66 : Nat) ({ cls := "DarkRoom$Picture", name := "set", desc := "(II)V" } : Jvm.MethodName)) ∈ gk_good := gk_in 689 (by decide +kernel) (by decide +kernel)
theorem gw_635 : (Jvm.Cond.methodLink "DarkRoom$Tones" (70 : Nat) ({ cls := "DarkRoom$Tones", name := "carry", desc := "(LDarkRoom$Picture;III)V" } : Jvm.MethodName)) ∈ gk_good := gk_in 690 (by decide +kernel) (by decide +kernel)
theorem gw_637 : (Jvm.Cond.instanceMethod ({ cls := "DarkRoom$Tones", name := "carry", desc := "(LDarkRoom$Picture;III)V" } : Jvm.MethodName)) ∈ gk_good := gk_in 692 (by decide +kernel) (by decide +kernel)
theorem gw_638 : (Jvm.Cond.code ({ cls := "DarkRoom$Tones", name := "carry", desc := "(LDarkRoom$Picture;III)V" } : Jvm.MethodName) prog_11_method_4_code (6 : Nat) (Option.none : Option Jvm.ClassFile.FieldType)) ∈ gk_good := gk_in 693 (by decide +kernel) (by decide +kernel)
theorem gw_639 : (Jvm.Cond.methodLink "DarkRoom$Tones" (74 : Nat) ({ cls := "DarkRoom$Picture", name := "has", desc := "(II)Z" } : Jvm.MethodName)) ∈ gk_good := gk_in 694 (by decide +kernel) (by decide +kernel)
theorem gw_640 : (Jvm.Cond.methodLink "DarkRoomLaw" (94 : Nat) ({ cls := "DarkRoom", name := "even", desc := "(I)I" } : Jvm.MethodName)) ∈ gk_good := gk_in 695 (by decide +kernel) (by decide +kernel)
theorem gw_641 : (Jvm.Cond.instanceMethod ({ cls := "DarkRoom", name := "even", desc := "(I)I" } : Jvm.MethodName)) ∈ gk_good := gk_in 696 (by decide +kernel) (by decide +kernel)
theorem gw_642 : (Jvm.Cond.selects "DarkRoom" ({ cls := "DarkRoom", name := "even", desc := "(I)I" } : Jvm.MethodName) ({ cls := "DarkRoom", name := "even", desc := "(I)I" } : Jvm.MethodName)) ∈ gk_good := gk_in 697 (by decide +kernel) (by decide +kernel)
theorem gw_643 : (Jvm.Cond.code ({ cls := "DarkRoom", name := "even", desc := "(I)I" } : Jvm.MethodName) prog_1_method_20_code (4 : Nat) (Option.some Jvm.ClassFile.FieldType.int)) ∈ gk_good := gk_in 698 (by decide +kernel) (by decide +kernel)
theorem gw_644 : (Jvm.Cond.methodLink "DarkRoom" (249 : Nat) ({ cls := "DarkRoom$Tones", name := "flatten", desc := "(LDarkRoom$Picture;LDarkRoom$Picture;)V" } : Jvm.MethodName)) ∈ gk_good := gk_in 699 (by decide +kernel) (by decide +kernel)
theorem gw_645 : (Jvm.Cond.instanceMethod ({ cls := "DarkRoom$Tones", name := "flatten", desc := "(LDarkRoom$Picture;LDarkRoom$Picture;)V" } : Jvm.MethodName)) ∈ gk_good := gk_in 700 (by decide +kernel) (by decide +kernel)
theorem gw_646 : (Jvm.Cond.selects "DarkRoom$Tones" ({ cls := "DarkRoom$Tones", name := "flatten", desc := "(LDarkRoom$Picture;LDarkRoom$Picture;)V" } : Jvm.MethodName) ({ cls := "DarkRoom$Tones", name := "flatten", desc := "(LDarkRoom$Picture;LDarkRoom$Picture;)V" } : Jvm.MethodName)) ∈ gk_good := gk_in 701 (by decide +kernel) (by decide +kernel)
theorem gw_647 : (Jvm.Cond.code ({ cls := "DarkRoom$Tones", name := "flatten", desc := "(LDarkRoom$Picture;LDarkRoom$Picture;)V" } : Jvm.MethodName) prog_11_method_5_code (8 : Nat) (Option.none : Option Jvm.ClassFile.FieldType)) ∈ gk_good := gk_in 702 (by decide +kernel) (by decide +kernel)
theorem gw_648 : (Jvm.Cond.methodLink "DarkRoom$Tones" (78 : Nat) ({ cls := "DarkRoom$Picture", name := "copyFrom", desc := "(LDarkRoom$Picture;)V" } : Jvm.MethodName)) ∈ gk_good := gk_in 703 (by decide +kernel) (by decide +kernel)
theorem gw_649 : (Jvm.Cond.methodLink "DarkRoom$Tones" (82 : Nat) ({ cls := "DarkRoom$Picture", name := "area", desc := "()I" } : Jvm.MethodName)) ∈ gk_good := gk_in 704 (by decide +kernel) (by decide +kernel)
theorem gw_650 : (Jvm.Cond.methodLink "DarkRoom$Tones" (86 : Nat) ({ cls := "DarkRoom$Tones", name := "countUp", desc := "(LDarkRoom$Picture;)V" } : Jvm.MethodName)) ∈ gk_good := gk_in 705 (by decide +kernel) (by decide +kernel)
theorem gw_652 : (Jvm.Cond.instanceMethod ({ cls := "DarkRoom$Tones", name := "countUp", desc := "(LDarkRoom$Picture;)V" } : Jvm.MethodName)) ∈ gk_good := gk_in 707 (by decide +kernel) (by decide +kernel)
theorem gw_653 : (Jvm.Cond.code ({ cls := "DarkRoom$Tones", name := "countUp", desc := "(LDarkRoom$Picture;)V" } : Jvm.MethodName) prog_11_method_6_code (4 : Nat) (Option.none : Option Jvm.ClassFile.FieldType)) ∈ gk_good := gk_in 708 (by decide +kernel) (by decide +kernel)
theorem gw_654 : (Jvm.Cond.methodLink "DarkRoom$Tones" (89 : Nat) ({ cls := "DarkRoom$Picture", name := "leastPixel", desc := "()I" } : Jvm.MethodName)) ∈ gk_good := gk_in 709 (by decide +kernel) (by decide +kernel)
theorem gw_655 : (Jvm.Cond.methodLink "DarkRoom$Tones" (92 : Nat) ({ cls := "DarkRoom$Tones", name := "howManyAtMost", desc := "(I)I" } : Jvm.MethodName)) ∈ gk_good := gk_in 710 (by decide +kernel) (by decide +kernel)
theorem gw_657 : (Jvm.Cond.instanceMethod ({ cls := "DarkRoom$Tones", name := "howManyAtMost", desc := "(I)I" } : Jvm.MethodName)) ∈ gk_good := gk_in 712 (by decide +kernel) (by decide +kernel)
theorem gw_658 : (Jvm.Cond.code ({ cls := "DarkRoom$Tones", name := "howManyAtMost", desc := "(I)I" } : Jvm.MethodName) prog_11_method_7_code (2 : Nat) (Option.some Jvm.ClassFile.FieldType.int)) ∈ gk_good := gk_in 713 (by decide +kernel) (by decide +kernel)
theorem gw_659 : (Jvm.Cond.methodLink "DarkRoomLaw" (99 : Nat) ({ cls := "DarkRoom", name := "energy", desc := "(III)I" } : Jvm.MethodName)) ∈ gk_good := gk_in 714 (by decide +kernel) (by decide +kernel)
theorem gw_660 : (Jvm.Cond.instanceMethod ({ cls := "DarkRoom", name := "energy", desc := "(III)I" } : Jvm.MethodName)) ∈ gk_good := gk_in 715 (by decide +kernel) (by decide +kernel)
theorem gw_661 : (Jvm.Cond.selects "DarkRoom" ({ cls := "DarkRoom", name := "energy", desc := "(III)I" } : Jvm.MethodName) ({ cls := "DarkRoom", name := "energy", desc := "(III)I" } : Jvm.MethodName)) ∈ gk_good := gk_in 716 (by decide +kernel) (by decide +kernel)
theorem gw_662 : (Jvm.Cond.code ({ cls := "DarkRoom", name := "energy", desc := "(III)I" } : Jvm.MethodName) prog_1_method_21_code (4 : Nat) (Option.some Jvm.ClassFile.FieldType.int)) ∈ gk_good := gk_in 717 (by decide +kernel) (by decide +kernel)
theorem gw_663 : (Jvm.Cond.methodLink "DarkRoom" (253 : Nat) ({ cls := "DarkRoom$Picture", name := "energyAt", desc := "(II)I" } : Jvm.MethodName)) ∈ gk_good := gk_in 718 (by decide +kernel) (by decide +kernel)
theorem gw_664 : (Jvm.Cond.instanceMethod ({ cls := "DarkRoom$Picture", name := "energyAt", desc := "(II)I" } : Jvm.MethodName)) ∈ gk_good := gk_in 719 (by decide +kernel) (by decide +kernel)
theorem gw_665 : (Jvm.Cond.selects "DarkRoom$Picture" ({ cls := "DarkRoom$Picture", name := "energyAt", desc := "(II)I" } : Jvm.MethodName) ({ cls := "DarkRoom$Picture", name := "energyAt", desc := "(II)I" } : Jvm.MethodName)) ∈ gk_good := gk_in 720 (by decide +kernel) (by decide +kernel)
theorem gw_666 : (Jvm.Cond.code ({ cls := "DarkRoom$Picture", name := "energyAt", desc := "(II)I" } : Jvm.MethodName) prog_8_method_23_code (5 : Nat) (Option.some Jvm.ClassFile.FieldType.int)) ∈ gk_good := gk_in 721 (by decide +kernel) (by decide +kernel)
theorem gw_667 : (Jvm.Cond.methodLink "DarkRoom$Picture" (87 : Nat) ({ cls := "DarkRoom$Picture", name := "seen", desc := "(III)I" } : Jvm.MethodName)) ∈ gk_good := gk_in 722 (by decide +kernel) (by decide +kernel)
theorem gw_668 : (Jvm.Cond.methodLink "DarkRoom$Picture" (90 : Nat) ({ cls := "java/lang/Math", name := "abs", desc := "(I)I" } : Jvm.MethodName)) ∈ gk_good := gk_in 723 (by decide +kernel) (by decide +kernel)
theorem gw_669 : (Jvm.Cond.methodLink "DarkRoomLaw" (103 : Nat) ({ cls := "DarkRoom", name := "seam", desc := "(II)I" } : Jvm.MethodName)) ∈ gk_good := gk_in 724 (by decide +kernel) (by decide +kernel)
theorem gw_670 : (Jvm.Cond.instanceMethod ({ cls := "DarkRoom", name := "seam", desc := "(II)I" } : Jvm.MethodName)) ∈ gk_good := gk_in 725 (by decide +kernel) (by decide +kernel)
theorem gw_671 : (Jvm.Cond.selects "DarkRoom" ({ cls := "DarkRoom", name := "seam", desc := "(II)I" } : Jvm.MethodName) ({ cls := "DarkRoom", name := "seam", desc := "(II)I" } : Jvm.MethodName)) ∈ gk_good := gk_in 726 (by decide +kernel) (by decide +kernel)
theorem gw_672 : (Jvm.Cond.code ({ cls := "DarkRoom", name := "seam", desc := "(II)I" } : Jvm.MethodName) prog_1_method_22_code (4 : Nat) (Option.some Jvm.ClassFile.FieldType.int)) ∈ gk_good := gk_in 727 (by decide +kernel) (by decide +kernel)
theorem gw_673 : (Jvm.Cond.methodLink "DarkRoom" (256 : Nat) ({ cls := "DarkRoom$Seam", name := "trace", desc := "(LDarkRoom$Picture;)V" } : Jvm.MethodName)) ∈ gk_good := gk_in 728 (by decide +kernel) (by decide +kernel)
theorem gw_674 : (Jvm.Cond.instanceMethod ({ cls := "DarkRoom$Seam", name := "trace", desc := "(LDarkRoom$Picture;)V" } : Jvm.MethodName)) ∈ gk_good := gk_in 729 (by decide +kernel) (by decide +kernel)
theorem gw_675 : (Jvm.Cond.selects "DarkRoom$Seam" ({ cls := "DarkRoom$Seam", name := "trace", desc := "(LDarkRoom$Picture;)V" } : Jvm.MethodName) ({ cls := "DarkRoom$Seam", name := "trace", desc := "(LDarkRoom$Picture;)V" } : Jvm.MethodName)) ∈ gk_good := gk_in 730 (by decide +kernel) (by decide +kernel)
theorem gw_676 : (Jvm.Cond.code ({ cls := "DarkRoom$Seam", name := "trace", desc := "(LDarkRoom$Picture;)V" } : Jvm.MethodName) prog_9_method_3_code (5 : Nat) (Option.none : Option Jvm.ClassFile.FieldType)) ∈ gk_good := gk_in 731 (by decide +kernel) (by decide +kernel)
theorem gw_677 : (Jvm.Cond.methodLink "DarkRoom$Seam" (30 : Nat) ({ cls := "DarkRoom$Seam", name := "leastIn", desc := "(LDarkRoom$Picture;III)I" } : Jvm.MethodName)) ∈ gk_good := gk_in 732 (by decide +kernel) (by decide +kernel)
theorem gw_679 : (Jvm.Cond.instanceMethod ({ cls := "DarkRoom$Seam", name := "leastIn", desc := "(LDarkRoom$Picture;III)I" } : Jvm.MethodName)) ∈ gk_good := gk_in 734 (by decide +kernel) (by decide +kernel)
theorem gw_680 : (Jvm.Cond.code ({ cls := "DarkRoom$Seam", name := "leastIn", desc := "(LDarkRoom$Picture;III)I" } : Jvm.MethodName) prog_9_method_4_code (7 : Nat) (Option.some Jvm.ClassFile.FieldType.int)) ∈ gk_good := gk_in 735 (by decide +kernel) (by decide +kernel)
theorem gw_681 : (Jvm.Cond.methodLink "DarkRoom$Seam" (49 : Nat) ({ cls := "java/lang/Math", name := "max", desc := "(II)I" } : Jvm.MethodName)) ∈ gk_good := gk_in 736 (by decide +kernel) (by decide +kernel)
theorem gw_682 : (Jvm.Cond.methodLink "DarkRoom$Seam" (34 : Nat) ({ cls := "DarkRoom$Seam", name := "cost", desc := "(LDarkRoom$Picture;II)I" } : Jvm.MethodName)) ∈ gk_good := gk_in 737 (by decide +kernel) (by decide +kernel)
theorem gw_684 : (Jvm.Cond.instanceMethod ({ cls := "DarkRoom$Seam", name := "cost", desc := "(LDarkRoom$Picture;II)I" } : Jvm.MethodName)) ∈ gk_good := gk_in 739 (by decide +kernel) (by decide +kernel)
theorem gw_685 : (Jvm.Cond.code ({ cls := "DarkRoom$Seam", name := "cost", desc := "(LDarkRoom$Picture;II)I" } : Jvm.MethodName) prog_9_method_5_code (5 : Nat) (Option.some Jvm.ClassFile.FieldType.int)) ∈ gk_good := gk_in 740 (by decide +kernel) (by decide +kernel)
theorem gw_686 : (Jvm.Cond.methodLink "DarkRoom$Seam" (38 : Nat) ({ cls := "DarkRoom$Picture", name := "place", desc := "(II)I" } : Jvm.MethodName)) ∈ gk_good := gk_in 741 (by decide +kernel) (by decide +kernel)
theorem gw_687 : (Jvm.Cond.methodLink "DarkRoom$Seam" (42 : Nat) ({ cls := "DarkRoom$Picture", name := "energyAt", desc := "(II)I" } : Jvm.MethodName)) ∈ gk_good := gk_in 742 (by decide +kernel) (by decide +kernel)
theorem gw_688 : (Jvm.Cond.methodLink "DarkRoom$Seam" (45 : Nat) ({ cls := "DarkRoom$Seam", name := "setCost", desc := "(II)V" } : Jvm.MethodName)) ∈ gk_good := gk_in 743 (by decide +kernel) (by decide +kernel)
theorem gw_690 : (Jvm.Cond.instanceMethod ({ cls := "DarkRoom$Seam", name := "setCost", desc := "(II)V" } : Jvm.MethodName)) ∈ gk_good := gk_in 745 (by decide +kernel) (by decide +kernel)
theorem gw_691 : (Jvm.Cond.code ({ cls := "DarkRoom$Seam", name := "setCost", desc := "(II)V" } : Jvm.MethodName) prog_9_method_6_code (3 : Nat) (Option.none : Option Jvm.ClassFile.FieldType)) ∈ gk_good := gk_in 746 (by decide +kernel) (by decide +kernel)
theorem gw_692 : (Jvm.Cond.methodLink "DarkRoom" (262 : Nat) ({ cls := "DarkRoom$Seam", name := "column", desc := "(I)I" } : Jvm.MethodName)) ∈ gk_good := gk_in 747 (by decide +kernel) (by decide +kernel)
theorem gw_693 : (Jvm.Cond.instanceMethod ({ cls := "DarkRoom$Seam", name := "column", desc := "(I)I" } : Jvm.MethodName)) ∈ gk_good := gk_in 748 (by decide +kernel) (by decide +kernel)
theorem gw_694 : (Jvm.Cond.selects "DarkRoom$Seam" ({ cls := "DarkRoom$Seam", name := "column", desc := "(I)I" } : Jvm.MethodName) ({ cls := "DarkRoom$Seam", name := "column", desc := "(I)I" } : Jvm.MethodName)) ∈ gk_good := gk_in 749 (by decide +kernel) (by decide +kernel)
theorem gw_695 : (Jvm.Cond.code ({ cls := "DarkRoom$Seam", name := "column", desc := "(I)I" } : Jvm.MethodName) prog_9_method_2_code (2 : Nat) (Option.some Jvm.ClassFile.FieldType.int)) ∈ gk_good := gk_in 750 (by decide +kernel) (by decide +kernel)
theorem gw_696 : (Jvm.Cond.methodLink "DarkRoomLaw" (107 : Nat) ({ cls := "DarkRoom", name := "seamGoes", desc := "(II)I" } : Jvm.MethodName)) ∈ gk_good := gk_in 751 (by decide +kernel) (by decide +kernel)
theorem gw_697 : (Jvm.Cond.instanceMethod ({ cls := "DarkRoom", name := "seamGoes", desc := "(II)I" } : Jvm.MethodName)) ∈ gk_good := gk_in 752 (by decide +kernel) (by decide +kernel)
theorem gw_698 : (Jvm.Cond.selects "DarkRoom" ({ cls := "DarkRoom", name := "seamGoes", desc := "(II)I" } : Jvm.MethodName) ({ cls := "DarkRoom", name := "seamGoes", desc := "(II)I" } : Jvm.MethodName)) ∈ gk_good := gk_in 753 (by decide +kernel) (by decide +kernel)
theorem gw_699 : (Jvm.Cond.code ({ cls := "DarkRoom", name := "seamGoes", desc := "(II)I" } : Jvm.MethodName) prog_1_method_23_code (9 : Nat) (Option.some Jvm.ClassFile.FieldType.int)) ∈ gk_good := gk_in 754 (by decide +kernel) (by decide +kernel)
theorem gw_700 : (Jvm.Cond.methodLink "DarkRoomLaw" (111 : Nat) ({ cls := "DarkRoom", name := "runs", desc := "(II)I" } : Jvm.MethodName)) ∈ gk_good := gk_in 755 (by decide +kernel) (by decide +kernel)
theorem gw_701 : (Jvm.Cond.instanceMethod ({ cls := "DarkRoom", name := "runs", desc := "(II)I" } : Jvm.MethodName)) ∈ gk_good := gk_in 756 (by decide +kernel) (by decide +kernel)
theorem gw_702 : (Jvm.Cond.selects "DarkRoom" ({ cls := "DarkRoom", name := "runs", desc := "(II)I" } : Jvm.MethodName) ({ cls := "DarkRoom", name := "runs", desc := "(II)I" } : Jvm.MethodName)) ∈ gk_good := gk_in 757 (by decide +kernel) (by decide +kernel)
theorem gw_703 : (Jvm.Cond.code ({ cls := "DarkRoom", name := "runs", desc := "(II)I" } : Jvm.MethodName) prog_1_method_24_code (3 : Nat) (Option.some Jvm.ClassFile.FieldType.int)) ∈ gk_good := gk_in 758 (by decide +kernel) (by decide +kernel)
theorem gw_704 : (Jvm.Cond.methodLink "DarkRoom" (265 : Nat) ({ cls := "DarkRoom$Picture", name := "rolled", desc := "(I)I" } : Jvm.MethodName)) ∈ gk_good := gk_in 759 (by decide +kernel) (by decide +kernel)
theorem gw_705 : (Jvm.Cond.instanceMethod ({ cls := "DarkRoom$Picture", name := "rolled", desc := "(I)I" } : Jvm.MethodName)) ∈ gk_good := gk_in 760 (by decide +kernel) (by decide +kernel)
theorem gw_706 : (Jvm.Cond.selects "DarkRoom$Picture" ({ cls := "DarkRoom$Picture", name := "rolled", desc := "(I)I" } : Jvm.MethodName) ({ cls := "DarkRoom$Picture", name := "rolled", desc := "(I)I" } : Jvm.MethodName)) ∈ gk_good := gk_in 761 (by decide +kernel) (by decide +kernel)
theorem gw_707 : (Jvm.Cond.code ({ cls := "DarkRoom$Picture", name := "rolled", desc := "(I)I" } : Jvm.MethodName) prog_8_method_25_code (5 : Nat) (Option.some Jvm.ClassFile.FieldType.int)) ∈ gk_good := gk_in 762 (by decide +kernel) (by decide +kernel)
theorem gw_708 : (Jvm.Cond.methodLink "DarkRoom$Picture" (93 : Nat) ({ cls := "DarkRoom$Picture", name := "isRun", desc := "(II)Z" } : Jvm.MethodName)) ∈ gk_good := gk_in 763 (by decide +kernel) (by decide +kernel)
theorem gw_710 : (Jvm.Cond.instanceMethod ({ cls := "DarkRoom$Picture", name := "isRun", desc := "(II)Z" } : Jvm.MethodName)) ∈ gk_good := gk_in 765 (by decide +kernel) (by decide +kernel)
theorem gw_711 : (Jvm.Cond.code ({ cls := "DarkRoom$Picture", name := "isRun", desc := "(II)Z" } : Jvm.MethodName) prog_8_method_26_code (3 : Nat) (Option.some Jvm.ClassFile.FieldType.boolean)) ∈ gk_good := gk_in 766 (by decide +kernel) (by decide +kernel)
theorem gw_712 : (Jvm.Cond.methodLink "DarkRoom$Picture" (96 : Nat) ({ cls := "DarkRoom$Picture", name := "bytesEach", desc := "()I" } : Jvm.MethodName)) ∈ gk_good := gk_in 767 (by decide +kernel) (by decide +kernel)
theorem gw_713 : (Jvm.Cond.instanceMethod ({ cls := "DarkRoom$Picture", name := "bytesEach", desc := "()I" } : Jvm.MethodName)) ∈ gk_good := gk_in 768 (by decide +kernel) (by decide +kernel)
theorem gw_714 : (Jvm.Cond.selects "DarkRoom$Picture" ({ cls := "DarkRoom$Picture", name := "bytesEach", desc := "()I" } : Jvm.MethodName) ({ cls := "DarkRoom$Picture", name := "bytesEach", desc := "()I" } : Jvm.MethodName)) ∈ gk_good := gk_in 769 (by decide +kernel) (by decide +kernel)
theorem gw_715 : (Jvm.Cond.code ({ cls := "DarkRoom$Picture", name := "bytesEach", desc := "()I" } : Jvm.MethodName) prog_8_method_24_code (1 : Nat) (Option.some Jvm.ClassFile.FieldType.int)) ∈ gk_good := gk_in 770 (by decide +kernel) (by decide +kernel)
theorem gw_716 : (Jvm.Cond.methodLink "DarkRoom$Picture" (99 : Nat) ({ cls := "DarkRoom$Picture", name := "pixelByte", desc := "(II)I" } : Jvm.MethodName)) ∈ gk_good := gk_in 771 (by decide +kernel) (by decide +kernel)
theorem gw_718 : (Jvm.Cond.instanceMethod ({ cls := "DarkRoom$Picture", name := "pixelByte", desc := "(II)I" } : Jvm.MethodName)) ∈ gk_good := gk_in 773 (by decide +kernel) (by decide +kernel)
theorem gw_719 : (Jvm.Cond.code ({ cls := "DarkRoom$Picture", name := "pixelByte", desc := "(II)I" } : Jvm.MethodName) prog_8_method_27_code (3 : Nat) (Option.some Jvm.ClassFile.FieldType.int)) ∈ gk_good := gk_in 774 (by decide +kernel) (by decide +kernel)
theorem gw_720 : (Jvm.Cond.constant "DarkRoom$Picture" (102 : Nat) (-100004 : Int32)) ∈ gk_good := gk_in 775 (by decide +kernel) (by decide +kernel)
theorem gw_721 : (Jvm.Cond.methodLink "DarkRoomLaw" (115 : Nat) ({ cls := "DarkRoom", name := "read", desc := "(I)I" } : Jvm.MethodName)) ∈ gk_good := gk_in 776 (by decide +kernel) (by decide +kernel)
theorem gw_722 : (Jvm.Cond.instanceMethod ({ cls := "DarkRoom", name := "read", desc := "(I)I" } : Jvm.MethodName)) ∈ gk_good := gk_in 777 (by decide +kernel) (by decide +kernel)
theorem gw_723 : (Jvm.Cond.selects "DarkRoom" ({ cls := "DarkRoom", name := "read", desc := "(I)I" } : Jvm.MethodName) ({ cls := "DarkRoom", name := "read", desc := "(I)I" } : Jvm.MethodName)) ∈ gk_good := gk_in 778 (by decide +kernel) (by decide +kernel)
theorem gw_724 : (Jvm.Cond.code ({ cls := "DarkRoom", name := "read", desc := "(I)I" } : Jvm.MethodName) prog_1_method_25_code (3 : Nat) (Option.some Jvm.ClassFile.FieldType.int)) ∈ gk_good := gk_in 779 (by decide +kernel) (by decide +kernel)
theorem gw_725 : (Jvm.Cond.methodLink "DarkRoom" (268 : Nat) ({ cls := "DarkRoom$Tape", name := "unroll", desc := "(LDarkRoom$Picture;)I" } : Jvm.MethodName)) ∈ gk_good := gk_in 780 (by decide +kernel) (by decide +kernel)
theorem gw_726 : (Jvm.Cond.instanceMethod ({ cls := "DarkRoom$Tape", name := "unroll", desc := "(LDarkRoom$Picture;)I" } : Jvm.MethodName)) ∈ gk_good := gk_in 781 (by decide +kernel) (by decide +kernel)
theorem gw_727 : (Jvm.Cond.selects "DarkRoom$Tape" ({ cls := "DarkRoom$Tape", name := "unroll", desc := "(LDarkRoom$Picture;)I" } : Jvm.MethodName) ({ cls := "DarkRoom$Tape", name := "unroll", desc := "(LDarkRoom$Picture;)I" } : Jvm.MethodName)) ∈ gk_good := gk_in 782 (by decide +kernel) (by decide +kernel)
theorem gw_728 : (Jvm.Cond.code ({ cls := "DarkRoom$Tape", name := "unroll", desc := "(LDarkRoom$Picture;)I" } : Jvm.MethodName) prog_10_method_3_code (10 : Nat) (Option.some Jvm.ClassFile.FieldType.int)) ∈ gk_good := gk_in 783 (by decide +kernel) (by decide +kernel)
theorem gw_729 : (Jvm.Cond.methodLink "DarkRoom$Tape" (19 : Nat) ({ cls := "DarkRoom$Tape", name := "soundHead", desc := "()I" } : Jvm.MethodName)) ∈ gk_good := gk_in 784 (by decide +kernel) (by decide +kernel)
theorem gw_731 : (Jvm.Cond.instanceMethod ({ cls := "DarkRoom$Tape", name := "soundHead", desc := "()I" } : Jvm.MethodName)) ∈ gk_good := gk_in 786 (by decide +kernel) (by decide +kernel)
theorem gw_732 : (Jvm.Cond.code ({ cls := "DarkRoom$Tape", name := "soundHead", desc := "()I" } : Jvm.MethodName) prog_10_method_4_code (1 : Nat) (Option.some Jvm.ClassFile.FieldType.int)) ∈ gk_good := gk_in 787 (by decide +kernel) (by decide +kernel)
theorem gw_733 : (Jvm.Cond.methodLink "DarkRoom$Tape" (23 : Nat) ({ cls := "DarkRoom$Tape", name := "byteAt", desc := "(I)I" } : Jvm.MethodName)) ∈ gk_good := gk_in 788 (by decide +kernel) (by decide +kernel)
theorem gw_735 : (Jvm.Cond.instanceMethod ({ cls := "DarkRoom$Tape", name := "byteAt", desc := "(I)I" } : Jvm.MethodName)) ∈ gk_good := gk_in 790 (by decide +kernel) (by decide +kernel)
theorem gw_736 : (Jvm.Cond.code ({ cls := "DarkRoom$Tape", name := "byteAt", desc := "(I)I" } : Jvm.MethodName) prog_10_method_5_code (2 : Nat) (Option.some Jvm.ClassFile.FieldType.int)) ∈ gk_good := gk_in 791 (by decide +kernel) (by decide +kernel)
theorem gw_739 : (Jvm.Cond.methodLink "DarkRoom$Tape" (27 : Nat) ({ cls := "DarkRoom$Picture", name := "shape", desc := "(III)V" } : Jvm.MethodName)) ∈ gk_good := gk_in 794 (by decide +kernel) (by decide +kernel)
theorem gw_740 : (Jvm.Cond.methodLink "DarkRoom$Tape" (33 : Nat) ({ cls := "DarkRoom$Picture", name := "area", desc := "()I" } : Jvm.MethodName)) ∈ gk_good := gk_in 795 (by decide +kernel) (by decide +kernel)
theorem gw_741 : (Jvm.Cond.methodLink "DarkRoom$Tape" (36 : Nat) ({ cls := "DarkRoom$Picture", name := "bytesEach", desc := "()I" } : Jvm.MethodName)) ∈ gk_good := gk_in 796 (by decide +kernel) (by decide +kernel)
theorem gw_742 : (Jvm.Cond.methodLink "DarkRoom$Tape" (39 : Nat) ({ cls := "DarkRoom$Picture", name := "set", desc := "(II)V" } : Jvm.MethodName)) ∈ gk_good := gk_in 797 (by decide +kernel) (by decide +kernel)
theorem gw_743 : (Jvm.Cond.methodLink "DarkRoomLaw" (119 : Nat) ({ cls := "DarkRoom", name := "byteTo", desc := "(I)I" } : Jvm.MethodName)) ∈ gk_good := gk_in 798 (by decide +kernel) (by decide +kernel)
theorem gw_744 : (Jvm.Cond.instanceMethod ({ cls := "DarkRoom", name := "byteTo", desc := "(I)I" } : Jvm.MethodName)) ∈ gk_good := gk_in 799 (by decide +kernel) (by decide +kernel)
theorem gw_745 : (Jvm.Cond.selects "DarkRoom" ({ cls := "DarkRoom", name := "byteTo", desc := "(I)I" } : Jvm.MethodName) ({ cls := "DarkRoom", name := "byteTo", desc := "(I)I" } : Jvm.MethodName)) ∈ gk_good := gk_in 800 (by decide +kernel) (by decide +kernel)
theorem gw_746 : (Jvm.Cond.code ({ cls := "DarkRoom", name := "byteTo", desc := "(I)I" } : Jvm.MethodName) prog_1_method_26_code (2 : Nat) (Option.some Jvm.ClassFile.FieldType.int)) ∈ gk_good := gk_in 801 (by decide +kernel) (by decide +kernel)
theorem gw_747 : (Jvm.Cond.methodLink "DarkRoom" (274 : Nat) ({ cls := "DarkRoom$Tape", name := "append", desc := "(I)Z" } : Jvm.MethodName)) ∈ gk_good := gk_in 802 (by decide +kernel) (by decide +kernel)
theorem gw_748 : (Jvm.Cond.instanceMethod ({ cls := "DarkRoom$Tape", name := "append", desc := "(I)Z" } : Jvm.MethodName)) ∈ gk_good := gk_in 803 (by decide +kernel) (by decide +kernel)
theorem gw_749 : (Jvm.Cond.selects "DarkRoom$Tape" ({ cls := "DarkRoom$Tape", name := "append", desc := "(I)Z" } : Jvm.MethodName) ({ cls := "DarkRoom$Tape", name := "append", desc := "(I)Z" } : Jvm.MethodName)) ∈ gk_good := gk_in 804 (by decide +kernel) (by decide +kernel)
theorem gw_750 : (Jvm.Cond.code ({ cls := "DarkRoom$Tape", name := "append", desc := "(I)Z" } : Jvm.MethodName) prog_10_method_2_code (2 : Nat) (Option.some Jvm.ClassFile.FieldType.boolean)) ∈ gk_good := gk_in 805 (by decide +kernel) (by decide +kernel)
theorem gw_751 : (Jvm.Cond.methodLink "DarkRoomLaw" (123 : Nat) ({ cls := "DarkRoom", name := "undo", desc := "()I" } : Jvm.MethodName)) ∈ gk_good := gk_in 806 (by decide +kernel) (by decide +kernel)
theorem gw_752 : (Jvm.Cond.instanceMethod ({ cls := "DarkRoom", name := "undo", desc := "()I" } : Jvm.MethodName)) ∈ gk_good := gk_in 807 (by decide +kernel) (by decide +kernel)
theorem gw_753 : (Jvm.Cond.selects "DarkRoom" ({ cls := "DarkRoom", name := "undo", desc := "()I" } : Jvm.MethodName) ({ cls := "DarkRoom", name := "undo", desc := "()I" } : Jvm.MethodName)) ∈ gk_good := gk_in 808 (by decide +kernel) (by decide +kernel)
theorem gw_754 : (Jvm.Cond.code ({ cls := "DarkRoom", name := "undo", desc := "()I" } : Jvm.MethodName) prog_1_method_27_code (2 : Nat) (Option.some Jvm.ClassFile.FieldType.int)) ∈ gk_good := gk_in 809 (by decide +kernel) (by decide +kernel)
theorem gw_755 : (Jvm.Cond.methodLink "DarkRoom" (277 : Nat) ({ cls := "DarkRoom$History", name := "stepBack", desc := "()LDarkRoom$Act;" } : Jvm.MethodName)) ∈ gk_good := gk_in 810 (by decide +kernel) (by decide +kernel)
theorem gw_756 : (Jvm.Cond.instanceMethod ({ cls := "DarkRoom$History", name := "stepBack", desc := "()LDarkRoom$Act;" } : Jvm.MethodName)) ∈ gk_good := gk_in 811 (by decide +kernel) (by decide +kernel)
theorem gw_757 : (Jvm.Cond.selects "DarkRoom$History" ({ cls := "DarkRoom$History", name := "stepBack", desc := "()LDarkRoom$Act;" } : Jvm.MethodName) ({ cls := "DarkRoom$History", name := "stepBack", desc := "()LDarkRoom$Act;" } : Jvm.MethodName)) ∈ gk_good := gk_in 812 (by decide +kernel) (by decide +kernel)
theorem gw_758 : (Jvm.Cond.code ({ cls := "DarkRoom$History", name := "stepBack", desc := "()LDarkRoom$Act;" } : Jvm.MethodName) prog_6_method_3_code (1 : Nat) (Option.some (Jvm.ClassFile.FieldType.object "DarkRoom$Act"))) ∈ gk_good := gk_in 813 (by decide +kernel) (by decide +kernel)
theorem gw_759 : (Jvm.Cond.methodLink "DarkRoom" (281 : Nat) ({ cls := "DarkRoom", name := "exchange", desc := "(LDarkRoom$Act;)V" } : Jvm.MethodName)) ∈ gk_good := gk_in 814 (by decide +kernel) (by decide +kernel)
theorem gw_761 : (Jvm.Cond.instanceMethod ({ cls := "DarkRoom", name := "exchange", desc := "(LDarkRoom$Act;)V" } : Jvm.MethodName)) ∈ gk_good := gk_in 816 (by decide +kernel) (by decide +kernel)
theorem gw_762 : (Jvm.Cond.code ({ cls := "DarkRoom", name := "exchange", desc := "(LDarkRoom$Act;)V" } : Jvm.MethodName) prog_1_method_42_code (3 : Nat) (Option.none : Option Jvm.ClassFile.FieldType)) ∈ gk_good := gk_in 817 (by decide +kernel) (by decide +kernel)
theorem gw_763 : (Jvm.Cond.methodLink "DarkRoomLaw" (128 : Nat) ({ cls := "DarkRoom", name := "redo", desc := "()I" } : Jvm.MethodName)) ∈ gk_good := gk_in 818 (by decide +kernel) (by decide +kernel)
theorem gw_764 : (Jvm.Cond.instanceMethod ({ cls := "DarkRoom", name := "redo", desc := "()I" } : Jvm.MethodName)) ∈ gk_good := gk_in 819 (by decide +kernel) (by decide +kernel)
theorem gw_765 : (Jvm.Cond.selects "DarkRoom" ({ cls := "DarkRoom", name := "redo", desc := "()I" } : Jvm.MethodName) ({ cls := "DarkRoom", name := "redo", desc := "()I" } : Jvm.MethodName)) ∈ gk_good := gk_in 820 (by decide +kernel) (by decide +kernel)
theorem gw_766 : (Jvm.Cond.code ({ cls := "DarkRoom", name := "redo", desc := "()I" } : Jvm.MethodName) prog_1_method_28_code (2 : Nat) (Option.some Jvm.ClassFile.FieldType.int)) ∈ gk_good := gk_in 821 (by decide +kernel) (by decide +kernel)
theorem gw_767 : (Jvm.Cond.methodLink "DarkRoom" (285 : Nat) ({ cls := "DarkRoom$History", name := "stepForth", desc := "()LDarkRoom$Act;" } : Jvm.MethodName)) ∈ gk_good := gk_in 822 (by decide +kernel) (by decide +kernel)
theorem gw_768 : (Jvm.Cond.instanceMethod ({ cls := "DarkRoom$History", name := "stepForth", desc := "()LDarkRoom$Act;" } : Jvm.MethodName)) ∈ gk_good := gk_in 823 (by decide +kernel) (by decide +kernel)
theorem gw_769 : (Jvm.Cond.selects "DarkRoom$History" ({ cls := "DarkRoom$History", name := "stepForth", desc := "()LDarkRoom$Act;" } : Jvm.MethodName) ({ cls := "DarkRoom$History", name := "stepForth", desc := "()LDarkRoom$Act;" } : Jvm.MethodName)) ∈ gk_good := gk_in 824 (by decide +kernel) (by decide +kernel)
theorem gw_770 : (Jvm.Cond.code ({ cls := "DarkRoom$History", name := "stepForth", desc := "()LDarkRoom$Act;" } : Jvm.MethodName) prog_6_method_4_code (1 : Nat) (Option.some (Jvm.ClassFile.FieldType.object "DarkRoom$Act"))) ∈ gk_good := gk_in 825 (by decide +kernel) (by decide +kernel)
theorem gw_771 : (Jvm.Cond.methodLink "DarkRoomLaw" (132 : Nat) ({ cls := "DarkRoom", name := "count", desc := "(I)I" } : Jvm.MethodName)) ∈ gk_good := gk_in 826 (by decide +kernel) (by decide +kernel)
theorem gw_772 : (Jvm.Cond.instanceMethod ({ cls := "DarkRoom", name := "count", desc := "(I)I" } : Jvm.MethodName)) ∈ gk_good := gk_in 827 (by decide +kernel) (by decide +kernel)
theorem gw_773 : (Jvm.Cond.selects "DarkRoom" ({ cls := "DarkRoom", name := "count", desc := "(I)I" } : Jvm.MethodName) ({ cls := "DarkRoom", name := "count", desc := "(I)I" } : Jvm.MethodName)) ∈ gk_good := gk_in 828 (by decide +kernel) (by decide +kernel)
theorem gw_774 : (Jvm.Cond.code ({ cls := "DarkRoom", name := "count", desc := "(I)I" } : Jvm.MethodName) prog_1_method_29_code (2 : Nat) (Option.some Jvm.ClassFile.FieldType.int)) ∈ gk_good := gk_in 829 (by decide +kernel) (by decide +kernel)
theorem gw_775 : (Jvm.Cond.methodLink "DarkRoom" (288 : Nat) ({ cls := "DarkRoom", name := "standingPictures", desc := "()I" } : Jvm.MethodName)) ∈ gk_good := gk_in 830 (by decide +kernel) (by decide +kernel)
theorem gw_777 : (Jvm.Cond.instanceMethod ({ cls := "DarkRoom", name := "standingPictures", desc := "()I" } : Jvm.MethodName)) ∈ gk_good := gk_in 832 (by decide +kernel) (by decide +kernel)
theorem gw_778 : (Jvm.Cond.code ({ cls := "DarkRoom", name := "standingPictures", desc := "()I" } : Jvm.MethodName) prog_1_method_39_code (3 : Nat) (Option.some Jvm.ClassFile.FieldType.int)) ∈ gk_good := gk_in 833 (by decide +kernel) (by decide +kernel)
theorem gw_779 : (Jvm.Cond.classLink "DarkRoomLaw" (10 : Nat) "DarkRoomModel") ∈ gk_good := gk_in 834 (by decide +kernel) (by decide +kernel)
theorem gw_780 : (Jvm.Cond.instantiable "DarkRoomModel" (26 : Nat)) ∈ gk_good := gk_in 835 (by decide +kernel) (by decide +kernel)
theorem gw_781 : (Jvm.Cond.methodLink "DarkRoomLaw" (12 : Nat) ({ cls := "DarkRoomModel", name := "<init>", desc := "()V" } : Jvm.MethodName)) ∈ gk_good := gk_in 836 (by decide +kernel) (by decide +kernel)
theorem gw_782 : (Jvm.Cond.instanceMethod ({ cls := "DarkRoomModel", name := "<init>", desc := "()V" } : Jvm.MethodName)) ∈ gk_good := gk_in 837 (by decide +kernel) (by decide +kernel)
theorem gw_783 : (Jvm.Cond.code ({ cls := "DarkRoomModel", name := "<init>", desc := "()V" } : Jvm.MethodName) prog_13_method_1_code (2 : Nat) (Option.none : Option Jvm.ClassFile.FieldType)) ∈ gk_good := gk_in 838 (by decide +kernel) (by decide +kernel)
theorem gw_784 : (Jvm.Cond.methodLink "DarkRoomModel" (1 : Nat) ({ cls := "java/lang/Object", name := "<init>", desc := "()V" } : Jvm.MethodName)) ∈ gk_good := gk_in 839 (by decide +kernel) (by decide +kernel)
theorem gw_785 : (Jvm.Cond.constant "DarkRoomModel" (13 : Nat) (61336 : Int32)) ∈ gk_good := gk_in 840 (by decide +kernel) (by decide +kernel)
theorem gw_786 : (Jvm.Cond.fieldLink "DarkRoomModel" (7 : Nat) "DarkRoomModel" "st" "[I") ∈ gk_good := gk_in 841 (by decide +kernel) (by decide +kernel)
theorem gw_787 : (Jvm.Cond.fieldLink "DarkRoomModel" (14 : Nat) "DarkRoomModel" "was" "[I") ∈ gk_good := gk_in 842 (by decide +kernel) (by decide +kernel)
theorem gw_788 : (Jvm.Cond.fieldLink "DarkRoomModel" (88 : Nat) "DarkRoomModel" "now" "I") ∈ gk_good := gk_in 843 (by decide +kernel) (by decide +kernel)
theorem gw_789 : (Jvm.Cond.fieldLink "DarkRoomModel" (93 : Nat) "DarkRoomModel" "top" "I") ∈ gk_good := gk_in 844 (by decide +kernel) (by decide +kernel)
theorem gw_790 : (Jvm.Cond.fieldLink "DarkRoomModel" (170 : Nat) "DarkRoomModel" "filters" "I") ∈ gk_good := gk_in 845 (by decide +kernel) (by decide +kernel)
theorem gw_791 : (Jvm.Cond.fieldLink "DarkRoomModel" (17 : Nat) "DarkRoomModel" "kind" "[I") ∈ gk_good := gk_in 846 (by decide +kernel) (by decide +kernel)
theorem gw_792 : (Jvm.Cond.fieldLink "DarkRoomModel" (20 : Nat) "DarkRoomModel" "numA" "[I") ∈ gk_good := gk_in 847 (by decide +kernel) (by decide +kernel)
theorem gw_793 : (Jvm.Cond.fieldLink "DarkRoomModel" (23 : Nat) "DarkRoomModel" "numB" "[I") ∈ gk_good := gk_in 848 (by decide +kernel) (by decide +kernel)
theorem gw_794 : (Jvm.Cond.fieldLink "DarkRoomModel" (26 : Nat) "DarkRoomModel" "high" "[I") ∈ gk_good := gk_in 849 (by decide +kernel) (by decide +kernel)
theorem gw_795 : (Jvm.Cond.fieldLink "DarkRoomModel" (29 : Nat) "DarkRoomModel" "weights" "[I") ∈ gk_good := gk_in 850 (by decide +kernel) (by decide +kernel)
theorem gw_796 : (Jvm.Cond.fieldLink "DarkRoomModel" (266 : Nat) "DarkRoomModel" "taped" "I") ∈ gk_good := gk_in 851 (by decide +kernel) (by decide +kernel)
theorem gw_797 : (Jvm.Cond.fieldLink "DarkRoomModel" (32 : Nat) "DarkRoomModel" "tape" "[I") ∈ gk_good := gk_in 852 (by decide +kernel) (by decide +kernel)
theorem gw_798 : (Jvm.Cond.fieldLink "DarkRoomModel" (35 : Nat) "DarkRoomModel" "seen" "[I") ∈ gk_good := gk_in 853 (by decide +kernel) (by decide +kernel)
theorem gw_799 : (Jvm.Cond.fieldLink "DarkRoomModel" (138 : Nat) "DarkRoomModel" "seenWide" "I") ∈ gk_good := gk_in 854 (by decide +kernel) (by decide +kernel)
theorem gw_800 : (Jvm.Cond.fieldLink "DarkRoomModel" (141 : Nat) "DarkRoomModel" "seenTall" "I") ∈ gk_good := gk_in 855 (by decide +kernel) (by decide +kernel)
theorem gw_801 : (Jvm.Cond.fieldLink "DarkRoomModel" (38 : Nat) "DarkRoomModel" "begun" "[I") ∈ gk_good := gk_in 856 (by decide +kernel) (by decide +kernel)
theorem gw_802 : (Jvm.Cond.fieldLink "DarkRoomModel" (41 : Nat) "DarkRoomModel" "phase" "[I") ∈ gk_good := gk_in 857 (by decide +kernel) (by decide +kernel)
theorem gw_803 : (Jvm.Cond.fieldLink "DarkRoomModel" (44 : Nat) "DarkRoomModel" "given" "[I") ∈ gk_good := gk_in 858 (by decide +kernel) (by decide +kernel)
theorem gw_804 : (Jvm.Cond.fieldLink "DarkRoomModel" (47 : Nat) "DarkRoomModel" "saved" "[I") ∈ gk_good := gk_in 859 (by decide +kernel) (by decide +kernel)
theorem gw_805 : (Jvm.Cond.fieldLink "DarkRoomModel" (50 : Nat) "DarkRoomModel" "made" "[I") ∈ gk_good := gk_in 860 (by decide +kernel) (by decide +kernel)
theorem gw_806 : (Jvm.Cond.fieldLink "DarkRoomModel" (53 : Nat) "DarkRoomModel" "nine" "[I") ∈ gk_good := gk_in 861 (by decide +kernel) (by decide +kernel)
theorem gw_807 : (Jvm.Cond.fieldLink "DarkRoomModel" (56 : Nat) "DarkRoomModel" "isFilled" "[Z") ∈ gk_good := gk_in 862 (by decide +kernel) (by decide +kernel)
theorem gw_808 : (Jvm.Cond.fieldLink "DarkRoomModel" (60 : Nat) "DarkRoomModel" "cost" "[I") ∈ gk_good := gk_in 863 (by decide +kernel) (by decide +kernel)
theorem gw_809 : (Jvm.Cond.fieldLink "DarkRoomModel" (63 : Nat) "DarkRoomModel" "seamAt" "[I") ∈ gk_good := gk_in 864 (by decide +kernel) (by decide +kernel)
theorem gw_810 : (Jvm.Cond.fieldLink "DarkRoomModel" (257 : Nat) "DarkRoomModel" "runMany" "I") ∈ gk_good := gk_in 865 (by decide +kernel) (by decide +kernel)
theorem gw_811 : (Jvm.Cond.fieldLink "DarkRoomModel" (66 : Nat) "DarkRoomModel" "runBytes" "[I") ∈ gk_good := gk_in 866 (by decide +kernel) (by decide +kernel)
theorem gw_865 : (Jvm.Cond.methodLink "DarkRoomLaw" (127 : Nat) ({ cls := "DarkRoomModel", name := "undo", desc := "()I" } : Jvm.MethodName)) ∈ gk_good := gk_in 920 (by decide +kernel) (by decide +kernel)
theorem gw_866 : (Jvm.Cond.instanceMethod ({ cls := "DarkRoomModel", name := "undo", desc := "()I" } : Jvm.MethodName)) ∈ gk_good := gk_in 921 (by decide +kernel) (by decide +kernel)
theorem gw_867 : (Jvm.Cond.selects "DarkRoomModel" ({ cls := "DarkRoomModel", name := "undo", desc := "()I" } : Jvm.MethodName) ({ cls := "DarkRoomModel", name := "undo", desc := "()I" } : Jvm.MethodName)) ∈ gk_good := gk_in 922 (by decide +kernel) (by decide +kernel)
theorem gw_868 : (Jvm.Cond.code ({ cls := "DarkRoomModel", name := "undo", desc := "()I" } : Jvm.MethodName) prog_13_method_16_code (2 : Nat) (Option.some Jvm.ClassFile.FieldType.int)) ∈ gk_good := gk_in 923 (by decide +kernel) (by decide +kernel)
theorem gw_869 : (Jvm.Cond.constant "DarkRoomModel" (96 : Nat) (-100002 : Int32)) ∈ gk_good := gk_in 924 (by decide +kernel) (by decide +kernel)
theorem gw_870 : (Jvm.Cond.methodLink "DarkRoomModel" (97 : Nat) ({ cls := "DarkRoomModel", name := "load", desc := "(I)V" } : Jvm.MethodName)) ∈ gk_good := gk_in 925 (by decide +kernel) (by decide +kernel)
theorem gw_872 : (Jvm.Cond.instanceMethod ({ cls := "DarkRoomModel", name := "load", desc := "(I)V" } : Jvm.MethodName)) ∈ gk_good := gk_in 927 (by decide +kernel) (by decide +kernel)
theorem gw_873 : (Jvm.Cond.code ({ cls := "DarkRoomModel", name := "load", desc := "(I)V" } : Jvm.MethodName) prog_13_method_15_code (3 : Nat) (Option.none : Option Jvm.ClassFile.FieldType)) ∈ gk_good := gk_in 928 (by decide +kernel) (by decide +kernel)
theorem gw_874 : (Jvm.Cond.methodLink "DarkRoomLaw" (131 : Nat) ({ cls := "DarkRoomModel", name := "redo", desc := "()I" } : Jvm.MethodName)) ∈ gk_good := gk_in 929 (by decide +kernel) (by decide +kernel)
theorem gw_875 : (Jvm.Cond.instanceMethod ({ cls := "DarkRoomModel", name := "redo", desc := "()I" } : Jvm.MethodName)) ∈ gk_good := gk_in 930 (by decide +kernel) (by decide +kernel)
theorem gw_876 : (Jvm.Cond.selects "DarkRoomModel" ({ cls := "DarkRoomModel", name := "redo", desc := "()I" } : Jvm.MethodName) ({ cls := "DarkRoomModel", name := "redo", desc := "()I" } : Jvm.MethodName)) ∈ gk_good := gk_in 931 (by decide +kernel) (by decide +kernel)
theorem gw_877 : (Jvm.Cond.code ({ cls := "DarkRoomModel", name := "redo", desc := "()I" } : Jvm.MethodName) prog_13_method_17_code (1 : Nat) (Option.some Jvm.ClassFile.FieldType.int)) ∈ gk_good := gk_in 932 (by decide +kernel) (by decide +kernel)
theorem gw_878 : (Jvm.Cond.methodLink "DarkRoomLaw" (17 : Nat) ({ cls := "DarkRoomModel", name := "picture", desc := "(IIII)I" } : Jvm.MethodName)) ∈ gk_good := gk_in 933 (by decide +kernel) (by decide +kernel)
theorem gw_879 : (Jvm.Cond.instanceMethod ({ cls := "DarkRoomModel", name := "picture", desc := "(IIII)I" } : Jvm.MethodName)) ∈ gk_good := gk_in 934 (by decide +kernel) (by decide +kernel)
theorem gw_880 : (Jvm.Cond.selects "DarkRoomModel" ({ cls := "DarkRoomModel", name := "picture", desc := "(IIII)I" } : Jvm.MethodName) ({ cls := "DarkRoomModel", name := "picture", desc := "(IIII)I" } : Jvm.MethodName)) ∈ gk_good := gk_in 935 (by decide +kernel) (by decide +kernel)
theorem gw_881 : (Jvm.Cond.code ({ cls := "DarkRoomModel", name := "picture", desc := "(IIII)I" } : Jvm.MethodName) prog_13_method_19_code (5 : Nat) (Option.some Jvm.ClassFile.FieldType.int)) ∈ gk_good := gk_in 936 (by decide +kernel) (by decide +kernel)
theorem gw_882 : (Jvm.Cond.methodLink "DarkRoomModel" (101 : Nat) ({ cls := "DarkRoomModel", name := "isPicture", desc := "(I)Z" } : Jvm.MethodName)) ∈ gk_good := gk_in 937 (by decide +kernel) (by decide +kernel)
theorem gw_883 : (Jvm.Cond.static ({ cls := "DarkRoomModel", name := "isPicture", desc := "(I)Z" } : Jvm.MethodName)) ∈ gk_good := gk_in 938 (by decide +kernel) (by decide +kernel)
theorem gw_884 : (Jvm.Cond.code ({ cls := "DarkRoomModel", name := "isPicture", desc := "(I)Z" } : Jvm.MethodName) prog_13_method_3_code (1 : Nat) (Option.some Jvm.ClassFile.FieldType.boolean)) ∈ gk_good := gk_in 939 (by decide +kernel) (by decide +kernel)
theorem gw_885 : (Jvm.Cond.constantLong "DarkRoomModel" (69 : Nat) (7 : Int64)) ∈ gk_good := gk_in 940 (by decide +kernel) (by decide +kernel)
theorem gw_886 : (Jvm.Cond.methodLink "DarkRoomModel" (71 : Nat) ({ cls := "DarkRoomModel", name := "in", desc := "(JJJ)Z" } : Jvm.MethodName)) ∈ gk_good := gk_in 941 (by decide +kernel) (by decide +kernel)
theorem gw_887 : (Jvm.Cond.static ({ cls := "DarkRoomModel", name := "in", desc := "(JJJ)Z" } : Jvm.MethodName)) ∈ gk_good := gk_in 942 (by decide +kernel) (by decide +kernel)
theorem gw_888 : (Jvm.Cond.code ({ cls := "DarkRoomModel", name := "in", desc := "(JJJ)Z" } : Jvm.MethodName) prog_13_method_2_code (6 : Nat) (Option.some Jvm.ClassFile.FieldType.boolean)) ∈ gk_good := gk_in 943 (by decide +kernel) (by decide +kernel)
theorem gw_889 : (Jvm.Cond.constantLong "DarkRoomModel" (105 : Nat) (-1 : Int64)) ∈ gk_good := gk_in 944 (by decide +kernel) (by decide +kernel)
theorem gw_890 : (Jvm.Cond.constantLong "DarkRoomModel" (107 : Nat) (16 : Int64)) ∈ gk_good := gk_in 945 (by decide +kernel) (by decide +kernel)
theorem gw_891 : (Jvm.Cond.constant "DarkRoomModel" (109 : Nat) (-100001 : Int32)) ∈ gk_good := gk_in 946 (by decide +kernel) (by decide +kernel)
theorem gw_892 : (Jvm.Cond.methodLink "DarkRoomModel" (110 : Nat) ({ cls := "DarkRoomModel", name := "begin", desc := "()V" } : Jvm.MethodName)) ∈ gk_good := gk_in 947 (by decide +kernel) (by decide +kernel)
theorem gw_894 : (Jvm.Cond.instanceMethod ({ cls := "DarkRoomModel", name := "begin", desc := "()V" } : Jvm.MethodName)) ∈ gk_good := gk_in 949 (by decide +kernel) (by decide +kernel)
theorem gw_895 : (Jvm.Cond.code ({ cls := "DarkRoomModel", name := "begin", desc := "()V" } : Jvm.MethodName) prog_13_method_14_code (2 : Nat) (Option.none : Option Jvm.ClassFile.FieldType)) ∈ gk_good := gk_in 950 (by decide +kernel) (by decide +kernel)
theorem gw_896 : (Jvm.Cond.constant "DarkRoomModel" (92 : Nat) (57728 : Int32)) ∈ gk_good := gk_in 951 (by decide +kernel) (by decide +kernel)
theorem gw_897 : (Jvm.Cond.methodLink "DarkRoomModel" (113 : Nat) ({ cls := "DarkRoomModel", name := "become", desc := "(IIII)V" } : Jvm.MethodName)) ∈ gk_good := gk_in 952 (by decide +kernel) (by decide +kernel)
theorem gw_899 : (Jvm.Cond.instanceMethod ({ cls := "DarkRoomModel", name := "become", desc := "(IIII)V" } : Jvm.MethodName)) ∈ gk_good := gk_in 954 (by decide +kernel) (by decide +kernel)
theorem gw_900 : (Jvm.Cond.code ({ cls := "DarkRoomModel", name := "become", desc := "(IIII)V" } : Jvm.MethodName) prog_13_method_18_code (6 : Nat) (Option.none : Option Jvm.ClassFile.FieldType)) ∈ gk_good := gk_in 955 (by decide +kernel) (by decide +kernel)
theorem gw_901 : (Jvm.Cond.methodLink "DarkRoomLaw" (21 : Nat) ({ cls := "DarkRoomModel", name := "put", desc := "(IIII)I" } : Jvm.MethodName)) ∈ gk_good := gk_in 956 (by decide +kernel) (by decide +kernel)
theorem gw_902 : (Jvm.Cond.instanceMethod ({ cls := "DarkRoomModel", name := "put", desc := "(IIII)I" } : Jvm.MethodName)) ∈ gk_good := gk_in 957 (by decide +kernel) (by decide +kernel)
theorem gw_903 : (Jvm.Cond.selects "DarkRoomModel" ({ cls := "DarkRoomModel", name := "put", desc := "(IIII)I" } : Jvm.MethodName) ({ cls := "DarkRoomModel", name := "put", desc := "(IIII)I" } : Jvm.MethodName)) ∈ gk_good := gk_in 958 (by decide +kernel) (by decide +kernel)
theorem gw_904 : (Jvm.Cond.code ({ cls := "DarkRoomModel", name := "put", desc := "(IIII)I" } : Jvm.MethodName) prog_13_method_20_code (7 : Nat) (Option.some Jvm.ClassFile.FieldType.int)) ∈ gk_good := gk_in 959 (by decide +kernel) (by decide +kernel)
theorem gw_905 : (Jvm.Cond.methodLink "DarkRoomModel" (117 : Nat) ({ cls := "DarkRoomModel", name := "isThere", desc := "(I)Z" } : Jvm.MethodName)) ∈ gk_good := gk_in 960 (by decide +kernel) (by decide +kernel)
theorem gw_907 : (Jvm.Cond.instanceMethod ({ cls := "DarkRoomModel", name := "isThere", desc := "(I)Z" } : Jvm.MethodName)) ∈ gk_good := gk_in 962 (by decide +kernel) (by decide +kernel)
theorem gw_908 : (Jvm.Cond.code ({ cls := "DarkRoomModel", name := "isThere", desc := "(I)Z" } : Jvm.MethodName) prog_13_method_4_code (2 : Nat) (Option.some Jvm.ClassFile.FieldType.boolean)) ∈ gk_good := gk_in 963 (by decide +kernel) (by decide +kernel)
theorem gw_909 : (Jvm.Cond.methodLink "DarkRoomModel" (120 : Nat) ({ cls := "DarkRoomModel", name := "isWithin", desc := "(III)Z" } : Jvm.MethodName)) ∈ gk_good := gk_in 964 (by decide +kernel) (by decide +kernel)
theorem gw_911 : (Jvm.Cond.instanceMethod ({ cls := "DarkRoomModel", name := "isWithin", desc := "(III)Z" } : Jvm.MethodName)) ∈ gk_good := gk_in 966 (by decide +kernel) (by decide +kernel)
theorem gw_912 : (Jvm.Cond.code ({ cls := "DarkRoomModel", name := "isWithin", desc := "(III)Z" } : Jvm.MethodName) prog_13_method_13_code (4 : Nat) (Option.some Jvm.ClassFile.FieldType.boolean)) ∈ gk_good := gk_in 967 (by decide +kernel) (by decide +kernel)
theorem gw_913 : (Jvm.Cond.methodLink "DarkRoomModel" (82 : Nat) ({ cls := "DarkRoomModel", name := "wide", desc := "(I)I" } : Jvm.MethodName)) ∈ gk_good := gk_in 968 (by decide +kernel) (by decide +kernel)
theorem gw_915 : (Jvm.Cond.instanceMethod ({ cls := "DarkRoomModel", name := "wide", desc := "(I)I" } : Jvm.MethodName)) ∈ gk_good := gk_in 970 (by decide +kernel) (by decide +kernel)
theorem gw_916 : (Jvm.Cond.code ({ cls := "DarkRoomModel", name := "wide", desc := "(I)I" } : Jvm.MethodName) prog_13_method_6_code (2 : Nat) (Option.some Jvm.ClassFile.FieldType.int)) ∈ gk_good := gk_in 971 (by decide +kernel) (by decide +kernel)
theorem gw_917 : (Jvm.Cond.methodLink "DarkRoomModel" (85 : Nat) ({ cls := "DarkRoomModel", name := "tall", desc := "(I)I" } : Jvm.MethodName)) ∈ gk_good := gk_in 972 (by decide +kernel) (by decide +kernel)
theorem gw_919 : (Jvm.Cond.instanceMethod ({ cls := "DarkRoomModel", name := "tall", desc := "(I)I" } : Jvm.MethodName)) ∈ gk_good := gk_in 974 (by decide +kernel) (by decide +kernel)
theorem gw_920 : (Jvm.Cond.code ({ cls := "DarkRoomModel", name := "tall", desc := "(I)I" } : Jvm.MethodName) prog_13_method_7_code (2 : Nat) (Option.some Jvm.ClassFile.FieldType.int)) ∈ gk_good := gk_in 975 (by decide +kernel) (by decide +kernel)
theorem gw_921 : (Jvm.Cond.methodLink "DarkRoomModel" (124 : Nat) ({ cls := "DarkRoomModel", name := "kindOf", desc := "(I)I" } : Jvm.MethodName)) ∈ gk_good := gk_in 976 (by decide +kernel) (by decide +kernel)
theorem gw_923 : (Jvm.Cond.instanceMethod ({ cls := "DarkRoomModel", name := "kindOf", desc := "(I)I" } : Jvm.MethodName)) ∈ gk_good := gk_in 978 (by decide +kernel) (by decide +kernel)
theorem gw_924 : (Jvm.Cond.code ({ cls := "DarkRoomModel", name := "kindOf", desc := "(I)I" } : Jvm.MethodName) prog_13_method_5_code (2 : Nat) (Option.some Jvm.ClassFile.FieldType.int)) ∈ gk_good := gk_in 979 (by decide +kernel) (by decide +kernel)
theorem gw_925 : (Jvm.Cond.methodLink "DarkRoomModel" (75 : Nat) ({ cls := "DarkRoomModel", name := "least", desc := "(I)I" } : Jvm.MethodName)) ∈ gk_good := gk_in 980 (by decide +kernel) (by decide +kernel)
theorem gw_926 : (Jvm.Cond.static ({ cls := "DarkRoomModel", name := "least", desc := "(I)I" } : Jvm.MethodName)) ∈ gk_good := gk_in 981 (by decide +kernel) (by decide +kernel)
theorem gw_927 : (Jvm.Cond.code ({ cls := "DarkRoomModel", name := "least", desc := "(I)I" } : Jvm.MethodName) prog_13_method_8_code (1 : Nat) (Option.some Jvm.ClassFile.FieldType.int)) ∈ gk_good := gk_in 982 (by decide +kernel) (by decide +kernel)
theorem gw_928 : (Jvm.Cond.methodLink "DarkRoomModel" (79 : Nat) ({ cls := "DarkRoomModel", name := "greatest", desc := "(I)I" } : Jvm.MethodName)) ∈ gk_good := gk_in 983 (by decide +kernel) (by decide +kernel)
theorem gw_929 : (Jvm.Cond.static ({ cls := "DarkRoomModel", name := "greatest", desc := "(I)I" } : Jvm.MethodName)) ∈ gk_good := gk_in 984 (by decide +kernel) (by decide +kernel)
theorem gw_930 : (Jvm.Cond.code ({ cls := "DarkRoomModel", name := "greatest", desc := "(I)I" } : Jvm.MethodName) prog_13_method_9_code (1 : Nat) (Option.some Jvm.ClassFile.FieldType.int)) ∈ gk_good := gk_in 985 (by decide +kernel) (by decide +kernel)
theorem gw_931 : (Jvm.Cond.methodLink "DarkRoomModel" (127 : Nat) ({ cls := "DarkRoomModel", name := "pixelAt", desc := "(III)I" } : Jvm.MethodName)) ∈ gk_good := gk_in 986 (by decide +kernel) (by decide +kernel)
theorem gw_933 : (Jvm.Cond.instanceMethod ({ cls := "DarkRoomModel", name := "pixelAt", desc := "(III)I" } : Jvm.MethodName)) ∈ gk_good := gk_in 988 (by decide +kernel) (by decide +kernel)
theorem gw_934 : (Jvm.Cond.code ({ cls := "DarkRoomModel", name := "pixelAt", desc := "(III)I" } : Jvm.MethodName) prog_13_method_12_code (4 : Nat) (Option.some Jvm.ClassFile.FieldType.int)) ∈ gk_good := gk_in 989 (by decide +kernel) (by decide +kernel)
theorem gw_935 : (Jvm.Cond.methodLink "DarkRoomLaw" (28 : Nat) ({ cls := "DarkRoomModel", name := "feed", desc := "(IIIJI)I" } : Jvm.MethodName)) ∈ gk_good := gk_in 990 (by decide +kernel) (by decide +kernel)
theorem gw_936 : (Jvm.Cond.instanceMethod ({ cls := "DarkRoomModel", name := "feed", desc := "(IIIJI)I" } : Jvm.MethodName)) ∈ gk_good := gk_in 991 (by decide +kernel) (by decide +kernel)
theorem gw_937 : (Jvm.Cond.selects "DarkRoomModel" ({ cls := "DarkRoomModel", name := "feed", desc := "(IIIJI)I" } : Jvm.MethodName) ({ cls := "DarkRoomModel", name := "feed", desc := "(IIIJI)I" } : Jvm.MethodName)) ∈ gk_good := gk_in 992 (by decide +kernel) (by decide +kernel)
theorem gw_938 : (Jvm.Cond.code ({ cls := "DarkRoomModel", name := "feed", desc := "(IIIJI)I" } : Jvm.MethodName) prog_13_method_21_code (10 : Nat) (Option.some Jvm.ClassFile.FieldType.int)) ∈ gk_good := gk_in 993 (by decide +kernel) (by decide +kernel)
theorem gw_939 : (Jvm.Cond.constantLong "DarkRoomModel" (131 : Nat) (8 : Int64)) ∈ gk_good := gk_in 994 (by decide +kernel) (by decide +kernel)
theorem gw_940 : (Jvm.Cond.methodLink "DarkRoomModel" (133 : Nat) ({ cls := "DarkRoomModel", name := "pixels", desc := "(I)I" } : Jvm.MethodName)) ∈ gk_good := gk_in 995 (by decide +kernel) (by decide +kernel)
theorem gw_942 : (Jvm.Cond.instanceMethod ({ cls := "DarkRoomModel", name := "pixels", desc := "(I)I" } : Jvm.MethodName)) ∈ gk_good := gk_in 997 (by decide +kernel) (by decide +kernel)
theorem gw_943 : (Jvm.Cond.code ({ cls := "DarkRoomModel", name := "pixels", desc := "(I)I" } : Jvm.MethodName) prog_13_method_11_code (2 : Nat) (Option.some Jvm.ClassFile.FieldType.int)) ∈ gk_good := gk_in 998 (by decide +kernel) (by decide +kernel)
theorem gw_944 : (Jvm.Cond.constantLong "DarkRoomModel" (136 : Nat) (255 : Int64)) ∈ gk_good := gk_in 999 (by decide +kernel) (by decide +kernel)
theorem gw_945 : (Jvm.Cond.methodLink "DarkRoomLaw" (32 : Nat) ({ cls := "DarkRoomModel", name := "at", desc := "(IIII)I" } : Jvm.MethodName)) ∈ gk_good := gk_in 1000 (by decide +kernel) (by decide +kernel)
theorem gw_946 : (Jvm.Cond.instanceMethod ({ cls := "DarkRoomModel", name := "at", desc := "(IIII)I" } : Jvm.MethodName)) ∈ gk_good := gk_in 1001 (by decide +kernel) (by decide +kernel)
theorem gw_947 : (Jvm.Cond.selects "DarkRoomModel" ({ cls := "DarkRoomModel", name := "at", desc := "(IIII)I" } : Jvm.MethodName) ({ cls := "DarkRoomModel", name := "at", desc := "(IIII)I" } : Jvm.MethodName)) ∈ gk_good := gk_in 1002 (by decide +kernel) (by decide +kernel)
theorem gw_948 : (Jvm.Cond.code ({ cls := "DarkRoomModel", name := "at", desc := "(IIII)I" } : Jvm.MethodName) prog_13_method_25_code (5 : Nat) (Option.some Jvm.ClassFile.FieldType.int)) ∈ gk_good := gk_in 1003 (by decide +kernel) (by decide +kernel)
theorem gw_949 : (Jvm.Cond.constantLong "DarkRoomModel" (147 : Nat) (-1000 : Int64)) ∈ gk_good := gk_in 1004 (by decide +kernel) (by decide +kernel)
theorem gw_950 : (Jvm.Cond.constantLong "DarkRoomModel" (149 : Nat) (1000 : Int64)) ∈ gk_good := gk_in 1005 (by decide +kernel) (by decide +kernel)
theorem gw_951 : (Jvm.Cond.constantLong "DarkRoomModel" (151 : Nat) (3 : Int64)) ∈ gk_good := gk_in 1006 (by decide +kernel) (by decide +kernel)
theorem gw_952 : (Jvm.Cond.methodLink "DarkRoomModel" (153 : Nat) ({ cls := "DarkRoomModel", name := "look", desc := "(I)V" } : Jvm.MethodName)) ∈ gk_good := gk_in 1007 (by decide +kernel) (by decide +kernel)
theorem gw_954 : (Jvm.Cond.instanceMethod ({ cls := "DarkRoomModel", name := "look", desc := "(I)V" } : Jvm.MethodName)) ∈ gk_good := gk_in 1009 (by decide +kernel) (by decide +kernel)
theorem gw_955 : (Jvm.Cond.code ({ cls := "DarkRoomModel", name := "look", desc := "(I)V" } : Jvm.MethodName) prog_13_method_23_code (3 : Nat) (Option.none : Option Jvm.ClassFile.FieldType)) ∈ gk_good := gk_in 1010 (by decide +kernel) (by decide +kernel)
theorem gw_956 : (Jvm.Cond.methodLink "DarkRoomModel" (156 : Nat) ({ cls := "DarkRoomModel", name := "seenAt", desc := "(III)I" } : Jvm.MethodName)) ∈ gk_good := gk_in 1011 (by decide +kernel) (by decide +kernel)
theorem gw_958 : (Jvm.Cond.instanceMethod ({ cls := "DarkRoomModel", name := "seenAt", desc := "(III)I" } : Jvm.MethodName)) ∈ gk_good := gk_in 1013 (by decide +kernel) (by decide +kernel)
theorem gw_959 : (Jvm.Cond.code ({ cls := "DarkRoomModel", name := "seenAt", desc := "(III)I" } : Jvm.MethodName) prog_13_method_24_code (4 : Nat) (Option.some Jvm.ClassFile.FieldType.int)) ∈ gk_good := gk_in 1014 (by decide +kernel) (by decide +kernel)
theorem gw_960 : (Jvm.Cond.methodLink "DarkRoomModel" (144 : Nat) ({ cls := "DarkRoomModel", name := "folded", desc := "(III)I" } : Jvm.MethodName)) ∈ gk_good := gk_in 1015 (by decide +kernel) (by decide +kernel)
theorem gw_961 : (Jvm.Cond.static ({ cls := "DarkRoomModel", name := "folded", desc := "(III)I" } : Jvm.MethodName)) ∈ gk_good := gk_in 1016 (by decide +kernel) (by decide +kernel)
theorem gw_962 : (Jvm.Cond.code ({ cls := "DarkRoomModel", name := "folded", desc := "(III)I" } : Jvm.MethodName) prog_13_method_22_code (5 : Nat) (Option.some Jvm.ClassFile.FieldType.int)) ∈ gk_good := gk_in 1017 (by decide +kernel) (by decide +kernel)
theorem gw_963 : (Jvm.Cond.methodLink "DarkRoomLaw" (37 : Nat) ({ cls := "DarkRoomModel", name := "about", desc := "(II)I" } : Jvm.MethodName)) ∈ gk_good := gk_in 1018 (by decide +kernel) (by decide +kernel)
theorem gw_964 : (Jvm.Cond.instanceMethod ({ cls := "DarkRoomModel", name := "about", desc := "(II)I" } : Jvm.MethodName)) ∈ gk_good := gk_in 1019 (by decide +kernel) (by decide +kernel)
theorem gw_965 : (Jvm.Cond.selects "DarkRoomModel" ({ cls := "DarkRoomModel", name := "about", desc := "(II)I" } : Jvm.MethodName) ({ cls := "DarkRoomModel", name := "about", desc := "(II)I" } : Jvm.MethodName)) ∈ gk_good := gk_in 1020 (by decide +kernel) (by decide +kernel)
theorem gw_966 : (Jvm.Cond.code ({ cls := "DarkRoomModel", name := "about", desc := "(II)I" } : Jvm.MethodName) prog_13_method_26_code (8 : Nat) (Option.some Jvm.ClassFile.FieldType.int)) ∈ gk_good := gk_in 1021 (by decide +kernel) (by decide +kernel)
theorem gw_967 : (Jvm.Cond.constantLong "DarkRoomModel" (159 : Nat) (5 : Int64)) ∈ gk_good := gk_in 1022 (by decide +kernel) (by decide +kernel)
theorem gw_968 : (Jvm.Cond.constant "DarkRoomModel" (161 : Nat) (-100004 : Int32)) ∈ gk_good := gk_in 1023 (by decide +kernel) (by decide +kernel)
theorem gw_969 : (Jvm.Cond.methodLink "DarkRoomLaw" (41 : Nat) ({ cls := "DarkRoomModel", name := "convert", desc := "(IIII)I" } : Jvm.MethodName)) ∈ gk_good := gk_in 1024 (by decide +kernel) (by decide +kernel)
theorem gw_970 : (Jvm.Cond.instanceMethod ({ cls := "DarkRoomModel", name := "convert", desc := "(IIII)I" } : Jvm.MethodName)) ∈ gk_good := gk_in 1025 (by decide +kernel) (by decide +kernel)
theorem gw_971 : (Jvm.Cond.selects "DarkRoomModel" ({ cls := "DarkRoomModel", name := "convert", desc := "(IIII)I" } : Jvm.MethodName) ({ cls := "DarkRoomModel", name := "convert", desc := "(IIII)I" } : Jvm.MethodName)) ∈ gk_good := gk_in 1026 (by decide +kernel) (by decide +kernel)
theorem gw_972 : (Jvm.Cond.code ({ cls := "DarkRoomModel", name := "convert", desc := "(IIII)I" } : Jvm.MethodName) prog_13_method_27_code (8 : Nat) (Option.some Jvm.ClassFile.FieldType.int)) ∈ gk_good := gk_in 1027 (by decide +kernel) (by decide +kernel)
theorem gw_973 : (Jvm.Cond.methodLink "DarkRoomModel" (162 : Nat) ({ cls := "DarkRoomModel", name := "keptIn", desc := "(IJ)I" } : Jvm.MethodName)) ∈ gk_good := gk_in 1028 (by decide +kernel) (by decide +kernel)
theorem gw_974 : (Jvm.Cond.static ({ cls := "DarkRoomModel", name := "keptIn", desc := "(IJ)I" } : Jvm.MethodName)) ∈ gk_good := gk_in 1029 (by decide +kernel) (by decide +kernel)
theorem gw_975 : (Jvm.Cond.code ({ cls := "DarkRoomModel", name := "keptIn", desc := "(IJ)I" } : Jvm.MethodName) prog_13_method_10_code (3 : Nat) (Option.some Jvm.ClassFile.FieldType.int)) ∈ gk_good := gk_in 1030 (by decide +kernel) (by decide +kernel)
theorem gw_976 : (Jvm.Cond.methodLink "DarkRoomLaw" (46 : Nat) ({ cls := "DarkRoomModel", name := "cut", desc := "(IIIIIII)I" } : Jvm.MethodName)) ∈ gk_good := gk_in 1031 (by decide +kernel) (by decide +kernel)
theorem gw_977 : (Jvm.Cond.instanceMethod ({ cls := "DarkRoomModel", name := "cut", desc := "(IIIIIII)I" } : Jvm.MethodName)) ∈ gk_good := gk_in 1032 (by decide +kernel) (by decide +kernel)
theorem gw_978 : (Jvm.Cond.selects "DarkRoomModel" ({ cls := "DarkRoomModel", name := "cut", desc := "(IIIIIII)I" } : Jvm.MethodName) ({ cls := "DarkRoomModel", name := "cut", desc := "(IIIIIII)I" } : Jvm.MethodName)) ∈ gk_good := gk_in 1033 (by decide +kernel) (by decide +kernel)
theorem gw_979 : (Jvm.Cond.code ({ cls := "DarkRoomModel", name := "cut", desc := "(IIIIIII)I" } : Jvm.MethodName) prog_13_method_28_code (9 : Nat) (Option.some Jvm.ClassFile.FieldType.int)) ∈ gk_good := gk_in 1034 (by decide +kernel) (by decide +kernel)
theorem gw_980 : (Jvm.Cond.constantLong "DarkRoomModel" (166 : Nat) (-100 : Int64)) ∈ gk_good := gk_in 1035 (by decide +kernel) (by decide +kernel)
theorem gw_981 : (Jvm.Cond.constantLong "DarkRoomModel" (168 : Nat) (100 : Int64)) ∈ gk_good := gk_in 1036 (by decide +kernel) (by decide +kernel)
theorem gw_982 : (Jvm.Cond.methodLink "DarkRoomLaw" (51 : Nat) ({ cls := "DarkRoomModel", name := "turn", desc := "(III)I" } : Jvm.MethodName)) ∈ gk_good := gk_in 1037 (by decide +kernel) (by decide +kernel)
theorem gw_983 : (Jvm.Cond.instanceMethod ({ cls := "DarkRoomModel", name := "turn", desc := "(III)I" } : Jvm.MethodName)) ∈ gk_good := gk_in 1038 (by decide +kernel) (by decide +kernel)
theorem gw_984 : (Jvm.Cond.selects "DarkRoomModel" ({ cls := "DarkRoomModel", name := "turn", desc := "(III)I" } : Jvm.MethodName) ({ cls := "DarkRoomModel", name := "turn", desc := "(III)I" } : Jvm.MethodName)) ∈ gk_good := gk_in 1039 (by decide +kernel) (by decide +kernel)
theorem gw_985 : (Jvm.Cond.code ({ cls := "DarkRoomModel", name := "turn", desc := "(III)I" } : Jvm.MethodName) prog_13_method_29_code (12 : Nat) (Option.some Jvm.ClassFile.FieldType.int)) ∈ gk_good := gk_in 1040 (by decide +kernel) (by decide +kernel)
theorem gw_986 : (Jvm.Cond.methodLink "DarkRoomLaw" (55 : Nat) ({ cls := "DarkRoomModel", name := "unlike", desc := "(II)I" } : Jvm.MethodName)) ∈ gk_good := gk_in 1041 (by decide +kernel) (by decide +kernel)
theorem gw_987 : (Jvm.Cond.instanceMethod ({ cls := "DarkRoomModel", name := "unlike", desc := "(II)I" } : Jvm.MethodName)) ∈ gk_good := gk_in 1042 (by decide +kernel) (by decide +kernel)
theorem gw_988 : (Jvm.Cond.selects "DarkRoomModel" ({ cls := "DarkRoomModel", name := "unlike", desc := "(II)I" } : Jvm.MethodName) ({ cls := "DarkRoomModel", name := "unlike", desc := "(II)I" } : Jvm.MethodName)) ∈ gk_good := gk_in 1043 (by decide +kernel) (by decide +kernel)
theorem gw_989 : (Jvm.Cond.code ({ cls := "DarkRoomModel", name := "unlike", desc := "(II)I" } : Jvm.MethodName) prog_13_method_30_code (5 : Nat) (Option.some Jvm.ClassFile.FieldType.int)) ∈ gk_good := gk_in 1044 (by decide +kernel) (by decide +kernel)
theorem gw_990 : (Jvm.Cond.methodLink "DarkRoomLaw" (59 : Nat) ({ cls := "DarkRoomModel", name := "filter", desc := "(III)I" } : Jvm.MethodName)) ∈ gk_good := gk_in 1045 (by decide +kernel) (by decide +kernel)
theorem gw_991 : (Jvm.Cond.instanceMethod ({ cls := "DarkRoomModel", name := "filter", desc := "(III)I" } : Jvm.MethodName)) ∈ gk_good := gk_in 1046 (by decide +kernel) (by decide +kernel)
theorem gw_992 : (Jvm.Cond.selects "DarkRoomModel" ({ cls := "DarkRoomModel", name := "filter", desc := "(III)I" } : Jvm.MethodName) ({ cls := "DarkRoomModel", name := "filter", desc := "(III)I" } : Jvm.MethodName)) ∈ gk_good := gk_in 1047 (by decide +kernel) (by decide +kernel)
theorem gw_993 : (Jvm.Cond.code ({ cls := "DarkRoomModel", name := "filter", desc := "(III)I" } : Jvm.MethodName) prog_13_method_33_code (6 : Nat) (Option.some Jvm.ClassFile.FieldType.int)) ∈ gk_good := gk_in 1048 (by decide +kernel) (by decide +kernel)
theorem gw_994 : (Jvm.Cond.constantLong "DarkRoomModel" (173 : Nat) (-100000 : Int64)) ∈ gk_good := gk_in 1049 (by decide +kernel) (by decide +kernel)
theorem gw_995 : (Jvm.Cond.constantLong "DarkRoomModel" (175 : Nat) (100000 : Int64)) ∈ gk_good := gk_in 1050 (by decide +kernel) (by decide +kernel)
theorem gw_996 : (Jvm.Cond.methodLink "DarkRoomModel" (177 : Nat) ({ cls := "DarkRoomModel", name := "isFilter", desc := "(I)Z" } : Jvm.MethodName)) ∈ gk_good := gk_in 1051 (by decide +kernel) (by decide +kernel)
theorem gw_998 : (Jvm.Cond.instanceMethod ({ cls := "DarkRoomModel", name := "isFilter", desc := "(I)Z" } : Jvm.MethodName)) ∈ gk_good := gk_in 1053 (by decide +kernel) (by decide +kernel)
theorem gw_999 : (Jvm.Cond.code ({ cls := "DarkRoomModel", name := "isFilter", desc := "(I)Z" } : Jvm.MethodName) prog_13_method_31_code (2 : Nat) (Option.some Jvm.ClassFile.FieldType.boolean)) ∈ gk_good := gk_in 1054 (by decide +kernel) (by decide +kernel)
theorem gw_1000 : (Jvm.Cond.methodLink "DarkRoomModel" (180 : Nat) ({ cls := "DarkRoomModel", name := "highOf", desc := "(III)I" } : Jvm.MethodName)) ∈ gk_good := gk_in 1055 (by decide +kernel) (by decide +kernel)
theorem gw_1002 : (Jvm.Cond.instanceMethod ({ cls := "DarkRoomModel", name := "highOf", desc := "(III)I" } : Jvm.MethodName)) ∈ gk_good := gk_in 1057 (by decide +kernel) (by decide +kernel)
theorem gw_1003 : (Jvm.Cond.code ({ cls := "DarkRoomModel", name := "highOf", desc := "(III)I" } : Jvm.MethodName) prog_13_method_32_code (6 : Nat) (Option.some Jvm.ClassFile.FieldType.int)) ∈ gk_good := gk_in 1058 (by decide +kernel) (by decide +kernel)
theorem gw_1004 : (Jvm.Cond.constant "DarkRoomModel" (183 : Nat) (-100003 : Int32)) ∈ gk_good := gk_in 1059 (by decide +kernel) (by decide +kernel)
theorem gw_1005 : (Jvm.Cond.methodLink "DarkRoomLaw" (63 : Nat) ({ cls := "DarkRoomModel", name := "weight", desc := "(III)I" } : Jvm.MethodName)) ∈ gk_good := gk_in 1060 (by decide +kernel) (by decide +kernel)
theorem gw_1006 : (Jvm.Cond.instanceMethod ({ cls := "DarkRoomModel", name := "weight", desc := "(III)I" } : Jvm.MethodName)) ∈ gk_good := gk_in 1061 (by decide +kernel) (by decide +kernel)
theorem gw_1007 : (Jvm.Cond.selects "DarkRoomModel" ({ cls := "DarkRoomModel", name := "weight", desc := "(III)I" } : Jvm.MethodName) ({ cls := "DarkRoomModel", name := "weight", desc := "(III)I" } : Jvm.MethodName)) ∈ gk_good := gk_in 1062 (by decide +kernel) (by decide +kernel)
theorem gw_1008 : (Jvm.Cond.code ({ cls := "DarkRoomModel", name := "weight", desc := "(III)I" } : Jvm.MethodName) prog_13_method_34_code (5 : Nat) (Option.some Jvm.ClassFile.FieldType.int)) ∈ gk_good := gk_in 1063 (by decide +kernel) (by decide +kernel)
theorem gw_1009 : (Jvm.Cond.methodLink "DarkRoomLaw" (67 : Nat) ({ cls := "DarkRoomModel", name := "apply", desc := "(III)I" } : Jvm.MethodName)) ∈ gk_good := gk_in 1064 (by decide +kernel) (by decide +kernel)
theorem gw_1010 : (Jvm.Cond.instanceMethod ({ cls := "DarkRoomModel", name := "apply", desc := "(III)I" } : Jvm.MethodName)) ∈ gk_good := gk_in 1065 (by decide +kernel) (by decide +kernel)
theorem gw_1011 : (Jvm.Cond.selects "DarkRoomModel" ({ cls := "DarkRoomModel", name := "apply", desc := "(III)I" } : Jvm.MethodName) ({ cls := "DarkRoomModel", name := "apply", desc := "(III)I" } : Jvm.MethodName)) ∈ gk_good := gk_in 1066 (by decide +kernel) (by decide +kernel)
theorem gw_1012 : (Jvm.Cond.code ({ cls := "DarkRoomModel", name := "apply", desc := "(III)I" } : Jvm.MethodName) prog_13_method_41_code (5 : Nat) (Option.some Jvm.ClassFile.FieldType.int)) ∈ gk_good := gk_in 1067 (by decide +kernel) (by decide +kernel)
theorem gw_1013 : (Jvm.Cond.methodLink "DarkRoomModel" (200 : Nat) ({ cls := "DarkRoomModel", name := "giveTo", desc := "(IIZ)V" } : Jvm.MethodName)) ∈ gk_good := gk_in 1068 (by decide +kernel) (by decide +kernel)
theorem gw_1015 : (Jvm.Cond.instanceMethod ({ cls := "DarkRoomModel", name := "giveTo", desc := "(IIZ)V" } : Jvm.MethodName)) ∈ gk_good := gk_in 1070 (by decide +kernel) (by decide +kernel)
theorem gw_1016 : (Jvm.Cond.code ({ cls := "DarkRoomModel", name := "giveTo", desc := "(IIZ)V" } : Jvm.MethodName) prog_13_method_39_code (5 : Nat) (Option.none : Option Jvm.ClassFile.FieldType)) ∈ gk_good := gk_in 1071 (by decide +kernel) (by decide +kernel)
theorem gw_1017 : (Jvm.Cond.methodLink "DarkRoomModel" (204 : Nat) ({ cls := "DarkRoomModel", name := "goOn", desc := "(III)I" } : Jvm.MethodName)) ∈ gk_good := gk_in 1072 (by decide +kernel) (by decide +kernel)
theorem gw_1019 : (Jvm.Cond.instanceMethod ({ cls := "DarkRoomModel", name := "goOn", desc := "(III)I" } : Jvm.MethodName)) ∈ gk_good := gk_in 1074 (by decide +kernel) (by decide +kernel)
theorem gw_1020 : (Jvm.Cond.code ({ cls := "DarkRoomModel", name := "goOn", desc := "(III)I" } : Jvm.MethodName) prog_13_method_40_code (9 : Nat) (Option.some Jvm.ClassFile.FieldType.int)) ∈ gk_good := gk_in 1075 (by decide +kernel) (by decide +kernel)
theorem gw_1021 : (Jvm.Cond.methodLink "DarkRoomModel" (196 : Nat) ({ cls := "DarkRoomModel", name := "single", desc := "(IIIII)I" } : Jvm.MethodName)) ∈ gk_good := gk_in 1076 (by decide +kernel) (by decide +kernel)
theorem gw_1023 : (Jvm.Cond.instanceMethod ({ cls := "DarkRoomModel", name := "single", desc := "(IIIII)I" } : Jvm.MethodName)) ∈ gk_good := gk_in 1078 (by decide +kernel) (by decide +kernel)
theorem gw_1024 : (Jvm.Cond.code ({ cls := "DarkRoomModel", name := "single", desc := "(IIIII)I" } : Jvm.MethodName) prog_13_method_38_code (11 : Nat) (Option.some Jvm.ClassFile.FieldType.int)) ∈ gk_good := gk_in 1079 (by decide +kernel) (by decide +kernel)
theorem gw_1025 : (Jvm.Cond.methodLink "DarkRoomModel" (190 : Nat) ({ cls := "DarkRoomModel", name := "rounded", desc := "(JJ)J" } : Jvm.MethodName)) ∈ gk_good := gk_in 1080 (by decide +kernel) (by decide +kernel)
theorem gw_1026 : (Jvm.Cond.static ({ cls := "DarkRoomModel", name := "rounded", desc := "(JJ)J" } : Jvm.MethodName)) ∈ gk_good := gk_in 1081 (by decide +kernel) (by decide +kernel)
theorem gw_1027 : (Jvm.Cond.code ({ cls := "DarkRoomModel", name := "rounded", desc := "(JJ)J" } : Jvm.MethodName) prog_13_method_36_code (4 : Nat) (Option.some Jvm.ClassFile.FieldType.long)) ∈ gk_good := gk_in 1082 (by decide +kernel) (by decide +kernel)
theorem gw_1028 : (Jvm.Cond.constantLong "DarkRoomModel" (184 : Nat) (2 : Int64)) ∈ gk_good := gk_in 1083 (by decide +kernel) (by decide +kernel)
theorem gw_1029 : (Jvm.Cond.methodLink "DarkRoomModel" (186 : Nat) ({ cls := "DarkRoomModel", name := "floored", desc := "(JJ)J" } : Jvm.MethodName)) ∈ gk_good := gk_in 1084 (by decide +kernel) (by decide +kernel)
theorem gw_1030 : (Jvm.Cond.static ({ cls := "DarkRoomModel", name := "floored", desc := "(JJ)J" } : Jvm.MethodName)) ∈ gk_good := gk_in 1085 (by decide +kernel) (by decide +kernel)
theorem gw_1031 : (Jvm.Cond.code ({ cls := "DarkRoomModel", name := "floored", desc := "(JJ)J" } : Jvm.MethodName) prog_13_method_35_code (6 : Nat) (Option.some Jvm.ClassFile.FieldType.long)) ∈ gk_good := gk_in 1086 (by decide +kernel) (by decide +kernel)
theorem gw_1032 : (Jvm.Cond.methodLink "DarkRoomModel" (193 : Nat) ({ cls := "DarkRoomModel", name := "ranked", desc := "(I)I" } : Jvm.MethodName)) ∈ gk_good := gk_in 1087 (by decide +kernel) (by decide +kernel)
theorem gw_1034 : (Jvm.Cond.instanceMethod ({ cls := "DarkRoomModel", name := "ranked", desc := "(I)I" } : Jvm.MethodName)) ∈ gk_good := gk_in 1089 (by decide +kernel) (by decide +kernel)
theorem gw_1035 : (Jvm.Cond.code ({ cls := "DarkRoomModel", name := "ranked", desc := "(I)I" } : Jvm.MethodName) prog_13_method_37_code (5 : Nat) (Option.some Jvm.ClassFile.FieldType.int)) ∈ gk_good := gk_in 1090 (by decide +kernel) (by decide +kernel)
theorem gw_1036 : (Jvm.Cond.methodLink "DarkRoomModel" (207 : Nat) ({ cls := "DarkRoomModel", name := "takes", desc := "(I)I" } : Jvm.MethodName)) ∈ gk_good := gk_in 1091 (by decide +kernel) (by decide +kernel)
theorem gw_1038 : (Jvm.Cond.instanceMethod ({ cls := "DarkRoomModel", name := "takes", desc := "(I)I" } : Jvm.MethodName)) ∈ gk_good := gk_in 1093 (by decide +kernel) (by decide +kernel)
theorem gw_1039 : (Jvm.Cond.code ({ cls := "DarkRoomModel", name := "takes", desc := "(I)I" } : Jvm.MethodName) prog_13_method_42_code (5 : Nat) (Option.some Jvm.ClassFile.FieldType.int)) ∈ gk_good := gk_in 1094 (by decide +kernel) (by decide +kernel)
theorem gw_1040 : (Jvm.Cond.methodLink "DarkRoomLaw" (72 : Nat) ({ cls := "DarkRoomModel", name := "mask", desc := "(IIIZ)I" } : Jvm.MethodName)) ∈ gk_good := gk_in 1095 (by decide +kernel) (by decide +kernel)
theorem gw_1041 : (Jvm.Cond.instanceMethod ({ cls := "DarkRoomModel", name := "mask", desc := "(IIIZ)I" } : Jvm.MethodName)) ∈ gk_good := gk_in 1096 (by decide +kernel) (by decide +kernel)
theorem gw_1042 : (Jvm.Cond.selects "DarkRoomModel" ({ cls := "DarkRoomModel", name := "mask", desc := "(IIIZ)I" } : Jvm.MethodName) ({ cls := "DarkRoomModel", name := "mask", desc := "(IIIZ)I" } : Jvm.MethodName)) ∈ gk_good := gk_in 1097 (by decide +kernel) (by decide +kernel)
theorem gw_1043 : (Jvm.Cond.code ({ cls := "DarkRoomModel", name := "mask", desc := "(IIIZ)I" } : Jvm.MethodName) prog_13_method_46_code (6 : Nat) (Option.some Jvm.ClassFile.FieldType.int)) ∈ gk_good := gk_in 1098 (by decide +kernel) (by decide +kernel)
theorem gw_1044 : (Jvm.Cond.methodLink "DarkRoomModel" (212 : Nat) ({ cls := "DarkRoomModel", name := "isMask", desc := "(I)Z" } : Jvm.MethodName)) ∈ gk_good := gk_in 1099 (by decide +kernel) (by decide +kernel)
theorem gw_1045 : (Jvm.Cond.static ({ cls := "DarkRoomModel", name := "isMask", desc := "(I)Z" } : Jvm.MethodName)) ∈ gk_good := gk_in 1100 (by decide +kernel) (by decide +kernel)
theorem gw_1046 : (Jvm.Cond.code ({ cls := "DarkRoomModel", name := "isMask", desc := "(I)Z" } : Jvm.MethodName) prog_13_method_43_code (1 : Nat) (Option.some Jvm.ClassFile.FieldType.boolean)) ∈ gk_good := gk_in 1101 (by decide +kernel) (by decide +kernel)
theorem gw_1047 : (Jvm.Cond.methodLink "DarkRoomModel" (215 : Nat) ({ cls := "DarkRoomModel", name := "isSpot", desc := "(II)Z" } : Jvm.MethodName)) ∈ gk_good := gk_in 1102 (by decide +kernel) (by decide +kernel)
theorem gw_1048 : (Jvm.Cond.static ({ cls := "DarkRoomModel", name := "isSpot", desc := "(II)Z" } : Jvm.MethodName)) ∈ gk_good := gk_in 1103 (by decide +kernel) (by decide +kernel)
theorem gw_1049 : (Jvm.Cond.code ({ cls := "DarkRoomModel", name := "isSpot", desc := "(II)Z" } : Jvm.MethodName) prog_13_method_44_code (2 : Nat) (Option.some Jvm.ClassFile.FieldType.boolean)) ∈ gk_good := gk_in 1104 (by decide +kernel) (by decide +kernel)
theorem gw_1050 : (Jvm.Cond.constantLong "DarkRoomModel" (210 : Nat) (15 : Int64)) ∈ gk_good := gk_in 1105 (by decide +kernel) (by decide +kernel)
theorem gw_1051 : (Jvm.Cond.methodLink "DarkRoomModel" (219 : Nat) ({ cls := "DarkRoomModel", name := "spot", desc := "(III)I" } : Jvm.MethodName)) ∈ gk_good := gk_in 1106 (by decide +kernel) (by decide +kernel)
theorem gw_1052 : (Jvm.Cond.static ({ cls := "DarkRoomModel", name := "spot", desc := "(III)I" } : Jvm.MethodName)) ∈ gk_good := gk_in 1107 (by decide +kernel) (by decide +kernel)
theorem gw_1053 : (Jvm.Cond.code ({ cls := "DarkRoomModel", name := "spot", desc := "(III)I" } : Jvm.MethodName) prog_13_method_45_code (3 : Nat) (Option.some Jvm.ClassFile.FieldType.int)) ∈ gk_good := gk_in 1108 (by decide +kernel) (by decide +kernel)
theorem gw_1054 : (Jvm.Cond.methodLink "DarkRoomLaw" (76 : Nat) ({ cls := "DarkRoomModel", name := "maskOf", desc := "(IIII)I" } : Jvm.MethodName)) ∈ gk_good := gk_in 1109 (by decide +kernel) (by decide +kernel)
theorem gw_1055 : (Jvm.Cond.instanceMethod ({ cls := "DarkRoomModel", name := "maskOf", desc := "(IIII)I" } : Jvm.MethodName)) ∈ gk_good := gk_in 1110 (by decide +kernel) (by decide +kernel)
theorem gw_1056 : (Jvm.Cond.selects "DarkRoomModel" ({ cls := "DarkRoomModel", name := "maskOf", desc := "(IIII)I" } : Jvm.MethodName) ({ cls := "DarkRoomModel", name := "maskOf", desc := "(IIII)I" } : Jvm.MethodName)) ∈ gk_good := gk_in 1111 (by decide +kernel) (by decide +kernel)
theorem gw_1057 : (Jvm.Cond.code ({ cls := "DarkRoomModel", name := "maskOf", desc := "(IIII)I" } : Jvm.MethodName) prog_13_method_48_code (7 : Nat) (Option.some Jvm.ClassFile.FieldType.int)) ∈ gk_good := gk_in 1112 (by decide +kernel) (by decide +kernel)
theorem gw_1058 : (Jvm.Cond.methodLink "DarkRoomModel" (222 : Nat) ({ cls := "DarkRoomModel", name := "ons", desc := "(I)I" } : Jvm.MethodName)) ∈ gk_good := gk_in 1113 (by decide +kernel) (by decide +kernel)
theorem gw_1060 : (Jvm.Cond.instanceMethod ({ cls := "DarkRoomModel", name := "ons", desc := "(I)I" } : Jvm.MethodName)) ∈ gk_good := gk_in 1115 (by decide +kernel) (by decide +kernel)
theorem gw_1061 : (Jvm.Cond.code ({ cls := "DarkRoomModel", name := "ons", desc := "(I)I" } : Jvm.MethodName) prog_13_method_47_code (4 : Nat) (Option.some Jvm.ClassFile.FieldType.int)) ∈ gk_good := gk_in 1116 (by decide +kernel) (by decide +kernel)
theorem gw_1062 : (Jvm.Cond.methodLink "DarkRoomLaw" (80 : Nat) ({ cls := "DarkRoomModel", name := "maskBy", desc := "(III)I" } : Jvm.MethodName)) ∈ gk_good := gk_in 1117 (by decide +kernel) (by decide +kernel)
theorem gw_1063 : (Jvm.Cond.instanceMethod ({ cls := "DarkRoomModel", name := "maskBy", desc := "(III)I" } : Jvm.MethodName)) ∈ gk_good := gk_in 1118 (by decide +kernel) (by decide +kernel)
theorem gw_1064 : (Jvm.Cond.selects "DarkRoomModel" ({ cls := "DarkRoomModel", name := "maskBy", desc := "(III)I" } : Jvm.MethodName) ({ cls := "DarkRoomModel", name := "maskBy", desc := "(III)I" } : Jvm.MethodName)) ∈ gk_good := gk_in 1119 (by decide +kernel) (by decide +kernel)
theorem gw_1065 : (Jvm.Cond.code ({ cls := "DarkRoomModel", name := "maskBy", desc := "(III)I" } : Jvm.MethodName) prog_13_method_50_code (10 : Nat) (Option.some Jvm.ClassFile.FieldType.int)) ∈ gk_good := gk_in 1120 (by decide +kernel) (by decide +kernel)
theorem gw_1066 : (Jvm.Cond.constantLong "DarkRoomModel" (225 : Nat) (6 : Int64)) ∈ gk_good := gk_in 1121 (by decide +kernel) (by decide +kernel)
theorem gw_1067 : (Jvm.Cond.methodLink "DarkRoomModel" (227 : Nat) ({ cls := "DarkRoomModel", name := "beside", desc := "(IIZ)I" } : Jvm.MethodName)) ∈ gk_good := gk_in 1122 (by decide +kernel) (by decide +kernel)
theorem gw_1069 : (Jvm.Cond.instanceMethod ({ cls := "DarkRoomModel", name := "beside", desc := "(IIZ)I" } : Jvm.MethodName)) ∈ gk_good := gk_in 1124 (by decide +kernel) (by decide +kernel)
theorem gw_1070 : (Jvm.Cond.code ({ cls := "DarkRoomModel", name := "beside", desc := "(IIZ)I" } : Jvm.MethodName) prog_13_method_49_code (8 : Nat) (Option.some Jvm.ClassFile.FieldType.int)) ∈ gk_good := gk_in 1125 (by decide +kernel) (by decide +kernel)
theorem gw_1071 : (Jvm.Cond.methodLink "DarkRoomLaw" (84 : Nat) ({ cls := "DarkRoomModel", name := "isOn", desc := "(III)I" } : Jvm.MethodName)) ∈ gk_good := gk_in 1126 (by decide +kernel) (by decide +kernel)
theorem gw_1072 : (Jvm.Cond.instanceMethod ({ cls := "DarkRoomModel", name := "isOn", desc := "(III)I" } : Jvm.MethodName)) ∈ gk_good := gk_in 1127 (by decide +kernel) (by decide +kernel)
theorem gw_1073 : (Jvm.Cond.selects "DarkRoomModel" ({ cls := "DarkRoomModel", name := "isOn", desc := "(III)I" } : Jvm.MethodName) ({ cls := "DarkRoomModel", name := "isOn", desc := "(III)I" } : Jvm.MethodName)) ∈ gk_good := gk_in 1128 (by decide +kernel) (by decide +kernel)
theorem gw_1074 : (Jvm.Cond.code ({ cls := "DarkRoomModel", name := "isOn", desc := "(III)I" } : Jvm.MethodName) prog_13_method_51_code (4 : Nat) (Option.some Jvm.ClassFile.FieldType.int)) ∈ gk_good := gk_in 1129 (by decide +kernel) (by decide +kernel)
theorem gw_1075 : (Jvm.Cond.methodLink "DarkRoomLaw" (89 : Nat) ({ cls := "DarkRoomModel", name := "fill", desc := "(IIIII)I" } : Jvm.MethodName)) ∈ gk_good := gk_in 1130 (by decide +kernel) (by decide +kernel)
theorem gw_1076 : (Jvm.Cond.instanceMethod ({ cls := "DarkRoomModel", name := "fill", desc := "(IIIII)I" } : Jvm.MethodName)) ∈ gk_good := gk_in 1131 (by decide +kernel) (by decide +kernel)
theorem gw_1077 : (Jvm.Cond.selects "DarkRoomModel" ({ cls := "DarkRoomModel", name := "fill", desc := "(IIIII)I" } : Jvm.MethodName) ({ cls := "DarkRoomModel", name := "fill", desc := "(IIIII)I" } : Jvm.MethodName)) ∈ gk_good := gk_in 1132 (by decide +kernel) (by decide +kernel)
theorem gw_1078 : (Jvm.Cond.code ({ cls := "DarkRoomModel", name := "fill", desc := "(IIIII)I" } : Jvm.MethodName) prog_13_method_52_code (11 : Nat) (Option.some Jvm.ClassFile.FieldType.int)) ∈ gk_good := gk_in 1133 (by decide +kernel) (by decide +kernel)
theorem gw_1079 : (Jvm.Cond.methodLink "DarkRoomModel" (231 : Nat) ({ cls := "DarkRoomModel", name := "isBeside", desc := "(I)Z" } : Jvm.MethodName)) ∈ gk_good := gk_in 1134 (by decide +kernel) (by decide +kernel)
theorem gw_1081 : (Jvm.Cond.instanceMethod ({ cls := "DarkRoomModel", name := "isBeside", desc := "(I)Z" } : Jvm.MethodName)) ∈ gk_good := gk_in 1136 (by decide +kernel) (by decide +kernel)
theorem gw_1082 : (Jvm.Cond.code ({ cls := "DarkRoomModel", name := "isBeside", desc := "(I)Z" } : Jvm.MethodName) prog_13_method_53_code (4 : Nat) (Option.some Jvm.ClassFile.FieldType.boolean)) ∈ gk_good := gk_in 1137 (by decide +kernel) (by decide +kernel)
theorem gw_1083 : (Jvm.Cond.methodLink "DarkRoomLaw" (93 : Nat) ({ cls := "DarkRoomModel", name := "dither", desc := "(II)I" } : Jvm.MethodName)) ∈ gk_good := gk_in 1138 (by decide +kernel) (by decide +kernel)
theorem gw_1084 : (Jvm.Cond.instanceMethod ({ cls := "DarkRoomModel", name := "dither", desc := "(II)I" } : Jvm.MethodName)) ∈ gk_good := gk_in 1139 (by decide +kernel) (by decide +kernel)
theorem gw_1085 : (Jvm.Cond.selects "DarkRoomModel" ({ cls := "DarkRoomModel", name := "dither", desc := "(II)I" } : Jvm.MethodName) ({ cls := "DarkRoomModel", name := "dither", desc := "(II)I" } : Jvm.MethodName)) ∈ gk_good := gk_in 1140 (by decide +kernel) (by decide +kernel)
theorem gw_1086 : (Jvm.Cond.code ({ cls := "DarkRoomModel", name := "dither", desc := "(II)I" } : Jvm.MethodName) prog_13_method_55_code (10 : Nat) (Option.some Jvm.ClassFile.FieldType.int)) ∈ gk_good := gk_in 1141 (by decide +kernel) (by decide +kernel)
theorem gw_1087 : (Jvm.Cond.methodLink "DarkRoomModel" (234 : Nat) ({ cls := "DarkRoomModel", name := "carry", desc := "(III)V" } : Jvm.MethodName)) ∈ gk_good := gk_in 1142 (by decide +kernel) (by decide +kernel)
theorem gw_1089 : (Jvm.Cond.instanceMethod ({ cls := "DarkRoomModel", name := "carry", desc := "(III)V" } : Jvm.MethodName)) ∈ gk_good := gk_in 1144 (by decide +kernel) (by decide +kernel)
theorem gw_1090 : (Jvm.Cond.code ({ cls := "DarkRoomModel", name := "carry", desc := "(III)V" } : Jvm.MethodName) prog_13_method_54_code (4 : Nat) (Option.none : Option Jvm.ClassFile.FieldType)) ∈ gk_good := gk_in 1145 (by decide +kernel) (by decide +kernel)
theorem gw_1091 : (Jvm.Cond.methodLink "DarkRoomLaw" (98 : Nat) ({ cls := "DarkRoomModel", name := "even", desc := "(I)I" } : Jvm.MethodName)) ∈ gk_good := gk_in 1146 (by decide +kernel) (by decide +kernel)
theorem gw_1092 : (Jvm.Cond.instanceMethod ({ cls := "DarkRoomModel", name := "even", desc := "(I)I" } : Jvm.MethodName)) ∈ gk_good := gk_in 1147 (by decide +kernel) (by decide +kernel)
theorem gw_1093 : (Jvm.Cond.selects "DarkRoomModel" ({ cls := "DarkRoomModel", name := "even", desc := "(I)I" } : Jvm.MethodName) ({ cls := "DarkRoomModel", name := "even", desc := "(I)I" } : Jvm.MethodName)) ∈ gk_good := gk_in 1148 (by decide +kernel) (by decide +kernel)
theorem gw_1094 : (Jvm.Cond.code ({ cls := "DarkRoomModel", name := "even", desc := "(I)I" } : Jvm.MethodName) prog_13_method_56_code (6 : Nat) (Option.some Jvm.ClassFile.FieldType.int)) ∈ gk_good := gk_in 1149 (by decide +kernel) (by decide +kernel)
theorem gw_1095 : (Jvm.Cond.methodLink "DarkRoomModel" (238 : Nat) ({ cls := "DarkRoomModel", name := "about", desc := "(II)I" } : Jvm.MethodName)) ∈ gk_good := gk_in 1150 (by decide +kernel) (by decide +kernel)
theorem gw_1096 : (Jvm.Cond.methodLink "DarkRoomModel" (242 : Nat) ({ cls := "DarkRoomModel", name := "upTo", desc := "(I)I" } : Jvm.MethodName)) ∈ gk_good := gk_in 1151 (by decide +kernel) (by decide +kernel)
theorem gw_1098 : (Jvm.Cond.instanceMethod ({ cls := "DarkRoomModel", name := "upTo", desc := "(I)I" } : Jvm.MethodName)) ∈ gk_good := gk_in 1153 (by decide +kernel) (by decide +kernel)
theorem gw_1099 : (Jvm.Cond.code ({ cls := "DarkRoomModel", name := "upTo", desc := "(I)I" } : Jvm.MethodName) prog_13_method_57_code (4 : Nat) (Option.some Jvm.ClassFile.FieldType.int)) ∈ gk_good := gk_in 1154 (by decide +kernel) (by decide +kernel)
theorem gw_1100 : (Jvm.Cond.methodLink "DarkRoomLaw" (102 : Nat) ({ cls := "DarkRoomModel", name := "energy", desc := "(III)I" } : Jvm.MethodName)) ∈ gk_good := gk_in 1155 (by decide +kernel) (by decide +kernel)
theorem gw_1101 : (Jvm.Cond.instanceMethod ({ cls := "DarkRoomModel", name := "energy", desc := "(III)I" } : Jvm.MethodName)) ∈ gk_good := gk_in 1156 (by decide +kernel) (by decide +kernel)
theorem gw_1102 : (Jvm.Cond.selects "DarkRoomModel" ({ cls := "DarkRoomModel", name := "energy", desc := "(III)I" } : Jvm.MethodName) ({ cls := "DarkRoomModel", name := "energy", desc := "(III)I" } : Jvm.MethodName)) ∈ gk_good := gk_in 1157 (by decide +kernel) (by decide +kernel)
theorem gw_1103 : (Jvm.Cond.code ({ cls := "DarkRoomModel", name := "energy", desc := "(III)I" } : Jvm.MethodName) prog_13_method_60_code (4 : Nat) (Option.some Jvm.ClassFile.FieldType.int)) ∈ gk_good := gk_in 1158 (by decide +kernel) (by decide +kernel)
theorem gw_1104 : (Jvm.Cond.methodLink "DarkRoomModel" (248 : Nat) ({ cls := "DarkRoomModel", name := "energyAt", desc := "(II)I" } : Jvm.MethodName)) ∈ gk_good := gk_in 1159 (by decide +kernel) (by decide +kernel)
theorem gw_1106 : (Jvm.Cond.instanceMethod ({ cls := "DarkRoomModel", name := "energyAt", desc := "(II)I" } : Jvm.MethodName)) ∈ gk_good := gk_in 1161 (by decide +kernel) (by decide +kernel)
theorem gw_1107 : (Jvm.Cond.code ({ cls := "DarkRoomModel", name := "energyAt", desc := "(II)I" } : Jvm.MethodName) prog_13_method_59_code (3 : Nat) (Option.some Jvm.ClassFile.FieldType.int)) ∈ gk_good := gk_in 1162 (by decide +kernel) (by decide +kernel)
theorem gw_1108 : (Jvm.Cond.methodLink "DarkRoomModel" (245 : Nat) ({ cls := "DarkRoomModel", name := "between", desc := "(II)I" } : Jvm.MethodName)) ∈ gk_good := gk_in 1163 (by decide +kernel) (by decide +kernel)
theorem gw_1109 : (Jvm.Cond.static ({ cls := "DarkRoomModel", name := "between", desc := "(II)I" } : Jvm.MethodName)) ∈ gk_good := gk_in 1164 (by decide +kernel) (by decide +kernel)
theorem gw_1110 : (Jvm.Cond.code ({ cls := "DarkRoomModel", name := "between", desc := "(II)I" } : Jvm.MethodName) prog_13_method_58_code (2 : Nat) (Option.some Jvm.ClassFile.FieldType.int)) ∈ gk_good := gk_in 1165 (by decide +kernel) (by decide +kernel)
theorem gw_1111 : (Jvm.Cond.methodLink "DarkRoomLaw" (106 : Nat) ({ cls := "DarkRoomModel", name := "seam", desc := "(II)I" } : Jvm.MethodName)) ∈ gk_good := gk_in 1166 (by decide +kernel) (by decide +kernel)
theorem gw_1112 : (Jvm.Cond.instanceMethod ({ cls := "DarkRoomModel", name := "seam", desc := "(II)I" } : Jvm.MethodName)) ∈ gk_good := gk_in 1167 (by decide +kernel) (by decide +kernel)
theorem gw_1113 : (Jvm.Cond.selects "DarkRoomModel" ({ cls := "DarkRoomModel", name := "seam", desc := "(II)I" } : Jvm.MethodName) ({ cls := "DarkRoomModel", name := "seam", desc := "(II)I" } : Jvm.MethodName)) ∈ gk_good := gk_in 1168 (by decide +kernel) (by decide +kernel)
theorem gw_1114 : (Jvm.Cond.code ({ cls := "DarkRoomModel", name := "seam", desc := "(II)I" } : Jvm.MethodName) prog_13_method_63_code (4 : Nat) (Option.some Jvm.ClassFile.FieldType.int)) ∈ gk_good := gk_in 1169 (by decide +kernel) (by decide +kernel)
theorem gw_1115 : (Jvm.Cond.methodLink "DarkRoomModel" (254 : Nat) ({ cls := "DarkRoomModel", name := "laySeam", desc := "(I)I" } : Jvm.MethodName)) ∈ gk_good := gk_in 1170 (by decide +kernel) (by decide +kernel)
theorem gw_1117 : (Jvm.Cond.instanceMethod ({ cls := "DarkRoomModel", name := "laySeam", desc := "(I)I" } : Jvm.MethodName)) ∈ gk_good := gk_in 1172 (by decide +kernel) (by decide +kernel)
theorem gw_1118 : (Jvm.Cond.code ({ cls := "DarkRoomModel", name := "laySeam", desc := "(I)I" } : Jvm.MethodName) prog_13_method_62_code (5 : Nat) (Option.some Jvm.ClassFile.FieldType.int)) ∈ gk_good := gk_in 1173 (by decide +kernel) (by decide +kernel)
theorem gw_1119 : (Jvm.Cond.methodLink "DarkRoomModel" (251 : Nat) ({ cls := "DarkRoomModel", name := "leastIn", desc := "(III)I" } : Jvm.MethodName)) ∈ gk_good := gk_in 1174 (by decide +kernel) (by decide +kernel)
theorem gw_1121 : (Jvm.Cond.instanceMethod ({ cls := "DarkRoomModel", name := "leastIn", desc := "(III)I" } : Jvm.MethodName)) ∈ gk_good := gk_in 1176 (by decide +kernel) (by decide +kernel)
theorem gw_1122 : (Jvm.Cond.code ({ cls := "DarkRoomModel", name := "leastIn", desc := "(III)I" } : Jvm.MethodName) prog_13_method_61_code (6 : Nat) (Option.some Jvm.ClassFile.FieldType.int)) ∈ gk_good := gk_in 1177 (by decide +kernel) (by decide +kernel)
theorem gw_1123 : (Jvm.Cond.methodLink "DarkRoomLaw" (110 : Nat) ({ cls := "DarkRoomModel", name := "seamGoes", desc := "(II)I" } : Jvm.MethodName)) ∈ gk_good := gk_in 1178 (by decide +kernel) (by decide +kernel)
theorem gw_1124 : (Jvm.Cond.instanceMethod ({ cls := "DarkRoomModel", name := "seamGoes", desc := "(II)I" } : Jvm.MethodName)) ∈ gk_good := gk_in 1179 (by decide +kernel) (by decide +kernel)
theorem gw_1125 : (Jvm.Cond.selects "DarkRoomModel" ({ cls := "DarkRoomModel", name := "seamGoes", desc := "(II)I" } : Jvm.MethodName) ({ cls := "DarkRoomModel", name := "seamGoes", desc := "(II)I" } : Jvm.MethodName)) ∈ gk_good := gk_in 1180 (by decide +kernel) (by decide +kernel)
theorem gw_1126 : (Jvm.Cond.code ({ cls := "DarkRoomModel", name := "seamGoes", desc := "(II)I" } : Jvm.MethodName) prog_13_method_64_code (8 : Nat) (Option.some Jvm.ClassFile.FieldType.int)) ∈ gk_good := gk_in 1181 (by decide +kernel) (by decide +kernel)
theorem gw_1127 : (Jvm.Cond.methodLink "DarkRoomLaw" (114 : Nat) ({ cls := "DarkRoomModel", name := "runs", desc := "(II)I" } : Jvm.MethodName)) ∈ gk_good := gk_in 1182 (by decide +kernel) (by decide +kernel)
theorem gw_1128 : (Jvm.Cond.instanceMethod ({ cls := "DarkRoomModel", name := "runs", desc := "(II)I" } : Jvm.MethodName)) ∈ gk_good := gk_in 1183 (by decide +kernel) (by decide +kernel)
theorem gw_1129 : (Jvm.Cond.selects "DarkRoomModel" ({ cls := "DarkRoomModel", name := "runs", desc := "(II)I" } : Jvm.MethodName) ({ cls := "DarkRoomModel", name := "runs", desc := "(II)I" } : Jvm.MethodName)) ∈ gk_good := gk_in 1184 (by decide +kernel) (by decide +kernel)
theorem gw_1130 : (Jvm.Cond.code ({ cls := "DarkRoomModel", name := "runs", desc := "(II)I" } : Jvm.MethodName) prog_13_method_67_code (3 : Nat) (Option.some Jvm.ClassFile.FieldType.int)) ∈ gk_good := gk_in 1185 (by decide +kernel) (by decide +kernel)
theorem gw_1131 : (Jvm.Cond.methodLink "DarkRoomModel" (263 : Nat) ({ cls := "DarkRoomModel", name := "layRuns", desc := "(I)V" } : Jvm.MethodName)) ∈ gk_good := gk_in 1186 (by decide +kernel) (by decide +kernel)
theorem gw_1133 : (Jvm.Cond.instanceMethod ({ cls := "DarkRoomModel", name := "layRuns", desc := "(I)V" } : Jvm.MethodName)) ∈ gk_good := gk_in 1188 (by decide +kernel) (by decide +kernel)
theorem gw_1134 : (Jvm.Cond.code ({ cls := "DarkRoomModel", name := "layRuns", desc := "(I)V" } : Jvm.MethodName) prog_13_method_66_code (6 : Nat) (Option.none : Option Jvm.ClassFile.FieldType)) ∈ gk_good := gk_in 1189 (by decide +kernel) (by decide +kernel)
theorem gw_1135 : (Jvm.Cond.methodLink "DarkRoomModel" (260 : Nat) ({ cls := "DarkRoomModel", name := "addRun", desc := "(I)V" } : Jvm.MethodName)) ∈ gk_good := gk_in 1190 (by decide +kernel) (by decide +kernel)
theorem gw_1137 : (Jvm.Cond.instanceMethod ({ cls := "DarkRoomModel", name := "addRun", desc := "(I)V" } : Jvm.MethodName)) ∈ gk_good := gk_in 1192 (by decide +kernel) (by decide +kernel)
theorem gw_1138 : (Jvm.Cond.code ({ cls := "DarkRoomModel", name := "addRun", desc := "(I)V" } : Jvm.MethodName) prog_13_method_65_code (2 : Nat) (Option.none : Option Jvm.ClassFile.FieldType)) ∈ gk_good := gk_in 1193 (by decide +kernel) (by decide +kernel)
theorem gw_1139 : (Jvm.Cond.methodLink "DarkRoomLaw" (118 : Nat) ({ cls := "DarkRoomModel", name := "read", desc := "(I)I" } : Jvm.MethodName)) ∈ gk_good := gk_in 1194 (by decide +kernel) (by decide +kernel)
theorem gw_1140 : (Jvm.Cond.instanceMethod ({ cls := "DarkRoomModel", name := "read", desc := "(I)I" } : Jvm.MethodName)) ∈ gk_good := gk_in 1195 (by decide +kernel) (by decide +kernel)
theorem gw_1141 : (Jvm.Cond.selects "DarkRoomModel" ({ cls := "DarkRoomModel", name := "read", desc := "(I)I" } : Jvm.MethodName) ({ cls := "DarkRoomModel", name := "read", desc := "(I)I" } : Jvm.MethodName)) ∈ gk_good := gk_in 1196 (by decide +kernel) (by decide +kernel)
theorem gw_1142 : (Jvm.Cond.code ({ cls := "DarkRoomModel", name := "read", desc := "(I)I" } : Jvm.MethodName) prog_13_method_70_code (6 : Nat) (Option.some Jvm.ClassFile.FieldType.int)) ∈ gk_good := gk_in 1197 (by decide +kernel) (by decide +kernel)
theorem gw_1143 : (Jvm.Cond.methodLink "DarkRoomModel" (272 : Nat) ({ cls := "DarkRoomModel", name := "fault", desc := "()I" } : Jvm.MethodName)) ∈ gk_good := gk_in 1198 (by decide +kernel) (by decide +kernel)
theorem gw_1145 : (Jvm.Cond.instanceMethod ({ cls := "DarkRoomModel", name := "fault", desc := "()I" } : Jvm.MethodName)) ∈ gk_good := gk_in 1200 (by decide +kernel) (by decide +kernel)
theorem gw_1146 : (Jvm.Cond.code ({ cls := "DarkRoomModel", name := "fault", desc := "()I" } : Jvm.MethodName) prog_13_method_69_code (8 : Nat) (Option.some Jvm.ClassFile.FieldType.int)) ∈ gk_good := gk_in 1201 (by decide +kernel) (by decide +kernel)
theorem gw_1147 : (Jvm.Cond.methodLink "DarkRoomModel" (269 : Nat) ({ cls := "DarkRoomModel", name := "isByte", desc := "(III)Z" } : Jvm.MethodName)) ∈ gk_good := gk_in 1202 (by decide +kernel) (by decide +kernel)
theorem gw_1149 : (Jvm.Cond.instanceMethod ({ cls := "DarkRoomModel", name := "isByte", desc := "(III)Z" } : Jvm.MethodName)) ∈ gk_good := gk_in 1204 (by decide +kernel) (by decide +kernel)
theorem gw_1150 : (Jvm.Cond.code ({ cls := "DarkRoomModel", name := "isByte", desc := "(III)Z" } : Jvm.MethodName) prog_13_method_68_code (4 : Nat) (Option.some Jvm.ClassFile.FieldType.boolean)) ∈ gk_good := gk_in 1205 (by decide +kernel) (by decide +kernel)
theorem gw_1151 : (Jvm.Cond.methodLink "DarkRoomLaw" (122 : Nat) ({ cls := "DarkRoomModel", name := "byteTo", desc := "(I)I" } : Jvm.MethodName)) ∈ gk_good := gk_in 1206 (by decide +kernel) (by decide +kernel)
theorem gw_1152 : (Jvm.Cond.instanceMethod ({ cls := "DarkRoomModel", name := "byteTo", desc := "(I)I" } : Jvm.MethodName)) ∈ gk_good := gk_in 1207 (by decide +kernel) (by decide +kernel)
theorem gw_1153 : (Jvm.Cond.selects "DarkRoomModel" ({ cls := "DarkRoomModel", name := "byteTo", desc := "(I)I" } : Jvm.MethodName) ({ cls := "DarkRoomModel", name := "byteTo", desc := "(I)I" } : Jvm.MethodName)) ∈ gk_good := gk_in 1208 (by decide +kernel) (by decide +kernel)
theorem gw_1154 : (Jvm.Cond.code ({ cls := "DarkRoomModel", name := "byteTo", desc := "(I)I" } : Jvm.MethodName) prog_13_method_71_code (2 : Nat) (Option.some Jvm.ClassFile.FieldType.int)) ∈ gk_good := gk_in 1209 (by decide +kernel) (by decide +kernel)
theorem gw_1155 : (Jvm.Cond.methodLink "DarkRoomLaw" (135 : Nat) ({ cls := "DarkRoomModel", name := "count", desc := "(I)I" } : Jvm.MethodName)) ∈ gk_good := gk_in 1210 (by decide +kernel) (by decide +kernel)
theorem gw_1156 : (Jvm.Cond.instanceMethod ({ cls := "DarkRoomModel", name := "count", desc := "(I)I" } : Jvm.MethodName)) ∈ gk_good := gk_in 1211 (by decide +kernel) (by decide +kernel)
theorem gw_1157 : (Jvm.Cond.selects "DarkRoomModel" ({ cls := "DarkRoomModel", name := "count", desc := "(I)I" } : Jvm.MethodName) ({ cls := "DarkRoomModel", name := "count", desc := "(I)I" } : Jvm.MethodName)) ∈ gk_good := gk_in 1212 (by decide +kernel) (by decide +kernel)
theorem gw_1158 : (Jvm.Cond.code ({ cls := "DarkRoomModel", name := "count", desc := "(I)I" } : Jvm.MethodName) prog_13_method_72_code (4 : Nat) (Option.some Jvm.ClassFile.FieldType.int)) ∈ gk_good := gk_in 1213 (by decide +kernel) (by decide +kernel)
theorem gw_1159 : (Jvm.Cond.constantLong "DarkRoomLaw" (22 : Nat) (4294967295 : Int64)) ∈ gk_good := gk_in 1214 (by decide +kernel) (by decide +kernel)
theorem gc_Act : ∀ w ∈ u_ws RX0 TX0 4, w ∈ gk_good := by decide +kernel
theorem gc_Bench : ∀ w ∈ u_ws RX1 TX1 2, w ∈ gk_good := by decide +kernel
theorem gc_Filter : ∀ w ∈ u_ws RX2 TX2 7, w ∈ gk_good := by decide +kernel
theorem gc_Flood : ∀ w ∈ u_ws RX3 TX3 3, w ∈ gk_good := by decide +kernel
theorem gc_History : ∀ w ∈ u_ws RX4 TX4 4, w ∈ gk_good := by decide +kernel
theorem gc_Mask : ∀ w ∈ u_ws RX5 TX5 1, w ∈ gk_good := by decide +kernel
theorem gc_Picture : ∀ w ∈ u_ws RX6 TX6 4, w ∈ gk_good := by decide +kernel
theorem gc_Seam : ∀ w ∈ u_ws RX7 TX7 3, w ∈ gk_good := by decide +kernel
theorem gc_Tape : ∀ w ∈ u_ws RX8 TX8 2, w ∈ gk_good := by decide +kernel
theorem gc_Tones : ∀ w ∈ u_ws RX9 TX9 2, w ∈ gk_good := by decide +kernel
theorem gc_Room : ∀ w ∈ u_ws RX10 TX10 12, w ∈ gk_good := by decide +kernel
theorem gc_Mo : ∀ w ∈ u_ws RX11 TX11 26, w ∈ gk_good := by decide +kernel
theorem gF_Picture_9 : gk_F "DarkRoom$Picture" 9 6 0 := ⟨RX6, TX6, 4, rfl, by decide, gc_Picture, gw_36⟩
theorem gP_Picture_9 : gk_FP "DarkRoom$Picture" 9 6 0 (.int) false := ⟨RX6, TX6, 4, tyX6, rfl, by decide, gc_Picture, gw_36, tyX6_ok, nmX6, rfl, rfl, fun h => by cases h⟩
theorem gF_Tones_18 : gk_F "DarkRoom$Tones" 18 6 0 := ⟨RX6, TX6, 4, rfl, by decide, gc_Picture, gw_37⟩
theorem gP_Tones_18 : gk_FP "DarkRoom$Tones" 18 6 0 (.int) false := ⟨RX6, TX6, 4, tyX6, rfl, by decide, gc_Picture, gw_37, tyX6_ok, nmX6, rfl, rfl, fun h => by cases h⟩
theorem gF_Bench_22 : gk_F "DarkRoom$Bench" 22 6 0 := ⟨RX6, TX6, 4, rfl, by decide, gc_Picture, gw_38⟩
theorem gP_Bench_22 : gk_FP "DarkRoom$Bench" 22 6 0 (.int) false := ⟨RX6, TX6, 4, tyX6, rfl, by decide, gc_Picture, gw_38, tyX6_ok, nmX6, rfl, rfl, fun h => by cases h⟩
theorem gF_Room_133 : gk_F "DarkRoom" 133 6 0 := ⟨RX6, TX6, 4, rfl, by decide, gc_Picture, gw_39⟩
theorem gP_Room_133 : gk_FP "DarkRoom" 133 6 0 (.int) false := ⟨RX6, TX6, 4, tyX6, rfl, by decide, gc_Picture, gw_39, tyX6_ok, nmX6, rfl, rfl, fun h => by cases h⟩
theorem gF_Picture_15 : gk_F "DarkRoom$Picture" 15 6 1 := ⟨RX6, TX6, 4, rfl, by decide, gc_Picture, gw_40⟩
theorem gP_Picture_15 : gk_FP "DarkRoom$Picture" 15 6 1 (.int) false := ⟨RX6, TX6, 4, tyX6, rfl, by decide, gc_Picture, gw_40, tyX6_ok, nmX6, rfl, rfl, fun h => by cases h⟩
theorem gF_Tones_24 : gk_F "DarkRoom$Tones" 24 6 1 := ⟨RX6, TX6, 4, rfl, by decide, gc_Picture, gw_41⟩
theorem gP_Tones_24 : gk_FP "DarkRoom$Tones" 24 6 1 (.int) false := ⟨RX6, TX6, 4, tyX6, rfl, by decide, gc_Picture, gw_41, tyX6_ok, nmX6, rfl, rfl, fun h => by cases h⟩
theorem gF_Bench_26 : gk_F "DarkRoom$Bench" 26 6 1 := ⟨RX6, TX6, 4, rfl, by decide, gc_Picture, gw_42⟩
theorem gP_Bench_26 : gk_FP "DarkRoom$Bench" 26 6 1 (.int) false := ⟨RX6, TX6, 4, tyX6, rfl, by decide, gc_Picture, gw_42, tyX6_ok, nmX6, rfl, rfl, fun h => by cases h⟩
theorem gF_Seam_27 : gk_F "DarkRoom$Seam" 27 6 1 := ⟨RX6, TX6, 4, rfl, by decide, gc_Picture, gw_43⟩
theorem gP_Seam_27 : gk_FP "DarkRoom$Seam" 27 6 1 (.int) false := ⟨RX6, TX6, 4, tyX6, rfl, by decide, gc_Picture, gw_43, tyX6_ok, nmX6, rfl, rfl, fun h => by cases h⟩
theorem gF_Flood_37 : gk_F "DarkRoom$Flood" 37 6 1 := ⟨RX6, TX6, 4, rfl, by decide, gc_Picture, gw_44⟩
theorem gP_Flood_37 : gk_FP "DarkRoom$Flood" 37 6 1 (.int) false := ⟨RX6, TX6, 4, tyX6, rfl, by decide, gc_Picture, gw_44, tyX6_ok, nmX6, rfl, rfl, fun h => by cases h⟩
theorem gF_Room_152 : gk_F "DarkRoom" 152 6 1 := ⟨RX6, TX6, 4, rfl, by decide, gc_Picture, gw_45⟩
theorem gP_Room_152 : gk_FP "DarkRoom" 152 6 1 (.int) false := ⟨RX6, TX6, 4, tyX6, rfl, by decide, gc_Picture, gw_45, tyX6_ok, nmX6, rfl, rfl, fun h => by cases h⟩
theorem gF_Picture_18 : gk_F "DarkRoom$Picture" 18 6 2 := ⟨RX6, TX6, 4, rfl, by decide, gc_Picture, gw_46⟩
theorem gP_Picture_18 : gk_FP "DarkRoom$Picture" 18 6 2 (.int) false := ⟨RX6, TX6, 4, tyX6, rfl, by decide, gc_Picture, gw_46, tyX6_ok, nmX6, rfl, rfl, fun h => by cases h⟩
theorem gF_Tones_27 : gk_F "DarkRoom$Tones" 27 6 2 := ⟨RX6, TX6, 4, rfl, by decide, gc_Picture, gw_47⟩
theorem gP_Tones_27 : gk_FP "DarkRoom$Tones" 27 6 2 (.int) false := ⟨RX6, TX6, 4, tyX6, rfl, by decide, gc_Picture, gw_47, tyX6_ok, nmX6, rfl, rfl, fun h => by cases h⟩
theorem gF_Bench_29 : gk_F "DarkRoom$Bench" 29 6 2 := ⟨RX6, TX6, 4, rfl, by decide, gc_Picture, gw_48⟩
theorem gP_Bench_29 : gk_FP "DarkRoom$Bench" 29 6 2 (.int) false := ⟨RX6, TX6, 4, tyX6, rfl, by decide, gc_Picture, gw_48, tyX6_ok, nmX6, rfl, rfl, fun h => by cases h⟩
theorem gF_Seam_22 : gk_F "DarkRoom$Seam" 22 6 2 := ⟨RX6, TX6, 4, rfl, by decide, gc_Picture, gw_49⟩
theorem gP_Seam_22 : gk_FP "DarkRoom$Seam" 22 6 2 (.int) false := ⟨RX6, TX6, 4, tyX6, rfl, by decide, gc_Picture, gw_49, tyX6_ok, nmX6, rfl, rfl, fun h => by cases h⟩
theorem gF_Room_155 : gk_F "DarkRoom" 155 6 2 := ⟨RX6, TX6, 4, rfl, by decide, gc_Picture, gw_50⟩
theorem gP_Room_155 : gk_FP "DarkRoom" 155 6 2 (.int) false := ⟨RX6, TX6, 4, tyX6, rfl, by decide, gc_Picture, gw_50, tyX6_ok, nmX6, rfl, rfl, fun h => by cases h⟩
theorem gF_Picture_21 : gk_F "DarkRoom$Picture" 21 6 3 := ⟨RX6, TX6, 4, rfl, by decide, gc_Picture, gw_51⟩
theorem gP_Picture_21 : gk_FP "DarkRoom$Picture" 21 6 3 (.array .int) true := ⟨RX6, TX6, 4, tyX6, rfl, by decide, gc_Picture, gw_51, tyX6_ok, nmX6, rfl, rfl, fun _ => rfl⟩
theorem gF_Mask_9 : gk_F "DarkRoom$Mask" 9 5 0 := ⟨RX5, TX5, 1, rfl, by decide, gc_Mask, gw_67⟩
theorem gP_Mask_9 : gk_FP "DarkRoom$Mask" 9 5 0 (.array .int) true := ⟨RX5, TX5, 1, tyX5, rfl, by decide, gc_Mask, gw_67, tyX5_ok, nmX5, rfl, rfl, fun _ => rfl⟩
theorem gF_Act_7 : gk_F "DarkRoom$Act" 7 0 0 := ⟨RX0, TX0, 4, rfl, by decide, gc_Act, gw_88⟩
theorem gP_Act_7 : gk_FP "DarkRoom$Act" 7 0 0 (.boolean) false := ⟨RX0, TX0, 4, tyX0, rfl, by decide, gc_Act, gw_88, tyX0_ok, nmX0, rfl, rfl, fun h => by cases h⟩
theorem gF_Room_308 : gk_F "DarkRoom" 308 0 0 := ⟨RX0, TX0, 4, rfl, by decide, gc_Act, gw_89⟩
theorem gP_Room_308 : gk_FP "DarkRoom" 308 0 0 (.boolean) false := ⟨RX0, TX0, 4, tyX0, rfl, by decide, gc_Act, gw_89, tyX0_ok, nmX0, rfl, rfl, fun h => by cases h⟩
theorem gF_Act_13 : gk_F "DarkRoom$Act" 13 0 1 := ⟨RX0, TX0, 4, rfl, by decide, gc_Act, gw_90⟩
theorem gP_Act_13 : gk_FP "DarkRoom$Act" 13 0 1 (.int) false := ⟨RX0, TX0, 4, tyX0, rfl, by decide, gc_Act, gw_90, tyX0_ok, nmX0, rfl, rfl, fun h => by cases h⟩
theorem gF_Room_314 : gk_F "DarkRoom" 314 0 1 := ⟨RX0, TX0, 4, rfl, by decide, gc_Act, gw_91⟩
theorem gP_Room_314 : gk_FP "DarkRoom" 314 0 1 (.int) false := ⟨RX0, TX0, 4, tyX0, rfl, by decide, gc_Act, gw_91, tyX0_ok, nmX0, rfl, rfl, fun h => by cases h⟩
theorem gF_Act_20 : gk_F "DarkRoom$Act" 20 0 2 := ⟨RX0, TX0, 4, rfl, by decide, gc_Act, gw_92⟩
theorem gP_Act_20 : gk_FP "DarkRoom$Act" 20 0 2 (.object "DarkRoom$Picture") false := ⟨RX0, TX0, 4, tyX0, rfl, by decide, gc_Act, gw_92, tyX0_ok, nmX0, rfl, rfl, fun h => by cases h⟩
theorem gF_Room_317 : gk_F "DarkRoom" 317 0 2 := ⟨RX0, TX0, 4, rfl, by decide, gc_Act, gw_93⟩
theorem gP_Room_317 : gk_FP "DarkRoom" 317 0 2 (.object "DarkRoom$Picture") false := ⟨RX0, TX0, 4, tyX0, rfl, by decide, gc_Act, gw_93, tyX0_ok, nmX0, rfl, rfl, fun h => by cases h⟩
theorem gF_Act_27 : gk_F "DarkRoom$Act" 27 0 3 := ⟨RX0, TX0, 4, rfl, by decide, gc_Act, gw_94⟩
theorem gP_Act_27 : gk_FP "DarkRoom$Act" 27 0 3 (.object "DarkRoom$Mask") false := ⟨RX0, TX0, 4, tyX0, rfl, by decide, gc_Act, gw_94, tyX0_ok, nmX0, rfl, rfl, fun h => by cases h⟩
theorem gF_Room_320 : gk_F "DarkRoom" 320 0 3 := ⟨RX0, TX0, 4, rfl, by decide, gc_Act, gw_95⟩
theorem gP_Room_320 : gk_FP "DarkRoom" 320 0 3 (.object "DarkRoom$Mask") false := ⟨RX0, TX0, 4, tyX0, rfl, by decide, gc_Act, gw_95, tyX0_ok, nmX0, rfl, rfl, fun h => by cases h⟩
theorem gF_History_11 : gk_F "DarkRoom$History" 11 4 0 := ⟨RX4, TX4, 4, rfl, by decide, gc_History, gw_105⟩
theorem gP_History_11 : gk_FP "DarkRoom$History" 11 4 0 (.array (.object "DarkRoom$Act")) true := ⟨RX4, TX4, 4, tyX4, rfl, by decide, gc_History, gw_105, tyX4_ok, nmX4, rfl, rfl, fun _ => rfl⟩
theorem gF_History_17 : gk_F "DarkRoom$History" 17 4 1 := ⟨RX4, TX4, 4, rfl, by decide, gc_History, gw_106⟩
theorem gP_History_17 : gk_FP "DarkRoom$History" 17 4 1 (.int) false := ⟨RX4, TX4, 4, tyX4, rfl, by decide, gc_History, gw_106, tyX4_ok, nmX4, rfl, rfl, fun h => by cases h⟩
theorem gF_History_21 : gk_F "DarkRoom$History" 21 4 2 := ⟨RX4, TX4, 4, rfl, by decide, gc_History, gw_107⟩
theorem gP_History_21 : gk_FP "DarkRoom$History" 21 4 2 (.int) false := ⟨RX4, TX4, 4, tyX4, rfl, by decide, gc_History, gw_107, tyX4_ok, nmX4, rfl, rfl, fun h => by cases h⟩
theorem gF_Room_291 : gk_F "DarkRoom" 291 4 2 := ⟨RX4, TX4, 4, rfl, by decide, gc_History, gw_108⟩
theorem gP_Room_291 : gk_FP "DarkRoom" 291 4 2 (.int) false := ⟨RX4, TX4, 4, tyX4, rfl, by decide, gc_History, gw_108, tyX4_ok, nmX4, rfl, rfl, fun h => by cases h⟩
theorem gF_History_24 : gk_F "DarkRoom$History" 24 4 3 := ⟨RX4, TX4, 4, rfl, by decide, gc_History, gw_109⟩
theorem gP_History_24 : gk_FP "DarkRoom$History" 24 4 3 (.int) false := ⟨RX4, TX4, 4, tyX4, rfl, by decide, gc_History, gw_109, tyX4_ok, nmX4, rfl, rfl, fun h => by cases h⟩
theorem gF_Room_294 : gk_F "DarkRoom" 294 4 3 := ⟨RX4, TX4, 4, rfl, by decide, gc_History, gw_110⟩
theorem gP_Room_294 : gk_FP "DarkRoom" 294 4 3 (.int) false := ⟨RX4, TX4, 4, tyX4, rfl, by decide, gc_History, gw_110, tyX4_ok, nmX4, rfl, rfl, fun h => by cases h⟩
theorem gF_Bench_11 : gk_F "DarkRoom$Bench" 11 1 0 := ⟨RX1, TX1, 2, rfl, by decide, gc_Bench, gw_128⟩
theorem gP_Bench_11 : gk_FP "DarkRoom$Bench" 11 1 0 (.array (.object "DarkRoom$Picture")) true := ⟨RX1, TX1, 2, tyX1, rfl, by decide, gc_Bench, gw_128, tyX1_ok, nmX1, rfl, rfl, fun _ => rfl⟩
theorem gF_Bench_17 : gk_F "DarkRoom$Bench" 17 1 1 := ⟨RX1, TX1, 2, rfl, by decide, gc_Bench, gw_129⟩
theorem gP_Bench_17 : gk_FP "DarkRoom$Bench" 17 1 1 (.array .int) true := ⟨RX1, TX1, 2, tyX1, rfl, by decide, gc_Bench, gw_129, tyX1_ok, nmX1, rfl, rfl, fun _ => rfl⟩
theorem gF_Flood_9 : gk_F "DarkRoom$Flood" 9 3 0 := ⟨RX3, TX3, 3, rfl, by decide, gc_Flood, gw_141⟩
theorem gP_Flood_9 : gk_FP "DarkRoom$Flood" 9 3 0 (.array .int) true := ⟨RX3, TX3, 3, tyX3, rfl, by decide, gc_Flood, gw_141, tyX3_ok, nmX3, rfl, rfl, fun _ => rfl⟩
theorem gF_Flood_15 : gk_F "DarkRoom$Flood" 15 3 1 := ⟨RX3, TX3, 3, rfl, by decide, gc_Flood, gw_142⟩
theorem gP_Flood_15 : gk_FP "DarkRoom$Flood" 15 3 1 (.array .boolean) true := ⟨RX3, TX3, 3, tyX3, rfl, by decide, gc_Flood, gw_142, tyX3_ok, nmX3, rfl, rfl, fun _ => rfl⟩
theorem gF_Flood_19 : gk_F "DarkRoom$Flood" 19 3 2 := ⟨RX3, TX3, 3, rfl, by decide, gc_Flood, gw_143⟩
theorem gP_Flood_19 : gk_FP "DarkRoom$Flood" 19 3 2 (.int) false := ⟨RX3, TX3, 3, tyX3, rfl, by decide, gc_Flood, gw_143, tyX3_ok, nmX3, rfl, rfl, fun h => by cases h⟩
theorem gF_Tones_9 : gk_F "DarkRoom$Tones" 9 9 0 := ⟨RX9, TX9, 2, rfl, by decide, gc_Tones, gw_158⟩
theorem gP_Tones_9 : gk_FP "DarkRoom$Tones" 9 9 0 (.array .int) true := ⟨RX9, TX9, 2, tyX9, rfl, by decide, gc_Tones, gw_158, tyX9_ok, nmX9, rfl, rfl, fun _ => rfl⟩
theorem gF_Tones_15 : gk_F "DarkRoom$Tones" 15 9 1 := ⟨RX9, TX9, 2, rfl, by decide, gc_Tones, gw_159⟩
theorem gP_Tones_15 : gk_FP "DarkRoom$Tones" 15 9 1 (.array .int) true := ⟨RX9, TX9, 2, tyX9, rfl, by decide, gc_Tones, gw_159, tyX9_ok, nmX9, rfl, rfl, fun _ => rfl⟩
theorem gF_Seam_9 : gk_F "DarkRoom$Seam" 9 7 0 := ⟨RX7, TX7, 3, rfl, by decide, gc_Seam, gw_171⟩
theorem gP_Seam_9 : gk_FP "DarkRoom$Seam" 9 7 0 (.array .int) true := ⟨RX7, TX7, 3, tyX7, rfl, by decide, gc_Seam, gw_171, tyX7_ok, nmX7, rfl, rfl, fun _ => rfl⟩
theorem gF_Seam_15 : gk_F "DarkRoom$Seam" 15 7 1 := ⟨RX7, TX7, 3, rfl, by decide, gc_Seam, gw_172⟩
theorem gP_Seam_15 : gk_FP "DarkRoom$Seam" 15 7 1 (.array .int) true := ⟨RX7, TX7, 3, tyX7, rfl, by decide, gc_Seam, gw_172, tyX7_ok, nmX7, rfl, rfl, fun _ => rfl⟩
theorem gF_Seam_18 : gk_F "DarkRoom$Seam" 18 7 2 := ⟨RX7, TX7, 3, rfl, by decide, gc_Seam, gw_173⟩
theorem gP_Seam_18 : gk_FP "DarkRoom$Seam" 18 7 2 (.int) false := ⟨RX7, TX7, 3, tyX7, rfl, by decide, gc_Seam, gw_173, tyX7_ok, nmX7, rfl, rfl, fun h => by cases h⟩
theorem gF_Room_259 : gk_F "DarkRoom" 259 7 2 := ⟨RX7, TX7, 3, rfl, by decide, gc_Seam, gw_174⟩
theorem gP_Room_259 : gk_FP "DarkRoom" 259 7 2 (.int) false := ⟨RX7, TX7, 3, tyX7, rfl, by decide, gc_Seam, gw_174, tyX7_ok, nmX7, rfl, rfl, fun h => by cases h⟩
theorem gF_Tape_9 : gk_F "DarkRoom$Tape" 9 8 0 := ⟨RX8, TX8, 2, rfl, by decide, gc_Tape, gw_188⟩
theorem gP_Tape_9 : gk_FP "DarkRoom$Tape" 9 8 0 (.array .int) true := ⟨RX8, TX8, 2, tyX8, rfl, by decide, gc_Tape, gw_188, tyX8_ok, nmX8, rfl, rfl, fun _ => rfl⟩
theorem gF_Tape_15 : gk_F "DarkRoom$Tape" 15 8 1 := ⟨RX8, TX8, 2, rfl, by decide, gc_Tape, gw_189⟩
theorem gP_Tape_15 : gk_FP "DarkRoom$Tape" 15 8 1 (.int) false := ⟨RX8, TX8, 2, tyX8, rfl, by decide, gc_Tape, gw_189, tyX8_ok, nmX8, rfl, rfl, fun h => by cases h⟩
theorem gF_Room_271 : gk_F "DarkRoom" 271 8 1 := ⟨RX8, TX8, 2, rfl, by decide, gc_Tape, gw_190⟩
theorem gP_Room_271 : gk_FP "DarkRoom" 271 8 1 (.int) false := ⟨RX8, TX8, 2, tyX8, rfl, by decide, gc_Tape, gw_190, tyX8_ok, nmX8, rfl, rfl, fun h => by cases h⟩
theorem gF_Room_11 : gk_F "DarkRoom" 11 10 0 := ⟨RX10, TX10, 12, rfl, by decide, gc_Room, gw_196⟩
theorem gP_Room_11 : gk_FP "DarkRoom" 11 10 0 (.array (.object "DarkRoom$Picture")) true := ⟨RX10, TX10, 12, tyX10, rfl, by decide, gc_Room, gw_196, tyX10_ok, nmX10, rfl, rfl, fun _ => rfl⟩
theorem gF_Room_17 : gk_F "DarkRoom" 17 10 1 := ⟨RX10, TX10, 12, rfl, by decide, gc_Room, gw_197⟩
theorem gP_Room_17 : gk_FP "DarkRoom" 17 10 1 (.array (.object "DarkRoom$Mask")) true := ⟨RX10, TX10, 12, tyX10, rfl, by decide, gc_Room, gw_197, tyX10_ok, nmX10, rfl, rfl, fun _ => rfl⟩
theorem gF_Room_23 : gk_F "DarkRoom" 23 10 2 := ⟨RX10, TX10, 12, rfl, by decide, gc_Room, gw_198⟩
theorem gP_Room_23 : gk_FP "DarkRoom" 23 10 2 (.array (.object "DarkRoom$Filter")) true := ⟨RX10, TX10, 12, tyX10, rfl, by decide, gc_Room, gw_198, tyX10_ok, nmX10, rfl, rfl, fun _ => rfl⟩
theorem gF_Room_27 : gk_F "DarkRoom" 27 10 3 := ⟨RX10, TX10, 12, rfl, by decide, gc_Room, gw_199⟩
theorem gP_Room_27 : gk_FP "DarkRoom" 27 10 3 (.int) false := ⟨RX10, TX10, 12, tyX10, rfl, by decide, gc_Room, gw_199, tyX10_ok, nmX10, rfl, rfl, fun h => by cases h⟩
theorem gF_Room_32 : gk_F "DarkRoom" 32 10 4 := ⟨RX10, TX10, 12, rfl, by decide, gc_Room, gw_200⟩
theorem gP_Room_32 : gk_FP "DarkRoom" 32 10 4 (.object "DarkRoom$Picture") false := ⟨RX10, TX10, 12, tyX10, rfl, by decide, gc_Room, gw_200, tyX10_ok, nmX10, rfl, rfl, fun h => by cases h⟩
theorem gF_Room_37 : gk_F "DarkRoom" 37 10 5 := ⟨RX10, TX10, 12, rfl, by decide, gc_Room, gw_201⟩
theorem gP_Room_37 : gk_FP "DarkRoom" 37 10 5 (.object "DarkRoom$Mask") false := ⟨RX10, TX10, 12, tyX10, rfl, by decide, gc_Room, gw_201, tyX10_ok, nmX10, rfl, rfl, fun h => by cases h⟩
theorem gF_Room_44 : gk_F "DarkRoom" 44 10 6 := ⟨RX10, TX10, 12, rfl, by decide, gc_Room, gw_202⟩
theorem gP_Room_44 : gk_FP "DarkRoom" 44 10 6 (.object "DarkRoom$History") true := ⟨RX10, TX10, 12, tyX10, rfl, by decide, gc_Room, gw_202, tyX10_ok, nmX10, rfl, rfl, fun _ => rfl⟩
theorem gF_Room_51 : gk_F "DarkRoom" 51 10 7 := ⟨RX10, TX10, 12, rfl, by decide, gc_Room, gw_203⟩
theorem gP_Room_51 : gk_FP "DarkRoom" 51 10 7 (.object "DarkRoom$Bench") true := ⟨RX10, TX10, 12, tyX10, rfl, by decide, gc_Room, gw_203, tyX10_ok, nmX10, rfl, rfl, fun _ => rfl⟩
theorem gF_Room_58 : gk_F "DarkRoom" 58 10 8 := ⟨RX10, TX10, 12, rfl, by decide, gc_Room, gw_204⟩
theorem gP_Room_58 : gk_FP "DarkRoom" 58 10 8 (.object "DarkRoom$Flood") true := ⟨RX10, TX10, 12, tyX10, rfl, by decide, gc_Room, gw_204, tyX10_ok, nmX10, rfl, rfl, fun _ => rfl⟩
theorem gF_Room_65 : gk_F "DarkRoom" 65 10 9 := ⟨RX10, TX10, 12, rfl, by decide, gc_Room, gw_205⟩
theorem gP_Room_65 : gk_FP "DarkRoom" 65 10 9 (.object "DarkRoom$Tones") true := ⟨RX10, TX10, 12, tyX10, rfl, by decide, gc_Room, gw_205, tyX10_ok, nmX10, rfl, rfl, fun _ => rfl⟩
theorem gF_Room_72 : gk_F "DarkRoom" 72 10 10 := ⟨RX10, TX10, 12, rfl, by decide, gc_Room, gw_206⟩
theorem gP_Room_72 : gk_FP "DarkRoom" 72 10 10 (.object "DarkRoom$Seam") true := ⟨RX10, TX10, 12, tyX10, rfl, by decide, gc_Room, gw_206, tyX10_ok, nmX10, rfl, rfl, fun _ => rfl⟩
theorem gF_Room_79 : gk_F "DarkRoom" 79 10 11 := ⟨RX10, TX10, 12, rfl, by decide, gc_Room, gw_207⟩
theorem gP_Room_79 : gk_FP "DarkRoom" 79 10 11 (.object "DarkRoom$Tape") true := ⟨RX10, TX10, 12, tyX10, rfl, by decide, gc_Room, gw_207, tyX10_ok, nmX10, rfl, rfl, fun _ => rfl⟩
theorem gF_Filter_9 : gk_F "DarkRoom$Filter" 9 2 0 := ⟨RX2, TX2, 7, rfl, by decide, gc_Filter, gw_431⟩
theorem gP_Filter_9 : gk_FP "DarkRoom$Filter" 9 2 0 (.int) true := ⟨RX2, TX2, 7, tyX2, rfl, by decide, gc_Filter, gw_431, tyX2_ok, nmX2, rfl, rfl, fun _ => rfl⟩
theorem gF_Bench_36 : gk_F "DarkRoom$Bench" 36 2 0 := ⟨RX2, TX2, 7, rfl, by decide, gc_Filter, gw_432⟩
theorem gF_Room_198 : gk_F "DarkRoom" 198 2 0 := ⟨RX2, TX2, 7, rfl, by decide, gc_Filter, gw_433⟩
theorem gF_Filter_15 : gk_F "DarkRoom$Filter" 15 2 1 := ⟨RX2, TX2, 7, rfl, by decide, gc_Filter, gw_434⟩
theorem gP_Filter_15 : gk_FP "DarkRoom$Filter" 15 2 1 (.int) true := ⟨RX2, TX2, 7, tyX2, rfl, by decide, gc_Filter, gw_434, tyX2_ok, nmX2, rfl, rfl, fun _ => rfl⟩
theorem gF_Bench_54 : gk_F "DarkRoom$Bench" 54 2 1 := ⟨RX2, TX2, 7, rfl, by decide, gc_Filter, gw_435⟩
theorem gF_Filter_18 : gk_F "DarkRoom$Filter" 18 2 2 := ⟨RX2, TX2, 7, rfl, by decide, gc_Filter, gw_436⟩
theorem gP_Filter_18 : gk_FP "DarkRoom$Filter" 18 2 2 (.int) true := ⟨RX2, TX2, 7, tyX2, rfl, by decide, gc_Filter, gw_436, tyX2_ok, nmX2, rfl, rfl, fun _ => rfl⟩
theorem gF_Bench_99 : gk_F "DarkRoom$Bench" 99 2 2 := ⟨RX2, TX2, 7, rfl, by decide, gc_Filter, gw_437⟩
theorem gF_Filter_21 : gk_F "DarkRoom$Filter" 21 2 3 := ⟨RX2, TX2, 7, rfl, by decide, gc_Filter, gw_438⟩
theorem gP_Filter_21 : gk_FP "DarkRoom$Filter" 21 2 3 (.int) true := ⟨RX2, TX2, 7, tyX2, rfl, by decide, gc_Filter, gw_438, tyX2_ok, nmX2, rfl, rfl, fun _ => rfl⟩
theorem gF_Room_186 : gk_F "DarkRoom" 186 2 3 := ⟨RX2, TX2, 7, rfl, by decide, gc_Filter, gw_439⟩
theorem gF_Filter_24 : gk_F "DarkRoom$Filter" 24 2 4 := ⟨RX2, TX2, 7, rfl, by decide, gc_Filter, gw_440⟩
theorem gP_Filter_24 : gk_FP "DarkRoom$Filter" 24 2 4 (.object "DarkRoom$Filter") true := ⟨RX2, TX2, 7, tyX2, rfl, by decide, gc_Filter, gw_440, tyX2_ok, nmX2, rfl, rfl, fun _ => rfl⟩
theorem gF_Bench_43 : gk_F "DarkRoom$Bench" 43 2 4 := ⟨RX2, TX2, 7, rfl, by decide, gc_Filter, gw_441⟩
theorem gF_Filter_28 : gk_F "DarkRoom$Filter" 28 2 5 := ⟨RX2, TX2, 7, rfl, by decide, gc_Filter, gw_442⟩
theorem gP_Filter_28 : gk_FP "DarkRoom$Filter" 28 2 5 (.object "DarkRoom$Filter") true := ⟨RX2, TX2, 7, tyX2, rfl, by decide, gc_Filter, gw_442, tyX2_ok, nmX2, rfl, rfl, fun _ => rfl⟩
theorem gF_Bench_51 : gk_F "DarkRoom$Bench" 51 2 5 := ⟨RX2, TX2, 7, rfl, by decide, gc_Filter, gw_443⟩
theorem gF_Filter_31 : gk_F "DarkRoom$Filter" 31 2 6 := ⟨RX2, TX2, 7, rfl, by decide, gc_Filter, gw_444⟩
theorem gP_Filter_31 : gk_FP "DarkRoom$Filter" 31 2 6 (.array .int) true := ⟨RX2, TX2, 7, tyX2, rfl, by decide, gc_Filter, gw_444, tyX2_ok, nmX2, rfl, rfl, fun _ => rfl⟩
theorem gF_Mo_7 : gk_F "DarkRoomModel" 7 11 0 := ⟨RX11, TX11, 26, rfl, by decide, gc_Mo, gw_786⟩
theorem gP_Mo_7 : gk_FP "DarkRoomModel" 7 11 0 (.array .int) true := ⟨RX11, TX11, 26, tyX11, rfl, by decide, gc_Mo, gw_786, tyX11_ok, nmX11, rfl, rfl, fun _ => rfl⟩
theorem gF_Mo_14 : gk_F "DarkRoomModel" 14 11 1 := ⟨RX11, TX11, 26, rfl, by decide, gc_Mo, gw_787⟩
theorem gP_Mo_14 : gk_FP "DarkRoomModel" 14 11 1 (.array .int) true := ⟨RX11, TX11, 26, tyX11, rfl, by decide, gc_Mo, gw_787, tyX11_ok, nmX11, rfl, rfl, fun _ => rfl⟩
theorem gF_Mo_88 : gk_F "DarkRoomModel" 88 11 2 := ⟨RX11, TX11, 26, rfl, by decide, gc_Mo, gw_788⟩
theorem gP_Mo_88 : gk_FP "DarkRoomModel" 88 11 2 (.int) false := ⟨RX11, TX11, 26, tyX11, rfl, by decide, gc_Mo, gw_788, tyX11_ok, nmX11, rfl, rfl, fun h => by cases h⟩
theorem gF_Mo_93 : gk_F "DarkRoomModel" 93 11 3 := ⟨RX11, TX11, 26, rfl, by decide, gc_Mo, gw_789⟩
theorem gP_Mo_93 : gk_FP "DarkRoomModel" 93 11 3 (.int) false := ⟨RX11, TX11, 26, tyX11, rfl, by decide, gc_Mo, gw_789, tyX11_ok, nmX11, rfl, rfl, fun h => by cases h⟩
theorem gF_Mo_170 : gk_F "DarkRoomModel" 170 11 4 := ⟨RX11, TX11, 26, rfl, by decide, gc_Mo, gw_790⟩
theorem gP_Mo_170 : gk_FP "DarkRoomModel" 170 11 4 (.int) false := ⟨RX11, TX11, 26, tyX11, rfl, by decide, gc_Mo, gw_790, tyX11_ok, nmX11, rfl, rfl, fun h => by cases h⟩
theorem gF_Mo_17 : gk_F "DarkRoomModel" 17 11 5 := ⟨RX11, TX11, 26, rfl, by decide, gc_Mo, gw_791⟩
theorem gP_Mo_17 : gk_FP "DarkRoomModel" 17 11 5 (.array .int) true := ⟨RX11, TX11, 26, tyX11, rfl, by decide, gc_Mo, gw_791, tyX11_ok, nmX11, rfl, rfl, fun _ => rfl⟩
theorem gF_Mo_20 : gk_F "DarkRoomModel" 20 11 6 := ⟨RX11, TX11, 26, rfl, by decide, gc_Mo, gw_792⟩
theorem gP_Mo_20 : gk_FP "DarkRoomModel" 20 11 6 (.array .int) true := ⟨RX11, TX11, 26, tyX11, rfl, by decide, gc_Mo, gw_792, tyX11_ok, nmX11, rfl, rfl, fun _ => rfl⟩
theorem gF_Mo_23 : gk_F "DarkRoomModel" 23 11 7 := ⟨RX11, TX11, 26, rfl, by decide, gc_Mo, gw_793⟩
theorem gP_Mo_23 : gk_FP "DarkRoomModel" 23 11 7 (.array .int) true := ⟨RX11, TX11, 26, tyX11, rfl, by decide, gc_Mo, gw_793, tyX11_ok, nmX11, rfl, rfl, fun _ => rfl⟩
theorem gF_Mo_26 : gk_F "DarkRoomModel" 26 11 8 := ⟨RX11, TX11, 26, rfl, by decide, gc_Mo, gw_794⟩
theorem gP_Mo_26 : gk_FP "DarkRoomModel" 26 11 8 (.array .int) true := ⟨RX11, TX11, 26, tyX11, rfl, by decide, gc_Mo, gw_794, tyX11_ok, nmX11, rfl, rfl, fun _ => rfl⟩
theorem gF_Mo_29 : gk_F "DarkRoomModel" 29 11 9 := ⟨RX11, TX11, 26, rfl, by decide, gc_Mo, gw_795⟩
theorem gP_Mo_29 : gk_FP "DarkRoomModel" 29 11 9 (.array .int) true := ⟨RX11, TX11, 26, tyX11, rfl, by decide, gc_Mo, gw_795, tyX11_ok, nmX11, rfl, rfl, fun _ => rfl⟩
theorem gF_Mo_266 : gk_F "DarkRoomModel" 266 11 10 := ⟨RX11, TX11, 26, rfl, by decide, gc_Mo, gw_796⟩
theorem gP_Mo_266 : gk_FP "DarkRoomModel" 266 11 10 (.int) false := ⟨RX11, TX11, 26, tyX11, rfl, by decide, gc_Mo, gw_796, tyX11_ok, nmX11, rfl, rfl, fun h => by cases h⟩
theorem gF_Mo_32 : gk_F "DarkRoomModel" 32 11 11 := ⟨RX11, TX11, 26, rfl, by decide, gc_Mo, gw_797⟩
theorem gP_Mo_32 : gk_FP "DarkRoomModel" 32 11 11 (.array .int) true := ⟨RX11, TX11, 26, tyX11, rfl, by decide, gc_Mo, gw_797, tyX11_ok, nmX11, rfl, rfl, fun _ => rfl⟩
theorem gF_Mo_35 : gk_F "DarkRoomModel" 35 11 12 := ⟨RX11, TX11, 26, rfl, by decide, gc_Mo, gw_798⟩
theorem gP_Mo_35 : gk_FP "DarkRoomModel" 35 11 12 (.array .int) true := ⟨RX11, TX11, 26, tyX11, rfl, by decide, gc_Mo, gw_798, tyX11_ok, nmX11, rfl, rfl, fun _ => rfl⟩
theorem gF_Mo_138 : gk_F "DarkRoomModel" 138 11 13 := ⟨RX11, TX11, 26, rfl, by decide, gc_Mo, gw_799⟩
theorem gP_Mo_138 : gk_FP "DarkRoomModel" 138 11 13 (.int) false := ⟨RX11, TX11, 26, tyX11, rfl, by decide, gc_Mo, gw_799, tyX11_ok, nmX11, rfl, rfl, fun h => by cases h⟩
theorem gF_Mo_141 : gk_F "DarkRoomModel" 141 11 14 := ⟨RX11, TX11, 26, rfl, by decide, gc_Mo, gw_800⟩
theorem gP_Mo_141 : gk_FP "DarkRoomModel" 141 11 14 (.int) false := ⟨RX11, TX11, 26, tyX11, rfl, by decide, gc_Mo, gw_800, tyX11_ok, nmX11, rfl, rfl, fun h => by cases h⟩
theorem gF_Mo_38 : gk_F "DarkRoomModel" 38 11 15 := ⟨RX11, TX11, 26, rfl, by decide, gc_Mo, gw_801⟩
theorem gP_Mo_38 : gk_FP "DarkRoomModel" 38 11 15 (.array .int) true := ⟨RX11, TX11, 26, tyX11, rfl, by decide, gc_Mo, gw_801, tyX11_ok, nmX11, rfl, rfl, fun _ => rfl⟩
theorem gF_Mo_41 : gk_F "DarkRoomModel" 41 11 16 := ⟨RX11, TX11, 26, rfl, by decide, gc_Mo, gw_802⟩
theorem gP_Mo_41 : gk_FP "DarkRoomModel" 41 11 16 (.array .int) true := ⟨RX11, TX11, 26, tyX11, rfl, by decide, gc_Mo, gw_802, tyX11_ok, nmX11, rfl, rfl, fun _ => rfl⟩
theorem gF_Mo_44 : gk_F "DarkRoomModel" 44 11 17 := ⟨RX11, TX11, 26, rfl, by decide, gc_Mo, gw_803⟩
theorem gP_Mo_44 : gk_FP "DarkRoomModel" 44 11 17 (.array .int) true := ⟨RX11, TX11, 26, tyX11, rfl, by decide, gc_Mo, gw_803, tyX11_ok, nmX11, rfl, rfl, fun _ => rfl⟩
theorem gF_Mo_47 : gk_F "DarkRoomModel" 47 11 18 := ⟨RX11, TX11, 26, rfl, by decide, gc_Mo, gw_804⟩
theorem gP_Mo_47 : gk_FP "DarkRoomModel" 47 11 18 (.array .int) true := ⟨RX11, TX11, 26, tyX11, rfl, by decide, gc_Mo, gw_804, tyX11_ok, nmX11, rfl, rfl, fun _ => rfl⟩
theorem gF_Mo_50 : gk_F "DarkRoomModel" 50 11 19 := ⟨RX11, TX11, 26, rfl, by decide, gc_Mo, gw_805⟩
theorem gP_Mo_50 : gk_FP "DarkRoomModel" 50 11 19 (.array .int) true := ⟨RX11, TX11, 26, tyX11, rfl, by decide, gc_Mo, gw_805, tyX11_ok, nmX11, rfl, rfl, fun _ => rfl⟩
theorem gF_Mo_53 : gk_F "DarkRoomModel" 53 11 20 := ⟨RX11, TX11, 26, rfl, by decide, gc_Mo, gw_806⟩
theorem gP_Mo_53 : gk_FP "DarkRoomModel" 53 11 20 (.array .int) true := ⟨RX11, TX11, 26, tyX11, rfl, by decide, gc_Mo, gw_806, tyX11_ok, nmX11, rfl, rfl, fun _ => rfl⟩
theorem gF_Mo_56 : gk_F "DarkRoomModel" 56 11 21 := ⟨RX11, TX11, 26, rfl, by decide, gc_Mo, gw_807⟩
theorem gP_Mo_56 : gk_FP "DarkRoomModel" 56 11 21 (.array .boolean) true := ⟨RX11, TX11, 26, tyX11, rfl, by decide, gc_Mo, gw_807, tyX11_ok, nmX11, rfl, rfl, fun _ => rfl⟩
theorem gF_Mo_60 : gk_F "DarkRoomModel" 60 11 22 := ⟨RX11, TX11, 26, rfl, by decide, gc_Mo, gw_808⟩
theorem gP_Mo_60 : gk_FP "DarkRoomModel" 60 11 22 (.array .int) true := ⟨RX11, TX11, 26, tyX11, rfl, by decide, gc_Mo, gw_808, tyX11_ok, nmX11, rfl, rfl, fun _ => rfl⟩
theorem gF_Mo_63 : gk_F "DarkRoomModel" 63 11 23 := ⟨RX11, TX11, 26, rfl, by decide, gc_Mo, gw_809⟩
theorem gP_Mo_63 : gk_FP "DarkRoomModel" 63 11 23 (.array .int) true := ⟨RX11, TX11, 26, tyX11, rfl, by decide, gc_Mo, gw_809, tyX11_ok, nmX11, rfl, rfl, fun _ => rfl⟩
theorem gF_Mo_257 : gk_F "DarkRoomModel" 257 11 24 := ⟨RX11, TX11, 26, rfl, by decide, gc_Mo, gw_810⟩
theorem gP_Mo_257 : gk_FP "DarkRoomModel" 257 11 24 (.int) false := ⟨RX11, TX11, 26, tyX11, rfl, by decide, gc_Mo, gw_810, tyX11_ok, nmX11, rfl, rfl, fun h => by cases h⟩
theorem gF_Mo_66 : gk_F "DarkRoomModel" 66 11 25 := ⟨RX11, TX11, 26, rfl, by decide, gc_Mo, gw_811⟩
theorem gP_Mo_66 : gk_FP "DarkRoomModel" 66 11 25 (.array .int) true := ⟨RX11, TX11, 26, tyX11, rfl, by decide, gc_Mo, gw_811, tyX11_ok, nmX11, rfl, rfl, fun _ => rfl⟩
abbrev mt_Picture_init : gk_M := (yX6_init, cX6_init, 1, none, fun _ => True)
theorem ms_Picture_init : gk_S mt_Picture_init 0 := ⟨gw_34, gw_2, by decide +kernel, by decide⟩
theorem mi_Picture_init : gk_I mt_Picture_init 0 := ⟨ms_Picture_init, rfl, gw_33, rfl⟩
abbrev mt_Mask_init : gk_M := (yX5_init, cX5_init, 1, none, fun _ => True)
theorem ms_Mask_init : gk_S mt_Mask_init 0 := ⟨gw_65, gw_3, by decide +kernel, by decide⟩
theorem mi_Mask_init : gk_I mt_Mask_init 0 := ⟨ms_Mask_init, rfl, gw_64, rfl⟩
abbrev mt_Act_init : gk_M := (yX0_init, cX0_init, 1, none, fun _ => True)
theorem ms_Act_init : gk_S mt_Act_init 0 := ⟨gw_82, gw_5, by decide +kernel, by decide⟩
theorem mi_Act_init : gk_I mt_Act_init 0 := ⟨ms_Act_init, rfl, gw_81, rfl⟩
abbrev mt_Bench_init : gk_M := (yX1_init, cX1_init, 2, none, fun _ => True)
theorem ms_Bench_init : gk_S mt_Bench_init 0 := ⟨gw_124, gw_6, by decide +kernel, by decide⟩
theorem mi_Bench_init : gk_I mt_Bench_init 0 := ⟨ms_Bench_init, rfl, gw_123, rfl⟩
abbrev mt_Picture_shape : gk_M := (yX6_shape, cX6_shape, 4, none, fun _ => True)
theorem ms_Picture_shape : gk_S mt_Picture_shape 3 := ⟨gw_254, gw_2, by decide +kernel, by decide⟩
theorem mv_Picture_shape : gk_V mt_Picture_shape 3 6 := ⟨ms_Picture_shape, gw_252, gw_253, TX6, 4, rfl⟩
abbrev mt_Picture_has : gk_M := (yX6_has, cX6_has, 3, (some .boolean), fun _ => True)
theorem ms_Picture_has : gk_S mt_Picture_has 2 := ⟨gw_284, gw_2, by decide +kernel, by decide⟩
theorem mv_Picture_has : gk_V mt_Picture_has 2 6 := ⟨ms_Picture_has, gw_282, gw_283, TX6, 4, rfl⟩
abbrev mt_Picture_place : gk_M := (yX6_place, cX6_place, 3, (some .int), fun _ => True)
theorem ms_Picture_place : gk_S mt_Picture_place 2 := ⟨gw_301, gw_2, by decide +kernel, by decide⟩
theorem mv_Picture_place : gk_V mt_Picture_place 2 6 := ⟨ms_Picture_place, gw_299, gw_300, TX6, 4, rfl⟩
abbrev mt_Picture_pixel : gk_M := (yX6_pixel, cX6_pixel, 2, (some .int), fun _ => True)
theorem ms_Picture_pixel : gk_S mt_Picture_pixel 1 := ⟨gw_305, gw_2, by decide +kernel, by decide⟩
theorem mv_Picture_pixel : gk_V mt_Picture_pixel 1 6 := ⟨ms_Picture_pixel, gw_303, gw_304, TX6, 4, rfl⟩
abbrev mt_Math_floorMod : gk_M := (yJ9_floorMod_7cf53, cJ9_floorMod_7cf53, 3, (some .int), fun _ => True)
theorem ms_Math_floorMod : gk_S mt_Math_floorMod 2 := ⟨gw_276, gw_13, by decide +kernel, by decide⟩
theorem mz_Math_floorMod : gk_St mt_Math_floorMod 2 := ⟨ms_Math_floorMod, gw_275⟩
abbrev mt_Picture_inside : gk_M := (yX6_inside, cX6_inside, 4, (some .int), fun _ => True)
theorem ms_Picture_inside : gk_S mt_Picture_inside 3 := ⟨gw_346, gw_2, by decide +kernel, by decide⟩
theorem mz_Picture_inside : gk_St mt_Picture_inside 3 := ⟨ms_Picture_inside, gw_345⟩
abbrev mt_Picture_seen : gk_M := (yX6_seen, cX6_seen, 4, (some .int), fun _ => True)
theorem ms_Picture_seen : gk_S mt_Picture_seen 3 := ⟨gw_340, gw_2, by decide +kernel, by decide⟩
theorem mv_Picture_seen : gk_V mt_Picture_seen 3 6 := ⟨ms_Picture_seen, gw_338, gw_339, TX6, 4, rfl⟩
abbrev mt_Bench_gather : gk_M := (yX1_gather, cX1_gather, 6, none, fun _ => True)
theorem ms_Bench_gather : gk_S mt_Bench_gather 4 := ⟨gw_487, gw_6, by decide +kernel, by decide⟩
theorem mv_Bench_gather : gk_V mt_Bench_gather 4 1 := ⟨ms_Bench_gather, gw_486, gwp_5, TX1, 2, rfl⟩
abbrev mt_Filter_weightAt : gk_M := (yX2_weightAt, cX2_weightAt, 2, (some .int), fun _ => True)
theorem ms_Filter_weightAt : gk_S mt_Filter_weightAt 1 := ⟨gw_467, gw_15, by decide +kernel, by decide⟩
theorem mv_Filter_weightAt : gk_V mt_Filter_weightAt 1 2 := ⟨ms_Filter_weightAt, gw_465, gw_466, TX2, 7, rfl⟩
abbrev mt_Bench_weighed : gk_M := (yX1_weighed, cX1_weighed, 5, (some .long), fun _ => True)
theorem ms_Bench_weighed : gk_S mt_Bench_weighed 1 := ⟨gw_492, gw_6, by decide +kernel, by decide⟩
theorem mv_Bench_weighed : gk_V mt_Bench_weighed 1 1 := ⟨ms_Bench_weighed, gw_491, gwp_6, TX1, 2, rfl⟩
abbrev mt_Math_floorDivL : gk_M := (yJ9_floorDiv_f86c9, cJ9_floorDiv_f86c9, 6, (some .long), fun _ => True)
theorem ms_Math_floorDivL : gk_S mt_Math_floorDivL 2 := ⟨gw_500, gw_13, by decide +kernel, by decide⟩
theorem mz_Math_floorDivL : gk_St mt_Math_floorDivL 2 := ⟨ms_Math_floorDivL, gw_499⟩
abbrev mt_Room_nearest : gk_M := (yX10_nearest, cX10_nearest, 4, (some .long), fun _ => True)
theorem ms_Room_nearest : gk_S mt_Room_nearest 2 := ⟨gw_496, gw_1, by decide +kernel, by decide⟩
theorem mz_Room_nearest : gk_St mt_Room_nearest 2 := ⟨ms_Room_nearest, gw_495⟩
abbrev mt_Picture_least : gk_M := (yX6_least, cX6_least, 1, (some .int), fun _ => True)
theorem ms_Picture_least : gk_S mt_Picture_least 0 := ⟨gw_292, gw_2, by decide +kernel, by decide⟩
theorem mv_Picture_least : gk_V mt_Picture_least 0 6 := ⟨ms_Picture_least, gw_290, gw_291, TX6, 4, rfl⟩
abbrev mt_Picture_greatest : gk_M := (yX6_greatest, cX6_greatest, 1, (some .int), fun _ => True)
theorem ms_Picture_greatest : gk_S mt_Picture_greatest 0 := ⟨gw_296, gw_2, by decide +kernel, by decide⟩
theorem mv_Picture_greatest : gk_V mt_Picture_greatest 0 6 := ⟨ms_Picture_greatest, gw_294, gw_295, TX6, 4, rfl⟩
abbrev mt_Picture_kept : gk_M := (yX6_kept, cX6_kept, 3, (some .int), fun _ => True)
theorem ms_Picture_kept : gk_S mt_Picture_kept 1 := ⟨gw_379, gw_2, by decide +kernel, by decide⟩
theorem mv_Picture_kept : gk_V mt_Picture_kept 1 6 := ⟨ms_Picture_kept, gw_377, gw_378, TX6, 4, rfl⟩
abbrev mt_Bench_ranked : gk_M := (yX1_ranked, cX1_ranked, 5, (some .int), fun _ => True)
theorem ms_Bench_ranked : gk_S mt_Bench_ranked 1 := ⟨gw_505, gw_6, by decide +kernel, by decide⟩
theorem mv_Bench_ranked : gk_V mt_Bench_ranked 1 1 := ⟨ms_Bench_ranked, gw_504, gwp_7, TX1, 2, rfl⟩
abbrev mt_Picture_set : gk_M := (yX6_set, cX6_set, 3, none, fun _ => True)
theorem ms_Picture_set : gk_S mt_Picture_set 2 := ⟨gw_317, gw_2, by decide +kernel, by decide⟩
theorem mv_Picture_set : gk_V mt_Picture_set 2 6 := ⟨ms_Picture_set, gw_315, gw_316, TX6, 4, rfl⟩
abbrev mt_Bench_developAround : gk_M := (yX1_developAround, cX1_developAround, 8, none, fun _ => True)
theorem ms_Bench_developAround : gk_S mt_Bench_developAround 4 := ⟨gw_483, gw_6, by decide +kernel, by decide⟩
theorem mv_Bench_developAround : gk_V mt_Bench_developAround 4 1 := ⟨ms_Bench_developAround, gw_482, gwp_4, TX1, 2, rfl⟩
abbrev mt_Room_within : gk_M := (yX10_within, cX10_within, 3, (some .boolean), fun _ => True)
theorem ms_Room_within : gk_S mt_Room_within 3 := ⟨gw_242, gw_1, by decide +kernel, by decide⟩
theorem mz_Room_within : gk_St mt_Room_within 3 := ⟨ms_Room_within, gw_241⟩
abbrev mt_Room_isMask : gk_M := (yX10_isMask, cX10_isMask, 1, (some .boolean), fun _ => True)
theorem ms_Room_isMask : gk_S mt_Room_isMask 1 := ⟨gw_423, gw_1, by decide +kernel, by decide⟩
theorem mz_Room_isMask : gk_St mt_Room_isMask 1 := ⟨ms_Room_isMask, gw_422⟩
abbrev mt_Room_isOfMask : gk_M := (yX10_isOfMask, cX10_isOfMask, 2, (some .boolean), fun _ => True)
theorem ms_Room_isOfMask : gk_S mt_Room_isOfMask 2 := ⟨gw_519, gw_1, by decide +kernel, by decide⟩
theorem mz_Room_isOfMask : gk_St mt_Room_isOfMask 2 := ⟨ms_Room_isOfMask, gw_518⟩
abbrev mt_Mask_lit : gk_M := (yX5_lit, cX5_lit, 3, (some .boolean), fun _ => True)
theorem ms_Mask_lit : gk_S mt_Mask_lit 2 := ⟨gw_516, gw_3, by decide +kernel, by decide⟩
theorem mv_Mask_lit : gk_V mt_Mask_lit 2 5 := ⟨ms_Mask_lit, gw_514, gw_515, TX5, 1, rfl⟩
abbrev mt_Bench_restoreUnlit : gk_M := (yX1_restoreUnlit, cX1_restoreUnlit, 5, none, fun _ => True)
theorem ms_Bench_restoreUnlit : gk_S mt_Bench_restoreUnlit 3 := ⟨gw_512, gw_6, by decide +kernel, by decide⟩
theorem mz_Bench_restoreUnlit : gk_St mt_Bench_restoreUnlit 3 := ⟨ms_Bench_restoreUnlit, gw_511⟩
abbrev mt_Picture_area : gk_M := (yX6_area, cX6_area, 1, (some .int), fun _ => True)
theorem ms_Picture_area : gk_S mt_Picture_area 0 := ⟨gw_325, gw_2, by decide +kernel, by decide⟩
theorem mv_Picture_area : gk_V mt_Picture_area 0 6 := ⟨ms_Picture_area, gw_323, gw_324, TX6, 4, rfl⟩
abbrev mt_Bench_halve : gk_M := (yX1_halve, cX1_halve, 3, none, fun _ => True)
theorem ms_Bench_halve : gk_S mt_Bench_halve 2 := ⟨gw_523, gw_6, by decide +kernel, by decide⟩
theorem mz_Bench_halve : gk_St mt_Bench_halve 2 := ⟨ms_Bench_halve, gw_522⟩
abbrev mt_Bench_madeOf : gk_M := (yX1_madeOf, cX1_madeOf, 3, (some .int), fun _ => True)
theorem ms_Bench_madeOf : gk_S mt_Bench_madeOf 3 := ⟨gw_530, gw_6, by decide +kernel, by decide⟩
theorem mz_Bench_madeOf : gk_St mt_Bench_madeOf 3 := ⟨ms_Bench_madeOf, gw_529⟩
abbrev mt_Bench_developEach : gk_M := (yX1_developEach, cX1_developEach, 4, none, fun _ => True)
theorem ms_Bench_developEach : gk_S mt_Bench_developEach 3 := ⟨gw_527, gw_6, by decide +kernel, by decide⟩
theorem mz_Bench_developEach : gk_St mt_Bench_developEach 3 := ⟨ms_Bench_developEach, gw_526⟩
abbrev mt_Bench_develop : gk_M := (yX1_develop, cX1_develop, 8, none, fun _ => True)
theorem ms_Bench_develop : gk_S mt_Bench_develop 7 := ⟨gw_478, gw_6, by decide +kernel, by decide⟩
theorem mz_Bench_develop : gk_St mt_Bench_develop 7 := ⟨ms_Bench_develop, gw_477⟩
abbrev mt_Filter_init : gk_M := (yX2_init, cX2_init, 7, none, fun _ => True)
theorem ms_Filter_init : gk_S mt_Filter_init 6 := ⟨gw_429, gw_15, by decide +kernel, by decide⟩
theorem mi_Filter_init : gk_I mt_Filter_init 6 := ⟨ms_Filter_init, rfl, gw_428, rfl⟩
abbrev mt_Filter_weigh : gk_M := (yX2_weigh, cX2_weigh, 3, none, fun _ => True)
theorem ms_Filter_weigh : gk_S mt_Filter_weigh 2 := ⟨gw_471, gw_15, by decide +kernel, by decide⟩
theorem mv_Filter_weigh : gk_V mt_Filter_weigh 2 2 := ⟨ms_Filter_weigh, gw_469, gw_470, TX2, 7, rfl⟩
abbrev mt_Flood_init : gk_M := (yX3_init, cX3_init, 1, none, fun _ => True)
theorem ms_Flood_init : gk_S mt_Flood_init 0 := ⟨gw_139, gw_7, by decide +kernel, by decide⟩
theorem mi_Flood_init : gk_I mt_Flood_init 0 := ⟨ms_Flood_init, rfl, gw_138, rfl⟩
abbrev mt_Flood_placeAt : gk_M := (yX3_placeAt, cX3_placeAt, 2, (some .int), fun _ => True)
theorem ms_Flood_placeAt : gk_S mt_Flood_placeAt 1 := ⟨gw_613, gw_7, by decide +kernel, by decide⟩
theorem mv_Flood_placeAt : gk_V mt_Flood_placeAt 1 3 := ⟨ms_Flood_placeAt, gw_611, gw_612, TX3, 3, rfl⟩
abbrev mt_Flood_reach : gk_M := (yX3_reach, cX3_reach, 7, none, fun _ => True)
theorem ms_Flood_reach : gk_S mt_Flood_reach 5 := ⟨gw_605, gw_7, by decide +kernel, by decide⟩
theorem mv_Flood_reach : gk_V mt_Flood_reach 5 3 := ⟨ms_Flood_reach, gw_604, gwp_10, TX3, 3, rfl⟩
abbrev mt_Flood_pour : gk_M := (yX3_pour, cX3_pour, 9, (some .int), fun _ => True)
theorem ms_Flood_pour : gk_S mt_Flood_pour 4 := ⟨gw_599, gw_7, by decide +kernel, by decide⟩
theorem mv_Flood_pour : gk_V mt_Flood_pour 4 3 := ⟨ms_Flood_pour, gw_597, gw_598, TX3, 3, rfl⟩
abbrev mt_History_init : gk_M := (yX4_init, cX4_init, 2, none, fun _ => True)
theorem ms_History_init : gk_S mt_History_init 0 := ⟨gw_75, gw_4, by decide +kernel, by decide⟩
theorem mi_History_init : gk_I mt_History_init 0 := ⟨ms_History_init, rfl, gw_74, rfl⟩
abbrev mt_History_nth : gk_M := (yX4_nth, cX4_nth, 2, (some (.object "DarkRoom$Act")), fun _ => True)
theorem ms_History_nth : gk_S mt_History_nth 1 := ⟨gw_273, gw_4, by decide +kernel, by decide⟩
theorem mv_History_nth : gk_V mt_History_nth 1 4 := ⟨ms_History_nth, gw_272, gwp_1, TX4, 4, rfl⟩
abbrev mt_History_next : gk_M := (yX4_next, cX4_next, 1, (some (.object "DarkRoom$Act")), fun _ => True)
theorem ms_History_next : gk_S mt_History_next 0 := ⟨gw_269, gw_4, by decide +kernel, by decide⟩
theorem mv_History_next : gk_V mt_History_next 0 4 := ⟨ms_History_next, gw_267, gw_268, TX4, 4, rfl⟩
abbrev mt_History_stepBack : gk_M := (yX4_stepBack, cX4_stepBack, 1, (some (.object "DarkRoom$Act")), fun _ => True)
theorem ms_History_stepBack : gk_S mt_History_stepBack 0 := ⟨gw_758, gw_4, by decide +kernel, by decide⟩
theorem mv_History_stepBack : gk_V mt_History_stepBack 0 4 := ⟨ms_History_stepBack, gw_756, gw_757, TX4, 4, rfl⟩
abbrev mt_History_stepForth : gk_M := (yX4_stepForth, cX4_stepForth, 1, (some (.object "DarkRoom$Act")), fun _ => True)
theorem ms_History_stepForth : gk_S mt_History_stepForth 0 := ⟨gw_770, gw_4, by decide +kernel, by decide⟩
theorem mv_History_stepForth : gk_V mt_History_stepForth 0 4 := ⟨ms_History_stepForth, gw_768, gw_769, TX4, 4, rfl⟩
abbrev mt_Arrays_fill : gk_M := (yJ7_fill_53178, cJ7_fill_53178, 4, none, fun _ => True)
theorem ms_Arrays_fill : gk_S mt_Arrays_fill 2 := ⟨gw_261, gw_12, by decide +kernel, by decide⟩
theorem mz_Arrays_fill : gk_St mt_Arrays_fill 2 := ⟨ms_Arrays_fill, gw_260⟩
abbrev mt_Mask_darken : gk_M := (yX5_darken, cX5_darken, 1, none, fun _ => True)
theorem ms_Mask_darken : gk_S mt_Mask_darken 0 := ⟨gw_559, gw_3, by decide +kernel, by decide⟩
theorem mv_Mask_darken : gk_V mt_Mask_darken 0 5 := ⟨ms_Mask_darken, gw_557, gw_558, TX5, 1, rfl⟩
abbrev mt_Mask_copyFrom : gk_M := (yX5_copyFrom, cX5_copyFrom, 2, none, fun _ => True)
theorem ms_Mask_copyFrom : gk_S mt_Mask_copyFrom 1 := ⟨gw_542, gw_3, by decide +kernel, by decide⟩
theorem mv_Mask_copyFrom : gk_V mt_Mask_copyFrom 1 5 := ⟨ms_Mask_copyFrom, gw_540, gw_541, TX5, 1, rfl⟩
abbrev mt_Mask_light : gk_M := (yX5_light, cX5_light, 4, none, fun _ => True)
theorem ms_Mask_light : gk_S mt_Mask_light 3 := ⟨gw_547, gw_3, by decide +kernel, by decide⟩
theorem mv_Mask_light : gk_V mt_Mask_light 3 5 := ⟨ms_Mask_light, gw_545, gw_546, TX5, 1, rfl⟩
abbrev mt_Integer_bitCount : gk_M := (yJ6_bitCount_0f7a4, cJ6_bitCount_0f7a4, 1, (some .int), fun _ => True)
theorem ms_Integer_bitCount : gk_S mt_Integer_bitCount 1 := ⟨gw_567, gw_16, by decide +kernel, by decide⟩
theorem mz_Integer_bitCount : gk_St mt_Integer_bitCount 1 := ⟨ms_Integer_bitCount, gw_566⟩
abbrev mt_Mask_howMany : gk_M := (yX5_howMany, cX5_howMany, 3, (some .int), fun _ => True)
theorem ms_Mask_howMany : gk_S mt_Mask_howMany 0 := ⟨gw_564, gw_3, by decide +kernel, by decide⟩
theorem mv_Mask_howMany : gk_V mt_Mask_howMany 0 5 := ⟨ms_Mask_howMany, gw_562, gw_563, TX5, 1, rfl⟩
abbrev mt_Mask_row : gk_M := (yX5_row, cX5_row, 3, (some .int), fun _ => True)
theorem ms_Mask_row : gk_S mt_Mask_row 2 := ⟨gw_585, gw_3, by decide +kernel, by decide⟩
theorem mv_Mask_row : gk_V mt_Mask_row 2 5 := ⟨ms_Mask_row, gw_584, gwp_9, TX5, 1, rfl⟩
abbrev mt_Mask_joinedRow : gk_M := (yX5_joinedRow, cX5_joinedRow, 5, (some .int), fun _ => True)
theorem ms_Mask_joinedRow : gk_S mt_Mask_joinedRow 4 := ⟨gw_581, gw_3, by decide +kernel, by decide⟩
theorem mz_Mask_joinedRow : gk_St mt_Mask_joinedRow 4 := ⟨ms_Mask_joinedRow, gw_580⟩
abbrev mt_Mask_joinedFrom : gk_M := (yX5_joinedFrom, cX5_joinedFrom, 5, none, fun _ => True)
theorem ms_Mask_joinedFrom : gk_S mt_Mask_joinedFrom 3 := ⟨gw_578, gw_3, by decide +kernel, by decide⟩
theorem mv_Mask_joinedFrom : gk_V mt_Mask_joinedFrom 3 5 := ⟨ms_Mask_joinedFrom, gw_576, gw_577, TX5, 1, rfl⟩
abbrev mt_Picture_vanish : gk_M := (yX6_vanish, cX6_vanish, 1, none, fun _ => True)
theorem ms_Picture_vanish : gk_S mt_Picture_vanish 0 := ⟨gw_247, gw_2, by decide +kernel, by decide⟩
theorem mv_Picture_vanish : gk_V mt_Picture_vanish 0 6 := ⟨ms_Picture_vanish, gw_245, gw_246, TX6, 4, rfl⟩
abbrev mt_Picture_blank : gk_M := (yX6_blank, cX6_blank, 1, none, fun _ => True)
theorem ms_Picture_blank : gk_S mt_Picture_blank 0 := ⟨gw_258, gw_2, by decide +kernel, by decide⟩
theorem mv_Picture_blank : gk_V mt_Picture_blank 0 6 := ⟨ms_Picture_blank, gw_256, gw_257, TX6, 4, rfl⟩
abbrev mt_Picture_copyFrom : gk_M := (yX6_copyFrom, cX6_copyFrom, 2, none, fun _ => True)
theorem ms_Picture_copyFrom : gk_S mt_Picture_copyFrom 1 := ⟨gw_309, gw_2, by decide +kernel, by decide⟩
theorem mv_Picture_copyFrom : gk_V mt_Picture_copyFrom 1 6 := ⟨ms_Picture_copyFrom, gw_307, gw_308, TX6, 4, rfl⟩
abbrev mt_Picture_isMissing : gk_M := (yX6_isMissing, cX6_isMissing, 1, (some .boolean), fun _ => True)
theorem ms_Picture_isMissing : gk_S mt_Picture_isMissing 0 := ⟨gw_333, gw_2, by decide +kernel, by decide⟩
theorem mv_Picture_isMissing : gk_V mt_Picture_isMissing 0 6 := ⟨ms_Picture_isMissing, gw_331, gw_332, TX6, 4, rfl⟩
abbrev mt_Picture_holds : gk_M := (yX6_holds, cX6_holds, 2, (some .boolean), fun _ => True)
theorem ms_Picture_holds : gk_S mt_Picture_holds 1 := ⟨gw_288, gw_2, by decide +kernel, by decide⟩
theorem mv_Picture_holds : gk_V mt_Picture_holds 1 6 := ⟨ms_Picture_holds, gw_286, gw_287, TX6, 4, rfl⟩
abbrev mt_Picture_leastPixel : gk_M := (yX6_leastPixel, cX6_leastPixel, 3, (some .int), fun _ => True)
theorem ms_Picture_leastPixel : gk_S mt_Picture_leastPixel 0 := ⟨gw_362, gw_2, by decide +kernel, by decide⟩
theorem mv_Picture_leastPixel : gk_V mt_Picture_leastPixel 0 6 := ⟨ms_Picture_leastPixel, gw_360, gw_361, TX6, 4, rfl⟩
abbrev mt_Picture_greatestPixel : gk_M := (yX6_greatestPixel, cX6_greatestPixel, 3, (some .int), fun _ => True)
theorem ms_Picture_greatestPixel : gk_S mt_Picture_greatestPixel 0 := ⟨gw_367, gw_2, by decide +kernel, by decide⟩
theorem mv_Picture_greatestPixel : gk_V mt_Picture_greatestPixel 0 6 := ⟨ms_Picture_greatestPixel, gw_365, gw_366, TX6, 4, rfl⟩
abbrev mt_Picture_sum : gk_M := (yX6_sum, cX6_sum, 3, (some .int), fun _ => True)
theorem ms_Picture_sum : gk_S mt_Picture_sum 0 := ⟨gw_371, gw_2, by decide +kernel, by decide⟩
theorem mv_Picture_sum : gk_V mt_Picture_sum 0 6 := ⟨ms_Picture_sum, gw_369, gw_370, TX6, 4, rfl⟩
abbrev mt_Picture_unlikePixels : gk_M := (yX6_unlikePixels, cX6_unlikePixels, 4, (some .int), fun _ => True)
theorem ms_Picture_unlikePixels : gk_S mt_Picture_unlikePixels 1 := ⟨gw_389, gw_2, by decide +kernel, by decide⟩
theorem mv_Picture_unlikePixels : gk_V mt_Picture_unlikePixels 1 6 := ⟨ms_Picture_unlikePixels, gw_387, gw_388, TX6, 4, rfl⟩
abbrev mt_Picture_turnedFrom : gk_M := (yX6_turnedFrom, cX6_turnedFrom, 11, none, fun _ => True)
theorem ms_Picture_turnedFrom : gk_S mt_Picture_turnedFrom 3 := ⟨gw_401, gw_2, by decide +kernel, by decide⟩
theorem mv_Picture_turnedFrom : gk_V mt_Picture_turnedFrom 3 6 := ⟨ms_Picture_turnedFrom, gw_399, gw_400, TX6, 4, rfl⟩
abbrev mt_Picture_energyAt : gk_M := (yX6_energyAt, cX6_energyAt, 5, (some .int), fun _ => True)
theorem ms_Picture_energyAt : gk_S mt_Picture_energyAt 2 := ⟨gw_666, gw_2, by decide +kernel, by decide⟩
theorem mv_Picture_energyAt : gk_V mt_Picture_energyAt 2 6 := ⟨ms_Picture_energyAt, gw_664, gw_665, TX6, 4, rfl⟩
abbrev mt_Picture_bytesEach : gk_M := (yX6_bytesEach, cX6_bytesEach, 1, (some .int), fun _ => True)
theorem ms_Picture_bytesEach : gk_S mt_Picture_bytesEach 0 := ⟨gw_715, gw_2, by decide +kernel, by decide⟩
theorem mv_Picture_bytesEach : gk_V mt_Picture_bytesEach 0 6 := ⟨ms_Picture_bytesEach, gw_713, gw_714, TX6, 4, rfl⟩
abbrev mt_Picture_isRun : gk_M := (yX6_isRun, cX6_isRun, 3, (some .boolean), fun _ => True)
theorem ms_Picture_isRun : gk_S mt_Picture_isRun 2 := ⟨gw_711, gw_2, by decide +kernel, by decide⟩
theorem mv_Picture_isRun : gk_V mt_Picture_isRun 2 6 := ⟨ms_Picture_isRun, gw_710, gwp_18, TX6, 4, rfl⟩
abbrev mt_Picture_pixelByte : gk_M := (yX6_pixelByte, cX6_pixelByte, 3, (some .int), fun _ => True)
theorem ms_Picture_pixelByte : gk_S mt_Picture_pixelByte 2 := ⟨gw_719, gw_2, by decide +kernel, by decide⟩
theorem mv_Picture_pixelByte : gk_V mt_Picture_pixelByte 2 6 := ⟨ms_Picture_pixelByte, gw_718, gwp_19, TX6, 4, rfl⟩
abbrev mt_Picture_rolled : gk_M := (yX6_rolled, cX6_rolled, 5, (some .int), fun _ => True)
theorem ms_Picture_rolled : gk_S mt_Picture_rolled 1 := ⟨gw_707, gw_2, by decide +kernel, by decide⟩
theorem mv_Picture_rolled : gk_V mt_Picture_rolled 1 6 := ⟨ms_Picture_rolled, gw_705, gw_706, TX6, 4, rfl⟩
abbrev mt_Seam_init : gk_M := (yX7_init, cX7_init, 1, none, fun _ => True)
theorem ms_Seam_init : gk_S mt_Seam_init 0 := ⟨gw_169, gw_9, by decide +kernel, by decide⟩
theorem mi_Seam_init : gk_I mt_Seam_init 0 := ⟨ms_Seam_init, rfl, gw_168, rfl⟩
abbrev mt_Seam_column : gk_M := (yX7_column, cX7_column, 2, (some .int), fun _ => True)
theorem ms_Seam_column : gk_S mt_Seam_column 1 := ⟨gw_695, gw_9, by decide +kernel, by decide⟩
theorem mv_Seam_column : gk_V mt_Seam_column 1 7 := ⟨ms_Seam_column, gw_693, gw_694, TX7, 3, rfl⟩
abbrev mt_Seam_cost : gk_M := (yX7_cost, cX7_cost, 5, (some .int), fun _ => True)
theorem ms_Seam_cost : gk_S mt_Seam_cost 3 := ⟨gw_685, gw_9, by decide +kernel, by decide⟩
theorem mv_Seam_cost : gk_V mt_Seam_cost 3 7 := ⟨ms_Seam_cost, gw_684, gwp_16, TX7, 3, rfl⟩
abbrev mt_Seam_leastIn : gk_M := (yX7_leastIn, cX7_leastIn, 7, (some .int), fun _ => True)
theorem ms_Seam_leastIn : gk_S mt_Seam_leastIn 4 := ⟨gw_680, gw_9, by decide +kernel, by decide⟩
theorem mv_Seam_leastIn : gk_V mt_Seam_leastIn 4 7 := ⟨ms_Seam_leastIn, gw_679, gwp_15, TX7, 3, rfl⟩
abbrev mt_Seam_setCost : gk_M := (yX7_setCost, cX7_setCost, 3, none, fun _ => True)
theorem ms_Seam_setCost : gk_S mt_Seam_setCost 2 := ⟨gw_691, gw_9, by decide +kernel, by decide⟩
theorem mv_Seam_setCost : gk_V mt_Seam_setCost 2 7 := ⟨ms_Seam_setCost, gw_690, gwp_17, TX7, 3, rfl⟩
abbrev mt_Seam_trace : gk_M := (yX7_trace, cX7_trace, 5, none, fun _ => True)
theorem ms_Seam_trace : gk_S mt_Seam_trace 1 := ⟨gw_676, gw_9, by decide +kernel, by decide⟩
theorem mv_Seam_trace : gk_V mt_Seam_trace 1 7 := ⟨ms_Seam_trace, gw_674, gw_675, TX7, 3, rfl⟩
abbrev mt_Tape_init : gk_M := (yX8_init, cX8_init, 1, none, fun _ => True)
theorem ms_Tape_init : gk_S mt_Tape_init 0 := ⟨gw_186, gw_10, by decide +kernel, by decide⟩
theorem mi_Tape_init : gk_I mt_Tape_init 0 := ⟨ms_Tape_init, rfl, gw_185, rfl⟩
abbrev mt_Tape_append : gk_M := (yX8_append, cX8_append, 2, (some .boolean), fun _ => True)
theorem ms_Tape_append : gk_S mt_Tape_append 1 := ⟨gw_750, gw_10, by decide +kernel, by decide⟩
theorem mv_Tape_append : gk_V mt_Tape_append 1 8 := ⟨ms_Tape_append, gw_748, gw_749, TX8, 2, rfl⟩
abbrev mt_Tape_byteAt : gk_M := (yX8_byteAt, cX8_byteAt, 2, (some .int), fun _ => True)
theorem ms_Tape_byteAt : gk_S mt_Tape_byteAt 1 := ⟨gw_736, gw_10, by decide +kernel, by decide⟩
theorem mv_Tape_byteAt : gk_V mt_Tape_byteAt 1 8 := ⟨ms_Tape_byteAt, gw_735, gwp_21, TX8, 2, rfl⟩
abbrev mt_Room_isSide : gk_M := (yX10_isSide, cX10_isSide, 1, (some .boolean), fun _ => True)
theorem ms_Room_isSide : gk_S mt_Room_isSide 1 := ⟨gw_250, gw_1, by decide +kernel, by decide⟩
theorem mz_Room_isSide : gk_St mt_Room_isSide 1 := ⟨ms_Room_isSide, gw_249⟩
abbrev mt_Tape_soundHead : gk_M := (yX8_soundHead, cX8_soundHead, 1, (some .int), fun _ => True)
theorem ms_Tape_soundHead : gk_S mt_Tape_soundHead 0 := ⟨gw_732, gw_10, by decide +kernel, by decide⟩
theorem mv_Tape_soundHead : gk_V mt_Tape_soundHead 0 8 := ⟨ms_Tape_soundHead, gw_731, gwp_20, TX8, 2, rfl⟩
abbrev mt_Tape_unroll : gk_M := (yX8_unroll, cX8_unroll, 10, (some .int), fun _ => True)
theorem ms_Tape_unroll : gk_S mt_Tape_unroll 1 := ⟨gw_728, gw_10, by decide +kernel, by decide⟩
theorem mv_Tape_unroll : gk_V mt_Tape_unroll 1 8 := ⟨ms_Tape_unroll, gw_726, gw_727, TX8, 2, rfl⟩
abbrev mt_Tones_init : gk_M := (yX9_init, cX9_init, 1, none, fun _ => True)
theorem ms_Tones_init : gk_S mt_Tones_init 0 := ⟨gw_156, gw_8, by decide +kernel, by decide⟩
theorem mi_Tones_init : gk_I mt_Tones_init 0 := ⟨ms_Tones_init, rfl, gw_155, rfl⟩
abbrev mt_Tones_carry : gk_M := (yX9_carry, cX9_carry, 6, none, fun _ => True)
theorem ms_Tones_carry : gk_S mt_Tones_carry 4 := ⟨gw_638, gw_8, by decide +kernel, by decide⟩
theorem mv_Tones_carry : gk_V mt_Tones_carry 4 9 := ⟨ms_Tones_carry, gw_637, gwp_12, TX9, 2, rfl⟩
abbrev mt_Tones_spreadAt : gk_M := (yX9_spreadAt, cX9_spreadAt, 14, none, fun _ => True)
theorem ms_Tones_spreadAt : gk_S mt_Tones_spreadAt 5 := ⟨gw_627, gw_8, by decide +kernel, by decide⟩
theorem mv_Tones_spreadAt : gk_V mt_Tones_spreadAt 5 9 := ⟨ms_Tones_spreadAt, gw_626, gwp_11, TX9, 2, rfl⟩
abbrev mt_Tones_spread : gk_M := (yX9_spread, cX9_spread, 6, none, fun _ => True)
theorem ms_Tones_spread : gk_S mt_Tones_spread 3 := ⟨gw_621, gw_8, by decide +kernel, by decide⟩
theorem mv_Tones_spread : gk_V mt_Tones_spread 3 9 := ⟨ms_Tones_spread, gw_619, gw_620, TX9, 2, rfl⟩
abbrev mt_Tones_countUp : gk_M := (yX9_countUp, cX9_countUp, 4, none, fun _ => True)
theorem ms_Tones_countUp : gk_S mt_Tones_countUp 1 := ⟨gw_653, gw_8, by decide +kernel, by decide⟩
theorem mv_Tones_countUp : gk_V mt_Tones_countUp 1 9 := ⟨ms_Tones_countUp, gw_652, gwp_13, TX9, 2, rfl⟩
abbrev mt_Tones_howManyAtMost : gk_M := (yX9_howManyAtMost, cX9_howManyAtMost, 2, (some .int), fun _ => True)
theorem ms_Tones_howManyAtMost : gk_S mt_Tones_howManyAtMost 1 := ⟨gw_658, gw_8, by decide +kernel, by decide⟩
theorem mv_Tones_howManyAtMost : gk_V mt_Tones_howManyAtMost 1 9 := ⟨ms_Tones_howManyAtMost, gw_657, gwp_14, TX9, 2, rfl⟩
abbrev mt_Tones_flatten : gk_M := (yX9_flatten, cX9_flatten, 8, none, fun _ => True)
theorem ms_Tones_flatten : gk_S mt_Tones_flatten 2 := ⟨gw_647, gw_8, by decide +kernel, by decide⟩
theorem mv_Tones_flatten : gk_V mt_Tones_flatten 2 9 := ⟨ms_Tones_flatten, gw_645, gw_646, TX9, 2, rfl⟩
abbrev mt_Room_init : gk_M := (yX10_init, cX10_init, 2, none, fun _ => True)
theorem ms_Room_init : gk_S mt_Room_init 0 := ⟨gw_21, gw_1, by decide +kernel, by decide⟩
theorem mi_Room_init : gk_I mt_Room_init 0 := ⟨ms_Room_init, rfl, gw_20, rfl⟩
abbrev mt_Room_isPicture : gk_M := (yX10_isPicture, cX10_isPicture, 1, (some .boolean), fun _ => True)
theorem ms_Room_isPicture : gk_S mt_Room_isPicture 1 := ⟨gw_239, gw_1, by decide +kernel, by decide⟩
theorem mz_Room_isPicture : gk_St mt_Room_isPicture 1 := ⟨ms_Room_isPicture, gw_238⟩
abbrev mt_Room_keepPicture : gk_M := (yX10_keepPicture, cX10_keepPicture, 4, none, fun _ => True)
theorem ms_Room_keepPicture : gk_S mt_Room_keepPicture 1 := ⟨gw_265, gw_1, by decide +kernel, by decide⟩
theorem mv_Room_keepPicture : gk_V mt_Room_keepPicture 1 10 := ⟨ms_Room_keepPicture, gw_264, gwp_0, TX10, 12, rfl⟩
abbrev mt_Room_picture : gk_M := (yX10_picture, cX10_picture, 5, (some .int), fun _ => True)
theorem ms_Room_picture : gk_S mt_Room_picture 4 := ⟨gw_236, gw_1, by decide +kernel, by decide⟩
theorem mv_Room_picture : gk_V mt_Room_picture 4 10 := ⟨ms_Room_picture, gw_234, gw_235, TX10, 12, rfl⟩
abbrev mt_Room_put : gk_M := (yX10_put, cX10_put, 8, (some .int), fun _ => True)
theorem ms_Room_put : gk_S mt_Room_put 4 := ⟨gw_280, gw_1, by decide +kernel, by decide⟩
theorem mv_Room_put : gk_V mt_Room_put 4 10 := ⟨ms_Room_put, gw_278, gw_279, TX10, 12, rfl⟩
abbrev mt_Room_feed : gk_M := (yX10_feed, cX10_feed, 12, (some .int), fun _ => True)
theorem ms_Room_feed : gk_S mt_Room_feed 5 := ⟨gw_321, gw_1, by decide +kernel, by decide⟩
theorem mv_Room_feed : gk_V mt_Room_feed 5 10 := ⟨ms_Room_feed, gw_319, gw_320, TX10, 12, rfl⟩
abbrev mt_Room_isEdge : gk_M := (yX10_isEdge, cX10_isEdge, 1, (some .boolean), fun _ => True)
theorem ms_Room_isEdge : gk_S mt_Room_isEdge 1 := ⟨gw_336, gw_1, by decide +kernel, by decide⟩
theorem mz_Room_isEdge : gk_St mt_Room_isEdge 1 := ⟨ms_Room_isEdge, gw_335⟩
abbrev mt_Room_at : gk_M := (yX10_at, cX10_at, 5, (some .int), fun _ => True)
theorem ms_Room_at : gk_S mt_Room_at 4 := ⟨gw_329, gw_1, by decide +kernel, by decide⟩
theorem mv_Room_at : gk_V mt_Room_at 4 10 := ⟨ms_Room_at, gw_327, gw_328, TX10, 12, rfl⟩
abbrev mt_Room_about : gk_M := (yX10_about, cX10_about, 4, (some .int), fun _ => True)
theorem ms_Room_about : gk_S mt_Room_about 2 := ⟨gw_357, gw_1, by decide +kernel, by decide⟩
theorem mv_Room_about : gk_V mt_Room_about 2 10 := ⟨ms_Room_about, gw_355, gw_356, TX10, 12, rfl⟩
abbrev mt_Room_convert : gk_M := (yX10_convert, cX10_convert, 8, (some .int), fun _ => True)
theorem ms_Room_convert : gk_S mt_Room_convert 4 := ⟨gw_375, gw_1, by decide +kernel, by decide⟩
theorem mv_Room_convert : gk_V mt_Room_convert 4 10 := ⟨ms_Room_convert, gw_373, gw_374, TX10, 12, rfl⟩
abbrev mt_Room_cut : gk_M := (yX10_cut, cX10_cut, 10, (some .int), fun _ => True)
theorem ms_Room_cut : gk_S mt_Room_cut 7 := ⟨gw_393, gw_1, by decide +kernel, by decide⟩
theorem mv_Room_cut : gk_V mt_Room_cut 7 10 := ⟨ms_Room_cut, gw_391, gw_392, TX10, 12, rfl⟩
abbrev mt_Room_turn : gk_M := (yX10_turn, cX10_turn, 5, (some .int), fun _ => True)
theorem ms_Room_turn : gk_S mt_Room_turn 3 := ⟨gw_397, gw_1, by decide +kernel, by decide⟩
theorem mv_Room_turn : gk_V mt_Room_turn 3 10 := ⟨ms_Room_turn, gw_395, gw_396, TX10, 12, rfl⟩
abbrev mt_Room_unlike : gk_M := (yX10_unlike, cX10_unlike, 5, (some .int), fun _ => True)
theorem ms_Room_unlike : gk_S mt_Room_unlike 2 := ⟨gw_406, gw_1, by decide +kernel, by decide⟩
theorem mv_Room_unlike : gk_V mt_Room_unlike 2 10 := ⟨ms_Room_unlike, gw_404, gw_405, TX10, 12, rfl⟩
abbrev mt_Room_partOf : gk_M := (yX10_partOf, cX10_partOf, 2, (some (.object "DarkRoom$Filter")), fun _ => True)
theorem ms_Room_partOf : gk_S mt_Room_partOf 1 := ⟨gw_420, gw_1, by decide +kernel, by decide⟩
theorem mv_Room_partOf : gk_V mt_Room_partOf 1 10 := ⟨ms_Room_partOf, gw_419, gwp_3, TX10, 12, rfl⟩
abbrev mt_Room_isFilterTold : gk_M := (yX10_isFilterTold, cX10_isFilterTold, 4, (some .boolean), fun _ => True)
theorem ms_Room_isFilterTold : gk_S mt_Room_isFilterTold 3 := ⟨gw_414, gw_1, by decide +kernel, by decide⟩
theorem mv_Room_isFilterTold : gk_V mt_Room_isFilterTold 3 10 := ⟨ms_Room_isFilterTold, gw_413, gwp_2, TX10, 12, rfl⟩
abbrev mt_Room_filter : gk_M := (yX10_filter, cX10_filter, 7, (some .int), fun _ => True)
theorem ms_Room_filter : gk_S mt_Room_filter 3 := ⟨gw_410, gw_1, by decide +kernel, by decide⟩
theorem mv_Room_filter : gk_V mt_Room_filter 3 10 := ⟨ms_Room_filter, gw_408, gw_409, TX10, 12, rfl⟩
abbrev mt_Room_weight : gk_M := (yX10_weight, cX10_weight, 6, (some .int), fun _ => True)
theorem ms_Room_weight : gk_S mt_Room_weight 3 := ⟨gw_463, gw_1, by decide +kernel, by decide⟩
theorem mv_Room_weight : gk_V mt_Room_weight 3 10 := ⟨ms_Room_weight, gw_461, gw_462, TX10, 12, rfl⟩
abbrev mt_Room_apply : gk_M := (yX10_apply, cX10_apply, 7, (some .int), fun _ => True)
theorem ms_Room_apply : gk_S mt_Room_apply 3 := ⟨gw_475, gw_1, by decide +kernel, by decide⟩
theorem mv_Room_apply : gk_V mt_Room_apply 3 10 := ⟨ms_Room_apply, gw_473, gw_474, TX10, 12, rfl⟩
abbrev mt_Room_keepMask : gk_M := (yX10_keepMask, cX10_keepMask, 4, none, fun _ => True)
theorem ms_Room_keepMask : gk_S mt_Room_keepMask 1 := ⟨gw_551, gw_1, by decide +kernel, by decide⟩
theorem mv_Room_keepMask : gk_V mt_Room_keepMask 1 10 := ⟨ms_Room_keepMask, gw_550, gwp_8, TX10, 12, rfl⟩
abbrev mt_Room_mask : gk_M := (yX10_mask, cX10_mask, 7, (some .int), fun _ => True)
theorem ms_Room_mask : gk_S mt_Room_mask 4 := ⟨gw_536, gw_1, by decide +kernel, by decide⟩
theorem mv_Room_mask : gk_V mt_Room_mask 4 10 := ⟨ms_Room_mask, gw_534, gw_535, TX10, 12, rfl⟩
abbrev mt_Room_maskOf : gk_M := (yX10_maskOf, cX10_maskOf, 8, (some .int), fun _ => True)
theorem ms_Room_maskOf : gk_S mt_Room_maskOf 4 := ⟨gw_555, gw_1, by decide +kernel, by decide⟩
theorem mv_Room_maskOf : gk_V mt_Room_maskOf 4 10 := ⟨ms_Room_maskOf, gw_553, gw_554, TX10, 12, rfl⟩
abbrev mt_Room_maskBy : gk_M := (yX10_maskBy, cX10_maskBy, 4, (some .int), fun _ => True)
theorem ms_Room_maskBy : gk_S mt_Room_maskBy 3 := ⟨gw_574, gw_1, by decide +kernel, by decide⟩
theorem mv_Room_maskBy : gk_V mt_Room_maskBy 3 10 := ⟨ms_Room_maskBy, gw_572, gw_573, TX10, 12, rfl⟩
abbrev mt_Room_isOn : gk_M := (yX10_isOn, cX10_isOn, 4, (some .int), fun _ => True)
theorem ms_Room_isOn : gk_S mt_Room_isOn 3 := ⟨gw_591, gw_1, by decide +kernel, by decide⟩
theorem mv_Room_isOn : gk_V mt_Room_isOn 3 10 := ⟨ms_Room_isOn, gw_589, gw_590, TX10, 12, rfl⟩
abbrev mt_Room_fill : gk_M := (yX10_fill, cX10_fill, 9, (some .int), fun _ => True)
theorem ms_Room_fill : gk_S mt_Room_fill 5 := ⟨gw_595, gw_1, by decide +kernel, by decide⟩
theorem mv_Room_fill : gk_V mt_Room_fill 5 10 := ⟨ms_Room_fill, gw_593, gw_594, TX10, 12, rfl⟩
abbrev mt_Room_dither : gk_M := (yX10_dither, cX10_dither, 5, (some .int), fun _ => True)
theorem ms_Room_dither : gk_S mt_Room_dither 2 := ⟨gw_617, gw_1, by decide +kernel, by decide⟩
theorem mv_Room_dither : gk_V mt_Room_dither 2 10 := ⟨ms_Room_dither, gw_615, gw_616, TX10, 12, rfl⟩
abbrev mt_Room_even : gk_M := (yX10_even, cX10_even, 4, (some .int), fun _ => True)
theorem ms_Room_even : gk_S mt_Room_even 1 := ⟨gw_643, gw_1, by decide +kernel, by decide⟩
theorem mv_Room_even : gk_V mt_Room_even 1 10 := ⟨ms_Room_even, gw_641, gw_642, TX10, 12, rfl⟩
abbrev mt_Room_energy : gk_M := (yX10_energy, cX10_energy, 4, (some .int), fun _ => True)
theorem ms_Room_energy : gk_S mt_Room_energy 3 := ⟨gw_662, gw_1, by decide +kernel, by decide⟩
theorem mv_Room_energy : gk_V mt_Room_energy 3 10 := ⟨ms_Room_energy, gw_660, gw_661, TX10, 12, rfl⟩
abbrev mt_Room_seam : gk_M := (yX10_seam, cX10_seam, 4, (some .int), fun _ => True)
theorem ms_Room_seam : gk_S mt_Room_seam 2 := ⟨gw_672, gw_1, by decide +kernel, by decide⟩
theorem mv_Room_seam : gk_V mt_Room_seam 2 10 := ⟨ms_Room_seam, gw_670, gw_671, TX10, 12, rfl⟩
abbrev mt_Room_seamGoes : gk_M := (yX10_seamGoes, cX10_seamGoes, 9, (some .int), fun _ => True)
theorem ms_Room_seamGoes : gk_S mt_Room_seamGoes 2 := ⟨gw_699, gw_1, by decide +kernel, by decide⟩
theorem mv_Room_seamGoes : gk_V mt_Room_seamGoes 2 10 := ⟨ms_Room_seamGoes, gw_697, gw_698, TX10, 12, rfl⟩
abbrev mt_Room_runs : gk_M := (yX10_runs, cX10_runs, 3, (some .int), fun _ => True)
theorem ms_Room_runs : gk_S mt_Room_runs 2 := ⟨gw_703, gw_1, by decide +kernel, by decide⟩
theorem mv_Room_runs : gk_V mt_Room_runs 2 10 := ⟨ms_Room_runs, gw_701, gw_702, TX10, 12, rfl⟩
abbrev mt_Room_read : gk_M := (yX10_read, cX10_read, 3, (some .int), fun _ => True)
theorem ms_Room_read : gk_S mt_Room_read 1 := ⟨gw_724, gw_1, by decide +kernel, by decide⟩
theorem mv_Room_read : gk_V mt_Room_read 1 10 := ⟨ms_Room_read, gw_722, gw_723, TX10, 12, rfl⟩
abbrev mt_Room_byteTo : gk_M := (yX10_byteTo, cX10_byteTo, 2, (some .int), fun _ => True)
theorem ms_Room_byteTo : gk_S mt_Room_byteTo 1 := ⟨gw_746, gw_1, by decide +kernel, by decide⟩
theorem mv_Room_byteTo : gk_V mt_Room_byteTo 1 10 := ⟨ms_Room_byteTo, gw_744, gw_745, TX10, 12, rfl⟩
abbrev mt_Room_exchange : gk_M := (yX10_exchange, cX10_exchange, 3, none, fun _ => True)
theorem ms_Room_exchange : gk_S mt_Room_exchange 1 := ⟨gw_762, gw_1, by decide +kernel, by decide⟩
theorem mv_Room_exchange : gk_V mt_Room_exchange 1 10 := ⟨ms_Room_exchange, gw_761, gwp_22, TX10, 12, rfl⟩
abbrev mt_Room_undo : gk_M := (yX10_undo, cX10_undo, 2, (some .int), fun _ => True)
theorem ms_Room_undo : gk_S mt_Room_undo 0 := ⟨gw_754, gw_1, by decide +kernel, by decide⟩
theorem mv_Room_undo : gk_V mt_Room_undo 0 10 := ⟨ms_Room_undo, gw_752, gw_753, TX10, 12, rfl⟩
abbrev mt_Room_redo : gk_M := (yX10_redo, cX10_redo, 2, (some .int), fun _ => True)
theorem ms_Room_redo : gk_S mt_Room_redo 0 := ⟨gw_766, gw_1, by decide +kernel, by decide⟩
theorem mv_Room_redo : gk_V mt_Room_redo 0 10 := ⟨ms_Room_redo, gw_764, gw_765, TX10, 12, rfl⟩
abbrev mt_Room_standingPictures : gk_M := (yX10_standingPictures, cX10_standingPictures, 3, (some .int), fun _ => True)
theorem ms_Room_standingPictures : gk_S mt_Room_standingPictures 0 := ⟨gw_778, gw_1, by decide +kernel, by decide⟩
theorem mv_Room_standingPictures : gk_V mt_Room_standingPictures 0 10 := ⟨ms_Room_standingPictures, gw_777, gwp_23, TX10, 12, rfl⟩
abbrev mt_Room_count : gk_M := (yX10_count, cX10_count, 2, (some .int), fun _ => True)
theorem ms_Room_count : gk_S mt_Room_count 1 := ⟨gw_774, gw_1, by decide +kernel, by decide⟩
theorem mv_Room_count : gk_V mt_Room_count 1 10 := ⟨ms_Room_count, gw_772, gw_773, TX10, 12, rfl⟩
abbrev mt_Mo_init : gk_M := (yX11_init, cX11_init, 2, none, fun _ => True)
theorem ms_Mo_init : gk_S mt_Mo_init 0 := ⟨gw_783, gw_11, by decide +kernel, by decide⟩
theorem mi_Mo_init : gk_I mt_Mo_init 0 := ⟨ms_Mo_init, rfl, gw_782, rfl⟩
abbrev mt_Mo_in : gk_M := (yX11_in, cX11_in, 6, (some .boolean), fun _ => True)
theorem ms_Mo_in : gk_S mt_Mo_in 3 := ⟨gw_888, gw_11, by decide +kernel, by decide⟩
theorem mz_Mo_in : gk_St mt_Mo_in 3 := ⟨ms_Mo_in, gw_887⟩
abbrev mt_Mo_isPicture : gk_M := (yX11_isPicture, cX11_isPicture, 1, (some .boolean), fun _ => True)
theorem ms_Mo_isPicture : gk_S mt_Mo_isPicture 1 := ⟨gw_884, gw_11, by decide +kernel, by decide⟩
theorem mz_Mo_isPicture : gk_St mt_Mo_isPicture 1 := ⟨ms_Mo_isPicture, gw_883⟩
abbrev mt_Mo_isThere : gk_M := (yX11_isThere, cX11_isThere, 2, (some .boolean), fun _ => True)
theorem ms_Mo_isThere : gk_S mt_Mo_isThere 1 := ⟨gw_908, gw_11, by decide +kernel, by decide⟩
theorem mv_Mo_isThere : gk_V mt_Mo_isThere 1 11 := ⟨ms_Mo_isThere, gw_907, gwp_27, TX11, 26, rfl⟩
abbrev mt_Mo_kindOf : gk_M := (yX11_kindOf, cX11_kindOf, 2, (some .int), fun _ => True)
theorem ms_Mo_kindOf : gk_S mt_Mo_kindOf 1 := ⟨gw_924, gw_11, by decide +kernel, by decide⟩
theorem mv_Mo_kindOf : gk_V mt_Mo_kindOf 1 11 := ⟨ms_Mo_kindOf, gw_923, gwp_31, TX11, 26, rfl⟩
abbrev mt_Mo_wide : gk_M := (yX11_wide, cX11_wide, 2, (some .int), fun _ => True)
theorem ms_Mo_wide : gk_S mt_Mo_wide 1 := ⟨gw_916, gw_11, by decide +kernel, by decide⟩
theorem mv_Mo_wide : gk_V mt_Mo_wide 1 11 := ⟨ms_Mo_wide, gw_915, gwp_29, TX11, 26, rfl⟩
abbrev mt_Mo_tall : gk_M := (yX11_tall, cX11_tall, 2, (some .int), fun _ => True)
theorem ms_Mo_tall : gk_S mt_Mo_tall 1 := ⟨gw_920, gw_11, by decide +kernel, by decide⟩
theorem mv_Mo_tall : gk_V mt_Mo_tall 1 11 := ⟨ms_Mo_tall, gw_919, gwp_30, TX11, 26, rfl⟩
abbrev mt_Mo_least : gk_M := (yX11_least, cX11_least, 1, (some .int), fun _ => True)
theorem ms_Mo_least : gk_S mt_Mo_least 1 := ⟨gw_927, gw_11, by decide +kernel, by decide⟩
theorem mz_Mo_least : gk_St mt_Mo_least 1 := ⟨ms_Mo_least, gw_926⟩
abbrev mt_Mo_greatest : gk_M := (yX11_greatest, cX11_greatest, 1, (some .int), fun _ => True)
theorem ms_Mo_greatest : gk_S mt_Mo_greatest 1 := ⟨gw_930, gw_11, by decide +kernel, by decide⟩
theorem mz_Mo_greatest : gk_St mt_Mo_greatest 1 := ⟨ms_Mo_greatest, gw_929⟩
abbrev mt_Mo_keptIn : gk_M := (yX11_keptIn, cX11_keptIn, 3, (some .int), fun _ => True)
theorem ms_Mo_keptIn : gk_S mt_Mo_keptIn 2 := ⟨gw_975, gw_11, by decide +kernel, by decide⟩
theorem mz_Mo_keptIn : gk_St mt_Mo_keptIn 2 := ⟨ms_Mo_keptIn, gw_974⟩
abbrev mt_Mo_pixels : gk_M := (yX11_pixels, cX11_pixels, 2, (some .int), fun _ => True)
theorem ms_Mo_pixels : gk_S mt_Mo_pixels 1 := ⟨gw_943, gw_11, by decide +kernel, by decide⟩
theorem mv_Mo_pixels : gk_V mt_Mo_pixels 1 11 := ⟨ms_Mo_pixels, gw_942, gwp_33, TX11, 26, rfl⟩
abbrev mt_Mo_pixelAt : gk_M := (yX11_pixelAt, cX11_pixelAt, 4, (some .int), fun _ => True)
theorem ms_Mo_pixelAt : gk_S mt_Mo_pixelAt 3 := ⟨gw_934, gw_11, by decide +kernel, by decide⟩
theorem mv_Mo_pixelAt : gk_V mt_Mo_pixelAt 3 11 := ⟨ms_Mo_pixelAt, gw_933, gwp_32, TX11, 26, rfl⟩
abbrev mt_Mo_isWithin : gk_M := (yX11_isWithin, cX11_isWithin, 4, (some .boolean), fun _ => True)
theorem ms_Mo_isWithin : gk_S mt_Mo_isWithin 3 := ⟨gw_912, gw_11, by decide +kernel, by decide⟩
theorem mv_Mo_isWithin : gk_V mt_Mo_isWithin 3 11 := ⟨ms_Mo_isWithin, gw_911, gwp_28, TX11, 26, rfl⟩
abbrev mt_Mo_begin : gk_M := (yX11_begin, cX11_begin, 2, none, fun _ => True)
theorem ms_Mo_begin : gk_S mt_Mo_begin 0 := ⟨gw_895, gw_11, by decide +kernel, by decide⟩
theorem mv_Mo_begin : gk_V mt_Mo_begin 0 11 := ⟨ms_Mo_begin, gw_894, gwp_25, TX11, 26, rfl⟩
abbrev mt_Mo_load : gk_M := (yX11_load, cX11_load, 3, none, fun _ => True)
theorem ms_Mo_load : gk_S mt_Mo_load 1 := ⟨gw_873, gw_11, by decide +kernel, by decide⟩
theorem mv_Mo_load : gk_V mt_Mo_load 1 11 := ⟨ms_Mo_load, gw_872, gwp_24, TX11, 26, rfl⟩
abbrev mt_Mo_undo : gk_M := (yX11_undo, cX11_undo, 2, (some .int), fun _ => True)
theorem ms_Mo_undo : gk_S mt_Mo_undo 0 := ⟨gw_868, gw_11, by decide +kernel, by decide⟩
theorem mv_Mo_undo : gk_V mt_Mo_undo 0 11 := ⟨ms_Mo_undo, gw_866, gw_867, TX11, 26, rfl⟩
abbrev mt_Mo_redo : gk_M := (yX11_redo, cX11_redo, 1, (some .int), fun _ => True)
theorem ms_Mo_redo : gk_S mt_Mo_redo 0 := ⟨gw_877, gw_11, by decide +kernel, by decide⟩
theorem mv_Mo_redo : gk_V mt_Mo_redo 0 11 := ⟨ms_Mo_redo, gw_875, gw_876, TX11, 26, rfl⟩
abbrev mt_Mo_become : gk_M := (yX11_become, cX11_become, 6, none, fun _ => True)
theorem ms_Mo_become : gk_S mt_Mo_become 4 := ⟨gw_900, gw_11, by decide +kernel, by decide⟩
theorem mv_Mo_become : gk_V mt_Mo_become 4 11 := ⟨ms_Mo_become, gw_899, gwp_26, TX11, 26, rfl⟩
abbrev mt_Mo_picture : gk_M := (yX11_picture, cX11_picture, 5, (some .int), fun _ => True)
theorem ms_Mo_picture : gk_S mt_Mo_picture 4 := ⟨gw_881, gw_11, by decide +kernel, by decide⟩
theorem mv_Mo_picture : gk_V mt_Mo_picture 4 11 := ⟨ms_Mo_picture, gw_879, gw_880, TX11, 26, rfl⟩
abbrev mt_Mo_put : gk_M := (yX11_put, cX11_put, 7, (some .int), fun _ => True)
theorem ms_Mo_put : gk_S mt_Mo_put 4 := ⟨gw_904, gw_11, by decide +kernel, by decide⟩
theorem mv_Mo_put : gk_V mt_Mo_put 4 11 := ⟨ms_Mo_put, gw_902, gw_903, TX11, 26, rfl⟩
abbrev mt_Mo_feed : gk_M := (yX11_feed, cX11_feed, 10, (some .int), fun _ => True)
theorem ms_Mo_feed : gk_S mt_Mo_feed 5 := ⟨gw_938, gw_11, by decide +kernel, by decide⟩
theorem mv_Mo_feed : gk_V mt_Mo_feed 5 11 := ⟨ms_Mo_feed, gw_936, gw_937, TX11, 26, rfl⟩
abbrev mt_Mo_folded : gk_M := (yX11_folded, cX11_folded, 5, (some .int), fun _ => True)
theorem ms_Mo_folded : gk_S mt_Mo_folded 3 := ⟨gw_962, gw_11, by decide +kernel, by decide⟩
theorem mz_Mo_folded : gk_St mt_Mo_folded 3 := ⟨ms_Mo_folded, gw_961⟩
abbrev mt_Mo_look : gk_M := (yX11_look, cX11_look, 3, none, fun _ => True)
theorem ms_Mo_look : gk_S mt_Mo_look 1 := ⟨gw_955, gw_11, by decide +kernel, by decide⟩
theorem mv_Mo_look : gk_V mt_Mo_look 1 11 := ⟨ms_Mo_look, gw_954, gwp_34, TX11, 26, rfl⟩
abbrev mt_Mo_seenAt : gk_M := (yX11_seenAt, cX11_seenAt, 4, (some .int), fun _ => True)
theorem ms_Mo_seenAt : gk_S mt_Mo_seenAt 3 := ⟨gw_959, gw_11, by decide +kernel, by decide⟩
theorem mv_Mo_seenAt : gk_V mt_Mo_seenAt 3 11 := ⟨ms_Mo_seenAt, gw_958, gwp_35, TX11, 26, rfl⟩
abbrev mt_Mo_at : gk_M := (yX11_at, cX11_at, 5, (some .int), fun _ => True)
theorem ms_Mo_at : gk_S mt_Mo_at 4 := ⟨gw_948, gw_11, by decide +kernel, by decide⟩
theorem mv_Mo_at : gk_V mt_Mo_at 4 11 := ⟨ms_Mo_at, gw_946, gw_947, TX11, 26, rfl⟩
abbrev mt_Mo_about : gk_M := (yX11_about, cX11_about, 8, (some .int), fun _ => True)
theorem ms_Mo_about : gk_S mt_Mo_about 2 := ⟨gw_966, gw_11, by decide +kernel, by decide⟩
theorem mv_Mo_about : gk_V mt_Mo_about 2 11 := ⟨ms_Mo_about, gw_964, gw_965, TX11, 26, rfl⟩
abbrev mt_Mo_convert : gk_M := (yX11_convert, cX11_convert, 8, (some .int), fun _ => True)
theorem ms_Mo_convert : gk_S mt_Mo_convert 4 := ⟨gw_972, gw_11, by decide +kernel, by decide⟩
theorem mv_Mo_convert : gk_V mt_Mo_convert 4 11 := ⟨ms_Mo_convert, gw_970, gw_971, TX11, 26, rfl⟩
abbrev mt_Mo_cut : gk_M := (yX11_cut, cX11_cut, 9, (some .int), fun _ => True)
theorem ms_Mo_cut : gk_S mt_Mo_cut 7 := ⟨gw_979, gw_11, by decide +kernel, by decide⟩
theorem mv_Mo_cut : gk_V mt_Mo_cut 7 11 := ⟨ms_Mo_cut, gw_977, gw_978, TX11, 26, rfl⟩
abbrev mt_Mo_turn : gk_M := (yX11_turn, cX11_turn, 12, (some .int), fun _ => True)
theorem ms_Mo_turn : gk_S mt_Mo_turn 3 := ⟨gw_985, gw_11, by decide +kernel, by decide⟩
theorem mv_Mo_turn : gk_V mt_Mo_turn 3 11 := ⟨ms_Mo_turn, gw_983, gw_984, TX11, 26, rfl⟩
abbrev mt_Mo_unlike : gk_M := (yX11_unlike, cX11_unlike, 5, (some .int), fun _ => True)
theorem ms_Mo_unlike : gk_S mt_Mo_unlike 2 := ⟨gw_989, gw_11, by decide +kernel, by decide⟩
theorem mv_Mo_unlike : gk_V mt_Mo_unlike 2 11 := ⟨ms_Mo_unlike, gw_987, gw_988, TX11, 26, rfl⟩
abbrev mt_Mo_isFilter : gk_M := (yX11_isFilter, cX11_isFilter, 2, (some .boolean), fun _ => True)
theorem ms_Mo_isFilter : gk_S mt_Mo_isFilter 1 := ⟨gw_999, gw_11, by decide +kernel, by decide⟩
theorem mv_Mo_isFilter : gk_V mt_Mo_isFilter 1 11 := ⟨ms_Mo_isFilter, gw_998, gwp_36, TX11, 26, rfl⟩
abbrev mt_Mo_highOf : gk_M := (yX11_highOf, cX11_highOf, 6, (some .int), fun _ => True)
theorem ms_Mo_highOf : gk_S mt_Mo_highOf 3 := ⟨gw_1003, gw_11, by decide +kernel, by decide⟩
theorem mv_Mo_highOf : gk_V mt_Mo_highOf 3 11 := ⟨ms_Mo_highOf, gw_1002, gwp_37, TX11, 26, rfl⟩
abbrev mt_Mo_filter : gk_M := (yX11_filter, cX11_filter, 6, (some .int), fun _ => True)
theorem ms_Mo_filter : gk_S mt_Mo_filter 3 := ⟨gw_993, gw_11, by decide +kernel, by decide⟩
theorem mv_Mo_filter : gk_V mt_Mo_filter 3 11 := ⟨ms_Mo_filter, gw_991, gw_992, TX11, 26, rfl⟩
abbrev mt_Mo_weight : gk_M := (yX11_weight, cX11_weight, 5, (some .int), fun _ => True)
theorem ms_Mo_weight : gk_S mt_Mo_weight 3 := ⟨gw_1008, gw_11, by decide +kernel, by decide⟩
theorem mv_Mo_weight : gk_V mt_Mo_weight 3 11 := ⟨ms_Mo_weight, gw_1006, gw_1007, TX11, 26, rfl⟩
abbrev mt_Mo_floored : gk_M := (yX11_floored, cX11_floored, 6, (some .long), fun _ => True)
theorem ms_Mo_floored : gk_S mt_Mo_floored 2 := ⟨gw_1031, gw_11, by decide +kernel, by decide⟩
theorem mz_Mo_floored : gk_St mt_Mo_floored 2 := ⟨ms_Mo_floored, gw_1030⟩
abbrev mt_Mo_rounded : gk_M := (yX11_rounded, cX11_rounded, 4, (some .long), fun _ => True)
theorem ms_Mo_rounded : gk_S mt_Mo_rounded 2 := ⟨gw_1027, gw_11, by decide +kernel, by decide⟩
theorem mz_Mo_rounded : gk_St mt_Mo_rounded 2 := ⟨ms_Mo_rounded, gw_1026⟩
abbrev mt_Mo_ranked : gk_M := (yX11_ranked, cX11_ranked, 5, (some .int), fun _ => True)
theorem ms_Mo_ranked : gk_S mt_Mo_ranked 1 := ⟨gw_1035, gw_11, by decide +kernel, by decide⟩
theorem mv_Mo_ranked : gk_V mt_Mo_ranked 1 11 := ⟨ms_Mo_ranked, gw_1034, gwp_41, TX11, 26, rfl⟩
abbrev mt_Mo_single : gk_M := (yX11_single, cX11_single, 11, (some .int), fun _ => True)
theorem ms_Mo_single : gk_S mt_Mo_single 5 := ⟨gw_1024, gw_11, by decide +kernel, by decide⟩
theorem mv_Mo_single : gk_V mt_Mo_single 5 11 := ⟨ms_Mo_single, gw_1023, gwp_40, TX11, 26, rfl⟩
abbrev mt_Mo_giveTo : gk_M := (yX11_giveTo, cX11_giveTo, 5, none, fun _ => True)
theorem ms_Mo_giveTo : gk_S mt_Mo_giveTo 3 := ⟨gw_1016, gw_11, by decide +kernel, by decide⟩
theorem mv_Mo_giveTo : gk_V mt_Mo_giveTo 3 11 := ⟨ms_Mo_giveTo, gw_1015, gwp_38, TX11, 26, rfl⟩
abbrev mt_Mo_goOn : gk_M := (yX11_goOn, cX11_goOn, 9, (some .int), fun _ => True)
theorem ms_Mo_goOn : gk_S mt_Mo_goOn 3 := ⟨gw_1020, gw_11, by decide +kernel, by decide⟩
theorem mv_Mo_goOn : gk_V mt_Mo_goOn 3 11 := ⟨ms_Mo_goOn, gw_1019, gwp_39, TX11, 26, rfl⟩
abbrev mt_Mo_takes : gk_M := (yX11_takes, cX11_takes, 5, (some .int), fun _ => True)
theorem ms_Mo_takes : gk_S mt_Mo_takes 1 := ⟨gw_1039, gw_11, by decide +kernel, by decide⟩
theorem mv_Mo_takes : gk_V mt_Mo_takes 1 11 := ⟨ms_Mo_takes, gw_1038, gwp_42, TX11, 26, rfl⟩
abbrev mt_Mo_apply : gk_M := (yX11_apply, cX11_apply, 5, (some .int), fun _ => True)
theorem ms_Mo_apply : gk_S mt_Mo_apply 3 := ⟨gw_1012, gw_11, by decide +kernel, by decide⟩
theorem mv_Mo_apply : gk_V mt_Mo_apply 3 11 := ⟨ms_Mo_apply, gw_1010, gw_1011, TX11, 26, rfl⟩
abbrev mt_Mo_isMask : gk_M := (yX11_isMask, cX11_isMask, 1, (some .boolean), fun _ => True)
theorem ms_Mo_isMask : gk_S mt_Mo_isMask 1 := ⟨gw_1046, gw_11, by decide +kernel, by decide⟩
theorem mz_Mo_isMask : gk_St mt_Mo_isMask 1 := ⟨ms_Mo_isMask, gw_1045⟩
abbrev mt_Mo_isSpot : gk_M := (yX11_isSpot, cX11_isSpot, 2, (some .boolean), fun _ => True)
theorem ms_Mo_isSpot : gk_S mt_Mo_isSpot 2 := ⟨gw_1049, gw_11, by decide +kernel, by decide⟩
theorem mz_Mo_isSpot : gk_St mt_Mo_isSpot 2 := ⟨ms_Mo_isSpot, gw_1048⟩
abbrev mt_Mo_spot : gk_M := (yX11_spot, cX11_spot, 3, (some .int), fun _ => True)
theorem ms_Mo_spot : gk_S mt_Mo_spot 3 := ⟨gw_1053, gw_11, by decide +kernel, by decide⟩
theorem mz_Mo_spot : gk_St mt_Mo_spot 3 := ⟨ms_Mo_spot, gw_1052⟩
abbrev mt_Mo_mask : gk_M := (yX11_mask, cX11_mask, 6, (some .int), fun _ => True)
theorem ms_Mo_mask : gk_S mt_Mo_mask 4 := ⟨gw_1043, gw_11, by decide +kernel, by decide⟩
theorem mv_Mo_mask : gk_V mt_Mo_mask 4 11 := ⟨ms_Mo_mask, gw_1041, gw_1042, TX11, 26, rfl⟩
abbrev mt_Mo_ons : gk_M := (yX11_ons, cX11_ons, 4, (some .int), fun _ => True)
theorem ms_Mo_ons : gk_S mt_Mo_ons 1 := ⟨gw_1061, gw_11, by decide +kernel, by decide⟩
theorem mv_Mo_ons : gk_V mt_Mo_ons 1 11 := ⟨ms_Mo_ons, gw_1060, gwp_43, TX11, 26, rfl⟩
abbrev mt_Mo_maskOf : gk_M := (yX11_maskOf, cX11_maskOf, 7, (some .int), fun _ => True)
theorem ms_Mo_maskOf : gk_S mt_Mo_maskOf 4 := ⟨gw_1057, gw_11, by decide +kernel, by decide⟩
theorem mv_Mo_maskOf : gk_V mt_Mo_maskOf 4 11 := ⟨ms_Mo_maskOf, gw_1055, gw_1056, TX11, 26, rfl⟩
abbrev mt_Mo_beside : gk_M := (yX11_beside, cX11_beside, 8, (some .int), fun _ => True)
theorem ms_Mo_beside : gk_S mt_Mo_beside 3 := ⟨gw_1070, gw_11, by decide +kernel, by decide⟩
theorem mv_Mo_beside : gk_V mt_Mo_beside 3 11 := ⟨ms_Mo_beside, gw_1069, gwp_44, TX11, 26, rfl⟩
abbrev mt_Mo_maskBy : gk_M := (yX11_maskBy, cX11_maskBy, 10, (some .int), fun _ => True)
theorem ms_Mo_maskBy : gk_S mt_Mo_maskBy 3 := ⟨gw_1065, gw_11, by decide +kernel, by decide⟩
theorem mv_Mo_maskBy : gk_V mt_Mo_maskBy 3 11 := ⟨ms_Mo_maskBy, gw_1063, gw_1064, TX11, 26, rfl⟩
abbrev mt_Mo_isOn : gk_M := (yX11_isOn, cX11_isOn, 4, (some .int), fun _ => True)
theorem ms_Mo_isOn : gk_S mt_Mo_isOn 3 := ⟨gw_1074, gw_11, by decide +kernel, by decide⟩
theorem mv_Mo_isOn : gk_V mt_Mo_isOn 3 11 := ⟨ms_Mo_isOn, gw_1072, gw_1073, TX11, 26, rfl⟩
abbrev mt_Mo_isBeside : gk_M := (yX11_isBeside, cX11_isBeside, 4, (some .boolean), fun _ => True)
theorem ms_Mo_isBeside : gk_S mt_Mo_isBeside 1 := ⟨gw_1082, gw_11, by decide +kernel, by decide⟩
theorem mv_Mo_isBeside : gk_V mt_Mo_isBeside 1 11 := ⟨ms_Mo_isBeside, gw_1081, gwp_45, TX11, 26, rfl⟩
abbrev mt_Mo_fill : gk_M := (yX11_fill, cX11_fill, 11, (some .int), fun _ => True)
theorem ms_Mo_fill : gk_S mt_Mo_fill 5 := ⟨gw_1078, gw_11, by decide +kernel, by decide⟩
theorem mv_Mo_fill : gk_V mt_Mo_fill 5 11 := ⟨ms_Mo_fill, gw_1076, gw_1077, TX11, 26, rfl⟩
abbrev mt_Mo_carry : gk_M := (yX11_carry, cX11_carry, 4, none, fun _ => True)
theorem ms_Mo_carry : gk_S mt_Mo_carry 3 := ⟨gw_1090, gw_11, by decide +kernel, by decide⟩
theorem mv_Mo_carry : gk_V mt_Mo_carry 3 11 := ⟨ms_Mo_carry, gw_1089, gwp_46, TX11, 26, rfl⟩
abbrev mt_Mo_dither : gk_M := (yX11_dither, cX11_dither, 10, (some .int), fun _ => True)
theorem ms_Mo_dither : gk_S mt_Mo_dither 2 := ⟨gw_1086, gw_11, by decide +kernel, by decide⟩
theorem mv_Mo_dither : gk_V mt_Mo_dither 2 11 := ⟨ms_Mo_dither, gw_1084, gw_1085, TX11, 26, rfl⟩
abbrev mt_Mo_upTo : gk_M := (yX11_upTo, cX11_upTo, 4, (some .int), fun _ => True)
theorem ms_Mo_upTo : gk_S mt_Mo_upTo 1 := ⟨gw_1099, gw_11, by decide +kernel, by decide⟩
theorem mv_Mo_upTo : gk_V mt_Mo_upTo 1 11 := ⟨ms_Mo_upTo, gw_1098, gwp_47, TX11, 26, rfl⟩
abbrev mt_Mo_even : gk_M := (yX11_even, cX11_even, 6, (some .int), fun _ => True)
theorem ms_Mo_even : gk_S mt_Mo_even 1 := ⟨gw_1094, gw_11, by decide +kernel, by decide⟩
theorem mv_Mo_even : gk_V mt_Mo_even 1 11 := ⟨ms_Mo_even, gw_1092, gw_1093, TX11, 26, rfl⟩
abbrev mt_Mo_between : gk_M := (yX11_between, cX11_between, 2, (some .int), fun _ => True)
theorem ms_Mo_between : gk_S mt_Mo_between 2 := ⟨gw_1110, gw_11, by decide +kernel, by decide⟩
theorem mz_Mo_between : gk_St mt_Mo_between 2 := ⟨ms_Mo_between, gw_1109⟩
abbrev mt_Mo_energyAt : gk_M := (yX11_energyAt, cX11_energyAt, 3, (some .int), fun _ => True)
theorem ms_Mo_energyAt : gk_S mt_Mo_energyAt 2 := ⟨gw_1107, gw_11, by decide +kernel, by decide⟩
theorem mv_Mo_energyAt : gk_V mt_Mo_energyAt 2 11 := ⟨ms_Mo_energyAt, gw_1106, gwp_48, TX11, 26, rfl⟩
abbrev mt_Mo_energy : gk_M := (yX11_energy, cX11_energy, 4, (some .int), fun _ => True)
theorem ms_Mo_energy : gk_S mt_Mo_energy 3 := ⟨gw_1103, gw_11, by decide +kernel, by decide⟩
theorem mv_Mo_energy : gk_V mt_Mo_energy 3 11 := ⟨ms_Mo_energy, gw_1101, gw_1102, TX11, 26, rfl⟩
abbrev mt_Mo_leastIn : gk_M := (yX11_leastIn, cX11_leastIn, 6, (some .int), fun _ => True)
theorem ms_Mo_leastIn : gk_S mt_Mo_leastIn 3 := ⟨gw_1122, gw_11, by decide +kernel, by decide⟩
theorem mv_Mo_leastIn : gk_V mt_Mo_leastIn 3 11 := ⟨ms_Mo_leastIn, gw_1121, gwp_50, TX11, 26, rfl⟩
abbrev mt_Mo_laySeam : gk_M := (yX11_laySeam, cX11_laySeam, 5, (some .int), fun _ => True)
theorem ms_Mo_laySeam : gk_S mt_Mo_laySeam 1 := ⟨gw_1118, gw_11, by decide +kernel, by decide⟩
theorem mv_Mo_laySeam : gk_V mt_Mo_laySeam 1 11 := ⟨ms_Mo_laySeam, gw_1117, gwp_49, TX11, 26, rfl⟩
abbrev mt_Mo_seam : gk_M := (yX11_seam, cX11_seam, 4, (some .int), fun _ => True)
theorem ms_Mo_seam : gk_S mt_Mo_seam 2 := ⟨gw_1114, gw_11, by decide +kernel, by decide⟩
theorem mv_Mo_seam : gk_V mt_Mo_seam 2 11 := ⟨ms_Mo_seam, gw_1112, gw_1113, TX11, 26, rfl⟩
abbrev mt_Mo_seamGoes : gk_M := (yX11_seamGoes, cX11_seamGoes, 8, (some .int), fun _ => True)
theorem ms_Mo_seamGoes : gk_S mt_Mo_seamGoes 2 := ⟨gw_1126, gw_11, by decide +kernel, by decide⟩
theorem mv_Mo_seamGoes : gk_V mt_Mo_seamGoes 2 11 := ⟨ms_Mo_seamGoes, gw_1124, gw_1125, TX11, 26, rfl⟩
abbrev mt_Mo_addRun : gk_M := (yX11_addRun, cX11_addRun, 2, none, fun _ => True)
theorem ms_Mo_addRun : gk_S mt_Mo_addRun 1 := ⟨gw_1138, gw_11, by decide +kernel, by decide⟩
theorem mv_Mo_addRun : gk_V mt_Mo_addRun 1 11 := ⟨ms_Mo_addRun, gw_1137, gwp_52, TX11, 26, rfl⟩
abbrev mt_Mo_layRuns : gk_M := (yX11_layRuns, cX11_layRuns, 6, none, fun _ => True)
theorem ms_Mo_layRuns : gk_S mt_Mo_layRuns 1 := ⟨gw_1134, gw_11, by decide +kernel, by decide⟩
theorem mv_Mo_layRuns : gk_V mt_Mo_layRuns 1 11 := ⟨ms_Mo_layRuns, gw_1133, gwp_51, TX11, 26, rfl⟩
abbrev mt_Mo_runs : gk_M := (yX11_runs, cX11_runs, 3, (some .int), fun _ => True)
theorem ms_Mo_runs : gk_S mt_Mo_runs 2 := ⟨gw_1130, gw_11, by decide +kernel, by decide⟩
theorem mv_Mo_runs : gk_V mt_Mo_runs 2 11 := ⟨ms_Mo_runs, gw_1128, gw_1129, TX11, 26, rfl⟩
abbrev mt_Mo_isByte : gk_M := (yX11_isByte, cX11_isByte, 4, (some .boolean), fun _ => True)
theorem ms_Mo_isByte : gk_S mt_Mo_isByte 3 := ⟨gw_1150, gw_11, by decide +kernel, by decide⟩
theorem mv_Mo_isByte : gk_V mt_Mo_isByte 3 11 := ⟨ms_Mo_isByte, gw_1149, gwp_54, TX11, 26, rfl⟩
abbrev mt_Mo_fault : gk_M := (yX11_fault, cX11_fault, 8, (some .int), fun _ => True)
theorem ms_Mo_fault : gk_S mt_Mo_fault 0 := ⟨gw_1146, gw_11, by decide +kernel, by decide⟩
theorem mv_Mo_fault : gk_V mt_Mo_fault 0 11 := ⟨ms_Mo_fault, gw_1145, gwp_53, TX11, 26, rfl⟩
abbrev mt_Mo_read : gk_M := (yX11_read, cX11_read, 6, (some .int), fun _ => True)
theorem ms_Mo_read : gk_S mt_Mo_read 1 := ⟨gw_1142, gw_11, by decide +kernel, by decide⟩
theorem mv_Mo_read : gk_V mt_Mo_read 1 11 := ⟨ms_Mo_read, gw_1140, gw_1141, TX11, 26, rfl⟩
abbrev mt_Mo_byteTo : gk_M := (yX11_byteTo, cX11_byteTo, 2, (some .int), fun _ => True)
theorem ms_Mo_byteTo : gk_S mt_Mo_byteTo 1 := ⟨gw_1154, gw_11, by decide +kernel, by decide⟩
theorem mv_Mo_byteTo : gk_V mt_Mo_byteTo 1 11 := ⟨ms_Mo_byteTo, gw_1152, gw_1153, TX11, 26, rfl⟩
abbrev mt_Mo_count : gk_M := (yX11_count, cX11_count, 4, (some .int), fun _ => True)
theorem ms_Mo_count : gk_S mt_Mo_count 1 := ⟨gw_1158, gw_11, by decide +kernel, by decide⟩
theorem mv_Mo_count : gk_V mt_Mo_count 1 11 := ⟨ms_Mo_count, gw_1156, gw_1157, TX11, 26, rfl⟩
abbrev mt_Math_abs : gk_M := (yJ9_abs_0f7a4, cJ9_abs_0f7a4, 1, (some .int), fun _ => True)
theorem ms_Math_abs : gk_S mt_Math_abs 1 := ⟨gw_609, gw_13, by decide +kernel, by decide⟩
theorem mz_Math_abs : gk_St mt_Math_abs 1 := ⟨ms_Math_abs, gw_608⟩
abbrev mt_Math_max : gk_M := (yJ9_max_7cf53, cJ9_max_7cf53, 2, (some .int), fun _ => True)
theorem ms_Math_max : gk_S mt_Math_max 2 := ⟨gw_353, gw_13, by decide +kernel, by decide⟩
theorem mz_Math_max : gk_St mt_Math_max 2 := ⟨ms_Math_max, gw_352⟩
abbrev mt_Math_maxL : gk_M := (yJ9_max_f86c9, cJ9_max_f86c9, 4, (some .long), fun _ => True)
theorem ms_Math_maxL : gk_S mt_Math_maxL 2 := ⟨gw_385, gw_13, by decide +kernel, by decide⟩
theorem mz_Math_maxL : gk_St mt_Math_maxL 2 := ⟨ms_Math_maxL, gw_384⟩
abbrev mt_Math_min : gk_M := (yJ9_min_7cf53, cJ9_min_7cf53, 2, (some .int), fun _ => True)
theorem ms_Math_min : gk_S mt_Math_min 2 := ⟨gw_350, gw_13, by decide +kernel, by decide⟩
theorem mz_Math_min : gk_St mt_Math_min 2 := ⟨ms_Math_min, gw_349⟩
abbrev mt_Math_minL : gk_M := (yJ9_min_f86c9, cJ9_min_f86c9, 4, (some .long), fun _ => True)
theorem ms_Math_minL : gk_S mt_Math_minL 2 := ⟨gw_382, gw_13, by decide +kernel, by decide⟩
theorem mz_Math_minL : gk_St mt_Math_minL 2 := ⟨ms_Math_minL, gw_381⟩
