section
-- ===== PART A: goes FIRST, ahead of the names: the tables' words, and 'selects' of the private methods out of them =====
/-- a private method of a class that the tables say can be made, by its rows of tables_1 -/
def lw_okq (q : MethodName × Nat) : Prop := (q.1.cls ≠ "java/lang/invoke/MethodHandle" ∧ q.1.cls ≠ "java/lang/invoke/VarHandle") ∧ Cond.instantiable q.1.cls q.2 ∈ tables_1 ∧ Cond.privateMethod q.1 ∈ tables_1 ∧ Cond.instanceMethod q.1 ∈ tables_1
theorem lw_p0 : lw_okq (⟨"Ninewheel", "isCellSoundWithAll", "(I)Z"⟩, 9) := ⟨⟨by decide +kernel, by decide +kernel⟩, List.mem_of_getElem? (i := 23) (by decide +kernel), List.mem_of_getElem? (i := 83) (by decide +kernel), List.mem_of_getElem? (i := 84) (by decide +kernel)⟩
theorem lw_p1 : lw_okq (⟨"Ninewheel", "countAt", "(II)J"⟩, 9) := ⟨⟨by decide +kernel, by decide +kernel⟩, List.mem_of_getElem? (i := 23) (by decide +kernel), List.mem_of_getElem? (i := 90) (by decide +kernel), List.mem_of_getElem? (i := 91) (by decide +kernel)⟩
theorem lw_p2 : lw_okq (⟨"Ninewheel", "orderOfCells", "(II)I"⟩, 9) := ⟨⟨by decide +kernel, by decide +kernel⟩, List.mem_of_getElem? (i := 23) (by decide +kernel), List.mem_of_getElem? (i := 98) (by decide +kernel), List.mem_of_getElem? (i := 99) (by decide +kernel)⟩
theorem lw_p3 : lw_okq (⟨"Ninewheel", "areSame", "(II)Z"⟩, 9) := ⟨⟨by decide +kernel, by decide +kernel⟩, List.mem_of_getElem? (i := 23) (by decide +kernel), List.mem_of_getElem? (i := 105) (by decide +kernel), List.mem_of_getElem? (i := 106) (by decide +kernel)⟩
theorem lw_p4 : lw_okq (⟨"Ninewheel", "isLengthSound", "(I)Z"⟩, 9) := ⟨⟨by decide +kernel, by decide +kernel⟩, List.mem_of_getElem? (i := 23) (by decide +kernel), List.mem_of_getElem? (i := 109) (by decide +kernel), List.mem_of_getElem? (i := 110) (by decide +kernel)⟩
theorem lw_p5 : lw_okq (⟨"Ninewheel", "isProductSound", "(I)Z"⟩, 9) := ⟨⟨by decide +kernel, by decide +kernel⟩, List.mem_of_getElem? (i := 23) (by decide +kernel), List.mem_of_getElem? (i := 119) (by decide +kernel), List.mem_of_getElem? (i := 120) (by decide +kernel)⟩
theorem lw_p6 : lw_okq (⟨"Ninewheel", "workOutProduct", "(I)V"⟩, 9) := ⟨⟨by decide +kernel, by decide +kernel⟩, List.mem_of_getElem? (i := 23) (by decide +kernel), List.mem_of_getElem? (i := 123) (by decide +kernel), List.mem_of_getElem? (i := 124) (by decide +kernel)⟩
theorem lw_p7 : lw_okq (⟨"Ninewheel$LongNumber", "clear", "()V"⟩, 1) := ⟨⟨by decide +kernel, by decide +kernel⟩, List.mem_of_getElem? (i := 31) (by decide +kernel), List.mem_of_getElem? (i := 127) (by decide +kernel), List.mem_of_getElem? (i := 128) (by decide +kernel)⟩
theorem lw_p8 : lw_okq (⟨"Ninewheel$LongNumber", "raise", "(II)V"⟩, 1) := ⟨⟨by decide +kernel, by decide +kernel⟩, List.mem_of_getElem? (i := 31) (by decide +kernel), List.mem_of_getElem? (i := 134) (by decide +kernel), List.mem_of_getElem? (i := 135) (by decide +kernel)⟩
theorem lw_p9 : lw_okq (⟨"Ninewheel$LongNumber", "carry", "()V"⟩, 1) := ⟨⟨by decide +kernel, by decide +kernel⟩, List.mem_of_getElem? (i := 31) (by decide +kernel), List.mem_of_getElem? (i := 138) (by decide +kernel), List.mem_of_getElem? (i := 139) (by decide +kernel)⟩
theorem lw_p10 : lw_okq (⟨"Ninewheel$LongNumber", "becomeNines", "(II)V"⟩, 1) := ⟨⟨by decide +kernel, by decide +kernel⟩, List.mem_of_getElem? (i := 31) (by decide +kernel), List.mem_of_getElem? (i := 142) (by decide +kernel), List.mem_of_getElem? (i := 143) (by decide +kernel)⟩
theorem lw_p11 : lw_okq (⟨"Ninewheel$LongNumber", "isLike", "(LNinewheel$LongNumber;)Z"⟩, 1) := ⟨⟨by decide +kernel, by decide +kernel⟩, List.mem_of_getElem? (i := 31) (by decide +kernel), List.mem_of_getElem? (i := 149) (by decide +kernel), List.mem_of_getElem? (i := 150) (by decide +kernel)⟩
theorem lw_p12 : lw_okq (⟨"Ninewheel", "isCutSound", "(I)Z"⟩, 9) := ⟨⟨by decide +kernel, by decide +kernel⟩, List.mem_of_getElem? (i := 23) (by decide +kernel), List.mem_of_getElem? (i := 153) (by decide +kernel), List.mem_of_getElem? (i := 154) (by decide +kernel)⟩
theorem lw_p13 : lw_okq (⟨"Ninewheel", "cutCount", "(IZII)J"⟩, 9) := ⟨⟨by decide +kernel, by decide +kernel⟩, List.mem_of_getElem? (i := 23) (by decide +kernel), List.mem_of_getElem? (i := 157) (by decide +kernel), List.mem_of_getElem? (i := 158) (by decide +kernel)⟩
theorem lw_p14 : lw_okq (⟨"Ninewheel", "digestOfCells", "(J)J"⟩, 9) := ⟨⟨by decide +kernel, by decide +kernel⟩, List.mem_of_getElem? (i := 23) (by decide +kernel), List.mem_of_getElem? (i := 177) (by decide +kernel), List.mem_of_getElem? (i := 178) (by decide +kernel)⟩
theorem lw_p15 : lw_okq (⟨"Ninewheel", "digestOfWheels", "(J)J"⟩, 9) := ⟨⟨by decide +kernel, by decide +kernel⟩, List.mem_of_getElem? (i := 23) (by decide +kernel), List.mem_of_getElem? (i := 188) (by decide +kernel), List.mem_of_getElem? (i := 189) (by decide +kernel)⟩
def lw_privs_1 : List (MethodName × Nat) := [(⟨"Ninewheel", "isCellSoundWithAll", "(I)Z"⟩, 9), (⟨"Ninewheel", "countAt", "(II)J"⟩, 9), (⟨"Ninewheel", "orderOfCells", "(II)I"⟩, 9), (⟨"Ninewheel", "areSame", "(II)Z"⟩, 9), (⟨"Ninewheel", "isLengthSound", "(I)Z"⟩, 9), (⟨"Ninewheel", "isProductSound", "(I)Z"⟩, 9), (⟨"Ninewheel", "workOutProduct", "(I)V"⟩, 9), (⟨"Ninewheel$LongNumber", "clear", "()V"⟩, 1), (⟨"Ninewheel$LongNumber", "raise", "(II)V"⟩, 1), (⟨"Ninewheel$LongNumber", "carry", "()V"⟩, 1), (⟨"Ninewheel$LongNumber", "becomeNines", "(II)V"⟩, 1), (⟨"Ninewheel$LongNumber", "isLike", "(LNinewheel$LongNumber;)Z"⟩, 1), (⟨"Ninewheel", "isCutSound", "(I)Z"⟩, 9), (⟨"Ninewheel", "cutCount", "(IZII)J"⟩, 9), (⟨"Ninewheel", "digestOfCells", "(J)J"⟩, 9), (⟨"Ninewheel", "digestOfWheels", "(J)J"⟩, 9)]
theorem lw_r1 : ∀ q ∈ lw_privs_1, lw_okq q := List.forall_mem_cons.mpr ⟨lw_p0, List.forall_mem_cons.mpr ⟨lw_p1, List.forall_mem_cons.mpr ⟨lw_p2, List.forall_mem_cons.mpr ⟨lw_p3, List.forall_mem_cons.mpr ⟨lw_p4, List.forall_mem_cons.mpr ⟨lw_p5, List.forall_mem_cons.mpr ⟨lw_p6, List.forall_mem_cons.mpr ⟨lw_p7, List.forall_mem_cons.mpr ⟨lw_p8, List.forall_mem_cons.mpr ⟨lw_p9, List.forall_mem_cons.mpr ⟨lw_p10, List.forall_mem_cons.mpr ⟨lw_p11, List.forall_mem_cons.mpr ⟨lw_p12, List.forall_mem_cons.mpr ⟨lw_p13, List.forall_mem_cons.mpr ⟨lw_p14, List.forall_mem_cons.mpr ⟨lw_p15, fun _ h => absurd h List.not_mem_nil⟩⟩⟩⟩⟩⟩⟩⟩⟩⟩⟩⟩⟩⟩⟩⟩
theorem lw_p16 : lw_okq (⟨"Ninewheel", "digestOfWheel", "(IJ)J"⟩, 9) := ⟨⟨by decide +kernel, by decide +kernel⟩, List.mem_of_getElem? (i := 23) (by decide +kernel), List.mem_of_getElem? (i := 192) (by decide +kernel), List.mem_of_getElem? (i := 193) (by decide +kernel)⟩
theorem lw_p17 : lw_okq (⟨"Ninewheel", "spokeOf", "(II)I"⟩, 9) := ⟨⟨by decide +kernel, by decide +kernel⟩, List.mem_of_getElem? (i := 23) (by decide +kernel), List.mem_of_getElem? (i := 196) (by decide +kernel), List.mem_of_getElem? (i := 197) (by decide +kernel)⟩
theorem lw_p18 : lw_okq (⟨"Ninewheel", "restOfPlace", "(II)I"⟩, 9) := ⟨⟨by decide +kernel, by decide +kernel⟩, List.mem_of_getElem? (i := 23) (by decide +kernel), List.mem_of_getElem? (i := 200) (by decide +kernel), List.mem_of_getElem? (i := 201) (by decide +kernel)⟩
theorem lw_p19 : lw_okq (⟨"Ninewheel", "ninesOf", "(II)I"⟩, 9) := ⟨⟨by decide +kernel, by decide +kernel⟩, List.mem_of_getElem? (i := 23) (by decide +kernel), List.mem_of_getElem? (i := 204) (by decide +kernel), List.mem_of_getElem? (i := 205) (by decide +kernel)⟩
theorem lw_p20 : lw_okq (⟨"Ninewheel", "hasParts", "(II)Z"⟩, 9) := ⟨⟨by decide +kernel, by decide +kernel⟩, List.mem_of_getElem? (i := 23) (by decide +kernel), List.mem_of_getElem? (i := 208) (by decide +kernel), List.mem_of_getElem? (i := 209) (by decide +kernel)⟩
theorem lw_p21 : lw_okq (⟨"Ninewheel", "partLength", "(II)I"⟩, 9) := ⟨⟨by decide +kernel, by decide +kernel⟩, List.mem_of_getElem? (i := 23) (by decide +kernel), List.mem_of_getElem? (i := 212) (by decide +kernel), List.mem_of_getElem? (i := 213) (by decide +kernel)⟩
theorem lw_p22 : lw_okq (⟨"Ninewheel", "workOutPartSum", "(II)V"⟩, 9) := ⟨⟨by decide +kernel, by decide +kernel⟩, List.mem_of_getElem? (i := 23) (by decide +kernel), List.mem_of_getElem? (i := 216) (by decide +kernel), List.mem_of_getElem? (i := 217) (by decide +kernel)⟩
theorem lw_p23 : lw_okq (⟨"Ninewheel", "orderAgainst", "(II)I"⟩, 9) := ⟨⟨by decide +kernel, by decide +kernel⟩, List.mem_of_getElem? (i := 23) (by decide +kernel), List.mem_of_getElem? (i := 220) (by decide +kernel), List.mem_of_getElem? (i := 221) (by decide +kernel)⟩
theorem lw_p24 : lw_okq (⟨"Ninewheel", "orderOfWheels", "(II)I"⟩, 9) := ⟨⟨by decide +kernel, by decide +kernel⟩, List.mem_of_getElem? (i := 23) (by decide +kernel), List.mem_of_getElem? (i := 224) (by decide +kernel), List.mem_of_getElem? (i := 225) (by decide +kernel)⟩
theorem lw_p25 : lw_okq (⟨"java/lang/Throwable", "fillInStackTrace", "(I)Ljava/lang/Throwable;"⟩, 6) := ⟨⟨by decide +kernel, by decide +kernel⟩, List.mem_of_getElem? (i := 291) (by decide +kernel), List.mem_of_getElem? (i := 289) (by decide +kernel), List.mem_of_getElem? (i := 290) (by decide +kernel)⟩
theorem lw_p26 : lw_okq (⟨"Ninewheel", "bring", "(IJI)I"⟩, 9) := ⟨⟨by decide +kernel, by decide +kernel⟩, List.mem_of_getElem? (i := 23) (by decide +kernel), List.mem_of_getElem? (i := 341) (by decide +kernel), List.mem_of_getElem? (i := 342) (by decide +kernel)⟩
theorem lw_p27 : lw_okq (⟨"Ninewheel", "decline", "()I"⟩, 9) := ⟨⟨by decide +kernel, by decide +kernel⟩, List.mem_of_getElem? (i := 23) (by decide +kernel), List.mem_of_getElem? (i := 345) (by decide +kernel), List.mem_of_getElem? (i := 346) (by decide +kernel)⟩
theorem lw_p28 : lw_okq (⟨"Ninewheel", "bringAt", "(IJI)I"⟩, 9) := ⟨⟨by decide +kernel, by decide +kernel⟩, List.mem_of_getElem? (i := 23) (by decide +kernel), List.mem_of_getElem? (i := 464) (by decide +kernel), List.mem_of_getElem? (i := 465) (by decide +kernel)⟩
theorem lw_p29 : lw_okq (⟨"Ninewheel", "bringWheel", "(III)V"⟩, 9) := ⟨⟨by decide +kernel, by decide +kernel⟩, List.mem_of_getElem? (i := 23) (by decide +kernel), List.mem_of_getElem? (i := 860) (by decide +kernel), List.mem_of_getElem? (i := 861) (by decide +kernel)⟩
theorem lw_p30 : lw_okq (⟨"Ninewheel", "turnBy", "(II)V"⟩, 9) := ⟨⟨by decide +kernel, by decide +kernel⟩, List.mem_of_getElem? (i := 23) (by decide +kernel), List.mem_of_getElem? (i := 874) (by decide +kernel), List.mem_of_getElem? (i := 875) (by decide +kernel)⟩
theorem lw_p31 : lw_okq (⟨"Ninewheel", "digitText", "(III)Ljava/lang/String;"⟩, 9) := ⟨⟨by decide +kernel, by decide +kernel⟩, List.mem_of_getElem? (i := 23) (by decide +kernel), List.mem_of_getElem? (i := 930) (by decide +kernel), List.mem_of_getElem? (i := 931) (by decide +kernel)⟩
def lw_privs_2 : List (MethodName × Nat) := [(⟨"Ninewheel", "digestOfWheel", "(IJ)J"⟩, 9), (⟨"Ninewheel", "spokeOf", "(II)I"⟩, 9), (⟨"Ninewheel", "restOfPlace", "(II)I"⟩, 9), (⟨"Ninewheel", "ninesOf", "(II)I"⟩, 9), (⟨"Ninewheel", "hasParts", "(II)Z"⟩, 9), (⟨"Ninewheel", "partLength", "(II)I"⟩, 9), (⟨"Ninewheel", "workOutPartSum", "(II)V"⟩, 9), (⟨"Ninewheel", "orderAgainst", "(II)I"⟩, 9), (⟨"Ninewheel", "orderOfWheels", "(II)I"⟩, 9), (⟨"java/lang/Throwable", "fillInStackTrace", "(I)Ljava/lang/Throwable;"⟩, 6), (⟨"Ninewheel", "bring", "(IJI)I"⟩, 9), (⟨"Ninewheel", "decline", "()I"⟩, 9), (⟨"Ninewheel", "bringAt", "(IJI)I"⟩, 9), (⟨"Ninewheel", "bringWheel", "(III)V"⟩, 9), (⟨"Ninewheel", "turnBy", "(II)V"⟩, 9), (⟨"Ninewheel", "digitText", "(III)Ljava/lang/String;"⟩, 9)]
theorem lw_r2 : ∀ q ∈ lw_privs_2, lw_okq q := List.forall_mem_cons.mpr ⟨lw_p16, List.forall_mem_cons.mpr ⟨lw_p17, List.forall_mem_cons.mpr ⟨lw_p18, List.forall_mem_cons.mpr ⟨lw_p19, List.forall_mem_cons.mpr ⟨lw_p20, List.forall_mem_cons.mpr ⟨lw_p21, List.forall_mem_cons.mpr ⟨lw_p22, List.forall_mem_cons.mpr ⟨lw_p23, List.forall_mem_cons.mpr ⟨lw_p24, List.forall_mem_cons.mpr ⟨lw_p25, List.forall_mem_cons.mpr ⟨lw_p26, List.forall_mem_cons.mpr ⟨lw_p27, List.forall_mem_cons.mpr ⟨lw_p28, List.forall_mem_cons.mpr ⟨lw_p29, List.forall_mem_cons.mpr ⟨lw_p30, List.forall_mem_cons.mpr ⟨lw_p31, fun _ h => absurd h List.not_mem_nil⟩⟩⟩⟩⟩⟩⟩⟩⟩⟩⟩⟩⟩⟩⟩⟩
theorem lw_p32 : lw_okq (⟨"Ninewheel$LongNumber", "written", "()Ljava/lang/String;"⟩, 1) := ⟨⟨by decide +kernel, by decide +kernel⟩, List.mem_of_getElem? (i := 31) (by decide +kernel), List.mem_of_getElem? (i := 956) (by decide +kernel), List.mem_of_getElem? (i := 957) (by decide +kernel)⟩
theorem lw_p33 : lw_okq (⟨"NinewheelModel", "refuse", "(ZZ)Z"⟩, 7) := ⟨⟨by decide +kernel, by decide +kernel⟩, List.mem_of_getElem? (i := 1008) (by decide +kernel), List.mem_of_getElem? (i := 1052) (by decide +kernel), List.mem_of_getElem? (i := 1053) (by decide +kernel)⟩
theorem lw_p34 : lw_okq (⟨"NinewheelModel", "come", "(IJI)I"⟩, 7) := ⟨⟨by decide +kernel, by decide +kernel⟩, List.mem_of_getElem? (i := 1008) (by decide +kernel), List.mem_of_getElem? (i := 1056) (by decide +kernel), List.mem_of_getElem? (i := 1057) (by decide +kernel)⟩
theorem lw_p35 : lw_okq (⟨"NinewheelModel", "nay", "()I"⟩, 7) := ⟨⟨by decide +kernel, by decide +kernel⟩, List.mem_of_getElem? (i := 1008) (by decide +kernel), List.mem_of_getElem? (i := 1065) (by decide +kernel), List.mem_of_getElem? (i := 1066) (by decide +kernel)⟩
theorem lw_p36 : lw_okq (⟨"NinewheelModel", "areNoCells", "(III)Z"⟩, 7) := ⟨⟨by decide +kernel, by decide +kernel⟩, List.mem_of_getElem? (i := 1008) (by decide +kernel), List.mem_of_getElem? (i := 1093) (by decide +kernel), List.mem_of_getElem? (i := 1094) (by decide +kernel)⟩
theorem lw_p37 : lw_okq (⟨"NinewheelModel", "most", "(II)I"⟩, 7) := ⟨⟨by decide +kernel, by decide +kernel⟩, List.mem_of_getElem? (i := 1008) (by decide +kernel), List.mem_of_getElem? (i := 1097) (by decide +kernel), List.mem_of_getElem? (i := 1098) (by decide +kernel)⟩
theorem lw_p38 : lw_okq (⟨"NinewheelModel", "units", "(II)J"⟩, 7) := ⟨⟨by decide +kernel, by decide +kernel⟩, List.mem_of_getElem? (i := 1008) (by decide +kernel), List.mem_of_getElem? (i := 1101) (by decide +kernel), List.mem_of_getElem? (i := 1102) (by decide +kernel)⟩
theorem lw_p39 : lw_okq (⟨"NinewheelModel", "wholeOf", "(II)J"⟩, 7) := ⟨⟨by decide +kernel, by decide +kernel⟩, List.mem_of_getElem? (i := 1008) (by decide +kernel), List.mem_of_getElem? (i := 1139) (by decide +kernel), List.mem_of_getElem? (i := 1140) (by decide +kernel)⟩
theorem lw_p40 : lw_okq (⟨"NinewheelModel", "ordered", "(II)I"⟩, 7) := ⟨⟨by decide +kernel, by decide +kernel⟩, List.mem_of_getElem? (i := 1008) (by decide +kernel), List.mem_of_getElem? (i := 1170) (by decide +kernel), List.mem_of_getElem? (i := 1171) (by decide +kernel)⟩
theorem lw_p41 : lw_okq (⟨"NinewheelModel", "cutOf", "(IZII)J"⟩, 7) := ⟨⟨by decide +kernel, by decide +kernel⟩, List.mem_of_getElem? (i := 1008) (by decide +kernel), List.mem_of_getElem? (i := 1185) (by decide +kernel), List.mem_of_getElem? (i := 1186) (by decide +kernel)⟩
theorem lw_p42 : lw_okq (⟨"NinewheelModel", "areSame", "(II)Z"⟩, 7) := ⟨⟨by decide +kernel, by decide +kernel⟩, List.mem_of_getElem? (i := 1008) (by decide +kernel), List.mem_of_getElem? (i := 1228) (by decide +kernel), List.mem_of_getElem? (i := 1229) (by decide +kernel)⟩
theorem lw_p43 : lw_okq (⟨"NinewheelModel", "set", "(III)V"⟩, 7) := ⟨⟨by decide +kernel, by decide +kernel⟩, List.mem_of_getElem? (i := 1008) (by decide +kernel), List.mem_of_getElem? (i := 1239) (by decide +kernel), List.mem_of_getElem? (i := 1240) (by decide +kernel)⟩
theorem lw_p44 : lw_okq (⟨"NinewheelModel", "lengthOf", "(I)I"⟩, 7) := ⟨⟨by decide +kernel, by decide +kernel⟩, List.mem_of_getElem? (i := 1008) (by decide +kernel), List.mem_of_getElem? (i := 1243) (by decide +kernel), List.mem_of_getElem? (i := 1244) (by decide +kernel)⟩
theorem lw_p45 : lw_okq (⟨"NinewheelModel", "spokeOf", "(II)I"⟩, 7) := ⟨⟨by decide +kernel, by decide +kernel⟩, List.mem_of_getElem? (i := 1008) (by decide +kernel), List.mem_of_getElem? (i := 1269) (by decide +kernel), List.mem_of_getElem? (i := 1270) (by decide +kernel)⟩
theorem lw_p46 : lw_okq (⟨"NinewheelModel", "row", "(III)[I"⟩, 7) := ⟨⟨by decide +kernel, by decide +kernel⟩, List.mem_of_getElem? (i := 1008) (by decide +kernel), List.mem_of_getElem? (i := 1289) (by decide +kernel), List.mem_of_getElem? (i := 1290) (by decide +kernel)⟩
theorem lw_p47 : lw_okq (⟨"NinewheelModel", "timesBottom", "(I)[I"⟩, 7) := ⟨⟨by decide +kernel, by decide +kernel⟩, List.mem_of_getElem? (i := 1008) (by decide +kernel), List.mem_of_getElem? (i := 1309) (by decide +kernel), List.mem_of_getElem? (i := 1310) (by decide +kernel)⟩
def lw_privs_3 : List (MethodName × Nat) := [(⟨"Ninewheel$LongNumber", "written", "()Ljava/lang/String;"⟩, 1), (⟨"NinewheelModel", "refuse", "(ZZ)Z"⟩, 7), (⟨"NinewheelModel", "come", "(IJI)I"⟩, 7), (⟨"NinewheelModel", "nay", "()I"⟩, 7), (⟨"NinewheelModel", "areNoCells", "(III)Z"⟩, 7), (⟨"NinewheelModel", "most", "(II)I"⟩, 7), (⟨"NinewheelModel", "units", "(II)J"⟩, 7), (⟨"NinewheelModel", "wholeOf", "(II)J"⟩, 7), (⟨"NinewheelModel", "ordered", "(II)I"⟩, 7), (⟨"NinewheelModel", "cutOf", "(IZII)J"⟩, 7), (⟨"NinewheelModel", "areSame", "(II)Z"⟩, 7), (⟨"NinewheelModel", "set", "(III)V"⟩, 7), (⟨"NinewheelModel", "lengthOf", "(I)I"⟩, 7), (⟨"NinewheelModel", "spokeOf", "(II)I"⟩, 7), (⟨"NinewheelModel", "row", "(III)[I"⟩, 7), (⟨"NinewheelModel", "timesBottom", "(I)[I"⟩, 7)]
theorem lw_r3 : ∀ q ∈ lw_privs_3, lw_okq q := List.forall_mem_cons.mpr ⟨lw_p32, List.forall_mem_cons.mpr ⟨lw_p33, List.forall_mem_cons.mpr ⟨lw_p34, List.forall_mem_cons.mpr ⟨lw_p35, List.forall_mem_cons.mpr ⟨lw_p36, List.forall_mem_cons.mpr ⟨lw_p37, List.forall_mem_cons.mpr ⟨lw_p38, List.forall_mem_cons.mpr ⟨lw_p39, List.forall_mem_cons.mpr ⟨lw_p40, List.forall_mem_cons.mpr ⟨lw_p41, List.forall_mem_cons.mpr ⟨lw_p42, List.forall_mem_cons.mpr ⟨lw_p43, List.forall_mem_cons.mpr ⟨lw_p44, List.forall_mem_cons.mpr ⟨lw_p45, List.forall_mem_cons.mpr ⟨lw_p46, List.forall_mem_cons.mpr ⟨lw_p47, fun _ h => absurd h List.not_mem_nil⟩⟩⟩⟩⟩⟩⟩⟩⟩⟩⟩⟩⟩⟩⟩⟩
theorem lw_p48 : lw_okq (⟨"NinewheelModel", "sumOf", "(II)[I"⟩, 7) := ⟨⟨by decide +kernel, by decide +kernel⟩, List.mem_of_getElem? (i := 1008) (by decide +kernel), List.mem_of_getElem? (i := 1320) (by decide +kernel), List.mem_of_getElem? (i := 1321) (by decide +kernel)⟩
theorem lw_p49 : lw_okq (⟨"NinewheelModel", "ninesOf", "(II)I"⟩, 7) := ⟨⟨by decide +kernel, by decide +kernel⟩, List.mem_of_getElem? (i := 1008) (by decide +kernel), List.mem_of_getElem? (i := 1328) (by decide +kernel), List.mem_of_getElem? (i := 1329) (by decide +kernel)⟩
theorem lw_p50 : lw_okq (⟨"NinewheelModel", "wheelsOrdered", "(II)I"⟩, 7) := ⟨⟨by decide +kernel, by decide +kernel⟩, List.mem_of_getElem? (i := 1008) (by decide +kernel), List.mem_of_getElem? (i := 1343) (by decide +kernel), List.mem_of_getElem? (i := 1344) (by decide +kernel)⟩
theorem lw_p51 : lw_okq (⟨"NinewheelModel", "heldAgainst", "(II)I"⟩, 7) := ⟨⟨by decide +kernel, by decide +kernel⟩, List.mem_of_getElem? (i := 1008) (by decide +kernel), List.mem_of_getElem? (i := 1351) (by decide +kernel), List.mem_of_getElem? (i := 1352) (by decide +kernel)⟩
theorem lw_p52 : lw_okq (⟨"NinewheelModel", "isWhole", "()Z"⟩, 7) := ⟨⟨by decide +kernel, by decide +kernel⟩, List.mem_of_getElem? (i := 1008) (by decide +kernel), List.mem_of_getElem? (i := 1367) (by decide +kernel), List.mem_of_getElem? (i := 1368) (by decide +kernel)⟩
theorem lw_p53 : lw_okq (⟨"NinewheelModel", "isSoundPair", "(II)Z"⟩, 7) := ⟨⟨by decide +kernel, by decide +kernel⟩, List.mem_of_getElem? (i := 1008) (by decide +kernel), List.mem_of_getElem? (i := 1371) (by decide +kernel), List.mem_of_getElem? (i := 1372) (by decide +kernel)⟩
theorem lw_p54 : lw_okq (⟨"NinewheelModel", "isSoundWheel", "(I)Z"⟩, 7) := ⟨⟨by decide +kernel, by decide +kernel⟩, List.mem_of_getElem? (i := 1008) (by decide +kernel), List.mem_of_getElem? (i := 1375) (by decide +kernel), List.mem_of_getElem? (i := 1376) (by decide +kernel)⟩
theorem lw_p55 : lw_okq (⟨"NinewheelModel", "allNines", "(I)[I"⟩, 7) := ⟨⟨by decide +kernel, by decide +kernel⟩, List.mem_of_getElem? (i := 1008) (by decide +kernel), List.mem_of_getElem? (i := 1379) (by decide +kernel), List.mem_of_getElem? (i := 1380) (by decide +kernel)⟩
def lw_privs_4 : List (MethodName × Nat) := [(⟨"NinewheelModel", "sumOf", "(II)[I"⟩, 7), (⟨"NinewheelModel", "ninesOf", "(II)I"⟩, 7), (⟨"NinewheelModel", "wheelsOrdered", "(II)I"⟩, 7), (⟨"NinewheelModel", "heldAgainst", "(II)I"⟩, 7), (⟨"NinewheelModel", "isWhole", "()Z"⟩, 7), (⟨"NinewheelModel", "isSoundPair", "(II)Z"⟩, 7), (⟨"NinewheelModel", "isSoundWheel", "(I)Z"⟩, 7), (⟨"NinewheelModel", "allNines", "(I)[I"⟩, 7)]
theorem lw_r4 : ∀ q ∈ lw_privs_4, lw_okq q := List.forall_mem_cons.mpr ⟨lw_p48, List.forall_mem_cons.mpr ⟨lw_p49, List.forall_mem_cons.mpr ⟨lw_p50, List.forall_mem_cons.mpr ⟨lw_p51, List.forall_mem_cons.mpr ⟨lw_p52, List.forall_mem_cons.mpr ⟨lw_p53, List.forall_mem_cons.mpr ⟨lw_p54, List.forall_mem_cons.mpr ⟨lw_p55, fun _ h => absurd h List.not_mem_nil⟩⟩⟩⟩⟩⟩⟩⟩
def lw_privs : List (MethodName × Nat) := lw_privs_1 ++ (lw_privs_2 ++ (lw_privs_3 ++ (lw_privs_4)))
def lw_tbl : List Cond := k2_sels lw_privs ++ tables_1
theorem lw_privs_ok : ∀ q ∈ lw_privs, lw_okq q := by
  show ∀ q ∈ lw_privs_1 ++ (lw_privs_2 ++ (lw_privs_3 ++ (lw_privs_4))), lw_okq q
  exact List.forall_mem_append.mpr ⟨lw_r1, List.forall_mem_append.mpr ⟨lw_r2, List.forall_mem_append.mpr ⟨lw_r3, lw_r4⟩⟩⟩
-- ===== end of PART A; then your names; then what follows =====
/-! ===== BEGIN words of one list among another's, by their places ===== -/
theorem goodIn_r {big : List Cond} (ws : List Cond) (ps : List Nat) (hp : ws = ps.filterMap (fun i => big[i]?)) (h : ws.all goodWord = true) : GoodIn big ws := by
  intro w hw
  have h1 := List.all_eq_true.mp h w hw
  rw [hp] at hw
  obtain ⟨i, -, hi⟩ := List.mem_filterMap.mp hw
  have hm : w ∈ big := by first | exact List.mem_of_getElem? hi | exact List.getElem?_mem hi
  exact ⟨hm, good_of_word h1⟩
theorem goodIn_app {big a b : List Cond} (ha : GoodIn big a) (hb : GoodIn big b) : GoodIn big (a ++ b) := fun w h => (List.mem_append.mp h).elim (ha w) (hb w)
theorem goodIn_ca {big a b : List Cond} {c : Cond} (ha : GoodIn big (c :: a)) (hb : GoodIn big b) : GoodIn big (c :: (a ++ b)) := fun w h => (List.mem_cons.mp h).elim (fun e => ha w (List.mem_cons.mpr (Or.inl e))) (fun h => (List.mem_append.mp h).elim (fun h => ha w (List.mem_cons.mpr (Or.inr h))) (hb w))
theorem goodIn_sub {big ws : List Cond} (hm : ∀ w ∈ ws, w ∈ big) (h : ws.all goodWord = true) : GoodIn big ws := fun w hw => ⟨hm w hw, good_of_word (List.all_eq_true.mp h w hw)⟩
/-! ===== END ===== -/
/-! ===== BEGIN exceptions that leave a method, and their catching by the caller (launches without stack traces) ===== -/
section VXA
/-! The laws vx_back, vx_callV, vx_callS, vx_callSW, vx_throw0, vx_throwS follow proofs of the library, with one case more: JvmDerived/Free/Laws.lean (Back.of_free), Shelf42/LK1.lean (callV, callS), Shelf/KitTraced.lean (throwNew0V, throwNewS). -/
/-- where a method has thrown q: the class by its name, the cell, what was written, the world -/
def vx_T (XC : String → State → State → Prop) (st : State) (q : Addr) (t : State) (mc ms : Nat) (free : Addr → Prop) : Prop :=
  ∃ (E : String) (ce : Cell) (L : List Loc), XC E st t ∧ t.heap[q]? = some ce ∧ ce.vm = .none ∧ st.vm.findClass E = some ce.cls ∧ st.WarmedH t.vm ∧ st.sameButNew ({ t with vm := st.vm } : State) L mc ms ∧ ∀ z ∈ L, free z.base
def vx_Q (Qc : Array Value → State → Outcome → State → Prop) (XC : String → State → State → Prop) (mc ms : Nat) (free : Addr → Prop) : Array Value → State → Outcome → State → Prop := fun a st o t =>
  (Qc a st o t ∧ ∃ L, FrameEnd st o t L mc ms ∧ ∀ q ∈ L, free q.base) ∨ ∃ q, o = .threw q ∧ vx_T XC st q t mc ms free
/-- a callee that returns or throws -/
def vx_Met (l : Launch) (y : MethodName) (ws : List Cond) (rm : Room) (Pc : Array Value → State → Prop) (Qc : Array Value → State → Outcome → State → Prop) (XC : String → State → State → Prop) (mc ms : Nat) (free : Addr → Prop) : Prop :=
  MetFree l y (headSpec ws rm) Pc (fun _ _ _ _ _ => True) (vx_Q Qc XC mc ms free)
def vx_Post (XC : String → State → State → Prop) (mc ms : Nat) (free : Addr → Prop) : Pt → Array Value → Addr → Pt → Prop := fun A a q B =>
  ∃ (g : JFrame) (mk : MethodId) (t : State) (L : List Loc) (E : String) (ce : Cell), B.U.heap = t.heap ∧ B.U.vm = t.vm ∧ XC E (A.U.calling g mk a) t ∧ t.heap[q]? = some ce ∧ ce.vm = .none ∧ A.U.vm.findClass E = some ce.cls ∧ B.locs = A.locs ++ L ∧ (∀ z ∈ L, free z.base) ∧ B.cells = A.cells + mc ∧ B.slots = A.slots + ms
def vx_Back (l : Launch) (R : Room) (p : Program) (e : Env) (below : List Frame) (s : State) (sargs : Array Value) (y : MethodName) (len W9 : Nat)
    (Pre : Pt → Array Value → Prop) (Post : Pt → Array Value → Option Value → Pt → Prop) (PostX : Pt → Array Value → Addr → Pt → Prop) : Prop :=
  ∀ (m : MethodId) (meth : Method) (c : Code) (A : Pt) (g : JFrame) (ig : Instr) (mk : MethodId) (a : Array Value),
    Stand p l e R s m sargs below meth c A.U A.locs A.cells A.slots → g.method = m → g.locals.size = c.maxLocals → decode c.code g.pc = .ok (ig, len) →
    2 * g.monitorRoom + (g.stack.map fun v => v.category).sum ≤ W9 → A.U.methodNamed? y = some mk → Pre A a →
    (∃ (v : Option Value) (B : Pt), Stand p l e R s m sargs below meth c B.U B.locs B.cells B.slots ∧ Post A a v B ∧
      Steps p.tables e below (doInvoke e (A.U.setTop g) [] mk a).1 (B.U.setTop { g with pc := g.pc + len, stack := v.toList ++ g.stack })) ∨
    (∃ (q : Addr) (B : Pt), Stand p l e R s m sargs below meth c B.U B.locs B.cells B.slots ∧ PostX A a q B ∧
      Steps p.tables e below (doInvoke e (A.U.setTop g) [] mk a).1 ((B.U.setTop g).pushFrame (.throwing q)))
section Payer
variable {l : Launch} {R : Room} {p : Program} {e : Env} {below : List Frame} {s : State} {sargs : Array Value} {y : MethodName} {len W9 : Nat}
theorem vx_back {ws : List Cond} {rm : Room} {Pc : Array Value → State → Prop} {Qc : Array Value → State → Outcome → State → Prop} {XC : String → State → State → Prop} {mc ms : Nat} {free : Addr → Prop} {bytes : ByteArray} {maxL : Nat} {ret : Option FieldType}
    (hM : vx_Met l y ws rm Pc Qc XC mc ms free) (hblind : FrameBlind Pc) (hrc : rm.cells = mc) (hrs : rm.slots = ms)
    (hframes : rm.frames + 1 ≤ R.frames) (hlocals : W9 + (maxL + 11) + rm.locals ≤ R.locals)
    (hws : ∀ w ∈ ws, ∀ a' U, s.WarmedH U.vm → w.before a' U = true) (hcode : Cond.code y bytes maxL ret ∈ ws) (hinit : ∀ a' U, s.WarmedH U.vm → (Cond.initialized y.cls).before a' U = true) :
    vx_Back l R p e below s sargs y len W9 (PreOf R mc ms Pc) (PostOf Qc mc ms free) (vx_Post XC mc ms free) := by
  intro m meth c A g ig mk a X hg hsize hdg hW hn hp
  have h1 : (headSpec ws rm).pre.before a A.U = true := atoms_intro fun w hw => hws w hw _ _ X.warmed
  have h2 : (Cond.code y bytes maxL ret).before a A.U = true := hws _ hcode _ _ X.warmed
  have h3 : (Cond.initialized y.cls).before a A.U = true := hinit _ _ X.warmed
  have h4 : A.cells + (headSpec ws rm).room.cells ≤ R.cells := by rw [show (headSpec ws rm).room.cells = mc from hrc]; exact hp.1
  have h5 : A.slots + (headSpec ws rm).room.slots ≤ R.slots := by rw [show (headSpec ws rm).room.slots = ms from hrs]; exact hp.2.1
  have hPc : Pc a (A.U.calling g mk a) := hblind _ _ _ _ hp.2.2
  obtain ⟨U, Ls, c0, s0⟩ := A
  dsimp only [Pt.U, Pt.locs, Pt.cells, Pt.slots] at h1 h2 h3 h4 h5 X hn hPc ⊢
  obtain ⟨methY, cY, hmY, hcY, -, hlY, -, -, -, -⟩ := Cond.code_spec hn h2
  obtain ⟨kY, hkY, -⟩ := className_of_methodNamed hn
  have hinitY : kY.init = .initialized := Cond.initialized_spec (findClass_of_methodNamed hn) hkY h3
  have h : At U g.method c below := by rw [hg]; exact X.here
  have hlocals9 : W9 + (maxL + 11) + (headSpec ws rm).room.locals ≤ R.locals := hlocals
  have happ : (headSpec ws rm).appliesLoose y e.platform (U.calling g mk a) = true :=
    Spec.appliesLoose_calling (g := g) h hdg hn hkY hinitY
      (X.room_calling (g := g) (R' := (headSpec ws rm).room) hsize hmY hcY hframes (by rw [hlY]; omega) h4 h5) h1
  obtain ⟨mid, hmid⟩ := h.above
  have hfr : (U.setTop g).frames = (.java g :: mid) ++ below := by rw [State.frames_setTop' g h.top, hmid]; rfl
  obtain ⟨o, s₂, hsteps, -, hend, hq⟩ := Steps.callFree hM p X.admits X.cas X.clock (acts := []) hfr happ hPc trivial
  have hq' : vx_Q Qc XC mc ms free a (U.calling g mk a) o s₂ := hq
  rw [State.frames_setTop' g h.top] at hend
  obtain ⟨g₀, hg0⟩ := Option.isSome_iff_exists.mp h.top
  obtain ⟨r, hr⟩ := State.topJava?_eq_some.mp hg0
  have hr' : (({ U with heap := s₂.heap, slotsUsed := s₂.slotsUsed } : State).setVm s₂.vm).frames = .java g₀ :: r := hr
  rcases hq' with ⟨hqc, L, hfe, hL⟩ | ⟨q, rfl, E, ce, L, hx, hce, hcv, hcl, hW₂, hsm, hL⟩
  · obtain ⟨⟨v, rfl⟩, hW₂, e2, q2, q3, q4, q5, q6⟩ := id hfe
    have e3 : s₂ = ({ (U.calling g mk a).setFrames s₂.frames with heap := s₂.heap, slotsUsed := s₂.slotsUsed } : State).setVm s₂.vm := by
      have : s₂ = ({ s₂ with vm := (U.calling g mk a).vm } : State).setVm s₂.vm := rfl
      rw [e2] at this
      exact this
    obtain ⟨c₂, i₂, len₂, hc₂, hd₂, hf₂⟩ := hend
    have hW' : U.WarmedH s₂.vm := hW₂
    have hcc : c₂ = c := by
      have h1 : s₂.code? g.method = U.code? g.method := by
        rw [State.code?_eq, State.code?_eq, hW'.alike.method?]
      exact Option.some.inj (hc₂.symm.trans (h1.trans h.code))
    subst hcc
    have hlen : len₂ = len := by rw [hdg] at hd₂; cases hd₂; rfl
    subst hlen
    have hs₂ : s₂ = (({ U with heap := s₂.heap, slotsUsed := s₂.slotsUsed } : State).setVm s₂.vm).setTop { g with pc := g.pc + len₂, stack := v.toList ++ g.stack } := by
      refine e3.trans ?_
      rw [hf₂, State.calling_eq h.top, State.setFrames_setFrames, State.setTop_of_frames _ hr', hr]
      rfl
    have hsame : U.sameButNew ({ U with heap := s₂.heap, slotsUsed := s₂.slotsUsed } : State) L mc ms := by
      refine ⟨?_, q2, q3, q4, q5, q6⟩
      obtain ⟨t, ht, -⟩ := State.frames_cons hr
      show ({ U with heap := s₂.heap, slotsUsed := s₂.slotsUsed } : State) = { U.setFrames U.frames with heap := s₂.heap, slotsUsed := s₂.slotsUsed }
      rw [State.setFrames_self ht]
    subst hg
    refine Or.inl ⟨v, ⟨(({ U with heap := s₂.heap, slotsUsed := s₂.slotsUsed } : State).setVm s₂.vm), Ls ++ L, c0 + mc, s0 + ms⟩,
      ⟨X.admits, X.cas, X.clock, X.frames, X.room, X.hears, X.method, X.code, (X.here.setHeapUsed s₂.heap s₂.slotsUsed).setVm hW'.alike, X.tail, State.WarmedH.trans X.warmed hW', X.limits, X.bytes, X.same.trans (hsame.setVm s.vm)⟩,
      ⟨g, mk, s₂, L, rfl, rfl, hqc, rfl, hL, rfl, rfl⟩, ?_⟩
    show Steps p.tables e below _ ((({ U with heap := s₂.heap, slotsUsed := s₂.slotsUsed } : State).setVm s₂.vm).setTop { g with pc := g.pc + len₂, stack := v.toList ++ g.stack })
    rw [← hs₂]
    exact hsteps
  · obtain ⟨e2, q2, q3, q4, q5, q6⟩ := id hsm
    have e3 : s₂ = ({ (U.calling g mk a).setFrames s₂.frames with heap := s₂.heap, slotsUsed := s₂.slotsUsed } : State).setVm s₂.vm := by
      have : s₂ = ({ s₂ with vm := (U.calling g mk a).vm } : State).setVm s₂.vm := rfl
      rw [e2] at this
      exact this
    have hf₂ : s₂.frames = .throwing q :: .java g :: U.frames.tail := hend
    have hW' : U.WarmedH s₂.vm := hW₂
    have hs₂ : s₂ = ((({ U with heap := s₂.heap, slotsUsed := s₂.slotsUsed } : State).setVm s₂.vm).setTop g).pushFrame (.throwing q) := by
      refine e3.trans ?_
      rw [hf₂, State.calling_eq h.top, State.setFrames_setFrames, State.pushFrame, State.frames_setTop _ hr', State.setTop_of_frames _ hr', State.setFrames_setFrames, hr]
      rfl
    have hsame : U.sameButNew ({ U with heap := s₂.heap, slotsUsed := s₂.slotsUsed } : State) L mc ms := by
      refine ⟨?_, q2, q3, q4, q5, q6⟩
      obtain ⟨t, ht, -⟩ := State.frames_cons hr
      show ({ U with heap := s₂.heap, slotsUsed := s₂.slotsUsed } : State) = { U.setFrames U.frames with heap := s₂.heap, slotsUsed := s₂.slotsUsed }
      rw [State.setFrames_self ht]
    subst hg
    refine Or.inr ⟨q, ⟨(({ U with heap := s₂.heap, slotsUsed := s₂.slotsUsed } : State).setVm s₂.vm), Ls ++ L, c0 + mc, s0 + ms⟩,
      ⟨X.admits, X.cas, X.clock, X.frames, X.room, X.hears, X.method, X.code, (X.here.setHeapUsed s₂.heap s₂.slotsUsed).setVm hW'.alike, X.tail, State.WarmedH.trans X.warmed hW', X.limits, X.bytes, X.same.trans (hsame.setVm s.vm)⟩,
      ⟨g, mk, s₂, L, E, ce, rfl, rfl, hx, hce, hcv, hcl, rfl, hL, rfl, rfl⟩, ?_⟩
    show Steps p.tables e below _ (((({ U with heap := s₂.heap, slotsUsed := s₂.slotsUsed } : State).setVm s₂.vm).setTop g).pushFrame (.throwing q))
    rw [← hs₂]
    exact hsteps
end Payer
section Calls
variable {p : Program} {l : Launch} {e : Env} {R : Room} {s : State} {m : MethodId} {args : Array Value} {below : List Frame} {meth : Method} {c : Code} {T : State} {locs : List Loc} {cells slots : Nat}
theorem vx_callV (X : Stand p l e R s m args below meth c T locs cells slots) (hexec : p.tables.exec = Jvm.exec) {own C : String} {index : Nat} {y : MethodName} {bytes : ByteArray} {maxL : Nat} {ret : Option FieldType}
    (hown : s.vm.findClass own = some m.cls) (hlink : (Cond.methodLink own index y).before args s = true) (hinst : (Cond.instanceMethod y).before args s = true) (hsel : (Cond.selects C y y).before args s = true)
    (hcode : (Cond.code y bytes maxL ret).before args s = true) (hy : y.cls ≠ "java/lang/invoke/MethodHandle" ∧ y.cls ≠ "java/lang/invoke/VarHandle")
    {W9 : Nat} {Pre : Pt → Array Value → Prop} {Post : Pt → Array Value → Option Value → Pt → Prop} {PostX : Pt → Array Value → Addr → Pt → Prop} (hK : vx_Back l R p e below s args y 3 W9 Pre Post PostX)
    {b : Addr} {cellB : Cell} (hcell : T.heap[b]? = some cellB) (hobj : cellB.vm.isStatics = false) (hcls : s.vm.findClass C = some cellB.cls)
    {g : JFrame} (hg : g.method = m) (hsize : g.locals.size = c.maxLocals) {argsL rest : List Value} (hlen : ∀ sig, parseMethodDescriptor y.desc = some sig → argsL.length = sig.parameters.length)
    (hstack : g.stack = argsL.reverse ++ .ref b :: rest) (hW : 2 * g.monitorRoom + (rest.map fun v => v.category).sum ≤ W9) (hdg : decode c.code g.pc = .ok (.invokevirtual index, 3))
    (hpre : ∀ vm₁, s.WarmedH vm₁ → Pre ⟨T.setVm vm₁, locs, cells, slots⟩ (Value.ref b :: argsL).toArray) :
    (∃ (v : Option Value) (vm₁ : Vm) (B : Pt), s.WarmedH vm₁ ∧ Stand p l e R s m args below meth c B.U B.locs B.cells B.slots ∧ Post ⟨T.setVm vm₁, locs, cells, slots⟩ (Value.ref b :: argsL).toArray v B ∧
      ∀ target, Steps p.tables e below (B.U.setTop { g with pc := g.pc + 3, stack := v.toList ++ rest }) target → Steps p.tables e below (T.setTop g) target) ∨
    (∃ (q : Addr) (vm₁ : Vm) (B : Pt), s.WarmedH vm₁ ∧ Stand p l e R s m args below meth c B.U B.locs B.cells B.slots ∧ PostX ⟨T.setVm vm₁, locs, cells, slots⟩ (Value.ref b :: argsL).toArray q B ∧
      Steps p.tables e below (T.setTop g) ((B.U.setTop { g with stack := rest }).pushFrame (.throwing q))) := by
  obtain ⟨mk, methM, hnamed, hmethM, hstM, habM⟩ := Cond.instanceMethod_spec hinst
  obtain ⟨methM', cM, hmethM', -, -, -, -, -, -, hsigM⟩ := Cond.code_spec hnamed hcode
  cases hmethM.symm.trans hmethM'
  obtain ⟨c2, r2, m2, q1, q2, q3, q4, kP, hkP, hkPi⟩ := Cond.selects_spec hsel
  cases hcls.symm.trans q1
  cases (State.methodFound?_of_named hnamed hy).symm.trans q2
  cases hnamed.symm.trans q3
  have hselP : selectMethod e.platform s.vm cellB.cls mk = .method mk := by rw [Launch.admits_selectMethod X.admits]; exact q4
  obtain ⟨vm₁, X₁, hstep₁⟩ := X.invokevirtual hexec hown hlink hnamed hmethM hstM hkP hkPi hy (a := b) (cell := cellB) hcell
    (fun z h => by rw [h] at hobj; cases hobj) hselP hmethM habM hkP hkPi (g := g) hg (argsL := argsL) (rest := rest) (hlen _ hsigM) hstack hdg
  rcases hK m meth c ⟨T.setVm vm₁, locs, cells, slots⟩ { g with stack := rest } (.invokevirtual index) mk (Value.ref b :: argsL).toArray X₁ hg hsize hdg hW (X₁.named hnamed) (hpre vm₁ X₁.warmed) with ⟨v, B, X', hpost, hsteps⟩ | ⟨q, B, X', hpost, hsteps⟩
  · exact Or.inl ⟨v, vm₁, B, X₁.warmed, X', hpost, fun target h => hstep₁ _ fun acts => by rw [doInvoke_state]; exact hsteps.trans h⟩
  · exact Or.inr ⟨q, vm₁, B, X₁.warmed, X', hpost, hstep₁ _ fun acts => by rw [doInvoke_state]; exact hsteps⟩
theorem vx_callS (X : Stand p l e R s m args below meth c T locs cells slots) (hexec : p.tables.exec = Jvm.exec) {own : String} {index : Nat} {y : MethodName} {bytes : ByteArray} {maxL : Nat} {ret : Option FieldType}
    (hown : s.vm.findClass own = some m.cls) (hlink : (Cond.methodLink own index y).before args s = true) (hstat : (Cond.static y).before args s = true) (hinit : (Cond.initialized y.cls).before args s = true)
    (hcode : (Cond.code y bytes maxL ret).before args s = true) (hy : y.cls ≠ "java/lang/invoke/MethodHandle" ∧ y.cls ≠ "java/lang/invoke/VarHandle")
    {W9 : Nat} {Pre : Pt → Array Value → Prop} {Post : Pt → Array Value → Option Value → Pt → Prop} {PostX : Pt → Array Value → Addr → Pt → Prop} (hK : vx_Back l R p e below s args y 3 W9 Pre Post PostX)
    {g : JFrame} (hg : g.method = m) (hsize : g.locals.size = c.maxLocals) {argsL rest : List Value} (hlen : ∀ sig, parseMethodDescriptor y.desc = some sig → argsL.length = sig.parameters.length)
    (hstack : g.stack = argsL.reverse ++ rest) (hW : 2 * g.monitorRoom + (rest.map fun v => v.category).sum ≤ W9) (hdg : decode c.code g.pc = .ok (.invokestatic index, 3))
    (hpre : ∀ vm₁, s.WarmedH vm₁ → Pre ⟨T.setVm vm₁, locs, cells, slots⟩ argsL.toArray) :
    (∃ (v : Option Value) (vm₁ : Vm) (B : Pt), s.WarmedH vm₁ ∧ Stand p l e R s m args below meth c B.U B.locs B.cells B.slots ∧ Post ⟨T.setVm vm₁, locs, cells, slots⟩ argsL.toArray v B ∧
      ∀ target, Steps p.tables e below (B.U.setTop { g with pc := g.pc + 3, stack := v.toList ++ rest }) target → Steps p.tables e below (T.setTop g) target) ∨
    (∃ (q : Addr) (vm₁ : Vm) (B : Pt), s.WarmedH vm₁ ∧ Stand p l e R s m args below meth c B.U B.locs B.cells B.slots ∧ PostX ⟨T.setVm vm₁, locs, cells, slots⟩ argsL.toArray q B ∧
      Steps p.tables e below (T.setTop g) ((B.U.setTop { g with stack := rest }).pushFrame (.throwing q))) := by
  obtain ⟨mk, hnamed⟩ := Cond.code_named hcode
  obtain ⟨methM, cM, hmethM, -, -, -, -, -, -, hsigM⟩ := Cond.code_spec hnamed hcode
  have hstatic : methM.isStatic = true := Cond.static_spec hnamed hmethM hstat
  obtain ⟨kP, hkP, -⟩ := className_of_methodNamed hnamed
  have hinitP : kP.init = .initialized := Cond.initialized_spec (findClass_of_methodNamed hnamed) hkP hinit
  obtain ⟨vm₁, X₁, hstep₁⟩ := X.invokestatic hexec hown hlink hnamed hmethM hstatic hkP hinitP hy (g := g) hg (argsL := argsL) (rest := rest) (hlen _ hsigM) hstack hdg
  rcases hK m meth c ⟨T.setVm vm₁, locs, cells, slots⟩ { g with stack := rest } (.invokestatic index) mk argsL.toArray X₁ hg hsize hdg hW (X₁.named hnamed) (hpre vm₁ X₁.warmed) with ⟨v, B, X', hpost, hsteps⟩ | ⟨q, B, X', hpost, hsteps⟩
  · exact Or.inl ⟨v, vm₁, B, X₁.warmed, X', hpost, fun target h => hstep₁ _ fun acts => by rw [doInvoke_state]; exact hsteps.trans h⟩
  · exact Or.inr ⟨q, vm₁, B, X₁.warmed, X', hpost, hstep₁ _ fun acts => by rw [doInvoke_state]; exact hsteps⟩
end Calls
theorem vx_cls {s : State} {T : State} {vm₁ : Vm} {E : String} {k : ClassId} (hW : s.WarmedH vm₁) (h : (T.setVm vm₁).vm.findClass E = some k) : s.vm.findClass E = some k := by
  have h1 : vm₁.findClass E = some k := h
  rw [hW.alike.findClass] at h1
  exact h1
/-- the method's frame g, with q thrown over it -/
def vx_W (p : Program) (l : Launch) (e : Env) (R : Room) (s : State) (m : MethodId) (args : Array Value) (below : List Frame) (meth : Method) (c : Code) (H : Heap) (locs : List Loc) (cells slots : Nat) (Q : State → Prop) (g : JFrame) (q : Addr) : Prop :=
  ∀ T : State, T.heap = H → Stand p l e R s m args below meth c T locs cells slots → ∃ t, Steps p.tables e below ((T.setTop g).pushFrame (.throwing q)) t ∧ Q t
def vx_Run (p : Program) (l : Launch) (e : Env) (R : Room) (s : State) (m : MethodId) (args : Array Value) (below : List Frame) (meth : Method) (c : Code) (H : Heap) (locs : List Loc) (cells slots mc ms : Nat) (g : JFrame) (rest : List Value) (Qa : State → Outcome → State → Prop) (XC : String → State → State → Prop) (free : Addr → Prop) : Prop :=
  ∀ T : State, T.heap = H → Stand p l e R s m args below meth c T locs cells slots →
    (∃ (v : Option Value) (st₀ t T' : State) (L : List Loc), st₀.heap = H ∧ Stand p l e R s m args below meth c T' (locs ++ L) (cells + mc) (slots + ms) ∧ (∀ q ∈ L, free q.base) ∧ T'.heap = t.heap ∧ T'.vm = t.vm ∧ Qa st₀ (.returned v) t ∧
      Goes p e below T g T' { g with pc := g.pc + 3, stack := v.toList ++ rest }) ∨
    (∃ (q : Addr) (st₀ t T' : State) (L : List Loc) (E : String) (ce : Cell), st₀.heap = H ∧ Stand p l e R s m args below meth c T' (locs ++ L) (cells + mc) (slots + ms) ∧ (∀ z ∈ L, free z.base) ∧ T'.heap = t.heap ∧ T'.vm = t.vm ∧ XC E st₀ t ∧ t.heap[q]? = some ce ∧ ce.vm = .none ∧ s.vm.findClass E = some ce.cls ∧
      Steps p.tables e below (T.setTop g) ((T'.setTop { g with stack := rest }).pushFrame (.throwing q)))
def vx_X {S : Type} (px : S → Prop) (B : String → S → State → Prop) (A : Nat → Prop) : String → State → State → Prop := fun E st t => ∃ u : S, px u ∧ B E u t ∧ va_F A st t
section Runs
variable {p : Program} {l : Launch} {e : Env} {R : Room} {s : State} {m : MethodId} {args : Array Value} {below : List Frame} {meth : Method} {c : Code} {H : Heap} {locs : List Loc} {cells slots : Nat}
variable {y : MethodName} {bytes cc : ByteArray} {maxL nL mc ms n index : Nat} {ret : Option FieldType} {ws : List Cond} {rm : Room} {Pc : Array Value → State → Prop} {Qc : Array Value → State → Outcome → State → Prop} {XC : String → State → State → Prop} {free : Addr → Prop} {Ts : List Cond} {own C : String} {b : Addr} {As rest : List Value} {g : JFrame}
theorem vx_callBack (cb : CallB R s args own index y bytes maxL ret ws rm mc ms n) (hM : vx_Met l y ws rm Pc Qc XC mc ms free) (hbl : FrameBlind Pc) : vx_Back l R p e below s args y 3 8 (PreOf R mc ms Pc) (PostOf Qc mc ms free) (vx_Post XC mc ms free) := by
  obtain ⟨hrc, hrs, hfr, hlo, hws, hcw, -, hini, -⟩ := cb
  exact vx_back (bytes := bytes) (maxL := maxL) (ret := ret) hM hbl hrc hrs hfr hlo hws hcw (fun a' U hW => word_at hW (Or.inl (by first | rfl | simp [Cond.onTables, Cond.keeps, Cond.steady])) hini)
theorem vx_runV (S : CallFix p m c cc nL s args Ts own) (hM : vx_Met l y ws rm Pc Qc XC mc ms free) (cw : CallW R s args own C index y bytes maxL ret ws rm mc ms n) (hp : PreV s H C b Pc As)
    (hg : g.method = m) (hn : As.length = n) (hsize : g.locals.size = nL) (hstack : g.stack = As.reverse ++ .ref b :: rest) (hW : 2 * g.monitorRoom + (rest.map fun v => v.category).sum ≤ 8) (hdg : decode cc g.pc = .ok (.invokevirtual index, 3)) (hf : cells + mc ≤ R.cells ∧ slots + ms ≤ R.slots) :
    vx_Run p l e R s m args below meth c H locs cells slots mc ms g rest (Qc (Value.ref b :: As).toArray) XC free := by
  have hK : vx_Back l R p e below s args y 3 8 (PreOf R mc ms Pc) (PostOf Qc mc ms free) (vx_Post XC mc ms free) := vx_callBack cw.1 hM hp.1
  obtain ⟨⟨-, -, -, -, -, -, hcode, -, hy, hlen, hl⟩, hin, hse⟩ := cw
  obtain ⟨hx, hb, hml, ho, -⟩ := S
  obtain ⟨-, ⟨cellB, hcB, hoB, hclB⟩, hPc⟩ := hp
  intro T hT X
  rcases vx_callV X hx (C := C) (bytes := bytes) (maxL := maxL) (ret := ret) ho hl hin hse hcode hy hK (by rw [hT]; exact hcB) hoB hclB hg (hsize.trans hml.symm) (argsL := As) (rest := rest) (fun sig h => hn.trans (hlen sig h)) hstack hW (by rw [hb]; exact hdg)
    (fun vm₁ hW₁ => ⟨hf.1, hf.2, hPc (T.setVm vm₁) hT hW₁⟩) with ⟨v, vm₁, ⟨U', l2, c2, s2⟩, hW₁, X', ⟨g', mk, t, L, e1, e2, hq, h1, hL, h2, h3⟩, st⟩ | ⟨q, vm₁, ⟨U', l2, c2, s2⟩, hW₁, X', ⟨g', mk, t, L, E, ce, e1, e2, hq, hce, hcv, hcl, h1, hL, h2, h3⟩, st⟩
  · dsimp only [Pt.U, Pt.locs, Pt.cells, Pt.slots] at X' e1 e2 h1 h2 h3 st
    subst h1; subst h2; subst h3
    exact Or.inl ⟨v, (T.setVm vm₁).calling g' mk (Value.ref b :: As).toArray, t, U', L, hT, X', hL, e1, e2, hq, st⟩
  · dsimp only [Pt.U, Pt.locs, Pt.cells, Pt.slots] at X' e1 e2 h1 h2 h3 st hcl
    subst h1; subst h2; subst h3
    exact Or.inr ⟨q, (T.setVm vm₁).calling g' mk (Value.ref b :: As).toArray, t, U', L, E, ce, hT, X', hL, e1, e2, hq, hce, hcv, vx_cls hW₁ hcl, st⟩
theorem vx_runS (S : CallFix p m c cc nL s args Ts own) (hM : vx_Met l y ws rm Pc Qc XC mc ms free) (cw : CallB R s args own index y bytes maxL ret ws rm mc ms n ∧ (Cond.static y).before args s = true) (hp : PreS s H Pc As)
    (hg : g.method = m) (hn : As.length = n) (hsize : g.locals.size = nL) (hstack : g.stack = As.reverse ++ rest) (hW : 2 * g.monitorRoom + (rest.map fun v => v.category).sum ≤ 8) (hdg : decode cc g.pc = .ok (.invokestatic index, 3)) (hf : cells + mc ≤ R.cells ∧ slots + ms ≤ R.slots) :
    vx_Run p l e R s m args below meth c H locs cells slots mc ms g rest (Qc As.toArray) XC free := by
  have hK : vx_Back l R p e below s args y 3 8 (PreOf R mc ms Pc) (PostOf Qc mc ms free) (vx_Post XC mc ms free) := vx_callBack cw.1 hM hp.1
  obtain ⟨⟨-, -, -, -, -, -, hcode, hini, hy, hlen, hl⟩, hstt⟩ := cw
  obtain ⟨hx, hb, hml, ho, -⟩ := S
  intro T hT X
  rcases vx_callS X hx (bytes := bytes) (maxL := maxL) (ret := ret) ho hl hstt hini hcode hy hK hg (hsize.trans hml.symm) (argsL := As) (rest := rest) (fun sig h => hn.trans (hlen sig h)) hstack hW (by rw [hb]; exact hdg)
    (fun vm₁ hW₁ => ⟨hf.1, hf.2, hp.2 (T.setVm vm₁) hT hW₁⟩) with ⟨v, vm₁, ⟨U', l2, c2, s2⟩, hW₁, X', ⟨g', mk, t, L, e1, e2, hq, h1, hL, h2, h3⟩, st⟩ | ⟨q, vm₁, ⟨U', l2, c2, s2⟩, hW₁, X', ⟨g', mk, t, L, E, ce, e1, e2, hq, hce, hcv, hcl, h1, hL, h2, h3⟩, st⟩
  · dsimp only [Pt.U, Pt.locs, Pt.cells, Pt.slots] at X' e1 e2 h1 h2 h3 st
    subst h1; subst h2; subst h3
    exact Or.inl ⟨v, (T.setVm vm₁).calling g' mk As.toArray, t, U', L, hT, X', hL, e1, e2, hq, st⟩
  · dsimp only [Pt.U, Pt.locs, Pt.cells, Pt.slots] at X' e1 e2 h1 h2 h3 st hcl
    subst h1; subst h2; subst h3
    exact Or.inr ⟨q, (T.setVm vm₁).calling g' mk As.toArray, t, U', L, E, ce, hT, X', hL, e1, e2, hq, hce, hcv, vx_cls hW₁ hcl, st⟩
end Runs
section Rows
variable {p : Program} {l : Launch} {e : Env} {R : Room} {s : State} {m : MethodId} {args : Array Value} {below : List Frame} {meth : Method} {c : Code} {H : Heap} {locs : List Loc} {cells slots : Nat} {Q : State → Prop}
variable {mc ms : Nat} {free : Addr → Prop} {A0 A1 : Nat → Prop} {H0 : Heap} {a : Array Value} {pc : Nat} {ls : Array Slot} {st0 rest : List Value}
theorem vx_keep {st₀ t T' : State} {L : List Loc} (h0 : st₀.heap = H) (e1 : T'.heap = t.heap) (hS : va_S A0 H0 H locs) (hA : ∀ q, q < H.size → A1 q → A0 q) (hf : ∀ q, free q → A0 q) (hL : ∀ q ∈ L, free q.base) (hF : va_F A1 st₀ t) :
    H.size ≤ T'.heap.size ∧ (∀ q : Nat, q < H.size → ¬ A1 q → T'.heap[q]? = H[q]?) ∧ va_S A0 H0 T'.heap (locs ++ L) := by
  obtain ⟨hz, hk⟩ := hF
  rw [h0] at hz hk
  exact ⟨by rw [e1]; exact hz, fun q h1 h2 => by rw [e1]; exact hk q h1 h2,
    ⟨Nat.le_trans hS.1 (by rw [e1]; exact hz), fun q h1 h2 => by rw [e1, hk q (Nat.lt_of_lt_of_le h1 hS.1) (fun z => h2 (hA q (Nat.lt_of_lt_of_le h1 hS.1) z))]; exact hS.2.1 q h1 h2, fun q hq => by
      rcases List.mem_append.mp hq with h | h
      · exact hS.2.2 q h
      · exact hf _ (hL q h)⟩⟩
theorem vx_calli {S SX : Type} {post : Int32 → S → Prop} {px : SX → Prop} {B : S → State → Prop} {BX : String → SX → State → Prop} {AX : Nat → Prop} (hr : vx_Run p l e R s m args below meth c H locs cells slots mc ms (F0 m pc ls st0) rest (va_Qi post B A1 a) (vx_X px BX AX) free) (hS : va_S A0 H0 H locs) (hA : ∀ q, q < H.size → A1 q → A0 q) (hf : ∀ q, free q → A0 q) (hAX : ∀ q, q < H.size → AX q → A0 q)
    (kx : ∀ (E : String) (ce : Cell) (q9 : Addr) (u : SX) (t : State) (H1 : Heap) (locs1 : List Loc), t.heap = H1 → s.vm.Alike t.vm → px u → BX E u t → H.size ≤ H1.size → (∀ q : Nat, q < H.size → ¬ AX q → H1[q]? = H[q]?) → va_S A0 H0 H1 locs1 → H1[q9]? = some ce → ce.vm = .none → s.vm.findClass E = some ce.cls → vx_W p l e R s m args below meth c H1 locs1 (cells + mc) (slots + ms) Q (F0 m pc ls rest) q9)
    (kk : ∀ (r : Int32) (u : S) (t : State) (H1 : Heap) (locs1 : List Loc), t.heap = H1 → s.vm.Alike t.vm → post r u → B u t → H.size ≤ H1.size → (∀ q : Nat, q < H.size → ¬ A1 q → H1[q]? = H[q]?) → va_S A0 H0 H1 locs1 → W p l e R s m args below meth c H1 locs1 (cells + mc) (slots + ms) Q (F0 m (pc + 3) ls (.int r :: rest))) : W p l e R s m args below meth c H locs cells slots Q (F0 m pc ls st0) := by
  intro T hT X
  rcases hr T hT X with ⟨v, st₀, t, T', L, h0, X', hL, e1, e2, ⟨⟨r, u, hv, hp, hb⟩, hF⟩, st⟩ | ⟨q, st₀, t, T', L, E, ce, h0, X', hL, e1, e2, ⟨u, hp, hb, hF⟩, hce, hcv, hcl, st⟩
  · cases hv
    obtain ⟨k1, k2, k3⟩ := vx_keep h0 e1 hS hA hf hL hF
    obtain ⟨t2, a1, b1⟩ := kk r u t T'.heap (locs ++ L) e1.symm (by rw [← e2]; exact X'.warmed.alike) hp hb k1 k2 k3 T' rfl X'
    exact ⟨t2, st t2 a1, b1⟩
  · obtain ⟨k1, k2, k3⟩ := vx_keep h0 e1 hS hAX hf hL hF
    obtain ⟨t2, a1, b1⟩ := kx E ce q u t T'.heap (locs ++ L) e1.symm (by rw [← e2]; exact X'.warmed.alike) hp hb k1 k2 k3 (by rw [e1]; exact hce) hcv hcl T' rfl X'
    exact ⟨t2, st.trans a1, b1⟩
theorem vx_calll {S SX : Type} {post : Int64 → S → Prop} {px : SX → Prop} {B : S → State → Prop} {BX : String → SX → State → Prop} {AX : Nat → Prop} (hr : vx_Run p l e R s m args below meth c H locs cells slots mc ms (F0 m pc ls st0) rest (va_Ql post B A1 a) (vx_X px BX AX) free) (hS : va_S A0 H0 H locs) (hA : ∀ q, q < H.size → A1 q → A0 q) (hf : ∀ q, free q → A0 q) (hAX : ∀ q, q < H.size → AX q → A0 q)
    (kx : ∀ (E : String) (ce : Cell) (q9 : Addr) (u : SX) (t : State) (H1 : Heap) (locs1 : List Loc), t.heap = H1 → s.vm.Alike t.vm → px u → BX E u t → H.size ≤ H1.size → (∀ q : Nat, q < H.size → ¬ AX q → H1[q]? = H[q]?) → va_S A0 H0 H1 locs1 → H1[q9]? = some ce → ce.vm = .none → s.vm.findClass E = some ce.cls → vx_W p l e R s m args below meth c H1 locs1 (cells + mc) (slots + ms) Q (F0 m pc ls rest) q9)
    (kk : ∀ (r : Int64) (u : S) (t : State) (H1 : Heap) (locs1 : List Loc), t.heap = H1 → s.vm.Alike t.vm → post r u → B u t → H.size ≤ H1.size → (∀ q : Nat, q < H.size → ¬ A1 q → H1[q]? = H[q]?) → va_S A0 H0 H1 locs1 → W p l e R s m args below meth c H1 locs1 (cells + mc) (slots + ms) Q (F0 m (pc + 3) ls (.long r :: rest))) : W p l e R s m args below meth c H locs cells slots Q (F0 m pc ls st0) := by
  intro T hT X
  rcases hr T hT X with ⟨v, st₀, t, T', L, h0, X', hL, e1, e2, ⟨⟨r, u, hv, hp, hb⟩, hF⟩, st⟩ | ⟨q, st₀, t, T', L, E, ce, h0, X', hL, e1, e2, ⟨u, hp, hb, hF⟩, hce, hcv, hcl, st⟩
  · cases hv
    obtain ⟨k1, k2, k3⟩ := vx_keep h0 e1 hS hA hf hL hF
    obtain ⟨t2, a1, b1⟩ := kk r u t T'.heap (locs ++ L) e1.symm (by rw [← e2]; exact X'.warmed.alike) hp hb k1 k2 k3 T' rfl X'
    exact ⟨t2, st t2 a1, b1⟩
  · obtain ⟨k1, k2, k3⟩ := vx_keep h0 e1 hS hAX hf hL hF
    obtain ⟨t2, a1, b1⟩ := kx E ce q u t T'.heap (locs ++ L) e1.symm (by rw [← e2]; exact X'.warmed.alike) hp hb k1 k2 k3 (by rw [e1]; exact hce) hcv hcl T' rfl X'
    exact ⟨t2, st.trans a1, b1⟩
theorem vx_callf {S SX : Type} {post : UInt32 → S → Prop} {px : SX → Prop} {B : S → State → Prop} {BX : String → SX → State → Prop} {AX : Nat → Prop} (hr : vx_Run p l e R s m args below meth c H locs cells slots mc ms (F0 m pc ls st0) rest (va_Qf post B A1 a) (vx_X px BX AX) free) (hS : va_S A0 H0 H locs) (hA : ∀ q, q < H.size → A1 q → A0 q) (hf : ∀ q, free q → A0 q) (hAX : ∀ q, q < H.size → AX q → A0 q)
    (kx : ∀ (E : String) (ce : Cell) (q9 : Addr) (u : SX) (t : State) (H1 : Heap) (locs1 : List Loc), t.heap = H1 → s.vm.Alike t.vm → px u → BX E u t → H.size ≤ H1.size → (∀ q : Nat, q < H.size → ¬ AX q → H1[q]? = H[q]?) → va_S A0 H0 H1 locs1 → H1[q9]? = some ce → ce.vm = .none → s.vm.findClass E = some ce.cls → vx_W p l e R s m args below meth c H1 locs1 (cells + mc) (slots + ms) Q (F0 m pc ls rest) q9)
    (kk : ∀ (r : UInt32) (u : S) (t : State) (H1 : Heap) (locs1 : List Loc), t.heap = H1 → s.vm.Alike t.vm → post r u → B u t → H.size ≤ H1.size → (∀ q : Nat, q < H.size → ¬ A1 q → H1[q]? = H[q]?) → va_S A0 H0 H1 locs1 → W p l e R s m args below meth c H1 locs1 (cells + mc) (slots + ms) Q (F0 m (pc + 3) ls (.float r :: rest))) : W p l e R s m args below meth c H locs cells slots Q (F0 m pc ls st0) := by
  intro T hT X
  rcases hr T hT X with ⟨v, st₀, t, T', L, h0, X', hL, e1, e2, ⟨⟨r, u, hv, hp, hb⟩, hF⟩, st⟩ | ⟨q, st₀, t, T', L, E, ce, h0, X', hL, e1, e2, ⟨u, hp, hb, hF⟩, hce, hcv, hcl, st⟩
  · cases hv
    obtain ⟨k1, k2, k3⟩ := vx_keep h0 e1 hS hA hf hL hF
    obtain ⟨t2, a1, b1⟩ := kk r u t T'.heap (locs ++ L) e1.symm (by rw [← e2]; exact X'.warmed.alike) hp hb k1 k2 k3 T' rfl X'
    exact ⟨t2, st t2 a1, b1⟩
  · obtain ⟨k1, k2, k3⟩ := vx_keep h0 e1 hS hAX hf hL hF
    obtain ⟨t2, a1, b1⟩ := kx E ce q u t T'.heap (locs ++ L) e1.symm (by rw [← e2]; exact X'.warmed.alike) hp hb k1 k2 k3 (by rw [e1]; exact hce) hcv hcl T' rfl X'
    exact ⟨t2, st.trans a1, b1⟩
theorem vx_calld {S SX : Type} {post : UInt64 → S → Prop} {px : SX → Prop} {B : S → State → Prop} {BX : String → SX → State → Prop} {AX : Nat → Prop} (hr : vx_Run p l e R s m args below meth c H locs cells slots mc ms (F0 m pc ls st0) rest (va_Qd post B A1 a) (vx_X px BX AX) free) (hS : va_S A0 H0 H locs) (hA : ∀ q, q < H.size → A1 q → A0 q) (hf : ∀ q, free q → A0 q) (hAX : ∀ q, q < H.size → AX q → A0 q)
    (kx : ∀ (E : String) (ce : Cell) (q9 : Addr) (u : SX) (t : State) (H1 : Heap) (locs1 : List Loc), t.heap = H1 → s.vm.Alike t.vm → px u → BX E u t → H.size ≤ H1.size → (∀ q : Nat, q < H.size → ¬ AX q → H1[q]? = H[q]?) → va_S A0 H0 H1 locs1 → H1[q9]? = some ce → ce.vm = .none → s.vm.findClass E = some ce.cls → vx_W p l e R s m args below meth c H1 locs1 (cells + mc) (slots + ms) Q (F0 m pc ls rest) q9)
    (kk : ∀ (r : UInt64) (u : S) (t : State) (H1 : Heap) (locs1 : List Loc), t.heap = H1 → s.vm.Alike t.vm → post r u → B u t → H.size ≤ H1.size → (∀ q : Nat, q < H.size → ¬ A1 q → H1[q]? = H[q]?) → va_S A0 H0 H1 locs1 → W p l e R s m args below meth c H1 locs1 (cells + mc) (slots + ms) Q (F0 m (pc + 3) ls (.double r :: rest))) : W p l e R s m args below meth c H locs cells slots Q (F0 m pc ls st0) := by
  intro T hT X
  rcases hr T hT X with ⟨v, st₀, t, T', L, h0, X', hL, e1, e2, ⟨⟨r, u, hv, hp, hb⟩, hF⟩, st⟩ | ⟨q, st₀, t, T', L, E, ce, h0, X', hL, e1, e2, ⟨u, hp, hb, hF⟩, hce, hcv, hcl, st⟩
  · cases hv
    obtain ⟨k1, k2, k3⟩ := vx_keep h0 e1 hS hA hf hL hF
    obtain ⟨t2, a1, b1⟩ := kk r u t T'.heap (locs ++ L) e1.symm (by rw [← e2]; exact X'.warmed.alike) hp hb k1 k2 k3 T' rfl X'
    exact ⟨t2, st t2 a1, b1⟩
  · obtain ⟨k1, k2, k3⟩ := vx_keep h0 e1 hS hAX hf hL hF
    obtain ⟨t2, a1, b1⟩ := kx E ce q u t T'.heap (locs ++ L) e1.symm (by rw [← e2]; exact X'.warmed.alike) hp hb k1 k2 k3 (by rw [e1]; exact hce) hcv hcl T' rfl X'
    exact ⟨t2, st.trans a1, b1⟩
theorem vx_callv {S SX : Type} {post : S → Prop} {px : SX → Prop} {B : S → State → Prop} {BX : String → SX → State → Prop} {AX : Nat → Prop} (hr : vx_Run p l e R s m args below meth c H locs cells slots mc ms (F0 m pc ls st0) rest (va_Qv post B A1 a) (vx_X px BX AX) free) (hS : va_S A0 H0 H locs) (hA : ∀ q, q < H.size → A1 q → A0 q) (hf : ∀ q, free q → A0 q) (hAX : ∀ q, q < H.size → AX q → A0 q)
    (kx : ∀ (E : String) (ce : Cell) (q9 : Addr) (u : SX) (t : State) (H1 : Heap) (locs1 : List Loc), t.heap = H1 → s.vm.Alike t.vm → px u → BX E u t → H.size ≤ H1.size → (∀ q : Nat, q < H.size → ¬ AX q → H1[q]? = H[q]?) → va_S A0 H0 H1 locs1 → H1[q9]? = some ce → ce.vm = .none → s.vm.findClass E = some ce.cls → vx_W p l e R s m args below meth c H1 locs1 (cells + mc) (slots + ms) Q (F0 m pc ls rest) q9)
    (kk : ∀ (u : S) (t : State) (H1 : Heap) (locs1 : List Loc), t.heap = H1 → s.vm.Alike t.vm → post u → B u t → H.size ≤ H1.size → (∀ q : Nat, q < H.size → ¬ A1 q → H1[q]? = H[q]?) → va_S A0 H0 H1 locs1 → W p l e R s m args below meth c H1 locs1 (cells + mc) (slots + ms) Q (F0 m (pc + 3) ls (rest))) : W p l e R s m args below meth c H locs cells slots Q (F0 m pc ls st0) := by
  intro T hT X
  rcases hr T hT X with ⟨v, st₀, t, T', L, h0, X', hL, e1, e2, ⟨⟨u, hv, hp, hb⟩, hF⟩, st⟩ | ⟨q, st₀, t, T', L, E, ce, h0, X', hL, e1, e2, ⟨u, hp, hb, hF⟩, hce, hcv, hcl, st⟩
  · cases hv
    obtain ⟨k1, k2, k3⟩ := vx_keep h0 e1 hS hA hf hL hF
    obtain ⟨t2, a1, b1⟩ := kk u t T'.heap (locs ++ L) e1.symm (by rw [← e2]; exact X'.warmed.alike) hp hb k1 k2 k3 T' rfl X'
    exact ⟨t2, st t2 a1, b1⟩
  · obtain ⟨k1, k2, k3⟩ := vx_keep h0 e1 hS hAX hf hL hF
    obtain ⟨t2, a1, b1⟩ := kx E ce q u t T'.heap (locs ++ L) e1.symm (by rw [← e2]; exact X'.warmed.alike) hp hb k1 k2 k3 (by rw [e1]; exact hce) hcv hcl T' rfl X'
    exact ⟨t2, st.trans a1, b1⟩
/-- caught by the row x of this method's table; the rows ahead don't take it -/
theorem vx_catch {own name : String} {E : String} {ce : Cell} {q : Addr} (hown : s.vm.findClass own = some m.cls) (pre : List ExceptionTableEntry) (x : ExceptionTableEntry) (suf : List ExceptionTableEntry) (hsplit : c.exceptionTable.toList = pre ++ x :: suf)
    (hpass : ∀ z ∈ pre, covers z pc = false ∨ (z.catchType ≠ 0 ∧ ∃ nm : String, (Cond.classLink own z.catchType nm).before args s = true ∧ va_Nc E nm s)) (hx : covers x pc = true) (h0 : x.catchType ≠ 0)
    (hlink : (Cond.classLink own x.catchType name).before args s = true) (hcast : (Cond.castable E name).before args s = true) (hcell : H[q]? = some ce) (hv : ce.vm = .none) (hcl : s.vm.findClass E = some ce.cls)
    (kk : W p l e R s m args below meth c H locs cells slots Q (F0 m x.handlerPc ls [.ref q])) : vx_W p l e R s m args below meth c H locs cells slots Q (F0 m pc ls rest) q := by
  intro T hT X
  have hpl : e.platform.magicAccessors = ({} : Platform).magicAccessors := by rw [X.admits.platform]
  obtain ⟨c3, c4, hc3, hc4, hasg⟩ := Cond.castable_spec hcast
  cases Option.some.inj (hc3.symm.trans hcl)
  obtain ⟨c5, hc5, hcl5⟩ := Cond.classLink_spec hown hlink e.platform hpl
  cases Option.some.inj (hc4.symm.trans hc5)
  obtain ⟨vm', X', st⟩ := X.thenCaughtThrough q (g := F0 m pc ls rest) rfl (Steps.refl _) (by rw [hT]; exact hcell) (by rw [hv]; rfl) (by obtain ⟨k9, h9, -⟩ := Vm.findClass_spec hcl; exact ⟨k9, h9⟩) pre x suf hsplit
    (fun z hz => by
      rcases hpass z hz with h | ⟨hz0, nm, hl1, hn1⟩
      · exact Or.inl h
      · obtain ⟨c6, hc6, hcl6⟩ := Cond.classLink_spec hown hl1 e.platform hpl
        obtain ⟨a8, b8, h1, h2, h3⟩ := hn1
        cases Option.some.inj (h1.symm.trans hcl)
        cases Option.some.inj (h2.symm.trans hc6)
        exact Or.inr ⟨hz0, _, hcl6, h3⟩) hx (Or.inr ⟨h0, c4, hcl5, hasg⟩)
  obtain ⟨t, a1, b1⟩ := kk (T.setVm vm') hT X'
  exact ⟨t, st.trans a1, b1⟩
end Rows
section Ends
variable {p : Program} {l : Launch} {e : Env} {R : Room} {s : State} {m : MethodId} {args : Array Value} {below : List Frame} {meth : Method} {c : Code} {H : Heap} {locs : List Loc} {cells slots : Nat} {Q : State → Prop}
variable {mc ms : Nat} {free : Addr → Prop} {A0 A1 : Nat → Prop} {H0 : Heap} {a : Array Value} {ls : Array Slot} {st0 rest : List Value}
variable {Qc : Array Value → State → Outcome → State → Prop} {XC : String → State → State → Prop}
/-- what a body that may throw owes at its end -/
def vx_MQ (below : List Frame) (Qc : Array Value → State → Outcome → State → Prop) (XC : String → State → State → Prop) (a : Array Value) (s : State) (mc ms : Nat) (free : Addr → Prop) : State → Prop := fun t =>
  ∃ o, t.status = .running ∧ Ended t below o ∧ vx_Q Qc XC mc ms free a s o t
theorem vx_ret {g : JFrame} {mc ms : Nat} (k : W p l e R s m args below meth c H locs cells slots (MQ below Qc args s mc ms free) g) : W p l e R s m args below meth c H locs cells slots (vx_MQ below Qc XC args s mc ms free) g := by
  intro T hT X
  obtain ⟨t, a1, o, b1, b2, b3, b4⟩ := k T hT X
  exact ⟨t, a1, o, b1, b2, Or.inl ⟨b3, b4⟩⟩
/-- not caught here: it goes on to the caller -/
theorem vx_widen {g : JFrame} {q : Addr} {k n : Nat} (h1 : cells ≤ k) (h2 : slots ≤ n) (kk : vx_W p l e R s m args below meth c H locs k n Q g q) : vx_W p l e R s m args below meth c H locs cells slots Q g q := fun T hT X => kk T hT (stand_widen X h1 h2)
theorem vx_out {pc : Nat} {E : String} {ce : Cell} {q : Addr} {mc ms : Nat} (hout : ∀ x ∈ c.exceptionTable.toList, covers x pc = false) (hlocks : meth.locks = false) (hcell : H[q]? = some ce) (hv : ce.vm = .none) (hcl : s.vm.findClass E = some ce.cls)
    (hx : ∀ t : State, t.heap = H → s.vm.Alike t.vm → XC E s t) (hf : ∀ z ∈ locs, free z.base) (hc : cells ≤ mc) (hs : slots ≤ ms) :
    vx_W p l e R s m args below meth c H locs cells slots (vx_MQ below Qc XC args s mc ms free) (F0 m pc ls rest) q := by
  intro T hT X
  obtain ⟨st1, hrun, hend, hW, hsm⟩ := X.leaveThrown q (g := F0 m pc ls rest) rfl rfl rfl hout hlocks
  have hcell9 : (T.setFrames (.throwing q :: below)).heap[q]? = some ce := by
    show T.heap[q]? = some ce
    rw [hT]; exact hcell
  exact ⟨_, st1, .threw q, hrun, hend, Or.inr ⟨q, rfl, E, ce, locs, hx _ hT hW.alike, hcell9, hv, hcl, hW, hsm.mono hc hs, hf⟩⟩
theorem vx_frame {U : State} {k n : Nat} (h : s.sameButNew ({ U with vm := s.vm } : State) locs k n) : s.heap.size ≤ U.heap.size ∧ ∀ q : Nat, q < s.heap.size → (∀ z ∈ locs, z.base ≠ q) → U.heap[q]? = s.heap[q]? := by
  obtain ⟨-, h2, -, -, -, h6⟩ := h
  refine ⟨h2, fun q hq hz => ?_⟩
  obtain ⟨c9, e1, e2, e3, e4⟩ := h6 q _ (Array.getElem?_eq_getElem hq)
  have hs : c9.slots = (s.heap[q]).slots := Array.ext_getElem? fun i => e4 i fun hm => hz _ hm rfl
  have h9 : c9 = s.heap[q] := by
    rw [hs] at e2
    exact e2
  have e5 : U.heap[q]? = some c9 := e1
  rw [e5, h9, Array.getElem?_eq_getElem hq]
/-- the words of a throw but the four that speak of the heap -/
def vx_no (w : Cond) : Bool := decide (w ≠ .isRef (.static Bundle.tN "UNASSIGNED_STACK" Bundle.steD)) && decide (w ≠ .isRef (.static Bundle.tN "SUPPRESSED_SENTINEL" Bundle.listD)) && decide (w ≠ .laysStatic Bundle.tN "UNASSIGNED_STACK" Bundle.steD) && decide (w ≠ .laysStatic Bundle.tN "SUPPRESSED_SENTINEL" Bundle.listD)
def vx_at0 (own : String) (ic : Nat) (X : String) (names : List String) : List Cond := (Bundle.ownAtoms0 own ic X names).filter vx_no
def vx_atS (own : String) (ic : Nat) (X : String) (names : List String) : List Cond := (Bundle.ownAtoms own ic X names).filter vx_no
/-- a word that the tables alone decide, or a good one -/
def vx_ot (w : Cond) : Bool := w.onTables || goodWord w
theorem vx_ot_at {args a' : Array Value} {s U : State} {w : Cond} (hW : s.WarmedH U.vm) (hvm : s.vm = U.vm) (hg : vx_ot w = true) (h : w.before args s = true) : w.before a' U = true := by
  simp only [vx_ot, Bool.or_eq_true] at hg
  rcases hg with hg | hg
  · exact va_tabs hg hvm h
  · exact word_at hW (good_of_word hg) h
/-- a list's words: the good ones out of the method's own list, the others by premises of their own -/
theorem vx_hat {args : Array Value} {s : State} {L B : List Cond} (h1 : ∀ w ∈ L.filter goodWord, w.before args s = true) (h2 : ∀ w ∈ L.filter (fun w => !goodWord w), w ∈ B) (h3 : ∀ w ∈ B, w.before args s = true) : ∀ w ∈ L, w.before args s = true := by
  intro w hw
  by_cases g : goodWord w = true
  · exact h1 w (List.mem_filter.mpr ⟨hw, g⟩)
  · refine h3 w (h2 w (List.mem_filter.mpr ⟨hw, ?_⟩))
    show (!goodWord w) = true
    cases hgw : goodWord w
    · rfl
    · exact absurd hgw g
theorem vx_c {args : Array Value} {s : State} {w : Cond} {B : List Cond} (h : w.before args s = true) (t : ∀ w ∈ B, w.before args s = true) : ∀ w' ∈ w :: B, w'.before args s = true := fun w' h' => (List.mem_cons.mp h').elim (fun e => by rw [e]; exact h) (t w')
theorem vx_n {args : Array Value} {s : State} : ∀ w ∈ ([] : List Cond), w.before args s = true := fun _ h => nomatch h
theorem vx_own {args : Array Value} {s : State} {L : List Cond} (h1 : ∀ w ∈ L.filter vx_no, w.before args s = true)
    (hU : (Cond.isRef (.static Bundle.tN "UNASSIGNED_STACK" Bundle.steD)).before args s = true) (hN : (Cond.isRef (.static Bundle.tN "SUPPRESSED_SENTINEL" Bundle.listD)).before args s = true)
    (lU : (Cond.laysStatic Bundle.tN "UNASSIGNED_STACK" Bundle.steD).before args s = true) (lN : (Cond.laysStatic Bundle.tN "SUPPRESSED_SENTINEL" Bundle.listD).before args s = true) : ∀ w ∈ L, w.before args s = true := by
  intro w hw
  by_cases e1 : w = .isRef (.static Bundle.tN "UNASSIGNED_STACK" Bundle.steD)
  · rw [e1]; exact hU
  · by_cases e2 : w = .isRef (.static Bundle.tN "SUPPRESSED_SENTINEL" Bundle.listD)
    · rw [e2]; exact hN
    · by_cases e3 : w = .laysStatic Bundle.tN "UNASSIGNED_STACK" Bundle.steD
      · rw [e3]; exact lU
      · by_cases e4 : w = .laysStatic Bundle.tN "SUPPRESSED_SENTINEL" Bundle.listD
        · rw [e4]; exact lN
        · exact h1 w (List.mem_filter.mpr ⟨hw, by unfold vx_no; rw [decide_eq_true e1, decide_eq_true e2, decide_eq_true e3, decide_eq_true e4]; rfl⟩)
/-- where a static field lies, its class's statics cell in H -/
def vx_L (C n d : String) (A : Nat → Prop) (U : State) (H : Heap) : Prop := ∃ (c : ClassId) (k : Class) (i : Nat) (f : Field) (a : Nat) (cell : Cell), U.vm.findClass C = some c ∧ U.fieldFound? C n d = some (c, k, i, f) ∧ f.isStatic = true ∧ k.statics = some a ∧ H[a]? = some cell ∧ cell.vm.isStatics = true ∧ cell.cls = c ∧ f.slot < cell.slots.size ∧ k.staticTypes[f.slot]? = some f.type ∧ ¬ A a
theorem vx_L.moved {C n d : String} {A : Nat → Prop} {u U : State} {H : Heap} (hvm : u.vm.Alike U.vm) (h : vx_L C n d A u H) : vx_L C n d A U H := by
  obtain ⟨c, k, i, f, a, cell, h1, h2, h3, h4, h5, h6, h7, h8, h9, h10⟩ := h
  obtain ⟨k', hi', he⟩ := State.fieldFound?_setVm hvm h2
  exact ⟨c, k', i, f, a, cell, by rw [hvm.findClass]; exact h1, hi', h3, by rw [he]; exact h4, h5, h6, h7, h8, by rw [he]; exact h9, h10⟩
theorem vx_L.kept {C n d : String} {A : Nat → Prop} {U : State} {H H1 : Heap} (h : vx_L C n d A U H) (hq : ∀ a : Nat, a < H.size → ¬ A a → H1[a]? = H[a]?) : vx_L C n d A U H1 := by
  obtain ⟨c, k, i, f, a, cell, h1, h2, h3, h4, h5, h6, h7, h8, h9, h10⟩ := h
  exact ⟨c, k, i, f, a, cell, h1, h2, h3, h4, by rw [hq a (Array.getElem?_eq_some_iff.mp h5).1 h10]; exact h5, h6, h7, h8, h9, h10⟩
theorem vx_L.narrow {C n d : String} {A B : Nat → Prop} {U : State} {H : Heap} (h : vx_L C n d A U H) (hAB : ∀ q, B q → A q) : vx_L C n d B U H := by
  obtain ⟨c, k, i, f, a, cell, h1, h2, h3, h4, h5, h6, h7, h8, h9, h10⟩ := h
  exact ⟨c, k, i, f, a, cell, h1, h2, h3, h4, h5, h6, h7, h8, h9, fun z => h10 (hAB _ z)⟩
theorem vx_L.word {C n d : String} {A : Nat → Prop} {s : State} {args : Array Value} (h : vx_L C n d A s s.heap) : (Cond.laysStatic C n d).before args s = true := by
  obtain ⟨c, k, i, f, a, cell, h1, h2, h3, h4, h5, h6, h7, h8, h9, -⟩ := h
  show (Cond.laysStatic C n d).holds args s none s [] = true
  exact Cond.laysStatic_of h1 h2 h3 h4 h5 h6 h7 h8 h9
/-- .. and what it holds: null or some reference -/
def vx_Zq (C n d : String) (A : Nat → Prop) (U : State) (H : Heap) : Prop := va_Zq C n d A U H ∧ vx_L C n d A U H
theorem vx_Zq.moved {C n d : String} {A : Nat → Prop} {u U : State} {H : Heap} (hvm : u.vm.Alike U.vm) (h : vx_Zq C n d A u H) : vx_Zq C n d A U H := ⟨va_Zq.moved hvm h.1, vx_L.moved hvm h.2⟩
theorem vx_Zq.kept {C n d : String} {A : Nat → Prop} {U : State} {H H1 : Heap} (h : vx_Zq C n d A U H) (hq : ∀ a : Nat, a < H.size → ¬ A a → H1[a]? = H[a]?) : vx_Zq C n d A U H1 := ⟨va_Zq.kept h.1 hq, vx_L.kept h.2 hq⟩
theorem vx_Zq.narrow {C n d : String} {A B : Nat → Prop} {U : State} {H : Heap} (h : vx_Zq C n d A U H) (hAB : ∀ q, B q → A q) : vx_Zq C n d B U H := ⟨va_Zq.narrow h.1 hAB, vx_L.narrow h.2 hAB⟩
theorem vx_Zqof {args : Array Value} {s : State} {C n d : String} {A : Nat → Prop} (hl : (Cond.laysStatic C n d).before args s = true) (hini : (Cond.initialized C).before args s = true) (h : (Cond.isRef (.static C n d)).before args s = true) (hA : ∀ a : Nat, a < s.heap.size → ¬ A a) : vx_Zq C n d A s s.heap := by
  refine ⟨va_Zqof hl hini h hA, ?_⟩
  obtain ⟨c, k, i, f, a, cell, h1, h2, h3, h4, h5, h6, h7, h8, h9⟩ := Cond.laysStatic_spec hl
  exact ⟨c, k, i, f, a, cell, h1, h2, h3, h4, h5, h6, h7, h8, h9, hA a (Array.getElem?_eq_some_iff.mp h5).1⟩
theorem vx_isRef {C n d : String} {v : Value} {A : Nat → Prop} {s : State} {args : Array Value} (h : va_Z C n d v A s s.heap) (hv : v.isRef = true) : (Cond.isRef (.static C n d)).before args s = true := by
  obtain ⟨cf, kf, fi, f, a, cell, h1, h2, h3, h4, h5, h6, h7, -⟩ := h
  have he : (Term.static C n d).eval args s none [] s = some v := by
    simp [Term.eval, State.fieldNamed?, h1, h2, h4, h5, h6, h7]
  simp only [Cond.before, Cond.holds, Cond.value, he]
  cases v <;> simp_all [Value.isRef]
theorem vx_isRefq {C n d : String} {A : Nat → Prop} {s : State} {args : Array Value} (h : va_Zq C n d A s s.heap) : (Cond.isRef (.static C n d)).before args s = true := by
  rcases h with h | ⟨t, h⟩
  · exact vx_isRef h rfl
  · exact vx_isRef h rfl
/-- the same frame, seen from here: as if the method were called anew in this heap -/
theorem vx_rebase {T : State} (X : Stand p l e R s m args below meth c T locs cells slots) {R' : Room} (hf : R'.frames ≤ R.frames) (hl : R'.locals ≤ R.locals) (hc : cells + R'.cells ≤ R.cells) (hs : slots + R'.slots ≤ R.slots) :
    Stand p l e R' ((T.setVm s.vm).setFrames (.invoking m args :: below)) m args below meth c T [] 0 0 := by
  have htop : (T.setVm s.vm).topJava?.isSome := X.here.top
  have hF : ((T.setVm s.vm).setFrames (.invoking m args :: below)).frames = .invoking m args :: below := State.frames_setFrames _ (State.cur_lt_of_top htop)
  obtain ⟨g₀, hg0⟩ := Option.isSome_iff_exists.mp htop
  obtain ⟨r, hr⟩ := State.topJava?_eq_some.mp hg0
  have hl9 : e.platform.stackLimits (T.setVm s.vm).me = e.platform.stackLimits s.me := X.limits
  have hb9 : (T.setVm s.vm).me.stackBytes = s.me.stackBytes := X.bytes
  refine ⟨X.admits, X.cas, X.clock, hF, ?_, X.hears, X.method, X.code, X.here, X.tail, X.warmed, ?_, ?_, ?_⟩
  · have h := X.room
    have hU : ((T.setVm s.vm).setFrames (.invoking m args :: below)).localsInUse = s.localsInUse := by
      rw [State.localsInUse_invoking hF (meth := meth) (c := c) X.method X.code, State.localsInUse_invoking X.frames X.method X.code]
    simp only [State.hasRoom, Bool.and_eq_true, decide_eq_true_eq] at h ⊢
    obtain ⟨⟨⟨⟨h1, h2, h3, h4, h5, h6⟩, h7⟩, h8⟩, h9⟩ := h
    rw [X.frames, List.length_cons] at h2 h3
    have q1 := X.heapSize
    have q2 := X.used
    simp only [hF, hU, List.length_cons, State.stackLimits_setFrames, State.stackBytes_setFrames, hl9, hb9]
    refine ⟨⟨⟨⟨by omega, by omega, by omega, by omega, by omega, h6⟩, ?_⟩, ?_⟩, X.book⟩
    · show T.heap.size + R'.cells ≤ e.platform.maxCells
      omega
    · show T.slotsUsed + R'.slots ≤ e.platform.maxSlots
      omega
  · rw [State.stackLimits_setFrames]; rfl
  · rw [State.stackBytes_setFrames]; rfl
  · refine ⟨?_, Nat.le_refl _, Nat.le_refl _, ?_, ?_, fun a c9 h9 => ⟨c9, h9, rfl, rfl, fun _ _ => rfl⟩⟩
    · obtain ⟨t, ht, -⟩ := State.frames_cons hr
      show T.setVm s.vm = { ((T.setVm s.vm).setFrames (.invoking m args :: below)).setFrames (T.setVm s.vm).frames with heap := T.heap, slotsUsed := T.slotsUsed }
      rw [State.setFrames_setFrames, State.setFrames_self ht]
      rfl
    · show T.slotsUsed = T.slotsUsed + ((T.heap.toList.drop T.heap.size).map (·.slots.size)).sum
      rw [List.drop_eq_nil_of_le (Nat.le_of_eq Array.length_toList)]
      rfl
    · show ((T.heap.toList.drop T.heap.size).map (·.slots.size)).sum ≤ 0
      rw [List.drop_eq_nil_of_le (Nat.le_of_eq Array.length_toList)]
      exact Nat.le_refl _
/-- 'throw new E()': new; dup; invokespecial; athrow -/
theorem vx_throw0 {cc : ByteArray} {pc : Nat} (hexec : p.tables.exec = Jvm.exec) (hb : c.code = cc) (hl : l.stackTraces = false) {own cls : String} {names : List String} {ik ic mc ms : Nat} {A : Nat → Prop}
    (hown : s.vm.findClass own = some m.cls) (hcls : Bundle.fit cls = true) (hnames : ∀ n ∈ names, Bundle.fit n = true)
    (hk : (Cond.classLink own ik cls).before args s = true) (hini : (Cond.initialized cls).before args s = true) (hat : ∀ w ∈ vx_at0 own ic cls names, w.before args s = true)
    (hgood : ∀ w ∈ Cond.classLink own ik cls :: Cond.initialized cls :: vx_at0 own ic cls names, vx_ot w = true)
    (hU : vx_Zq Bundle.tN "UNASSIGNED_STACK" Bundle.steD A s s.heap) (hN : vx_Zq Bundle.tN "SUPPRESSED_SENTINEL" Bundle.listD A s s.heap) (hS : va_S A s.heap H locs) (hsize : ls.size = c.maxLocals)
    (d0 : decode cc pc = .ok (.new ik, 3)) (d3 : decode cc (pc + 3) = .ok (.dup, 1)) (d4 : decode cc (pc + 4) = .ok (.invokespecial ic, 3)) (d7 : decode cc (pc + 7) = .ok (.athrow, 1))
    (hout : ∀ x ∈ c.exceptionTable.toList, covers x (pc + 7) = false)
    (hRframes : names.length + 3 < R.frames) (hRlocals : (rest.map fun v => v.category).sum + (13 * (names.length + 1) + 42) ≤ R.locals) (hRcells : cells + 1 ≤ R.cells) (hRslots : slots + 6 ≤ R.slots) (hlocks : meth.locks = false)
    (hx : ∀ t : State, s.vm.Alike t.vm → H.size ≤ t.heap.size → (∀ q : Nat, q < H.size → t.heap[q]? = H[q]?) → XC cls s t)
    (hf : ∀ z ∈ locs, free z.base) (hc : cells + 1 ≤ mc) (hs : slots + 6 ≤ ms) :
    W p l e R s m args below meth c H locs cells slots (vx_MQ below Qc XC args s mc ms free) (F0 m pc ls rest) := by
  intro T hT X
  have htr : e.platform.stackTraces = false := (show e.platform.stackTraces = l.stackTraces by rw [X.admits.platform]).trans hl
  have Y := vx_rebase X (R' := { frames := R.frames, locals := R.locals, cells := 1, slots := 6 }) (Nat.le_refl _) (Nat.le_refl _) hRcells hRslots
  obtain ⟨s', hA⟩ : ∃ z, z = (T.setVm s.vm).setFrames (.invoking m args :: below) := ⟨_, rfl⟩
  rw [← hA] at Y
  have hvm : s'.vm = s.vm := by rw [hA]; rfl
  have hhp : s'.heap = H := by rw [hA]; exact hT
  have hW0 : s.WarmedH s'.vm := by rw [hvm]; exact State.WarmedH.refl s
  have hat' : ∀ w ∈ vx_at0 own ic cls names, w.before args s' = true := fun w hw => vx_ot_at hW0 hvm.symm (hgood w (List.mem_cons_of_mem _ (List.mem_cons_of_mem _ hw))) (hat w hw)
  have hk' : (Cond.classLink own ik cls).before args s' = true := vx_ot_at hW0 hvm.symm (hgood _ List.mem_cons_self) hk
  have hini' : (Cond.initialized cls).before args s' = true := vx_ot_at hW0 hvm.symm (hgood _ (List.mem_cons_of_mem _ List.mem_cons_self)) hini
  have hU' : vx_Zq Bundle.tN "UNASSIGNED_STACK" Bundle.steD A s' s'.heap := by rw [hhp]; exact vx_Zq.moved hW0.alike (hU.kept hS.2.1)
  have hN' : vx_Zq Bundle.tN "SUPPRESSED_SENTINEL" Bundle.listD A s' s'.heap := by rw [hhp]; exact vx_Zq.moved hW0.alike (hN.kept hS.2.1)
  have h : ∀ w ∈ Bundle.ownAtoms0 own ic cls names, w.before args s' = true := vx_own hat' (vx_isRefq hU'.1) (vx_isRefq hN'.1) hU'.2.word hN'.2.word
  have hown' : s'.vm.findClass own = some m.cls := by rw [hvm]; exact hown
  have hins : (Cond.instantiable cls 6).before args s' = true := h _ (by simp [Bundle.ownAtoms0])
  obtain ⟨vm₁, cX, kX, hfX, hkX, -, -, X₁, st1⟩ := Y.newCold hexec (own := own) (C := cls) (index := ik) (n := 6) hown' hk' hins hini'
    (g := F0 m pc ls rest) rfl (by rw [hb]; exact d0) (Nat.le_refl _) (Nat.le_refl _)
  generalize hT1 : (T.setVm vm₁).pushCell { cls := cX, slots := kX.instanceTypes.map defaultValue, vm := .none } = T1 at X₁ st1
  have hcat : (Value.ref T.heap.size).category = 1 := rfl
  have hcellA : T1.heap[T.heap.size]? = some (freshCell cX kX) := by rw [← hT1]; exact State.heap_pushCell_size _ _
  have d3' : decode c.code (pc + 3) = .ok (.dup, 1) := by rw [hb]; exact d3
  obtain ⟨U, hsteps, hrun, hend, hW, hsame, ce, hce, hO⟩ := X₁.ctorThrow0 hexec htr (own := own) (cls := cls) (names := names) (ic := ic) hown' hcls hnames h (fun x hx => nomatch hx) hfX hkX hcellA (by rw [hhp, hT]; exact Nat.le_refl _)
    (g := { method := m, pc := pc + 4, locals := ls, stack := .ref T.heap.size :: .ref T.heap.size :: rest, locked := none }) rfl hsize rfl rfl (rest := rest) rfl
    (by rw [hb]; exact d4) (by rw [hb]; exact d7) hout hRframes (by simp only [List.map_cons, List.sum_cons, hcat]; omega) hlocks
  obtain ⟨f1, f2⟩ := vx_frame hsame
  rw [hhp] at f1 f2
  have hWs : s.WarmedH U.vm := State.WarmedH.trans hW0 hW
  have hcl : s.vm.findClass cls = some ce.cls := by
    have h9 := hO.cls
    rw [hvm] at h9
    exact h9
  have hall : s.sameButNew ({ U with vm := s.vm } : State) locs mc ms := by
    subst hA
    obtain ⟨e1, e2⟩ := hsame
    rw [State.setFrames_setFrames] at e1
    have h2 : (T.setVm s.vm).sameButNew ({ U with vm := s.vm } : State) [] (0 + 1) (0 + 6) := ⟨e1, e2⟩
    have h3 := X.same.trans h2
    rw [List.append_nil] at h3
    exact h3.mono hc hs
  refine ⟨U, ?_, .threw T.heap.size, hrun, hend, Or.inr ⟨T.heap.size, rfl, cls, ce, locs, hx U hWs.alike f1 (fun q hq => f2 q hq (fun z hz => nomatch hz)), hce, hO.vm, hcl, hWs, hall, hf⟩⟩
  refine st1 _ ?_
  show Steps p.tables e below (T1.setTop { method := m, pc := pc + 3, locals := ls, stack := .ref T.heap.size :: rest, locked := none }) _
  jvm_step X₁.here [X₁.here.top, hexec, d3', Value.category]
  exact hsteps
/-- 'throw new E("text")': new; dup; ldc; invokespecial; athrow -/
theorem vx_throwS {cc : ByteArray} {pc : Nat} (hexec : p.tables.exec = Jvm.exec) (hb : c.code = cc) (hl : l.stackTraces = false) {own cls text : String} {names : List String} {ik is ic mc ms sa : Nat} {A : Nat → Prop}
    (hown : s.vm.findClass own = some m.cls) (hcls : Bundle.fit cls = true) (hnames : ∀ n ∈ names, Bundle.fit n = true)
    (hk : (Cond.classLink own ik cls).before args s = true) (hini : (Cond.initialized cls).before args s = true) (hstr : vk_R own is text sa s) (hat : ∀ w ∈ vx_atS own ic cls names, w.before args s = true)
    (hgood : ∀ w ∈ Cond.classLink own ik cls :: Cond.initialized cls :: vx_atS own ic cls names, vx_ot w = true)
    (hU : vx_Zq Bundle.tN "UNASSIGNED_STACK" Bundle.steD A s s.heap) (hN : vx_Zq Bundle.tN "SUPPRESSED_SENTINEL" Bundle.listD A s s.heap) (hS : va_S A s.heap H locs) (hsize : ls.size = c.maxLocals)
    (d0 : decode cc pc = .ok (.new ik, 3)) (d3 : decode cc (pc + 3) = .ok (.dup, 1)) (d4 : decode cc (pc + 4) = .ok (.ldc is, 2)) (d6 : decode cc (pc + 6) = .ok (.invokespecial ic, 3)) (d9 : decode cc (pc + 9) = .ok (.athrow, 1))
    (hout : ∀ x ∈ c.exceptionTable.toList, covers x (pc + 9) = false)
    (hRframes : names.length + 3 < R.frames) (hRlocals : (rest.map fun v => v.category).sum + (13 * (names.length + 1) + 43) ≤ R.locals) (hRcells : cells + 1 ≤ R.cells) (hRslots : slots + 6 ≤ R.slots) (hlocks : meth.locks = false)
    (hx : ∀ t : State, s.vm.Alike t.vm → H.size ≤ t.heap.size → (∀ q : Nat, q < H.size → t.heap[q]? = H[q]?) → XC cls s t)
    (hf : ∀ z ∈ locs, free z.base) (hc : cells + 1 ≤ mc) (hs : slots + 6 ≤ ms) :
    W p l e R s m args below meth c H locs cells slots (vx_MQ below Qc XC args s mc ms free) (F0 m pc ls rest) := by
  intro T hT X
  have htr : e.platform.stackTraces = false := (show e.platform.stackTraces = l.stackTraces by rw [X.admits.platform]).trans hl
  have Y := vx_rebase X (R' := { frames := R.frames, locals := R.locals, cells := 1, slots := 6 }) (Nat.le_refl _) (Nat.le_refl _) hRcells hRslots
  obtain ⟨s', hA⟩ : ∃ z, z = (T.setVm s.vm).setFrames (.invoking m args :: below) := ⟨_, rfl⟩
  rw [← hA] at Y
  have hvm : s'.vm = s.vm := by rw [hA]; rfl
  have hhp : s'.heap = H := by rw [hA]; exact hT
  have hW0 : s.WarmedH s'.vm := by rw [hvm]; exact State.WarmedH.refl s
  have hat' : ∀ w ∈ vx_atS own ic cls names, w.before args s' = true := fun w hw => vx_ot_at hW0 hvm.symm (hgood w (List.mem_cons_of_mem _ (List.mem_cons_of_mem _ hw))) (hat w hw)
  have hk' : (Cond.classLink own ik cls).before args s' = true := vx_ot_at hW0 hvm.symm (hgood _ List.mem_cons_self) hk
  have hini' : (Cond.initialized cls).before args s' = true := vx_ot_at hW0 hvm.symm (hgood _ (List.mem_cons_of_mem _ List.mem_cons_self)) hini
  have hU' : vx_Zq Bundle.tN "UNASSIGNED_STACK" Bundle.steD A s' s'.heap := by rw [hhp]; exact vx_Zq.moved hW0.alike (hU.kept hS.2.1)
  have hN' : vx_Zq Bundle.tN "SUPPRESSED_SENTINEL" Bundle.listD A s' s'.heap := by rw [hhp]; exact vx_Zq.moved hW0.alike (hN.kept hS.2.1)
  have h : ∀ w ∈ Bundle.ownAtoms own ic cls names, w.before args s' = true := vx_own hat' (vx_isRefq hU'.1) (vx_isRefq hN'.1) hU'.2.word hN'.2.word
  have hown' : s'.vm.findClass own = some m.cls := by rw [hvm]; exact hown
  have hins : (Cond.instantiable cls 6).before args s' = true := h _ (by simp [Bundle.ownAtoms])
  obtain ⟨vm₁, cX, kX, hfX, hkX, -, -, X₁, st1⟩ := Y.newCold hexec (own := own) (C := cls) (index := ik) (n := 6) hown' hk' hins hini'
    (g := F0 m pc ls rest) rfl (by rw [hb]; exact d0) (Nat.le_refl _) (Nat.le_refl _)
  generalize hT1 : (T.setVm vm₁).pushCell { cls := cX, slots := kX.instanceTypes.map defaultValue, vm := .none } = T1 at X₁ st1
  have hcat : (Value.ref T.heap.size).category = 1 := rfl
  have hcellA : T1.heap[T.heap.size]? = some (freshCell cX kX) := by rw [← hT1]; exact State.heap_pushCell_size _ _
  have d3' : decode c.code (pc + 3) = .ok (.dup, 1) := by rw [hb]; exact d3
  have d4' : decode c.code (pc + 4) = .ok (.ldc is, 2) := by rw [hb]; exact d4
  have hstr' : vk_R own is text sa s' := vk_R.warm hW0 hstr
  obtain ⟨U, hsteps, hrun, hend, hW, hsame, ce, hce, hO⟩ := X₁.ctorThrowS hexec htr (own := own) (cls := cls) (names := names) (ic := ic) hown' hcls hnames h (fun x hx => nomatch hx) hfX hkX hcellA (by rw [hhp, hT]; exact Nat.le_refl _) (msg := .ref sa) rfl
    (g := { method := m, pc := pc + 6, locals := ls, stack := .ref sa :: .ref T.heap.size :: .ref T.heap.size :: rest, locked := none }) rfl hsize rfl rfl (rest := rest) rfl
    (by rw [hb]; exact d6) (by rw [hb]; exact d9) hout hRframes (by simp only [List.map_cons, List.sum_cons, hcat]; omega) hlocks
  obtain ⟨f1, f2⟩ := vx_frame hsame
  rw [hhp] at f1 f2
  have hWs : s.WarmedH U.vm := State.WarmedH.trans hW0 hW
  have hcl : s.vm.findClass cls = some ce.cls := by
    have h9 := hO.cls
    rw [hvm] at h9
    exact h9
  have hall : s.sameButNew ({ U with vm := s.vm } : State) locs mc ms := by
    subst hA
    obtain ⟨e1, e2⟩ := hsame
    rw [State.setFrames_setFrames] at e1
    have h2 : (T.setVm s.vm).sameButNew ({ U with vm := s.vm } : State) [] (0 + 1) (0 + 6) := ⟨e1, e2⟩
    have h3 := X.same.trans h2
    rw [List.append_nil] at h3
    exact h3.mono hc hs
  refine ⟨U, ?_, .threw T.heap.size, hrun, hend, Or.inr ⟨T.heap.size, rfl, cls, ce, locs, hx U hWs.alike f1 (fun q hq => f2 q hq (fun z hz => nomatch hz)), hce, hO.vm, hcl, hWs, hall, hf⟩⟩
  refine st1 _ ?_
  show Steps p.tables e below (T1.setTop { method := m, pc := pc + 3, locals := ls, stack := .ref T.heap.size :: rest, locked := none }) _
  jvm_step X₁.here [X₁.here.top, hexec, d3', Value.category]
  exact X₁.ldcString hexec (own := own) (text := text) (index := is) (a := sa) hown' hstr'.1 hstr'.2
    (g := { method := m, pc := pc + 4, locals := ls, stack := .ref T.heap.size :: .ref T.heap.size :: rest, locked := none }) rfl d4' _ hsteps
/-- 'throw new E("text")', the text by a wide index -/
theorem vx_throwSW {cc : ByteArray} {pc : Nat} (hexec : p.tables.exec = Jvm.exec) (hb : c.code = cc) (hl : l.stackTraces = false) {own cls text : String} {names : List String} {ik is ic mc ms sa : Nat} {A : Nat → Prop}
    (hown : s.vm.findClass own = some m.cls) (hcls : Bundle.fit cls = true) (hnames : ∀ n ∈ names, Bundle.fit n = true)
    (hk : (Cond.classLink own ik cls).before args s = true) (hini : (Cond.initialized cls).before args s = true) (hstr : vk_R own is text sa s) (hat : ∀ w ∈ vx_atS own ic cls names, w.before args s = true)
    (hgood : ∀ w ∈ Cond.classLink own ik cls :: Cond.initialized cls :: vx_atS own ic cls names, vx_ot w = true)
    (hU : vx_Zq Bundle.tN "UNASSIGNED_STACK" Bundle.steD A s s.heap) (hN : vx_Zq Bundle.tN "SUPPRESSED_SENTINEL" Bundle.listD A s s.heap) (hS : va_S A s.heap H locs) (hsize : ls.size = c.maxLocals)
    (d0 : decode cc pc = .ok (.new ik, 3)) (d3 : decode cc (pc + 3) = .ok (.dup, 1)) (d4 : decode cc (pc + 4) = .ok (.ldc_w is, 3)) (d7 : decode cc (pc + 7) = .ok (.invokespecial ic, 3)) (d10 : decode cc (pc + 10) = .ok (.athrow, 1))
    (hout : ∀ x ∈ c.exceptionTable.toList, covers x (pc + 10) = false)
    (hRframes : names.length + 3 < R.frames) (hRlocals : (rest.map fun v => v.category).sum + (13 * (names.length + 1) + 43) ≤ R.locals) (hRcells : cells + 1 ≤ R.cells) (hRslots : slots + 6 ≤ R.slots) (hlocks : meth.locks = false)
    (hx : ∀ t : State, s.vm.Alike t.vm → H.size ≤ t.heap.size → (∀ q : Nat, q < H.size → t.heap[q]? = H[q]?) → XC cls s t)
    (hf : ∀ z ∈ locs, free z.base) (hc : cells + 1 ≤ mc) (hs : slots + 6 ≤ ms) :
    W p l e R s m args below meth c H locs cells slots (vx_MQ below Qc XC args s mc ms free) (F0 m pc ls rest) := by
  intro T hT X
  have htr : e.platform.stackTraces = false := (show e.platform.stackTraces = l.stackTraces by rw [X.admits.platform]).trans hl
  have Y := vx_rebase X (R' := { frames := R.frames, locals := R.locals, cells := 1, slots := 6 }) (Nat.le_refl _) (Nat.le_refl _) hRcells hRslots
  obtain ⟨s', hA⟩ : ∃ z, z = (T.setVm s.vm).setFrames (.invoking m args :: below) := ⟨_, rfl⟩
  rw [← hA] at Y
  have hvm : s'.vm = s.vm := by rw [hA]; rfl
  have hhp : s'.heap = H := by rw [hA]; exact hT
  have hW0 : s.WarmedH s'.vm := by rw [hvm]; exact State.WarmedH.refl s
  have hat' : ∀ w ∈ vx_atS own ic cls names, w.before args s' = true := fun w hw => vx_ot_at hW0 hvm.symm (hgood w (List.mem_cons_of_mem _ (List.mem_cons_of_mem _ hw))) (hat w hw)
  have hk' : (Cond.classLink own ik cls).before args s' = true := vx_ot_at hW0 hvm.symm (hgood _ List.mem_cons_self) hk
  have hini' : (Cond.initialized cls).before args s' = true := vx_ot_at hW0 hvm.symm (hgood _ (List.mem_cons_of_mem _ List.mem_cons_self)) hini
  have hU' : vx_Zq Bundle.tN "UNASSIGNED_STACK" Bundle.steD A s' s'.heap := by rw [hhp]; exact vx_Zq.moved hW0.alike (hU.kept hS.2.1)
  have hN' : vx_Zq Bundle.tN "SUPPRESSED_SENTINEL" Bundle.listD A s' s'.heap := by rw [hhp]; exact vx_Zq.moved hW0.alike (hN.kept hS.2.1)
  have h : ∀ w ∈ Bundle.ownAtoms own ic cls names, w.before args s' = true := vx_own hat' (vx_isRefq hU'.1) (vx_isRefq hN'.1) hU'.2.word hN'.2.word
  have hown' : s'.vm.findClass own = some m.cls := by rw [hvm]; exact hown
  have hins : (Cond.instantiable cls 6).before args s' = true := h _ (by simp [Bundle.ownAtoms])
  obtain ⟨vm₁, cX, kX, hfX, hkX, -, -, X₁, st1⟩ := Y.newCold hexec (own := own) (C := cls) (index := ik) (n := 6) hown' hk' hins hini'
    (g := F0 m pc ls rest) rfl (by rw [hb]; exact d0) (Nat.le_refl _) (Nat.le_refl _)
  generalize hT1 : (T.setVm vm₁).pushCell { cls := cX, slots := kX.instanceTypes.map defaultValue, vm := .none } = T1 at X₁ st1
  have hcat : (Value.ref T.heap.size).category = 1 := rfl
  have hcellA : T1.heap[T.heap.size]? = some (freshCell cX kX) := by rw [← hT1]; exact State.heap_pushCell_size _ _
  have d3' : decode c.code (pc + 3) = .ok (.dup, 1) := by rw [hb]; exact d3
  have d4' : decode c.code (pc + 4) = .ok (.ldc_w is, 3) := by rw [hb]; exact d4
  have hstr' : vk_R own is text sa s' := vk_R.warm hW0 hstr
  obtain ⟨U, hsteps, hrun, hend, hW, hsame, ce, hce, hO⟩ := X₁.ctorThrowS hexec htr (own := own) (cls := cls) (names := names) (ic := ic) hown' hcls hnames h (fun x hx => nomatch hx) hfX hkX hcellA (by rw [hhp, hT]; exact Nat.le_refl _) (msg := .ref sa) rfl
    (g := { method := m, pc := pc + 7, locals := ls, stack := .ref sa :: .ref T.heap.size :: .ref T.heap.size :: rest, locked := none }) rfl hsize rfl rfl (rest := rest) rfl
    (by rw [hb]; exact d7) (by rw [hb]; exact d10) hout hRframes (by simp only [List.map_cons, List.sum_cons, hcat]; omega) hlocks
  obtain ⟨f1, f2⟩ := vx_frame hsame
  rw [hhp] at f1 f2
  have hWs : s.WarmedH U.vm := State.WarmedH.trans hW0 hW
  have hcl : s.vm.findClass cls = some ce.cls := by
    have h9 := hO.cls
    rw [hvm] at h9
    exact h9
  have hall : s.sameButNew ({ U with vm := s.vm } : State) locs mc ms := by
    subst hA
    obtain ⟨e1, e2⟩ := hsame
    rw [State.setFrames_setFrames] at e1
    have h2 : (T.setVm s.vm).sameButNew ({ U with vm := s.vm } : State) [] (0 + 1) (0 + 6) := ⟨e1, e2⟩
    have h3 := X.same.trans h2
    rw [List.append_nil] at h3
    exact h3.mono hc hs
  refine ⟨U, ?_, .threw T.heap.size, hrun, hend, Or.inr ⟨T.heap.size, rfl, cls, ce, locs, hx U hWs.alike f1 (fun q hq => f2 q hq (fun z hz => nomatch hz)), hce, hO.vm, hcl, hWs, hall, hf⟩⟩
  refine st1 _ ?_
  show Steps p.tables e below (T1.setTop { method := m, pc := pc + 3, locals := ls, stack := .ref T.heap.size :: rest, locked := none }) _
  jvm_step X₁.here [X₁.here.top, hexec, d3', Value.category]
  exact X₁.ldcStringW hexec (own := own) (text := text) (index := is) (a := sa) hown' hstr'.1 hstr'.2
    (g := { method := m, pc := pc + 4, locals := ls, stack := .ref T.heap.size :: .ref T.heap.size :: rest, locked := none }) rfl d4' _ hsteps
end Ends
section Bodies
variable {l : Launch}
theorem vx_ofW {y : MethodName} {ws ws' : List Cond} {rm : Room} {Pc : Array Value → State → Prop} {Qc : Array Value → State → Outcome → State → Prop} {XC : String → State → State → Prop} {mc ms : Nat} {free : Addr → Prop} {cc : ByteArray} {maxL : Nat} {ret : Option FieldType}
    (hy : plainName y.cls = true) (hw : ws = Cond.code y cc maxL ret :: ws')
    (body : ∀ p e s m args below meth c s₁, BodyLoose p l y (headSpec ws rm) cc maxL ret e s m args below meth c s₁ → c.maxLocals = maxL → (∀ x ∈ c.exceptionTable.toList, False) → Pc args s →
      W p l e (headSpec ws rm).room s m args below meth c s.heap [] 0 0 (vx_MQ below Qc XC args s mc ms free) (entryFrame m args maxL)) : vx_Met l y ws rm Pc Qc XC mc ms free := by
  refine MetFree.of_bodyS (code := cc) (maxLocals := maxL) (ret := ret) hy ?_ ?_
  · intro args s m h hn
    obtain ⟨meth, c, h1, h2, h3, h4, h5, h6, -, -⟩ := Cond.code_spec hn (atoms_spec (ws := ws) h _ (by rw [hw]; exact List.mem_cons_self))
    exact ⟨meth, c, h1, h2, h3, h4, h5, h6⟩
  · intro p e s m args below meth c s₁ B hml hP _
    have hh0 : s₁.heap = s.heap := by rw [B.state]; rfl
    have ht : ∀ x ∈ c.exceptionTable.toList, False := by
      obtain ⟨meth9, c9, h1, h2, -, -, -, -, h7, -⟩ := Cond.code_spec B.named (atoms_spec (ws := ws) B.pre _ (by rw [hw]; exact List.mem_cons_self))
      cases Option.some.inj (h1.symm.trans B.method)
      cases Option.some.inj (h2.symm.trans (Stand.of_body B).code)
      intro x hx
      rw [Array.isEmpty_iff.mp h7] at hx
      cases hx
    obtain ⟨t, a1, o, b1, b2, b3⟩ := body p e s m args below meth c s₁ B hml ht hP s₁ hh0 (Stand.of_body B)
    exact ⟨t, o, a1, b1, b2, b3⟩
/-- the table of a body with handlers -/
theorem vx_table {p : Program} {x y : MethodName} {S : Spec} {cc bytes : ByteArray} {maxL maxL' : Nat} {ret ret' : Option FieldType} {e : Env} {s s₁ : State} {m : MethodId} {args : Array Value} {below : List Frame} {meth : Method} {c : Code} {hh : List (Nat × Nat × Nat × Nat)}
    (B : BodyLoose p l y S cc maxL ret e s m args below meth c s₁) (h : (Cond.codeWith y bytes maxL' ret' hh).before args s = true) : c.exceptionTable.toList = tableOf hh := by
  obtain ⟨m9, meth9, c9, hn9, h1, h2, -, -, h6, -⟩ := Cond.codeWith_spec h
  cases Option.some.inj (hn9.symm.trans B.named)
  cases Option.some.inj (h1.symm.trans B.method)
  cases Option.some.inj (h2.symm.trans (Stand.of_body B).code)
  rw [← h6, table_eq]
end Bodies
end VXA
/-! ===== END ===== -/
/-! ===== BEGIN a static call of a method with an exception table ===== -/
section VXS
variable {p : Program} {l : Launch} {e : Env} {R : Room} {s : State} {m : MethodId} {args : Array Value} {below : List Frame} {meth : Method} {c : Code} {T : State} {H : Heap} {locs : List Loc} {cells slots : Nat}
abbrev vx_CSW (R : Room) (s : State) (args : Array Value) (own : String) (index : Nat) (y : MethodName) (bytes : ByteArray) (maxL : Nat) (ret : Option FieldType) (hh : List (Nat × Nat × Nat × Nat)) (ws : List Cond) (rm : Room) (mc ms n : Nat) : Prop :=
  (rm.cells = mc ∧ rm.slots = ms ∧ rm.frames + 1 ≤ R.frames ∧ 8 + (maxL + 11) + rm.locals ≤ R.locals ∧ (∀ w ∈ ws, ∀ (a' : Array Value) (U : State), s.WarmedH U.vm → w.before a' U = true) ∧ Cond.codeWith y bytes maxL ret hh ∈ ws) ∧
  (Cond.codeWith y bytes maxL ret hh).before args s = true ∧ (Cond.initialized y.cls).before args s = true ∧ (y.cls ≠ "java/lang/invoke/MethodHandle" ∧ y.cls ≠ "java/lang/invoke/VarHandle") ∧
  (∀ sig, parseMethodDescriptor y.desc = some sig → n = sig.parameters.length) ∧ (Cond.methodLink own index y).before args s = true ∧ (Cond.static y).before args s = true
theorem vx_cwSW {own : String} {index maxL mc ms : Nat} {y : MethodName} {bytes : ByteArray} {ret : Option FieldType} {hh : List (Nat × Nat × Nat × Nat)} {Ts ws ws' : List Cond} {rm : Room} (n : Nat) (ht : ∀ w ∈ Ts, w.before args s = true) (hT : GoodIn Ts (va_wsS own index y ws)) (hw : ws = Cond.codeWith y bytes maxL ret hh :: ws') (hrc : rm.cells = mc) (hrs : rm.slots = ms)
    (hd : y.cls ≠ "java/lang/invoke/MethodHandle" ∧ y.cls ≠ "java/lang/invoke/VarHandle" ∧ (parseMethodDescriptor y.desc).map (fun d => d.parameters.length) = some n) (hR : rm.frames + 1 ≤ R.frames ∧ 8 + (maxL + 11) + rm.locals ≤ R.locals) :
    vx_CSW R s args own index y bytes maxL ret hh ws rm mc ms n := by
  have ok : ∀ w ∈ va_wsS own index y ws, w.before args s = true := fun w h => ht w (hT w h).1
  have hG : GoodIn Ts ws := fun w h => hT w (by unfold va_wsS; exact List.mem_append_right _ h)
  have hc : Cond.codeWith y bytes maxL ret hh ∈ ws := by rw [hw]; exact List.mem_cons_self
  refine ⟨⟨hrc, hrs, hR.1, hR.2, pay_in ht hG, hc⟩, ht _ (hG _ hc).1, ok _ (by simp [va_wsS]), ⟨hd.1, hd.2.1⟩, fun sig h => ?_, ok _ (by simp [va_wsS]), ok _ (by simp [va_wsS])⟩
  have h2 := hd.2.2
  rw [h] at h2
  exact (Option.some.inj h2).symm
theorem vx_callSW (X : Stand p l e R s m args below meth c T locs cells slots) (hexec : p.tables.exec = Jvm.exec) {own : String} {index : Nat} {y : MethodName} {bytes : ByteArray} {maxL : Nat} {ret : Option FieldType} {hh : List (Nat × Nat × Nat × Nat)}
    (hown : s.vm.findClass own = some m.cls) (hlink : (Cond.methodLink own index y).before args s = true) (hstat : (Cond.static y).before args s = true) (hinit : (Cond.initialized y.cls).before args s = true)
    (hcode : (Cond.codeWith y bytes maxL ret hh).before args s = true) (hy : y.cls ≠ "java/lang/invoke/MethodHandle" ∧ y.cls ≠ "java/lang/invoke/VarHandle")
    {W9 : Nat} {Pre : Pt → Array Value → Prop} {Post : Pt → Array Value → Option Value → Pt → Prop} (hK : Back l R p e below s args y 3 W9 Pre Post)
    {g : JFrame} (hg : g.method = m) (hsize : g.locals.size = c.maxLocals) {argsL rest : List Value} (hlen : ∀ sig, parseMethodDescriptor y.desc = some sig → argsL.length = sig.parameters.length)
    (hstack : g.stack = argsL.reverse ++ rest) (hW : 2 * g.monitorRoom + (rest.map fun v => v.category).sum ≤ W9) (hdg : decode c.code g.pc = .ok (.invokestatic index, 3))
    (hpre : ∀ vm₁, s.WarmedH vm₁ → Pre ⟨T.setVm vm₁, locs, cells, slots⟩ argsL.toArray) :
    ∃ (v : Option Value) (vm₁ : Vm) (B : Pt), s.WarmedH vm₁ ∧ Stand p l e R s m args below meth c B.U B.locs B.cells B.slots ∧ Post ⟨T.setVm vm₁, locs, cells, slots⟩ argsL.toArray v B ∧
      ∀ target, Steps p.tables e below (B.U.setTop { g with pc := g.pc + 3, stack := v.toList ++ rest }) target → Steps p.tables e below (T.setTop g) target := by
  obtain ⟨mk, methM, cM, hnamed, hmethM, -, -, -, -, -, -, hsigM⟩ := Cond.codeWith_spec hcode
  have hstatic : methM.isStatic = true := Cond.static_spec hnamed hmethM hstat
  obtain ⟨kP, hkP, -⟩ := className_of_methodNamed hnamed
  have hinitP : kP.init = .initialized := Cond.initialized_spec (findClass_of_methodNamed hnamed) hkP hinit
  obtain ⟨vm₁, X₁, hstep₁⟩ := X.invokestatic hexec hown hlink hnamed hmethM hstatic hkP hinitP hy (g := g) hg (argsL := argsL) (rest := rest) (hlen _ hsigM) hstack hdg
  obtain ⟨v, B, X', hpost, hsteps⟩ := hK m meth c ⟨T.setVm vm₁, locs, cells, slots⟩ { g with stack := rest } (.invokestatic index) mk argsL.toArray X₁ hg hsize hdg hW (X₁.named hnamed) (hpre vm₁ X₁.warmed)
  exact ⟨v, vm₁, B, X₁.warmed, X', hpost, fun target h => hstep₁ _ fun acts => by rw [doInvoke_state]; exact hsteps.trans h⟩
theorem vx_runSW {y : MethodName} {bytes cc : ByteArray} {maxL nL mc ms n index : Nat} {ret : Option FieldType} {hh : List (Nat × Nat × Nat × Nat)} {ws : List Cond} {rm : Room} {Pc : Array Value → State → Prop} {Qc : Array Value → State → Outcome → State → Prop} {free : Addr → Prop} {Ts : List Cond} {own : String} {As rest : List Value} {g : JFrame}
    (S : CallFix p m c cc nL s args Ts own) (hM : Met l y ws rm Pc Qc mc ms free) (cw : vx_CSW R s args own index y bytes maxL ret hh ws rm mc ms n) (hp : PreS s H Pc As)
    (hg : g.method = m) (hn : As.length = n) (hsize : g.locals.size = nL) (hstack : g.stack = As.reverse ++ rest) (hW : 2 * g.monitorRoom + (rest.map fun v => v.category).sum ≤ 8) (hdg : decode cc g.pc = .ok (.invokestatic index, 3)) (hf : cells + mc ≤ R.cells ∧ slots + ms ≤ R.slots) :
    va_Run p l e R s m args below meth c H locs cells slots mc ms g rest (Qc As.toArray) (free) := by
  obtain ⟨⟨hrc, hrs, hfr, hlo, hws, hcw⟩, hcode, hini, hy, hlen, hl, hstt⟩ := cw
  have hK : Back l R p e below s args y 3 8 (PreOf R mc ms Pc) (PostOf Qc mc ms free) := va_backW (hh := hh) (bytes := bytes) (maxL := maxL) (ret := ret) hM hp.1 hrc hrs hfr hlo hws hcw (fun a' U hW => word_at hW (Or.inl (by first | rfl | simp [Cond.onTables, Cond.keeps, Cond.steady])) hini)
  obtain ⟨hx, hb, hml, ho, -⟩ := S
  intro T hT X
  obtain ⟨v, vm₁, ⟨U', l2, c2, s2⟩, hW₁, X', ⟨g', mk, t, L, e1, e2, hq, h1, hL, h2, h3⟩, st⟩ := vx_callSW X hx (hh := hh) (bytes := bytes) (maxL := maxL) (ret := ret) ho hl hstt hini hcode hy hK hg (hsize.trans hml.symm) (argsL := As) (rest := rest) (fun sig h => hn.trans (hlen sig h)) hstack hW (by rw [hb]; exact hdg)
    (fun vm₁ hW₁ => ⟨hf.1, hf.2, hp.2 (T.setVm vm₁) hT hW₁⟩)
  dsimp only [Pt.U, Pt.locs, Pt.cells, Pt.slots] at X' e1 e2 h1 h2 h3 st
  subst h1; subst h2; subst h3
  exact ⟨v, (T.setVm vm₁).calling g' mk As.toArray, t, U', L, hT, X', hL, e1, e2, hq, st⟩
/-- not caught here, past rows that name other classes: it goes on to the caller -/
theorem vx_outP {p : Program} {l : Launch} {e : Env} {R : Room} {s : State} {m : MethodId} {args : Array Value} {below : List Frame} {meth : Method} {c : Code} {H : Heap} {locs : List Loc} {cells slots : Nat} {free : Addr → Prop} {ls : Array Slot} {rest : List Value} {Qc : Array Value → State → Outcome → State → Prop} {XC : String → State → State → Prop}
    {pc : Nat} {own E : String} {ce : Cell} {q : Addr} {mc ms : Nat} (hown : s.vm.findClass own = some m.cls) (hlocks : meth.locks = false)
    (hpass : ∀ z ∈ c.exceptionTable.toList, covers z pc = false ∨ (z.catchType ≠ 0 ∧ ∃ nm : String, (Cond.classLink own z.catchType nm).before args s = true ∧ va_Nc E nm s)) (hcell : H[q]? = some ce) (hv : ce.vm = .none) (hcl : s.vm.findClass E = some ce.cls)
    (hx : ∀ t : State, t.heap = H → s.vm.Alike t.vm → XC E s t) (hf : ∀ z ∈ locs, free z.base) (hc : cells ≤ mc) (hs : slots ≤ ms) :
    vx_W p l e R s m args below meth c H locs cells slots (vx_MQ below Qc XC args s mc ms free) (F0 m pc ls rest) q := by
  intro T hT X
  have hpl : e.platform.magicAccessors = ({} : Platform).magicAccessors := by rw [X.admits.platform]
  obtain ⟨vm', hW', X', st⟩ := X.outThrough hlocks q (g := F0 m pc ls rest) rfl rfl rfl (cell := ce) (by rw [hT]; exact hcell) (by rw [hv]; rfl)
    (by obtain ⟨k9, h9, -⟩ := Vm.findClass_spec hcl; exact ⟨k9, h9⟩) (fun z hz => by
      rcases hpass z hz with h | ⟨hz0, nm, hl1, hn1⟩
      · exact Or.inl h
      · obtain ⟨c6, hc6, hcl6⟩ := Cond.classLink_spec hown hl1 e.platform hpl
        obtain ⟨a8, b8, h1, h2, h3⟩ := hn1
        cases Option.some.inj (h1.symm.trans hcl)
        cases Option.some.inj (h2.symm.trans hc6)
        exact Or.inr ⟨hz0, _, hcl6, h3⟩)
  obtain ⟨g₀, hfr⟩ := X'.frames_eq
  have hcell9 : ((T.setVm vm').setFrames (.throwing q :: below)).heap[q]? = some ce := by
    show T.heap[q]? = some ce
    rw [hT]; exact hcell
  have hend : Ended ((T.setVm vm').setFrames (.throwing q :: below)) below (.threw q) := State.frames_setFrames _ (State.cur_lt_of_frames hfr)
  refine ⟨(T.setVm vm').setFrames (.throwing q :: below), ?_, .threw q, X'.here.running, hend, Or.inr ⟨q, rfl, E, ce, locs, hx _ hT (X'.ends _).1.alike, hcell9, hv, hcl, (X'.ends _).1, (X'.ends _).2.mono hc hs, hf⟩⟩
  rw [X.pushThrowing_eq]
  exact st
/-- a thing of a world lies in the heap -/
theorem vx_lt {D : va_G} {cl : List vw_C} {ws : va_W} {H1 : Heap} (h : va_P D cl ws H1) {k : Nat} {q : Nat × va_E} (hk : ws[k]? = some q) : q.1 < H1.size := (h k q hk).lt
end VXS
/-! ===== END ===== -/
/-! ===== BEGIN methods with a table of their own: called by a name, returning or throwing ===== -/
section VXH
/-! vx_backW, vx_callVX, vx_callSX, vx_callVW, vx_runVW, vx_runVX, vx_runSX, vx_ofWH follow the same proofs as their sisters above (Free/Laws.lean, Shelf42/LK1.lean); vx_outP calls Shelf42/NT130.lean (outThrough). -/
section
variable {l : Launch} {R : Room} {p : Program} {e : Env} {below : List Frame} {s : State} {sargs : Array Value} {y : MethodName} {len W9 : Nat}
theorem vx_backW {ws : List Cond} {rm : Room} {Pc : Array Value → State → Prop} {Qc : Array Value → State → Outcome → State → Prop} {XC : String → State → State → Prop} {mc ms : Nat} {free : Addr → Prop} {bytes : ByteArray} {maxL : Nat} {ret : Option FieldType} {hh : List (Nat × Nat × Nat × Nat)}
    (hM : vx_Met l y ws rm Pc Qc XC mc ms free) (hblind : FrameBlind Pc) (hrc : rm.cells = mc) (hrs : rm.slots = ms)
    (hframes : rm.frames + 1 ≤ R.frames) (hlocals : W9 + (maxL + 11) + rm.locals ≤ R.locals)
    (hws : ∀ w ∈ ws, ∀ a' U, s.WarmedH U.vm → w.before a' U = true) (hcode : Cond.codeWith y bytes maxL ret hh ∈ ws) (hinit : ∀ a' U, s.WarmedH U.vm → (Cond.initialized y.cls).before a' U = true) :
    vx_Back l R p e below s sargs y len W9 (PreOf R mc ms Pc) (PostOf Qc mc ms free) (vx_Post XC mc ms free) := by
  intro m meth c A g ig mk a X hg hsize hdg hW hn hp
  have h1 : (headSpec ws rm).pre.before a A.U = true := atoms_intro fun w hw => hws w hw _ _ X.warmed
  have h2 : (Cond.codeWith y bytes maxL ret hh).before a A.U = true := hws _ hcode _ _ X.warmed
  have h3 : (Cond.initialized y.cls).before a A.U = true := hinit _ _ X.warmed
  have h4 : A.cells + (headSpec ws rm).room.cells ≤ R.cells := by rw [show (headSpec ws rm).room.cells = mc from hrc]; exact hp.1
  have h5 : A.slots + (headSpec ws rm).room.slots ≤ R.slots := by rw [show (headSpec ws rm).room.slots = ms from hrs]; exact hp.2.1
  have hPc : Pc a (A.U.calling g mk a) := hblind _ _ _ _ hp.2.2
  obtain ⟨U, Ls, c0, s0⟩ := A
  dsimp only [Pt.U, Pt.locs, Pt.cells, Pt.slots] at h1 h2 h3 h4 h5 X hn hPc ⊢
  obtain ⟨m9, methY, cY, hn9, hmY, hcY, -, hlY, -⟩ := Cond.codeWith_spec h2
  cases Option.some.inj (hn9.symm.trans hn)
  obtain ⟨kY, hkY, -⟩ := className_of_methodNamed hn
  have hinitY : kY.init = .initialized := Cond.initialized_spec (findClass_of_methodNamed hn) hkY h3
  have h : At U g.method c below := by rw [hg]; exact X.here
  have hlocals9 : W9 + (maxL + 11) + (headSpec ws rm).room.locals ≤ R.locals := hlocals
  have happ : (headSpec ws rm).appliesLoose y e.platform (U.calling g mk a) = true :=
    Spec.appliesLoose_calling (g := g) h hdg hn hkY hinitY
      (X.room_calling (g := g) (R' := (headSpec ws rm).room) hsize hmY hcY hframes (by rw [hlY]; omega) h4 h5) h1
  obtain ⟨mid, hmid⟩ := h.above
  have hfr : (U.setTop g).frames = (.java g :: mid) ++ below := by rw [State.frames_setTop' g h.top, hmid]; rfl
  obtain ⟨o, s₂, hsteps, -, hend, hq⟩ := Steps.callFree hM p X.admits X.cas X.clock (acts := []) hfr happ hPc trivial
  have hq' : vx_Q Qc XC mc ms free a (U.calling g mk a) o s₂ := hq
  rw [State.frames_setTop' g h.top] at hend
  obtain ⟨g₀, hg0⟩ := Option.isSome_iff_exists.mp h.top
  obtain ⟨r, hr⟩ := State.topJava?_eq_some.mp hg0
  have hr' : (({ U with heap := s₂.heap, slotsUsed := s₂.slotsUsed } : State).setVm s₂.vm).frames = .java g₀ :: r := hr
  rcases hq' with ⟨hqc, L, hfe, hL⟩ | ⟨q, rfl, E, ce, L, hx, hce, hcv, hcl, hW₂, hsm, hL⟩
  · obtain ⟨⟨v, rfl⟩, hW₂, e2, q2, q3, q4, q5, q6⟩ := id hfe
    have e3 : s₂ = ({ (U.calling g mk a).setFrames s₂.frames with heap := s₂.heap, slotsUsed := s₂.slotsUsed } : State).setVm s₂.vm := by
      have : s₂ = ({ s₂ with vm := (U.calling g mk a).vm } : State).setVm s₂.vm := rfl
      rw [e2] at this
      exact this
    obtain ⟨c₂, i₂, len₂, hc₂, hd₂, hf₂⟩ := hend
    have hW' : U.WarmedH s₂.vm := hW₂
    have hcc : c₂ = c := by
      have h1 : s₂.code? g.method = U.code? g.method := by
        rw [State.code?_eq, State.code?_eq, hW'.alike.method?]
      exact Option.some.inj (hc₂.symm.trans (h1.trans h.code))
    subst hcc
    have hlen : len₂ = len := by rw [hdg] at hd₂; cases hd₂; rfl
    subst hlen
    have hs₂ : s₂ = (({ U with heap := s₂.heap, slotsUsed := s₂.slotsUsed } : State).setVm s₂.vm).setTop { g with pc := g.pc + len₂, stack := v.toList ++ g.stack } := by
      refine e3.trans ?_
      rw [hf₂, State.calling_eq h.top, State.setFrames_setFrames, State.setTop_of_frames _ hr', hr]
      rfl
    have hsame : U.sameButNew ({ U with heap := s₂.heap, slotsUsed := s₂.slotsUsed } : State) L mc ms := by
      refine ⟨?_, q2, q3, q4, q5, q6⟩
      obtain ⟨t, ht, -⟩ := State.frames_cons hr
      show ({ U with heap := s₂.heap, slotsUsed := s₂.slotsUsed } : State) = { U.setFrames U.frames with heap := s₂.heap, slotsUsed := s₂.slotsUsed }
      rw [State.setFrames_self ht]
    subst hg
    refine Or.inl ⟨v, ⟨(({ U with heap := s₂.heap, slotsUsed := s₂.slotsUsed } : State).setVm s₂.vm), Ls ++ L, c0 + mc, s0 + ms⟩,
      ⟨X.admits, X.cas, X.clock, X.frames, X.room, X.hears, X.method, X.code, (X.here.setHeapUsed s₂.heap s₂.slotsUsed).setVm hW'.alike, X.tail, State.WarmedH.trans X.warmed hW', X.limits, X.bytes, X.same.trans (hsame.setVm s.vm)⟩,
      ⟨g, mk, s₂, L, rfl, rfl, hqc, rfl, hL, rfl, rfl⟩, ?_⟩
    show Steps p.tables e below _ ((({ U with heap := s₂.heap, slotsUsed := s₂.slotsUsed } : State).setVm s₂.vm).setTop { g with pc := g.pc + len₂, stack := v.toList ++ g.stack })
    rw [← hs₂]
    exact hsteps
  · obtain ⟨e2, q2, q3, q4, q5, q6⟩ := id hsm
    have e3 : s₂ = ({ (U.calling g mk a).setFrames s₂.frames with heap := s₂.heap, slotsUsed := s₂.slotsUsed } : State).setVm s₂.vm := by
      have : s₂ = ({ s₂ with vm := (U.calling g mk a).vm } : State).setVm s₂.vm := rfl
      rw [e2] at this
      exact this
    have hf₂ : s₂.frames = .throwing q :: .java g :: U.frames.tail := hend
    have hW' : U.WarmedH s₂.vm := hW₂
    have hs₂ : s₂ = ((({ U with heap := s₂.heap, slotsUsed := s₂.slotsUsed } : State).setVm s₂.vm).setTop g).pushFrame (.throwing q) := by
      refine e3.trans ?_
      rw [hf₂, State.calling_eq h.top, State.setFrames_setFrames, State.pushFrame, State.frames_setTop _ hr', State.setTop_of_frames _ hr', State.setFrames_setFrames, hr]
      rfl
    have hsame : U.sameButNew ({ U with heap := s₂.heap, slotsUsed := s₂.slotsUsed } : State) L mc ms := by
      refine ⟨?_, q2, q3, q4, q5, q6⟩
      obtain ⟨t, ht, -⟩ := State.frames_cons hr
      show ({ U with heap := s₂.heap, slotsUsed := s₂.slotsUsed } : State) = { U.setFrames U.frames with heap := s₂.heap, slotsUsed := s₂.slotsUsed }
      rw [State.setFrames_self ht]
    subst hg
    refine Or.inr ⟨q, ⟨(({ U with heap := s₂.heap, slotsUsed := s₂.slotsUsed } : State).setVm s₂.vm), Ls ++ L, c0 + mc, s0 + ms⟩,
      ⟨X.admits, X.cas, X.clock, X.frames, X.room, X.hears, X.method, X.code, (X.here.setHeapUsed s₂.heap s₂.slotsUsed).setVm hW'.alike, X.tail, State.WarmedH.trans X.warmed hW', X.limits, X.bytes, X.same.trans (hsame.setVm s.vm)⟩,
      ⟨g, mk, s₂, L, E, ce, rfl, rfl, hx, hce, hcv, hcl, rfl, hL, rfl, rfl⟩, ?_⟩
    show Steps p.tables e below _ (((({ U with heap := s₂.heap, slotsUsed := s₂.slotsUsed } : State).setVm s₂.vm).setTop g).pushFrame (.throwing q))
    rw [← hs₂]
    exact hsteps
end
variable {p : Program} {l : Launch} {e : Env} {R : Room} {s : State} {m : MethodId} {args : Array Value} {below : List Frame} {meth : Method} {c : Code} {T : State} {H : Heap} {locs : List Loc} {cells slots : Nat}
theorem vx_callVX (X : Stand p l e R s m args below meth c T locs cells slots) (hexec : p.tables.exec = Jvm.exec) {own C : String} {index : Nat} {y : MethodName} {bytes : ByteArray} {maxL : Nat} {ret : Option FieldType} {hh : List (Nat × Nat × Nat × Nat)}
    (hown : s.vm.findClass own = some m.cls) (hlink : (Cond.methodLink own index y).before args s = true) (hinst : (Cond.instanceMethod y).before args s = true) (hsel : (Cond.selects C y y).before args s = true)
    (hcode : (Cond.codeWith y bytes maxL ret hh).before args s = true) (hy : y.cls ≠ "java/lang/invoke/MethodHandle" ∧ y.cls ≠ "java/lang/invoke/VarHandle")
    {W9 : Nat} {Pre : Pt → Array Value → Prop} {Post : Pt → Array Value → Option Value → Pt → Prop} {PostX : Pt → Array Value → Addr → Pt → Prop} (hK : vx_Back l R p e below s args y 3 W9 Pre Post PostX)
    {b : Addr} {cellB : Cell} (hcell : T.heap[b]? = some cellB) (hobj : cellB.vm.isStatics = false) (hcls : s.vm.findClass C = some cellB.cls)
    {g : JFrame} (hg : g.method = m) (hsize : g.locals.size = c.maxLocals) {argsL rest : List Value} (hlen : ∀ sig, parseMethodDescriptor y.desc = some sig → argsL.length = sig.parameters.length)
    (hstack : g.stack = argsL.reverse ++ .ref b :: rest) (hW : 2 * g.monitorRoom + (rest.map fun v => v.category).sum ≤ W9) (hdg : decode c.code g.pc = .ok (.invokevirtual index, 3))
    (hpre : ∀ vm₁, s.WarmedH vm₁ → Pre ⟨T.setVm vm₁, locs, cells, slots⟩ (Value.ref b :: argsL).toArray) :
    (∃ (v : Option Value) (vm₁ : Vm) (B : Pt), s.WarmedH vm₁ ∧ Stand p l e R s m args below meth c B.U B.locs B.cells B.slots ∧ Post ⟨T.setVm vm₁, locs, cells, slots⟩ (Value.ref b :: argsL).toArray v B ∧
      ∀ target, Steps p.tables e below (B.U.setTop { g with pc := g.pc + 3, stack := v.toList ++ rest }) target → Steps p.tables e below (T.setTop g) target) ∨
    (∃ (q : Addr) (vm₁ : Vm) (B : Pt), s.WarmedH vm₁ ∧ Stand p l e R s m args below meth c B.U B.locs B.cells B.slots ∧ PostX ⟨T.setVm vm₁, locs, cells, slots⟩ (Value.ref b :: argsL).toArray q B ∧
      Steps p.tables e below (T.setTop g) ((B.U.setTop { g with stack := rest }).pushFrame (.throwing q))) := by
  obtain ⟨mk, methM, hnamed, hmethM, hstM, habM⟩ := Cond.instanceMethod_spec hinst
  obtain ⟨m8, methM', cM, hn8, hmethM', -, -, -, -, -, -, hsigM⟩ := Cond.codeWith_spec hcode
  cases Option.some.inj (hn8.symm.trans hnamed)
  cases hmethM.symm.trans hmethM'
  obtain ⟨c2, r2, m2, q1, q2, q3, q4, kP, hkP, hkPi⟩ := Cond.selects_spec hsel
  cases hcls.symm.trans q1
  cases (State.methodFound?_of_named hnamed hy).symm.trans q2
  cases hnamed.symm.trans q3
  have hselP : selectMethod e.platform s.vm cellB.cls mk = .method mk := by rw [Launch.admits_selectMethod X.admits]; exact q4
  obtain ⟨vm₁, X₁, hstep₁⟩ := X.invokevirtual hexec hown hlink hnamed hmethM hstM hkP hkPi hy (a := b) (cell := cellB) hcell
    (fun z h => by rw [h] at hobj; cases hobj) hselP hmethM habM hkP hkPi (g := g) hg (argsL := argsL) (rest := rest) (hlen _ hsigM) hstack hdg
  rcases hK m meth c ⟨T.setVm vm₁, locs, cells, slots⟩ { g with stack := rest } (.invokevirtual index) mk (Value.ref b :: argsL).toArray X₁ hg hsize hdg hW (X₁.named hnamed) (hpre vm₁ X₁.warmed) with ⟨v, B, X', hpost, hsteps⟩ | ⟨q, B, X', hpost, hsteps⟩
  · exact Or.inl ⟨v, vm₁, B, X₁.warmed, X', hpost, fun target h => hstep₁ _ fun acts => by rw [doInvoke_state]; exact hsteps.trans h⟩
  · exact Or.inr ⟨q, vm₁, B, X₁.warmed, X', hpost, hstep₁ _ fun acts => by rw [doInvoke_state]; exact hsteps⟩
theorem vx_callSX (X : Stand p l e R s m args below meth c T locs cells slots) (hexec : p.tables.exec = Jvm.exec) {own : String} {index : Nat} {y : MethodName} {bytes : ByteArray} {maxL : Nat} {ret : Option FieldType} {hh : List (Nat × Nat × Nat × Nat)}
    (hown : s.vm.findClass own = some m.cls) (hlink : (Cond.methodLink own index y).before args s = true) (hstat : (Cond.static y).before args s = true) (hinit : (Cond.initialized y.cls).before args s = true)
    (hcode : (Cond.codeWith y bytes maxL ret hh).before args s = true) (hy : y.cls ≠ "java/lang/invoke/MethodHandle" ∧ y.cls ≠ "java/lang/invoke/VarHandle")
    {W9 : Nat} {Pre : Pt → Array Value → Prop} {Post : Pt → Array Value → Option Value → Pt → Prop} {PostX : Pt → Array Value → Addr → Pt → Prop} (hK : vx_Back l R p e below s args y 3 W9 Pre Post PostX)
    {g : JFrame} (hg : g.method = m) (hsize : g.locals.size = c.maxLocals) {argsL rest : List Value} (hlen : ∀ sig, parseMethodDescriptor y.desc = some sig → argsL.length = sig.parameters.length)
    (hstack : g.stack = argsL.reverse ++ rest) (hW : 2 * g.monitorRoom + (rest.map fun v => v.category).sum ≤ W9) (hdg : decode c.code g.pc = .ok (.invokestatic index, 3))
    (hpre : ∀ vm₁, s.WarmedH vm₁ → Pre ⟨T.setVm vm₁, locs, cells, slots⟩ argsL.toArray) :
    (∃ (v : Option Value) (vm₁ : Vm) (B : Pt), s.WarmedH vm₁ ∧ Stand p l e R s m args below meth c B.U B.locs B.cells B.slots ∧ Post ⟨T.setVm vm₁, locs, cells, slots⟩ argsL.toArray v B ∧
      ∀ target, Steps p.tables e below (B.U.setTop { g with pc := g.pc + 3, stack := v.toList ++ rest }) target → Steps p.tables e below (T.setTop g) target) ∨
    (∃ (q : Addr) (vm₁ : Vm) (B : Pt), s.WarmedH vm₁ ∧ Stand p l e R s m args below meth c B.U B.locs B.cells B.slots ∧ PostX ⟨T.setVm vm₁, locs, cells, slots⟩ argsL.toArray q B ∧
      Steps p.tables e below (T.setTop g) ((B.U.setTop { g with stack := rest }).pushFrame (.throwing q))) := by
  obtain ⟨mk, methM, cM, hnamed, hmethM, -, -, -, -, -, -, hsigM⟩ := Cond.codeWith_spec hcode
  have hstatic : methM.isStatic = true := Cond.static_spec hnamed hmethM hstat
  obtain ⟨kP, hkP, -⟩ := className_of_methodNamed hnamed
  have hinitP : kP.init = .initialized := Cond.initialized_spec (findClass_of_methodNamed hnamed) hkP hinit
  obtain ⟨vm₁, X₁, hstep₁⟩ := X.invokestatic hexec hown hlink hnamed hmethM hstatic hkP hinitP hy (g := g) hg (argsL := argsL) (rest := rest) (hlen _ hsigM) hstack hdg
  rcases hK m meth c ⟨T.setVm vm₁, locs, cells, slots⟩ { g with stack := rest } (.invokestatic index) mk argsL.toArray X₁ hg hsize hdg hW (X₁.named hnamed) (hpre vm₁ X₁.warmed) with ⟨v, B, X', hpost, hsteps⟩ | ⟨q, B, X', hpost, hsteps⟩
  · exact Or.inl ⟨v, vm₁, B, X₁.warmed, X', hpost, fun target h => hstep₁ _ fun acts => by rw [doInvoke_state]; exact hsteps.trans h⟩
  · exact Or.inr ⟨q, vm₁, B, X₁.warmed, X', hpost, hstep₁ _ fun acts => by rw [doInvoke_state]; exact hsteps⟩
theorem vx_callVW (X : Stand p l e R s m args below meth c T locs cells slots) (hexec : p.tables.exec = Jvm.exec) {own C : String} {index : Nat} {y : MethodName} {bytes : ByteArray} {maxL : Nat} {ret : Option FieldType} {hh : List (Nat × Nat × Nat × Nat)}
    (hown : s.vm.findClass own = some m.cls) (hlink : (Cond.methodLink own index y).before args s = true) (hinst : (Cond.instanceMethod y).before args s = true) (hsel : (Cond.selects C y y).before args s = true)
    (hcode : (Cond.codeWith y bytes maxL ret hh).before args s = true) (hy : y.cls ≠ "java/lang/invoke/MethodHandle" ∧ y.cls ≠ "java/lang/invoke/VarHandle")
    {W9 : Nat} {Pre : Pt → Array Value → Prop} {Post : Pt → Array Value → Option Value → Pt → Prop} (hK : Back l R p e below s args y 3 W9 Pre Post)
    {b : Addr} {cellB : Cell} (hcell : T.heap[b]? = some cellB) (hobj : cellB.vm.isStatics = false) (hcls : s.vm.findClass C = some cellB.cls)
    {g : JFrame} (hg : g.method = m) (hsize : g.locals.size = c.maxLocals) {argsL rest : List Value} (hlen : ∀ sig, parseMethodDescriptor y.desc = some sig → argsL.length = sig.parameters.length)
    (hstack : g.stack = argsL.reverse ++ .ref b :: rest) (hW : 2 * g.monitorRoom + (rest.map fun v => v.category).sum ≤ W9) (hdg : decode c.code g.pc = .ok (.invokevirtual index, 3))
    (hpre : ∀ vm₁, s.WarmedH vm₁ → Pre ⟨T.setVm vm₁, locs, cells, slots⟩ (Value.ref b :: argsL).toArray) :
    ∃ (v : Option Value) (vm₁ : Vm) (B : Pt), s.WarmedH vm₁ ∧ Stand p l e R s m args below meth c B.U B.locs B.cells B.slots ∧ Post ⟨T.setVm vm₁, locs, cells, slots⟩ (Value.ref b :: argsL).toArray v B ∧
      ∀ target, Steps p.tables e below (B.U.setTop { g with pc := g.pc + 3, stack := v.toList ++ rest }) target → Steps p.tables e below (T.setTop g) target := by
  obtain ⟨mk, methM, hnamed, hmethM, hstM, habM⟩ := Cond.instanceMethod_spec hinst
  obtain ⟨m8, methM', cM, hn8, hmethM', -, -, -, -, -, -, hsigM⟩ := Cond.codeWith_spec hcode
  cases Option.some.inj (hn8.symm.trans hnamed)
  cases hmethM.symm.trans hmethM'
  obtain ⟨c2, r2, m2, q1, q2, q3, q4, kP, hkP, hkPi⟩ := Cond.selects_spec hsel
  cases hcls.symm.trans q1
  cases (State.methodFound?_of_named hnamed hy).symm.trans q2
  cases hnamed.symm.trans q3
  have hselP : selectMethod e.platform s.vm cellB.cls mk = .method mk := by rw [Launch.admits_selectMethod X.admits]; exact q4
  obtain ⟨vm₁, X₁, hstep₁⟩ := X.invokevirtual hexec hown hlink hnamed hmethM hstM hkP hkPi hy (a := b) (cell := cellB) hcell
    (fun z h => by rw [h] at hobj; cases hobj) hselP hmethM habM hkP hkPi (g := g) hg (argsL := argsL) (rest := rest) (hlen _ hsigM) hstack hdg
  obtain ⟨v, B, X', hpost, hsteps⟩ := hK m meth c ⟨T.setVm vm₁, locs, cells, slots⟩ { g with stack := rest } (.invokevirtual index) mk (Value.ref b :: argsL).toArray X₁ hg hsize hdg hW (X₁.named hnamed) (hpre vm₁ X₁.warmed)
  exact ⟨v, vm₁, B, X₁.warmed, X', hpost, fun target h => hstep₁ _ fun acts => by rw [doInvoke_state]; exact hsteps.trans h⟩
abbrev vx_CVW (R : Room) (s : State) (args : Array Value) (own C : String) (index : Nat) (y : MethodName) (bytes : ByteArray) (maxL : Nat) (ret : Option FieldType) (hh : List (Nat × Nat × Nat × Nat)) (ws : List Cond) (rm : Room) (mc ms n : Nat) : Prop :=
  (rm.cells = mc ∧ rm.slots = ms ∧ rm.frames + 1 ≤ R.frames ∧ 8 + (maxL + 11) + rm.locals ≤ R.locals ∧ (∀ w ∈ ws, ∀ (a' : Array Value) (U : State), s.WarmedH U.vm → w.before a' U = true) ∧ Cond.codeWith y bytes maxL ret hh ∈ ws) ∧
  (Cond.codeWith y bytes maxL ret hh).before args s = true ∧ (Cond.initialized y.cls).before args s = true ∧ (y.cls ≠ "java/lang/invoke/MethodHandle" ∧ y.cls ≠ "java/lang/invoke/VarHandle") ∧
  (∀ sig, parseMethodDescriptor y.desc = some sig → n = sig.parameters.length) ∧ (Cond.methodLink own index y).before args s = true ∧ (Cond.instanceMethod y).before args s = true ∧ (Cond.selects C y y).before args s = true
theorem vx_cwVW {own C : String} {index maxL mc ms : Nat} {y : MethodName} {bytes : ByteArray} {ret : Option FieldType} {hh : List (Nat × Nat × Nat × Nat)} {Ts ws ws' : List Cond} {rm : Room} (n : Nat) (ht : ∀ w ∈ Ts, w.before args s = true) (hT : GoodIn Ts (wsV own index C y ws)) (hw : ws = Cond.codeWith y bytes maxL ret hh :: ws') (hrc : rm.cells = mc) (hrs : rm.slots = ms)
    (hd : y.cls = C ∧ y.cls ≠ "java/lang/invoke/MethodHandle" ∧ y.cls ≠ "java/lang/invoke/VarHandle" ∧ (parseMethodDescriptor y.desc).map (fun d => d.parameters.length) = some n) (hR : rm.frames + 1 ≤ R.frames ∧ 8 + (maxL + 11) + rm.locals ≤ R.locals) :
    vx_CVW R s args own C index y bytes maxL ret hh ws rm mc ms n := by
  obtain ⟨hC, hd⟩ := hd
  subst hC
  have ok : ∀ w ∈ wsV own index y.cls y ws, w.before args s = true := fun w h => ht w (hT w h).1
  have hG : GoodIn Ts ws := fun w h => hT w (by unfold wsV; exact List.mem_append_right _ h)
  have hc : Cond.codeWith y bytes maxL ret hh ∈ ws := by rw [hw]; exact List.mem_cons_self
  refine ⟨⟨hrc, hrs, hR.1, hR.2, pay_in ht hG, hc⟩, ht _ (hG _ hc).1, ok _ (by simp [wsV]), ⟨hd.1, hd.2.1⟩, fun sig h => ?_, ok _ (by simp [wsV]), ok _ (by simp [wsV]), ok _ (by simp [wsV])⟩
  have h2 := hd.2.2
  rw [h] at h2
  exact (Option.some.inj h2).symm
theorem vx_runVW {y : MethodName} {bytes cc : ByteArray} {maxL nL mc ms n index : Nat} {ret : Option FieldType} {hh : List (Nat × Nat × Nat × Nat)} {ws : List Cond} {rm : Room} {Pc : Array Value → State → Prop} {Qc : Array Value → State → Outcome → State → Prop} {free : Addr → Prop} {Ts : List Cond} {own C : String} {b : Addr} {As rest : List Value} {g : JFrame}
    (S : CallFix p m c cc nL s args Ts own) (hM : Met l y ws rm Pc Qc mc ms free) (cw : vx_CVW R s args own C index y bytes maxL ret hh ws rm mc ms n) (hp : PreV s H C b Pc As)
    (hg : g.method = m) (hn : As.length = n) (hsize : g.locals.size = nL) (hstack : g.stack = As.reverse ++ .ref b :: rest) (hW : 2 * g.monitorRoom + (rest.map fun v => v.category).sum ≤ 8) (hdg : decode cc g.pc = .ok (.invokevirtual index, 3)) (hf : cells + mc ≤ R.cells ∧ slots + ms ≤ R.slots) :
    va_Run p l e R s m args below meth c H locs cells slots mc ms g rest (Qc (Value.ref b :: As).toArray) free := by
  obtain ⟨⟨hrc, hrs, hfr, hlo, hws, hcw⟩, hcode, hini, hy, hlen, hl, hin, hse⟩ := cw
  have hK : Back l R p e below s args y 3 8 (PreOf R mc ms Pc) (PostOf Qc mc ms free) := va_backW (hh := hh) (bytes := bytes) (maxL := maxL) (ret := ret) hM hp.1 hrc hrs hfr hlo hws hcw (fun a' U hW => word_at hW (Or.inl (by first | rfl | simp [Cond.onTables, Cond.keeps, Cond.steady])) hini)
  obtain ⟨hx, hb, hml, ho, -⟩ := S
  obtain ⟨-, ⟨cellB, hcB, hoB, hclB⟩, hPc⟩ := hp
  intro T hT X
  obtain ⟨v, vm₁, ⟨U', l2, c2, s2⟩, hW₁, X', ⟨g', mk, t, L, e1, e2, hq, h1, hL, h2, h3⟩, st⟩ := vx_callVW X hx (C := C) (hh := hh) (bytes := bytes) (maxL := maxL) (ret := ret) ho hl hin hse hcode hy hK (by rw [hT]; exact hcB) hoB hclB hg (hsize.trans hml.symm) (argsL := As) (rest := rest) (fun sig h => hn.trans (hlen sig h)) hstack hW (by rw [hb]; exact hdg)
    (fun vm₁ hW₁ => ⟨hf.1, hf.2, hPc (T.setVm vm₁) hT hW₁⟩)
  dsimp only [Pt.U, Pt.locs, Pt.cells, Pt.slots] at X' e1 e2 h1 h2 h3 st
  subst h1; subst h2; subst h3
  exact ⟨v, (T.setVm vm₁).calling g' mk (Value.ref b :: As).toArray, t, U', L, hT, X', hL, e1, e2, hq, st⟩
section
variable {y : MethodName} {bytes cc : ByteArray} {maxL nL mc ms n index : Nat} {ret : Option FieldType} {ws : List Cond} {rm : Room} {Pc : Array Value → State → Prop} {Qc : Array Value → State → Outcome → State → Prop} {XC : String → State → State → Prop} {free : Addr → Prop} {Ts : List Cond} {own C : String} {b : Addr} {As rest : List Value} {g : JFrame}
theorem vx_runVX {hh : List (Nat × Nat × Nat × Nat)} (S : CallFix p m c cc nL s args Ts own) (hM : vx_Met l y ws rm Pc Qc XC mc ms free) (cw : vx_CVW R s args own C index y bytes maxL ret hh ws rm mc ms n) (hp : PreV s H C b Pc As)
    (hg : g.method = m) (hn : As.length = n) (hsize : g.locals.size = nL) (hstack : g.stack = As.reverse ++ .ref b :: rest) (hW : 2 * g.monitorRoom + (rest.map fun v => v.category).sum ≤ 8) (hdg : decode cc g.pc = .ok (.invokevirtual index, 3)) (hf : cells + mc ≤ R.cells ∧ slots + ms ≤ R.slots) :
    vx_Run p l e R s m args below meth c H locs cells slots mc ms g rest (Qc (Value.ref b :: As).toArray) XC free := by
  obtain ⟨⟨hrc, hrs, hfr, hlo, hws, hcw⟩, hcode, hini, hy, hlen, hl, hin, hse⟩ := cw
  have hK : vx_Back l R p e below s args y 3 8 (PreOf R mc ms Pc) (PostOf Qc mc ms free) (vx_Post XC mc ms free) := vx_backW (hh := hh) (bytes := bytes) (maxL := maxL) (ret := ret) hM hp.1 hrc hrs hfr hlo hws hcw (fun a' U hW => word_at hW (Or.inl (by first | rfl | simp [Cond.onTables, Cond.keeps, Cond.steady])) hini)
  obtain ⟨hx, hb, hml, ho, -⟩ := S
  obtain ⟨-, ⟨cellB, hcB, hoB, hclB⟩, hPc⟩ := hp
  intro T hT X
  rcases vx_callVX X hx (C := C) (hh := hh) (bytes := bytes) (maxL := maxL) (ret := ret) ho hl hin hse hcode hy hK (by rw [hT]; exact hcB) hoB hclB hg (hsize.trans hml.symm) (argsL := As) (rest := rest) (fun sig h => hn.trans (hlen sig h)) hstack hW (by rw [hb]; exact hdg)
    (fun vm₁ hW₁ => ⟨hf.1, hf.2, hPc (T.setVm vm₁) hT hW₁⟩) with ⟨v, vm₁, ⟨U', l2, c2, s2⟩, hW₁, X', ⟨g', mk, t, L, e1, e2, hq, h1, hL, h2, h3⟩, st⟩ | ⟨q, vm₁, ⟨U', l2, c2, s2⟩, hW₁, X', ⟨g', mk, t, L, E, ce, e1, e2, hq, hce, hcv, hcl, h1, hL, h2, h3⟩, st⟩
  · dsimp only [Pt.U, Pt.locs, Pt.cells, Pt.slots] at X' e1 e2 h1 h2 h3 st
    subst h1; subst h2; subst h3
    exact Or.inl ⟨v, (T.setVm vm₁).calling g' mk (Value.ref b :: As).toArray, t, U', L, hT, X', hL, e1, e2, hq, st⟩
  · dsimp only [Pt.U, Pt.locs, Pt.cells, Pt.slots] at X' e1 e2 h1 h2 h3 st hcl
    subst h1; subst h2; subst h3
    exact Or.inr ⟨q, (T.setVm vm₁).calling g' mk (Value.ref b :: As).toArray, t, U', L, E, ce, hT, X', hL, e1, e2, hq, hce, hcv, vx_cls hW₁ hcl, st⟩
theorem vx_runSX {hh : List (Nat × Nat × Nat × Nat)} (S : CallFix p m c cc nL s args Ts own) (hM : vx_Met l y ws rm Pc Qc XC mc ms free) (cw : vx_CSW R s args own index y bytes maxL ret hh ws rm mc ms n) (hp : PreS s H Pc As)
    (hg : g.method = m) (hn : As.length = n) (hsize : g.locals.size = nL) (hstack : g.stack = As.reverse ++ rest) (hW : 2 * g.monitorRoom + (rest.map fun v => v.category).sum ≤ 8) (hdg : decode cc g.pc = .ok (.invokestatic index, 3)) (hf : cells + mc ≤ R.cells ∧ slots + ms ≤ R.slots) :
    vx_Run p l e R s m args below meth c H locs cells slots mc ms g rest (Qc As.toArray) XC free := by
  obtain ⟨⟨hrc, hrs, hfr, hlo, hws, hcw⟩, hcode, hini, hy, hlen, hl, hstt⟩ := cw
  have hK : vx_Back l R p e below s args y 3 8 (PreOf R mc ms Pc) (PostOf Qc mc ms free) (vx_Post XC mc ms free) := vx_backW (hh := hh) (bytes := bytes) (maxL := maxL) (ret := ret) hM hp.1 hrc hrs hfr hlo hws hcw (fun a' U hW => word_at hW (Or.inl (by first | rfl | simp [Cond.onTables, Cond.keeps, Cond.steady])) hini)
  obtain ⟨hx, hb, hml, ho, -⟩ := S
  intro T hT X
  rcases vx_callSX X hx (hh := hh) (bytes := bytes) (maxL := maxL) (ret := ret) ho hl hstt hini hcode hy hK hg (hsize.trans hml.symm) (argsL := As) (rest := rest) (fun sig h => hn.trans (hlen sig h)) hstack hW (by rw [hb]; exact hdg)
    (fun vm₁ hW₁ => ⟨hf.1, hf.2, hp.2 (T.setVm vm₁) hT hW₁⟩) with ⟨v, vm₁, ⟨U', l2, c2, s2⟩, hW₁, X', ⟨g', mk, t, L, e1, e2, hq, h1, hL, h2, h3⟩, st⟩ | ⟨q, vm₁, ⟨U', l2, c2, s2⟩, hW₁, X', ⟨g', mk, t, L, E, ce, e1, e2, hq, hce, hcv, hcl, h1, hL, h2, h3⟩, st⟩
  · dsimp only [Pt.U, Pt.locs, Pt.cells, Pt.slots] at X' e1 e2 h1 h2 h3 st
    subst h1; subst h2; subst h3
    exact Or.inl ⟨v, (T.setVm vm₁).calling g' mk As.toArray, t, U', L, hT, X', hL, e1, e2, hq, st⟩
  · dsimp only [Pt.U, Pt.locs, Pt.cells, Pt.slots] at X' e1 e2 h1 h2 h3 st hcl
    subst h1; subst h2; subst h3
    exact Or.inr ⟨q, (T.setVm vm₁).calling g' mk As.toArray, t, U', L, E, ce, hT, X', hL, e1, e2, hq, hce, hcv, vx_cls hW₁ hcl, st⟩
end
end VXH
theorem vx_ofWH {l : Launch} {y : MethodName} {ws ws' : List Cond} {rm : Room} {Pc : Array Value → State → Prop} {Qc : Array Value → State → Outcome → State → Prop} {XC : String → State → State → Prop} {mc ms : Nat} {free : Addr → Prop} {cc : ByteArray} {maxL : Nat} {ret : Option FieldType} {hh : List (Nat × Nat × Nat × Nat)}
    (hy : plainName y.cls = true) (hw : ws = Cond.codeWith y cc maxL ret hh :: ws')
    (body : ∀ p e s m args below meth c s₁, BodyLoose p l y (headSpec ws rm) cc maxL ret e s m args below meth c s₁ → c.maxLocals = maxL → Pc args s →
      W p l e (headSpec ws rm).room s m args below meth c s.heap [] 0 0 (vx_MQ below Qc XC args s mc ms free) (entryFrame m args maxL)) : vx_Met l y ws rm Pc Qc XC mc ms free := by
  refine MetFree.of_bodyS (code := cc) (maxLocals := maxL) (ret := ret) hy ?_ ?_
  · intro args s m h hn
    obtain ⟨m9, meth, c, hn9, h1, h2, h3, h4, -, h5, h6, -⟩ := Cond.codeWith_spec (atoms_spec (ws := ws) h _ (by rw [hw]; exact List.mem_cons_self))
    cases hn.symm.trans hn9
    exact ⟨meth, c, h1, h2, h3, h4, h5, h6⟩
  · intro p e s m args below meth c s₁ B hml hP _
    have hh0 : s₁.heap = s.heap := by rw [B.state]; rfl
    obtain ⟨t, a1, o, b1, b2, b3⟩ := body p e s m args below meth c s₁ B hml hP s₁ hh0 (Stand.of_body B)
    exact ⟨t, o, a1, b1, b2, b3⟩
/-! ===== END ===== -/
/-! ===== BEGIN a constructor that throws (launches without stack traces) ===== -/
section VXIA
variable {p : Program} {l : Launch} {e : Env} {R : Room} {s : State} {m : MethodId} {args : Array Value} {below : List Frame} {meth : Method} {c : Code} {T : State} {locs : List Loc} {cells slots : Nat}
theorem vx_callI (X : Stand p l e R s m args below meth c T locs cells slots) (hexec : p.tables.exec = Jvm.exec) {own : String} {index : Nat} {y : MethodName} {bytes : ByteArray} {maxL : Nat}
    (hown : s.vm.findClass own = some m.cls) (hy1 : y.name = "<init>") (hlink : (Cond.methodLink own index y).before args s = true) (hinst : (Cond.instanceMethod y).before args s = true)
    (hcode : (Cond.code y bytes maxL none).before args s = true) (hy : y.cls ≠ "java/lang/invoke/MethodHandle" ∧ y.cls ≠ "java/lang/invoke/VarHandle")
    {W9 : Nat} {Pre : Pt → Array Value → Prop} {Post : Pt → Array Value → Option Value → Pt → Prop} {PostX : Pt → Array Value → Addr → Pt → Prop} (hK : vx_Back l R p e below s args y 3 W9 Pre Post PostX)
    {g : JFrame} (hg : g.method = m) (hsize : g.locals.size = c.maxLocals) {a : Addr} {argsL rest : List Value} (hlen : ∀ sig, parseMethodDescriptor y.desc = some sig → argsL.length = sig.parameters.length)
    (hstack : g.stack = argsL.reverse ++ .ref a :: rest) (hW : 2 * g.monitorRoom + (rest.map fun v => v.category).sum ≤ W9) (hdg : decode c.code g.pc = .ok (.invokespecial index, 3))
    (hpre : ∀ vm₁, s.WarmedH vm₁ → Pre ⟨T.setVm vm₁, locs, cells, slots⟩ (Value.ref a :: argsL).toArray) :
    (∃ (v : Option Value) (vm₁ : Vm) (B : Pt), s.WarmedH vm₁ ∧ Stand p l e R s m args below meth c B.U B.locs B.cells B.slots ∧ Post ⟨T.setVm vm₁, locs, cells, slots⟩ (Value.ref a :: argsL).toArray v B ∧
      ∀ target, Steps p.tables e below (B.U.setTop { g with pc := g.pc + 3, stack := v.toList ++ rest }) target → Steps p.tables e below (T.setTop g) target) ∨
    (∃ (q : Addr) (vm₁ : Vm) (B : Pt), s.WarmedH vm₁ ∧ Stand p l e R s m args below meth c B.U B.locs B.cells B.slots ∧ PostX ⟨T.setVm vm₁, locs, cells, slots⟩ (Value.ref a :: argsL).toArray q B ∧
      Steps p.tables e below (T.setTop g) ((B.U.setTop { g with stack := rest }).pushFrame (.throwing q))) := by
  subst hg
  have hpl : e.platform.magicAccessors = ({} : Platform).magicAccessors := by rw [X.admits.platform]
  obtain ⟨mk, methM, cM, kP, vm₁, hnamed, hmethM, hcodeM, -, hlocalsM, -, hkP, -, hW₁, hstep₁⟩ := Steps.initColdArgs (e := e) X.here hexec X.warmed hpl hown hy1 hy hlink hinst hcode (f := g) rfl hlen hstack hdg
  have X₁ := X.noted hW₁
  rcases hK g.method meth c ⟨T.setVm vm₁, locs, cells, slots⟩ { g with stack := rest } (.invokespecial index) mk (Value.ref a :: argsL).toArray X₁ rfl hsize hdg hW (X₁.named hnamed) (hpre vm₁ X₁.warmed) with ⟨v, B, X', hpost, hsteps⟩ | ⟨q, B, X', hpost, hsteps⟩
  · exact Or.inl ⟨v, vm₁, B, X₁.warmed, X', hpost, fun target h => hstep₁ _ fun acts => by rw [doInvoke_state]; exact hsteps.trans h⟩
  · exact Or.inr ⟨q, vm₁, B, X₁.warmed, X', hpost, hstep₁ _ fun acts => by rw [doInvoke_state]; exact hsteps⟩
end VXIA
section VXIB
variable {p : Program} {l : Launch} {e : Env} {R : Room} {s : State} {m : MethodId} {args : Array Value} {below : List Frame} {meth : Method} {c : Code} {H : Heap} {locs : List Loc} {cells slots : Nat}
variable {y : MethodName} {bytes cc : ByteArray} {maxL nL mc ms n index : Nat} {ret : Option FieldType} {ws : List Cond} {rm : Room} {Pc : Array Value → State → Prop} {Qc : Array Value → State → Outcome → State → Prop} {XC : String → State → State → Prop} {free : Addr → Prop} {Ts : List Cond} {own C : String} {b : Addr} {As rest : List Value} {g : JFrame}
theorem vx_runI (S : CallFix p m c cc nL s args Ts own) (hM : vx_Met l y ws rm Pc Qc XC mc ms free) (cw : CallB R s args own index y bytes maxL none ws rm mc ms n ∧ y.name = "<init>" ∧ (Cond.instanceMethod y).before args s = true) (hp : PreS s H Pc (.ref b :: As))
    (hg : g.method = m) (hn : As.length = n) (hsize : g.locals.size = nL) (hstack : g.stack = As.reverse ++ .ref b :: rest) (hW : 2 * g.monitorRoom + (rest.map fun v => v.category).sum ≤ 8) (hdg : decode cc g.pc = .ok (.invokespecial index, 3)) (hf : cells + mc ≤ R.cells ∧ slots + ms ≤ R.slots) :
    vx_Run p l e R s m args below meth c H locs cells slots mc ms g rest (Qc (Value.ref b :: As).toArray) XC free := by
  have hK : vx_Back l R p e below s args y 3 8 (PreOf R mc ms Pc) (PostOf Qc mc ms free) (vx_Post XC mc ms free) := vx_callBack cw.1 hM hp.1
  obtain ⟨⟨-, -, -, -, -, -, hcode, -, hy, hlen, hl⟩, hy1, hin⟩ := cw
  obtain ⟨hx, hb, hml, ho, -⟩ := S
  have hPc := hp.2
  intro T hT X
  rcases vx_callI X hx (bytes := bytes) (maxL := maxL) ho hy1 hl hin hcode hy hK hg (hsize.trans hml.symm) (a := b) (argsL := As) (rest := rest) (fun sig h => hn.trans (hlen sig h)) hstack hW (by rw [hb]; exact hdg)
    (fun vm₁ hW₁ => ⟨hf.1, hf.2, hPc (T.setVm vm₁) hT hW₁⟩) with ⟨v, vm₁, ⟨U', l2, c2, s2⟩, hW₁, X', ⟨g', mk, t, L, e1, e2, hq, h1, hL, h2, h3⟩, st⟩ | ⟨q, vm₁, ⟨U', l2, c2, s2⟩, hW₁, X', ⟨g', mk, t, L, E, ce, e1, e2, hq, hce, hcv, hcl, h1, hL, h2, h3⟩, st⟩
  · dsimp only [Pt.U, Pt.locs, Pt.cells, Pt.slots] at X' e1 e2 h1 h2 h3 st
    subst h1; subst h2; subst h3
    exact Or.inl ⟨v, (T.setVm vm₁).calling g' mk (Value.ref b :: As).toArray, t, U', L, hT, X', hL, e1, e2, hq, st⟩
  · dsimp only [Pt.U, Pt.locs, Pt.cells, Pt.slots] at X' e1 e2 h1 h2 h3 st hcl
    subst h1; subst h2; subst h3
    exact Or.inr ⟨q, (T.setVm vm₁).calling g' mk (Value.ref b :: As).toArray, t, U', L, E, ce, hT, X', hL, e1, e2, hq, hce, hcv, vx_cls hW₁ hcl, st⟩
end VXIB
/-! ===== END ===== -/
/-! ===== BEGIN a private constructor of a nest mate that throws ===== -/
section VXIC
variable {p : Program} {l : Launch} {e : Env} {R : Room} {s : State} {m : MethodId} {args : Array Value} {below : List Frame} {meth : Method} {c : Code} {T : State} {locs : List Loc} {cells slots : Nat}
theorem vx_callIN (X : Stand p l e R s m args below meth c T locs cells slots) (hexec : p.tables.exec = Jvm.exec) {own : String} {index : Nat} {host : String} {y : MethodName} {bytes : ByteArray} {maxL : Nat}
    (hown : s.vm.findClass own = some m.cls) (hy1 : y.name = "<init>") (hlink : (Cond.methodLinkNest own index y host).before args s = true) (hinst : (Cond.instanceMethod y).before args s = true)
    (hcode : (Cond.code y bytes maxL none).before args s = true) (hy : y.cls ≠ "java/lang/invoke/MethodHandle" ∧ y.cls ≠ "java/lang/invoke/VarHandle")
    {W9 : Nat} {Pre : Pt → Array Value → Prop} {Post : Pt → Array Value → Option Value → Pt → Prop} {PostX : Pt → Array Value → Addr → Pt → Prop} (hK : vx_Back l R p e below s args y 3 W9 Pre Post PostX)
    {g : JFrame} (hg : g.method = m) (hsize : g.locals.size = c.maxLocals) {a : Addr} {argsL rest : List Value} (hlen : ∀ sig, parseMethodDescriptor y.desc = some sig → argsL.length = sig.parameters.length)
    (hstack : g.stack = argsL.reverse ++ .ref a :: rest) (hW : 2 * g.monitorRoom + (rest.map fun v => v.category).sum ≤ W9) (hdg : decode c.code g.pc = .ok (.invokespecial index, 3))
    (hpre : ∀ vm₁, s.WarmedH vm₁ → Pre ⟨T.setVm vm₁, locs, cells, slots⟩ (Value.ref a :: argsL).toArray) :
    (∃ (v : Option Value) (vm₁ : Vm) (B : Pt), s.WarmedH vm₁ ∧ Stand p l e R s m args below meth c B.U B.locs B.cells B.slots ∧ Post ⟨T.setVm vm₁, locs, cells, slots⟩ (Value.ref a :: argsL).toArray v B ∧
      ∀ target, Steps p.tables e below (B.U.setTop { g with pc := g.pc + 3, stack := v.toList ++ rest }) target → Steps p.tables e below (T.setTop g) target) ∨
    (∃ (q : Addr) (vm₁ : Vm) (B : Pt), s.WarmedH vm₁ ∧ Stand p l e R s m args below meth c B.U B.locs B.cells B.slots ∧ PostX ⟨T.setVm vm₁, locs, cells, slots⟩ (Value.ref a :: argsL).toArray q B ∧
      Steps p.tables e below (T.setTop g) ((B.U.setTop { g with stack := rest }).pushFrame (.throwing q))) := by
  subst hg
  have hpl : e.platform.magicAccessors = ({} : Platform).magicAccessors := by rw [X.admits.platform]
  obtain ⟨mk, methM, cM, kP, vm₁, hnamed, hmethM, hcodeM, -, hlocalsM, -, hkP, -, hW₁, hstep₁⟩ := Steps.initColdArgsNest (e := e) X.here hexec X.warmed hpl hown hy1 hy hlink hinst hcode (f := g) rfl hlen hstack hdg
  have X₁ := X.noted hW₁
  rcases hK g.method meth c ⟨T.setVm vm₁, locs, cells, slots⟩ { g with stack := rest } (.invokespecial index) mk (Value.ref a :: argsL).toArray X₁ rfl hsize hdg hW (X₁.named hnamed) (hpre vm₁ X₁.warmed) with ⟨v, B, X', hpost, hsteps⟩ | ⟨q, B, X', hpost, hsteps⟩
  · exact Or.inl ⟨v, vm₁, B, X₁.warmed, X', hpost, fun target h => hstep₁ _ fun acts => by rw [doInvoke_state]; exact hsteps.trans h⟩
  · exact Or.inr ⟨q, vm₁, B, X₁.warmed, X', hpost, hstep₁ _ fun acts => by rw [doInvoke_state]; exact hsteps⟩
end VXIC
section VXID
variable {p : Program} {l : Launch} {e : Env} {R : Room} {s : State} {m : MethodId} {args : Array Value} {below : List Frame} {meth : Method} {c : Code} {H : Heap} {locs : List Loc} {cells slots : Nat}
theorem vx_runIN {y : MethodName} {bytes cc : ByteArray} {maxL nL mc ms n index : Nat} {ws : List Cond} {rm : Room} {Pc : Array Value → State → Prop} {Qc : Array Value → State → Outcome → State → Prop} {XC : String → State → State → Prop} {free : Addr → Prop} {Ts : List Cond} {own host : String} {b : Addr} {As rest : List Value} {g : JFrame}
    (S : CallFix p m c cc nL s args Ts own) (hM : vx_Met l y ws rm Pc Qc XC mc ms free) (cw : va_CN R s args own index y host bytes maxL none ws rm mc ms n ∧ y.name = "<init>" ∧ (Cond.instanceMethod y).before args s = true) (hp : PreS s H Pc (.ref b :: As))
    (hg : g.method = m) (hn : As.length = n) (hsize : g.locals.size = nL) (hstack : g.stack = As.reverse ++ .ref b :: rest) (hW : 2 * g.monitorRoom + (rest.map fun v => v.category).sum ≤ 8) (hdg : decode cc g.pc = .ok (.invokespecial index, 3)) (hf : cells + mc ≤ R.cells ∧ slots + ms ≤ R.slots) :
    vx_Run p l e R s m args below meth c H locs cells slots mc ms g rest (Qc (Value.ref b :: As).toArray) XC free := by
  obtain ⟨⟨⟨hrc, hrs, hfr, hlo, hws, hcw⟩, hcode, hini, hy, hlen, hl⟩, hx1, hx2⟩ := cw
  have hK : vx_Back l R p e below s args y 3 8 (PreOf R mc ms Pc) (PostOf Qc mc ms free) (vx_Post XC mc ms free) := vx_back (bytes := bytes) (maxL := maxL) (ret := none) hM hp.1 hrc hrs hfr hlo hws hcw (fun a' U hW => word_at hW (Or.inl (by first | rfl | simp [Cond.onTables, Cond.keeps, Cond.steady])) hini)
  obtain ⟨hx, hb, hml, ho, -⟩ := S
  have hPc := hp.2
  intro T hT X
  rcases vx_callIN X hx (bytes := bytes) (maxL := maxL) ho hx1 hl hx2 hcode hy hK hg (hsize.trans hml.symm) (a := b) (argsL := As) (rest := rest) (fun sig h => hn.trans (hlen sig h)) hstack hW (by rw [hb]; exact hdg)
    (fun vm₁ hW₁ => ⟨hf.1, hf.2, hPc (T.setVm vm₁) hT hW₁⟩) with ⟨v, vm₁, ⟨U', l2, c2, s2⟩, hW₁, X', ⟨g', mk, t, L, e1, e2, hq, h1, hL, h2, h3⟩, st⟩ | ⟨q, vm₁, ⟨U', l2, c2, s2⟩, hW₁, X', ⟨g', mk, t, L, E, ce, e1, e2, hq, hce, hcv, hcl, h1, hL, h2, h3⟩, st⟩
  · dsimp only [Pt.U, Pt.locs, Pt.cells, Pt.slots] at X' e1 e2 h1 h2 h3 st
    subst h1; subst h2; subst h3
    exact Or.inl ⟨v, (T.setVm vm₁).calling g' mk (Value.ref b :: As).toArray, t, U', L, hT, X', hL, e1, e2, hq, st⟩
  · dsimp only [Pt.U, Pt.locs, Pt.cells, Pt.slots] at X' e1 e2 h1 h2 h3 st hcl
    subst h1; subst h2; subst h3
    exact Or.inr ⟨q, (T.setVm vm₁).calling g' mk (Value.ref b :: As).toArray, t, U', L, E, ce, hT, X', hL, e1, e2, hq, hce, hcv, vx_cls hW₁ hcl, st⟩
end VXID
/-! ===== END ===== -/
/-! ===== BEGIN a method of a class above, found by the receiver, that may throw (follows va_callVU, va_runU of this kit) ===== -/
section
variable {p : Program} {l : Launch} {e : Env} {R : Room} {s : State} {m : MethodId} {args : Array Value} {below : List Frame} {meth : Method} {c : Code} {H : Heap} {locs : List Loc} {cells slots : Nat}
theorem vx_callVU {T : State} {locs : List Loc} {cells slots : Nat} (X : Stand p l e R s m args below meth c T locs cells slots) (hexec : p.tables.exec = Jvm.exec) {own C owner : String} {index : Nat} {x y : MethodName} {bytes : ByteArray} {maxL : Nat} {ret : Option FieldType}
    (hown : s.vm.findClass own = some m.cls) (hlink : (Cond.methodLink own index x).before args s = true) (hsame : (Cond.sameMethod x.cls owner x.name x.desc).before args s = true)
    (hd0 : va_Decl s ⟨owner, x.name, x.desc⟩) (howner : owner ≠ "java/lang/invoke/MethodHandle" ∧ owner ≠ "java/lang/invoke/VarHandle")
    (hsel : (Cond.selects C x y).before args s = true) (hinst : (Cond.instanceMethod y).before args s = true) (hcode : (Cond.code y bytes maxL ret).before args s = true)
    {W : Nat} {Pre : Pt → Array Value → Prop} {Post : Pt → Array Value → Option Value → Pt → Prop} {PostX : Pt → Array Value → Addr → Pt → Prop} (hK : vx_Back l R p e below s args y 3 W Pre Post PostX)
    {b : Addr} {cellB : Cell} (hcell : T.heap[b]? = some cellB) (hobj : cellB.vm.isStatics = false) (hcls : s.vm.findClass C = some cellB.cls)
    {g : JFrame} (hg : g.method = m) (hsize : g.locals.size = c.maxLocals) {argsL rest : List Value} (hlen : ∀ sig, parseMethodDescriptor x.desc = some sig → argsL.length = sig.parameters.length)
    (hstack : g.stack = argsL.reverse ++ .ref b :: rest) (hW : 2 * g.monitorRoom + (rest.map fun v => v.category).sum ≤ W) (hdg : decode c.code g.pc = .ok (.invokevirtual index, 3))
    (hpre : ∀ vm₁, s.WarmedH vm₁ → Pre ⟨T.setVm vm₁, locs, cells, slots⟩ (Value.ref b :: argsL).toArray) :
    (∃ (v : Option Value) (vm₁ : Vm) (B : Pt), s.WarmedH vm₁ ∧ Stand p l e R s m args below meth c B.U B.locs B.cells B.slots ∧ Post ⟨T.setVm vm₁, locs, cells, slots⟩ (Value.ref b :: argsL).toArray v B ∧
      ∀ target, Steps p.tables e below (B.U.setTop { g with pc := g.pc + 3, stack := v.toList ++ rest }) target → Steps p.tables e below (T.setTop g) target) ∨
    (∃ (q : Addr) (vm₁ : Vm) (B : Pt), s.WarmedH vm₁ ∧ Stand p l e R s m args below meth c B.U B.locs B.cells B.slots ∧ PostX ⟨T.setVm vm₁, locs, cells, slots⟩ (Value.ref b :: argsL).toArray q B ∧
      Steps p.tables e below (T.setTop g) ((B.U.setTop { g with stack := rest }).pushFrame (.throwing q))) := by
  obtain ⟨r0, r, hn, hrm, hstR, hsigR⟩ := hd0
  obtain ⟨cn, ck, r1, hcn, hck, hni, hf, hn1⟩ := Cond.sameMethod_found hsame
  cases hn.symm.trans hn1
  obtain ⟨mk, methM, hnamed, hmethM, -, habM⟩ := Cond.instanceMethod_spec hinst
  obtain ⟨c2, r2, m2, q1, q2, q3, q4, kP, hkP, hkPi⟩ := Cond.selects_spec hsel
  cases hcls.symm.trans q1
  cases hf.symm.trans q2
  cases hnamed.symm.trans q3
  have hselP : selectMethod e.platform s.vm cellB.cls r0 = .method mk := by rw [Launch.admits_selectMethod X.admits]; exact q4
  obtain ⟨vm₁, X₁, hstep₁⟩ := X.invokevirtualUp hexec hown hlink hsame howner hn hrm hstR (a := b) (cell := cellB) hcell
    (fun z h => by rw [h] at hobj; cases hobj) hselP hmethM habM hkP hkPi (g := g) hg (argsL := argsL) (rest := rest) (hlen _ hsigR) hstack hdg
  rcases hK m meth c ⟨T.setVm vm₁, locs, cells, slots⟩ { g with stack := rest } (.invokevirtual index) mk (Value.ref b :: argsL).toArray X₁ hg hsize hdg hW (X₁.named hnamed) (hpre vm₁ X₁.warmed) with ⟨v, B, X', hpost, hsteps⟩ | ⟨q, B, X', hpost, hsteps⟩
  · exact Or.inl ⟨v, vm₁, B, X₁.warmed, X', hpost, fun target h => hstep₁ _ fun acts => by rw [doInvoke_state]; exact hsteps.trans h⟩
  · exact Or.inr ⟨q, vm₁, B, X₁.warmed, X', hpost, hstep₁ _ fun acts => by rw [doInvoke_state]; exact hsteps⟩
theorem vx_runU {x y : MethodName} {bytes cc : ByteArray} {maxL nL mc ms n index : Nat} {ret : Option FieldType} {ws : List Cond} {rm : Room} {Pc : Array Value → State → Prop} {Qc : Array Value → State → Outcome → State → Prop} {XC : String → State → State → Prop} {free : Addr → Prop} {Ts : List Cond} {own C owner : String} {b : Addr} {As rest : List Value} {g : JFrame}
    (S : CallFix p m c cc nL s args Ts own) (hM : vx_Met l y ws rm Pc Qc XC mc ms free) (cw : va_CU R s args own C owner index x y bytes maxL ret ws rm mc ms n) (hp : PreV s H C b Pc As)
    (hg : g.method = m) (hn : As.length = n) (hsize : g.locals.size = nL) (hstack : g.stack = As.reverse ++ .ref b :: rest) (hW : 2 * g.monitorRoom + (rest.map fun v => v.category).sum ≤ 8) (hdg : decode cc g.pc = .ok (.invokevirtual index, 3)) (hf : cells + mc ≤ R.cells ∧ slots + ms ≤ R.slots) :
    vx_Run p l e R s m args below meth c H locs cells slots mc ms g rest (Qc (Value.ref b :: As).toArray) XC free := by
  obtain ⟨hrc, hrs, hfr, hlo, hws, hcw⟩ := cw.back
  have hini := cw.init
  have hK : vx_Back l R p e below s args y 3 8 (PreOf R mc ms Pc) (PostOf Qc mc ms free) (vx_Post XC mc ms free) := vx_back (bytes := bytes) (maxL := maxL) (ret := ret) hM hp.1 hrc hrs hfr hlo hws hcw (fun a' U hW => word_at hW (Or.inl (by first | rfl | simp [Cond.onTables, Cond.keeps, Cond.steady])) hini)
  obtain ⟨hx, hb, hml, ho, -⟩ := S
  obtain ⟨-, ⟨cellB, hcB, hoB, hclB⟩, hPc⟩ := hp
  intro T hT X
  rcases vx_callVU X hx (C := C) (owner := owner) (bytes := bytes) (maxL := maxL) (ret := ret) ho cw.link cw.same cw.decl cw.notMH cw.sel cw.inst cw.code hK (by rw [hT]; exact hcB) hoB hclB hg (hsize.trans hml.symm) (argsL := As) (rest := rest) (fun sig h => hn.trans (cw.len sig h)) hstack hW (by rw [hb]; exact hdg)
    (fun vm₁ hW₁ => ⟨hf.1, hf.2, hPc (T.setVm vm₁) hT hW₁⟩) with ⟨v, vm₁, ⟨U', l2, c2, s2⟩, hW₁, X', ⟨g', mk, t, L, e1, e2, hq, h1, hL, h2, h3⟩, st⟩ | ⟨q, vm₁, ⟨U', l2, c2, s2⟩, hW₁, X', ⟨g', mk, t, L, E, ce, e1, e2, hq, hce, hcv, hcl, h1, hL, h2, h3⟩, st⟩
  · dsimp only [Pt.U, Pt.locs, Pt.cells, Pt.slots] at X' e1 e2 h1 h2 h3 st
    subst h1; subst h2; subst h3
    exact Or.inl ⟨v, (T.setVm vm₁).calling g' mk (Value.ref b :: As).toArray, t, U', L, hT, X', hL, e1, e2, hq, st⟩
  · dsimp only [Pt.U, Pt.locs, Pt.cells, Pt.slots] at X' e1 e2 h1 h2 h3 st hcl
    subst h1; subst h2; subst h3
    exact Or.inr ⟨q, (T.setVm vm₁).calling g' mk (Value.ref b :: As).toArray, t, U', L, E, ce, hT, X', hL, e1, e2, hq, hce, hcv, vx_cls hW₁ hcl, st⟩
end
/-! ===== END ===== -/
/-! ===== BEGIN super.m(..) that may throw (follows va_callSU, va_runSU) ===== -/
section
variable {p : Program} {l : Launch} {e : Env} {R : Room} {s : State} {m : MethodId} {args : Array Value} {below : List Frame} {meth : Method} {c : Code} {H : Heap} {locs : List Loc} {cells slots : Nat}
theorem vx_callSU {T : State} {locs : List Loc} {cells slots : Nat} (X : Stand p l e R s m args below meth c T locs cells slots) (hexec : p.tables.exec = Jvm.exec) {own : String} {index : Nat} {y : MethodName} {bytes : ByteArray} {maxL : Nat} {ret : Option FieldType}
    (hown : s.vm.findClass own = some m.cls) (hlink : (Cond.methodLink own index y).before args s = true) (hsame : (Cond.sameMethod y.cls y.cls y.name y.desc).before args s = true) (hsup : (Cond.superclass own y.cls).before args s = true)
    (hinst : (Cond.instanceMethod y).before args s = true) (hcode : (Cond.code y bytes maxL ret).before args s = true) (hno : y.name ≠ "<init>")
    {W : Nat} {Pre : Pt → Array Value → Prop} {Post : Pt → Array Value → Option Value → Pt → Prop} {PostX : Pt → Array Value → Addr → Pt → Prop} (hK : vx_Back l R p e below s args y 3 W Pre Post PostX)
    {b : Addr} {cellB : Cell} {kB : Class} (hcell : T.heap[b]? = some cellB) (hobj : cellB.vm.isStatics = false) (hkB : s.vm.classes[cellB.cls]? = some kB)
    {g : JFrame} (hg : g.method = m) (hsize : g.locals.size = c.maxLocals) {argsL rest : List Value} (hlen : ∀ sig, parseMethodDescriptor y.desc = some sig → argsL.length = sig.parameters.length)
    (hstack : g.stack = argsL.reverse ++ .ref b :: rest) (hW : 2 * g.monitorRoom + (rest.map fun v => v.category).sum ≤ W) (hdg : decode c.code g.pc = .ok (.invokespecial index, 3))
    (hpre : ∀ vm₁, s.WarmedH vm₁ → Pre ⟨T.setVm vm₁, locs, cells, slots⟩ (Value.ref b :: argsL).toArray) :
    (∃ (v : Option Value) (vm₁ : Vm) (B : Pt), s.WarmedH vm₁ ∧ Stand p l e R s m args below meth c B.U B.locs B.cells B.slots ∧ Post ⟨T.setVm vm₁, locs, cells, slots⟩ (Value.ref b :: argsL).toArray v B ∧
      ∀ target, Steps p.tables e below (B.U.setTop { g with pc := g.pc + 3, stack := v.toList ++ rest }) target → Steps p.tables e below (T.setTop g) target) ∨
    (∃ (q : Addr) (vm₁ : Vm) (B : Pt), s.WarmedH vm₁ ∧ Stand p l e R s m args below meth c B.U B.locs B.cells B.slots ∧ PostX ⟨T.setVm vm₁, locs, cells, slots⟩ (Value.ref b :: argsL).toArray q B ∧
      Steps p.tables e below (T.setTop g) ((B.U.setTop { g with stack := rest }).pushFrame (.throwing q))) := by
  obtain ⟨mk, methM, hnamed, hmethM, hstM, habM⟩ := Cond.instanceMethod_spec hinst
  obtain ⟨methM', cM, hmethM', -, -, -, -, -, -, hsigM⟩ := Cond.code_spec hnamed hcode
  cases hmethM.symm.trans hmethM'
  obtain ⟨ps, dk, kp, hps, hdk, hkp, hsuper, -, -, hnid⟩ := Cond.superclass_spec hown hsup
  have hn : s.methodNamed? ⟨y.cls, y.name, y.desc⟩ = some mk := hnamed
  have hpm : ps = mk.cls := Option.some.inj (hps.symm.trans (findClass_of_methodNamed hnamed))
  have hsub : s.vm.isSubclass ps mk.cls = true := by rw [hpm]; simp [Vm.isSubclass, Vm.isSubclassAux]
  obtain ⟨vm₁, X₁, hstep₁⟩ := X.invokespecialUp hexec hown hlink hsame hn hmethM hstM habM hno hdk hnid hps hsuper hsub (a := b) (cell := cellB) hcell
    (fun z h => by rw [h] at hobj; cases hobj) hkB (g := g) hg (argsL := argsL) (rest := rest) (hlen _ hsigM) hstack hdg
  rcases hK m meth c ⟨T.setVm vm₁, locs, cells, slots⟩ { g with stack := rest } (.invokespecial index) mk (Value.ref b :: argsL).toArray X₁ hg hsize hdg hW (X₁.named hnamed) (hpre vm₁ X₁.warmed) with ⟨v, B, X', hpost, hsteps⟩ | ⟨q, B, X', hpost, hsteps⟩
  · exact Or.inl ⟨v, vm₁, B, X₁.warmed, X', hpost, fun target h => hstep₁ _ (by rw [doInvoke_state]; exact hsteps.trans h)⟩
  · exact Or.inr ⟨q, vm₁, B, X₁.warmed, X', hpost, hstep₁ _ (by rw [doInvoke_state]; exact hsteps)⟩
theorem vx_runSU {y : MethodName} {bytes cc : ByteArray} {maxL nL mc ms n index : Nat} {ret : Option FieldType} {ws : List Cond} {rm : Room} {Pc : Array Value → State → Prop} {Qc : Array Value → State → Outcome → State → Prop} {XC : String → State → State → Prop} {free : Addr → Prop} {Ts : List Cond} {own C : String} {cC : ClassId} {b : Addr} {As rest : List Value} {g : JFrame}
    (hat : ClassAt s C cC) (S : CallFix p m c cc nL s args Ts own) (hM : vx_Met l y ws rm Pc Qc XC mc ms free) (cw : va_CS R s args own index y bytes maxL ret ws rm mc ms n) (hp : PreV s H C b Pc As)
    (hg : g.method = m) (hn : As.length = n) (hsize : g.locals.size = nL) (hstack : g.stack = As.reverse ++ .ref b :: rest) (hW : 2 * g.monitorRoom + (rest.map fun v => v.category).sum ≤ 8) (hdg : decode cc g.pc = .ok (.invokespecial index, 3)) (hf : cells + mc ≤ R.cells ∧ slots + ms ≤ R.slots) :
    vx_Run p l e R s m args below meth c H locs cells slots mc ms g rest (Qc (Value.ref b :: As).toArray) XC free := by
  obtain ⟨⟨hrc, hrs, hfr, hlo, hws, hcw⟩, hl1, hl2, hl3, hl4, hini, hcode, hno, hlen⟩ := cw
  have hK : vx_Back l R p e below s args y 3 8 (PreOf R mc ms Pc) (PostOf Qc mc ms free) (vx_Post XC mc ms free) := vx_back (bytes := bytes) (maxL := maxL) (ret := ret) hM hp.1 hrc hrs hfr hlo hws hcw (fun a' U hW => word_at hW (Or.inl (by first | rfl | simp [Cond.onTables, Cond.keeps, Cond.steady])) hini)
  obtain ⟨hx, hb, hml, ho, -⟩ := S
  obtain ⟨-, ⟨cellB, hcB, hoB, hclB⟩, hPc⟩ := hp
  obtain ⟨hfc, kB, hkB, -⟩ := hat
  cases hfc.symm.trans hclB
  intro T hT X
  rcases vx_callSU X hx (bytes := bytes) (maxL := maxL) (ret := ret) ho hl1 hl2 hl3 hl4 hcode hno hK (by rw [hT]; exact hcB) hoB hkB hg (hsize.trans hml.symm) (argsL := As) (rest := rest) (fun sig h => hn.trans (hlen sig h)) hstack hW (by rw [hb]; exact hdg)
    (fun vm₁ hW₁ => ⟨hf.1, hf.2, hPc (T.setVm vm₁) hT hW₁⟩) with ⟨v, vm₁, ⟨U', l2, c2, s2⟩, hW₁, X', ⟨g', mk, t, L, e1, e2, hq, h1, hL, h2, h3⟩, st⟩ | ⟨q, vm₁, ⟨U', l2, c2, s2⟩, hW₁, X', ⟨g', mk, t, L, E, ce, e1, e2, hq, hce, hcv, hcl, h1, hL, h2, h3⟩, st⟩
  · dsimp only [Pt.U, Pt.locs, Pt.cells, Pt.slots] at X' e1 e2 h1 h2 h3 st
    subst h1; subst h2; subst h3
    exact Or.inl ⟨v, (T.setVm vm₁).calling g' mk (Value.ref b :: As).toArray, t, U', L, hT, X', hL, e1, e2, hq, st⟩
  · dsimp only [Pt.U, Pt.locs, Pt.cells, Pt.slots] at X' e1 e2 h1 h2 h3 st hcl
    subst h1; subst h2; subst h3
    exact Or.inr ⟨q, (T.setVm vm₁).calling g' mk (Value.ref b :: As).toArray, t, U', L, E, ce, hT, X', hL, e1, e2, hq, hce, hcv, vx_cls hW₁ hcl, st⟩
end
/-! ===== END ===== -/
/-! ===== BEGIN a private method of a nest mate that may throw (follows va_callVN, va_callSN, va_runVN, va_runSN) ===== -/
section
variable {p : Program} {l : Launch} {e : Env} {R : Room} {s : State} {m : MethodId} {args : Array Value} {below : List Frame} {meth : Method} {c : Code} {H : Heap} {locs : List Loc} {cells slots : Nat}
variable {T : State}
theorem vx_callVN (X : Stand p l e R s m args below meth c T locs cells slots) (hexec : p.tables.exec = Jvm.exec) {own C : String} {index : Nat} {host : String} {y : MethodName} {bytes : ByteArray} {maxL : Nat} {ret : Option FieldType}
    (hown : s.vm.findClass own = some m.cls) (hlink : (Cond.methodLinkNest own index y host).before args s = true) (hinst : (Cond.instanceMethod y).before args s = true) (hsel : (Cond.selects C y y).before args s = true)
    (hcode : (Cond.code y bytes maxL ret).before args s = true) (hy : y.cls ≠ "java/lang/invoke/MethodHandle" ∧ y.cls ≠ "java/lang/invoke/VarHandle")
    {W : Nat} {Pre : Pt → Array Value → Prop} {Post : Pt → Array Value → Option Value → Pt → Prop} {PostX : Pt → Array Value → Addr → Pt → Prop} (hK : vx_Back l R p e below s args y 3 W Pre Post PostX)
    {b : Addr} {cellB : Cell} (hcell : T.heap[b]? = some cellB) (hobj : cellB.vm.isStatics = false) (hcls : s.vm.findClass C = some cellB.cls)
    {g : JFrame} (hg : g.method = m) (hsize : g.locals.size = c.maxLocals) {argsL rest : List Value} (hlen : ∀ sig, parseMethodDescriptor y.desc = some sig → argsL.length = sig.parameters.length)
    (hstack : g.stack = argsL.reverse ++ .ref b :: rest) (hW : 2 * g.monitorRoom + (rest.map fun v => v.category).sum ≤ W) (hdg : decode c.code g.pc = .ok (.invokevirtual index, 3))
    (hpre : ∀ vm₁, s.WarmedH vm₁ → Pre ⟨T.setVm vm₁, locs, cells, slots⟩ (Value.ref b :: argsL).toArray) :
    (∃ (v : Option Value) (vm₁ : Vm) (B : Pt), s.WarmedH vm₁ ∧ Stand p l e R s m args below meth c B.U B.locs B.cells B.slots ∧ Post ⟨T.setVm vm₁, locs, cells, slots⟩ (Value.ref b :: argsL).toArray v B ∧
      ∀ target, Steps p.tables e below (B.U.setTop { g with pc := g.pc + 3, stack := v.toList ++ rest }) target → Steps p.tables e below (T.setTop g) target) ∨
    (∃ (q : Addr) (vm₁ : Vm) (B : Pt), s.WarmedH vm₁ ∧ Stand p l e R s m args below meth c B.U B.locs B.cells B.slots ∧ PostX ⟨T.setVm vm₁, locs, cells, slots⟩ (Value.ref b :: argsL).toArray q B ∧
      Steps p.tables e below (T.setTop g) ((B.U.setTop { g with stack := rest }).pushFrame (.throwing q))) := by
  obtain ⟨mk, methM, hnamed, hmethM, hstM, habM⟩ := Cond.instanceMethod_spec hinst
  obtain ⟨methM', cM, hmethM', -, -, -, -, -, -, hsigM⟩ := Cond.code_spec hnamed hcode
  cases hmethM.symm.trans hmethM'
  obtain ⟨c2, r2, m2, q1, q2, q3, q4, kP, hkP, hkPi⟩ := Cond.selects_spec hsel
  cases hcls.symm.trans q1
  cases (State.methodFound?_of_named hnamed hy).symm.trans q2
  cases hnamed.symm.trans q3
  have hselP : selectMethod e.platform s.vm cellB.cls mk = .method mk := by rw [Launch.admits_selectMethod X.admits]; exact q4
  obtain ⟨vm₁, X₁, hstep₁⟩ := X.invokevirtualNest hexec hown hlink hnamed hmethM hstM hkP hkPi hy (a := b) (cell := cellB) hcell
    (fun z h => by rw [h] at hobj; cases hobj) hselP hmethM habM hkP hkPi (g := g) hg (argsL := argsL) (rest := rest) (hlen _ hsigM) hstack hdg
  rcases hK m meth c ⟨T.setVm vm₁, locs, cells, slots⟩ { g with stack := rest } (.invokevirtual index) mk (Value.ref b :: argsL).toArray X₁ hg hsize hdg hW (X₁.named hnamed) (hpre vm₁ X₁.warmed) with ⟨v, B, X', hpost, hsteps⟩ | ⟨q, B, X', hpost, hsteps⟩
  · exact Or.inl ⟨v, vm₁, B, X₁.warmed, X', hpost, fun target h => hstep₁ _ fun acts => by rw [doInvoke_state]; exact hsteps.trans h⟩
  · exact Or.inr ⟨q, vm₁, B, X₁.warmed, X', hpost, hstep₁ _ fun acts => by rw [doInvoke_state]; exact hsteps⟩
theorem vx_callSN (X : Stand p l e R s m args below meth c T locs cells slots) (hexec : p.tables.exec = Jvm.exec) {own : String} {index : Nat} {host : String} {y : MethodName} {bytes : ByteArray} {maxL : Nat} {ret : Option FieldType}
    (hown : s.vm.findClass own = some m.cls) (hlink : (Cond.methodLinkNest own index y host).before args s = true) (hstat : (Cond.static y).before args s = true) (hinit : (Cond.initialized y.cls).before args s = true)
    (hcode : (Cond.code y bytes maxL ret).before args s = true) (hy : y.cls ≠ "java/lang/invoke/MethodHandle" ∧ y.cls ≠ "java/lang/invoke/VarHandle")
    {W : Nat} {Pre : Pt → Array Value → Prop} {Post : Pt → Array Value → Option Value → Pt → Prop} {PostX : Pt → Array Value → Addr → Pt → Prop} (hK : vx_Back l R p e below s args y 3 W Pre Post PostX)
    {g : JFrame} (hg : g.method = m) (hsize : g.locals.size = c.maxLocals) {argsL rest : List Value} (hlen : ∀ sig, parseMethodDescriptor y.desc = some sig → argsL.length = sig.parameters.length)
    (hstack : g.stack = argsL.reverse ++ rest) (hW : 2 * g.monitorRoom + (rest.map fun v => v.category).sum ≤ W) (hdg : decode c.code g.pc = .ok (.invokestatic index, 3))
    (hpre : ∀ vm₁, s.WarmedH vm₁ → Pre ⟨T.setVm vm₁, locs, cells, slots⟩ argsL.toArray) :
    (∃ (v : Option Value) (vm₁ : Vm) (B : Pt), s.WarmedH vm₁ ∧ Stand p l e R s m args below meth c B.U B.locs B.cells B.slots ∧ Post ⟨T.setVm vm₁, locs, cells, slots⟩ argsL.toArray v B ∧
      ∀ target, Steps p.tables e below (B.U.setTop { g with pc := g.pc + 3, stack := v.toList ++ rest }) target → Steps p.tables e below (T.setTop g) target) ∨
    (∃ (q : Addr) (vm₁ : Vm) (B : Pt), s.WarmedH vm₁ ∧ Stand p l e R s m args below meth c B.U B.locs B.cells B.slots ∧ PostX ⟨T.setVm vm₁, locs, cells, slots⟩ argsL.toArray q B ∧
      Steps p.tables e below (T.setTop g) ((B.U.setTop { g with stack := rest }).pushFrame (.throwing q))) := by
  obtain ⟨mk, hnamed⟩ := Cond.code_named hcode
  obtain ⟨methM, cM, hmethM, -, -, -, -, -, -, hsigM⟩ := Cond.code_spec hnamed hcode
  have hstatic : methM.isStatic = true := Cond.static_spec hnamed hmethM hstat
  obtain ⟨kP, hkP, -⟩ := className_of_methodNamed hnamed
  have hinitP : kP.init = .initialized := Cond.initialized_spec (findClass_of_methodNamed hnamed) hkP hinit
  obtain ⟨vm₁, X₁, hstep₁⟩ := X.invokestaticNest hexec hown hlink hnamed hmethM hstatic hkP hinitP hy (g := g) hg (argsL := argsL) (rest := rest) (hlen _ hsigM) hstack hdg
  rcases hK m meth c ⟨T.setVm vm₁, locs, cells, slots⟩ { g with stack := rest } (.invokestatic index) mk argsL.toArray X₁ hg hsize hdg hW (X₁.named hnamed) (hpre vm₁ X₁.warmed) with ⟨v, B, X', hpost, hsteps⟩ | ⟨q, B, X', hpost, hsteps⟩
  · exact Or.inl ⟨v, vm₁, B, X₁.warmed, X', hpost, fun target h => hstep₁ _ fun acts => by rw [doInvoke_state]; exact hsteps.trans h⟩
  · exact Or.inr ⟨q, vm₁, B, X₁.warmed, X', hpost, hstep₁ _ fun acts => by rw [doInvoke_state]; exact hsteps⟩
theorem vx_runVN {y : MethodName} {bytes cc : ByteArray} {maxL nL mc ms n index : Nat} {ret : Option FieldType} {ws : List Cond} {rm : Room} {Pc : Array Value → State → Prop} {Qc : Array Value → State → Outcome → State → Prop} {XC : String → State → State → Prop} {free : Addr → Prop} {Ts : List Cond} {own C host : String} {b : Addr} {As rest : List Value} {g : JFrame}
    (S : CallFix p m c cc nL s args Ts own) (hM : vx_Met l y ws rm Pc Qc XC mc ms free) (cw : va_CN R s args own index y host bytes maxL ret ws rm mc ms n ∧ (Cond.instanceMethod y).before args s = true ∧ (Cond.selects C y y).before args s = true) (hp : PreV s H C b Pc As)
    (hg : g.method = m) (hn : As.length = n) (hsize : g.locals.size = nL) (hstack : g.stack = As.reverse ++ .ref b :: rest) (hW : 2 * g.monitorRoom + (rest.map fun v => v.category).sum ≤ 8) (hdg : decode cc g.pc = .ok (.invokevirtual index, 3)) (hf : cells + mc ≤ R.cells ∧ slots + ms ≤ R.slots) :
    vx_Run p l e R s m args below meth c H locs cells slots mc ms g rest (Qc (Value.ref b :: As).toArray) XC free := by
  obtain ⟨⟨⟨hrc, hrs, hfr, hlo, hws, hcw⟩, hcode, hini, hy, hlen, hl⟩, hx1, hx2⟩ := cw
  have hK : vx_Back l R p e below s args y 3 8 (PreOf R mc ms Pc) (PostOf Qc mc ms free) (vx_Post XC mc ms free) := vx_back (bytes := bytes) (maxL := maxL) (ret := ret) hM hp.1 hrc hrs hfr hlo hws hcw (fun a' U hW => word_at hW (Or.inl (by first | rfl | simp [Cond.onTables, Cond.keeps, Cond.steady])) hini)
  obtain ⟨hx, hb, hml, ho, -⟩ := S
  obtain ⟨-, ⟨cellB, hcB, hoB, hclB⟩, hPc⟩ := hp
  intro T hT X
  rcases vx_callVN X hx (C := C) (bytes := bytes) (maxL := maxL) (ret := ret) ho hl hx1 hx2 hcode hy hK (by rw [hT]; exact hcB) hoB hclB hg (hsize.trans hml.symm) (argsL := As) (rest := rest) (fun sig h => hn.trans (hlen sig h)) hstack hW (by rw [hb]; exact hdg)
    (fun vm₁ hW₁ => ⟨hf.1, hf.2, hPc (T.setVm vm₁) hT hW₁⟩) with ⟨v, vm₁, ⟨U', l2, c2, s2⟩, hW₁, X', ⟨g', mk, t, L, e1, e2, hq, h1, hL, h2, h3⟩, st⟩ | ⟨q, vm₁, ⟨U', l2, c2, s2⟩, hW₁, X', ⟨g', mk, t, L, E, ce, e1, e2, hq, hce, hcv, hcl, h1, hL, h2, h3⟩, st⟩
  · dsimp only [Pt.U, Pt.locs, Pt.cells, Pt.slots] at X' e1 e2 h1 h2 h3 st
    subst h1; subst h2; subst h3
    exact Or.inl ⟨v, (T.setVm vm₁).calling g' mk (Value.ref b :: As).toArray, t, U', L, hT, X', hL, e1, e2, hq, st⟩
  · dsimp only [Pt.U, Pt.locs, Pt.cells, Pt.slots] at X' e1 e2 h1 h2 h3 st hcl
    subst h1; subst h2; subst h3
    exact Or.inr ⟨q, (T.setVm vm₁).calling g' mk (Value.ref b :: As).toArray, t, U', L, E, ce, hT, X', hL, e1, e2, hq, hce, hcv, vx_cls hW₁ hcl, st⟩
theorem vx_runSN {y : MethodName} {bytes cc : ByteArray} {maxL nL mc ms n index : Nat} {ret : Option FieldType} {ws : List Cond} {rm : Room} {Pc : Array Value → State → Prop} {Qc : Array Value → State → Outcome → State → Prop} {XC : String → State → State → Prop} {free : Addr → Prop} {Ts : List Cond} {own host : String} {As rest : List Value} {g : JFrame}
    (S : CallFix p m c cc nL s args Ts own) (hM : vx_Met l y ws rm Pc Qc XC mc ms free) (cw : va_CN R s args own index y host bytes maxL ret ws rm mc ms n ∧ (Cond.static y).before args s = true ∧ True) (hp : PreS s H Pc As)
    (hg : g.method = m) (hn : As.length = n) (hsize : g.locals.size = nL) (hstack : g.stack = As.reverse ++ rest) (hW : 2 * g.monitorRoom + (rest.map fun v => v.category).sum ≤ 8) (hdg : decode cc g.pc = .ok (.invokestatic index, 3)) (hf : cells + mc ≤ R.cells ∧ slots + ms ≤ R.slots) :
    vx_Run p l e R s m args below meth c H locs cells slots mc ms g rest (Qc As.toArray) XC free := by
  obtain ⟨⟨⟨hrc, hrs, hfr, hlo, hws, hcw⟩, hcode, hini, hy, hlen, hl⟩, hx1, hx2⟩ := cw
  have hK : vx_Back l R p e below s args y 3 8 (PreOf R mc ms Pc) (PostOf Qc mc ms free) (vx_Post XC mc ms free) := vx_back (bytes := bytes) (maxL := maxL) (ret := ret) hM hp.1 hrc hrs hfr hlo hws hcw (fun a' U hW => word_at hW (Or.inl (by first | rfl | simp [Cond.onTables, Cond.keeps, Cond.steady])) hini)
  obtain ⟨hx, hb, hml, ho, -⟩ := S
  have hPc := hp.2
  intro T hT X
  rcases vx_callSN X hx (bytes := bytes) (maxL := maxL) (ret := ret) ho hl hx1 hini hcode hy hK hg (hsize.trans hml.symm) (argsL := As) (rest := rest) (fun sig h => hn.trans (hlen sig h)) hstack hW (by rw [hb]; exact hdg)
    (fun vm₁ hW₁ => ⟨hf.1, hf.2, hPc (T.setVm vm₁) hT hW₁⟩) with ⟨v, vm₁, ⟨U', l2, c2, s2⟩, hW₁, X', ⟨g', mk, t, L, e1, e2, hq, h1, hL, h2, h3⟩, st⟩ | ⟨q, vm₁, ⟨U', l2, c2, s2⟩, hW₁, X', ⟨g', mk, t, L, E, ce, e1, e2, hq, hce, hcv, hcl, h1, hL, h2, h3⟩, st⟩
  · dsimp only [Pt.U, Pt.locs, Pt.cells, Pt.slots] at X' e1 e2 h1 h2 h3 st
    subst h1; subst h2; subst h3
    exact Or.inl ⟨v, (T.setVm vm₁).calling g' mk As.toArray, t, U', L, hT, X', hL, e1, e2, hq, st⟩
  · dsimp only [Pt.U, Pt.locs, Pt.cells, Pt.slots] at X' e1 e2 h1 h2 h3 st hcl
    subst h1; subst h2; subst h3
    exact Or.inr ⟨q, (T.setVm vm₁).calling g' mk As.toArray, t, U', L, E, ce, hT, X', hL, e1, e2, hq, hce, hcv, vx_cls hW₁ hcl, st⟩
end
/-! ===== END ===== -/
end
section
/-! ## NE: a thin layer over W: worlds by places, whole numbers for ints -/
section NEA
def ne_v (ad : Nat → Nat) (v : Value) : Value := match v with
  | .ref k => .ref (ad k)
  | w => w
theorem ne_v_cat (ad : Nat → Nat) (v : Value) : (ne_v ad v).category = v.category := by cases v <;> rfl
/-- an int, a long, by a whole number -/
abbrev ni (z : Int) : Value := .int (Int32.ofInt z)
abbrev nl (z : Int) : Value := .long (Int64.ofInt z)
/-- a cell: an array (its kind, its length, its contents), an object (its class, its fields) -/
abbrev ne_E : Type := (Nat × Nat × (Nat → Int)) ⊕ (Nat × List Value)
abbrev ne_W : Type := List (Option ne_E)
def ne_c (ct : Nat → ClassId) (ad : Nat → Nat) (e : ne_E) : va_E := match e with
  | .inl a => .inl (ct a.1, a.2.1, .inl (fun j => Int32.ofInt (a.2.2 j)))
  | .inr o => .inr (o.1, o.2.map (ne_v ad))
def ne_w (ct : Nat → ClassId) (ad : Nat → Nat) : Nat → ne_W → va_W
  | _, [] => []
  | k, none :: t => ne_w ct ad (k + 1) t
  | k, some e :: t => (ad k, ne_c ct ad e) :: ne_w ct ad (k + 1) t
theorem ne_w_mem {ct : Nat → ClassId} {ad : Nat → Nat} : ∀ {ws : ne_W} {k : Nat} {q : Nat × va_E}, q ∈ ne_w ct ad k ws ↔ ∃ (i : Nat) (e : ne_E), ws[i]? = some (some e) ∧ q = (ad (k + i), ne_c ct ad e)
  | [], k, q => by simp [ne_w]
  | none :: t, k, q => by
    rw [ne_w, ne_w_mem]
    constructor
    · rintro ⟨i, e, h1, h2⟩
      exact ⟨i + 1, e, by simpa using h1, by rw [h2]; congr 2; omega⟩
    · rintro ⟨i, e, h1, h2⟩
      cases i with
      | zero => simp at h1
      | succ i => exact ⟨i, e, by simpa using h1, by rw [h2]; congr 2; omega⟩
  | some e0 :: t, k, q => by
    rw [ne_w, List.mem_cons, ne_w_mem]
    constructor
    · rintro (h | ⟨i, e, h1, h2⟩)
      · exact ⟨0, e0, rfl, h⟩
      · exact ⟨i + 1, e, by simpa using h1, by rw [h2]; congr 2; omega⟩
    · rintro ⟨i, e, h1, h2⟩
      cases i with
      | zero =>
        have : e0 = e := by simpa using h1
        subst this
        exact Or.inl h2
      | succ i => exact Or.inr ⟨i, e, by simpa using h1, by rw [h2]; congr 2; omega⟩
theorem ne_w_set {ct : Nat → ClassId} {ad : Nat → Nat} : ∀ {ws : ne_W} {k i : Nat} {e : ne_E}, ws[i]? = some (some e) → ∃ q0 : Nat, (ne_w ct ad k ws)[q0]? = some (ad (k + i), ne_c ct ad e) ∧ ∀ e' : ne_E, (ne_w ct ad k ws).set q0 (ad (k + i), ne_c ct ad e') = ne_w ct ad k (ws.set i (some e'))
  | [], k, i, e, h => by simp at h
  | none :: t, k, i, e, h => by
    cases i with
    | zero => simp at h
    | succ i =>
      obtain ⟨q0, h1, h2⟩ := ne_w_set (ct := ct) (ad := ad) (k := k + 1) (ws := t) (i := i) (e := e) (by simpa using h)
      have e1 : k + 1 + i = k + (i + 1) := by omega
      rw [e1] at h1 h2
      refine ⟨q0, by rw [ne_w]; exact h1, fun e' => ?_⟩
      rw [List.set_cons_succ, ne_w, ne_w]
      exact h2 e'
  | some e0 :: t, k, i, e, h => by
    cases i with
    | zero =>
      have : e0 = e := by simpa using h
      subst this
      refine ⟨0, by rw [ne_w]; rfl, fun e' => ?_⟩
      rw [List.set_cons_zero, ne_w, ne_w, List.set_cons_zero]
      rfl
    | succ i =>
      obtain ⟨q0, h1, h2⟩ := ne_w_set (ct := ct) (ad := ad) (k := k + 1) (ws := t) (i := i) (e := e) (by simpa using h)
      have e1 : k + 1 + i = k + (i + 1) := by omega
      rw [e1] at h1 h2
      refine ⟨q0 + 1, by rw [ne_w]; simpa using h1, fun e' => ?_⟩
      rw [List.set_cons_succ, ne_w, ne_w, List.set_cons_succ, h2 e']
theorem ne_w_app {ct : Nat → ClassId} {ad : Nat → Nat} {e : ne_E} : ∀ {ws : ne_W} {k : Nat}, ne_w ct ad k (ws ++ [some e]) = ne_w ct ad k ws ++ [(ad (k + ws.length), ne_c ct ad e)]
  | [], k => by simp [ne_w]
  | none :: t, k => by
    rw [List.cons_append, ne_w, ne_w, ne_w_app]
    simp only [List.length_cons]
    rw [show k + 1 + t.length = k + (t.length + 1) by omega]
  | some e0 :: t, k => by
    rw [List.cons_append, ne_w, ne_w, ne_w_app, List.cons_append]
    simp only [List.length_cons]
    rw [show k + 1 + t.length = k + (t.length + 1) by omega]
theorem ne_w_appN {ct : Nat → ClassId} {ad : Nat → Nat} : ∀ {ws : ne_W} {k : Nat}, ne_w ct ad k (ws ++ [none]) = ne_w ct ad k ws
  | [], k => by simp [ne_w]
  | none :: t, k => by rw [List.cons_append, ne_w, ne_w, ne_w_appN]
  | some e0 :: t, k => by rw [List.cons_append, ne_w, ne_w, ne_w_appN]
/-- references below n alone -/
def ne_ok (n : Nat) (v : Value) : Bool := match v with
  | .ref k => decide (k < n)
  | _ => true
def ne_okE (n : Nat) (e : Option ne_E) : Bool := match e with
  | some (.inr o) => o.2.all (ne_ok n)
  | _ => true
def ne_okL (n : Nat) (o : Option Value) : Bool := match o with
  | some v => ne_ok n v
  | none => true
def ne_cw (n : Nat) (ws : ne_W) : Bool := ws.all (ne_okE n)
def ne_cs (n : Nat) (st : List Value) : Bool := st.all (ne_ok n)
def ne_cl (n : Nat) (L : List (Option Value)) : Bool := L.all (ne_okL n)
theorem ne_v_eq {n : Nat} {ad ad' : Nat → Nat} (ha : ∀ k, k < n → ad' k = ad k) {v : Value} (h : ne_ok n v = true) : ne_v ad' v = ne_v ad v := by
  cases v with
  | ref k => simp only [ne_ok, decide_eq_true_eq] at h; simp only [ne_v, ha k h]
  | _ => rfl
theorem ne_s_eq {n : Nat} {ad ad' : Nat → Nat} (ha : ∀ k, k < n → ad' k = ad k) {st : List Value} (h : ne_cs n st = true) : st.map (ne_v ad') = st.map (ne_v ad) :=
  List.map_congr_left fun v hv => ne_v_eq ha (List.all_eq_true.mp h v hv)
theorem ne_c_eq {n : Nat} {ct : Nat → ClassId} {ad ad' : Nat → Nat} (ha : ∀ k, k < n → ad' k = ad k) {e : ne_E} (h : ne_okE n (some e) = true) : ne_c ct ad' e = ne_c ct ad e := by
  cases e with
  | inl a => rfl
  | inr o =>
    have h2 : ne_cs n o.2 = true := h
    simp only [ne_c, ne_s_eq ha h2]
theorem ne_w_eq {n : Nat} {ct : Nat → ClassId} {ad ad' : Nat → Nat} (ha : ∀ k, k < n → ad' k = ad k) : ∀ {ws : ne_W} {k : Nat}, ne_cw n ws = true → k + ws.length ≤ n → ne_w ct ad' k ws = ne_w ct ad k ws
  | [], k, _, _ => rfl
  | none :: t, k, h, hk => by
    rw [ne_w, ne_w]
    have h2 : ne_cw n t = true := by simp only [ne_cw, List.all_cons, Bool.and_eq_true] at h ⊢; exact h.2
    exact ne_w_eq ha h2 (by simp only [List.length_cons] at hk; omega)
  | some e :: t, k, h, hk => by
    rw [ne_w, ne_w]
    simp only [ne_cw, List.all_cons, Bool.and_eq_true] at h
    have h2 : ne_cw n t = true := h.2
    simp only [List.length_cons] at hk
    rw [ne_w_eq ha h2 (by omega), ne_c_eq ha h.1, ha k (by omega)]
def ne_up (ad : Nat → Nat) (n q : Nat) : Nat → Nat := fun k => if k = n then q else ad k
theorem ne_up_self {ad : Nat → Nat} {n q : Nat} : ne_up ad n q n = q := by simp [ne_up]
theorem ne_up_lt {ad : Nat → Nat} {n q k : Nat} (h : k < n) : ne_up ad n q k = ad k := by simp [ne_up, Nat.ne_of_lt h]
/-! locals, by places -/
def ne_l (ad : Nat → Nat) : Nat → List (Option Value) → List (Nat × Value)
  | _, [] => []
  | i, none :: t => ne_l ad (i + 1) t
  | i, some v :: t => (i, ne_v ad v) :: ne_l ad (i + 1) t
theorem ne_l_mem {ad : Nat → Nat} : ∀ {L : List (Option Value)} {i : Nat} {q : Nat × Value}, q ∈ ne_l ad i L ↔ ∃ (k : Nat) (v : Value), L[k]? = some (some v) ∧ q = (i + k, ne_v ad v)
  | [], i, q => by simp [ne_l]
  | none :: t, i, q => by
    rw [ne_l, ne_l_mem]
    constructor
    · rintro ⟨k, v, h1, h2⟩
      exact ⟨k + 1, v, by simpa using h1, by rw [h2]; congr 1; omega⟩
    · rintro ⟨k, v, h1, h2⟩
      cases k with
      | zero => simp at h1
      | succ k => exact ⟨k, v, by simpa using h1, by rw [h2]; congr 1; omega⟩
  | some v0 :: t, i, q => by
    rw [ne_l, List.mem_cons, ne_l_mem]
    constructor
    · rintro (h | ⟨k, v, h1, h2⟩)
      · exact ⟨0, v0, rfl, h⟩
      · exact ⟨k + 1, v, by simpa using h1, by rw [h2]; congr 1; omega⟩
    · rintro ⟨k, v, h1, h2⟩
      cases k with
      | zero =>
        have : v0 = v := by simpa using h1
        subst this
        exact Or.inl h2
      | succ k => exact Or.inr ⟨k, v, by simpa using h1, by rw [h2]; congr 1; omega⟩
theorem ne_l_eq {n : Nat} {ad ad' : Nat → Nat} (ha : ∀ k, k < n → ad' k = ad k) : ∀ {L : List (Option Value)} {i : Nat}, ne_cl n L = true → ne_l ad' i L = ne_l ad i L
  | [], i, _ => rfl
  | none :: t, i, h => by
    rw [ne_l, ne_l]
    simp only [ne_cl, List.all_cons, Bool.and_eq_true] at h
    exact ne_l_eq ha h.2
  | some v :: t, i, h => by
    rw [ne_l, ne_l]
    simp only [ne_cl, List.all_cons, Bool.and_eq_true] at h
    rw [ne_l_eq ha (L := t) h.2, ne_v_eq ha h.1]
/-- what a store at i leaves of the locals ahead of it: not a long whose second half it was -/
def ne_kj (L : List (Option Value)) (j : Nat) : List (Option Value) := match L[j]? with
  | some (some (.long _)) => L.set j none
  | some (some (.double _)) => L.set j none
  | _ => L
def ne_k (L : List (Option Value)) (i : Nat) : List (Option Value) := match i with
  | 0 => L
  | j + 1 => ne_kj L j
def ne_s1 (L : List (Option Value)) (i : Nat) (v : Value) : List (Option Value) := (ne_k L i).set i (some v)
def ne_s2 (L : List (Option Value)) (i : Nat) (v : Value) : List (Option Value) := ((ne_k L i).set i (some v)).set (i + 1) none
theorem ne_k_at {L : List (Option Value)} {i k : Nat} {v : Value} (h : (ne_k L i)[k]? = some (some v)) : L[k]? = some (some v) ∧ ¬ (k + 1 = i ∧ v.category = 2) := by
  cases i with
  | zero => exact ⟨h, fun q => by omega⟩
  | succ j =>
    have h : (ne_kj L j)[k]? = some (some v) := h
    have key : ∀ w : Value, L[j]? = some (some w) → w.category = 2 → ne_kj L j = L.set j none := by
      intro w hw hc
      cases w <;> simp [Value.category] at hc <;> simp [ne_kj, hw]
    by_cases hkj : k = j
    · subst hkj
      by_cases hc : ∃ w : Value, L[k]? = some (some w) ∧ w.category = 2
      · obtain ⟨w, hw, hw2⟩ := hc
        rw [key w hw hw2, List.getElem?_set] at h
        have hlt : k < L.length := (List.getElem?_eq_some_iff.mp hw).1
        simp [hlt] at h
      · have e1 : ne_kj L k = L := by
          unfold ne_kj
          split
          next w hw => exact absurd ⟨_, hw, rfl⟩ hc
          next w hw => exact absurd ⟨_, hw, rfl⟩ hc
          next => rfl
        rw [e1] at h
        exact ⟨h, fun q => hc ⟨v, h, q.2⟩⟩
    · have h2 : L[k]? = some (some v) := by
        unfold ne_kj at h
        split at h
        · rw [List.getElem?_set_ne (fun q => hkj q.symm)] at h; exact h
        · rw [List.getElem?_set_ne (fun q => hkj q.symm)] at h; exact h
        · exact h
      exact ⟨h2, fun q => hkj (by omega)⟩
theorem ne_st1 {ad : Nat → Nat} {ls : Array Slot} {nL i : Nat} {L : List (Option Value)} {v w : Value} (hv : w = ne_v ad v) (h : lv_has ls nL ((i, w) :: (ne_l ad 0 L).filter (fun q => !(q.1 == i) && !(q.1 + 1 == i && q.2.category == 2)))) : lv_has ls nL (ne_l ad 0 (ne_s1 L i v)) := by
  subst hv
  refine ⟨h.1, h.2.1, fun q hq => h.2.2 q ?_⟩
  obtain ⟨k, u, h1, h2⟩ := ne_l_mem.mp hq
  rw [Nat.zero_add] at h2
  subst h2
  by_cases hk : k = i
  · subst hk
    unfold ne_s1 at h1
    rw [List.getElem?_set] at h1
    split at h1
    · split at h1
      · have : v = u := by simpa using h1
        subst this
        exact List.mem_cons_self
      · cases h1
    · rename_i hne; exact absurd rfl hne
  · unfold ne_s1 at h1
    rw [List.getElem?_set_ne (fun q => hk q.symm)] at h1
    obtain ⟨h3, h4⟩ := ne_k_at h1
    refine List.mem_cons_of_mem _ (List.mem_filter.mpr ⟨ne_l_mem.mpr ⟨k, u, h3, by rw [Nat.zero_add]⟩, ?_⟩)
    simp only [ne_v_cat]
    simp only [Bool.and_eq_true, Bool.not_eq_true', beq_eq_false_iff_ne, ne_eq]
    refine ⟨hk, ?_⟩
    simp only [Bool.and_eq_false_iff, beq_eq_false_iff_ne, ne_eq]
    by_cases h5 : k + 1 = i
    · exact Or.inr fun h6 => h4 ⟨h5, h6⟩
    · exact Or.inl h5
theorem ne_st2 {ad : Nat → Nat} {ls : Array Slot} {nL i : Nat} {L : List (Option Value)} {v w : Value} (hv : w = ne_v ad v) (h : lv_has ls nL ((i, w) :: (ne_l ad 0 L).filter (fun q => !(q.1 == i) && (!(q.1 == i + 1) && !(q.1 + 1 == i && q.2.category == 2))))) : lv_has ls nL (ne_l ad 0 (ne_s2 L i v)) := by
  subst hv
  refine ⟨h.1, h.2.1, fun q hq => h.2.2 q ?_⟩
  obtain ⟨k, u, h1, h2⟩ := ne_l_mem.mp hq
  rw [Nat.zero_add] at h2
  subst h2
  unfold ne_s2 at h1
  by_cases hk1 : k = i + 1
  · subst hk1
    rw [List.getElem?_set] at h1
    split at h1
    · split at h1
      · cases h1
      · cases h1
    · rename_i hne; exact absurd rfl hne
  rw [List.getElem?_set_ne (fun q => hk1 q.symm)] at h1
  by_cases hk : k = i
  · subst hk
    rw [List.getElem?_set] at h1
    split at h1
    · split at h1
      · have : v = u := by simpa using h1
        subst this
        exact List.mem_cons_self
      · cases h1
    · rename_i hne; exact absurd rfl hne
  · rw [List.getElem?_set_ne (fun q => hk q.symm)] at h1
    obtain ⟨h3, h4⟩ := ne_k_at h1
    refine List.mem_cons_of_mem _ (List.mem_filter.mpr ⟨ne_l_mem.mpr ⟨k, u, h3, by rw [Nat.zero_add]⟩, ?_⟩)
    simp only [ne_v_cat]
    simp only [Bool.and_eq_true, Bool.not_eq_true', beq_eq_false_iff_ne, ne_eq]
    refine ⟨hk, hk1, ?_⟩
    simp only [Bool.and_eq_false_iff, beq_eq_false_iff_ne, ne_eq]
    by_cases h5 : k + 1 = i
    · exact Or.inr fun h6 => h4 ⟨h5, h6⟩
    · exact Or.inl h5
/-- the locals at the entry -/
def ne_a : List Value → List (Option Value)
  | [] => []
  | v :: t => if v.category = 2 then some v :: none :: ne_a t else some v :: ne_a t
theorem ne_a_args {ad : Nat → Nat} : ∀ {as : List Value} {i : Nat}, ne_l ad i (ne_a as) = lv_args i (as.map (ne_v ad))
  | [], i => rfl
  | v :: t, i => by
    rw [ne_a, List.map_cons, lv_args, ne_v_cat]
    by_cases h : v.category = 2
    · rw [if_pos h, if_pos h, ne_l, ne_l, ne_a_args]
    · rw [if_neg h, if_neg h, ne_l, ne_a_args]
theorem ne_l_pad {ad : Nat → Nat} {n : Nat} : ∀ {L : List (Option Value)} {i : Nat}, ne_l ad i (L ++ List.replicate n none) = ne_l ad i L
  | [], i => by
    rw [List.nil_append]
    show ne_l ad i (List.replicate n none) = []
    induction n generalizing i with
    | zero => rfl
    | succ n ih =>
      rw [List.replicate_succ, ne_l]
      exact ih _
  | none :: t, i => by rw [List.cons_append, ne_l, ne_l, ne_l_pad]
  | some v :: t, i => by rw [List.cons_append, ne_l, ne_l, ne_l_pad]
end NEA
section NEB
def ne_ty (ct : Nat → ClassId) : List (ClassId × FieldType) := [(ct 0, .int), (ct 1, .byte)]
/-- the constant texts that are loaded: class, place in its pool, text -/
def ne_sl : List (String × Nat × String) := [("Ninewheel", 164, "-9"), ("Ninewheel", 234, "no such cell"), ("Ninewheel", 239, "no such wheel"), ("Ninewheel", 243, "an argument is out of its bounds"), ("Ninewheel", 248, "a bottom is divided by 2 or by 5"), ("NinewheelModel", 126, ""), ("NinewheelModel", 164, "-9")]
/-- nest mates' private methods and fields that are linked: class, place in its pool, which, the host -/
def ne_nm : List (String × Nat × MethodName × String) := [("Ninewheel", 33, ⟨"Ninewheel$LongNumber", "<init>", "()V"⟩, "Ninewheel"), ("Ninewheel", 274, ⟨"Ninewheel$LongNumber", "clear", "()V"⟩, "Ninewheel"), ("Ninewheel", 277, ⟨"Ninewheel$LongNumber", "raise", "(II)V"⟩, "Ninewheel"), ("Ninewheel", 280, ⟨"Ninewheel$LongNumber", "carry", "()V"⟩, "Ninewheel"), ("Ninewheel", 283, ⟨"Ninewheel$LongNumber", "becomeNines", "(II)V"⟩, "Ninewheel"), ("Ninewheel", 286, ⟨"Ninewheel$LongNumber", "isLike", "(LNinewheel$LongNumber;)Z"⟩, "Ninewheel"), ("NinewheelLaw", 172, ⟨"NinewheelLaw$Out", "<init>", "()V"⟩, "NinewheelLaw"), ("Ninewheel", 169, ⟨"Ninewheel$LongNumber", "written", "()Ljava/lang/String;"⟩, "Ninewheel"), ("Ninewheel$LongNumber", 26, ⟨"Ninewheel", "signOfDigit", "(I)C"⟩, "Ninewheel")]
def ne_nf : List (String × Nat × String × String × String × String) := [("NinewheelLaw", 13, "NinewheelLaw$Out", "n", "J", "NinewheelLaw"), ("NinewheelLaw", 100, "NinewheelLaw$Out", "s", "Ljava/lang/String;", "NinewheelLaw")]
def ne_ca : List (String × String) := [("java/lang/IndexOutOfBoundsException", "java/lang/IndexOutOfBoundsException"), ("java/lang/IllegalArgumentException", "java/lang/IllegalArgumentException"), ("[B", "java/lang/Cloneable")]
def ne_cb : List (String × String) := [("java/lang/IllegalArgumentException", "java/lang/IndexOutOfBoundsException"), ("java/lang/IndexOutOfBoundsException", "java/lang/IllegalArgumentException")]
def ne_de : List MethodName := [⟨"java/lang/RuntimeException", "<init>", "(Ljava/lang/String;)V"⟩, ⟨"java/lang/Exception", "<init>", "(Ljava/lang/String;)V"⟩, ⟨"java/lang/Throwable", "<init>", "(Ljava/lang/String;)V"⟩]
def ne_N (U : State) : Prop := (∀ q ∈ ne_nm, va_Nw (.methodLinkNest q.1 q.2.1 q.2.2.1 q.2.2.2) U) ∧ (∀ q ∈ ne_nf, va_Nw (.fieldLinkNest q.1 q.2.1 q.2.2.1 q.2.2.2.1 q.2.2.2.2.1 q.2.2.2.2.2) U) ∧ (∀ q ∈ ne_ca, va_Nw (.castable q.1 q.2) U) ∧ (∀ q ∈ ne_cb, va_Nc q.1 q.2 U) ∧ ∀ q ∈ ne_de, va_Nw (.declares q) U
theorem ne_N.same {u U : State} (hv : U.vm = u.vm) (h : ne_N u) : ne_N U := ⟨fun q hq => (h.1 q hq).same rfl hv.symm, fun q hq => (h.2.1 q hq).same rfl hv.symm, fun q hq => (h.2.2.1 q hq).same rfl hv.symm, fun q hq => (h.2.2.2.1 q hq).moved (by rw [hv]; exact Vm.Alike.refl _), fun q hq => (h.2.2.2.2 q hq).same rfl hv.symm⟩
theorem ne_N.warm {s U : State} (hW : s.WarmedH U.vm) (h : ne_N s) : ne_N U := ⟨fun q hq => (h.1 q hq).warmM hW, fun q hq => (h.2.1 q hq).warmF hW, fun q hq => (h.2.2.1 q hq).warmC hW, fun q hq => (h.2.2.2.1 q hq).moved hW.alike, fun q hq => (h.2.2.2.2 q hq).warmD hW⟩
def ne_R (U : State) : Prop := ∀ q ∈ ne_sl, ∃ a, vk_R q.1 q.2.1 q.2.2 a U
theorem ne_R.same {u U : State} (hv : U.vm = u.vm) (h : ne_R u) : ne_R U := fun q hq => by
  obtain ⟨a, ha⟩ := h q hq
  exact ⟨a, vk_R.same hv ha⟩
theorem ne_R.warm {s U : State} (hW : s.WarmedH U.vm) (h : ne_R s) : ne_R U := fun q hq => by
  obtain ⟨a, ha⟩ := h q hq
  exact ⟨a, vk_R.warm hW ha⟩
/-- statics that are read: where they lie, what they hold -/
def ne_Z (A : Nat → Prop) (U : State) (H : Heap) : Prop := vx_Zq Bundle.tN "UNASSIGNED_STACK" Bundle.steD A U H ∧ vx_Zq Bundle.tN "SUPPRESSED_SENTINEL" Bundle.listD A U H ∧ va_Z "java/lang/String" "COMPACT_STRINGS" "Z" (.int 1) A U H ∧ ne_R U ∧ ne_N U
theorem ne_Z.kept {A : Nat → Prop} {U : State} {H H1 : Heap} (h : ne_Z A U H) (hq : ∀ a : Nat, a < H.size → ¬ A a → H1[a]? = H[a]?) : ne_Z A U H1 := ⟨h.1.kept hq, h.2.1.kept hq, va_Z.kept h.2.2.1 hq, h.2.2.2⟩
theorem ne_Z.narrow {A B : Nat → Prop} {U : State} {H : Heap} (h : ne_Z A U H) (hAB : ∀ q, B q → A q) : ne_Z B U H := ⟨h.1.narrow hAB, h.2.1.narrow hAB, va_Z.narrow h.2.2.1 hAB, h.2.2.2⟩
theorem ne_Z.warm {A : Nat → Prop} {s U : State} {H : Heap} (hW : s.WarmedH U.vm) (h : ne_Z A s H) : ne_Z A U H := ⟨h.1.moved hW.alike, h.2.1.moved hW.alike, va_Z.moved hW.alike h.2.2.1, h.2.2.2.1.warm hW, h.2.2.2.2.warm hW⟩
theorem ne_Z.same {A : Nat → Prop} {u U : State} {H : Heap} (hv : U.vm = u.vm) (h : ne_Z A u H) : ne_Z A U H := by
  have ha : u.vm.Alike U.vm := by rw [hv]; exact Vm.Alike.refl _
  exact ⟨h.1.moved ha, h.2.1.moved ha, va_Z.moved ha h.2.2.1, h.2.2.2.1.same hv, h.2.2.2.2.same hv⟩
/-- what a frame stands on -/
def ne_F (cl : List vw_C) (D : va_G) (ct : Nat → ClassId) (A : Nat → Prop) (p : Program) (l : Launch) (R : Room) (s : State) (m : MethodId) (args : Array Value) (meth : Method) (c : Code) (own : String) (cc : ByteArray) (nL : Nat) (Ts : List Cond) (fr lo mc ms : Nat) : Prop :=
  CallFix p m c cc nL s args Ts own ∧ va_K D cl (ne_ty ct) s ∧ (∀ q, s.heap.size ≤ q → A q) ∧ fr ≤ R.frames ∧ lo ≤ R.locals ∧ mc ≤ R.cells ∧ ms ≤ R.slots ∧ ne_Z A s s.heap ∧ meth.locks = false ∧ l.stackTraces = false
/-- the machine at pc, with locals L, stack st, a world ws, C cells and S slots still free: comes to Q -/
def ne_G (cl : List vw_C) (D : va_G) (ct : Nat → ClassId) (A : Nat → Prop) (n0 : Nat) (ad0 : Nat → Nat) (p : Program) (l : Launch) (e : Env) (R : Room) (s : State) (m : MethodId) (args : Array Value) (below : List Frame) (meth : Method) (c : Code) (Q : State → Prop) (nL mc ms C S pc : Nat) (L : List (Option Value)) (st : List Value) (ws : ne_W) : Prop :=
  ∀ (H : Heap) (locs : List Loc) (cells slots : Nat) (ad : Nat → Nat) (ls : Array Slot), (∀ k, k < n0 → ad k = ad0 k) → cells + C ≤ mc → slots + S ≤ ms → va_P D cl (ne_w ct ad 0 ws) H → va_D A (ne_w ct ad 0 ws) → va_S A s.heap H locs → lv_has ls nL (ne_l ad 0 L) → W p l e R s m args below meth c H locs cells slots Q (F0 m pc ls (st.map (ne_v ad)))
variable {cl : List vw_C} {D : va_G} {ct : Nat → ClassId} {A : Nat → Prop} {n0 : Nat} {ad0 : Nat → Nat} {p : Program} {l : Launch} {e : Env} {R : Room} {s : State} {m : MethodId} {args : Array Value} {below : List Frame} {meth : Method} {c : Code} {Q : State → Prop} {own : String} {cc : ByteArray} {nL : Nat} {Ts : List Cond} {fr lo mc ms C S pc : Nat} {L : List (Option Value)} {st : List Value} {ws : ne_W}
theorem ne_toI {z : Int} (h1 : -2147483648 ≤ z) (h2 : z < 2147483648) : (Int32.ofInt z).toInt = z := Int32.toInt_ofInt_of_le (by rw [show (2 : Int) ^ 31 = 2147483648 from rfl]; exact h1) (by rw [show (2 : Int) ^ 31 = 2147483648 from rfl]; exact h2)
theorem ne_toL {z : Int} (h1 : -9223372036854775808 ≤ z) (h2 : z < 9223372036854775808) : (Int64.ofInt z).toInt = z := Int64.toInt_ofInt_of_le (by rw [show (2 : Int) ^ 63 = 9223372036854775808 from rfl]; exact h1) (by rw [show (2 : Int) ^ 63 = 9223372036854775808 from rfl]; exact h2)
theorem ne_divI {x y : Int} (hx : -2147483648 ≤ x ∧ x < 2147483648) (hy : -2147483648 ≤ y ∧ y < 2147483648) : Int32.ofInt x / Int32.ofInt y = Int32.ofInt (x.tdiv y) := Int32.toInt_inj.mp (by rw [Int32.toInt_div, ne_toI hx.1 hx.2, ne_toI hy.1 hy.2, Int32.toInt_ofInt])
theorem ne_modI {x y : Int} (hx : -2147483648 ≤ x ∧ x < 2147483648) (hy : -2147483648 ≤ y ∧ y < 2147483648) : Int32.ofInt x - Int32.ofInt x / Int32.ofInt y * Int32.ofInt y = Int32.ofInt (x.tmod y) := by
  rw [ne_divI hx hy, ← Int32.ofInt_mul, ← Int32.ofInt_sub, Int.tmod_def, Int.mul_comm]
theorem ne_divL {x y : Int} (hx : -9223372036854775808 ≤ x ∧ x < 9223372036854775808) (hy : -9223372036854775808 ≤ y ∧ y < 9223372036854775808) : Int64.ofInt x / Int64.ofInt y = Int64.ofInt (x.tdiv y) := Int64.toInt_inj.mp (by rw [Int64.toInt_div, ne_toL hx.1 hx.2, ne_toL hy.1 hy.2, Int64.toInt_ofInt])
theorem ne_modL {x y : Int} (hx : -9223372036854775808 ≤ x ∧ x < 9223372036854775808) (hy : -9223372036854775808 ≤ y ∧ y < 9223372036854775808) : Int64.ofInt x - Int64.ofInt x / Int64.ofInt y * Int64.ofInt y = Int64.ofInt (x.tmod y) := by
  rw [ne_divL hx hy, ← Int64.ofInt_mul, ← Int64.ofInt_sub, Int.tmod_def, Int.mul_comm]
theorem ne_eqI {x y : Int} (hx : -2147483648 ≤ x ∧ x < 2147483648) (hy : -2147483648 ≤ y ∧ y < 2147483648) : (Int32.ofInt x = Int32.ofInt y) ↔ x = y := ⟨fun h => by rw [← ne_toI hx.1 hx.2, h, ne_toI hy.1 hy.2], fun h => by rw [h]⟩
theorem ne_ltI {x y : Int} (hx : -2147483648 ≤ x ∧ x < 2147483648) (hy : -2147483648 ≤ y ∧ y < 2147483648) : (Int32.ofInt x < Int32.ofInt y) ↔ x < y := by rw [Int32.lt_iff_toInt_lt, ne_toI hx.1 hx.2, ne_toI hy.1 hy.2]
theorem ne_leI {x y : Int} (hx : -2147483648 ≤ x ∧ x < 2147483648) (hy : -2147483648 ≤ y ∧ y < 2147483648) : (Int32.ofInt x ≤ Int32.ofInt y) ↔ x ≤ y := by rw [Int32.le_iff_toInt_le, ne_toI hx.1 hx.2, ne_toI hy.1 hy.2]
theorem ne_ltL {x y : Int} (hx : -9223372036854775808 ≤ x ∧ x < 9223372036854775808) (hy : -9223372036854775808 ≤ y ∧ y < 9223372036854775808) : (Int64.ofInt x < Int64.ofInt y) ↔ x < y := by rw [Int64.lt_iff_toInt_lt, ne_toL hx.1 hx.2, ne_toL hy.1 hy.2]
theorem ne_z0 : (0 : Int32) = Int32.ofInt 0 := rfl
theorem ne_in {i : Int} {n : Nat} (h0 : 0 ≤ i) (h1 : i < n) (h2 : i < 2147483648) : vp_in (Int32.ofInt i) n ∧ (Int32.ofInt i).toNatClampNeg = i.toNat := by
  have e1 : (Int32.ofInt i).toInt = i := ne_toI (by omega) h2
  have e2 : (Int32.ofInt i).toNatClampNeg = i.toNat := by rw [Int32.toNatClampNeg, e1]
  refine ⟨?_, e2⟩
  unfold vp_in
  rw [e2, ne_z0, ne_ltI ⟨by omega, h2⟩ ⟨by omega, by omega⟩]
  omega
theorem ne_upd {f : Nat → Int} {k : Nat} {z : Int} : upd (fun j => Int32.ofInt (f j)) k (Int32.ofInt z) = fun j => Int32.ofInt (va_up f k z j) := by
  funext j
  unfold upd va_up
  split <;> rfl

/-! constants -/
theorem ne_iconst {n : Int} (X : ne_F cl D ct A p l R s m args meth c own cc nL Ts fr lo mc ms) (hdg : decode cc pc = .ok (.iconst n, 1)) (k : ne_G cl D ct A n0 ad0 p l e R s m args below meth c Q nL mc ms C S (pc + 1) L (ni n :: st) ws) : ne_G cl D ct A n0 ad0 p l e R s m args below meth c Q nL mc ms C S pc L (st) ws := fun H locs cells slots ad ls h1 h2 h3 h4 h5 h6 h7 => by
  have k9 := k H locs cells slots ad ls h1 h2 h3 h4 h5 h6 h7
  exact lv_iconst X.1.1 X.1.2.1 hdg rfl k9
theorem ne_bipush {n v : Int} (hv : (Int8.ofInt n).toInt = v) (X : ne_F cl D ct A p l R s m args meth c own cc nL Ts fr lo mc ms) (hdg : decode cc pc = .ok (.bipush n, 2)) (k : ne_G cl D ct A n0 ad0 p l e R s m args below meth c Q nL mc ms C S (pc + 2) L (ni v :: st) ws) : ne_G cl D ct A n0 ad0 p l e R s m args below meth c Q nL mc ms C S pc L st ws := fun H locs cells slots ad ls h1 h2 h3 h4 h5 h6 h7 => by
  have k9 := k H locs cells slots ad ls h1 h2 h3 h4 h5 h6 h7
  exact lv_bipush X.1.1 X.1.2.1 hdg (by rw [← hv]; rfl) k9
theorem ne_sipush {n v : Int} (hv : (Int16.ofInt n).toInt = v) (X : ne_F cl D ct A p l R s m args meth c own cc nL Ts fr lo mc ms) (hdg : decode cc pc = .ok (.sipush n, 3)) (k : ne_G cl D ct A n0 ad0 p l e R s m args below meth c Q nL mc ms C S (pc + 3) L (ni v :: st) ws) : ne_G cl D ct A n0 ad0 p l e R s m args below meth c Q nL mc ms C S pc L st ws := fun H locs cells slots ad ls h1 h2 h3 h4 h5 h6 h7 => by
  have k9 := k H locs cells slots ad ls h1 h2 h3 h4 h5 h6 h7
  exact lv_sipush X.1.1 X.1.2.1 hdg (by rw [← hv]; rfl) k9
theorem ne_lconst {n : Fin 2} {z : Int} (hz : Int64.ofNat (n : Nat) = Int64.ofInt z) (X : ne_F cl D ct A p l R s m args meth c own cc nL Ts fr lo mc ms) (hdg : decode cc pc = .ok (.lconst n, 1)) (k : ne_G cl D ct A n0 ad0 p l e R s m args below meth c Q nL mc ms C S (pc + 1) L (nl z :: st) ws) : ne_G cl D ct A n0 ad0 p l e R s m args below meth c Q nL mc ms C S pc L st ws := fun H locs cells slots ad ls h1 h2 h3 h4 h5 h6 h7 => by
  have k9 := k H locs cells slots ad ls h1 h2 h3 h4 h5 h6 h7
  exact lv_lconst X.1.1 X.1.2.1 hdg hz k9
theorem ne_ldc {ix : Nat} {v : Int32} {z : Int} (hz : v = Int32.ofInt z) (hw : Cond.constant own ix v ∈ Ts) (X : ne_F cl D ct A p l R s m args meth c own cc nL Ts fr lo mc ms) (hdg : decode cc pc = .ok (.ldc ix, 2)) (k : ne_G cl D ct A n0 ad0 p l e R s m args below meth c Q nL mc ms C S (pc + 2) L (ni z :: st) ws) : ne_G cl D ct A n0 ad0 p l e R s m args below meth c Q nL mc ms C S pc L st ws := fun H locs cells slots ad ls h1 h2 h3 h4 h5 h6 h7 => by
  have k9 := k H locs cells slots ad ls h1 h2 h3 h4 h5 h6 h7
  subst hz
  exact lv_ldc X.1.1 X.1.2.1 X.1.2.2.2.1 (X.1.2.2.2.2 _ hw) hdg k9
theorem ne_ldc2 {ix : Nat} {v : Int64} {z : Int} (hz : v = Int64.ofInt z) (hw : Cond.constantLong own ix v ∈ Ts) (X : ne_F cl D ct A p l R s m args meth c own cc nL Ts fr lo mc ms) (hdg : decode cc pc = .ok (.ldc2_w ix, 3)) (k : ne_G cl D ct A n0 ad0 p l e R s m args below meth c Q nL mc ms C S (pc + 3) L (nl z :: st) ws) : ne_G cl D ct A n0 ad0 p l e R s m args below meth c Q nL mc ms C S pc L st ws := fun H locs cells slots ad ls h1 h2 h3 h4 h5 h6 h7 => by
  have k9 := k H locs cells slots ad ls h1 h2 h3 h4 h5 h6 h7
  subst hz
  exact lv_ldc2 X.1.1 X.1.2.1 X.1.2.2.2.1 (X.1.2.2.2.2 _ hw) hdg k9
theorem ne_null (X : ne_F cl D ct A p l R s m args meth c own cc nL Ts fr lo mc ms) (hdg : decode cc pc = .ok (.aconst_null, 1)) (k : ne_G cl D ct A n0 ad0 p l e R s m args below meth c Q nL mc ms C S (pc + 1) L (.null :: st) ws) : ne_G cl D ct A n0 ad0 p l e R s m args below meth c Q nL mc ms C S pc L (st) ws := fun H locs cells slots ad ls h1 h2 h3 h4 h5 h6 h7 => by
  have k9 := k H locs cells slots ad ls h1 h2 h3 h4 h5 h6 h7
  exact lv_null X.1.1 X.1.2.1 hdg k9
/-! locals -/
theorem ne_at {ad : Nat → Nat} {ls : Array Slot} {i : Nat} {v : Value} (h : lv_has ls nL (ne_l ad 0 L)) (hv : L[i]? = some (some v)) : ls[i]? = some (.val (ne_v ad v)) := by
  have h2 := h.2.2 (i, ne_v ad v) (ne_l_mem.mpr ⟨i, v, hv, by rw [Nat.zero_add]⟩)
  exact h2
theorem ne_iload_n {k : Fin 4} {x : Int32} (X : ne_F cl D ct A p l R s m args meth c own cc nL Ts fr lo mc ms) (hdg : decode cc pc = .ok (.iload_n k, 1)) (hl : L[(k : Nat)]? = some (some (.int x))) (k : ne_G cl D ct A n0 ad0 p l e R s m args below meth c Q nL mc ms C S (pc + 1) L (.int x :: st) ws) : ne_G cl D ct A n0 ad0 p l e R s m args below meth c Q nL mc ms C S pc L st ws := fun H locs cells slots ad ls h1 h2 h3 h4 h5 h6 h7 => by
  have k9 := k H locs cells slots ad ls h1 h2 h3 h4 h5 h6 h7
  exact lv_iload_n X.1.1 X.1.2.1 hdg rfl (ne_at h7 hl) k9
theorem ne_iload {i : Nat} {x : Int32} (X : ne_F cl D ct A p l R s m args meth c own cc nL Ts fr lo mc ms) (hdg : decode cc pc = .ok (.iload i, 2)) (hl : L[i]? = some (some (.int x))) (k : ne_G cl D ct A n0 ad0 p l e R s m args below meth c Q nL mc ms C S (pc + 2) L (.int x :: st) ws) : ne_G cl D ct A n0 ad0 p l e R s m args below meth c Q nL mc ms C S pc L st ws := fun H locs cells slots ad ls h1 h2 h3 h4 h5 h6 h7 => by
  have k9 := k H locs cells slots ad ls h1 h2 h3 h4 h5 h6 h7
  exact lv_iload X.1.1 X.1.2.1 hdg (ne_at h7 hl) k9
theorem ne_lload_n {k : Fin 4} {x : Int64} (X : ne_F cl D ct A p l R s m args meth c own cc nL Ts fr lo mc ms) (hdg : decode cc pc = .ok (.lload_n k, 1)) (hl : L[(k : Nat)]? = some (some (.long x))) (k : ne_G cl D ct A n0 ad0 p l e R s m args below meth c Q nL mc ms C S (pc + 1) L (.long x :: st) ws) : ne_G cl D ct A n0 ad0 p l e R s m args below meth c Q nL mc ms C S pc L st ws := fun H locs cells slots ad ls h1 h2 h3 h4 h5 h6 h7 => by
  have k9 := k H locs cells slots ad ls h1 h2 h3 h4 h5 h6 h7
  exact lv_lload_n X.1.1 X.1.2.1 hdg rfl (ne_at h7 hl) k9
theorem ne_lload {i : Nat} {x : Int64} (X : ne_F cl D ct A p l R s m args meth c own cc nL Ts fr lo mc ms) (hdg : decode cc pc = .ok (.lload i, 2)) (hl : L[i]? = some (some (.long x))) (k : ne_G cl D ct A n0 ad0 p l e R s m args below meth c Q nL mc ms C S (pc + 2) L (.long x :: st) ws) : ne_G cl D ct A n0 ad0 p l e R s m args below meth c Q nL mc ms C S pc L st ws := fun H locs cells slots ad ls h1 h2 h3 h4 h5 h6 h7 => by
  have k9 := k H locs cells slots ad ls h1 h2 h3 h4 h5 h6 h7
  exact lv_lload X.1.1 X.1.2.1 hdg (ne_at h7 hl) k9
theorem ne_aload_n {k : Fin 4} {q : Nat} (X : ne_F cl D ct A p l R s m args meth c own cc nL Ts fr lo mc ms) (hdg : decode cc pc = .ok (.aload_n k, 1)) (hl : L[(k : Nat)]? = some (some (.ref q))) (k : ne_G cl D ct A n0 ad0 p l e R s m args below meth c Q nL mc ms C S (pc + 1) L (.ref q :: st) ws) : ne_G cl D ct A n0 ad0 p l e R s m args below meth c Q nL mc ms C S pc L st ws := fun H locs cells slots ad ls h1 h2 h3 h4 h5 h6 h7 => by
  have k9 := k H locs cells slots ad ls h1 h2 h3 h4 h5 h6 h7
  exact lv_aload_n X.1.1 X.1.2.1 hdg rfl (ne_at h7 hl) k9
theorem ne_aload {i : Nat} {q : Nat} (X : ne_F cl D ct A p l R s m args meth c own cc nL Ts fr lo mc ms) (hdg : decode cc pc = .ok (.aload i, 2)) (hl : L[i]? = some (some (.ref q))) (k : ne_G cl D ct A n0 ad0 p l e R s m args below meth c Q nL mc ms C S (pc + 2) L (.ref q :: st) ws) : ne_G cl D ct A n0 ad0 p l e R s m args below meth c Q nL mc ms C S pc L st ws := fun H locs cells slots ad ls h1 h2 h3 h4 h5 h6 h7 => by
  have k9 := k H locs cells slots ad ls h1 h2 h3 h4 h5 h6 h7
  exact lv_aload X.1.1 X.1.2.1 hdg (ne_at h7 hl) k9
theorem ne_aload_nN {k : Fin 4} (X : ne_F cl D ct A p l R s m args meth c own cc nL Ts fr lo mc ms) (hdg : decode cc pc = .ok (.aload_n k, 1)) (hl : L[(k : Nat)]? = some (some .null)) (k : ne_G cl D ct A n0 ad0 p l e R s m args below meth c Q nL mc ms C S (pc + 1) L (.null :: st) ws) : ne_G cl D ct A n0 ad0 p l e R s m args below meth c Q nL mc ms C S pc L st ws := fun H locs cells slots ad ls h1 h2 h3 h4 h5 h6 h7 => by
  have k9 := k H locs cells slots ad ls h1 h2 h3 h4 h5 h6 h7
  exact lv_aload_nN X.1.1 X.1.2.1 hdg rfl (ne_at h7 hl) k9
theorem ne_istore_n {k : Fin 4} {i : Nat} {x : Int32} (X : ne_F cl D ct A p l R s m args meth c own cc nL Ts fr lo mc ms) (hdg : decode cc pc = .ok (.istore_n k, 1)) (hi : (k : Nat) = i) (hn : i < nL) (k : ne_G cl D ct A n0 ad0 p l e R s m args below meth c Q nL mc ms C S (pc + 1) (ne_s1 L i (.int x)) st ws) : ne_G cl D ct A n0 ad0 p l e R s m args below meth c Q nL mc ms C S pc L (.int x :: st) ws := fun H locs cells slots ad ls h1 h2 h3 h4 h5 h6 h7 =>
  lv_istore_n X.1.1 X.1.2.1 hdg hi h7 hn rfl fun ls' h8 => k H locs cells slots ad ls' h1 h2 h3 h4 h5 h6 (ne_st1 rfl h8)
theorem ne_istore {i : Nat} {x : Int32} (X : ne_F cl D ct A p l R s m args meth c own cc nL Ts fr lo mc ms) (hdg : decode cc pc = .ok (.istore i, 2)) (hn : i < nL) (k : ne_G cl D ct A n0 ad0 p l e R s m args below meth c Q nL mc ms C S (pc + 2) (ne_s1 L i (.int x)) st ws) : ne_G cl D ct A n0 ad0 p l e R s m args below meth c Q nL mc ms C S pc L (.int x :: st) ws := fun H locs cells slots ad ls h1 h2 h3 h4 h5 h6 h7 =>
  lv_istore X.1.1 X.1.2.1 hdg h7 hn rfl fun ls' h8 => k H locs cells slots ad ls' h1 h2 h3 h4 h5 h6 (ne_st1 rfl h8)
theorem ne_lstore_n {k : Fin 4} {i : Nat} {x : Int64} (X : ne_F cl D ct A p l R s m args meth c own cc nL Ts fr lo mc ms) (hdg : decode cc pc = .ok (.lstore_n k, 1)) (hi : (k : Nat) = i) (hn : i + 1 < nL) (k : ne_G cl D ct A n0 ad0 p l e R s m args below meth c Q nL mc ms C S (pc + 1) (ne_s2 L i (.long x)) st ws) : ne_G cl D ct A n0 ad0 p l e R s m args below meth c Q nL mc ms C S pc L (.long x :: st) ws := fun H locs cells slots ad ls h1 h2 h3 h4 h5 h6 h7 =>
  lv_lstore_n X.1.1 X.1.2.1 hdg hi h7 hn rfl fun ls' h8 => k H locs cells slots ad ls' h1 h2 h3 h4 h5 h6 (ne_st2 rfl h8)
theorem ne_lstore {i : Nat} {x : Int64} (X : ne_F cl D ct A p l R s m args meth c own cc nL Ts fr lo mc ms) (hdg : decode cc pc = .ok (.lstore i, 2)) (hn : i + 1 < nL) (k : ne_G cl D ct A n0 ad0 p l e R s m args below meth c Q nL mc ms C S (pc + 2) (ne_s2 L i (.long x)) st ws) : ne_G cl D ct A n0 ad0 p l e R s m args below meth c Q nL mc ms C S pc L (.long x :: st) ws := fun H locs cells slots ad ls h1 h2 h3 h4 h5 h6 h7 =>
  lv_lstore X.1.1 X.1.2.1 hdg h7 hn rfl fun ls' h8 => k H locs cells slots ad ls' h1 h2 h3 h4 h5 h6 (ne_st2 rfl h8)
theorem ne_astore_n {k : Fin 4} {i : Nat} {x : Nat} (X : ne_F cl D ct A p l R s m args meth c own cc nL Ts fr lo mc ms) (hdg : decode cc pc = .ok (.astore_n k, 1)) (hi : (k : Nat) = i) (hn : i < nL) (k : ne_G cl D ct A n0 ad0 p l e R s m args below meth c Q nL mc ms C S (pc + 1) (ne_s1 L i (.ref x)) st ws) : ne_G cl D ct A n0 ad0 p l e R s m args below meth c Q nL mc ms C S pc L (.ref x :: st) ws := fun H locs cells slots ad ls h1 h2 h3 h4 h5 h6 h7 =>
  lv_astore_n X.1.1 X.1.2.1 hdg hi h7 hn rfl fun ls' h8 => k H locs cells slots ad ls' h1 h2 h3 h4 h5 h6 (ne_st1 rfl h8)
theorem ne_astore {i : Nat} {x : Nat} (X : ne_F cl D ct A p l R s m args meth c own cc nL Ts fr lo mc ms) (hdg : decode cc pc = .ok (.astore i, 2)) (hn : i < nL) (k : ne_G cl D ct A n0 ad0 p l e R s m args below meth c Q nL mc ms C S (pc + 2) (ne_s1 L i (.ref x)) st ws) : ne_G cl D ct A n0 ad0 p l e R s m args below meth c Q nL mc ms C S pc L (.ref x :: st) ws := fun H locs cells slots ad ls h1 h2 h3 h4 h5 h6 h7 =>
  lv_astore X.1.1 X.1.2.1 hdg h7 hn rfl fun ls' h8 => k H locs cells slots ad ls' h1 h2 h3 h4 h5 h6 (ne_st1 rfl h8)
theorem ne_iinc {i : Nat} {n x : Int} (X : ne_F cl D ct A p l R s m args meth c own cc nL Ts fr lo mc ms) (hdg : decode cc pc = .ok (.iinc i n, 3)) (hl : L[i]? = some (some (ni x))) (hn : i < nL) (k : ne_G cl D ct A n0 ad0 p l e R s m args below meth c Q nL mc ms C S (pc + 3) (ne_s1 L i (ni (x + n))) st ws) : ne_G cl D ct A n0 ad0 p l e R s m args below meth c Q nL mc ms C S pc L st ws := fun H locs cells slots ad ls h1 h2 h3 h4 h5 h6 h7 => by
  obtain ⟨j, hj⟩ := List.getElem?_of_mem (ne_l_mem (ad := ad) (i := 0).mpr ⟨i, _, hl, rfl⟩)
  rw [Nat.zero_add] at hj
  exact lv_iinc X.1.1 X.1.2.1 hdg h7 hj (v := Int32.ofInt (x + n)) (Int32.ofInt_add x n).symm hn rfl fun ls' h8 => k H locs cells slots ad ls' h1 h2 h3 h4 h5 h6 (ne_st1 rfl h8)
/-! arithmetic -/
theorem ne_iadd {x y : Int} (X : ne_F cl D ct A p l R s m args meth c own cc nL Ts fr lo mc ms) (hdg : decode cc pc = .ok (.iadd, 1)) (k : ne_G cl D ct A n0 ad0 p l e R s m args below meth c Q nL mc ms C S (pc + 1) L (ni (x + y) :: st) ws) : ne_G cl D ct A n0 ad0 p l e R s m args below meth c Q nL mc ms C S pc L (ni y :: ni x :: st) ws := fun H locs cells slots ad ls h1 h2 h3 h4 h5 h6 h7 => by
  have k9 := k H locs cells slots ad ls h1 h2 h3 h4 h5 h6 h7
  exact lv_iadd X.1.1 X.1.2.1 hdg (by rw [← Int32.ofInt_add]; exact k9)
theorem ne_isub {x y : Int} (X : ne_F cl D ct A p l R s m args meth c own cc nL Ts fr lo mc ms) (hdg : decode cc pc = .ok (.isub, 1)) (k : ne_G cl D ct A n0 ad0 p l e R s m args below meth c Q nL mc ms C S (pc + 1) L (ni (x - y) :: st) ws) : ne_G cl D ct A n0 ad0 p l e R s m args below meth c Q nL mc ms C S pc L (ni y :: ni x :: st) ws := fun H locs cells slots ad ls h1 h2 h3 h4 h5 h6 h7 => by
  have k9 := k H locs cells slots ad ls h1 h2 h3 h4 h5 h6 h7
  exact lv_isub X.1.1 X.1.2.1 hdg (by rw [← Int32.ofInt_sub]; exact k9)
theorem ne_imul {x y : Int} (X : ne_F cl D ct A p l R s m args meth c own cc nL Ts fr lo mc ms) (hdg : decode cc pc = .ok (.imul, 1)) (k : ne_G cl D ct A n0 ad0 p l e R s m args below meth c Q nL mc ms C S (pc + 1) L (ni (x * y) :: st) ws) : ne_G cl D ct A n0 ad0 p l e R s m args below meth c Q nL mc ms C S pc L (ni y :: ni x :: st) ws := fun H locs cells slots ad ls h1 h2 h3 h4 h5 h6 h7 => by
  have k9 := k H locs cells slots ad ls h1 h2 h3 h4 h5 h6 h7
  exact lv_imul X.1.1 X.1.2.1 hdg (by rw [← Int32.ofInt_mul]; exact k9)
theorem ne_ladd {x y : Int} (X : ne_F cl D ct A p l R s m args meth c own cc nL Ts fr lo mc ms) (hdg : decode cc pc = .ok (.ladd, 1)) (k : ne_G cl D ct A n0 ad0 p l e R s m args below meth c Q nL mc ms C S (pc + 1) L (nl (x + y) :: st) ws) : ne_G cl D ct A n0 ad0 p l e R s m args below meth c Q nL mc ms C S pc L (nl y :: nl x :: st) ws := fun H locs cells slots ad ls h1 h2 h3 h4 h5 h6 h7 => by
  have k9 := k H locs cells slots ad ls h1 h2 h3 h4 h5 h6 h7
  exact lv_ladd X.1.1 X.1.2.1 hdg (by rw [← Int64.ofInt_add]; exact k9)
theorem ne_lsub {x y : Int} (X : ne_F cl D ct A p l R s m args meth c own cc nL Ts fr lo mc ms) (hdg : decode cc pc = .ok (.lsub, 1)) (k : ne_G cl D ct A n0 ad0 p l e R s m args below meth c Q nL mc ms C S (pc + 1) L (nl (x - y) :: st) ws) : ne_G cl D ct A n0 ad0 p l e R s m args below meth c Q nL mc ms C S pc L (nl y :: nl x :: st) ws := fun H locs cells slots ad ls h1 h2 h3 h4 h5 h6 h7 => by
  have k9 := k H locs cells slots ad ls h1 h2 h3 h4 h5 h6 h7
  exact lv_lsub X.1.1 X.1.2.1 hdg (by rw [← Int64.ofInt_sub]; exact k9)
theorem ne_lmul {x y : Int} (X : ne_F cl D ct A p l R s m args meth c own cc nL Ts fr lo mc ms) (hdg : decode cc pc = .ok (.lmul, 1)) (k : ne_G cl D ct A n0 ad0 p l e R s m args below meth c Q nL mc ms C S (pc + 1) L (nl (x * y) :: st) ws) : ne_G cl D ct A n0 ad0 p l e R s m args below meth c Q nL mc ms C S pc L (nl y :: nl x :: st) ws := fun H locs cells slots ad ls h1 h2 h3 h4 h5 h6 h7 => by
  have k9 := k H locs cells slots ad ls h1 h2 h3 h4 h5 h6 h7
  exact lv_lmul X.1.1 X.1.2.1 hdg (by rw [← Int64.ofInt_mul]; exact k9)
theorem ne_ineg {x : Int} (X : ne_F cl D ct A p l R s m args meth c own cc nL Ts fr lo mc ms) (hdg : decode cc pc = .ok (.ineg, 1)) (k : ne_G cl D ct A n0 ad0 p l e R s m args below meth c Q nL mc ms C S (pc + 1) L (ni (-x) :: st) ws) : ne_G cl D ct A n0 ad0 p l e R s m args below meth c Q nL mc ms C S pc L (ni x :: st) ws := fun H locs cells slots ad ls h1 h2 h3 h4 h5 h6 h7 => by
  have k9 := k H locs cells slots ad ls h1 h2 h3 h4 h5 h6 h7
  exact lv_ineg X.1.1 X.1.2.1 hdg (by rw [← Int32.ofInt_neg]; exact k9)
theorem ne_lneg {x : Int} (X : ne_F cl D ct A p l R s m args meth c own cc nL Ts fr lo mc ms) (hdg : decode cc pc = .ok (.lneg, 1)) (k : ne_G cl D ct A n0 ad0 p l e R s m args below meth c Q nL mc ms C S (pc + 1) L (nl (-x) :: st) ws) : ne_G cl D ct A n0 ad0 p l e R s m args below meth c Q nL mc ms C S pc L (nl x :: st) ws := fun H locs cells slots ad ls h1 h2 h3 h4 h5 h6 h7 => by
  have k9 := k H locs cells slots ad ls h1 h2 h3 h4 h5 h6 h7
  exact lv_lneg X.1.1 X.1.2.1 hdg (by rw [← Int64.ofInt_neg]; exact k9)
theorem ne_idiv {x y : Int} (X : ne_F cl D ct A p l R s m args meth c own cc nL Ts fr lo mc ms) (hdg : decode cc pc = .ok (.idiv, 1)) (hx : -2147483648 ≤ x ∧ x < 2147483648) (hy : -2147483648 ≤ y ∧ y < 2147483648) (hne : y ≠ 0) (k : ne_G cl D ct A n0 ad0 p l e R s m args below meth c Q nL mc ms C S (pc + 1) L (ni (x.tdiv y) :: st) ws) : ne_G cl D ct A n0 ad0 p l e R s m args below meth c Q nL mc ms C S pc L (ni y :: ni x :: st) ws := fun H locs cells slots ad ls h1 h2 h3 h4 h5 h6 h7 => by
  have k9 := k H locs cells slots ad ls h1 h2 h3 h4 h5 h6 h7
  refine lv_idiv X.1.1 X.1.2.1 hdg (fun h => hne ?_) (by rw [ne_divI hx hy]; exact k9)
  have h9 := congrArg Int32.toInt h
  rw [ne_toI hy.1 hy.2] at h9
  exact h9
theorem ne_irem {x y : Int} (X : ne_F cl D ct A p l R s m args meth c own cc nL Ts fr lo mc ms) (hdg : decode cc pc = .ok (.irem, 1)) (hx : -2147483648 ≤ x ∧ x < 2147483648) (hy : -2147483648 ≤ y ∧ y < 2147483648) (hne : y ≠ 0) (k : ne_G cl D ct A n0 ad0 p l e R s m args below meth c Q nL mc ms C S (pc + 1) L (ni (x.tmod y) :: st) ws) : ne_G cl D ct A n0 ad0 p l e R s m args below meth c Q nL mc ms C S pc L (ni y :: ni x :: st) ws := fun H locs cells slots ad ls h1 h2 h3 h4 h5 h6 h7 => by
  have k9 := k H locs cells slots ad ls h1 h2 h3 h4 h5 h6 h7
  refine lv_irem X.1.1 X.1.2.1 hdg (fun h => hne ?_) (by rw [ne_modI hx hy]; exact k9)
  have h9 := congrArg Int32.toInt h
  rw [ne_toI hy.1 hy.2] at h9
  exact h9
theorem ne_ldiv {x y : Int} (X : ne_F cl D ct A p l R s m args meth c own cc nL Ts fr lo mc ms) (hdg : decode cc pc = .ok (.ldiv, 1)) (hx : -9223372036854775808 ≤ x ∧ x < 9223372036854775808) (hy : -9223372036854775808 ≤ y ∧ y < 9223372036854775808) (hne : y ≠ 0) (k : ne_G cl D ct A n0 ad0 p l e R s m args below meth c Q nL mc ms C S (pc + 1) L (nl (x.tdiv y) :: st) ws) : ne_G cl D ct A n0 ad0 p l e R s m args below meth c Q nL mc ms C S pc L (nl y :: nl x :: st) ws := fun H locs cells slots ad ls h1 h2 h3 h4 h5 h6 h7 => by
  have k9 := k H locs cells slots ad ls h1 h2 h3 h4 h5 h6 h7
  refine lv_ldiv X.1.1 X.1.2.1 hdg (fun h => hne ?_) (by rw [ne_divL hx hy]; exact k9)
  have h9 := congrArg Int64.toInt h
  rw [ne_toL hy.1 hy.2] at h9
  exact h9
theorem ne_lrem {x y : Int} (X : ne_F cl D ct A p l R s m args meth c own cc nL Ts fr lo mc ms) (hdg : decode cc pc = .ok (.lrem, 1)) (hx : -9223372036854775808 ≤ x ∧ x < 9223372036854775808) (hy : -9223372036854775808 ≤ y ∧ y < 9223372036854775808) (hne : y ≠ 0) (k : ne_G cl D ct A n0 ad0 p l e R s m args below meth c Q nL mc ms C S (pc + 1) L (nl (x.tmod y) :: st) ws) : ne_G cl D ct A n0 ad0 p l e R s m args below meth c Q nL mc ms C S pc L (nl y :: nl x :: st) ws := fun H locs cells slots ad ls h1 h2 h3 h4 h5 h6 h7 => by
  have k9 := k H locs cells slots ad ls h1 h2 h3 h4 h5 h6 h7
  refine lv_lrem X.1.1 X.1.2.1 hdg (fun h => hne ?_) (by rw [ne_modL hx hy]; exact k9)
  have h9 := congrArg Int64.toInt h
  rw [ne_toL hy.1 hy.2] at h9
  exact h9
theorem ne_i2l {x : Int} (hx : -2147483648 ≤ x ∧ x < 2147483648) (X : ne_F cl D ct A p l R s m args meth c own cc nL Ts fr lo mc ms) (hdg : decode cc pc = .ok (.i2l, 1)) (k : ne_G cl D ct A n0 ad0 p l e R s m args below meth c Q nL mc ms C S (pc + 1) L (nl x :: st) ws) : ne_G cl D ct A n0 ad0 p l e R s m args below meth c Q nL mc ms C S pc L (ni x :: st) ws := fun H locs cells slots ad ls h1 h2 h3 h4 h5 h6 h7 => by
  have k9 := k H locs cells slots ad ls h1 h2 h3 h4 h5 h6 h7
  exact lv_i2l X.1.1 X.1.2.1 hdg (Int64.toInt_inj.mp (by rw [Int32.toInt_toInt64, ne_toI hx.1 hx.2, ne_toL (by omega) (by omega)])) k9
theorem ne_l2i {x : Int} (X : ne_F cl D ct A p l R s m args meth c own cc nL Ts fr lo mc ms) (hdg : decode cc pc = .ok (.l2i, 1)) (k : ne_G cl D ct A n0 ad0 p l e R s m args below meth c Q nL mc ms C S (pc + 1) L (ni x :: st) ws) : ne_G cl D ct A n0 ad0 p l e R s m args below meth c Q nL mc ms C S pc L (nl x :: st) ws := fun H locs cells slots ad ls h1 h2 h3 h4 h5 h6 h7 => by
  have k9 := k H locs cells slots ad ls h1 h2 h3 h4 h5 h6 h7
  exact lv_l2i X.1.1 X.1.2.1 hdg Int64.toInt32_ofInt k9
/-! stack -/
theorem ne_dupi {x : Int32} (X : ne_F cl D ct A p l R s m args meth c own cc nL Ts fr lo mc ms) (hdg : decode cc pc = .ok (.dup, 1)) (k : ne_G cl D ct A n0 ad0 p l e R s m args below meth c Q nL mc ms C S (pc + 1) L (.int x :: .int x :: st) ws) : ne_G cl D ct A n0 ad0 p l e R s m args below meth c Q nL mc ms C S pc L (.int x :: st) ws := fun H locs cells slots ad ls h1 h2 h3 h4 h5 h6 h7 => by
  have k9 := k H locs cells slots ad ls h1 h2 h3 h4 h5 h6 h7
  exact lv_dup X.1.1 X.1.2.1 hdg rfl k9
theorem ne_dupa {x : Nat} (X : ne_F cl D ct A p l R s m args meth c own cc nL Ts fr lo mc ms) (hdg : decode cc pc = .ok (.dup, 1)) (k : ne_G cl D ct A n0 ad0 p l e R s m args below meth c Q nL mc ms C S (pc + 1) L (.ref x :: .ref x :: st) ws) : ne_G cl D ct A n0 ad0 p l e R s m args below meth c Q nL mc ms C S pc L (.ref x :: st) ws := fun H locs cells slots ad ls h1 h2 h3 h4 h5 h6 h7 => by
  have k9 := k H locs cells slots ad ls h1 h2 h3 h4 h5 h6 h7
  exact lv_dup X.1.1 X.1.2.1 hdg rfl k9
theorem ne_popi {x : Int32} (X : ne_F cl D ct A p l R s m args meth c own cc nL Ts fr lo mc ms) (hdg : decode cc pc = .ok (.pop, 1)) (k : ne_G cl D ct A n0 ad0 p l e R s m args below meth c Q nL mc ms C S (pc + 1) L (st) ws) : ne_G cl D ct A n0 ad0 p l e R s m args below meth c Q nL mc ms C S pc L (.int x :: st) ws := fun H locs cells slots ad ls h1 h2 h3 h4 h5 h6 h7 => by
  have k9 := k H locs cells slots ad ls h1 h2 h3 h4 h5 h6 h7
  exact lv_pop X.1.1 X.1.2.1 hdg rfl k9
theorem ne_popa {x : Nat} (X : ne_F cl D ct A p l R s m args meth c own cc nL Ts fr lo mc ms) (hdg : decode cc pc = .ok (.pop, 1)) (k : ne_G cl D ct A n0 ad0 p l e R s m args below meth c Q nL mc ms C S (pc + 1) L (st) ws) : ne_G cl D ct A n0 ad0 p l e R s m args below meth c Q nL mc ms C S pc L (.ref x :: st) ws := fun H locs cells slots ad ls h1 h2 h3 h4 h5 h6 h7 => by
  have k9 := k H locs cells slots ad ls h1 h2 h3 h4 h5 h6 h7
  exact lv_pop X.1.1 X.1.2.1 hdg rfl k9
theorem ne_pop2l {x : Int64} (X : ne_F cl D ct A p l R s m args meth c own cc nL Ts fr lo mc ms) (hdg : decode cc pc = .ok (.pop2, 1)) (k : ne_G cl D ct A n0 ad0 p l e R s m args below meth c Q nL mc ms C S (pc + 1) L (st) ws) : ne_G cl D ct A n0 ad0 p l e R s m args below meth c Q nL mc ms C S pc L (.long x :: st) ws := fun H locs cells slots ad ls h1 h2 h3 h4 h5 h6 h7 => by
  have k9 := k H locs cells slots ad ls h1 h2 h3 h4 h5 h6 h7
  exact lv_pop2_2 X.1.1 X.1.2.1 hdg rfl k9
theorem ne_dup2ai {x : Int32} {q : Nat} (X : ne_F cl D ct A p l R s m args meth c own cc nL Ts fr lo mc ms) (hdg : decode cc pc = .ok (.dup2, 1)) (k : ne_G cl D ct A n0 ad0 p l e R s m args below meth c Q nL mc ms C S (pc + 1) L (.int x :: .ref q :: .int x :: .ref q :: st) ws) : ne_G cl D ct A n0 ad0 p l e R s m args below meth c Q nL mc ms C S pc L (.int x :: .ref q :: st) ws := fun H locs cells slots ad ls h1 h2 h3 h4 h5 h6 h7 => by
  have k9 := k H locs cells slots ad ls h1 h2 h3 h4 h5 h6 h7
  exact lv_dup2_11 X.1.1 X.1.2.1 hdg rfl rfl k9
theorem ne_dup_x1 {x : Int32} {q : Nat} (X : ne_F cl D ct A p l R s m args meth c own cc nL Ts fr lo mc ms) (hdg : decode cc pc = .ok (.dup_x1, 1)) (k : ne_G cl D ct A n0 ad0 p l e R s m args below meth c Q nL mc ms C S (pc + 1) L (.int x :: .ref q :: .int x :: st) ws) : ne_G cl D ct A n0 ad0 p l e R s m args below meth c Q nL mc ms C S pc L (.int x :: .ref q :: st) ws := fun H locs cells slots ad ls h1 h2 h3 h4 h5 h6 h7 => by
  have k9 := k H locs cells slots ad ls h1 h2 h3 h4 h5 h6 h7
  exact lv_dup_x1 X.1.1 X.1.2.1 hdg rfl rfl k9
/-! branches -/
theorem ne_goto {off : Int} {tgt : Nat} (X : ne_F cl D ct A p l R s m args meth c own cc nL Ts fr lo mc ms) (hdg : decode cc pc = .ok (.goto off, 3)) (ht : (pc : Int) + off = (tgt : Int)) (k : ne_G cl D ct A n0 ad0 p l e R s m args below meth c Q nL mc ms C S tgt L st ws) : ne_G cl D ct A n0 ad0 p l e R s m args below meth c Q nL mc ms C S pc L st ws := fun H locs cells slots ad ls h1 h2 h3 h4 h5 h6 h7 =>
  lv_goto X.1.1 X.1.2.1 hdg ht (k H locs cells slots ad ls h1 h2 h3 h4 h5 h6 h7)
theorem ne_icmp_eq {x y : Int} {off : Int} {tgt : Nat} (X : ne_F cl D ct A p l R s m args meth c own cc nL Ts fr lo mc ms) (hdg : decode cc pc = .ok (.if_icmp .eq off, 3)) (ht : (pc : Int) + off = (tgt : Int)) (hx : -2147483648 ≤ x ∧ x < 2147483648) (hy : -2147483648 ≤ y ∧ y < 2147483648) (kt : x = y → ne_G cl D ct A n0 ad0 p l e R s m args below meth c Q nL mc ms C S tgt L st ws) (kf : x ≠ y → ne_G cl D ct A n0 ad0 p l e R s m args below meth c Q nL mc ms C S (pc + 3) L st ws) : ne_G cl D ct A n0 ad0 p l e R s m args below meth c Q nL mc ms C S pc L (ni y :: ni x :: st) ws := fun H locs cells slots ad ls h1 h2 h3 h4 h5 h6 h7 => by
  skip
  have a1 : (Int32.ofInt x = Int32.ofInt y) ↔ x = y := ne_eqI hx hy
  have a2 : (Int32.ofInt x < Int32.ofInt y) ↔ x < y := ne_ltI hx hy
  have a3 : (Int32.ofInt x ≤ Int32.ofInt y) ↔ x ≤ y := ne_leI hx hy
  have a4 : (Int32.ofInt y < Int32.ofInt x) ↔ y < x := ne_ltI hy hx
  have a5 : (Int32.ofInt y ≤ Int32.ofInt x) ↔ y ≤ x := ne_leI hy hx
  skip
  refine lv_icmp_eq X.1.1 X.1.2.1 hdg ht (fun h9 => kt ?_ H locs cells slots ad ls h1 h2 h3 h4 h5 h6 h7) (fun h9 => kf ?_ H locs cells slots ad ls h1 h2 h3 h4 h5 h6 h7)
  all_goals (simp only [ge_iff_le, gt_iff_lt, ne_eq, Decidable.not_not, a1, a2, a3, a4, a5] at h9; omega)
theorem ne_if_eq {x : Int} {off : Int} {tgt : Nat} (X : ne_F cl D ct A p l R s m args meth c own cc nL Ts fr lo mc ms) (hdg : decode cc pc = .ok (.ifCond .eq off, 3)) (ht : (pc : Int) + off = (tgt : Int)) (hx : -2147483648 ≤ x ∧ x < 2147483648) (kt : x = 0 → ne_G cl D ct A n0 ad0 p l e R s m args below meth c Q nL mc ms C S tgt L st ws) (kf : x ≠ 0 → ne_G cl D ct A n0 ad0 p l e R s m args below meth c Q nL mc ms C S (pc + 3) L st ws) : ne_G cl D ct A n0 ad0 p l e R s m args below meth c Q nL mc ms C S pc L (ni x :: st) ws := fun H locs cells slots ad ls h1 h2 h3 h4 h5 h6 h7 => by
  have hy : -2147483648 ≤ (0 : Int) ∧ (0 : Int) < 2147483648 := by omega
  have a1 : (Int32.ofInt x = Int32.ofInt 0) ↔ x = 0 := ne_eqI hx hy
  have a2 : (Int32.ofInt x < Int32.ofInt 0) ↔ x < 0 := ne_ltI hx hy
  have a3 : (Int32.ofInt x ≤ Int32.ofInt 0) ↔ x ≤ 0 := ne_leI hx hy
  have a4 : (Int32.ofInt 0 < Int32.ofInt x) ↔ 0 < x := ne_ltI hy hx
  have a5 : (Int32.ofInt 0 ≤ Int32.ofInt x) ↔ 0 ≤ x := ne_leI hy hx
  rw [← ne_z0] at a1 a2 a3 a4 a5
  refine lv_if_eq X.1.1 X.1.2.1 hdg ht (fun h9 => kt ?_ H locs cells slots ad ls h1 h2 h3 h4 h5 h6 h7) (fun h9 => kf ?_ H locs cells slots ad ls h1 h2 h3 h4 h5 h6 h7)
  all_goals (simp only [ge_iff_le, gt_iff_lt, ne_eq, Decidable.not_not, a1, a2, a3, a4, a5] at h9; omega)
theorem ne_icmp_ne {x y : Int} {off : Int} {tgt : Nat} (X : ne_F cl D ct A p l R s m args meth c own cc nL Ts fr lo mc ms) (hdg : decode cc pc = .ok (.if_icmp .ne off, 3)) (ht : (pc : Int) + off = (tgt : Int)) (hx : -2147483648 ≤ x ∧ x < 2147483648) (hy : -2147483648 ≤ y ∧ y < 2147483648) (kt : x ≠ y → ne_G cl D ct A n0 ad0 p l e R s m args below meth c Q nL mc ms C S tgt L st ws) (kf : x = y → ne_G cl D ct A n0 ad0 p l e R s m args below meth c Q nL mc ms C S (pc + 3) L st ws) : ne_G cl D ct A n0 ad0 p l e R s m args below meth c Q nL mc ms C S pc L (ni y :: ni x :: st) ws := fun H locs cells slots ad ls h1 h2 h3 h4 h5 h6 h7 => by
  skip
  have a1 : (Int32.ofInt x = Int32.ofInt y) ↔ x = y := ne_eqI hx hy
  have a2 : (Int32.ofInt x < Int32.ofInt y) ↔ x < y := ne_ltI hx hy
  have a3 : (Int32.ofInt x ≤ Int32.ofInt y) ↔ x ≤ y := ne_leI hx hy
  have a4 : (Int32.ofInt y < Int32.ofInt x) ↔ y < x := ne_ltI hy hx
  have a5 : (Int32.ofInt y ≤ Int32.ofInt x) ↔ y ≤ x := ne_leI hy hx
  skip
  refine lv_icmp_ne X.1.1 X.1.2.1 hdg ht (fun h9 => kt ?_ H locs cells slots ad ls h1 h2 h3 h4 h5 h6 h7) (fun h9 => kf ?_ H locs cells slots ad ls h1 h2 h3 h4 h5 h6 h7)
  all_goals (simp only [ge_iff_le, gt_iff_lt, ne_eq, Decidable.not_not, a1, a2, a3, a4, a5] at h9; omega)
theorem ne_if_ne {x : Int} {off : Int} {tgt : Nat} (X : ne_F cl D ct A p l R s m args meth c own cc nL Ts fr lo mc ms) (hdg : decode cc pc = .ok (.ifCond .ne off, 3)) (ht : (pc : Int) + off = (tgt : Int)) (hx : -2147483648 ≤ x ∧ x < 2147483648) (kt : x ≠ 0 → ne_G cl D ct A n0 ad0 p l e R s m args below meth c Q nL mc ms C S tgt L st ws) (kf : x = 0 → ne_G cl D ct A n0 ad0 p l e R s m args below meth c Q nL mc ms C S (pc + 3) L st ws) : ne_G cl D ct A n0 ad0 p l e R s m args below meth c Q nL mc ms C S pc L (ni x :: st) ws := fun H locs cells slots ad ls h1 h2 h3 h4 h5 h6 h7 => by
  have hy : -2147483648 ≤ (0 : Int) ∧ (0 : Int) < 2147483648 := by omega
  have a1 : (Int32.ofInt x = Int32.ofInt 0) ↔ x = 0 := ne_eqI hx hy
  have a2 : (Int32.ofInt x < Int32.ofInt 0) ↔ x < 0 := ne_ltI hx hy
  have a3 : (Int32.ofInt x ≤ Int32.ofInt 0) ↔ x ≤ 0 := ne_leI hx hy
  have a4 : (Int32.ofInt 0 < Int32.ofInt x) ↔ 0 < x := ne_ltI hy hx
  have a5 : (Int32.ofInt 0 ≤ Int32.ofInt x) ↔ 0 ≤ x := ne_leI hy hx
  rw [← ne_z0] at a1 a2 a3 a4 a5
  refine lv_if_ne X.1.1 X.1.2.1 hdg ht (fun h9 => kt ?_ H locs cells slots ad ls h1 h2 h3 h4 h5 h6 h7) (fun h9 => kf ?_ H locs cells slots ad ls h1 h2 h3 h4 h5 h6 h7)
  all_goals (simp only [ge_iff_le, gt_iff_lt, ne_eq, Decidable.not_not, a1, a2, a3, a4, a5] at h9; omega)
theorem ne_icmp_lt {x y : Int} {off : Int} {tgt : Nat} (X : ne_F cl D ct A p l R s m args meth c own cc nL Ts fr lo mc ms) (hdg : decode cc pc = .ok (.if_icmp .lt off, 3)) (ht : (pc : Int) + off = (tgt : Int)) (hx : -2147483648 ≤ x ∧ x < 2147483648) (hy : -2147483648 ≤ y ∧ y < 2147483648) (kt : x < y → ne_G cl D ct A n0 ad0 p l e R s m args below meth c Q nL mc ms C S tgt L st ws) (kf : y ≤ x → ne_G cl D ct A n0 ad0 p l e R s m args below meth c Q nL mc ms C S (pc + 3) L st ws) : ne_G cl D ct A n0 ad0 p l e R s m args below meth c Q nL mc ms C S pc L (ni y :: ni x :: st) ws := fun H locs cells slots ad ls h1 h2 h3 h4 h5 h6 h7 => by
  skip
  have a1 : (Int32.ofInt x = Int32.ofInt y) ↔ x = y := ne_eqI hx hy
  have a2 : (Int32.ofInt x < Int32.ofInt y) ↔ x < y := ne_ltI hx hy
  have a3 : (Int32.ofInt x ≤ Int32.ofInt y) ↔ x ≤ y := ne_leI hx hy
  have a4 : (Int32.ofInt y < Int32.ofInt x) ↔ y < x := ne_ltI hy hx
  have a5 : (Int32.ofInt y ≤ Int32.ofInt x) ↔ y ≤ x := ne_leI hy hx
  skip
  refine lv_icmp_lt X.1.1 X.1.2.1 hdg ht (fun h9 => kt ?_ H locs cells slots ad ls h1 h2 h3 h4 h5 h6 h7) (fun h9 => kf ?_ H locs cells slots ad ls h1 h2 h3 h4 h5 h6 h7)
  all_goals (simp only [ge_iff_le, gt_iff_lt, ne_eq, Decidable.not_not, a1, a2, a3, a4, a5] at h9; omega)
theorem ne_if_lt {x : Int} {off : Int} {tgt : Nat} (X : ne_F cl D ct A p l R s m args meth c own cc nL Ts fr lo mc ms) (hdg : decode cc pc = .ok (.ifCond .lt off, 3)) (ht : (pc : Int) + off = (tgt : Int)) (hx : -2147483648 ≤ x ∧ x < 2147483648) (kt : x < 0 → ne_G cl D ct A n0 ad0 p l e R s m args below meth c Q nL mc ms C S tgt L st ws) (kf : 0 ≤ x → ne_G cl D ct A n0 ad0 p l e R s m args below meth c Q nL mc ms C S (pc + 3) L st ws) : ne_G cl D ct A n0 ad0 p l e R s m args below meth c Q nL mc ms C S pc L (ni x :: st) ws := fun H locs cells slots ad ls h1 h2 h3 h4 h5 h6 h7 => by
  have hy : -2147483648 ≤ (0 : Int) ∧ (0 : Int) < 2147483648 := by omega
  have a1 : (Int32.ofInt x = Int32.ofInt 0) ↔ x = 0 := ne_eqI hx hy
  have a2 : (Int32.ofInt x < Int32.ofInt 0) ↔ x < 0 := ne_ltI hx hy
  have a3 : (Int32.ofInt x ≤ Int32.ofInt 0) ↔ x ≤ 0 := ne_leI hx hy
  have a4 : (Int32.ofInt 0 < Int32.ofInt x) ↔ 0 < x := ne_ltI hy hx
  have a5 : (Int32.ofInt 0 ≤ Int32.ofInt x) ↔ 0 ≤ x := ne_leI hy hx
  rw [← ne_z0] at a1 a2 a3 a4 a5
  refine lv_if_lt X.1.1 X.1.2.1 hdg ht (fun h9 => kt ?_ H locs cells slots ad ls h1 h2 h3 h4 h5 h6 h7) (fun h9 => kf ?_ H locs cells slots ad ls h1 h2 h3 h4 h5 h6 h7)
  all_goals (simp only [ge_iff_le, gt_iff_lt, ne_eq, Decidable.not_not, a1, a2, a3, a4, a5] at h9; omega)
theorem ne_icmp_ge {x y : Int} {off : Int} {tgt : Nat} (X : ne_F cl D ct A p l R s m args meth c own cc nL Ts fr lo mc ms) (hdg : decode cc pc = .ok (.if_icmp .ge off, 3)) (ht : (pc : Int) + off = (tgt : Int)) (hx : -2147483648 ≤ x ∧ x < 2147483648) (hy : -2147483648 ≤ y ∧ y < 2147483648) (kt : y ≤ x → ne_G cl D ct A n0 ad0 p l e R s m args below meth c Q nL mc ms C S tgt L st ws) (kf : x < y → ne_G cl D ct A n0 ad0 p l e R s m args below meth c Q nL mc ms C S (pc + 3) L st ws) : ne_G cl D ct A n0 ad0 p l e R s m args below meth c Q nL mc ms C S pc L (ni y :: ni x :: st) ws := fun H locs cells slots ad ls h1 h2 h3 h4 h5 h6 h7 => by
  skip
  have a1 : (Int32.ofInt x = Int32.ofInt y) ↔ x = y := ne_eqI hx hy
  have a2 : (Int32.ofInt x < Int32.ofInt y) ↔ x < y := ne_ltI hx hy
  have a3 : (Int32.ofInt x ≤ Int32.ofInt y) ↔ x ≤ y := ne_leI hx hy
  have a4 : (Int32.ofInt y < Int32.ofInt x) ↔ y < x := ne_ltI hy hx
  have a5 : (Int32.ofInt y ≤ Int32.ofInt x) ↔ y ≤ x := ne_leI hy hx
  skip
  refine lv_icmp_ge X.1.1 X.1.2.1 hdg ht (fun h9 => kt ?_ H locs cells slots ad ls h1 h2 h3 h4 h5 h6 h7) (fun h9 => kf ?_ H locs cells slots ad ls h1 h2 h3 h4 h5 h6 h7)
  all_goals (simp only [ge_iff_le, gt_iff_lt, ne_eq, Decidable.not_not, a1, a2, a3, a4, a5] at h9; omega)
theorem ne_if_ge {x : Int} {off : Int} {tgt : Nat} (X : ne_F cl D ct A p l R s m args meth c own cc nL Ts fr lo mc ms) (hdg : decode cc pc = .ok (.ifCond .ge off, 3)) (ht : (pc : Int) + off = (tgt : Int)) (hx : -2147483648 ≤ x ∧ x < 2147483648) (kt : 0 ≤ x → ne_G cl D ct A n0 ad0 p l e R s m args below meth c Q nL mc ms C S tgt L st ws) (kf : x < 0 → ne_G cl D ct A n0 ad0 p l e R s m args below meth c Q nL mc ms C S (pc + 3) L st ws) : ne_G cl D ct A n0 ad0 p l e R s m args below meth c Q nL mc ms C S pc L (ni x :: st) ws := fun H locs cells slots ad ls h1 h2 h3 h4 h5 h6 h7 => by
  have hy : -2147483648 ≤ (0 : Int) ∧ (0 : Int) < 2147483648 := by omega
  have a1 : (Int32.ofInt x = Int32.ofInt 0) ↔ x = 0 := ne_eqI hx hy
  have a2 : (Int32.ofInt x < Int32.ofInt 0) ↔ x < 0 := ne_ltI hx hy
  have a3 : (Int32.ofInt x ≤ Int32.ofInt 0) ↔ x ≤ 0 := ne_leI hx hy
  have a4 : (Int32.ofInt 0 < Int32.ofInt x) ↔ 0 < x := ne_ltI hy hx
  have a5 : (Int32.ofInt 0 ≤ Int32.ofInt x) ↔ 0 ≤ x := ne_leI hy hx
  rw [← ne_z0] at a1 a2 a3 a4 a5
  refine lv_if_ge X.1.1 X.1.2.1 hdg ht (fun h9 => kt ?_ H locs cells slots ad ls h1 h2 h3 h4 h5 h6 h7) (fun h9 => kf ?_ H locs cells slots ad ls h1 h2 h3 h4 h5 h6 h7)
  all_goals (simp only [ge_iff_le, gt_iff_lt, ne_eq, Decidable.not_not, a1, a2, a3, a4, a5] at h9; omega)
theorem ne_icmp_gt {x y : Int} {off : Int} {tgt : Nat} (X : ne_F cl D ct A p l R s m args meth c own cc nL Ts fr lo mc ms) (hdg : decode cc pc = .ok (.if_icmp .gt off, 3)) (ht : (pc : Int) + off = (tgt : Int)) (hx : -2147483648 ≤ x ∧ x < 2147483648) (hy : -2147483648 ≤ y ∧ y < 2147483648) (kt : y < x → ne_G cl D ct A n0 ad0 p l e R s m args below meth c Q nL mc ms C S tgt L st ws) (kf : x ≤ y → ne_G cl D ct A n0 ad0 p l e R s m args below meth c Q nL mc ms C S (pc + 3) L st ws) : ne_G cl D ct A n0 ad0 p l e R s m args below meth c Q nL mc ms C S pc L (ni y :: ni x :: st) ws := fun H locs cells slots ad ls h1 h2 h3 h4 h5 h6 h7 => by
  skip
  have a1 : (Int32.ofInt x = Int32.ofInt y) ↔ x = y := ne_eqI hx hy
  have a2 : (Int32.ofInt x < Int32.ofInt y) ↔ x < y := ne_ltI hx hy
  have a3 : (Int32.ofInt x ≤ Int32.ofInt y) ↔ x ≤ y := ne_leI hx hy
  have a4 : (Int32.ofInt y < Int32.ofInt x) ↔ y < x := ne_ltI hy hx
  have a5 : (Int32.ofInt y ≤ Int32.ofInt x) ↔ y ≤ x := ne_leI hy hx
  skip
  refine lv_icmp_gt X.1.1 X.1.2.1 hdg ht (fun h9 => kt ?_ H locs cells slots ad ls h1 h2 h3 h4 h5 h6 h7) (fun h9 => kf ?_ H locs cells slots ad ls h1 h2 h3 h4 h5 h6 h7)
  all_goals (simp only [ge_iff_le, gt_iff_lt, ne_eq, Decidable.not_not, a1, a2, a3, a4, a5] at h9; omega)
theorem ne_if_gt {x : Int} {off : Int} {tgt : Nat} (X : ne_F cl D ct A p l R s m args meth c own cc nL Ts fr lo mc ms) (hdg : decode cc pc = .ok (.ifCond .gt off, 3)) (ht : (pc : Int) + off = (tgt : Int)) (hx : -2147483648 ≤ x ∧ x < 2147483648) (kt : 0 < x → ne_G cl D ct A n0 ad0 p l e R s m args below meth c Q nL mc ms C S tgt L st ws) (kf : x ≤ 0 → ne_G cl D ct A n0 ad0 p l e R s m args below meth c Q nL mc ms C S (pc + 3) L st ws) : ne_G cl D ct A n0 ad0 p l e R s m args below meth c Q nL mc ms C S pc L (ni x :: st) ws := fun H locs cells slots ad ls h1 h2 h3 h4 h5 h6 h7 => by
  have hy : -2147483648 ≤ (0 : Int) ∧ (0 : Int) < 2147483648 := by omega
  have a1 : (Int32.ofInt x = Int32.ofInt 0) ↔ x = 0 := ne_eqI hx hy
  have a2 : (Int32.ofInt x < Int32.ofInt 0) ↔ x < 0 := ne_ltI hx hy
  have a3 : (Int32.ofInt x ≤ Int32.ofInt 0) ↔ x ≤ 0 := ne_leI hx hy
  have a4 : (Int32.ofInt 0 < Int32.ofInt x) ↔ 0 < x := ne_ltI hy hx
  have a5 : (Int32.ofInt 0 ≤ Int32.ofInt x) ↔ 0 ≤ x := ne_leI hy hx
  rw [← ne_z0] at a1 a2 a3 a4 a5
  refine lv_if_gt X.1.1 X.1.2.1 hdg ht (fun h9 => kt ?_ H locs cells slots ad ls h1 h2 h3 h4 h5 h6 h7) (fun h9 => kf ?_ H locs cells slots ad ls h1 h2 h3 h4 h5 h6 h7)
  all_goals (simp only [ge_iff_le, gt_iff_lt, ne_eq, Decidable.not_not, a1, a2, a3, a4, a5] at h9; omega)
theorem ne_icmp_le {x y : Int} {off : Int} {tgt : Nat} (X : ne_F cl D ct A p l R s m args meth c own cc nL Ts fr lo mc ms) (hdg : decode cc pc = .ok (.if_icmp .le off, 3)) (ht : (pc : Int) + off = (tgt : Int)) (hx : -2147483648 ≤ x ∧ x < 2147483648) (hy : -2147483648 ≤ y ∧ y < 2147483648) (kt : x ≤ y → ne_G cl D ct A n0 ad0 p l e R s m args below meth c Q nL mc ms C S tgt L st ws) (kf : y < x → ne_G cl D ct A n0 ad0 p l e R s m args below meth c Q nL mc ms C S (pc + 3) L st ws) : ne_G cl D ct A n0 ad0 p l e R s m args below meth c Q nL mc ms C S pc L (ni y :: ni x :: st) ws := fun H locs cells slots ad ls h1 h2 h3 h4 h5 h6 h7 => by
  skip
  have a1 : (Int32.ofInt x = Int32.ofInt y) ↔ x = y := ne_eqI hx hy
  have a2 : (Int32.ofInt x < Int32.ofInt y) ↔ x < y := ne_ltI hx hy
  have a3 : (Int32.ofInt x ≤ Int32.ofInt y) ↔ x ≤ y := ne_leI hx hy
  have a4 : (Int32.ofInt y < Int32.ofInt x) ↔ y < x := ne_ltI hy hx
  have a5 : (Int32.ofInt y ≤ Int32.ofInt x) ↔ y ≤ x := ne_leI hy hx
  skip
  refine lv_icmp_le X.1.1 X.1.2.1 hdg ht (fun h9 => kt ?_ H locs cells slots ad ls h1 h2 h3 h4 h5 h6 h7) (fun h9 => kf ?_ H locs cells slots ad ls h1 h2 h3 h4 h5 h6 h7)
  all_goals (simp only [ge_iff_le, gt_iff_lt, ne_eq, Decidable.not_not, a1, a2, a3, a4, a5] at h9; omega)
theorem ne_if_le {x : Int} {off : Int} {tgt : Nat} (X : ne_F cl D ct A p l R s m args meth c own cc nL Ts fr lo mc ms) (hdg : decode cc pc = .ok (.ifCond .le off, 3)) (ht : (pc : Int) + off = (tgt : Int)) (hx : -2147483648 ≤ x ∧ x < 2147483648) (kt : x ≤ 0 → ne_G cl D ct A n0 ad0 p l e R s m args below meth c Q nL mc ms C S tgt L st ws) (kf : 0 < x → ne_G cl D ct A n0 ad0 p l e R s m args below meth c Q nL mc ms C S (pc + 3) L st ws) : ne_G cl D ct A n0 ad0 p l e R s m args below meth c Q nL mc ms C S pc L (ni x :: st) ws := fun H locs cells slots ad ls h1 h2 h3 h4 h5 h6 h7 => by
  have hy : -2147483648 ≤ (0 : Int) ∧ (0 : Int) < 2147483648 := by omega
  have a1 : (Int32.ofInt x = Int32.ofInt 0) ↔ x = 0 := ne_eqI hx hy
  have a2 : (Int32.ofInt x < Int32.ofInt 0) ↔ x < 0 := ne_ltI hx hy
  have a3 : (Int32.ofInt x ≤ Int32.ofInt 0) ↔ x ≤ 0 := ne_leI hx hy
  have a4 : (Int32.ofInt 0 < Int32.ofInt x) ↔ 0 < x := ne_ltI hy hx
  have a5 : (Int32.ofInt 0 ≤ Int32.ofInt x) ↔ 0 ≤ x := ne_leI hy hx
  rw [← ne_z0] at a1 a2 a3 a4 a5
  refine lv_if_le X.1.1 X.1.2.1 hdg ht (fun h9 => kt ?_ H locs cells slots ad ls h1 h2 h3 h4 h5 h6 h7) (fun h9 => kf ?_ H locs cells slots ad ls h1 h2 h3 h4 h5 h6 h7)
  all_goals (simp only [ge_iff_le, gt_iff_lt, ne_eq, Decidable.not_not, a1, a2, a3, a4, a5] at h9; omega)
theorem ne_ifnull {q : Nat} {off : Int} (X : ne_F cl D ct A p l R s m args meth c own cc nL Ts fr lo mc ms) (hdg : decode cc pc = .ok (.ifnull off, 3)) (k : ne_G cl D ct A n0 ad0 p l e R s m args below meth c Q nL mc ms C S (pc + 3) L st ws) : ne_G cl D ct A n0 ad0 p l e R s m args below meth c Q nL mc ms C S pc L (.ref q :: st) ws := fun H locs cells slots ad ls h1 h2 h3 h4 h5 h6 h7 =>
  lv_ifnull X.1.1 X.1.2.1 hdg (k H locs cells slots ad ls h1 h2 h3 h4 h5 h6 h7)
theorem ne_ifnonnull {q : Nat} {off : Int} {tgt : Nat} (X : ne_F cl D ct A p l R s m args meth c own cc nL Ts fr lo mc ms) (hdg : decode cc pc = .ok (.ifnonnull off, 3)) (ht : (pc : Int) + off = (tgt : Int)) (k : ne_G cl D ct A n0 ad0 p l e R s m args below meth c Q nL mc ms C S tgt L st ws) : ne_G cl D ct A n0 ad0 p l e R s m args below meth c Q nL mc ms C S pc L (.ref q :: st) ws := fun H locs cells slots ad ls h1 h2 h3 h4 h5 h6 h7 =>
  lv_ifnonnull X.1.1 X.1.2.1 hdg ht (k H locs cells slots ad ls h1 h2 h3 h4 h5 h6 h7)
theorem ne_ifnonnullN {off : Int} (X : ne_F cl D ct A p l R s m args meth c own cc nL Ts fr lo mc ms) (hdg : decode cc pc = .ok (.ifnonnull off, 3)) (k : ne_G cl D ct A n0 ad0 p l e R s m args below meth c Q nL mc ms C S (pc + 3) L st ws) : ne_G cl D ct A n0 ad0 p l e R s m args below meth c Q nL mc ms C S pc L (.null :: st) ws := fun H locs cells slots ad ls h1 h2 h3 h4 h5 h6 h7 =>
  lv_ifnonnullN X.1.1 X.1.2.1 hdg (k H locs cells slots ad ls h1 h2 h3 h4 h5 h6 h7)
theorem ne_cmpv {x y : Int} (hx : -9223372036854775808 ≤ x ∧ x < 9223372036854775808) (hy : -9223372036854775808 ≤ y ∧ y < 9223372036854775808) : ∃ z : Int, lg_cmp (Int64.ofInt x) (Int64.ofInt y) = Int32.ofInt z ∧ -1 ≤ z ∧ z ≤ 1 ∧ (z < 0 ↔ x < y) ∧ (0 < z ↔ y < x) := by
  have a1 := ne_ltL hx hy
  have a2 := ne_ltL hy hx
  unfold lg_cmp
  by_cases b1 : y < x
  · refine ⟨1, ?_, by omega, by omega, by omega, by omega⟩
    simp [a1, a2, b1]; try omega
  · by_cases b2 : x < y
    · refine ⟨-1, ?_, by omega, by omega, by omega, by omega⟩
      have b4 : ¬ Int64.ofInt x = Int64.ofInt y := fun h9 => by
        have h8 := congrArg Int64.toInt h9
        rw [ne_toL hx.1 hx.2, ne_toL hy.1 hy.2] at h8
        omega
      simp [a1, a2, b1, b4]
    · refine ⟨0, ?_, by omega, by omega, by omega, by omega⟩
      have b3 : x = y := by omega
      subst b3
      simp
theorem ne_lcmp {x y : Int} (X : ne_F cl D ct A p l R s m args meth c own cc nL Ts fr lo mc ms) (hdg : decode cc pc = .ok (.lcmp, 1)) (hx : -9223372036854775808 ≤ x ∧ x < 9223372036854775808) (hy : -9223372036854775808 ≤ y ∧ y < 9223372036854775808) (k : ∀ z : Int, -1 ≤ z → z ≤ 1 → (z < 0 ↔ x < y) → (0 < z ↔ y < x) → ne_G cl D ct A n0 ad0 p l e R s m args below meth c Q nL mc ms C S (pc + 1) L (ni z :: st) ws) : ne_G cl D ct A n0 ad0 p l e R s m args below meth c Q nL mc ms C S pc L (nl y :: nl x :: st) ws := fun H locs cells slots ad ls h1 h2 h3 h4 h5 h6 h7 => by
  obtain ⟨z, e1, e2, e3, e4, e5⟩ := ne_cmpv hx hy
  refine W.lcmp X.1.1 X.1.2.1 hdg ?_
  rw [e1]
  exact k z e2 e3 e4 e5 H locs cells slots ad ls h1 h2 h3 h4 h5 h6 h7
end NEB
section NEC
variable {cl : List vw_C} {D : va_G} {ct : Nat → ClassId} {A : Nat → Prop} {n0 : Nat} {ad0 : Nat → Nat} {p : Program} {l : Launch} {e : Env} {R : Room} {s : State} {m : MethodId} {args : Array Value} {below : List Frame} {meth : Method} {c : Code} {Q : State → Prop} {own : String} {cc : ByteArray} {nL : Nat} {Ts : List Cond} {fr lo mc ms C S pc : Nat} {L : List (Option Value)} {st : List Value} {ws : ne_W}
/-! fields -/
/-- place ix of own's pool: field k of class ci -/
def ne_fl (cl : List vw_C) (own : String) (ix ci k : Nat) (Ts : List Cond) : Prop := ∃ (C : String) (T : u_T) (N : Nat), cl[ci]? = some (C, T, N) ∧ k < N ∧ (∀ w ∈ u_ws C T N, w ∈ Ts) ∧ Cond.fieldLink own ix (T k).1 (T k).2.1 (T k).2.2.1 ∈ Ts
def ne_fln (cl : List vw_C) (own : String) (ix ci k : Nat) (host : String) (Ts : List Cond) : Prop := ∃ (C : String) (T : u_T) (N : Nat), cl[ci]? = some (C, T, N) ∧ k < N ∧ (∀ w ∈ u_ws C T N, w ∈ Ts) ∧ (own, ix, (T k).1, (T k).2.1, (T k).2.2.1, host) ∈ ne_nf
/-- .. and what may be stored there -/
def ne_fp (cl : List vw_C) (ci k : Nat) (ty : FieldType) (fin : Bool) : Prop := ∃ (C : String) (T : u_T) (N : Nat) (ty0 : Nat → FieldType), cl[ci]? = some (C, T, N) ∧ (∀ k, k < N → parseFieldDescriptor (T k).2.2.1 = some (ty0 k)) ∧ (∀ a, a < N → ∀ b, b < N → a ≠ b → (T a).2.1 ≠ (T b).2.1) ∧ (T k).2.2.2 = fin ∧ parseFieldDescriptor (T k).2.2.1 = some ty
theorem ne_getf {ix ci k q : Nat} {fs : List Value} {v : Value} (X : ne_F cl D ct A p l R s m args meth c own cc nL Ts fr lo mc ms) (hdg : decode cc pc = .ok (.getfield ix, 3)) (hf : ne_fl cl own ix ci k Ts) (he : ws[q]? = some (some (.inr (ci, fs)))) (hv : fs[k]? = some v) (kk : ne_G cl D ct A n0 ad0 p l e R s m args below meth c Q nL mc ms C S (pc + 3) L (v :: st) ws) : ne_G cl D ct A n0 ad0 p l e R s m args below meth c Q nL mc ms C S pc L (.ref q :: st) ws := fun H locs cells slots ad ls h1 h2 h3 h4 h5 h6 h7 => by
  obtain ⟨C', T, N, f1, f2, f3, f4⟩ := hf
  obtain ⟨q0, e1, -⟩ := ne_w_set (ct := ct) (ad := ad) (k := 0) he
  rw [Nat.zero_add] at e1
  exact va_get (fs := fs.map (ne_v ad)) (v := ne_v ad v) X.1.1 X.1.2.1 X.1.2.2.2.2 f3 X.1.2.2.2.1 X.2.1 h4 q0 e1 f1 k f2 (X.1.2.2.2.2 _ f4) (fun _ h => h) (by rw [List.getElem?_map, hv]; rfl) hdg (kk H locs cells slots ad ls h1 h2 h3 h4 h5 h6 h7)
theorem ne_getfn {ix ci k q : Nat} {host : String} {fs : List Value} {v : Value} (X : ne_F cl D ct A p l R s m args meth c own cc nL Ts fr lo mc ms) (hdg : decode cc pc = .ok (.getfield ix, 3)) (hf : ne_fln cl own ix ci k host Ts) (he : ws[q]? = some (some (.inr (ci, fs)))) (hv : fs[k]? = some v) (kk : ne_G cl D ct A n0 ad0 p l e R s m args below meth c Q nL mc ms C S (pc + 3) L (v :: st) ws) : ne_G cl D ct A n0 ad0 p l e R s m args below meth c Q nL mc ms C S pc L (.ref q :: st) ws := fun H locs cells slots ad ls h1 h2 h3 h4 h5 h6 h7 => by
  obtain ⟨C', T, N, f1, f2, f3, f4⟩ := hf
  obtain ⟨q0, e1, -⟩ := ne_w_set (ct := ct) (ad := ad) (k := 0) he
  rw [Nat.zero_add] at e1
  exact va_getN (host := host) (fs := fs.map (ne_v ad)) (v := ne_v ad v) X.1.1 X.1.2.1 X.1.2.2.2.2 f3 X.1.2.2.2.1 X.2.1 h4 q0 e1 f1 k f2 ((X.2.2.2.2.2.2.2.1.2.2.2.2.2.1 _ f4).use rfl) (fun _ h => h) (by rw [List.getElem?_map, hv]; rfl) hdg (kk H locs cells slots ad ls h1 h2 h3 h4 h5 h6 h7)
theorem ne_setf {ad : Nat → Nat} {ci k : Nat} {fs : List Value} {v : Value} : ne_c ct ad (.inr (ci, fs.set k v)) = .inr (ci, (fs.map (ne_v ad)).set k (ne_v ad v)) := by
  simp only [ne_c, List.map_set]
theorem ne_putf {ix ci k q : Nat} {ty : FieldType} {fs : List Value} {v : Value} (X : ne_F cl D ct A p l R s m args meth c own cc nL Ts fr lo mc ms) (hdg : decode cc pc = .ok (.putfield ix, 3)) (hf : ne_fl cl own ix ci k Ts) (hp : ne_fp cl ci k ty false) (he : ws[q]? = some (some (.inr (ci, fs)))) (hn : ∀ ad, narrow ty (ne_v ad v) = ne_v ad v) (hfit : ∀ ad, fits ty (ne_v ad v) = true) (hl : k < fs.length) (kk : ne_G cl D ct A n0 ad0 p l e R s m args below meth c Q nL mc ms C S (pc + 3) L st (ws.set q (some (.inr (ci, fs.set k v))))) : ne_G cl D ct A n0 ad0 p l e R s m args below meth c Q nL mc ms C S pc L (v :: .ref q :: st) ws := fun H locs cells slots ad ls h1 h2 h3 h4 h5 h6 h7 => by
  obtain ⟨C', T, N, f1, f2, f3, f4⟩ := hf
  obtain ⟨C2, T2, N2, ty0, g1, g2, g3, g4, g5⟩ := hp
  cases f1.symm.trans g1
  obtain ⟨q0, e1, e2⟩ := ne_w_set (ct := ct) (ad := ad) (k := 0) he
  rw [Nat.zero_add] at e1 e2
  refine va_put (fs := fs.map (ne_v ad)) (v := ne_v ad v) X.1.1 X.1.2.1 X.1.2.2.2.2 f3 ty0 g2 g3 X.1.2.2.2.1 X.2.1 h4 h5 h6 q0 e1 f1 k f2 (X.1.2.2.2.2 _ f4) (fun _ h => h) g4 g5 (hn ad) (hfit ad) (by rw [List.length_map]; exact hl) hdg (fun H1 locs1 hP hD hS => ?_)
  have e3 := e2 (.inr (ci, fs.set k v))
  rw [ne_setf] at e3
  rw [e3] at hP hD
  exact kk H1 locs1 cells slots ad ls h1 h2 h3 hP hD hS h7
theorem ne_putfn {ix ci k q : Nat} {host : String} {ty : FieldType} {fs : List Value} {v : Value} (X : ne_F cl D ct A p l R s m args meth c own cc nL Ts fr lo mc ms) (hdg : decode cc pc = .ok (.putfield ix, 3)) (hf : ne_fln cl own ix ci k host Ts) (hp : ne_fp cl ci k ty false) (he : ws[q]? = some (some (.inr (ci, fs)))) (hn : ∀ ad, narrow ty (ne_v ad v) = ne_v ad v) (hfit : ∀ ad, fits ty (ne_v ad v) = true) (hl : k < fs.length) (kk : ne_G cl D ct A n0 ad0 p l e R s m args below meth c Q nL mc ms C S (pc + 3) L st (ws.set q (some (.inr (ci, fs.set k v))))) : ne_G cl D ct A n0 ad0 p l e R s m args below meth c Q nL mc ms C S pc L (v :: .ref q :: st) ws := fun H locs cells slots ad ls h1 h2 h3 h4 h5 h6 h7 => by
  obtain ⟨C', T, N, f1, f2, f3, f4⟩ := hf
  obtain ⟨C2, T2, N2, ty0, g1, g2, g3, g4, g5⟩ := hp
  cases f1.symm.trans g1
  obtain ⟨q0, e1, e2⟩ := ne_w_set (ct := ct) (ad := ad) (k := 0) he
  rw [Nat.zero_add] at e1 e2
  refine va_putN (host := host) (fs := fs.map (ne_v ad)) (v := ne_v ad v) X.1.1 X.1.2.1 X.1.2.2.2.2 f3 ty0 g2 g3 X.1.2.2.2.1 X.2.1 h4 h5 h6 q0 e1 f1 k f2 ((X.2.2.2.2.2.2.2.1.2.2.2.2.2.1 _ f4).use rfl) (fun _ h => h) g4 g5 (hn ad) (hfit ad) (by rw [List.length_map]; exact hl) hdg (fun H1 locs1 hP hD hS => ?_)
  have e3 := e2 (.inr (ci, fs.set k v))
  rw [ne_setf] at e3
  rw [e3] at hP hD
  exact kk H1 locs1 cells slots ad ls h1 h2 h3 hP hD hS h7
theorem ne_putF {ix ci k q : Nat} {ty : FieldType} {fs : List Value} {v : Value} (X : ne_F cl D ct A p l R s m args meth c own cc nL Ts fr lo mc ms) (hdg : decode cc pc = .ok (.putfield ix, 3)) (hin : meth.name = "<init>") (hf : ne_fl cl own ix ci k Ts) (hp : ne_fp cl ci k ty true) (ho : ∃ r, cl[ci]? = some r ∧ own = r.1 ∧ (r.2.1 k).1 = r.1) (he : ws[q]? = some (some (.inr (ci, fs)))) (hn : ∀ ad, narrow ty (ne_v ad v) = ne_v ad v) (hfit : ∀ ad, fits ty (ne_v ad v) = true) (hl : k < fs.length) (kk : ne_G cl D ct A n0 ad0 p l e R s m args below meth c Q nL mc ms C S (pc + 3) L st (ws.set q (some (.inr (ci, fs.set k v))))) : ne_G cl D ct A n0 ad0 p l e R s m args below meth c Q nL mc ms C S pc L (v :: .ref q :: st) ws := fun H locs cells slots ad ls h1 h2 h3 h4 h5 h6 h7 => by
  obtain ⟨C', T, N, f1, f2, f3, f4⟩ := hf
  obtain ⟨C2, T2, N2, ty0, g1, g2, g3, g4, g5⟩ := hp
  obtain ⟨r, r1, r2, r3⟩ := ho
  cases f1.symm.trans g1
  cases f1.symm.trans r1
  obtain ⟨q0, e1, e2⟩ := ne_w_set (ct := ct) (ad := ad) (k := 0) he
  rw [Nat.zero_add] at e1 e2
  refine va_putF (fs := fs.map (ne_v ad)) (v := ne_v ad v) X.1.1 X.1.2.1 X.1.2.2.2.2 f3 ty0 g2 g3 X.1.2.2.2.1 X.2.1 h4 h5 h6 q0 e1 f1 k f2 (X.1.2.2.2.2 _ f4) (fun _ h => h) g4 hin (r3.trans r2.symm) g5 (hn ad) (hfit ad) (by rw [List.length_map]; exact hl) hdg (fun H1 locs1 hP hD hS => ?_)
  have e3 := e2 (.inr (ci, fs.set k v))
  rw [ne_setf] at e3
  rw [e3] at hP hD
  exact kk H1 locs1 cells slots ad ls h1 h2 h3 hP hD hS h7
/-! arrays -/
theorem ne_iald {q n : Nat} {f : Nat → Int} {i : Int} (X : ne_F cl D ct A p l R s m args meth c own cc nL Ts fr lo mc ms) (hdg : decode cc pc = .ok (.iaload, 1)) (he : ws[q]? = some (some (.inl (0, n, f)))) (hi : 0 ≤ i ∧ i < n ∧ i < 2147483648) (kk : ne_G cl D ct A n0 ad0 p l e R s m args below meth c Q nL mc ms C S (pc + 1) L (ni (f i.toNat) :: st) ws) : ne_G cl D ct A n0 ad0 p l e R s m args below meth c Q nL mc ms C S pc L (ni i :: .ref q :: st) ws := fun H locs cells slots ad ls h1 h2 h3 h4 h5 h6 h7 => by
  obtain ⟨q0, e1, -⟩ := ne_w_set (ct := ct) (ad := ad) (k := 0) he
  rw [Nat.zero_add] at e1
  obtain ⟨a1, a2⟩ := ne_in hi.1 hi.2.1 hi.2.2
  have k9 := kk H locs cells slots ad ls h1 h2 h3 h4 h5 h6 h7
  rw [← a2] at k9
  exact va_iald X.1.1 X.1.2.1 X.2.1 h4 q0 0 e1 rfl a1 hdg k9
theorem ne_bald {q n : Nat} {f : Nat → Int} {i : Int} (X : ne_F cl D ct A p l R s m args meth c own cc nL Ts fr lo mc ms) (hdg : decode cc pc = .ok (.baload, 1)) (he : ws[q]? = some (some (.inl (1, n, f)))) (hi : 0 ≤ i ∧ i < n ∧ i < 2147483648) (kk : ne_G cl D ct A n0 ad0 p l e R s m args below meth c Q nL mc ms C S (pc + 1) L (ni (f i.toNat) :: st) ws) : ne_G cl D ct A n0 ad0 p l e R s m args below meth c Q nL mc ms C S pc L (ni i :: .ref q :: st) ws := fun H locs cells slots ad ls h1 h2 h3 h4 h5 h6 h7 => by
  obtain ⟨q0, e1, -⟩ := ne_w_set (ct := ct) (ad := ad) (k := 0) he
  rw [Nat.zero_add] at e1
  obtain ⟨a1, a2⟩ := ne_in hi.1 hi.2.1 hi.2.2
  have k9 := kk H locs cells slots ad ls h1 h2 h3 h4 h5 h6 h7
  rw [← a2] at k9
  exact va_bald X.1.1 X.1.2.1 X.2.1 h4 q0 1 e1 rfl a1 hdg k9
theorem ne_iast {q n : Nat} {f : Nat → Int} {i z : Int} (X : ne_F cl D ct A p l R s m args meth c own cc nL Ts fr lo mc ms) (hdg : decode cc pc = .ok (.iastore, 1)) (he : ws[q]? = some (some (.inl (0, n, f)))) (hi : 0 ≤ i ∧ i < n ∧ i < 2147483648) (kk : ne_G cl D ct A n0 ad0 p l e R s m args below meth c Q nL mc ms C S (pc + 1) L st (ws.set q (some (.inl (0, n, va_up f i.toNat z))))) : ne_G cl D ct A n0 ad0 p l e R s m args below meth c Q nL mc ms C S pc L (ni z :: ni i :: .ref q :: st) ws := fun H locs cells slots ad ls h1 h2 h3 h4 h5 h6 h7 => by
  obtain ⟨q0, e1, e2⟩ := ne_w_set (ct := ct) (ad := ad) (k := 0) he
  rw [Nat.zero_add] at e1 e2
  obtain ⟨a1, a2⟩ := ne_in hi.1 hi.2.1 hi.2.2
  refine va_iast X.1.1 X.1.2.1 X.2.1 h4 h5 h6 q0 0 e1 rfl a1 hdg (fun H1 locs1 hP hD hS => ?_)
  have e3 := e2 (.inl (0, n, va_up f i.toNat z))
  have e4 : ne_c ct ad (.inl (0, n, va_up f i.toNat z)) = .inl (ct 0, n, .inl (upd (fun j => Int32.ofInt (f j)) (Int32.ofInt i).toNatClampNeg (Int32.ofInt z))) := by rw [a2, ne_upd]; rfl
  rw [e4] at e3
  rw [e3] at hP hD
  exact kk H1 locs1 cells slots ad ls h1 h2 h3 hP hD hS h7
theorem ne_nar {z : Int} (hz : -128 ≤ z ∧ z < 128) : vp_nar .byte (Int32.ofInt z) = Int32.ofInt z := by
  have h1 : (Int32.ofInt z).toInt = z := ne_toI (by omega) (by omega)
  have h2 : (Int32.ofInt z).toInt8.toInt32 = Int32.ofInt z := by
    apply Int32.toInt_inj.mp
    rw [Int8.toInt_toInt32, Int32.toInt_toInt8, h1]
    exact Int.bmod_eq_of_le (by omega) (by omega)
  first
    | (show (Int32.ofInt z).toInt8.toInt32 = Int32.ofInt z; exact h2)
    | (simp only [vp_nar, narrow]; exact h2)
    | (simp [vp_nar, narrow, h2])
theorem ne_bast {q n : Nat} {f : Nat → Int} {i z : Int} (X : ne_F cl D ct A p l R s m args meth c own cc nL Ts fr lo mc ms) (hdg : decode cc pc = .ok (.bastore, 1)) (he : ws[q]? = some (some (.inl (1, n, f)))) (hi : 0 ≤ i ∧ i < n ∧ i < 2147483648) (hz : -128 ≤ z ∧ z < 128) (kk : ne_G cl D ct A n0 ad0 p l e R s m args below meth c Q nL mc ms C S (pc + 1) L st (ws.set q (some (.inl (1, n, va_up f i.toNat z))))) : ne_G cl D ct A n0 ad0 p l e R s m args below meth c Q nL mc ms C S pc L (ni z :: ni i :: .ref q :: st) ws := fun H locs cells slots ad ls h1 h2 h3 h4 h5 h6 h7 => by
  obtain ⟨q0, e1, e2⟩ := ne_w_set (ct := ct) (ad := ad) (k := 0) he
  rw [Nat.zero_add] at e1 e2
  obtain ⟨a1, a2⟩ := ne_in hi.1 hi.2.1 hi.2.2
  refine va_bast X.1.1 X.1.2.1 X.2.1 h4 h5 h6 q0 1 e1 rfl a1 hdg (fun H1 locs1 hP hD hS => ?_)
  have e3 := e2 (.inl (1, n, va_up f i.toNat z))
  have e4 : ne_c ct ad (.inl (1, n, va_up f i.toNat z)) = .inl (ct 1, n, .inl (upd (fun j => Int32.ofInt (f j)) (Int32.ofInt i).toNatClampNeg (vp_nar .byte (Int32.ofInt z)))) := by rw [a2, ne_nar hz, ne_upd]; rfl
  rw [e4] at e3
  rw [e3] at hP hD
  exact kk H1 locs1 cells slots ad ls h1 h2 h3 hP hD hS h7
theorem ne_alen {q t n : Nat} {f : Nat → Int} (X : ne_F cl D ct A p l R s m args meth c own cc nL Ts fr lo mc ms) (hdg : decode cc pc = .ok (.arraylength, 1)) (he : ws[q]? = some (some (.inl (t, n, f)))) (ht : t < 2) (kk : ne_G cl D ct A n0 ad0 p l e R s m args below meth c Q nL mc ms C S (pc + 1) L (ni (n : Int) :: st) ws) : ne_G cl D ct A n0 ad0 p l e R s m args below meth c Q nL mc ms C S pc L (.ref q :: st) ws := fun H locs cells slots ad ls h1 h2 h3 h4 h5 h6 h7 => by
  obtain ⟨q0, e1, -⟩ := ne_w_set (ct := ct) (ad := ad) (k := 0) he
  rw [Nat.zero_add] at e1
  have ht2 : ∃ ty, (ne_ty ct)[t]? = some (ct t, ty) := by
    rcases (show t = 0 ∨ t = 1 by omega) with rfl | rfl
    · exact ⟨_, rfl⟩
    · exact ⟨_, rfl⟩
  obtain ⟨ty, ht3⟩ := ht2
  exact va_alen (v := Int32.ofInt (n : Int)) X.1.1 X.1.2.1 X.2.1 h4 q0 t e1 ht3 (Int32.ofInt_eq_ofNat).symm hdg (kk H locs cells slots ad ls h1 h2 h3 h4 h5 h6 h7)
/-! what is new -/
theorem ne_lt {ad : Nat → Nat} {H : Heap} (h : va_P D cl (ne_w ct ad 0 ws) H) {q : Nat × va_E} (hq : q ∈ ne_w ct ad 0 ws) : q.1 < H.size := by
  obtain ⟨k, hk⟩ := List.getElem?_of_mem hq
  exact (h k q hk).lt
/-- the view after a new cell -/
theorem ne_push {H H1 : Heap} {locs : List Loc} {ad : Nat → Nat} {ls : Array Slot} {e9 : ne_E} (hA : ∀ q, s.heap.size ≤ q → A q) (hn0 : n0 ≤ ws.length) (h1 : ∀ k, k < n0 → ad k = ad0 k) (h4 : va_P D cl (ne_w ct ad 0 ws) H) (h5 : va_D A (ne_w ct ad 0 ws)) (h6 : va_S A s.heap H locs) (h7 : lv_has ls nL (ne_l ad 0 L)) (hw : ne_cw ws.length ws = true) (hl : ne_cl ws.length L = true) (hz : H1.size = H.size + 1) (ho : ∀ q, q < H.size → H1[q]? = H[q]?) (hat : va_at D cl (H.size, ne_c ct (ne_up ad ws.length H.size) e9) H1) :
    (∀ k, k < n0 → ne_up ad ws.length H.size k = ad0 k) ∧ va_P D cl (ne_w ct (ne_up ad ws.length H.size) 0 (ws ++ [some e9])) H1 ∧ va_D A (ne_w ct (ne_up ad ws.length H.size) 0 (ws ++ [some e9])) ∧ va_S A s.heap H1 locs ∧ lv_has ls nL (ne_l (ne_up ad ws.length H.size) 0 L) := by
  have hag : ∀ k, k < ws.length → ne_up ad ws.length H.size k = ad k := fun k hk => ne_up_lt hk
  have e1 : ne_w ct (ne_up ad ws.length H.size) 0 (ws ++ [some e9]) = ne_w ct ad 0 ws ++ [(H.size, ne_c ct (ne_up ad ws.length H.size) e9)] := by
    rw [ne_w_app, ne_w_eq hag hw (by omega), Nat.zero_add, ne_up_self]
  refine ⟨fun k hk => (hag k (by omega)).trans (h1 k hk), ?_, ?_, ?_, by rw [ne_l_eq hag hl]; exact h7⟩
  · rw [e1]
    refine va_P.app (h4.kept fun k q hk => ho _ (h4 k q hk).lt) (fun k q hk => ?_)
    have hq : q ∈ [(H.size, ne_c ct (ne_up ad ws.length H.size) e9)] := List.mem_of_getElem? hk
    rw [List.mem_singleton] at hq
    subst hq
    exact hat
  · rw [e1]
    exact h5.push h4 rfl (hA _ h6.1)
  · exact ⟨by have := h6.1; omega, fun q hq hq2 => (ho q (by have := h6.1; omega)).trans (h6.2.1 q hq hq2), h6.2.2⟩
theorem ne_newa {t : Nat} {atype : ArrayType} {z : Int} (X : ne_F cl D ct A p l R s m args meth c own cc nL Ts fr lo mc ms) (hdg : decode cc pc = .ok (.newarray atype, 2)) (ht : (t = 0 ∧ atype = .int) ∨ (t = 1 ∧ atype = .byte)) (harr : Cond.arrayClass (newarray.typeOf atype) ∈ Ts) (hz : 0 ≤ z ∧ z < 100000000) (hC : 1 ≤ C) (hS : z.toNat ≤ S) (hn0 : n0 ≤ ws.length) (hw : ne_cw ws.length ws = true) (hl : ne_cl ws.length L = true) (hs : ne_cs ws.length st = true) (kk : ne_G cl D ct A n0 ad0 p l e R s m args below meth c Q nL mc ms (C - 1) (S - z.toNat) (pc + 2) L (.ref ws.length :: st) (ws ++ [some (.inl (t, z.toNat, fun _ => 0))])) : ne_G cl D ct A n0 ad0 p l e R s m args below meth c Q nL mc ms C S pc L (ni z :: st) ws := fun H locs cells slots ad ls h1 h2 h3 h4 h5 h6 h7 => by
  have e1 : (Int32.ofInt z).toInt = z := ne_toI (by omega) (by omega)
  have e2 : (Int32.ofInt z).toNatClampNeg = z.toNat := by rw [Int32.toNatClampNeg, e1]
  have hlt : ¬ Int32.ofInt z < 0 := by rw [ne_z0, ne_ltI ⟨by omega, by omega⟩ ⟨by omega, by omega⟩]; omega
  have hcb : z.toNat * componentBytes (newarray.typeOf atype) ≤ 536870912 := by
    rcases ht with ⟨-, rfl⟩ | ⟨-, rfl⟩
    · show z.toNat * 4 ≤ _; omega
    · show z.toNat * 1 ≤ _; omega
  refine va_newaK X.1.1 X.1.2.1 (X.1.2.2.2.2 _ harr) (g := F0 m pc ls (ni z :: st.map (ne_v ad))) rfl hdg rfl hlt e2 hcb (Nat.le_trans (by omega) X.2.2.2.2.2.1) (Nat.le_trans (by omega) X.2.2.2.2.2.2.1) rfl (fun H1 cA b1 b2 b3 b4 b5 => ?_)
  have hcA : cA = ct t := by
    rcases ht with ⟨rfl, rfl⟩ | ⟨rfl, rfl⟩
    · have h9 := (X.2.1.2 0 (ct 0, .int) rfl).2
      exact Option.some.inj (b5.symm.trans h9)
    · have h9 := (X.2.1.2 1 (ct 1, .byte) rfl).2
      exact Option.some.inj (b5.symm.trans h9)
  subst hcA
  obtain ⟨c1, c2, c3, c4, c5⟩ := ne_push (e9 := .inl (t, z.toNat, fun _ => 0)) X.2.2.1 hn0 h1 h4 h5 h6 h7 hw hl b2 b3 (by
    show H1[H.size]? = some (vp_cell (ct t) (z.toNat, .inl (fun _ => Int32.ofInt 0)))
    rw [b1]
    rcases ht with ⟨rfl, rfl⟩ | ⟨rfl, rfl⟩
    · rfl
    · rfl)
  have k9 := kk H1 locs (cells + 1) (slots + z.toNat) _ ls c1 (by omega) (by omega) c2 c3 c4 c5
  have e3 : List.map (ne_v (ne_up ad ws.length H.size)) (.ref ws.length :: st) = .ref H.size :: st.map (ne_v ad) := by
    rw [List.map_cons, ne_s_eq (fun k hk => ne_up_lt hk) hs]
    simp only [ne_v, ne_up_self]
  rw [e3] at k9
  exact k9
def ne_nl (cl : List vw_C) (own : String) (ix ci N : Nat) (fs : List Value) (Ts : List Cond) : Prop := ∃ (C : String) (T : u_T) (ty0 : Nat → FieldType), cl[ci]? = some (C, T, N) ∧ (∀ w ∈ u_ws C T N, w ∈ Ts) ∧ (∀ k, k < N → parseFieldDescriptor (T k).2.2.1 = some (ty0 k)) ∧ (∀ j, j < N → defaultValue (ty0 j) = vp_V fs j) ∧ Cond.classLink own ix C ∈ Ts ∧ Cond.instantiable C N ∈ Ts ∧ Cond.initialized C ∈ Ts ∧ ∀ ad, fs.map (ne_v ad) = fs
theorem ne_new {ix ci N : Nat} {fs : List Value} (X : ne_F cl D ct A p l R s m args meth c own cc nL Ts fr lo mc ms) (hdg : decode cc pc = .ok (.new ix, 3)) (hk : ne_nl cl own ix ci N fs Ts) (hC : 1 ≤ C) (hS : N ≤ S) (hn0 : n0 ≤ ws.length) (hw : ne_cw ws.length ws = true) (hl : ne_cl ws.length L = true) (hs : ne_cs ws.length st = true) (kk : ne_G cl D ct A n0 ad0 p l e R s m args below meth c Q nL mc ms (C - 1) (S - N) (pc + 3) L (.ref ws.length :: st) (ws ++ [some (.inr (ci, fs))])) : ne_G cl D ct A n0 ad0 p l e R s m args below meth c Q nL mc ms C S pc L st ws := fun H locs cells slots ad ls h1 h2 h3 h4 h5 h6 h7 => by
  obtain ⟨C', T, ty0, f1, f2, f3, f4, f5, f6, f7, f8⟩ := hk
  refine va_new (ci := ci) (fs := fs) X.1.1 X.1.2.1 X.1.2.2.2.2 f2 ty0 f3 X.1.2.2.2.1 (X.1.2.2.2.2 _ f5) (X.1.2.2.2.2 _ f6) (X.1.2.2.2.2 _ f7) X.2.1 h4 h5 h6 X.2.2.1 f1 f4 (Nat.le_trans (by omega) X.2.2.2.2.2.1) (Nat.le_trans (by omega) X.2.2.2.2.2.2.1) hdg (fun q H1 hP hD hS9 => ?_)
  have hag : ∀ k, k < ws.length → ne_up ad ws.length q k = ad k := fun k hk => ne_up_lt hk
  have e1 : ne_w ct (ne_up ad ws.length q) 0 (ws ++ [some (.inr (ci, fs))]) = ne_w ct ad 0 ws ++ [(q, .inr (ci, fs))] := by
    rw [ne_w_app, ne_w_eq hag hw (by omega), Nat.zero_add, ne_up_self]
    simp only [ne_c, f8]
  rw [← e1] at hP hD
  have k9 := kk H1 locs (cells + 1) (slots + N) _ ls (fun k hk => (hag k (by omega)).trans (h1 k hk)) (by omega) (by omega) hP hD hS9 (by rw [ne_l_eq hag hl]; exact h7)
  have e3 : List.map (ne_v (ne_up ad ws.length q)) (.ref ws.length :: st) = .ref q :: st.map (ne_v ad) := by
    rw [List.map_cons, ne_s_eq hag hs]
    simp only [ne_v, ne_up_self]
  rw [e3] at k9
  exact k9
/-- a constant text: a place without a cell -/
theorem ne_ldcS {ix : Nat} {tx : String} (X : ne_F cl D ct A p l R s m args meth c own cc nL Ts fr lo mc ms) (hdg : decode cc pc = .ok (.ldc ix, 2)) (hk : (own, ix, tx) ∈ ne_sl) (hn0 : n0 ≤ ws.length) (hw : ne_cw ws.length ws = true) (hl : ne_cl ws.length L = true) (hs : ne_cs ws.length st = true) (kk : ne_G cl D ct A n0 ad0 p l e R s m args below meth c Q nL mc ms C S (pc + 2) L (.ref ws.length :: st) (ws ++ [none])) : ne_G cl D ct A n0 ad0 p l e R s m args below meth c Q nL mc ms C S pc L st ws := fun H locs cells slots ad ls h1 h2 h3 h4 h5 h6 h7 => by
  obtain ⟨a, ha⟩ := X.2.2.2.2.2.2.2.1.2.2.2.1 _ hk
  have hag : ∀ k, k < ws.length → ne_up ad ws.length a k = ad k := fun k hk => ne_up_lt hk
  refine va_ldcS X.1.1 X.1.2.1 X.1.2.2.2.1 ha hdg ?_
  have k9 := kk H locs cells slots (ne_up ad ws.length a) ls (fun k hk => (hag k (by omega)).trans (h1 k hk)) h2 h3 (by rw [ne_w_appN, ne_w_eq hag hw (by omega)]; exact h4) (by rw [ne_w_appN, ne_w_eq hag hw (by omega)]; exact h5) h6 (by rw [ne_l_eq hag hl]; exact h7)
  have e3 : List.map (ne_v (ne_up ad ws.length a)) (.ref ws.length :: st) = .ref a :: st.map (ne_v ad) := by
    rw [List.map_cons, ne_s_eq hag hs]
    simp only [ne_v, ne_up_self]
  rw [e3] at k9
  exact k9
/-- String's static COMPACT_STRINGS: 1 -/
theorem ne_compact {ix : Nat} (X : ne_F cl D ct A p l R s m args meth c own cc nL Ts fr lo mc ms) (hdg : decode cc pc = .ok (.getstatic ix, 3)) (hlk : Cond.fieldLink own ix "java/lang/String" "COMPACT_STRINGS" "Z" ∈ Ts) (kk : ne_G cl D ct A n0 ad0 p l e R s m args below meth c Q nL mc ms C S (pc + 3) L (ni 1 :: st) ws) : ne_G cl D ct A n0 ad0 p l e R s m args below meth c Q nL mc ms C S pc L st ws := fun H locs cells slots ad ls h1 h2 h3 h4 h5 h6 h7 =>
  va_gets X.1.1 X.1.2.1 X.2.2.2.2.2.2.2.1.2.2.1 h6 X.1.2.2.2.1 (X.1.2.2.2.2 _ hlk) (fun _ h => h) hdg (kk H locs cells slots ad ls h1 h2 h3 h4 h5 h6 h7)
theorem ne_objInit {ix q : Nat} (X : ne_F cl D ct A p l R s m args meth c own cc nL Ts fr lo mc ms) (hdg : decode cc pc = .ok (.invokespecial ix, 3)) (hw1 : Cond.methodLink own ix Lib.objectInit ∈ Ts) (hw2 : Cond.instanceMethod Lib.objectInit ∈ Ts) (hw3 : Cond.code Lib.objectInit ⟨#[0xb1]⟩ 1 none ∈ Ts) (hfr : 1 ≤ fr) (hlo : (st.map fun v => v.category).sum + 12 ≤ lo) (kk : ne_G cl D ct A n0 ad0 p l e R s m args below meth c Q nL mc ms C S (pc + 3) L st ws) : ne_G cl D ct A n0 ad0 p l e R s m args below meth c Q nL mc ms C S pc L (.ref q :: st) ws := fun H locs cells slots ad ls h1 h2 h3 h4 h5 h6 h7 => by
  have hcat : ((st.map (ne_v ad)).map fun v => v.category).sum = (st.map fun v => v.category).sum := by
    rw [List.map_map]; congr 1; exact List.map_congr_left fun v _ => ne_v_cat ad v
  exact W.objInit X.1.1 X.1.2.1 X.1.2.2.2.1 (X.1.2.2.2.2 _ hw1) (X.1.2.2.2.2 _ hw2) (X.1.2.2.2.2 _ hw3) (g := F0 m pc ls (.ref (ad q) :: st.map (ne_v ad))) rfl (by rw [X.1.2.2.1]; exact h7.1) rfl hdg (Nat.le_trans hfr X.2.2.2.1) (by show 2 * 0 + _ + 12 ≤ _; rw [hcat]; have := X.2.2.2.2.1; omega) (kk H locs cells slots ad ls h1 h2 h3 h4 h5 h6 h7)
theorem ne_mcat {ad : Nat → Nat} : ((st.map (ne_v ad)).map fun v => v.category).sum = (st.map fun v => v.category).sum := by
  rw [List.map_map]; congr 1; exact List.map_congr_left fun v _ => ne_v_cat ad v

theorem ne_mmax {ix : Nat} {x y : Int} (X : ne_F cl D ct A p l R s m args meth c own cc nL Ts fr lo mc ms) (hdg : decode cc pc = .ok (.invokestatic ix, 3)) (hw1 : Cond.methodLink own ix Lib.Math.max.name ∈ Ts) (hw2 : Cond.static Lib.Math.max.name ∈ Ts) (hw3 : Cond.initialized "java/lang/Math" ∈ Ts) (hw4 : Cond.code Lib.Math.max.name Lib.Math.max.code 2 (some .int) ∈ Ts) (hfr : 1 ≤ fr) (hlo : (st.map fun v => v.category).sum + 13 ≤ lo) (hx : -2147483648 ≤ x ∧ x < 2147483648) (hy : -2147483648 ≤ y ∧ y < 2147483648) (kk : ne_G cl D ct A n0 ad0 p l e R s m args below meth c Q nL mc ms C S (pc + 3) L (ni (if x < y then y else x) :: st) ws) : ne_G cl D ct A n0 ad0 p l e R s m args below meth c Q nL mc ms C S pc L (ni y :: ni x :: st) ws := fun H locs cells slots ad ls h1 h2 h3 h4 h5 h6 h7 => by
  have k9 := kk H locs cells slots ad ls h1 h2 h3 h4 h5 h6 h7
  refine va_mmax X.1.1 X.1.2.1 (by rw [X.1.2.2.1]; exact h7.1.symm) X.1.2.2.2.1 (X.1.2.2.2.2 _ hw1) (X.1.2.2.2.2 _ hw2) (X.1.2.2.2.2 _ hw3) (X.1.2.2.2.2 _ hw4) (Nat.le_trans hfr X.2.2.2.1) (by rw [ne_mcat]; have := X.2.2.2.2.1; omega) (Nat.le_trans (by omega) X.2.2.2.2.2.1) (Nat.le_trans (by omega) X.2.2.2.2.2.2.1) hdg ?_
  by_cases hh : x < y
  · rw [if_pos ((ne_ltI hx hy).mpr hh)]; rw [if_pos hh] at k9; exact k9
  · rw [if_neg (fun q => hh ((ne_ltI hx hy).mp q))]; rw [if_neg hh] at k9; exact k9
theorem ne_mmin {ix : Nat} {x y : Int} (X : ne_F cl D ct A p l R s m args meth c own cc nL Ts fr lo mc ms) (hdg : decode cc pc = .ok (.invokestatic ix, 3)) (hw1 : Cond.methodLink own ix Lib.Math.min.name ∈ Ts) (hw2 : Cond.static Lib.Math.min.name ∈ Ts) (hw3 : Cond.initialized "java/lang/Math" ∈ Ts) (hw4 : Cond.code Lib.Math.min.name Lib.Math.min.code 2 (some .int) ∈ Ts) (hfr : 1 ≤ fr) (hlo : (st.map fun v => v.category).sum + 13 ≤ lo) (hx : -2147483648 ≤ x ∧ x < 2147483648) (hy : -2147483648 ≤ y ∧ y < 2147483648) (kk : ne_G cl D ct A n0 ad0 p l e R s m args below meth c Q nL mc ms C S (pc + 3) L (ni (if y < x then y else x) :: st) ws) : ne_G cl D ct A n0 ad0 p l e R s m args below meth c Q nL mc ms C S pc L (ni y :: ni x :: st) ws := fun H locs cells slots ad ls h1 h2 h3 h4 h5 h6 h7 => by
  have k9 := kk H locs cells slots ad ls h1 h2 h3 h4 h5 h6 h7
  refine va_mmin X.1.1 X.1.2.1 (by rw [X.1.2.2.1]; exact h7.1.symm) X.1.2.2.2.1 (X.1.2.2.2.2 _ hw1) (X.1.2.2.2.2 _ hw2) (X.1.2.2.2.2 _ hw3) (X.1.2.2.2.2 _ hw4) (Nat.le_trans hfr X.2.2.2.1) (by rw [ne_mcat]; have := X.2.2.2.2.1; omega) (Nat.le_trans (by omega) X.2.2.2.2.2.1) (Nat.le_trans (by omega) X.2.2.2.2.2.2.1) hdg ?_
  by_cases hh : y < x
  · rw [if_pos ((ne_ltI hy hx).mpr hh)]; rw [if_pos hh] at k9; exact k9
  · rw [if_neg (fun q => hh ((ne_ltI hy hx).mp q))]; rw [if_neg hh] at k9; exact k9
theorem ne_mabs {ix : Nat} {x : Int} (X : ne_F cl D ct A p l R s m args meth c own cc nL Ts fr lo mc ms) (hdg : decode cc pc = .ok (.invokestatic ix, 3)) (hw1 : Cond.methodLink own ix Lib.Math.abs.name ∈ Ts) (hw2 : Cond.static Lib.Math.abs.name ∈ Ts) (hw3 : Cond.initialized "java/lang/Math" ∈ Ts) (hw4 : Cond.code Lib.Math.abs.name Lib.Math.abs.code 1 (some .int) ∈ Ts) (hfr : 1 ≤ fr) (hlo : (st.map fun v => v.category).sum + 13 ≤ lo) (hx : -2147483648 ≤ x ∧ x < 2147483648) (kk : ne_G cl D ct A n0 ad0 p l e R s m args below meth c Q nL mc ms C S (pc + 3) L (ni (if 0 ≤ x then x else -x) :: st) ws) : ne_G cl D ct A n0 ad0 p l e R s m args below meth c Q nL mc ms C S pc L (ni x :: st) ws := fun H locs cells slots ad ls h1 h2 h3 h4 h5 h6 h7 => by
  have k9 := kk H locs cells slots ad ls h1 h2 h3 h4 h5 h6 h7
  refine va_mabs X.1.1 X.1.2.1 (by rw [X.1.2.2.1]; exact h7.1.symm) X.1.2.2.2.1 (X.1.2.2.2.2 _ hw1) (X.1.2.2.2.2 _ hw2) (X.1.2.2.2.2 _ hw3) (X.1.2.2.2.2 _ hw4) (Nat.le_trans hfr X.2.2.2.1) (by rw [ne_mcat]; have := X.2.2.2.2.1; omega) (Nat.le_trans (by omega) X.2.2.2.2.2.1) (Nat.le_trans (by omega) X.2.2.2.2.2.2.1) hdg ?_
  by_cases hh : 0 ≤ x
  · rw [if_pos (by rw [ne_z0]; exact (ne_leI (by omega) hx).mpr hh)]; rw [if_pos hh] at k9; exact k9
  · rw [if_neg (fun q => hh ((ne_leI (by omega) hx).mp (by rw [ne_z0] at q; exact q)))]; rw [if_neg hh] at k9
    rw [ne_z0, ← Int32.ofInt_sub, show (0 : Int) - x = -x by omega]; exact k9
theorem ne_mabsl {ix : Nat} {x : Int} (X : ne_F cl D ct A p l R s m args meth c own cc nL Ts fr lo mc ms) (hdg : decode cc pc = .ok (.invokestatic ix, 3)) (hw1 : Cond.methodLink own ix Lib.MathLoose.abs_long.x ∈ Ts) (hw2 : Cond.static Lib.MathLoose.abs_long.x ∈ Ts) (hw3 : Cond.initialized "java/lang/Math" ∈ Ts) (hw4 : Cond.code Lib.MathLoose.abs_long.x Lib.MathLoose.abs_long.code 2 (some .long) ∈ Ts) (hfr : 1 ≤ fr) (hlo : (st.map fun v => v.category).sum + 13 ≤ lo) (hx : -9223372036854775808 ≤ x ∧ x < 9223372036854775808) (kk : ne_G cl D ct A n0 ad0 p l e R s m args below meth c Q nL mc ms C S (pc + 3) L (nl (if 0 < x then x else -x) :: st) ws) : ne_G cl D ct A n0 ad0 p l e R s m args below meth c Q nL mc ms C S pc L (nl x :: st) ws := fun H locs cells slots ad ls h1 h2 h3 h4 h5 h6 h7 => by
  have k9 := kk H locs cells slots ad ls h1 h2 h3 h4 h5 h6 h7
  refine va_mabs_long X.1.1 X.1.2.1 (by rw [X.1.2.2.1]; exact h7.1.symm) X.1.2.2.2.1 (X.1.2.2.2.2 _ hw1) (X.1.2.2.2.2 _ hw2) (X.1.2.2.2.2 _ hw3) (X.1.2.2.2.2 _ hw4) (Nat.le_trans hfr X.2.2.2.1) (by rw [ne_mcat]; have := X.2.2.2.2.1; omega) (Nat.le_trans (by omega) X.2.2.2.2.2.1) (Nat.le_trans (by omega) X.2.2.2.2.2.2.1) hdg ?_
  have z0 : (0 : Int64) = Int64.ofInt 0 := rfl
  by_cases hh : 0 < x
  · rw [if_pos (by rw [z0]; exact (ne_ltL (by omega) hx).mpr hh)]; rw [if_pos hh] at k9; exact k9
  · rw [if_neg (fun q => hh ((ne_ltL (by omega) hx).mp (by rw [z0] at q; exact q)))]; rw [if_neg hh] at k9
    rw [← Int64.ofInt_neg]; exact k9
/-! ## contracts -/
def ne_Q (cl : List vw_C) (D : va_G) (ct : Nat → ClassId) (ad0 : Nat → Nat) (n0 : Nat) (A : Nat → Prop) (post : Option Value → ne_W → Prop) : Array Value → State → Outcome → State → Prop := fun _ st oc t => ∃ (v : Option Value) (ws : ne_W) (ad : Nat → Nat), oc = .returned (v.map (ne_v ad)) ∧ post v ws ∧ (∀ k, k < n0 → ad k = ad0 k) ∧ va_P D cl (ne_w ct ad 0 ws) t.heap ∧ va_D A (ne_w ct ad 0 ws) ∧ va_F A st t
def ne_XC (cl : List vw_C) (D : va_G) (ct : Nat → ClassId) (ad0 : Nat → Nat) (n0 : Nat) (A : Nat → Prop) (px : String → ne_W → Prop) : String → State → State → Prop := fun E st t => ∃ (ws : ne_W) (ad : Nat → Nat), px E ws ∧ (∀ k, k < n0 → ad k = ad0 k) ∧ va_P D cl (ne_w ct ad 0 ws) t.heap ∧ va_D A (ne_w ct ad 0 ws) ∧ va_F A st t
/-- what a method does with these arguments in this world: fr frames, lo words of locals, mc cells, ms slots are enough -/
def ne_M (l : Launch) (cl : List vw_C) (cw : Cond) (Ts : List Cond) (y : MethodName) (fr lo mc ms : Nat) (as : List Value) (ws : ne_W) (post : Option Value → ne_W → Prop) (px : String → ne_W → Prop) : Prop :=
  ∀ (D : va_G) (ct : Nat → ClassId) (ad : Nat → Nat) (sz : Nat), vx_Met l y (cw :: Ts) { frames := fr, cells := mc, slots := ms, locals := lo }
    (va_Pc (as.map (ne_v ad)) (fun U => U.heap.size = sz ∧ va_P D cl (ne_w ct ad 0 ws) U.heap ∧ va_K D cl (ne_ty ct) U ∧ va_D (fun _ => True) (ne_w ct ad 0 ws) ∧ ne_Z (va_A (ne_w ct ad 0 ws) sz) U U.heap))
    (ne_Q cl D ct ad ws.length (va_A (ne_w ct ad 0 ws) sz) post) (ne_XC cl D ct ad ws.length (va_A (ne_w ct ad 0 ws) sz) px) mc ms (va_A (ne_w ct ad 0 ws) sz)
/-- what a frame without handlers owes -/
abbrev ne_O (cl : List vw_C) (D : va_G) (ct : Nat → ClassId) (ad0 : Nat → Nat) (n0 : Nat) (A : Nat → Prop) (below : List Frame) (args : Array Value) (s : State) (mc ms : Nat) (post : Option Value → ne_W → Prop) (px : String → ne_W → Prop) : State → Prop := vx_MQ below (ne_Q cl D ct ad0 n0 A post) (ne_XC cl D ct ad0 n0 A px) args s mc ms A
/-- a frame over which something of class E was thrown -/
def ne_T (cl : List vw_C) (D : va_G) (ct : Nat → ClassId) (A : Nat → Prop) (n0 : Nat) (ad0 : Nat → Nat) (p : Program) (l : Launch) (e : Env) (R : Room) (s : State) (m : MethodId) (args : Array Value) (below : List Frame) (meth : Method) (c : Code) (Q : State → Prop) (nL mc ms C S pc : Nat) (L : List (Option Value)) (E : String) (ws : ne_W) : Prop :=
  ∀ (H : Heap) (locs : List Loc) (cells slots : Nat) (ad : Nat → Nat) (ls : Array Slot) (rest : List Value) (q : Addr) (ce : Cell), (∀ k, k < n0 → ad k = ad0 k) → cells + C ≤ mc → slots + S ≤ ms → va_P D cl (ne_w ct ad 0 ws) H → va_D A (ne_w ct ad 0 ws) → va_S A s.heap H locs → lv_has ls nL (ne_l ad 0 L) → H[q]? = some ce → ce.vm = .none → s.vm.findClass E = some ce.cls → vx_W p l e R s m args below meth c H locs cells slots Q (F0 m pc ls rest) q
theorem ne_blind {av : List Value} {D : va_G} {tys : List (ClassId × FieldType)} {W0 : va_W} {sz : Nat} {A9 : Nat → Prop} : FrameBlind (va_Pc av (fun U => U.heap.size = sz ∧ va_P D cl W0 U.heap ∧ va_K D cl tys U ∧ va_D (fun _ => True) W0 ∧ ne_Z A9 U U.heap)) := by
  intro a U g mk q
  obtain ⟨q0, q1, q2, q3, q4, q5⟩ := q
  exact ⟨q0, q1, q2, va_K.moved (u := U) (U := U.calling g mk a) (Vm.Alike.refl U.vm) q3, q4, ne_Z.same (u := U) (U := U.calling g mk a) rfl q5⟩
theorem ne_pre {H : Heap} {locs : List Loc} {ad : Nat → Nat} {ls : Array Slot} {av : List Value} (X : ne_F cl D ct A p l R s m args meth c own cc nL Ts fr lo mc ms) (h4 : va_P D cl (ne_w ct ad 0 ws) H) (h5 : va_D A (ne_w ct ad 0 ws)) (h6 : va_S A s.heap H locs) : PreS s H (va_Pc av (fun U => U.heap.size = H.size ∧ va_P D cl (ne_w ct ad 0 ws) U.heap ∧ va_K D cl (ne_ty ct) U ∧ va_D (fun _ => True) (ne_w ct ad 0 ws) ∧ ne_Z (va_A (ne_w ct ad 0 ws) H.size) U U.heap)) av := by
  refine ⟨ne_blind, fun U hU hW => ⟨rfl, by rw [hU], by rw [hU]; exact h4, va_K.moved hW.alike X.2.1, h5.weaken (fun _ _ _ _ => trivial), ?_⟩⟩
  rw [hU]
  have hz : ne_Z A s H := ne_Z.kept X.2.2.2.2.2.2.2.1 (fun a ha hA => h6.2.1 a ha hA)
  refine (hz.narrow ?_).warm hW
  rintro q (⟨k, e, hk⟩ | hq)
  · exact h5.2 k _ hk
  · exact X.2.2.1 q (Nat.le_trans h6.1 hq)
/-- behind a call -/
theorem ne_after {H : Heap} {locs : List Loc} {cells slots mc1 ms1 : Nat} {ad : Nat → Nat} {ls : Array Slot} {st0 : List Value} {a9 : Array Value} {post : Option Value → ne_W → Prop} {px : String → ne_W → Prop} (X : ne_F cl D ct A p l R s m args meth c own cc nL Ts fr lo mc ms) (hr : vx_Run p l e R s m args below meth c H locs cells slots mc1 ms1 (F0 m pc ls st0) (st.map (ne_v ad)) (ne_Q cl D ct ad ws.length (va_A (ne_w ct ad 0 ws) H.size) post a9) (ne_XC cl D ct ad ws.length (va_A (ne_w ct ad 0 ws) H.size) px) (va_A (ne_w ct ad 0 ws) H.size))
    (h1 : ∀ k, k < n0 → ad k = ad0 k) (h2 : cells + C ≤ mc) (h3 : slots + S ≤ ms) (h5 : va_D A (ne_w ct ad 0 ws)) (h6 : va_S A s.heap H locs) (h7 : lv_has ls nL (ne_l ad 0 L)) (hC : mc1 ≤ C) (hS : ms1 ≤ S) (hn0 : n0 ≤ ws.length) (hl : ne_cl ws.length L = true) (hs : ne_cs ws.length st = true)
    (kk : ∀ (v : Option Value) (ws1 : ne_W), post v ws1 → ne_G cl D ct A n0 ad0 p l e R s m args below meth c Q nL mc ms (C - mc1) (S - ms1) (pc + 3) L (v.toList ++ st) ws1) (kx : ∀ (E : String) (ws1 : ne_W), px E ws1 → ne_T cl D ct A n0 ad0 p l e R s m args below meth c Q nL mc ms (C - mc1) (S - ms1) pc L E ws1) : W p l e R s m args below meth c H locs cells slots Q (F0 m pc ls st0) := by
  have hA1 : ∀ q, va_A (ne_w ct ad 0 ws) H.size q → A q := by
    rintro q (⟨k, e, hk⟩ | hq)
    · exact h5.2 k _ hk
    · exact X.2.2.1 q (Nat.le_trans h6.1 hq)
  intro T hT Y
  rcases hr T hT Y with ⟨v, st₀, t, T', L9, h0, Y', hL, e1, e2, ⟨v', ws1, ad1, hv, hp, hag, hP1, hD1, hF1⟩, stp⟩ | ⟨q, st₀, t, T', L9, E, ce, h0, Y', hL, e1, e2, ⟨ws1, ad1, hp, hag, hP1, hD1, hF1⟩, hce, hcv, hcl, stp⟩
  · have hv2 : v = v'.map (ne_v ad1) := by injection hv
    subst hv2
    obtain ⟨k1, k2, k3⟩ := vx_keep h0 e1 h6 (fun q _ h => hA1 q h) hA1 hL hF1
    obtain ⟨t2, a1, b1⟩ := kk v' ws1 hp T'.heap (locs ++ L9) (cells + mc1) (slots + ms1) ad1 ls (fun k hk => (hag k (by omega)).trans (h1 k hk)) (by omega) (by omega) (by rw [e1]; exact hP1) (hD1.weaken fun _ q _ h => hA1 _ h) k3 (by rw [ne_l_eq hag hl]; exact h7) T' rfl Y'
    have hst : (v'.toList ++ st).map (ne_v ad1) = (v'.map (ne_v ad1)).toList ++ st.map (ne_v ad) := by
      rw [List.map_append, ne_s_eq hag hs]
      cases v' <;> rfl
    rw [hst] at a1
    exact ⟨t2, stp t2 a1, b1⟩
  · obtain ⟨k1, k2, k3⟩ := vx_keep h0 e1 h6 (fun q _ h => hA1 q h) hA1 hL hF1
    obtain ⟨t2, a1, b1⟩ := kx E ws1 hp T'.heap (locs ++ L9) (cells + mc1) (slots + ms1) ad1 ls (st.map (ne_v ad)) q ce (fun k hk => (hag k (by omega)).trans (h1 k hk)) (by omega) (by omega) (by rw [e1]; exact hP1) (hD1.weaken fun _ q _ h => hA1 _ h) k3 (by rw [ne_l_eq hag hl]; exact h7) (by rw [e1]; exact hce) hcv hcl T' rfl Y'
    exact ⟨t2, stp.trans a1, b1⟩
theorem ne_gi {ws9 : List Cond} (hg : ∀ w ∈ Ts, goodWord w = true) (h : ∀ w ∈ ws9, w ∈ Ts) : GoodIn Ts ws9 := fun w hw => ⟨h w hw, good_of_word (hg w (h w hw))⟩
/-- what the tables say of a callee -/
def ne_cy (y : MethodName) (cw : Cond) (n : Nat) (Ts : List Cond) : Prop := cw ∈ Ts ∧ Cond.initialized y.cls ∈ Ts ∧ y.cls ≠ "java/lang/invoke/MethodHandle" ∧ y.cls ≠ "java/lang/invoke/VarHandle" ∧ (parseMethodDescriptor y.desc).map (fun d => d.parameters.length) = some n

theorem ne_callS {y : MethodName} {bytes : ByteArray} {maxL n ix fr1 lo1 mc1 ms1 : Nat} {ret : Option FieldType} {as st1 : List Value} {post : Option Value → ne_W → Prop} {px : String → ne_W → Prop} (X : ne_F cl D ct A p l R s m args meth c own cc nL Ts fr lo mc ms) (hg : ∀ w ∈ Ts, goodWord w = true) (hM : ne_M l cl (.code y bytes maxL ret) Ts y fr1 lo1 mc1 ms1 as ws post px) (hy : ne_cy y (.code y bytes maxL ret) n Ts) (hw1 : Cond.methodLink own ix y ∈ Ts) (hw2 : Cond.static y ∈ Ts) (hdg : decode cc pc = .ok (.invokestatic ix, 3)) (hst : st1 = as.reverse ++ st) (hlen : as.length = n) (hfr : fr1 + 1 ≤ fr) (hlo : 8 + (maxL + 11) + lo1 ≤ lo) (hC : mc1 ≤ C) (hS : ms1 ≤ S) (hn0 : n0 ≤ ws.length) (hl : ne_cl ws.length L = true) (hs : ne_cs ws.length st = true) (hcat : (st.map fun v => v.category).sum ≤ 8) (kk : ∀ (v : Option Value) (ws1 : ne_W), post v ws1 → ne_G cl D ct A n0 ad0 p l e R s m args below meth c Q nL mc ms (C - mc1) (S - ms1) (pc + 3) L (v.toList ++ st) ws1) (kx : ∀ (E : String) (ws1 : ne_W), px E ws1 → ne_T cl D ct A n0 ad0 p l e R s m args below meth c Q nL mc ms (C - mc1) (S - ms1) pc L E ws1) : ne_G cl D ct A n0 ad0 p l e R s m args below meth c Q nL mc ms C S pc L st1 ws := fun H locs cells slots ad ls h1 h2 h3 h4 h5 h6 h7 => by
  subst hst
  have e9 : (as.reverse ++ st).map (ne_v ad) = (as.map (ne_v ad)).reverse ++ st.map (ne_v ad) := by simp [List.map_append, List.map_reverse, ne_v]
  rw [e9]
  have cw := va_cwS (R := R) (s := s) (args := args) (own := own) (index := ix) (y := y) (bytes := bytes) (maxL := maxL) (mc := mc1) (ms := ms1) (ret := ret) (Ts := Ts) (ws := .code y bytes maxL ret :: Ts) (ws' := Ts) (rm := { frames := fr1, cells := mc1, slots := ms1, locals := lo1 }) n X.1.2.2.2.2 (ne_gi hg (fun w hw => by
    unfold va_wsS at hw
    simp only [List.cons_append, List.nil_append, List.mem_cons] at hw
    rcases hw with rfl | rfl | rfl | rfl | hw
    · exact hw1
    · exact hw2
    · exact hy.2.1
    · exact hy.1
    · exact hw)) rfl rfl rfl ⟨hy.2.2.1, hy.2.2.2.1, hy.2.2.2.2⟩ ⟨Nat.le_trans hfr X.2.2.2.1, Nat.le_trans hlo X.2.2.2.2.1⟩
  exact ne_after X (vx_runS (As := as.map (ne_v ad)) (rest := st.map (ne_v ad)) X.1 (hM D ct ad H.size) cw (ne_pre (ls := ls) X h4 h5 h6) rfl (by rw [List.length_map]; exact hlen) h7.1 rfl (by show 2 * 0 + _ ≤ 8; rw [ne_mcat]; omega) hdg ⟨by have := X.2.2.2.2.2.1; omega, by have := X.2.2.2.2.2.2.1; omega⟩) h1 h2 h3 h5 h6 h7 hC hS hn0 hl hs kk kx
theorem ne_callV {y : MethodName} {bytes : ByteArray} {maxL n ix fr1 lo1 mc1 ms1 : Nat} {ret : Option FieldType} {as st1 : List Value} {post : Option Value → ne_W → Prop} {px : String → ne_W → Prop} {q ci : Nat} {fs : List Value} {r : vw_C} (X : ne_F cl D ct A p l R s m args meth c own cc nL Ts fr lo mc ms) (hg : ∀ w ∈ Ts, goodWord w = true) (hM : ne_M l cl (.code y bytes maxL ret) Ts y fr1 lo1 mc1 ms1 (.ref q :: as) ws post px) (hy : ne_cy y (.code y bytes maxL ret) n Ts) (hw1 : Cond.methodLink own ix y ∈ Ts) (hw2 : Cond.instanceMethod y ∈ Ts) (hw3 : Cond.selects y.cls y y ∈ Ts) (hr : cl[ci]? = some r) (hrc : r.1 = y.cls) (he : ws[q]? = some (some (.inr (ci, fs)))) (hdg : decode cc pc = .ok (.invokevirtual ix, 3)) (hst : st1 = as.reverse ++ .ref q :: st) (hlen : as.length = n) (hfr : fr1 + 1 ≤ fr) (hlo : 8 + (maxL + 11) + lo1 ≤ lo) (hC : mc1 ≤ C) (hS : ms1 ≤ S) (hn0 : n0 ≤ ws.length) (hl : ne_cl ws.length L = true) (hs : ne_cs ws.length st = true) (hcat : (st.map fun v => v.category).sum ≤ 8) (kk : ∀ (v : Option Value) (ws1 : ne_W), post v ws1 → ne_G cl D ct A n0 ad0 p l e R s m args below meth c Q nL mc ms (C - mc1) (S - ms1) (pc + 3) L (v.toList ++ st) ws1) (kx : ∀ (E : String) (ws1 : ne_W), px E ws1 → ne_T cl D ct A n0 ad0 p l e R s m args below meth c Q nL mc ms (C - mc1) (S - ms1) pc L E ws1) : ne_G cl D ct A n0 ad0 p l e R s m args below meth c Q nL mc ms C S pc L st1 ws := fun H locs cells slots ad ls h1 h2 h3 h4 h5 h6 h7 => by
  subst hst
  have e9 : (as.reverse ++ .ref q :: st).map (ne_v ad) = (as.map (ne_v ad)).reverse ++ .ref (ad q) :: st.map (ne_v ad) := by simp [List.map_append, List.map_reverse, ne_v]
  rw [e9]
  obtain ⟨q0, e1, -⟩ := ne_w_set (ct := ct) (ad := ad) (k := 0) he
  rw [Nat.zero_add] at e1
  have rv := va_recv X.2.1 h4 hr e1
  rw [hrc] at rv
  have cw := cwV (R := R) (s := s) (args := args) (own := own) (C := y.cls) (index := ix) (y := y) (bytes := bytes) (maxL := maxL) (mc := mc1) (ms := ms1) (ret := ret) (Ts := Ts) (ws := .code y bytes maxL ret :: Ts) (ws' := Ts) (rm := { frames := fr1, cells := mc1, slots := ms1, locals := lo1 }) n X.1.2.2.2.2 (ne_gi hg (fun w hw => by
    unfold wsV at hw
    simp only [List.cons_append, List.nil_append, List.mem_cons] at hw
    rcases hw with rfl | rfl | rfl | rfl | rfl | hw
    · exact hw1
    · exact hw2
    · exact hw3
    · exact hy.2.1
    · exact hy.1
    · exact hw)) rfl rfl rfl ⟨rfl, hy.2.2.1, hy.2.2.2.1, hy.2.2.2.2⟩ ⟨Nat.le_trans hfr X.2.2.2.1, Nat.le_trans hlo X.2.2.2.2.1⟩
  have hp := ne_pre (ls := ls) (av := .ref (ad q) :: as.map (ne_v ad)) X h4 h5 h6
  exact ne_after X (vx_runV (As := as.map (ne_v ad)) (b := ad q) (rest := st.map (ne_v ad)) X.1 (hM D ct ad H.size) cw ⟨hp.1, rv, hp.2⟩ rfl (by rw [List.length_map]; exact hlen) h7.1 rfl (by show 2 * 0 + _ ≤ 8; rw [ne_mcat]; omega) hdg ⟨by have := X.2.2.2.2.2.1; omega, by have := X.2.2.2.2.2.2.1; omega⟩) h1 h2 h3 h5 h6 h7 hC hS hn0 hl hs kk kx
theorem ne_callVN {y : MethodName} {bytes : ByteArray} {maxL n ix fr1 lo1 mc1 ms1 : Nat} {ret : Option FieldType} {as st1 : List Value} {post : Option Value → ne_W → Prop} {px : String → ne_W → Prop} {q ci : Nat} {fs : List Value} {r : vw_C} {host : String} (X : ne_F cl D ct A p l R s m args meth c own cc nL Ts fr lo mc ms) (hg : ∀ w ∈ Ts, goodWord w = true) (hM : ne_M l cl (.code y bytes maxL ret) Ts y fr1 lo1 mc1 ms1 (.ref q :: as) ws post px) (hy : ne_cy y (.code y bytes maxL ret) n Ts) (hw1 : (own, ix, y, host) ∈ ne_nm) (hw2 : Cond.instanceMethod y ∈ Ts) (hw3 : Cond.selects y.cls y y ∈ Ts) (hr : cl[ci]? = some r) (hrc : r.1 = y.cls) (he : ws[q]? = some (some (.inr (ci, fs)))) (hdg : decode cc pc = .ok (.invokevirtual ix, 3)) (hst : st1 = as.reverse ++ .ref q :: st) (hlen : as.length = n) (hfr : fr1 + 1 ≤ fr) (hlo : 8 + (maxL + 11) + lo1 ≤ lo) (hC : mc1 ≤ C) (hS : ms1 ≤ S) (hn0 : n0 ≤ ws.length) (hl : ne_cl ws.length L = true) (hs : ne_cs ws.length st = true) (hcat : (st.map fun v => v.category).sum ≤ 8) (kk : ∀ (v : Option Value) (ws1 : ne_W), post v ws1 → ne_G cl D ct A n0 ad0 p l e R s m args below meth c Q nL mc ms (C - mc1) (S - ms1) (pc + 3) L (v.toList ++ st) ws1) (kx : ∀ (E : String) (ws1 : ne_W), px E ws1 → ne_T cl D ct A n0 ad0 p l e R s m args below meth c Q nL mc ms (C - mc1) (S - ms1) pc L E ws1) : ne_G cl D ct A n0 ad0 p l e R s m args below meth c Q nL mc ms C S pc L st1 ws := fun H locs cells slots ad ls h1 h2 h3 h4 h5 h6 h7 => by
  subst hst
  have e9 : (as.reverse ++ .ref q :: st).map (ne_v ad) = (as.map (ne_v ad)).reverse ++ .ref (ad q) :: st.map (ne_v ad) := by simp [List.map_append, List.map_reverse, ne_v]
  rw [e9]
  obtain ⟨q0, e1, -⟩ := ne_w_set (ct := ct) (ad := ad) (k := 0) he
  rw [Nat.zero_add] at e1
  have rv := va_recv X.2.1 h4 hr e1
  rw [hrc] at rv
  have cw := va_cnB (R := R) (s := s) (args := args) (own := own) (host := host) (index := ix) (y := y) (bytes := bytes) (maxL := maxL) (mc := mc1) (ms := ms1) (ret := ret) (Ts := Ts) (ws := .code y bytes maxL ret :: Ts) (ws' := Ts) (rm := { frames := fr1, cells := mc1, slots := ms1, locals := lo1 }) n X.1.2.2.2.2 (ne_gi hg (fun w hw => by
    rcases List.mem_cons.mp hw with rfl | hw
    · exact hy.1
    · exact hw)) rfl rfl rfl (X.2.2.2.2.2.2.2.1.2.2.2.2.1 _ hw1) (X.1.2.2.2.2 _ hy.2.1) ⟨hy.2.2.1, hy.2.2.2.1, hy.2.2.2.2⟩ ⟨Nat.le_trans hfr X.2.2.2.1, Nat.le_trans hlo X.2.2.2.2.1⟩
  have hp := ne_pre (ls := ls) (av := .ref (ad q) :: as.map (ne_v ad)) X h4 h5 h6
  exact ne_after X (vx_runVN (C := y.cls) (As := as.map (ne_v ad)) (b := ad q) (rest := st.map (ne_v ad)) X.1 (hM D ct ad H.size) ⟨cw, X.1.2.2.2.2 _ hw2, X.1.2.2.2.2 _ hw3⟩ ⟨hp.1, rv, hp.2⟩ rfl (by rw [List.length_map]; exact hlen) h7.1 rfl (by show 2 * 0 + _ ≤ 8; rw [ne_mcat]; omega) hdg ⟨by have := X.2.2.2.2.2.1; omega, by have := X.2.2.2.2.2.2.1; omega⟩) h1 h2 h3 h5 h6 h7 hC hS hn0 hl hs kk kx
theorem ne_callSN {y : MethodName} {bytes : ByteArray} {maxL n ix fr1 lo1 mc1 ms1 : Nat} {ret : Option FieldType} {as st1 : List Value} {post : Option Value → ne_W → Prop} {px : String → ne_W → Prop} {host : String} (X : ne_F cl D ct A p l R s m args meth c own cc nL Ts fr lo mc ms) (hg : ∀ w ∈ Ts, goodWord w = true) (hM : ne_M l cl (.code y bytes maxL ret) Ts y fr1 lo1 mc1 ms1 as ws post px) (hy : ne_cy y (.code y bytes maxL ret) n Ts) (hw1 : (own, ix, y, host) ∈ ne_nm) (hw2 : Cond.static y ∈ Ts) (hdg : decode cc pc = .ok (.invokestatic ix, 3)) (hst : st1 = as.reverse ++ st) (hlen : as.length = n) (hfr : fr1 + 1 ≤ fr) (hlo : 8 + (maxL + 11) + lo1 ≤ lo) (hC : mc1 ≤ C) (hS : ms1 ≤ S) (hn0 : n0 ≤ ws.length) (hl : ne_cl ws.length L = true) (hs : ne_cs ws.length st = true) (hcat : (st.map fun v => v.category).sum ≤ 8) (kk : ∀ (v : Option Value) (ws1 : ne_W), post v ws1 → ne_G cl D ct A n0 ad0 p l e R s m args below meth c Q nL mc ms (C - mc1) (S - ms1) (pc + 3) L (v.toList ++ st) ws1) (kx : ∀ (E : String) (ws1 : ne_W), px E ws1 → ne_T cl D ct A n0 ad0 p l e R s m args below meth c Q nL mc ms (C - mc1) (S - ms1) pc L E ws1) : ne_G cl D ct A n0 ad0 p l e R s m args below meth c Q nL mc ms C S pc L st1 ws := fun H locs cells slots ad ls h1 h2 h3 h4 h5 h6 h7 => by
  subst hst
  have e9 : (as.reverse ++ st).map (ne_v ad) = (as.map (ne_v ad)).reverse ++ st.map (ne_v ad) := by simp [List.map_append, List.map_reverse, ne_v]
  rw [e9]
  have cw := va_cnB (R := R) (s := s) (args := args) (own := own) (host := host) (index := ix) (y := y) (bytes := bytes) (maxL := maxL) (mc := mc1) (ms := ms1) (ret := ret) (Ts := Ts) (ws := .code y bytes maxL ret :: Ts) (ws' := Ts) (rm := { frames := fr1, cells := mc1, slots := ms1, locals := lo1 }) n X.1.2.2.2.2 (ne_gi hg (fun w hw => by
    rcases List.mem_cons.mp hw with rfl | hw
    · exact hy.1
    · exact hw)) rfl rfl rfl (X.2.2.2.2.2.2.2.1.2.2.2.2.1 _ hw1) (X.1.2.2.2.2 _ hy.2.1) ⟨hy.2.2.1, hy.2.2.2.1, hy.2.2.2.2⟩ ⟨Nat.le_trans hfr X.2.2.2.1, Nat.le_trans hlo X.2.2.2.2.1⟩
  exact ne_after X (vx_runSN (As := as.map (ne_v ad)) (rest := st.map (ne_v ad)) X.1 (hM D ct ad H.size) ⟨cw, X.1.2.2.2.2 _ hw2, trivial⟩ (ne_pre (ls := ls) X h4 h5 h6) rfl (by rw [List.length_map]; exact hlen) h7.1 rfl (by show 2 * 0 + _ ≤ 8; rw [ne_mcat]; omega) hdg ⟨by have := X.2.2.2.2.2.1; omega, by have := X.2.2.2.2.2.2.1; omega⟩) h1 h2 h3 h5 h6 h7 hC hS hn0 hl hs kk kx
theorem ne_callI {y : MethodName} {bytes : ByteArray} {maxL n ix fr1 lo1 mc1 ms1 : Nat} {ret : Option FieldType} {as st1 : List Value} {post : Option Value → ne_W → Prop} {px : String → ne_W → Prop} {q : Nat} (X : ne_F cl D ct A p l R s m args meth c own cc nL Ts fr lo mc ms) (hg : ∀ w ∈ Ts, goodWord w = true) (hM : ne_M l cl (.code y bytes maxL ret) Ts y fr1 lo1 mc1 ms1 (.ref q :: as) ws post px) (hr9 : ret = none) (hy : ne_cy y (.code y bytes maxL ret) n Ts) (hw1 : Cond.methodLink own ix y ∈ Ts) (hw2 : Cond.instanceMethod y ∈ Ts) (hy1 : y.name = "<init>") (hdg : decode cc pc = .ok (.invokespecial ix, 3)) (hst : st1 = as.reverse ++ .ref q :: st) (hlen : as.length = n) (hfr : fr1 + 1 ≤ fr) (hlo : 8 + (maxL + 11) + lo1 ≤ lo) (hC : mc1 ≤ C) (hS : ms1 ≤ S) (hn0 : n0 ≤ ws.length) (hl : ne_cl ws.length L = true) (hs : ne_cs ws.length st = true) (hcat : (st.map fun v => v.category).sum ≤ 8) (kk : ∀ (v : Option Value) (ws1 : ne_W), post v ws1 → ne_G cl D ct A n0 ad0 p l e R s m args below meth c Q nL mc ms (C - mc1) (S - ms1) (pc + 3) L (v.toList ++ st) ws1) (kx : ∀ (E : String) (ws1 : ne_W), px E ws1 → ne_T cl D ct A n0 ad0 p l e R s m args below meth c Q nL mc ms (C - mc1) (S - ms1) pc L E ws1) : ne_G cl D ct A n0 ad0 p l e R s m args below meth c Q nL mc ms C S pc L st1 ws := fun H locs cells slots ad ls h1 h2 h3 h4 h5 h6 h7 => by
  subst hst
  have e9 : (as.reverse ++ .ref q :: st).map (ne_v ad) = (as.map (ne_v ad)).reverse ++ .ref (ad q) :: st.map (ne_v ad) := by simp [List.map_append, List.map_reverse, ne_v]
  rw [e9]
  subst hr9
  have cw := cwI (R := R) (s := s) (args := args) (own := own) (index := ix) (y := y) (bytes := bytes) (maxL := maxL) (mc := mc1) (ms := ms1) (Ts := Ts) (ws := .code y bytes maxL none :: Ts) (ws' := Ts) (rm := { frames := fr1, cells := mc1, slots := ms1, locals := lo1 }) n X.1.2.2.2.2 (ne_gi hg (fun w hw => by
    rcases List.mem_cons.mp hw with rfl | hw
    · exact hy.1
    · exact hw)) rfl rfl rfl (X.1.2.2.2.2 _ hy.2.1) (X.1.2.2.2.2 _ hw1) (X.1.2.2.2.2 _ hw2) hy1 ⟨hy.2.2.1, hy.2.2.2.1, hy.2.2.2.2⟩ ⟨Nat.le_trans hfr X.2.2.2.1, Nat.le_trans hlo X.2.2.2.2.1⟩
  have hp := ne_pre (ls := ls) (av := .ref (ad q) :: as.map (ne_v ad)) X h4 h5 h6
  exact ne_after X (vx_runI (As := as.map (ne_v ad)) (b := ad q) (rest := st.map (ne_v ad)) X.1 (hM D ct ad H.size) cw hp rfl (by rw [List.length_map]; exact hlen) h7.1 rfl (by show 2 * 0 + _ ≤ 8; rw [ne_mcat]; omega) hdg ⟨by have := X.2.2.2.2.2.1; omega, by have := X.2.2.2.2.2.2.1; omega⟩) h1 h2 h3 h5 h6 h7 hC hS hn0 hl hs kk kx
theorem ne_callIN {y : MethodName} {bytes : ByteArray} {maxL n ix fr1 lo1 mc1 ms1 : Nat} {ret : Option FieldType} {as st1 : List Value} {post : Option Value → ne_W → Prop} {px : String → ne_W → Prop} {q : Nat} {host : String} (X : ne_F cl D ct A p l R s m args meth c own cc nL Ts fr lo mc ms) (hg : ∀ w ∈ Ts, goodWord w = true) (hM : ne_M l cl (.code y bytes maxL ret) Ts y fr1 lo1 mc1 ms1 (.ref q :: as) ws post px) (hr9 : ret = none) (hy : ne_cy y (.code y bytes maxL ret) n Ts) (hw1 : (own, ix, y, host) ∈ ne_nm) (hw2 : Cond.instanceMethod y ∈ Ts) (hy1 : y.name = "<init>") (hdg : decode cc pc = .ok (.invokespecial ix, 3)) (hst : st1 = as.reverse ++ .ref q :: st) (hlen : as.length = n) (hfr : fr1 + 1 ≤ fr) (hlo : 8 + (maxL + 11) + lo1 ≤ lo) (hC : mc1 ≤ C) (hS : ms1 ≤ S) (hn0 : n0 ≤ ws.length) (hl : ne_cl ws.length L = true) (hs : ne_cs ws.length st = true) (hcat : (st.map fun v => v.category).sum ≤ 8) (kk : ∀ (v : Option Value) (ws1 : ne_W), post v ws1 → ne_G cl D ct A n0 ad0 p l e R s m args below meth c Q nL mc ms (C - mc1) (S - ms1) (pc + 3) L (v.toList ++ st) ws1) (kx : ∀ (E : String) (ws1 : ne_W), px E ws1 → ne_T cl D ct A n0 ad0 p l e R s m args below meth c Q nL mc ms (C - mc1) (S - ms1) pc L E ws1) : ne_G cl D ct A n0 ad0 p l e R s m args below meth c Q nL mc ms C S pc L st1 ws := fun H locs cells slots ad ls h1 h2 h3 h4 h5 h6 h7 => by
  subst hst
  have e9 : (as.reverse ++ .ref q :: st).map (ne_v ad) = (as.map (ne_v ad)).reverse ++ .ref (ad q) :: st.map (ne_v ad) := by simp [List.map_append, List.map_reverse, ne_v]
  rw [e9]
  subst hr9
  have cw := va_cnB (R := R) (s := s) (args := args) (own := own) (host := host) (index := ix) (y := y) (bytes := bytes) (maxL := maxL) (mc := mc1) (ms := ms1) (ret := none) (Ts := Ts) (ws := .code y bytes maxL none :: Ts) (ws' := Ts) (rm := { frames := fr1, cells := mc1, slots := ms1, locals := lo1 }) n X.1.2.2.2.2 (ne_gi hg (fun w hw => by
    rcases List.mem_cons.mp hw with rfl | hw
    · exact hy.1
    · exact hw)) rfl rfl rfl (X.2.2.2.2.2.2.2.1.2.2.2.2.1 _ hw1) (X.1.2.2.2.2 _ hy.2.1) ⟨hy.2.2.1, hy.2.2.2.1, hy.2.2.2.2⟩ ⟨Nat.le_trans hfr X.2.2.2.1, Nat.le_trans hlo X.2.2.2.2.1⟩
  have hp := ne_pre (ls := ls) (av := .ref (ad q) :: as.map (ne_v ad)) X h4 h5 h6
  exact ne_after X (vx_runIN (As := as.map (ne_v ad)) (b := ad q) (rest := st.map (ne_v ad)) X.1 (hM D ct ad H.size) ⟨cw, hy1, X.1.2.2.2.2 _ hw2⟩ hp rfl (by rw [List.length_map]; exact hlen) h7.1 rfl (by show 2 * 0 + _ ≤ 8; rw [ne_mcat]; omega) hdg ⟨by have := X.2.2.2.2.2.1; omega, by have := X.2.2.2.2.2.2.1; omega⟩) h1 h2 h3 h5 h6 h7 hC hS hn0 hl hs kk kx
/-! ## ends -/
theorem ne_iret {z : Int32} {ty : FieldType} {post : Option Value → ne_W → Prop} {px : String → ne_W → Prop} (X : ne_F cl D ct A p l R s m args meth c own cc nL Ts fr lo mc ms) (hr : meth.sig.returnType = some ty) (hn : narrow ty (.int z) = .int z) (hdg : decode cc pc = .ok (.ireturn, 1)) (hp : post (some (.int z)) ws) : ne_G cl D ct A n0 ad0 p l e R s m args below meth c (ne_O cl D ct ad0 n0 A below args s mc ms post px) nL mc ms C S pc L [.int z] ws := fun H locs cells slots ad ls h1 h2 h3 h4 h5 h6 h7 =>
  W.widen (k := mc) (n := ms) (by omega) (by omega) (vx_ret (W.zret (v := z) X.1.1 X.1.2.1 hr hn (fun t ht hW => ⟨some (.int z), ws, ad, rfl, hp, h1, by rw [ht]; exact h4, h5, h6.F ht⟩) h6.2.2 hdg X.2.2.2.2.2.2.2.2.1))
theorem ne_lret {z : Int64} {post : Option Value → ne_W → Prop} {px : String → ne_W → Prop} (X : ne_F cl D ct A p l R s m args meth c own cc nL Ts fr lo mc ms) (hr : meth.sig.returnType = some .long) (hdg : decode cc pc = .ok (.lreturn, 1)) (hp : post (some (.long z)) ws) : ne_G cl D ct A n0 ad0 p l e R s m args below meth c (ne_O cl D ct ad0 n0 A below args s mc ms post px) nL mc ms C S pc L [.long z] ws := fun H locs cells slots ad ls h1 h2 h3 h4 h5 h6 h7 =>
  W.widen (k := mc) (n := ms) (by omega) (by omega) (vx_ret (W.lret (v := z) X.1.1 X.1.2.1 hr (fun t ht hW => ⟨some (.long z), ws, ad, rfl, hp, h1, by rw [ht]; exact h4, h5, h6.F ht⟩) h6.2.2 hdg X.2.2.2.2.2.2.2.2.1))
theorem ne_vret {post : Option Value → ne_W → Prop} {px : String → ne_W → Prop} (X : ne_F cl D ct A p l R s m args meth c own cc nL Ts fr lo mc ms) (hr : meth.sig.returnType = none) (hdg : decode cc pc = .ok (.return_, 1)) (hp : post none ws) : ne_G cl D ct A n0 ad0 p l e R s m args below meth c (ne_O cl D ct ad0 n0 A below args s mc ms post px) nL mc ms C S pc L [] ws := fun H locs cells slots ad ls h1 h2 h3 h4 h5 h6 h7 =>
  W.widen (k := mc) (n := ms) (by omega) (by omega) (vx_ret (W.vret X.1.1 X.1.2.1 hr (fun t ht hW => ⟨none, ws, ad, rfl, hp, h1, by rw [ht]; exact h4, h5, h6.F ht⟩) h6.2.2 hdg X.2.2.2.2.2.2.2.2.1))
theorem ne_aret {q : Nat} {rt : FieldType} {post : Option Value → ne_W → Prop} {px : String → ne_W → Prop} (X : ne_F cl D ct A p l R s m args meth c own cc nL Ts fr lo mc ms) (hr : meth.sig.returnType = some rt) (hrt : (∃ n, rt = .object n) ∨ ∃ t, rt = .array t) (hdg : decode cc pc = .ok (.areturn, 1)) (hp : post (some (.ref q)) ws) : ne_G cl D ct A n0 ad0 p l e R s m args below meth c (ne_O cl D ct ad0 n0 A below args s mc ms post px) nL mc ms C S pc L [.ref q] ws := fun H locs cells slots ad ls h1 h2 h3 h4 h5 h6 h7 =>
  W.widen (k := mc) (n := ms) (by omega) (by omega) (vx_ret (W.aret (v := .ref (ad q)) X.1.1 X.1.2.1 hr hrt (Or.inr ⟨_, rfl⟩) (fun t ht hW => ⟨some (.ref q), ws, ad, rfl, hp, h1, by rw [ht]; exact h4, h5, h6.F ht⟩) h6.2.2 hdg X.2.2.2.2.2.2.2.2.1))
theorem ne_aretN {rt : FieldType} {post : Option Value → ne_W → Prop} {px : String → ne_W → Prop} (X : ne_F cl D ct A p l R s m args meth c own cc nL Ts fr lo mc ms) (hr : meth.sig.returnType = some rt) (hrt : (∃ n, rt = .object n) ∨ ∃ t, rt = .array t) (hdg : decode cc pc = .ok (.areturn, 1)) (hp : post (some .null) ws) : ne_G cl D ct A n0 ad0 p l e R s m args below meth c (ne_O cl D ct ad0 n0 A below args s mc ms post px) nL mc ms C S pc L [.null] ws := fun H locs cells slots ad ls h1 h2 h3 h4 h5 h6 h7 =>
  W.widen (k := mc) (n := ms) (by omega) (by omega) (vx_ret (W.aret (v := .null) X.1.1 X.1.2.1 hr hrt (Or.inl rfl) (fun t ht hW => ⟨some .null, ws, ad, rfl, hp, h1, by rw [ht]; exact h4, h5, h6.F ht⟩) h6.2.2 hdg X.2.2.2.2.2.2.2.2.1))
/-- thrown over a frame without handlers: on to the caller -/
theorem ne_out {E : String} {post : Option Value → ne_W → Prop} {px : String → ne_W → Prop} (X : ne_F cl D ct A p l R s m args meth c own cc nL Ts fr lo mc ms) (ht : ∀ x ∈ c.exceptionTable.toList, False) (hp : px E ws) : ne_T cl D ct A n0 ad0 p l e R s m args below meth c (ne_O cl D ct ad0 n0 A below args s mc ms post px) nL mc ms C S pc L E ws := fun H locs cells slots ad ls rest q ce h1 h2 h3 h4 h5 h6 h7 h8 h9 h10 =>
  vx_out (fun x hx => (ht x hx).elim) X.2.2.2.2.2.2.2.2.1 h8 h9 h10 (fun t e1 _ => ⟨ws, ad, hp, h1, by rw [e1]; exact h4, h5, h6.F e1⟩) h6.2.2 (by omega) (by omega)
/-- 'throw new E(text)' -/
theorem ne_throw {cls text : String} {names : List String} {ik is ic : Nat} {post : Option Value → ne_W → Prop} {px : String → ne_W → Prop} (X : ne_F cl D ct A p l R s m args meth c own cc nL Ts fr lo mc ms) (hT9 : ∀ w ∈ Ts, w.before args s = true) (hcls : Bundle.fit cls = true) (hnames : ∀ n ∈ names, Bundle.fit n = true) (hk : Cond.classLink own ik cls ∈ Ts) (hini : Cond.initialized cls ∈ Ts) (hstr : (own, is, text) ∈ ne_sl) (hat : ∀ w ∈ (vx_atS own ic cls names).filter goodWord, w ∈ Ts) (hcast : (cls, cls) ∈ ne_ca) (hat2 : ∀ w ∈ (vx_atS own ic cls names).filter (fun w => !goodWord w), w ∈ Cond.castable cls cls :: [Cond.declares ⟨"java/lang/RuntimeException", "<init>", "(Ljava/lang/String;)V"⟩, Cond.declares ⟨"java/lang/Exception", "<init>", "(Ljava/lang/String;)V"⟩, Cond.declares ⟨"java/lang/Throwable", "<init>", "(Ljava/lang/String;)V"⟩])
    (hgood : ∀ w ∈ Cond.classLink own ik cls :: Cond.initialized cls :: vx_atS own ic cls names, vx_ot w = true) (ht : ∀ x ∈ c.exceptionTable.toList, False)
    (d0 : decode cc pc = .ok (.new ik, 3)) (d3 : decode cc (pc + 3) = .ok (.dup, 1)) (d4 : decode cc (pc + 4) = .ok (.ldc is, 2)) (d6 : decode cc (pc + 6) = .ok (.invokespecial ic, 3)) (d9 : decode cc (pc + 9) = .ok (.athrow, 1))
    (hfr : names.length + 3 < fr) (hlo : (st.map fun v => v.category).sum + (13 * (names.length + 1) + 43) ≤ lo) (hC : 1 ≤ C) (hS : 6 ≤ S) (hp : px cls ws) : ne_G cl D ct A n0 ad0 p l e R s m args below meth c (ne_O cl D ct ad0 n0 A below args s mc ms post px) nL mc ms C S pc L st ws := fun H locs cells slots ad ls h1 h2 h3 h4 h5 h6 h7 => by
  obtain ⟨sa, hsa⟩ := X.2.2.2.2.2.2.2.1.2.2.2.1 _ hstr
  refine vx_throwS X.1.1 X.1.2.1 X.2.2.2.2.2.2.2.2.2 X.1.2.2.2.1 hcls hnames (hT9 _ hk) (hT9 _ hini) hsa (vx_hat (fun w hw => hT9 _ (hat w hw)) hat2 (vx_c ((X.2.2.2.2.2.2.2.1.2.2.2.2.2.2.1 _ hcast).use rfl) (vx_c ((X.2.2.2.2.2.2.2.1.2.2.2.2.2.2.2.2 _ (List.mem_of_getElem? (i := 0) rfl)).use rfl) (vx_c ((X.2.2.2.2.2.2.2.1.2.2.2.2.2.2.2.2 _ (List.mem_of_getElem? (i := 1) rfl)).use rfl) (vx_c ((X.2.2.2.2.2.2.2.1.2.2.2.2.2.2.2.2 _ (List.mem_of_getElem? (i := 2) rfl)).use rfl) vx_n))))) hgood X.2.2.2.2.2.2.2.1.1 X.2.2.2.2.2.2.2.1.2.1 h6 (by rw [X.1.2.2.1]; exact h7.1) d0 d3 d4 d6 d9 (fun x hx => (ht x hx).elim) (Nat.lt_of_lt_of_le hfr X.2.2.2.1) (by rw [ne_mcat]; exact Nat.le_trans hlo X.2.2.2.2.1) (by have := X.2.2.2.2.2.1; omega) (by have := X.2.2.2.2.2.2.1; omega) X.2.2.2.2.2.2.2.2.1 ?_ h6.2.2 (by omega) (by omega)
  intro t _ hz hq
  exact ⟨ws, ad, hp, h1, h4.kept (fun k q hk => hq _ (h4 k q hk).lt), h5, Nat.le_trans h6.1 hz, fun q h8 h9 => (hq q (Nat.lt_of_lt_of_le h8 h6.1)).trans (h6.2.1 q h8 h9)⟩
/-- a method's contract out of its body -/
theorem ne_meet {cl : List vw_C} {l : Launch} {y : MethodName} {own : String} {bytes : ByteArray} {maxL fr lo mc ms : Nat} {ret : Option FieldType} {Ts : List Cond} {as : List Value} {ws : ne_W} {post : Option Value → ne_W → Prop} {px : String → ne_W → Prop} (hl : l.stackTraces = false) (ho : y.cls = own) (hy : plainName y.cls = true) (hlen : (ne_a as).length ≤ maxL)
    (body : ∀ (D : va_G) (ct : Nat → ClassId) (A : Nat → Prop) (p : Program) (e : Env) (R : Room) (s : State) (m : MethodId) (args : Array Value) (below : List Frame) (meth : Method) (c : Code) (ad0 : Nat → Nat), ne_F cl D ct A p l R s m args meth c own bytes maxL Ts fr lo mc ms → meth.sig.returnType = ret → meth.name = y.name → (∀ x ∈ c.exceptionTable.toList, False) →
      ne_G cl D ct A ws.length ad0 p l e R s m args below meth c (ne_O cl D ct ad0 ws.length A below args s mc ms post px) maxL mc ms mc ms 0 (ne_a as ++ List.replicate (maxL - (ne_a as).length) none) [] ws) : ne_M l cl (.code y bytes maxL ret) Ts y fr lo mc ms as ws post px := by
  intro D ct ad sz
  refine vx_ofW (cc := bytes) (maxL := maxL) (ret := ret) (ws' := Ts) hy rfl ?_
  intro p e s m args below meth c s₁ B hml ht hv
  obtain ⟨rfl, hsz, hP, hK, hD0, hZ⟩ := hv
  subst hsz
  have hts := atoms_spec (ws := Cond.code y bytes maxL ret :: Ts) B.pre
  have hown : s.vm.findClass own = some m.cls := by rw [← ho]; exact findClass_of_methodNamed B.named
  have hD := hD0.self (sz := s.heap.size)
  have hin : meth.name = y.name := (name_of_methodNamed B.named B.method).1
  have hlsl : ∀ vs : List Value, (lg_sl (vs.map (ne_v ad))).length = (ne_a vs).length := by
    intro vs
    induction vs with
    | nil => rfl
    | cons v t ih =>
      have e9 : ∀ (w : Value) (t' : List Value), lg_sl (w :: t') = (if w.category = 2 then [Slot.val w, Slot.second] else [Slot.val w]) ++ lg_sl t' := fun w t' => by simp [lg_sl]
      rw [ne_a, List.map_cons, e9, List.length_append, ih, ne_v_cat]
      by_cases h : v.category = 2
      · rw [if_pos h, if_pos h]; simp only [List.length_cons, List.length_nil]; omega
      · rw [if_neg h, if_neg h]; simp only [List.length_cons, List.length_nil]; omega
  have h9 := lv_entry (as.map (ne_v ad)) (n := maxL) (by rw [hlsl]; exact hlen)
  rw [lg_entry_eq]
  refine body D ct (va_A (ne_w ct ad 0 ws) s.heap.size) p e _ s m _ below meth c ad ⟨⟨B.exec, B.bytes, hml, hown, fun w hw => hts w (List.mem_cons_of_mem _ hw)⟩, hK, fun q hq => Or.inr hq, Nat.le_refl _, Nat.le_refl _, Nat.le_refl _, Nat.le_refl _, hZ, B.notSynchronized, hl⟩ B.returns hin ht s.heap [] 0 0 ad _ (fun _ _ => rfl) (by omega) (by omega) hP hD va_S.rf ?_
  rw [ne_l_pad, ne_a_args]
  exact h9
end NEC
end
section
/-! ## calls with a part of the world: by places -/
def ne_ix : ne_W → Nat → Nat
  | [], _ => 0
  | _ :: _, 0 => 0
  | none :: t, i + 1 => ne_ix t i
  | some _ :: t, i + 1 => ne_ix t i + 1
theorem ne_ix_at {ct : Nat → ClassId} {ad : Nat → Nat} : ∀ {ws : ne_W} {k i : Nat} {e : ne_E}, ws[i]? = some (some e) → (ne_w ct ad k ws)[ne_ix ws i]? = some (ad (k + i), ne_c ct ad e)
  | [], k, i, e, h => by simp at h
  | none :: t, k, i, e, h => by
    cases i with
    | zero => simp at h
    | succ i =>
      have h2 := ne_ix_at (ct := ct) (ad := ad) (k := k + 1) (ws := t) (i := i) (e := e) (by simpa using h)
      rw [show k + 1 + i = k + (i + 1) by omega] at h2
      rw [ne_w, ne_ix]
      exact h2
  | some e0 :: t, k, i, e, h => by
    cases i with
    | zero =>
      have : e0 = e := by simpa using h
      subst this
      rw [ne_w, ne_ix]
      rfl
    | succ i =>
      have h2 := ne_ix_at (ct := ct) (ad := ad) (k := k + 1) (ws := t) (i := i) (e := e) (by simpa using h)
      rw [show k + 1 + i = k + (i + 1) by omega] at h2
      rw [ne_w, ne_ix, List.getElem?_cons_succ]
      exact h2
theorem ne_ix_inj : ∀ {ws : ne_W} {i j : Nat} {e e' : ne_E}, ws[i]? = some (some e) → ws[j]? = some (some e') → ne_ix ws i = ne_ix ws j → i = j
  | [], i, j, e, e', h, _, _ => by simp at h
  | none :: t, i, j, e, e', h, h', q => by
    cases i with
    | zero => simp at h
    | succ i =>
      cases j with
      | zero => simp at h'
      | succ j =>
        rw [ne_ix, ne_ix] at q
        rw [ne_ix_inj (ws := t) (i := i) (j := j) (by simpa using h) (by simpa using h') q]
  | some e0 :: t, i, j, e, e', h, h', q => by
    cases i with
    | zero =>
      cases j with
      | zero => rfl
      | succ j => rw [ne_ix, ne_ix] at q; omega
    | succ i =>
      cases j with
      | zero => rw [ne_ix, ne_ix] at q; omega
      | succ j =>
        rw [ne_ix, ne_ix] at q
        rw [ne_ix_inj (ws := t) (i := i) (j := j) (by simpa using h) (by simpa using h') (by omega)]
theorem ne_ix_of {ct : Nat → ClassId} {ad : Nat → Nat} : ∀ {ws : ne_W} {k q : Nat} {x : Nat × va_E}, (ne_w ct ad k ws)[q]? = some x → ∃ (i : Nat) (e : ne_E), ws[i]? = some (some e) ∧ q = ne_ix ws i ∧ x = (ad (k + i), ne_c ct ad e)
  | [], k, q, x, h => by simp [ne_w] at h
  | none :: t, k, q, x, h => by
    rw [ne_w] at h
    obtain ⟨i, e, h1, h2, h3⟩ := ne_ix_of h
    exact ⟨i + 1, e, by simpa using h1, by rw [ne_ix]; exact h2, by rw [h3, show k + 1 + i = k + (i + 1) by omega]⟩
  | some e0 :: t, k, q, x, h => by
    rw [ne_w] at h
    cases q with
    | zero => exact ⟨0, e0, rfl, by rw [ne_ix], by simpa using h.symm⟩
    | succ q =>
      rw [List.getElem?_cons_succ] at h
      obtain ⟨i, e, h1, h2, h3⟩ := ne_ix_of h
      exact ⟨i + 1, e, by simpa using h1, by rw [ne_ix, h2], by rw [h3, show k + 1 + i = k + (i + 1) by omega]⟩
theorem ne_Piff {cl : List vw_C} {D : va_G} {ct : Nat → ClassId} {ad : Nat → Nat} {ws : ne_W} {H : Heap} : va_P D cl (ne_w ct ad 0 ws) H ↔ ∀ (i : Nat) (e : ne_E), ws[i]? = some (some e) → va_at D cl (ad i, ne_c ct ad e) H := by
  constructor
  · intro h i e hi
    have h2 := h _ _ (ne_ix_at (ct := ct) (ad := ad) (k := 0) hi)
    rw [Nat.zero_add] at h2
    exact h2
  · intro h k q hq
    obtain ⟨i, e, h1, -, h3⟩ := ne_ix_of hq
    rw [Nat.zero_add] at h3
    rw [h3]
    exact h i e h1
theorem ne_Diff {A : Nat → Prop} {ct : Nat → ClassId} {ad : Nat → Nat} {ws : ne_W} : va_D A (ne_w ct ad 0 ws) ↔ (∀ (i j : Nat) (e e' : ne_E), ws[i]? = some (some e) → ws[j]? = some (some e') → ad i = ad j → i = j) ∧ ∀ (i : Nat) (e : ne_E), ws[i]? = some (some e) → A (ad i) := by
  constructor
  · intro h
    refine ⟨fun i j e e' h1 h2 h3 => ?_, fun i e h1 => ?_⟩
    · have a1 := ne_ix_at (ct := ct) (ad := ad) (k := 0) h1
      have a2 := ne_ix_at (ct := ct) (ad := ad) (k := 0) h2
      rw [Nat.zero_add] at a1 a2
      exact ne_ix_inj h1 h2 (h.1 _ _ _ _ a1 a2 h3)
    · have a1 := ne_ix_at (ct := ct) (ad := ad) (k := 0) h1
      rw [Nat.zero_add] at a1
      exact h.2 _ _ a1
  · intro h
    refine ⟨fun i j x y h1 h2 h3 => ?_, fun k x h1 => ?_⟩
    · obtain ⟨i', e, a1, a2, a3⟩ := ne_ix_of h1
      obtain ⟨j', e', b1, b2, b3⟩ := ne_ix_of h2
      rw [Nat.zero_add] at a3 b3
      rw [a3, b3] at h3
      rw [a2, b2, h.1 _ _ _ _ a1 b1 h3]
    · obtain ⟨i', e, a1, a2, a3⟩ := ne_ix_of h1
      rw [Nat.zero_add] at a3
      rw [a3]
      exact h.2 _ _ a1
/-- a callee's place, seen by the caller -/
def ne_rp (is : List Nat) (n j : Nat) : Nat := if j < is.length then is.getD j 0 else n + (j - is.length)
def ne_rn (is : List Nat) (n : Nat) (v : Value) : Value := match v with
  | .ref j => .ref (ne_rp is n j)
  | w => w
def ne_rc (is : List Nat) (n : Nat) (e : ne_E) : ne_E := match e with
  | .inl a => .inl a
  | .inr o => .inr (o.1, o.2.map (ne_rn is n))
def ne_rE (is : List Nat) (n : Nat) (o : Option ne_E) : Option ne_E := match o with
  | some e => some (ne_rc is n e)
  | none => none
def ne_fi : List Nat → Nat → Option Nat
  | [], _ => none
  | a :: t, i => if a = i then some 0 else match ne_fi t i with
    | some j => some (j + 1)
    | none => none
theorem ne_fi_some : ∀ {is : List Nat} {i j : Nat}, ne_fi is i = some j → is[j]? = some i
  | [], i, j, h => by simp [ne_fi] at h
  | a :: t, i, j, h => by
    rw [ne_fi] at h
    split at h
    · next h1 => cases h; simp [h1]
    · split at h
      · next k hk => cases h; simpa using ne_fi_some hk
      · cases h
theorem ne_fi_none : ∀ {is : List Nat} {i : Nat}, ne_fi is i = none → ∀ j : Nat, is[j]? ≠ some i
  | [], i, _, j => by simp
  | a :: t, i, h, j => by
    rw [ne_fi] at h
    split at h
    · cases h
    · next h1 =>
      split at h
      · cases h
      · next hk =>
        cases j with
        | zero => simpa using h1
        | succ j => simpa using ne_fi_none hk j
/-- the caller's world behind the call -/
def ne_mg (ws : ne_W) (is : List Nat) (ws1 : ne_W) : ne_W := (List.range ws.length).map (fun i => match ne_fi is i with
  | some j => ne_rE is ws.length (ws1.getD j none)
  | none => ws.getD i none) ++ (ws1.drop is.length).map (ne_rE is ws.length)
theorem ne_mg_lt {ws : ne_W} {is : List Nat} {ws1 : ne_W} {i : Nat} (h : i < ws.length) : (ne_mg ws is ws1)[i]? = some (match ne_fi is i with
  | some j => ne_rE is ws.length (ws1.getD j none)
  | none => ws.getD i none) := by
  unfold ne_mg
  rw [List.getElem?_append_left (by simpa using h), List.getElem?_map, List.getElem?_range h]
  rfl
theorem ne_mg_ge {ws : ne_W} {is : List Nat} {ws1 : ne_W} {i : Nat} (h : ws.length ≤ i) : (ne_mg ws is ws1)[i]? = (ws1[is.length + (i - ws.length)]?).map (ne_rE is ws.length) := by
  unfold ne_mg
  rw [List.getElem?_append_right (by simpa using h), List.getElem?_map, List.getElem?_drop]
  simp
section NEF
variable {cl : List vw_C} {D : va_G} {ct : Nat → ClassId} {A : Nat → Prop} {n0 : Nat} {ad0 : Nat → Nat} {p : Program} {l : Launch} {e : Env} {R : Room} {s : State} {m : MethodId} {args : Array Value} {below : List Frame} {meth : Method} {c : Code} {Q : State → Prop} {own : String} {cc : ByteArray} {nL : Nat} {Ts : List Cond} {fr lo mc ms C S pc : Nat} {L : List (Option Value)} {st : List Value} {ws : ne_W}
/-- the cells named by is are the callee's world wc -/
def ne_pt (ws : ne_W) (is : List Nat) (wc : ne_W) : Prop := is.map (fun i => ws.getD i none) = wc.map (ne_rE is ws.length) ∧ is.Nodup ∧ ∀ i ∈ is, i < ws.length
def ne_ac (is : List Nat) (n : Nat) (ad : Nat → Nat) : Nat → Nat := fun j => ad (ne_rp is n j)
theorem ne_ac_v {is : List Nat} {n : Nat} {ad : Nat → Nat} (v : Value) : ne_v (ne_ac is n ad) v = ne_v ad (ne_rn is n v) := by
  cases v <;> rfl
theorem ne_ac_c {is : List Nat} {n : Nat} {ad : Nat → Nat} (e : ne_E) : ne_c ct (ne_ac is n ad) e = ne_c ct ad (ne_rc is n e) := by
  cases e with
  | inl a => rfl
  | inr o =>
    simp only [ne_c, ne_rc, List.map_map]
    congr 2
    exact List.map_congr_left fun v _ => ne_ac_v v
theorem ne_pt_at {is : List Nat} {wc : ne_W} (hp : ne_pt ws is wc) {j : Nat} {e1 : ne_E} (h : wc[j]? = some (some e1)) : j < is.length ∧ ne_rp is ws.length j < ws.length ∧ is[j]? = some (ne_rp is ws.length j) ∧ ws[ne_rp is ws.length j]? = some (some (ne_rc is ws.length e1)) := by
  have h1 := congrArg (fun z => z[j]?) hp.1
  simp only [List.getElem?_map, h, Option.map_some] at h1
  cases h2 : is[j]? with
  | none => rw [h2] at h1; simp at h1
  | some i =>
    have h3 : j < is.length := (List.getElem?_eq_some_iff.mp h2).1
    have h4 : ne_rp is ws.length j = i := by
      unfold ne_rp
      rw [if_pos h3, List.getD_eq_getElem?_getD, h2]; rfl
    rw [h2] at h1
    simp only [Option.map_some, Option.some.injEq] at h1
    have h5 : i < ws.length := hp.2.2 i (List.mem_of_getElem? h2)
    rw [h4]
    refine ⟨h3, h5, rfl, ?_⟩
    rw [List.getD_eq_getElem?_getD] at h1
    rw [List.getElem?_eq_getElem h5] at h1 ⊢
    simp only [Option.getD_some] at h1
    rw [h1]
    rfl
theorem ne_pt_nd {is : List Nat} {wc : ne_W} (hp : ne_pt ws is wc) {i j a : Nat} (h1 : is[i]? = some a) (h2 : is[j]? = some a) : i = j := by
  have hi := (List.getElem?_eq_some_iff.mp h1).1
  have h3 : is[i]? = is[j]? := by rw [h1, h2]
  exact (List.getElem?_inj hi hp.2.1 h3)
theorem ne_preF {H : Heap} {locs : List Loc} {ad : Nat → Nat} {is : List Nat} {wc : ne_W} {av : List Value} (X : ne_F cl D ct A p l R s m args meth c own cc nL Ts fr lo mc ms) (hp : ne_pt ws is wc) (h4 : va_P D cl (ne_w ct ad 0 ws) H) (h5 : va_D A (ne_w ct ad 0 ws)) (h6 : va_S A s.heap H locs) :
    (∀ q, va_A (ne_w ct (ne_ac is ws.length ad) 0 wc) H.size q → A q) ∧ va_P D cl (ne_w ct (ne_ac is ws.length ad) 0 wc) H ∧ PreS s H (va_Pc av (fun U => U.heap.size = H.size ∧ va_P D cl (ne_w ct (ne_ac is ws.length ad) 0 wc) U.heap ∧ va_K D cl (ne_ty ct) U ∧ va_D (fun _ => True) (ne_w ct (ne_ac is ws.length ad) 0 wc) ∧ ne_Z (va_A (ne_w ct (ne_ac is ws.length ad) 0 wc) H.size) U U.heap)) av := by
  have hP : va_P D cl (ne_w ct (ne_ac is ws.length ad) 0 wc) H := ne_Piff.mpr fun j e1 hj => by
    obtain ⟨a1, a2, a3, a4⟩ := ne_pt_at hp hj
    rw [ne_ac_c]
    exact ne_Piff.mp h4 _ _ a4
  have hD : va_D A (ne_w ct (ne_ac is ws.length ad) 0 wc) := ne_Diff.mpr ⟨fun i j e1 e2 hi hj hq => by
    obtain ⟨a1, a2, a3, a4⟩ := ne_pt_at hp hi
    obtain ⟨b1, b2, b3, b4⟩ := ne_pt_at hp hj
    have h9 := (ne_Diff.mp h5).1 _ _ _ _ a4 b4 hq
    rw [h9] at a3
    exact ne_pt_nd hp a3 b3, fun i e1 hi => by
    obtain ⟨a1, a2, a3, a4⟩ := ne_pt_at hp hi
    exact (ne_Diff.mp h5).2 _ _ a4⟩
  have hA1 : ∀ q, va_A (ne_w ct (ne_ac is ws.length ad) 0 wc) H.size q → A q := by
    rintro q (⟨k, e, hk⟩ | hq)
    · exact hD.2 k _ hk
    · exact X.2.2.1 q (Nat.le_trans h6.1 hq)
  refine ⟨hA1, hP, ne_blind, fun U hU hW => ⟨rfl, by rw [hU], by rw [hU]; exact hP, va_K.moved hW.alike X.2.1, hD.weaken (fun _ _ _ _ => trivial), ?_⟩⟩
  rw [hU]
  have hz : ne_Z A s H := ne_Z.kept X.2.2.2.2.2.2.2.1 (fun a ha hA => h6.2.1 a ha hA)
  exact (hz.narrow hA1).warm hW
/-- the caller's view behind the call -/
theorem ne_back {H H1 : Heap} {ad ad1 : Nat → Nat} {is : List Nat} {wc ws1 : ne_W} (hp : ne_pt ws is wc) (hw : ne_cw ws.length ws = true) (hA : ∀ q, va_A (ne_w ct (ne_ac is ws.length ad) 0 wc) H.size q → A q) (h4 : va_P D cl (ne_w ct ad 0 ws) H) (h5 : va_D A (ne_w ct ad 0 ws)) (hlen : wc.length = is.length) (hag : ∀ k, k < wc.length → ad1 k = ne_ac is ws.length ad k) (hP1 : va_P D cl (ne_w ct ad1 0 ws1) H1) (hD1 : va_D (va_A (ne_w ct (ne_ac is ws.length ad) 0 wc) H.size) (ne_w ct ad1 0 ws1)) (hk : ∀ q : Nat, q < H.size → ¬ va_A (ne_w ct (ne_ac is ws.length ad) 0 wc) H.size q → H1[q]? = H[q]?) (hwcs : ∀ j : Nat, j < is.length → ∃ e1, wc[j]? = some e1) :
    ∃ ad2 : Nat → Nat, (∀ k, k < ws.length → ad2 k = ad k) ∧ (∀ v, ne_v ad2 (ne_rn is ws.length v) = ne_v ad1 v) ∧ va_P D cl (ne_w ct ad2 0 (ne_mg ws is ws1)) H1 ∧ va_D A (ne_w ct ad2 0 (ne_mg ws is ws1)) := by
  obtain ⟨ad2, had2⟩ : ∃ f : Nat → Nat, f = fun i => if i < ws.length then ad i else ad1 (is.length + (i - ws.length)) := ⟨_, rfl⟩
  have e1 : ∀ k, k < ws.length → ad2 k = ad k := fun k hk => by rw [had2]; simp [hk]
  have e2 : ∀ j, ad2 (ne_rp is ws.length j) = ad1 j := fun j => by
    by_cases hj : j < is.length
    · have h1 : ne_rp is ws.length j < ws.length := by
        unfold ne_rp
        rw [if_pos hj, List.getD_eq_getElem?_getD, List.getElem?_eq_getElem hj]
        exact hp.2.2 _ (List.getElem_mem hj)
      rw [e1 _ h1, hag j (by omega)]
      rfl
    · have h1 : ne_rp is ws.length j = ws.length + (j - is.length) := by unfold ne_rp; rw [if_neg hj]
      rw [h1, had2]
      simp only [show ¬ (ws.length + (j - is.length) < ws.length) by omega, if_false]
      congr 1
      omega
  have e3 : ∀ v, ne_v ad2 (ne_rn is ws.length v) = ne_v ad1 v := fun v => by
    cases v with
    | ref j => show Value.ref _ = Value.ref _; rw [e2]
    | _ => rfl
  have e4 : ∀ e9 : ne_E, ne_c ct ad2 (ne_rc is ws.length e9) = ne_c ct ad1 e9 := fun e9 => by
    cases e9 with
    | inl a => rfl
    | inr o =>
      simp only [ne_c, ne_rc, List.map_map]
      congr 2
      exact List.map_congr_left fun v _ => e3 v
  have e5 : ∀ {e9 : ne_E}, ne_okE ws.length (some e9) = true → ne_c ct ad2 e9 = ne_c ct ad e9 := fun h => ne_c_eq e1 h
  -- what lies at a place of the new world
  have key : ∀ (i : Nat) (e9 : ne_E), (ne_mg ws is ws1)[i]? = some (some e9) → (∃ j e8, ws1[j]? = some (some e8) ∧ i = ne_rp is ws.length j ∧ e9 = ne_rc is ws.length e8) ∨ (i < ws.length ∧ ne_fi is i = none ∧ ws[i]? = some (some e9)) := by
    intro i e9 hi
    by_cases h : i < ws.length
    · rw [ne_mg_lt h] at hi
      cases hf : ne_fi is i with
      | none =>
        rw [hf] at hi
        refine Or.inr ⟨h, rfl, ?_⟩
        rw [List.getD_eq_getElem?_getD, List.getElem?_eq_getElem h] at hi
        rw [List.getElem?_eq_getElem h]
        simpa using hi
      | some j =>
        rw [hf] at hi
        have hj := ne_fi_some hf
        have hjl : j < is.length := (List.getElem?_eq_some_iff.mp hj).1
        simp only [Option.some.injEq] at hi
        cases hz : ws1.getD j none with
        | none => rw [hz] at hi; simp [ne_rE] at hi
        | some e8 =>
          rw [hz] at hi
          simp only [ne_rE, Option.some.injEq] at hi
          refine Or.inl ⟨j, e8, ?_, ?_, hi.symm⟩
          · rw [List.getD_eq_getElem?_getD] at hz
            cases hq : ws1[j]? with
            | none => rw [hq] at hz; simp at hz
            | some o => rw [hq] at hz; simp only [Option.getD_some] at hz; rw [hz]
          · unfold ne_rp
            rw [if_pos hjl, List.getD_eq_getElem?_getD, hj]; rfl
    · rw [ne_mg_ge (by omega)] at hi
      cases hq : ws1[is.length + (i - ws.length)]? with
      | none => rw [hq] at hi; simp at hi
      | some o =>
        rw [hq] at hi
        cases o with
        | none => simp [ne_rE] at hi
        | some e8 =>
          simp only [Option.map_some, ne_rE, Option.some.injEq] at hi
          refine Or.inl ⟨_, e8, hq, ?_, hi.symm⟩
          unfold ne_rp
          rw [if_neg (by omega)]
          omega
  -- the cells that are not the callee's
  have oth : ∀ (i : Nat) (e9 : ne_E), i < ws.length → ne_fi is i = none → ws[i]? = some (some e9) → ad i < H.size ∧ ¬ va_A (ne_w ct (ne_ac is ws.length ad) 0 wc) H.size (ad i) := by
    intro i e9 h hf hi
    have hlt : ad i < H.size := (ne_Piff.mp h4 i e9 hi).lt
    refine ⟨hlt, ?_⟩
    rintro (⟨k, x, hkx⟩ | hq)
    · obtain ⟨j, e8, b1, b2, b3⟩ := ne_ix_of hkx
      rw [Nat.zero_add] at b3
      obtain ⟨a1, a2, a3, a4⟩ := ne_pt_at hp b1
      have h9 : ad i = ad (ne_rp is ws.length j) := congrArg Prod.fst b3
      have h10 := (ne_Diff.mp h5).1 _ _ _ _ hi a4 h9
      rw [← h10] at a3
      exact ne_fi_none hf j a3
    · omega
  refine ⟨ad2, e1, e3, ne_Piff.mpr fun i e9 hi => ?_, ne_Diff.mpr ⟨fun i j e9 e8 hi hj hq => ?_, fun i e9 hi => ?_⟩⟩
  · rcases key i e9 hi with ⟨j, e8, a1, rfl, rfl⟩ | ⟨a1, a2, a3⟩
    · rw [e2, e4]
      exact ne_Piff.mp hP1 _ _ a1
    · have hc : ne_okE ws.length (some e9) = true := List.all_eq_true.mp hw _ (List.mem_of_getElem? a3)
      rw [e1 i a1, e5 hc]
      obtain ⟨b1, b2⟩ := oth i e9 a1 a2 a3
      exact (ne_Piff.mp h4 i e9 a3).kept (hk _ b1 b2)
  · rcases key i e9 hi with ⟨i', e7, a1, rfl, rfl⟩ | ⟨a1, a2, a3⟩
    · rcases key j e8 hj with ⟨j', e6, b1, rfl, rfl⟩ | ⟨b1, b2, b3⟩
      · rw [e2, e2] at hq
        rw [(ne_Diff.mp hD1).1 _ _ _ _ a1 b1 hq]
      · rw [e2, e1 j b1] at hq
        have h9 := (ne_Diff.mp hD1).2 _ _ a1
        rw [hq] at h9
        exact absurd h9 (oth j e8 b1 b2 b3).2
    · rcases key j e8 hj with ⟨j', e6, b1, rfl, rfl⟩ | ⟨b1, b2, b3⟩
      · rw [e2, e1 i a1] at hq
        have h9 := (ne_Diff.mp hD1).2 _ _ b1
        rw [← hq] at h9
        exact absurd h9 (oth i e9 a1 a2 a3).2
      · rw [e1 i a1, e1 j b1] at hq
        exact (ne_Diff.mp h5).1 _ _ _ _ a3 b3 hq
  · rcases key i e9 hi with ⟨i', e7, a1, rfl, rfl⟩ | ⟨a1, a2, a3⟩
    · rw [e2]
      exact hA _ ((ne_Diff.mp hD1).2 _ _ a1)
    · rw [e1 i a1]
      exact (ne_Diff.mp h5).2 _ _ a3
theorem ne_afterF {H : Heap} {locs : List Loc} {cells slots mc1 ms1 : Nat} {ad : Nat → Nat} {ls : Array Slot} {st0 : List Value} {a9 : Array Value} {is : List Nat} {wc : ne_W} {post : Option Value → ne_W → Prop} {px : String → ne_W → Prop} (X : ne_F cl D ct A p l R s m args meth c own cc nL Ts fr lo mc ms) (hp : ne_pt ws is wc) (hA1 : ∀ q, va_A (ne_w ct (ne_ac is ws.length ad) 0 wc) H.size q → A q) (hr : vx_Run p l e R s m args below meth c H locs cells slots mc1 ms1 (F0 m pc ls st0) (st.map (ne_v ad)) (ne_Q cl D ct (ne_ac is ws.length ad) wc.length (va_A (ne_w ct (ne_ac is ws.length ad) 0 wc) H.size) post a9) (ne_XC cl D ct (ne_ac is ws.length ad) wc.length (va_A (ne_w ct (ne_ac is ws.length ad) 0 wc) H.size) px) (va_A (ne_w ct (ne_ac is ws.length ad) 0 wc) H.size))
    (h1 : ∀ k, k < n0 → ad k = ad0 k) (h2 : cells + C ≤ mc) (h3 : slots + S ≤ ms) (h4 : va_P D cl (ne_w ct ad 0 ws) H) (h5 : va_D A (ne_w ct ad 0 ws)) (h6 : va_S A s.heap H locs) (h7 : lv_has ls nL (ne_l ad 0 L)) (hC : mc1 ≤ C) (hS : ms1 ≤ S) (hn0 : n0 ≤ ws.length) (hw : ne_cw ws.length ws = true) (hl : ne_cl ws.length L = true) (hs : ne_cs ws.length st = true)
    (kk : ∀ (v : Option Value) (ws1 : ne_W), post v ws1 → ne_G cl D ct A n0 ad0 p l e R s m args below meth c Q nL mc ms (C - mc1) (S - ms1) (pc + 3) L ((v.map (ne_rn is ws.length)).toList ++ st) (ne_mg ws is ws1)) (kx : ∀ (E : String) (ws1 : ne_W), px E ws1 → ne_T cl D ct A n0 ad0 p l e R s m args below meth c Q nL mc ms (C - mc1) (S - ms1) pc L E (ne_mg ws is ws1)) : W p l e R s m args below meth c H locs cells slots Q (F0 m pc ls st0) := by
  have hlen : wc.length = is.length := by have := congrArg List.length hp.1; simpa using this.symm
  have hwcs : ∀ j : Nat, j < is.length → ∃ e1, wc[j]? = some e1 := fun j hj => ⟨_, List.getElem?_eq_getElem (by omega)⟩
  intro T hT Y
  rcases hr T hT Y with ⟨v, st₀, t, T', L9, h0, Y', hL, e1, e2, ⟨v', ws1, ad1, hv, hpo, hag, hP1, hD1, hF1⟩, stp⟩ | ⟨q, st₀, t, T', L9, E, ce, h0, Y', hL, e1, e2, ⟨ws1, ad1, hpo, hag, hP1, hD1, hF1⟩, hce, hcv, hcl, stp⟩
  · have hv2 : v = v'.map (ne_v ad1) := by injection hv
    subst hv2
    obtain ⟨k1, k2, k3⟩ := vx_keep h0 e1 h6 (fun q _ h => hA1 q h) hA1 hL hF1
    obtain ⟨ad2, f1, f2, f3, f4⟩ := ne_back (ct := ct) (A := A) hp hw hA1 h4 h5 hlen hag (by rw [e1]; exact hP1 : va_P D cl (ne_w ct ad1 0 ws1) T'.heap) hD1 k2 hwcs
    obtain ⟨t2, a1, b1⟩ := kk v' ws1 hpo T'.heap (locs ++ L9) (cells + mc1) (slots + ms1) ad2 ls (fun k hk => (f1 k (by omega)).trans (h1 k hk)) (by omega) (by omega) f3 f4 k3 (by rw [ne_l_eq f1 hl]; exact h7) T' rfl Y'
    have hst : ((v'.map (ne_rn is ws.length)).toList ++ st).map (ne_v ad2) = (v'.map (ne_v ad1)).toList ++ st.map (ne_v ad) := by
      rw [List.map_append, ne_s_eq f1 hs]
      cases v' with
      | none => rfl
      | some v => simp only [Option.map_some, Option.toList_some, List.map_cons, List.map_nil, f2]
    rw [hst] at a1
    exact ⟨t2, stp t2 a1, b1⟩
  · obtain ⟨k1, k2, k3⟩ := vx_keep h0 e1 h6 (fun q _ h => hA1 q h) hA1 hL hF1
    obtain ⟨ad2, f1, f2, f3, f4⟩ := ne_back (ct := ct) (A := A) hp hw hA1 h4 h5 hlen hag (by rw [e1]; exact hP1 : va_P D cl (ne_w ct ad1 0 ws1) T'.heap) hD1 k2 hwcs
    obtain ⟨t2, a1, b1⟩ := kx E ws1 hpo T'.heap (locs ++ L9) (cells + mc1) (slots + ms1) ad2 ls (st.map (ne_v ad)) q ce (fun k hk => (f1 k (by omega)).trans (h1 k hk)) (by omega) (by omega) f3 f4 k3 (by rw [ne_l_eq f1 hl]; exact h7) (by rw [e1]; exact hce) hcv hcl T' rfl Y'
    exact ⟨t2, stp.trans a1, b1⟩

theorem ne_callSF {y : MethodName} {bytes : ByteArray} {maxL n ix fr1 lo1 mc1 ms1 : Nat} {ret : Option FieldType} {as st1 : List Value} {is : List Nat} {wc : ne_W} {post : Option Value → ne_W → Prop} {px : String → ne_W → Prop} (X : ne_F cl D ct A p l R s m args meth c own cc nL Ts fr lo mc ms) (hg : ∀ w ∈ Ts, goodWord w = true) (hM : ne_M l cl (.code y bytes maxL ret) Ts y fr1 lo1 mc1 ms1 as wc post px) (hy : ne_cy y (.code y bytes maxL ret) n Ts) (hw1 : Cond.methodLink own ix y ∈ Ts) (hw2 : Cond.static y ∈ Ts) (hdg : decode cc pc = .ok (.invokestatic ix, 3)) (hst : st1 = (as.map (ne_rn is ws.length)).reverse ++ st) (hlen : as.length = n) (hfr : fr1 + 1 ≤ fr) (hlo : 8 + (maxL + 11) + lo1 ≤ lo) (hC : mc1 ≤ C) (hS : ms1 ≤ S) (hn0 : n0 ≤ ws.length) (hw : ne_cw ws.length ws = true) (hl : ne_cl ws.length L = true) (hs : ne_cs ws.length st = true) (hcat : (st.map fun v => v.category).sum ≤ 8) (hp : ne_pt ws is wc) (kk : ∀ (v : Option Value) (ws1 : ne_W), post v ws1 → ne_G cl D ct A n0 ad0 p l e R s m args below meth c Q nL mc ms (C - mc1) (S - ms1) (pc + 3) L ((v.map (ne_rn is ws.length)).toList ++ st) (ne_mg ws is ws1)) (kx : ∀ (E : String) (ws1 : ne_W), px E ws1 → ne_T cl D ct A n0 ad0 p l e R s m args below meth c Q nL mc ms (C - mc1) (S - ms1) pc L E (ne_mg ws is ws1)) : ne_G cl D ct A n0 ad0 p l e R s m args below meth c Q nL mc ms C S pc L st1 ws := fun H locs cells slots ad ls h1 h2 h3 h4 h5 h6 h7 => by
  subst hst
  have e8 : ∀ z : List Value, z.map (fun v => ne_v ad (ne_rn is ws.length v)) = z.map (ne_v (ne_ac is ws.length ad)) := fun z => List.map_congr_left fun v _ => (ne_ac_v v).symm
  have e9 : ((as.map (ne_rn is ws.length)).reverse ++ st).map (ne_v ad) = (as.map (ne_v (ne_ac is ws.length ad))).reverse ++ st.map (ne_v ad) := by
    rw [← e8]
    simp [List.map_append, List.map_reverse, ne_v, ne_ac, Function.comp_def]
  rw [e9]
  have hF := ne_preF (av := as.map (ne_v (ne_ac is ws.length ad))) X hp h4 h5 h6
  have cw := va_cwS (R := R) (s := s) (args := args) (own := own) (index := ix) (y := y) (bytes := bytes) (maxL := maxL) (mc := mc1) (ms := ms1) (ret := ret) (Ts := Ts) (ws := .code y bytes maxL ret :: Ts) (ws' := Ts) (rm := { frames := fr1, cells := mc1, slots := ms1, locals := lo1 }) n X.1.2.2.2.2 (ne_gi hg (fun w hw => by
    unfold va_wsS at hw
    simp only [List.cons_append, List.nil_append, List.mem_cons] at hw
    rcases hw with rfl | rfl | rfl | rfl | hw
    · exact hw1
    · exact hw2
    · exact hy.2.1
    · exact hy.1
    · exact hw)) rfl rfl rfl ⟨hy.2.2.1, hy.2.2.2.1, hy.2.2.2.2⟩ ⟨Nat.le_trans hfr X.2.2.2.1, Nat.le_trans hlo X.2.2.2.2.1⟩
  exact ne_afterF X hp hF.1 (vx_runS (As := as.map (ne_v (ne_ac is ws.length ad))) (rest := st.map (ne_v ad)) X.1 (hM D ct (ne_ac is ws.length ad) H.size) cw hF.2.2 rfl (by rw [List.length_map]; exact hlen) h7.1 rfl (by show 2 * 0 + _ ≤ 8; rw [ne_mcat]; omega) hdg ⟨by have := X.2.2.2.2.2.1; omega, by have := X.2.2.2.2.2.2.1; omega⟩) h1 h2 h3 h4 h5 h6 h7 hC hS hn0 hw hl hs kk kx
theorem ne_callVF {y : MethodName} {bytes : ByteArray} {maxL n ix fr1 lo1 mc1 ms1 : Nat} {ret : Option FieldType} {as st1 : List Value} {is : List Nat} {wc : ne_W} {post : Option Value → ne_W → Prop} {px : String → ne_W → Prop} {q ci : Nat} {fs : List Value} {r : vw_C} (X : ne_F cl D ct A p l R s m args meth c own cc nL Ts fr lo mc ms) (hg : ∀ w ∈ Ts, goodWord w = true) (hM : ne_M l cl (.code y bytes maxL ret) Ts y fr1 lo1 mc1 ms1 (.ref q :: as) wc post px) (hy : ne_cy y (.code y bytes maxL ret) n Ts) (hw1 : Cond.methodLink own ix y ∈ Ts) (hw2 : Cond.instanceMethod y ∈ Ts) (hw3 : Cond.selects y.cls y y ∈ Ts) (hr : cl[ci]? = some r) (hrc : r.1 = y.cls) (he : wc[q]? = some (some (.inr (ci, fs)))) (hdg : decode cc pc = .ok (.invokevirtual ix, 3)) (hst : st1 = (as.map (ne_rn is ws.length)).reverse ++ .ref (ne_rp is ws.length q) :: st) (hlen : as.length = n) (hfr : fr1 + 1 ≤ fr) (hlo : 8 + (maxL + 11) + lo1 ≤ lo) (hC : mc1 ≤ C) (hS : ms1 ≤ S) (hn0 : n0 ≤ ws.length) (hw : ne_cw ws.length ws = true) (hl : ne_cl ws.length L = true) (hs : ne_cs ws.length st = true) (hcat : (st.map fun v => v.category).sum ≤ 8) (hp : ne_pt ws is wc) (kk : ∀ (v : Option Value) (ws1 : ne_W), post v ws1 → ne_G cl D ct A n0 ad0 p l e R s m args below meth c Q nL mc ms (C - mc1) (S - ms1) (pc + 3) L ((v.map (ne_rn is ws.length)).toList ++ st) (ne_mg ws is ws1)) (kx : ∀ (E : String) (ws1 : ne_W), px E ws1 → ne_T cl D ct A n0 ad0 p l e R s m args below meth c Q nL mc ms (C - mc1) (S - ms1) pc L E (ne_mg ws is ws1)) : ne_G cl D ct A n0 ad0 p l e R s m args below meth c Q nL mc ms C S pc L st1 ws := fun H locs cells slots ad ls h1 h2 h3 h4 h5 h6 h7 => by
  subst hst
  have e8 : ∀ z : List Value, z.map (fun v => ne_v ad (ne_rn is ws.length v)) = z.map (ne_v (ne_ac is ws.length ad)) := fun z => List.map_congr_left fun v _ => (ne_ac_v v).symm
  have e9 : ((as.map (ne_rn is ws.length)).reverse ++ .ref (ne_rp is ws.length q) :: st).map (ne_v ad) = (as.map (ne_v (ne_ac is ws.length ad))).reverse ++ .ref (ne_ac is ws.length ad q) :: st.map (ne_v ad) := by
    rw [← e8]
    simp [List.map_append, List.map_reverse, ne_v, ne_ac, Function.comp_def]
  rw [e9]
  obtain ⟨q0, e1, -⟩ := ne_w_set (ct := ct) (ad := ne_ac is ws.length ad) (k := 0) he
  rw [Nat.zero_add] at e1
  have hF := ne_preF (av := .ref (ne_ac is ws.length ad q) :: as.map (ne_v (ne_ac is ws.length ad))) X hp h4 h5 h6
  have rv := va_recv X.2.1 hF.2.1 hr e1
  rw [hrc] at rv
  have cw := cwV (R := R) (s := s) (args := args) (own := own) (C := y.cls) (index := ix) (y := y) (bytes := bytes) (maxL := maxL) (mc := mc1) (ms := ms1) (ret := ret) (Ts := Ts) (ws := .code y bytes maxL ret :: Ts) (ws' := Ts) (rm := { frames := fr1, cells := mc1, slots := ms1, locals := lo1 }) n X.1.2.2.2.2 (ne_gi hg (fun w hw => by
    unfold wsV at hw
    simp only [List.cons_append, List.nil_append, List.mem_cons] at hw
    rcases hw with rfl | rfl | rfl | rfl | rfl | hw
    · exact hw1
    · exact hw2
    · exact hw3
    · exact hy.2.1
    · exact hy.1
    · exact hw)) rfl rfl rfl ⟨rfl, hy.2.2.1, hy.2.2.2.1, hy.2.2.2.2⟩ ⟨Nat.le_trans hfr X.2.2.2.1, Nat.le_trans hlo X.2.2.2.2.1⟩
  exact ne_afterF X hp hF.1 (vx_runV (As := as.map (ne_v (ne_ac is ws.length ad))) (rest := st.map (ne_v ad)) (b := ne_ac is ws.length ad q) X.1 (hM D ct (ne_ac is ws.length ad) H.size) cw ⟨hF.2.2.1, rv, hF.2.2.2⟩ rfl (by rw [List.length_map]; exact hlen) h7.1 rfl (by show 2 * 0 + _ ≤ 8; rw [ne_mcat]; omega) hdg ⟨by have := X.2.2.2.2.2.1; omega, by have := X.2.2.2.2.2.2.1; omega⟩) h1 h2 h3 h4 h5 h6 h7 hC hS hn0 hw hl hs kk kx
theorem ne_callIF {y : MethodName} {bytes : ByteArray} {maxL n ix fr1 lo1 mc1 ms1 : Nat} {ret : Option FieldType} {as st1 : List Value} {is : List Nat} {wc : ne_W} {post : Option Value → ne_W → Prop} {px : String → ne_W → Prop} {q : Nat} (X : ne_F cl D ct A p l R s m args meth c own cc nL Ts fr lo mc ms) (hg : ∀ w ∈ Ts, goodWord w = true) (hM : ne_M l cl (.code y bytes maxL ret) Ts y fr1 lo1 mc1 ms1 (.ref q :: as) wc post px) (hr9 : ret = none) (hy : ne_cy y (.code y bytes maxL ret) n Ts) (hw1 : Cond.methodLink own ix y ∈ Ts) (hw2 : Cond.instanceMethod y ∈ Ts) (hy1 : y.name = "<init>") (hdg : decode cc pc = .ok (.invokespecial ix, 3)) (hst : st1 = (as.map (ne_rn is ws.length)).reverse ++ .ref (ne_rp is ws.length q) :: st) (hlen : as.length = n) (hfr : fr1 + 1 ≤ fr) (hlo : 8 + (maxL + 11) + lo1 ≤ lo) (hC : mc1 ≤ C) (hS : ms1 ≤ S) (hn0 : n0 ≤ ws.length) (hw : ne_cw ws.length ws = true) (hl : ne_cl ws.length L = true) (hs : ne_cs ws.length st = true) (hcat : (st.map fun v => v.category).sum ≤ 8) (hp : ne_pt ws is wc) (kk : ∀ (v : Option Value) (ws1 : ne_W), post v ws1 → ne_G cl D ct A n0 ad0 p l e R s m args below meth c Q nL mc ms (C - mc1) (S - ms1) (pc + 3) L ((v.map (ne_rn is ws.length)).toList ++ st) (ne_mg ws is ws1)) (kx : ∀ (E : String) (ws1 : ne_W), px E ws1 → ne_T cl D ct A n0 ad0 p l e R s m args below meth c Q nL mc ms (C - mc1) (S - ms1) pc L E (ne_mg ws is ws1)) : ne_G cl D ct A n0 ad0 p l e R s m args below meth c Q nL mc ms C S pc L st1 ws := fun H locs cells slots ad ls h1 h2 h3 h4 h5 h6 h7 => by
  subst hst
  have e8 : ∀ z : List Value, z.map (fun v => ne_v ad (ne_rn is ws.length v)) = z.map (ne_v (ne_ac is ws.length ad)) := fun z => List.map_congr_left fun v _ => (ne_ac_v v).symm
  have e9 : ((as.map (ne_rn is ws.length)).reverse ++ .ref (ne_rp is ws.length q) :: st).map (ne_v ad) = (as.map (ne_v (ne_ac is ws.length ad))).reverse ++ .ref (ne_ac is ws.length ad q) :: st.map (ne_v ad) := by
    rw [← e8]
    simp [List.map_append, List.map_reverse, ne_v, ne_ac, Function.comp_def]
  rw [e9]
  subst hr9
  have hF := ne_preF (av := .ref (ne_ac is ws.length ad q) :: as.map (ne_v (ne_ac is ws.length ad))) X hp h4 h5 h6
  have cw := cwI (R := R) (s := s) (args := args) (own := own) (index := ix) (y := y) (bytes := bytes) (maxL := maxL) (mc := mc1) (ms := ms1) (Ts := Ts) (ws := .code y bytes maxL none :: Ts) (ws' := Ts) (rm := { frames := fr1, cells := mc1, slots := ms1, locals := lo1 }) n X.1.2.2.2.2 (ne_gi hg (fun w hw => by
    rcases List.mem_cons.mp hw with rfl | hw
    · exact hy.1
    · exact hw)) rfl rfl rfl (X.1.2.2.2.2 _ hy.2.1) (X.1.2.2.2.2 _ hw1) (X.1.2.2.2.2 _ hw2) hy1 ⟨hy.2.2.1, hy.2.2.2.1, hy.2.2.2.2⟩ ⟨Nat.le_trans hfr X.2.2.2.1, Nat.le_trans hlo X.2.2.2.2.1⟩
  exact ne_afterF X hp hF.1 (vx_runI (As := as.map (ne_v (ne_ac is ws.length ad))) (rest := st.map (ne_v ad)) (b := ne_ac is ws.length ad q) X.1 (hM D ct (ne_ac is ws.length ad) H.size) cw hF.2.2 rfl (by rw [List.length_map]; exact hlen) h7.1 rfl (by show 2 * 0 + _ ≤ 8; rw [ne_mcat]; omega) hdg ⟨by have := X.2.2.2.2.2.1; omega, by have := X.2.2.2.2.2.2.1; omega⟩) h1 h2 h3 h4 h5 h6 h7 hC hS hn0 hw hl hs kk kx
end NEF
end
