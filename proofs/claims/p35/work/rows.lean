section
-- ===== PART A: goes FIRST, ahead of the names: the tables' words, and 'selects' of the private methods out of them =====
/-- a private method of a class that the tables say can be made, by its rows of tables_1 -/
def lw_okq (q : MethodName × Nat) : Prop := (q.1.cls ≠ "java/lang/invoke/MethodHandle" ∧ q.1.cls ≠ "java/lang/invoke/VarHandle") ∧ Cond.instantiable q.1.cls q.2 ∈ tables_1 ∧ Cond.privateMethod q.1 ∈ tables_1 ∧ Cond.instanceMethod q.1 ∈ tables_1
theorem lw_p0 : lw_okq (⟨"Ninewheel", "isCellSoundWithAll", "(I)Z"⟩, 9) := ⟨⟨by decide +kernel, by decide +kernel⟩, List.mem_of_getElem? (i := 23) (by decide +kernel), List.mem_of_getElem? (i := 83) (by decide +kernel), List.mem_of_getElem? (i := 84) (by decide +kernel)⟩
theorem lw_p1 : lw_okq (⟨"Ninewheel", "countAt", "(II)J"⟩, 9) := ⟨⟨by decide +kernel, by decide +kernel⟩, List.mem_of_getElem? (i := 23) (by decide +kernel), List.mem_of_getElem? (i := 90) (by decide +kernel), List.mem_of_getElem? (i := 91) (by decide +kernel)⟩
theorem lw_p2 : lw_okq (⟨"Ninewheel", "orderOfCells", "(II)I"⟩, 9) := ⟨⟨by decide +kernel, by decide +kernel⟩, List.mem_of_getElem? (i := 23) (by decide +kernel), List.mem_of_getElem? (i := 98) (by decide +kernel), List.mem_of_getElem? (i := 99) (by decide +kernel)⟩
theorem lw_p3 : lw_okq (⟨"Ninewheel", "areSame", "(II)Z"⟩, 9) := ⟨⟨by decide +kernel, by decide +kernel⟩, List.mem_of_getElem? (i := 23) (by decide +kernel), List.mem_of_getElem? (i := 105) (by decide +kernel), List.mem_of_getElem? (i := 106) (by decide +kernel)⟩
theorem lw_p4 : lw_okq (⟨"Ninewheel", "isLengthSound", "(I)Z"⟩, 9) := ⟨⟨by decide +kernel, by decide +kernel⟩, List.mem_of_getElem? (i := 23) (by decide +kernel), List.mem_of_getElem? (i := 109) (by decide +kernel), List.mem_of_getElem? (i := 110) (by decide +kernel)⟩
theorem lw_p5 : lw_okq (⟨"Ninewheel", "isProductSound", "(I)Z"⟩, 9) := ⟨⟨by decide +kernel, by decide +kernel⟩, List.mem_of_getElem? (i := 23) (by decide +kernel), List.mem_of_getElem? (i := 119) (by decide +kernel), List.mem_of_getElem? (i := 120) (by decide +kernel)⟩
theorem lw_p6 : lw_okq (⟨"Ninewheel", "workOutProduct", "(I)V"⟩, 9) := ⟨⟨by decide +kernel, by decide +kernel⟩, List.mem_of_getElem? (i := 23) (by decide +kernel), List.mem_of_getElem? (i := 123) (by decide +kernel), List.mem_of_getElem? (i := 124) (by decide +kernel)⟩
theorem lw_p7 : lw_okq (⟨"Ninewheel$LongNumber", "clear", "()V"⟩, 1) := ⟨⟨by decide +kernel, by decide +kernel⟩, List.mem_of_getElem? (i := 31) (by decide +kernel), List.mem_of_getElem? (i := 127) (by decide +kernel), List.mem_of_getElem? (i := 128) (by decide +kernel)⟩
theorem lw_p8 : lw_okq (⟨"Ninewheel$LongNumber", "raise", "(II)V"⟩, 1) := ⟨⟨by decide +kernel, by decide +kernel⟩, List.mem_of_getElem? (i := 31) (by decide +kernel), List.mem_of_getElem? (i := 134) (by decide +kernel), List.mem_of_getElem? (i := 135) (by decide +kernel)⟩
theorem lw_p9 : lw_okq (⟨"Ninewheel$LongNumber", "carry", "()V"⟩, 1) := ⟨⟨by decide +kernel, by decide +kernel⟩, List.mem_of_getElem? (i := 31) (by decide +kernel), List.mem_of_getElem? (i := 138) (by decide +kernel), List.mem_of_getElem? (i := 139) (by decide +kernel)⟩
theorem lw_p10 : lw_okq (⟨"Ninewheel$LongNumber", "becomeNines", "(II)V"⟩, 1) := ⟨⟨by decide +kernel, by decide +kernel⟩, List.mem_of_getElem? (i := 31) (by decide +kernel), List.mem_of_getElem? (i := 142) (by decide +kernel), List.mem_of_getElem? (i := 143) (by decide +kernel)⟩
theorem lw_p11 : lw_okq (⟨"Ninewheel$LongNumber", "isLike", "(LNinewheel$LongNumber;)Z"⟩, 1) := ⟨⟨by decide +kernel, by decide +kernel⟩, List.mem_of_getElem? (i := 31) (by decide +kernel), List.mem_of_getElem? (i := 149) (by decide +kernel), List.mem_of_getElem? (i := 150) (by decide +kernel)⟩
theorem lw_p12 : lw_okq (⟨"Ninewheel", "isCutSound", "(I)Z"⟩, 9) := ⟨⟨by decide +kernel, by decide +kernel⟩, List.mem_of_getElem? (i := 23) (by decide +kernel), List.mem_of_getElem? (i := 153) (by decide +kernel), List.mem_of_getElem? (i := 154) (by decide +kernel)⟩
theorem lw_p13 : lw_okq (⟨"Ninewheel", "cutCount", "(IZII)J"⟩, 9) := ⟨⟨by decide +kernel, by decide +kernel⟩, List.mem_of_getElem? (i := 23) (by decide +kernel), List.mem_of_getElem? (i := 157) (by decide +kernel), List.mem_of_getElem? (i := 158) (by decide +kernel)⟩
theorem lw_p14 : lw_okq (⟨"Ninewheel", "digestOfCells", "(J)J"⟩, 9) := ⟨⟨by decide +kernel, by decide +kernel⟩, List.mem_of_getElem? (i := 23) (by decide +kernel), List.mem_of_getElem? (i := 177) (by decide +kernel), List.mem_of_getElem? (i := 178) (by decide +kernel)⟩
theorem lw_p15 : lw_okq (⟨"Ninewheel", "digestOfWheels", "(J)J"⟩, 9) := ⟨⟨by decide +kernel, by decide +kernel⟩, List.mem_of_getElem? (i := 23) (by decide +kernel), List.mem_of_getElem? (i := 188) (by decide +kernel), List.mem_of_getElem? (i := 189) (by decide +kernel)⟩
def lw_privs_1 : List (MethodName × Nat) := [(⟨"Ninewheel", "isCellSoundWithAll", "(I)Z"⟩, 9), (⟨"Ninewheel", "countAt", "(II)J"⟩, 9), (⟨"Ninewheel", "orderOfCells", "(II)I"⟩, 9), (⟨"Ninewheel", "areSame", "(II)Z"⟩, 9), (⟨"Ninewheel", "isLengthSound", "(I)Z"⟩, 9), (⟨"Ninewheel", "isProductSound", "(I)Z"⟩, 9), (⟨"Ninewheel", "workOutProduct", "(I)V"⟩, 9), (⟨"Ninewheel$LongNumber", "clear", "()V"⟩, 1), (⟨"Ninewheel$LongNumber", "raise", "(II)V"⟩, 1), (⟨"Ninewheel$LongNumber", "carry", "()V"⟩, 1), (⟨"Ninewheel$LongNumber", "becomeNines", "(II)V"⟩, 1), (⟨"Ninewheel$LongNumber", "isLike", "(LNinewheel$LongNumber;)Z"⟩, 1), (⟨"Ninewheel", "isCutSound", "(I)Z"⟩, 9), (⟨"Ninewheel", "cutCount", "(IZII)J"⟩, 9), (⟨"Ninewheel", "digestOfCells", "(J)J"⟩, 9), (⟨"Ninewheel", "digestOfWheels", "(J)J"⟩, 9)]
theorem lw_r1 : ∀ q ∈ lw_privs_1, lw_okq q := List.forall_mem_cons.mpr ⟨lw_p0, List.forall_mem_cons.mpr ⟨lw_p1, List.forall_mem_cons.mpr ⟨lw_p2, List.forall_mem_cons.mpr ⟨lw_p3, List.forall_mem_cons.mpr ⟨lw_p4, List.forall_mem_cons.mpr ⟨lw_p5, List.forall_mem_cons.mpr ⟨lw_p6, List.forall_mem_cons.mpr ⟨lw_p7, List.forall_mem_cons.mpr ⟨lw_p8, List.forall_mem_cons.mpr ⟨lw_p9, List.forall_mem_cons.mpr ⟨lw_p10, List.forall_mem_cons.mpr ⟨lw_p11, List.forall_mem_cons.mpr ⟨lw_p12, List.forall_mem_cons.mpr ⟨lw_p13, List.forall_mem_cons.mpr ⟨lw_p14, List.forall_mem_cons.mpr ⟨lw_p15, fun _ h => absurd h List.not_mem_nil⟩⟩⟩⟩⟩⟩⟩⟩⟩⟩⟩⟩⟩⟩⟩⟩
theorem lw_p16 : lw_okq (⟨"Ninewheel", "digestOfWheel", "(IJ)J"⟩, 9) := ⟨⟨by decide +kernel, by decide +kernel⟩, List.mem_of_getElem? (i := 23) (by decide +kernel), List.mem_of_getElem? (i := 192) (by decide +kernel), List.mem_of_getElem? (i := 193) (by decide +kernel)⟩
theorem lw_p17 : lw_okq (⟨"Ninewheel", "spokeOf", "(II)I"⟩, 9) := ⟨⟨by decide +kernel, by decide +kernel⟩, List.mem_of_getElem? (i := 23) (by decide +kernel), List.mem_of_getElem? (i := 196) (by decide +kernel), List.mem_of_getElem? (i := 197) (by decide +kernel)⟩
theorem lw_p18 : lw_okq (⟨"Ninewheel", "restOfPlace", "(II)I"⟩, 9) := ⟨⟨by decide +kernel, by decide +kernel⟩, List.mem_of_getElem? (i := 23) (by decide +kernel), List.mem_of_getElem? (i := 200) (by decide +kernel), List.mem_of_getElem? (i := 201) (by decide +kernel)⟩
theorem lw_p19 : lw_okq (⟨"Ninewheel", "ninesOf", "(II)I"⟩, 9) := ⟨⟨by decide +kernel, by decide +kernel⟩, List.mem_of_getElem? (i := 23) (by decide +kernel), List.mem_of_getElem? (i := 204) (by decide +kernel), List.mem_of_getElem? (i := 205) (by decide +kernel)⟩
theorem lw_p20 : lw_okq (⟨"Ninewheel", "hasParts", "(II)Z"⟩, 9) := ⟨⟨by decide +kernel, by decide +kernel⟩, List.mem_of_getElem? (i := 23) (by decide +kernel), List.mem_of_getElem? (i := 208) (by decide +kernel), List.mem_of_getElem? (i := 209) (by decide +kernel)⟩
theorem lw_p21 : lw_okq (⟨"Ninewheel", "partLength", "(II)I"⟩, 9) := ⟨⟨by decide +kernel, by decide +kernel⟩, List.mem_of_getElem? (i := 23) (by decide +kernel), List.mem_of_getElem? (i := 212) (by decide +kernel), List.mem_of_getElem? (i := 213) (by decide +kernel)⟩
theorem lw_p22 : lw_okq (⟨"Ninewheel", "workOutPartSum", "(II)V"⟩, 9) := ⟨⟨by decide +kernel, by decide +kernel⟩, List.mem_of_getElem? (i := 23) (by decide +kernel), List.mem_of_getElem? (i := 216) (by decide +kernel), List.mem_of_getElem? (i := 217) (by decide +kernel)⟩
theorem lw_p23 : lw_okq (⟨"Ninewheel", "orderAgainst", "(II)I"⟩, 9) := ⟨⟨by decide +kernel, by decide +kernel⟩, List.mem_of_getElem? (i := 23) (by decide +kernel), List.mem_of_getElem? (i := 220) (by decide +kernel), List.mem_of_getElem? (i := 221) (by decide +kernel)⟩
theorem lw_p24 : lw_okq (⟨"Ninewheel", "orderOfWheels", "(II)I"⟩, 9) := ⟨⟨by decide +kernel, by decide +kernel⟩, List.mem_of_getElem? (i := 23) (by decide +kernel), List.mem_of_getElem? (i := 224) (by decide +kernel), List.mem_of_getElem? (i := 225) (by decide +kernel)⟩
theorem lw_p25 : lw_okq (⟨"java/lang/Throwable", "fillInStackTrace", "(I)Ljava/lang/Throwable;"⟩, 6) := ⟨⟨by decide +kernel, by decide +kernel⟩, List.mem_of_getElem? (i := 291) (by decide +kernel), List.mem_of_getElem? (i := 289) (by decide +kernel), List.mem_of_getElem? (i := 290) (by decide +kernel)⟩
theorem lw_p26 : lw_okq (⟨"Ninewheel", "bring", "(IJI)I"⟩, 9) := ⟨⟨by decide +kernel, by decide +kernel⟩, List.mem_of_getElem? (i := 23) (by decide +kernel), List.mem_of_getElem? (i := 341) (by decide +kernel), List.mem_of_getElem? (i := 342) (by decide +kernel)⟩
theorem lw_p27 : lw_okq (⟨"Ninewheel", "decline", "()I"⟩, 9) := ⟨⟨by decide +kernel, by decide +kernel⟩, List.mem_of_getElem? (i := 23) (by decide +kernel), List.mem_of_getElem? (i := 345) (by decide +kernel), List.mem_of_getElem? (i := 346) (by decide +kernel)⟩
theorem lw_p28 : lw_okq (⟨"Ninewheel", "bringAt", "(IJI)I"⟩, 9) := ⟨⟨by decide +kernel, by decide +kernel⟩, List.mem_of_getElem? (i := 23) (by decide +kernel), List.mem_of_getElem? (i := 464) (by decide +kernel), List.mem_of_getElem? (i := 465) (by decide +kernel)⟩
theorem lw_p29 : lw_okq (⟨"Ninewheel", "bringWheel", "(III)V"⟩, 9) := ⟨⟨by decide +kernel, by decide +kernel⟩, List.mem_of_getElem? (i := 23) (by decide +kernel), List.mem_of_getElem? (i := 860) (by decide +kernel), List.mem_of_getElem? (i := 861) (by decide +kernel)⟩
theorem lw_p30 : lw_okq (⟨"Ninewheel", "turnBy", "(II)V"⟩, 9) := ⟨⟨by decide +kernel, by decide +kernel⟩, List.mem_of_getElem? (i := 23) (by decide +kernel), List.mem_of_getElem? (i := 874) (by decide +kernel), List.mem_of_getElem? (i := 875) (by decide +kernel)⟩
theorem lw_p31 : lw_okq (⟨"Ninewheel", "digitText", "(III)Ljava/lang/String;"⟩, 9) := ⟨⟨by decide +kernel, by decide +kernel⟩, List.mem_of_getElem? (i := 23) (by decide +kernel), List.mem_of_getElem? (i := 930) (by decide +kernel), List.mem_of_getElem? (i := 931) (by decide +kernel)⟩
def lw_privs_2 : List (MethodName × Nat) := [(⟨"Ninewheel", "digestOfWheel", "(IJ)J"⟩, 9), (⟨"Ninewheel", "spokeOf", "(II)I"⟩, 9), (⟨"Ninewheel", "restOfPlace", "(II)I"⟩, 9), (⟨"Ninewheel", "ninesOf", "(II)I"⟩, 9), (⟨"Ninewheel", "hasParts", "(II)Z"⟩, 9), (⟨"Ninewheel", "partLength", "(II)I"⟩, 9), (⟨"Ninewheel", "workOutPartSum", "(II)V"⟩, 9), (⟨"Ninewheel", "orderAgainst", "(II)I"⟩, 9), (⟨"Ninewheel", "orderOfWheels", "(II)I"⟩, 9), (⟨"java/lang/Throwable", "fillInStackTrace", "(I)Ljava/lang/Throwable;"⟩, 6), (⟨"Ninewheel", "bring", "(IJI)I"⟩, 9), (⟨"Ninewheel", "decline", "()I"⟩, 9), (⟨"Ninewheel", "bringAt", "(IJI)I"⟩, 9), (⟨"Ninewheel", "bringWheel", "(III)V"⟩, 9), (⟨"Ninewheel", "turnBy", "(II)V"⟩, 9), (⟨"Ninewheel", "digitText", "(III)Ljava/lang/String;"⟩, 9)]
theorem lw_r2 : ∀ q ∈ lw_privs_2, lw_okq q := List.forall_mem_cons.mpr ⟨lw_p16, List.forall_mem_cons.mpr ⟨lw_p17, List.forall_mem_cons.mpr ⟨lw_p18, List.forall_mem_cons.mpr ⟨lw_p19, List.forall_mem_cons.mpr ⟨lw_p20, List.forall_mem_cons.mpr ⟨lw_p21, List.forall_mem_cons.mpr ⟨lw_p22, List.forall_mem_cons.mpr ⟨lw_p23, List.forall_mem_cons.mpr ⟨lw_p24, List.forall_mem_cons.mpr ⟨lw_p25, List.forall_mem_cons.mpr ⟨lw_p26, List.forall_mem_cons.mpr ⟨lw_p27, List.forall_mem_cons.mpr ⟨lw_p28, List.forall_mem_cons.mpr ⟨lw_p29, List.forall_mem_cons.mpr ⟨lw_p30, List.forall_mem_cons.mpr ⟨lw_p31, fun _ h => absurd h List.not_mem_nil⟩⟩⟩⟩⟩⟩⟩⟩⟩⟩⟩⟩⟩⟩⟩⟩
theorem lw_p32 : lw_okq (⟨"Ninewheel$LongNumber", "written", "()Ljava/lang/String;"⟩, 1) := ⟨⟨by decide +kernel, by decide +kernel⟩, List.mem_of_getElem? (i := 31) (by decide +kernel), List.mem_of_getElem? (i := 956) (by decide +kernel), List.mem_of_getElem? (i := 957) (by decide +kernel)⟩
theorem lw_p33 : lw_okq (⟨"NinewheelModel", "refuse", "(ZZ)Z"⟩, 7) := ⟨⟨by decide +kernel, by decide +kernel⟩, List.mem_of_getElem? (i := 1008) (by decide +kernel), List.mem_of_getElem? (i := 1052) (by decide +kernel), List.mem_of_getElem? (i := 1053) (by decide +kernel)⟩
theorem lw_p34 : lw_okq (⟨"NinewheelModel", "come", "(IJI)I"⟩, 7) := ⟨⟨by decide +kernel, by decide +kernel⟩, List.mem_of_getElem? (i := 1008) (by decide +kernel), List.mem_of_getElem? (i := 1056) (by decide +kernel), List.mem_of_getElem? (i := 1057) (by decide +kernel)⟩
theorem lw_p35 : lw_okq (⟨"NinewheelModel", "nay", "()I"⟩, 7) := ⟨⟨by decide +kernel, by decide +kernel⟩, List.mem_of_getElem? (i := 1008) (by decide +kernel), List.mem_of_getElem? (i := 1065) (by decide +kernel), List.mem_of_getElem? (i := 1066) (by decide +kernel)⟩
theorem lw_p36 : lw_okq (⟨"NinewheelModel", "areNoCells", "(III)Z"⟩, 7) := ⟨⟨by decide +kernel, by decide +kernel⟩, List.mem_of_getElem? (i := 1008) (by decide +kernel), List.mem_of_getElem? (i := 1093) (by decide +kernel), List.mem_of_getElem? (i := 1094) (by decide +kernel)⟩
theorem lw_p37 : lw_okq (⟨"NinewheelModel", "most", "(II)I"⟩, 7) := ⟨⟨by decide +kernel, by decide +kernel⟩, List.mem_of_getElem? (i := 1008) (by decide +kernel), List.mem_of_getElem? (i := 1097) (by decide +kernel), List.mem_of_getElem? (i := 1098) (by decide +kernel)⟩
theorem lw_p38 : lw_okq (⟨"NinewheelModel", "units", "(II)J"⟩, 7) := ⟨⟨by decide +kernel, by decide +kernel⟩, List.mem_of_getElem? (i := 1008) (by decide +kernel), List.mem_of_getElem? (i := 1101) (by decide +kernel), List.mem_of_getElem? (i := 1102) (by decide +kernel)⟩
theorem lw_p39 : lw_okq (⟨"NinewheelModel", "wholeOf", "(II)J"⟩, 7) := ⟨⟨by decide +kernel, by decide +kernel⟩, List.mem_of_getElem? (i := 1008) (by decide +kernel), List.mem_of_getElem? (i := 1139) (by decide +kernel), List.mem_of_getElem? (i := 1140) (by decide +kernel)⟩
theorem lw_p40 : lw_okq (⟨"NinewheelModel", "ordered", "(II)I"⟩, 7) := ⟨⟨by decide +kernel, by decide +kernel⟩, List.mem_of_getElem? (i := 1008) (by decide +kernel), List.mem_of_getElem? (i := 1170) (by decide +kernel), List.mem_of_getElem? (i := 1171) (by decide +kernel)⟩
theorem lw_p41 : lw_okq (⟨"NinewheelModel", "cutOf", "(IZII)J"⟩, 7) := ⟨⟨by decide +kernel, by decide +kernel⟩, List.mem_of_getElem? (i := 1008) (by decide +kernel), List.mem_of_getElem? (i := 1185) (by decide +kernel), List.mem_of_getElem? (i := 1186) (by decide +kernel)⟩
theorem lw_p42 : lw_okq (⟨"NinewheelModel", "areSame", "(II)Z"⟩, 7) := ⟨⟨by decide +kernel, by decide +kernel⟩, List.mem_of_getElem? (i := 1008) (by decide +kernel), List.mem_of_getElem? (i := 1228) (by decide +kernel), List.mem_of_getElem? (i := 1229) (by decide +kernel)⟩
theorem lw_p43 : lw_okq (⟨"NinewheelModel", "set", "(III)V"⟩, 7) := ⟨⟨by decide +kernel, by decide +kernel⟩, List.mem_of_getElem? (i := 1008) (by decide +kernel), List.mem_of_getElem? (i := 1239) (by decide +kernel), List.mem_of_getElem? (i := 1240) (by decide +kernel)⟩
theorem lw_p44 : lw_okq (⟨"NinewheelModel", "lengthOf", "(I)I"⟩, 7) := ⟨⟨by decide +kernel, by decide +kernel⟩, List.mem_of_getElem? (i := 1008) (by decide +kernel), List.mem_of_getElem? (i := 1243) (by decide +kernel), List.mem_of_getElem? (i := 1244) (by decide +kernel)⟩
theorem lw_p45 : lw_okq (⟨"NinewheelModel", "spokeOf", "(II)I"⟩, 7) := ⟨⟨by decide +kernel, by decide +kernel⟩, List.mem_of_getElem? (i := 1008) (by decide +kernel), List.mem_of_getElem? (i := 1269) (by decide +kernel), List.mem_of_getElem? (i := 1270) (by decide +kernel)⟩
theorem lw_p46 : lw_okq (⟨"NinewheelModel", "row", "(III)[I"⟩, 7) := ⟨⟨by decide +kernel, by decide +kernel⟩, List.mem_of_getElem? (i := 1008) (by decide +kernel), List.mem_of_getElem? (i := 1289) (by decide +kernel), List.mem_of_getElem? (i := 1290) (by decide +kernel)⟩
theorem lw_p47 : lw_okq (⟨"NinewheelModel", "timesBottom", "(I)[I"⟩, 7) := ⟨⟨by decide +kernel, by decide +kernel⟩, List.mem_of_getElem? (i := 1008) (by decide +kernel), List.mem_of_getElem? (i := 1309) (by decide +kernel), List.mem_of_getElem? (i := 1310) (by decide +kernel)⟩
def lw_privs_3 : List (MethodName × Nat) := [(⟨"Ninewheel$LongNumber", "written", "()Ljava/lang/String;"⟩, 1), (⟨"NinewheelModel", "refuse", "(ZZ)Z"⟩, 7), (⟨"NinewheelModel", "come", "(IJI)I"⟩, 7), (⟨"NinewheelModel", "nay", "()I"⟩, 7), (⟨"NinewheelModel", "areNoCells", "(III)Z"⟩, 7), (⟨"NinewheelModel", "most", "(II)I"⟩, 7), (⟨"NinewheelModel", "units", "(II)J"⟩, 7), (⟨"NinewheelModel", "wholeOf", "(II)J"⟩, 7), (⟨"NinewheelModel", "ordered", "(II)I"⟩, 7), (⟨"NinewheelModel", "cutOf", "(IZII)J"⟩, 7), (⟨"NinewheelModel", "areSame", "(II)Z"⟩, 7), (⟨"NinewheelModel", "set", "(III)V"⟩, 7), (⟨"NinewheelModel", "lengthOf", "(I)I"⟩, 7), (⟨"NinewheelModel", "spokeOf", "(II)I"⟩, 7), (⟨"NinewheelModel", "row", "(III)[I"⟩, 7), (⟨"NinewheelModel", "timesBottom", "(I)[I"⟩, 7)]
theorem lw_r3 : ∀ q ∈ lw_privs_3, lw_okq q := List.forall_mem_cons.mpr ⟨lw_p32, List.forall_mem_cons.mpr ⟨lw_p33, List.forall_mem_cons.mpr ⟨lw_p34, List.forall_mem_cons.mpr ⟨lw_p35, List.forall_mem_cons.mpr ⟨lw_p36, List.forall_mem_cons.mpr ⟨lw_p37, List.forall_mem_cons.mpr ⟨lw_p38, List.forall_mem_cons.mpr ⟨lw_p39, List.forall_mem_cons.mpr ⟨lw_p40, List.forall_mem_cons.mpr ⟨lw_p41, List.forall_mem_cons.mpr ⟨lw_p42, List.forall_mem_cons.mpr ⟨lw_p43, List.forall_mem_cons.mpr ⟨lw_p44, List.forall_mem_cons.mpr ⟨lw_p45, List.forall_mem_cons.mpr ⟨lw_p46, List.forall_mem_cons.mpr ⟨lw_p47, fun _ h => absurd h List.not_mem_nil⟩⟩⟩⟩⟩⟩⟩⟩⟩⟩⟩⟩⟩⟩⟩⟩
theorem lw_p48 : lw_okq (⟨"NinewheelModel", "sumOf", "(II)[I"⟩, 7) := ⟨⟨by decide +kernel, by decide +kernel⟩, List.mem_of_getElem? (i := 1008) (by decide +kernel), List.mem_of_getElem? (i := 1320) (by decide +kernel), List.mem_of_getElem? (i := 1321) (by decide +kernel)⟩
theorem lw_p49 : lw_okq (⟨"NinewheelModel", "ninesOf", "(II)I"⟩, 7) := ⟨⟨by decide +kernel, by decide +kernel⟩, List.mem_of_getElem? (i := 1008) (by decide +kernel), List.mem_of_getElem? (i := 1328) (by decide +kernel), List.mem_of_getElem? (i := 1329) (by decide +kernel)⟩
theorem lw_p50 : lw_okq (⟨"NinewheelModel", "wheelsOrdered", "(II)I"⟩, 7) := ⟨⟨by decide +kernel, by decide +kernel⟩, List.mem_of_getElem? (i := 1008) (by decide +kernel), List.mem_of_getElem? (i := 1343) (by decide +kernel), List.mem_of_getElem? (i := 1344) (by decide +kernel)⟩
theorem lw_p51 : lw_okq (⟨"NinewheelModel", "heldAgainst", "(II)I"⟩, 7) := ⟨⟨by decide +kernel, by decide +kernel⟩, List.mem_of_getElem? (i := 1008) (by decide +kernel), List.mem_of_getElem? (i := 1351) (by decide +kernel), List.mem_of_getElem? (i := 1352) (by decide +kernel)⟩
theorem lw_p52 : lw_okq (⟨"NinewheelModel", "isWhole", "()Z"⟩, 7) := ⟨⟨by decide +kernel, by decide +kernel⟩, List.mem_of_getElem? (i := 1008) (by decide +kernel), List.mem_of_getElem? (i := 1367) (by decide +kernel), List.mem_of_getElem? (i := 1368) (by decide +kernel)⟩
theorem lw_p53 : lw_okq (⟨"NinewheelModel", "isSoundPair", "(II)Z"⟩, 7) := ⟨⟨by decide +kernel, by decide +kernel⟩, List.mem_of_getElem? (i := 1008) (by decide +kernel), List.mem_of_getElem? (i := 1371) (by decide +kernel), List.mem_of_getElem? (i := 1372) (by decide +kernel)⟩
theorem lw_p54 : lw_okq (⟨"NinewheelModel", "isSoundWheel", "(I)Z"⟩, 7) := ⟨⟨by decide +kernel, by decide +kernel⟩, List.mem_of_getElem? (i := 1008) (by decide +kernel), List.mem_of_getElem? (i := 1375) (by decide +kernel), List.mem_of_getElem? (i := 1376) (by decide +kernel)⟩
theorem lw_p55 : lw_okq (⟨"NinewheelModel", "allNines", "(I)[I"⟩, 7) := ⟨⟨by decide +kernel, by decide +kernel⟩, List.mem_of_getElem? (i := 1008) (by decide +kernel), List.mem_of_getElem? (i := 1379) (by decide +kernel), List.mem_of_getElem? (i := 1380) (by decide +kernel)⟩
def lw_privs_4 : List (MethodName × Nat) := [(⟨"NinewheelModel", "sumOf", "(II)[I"⟩, 7), (⟨"NinewheelModel", "ninesOf", "(II)I"⟩, 7), (⟨"NinewheelModel", "wheelsOrdered", "(II)I"⟩, 7), (⟨"NinewheelModel", "heldAgainst", "(II)I"⟩, 7), (⟨"NinewheelModel", "isWhole", "()Z"⟩, 7), (⟨"NinewheelModel", "isSoundPair", "(II)Z"⟩, 7), (⟨"NinewheelModel", "isSoundWheel", "(I)Z"⟩, 7), (⟨"NinewheelModel", "allNines", "(I)[I"⟩, 7)]
theorem lw_r4 : ∀ q ∈ lw_privs_4, lw_okq q := List.forall_mem_cons.mpr ⟨lw_p48, List.forall_mem_cons.mpr ⟨lw_p49, List.forall_mem_cons.mpr ⟨lw_p50, List.forall_mem_cons.mpr ⟨lw_p51, List.forall_mem_cons.mpr ⟨lw_p52, List.forall_mem_cons.mpr ⟨lw_p53, List.forall_mem_cons.mpr ⟨lw_p54, List.forall_mem_cons.mpr ⟨lw_p55, fun _ h => absurd h List.not_mem_nil⟩⟩⟩⟩⟩⟩⟩⟩
def lw_privs : List (MethodName × Nat) := lw_privs_1 ++ (lw_privs_2 ++ (lw_privs_3 ++ (lw_privs_4)))
def lw_tbl : List Cond := k2_sels lw_privs ++ tables_1
theorem lw_privs_ok : ∀ q ∈ lw_privs, lw_okq q := by
  show ∀ q ∈ lw_privs_1 ++ (lw_privs_2 ++ (lw_privs_3 ++ (lw_privs_4))), lw_okq q
  exact List.forall_mem_append.mpr ⟨lw_r1, List.forall_mem_append.mpr ⟨lw_r2, List.forall_mem_append.mpr ⟨lw_r3, lw_r4⟩⟩⟩
-- ===== end of PART A; then your names; then what follows =====
/-! ===== BEGIN words of one list among another's, by their places ===== -/
theorem goodIn_r {big : List Cond} (ws : List Cond) (ps : List Nat) (hp : ws = ps.filterMap (fun i => big[i]?)) (h : ws.all goodWord = true) : GoodIn big ws := by
  intro w hw
  have h1 := List.all_eq_true.mp h w hw
  rw [hp] at hw
  obtain ⟨i, -, hi⟩ := List.mem_filterMap.mp hw
  have hm : w ∈ big := by first | exact List.mem_of_getElem? hi | exact List.getElem?_mem hi
  exact ⟨hm, good_of_word h1⟩
theorem goodIn_app {big a b : List Cond} (ha : GoodIn big a) (hb : GoodIn big b) : GoodIn big (a ++ b) := fun w h => (List.mem_append.mp h).elim (ha w) (hb w)
theorem goodIn_ca {big a b : List Cond} {c : Cond} (ha : GoodIn big (c :: a)) (hb : GoodIn big b) : GoodIn big (c :: (a ++ b)) := fun w h => (List.mem_cons.mp h).elim (fun e => ha w (List.mem_cons.mpr (Or.inl e))) (fun h => (List.mem_append.mp h).elim (fun h => ha w (List.mem_cons.mpr (Or.inr h))) (hb w))
theorem goodIn_sub {big ws : List Cond} (hm : ∀ w ∈ ws, w ∈ big) (h : ws.all goodWord = true) : GoodIn big ws := fun w hw => ⟨hm w hw, good_of_word (List.all_eq_true.mp h w hw)⟩
/-! ===== END ===== -/
/-! ===== BEGIN exceptions that leave a method, and their catching by the caller (launches without stack traces) ===== -/
section VXA
/-! The laws vx_back, vx_callV, vx_callS, vx_callSW, vx_throw0, vx_throwS follow proofs of the library, with one case more: JvmDerived/Free/Laws.lean (Back.of_free), Shelf42/LK1.lean (callV, callS), Shelf/KitTraced.lean (throwNew0V, throwNewS). -/
/-- where a method has thrown q: the class by its name, the cell, what was written, the world -/
def vx_T (XC : String → State → State → Prop) (st : State) (q : Addr) (t : State) (mc ms : Nat) (free : Addr → Prop) : Prop :=
  ∃ (E : String) (ce : Cell) (L : List Loc), XC E st t ∧ t.heap[q]? = some ce ∧ ce.vm = .none ∧ st.vm.findClass E = some ce.cls ∧ st.WarmedH t.vm ∧ st.sameButNew ({ t with vm := st.vm } : State) L mc ms ∧ ∀ z ∈ L, free z.base
def vx_Q (Qc : Array Value → State → Outcome → State → Prop) (XC : String → State → State → Prop) (mc ms : Nat) (free : Addr → Prop) : Array Value → State → Outcome → State → Prop := fun a st o t =>
  (Qc a st o t ∧ ∃ L, FrameEnd st o t L mc ms ∧ ∀ q ∈ L, free q.base) ∨ ∃ q, o = .threw q ∧ vx_T XC st q t mc ms free
/-- a callee that returns or throws -/
def vx_Met (l : Launch) (y : MethodName) (ws : List Cond) (rm : Room) (Pc : Array Value → State → Prop) (Qc : Array Value → State → Outcome → State → Prop) (XC : String → State → State → Prop) (mc ms : Nat) (free : Addr → Prop) : Prop :=
  MetFree l y (headSpec ws rm) Pc (fun _ _ _ _ _ => True) (vx_Q Qc XC mc ms free)
def vx_Post (XC : String → State → State → Prop) (mc ms : Nat) (free : Addr → Prop) : Pt → Array Value → Addr → Pt → Prop := fun A a q B =>
  ∃ (g : JFrame) (mk : MethodId) (t : State) (L : List Loc) (E : String) (ce : Cell), B.U.heap = t.heap ∧ B.U.vm = t.vm ∧ XC E (A.U.calling g mk a) t ∧ t.heap[q]? = some ce ∧ ce.vm = .none ∧ A.U.vm.findClass E = some ce.cls ∧ B.locs = A.locs ++ L ∧ (∀ z ∈ L, free z.base) ∧ B.cells = A.cells + mc ∧ B.slots = A.slots + ms
def vx_Back (l : Launch) (R : Room) (p : Program) (e : Env) (below : List Frame) (s : State) (sargs : Array Value) (y : MethodName) (len W9 : Nat)
    (Pre : Pt → Array Value → Prop) (Post : Pt → Array Value → Option Value → Pt → Prop) (PostX : Pt → Array Value → Addr → Pt → Prop) : Prop :=
  ∀ (m : MethodId) (meth : Method) (c : Code) (A : Pt) (g : JFrame) (ig : Instr) (mk : MethodId) (a : Array Value),
    Stand p l e R s m sargs below meth c A.U A.locs A.cells A.slots → g.method = m → g.locals.size = c.maxLocals → decode c.code g.pc = .ok (ig, len) →
    2 * g.monitorRoom + (g.stack.map fun v => v.category).sum ≤ W9 → A.U.methodNamed? y = some mk → Pre A a →
    (∃ (v : Option Value) (B : Pt), Stand p l e R s m sargs below meth c B.U B.locs B.cells B.slots ∧ Post A a v B ∧
      Steps p.tables e below (doInvoke e (A.U.setTop g) [] mk a).1 (B.U.setTop { g with pc := g.pc + len, stack := v.toList ++ g.stack })) ∨
    (∃ (q : Addr) (B : Pt), Stand p l e R s m sargs below meth c B.U B.locs B.cells B.slots ∧ PostX A a q B ∧
      Steps p.tables e below (doInvoke e (A.U.setTop g) [] mk a).1 ((B.U.setTop g).pushFrame (.throwing q)))
section Payer
variable {l : Launch} {R : Room} {p : Program} {e : Env} {below : List Frame} {s : State} {sargs : Array Value} {y : MethodName} {len W9 : Nat}
theorem vx_back {ws : List Cond} {rm : Room} {Pc : Array Value → State → Prop} {Qc : Array Value → State → Outcome → State → Prop} {XC : String → State → State → Prop} {mc ms : Nat} {free : Addr → Prop} {bytes : ByteArray} {maxL : Nat} {ret : Option FieldType}
    (hM : vx_Met l y ws rm Pc Qc XC mc ms free) (hblind : FrameBlind Pc) (hrc : rm.cells = mc) (hrs : rm.slots = ms)
    (hframes : rm.frames + 1 ≤ R.frames) (hlocals : W9 + (maxL + 11) + rm.locals ≤ R.locals)
    (hws : ∀ w ∈ ws, ∀ a' U, s.WarmedH U.vm → w.before a' U = true) (hcode : Cond.code y bytes maxL ret ∈ ws) (hinit : ∀ a' U, s.WarmedH U.vm → (Cond.initialized y.cls).before a' U = true) :
    vx_Back l R p e below s sargs y len W9 (PreOf R mc ms Pc) (PostOf Qc mc ms free) (vx_Post XC mc ms free) := by
  intro m meth c A g ig mk a X hg hsize hdg hW hn hp
  have h1 : (headSpec ws rm).pre.before a A.U = true := atoms_intro fun w hw => hws w hw _ _ X.warmed
  have h2 : (Cond.code y bytes maxL ret).before a A.U = true := hws _ hcode _ _ X.warmed
  have h3 : (Cond.initialized y.cls).before a A.U = true := hinit _ _ X.warmed
  have h4 : A.cells + (headSpec ws rm).room.cells ≤ R.cells := by rw [show (headSpec ws rm).room.cells = mc from hrc]; exact hp.1
  have h5 : A.slots + (headSpec ws rm).room.slots ≤ R.slots := by rw [show (headSpec ws rm).room.slots = ms from hrs]; exact hp.2.1
  have hPc : Pc a (A.U.calling g mk a) := hblind _ _ _ _ hp.2.2
  obtain ⟨U, Ls, c0, s0⟩ := A
  dsimp only [Pt.U, Pt.locs, Pt.cells, Pt.slots] at h1 h2 h3 h4 h5 X hn hPc ⊢
  obtain ⟨methY, cY, hmY, hcY, -, hlY, -, -, -, -⟩ := Cond.code_spec hn h2
  obtain ⟨kY, hkY, -⟩ := className_of_methodNamed hn
  have hinitY : kY.init = .initialized := Cond.initialized_spec (findClass_of_methodNamed hn) hkY h3
  have h : At U g.method c below := by rw [hg]; exact X.here
  have hlocals9 : W9 + (maxL + 11) + (headSpec ws rm).room.locals ≤ R.locals := hlocals
  have happ : (headSpec ws rm).appliesLoose y e.platform (U.calling g mk a) = true :=
    Spec.appliesLoose_calling (g := g) h hdg hn hkY hinitY
      (X.room_calling (g := g) (R' := (headSpec ws rm).room) hsize hmY hcY hframes (by rw [hlY]; omega) h4 h5) h1
  obtain ⟨mid, hmid⟩ := h.above
  have hfr : (U.setTop g).frames = (.java g :: mid) ++ below := by rw [State.frames_setTop' g h.top, hmid]; rfl
  obtain ⟨o, s₂, hsteps, -, hend, hq⟩ := Steps.callFree hM p X.admits X.cas X.clock (acts := []) hfr happ hPc trivial
  have hq' : vx_Q Qc XC mc ms free a (U.calling g mk a) o s₂ := hq
  rw [State.frames_setTop' g h.top] at hend
  obtain ⟨g₀, hg0⟩ := Option.isSome_iff_exists.mp h.top
  obtain ⟨r, hr⟩ := State.topJava?_eq_some.mp hg0
  have hr' : (({ U with heap := s₂.heap, slotsUsed := s₂.slotsUsed } : State).setVm s₂.vm).frames = .java g₀ :: r := hr
  rcases hq' with ⟨hqc, L, hfe, hL⟩ | ⟨q, rfl, E, ce, L, hx, hce, hcv, hcl, hW₂, hsm, hL⟩
  · obtain ⟨⟨v, rfl⟩, hW₂, e2, q2, q3, q4, q5, q6⟩ := id hfe
    have e3 : s₂ = ({ (U.calling g mk a).setFrames s₂.frames with heap := s₂.heap, slotsUsed := s₂.slotsUsed } : State).setVm s₂.vm := by
      have : s₂ = ({ s₂ with vm := (U.calling g mk a).vm } : State).setVm s₂.vm := rfl
      rw [e2] at this
      exact this
    obtain ⟨c₂, i₂, len₂, hc₂, hd₂, hf₂⟩ := hend
    have hW' : U.WarmedH s₂.vm := hW₂
    have hcc : c₂ = c := by
      have h1 : s₂.code? g.method = U.code? g.method := by
        rw [State.code?_eq, State.code?_eq, hW'.alike.method?]
      exact Option.some.inj (hc₂.symm.trans (h1.trans h.code))
    subst hcc
    have hlen : len₂ = len := by rw [hdg] at hd₂; cases hd₂; rfl
    subst hlen
    have hs₂ : s₂ = (({ U with heap := s₂.heap, slotsUsed := s₂.slotsUsed } : State).setVm s₂.vm).setTop { g with pc := g.pc + len₂, stack := v.toList ++ g.stack } := by
      refine e3.trans ?_
      rw [hf₂, State.calling_eq h.top, State.setFrames_setFrames, State.setTop_of_frames _ hr', hr]
      rfl
    have hsame : U.sameButNew ({ U with heap := s₂.heap, slotsUsed := s₂.slotsUsed } : State) L mc ms := by
      refine ⟨?_, q2, q3, q4, q5, q6⟩
      obtain ⟨t, ht, -⟩ := State.frames_cons hr
      show ({ U with heap := s₂.heap, slotsUsed := s₂.slotsUsed } : State) = { U.setFrames U.frames with heap := s₂.heap, slotsUsed := s₂.slotsUsed }
      rw [State.setFrames_self ht]
    subst hg
    refine Or.inl ⟨v, ⟨(({ U with heap := s₂.heap, slotsUsed := s₂.slotsUsed } : State).setVm s₂.vm), Ls ++ L, c0 + mc, s0 + ms⟩,
      ⟨X.admits, X.cas, X.clock, X.frames, X.room, X.hears, X.method, X.code, (X.here.setHeapUsed s₂.heap s₂.slotsUsed).setVm hW'.alike, X.tail, State.WarmedH.trans X.warmed hW', X.limits, X.bytes, X.same.trans (hsame.setVm s.vm)⟩,
      ⟨g, mk, s₂, L, rfl, rfl, hqc, rfl, hL, rfl, rfl⟩, ?_⟩
    show Steps p.tables e below _ ((({ U with heap := s₂.heap, slotsUsed := s₂.slotsUsed } : State).setVm s₂.vm).setTop { g with pc := g.pc + len₂, stack := v.toList ++ g.stack })
    rw [← hs₂]
    exact hsteps
  · obtain ⟨e2, q2, q3, q4, q5, q6⟩ := id hsm
    have e3 : s₂ = ({ (U.calling g mk a).setFrames s₂.frames with heap := s₂.heap, slotsUsed := s₂.slotsUsed } : State).setVm s₂.vm := by
      have : s₂ = ({ s₂ with vm := (U.calling g mk a).vm } : State).setVm s₂.vm := rfl
      rw [e2] at this
      exact this
    have hf₂ : s₂.frames = .throwing q :: .java g :: U.frames.tail := hend
    have hW' : U.WarmedH s₂.vm := hW₂
    have hs₂ : s₂ = ((({ U with heap := s₂.heap, slotsUsed := s₂.slotsUsed } : State).setVm s₂.vm).setTop g).pushFrame (.throwing q) := by
      refine e3.trans ?_
      rw [hf₂, State.calling_eq h.top, State.setFrames_setFrames, State.pushFrame, State.frames_setTop _ hr', State.setTop_of_frames _ hr', State.setFrames_setFrames, hr]
      rfl
    have hsame : U.sameButNew ({ U with heap := s₂.heap, slotsUsed := s₂.slotsUsed } : State) L mc ms := by
      refine ⟨?_, q2, q3, q4, q5, q6⟩
      obtain ⟨t, ht, -⟩ := State.frames_cons hr
      show ({ U with heap := s₂.heap, slotsUsed := s₂.slotsUsed } : State) = { U.setFrames U.frames with heap := s₂.heap, slotsUsed := s₂.slotsUsed }
      rw [State.setFrames_self ht]
    subst hg
    refine Or.inr ⟨q, ⟨(({ U with heap := s₂.heap, slotsUsed := s₂.slotsUsed } : State).setVm s₂.vm), Ls ++ L, c0 + mc, s0 + ms⟩,
      ⟨X.admits, X.cas, X.clock, X.frames, X.room, X.hears, X.method, X.code, (X.here.setHeapUsed s₂.heap s₂.slotsUsed).setVm hW'.alike, X.tail, State.WarmedH.trans X.warmed hW', X.limits, X.bytes, X.same.trans (hsame.setVm s.vm)⟩,
      ⟨g, mk, s₂, L, E, ce, rfl, rfl, hx, hce, hcv, hcl, rfl, hL, rfl, rfl⟩, ?_⟩
    show Steps p.tables e below _ (((({ U with heap := s₂.heap, slotsUsed := s₂.slotsUsed } : State).setVm s₂.vm).setTop g).pushFrame (.throwing q))
    rw [← hs₂]
    exact hsteps
end Payer
section Calls
variable {p : Program} {l : Launch} {e : Env} {R : Room} {s : State} {m : MethodId} {args : Array Value} {below : List Frame} {meth : Method} {c : Code} {T : State} {locs : List Loc} {cells slots : Nat}
theorem vx_callV (X : Stand p l e R s m args below meth c T locs cells slots) (hexec : p.tables.exec = Jvm.exec) {own C : String} {index : Nat} {y : MethodName} {bytes : ByteArray} {maxL : Nat} {ret : Option FieldType}
    (hown : s.vm.findClass own = some m.cls) (hlink : (Cond.methodLink own index y).before args s = true) (hinst : (Cond.instanceMethod y).before args s = true) (hsel : (Cond.selects C y y).before args s = true)
    (hcode : (Cond.code y bytes maxL ret).before args s = true) (hy : y.cls ≠ "java/lang/invoke/MethodHandle" ∧ y.cls ≠ "java/lang/invoke/VarHandle")
    {W9 : Nat} {Pre : Pt → Array Value → Prop} {Post : Pt → Array Value → Option Value → Pt → Prop} {PostX : Pt → Array Value → Addr → Pt → Prop} (hK : vx_Back l R p e below s args y 3 W9 Pre Post PostX)
    {b : Addr} {cellB : Cell} (hcell : T.heap[b]? = some cellB) (hobj : cellB.vm.isStatics = false) (hcls : s.vm.findClass C = some cellB.cls)
    {g : JFrame} (hg : g.method = m) (hsize : g.locals.size = c.maxLocals) {argsL rest : List Value} (hlen : ∀ sig, parseMethodDescriptor y.desc = some sig → argsL.length = sig.parameters.length)
    (hstack : g.stack = argsL.reverse ++ .ref b :: rest) (hW : 2 * g.monitorRoom + (rest.map fun v => v.category).sum ≤ W9) (hdg : decode c.code g.pc = .ok (.invokevirtual index, 3))
    (hpre : ∀ vm₁, s.WarmedH vm₁ → Pre ⟨T.setVm vm₁, locs, cells, slots⟩ (Value.ref b :: argsL).toArray) :
    (∃ (v : Option Value) (vm₁ : Vm) (B : Pt), s.WarmedH vm₁ ∧ Stand p l e R s m args below meth c B.U B.locs B.cells B.slots ∧ Post ⟨T.setVm vm₁, locs, cells, slots⟩ (Value.ref b :: argsL).toArray v B ∧
      ∀ target, Steps p.tables e below (B.U.setTop { g with pc := g.pc + 3, stack := v.toList ++ rest }) target → Steps p.tables e below (T.setTop g) target) ∨
    (∃ (q : Addr) (vm₁ : Vm) (B : Pt), s.WarmedH vm₁ ∧ Stand p l e R s m args below meth c B.U B.locs B.cells B.slots ∧ PostX ⟨T.setVm vm₁, locs, cells, slots⟩ (Value.ref b :: argsL).toArray q B ∧
      Steps p.tables e below (T.setTop g) ((B.U.setTop { g with stack := rest }).pushFrame (.throwing q))) := by
  obtain ⟨mk, methM, hnamed, hmethM, hstM, habM⟩ := Cond.instanceMethod_spec hinst
  obtain ⟨methM', cM, hmethM', -, -, -, -, -, -, hsigM⟩ := Cond.code_spec hnamed hcode
  cases hmethM.symm.trans hmethM'
  obtain ⟨c2, r2, m2, q1, q2, q3, q4, kP, hkP, hkPi⟩ := Cond.selects_spec hsel
  cases hcls.symm.trans q1
  cases (State.methodFound?_of_named hnamed hy).symm.trans q2
  cases hnamed.symm.trans q3
  have hselP : selectMethod e.platform s.vm cellB.cls mk = .method mk := by rw [Launch.admits_selectMethod X.admits]; exact q4
  obtain ⟨vm₁, X₁, hstep₁⟩ := X.invokevirtual hexec hown hlink hnamed hmethM hstM hkP hkPi hy (a := b) (cell := cellB) hcell
    (fun z h => by rw [h] at hobj; cases hobj) hselP hmethM habM hkP hkPi (g := g) hg (argsL := argsL) (rest := rest) (hlen _ hsigM) hstack hdg
  rcases hK m meth c ⟨T.setVm vm₁, locs, cells, slots⟩ { g with stack := rest } (.invokevirtual index) mk (Value.ref b :: argsL).toArray X₁ hg hsize hdg hW (X₁.named hnamed) (hpre vm₁ X₁.warmed) with ⟨v, B, X', hpost, hsteps⟩ | ⟨q, B, X', hpost, hsteps⟩
  · exact Or.inl ⟨v, vm₁, B, X₁.warmed, X', hpost, fun target h => hstep₁ _ fun acts => by rw [doInvoke_state]; exact hsteps.trans h⟩
  · exact Or.inr ⟨q, vm₁, B, X₁.warmed, X', hpost, hstep₁ _ fun acts => by rw [doInvoke_state]; exact hsteps⟩
theorem vx_callS (X : Stand p l e R s m args below meth c T locs cells slots) (hexec : p.tables.exec = Jvm.exec) {own : String} {index : Nat} {y : MethodName} {bytes : ByteArray} {maxL : Nat} {ret : Option FieldType}
    (hown : s.vm.findClass own = some m.cls) (hlink : (Cond.methodLink own index y).before args s = true) (hstat : (Cond.static y).before args s = true) (hinit : (Cond.initialized y.cls).before args s = true)
    (hcode : (Cond.code y bytes maxL ret).before args s = true) (hy : y.cls ≠ "java/lang/invoke/MethodHandle" ∧ y.cls ≠ "java/lang/invoke/VarHandle")
    {W9 : Nat} {Pre : Pt → Array Value → Prop} {Post : Pt → Array Value → Option Value → Pt → Prop} {PostX : Pt → Array Value → Addr → Pt → Prop} (hK : vx_Back l R p e below s args y 3 W9 Pre Post PostX)
    {g : JFrame} (hg : g.method = m) (hsize : g.locals.size = c.maxLocals) {argsL rest : List Value} (hlen : ∀ sig, parseMethodDescriptor y.desc = some sig → argsL.length = sig.parameters.length)
    (hstack : g.stack = argsL.reverse ++ rest) (hW : 2 * g.monitorRoom + (rest.map fun v => v.category).sum ≤ W9) (hdg : decode c.code g.pc = .ok (.invokestatic index, 3))
    (hpre : ∀ vm₁, s.WarmedH vm₁ → Pre ⟨T.setVm vm₁, locs, cells, slots⟩ argsL.toArray) :
    (∃ (v : Option Value) (vm₁ : Vm) (B : Pt), s.WarmedH vm₁ ∧ Stand p l e R s m args below meth c B.U B.locs B.cells B.slots ∧ Post ⟨T.setVm vm₁, locs, cells, slots⟩ argsL.toArray v B ∧
      ∀ target, Steps p.tables e below (B.U.setTop { g with pc := g.pc + 3, stack := v.toList ++ rest }) target → Steps p.tables e below (T.setTop g) target) ∨
    (∃ (q : Addr) (vm₁ : Vm) (B : Pt), s.WarmedH vm₁ ∧ Stand p l e R s m args below meth c B.U B.locs B.cells B.slots ∧ PostX ⟨T.setVm vm₁, locs, cells, slots⟩ argsL.toArray q B ∧
      Steps p.tables e below (T.setTop g) ((B.U.setTop { g with stack := rest }).pushFrame (.throwing q))) := by
  obtain ⟨mk, hnamed⟩ := Cond.code_named hcode
  obtain ⟨methM, cM, hmethM, -, -, -, -, -, -, hsigM⟩ := Cond.code_spec hnamed hcode
  have hstatic : methM.isStatic = true := Cond.static_spec hnamed hmethM hstat
  obtain ⟨kP, hkP, -⟩ := className_of_methodNamed hnamed
  have hinitP : kP.init = .initialized := Cond.initialized_spec (findClass_of_methodNamed hnamed) hkP hinit
  obtain ⟨vm₁, X₁, hstep₁⟩ := X.invokestatic hexec hown hlink hnamed hmethM hstatic hkP hinitP hy (g := g) hg (argsL := argsL) (rest := rest) (hlen _ hsigM) hstack hdg
  rcases hK m meth c ⟨T.setVm vm₁, locs, cells, slots⟩ { g with stack := rest } (.invokestatic index) mk argsL.toArray X₁ hg hsize hdg hW (X₁.named hnamed) (hpre vm₁ X₁.warmed) with ⟨v, B, X', hpost, hsteps⟩ | ⟨q, B, X', hpost, hsteps⟩
  · exact Or.inl ⟨v, vm₁, B, X₁.warmed, X', hpost, fun target h => hstep₁ _ fun acts => by rw [doInvoke_state]; exact hsteps.trans h⟩
  · exact Or.inr ⟨q, vm₁, B, X₁.warmed, X', hpost, hstep₁ _ fun acts => by rw [doInvoke_state]; exact hsteps⟩
end Calls
theorem vx_cls {s : State} {T : State} {vm₁ : Vm} {E : String} {k : ClassId} (hW : s.WarmedH vm₁) (h : (T.setVm vm₁).vm.findClass E = some k) : s.vm.findClass E = some k := by
  have h1 : vm₁.findClass E = some k := h
  rw [hW.alike.findClass] at h1
  exact h1
/-- the method's frame g, with q thrown over it -/
def vx_W (p : Program) (l : Launch) (e : Env) (R : Room) (s : State) (m : MethodId) (args : Array Value) (below : List Frame) (meth : Method) (c : Code) (H : Heap) (locs : List Loc) (cells slots : Nat) (Q : State → Prop) (g : JFrame) (q : Addr) : Prop :=
  ∀ T : State, T.heap = H → Stand p l e R s m args below meth c T locs cells slots → ∃ t, Steps p.tables e below ((T.setTop g).pushFrame (.throwing q)) t ∧ Q t
def vx_Run (p : Program) (l : Launch) (e : Env) (R : Room) (s : State) (m : MethodId) (args : Array Value) (below : List Frame) (meth : Method) (c : Code) (H : Heap) (locs : List Loc) (cells slots mc ms : Nat) (g : JFrame) (rest : List Value) (Qa : State → Outcome → State → Prop) (XC : String → State → State → Prop) (free : Addr → Prop) : Prop :=
  ∀ T : State, T.heap = H → Stand p l e R s m args below meth c T locs cells slots →
    (∃ (v : Option Value) (st₀ t T' : State) (L : List Loc), st₀.heap = H ∧ Stand p l e R s m args below meth c T' (locs ++ L) (cells + mc) (slots + ms) ∧ (∀ q ∈ L, free q.base) ∧ T'.heap = t.heap ∧ T'.vm = t.vm ∧ Qa st₀ (.returned v) t ∧
      Goes p e below T g T' { g with pc := g.pc + 3, stack := v.toList ++ rest }) ∨
    (∃ (q : Addr) (st₀ t T' : State) (L : List Loc) (E : String) (ce : Cell), st₀.heap = H ∧ Stand p l e R s m args below meth c T' (locs ++ L) (cells + mc) (slots + ms) ∧ (∀ z ∈ L, free z.base) ∧ T'.heap = t.heap ∧ T'.vm = t.vm ∧ XC E st₀ t ∧ t.heap[q]? = some ce ∧ ce.vm = .none ∧ s.vm.findClass E = some ce.cls ∧
      Steps p.tables e below (T.setTop g) ((T'.setTop { g with stack := rest }).pushFrame (.throwing q)))
def vx_X {S : Type} (px : S → Prop) (B : String → S → State → Prop) (A : Nat → Prop) : String → State → State → Prop := fun E st t => ∃ u : S, px u ∧ B E u t ∧ va_F A st t
section Runs
variable {p : Program} {l : Launch} {e : Env} {R : Room} {s : State} {m : MethodId} {args : Array Value} {below : List Frame} {meth : Method} {c : Code} {H : Heap} {locs : List Loc} {cells slots : Nat}
variable {y : MethodName} {bytes cc : ByteArray} {maxL nL mc ms n index : Nat} {ret : Option FieldType} {ws : List Cond} {rm : Room} {Pc : Array Value → State → Prop} {Qc : Array Value → State → Outcome → State → Prop} {XC : String → State → State → Prop} {free : Addr → Prop} {Ts : List Cond} {own C : String} {b : Addr} {As rest : List Value} {g : JFrame}
theorem vx_callBack (cb : CallB R s args own index y bytes maxL ret ws rm mc ms n) (hM : vx_Met l y ws rm Pc Qc XC mc ms free) (hbl : FrameBlind Pc) : vx_Back l R p e below s args y 3 8 (PreOf R mc ms Pc) (PostOf Qc mc ms free) (vx_Post XC mc ms free) := by
  obtain ⟨hrc, hrs, hfr, hlo, hws, hcw, -, hini, -⟩ := cb
  exact vx_back (bytes := bytes) (maxL := maxL) (ret := ret) hM hbl hrc hrs hfr hlo hws hcw (fun a' U hW => word_at hW (Or.inl (by first | rfl | simp [Cond.onTables, Cond.keeps, Cond.steady])) hini)
theorem vx_runV (S : CallFix p m c cc nL s args Ts own) (hM : vx_Met l y ws rm Pc Qc XC mc ms free) (cw : CallW R s args own C index y bytes maxL ret ws rm mc ms n) (hp : PreV s H C b Pc As)
    (hg : g.method = m) (hn : As.length = n) (hsize : g.locals.size = nL) (hstack : g.stack = As.reverse ++ .ref b :: rest) (hW : 2 * g.monitorRoom + (rest.map fun v => v.category).sum ≤ 8) (hdg : decode cc g.pc = .ok (.invokevirtual index, 3)) (hf : cells + mc ≤ R.cells ∧ slots + ms ≤ R.slots) :
    vx_Run p l e R s m args below meth c H locs cells slots mc ms g rest (Qc (Value.ref b :: As).toArray) XC free := by
  have hK : vx_Back l R p e below s args y 3 8 (PreOf R mc ms Pc) (PostOf Qc mc ms free) (vx_Post XC mc ms free) := vx_callBack cw.1 hM hp.1
  obtain ⟨⟨-, -, -, -, -, -, hcode, -, hy, hlen, hl⟩, hin, hse⟩ := cw
  obtain ⟨hx, hb, hml, ho, -⟩ := S
  obtain ⟨-, ⟨cellB, hcB, hoB, hclB⟩, hPc⟩ := hp
  intro T hT X
  rcases vx_callV X hx (C := C) (bytes := bytes) (maxL := maxL) (ret := ret) ho hl hin hse hcode hy hK (by rw [hT]; exact hcB) hoB hclB hg (hsize.trans hml.symm) (argsL := As) (rest := rest) (fun sig h => hn.trans (hlen sig h)) hstack hW (by rw [hb]; exact hdg)
    (fun vm₁ hW₁ => ⟨hf.1, hf.2, hPc (T.setVm vm₁) hT hW₁⟩) with ⟨v, vm₁, ⟨U', l2, c2, s2⟩, hW₁, X', ⟨g', mk, t, L, e1, e2, hq, h1, hL, h2, h3⟩, st⟩ | ⟨q, vm₁, ⟨U', l2, c2, s2⟩, hW₁, X', ⟨g', mk, t, L, E, ce, e1, e2, hq, hce, hcv, hcl, h1, hL, h2, h3⟩, st⟩
  · dsimp only [Pt.U, Pt.locs, Pt.cells, Pt.slots] at X' e1 e2 h1 h2 h3 st
    subst h1; subst h2; subst h3
    exact Or.inl ⟨v, (T.setVm vm₁).calling g' mk (Value.ref b :: As).toArray, t, U', L, hT, X', hL, e1, e2, hq, st⟩
  · dsimp only [Pt.U, Pt.locs, Pt.cells, Pt.slots] at X' e1 e2 h1 h2 h3 st hcl
    subst h1; subst h2; subst h3
    exact Or.inr ⟨q, (T.setVm vm₁).calling g' mk (Value.ref b :: As).toArray, t, U', L, E, ce, hT, X', hL, e1, e2, hq, hce, hcv, vx_cls hW₁ hcl, st⟩
theorem vx_runS (S : CallFix p m c cc nL s args Ts own) (hM : vx_Met l y ws rm Pc Qc XC mc ms free) (cw : CallB R s args own index y bytes maxL ret ws rm mc ms n ∧ (Cond.static y).before args s = true) (hp : PreS s H Pc As)
    (hg : g.method = m) (hn : As.length = n) (hsize : g.locals.size = nL) (hstack : g.stack = As.reverse ++ rest) (hW : 2 * g.monitorRoom + (rest.map fun v => v.category).sum ≤ 8) (hdg : decode cc g.pc = .ok (.invokestatic index, 3)) (hf : cells + mc ≤ R.cells ∧ slots + ms ≤ R.slots) :
    vx_Run p l e R s m args below meth c H locs cells slots mc ms g rest (Qc As.toArray) XC free := by
  have hK : vx_Back l R p e below s args y 3 8 (PreOf R mc ms Pc) (PostOf Qc mc ms free) (vx_Post XC mc ms free) := vx_callBack cw.1 hM hp.1
  obtain ⟨⟨-, -, -, -, -, -, hcode, hini, hy, hlen, hl⟩, hstt⟩ := cw
  obtain ⟨hx, hb, hml, ho, -⟩ := S
  intro T hT X
  rcases vx_callS X hx (bytes := bytes) (maxL := maxL) (ret := ret) ho hl hstt hini hcode hy hK hg (hsize.trans hml.symm) (argsL := As) (rest := rest) (fun sig h => hn.trans (hlen sig h)) hstack hW (by rw [hb]; exact hdg)
    (fun vm₁ hW₁ => ⟨hf.1, hf.2, hp.2 (T.setVm vm₁) hT hW₁⟩) with ⟨v, vm₁, ⟨U', l2, c2, s2⟩, hW₁, X', ⟨g', mk, t, L, e1, e2, hq, h1, hL, h2, h3⟩, st⟩ | ⟨q, vm₁, ⟨U', l2, c2, s2⟩, hW₁, X', ⟨g', mk, t, L, E, ce, e1, e2, hq, hce, hcv, hcl, h1, hL, h2, h3⟩, st⟩
  · dsimp only [Pt.U, Pt.locs, Pt.cells, Pt.slots] at X' e1 e2 h1 h2 h3 st
    subst h1; subst h2; subst h3
    exact Or.inl ⟨v, (T.setVm vm₁).calling g' mk As.toArray, t, U', L, hT, X', hL, e1, e2, hq, st⟩
  · dsimp only [Pt.U, Pt.locs, Pt.cells, Pt.slots] at X' e1 e2 h1 h2 h3 st hcl
    subst h1; subst h2; subst h3
    exact Or.inr ⟨q, (T.setVm vm₁).calling g' mk As.toArray, t, U', L, E, ce, hT, X', hL, e1, e2, hq, hce, hcv, vx_cls hW₁ hcl, st⟩
end Runs
section Rows
variable {p : Program} {l : Launch} {e : Env} {R : Room} {s : State} {m : MethodId} {args : Array Value} {below : List Frame} {meth : Method} {c : Code} {H : Heap} {locs : List Loc} {cells slots : Nat} {Q : State → Prop}
variable {mc ms : Nat} {free : Addr → Prop} {A0 A1 : Nat → Prop} {H0 : Heap} {a : Array Value} {pc : Nat} {ls : Array Slot} {st0 rest : List Value}
theorem vx_keep {st₀ t T' : State} {L : List Loc} (h0 : st₀.heap = H) (e1 : T'.heap = t.heap) (hS : va_S A0 H0 H locs) (hA : ∀ q, q < H.size → A1 q → A0 q) (hf : ∀ q, free q → A0 q) (hL : ∀ q ∈ L, free q.base) (hF : va_F A1 st₀ t) :
    H.size ≤ T'.heap.size ∧ (∀ q : Nat, q < H.size → ¬ A1 q → T'.heap[q]? = H[q]?) ∧ va_S A0 H0 T'.heap (locs ++ L) := by
  obtain ⟨hz, hk⟩ := hF
  rw [h0] at hz hk
  exact ⟨by rw [e1]; exact hz, fun q h1 h2 => by rw [e1]; exact hk q h1 h2,
    ⟨Nat.le_trans hS.1 (by rw [e1]; exact hz), fun q h1 h2 => by rw [e1, hk q (Nat.lt_of_lt_of_le h1 hS.1) (fun z => h2 (hA q (Nat.lt_of_lt_of_le h1 hS.1) z))]; exact hS.2.1 q h1 h2, fun q hq => by
      rcases List.mem_append.mp hq with h | h
      · exact hS.2.2 q h
      · exact hf _ (hL q h)⟩⟩
theorem vx_calli {S SX : Type} {post : Int32 → S → Prop} {px : SX → Prop} {B : S → State → Prop} {BX : String → SX → State → Prop} {AX : Nat → Prop} (hr : vx_Run p l e R s m args below meth c H locs cells slots mc ms (F0 m pc ls st0) rest (va_Qi post B A1 a) (vx_X px BX AX) free) (hS : va_S A0 H0 H locs) (hA : ∀ q, q < H.size → A1 q → A0 q) (hf : ∀ q, free q → A0 q) (hAX : ∀ q, q < H.size → AX q → A0 q)
    (kx : ∀ (E : String) (ce : Cell) (q9 : Addr) (u : SX) (t : State) (H1 : Heap) (locs1 : List Loc), t.heap = H1 → s.vm.Alike t.vm → px u → BX E u t → H.size ≤ H1.size → (∀ q : Nat, q < H.size → ¬ AX q → H1[q]? = H[q]?) → va_S A0 H0 H1 locs1 → H1[q9]? = some ce → ce.vm = .none → s.vm.findClass E = some ce.cls → vx_W p l e R s m args below meth c H1 locs1 (cells + mc) (slots + ms) Q (F0 m pc ls rest) q9)
    (kk : ∀ (r : Int32) (u : S) (t : State) (H1 : Heap) (locs1 : List Loc), t.heap = H1 → s.vm.Alike t.vm → post r u → B u t → H.size ≤ H1.size → (∀ q : Nat, q < H.size → ¬ A1 q → H1[q]? = H[q]?) → va_S A0 H0 H1 locs1 → W p l e R s m args below meth c H1 locs1 (cells + mc) (slots + ms) Q (F0 m (pc + 3) ls (.int r :: rest))) : W p l e R s m args below meth c H locs cells slots Q (F0 m pc ls st0) := by
  intro T hT X
  rcases hr T hT X with ⟨v, st₀, t, T', L, h0, X', hL, e1, e2, ⟨⟨r, u, hv, hp, hb⟩, hF⟩, st⟩ | ⟨q, st₀, t, T', L, E, ce, h0, X', hL, e1, e2, ⟨u, hp, hb, hF⟩, hce, hcv, hcl, st⟩
  · cases hv
    obtain ⟨k1, k2, k3⟩ := vx_keep h0 e1 hS hA hf hL hF
    obtain ⟨t2, a1, b1⟩ := kk r u t T'.heap (locs ++ L) e1.symm (by rw [← e2]; exact X'.warmed.alike) hp hb k1 k2 k3 T' rfl X'
    exact ⟨t2, st t2 a1, b1⟩
  · obtain ⟨k1, k2, k3⟩ := vx_keep h0 e1 hS hAX hf hL hF
    obtain ⟨t2, a1, b1⟩ := kx E ce q u t T'.heap (locs ++ L) e1.symm (by rw [← e2]; exact X'.warmed.alike) hp hb k1 k2 k3 (by rw [e1]; exact hce) hcv hcl T' rfl X'
    exact ⟨t2, st.trans a1, b1⟩
theorem vx_calll {S SX : Type} {post : Int64 → S → Prop} {px : SX → Prop} {B : S → State → Prop} {BX : String → SX → State → Prop} {AX : Nat → Prop} (hr : vx_Run p l e R s m args below meth c H locs cells slots mc ms (F0 m pc ls st0) rest (va_Ql post B A1 a) (vx_X px BX AX) free) (hS : va_S A0 H0 H locs) (hA : ∀ q, q < H.size → A1 q → A0 q) (hf : ∀ q, free q → A0 q) (hAX : ∀ q, q < H.size → AX q → A0 q)
    (kx : ∀ (E : String) (ce : Cell) (q9 : Addr) (u : SX) (t : State) (H1 : Heap) (locs1 : List Loc), t.heap = H1 → s.vm.Alike t.vm → px u → BX E u t → H.size ≤ H1.size → (∀ q : Nat, q < H.size → ¬ AX q → H1[q]? = H[q]?) → va_S A0 H0 H1 locs1 → H1[q9]? = some ce → ce.vm = .none → s.vm.findClass E = some ce.cls → vx_W p l e R s m args below meth c H1 locs1 (cells + mc) (slots + ms) Q (F0 m pc ls rest) q9)
    (kk : ∀ (r : Int64) (u : S) (t : State) (H1 : Heap) (locs1 : List Loc), t.heap = H1 → s.vm.Alike t.vm → post r u → B u t → H.size ≤ H1.size → (∀ q : Nat, q < H.size → ¬ A1 q → H1[q]? = H[q]?) → va_S A0 H0 H1 locs1 → W p l e R s m args below meth c H1 locs1 (cells + mc) (slots + ms) Q (F0 m (pc + 3) ls (.long r :: rest))) : W p l e R s m args below meth c H locs cells slots Q (F0 m pc ls st0) := by
  intro T hT X
  rcases hr T hT X with ⟨v, st₀, t, T', L, h0, X', hL, e1, e2, ⟨⟨r, u, hv, hp, hb⟩, hF⟩, st⟩ | ⟨q, st₀, t, T', L, E, ce, h0, X', hL, e1, e2, ⟨u, hp, hb, hF⟩, hce, hcv, hcl, st⟩
  · cases hv
    obtain ⟨k1, k2, k3⟩ := vx_keep h0 e1 hS hA hf hL hF
    obtain ⟨t2, a1, b1⟩ := kk r u t T'.heap (locs ++ L) e1.symm (by rw [← e2]; exact X'.warmed.alike) hp hb k1 k2 k3 T' rfl X'
    exact ⟨t2, st t2 a1, b1⟩
  · obtain ⟨k1, k2, k3⟩ := vx_keep h0 e1 hS hAX hf hL hF
    obtain ⟨t2, a1, b1⟩ := kx E ce q u t T'.heap (locs ++ L) e1.symm (by rw [← e2]; exact X'.warmed.alike) hp hb k1 k2 k3 (by rw [e1]; exact hce) hcv hcl T' rfl X'
    exact ⟨t2, st.trans a1, b1⟩
theorem vx_callf {S SX : Type} {post : UInt32 → S → Prop} {px : SX → Prop} {B : S → State → Prop} {BX : String → SX → State → Prop} {AX : Nat → Prop} (hr : vx_Run p l e R s m args below meth c H locs cells slots mc ms (F0 m pc ls st0) rest (va_Qf post B A1 a) (vx_X px BX AX) free) (hS : va_S A0 H0 H locs) (hA : ∀ q, q < H.size → A1 q → A0 q) (hf : ∀ q, free q → A0 q) (hAX : ∀ q, q < H.size → AX q → A0 q)
    (kx : ∀ (E : String) (ce : Cell) (q9 : Addr) (u : SX) (t : State) (H1 : Heap) (locs1 : List Loc), t.heap = H1 → s.vm.Alike t.vm → px u → BX E u t → H.size ≤ H1.size → (∀ q : Nat, q < H.size → ¬ AX q → H1[q]? = H[q]?) → va_S A0 H0 H1 locs1 → H1[q9]? = some ce → ce.vm = .none → s.vm.findClass E = some ce.cls → vx_W p l e R s m args below meth c H1 locs1 (cells + mc) (slots + ms) Q (F0 m pc ls rest) q9)
    (kk : ∀ (r : UInt32) (u : S) (t : State) (H1 : Heap) (locs1 : List Loc), t.heap = H1 → s.vm.Alike t.vm → post r u → B u t → H.size ≤ H1.size → (∀ q : Nat, q < H.size → ¬ A1 q → H1[q]? = H[q]?) → va_S A0 H0 H1 locs1 → W p l e R s m args below meth c H1 locs1 (cells + mc) (slots + ms) Q (F0 m (pc + 3) ls (.float r :: rest))) : W p l e R s m args below meth c H locs cells slots Q (F0 m pc ls st0) := by
  intro T hT X
  rcases hr T hT X with ⟨v, st₀, t, T', L, h0, X', hL, e1, e2, ⟨⟨r, u, hv, hp, hb⟩, hF⟩, st⟩ | ⟨q, st₀, t, T', L, E, ce, h0, X', hL, e1, e2, ⟨u, hp, hb, hF⟩, hce, hcv, hcl, st⟩
  · cases hv
    obtain ⟨k1, k2, k3⟩ := vx_keep h0 e1 hS hA hf hL hF
    obtain ⟨t2, a1, b1⟩ := kk r u t T'.heap (locs ++ L) e1.symm (by rw [← e2]; exact X'.warmed.alike) hp hb k1 k2 k3 T' rfl X'
    exact ⟨t2, st t2 a1, b1⟩
  · obtain ⟨k1, k2, k3⟩ := vx_keep h0 e1 hS hAX hf hL hF
    obtain ⟨t2, a1, b1⟩ := kx E ce q u t T'.heap (locs ++ L) e1.symm (by rw [← e2]; exact X'.warmed.alike) hp hb k1 k2 k3 (by rw [e1]; exact hce) hcv hcl T' rfl X'
    exact ⟨t2, st.trans a1, b1⟩
theorem vx_calld {S SX : Type} {post : UInt64 → S → Prop} {px : SX → Prop} {B : S → State → Prop} {BX : String → SX → State → Prop} {AX : Nat → Prop} (hr : vx_Run p l e R s m args below meth c H locs cells slots mc ms (F0 m pc ls st0) rest (va_Qd post B A1 a) (vx_X px BX AX) free) (hS : va_S A0 H0 H locs) (hA : ∀ q, q < H.size → A1 q → A0 q) (hf : ∀ q, free q → A0 q) (hAX : ∀ q, q < H.size → AX q → A0 q)
    (kx : ∀ (E : String) (ce : Cell) (q9 : Addr) (u : SX) (t : State) (H1 : Heap) (locs1 : List Loc), t.heap = H1 → s.vm.Alike t.vm → px u → BX E u t → H.size ≤ H1.size → (∀ q : Nat, q < H.size → ¬ AX q → H1[q]? = H[q]?) → va_S A0 H0 H1 locs1 → H1[q9]? = some ce → ce.vm = .none → s.vm.findClass E = some ce.cls → vx_W p l e R s m args below meth c H1 locs1 (cells + mc) (slots + ms) Q (F0 m pc ls rest) q9)
    (kk : ∀ (r : UInt64) (u : S) (t : State) (H1 : Heap) (locs1 : List Loc), t.heap = H1 → s.vm.Alike t.vm → post r u → B u t → H.size ≤ H1.size → (∀ q : Nat, q < H.size → ¬ A1 q → H1[q]? = H[q]?) → va_S A0 H0 H1 locs1 → W p l e R s m args below meth c H1 locs1 (cells + mc) (slots + ms) Q (F0 m (pc + 3) ls (.double r :: rest))) : W p l e R s m args below meth c H locs cells slots Q (F0 m pc ls st0) := by
  intro T hT X
  rcases hr T hT X with ⟨v, st₀, t, T', L, h0, X', hL, e1, e2, ⟨⟨r, u, hv, hp, hb⟩, hF⟩, st⟩ | ⟨q, st₀, t, T', L, E, ce, h0, X', hL, e1, e2, ⟨u, hp, hb, hF⟩, hce, hcv, hcl, st⟩
  · cases hv
    obtain ⟨k1, k2, k3⟩ := vx_keep h0 e1 hS hA hf hL hF
    obtain ⟨t2, a1, b1⟩ := kk r u t T'.heap (locs ++ L) e1.symm (by rw [← e2]; exact X'.warmed.alike) hp hb k1 k2 k3 T' rfl X'
    exact ⟨t2, st t2 a1, b1⟩
  · obtain ⟨k1, k2, k3⟩ := vx_keep h0 e1 hS hAX hf hL hF
    obtain ⟨t2, a1, b1⟩ := kx E ce q u t T'.heap (locs ++ L) e1.symm (by rw [← e2]; exact X'.warmed.alike) hp hb k1 k2 k3 (by rw [e1]; exact hce) hcv hcl T' rfl X'
    exact ⟨t2, st.trans a1, b1⟩
theorem vx_callv {S SX : Type} {post : S → Prop} {px : SX → Prop} {B : S → State → Prop} {BX : String → SX → State → Prop} {AX : Nat → Prop} (hr : vx_Run p l e R s m args below meth c H locs cells slots mc ms (F0 m pc ls st0) rest (va_Qv post B A1 a) (vx_X px BX AX) free) (hS : va_S A0 H0 H locs) (hA : ∀ q, q < H.size → A1 q → A0 q) (hf : ∀ q, free q → A0 q) (hAX : ∀ q, q < H.size → AX q → A0 q)
    (kx : ∀ (E : String) (ce : Cell) (q9 : Addr) (u : SX) (t : State) (H1 : Heap) (locs1 : List Loc), t.heap = H1 → s.vm.Alike t.vm → px u → BX E u t → H.size ≤ H1.size → (∀ q : Nat, q < H.size → ¬ AX q → H1[q]? = H[q]?) → va_S A0 H0 H1 locs1 → H1[q9]? = some ce → ce.vm = .none → s.vm.findClass E = some ce.cls → vx_W p l e R s m args below meth c H1 locs1 (cells + mc) (slots + ms) Q (F0 m pc ls rest) q9)
    (kk : ∀ (u : S) (t : State) (H1 : Heap) (locs1 : List Loc), t.heap = H1 → s.vm.Alike t.vm → post u → B u t → H.size ≤ H1.size → (∀ q : Nat, q < H.size → ¬ A1 q → H1[q]? = H[q]?) → va_S A0 H0 H1 locs1 → W p l e R s m args below meth c H1 locs1 (cells + mc) (slots + ms) Q (F0 m (pc + 3) ls (rest))) : W p l e R s m args below meth c H locs cells slots Q (F0 m pc ls st0) := by
  intro T hT X
  rcases hr T hT X with ⟨v, st₀, t, T', L, h0, X', hL, e1, e2, ⟨⟨u, hv, hp, hb⟩, hF⟩, st⟩ | ⟨q, st₀, t, T', L, E, ce, h0, X', hL, e1, e2, ⟨u, hp, hb, hF⟩, hce, hcv, hcl, st⟩
  · cases hv
    obtain ⟨k1, k2, k3⟩ := vx_keep h0 e1 hS hA hf hL hF
    obtain ⟨t2, a1, b1⟩ := kk u t T'.heap (locs ++ L) e1.symm (by rw [← e2]; exact X'.warmed.alike) hp hb k1 k2 k3 T' rfl X'
    exact ⟨t2, st t2 a1, b1⟩
  · obtain ⟨k1, k2, k3⟩ := vx_keep h0 e1 hS hAX hf hL hF
    obtain ⟨t2, a1, b1⟩ := kx E ce q u t T'.heap (locs ++ L) e1.symm (by rw [← e2]; exact X'.warmed.alike) hp hb k1 k2 k3 (by rw [e1]; exact hce) hcv hcl T' rfl X'
    exact ⟨t2, st.trans a1, b1⟩
/-- caught by the row x of this method's table; the rows ahead don't take it -/
theorem vx_catch {own name : String} {E : String} {ce : Cell} {q : Addr} (hown : s.vm.findClass own = some m.cls) (pre : List ExceptionTableEntry) (x : ExceptionTableEntry) (suf : List ExceptionTableEntry) (hsplit : c.exceptionTable.toList = pre ++ x :: suf)
    (hpass : ∀ z ∈ pre, covers z pc = false ∨ (z.catchType ≠ 0 ∧ ∃ nm : String, (Cond.classLink own z.catchType nm).before args s = true ∧ va_Nc E nm s)) (hx : covers x pc = true) (h0 : x.catchType ≠ 0)
    (hlink : (Cond.classLink own x.catchType name).before args s = true) (hcast : (Cond.castable E name).before args s = true) (hcell : H[q]? = some ce) (hv : ce.vm = .none) (hcl : s.vm.findClass E = some ce.cls)
    (kk : W p l e R s m args below meth c H locs cells slots Q (F0 m x.handlerPc ls [.ref q])) : vx_W p l e R s m args below meth c H locs cells slots Q (F0 m pc ls rest) q := by
  intro T hT X
  have hpl : e.platform.magicAccessors = ({} : Platform).magicAccessors := by rw [X.admits.platform]
  obtain ⟨c3, c4, hc3, hc4, hasg⟩ := Cond.castable_spec hcast
  cases Option.some.inj (hc3.symm.trans hcl)
  obtain ⟨c5, hc5, hcl5⟩ := Cond.classLink_spec hown hlink e.platform hpl
  cases Option.some.inj (hc4.symm.trans hc5)
  obtain ⟨vm', X', st⟩ := X.thenCaughtThrough q (g := F0 m pc ls rest) rfl (Steps.refl _) (by rw [hT]; exact hcell) (by rw [hv]; rfl) (by obtain ⟨k9, h9, -⟩ := Vm.findClass_spec hcl; exact ⟨k9, h9⟩) pre x suf hsplit
    (fun z hz => by
      rcases hpass z hz with h | ⟨hz0, nm, hl1, hn1⟩
      · exact Or.inl h
      · obtain ⟨c6, hc6, hcl6⟩ := Cond.classLink_spec hown hl1 e.platform hpl
        obtain ⟨a8, b8, h1, h2, h3⟩ := hn1
        cases Option.some.inj (h1.symm.trans hcl)
        cases Option.some.inj (h2.symm.trans hc6)
        exact Or.inr ⟨hz0, _, hcl6, h3⟩) hx (Or.inr ⟨h0, c4, hcl5, hasg⟩)
  obtain ⟨t, a1, b1⟩ := kk (T.setVm vm') hT X'
  exact ⟨t, st.trans a1, b1⟩
end Rows
section Ends
variable {p : Program} {l : Launch} {e : Env} {R : Room} {s : State} {m : MethodId} {args : Array Value} {below : List Frame} {meth : Method} {c : Code} {H : Heap} {locs : List Loc} {cells slots : Nat} {Q : State → Prop}
variable {mc ms : Nat} {free : Addr → Prop} {A0 A1 : Nat → Prop} {H0 : Heap} {a : Array Value} {ls : Array Slot} {st0 rest : List Value}
variable {Qc : Array Value → State → Outcome → State → Prop} {XC : String → State → State → Prop}
/-- what a body that may throw owes at its end -/
def vx_MQ (below : List Frame) (Qc : Array Value → State → Outcome → State → Prop) (XC : String → State → State → Prop) (a : Array Value) (s : State) (mc ms : Nat) (free : Addr → Prop) : State → Prop := fun t =>
  ∃ o, t.status = .running ∧ Ended t below o ∧ vx_Q Qc XC mc ms free a s o t
theorem vx_ret {g : JFrame} {mc ms : Nat} (k : W p l e R s m args below meth c H locs cells slots (MQ below Qc args s mc ms free) g) : W p l e R s m args below meth c H locs cells slots (vx_MQ below Qc XC args s mc ms free) g := by
  intro T hT X
  obtain ⟨t, a1, o, b1, b2, b3, b4⟩ := k T hT X
  exact ⟨t, a1, o, b1, b2, Or.inl ⟨b3, b4⟩⟩
/-- not caught here: it goes on to the caller -/
theorem vx_widen {g : JFrame} {q : Addr} {k n : Nat} (h1 : cells ≤ k) (h2 : slots ≤ n) (kk : vx_W p l e R s m args below meth c H locs k n Q g q) : vx_W p l e R s m args below meth c H locs cells slots Q g q := fun T hT X => kk T hT (stand_widen X h1 h2)
theorem vx_out {pc : Nat} {E : String} {ce : Cell} {q : Addr} {mc ms : Nat} (hout : ∀ x ∈ c.exceptionTable.toList, covers x pc = false) (hlocks : meth.locks = false) (hcell : H[q]? = some ce) (hv : ce.vm = .none) (hcl : s.vm.findClass E = some ce.cls)
    (hx : ∀ t : State, t.heap = H → s.vm.Alike t.vm → XC E s t) (hf : ∀ z ∈ locs, free z.base) (hc : cells ≤ mc) (hs : slots ≤ ms) :
    vx_W p l e R s m args below meth c H locs cells slots (vx_MQ below Qc XC args s mc ms free) (F0 m pc ls rest) q := by
  intro T hT X
  obtain ⟨st1, hrun, hend, hW, hsm⟩ := X.leaveThrown q (g := F0 m pc ls rest) rfl rfl rfl hout hlocks
  have hcell9 : (T.setFrames (.throwing q :: below)).heap[q]? = some ce := by
    show T.heap[q]? = some ce
    rw [hT]; exact hcell
  exact ⟨_, st1, .threw q, hrun, hend, Or.inr ⟨q, rfl, E, ce, locs, hx _ hT hW.alike, hcell9, hv, hcl, hW, hsm.mono hc hs, hf⟩⟩
theorem vx_frame {U : State} {k n : Nat} (h : s.sameButNew ({ U with vm := s.vm } : State) locs k n) : s.heap.size ≤ U.heap.size ∧ ∀ q : Nat, q < s.heap.size → (∀ z ∈ locs, z.base ≠ q) → U.heap[q]? = s.heap[q]? := by
  obtain ⟨-, h2, -, -, -, h6⟩ := h
  refine ⟨h2, fun q hq hz => ?_⟩
  obtain ⟨c9, e1, e2, e3, e4⟩ := h6 q _ (Array.getElem?_eq_getElem hq)
  have hs : c9.slots = (s.heap[q]).slots := Array.ext_getElem? fun i => e4 i fun hm => hz _ hm rfl
  have h9 : c9 = s.heap[q] := by
    rw [hs] at e2
    exact e2
  have e5 : U.heap[q]? = some c9 := e1
  rw [e5, h9, Array.getElem?_eq_getElem hq]
/-- the words of a throw but the four that speak of the heap -/
def vx_no (w : Cond) : Bool := decide (w ≠ .isRef (.static Bundle.tN "UNASSIGNED_STACK" Bundle.steD)) && decide (w ≠ .isRef (.static Bundle.tN "SUPPRESSED_SENTINEL" Bundle.listD)) && decide (w ≠ .laysStatic Bundle.tN "UNASSIGNED_STACK" Bundle.steD) && decide (w ≠ .laysStatic Bundle.tN "SUPPRESSED_SENTINEL" Bundle.listD)
def vx_at0 (own : String) (ic : Nat) (X : String) (names : List String) : List Cond := (Bundle.ownAtoms0 own ic X names).filter vx_no
def vx_atS (own : String) (ic : Nat) (X : String) (names : List String) : List Cond := (Bundle.ownAtoms own ic X names).filter vx_no
/-- a word that the tables alone decide, or a good one -/
def vx_ot (w : Cond) : Bool := w.onTables || goodWord w
theorem vx_ot_at {args a' : Array Value} {s U : State} {w : Cond} (hW : s.WarmedH U.vm) (hvm : s.vm = U.vm) (hg : vx_ot w = true) (h : w.before args s = true) : w.before a' U = true := by
  simp only [vx_ot, Bool.or_eq_true] at hg
  rcases hg with hg | hg
  · exact va_tabs hg hvm h
  · exact word_at hW (good_of_word hg) h
/-- a list's words: the good ones out of the method's own list, the others by premises of their own -/
theorem vx_hat {args : Array Value} {s : State} {L B : List Cond} (h1 : ∀ w ∈ L.filter goodWord, w.before args s = true) (h2 : ∀ w ∈ L.filter (fun w => !goodWord w), w ∈ B) (h3 : ∀ w ∈ B, w.before args s = true) : ∀ w ∈ L, w.before args s = true := by
  intro w hw
  by_cases g : goodWord w = true
  · exact h1 w (List.mem_filter.mpr ⟨hw, g⟩)
  · refine h3 w (h2 w (List.mem_filter.mpr ⟨hw, ?_⟩))
    show (!goodWord w) = true
    cases hgw : goodWord w
    · rfl
    · exact absurd hgw g
theorem vx_c {args : Array Value} {s : State} {w : Cond} {B : List Cond} (h : w.before args s = true) (t : ∀ w ∈ B, w.before args s = true) : ∀ w' ∈ w :: B, w'.before args s = true := fun w' h' => (List.mem_cons.mp h').elim (fun e => by rw [e]; exact h) (t w')
theorem vx_n {args : Array Value} {s : State} : ∀ w ∈ ([] : List Cond), w.before args s = true := fun _ h => nomatch h
theorem vx_own {args : Array Value} {s : State} {L : List Cond} (h1 : ∀ w ∈ L.filter vx_no, w.before args s = true)
    (hU : (Cond.isRef (.static Bundle.tN "UNASSIGNED_STACK" Bundle.steD)).before args s = true) (hN : (Cond.isRef (.static Bundle.tN "SUPPRESSED_SENTINEL" Bundle.listD)).before args s = true)
    (lU : (Cond.laysStatic Bundle.tN "UNASSIGNED_STACK" Bundle.steD).before args s = true) (lN : (Cond.laysStatic Bundle.tN "SUPPRESSED_SENTINEL" Bundle.listD).before args s = true) : ∀ w ∈ L, w.before args s = true := by
  intro w hw
  by_cases e1 : w = .isRef (.static Bundle.tN "UNASSIGNED_STACK" Bundle.steD)
  · rw [e1]; exact hU
  · by_cases e2 : w = .isRef (.static Bundle.tN "SUPPRESSED_SENTINEL" Bundle.listD)
    · rw [e2]; exact hN
    · by_cases e3 : w = .laysStatic Bundle.tN "UNASSIGNED_STACK" Bundle.steD
      · rw [e3]; exact lU
      · by_cases e4 : w = .laysStatic Bundle.tN "SUPPRESSED_SENTINEL" Bundle.listD
        · rw [e4]; exact lN
        · exact h1 w (List.mem_filter.mpr ⟨hw, by unfold vx_no; rw [decide_eq_true e1, decide_eq_true e2, decide_eq_true e3, decide_eq_true e4]; rfl⟩)
/-- where a static field lies, its class's statics cell in H -/
def vx_L (C n d : String) (A : Nat → Prop) (U : State) (H : Heap) : Prop := ∃ (c : ClassId) (k : Class) (i : Nat) (f : Field) (a : Nat) (cell : Cell), U.vm.findClass C = some c ∧ U.fieldFound? C n d = some (c, k, i, f) ∧ f.isStatic = true ∧ k.statics = some a ∧ H[a]? = some cell ∧ cell.vm.isStatics = true ∧ cell.cls = c ∧ f.slot < cell.slots.size ∧ k.staticTypes[f.slot]? = some f.type ∧ ¬ A a
theorem vx_L.moved {C n d : String} {A : Nat → Prop} {u U : State} {H : Heap} (hvm : u.vm.Alike U.vm) (h : vx_L C n d A u H) : vx_L C n d A U H := by
  obtain ⟨c, k, i, f, a, cell, h1, h2, h3, h4, h5, h6, h7, h8, h9, h10⟩ := h
  obtain ⟨k', hi', he⟩ := State.fieldFound?_setVm hvm h2
  exact ⟨c, k', i, f, a, cell, by rw [hvm.findClass]; exact h1, hi', h3, by rw [he]; exact h4, h5, h6, h7, h8, by rw [he]; exact h9, h10⟩
theorem vx_L.kept {C n d : String} {A : Nat → Prop} {U : State} {H H1 : Heap} (h : vx_L C n d A U H) (hq : ∀ a : Nat, a < H.size → ¬ A a → H1[a]? = H[a]?) : vx_L C n d A U H1 := by
  obtain ⟨c, k, i, f, a, cell, h1, h2, h3, h4, h5, h6, h7, h8, h9, h10⟩ := h
  exact ⟨c, k, i, f, a, cell, h1, h2, h3, h4, by rw [hq a (Array.getElem?_eq_some_iff.mp h5).1 h10]; exact h5, h6, h7, h8, h9, h10⟩
theorem vx_L.narrow {C n d : String} {A B : Nat → Prop} {U : State} {H : Heap} (h : vx_L C n d A U H) (hAB : ∀ q, B q → A q) : vx_L C n d B U H := by
  obtain ⟨c, k, i, f, a, cell, h1, h2, h3, h4, h5, h6, h7, h8, h9, h10⟩ := h
  exact ⟨c, k, i, f, a, cell, h1, h2, h3, h4, h5, h6, h7, h8, h9, fun z => h10 (hAB _ z)⟩
theorem vx_L.word {C n d : String} {A : Nat → Prop} {s : State} {args : Array Value} (h : vx_L C n d A s s.heap) : (Cond.laysStatic C n d).before args s = true := by
  obtain ⟨c, k, i, f, a, cell, h1, h2, h3, h4, h5, h6, h7, h8, h9, -⟩ := h
  show (Cond.laysStatic C n d).holds args s none s [] = true
  exact Cond.laysStatic_of h1 h2 h3 h4 h5 h6 h7 h8 h9
/-- .. and what it holds: null or some reference -/
def vx_Zq (C n d : String) (A : Nat → Prop) (U : State) (H : Heap) : Prop := va_Zq C n d A U H ∧ vx_L C n d A U H
theorem vx_Zq.moved {C n d : String} {A : Nat → Prop} {u U : State} {H : Heap} (hvm : u.vm.Alike U.vm) (h : vx_Zq C n d A u H) : vx_Zq C n d A U H := ⟨va_Zq.moved hvm h.1, vx_L.moved hvm h.2⟩
theorem vx_Zq.kept {C n d : String} {A : Nat → Prop} {U : State} {H H1 : Heap} (h : vx_Zq C n d A U H) (hq : ∀ a : Nat, a < H.size → ¬ A a → H1[a]? = H[a]?) : vx_Zq C n d A U H1 := ⟨va_Zq.kept h.1 hq, vx_L.kept h.2 hq⟩
theorem vx_Zq.narrow {C n d : String} {A B : Nat → Prop} {U : State} {H : Heap} (h : vx_Zq C n d A U H) (hAB : ∀ q, B q → A q) : vx_Zq C n d B U H := ⟨va_Zq.narrow h.1 hAB, vx_L.narrow h.2 hAB⟩
theorem vx_Zqof {args : Array Value} {s : State} {C n d : String} {A : Nat → Prop} (hl : (Cond.laysStatic C n d).before args s = true) (hini : (Cond.initialized C).before args s = true) (h : (Cond.isRef (.static C n d)).before args s = true) (hA : ∀ a : Nat, a < s.heap.size → ¬ A a) : vx_Zq C n d A s s.heap := by
  refine ⟨va_Zqof hl hini h hA, ?_⟩
  obtain ⟨c, k, i, f, a, cell, h1, h2, h3, h4, h5, h6, h7, h8, h9⟩ := Cond.laysStatic_spec hl
  exact ⟨c, k, i, f, a, cell, h1, h2, h3, h4, h5, h6, h7, h8, h9, hA a (Array.getElem?_eq_some_iff.mp h5).1⟩
theorem vx_isRef {C n d : String} {v : Value} {A : Nat → Prop} {s : State} {args : Array Value} (h : va_Z C n d v A s s.heap) (hv : v.isRef = true) : (Cond.isRef (.static C n d)).before args s = true := by
  obtain ⟨cf, kf, fi, f, a, cell, h1, h2, h3, h4, h5, h6, h7, -⟩ := h
  have he : (Term.static C n d).eval args s none [] s = some v := by
    simp [Term.eval, State.fieldNamed?, h1, h2, h4, h5, h6, h7]
  simp only [Cond.before, Cond.holds, Cond.value, he]
  cases v <;> simp_all [Value.isRef]
theorem vx_isRefq {C n d : String} {A : Nat → Prop} {s : State} {args : Array Value} (h : va_Zq C n d A s s.heap) : (Cond.isRef (.static C n d)).before args s = true := by
  rcases h with h | ⟨t, h⟩
  · exact vx_isRef h rfl
  · exact vx_isRef h rfl
/-- the same frame, seen from here: as if the method were called anew in this heap -/
theorem vx_rebase {T : State} (X : Stand p l e R s m args below meth c T locs cells slots) {R' : Room} (hf : R'.frames ≤ R.frames) (hl : R'.locals ≤ R.locals) (hc : cells + R'.cells ≤ R.cells) (hs : slots + R'.slots ≤ R.slots) :
    Stand p l e R' ((T.setVm s.vm).setFrames (.invoking m args :: below)) m args below meth c T [] 0 0 := by
  have htop : (T.setVm s.vm).topJava?.isSome := X.here.top
  have hF : ((T.setVm s.vm).setFrames (.invoking m args :: below)).frames = .invoking m args :: below := State.frames_setFrames _ (State.cur_lt_of_top htop)
  obtain ⟨g₀, hg0⟩ := Option.isSome_iff_exists.mp htop
  obtain ⟨r, hr⟩ := State.topJava?_eq_some.mp hg0
  have hl9 : e.platform.stackLimits (T.setVm s.vm).me = e.platform.stackLimits s.me := X.limits
  have hb9 : (T.setVm s.vm).me.stackBytes = s.me.stackBytes := X.bytes
  refine ⟨X.admits, X.cas, X.clock, hF, ?_, X.hears, X.method, X.code, X.here, X.tail, X.warmed, ?_, ?_, ?_⟩
  · have h := X.room
    have hU : ((T.setVm s.vm).setFrames (.invoking m args :: below)).localsInUse = s.localsInUse := by
      rw [State.localsInUse_invoking hF (meth := meth) (c := c) X.method X.code, State.localsInUse_invoking X.frames X.method X.code]
    simp only [State.hasRoom, Bool.and_eq_true, decide_eq_true_eq] at h ⊢
    obtain ⟨⟨⟨⟨h1, h2, h3, h4, h5, h6⟩, h7⟩, h8⟩, h9⟩ := h
    rw [X.frames, List.length_cons] at h2 h3
    have q1 := X.heapSize
    have q2 := X.used
    simp only [hF, hU, List.length_cons, State.stackLimits_setFrames, State.stackBytes_setFrames, hl9, hb9]
    refine ⟨⟨⟨⟨by omega, by omega, by omega, by omega, by omega, h6⟩, ?_⟩, ?_⟩, X.book⟩
    · show T.heap.size + R'.cells ≤ e.platform.maxCells
      omega
    · show T.slotsUsed + R'.slots ≤ e.platform.maxSlots
      omega
  · rw [State.stackLimits_setFrames]; rfl
  · rw [State.stackBytes_setFrames]; rfl
  · refine ⟨?_, Nat.le_refl _, Nat.le_refl _, ?_, ?_, fun a c9 h9 => ⟨c9, h9, rfl, rfl, fun _ _ => rfl⟩⟩
    · obtain ⟨t, ht, -⟩ := State.frames_cons hr
      show T.setVm s.vm = { ((T.setVm s.vm).setFrames (.invoking m args :: below)).setFrames (T.setVm s.vm).frames with heap := T.heap, slotsUsed := T.slotsUsed }
      rw [State.setFrames_setFrames, State.setFrames_self ht]
      rfl
    · show T.slotsUsed = T.slotsUsed + ((T.heap.toList.drop T.heap.size).map (·.slots.size)).sum
      rw [List.drop_eq_nil_of_le (Nat.le_of_eq Array.length_toList)]
      rfl
    · show ((T.heap.toList.drop T.heap.size).map (·.slots.size)).sum ≤ 0
      rw [List.drop_eq_nil_of_le (Nat.le_of_eq Array.length_toList)]
      exact Nat.le_refl _
/-- 'throw new E()': new; dup; invokespecial; athrow -/
theorem vx_throw0 {cc : ByteArray} {pc : Nat} (hexec : p.tables.exec = Jvm.exec) (hb : c.code = cc) (hl : l.stackTraces = false) {own cls : String} {names : List String} {ik ic mc ms : Nat} {A : Nat → Prop}
    (hown : s.vm.findClass own = some m.cls) (hcls : Bundle.fit cls = true) (hnames : ∀ n ∈ names, Bundle.fit n = true)
    (hk : (Cond.classLink own ik cls).before args s = true) (hini : (Cond.initialized cls).before args s = true) (hat : ∀ w ∈ vx_at0 own ic cls names, w.before args s = true)
    (hgood : ∀ w ∈ Cond.classLink own ik cls :: Cond.initialized cls :: vx_at0 own ic cls names, vx_ot w = true)
    (hU : vx_Zq Bundle.tN "UNASSIGNED_STACK" Bundle.steD A s s.heap) (hN : vx_Zq Bundle.tN "SUPPRESSED_SENTINEL" Bundle.listD A s s.heap) (hS : va_S A s.heap H locs) (hsize : ls.size = c.maxLocals)
    (d0 : decode cc pc = .ok (.new ik, 3)) (d3 : decode cc (pc + 3) = .ok (.dup, 1)) (d4 : decode cc (pc + 4) = .ok (.invokespecial ic, 3)) (d7 : decode cc (pc + 7) = .ok (.athrow, 1))
    (hout : ∀ x ∈ c.exceptionTable.toList, covers x (pc + 7) = false)
    (hRframes : names.length + 3 < R.frames) (hRlocals : (rest.map fun v => v.category).sum + (13 * (names.length + 1) + 42) ≤ R.locals) (hRcells : cells + 1 ≤ R.cells) (hRslots : slots + 6 ≤ R.slots) (hlocks : meth.locks = false)
    (hx : ∀ t : State, s.vm.Alike t.vm → H.size ≤ t.heap.size → (∀ q : Nat, q < H.size → t.heap[q]? = H[q]?) → XC cls s t)
    (hf : ∀ z ∈ locs, free z.base) (hc : cells + 1 ≤ mc) (hs : slots + 6 ≤ ms) :
    W p l e R s m args below meth c H locs cells slots (vx_MQ below Qc XC args s mc ms free) (F0 m pc ls rest) := by
  intro T hT X
  have htr : e.platform.stackTraces = false := (show e.platform.stackTraces = l.stackTraces by rw [X.admits.platform]).trans hl
  have Y := vx_rebase X (R' := { frames := R.frames, locals := R.locals, cells := 1, slots := 6 }) (Nat.le_refl _) (Nat.le_refl _) hRcells hRslots
  obtain ⟨s', hA⟩ : ∃ z, z = (T.setVm s.vm).setFrames (.invoking m args :: below) := ⟨_, rfl⟩
  rw [← hA] at Y
  have hvm : s'.vm = s.vm := by rw [hA]; rfl
  have hhp : s'.heap = H := by rw [hA]; exact hT
  have hW0 : s.WarmedH s'.vm := by rw [hvm]; exact State.WarmedH.refl s
  have hat' : ∀ w ∈ vx_at0 own ic cls names, w.before args s' = true := fun w hw => vx_ot_at hW0 hvm.symm (hgood w (List.mem_cons_of_mem _ (List.mem_cons_of_mem _ hw))) (hat w hw)
  have hk' : (Cond.classLink own ik cls).before args s' = true := vx_ot_at hW0 hvm.symm (hgood _ List.mem_cons_self) hk
  have hini' : (Cond.initialized cls).before args s' = true := vx_ot_at hW0 hvm.symm (hgood _ (List.mem_cons_of_mem _ List.mem_cons_self)) hini
  have hU' : vx_Zq Bundle.tN "UNASSIGNED_STACK" Bundle.steD A s' s'.heap := by rw [hhp]; exact vx_Zq.moved hW0.alike (hU.kept hS.2.1)
  have hN' : vx_Zq Bundle.tN "SUPPRESSED_SENTINEL" Bundle.listD A s' s'.heap := by rw [hhp]; exact vx_Zq.moved hW0.alike (hN.kept hS.2.1)
  have h : ∀ w ∈ Bundle.ownAtoms0 own ic cls names, w.before args s' = true := vx_own hat' (vx_isRefq hU'.1) (vx_isRefq hN'.1) hU'.2.word hN'.2.word
  have hown' : s'.vm.findClass own = some m.cls := by rw [hvm]; exact hown
  have hins : (Cond.instantiable cls 6).before args s' = true := h _ (by simp [Bundle.ownAtoms0])
  obtain ⟨vm₁, cX, kX, hfX, hkX, -, -, X₁, st1⟩ := Y.newCold hexec (own := own) (C := cls) (index := ik) (n := 6) hown' hk' hins hini'
    (g := F0 m pc ls rest) rfl (by rw [hb]; exact d0) (Nat.le_refl _) (Nat.le_refl _)
  generalize hT1 : (T.setVm vm₁).pushCell { cls := cX, slots := kX.instanceTypes.map defaultValue, vm := .none } = T1 at X₁ st1
  have hcat : (Value.ref T.heap.size).category = 1 := rfl
  have hcellA : T1.heap[T.heap.size]? = some (freshCell cX kX) := by rw [← hT1]; exact State.heap_pushCell_size _ _
  have d3' : decode c.code (pc + 3) = .ok (.dup, 1) := by rw [hb]; exact d3
  obtain ⟨U, hsteps, hrun, hend, hW, hsame, ce, hce, hO⟩ := X₁.ctorThrow0 hexec htr (own := own) (cls := cls) (names := names) (ic := ic) hown' hcls hnames h (fun x hx => nomatch hx) hfX hkX hcellA (by rw [hhp, hT]; exact Nat.le_refl _)
    (g := { method := m, pc := pc + 4, locals := ls, stack := .ref T.heap.size :: .ref T.heap.size :: rest, locked := none }) rfl hsize rfl rfl (rest := rest) rfl
    (by rw [hb]; exact d4) (by rw [hb]; exact d7) hout hRframes (by simp only [List.map_cons, List.sum_cons, hcat]; omega) hlocks
  obtain ⟨f1, f2⟩ := vx_frame hsame
  rw [hhp] at f1 f2
  have hWs : s.WarmedH U.vm := State.WarmedH.trans hW0 hW
  have hcl : s.vm.findClass cls = some ce.cls := by
    have h9 := hO.cls
    rw [hvm] at h9
    exact h9
  have hall : s.sameButNew ({ U with vm := s.vm } : State) locs mc ms := by
    subst hA
    obtain ⟨e1, e2⟩ := hsame
    rw [State.setFrames_setFrames] at e1
    have h2 : (T.setVm s.vm).sameButNew ({ U with vm := s.vm } : State) [] (0 + 1) (0 + 6) := ⟨e1, e2⟩
    have h3 := X.same.trans h2
    rw [List.append_nil] at h3
    exact h3.mono hc hs
  refine ⟨U, ?_, .threw T.heap.size, hrun, hend, Or.inr ⟨T.heap.size, rfl, cls, ce, locs, hx U hWs.alike f1 (fun q hq => f2 q hq (fun z hz => nomatch hz)), hce, hO.vm, hcl, hWs, hall, hf⟩⟩
  refine st1 _ ?_
  show Steps p.tables e below (T1.setTop { method := m, pc := pc + 3, locals := ls, stack := .ref T.heap.size :: rest, locked := none }) _
  jvm_step X₁.here [X₁.here.top, hexec, d3', Value.category]
  exact hsteps
/-- 'throw new E("text")': new; dup; ldc; invokespecial; athrow -/
theorem vx_throwS {cc : ByteArray} {pc : Nat} (hexec : p.tables.exec = Jvm.exec) (hb : c.code = cc) (hl : l.stackTraces = false) {own cls text : String} {names : List String} {ik is ic mc ms sa : Nat} {A : Nat → Prop}
    (hown : s.vm.findClass own = some m.cls) (hcls : Bundle.fit cls = true) (hnames : ∀ n ∈ names, Bundle.fit n = true)
    (hk : (Cond.classLink own ik cls).before args s = true) (hini : (Cond.initialized cls).before args s = true) (hstr : vk_R own is text sa s) (hat : ∀ w ∈ vx_atS own ic cls names, w.before args s = true)
    (hgood : ∀ w ∈ Cond.classLink own ik cls :: Cond.initialized cls :: vx_atS own ic cls names, vx_ot w = true)
    (hU : vx_Zq Bundle.tN "UNASSIGNED_STACK" Bundle.steD A s s.heap) (hN : vx_Zq Bundle.tN "SUPPRESSED_SENTINEL" Bundle.listD A s s.heap) (hS : va_S A s.heap H locs) (hsize : ls.size = c.maxLocals)
    (d0 : decode cc pc = .ok (.new ik, 3)) (d3 : decode cc (pc + 3) = .ok (.dup, 1)) (d4 : decode cc (pc + 4) = .ok (.ldc is, 2)) (d6 : decode cc (pc + 6) = .ok (.invokespecial ic, 3)) (d9 : decode cc (pc + 9) = .ok (.athrow, 1))
    (hout : ∀ x ∈ c.exceptionTable.toList, covers x (pc + 9) = false)
    (hRframes : names.length + 3 < R.frames) (hRlocals : (rest.map fun v => v.category).sum + (13 * (names.length + 1) + 43) ≤ R.locals) (hRcells : cells + 1 ≤ R.cells) (hRslots : slots + 6 ≤ R.slots) (hlocks : meth.locks = false)
    (hx : ∀ t : State, s.vm.Alike t.vm → H.size ≤ t.heap.size → (∀ q : Nat, q < H.size → t.heap[q]? = H[q]?) → XC cls s t)
    (hf : ∀ z ∈ locs, free z.base) (hc : cells + 1 ≤ mc) (hs : slots + 6 ≤ ms) :
    W p l e R s m args below meth c H locs cells slots (vx_MQ below Qc XC args s mc ms free) (F0 m pc ls rest) := by
  intro T hT X
  have htr : e.platform.stackTraces = false := (show e.platform.stackTraces = l.stackTraces by rw [X.admits.platform]).trans hl
  have Y := vx_rebase X (R' := { frames := R.frames, locals := R.locals, cells := 1, slots := 6 }) (Nat.le_refl _) (Nat.le_refl _) hRcells hRslots
  obtain ⟨s', hA⟩ : ∃ z, z = (T.setVm s.vm).setFrames (.invoking m args :: below) := ⟨_, rfl⟩
  rw [← hA] at Y
  have hvm : s'.vm = s.vm := by rw [hA]; rfl
  have hhp : s'.heap = H := by rw [hA]; exact hT
  have hW0 : s.WarmedH s'.vm := by rw [hvm]; exact State.WarmedH.refl s
  have hat' : ∀ w ∈ vx_atS own ic cls names, w.before args s' = true := fun w hw => vx_ot_at hW0 hvm.symm (hgood w (List.mem_cons_of_mem _ (List.mem_cons_of_mem _ hw))) (hat w hw)
  have hk' : (Cond.classLink own ik cls).before args s' = true := vx_ot_at hW0 hvm.symm (hgood _ List.mem_cons_self) hk
  have hini' : (Cond.initialized cls).before args s' = true := vx_ot_at hW0 hvm.symm (hgood _ (List.mem_cons_of_mem _ List.mem_cons_self)) hini
  have hU' : vx_Zq Bundle.tN "UNASSIGNED_STACK" Bundle.steD A s' s'.heap := by rw [hhp]; exact vx_Zq.moved hW0.alike (hU.kept hS.2.1)
  have hN' : vx_Zq Bundle.tN "SUPPRESSED_SENTINEL" Bundle.listD A s' s'.heap := by rw [hhp]; exact vx_Zq.moved hW0.alike (hN.kept hS.2.1)
  have h : ∀ w ∈ Bundle.ownAtoms own ic cls names, w.before args s' = true := vx_own hat' (vx_isRefq hU'.1) (vx_isRefq hN'.1) hU'.2.word hN'.2.word
  have hown' : s'.vm.findClass own = some m.cls := by rw [hvm]; exact hown
  have hins : (Cond.instantiable cls 6).before args s' = true := h _ (by simp [Bundle.ownAtoms])
  obtain ⟨vm₁, cX, kX, hfX, hkX, -, -, X₁, st1⟩ := Y.newCold hexec (own := own) (C := cls) (index := ik) (n := 6) hown' hk' hins hini'
    (g := F0 m pc ls rest) rfl (by rw [hb]; exact d0) (Nat.le_refl _) (Nat.le_refl _)
  generalize hT1 : (T.setVm vm₁).pushCell { cls := cX, slots := kX.instanceTypes.map defaultValue, vm := .none } = T1 at X₁ st1
  have hcat : (Value.ref T.heap.size).category = 1 := rfl
  have hcellA : T1.heap[T.heap.size]? = some (freshCell cX kX) := by rw [← hT1]; exact State.heap_pushCell_size _ _
  have d3' : decode c.code (pc + 3) = .ok (.dup, 1) := by rw [hb]; exact d3
  have d4' : decode c.code (pc + 4) = .ok (.ldc is, 2) := by rw [hb]; exact d4
  have hstr' : vk_R own is text sa s' := vk_R.warm hW0 hstr
  obtain ⟨U, hsteps, hrun, hend, hW, hsame, ce, hce, hO⟩ := X₁.ctorThrowS hexec htr (own := own) (cls := cls) (names := names) (ic := ic) hown' hcls hnames h (fun x hx => nomatch hx) hfX hkX hcellA (by rw [hhp, hT]; exact Nat.le_refl _) (msg := .ref sa) rfl
    (g := { method := m, pc := pc + 6, locals := ls, stack := .ref sa :: .ref T.heap.size :: .ref T.heap.size :: rest, locked := none }) rfl hsize rfl rfl (rest := rest) rfl
    (by rw [hb]; exact d6) (by rw [hb]; exact d9) hout hRframes (by simp only [List.map_cons, List.sum_cons, hcat]; omega) hlocks
  obtain ⟨f1, f2⟩ := vx_frame hsame
  rw [hhp] at f1 f2
  have hWs : s.WarmedH U.vm := State.WarmedH.trans hW0 hW
  have hcl : s.vm.findClass cls = some ce.cls := by
    have h9 := hO.cls
    rw [hvm] at h9
    exact h9
  have hall : s.sameButNew ({ U with vm := s.vm } : State) locs mc ms := by
    subst hA
    obtain ⟨e1, e2⟩ := hsame
    rw [State.setFrames_setFrames] at e1
    have h2 : (T.setVm s.vm).sameButNew ({ U with vm := s.vm } : State) [] (0 + 1) (0 + 6) := ⟨e1, e2⟩
    have h3 := X.same.trans h2
    rw [List.append_nil] at h3
    exact h3.mono hc hs
  refine ⟨U, ?_, .threw T.heap.size, hrun, hend, Or.inr ⟨T.heap.size, rfl, cls, ce, locs, hx U hWs.alike f1 (fun q hq => f2 q hq (fun z hz => nomatch hz)), hce, hO.vm, hcl, hWs, hall, hf⟩⟩
  refine st1 _ ?_
  show Steps p.tables e below (T1.setTop { method := m, pc := pc + 3, locals := ls, stack := .ref T.heap.size :: rest, locked := none }) _
  jvm_step X₁.here [X₁.here.top, hexec, d3', Value.category]
  exact X₁.ldcString hexec (own := own) (text := text) (index := is) (a := sa) hown' hstr'.1 hstr'.2
    (g := { method := m, pc := pc + 4, locals := ls, stack := .ref T.heap.size :: .ref T.heap.size :: rest, locked := none }) rfl d4' _ hsteps
/-- 'throw new E("text")', the text by a wide index -/
theorem vx_throwSW {cc : ByteArray} {pc : Nat} (hexec : p.tables.exec = Jvm.exec) (hb : c.code = cc) (hl : l.stackTraces = false) {own cls text : String} {names : List String} {ik is ic mc ms sa : Nat} {A : Nat → Prop}
    (hown : s.vm.findClass own = some m.cls) (hcls : Bundle.fit cls = true) (hnames : ∀ n ∈ names, Bundle.fit n = true)
    (hk : (Cond.classLink own ik cls).before args s = true) (hini : (Cond.initialized cls).before args s = true) (hstr : vk_R own is text sa s) (hat : ∀ w ∈ vx_atS own ic cls names, w.before args s = true)
    (hgood : ∀ w ∈ Cond.classLink own ik cls :: Cond.initialized cls :: vx_atS own ic cls names, vx_ot w = true)
    (hU : vx_Zq Bundle.tN "UNASSIGNED_STACK" Bundle.steD A s s.heap) (hN : vx_Zq Bundle.tN "SUPPRESSED_SENTINEL" Bundle.listD A s s.heap) (hS : va_S A s.heap H locs) (hsize : ls.size = c.maxLocals)
    (d0 : decode cc pc = .ok (.new ik, 3)) (d3 : decode cc (pc + 3) = .ok (.dup, 1)) (d4 : decode cc (pc + 4) = .ok (.ldc_w is, 3)) (d7 : decode cc (pc + 7) = .ok (.invokespecial ic, 3)) (d10 : decode cc (pc + 10) = .ok (.athrow, 1))
    (hout : ∀ x ∈ c.exceptionTable.toList, covers x (pc + 10) = false)
    (hRframes : names.length + 3 < R.frames) (hRlocals : (rest.map fun v => v.category).sum + (13 * (names.length + 1) + 43) ≤ R.locals) (hRcells : cells + 1 ≤ R.cells) (hRslots : slots + 6 ≤ R.slots) (hlocks : meth.locks = false)
    (hx : ∀ t : State, s.vm.Alike t.vm → H.size ≤ t.heap.size → (∀ q : Nat, q < H.size → t.heap[q]? = H[q]?) → XC cls s t)
    (hf : ∀ z ∈ locs, free z.base) (hc : cells + 1 ≤ mc) (hs : slots + 6 ≤ ms) :
    W p l e R s m args below meth c H locs cells slots (vx_MQ below Qc XC args s mc ms free) (F0 m pc ls rest) := by
  intro T hT X
  have htr : e.platform.stackTraces = false := (show e.platform.stackTraces = l.stackTraces by rw [X.admits.platform]).trans hl
  have Y := vx_rebase X (R' := { frames := R.frames, locals := R.locals, cells := 1, slots := 6 }) (Nat.le_refl _) (Nat.le_refl _) hRcells hRslots
  obtain ⟨s', hA⟩ : ∃ z, z = (T.setVm s.vm).setFrames (.invoking m args :: below) := ⟨_, rfl⟩
  rw [← hA] at Y
  have hvm : s'.vm = s.vm := by rw [hA]; rfl
  have hhp : s'.heap = H := by rw [hA]; exact hT
  have hW0 : s.WarmedH s'.vm := by rw [hvm]; exact State.WarmedH.refl s
  have hat' : ∀ w ∈ vx_atS own ic cls names, w.before args s' = true := fun w hw => vx_ot_at hW0 hvm.symm (hgood w (List.mem_cons_of_mem _ (List.mem_cons_of_mem _ hw))) (hat w hw)
  have hk' : (Cond.classLink own ik cls).before args s' = true := vx_ot_at hW0 hvm.symm (hgood _ List.mem_cons_self) hk
  have hini' : (Cond.initialized cls).before args s' = true := vx_ot_at hW0 hvm.symm (hgood _ (List.mem_cons_of_mem _ List.mem_cons_self)) hini
  have hU' : vx_Zq Bundle.tN "UNASSIGNED_STACK" Bundle.steD A s' s'.heap := by rw [hhp]; exact vx_Zq.moved hW0.alike (hU.kept hS.2.1)
  have hN' : vx_Zq Bundle.tN "SUPPRESSED_SENTINEL" Bundle.listD A s' s'.heap := by rw [hhp]; exact vx_Zq.moved hW0.alike (hN.kept hS.2.1)
  have h : ∀ w ∈ Bundle.ownAtoms own ic cls names, w.before args s' = true := vx_own hat' (vx_isRefq hU'.1) (vx_isRefq hN'.1) hU'.2.word hN'.2.word
  have hown' : s'.vm.findClass own = some m.cls := by rw [hvm]; exact hown
  have hins : (Cond.instantiable cls 6).before args s' = true := h _ (by simp [Bundle.ownAtoms])
  obtain ⟨vm₁, cX, kX, hfX, hkX, -, -, X₁, st1⟩ := Y.newCold hexec (own := own) (C := cls) (index := ik) (n := 6) hown' hk' hins hini'
    (g := F0 m pc ls rest) rfl (by rw [hb]; exact d0) (Nat.le_refl _) (Nat.le_refl _)
  generalize hT1 : (T.setVm vm₁).pushCell { cls := cX, slots := kX.instanceTypes.map defaultValue, vm := .none } = T1 at X₁ st1
  have hcat : (Value.ref T.heap.size).category = 1 := rfl
  have hcellA : T1.heap[T.heap.size]? = some (freshCell cX kX) := by rw [← hT1]; exact State.heap_pushCell_size _ _
  have d3' : decode c.code (pc + 3) = .ok (.dup, 1) := by rw [hb]; exact d3
  have d4' : decode c.code (pc + 4) = .ok (.ldc_w is, 3) := by rw [hb]; exact d4
  have hstr' : vk_R own is text sa s' := vk_R.warm hW0 hstr
  obtain ⟨U, hsteps, hrun, hend, hW, hsame, ce, hce, hO⟩ := X₁.ctorThrowS hexec htr (own := own) (cls := cls) (names := names) (ic := ic) hown' hcls hnames h (fun x hx => nomatch hx) hfX hkX hcellA (by rw [hhp, hT]; exact Nat.le_refl _) (msg := .ref sa) rfl
    (g := { method := m, pc := pc + 7, locals := ls, stack := .ref sa :: .ref T.heap.size :: .ref T.heap.size :: rest, locked := none }) rfl hsize rfl rfl (rest := rest) rfl
    (by rw [hb]; exact d7) (by rw [hb]; exact d10) hout hRframes (by simp only [List.map_cons, List.sum_cons, hcat]; omega) hlocks
  obtain ⟨f1, f2⟩ := vx_frame hsame
  rw [hhp] at f1 f2
  have hWs : s.WarmedH U.vm := State.WarmedH.trans hW0 hW
  have hcl : s.vm.findClass cls = some ce.cls := by
    have h9 := hO.cls
    rw [hvm] at h9
    exact h9
  have hall : s.sameButNew ({ U with vm := s.vm } : State) locs mc ms := by
    subst hA
    obtain ⟨e1, e2⟩ := hsame
    rw [State.setFrames_setFrames] at e1
    have h2 : (T.setVm s.vm).sameButNew ({ U with vm := s.vm } : State) [] (0 + 1) (0 + 6) := ⟨e1, e2⟩
    have h3 := X.same.trans h2
    rw [List.append_nil] at h3
    exact h3.mono hc hs
  refine ⟨U, ?_, .threw T.heap.size, hrun, hend, Or.inr ⟨T.heap.size, rfl, cls, ce, locs, hx U hWs.alike f1 (fun q hq => f2 q hq (fun z hz => nomatch hz)), hce, hO.vm, hcl, hWs, hall, hf⟩⟩
  refine st1 _ ?_
  show Steps p.tables e below (T1.setTop { method := m, pc := pc + 3, locals := ls, stack := .ref T.heap.size :: rest, locked := none }) _
  jvm_step X₁.here [X₁.here.top, hexec, d3', Value.category]
  exact X₁.ldcStringW hexec (own := own) (text := text) (index := is) (a := sa) hown' hstr'.1 hstr'.2
    (g := { method := m, pc := pc + 4, locals := ls, stack := .ref T.heap.size :: .ref T.heap.size :: rest, locked := none }) rfl d4' _ hsteps
end Ends
section Bodies
variable {l : Launch}
theorem vx_ofW {y : MethodName} {ws ws' : List Cond} {rm : Room} {Pc : Array Value → State → Prop} {Qc : Array Value → State → Outcome → State → Prop} {XC : String → State → State → Prop} {mc ms : Nat} {free : Addr → Prop} {cc : ByteArray} {maxL : Nat} {ret : Option FieldType}
    (hy : plainName y.cls = true) (hw : ws = Cond.code y cc maxL ret :: ws')
    (body : ∀ p e s m args below meth c s₁, BodyLoose p l y (headSpec ws rm) cc maxL ret e s m args below meth c s₁ → c.maxLocals = maxL → (∀ x ∈ c.exceptionTable.toList, False) → Pc args s →
      W p l e (headSpec ws rm).room s m args below meth c s.heap [] 0 0 (vx_MQ below Qc XC args s mc ms free) (entryFrame m args maxL)) : vx_Met l y ws rm Pc Qc XC mc ms free := by
  refine MetFree.of_bodyS (code := cc) (maxLocals := maxL) (ret := ret) hy ?_ ?_
  · intro args s m h hn
    obtain ⟨meth, c, h1, h2, h3, h4, h5, h6, -, -⟩ := Cond.code_spec hn (atoms_spec (ws := ws) h _ (by rw [hw]; exact List.mem_cons_self))
    exact ⟨meth, c, h1, h2, h3, h4, h5, h6⟩
  · intro p e s m args below meth c s₁ B hml hP _
    have hh0 : s₁.heap = s.heap := by rw [B.state]; rfl
    have ht : ∀ x ∈ c.exceptionTable.toList, False := by
      obtain ⟨meth9, c9, h1, h2, -, -, -, -, h7, -⟩ := Cond.code_spec B.named (atoms_spec (ws := ws) B.pre _ (by rw [hw]; exact List.mem_cons_self))
      cases Option.some.inj (h1.symm.trans B.method)
      cases Option.some.inj (h2.symm.trans (Stand.of_body B).code)
      intro x hx
      rw [Array.isEmpty_iff.mp h7] at hx
      cases hx
    obtain ⟨t, a1, o, b1, b2, b3⟩ := body p e s m args below meth c s₁ B hml ht hP s₁ hh0 (Stand.of_body B)
    exact ⟨t, o, a1, b1, b2, b3⟩
/-- the table of a body with handlers -/
theorem vx_table {p : Program} {x y : MethodName} {S : Spec} {cc bytes : ByteArray} {maxL maxL' : Nat} {ret ret' : Option FieldType} {e : Env} {s s₁ : State} {m : MethodId} {args : Array Value} {below : List Frame} {meth : Method} {c : Code} {hh : List (Nat × Nat × Nat × Nat)}
    (B : BodyLoose p l y S cc maxL ret e s m args below meth c s₁) (h : (Cond.codeWith y bytes maxL' ret' hh).before args s = true) : c.exceptionTable.toList = tableOf hh := by
  obtain ⟨m9, meth9, c9, hn9, h1, h2, -, -, h6, -⟩ := Cond.codeWith_spec h
  cases Option.some.inj (hn9.symm.trans B.named)
  cases Option.some.inj (h1.symm.trans B.method)
  cases Option.some.inj (h2.symm.trans (Stand.of_body B).code)
  rw [← h6, table_eq]
end Bodies
end VXA
/-! ===== END ===== -/
/-! ===== BEGIN a static call of a method with an exception table ===== -/
section VXS
variable {p : Program} {l : Launch} {e : Env} {R : Room} {s : State} {m : MethodId} {args : Array Value} {below : List Frame} {meth : Method} {c : Code} {T : State} {H : Heap} {locs : List Loc} {cells slots : Nat}
abbrev vx_CSW (R : Room) (s : State) (args : Array Value) (own : String) (index : Nat) (y : MethodName) (bytes : ByteArray) (maxL : Nat) (ret : Option FieldType) (hh : List (Nat × Nat × Nat × Nat)) (ws : List Cond) (rm : Room) (mc ms n : Nat) : Prop :=
  (rm.cells = mc ∧ rm.slots = ms ∧ rm.frames + 1 ≤ R.frames ∧ 8 + (maxL + 11) + rm.locals ≤ R.locals ∧ (∀ w ∈ ws, ∀ (a' : Array Value) (U : State), s.WarmedH U.vm → w.before a' U = true) ∧ Cond.codeWith y bytes maxL ret hh ∈ ws) ∧
  (Cond.codeWith y bytes maxL ret hh).before args s = true ∧ (Cond.initialized y.cls).before args s = true ∧ (y.cls ≠ "java/lang/invoke/MethodHandle" ∧ y.cls ≠ "java/lang/invoke/VarHandle") ∧
  (∀ sig, parseMethodDescriptor y.desc = some sig → n = sig.parameters.length) ∧ (Cond.methodLink own index y).before args s = true ∧ (Cond.static y).before args s = true
theorem vx_cwSW {own : String} {index maxL mc ms : Nat} {y : MethodName} {bytes : ByteArray} {ret : Option FieldType} {hh : List (Nat × Nat × Nat × Nat)} {Ts ws ws' : List Cond} {rm : Room} (n : Nat) (ht : ∀ w ∈ Ts, w.before args s = true) (hT : GoodIn Ts (va_wsS own index y ws)) (hw : ws = Cond.codeWith y bytes maxL ret hh :: ws') (hrc : rm.cells = mc) (hrs : rm.slots = ms)
    (hd : y.cls ≠ "java/lang/invoke/MethodHandle" ∧ y.cls ≠ "java/lang/invoke/VarHandle" ∧ (parseMethodDescriptor y.desc).map (fun d => d.parameters.length) = some n) (hR : rm.frames + 1 ≤ R.frames ∧ 8 + (maxL + 11) + rm.locals ≤ R.locals) :
    vx_CSW R s args own index y bytes maxL ret hh ws rm mc ms n := by
  have ok : ∀ w ∈ va_wsS own index y ws, w.before args s = true := fun w h => ht w (hT w h).1
  have hG : GoodIn Ts ws := fun w h => hT w (by unfold va_wsS; exact List.mem_append_right _ h)
  have hc : Cond.codeWith y bytes maxL ret hh ∈ ws := by rw [hw]; exact List.mem_cons_self
  refine ⟨⟨hrc, hrs, hR.1, hR.2, pay_in ht hG, hc⟩, ht _ (hG _ hc).1, ok _ (by simp [va_wsS]), ⟨hd.1, hd.2.1⟩, fun sig h => ?_, ok _ (by simp [va_wsS]), ok _ (by simp [va_wsS])⟩
  have h2 := hd.2.2
  rw [h] at h2
  exact (Option.some.inj h2).symm
theorem vx_callSW (X : Stand p l e R s m args below meth c T locs cells slots) (hexec : p.tables.exec = Jvm.exec) {own : String} {index : Nat} {y : MethodName} {bytes : ByteArray} {maxL : Nat} {ret : Option FieldType} {hh : List (Nat × Nat × Nat × Nat)}
    (hown : s.vm.findClass own = some m.cls) (hlink : (Cond.methodLink own index y).before args s = true) (hstat : (Cond.static y).before args s = true) (hinit : (Cond.initialized y.cls).before args s = true)
    (hcode : (Cond.codeWith y bytes maxL ret hh).before args s = true) (hy : y.cls ≠ "java/lang/invoke/MethodHandle" ∧ y.cls ≠ "java/lang/invoke/VarHandle")
    {W9 : Nat} {Pre : Pt → Array Value → Prop} {Post : Pt → Array Value → Option Value → Pt → Prop} (hK : Back l R p e below s args y 3 W9 Pre Post)
    {g : JFrame} (hg : g.method = m) (hsize : g.locals.size = c.maxLocals) {argsL rest : List Value} (hlen : ∀ sig, parseMethodDescriptor y.desc = some sig → argsL.length = sig.parameters.length)
    (hstack : g.stack = argsL.reverse ++ rest) (hW : 2 * g.monitorRoom + (rest.map fun v => v.category).sum ≤ W9) (hdg : decode c.code g.pc = .ok (.invokestatic index, 3))
    (hpre : ∀ vm₁, s.WarmedH vm₁ → Pre ⟨T.setVm vm₁, locs, cells, slots⟩ argsL.toArray) :
    ∃ (v : Option Value) (vm₁ : Vm) (B : Pt), s.WarmedH vm₁ ∧ Stand p l e R s m args below meth c B.U B.locs B.cells B.slots ∧ Post ⟨T.setVm vm₁, locs, cells, slots⟩ argsL.toArray v B ∧
      ∀ target, Steps p.tables e below (B.U.setTop { g with pc := g.pc + 3, stack := v.toList ++ rest }) target → Steps p.tables e below (T.setTop g) target := by
  obtain ⟨mk, methM, cM, hnamed, hmethM, -, -, -, -, -, -, hsigM⟩ := Cond.codeWith_spec hcode
  have hstatic : methM.isStatic = true := Cond.static_spec hnamed hmethM hstat
  obtain ⟨kP, hkP, -⟩ := className_of_methodNamed hnamed
  have hinitP : kP.init = .initialized := Cond.initialized_spec (findClass_of_methodNamed hnamed) hkP hinit
  obtain ⟨vm₁, X₁, hstep₁⟩ := X.invokestatic hexec hown hlink hnamed hmethM hstatic hkP hinitP hy (g := g) hg (argsL := argsL) (rest := rest) (hlen _ hsigM) hstack hdg
  obtain ⟨v, B, X', hpost, hsteps⟩ := hK m meth c ⟨T.setVm vm₁, locs, cells, slots⟩ { g with stack := rest } (.invokestatic index) mk argsL.toArray X₁ hg hsize hdg hW (X₁.named hnamed) (hpre vm₁ X₁.warmed)
  exact ⟨v, vm₁, B, X₁.warmed, X', hpost, fun target h => hstep₁ _ fun acts => by rw [doInvoke_state]; exact hsteps.trans h⟩
theorem vx_runSW {y : MethodName} {bytes cc : ByteArray} {maxL nL mc ms n index : Nat} {ret : Option FieldType} {hh : List (Nat × Nat × Nat × Nat)} {ws : List Cond} {rm : Room} {Pc : Array Value → State → Prop} {Qc : Array Value → State → Outcome → State → Prop} {free : Addr → Prop} {Ts : List Cond} {own : String} {As rest : List Value} {g : JFrame}
    (S : CallFix p m c cc nL s args Ts own) (hM : Met l y ws rm Pc Qc mc ms free) (cw : vx_CSW R s args own index y bytes maxL ret hh ws rm mc ms n) (hp : PreS s H Pc As)
    (hg : g.method = m) (hn : As.length = n) (hsize : g.locals.size = nL) (hstack : g.stack = As.reverse ++ rest) (hW : 2 * g.monitorRoom + (rest.map fun v => v.category).sum ≤ 8) (hdg : decode cc g.pc = .ok (.invokestatic index, 3)) (hf : cells + mc ≤ R.cells ∧ slots + ms ≤ R.slots) :
    va_Run p l e R s m args below meth c H locs cells slots mc ms g rest (Qc As.toArray) (free) := by
  obtain ⟨⟨hrc, hrs, hfr, hlo, hws, hcw⟩, hcode, hini, hy, hlen, hl, hstt⟩ := cw
  have hK : Back l R p e below s args y 3 8 (PreOf R mc ms Pc) (PostOf Qc mc ms free) := va_backW (hh := hh) (bytes := bytes) (maxL := maxL) (ret := ret) hM hp.1 hrc hrs hfr hlo hws hcw (fun a' U hW => word_at hW (Or.inl (by first | rfl | simp [Cond.onTables, Cond.keeps, Cond.steady])) hini)
  obtain ⟨hx, hb, hml, ho, -⟩ := S
  intro T hT X
  obtain ⟨v, vm₁, ⟨U', l2, c2, s2⟩, hW₁, X', ⟨g', mk, t, L, e1, e2, hq, h1, hL, h2, h3⟩, st⟩ := vx_callSW X hx (hh := hh) (bytes := bytes) (maxL := maxL) (ret := ret) ho hl hstt hini hcode hy hK hg (hsize.trans hml.symm) (argsL := As) (rest := rest) (fun sig h => hn.trans (hlen sig h)) hstack hW (by rw [hb]; exact hdg)
    (fun vm₁ hW₁ => ⟨hf.1, hf.2, hp.2 (T.setVm vm₁) hT hW₁⟩)
  dsimp only [Pt.U, Pt.locs, Pt.cells, Pt.slots] at X' e1 e2 h1 h2 h3 st
  subst h1; subst h2; subst h3
  exact ⟨v, (T.setVm vm₁).calling g' mk As.toArray, t, U', L, hT, X', hL, e1, e2, hq, st⟩
/-- not caught here, past rows that name other classes: it goes on to the caller -/
theorem vx_outP {p : Program} {l : Launch} {e : Env} {R : Room} {s : State} {m : MethodId} {args : Array Value} {below : List Frame} {meth : Method} {c : Code} {H : Heap} {locs : List Loc} {cells slots : Nat} {free : Addr → Prop} {ls : Array Slot} {rest : List Value} {Qc : Array Value → State → Outcome → State → Prop} {XC : String → State → State → Prop}
    {pc : Nat} {own E : String} {ce : Cell} {q : Addr} {mc ms : Nat} (hown : s.vm.findClass own = some m.cls) (hlocks : meth.locks = false)
    (hpass : ∀ z ∈ c.exceptionTable.toList, covers z pc = false ∨ (z.catchType ≠ 0 ∧ ∃ nm : String, (Cond.classLink own z.catchType nm).before args s = true ∧ va_Nc E nm s)) (hcell : H[q]? = some ce) (hv : ce.vm = .none) (hcl : s.vm.findClass E = some ce.cls)
    (hx : ∀ t : State, t.heap = H → s.vm.Alike t.vm → XC E s t) (hf : ∀ z ∈ locs, free z.base) (hc : cells ≤ mc) (hs : slots ≤ ms) :
    vx_W p l e R s m args below meth c H locs cells slots (vx_MQ below Qc XC args s mc ms free) (F0 m pc ls rest) q := by
  intro T hT X
  have hpl : e.platform.magicAccessors = ({} : Platform).magicAccessors := by rw [X.admits.platform]
  obtain ⟨vm', hW', X', st⟩ := X.outThrough hlocks q (g := F0 m pc ls rest) rfl rfl rfl (cell := ce) (by rw [hT]; exact hcell) (by rw [hv]; rfl)
    (by obtain ⟨k9, h9, -⟩ := Vm.findClass_spec hcl; exact ⟨k9, h9⟩) (fun z hz => by
      rcases hpass z hz with h | ⟨hz0, nm, hl1, hn1⟩
      · exact Or.inl h
      · obtain ⟨c6, hc6, hcl6⟩ := Cond.classLink_spec hown hl1 e.platform hpl
        obtain ⟨a8, b8, h1, h2, h3⟩ := hn1
        cases Option.some.inj (h1.symm.trans hcl)
        cases Option.some.inj (h2.symm.trans hc6)
        exact Or.inr ⟨hz0, _, hcl6, h3⟩)
  obtain ⟨g₀, hfr⟩ := X'.frames_eq
  have hcell9 : ((T.setVm vm').setFrames (.throwing q :: below)).heap[q]? = some ce := by
    show T.heap[q]? = some ce
    rw [hT]; exact hcell
  have hend : Ended ((T.setVm vm').setFrames (.throwing q :: below)) below (.threw q) := State.frames_setFrames _ (State.cur_lt_of_frames hfr)
  refine ⟨(T.setVm vm').setFrames (.throwing q :: below), ?_, .threw q, X'.here.running, hend, Or.inr ⟨q, rfl, E, ce, locs, hx _ hT (X'.ends _).1.alike, hcell9, hv, hcl, (X'.ends _).1, (X'.ends _).2.mono hc hs, hf⟩⟩
  rw [X.pushThrowing_eq]
  exact st
/-- a thing of a world lies in the heap -/
theorem vx_lt {D : va_G} {cl : List vw_C} {ws : va_W} {H1 : Heap} (h : va_P D cl ws H1) {k : Nat} {q : Nat × va_E} (hk : ws[k]? = some q) : q.1 < H1.size := (h k q hk).lt
end VXS
/-! ===== END ===== -/
/-! ===== BEGIN methods with a table of their own: called by a name, returning or throwing ===== -/
section VXH
/-! vx_backW, vx_callVX, vx_callSX, vx_callVW, vx_runVW, vx_runVX, vx_runSX, vx_ofWH follow the same proofs as their sisters above (Free/Laws.lean, Shelf42/LK1.lean); vx_outP calls Shelf42/NT130.lean (outThrough). -/
section
variable {l : Launch} {R : Room} {p : Program} {e : Env} {below : List Frame} {s : State} {sargs : Array Value} {y : MethodName} {len W9 : Nat}
theorem vx_backW {ws : List Cond} {rm : Room} {Pc : Array Value → State → Prop} {Qc : Array Value → State → Outcome → State → Prop} {XC : String → State → State → Prop} {mc ms : Nat} {free : Addr → Prop} {bytes : ByteArray} {maxL : Nat} {ret : Option FieldType} {hh : List (Nat × Nat × Nat × Nat)}
    (hM : vx_Met l y ws rm Pc Qc XC mc ms free) (hblind : FrameBlind Pc) (hrc : rm.cells = mc) (hrs : rm.slots = ms)
    (hframes : rm.frames + 1 ≤ R.frames) (hlocals : W9 + (maxL + 11) + rm.locals ≤ R.locals)
    (hws : ∀ w ∈ ws, ∀ a' U, s.WarmedH U.vm → w.before a' U = true) (hcode : Cond.codeWith y bytes maxL ret hh ∈ ws) (hinit : ∀ a' U, s.WarmedH U.vm → (Cond.initialized y.cls).before a' U = true) :
    vx_Back l R p e below s sargs y len W9 (PreOf R mc ms Pc) (PostOf Qc mc ms free) (vx_Post XC mc ms free) := by
  intro m meth c A g ig mk a X hg hsize hdg hW hn hp
  have h1 : (headSpec ws rm).pre.before a A.U = true := atoms_intro fun w hw => hws w hw _ _ X.warmed
  have h2 : (Cond.codeWith y bytes maxL ret hh).before a A.U = true := hws _ hcode _ _ X.warmed
  have h3 : (Cond.initialized y.cls).before a A.U = true := hinit _ _ X.warmed
  have h4 : A.cells + (headSpec ws rm).room.cells ≤ R.cells := by rw [show (headSpec ws rm).room.cells = mc from hrc]; exact hp.1
  have h5 : A.slots + (headSpec ws rm).room.slots ≤ R.slots := by rw [show (headSpec ws rm).room.slots = ms from hrs]; exact hp.2.1
  have hPc : Pc a (A.U.calling g mk a) := hblind _ _ _ _ hp.2.2
  obtain ⟨U, Ls, c0, s0⟩ := A
  dsimp only [Pt.U, Pt.locs, Pt.cells, Pt.slots] at h1 h2 h3 h4 h5 X hn hPc ⊢
  obtain ⟨m9, methY, cY, hn9, hmY, hcY, -, hlY, -⟩ := Cond.codeWith_spec h2
  cases Option.some.inj (hn9.symm.trans hn)
  obtain ⟨kY, hkY, -⟩ := className_of_methodNamed hn
  have hinitY : kY.init = .initialized := Cond.initialized_spec (findClass_of_methodNamed hn) hkY h3
  have h : At U g.method c below := by rw [hg]; exact X.here
  have hlocals9 : W9 + (maxL + 11) + (headSpec ws rm).room.locals ≤ R.locals := hlocals
  have happ : (headSpec ws rm).appliesLoose y e.platform (U.calling g mk a) = true :=
    Spec.appliesLoose_calling (g := g) h hdg hn hkY hinitY
      (X.room_calling (g := g) (R' := (headSpec ws rm).room) hsize hmY hcY hframes (by rw [hlY]; omega) h4 h5) h1
  obtain ⟨mid, hmid⟩ := h.above
  have hfr : (U.setTop g).frames = (.java g :: mid) ++ below := by rw [State.frames_setTop' g h.top, hmid]; rfl
  obtain ⟨o, s₂, hsteps, -, hend, hq⟩ := Steps.callFree hM p X.admits X.cas X.clock (acts := []) hfr happ hPc trivial
  have hq' : vx_Q Qc XC mc ms free a (U.calling g mk a) o s₂ := hq
  rw [State.frames_setTop' g h.top] at hend
  obtain ⟨g₀, hg0⟩ := Option.isSome_iff_exists.mp h.top
  obtain ⟨r, hr⟩ := State.topJava?_eq_some.mp hg0
  have hr' : (({ U with heap := s₂.heap, slotsUsed := s₂.slotsUsed } : State).setVm s₂.vm).frames = .java g₀ :: r := hr
  rcases hq' with ⟨hqc, L, hfe, hL⟩ | ⟨q, rfl, E, ce, L, hx, hce, hcv, hcl, hW₂, hsm, hL⟩
  · obtain ⟨⟨v, rfl⟩, hW₂, e2, q2, q3, q4, q5, q6⟩ := id hfe
    have e3 : s₂ = ({ (U.calling g mk a).setFrames s₂.frames with heap := s₂.heap, slotsUsed := s₂.slotsUsed } : State).setVm s₂.vm := by
      have : s₂ = ({ s₂ with vm := (U.calling g mk a).vm } : State).setVm s₂.vm := rfl
      rw [e2] at this
      exact this
    obtain ⟨c₂, i₂, len₂, hc₂, hd₂, hf₂⟩ := hend
    have hW' : U.WarmedH s₂.vm := hW₂
    have hcc : c₂ = c := by
      have h1 : s₂.code? g.method = U.code? g.method := by
        rw [State.code?_eq, State.code?_eq, hW'.alike.method?]
      exact Option.some.inj (hc₂.symm.trans (h1.trans h.code))
    subst hcc
    have hlen : len₂ = len := by rw [hdg] at hd₂; cases hd₂; rfl
    subst hlen
    have hs₂ : s₂ = (({ U with heap := s₂.heap, slotsUsed := s₂.slotsUsed } : State).setVm s₂.vm).setTop { g with pc := g.pc + len₂, stack := v.toList ++ g.stack } := by
      refine e3.trans ?_
      rw [hf₂, State.calling_eq h.top, State.setFrames_setFrames, State.setTop_of_frames _ hr', hr]
      rfl
    have hsame : U.sameButNew ({ U with heap := s₂.heap, slotsUsed := s₂.slotsUsed } : State) L mc ms := by
      refine ⟨?_, q2, q3, q4, q5, q6⟩
      obtain ⟨t, ht, -⟩ := State.frames_cons hr
      show ({ U with heap := s₂.heap, slotsUsed := s₂.slotsUsed } : State) = { U.setFrames U.frames with heap := s₂.heap, slotsUsed := s₂.slotsUsed }
      rw [State.setFrames_self ht]
    subst hg
    refine Or.inl ⟨v, ⟨(({ U with heap := s₂.heap, slotsUsed := s₂.slotsUsed } : State).setVm s₂.vm), Ls ++ L, c0 + mc, s0 + ms⟩,
      ⟨X.admits, X.cas, X.clock, X.frames, X.room, X.hears, X.method, X.code, (X.here.setHeapUsed s₂.heap s₂.slotsUsed).setVm hW'.alike, X.tail, State.WarmedH.trans X.warmed hW', X.limits, X.bytes, X.same.trans (hsame.setVm s.vm)⟩,
      ⟨g, mk, s₂, L, rfl, rfl, hqc, rfl, hL, rfl, rfl⟩, ?_⟩
    show Steps p.tables e below _ ((({ U with heap := s₂.heap, slotsUsed := s₂.slotsUsed } : State).setVm s₂.vm).setTop { g with pc := g.pc + len₂, stack := v.toList ++ g.stack })
    rw [← hs₂]
    exact hsteps
  · obtain ⟨e2, q2, q3, q4, q5, q6⟩ := id hsm
    have e3 : s₂ = ({ (U.calling g mk a).setFrames s₂.frames with heap := s₂.heap, slotsUsed := s₂.slotsUsed } : State).setVm s₂.vm := by
      have : s₂ = ({ s₂ with vm := (U.calling g mk a).vm } : State).setVm s₂.vm := rfl
      rw [e2] at this
      exact this
    have hf₂ : s₂.frames = .throwing q :: .java g :: U.frames.tail := hend
    have hW' : U.WarmedH s₂.vm := hW₂
    have hs₂ : s₂ = ((({ U with heap := s₂.heap, slotsUsed := s₂.slotsUsed } : State).setVm s₂.vm).setTop g).pushFrame (.throwing q) := by
      refine e3.trans ?_
      rw [hf₂, State.calling_eq h.top, State.setFrames_setFrames, State.pushFrame, State.frames_setTop _ hr', State.setTop_of_frames _ hr', State.setFrames_setFrames, hr]
      rfl
    have hsame : U.sameButNew ({ U with heap := s₂.heap, slotsUsed := s₂.slotsUsed } : State) L mc ms := by
      refine ⟨?_, q2, q3, q4, q5, q6⟩
      obtain ⟨t, ht, -⟩ := State.frames_cons hr
      show ({ U with heap := s₂.heap, slotsUsed := s₂.slotsUsed } : State) = { U.setFrames U.frames with heap := s₂.heap, slotsUsed := s₂.slotsUsed }
      rw [State.setFrames_self ht]
    subst hg
    refine Or.inr ⟨q, ⟨(({ U with heap := s₂.heap, slotsUsed := s₂.slotsUsed } : State).setVm s₂.vm), Ls ++ L, c0 + mc, s0 + ms⟩,
      ⟨X.admits, X.cas, X.clock, X.frames, X.room, X.hears, X.method, X.code, (X.here.setHeapUsed s₂.heap s₂.slotsUsed).setVm hW'.alike, X.tail, State.WarmedH.trans X.warmed hW', X.limits, X.bytes, X.same.trans (hsame.setVm s.vm)⟩,
      ⟨g, mk, s₂, L, E, ce, rfl, rfl, hx, hce, hcv, hcl, rfl, hL, rfl, rfl⟩, ?_⟩
    show Steps p.tables e below _ (((({ U with heap := s₂.heap, slotsUsed := s₂.slotsUsed } : State).setVm s₂.vm).setTop g).pushFrame (.throwing q))
    rw [← hs₂]
    exact hsteps
end
variable {p : Program} {l : Launch} {e : Env} {R : Room} {s : State} {m : MethodId} {args : Array Value} {below : List Frame} {meth : Method} {c : Code} {T : State} {H : Heap} {locs : List Loc} {cells slots : Nat}
theorem vx_callVX (X : Stand p l e R s m args below meth c T locs cells slots) (hexec : p.tables.exec = Jvm.exec) {own C : String} {index : Nat} {y : MethodName} {bytes : ByteArray} {maxL : Nat} {ret : Option FieldType} {hh : List (Nat × Nat × Nat × Nat)}
    (hown : s.vm.findClass own = some m.cls) (hlink : (Cond.methodLink own index y).before args s = true) (hinst : (Cond.instanceMethod y).before args s = true) (hsel : (Cond.selects C y y).before args s = true)
    (hcode : (Cond.codeWith y bytes maxL ret hh).before args s = true) (hy : y.cls ≠ "java/lang/invoke/MethodHandle" ∧ y.cls ≠ "java/lang/invoke/VarHandle")
    {W9 : Nat} {Pre : Pt → Array Value → Prop} {Post : Pt → Array Value → Option Value → Pt → Prop} {PostX : Pt → Array Value → Addr → Pt → Prop} (hK : vx_Back l R p e below s args y 3 W9 Pre Post PostX)
    {b : Addr} {cellB : Cell} (hcell : T.heap[b]? = some cellB) (hobj : cellB.vm.isStatics = false) (hcls : s.vm.findClass C = some cellB.cls)
    {g : JFrame} (hg : g.method = m) (hsize : g.locals.size = c.maxLocals) {argsL rest : List Value} (hlen : ∀ sig, parseMethodDescriptor y.desc = some sig → argsL.length = sig.parameters.length)
    (hstack : g.stack = argsL.reverse ++ .ref b :: rest) (hW : 2 * g.monitorRoom + (rest.map fun v => v.category).sum ≤ W9) (hdg : decode c.code g.pc = .ok (.invokevirtual index, 3))
    (hpre : ∀ vm₁, s.WarmedH vm₁ → Pre ⟨T.setVm vm₁, locs, cells, slots⟩ (Value.ref b :: argsL).toArray) :
    (∃ (v : Option Value) (vm₁ : Vm) (B : Pt), s.WarmedH vm₁ ∧ Stand p l e R s m args below meth c B.U B.locs B.cells B.slots ∧ Post ⟨T.setVm vm₁, locs, cells, slots⟩ (Value.ref b :: argsL).toArray v B ∧
      ∀ target, Steps p.tables e below (B.U.setTop { g with pc := g.pc + 3, stack := v.toList ++ rest }) target → Steps p.tables e below (T.setTop g) target) ∨
    (∃ (q : Addr) (vm₁ : Vm) (B : Pt), s.WarmedH vm₁ ∧ Stand p l e R s m args below meth c B.U B.locs B.cells B.slots ∧ PostX ⟨T.setVm vm₁, locs, cells, slots⟩ (Value.ref b :: argsL).toArray q B ∧
      Steps p.tables e below (T.setTop g) ((B.U.setTop { g with stack := rest }).pushFrame (.throwing q))) := by
  obtain ⟨mk, methM, hnamed, hmethM, hstM, habM⟩ := Cond.instanceMethod_spec hinst
  obtain ⟨m8, methM', cM, hn8, hmethM', -, -, -, -, -, -, hsigM⟩ := Cond.codeWith_spec hcode
  cases Option.some.inj (hn8.symm.trans hnamed)
  cases hmethM.symm.trans hmethM'
  obtain ⟨c2, r2, m2, q1, q2, q3, q4, kP, hkP, hkPi⟩ := Cond.selects_spec hsel
  cases hcls.symm.trans q1
  cases (State.methodFound?_of_named hnamed hy).symm.trans q2
  cases hnamed.symm.trans q3
  have hselP : selectMethod e.platform s.vm cellB.cls mk = .method mk := by rw [Launch.admits_selectMethod X.admits]; exact q4
  obtain ⟨vm₁, X₁, hstep₁⟩ := X.invokevirtual hexec hown hlink hnamed hmethM hstM hkP hkPi hy (a := b) (cell := cellB) hcell
    (fun z h => by rw [h] at hobj; cases hobj) hselP hmethM habM hkP hkPi (g := g) hg (argsL := argsL) (rest := rest) (hlen _ hsigM) hstack hdg
  rcases hK m meth c ⟨T.setVm vm₁, locs, cells, slots⟩ { g with stack := rest } (.invokevirtual index) mk (Value.ref b :: argsL).toArray X₁ hg hsize hdg hW (X₁.named hnamed) (hpre vm₁ X₁.warmed) with ⟨v, B, X', hpost, hsteps⟩ | ⟨q, B, X', hpost, hsteps⟩
  · exact Or.inl ⟨v, vm₁, B, X₁.warmed, X', hpost, fun target h => hstep₁ _ fun acts => by rw [doInvoke_state]; exact hsteps.trans h⟩
  · exact Or.inr ⟨q, vm₁, B, X₁.warmed, X', hpost, hstep₁ _ fun acts => by rw [doInvoke_state]; exact hsteps⟩
theorem vx_callSX (X : Stand p l e R s m args below meth c T locs cells slots) (hexec : p.tables.exec = Jvm.exec) {own : String} {index : Nat} {y : MethodName} {bytes : ByteArray} {maxL : Nat} {ret : Option FieldType} {hh : List (Nat × Nat × Nat × Nat)}
    (hown : s.vm.findClass own = some m.cls) (hlink : (Cond.methodLink own index y).before args s = true) (hstat : (Cond.static y).before args s = true) (hinit : (Cond.initialized y.cls).before args s = true)
    (hcode : (Cond.codeWith y bytes maxL ret hh).before args s = true) (hy : y.cls ≠ "java/lang/invoke/MethodHandle" ∧ y.cls ≠ "java/lang/invoke/VarHandle")
    {W9 : Nat} {Pre : Pt → Array Value → Prop} {Post : Pt → Array Value → Option Value → Pt → Prop} {PostX : Pt → Array Value → Addr → Pt → Prop} (hK : vx_Back l R p e below s args y 3 W9 Pre Post PostX)
    {g : JFrame} (hg : g.method = m) (hsize : g.locals.size = c.maxLocals) {argsL rest : List Value} (hlen : ∀ sig, parseMethodDescriptor y.desc = some sig → argsL.length = sig.parameters.length)
    (hstack : g.stack = argsL.reverse ++ rest) (hW : 2 * g.monitorRoom + (rest.map fun v => v.category).sum ≤ W9) (hdg : decode c.code g.pc = .ok (.invokestatic index, 3))
    (hpre : ∀ vm₁, s.WarmedH vm₁ → Pre ⟨T.setVm vm₁, locs, cells, slots⟩ argsL.toArray) :
    (∃ (v : Option Value) (vm₁ : Vm) (B : Pt), s.WarmedH vm₁ ∧ Stand p l e R s m args below meth c B.U B.locs B.cells B.slots ∧ Post ⟨T.setVm vm₁, locs, cells, slots⟩ argsL.toArray v B ∧
      ∀ target, Steps p.tables e below (B.U.setTop { g with pc := g.pc + 3, stack := v.toList ++ rest }) target → Steps p.tables e below (T.setTop g) target) ∨
    (∃ (q : Addr) (vm₁ : Vm) (B : Pt), s.WarmedH vm₁ ∧ Stand p l e R s m args below meth c B.U B.locs B.cells B.slots ∧ PostX ⟨T.setVm vm₁, locs, cells, slots⟩ argsL.toArray q B ∧
      Steps p.tables e below (T.setTop g) ((B.U.setTop { g with stack := rest }).pushFrame (.throwing q))) := by
  obtain ⟨mk, methM, cM, hnamed, hmethM, -, -, -, -, -, -, hsigM⟩ := Cond.codeWith_spec hcode
  have hstatic : methM.isStatic = true := Cond.static_spec hnamed hmethM hstat
  obtain ⟨kP, hkP, -⟩ := className_of_methodNamed hnamed
  have hinitP : kP.init = .initialized := Cond.initialized_spec (findClass_of_methodNamed hnamed) hkP hinit
  obtain ⟨vm₁, X₁, hstep₁⟩ := X.invokestatic hexec hown hlink hnamed hmethM hstatic hkP hinitP hy (g := g) hg (argsL := argsL) (rest := rest) (hlen _ hsigM) hstack hdg
  rcases hK m meth c ⟨T.setVm vm₁, locs, cells, slots⟩ { g with stack := rest } (.invokestatic index) mk argsL.toArray X₁ hg hsize hdg hW (X₁.named hnamed) (hpre vm₁ X₁.warmed) with ⟨v, B, X', hpost, hsteps⟩ | ⟨q, B, X', hpost, hsteps⟩
  · exact Or.inl ⟨v, vm₁, B, X₁.warmed, X', hpost, fun target h => hstep₁ _ fun acts => by rw [doInvoke_state]; exact hsteps.trans h⟩
  · exact Or.inr ⟨q, vm₁, B, X₁.warmed, X', hpost, hstep₁ _ fun acts => by rw [doInvoke_state]; exact hsteps⟩
theorem vx_callVW (X : Stand p l e R s m args below meth c T locs cells slots) (hexec : p.tables.exec = Jvm.exec) {own C : String} {index : Nat} {y : MethodName} {bytes : ByteArray} {maxL : Nat} {ret : Option FieldType} {hh : List (Nat × Nat × Nat × Nat)}
    (hown : s.vm.findClass own = some m.cls) (hlink : (Cond.methodLink own index y).before args s = true) (hinst : (Cond.instanceMethod y).before args s = true) (hsel : (Cond.selects C y y).before args s = true)
    (hcode : (Cond.codeWith y bytes maxL ret hh).before args s = true) (hy : y.cls ≠ "java/lang/invoke/MethodHandle" ∧ y.cls ≠ "java/lang/invoke/VarHandle")
    {W9 : Nat} {Pre : Pt → Array Value → Prop} {Post : Pt → Array Value → Option Value → Pt → Prop} (hK : Back l R p e below s args y 3 W9 Pre Post)
    {b : Addr} {cellB : Cell} (hcell : T.heap[b]? = some cellB) (hobj : cellB.vm.isStatics = false) (hcls : s.vm.findClass C = some cellB.cls)
    {g : JFrame} (hg : g.method = m) (hsize : g.locals.size = c.maxLocals) {argsL rest : List Value} (hlen : ∀ sig, parseMethodDescriptor y.desc = some sig → argsL.length = sig.parameters.length)
    (hstack : g.stack = argsL.reverse ++ .ref b :: rest) (hW : 2 * g.monitorRoom + (rest.map fun v => v.category).sum ≤ W9) (hdg : decode c.code g.pc = .ok (.invokevirtual index, 3))
    (hpre : ∀ vm₁, s.WarmedH vm₁ → Pre ⟨T.setVm vm₁, locs, cells, slots⟩ (Value.ref b :: argsL).toArray) :
    ∃ (v : Option Value) (vm₁ : Vm) (B : Pt), s.WarmedH vm₁ ∧ Stand p l e R s m args below meth c B.U B.locs B.cells B.slots ∧ Post ⟨T.setVm vm₁, locs, cells, slots⟩ (Value.ref b :: argsL).toArray v B ∧
      ∀ target, Steps p.tables e below (B.U.setTop { g with pc := g.pc + 3, stack := v.toList ++ rest }) target → Steps p.tables e below (T.setTop g) target := by
  obtain ⟨mk, methM, hnamed, hmethM, hstM, habM⟩ := Cond.instanceMethod_spec hinst
  obtain ⟨m8, methM', cM, hn8, hmethM', -, -, -, -, -, -, hsigM⟩ := Cond.codeWith_spec hcode
  cases Option.some.inj (hn8.symm.trans hnamed)
  cases hmethM.symm.trans hmethM'
  obtain ⟨c2, r2, m2, q1, q2, q3, q4, kP, hkP, hkPi⟩ := Cond.selects_spec hsel
  cases hcls.symm.trans q1
  cases (State.methodFound?_of_named hnamed hy).symm.trans q2
  cases hnamed.symm.trans q3
  have hselP : selectMethod e.platform s.vm cellB.cls mk = .method mk := by rw [Launch.admits_selectMethod X.admits]; exact q4
  obtain ⟨vm₁, X₁, hstep₁⟩ := X.invokevirtual hexec hown hlink hnamed hmethM hstM hkP hkPi hy (a := b) (cell := cellB) hcell
    (fun z h => by rw [h] at hobj; cases hobj) hselP hmethM habM hkP hkPi (g := g) hg (argsL := argsL) (rest := rest) (hlen _ hsigM) hstack hdg
  obtain ⟨v, B, X', hpost, hsteps⟩ := hK m meth c ⟨T.setVm vm₁, locs, cells, slots⟩ { g with stack := rest } (.invokevirtual index) mk (Value.ref b :: argsL).toArray X₁ hg hsize hdg hW (X₁.named hnamed) (hpre vm₁ X₁.warmed)
  exact ⟨v, vm₁, B, X₁.warmed, X', hpost, fun target h => hstep₁ _ fun acts => by rw [doInvoke_state]; exact hsteps.trans h⟩
abbrev vx_CVW (R : Room) (s : State) (args : Array Value) (own C : String) (index : Nat) (y : MethodName) (bytes : ByteArray) (maxL : Nat) (ret : Option FieldType) (hh : List (Nat × Nat × Nat × Nat)) (ws : List Cond) (rm : Room) (mc ms n : Nat) : Prop :=
  (rm.cells = mc ∧ rm.slots = ms ∧ rm.frames + 1 ≤ R.frames ∧ 8 + (maxL + 11) + rm.locals ≤ R.locals ∧ (∀ w ∈ ws, ∀ (a' : Array Value) (U : State), s.WarmedH U.vm → w.before a' U = true) ∧ Cond.codeWith y bytes maxL ret hh ∈ ws) ∧
  (Cond.codeWith y bytes maxL ret hh).before args s = true ∧ (Cond.initialized y.cls).before args s = true ∧ (y.cls ≠ "java/lang/invoke/MethodHandle" ∧ y.cls ≠ "java/lang/invoke/VarHandle") ∧
  (∀ sig, parseMethodDescriptor y.desc = some sig → n = sig.parameters.length) ∧ (Cond.methodLink own index y).before args s = true ∧ (Cond.instanceMethod y).before args s = true ∧ (Cond.selects C y y).before args s = true
theorem vx_cwVW {own C : String} {index maxL mc ms : Nat} {y : MethodName} {bytes : ByteArray} {ret : Option FieldType} {hh : List (Nat × Nat × Nat × Nat)} {Ts ws ws' : List Cond} {rm : Room} (n : Nat) (ht : ∀ w ∈ Ts, w.before args s = true) (hT : GoodIn Ts (wsV own index C y ws)) (hw : ws = Cond.codeWith y bytes maxL ret hh :: ws') (hrc : rm.cells = mc) (hrs : rm.slots = ms)
    (hd : y.cls = C ∧ y.cls ≠ "java/lang/invoke/MethodHandle" ∧ y.cls ≠ "java/lang/invoke/VarHandle" ∧ (parseMethodDescriptor y.desc).map (fun d => d.parameters.length) = some n) (hR : rm.frames + 1 ≤ R.frames ∧ 8 + (maxL + 11) + rm.locals ≤ R.locals) :
    vx_CVW R s args own C index y bytes maxL ret hh ws rm mc ms n := by
  obtain ⟨hC, hd⟩ := hd
  subst hC
  have ok : ∀ w ∈ wsV own index y.cls y ws, w.before args s = true := fun w h => ht w (hT w h).1
  have hG : GoodIn Ts ws := fun w h => hT w (by unfold wsV; exact List.mem_append_right _ h)
  have hc : Cond.codeWith y bytes maxL ret hh ∈ ws := by rw [hw]; exact List.mem_cons_self
  refine ⟨⟨hrc, hrs, hR.1, hR.2, pay_in ht hG, hc⟩, ht _ (hG _ hc).1, ok _ (by simp [wsV]), ⟨hd.1, hd.2.1⟩, fun sig h => ?_, ok _ (by simp [wsV]), ok _ (by simp [wsV]), ok _ (by simp [wsV])⟩
  have h2 := hd.2.2
  rw [h] at h2
  exact (Option.some.inj h2).symm
theorem vx_runVW {y : MethodName} {bytes cc : ByteArray} {maxL nL mc ms n index : Nat} {ret : Option FieldType} {hh : List (Nat × Nat × Nat × Nat)} {ws : List Cond} {rm : Room} {Pc : Array Value → State → Prop} {Qc : Array Value → State → Outcome → State → Prop} {free : Addr → Prop} {Ts : List Cond} {own C : String} {b : Addr} {As rest : List Value} {g : JFrame}
    (S : CallFix p m c cc nL s args Ts own) (hM : Met l y ws rm Pc Qc mc ms free) (cw : vx_CVW R s args own C index y bytes maxL ret hh ws rm mc ms n) (hp : PreV s H C b Pc As)
    (hg : g.method = m) (hn : As.length = n) (hsize : g.locals.size = nL) (hstack : g.stack = As.reverse ++ .ref b :: rest) (hW : 2 * g.monitorRoom + (rest.map fun v => v.category).sum ≤ 8) (hdg : decode cc g.pc = .ok (.invokevirtual index, 3)) (hf : cells + mc ≤ R.cells ∧ slots + ms ≤ R.slots) :
    va_Run p l e R s m args below meth c H locs cells slots mc ms g rest (Qc (Value.ref b :: As).toArray) free := by
  obtain ⟨⟨hrc, hrs, hfr, hlo, hws, hcw⟩, hcode, hini, hy, hlen, hl, hin, hse⟩ := cw
  have hK : Back l R p e below s args y 3 8 (PreOf R mc ms Pc) (PostOf Qc mc ms free) := va_backW (hh := hh) (bytes := bytes) (maxL := maxL) (ret := ret) hM hp.1 hrc hrs hfr hlo hws hcw (fun a' U hW => word_at hW (Or.inl (by first | rfl | simp [Cond.onTables, Cond.keeps, Cond.steady])) hini)
  obtain ⟨hx, hb, hml, ho, -⟩ := S
  obtain ⟨-, ⟨cellB, hcB, hoB, hclB⟩, hPc⟩ := hp
  intro T hT X
  obtain ⟨v, vm₁, ⟨U', l2, c2, s2⟩, hW₁, X', ⟨g', mk, t, L, e1, e2, hq, h1, hL, h2, h3⟩, st⟩ := vx_callVW X hx (C := C) (hh := hh) (bytes := bytes) (maxL := maxL) (ret := ret) ho hl hin hse hcode hy hK (by rw [hT]; exact hcB) hoB hclB hg (hsize.trans hml.symm) (argsL := As) (rest := rest) (fun sig h => hn.trans (hlen sig h)) hstack hW (by rw [hb]; exact hdg)
    (fun vm₁ hW₁ => ⟨hf.1, hf.2, hPc (T.setVm vm₁) hT hW₁⟩)
  dsimp only [Pt.U, Pt.locs, Pt.cells, Pt.slots] at X' e1 e2 h1 h2 h3 st
  subst h1; subst h2; subst h3
  exact ⟨v, (T.setVm vm₁).calling g' mk (Value.ref b :: As).toArray, t, U', L, hT, X', hL, e1, e2, hq, st⟩
section
variable {y : MethodName} {bytes cc : ByteArray} {maxL nL mc ms n index : Nat} {ret : Option FieldType} {ws : List Cond} {rm : Room} {Pc : Array Value → State → Prop} {Qc : Array Value → State → Outcome → State → Prop} {XC : String → State → State → Prop} {free : Addr → Prop} {Ts : List Cond} {own C : String} {b : Addr} {As rest : List Value} {g : JFrame}
theorem vx_runVX {hh : List (Nat × Nat × Nat × Nat)} (S : CallFix p m c cc nL s args Ts own) (hM : vx_Met l y ws rm Pc Qc XC mc ms free) (cw : vx_CVW R s args own C index y bytes maxL ret hh ws rm mc ms n) (hp : PreV s H C b Pc As)
    (hg : g.method = m) (hn : As.length = n) (hsize : g.locals.size = nL) (hstack : g.stack = As.reverse ++ .ref b :: rest) (hW : 2 * g.monitorRoom + (rest.map fun v => v.category).sum ≤ 8) (hdg : decode cc g.pc = .ok (.invokevirtual index, 3)) (hf : cells + mc ≤ R.cells ∧ slots + ms ≤ R.slots) :
    vx_Run p l e R s m args below meth c H locs cells slots mc ms g rest (Qc (Value.ref b :: As).toArray) XC free := by
  obtain ⟨⟨hrc, hrs, hfr, hlo, hws, hcw⟩, hcode, hini, hy, hlen, hl, hin, hse⟩ := cw
  have hK : vx_Back l R p e below s args y 3 8 (PreOf R mc ms Pc) (PostOf Qc mc ms free) (vx_Post XC mc ms free) := vx_backW (hh := hh) (bytes := bytes) (maxL := maxL) (ret := ret) hM hp.1 hrc hrs hfr hlo hws hcw (fun a' U hW => word_at hW (Or.inl (by first | rfl | simp [Cond.onTables, Cond.keeps, Cond.steady])) hini)
  obtain ⟨hx, hb, hml, ho, -⟩ := S
  obtain ⟨-, ⟨cellB, hcB, hoB, hclB⟩, hPc⟩ := hp
  intro T hT X
  rcases vx_callVX X hx (C := C) (hh := hh) (bytes := bytes) (maxL := maxL) (ret := ret) ho hl hin hse hcode hy hK (by rw [hT]; exact hcB) hoB hclB hg (hsize.trans hml.symm) (argsL := As) (rest := rest) (fun sig h => hn.trans (hlen sig h)) hstack hW (by rw [hb]; exact hdg)
    (fun vm₁ hW₁ => ⟨hf.1, hf.2, hPc (T.setVm vm₁) hT hW₁⟩) with ⟨v, vm₁, ⟨U', l2, c2, s2⟩, hW₁, X', ⟨g', mk, t, L, e1, e2, hq, h1, hL, h2, h3⟩, st⟩ | ⟨q, vm₁, ⟨U', l2, c2, s2⟩, hW₁, X', ⟨g', mk, t, L, E, ce, e1, e2, hq, hce, hcv, hcl, h1, hL, h2, h3⟩, st⟩
  · dsimp only [Pt.U, Pt.locs, Pt.cells, Pt.slots] at X' e1 e2 h1 h2 h3 st
    subst h1; subst h2; subst h3
    exact Or.inl ⟨v, (T.setVm vm₁).calling g' mk (Value.ref b :: As).toArray, t, U', L, hT, X', hL, e1, e2, hq, st⟩
  · dsimp only [Pt.U, Pt.locs, Pt.cells, Pt.slots] at X' e1 e2 h1 h2 h3 st hcl
    subst h1; subst h2; subst h3
    exact Or.inr ⟨q, (T.setVm vm₁).calling g' mk (Value.ref b :: As).toArray, t, U', L, E, ce, hT, X', hL, e1, e2, hq, hce, hcv, vx_cls hW₁ hcl, st⟩
theorem vx_runSX {hh : List (Nat × Nat × Nat × Nat)} (S : CallFix p m c cc nL s args Ts own) (hM : vx_Met l y ws rm Pc Qc XC mc ms free) (cw : vx_CSW R s args own index y bytes maxL ret hh ws rm mc ms n) (hp : PreS s H Pc As)
    (hg : g.method = m) (hn : As.length = n) (hsize : g.locals.size = nL) (hstack : g.stack = As.reverse ++ rest) (hW : 2 * g.monitorRoom + (rest.map fun v => v.category).sum ≤ 8) (hdg : decode cc g.pc = .ok (.invokestatic index, 3)) (hf : cells + mc ≤ R.cells ∧ slots + ms ≤ R.slots) :
    vx_Run p l e R s m args below meth c H locs cells slots mc ms g rest (Qc As.toArray) XC free := by
  obtain ⟨⟨hrc, hrs, hfr, hlo, hws, hcw⟩, hcode, hini, hy, hlen, hl, hstt⟩ := cw
  have hK : vx_Back l R p e below s args y 3 8 (PreOf R mc ms Pc) (PostOf Qc mc ms free) (vx_Post XC mc ms free) := vx_backW (hh := hh) (bytes := bytes) (maxL := maxL) (ret := ret) hM hp.1 hrc hrs hfr hlo hws hcw (fun a' U hW => word_at hW (Or.inl (by first | rfl | simp [Cond.onTables, Cond.keeps, Cond.steady])) hini)
  obtain ⟨hx, hb, hml, ho, -⟩ := S
  intro T hT X
  rcases vx_callSX X hx (hh := hh) (bytes := bytes) (maxL := maxL) (ret := ret) ho hl hstt hini hcode hy hK hg (hsize.trans hml.symm) (argsL := As) (rest := rest) (fun sig h => hn.trans (hlen sig h)) hstack hW (by rw [hb]; exact hdg)
    (fun vm₁ hW₁ => ⟨hf.1, hf.2, hp.2 (T.setVm vm₁) hT hW₁⟩) with ⟨v, vm₁, ⟨U', l2, c2, s2⟩, hW₁, X', ⟨g', mk, t, L, e1, e2, hq, h1, hL, h2, h3⟩, st⟩ | ⟨q, vm₁, ⟨U', l2, c2, s2⟩, hW₁, X', ⟨g', mk, t, L, E, ce, e1, e2, hq, hce, hcv, hcl, h1, hL, h2, h3⟩, st⟩
  · dsimp only [Pt.U, Pt.locs, Pt.cells, Pt.slots] at X' e1 e2 h1 h2 h3 st
    subst h1; subst h2; subst h3
    exact Or.inl ⟨v, (T.setVm vm₁).calling g' mk As.toArray, t, U', L, hT, X', hL, e1, e2, hq, st⟩
  · dsimp only [Pt.U, Pt.locs, Pt.cells, Pt.slots] at X' e1 e2 h1 h2 h3 st hcl
    subst h1; subst h2; subst h3
    exact Or.inr ⟨q, (T.setVm vm₁).calling g' mk As.toArray, t, U', L, E, ce, hT, X', hL, e1, e2, hq, hce, hcv, vx_cls hW₁ hcl, st⟩
end
end VXH
theorem vx_ofWH {l : Launch} {y : MethodName} {ws ws' : List Cond} {rm : Room} {Pc : Array Value → State → Prop} {Qc : Array Value → State → Outcome → State → Prop} {XC : String → State → State → Prop} {mc ms : Nat} {free : Addr → Prop} {cc : ByteArray} {maxL : Nat} {ret : Option FieldType} {hh : List (Nat × Nat × Nat × Nat)}
    (hy : plainName y.cls = true) (hw : ws = Cond.codeWith y cc maxL ret hh :: ws')
    (body : ∀ p e s m args below meth c s₁, BodyLoose p l y (headSpec ws rm) cc maxL ret e s m args below meth c s₁ → c.maxLocals = maxL → Pc args s →
      W p l e (headSpec ws rm).room s m args below meth c s.heap [] 0 0 (vx_MQ below Qc XC args s mc ms free) (entryFrame m args maxL)) : vx_Met l y ws rm Pc Qc XC mc ms free := by
  refine MetFree.of_bodyS (code := cc) (maxLocals := maxL) (ret := ret) hy ?_ ?_
  · intro args s m h hn
    obtain ⟨m9, meth, c, hn9, h1, h2, h3, h4, -, h5, h6, -⟩ := Cond.codeWith_spec (atoms_spec (ws := ws) h _ (by rw [hw]; exact List.mem_cons_self))
    cases hn.symm.trans hn9
    exact ⟨meth, c, h1, h2, h3, h4, h5, h6⟩
  · intro p e s m args below meth c s₁ B hml hP _
    have hh0 : s₁.heap = s.heap := by rw [B.state]; rfl
    obtain ⟨t, a1, o, b1, b2, b3⟩ := body p e s m args below meth c s₁ B hml hP s₁ hh0 (Stand.of_body B)
    exact ⟨t, o, a1, b1, b2, b3⟩
/-! ===== END ===== -/
/-! ===== BEGIN a constructor that throws (launches without stack traces) ===== -/
section VXIA
variable {p : Program} {l : Launch} {e : Env} {R : Room} {s : State} {m : MethodId} {args : Array Value} {below : List Frame} {meth : Method} {c : Code} {T : State} {locs : List Loc} {cells slots : Nat}
theorem vx_callI (X : Stand p l e R s m args below meth c T locs cells slots) (hexec : p.tables.exec = Jvm.exec) {own : String} {index : Nat} {y : MethodName} {bytes : ByteArray} {maxL : Nat}
    (hown : s.vm.findClass own = some m.cls) (hy1 : y.name = "<init>") (hlink : (Cond.methodLink own index y).before args s = true) (hinst : (Cond.instanceMethod y).before args s = true)
    (hcode : (Cond.code y bytes maxL none).before args s = true) (hy : y.cls ≠ "java/lang/invoke/MethodHandle" ∧ y.cls ≠ "java/lang/invoke/VarHandle")
    {W9 : Nat} {Pre : Pt → Array Value → Prop} {Post : Pt → Array Value → Option Value → Pt → Prop} {PostX : Pt → Array Value → Addr → Pt → Prop} (hK : vx_Back l R p e below s args y 3 W9 Pre Post PostX)
    {g : JFrame} (hg : g.method = m) (hsize : g.locals.size = c.maxLocals) {a : Addr} {argsL rest : List Value} (hlen : ∀ sig, parseMethodDescriptor y.desc = some sig → argsL.length = sig.parameters.length)
    (hstack : g.stack = argsL.reverse ++ .ref a :: rest) (hW : 2 * g.monitorRoom + (rest.map fun v => v.category).sum ≤ W9) (hdg : decode c.code g.pc = .ok (.invokespecial index, 3))
    (hpre : ∀ vm₁, s.WarmedH vm₁ → Pre ⟨T.setVm vm₁, locs, cells, slots⟩ (Value.ref a :: argsL).toArray) :
    (∃ (v : Option Value) (vm₁ : Vm) (B : Pt), s.WarmedH vm₁ ∧ Stand p l e R s m args below meth c B.U B.locs B.cells B.slots ∧ Post ⟨T.setVm vm₁, locs, cells, slots⟩ (Value.ref a :: argsL).toArray v B ∧
      ∀ target, Steps p.tables e below (B.U.setTop { g with pc := g.pc + 3, stack := v.toList ++ rest }) target → Steps p.tables e below (T.setTop g) target) ∨
    (∃ (q : Addr) (vm₁ : Vm) (B : Pt), s.WarmedH vm₁ ∧ Stand p l e R s m args below meth c B.U B.locs B.cells B.slots ∧ PostX ⟨T.setVm vm₁, locs, cells, slots⟩ (Value.ref a :: argsL).toArray q B ∧
      Steps p.tables e below (T.setTop g) ((B.U.setTop { g with stack := rest }).pushFrame (.throwing q))) := by
  subst hg
  have hpl : e.platform.magicAccessors = ({} : Platform).magicAccessors := by rw [X.admits.platform]
  obtain ⟨mk, methM, cM, kP, vm₁, hnamed, hmethM, hcodeM, -, hlocalsM, -, hkP, -, hW₁, hstep₁⟩ := Steps.initColdArgs (e := e) X.here hexec X.warmed hpl hown hy1 hy hlink hinst hcode (f := g) rfl hlen hstack hdg
  have X₁ := X.noted hW₁
  rcases hK g.method meth c ⟨T.setVm vm₁, locs, cells, slots⟩ { g with stack := rest } (.invokespecial index) mk (Value.ref a :: argsL).toArray X₁ rfl hsize hdg hW (X₁.named hnamed) (hpre vm₁ X₁.warmed) with ⟨v, B, X', hpost, hsteps⟩ | ⟨q, B, X', hpost, hsteps⟩
  · exact Or.inl ⟨v, vm₁, B, X₁.warmed, X', hpost, fun target h => hstep₁ _ fun acts => by rw [doInvoke_state]; exact hsteps.trans h⟩
  · exact Or.inr ⟨q, vm₁, B, X₁.warmed, X', hpost, hstep₁ _ fun acts => by rw [doInvoke_state]; exact hsteps⟩
end VXIA
section VXIB
variable {p : Program} {l : Launch} {e : Env} {R : Room} {s : State} {m : MethodId} {args : Array Value} {below : List Frame} {meth : Method} {c : Code} {H : Heap} {locs : List Loc} {cells slots : Nat}
variable {y : MethodName} {bytes cc : ByteArray} {maxL nL mc ms n index : Nat} {ret : Option FieldType} {ws : List Cond} {rm : Room} {Pc : Array Value → State → Prop} {Qc : Array Value → State → Outcome → State → Prop} {XC : String → State → State → Prop} {free : Addr → Prop} {Ts : List Cond} {own C : String} {b : Addr} {As rest : List Value} {g : JFrame}
theorem vx_runI (S : CallFix p m c cc nL s args Ts own) (hM : vx_Met l y ws rm Pc Qc XC mc ms free) (cw : CallB R s args own index y bytes maxL none ws rm mc ms n ∧ y.name = "<init>" ∧ (Cond.instanceMethod y).before args s = true) (hp : PreS s H Pc (.ref b :: As))
    (hg : g.method = m) (hn : As.length = n) (hsize : g.locals.size = nL) (hstack : g.stack = As.reverse ++ .ref b :: rest) (hW : 2 * g.monitorRoom + (rest.map fun v => v.category).sum ≤ 8) (hdg : decode cc g.pc = .ok (.invokespecial index, 3)) (hf : cells + mc ≤ R.cells ∧ slots + ms ≤ R.slots) :
    vx_Run p l e R s m args below meth c H locs cells slots mc ms g rest (Qc (Value.ref b :: As).toArray) XC free := by
  have hK : vx_Back l R p e below s args y 3 8 (PreOf R mc ms Pc) (PostOf Qc mc ms free) (vx_Post XC mc ms free) := vx_callBack cw.1 hM hp.1
  obtain ⟨⟨-, -, -, -, -, -, hcode, -, hy, hlen, hl⟩, hy1, hin⟩ := cw
  obtain ⟨hx, hb, hml, ho, -⟩ := S
  have hPc := hp.2
  intro T hT X
  rcases vx_callI X hx (bytes := bytes) (maxL := maxL) ho hy1 hl hin hcode hy hK hg (hsize.trans hml.symm) (a := b) (argsL := As) (rest := rest) (fun sig h => hn.trans (hlen sig h)) hstack hW (by rw [hb]; exact hdg)
    (fun vm₁ hW₁ => ⟨hf.1, hf.2, hPc (T.setVm vm₁) hT hW₁⟩) with ⟨v, vm₁, ⟨U', l2, c2, s2⟩, hW₁, X', ⟨g', mk, t, L, e1, e2, hq, h1, hL, h2, h3⟩, st⟩ | ⟨q, vm₁, ⟨U', l2, c2, s2⟩, hW₁, X', ⟨g', mk, t, L, E, ce, e1, e2, hq, hce, hcv, hcl, h1, hL, h2, h3⟩, st⟩
  · dsimp only [Pt.U, Pt.locs, Pt.cells, Pt.slots] at X' e1 e2 h1 h2 h3 st
    subst h1; subst h2; subst h3
    exact Or.inl ⟨v, (T.setVm vm₁).calling g' mk (Value.ref b :: As).toArray, t, U', L, hT, X', hL, e1, e2, hq, st⟩
  · dsimp only [Pt.U, Pt.locs, Pt.cells, Pt.slots] at X' e1 e2 h1 h2 h3 st hcl
    subst h1; subst h2; subst h3
    exact Or.inr ⟨q, (T.setVm vm₁).calling g' mk (Value.ref b :: As).toArray, t, U', L, E, ce, hT, X', hL, e1, e2, hq, hce, hcv, vx_cls hW₁ hcl, st⟩
end VXIB
/-! ===== END ===== -/
/-! ===== BEGIN a private constructor of a nest mate that throws ===== -/
section VXIC
variable {p : Program} {l : Launch} {e : Env} {R : Room} {s : State} {m : MethodId} {args : Array Value} {below : List Frame} {meth : Method} {c : Code} {T : State} {locs : List Loc} {cells slots : Nat}
theorem vx_callIN (X : Stand p l e R s m args below meth c T locs cells slots) (hexec : p.tables.exec = Jvm.exec) {own : String} {index : Nat} {host : String} {y : MethodName} {bytes : ByteArray} {maxL : Nat}
    (hown : s.vm.findClass own = some m.cls) (hy1 : y.name = "<init>") (hlink : (Cond.methodLinkNest own index y host).before args s = true) (hinst : (Cond.instanceMethod y).before args s = true)
    (hcode : (Cond.code y bytes maxL none).before args s = true) (hy : y.cls ≠ "java/lang/invoke/MethodHandle" ∧ y.cls ≠ "java/lang/invoke/VarHandle")
    {W9 : Nat} {Pre : Pt → Array Value → Prop} {Post : Pt → Array Value → Option Value → Pt → Prop} {PostX : Pt → Array Value → Addr → Pt → Prop} (hK : vx_Back l R p e below s args y 3 W9 Pre Post PostX)
    {g : JFrame} (hg : g.method = m) (hsize : g.locals.size = c.maxLocals) {a : Addr} {argsL rest : List Value} (hlen : ∀ sig, parseMethodDescriptor y.desc = some sig → argsL.length = sig.parameters.length)
    (hstack : g.stack = argsL.reverse ++ .ref a :: rest) (hW : 2 * g.monitorRoom + (rest.map fun v => v.category).sum ≤ W9) (hdg : decode c.code g.pc = .ok (.invokespecial index, 3))
    (hpre : ∀ vm₁, s.WarmedH vm₁ → Pre ⟨T.setVm vm₁, locs, cells, slots⟩ (Value.ref a :: argsL).toArray) :
    (∃ (v : Option Value) (vm₁ : Vm) (B : Pt), s.WarmedH vm₁ ∧ Stand p l e R s m args below meth c B.U B.locs B.cells B.slots ∧ Post ⟨T.setVm vm₁, locs, cells, slots⟩ (Value.ref a :: argsL).toArray v B ∧
      ∀ target, Steps p.tables e below (B.U.setTop { g with pc := g.pc + 3, stack := v.toList ++ rest }) target → Steps p.tables e below (T.setTop g) target) ∨
    (∃ (q : Addr) (vm₁ : Vm) (B : Pt), s.WarmedH vm₁ ∧ Stand p l e R s m args below meth c B.U B.locs B.cells B.slots ∧ PostX ⟨T.setVm vm₁, locs, cells, slots⟩ (Value.ref a :: argsL).toArray q B ∧
      Steps p.tables e below (T.setTop g) ((B.U.setTop { g with stack := rest }).pushFrame (.throwing q))) := by
  subst hg
  have hpl : e.platform.magicAccessors = ({} : Platform).magicAccessors := by rw [X.admits.platform]
  obtain ⟨mk, methM, cM, kP, vm₁, hnamed, hmethM, hcodeM, -, hlocalsM, -, hkP, -, hW₁, hstep₁⟩ := Steps.initColdArgsNest (e := e) X.here hexec X.warmed hpl hown hy1 hy hlink hinst hcode (f := g) rfl hlen hstack hdg
  have X₁ := X.noted hW₁
  rcases hK g.method meth c ⟨T.setVm vm₁, locs, cells, slots⟩ { g with stack := rest } (.invokespecial index) mk (Value.ref a :: argsL).toArray X₁ rfl hsize hdg hW (X₁.named hnamed) (hpre vm₁ X₁.warmed) with ⟨v, B, X', hpost, hsteps⟩ | ⟨q, B, X', hpost, hsteps⟩
  · exact Or.inl ⟨v, vm₁, B, X₁.warmed, X', hpost, fun target h => hstep₁ _ fun acts => by rw [doInvoke_state]; exact hsteps.trans h⟩
  · exact Or.inr ⟨q, vm₁, B, X₁.warmed, X', hpost, hstep₁ _ fun acts => by rw [doInvoke_state]; exact hsteps⟩
end VXIC
section VXID
variable {p : Program} {l : Launch} {e : Env} {R : Room} {s : State} {m : MethodId} {args : Array Value} {below : List Frame} {meth : Method} {c : Code} {H : Heap} {locs : List Loc} {cells slots : Nat}
theorem vx_runIN {y : MethodName} {bytes cc : ByteArray} {maxL nL mc ms n index : Nat} {ws : List Cond} {rm : Room} {Pc : Array Value → State → Prop} {Qc : Array Value → State → Outcome → State → Prop} {XC : String → State → State → Prop} {free : Addr → Prop} {Ts : List Cond} {own host : String} {b : Addr} {As rest : List Value} {g : JFrame}
    (S : CallFix p m c cc nL s args Ts own) (hM : vx_Met l y ws rm Pc Qc XC mc ms free) (cw : va_CN R s args own index y host bytes maxL none ws rm mc ms n ∧ y.name = "<init>" ∧ (Cond.instanceMethod y).before args s = true) (hp : PreS s H Pc (.ref b :: As))
    (hg : g.method = m) (hn : As.length = n) (hsize : g.locals.size = nL) (hstack : g.stack = As.reverse ++ .ref b :: rest) (hW : 2 * g.monitorRoom + (rest.map fun v => v.category).sum ≤ 8) (hdg : decode cc g.pc = .ok (.invokespecial index, 3)) (hf : cells + mc ≤ R.cells ∧ slots + ms ≤ R.slots) :
    vx_Run p l e R s m args below meth c H locs cells slots mc ms g rest (Qc (Value.ref b :: As).toArray) XC free := by
  obtain ⟨⟨⟨hrc, hrs, hfr, hlo, hws, hcw⟩, hcode, hini, hy, hlen, hl⟩, hx1, hx2⟩ := cw
  have hK : vx_Back l R p e below s args y 3 8 (PreOf R mc ms Pc) (PostOf Qc mc ms free) (vx_Post XC mc ms free) := vx_back (bytes := bytes) (maxL := maxL) (ret := none) hM hp.1 hrc hrs hfr hlo hws hcw (fun a' U hW => word_at hW (Or.inl (by first | rfl | simp [Cond.onTables, Cond.keeps, Cond.steady])) hini)
  obtain ⟨hx, hb, hml, ho, -⟩ := S
  have hPc := hp.2
  intro T hT X
  rcases vx_callIN X hx (bytes := bytes) (maxL := maxL) ho hx1 hl hx2 hcode hy hK hg (hsize.trans hml.symm) (a := b) (argsL := As) (rest := rest) (fun sig h => hn.trans (hlen sig h)) hstack hW (by rw [hb]; exact hdg)
    (fun vm₁ hW₁ => ⟨hf.1, hf.2, hPc (T.setVm vm₁) hT hW₁⟩) with ⟨v, vm₁, ⟨U', l2, c2, s2⟩, hW₁, X', ⟨g', mk, t, L, e1, e2, hq, h1, hL, h2, h3⟩, st⟩ | ⟨q, vm₁, ⟨U', l2, c2, s2⟩, hW₁, X', ⟨g', mk, t, L, E, ce, e1, e2, hq, hce, hcv, hcl, h1, hL, h2, h3⟩, st⟩
  · dsimp only [Pt.U, Pt.locs, Pt.cells, Pt.slots] at X' e1 e2 h1 h2 h3 st
    subst h1; subst h2; subst h3
    exact Or.inl ⟨v, (T.setVm vm₁).calling g' mk (Value.ref b :: As).toArray, t, U', L, hT, X', hL, e1, e2, hq, st⟩
  · dsimp only [Pt.U, Pt.locs, Pt.cells, Pt.slots] at X' e1 e2 h1 h2 h3 st hcl
    subst h1; subst h2; subst h3
    exact Or.inr ⟨q, (T.setVm vm₁).calling g' mk (Value.ref b :: As).toArray, t, U', L, E, ce, hT, X', hL, e1, e2, hq, hce, hcv, vx_cls hW₁ hcl, st⟩
end VXID
/-! ===== END ===== -/
/-! ===== BEGIN a method of a class above, found by the receiver, that may throw (follows va_callVU, va_runU of this kit) ===== -/
section
variable {p : Program} {l : Launch} {e : Env} {R : Room} {s : State} {m : MethodId} {args : Array Value} {below : List Frame} {meth : Method} {c : Code} {H : Heap} {locs : List Loc} {cells slots : Nat}
theorem vx_callVU {T : State} {locs : List Loc} {cells slots : Nat} (X : Stand p l e R s m args below meth c T locs cells slots) (hexec : p.tables.exec = Jvm.exec) {own C owner : String} {index : Nat} {x y : MethodName} {bytes : ByteArray} {maxL : Nat} {ret : Option FieldType}
    (hown : s.vm.findClass own = some m.cls) (hlink : (Cond.methodLink own index x).before args s = true) (hsame : (Cond.sameMethod x.cls owner x.name x.desc).before args s = true)
    (hd0 : va_Decl s ⟨owner, x.name, x.desc⟩) (howner : owner ≠ "java/lang/invoke/MethodHandle" ∧ owner ≠ "java/lang/invoke/VarHandle")
    (hsel : (Cond.selects C x y).before args s = true) (hinst : (Cond.instanceMethod y).before args s = true) (hcode : (Cond.code y bytes maxL ret).before args s = true)
    {W : Nat} {Pre : Pt → Array Value → Prop} {Post : Pt → Array Value → Option Value → Pt → Prop} {PostX : Pt → Array Value → Addr → Pt → Prop} (hK : vx_Back l R p e below s args y 3 W Pre Post PostX)
    {b : Addr} {cellB : Cell} (hcell : T.heap[b]? = some cellB) (hobj : cellB.vm.isStatics = false) (hcls : s.vm.findClass C = some cellB.cls)
    {g : JFrame} (hg : g.method = m) (hsize : g.locals.size = c.maxLocals) {argsL rest : List Value} (hlen : ∀ sig, parseMethodDescriptor x.desc = some sig → argsL.length = sig.parameters.length)
    (hstack : g.stack = argsL.reverse ++ .ref b :: rest) (hW : 2 * g.monitorRoom + (rest.map fun v => v.category).sum ≤ W) (hdg : decode c.code g.pc = .ok (.invokevirtual index, 3))
    (hpre : ∀ vm₁, s.WarmedH vm₁ → Pre ⟨T.setVm vm₁, locs, cells, slots⟩ (Value.ref b :: argsL).toArray) :
    (∃ (v : Option Value) (vm₁ : Vm) (B : Pt), s.WarmedH vm₁ ∧ Stand p l e R s m args below meth c B.U B.locs B.cells B.slots ∧ Post ⟨T.setVm vm₁, locs, cells, slots⟩ (Value.ref b :: argsL).toArray v B ∧
      ∀ target, Steps p.tables e below (B.U.setTop { g with pc := g.pc + 3, stack := v.toList ++ rest }) target → Steps p.tables e below (T.setTop g) target) ∨
    (∃ (q : Addr) (vm₁ : Vm) (B : Pt), s.WarmedH vm₁ ∧ Stand p l e R s m args below meth c B.U B.locs B.cells B.slots ∧ PostX ⟨T.setVm vm₁, locs, cells, slots⟩ (Value.ref b :: argsL).toArray q B ∧
      Steps p.tables e below (T.setTop g) ((B.U.setTop { g with stack := rest }).pushFrame (.throwing q))) := by
  obtain ⟨r0, r, hn, hrm, hstR, hsigR⟩ := hd0
  obtain ⟨cn, ck, r1, hcn, hck, hni, hf, hn1⟩ := Cond.sameMethod_found hsame
  cases hn.symm.trans hn1
  obtain ⟨mk, methM, hnamed, hmethM, -, habM⟩ := Cond.instanceMethod_spec hinst
  obtain ⟨c2, r2, m2, q1, q2, q3, q4, kP, hkP, hkPi⟩ := Cond.selects_spec hsel
  cases hcls.symm.trans q1
  cases hf.symm.trans q2
  cases hnamed.symm.trans q3
  have hselP : selectMethod e.platform s.vm cellB.cls r0 = .method mk := by rw [Launch.admits_selectMethod X.admits]; exact q4
  obtain ⟨vm₁, X₁, hstep₁⟩ := X.invokevirtualUp hexec hown hlink hsame howner hn hrm hstR (a := b) (cell := cellB) hcell
    (fun z h => by rw [h] at hobj; cases hobj) hselP hmethM habM hkP hkPi (g := g) hg (argsL := argsL) (rest := rest) (hlen _ hsigR) hstack hdg
  rcases hK m meth c ⟨T.setVm vm₁, locs, cells, slots⟩ { g with stack := rest } (.invokevirtual index) mk (Value.ref b :: argsL).toArray X₁ hg hsize hdg hW (X₁.named hnamed) (hpre vm₁ X₁.warmed) with ⟨v, B, X', hpost, hsteps⟩ | ⟨q, B, X', hpost, hsteps⟩
  · exact Or.inl ⟨v, vm₁, B, X₁.warmed, X', hpost, fun target h => hstep₁ _ fun acts => by rw [doInvoke_state]; exact hsteps.trans h⟩
  · exact Or.inr ⟨q, vm₁, B, X₁.warmed, X', hpost, hstep₁ _ fun acts => by rw [doInvoke_state]; exact hsteps⟩
theorem vx_runU {x y : MethodName} {bytes cc : ByteArray} {maxL nL mc ms n index : Nat} {ret : Option FieldType} {ws : List Cond} {rm : Room} {Pc : Array Value → State → Prop} {Qc : Array Value → State → Outcome → State → Prop} {XC : String → State → State → Prop} {free : Addr → Prop} {Ts : List Cond} {own C owner : String} {b : Addr} {As rest : List Value} {g : JFrame}
    (S : CallFix p m c cc nL s args Ts own) (hM : vx_Met l y ws rm Pc Qc XC mc ms free) (cw : va_CU R s args own C owner index x y bytes maxL ret ws rm mc ms n) (hp : PreV s H C b Pc As)
    (hg : g.method = m) (hn : As.length = n) (hsize : g.locals.size = nL) (hstack : g.stack = As.reverse ++ .ref b :: rest) (hW : 2 * g.monitorRoom + (rest.map fun v => v.category).sum ≤ 8) (hdg : decode cc g.pc = .ok (.invokevirtual index, 3)) (hf : cells + mc ≤ R.cells ∧ slots + ms ≤ R.slots) :
    vx_Run p l e R s m args below meth c H locs cells slots mc ms g rest (Qc (Value.ref b :: As).toArray) XC free := by
  obtain ⟨hrc, hrs, hfr, hlo, hws, hcw⟩ := cw.back
  have hini := cw.init
  have hK : vx_Back l R p e below s args y 3 8 (PreOf R mc ms Pc) (PostOf Qc mc ms free) (vx_Post XC mc ms free) := vx_back (bytes := bytes) (maxL := maxL) (ret := ret) hM hp.1 hrc hrs hfr hlo hws hcw (fun a' U hW => word_at hW (Or.inl (by first | rfl | simp [Cond.onTables, Cond.keeps, Cond.steady])) hini)
  obtain ⟨hx, hb, hml, ho, -⟩ := S
  obtain ⟨-, ⟨cellB, hcB, hoB, hclB⟩, hPc⟩ := hp
  intro T hT X
  rcases vx_callVU X hx (C := C) (owner := owner) (bytes := bytes) (maxL := maxL) (ret := ret) ho cw.link cw.same cw.decl cw.notMH cw.sel cw.inst cw.code hK (by rw [hT]; exact hcB) hoB hclB hg (hsize.trans hml.symm) (argsL := As) (rest := rest) (fun sig h => hn.trans (cw.len sig h)) hstack hW (by rw [hb]; exact hdg)
    (fun vm₁ hW₁ => ⟨hf.1, hf.2, hPc (T.setVm vm₁) hT hW₁⟩) with ⟨v, vm₁, ⟨U', l2, c2, s2⟩, hW₁, X', ⟨g', mk, t, L, e1, e2, hq, h1, hL, h2, h3⟩, st⟩ | ⟨q, vm₁, ⟨U', l2, c2, s2⟩, hW₁, X', ⟨g', mk, t, L, E, ce, e1, e2, hq, hce, hcv, hcl, h1, hL, h2, h3⟩, st⟩
  · dsimp only [Pt.U, Pt.locs, Pt.cells, Pt.slots] at X' e1 e2 h1 h2 h3 st
    subst h1; subst h2; subst h3
    exact Or.inl ⟨v, (T.setVm vm₁).calling g' mk (Value.ref b :: As).toArray, t, U', L, hT, X', hL, e1, e2, hq, st⟩
  · dsimp only [Pt.U, Pt.locs, Pt.cells, Pt.slots] at X' e1 e2 h1 h2 h3 st hcl
    subst h1; subst h2; subst h3
    exact Or.inr ⟨q, (T.setVm vm₁).calling g' mk (Value.ref b :: As).toArray, t, U', L, E, ce, hT, X', hL, e1, e2, hq, hce, hcv, vx_cls hW₁ hcl, st⟩
end
/-! ===== END ===== -/
/-! ===== BEGIN super.m(..) that may throw (follows va_callSU, va_runSU) ===== -/
section
variable {p : Program} {l : Launch} {e : Env} {R : Room} {s : State} {m : MethodId} {args : Array Value} {below : List Frame} {meth : Method} {c : Code} {H : Heap} {locs : List Loc} {cells slots : Nat}
theorem vx_callSU {T : State} {locs : List Loc} {cells slots : Nat} (X : Stand p l e R s m args below meth c T locs cells slots) (hexec : p.tables.exec = Jvm.exec) {own : String} {index : Nat} {y : MethodName} {bytes : ByteArray} {maxL : Nat} {ret : Option FieldType}
    (hown : s.vm.findClass own = some m.cls) (hlink : (Cond.methodLink own index y).before args s = true) (hsame : (Cond.sameMethod y.cls y.cls y.name y.desc).before args s = true) (hsup : (Cond.superclass own y.cls).before args s = true)
    (hinst : (Cond.instanceMethod y).before args s = true) (hcode : (Cond.code y bytes maxL ret).before args s = true) (hno : y.name ≠ "<init>")
    {W : Nat} {Pre : Pt → Array Value → Prop} {Post : Pt → Array Value → Option Value → Pt → Prop} {PostX : Pt → Array Value → Addr → Pt → Prop} (hK : vx_Back l R p e below s args y 3 W Pre Post PostX)
    {b : Addr} {cellB : Cell} {kB : Class} (hcell : T.heap[b]? = some cellB) (hobj : cellB.vm.isStatics = false) (hkB : s.vm.classes[cellB.cls]? = some kB)
    {g : JFrame} (hg : g.method = m) (hsize : g.locals.size = c.maxLocals) {argsL rest : List Value} (hlen : ∀ sig, parseMethodDescriptor y.desc = some sig → argsL.length = sig.parameters.length)
    (hstack : g.stack = argsL.reverse ++ .ref b :: rest) (hW : 2 * g.monitorRoom + (rest.map fun v => v.category).sum ≤ W) (hdg : decode c.code g.pc = .ok (.invokespecial index, 3))
    (hpre : ∀ vm₁, s.WarmedH vm₁ → Pre ⟨T.setVm vm₁, locs, cells, slots⟩ (Value.ref b :: argsL).toArray) :
    (∃ (v : Option Value) (vm₁ : Vm) (B : Pt), s.WarmedH vm₁ ∧ Stand p l e R s m args below meth c B.U B.locs B.cells B.slots ∧ Post ⟨T.setVm vm₁, locs, cells, slots⟩ (Value.ref b :: argsL).toArray v B ∧
      ∀ target, Steps p.tables e below (B.U.setTop { g with pc := g.pc + 3, stack := v.toList ++ rest }) target → Steps p.tables e below (T.setTop g) target) ∨
    (∃ (q : Addr) (vm₁ : Vm) (B : Pt), s.WarmedH vm₁ ∧ Stand p l e R s m args below meth c B.U B.locs B.cells B.slots ∧ PostX ⟨T.setVm vm₁, locs, cells, slots⟩ (Value.ref b :: argsL).toArray q B ∧
      Steps p.tables e below (T.setTop g) ((B.U.setTop { g with stack := rest }).pushFrame (.throwing q))) := by
  obtain ⟨mk, methM, hnamed, hmethM, hstM, habM⟩ := Cond.instanceMethod_spec hinst
  obtain ⟨methM', cM, hmethM', -, -, -, -, -, -, hsigM⟩ := Cond.code_spec hnamed hcode
  cases hmethM.symm.trans hmethM'
  obtain ⟨ps, dk, kp, hps, hdk, hkp, hsuper, -, -, hnid⟩ := Cond.superclass_spec hown hsup
  have hn : s.methodNamed? ⟨y.cls, y.name, y.desc⟩ = some mk := hnamed
  have hpm : ps = mk.cls := Option.some.inj (hps.symm.trans (findClass_of_methodNamed hnamed))
  have hsub : s.vm.isSubclass ps mk.cls = true := by rw [hpm]; simp [Vm.isSubclass, Vm.isSubclassAux]
  obtain ⟨vm₁, X₁, hstep₁⟩ := X.invokespecialUp hexec hown hlink hsame hn hmethM hstM habM hno hdk hnid hps hsuper hsub (a := b) (cell := cellB) hcell
    (fun z h => by rw [h] at hobj; cases hobj) hkB (g := g) hg (argsL := argsL) (rest := rest) (hlen _ hsigM) hstack hdg
  rcases hK m meth c ⟨T.setVm vm₁, locs, cells, slots⟩ { g with stack := rest } (.invokespecial index) mk (Value.ref b :: argsL).toArray X₁ hg hsize hdg hW (X₁.named hnamed) (hpre vm₁ X₁.warmed) with ⟨v, B, X', hpost, hsteps⟩ | ⟨q, B, X', hpost, hsteps⟩
  · exact Or.inl ⟨v, vm₁, B, X₁.warmed, X', hpost, fun target h => hstep₁ _ (by rw [doInvoke_state]; exact hsteps.trans h)⟩
  · exact Or.inr ⟨q, vm₁, B, X₁.warmed, X', hpost, hstep₁ _ (by rw [doInvoke_state]; exact hsteps)⟩
theorem vx_runSU {y : MethodName} {bytes cc : ByteArray} {maxL nL mc ms n index : Nat} {ret : Option FieldType} {ws : List Cond} {rm : Room} {Pc : Array Value → State → Prop} {Qc : Array Value → State → Outcome → State → Prop} {XC : String → State → State → Prop} {free : Addr → Prop} {Ts : List Cond} {own C : String} {cC : ClassId} {b : Addr} {As rest : List Value} {g : JFrame}
    (hat : ClassAt s C cC) (S : CallFix p m c cc nL s args Ts own) (hM : vx_Met l y ws rm Pc Qc XC mc ms free) (cw : va_CS R s args own index y bytes maxL ret ws rm mc ms n) (hp : PreV s H C b Pc As)
    (hg : g.method = m) (hn : As.length = n) (hsize : g.locals.size = nL) (hstack : g.stack = As.reverse ++ .ref b :: rest) (hW : 2 * g.monitorRoom + (rest.map fun v => v.category).sum ≤ 8) (hdg : decode cc g.pc = .ok (.invokespecial index, 3)) (hf : cells + mc ≤ R.cells ∧ slots + ms ≤ R.slots) :
    vx_Run p l e R s m args below meth c H locs cells slots mc ms g rest (Qc (Value.ref b :: As).toArray) XC free := by
  obtain ⟨⟨hrc, hrs, hfr, hlo, hws, hcw⟩, hl1, hl2, hl3, hl4, hini, hcode, hno, hlen⟩ := cw
  have hK : vx_Back l R p e below s args y 3 8 (PreOf R mc ms Pc) (PostOf Qc mc ms free) (vx_Post XC mc ms free) := vx_back (bytes := bytes) (maxL := maxL) (ret := ret) hM hp.1 hrc hrs hfr hlo hws hcw (fun a' U hW => word_at hW (Or.inl (by first | rfl | simp [Cond.onTables, Cond.keeps, Cond.steady])) hini)
  obtain ⟨hx, hb, hml, ho, -⟩ := S
  obtain ⟨-, ⟨cellB, hcB, hoB, hclB⟩, hPc⟩ := hp
  obtain ⟨hfc, kB, hkB, -⟩ := hat
  cases hfc.symm.trans hclB
  intro T hT X
  rcases vx_callSU X hx (bytes := bytes) (maxL := maxL) (ret := ret) ho hl1 hl2 hl3 hl4 hcode hno hK (by rw [hT]; exact hcB) hoB hkB hg (hsize.trans hml.symm) (argsL := As) (rest := rest) (fun sig h => hn.trans (hlen sig h)) hstack hW (by rw [hb]; exact hdg)
    (fun vm₁ hW₁ => ⟨hf.1, hf.2, hPc (T.setVm vm₁) hT hW₁⟩) with ⟨v, vm₁, ⟨U', l2, c2, s2⟩, hW₁, X', ⟨g', mk, t, L, e1, e2, hq, h1, hL, h2, h3⟩, st⟩ | ⟨q, vm₁, ⟨U', l2, c2, s2⟩, hW₁, X', ⟨g', mk, t, L, E, ce, e1, e2, hq, hce, hcv, hcl, h1, hL, h2, h3⟩, st⟩
  · dsimp only [Pt.U, Pt.locs, Pt.cells, Pt.slots] at X' e1 e2 h1 h2 h3 st
    subst h1; subst h2; subst h3
    exact Or.inl ⟨v, (T.setVm vm₁).calling g' mk (Value.ref b :: As).toArray, t, U', L, hT, X', hL, e1, e2, hq, st⟩
  · dsimp only [Pt.U, Pt.locs, Pt.cells, Pt.slots] at X' e1 e2 h1 h2 h3 st hcl
    subst h1; subst h2; subst h3
    exact Or.inr ⟨q, (T.setVm vm₁).calling g' mk (Value.ref b :: As).toArray, t, U', L, E, ce, hT, X', hL, e1, e2, hq, hce, hcv, vx_cls hW₁ hcl, st⟩
end
/-! ===== END ===== -/
/-! ===== BEGIN a private method of a nest mate that may throw (follows va_callVN, va_callSN, va_runVN, va_runSN) ===== -/
section
variable {p : Program} {l : Launch} {e : Env} {R : Room} {s : State} {m : MethodId} {args : Array Value} {below : List Frame} {meth : Method} {c : Code} {H : Heap} {locs : List Loc} {cells slots : Nat}
variable {T : State}
theorem vx_callVN (X : Stand p l e R s m args below meth c T locs cells slots) (hexec : p.tables.exec = Jvm.exec) {own C : String} {index : Nat} {host : String} {y : MethodName} {bytes : ByteArray} {maxL : Nat} {ret : Option FieldType}
    (hown : s.vm.findClass own = some m.cls) (hlink : (Cond.methodLinkNest own index y host).before args s = true) (hinst : (Cond.instanceMethod y).before args s = true) (hsel : (Cond.selects C y y).before args s = true)
    (hcode : (Cond.code y bytes maxL ret).before args s = true) (hy : y.cls ≠ "java/lang/invoke/MethodHandle" ∧ y.cls ≠ "java/lang/invoke/VarHandle")
    {W : Nat} {Pre : Pt → Array Value → Prop} {Post : Pt → Array Value → Option Value → Pt → Prop} {PostX : Pt → Array Value → Addr → Pt → Prop} (hK : vx_Back l R p e below s args y 3 W Pre Post PostX)
    {b : Addr} {cellB : Cell} (hcell : T.heap[b]? = some cellB) (hobj : cellB.vm.isStatics = false) (hcls : s.vm.findClass C = some cellB.cls)
    {g : JFrame} (hg : g.method = m) (hsize : g.locals.size = c.maxLocals) {argsL rest : List Value} (hlen : ∀ sig, parseMethodDescriptor y.desc = some sig → argsL.length = sig.parameters.length)
    (hstack : g.stack = argsL.reverse ++ .ref b :: rest) (hW : 2 * g.monitorRoom + (rest.map fun v => v.category).sum ≤ W) (hdg : decode c.code g.pc = .ok (.invokevirtual index, 3))
    (hpre : ∀ vm₁, s.WarmedH vm₁ → Pre ⟨T.setVm vm₁, locs, cells, slots⟩ (Value.ref b :: argsL).toArray) :
    (∃ (v : Option Value) (vm₁ : Vm) (B : Pt), s.WarmedH vm₁ ∧ Stand p l e R s m args below meth c B.U B.locs B.cells B.slots ∧ Post ⟨T.setVm vm₁, locs, cells, slots⟩ (Value.ref b :: argsL).toArray v B ∧
      ∀ target, Steps p.tables e below (B.U.setTop { g with pc := g.pc + 3, stack := v.toList ++ rest }) target → Steps p.tables e below (T.setTop g) target) ∨
    (∃ (q : Addr) (vm₁ : Vm) (B : Pt), s.WarmedH vm₁ ∧ Stand p l e R s m args below meth c B.U B.locs B.cells B.slots ∧ PostX ⟨T.setVm vm₁, locs, cells, slots⟩ (Value.ref b :: argsL).toArray q B ∧
      Steps p.tables e below (T.setTop g) ((B.U.setTop { g with stack := rest }).pushFrame (.throwing q))) := by
  obtain ⟨mk, methM, hnamed, hmethM, hstM, habM⟩ := Cond.instanceMethod_spec hinst
  obtain ⟨methM', cM, hmethM', -, -, -, -, -, -, hsigM⟩ := Cond.code_spec hnamed hcode
  cases hmethM.symm.trans hmethM'
  obtain ⟨c2, r2, m2, q1, q2, q3, q4, kP, hkP, hkPi⟩ := Cond.selects_spec hsel
  cases hcls.symm.trans q1
  cases (State.methodFound?_of_named hnamed hy).symm.trans q2
  cases hnamed.symm.trans q3
  have hselP : selectMethod e.platform s.vm cellB.cls mk = .method mk := by rw [Launch.admits_selectMethod X.admits]; exact q4
  obtain ⟨vm₁, X₁, hstep₁⟩ := X.invokevirtualNest hexec hown hlink hnamed hmethM hstM hkP hkPi hy (a := b) (cell := cellB) hcell
    (fun z h => by rw [h] at hobj; cases hobj) hselP hmethM habM hkP hkPi (g := g) hg (argsL := argsL) (rest := rest) (hlen _ hsigM) hstack hdg
  rcases hK m meth c ⟨T.setVm vm₁, locs, cells, slots⟩ { g with stack := rest } (.invokevirtual index) mk (Value.ref b :: argsL).toArray X₁ hg hsize hdg hW (X₁.named hnamed) (hpre vm₁ X₁.warmed) with ⟨v, B, X', hpost, hsteps⟩ | ⟨q, B, X', hpost, hsteps⟩
  · exact Or.inl ⟨v, vm₁, B, X₁.warmed, X', hpost, fun target h => hstep₁ _ fun acts => by rw [doInvoke_state]; exact hsteps.trans h⟩
  · exact Or.inr ⟨q, vm₁, B, X₁.warmed, X', hpost, hstep₁ _ fun acts => by rw [doInvoke_state]; exact hsteps⟩
theorem vx_callSN (X : Stand p l e R s m args below meth c T locs cells slots) (hexec : p.tables.exec = Jvm.exec) {own : String} {index : Nat} {host : String} {y : MethodName} {bytes : ByteArray} {maxL : Nat} {ret : Option FieldType}
    (hown : s.vm.findClass own = some m.cls) (hlink : (Cond.methodLinkNest own index y host).before args s = true) (hstat : (Cond.static y).before args s = true) (hinit : (Cond.initialized y.cls).before args s = true)
    (hcode : (Cond.code y bytes maxL ret).before args s = true) (hy : y.cls ≠ "java/lang/invoke/MethodHandle" ∧ y.cls ≠ "java/lang/invoke/VarHandle")
    {W : Nat} {Pre : Pt → Array Value → Prop} {Post : Pt → Array Value → Option Value → Pt → Prop} {PostX : Pt → Array Value → Addr → Pt → Prop} (hK : vx_Back l R p e below s args y 3 W Pre Post PostX)
    {g : JFrame} (hg : g.method = m) (hsize : g.locals.size = c.maxLocals) {argsL rest : List Value} (hlen : ∀ sig, parseMethodDescriptor y.desc = some sig → argsL.length = sig.parameters.length)
    (hstack : g.stack = argsL.reverse ++ rest) (hW : 2 * g.monitorRoom + (rest.map fun v => v.category).sum ≤ W) (hdg : decode c.code g.pc = .ok (.invokestatic index, 3))
    (hpre : ∀ vm₁, s.WarmedH vm₁ → Pre ⟨T.setVm vm₁, locs, cells, slots⟩ argsL.toArray) :
    (∃ (v : Option Value) (vm₁ : Vm) (B : Pt), s.WarmedH vm₁ ∧ Stand p l e R s m args below meth c B.U B.locs B.cells B.slots ∧ Post ⟨T.setVm vm₁, locs, cells, slots⟩ argsL.toArray v B ∧
      ∀ target, Steps p.tables e below (B.U.setTop { g with pc := g.pc + 3, stack := v.toList ++ rest }) target → Steps p.tables e below (T.setTop g) target) ∨
    (∃ (q : Addr) (vm₁ : Vm) (B : Pt), s.WarmedH vm₁ ∧ Stand p l e R s m args below meth c B.U B.locs B.cells B.slots ∧ PostX ⟨T.setVm vm₁, locs, cells, slots⟩ argsL.toArray q B ∧
      Steps p.tables e below (T.setTop g) ((B.U.setTop { g with stack := rest }).pushFrame (.throwing q))) := by
  obtain ⟨mk, hnamed⟩ := Cond.code_named hcode
  obtain ⟨methM, cM, hmethM, -, -, -, -, -, -, hsigM⟩ := Cond.code_spec hnamed hcode
  have hstatic : methM.isStatic = true := Cond.static_spec hnamed hmethM hstat
  obtain ⟨kP, hkP, -⟩ := className_of_methodNamed hnamed
  have hinitP : kP.init = .initialized := Cond.initialized_spec (findClass_of_methodNamed hnamed) hkP hinit
  obtain ⟨vm₁, X₁, hstep₁⟩ := X.invokestaticNest hexec hown hlink hnamed hmethM hstatic hkP hinitP hy (g := g) hg (argsL := argsL) (rest := rest) (hlen _ hsigM) hstack hdg
  rcases hK m meth c ⟨T.setVm vm₁, locs, cells, slots⟩ { g with stack := rest } (.invokestatic index) mk argsL.toArray X₁ hg hsize hdg hW (X₁.named hnamed) (hpre vm₁ X₁.warmed) with ⟨v, B, X', hpost, hsteps⟩ | ⟨q, B, X', hpost, hsteps⟩
  · exact Or.inl ⟨v, vm₁, B, X₁.warmed, X', hpost, fun target h => hstep₁ _ fun acts => by rw [doInvoke_state]; exact hsteps.trans h⟩
  · exact Or.inr ⟨q, vm₁, B, X₁.warmed, X', hpost, hstep₁ _ fun acts => by rw [doInvoke_state]; exact hsteps⟩
theorem vx_runVN {y : MethodName} {bytes cc : ByteArray} {maxL nL mc ms n index : Nat} {ret : Option FieldType} {ws : List Cond} {rm : Room} {Pc : Array Value → State → Prop} {Qc : Array Value → State → Outcome → State → Prop} {XC : String → State → State → Prop} {free : Addr → Prop} {Ts : List Cond} {own C host : String} {b : Addr} {As rest : List Value} {g : JFrame}
    (S : CallFix p m c cc nL s args Ts own) (hM : vx_Met l y ws rm Pc Qc XC mc ms free) (cw : va_CN R s args own index y host bytes maxL ret ws rm mc ms n ∧ (Cond.instanceMethod y).before args s = true ∧ (Cond.selects C y y).before args s = true) (hp : PreV s H C b Pc As)
    (hg : g.method = m) (hn : As.length = n) (hsize : g.locals.size = nL) (hstack : g.stack = As.reverse ++ .ref b :: rest) (hW : 2 * g.monitorRoom + (rest.map fun v => v.category).sum ≤ 8) (hdg : decode cc g.pc = .ok (.invokevirtual index, 3)) (hf : cells + mc ≤ R.cells ∧ slots + ms ≤ R.slots) :
    vx_Run p l e R s m args below meth c H locs cells slots mc ms g rest (Qc (Value.ref b :: As).toArray) XC free := by
  obtain ⟨⟨⟨hrc, hrs, hfr, hlo, hws, hcw⟩, hcode, hini, hy, hlen, hl⟩, hx1, hx2⟩ := cw
  have hK : vx_Back l R p e below s args y 3 8 (PreOf R mc ms Pc) (PostOf Qc mc ms free) (vx_Post XC mc ms free) := vx_back (bytes := bytes) (maxL := maxL) (ret := ret) hM hp.1 hrc hrs hfr hlo hws hcw (fun a' U hW => word_at hW (Or.inl (by first | rfl | simp [Cond.onTables, Cond.keeps, Cond.steady])) hini)
  obtain ⟨hx, hb, hml, ho, -⟩ := S
  obtain ⟨-, ⟨cellB, hcB, hoB, hclB⟩, hPc⟩ := hp
  intro T hT X
  rcases vx_callVN X hx (C := C) (bytes := bytes) (maxL := maxL) (ret := ret) ho hl hx1 hx2 hcode hy hK (by rw [hT]; exact hcB) hoB hclB hg (hsize.trans hml.symm) (argsL := As) (rest := rest) (fun sig h => hn.trans (hlen sig h)) hstack hW (by rw [hb]; exact hdg)
    (fun vm₁ hW₁ => ⟨hf.1, hf.2, hPc (T.setVm vm₁) hT hW₁⟩) with ⟨v, vm₁, ⟨U', l2, c2, s2⟩, hW₁, X', ⟨g', mk, t, L, e1, e2, hq, h1, hL, h2, h3⟩, st⟩ | ⟨q, vm₁, ⟨U', l2, c2, s2⟩, hW₁, X', ⟨g', mk, t, L, E, ce, e1, e2, hq, hce, hcv, hcl, h1, hL, h2, h3⟩, st⟩
  · dsimp only [Pt.U, Pt.locs, Pt.cells, Pt.slots] at X' e1 e2 h1 h2 h3 st
    subst h1; subst h2; subst h3
    exact Or.inl ⟨v, (T.setVm vm₁).calling g' mk (Value.ref b :: As).toArray, t, U', L, hT, X', hL, e1, e2, hq, st⟩
  · dsimp only [Pt.U, Pt.locs, Pt.cells, Pt.slots] at X' e1 e2 h1 h2 h3 st hcl
    subst h1; subst h2; subst h3
    exact Or.inr ⟨q, (T.setVm vm₁).calling g' mk (Value.ref b :: As).toArray, t, U', L, E, ce, hT, X', hL, e1, e2, hq, hce, hcv, vx_cls hW₁ hcl, st⟩
theorem vx_runSN {y : MethodName} {bytes cc : ByteArray} {maxL nL mc ms n index : Nat} {ret : Option FieldType} {ws : List Cond} {rm : Room} {Pc : Array Value → State → Prop} {Qc : Array Value → State → Outcome → State → Prop} {XC : String → State → State → Prop} {free : Addr → Prop} {Ts : List Cond} {own host : String} {As rest : List Value} {g : JFrame}
    (S : CallFix p m c cc nL s args Ts own) (hM : vx_Met l y ws rm Pc Qc XC mc ms free) (cw : va_CN R s args own index y host bytes maxL ret ws rm mc ms n ∧ (Cond.static y).before args s = true ∧ True) (hp : PreS s H Pc As)
    (hg : g.method = m) (hn : As.length = n) (hsize : g.locals.size = nL) (hstack : g.stack = As.reverse ++ rest) (hW : 2 * g.monitorRoom + (rest.map fun v => v.category).sum ≤ 8) (hdg : decode cc g.pc = .ok (.invokestatic index, 3)) (hf : cells + mc ≤ R.cells ∧ slots + ms ≤ R.slots) :
    vx_Run p l e R s m args below meth c H locs cells slots mc ms g rest (Qc As.toArray) XC free := by
  obtain ⟨⟨⟨hrc, hrs, hfr, hlo, hws, hcw⟩, hcode, hini, hy, hlen, hl⟩, hx1, hx2⟩ := cw
  have hK : vx_Back l R p e below s args y 3 8 (PreOf R mc ms Pc) (PostOf Qc mc ms free) (vx_Post XC mc ms free) := vx_back (bytes := bytes) (maxL := maxL) (ret := ret) hM hp.1 hrc hrs hfr hlo hws hcw (fun a' U hW => word_at hW (Or.inl (by first | rfl | simp [Cond.onTables, Cond.keeps, Cond.steady])) hini)
  obtain ⟨hx, hb, hml, ho, -⟩ := S
  have hPc := hp.2
  intro T hT X
  rcases vx_callSN X hx (bytes := bytes) (maxL := maxL) (ret := ret) ho hl hx1 hini hcode hy hK hg (hsize.trans hml.symm) (argsL := As) (rest := rest) (fun sig h => hn.trans (hlen sig h)) hstack hW (by rw [hb]; exact hdg)
    (fun vm₁ hW₁ => ⟨hf.1, hf.2, hPc (T.setVm vm₁) hT hW₁⟩) with ⟨v, vm₁, ⟨U', l2, c2, s2⟩, hW₁, X', ⟨g', mk, t, L, e1, e2, hq, h1, hL, h2, h3⟩, st⟩ | ⟨q, vm₁, ⟨U', l2, c2, s2⟩, hW₁, X', ⟨g', mk, t, L, E, ce, e1, e2, hq, hce, hcv, hcl, h1, hL, h2, h3⟩, st⟩
  · dsimp only [Pt.U, Pt.locs, Pt.cells, Pt.slots] at X' e1 e2 h1 h2 h3 st
    subst h1; subst h2; subst h3
    exact Or.inl ⟨v, (T.setVm vm₁).calling g' mk As.toArray, t, U', L, hT, X', hL, e1, e2, hq, st⟩
  · dsimp only [Pt.U, Pt.locs, Pt.cells, Pt.slots] at X' e1 e2 h1 h2 h3 st hcl
    subst h1; subst h2; subst h3
    exact Or.inr ⟨q, (T.setVm vm₁).calling g' mk As.toArray, t, U', L, E, ce, hT, X', hL, e1, e2, hq, hce, hcv, vx_cls hW₁ hcl, st⟩
end
/-! ===== END ===== -/
end
section
/-! ## NE: a thin layer over W: worlds by places, whole numbers for ints -/
section NEA
def ne_v (ad : Nat → Nat) (v : Value) : Value := match v with
  | .ref k => .ref (ad k)
  | w => w
theorem ne_v_cat (ad : Nat → Nat) (v : Value) : (ne_v ad v).category = v.category := by cases v <;> rfl
/-- an int, a long, by a whole number -/
abbrev ni (z : Int) : Value := .int (Int32.ofInt z)
abbrev nl (z : Int) : Value := .long (Int64.ofInt z)
/-- a cell: an array (its kind, its length, its contents), an object (its class, its fields) -/
abbrev ne_E : Type := (Nat × Nat × (Nat → Int)) ⊕ (Nat × List Value)
abbrev ne_W : Type := List (Option ne_E)
def ne_c (ct : Nat → ClassId) (ad : Nat → Nat) (e : ne_E) : va_E := match e with
  | .inl a => .inl (ct a.1, a.2.1, .inl (fun j => Int32.ofInt (a.2.2 j)))
  | .inr o => .inr (o.1, o.2.map (ne_v ad))
def ne_w (ct : Nat → ClassId) (ad : Nat → Nat) : Nat → ne_W → va_W
  | _, [] => []
  | k, none :: t => ne_w ct ad (k + 1) t
  | k, some e :: t => (ad k, ne_c ct ad e) :: ne_w ct ad (k + 1) t
theorem ne_w_mem {ct : Nat → ClassId} {ad : Nat → Nat} : ∀ {ws : ne_W} {k : Nat} {q : Nat × va_E}, q ∈ ne_w ct ad k ws ↔ ∃ (i : Nat) (e : ne_E), ws[i]? = some (some e) ∧ q = (ad (k + i), ne_c ct ad e)
  | [], k, q => by simp [ne_w]
  | none :: t, k, q => by
    rw [ne_w, ne_w_mem]
    constructor
    · rintro ⟨i, e, h1, h2⟩
      exact ⟨i + 1, e, by simpa using h1, by rw [h2]; congr 2; omega⟩
    · rintro ⟨i, e, h1, h2⟩
      cases i with
      | zero => simp at h1
      | succ i => exact ⟨i, e, by simpa using h1, by rw [h2]; congr 2; omega⟩
  | some e0 :: t, k, q => by
    rw [ne_w, List.mem_cons, ne_w_mem]
    constructor
    · rintro (h | ⟨i, e, h1, h2⟩)
      · exact ⟨0, e0, rfl, h⟩
      · exact ⟨i + 1, e, by simpa using h1, by rw [h2]; congr 2; omega⟩
    · rintro ⟨i, e, h1, h2⟩
      cases i with
      | zero =>
        have : e0 = e := by simpa using h1
        subst this
        exact Or.inl h2
      | succ i => exact Or.inr ⟨i, e, by simpa using h1, by rw [h2]; congr 2; omega⟩
theorem ne_w_set {ct : Nat → ClassId} {ad : Nat → Nat} : ∀ {ws : ne_W} {k i : Nat} {e : ne_E}, ws[i]? = some (some e) → ∃ q0 : Nat, (ne_w ct ad k ws)[q0]? = some (ad (k + i), ne_c ct ad e) ∧ ∀ e' : ne_E, (ne_w ct ad k ws).set q0 (ad (k + i), ne_c ct ad e') = ne_w ct ad k (ws.set i (some e'))
  | [], k, i, e, h => by simp at h
  | none :: t, k, i, e, h => by
    cases i with
    | zero => simp at h
    | succ i =>
      obtain ⟨q0, h1, h2⟩ := ne_w_set (ct := ct) (ad := ad) (k := k + 1) (ws := t) (i := i) (e := e) (by simpa using h)
      have e1 : k + 1 + i = k + (i + 1) := by omega
      rw [e1] at h1 h2
      refine ⟨q0, by rw [ne_w]; exact h1, fun e' => ?_⟩
      rw [List.set_cons_succ, ne_w, ne_w]
      exact h2 e'
  | some e0 :: t, k, i, e, h => by
    cases i with
    | zero =>
      have : e0 = e := by simpa using h
      subst this
      refine ⟨0, by rw [ne_w]; rfl, fun e' => ?_⟩
      rw [List.set_cons_zero, ne_w, ne_w, List.set_cons_zero]
      rfl
    | succ i =>
      obtain ⟨q0, h1, h2⟩ := ne_w_set (ct := ct) (ad := ad) (k := k + 1) (ws := t) (i := i) (e := e) (by simpa using h)
      have e1 : k + 1 + i = k + (i + 1) := by omega
      rw [e1] at h1 h2
      refine ⟨q0 + 1, by rw [ne_w]; simpa using h1, fun e' => ?_⟩
      rw [List.set_cons_succ, ne_w, ne_w, List.set_cons_succ, h2 e']
theorem ne_w_app {ct : Nat → ClassId} {ad : Nat → Nat} {e : ne_E} : ∀ {ws : ne_W} {k : Nat}, ne_w ct ad k (ws ++ [some e]) = ne_w ct ad k ws ++ [(ad (k + ws.length), ne_c ct ad e)]
  | [], k => by simp [ne_w]
  | none :: t, k => by
    rw [List.cons_append, ne_w, ne_w, ne_w_app]
    simp only [List.length_cons]
    rw [show k + 1 + t.length = k + (t.length + 1) by omega]
  | some e0 :: t, k => by
    rw [List.cons_append, ne_w, ne_w, ne_w_app, List.cons_append]
    simp only [List.length_cons]
    rw [show k + 1 + t.length = k + (t.length + 1) by omega]
theorem ne_w_appN {ct : Nat → ClassId} {ad : Nat → Nat} : ∀ {ws : ne_W} {k : Nat}, ne_w ct ad k (ws ++ [none]) = ne_w ct ad k ws
  | [], k => by simp [ne_w]
  | none :: t, k => by rw [List.cons_append, ne_w, ne_w, ne_w_appN]
  | some e0 :: t, k => by rw [List.cons_append, ne_w, ne_w, ne_w_appN]
/-- references below n alone -/
def ne_ok (n : Nat) (v : Value) : Bool := match v with
  | .ref k => decide (k < n)
  | _ => true
def ne_okE (n : Nat) (e : Option ne_E) : Bool := match e with
  | some (.inr o) => o.2.all (ne_ok n)
  | _ => true
def ne_okL (n : Nat) (o : Option Value) : Bool := match o with
  | some v => ne_ok n v
  | none => true
def ne_cw (n : Nat) (ws : ne_W) : Bool := ws.all (ne_okE n)
def ne_cs (n : Nat) (st : List Value) : Bool := st.all (ne_ok n)
def ne_cl (n : Nat) (L : List (Option Value)) : Bool := L.all (ne_okL n)
theorem ne_v_eq {n : Nat} {ad ad' : Nat → Nat} (ha : ∀ k, k < n → ad' k = ad k) {v : Value} (h : ne_ok n v = true) : ne_v ad' v = ne_v ad v := by
  cases v with
  | ref k => simp only [ne_ok, decide_eq_true_eq] at h; simp only [ne_v, ha k h]
  | _ => rfl
theorem ne_s_eq {n : Nat} {ad ad' : Nat → Nat} (ha : ∀ k, k < n → ad' k = ad k) {st : List Value} (h : ne_cs n st = true) : st.map (ne_v ad') = st.map (ne_v ad) :=
  List.map_congr_left fun v hv => ne_v_eq ha (List.all_eq_true.mp h v hv)
theorem ne_c_eq {n : Nat} {ct : Nat → ClassId} {ad ad' : Nat → Nat} (ha : ∀ k, k < n → ad' k = ad k) {e : ne_E} (h : ne_okE n (some e) = true) : ne_c ct ad' e = ne_c ct ad e := by
  cases e with
  | inl a => rfl
  | inr o =>
    have h2 : ne_cs n o.2 = true := h
    simp only [ne_c, ne_s_eq ha h2]
theorem ne_w_eq {n : Nat} {ct : Nat → ClassId} {ad ad' : Nat → Nat} (ha : ∀ k, k < n → ad' k = ad k) : ∀ {ws : ne_W} {k : Nat}, ne_cw n ws = true → k + ws.length ≤ n → ne_w ct ad' k ws = ne_w ct ad k ws
  | [], k, _, _ => rfl
  | none :: t, k, h, hk => by
    rw [ne_w, ne_w]
    have h2 : ne_cw n t = true := by simp only [ne_cw, List.all_cons, Bool.and_eq_true] at h ⊢; exact h.2
    exact ne_w_eq ha h2 (by simp only [List.length_cons] at hk; omega)
  | some e :: t, k, h, hk => by
    rw [ne_w, ne_w]
    simp only [ne_cw, List.all_cons, Bool.and_eq_true] at h
    have h2 : ne_cw n t = true := h.2
    simp only [List.length_cons] at hk
    rw [ne_w_eq ha h2 (by omega), ne_c_eq ha h.1, ha k (by omega)]
def ne_up (ad : Nat → Nat) (n q : Nat) : Nat → Nat := fun k => if k = n then q else ad k
theorem ne_up_self {ad : Nat → Nat} {n q : Nat} : ne_up ad n q n = q := by simp [ne_up]
theorem ne_up_lt {ad : Nat → Nat} {n q k : Nat} (h : k < n) : ne_up ad n q k = ad k := by simp [ne_up, Nat.ne_of_lt h]
/-! locals, by places -/
def ne_l (ad : Nat → Nat) : Nat → List (Option Value) → List (Nat × Value)
  | _, [] => []
  | i, none :: t => ne_l ad (i + 1) t
  | i, some v :: t => (i, ne_v ad v) :: ne_l ad (i + 1) t
theorem ne_l_mem {ad : Nat → Nat} : ∀ {L : List (Option Value)} {i : Nat} {q : Nat × Value}, q ∈ ne_l ad i L ↔ ∃ (k : Nat) (v : Value), L[k]? = some (some v) ∧ q = (i + k, ne_v ad v)
  | [], i, q => by simp [ne_l]
  | none :: t, i, q => by
    rw [ne_l, ne_l_mem]
    constructor
    · rintro ⟨k, v, h1, h2⟩
      exact ⟨k + 1, v, by simpa using h1, by rw [h2]; congr 1; omega⟩
    · rintro ⟨k, v, h1, h2⟩
      cases k with
      | zero => simp at h1
      | succ k => exact ⟨k, v, by simpa using h1, by rw [h2]; congr 1; omega⟩
  | some v0 :: t, i, q => by
    rw [ne_l, List.mem_cons, ne_l_mem]
    constructor
    · rintro (h | ⟨k, v, h1, h2⟩)
      · exact ⟨0, v0, rfl, h⟩
      · exact ⟨k + 1, v, by simpa using h1, by rw [h2]; congr 1; omega⟩
    · rintro ⟨k, v, h1, h2⟩
      cases k with
      | zero =>
        have : v0 = v := by simpa using h1
        subst this
        exact Or.inl h2
      | succ k => exact Or.inr ⟨k, v, by simpa using h1, by rw [h2]; congr 1; omega⟩
theorem ne_l_eq {n : Nat} {ad ad' : Nat → Nat} (ha : ∀ k, k < n → ad' k = ad k) : ∀ {L : List (Option Value)} {i : Nat}, ne_cl n L = true → ne_l ad' i L = ne_l ad i L
  | [], i, _ => rfl
  | none :: t, i, h => by
    rw [ne_l, ne_l]
    simp only [ne_cl, List.all_cons, Bool.and_eq_true] at h
    exact ne_l_eq ha h.2
  | some v :: t, i, h => by
    rw [ne_l, ne_l]
    simp only [ne_cl, List.all_cons, Bool.and_eq_true] at h
    rw [ne_l_eq ha (L := t) h.2, ne_v_eq ha h.1]
/-- what a store at i leaves of the locals ahead of it: not a long whose second half it was -/
def ne_kj (L : List (Option Value)) (j : Nat) : List (Option Value) := match L[j]? with
  | some (some (.long _)) => L.set j none
  | some (some (.double _)) => L.set j none
  | _ => L
def ne_k (L : List (Option Value)) (i : Nat) : List (Option Value) := match i with
  | 0 => L
  | j + 1 => ne_kj L j
def ne_s1 (L : List (Option Value)) (i : Nat) (v : Value) : List (Option Value) := (ne_k L i).set i (some v)
def ne_s2 (L : List (Option Value)) (i : Nat) (v : Value) : List (Option Value) := ((ne_k L i).set i (some v)).set (i + 1) none
theorem ne_k_at {L : List (Option Value)} {i k : Nat} {v : Value} (h : (ne_k L i)[k]? = some (some v)) : L[k]? = some (some v) ∧ ¬ (k + 1 = i ∧ v.category = 2) := by
  cases i with
  | zero => exact ⟨h, fun q => by omega⟩
  | succ j =>
    have h : (ne_kj L j)[k]? = some (some v) := h
    have key : ∀ w : Value, L[j]? = some (some w) → w.category = 2 → ne_kj L j = L.set j none := by
      intro w hw hc
      cases w <;> simp [Value.category] at hc <;> simp [ne_kj, hw]
    by_cases hkj : k = j
    · subst hkj
      by_cases hc : ∃ w : Value, L[k]? = some (some w) ∧ w.category = 2
      · obtain ⟨w, hw, hw2⟩ := hc
        rw [key w hw hw2, List.getElem?_set] at h
        have hlt : k < L.length := (List.getElem?_eq_some_iff.mp hw).1
        simp [hlt] at h
      · have e1 : ne_kj L k = L := by
          unfold ne_kj
          split
          next w hw => exact absurd ⟨_, hw, rfl⟩ hc
          next w hw => exact absurd ⟨_, hw, rfl⟩ hc
          next => rfl
        rw [e1] at h
        exact ⟨h, fun q => hc ⟨v, h, q.2⟩⟩
    · have h2 : L[k]? = some (some v) := by
        unfold ne_kj at h
        split at h
        · rw [List.getElem?_set_ne (fun q => hkj q.symm)] at h; exact h
        · rw [List.getElem?_set_ne (fun q => hkj q.symm)] at h; exact h
        · exact h
      exact ⟨h2, fun q => hkj (by omega)⟩
theorem ne_st1 {ad : Nat → Nat} {ls : Array Slot} {nL i : Nat} {L : List (Option Value)} {v w : Value} (hv : w = ne_v ad v) (h : lv_has ls nL ((i, w) :: (ne_l ad 0 L).filter (fun q => !(q.1 == i) && !(q.1 + 1 == i && q.2.category == 2)))) : lv_has ls nL (ne_l ad 0 (ne_s1 L i v)) := by
  subst hv
  refine ⟨h.1, h.2.1, fun q hq => h.2.2 q ?_⟩
  obtain ⟨k, u, h1, h2⟩ := ne_l_mem.mp hq
  rw [Nat.zero_add] at h2
  subst h2
  by_cases hk : k = i
  · subst hk
    unfold ne_s1 at h1
    rw [List.getElem?_set] at h1
    split at h1
    · split at h1
      · have : v = u := by simpa using h1
        subst this
        exact List.mem_cons_self
      · cases h1
    · rename_i hne; exact absurd rfl hne
  · unfold ne_s1 at h1
    rw [List.getElem?_set_ne (fun q => hk q.symm)] at h1
    obtain ⟨h3, h4⟩ := ne_k_at h1
    refine List.mem_cons_of_mem _ (List.mem_filter.mpr ⟨ne_l_mem.mpr ⟨k, u, h3, by rw [Nat.zero_add]⟩, ?_⟩)
    simp only [ne_v_cat]
    simp only [Bool.and_eq_true, Bool.not_eq_true', beq_eq_false_iff_ne, ne_eq]
    refine ⟨hk, ?_⟩
    simp only [Bool.and_eq_false_iff, beq_eq_false_iff_ne, ne_eq]
    by_cases h5 : k + 1 = i
    · exact Or.inr fun h6 => h4 ⟨h5, h6⟩
    · exact Or.inl h5
theorem ne_st2 {ad : Nat → Nat} {ls : Array Slot} {nL i : Nat} {L : List (Option Value)} {v w : Value} (hv : w = ne_v ad v) (h : lv_has ls nL ((i, w) :: (ne_l ad 0 L).filter (fun q => !(q.1 == i) && (!(q.1 == i + 1) && !(q.1 + 1 == i && q.2.category == 2))))) : lv_has ls nL (ne_l ad 0 (ne_s2 L i v)) := by
  subst hv
  refine ⟨h.1, h.2.1, fun q hq => h.2.2 q ?_⟩
  obtain ⟨k, u, h1, h2⟩ := ne_l_mem.mp hq
  rw [Nat.zero_add] at h2
  subst h2
  unfold ne_s2 at h1
  by_cases hk1 : k = i + 1
  · subst hk1
    rw [List.getElem?_set] at h1
    split at h1
    · split at h1
      · cases h1
      · cases h1
    · rename_i hne; exact absurd rfl hne
  rw [List.getElem?_set_ne (fun q => hk1 q.symm)] at h1
  by_cases hk : k = i
  · subst hk
    rw [List.getElem?_set] at h1
    split at h1
    · split at h1
      · have : v = u := by simpa using h1
        subst this
        exact List.mem_cons_self
      · cases h1
    · rename_i hne; exact absurd rfl hne
  · rw [List.getElem?_set_ne (fun q => hk q.symm)] at h1
    obtain ⟨h3, h4⟩ := ne_k_at h1
    refine List.mem_cons_of_mem _ (List.mem_filter.mpr ⟨ne_l_mem.mpr ⟨k, u, h3, by rw [Nat.zero_add]⟩, ?_⟩)
    simp only [ne_v_cat]
    simp only [Bool.and_eq_true, Bool.not_eq_true', beq_eq_false_iff_ne, ne_eq]
    refine ⟨hk, hk1, ?_⟩
    simp only [Bool.and_eq_false_iff, beq_eq_false_iff_ne, ne_eq]
    by_cases h5 : k + 1 = i
    · exact Or.inr fun h6 => h4 ⟨h5, h6⟩
    · exact Or.inl h5
/-- the locals at the entry -/
def ne_a : List Value → List (Option Value)
  | [] => []
  | v :: t => if v.category = 2 then some v :: none :: ne_a t else some v :: ne_a t
theorem ne_a_args {ad : Nat → Nat} : ∀ {as : List Value} {i : Nat}, ne_l ad i (ne_a as) = lv_args i (as.map (ne_v ad))
  | [], i => rfl
  | v :: t, i => by
    rw [ne_a, List.map_cons, lv_args, ne_v_cat]
    by_cases h : v.category = 2
    · rw [if_pos h, if_pos h, ne_l, ne_l, ne_a_args]
    · rw [if_neg h, if_neg h, ne_l, ne_a_args]
theorem ne_l_pad {ad : Nat → Nat} {n : Nat} : ∀ {L : List (Option Value)} {i : Nat}, ne_l ad i (L ++ List.replicate n none) = ne_l ad i L
  | [], i => by
    rw [List.nil_append]
    show ne_l ad i (List.replicate n none) = []
    induction n generalizing i with
    | zero => rfl
    | succ n ih =>
      rw [List.replicate_succ, ne_l]
      exact ih _
  | none :: t, i => by rw [List.cons_append, ne_l, ne_l, ne_l_pad]
  | some v :: t, i => by rw [List.cons_append, ne_l, ne_l, ne_l_pad]
end NEA
section NEB
def ne_ty (ct : Nat → ClassId) : List (ClassId × FieldType) := [(ct 0, .int), (ct 1, .byte)]
/-- the constant texts that are loaded: class, place in its pool, text -/
def ne_sl : List (String × Nat × String) := [("Ninewheel", 164, "-9"), ("Ninewheel", 234, "no such cell"), ("Ninewheel", 239, "no such wheel"), ("Ninewheel", 243, "an argument is out of its bounds"), ("Ninewheel", 248, "a bottom is divided by 2 or by 5"), ("NinewheelModel", 126, ""), ("NinewheelModel", 164, "-9")]
/-- nest mates' private methods and fields that are linked: class, place in its pool, which, the host -/
def ne_nm : List (String × Nat × MethodName × String) := [("Ninewheel", 33, ⟨"Ninewheel$LongNumber", "<init>", "()V"⟩, "Ninewheel"), ("Ninewheel", 274, ⟨"Ninewheel$LongNumber", "clear", "()V"⟩, "Ninewheel"), ("Ninewheel", 277, ⟨"Ninewheel$LongNumber", "raise", "(II)V"⟩, "Ninewheel"), ("Ninewheel", 280, ⟨"Ninewheel$LongNumber", "carry", "()V"⟩, "Ninewheel"), ("Ninewheel", 283, ⟨"Ninewheel$LongNumber", "becomeNines", "(II)V"⟩, "Ninewheel"), ("Ninewheel", 286, ⟨"Ninewheel$LongNumber", "isLike", "(LNinewheel$LongNumber;)Z"⟩, "Ninewheel"), ("NinewheelLaw", 172, ⟨"NinewheelLaw$Out", "<init>", "()V"⟩, "NinewheelLaw"), ("Ninewheel", 169, ⟨"Ninewheel$LongNumber", "written", "()Ljava/lang/String;"⟩, "Ninewheel"), ("Ninewheel$LongNumber", 26, ⟨"Ninewheel", "signOfDigit", "(I)C"⟩, "Ninewheel")]
def ne_nf : List (String × Nat × String × String × String × String) := [("NinewheelLaw", 13, "NinewheelLaw$Out", "n", "J", "NinewheelLaw"), ("NinewheelLaw", 100, "NinewheelLaw$Out", "s", "Ljava/lang/String;", "NinewheelLaw")]
def ne_N (U : State) : Prop := (∀ q ∈ ne_nm, va_Nw (.methodLinkNest q.1 q.2.1 q.2.2.1 q.2.2.2) U) ∧ ∀ q ∈ ne_nf, va_Nw (.fieldLinkNest q.1 q.2.1 q.2.2.1 q.2.2.2.1 q.2.2.2.2.1 q.2.2.2.2.2) U
theorem ne_N.same {u U : State} (hv : U.vm = u.vm) (h : ne_N u) : ne_N U := ⟨fun q hq => (h.1 q hq).same rfl hv.symm, fun q hq => (h.2 q hq).same rfl hv.symm⟩
theorem ne_N.warm {s U : State} (hW : s.WarmedH U.vm) (h : ne_N s) : ne_N U := ⟨fun q hq => (h.1 q hq).warmM hW, fun q hq => (h.2 q hq).warmF hW⟩
def ne_R (U : State) : Prop := ∀ q ∈ ne_sl, ∃ a, vk_R q.1 q.2.1 q.2.2 a U
theorem ne_R.same {u U : State} (hv : U.vm = u.vm) (h : ne_R u) : ne_R U := fun q hq => by
  obtain ⟨a, ha⟩ := h q hq
  exact ⟨a, vk_R.same hv ha⟩
theorem ne_R.warm {s U : State} (hW : s.WarmedH U.vm) (h : ne_R s) : ne_R U := fun q hq => by
  obtain ⟨a, ha⟩ := h q hq
  exact ⟨a, vk_R.warm hW ha⟩
/-- statics that are read: where they lie, what they hold -/
def ne_Z (A : Nat → Prop) (U : State) (H : Heap) : Prop := vx_Zq Bundle.tN "UNASSIGNED_STACK" Bundle.steD A U H ∧ vx_Zq Bundle.tN "SUPPRESSED_SENTINEL" Bundle.listD A U H ∧ va_Z "java/lang/String" "COMPACT_STRINGS" "Z" (.int 1) A U H ∧ ne_R U ∧ ne_N U
theorem ne_Z.kept {A : Nat → Prop} {U : State} {H H1 : Heap} (h : ne_Z A U H) (hq : ∀ a : Nat, a < H.size → ¬ A a → H1[a]? = H[a]?) : ne_Z A U H1 := ⟨h.1.kept hq, h.2.1.kept hq, va_Z.kept h.2.2.1 hq, h.2.2.2⟩
theorem ne_Z.narrow {A B : Nat → Prop} {U : State} {H : Heap} (h : ne_Z A U H) (hAB : ∀ q, B q → A q) : ne_Z B U H := ⟨h.1.narrow hAB, h.2.1.narrow hAB, va_Z.narrow h.2.2.1 hAB, h.2.2.2⟩
theorem ne_Z.warm {A : Nat → Prop} {s U : State} {H : Heap} (hW : s.WarmedH U.vm) (h : ne_Z A s H) : ne_Z A U H := ⟨h.1.moved hW.alike, h.2.1.moved hW.alike, va_Z.moved hW.alike h.2.2.1, h.2.2.2.1.warm hW, h.2.2.2.2.warm hW⟩
theorem ne_Z.same {A : Nat → Prop} {u U : State} {H : Heap} (hv : U.vm = u.vm) (h : ne_Z A u H) : ne_Z A U H := by
  have ha : u.vm.Alike U.vm := by rw [hv]; exact Vm.Alike.refl _
  exact ⟨h.1.moved ha, h.2.1.moved ha, va_Z.moved ha h.2.2.1, h.2.2.2.1.same hv, h.2.2.2.2.same hv⟩
/-- what a frame stands on -/
def ne_F (cl : List vw_C) (D : va_G) (ct : Nat → ClassId) (A : Nat → Prop) (p : Program) (l : Launch) (R : Room) (s : State) (m : MethodId) (args : Array Value) (meth : Method) (c : Code) (own : String) (cc : ByteArray) (nL : Nat) (Ts : List Cond) (fr lo mc ms : Nat) : Prop :=
  CallFix p m c cc nL s args Ts own ∧ va_K D cl (ne_ty ct) s ∧ (∀ q, s.heap.size ≤ q → A q) ∧ fr ≤ R.frames ∧ lo ≤ R.locals ∧ mc ≤ R.cells ∧ ms ≤ R.slots ∧ ne_Z A s s.heap ∧ meth.locks = false ∧ l.stackTraces = false
/-- the machine at pc, with locals L, stack st, a world ws, C cells and S slots still free: comes to Q -/
def ne_G (cl : List vw_C) (D : va_G) (ct : Nat → ClassId) (A : Nat → Prop) (n0 : Nat) (ad0 : Nat → Nat) (p : Program) (l : Launch) (e : Env) (R : Room) (s : State) (m : MethodId) (args : Array Value) (below : List Frame) (meth : Method) (c : Code) (Q : State → Prop) (nL mc ms C S pc : Nat) (L : List (Option Value)) (st : List Value) (ws : ne_W) : Prop :=
  ∀ (H : Heap) (locs : List Loc) (cells slots : Nat) (ad : Nat → Nat) (ls : Array Slot), (∀ k, k < n0 → ad k = ad0 k) → cells + C ≤ mc → slots + S ≤ ms → va_P D cl (ne_w ct ad 0 ws) H → va_D A (ne_w ct ad 0 ws) → va_S A s.heap H locs → lv_has ls nL (ne_l ad 0 L) → W p l e R s m args below meth c H locs cells slots Q (F0 m pc ls (st.map (ne_v ad)))
variable {cl : List vw_C} {D : va_G} {ct : Nat → ClassId} {A : Nat → Prop} {n0 : Nat} {ad0 : Nat → Nat} {p : Program} {l : Launch} {e : Env} {R : Room} {s : State} {m : MethodId} {args : Array Value} {below : List Frame} {meth : Method} {c : Code} {Q : State → Prop} {own : String} {cc : ByteArray} {nL : Nat} {Ts : List Cond} {fr lo mc ms C S pc : Nat} {L : List (Option Value)} {st : List Value} {ws : ne_W}
theorem ne_toI {z : Int} (h1 : -2147483648 ≤ z) (h2 : z < 2147483648) : (Int32.ofInt z).toInt = z := Int32.toInt_ofInt_of_le (by rw [show (2 : Int) ^ 31 = 2147483648 from rfl]; exact h1) (by rw [show (2 : Int) ^ 31 = 2147483648 from rfl]; exact h2)
theorem ne_toL {z : Int} (h1 : -9223372036854775808 ≤ z) (h2 : z < 9223372036854775808) : (Int64.ofInt z).toInt = z := Int64.toInt_ofInt_of_le (by rw [show (2 : Int) ^ 63 = 9223372036854775808 from rfl]; exact h1) (by rw [show (2 : Int) ^ 63 = 9223372036854775808 from rfl]; exact h2)
theorem ne_divI {x y : Int} (hx : -2147483648 ≤ x ∧ x < 2147483648) (hy : -2147483648 ≤ y ∧ y < 2147483648) : Int32.ofInt x / Int32.ofInt y = Int32.ofInt (x.tdiv y) := Int32.toInt_inj.mp (by rw [Int32.toInt_div, ne_toI hx.1 hx.2, ne_toI hy.1 hy.2, Int32.toInt_ofInt])
theorem ne_modI {x y : Int} (hx : -2147483648 ≤ x ∧ x < 2147483648) (hy : -2147483648 ≤ y ∧ y < 2147483648) : Int32.ofInt x - Int32.ofInt x / Int32.ofInt y * Int32.ofInt y = Int32.ofInt (x.tmod y) := by
  rw [ne_divI hx hy, ← Int32.ofInt_mul, ← Int32.ofInt_sub, Int.tmod_def, Int.mul_comm]
theorem ne_divL {x y : Int} (hx : -9223372036854775808 ≤ x ∧ x < 9223372036854775808) (hy : -9223372036854775808 ≤ y ∧ y < 9223372036854775808) : Int64.ofInt x / Int64.ofInt y = Int64.ofInt (x.tdiv y) := Int64.toInt_inj.mp (by rw [Int64.toInt_div, ne_toL hx.1 hx.2, ne_toL hy.1 hy.2, Int64.toInt_ofInt])
theorem ne_modL {x y : Int} (hx : -9223372036854775808 ≤ x ∧ x < 9223372036854775808) (hy : -9223372036854775808 ≤ y ∧ y < 9223372036854775808) : Int64.ofInt x - Int64.ofInt x / Int64.ofInt y * Int64.ofInt y = Int64.ofInt (x.tmod y) := by
  rw [ne_divL hx hy, ← Int64.ofInt_mul, ← Int64.ofInt_sub, Int.tmod_def, Int.mul_comm]
theorem ne_eqI {x y : Int} (hx : -2147483648 ≤ x ∧ x < 2147483648) (hy : -2147483648 ≤ y ∧ y < 2147483648) : (Int32.ofInt x = Int32.ofInt y) ↔ x = y := ⟨fun h => by rw [← ne_toI hx.1 hx.2, h, ne_toI hy.1 hy.2], fun h => by rw [h]⟩
theorem ne_ltI {x y : Int} (hx : -2147483648 ≤ x ∧ x < 2147483648) (hy : -2147483648 ≤ y ∧ y < 2147483648) : (Int32.ofInt x < Int32.ofInt y) ↔ x < y := by rw [Int32.lt_iff_toInt_lt, ne_toI hx.1 hx.2, ne_toI hy.1 hy.2]
theorem ne_leI {x y : Int} (hx : -2147483648 ≤ x ∧ x < 2147483648) (hy : -2147483648 ≤ y ∧ y < 2147483648) : (Int32.ofInt x ≤ Int32.ofInt y) ↔ x ≤ y := by rw [Int32.le_iff_toInt_le, ne_toI hx.1 hx.2, ne_toI hy.1 hy.2]
theorem ne_ltL {x y : Int} (hx : -9223372036854775808 ≤ x ∧ x < 9223372036854775808) (hy : -9223372036854775808 ≤ y ∧ y < 9223372036854775808) : (Int64.ofInt x < Int64.ofInt y) ↔ x < y := by rw [Int64.lt_iff_toInt_lt, ne_toL hx.1 hx.2, ne_toL hy.1 hy.2]
theorem ne_z0 : (0 : Int32) = Int32.ofInt 0 := rfl
theorem ne_in {i : Int} {n : Nat} (h0 : 0 ≤ i) (h1 : i < n) (h2 : i < 2147483648) : vp_in (Int32.ofInt i) n ∧ (Int32.ofInt i).toNatClampNeg = i.toNat := by
  have e1 : (Int32.ofInt i).toInt = i := ne_toI (by omega) h2
  have e2 : (Int32.ofInt i).toNatClampNeg = i.toNat := by rw [Int32.toNatClampNeg, e1]
  refine ⟨?_, e2⟩
  unfold vp_in
  rw [e2, ne_z0, ne_ltI ⟨by omega, h2⟩ ⟨by omega, by omega⟩]
  omega
theorem ne_upd {f : Nat → Int} {k : Nat} {z : Int} : upd (fun j => Int32.ofInt (f j)) k (Int32.ofInt z) = fun j => Int32.ofInt (va_up f k z j) := by
  funext j
  unfold upd va_up
  split <;> rfl

/-! constants -/
theorem ne_iconst {n : Int} (X : ne_F cl D ct A p l R s m args meth c own cc nL Ts fr lo mc ms) (hdg : decode cc pc = .ok (.iconst n, 1)) (k : ne_G cl D ct A n0 ad0 p l e R s m args below meth c Q nL mc ms C S (pc + 1) L (ni n :: st) ws) : ne_G cl D ct A n0 ad0 p l e R s m args below meth c Q nL mc ms C S pc L (st) ws := fun H locs cells slots ad ls h1 h2 h3 h4 h5 h6 h7 => by
  have k9 := k H locs cells slots ad ls h1 h2 h3 h4 h5 h6 h7
  exact lv_iconst X.1.1 X.1.2.1 hdg rfl k9
theorem ne_bipush {n v : Int} (hv : (Int8.ofInt n).toInt = v) (X : ne_F cl D ct A p l R s m args meth c own cc nL Ts fr lo mc ms) (hdg : decode cc pc = .ok (.bipush n, 2)) (k : ne_G cl D ct A n0 ad0 p l e R s m args below meth c Q nL mc ms C S (pc + 2) L (ni v :: st) ws) : ne_G cl D ct A n0 ad0 p l e R s m args below meth c Q nL mc ms C S pc L st ws := fun H locs cells slots ad ls h1 h2 h3 h4 h5 h6 h7 => by
  have k9 := k H locs cells slots ad ls h1 h2 h3 h4 h5 h6 h7
  exact lv_bipush X.1.1 X.1.2.1 hdg (by rw [← hv]; rfl) k9
theorem ne_sipush {n v : Int} (hv : (Int16.ofInt n).toInt = v) (X : ne_F cl D ct A p l R s m args meth c own cc nL Ts fr lo mc ms) (hdg : decode cc pc = .ok (.sipush n, 3)) (k : ne_G cl D ct A n0 ad0 p l e R s m args below meth c Q nL mc ms C S (pc + 3) L (ni v :: st) ws) : ne_G cl D ct A n0 ad0 p l e R s m args below meth c Q nL mc ms C S pc L st ws := fun H locs cells slots ad ls h1 h2 h3 h4 h5 h6 h7 => by
  have k9 := k H locs cells slots ad ls h1 h2 h3 h4 h5 h6 h7
  exact lv_sipush X.1.1 X.1.2.1 hdg (by rw [← hv]; rfl) k9
theorem ne_lconst {n : Fin 2} {z : Int} (hz : Int64.ofNat (n : Nat) = Int64.ofInt z) (X : ne_F cl D ct A p l R s m args meth c own cc nL Ts fr lo mc ms) (hdg : decode cc pc = .ok (.lconst n, 1)) (k : ne_G cl D ct A n0 ad0 p l e R s m args below meth c Q nL mc ms C S (pc + 1) L (nl z :: st) ws) : ne_G cl D ct A n0 ad0 p l e R s m args below meth c Q nL mc ms C S pc L st ws := fun H locs cells slots ad ls h1 h2 h3 h4 h5 h6 h7 => by
  have k9 := k H locs cells slots ad ls h1 h2 h3 h4 h5 h6 h7
  exact lv_lconst X.1.1 X.1.2.1 hdg hz k9
theorem ne_ldc {ix : Nat} {v : Int32} {z : Int} (hz : v = Int32.ofInt z) (hw : Cond.constant own ix v ∈ Ts) (X : ne_F cl D ct A p l R s m args meth c own cc nL Ts fr lo mc ms) (hdg : decode cc pc = .ok (.ldc ix, 2)) (k : ne_G cl D ct A n0 ad0 p l e R s m args below meth c Q nL mc ms C S (pc + 2) L (ni z :: st) ws) : ne_G cl D ct A n0 ad0 p l e R s m args below meth c Q nL mc ms C S pc L st ws := fun H locs cells slots ad ls h1 h2 h3 h4 h5 h6 h7 => by
  have k9 := k H locs cells slots ad ls h1 h2 h3 h4 h5 h6 h7
  subst hz
  exact lv_ldc X.1.1 X.1.2.1 X.1.2.2.2.1 (X.1.2.2.2.2 _ hw) hdg k9
theorem ne_ldc2 {ix : Nat} {v : Int64} {z : Int} (hz : v = Int64.ofInt z) (hw : Cond.constantLong own ix v ∈ Ts) (X : ne_F cl D ct A p l R s m args meth c own cc nL Ts fr lo mc ms) (hdg : decode cc pc = .ok (.ldc2_w ix, 3)) (k : ne_G cl D ct A n0 ad0 p l e R s m args below meth c Q nL mc ms C S (pc + 3) L (nl z :: st) ws) : ne_G cl D ct A n0 ad0 p l e R s m args below meth c Q nL mc ms C S pc L st ws := fun H locs cells slots ad ls h1 h2 h3 h4 h5 h6 h7 => by
  have k9 := k H locs cells slots ad ls h1 h2 h3 h4 h5 h6 h7
  subst hz
  exact lv_ldc2 X.1.1 X.1.2.1 X.1.2.2.2.1 (X.1.2.2.2.2 _ hw) hdg k9
theorem ne_null (X : ne_F cl D ct A p l R s m args meth c own cc nL Ts fr lo mc ms) (hdg : decode cc pc = .ok (.aconst_null, 1)) (k : ne_G cl D ct A n0 ad0 p l e R s m args below meth c Q nL mc ms C S (pc + 1) L (.null :: st) ws) : ne_G cl D ct A n0 ad0 p l e R s m args below meth c Q nL mc ms C S pc L (st) ws := fun H locs cells slots ad ls h1 h2 h3 h4 h5 h6 h7 => by
  have k9 := k H locs cells slots ad ls h1 h2 h3 h4 h5 h6 h7
  exact lv_null X.1.1 X.1.2.1 hdg k9
/-! locals -/
theorem ne_at {ad : Nat → Nat} {ls : Array Slot} {i : Nat} {v : Value} (h : lv_has ls nL (ne_l ad 0 L)) (hv : L[i]? = some (some v)) : ls[i]? = some (.val (ne_v ad v)) := by
  have h2 := h.2.2 (i, ne_v ad v) (ne_l_mem.mpr ⟨i, v, hv, by rw [Nat.zero_add]⟩)
  exact h2
theorem ne_iload_n {k : Fin 4} {x : Int32} (X : ne_F cl D ct A p l R s m args meth c own cc nL Ts fr lo mc ms) (hdg : decode cc pc = .ok (.iload_n k, 1)) (hl : L[(k : Nat)]? = some (some (.int x))) (k : ne_G cl D ct A n0 ad0 p l e R s m args below meth c Q nL mc ms C S (pc + 1) L (.int x :: st) ws) : ne_G cl D ct A n0 ad0 p l e R s m args below meth c Q nL mc ms C S pc L st ws := fun H locs cells slots ad ls h1 h2 h3 h4 h5 h6 h7 => by
  have k9 := k H locs cells slots ad ls h1 h2 h3 h4 h5 h6 h7
  exact lv_iload_n X.1.1 X.1.2.1 hdg rfl (ne_at h7 hl) k9
theorem ne_iload {i : Nat} {x : Int32} (X : ne_F cl D ct A p l R s m args meth c own cc nL Ts fr lo mc ms) (hdg : decode cc pc = .ok (.iload i, 2)) (hl : L[i]? = some (some (.int x))) (k : ne_G cl D ct A n0 ad0 p l e R s m args below meth c Q nL mc ms C S (pc + 2) L (.int x :: st) ws) : ne_G cl D ct A n0 ad0 p l e R s m args below meth c Q nL mc ms C S pc L st ws := fun H locs cells slots ad ls h1 h2 h3 h4 h5 h6 h7 => by
  have k9 := k H locs cells slots ad ls h1 h2 h3 h4 h5 h6 h7
  exact lv_iload X.1.1 X.1.2.1 hdg (ne_at h7 hl) k9
theorem ne_lload_n {k : Fin 4} {x : Int64} (X : ne_F cl D ct A p l R s m args meth c own cc nL Ts fr lo mc ms) (hdg : decode cc pc = .ok (.lload_n k, 1)) (hl : L[(k : Nat)]? = some (some (.long x))) (k : ne_G cl D ct A n0 ad0 p l e R s m args below meth c Q nL mc ms C S (pc + 1) L (.long x :: st) ws) : ne_G cl D ct A n0 ad0 p l e R s m args below meth c Q nL mc ms C S pc L st ws := fun H locs cells slots ad ls h1 h2 h3 h4 h5 h6 h7 => by
  have k9 := k H locs cells slots ad ls h1 h2 h3 h4 h5 h6 h7
  exact lv_lload_n X.1.1 X.1.2.1 hdg rfl (ne_at h7 hl) k9
theorem ne_lload {i : Nat} {x : Int64} (X : ne_F cl D ct A p l R s m args meth c own cc nL Ts fr lo mc ms) (hdg : decode cc pc = .ok (.lload i, 2)) (hl : L[i]? = some (some (.long x))) (k : ne_G cl D ct A n0 ad0 p l e R s m args below meth c Q nL mc ms C S (pc + 2) L (.long x :: st) ws) : ne_G cl D ct A n0 ad0 p l e R s m args below meth c Q nL mc ms C S pc L st ws := fun H locs cells slots ad ls h1 h2 h3 h4 h5 h6 h7 => by
  have k9 := k H locs cells slots ad ls h1 h2 h3 h4 h5 h6 h7
  exact lv_lload X.1.1 X.1.2.1 hdg (ne_at h7 hl) k9
theorem ne_aload_n {k : Fin 4} {q : Nat} (X : ne_F cl D ct A p l R s m args meth c own cc nL Ts fr lo mc ms) (hdg : decode cc pc = .ok (.aload_n k, 1)) (hl : L[(k : Nat)]? = some (some (.ref q))) (k : ne_G cl D ct A n0 ad0 p l e R s m args below meth c Q nL mc ms C S (pc + 1) L (.ref q :: st) ws) : ne_G cl D ct A n0 ad0 p l e R s m args below meth c Q nL mc ms C S pc L st ws := fun H locs cells slots ad ls h1 h2 h3 h4 h5 h6 h7 => by
  have k9 := k H locs cells slots ad ls h1 h2 h3 h4 h5 h6 h7
  exact lv_aload_n X.1.1 X.1.2.1 hdg rfl (ne_at h7 hl) k9
theorem ne_aload {i : Nat} {q : Nat} (X : ne_F cl D ct A p l R s m args meth c own cc nL Ts fr lo mc ms) (hdg : decode cc pc = .ok (.aload i, 2)) (hl : L[i]? = some (some (.ref q))) (k : ne_G cl D ct A n0 ad0 p l e R s m args below meth c Q nL mc ms C S (pc + 2) L (.ref q :: st) ws) : ne_G cl D ct A n0 ad0 p l e R s m args below meth c Q nL mc ms C S pc L st ws := fun H locs cells slots ad ls h1 h2 h3 h4 h5 h6 h7 => by
  have k9 := k H locs cells slots ad ls h1 h2 h3 h4 h5 h6 h7
  exact lv_aload X.1.1 X.1.2.1 hdg (ne_at h7 hl) k9
theorem ne_aload_nN {k : Fin 4} (X : ne_F cl D ct A p l R s m args meth c own cc nL Ts fr lo mc ms) (hdg : decode cc pc = .ok (.aload_n k, 1)) (hl : L[(k : Nat)]? = some (some .null)) (k : ne_G cl D ct A n0 ad0 p l e R s m args below meth c Q nL mc ms C S (pc + 1) L (.null :: st) ws) : ne_G cl D ct A n0 ad0 p l e R s m args below meth c Q nL mc ms C S pc L st ws := fun H locs cells slots ad ls h1 h2 h3 h4 h5 h6 h7 => by
  have k9 := k H locs cells slots ad ls h1 h2 h3 h4 h5 h6 h7
  exact lv_aload_nN X.1.1 X.1.2.1 hdg rfl (ne_at h7 hl) k9
theorem ne_istore_n {k : Fin 4} {i : Nat} {x : Int32} (X : ne_F cl D ct A p l R s m args meth c own cc nL Ts fr lo mc ms) (hdg : decode cc pc = .ok (.istore_n k, 1)) (hi : (k : Nat) = i) (hn : i < nL) (k : ne_G cl D ct A n0 ad0 p l e R s m args below meth c Q nL mc ms C S (pc + 1) (ne_s1 L i (.int x)) st ws) : ne_G cl D ct A n0 ad0 p l e R s m args below meth c Q nL mc ms C S pc L (.int x :: st) ws := fun H locs cells slots ad ls h1 h2 h3 h4 h5 h6 h7 =>
  lv_istore_n X.1.1 X.1.2.1 hdg hi h7 hn rfl fun ls' h8 => k H locs cells slots ad ls' h1 h2 h3 h4 h5 h6 (ne_st1 rfl h8)
theorem ne_istore {i : Nat} {x : Int32} (X : ne_F cl D ct A p l R s m args meth c own cc nL Ts fr lo mc ms) (hdg : decode cc pc = .ok (.istore i, 2)) (hn : i < nL) (k : ne_G cl D ct A n0 ad0 p l e R s m args below meth c Q nL mc ms C S (pc + 2) (ne_s1 L i (.int x)) st ws) : ne_G cl D ct A n0 ad0 p l e R s m args below meth c Q nL mc ms C S pc L (.int x :: st) ws := fun H locs cells slots ad ls h1 h2 h3 h4 h5 h6 h7 =>
  lv_istore X.1.1 X.1.2.1 hdg h7 hn rfl fun ls' h8 => k H locs cells slots ad ls' h1 h2 h3 h4 h5 h6 (ne_st1 rfl h8)
theorem ne_lstore_n {k : Fin 4} {i : Nat} {x : Int64} (X : ne_F cl D ct A p l R s m args meth c own cc nL Ts fr lo mc ms) (hdg : decode cc pc = .ok (.lstore_n k, 1)) (hi : (k : Nat) = i) (hn : i + 1 < nL) (k : ne_G cl D ct A n0 ad0 p l e R s m args below meth c Q nL mc ms C S (pc + 1) (ne_s2 L i (.long x)) st ws) : ne_G cl D ct A n0 ad0 p l e R s m args below meth c Q nL mc ms C S pc L (.long x :: st) ws := fun H locs cells slots ad ls h1 h2 h3 h4 h5 h6 h7 =>
  lv_lstore_n X.1.1 X.1.2.1 hdg hi h7 hn rfl fun ls' h8 => k H locs cells slots ad ls' h1 h2 h3 h4 h5 h6 (ne_st2 rfl h8)
theorem ne_lstore {i : Nat} {x : Int64} (X : ne_F cl D ct A p l R s m args meth c own cc nL Ts fr lo mc ms) (hdg : decode cc pc = .ok (.lstore i, 2)) (hn : i + 1 < nL) (k : ne_G cl D ct A n0 ad0 p l e R s m args below meth c Q nL mc ms C S (pc + 2) (ne_s2 L i (.long x)) st ws) : ne_G cl D ct A n0 ad0 p l e R s m args below meth c Q nL mc ms C S pc L (.long x :: st) ws := fun H locs cells slots ad ls h1 h2 h3 h4 h5 h6 h7 =>
  lv_lstore X.1.1 X.1.2.1 hdg h7 hn rfl fun ls' h8 => k H locs cells slots ad ls' h1 h2 h3 h4 h5 h6 (ne_st2 rfl h8)
theorem ne_astore_n {k : Fin 4} {i : Nat} {x : Nat} (X : ne_F cl D ct A p l R s m args meth c own cc nL Ts fr lo mc ms) (hdg : decode cc pc = .ok (.astore_n k, 1)) (hi : (k : Nat) = i) (hn : i < nL) (k : ne_G cl D ct A n0 ad0 p l e R s m args below meth c Q nL mc ms C S (pc + 1) (ne_s1 L i (.ref x)) st ws) : ne_G cl D ct A n0 ad0 p l e R s m args below meth c Q nL mc ms C S pc L (.ref x :: st) ws := fun H locs cells slots ad ls h1 h2 h3 h4 h5 h6 h7 =>
  lv_astore_n X.1.1 X.1.2.1 hdg hi h7 hn rfl fun ls' h8 => k H locs cells slots ad ls' h1 h2 h3 h4 h5 h6 (ne_st1 rfl h8)
theorem ne_astore {i : Nat} {x : Nat} (X : ne_F cl D ct A p l R s m args meth c own cc nL Ts fr lo mc ms) (hdg : decode cc pc = .ok (.astore i, 2)) (hn : i < nL) (k : ne_G cl D ct A n0 ad0 p l e R s m args below meth c Q nL mc ms C S (pc + 2) (ne_s1 L i (.ref x)) st ws) : ne_G cl D ct A n0 ad0 p l e R s m args below meth c Q nL mc ms C S pc L (.ref x :: st) ws := fun H locs cells slots ad ls h1 h2 h3 h4 h5 h6 h7 =>
  lv_astore X.1.1 X.1.2.1 hdg h7 hn rfl fun ls' h8 => k H locs cells slots ad ls' h1 h2 h3 h4 h5 h6 (ne_st1 rfl h8)
theorem ne_iinc {i : Nat} {n x : Int} (X : ne_F cl D ct A p l R s m args meth c own cc nL Ts fr lo mc ms) (hdg : decode cc pc = .ok (.iinc i n, 3)) (hl : L[i]? = some (some (ni x))) (hn : i < nL) (k : ne_G cl D ct A n0 ad0 p l e R s m args below meth c Q nL mc ms C S (pc + 3) (ne_s1 L i (ni (x + n))) st ws) : ne_G cl D ct A n0 ad0 p l e R s m args below meth c Q nL mc ms C S pc L st ws := fun H locs cells slots ad ls h1 h2 h3 h4 h5 h6 h7 => by
  obtain ⟨j, hj⟩ := List.getElem?_of_mem (ne_l_mem (ad := ad) (i := 0).mpr ⟨i, _, hl, rfl⟩)
  rw [Nat.zero_add] at hj
  exact lv_iinc X.1.1 X.1.2.1 hdg h7 hj (v := Int32.ofInt (x + n)) (Int32.ofInt_add x n).symm hn rfl fun ls' h8 => k H locs cells slots ad ls' h1 h2 h3 h4 h5 h6 (ne_st1 rfl h8)
/-! arithmetic -/
theorem ne_iadd {x y : Int} (X : ne_F cl D ct A p l R s m args meth c own cc nL Ts fr lo mc ms) (hdg : decode cc pc = .ok (.iadd, 1)) (k : ne_G cl D ct A n0 ad0 p l e R s m args below meth c Q nL mc ms C S (pc + 1) L (ni (x + y) :: st) ws) : ne_G cl D ct A n0 ad0 p l e R s m args below meth c Q nL mc ms C S pc L (ni y :: ni x :: st) ws := fun H locs cells slots ad ls h1 h2 h3 h4 h5 h6 h7 => by
  have k9 := k H locs cells slots ad ls h1 h2 h3 h4 h5 h6 h7
  exact lv_iadd X.1.1 X.1.2.1 hdg (by rw [← Int32.ofInt_add]; exact k9)
theorem ne_isub {x y : Int} (X : ne_F cl D ct A p l R s m args meth c own cc nL Ts fr lo mc ms) (hdg : decode cc pc = .ok (.isub, 1)) (k : ne_G cl D ct A n0 ad0 p l e R s m args below meth c Q nL mc ms C S (pc + 1) L (ni (x - y) :: st) ws) : ne_G cl D ct A n0 ad0 p l e R s m args below meth c Q nL mc ms C S pc L (ni y :: ni x :: st) ws := fun H locs cells slots ad ls h1 h2 h3 h4 h5 h6 h7 => by
  have k9 := k H locs cells slots ad ls h1 h2 h3 h4 h5 h6 h7
  exact lv_isub X.1.1 X.1.2.1 hdg (by rw [← Int32.ofInt_sub]; exact k9)
theorem ne_imul {x y : Int} (X : ne_F cl D ct A p l R s m args meth c own cc nL Ts fr lo mc ms) (hdg : decode cc pc = .ok (.imul, 1)) (k : ne_G cl D ct A n0 ad0 p l e R s m args below meth c Q nL mc ms C S (pc + 1) L (ni (x * y) :: st) ws) : ne_G cl D ct A n0 ad0 p l e R s m args below meth c Q nL mc ms C S pc L (ni y :: ni x :: st) ws := fun H locs cells slots ad ls h1 h2 h3 h4 h5 h6 h7 => by
  have k9 := k H locs cells slots ad ls h1 h2 h3 h4 h5 h6 h7
  exact lv_imul X.1.1 X.1.2.1 hdg (by rw [← Int32.ofInt_mul]; exact k9)
theorem ne_ladd {x y : Int} (X : ne_F cl D ct A p l R s m args meth c own cc nL Ts fr lo mc ms) (hdg : decode cc pc = .ok (.ladd, 1)) (k : ne_G cl D ct A n0 ad0 p l e R s m args below meth c Q nL mc ms C S (pc + 1) L (nl (x + y) :: st) ws) : ne_G cl D ct A n0 ad0 p l e R s m args below meth c Q nL mc ms C S pc L (nl y :: nl x :: st) ws := fun H locs cells slots ad ls h1 h2 h3 h4 h5 h6 h7 => by
  have k9 := k H locs cells slots ad ls h1 h2 h3 h4 h5 h6 h7
  exact lv_ladd X.1.1 X.1.2.1 hdg (by rw [← Int64.ofInt_add]; exact k9)
theorem ne_lsub {x y : Int} (X : ne_F cl D ct A p l R s m args meth c own cc nL Ts fr lo mc ms) (hdg : decode cc pc = .ok (.lsub, 1)) (k : ne_G cl D ct A n0 ad0 p l e R s m args below meth c Q nL mc ms C S (pc + 1) L (nl (x - y) :: st) ws) : ne_G cl D ct A n0 ad0 p l e R s m args below meth c Q nL mc ms C S pc L (nl y :: nl x :: st) ws := fun H locs cells slots ad ls h1 h2 h3 h4 h5 h6 h7 => by
  have k9 := k H locs cells slots ad ls h1 h2 h3 h4 h5 h6 h7
  exact lv_lsub X.1.1 X.1.2.1 hdg (by rw [← Int64.ofInt_sub]; exact k9)
theorem ne_lmul {x y : Int} (X : ne_F cl D ct A p l R s m args meth c own cc nL Ts fr lo mc ms) (hdg : decode cc pc = .ok (.lmul, 1)) (k : ne_G cl D ct A n0 ad0 p l e R s m args below meth c Q nL mc ms C S (pc + 1) L (nl (x * y) :: st) ws) : ne_G cl D ct A n0 ad0 p l e R s m args below meth c Q nL mc ms C S pc L (nl y :: nl x :: st) ws := fun H locs cells slots ad ls h1 h2 h3 h4 h5 h6 h7 => by
  have k9 := k H locs cells slots ad ls h1 h2 h3 h4 h5 h6 h7
  exact lv_lmul X.1.1 X.1.2.1 hdg (by rw [← Int64.ofInt_mul]; exact k9)
theorem ne_ineg {x : Int} (X : ne_F cl D ct A p l R s m args meth c own cc nL Ts fr lo mc ms) (hdg : decode cc pc = .ok (.ineg, 1)) (k : ne_G cl D ct A n0 ad0 p l e R s m args below meth c Q nL mc ms C S (pc + 1) L (ni (-x) :: st) ws) : ne_G cl D ct A n0 ad0 p l e R s m args below meth c Q nL mc ms C S pc L (ni x :: st) ws := fun H locs cells slots ad ls h1 h2 h3 h4 h5 h6 h7 => by
  have k9 := k H locs cells slots ad ls h1 h2 h3 h4 h5 h6 h7
  exact lv_ineg X.1.1 X.1.2.1 hdg (by rw [← Int32.ofInt_neg]; exact k9)
theorem ne_lneg {x : Int} (X : ne_F cl D ct A p l R s m args meth c own cc nL Ts fr lo mc ms) (hdg : decode cc pc = .ok (.lneg, 1)) (k : ne_G cl D ct A n0 ad0 p l e R s m args below meth c Q nL mc ms C S (pc + 1) L (nl (-x) :: st) ws) : ne_G cl D ct A n0 ad0 p l e R s m args below meth c Q nL mc ms C S pc L (nl x :: st) ws := fun H locs cells slots ad ls h1 h2 h3 h4 h5 h6 h7 => by
  have k9 := k H locs cells slots ad ls h1 h2 h3 h4 h5 h6 h7
  exact lv_lneg X.1.1 X.1.2.1 hdg (by rw [← Int64.ofInt_neg]; exact k9)
theorem ne_idiv {x y : Int} (X : ne_F cl D ct A p l R s m args meth c own cc nL Ts fr lo mc ms) (hdg : decode cc pc = .ok (.idiv, 1)) (hx : -2147483648 ≤ x ∧ x < 2147483648) (hy : -2147483648 ≤ y ∧ y < 2147483648) (hne : y ≠ 0) (k : ne_G cl D ct A n0 ad0 p l e R s m args below meth c Q nL mc ms C S (pc + 1) L (ni (x.tdiv y) :: st) ws) : ne_G cl D ct A n0 ad0 p l e R s m args below meth c Q nL mc ms C S pc L (ni y :: ni x :: st) ws := fun H locs cells slots ad ls h1 h2 h3 h4 h5 h6 h7 => by
  have k9 := k H locs cells slots ad ls h1 h2 h3 h4 h5 h6 h7
  refine lv_idiv X.1.1 X.1.2.1 hdg (fun h => hne ?_) (by rw [ne_divI hx hy]; exact k9)
  have h9 := congrArg Int32.toInt h
  rw [ne_toI hy.1 hy.2] at h9
  exact h9
theorem ne_irem {x y : Int} (X : ne_F cl D ct A p l R s m args meth c own cc nL Ts fr lo mc ms) (hdg : decode cc pc = .ok (.irem, 1)) (hx : -2147483648 ≤ x ∧ x < 2147483648) (hy : -2147483648 ≤ y ∧ y < 2147483648) (hne : y ≠ 0) (k : ne_G cl D ct A n0 ad0 p l e R s m args below meth c Q nL mc ms C S (pc + 1) L (ni (x.tmod y) :: st) ws) : ne_G cl D ct A n0 ad0 p l e R s m args below meth c Q nL mc ms C S pc L (ni y :: ni x :: st) ws := fun H locs cells slots ad ls h1 h2 h3 h4 h5 h6 h7 => by
  have k9 := k H locs cells slots ad ls h1 h2 h3 h4 h5 h6 h7
  refine lv_irem X.1.1 X.1.2.1 hdg (fun h => hne ?_) (by rw [ne_modI hx hy]; exact k9)
  have h9 := congrArg Int32.toInt h
  rw [ne_toI hy.1 hy.2] at h9
  exact h9
theorem ne_ldiv {x y : Int} (X : ne_F cl D ct A p l R s m args meth c own cc nL Ts fr lo mc ms) (hdg : decode cc pc = .ok (.ldiv, 1)) (hx : -9223372036854775808 ≤ x ∧ x < 9223372036854775808) (hy : -9223372036854775808 ≤ y ∧ y < 9223372036854775808) (hne : y ≠ 0) (k : ne_G cl D ct A n0 ad0 p l e R s m args below meth c Q nL mc ms C S (pc + 1) L (nl (x.tdiv y) :: st) ws) : ne_G cl D ct A n0 ad0 p l e R s m args below meth c Q nL mc ms C S pc L (nl y :: nl x :: st) ws := fun H locs cells slots ad ls h1 h2 h3 h4 h5 h6 h7 => by
  have k9 := k H locs cells slots ad ls h1 h2 h3 h4 h5 h6 h7
  refine lv_ldiv X.1.1 X.1.2.1 hdg (fun h => hne ?_) (by rw [ne_divL hx hy]; exact k9)
  have h9 := congrArg Int64.toInt h
  rw [ne_toL hy.1 hy.2] at h9
  exact h9
theorem ne_lrem {x y : Int} (X : ne_F cl D ct A p l R s m args meth c own cc nL Ts fr lo mc ms) (hdg : decode cc pc = .ok (.lrem, 1)) (hx : -9223372036854775808 ≤ x ∧ x < 9223372036854775808) (hy : -9223372036854775808 ≤ y ∧ y < 9223372036854775808) (hne : y ≠ 0) (k : ne_G cl D ct A n0 ad0 p l e R s m args below meth c Q nL mc ms C S (pc + 1) L (nl (x.tmod y) :: st) ws) : ne_G cl D ct A n0 ad0 p l e R s m args below meth c Q nL mc ms C S pc L (nl y :: nl x :: st) ws := fun H locs cells slots ad ls h1 h2 h3 h4 h5 h6 h7 => by
  have k9 := k H locs cells slots ad ls h1 h2 h3 h4 h5 h6 h7
  refine lv_lrem X.1.1 X.1.2.1 hdg (fun h => hne ?_) (by rw [ne_modL hx hy]; exact k9)
  have h9 := congrArg Int64.toInt h
  rw [ne_toL hy.1 hy.2] at h9
  exact h9
theorem ne_i2l {x : Int} (hx : -2147483648 ≤ x ∧ x < 2147483648) (X : ne_F cl D ct A p l R s m args meth c own cc nL Ts fr lo mc ms) (hdg : decode cc pc = .ok (.i2l, 1)) (k : ne_G cl D ct A n0 ad0 p l e R s m args below meth c Q nL mc ms C S (pc + 1) L (nl x :: st) ws) : ne_G cl D ct A n0 ad0 p l e R s m args below meth c Q nL mc ms C S pc L (ni x :: st) ws := fun H locs cells slots ad ls h1 h2 h3 h4 h5 h6 h7 => by
  have k9 := k H locs cells slots ad ls h1 h2 h3 h4 h5 h6 h7
  exact lv_i2l X.1.1 X.1.2.1 hdg (Int64.toInt_inj.mp (by rw [Int32.toInt_toInt64, ne_toI hx.1 hx.2, ne_toL (by omega) (by omega)])) k9
theorem ne_l2i {x : Int} (X : ne_F cl D ct A p l R s m args meth c own cc nL Ts fr lo mc ms) (hdg : decode cc pc = .ok (.l2i, 1)) (k : ne_G cl D ct A n0 ad0 p l e R s m args below meth c Q nL mc ms C S (pc + 1) L (ni x :: st) ws) : ne_G cl D ct A n0 ad0 p l e R s m args below meth c Q nL mc ms C S pc L (nl x :: st) ws := fun H locs cells slots ad ls h1 h2 h3 h4 h5 h6 h7 => by
  have k9 := k H locs cells slots ad ls h1 h2 h3 h4 h5 h6 h7
  exact lv_l2i X.1.1 X.1.2.1 hdg Int64.toInt32_ofInt k9
/-! stack -/
theorem ne_dupi {x : Int32} (X : ne_F cl D ct A p l R s m args meth c own cc nL Ts fr lo mc ms) (hdg : decode cc pc = .ok (.dup, 1)) (k : ne_G cl D ct A n0 ad0 p l e R s m args below meth c Q nL mc ms C S (pc + 1) L (.int x :: .int x :: st) ws) : ne_G cl D ct A n0 ad0 p l e R s m args below meth c Q nL mc ms C S pc L (.int x :: st) ws := fun H locs cells slots ad ls h1 h2 h3 h4 h5 h6 h7 => by
  have k9 := k H locs cells slots ad ls h1 h2 h3 h4 h5 h6 h7
  exact lv_dup X.1.1 X.1.2.1 hdg rfl k9
theorem ne_dupa {x : Nat} (X : ne_F cl D ct A p l R s m args meth c own cc nL Ts fr lo mc ms) (hdg : decode cc pc = .ok (.dup, 1)) (k : ne_G cl D ct A n0 ad0 p l e R s m args below meth c Q nL mc ms C S (pc + 1) L (.ref x :: .ref x :: st) ws) : ne_G cl D ct A n0 ad0 p l e R s m args below meth c Q nL mc ms C S pc L (.ref x :: st) ws := fun H locs cells slots ad ls h1 h2 h3 h4 h5 h6 h7 => by
  have k9 := k H locs cells slots ad ls h1 h2 h3 h4 h5 h6 h7
  exact lv_dup X.1.1 X.1.2.1 hdg rfl k9
theorem ne_popi {x : Int32} (X : ne_F cl D ct A p l R s m args meth c own cc nL Ts fr lo mc ms) (hdg : decode cc pc = .ok (.pop, 1)) (k : ne_G cl D ct A n0 ad0 p l e R s m args below meth c Q nL mc ms C S (pc + 1) L (st) ws) : ne_G cl D ct A n0 ad0 p l e R s m args below meth c Q nL mc ms C S pc L (.int x :: st) ws := fun H locs cells slots ad ls h1 h2 h3 h4 h5 h6 h7 => by
  have k9 := k H locs cells slots ad ls h1 h2 h3 h4 h5 h6 h7
  exact lv_pop X.1.1 X.1.2.1 hdg rfl k9
theorem ne_popa {x : Nat} (X : ne_F cl D ct A p l R s m args meth c own cc nL Ts fr lo mc ms) (hdg : decode cc pc = .ok (.pop, 1)) (k : ne_G cl D ct A n0 ad0 p l e R s m args below meth c Q nL mc ms C S (pc + 1) L (st) ws) : ne_G cl D ct A n0 ad0 p l e R s m args below meth c Q nL mc ms C S pc L (.ref x :: st) ws := fun H locs cells slots ad ls h1 h2 h3 h4 h5 h6 h7 => by
  have k9 := k H locs cells slots ad ls h1 h2 h3 h4 h5 h6 h7
  exact lv_pop X.1.1 X.1.2.1 hdg rfl k9
theorem ne_pop2l {x : Int64} (X : ne_F cl D ct A p l R s m args meth c own cc nL Ts fr lo mc ms) (hdg : decode cc pc = .ok (.pop2, 1)) (k : ne_G cl D ct A n0 ad0 p l e R s m args below meth c Q nL mc ms C S (pc + 1) L (st) ws) : ne_G cl D ct A n0 ad0 p l e R s m args below meth c Q nL mc ms C S pc L (.long x :: st) ws := fun H locs cells slots ad ls h1 h2 h3 h4 h5 h6 h7 => by
  have k9 := k H locs cells slots ad ls h1 h2 h3 h4 h5 h6 h7
  exact lv_pop2_2 X.1.1 X.1.2.1 hdg rfl k9
theorem ne_dup2ai {x : Int32} {q : Nat} (X : ne_F cl D ct A p l R s m args meth c own cc nL Ts fr lo mc ms) (hdg : decode cc pc = .ok (.dup2, 1)) (k : ne_G cl D ct A n0 ad0 p l e R s m args below meth c Q nL mc ms C S (pc + 1) L (.int x :: .ref q :: .int x :: .ref q :: st) ws) : ne_G cl D ct A n0 ad0 p l e R s m args below meth c Q nL mc ms C S pc L (.int x :: .ref q :: st) ws := fun H locs cells slots ad ls h1 h2 h3 h4 h5 h6 h7 => by
  have k9 := k H locs cells slots ad ls h1 h2 h3 h4 h5 h6 h7
  exact lv_dup2_11 X.1.1 X.1.2.1 hdg rfl rfl k9
theorem ne_dup_x1 {x : Int32} {q : Nat} (X : ne_F cl D ct A p l R s m args meth c own cc nL Ts fr lo mc ms) (hdg : decode cc pc = .ok (.dup_x1, 1)) (k : ne_G cl D ct A n0 ad0 p l e R s m args below meth c Q nL mc ms C S (pc + 1) L (.int x :: .ref q :: .int x :: st) ws) : ne_G cl D ct A n0 ad0 p l e R s m args below meth c Q nL mc ms C S pc L (.int x :: .ref q :: st) ws := fun H locs cells slots ad ls h1 h2 h3 h4 h5 h6 h7 => by
  have k9 := k H locs cells slots ad ls h1 h2 h3 h4 h5 h6 h7
  exact lv_dup_x1 X.1.1 X.1.2.1 hdg rfl rfl k9
/-! branches -/
theorem ne_goto {off : Int} {tgt : Nat} (X : ne_F cl D ct A p l R s m args meth c own cc nL Ts fr lo mc ms) (hdg : decode cc pc = .ok (.goto off, 3)) (ht : (pc : Int) + off = (tgt : Int)) (k : ne_G cl D ct A n0 ad0 p l e R s m args below meth c Q nL mc ms C S tgt L st ws) : ne_G cl D ct A n0 ad0 p l e R s m args below meth c Q nL mc ms C S pc L st ws := fun H locs cells slots ad ls h1 h2 h3 h4 h5 h6 h7 =>
  lv_goto X.1.1 X.1.2.1 hdg ht (k H locs cells slots ad ls h1 h2 h3 h4 h5 h6 h7)
theorem ne_icmp_eq {x y : Int} {off : Int} {tgt : Nat} (X : ne_F cl D ct A p l R s m args meth c own cc nL Ts fr lo mc ms) (hdg : decode cc pc = .ok (.if_icmp .eq off, 3)) (ht : (pc : Int) + off = (tgt : Int)) (hx : -2147483648 ≤ x ∧ x < 2147483648) (hy : -2147483648 ≤ y ∧ y < 2147483648) (kt : x = y → ne_G cl D ct A n0 ad0 p l e R s m args below meth c Q nL mc ms C S tgt L st ws) (kf : x ≠ y → ne_G cl D ct A n0 ad0 p l e R s m args below meth c Q nL mc ms C S (pc + 3) L st ws) : ne_G cl D ct A n0 ad0 p l e R s m args below meth c Q nL mc ms C S pc L (ni y :: ni x :: st) ws := fun H locs cells slots ad ls h1 h2 h3 h4 h5 h6 h7 => by
  skip
  have a1 : (Int32.ofInt x = Int32.ofInt y) ↔ x = y := ne_eqI hx hy
  have a2 : (Int32.ofInt x < Int32.ofInt y) ↔ x < y := ne_ltI hx hy
  have a3 : (Int32.ofInt x ≤ Int32.ofInt y) ↔ x ≤ y := ne_leI hx hy
  have a4 : (Int32.ofInt y < Int32.ofInt x) ↔ y < x := ne_ltI hy hx
  have a5 : (Int32.ofInt y ≤ Int32.ofInt x) ↔ y ≤ x := ne_leI hy hx
  skip
  refine lv_icmp_eq X.1.1 X.1.2.1 hdg ht (fun h9 => kt ?_ H locs cells slots ad ls h1 h2 h3 h4 h5 h6 h7) (fun h9 => kf ?_ H locs cells slots ad ls h1 h2 h3 h4 h5 h6 h7)
  all_goals (simp only [ge_iff_le, gt_iff_lt, ne_eq, Decidable.not_not, a1, a2, a3, a4, a5] at h9; omega)
theorem ne_if_eq {x : Int} {off : Int} {tgt : Nat} (X : ne_F cl D ct A p l R s m args meth c own cc nL Ts fr lo mc ms) (hdg : decode cc pc = .ok (.ifCond .eq off, 3)) (ht : (pc : Int) + off = (tgt : Int)) (hx : -2147483648 ≤ x ∧ x < 2147483648) (kt : x = 0 → ne_G cl D ct A n0 ad0 p l e R s m args below meth c Q nL mc ms C S tgt L st ws) (kf : x ≠ 0 → ne_G cl D ct A n0 ad0 p l e R s m args below meth c Q nL mc ms C S (pc + 3) L st ws) : ne_G cl D ct A n0 ad0 p l e R s m args below meth c Q nL mc ms C S pc L (ni x :: st) ws := fun H locs cells slots ad ls h1 h2 h3 h4 h5 h6 h7 => by
  have hy : -2147483648 ≤ (0 : Int) ∧ (0 : Int) < 2147483648 := by omega
  have a1 : (Int32.ofInt x = Int32.ofInt 0) ↔ x = 0 := ne_eqI hx hy
  have a2 : (Int32.ofInt x < Int32.ofInt 0) ↔ x < 0 := ne_ltI hx hy
  have a3 : (Int32.ofInt x ≤ Int32.ofInt 0) ↔ x ≤ 0 := ne_leI hx hy
  have a4 : (Int32.ofInt 0 < Int32.ofInt x) ↔ 0 < x := ne_ltI hy hx
  have a5 : (Int32.ofInt 0 ≤ Int32.ofInt x) ↔ 0 ≤ x := ne_leI hy hx
  rw [← ne_z0] at a1 a2 a3 a4 a5
  refine lv_if_eq X.1.1 X.1.2.1 hdg ht (fun h9 => kt ?_ H locs cells slots ad ls h1 h2 h3 h4 h5 h6 h7) (fun h9 => kf ?_ H locs cells slots ad ls h1 h2 h3 h4 h5 h6 h7)
  all_goals (simp only [ge_iff_le, gt_iff_lt, ne_eq, Decidable.not_not, a1, a2, a3, a4, a5] at h9; omega)
theorem ne_icmp_ne {x y : Int} {off : Int} {tgt : Nat} (X : ne_F cl D ct A p l R s m args meth c own cc nL Ts fr lo mc ms) (hdg : decode cc pc = .ok (.if_icmp .ne off, 3)) (ht : (pc : Int) + off = (tgt : Int)) (hx : -2147483648 ≤ x ∧ x < 2147483648) (hy : -2147483648 ≤ y ∧ y < 2147483648) (kt : x ≠ y → ne_G cl D ct A n0 ad0 p l e R s m args below meth c Q nL mc ms C S tgt L st ws) (kf : x = y → ne_G cl D ct A n0 ad0 p l e R s m args below meth c Q nL mc ms C S (pc + 3) L st ws) : ne_G cl D ct A n0 ad0 p l e R s m args below meth c Q nL mc ms C S pc L (ni y :: ni x :: st) ws := fun H locs cells slots ad ls h1 h2 h3 h4 h5 h6 h7 => by
  skip
  have a1 : (Int32.ofInt x = Int32.ofInt y) ↔ x = y := ne_eqI hx hy
  have a2 : (Int32.ofInt x < Int32.ofInt y) ↔ x < y := ne_ltI hx hy
  have a3 : (Int32.ofInt x ≤ Int32.ofInt y) ↔ x ≤ y := ne_leI hx hy
  have a4 : (Int32.ofInt y < Int32.ofInt x) ↔ y < x := ne_ltI hy hx
  have a5 : (Int32.ofInt y ≤ Int32.ofInt x) ↔ y ≤ x := ne_leI hy hx
  skip
  refine lv_icmp_ne X.1.1 X.1.2.1 hdg ht (fun h9 => kt ?_ H locs cells slots ad ls h1 h2 h3 h4 h5 h6 h7) (fun h9 => kf ?_ H locs cells slots ad ls h1 h2 h3 h4 h5 h6 h7)
  all_goals (simp only [ge_iff_le, gt_iff_lt, ne_eq, Decidable.not_not, a1, a2, a3, a4, a5] at h9; omega)
theorem ne_if_ne {x : Int} {off : Int} {tgt : Nat} (X : ne_F cl D ct A p l R s m args meth c own cc nL Ts fr lo mc ms) (hdg : decode cc pc = .ok (.ifCond .ne off, 3)) (ht : (pc : Int) + off = (tgt : Int)) (hx : -2147483648 ≤ x ∧ x < 2147483648) (kt : x ≠ 0 → ne_G cl D ct A n0 ad0 p l e R s m args below meth c Q nL mc ms C S tgt L st ws) (kf : x = 0 → ne_G cl D ct A n0 ad0 p l e R s m args below meth c Q nL mc ms C S (pc + 3) L st ws) : ne_G cl D ct A n0 ad0 p l e R s m args below meth c Q nL mc ms C S pc L (ni x :: st) ws := fun H locs cells slots ad ls h1 h2 h3 h4 h5 h6 h7 => by
  have hy : -2147483648 ≤ (0 : Int) ∧ (0 : Int) < 2147483648 := by omega
  have a1 : (Int32.ofInt x = Int32.ofInt 0) ↔ x = 0 := ne_eqI hx hy
  have a2 : (Int32.ofInt x < Int32.ofInt 0) ↔ x < 0 := ne_ltI hx hy
  have a3 : (Int32.ofInt x ≤ Int32.ofInt 0) ↔ x ≤ 0 := ne_leI hx hy
  have a4 : (Int32.ofInt 0 < Int32.ofInt x) ↔ 0 < x := ne_ltI hy hx
  have a5 : (Int32.ofInt 0 ≤ Int32.ofInt x) ↔ 0 ≤ x := ne_leI hy hx
  rw [← ne_z0] at a1 a2 a3 a4 a5
  refine lv_if_ne X.1.1 X.1.2.1 hdg ht (fun h9 => kt ?_ H locs cells slots ad ls h1 h2 h3 h4 h5 h6 h7) (fun h9 => kf ?_ H locs cells slots ad ls h1 h2 h3 h4 h5 h6 h7)
  all_goals (simp only [ge_iff_le, gt_iff_lt, ne_eq, Decidable.not_not, a1, a2, a3, a4, a5] at h9; omega)
theorem ne_icmp_lt {x y : Int} {off : Int} {tgt : Nat} (X : ne_F cl D ct A p l R s m args meth c own cc nL Ts fr lo mc ms) (hdg : decode cc pc = .ok (.if_icmp .lt off, 3)) (ht : (pc : Int) + off = (tgt : Int)) (hx : -2147483648 ≤ x ∧ x < 2147483648) (hy : -2147483648 ≤ y ∧ y < 2147483648) (kt : x < y → ne_G cl D ct A n0 ad0 p l e R s m args below meth c Q nL mc ms C S tgt L st ws) (kf : y ≤ x → ne_G cl D ct A n0 ad0 p l e R s m args below meth c Q nL mc ms C S (pc + 3) L st ws) : ne_G cl D ct A n0 ad0 p l e R s m args below meth c Q nL mc ms C S pc L (ni y :: ni x :: st) ws := fun H locs cells slots ad ls h1 h2 h3 h4 h5 h6 h7 => by
  skip
  have a1 : (Int32.ofInt x = Int32.ofInt y) ↔ x = y := ne_eqI hx hy
  have a2 : (Int32.ofInt x < Int32.ofInt y) ↔ x < y := ne_ltI hx hy
  have a3 : (Int32.ofInt x ≤ Int32.ofInt y) ↔ x ≤ y := ne_leI hx hy
  have a4 : (Int32.ofInt y < Int32.ofInt x) ↔ y < x := ne_ltI hy hx
  have a5 : (Int32.ofInt y ≤ Int32.ofInt x) ↔ y ≤ x := ne_leI hy hx
  skip
  refine lv_icmp_lt X.1.1 X.1.2.1 hdg ht (fun h9 => kt ?_ H locs cells slots ad ls h1 h2 h3 h4 h5 h6 h7) (fun h9 => kf ?_ H locs cells slots ad ls h1 h2 h3 h4 h5 h6 h7)
  all_goals (simp only [ge_iff_le, gt_iff_lt, ne_eq, Decidable.not_not, a1, a2, a3, a4, a5] at h9; omega)
theorem ne_if_lt {x : Int} {off : Int} {tgt : Nat} (X : ne_F cl D ct A p l R s m args meth c own cc nL Ts fr lo mc ms) (hdg : decode cc pc = .ok (.ifCond .lt off, 3)) (ht : (pc : Int) + off = (tgt : Int)) (hx : -2147483648 ≤ x ∧ x < 2147483648) (kt : x < 0 → ne_G cl D ct A n0 ad0 p l e R s m args below meth c Q nL mc ms C S tgt L st ws) (kf : 0 ≤ x → ne_G cl D ct A n0 ad0 p l e R s m args below meth c Q nL mc ms C S (pc + 3) L st ws) : ne_G cl D ct A n0 ad0 p l e R s m args below meth c Q nL mc ms C S pc L (ni x :: st) ws := fun H locs cells slots ad ls h1 h2 h3 h4 h5 h6 h7 => by
  have hy : -2147483648 ≤ (0 : Int) ∧ (0 : Int) < 2147483648 := by omega
  have a1 : (Int32.ofInt x = Int32.ofInt 0) ↔ x = 0 := ne_eqI hx hy
  have a2 : (Int32.ofInt x < Int32.ofInt 0) ↔ x < 0 := ne_ltI hx hy
  have a3 : (Int32.ofInt x ≤ Int32.ofInt 0) ↔ x ≤ 0 := ne_leI hx hy
  have a4 : (Int32.ofInt 0 < Int32.ofInt x) ↔ 0 < x := ne_ltI hy hx
  have a5 : (Int32.ofInt 0 ≤ Int32.ofInt x) ↔ 0 ≤ x := ne_leI hy hx
  rw [← ne_z0] at a1 a2 a3 a4 a5
  refine lv_if_lt X.1.1 X.1.2.1 hdg ht (fun h9 => kt ?_ H locs cells slots ad ls h1 h2 h3 h4 h5 h6 h7) (fun h9 => kf ?_ H locs cells slots ad ls h1 h2 h3 h4 h5 h6 h7)
  all_goals (simp only [ge_iff_le, gt_iff_lt, ne_eq, Decidable.not_not, a1, a2, a3, a4, a5] at h9; omega)
theorem ne_icmp_ge {x y : Int} {off : Int} {tgt : Nat} (X : ne_F cl D ct A p l R s m args meth c own cc nL Ts fr lo mc ms) (hdg : decode cc pc = .ok (.if_icmp .ge off, 3)) (ht : (pc : Int) + off = (tgt : Int)) (hx : -2147483648 ≤ x ∧ x < 2147483648) (hy : -2147483648 ≤ y ∧ y < 2147483648) (kt : y ≤ x → ne_G cl D ct A n0 ad0 p l e R s m args below meth c Q nL mc ms C S tgt L st ws) (kf : x < y → ne_G cl D ct A n0 ad0 p l e R s m args below meth c Q nL mc ms C S (pc + 3) L st ws) : ne_G cl D ct A n0 ad0 p l e R s m args below meth c Q nL mc ms C S pc L (ni y :: ni x :: st) ws := fun H locs cells slots ad ls h1 h2 h3 h4 h5 h6 h7 => by
  skip
  have a1 : (Int32.ofInt x = Int32.ofInt y) ↔ x = y := ne_eqI hx hy
  have a2 : (Int32.ofInt x < Int32.ofInt y) ↔ x < y := ne_ltI hx hy
  have a3 : (Int32.ofInt x ≤ Int32.ofInt y) ↔ x ≤ y := ne_leI hx hy
  have a4 : (Int32.ofInt y < Int32.ofInt x) ↔ y < x := ne_ltI hy hx
  have a5 : (Int32.ofInt y ≤ Int32.ofInt x) ↔ y ≤ x := ne_leI hy hx
  skip
  refine lv_icmp_ge X.1.1 X.1.2.1 hdg ht (fun h9 => kt ?_ H locs cells slots ad ls h1 h2 h3 h4 h5 h6 h7) (fun h9 => kf ?_ H locs cells slots ad ls h1 h2 h3 h4 h5 h6 h7)
  all_goals (simp only [ge_iff_le, gt_iff_lt, ne_eq, Decidable.not_not, a1, a2, a3, a4, a5] at h9; omega)
theorem ne_if_ge {x : Int} {off : Int} {tgt : Nat} (X : ne_F cl D ct A p l R s m args meth c own cc nL Ts fr lo mc ms) (hdg : decode cc pc = .ok (.ifCond .ge off, 3)) (ht : (pc : Int) + off = (tgt : Int)) (hx : -2147483648 ≤ x ∧ x < 2147483648) (kt : 0 ≤ x → ne_G cl D ct A n0 ad0 p l e R s m args below meth c Q nL mc ms C S tgt L st ws) (kf : x < 0 → ne_G cl D ct A n0 ad0 p l e R s m args below meth c Q nL mc ms C S (pc + 3) L st ws) : ne_G cl D ct A n0 ad0 p l e R s m args below meth c Q nL mc ms C S pc L (ni x :: st) ws := fun H locs cells slots ad ls h1 h2 h3 h4 h5 h6 h7 => by
  have hy : -2147483648 ≤ (0 : Int) ∧ (0 : Int) < 2147483648 := by omega
  have a1 : (Int32.ofInt x = Int32.ofInt 0) ↔ x = 0 := ne_eqI hx hy
  have a2 : (Int32.ofInt x < Int32.ofInt 0) ↔ x < 0 := ne_ltI hx hy
  have a3 : (Int32.ofInt x ≤ Int32.ofInt 0) ↔ x ≤ 0 := ne_leI hx hy
  have a4 : (Int32.ofInt 0 < Int32.ofInt x) ↔ 0 < x := ne_ltI hy hx
  have a5 : (Int32.ofInt 0 ≤ Int32.ofInt x) ↔ 0 ≤ x := ne_leI hy hx
  rw [← ne_z0] at a1 a2 a3 a4 a5
  refine lv_if_ge X.1.1 X.1.2.1 hdg ht (fun h9 => kt ?_ H locs cells slots ad ls h1 h2 h3 h4 h5 h6 h7) (fun h9 => kf ?_ H locs cells slots ad ls h1 h2 h3 h4 h5 h6 h7)
  all_goals (simp only [ge_iff_le, gt_iff_lt, ne_eq, Decidable.not_not, a1, a2, a3, a4, a5] at h9; omega)
theorem ne_icmp_gt {x y : Int} {off : Int} {tgt : Nat} (X : ne_F cl D ct A p l R s m args meth c own cc nL Ts fr lo mc ms) (hdg : decode cc pc = .ok (.if_icmp .gt off, 3)) (ht : (pc : Int) + off = (tgt : Int)) (hx : -2147483648 ≤ x ∧ x < 2147483648) (hy : -2147483648 ≤ y ∧ y < 2147483648) (kt : y < x → ne_G cl D ct A n0 ad0 p l e R s m args below meth c Q nL mc ms C S tgt L st ws) (kf : x ≤ y → ne_G cl D ct A n0 ad0 p l e R s m args below meth c Q nL mc ms C S (pc + 3) L st ws) : ne_G cl D ct A n0 ad0 p l e R s m args below meth c Q nL mc ms C S pc L (ni y :: ni x :: st) ws := fun H locs cells slots ad ls h1 h2 h3 h4 h5 h6 h7 => by
  skip
  have a1 : (Int32.ofInt x = Int32.ofInt y) ↔ x = y := ne_eqI hx hy
  have a2 : (Int32.ofInt x < Int32.ofInt y) ↔ x < y := ne_ltI hx hy
  have a3 : (Int32.ofInt x ≤ Int32.ofInt y) ↔ x ≤ y := ne_leI hx hy
  have a4 : (Int32.ofInt y < Int32.ofInt x) ↔ y < x := ne_ltI hy hx
  have a5 : (Int32.ofInt y ≤ Int32.ofInt x) ↔ y ≤ x := ne_leI hy hx
  skip
  refine lv_icmp_gt X.1.1 X.1.2.1 hdg ht (fun h9 => kt ?_ H locs cells slots ad ls h1 h2 h3 h4 h5 h6 h7) (fun h9 => kf ?_ H locs cells slots ad ls h1 h2 h3 h4 h5 h6 h7)
  all_goals (simp only [ge_iff_le, gt_iff_lt, ne_eq, Decidable.not_not, a1, a2, a3, a4, a5] at h9; omega)
theorem ne_if_gt {x : Int} {off : Int} {tgt : Nat} (X : ne_F cl D ct A p l R s m args meth c own cc nL Ts fr lo mc ms) (hdg : decode cc pc = .ok (.ifCond .gt off, 3)) (ht : (pc : Int) + off = (tgt : Int)) (hx : -2147483648 ≤ x ∧ x < 2147483648) (kt : 0 < x → ne_G cl D ct A n0 ad0 p l e R s m args below meth c Q nL mc ms C S tgt L st ws) (kf : x ≤ 0 → ne_G cl D ct A n0 ad0 p l e R s m args below meth c Q nL mc ms C S (pc + 3) L st ws) : ne_G cl D ct A n0 ad0 p l e R s m args below meth c Q nL mc ms C S pc L (ni x :: st) ws := fun H locs cells slots ad ls h1 h2 h3 h4 h5 h6 h7 => by
  have hy : -2147483648 ≤ (0 : Int) ∧ (0 : Int) < 2147483648 := by omega
  have a1 : (Int32.ofInt x = Int32.ofInt 0) ↔ x = 0 := ne_eqI hx hy
  have a2 : (Int32.ofInt x < Int32.ofInt 0) ↔ x < 0 := ne_ltI hx hy
  have a3 : (Int32.ofInt x ≤ Int32.ofInt 0) ↔ x ≤ 0 := ne_leI hx hy
  have a4 : (Int32.ofInt 0 < Int32.ofInt x) ↔ 0 < x := ne_ltI hy hx
  have a5 : (Int32.ofInt 0 ≤ Int32.ofInt x) ↔ 0 ≤ x := ne_leI hy hx
  rw [← ne_z0] at a1 a2 a3 a4 a5
  refine lv_if_gt X.1.1 X.1.2.1 hdg ht (fun h9 => kt ?_ H locs cells slots ad ls h1 h2 h3 h4 h5 h6 h7) (fun h9 => kf ?_ H locs cells slots ad ls h1 h2 h3 h4 h5 h6 h7)
  all_goals (simp only [ge_iff_le, gt_iff_lt, ne_eq, Decidable.not_not, a1, a2, a3, a4, a5] at h9; omega)
theorem ne_icmp_le {x y : Int} {off : Int} {tgt : Nat} (X : ne_F cl D ct A p l R s m args meth c own cc nL Ts fr lo mc ms) (hdg : decode cc pc = .ok (.if_icmp .le off, 3)) (ht : (pc : Int) + off = (tgt : Int)) (hx : -2147483648 ≤ x ∧ x < 2147483648) (hy : -2147483648 ≤ y ∧ y < 2147483648) (kt : x ≤ y → ne_G cl D ct A n0 ad0 p l e R s m args below meth c Q nL mc ms C S tgt L st ws) (kf : y < x → ne_G cl D ct A n0 ad0 p l e R s m args below meth c Q nL mc ms C S (pc + 3) L st ws) : ne_G cl D ct A n0 ad0 p l e R s m args below meth c Q nL mc ms C S pc L (ni y :: ni x :: st) ws := fun H locs cells slots ad ls h1 h2 h3 h4 h5 h6 h7 => by
  skip
  have a1 : (Int32.ofInt x = Int32.ofInt y) ↔ x = y := ne_eqI hx hy
  have a2 : (Int32.ofInt x < Int32.ofInt y) ↔ x < y := ne_ltI hx hy
  have a3 : (Int32.ofInt x ≤ Int32.ofInt y) ↔ x ≤ y := ne_leI hx hy
  have a4 : (Int32.ofInt y < Int32.ofInt x) ↔ y < x := ne_ltI hy hx
  have a5 : (Int32.ofInt y ≤ Int32.ofInt x) ↔ y ≤ x := ne_leI hy hx
  skip
  refine lv_icmp_le X.1.1 X.1.2.1 hdg ht (fun h9 => kt ?_ H locs cells slots ad ls h1 h2 h3 h4 h5 h6 h7) (fun h9 => kf ?_ H locs cells slots ad ls h1 h2 h3 h4 h5 h6 h7)
  all_goals (simp only [ge_iff_le, gt_iff_lt, ne_eq, Decidable.not_not, a1, a2, a3, a4, a5] at h9; omega)
theorem ne_if_le {x : Int} {off : Int} {tgt : Nat} (X : ne_F cl D ct A p l R s m args meth c own cc nL Ts fr lo mc ms) (hdg : decode cc pc = .ok (.ifCond .le off, 3)) (ht : (pc : Int) + off = (tgt : Int)) (hx : -2147483648 ≤ x ∧ x < 2147483648) (kt : x ≤ 0 → ne_G cl D ct A n0 ad0 p l e R s m args below meth c Q nL mc ms C S tgt L st ws) (kf : 0 < x → ne_G cl D ct A n0 ad0 p l e R s m args below meth c Q nL mc ms C S (pc + 3) L st ws) : ne_G cl D ct A n0 ad0 p l e R s m args below meth c Q nL mc ms C S pc L (ni x :: st) ws := fun H locs cells slots ad ls h1 h2 h3 h4 h5 h6 h7 => by
  have hy : -2147483648 ≤ (0 : Int) ∧ (0 : Int) < 2147483648 := by omega
  have a1 : (Int32.ofInt x = Int32.ofInt 0) ↔ x = 0 := ne_eqI hx hy
  have a2 : (Int32.ofInt x < Int32.ofInt 0) ↔ x < 0 := ne_ltI hx hy
  have a3 : (Int32.ofInt x ≤ Int32.ofInt 0) ↔ x ≤ 0 := ne_leI hx hy
  have a4 : (Int32.ofInt 0 < Int32.ofInt x) ↔ 0 < x := ne_ltI hy hx
  have a5 : (Int32.ofInt 0 ≤ Int32.ofInt x) ↔ 0 ≤ x := ne_leI hy hx
  rw [← ne_z0] at a1 a2 a3 a4 a5
  refine lv_if_le X.1.1 X.1.2.1 hdg ht (fun h9 => kt ?_ H locs cells slots ad ls h1 h2 h3 h4 h5 h6 h7) (fun h9 => kf ?_ H locs cells slots ad ls h1 h2 h3 h4 h5 h6 h7)
  all_goals (simp only [ge_iff_le, gt_iff_lt, ne_eq, Decidable.not_not, a1, a2, a3, a4, a5] at h9; omega)
theorem ne_ifnull {q : Nat} {off : Int} (X : ne_F cl D ct A p l R s m args meth c own cc nL Ts fr lo mc ms) (hdg : decode cc pc = .ok (.ifnull off, 3)) (k : ne_G cl D ct A n0 ad0 p l e R s m args below meth c Q nL mc ms C S (pc + 3) L st ws) : ne_G cl D ct A n0 ad0 p l e R s m args below meth c Q nL mc ms C S pc L (.ref q :: st) ws := fun H locs cells slots ad ls h1 h2 h3 h4 h5 h6 h7 =>
  lv_ifnull X.1.1 X.1.2.1 hdg (k H locs cells slots ad ls h1 h2 h3 h4 h5 h6 h7)
theorem ne_ifnonnull {q : Nat} {off : Int} {tgt : Nat} (X : ne_F cl D ct A p l R s m args meth c own cc nL Ts fr lo mc ms) (hdg : decode cc pc = .ok (.ifnonnull off, 3)) (ht : (pc : Int) + off = (tgt : Int)) (k : ne_G cl D ct A n0 ad0 p l e R s m args below meth c Q nL mc ms C S tgt L st ws) : ne_G cl D ct A n0 ad0 p l e R s m args below meth c Q nL mc ms C S pc L (.ref q :: st) ws := fun H locs cells slots ad ls h1 h2 h3 h4 h5 h6 h7 =>
  lv_ifnonnull X.1.1 X.1.2.1 hdg ht (k H locs cells slots ad ls h1 h2 h3 h4 h5 h6 h7)
theorem ne_ifnonnullN {off : Int} (X : ne_F cl D ct A p l R s m args meth c own cc nL Ts fr lo mc ms) (hdg : decode cc pc = .ok (.ifnonnull off, 3)) (k : ne_G cl D ct A n0 ad0 p l e R s m args below meth c Q nL mc ms C S (pc + 3) L st ws) : ne_G cl D ct A n0 ad0 p l e R s m args below meth c Q nL mc ms C S pc L (.null :: st) ws := fun H locs cells slots ad ls h1 h2 h3 h4 h5 h6 h7 =>
  lv_ifnonnullN X.1.1 X.1.2.1 hdg (k H locs cells slots ad ls h1 h2 h3 h4 h5 h6 h7)
theorem ne_cmpv {x y : Int} (hx : -9223372036854775808 ≤ x ∧ x < 9223372036854775808) (hy : -9223372036854775808 ≤ y ∧ y < 9223372036854775808) : ∃ z : Int, lg_cmp (Int64.ofInt x) (Int64.ofInt y) = Int32.ofInt z ∧ -1 ≤ z ∧ z ≤ 1 ∧ (z < 0 ↔ x < y) ∧ (0 < z ↔ y < x) := by
  have a1 := ne_ltL hx hy
  have a2 := ne_ltL hy hx
  unfold lg_cmp
  by_cases b1 : y < x
  · refine ⟨1, ?_, by omega, by omega, by omega, by omega⟩
    simp [a1, a2, b1]; try omega
  · by_cases b2 : x < y
    · refine ⟨-1, ?_, by omega, by omega, by omega, by omega⟩
      have b4 : ¬ Int64.ofInt x = Int64.ofInt y := fun h9 => by
        have h8 := congrArg Int64.toInt h9
        rw [ne_toL hx.1 hx.2, ne_toL hy.1 hy.2] at h8
        omega
      simp [a1, a2, b1, b4]
    · refine ⟨0, ?_, by omega, by omega, by omega, by omega⟩
      have b3 : x = y := by omega
      subst b3
      simp
theorem ne_lcmp {x y : Int} (X : ne_F cl D ct A p l R s m args meth c own cc nL Ts fr lo mc ms) (hdg : decode cc pc = .ok (.lcmp, 1)) (hx : -9223372036854775808 ≤ x ∧ x < 9223372036854775808) (hy : -9223372036854775808 ≤ y ∧ y < 9223372036854775808) (k : ∀ z : Int, -1 ≤ z → z ≤ 1 → (z < 0 ↔ x < y) → (0 < z ↔ y < x) → ne_G cl D ct A n0 ad0 p l e R s m args below meth c Q nL mc ms C S (pc + 1) L (ni z :: st) ws) : ne_G cl D ct A n0 ad0 p l e R s m args below meth c Q nL mc ms C S pc L (nl y :: nl x :: st) ws := fun H locs cells slots ad ls h1 h2 h3 h4 h5 h6 h7 => by
  obtain ⟨z, e1, e2, e3, e4, e5⟩ := ne_cmpv hx hy
  refine W.lcmp X.1.1 X.1.2.1 hdg ?_
  rw [e1]
  exact k z e2 e3 e4 e5 H locs cells slots ad ls h1 h2 h3 h4 h5 h6 h7
end NEB
section NEC
variable {cl : List vw_C} {D : va_G} {ct : Nat → ClassId} {A : Nat → Prop} {n0 : Nat} {ad0 : Nat → Nat} {p : Program} {l : Launch} {e : Env} {R : Room} {s : State} {m : MethodId} {args : Array Value} {below : List Frame} {meth : Method} {c : Code} {Q : State → Prop} {own : String} {cc : ByteArray} {nL : Nat} {Ts : List Cond} {fr lo mc ms C S pc : Nat} {L : List (Option Value)} {st : List Value} {ws : ne_W}
/-! fields -/
/-- place ix of own's pool: field k of class ci -/
def ne_fl (cl : List vw_C) (own : String) (ix ci k : Nat) (Ts : List Cond) : Prop := ∃ (C : String) (T : u_T) (N : Nat), cl[ci]? = some (C, T, N) ∧ k < N ∧ (∀ w ∈ u_ws C T N, w ∈ Ts) ∧ Cond.fieldLink own ix (T k).1 (T k).2.1 (T k).2.2.1 ∈ Ts
def ne_fln (cl : List vw_C) (own : String) (ix ci k : Nat) (host : String) (Ts : List Cond) : Prop := ∃ (C : String) (T : u_T) (N : Nat), cl[ci]? = some (C, T, N) ∧ k < N ∧ (∀ w ∈ u_ws C T N, w ∈ Ts) ∧ (own, ix, (T k).1, (T k).2.1, (T k).2.2.1, host) ∈ ne_nf
/-- .. and what may be stored there -/
def ne_fp (cl : List vw_C) (ci k : Nat) (ty : FieldType) (fin : Bool) : Prop := ∃ (C : String) (T : u_T) (N : Nat) (ty0 : Nat → FieldType), cl[ci]? = some (C, T, N) ∧ (∀ k, k < N → parseFieldDescriptor (T k).2.2.1 = some (ty0 k)) ∧ (∀ a, a < N → ∀ b, b < N → a ≠ b → (T a).2.1 ≠ (T b).2.1) ∧ (T k).2.2.2 = fin ∧ parseFieldDescriptor (T k).2.2.1 = some ty
theorem ne_getf {ix ci k q : Nat} {fs : List Value} {v : Value} (X : ne_F cl D ct A p l R s m args meth c own cc nL Ts fr lo mc ms) (hdg : decode cc pc = .ok (.getfield ix, 3)) (hf : ne_fl cl own ix ci k Ts) (he : ws[q]? = some (some (.inr (ci, fs)))) (hv : fs[k]? = some v) (kk : ne_G cl D ct A n0 ad0 p l e R s m args below meth c Q nL mc ms C S (pc + 3) L (v :: st) ws) : ne_G cl D ct A n0 ad0 p l e R s m args below meth c Q nL mc ms C S pc L (.ref q :: st) ws := fun H locs cells slots ad ls h1 h2 h3 h4 h5 h6 h7 => by
  obtain ⟨C', T, N, f1, f2, f3, f4⟩ := hf
  obtain ⟨q0, e1, -⟩ := ne_w_set (ct := ct) (ad := ad) (k := 0) he
  rw [Nat.zero_add] at e1
  exact va_get (fs := fs.map (ne_v ad)) (v := ne_v ad v) X.1.1 X.1.2.1 X.1.2.2.2.2 f3 X.1.2.2.2.1 X.2.1 h4 q0 e1 f1 k f2 (X.1.2.2.2.2 _ f4) (fun _ h => h) (by rw [List.getElem?_map, hv]; rfl) hdg (kk H locs cells slots ad ls h1 h2 h3 h4 h5 h6 h7)
theorem ne_getfn {ix ci k q : Nat} {host : String} {fs : List Value} {v : Value} (X : ne_F cl D ct A p l R s m args meth c own cc nL Ts fr lo mc ms) (hdg : decode cc pc = .ok (.getfield ix, 3)) (hf : ne_fln cl own ix ci k host Ts) (he : ws[q]? = some (some (.inr (ci, fs)))) (hv : fs[k]? = some v) (kk : ne_G cl D ct A n0 ad0 p l e R s m args below meth c Q nL mc ms C S (pc + 3) L (v :: st) ws) : ne_G cl D ct A n0 ad0 p l e R s m args below meth c Q nL mc ms C S pc L (.ref q :: st) ws := fun H locs cells slots ad ls h1 h2 h3 h4 h5 h6 h7 => by
  obtain ⟨C', T, N, f1, f2, f3, f4⟩ := hf
  obtain ⟨q0, e1, -⟩ := ne_w_set (ct := ct) (ad := ad) (k := 0) he
  rw [Nat.zero_add] at e1
  exact va_getN (host := host) (fs := fs.map (ne_v ad)) (v := ne_v ad v) X.1.1 X.1.2.1 X.1.2.2.2.2 f3 X.1.2.2.2.1 X.2.1 h4 q0 e1 f1 k f2 ((X.2.2.2.2.2.2.2.1.2.2.2.2.2 _ f4).use rfl) (fun _ h => h) (by rw [List.getElem?_map, hv]; rfl) hdg (kk H locs cells slots ad ls h1 h2 h3 h4 h5 h6 h7)
theorem ne_setf {ad : Nat → Nat} {ci k : Nat} {fs : List Value} {v : Value} : ne_c ct ad (.inr (ci, fs.set k v)) = .inr (ci, (fs.map (ne_v ad)).set k (ne_v ad v)) := by
  simp only [ne_c, List.map_set]
theorem ne_putf {ix ci k q : Nat} {ty : FieldType} {fs : List Value} {v : Value} (X : ne_F cl D ct A p l R s m args meth c own cc nL Ts fr lo mc ms) (hdg : decode cc pc = .ok (.putfield ix, 3)) (hf : ne_fl cl own ix ci k Ts) (hp : ne_fp cl ci k ty false) (he : ws[q]? = some (some (.inr (ci, fs)))) (hn : ∀ ad, narrow ty (ne_v ad v) = ne_v ad v) (hfit : ∀ ad, fits ty (ne_v ad v) = true) (hl : k < fs.length) (kk : ne_G cl D ct A n0 ad0 p l e R s m args below meth c Q nL mc ms C S (pc + 3) L st (ws.set q (some (.inr (ci, fs.set k v))))) : ne_G cl D ct A n0 ad0 p l e R s m args below meth c Q nL mc ms C S pc L (v :: .ref q :: st) ws := fun H locs cells slots ad ls h1 h2 h3 h4 h5 h6 h7 => by
  obtain ⟨C', T, N, f1, f2, f3, f4⟩ := hf
  obtain ⟨C2, T2, N2, ty0, g1, g2, g3, g4, g5⟩ := hp
  cases f1.symm.trans g1
  obtain ⟨q0, e1, e2⟩ := ne_w_set (ct := ct) (ad := ad) (k := 0) he
  rw [Nat.zero_add] at e1 e2
  refine va_put (fs := fs.map (ne_v ad)) (v := ne_v ad v) X.1.1 X.1.2.1 X.1.2.2.2.2 f3 ty0 g2 g3 X.1.2.2.2.1 X.2.1 h4 h5 h6 q0 e1 f1 k f2 (X.1.2.2.2.2 _ f4) (fun _ h => h) g4 g5 (hn ad) (hfit ad) (by rw [List.length_map]; exact hl) hdg (fun H1 locs1 hP hD hS => ?_)
  have e3 := e2 (.inr (ci, fs.set k v))
  rw [ne_setf] at e3
  rw [e3] at hP hD
  exact kk H1 locs1 cells slots ad ls h1 h2 h3 hP hD hS h7
theorem ne_putfn {ix ci k q : Nat} {host : String} {ty : FieldType} {fs : List Value} {v : Value} (X : ne_F cl D ct A p l R s m args meth c own cc nL Ts fr lo mc ms) (hdg : decode cc pc = .ok (.putfield ix, 3)) (hf : ne_fln cl own ix ci k host Ts) (hp : ne_fp cl ci k ty false) (he : ws[q]? = some (some (.inr (ci, fs)))) (hn : ∀ ad, narrow ty (ne_v ad v) = ne_v ad v) (hfit : ∀ ad, fits ty (ne_v ad v) = true) (hl : k < fs.length) (kk : ne_G cl D ct A n0 ad0 p l e R s m args below meth c Q nL mc ms C S (pc + 3) L st (ws.set q (some (.inr (ci, fs.set k v))))) : ne_G cl D ct A n0 ad0 p l e R s m args below meth c Q nL mc ms C S pc L (v :: .ref q :: st) ws := fun H locs cells slots ad ls h1 h2 h3 h4 h5 h6 h7 => by
  obtain ⟨C', T, N, f1, f2, f3, f4⟩ := hf
  obtain ⟨C2, T2, N2, ty0, g1, g2, g3, g4, g5⟩ := hp
  cases f1.symm.trans g1
  obtain ⟨q0, e1, e2⟩ := ne_w_set (ct := ct) (ad := ad) (k := 0) he
  rw [Nat.zero_add] at e1 e2
  refine va_putN (host := host) (fs := fs.map (ne_v ad)) (v := ne_v ad v) X.1.1 X.1.2.1 X.1.2.2.2.2 f3 ty0 g2 g3 X.1.2.2.2.1 X.2.1 h4 h5 h6 q0 e1 f1 k f2 ((X.2.2.2.2.2.2.2.1.2.2.2.2.2 _ f4).use rfl) (fun _ h => h) g4 g5 (hn ad) (hfit ad) (by rw [List.length_map]; exact hl) hdg (fun H1 locs1 hP hD hS => ?_)
  have e3 := e2 (.inr (ci, fs.set k v))
  rw [ne_setf] at e3
  rw [e3] at hP hD
  exact kk H1 locs1 cells slots ad ls h1 h2 h3 hP hD hS h7
theorem ne_putF {ix ci k q : Nat} {ty : FieldType} {fs : List Value} {v : Value} (X : ne_F cl D ct A p l R s m args meth c own cc nL Ts fr lo mc ms) (hdg : decode cc pc = .ok (.putfield ix, 3)) (hin : meth.name = "<init>") (hf : ne_fl cl own ix ci k Ts) (hp : ne_fp cl ci k ty true) (ho : ∃ r, cl[ci]? = some r ∧ own = r.1 ∧ (r.2.1 k).1 = r.1) (he : ws[q]? = some (some (.inr (ci, fs)))) (hn : ∀ ad, narrow ty (ne_v ad v) = ne_v ad v) (hfit : ∀ ad, fits ty (ne_v ad v) = true) (hl : k < fs.length) (kk : ne_G cl D ct A n0 ad0 p l e R s m args below meth c Q nL mc ms C S (pc + 3) L st (ws.set q (some (.inr (ci, fs.set k v))))) : ne_G cl D ct A n0 ad0 p l e R s m args below meth c Q nL mc ms C S pc L (v :: .ref q :: st) ws := fun H locs cells slots ad ls h1 h2 h3 h4 h5 h6 h7 => by
  obtain ⟨C', T, N, f1, f2, f3, f4⟩ := hf
  obtain ⟨C2, T2, N2, ty0, g1, g2, g3, g4, g5⟩ := hp
  obtain ⟨r, r1, r2, r3⟩ := ho
  cases f1.symm.trans g1
  cases f1.symm.trans r1
  obtain ⟨q0, e1, e2⟩ := ne_w_set (ct := ct) (ad := ad) (k := 0) he
  rw [Nat.zero_add] at e1 e2
  refine va_putF (fs := fs.map (ne_v ad)) (v := ne_v ad v) X.1.1 X.1.2.1 X.1.2.2.2.2 f3 ty0 g2 g3 X.1.2.2.2.1 X.2.1 h4 h5 h6 q0 e1 f1 k f2 (X.1.2.2.2.2 _ f4) (fun _ h => h) g4 hin (r3.trans r2.symm) g5 (hn ad) (hfit ad) (by rw [List.length_map]; exact hl) hdg (fun H1 locs1 hP hD hS => ?_)
  have e3 := e2 (.inr (ci, fs.set k v))
  rw [ne_setf] at e3
  rw [e3] at hP hD
  exact kk H1 locs1 cells slots ad ls h1 h2 h3 hP hD hS h7
/-! arrays -/
theorem ne_iald {q n : Nat} {f : Nat → Int} {i : Int} (X : ne_F cl D ct A p l R s m args meth c own cc nL Ts fr lo mc ms) (hdg : decode cc pc = .ok (.iaload, 1)) (he : ws[q]? = some (some (.inl (0, n, f)))) (hi : 0 ≤ i ∧ i < n ∧ i < 2147483648) (kk : ne_G cl D ct A n0 ad0 p l e R s m args below meth c Q nL mc ms C S (pc + 1) L (ni (f i.toNat) :: st) ws) : ne_G cl D ct A n0 ad0 p l e R s m args below meth c Q nL mc ms C S pc L (ni i :: .ref q :: st) ws := fun H locs cells slots ad ls h1 h2 h3 h4 h5 h6 h7 => by
  obtain ⟨q0, e1, -⟩ := ne_w_set (ct := ct) (ad := ad) (k := 0) he
  rw [Nat.zero_add] at e1
  obtain ⟨a1, a2⟩ := ne_in hi.1 hi.2.1 hi.2.2
  have k9 := kk H locs cells slots ad ls h1 h2 h3 h4 h5 h6 h7
  rw [← a2] at k9
  exact va_iald X.1.1 X.1.2.1 X.2.1 h4 q0 0 e1 rfl a1 hdg k9
theorem ne_bald {q n : Nat} {f : Nat → Int} {i : Int} (X : ne_F cl D ct A p l R s m args meth c own cc nL Ts fr lo mc ms) (hdg : decode cc pc = .ok (.baload, 1)) (he : ws[q]? = some (some (.inl (1, n, f)))) (hi : 0 ≤ i ∧ i < n ∧ i < 2147483648) (kk : ne_G cl D ct A n0 ad0 p l e R s m args below meth c Q nL mc ms C S (pc + 1) L (ni (f i.toNat) :: st) ws) : ne_G cl D ct A n0 ad0 p l e R s m args below meth c Q nL mc ms C S pc L (ni i :: .ref q :: st) ws := fun H locs cells slots ad ls h1 h2 h3 h4 h5 h6 h7 => by
  obtain ⟨q0, e1, -⟩ := ne_w_set (ct := ct) (ad := ad) (k := 0) he
  rw [Nat.zero_add] at e1
  obtain ⟨a1, a2⟩ := ne_in hi.1 hi.2.1 hi.2.2
  have k9 := kk H locs cells slots ad ls h1 h2 h3 h4 h5 h6 h7
  rw [← a2] at k9
  exact va_bald X.1.1 X.1.2.1 X.2.1 h4 q0 1 e1 rfl a1 hdg k9
theorem ne_iast {q n : Nat} {f : Nat → Int} {i z : Int} (X : ne_F cl D ct A p l R s m args meth c own cc nL Ts fr lo mc ms) (hdg : decode cc pc = .ok (.iastore, 1)) (he : ws[q]? = some (some (.inl (0, n, f)))) (hi : 0 ≤ i ∧ i < n ∧ i < 2147483648) (kk : ne_G cl D ct A n0 ad0 p l e R s m args below meth c Q nL mc ms C S (pc + 1) L st (ws.set q (some (.inl (0, n, va_up f i.toNat z))))) : ne_G cl D ct A n0 ad0 p l e R s m args below meth c Q nL mc ms C S pc L (ni z :: ni i :: .ref q :: st) ws := fun H locs cells slots ad ls h1 h2 h3 h4 h5 h6 h7 => by
  obtain ⟨q0, e1, e2⟩ := ne_w_set (ct := ct) (ad := ad) (k := 0) he
  rw [Nat.zero_add] at e1 e2
  obtain ⟨a1, a2⟩ := ne_in hi.1 hi.2.1 hi.2.2
  refine va_iast X.1.1 X.1.2.1 X.2.1 h4 h5 h6 q0 0 e1 rfl a1 hdg (fun H1 locs1 hP hD hS => ?_)
  have e3 := e2 (.inl (0, n, va_up f i.toNat z))
  have e4 : ne_c ct ad (.inl (0, n, va_up f i.toNat z)) = .inl (ct 0, n, .inl (upd (fun j => Int32.ofInt (f j)) (Int32.ofInt i).toNatClampNeg (Int32.ofInt z))) := by rw [a2, ne_upd]; rfl
  rw [e4] at e3
  rw [e3] at hP hD
  exact kk H1 locs1 cells slots ad ls h1 h2 h3 hP hD hS h7
theorem ne_nar {z : Int} (hz : -128 ≤ z ∧ z < 128) : vp_nar .byte (Int32.ofInt z) = Int32.ofInt z := by
  have h1 : (Int32.ofInt z).toInt = z := ne_toI (by omega) (by omega)
  have h2 : (Int32.ofInt z).toInt8.toInt32 = Int32.ofInt z := by
    apply Int32.toInt_inj.mp
    rw [Int8.toInt_toInt32, Int32.toInt_toInt8, h1]
    exact Int.bmod_eq_of_le (by omega) (by omega)
  first
    | (show (Int32.ofInt z).toInt8.toInt32 = Int32.ofInt z; exact h2)
    | (simp only [vp_nar, narrow]; exact h2)
    | (simp [vp_nar, narrow, h2])
theorem ne_bast {q n : Nat} {f : Nat → Int} {i z : Int} (X : ne_F cl D ct A p l R s m args meth c own cc nL Ts fr lo mc ms) (hdg : decode cc pc = .ok (.bastore, 1)) (he : ws[q]? = some (some (.inl (1, n, f)))) (hi : 0 ≤ i ∧ i < n ∧ i < 2147483648) (hz : -128 ≤ z ∧ z < 128) (kk : ne_G cl D ct A n0 ad0 p l e R s m args below meth c Q nL mc ms C S (pc + 1) L st (ws.set q (some (.inl (1, n, va_up f i.toNat z))))) : ne_G cl D ct A n0 ad0 p l e R s m args below meth c Q nL mc ms C S pc L (ni z :: ni i :: .ref q :: st) ws := fun H locs cells slots ad ls h1 h2 h3 h4 h5 h6 h7 => by
  obtain ⟨q0, e1, e2⟩ := ne_w_set (ct := ct) (ad := ad) (k := 0) he
  rw [Nat.zero_add] at e1 e2
  obtain ⟨a1, a2⟩ := ne_in hi.1 hi.2.1 hi.2.2
  refine va_bast X.1.1 X.1.2.1 X.2.1 h4 h5 h6 q0 1 e1 rfl a1 hdg (fun H1 locs1 hP hD hS => ?_)
  have e3 := e2 (.inl (1, n, va_up f i.toNat z))
  have e4 : ne_c ct ad (.inl (1, n, va_up f i.toNat z)) = .inl (ct 1, n, .inl (upd (fun j => Int32.ofInt (f j)) (Int32.ofInt i).toNatClampNeg (vp_nar .byte (Int32.ofInt z)))) := by rw [a2, ne_nar hz, ne_upd]; rfl
  rw [e4] at e3
  rw [e3] at hP hD
  exact kk H1 locs1 cells slots ad ls h1 h2 h3 hP hD hS h7
theorem ne_alen {q t n : Nat} {f : Nat → Int} (X : ne_F cl D ct A p l R s m args meth c own cc nL Ts fr lo mc ms) (hdg : decode cc pc = .ok (.arraylength, 1)) (he : ws[q]? = some (some (.inl (t, n, f)))) (ht : t < 2) (kk : ne_G cl D ct A n0 ad0 p l e R s m args below meth c Q nL mc ms C S (pc + 1) L (ni (n : Int) :: st) ws) : ne_G cl D ct A n0 ad0 p l e R s m args below meth c Q nL mc ms C S pc L (.ref q :: st) ws := fun H locs cells slots ad ls h1 h2 h3 h4 h5 h6 h7 => by
  obtain ⟨q0, e1, -⟩ := ne_w_set (ct := ct) (ad := ad) (k := 0) he
  rw [Nat.zero_add] at e1
  have ht2 : ∃ ty, (ne_ty ct)[t]? = some (ct t, ty) := by
    rcases (show t = 0 ∨ t = 1 by omega) with rfl | rfl
    · exact ⟨_, rfl⟩
    · exact ⟨_, rfl⟩
  obtain ⟨ty, ht3⟩ := ht2
  exact va_alen (v := Int32.ofInt (n : Int)) X.1.1 X.1.2.1 X.2.1 h4 q0 t e1 ht3 (Int32.ofInt_eq_ofNat).symm hdg (kk H locs cells slots ad ls h1 h2 h3 h4 h5 h6 h7)
/-! what is new -/
theorem ne_lt {ad : Nat → Nat} {H : Heap} (h : va_P D cl (ne_w ct ad 0 ws) H) {q : Nat × va_E} (hq : q ∈ ne_w ct ad 0 ws) : q.1 < H.size := by
  obtain ⟨k, hk⟩ := List.getElem?_of_mem hq
  exact (h k q hk).lt
/-- the view after a new cell -/
theorem ne_push {H H1 : Heap} {locs : List Loc} {ad : Nat → Nat} {ls : Array Slot} {e9 : ne_E} (hA : ∀ q, s.heap.size ≤ q → A q) (hn0 : n0 ≤ ws.length) (h1 : ∀ k, k < n0 → ad k = ad0 k) (h4 : va_P D cl (ne_w ct ad 0 ws) H) (h5 : va_D A (ne_w ct ad 0 ws)) (h6 : va_S A s.heap H locs) (h7 : lv_has ls nL (ne_l ad 0 L)) (hw : ne_cw ws.length ws = true) (hl : ne_cl ws.length L = true) (hz : H1.size = H.size + 1) (ho : ∀ q, q < H.size → H1[q]? = H[q]?) (hat : va_at D cl (H.size, ne_c ct (ne_up ad ws.length H.size) e9) H1) :
    (∀ k, k < n0 → ne_up ad ws.length H.size k = ad0 k) ∧ va_P D cl (ne_w ct (ne_up ad ws.length H.size) 0 (ws ++ [some e9])) H1 ∧ va_D A (ne_w ct (ne_up ad ws.length H.size) 0 (ws ++ [some e9])) ∧ va_S A s.heap H1 locs ∧ lv_has ls nL (ne_l (ne_up ad ws.length H.size) 0 L) := by
  have hag : ∀ k, k < ws.length → ne_up ad ws.length H.size k = ad k := fun k hk => ne_up_lt hk
  have e1 : ne_w ct (ne_up ad ws.length H.size) 0 (ws ++ [some e9]) = ne_w ct ad 0 ws ++ [(H.size, ne_c ct (ne_up ad ws.length H.size) e9)] := by
    rw [ne_w_app, ne_w_eq hag hw (by omega), Nat.zero_add, ne_up_self]
  refine ⟨fun k hk => (hag k (by omega)).trans (h1 k hk), ?_, ?_, ?_, by rw [ne_l_eq hag hl]; exact h7⟩
  · rw [e1]
    refine va_P.app (h4.kept fun k q hk => ho _ (h4 k q hk).lt) (fun k q hk => ?_)
    have hq : q ∈ [(H.size, ne_c ct (ne_up ad ws.length H.size) e9)] := List.mem_of_getElem? hk
    rw [List.mem_singleton] at hq
    subst hq
    exact hat
  · rw [e1]
    exact h5.push h4 rfl (hA _ h6.1)
  · exact ⟨by have := h6.1; omega, fun q hq hq2 => (ho q (by have := h6.1; omega)).trans (h6.2.1 q hq hq2), h6.2.2⟩
theorem ne_newa {t : Nat} {atype : ArrayType} {z : Int} (X : ne_F cl D ct A p l R s m args meth c own cc nL Ts fr lo mc ms) (hdg : decode cc pc = .ok (.newarray atype, 2)) (ht : (t = 0 ∧ atype = .int) ∨ (t = 1 ∧ atype = .byte)) (harr : Cond.arrayClass (newarray.typeOf atype) ∈ Ts) (hz : 0 ≤ z ∧ z < 100000000) (hC : 1 ≤ C) (hS : z.toNat ≤ S) (hn0 : n0 ≤ ws.length) (hw : ne_cw ws.length ws = true) (hl : ne_cl ws.length L = true) (hs : ne_cs ws.length st = true) (kk : ne_G cl D ct A n0 ad0 p l e R s m args below meth c Q nL mc ms (C - 1) (S - z.toNat) (pc + 2) L (.ref ws.length :: st) (ws ++ [some (.inl (t, z.toNat, fun _ => 0))])) : ne_G cl D ct A n0 ad0 p l e R s m args below meth c Q nL mc ms C S pc L (ni z :: st) ws := fun H locs cells slots ad ls h1 h2 h3 h4 h5 h6 h7 => by
  have e1 : (Int32.ofInt z).toInt = z := ne_toI (by omega) (by omega)
  have e2 : (Int32.ofInt z).toNatClampNeg = z.toNat := by rw [Int32.toNatClampNeg, e1]
  have hlt : ¬ Int32.ofInt z < 0 := by rw [ne_z0, ne_ltI ⟨by omega, by omega⟩ ⟨by omega, by omega⟩]; omega
  have hcb : z.toNat * componentBytes (newarray.typeOf atype) ≤ 536870912 := by
    rcases ht with ⟨-, rfl⟩ | ⟨-, rfl⟩
    · show z.toNat * 4 ≤ _; omega
    · show z.toNat * 1 ≤ _; omega
  refine va_newaK X.1.1 X.1.2.1 (X.1.2.2.2.2 _ harr) (g := F0 m pc ls (ni z :: st.map (ne_v ad))) rfl hdg rfl hlt e2 hcb (Nat.le_trans (by omega) X.2.2.2.2.2.1) (Nat.le_trans (by omega) X.2.2.2.2.2.2.1) rfl (fun H1 cA b1 b2 b3 b4 b5 => ?_)
  have hcA : cA = ct t := by
    rcases ht with ⟨rfl, rfl⟩ | ⟨rfl, rfl⟩
    · have h9 := (X.2.1.2 0 (ct 0, .int) rfl).2
      exact Option.some.inj (b5.symm.trans h9)
    · have h9 := (X.2.1.2 1 (ct 1, .byte) rfl).2
      exact Option.some.inj (b5.symm.trans h9)
  subst hcA
  obtain ⟨c1, c2, c3, c4, c5⟩ := ne_push (e9 := .inl (t, z.toNat, fun _ => 0)) X.2.2.1 hn0 h1 h4 h5 h6 h7 hw hl b2 b3 (by
    show H1[H.size]? = some (vp_cell (ct t) (z.toNat, .inl (fun _ => Int32.ofInt 0)))
    rw [b1]
    rcases ht with ⟨rfl, rfl⟩ | ⟨rfl, rfl⟩
    · rfl
    · rfl)
  have k9 := kk H1 locs (cells + 1) (slots + z.toNat) _ ls c1 (by omega) (by omega) c2 c3 c4 c5
  have e3 : List.map (ne_v (ne_up ad ws.length H.size)) (.ref ws.length :: st) = .ref H.size :: st.map (ne_v ad) := by
    rw [List.map_cons, ne_s_eq (fun k hk => ne_up_lt hk) hs]
    simp only [ne_v, ne_up_self]
  rw [e3] at k9
  exact k9
def ne_nl (cl : List vw_C) (own : String) (ix ci N : Nat) (fs : List Value) (Ts : List Cond) : Prop := ∃ (C : String) (T : u_T) (ty0 : Nat → FieldType), cl[ci]? = some (C, T, N) ∧ (∀ w ∈ u_ws C T N, w ∈ Ts) ∧ (∀ k, k < N → parseFieldDescriptor (T k).2.2.1 = some (ty0 k)) ∧ (∀ j, j < N → defaultValue (ty0 j) = vp_V fs j) ∧ Cond.classLink own ix C ∈ Ts ∧ Cond.instantiable C N ∈ Ts ∧ Cond.initialized C ∈ Ts ∧ ∀ ad, fs.map (ne_v ad) = fs
theorem ne_new {ix ci N : Nat} {fs : List Value} (X : ne_F cl D ct A p l R s m args meth c own cc nL Ts fr lo mc ms) (hdg : decode cc pc = .ok (.new ix, 3)) (hk : ne_nl cl own ix ci N fs Ts) (hC : 1 ≤ C) (hS : N ≤ S) (hn0 : n0 ≤ ws.length) (hw : ne_cw ws.length ws = true) (hl : ne_cl ws.length L = true) (hs : ne_cs ws.length st = true) (kk : ne_G cl D ct A n0 ad0 p l e R s m args below meth c Q nL mc ms (C - 1) (S - N) (pc + 3) L (.ref ws.length :: st) (ws ++ [some (.inr (ci, fs))])) : ne_G cl D ct A n0 ad0 p l e R s m args below meth c Q nL mc ms C S pc L st ws := fun H locs cells slots ad ls h1 h2 h3 h4 h5 h6 h7 => by
  obtain ⟨C', T, ty0, f1, f2, f3, f4, f5, f6, f7, f8⟩ := hk
  refine va_new (ci := ci) (fs := fs) X.1.1 X.1.2.1 X.1.2.2.2.2 f2 ty0 f3 X.1.2.2.2.1 (X.1.2.2.2.2 _ f5) (X.1.2.2.2.2 _ f6) (X.1.2.2.2.2 _ f7) X.2.1 h4 h5 h6 X.2.2.1 f1 f4 (Nat.le_trans (by omega) X.2.2.2.2.2.1) (Nat.le_trans (by omega) X.2.2.2.2.2.2.1) hdg (fun q H1 hP hD hS9 => ?_)
  have hag : ∀ k, k < ws.length → ne_up ad ws.length q k = ad k := fun k hk => ne_up_lt hk
  have e1 : ne_w ct (ne_up ad ws.length q) 0 (ws ++ [some (.inr (ci, fs))]) = ne_w ct ad 0 ws ++ [(q, .inr (ci, fs))] := by
    rw [ne_w_app, ne_w_eq hag hw (by omega), Nat.zero_add, ne_up_self]
    simp only [ne_c, f8]
  rw [← e1] at hP hD
  have k9 := kk H1 locs (cells + 1) (slots + N) _ ls (fun k hk => (hag k (by omega)).trans (h1 k hk)) (by omega) (by omega) hP hD hS9 (by rw [ne_l_eq hag hl]; exact h7)
  have e3 : List.map (ne_v (ne_up ad ws.length q)) (.ref ws.length :: st) = .ref q :: st.map (ne_v ad) := by
    rw [List.map_cons, ne_s_eq hag hs]
    simp only [ne_v, ne_up_self]
  rw [e3] at k9
  exact k9
/-- a constant text: a place without a cell -/
theorem ne_ldcS {ix : Nat} {tx : String} (X : ne_F cl D ct A p l R s m args meth c own cc nL Ts fr lo mc ms) (hdg : decode cc pc = .ok (.ldc ix, 2)) (hk : (own, ix, tx) ∈ ne_sl) (hn0 : n0 ≤ ws.length) (hw : ne_cw ws.length ws = true) (hl : ne_cl ws.length L = true) (hs : ne_cs ws.length st = true) (kk : ne_G cl D ct A n0 ad0 p l e R s m args below meth c Q nL mc ms C S (pc + 2) L (.ref ws.length :: st) (ws ++ [none])) : ne_G cl D ct A n0 ad0 p l e R s m args below meth c Q nL mc ms C S pc L st ws := fun H locs cells slots ad ls h1 h2 h3 h4 h5 h6 h7 => by
  obtain ⟨a, ha⟩ := X.2.2.2.2.2.2.2.1.2.2.2.1 _ hk
  have hag : ∀ k, k < ws.length → ne_up ad ws.length a k = ad k := fun k hk => ne_up_lt hk
  refine va_ldcS X.1.1 X.1.2.1 X.1.2.2.2.1 ha hdg ?_
  have k9 := kk H locs cells slots (ne_up ad ws.length a) ls (fun k hk => (hag k (by omega)).trans (h1 k hk)) h2 h3 (by rw [ne_w_appN, ne_w_eq hag hw (by omega)]; exact h4) (by rw [ne_w_appN, ne_w_eq hag hw (by omega)]; exact h5) h6 (by rw [ne_l_eq hag hl]; exact h7)
  have e3 : List.map (ne_v (ne_up ad ws.length a)) (.ref ws.length :: st) = .ref a :: st.map (ne_v ad) := by
    rw [List.map_cons, ne_s_eq hag hs]
    simp only [ne_v, ne_up_self]
  rw [e3] at k9
  exact k9
/-- String's static COMPACT_STRINGS: 1 -/
theorem ne_compact {ix : Nat} (X : ne_F cl D ct A p l R s m args meth c own cc nL Ts fr lo mc ms) (hdg : decode cc pc = .ok (.getstatic ix, 3)) (hlk : Cond.fieldLink own ix "java/lang/String" "COMPACT_STRINGS" "Z" ∈ Ts) (kk : ne_G cl D ct A n0 ad0 p l e R s m args below meth c Q nL mc ms C S (pc + 3) L (ni 1 :: st) ws) : ne_G cl D ct A n0 ad0 p l e R s m args below meth c Q nL mc ms C S pc L st ws := fun H locs cells slots ad ls h1 h2 h3 h4 h5 h6 h7 =>
  va_gets X.1.1 X.1.2.1 X.2.2.2.2.2.2.2.1.2.2.1 h6 X.1.2.2.2.1 (X.1.2.2.2.2 _ hlk) (fun _ h => h) hdg (kk H locs cells slots ad ls h1 h2 h3 h4 h5 h6 h7)
theorem ne_objInit {ix q : Nat} (X : ne_F cl D ct A p l R s m args meth c own cc nL Ts fr lo mc ms) (hdg : decode cc pc = .ok (.invokespecial ix, 3)) (hw1 : Cond.methodLink own ix Lib.objectInit ∈ Ts) (hw2 : Cond.instanceMethod Lib.objectInit ∈ Ts) (hw3 : Cond.code Lib.objectInit ⟨#[0xb1]⟩ 1 none ∈ Ts) (hfr : 1 ≤ fr) (hlo : (st.map fun v => v.category).sum + 12 ≤ lo) (kk : ne_G cl D ct A n0 ad0 p l e R s m args below meth c Q nL mc ms C S (pc + 3) L st ws) : ne_G cl D ct A n0 ad0 p l e R s m args below meth c Q nL mc ms C S pc L (.ref q :: st) ws := fun H locs cells slots ad ls h1 h2 h3 h4 h5 h6 h7 => by
  have hcat : ((st.map (ne_v ad)).map fun v => v.category).sum = (st.map fun v => v.category).sum := by
    rw [List.map_map]; congr 1; exact List.map_congr_left fun v _ => ne_v_cat ad v
  exact W.objInit X.1.1 X.1.2.1 X.1.2.2.2.1 (X.1.2.2.2.2 _ hw1) (X.1.2.2.2.2 _ hw2) (X.1.2.2.2.2 _ hw3) (g := F0 m pc ls (.ref (ad q) :: st.map (ne_v ad))) rfl (by rw [X.1.2.2.1]; exact h7.1) rfl hdg (Nat.le_trans hfr X.2.2.2.1) (by show 2 * 0 + _ + 12 ≤ _; rw [hcat]; have := X.2.2.2.2.1; omega) (kk H locs cells slots ad ls h1 h2 h3 h4 h5 h6 h7)
theorem ne_mcat {ad : Nat → Nat} : ((st.map (ne_v ad)).map fun v => v.category).sum = (st.map fun v => v.category).sum := by
  rw [List.map_map]; congr 1; exact List.map_congr_left fun v _ => ne_v_cat ad v

theorem ne_mmax {ix : Nat} {x y : Int} (X : ne_F cl D ct A p l R s m args meth c own cc nL Ts fr lo mc ms) (hdg : decode cc pc = .ok (.invokestatic ix, 3)) (hw1 : Cond.methodLink own ix Lib.Math.max.name ∈ Ts) (hw2 : Cond.static Lib.Math.max.name ∈ Ts) (hw3 : Cond.initialized "java/lang/Math" ∈ Ts) (hw4 : Cond.code Lib.Math.max.name Lib.Math.max.code 2 (some .int) ∈ Ts) (hfr : 1 ≤ fr) (hlo : (st.map fun v => v.category).sum + 13 ≤ lo) (hx : -2147483648 ≤ x ∧ x < 2147483648) (hy : -2147483648 ≤ y ∧ y < 2147483648) (kk : ne_G cl D ct A n0 ad0 p l e R s m args below meth c Q nL mc ms C S (pc + 3) L (ni (if x < y then y else x) :: st) ws) : ne_G cl D ct A n0 ad0 p l e R s m args below meth c Q nL mc ms C S pc L (ni y :: ni x :: st) ws := fun H locs cells slots ad ls h1 h2 h3 h4 h5 h6 h7 => by
  have k9 := kk H locs cells slots ad ls h1 h2 h3 h4 h5 h6 h7
  refine va_mmax X.1.1 X.1.2.1 (by rw [X.1.2.2.1]; exact h7.1.symm) X.1.2.2.2.1 (X.1.2.2.2.2 _ hw1) (X.1.2.2.2.2 _ hw2) (X.1.2.2.2.2 _ hw3) (X.1.2.2.2.2 _ hw4) (Nat.le_trans hfr X.2.2.2.1) (by rw [ne_mcat]; have := X.2.2.2.2.1; omega) (Nat.le_trans (by omega) X.2.2.2.2.2.1) (Nat.le_trans (by omega) X.2.2.2.2.2.2.1) hdg ?_
  by_cases hh : x < y
  · rw [if_pos ((ne_ltI hx hy).mpr hh)]; rw [if_pos hh] at k9; exact k9
  · rw [if_neg (fun q => hh ((ne_ltI hx hy).mp q))]; rw [if_neg hh] at k9; exact k9
theorem ne_mmin {ix : Nat} {x y : Int} (X : ne_F cl D ct A p l R s m args meth c own cc nL Ts fr lo mc ms) (hdg : decode cc pc = .ok (.invokestatic ix, 3)) (hw1 : Cond.methodLink own ix Lib.Math.min.name ∈ Ts) (hw2 : Cond.static Lib.Math.min.name ∈ Ts) (hw3 : Cond.initialized "java/lang/Math" ∈ Ts) (hw4 : Cond.code Lib.Math.min.name Lib.Math.min.code 2 (some .int) ∈ Ts) (hfr : 1 ≤ fr) (hlo : (st.map fun v => v.category).sum + 13 ≤ lo) (hx : -2147483648 ≤ x ∧ x < 2147483648) (hy : -2147483648 ≤ y ∧ y < 2147483648) (kk : ne_G cl D ct A n0 ad0 p l e R s m args below meth c Q nL mc ms C S (pc + 3) L (ni (if y < x then y else x) :: st) ws) : ne_G cl D ct A n0 ad0 p l e R s m args below meth c Q nL mc ms C S pc L (ni y :: ni x :: st) ws := fun H locs cells slots ad ls h1 h2 h3 h4 h5 h6 h7 => by
  have k9 := kk H locs cells slots ad ls h1 h2 h3 h4 h5 h6 h7
  refine va_mmin X.1.1 X.1.2.1 (by rw [X.1.2.2.1]; exact h7.1.symm) X.1.2.2.2.1 (X.1.2.2.2.2 _ hw1) (X.1.2.2.2.2 _ hw2) (X.1.2.2.2.2 _ hw3) (X.1.2.2.2.2 _ hw4) (Nat.le_trans hfr X.2.2.2.1) (by rw [ne_mcat]; have := X.2.2.2.2.1; omega) (Nat.le_trans (by omega) X.2.2.2.2.2.1) (Nat.le_trans (by omega) X.2.2.2.2.2.2.1) hdg ?_
  by_cases hh : y < x
  · rw [if_pos ((ne_ltI hy hx).mpr hh)]; rw [if_pos hh] at k9; exact k9
  · rw [if_neg (fun q => hh ((ne_ltI hy hx).mp q))]; rw [if_neg hh] at k9; exact k9
theorem ne_mabs {ix : Nat} {x : Int} (X : ne_F cl D ct A p l R s m args meth c own cc nL Ts fr lo mc ms) (hdg : decode cc pc = .ok (.invokestatic ix, 3)) (hw1 : Cond.methodLink own ix Lib.Math.abs.name ∈ Ts) (hw2 : Cond.static Lib.Math.abs.name ∈ Ts) (hw3 : Cond.initialized "java/lang/Math" ∈ Ts) (hw4 : Cond.code Lib.Math.abs.name Lib.Math.abs.code 1 (some .int) ∈ Ts) (hfr : 1 ≤ fr) (hlo : (st.map fun v => v.category).sum + 13 ≤ lo) (hx : -2147483648 ≤ x ∧ x < 2147483648) (kk : ne_G cl D ct A n0 ad0 p l e R s m args below meth c Q nL mc ms C S (pc + 3) L (ni (if 0 ≤ x then x else -x) :: st) ws) : ne_G cl D ct A n0 ad0 p l e R s m args below meth c Q nL mc ms C S pc L (ni x :: st) ws := fun H locs cells slots ad ls h1 h2 h3 h4 h5 h6 h7 => by
  have k9 := kk H locs cells slots ad ls h1 h2 h3 h4 h5 h6 h7
  refine va_mabs X.1.1 X.1.2.1 (by rw [X.1.2.2.1]; exact h7.1.symm) X.1.2.2.2.1 (X.1.2.2.2.2 _ hw1) (X.1.2.2.2.2 _ hw2) (X.1.2.2.2.2 _ hw3) (X.1.2.2.2.2 _ hw4) (Nat.le_trans hfr X.2.2.2.1) (by rw [ne_mcat]; have := X.2.2.2.2.1; omega) (Nat.le_trans (by omega) X.2.2.2.2.2.1) (Nat.le_trans (by omega) X.2.2.2.2.2.2.1) hdg ?_
  by_cases hh : 0 ≤ x
  · rw [if_pos (by rw [ne_z0]; exact (ne_leI (by omega) hx).mpr hh)]; rw [if_pos hh] at k9; exact k9
  · rw [if_neg (fun q => hh ((ne_leI (by omega) hx).mp (by rw [ne_z0] at q; exact q)))]; rw [if_neg hh] at k9
    rw [ne_z0, ← Int32.ofInt_sub, show (0 : Int) - x = -x by omega]; exact k9
theorem ne_mabsl {ix : Nat} {x : Int} (X : ne_F cl D ct A p l R s m args meth c own cc nL Ts fr lo mc ms) (hdg : decode cc pc = .ok (.invokestatic ix, 3)) (hw1 : Cond.methodLink own ix Lib.MathLoose.abs_long.x ∈ Ts) (hw2 : Cond.static Lib.MathLoose.abs_long.x ∈ Ts) (hw3 : Cond.initialized "java/lang/Math" ∈ Ts) (hw4 : Cond.code Lib.MathLoose.abs_long.x Lib.MathLoose.abs_long.code 2 (some .long) ∈ Ts) (hfr : 1 ≤ fr) (hlo : (st.map fun v => v.category).sum + 13 ≤ lo) (hx : -9223372036854775808 ≤ x ∧ x < 9223372036854775808) (kk : ne_G cl D ct A n0 ad0 p l e R s m args below meth c Q nL mc ms C S (pc + 3) L (nl (if 0 < x then x else -x) :: st) ws) : ne_G cl D ct A n0 ad0 p l e R s m args below meth c Q nL mc ms C S pc L (nl x :: st) ws := fun H locs cells slots ad ls h1 h2 h3 h4 h5 h6 h7 => by
  have k9 := kk H locs cells slots ad ls h1 h2 h3 h4 h5 h6 h7
  refine va_mabs_long X.1.1 X.1.2.1 (by rw [X.1.2.2.1]; exact h7.1.symm) X.1.2.2.2.1 (X.1.2.2.2.2 _ hw1) (X.1.2.2.2.2 _ hw2) (X.1.2.2.2.2 _ hw3) (X.1.2.2.2.2 _ hw4) (Nat.le_trans hfr X.2.2.2.1) (by rw [ne_mcat]; have := X.2.2.2.2.1; omega) (Nat.le_trans (by omega) X.2.2.2.2.2.1) (Nat.le_trans (by omega) X.2.2.2.2.2.2.1) hdg ?_
  have z0 : (0 : Int64) = Int64.ofInt 0 := rfl
  by_cases hh : 0 < x
  · rw [if_pos (by rw [z0]; exact (ne_ltL (by omega) hx).mpr hh)]; rw [if_pos hh] at k9; exact k9
  · rw [if_neg (fun q => hh ((ne_ltL (by omega) hx).mp (by rw [z0] at q; exact q)))]; rw [if_neg hh] at k9
    rw [← Int64.ofInt_neg]; exact k9
/-! ## contracts -/
def ne_Q (cl : List vw_C) (D : va_G) (ct : Nat → ClassId) (ad0 : Nat → Nat) (n0 : Nat) (A : Nat → Prop) (post : Option Value → ne_W → Prop) : Array Value → State → Outcome → State → Prop := fun _ st oc t => ∃ (v : Option Value) (ws : ne_W) (ad : Nat → Nat), oc = .returned (v.map (ne_v ad)) ∧ post v ws ∧ (∀ k, k < n0 → ad k = ad0 k) ∧ va_P D cl (ne_w ct ad 0 ws) t.heap ∧ va_D A (ne_w ct ad 0 ws) ∧ va_F A st t
def ne_XC (cl : List vw_C) (D : va_G) (ct : Nat → ClassId) (ad0 : Nat → Nat) (n0 : Nat) (A : Nat → Prop) (px : String → ne_W → Prop) : String → State → State → Prop := fun E st t => ∃ (ws : ne_W) (ad : Nat → Nat), px E ws ∧ (∀ k, k < n0 → ad k = ad0 k) ∧ va_P D cl (ne_w ct ad 0 ws) t.heap ∧ va_D A (ne_w ct ad 0 ws) ∧ va_F A st t
/-- what a method does with these arguments in this world: fr frames, lo words of locals, mc cells, ms slots are enough -/
def ne_M (l : Launch) (cl : List vw_C) (cw : Cond) (Ts : List Cond) (y : MethodName) (fr lo mc ms : Nat) (as : List Value) (ws : ne_W) (post : Option Value → ne_W → Prop) (px : String → ne_W → Prop) : Prop :=
  ∀ (D : va_G) (ct : Nat → ClassId) (ad : Nat → Nat) (sz : Nat), vx_Met l y (cw :: Ts) { frames := fr, cells := mc, slots := ms, locals := lo }
    (va_Pc (as.map (ne_v ad)) (fun U => U.heap.size = sz ∧ va_P D cl (ne_w ct ad 0 ws) U.heap ∧ va_K D cl (ne_ty ct) U ∧ va_D (fun _ => True) (ne_w ct ad 0 ws) ∧ ne_Z (va_A (ne_w ct ad 0 ws) sz) U U.heap))
    (ne_Q cl D ct ad ws.length (va_A (ne_w ct ad 0 ws) sz) post) (ne_XC cl D ct ad ws.length (va_A (ne_w ct ad 0 ws) sz) px) mc ms (va_A (ne_w ct ad 0 ws) sz)
/-- what a frame without handlers owes -/
abbrev ne_O (cl : List vw_C) (D : va_G) (ct : Nat → ClassId) (ad0 : Nat → Nat) (n0 : Nat) (A : Nat → Prop) (below : List Frame) (args : Array Value) (s : State) (mc ms : Nat) (post : Option Value → ne_W → Prop) (px : String → ne_W → Prop) : State → Prop := vx_MQ below (ne_Q cl D ct ad0 n0 A post) (ne_XC cl D ct ad0 n0 A px) args s mc ms A
/-- a frame over which something of class E was thrown -/
def ne_T (cl : List vw_C) (D : va_G) (ct : Nat → ClassId) (A : Nat → Prop) (n0 : Nat) (ad0 : Nat → Nat) (p : Program) (l : Launch) (e : Env) (R : Room) (s : State) (m : MethodId) (args : Array Value) (below : List Frame) (meth : Method) (c : Code) (Q : State → Prop) (nL mc ms C S pc : Nat) (L : List (Option Value)) (E : String) (ws : ne_W) : Prop :=
  ∀ (H : Heap) (locs : List Loc) (cells slots : Nat) (ad : Nat → Nat) (ls : Array Slot) (rest : List Value) (q : Addr) (ce : Cell), (∀ k, k < n0 → ad k = ad0 k) → cells + C ≤ mc → slots + S ≤ ms → va_P D cl (ne_w ct ad 0 ws) H → va_D A (ne_w ct ad 0 ws) → va_S A s.heap H locs → lv_has ls nL (ne_l ad 0 L) → H[q]? = some ce → ce.vm = .none → s.vm.findClass E = some ce.cls → vx_W p l e R s m args below meth c H locs cells slots Q (F0 m pc ls rest) q
theorem ne_blind {av : List Value} {D : va_G} {tys : List (ClassId × FieldType)} {W0 : va_W} {sz : Nat} {A9 : Nat → Prop} : FrameBlind (va_Pc av (fun U => U.heap.size = sz ∧ va_P D cl W0 U.heap ∧ va_K D cl tys U ∧ va_D (fun _ => True) W0 ∧ ne_Z A9 U U.heap)) := by
  intro a U g mk q
  obtain ⟨q0, q1, q2, q3, q4, q5⟩ := q
  exact ⟨q0, q1, q2, va_K.moved (u := U) (U := U.calling g mk a) (Vm.Alike.refl U.vm) q3, q4, ne_Z.same (u := U) (U := U.calling g mk a) rfl q5⟩
theorem ne_pre {H : Heap} {locs : List Loc} {ad : Nat → Nat} {ls : Array Slot} {av : List Value} (X : ne_F cl D ct A p l R s m args meth c own cc nL Ts fr lo mc ms) (h4 : va_P D cl (ne_w ct ad 0 ws) H) (h5 : va_D A (ne_w ct ad 0 ws)) (h6 : va_S A s.heap H locs) : PreS s H (va_Pc av (fun U => U.heap.size = H.size ∧ va_P D cl (ne_w ct ad 0 ws) U.heap ∧ va_K D cl (ne_ty ct) U ∧ va_D (fun _ => True) (ne_w ct ad 0 ws) ∧ ne_Z (va_A (ne_w ct ad 0 ws) H.size) U U.heap)) av := by
  refine ⟨ne_blind, fun U hU hW => ⟨rfl, by rw [hU], by rw [hU]; exact h4, va_K.moved hW.alike X.2.1, h5.weaken (fun _ _ _ _ => trivial), ?_⟩⟩
  rw [hU]
  have hz : ne_Z A s H := ne_Z.kept X.2.2.2.2.2.2.2.1 (fun a ha hA => h6.2.1 a ha hA)
  refine (hz.narrow ?_).warm hW
  rintro q (⟨k, e, hk⟩ | hq)
  · exact h5.2 k _ hk
  · exact X.2.2.1 q (Nat.le_trans h6.1 hq)
/-- behind a call -/
theorem ne_after {H : Heap} {locs : List Loc} {cells slots mc1 ms1 : Nat} {ad : Nat → Nat} {ls : Array Slot} {st0 : List Value} {a9 : Array Value} {post : Option Value → ne_W → Prop} {px : String → ne_W → Prop} (X : ne_F cl D ct A p l R s m args meth c own cc nL Ts fr lo mc ms) (hr : vx_Run p l e R s m args below meth c H locs cells slots mc1 ms1 (F0 m pc ls st0) (st.map (ne_v ad)) (ne_Q cl D ct ad ws.length (va_A (ne_w ct ad 0 ws) H.size) post a9) (ne_XC cl D ct ad ws.length (va_A (ne_w ct ad 0 ws) H.size) px) (va_A (ne_w ct ad 0 ws) H.size))
    (h1 : ∀ k, k < n0 → ad k = ad0 k) (h2 : cells + C ≤ mc) (h3 : slots + S ≤ ms) (h5 : va_D A (ne_w ct ad 0 ws)) (h6 : va_S A s.heap H locs) (h7 : lv_has ls nL (ne_l ad 0 L)) (hC : mc1 ≤ C) (hS : ms1 ≤ S) (hn0 : n0 ≤ ws.length) (hl : ne_cl ws.length L = true) (hs : ne_cs ws.length st = true)
    (kk : ∀ (v : Option Value) (ws1 : ne_W), post v ws1 → ne_G cl D ct A n0 ad0 p l e R s m args below meth c Q nL mc ms (C - mc1) (S - ms1) (pc + 3) L (v.toList ++ st) ws1) (kx : ∀ (E : String) (ws1 : ne_W), px E ws1 → ne_T cl D ct A n0 ad0 p l e R s m args below meth c Q nL mc ms (C - mc1) (S - ms1) pc L E ws1) : W p l e R s m args below meth c H locs cells slots Q (F0 m pc ls st0) := by
  have hA1 : ∀ q, va_A (ne_w ct ad 0 ws) H.size q → A q := by
    rintro q (⟨k, e, hk⟩ | hq)
    · exact h5.2 k _ hk
    · exact X.2.2.1 q (Nat.le_trans h6.1 hq)
  intro T hT Y
  rcases hr T hT Y with ⟨v, st₀, t, T', L9, h0, Y', hL, e1, e2, ⟨v', ws1, ad1, hv, hp, hag, hP1, hD1, hF1⟩, stp⟩ | ⟨q, st₀, t, T', L9, E, ce, h0, Y', hL, e1, e2, ⟨ws1, ad1, hp, hag, hP1, hD1, hF1⟩, hce, hcv, hcl, stp⟩
  · have hv2 : v = v'.map (ne_v ad1) := by injection hv
    subst hv2
    obtain ⟨k1, k2, k3⟩ := vx_keep h0 e1 h6 (fun q _ h => hA1 q h) hA1 hL hF1
    obtain ⟨t2, a1, b1⟩ := kk v' ws1 hp T'.heap (locs ++ L9) (cells + mc1) (slots + ms1) ad1 ls (fun k hk => (hag k (by omega)).trans (h1 k hk)) (by omega) (by omega) (by rw [e1]; exact hP1) (hD1.weaken fun _ q _ h => hA1 _ h) k3 (by rw [ne_l_eq hag hl]; exact h7) T' rfl Y'
    have hst : (v'.toList ++ st).map (ne_v ad1) = (v'.map (ne_v ad1)).toList ++ st.map (ne_v ad) := by
      rw [List.map_append, ne_s_eq hag hs]
      cases v' <;> rfl
    rw [hst] at a1
    exact ⟨t2, stp t2 a1, b1⟩
  · obtain ⟨k1, k2, k3⟩ := vx_keep h0 e1 h6 (fun q _ h => hA1 q h) hA1 hL hF1
    obtain ⟨t2, a1, b1⟩ := kx E ws1 hp T'.heap (locs ++ L9) (cells + mc1) (slots + ms1) ad1 ls (st.map (ne_v ad)) q ce (fun k hk => (hag k (by omega)).trans (h1 k hk)) (by omega) (by omega) (by rw [e1]; exact hP1) (hD1.weaken fun _ q _ h => hA1 _ h) k3 (by rw [ne_l_eq hag hl]; exact h7) (by rw [e1]; exact hce) hcv hcl T' rfl Y'
    exact ⟨t2, stp.trans a1, b1⟩
theorem ne_gi {ws9 : List Cond} (hg : ∀ w ∈ Ts, goodWord w = true) (h : ∀ w ∈ ws9, w ∈ Ts) : GoodIn Ts ws9 := fun w hw => ⟨h w hw, good_of_word (hg w (h w hw))⟩
/-- what the tables say of a callee -/
def ne_cy (y : MethodName) (cw : Cond) (n : Nat) (Ts : List Cond) : Prop := cw ∈ Ts ∧ Cond.initialized y.cls ∈ Ts ∧ y.cls ≠ "java/lang/invoke/MethodHandle" ∧ y.cls ≠ "java/lang/invoke/VarHandle" ∧ (parseMethodDescriptor y.desc).map (fun d => d.parameters.length) = some n

theorem ne_callS {y : MethodName} {bytes : ByteArray} {maxL n ix fr1 lo1 mc1 ms1 : Nat} {ret : Option FieldType} {as st1 : List Value} {post : Option Value → ne_W → Prop} {px : String → ne_W → Prop} (X : ne_F cl D ct A p l R s m args meth c own cc nL Ts fr lo mc ms) (hg : ∀ w ∈ Ts, goodWord w = true) (hM : ne_M l cl (.code y bytes maxL ret) Ts y fr1 lo1 mc1 ms1 as ws post px) (hy : ne_cy y (.code y bytes maxL ret) n Ts) (hw1 : Cond.methodLink own ix y ∈ Ts) (hw2 : Cond.static y ∈ Ts) (hdg : decode cc pc = .ok (.invokestatic ix, 3)) (hst : st1 = as.reverse ++ st) (hlen : as.length = n) (hfr : fr1 + 1 ≤ fr) (hlo : 8 + (maxL + 11) + lo1 ≤ lo) (hC : mc1 ≤ C) (hS : ms1 ≤ S) (hn0 : n0 ≤ ws.length) (hl : ne_cl ws.length L = true) (hs : ne_cs ws.length st = true) (hcat : (st.map fun v => v.category).sum ≤ 8) (kk : ∀ (v : Option Value) (ws1 : ne_W), post v ws1 → ne_G cl D ct A n0 ad0 p l e R s m args below meth c Q nL mc ms (C - mc1) (S - ms1) (pc + 3) L (v.toList ++ st) ws1) (kx : ∀ (E : String) (ws1 : ne_W), px E ws1 → ne_T cl D ct A n0 ad0 p l e R s m args below meth c Q nL mc ms (C - mc1) (S - ms1) pc L E ws1) : ne_G cl D ct A n0 ad0 p l e R s m args below meth c Q nL mc ms C S pc L st1 ws := fun H locs cells slots ad ls h1 h2 h3 h4 h5 h6 h7 => by
  subst hst
  have e9 : (as.reverse ++ st).map (ne_v ad) = (as.map (ne_v ad)).reverse ++ st.map (ne_v ad) := by simp [List.map_append, List.map_reverse, ne_v]
  rw [e9]
  have cw := va_cwS (R := R) (s := s) (args := args) (own := own) (index := ix) (y := y) (bytes := bytes) (maxL := maxL) (mc := mc1) (ms := ms1) (ret := ret) (Ts := Ts) (ws := .code y bytes maxL ret :: Ts) (ws' := Ts) (rm := { frames := fr1, cells := mc1, slots := ms1, locals := lo1 }) n X.1.2.2.2.2 (ne_gi hg (fun w hw => by
    unfold va_wsS at hw
    simp only [List.cons_append, List.nil_append, List.mem_cons] at hw
    rcases hw with rfl | rfl | rfl | rfl | hw
    · exact hw1
    · exact hw2
    · exact hy.2.1
    · exact hy.1
    · exact hw)) rfl rfl rfl ⟨hy.2.2.1, hy.2.2.2.1, hy.2.2.2.2⟩ ⟨Nat.le_trans hfr X.2.2.2.1, Nat.le_trans hlo X.2.2.2.2.1⟩
  exact ne_after X (vx_runS (As := as.map (ne_v ad)) (rest := st.map (ne_v ad)) X.1 (hM D ct ad H.size) cw (ne_pre (ls := ls) X h4 h5 h6) rfl (by rw [List.length_map]; exact hlen) h7.1 rfl (by show 2 * 0 + _ ≤ 8; rw [ne_mcat]; omega) hdg ⟨by have := X.2.2.2.2.2.1; omega, by have := X.2.2.2.2.2.2.1; omega⟩) h1 h2 h3 h5 h6 h7 hC hS hn0 hl hs kk kx
theorem ne_callV {y : MethodName} {bytes : ByteArray} {maxL n ix fr1 lo1 mc1 ms1 : Nat} {ret : Option FieldType} {as st1 : List Value} {post : Option Value → ne_W → Prop} {px : String → ne_W → Prop} {q ci : Nat} {fs : List Value} {r : vw_C} (X : ne_F cl D ct A p l R s m args meth c own cc nL Ts fr lo mc ms) (hg : ∀ w ∈ Ts, goodWord w = true) (hM : ne_M l cl (.code y bytes maxL ret) Ts y fr1 lo1 mc1 ms1 (.ref q :: as) ws post px) (hy : ne_cy y (.code y bytes maxL ret) n Ts) (hw1 : Cond.methodLink own ix y ∈ Ts) (hw2 : Cond.instanceMethod y ∈ Ts) (hw3 : Cond.selects y.cls y y ∈ Ts) (hr : cl[ci]? = some r) (hrc : r.1 = y.cls) (he : ws[q]? = some (some (.inr (ci, fs)))) (hdg : decode cc pc = .ok (.invokevirtual ix, 3)) (hst : st1 = as.reverse ++ .ref q :: st) (hlen : as.length = n) (hfr : fr1 + 1 ≤ fr) (hlo : 8 + (maxL + 11) + lo1 ≤ lo) (hC : mc1 ≤ C) (hS : ms1 ≤ S) (hn0 : n0 ≤ ws.length) (hl : ne_cl ws.length L = true) (hs : ne_cs ws.length st = true) (hcat : (st.map fun v => v.category).sum ≤ 8) (kk : ∀ (v : Option Value) (ws1 : ne_W), post v ws1 → ne_G cl D ct A n0 ad0 p l e R s m args below meth c Q nL mc ms (C - mc1) (S - ms1) (pc + 3) L (v.toList ++ st) ws1) (kx : ∀ (E : String) (ws1 : ne_W), px E ws1 → ne_T cl D ct A n0 ad0 p l e R s m args below meth c Q nL mc ms (C - mc1) (S - ms1) pc L E ws1) : ne_G cl D ct A n0 ad0 p l e R s m args below meth c Q nL mc ms C S pc L st1 ws := fun H locs cells slots ad ls h1 h2 h3 h4 h5 h6 h7 => by
  subst hst
  have e9 : (as.reverse ++ .ref q :: st).map (ne_v ad) = (as.map (ne_v ad)).reverse ++ .ref (ad q) :: st.map (ne_v ad) := by simp [List.map_append, List.map_reverse, ne_v]
  rw [e9]
  obtain ⟨q0, e1, -⟩ := ne_w_set (ct := ct) (ad := ad) (k := 0) he
  rw [Nat.zero_add] at e1
  have rv := va_recv X.2.1 h4 hr e1
  rw [hrc] at rv
  have cw := cwV (R := R) (s := s) (args := args) (own := own) (C := y.cls) (index := ix) (y := y) (bytes := bytes) (maxL := maxL) (mc := mc1) (ms := ms1) (ret := ret) (Ts := Ts) (ws := .code y bytes maxL ret :: Ts) (ws' := Ts) (rm := { frames := fr1, cells := mc1, slots := ms1, locals := lo1 }) n X.1.2.2.2.2 (ne_gi hg (fun w hw => by
    unfold wsV at hw
    simp only [List.cons_append, List.nil_append, List.mem_cons] at hw
    rcases hw with rfl | rfl | rfl | rfl | rfl | hw
    · exact hw1
    · exact hw2
    · exact hw3
    · exact hy.2.1
    · exact hy.1
    · exact hw)) rfl rfl rfl ⟨rfl, hy.2.2.1, hy.2.2.2.1, hy.2.2.2.2⟩ ⟨Nat.le_trans hfr X.2.2.2.1, Nat.le_trans hlo X.2.2.2.2.1⟩
  have hp := ne_pre (ls := ls) (av := .ref (ad q) :: as.map (ne_v ad)) X h4 h5 h6
  exact ne_after X (vx_runV (As := as.map (ne_v ad)) (b := ad q) (rest := st.map (ne_v ad)) X.1 (hM D ct ad H.size) cw ⟨hp.1, rv, hp.2⟩ rfl (by rw [List.length_map]; exact hlen) h7.1 rfl (by show 2 * 0 + _ ≤ 8; rw [ne_mcat]; omega) hdg ⟨by have := X.2.2.2.2.2.1; omega, by have := X.2.2.2.2.2.2.1; omega⟩) h1 h2 h3 h5 h6 h7 hC hS hn0 hl hs kk kx
theorem ne_callVN {y : MethodName} {bytes : ByteArray} {maxL n ix fr1 lo1 mc1 ms1 : Nat} {ret : Option FieldType} {as st1 : List Value} {post : Option Value → ne_W → Prop} {px : String → ne_W → Prop} {q ci : Nat} {fs : List Value} {r : vw_C} {host : String} (X : ne_F cl D ct A p l R s m args meth c own cc nL Ts fr lo mc ms) (hg : ∀ w ∈ Ts, goodWord w = true) (hM : ne_M l cl (.code y bytes maxL ret) Ts y fr1 lo1 mc1 ms1 (.ref q :: as) ws post px) (hy : ne_cy y (.code y bytes maxL ret) n Ts) (hw1 : (own, ix, y, host) ∈ ne_nm) (hw2 : Cond.instanceMethod y ∈ Ts) (hw3 : Cond.selects y.cls y y ∈ Ts) (hr : cl[ci]? = some r) (hrc : r.1 = y.cls) (he : ws[q]? = some (some (.inr (ci, fs)))) (hdg : decode cc pc = .ok (.invokevirtual ix, 3)) (hst : st1 = as.reverse ++ .ref q :: st) (hlen : as.length = n) (hfr : fr1 + 1 ≤ fr) (hlo : 8 + (maxL + 11) + lo1 ≤ lo) (hC : mc1 ≤ C) (hS : ms1 ≤ S) (hn0 : n0 ≤ ws.length) (hl : ne_cl ws.length L = true) (hs : ne_cs ws.length st = true) (hcat : (st.map fun v => v.category).sum ≤ 8) (kk : ∀ (v : Option Value) (ws1 : ne_W), post v ws1 → ne_G cl D ct A n0 ad0 p l e R s m args below meth c Q nL mc ms (C - mc1) (S - ms1) (pc + 3) L (v.toList ++ st) ws1) (kx : ∀ (E : String) (ws1 : ne_W), px E ws1 → ne_T cl D ct A n0 ad0 p l e R s m args below meth c Q nL mc ms (C - mc1) (S - ms1) pc L E ws1) : ne_G cl D ct A n0 ad0 p l e R s m args below meth c Q nL mc ms C S pc L st1 ws := fun H locs cells slots ad ls h1 h2 h3 h4 h5 h6 h7 => by
  subst hst
  have e9 : (as.reverse ++ .ref q :: st).map (ne_v ad) = (as.map (ne_v ad)).reverse ++ .ref (ad q) :: st.map (ne_v ad) := by simp [List.map_append, List.map_reverse, ne_v]
  rw [e9]
  obtain ⟨q0, e1, -⟩ := ne_w_set (ct := ct) (ad := ad) (k := 0) he
  rw [Nat.zero_add] at e1
  have rv := va_recv X.2.1 h4 hr e1
  rw [hrc] at rv
  have cw := va_cnB (R := R) (s := s) (args := args) (own := own) (host := host) (index := ix) (y := y) (bytes := bytes) (maxL := maxL) (mc := mc1) (ms := ms1) (ret := ret) (Ts := Ts) (ws := .code y bytes maxL ret :: Ts) (ws' := Ts) (rm := { frames := fr1, cells := mc1, slots := ms1, locals := lo1 }) n X.1.2.2.2.2 (ne_gi hg (fun w hw => by
    rcases List.mem_cons.mp hw with rfl | hw
    · exact hy.1
    · exact hw)) rfl rfl rfl (X.2.2.2.2.2.2.2.1.2.2.2.2.1 _ hw1) (X.1.2.2.2.2 _ hy.2.1) ⟨hy.2.2.1, hy.2.2.2.1, hy.2.2.2.2⟩ ⟨Nat.le_trans hfr X.2.2.2.1, Nat.le_trans hlo X.2.2.2.2.1⟩
  have hp := ne_pre (ls := ls) (av := .ref (ad q) :: as.map (ne_v ad)) X h4 h5 h6
  exact ne_after X (vx_runVN (C := y.cls) (As := as.map (ne_v ad)) (b := ad q) (rest := st.map (ne_v ad)) X.1 (hM D ct ad H.size) ⟨cw, X.1.2.2.2.2 _ hw2, X.1.2.2.2.2 _ hw3⟩ ⟨hp.1, rv, hp.2⟩ rfl (by rw [List.length_map]; exact hlen) h7.1 rfl (by show 2 * 0 + _ ≤ 8; rw [ne_mcat]; omega) hdg ⟨by have := X.2.2.2.2.2.1; omega, by have := X.2.2.2.2.2.2.1; omega⟩) h1 h2 h3 h5 h6 h7 hC hS hn0 hl hs kk kx
theorem ne_callSN {y : MethodName} {bytes : ByteArray} {maxL n ix fr1 lo1 mc1 ms1 : Nat} {ret : Option FieldType} {as st1 : List Value} {post : Option Value → ne_W → Prop} {px : String → ne_W → Prop} {host : String} (X : ne_F cl D ct A p l R s m args meth c own cc nL Ts fr lo mc ms) (hg : ∀ w ∈ Ts, goodWord w = true) (hM : ne_M l cl (.code y bytes maxL ret) Ts y fr1 lo1 mc1 ms1 as ws post px) (hy : ne_cy y (.code y bytes maxL ret) n Ts) (hw1 : (own, ix, y, host) ∈ ne_nm) (hw2 : Cond.static y ∈ Ts) (hdg : decode cc pc = .ok (.invokestatic ix, 3)) (hst : st1 = as.reverse ++ st) (hlen : as.length = n) (hfr : fr1 + 1 ≤ fr) (hlo : 8 + (maxL + 11) + lo1 ≤ lo) (hC : mc1 ≤ C) (hS : ms1 ≤ S) (hn0 : n0 ≤ ws.length) (hl : ne_cl ws.length L = true) (hs : ne_cs ws.length st = true) (hcat : (st.map fun v => v.category).sum ≤ 8) (kk : ∀ (v : Option Value) (ws1 : ne_W), post v ws1 → ne_G cl D ct A n0 ad0 p l e R s m args below meth c Q nL mc ms (C - mc1) (S - ms1) (pc + 3) L (v.toList ++ st) ws1) (kx : ∀ (E : String) (ws1 : ne_W), px E ws1 → ne_T cl D ct A n0 ad0 p l e R s m args below meth c Q nL mc ms (C - mc1) (S - ms1) pc L E ws1) : ne_G cl D ct A n0 ad0 p l e R s m args below meth c Q nL mc ms C S pc L st1 ws := fun H locs cells slots ad ls h1 h2 h3 h4 h5 h6 h7 => by
  subst hst
  have e9 : (as.reverse ++ st).map (ne_v ad) = (as.map (ne_v ad)).reverse ++ st.map (ne_v ad) := by simp [List.map_append, List.map_reverse, ne_v]
  rw [e9]
  have cw := va_cnB (R := R) (s := s) (args := args) (own := own) (host := host) (index := ix) (y := y) (bytes := bytes) (maxL := maxL) (mc := mc1) (ms := ms1) (ret := ret) (Ts := Ts) (ws := .code y bytes maxL ret :: Ts) (ws' := Ts) (rm := { frames := fr1, cells := mc1, slots := ms1, locals := lo1 }) n X.1.2.2.2.2 (ne_gi hg (fun w hw => by
    rcases List.mem_cons.mp hw with rfl | hw
    · exact hy.1
    · exact hw)) rfl rfl rfl (X.2.2.2.2.2.2.2.1.2.2.2.2.1 _ hw1) (X.1.2.2.2.2 _ hy.2.1) ⟨hy.2.2.1, hy.2.2.2.1, hy.2.2.2.2⟩ ⟨Nat.le_trans hfr X.2.2.2.1, Nat.le_trans hlo X.2.2.2.2.1⟩
  exact ne_after X (vx_runSN (As := as.map (ne_v ad)) (rest := st.map (ne_v ad)) X.1 (hM D ct ad H.size) ⟨cw, X.1.2.2.2.2 _ hw2, trivial⟩ (ne_pre (ls := ls) X h4 h5 h6) rfl (by rw [List.length_map]; exact hlen) h7.1 rfl (by show 2 * 0 + _ ≤ 8; rw [ne_mcat]; omega) hdg ⟨by have := X.2.2.2.2.2.1; omega, by have := X.2.2.2.2.2.2.1; omega⟩) h1 h2 h3 h5 h6 h7 hC hS hn0 hl hs kk kx
theorem ne_callI {y : MethodName} {bytes : ByteArray} {maxL n ix fr1 lo1 mc1 ms1 : Nat} {ret : Option FieldType} {as st1 : List Value} {post : Option Value → ne_W → Prop} {px : String → ne_W → Prop} {q : Nat} (X : ne_F cl D ct A p l R s m args meth c own cc nL Ts fr lo mc ms) (hg : ∀ w ∈ Ts, goodWord w = true) (hM : ne_M l cl (.code y bytes maxL ret) Ts y fr1 lo1 mc1 ms1 (.ref q :: as) ws post px) (hr9 : ret = none) (hy : ne_cy y (.code y bytes maxL ret) n Ts) (hw1 : Cond.methodLink own ix y ∈ Ts) (hw2 : Cond.instanceMethod y ∈ Ts) (hy1 : y.name = "<init>") (hdg : decode cc pc = .ok (.invokespecial ix, 3)) (hst : st1 = as.reverse ++ .ref q :: st) (hlen : as.length = n) (hfr : fr1 + 1 ≤ fr) (hlo : 8 + (maxL + 11) + lo1 ≤ lo) (hC : mc1 ≤ C) (hS : ms1 ≤ S) (hn0 : n0 ≤ ws.length) (hl : ne_cl ws.length L = true) (hs : ne_cs ws.length st = true) (hcat : (st.map fun v => v.category).sum ≤ 8) (kk : ∀ (v : Option Value) (ws1 : ne_W), post v ws1 → ne_G cl D ct A n0 ad0 p l e R s m args below meth c Q nL mc ms (C - mc1) (S - ms1) (pc + 3) L (v.toList ++ st) ws1) (kx : ∀ (E : String) (ws1 : ne_W), px E ws1 → ne_T cl D ct A n0 ad0 p l e R s m args below meth c Q nL mc ms (C - mc1) (S - ms1) pc L E ws1) : ne_G cl D ct A n0 ad0 p l e R s m args below meth c Q nL mc ms C S pc L st1 ws := fun H locs cells slots ad ls h1 h2 h3 h4 h5 h6 h7 => by
  subst hst
  have e9 : (as.reverse ++ .ref q :: st).map (ne_v ad) = (as.map (ne_v ad)).reverse ++ .ref (ad q) :: st.map (ne_v ad) := by simp [List.map_append, List.map_reverse, ne_v]
  rw [e9]
  subst hr9
  have cw := cwI (R := R) (s := s) (args := args) (own := own) (index := ix) (y := y) (bytes := bytes) (maxL := maxL) (mc := mc1) (ms := ms1) (Ts := Ts) (ws := .code y bytes maxL none :: Ts) (ws' := Ts) (rm := { frames := fr1, cells := mc1, slots := ms1, locals := lo1 }) n X.1.2.2.2.2 (ne_gi hg (fun w hw => by
    rcases List.mem_cons.mp hw with rfl | hw
    · exact hy.1
    · exact hw)) rfl rfl rfl (X.1.2.2.2.2 _ hy.2.1) (X.1.2.2.2.2 _ hw1) (X.1.2.2.2.2 _ hw2) hy1 ⟨hy.2.2.1, hy.2.2.2.1, hy.2.2.2.2⟩ ⟨Nat.le_trans hfr X.2.2.2.1, Nat.le_trans hlo X.2.2.2.2.1⟩
  have hp := ne_pre (ls := ls) (av := .ref (ad q) :: as.map (ne_v ad)) X h4 h5 h6
  exact ne_after X (vx_runI (As := as.map (ne_v ad)) (b := ad q) (rest := st.map (ne_v ad)) X.1 (hM D ct ad H.size) cw hp rfl (by rw [List.length_map]; exact hlen) h7.1 rfl (by show 2 * 0 + _ ≤ 8; rw [ne_mcat]; omega) hdg ⟨by have := X.2.2.2.2.2.1; omega, by have := X.2.2.2.2.2.2.1; omega⟩) h1 h2 h3 h5 h6 h7 hC hS hn0 hl hs kk kx
theorem ne_callIN {y : MethodName} {bytes : ByteArray} {maxL n ix fr1 lo1 mc1 ms1 : Nat} {ret : Option FieldType} {as st1 : List Value} {post : Option Value → ne_W → Prop} {px : String → ne_W → Prop} {q : Nat} {host : String} (X : ne_F cl D ct A p l R s m args meth c own cc nL Ts fr lo mc ms) (hg : ∀ w ∈ Ts, goodWord w = true) (hM : ne_M l cl (.code y bytes maxL ret) Ts y fr1 lo1 mc1 ms1 (.ref q :: as) ws post px) (hr9 : ret = none) (hy : ne_cy y (.code y bytes maxL ret) n Ts) (hw1 : (own, ix, y, host) ∈ ne_nm) (hw2 : Cond.instanceMethod y ∈ Ts) (hy1 : y.name = "<init>") (hdg : decode cc pc = .ok (.invokespecial ix, 3)) (hst : st1 = as.reverse ++ .ref q :: st) (hlen : as.length = n) (hfr : fr1 + 1 ≤ fr) (hlo : 8 + (maxL + 11) + lo1 ≤ lo) (hC : mc1 ≤ C) (hS : ms1 ≤ S) (hn0 : n0 ≤ ws.length) (hl : ne_cl ws.length L = true) (hs : ne_cs ws.length st = true) (hcat : (st.map fun v => v.category).sum ≤ 8) (kk : ∀ (v : Option Value) (ws1 : ne_W), post v ws1 → ne_G cl D ct A n0 ad0 p l e R s m args below meth c Q nL mc ms (C - mc1) (S - ms1) (pc + 3) L (v.toList ++ st) ws1) (kx : ∀ (E : String) (ws1 : ne_W), px E ws1 → ne_T cl D ct A n0 ad0 p l e R s m args below meth c Q nL mc ms (C - mc1) (S - ms1) pc L E ws1) : ne_G cl D ct A n0 ad0 p l e R s m args below meth c Q nL mc ms C S pc L st1 ws := fun H locs cells slots ad ls h1 h2 h3 h4 h5 h6 h7 => by
  subst hst
  have e9 : (as.reverse ++ .ref q :: st).map (ne_v ad) = (as.map (ne_v ad)).reverse ++ .ref (ad q) :: st.map (ne_v ad) := by simp [List.map_append, List.map_reverse, ne_v]
  rw [e9]
  subst hr9
  have cw := va_cnB (R := R) (s := s) (args := args) (own := own) (host := host) (index := ix) (y := y) (bytes := bytes) (maxL := maxL) (mc := mc1) (ms := ms1) (ret := none) (Ts := Ts) (ws := .code y bytes maxL none :: Ts) (ws' := Ts) (rm := { frames := fr1, cells := mc1, slots := ms1, locals := lo1 }) n X.1.2.2.2.2 (ne_gi hg (fun w hw => by
    rcases List.mem_cons.mp hw with rfl | hw
    · exact hy.1
    · exact hw)) rfl rfl rfl (X.2.2.2.2.2.2.2.1.2.2.2.2.1 _ hw1) (X.1.2.2.2.2 _ hy.2.1) ⟨hy.2.2.1, hy.2.2.2.1, hy.2.2.2.2⟩ ⟨Nat.le_trans hfr X.2.2.2.1, Nat.le_trans hlo X.2.2.2.2.1⟩
  have hp := ne_pre (ls := ls) (av := .ref (ad q) :: as.map (ne_v ad)) X h4 h5 h6
  exact ne_after X (vx_runIN (As := as.map (ne_v ad)) (b := ad q) (rest := st.map (ne_v ad)) X.1 (hM D ct ad H.size) ⟨cw, hy1, X.1.2.2.2.2 _ hw2⟩ hp rfl (by rw [List.length_map]; exact hlen) h7.1 rfl (by show 2 * 0 + _ ≤ 8; rw [ne_mcat]; omega) hdg ⟨by have := X.2.2.2.2.2.1; omega, by have := X.2.2.2.2.2.2.1; omega⟩) h1 h2 h3 h5 h6 h7 hC hS hn0 hl hs kk kx
/-! ## ends -/
theorem ne_iret {z : Int32} {ty : FieldType} {post : Option Value → ne_W → Prop} {px : String → ne_W → Prop} (X : ne_F cl D ct A p l R s m args meth c own cc nL Ts fr lo mc ms) (hr : meth.sig.returnType = some ty) (hn : narrow ty (.int z) = .int z) (hdg : decode cc pc = .ok (.ireturn, 1)) (hp : post (some (.int z)) ws) : ne_G cl D ct A n0 ad0 p l e R s m args below meth c (ne_O cl D ct ad0 n0 A below args s mc ms post px) nL mc ms C S pc L [.int z] ws := fun H locs cells slots ad ls h1 h2 h3 h4 h5 h6 h7 =>
  W.widen (k := mc) (n := ms) (by omega) (by omega) (vx_ret (W.zret (v := z) X.1.1 X.1.2.1 hr hn (fun t ht hW => ⟨some (.int z), ws, ad, rfl, hp, h1, by rw [ht]; exact h4, h5, h6.F ht⟩) h6.2.2 hdg X.2.2.2.2.2.2.2.2.1))
theorem ne_lret {z : Int64} {post : Option Value → ne_W → Prop} {px : String → ne_W → Prop} (X : ne_F cl D ct A p l R s m args meth c own cc nL Ts fr lo mc ms) (hr : meth.sig.returnType = some .long) (hdg : decode cc pc = .ok (.lreturn, 1)) (hp : post (some (.long z)) ws) : ne_G cl D ct A n0 ad0 p l e R s m args below meth c (ne_O cl D ct ad0 n0 A below args s mc ms post px) nL mc ms C S pc L [.long z] ws := fun H locs cells slots ad ls h1 h2 h3 h4 h5 h6 h7 =>
  W.widen (k := mc) (n := ms) (by omega) (by omega) (vx_ret (W.lret (v := z) X.1.1 X.1.2.1 hr (fun t ht hW => ⟨some (.long z), ws, ad, rfl, hp, h1, by rw [ht]; exact h4, h5, h6.F ht⟩) h6.2.2 hdg X.2.2.2.2.2.2.2.2.1))
theorem ne_vret {post : Option Value → ne_W → Prop} {px : String → ne_W → Prop} (X : ne_F cl D ct A p l R s m args meth c own cc nL Ts fr lo mc ms) (hr : meth.sig.returnType = none) (hdg : decode cc pc = .ok (.return_, 1)) (hp : post none ws) : ne_G cl D ct A n0 ad0 p l e R s m args below meth c (ne_O cl D ct ad0 n0 A below args s mc ms post px) nL mc ms C S pc L [] ws := fun H locs cells slots ad ls h1 h2 h3 h4 h5 h6 h7 =>
  W.widen (k := mc) (n := ms) (by omega) (by omega) (vx_ret (W.vret X.1.1 X.1.2.1 hr (fun t ht hW => ⟨none, ws, ad, rfl, hp, h1, by rw [ht]; exact h4, h5, h6.F ht⟩) h6.2.2 hdg X.2.2.2.2.2.2.2.2.1))
theorem ne_aret {q : Nat} {rt : FieldType} {post : Option Value → ne_W → Prop} {px : String → ne_W → Prop} (X : ne_F cl D ct A p l R s m args meth c own cc nL Ts fr lo mc ms) (hr : meth.sig.returnType = some rt) (hrt : (∃ n, rt = .object n) ∨ ∃ t, rt = .array t) (hdg : decode cc pc = .ok (.areturn, 1)) (hp : post (some (.ref q)) ws) : ne_G cl D ct A n0 ad0 p l e R s m args below meth c (ne_O cl D ct ad0 n0 A below args s mc ms post px) nL mc ms C S pc L [.ref q] ws := fun H locs cells slots ad ls h1 h2 h3 h4 h5 h6 h7 =>
  W.widen (k := mc) (n := ms) (by omega) (by omega) (vx_ret (W.aret (v := .ref (ad q)) X.1.1 X.1.2.1 hr hrt (Or.inr ⟨_, rfl⟩) (fun t ht hW => ⟨some (.ref q), ws, ad, rfl, hp, h1, by rw [ht]; exact h4, h5, h6.F ht⟩) h6.2.2 hdg X.2.2.2.2.2.2.2.2.1))
theorem ne_aretN {rt : FieldType} {post : Option Value → ne_W → Prop} {px : String → ne_W → Prop} (X : ne_F cl D ct A p l R s m args meth c own cc nL Ts fr lo mc ms) (hr : meth.sig.returnType = some rt) (hrt : (∃ n, rt = .object n) ∨ ∃ t, rt = .array t) (hdg : decode cc pc = .ok (.areturn, 1)) (hp : post (some .null) ws) : ne_G cl D ct A n0 ad0 p l e R s m args below meth c (ne_O cl D ct ad0 n0 A below args s mc ms post px) nL mc ms C S pc L [.null] ws := fun H locs cells slots ad ls h1 h2 h3 h4 h5 h6 h7 =>
  W.widen (k := mc) (n := ms) (by omega) (by omega) (vx_ret (W.aret (v := .null) X.1.1 X.1.2.1 hr hrt (Or.inl rfl) (fun t ht hW => ⟨some .null, ws, ad, rfl, hp, h1, by rw [ht]; exact h4, h5, h6.F ht⟩) h6.2.2 hdg X.2.2.2.2.2.2.2.2.1))
/-- thrown over a frame without handlers: on to the caller -/
theorem ne_out {E : String} {post : Option Value → ne_W → Prop} {px : String → ne_W → Prop} (X : ne_F cl D ct A p l R s m args meth c own cc nL Ts fr lo mc ms) (ht : ∀ x ∈ c.exceptionTable.toList, False) (hp : px E ws) : ne_T cl D ct A n0 ad0 p l e R s m args below meth c (ne_O cl D ct ad0 n0 A below args s mc ms post px) nL mc ms C S pc L E ws := fun H locs cells slots ad ls rest q ce h1 h2 h3 h4 h5 h6 h7 h8 h9 h10 =>
  vx_out (fun x hx => (ht x hx).elim) X.2.2.2.2.2.2.2.2.1 h8 h9 h10 (fun t e1 _ => ⟨ws, ad, hp, h1, by rw [e1]; exact h4, h5, h6.F e1⟩) h6.2.2 (by omega) (by omega)
/-- 'throw new E(text)' -/
theorem ne_throw {cls text : String} {names : List String} {ik is ic : Nat} {post : Option Value → ne_W → Prop} {px : String → ne_W → Prop} (X : ne_F cl D ct A p l R s m args meth c own cc nL Ts fr lo mc ms) (hT9 : ∀ w ∈ Ts, w.before args s = true) (hcls : Bundle.fit cls = true) (hnames : ∀ n ∈ names, Bundle.fit n = true) (hk : Cond.classLink own ik cls ∈ Ts) (hini : Cond.initialized cls ∈ Ts) (hstr : (own, is, text) ∈ ne_sl) (hat : ∀ w ∈ (vx_atS own ic cls names).filter goodWord, w ∈ Ts) (hat2 : ∀ w ∈ (vx_atS own ic cls names).filter (fun w => !goodWord w), w ∈ Cond.classLink own ik cls :: [Cond.initialized cls])
    (hgood : ∀ w ∈ Cond.classLink own ik cls :: Cond.initialized cls :: vx_atS own ic cls names, vx_ot w = true) (ht : ∀ x ∈ c.exceptionTable.toList, False)
    (d0 : decode cc pc = .ok (.new ik, 3)) (d3 : decode cc (pc + 3) = .ok (.dup, 1)) (d4 : decode cc (pc + 4) = .ok (.ldc is, 2)) (d6 : decode cc (pc + 6) = .ok (.invokespecial ic, 3)) (d9 : decode cc (pc + 9) = .ok (.athrow, 1))
    (hfr : names.length + 3 < fr) (hlo : (st.map fun v => v.category).sum + (13 * (names.length + 1) + 43) ≤ lo) (hC : 1 ≤ C) (hS : 6 ≤ S) (hp : px cls ws) : ne_G cl D ct A n0 ad0 p l e R s m args below meth c (ne_O cl D ct ad0 n0 A below args s mc ms post px) nL mc ms C S pc L st ws := fun H locs cells slots ad ls h1 h2 h3 h4 h5 h6 h7 => by
  obtain ⟨sa, hsa⟩ := X.2.2.2.2.2.2.2.1.2.2.2.1 _ hstr
  refine vx_throwS X.1.1 X.1.2.1 X.2.2.2.2.2.2.2.2.2 X.1.2.2.2.1 hcls hnames (hT9 _ hk) (hT9 _ hini) hsa (vx_hat (fun w hw => hT9 _ (hat w hw)) hat2 (vx_c (hT9 _ hk) (vx_c (hT9 _ hini) vx_n))) hgood X.2.2.2.2.2.2.2.1.1 X.2.2.2.2.2.2.2.1.2.1 h6 (by rw [X.1.2.2.1]; exact h7.1) d0 d3 d4 d6 d9 (fun x hx => (ht x hx).elim) (Nat.lt_of_lt_of_le hfr X.2.2.2.1) (by rw [ne_mcat]; exact Nat.le_trans hlo X.2.2.2.2.1) (by have := X.2.2.2.2.2.1; omega) (by have := X.2.2.2.2.2.2.1; omega) X.2.2.2.2.2.2.2.2.1 ?_ h6.2.2 (by omega) (by omega)
  intro t _ hz hq
  exact ⟨ws, ad, hp, h1, h4.kept (fun k q hk => hq _ (h4 k q hk).lt), h5, Nat.le_trans h6.1 hz, fun q h8 h9 => (hq q (Nat.lt_of_lt_of_le h8 h6.1)).trans (h6.2.1 q h8 h9)⟩
/-- a method's contract out of its body -/
theorem ne_meet {cl : List vw_C} {l : Launch} {y : MethodName} {own : String} {bytes : ByteArray} {maxL fr lo mc ms : Nat} {ret : Option FieldType} {Ts : List Cond} {as : List Value} {ws : ne_W} {post : Option Value → ne_W → Prop} {px : String → ne_W → Prop} (hl : l.stackTraces = false) (ho : y.cls = own) (hy : plainName y.cls = true) (hlen : (ne_a as).length ≤ maxL)
    (body : ∀ (D : va_G) (ct : Nat → ClassId) (A : Nat → Prop) (p : Program) (e : Env) (R : Room) (s : State) (m : MethodId) (args : Array Value) (below : List Frame) (meth : Method) (c : Code) (ad0 : Nat → Nat), ne_F cl D ct A p l R s m args meth c own bytes maxL Ts fr lo mc ms → meth.sig.returnType = ret → meth.name = y.name → (∀ x ∈ c.exceptionTable.toList, False) →
      ne_G cl D ct A ws.length ad0 p l e R s m args below meth c (ne_O cl D ct ad0 ws.length A below args s mc ms post px) maxL mc ms mc ms 0 (ne_a as ++ List.replicate (maxL - (ne_a as).length) none) [] ws) : ne_M l cl (.code y bytes maxL ret) Ts y fr lo mc ms as ws post px := by
  intro D ct ad sz
  refine vx_ofW (cc := bytes) (maxL := maxL) (ret := ret) (ws' := Ts) hy rfl ?_
  intro p e s m args below meth c s₁ B hml ht hv
  obtain ⟨rfl, hsz, hP, hK, hD0, hZ⟩ := hv
  subst hsz
  have hts := atoms_spec (ws := Cond.code y bytes maxL ret :: Ts) B.pre
  have hown : s.vm.findClass own = some m.cls := by rw [← ho]; exact findClass_of_methodNamed B.named
  have hD := hD0.self (sz := s.heap.size)
  have hin : meth.name = y.name := (name_of_methodNamed B.named B.method).1
  have hlsl : ∀ vs : List Value, (lg_sl (vs.map (ne_v ad))).length = (ne_a vs).length := by
    intro vs
    induction vs with
    | nil => rfl
    | cons v t ih =>
      have e9 : ∀ (w : Value) (t' : List Value), lg_sl (w :: t') = (if w.category = 2 then [Slot.val w, Slot.second] else [Slot.val w]) ++ lg_sl t' := fun w t' => by simp [lg_sl]
      rw [ne_a, List.map_cons, e9, List.length_append, ih, ne_v_cat]
      by_cases h : v.category = 2
      · rw [if_pos h, if_pos h]; simp only [List.length_cons, List.length_nil]; omega
      · rw [if_neg h, if_neg h]; simp only [List.length_cons, List.length_nil]; omega
  have h9 := lv_entry (as.map (ne_v ad)) (n := maxL) (by rw [hlsl]; exact hlen)
  rw [lg_entry_eq]
  refine body D ct (va_A (ne_w ct ad 0 ws) s.heap.size) p e _ s m _ below meth c ad ⟨⟨B.exec, B.bytes, hml, hown, fun w hw => hts w (List.mem_cons_of_mem _ hw)⟩, hK, fun q hq => Or.inr hq, Nat.le_refl _, Nat.le_refl _, Nat.le_refl _, Nat.le_refl _, hZ, B.notSynchronized, hl⟩ B.returns hin ht s.heap [] 0 0 ad _ (fun _ _ => rfl) (by omega) (by omega) hP hD va_S.rf ?_
  rw [ne_l_pad, ne_a_args]
  exact h9
end NEC
end
section
def RX0 : String := "Ninewheel$LongNumber"
def TX0 : u_T := fun k => match k with
  | _ => ("Ninewheel$LongNumber", "row", "[I", true)
def tyX0 : Nat → FieldType := fun k => match k with
  | _ => .array .int
abbrev wsX00 : List Cond := u_ws RX0 TX0 1
theorem nmX0 : ∀ a, a < 1 → ∀ b, b < 1 → a ≠ b → (TX0 a).2.1 ≠ (TX0 b).2.1 := by decide +kernel
theorem tyX0_ok : ∀ k, k < 1 → parseFieldDescriptor (TX0 k).2.2.1 = some (tyX0 k) := by decide +kernel
abbrev cX0_init : ByteArray := prog_2_method_1_code
def yX0_init : MethodName := ⟨RX0, "<init>", "()V"⟩
abbrev cX0_clear : ByteArray := prog_2_method_2_code
def yX0_clear : MethodName := ⟨RX0, "clear", "()V"⟩
abbrev cX0_raise : ByteArray := prog_2_method_3_code
def yX0_raise : MethodName := ⟨RX0, "raise", "(II)V"⟩
abbrev cX0_carry : ByteArray := prog_2_method_4_code
def yX0_carry : MethodName := ⟨RX0, "carry", "()V"⟩
abbrev cX0_becomeNines : ByteArray := prog_2_method_5_code
def yX0_becomeNines : MethodName := ⟨RX0, "becomeNines", "(II)V"⟩
abbrev cX0_isLike : ByteArray := prog_2_method_6_code
def yX0_isLike : MethodName := ⟨RX0, "isLike", "(LNinewheel$LongNumber;)Z"⟩
abbrev cX0_written : ByteArray := prog_2_method_7_code
def yX0_written : MethodName := ⟨RX0, "written", "()Ljava/lang/String;"⟩
def RX1 : String := "Ninewheel"
def TX1 : u_T := fun k => match k with
  | 0 => ("Ninewheel", "counts", "[I", true)
  | 1 => ("Ninewheel", "points", "[I", true)
  | 2 => ("Ninewheel", "tops", "[I", true)
  | 3 => ("Ninewheel", "bottoms", "[I", true)
  | 4 => ("Ninewheel", "turned", "[I", true)
  | 5 => ("Ninewheel", "lengths", "[I", true)
  | 6 => ("Ninewheel", "tallies", "[I", true)
  | 7 => ("Ninewheel", "work", "LNinewheel$LongNumber;", true)
  | _ => ("Ninewheel", "measure", "LNinewheel$LongNumber;", true)
def tyX1 : Nat → FieldType := fun k => match k with
  | 0 => .array .int
  | 1 => .array .int
  | 2 => .array .int
  | 3 => .array .int
  | 4 => .array .int
  | 5 => .array .int
  | 6 => .array .int
  | 7 => .object "Ninewheel$LongNumber"
  | _ => .object "Ninewheel$LongNumber"
abbrev wsX10 : List Cond := u_ws RX1 TX1 9
theorem nmX1 : ∀ a, a < 9 → ∀ b, b < 9 → a ≠ b → (TX1 a).2.1 ≠ (TX1 b).2.1 := by decide +kernel
theorem tyX1_ok : ∀ k, k < 9 → parseFieldDescriptor (TX1 k).2.2.1 = some (tyX1 k) := by decide +kernel
abbrev cX1_init : ByteArray := prog_1_method_1_code
def yX1_init : MethodName := ⟨RX1, "<init>", "()V"⟩
abbrev cX1_put : ByteArray := prog_1_method_2_code
def yX1_put : MethodName := ⟨RX1, "put", "(III)I"⟩
abbrev cX1_write : ByteArray := prog_1_method_3_code
def yX1_write : MethodName := ⟨RX1, "write", "(IZIII)I"⟩
abbrev cX1_copy : ByteArray := prog_1_method_4_code
def yX1_copy : MethodName := ⟨RX1, "copy", "(II)I"⟩
abbrev cX1_negate : ByteArray := prog_1_method_5_code
def yX1_negate : MethodName := ⟨RX1, "negate", "(I)I"⟩
abbrev cX1_size : ByteArray := prog_1_method_6_code
def yX1_size : MethodName := ⟨RX1, "size", "(I)I"⟩
abbrev cX1_add : ByteArray := prog_1_method_7_code
def yX1_add : MethodName := ⟨RX1, "add", "(III)I"⟩
abbrev cX1_subtract : ByteArray := prog_1_method_8_code
def yX1_subtract : MethodName := ⟨RX1, "subtract", "(III)I"⟩
abbrev cX1_multiply : ByteArray := prog_1_method_9_code
def yX1_multiply : MethodName := ⟨RX1, "multiply", "(III)I"⟩
abbrev cX1_power : ByteArray := prog_1_method_10_code
def yX1_power : MethodName := ⟨RX1, "power", "(III)I"⟩
abbrev cX1_divide : ByteArray := prog_1_method_11_code
def yX1_divide : MethodName := ⟨RX1, "divide", "(IIIII)I"⟩
abbrev cX1_share : ByteArray := prog_1_method_12_code
def yX1_share : MethodName := ⟨RX1, "share", "(III)I"⟩
abbrev cX1_whole : ByteArray := prog_1_method_13_code
def yX1_whole : MethodName := ⟨RX1, "whole", "(III)I"⟩
abbrev cX1_rest : ByteArray := prog_1_method_14_code
def yX1_rest : MethodName := ⟨RX1, "rest", "(III)I"⟩
abbrev cX1_setPlaces : ByteArray := prog_1_method_15_code
def yX1_setPlaces : MethodName := ⟨RX1, "setPlaces", "(III)I"⟩
abbrev cX1_strip : ByteArray := prog_1_method_16_code
def yX1_strip : MethodName := ⟨RX1, "strip", "(I)I"⟩
abbrev cX1_move : ByteArray := prog_1_method_17_code
def yX1_move : MethodName := ⟨RX1, "move", "(II)I"⟩
abbrev cX1_round : ByteArray := prog_1_method_18_code
def yX1_round : MethodName := ⟨RX1, "round", "(III)I"⟩
abbrev cX1_greater : ByteArray := prog_1_method_19_code
def yX1_greater : MethodName := ⟨RX1, "greater", "(III)I"⟩
abbrev cX1_lesser : ByteArray := prog_1_method_20_code
def yX1_lesser : MethodName := ⟨RX1, "lesser", "(III)I"⟩
abbrev cX1_cut : ByteArray := prog_1_method_21_code
def yX1_cut : MethodName := ⟨RX1, "cut", "(IZIII)I"⟩
abbrev cX1_count : ByteArray := prog_1_method_22_code
def yX1_count : MethodName := ⟨RX1, "count", "(I)I"⟩
abbrev cX1_places : ByteArray := prog_1_method_23_code
def yX1_places : MethodName := ⟨RX1, "places", "(I)I"⟩
abbrev cX1_digits : ByteArray := prog_1_method_24_code
def yX1_digits : MethodName := ⟨RX1, "digits", "(I)I"⟩
abbrev cX1_sign : ByteArray := prog_1_method_25_code
def yX1_sign : MethodName := ⟨RX1, "sign", "(I)I"⟩
abbrev cX1_text : ByteArray := prog_1_method_26_code
def yX1_text : MethodName := ⟨RX1, "text", "(II)Ljava/lang/String;"⟩
abbrev cX1_order : ByteArray := prog_1_method_27_code
def yX1_order : MethodName := ⟨RX1, "order", "(II)I"⟩
abbrev cX1_same : ByteArray := prog_1_method_28_code
def yX1_same : MethodName := ⟨RX1, "same", "(II)Z"⟩
abbrev cX1_setWheel : ByteArray := prog_1_method_29_code
def yX1_setWheel : MethodName := ⟨RX1, "setWheel", "(III)I"⟩
abbrev cX1_step : ByteArray := prog_1_method_30_code
def yX1_step : MethodName := ⟨RX1, "step", "(I)I"⟩
abbrev cX1_turn : ByteArray := prog_1_method_31_code
def yX1_turn : MethodName := ⟨RX1, "turn", "(II)I"⟩
abbrev cX1_times : ByteArray := prog_1_method_32_code
def yX1_times : MethodName := ⟨RX1, "times", "(III)I"⟩
abbrev cX1_spoke : ByteArray := prog_1_method_33_code
def yX1_spoke : MethodName := ⟨RX1, "spoke", "(II)I"⟩
abbrev cX1_lowest : ByteArray := prog_1_method_34_code
def yX1_lowest : MethodName := ⟨RX1, "lowest", "(I)I"⟩
abbrev cX1_tens : ByteArray := prog_1_method_35_code
def yX1_tens : MethodName := ⟨RX1, "tens", "(I)I"⟩
abbrev cX1_restAt : ByteArray := prog_1_method_36_code
def yX1_restAt : MethodName := ⟨RX1, "restAt", "(II)I"⟩
abbrev cX1_digitsFrom : ByteArray := prog_1_method_37_code
def yX1_digitsFrom : MethodName := ⟨RX1, "digitsFrom", "(III)Ljava/lang/String;"⟩
abbrev cX1_cutText : ByteArray := prog_1_method_38_code
def yX1_cutText : MethodName := ⟨RX1, "cutText", "(IZII)Ljava/lang/String;"⟩
abbrev cX1_number : ByteArray := prog_1_method_39_code
def yX1_number : MethodName := ⟨RX1, "number", "(I)Ljava/lang/String;"⟩
abbrev cX1_product : ByteArray := prog_1_method_40_code
def yX1_product : MethodName := ⟨RX1, "product", "(I)Ljava/lang/String;"⟩
abbrev cX1_partSum : ByteArray := prog_1_method_41_code
def yX1_partSum : MethodName := ⟨RX1, "partSum", "(II)Ljava/lang/String;"⟩
abbrev cX1_nines : ByteArray := prog_1_method_42_code
def yX1_nines : MethodName := ⟨RX1, "nines", "(II)I"⟩
abbrev cX1_placeOf : ByteArray := prog_1_method_43_code
def yX1_placeOf : MethodName := ⟨RX1, "placeOf", "(II)I"⟩
abbrev cX1_wheelOrder : ByteArray := prog_1_method_44_code
def yX1_wheelOrder : MethodName := ⟨RX1, "wheelOrder", "(II)I"⟩
abbrev cX1_against : ByteArray := prog_1_method_45_code
def yX1_against : MethodName := ⟨RX1, "against", "(II)I"⟩
abbrev cX1_house : ByteArray := prog_1_method_46_code
def yX1_house : MethodName := ⟨RX1, "house", "(I)I"⟩
abbrev cX1_knock : ByteArray := prog_1_method_47_code
def yX1_knock : MethodName := ⟨RX1, "knock", "()I"⟩
abbrev cX1_isSound : ByteArray := prog_1_method_48_code
def yX1_isSound : MethodName := ⟨RX1, "isSound", "()Z"⟩
abbrev cX1_digest : ByteArray := prog_1_method_49_code
def yX1_digest : MethodName := ⟨RX1, "digest", "()J"⟩
abbrev cX1_requireCell : ByteArray := prog_1_method_50_code
def yX1_requireCell : MethodName := ⟨RX1, "requireCell", "(I)V"⟩
abbrev cX1_requireWheel : ByteArray := prog_1_method_51_code
def yX1_requireWheel : MethodName := ⟨RX1, "requireWheel", "(I)V"⟩
abbrev cX1_requireBetween : ByteArray := prog_1_method_52_code
def yX1_requireBetween : MethodName := ⟨RX1, "requireBetween", "(IJJ)V"⟩
abbrev cX1_requireWay : ByteArray := prog_1_method_53_code
def yX1_requireWay : MethodName := ⟨RX1, "requireWay", "(I)V"⟩
abbrev cX1_requireBottom : ByteArray := prog_1_method_54_code
def yX1_requireBottom : MethodName := ⟨RX1, "requireBottom", "(I)V"⟩
abbrev cX1_fits : ByteArray := prog_1_method_55_code
def yX1_fits : MethodName := ⟨RX1, "fits", "(JI)Z"⟩
abbrev cX1_bring : ByteArray := prog_1_method_56_code
def yX1_bring : MethodName := ⟨RX1, "bring", "(IJI)I"⟩
abbrev cX1_bringAt : ByteArray := prog_1_method_57_code
def yX1_bringAt : MethodName := ⟨RX1, "bringAt", "(IJI)I"⟩
abbrev cX1_decline : ByteArray := prog_1_method_58_code
def yX1_decline : MethodName := ⟨RX1, "decline", "()I"⟩
abbrev cX1_countAt : ByteArray := prog_1_method_59_code
def yX1_countAt : MethodName := ⟨RX1, "countAt", "(II)J"⟩
abbrev cX1_orderOfCells : ByteArray := prog_1_method_60_code
def yX1_orderOfCells : MethodName := ⟨RX1, "orderOfCells", "(II)I"⟩
abbrev cX1_areSame : ByteArray := prog_1_method_61_code
def yX1_areSame : MethodName := ⟨RX1, "areSame", "(II)Z"⟩
abbrev cX1_signOf : ByteArray := prog_1_method_62_code
def yX1_signOf : MethodName := ⟨RX1, "signOf", "(J)I"⟩
abbrev cX1_tenTo : ByteArray := prog_1_method_63_code
def yX1_tenTo : MethodName := ⟨RX1, "tenTo", "(I)J"⟩
abbrev cX1_digitsIn : ByteArray := prog_1_method_64_code
def yX1_digitsIn : MethodName := ⟨RX1, "digitsIn", "(J)I"⟩
abbrev cX1_decimalText : ByteArray := prog_1_method_65_code
def yX1_decimalText : MethodName := ⟨RX1, "decimalText", "(JI)Ljava/lang/String;"⟩
abbrev cX1_signOfDigit : ByteArray := prog_1_method_66_code
def yX1_signOfDigit : MethodName := ⟨RX1, "signOfDigit", "(I)C"⟩
abbrev cX1_rounded : ByteArray := prog_1_method_67_code
def yX1_rounded : MethodName := ⟨RX1, "rounded", "(JJI)J"⟩
abbrev cX1_isFartherTaken : ByteArray := prog_1_method_68_code
def yX1_isFartherTaken : MethodName := ⟨RX1, "isFartherTaken", "(JJII)Z"⟩
abbrev cX1_cutCount : ByteArray := prog_1_method_69_code
def yX1_cutCount : MethodName := ⟨RX1, "cutCount", "(IZII)J"⟩
abbrev cX1_leftover : ByteArray := prog_1_method_70_code
def yX1_leftover : MethodName := ⟨RX1, "leftover", "(II)I"⟩
abbrev cX1_restAfter : ByteArray := prog_1_method_71_code
def yX1_restAfter : MethodName := ⟨RX1, "restAfter", "(II)I"⟩
abbrev cX1_digitAfter : ByteArray := prog_1_method_72_code
def yX1_digitAfter : MethodName := ⟨RX1, "digitAfter", "(II)I"⟩
abbrev cX1_lengthOf : ByteArray := prog_1_method_73_code
def yX1_lengthOf : MethodName := ⟨RX1, "lengthOf", "(II)I"⟩
abbrev cX1_restOfPlace : ByteArray := prog_1_method_74_code
def yX1_restOfPlace : MethodName := ⟨RX1, "restOfPlace", "(II)I"⟩
abbrev cX1_bringWheel : ByteArray := prog_1_method_75_code
def yX1_bringWheel : MethodName := ⟨RX1, "bringWheel", "(III)V"⟩
abbrev cX1_turnBy : ByteArray := prog_1_method_76_code
def yX1_turnBy : MethodName := ⟨RX1, "turnBy", "(II)V"⟩
abbrev cX1_spokeOf : ByteArray := prog_1_method_77_code
def yX1_spokeOf : MethodName := ⟨RX1, "spokeOf", "(II)I"⟩
abbrev cX1_digitText : ByteArray := prog_1_method_78_code
def yX1_digitText : MethodName := ⟨RX1, "digitText", "(III)Ljava/lang/String;"⟩
abbrev cX1_orderOfWheels : ByteArray := prog_1_method_79_code
def yX1_orderOfWheels : MethodName := ⟨RX1, "orderOfWheels", "(II)I"⟩
abbrev cX1_orderAgainst : ByteArray := prog_1_method_80_code
def yX1_orderAgainst : MethodName := ⟨RX1, "orderAgainst", "(II)I"⟩
abbrev cX1_workOutProduct : ByteArray := prog_1_method_81_code
def yX1_workOutProduct : MethodName := ⟨RX1, "workOutProduct", "(I)V"⟩
abbrev cX1_hasParts : ByteArray := prog_1_method_82_code
def yX1_hasParts : MethodName := ⟨RX1, "hasParts", "(II)Z"⟩
abbrev cX1_partLength : ByteArray := prog_1_method_83_code
def yX1_partLength : MethodName := ⟨RX1, "partLength", "(II)I"⟩
abbrev cX1_workOutPartSum : ByteArray := prog_1_method_84_code
def yX1_workOutPartSum : MethodName := ⟨RX1, "workOutPartSum", "(II)V"⟩
abbrev cX1_ninesOf : ByteArray := prog_1_method_85_code
def yX1_ninesOf : MethodName := ⟨RX1, "ninesOf", "(II)I"⟩
abbrev cX1_isCellSoundWithAll : ByteArray := prog_1_method_86_code
def yX1_isCellSoundWithAll : MethodName := ⟨RX1, "isCellSoundWithAll", "(I)Z"⟩
abbrev cX1_isLengthSound : ByteArray := prog_1_method_87_code
def yX1_isLengthSound : MethodName := ⟨RX1, "isLengthSound", "(I)Z"⟩
abbrev cX1_isProductSound : ByteArray := prog_1_method_88_code
def yX1_isProductSound : MethodName := ⟨RX1, "isProductSound", "(I)Z"⟩
abbrev cX1_isCutSound : ByteArray := prog_1_method_89_code
def yX1_isCutSound : MethodName := ⟨RX1, "isCutSound", "(I)Z"⟩
abbrev cX1_joined : ByteArray := prog_1_method_90_code
def yX1_joined : MethodName := ⟨RX1, "joined", "(JJ)J"⟩
abbrev cX1_digestOfCells : ByteArray := prog_1_method_91_code
def yX1_digestOfCells : MethodName := ⟨RX1, "digestOfCells", "(J)J"⟩
abbrev cX1_digestOfWheels : ByteArray := prog_1_method_92_code
def yX1_digestOfWheels : MethodName := ⟨RX1, "digestOfWheels", "(J)J"⟩
abbrev cX1_digestOfWheel : ByteArray := prog_1_method_93_code
def yX1_digestOfWheel : MethodName := ⟨RX1, "digestOfWheel", "(IJ)J"⟩
def RX2 : String := "NinewheelLaw$Out"
def TX2 : u_T := fun k => match k with
  | 0 => ("NinewheelLaw$Out", "n", "J", false)
  | _ => ("NinewheelLaw$Out", "s", "Ljava/lang/String;", false)
def tyX2 : Nat → FieldType := fun k => match k with
  | 0 => .long
  | _ => .object "java/lang/String"
abbrev wsX20 : List Cond := u_ws RX2 TX2 2
theorem nmX2 : ∀ a, a < 2 → ∀ b, b < 2 → a ≠ b → (TX2 a).2.1 ≠ (TX2 b).2.1 := by decide +kernel
theorem tyX2_ok : ∀ k, k < 2 → parseFieldDescriptor (TX2 k).2.2.1 = some (tyX2 k) := by decide +kernel
abbrev cX2_init : ByteArray := prog_4_method_1_code
def yX2_init : MethodName := ⟨RX2, "<init>", "()V"⟩
def RX3 : String := "NinewheelModel"
def TX3 : u_T := fun k => match k with
  | 0 => ("NinewheelModel", "counts", "[I", true)
  | 1 => ("NinewheelModel", "points", "[I", true)
  | 2 => ("NinewheelModel", "tops", "[I", true)
  | 3 => ("NinewheelModel", "bottoms", "[I", true)
  | 4 => ("NinewheelModel", "stands", "[I", true)
  | 5 => ("NinewheelModel", "house", "[I", true)
  | _ => ("NinewheelModel", "thrown", "I", false)
def tyX3 : Nat → FieldType := fun k => match k with
  | 0 => .array .int
  | 1 => .array .int
  | 2 => .array .int
  | 3 => .array .int
  | 4 => .array .int
  | 5 => .array .int
  | _ => .int
abbrev wsX30 : List Cond := u_ws RX3 TX3 7
theorem nmX3 : ∀ a, a < 7 → ∀ b, b < 7 → a ≠ b → (TX3 a).2.1 ≠ (TX3 b).2.1 := by decide +kernel
theorem tyX3_ok : ∀ k, k < 7 → parseFieldDescriptor (TX3 k).2.2.1 = some (tyX3 k) := by decide +kernel
abbrev cX3_init : ByteArray := prog_5_method_1_code
def yX3_init : MethodName := ⟨RX3, "<init>", "()V"⟩
abbrev cX3_thrown : ByteArray := prog_5_method_2_code
def yX3_thrown : MethodName := ⟨RX3, "thrown", "()I"⟩
abbrev cX3_refuse : ByteArray := prog_5_method_3_code
def yX3_refuse : MethodName := ⟨RX3, "refuse", "(ZZ)Z"⟩
abbrev cX3_isOut : ByteArray := prog_5_method_4_code
def yX3_isOut : MethodName := ⟨RX3, "isOut", "(III)Z"⟩
abbrev cX3_isNoCell : ByteArray := prog_5_method_5_code
def yX3_isNoCell : MethodName := ⟨RX3, "isNoCell", "(I)Z"⟩
abbrev cX3_isNoWheel : ByteArray := prog_5_method_6_code
def yX3_isNoWheel : MethodName := ⟨RX3, "isNoWheel", "(I)Z"⟩
abbrev cX3_isNoCut : ByteArray := prog_5_method_7_code
def yX3_isNoCut : MethodName := ⟨RX3, "isNoCut", "(III)Z"⟩
abbrev cX3_isNoBottom : ByteArray := prog_5_method_8_code
def yX3_isNoBottom : MethodName := ⟨RX3, "isNoBottom", "(I)Z"⟩
abbrev cX3_ten : ByteArray := prog_5_method_9_code
def yX3_ten : MethodName := ⟨RX3, "ten", "(I)J"⟩
abbrev cX3_side : ByteArray := prog_5_method_10_code
def yX3_side : MethodName := ⟨RX3, "side", "(JJ)I"⟩
abbrev cX3_sizeOf : ByteArray := prog_5_method_11_code
def yX3_sizeOf : MethodName := ⟨RX3, "sizeOf", "(J)J"⟩
abbrev cX3_digitsOf : ByteArray := prog_5_method_12_code
def yX3_digitsOf : MethodName := ⟨RX3, "digitsOf", "(J)I"⟩
abbrev cX3_rounded : ByteArray := prog_5_method_13_code
def yX3_rounded : MethodName := ⟨RX3, "rounded", "(JJI)J"⟩
abbrev cX3_nay : ByteArray := prog_5_method_14_code
def yX3_nay : MethodName := ⟨RX3, "nay", "()I"⟩
abbrev cX3_come : ByteArray := prog_5_method_15_code
def yX3_come : MethodName := ⟨RX3, "come", "(IJI)I"⟩
abbrev cX3_units : ByteArray := prog_5_method_16_code
def yX3_units : MethodName := ⟨RX3, "units", "(II)J"⟩
abbrev cX3_most : ByteArray := prog_5_method_17_code
def yX3_most : MethodName := ⟨RX3, "most", "(II)I"⟩
abbrev cX3_ordered : ByteArray := prog_5_method_18_code
def yX3_ordered : MethodName := ⟨RX3, "ordered", "(II)I"⟩
abbrev cX3_put : ByteArray := prog_5_method_19_code
def yX3_put : MethodName := ⟨RX3, "put", "(III)I"⟩
abbrev cX3_write : ByteArray := prog_5_method_20_code
def yX3_write : MethodName := ⟨RX3, "write", "(IZIII)I"⟩
abbrev cX3_copy : ByteArray := prog_5_method_21_code
def yX3_copy : MethodName := ⟨RX3, "copy", "(II)I"⟩
abbrev cX3_negate : ByteArray := prog_5_method_22_code
def yX3_negate : MethodName := ⟨RX3, "negate", "(I)I"⟩
abbrev cX3_size : ByteArray := prog_5_method_23_code
def yX3_size : MethodName := ⟨RX3, "size", "(I)I"⟩
abbrev cX3_areNoCells : ByteArray := prog_5_method_24_code
def yX3_areNoCells : MethodName := ⟨RX3, "areNoCells", "(III)Z"⟩
abbrev cX3_add : ByteArray := prog_5_method_25_code
def yX3_add : MethodName := ⟨RX3, "add", "(III)I"⟩
abbrev cX3_subtract : ByteArray := prog_5_method_26_code
def yX3_subtract : MethodName := ⟨RX3, "subtract", "(III)I"⟩
abbrev cX3_multiply : ByteArray := prog_5_method_27_code
def yX3_multiply : MethodName := ⟨RX3, "multiply", "(III)I"⟩
abbrev cX3_power : ByteArray := prog_5_method_28_code
def yX3_power : MethodName := ⟨RX3, "power", "(III)I"⟩
abbrev cX3_divide : ByteArray := prog_5_method_29_code
def yX3_divide : MethodName := ⟨RX3, "divide", "(IIIII)I"⟩
abbrev cX3_share : ByteArray := prog_5_method_30_code
def yX3_share : MethodName := ⟨RX3, "share", "(III)I"⟩
abbrev cX3_wholeOf : ByteArray := prog_5_method_31_code
def yX3_wholeOf : MethodName := ⟨RX3, "wholeOf", "(II)J"⟩
abbrev cX3_whole : ByteArray := prog_5_method_32_code
def yX3_whole : MethodName := ⟨RX3, "whole", "(III)I"⟩
abbrev cX3_rest : ByteArray := prog_5_method_33_code
def yX3_rest : MethodName := ⟨RX3, "rest", "(III)I"⟩
abbrev cX3_setPlaces : ByteArray := prog_5_method_34_code
def yX3_setPlaces : MethodName := ⟨RX3, "setPlaces", "(III)I"⟩
abbrev cX3_strip : ByteArray := prog_5_method_35_code
def yX3_strip : MethodName := ⟨RX3, "strip", "(I)I"⟩
abbrev cX3_move : ByteArray := prog_5_method_36_code
def yX3_move : MethodName := ⟨RX3, "move", "(II)I"⟩
abbrev cX3_round : ByteArray := prog_5_method_37_code
def yX3_round : MethodName := ⟨RX3, "round", "(III)I"⟩
abbrev cX3_greater : ByteArray := prog_5_method_38_code
def yX3_greater : MethodName := ⟨RX3, "greater", "(III)I"⟩
abbrev cX3_lesser : ByteArray := prog_5_method_39_code
def yX3_lesser : MethodName := ⟨RX3, "lesser", "(III)I"⟩
abbrev cX3_cutOf : ByteArray := prog_5_method_40_code
def yX3_cutOf : MethodName := ⟨RX3, "cutOf", "(IZII)J"⟩
abbrev cX3_cut : ByteArray := prog_5_method_41_code
def yX3_cut : MethodName := ⟨RX3, "cut", "(IZIII)I"⟩
abbrev cX3_count : ByteArray := prog_5_method_42_code
def yX3_count : MethodName := ⟨RX3, "count", "(I)I"⟩
abbrev cX3_places : ByteArray := prog_5_method_43_code
def yX3_places : MethodName := ⟨RX3, "places", "(I)I"⟩
abbrev cX3_digits : ByteArray := prog_5_method_44_code
def yX3_digits : MethodName := ⟨RX3, "digits", "(I)I"⟩
abbrev cX3_sign : ByteArray := prog_5_method_45_code
def yX3_sign : MethodName := ⟨RX3, "sign", "(I)I"⟩
abbrev cX3_textOf : ByteArray := prog_5_method_46_code
def yX3_textOf : MethodName := ⟨RX3, "textOf", "(JI)Ljava/lang/String;"⟩
abbrev cX3_text : ByteArray := prog_5_method_47_code
def yX3_text : MethodName := ⟨RX3, "text", "(II)Ljava/lang/String;"⟩
abbrev cX3_order : ByteArray := prog_5_method_48_code
def yX3_order : MethodName := ⟨RX3, "order", "(II)I"⟩
abbrev cX3_areSame : ByteArray := prog_5_method_49_code
def yX3_areSame : MethodName := ⟨RX3, "areSame", "(II)Z"⟩
abbrev cX3_same : ByteArray := prog_5_method_50_code
def yX3_same : MethodName := ⟨RX3, "same", "(II)Z"⟩
abbrev cX3_restOf : ByteArray := prog_5_method_51_code
def yX3_restOf : MethodName := ⟨RX3, "restOf", "(III)I"⟩
abbrev cX3_lengthOf : ByteArray := prog_5_method_52_code
def yX3_lengthOf : MethodName := ⟨RX3, "lengthOf", "(II)I"⟩
abbrev cX3_lengthOf_ : ByteArray := prog_5_method_53_code
def yX3_lengthOf_ : MethodName := ⟨RX3, "lengthOf", "(I)I"⟩
abbrev cX3_set : ByteArray := prog_5_method_54_code
def yX3_set : MethodName := ⟨RX3, "set", "(III)V"⟩
abbrev cX3_setWheel : ByteArray := prog_5_method_55_code
def yX3_setWheel : MethodName := ⟨RX3, "setWheel", "(III)I"⟩
abbrev cX3_step : ByteArray := prog_5_method_56_code
def yX3_step : MethodName := ⟨RX3, "step", "(I)I"⟩
abbrev cX3_turn : ByteArray := prog_5_method_57_code
def yX3_turn : MethodName := ⟨RX3, "turn", "(II)I"⟩
abbrev cX3_times : ByteArray := prog_5_method_58_code
def yX3_times : MethodName := ⟨RX3, "times", "(III)I"⟩
abbrev cX3_spokeOf : ByteArray := prog_5_method_59_code
def yX3_spokeOf : MethodName := ⟨RX3, "spokeOf", "(II)I"⟩
abbrev cX3_spoke : ByteArray := prog_5_method_60_code
def yX3_spoke : MethodName := ⟨RX3, "spoke", "(II)I"⟩
abbrev cX3_lowest : ByteArray := prog_5_method_61_code
def yX3_lowest : MethodName := ⟨RX3, "lowest", "(I)I"⟩
abbrev cX3_tens : ByteArray := prog_5_method_62_code
def yX3_tens : MethodName := ⟨RX3, "tens", "(I)I"⟩
abbrev cX3_restAt : ByteArray := prog_5_method_63_code
def yX3_restAt : MethodName := ⟨RX3, "restAt", "(II)I"⟩
abbrev cX3_row : ByteArray := prog_5_method_64_code
def yX3_row : MethodName := ⟨RX3, "row", "(III)[I"⟩
abbrev cX3_written : ByteArray := prog_5_method_65_code
def yX3_written : MethodName := ⟨RX3, "written", "([II)Ljava/lang/String;"⟩
abbrev cX3_number : ByteArray := prog_5_method_66_code
def yX3_number : MethodName := ⟨RX3, "number", "([I)Ljava/lang/String;"⟩
abbrev cX3_digitsFrom : ByteArray := prog_5_method_67_code
def yX3_digitsFrom : MethodName := ⟨RX3, "digitsFrom", "(III)Ljava/lang/String;"⟩
abbrev cX3_cutText : ByteArray := prog_5_method_68_code
def yX3_cutText : MethodName := ⟨RX3, "cutText", "(IZII)Ljava/lang/String;"⟩
abbrev cX3_number_ : ByteArray := prog_5_method_69_code
def yX3_number_ : MethodName := ⟨RX3, "number", "(I)Ljava/lang/String;"⟩
abbrev cX3_timesBottom : ByteArray := prog_5_method_70_code
def yX3_timesBottom : MethodName := ⟨RX3, "timesBottom", "(I)[I"⟩
abbrev cX3_product : ByteArray := prog_5_method_71_code
def yX3_product : MethodName := ⟨RX3, "product", "(I)Ljava/lang/String;"⟩
abbrev cX3_sumOf : ByteArray := prog_5_method_72_code
def yX3_sumOf : MethodName := ⟨RX3, "sumOf", "(II)[I"⟩
abbrev cX3_partSum : ByteArray := prog_5_method_73_code
def yX3_partSum : MethodName := ⟨RX3, "partSum", "(II)Ljava/lang/String;"⟩
abbrev cX3_areLike : ByteArray := prog_5_method_74_code
def yX3_areLike : MethodName := ⟨RX3, "areLike", "([I[I)Z"⟩
abbrev cX3_ninesOf : ByteArray := prog_5_method_75_code
def yX3_ninesOf : MethodName := ⟨RX3, "ninesOf", "(II)I"⟩
abbrev cX3_nines : ByteArray := prog_5_method_76_code
def yX3_nines : MethodName := ⟨RX3, "nines", "(II)I"⟩
abbrev cX3_placeOf : ByteArray := prog_5_method_77_code
def yX3_placeOf : MethodName := ⟨RX3, "placeOf", "(II)I"⟩
abbrev cX3_wheelsOrdered : ByteArray := prog_5_method_78_code
def yX3_wheelsOrdered : MethodName := ⟨RX3, "wheelsOrdered", "(II)I"⟩
abbrev cX3_wheelOrder : ByteArray := prog_5_method_79_code
def yX3_wheelOrder : MethodName := ⟨RX3, "wheelOrder", "(II)I"⟩
abbrev cX3_heldAgainst : ByteArray := prog_5_method_80_code
def yX3_heldAgainst : MethodName := ⟨RX3, "heldAgainst", "(II)I"⟩
abbrev cX3_against : ByteArray := prog_5_method_81_code
def yX3_against : MethodName := ⟨RX3, "against", "(II)I"⟩
abbrev cX3_house : ByteArray := prog_5_method_82_code
def yX3_house : MethodName := ⟨RX3, "house", "(I)I"⟩
abbrev cX3_knock : ByteArray := prog_5_method_83_code
def yX3_knock : MethodName := ⟨RX3, "knock", "()I"⟩
abbrev cX3_isSoundPair : ByteArray := prog_5_method_84_code
def yX3_isSoundPair : MethodName := ⟨RX3, "isSoundPair", "(II)Z"⟩
abbrev cX3_allNines : ByteArray := prog_5_method_85_code
def yX3_allNines : MethodName := ⟨RX3, "allNines", "(I)[I"⟩
abbrev cX3_isSoundWheel : ByteArray := prog_5_method_86_code
def yX3_isSoundWheel : MethodName := ⟨RX3, "isSoundWheel", "(I)Z"⟩
abbrev cX3_isWhole : ByteArray := prog_5_method_87_code
def yX3_isWhole : MethodName := ⟨RX3, "isWhole", "()Z"⟩
abbrev cX3_isSound : ByteArray := prog_5_method_88_code
def yX3_isSound : MethodName := ⟨RX3, "isSound", "()Z"⟩
abbrev cX3_add_ : ByteArray := prog_5_method_89_code
def yX3_add_ : MethodName := ⟨RX3, "add", "(JJ)J"⟩
abbrev cX3_digest : ByteArray := prog_5_method_90_code
def yX3_digest : MethodName := ⟨RX3, "digest", "()J"⟩
def RJ5 : String := "java/lang/AbstractStringBuilder"
def TJ5 : u_T := fun k => match k with
  | _ => ("", "", "", false)
def tyJ5 : Nat → FieldType := fun k => match k with
  | _ => .int
abbrev wsJ50 : List Cond := u_ws RJ5 TJ5 0
theorem nmJ5 : ∀ a, a < 0 → ∀ b, b < 0 → a ≠ b → (TJ5 a).2.1 ≠ (TJ5 b).2.1 := by decide +kernel
theorem tyJ5_ok : ∀ k, k < 0 → parseFieldDescriptor (TJ5 k).2.2.1 = some (tyJ5 k) := by decide +kernel
abbrev cJ5_init_d00df : ByteArray := prog_6_method_2_code
def yJ5_init_d00df : MethodName := ⟨RJ5, "<init>", "(I)V"⟩
abbrev cJ5_length_8abf5 : ByteArray := prog_6_method_6_code
def yJ5_length_8abf5 : MethodName := ⟨RJ5, "length", "()I"⟩
abbrev cJ5_ensureCapacityInternal_d00df : ByteArray := prog_6_method_9_code
def yJ5_ensureCapacityInternal_d00df : MethodName := ⟨RJ5, "ensureCapacityInternal", "(I)V"⟩
abbrev cJ5_newCapacity_0f7a4 : ByteArray := prog_6_method_10_code
def yJ5_newCapacity_0f7a4 : MethodName := ⟨RJ5, "newCapacity", "(I)I"⟩
abbrev cJ5_inflate_da8c8 : ByteArray := prog_6_method_11_code
def yJ5_inflate_da8c8 : MethodName := ⟨RJ5, "inflate", "()V"⟩
abbrev cJ5_append_cf1ce : ByteArray := prog_6_method_22_code
def yJ5_append_cf1ce : MethodName := ⟨RJ5, "append", "(Ljava/lang/String;)Ljava/lang/AbstractStringBuilder;"⟩
abbrev cJ5_appendNull_278bc : ByteArray := prog_6_method_26_code
def yJ5_appendNull_278bc : MethodName := ⟨RJ5, "appendNull", "()Ljava/lang/AbstractStringBuilder;"⟩
abbrev cJ5_append_3fe6f : ByteArray := prog_6_method_31_code
def yJ5_append_3fe6f : MethodName := ⟨RJ5, "append", "(C)Ljava/lang/AbstractStringBuilder;"⟩
abbrev cJ5_append_c97b9 : ByteArray := prog_6_method_32_code
def yJ5_append_c97b9 : MethodName := ⟨RJ5, "append", "(I)Ljava/lang/AbstractStringBuilder;"⟩
abbrev cJ5_reverse_278bc : ByteArray := prog_6_method_60_code
def yJ5_reverse_278bc : MethodName := ⟨RJ5, "reverse", "()Ljava/lang/AbstractStringBuilder;"⟩
abbrev cJ5_getValue_6d5f1 : ByteArray := prog_6_method_64_code
def yJ5_getValue_6d5f1 : MethodName := ⟨RJ5, "getValue", "()[B"⟩
abbrev cJ5_isLatin1_aae02 : ByteArray := prog_6_method_68_code
def yJ5_isLatin1_aae02 : MethodName := ⟨RJ5, "isLatin1", "()Z"⟩
abbrev cJ5_inflateIfNeededFor_a7421 : ByteArray := prog_6_method_71_code
def yJ5_inflateIfNeededFor_a7421 : MethodName := ⟨RJ5, "inflateIfNeededFor", "(Ljava/lang/String;)V"⟩
abbrev cJ5_putStringAt_47b60 : ByteArray := prog_6_method_73_code
def yJ5_putStringAt_47b60 : MethodName := ⟨RJ5, "putStringAt", "(ILjava/lang/String;)V"⟩
def RJ11 : String := "java/lang/Character"
def TJ11 : u_T := fun k => match k with
  | _ => ("", "", "", false)
def tyJ11 : Nat → FieldType := fun k => match k with
  | _ => .int
abbrev wsJ110 : List Cond := u_ws RJ11 TJ11 0
theorem nmJ11 : ∀ a, a < 0 → ∀ b, b < 0 → a ≠ b → (TJ11 a).2.1 ≠ (TJ11 b).2.1 := by decide +kernel
theorem tyJ11_ok : ∀ k, k < 0 → parseFieldDescriptor (TJ11 k).2.2.1 = some (tyJ11 k) := by decide +kernel
abbrev cJ11_isHighSurrogate_fc78d : ByteArray := prog_7_method_14_code
def yJ11_isHighSurrogate_fc78d : MethodName := ⟨RJ11, "isHighSurrogate", "(C)Z"⟩
abbrev cJ11_isLowSurrogate_fc78d : ByteArray := prog_7_method_15_code
def yJ11_isLowSurrogate_fc78d : MethodName := ⟨RJ11, "isLowSurrogate", "(C)Z"⟩
abbrev cJ11_isSurrogate_fc78d : ByteArray := prog_7_method_16_code
def yJ11_isSurrogate_fc78d : MethodName := ⟨RJ11, "isSurrogate", "(C)Z"⟩
def RJx8e188 : String := "java/lang/Cloneable"
def TJx8e188 : u_T := fun k => match k with
  | _ => ("", "", "", false)
def tyJx8e188 : Nat → FieldType := fun k => match k with
  | _ => .int
abbrev wsJx8e1880 : List Cond := u_ws RJx8e188 TJx8e188 0
theorem nmJx8e188 : ∀ a, a < 0 → ∀ b, b < 0 → a ≠ b → (TJx8e188 a).2.1 ≠ (TJx8e188 b).2.1 := by decide +kernel
theorem tyJx8e188_ok : ∀ k, k < 0 → parseFieldDescriptor (TJx8e188 k).2.2.1 = some (tyJx8e188 k) := by decide +kernel
def RJ6 : String := "java/lang/Integer"
def TJ6 : u_T := fun k => match k with
  | _ => ("", "", "", false)
def tyJ6 : Nat → FieldType := fun k => match k with
  | _ => .int
abbrev wsJ60 : List Cond := u_ws RJ6 TJ6 0
theorem nmJ6 : ∀ a, a < 0 → ∀ b, b < 0 → a ≠ b → (TJ6 a).2.1 ≠ (TJ6 b).2.1 := by decide +kernel
theorem tyJ6_ok : ∀ k, k < 0 → parseFieldDescriptor (TJ6 k).2.2.1 = some (tyJ6 k) := by decide +kernel
abbrev cJ6_getChars_ba4f3 : ByteArray := prog_12_method_12_code
def yJ6_getChars_ba4f3 : MethodName := ⟨RJ6, "getChars", "(II[B)I"⟩
abbrev cJ6_stringSize_0f7a4 : ByteArray := prog_12_method_13_code
def yJ6_stringSize_0f7a4 : MethodName := ⟨RJ6, "stringSize", "(I)I"⟩
def RJ9 : String := "java/lang/Math"
def TJ9 : u_T := fun k => match k with
  | _ => ("", "", "", false)
def tyJ9 : Nat → FieldType := fun k => match k with
  | _ => .int
abbrev wsJ90 : List Cond := u_ws RJ9 TJ9 0
theorem nmJ9 : ∀ a, a < 0 → ∀ b, b < 0 → a ≠ b → (TJ9 a).2.1 ≠ (TJ9 b).2.1 := by decide +kernel
theorem tyJ9_ok : ∀ k, k < 0 → parseFieldDescriptor (TJ9 k).2.2.1 = some (tyJ9 k) := by decide +kernel
abbrev cJ9_abs_0f7a4 : ByteArray := prog_13_method_59_code
def yJ9_abs_0f7a4 : MethodName := ⟨RJ9, "abs", "(I)I"⟩
abbrev cJ9_abs_067f4 : ByteArray := prog_13_method_61_code
def yJ9_abs_067f4 : MethodName := ⟨RJ9, "abs", "(J)J"⟩
abbrev cJ9_max_7cf53 : ByteArray := prog_13_method_65_code
def yJ9_max_7cf53 : MethodName := ⟨RJ9, "max", "(II)I"⟩
abbrev cJ9_min_7cf53 : ByteArray := prog_13_method_69_code
def yJ9_min_7cf53 : MethodName := ⟨RJ9, "min", "(II)I"⟩
def RJ0 : String := "java/lang/String"
def TJ0 : u_T := fun k => match k with
  | 0 => ("java/lang/String", "value", "[B", true)
  | 1 => ("java/lang/String", "coder", "B", true)
  | 2 => ("java/lang/String", "hash", "I", false)
  | _ => ("java/lang/String", "hashIsZero", "Z", false)
def tyJ0 : Nat → FieldType := fun k => match k with
  | 0 => .array .byte
  | 1 => .byte
  | 2 => .int
  | _ => .boolean
abbrev wsJ00 : List Cond := u_ws RJ0 TJ0 4
theorem nmJ0 : ∀ a, a < 4 → ∀ b, b < 4 → a ≠ b → (TJ0 a).2.1 ≠ (TJ0 b).2.1 := by decide +kernel
theorem tyJ0_ok : ∀ k, k < 4 → parseFieldDescriptor (TJ0 k).2.2.1 = some (tyJ0 k) := by decide +kernel
abbrev cJ0_init_81219 : ByteArray := prog_15_method_53_code
def yJ0_init_81219 : MethodName := ⟨RJ0, "<init>", "(Ljava/lang/StringBuilder;)V"⟩
abbrev cJ0_length_8abf5 : ByteArray := prog_15_method_54_code
def yJ0_length_8abf5 : MethodName := ⟨RJ0, "length", "()I"⟩
abbrev cJ0_getBytes_840e7 : ByteArray := prog_15_method_147_code
def yJ0_getBytes_840e7 : MethodName := ⟨RJ0, "getBytes", "([BIB)V"⟩
abbrev cJ0_init_db425 : ByteArray := prog_15_method_150_code
def yJ0_init_db425 : MethodName := ⟨RJ0, "<init>", "(Ljava/lang/AbstractStringBuilder;Ljava/lang/Void;)V"⟩
abbrev cJ0_coder_7d493 : ByteArray := prog_15_method_152_code
def yJ0_coder_7d493 : MethodName := ⟨RJ0, "coder", "()B"⟩
abbrev cJ0_checkIndex_df160 : ByteArray := prog_15_method_155_code
def yJ0_checkIndex_df160 : MethodName := ⟨RJ0, "checkIndex", "(II)V"⟩
abbrev cJ0_checkOffset_df160 : ByteArray := prog_15_method_156_code
def yJ0_checkOffset_df160 : MethodName := ⟨RJ0, "checkOffset", "(II)V"⟩
abbrev cJ0_checkBoundsOffCount_cabcc : ByteArray := prog_15_method_157_code
def yJ0_checkBoundsOffCount_cabcc : MethodName := ⟨RJ0, "checkBoundsOffCount", "(III)I"⟩
abbrev cJ0_checkBoundsBeginEnd_23922 : ByteArray := prog_15_method_158_code
def yJ0_checkBoundsBeginEnd_23922 : MethodName := ⟨RJ0, "checkBoundsBeginEnd", "(III)V"⟩
def RJ4 : String := "java/lang/StringBuilder"
def TJ4 : u_T := fun k => match k with
  | 0 => ("java/lang/AbstractStringBuilder", "value", "[B", false)
  | 1 => ("java/lang/AbstractStringBuilder", "coder", "B", false)
  | 2 => ("java/lang/AbstractStringBuilder", "maybeLatin1", "Z", false)
  | _ => ("java/lang/AbstractStringBuilder", "count", "I", false)
def tyJ4 : Nat → FieldType := fun k => match k with
  | 0 => .array .byte
  | 1 => .byte
  | 2 => .boolean
  | _ => .int
abbrev wsJ40 : List Cond := u_ws RJ4 TJ4 4
theorem nmJ4 : ∀ a, a < 4 → ∀ b, b < 4 → a ≠ b → (TJ4 a).2.1 ≠ (TJ4 b).2.1 := by decide +kernel
theorem tyJ4_ok : ∀ k, k < 4 → parseFieldDescriptor (TJ4 k).2.2.1 = some (tyJ4 k) := by decide +kernel
abbrev cJ4_init_da8c8 : ByteArray := prog_16_method_1_code
def yJ4_init_da8c8 : MethodName := ⟨RJ4, "<init>", "()V"⟩
abbrev cJ4_init_d00df : ByteArray := prog_16_method_2_code
def yJ4_init_d00df : MethodName := ⟨RJ4, "<init>", "(I)V"⟩
abbrev cJ4_append_15ec4 : ByteArray := prog_16_method_7_code
def yJ4_append_15ec4 : MethodName := ⟨RJ4, "append", "(Ljava/lang/String;)Ljava/lang/StringBuilder;"⟩
abbrev cJ4_append_cf468 : ByteArray := prog_16_method_14_code
def yJ4_append_cf468 : MethodName := ⟨RJ4, "append", "(C)Ljava/lang/StringBuilder;"⟩
abbrev cJ4_append_bf812 : ByteArray := prog_16_method_15_code
def yJ4_append_bf812 : MethodName := ⟨RJ4, "append", "(I)Ljava/lang/StringBuilder;"⟩
abbrev cJ4_reverse_43fcb : ByteArray := prog_16_method_39_code
def yJ4_reverse_43fcb : MethodName := ⟨RJ4, "reverse", "()Ljava/lang/StringBuilder;"⟩
abbrev cJ4_toString_0e30d : ByteArray := prog_16_method_42_code
def yJ4_toString_0e30d : MethodName := ⟨RJ4, "toString", "()Ljava/lang/String;"⟩
abbrev cJ4_length_8abf5 : ByteArray := prog_16_method_93_code
def yJ4_length_8abf5 : MethodName := ⟨RJ4, "length", "()I"⟩
def RJ1 : String := "java/lang/StringLatin1"
def TJ1 : u_T := fun k => match k with
  | _ => ("", "", "", false)
def tyJ1 : Nat → FieldType := fun k => match k with
  | _ => .int
abbrev wsJ10 : List Cond := u_ws RJ1 TJ1 0
theorem nmJ1 : ∀ a, a < 0 → ∀ b, b < 0 → a ≠ b → (TJ1 a).2.1 ≠ (TJ1 b).2.1 := by decide +kernel
theorem tyJ1_ok : ∀ k, k < 0 → parseFieldDescriptor (TJ1 k).2.2.1 = some (tyJ1 k) := by decide +kernel
abbrev cJ1_canEncode_fc78d : ByteArray := prog_17_method_3_code
def yJ1_canEncode_fc78d : MethodName := ⟨RJ1, "canEncode", "(C)Z"⟩
abbrev cJ1_inflate_0e8fd : ByteArray := prog_17_method_50_code
def yJ1_inflate_0e8fd : MethodName := ⟨RJ1, "inflate", "([BI[BII)V"⟩
def RJ2 : String := "java/lang/StringUTF16"
def TJ2 : u_T := fun k => match k with
  | _ => ("", "", "", false)
def tyJ2 : Nat → FieldType := fun k => match k with
  | _ => .int
abbrev wsJ20 : List Cond := u_ws RJ2 TJ2 0
theorem nmJ2 : ∀ a, a < 0 → ∀ b, b < 0 → a ≠ b → (TJ2 a).2.1 ≠ (TJ2 b).2.1 := by decide +kernel
theorem tyJ2_ok : ∀ k, k < 0 → parseFieldDescriptor (TJ2 k).2.2.1 = some (tyJ2 k) := by decide +kernel
abbrev cJ2_newBytesFor_77867 : ByteArray := prog_18_method_2_code
def yJ2_newBytesFor_77867 : MethodName := ⟨RJ2, "newBytesFor", "(I)[B"⟩
abbrev cJ2_newBytesLength_0f7a4 : ByteArray := prog_18_method_3_code
def yJ2_newBytesLength_0f7a4 : MethodName := ⟨RJ2, "newBytesLength", "(I)I"⟩
abbrev cJ2_putChar_b72d1 : ByteArray := prog_18_method_4_code
def yJ2_putChar_b72d1 : MethodName := ⟨RJ2, "putChar", "([BII)V"⟩
abbrev cJ2_getChar_3b067 : ByteArray := prog_18_method_5_code
def yJ2_getChar_3b067 : MethodName := ⟨RJ2, "getChar", "([BI)C"⟩
abbrev cJ2_length_9d52b : ByteArray := prog_18_method_6_code
def yJ2_length_9d52b : MethodName := ⟨RJ2, "length", "([B)I"⟩
abbrev cJ2_coderFromArrayLen_85cad : ByteArray := prog_18_method_15_code
def yJ2_coderFromArrayLen_85cad : MethodName := ⟨RJ2, "coderFromArrayLen", "([BI)B"⟩
abbrev cJ2_compress_39247 : ByteArray := prog_18_method_17_code
def yJ2_compress_39247 : MethodName := ⟨RJ2, "compress", "([BII)[B"⟩
abbrev cJ2_compress_5af95 : ByteArray := prog_18_method_22_code
def yJ2_compress_5af95 : MethodName := ⟨RJ2, "compress", "([BI[BII)I"⟩
abbrev cJ2_putCharSB_b72d1 : ByteArray := prog_18_method_71_code
def yJ2_putCharSB_b72d1 : MethodName := ⟨RJ2, "putCharSB", "([BII)V"⟩
abbrev cJ2_getChars_46870 : ByteArray := prog_18_method_77_code
def yJ2_getChars_46870 : MethodName := ⟨RJ2, "getChars", "(III[B)I"⟩
abbrev cJ2_putCharsAt_cd4e5 : ByteArray := prog_18_method_81_code
def yJ2_putCharsAt_cd4e5 : MethodName := ⟨RJ2, "putCharsAt", "([BICCCC)I"⟩
abbrev cJ2_reverse_db04f : ByteArray := prog_18_method_84_code
def yJ2_reverse_db04f : MethodName := ⟨RJ2, "reverse", "([BI)V"⟩
abbrev cJ2_reverseAllValidSurrogatePairs_db04f : ByteArray := prog_18_method_85_code
def yJ2_reverseAllValidSurrogatePairs_db04f : MethodName := ⟨RJ2, "reverseAllValidSurrogatePairs", "([BI)V"⟩
abbrev cJ2_inflate_0e8fd : ByteArray := prog_18_method_86_code
def yJ2_inflate_0e8fd : MethodName := ⟨RJ2, "inflate", "([BI[BII)V"⟩
abbrev cJ2_getChars_ba4f3 : ByteArray := prog_18_method_89_code
def yJ2_getChars_ba4f3 : MethodName := ⟨RJ2, "getChars", "(II[B)I"⟩
abbrev cJ2_checkIndex_2214a : ByteArray := prog_18_method_91_code
def yJ2_checkIndex_2214a : MethodName := ⟨RJ2, "checkIndex", "(I[B)V"⟩
abbrev cJ2_checkOffset_2214a : ByteArray := prog_18_method_92_code
def yJ2_checkOffset_2214a : MethodName := ⟨RJ2, "checkOffset", "(I[B)V"⟩
abbrev cJ2_checkBoundsBeginEnd_d044e : ByteArray := prog_18_method_93_code
def yJ2_checkBoundsBeginEnd_d044e : MethodName := ⟨RJ2, "checkBoundsBeginEnd", "(II[B)V"⟩
abbrev cJ2_checkBoundsOffCount_d044e : ByteArray := prog_18_method_94_code
def yJ2_checkBoundsOffCount_d044e : MethodName := ⟨RJ2, "checkBoundsOffCount", "(II[B)V"⟩
def RJ10 : String := "java/lang/System"
def TJ10 : u_T := fun k => match k with
  | _ => ("", "", "", false)
def tyJ10 : Nat → FieldType := fun k => match k with
  | _ => .int
abbrev wsJ100 : List Cond := u_ws RJ10 TJ10 0
theorem nmJ10 : ∀ a, a < 0 → ∀ b, b < 0 → a ≠ b → (TJ10 a).2.1 ≠ (TJ10 b).2.1 := by decide +kernel
theorem tyJ10_ok : ∀ k, k < 0 → parseFieldDescriptor (TJ10 k).2.2.1 = some (tyJ10 k) := by decide +kernel
def RJ7 : String := "java/util/Arrays"
def TJ7 : u_T := fun k => match k with
  | _ => ("", "", "", false)
def tyJ7 : Nat → FieldType := fun k => match k with
  | _ => .int
abbrev wsJ70 : List Cond := u_ws RJ7 TJ7 0
theorem nmJ7 : ∀ a, a < 0 → ∀ b, b < 0 → a ≠ b → (TJ7 a).2.1 ≠ (TJ7 b).2.1 := by decide +kernel
theorem tyJ7_ok : ∀ k, k < 0 → parseFieldDescriptor (TJ7 k).2.2.1 = some (tyJ7 k) := by decide +kernel
abbrev cJ7_copyOf_9075b : ByteArray := prog_21_method_121_code
def yJ7_copyOf_9075b : MethodName := ⟨RJ7, "copyOf", "([BI)[B"⟩
abbrev cJ7_checkLength_df160 : ByteArray := prog_21_method_131_code
def yJ7_checkLength_df160 : MethodName := ⟨RJ7, "checkLength", "(II)V"⟩
abbrev cJ7_copyOfRange_39247 : ByteArray := prog_21_method_132_code
def yJ7_copyOfRange_39247 : MethodName := ⟨RJ7, "copyOfRange", "([BII)[B"⟩
abbrev cJ7_copyOfRangeByte_39247 : ByteArray := prog_21_method_133_code
def yJ7_copyOfRangeByte_39247 : MethodName := ⟨RJ7, "copyOfRangeByte", "([BII)[B"⟩
def RJ8 : String := "jdk/internal/util/ArraysSupport"
def TJ8 : u_T := fun k => match k with
  | _ => ("", "", "", false)
def tyJ8 : Nat → FieldType := fun k => match k with
  | _ => .int
abbrev wsJ80 : List Cond := u_ws RJ8 TJ8 0
theorem nmJ8 : ∀ a, a < 0 → ∀ b, b < 0 → a ≠ b → (TJ8 a).2.1 ≠ (TJ8 b).2.1 := by decide +kernel
theorem tyJ8_ok : ∀ k, k < 0 → parseFieldDescriptor (TJ8 k).2.2.1 = some (tyJ8 k) := by decide +kernel
abbrev cJ8_newLength_cabcc : ByteArray := prog_22_method_27_code
def yJ8_newLength_cabcc : MethodName := ⟨RJ8, "newLength", "(III)I"⟩
abbrev cJ8_hugeLength_7cf53 : ByteArray := prog_22_method_28_code
def yJ8_hugeLength_7cf53 : MethodName := ⟨RJ8, "hugeLength", "(II)I"⟩
def RJ3 : String := "jdk/internal/util/Preconditions"
def TJ3 : u_T := fun k => match k with
  | _ => ("", "", "", false)
def tyJ3 : Nat → FieldType := fun k => match k with
  | _ => .int
abbrev wsJ30 : List Cond := u_ws RJ3 TJ3 0
theorem nmJ3 : ∀ a, a < 0 → ∀ b, b < 0 → a ≠ b → (TJ3 a).2.1 ≠ (TJ3 b).2.1 := by decide +kernel
theorem tyJ3_ok : ∀ k, k < 0 → parseFieldDescriptor (TJ3 k).2.2.1 = some (tyJ3 k) := by decide +kernel
abbrev cJ3_checkIndex_8e157 : ByteArray := prog_23_method_11_code
def yJ3_checkIndex_8e157 : MethodName := ⟨RJ3, "checkIndex", "(IILjava/util/function/BiFunction;)I"⟩
abbrev cJ3_checkFromToIndex_8c36e : ByteArray := prog_23_method_12_code
def yJ3_checkFromToIndex_8c36e : MethodName := ⟨RJ3, "checkFromToIndex", "(IIILjava/util/function/BiFunction;)I"⟩
abbrev cJ3_checkFromIndexSize_8c36e : ByteArray := prog_23_method_13_code
def yJ3_checkFromIndexSize_8c36e : MethodName := ⟨RJ3, "checkFromIndexSize", "(IIILjava/util/function/BiFunction;)I"⟩
def RL : String := "NinewheelLaw"
abbrev cL_put : ByteArray := method_2_code
def yL_put : MethodName := ⟨RL, "put", "(LNinewheel;IIILNinewheelLaw$Out;)I"⟩
abbrev cL_write : ByteArray := method_3_code
def yL_write : MethodName := ⟨RL, "write", "(LNinewheel;IZIIILNinewheelLaw$Out;)I"⟩
abbrev cL_copy : ByteArray := method_4_code
def yL_copy : MethodName := ⟨RL, "copy", "(LNinewheel;IILNinewheelLaw$Out;)I"⟩
abbrev cL_negate : ByteArray := method_5_code
def yL_negate : MethodName := ⟨RL, "negate", "(LNinewheel;ILNinewheelLaw$Out;)I"⟩
abbrev cL_size : ByteArray := method_6_code
def yL_size : MethodName := ⟨RL, "size", "(LNinewheel;ILNinewheelLaw$Out;)I"⟩
abbrev cL_add : ByteArray := method_7_code
def yL_add : MethodName := ⟨RL, "add", "(LNinewheel;IIILNinewheelLaw$Out;)I"⟩
abbrev cL_subtract : ByteArray := method_8_code
def yL_subtract : MethodName := ⟨RL, "subtract", "(LNinewheel;IIILNinewheelLaw$Out;)I"⟩
abbrev cL_multiply : ByteArray := method_9_code
def yL_multiply : MethodName := ⟨RL, "multiply", "(LNinewheel;IIILNinewheelLaw$Out;)I"⟩
abbrev cL_power : ByteArray := method_10_code
def yL_power : MethodName := ⟨RL, "power", "(LNinewheel;IIILNinewheelLaw$Out;)I"⟩
abbrev cL_divide : ByteArray := method_11_code
def yL_divide : MethodName := ⟨RL, "divide", "(LNinewheel;IIIIILNinewheelLaw$Out;)I"⟩
abbrev cL_share : ByteArray := method_12_code
def yL_share : MethodName := ⟨RL, "share", "(LNinewheel;IIILNinewheelLaw$Out;)I"⟩
abbrev cL_whole : ByteArray := method_13_code
def yL_whole : MethodName := ⟨RL, "whole", "(LNinewheel;IIILNinewheelLaw$Out;)I"⟩
abbrev cL_rest : ByteArray := method_14_code
def yL_rest : MethodName := ⟨RL, "rest", "(LNinewheel;IIILNinewheelLaw$Out;)I"⟩
abbrev cL_setPlaces : ByteArray := method_15_code
def yL_setPlaces : MethodName := ⟨RL, "setPlaces", "(LNinewheel;IIILNinewheelLaw$Out;)I"⟩
abbrev cL_strip : ByteArray := method_16_code
def yL_strip : MethodName := ⟨RL, "strip", "(LNinewheel;ILNinewheelLaw$Out;)I"⟩
abbrev cL_move : ByteArray := method_17_code
def yL_move : MethodName := ⟨RL, "move", "(LNinewheel;IILNinewheelLaw$Out;)I"⟩
abbrev cL_round : ByteArray := method_18_code
def yL_round : MethodName := ⟨RL, "round", "(LNinewheel;IIILNinewheelLaw$Out;)I"⟩
abbrev cL_greater : ByteArray := method_19_code
def yL_greater : MethodName := ⟨RL, "greater", "(LNinewheel;IIILNinewheelLaw$Out;)I"⟩
abbrev cL_lesser : ByteArray := method_20_code
def yL_lesser : MethodName := ⟨RL, "lesser", "(LNinewheel;IIILNinewheelLaw$Out;)I"⟩
abbrev cL_cut : ByteArray := method_21_code
def yL_cut : MethodName := ⟨RL, "cut", "(LNinewheel;IZIIILNinewheelLaw$Out;)I"⟩
abbrev cL_count : ByteArray := method_22_code
def yL_count : MethodName := ⟨RL, "count", "(LNinewheel;ILNinewheelLaw$Out;)I"⟩
abbrev cL_places : ByteArray := method_23_code
def yL_places : MethodName := ⟨RL, "places", "(LNinewheel;ILNinewheelLaw$Out;)I"⟩
abbrev cL_digits : ByteArray := method_24_code
def yL_digits : MethodName := ⟨RL, "digits", "(LNinewheel;ILNinewheelLaw$Out;)I"⟩
abbrev cL_sign : ByteArray := method_25_code
def yL_sign : MethodName := ⟨RL, "sign", "(LNinewheel;ILNinewheelLaw$Out;)I"⟩
abbrev cL_text : ByteArray := method_26_code
def yL_text : MethodName := ⟨RL, "text", "(LNinewheel;IILNinewheelLaw$Out;)I"⟩
abbrev cL_order : ByteArray := method_27_code
def yL_order : MethodName := ⟨RL, "order", "(LNinewheel;IILNinewheelLaw$Out;)I"⟩
abbrev cL_same : ByteArray := method_28_code
def yL_same : MethodName := ⟨RL, "same", "(LNinewheel;IILNinewheelLaw$Out;)I"⟩
abbrev cL_setWheel : ByteArray := method_29_code
def yL_setWheel : MethodName := ⟨RL, "setWheel", "(LNinewheel;IIILNinewheelLaw$Out;)I"⟩
abbrev cL_step : ByteArray := method_30_code
def yL_step : MethodName := ⟨RL, "step", "(LNinewheel;ILNinewheelLaw$Out;)I"⟩
abbrev cL_turn : ByteArray := method_31_code
def yL_turn : MethodName := ⟨RL, "turn", "(LNinewheel;IILNinewheelLaw$Out;)I"⟩
abbrev cL_times : ByteArray := method_32_code
def yL_times : MethodName := ⟨RL, "times", "(LNinewheel;IIILNinewheelLaw$Out;)I"⟩
abbrev cL_spoke : ByteArray := method_33_code
def yL_spoke : MethodName := ⟨RL, "spoke", "(LNinewheel;IILNinewheelLaw$Out;)I"⟩
abbrev cL_lowest : ByteArray := method_34_code
def yL_lowest : MethodName := ⟨RL, "lowest", "(LNinewheel;ILNinewheelLaw$Out;)I"⟩
abbrev cL_tens : ByteArray := method_35_code
def yL_tens : MethodName := ⟨RL, "tens", "(LNinewheel;ILNinewheelLaw$Out;)I"⟩
abbrev cL_restAt : ByteArray := method_36_code
def yL_restAt : MethodName := ⟨RL, "restAt", "(LNinewheel;IILNinewheelLaw$Out;)I"⟩
abbrev cL_digitsFrom : ByteArray := method_37_code
def yL_digitsFrom : MethodName := ⟨RL, "digitsFrom", "(LNinewheel;IIILNinewheelLaw$Out;)I"⟩
abbrev cL_cutText : ByteArray := method_38_code
def yL_cutText : MethodName := ⟨RL, "cutText", "(LNinewheel;IZIILNinewheelLaw$Out;)I"⟩
abbrev cL_number : ByteArray := method_39_code
def yL_number : MethodName := ⟨RL, "number", "(LNinewheel;ILNinewheelLaw$Out;)I"⟩
abbrev cL_product : ByteArray := method_40_code
def yL_product : MethodName := ⟨RL, "product", "(LNinewheel;ILNinewheelLaw$Out;)I"⟩
abbrev cL_partSum : ByteArray := method_41_code
def yL_partSum : MethodName := ⟨RL, "partSum", "(LNinewheel;IILNinewheelLaw$Out;)I"⟩
abbrev cL_nines : ByteArray := method_42_code
def yL_nines : MethodName := ⟨RL, "nines", "(LNinewheel;IILNinewheelLaw$Out;)I"⟩
abbrev cL_placeOf : ByteArray := method_43_code
def yL_placeOf : MethodName := ⟨RL, "placeOf", "(LNinewheel;IILNinewheelLaw$Out;)I"⟩
abbrev cL_wheelOrder : ByteArray := method_44_code
def yL_wheelOrder : MethodName := ⟨RL, "wheelOrder", "(LNinewheel;IILNinewheelLaw$Out;)I"⟩
abbrev cL_against : ByteArray := method_45_code
def yL_against : MethodName := ⟨RL, "against", "(LNinewheel;IILNinewheelLaw$Out;)I"⟩
abbrev cL_house : ByteArray := method_46_code
def yL_house : MethodName := ⟨RL, "house", "(LNinewheel;ILNinewheelLaw$Out;)I"⟩
abbrev cL_law : ByteArray := code
def yL_law : MethodName := ⟨RL, "law", "([I)Z"⟩
theorem dX0_init_0 : decode cX0_init 0 = .ok (.aload_n 0, 1) := by decide +kernel
theorem dX0_init_1 : decode cX0_init 1 = .ok (.invokespecial 1, 3) := by decide +kernel
theorem dX0_init_4 : decode cX0_init 4 = .ok (.aload_n 0, 1) := by decide +kernel
theorem dX0_init_5 : decode cX0_init 5 = .ok (.bipush 98, 2) := by decide +kernel
theorem dX0_init_7 : decode cX0_init 7 = .ok (.newarray .int, 2) := by decide +kernel
theorem dX0_init_9 : decode cX0_init 9 = .ok (.putfield 9, 3) := by decide +kernel
theorem dX0_init_12 : decode cX0_init 12 = .ok (.return_, 1) := by decide +kernel
theorem dX0_clear_0 : decode cX0_clear 0 = .ok (.iconst 0, 1) := by decide +kernel
theorem dX0_clear_1 : decode cX0_clear 1 = .ok (.istore_n 1, 1) := by decide +kernel
theorem dX0_clear_2 : decode cX0_clear 2 = .ok (.iload_n 1, 1) := by decide +kernel
theorem dX0_clear_3 : decode cX0_clear 3 = .ok (.bipush 98, 2) := by decide +kernel
theorem dX0_clear_5 : decode cX0_clear 5 = .ok (.if_icmp .ge 16, 3) := by decide +kernel
theorem dX0_clear_8 : decode cX0_clear 8 = .ok (.aload_n 0, 1) := by decide +kernel
theorem dX0_clear_9 : decode cX0_clear 9 = .ok (.getfield 9, 3) := by decide +kernel
theorem dX0_clear_12 : decode cX0_clear 12 = .ok (.iload_n 1, 1) := by decide +kernel
theorem dX0_clear_13 : decode cX0_clear 13 = .ok (.iconst 0, 1) := by decide +kernel
theorem dX0_clear_14 : decode cX0_clear 14 = .ok (.iastore, 1) := by decide +kernel
theorem dX0_clear_15 : decode cX0_clear 15 = .ok (.iinc 1 1, 3) := by decide +kernel
theorem dX0_clear_18 : decode cX0_clear 18 = .ok (.goto (-16), 3) := by decide +kernel
theorem dX0_clear_21 : decode cX0_clear 21 = .ok (.return_, 1) := by decide +kernel
theorem dX0_raise_0 : decode cX0_raise 0 = .ok (.iload_n 1, 1) := by decide +kernel
theorem dX0_raise_1 : decode cX0_raise 1 = .ok (.ifCond .lt 19, 3) := by decide +kernel
theorem dX0_raise_4 : decode cX0_raise 4 = .ok (.iload_n 1, 1) := by decide +kernel
theorem dX0_raise_5 : decode cX0_raise 5 = .ok (.bipush 98, 2) := by decide +kernel
theorem dX0_raise_7 : decode cX0_raise 7 = .ok (.if_icmp .ge 13, 3) := by decide +kernel
theorem dX0_raise_10 : decode cX0_raise 10 = .ok (.aload_n 0, 1) := by decide +kernel
theorem dX0_raise_11 : decode cX0_raise 11 = .ok (.getfield 9, 3) := by decide +kernel
theorem dX0_raise_14 : decode cX0_raise 14 = .ok (.iload_n 1, 1) := by decide +kernel
theorem dX0_raise_15 : decode cX0_raise 15 = .ok (.dup2, 1) := by decide +kernel
theorem dX0_raise_16 : decode cX0_raise 16 = .ok (.iaload, 1) := by decide +kernel
theorem dX0_raise_17 : decode cX0_raise 17 = .ok (.iload_n 2, 1) := by decide +kernel
theorem dX0_raise_18 : decode cX0_raise 18 = .ok (.iadd, 1) := by decide +kernel
theorem dX0_raise_19 : decode cX0_raise 19 = .ok (.iastore, 1) := by decide +kernel
theorem dX0_raise_20 : decode cX0_raise 20 = .ok (.return_, 1) := by decide +kernel
theorem dX0_carry_0 : decode cX0_carry 0 = .ok (.iconst 0, 1) := by decide +kernel
theorem dX0_carry_1 : decode cX0_carry 1 = .ok (.istore_n 1, 1) := by decide +kernel
theorem dX0_carry_2 : decode cX0_carry 2 = .ok (.iconst 0, 1) := by decide +kernel
theorem dX0_carry_3 : decode cX0_carry 3 = .ok (.istore_n 2, 1) := by decide +kernel
theorem dX0_carry_4 : decode cX0_carry 4 = .ok (.iload_n 2, 1) := by decide +kernel
theorem dX0_carry_5 : decode cX0_carry 5 = .ok (.bipush 98, 2) := by decide +kernel
theorem dX0_carry_7 : decode cX0_carry 7 = .ok (.if_icmp .ge 33, 3) := by decide +kernel
theorem dX0_carry_10 : decode cX0_carry 10 = .ok (.aload_n 0, 1) := by decide +kernel
theorem dX0_carry_11 : decode cX0_carry 11 = .ok (.getfield 9, 3) := by decide +kernel
theorem dX0_carry_14 : decode cX0_carry 14 = .ok (.iload_n 2, 1) := by decide +kernel
theorem dX0_carry_15 : decode cX0_carry 15 = .ok (.iaload, 1) := by decide +kernel
theorem dX0_carry_16 : decode cX0_carry 16 = .ok (.iload_n 1, 1) := by decide +kernel
theorem dX0_carry_17 : decode cX0_carry 17 = .ok (.iadd, 1) := by decide +kernel
theorem dX0_carry_18 : decode cX0_carry 18 = .ok (.istore_n 3, 1) := by decide +kernel
theorem dX0_carry_19 : decode cX0_carry 19 = .ok (.aload_n 0, 1) := by decide +kernel
theorem dX0_carry_20 : decode cX0_carry 20 = .ok (.getfield 9, 3) := by decide +kernel
theorem dX0_carry_23 : decode cX0_carry 23 = .ok (.iload_n 2, 1) := by decide +kernel
theorem dX0_carry_24 : decode cX0_carry 24 = .ok (.iload_n 3, 1) := by decide +kernel
theorem dX0_carry_25 : decode cX0_carry 25 = .ok (.bipush 10, 2) := by decide +kernel
theorem dX0_carry_27 : decode cX0_carry 27 = .ok (.irem, 1) := by decide +kernel
theorem dX0_carry_28 : decode cX0_carry 28 = .ok (.iastore, 1) := by decide +kernel
theorem dX0_carry_29 : decode cX0_carry 29 = .ok (.iload_n 3, 1) := by decide +kernel
theorem dX0_carry_30 : decode cX0_carry 30 = .ok (.bipush 10, 2) := by decide +kernel
theorem dX0_carry_32 : decode cX0_carry 32 = .ok (.idiv, 1) := by decide +kernel
theorem dX0_carry_33 : decode cX0_carry 33 = .ok (.istore_n 1, 1) := by decide +kernel
theorem dX0_carry_34 : decode cX0_carry 34 = .ok (.iinc 2 1, 3) := by decide +kernel
theorem dX0_carry_37 : decode cX0_carry 37 = .ok (.goto (-33), 3) := by decide +kernel
theorem dX0_carry_40 : decode cX0_carry 40 = .ok (.return_, 1) := by decide +kernel
theorem dX0_becomeNines_0 : decode cX0_becomeNines 0 = .ok (.aload_n 0, 1) := by decide +kernel
theorem dX0_becomeNines_1 : decode cX0_becomeNines 1 = .ok (.invokevirtual 13, 3) := by decide +kernel
theorem dX0_becomeNines_4 : decode cX0_becomeNines 4 = .ok (.iconst 0, 1) := by decide +kernel
theorem dX0_becomeNines_5 : decode cX0_becomeNines 5 = .ok (.istore_n 3, 1) := by decide +kernel
theorem dX0_becomeNines_6 : decode cX0_becomeNines 6 = .ok (.iload_n 3, 1) := by decide +kernel
theorem dX0_becomeNines_7 : decode cX0_becomeNines 7 = .ok (.iload_n 1, 1) := by decide +kernel
theorem dX0_becomeNines_8 : decode cX0_becomeNines 8 = .ok (.if_icmp .ge 18, 3) := by decide +kernel
theorem dX0_becomeNines_11 : decode cX0_becomeNines 11 = .ok (.aload_n 0, 1) := by decide +kernel
theorem dX0_becomeNines_12 : decode cX0_becomeNines 12 = .ok (.iload_n 3, 1) := by decide +kernel
theorem dX0_becomeNines_13 : decode cX0_becomeNines 13 = .ok (.bipush 9, 2) := by decide +kernel
theorem dX0_becomeNines_15 : decode cX0_becomeNines 15 = .ok (.iload_n 2, 1) := by decide +kernel
theorem dX0_becomeNines_16 : decode cX0_becomeNines 16 = .ok (.imul, 1) := by decide +kernel
theorem dX0_becomeNines_17 : decode cX0_becomeNines 17 = .ok (.invokevirtual 16, 3) := by decide +kernel
theorem dX0_becomeNines_20 : decode cX0_becomeNines 20 = .ok (.iinc 3 1, 3) := by decide +kernel
theorem dX0_becomeNines_23 : decode cX0_becomeNines 23 = .ok (.goto (-17), 3) := by decide +kernel
theorem dX0_becomeNines_26 : decode cX0_becomeNines 26 = .ok (.aload_n 0, 1) := by decide +kernel
theorem dX0_becomeNines_27 : decode cX0_becomeNines 27 = .ok (.invokevirtual 20, 3) := by decide +kernel
theorem dX0_becomeNines_30 : decode cX0_becomeNines 30 = .ok (.return_, 1) := by decide +kernel
theorem dX0_isLike_0 : decode cX0_isLike 0 = .ok (.iconst 0, 1) := by decide +kernel
theorem dX0_isLike_1 : decode cX0_isLike 1 = .ok (.istore_n 2, 1) := by decide +kernel
theorem dX0_isLike_2 : decode cX0_isLike 2 = .ok (.iload_n 2, 1) := by decide +kernel
theorem dX0_isLike_3 : decode cX0_isLike 3 = .ok (.bipush 98, 2) := by decide +kernel
theorem dX0_isLike_5 : decode cX0_isLike 5 = .ok (.if_icmp .ge 26, 3) := by decide +kernel
theorem dX0_isLike_8 : decode cX0_isLike 8 = .ok (.aload_n 0, 1) := by decide +kernel
theorem dX0_isLike_9 : decode cX0_isLike 9 = .ok (.getfield 9, 3) := by decide +kernel
theorem dX0_isLike_12 : decode cX0_isLike 12 = .ok (.iload_n 2, 1) := by decide +kernel
theorem dX0_isLike_13 : decode cX0_isLike 13 = .ok (.iaload, 1) := by decide +kernel
theorem dX0_isLike_14 : decode cX0_isLike 14 = .ok (.aload_n 1, 1) := by decide +kernel
theorem dX0_isLike_15 : decode cX0_isLike 15 = .ok (.getfield 9, 3) := by decide +kernel
theorem dX0_isLike_18 : decode cX0_isLike 18 = .ok (.iload_n 2, 1) := by decide +kernel
theorem dX0_isLike_19 : decode cX0_isLike 19 = .ok (.iaload, 1) := by decide +kernel
theorem dX0_isLike_20 : decode cX0_isLike 20 = .ok (.if_icmp .eq 5, 3) := by decide +kernel
theorem dX0_isLike_23 : decode cX0_isLike 23 = .ok (.iconst 0, 1) := by decide +kernel
theorem dX0_isLike_24 : decode cX0_isLike 24 = .ok (.ireturn, 1) := by decide +kernel
theorem dX0_isLike_25 : decode cX0_isLike 25 = .ok (.iinc 2 1, 3) := by decide +kernel
theorem dX0_isLike_28 : decode cX0_isLike 28 = .ok (.goto (-26), 3) := by decide +kernel
theorem dX0_isLike_31 : decode cX0_isLike 31 = .ok (.iconst 1, 1) := by decide +kernel
theorem dX0_isLike_32 : decode cX0_isLike 32 = .ok (.ireturn, 1) := by decide +kernel
theorem dX0_written_0 : decode cX0_written 0 = .ok (.bipush 97, 2) := by decide +kernel
theorem dX0_written_2 : decode cX0_written 2 = .ok (.istore_n 1, 1) := by decide +kernel
theorem dX0_written_3 : decode cX0_written 3 = .ok (.iload_n 1, 1) := by decide +kernel
theorem dX0_written_4 : decode cX0_written 4 = .ok (.ifCond .le 18, 3) := by decide +kernel
theorem dX0_written_7 : decode cX0_written 7 = .ok (.aload_n 0, 1) := by decide +kernel
theorem dX0_written_8 : decode cX0_written 8 = .ok (.getfield 9, 3) := by decide +kernel
theorem dX0_written_11 : decode cX0_written 11 = .ok (.iload_n 1, 1) := by decide +kernel
theorem dX0_written_12 : decode cX0_written 12 = .ok (.iaload, 1) := by decide +kernel
theorem dX0_written_13 : decode cX0_written 13 = .ok (.ifCond .ne 9, 3) := by decide +kernel
theorem dX0_written_16 : decode cX0_written 16 = .ok (.iinc 1 (-1), 3) := by decide +kernel
theorem dX0_written_19 : decode cX0_written 19 = .ok (.goto (-16), 3) := by decide +kernel
theorem dX0_written_22 : decode cX0_written 22 = .ok (.new 23, 3) := by decide +kernel
theorem dX0_written_25 : decode cX0_written 25 = .ok (.dup, 1) := by decide +kernel
theorem dX0_written_26 : decode cX0_written 26 = .ok (.invokespecial 25, 3) := by decide +kernel
theorem dX0_written_29 : decode cX0_written 29 = .ok (.astore_n 2, 1) := by decide +kernel
theorem dX0_written_30 : decode cX0_written 30 = .ok (.iload_n 1, 1) := by decide +kernel
theorem dX0_written_31 : decode cX0_written 31 = .ok (.istore_n 3, 1) := by decide +kernel
theorem dX0_written_32 : decode cX0_written 32 = .ok (.iload_n 3, 1) := by decide +kernel
theorem dX0_written_33 : decode cX0_written 33 = .ok (.ifCond .lt 23, 3) := by decide +kernel
theorem dX0_written_36 : decode cX0_written 36 = .ok (.aload_n 2, 1) := by decide +kernel
theorem dX0_written_37 : decode cX0_written 37 = .ok (.aload_n 0, 1) := by decide +kernel
theorem dX0_written_38 : decode cX0_written 38 = .ok (.getfield 9, 3) := by decide +kernel
theorem dX0_written_41 : decode cX0_written 41 = .ok (.iload_n 3, 1) := by decide +kernel
theorem dX0_written_42 : decode cX0_written 42 = .ok (.iaload, 1) := by decide +kernel
theorem dX0_written_43 : decode cX0_written 43 = .ok (.invokestatic 26, 3) := by decide +kernel
theorem dX0_written_46 : decode cX0_written 46 = .ok (.invokevirtual 32, 3) := by decide +kernel
theorem dX0_written_49 : decode cX0_written 49 = .ok (.pop, 1) := by decide +kernel
theorem dX0_written_50 : decode cX0_written 50 = .ok (.iinc 3 (-1), 3) := by decide +kernel
theorem dX0_written_53 : decode cX0_written 53 = .ok (.goto (-21), 3) := by decide +kernel
theorem dX0_written_56 : decode cX0_written 56 = .ok (.aload_n 2, 1) := by decide +kernel
theorem dX0_written_57 : decode cX0_written 57 = .ok (.invokevirtual 36, 3) := by decide +kernel
theorem dX0_written_60 : decode cX0_written 60 = .ok (.areturn, 1) := by decide +kernel
theorem dX1_init_0 : decode cX1_init 0 = .ok (.aload_n 0, 1) := by decide +kernel
theorem dX1_init_1 : decode cX1_init 1 = .ok (.invokespecial 1, 3) := by decide +kernel
theorem dX1_init_4 : decode cX1_init 4 = .ok (.aload_n 0, 1) := by decide +kernel
theorem dX1_init_5 : decode cX1_init 5 = .ok (.iconst 4, 1) := by decide +kernel
theorem dX1_init_6 : decode cX1_init 6 = .ok (.newarray .int, 2) := by decide +kernel
theorem dX1_init_8 : decode cX1_init 8 = .ok (.putfield 9, 3) := by decide +kernel
theorem dX1_init_11 : decode cX1_init 11 = .ok (.aload_n 0, 1) := by decide +kernel
theorem dX1_init_12 : decode cX1_init 12 = .ok (.iconst 4, 1) := by decide +kernel
theorem dX1_init_13 : decode cX1_init 13 = .ok (.newarray .int, 2) := by decide +kernel
theorem dX1_init_15 : decode cX1_init 15 = .ok (.putfield 13, 3) := by decide +kernel
theorem dX1_init_18 : decode cX1_init 18 = .ok (.aload_n 0, 1) := by decide +kernel
theorem dX1_init_19 : decode cX1_init 19 = .ok (.iconst 3, 1) := by decide +kernel
theorem dX1_init_20 : decode cX1_init 20 = .ok (.newarray .int, 2) := by decide +kernel
theorem dX1_init_22 : decode cX1_init 22 = .ok (.putfield 16, 3) := by decide +kernel
theorem dX1_init_25 : decode cX1_init 25 = .ok (.aload_n 0, 1) := by decide +kernel
theorem dX1_init_26 : decode cX1_init 26 = .ok (.iconst 3, 1) := by decide +kernel
theorem dX1_init_27 : decode cX1_init 27 = .ok (.newarray .int, 2) := by decide +kernel
theorem dX1_init_29 : decode cX1_init 29 = .ok (.putfield 19, 3) := by decide +kernel
theorem dX1_init_32 : decode cX1_init 32 = .ok (.aload_n 0, 1) := by decide +kernel
theorem dX1_init_33 : decode cX1_init 33 = .ok (.iconst 3, 1) := by decide +kernel
theorem dX1_init_34 : decode cX1_init 34 = .ok (.newarray .int, 2) := by decide +kernel
theorem dX1_init_36 : decode cX1_init 36 = .ok (.putfield 22, 3) := by decide +kernel
theorem dX1_init_39 : decode cX1_init 39 = .ok (.aload_n 0, 1) := by decide +kernel
theorem dX1_init_40 : decode cX1_init 40 = .ok (.iconst 3, 1) := by decide +kernel
theorem dX1_init_41 : decode cX1_init 41 = .ok (.newarray .int, 2) := by decide +kernel
theorem dX1_init_43 : decode cX1_init 43 = .ok (.putfield 25, 3) := by decide +kernel
theorem dX1_init_46 : decode cX1_init 46 = .ok (.aload_n 0, 1) := by decide +kernel
theorem dX1_init_47 : decode cX1_init 47 = .ok (.iconst 4, 1) := by decide +kernel
theorem dX1_init_48 : decode cX1_init 48 = .ok (.newarray .int, 2) := by decide +kernel
theorem dX1_init_50 : decode cX1_init 50 = .ok (.putfield 28, 3) := by decide +kernel
theorem dX1_init_53 : decode cX1_init 53 = .ok (.aload_n 0, 1) := by decide +kernel
theorem dX1_init_54 : decode cX1_init 54 = .ok (.new 31, 3) := by decide +kernel
theorem dX1_init_57 : decode cX1_init 57 = .ok (.dup, 1) := by decide +kernel
theorem dX1_init_58 : decode cX1_init 58 = .ok (.invokespecial 33, 3) := by decide +kernel
theorem dX1_init_61 : decode cX1_init 61 = .ok (.putfield 34, 3) := by decide +kernel
theorem dX1_init_64 : decode cX1_init 64 = .ok (.aload_n 0, 1) := by decide +kernel
theorem dX1_init_65 : decode cX1_init 65 = .ok (.new 31, 3) := by decide +kernel
theorem dX1_init_68 : decode cX1_init 68 = .ok (.dup, 1) := by decide +kernel
theorem dX1_init_69 : decode cX1_init 69 = .ok (.invokespecial 33, 3) := by decide +kernel
theorem dX1_init_72 : decode cX1_init 72 = .ok (.putfield 38, 3) := by decide +kernel
theorem dX1_init_75 : decode cX1_init 75 = .ok (.iconst 0, 1) := by decide +kernel
theorem dX1_init_76 : decode cX1_init 76 = .ok (.istore_n 1, 1) := by decide +kernel
theorem dX1_init_77 : decode cX1_init 77 = .ok (.iload_n 1, 1) := by decide +kernel
theorem dX1_init_78 : decode cX1_init 78 = .ok (.iconst 3, 1) := by decide +kernel
theorem dX1_init_79 : decode cX1_init 79 = .ok (.if_icmp .ge 23, 3) := by decide +kernel
theorem dX1_init_82 : decode cX1_init 82 = .ok (.aload_n 0, 1) := by decide +kernel
theorem dX1_init_83 : decode cX1_init 83 = .ok (.getfield 19, 3) := by decide +kernel
theorem dX1_init_86 : decode cX1_init 86 = .ok (.iload_n 1, 1) := by decide +kernel
theorem dX1_init_87 : decode cX1_init 87 = .ok (.iconst 1, 1) := by decide +kernel
theorem dX1_init_88 : decode cX1_init 88 = .ok (.iastore, 1) := by decide +kernel
theorem dX1_init_89 : decode cX1_init 89 = .ok (.aload_n 0, 1) := by decide +kernel
theorem dX1_init_90 : decode cX1_init 90 = .ok (.getfield 25, 3) := by decide +kernel
theorem dX1_init_93 : decode cX1_init 93 = .ok (.iload_n 1, 1) := by decide +kernel
theorem dX1_init_94 : decode cX1_init 94 = .ok (.iconst 1, 1) := by decide +kernel
theorem dX1_init_95 : decode cX1_init 95 = .ok (.iastore, 1) := by decide +kernel
theorem dX1_init_96 : decode cX1_init 96 = .ok (.iinc 1 1, 3) := by decide +kernel
theorem dX1_init_99 : decode cX1_init 99 = .ok (.goto (-22), 3) := by decide +kernel
theorem dX1_init_102 : decode cX1_init 102 = .ok (.return_, 1) := by decide +kernel
theorem dX1_put_0 : decode cX1_put 0 = .ok (.iload_n 1, 1) := by decide +kernel
theorem dX1_put_1 : decode cX1_put 1 = .ok (.invokestatic 41, 3) := by decide +kernel
theorem dX1_put_4 : decode cX1_put 4 = .ok (.iload_n 2, 1) := by decide +kernel
theorem dX1_put_5 : decode cX1_put 5 = .ok (.ldc2_w 45, 3) := by decide +kernel
theorem dX1_put_8 : decode cX1_put 8 = .ok (.ldc2_w 47, 3) := by decide +kernel
theorem dX1_put_11 : decode cX1_put 11 = .ok (.invokestatic 49, 3) := by decide +kernel
theorem dX1_put_14 : decode cX1_put 14 = .ok (.iload_n 3, 1) := by decide +kernel
theorem dX1_put_15 : decode cX1_put 15 = .ok (.lconst 0, 1) := by decide +kernel
theorem dX1_put_16 : decode cX1_put 16 = .ok (.ldc2_w 53, 3) := by decide +kernel
theorem dX1_put_19 : decode cX1_put 19 = .ok (.invokestatic 49, 3) := by decide +kernel
theorem dX1_put_22 : decode cX1_put 22 = .ok (.aload_n 0, 1) := by decide +kernel
theorem dX1_put_23 : decode cX1_put 23 = .ok (.iload_n 1, 1) := by decide +kernel
theorem dX1_put_24 : decode cX1_put 24 = .ok (.iload_n 2, 1) := by decide +kernel
theorem dX1_put_25 : decode cX1_put 25 = .ok (.i2l, 1) := by decide +kernel
theorem dX1_put_26 : decode cX1_put 26 = .ok (.iload_n 3, 1) := by decide +kernel
theorem dX1_put_27 : decode cX1_put 27 = .ok (.invokevirtual 55, 3) := by decide +kernel
theorem dX1_put_30 : decode cX1_put 30 = .ok (.ireturn, 1) := by decide +kernel
theorem dX1_write_0 : decode cX1_write 0 = .ok (.iload_n 1, 1) := by decide +kernel
theorem dX1_write_1 : decode cX1_write 1 = .ok (.invokestatic 41, 3) := by decide +kernel
theorem dX1_write_4 : decode cX1_write 4 = .ok (.iload_n 3, 1) := by decide +kernel
theorem dX1_write_5 : decode cX1_write 5 = .ok (.lconst 0, 1) := by decide +kernel
theorem dX1_write_6 : decode cX1_write 6 = .ok (.ldc2_w 47, 3) := by decide +kernel
theorem dX1_write_9 : decode cX1_write 9 = .ok (.invokestatic 49, 3) := by decide +kernel
theorem dX1_write_12 : decode cX1_write 12 = .ok (.iload 4, 2) := by decide +kernel
theorem dX1_write_14 : decode cX1_write 14 = .ok (.lconst 0, 1) := by decide +kernel
theorem dX1_write_15 : decode cX1_write 15 = .ok (.ldc2_w 53, 3) := by decide +kernel
theorem dX1_write_18 : decode cX1_write 18 = .ok (.invokestatic 49, 3) := by decide +kernel
theorem dX1_write_21 : decode cX1_write 21 = .ok (.iload 5, 2) := by decide +kernel
theorem dX1_write_23 : decode cX1_write 23 = .ok (.lconst 0, 1) := by decide +kernel
theorem dX1_write_24 : decode cX1_write 24 = .ok (.iload 4, 2) := by decide +kernel
theorem dX1_write_26 : decode cX1_write 26 = .ok (.invokestatic 59, 3) := by decide +kernel
theorem dX1_write_29 : decode cX1_write 29 = .ok (.lconst 1, 1) := by decide +kernel
theorem dX1_write_30 : decode cX1_write 30 = .ok (.lsub, 1) := by decide +kernel
theorem dX1_write_31 : decode cX1_write 31 = .ok (.invokestatic 49, 3) := by decide +kernel
theorem dX1_write_34 : decode cX1_write 34 = .ok (.iload_n 3, 1) := by decide +kernel
theorem dX1_write_35 : decode cX1_write 35 = .ok (.i2l, 1) := by decide +kernel
theorem dX1_write_36 : decode cX1_write 36 = .ok (.iload 4, 2) := by decide +kernel
theorem dX1_write_38 : decode cX1_write 38 = .ok (.invokestatic 59, 3) := by decide +kernel
theorem dX1_write_41 : decode cX1_write 41 = .ok (.lmul, 1) := by decide +kernel
theorem dX1_write_42 : decode cX1_write 42 = .ok (.iload 5, 2) := by decide +kernel
theorem dX1_write_44 : decode cX1_write 44 = .ok (.i2l, 1) := by decide +kernel
theorem dX1_write_45 : decode cX1_write 45 = .ok (.ladd, 1) := by decide +kernel
theorem dX1_write_46 : decode cX1_write 46 = .ok (.lstore 6, 2) := by decide +kernel
theorem dX1_write_48 : decode cX1_write 48 = .ok (.aload_n 0, 1) := by decide +kernel
theorem dX1_write_49 : decode cX1_write 49 = .ok (.iload_n 1, 1) := by decide +kernel
theorem dX1_write_50 : decode cX1_write 50 = .ok (.iload_n 2, 1) := by decide +kernel
theorem dX1_write_51 : decode cX1_write 51 = .ok (.ifCond .eq 9, 3) := by decide +kernel
theorem dX1_write_54 : decode cX1_write 54 = .ok (.lload 6, 2) := by decide +kernel
theorem dX1_write_56 : decode cX1_write 56 = .ok (.lneg, 1) := by decide +kernel
theorem dX1_write_57 : decode cX1_write 57 = .ok (.goto 5, 3) := by decide +kernel
theorem dX1_write_60 : decode cX1_write 60 = .ok (.lload 6, 2) := by decide +kernel
theorem dX1_write_62 : decode cX1_write 62 = .ok (.iload 4, 2) := by decide +kernel
theorem dX1_write_64 : decode cX1_write 64 = .ok (.invokevirtual 55, 3) := by decide +kernel
theorem dX1_write_67 : decode cX1_write 67 = .ok (.ireturn, 1) := by decide +kernel
theorem dX1_copy_0 : decode cX1_copy 0 = .ok (.iload_n 1, 1) := by decide +kernel
theorem dX1_copy_1 : decode cX1_copy 1 = .ok (.invokestatic 41, 3) := by decide +kernel
theorem dX1_copy_4 : decode cX1_copy 4 = .ok (.iload_n 2, 1) := by decide +kernel
theorem dX1_copy_5 : decode cX1_copy 5 = .ok (.invokestatic 41, 3) := by decide +kernel
theorem dX1_copy_8 : decode cX1_copy 8 = .ok (.aload_n 0, 1) := by decide +kernel
theorem dX1_copy_9 : decode cX1_copy 9 = .ok (.iload_n 2, 1) := by decide +kernel
theorem dX1_copy_10 : decode cX1_copy 10 = .ok (.aload_n 0, 1) := by decide +kernel
theorem dX1_copy_11 : decode cX1_copy 11 = .ok (.getfield 9, 3) := by decide +kernel
theorem dX1_copy_14 : decode cX1_copy 14 = .ok (.iload_n 1, 1) := by decide +kernel
theorem dX1_copy_15 : decode cX1_copy 15 = .ok (.iaload, 1) := by decide +kernel
theorem dX1_copy_16 : decode cX1_copy 16 = .ok (.i2l, 1) := by decide +kernel
theorem dX1_copy_17 : decode cX1_copy 17 = .ok (.aload_n 0, 1) := by decide +kernel
theorem dX1_copy_18 : decode cX1_copy 18 = .ok (.getfield 13, 3) := by decide +kernel
theorem dX1_copy_21 : decode cX1_copy 21 = .ok (.iload_n 1, 1) := by decide +kernel
theorem dX1_copy_22 : decode cX1_copy 22 = .ok (.iaload, 1) := by decide +kernel
theorem dX1_copy_23 : decode cX1_copy 23 = .ok (.invokevirtual 55, 3) := by decide +kernel
theorem dX1_copy_26 : decode cX1_copy 26 = .ok (.ireturn, 1) := by decide +kernel
theorem dX1_negate_0 : decode cX1_negate 0 = .ok (.iload_n 1, 1) := by decide +kernel
theorem dX1_negate_1 : decode cX1_negate 1 = .ok (.invokestatic 41, 3) := by decide +kernel
theorem dX1_negate_4 : decode cX1_negate 4 = .ok (.aload_n 0, 1) := by decide +kernel
theorem dX1_negate_5 : decode cX1_negate 5 = .ok (.iload_n 1, 1) := by decide +kernel
theorem dX1_negate_6 : decode cX1_negate 6 = .ok (.aload_n 0, 1) := by decide +kernel
theorem dX1_negate_7 : decode cX1_negate 7 = .ok (.getfield 9, 3) := by decide +kernel
theorem dX1_negate_10 : decode cX1_negate 10 = .ok (.iload_n 1, 1) := by decide +kernel
theorem dX1_negate_11 : decode cX1_negate 11 = .ok (.iaload, 1) := by decide +kernel
theorem dX1_negate_12 : decode cX1_negate 12 = .ok (.ineg, 1) := by decide +kernel
theorem dX1_negate_13 : decode cX1_negate 13 = .ok (.i2l, 1) := by decide +kernel
theorem dX1_negate_14 : decode cX1_negate 14 = .ok (.aload_n 0, 1) := by decide +kernel
theorem dX1_negate_15 : decode cX1_negate 15 = .ok (.getfield 13, 3) := by decide +kernel
theorem dX1_negate_18 : decode cX1_negate 18 = .ok (.iload_n 1, 1) := by decide +kernel
theorem dX1_negate_19 : decode cX1_negate 19 = .ok (.iaload, 1) := by decide +kernel
theorem dX1_negate_20 : decode cX1_negate 20 = .ok (.invokevirtual 55, 3) := by decide +kernel
theorem dX1_negate_23 : decode cX1_negate 23 = .ok (.ireturn, 1) := by decide +kernel
theorem dX1_size_0 : decode cX1_size 0 = .ok (.iload_n 1, 1) := by decide +kernel
theorem dX1_size_1 : decode cX1_size 1 = .ok (.invokestatic 41, 3) := by decide +kernel
theorem dX1_size_4 : decode cX1_size 4 = .ok (.aload_n 0, 1) := by decide +kernel
theorem dX1_size_5 : decode cX1_size 5 = .ok (.iload_n 1, 1) := by decide +kernel
theorem dX1_size_6 : decode cX1_size 6 = .ok (.aload_n 0, 1) := by decide +kernel
theorem dX1_size_7 : decode cX1_size 7 = .ok (.getfield 9, 3) := by decide +kernel
theorem dX1_size_10 : decode cX1_size 10 = .ok (.iload_n 1, 1) := by decide +kernel
theorem dX1_size_11 : decode cX1_size 11 = .ok (.iaload, 1) := by decide +kernel
theorem dX1_size_12 : decode cX1_size 12 = .ok (.invokestatic 63, 3) := by decide +kernel
theorem dX1_size_15 : decode cX1_size 15 = .ok (.i2l, 1) := by decide +kernel
theorem dX1_size_16 : decode cX1_size 16 = .ok (.aload_n 0, 1) := by decide +kernel
theorem dX1_size_17 : decode cX1_size 17 = .ok (.getfield 13, 3) := by decide +kernel
theorem dX1_size_20 : decode cX1_size 20 = .ok (.iload_n 1, 1) := by decide +kernel
theorem dX1_size_21 : decode cX1_size 21 = .ok (.iaload, 1) := by decide +kernel
theorem dX1_size_22 : decode cX1_size 22 = .ok (.invokevirtual 55, 3) := by decide +kernel
theorem dX1_size_25 : decode cX1_size 25 = .ok (.ireturn, 1) := by decide +kernel
theorem dX1_add_0 : decode cX1_add 0 = .ok (.iload_n 1, 1) := by decide +kernel
theorem dX1_add_1 : decode cX1_add 1 = .ok (.invokestatic 41, 3) := by decide +kernel
theorem dX1_add_4 : decode cX1_add 4 = .ok (.iload_n 2, 1) := by decide +kernel
theorem dX1_add_5 : decode cX1_add 5 = .ok (.invokestatic 41, 3) := by decide +kernel
theorem dX1_add_8 : decode cX1_add 8 = .ok (.iload_n 3, 1) := by decide +kernel
theorem dX1_add_9 : decode cX1_add 9 = .ok (.invokestatic 41, 3) := by decide +kernel
theorem dX1_add_12 : decode cX1_add 12 = .ok (.aload_n 0, 1) := by decide +kernel
theorem dX1_add_13 : decode cX1_add 13 = .ok (.getfield 13, 3) := by decide +kernel
theorem dX1_add_16 : decode cX1_add 16 = .ok (.iload_n 1, 1) := by decide +kernel
theorem dX1_add_17 : decode cX1_add 17 = .ok (.iaload, 1) := by decide +kernel
theorem dX1_add_18 : decode cX1_add 18 = .ok (.aload_n 0, 1) := by decide +kernel
theorem dX1_add_19 : decode cX1_add 19 = .ok (.getfield 13, 3) := by decide +kernel
theorem dX1_add_22 : decode cX1_add 22 = .ok (.iload_n 2, 1) := by decide +kernel
theorem dX1_add_23 : decode cX1_add 23 = .ok (.iaload, 1) := by decide +kernel
theorem dX1_add_24 : decode cX1_add 24 = .ok (.invokestatic 69, 3) := by decide +kernel
theorem dX1_add_27 : decode cX1_add 27 = .ok (.istore 4, 2) := by decide +kernel
theorem dX1_add_29 : decode cX1_add 29 = .ok (.aload_n 0, 1) := by decide +kernel
theorem dX1_add_30 : decode cX1_add 30 = .ok (.iload_n 3, 1) := by decide +kernel
theorem dX1_add_31 : decode cX1_add 31 = .ok (.aload_n 0, 1) := by decide +kernel
theorem dX1_add_32 : decode cX1_add 32 = .ok (.iload_n 1, 1) := by decide +kernel
theorem dX1_add_33 : decode cX1_add 33 = .ok (.iload 4, 2) := by decide +kernel
theorem dX1_add_35 : decode cX1_add 35 = .ok (.invokevirtual 73, 3) := by decide +kernel
theorem dX1_add_38 : decode cX1_add 38 = .ok (.aload_n 0, 1) := by decide +kernel
theorem dX1_add_39 : decode cX1_add 39 = .ok (.iload_n 2, 1) := by decide +kernel
theorem dX1_add_40 : decode cX1_add 40 = .ok (.iload 4, 2) := by decide +kernel
theorem dX1_add_42 : decode cX1_add 42 = .ok (.invokevirtual 73, 3) := by decide +kernel
theorem dX1_add_45 : decode cX1_add 45 = .ok (.ladd, 1) := by decide +kernel
theorem dX1_add_46 : decode cX1_add 46 = .ok (.iload 4, 2) := by decide +kernel
theorem dX1_add_48 : decode cX1_add 48 = .ok (.invokevirtual 55, 3) := by decide +kernel
theorem dX1_add_51 : decode cX1_add 51 = .ok (.ireturn, 1) := by decide +kernel
theorem dX1_subtract_0 : decode cX1_subtract 0 = .ok (.iload_n 1, 1) := by decide +kernel
theorem dX1_subtract_1 : decode cX1_subtract 1 = .ok (.invokestatic 41, 3) := by decide +kernel
theorem dX1_subtract_4 : decode cX1_subtract 4 = .ok (.iload_n 2, 1) := by decide +kernel
theorem dX1_subtract_5 : decode cX1_subtract 5 = .ok (.invokestatic 41, 3) := by decide +kernel
theorem dX1_subtract_8 : decode cX1_subtract 8 = .ok (.iload_n 3, 1) := by decide +kernel
theorem dX1_subtract_9 : decode cX1_subtract 9 = .ok (.invokestatic 41, 3) := by decide +kernel
theorem dX1_subtract_12 : decode cX1_subtract 12 = .ok (.aload_n 0, 1) := by decide +kernel
theorem dX1_subtract_13 : decode cX1_subtract 13 = .ok (.getfield 13, 3) := by decide +kernel
theorem dX1_subtract_16 : decode cX1_subtract 16 = .ok (.iload_n 1, 1) := by decide +kernel
theorem dX1_subtract_17 : decode cX1_subtract 17 = .ok (.iaload, 1) := by decide +kernel
theorem dX1_subtract_18 : decode cX1_subtract 18 = .ok (.aload_n 0, 1) := by decide +kernel
theorem dX1_subtract_19 : decode cX1_subtract 19 = .ok (.getfield 13, 3) := by decide +kernel
theorem dX1_subtract_22 : decode cX1_subtract 22 = .ok (.iload_n 2, 1) := by decide +kernel
theorem dX1_subtract_23 : decode cX1_subtract 23 = .ok (.iaload, 1) := by decide +kernel
theorem dX1_subtract_24 : decode cX1_subtract 24 = .ok (.invokestatic 69, 3) := by decide +kernel
theorem dX1_subtract_27 : decode cX1_subtract 27 = .ok (.istore 4, 2) := by decide +kernel
theorem dX1_subtract_29 : decode cX1_subtract 29 = .ok (.aload_n 0, 1) := by decide +kernel
theorem dX1_subtract_30 : decode cX1_subtract 30 = .ok (.iload_n 3, 1) := by decide +kernel
theorem dX1_subtract_31 : decode cX1_subtract 31 = .ok (.aload_n 0, 1) := by decide +kernel
theorem dX1_subtract_32 : decode cX1_subtract 32 = .ok (.iload_n 1, 1) := by decide +kernel
theorem dX1_subtract_33 : decode cX1_subtract 33 = .ok (.iload 4, 2) := by decide +kernel
theorem dX1_subtract_35 : decode cX1_subtract 35 = .ok (.invokevirtual 73, 3) := by decide +kernel
theorem dX1_subtract_38 : decode cX1_subtract 38 = .ok (.aload_n 0, 1) := by decide +kernel
theorem dX1_subtract_39 : decode cX1_subtract 39 = .ok (.iload_n 2, 1) := by decide +kernel
theorem dX1_subtract_40 : decode cX1_subtract 40 = .ok (.iload 4, 2) := by decide +kernel
theorem dX1_subtract_42 : decode cX1_subtract 42 = .ok (.invokevirtual 73, 3) := by decide +kernel
theorem dX1_subtract_45 : decode cX1_subtract 45 = .ok (.lsub, 1) := by decide +kernel
theorem dX1_subtract_46 : decode cX1_subtract 46 = .ok (.iload 4, 2) := by decide +kernel
theorem dX1_subtract_48 : decode cX1_subtract 48 = .ok (.invokevirtual 55, 3) := by decide +kernel
theorem dX1_subtract_51 : decode cX1_subtract 51 = .ok (.ireturn, 1) := by decide +kernel
theorem dX1_multiply_0 : decode cX1_multiply 0 = .ok (.iload_n 1, 1) := by decide +kernel
theorem dX1_multiply_1 : decode cX1_multiply 1 = .ok (.invokestatic 41, 3) := by decide +kernel
theorem dX1_multiply_4 : decode cX1_multiply 4 = .ok (.iload_n 2, 1) := by decide +kernel
theorem dX1_multiply_5 : decode cX1_multiply 5 = .ok (.invokestatic 41, 3) := by decide +kernel
theorem dX1_multiply_8 : decode cX1_multiply 8 = .ok (.iload_n 3, 1) := by decide +kernel
theorem dX1_multiply_9 : decode cX1_multiply 9 = .ok (.invokestatic 41, 3) := by decide +kernel
theorem dX1_multiply_12 : decode cX1_multiply 12 = .ok (.aload_n 0, 1) := by decide +kernel
theorem dX1_multiply_13 : decode cX1_multiply 13 = .ok (.iload_n 3, 1) := by decide +kernel
theorem dX1_multiply_14 : decode cX1_multiply 14 = .ok (.aload_n 0, 1) := by decide +kernel
theorem dX1_multiply_15 : decode cX1_multiply 15 = .ok (.getfield 9, 3) := by decide +kernel
theorem dX1_multiply_18 : decode cX1_multiply 18 = .ok (.iload_n 1, 1) := by decide +kernel
theorem dX1_multiply_19 : decode cX1_multiply 19 = .ok (.iaload, 1) := by decide +kernel
theorem dX1_multiply_20 : decode cX1_multiply 20 = .ok (.i2l, 1) := by decide +kernel
theorem dX1_multiply_21 : decode cX1_multiply 21 = .ok (.aload_n 0, 1) := by decide +kernel
theorem dX1_multiply_22 : decode cX1_multiply 22 = .ok (.getfield 9, 3) := by decide +kernel
theorem dX1_multiply_25 : decode cX1_multiply 25 = .ok (.iload_n 2, 1) := by decide +kernel
theorem dX1_multiply_26 : decode cX1_multiply 26 = .ok (.iaload, 1) := by decide +kernel
theorem dX1_multiply_27 : decode cX1_multiply 27 = .ok (.i2l, 1) := by decide +kernel
theorem dX1_multiply_28 : decode cX1_multiply 28 = .ok (.lmul, 1) := by decide +kernel
theorem dX1_multiply_29 : decode cX1_multiply 29 = .ok (.aload_n 0, 1) := by decide +kernel
theorem dX1_multiply_30 : decode cX1_multiply 30 = .ok (.getfield 13, 3) := by decide +kernel
theorem dX1_multiply_33 : decode cX1_multiply 33 = .ok (.iload_n 1, 1) := by decide +kernel
theorem dX1_multiply_34 : decode cX1_multiply 34 = .ok (.iaload, 1) := by decide +kernel
theorem dX1_multiply_35 : decode cX1_multiply 35 = .ok (.aload_n 0, 1) := by decide +kernel
theorem dX1_multiply_36 : decode cX1_multiply 36 = .ok (.getfield 13, 3) := by decide +kernel
theorem dX1_multiply_39 : decode cX1_multiply 39 = .ok (.iload_n 2, 1) := by decide +kernel
theorem dX1_multiply_40 : decode cX1_multiply 40 = .ok (.iaload, 1) := by decide +kernel
theorem dX1_multiply_41 : decode cX1_multiply 41 = .ok (.iadd, 1) := by decide +kernel
theorem dX1_multiply_42 : decode cX1_multiply 42 = .ok (.invokevirtual 55, 3) := by decide +kernel
theorem dX1_multiply_45 : decode cX1_multiply 45 = .ok (.ireturn, 1) := by decide +kernel
theorem dX1_power_0 : decode cX1_power 0 = .ok (.iload_n 1, 1) := by decide +kernel
theorem dX1_power_1 : decode cX1_power 1 = .ok (.invokestatic 41, 3) := by decide +kernel
theorem dX1_power_4 : decode cX1_power 4 = .ok (.iload_n 3, 1) := by decide +kernel
theorem dX1_power_5 : decode cX1_power 5 = .ok (.invokestatic 41, 3) := by decide +kernel
theorem dX1_power_8 : decode cX1_power 8 = .ok (.iload_n 2, 1) := by decide +kernel
theorem dX1_power_9 : decode cX1_power 9 = .ok (.lconst 0, 1) := by decide +kernel
theorem dX1_power_10 : decode cX1_power 10 = .ok (.ldc2_w 53, 3) := by decide +kernel
theorem dX1_power_13 : decode cX1_power 13 = .ok (.invokestatic 49, 3) := by decide +kernel
theorem dX1_power_16 : decode cX1_power 16 = .ok (.lconst 1, 1) := by decide +kernel
theorem dX1_power_17 : decode cX1_power 17 = .ok (.lstore 4, 2) := by decide +kernel
theorem dX1_power_19 : decode cX1_power 19 = .ok (.iconst 0, 1) := by decide +kernel
theorem dX1_power_20 : decode cX1_power 20 = .ok (.istore 6, 2) := by decide +kernel
theorem dX1_power_22 : decode cX1_power 22 = .ok (.iload 6, 2) := by decide +kernel
theorem dX1_power_24 : decode cX1_power 24 = .ok (.iload_n 2, 1) := by decide +kernel
theorem dX1_power_25 : decode cX1_power 25 = .ok (.if_icmp .ge 21, 3) := by decide +kernel
theorem dX1_power_28 : decode cX1_power 28 = .ok (.lload 4, 2) := by decide +kernel
theorem dX1_power_30 : decode cX1_power 30 = .ok (.aload_n 0, 1) := by decide +kernel
theorem dX1_power_31 : decode cX1_power 31 = .ok (.getfield 9, 3) := by decide +kernel
theorem dX1_power_34 : decode cX1_power 34 = .ok (.iload_n 1, 1) := by decide +kernel
theorem dX1_power_35 : decode cX1_power 35 = .ok (.iaload, 1) := by decide +kernel
theorem dX1_power_36 : decode cX1_power 36 = .ok (.i2l, 1) := by decide +kernel
theorem dX1_power_37 : decode cX1_power 37 = .ok (.lmul, 1) := by decide +kernel
theorem dX1_power_38 : decode cX1_power 38 = .ok (.lstore 4, 2) := by decide +kernel
theorem dX1_power_40 : decode cX1_power 40 = .ok (.iinc 6 1, 3) := by decide +kernel
theorem dX1_power_43 : decode cX1_power 43 = .ok (.goto (-21), 3) := by decide +kernel
theorem dX1_power_46 : decode cX1_power 46 = .ok (.aload_n 0, 1) := by decide +kernel
theorem dX1_power_47 : decode cX1_power 47 = .ok (.iload_n 3, 1) := by decide +kernel
theorem dX1_power_48 : decode cX1_power 48 = .ok (.lload 4, 2) := by decide +kernel
theorem dX1_power_50 : decode cX1_power 50 = .ok (.iload_n 2, 1) := by decide +kernel
theorem dX1_power_51 : decode cX1_power 51 = .ok (.aload_n 0, 1) := by decide +kernel
theorem dX1_power_52 : decode cX1_power 52 = .ok (.getfield 13, 3) := by decide +kernel
theorem dX1_power_55 : decode cX1_power 55 = .ok (.iload_n 1, 1) := by decide +kernel
theorem dX1_power_56 : decode cX1_power 56 = .ok (.iaload, 1) := by decide +kernel
theorem dX1_power_57 : decode cX1_power 57 = .ok (.imul, 1) := by decide +kernel
theorem dX1_power_58 : decode cX1_power 58 = .ok (.invokevirtual 55, 3) := by decide +kernel
theorem dX1_power_61 : decode cX1_power 61 = .ok (.ireturn, 1) := by decide +kernel
theorem dX1_divide_0 : decode cX1_divide 0 = .ok (.iload_n 1, 1) := by decide +kernel
theorem dX1_divide_1 : decode cX1_divide 1 = .ok (.invokestatic 41, 3) := by decide +kernel
theorem dX1_divide_4 : decode cX1_divide 4 = .ok (.iload_n 2, 1) := by decide +kernel
theorem dX1_divide_5 : decode cX1_divide 5 = .ok (.invokestatic 41, 3) := by decide +kernel
theorem dX1_divide_8 : decode cX1_divide 8 = .ok (.iload 5, 2) := by decide +kernel
theorem dX1_divide_10 : decode cX1_divide 10 = .ok (.invokestatic 41, 3) := by decide +kernel
theorem dX1_divide_13 : decode cX1_divide 13 = .ok (.iload_n 3, 1) := by decide +kernel
theorem dX1_divide_14 : decode cX1_divide 14 = .ok (.lconst 0, 1) := by decide +kernel
theorem dX1_divide_15 : decode cX1_divide 15 = .ok (.ldc2_w 53, 3) := by decide +kernel
theorem dX1_divide_18 : decode cX1_divide 18 = .ok (.invokestatic 49, 3) := by decide +kernel
theorem dX1_divide_21 : decode cX1_divide 21 = .ok (.iload 4, 2) := by decide +kernel
theorem dX1_divide_23 : decode cX1_divide 23 = .ok (.invokestatic 77, 3) := by decide +kernel
theorem dX1_divide_26 : decode cX1_divide 26 = .ok (.aload_n 0, 1) := by decide +kernel
theorem dX1_divide_27 : decode cX1_divide 27 = .ok (.getfield 9, 3) := by decide +kernel
theorem dX1_divide_30 : decode cX1_divide 30 = .ok (.iload_n 1, 1) := by decide +kernel
theorem dX1_divide_31 : decode cX1_divide 31 = .ok (.iaload, 1) := by decide +kernel
theorem dX1_divide_32 : decode cX1_divide 32 = .ok (.i2l, 1) := by decide +kernel
theorem dX1_divide_33 : decode cX1_divide 33 = .ok (.aload_n 0, 1) := by decide +kernel
theorem dX1_divide_34 : decode cX1_divide 34 = .ok (.getfield 13, 3) := by decide +kernel
theorem dX1_divide_37 : decode cX1_divide 37 = .ok (.iload_n 2, 1) := by decide +kernel
theorem dX1_divide_38 : decode cX1_divide 38 = .ok (.iaload, 1) := by decide +kernel
theorem dX1_divide_39 : decode cX1_divide 39 = .ok (.invokestatic 59, 3) := by decide +kernel
theorem dX1_divide_42 : decode cX1_divide 42 = .ok (.lmul, 1) := by decide +kernel
theorem dX1_divide_43 : decode cX1_divide 43 = .ok (.iload_n 3, 1) := by decide +kernel
theorem dX1_divide_44 : decode cX1_divide 44 = .ok (.invokestatic 59, 3) := by decide +kernel
theorem dX1_divide_47 : decode cX1_divide 47 = .ok (.lmul, 1) := by decide +kernel
theorem dX1_divide_48 : decode cX1_divide 48 = .ok (.lstore 6, 2) := by decide +kernel
theorem dX1_divide_50 : decode cX1_divide 50 = .ok (.aload_n 0, 1) := by decide +kernel
theorem dX1_divide_51 : decode cX1_divide 51 = .ok (.getfield 9, 3) := by decide +kernel
theorem dX1_divide_54 : decode cX1_divide 54 = .ok (.iload_n 2, 1) := by decide +kernel
theorem dX1_divide_55 : decode cX1_divide 55 = .ok (.iaload, 1) := by decide +kernel
theorem dX1_divide_56 : decode cX1_divide 56 = .ok (.i2l, 1) := by decide +kernel
theorem dX1_divide_57 : decode cX1_divide 57 = .ok (.aload_n 0, 1) := by decide +kernel
theorem dX1_divide_58 : decode cX1_divide 58 = .ok (.getfield 13, 3) := by decide +kernel
theorem dX1_divide_61 : decode cX1_divide 61 = .ok (.iload_n 1, 1) := by decide +kernel
theorem dX1_divide_62 : decode cX1_divide 62 = .ok (.iaload, 1) := by decide +kernel
theorem dX1_divide_63 : decode cX1_divide 63 = .ok (.invokestatic 59, 3) := by decide +kernel
theorem dX1_divide_66 : decode cX1_divide 66 = .ok (.lmul, 1) := by decide +kernel
theorem dX1_divide_67 : decode cX1_divide 67 = .ok (.lstore 8, 2) := by decide +kernel
theorem dX1_divide_69 : decode cX1_divide 69 = .ok (.lload 8, 2) := by decide +kernel
theorem dX1_divide_71 : decode cX1_divide 71 = .ok (.lconst 0, 1) := by decide +kernel
theorem dX1_divide_72 : decode cX1_divide 72 = .ok (.lcmp, 1) := by decide +kernel
theorem dX1_divide_73 : decode cX1_divide 73 = .ok (.ifCond .ne 8, 3) := by decide +kernel
theorem dX1_divide_76 : decode cX1_divide 76 = .ok (.aload_n 0, 1) := by decide +kernel
theorem dX1_divide_77 : decode cX1_divide 77 = .ok (.invokevirtual 80, 3) := by decide +kernel
theorem dX1_divide_80 : decode cX1_divide 80 = .ok (.ireturn, 1) := by decide +kernel
theorem dX1_divide_81 : decode cX1_divide 81 = .ok (.aload_n 0, 1) := by decide +kernel
theorem dX1_divide_82 : decode cX1_divide 82 = .ok (.iload 5, 2) := by decide +kernel
theorem dX1_divide_84 : decode cX1_divide 84 = .ok (.lload 8, 2) := by decide +kernel
theorem dX1_divide_86 : decode cX1_divide 86 = .ok (.lconst 0, 1) := by decide +kernel
theorem dX1_divide_87 : decode cX1_divide 87 = .ok (.lcmp, 1) := by decide +kernel
theorem dX1_divide_88 : decode cX1_divide 88 = .ok (.ifCond .ge 17, 3) := by decide +kernel
theorem dX1_divide_91 : decode cX1_divide 91 = .ok (.lload 6, 2) := by decide +kernel
theorem dX1_divide_93 : decode cX1_divide 93 = .ok (.lneg, 1) := by decide +kernel
theorem dX1_divide_94 : decode cX1_divide 94 = .ok (.lload 8, 2) := by decide +kernel
theorem dX1_divide_96 : decode cX1_divide 96 = .ok (.lneg, 1) := by decide +kernel
theorem dX1_divide_97 : decode cX1_divide 97 = .ok (.iload 4, 2) := by decide +kernel
theorem dX1_divide_99 : decode cX1_divide 99 = .ok (.invokestatic 84, 3) := by decide +kernel
theorem dX1_divide_102 : decode cX1_divide 102 = .ok (.goto 12, 3) := by decide +kernel
theorem dX1_divide_105 : decode cX1_divide 105 = .ok (.lload 6, 2) := by decide +kernel
theorem dX1_divide_107 : decode cX1_divide 107 = .ok (.lload 8, 2) := by decide +kernel
theorem dX1_divide_109 : decode cX1_divide 109 = .ok (.iload 4, 2) := by decide +kernel
theorem dX1_divide_111 : decode cX1_divide 111 = .ok (.invokestatic 84, 3) := by decide +kernel
theorem dX1_divide_114 : decode cX1_divide 114 = .ok (.iload_n 3, 1) := by decide +kernel
theorem dX1_divide_115 : decode cX1_divide 115 = .ok (.invokevirtual 55, 3) := by decide +kernel
theorem dX1_divide_118 : decode cX1_divide 118 = .ok (.ireturn, 1) := by decide +kernel
theorem dX1_share_0 : decode cX1_share 0 = .ok (.iload_n 1, 1) := by decide +kernel
theorem dX1_share_1 : decode cX1_share 1 = .ok (.invokestatic 41, 3) := by decide +kernel
theorem dX1_share_4 : decode cX1_share 4 = .ok (.iload_n 3, 1) := by decide +kernel
theorem dX1_share_5 : decode cX1_share 5 = .ok (.invokestatic 41, 3) := by decide +kernel
theorem dX1_share_8 : decode cX1_share 8 = .ok (.iload_n 2, 1) := by decide +kernel
theorem dX1_share_9 : decode cX1_share 9 = .ok (.ldc2_w 88, 3) := by decide +kernel
theorem dX1_share_12 : decode cX1_share 12 = .ok (.ldc2_w 90, 3) := by decide +kernel
theorem dX1_share_15 : decode cX1_share 15 = .ok (.invokestatic 49, 3) := by decide +kernel
theorem dX1_share_18 : decode cX1_share 18 = .ok (.iload_n 2, 1) := by decide +kernel
theorem dX1_share_19 : decode cX1_share 19 = .ok (.ifCond .ne 8, 3) := by decide +kernel
theorem dX1_share_22 : decode cX1_share 22 = .ok (.aload_n 0, 1) := by decide +kernel
theorem dX1_share_23 : decode cX1_share 23 = .ok (.invokevirtual 80, 3) := by decide +kernel
theorem dX1_share_26 : decode cX1_share 26 = .ok (.ireturn, 1) := by decide +kernel
theorem dX1_share_27 : decode cX1_share 27 = .ok (.aload_n 0, 1) := by decide +kernel
theorem dX1_share_28 : decode cX1_share 28 = .ok (.getfield 9, 3) := by decide +kernel
theorem dX1_share_31 : decode cX1_share 31 = .ok (.iload_n 1, 1) := by decide +kernel
theorem dX1_share_32 : decode cX1_share 32 = .ok (.iaload, 1) := by decide +kernel
theorem dX1_share_33 : decode cX1_share 33 = .ok (.i2l, 1) := by decide +kernel
theorem dX1_share_34 : decode cX1_share 34 = .ok (.lstore 4, 2) := by decide +kernel
theorem dX1_share_36 : decode cX1_share 36 = .ok (.aload_n 0, 1) := by decide +kernel
theorem dX1_share_37 : decode cX1_share 37 = .ok (.getfield 13, 3) := by decide +kernel
theorem dX1_share_40 : decode cX1_share 40 = .ok (.iload_n 1, 1) := by decide +kernel
theorem dX1_share_41 : decode cX1_share 41 = .ok (.iaload, 1) := by decide +kernel
theorem dX1_share_42 : decode cX1_share 42 = .ok (.istore 6, 2) := by decide +kernel
theorem dX1_share_44 : decode cX1_share 44 = .ok (.lload 4, 2) := by decide +kernel
theorem dX1_share_46 : decode cX1_share 46 = .ok (.iload_n 2, 1) := by decide +kernel
theorem dX1_share_47 : decode cX1_share 47 = .ok (.i2l, 1) := by decide +kernel
theorem dX1_share_48 : decode cX1_share 48 = .ok (.lrem, 1) := by decide +kernel
theorem dX1_share_49 : decode cX1_share 49 = .ok (.lconst 0, 1) := by decide +kernel
theorem dX1_share_50 : decode cX1_share 50 = .ok (.lcmp, 1) := by decide +kernel
theorem dX1_share_51 : decode cX1_share 51 = .ok (.ifCond .eq 23, 3) := by decide +kernel
theorem dX1_share_54 : decode cX1_share 54 = .ok (.iload 6, 2) := by decide +kernel
theorem dX1_share_56 : decode cX1_share 56 = .ok (.iconst 3, 1) := by decide +kernel
theorem dX1_share_57 : decode cX1_share 57 = .ok (.if_icmp .ge 17, 3) := by decide +kernel
theorem dX1_share_60 : decode cX1_share 60 = .ok (.lload 4, 2) := by decide +kernel
theorem dX1_share_62 : decode cX1_share 62 = .ok (.ldc2_w 92, 3) := by decide +kernel
theorem dX1_share_65 : decode cX1_share 65 = .ok (.lmul, 1) := by decide +kernel
theorem dX1_share_66 : decode cX1_share 66 = .ok (.lstore 4, 2) := by decide +kernel
theorem dX1_share_68 : decode cX1_share 68 = .ok (.iinc 6 1, 3) := by decide +kernel
theorem dX1_share_71 : decode cX1_share 71 = .ok (.goto (-27), 3) := by decide +kernel
theorem dX1_share_74 : decode cX1_share 74 = .ok (.lload 4, 2) := by decide +kernel
theorem dX1_share_76 : decode cX1_share 76 = .ok (.iload_n 2, 1) := by decide +kernel
theorem dX1_share_77 : decode cX1_share 77 = .ok (.i2l, 1) := by decide +kernel
theorem dX1_share_78 : decode cX1_share 78 = .ok (.lrem, 1) := by decide +kernel
theorem dX1_share_79 : decode cX1_share 79 = .ok (.lconst 0, 1) := by decide +kernel
theorem dX1_share_80 : decode cX1_share 80 = .ok (.lcmp, 1) := by decide +kernel
theorem dX1_share_81 : decode cX1_share 81 = .ok (.ifCond .ne 18, 3) := by decide +kernel
theorem dX1_share_84 : decode cX1_share 84 = .ok (.aload_n 0, 1) := by decide +kernel
theorem dX1_share_85 : decode cX1_share 85 = .ok (.iload_n 3, 1) := by decide +kernel
theorem dX1_share_86 : decode cX1_share 86 = .ok (.lload 4, 2) := by decide +kernel
theorem dX1_share_88 : decode cX1_share 88 = .ok (.iload_n 2, 1) := by decide +kernel
theorem dX1_share_89 : decode cX1_share 89 = .ok (.i2l, 1) := by decide +kernel
theorem dX1_share_90 : decode cX1_share 90 = .ok (.ldiv, 1) := by decide +kernel
theorem dX1_share_91 : decode cX1_share 91 = .ok (.iload 6, 2) := by decide +kernel
theorem dX1_share_93 : decode cX1_share 93 = .ok (.invokevirtual 55, 3) := by decide +kernel
theorem dX1_share_96 : decode cX1_share 96 = .ok (.goto 7, 3) := by decide +kernel
theorem dX1_share_99 : decode cX1_share 99 = .ok (.aload_n 0, 1) := by decide +kernel
theorem dX1_share_100 : decode cX1_share 100 = .ok (.invokevirtual 80, 3) := by decide +kernel
theorem dX1_share_103 : decode cX1_share 103 = .ok (.ireturn, 1) := by decide +kernel
theorem dX1_whole_0 : decode cX1_whole 0 = .ok (.iload_n 1, 1) := by decide +kernel
theorem dX1_whole_1 : decode cX1_whole 1 = .ok (.invokestatic 41, 3) := by decide +kernel
theorem dX1_whole_4 : decode cX1_whole 4 = .ok (.iload_n 3, 1) := by decide +kernel
theorem dX1_whole_5 : decode cX1_whole 5 = .ok (.invokestatic 41, 3) := by decide +kernel
theorem dX1_whole_8 : decode cX1_whole 8 = .ok (.iload_n 2, 1) := by decide +kernel
theorem dX1_whole_9 : decode cX1_whole 9 = .ok (.ldc2_w 88, 3) := by decide +kernel
theorem dX1_whole_12 : decode cX1_whole 12 = .ok (.ldc2_w 90, 3) := by decide +kernel
theorem dX1_whole_15 : decode cX1_whole 15 = .ok (.invokestatic 49, 3) := by decide +kernel
theorem dX1_whole_18 : decode cX1_whole 18 = .ok (.iload_n 2, 1) := by decide +kernel
theorem dX1_whole_19 : decode cX1_whole 19 = .ok (.i2l, 1) := by decide +kernel
theorem dX1_whole_20 : decode cX1_whole 20 = .ok (.aload_n 0, 1) := by decide +kernel
theorem dX1_whole_21 : decode cX1_whole 21 = .ok (.getfield 13, 3) := by decide +kernel
theorem dX1_whole_24 : decode cX1_whole 24 = .ok (.iload_n 1, 1) := by decide +kernel
theorem dX1_whole_25 : decode cX1_whole 25 = .ok (.iaload, 1) := by decide +kernel
theorem dX1_whole_26 : decode cX1_whole 26 = .ok (.invokestatic 59, 3) := by decide +kernel
theorem dX1_whole_29 : decode cX1_whole 29 = .ok (.lmul, 1) := by decide +kernel
theorem dX1_whole_30 : decode cX1_whole 30 = .ok (.lstore 4, 2) := by decide +kernel
theorem dX1_whole_32 : decode cX1_whole 32 = .ok (.lload 4, 2) := by decide +kernel
theorem dX1_whole_34 : decode cX1_whole 34 = .ok (.lconst 0, 1) := by decide +kernel
theorem dX1_whole_35 : decode cX1_whole 35 = .ok (.lcmp, 1) := by decide +kernel
theorem dX1_whole_36 : decode cX1_whole 36 = .ok (.ifCond .ne 10, 3) := by decide +kernel
theorem dX1_whole_39 : decode cX1_whole 39 = .ok (.aload_n 0, 1) := by decide +kernel
theorem dX1_whole_40 : decode cX1_whole 40 = .ok (.invokevirtual 80, 3) := by decide +kernel
theorem dX1_whole_43 : decode cX1_whole 43 = .ok (.goto 19, 3) := by decide +kernel
theorem dX1_whole_46 : decode cX1_whole 46 = .ok (.aload_n 0, 1) := by decide +kernel
theorem dX1_whole_47 : decode cX1_whole 47 = .ok (.iload_n 3, 1) := by decide +kernel
theorem dX1_whole_48 : decode cX1_whole 48 = .ok (.aload_n 0, 1) := by decide +kernel
theorem dX1_whole_49 : decode cX1_whole 49 = .ok (.getfield 9, 3) := by decide +kernel
theorem dX1_whole_52 : decode cX1_whole 52 = .ok (.iload_n 1, 1) := by decide +kernel
theorem dX1_whole_53 : decode cX1_whole 53 = .ok (.iaload, 1) := by decide +kernel
theorem dX1_whole_54 : decode cX1_whole 54 = .ok (.i2l, 1) := by decide +kernel
theorem dX1_whole_55 : decode cX1_whole 55 = .ok (.lload 4, 2) := by decide +kernel
theorem dX1_whole_57 : decode cX1_whole 57 = .ok (.ldiv, 1) := by decide +kernel
theorem dX1_whole_58 : decode cX1_whole 58 = .ok (.iconst 0, 1) := by decide +kernel
theorem dX1_whole_59 : decode cX1_whole 59 = .ok (.invokevirtual 55, 3) := by decide +kernel
theorem dX1_whole_62 : decode cX1_whole 62 = .ok (.ireturn, 1) := by decide +kernel
theorem dX1_rest_0 : decode cX1_rest 0 = .ok (.iload_n 1, 1) := by decide +kernel
theorem dX1_rest_1 : decode cX1_rest 1 = .ok (.invokestatic 41, 3) := by decide +kernel
theorem dX1_rest_4 : decode cX1_rest 4 = .ok (.iload_n 3, 1) := by decide +kernel
theorem dX1_rest_5 : decode cX1_rest 5 = .ok (.invokestatic 41, 3) := by decide +kernel
theorem dX1_rest_8 : decode cX1_rest 8 = .ok (.iload_n 2, 1) := by decide +kernel
theorem dX1_rest_9 : decode cX1_rest 9 = .ok (.ldc2_w 88, 3) := by decide +kernel
theorem dX1_rest_12 : decode cX1_rest 12 = .ok (.ldc2_w 90, 3) := by decide +kernel
theorem dX1_rest_15 : decode cX1_rest 15 = .ok (.invokestatic 49, 3) := by decide +kernel
theorem dX1_rest_18 : decode cX1_rest 18 = .ok (.iload_n 2, 1) := by decide +kernel
theorem dX1_rest_19 : decode cX1_rest 19 = .ok (.i2l, 1) := by decide +kernel
theorem dX1_rest_20 : decode cX1_rest 20 = .ok (.aload_n 0, 1) := by decide +kernel
theorem dX1_rest_21 : decode cX1_rest 21 = .ok (.getfield 13, 3) := by decide +kernel
theorem dX1_rest_24 : decode cX1_rest 24 = .ok (.iload_n 1, 1) := by decide +kernel
theorem dX1_rest_25 : decode cX1_rest 25 = .ok (.iaload, 1) := by decide +kernel
theorem dX1_rest_26 : decode cX1_rest 26 = .ok (.invokestatic 59, 3) := by decide +kernel
theorem dX1_rest_29 : decode cX1_rest 29 = .ok (.lmul, 1) := by decide +kernel
theorem dX1_rest_30 : decode cX1_rest 30 = .ok (.lstore 4, 2) := by decide +kernel
theorem dX1_rest_32 : decode cX1_rest 32 = .ok (.lload 4, 2) := by decide +kernel
theorem dX1_rest_34 : decode cX1_rest 34 = .ok (.lconst 0, 1) := by decide +kernel
theorem dX1_rest_35 : decode cX1_rest 35 = .ok (.lcmp, 1) := by decide +kernel
theorem dX1_rest_36 : decode cX1_rest 36 = .ok (.ifCond .ne 10, 3) := by decide +kernel
theorem dX1_rest_39 : decode cX1_rest 39 = .ok (.aload_n 0, 1) := by decide +kernel
theorem dX1_rest_40 : decode cX1_rest 40 = .ok (.invokevirtual 80, 3) := by decide +kernel
theorem dX1_rest_43 : decode cX1_rest 43 = .ok (.goto 24, 3) := by decide +kernel
theorem dX1_rest_46 : decode cX1_rest 46 = .ok (.aload_n 0, 1) := by decide +kernel
theorem dX1_rest_47 : decode cX1_rest 47 = .ok (.iload_n 3, 1) := by decide +kernel
theorem dX1_rest_48 : decode cX1_rest 48 = .ok (.aload_n 0, 1) := by decide +kernel
theorem dX1_rest_49 : decode cX1_rest 49 = .ok (.getfield 9, 3) := by decide +kernel
theorem dX1_rest_52 : decode cX1_rest 52 = .ok (.iload_n 1, 1) := by decide +kernel
theorem dX1_rest_53 : decode cX1_rest 53 = .ok (.iaload, 1) := by decide +kernel
theorem dX1_rest_54 : decode cX1_rest 54 = .ok (.i2l, 1) := by decide +kernel
theorem dX1_rest_55 : decode cX1_rest 55 = .ok (.lload 4, 2) := by decide +kernel
theorem dX1_rest_57 : decode cX1_rest 57 = .ok (.lrem, 1) := by decide +kernel
theorem dX1_rest_58 : decode cX1_rest 58 = .ok (.aload_n 0, 1) := by decide +kernel
theorem dX1_rest_59 : decode cX1_rest 59 = .ok (.getfield 13, 3) := by decide +kernel
theorem dX1_rest_62 : decode cX1_rest 62 = .ok (.iload_n 1, 1) := by decide +kernel
theorem dX1_rest_63 : decode cX1_rest 63 = .ok (.iaload, 1) := by decide +kernel
theorem dX1_rest_64 : decode cX1_rest 64 = .ok (.invokevirtual 55, 3) := by decide +kernel
theorem dX1_rest_67 : decode cX1_rest 67 = .ok (.ireturn, 1) := by decide +kernel
theorem dX1_setPlaces_0 : decode cX1_setPlaces 0 = .ok (.iload_n 1, 1) := by decide +kernel
theorem dX1_setPlaces_1 : decode cX1_setPlaces 1 = .ok (.invokestatic 41, 3) := by decide +kernel
theorem dX1_setPlaces_4 : decode cX1_setPlaces 4 = .ok (.iload_n 2, 1) := by decide +kernel
theorem dX1_setPlaces_5 : decode cX1_setPlaces 5 = .ok (.lconst 0, 1) := by decide +kernel
theorem dX1_setPlaces_6 : decode cX1_setPlaces 6 = .ok (.ldc2_w 53, 3) := by decide +kernel
theorem dX1_setPlaces_9 : decode cX1_setPlaces 9 = .ok (.invokestatic 49, 3) := by decide +kernel
theorem dX1_setPlaces_12 : decode cX1_setPlaces 12 = .ok (.iload_n 3, 1) := by decide +kernel
theorem dX1_setPlaces_13 : decode cX1_setPlaces 13 = .ok (.invokestatic 77, 3) := by decide +kernel
theorem dX1_setPlaces_16 : decode cX1_setPlaces 16 = .ok (.aload_n 0, 1) := by decide +kernel
theorem dX1_setPlaces_17 : decode cX1_setPlaces 17 = .ok (.iload_n 1, 1) := by decide +kernel
theorem dX1_setPlaces_18 : decode cX1_setPlaces 18 = .ok (.aload_n 0, 1) := by decide +kernel
theorem dX1_setPlaces_19 : decode cX1_setPlaces 19 = .ok (.getfield 9, 3) := by decide +kernel
theorem dX1_setPlaces_22 : decode cX1_setPlaces 22 = .ok (.iload_n 1, 1) := by decide +kernel
theorem dX1_setPlaces_23 : decode cX1_setPlaces 23 = .ok (.iaload, 1) := by decide +kernel
theorem dX1_setPlaces_24 : decode cX1_setPlaces 24 = .ok (.i2l, 1) := by decide +kernel
theorem dX1_setPlaces_25 : decode cX1_setPlaces 25 = .ok (.iload_n 2, 1) := by decide +kernel
theorem dX1_setPlaces_26 : decode cX1_setPlaces 26 = .ok (.invokestatic 59, 3) := by decide +kernel
theorem dX1_setPlaces_29 : decode cX1_setPlaces 29 = .ok (.lmul, 1) := by decide +kernel
theorem dX1_setPlaces_30 : decode cX1_setPlaces 30 = .ok (.aload_n 0, 1) := by decide +kernel
theorem dX1_setPlaces_31 : decode cX1_setPlaces 31 = .ok (.getfield 13, 3) := by decide +kernel
theorem dX1_setPlaces_34 : decode cX1_setPlaces 34 = .ok (.iload_n 1, 1) := by decide +kernel
theorem dX1_setPlaces_35 : decode cX1_setPlaces 35 = .ok (.iaload, 1) := by decide +kernel
theorem dX1_setPlaces_36 : decode cX1_setPlaces 36 = .ok (.invokestatic 59, 3) := by decide +kernel
theorem dX1_setPlaces_39 : decode cX1_setPlaces 39 = .ok (.iload_n 3, 1) := by decide +kernel
theorem dX1_setPlaces_40 : decode cX1_setPlaces 40 = .ok (.invokestatic 84, 3) := by decide +kernel
theorem dX1_setPlaces_43 : decode cX1_setPlaces 43 = .ok (.iload_n 2, 1) := by decide +kernel
theorem dX1_setPlaces_44 : decode cX1_setPlaces 44 = .ok (.invokevirtual 55, 3) := by decide +kernel
theorem dX1_setPlaces_47 : decode cX1_setPlaces 47 = .ok (.ireturn, 1) := by decide +kernel
theorem dX1_strip_0 : decode cX1_strip 0 = .ok (.iload_n 1, 1) := by decide +kernel
theorem dX1_strip_1 : decode cX1_strip 1 = .ok (.invokestatic 41, 3) := by decide +kernel
theorem dX1_strip_4 : decode cX1_strip 4 = .ok (.aload_n 0, 1) := by decide +kernel
theorem dX1_strip_5 : decode cX1_strip 5 = .ok (.getfield 9, 3) := by decide +kernel
theorem dX1_strip_8 : decode cX1_strip 8 = .ok (.iload_n 1, 1) := by decide +kernel
theorem dX1_strip_9 : decode cX1_strip 9 = .ok (.iaload, 1) := by decide +kernel
theorem dX1_strip_10 : decode cX1_strip 10 = .ok (.istore_n 2, 1) := by decide +kernel
theorem dX1_strip_11 : decode cX1_strip 11 = .ok (.aload_n 0, 1) := by decide +kernel
theorem dX1_strip_12 : decode cX1_strip 12 = .ok (.getfield 13, 3) := by decide +kernel
theorem dX1_strip_15 : decode cX1_strip 15 = .ok (.iload_n 1, 1) := by decide +kernel
theorem dX1_strip_16 : decode cX1_strip 16 = .ok (.iaload, 1) := by decide +kernel
theorem dX1_strip_17 : decode cX1_strip 17 = .ok (.istore_n 3, 1) := by decide +kernel
theorem dX1_strip_18 : decode cX1_strip 18 = .ok (.iload_n 3, 1) := by decide +kernel
theorem dX1_strip_19 : decode cX1_strip 19 = .ok (.ifCond .le 21, 3) := by decide +kernel
theorem dX1_strip_22 : decode cX1_strip 22 = .ok (.iload_n 2, 1) := by decide +kernel
theorem dX1_strip_23 : decode cX1_strip 23 = .ok (.bipush 10, 2) := by decide +kernel
theorem dX1_strip_25 : decode cX1_strip 25 = .ok (.irem, 1) := by decide +kernel
theorem dX1_strip_26 : decode cX1_strip 26 = .ok (.ifCond .ne 14, 3) := by decide +kernel
theorem dX1_strip_29 : decode cX1_strip 29 = .ok (.iload_n 2, 1) := by decide +kernel
theorem dX1_strip_30 : decode cX1_strip 30 = .ok (.bipush 10, 2) := by decide +kernel
theorem dX1_strip_32 : decode cX1_strip 32 = .ok (.idiv, 1) := by decide +kernel
theorem dX1_strip_33 : decode cX1_strip 33 = .ok (.istore_n 2, 1) := by decide +kernel
theorem dX1_strip_34 : decode cX1_strip 34 = .ok (.iinc 3 (-1), 3) := by decide +kernel
theorem dX1_strip_37 : decode cX1_strip 37 = .ok (.goto (-19), 3) := by decide +kernel
theorem dX1_strip_40 : decode cX1_strip 40 = .ok (.aload_n 0, 1) := by decide +kernel
theorem dX1_strip_41 : decode cX1_strip 41 = .ok (.iload_n 1, 1) := by decide +kernel
theorem dX1_strip_42 : decode cX1_strip 42 = .ok (.iload_n 2, 1) := by decide +kernel
theorem dX1_strip_43 : decode cX1_strip 43 = .ok (.i2l, 1) := by decide +kernel
theorem dX1_strip_44 : decode cX1_strip 44 = .ok (.iload_n 3, 1) := by decide +kernel
theorem dX1_strip_45 : decode cX1_strip 45 = .ok (.invokevirtual 55, 3) := by decide +kernel
theorem dX1_strip_48 : decode cX1_strip 48 = .ok (.ireturn, 1) := by decide +kernel
theorem dX1_move_0 : decode cX1_move 0 = .ok (.iload_n 1, 1) := by decide +kernel
theorem dX1_move_1 : decode cX1_move 1 = .ok (.invokestatic 41, 3) := by decide +kernel
theorem dX1_move_4 : decode cX1_move 4 = .ok (.iload_n 2, 1) := by decide +kernel
theorem dX1_move_5 : decode cX1_move 5 = .ok (.ldc2_w 94, 3) := by decide +kernel
theorem dX1_move_8 : decode cX1_move 8 = .ok (.ldc2_w 53, 3) := by decide +kernel
theorem dX1_move_11 : decode cX1_move 11 = .ok (.invokestatic 49, 3) := by decide +kernel
theorem dX1_move_14 : decode cX1_move 14 = .ok (.aload_n 0, 1) := by decide +kernel
theorem dX1_move_15 : decode cX1_move 15 = .ok (.iload_n 1, 1) := by decide +kernel
theorem dX1_move_16 : decode cX1_move 16 = .ok (.aload_n 0, 1) := by decide +kernel
theorem dX1_move_17 : decode cX1_move 17 = .ok (.getfield 9, 3) := by decide +kernel
theorem dX1_move_20 : decode cX1_move 20 = .ok (.iload_n 1, 1) := by decide +kernel
theorem dX1_move_21 : decode cX1_move 21 = .ok (.iaload, 1) := by decide +kernel
theorem dX1_move_22 : decode cX1_move 22 = .ok (.i2l, 1) := by decide +kernel
theorem dX1_move_23 : decode cX1_move 23 = .ok (.aload_n 0, 1) := by decide +kernel
theorem dX1_move_24 : decode cX1_move 24 = .ok (.getfield 13, 3) := by decide +kernel
theorem dX1_move_27 : decode cX1_move 27 = .ok (.iload_n 1, 1) := by decide +kernel
theorem dX1_move_28 : decode cX1_move 28 = .ok (.iaload, 1) := by decide +kernel
theorem dX1_move_29 : decode cX1_move 29 = .ok (.iload_n 2, 1) := by decide +kernel
theorem dX1_move_30 : decode cX1_move 30 = .ok (.iadd, 1) := by decide +kernel
theorem dX1_move_31 : decode cX1_move 31 = .ok (.invokevirtual 96, 3) := by decide +kernel
theorem dX1_move_34 : decode cX1_move 34 = .ok (.ireturn, 1) := by decide +kernel
theorem dX1_round_0 : decode cX1_round 0 = .ok (.iload_n 1, 1) := by decide +kernel
theorem dX1_round_1 : decode cX1_round 1 = .ok (.invokestatic 41, 3) := by decide +kernel
theorem dX1_round_4 : decode cX1_round 4 = .ok (.iload_n 2, 1) := by decide +kernel
theorem dX1_round_5 : decode cX1_round 5 = .ok (.lconst 1, 1) := by decide +kernel
theorem dX1_round_6 : decode cX1_round 6 = .ok (.ldc2_w 99, 3) := by decide +kernel
theorem dX1_round_9 : decode cX1_round 9 = .ok (.invokestatic 49, 3) := by decide +kernel
theorem dX1_round_12 : decode cX1_round 12 = .ok (.iload_n 3, 1) := by decide +kernel
theorem dX1_round_13 : decode cX1_round 13 = .ok (.invokestatic 77, 3) := by decide +kernel
theorem dX1_round_16 : decode cX1_round 16 = .ok (.aload_n 0, 1) := by decide +kernel
theorem dX1_round_17 : decode cX1_round 17 = .ok (.getfield 9, 3) := by decide +kernel
theorem dX1_round_20 : decode cX1_round 20 = .ok (.iload_n 1, 1) := by decide +kernel
theorem dX1_round_21 : decode cX1_round 21 = .ok (.iaload, 1) := by decide +kernel
theorem dX1_round_22 : decode cX1_round 22 = .ok (.i2l, 1) := by decide +kernel
theorem dX1_round_23 : decode cX1_round 23 = .ok (.invokestatic 101, 3) := by decide +kernel
theorem dX1_round_26 : decode cX1_round 26 = .ok (.iload_n 2, 1) := by decide +kernel
theorem dX1_round_27 : decode cX1_round 27 = .ok (.isub, 1) := by decide +kernel
theorem dX1_round_28 : decode cX1_round 28 = .ok (.istore 4, 2) := by decide +kernel
theorem dX1_round_30 : decode cX1_round 30 = .ok (.iload 4, 2) := by decide +kernel
theorem dX1_round_32 : decode cX1_round 32 = .ok (.ifCond .gt 22, 3) := by decide +kernel
theorem dX1_round_35 : decode cX1_round 35 = .ok (.aload_n 0, 1) := by decide +kernel
theorem dX1_round_36 : decode cX1_round 36 = .ok (.iload_n 1, 1) := by decide +kernel
theorem dX1_round_37 : decode cX1_round 37 = .ok (.aload_n 0, 1) := by decide +kernel
theorem dX1_round_38 : decode cX1_round 38 = .ok (.getfield 9, 3) := by decide +kernel
theorem dX1_round_41 : decode cX1_round 41 = .ok (.iload_n 1, 1) := by decide +kernel
theorem dX1_round_42 : decode cX1_round 42 = .ok (.iaload, 1) := by decide +kernel
theorem dX1_round_43 : decode cX1_round 43 = .ok (.i2l, 1) := by decide +kernel
theorem dX1_round_44 : decode cX1_round 44 = .ok (.aload_n 0, 1) := by decide +kernel
theorem dX1_round_45 : decode cX1_round 45 = .ok (.getfield 13, 3) := by decide +kernel
theorem dX1_round_48 : decode cX1_round 48 = .ok (.iload_n 1, 1) := by decide +kernel
theorem dX1_round_49 : decode cX1_round 49 = .ok (.iaload, 1) := by decide +kernel
theorem dX1_round_50 : decode cX1_round 50 = .ok (.invokevirtual 55, 3) := by decide +kernel
theorem dX1_round_53 : decode cX1_round 53 = .ok (.ireturn, 1) := by decide +kernel
theorem dX1_round_54 : decode cX1_round 54 = .ok (.aload_n 0, 1) := by decide +kernel
theorem dX1_round_55 : decode cX1_round 55 = .ok (.getfield 9, 3) := by decide +kernel
theorem dX1_round_58 : decode cX1_round 58 = .ok (.iload_n 1, 1) := by decide +kernel
theorem dX1_round_59 : decode cX1_round 59 = .ok (.iaload, 1) := by decide +kernel
theorem dX1_round_60 : decode cX1_round 60 = .ok (.i2l, 1) := by decide +kernel
theorem dX1_round_61 : decode cX1_round 61 = .ok (.iload 4, 2) := by decide +kernel
theorem dX1_round_63 : decode cX1_round 63 = .ok (.invokestatic 59, 3) := by decide +kernel
theorem dX1_round_66 : decode cX1_round 66 = .ok (.iload_n 3, 1) := by decide +kernel
theorem dX1_round_67 : decode cX1_round 67 = .ok (.invokestatic 84, 3) := by decide +kernel
theorem dX1_round_70 : decode cX1_round 70 = .ok (.lstore 5, 2) := by decide +kernel
theorem dX1_round_72 : decode cX1_round 72 = .ok (.lload 5, 2) := by decide +kernel
theorem dX1_round_74 : decode cX1_round 74 = .ok (.ldc2_w 105, 3) := by decide +kernel
theorem dX1_round_77 : decode cX1_round 77 = .ok (.lcmp, 1) := by decide +kernel
theorem dX1_round_78 : decode cX1_round 78 = .ok (.ifCond .ne 8, 3) := by decide +kernel
theorem dX1_round_81 : decode cX1_round 81 = .ok (.aload_n 0, 1) := by decide +kernel
theorem dX1_round_82 : decode cX1_round 82 = .ok (.invokevirtual 80, 3) := by decide +kernel
theorem dX1_round_85 : decode cX1_round 85 = .ok (.ireturn, 1) := by decide +kernel
theorem dX1_round_86 : decode cX1_round 86 = .ok (.aload_n 0, 1) := by decide +kernel
theorem dX1_round_87 : decode cX1_round 87 = .ok (.getfield 13, 3) := by decide +kernel
theorem dX1_round_90 : decode cX1_round 90 = .ok (.iload_n 1, 1) := by decide +kernel
theorem dX1_round_91 : decode cX1_round 91 = .ok (.iaload, 1) := by decide +kernel
theorem dX1_round_92 : decode cX1_round 92 = .ok (.iload 4, 2) := by decide +kernel
theorem dX1_round_94 : decode cX1_round 94 = .ok (.isub, 1) := by decide +kernel
theorem dX1_round_95 : decode cX1_round 95 = .ok (.istore 7, 2) := by decide +kernel
theorem dX1_round_97 : decode cX1_round 97 = .ok (.lload 5, 2) := by decide +kernel
theorem dX1_round_99 : decode cX1_round 99 = .ok (.invokestatic 101, 3) := by decide +kernel
theorem dX1_round_102 : decode cX1_round 102 = .ok (.iload_n 2, 1) := by decide +kernel
theorem dX1_round_103 : decode cX1_round 103 = .ok (.if_icmp .le 14, 3) := by decide +kernel
theorem dX1_round_106 : decode cX1_round 106 = .ok (.lload 5, 2) := by decide +kernel
theorem dX1_round_108 : decode cX1_round 108 = .ok (.ldc2_w 92, 3) := by decide +kernel
theorem dX1_round_111 : decode cX1_round 111 = .ok (.ldiv, 1) := by decide +kernel
theorem dX1_round_112 : decode cX1_round 112 = .ok (.lstore 5, 2) := by decide +kernel
theorem dX1_round_114 : decode cX1_round 114 = .ok (.iinc 7 (-1), 3) := by decide +kernel
theorem dX1_round_117 : decode cX1_round 117 = .ok (.aload_n 0, 1) := by decide +kernel
theorem dX1_round_118 : decode cX1_round 118 = .ok (.iload_n 1, 1) := by decide +kernel
theorem dX1_round_119 : decode cX1_round 119 = .ok (.lload 5, 2) := by decide +kernel
theorem dX1_round_121 : decode cX1_round 121 = .ok (.iload 7, 2) := by decide +kernel
theorem dX1_round_123 : decode cX1_round 123 = .ok (.invokevirtual 96, 3) := by decide +kernel
theorem dX1_round_126 : decode cX1_round 126 = .ok (.ireturn, 1) := by decide +kernel
theorem dX1_greater_0 : decode cX1_greater 0 = .ok (.iload_n 1, 1) := by decide +kernel
theorem dX1_greater_1 : decode cX1_greater 1 = .ok (.invokestatic 41, 3) := by decide +kernel
theorem dX1_greater_4 : decode cX1_greater 4 = .ok (.iload_n 2, 1) := by decide +kernel
theorem dX1_greater_5 : decode cX1_greater 5 = .ok (.invokestatic 41, 3) := by decide +kernel
theorem dX1_greater_8 : decode cX1_greater 8 = .ok (.iload_n 3, 1) := by decide +kernel
theorem dX1_greater_9 : decode cX1_greater 9 = .ok (.invokestatic 41, 3) := by decide +kernel
theorem dX1_greater_12 : decode cX1_greater 12 = .ok (.aload_n 0, 1) := by decide +kernel
theorem dX1_greater_13 : decode cX1_greater 13 = .ok (.iload_n 1, 1) := by decide +kernel
theorem dX1_greater_14 : decode cX1_greater 14 = .ok (.iload_n 2, 1) := by decide +kernel
theorem dX1_greater_15 : decode cX1_greater 15 = .ok (.invokevirtual 107, 3) := by decide +kernel
theorem dX1_greater_18 : decode cX1_greater 18 = .ok (.ifCond .ge 7, 3) := by decide +kernel
theorem dX1_greater_21 : decode cX1_greater 21 = .ok (.iload_n 2, 1) := by decide +kernel
theorem dX1_greater_22 : decode cX1_greater 22 = .ok (.goto 4, 3) := by decide +kernel
theorem dX1_greater_25 : decode cX1_greater 25 = .ok (.iload_n 1, 1) := by decide +kernel
theorem dX1_greater_26 : decode cX1_greater 26 = .ok (.istore 4, 2) := by decide +kernel
theorem dX1_greater_28 : decode cX1_greater 28 = .ok (.aload_n 0, 1) := by decide +kernel
theorem dX1_greater_29 : decode cX1_greater 29 = .ok (.iload_n 3, 1) := by decide +kernel
theorem dX1_greater_30 : decode cX1_greater 30 = .ok (.aload_n 0, 1) := by decide +kernel
theorem dX1_greater_31 : decode cX1_greater 31 = .ok (.getfield 9, 3) := by decide +kernel
theorem dX1_greater_34 : decode cX1_greater 34 = .ok (.iload 4, 2) := by decide +kernel
theorem dX1_greater_36 : decode cX1_greater 36 = .ok (.iaload, 1) := by decide +kernel
theorem dX1_greater_37 : decode cX1_greater 37 = .ok (.i2l, 1) := by decide +kernel
theorem dX1_greater_38 : decode cX1_greater 38 = .ok (.aload_n 0, 1) := by decide +kernel
theorem dX1_greater_39 : decode cX1_greater 39 = .ok (.getfield 13, 3) := by decide +kernel
theorem dX1_greater_42 : decode cX1_greater 42 = .ok (.iload 4, 2) := by decide +kernel
theorem dX1_greater_44 : decode cX1_greater 44 = .ok (.iaload, 1) := by decide +kernel
theorem dX1_greater_45 : decode cX1_greater 45 = .ok (.invokevirtual 55, 3) := by decide +kernel
theorem dX1_greater_48 : decode cX1_greater 48 = .ok (.ireturn, 1) := by decide +kernel
theorem dX1_lesser_0 : decode cX1_lesser 0 = .ok (.iload_n 1, 1) := by decide +kernel
theorem dX1_lesser_1 : decode cX1_lesser 1 = .ok (.invokestatic 41, 3) := by decide +kernel
theorem dX1_lesser_4 : decode cX1_lesser 4 = .ok (.iload_n 2, 1) := by decide +kernel
theorem dX1_lesser_5 : decode cX1_lesser 5 = .ok (.invokestatic 41, 3) := by decide +kernel
theorem dX1_lesser_8 : decode cX1_lesser 8 = .ok (.iload_n 3, 1) := by decide +kernel
theorem dX1_lesser_9 : decode cX1_lesser 9 = .ok (.invokestatic 41, 3) := by decide +kernel
theorem dX1_lesser_12 : decode cX1_lesser 12 = .ok (.aload_n 0, 1) := by decide +kernel
theorem dX1_lesser_13 : decode cX1_lesser 13 = .ok (.iload_n 1, 1) := by decide +kernel
theorem dX1_lesser_14 : decode cX1_lesser 14 = .ok (.iload_n 2, 1) := by decide +kernel
theorem dX1_lesser_15 : decode cX1_lesser 15 = .ok (.invokevirtual 107, 3) := by decide +kernel
theorem dX1_lesser_18 : decode cX1_lesser 18 = .ok (.ifCond .le 7, 3) := by decide +kernel
theorem dX1_lesser_21 : decode cX1_lesser 21 = .ok (.iload_n 2, 1) := by decide +kernel
theorem dX1_lesser_22 : decode cX1_lesser 22 = .ok (.goto 4, 3) := by decide +kernel
theorem dX1_lesser_25 : decode cX1_lesser 25 = .ok (.iload_n 1, 1) := by decide +kernel
theorem dX1_lesser_26 : decode cX1_lesser 26 = .ok (.istore 4, 2) := by decide +kernel
theorem dX1_lesser_28 : decode cX1_lesser 28 = .ok (.aload_n 0, 1) := by decide +kernel
theorem dX1_lesser_29 : decode cX1_lesser 29 = .ok (.iload_n 3, 1) := by decide +kernel
theorem dX1_lesser_30 : decode cX1_lesser 30 = .ok (.aload_n 0, 1) := by decide +kernel
theorem dX1_lesser_31 : decode cX1_lesser 31 = .ok (.getfield 9, 3) := by decide +kernel
theorem dX1_lesser_34 : decode cX1_lesser 34 = .ok (.iload 4, 2) := by decide +kernel
theorem dX1_lesser_36 : decode cX1_lesser 36 = .ok (.iaload, 1) := by decide +kernel
theorem dX1_lesser_37 : decode cX1_lesser 37 = .ok (.i2l, 1) := by decide +kernel
theorem dX1_lesser_38 : decode cX1_lesser 38 = .ok (.aload_n 0, 1) := by decide +kernel
theorem dX1_lesser_39 : decode cX1_lesser 39 = .ok (.getfield 13, 3) := by decide +kernel
theorem dX1_lesser_42 : decode cX1_lesser 42 = .ok (.iload 4, 2) := by decide +kernel
theorem dX1_lesser_44 : decode cX1_lesser 44 = .ok (.iaload, 1) := by decide +kernel
theorem dX1_lesser_45 : decode cX1_lesser 45 = .ok (.invokevirtual 55, 3) := by decide +kernel
theorem dX1_lesser_48 : decode cX1_lesser 48 = .ok (.ireturn, 1) := by decide +kernel
theorem dX1_cut_0 : decode cX1_cut 0 = .ok (.iload_n 1, 1) := by decide +kernel
theorem dX1_cut_1 : decode cX1_cut 1 = .ok (.invokestatic 110, 3) := by decide +kernel
theorem dX1_cut_4 : decode cX1_cut 4 = .ok (.iload 5, 2) := by decide +kernel
theorem dX1_cut_6 : decode cX1_cut 6 = .ok (.invokestatic 41, 3) := by decide +kernel
theorem dX1_cut_9 : decode cX1_cut 9 = .ok (.iload_n 3, 1) := by decide +kernel
theorem dX1_cut_10 : decode cX1_cut 10 = .ok (.lconst 0, 1) := by decide +kernel
theorem dX1_cut_11 : decode cX1_cut 11 = .ok (.ldc2_w 53, 3) := by decide +kernel
theorem dX1_cut_14 : decode cX1_cut 14 = .ok (.invokestatic 49, 3) := by decide +kernel
theorem dX1_cut_17 : decode cX1_cut 17 = .ok (.iload 4, 2) := by decide +kernel
theorem dX1_cut_19 : decode cX1_cut 19 = .ok (.invokestatic 77, 3) := by decide +kernel
theorem dX1_cut_22 : decode cX1_cut 22 = .ok (.aload_n 0, 1) := by decide +kernel
theorem dX1_cut_23 : decode cX1_cut 23 = .ok (.iload 5, 2) := by decide +kernel
theorem dX1_cut_25 : decode cX1_cut 25 = .ok (.aload_n 0, 1) := by decide +kernel
theorem dX1_cut_26 : decode cX1_cut 26 = .ok (.iload_n 1, 1) := by decide +kernel
theorem dX1_cut_27 : decode cX1_cut 27 = .ok (.iload_n 2, 1) := by decide +kernel
theorem dX1_cut_28 : decode cX1_cut 28 = .ok (.iload_n 3, 1) := by decide +kernel
theorem dX1_cut_29 : decode cX1_cut 29 = .ok (.iload 4, 2) := by decide +kernel
theorem dX1_cut_31 : decode cX1_cut 31 = .ok (.invokevirtual 113, 3) := by decide +kernel
theorem dX1_cut_34 : decode cX1_cut 34 = .ok (.iload_n 3, 1) := by decide +kernel
theorem dX1_cut_35 : decode cX1_cut 35 = .ok (.invokevirtual 55, 3) := by decide +kernel
theorem dX1_cut_38 : decode cX1_cut 38 = .ok (.ireturn, 1) := by decide +kernel
theorem dX1_count_0 : decode cX1_count 0 = .ok (.iload_n 1, 1) := by decide +kernel
theorem dX1_count_1 : decode cX1_count 1 = .ok (.invokestatic 41, 3) := by decide +kernel
theorem dX1_count_4 : decode cX1_count 4 = .ok (.aload_n 0, 1) := by decide +kernel
theorem dX1_count_5 : decode cX1_count 5 = .ok (.getfield 9, 3) := by decide +kernel
theorem dX1_count_8 : decode cX1_count 8 = .ok (.iload_n 1, 1) := by decide +kernel
theorem dX1_count_9 : decode cX1_count 9 = .ok (.iaload, 1) := by decide +kernel
theorem dX1_count_10 : decode cX1_count 10 = .ok (.ireturn, 1) := by decide +kernel
theorem dX1_places_0 : decode cX1_places 0 = .ok (.iload_n 1, 1) := by decide +kernel
theorem dX1_places_1 : decode cX1_places 1 = .ok (.invokestatic 41, 3) := by decide +kernel
theorem dX1_places_4 : decode cX1_places 4 = .ok (.aload_n 0, 1) := by decide +kernel
theorem dX1_places_5 : decode cX1_places 5 = .ok (.getfield 13, 3) := by decide +kernel
theorem dX1_places_8 : decode cX1_places 8 = .ok (.iload_n 1, 1) := by decide +kernel
theorem dX1_places_9 : decode cX1_places 9 = .ok (.iaload, 1) := by decide +kernel
theorem dX1_places_10 : decode cX1_places 10 = .ok (.ireturn, 1) := by decide +kernel
theorem dX1_digits_0 : decode cX1_digits 0 = .ok (.iload_n 1, 1) := by decide +kernel
theorem dX1_digits_1 : decode cX1_digits 1 = .ok (.invokestatic 41, 3) := by decide +kernel
theorem dX1_digits_4 : decode cX1_digits 4 = .ok (.aload_n 0, 1) := by decide +kernel
theorem dX1_digits_5 : decode cX1_digits 5 = .ok (.getfield 9, 3) := by decide +kernel
theorem dX1_digits_8 : decode cX1_digits 8 = .ok (.iload_n 1, 1) := by decide +kernel
theorem dX1_digits_9 : decode cX1_digits 9 = .ok (.iaload, 1) := by decide +kernel
theorem dX1_digits_10 : decode cX1_digits 10 = .ok (.i2l, 1) := by decide +kernel
theorem dX1_digits_11 : decode cX1_digits 11 = .ok (.invokestatic 101, 3) := by decide +kernel
theorem dX1_digits_14 : decode cX1_digits 14 = .ok (.ireturn, 1) := by decide +kernel
theorem dX1_sign_0 : decode cX1_sign 0 = .ok (.iload_n 1, 1) := by decide +kernel
theorem dX1_sign_1 : decode cX1_sign 1 = .ok (.invokestatic 41, 3) := by decide +kernel
theorem dX1_sign_4 : decode cX1_sign 4 = .ok (.aload_n 0, 1) := by decide +kernel
theorem dX1_sign_5 : decode cX1_sign 5 = .ok (.getfield 9, 3) := by decide +kernel
theorem dX1_sign_8 : decode cX1_sign 8 = .ok (.iload_n 1, 1) := by decide +kernel
theorem dX1_sign_9 : decode cX1_sign 9 = .ok (.iaload, 1) := by decide +kernel
theorem dX1_sign_10 : decode cX1_sign 10 = .ok (.i2l, 1) := by decide +kernel
theorem dX1_sign_11 : decode cX1_sign 11 = .ok (.invokestatic 117, 3) := by decide +kernel
theorem dX1_sign_14 : decode cX1_sign 14 = .ok (.ireturn, 1) := by decide +kernel
theorem dX1_text_0 : decode cX1_text 0 = .ok (.iload_n 1, 1) := by decide +kernel
theorem dX1_text_1 : decode cX1_text 1 = .ok (.invokestatic 41, 3) := by decide +kernel
theorem dX1_text_4 : decode cX1_text 4 = .ok (.iload_n 2, 1) := by decide +kernel
theorem dX1_text_5 : decode cX1_text 5 = .ok (.lconst 0, 1) := by decide +kernel
theorem dX1_text_6 : decode cX1_text 6 = .ok (.lconst 1, 1) := by decide +kernel
theorem dX1_text_7 : decode cX1_text 7 = .ok (.invokestatic 49, 3) := by decide +kernel
theorem dX1_text_10 : decode cX1_text 10 = .ok (.aload_n 0, 1) := by decide +kernel
theorem dX1_text_11 : decode cX1_text 11 = .ok (.getfield 9, 3) := by decide +kernel
theorem dX1_text_14 : decode cX1_text 14 = .ok (.iload_n 1, 1) := by decide +kernel
theorem dX1_text_15 : decode cX1_text 15 = .ok (.iaload, 1) := by decide +kernel
theorem dX1_text_16 : decode cX1_text 16 = .ok (.i2l, 1) := by decide +kernel
theorem dX1_text_17 : decode cX1_text 17 = .ok (.aload_n 0, 1) := by decide +kernel
theorem dX1_text_18 : decode cX1_text 18 = .ok (.getfield 13, 3) := by decide +kernel
theorem dX1_text_21 : decode cX1_text 21 = .ok (.iload_n 1, 1) := by decide +kernel
theorem dX1_text_22 : decode cX1_text 22 = .ok (.iaload, 1) := by decide +kernel
theorem dX1_text_23 : decode cX1_text 23 = .ok (.invokestatic 120, 3) := by decide +kernel
theorem dX1_text_26 : decode cX1_text 26 = .ok (.areturn, 1) := by decide +kernel
theorem dX1_order_0 : decode cX1_order 0 = .ok (.iload_n 1, 1) := by decide +kernel
theorem dX1_order_1 : decode cX1_order 1 = .ok (.invokestatic 41, 3) := by decide +kernel
theorem dX1_order_4 : decode cX1_order 4 = .ok (.iload_n 2, 1) := by decide +kernel
theorem dX1_order_5 : decode cX1_order 5 = .ok (.invokestatic 41, 3) := by decide +kernel
theorem dX1_order_8 : decode cX1_order 8 = .ok (.aload_n 0, 1) := by decide +kernel
theorem dX1_order_9 : decode cX1_order 9 = .ok (.iload_n 1, 1) := by decide +kernel
theorem dX1_order_10 : decode cX1_order 10 = .ok (.iload_n 2, 1) := by decide +kernel
theorem dX1_order_11 : decode cX1_order 11 = .ok (.invokevirtual 107, 3) := by decide +kernel
theorem dX1_order_14 : decode cX1_order 14 = .ok (.ireturn, 1) := by decide +kernel
theorem dX1_same_0 : decode cX1_same 0 = .ok (.iload_n 1, 1) := by decide +kernel
theorem dX1_same_1 : decode cX1_same 1 = .ok (.invokestatic 41, 3) := by decide +kernel
theorem dX1_same_4 : decode cX1_same 4 = .ok (.iload_n 2, 1) := by decide +kernel
theorem dX1_same_5 : decode cX1_same 5 = .ok (.invokestatic 41, 3) := by decide +kernel
theorem dX1_same_8 : decode cX1_same 8 = .ok (.aload_n 0, 1) := by decide +kernel
theorem dX1_same_9 : decode cX1_same 9 = .ok (.iload_n 1, 1) := by decide +kernel
theorem dX1_same_10 : decode cX1_same 10 = .ok (.iload_n 2, 1) := by decide +kernel
theorem dX1_same_11 : decode cX1_same 11 = .ok (.invokevirtual 124, 3) := by decide +kernel
theorem dX1_same_14 : decode cX1_same 14 = .ok (.ireturn, 1) := by decide +kernel
theorem dX1_setWheel_0 : decode cX1_setWheel 0 = .ok (.iload_n 1, 1) := by decide +kernel
theorem dX1_setWheel_1 : decode cX1_setWheel 1 = .ok (.invokestatic 110, 3) := by decide +kernel
theorem dX1_setWheel_4 : decode cX1_setWheel 4 = .ok (.iload_n 3, 1) := by decide +kernel
theorem dX1_setWheel_5 : decode cX1_setWheel 5 = .ok (.invokestatic 128, 3) := by decide +kernel
theorem dX1_setWheel_8 : decode cX1_setWheel 8 = .ok (.iload_n 2, 1) := by decide +kernel
theorem dX1_setWheel_9 : decode cX1_setWheel 9 = .ok (.lconst 0, 1) := by decide +kernel
theorem dX1_setWheel_10 : decode cX1_setWheel 10 = .ok (.iload_n 3, 1) := by decide +kernel
theorem dX1_setWheel_11 : decode cX1_setWheel 11 = .ok (.iconst 1, 1) := by decide +kernel
theorem dX1_setWheel_12 : decode cX1_setWheel 12 = .ok (.isub, 1) := by decide +kernel
theorem dX1_setWheel_13 : decode cX1_setWheel 13 = .ok (.i2l, 1) := by decide +kernel
theorem dX1_setWheel_14 : decode cX1_setWheel 14 = .ok (.invokestatic 49, 3) := by decide +kernel
theorem dX1_setWheel_17 : decode cX1_setWheel 17 = .ok (.aload_n 0, 1) := by decide +kernel
theorem dX1_setWheel_18 : decode cX1_setWheel 18 = .ok (.iload_n 1, 1) := by decide +kernel
theorem dX1_setWheel_19 : decode cX1_setWheel 19 = .ok (.iload_n 2, 1) := by decide +kernel
theorem dX1_setWheel_20 : decode cX1_setWheel 20 = .ok (.iload_n 3, 1) := by decide +kernel
theorem dX1_setWheel_21 : decode cX1_setWheel 21 = .ok (.invokevirtual 131, 3) := by decide +kernel
theorem dX1_setWheel_24 : decode cX1_setWheel 24 = .ok (.aload_n 0, 1) := by decide +kernel
theorem dX1_setWheel_25 : decode cX1_setWheel 25 = .ok (.getfield 25, 3) := by decide +kernel
theorem dX1_setWheel_28 : decode cX1_setWheel 28 = .ok (.iload_n 1, 1) := by decide +kernel
theorem dX1_setWheel_29 : decode cX1_setWheel 29 = .ok (.iaload, 1) := by decide +kernel
theorem dX1_setWheel_30 : decode cX1_setWheel 30 = .ok (.ireturn, 1) := by decide +kernel
theorem dX1_step_0 : decode cX1_step 0 = .ok (.iload_n 1, 1) := by decide +kernel
theorem dX1_step_1 : decode cX1_step 1 = .ok (.invokestatic 110, 3) := by decide +kernel
theorem dX1_step_4 : decode cX1_step 4 = .ok (.aload_n 0, 1) := by decide +kernel
theorem dX1_step_5 : decode cX1_step 5 = .ok (.iload_n 1, 1) := by decide +kernel
theorem dX1_step_6 : decode cX1_step 6 = .ok (.aload_n 0, 1) := by decide +kernel
theorem dX1_step_7 : decode cX1_step 7 = .ok (.getfield 22, 3) := by decide +kernel
theorem dX1_step_10 : decode cX1_step 10 = .ok (.iload_n 1, 1) := by decide +kernel
theorem dX1_step_11 : decode cX1_step 11 = .ok (.iaload, 1) := by decide +kernel
theorem dX1_step_12 : decode cX1_step 12 = .ok (.invokevirtual 135, 3) := by decide +kernel
theorem dX1_step_15 : decode cX1_step 15 = .ok (.aload_n 0, 1) := by decide +kernel
theorem dX1_step_16 : decode cX1_step 16 = .ok (.getfield 19, 3) := by decide +kernel
theorem dX1_step_19 : decode cX1_step 19 = .ok (.iload_n 1, 1) := by decide +kernel
theorem dX1_step_20 : decode cX1_step 20 = .ok (.iaload, 1) := by decide +kernel
theorem dX1_step_21 : decode cX1_step 21 = .ok (.invokestatic 138, 3) := by decide +kernel
theorem dX1_step_24 : decode cX1_step 24 = .ok (.istore_n 2, 1) := by decide +kernel
theorem dX1_step_25 : decode cX1_step 25 = .ok (.aload_n 0, 1) := by decide +kernel
theorem dX1_step_26 : decode cX1_step 26 = .ok (.iload_n 1, 1) := by decide +kernel
theorem dX1_step_27 : decode cX1_step 27 = .ok (.iconst 1, 1) := by decide +kernel
theorem dX1_step_28 : decode cX1_step 28 = .ok (.invokevirtual 141, 3) := by decide +kernel
theorem dX1_step_31 : decode cX1_step 31 = .ok (.iload_n 2, 1) := by decide +kernel
theorem dX1_step_32 : decode cX1_step 32 = .ok (.ireturn, 1) := by decide +kernel
theorem dX1_turn_0 : decode cX1_turn 0 = .ok (.iload_n 1, 1) := by decide +kernel
theorem dX1_turn_1 : decode cX1_turn 1 = .ok (.invokestatic 110, 3) := by decide +kernel
theorem dX1_turn_4 : decode cX1_turn 4 = .ok (.iload_n 2, 1) := by decide +kernel
theorem dX1_turn_5 : decode cX1_turn 5 = .ok (.lconst 0, 1) := by decide +kernel
theorem dX1_turn_6 : decode cX1_turn 6 = .ok (.ldc2_w 145, 3) := by decide +kernel
theorem dX1_turn_9 : decode cX1_turn 9 = .ok (.invokestatic 49, 3) := by decide +kernel
theorem dX1_turn_12 : decode cX1_turn 12 = .ok (.aload_n 0, 1) := by decide +kernel
theorem dX1_turn_13 : decode cX1_turn 13 = .ok (.iload_n 1, 1) := by decide +kernel
theorem dX1_turn_14 : decode cX1_turn 14 = .ok (.iload_n 2, 1) := by decide +kernel
theorem dX1_turn_15 : decode cX1_turn 15 = .ok (.invokevirtual 141, 3) := by decide +kernel
theorem dX1_turn_18 : decode cX1_turn 18 = .ok (.aload_n 0, 1) := by decide +kernel
theorem dX1_turn_19 : decode cX1_turn 19 = .ok (.iload_n 1, 1) := by decide +kernel
theorem dX1_turn_20 : decode cX1_turn 20 = .ok (.aload_n 0, 1) := by decide +kernel
theorem dX1_turn_21 : decode cX1_turn 21 = .ok (.getfield 22, 3) := by decide +kernel
theorem dX1_turn_24 : decode cX1_turn 24 = .ok (.iload_n 1, 1) := by decide +kernel
theorem dX1_turn_25 : decode cX1_turn 25 = .ok (.iaload, 1) := by decide +kernel
theorem dX1_turn_26 : decode cX1_turn 26 = .ok (.invokevirtual 135, 3) := by decide +kernel
theorem dX1_turn_29 : decode cX1_turn 29 = .ok (.ireturn, 1) := by decide +kernel
theorem dX1_times_0 : decode cX1_times 0 = .ok (.iload_n 1, 1) := by decide +kernel
theorem dX1_times_1 : decode cX1_times 1 = .ok (.invokestatic 110, 3) := by decide +kernel
theorem dX1_times_4 : decode cX1_times 4 = .ok (.iload_n 3, 1) := by decide +kernel
theorem dX1_times_5 : decode cX1_times 5 = .ok (.invokestatic 110, 3) := by decide +kernel
theorem dX1_times_8 : decode cX1_times 8 = .ok (.iload_n 2, 1) := by decide +kernel
theorem dX1_times_9 : decode cX1_times 9 = .ok (.lconst 0, 1) := by decide +kernel
theorem dX1_times_10 : decode cX1_times 10 = .ok (.ldc2_w 90, 3) := by decide +kernel
theorem dX1_times_13 : decode cX1_times 13 = .ok (.invokestatic 49, 3) := by decide +kernel
theorem dX1_times_16 : decode cX1_times 16 = .ok (.aload_n 0, 1) := by decide +kernel
theorem dX1_times_17 : decode cX1_times 17 = .ok (.iload_n 3, 1) := by decide +kernel
theorem dX1_times_18 : decode cX1_times 18 = .ok (.iload_n 2, 1) := by decide +kernel
theorem dX1_times_19 : decode cX1_times 19 = .ok (.aload_n 0, 1) := by decide +kernel
theorem dX1_times_20 : decode cX1_times 20 = .ok (.getfield 16, 3) := by decide +kernel
theorem dX1_times_23 : decode cX1_times 23 = .ok (.iload_n 1, 1) := by decide +kernel
theorem dX1_times_24 : decode cX1_times 24 = .ok (.iaload, 1) := by decide +kernel
theorem dX1_times_25 : decode cX1_times 25 = .ok (.imul, 1) := by decide +kernel
theorem dX1_times_26 : decode cX1_times 26 = .ok (.aload_n 0, 1) := by decide +kernel
theorem dX1_times_27 : decode cX1_times 27 = .ok (.getfield 19, 3) := by decide +kernel
theorem dX1_times_30 : decode cX1_times 30 = .ok (.iload_n 1, 1) := by decide +kernel
theorem dX1_times_31 : decode cX1_times 31 = .ok (.iaload, 1) := by decide +kernel
theorem dX1_times_32 : decode cX1_times 32 = .ok (.invokestatic 147, 3) := by decide +kernel
theorem dX1_times_35 : decode cX1_times 35 = .ok (.aload_n 0, 1) := by decide +kernel
theorem dX1_times_36 : decode cX1_times 36 = .ok (.getfield 19, 3) := by decide +kernel
theorem dX1_times_39 : decode cX1_times 39 = .ok (.iload_n 1, 1) := by decide +kernel
theorem dX1_times_40 : decode cX1_times 40 = .ok (.iaload, 1) := by decide +kernel
theorem dX1_times_41 : decode cX1_times 41 = .ok (.invokevirtual 131, 3) := by decide +kernel
theorem dX1_times_44 : decode cX1_times 44 = .ok (.aload_n 0, 1) := by decide +kernel
theorem dX1_times_45 : decode cX1_times 45 = .ok (.getfield 16, 3) := by decide +kernel
theorem dX1_times_48 : decode cX1_times 48 = .ok (.iload_n 3, 1) := by decide +kernel
theorem dX1_times_49 : decode cX1_times 49 = .ok (.iaload, 1) := by decide +kernel
theorem dX1_times_50 : decode cX1_times 50 = .ok (.ireturn, 1) := by decide +kernel
theorem dX1_spoke_0 : decode cX1_spoke 0 = .ok (.iload_n 1, 1) := by decide +kernel
theorem dX1_spoke_1 : decode cX1_spoke 1 = .ok (.invokestatic 110, 3) := by decide +kernel
theorem dX1_spoke_4 : decode cX1_spoke 4 = .ok (.iload_n 2, 1) := by decide +kernel
theorem dX1_spoke_5 : decode cX1_spoke 5 = .ok (.lconst 0, 1) := by decide +kernel
theorem dX1_spoke_6 : decode cX1_spoke 6 = .ok (.ldc2_w 150, 3) := by decide +kernel
theorem dX1_spoke_9 : decode cX1_spoke 9 = .ok (.invokestatic 49, 3) := by decide +kernel
theorem dX1_spoke_12 : decode cX1_spoke 12 = .ok (.aload_n 0, 1) := by decide +kernel
theorem dX1_spoke_13 : decode cX1_spoke 13 = .ok (.iload_n 1, 1) := by decide +kernel
theorem dX1_spoke_14 : decode cX1_spoke 14 = .ok (.iload_n 2, 1) := by decide +kernel
theorem dX1_spoke_15 : decode cX1_spoke 15 = .ok (.invokevirtual 152, 3) := by decide +kernel
theorem dX1_spoke_18 : decode cX1_spoke 18 = .ok (.ireturn, 1) := by decide +kernel
theorem dX1_lowest_0 : decode cX1_lowest 0 = .ok (.iload_n 1, 1) := by decide +kernel
theorem dX1_lowest_1 : decode cX1_lowest 1 = .ok (.invokestatic 110, 3) := by decide +kernel
theorem dX1_lowest_4 : decode cX1_lowest 4 = .ok (.aload_n 0, 1) := by decide +kernel
theorem dX1_lowest_5 : decode cX1_lowest 5 = .ok (.getfield 19, 3) := by decide +kernel
theorem dX1_lowest_8 : decode cX1_lowest 8 = .ok (.iload_n 1, 1) := by decide +kernel
theorem dX1_lowest_9 : decode cX1_lowest 9 = .ok (.iaload, 1) := by decide +kernel
theorem dX1_lowest_10 : decode cX1_lowest 10 = .ok (.istore_n 2, 1) := by decide +kernel
theorem dX1_lowest_11 : decode cX1_lowest 11 = .ok (.iconst 1, 1) := by decide +kernel
theorem dX1_lowest_12 : decode cX1_lowest 12 = .ok (.istore_n 3, 1) := by decide +kernel
theorem dX1_lowest_13 : decode cX1_lowest 13 = .ok (.iload_n 3, 1) := by decide +kernel
theorem dX1_lowest_14 : decode cX1_lowest 14 = .ok (.iload_n 2, 1) := by decide +kernel
theorem dX1_lowest_15 : decode cX1_lowest 15 = .ok (.if_icmp .ge 26, 3) := by decide +kernel
theorem dX1_lowest_18 : decode cX1_lowest 18 = .ok (.iload_n 3, 1) := by decide +kernel
theorem dX1_lowest_19 : decode cX1_lowest 19 = .ok (.aload_n 0, 1) := by decide +kernel
theorem dX1_lowest_20 : decode cX1_lowest 20 = .ok (.getfield 16, 3) := by decide +kernel
theorem dX1_lowest_23 : decode cX1_lowest 23 = .ok (.iload_n 1, 1) := by decide +kernel
theorem dX1_lowest_24 : decode cX1_lowest 24 = .ok (.iaload, 1) := by decide +kernel
theorem dX1_lowest_25 : decode cX1_lowest 25 = .ok (.imul, 1) := by decide +kernel
theorem dX1_lowest_26 : decode cX1_lowest 26 = .ok (.iload_n 2, 1) := by decide +kernel
theorem dX1_lowest_27 : decode cX1_lowest 27 = .ok (.invokestatic 147, 3) := by decide +kernel
theorem dX1_lowest_30 : decode cX1_lowest 30 = .ok (.ifCond .ne 5, 3) := by decide +kernel
theorem dX1_lowest_33 : decode cX1_lowest 33 = .ok (.iload_n 3, 1) := by decide +kernel
theorem dX1_lowest_34 : decode cX1_lowest 34 = .ok (.ireturn, 1) := by decide +kernel
theorem dX1_lowest_35 : decode cX1_lowest 35 = .ok (.iinc 3 1, 3) := by decide +kernel
theorem dX1_lowest_38 : decode cX1_lowest 38 = .ok (.goto (-25), 3) := by decide +kernel
theorem dX1_lowest_41 : decode cX1_lowest 41 = .ok (.iload_n 2, 1) := by decide +kernel
theorem dX1_lowest_42 : decode cX1_lowest 42 = .ok (.ireturn, 1) := by decide +kernel
theorem dX1_tens_0 : decode cX1_tens 0 = .ok (.iload_n 1, 1) := by decide +kernel
theorem dX1_tens_1 : decode cX1_tens 1 = .ok (.invokestatic 128, 3) := by decide +kernel
theorem dX1_tens_4 : decode cX1_tens 4 = .ok (.iconst 1, 1) := by decide +kernel
theorem dX1_tens_5 : decode cX1_tens 5 = .ok (.iload_n 1, 1) := by decide +kernel
theorem dX1_tens_6 : decode cX1_tens 6 = .ok (.invokestatic 147, 3) := by decide +kernel
theorem dX1_tens_9 : decode cX1_tens 9 = .ok (.iload_n 1, 1) := by decide +kernel
theorem dX1_tens_10 : decode cX1_tens 10 = .ok (.invokestatic 155, 3) := by decide +kernel
theorem dX1_tens_13 : decode cX1_tens 13 = .ok (.ireturn, 1) := by decide +kernel
theorem dX1_restAt_0 : decode cX1_restAt 0 = .ok (.iload_n 1, 1) := by decide +kernel
theorem dX1_restAt_1 : decode cX1_restAt 1 = .ok (.invokestatic 110, 3) := by decide +kernel
theorem dX1_restAt_4 : decode cX1_restAt 4 = .ok (.iload_n 2, 1) := by decide +kernel
theorem dX1_restAt_5 : decode cX1_restAt 5 = .ok (.lconst 0, 1) := by decide +kernel
theorem dX1_restAt_6 : decode cX1_restAt 6 = .ok (.ldc2_w 145, 3) := by decide +kernel
theorem dX1_restAt_9 : decode cX1_restAt 9 = .ok (.invokestatic 49, 3) := by decide +kernel
theorem dX1_restAt_12 : decode cX1_restAt 12 = .ok (.aload_n 0, 1) := by decide +kernel
theorem dX1_restAt_13 : decode cX1_restAt 13 = .ok (.iload_n 1, 1) := by decide +kernel
theorem dX1_restAt_14 : decode cX1_restAt 14 = .ok (.iload_n 2, 1) := by decide +kernel
theorem dX1_restAt_15 : decode cX1_restAt 15 = .ok (.invokevirtual 135, 3) := by decide +kernel
theorem dX1_restAt_18 : decode cX1_restAt 18 = .ok (.ireturn, 1) := by decide +kernel
theorem dX1_digitsFrom_0 : decode cX1_digitsFrom 0 = .ok (.iload_n 1, 1) := by decide +kernel
theorem dX1_digitsFrom_1 : decode cX1_digitsFrom 1 = .ok (.invokestatic 110, 3) := by decide +kernel
theorem dX1_digitsFrom_4 : decode cX1_digitsFrom 4 = .ok (.iload_n 2, 1) := by decide +kernel
theorem dX1_digitsFrom_5 : decode cX1_digitsFrom 5 = .ok (.lconst 0, 1) := by decide +kernel
theorem dX1_digitsFrom_6 : decode cX1_digitsFrom 6 = .ok (.ldc2_w 145, 3) := by decide +kernel
theorem dX1_digitsFrom_9 : decode cX1_digitsFrom 9 = .ok (.invokestatic 49, 3) := by decide +kernel
theorem dX1_digitsFrom_12 : decode cX1_digitsFrom 12 = .ok (.iload_n 3, 1) := by decide +kernel
theorem dX1_digitsFrom_13 : decode cX1_digitsFrom 13 = .ok (.lconst 1, 1) := by decide +kernel
theorem dX1_digitsFrom_14 : decode cX1_digitsFrom 14 = .ok (.ldc2_w 158, 3) := by decide +kernel
theorem dX1_digitsFrom_17 : decode cX1_digitsFrom 17 = .ok (.invokestatic 49, 3) := by decide +kernel
theorem dX1_digitsFrom_20 : decode cX1_digitsFrom 20 = .ok (.aload_n 0, 1) := by decide +kernel
theorem dX1_digitsFrom_21 : decode cX1_digitsFrom 21 = .ok (.iload_n 1, 1) := by decide +kernel
theorem dX1_digitsFrom_22 : decode cX1_digitsFrom 22 = .ok (.iload_n 2, 1) := by decide +kernel
theorem dX1_digitsFrom_23 : decode cX1_digitsFrom 23 = .ok (.iload_n 3, 1) := by decide +kernel
theorem dX1_digitsFrom_24 : decode cX1_digitsFrom 24 = .ok (.invokevirtual 160, 3) := by decide +kernel
theorem dX1_digitsFrom_27 : decode cX1_digitsFrom 27 = .ok (.areturn, 1) := by decide +kernel
theorem dX1_cutText_0 : decode cX1_cutText 0 = .ok (.iload_n 1, 1) := by decide +kernel
theorem dX1_cutText_1 : decode cX1_cutText 1 = .ok (.invokestatic 110, 3) := by decide +kernel
theorem dX1_cutText_4 : decode cX1_cutText 4 = .ok (.iload_n 3, 1) := by decide +kernel
theorem dX1_cutText_5 : decode cX1_cutText 5 = .ok (.lconst 0, 1) := by decide +kernel
theorem dX1_cutText_6 : decode cX1_cutText 6 = .ok (.ldc2_w 158, 3) := by decide +kernel
theorem dX1_cutText_9 : decode cX1_cutText 9 = .ok (.invokestatic 49, 3) := by decide +kernel
theorem dX1_cutText_12 : decode cX1_cutText 12 = .ok (.iload 4, 2) := by decide +kernel
theorem dX1_cutText_14 : decode cX1_cutText 14 = .ok (.invokestatic 77, 3) := by decide +kernel
theorem dX1_cutText_17 : decode cX1_cutText 17 = .ok (.aload_n 0, 1) := by decide +kernel
theorem dX1_cutText_18 : decode cX1_cutText 18 = .ok (.iload_n 1, 1) := by decide +kernel
theorem dX1_cutText_19 : decode cX1_cutText 19 = .ok (.iload_n 2, 1) := by decide +kernel
theorem dX1_cutText_20 : decode cX1_cutText 20 = .ok (.iload_n 3, 1) := by decide +kernel
theorem dX1_cutText_21 : decode cX1_cutText 21 = .ok (.iload 4, 2) := by decide +kernel
theorem dX1_cutText_23 : decode cX1_cutText 23 = .ok (.invokevirtual 113, 3) := by decide +kernel
theorem dX1_cutText_26 : decode cX1_cutText 26 = .ok (.lstore 5, 2) := by decide +kernel
theorem dX1_cutText_28 : decode cX1_cutText 28 = .ok (.lload 5, 2) := by decide +kernel
theorem dX1_cutText_30 : decode cX1_cutText 30 = .ok (.ldc2_w 105, 3) := by decide +kernel
theorem dX1_cutText_33 : decode cX1_cutText 33 = .ok (.lcmp, 1) := by decide +kernel
theorem dX1_cutText_34 : decode cX1_cutText 34 = .ok (.ifCond .ne 8, 3) := by decide +kernel
theorem dX1_cutText_37 : decode cX1_cutText 37 = .ok (.ldc 164, 2) := by decide +kernel
theorem dX1_cutText_39 : decode cX1_cutText 39 = .ok (.goto 9, 3) := by decide +kernel
theorem dX1_cutText_42 : decode cX1_cutText 42 = .ok (.lload 5, 2) := by decide +kernel
theorem dX1_cutText_44 : decode cX1_cutText 44 = .ok (.iload_n 3, 1) := by decide +kernel
theorem dX1_cutText_45 : decode cX1_cutText 45 = .ok (.invokestatic 120, 3) := by decide +kernel
theorem dX1_cutText_48 : decode cX1_cutText 48 = .ok (.areturn, 1) := by decide +kernel
theorem dX1_number_0 : decode cX1_number 0 = .ok (.iload_n 1, 1) := by decide +kernel
theorem dX1_number_1 : decode cX1_number 1 = .ok (.invokestatic 110, 3) := by decide +kernel
theorem dX1_number_4 : decode cX1_number 4 = .ok (.aload_n 0, 1) := by decide +kernel
theorem dX1_number_5 : decode cX1_number 5 = .ok (.iload_n 1, 1) := by decide +kernel
theorem dX1_number_6 : decode cX1_number 6 = .ok (.iconst 0, 1) := by decide +kernel
theorem dX1_number_7 : decode cX1_number 7 = .ok (.aload_n 0, 1) := by decide +kernel
theorem dX1_number_8 : decode cX1_number 8 = .ok (.getfield 25, 3) := by decide +kernel
theorem dX1_number_11 : decode cX1_number 11 = .ok (.iload_n 1, 1) := by decide +kernel
theorem dX1_number_12 : decode cX1_number 12 = .ok (.iaload, 1) := by decide +kernel
theorem dX1_number_13 : decode cX1_number 13 = .ok (.invokevirtual 160, 3) := by decide +kernel
theorem dX1_number_16 : decode cX1_number 16 = .ok (.areturn, 1) := by decide +kernel
theorem dX1_product_0 : decode cX1_product 0 = .ok (.iload_n 1, 1) := by decide +kernel
theorem dX1_product_1 : decode cX1_product 1 = .ok (.invokestatic 110, 3) := by decide +kernel
theorem dX1_product_4 : decode cX1_product 4 = .ok (.aload_n 0, 1) := by decide +kernel
theorem dX1_product_5 : decode cX1_product 5 = .ok (.iload_n 1, 1) := by decide +kernel
theorem dX1_product_6 : decode cX1_product 6 = .ok (.invokevirtual 166, 3) := by decide +kernel
theorem dX1_product_9 : decode cX1_product 9 = .ok (.aload_n 0, 1) := by decide +kernel
theorem dX1_product_10 : decode cX1_product 10 = .ok (.getfield 34, 3) := by decide +kernel
theorem dX1_product_13 : decode cX1_product 13 = .ok (.invokevirtual 169, 3) := by decide +kernel
theorem dX1_product_16 : decode cX1_product 16 = .ok (.areturn, 1) := by decide +kernel
theorem dX1_partSum_0 : decode cX1_partSum 0 = .ok (.iload_n 1, 1) := by decide +kernel
theorem dX1_partSum_1 : decode cX1_partSum 1 = .ok (.invokestatic 110, 3) := by decide +kernel
theorem dX1_partSum_4 : decode cX1_partSum 4 = .ok (.iload_n 2, 1) := by decide +kernel
theorem dX1_partSum_5 : decode cX1_partSum 5 = .ok (.ldc2_w 173, 3) := by decide +kernel
theorem dX1_partSum_8 : decode cX1_partSum 8 = .ok (.ldc2_w 175, 3) := by decide +kernel
theorem dX1_partSum_11 : decode cX1_partSum 11 = .ok (.invokestatic 49, 3) := by decide +kernel
theorem dX1_partSum_14 : decode cX1_partSum 14 = .ok (.aload_n 0, 1) := by decide +kernel
theorem dX1_partSum_15 : decode cX1_partSum 15 = .ok (.iload_n 1, 1) := by decide +kernel
theorem dX1_partSum_16 : decode cX1_partSum 16 = .ok (.iload_n 2, 1) := by decide +kernel
theorem dX1_partSum_17 : decode cX1_partSum 17 = .ok (.invokevirtual 177, 3) := by decide +kernel
theorem dX1_partSum_20 : decode cX1_partSum 20 = .ok (.ifCond .ne 6, 3) := by decide +kernel
theorem dX1_partSum_23 : decode cX1_partSum 23 = .ok (.ldc 164, 2) := by decide +kernel
theorem dX1_partSum_25 : decode cX1_partSum 25 = .ok (.areturn, 1) := by decide +kernel
theorem dX1_partSum_26 : decode cX1_partSum 26 = .ok (.aload_n 0, 1) := by decide +kernel
theorem dX1_partSum_27 : decode cX1_partSum 27 = .ok (.iload_n 1, 1) := by decide +kernel
theorem dX1_partSum_28 : decode cX1_partSum 28 = .ok (.aload_n 0, 1) := by decide +kernel
theorem dX1_partSum_29 : decode cX1_partSum 29 = .ok (.iload_n 1, 1) := by decide +kernel
theorem dX1_partSum_30 : decode cX1_partSum 30 = .ok (.iload_n 2, 1) := by decide +kernel
theorem dX1_partSum_31 : decode cX1_partSum 31 = .ok (.invokevirtual 180, 3) := by decide +kernel
theorem dX1_partSum_34 : decode cX1_partSum 34 = .ok (.invokevirtual 183, 3) := by decide +kernel
theorem dX1_partSum_37 : decode cX1_partSum 37 = .ok (.aload_n 0, 1) := by decide +kernel
theorem dX1_partSum_38 : decode cX1_partSum 38 = .ok (.getfield 34, 3) := by decide +kernel
theorem dX1_partSum_41 : decode cX1_partSum 41 = .ok (.invokevirtual 169, 3) := by decide +kernel
theorem dX1_partSum_44 : decode cX1_partSum 44 = .ok (.areturn, 1) := by decide +kernel
theorem dX1_nines_0 : decode cX1_nines 0 = .ok (.iload_n 1, 1) := by decide +kernel
theorem dX1_nines_1 : decode cX1_nines 1 = .ok (.invokestatic 110, 3) := by decide +kernel
theorem dX1_nines_4 : decode cX1_nines 4 = .ok (.iload_n 2, 1) := by decide +kernel
theorem dX1_nines_5 : decode cX1_nines 5 = .ok (.ldc2_w 173, 3) := by decide +kernel
theorem dX1_nines_8 : decode cX1_nines 8 = .ok (.ldc2_w 175, 3) := by decide +kernel
theorem dX1_nines_11 : decode cX1_nines 11 = .ok (.invokestatic 49, 3) := by decide +kernel
theorem dX1_nines_14 : decode cX1_nines 14 = .ok (.aload_n 0, 1) := by decide +kernel
theorem dX1_nines_15 : decode cX1_nines 15 = .ok (.iload_n 1, 1) := by decide +kernel
theorem dX1_nines_16 : decode cX1_nines 16 = .ok (.iload_n 2, 1) := by decide +kernel
theorem dX1_nines_17 : decode cX1_nines 17 = .ok (.invokevirtual 186, 3) := by decide +kernel
theorem dX1_nines_20 : decode cX1_nines 20 = .ok (.ireturn, 1) := by decide +kernel
theorem dX1_placeOf_0 : decode cX1_placeOf 0 = .ok (.iload_n 1, 1) := by decide +kernel
theorem dX1_placeOf_1 : decode cX1_placeOf 1 = .ok (.invokestatic 110, 3) := by decide +kernel
theorem dX1_placeOf_4 : decode cX1_placeOf 4 = .ok (.iload_n 2, 1) := by decide +kernel
theorem dX1_placeOf_5 : decode cX1_placeOf 5 = .ok (.invokestatic 110, 3) := by decide +kernel
theorem dX1_placeOf_8 : decode cX1_placeOf 8 = .ok (.aload_n 0, 1) := by decide +kernel
theorem dX1_placeOf_9 : decode cX1_placeOf 9 = .ok (.getfield 16, 3) := by decide +kernel
theorem dX1_placeOf_12 : decode cX1_placeOf 12 = .ok (.iload_n 1, 1) := by decide +kernel
theorem dX1_placeOf_13 : decode cX1_placeOf 13 = .ok (.iaload, 1) := by decide +kernel
theorem dX1_placeOf_14 : decode cX1_placeOf 14 = .ok (.istore_n 3, 1) := by decide +kernel
theorem dX1_placeOf_15 : decode cX1_placeOf 15 = .ok (.iconst 0, 1) := by decide +kernel
theorem dX1_placeOf_16 : decode cX1_placeOf 16 = .ok (.istore 4, 2) := by decide +kernel
theorem dX1_placeOf_18 : decode cX1_placeOf 18 = .ok (.iload 4, 2) := by decide +kernel
theorem dX1_placeOf_20 : decode cX1_placeOf 20 = .ok (.aload_n 0, 1) := by decide +kernel
theorem dX1_placeOf_21 : decode cX1_placeOf 21 = .ok (.getfield 25, 3) := by decide +kernel
theorem dX1_placeOf_24 : decode cX1_placeOf 24 = .ok (.iload_n 1, 1) := by decide +kernel
theorem dX1_placeOf_25 : decode cX1_placeOf 25 = .ok (.iaload, 1) := by decide +kernel
theorem dX1_placeOf_26 : decode cX1_placeOf 26 = .ok (.if_icmp .ge 47, 3) := by decide +kernel
theorem dX1_placeOf_29 : decode cX1_placeOf 29 = .ok (.iload_n 3, 1) := by decide +kernel
theorem dX1_placeOf_30 : decode cX1_placeOf 30 = .ok (.aload_n 0, 1) := by decide +kernel
theorem dX1_placeOf_31 : decode cX1_placeOf 31 = .ok (.getfield 19, 3) := by decide +kernel
theorem dX1_placeOf_34 : decode cX1_placeOf 34 = .ok (.iload_n 2, 1) := by decide +kernel
theorem dX1_placeOf_35 : decode cX1_placeOf 35 = .ok (.iaload, 1) := by decide +kernel
theorem dX1_placeOf_36 : decode cX1_placeOf 36 = .ok (.imul, 1) := by decide +kernel
theorem dX1_placeOf_37 : decode cX1_placeOf 37 = .ok (.aload_n 0, 1) := by decide +kernel
theorem dX1_placeOf_38 : decode cX1_placeOf 38 = .ok (.getfield 16, 3) := by decide +kernel
theorem dX1_placeOf_41 : decode cX1_placeOf 41 = .ok (.iload_n 2, 1) := by decide +kernel
theorem dX1_placeOf_42 : decode cX1_placeOf 42 = .ok (.iaload, 1) := by decide +kernel
theorem dX1_placeOf_43 : decode cX1_placeOf 43 = .ok (.aload_n 0, 1) := by decide +kernel
theorem dX1_placeOf_44 : decode cX1_placeOf 44 = .ok (.getfield 19, 3) := by decide +kernel
theorem dX1_placeOf_47 : decode cX1_placeOf 47 = .ok (.iload_n 1, 1) := by decide +kernel
theorem dX1_placeOf_48 : decode cX1_placeOf 48 = .ok (.iaload, 1) := by decide +kernel
theorem dX1_placeOf_49 : decode cX1_placeOf 49 = .ok (.imul, 1) := by decide +kernel
theorem dX1_placeOf_50 : decode cX1_placeOf 50 = .ok (.if_icmp .ne 6, 3) := by decide +kernel
theorem dX1_placeOf_53 : decode cX1_placeOf 53 = .ok (.iload 4, 2) := by decide +kernel
theorem dX1_placeOf_55 : decode cX1_placeOf 55 = .ok (.ireturn, 1) := by decide +kernel
theorem dX1_placeOf_56 : decode cX1_placeOf 56 = .ok (.iload_n 3, 1) := by decide +kernel
theorem dX1_placeOf_57 : decode cX1_placeOf 57 = .ok (.aload_n 0, 1) := by decide +kernel
theorem dX1_placeOf_58 : decode cX1_placeOf 58 = .ok (.getfield 19, 3) := by decide +kernel
theorem dX1_placeOf_61 : decode cX1_placeOf 61 = .ok (.iload_n 1, 1) := by decide +kernel
theorem dX1_placeOf_62 : decode cX1_placeOf 62 = .ok (.iaload, 1) := by decide +kernel
theorem dX1_placeOf_63 : decode cX1_placeOf 63 = .ok (.invokestatic 189, 3) := by decide +kernel
theorem dX1_placeOf_66 : decode cX1_placeOf 66 = .ok (.istore_n 3, 1) := by decide +kernel
theorem dX1_placeOf_67 : decode cX1_placeOf 67 = .ok (.iinc 4 1, 3) := by decide +kernel
theorem dX1_placeOf_70 : decode cX1_placeOf 70 = .ok (.goto (-52), 3) := by decide +kernel
theorem dX1_placeOf_73 : decode cX1_placeOf 73 = .ok (.iconst (-1), 1) := by decide +kernel
theorem dX1_placeOf_74 : decode cX1_placeOf 74 = .ok (.ireturn, 1) := by decide +kernel
theorem dX1_wheelOrder_0 : decode cX1_wheelOrder 0 = .ok (.iload_n 1, 1) := by decide +kernel
theorem dX1_wheelOrder_1 : decode cX1_wheelOrder 1 = .ok (.invokestatic 110, 3) := by decide +kernel
theorem dX1_wheelOrder_4 : decode cX1_wheelOrder 4 = .ok (.iload_n 2, 1) := by decide +kernel
theorem dX1_wheelOrder_5 : decode cX1_wheelOrder 5 = .ok (.invokestatic 110, 3) := by decide +kernel
theorem dX1_wheelOrder_8 : decode cX1_wheelOrder 8 = .ok (.aload_n 0, 1) := by decide +kernel
theorem dX1_wheelOrder_9 : decode cX1_wheelOrder 9 = .ok (.iload_n 1, 1) := by decide +kernel
theorem dX1_wheelOrder_10 : decode cX1_wheelOrder 10 = .ok (.iload_n 2, 1) := by decide +kernel
theorem dX1_wheelOrder_11 : decode cX1_wheelOrder 11 = .ok (.invokevirtual 192, 3) := by decide +kernel
theorem dX1_wheelOrder_14 : decode cX1_wheelOrder 14 = .ok (.ireturn, 1) := by decide +kernel
theorem dX1_against_0 : decode cX1_against 0 = .ok (.iload_n 1, 1) := by decide +kernel
theorem dX1_against_1 : decode cX1_against 1 = .ok (.invokestatic 110, 3) := by decide +kernel
theorem dX1_against_4 : decode cX1_against 4 = .ok (.iload_n 2, 1) := by decide +kernel
theorem dX1_against_5 : decode cX1_against 5 = .ok (.invokestatic 41, 3) := by decide +kernel
theorem dX1_against_8 : decode cX1_against 8 = .ok (.aload_n 0, 1) := by decide +kernel
theorem dX1_against_9 : decode cX1_against 9 = .ok (.iload_n 1, 1) := by decide +kernel
theorem dX1_against_10 : decode cX1_against 10 = .ok (.iload_n 2, 1) := by decide +kernel
theorem dX1_against_11 : decode cX1_against 11 = .ok (.invokevirtual 195, 3) := by decide +kernel
theorem dX1_against_14 : decode cX1_against 14 = .ok (.ireturn, 1) := by decide +kernel
theorem dX1_house_0 : decode cX1_house 0 = .ok (.iload_n 1, 1) := by decide +kernel
theorem dX1_house_1 : decode cX1_house 1 = .ok (.lconst 0, 1) := by decide +kernel
theorem dX1_house_2 : decode cX1_house 2 = .ok (.ldc2_w 53, 3) := by decide +kernel
theorem dX1_house_5 : decode cX1_house 5 = .ok (.invokestatic 49, 3) := by decide +kernel
theorem dX1_house_8 : decode cX1_house 8 = .ok (.aload_n 0, 1) := by decide +kernel
theorem dX1_house_9 : decode cX1_house 9 = .ok (.getfield 28, 3) := by decide +kernel
theorem dX1_house_12 : decode cX1_house 12 = .ok (.iload_n 1, 1) := by decide +kernel
theorem dX1_house_13 : decode cX1_house 13 = .ok (.iaload, 1) := by decide +kernel
theorem dX1_house_14 : decode cX1_house 14 = .ok (.ireturn, 1) := by decide +kernel
theorem dX1_knock_0 : decode cX1_knock 0 = .ok (.aload_n 0, 1) := by decide +kernel
theorem dX1_knock_1 : decode cX1_knock 1 = .ok (.getfield 28, 3) := by decide +kernel
theorem dX1_knock_4 : decode cX1_knock 4 = .ok (.iconst 3, 1) := by decide +kernel
theorem dX1_knock_5 : decode cX1_knock 5 = .ok (.dup2, 1) := by decide +kernel
theorem dX1_knock_6 : decode cX1_knock 6 = .ok (.iaload, 1) := by decide +kernel
theorem dX1_knock_7 : decode cX1_knock 7 = .ok (.iconst 1, 1) := by decide +kernel
theorem dX1_knock_8 : decode cX1_knock 8 = .ok (.iadd, 1) := by decide +kernel
theorem dX1_knock_9 : decode cX1_knock 9 = .ok (.iastore, 1) := by decide +kernel
theorem dX1_knock_10 : decode cX1_knock 10 = .ok (.aload_n 0, 1) := by decide +kernel
theorem dX1_knock_11 : decode cX1_knock 11 = .ok (.getfield 28, 3) := by decide +kernel
theorem dX1_knock_14 : decode cX1_knock 14 = .ok (.iconst 3, 1) := by decide +kernel
theorem dX1_knock_15 : decode cX1_knock 15 = .ok (.iaload, 1) := by decide +kernel
theorem dX1_knock_16 : decode cX1_knock 16 = .ok (.ireturn, 1) := by decide +kernel
theorem dX1_isSound_0 : decode cX1_isSound 0 = .ok (.iconst 0, 1) := by decide +kernel
theorem dX1_isSound_1 : decode cX1_isSound 1 = .ok (.istore_n 1, 1) := by decide +kernel
theorem dX1_isSound_2 : decode cX1_isSound 2 = .ok (.iload_n 1, 1) := by decide +kernel
theorem dX1_isSound_3 : decode cX1_isSound 3 = .ok (.iconst 4, 1) := by decide +kernel
theorem dX1_isSound_4 : decode cX1_isSound 4 = .ok (.if_icmp .ge 38, 3) := by decide +kernel
theorem dX1_isSound_7 : decode cX1_isSound 7 = .ok (.aload_n 0, 1) := by decide +kernel
theorem dX1_isSound_8 : decode cX1_isSound 8 = .ok (.getfield 9, 3) := by decide +kernel
theorem dX1_isSound_11 : decode cX1_isSound 11 = .ok (.iload_n 1, 1) := by decide +kernel
theorem dX1_isSound_12 : decode cX1_isSound 12 = .ok (.iaload, 1) := by decide +kernel
theorem dX1_isSound_13 : decode cX1_isSound 13 = .ok (.i2l, 1) := by decide +kernel
theorem dX1_isSound_14 : decode cX1_isSound 14 = .ok (.aload_n 0, 1) := by decide +kernel
theorem dX1_isSound_15 : decode cX1_isSound 15 = .ok (.getfield 13, 3) := by decide +kernel
theorem dX1_isSound_18 : decode cX1_isSound 18 = .ok (.iload_n 1, 1) := by decide +kernel
theorem dX1_isSound_19 : decode cX1_isSound 19 = .ok (.iaload, 1) := by decide +kernel
theorem dX1_isSound_20 : decode cX1_isSound 20 = .ok (.invokestatic 198, 3) := by decide +kernel
theorem dX1_isSound_23 : decode cX1_isSound 23 = .ok (.ifCond .eq 11, 3) := by decide +kernel
theorem dX1_isSound_26 : decode cX1_isSound 26 = .ok (.aload_n 0, 1) := by decide +kernel
theorem dX1_isSound_27 : decode cX1_isSound 27 = .ok (.iload_n 1, 1) := by decide +kernel
theorem dX1_isSound_28 : decode cX1_isSound 28 = .ok (.invokevirtual 202, 3) := by decide +kernel
theorem dX1_isSound_31 : decode cX1_isSound 31 = .ok (.ifCond .ne 5, 3) := by decide +kernel
theorem dX1_isSound_34 : decode cX1_isSound 34 = .ok (.iconst 0, 1) := by decide +kernel
theorem dX1_isSound_35 : decode cX1_isSound 35 = .ok (.ireturn, 1) := by decide +kernel
theorem dX1_isSound_36 : decode cX1_isSound 36 = .ok (.iinc 1 1, 3) := by decide +kernel
theorem dX1_isSound_39 : decode cX1_isSound 39 = .ok (.goto (-37), 3) := by decide +kernel
theorem dX1_isSound_42 : decode cX1_isSound 42 = .ok (.iconst 0, 1) := by decide +kernel
theorem dX1_isSound_43 : decode cX1_isSound 43 = .ok (.istore_n 1, 1) := by decide +kernel
theorem dX1_isSound_44 : decode cX1_isSound 44 = .ok (.iload_n 1, 1) := by decide +kernel
theorem dX1_isSound_45 : decode cX1_isSound 45 = .ok (.iconst 3, 1) := by decide +kernel
theorem dX1_isSound_46 : decode cX1_isSound 46 = .ok (.if_icmp .ge 35, 3) := by decide +kernel
theorem dX1_isSound_49 : decode cX1_isSound 49 = .ok (.aload_n 0, 1) := by decide +kernel
theorem dX1_isSound_50 : decode cX1_isSound 50 = .ok (.iload_n 1, 1) := by decide +kernel
theorem dX1_isSound_51 : decode cX1_isSound 51 = .ok (.invokevirtual 206, 3) := by decide +kernel
theorem dX1_isSound_54 : decode cX1_isSound 54 = .ok (.ifCond .eq 19, 3) := by decide +kernel
theorem dX1_isSound_57 : decode cX1_isSound 57 = .ok (.aload_n 0, 1) := by decide +kernel
theorem dX1_isSound_58 : decode cX1_isSound 58 = .ok (.iload_n 1, 1) := by decide +kernel
theorem dX1_isSound_59 : decode cX1_isSound 59 = .ok (.invokevirtual 209, 3) := by decide +kernel
theorem dX1_isSound_62 : decode cX1_isSound 62 = .ok (.ifCond .eq 11, 3) := by decide +kernel
theorem dX1_isSound_65 : decode cX1_isSound 65 = .ok (.aload_n 0, 1) := by decide +kernel
theorem dX1_isSound_66 : decode cX1_isSound 66 = .ok (.iload_n 1, 1) := by decide +kernel
theorem dX1_isSound_67 : decode cX1_isSound 67 = .ok (.invokevirtual 212, 3) := by decide +kernel
theorem dX1_isSound_70 : decode cX1_isSound 70 = .ok (.ifCond .ne 5, 3) := by decide +kernel
theorem dX1_isSound_73 : decode cX1_isSound 73 = .ok (.iconst 0, 1) := by decide +kernel
theorem dX1_isSound_74 : decode cX1_isSound 74 = .ok (.ireturn, 1) := by decide +kernel
theorem dX1_isSound_75 : decode cX1_isSound 75 = .ok (.iinc 1 1, 3) := by decide +kernel
theorem dX1_isSound_78 : decode cX1_isSound 78 = .ok (.goto (-34), 3) := by decide +kernel
theorem dX1_isSound_81 : decode cX1_isSound 81 = .ok (.iconst 1, 1) := by decide +kernel
theorem dX1_isSound_82 : decode cX1_isSound 82 = .ok (.ireturn, 1) := by decide +kernel
theorem dX1_digest_0 : decode cX1_digest 0 = .ok (.aload_n 0, 1) := by decide +kernel
theorem dX1_digest_1 : decode cX1_digest 1 = .ok (.ldc2_w 215, 3) := by decide +kernel
theorem dX1_digest_4 : decode cX1_digest 4 = .ok (.invokevirtual 217, 3) := by decide +kernel
theorem dX1_digest_7 : decode cX1_digest 7 = .ok (.lstore_n 1, 1) := by decide +kernel
theorem dX1_digest_8 : decode cX1_digest 8 = .ok (.aload_n 0, 1) := by decide +kernel
theorem dX1_digest_9 : decode cX1_digest 9 = .ok (.lload_n 1, 1) := by decide +kernel
theorem dX1_digest_10 : decode cX1_digest 10 = .ok (.invokevirtual 221, 3) := by decide +kernel
theorem dX1_digest_13 : decode cX1_digest 13 = .ok (.lstore_n 1, 1) := by decide +kernel
theorem dX1_digest_14 : decode cX1_digest 14 = .ok (.iconst 0, 1) := by decide +kernel
theorem dX1_digest_15 : decode cX1_digest 15 = .ok (.istore_n 3, 1) := by decide +kernel
theorem dX1_digest_16 : decode cX1_digest 16 = .ok (.iload_n 3, 1) := by decide +kernel
theorem dX1_digest_17 : decode cX1_digest 17 = .ok (.iconst 4, 1) := by decide +kernel
theorem dX1_digest_18 : decode cX1_digest 18 = .ok (.if_icmp .ge 21, 3) := by decide +kernel
theorem dX1_digest_21 : decode cX1_digest 21 = .ok (.lload_n 1, 1) := by decide +kernel
theorem dX1_digest_22 : decode cX1_digest 22 = .ok (.aload_n 0, 1) := by decide +kernel
theorem dX1_digest_23 : decode cX1_digest 23 = .ok (.getfield 28, 3) := by decide +kernel
theorem dX1_digest_26 : decode cX1_digest 26 = .ok (.iload_n 3, 1) := by decide +kernel
theorem dX1_digest_27 : decode cX1_digest 27 = .ok (.iaload, 1) := by decide +kernel
theorem dX1_digest_28 : decode cX1_digest 28 = .ok (.i2l, 1) := by decide +kernel
theorem dX1_digest_29 : decode cX1_digest 29 = .ok (.invokestatic 224, 3) := by decide +kernel
theorem dX1_digest_32 : decode cX1_digest 32 = .ok (.lstore_n 1, 1) := by decide +kernel
theorem dX1_digest_33 : decode cX1_digest 33 = .ok (.iinc 3 1, 3) := by decide +kernel
theorem dX1_digest_36 : decode cX1_digest 36 = .ok (.goto (-20), 3) := by decide +kernel
theorem dX1_digest_39 : decode cX1_digest 39 = .ok (.lload_n 1, 1) := by decide +kernel
theorem dX1_digest_40 : decode cX1_digest 40 = .ok (.aload_n 0, 1) := by decide +kernel
theorem dX1_digest_41 : decode cX1_digest 41 = .ok (.invokevirtual 228, 3) := by decide +kernel
theorem dX1_digest_44 : decode cX1_digest 44 = .ok (.ifCond .eq 7, 3) := by decide +kernel
theorem dX1_digest_47 : decode cX1_digest 47 = .ok (.lconst 1, 1) := by decide +kernel
theorem dX1_digest_48 : decode cX1_digest 48 = .ok (.goto 4, 3) := by decide +kernel
theorem dX1_digest_51 : decode cX1_digest 51 = .ok (.lconst 0, 1) := by decide +kernel
theorem dX1_digest_52 : decode cX1_digest 52 = .ok (.invokestatic 224, 3) := by decide +kernel
theorem dX1_digest_55 : decode cX1_digest 55 = .ok (.lreturn, 1) := by decide +kernel
theorem dX1_requireCell_0 : decode cX1_requireCell 0 = .ok (.iload_n 0, 1) := by decide +kernel
theorem dX1_requireCell_1 : decode cX1_requireCell 1 = .ok (.ifCond .lt 8, 3) := by decide +kernel
theorem dX1_requireCell_4 : decode cX1_requireCell 4 = .ok (.iload_n 0, 1) := by decide +kernel
theorem dX1_requireCell_5 : decode cX1_requireCell 5 = .ok (.iconst 4, 1) := by decide +kernel
theorem dX1_requireCell_6 : decode cX1_requireCell 6 = .ok (.if_icmp .lt 13, 3) := by decide +kernel
theorem dX1_requireCell_9 : decode cX1_requireCell 9 = .ok (.new 232, 3) := by decide +kernel
theorem dX1_requireCell_12 : decode cX1_requireCell 12 = .ok (.dup, 1) := by decide +kernel
theorem dX1_requireCell_13 : decode cX1_requireCell 13 = .ok (.ldc 234, 2) := by decide +kernel
theorem dX1_requireCell_15 : decode cX1_requireCell 15 = .ok (.invokespecial 236, 3) := by decide +kernel
theorem dX1_requireCell_18 : decode cX1_requireCell 18 = .ok (.athrow, 1) := by decide +kernel
theorem dX1_requireCell_19 : decode cX1_requireCell 19 = .ok (.return_, 1) := by decide +kernel
theorem dX1_requireWheel_0 : decode cX1_requireWheel 0 = .ok (.iload_n 0, 1) := by decide +kernel
theorem dX1_requireWheel_1 : decode cX1_requireWheel 1 = .ok (.ifCond .lt 8, 3) := by decide +kernel
theorem dX1_requireWheel_4 : decode cX1_requireWheel 4 = .ok (.iload_n 0, 1) := by decide +kernel
theorem dX1_requireWheel_5 : decode cX1_requireWheel 5 = .ok (.iconst 3, 1) := by decide +kernel
theorem dX1_requireWheel_6 : decode cX1_requireWheel 6 = .ok (.if_icmp .lt 13, 3) := by decide +kernel
theorem dX1_requireWheel_9 : decode cX1_requireWheel 9 = .ok (.new 232, 3) := by decide +kernel
theorem dX1_requireWheel_12 : decode cX1_requireWheel 12 = .ok (.dup, 1) := by decide +kernel
theorem dX1_requireWheel_13 : decode cX1_requireWheel 13 = .ok (.ldc 239, 2) := by decide +kernel
theorem dX1_requireWheel_15 : decode cX1_requireWheel 15 = .ok (.invokespecial 236, 3) := by decide +kernel
theorem dX1_requireWheel_18 : decode cX1_requireWheel 18 = .ok (.athrow, 1) := by decide +kernel
theorem dX1_requireWheel_19 : decode cX1_requireWheel 19 = .ok (.return_, 1) := by decide +kernel
theorem dX1_requireBetween_0 : decode cX1_requireBetween 0 = .ok (.iload_n 0, 1) := by decide +kernel
theorem dX1_requireBetween_1 : decode cX1_requireBetween 1 = .ok (.i2l, 1) := by decide +kernel
theorem dX1_requireBetween_2 : decode cX1_requireBetween 2 = .ok (.lload_n 1, 1) := by decide +kernel
theorem dX1_requireBetween_3 : decode cX1_requireBetween 3 = .ok (.lcmp, 1) := by decide +kernel
theorem dX1_requireBetween_4 : decode cX1_requireBetween 4 = .ok (.ifCond .lt 10, 3) := by decide +kernel
theorem dX1_requireBetween_7 : decode cX1_requireBetween 7 = .ok (.iload_n 0, 1) := by decide +kernel
theorem dX1_requireBetween_8 : decode cX1_requireBetween 8 = .ok (.i2l, 1) := by decide +kernel
theorem dX1_requireBetween_9 : decode cX1_requireBetween 9 = .ok (.lload_n 3, 1) := by decide +kernel
theorem dX1_requireBetween_10 : decode cX1_requireBetween 10 = .ok (.lcmp, 1) := by decide +kernel
theorem dX1_requireBetween_11 : decode cX1_requireBetween 11 = .ok (.ifCond .le 13, 3) := by decide +kernel
theorem dX1_requireBetween_14 : decode cX1_requireBetween 14 = .ok (.new 241, 3) := by decide +kernel
theorem dX1_requireBetween_17 : decode cX1_requireBetween 17 = .ok (.dup, 1) := by decide +kernel
theorem dX1_requireBetween_18 : decode cX1_requireBetween 18 = .ok (.ldc 243, 2) := by decide +kernel
theorem dX1_requireBetween_20 : decode cX1_requireBetween 20 = .ok (.invokespecial 245, 3) := by decide +kernel
theorem dX1_requireBetween_23 : decode cX1_requireBetween 23 = .ok (.athrow, 1) := by decide +kernel
theorem dX1_requireBetween_24 : decode cX1_requireBetween 24 = .ok (.return_, 1) := by decide +kernel
theorem dX1_requireWay_0 : decode cX1_requireWay 0 = .ok (.iload_n 0, 1) := by decide +kernel
theorem dX1_requireWay_1 : decode cX1_requireWay 1 = .ok (.lconst 0, 1) := by decide +kernel
theorem dX1_requireWay_2 : decode cX1_requireWay 2 = .ok (.ldc2_w 246, 3) := by decide +kernel
theorem dX1_requireWay_5 : decode cX1_requireWay 5 = .ok (.invokestatic 49, 3) := by decide +kernel
theorem dX1_requireWay_8 : decode cX1_requireWay 8 = .ok (.return_, 1) := by decide +kernel
theorem dX1_requireBottom_0 : decode cX1_requireBottom 0 = .ok (.iload_n 0, 1) := by decide +kernel
theorem dX1_requireBottom_1 : decode cX1_requireBottom 1 = .ok (.lconst 1, 1) := by decide +kernel
theorem dX1_requireBottom_2 : decode cX1_requireBottom 2 = .ok (.ldc2_w 90, 3) := by decide +kernel
theorem dX1_requireBottom_5 : decode cX1_requireBottom 5 = .ok (.invokestatic 49, 3) := by decide +kernel
theorem dX1_requireBottom_8 : decode cX1_requireBottom 8 = .ok (.iload_n 0, 1) := by decide +kernel
theorem dX1_requireBottom_9 : decode cX1_requireBottom 9 = .ok (.iconst 2, 1) := by decide +kernel
theorem dX1_requireBottom_10 : decode cX1_requireBottom 10 = .ok (.irem, 1) := by decide +kernel
theorem dX1_requireBottom_11 : decode cX1_requireBottom 11 = .ok (.ifCond .eq 9, 3) := by decide +kernel
theorem dX1_requireBottom_14 : decode cX1_requireBottom 14 = .ok (.iload_n 0, 1) := by decide +kernel
theorem dX1_requireBottom_15 : decode cX1_requireBottom 15 = .ok (.iconst 5, 1) := by decide +kernel
theorem dX1_requireBottom_16 : decode cX1_requireBottom 16 = .ok (.irem, 1) := by decide +kernel
theorem dX1_requireBottom_17 : decode cX1_requireBottom 17 = .ok (.ifCond .ne 13, 3) := by decide +kernel
theorem dX1_requireBottom_20 : decode cX1_requireBottom 20 = .ok (.new 241, 3) := by decide +kernel
theorem dX1_requireBottom_23 : decode cX1_requireBottom 23 = .ok (.dup, 1) := by decide +kernel
theorem dX1_requireBottom_24 : decode cX1_requireBottom 24 = .ok (.ldc 248, 2) := by decide +kernel
theorem dX1_requireBottom_26 : decode cX1_requireBottom 26 = .ok (.invokespecial 245, 3) := by decide +kernel
theorem dX1_requireBottom_29 : decode cX1_requireBottom 29 = .ok (.athrow, 1) := by decide +kernel
theorem dX1_requireBottom_30 : decode cX1_requireBottom 30 = .ok (.return_, 1) := by decide +kernel
theorem dX1_fits_0 : decode cX1_fits 0 = .ok (.lload_n 0, 1) := by decide +kernel
theorem dX1_fits_1 : decode cX1_fits 1 = .ok (.ldc2_w 45, 3) := by decide +kernel
theorem dX1_fits_4 : decode cX1_fits 4 = .ok (.lcmp, 1) := by decide +kernel
theorem dX1_fits_5 : decode cX1_fits 5 = .ok (.ifCond .lt 24, 3) := by decide +kernel
theorem dX1_fits_8 : decode cX1_fits 8 = .ok (.lload_n 0, 1) := by decide +kernel
theorem dX1_fits_9 : decode cX1_fits 9 = .ok (.ldc2_w 47, 3) := by decide +kernel
theorem dX1_fits_12 : decode cX1_fits 12 = .ok (.lcmp, 1) := by decide +kernel
theorem dX1_fits_13 : decode cX1_fits 13 = .ok (.ifCond .gt 16, 3) := by decide +kernel
theorem dX1_fits_16 : decode cX1_fits 16 = .ok (.iload_n 2, 1) := by decide +kernel
theorem dX1_fits_17 : decode cX1_fits 17 = .ok (.ifCond .lt 12, 3) := by decide +kernel
theorem dX1_fits_20 : decode cX1_fits 20 = .ok (.iload_n 2, 1) := by decide +kernel
theorem dX1_fits_21 : decode cX1_fits 21 = .ok (.iconst 3, 1) := by decide +kernel
theorem dX1_fits_22 : decode cX1_fits 22 = .ok (.if_icmp .gt 7, 3) := by decide +kernel
theorem dX1_fits_25 : decode cX1_fits 25 = .ok (.iconst 1, 1) := by decide +kernel
theorem dX1_fits_26 : decode cX1_fits 26 = .ok (.goto 4, 3) := by decide +kernel
theorem dX1_fits_29 : decode cX1_fits 29 = .ok (.iconst 0, 1) := by decide +kernel
theorem dX1_fits_30 : decode cX1_fits 30 = .ok (.ireturn, 1) := by decide +kernel
theorem dX1_bring_0 : decode cX1_bring 0 = .ok (.lload_n 2, 1) := by decide +kernel
theorem dX1_bring_1 : decode cX1_bring 1 = .ok (.iload 4, 2) := by decide +kernel
theorem dX1_bring_3 : decode cX1_bring 3 = .ok (.invokestatic 198, 3) := by decide +kernel
theorem dX1_bring_6 : decode cX1_bring 6 = .ok (.ifCond .ne 8, 3) := by decide +kernel
theorem dX1_bring_9 : decode cX1_bring 9 = .ok (.aload_n 0, 1) := by decide +kernel
theorem dX1_bring_10 : decode cX1_bring 10 = .ok (.invokevirtual 80, 3) := by decide +kernel
theorem dX1_bring_13 : decode cX1_bring 13 = .ok (.ireturn, 1) := by decide +kernel
theorem dX1_bring_14 : decode cX1_bring 14 = .ok (.aload_n 0, 1) := by decide +kernel
theorem dX1_bring_15 : decode cX1_bring 15 = .ok (.getfield 28, 3) := by decide +kernel
theorem dX1_bring_18 : decode cX1_bring 18 = .ok (.iconst 0, 1) := by decide +kernel
theorem dX1_bring_19 : decode cX1_bring 19 = .ok (.dup2, 1) := by decide +kernel
theorem dX1_bring_20 : decode cX1_bring 20 = .ok (.iaload, 1) := by decide +kernel
theorem dX1_bring_21 : decode cX1_bring 21 = .ok (.iconst 1, 1) := by decide +kernel
theorem dX1_bring_22 : decode cX1_bring 22 = .ok (.iadd, 1) := by decide +kernel
theorem dX1_bring_23 : decode cX1_bring 23 = .ok (.iastore, 1) := by decide +kernel
theorem dX1_bring_24 : decode cX1_bring 24 = .ok (.aload_n 0, 1) := by decide +kernel
theorem dX1_bring_25 : decode cX1_bring 25 = .ok (.getfield 9, 3) := by decide +kernel
theorem dX1_bring_28 : decode cX1_bring 28 = .ok (.iload_n 1, 1) := by decide +kernel
theorem dX1_bring_29 : decode cX1_bring 29 = .ok (.iaload, 1) := by decide +kernel
theorem dX1_bring_30 : decode cX1_bring 30 = .ok (.i2l, 1) := by decide +kernel
theorem dX1_bring_31 : decode cX1_bring 31 = .ok (.lload_n 2, 1) := by decide +kernel
theorem dX1_bring_32 : decode cX1_bring 32 = .ok (.lcmp, 1) := by decide +kernel
theorem dX1_bring_33 : decode cX1_bring 33 = .ok (.ifCond .ne 16, 3) := by decide +kernel
theorem dX1_bring_36 : decode cX1_bring 36 = .ok (.aload_n 0, 1) := by decide +kernel
theorem dX1_bring_37 : decode cX1_bring 37 = .ok (.getfield 13, 3) := by decide +kernel
theorem dX1_bring_40 : decode cX1_bring 40 = .ok (.iload_n 1, 1) := by decide +kernel
theorem dX1_bring_41 : decode cX1_bring 41 = .ok (.iaload, 1) := by decide +kernel
theorem dX1_bring_42 : decode cX1_bring 42 = .ok (.iload 4, 2) := by decide +kernel
theorem dX1_bring_44 : decode cX1_bring 44 = .ok (.if_icmp .ne 5, 3) := by decide +kernel
theorem dX1_bring_47 : decode cX1_bring 47 = .ok (.iconst 0, 1) := by decide +kernel
theorem dX1_bring_48 : decode cX1_bring 48 = .ok (.ireturn, 1) := by decide +kernel
theorem dX1_bring_49 : decode cX1_bring 49 = .ok (.aload_n 0, 1) := by decide +kernel
theorem dX1_bring_50 : decode cX1_bring 50 = .ok (.getfield 9, 3) := by decide +kernel
theorem dX1_bring_53 : decode cX1_bring 53 = .ok (.iload_n 1, 1) := by decide +kernel
theorem dX1_bring_54 : decode cX1_bring 54 = .ok (.lload_n 2, 1) := by decide +kernel
theorem dX1_bring_55 : decode cX1_bring 55 = .ok (.l2i, 1) := by decide +kernel
theorem dX1_bring_56 : decode cX1_bring 56 = .ok (.iastore, 1) := by decide +kernel
theorem dX1_bring_57 : decode cX1_bring 57 = .ok (.aload_n 0, 1) := by decide +kernel
theorem dX1_bring_58 : decode cX1_bring 58 = .ok (.getfield 13, 3) := by decide +kernel
theorem dX1_bring_61 : decode cX1_bring 61 = .ok (.iload_n 1, 1) := by decide +kernel
theorem dX1_bring_62 : decode cX1_bring 62 = .ok (.iload 4, 2) := by decide +kernel
theorem dX1_bring_64 : decode cX1_bring 64 = .ok (.iastore, 1) := by decide +kernel
theorem dX1_bring_65 : decode cX1_bring 65 = .ok (.iconst 1, 1) := by decide +kernel
theorem dX1_bring_66 : decode cX1_bring 66 = .ok (.ireturn, 1) := by decide +kernel
theorem dX1_bringAt_0 : decode cX1_bringAt 0 = .ok (.iload 4, 2) := by decide +kernel
theorem dX1_bringAt_2 : decode cX1_bringAt 2 = .ok (.ifCond .ge 20, 3) := by decide +kernel
theorem dX1_bringAt_5 : decode cX1_bringAt 5 = .ok (.aload_n 0, 1) := by decide +kernel
theorem dX1_bringAt_6 : decode cX1_bringAt 6 = .ok (.iload_n 1, 1) := by decide +kernel
theorem dX1_bringAt_7 : decode cX1_bringAt 7 = .ok (.lload_n 2, 1) := by decide +kernel
theorem dX1_bringAt_8 : decode cX1_bringAt 8 = .ok (.iload 4, 2) := by decide +kernel
theorem dX1_bringAt_10 : decode cX1_bringAt 10 = .ok (.ineg, 1) := by decide +kernel
theorem dX1_bringAt_11 : decode cX1_bringAt 11 = .ok (.invokestatic 59, 3) := by decide +kernel
theorem dX1_bringAt_14 : decode cX1_bringAt 14 = .ok (.lmul, 1) := by decide +kernel
theorem dX1_bringAt_15 : decode cX1_bringAt 15 = .ok (.iconst 0, 1) := by decide +kernel
theorem dX1_bringAt_16 : decode cX1_bringAt 16 = .ok (.invokevirtual 55, 3) := by decide +kernel
theorem dX1_bringAt_19 : decode cX1_bringAt 19 = .ok (.goto 11, 3) := by decide +kernel
theorem dX1_bringAt_22 : decode cX1_bringAt 22 = .ok (.aload_n 0, 1) := by decide +kernel
theorem dX1_bringAt_23 : decode cX1_bringAt 23 = .ok (.iload_n 1, 1) := by decide +kernel
theorem dX1_bringAt_24 : decode cX1_bringAt 24 = .ok (.lload_n 2, 1) := by decide +kernel
theorem dX1_bringAt_25 : decode cX1_bringAt 25 = .ok (.iload 4, 2) := by decide +kernel
theorem dX1_bringAt_27 : decode cX1_bringAt 27 = .ok (.invokevirtual 55, 3) := by decide +kernel
theorem dX1_bringAt_30 : decode cX1_bringAt 30 = .ok (.ireturn, 1) := by decide +kernel
theorem dX1_decline_0 : decode cX1_decline 0 = .ok (.aload_n 0, 1) := by decide +kernel
theorem dX1_decline_1 : decode cX1_decline 1 = .ok (.getfield 28, 3) := by decide +kernel
theorem dX1_decline_4 : decode cX1_decline 4 = .ok (.iconst 2, 1) := by decide +kernel
theorem dX1_decline_5 : decode cX1_decline 5 = .ok (.dup2, 1) := by decide +kernel
theorem dX1_decline_6 : decode cX1_decline 6 = .ok (.iaload, 1) := by decide +kernel
theorem dX1_decline_7 : decode cX1_decline 7 = .ok (.iconst 1, 1) := by decide +kernel
theorem dX1_decline_8 : decode cX1_decline 8 = .ok (.iadd, 1) := by decide +kernel
theorem dX1_decline_9 : decode cX1_decline 9 = .ok (.iastore, 1) := by decide +kernel
theorem dX1_decline_10 : decode cX1_decline 10 = .ok (.bipush (-9), 2) := by decide +kernel
theorem dX1_decline_12 : decode cX1_decline 12 = .ok (.ireturn, 1) := by decide +kernel
theorem dX1_countAt_0 : decode cX1_countAt 0 = .ok (.aload_n 0, 1) := by decide +kernel
theorem dX1_countAt_1 : decode cX1_countAt 1 = .ok (.getfield 9, 3) := by decide +kernel
theorem dX1_countAt_4 : decode cX1_countAt 4 = .ok (.iload_n 1, 1) := by decide +kernel
theorem dX1_countAt_5 : decode cX1_countAt 5 = .ok (.iaload, 1) := by decide +kernel
theorem dX1_countAt_6 : decode cX1_countAt 6 = .ok (.i2l, 1) := by decide +kernel
theorem dX1_countAt_7 : decode cX1_countAt 7 = .ok (.iload_n 2, 1) := by decide +kernel
theorem dX1_countAt_8 : decode cX1_countAt 8 = .ok (.aload_n 0, 1) := by decide +kernel
theorem dX1_countAt_9 : decode cX1_countAt 9 = .ok (.getfield 13, 3) := by decide +kernel
theorem dX1_countAt_12 : decode cX1_countAt 12 = .ok (.iload_n 1, 1) := by decide +kernel
theorem dX1_countAt_13 : decode cX1_countAt 13 = .ok (.iaload, 1) := by decide +kernel
theorem dX1_countAt_14 : decode cX1_countAt 14 = .ok (.isub, 1) := by decide +kernel
theorem dX1_countAt_15 : decode cX1_countAt 15 = .ok (.invokestatic 59, 3) := by decide +kernel
theorem dX1_countAt_18 : decode cX1_countAt 18 = .ok (.lmul, 1) := by decide +kernel
theorem dX1_countAt_19 : decode cX1_countAt 19 = .ok (.lreturn, 1) := by decide +kernel
theorem dX1_orderOfCells_0 : decode cX1_orderOfCells 0 = .ok (.aload_n 0, 1) := by decide +kernel
theorem dX1_orderOfCells_1 : decode cX1_orderOfCells 1 = .ok (.iload_n 1, 1) := by decide +kernel
theorem dX1_orderOfCells_2 : decode cX1_orderOfCells 2 = .ok (.iconst 3, 1) := by decide +kernel
theorem dX1_orderOfCells_3 : decode cX1_orderOfCells 3 = .ok (.invokevirtual 73, 3) := by decide +kernel
theorem dX1_orderOfCells_6 : decode cX1_orderOfCells 6 = .ok (.aload_n 0, 1) := by decide +kernel
theorem dX1_orderOfCells_7 : decode cX1_orderOfCells 7 = .ok (.iload_n 2, 1) := by decide +kernel
theorem dX1_orderOfCells_8 : decode cX1_orderOfCells 8 = .ok (.iconst 3, 1) := by decide +kernel
theorem dX1_orderOfCells_9 : decode cX1_orderOfCells 9 = .ok (.invokevirtual 73, 3) := by decide +kernel
theorem dX1_orderOfCells_12 : decode cX1_orderOfCells 12 = .ok (.lsub, 1) := by decide +kernel
theorem dX1_orderOfCells_13 : decode cX1_orderOfCells 13 = .ok (.invokestatic 117, 3) := by decide +kernel
theorem dX1_orderOfCells_16 : decode cX1_orderOfCells 16 = .ok (.ireturn, 1) := by decide +kernel
theorem dX1_areSame_0 : decode cX1_areSame 0 = .ok (.aload_n 0, 1) := by decide +kernel
theorem dX1_areSame_1 : decode cX1_areSame 1 = .ok (.getfield 9, 3) := by decide +kernel
theorem dX1_areSame_4 : decode cX1_areSame 4 = .ok (.iload_n 1, 1) := by decide +kernel
theorem dX1_areSame_5 : decode cX1_areSame 5 = .ok (.iaload, 1) := by decide +kernel
theorem dX1_areSame_6 : decode cX1_areSame 6 = .ok (.aload_n 0, 1) := by decide +kernel
theorem dX1_areSame_7 : decode cX1_areSame 7 = .ok (.getfield 9, 3) := by decide +kernel
theorem dX1_areSame_10 : decode cX1_areSame 10 = .ok (.iload_n 2, 1) := by decide +kernel
theorem dX1_areSame_11 : decode cX1_areSame 11 = .ok (.iaload, 1) := by decide +kernel
theorem dX1_areSame_12 : decode cX1_areSame 12 = .ok (.if_icmp .ne 22, 3) := by decide +kernel
theorem dX1_areSame_15 : decode cX1_areSame 15 = .ok (.aload_n 0, 1) := by decide +kernel
theorem dX1_areSame_16 : decode cX1_areSame 16 = .ok (.getfield 13, 3) := by decide +kernel
theorem dX1_areSame_19 : decode cX1_areSame 19 = .ok (.iload_n 1, 1) := by decide +kernel
theorem dX1_areSame_20 : decode cX1_areSame 20 = .ok (.iaload, 1) := by decide +kernel
theorem dX1_areSame_21 : decode cX1_areSame 21 = .ok (.aload_n 0, 1) := by decide +kernel
theorem dX1_areSame_22 : decode cX1_areSame 22 = .ok (.getfield 13, 3) := by decide +kernel
theorem dX1_areSame_25 : decode cX1_areSame 25 = .ok (.iload_n 2, 1) := by decide +kernel
theorem dX1_areSame_26 : decode cX1_areSame 26 = .ok (.iaload, 1) := by decide +kernel
theorem dX1_areSame_27 : decode cX1_areSame 27 = .ok (.if_icmp .ne 7, 3) := by decide +kernel
theorem dX1_areSame_30 : decode cX1_areSame 30 = .ok (.iconst 1, 1) := by decide +kernel
theorem dX1_areSame_31 : decode cX1_areSame 31 = .ok (.goto 4, 3) := by decide +kernel
theorem dX1_areSame_34 : decode cX1_areSame 34 = .ok (.iconst 0, 1) := by decide +kernel
theorem dX1_areSame_35 : decode cX1_areSame 35 = .ok (.ireturn, 1) := by decide +kernel
theorem dX1_signOf_0 : decode cX1_signOf 0 = .ok (.lload_n 0, 1) := by decide +kernel
theorem dX1_signOf_1 : decode cX1_signOf 1 = .ok (.lconst 0, 1) := by decide +kernel
theorem dX1_signOf_2 : decode cX1_signOf 2 = .ok (.lcmp, 1) := by decide +kernel
theorem dX1_signOf_3 : decode cX1_signOf 3 = .ok (.ifCond .ne 5, 3) := by decide +kernel
theorem dX1_signOf_6 : decode cX1_signOf 6 = .ok (.iconst 0, 1) := by decide +kernel
theorem dX1_signOf_7 : decode cX1_signOf 7 = .ok (.ireturn, 1) := by decide +kernel
theorem dX1_signOf_8 : decode cX1_signOf 8 = .ok (.lload_n 0, 1) := by decide +kernel
theorem dX1_signOf_9 : decode cX1_signOf 9 = .ok (.lconst 0, 1) := by decide +kernel
theorem dX1_signOf_10 : decode cX1_signOf 10 = .ok (.lcmp, 1) := by decide +kernel
theorem dX1_signOf_11 : decode cX1_signOf 11 = .ok (.ifCond .ge 7, 3) := by decide +kernel
theorem dX1_signOf_14 : decode cX1_signOf 14 = .ok (.iconst (-1), 1) := by decide +kernel
theorem dX1_signOf_15 : decode cX1_signOf 15 = .ok (.goto 4, 3) := by decide +kernel
theorem dX1_signOf_18 : decode cX1_signOf 18 = .ok (.iconst 1, 1) := by decide +kernel
theorem dX1_signOf_19 : decode cX1_signOf 19 = .ok (.ireturn, 1) := by decide +kernel
theorem dX1_tenTo_0 : decode cX1_tenTo 0 = .ok (.lconst 1, 1) := by decide +kernel
theorem dX1_tenTo_1 : decode cX1_tenTo 1 = .ok (.lstore_n 1, 1) := by decide +kernel
theorem dX1_tenTo_2 : decode cX1_tenTo 2 = .ok (.iconst 0, 1) := by decide +kernel
theorem dX1_tenTo_3 : decode cX1_tenTo 3 = .ok (.istore_n 3, 1) := by decide +kernel
theorem dX1_tenTo_4 : decode cX1_tenTo 4 = .ok (.iload_n 3, 1) := by decide +kernel
theorem dX1_tenTo_5 : decode cX1_tenTo 5 = .ok (.iload_n 0, 1) := by decide +kernel
theorem dX1_tenTo_6 : decode cX1_tenTo 6 = .ok (.if_icmp .ge 21, 3) := by decide +kernel
theorem dX1_tenTo_9 : decode cX1_tenTo 9 = .ok (.iload_n 3, 1) := by decide +kernel
theorem dX1_tenTo_10 : decode cX1_tenTo 10 = .ok (.bipush 18, 2) := by decide +kernel
theorem dX1_tenTo_12 : decode cX1_tenTo 12 = .ok (.if_icmp .ge 15, 3) := by decide +kernel
theorem dX1_tenTo_15 : decode cX1_tenTo 15 = .ok (.lload_n 1, 1) := by decide +kernel
theorem dX1_tenTo_16 : decode cX1_tenTo 16 = .ok (.ldc2_w 92, 3) := by decide +kernel
theorem dX1_tenTo_19 : decode cX1_tenTo 19 = .ok (.lmul, 1) := by decide +kernel
theorem dX1_tenTo_20 : decode cX1_tenTo 20 = .ok (.lstore_n 1, 1) := by decide +kernel
theorem dX1_tenTo_21 : decode cX1_tenTo 21 = .ok (.iinc 3 1, 3) := by decide +kernel
theorem dX1_tenTo_24 : decode cX1_tenTo 24 = .ok (.goto (-20), 3) := by decide +kernel
theorem dX1_tenTo_27 : decode cX1_tenTo 27 = .ok (.lload_n 1, 1) := by decide +kernel
theorem dX1_tenTo_28 : decode cX1_tenTo 28 = .ok (.lreturn, 1) := by decide +kernel
theorem dX1_digitsIn_0 : decode cX1_digitsIn 0 = .ok (.iconst 1, 1) := by decide +kernel
theorem dX1_digitsIn_1 : decode cX1_digitsIn 1 = .ok (.istore_n 2, 1) := by decide +kernel
theorem dX1_digitsIn_2 : decode cX1_digitsIn 2 = .ok (.lload_n 0, 1) := by decide +kernel
theorem dX1_digitsIn_3 : decode cX1_digitsIn 3 = .ok (.invokestatic 250, 3) := by decide +kernel
theorem dX1_digitsIn_6 : decode cX1_digitsIn 6 = .ok (.ldc2_w 92, 3) := by decide +kernel
theorem dX1_digitsIn_9 : decode cX1_digitsIn 9 = .ok (.ldiv, 1) := by decide +kernel
theorem dX1_digitsIn_10 : decode cX1_digitsIn 10 = .ok (.lstore_n 3, 1) := by decide +kernel
theorem dX1_digitsIn_11 : decode cX1_digitsIn 11 = .ok (.lload_n 3, 1) := by decide +kernel
theorem dX1_digitsIn_12 : decode cX1_digitsIn 12 = .ok (.lconst 0, 1) := by decide +kernel
theorem dX1_digitsIn_13 : decode cX1_digitsIn 13 = .ok (.lcmp, 1) := by decide +kernel
theorem dX1_digitsIn_14 : decode cX1_digitsIn 14 = .ok (.ifCond .le 21, 3) := by decide +kernel
theorem dX1_digitsIn_17 : decode cX1_digitsIn 17 = .ok (.iload_n 2, 1) := by decide +kernel
theorem dX1_digitsIn_18 : decode cX1_digitsIn 18 = .ok (.bipush 19, 2) := by decide +kernel
theorem dX1_digitsIn_20 : decode cX1_digitsIn 20 = .ok (.if_icmp .ge 15, 3) := by decide +kernel
theorem dX1_digitsIn_23 : decode cX1_digitsIn 23 = .ok (.iinc 2 1, 3) := by decide +kernel
theorem dX1_digitsIn_26 : decode cX1_digitsIn 26 = .ok (.lload_n 3, 1) := by decide +kernel
theorem dX1_digitsIn_27 : decode cX1_digitsIn 27 = .ok (.ldc2_w 92, 3) := by decide +kernel
theorem dX1_digitsIn_30 : decode cX1_digitsIn 30 = .ok (.ldiv, 1) := by decide +kernel
theorem dX1_digitsIn_31 : decode cX1_digitsIn 31 = .ok (.lstore_n 3, 1) := by decide +kernel
theorem dX1_digitsIn_32 : decode cX1_digitsIn 32 = .ok (.goto (-21), 3) := by decide +kernel
theorem dX1_digitsIn_35 : decode cX1_digitsIn 35 = .ok (.iload_n 2, 1) := by decide +kernel
theorem dX1_digitsIn_36 : decode cX1_digitsIn 36 = .ok (.ireturn, 1) := by decide +kernel
theorem dX1_decimalText_0 : decode cX1_decimalText 0 = .ok (.new 252, 3) := by decide +kernel
theorem dX1_decimalText_3 : decode cX1_decimalText 3 = .ok (.dup, 1) := by decide +kernel
theorem dX1_decimalText_4 : decode cX1_decimalText 4 = .ok (.invokespecial 254, 3) := by decide +kernel
theorem dX1_decimalText_7 : decode cX1_decimalText 7 = .ok (.astore_n 3, 1) := by decide +kernel
theorem dX1_decimalText_8 : decode cX1_decimalText 8 = .ok (.lload_n 0, 1) := by decide +kernel
theorem dX1_decimalText_9 : decode cX1_decimalText 9 = .ok (.invokestatic 101, 3) := by decide +kernel
theorem dX1_decimalText_12 : decode cX1_decimalText 12 = .ok (.iload_n 2, 1) := by decide +kernel
theorem dX1_decimalText_13 : decode cX1_decimalText 13 = .ok (.iconst 1, 1) := by decide +kernel
theorem dX1_decimalText_14 : decode cX1_decimalText 14 = .ok (.iadd, 1) := by decide +kernel
theorem dX1_decimalText_15 : decode cX1_decimalText 15 = .ok (.invokestatic 69, 3) := by decide +kernel
theorem dX1_decimalText_18 : decode cX1_decimalText 18 = .ok (.istore 4, 2) := by decide +kernel
theorem dX1_decimalText_20 : decode cX1_decimalText 20 = .ok (.lload_n 0, 1) := by decide +kernel
theorem dX1_decimalText_21 : decode cX1_decimalText 21 = .ok (.invokestatic 250, 3) := by decide +kernel
theorem dX1_decimalText_24 : decode cX1_decimalText 24 = .ok (.lstore 5, 2) := by decide +kernel
theorem dX1_decimalText_26 : decode cX1_decimalText 26 = .ok (.iconst 0, 1) := by decide +kernel
theorem dX1_decimalText_27 : decode cX1_decimalText 27 = .ok (.istore 7, 2) := by decide +kernel
theorem dX1_decimalText_29 : decode cX1_decimalText 29 = .ok (.iload 7, 2) := by decide +kernel
theorem dX1_decimalText_31 : decode cX1_decimalText 31 = .ok (.iload 4, 2) := by decide +kernel
theorem dX1_decimalText_33 : decode cX1_decimalText 33 = .ok (.if_icmp .ge 49, 3) := by decide +kernel
theorem dX1_decimalText_36 : decode cX1_decimalText 36 = .ok (.iload 7, 2) := by decide +kernel
theorem dX1_decimalText_38 : decode cX1_decimalText 38 = .ok (.iload_n 2, 1) := by decide +kernel
theorem dX1_decimalText_39 : decode cX1_decimalText 39 = .ok (.if_icmp .ne 14, 3) := by decide +kernel
theorem dX1_decimalText_42 : decode cX1_decimalText 42 = .ok (.iload_n 2, 1) := by decide +kernel
theorem dX1_decimalText_43 : decode cX1_decimalText 43 = .ok (.ifCond .le 10, 3) := by decide +kernel
theorem dX1_decimalText_46 : decode cX1_decimalText 46 = .ok (.aload_n 3, 1) := by decide +kernel
theorem dX1_decimalText_47 : decode cX1_decimalText 47 = .ok (.bipush 46, 2) := by decide +kernel
theorem dX1_decimalText_49 : decode cX1_decimalText 49 = .ok (.invokevirtual 255, 3) := by decide +kernel
theorem dX1_decimalText_52 : decode cX1_decimalText 52 = .ok (.pop, 1) := by decide +kernel
theorem dX1_decimalText_53 : decode cX1_decimalText 53 = .ok (.aload_n 3, 1) := by decide +kernel
theorem dX1_decimalText_54 : decode cX1_decimalText 54 = .ok (.lload 5, 2) := by decide +kernel
theorem dX1_decimalText_56 : decode cX1_decimalText 56 = .ok (.ldc2_w 92, 3) := by decide +kernel
theorem dX1_decimalText_59 : decode cX1_decimalText 59 = .ok (.lrem, 1) := by decide +kernel
theorem dX1_decimalText_60 : decode cX1_decimalText 60 = .ok (.l2i, 1) := by decide +kernel
theorem dX1_decimalText_61 : decode cX1_decimalText 61 = .ok (.invokestatic 259, 3) := by decide +kernel
theorem dX1_decimalText_64 : decode cX1_decimalText 64 = .ok (.invokevirtual 255, 3) := by decide +kernel
theorem dX1_decimalText_67 : decode cX1_decimalText 67 = .ok (.pop, 1) := by decide +kernel
theorem dX1_decimalText_68 : decode cX1_decimalText 68 = .ok (.lload 5, 2) := by decide +kernel
theorem dX1_decimalText_70 : decode cX1_decimalText 70 = .ok (.ldc2_w 92, 3) := by decide +kernel
theorem dX1_decimalText_73 : decode cX1_decimalText 73 = .ok (.ldiv, 1) := by decide +kernel
theorem dX1_decimalText_74 : decode cX1_decimalText 74 = .ok (.lstore 5, 2) := by decide +kernel
theorem dX1_decimalText_76 : decode cX1_decimalText 76 = .ok (.iinc 7 1, 3) := by decide +kernel
theorem dX1_decimalText_79 : decode cX1_decimalText 79 = .ok (.goto (-50), 3) := by decide +kernel
theorem dX1_decimalText_82 : decode cX1_decimalText 82 = .ok (.lload_n 0, 1) := by decide +kernel
theorem dX1_decimalText_83 : decode cX1_decimalText 83 = .ok (.lconst 0, 1) := by decide +kernel
theorem dX1_decimalText_84 : decode cX1_decimalText 84 = .ok (.lcmp, 1) := by decide +kernel
theorem dX1_decimalText_85 : decode cX1_decimalText 85 = .ok (.ifCond .ge 10, 3) := by decide +kernel
theorem dX1_decimalText_88 : decode cX1_decimalText 88 = .ok (.aload_n 3, 1) := by decide +kernel
theorem dX1_decimalText_89 : decode cX1_decimalText 89 = .ok (.bipush 45, 2) := by decide +kernel
theorem dX1_decimalText_91 : decode cX1_decimalText 91 = .ok (.invokevirtual 255, 3) := by decide +kernel
theorem dX1_decimalText_94 : decode cX1_decimalText 94 = .ok (.pop, 1) := by decide +kernel
theorem dX1_decimalText_95 : decode cX1_decimalText 95 = .ok (.aload_n 3, 1) := by decide +kernel
theorem dX1_decimalText_96 : decode cX1_decimalText 96 = .ok (.invokevirtual 263, 3) := by decide +kernel
theorem dX1_decimalText_99 : decode cX1_decimalText 99 = .ok (.invokevirtual 267, 3) := by decide +kernel
theorem dX1_decimalText_102 : decode cX1_decimalText 102 = .ok (.areturn, 1) := by decide +kernel
theorem dX1_signOfDigit_0 : decode cX1_signOfDigit 0 = .ok (.bipush 48, 2) := by decide +kernel
theorem dX1_signOfDigit_2 : decode cX1_signOfDigit 2 = .ok (.iload_n 0, 1) := by decide +kernel
theorem dX1_signOfDigit_3 : decode cX1_signOfDigit 3 = .ok (.iadd, 1) := by decide +kernel
theorem dX1_signOfDigit_4 : decode cX1_signOfDigit 4 = .ok (.i2c, 1) := by decide +kernel
theorem dX1_signOfDigit_5 : decode cX1_signOfDigit 5 = .ok (.ireturn, 1) := by decide +kernel
theorem dX1_rounded_0 : decode cX1_rounded 0 = .ok (.lload_n 2, 1) := by decide +kernel
theorem dX1_rounded_1 : decode cX1_rounded 1 = .ok (.lconst 1, 1) := by decide +kernel
theorem dX1_rounded_2 : decode cX1_rounded 2 = .ok (.lcmp, 1) := by decide +kernel
theorem dX1_rounded_3 : decode cX1_rounded 3 = .ok (.ifCond .ge 7, 3) := by decide +kernel
theorem dX1_rounded_6 : decode cX1_rounded 6 = .ok (.ldc2_w 105, 3) := by decide +kernel
theorem dX1_rounded_9 : decode cX1_rounded 9 = .ok (.lreturn, 1) := by decide +kernel
theorem dX1_rounded_10 : decode cX1_rounded 10 = .ok (.lload_n 0, 1) := by decide +kernel
theorem dX1_rounded_11 : decode cX1_rounded 11 = .ok (.lload_n 2, 1) := by decide +kernel
theorem dX1_rounded_12 : decode cX1_rounded 12 = .ok (.ldiv, 1) := by decide +kernel
theorem dX1_rounded_13 : decode cX1_rounded 13 = .ok (.lstore 5, 2) := by decide +kernel
theorem dX1_rounded_15 : decode cX1_rounded 15 = .ok (.lload_n 0, 1) := by decide +kernel
theorem dX1_rounded_16 : decode cX1_rounded 16 = .ok (.lload_n 2, 1) := by decide +kernel
theorem dX1_rounded_17 : decode cX1_rounded 17 = .ok (.lrem, 1) := by decide +kernel
theorem dX1_rounded_18 : decode cX1_rounded 18 = .ok (.invokestatic 250, 3) := by decide +kernel
theorem dX1_rounded_21 : decode cX1_rounded 21 = .ok (.lstore 7, 2) := by decide +kernel
theorem dX1_rounded_23 : decode cX1_rounded 23 = .ok (.lload 7, 2) := by decide +kernel
theorem dX1_rounded_25 : decode cX1_rounded 25 = .ok (.lconst 0, 1) := by decide +kernel
theorem dX1_rounded_26 : decode cX1_rounded 26 = .ok (.lcmp, 1) := by decide +kernel
theorem dX1_rounded_27 : decode cX1_rounded 27 = .ok (.ifCond .ne 6, 3) := by decide +kernel
theorem dX1_rounded_30 : decode cX1_rounded 30 = .ok (.lload 5, 2) := by decide +kernel
theorem dX1_rounded_32 : decode cX1_rounded 32 = .ok (.lreturn, 1) := by decide +kernel
theorem dX1_rounded_33 : decode cX1_rounded 33 = .ok (.iload 4, 2) := by decide +kernel
theorem dX1_rounded_35 : decode cX1_rounded 35 = .ok (.bipush 7, 2) := by decide +kernel
theorem dX1_rounded_37 : decode cX1_rounded 37 = .ok (.if_icmp .ne 7, 3) := by decide +kernel
theorem dX1_rounded_40 : decode cX1_rounded 40 = .ok (.ldc2_w 105, 3) := by decide +kernel
theorem dX1_rounded_43 : decode cX1_rounded 43 = .ok (.lreturn, 1) := by decide +kernel
theorem dX1_rounded_44 : decode cX1_rounded 44 = .ok (.lload_n 0, 1) := by decide +kernel
theorem dX1_rounded_45 : decode cX1_rounded 45 = .ok (.lload 5, 2) := by decide +kernel
theorem dX1_rounded_47 : decode cX1_rounded 47 = .ok (.ldc2_w 173, 3) := by decide +kernel
theorem dX1_rounded_50 : decode cX1_rounded 50 = .ok (.lload 7, 2) := by decide +kernel
theorem dX1_rounded_52 : decode cX1_rounded 52 = .ok (.lmul, 1) := by decide +kernel
theorem dX1_rounded_53 : decode cX1_rounded 53 = .ok (.lload_n 2, 1) := by decide +kernel
theorem dX1_rounded_54 : decode cX1_rounded 54 = .ok (.lsub, 1) := by decide +kernel
theorem dX1_rounded_55 : decode cX1_rounded 55 = .ok (.invokestatic 117, 3) := by decide +kernel
theorem dX1_rounded_58 : decode cX1_rounded 58 = .ok (.iload 4, 2) := by decide +kernel
theorem dX1_rounded_60 : decode cX1_rounded 60 = .ok (.invokestatic 270, 3) := by decide +kernel
theorem dX1_rounded_63 : decode cX1_rounded 63 = .ok (.ifCond .eq 14, 3) := by decide +kernel
theorem dX1_rounded_66 : decode cX1_rounded 66 = .ok (.lload 5, 2) := by decide +kernel
theorem dX1_rounded_68 : decode cX1_rounded 68 = .ok (.lload_n 0, 1) := by decide +kernel
theorem dX1_rounded_69 : decode cX1_rounded 69 = .ok (.invokestatic 117, 3) := by decide +kernel
theorem dX1_rounded_72 : decode cX1_rounded 72 = .ok (.i2l, 1) := by decide +kernel
theorem dX1_rounded_73 : decode cX1_rounded 73 = .ok (.ladd, 1) := by decide +kernel
theorem dX1_rounded_74 : decode cX1_rounded 74 = .ok (.goto 5, 3) := by decide +kernel
theorem dX1_rounded_77 : decode cX1_rounded 77 = .ok (.lload 5, 2) := by decide +kernel
theorem dX1_rounded_79 : decode cX1_rounded 79 = .ok (.lreturn, 1) := by decide +kernel
theorem dX1_isFartherTaken_0 : decode cX1_isFartherTaken 0 = .ok (.iload 5, 2) := by decide +kernel
theorem dX1_isFartherTaken_2 : decode cX1_isFartherTaken 2 = .ok (.tableswitch 88 0 5 #[38, 40, 42, 54, 66, 77], 38) := by decide +kernel
theorem dX1_isFartherTaken_40 : decode cX1_isFartherTaken 40 = .ok (.iconst 1, 1) := by decide +kernel
theorem dX1_isFartherTaken_41 : decode cX1_isFartherTaken 41 = .ok (.ireturn, 1) := by decide +kernel
theorem dX1_isFartherTaken_42 : decode cX1_isFartherTaken 42 = .ok (.iconst 0, 1) := by decide +kernel
theorem dX1_isFartherTaken_43 : decode cX1_isFartherTaken 43 = .ok (.ireturn, 1) := by decide +kernel
theorem dX1_isFartherTaken_44 : decode cX1_isFartherTaken 44 = .ok (.lload_n 0, 1) := by decide +kernel
theorem dX1_isFartherTaken_45 : decode cX1_isFartherTaken 45 = .ok (.lconst 0, 1) := by decide +kernel
theorem dX1_isFartherTaken_46 : decode cX1_isFartherTaken 46 = .ok (.lcmp, 1) := by decide +kernel
theorem dX1_isFartherTaken_47 : decode cX1_isFartherTaken 47 = .ok (.ifCond .le 7, 3) := by decide +kernel
theorem dX1_isFartherTaken_50 : decode cX1_isFartherTaken 50 = .ok (.iconst 1, 1) := by decide +kernel
theorem dX1_isFartherTaken_51 : decode cX1_isFartherTaken 51 = .ok (.goto 4, 3) := by decide +kernel
theorem dX1_isFartherTaken_54 : decode cX1_isFartherTaken 54 = .ok (.iconst 0, 1) := by decide +kernel
theorem dX1_isFartherTaken_55 : decode cX1_isFartherTaken 55 = .ok (.ireturn, 1) := by decide +kernel
theorem dX1_isFartherTaken_56 : decode cX1_isFartherTaken 56 = .ok (.lload_n 0, 1) := by decide +kernel
theorem dX1_isFartherTaken_57 : decode cX1_isFartherTaken 57 = .ok (.lconst 0, 1) := by decide +kernel
theorem dX1_isFartherTaken_58 : decode cX1_isFartherTaken 58 = .ok (.lcmp, 1) := by decide +kernel
theorem dX1_isFartherTaken_59 : decode cX1_isFartherTaken 59 = .ok (.ifCond .ge 7, 3) := by decide +kernel
theorem dX1_isFartherTaken_62 : decode cX1_isFartherTaken 62 = .ok (.iconst 1, 1) := by decide +kernel
theorem dX1_isFartherTaken_63 : decode cX1_isFartherTaken 63 = .ok (.goto 4, 3) := by decide +kernel
theorem dX1_isFartherTaken_66 : decode cX1_isFartherTaken 66 = .ok (.iconst 0, 1) := by decide +kernel
theorem dX1_isFartherTaken_67 : decode cX1_isFartherTaken 67 = .ok (.ireturn, 1) := by decide +kernel
theorem dX1_isFartherTaken_68 : decode cX1_isFartherTaken 68 = .ok (.iload 4, 2) := by decide +kernel
theorem dX1_isFartherTaken_70 : decode cX1_isFartherTaken 70 = .ok (.ifCond .lt 7, 3) := by decide +kernel
theorem dX1_isFartherTaken_73 : decode cX1_isFartherTaken 73 = .ok (.iconst 1, 1) := by decide +kernel
theorem dX1_isFartherTaken_74 : decode cX1_isFartherTaken 74 = .ok (.goto 4, 3) := by decide +kernel
theorem dX1_isFartherTaken_77 : decode cX1_isFartherTaken 77 = .ok (.iconst 0, 1) := by decide +kernel
theorem dX1_isFartherTaken_78 : decode cX1_isFartherTaken 78 = .ok (.ireturn, 1) := by decide +kernel
theorem dX1_isFartherTaken_79 : decode cX1_isFartherTaken 79 = .ok (.iload 4, 2) := by decide +kernel
theorem dX1_isFartherTaken_81 : decode cX1_isFartherTaken 81 = .ok (.ifCond .le 7, 3) := by decide +kernel
theorem dX1_isFartherTaken_84 : decode cX1_isFartherTaken 84 = .ok (.iconst 1, 1) := by decide +kernel
theorem dX1_isFartherTaken_85 : decode cX1_isFartherTaken 85 = .ok (.goto 4, 3) := by decide +kernel
theorem dX1_isFartherTaken_88 : decode cX1_isFartherTaken 88 = .ok (.iconst 0, 1) := by decide +kernel
theorem dX1_isFartherTaken_89 : decode cX1_isFartherTaken 89 = .ok (.ireturn, 1) := by decide +kernel
theorem dX1_isFartherTaken_90 : decode cX1_isFartherTaken 90 = .ok (.iload 4, 2) := by decide +kernel
theorem dX1_isFartherTaken_92 : decode cX1_isFartherTaken 92 = .ok (.ifCond .gt 18, 3) := by decide +kernel
theorem dX1_isFartherTaken_95 : decode cX1_isFartherTaken 95 = .ok (.iload 4, 2) := by decide +kernel
theorem dX1_isFartherTaken_97 : decode cX1_isFartherTaken 97 = .ok (.ifCond .ne 17, 3) := by decide +kernel
theorem dX1_isFartherTaken_100 : decode cX1_isFartherTaken 100 = .ok (.lload_n 2, 1) := by decide +kernel
theorem dX1_isFartherTaken_101 : decode cX1_isFartherTaken 101 = .ok (.ldc2_w 173, 3) := by decide +kernel
theorem dX1_isFartherTaken_104 : decode cX1_isFartherTaken 104 = .ok (.lrem, 1) := by decide +kernel
theorem dX1_isFartherTaken_105 : decode cX1_isFartherTaken 105 = .ok (.lconst 0, 1) := by decide +kernel
theorem dX1_isFartherTaken_106 : decode cX1_isFartherTaken 106 = .ok (.lcmp, 1) := by decide +kernel
theorem dX1_isFartherTaken_107 : decode cX1_isFartherTaken 107 = .ok (.ifCond .eq 7, 3) := by decide +kernel
theorem dX1_isFartherTaken_110 : decode cX1_isFartherTaken 110 = .ok (.iconst 1, 1) := by decide +kernel
theorem dX1_isFartherTaken_111 : decode cX1_isFartherTaken 111 = .ok (.goto 4, 3) := by decide +kernel
theorem dX1_isFartherTaken_114 : decode cX1_isFartherTaken 114 = .ok (.iconst 0, 1) := by decide +kernel
theorem dX1_isFartherTaken_115 : decode cX1_isFartherTaken 115 = .ok (.ireturn, 1) := by decide +kernel
theorem dX1_cutCount_0 : decode cX1_cutCount 0 = .ok (.aload_n 0, 1) := by decide +kernel
theorem dX1_cutCount_1 : decode cX1_cutCount 1 = .ok (.getfield 16, 3) := by decide +kernel
theorem dX1_cutCount_4 : decode cX1_cutCount 4 = .ok (.iload_n 1, 1) := by decide +kernel
theorem dX1_cutCount_5 : decode cX1_cutCount 5 = .ok (.iaload, 1) := by decide +kernel
theorem dX1_cutCount_6 : decode cX1_cutCount 6 = .ok (.i2l, 1) := by decide +kernel
theorem dX1_cutCount_7 : decode cX1_cutCount 7 = .ok (.iload_n 3, 1) := by decide +kernel
theorem dX1_cutCount_8 : decode cX1_cutCount 8 = .ok (.invokestatic 59, 3) := by decide +kernel
theorem dX1_cutCount_11 : decode cX1_cutCount 11 = .ok (.lmul, 1) := by decide +kernel
theorem dX1_cutCount_12 : decode cX1_cutCount 12 = .ok (.lstore 5, 2) := by decide +kernel
theorem dX1_cutCount_14 : decode cX1_cutCount 14 = .ok (.iload_n 2, 1) := by decide +kernel
theorem dX1_cutCount_15 : decode cX1_cutCount 15 = .ok (.ifCond .eq 9, 3) := by decide +kernel
theorem dX1_cutCount_18 : decode cX1_cutCount 18 = .ok (.lload 5, 2) := by decide +kernel
theorem dX1_cutCount_20 : decode cX1_cutCount 20 = .ok (.lneg, 1) := by decide +kernel
theorem dX1_cutCount_21 : decode cX1_cutCount 21 = .ok (.goto 5, 3) := by decide +kernel
theorem dX1_cutCount_24 : decode cX1_cutCount 24 = .ok (.lload 5, 2) := by decide +kernel
theorem dX1_cutCount_26 : decode cX1_cutCount 26 = .ok (.aload_n 0, 1) := by decide +kernel
theorem dX1_cutCount_27 : decode cX1_cutCount 27 = .ok (.getfield 19, 3) := by decide +kernel
theorem dX1_cutCount_30 : decode cX1_cutCount 30 = .ok (.iload_n 1, 1) := by decide +kernel
theorem dX1_cutCount_31 : decode cX1_cutCount 31 = .ok (.iaload, 1) := by decide +kernel
theorem dX1_cutCount_32 : decode cX1_cutCount 32 = .ok (.i2l, 1) := by decide +kernel
theorem dX1_cutCount_33 : decode cX1_cutCount 33 = .ok (.iload 4, 2) := by decide +kernel
theorem dX1_cutCount_35 : decode cX1_cutCount 35 = .ok (.invokestatic 84, 3) := by decide +kernel
theorem dX1_cutCount_38 : decode cX1_cutCount 38 = .ok (.lreturn, 1) := by decide +kernel
theorem dX1_leftover_0 : decode cX1_leftover 0 = .ok (.iload_n 1, 1) := by decide +kernel
theorem dX1_leftover_1 : decode cX1_leftover 1 = .ok (.iconst 1, 1) := by decide +kernel
theorem dX1_leftover_2 : decode cX1_leftover 2 = .ok (.if_icmp .ge 7, 3) := by decide +kernel
theorem dX1_leftover_5 : decode cX1_leftover 5 = .ok (.iconst 0, 1) := by decide +kernel
theorem dX1_leftover_6 : decode cX1_leftover 6 = .ok (.goto 6, 3) := by decide +kernel
theorem dX1_leftover_9 : decode cX1_leftover 9 = .ok (.iload_n 0, 1) := by decide +kernel
theorem dX1_leftover_10 : decode cX1_leftover 10 = .ok (.iload_n 1, 1) := by decide +kernel
theorem dX1_leftover_11 : decode cX1_leftover 11 = .ok (.irem, 1) := by decide +kernel
theorem dX1_leftover_12 : decode cX1_leftover 12 = .ok (.ireturn, 1) := by decide +kernel
theorem dX1_restAfter_0 : decode cX1_restAfter 0 = .ok (.bipush 10, 2) := by decide +kernel
theorem dX1_restAfter_2 : decode cX1_restAfter 2 = .ok (.iload_n 0, 1) := by decide +kernel
theorem dX1_restAfter_3 : decode cX1_restAfter 3 = .ok (.imul, 1) := by decide +kernel
theorem dX1_restAfter_4 : decode cX1_restAfter 4 = .ok (.iload_n 1, 1) := by decide +kernel
theorem dX1_restAfter_5 : decode cX1_restAfter 5 = .ok (.invokestatic 147, 3) := by decide +kernel
theorem dX1_restAfter_8 : decode cX1_restAfter 8 = .ok (.ireturn, 1) := by decide +kernel
theorem dX1_digitAfter_0 : decode cX1_digitAfter 0 = .ok (.iload_n 1, 1) := by decide +kernel
theorem dX1_digitAfter_1 : decode cX1_digitAfter 1 = .ok (.iconst 1, 1) := by decide +kernel
theorem dX1_digitAfter_2 : decode cX1_digitAfter 2 = .ok (.if_icmp .ge 7, 3) := by decide +kernel
theorem dX1_digitAfter_5 : decode cX1_digitAfter 5 = .ok (.iconst 0, 1) := by decide +kernel
theorem dX1_digitAfter_6 : decode cX1_digitAfter 6 = .ok (.goto 9, 3) := by decide +kernel
theorem dX1_digitAfter_9 : decode cX1_digitAfter 9 = .ok (.bipush 10, 2) := by decide +kernel
theorem dX1_digitAfter_11 : decode cX1_digitAfter 11 = .ok (.iload_n 0, 1) := by decide +kernel
theorem dX1_digitAfter_12 : decode cX1_digitAfter 12 = .ok (.imul, 1) := by decide +kernel
theorem dX1_digitAfter_13 : decode cX1_digitAfter 13 = .ok (.iload_n 1, 1) := by decide +kernel
theorem dX1_digitAfter_14 : decode cX1_digitAfter 14 = .ok (.idiv, 1) := by decide +kernel
theorem dX1_digitAfter_15 : decode cX1_digitAfter 15 = .ok (.ireturn, 1) := by decide +kernel
theorem dX1_lengthOf_0 : decode cX1_lengthOf 0 = .ok (.iload_n 0, 1) := by decide +kernel
theorem dX1_lengthOf_1 : decode cX1_lengthOf 1 = .ok (.iload_n 1, 1) := by decide +kernel
theorem dX1_lengthOf_2 : decode cX1_lengthOf 2 = .ok (.invokestatic 189, 3) := by decide +kernel
theorem dX1_lengthOf_5 : decode cX1_lengthOf 5 = .ok (.istore_n 2, 1) := by decide +kernel
theorem dX1_lengthOf_6 : decode cX1_lengthOf 6 = .ok (.iconst 1, 1) := by decide +kernel
theorem dX1_lengthOf_7 : decode cX1_lengthOf 7 = .ok (.istore_n 3, 1) := by decide +kernel
theorem dX1_lengthOf_8 : decode cX1_lengthOf 8 = .ok (.iload_n 2, 1) := by decide +kernel
theorem dX1_lengthOf_9 : decode cX1_lengthOf 9 = .ok (.iload_n 0, 1) := by decide +kernel
theorem dX1_lengthOf_10 : decode cX1_lengthOf 10 = .ok (.if_icmp .eq 21, 3) := by decide +kernel
theorem dX1_lengthOf_13 : decode cX1_lengthOf 13 = .ok (.iload_n 3, 1) := by decide +kernel
theorem dX1_lengthOf_14 : decode cX1_lengthOf 14 = .ok (.bipush 96, 2) := by decide +kernel
theorem dX1_lengthOf_16 : decode cX1_lengthOf 16 = .ok (.if_icmp .ge 15, 3) := by decide +kernel
theorem dX1_lengthOf_19 : decode cX1_lengthOf 19 = .ok (.iload_n 2, 1) := by decide +kernel
theorem dX1_lengthOf_20 : decode cX1_lengthOf 20 = .ok (.iload_n 1, 1) := by decide +kernel
theorem dX1_lengthOf_21 : decode cX1_lengthOf 21 = .ok (.invokestatic 189, 3) := by decide +kernel
theorem dX1_lengthOf_24 : decode cX1_lengthOf 24 = .ok (.istore_n 2, 1) := by decide +kernel
theorem dX1_lengthOf_25 : decode cX1_lengthOf 25 = .ok (.iinc 3 1, 3) := by decide +kernel
theorem dX1_lengthOf_28 : decode cX1_lengthOf 28 = .ok (.goto (-20), 3) := by decide +kernel
theorem dX1_lengthOf_31 : decode cX1_lengthOf 31 = .ok (.iload_n 3, 1) := by decide +kernel
theorem dX1_lengthOf_32 : decode cX1_lengthOf 32 = .ok (.ireturn, 1) := by decide +kernel
theorem dX1_restOfPlace_0 : decode cX1_restOfPlace 0 = .ok (.aload_n 0, 1) := by decide +kernel
theorem dX1_restOfPlace_1 : decode cX1_restOfPlace 1 = .ok (.getfield 16, 3) := by decide +kernel
theorem dX1_restOfPlace_4 : decode cX1_restOfPlace 4 = .ok (.iload_n 1, 1) := by decide +kernel
theorem dX1_restOfPlace_5 : decode cX1_restOfPlace 5 = .ok (.iaload, 1) := by decide +kernel
theorem dX1_restOfPlace_6 : decode cX1_restOfPlace 6 = .ok (.istore_n 3, 1) := by decide +kernel
theorem dX1_restOfPlace_7 : decode cX1_restOfPlace 7 = .ok (.iconst 0, 1) := by decide +kernel
theorem dX1_restOfPlace_8 : decode cX1_restOfPlace 8 = .ok (.istore 4, 2) := by decide +kernel
theorem dX1_restOfPlace_10 : decode cX1_restOfPlace 10 = .ok (.iload 4, 2) := by decide +kernel
theorem dX1_restOfPlace_12 : decode cX1_restOfPlace 12 = .ok (.iload_n 2, 1) := by decide +kernel
theorem dX1_restOfPlace_13 : decode cX1_restOfPlace 13 = .ok (.if_icmp .ge 20, 3) := by decide +kernel
theorem dX1_restOfPlace_16 : decode cX1_restOfPlace 16 = .ok (.iload_n 3, 1) := by decide +kernel
theorem dX1_restOfPlace_17 : decode cX1_restOfPlace 17 = .ok (.aload_n 0, 1) := by decide +kernel
theorem dX1_restOfPlace_18 : decode cX1_restOfPlace 18 = .ok (.getfield 19, 3) := by decide +kernel
theorem dX1_restOfPlace_21 : decode cX1_restOfPlace 21 = .ok (.iload_n 1, 1) := by decide +kernel
theorem dX1_restOfPlace_22 : decode cX1_restOfPlace 22 = .ok (.iaload, 1) := by decide +kernel
theorem dX1_restOfPlace_23 : decode cX1_restOfPlace 23 = .ok (.invokestatic 189, 3) := by decide +kernel
theorem dX1_restOfPlace_26 : decode cX1_restOfPlace 26 = .ok (.istore_n 3, 1) := by decide +kernel
theorem dX1_restOfPlace_27 : decode cX1_restOfPlace 27 = .ok (.iinc 4 1, 3) := by decide +kernel
theorem dX1_restOfPlace_30 : decode cX1_restOfPlace 30 = .ok (.goto (-20), 3) := by decide +kernel
theorem dX1_restOfPlace_33 : decode cX1_restOfPlace 33 = .ok (.iload_n 3, 1) := by decide +kernel
theorem dX1_restOfPlace_34 : decode cX1_restOfPlace 34 = .ok (.ireturn, 1) := by decide +kernel
theorem dX1_bringWheel_0 : decode cX1_bringWheel 0 = .ok (.aload_n 0, 1) := by decide +kernel
theorem dX1_bringWheel_1 : decode cX1_bringWheel 1 = .ok (.getfield 16, 3) := by decide +kernel
theorem dX1_bringWheel_4 : decode cX1_bringWheel 4 = .ok (.iload_n 1, 1) := by decide +kernel
theorem dX1_bringWheel_5 : decode cX1_bringWheel 5 = .ok (.iload_n 2, 1) := by decide +kernel
theorem dX1_bringWheel_6 : decode cX1_bringWheel 6 = .ok (.iastore, 1) := by decide +kernel
theorem dX1_bringWheel_7 : decode cX1_bringWheel 7 = .ok (.aload_n 0, 1) := by decide +kernel
theorem dX1_bringWheel_8 : decode cX1_bringWheel 8 = .ok (.getfield 19, 3) := by decide +kernel
theorem dX1_bringWheel_11 : decode cX1_bringWheel 11 = .ok (.iload_n 1, 1) := by decide +kernel
theorem dX1_bringWheel_12 : decode cX1_bringWheel 12 = .ok (.iload_n 3, 1) := by decide +kernel
theorem dX1_bringWheel_13 : decode cX1_bringWheel 13 = .ok (.iastore, 1) := by decide +kernel
theorem dX1_bringWheel_14 : decode cX1_bringWheel 14 = .ok (.aload_n 0, 1) := by decide +kernel
theorem dX1_bringWheel_15 : decode cX1_bringWheel 15 = .ok (.getfield 22, 3) := by decide +kernel
theorem dX1_bringWheel_18 : decode cX1_bringWheel 18 = .ok (.iload_n 1, 1) := by decide +kernel
theorem dX1_bringWheel_19 : decode cX1_bringWheel 19 = .ok (.iconst 0, 1) := by decide +kernel
theorem dX1_bringWheel_20 : decode cX1_bringWheel 20 = .ok (.iastore, 1) := by decide +kernel
theorem dX1_bringWheel_21 : decode cX1_bringWheel 21 = .ok (.aload_n 0, 1) := by decide +kernel
theorem dX1_bringWheel_22 : decode cX1_bringWheel 22 = .ok (.getfield 25, 3) := by decide +kernel
theorem dX1_bringWheel_25 : decode cX1_bringWheel 25 = .ok (.iload_n 1, 1) := by decide +kernel
theorem dX1_bringWheel_26 : decode cX1_bringWheel 26 = .ok (.iload_n 2, 1) := by decide +kernel
theorem dX1_bringWheel_27 : decode cX1_bringWheel 27 = .ok (.iload_n 3, 1) := by decide +kernel
theorem dX1_bringWheel_28 : decode cX1_bringWheel 28 = .ok (.invokestatic 155, 3) := by decide +kernel
theorem dX1_bringWheel_31 : decode cX1_bringWheel 31 = .ok (.iastore, 1) := by decide +kernel
theorem dX1_bringWheel_32 : decode cX1_bringWheel 32 = .ok (.aload_n 0, 1) := by decide +kernel
theorem dX1_bringWheel_33 : decode cX1_bringWheel 33 = .ok (.getfield 28, 3) := by decide +kernel
theorem dX1_bringWheel_36 : decode cX1_bringWheel 36 = .ok (.iconst 1, 1) := by decide +kernel
theorem dX1_bringWheel_37 : decode cX1_bringWheel 37 = .ok (.dup2, 1) := by decide +kernel
theorem dX1_bringWheel_38 : decode cX1_bringWheel 38 = .ok (.iaload, 1) := by decide +kernel
theorem dX1_bringWheel_39 : decode cX1_bringWheel 39 = .ok (.iconst 1, 1) := by decide +kernel
theorem dX1_bringWheel_40 : decode cX1_bringWheel 40 = .ok (.iadd, 1) := by decide +kernel
theorem dX1_bringWheel_41 : decode cX1_bringWheel 41 = .ok (.iastore, 1) := by decide +kernel
theorem dX1_bringWheel_42 : decode cX1_bringWheel 42 = .ok (.return_, 1) := by decide +kernel
theorem dX1_turnBy_0 : decode cX1_turnBy 0 = .ok (.aload_n 0, 1) := by decide +kernel
theorem dX1_turnBy_1 : decode cX1_turnBy 1 = .ok (.getfield 22, 3) := by decide +kernel
theorem dX1_turnBy_4 : decode cX1_turnBy 4 = .ok (.iload_n 1, 1) := by decide +kernel
theorem dX1_turnBy_5 : decode cX1_turnBy 5 = .ok (.aload_n 0, 1) := by decide +kernel
theorem dX1_turnBy_6 : decode cX1_turnBy 6 = .ok (.getfield 22, 3) := by decide +kernel
theorem dX1_turnBy_9 : decode cX1_turnBy 9 = .ok (.iload_n 1, 1) := by decide +kernel
theorem dX1_turnBy_10 : decode cX1_turnBy 10 = .ok (.iaload, 1) := by decide +kernel
theorem dX1_turnBy_11 : decode cX1_turnBy 11 = .ok (.iload_n 2, 1) := by decide +kernel
theorem dX1_turnBy_12 : decode cX1_turnBy 12 = .ok (.iadd, 1) := by decide +kernel
theorem dX1_turnBy_13 : decode cX1_turnBy 13 = .ok (.aload_n 0, 1) := by decide +kernel
theorem dX1_turnBy_14 : decode cX1_turnBy 14 = .ok (.getfield 25, 3) := by decide +kernel
theorem dX1_turnBy_17 : decode cX1_turnBy 17 = .ok (.iload_n 1, 1) := by decide +kernel
theorem dX1_turnBy_18 : decode cX1_turnBy 18 = .ok (.iaload, 1) := by decide +kernel
theorem dX1_turnBy_19 : decode cX1_turnBy 19 = .ok (.invokestatic 147, 3) := by decide +kernel
theorem dX1_turnBy_22 : decode cX1_turnBy 22 = .ok (.iastore, 1) := by decide +kernel
theorem dX1_turnBy_23 : decode cX1_turnBy 23 = .ok (.aload_n 0, 1) := by decide +kernel
theorem dX1_turnBy_24 : decode cX1_turnBy 24 = .ok (.getfield 28, 3) := by decide +kernel
theorem dX1_turnBy_27 : decode cX1_turnBy 27 = .ok (.iconst 1, 1) := by decide +kernel
theorem dX1_turnBy_28 : decode cX1_turnBy 28 = .ok (.dup2, 1) := by decide +kernel
theorem dX1_turnBy_29 : decode cX1_turnBy 29 = .ok (.iaload, 1) := by decide +kernel
theorem dX1_turnBy_30 : decode cX1_turnBy 30 = .ok (.iconst 1, 1) := by decide +kernel
theorem dX1_turnBy_31 : decode cX1_turnBy 31 = .ok (.iadd, 1) := by decide +kernel
theorem dX1_turnBy_32 : decode cX1_turnBy 32 = .ok (.iastore, 1) := by decide +kernel
theorem dX1_turnBy_33 : decode cX1_turnBy 33 = .ok (.return_, 1) := by decide +kernel
theorem dX1_spokeOf_0 : decode cX1_spokeOf 0 = .ok (.iload_n 2, 1) := by decide +kernel
theorem dX1_spokeOf_1 : decode cX1_spokeOf 1 = .ok (.tableswitch 64 0 3 #[31, 38, 45, 52], 31) := by decide +kernel
theorem dX1_spokeOf_32 : decode cX1_spokeOf 32 = .ok (.aload_n 0, 1) := by decide +kernel
theorem dX1_spokeOf_33 : decode cX1_spokeOf 33 = .ok (.getfield 16, 3) := by decide +kernel
theorem dX1_spokeOf_36 : decode cX1_spokeOf 36 = .ok (.iload_n 1, 1) := by decide +kernel
theorem dX1_spokeOf_37 : decode cX1_spokeOf 37 = .ok (.iaload, 1) := by decide +kernel
theorem dX1_spokeOf_38 : decode cX1_spokeOf 38 = .ok (.ireturn, 1) := by decide +kernel
theorem dX1_spokeOf_39 : decode cX1_spokeOf 39 = .ok (.aload_n 0, 1) := by decide +kernel
theorem dX1_spokeOf_40 : decode cX1_spokeOf 40 = .ok (.getfield 19, 3) := by decide +kernel
theorem dX1_spokeOf_43 : decode cX1_spokeOf 43 = .ok (.iload_n 1, 1) := by decide +kernel
theorem dX1_spokeOf_44 : decode cX1_spokeOf 44 = .ok (.iaload, 1) := by decide +kernel
theorem dX1_spokeOf_45 : decode cX1_spokeOf 45 = .ok (.ireturn, 1) := by decide +kernel
theorem dX1_spokeOf_46 : decode cX1_spokeOf 46 = .ok (.aload_n 0, 1) := by decide +kernel
theorem dX1_spokeOf_47 : decode cX1_spokeOf 47 = .ok (.getfield 22, 3) := by decide +kernel
theorem dX1_spokeOf_50 : decode cX1_spokeOf 50 = .ok (.iload_n 1, 1) := by decide +kernel
theorem dX1_spokeOf_51 : decode cX1_spokeOf 51 = .ok (.iaload, 1) := by decide +kernel
theorem dX1_spokeOf_52 : decode cX1_spokeOf 52 = .ok (.ireturn, 1) := by decide +kernel
theorem dX1_spokeOf_53 : decode cX1_spokeOf 53 = .ok (.aload_n 0, 1) := by decide +kernel
theorem dX1_spokeOf_54 : decode cX1_spokeOf 54 = .ok (.iload_n 1, 1) := by decide +kernel
theorem dX1_spokeOf_55 : decode cX1_spokeOf 55 = .ok (.aload_n 0, 1) := by decide +kernel
theorem dX1_spokeOf_56 : decode cX1_spokeOf 56 = .ok (.getfield 22, 3) := by decide +kernel
theorem dX1_spokeOf_59 : decode cX1_spokeOf 59 = .ok (.iload_n 1, 1) := by decide +kernel
theorem dX1_spokeOf_60 : decode cX1_spokeOf 60 = .ok (.iaload, 1) := by decide +kernel
theorem dX1_spokeOf_61 : decode cX1_spokeOf 61 = .ok (.invokevirtual 135, 3) := by decide +kernel
theorem dX1_spokeOf_64 : decode cX1_spokeOf 64 = .ok (.ireturn, 1) := by decide +kernel
theorem dX1_spokeOf_65 : decode cX1_spokeOf 65 = .ok (.aload_n 0, 1) := by decide +kernel
theorem dX1_spokeOf_66 : decode cX1_spokeOf 66 = .ok (.getfield 25, 3) := by decide +kernel
theorem dX1_spokeOf_69 : decode cX1_spokeOf 69 = .ok (.iload_n 1, 1) := by decide +kernel
theorem dX1_spokeOf_70 : decode cX1_spokeOf 70 = .ok (.iaload, 1) := by decide +kernel
theorem dX1_spokeOf_71 : decode cX1_spokeOf 71 = .ok (.ireturn, 1) := by decide +kernel
theorem dX1_digitText_0 : decode cX1_digitText 0 = .ok (.new 252, 3) := by decide +kernel
theorem dX1_digitText_3 : decode cX1_digitText 3 = .ok (.dup, 1) := by decide +kernel
theorem dX1_digitText_4 : decode cX1_digitText 4 = .ok (.invokespecial 254, 3) := by decide +kernel
theorem dX1_digitText_7 : decode cX1_digitText 7 = .ok (.astore 4, 2) := by decide +kernel
theorem dX1_digitText_9 : decode cX1_digitText 9 = .ok (.aload_n 0, 1) := by decide +kernel
theorem dX1_digitText_10 : decode cX1_digitText 10 = .ok (.iload_n 1, 1) := by decide +kernel
theorem dX1_digitText_11 : decode cX1_digitText 11 = .ok (.iload_n 2, 1) := by decide +kernel
theorem dX1_digitText_12 : decode cX1_digitText 12 = .ok (.invokevirtual 135, 3) := by decide +kernel
theorem dX1_digitText_15 : decode cX1_digitText 15 = .ok (.istore 5, 2) := by decide +kernel
theorem dX1_digitText_17 : decode cX1_digitText 17 = .ok (.iconst 0, 1) := by decide +kernel
theorem dX1_digitText_18 : decode cX1_digitText 18 = .ok (.istore 6, 2) := by decide +kernel
theorem dX1_digitText_20 : decode cX1_digitText 20 = .ok (.iload 6, 2) := by decide +kernel
theorem dX1_digitText_22 : decode cX1_digitText 22 = .ok (.iload_n 3, 1) := by decide +kernel
theorem dX1_digitText_23 : decode cX1_digitText 23 = .ok (.if_icmp .ge 42, 3) := by decide +kernel
theorem dX1_digitText_26 : decode cX1_digitText 26 = .ok (.aload 4, 2) := by decide +kernel
theorem dX1_digitText_28 : decode cX1_digitText 28 = .ok (.iload 5, 2) := by decide +kernel
theorem dX1_digitText_30 : decode cX1_digitText 30 = .ok (.aload_n 0, 1) := by decide +kernel
theorem dX1_digitText_31 : decode cX1_digitText 31 = .ok (.getfield 19, 3) := by decide +kernel
theorem dX1_digitText_34 : decode cX1_digitText 34 = .ok (.iload_n 1, 1) := by decide +kernel
theorem dX1_digitText_35 : decode cX1_digitText 35 = .ok (.iaload, 1) := by decide +kernel
theorem dX1_digitText_36 : decode cX1_digitText 36 = .ok (.invokestatic 138, 3) := by decide +kernel
theorem dX1_digitText_39 : decode cX1_digitText 39 = .ok (.invokestatic 259, 3) := by decide +kernel
theorem dX1_digitText_42 : decode cX1_digitText 42 = .ok (.invokevirtual 255, 3) := by decide +kernel
theorem dX1_digitText_45 : decode cX1_digitText 45 = .ok (.pop, 1) := by decide +kernel
theorem dX1_digitText_46 : decode cX1_digitText 46 = .ok (.iload 5, 2) := by decide +kernel
theorem dX1_digitText_48 : decode cX1_digitText 48 = .ok (.aload_n 0, 1) := by decide +kernel
theorem dX1_digitText_49 : decode cX1_digitText 49 = .ok (.getfield 19, 3) := by decide +kernel
theorem dX1_digitText_52 : decode cX1_digitText 52 = .ok (.iload_n 1, 1) := by decide +kernel
theorem dX1_digitText_53 : decode cX1_digitText 53 = .ok (.iaload, 1) := by decide +kernel
theorem dX1_digitText_54 : decode cX1_digitText 54 = .ok (.invokestatic 189, 3) := by decide +kernel
theorem dX1_digitText_57 : decode cX1_digitText 57 = .ok (.istore 5, 2) := by decide +kernel
theorem dX1_digitText_59 : decode cX1_digitText 59 = .ok (.iinc 6 1, 3) := by decide +kernel
theorem dX1_digitText_62 : decode cX1_digitText 62 = .ok (.goto (-42), 3) := by decide +kernel
theorem dX1_digitText_65 : decode cX1_digitText 65 = .ok (.aload 4, 2) := by decide +kernel
theorem dX1_digitText_67 : decode cX1_digitText 67 = .ok (.invokevirtual 267, 3) := by decide +kernel
theorem dX1_digitText_70 : decode cX1_digitText 70 = .ok (.areturn, 1) := by decide +kernel
theorem dX1_orderOfWheels_0 : decode cX1_orderOfWheels 0 = .ok (.aload_n 0, 1) := by decide +kernel
theorem dX1_orderOfWheels_1 : decode cX1_orderOfWheels 1 = .ok (.getfield 16, 3) := by decide +kernel
theorem dX1_orderOfWheels_4 : decode cX1_orderOfWheels 4 = .ok (.iload_n 1, 1) := by decide +kernel
theorem dX1_orderOfWheels_5 : decode cX1_orderOfWheels 5 = .ok (.iaload, 1) := by decide +kernel
theorem dX1_orderOfWheels_6 : decode cX1_orderOfWheels 6 = .ok (.aload_n 0, 1) := by decide +kernel
theorem dX1_orderOfWheels_7 : decode cX1_orderOfWheels 7 = .ok (.getfield 19, 3) := by decide +kernel
theorem dX1_orderOfWheels_10 : decode cX1_orderOfWheels 10 = .ok (.iload_n 2, 1) := by decide +kernel
theorem dX1_orderOfWheels_11 : decode cX1_orderOfWheels 11 = .ok (.iaload, 1) := by decide +kernel
theorem dX1_orderOfWheels_12 : decode cX1_orderOfWheels 12 = .ok (.imul, 1) := by decide +kernel
theorem dX1_orderOfWheels_13 : decode cX1_orderOfWheels 13 = .ok (.aload_n 0, 1) := by decide +kernel
theorem dX1_orderOfWheels_14 : decode cX1_orderOfWheels 14 = .ok (.getfield 16, 3) := by decide +kernel
theorem dX1_orderOfWheels_17 : decode cX1_orderOfWheels 17 = .ok (.iload_n 2, 1) := by decide +kernel
theorem dX1_orderOfWheels_18 : decode cX1_orderOfWheels 18 = .ok (.iaload, 1) := by decide +kernel
theorem dX1_orderOfWheels_19 : decode cX1_orderOfWheels 19 = .ok (.aload_n 0, 1) := by decide +kernel
theorem dX1_orderOfWheels_20 : decode cX1_orderOfWheels 20 = .ok (.getfield 19, 3) := by decide +kernel
theorem dX1_orderOfWheels_23 : decode cX1_orderOfWheels 23 = .ok (.iload_n 1, 1) := by decide +kernel
theorem dX1_orderOfWheels_24 : decode cX1_orderOfWheels 24 = .ok (.iaload, 1) := by decide +kernel
theorem dX1_orderOfWheels_25 : decode cX1_orderOfWheels 25 = .ok (.imul, 1) := by decide +kernel
theorem dX1_orderOfWheels_26 : decode cX1_orderOfWheels 26 = .ok (.isub, 1) := by decide +kernel
theorem dX1_orderOfWheels_27 : decode cX1_orderOfWheels 27 = .ok (.i2l, 1) := by decide +kernel
theorem dX1_orderOfWheels_28 : decode cX1_orderOfWheels 28 = .ok (.invokestatic 117, 3) := by decide +kernel
theorem dX1_orderOfWheels_31 : decode cX1_orderOfWheels 31 = .ok (.ireturn, 1) := by decide +kernel
theorem dX1_orderAgainst_0 : decode cX1_orderAgainst 0 = .ok (.aload_n 0, 1) := by decide +kernel
theorem dX1_orderAgainst_1 : decode cX1_orderAgainst 1 = .ok (.getfield 16, 3) := by decide +kernel
theorem dX1_orderAgainst_4 : decode cX1_orderAgainst 4 = .ok (.iload_n 1, 1) := by decide +kernel
theorem dX1_orderAgainst_5 : decode cX1_orderAgainst 5 = .ok (.iaload, 1) := by decide +kernel
theorem dX1_orderAgainst_6 : decode cX1_orderAgainst 6 = .ok (.i2l, 1) := by decide +kernel
theorem dX1_orderAgainst_7 : decode cX1_orderAgainst 7 = .ok (.aload_n 0, 1) := by decide +kernel
theorem dX1_orderAgainst_8 : decode cX1_orderAgainst 8 = .ok (.getfield 13, 3) := by decide +kernel
theorem dX1_orderAgainst_11 : decode cX1_orderAgainst 11 = .ok (.iload_n 2, 1) := by decide +kernel
theorem dX1_orderAgainst_12 : decode cX1_orderAgainst 12 = .ok (.iaload, 1) := by decide +kernel
theorem dX1_orderAgainst_13 : decode cX1_orderAgainst 13 = .ok (.invokestatic 59, 3) := by decide +kernel
theorem dX1_orderAgainst_16 : decode cX1_orderAgainst 16 = .ok (.lmul, 1) := by decide +kernel
theorem dX1_orderAgainst_17 : decode cX1_orderAgainst 17 = .ok (.aload_n 0, 1) := by decide +kernel
theorem dX1_orderAgainst_18 : decode cX1_orderAgainst 18 = .ok (.getfield 9, 3) := by decide +kernel
theorem dX1_orderAgainst_21 : decode cX1_orderAgainst 21 = .ok (.iload_n 2, 1) := by decide +kernel
theorem dX1_orderAgainst_22 : decode cX1_orderAgainst 22 = .ok (.iaload, 1) := by decide +kernel
theorem dX1_orderAgainst_23 : decode cX1_orderAgainst 23 = .ok (.i2l, 1) := by decide +kernel
theorem dX1_orderAgainst_24 : decode cX1_orderAgainst 24 = .ok (.aload_n 0, 1) := by decide +kernel
theorem dX1_orderAgainst_25 : decode cX1_orderAgainst 25 = .ok (.getfield 19, 3) := by decide +kernel
theorem dX1_orderAgainst_28 : decode cX1_orderAgainst 28 = .ok (.iload_n 1, 1) := by decide +kernel
theorem dX1_orderAgainst_29 : decode cX1_orderAgainst 29 = .ok (.iaload, 1) := by decide +kernel
theorem dX1_orderAgainst_30 : decode cX1_orderAgainst 30 = .ok (.i2l, 1) := by decide +kernel
theorem dX1_orderAgainst_31 : decode cX1_orderAgainst 31 = .ok (.lmul, 1) := by decide +kernel
theorem dX1_orderAgainst_32 : decode cX1_orderAgainst 32 = .ok (.lsub, 1) := by decide +kernel
theorem dX1_orderAgainst_33 : decode cX1_orderAgainst 33 = .ok (.invokestatic 117, 3) := by decide +kernel
theorem dX1_orderAgainst_36 : decode cX1_orderAgainst 36 = .ok (.ireturn, 1) := by decide +kernel
theorem dX1_workOutProduct_0 : decode cX1_workOutProduct 0 = .ok (.aload_n 0, 1) := by decide +kernel
theorem dX1_workOutProduct_1 : decode cX1_workOutProduct 1 = .ok (.getfield 19, 3) := by decide +kernel
theorem dX1_workOutProduct_4 : decode cX1_workOutProduct 4 = .ok (.iload_n 1, 1) := by decide +kernel
theorem dX1_workOutProduct_5 : decode cX1_workOutProduct 5 = .ok (.iaload, 1) := by decide +kernel
theorem dX1_workOutProduct_6 : decode cX1_workOutProduct 6 = .ok (.istore_n 2, 1) := by decide +kernel
theorem dX1_workOutProduct_7 : decode cX1_workOutProduct 7 = .ok (.aload_n 0, 1) := by decide +kernel
theorem dX1_workOutProduct_8 : decode cX1_workOutProduct 8 = .ok (.getfield 16, 3) := by decide +kernel
theorem dX1_workOutProduct_11 : decode cX1_workOutProduct 11 = .ok (.iload_n 1, 1) := by decide +kernel
theorem dX1_workOutProduct_12 : decode cX1_workOutProduct 12 = .ok (.iaload, 1) := by decide +kernel
theorem dX1_workOutProduct_13 : decode cX1_workOutProduct 13 = .ok (.istore_n 3, 1) := by decide +kernel
theorem dX1_workOutProduct_14 : decode cX1_workOutProduct 14 = .ok (.aload_n 0, 1) := by decide +kernel
theorem dX1_workOutProduct_15 : decode cX1_workOutProduct 15 = .ok (.getfield 34, 3) := by decide +kernel
theorem dX1_workOutProduct_18 : decode cX1_workOutProduct 18 = .ok (.invokevirtual 274, 3) := by decide +kernel
theorem dX1_workOutProduct_21 : decode cX1_workOutProduct 21 = .ok (.aload_n 0, 1) := by decide +kernel
theorem dX1_workOutProduct_22 : decode cX1_workOutProduct 22 = .ok (.getfield 25, 3) := by decide +kernel
theorem dX1_workOutProduct_25 : decode cX1_workOutProduct 25 = .ok (.iload_n 1, 1) := by decide +kernel
theorem dX1_workOutProduct_26 : decode cX1_workOutProduct 26 = .ok (.iaload, 1) := by decide +kernel
theorem dX1_workOutProduct_27 : decode cX1_workOutProduct 27 = .ok (.iconst 1, 1) := by decide +kernel
theorem dX1_workOutProduct_28 : decode cX1_workOutProduct 28 = .ok (.isub, 1) := by decide +kernel
theorem dX1_workOutProduct_29 : decode cX1_workOutProduct 29 = .ok (.istore 4, 2) := by decide +kernel
theorem dX1_workOutProduct_31 : decode cX1_workOutProduct 31 = .ok (.iload 4, 2) := by decide +kernel
theorem dX1_workOutProduct_33 : decode cX1_workOutProduct 33 = .ok (.ifCond .lt 31, 3) := by decide +kernel
theorem dX1_workOutProduct_36 : decode cX1_workOutProduct 36 = .ok (.aload_n 0, 1) := by decide +kernel
theorem dX1_workOutProduct_37 : decode cX1_workOutProduct 37 = .ok (.getfield 34, 3) := by decide +kernel
theorem dX1_workOutProduct_40 : decode cX1_workOutProduct 40 = .ok (.iload 4, 2) := by decide +kernel
theorem dX1_workOutProduct_42 : decode cX1_workOutProduct 42 = .ok (.iload_n 3, 1) := by decide +kernel
theorem dX1_workOutProduct_43 : decode cX1_workOutProduct 43 = .ok (.iload_n 2, 1) := by decide +kernel
theorem dX1_workOutProduct_44 : decode cX1_workOutProduct 44 = .ok (.invokestatic 138, 3) := by decide +kernel
theorem dX1_workOutProduct_47 : decode cX1_workOutProduct 47 = .ok (.iload_n 2, 1) := by decide +kernel
theorem dX1_workOutProduct_48 : decode cX1_workOutProduct 48 = .ok (.imul, 1) := by decide +kernel
theorem dX1_workOutProduct_49 : decode cX1_workOutProduct 49 = .ok (.invokevirtual 277, 3) := by decide +kernel
theorem dX1_workOutProduct_52 : decode cX1_workOutProduct 52 = .ok (.iload_n 3, 1) := by decide +kernel
theorem dX1_workOutProduct_53 : decode cX1_workOutProduct 53 = .ok (.iload_n 2, 1) := by decide +kernel
theorem dX1_workOutProduct_54 : decode cX1_workOutProduct 54 = .ok (.invokestatic 189, 3) := by decide +kernel
theorem dX1_workOutProduct_57 : decode cX1_workOutProduct 57 = .ok (.istore_n 3, 1) := by decide +kernel
theorem dX1_workOutProduct_58 : decode cX1_workOutProduct 58 = .ok (.iinc 4 (-1), 3) := by decide +kernel
theorem dX1_workOutProduct_61 : decode cX1_workOutProduct 61 = .ok (.goto (-30), 3) := by decide +kernel
theorem dX1_workOutProduct_64 : decode cX1_workOutProduct 64 = .ok (.aload_n 0, 1) := by decide +kernel
theorem dX1_workOutProduct_65 : decode cX1_workOutProduct 65 = .ok (.getfield 34, 3) := by decide +kernel
theorem dX1_workOutProduct_68 : decode cX1_workOutProduct 68 = .ok (.invokevirtual 280, 3) := by decide +kernel
theorem dX1_workOutProduct_71 : decode cX1_workOutProduct 71 = .ok (.return_, 1) := by decide +kernel
theorem dX1_hasParts_0 : decode cX1_hasParts 0 = .ok (.aload_n 0, 1) := by decide +kernel
theorem dX1_hasParts_1 : decode cX1_hasParts 1 = .ok (.getfield 25, 3) := by decide +kernel
theorem dX1_hasParts_4 : decode cX1_hasParts 4 = .ok (.iload_n 1, 1) := by decide +kernel
theorem dX1_hasParts_5 : decode cX1_hasParts 5 = .ok (.iaload, 1) := by decide +kernel
theorem dX1_hasParts_6 : decode cX1_hasParts 6 = .ok (.iload_n 2, 1) := by decide +kernel
theorem dX1_hasParts_7 : decode cX1_hasParts 7 = .ok (.invokestatic 147, 3) := by decide +kernel
theorem dX1_hasParts_10 : decode cX1_hasParts 10 = .ok (.ifCond .ne 7, 3) := by decide +kernel
theorem dX1_hasParts_13 : decode cX1_hasParts 13 = .ok (.iconst 1, 1) := by decide +kernel
theorem dX1_hasParts_14 : decode cX1_hasParts 14 = .ok (.goto 4, 3) := by decide +kernel
theorem dX1_hasParts_17 : decode cX1_hasParts 17 = .ok (.iconst 0, 1) := by decide +kernel
theorem dX1_hasParts_18 : decode cX1_hasParts 18 = .ok (.ireturn, 1) := by decide +kernel
theorem dX1_partLength_0 : decode cX1_partLength 0 = .ok (.iload_n 2, 1) := by decide +kernel
theorem dX1_partLength_1 : decode cX1_partLength 1 = .ok (.iconst 1, 1) := by decide +kernel
theorem dX1_partLength_2 : decode cX1_partLength 2 = .ok (.if_icmp .ge 7, 3) := by decide +kernel
theorem dX1_partLength_5 : decode cX1_partLength 5 = .ok (.iconst 0, 1) := by decide +kernel
theorem dX1_partLength_6 : decode cX1_partLength 6 = .ok (.goto 11, 3) := by decide +kernel
theorem dX1_partLength_9 : decode cX1_partLength 9 = .ok (.aload_n 0, 1) := by decide +kernel
theorem dX1_partLength_10 : decode cX1_partLength 10 = .ok (.getfield 25, 3) := by decide +kernel
theorem dX1_partLength_13 : decode cX1_partLength 13 = .ok (.iload_n 1, 1) := by decide +kernel
theorem dX1_partLength_14 : decode cX1_partLength 14 = .ok (.iaload, 1) := by decide +kernel
theorem dX1_partLength_15 : decode cX1_partLength 15 = .ok (.iload_n 2, 1) := by decide +kernel
theorem dX1_partLength_16 : decode cX1_partLength 16 = .ok (.idiv, 1) := by decide +kernel
theorem dX1_partLength_17 : decode cX1_partLength 17 = .ok (.ireturn, 1) := by decide +kernel
theorem dX1_workOutPartSum_0 : decode cX1_workOutPartSum 0 = .ok (.aload_n 0, 1) := by decide +kernel
theorem dX1_workOutPartSum_1 : decode cX1_workOutPartSum 1 = .ok (.getfield 16, 3) := by decide +kernel
theorem dX1_workOutPartSum_4 : decode cX1_workOutPartSum 4 = .ok (.iload_n 1, 1) := by decide +kernel
theorem dX1_workOutPartSum_5 : decode cX1_workOutPartSum 5 = .ok (.iaload, 1) := by decide +kernel
theorem dX1_workOutPartSum_6 : decode cX1_workOutPartSum 6 = .ok (.istore_n 3, 1) := by decide +kernel
theorem dX1_workOutPartSum_7 : decode cX1_workOutPartSum 7 = .ok (.aload_n 0, 1) := by decide +kernel
theorem dX1_workOutPartSum_8 : decode cX1_workOutPartSum 8 = .ok (.getfield 34, 3) := by decide +kernel
theorem dX1_workOutPartSum_11 : decode cX1_workOutPartSum 11 = .ok (.invokevirtual 274, 3) := by decide +kernel
theorem dX1_workOutPartSum_14 : decode cX1_workOutPartSum 14 = .ok (.aload_n 0, 1) := by decide +kernel
theorem dX1_workOutPartSum_15 : decode cX1_workOutPartSum 15 = .ok (.getfield 25, 3) := by decide +kernel
theorem dX1_workOutPartSum_18 : decode cX1_workOutPartSum 18 = .ok (.iload_n 1, 1) := by decide +kernel
theorem dX1_workOutPartSum_19 : decode cX1_workOutPartSum 19 = .ok (.iaload, 1) := by decide +kernel
theorem dX1_workOutPartSum_20 : decode cX1_workOutPartSum 20 = .ok (.iconst 1, 1) := by decide +kernel
theorem dX1_workOutPartSum_21 : decode cX1_workOutPartSum 21 = .ok (.isub, 1) := by decide +kernel
theorem dX1_workOutPartSum_22 : decode cX1_workOutPartSum 22 = .ok (.istore 4, 2) := by decide +kernel
theorem dX1_workOutPartSum_24 : decode cX1_workOutPartSum 24 = .ok (.iload 4, 2) := by decide +kernel
theorem dX1_workOutPartSum_26 : decode cX1_workOutPartSum 26 = .ok (.ifCond .lt 43, 3) := by decide +kernel
theorem dX1_workOutPartSum_29 : decode cX1_workOutPartSum 29 = .ok (.aload_n 0, 1) := by decide +kernel
theorem dX1_workOutPartSum_30 : decode cX1_workOutPartSum 30 = .ok (.getfield 34, 3) := by decide +kernel
theorem dX1_workOutPartSum_33 : decode cX1_workOutPartSum 33 = .ok (.iload 4, 2) := by decide +kernel
theorem dX1_workOutPartSum_35 : decode cX1_workOutPartSum 35 = .ok (.iload_n 2, 1) := by decide +kernel
theorem dX1_workOutPartSum_36 : decode cX1_workOutPartSum 36 = .ok (.invokestatic 147, 3) := by decide +kernel
theorem dX1_workOutPartSum_39 : decode cX1_workOutPartSum 39 = .ok (.iload_n 3, 1) := by decide +kernel
theorem dX1_workOutPartSum_40 : decode cX1_workOutPartSum 40 = .ok (.aload_n 0, 1) := by decide +kernel
theorem dX1_workOutPartSum_41 : decode cX1_workOutPartSum 41 = .ok (.getfield 19, 3) := by decide +kernel
theorem dX1_workOutPartSum_44 : decode cX1_workOutPartSum 44 = .ok (.iload_n 1, 1) := by decide +kernel
theorem dX1_workOutPartSum_45 : decode cX1_workOutPartSum 45 = .ok (.iaload, 1) := by decide +kernel
theorem dX1_workOutPartSum_46 : decode cX1_workOutPartSum 46 = .ok (.invokestatic 138, 3) := by decide +kernel
theorem dX1_workOutPartSum_49 : decode cX1_workOutPartSum 49 = .ok (.invokevirtual 277, 3) := by decide +kernel
theorem dX1_workOutPartSum_52 : decode cX1_workOutPartSum 52 = .ok (.iload_n 3, 1) := by decide +kernel
theorem dX1_workOutPartSum_53 : decode cX1_workOutPartSum 53 = .ok (.aload_n 0, 1) := by decide +kernel
theorem dX1_workOutPartSum_54 : decode cX1_workOutPartSum 54 = .ok (.getfield 19, 3) := by decide +kernel
theorem dX1_workOutPartSum_57 : decode cX1_workOutPartSum 57 = .ok (.iload_n 1, 1) := by decide +kernel
theorem dX1_workOutPartSum_58 : decode cX1_workOutPartSum 58 = .ok (.iaload, 1) := by decide +kernel
theorem dX1_workOutPartSum_59 : decode cX1_workOutPartSum 59 = .ok (.invokestatic 189, 3) := by decide +kernel
theorem dX1_workOutPartSum_62 : decode cX1_workOutPartSum 62 = .ok (.istore_n 3, 1) := by decide +kernel
theorem dX1_workOutPartSum_63 : decode cX1_workOutPartSum 63 = .ok (.iinc 4 (-1), 3) := by decide +kernel
theorem dX1_workOutPartSum_66 : decode cX1_workOutPartSum 66 = .ok (.goto (-42), 3) := by decide +kernel
theorem dX1_workOutPartSum_69 : decode cX1_workOutPartSum 69 = .ok (.aload_n 0, 1) := by decide +kernel
theorem dX1_workOutPartSum_70 : decode cX1_workOutPartSum 70 = .ok (.getfield 34, 3) := by decide +kernel
theorem dX1_workOutPartSum_73 : decode cX1_workOutPartSum 73 = .ok (.invokevirtual 280, 3) := by decide +kernel
theorem dX1_workOutPartSum_76 : decode cX1_workOutPartSum 76 = .ok (.return_, 1) := by decide +kernel
theorem dX1_ninesOf_0 : decode cX1_ninesOf 0 = .ok (.aload_n 0, 1) := by decide +kernel
theorem dX1_ninesOf_1 : decode cX1_ninesOf 1 = .ok (.iload_n 1, 1) := by decide +kernel
theorem dX1_ninesOf_2 : decode cX1_ninesOf 2 = .ok (.iload_n 2, 1) := by decide +kernel
theorem dX1_ninesOf_3 : decode cX1_ninesOf 3 = .ok (.invokevirtual 177, 3) := by decide +kernel
theorem dX1_ninesOf_6 : decode cX1_ninesOf 6 = .ok (.ifCond .ne 6, 3) := by decide +kernel
theorem dX1_ninesOf_9 : decode cX1_ninesOf 9 = .ok (.bipush (-9), 2) := by decide +kernel
theorem dX1_ninesOf_11 : decode cX1_ninesOf 11 = .ok (.ireturn, 1) := by decide +kernel
theorem dX1_ninesOf_12 : decode cX1_ninesOf 12 = .ok (.aload_n 0, 1) := by decide +kernel
theorem dX1_ninesOf_13 : decode cX1_ninesOf 13 = .ok (.iload_n 1, 1) := by decide +kernel
theorem dX1_ninesOf_14 : decode cX1_ninesOf 14 = .ok (.iload_n 2, 1) := by decide +kernel
theorem dX1_ninesOf_15 : decode cX1_ninesOf 15 = .ok (.invokevirtual 180, 3) := by decide +kernel
theorem dX1_ninesOf_18 : decode cX1_ninesOf 18 = .ok (.istore_n 3, 1) := by decide +kernel
theorem dX1_ninesOf_19 : decode cX1_ninesOf 19 = .ok (.aload_n 0, 1) := by decide +kernel
theorem dX1_ninesOf_20 : decode cX1_ninesOf 20 = .ok (.iload_n 1, 1) := by decide +kernel
theorem dX1_ninesOf_21 : decode cX1_ninesOf 21 = .ok (.iload_n 3, 1) := by decide +kernel
theorem dX1_ninesOf_22 : decode cX1_ninesOf 22 = .ok (.invokevirtual 183, 3) := by decide +kernel
theorem dX1_ninesOf_25 : decode cX1_ninesOf 25 = .ok (.iconst 0, 1) := by decide +kernel
theorem dX1_ninesOf_26 : decode cX1_ninesOf 26 = .ok (.istore 4, 2) := by decide +kernel
theorem dX1_ninesOf_28 : decode cX1_ninesOf 28 = .ok (.iload 4, 2) := by decide +kernel
theorem dX1_ninesOf_30 : decode cX1_ninesOf 30 = .ok (.iload_n 2, 1) := by decide +kernel
theorem dX1_ninesOf_31 : decode cX1_ninesOf 31 = .ok (.if_icmp .gt 36, 3) := by decide +kernel
theorem dX1_ninesOf_34 : decode cX1_ninesOf 34 = .ok (.aload_n 0, 1) := by decide +kernel
theorem dX1_ninesOf_35 : decode cX1_ninesOf 35 = .ok (.getfield 38, 3) := by decide +kernel
theorem dX1_ninesOf_38 : decode cX1_ninesOf 38 = .ok (.iload_n 3, 1) := by decide +kernel
theorem dX1_ninesOf_39 : decode cX1_ninesOf 39 = .ok (.iload 4, 2) := by decide +kernel
theorem dX1_ninesOf_41 : decode cX1_ninesOf 41 = .ok (.invokevirtual 283, 3) := by decide +kernel
theorem dX1_ninesOf_44 : decode cX1_ninesOf 44 = .ok (.aload_n 0, 1) := by decide +kernel
theorem dX1_ninesOf_45 : decode cX1_ninesOf 45 = .ok (.getfield 34, 3) := by decide +kernel
theorem dX1_ninesOf_48 : decode cX1_ninesOf 48 = .ok (.aload_n 0, 1) := by decide +kernel
theorem dX1_ninesOf_49 : decode cX1_ninesOf 49 = .ok (.getfield 38, 3) := by decide +kernel
theorem dX1_ninesOf_52 : decode cX1_ninesOf 52 = .ok (.invokevirtual 286, 3) := by decide +kernel
theorem dX1_ninesOf_55 : decode cX1_ninesOf 55 = .ok (.ifCond .eq 6, 3) := by decide +kernel
theorem dX1_ninesOf_58 : decode cX1_ninesOf 58 = .ok (.iload 4, 2) := by decide +kernel
theorem dX1_ninesOf_60 : decode cX1_ninesOf 60 = .ok (.ireturn, 1) := by decide +kernel
theorem dX1_ninesOf_61 : decode cX1_ninesOf 61 = .ok (.iinc 4 1, 3) := by decide +kernel
theorem dX1_ninesOf_64 : decode cX1_ninesOf 64 = .ok (.goto (-36), 3) := by decide +kernel
theorem dX1_ninesOf_67 : decode cX1_ninesOf 67 = .ok (.iconst (-1), 1) := by decide +kernel
theorem dX1_ninesOf_68 : decode cX1_ninesOf 68 = .ok (.ireturn, 1) := by decide +kernel
theorem dX1_isCellSoundWithAll_0 : decode cX1_isCellSoundWithAll 0 = .ok (.iconst 0, 1) := by decide +kernel
theorem dX1_isCellSoundWithAll_1 : decode cX1_isCellSoundWithAll 1 = .ok (.istore_n 2, 1) := by decide +kernel
theorem dX1_isCellSoundWithAll_2 : decode cX1_isCellSoundWithAll 2 = .ok (.iload_n 2, 1) := by decide +kernel
theorem dX1_isCellSoundWithAll_3 : decode cX1_isCellSoundWithAll 3 = .ok (.iconst 4, 1) := by decide +kernel
theorem dX1_isCellSoundWithAll_4 : decode cX1_isCellSoundWithAll 4 = .ok (.if_icmp .ge 95, 3) := by decide +kernel
theorem dX1_isCellSoundWithAll_7 : decode cX1_isCellSoundWithAll 7 = .ok (.aload_n 0, 1) := by decide +kernel
theorem dX1_isCellSoundWithAll_8 : decode cX1_isCellSoundWithAll 8 = .ok (.getfield 13, 3) := by decide +kernel
theorem dX1_isCellSoundWithAll_11 : decode cX1_isCellSoundWithAll 11 = .ok (.iload_n 1, 1) := by decide +kernel
theorem dX1_isCellSoundWithAll_12 : decode cX1_isCellSoundWithAll 12 = .ok (.iaload, 1) := by decide +kernel
theorem dX1_isCellSoundWithAll_13 : decode cX1_isCellSoundWithAll 13 = .ok (.aload_n 0, 1) := by decide +kernel
theorem dX1_isCellSoundWithAll_14 : decode cX1_isCellSoundWithAll 14 = .ok (.getfield 13, 3) := by decide +kernel
theorem dX1_isCellSoundWithAll_17 : decode cX1_isCellSoundWithAll 17 = .ok (.iload_n 2, 1) := by decide +kernel
theorem dX1_isCellSoundWithAll_18 : decode cX1_isCellSoundWithAll 18 = .ok (.iaload, 1) := by decide +kernel
theorem dX1_isCellSoundWithAll_19 : decode cX1_isCellSoundWithAll 19 = .ok (.invokestatic 69, 3) := by decide +kernel
theorem dX1_isCellSoundWithAll_22 : decode cX1_isCellSoundWithAll 22 = .ok (.istore_n 3, 1) := by decide +kernel
theorem dX1_isCellSoundWithAll_23 : decode cX1_isCellSoundWithAll 23 = .ok (.aload_n 0, 1) := by decide +kernel
theorem dX1_isCellSoundWithAll_24 : decode cX1_isCellSoundWithAll 24 = .ok (.iload_n 1, 1) := by decide +kernel
theorem dX1_isCellSoundWithAll_25 : decode cX1_isCellSoundWithAll 25 = .ok (.iload_n 3, 1) := by decide +kernel
theorem dX1_isCellSoundWithAll_26 : decode cX1_isCellSoundWithAll 26 = .ok (.invokevirtual 73, 3) := by decide +kernel
theorem dX1_isCellSoundWithAll_29 : decode cX1_isCellSoundWithAll 29 = .ok (.aload_n 0, 1) := by decide +kernel
theorem dX1_isCellSoundWithAll_30 : decode cX1_isCellSoundWithAll 30 = .ok (.iload_n 2, 1) := by decide +kernel
theorem dX1_isCellSoundWithAll_31 : decode cX1_isCellSoundWithAll 31 = .ok (.iload_n 3, 1) := by decide +kernel
theorem dX1_isCellSoundWithAll_32 : decode cX1_isCellSoundWithAll 32 = .ok (.invokevirtual 73, 3) := by decide +kernel
theorem dX1_isCellSoundWithAll_35 : decode cX1_isCellSoundWithAll 35 = .ok (.ladd, 1) := by decide +kernel
theorem dX1_isCellSoundWithAll_36 : decode cX1_isCellSoundWithAll 36 = .ok (.lstore 4, 2) := by decide +kernel
theorem dX1_isCellSoundWithAll_38 : decode cX1_isCellSoundWithAll 38 = .ok (.aload_n 0, 1) := by decide +kernel
theorem dX1_isCellSoundWithAll_39 : decode cX1_isCellSoundWithAll 39 = .ok (.iload_n 1, 1) := by decide +kernel
theorem dX1_isCellSoundWithAll_40 : decode cX1_isCellSoundWithAll 40 = .ok (.iload_n 2, 1) := by decide +kernel
theorem dX1_isCellSoundWithAll_41 : decode cX1_isCellSoundWithAll 41 = .ok (.invokevirtual 107, 3) := by decide +kernel
theorem dX1_isCellSoundWithAll_44 : decode cX1_isCellSoundWithAll 44 = .ok (.istore 6, 2) := by decide +kernel
theorem dX1_isCellSoundWithAll_46 : decode cX1_isCellSoundWithAll 46 = .ok (.lload 4, 2) := by decide +kernel
theorem dX1_isCellSoundWithAll_48 : decode cX1_isCellSoundWithAll 48 = .ok (.aload_n 0, 1) := by decide +kernel
theorem dX1_isCellSoundWithAll_49 : decode cX1_isCellSoundWithAll 49 = .ok (.iload_n 2, 1) := by decide +kernel
theorem dX1_isCellSoundWithAll_50 : decode cX1_isCellSoundWithAll 50 = .ok (.iload_n 3, 1) := by decide +kernel
theorem dX1_isCellSoundWithAll_51 : decode cX1_isCellSoundWithAll 51 = .ok (.invokevirtual 73, 3) := by decide +kernel
theorem dX1_isCellSoundWithAll_54 : decode cX1_isCellSoundWithAll 54 = .ok (.lsub, 1) := by decide +kernel
theorem dX1_isCellSoundWithAll_55 : decode cX1_isCellSoundWithAll 55 = .ok (.aload_n 0, 1) := by decide +kernel
theorem dX1_isCellSoundWithAll_56 : decode cX1_isCellSoundWithAll 56 = .ok (.iload_n 1, 1) := by decide +kernel
theorem dX1_isCellSoundWithAll_57 : decode cX1_isCellSoundWithAll 57 = .ok (.iload_n 3, 1) := by decide +kernel
theorem dX1_isCellSoundWithAll_58 : decode cX1_isCellSoundWithAll 58 = .ok (.invokevirtual 73, 3) := by decide +kernel
theorem dX1_isCellSoundWithAll_61 : decode cX1_isCellSoundWithAll 61 = .ok (.lcmp, 1) := by decide +kernel
theorem dX1_isCellSoundWithAll_62 : decode cX1_isCellSoundWithAll 62 = .ok (.ifCond .ne 29, 3) := by decide +kernel
theorem dX1_isCellSoundWithAll_65 : decode cX1_isCellSoundWithAll 65 = .ok (.iload 6, 2) := by decide +kernel
theorem dX1_isCellSoundWithAll_67 : decode cX1_isCellSoundWithAll 67 = .ok (.aload_n 0, 1) := by decide +kernel
theorem dX1_isCellSoundWithAll_68 : decode cX1_isCellSoundWithAll 68 = .ok (.iload_n 2, 1) := by decide +kernel
theorem dX1_isCellSoundWithAll_69 : decode cX1_isCellSoundWithAll 69 = .ok (.iload_n 1, 1) := by decide +kernel
theorem dX1_isCellSoundWithAll_70 : decode cX1_isCellSoundWithAll 70 = .ok (.invokevirtual 107, 3) := by decide +kernel
theorem dX1_isCellSoundWithAll_73 : decode cX1_isCellSoundWithAll 73 = .ok (.ineg, 1) := by decide +kernel
theorem dX1_isCellSoundWithAll_74 : decode cX1_isCellSoundWithAll 74 = .ok (.if_icmp .ne 17, 3) := by decide +kernel
theorem dX1_isCellSoundWithAll_77 : decode cX1_isCellSoundWithAll 77 = .ok (.aload_n 0, 1) := by decide +kernel
theorem dX1_isCellSoundWithAll_78 : decode cX1_isCellSoundWithAll 78 = .ok (.iload_n 1, 1) := by decide +kernel
theorem dX1_isCellSoundWithAll_79 : decode cX1_isCellSoundWithAll 79 = .ok (.iload_n 2, 1) := by decide +kernel
theorem dX1_isCellSoundWithAll_80 : decode cX1_isCellSoundWithAll 80 = .ok (.invokevirtual 124, 3) := by decide +kernel
theorem dX1_isCellSoundWithAll_83 : decode cX1_isCellSoundWithAll 83 = .ok (.ifCond .eq 10, 3) := by decide +kernel
theorem dX1_isCellSoundWithAll_86 : decode cX1_isCellSoundWithAll 86 = .ok (.iload 6, 2) := by decide +kernel
theorem dX1_isCellSoundWithAll_88 : decode cX1_isCellSoundWithAll 88 = .ok (.ifCond .eq 5, 3) := by decide +kernel
theorem dX1_isCellSoundWithAll_91 : decode cX1_isCellSoundWithAll 91 = .ok (.iconst 0, 1) := by decide +kernel
theorem dX1_isCellSoundWithAll_92 : decode cX1_isCellSoundWithAll 92 = .ok (.ireturn, 1) := by decide +kernel
theorem dX1_isCellSoundWithAll_93 : decode cX1_isCellSoundWithAll 93 = .ok (.iinc 2 1, 3) := by decide +kernel
theorem dX1_isCellSoundWithAll_96 : decode cX1_isCellSoundWithAll 96 = .ok (.goto (-94), 3) := by decide +kernel
theorem dX1_isCellSoundWithAll_99 : decode cX1_isCellSoundWithAll 99 = .ok (.iconst 1, 1) := by decide +kernel
theorem dX1_isCellSoundWithAll_100 : decode cX1_isCellSoundWithAll 100 = .ok (.ireturn, 1) := by decide +kernel
theorem dX1_isLengthSound_0 : decode cX1_isLengthSound 0 = .ok (.aload_n 0, 1) := by decide +kernel
theorem dX1_isLengthSound_1 : decode cX1_isLengthSound 1 = .ok (.getfield 25, 3) := by decide +kernel
theorem dX1_isLengthSound_4 : decode cX1_isLengthSound 4 = .ok (.iload_n 1, 1) := by decide +kernel
theorem dX1_isLengthSound_5 : decode cX1_isLengthSound 5 = .ok (.iaload, 1) := by decide +kernel
theorem dX1_isLengthSound_6 : decode cX1_isLengthSound 6 = .ok (.istore_n 2, 1) := by decide +kernel
theorem dX1_isLengthSound_7 : decode cX1_isLengthSound 7 = .ok (.aload_n 0, 1) := by decide +kernel
theorem dX1_isLengthSound_8 : decode cX1_isLengthSound 8 = .ok (.getfield 16, 3) := by decide +kernel
theorem dX1_isLengthSound_11 : decode cX1_isLengthSound 11 = .ok (.iload_n 1, 1) := by decide +kernel
theorem dX1_isLengthSound_12 : decode cX1_isLengthSound 12 = .ok (.iaload, 1) := by decide +kernel
theorem dX1_isLengthSound_13 : decode cX1_isLengthSound 13 = .ok (.istore_n 3, 1) := by decide +kernel
theorem dX1_isLengthSound_14 : decode cX1_isLengthSound 14 = .ok (.iconst 0, 1) := by decide +kernel
theorem dX1_isLengthSound_15 : decode cX1_isLengthSound 15 = .ok (.istore 4, 2) := by decide +kernel
theorem dX1_isLengthSound_17 : decode cX1_isLengthSound 17 = .ok (.iconst 1, 1) := by decide +kernel
theorem dX1_isLengthSound_18 : decode cX1_isLengthSound 18 = .ok (.istore 5, 2) := by decide +kernel
theorem dX1_isLengthSound_20 : decode cX1_isLengthSound 20 = .ok (.iload 5, 2) := by decide +kernel
theorem dX1_isLengthSound_22 : decode cX1_isLengthSound 22 = .ok (.iload_n 2, 1) := by decide +kernel
theorem dX1_isLengthSound_23 : decode cX1_isLengthSound 23 = .ok (.if_icmp .gt 59, 3) := by decide +kernel
theorem dX1_isLengthSound_26 : decode cX1_isLengthSound 26 = .ok (.iload_n 3, 1) := by decide +kernel
theorem dX1_isLengthSound_27 : decode cX1_isLengthSound 27 = .ok (.aload_n 0, 1) := by decide +kernel
theorem dX1_isLengthSound_28 : decode cX1_isLengthSound 28 = .ok (.getfield 19, 3) := by decide +kernel
theorem dX1_isLengthSound_31 : decode cX1_isLengthSound 31 = .ok (.iload_n 1, 1) := by decide +kernel
theorem dX1_isLengthSound_32 : decode cX1_isLengthSound 32 = .ok (.iaload, 1) := by decide +kernel
theorem dX1_isLengthSound_33 : decode cX1_isLengthSound 33 = .ok (.invokestatic 189, 3) := by decide +kernel
theorem dX1_isLengthSound_36 : decode cX1_isLengthSound 36 = .ok (.istore_n 3, 1) := by decide +kernel
theorem dX1_isLengthSound_37 : decode cX1_isLengthSound 37 = .ok (.iload_n 3, 1) := by decide +kernel
theorem dX1_isLengthSound_38 : decode cX1_isLengthSound 38 = .ok (.aload_n 0, 1) := by decide +kernel
theorem dX1_isLengthSound_39 : decode cX1_isLengthSound 39 = .ok (.getfield 16, 3) := by decide +kernel
theorem dX1_isLengthSound_42 : decode cX1_isLengthSound 42 = .ok (.iload_n 1, 1) := by decide +kernel
theorem dX1_isLengthSound_43 : decode cX1_isLengthSound 43 = .ok (.iaload, 1) := by decide +kernel
theorem dX1_isLengthSound_44 : decode cX1_isLengthSound 44 = .ok (.if_icmp .ne 7, 3) := by decide +kernel
theorem dX1_isLengthSound_47 : decode cX1_isLengthSound 47 = .ok (.iconst 1, 1) := by decide +kernel
theorem dX1_isLengthSound_48 : decode cX1_isLengthSound 48 = .ok (.goto 4, 3) := by decide +kernel
theorem dX1_isLengthSound_51 : decode cX1_isLengthSound 51 = .ok (.iconst 0, 1) := by decide +kernel
theorem dX1_isLengthSound_52 : decode cX1_isLengthSound 52 = .ok (.istore 4, 2) := by decide +kernel
theorem dX1_isLengthSound_54 : decode cX1_isLengthSound 54 = .ok (.iload 4, 2) := by decide +kernel
theorem dX1_isLengthSound_56 : decode cX1_isLengthSound 56 = .ok (.ifCond .eq 20, 3) := by decide +kernel
theorem dX1_isLengthSound_59 : decode cX1_isLengthSound 59 = .ok (.iload 5, 2) := by decide +kernel
theorem dX1_isLengthSound_61 : decode cX1_isLengthSound 61 = .ok (.iload_n 2, 1) := by decide +kernel
theorem dX1_isLengthSound_62 : decode cX1_isLengthSound 62 = .ok (.if_icmp .ge 14, 3) := by decide +kernel
theorem dX1_isLengthSound_65 : decode cX1_isLengthSound 65 = .ok (.iload_n 2, 1) := by decide +kernel
theorem dX1_isLengthSound_66 : decode cX1_isLengthSound 66 = .ok (.iload 5, 2) := by decide +kernel
theorem dX1_isLengthSound_68 : decode cX1_isLengthSound 68 = .ok (.invokestatic 147, 3) := by decide +kernel
theorem dX1_isLengthSound_71 : decode cX1_isLengthSound 71 = .ok (.ifCond .ne 5, 3) := by decide +kernel
theorem dX1_isLengthSound_74 : decode cX1_isLengthSound 74 = .ok (.iconst 0, 1) := by decide +kernel
theorem dX1_isLengthSound_75 : decode cX1_isLengthSound 75 = .ok (.ireturn, 1) := by decide +kernel
theorem dX1_isLengthSound_76 : decode cX1_isLengthSound 76 = .ok (.iinc 5 1, 3) := by decide +kernel
theorem dX1_isLengthSound_79 : decode cX1_isLengthSound 79 = .ok (.goto (-59), 3) := by decide +kernel
theorem dX1_isLengthSound_82 : decode cX1_isLengthSound 82 = .ok (.iload 4, 2) := by decide +kernel
theorem dX1_isLengthSound_84 : decode cX1_isLengthSound 84 = .ok (.ireturn, 1) := by decide +kernel
theorem dX1_isProductSound_0 : decode cX1_isProductSound 0 = .ok (.aload_n 0, 1) := by decide +kernel
theorem dX1_isProductSound_1 : decode cX1_isProductSound 1 = .ok (.iload_n 1, 1) := by decide +kernel
theorem dX1_isProductSound_2 : decode cX1_isProductSound 2 = .ok (.invokevirtual 166, 3) := by decide +kernel
theorem dX1_isProductSound_5 : decode cX1_isProductSound 5 = .ok (.aload_n 0, 1) := by decide +kernel
theorem dX1_isProductSound_6 : decode cX1_isProductSound 6 = .ok (.getfield 38, 3) := by decide +kernel
theorem dX1_isProductSound_9 : decode cX1_isProductSound 9 = .ok (.aload_n 0, 1) := by decide +kernel
theorem dX1_isProductSound_10 : decode cX1_isProductSound 10 = .ok (.getfield 25, 3) := by decide +kernel
theorem dX1_isProductSound_13 : decode cX1_isProductSound 13 = .ok (.iload_n 1, 1) := by decide +kernel
theorem dX1_isProductSound_14 : decode cX1_isProductSound 14 = .ok (.iaload, 1) := by decide +kernel
theorem dX1_isProductSound_15 : decode cX1_isProductSound 15 = .ok (.aload_n 0, 1) := by decide +kernel
theorem dX1_isProductSound_16 : decode cX1_isProductSound 16 = .ok (.getfield 16, 3) := by decide +kernel
theorem dX1_isProductSound_19 : decode cX1_isProductSound 19 = .ok (.iload_n 1, 1) := by decide +kernel
theorem dX1_isProductSound_20 : decode cX1_isProductSound 20 = .ok (.iaload, 1) := by decide +kernel
theorem dX1_isProductSound_21 : decode cX1_isProductSound 21 = .ok (.invokevirtual 283, 3) := by decide +kernel
theorem dX1_isProductSound_24 : decode cX1_isProductSound 24 = .ok (.aload_n 0, 1) := by decide +kernel
theorem dX1_isProductSound_25 : decode cX1_isProductSound 25 = .ok (.getfield 34, 3) := by decide +kernel
theorem dX1_isProductSound_28 : decode cX1_isProductSound 28 = .ok (.aload_n 0, 1) := by decide +kernel
theorem dX1_isProductSound_29 : decode cX1_isProductSound 29 = .ok (.getfield 38, 3) := by decide +kernel
theorem dX1_isProductSound_32 : decode cX1_isProductSound 32 = .ok (.invokevirtual 286, 3) := by decide +kernel
theorem dX1_isProductSound_35 : decode cX1_isProductSound 35 = .ok (.ireturn, 1) := by decide +kernel
theorem dX1_isCutSound_0 : decode cX1_isCutSound 0 = .ok (.aload_n 0, 1) := by decide +kernel
theorem dX1_isCutSound_1 : decode cX1_isCutSound 1 = .ok (.iload_n 1, 1) := by decide +kernel
theorem dX1_isCutSound_2 : decode cX1_isCutSound 2 = .ok (.iconst 0, 1) := by decide +kernel
theorem dX1_isCutSound_3 : decode cX1_isCutSound 3 = .ok (.iconst 5, 1) := by decide +kernel
theorem dX1_isCutSound_4 : decode cX1_isCutSound 4 = .ok (.iconst 0, 1) := by decide +kernel
theorem dX1_isCutSound_5 : decode cX1_isCutSound 5 = .ok (.invokevirtual 113, 3) := by decide +kernel
theorem dX1_isCutSound_8 : decode cX1_isCutSound 8 = .ok (.lstore_n 2, 1) := by decide +kernel
theorem dX1_isCutSound_9 : decode cX1_isCutSound 9 = .ok (.aload_n 0, 1) := by decide +kernel
theorem dX1_isCutSound_10 : decode cX1_isCutSound 10 = .ok (.iload_n 1, 1) := by decide +kernel
theorem dX1_isCutSound_11 : decode cX1_isCutSound 11 = .ok (.iconst 0, 1) := by decide +kernel
theorem dX1_isCutSound_12 : decode cX1_isCutSound 12 = .ok (.iconst 5, 1) := by decide +kernel
theorem dX1_isCutSound_13 : decode cX1_isCutSound 13 = .ok (.iconst 1, 1) := by decide +kernel
theorem dX1_isCutSound_14 : decode cX1_isCutSound 14 = .ok (.invokevirtual 113, 3) := by decide +kernel
theorem dX1_isCutSound_17 : decode cX1_isCutSound 17 = .ok (.lstore 4, 2) := by decide +kernel
theorem dX1_isCutSound_19 : decode cX1_isCutSound 19 = .ok (.aload_n 0, 1) := by decide +kernel
theorem dX1_isCutSound_20 : decode cX1_isCutSound 20 = .ok (.iload_n 1, 1) := by decide +kernel
theorem dX1_isCutSound_21 : decode cX1_isCutSound 21 = .ok (.iconst 0, 1) := by decide +kernel
theorem dX1_isCutSound_22 : decode cX1_isCutSound 22 = .ok (.iconst 5, 1) := by decide +kernel
theorem dX1_isCutSound_23 : decode cX1_isCutSound 23 = .ok (.iconst 4, 1) := by decide +kernel
theorem dX1_isCutSound_24 : decode cX1_isCutSound 24 = .ok (.invokevirtual 113, 3) := by decide +kernel
theorem dX1_isCutSound_27 : decode cX1_isCutSound 27 = .ok (.lstore 6, 2) := by decide +kernel
theorem dX1_isCutSound_29 : decode cX1_isCutSound 29 = .ok (.lload_n 2, 1) := by decide +kernel
theorem dX1_isCutSound_30 : decode cX1_isCutSound 30 = .ok (.lload 4, 2) := by decide +kernel
theorem dX1_isCutSound_32 : decode cX1_isCutSound 32 = .ok (.lsub, 1) := by decide +kernel
theorem dX1_isCutSound_33 : decode cX1_isCutSound 33 = .ok (.aload_n 0, 1) := by decide +kernel
theorem dX1_isCutSound_34 : decode cX1_isCutSound 34 = .ok (.getfield 16, 3) := by decide +kernel
theorem dX1_isCutSound_37 : decode cX1_isCutSound 37 = .ok (.iload_n 1, 1) := by decide +kernel
theorem dX1_isCutSound_38 : decode cX1_isCutSound 38 = .ok (.iaload, 1) := by decide +kernel
theorem dX1_isCutSound_39 : decode cX1_isCutSound 39 = .ok (.ifCond .ne 7, 3) := by decide +kernel
theorem dX1_isCutSound_42 : decode cX1_isCutSound 42 = .ok (.iconst 0, 1) := by decide +kernel
theorem dX1_isCutSound_43 : decode cX1_isCutSound 43 = .ok (.goto 4, 3) := by decide +kernel
theorem dX1_isCutSound_46 : decode cX1_isCutSound 46 = .ok (.iconst 1, 1) := by decide +kernel
theorem dX1_isCutSound_47 : decode cX1_isCutSound 47 = .ok (.i2l, 1) := by decide +kernel
theorem dX1_isCutSound_48 : decode cX1_isCutSound 48 = .ok (.lcmp, 1) := by decide +kernel
theorem dX1_isCutSound_49 : decode cX1_isCutSound 49 = .ok (.ifCond .ne 36, 3) := by decide +kernel
theorem dX1_isCutSound_52 : decode cX1_isCutSound 52 = .ok (.lload 6, 2) := by decide +kernel
theorem dX1_isCutSound_54 : decode cX1_isCutSound 54 = .ok (.aload_n 0, 1) := by decide +kernel
theorem dX1_isCutSound_55 : decode cX1_isCutSound 55 = .ok (.iload_n 1, 1) := by decide +kernel
theorem dX1_isCutSound_56 : decode cX1_isCutSound 56 = .ok (.iconst 0, 1) := by decide +kernel
theorem dX1_isCutSound_57 : decode cX1_isCutSound 57 = .ok (.iconst 5, 1) := by decide +kernel
theorem dX1_isCutSound_58 : decode cX1_isCutSound 58 = .ok (.iconst 5, 1) := by decide +kernel
theorem dX1_isCutSound_59 : decode cX1_isCutSound 59 = .ok (.invokevirtual 113, 3) := by decide +kernel
theorem dX1_isCutSound_62 : decode cX1_isCutSound 62 = .ok (.lcmp, 1) := by decide +kernel
theorem dX1_isCutSound_63 : decode cX1_isCutSound 63 = .ok (.ifCond .ne 22, 3) := by decide +kernel
theorem dX1_isCutSound_66 : decode cX1_isCutSound 66 = .ok (.lload 6, 2) := by decide +kernel
theorem dX1_isCutSound_68 : decode cX1_isCutSound 68 = .ok (.aload_n 0, 1) := by decide +kernel
theorem dX1_isCutSound_69 : decode cX1_isCutSound 69 = .ok (.iload_n 1, 1) := by decide +kernel
theorem dX1_isCutSound_70 : decode cX1_isCutSound 70 = .ok (.iconst 0, 1) := by decide +kernel
theorem dX1_isCutSound_71 : decode cX1_isCutSound 71 = .ok (.iconst 5, 1) := by decide +kernel
theorem dX1_isCutSound_72 : decode cX1_isCutSound 72 = .ok (.bipush 6, 2) := by decide +kernel
theorem dX1_isCutSound_74 : decode cX1_isCutSound 74 = .ok (.invokevirtual 113, 3) := by decide +kernel
theorem dX1_isCutSound_77 : decode cX1_isCutSound 77 = .ok (.lcmp, 1) := by decide +kernel
theorem dX1_isCutSound_78 : decode cX1_isCutSound 78 = .ok (.ifCond .ne 7, 3) := by decide +kernel
theorem dX1_isCutSound_81 : decode cX1_isCutSound 81 = .ok (.iconst 1, 1) := by decide +kernel
theorem dX1_isCutSound_82 : decode cX1_isCutSound 82 = .ok (.goto 4, 3) := by decide +kernel
theorem dX1_isCutSound_85 : decode cX1_isCutSound 85 = .ok (.iconst 0, 1) := by decide +kernel
theorem dX1_isCutSound_86 : decode cX1_isCutSound 86 = .ok (.ireturn, 1) := by decide +kernel
theorem dX1_joined_0 : decode cX1_joined 0 = .ok (.lload_n 0, 1) := by decide +kernel
theorem dX1_joined_1 : decode cX1_joined 1 = .ok (.ldc2_w 290, 3) := by decide +kernel
theorem dX1_joined_4 : decode cX1_joined 4 = .ok (.lmul, 1) := by decide +kernel
theorem dX1_joined_5 : decode cX1_joined 5 = .ok (.lload_n 2, 1) := by decide +kernel
theorem dX1_joined_6 : decode cX1_joined 6 = .ok (.ladd, 1) := by decide +kernel
theorem dX1_joined_7 : decode cX1_joined 7 = .ok (.lreturn, 1) := by decide +kernel
theorem dX1_digestOfCells_0 : decode cX1_digestOfCells 0 = .ok (.lload_n 1, 1) := by decide +kernel
theorem dX1_digestOfCells_1 : decode cX1_digestOfCells 1 = .ok (.lstore_n 3, 1) := by decide +kernel
theorem dX1_digestOfCells_2 : decode cX1_digestOfCells 2 = .ok (.iconst 0, 1) := by decide +kernel
theorem dX1_digestOfCells_3 : decode cX1_digestOfCells 3 = .ok (.istore 5, 2) := by decide +kernel
theorem dX1_digestOfCells_5 : decode cX1_digestOfCells 5 = .ok (.iload 5, 2) := by decide +kernel
theorem dX1_digestOfCells_7 : decode cX1_digestOfCells 7 = .ok (.iconst 4, 1) := by decide +kernel
theorem dX1_digestOfCells_8 : decode cX1_digestOfCells 8 = .ok (.if_icmp .ge 69, 3) := by decide +kernel
theorem dX1_digestOfCells_11 : decode cX1_digestOfCells 11 = .ok (.lload_n 3, 1) := by decide +kernel
theorem dX1_digestOfCells_12 : decode cX1_digestOfCells 12 = .ok (.aload_n 0, 1) := by decide +kernel
theorem dX1_digestOfCells_13 : decode cX1_digestOfCells 13 = .ok (.getfield 9, 3) := by decide +kernel
theorem dX1_digestOfCells_16 : decode cX1_digestOfCells 16 = .ok (.iload 5, 2) := by decide +kernel
theorem dX1_digestOfCells_18 : decode cX1_digestOfCells 18 = .ok (.iaload, 1) := by decide +kernel
theorem dX1_digestOfCells_19 : decode cX1_digestOfCells 19 = .ok (.i2l, 1) := by decide +kernel
theorem dX1_digestOfCells_20 : decode cX1_digestOfCells 20 = .ok (.invokestatic 224, 3) := by decide +kernel
theorem dX1_digestOfCells_23 : decode cX1_digestOfCells 23 = .ok (.lstore_n 3, 1) := by decide +kernel
theorem dX1_digestOfCells_24 : decode cX1_digestOfCells 24 = .ok (.lload_n 3, 1) := by decide +kernel
theorem dX1_digestOfCells_25 : decode cX1_digestOfCells 25 = .ok (.aload_n 0, 1) := by decide +kernel
theorem dX1_digestOfCells_26 : decode cX1_digestOfCells 26 = .ok (.getfield 13, 3) := by decide +kernel
theorem dX1_digestOfCells_29 : decode cX1_digestOfCells 29 = .ok (.iload 5, 2) := by decide +kernel
theorem dX1_digestOfCells_31 : decode cX1_digestOfCells 31 = .ok (.iaload, 1) := by decide +kernel
theorem dX1_digestOfCells_32 : decode cX1_digestOfCells 32 = .ok (.i2l, 1) := by decide +kernel
theorem dX1_digestOfCells_33 : decode cX1_digestOfCells 33 = .ok (.invokestatic 224, 3) := by decide +kernel
theorem dX1_digestOfCells_36 : decode cX1_digestOfCells 36 = .ok (.lstore_n 3, 1) := by decide +kernel
theorem dX1_digestOfCells_37 : decode cX1_digestOfCells 37 = .ok (.lload_n 3, 1) := by decide +kernel
theorem dX1_digestOfCells_38 : decode cX1_digestOfCells 38 = .ok (.aload_n 0, 1) := by decide +kernel
theorem dX1_digestOfCells_39 : decode cX1_digestOfCells 39 = .ok (.getfield 9, 3) := by decide +kernel
theorem dX1_digestOfCells_42 : decode cX1_digestOfCells 42 = .ok (.iload 5, 2) := by decide +kernel
theorem dX1_digestOfCells_44 : decode cX1_digestOfCells 44 = .ok (.iaload, 1) := by decide +kernel
theorem dX1_digestOfCells_45 : decode cX1_digestOfCells 45 = .ok (.i2l, 1) := by decide +kernel
theorem dX1_digestOfCells_46 : decode cX1_digestOfCells 46 = .ok (.invokestatic 101, 3) := by decide +kernel
theorem dX1_digestOfCells_49 : decode cX1_digestOfCells 49 = .ok (.i2l, 1) := by decide +kernel
theorem dX1_digestOfCells_50 : decode cX1_digestOfCells 50 = .ok (.invokestatic 224, 3) := by decide +kernel
theorem dX1_digestOfCells_53 : decode cX1_digestOfCells 53 = .ok (.lstore_n 3, 1) := by decide +kernel
theorem dX1_digestOfCells_54 : decode cX1_digestOfCells 54 = .ok (.lload_n 3, 1) := by decide +kernel
theorem dX1_digestOfCells_55 : decode cX1_digestOfCells 55 = .ok (.aload_n 0, 1) := by decide +kernel
theorem dX1_digestOfCells_56 : decode cX1_digestOfCells 56 = .ok (.getfield 9, 3) := by decide +kernel
theorem dX1_digestOfCells_59 : decode cX1_digestOfCells 59 = .ok (.iload 5, 2) := by decide +kernel
theorem dX1_digestOfCells_61 : decode cX1_digestOfCells 61 = .ok (.iaload, 1) := by decide +kernel
theorem dX1_digestOfCells_62 : decode cX1_digestOfCells 62 = .ok (.i2l, 1) := by decide +kernel
theorem dX1_digestOfCells_63 : decode cX1_digestOfCells 63 = .ok (.invokestatic 117, 3) := by decide +kernel
theorem dX1_digestOfCells_66 : decode cX1_digestOfCells 66 = .ok (.i2l, 1) := by decide +kernel
theorem dX1_digestOfCells_67 : decode cX1_digestOfCells 67 = .ok (.invokestatic 224, 3) := by decide +kernel
theorem dX1_digestOfCells_70 : decode cX1_digestOfCells 70 = .ok (.lstore_n 3, 1) := by decide +kernel
theorem dX1_digestOfCells_71 : decode cX1_digestOfCells 71 = .ok (.iinc 5 1, 3) := by decide +kernel
theorem dX1_digestOfCells_74 : decode cX1_digestOfCells 74 = .ok (.goto (-69), 3) := by decide +kernel
theorem dX1_digestOfCells_77 : decode cX1_digestOfCells 77 = .ok (.iconst 0, 1) := by decide +kernel
theorem dX1_digestOfCells_78 : decode cX1_digestOfCells 78 = .ok (.istore 5, 2) := by decide +kernel
theorem dX1_digestOfCells_80 : decode cX1_digestOfCells 80 = .ok (.iload 5, 2) := by decide +kernel
theorem dX1_digestOfCells_82 : decode cX1_digestOfCells 82 = .ok (.iconst 4, 1) := by decide +kernel
theorem dX1_digestOfCells_83 : decode cX1_digestOfCells 83 = .ok (.if_icmp .ge 62, 3) := by decide +kernel
theorem dX1_digestOfCells_86 : decode cX1_digestOfCells 86 = .ok (.iload 5, 2) := by decide +kernel
theorem dX1_digestOfCells_88 : decode cX1_digestOfCells 88 = .ok (.iconst 1, 1) := by decide +kernel
theorem dX1_digestOfCells_89 : decode cX1_digestOfCells 89 = .ok (.iadd, 1) := by decide +kernel
theorem dX1_digestOfCells_90 : decode cX1_digestOfCells 90 = .ok (.istore 6, 2) := by decide +kernel
theorem dX1_digestOfCells_92 : decode cX1_digestOfCells 92 = .ok (.iload 6, 2) := by decide +kernel
theorem dX1_digestOfCells_94 : decode cX1_digestOfCells 94 = .ok (.iconst 4, 1) := by decide +kernel
theorem dX1_digestOfCells_95 : decode cX1_digestOfCells 95 = .ok (.if_icmp .ge 44, 3) := by decide +kernel
theorem dX1_digestOfCells_98 : decode cX1_digestOfCells 98 = .ok (.lload_n 3, 1) := by decide +kernel
theorem dX1_digestOfCells_99 : decode cX1_digestOfCells 99 = .ok (.aload_n 0, 1) := by decide +kernel
theorem dX1_digestOfCells_100 : decode cX1_digestOfCells 100 = .ok (.iload 5, 2) := by decide +kernel
theorem dX1_digestOfCells_102 : decode cX1_digestOfCells 102 = .ok (.iload 6, 2) := by decide +kernel
theorem dX1_digestOfCells_104 : decode cX1_digestOfCells 104 = .ok (.invokevirtual 107, 3) := by decide +kernel
theorem dX1_digestOfCells_107 : decode cX1_digestOfCells 107 = .ok (.i2l, 1) := by decide +kernel
theorem dX1_digestOfCells_108 : decode cX1_digestOfCells 108 = .ok (.invokestatic 224, 3) := by decide +kernel
theorem dX1_digestOfCells_111 : decode cX1_digestOfCells 111 = .ok (.lstore_n 3, 1) := by decide +kernel
theorem dX1_digestOfCells_112 : decode cX1_digestOfCells 112 = .ok (.lload_n 3, 1) := by decide +kernel
theorem dX1_digestOfCells_113 : decode cX1_digestOfCells 113 = .ok (.aload_n 0, 1) := by decide +kernel
theorem dX1_digestOfCells_114 : decode cX1_digestOfCells 114 = .ok (.iload 5, 2) := by decide +kernel
theorem dX1_digestOfCells_116 : decode cX1_digestOfCells 116 = .ok (.iload 6, 2) := by decide +kernel
theorem dX1_digestOfCells_118 : decode cX1_digestOfCells 118 = .ok (.invokevirtual 124, 3) := by decide +kernel
theorem dX1_digestOfCells_121 : decode cX1_digestOfCells 121 = .ok (.ifCond .eq 7, 3) := by decide +kernel
theorem dX1_digestOfCells_124 : decode cX1_digestOfCells 124 = .ok (.lconst 1, 1) := by decide +kernel
theorem dX1_digestOfCells_125 : decode cX1_digestOfCells 125 = .ok (.goto 4, 3) := by decide +kernel
theorem dX1_digestOfCells_128 : decode cX1_digestOfCells 128 = .ok (.lconst 0, 1) := by decide +kernel
theorem dX1_digestOfCells_129 : decode cX1_digestOfCells 129 = .ok (.invokestatic 224, 3) := by decide +kernel
theorem dX1_digestOfCells_132 : decode cX1_digestOfCells 132 = .ok (.lstore_n 3, 1) := by decide +kernel
theorem dX1_digestOfCells_133 : decode cX1_digestOfCells 133 = .ok (.iinc 6 1, 3) := by decide +kernel
theorem dX1_digestOfCells_136 : decode cX1_digestOfCells 136 = .ok (.goto (-44), 3) := by decide +kernel
theorem dX1_digestOfCells_139 : decode cX1_digestOfCells 139 = .ok (.iinc 5 1, 3) := by decide +kernel
theorem dX1_digestOfCells_142 : decode cX1_digestOfCells 142 = .ok (.goto (-62), 3) := by decide +kernel
theorem dX1_digestOfCells_145 : decode cX1_digestOfCells 145 = .ok (.lload_n 3, 1) := by decide +kernel
theorem dX1_digestOfCells_146 : decode cX1_digestOfCells 146 = .ok (.lreturn, 1) := by decide +kernel
theorem dX1_digestOfWheels_0 : decode cX1_digestOfWheels 0 = .ok (.lload_n 1, 1) := by decide +kernel
theorem dX1_digestOfWheels_1 : decode cX1_digestOfWheels 1 = .ok (.lstore_n 3, 1) := by decide +kernel
theorem dX1_digestOfWheels_2 : decode cX1_digestOfWheels 2 = .ok (.iconst 0, 1) := by decide +kernel
theorem dX1_digestOfWheels_3 : decode cX1_digestOfWheels 3 = .ok (.istore 5, 2) := by decide +kernel
theorem dX1_digestOfWheels_5 : decode cX1_digestOfWheels 5 = .ok (.iload 5, 2) := by decide +kernel
theorem dX1_digestOfWheels_7 : decode cX1_digestOfWheels 7 = .ok (.iconst 3, 1) := by decide +kernel
theorem dX1_digestOfWheels_8 : decode cX1_digestOfWheels 8 = .ok (.if_icmp .ge 17, 3) := by decide +kernel
theorem dX1_digestOfWheels_11 : decode cX1_digestOfWheels 11 = .ok (.aload_n 0, 1) := by decide +kernel
theorem dX1_digestOfWheels_12 : decode cX1_digestOfWheels 12 = .ok (.iload 5, 2) := by decide +kernel
theorem dX1_digestOfWheels_14 : decode cX1_digestOfWheels 14 = .ok (.lload_n 3, 1) := by decide +kernel
theorem dX1_digestOfWheels_15 : decode cX1_digestOfWheels 15 = .ok (.invokevirtual 292, 3) := by decide +kernel
theorem dX1_digestOfWheels_18 : decode cX1_digestOfWheels 18 = .ok (.lstore_n 3, 1) := by decide +kernel
theorem dX1_digestOfWheels_19 : decode cX1_digestOfWheels 19 = .ok (.iinc 5 1, 3) := by decide +kernel
theorem dX1_digestOfWheels_22 : decode cX1_digestOfWheels 22 = .ok (.goto (-17), 3) := by decide +kernel
theorem dX1_digestOfWheels_25 : decode cX1_digestOfWheels 25 = .ok (.iconst 0, 1) := by decide +kernel
theorem dX1_digestOfWheels_26 : decode cX1_digestOfWheels 26 = .ok (.istore 5, 2) := by decide +kernel
theorem dX1_digestOfWheels_28 : decode cX1_digestOfWheels 28 = .ok (.iload 5, 2) := by decide +kernel
theorem dX1_digestOfWheels_30 : decode cX1_digestOfWheels 30 = .ok (.iconst 3, 1) := by decide +kernel
theorem dX1_digestOfWheels_31 : decode cX1_digestOfWheels 31 = .ok (.if_icmp .ge 41, 3) := by decide +kernel
theorem dX1_digestOfWheels_34 : decode cX1_digestOfWheels 34 = .ok (.iload 5, 2) := by decide +kernel
theorem dX1_digestOfWheels_36 : decode cX1_digestOfWheels 36 = .ok (.iconst 1, 1) := by decide +kernel
theorem dX1_digestOfWheels_37 : decode cX1_digestOfWheels 37 = .ok (.iadd, 1) := by decide +kernel
theorem dX1_digestOfWheels_38 : decode cX1_digestOfWheels 38 = .ok (.istore 6, 2) := by decide +kernel
theorem dX1_digestOfWheels_40 : decode cX1_digestOfWheels 40 = .ok (.iload 6, 2) := by decide +kernel
theorem dX1_digestOfWheels_42 : decode cX1_digestOfWheels 42 = .ok (.iconst 3, 1) := by decide +kernel
theorem dX1_digestOfWheels_43 : decode cX1_digestOfWheels 43 = .ok (.if_icmp .ge 23, 3) := by decide +kernel
theorem dX1_digestOfWheels_46 : decode cX1_digestOfWheels 46 = .ok (.lload_n 3, 1) := by decide +kernel
theorem dX1_digestOfWheels_47 : decode cX1_digestOfWheels 47 = .ok (.aload_n 0, 1) := by decide +kernel
theorem dX1_digestOfWheels_48 : decode cX1_digestOfWheels 48 = .ok (.iload 5, 2) := by decide +kernel
theorem dX1_digestOfWheels_50 : decode cX1_digestOfWheels 50 = .ok (.iload 6, 2) := by decide +kernel
theorem dX1_digestOfWheels_52 : decode cX1_digestOfWheels 52 = .ok (.invokevirtual 192, 3) := by decide +kernel
theorem dX1_digestOfWheels_55 : decode cX1_digestOfWheels 55 = .ok (.i2l, 1) := by decide +kernel
theorem dX1_digestOfWheels_56 : decode cX1_digestOfWheels 56 = .ok (.invokestatic 224, 3) := by decide +kernel
theorem dX1_digestOfWheels_59 : decode cX1_digestOfWheels 59 = .ok (.lstore_n 3, 1) := by decide +kernel
theorem dX1_digestOfWheels_60 : decode cX1_digestOfWheels 60 = .ok (.iinc 6 1, 3) := by decide +kernel
theorem dX1_digestOfWheels_63 : decode cX1_digestOfWheels 63 = .ok (.goto (-23), 3) := by decide +kernel
theorem dX1_digestOfWheels_66 : decode cX1_digestOfWheels 66 = .ok (.iinc 5 1, 3) := by decide +kernel
theorem dX1_digestOfWheels_69 : decode cX1_digestOfWheels 69 = .ok (.goto (-41), 3) := by decide +kernel
theorem dX1_digestOfWheels_72 : decode cX1_digestOfWheels 72 = .ok (.lload_n 3, 1) := by decide +kernel
theorem dX1_digestOfWheels_73 : decode cX1_digestOfWheels 73 = .ok (.lreturn, 1) := by decide +kernel
theorem dX1_digestOfWheel_0 : decode cX1_digestOfWheel 0 = .ok (.lload_n 2, 1) := by decide +kernel
theorem dX1_digestOfWheel_1 : decode cX1_digestOfWheel 1 = .ok (.lstore 4, 2) := by decide +kernel
theorem dX1_digestOfWheel_3 : decode cX1_digestOfWheel 3 = .ok (.iconst 0, 1) := by decide +kernel
theorem dX1_digestOfWheel_4 : decode cX1_digestOfWheel 4 = .ok (.istore 6, 2) := by decide +kernel
theorem dX1_digestOfWheel_6 : decode cX1_digestOfWheel 6 = .ok (.iload 6, 2) := by decide +kernel
theorem dX1_digestOfWheel_8 : decode cX1_digestOfWheel 8 = .ok (.iconst 4, 1) := by decide +kernel
theorem dX1_digestOfWheel_9 : decode cX1_digestOfWheel 9 = .ok (.if_icmp .gt 24, 3) := by decide +kernel
theorem dX1_digestOfWheel_12 : decode cX1_digestOfWheel 12 = .ok (.lload 4, 2) := by decide +kernel
theorem dX1_digestOfWheel_14 : decode cX1_digestOfWheel 14 = .ok (.aload_n 0, 1) := by decide +kernel
theorem dX1_digestOfWheel_15 : decode cX1_digestOfWheel 15 = .ok (.iload_n 1, 1) := by decide +kernel
theorem dX1_digestOfWheel_16 : decode cX1_digestOfWheel 16 = .ok (.iload 6, 2) := by decide +kernel
theorem dX1_digestOfWheel_18 : decode cX1_digestOfWheel 18 = .ok (.invokevirtual 152, 3) := by decide +kernel
theorem dX1_digestOfWheel_21 : decode cX1_digestOfWheel 21 = .ok (.i2l, 1) := by decide +kernel
theorem dX1_digestOfWheel_22 : decode cX1_digestOfWheel 22 = .ok (.invokestatic 224, 3) := by decide +kernel
theorem dX1_digestOfWheel_25 : decode cX1_digestOfWheel 25 = .ok (.lstore 4, 2) := by decide +kernel
theorem dX1_digestOfWheel_27 : decode cX1_digestOfWheel 27 = .ok (.iinc 6 1, 3) := by decide +kernel
theorem dX1_digestOfWheel_30 : decode cX1_digestOfWheel 30 = .ok (.goto (-24), 3) := by decide +kernel
theorem dX1_digestOfWheel_33 : decode cX1_digestOfWheel 33 = .ok (.lload 4, 2) := by decide +kernel
theorem dX1_digestOfWheel_35 : decode cX1_digestOfWheel 35 = .ok (.aload_n 0, 1) := by decide +kernel
theorem dX1_digestOfWheel_36 : decode cX1_digestOfWheel 36 = .ok (.iload_n 1, 1) := by decide +kernel
theorem dX1_digestOfWheel_37 : decode cX1_digestOfWheel 37 = .ok (.iconst 2, 1) := by decide +kernel
theorem dX1_digestOfWheel_38 : decode cX1_digestOfWheel 38 = .ok (.invokevirtual 186, 3) := by decide +kernel
theorem dX1_digestOfWheel_41 : decode cX1_digestOfWheel 41 = .ok (.i2l, 1) := by decide +kernel
theorem dX1_digestOfWheel_42 : decode cX1_digestOfWheel 42 = .ok (.invokestatic 224, 3) := by decide +kernel
theorem dX1_digestOfWheel_45 : decode cX1_digestOfWheel 45 = .ok (.lstore 4, 2) := by decide +kernel
theorem dX1_digestOfWheel_47 : decode cX1_digestOfWheel 47 = .ok (.lload 4, 2) := by decide +kernel
theorem dX1_digestOfWheel_49 : decode cX1_digestOfWheel 49 = .ok (.aload_n 0, 1) := by decide +kernel
theorem dX1_digestOfWheel_50 : decode cX1_digestOfWheel 50 = .ok (.iload_n 1, 1) := by decide +kernel
theorem dX1_digestOfWheel_51 : decode cX1_digestOfWheel 51 = .ok (.iconst 3, 1) := by decide +kernel
theorem dX1_digestOfWheel_52 : decode cX1_digestOfWheel 52 = .ok (.invokevirtual 186, 3) := by decide +kernel
theorem dX1_digestOfWheel_55 : decode cX1_digestOfWheel 55 = .ok (.i2l, 1) := by decide +kernel
theorem dX1_digestOfWheel_56 : decode cX1_digestOfWheel 56 = .ok (.invokestatic 224, 3) := by decide +kernel
theorem dX1_digestOfWheel_59 : decode cX1_digestOfWheel 59 = .ok (.lstore 4, 2) := by decide +kernel
theorem dX1_digestOfWheel_61 : decode cX1_digestOfWheel 61 = .ok (.iconst 0, 1) := by decide +kernel
theorem dX1_digestOfWheel_62 : decode cX1_digestOfWheel 62 = .ok (.istore 6, 2) := by decide +kernel
theorem dX1_digestOfWheel_64 : decode cX1_digestOfWheel 64 = .ok (.iload 6, 2) := by decide +kernel
theorem dX1_digestOfWheel_66 : decode cX1_digestOfWheel 66 = .ok (.iconst 4, 1) := by decide +kernel
theorem dX1_digestOfWheel_67 : decode cX1_digestOfWheel 67 = .ok (.if_icmp .ge 24, 3) := by decide +kernel
theorem dX1_digestOfWheel_70 : decode cX1_digestOfWheel 70 = .ok (.lload 4, 2) := by decide +kernel
theorem dX1_digestOfWheel_72 : decode cX1_digestOfWheel 72 = .ok (.aload_n 0, 1) := by decide +kernel
theorem dX1_digestOfWheel_73 : decode cX1_digestOfWheel 73 = .ok (.iload_n 1, 1) := by decide +kernel
theorem dX1_digestOfWheel_74 : decode cX1_digestOfWheel 74 = .ok (.iload 6, 2) := by decide +kernel
theorem dX1_digestOfWheel_76 : decode cX1_digestOfWheel 76 = .ok (.invokevirtual 195, 3) := by decide +kernel
theorem dX1_digestOfWheel_79 : decode cX1_digestOfWheel 79 = .ok (.i2l, 1) := by decide +kernel
theorem dX1_digestOfWheel_80 : decode cX1_digestOfWheel 80 = .ok (.invokestatic 224, 3) := by decide +kernel
theorem dX1_digestOfWheel_83 : decode cX1_digestOfWheel 83 = .ok (.lstore 4, 2) := by decide +kernel
theorem dX1_digestOfWheel_85 : decode cX1_digestOfWheel 85 = .ok (.iinc 6 1, 3) := by decide +kernel
theorem dX1_digestOfWheel_88 : decode cX1_digestOfWheel 88 = .ok (.goto (-24), 3) := by decide +kernel
theorem dX1_digestOfWheel_91 : decode cX1_digestOfWheel 91 = .ok (.lload 4, 2) := by decide +kernel
theorem dX1_digestOfWheel_93 : decode cX1_digestOfWheel 93 = .ok (.lreturn, 1) := by decide +kernel
theorem dX2_init_0 : decode cX2_init 0 = .ok (.aload_n 0, 1) := by decide +kernel
theorem dX2_init_1 : decode cX2_init 1 = .ok (.invokespecial 1, 3) := by decide +kernel
theorem dX2_init_4 : decode cX2_init 4 = .ok (.return_, 1) := by decide +kernel
end
section
theorem dX3_init_0 : decode cX3_init 0 = .ok (.aload_n 0, 1) := by decide +kernel
theorem dX3_init_1 : decode cX3_init 1 = .ok (.invokespecial 3, 3) := by decide +kernel
theorem dX3_init_4 : decode cX3_init 4 = .ok (.aload_n 0, 1) := by decide +kernel
theorem dX3_init_5 : decode cX3_init 5 = .ok (.iconst 4, 1) := by decide +kernel
theorem dX3_init_6 : decode cX3_init 6 = .ok (.newarray .int, 2) := by decide +kernel
theorem dX3_init_8 : decode cX3_init 8 = .ok (.putfield 9, 3) := by decide +kernel
theorem dX3_init_11 : decode cX3_init 11 = .ok (.aload_n 0, 1) := by decide +kernel
theorem dX3_init_12 : decode cX3_init 12 = .ok (.iconst 4, 1) := by decide +kernel
theorem dX3_init_13 : decode cX3_init 13 = .ok (.newarray .int, 2) := by decide +kernel
theorem dX3_init_15 : decode cX3_init 15 = .ok (.putfield 15, 3) := by decide +kernel
theorem dX3_init_18 : decode cX3_init 18 = .ok (.aload_n 0, 1) := by decide +kernel
theorem dX3_init_19 : decode cX3_init 19 = .ok (.iconst 3, 1) := by decide +kernel
theorem dX3_init_20 : decode cX3_init 20 = .ok (.newarray .int, 2) := by decide +kernel
theorem dX3_init_22 : decode cX3_init 22 = .ok (.putfield 18, 3) := by decide +kernel
theorem dX3_init_25 : decode cX3_init 25 = .ok (.aload_n 0, 1) := by decide +kernel
theorem dX3_init_26 : decode cX3_init 26 = .ok (.iconst 3, 1) := by decide +kernel
theorem dX3_init_27 : decode cX3_init 27 = .ok (.newarray .int, 2) := by decide +kernel
theorem dX3_init_29 : decode cX3_init 29 = .ok (.dup, 1) := by decide +kernel
theorem dX3_init_30 : decode cX3_init 30 = .ok (.iconst 0, 1) := by decide +kernel
theorem dX3_init_31 : decode cX3_init 31 = .ok (.iconst 1, 1) := by decide +kernel
theorem dX3_init_32 : decode cX3_init 32 = .ok (.iastore, 1) := by decide +kernel
theorem dX3_init_33 : decode cX3_init 33 = .ok (.dup, 1) := by decide +kernel
theorem dX3_init_34 : decode cX3_init 34 = .ok (.iconst 1, 1) := by decide +kernel
theorem dX3_init_35 : decode cX3_init 35 = .ok (.iconst 1, 1) := by decide +kernel
theorem dX3_init_36 : decode cX3_init 36 = .ok (.iastore, 1) := by decide +kernel
theorem dX3_init_37 : decode cX3_init 37 = .ok (.dup, 1) := by decide +kernel
theorem dX3_init_38 : decode cX3_init 38 = .ok (.iconst 2, 1) := by decide +kernel
theorem dX3_init_39 : decode cX3_init 39 = .ok (.iconst 1, 1) := by decide +kernel
theorem dX3_init_40 : decode cX3_init 40 = .ok (.iastore, 1) := by decide +kernel
theorem dX3_init_41 : decode cX3_init 41 = .ok (.putfield 21, 3) := by decide +kernel
theorem dX3_init_44 : decode cX3_init 44 = .ok (.aload_n 0, 1) := by decide +kernel
theorem dX3_init_45 : decode cX3_init 45 = .ok (.iconst 3, 1) := by decide +kernel
theorem dX3_init_46 : decode cX3_init 46 = .ok (.newarray .int, 2) := by decide +kernel
theorem dX3_init_48 : decode cX3_init 48 = .ok (.putfield 24, 3) := by decide +kernel
theorem dX3_init_51 : decode cX3_init 51 = .ok (.aload_n 0, 1) := by decide +kernel
theorem dX3_init_52 : decode cX3_init 52 = .ok (.iconst 4, 1) := by decide +kernel
theorem dX3_init_53 : decode cX3_init 53 = .ok (.newarray .int, 2) := by decide +kernel
theorem dX3_init_55 : decode cX3_init 55 = .ok (.putfield 27, 3) := by decide +kernel
theorem dX3_init_58 : decode cX3_init 58 = .ok (.return_, 1) := by decide +kernel
theorem dX3_thrown_0 : decode cX3_thrown 0 = .ok (.aload_n 0, 1) := by decide +kernel
theorem dX3_thrown_1 : decode cX3_thrown 1 = .ok (.getfield 30, 3) := by decide +kernel
theorem dX3_thrown_4 : decode cX3_thrown 4 = .ok (.ireturn, 1) := by decide +kernel
theorem dX3_refuse_0 : decode cX3_refuse 0 = .ok (.aload_n 0, 1) := by decide +kernel
theorem dX3_refuse_1 : decode cX3_refuse 1 = .ok (.iload_n 1, 1) := by decide +kernel
theorem dX3_refuse_2 : decode cX3_refuse 2 = .ok (.ifCond .eq 7, 3) := by decide +kernel
theorem dX3_refuse_5 : decode cX3_refuse 5 = .ok (.iconst 1, 1) := by decide +kernel
theorem dX3_refuse_6 : decode cX3_refuse 6 = .ok (.goto 12, 3) := by decide +kernel
theorem dX3_refuse_9 : decode cX3_refuse 9 = .ok (.iload_n 2, 1) := by decide +kernel
theorem dX3_refuse_10 : decode cX3_refuse 10 = .ok (.ifCond .eq 7, 3) := by decide +kernel
theorem dX3_refuse_13 : decode cX3_refuse 13 = .ok (.iconst 2, 1) := by decide +kernel
theorem dX3_refuse_14 : decode cX3_refuse 14 = .ok (.goto 4, 3) := by decide +kernel
theorem dX3_refuse_17 : decode cX3_refuse 17 = .ok (.iconst 0, 1) := by decide +kernel
theorem dX3_refuse_18 : decode cX3_refuse 18 = .ok (.putfield 30, 3) := by decide +kernel
theorem dX3_refuse_21 : decode cX3_refuse 21 = .ok (.aload_n 0, 1) := by decide +kernel
theorem dX3_refuse_22 : decode cX3_refuse 22 = .ok (.getfield 30, 3) := by decide +kernel
theorem dX3_refuse_25 : decode cX3_refuse 25 = .ok (.ifCond .le 7, 3) := by decide +kernel
theorem dX3_refuse_28 : decode cX3_refuse 28 = .ok (.iconst 1, 1) := by decide +kernel
theorem dX3_refuse_29 : decode cX3_refuse 29 = .ok (.goto 4, 3) := by decide +kernel
theorem dX3_refuse_32 : decode cX3_refuse 32 = .ok (.iconst 0, 1) := by decide +kernel
theorem dX3_refuse_33 : decode cX3_refuse 33 = .ok (.ireturn, 1) := by decide +kernel
theorem dX3_isOut_0 : decode cX3_isOut 0 = .ok (.iload_n 0, 1) := by decide +kernel
theorem dX3_isOut_1 : decode cX3_isOut 1 = .ok (.iload_n 1, 1) := by decide +kernel
theorem dX3_isOut_2 : decode cX3_isOut 2 = .ok (.if_icmp .lt 8, 3) := by decide +kernel
theorem dX3_isOut_5 : decode cX3_isOut 5 = .ok (.iload_n 0, 1) := by decide +kernel
theorem dX3_isOut_6 : decode cX3_isOut 6 = .ok (.iload_n 2, 1) := by decide +kernel
theorem dX3_isOut_7 : decode cX3_isOut 7 = .ok (.if_icmp .le 7, 3) := by decide +kernel
theorem dX3_isOut_10 : decode cX3_isOut 10 = .ok (.iconst 1, 1) := by decide +kernel
theorem dX3_isOut_11 : decode cX3_isOut 11 = .ok (.goto 4, 3) := by decide +kernel
theorem dX3_isOut_14 : decode cX3_isOut 14 = .ok (.iconst 0, 1) := by decide +kernel
theorem dX3_isOut_15 : decode cX3_isOut 15 = .ok (.ireturn, 1) := by decide +kernel
theorem dX3_isNoCell_0 : decode cX3_isNoCell 0 = .ok (.iload_n 0, 1) := by decide +kernel
theorem dX3_isNoCell_1 : decode cX3_isNoCell 1 = .ok (.iconst 0, 1) := by decide +kernel
theorem dX3_isNoCell_2 : decode cX3_isNoCell 2 = .ok (.iconst 3, 1) := by decide +kernel
theorem dX3_isNoCell_3 : decode cX3_isNoCell 3 = .ok (.invokestatic 34, 3) := by decide +kernel
theorem dX3_isNoCell_6 : decode cX3_isNoCell 6 = .ok (.ireturn, 1) := by decide +kernel
theorem dX3_isNoWheel_0 : decode cX3_isNoWheel 0 = .ok (.iload_n 0, 1) := by decide +kernel
theorem dX3_isNoWheel_1 : decode cX3_isNoWheel 1 = .ok (.iconst 0, 1) := by decide +kernel
theorem dX3_isNoWheel_2 : decode cX3_isNoWheel 2 = .ok (.iconst 2, 1) := by decide +kernel
theorem dX3_isNoWheel_3 : decode cX3_isNoWheel 3 = .ok (.invokestatic 34, 3) := by decide +kernel
theorem dX3_isNoWheel_6 : decode cX3_isNoWheel 6 = .ok (.ireturn, 1) := by decide +kernel
theorem dX3_isNoCut_0 : decode cX3_isNoCut 0 = .ok (.iload_n 0, 1) := by decide +kernel
theorem dX3_isNoCut_1 : decode cX3_isNoCut 1 = .ok (.iconst 0, 1) := by decide +kernel
theorem dX3_isNoCut_2 : decode cX3_isNoCut 2 = .ok (.iload_n 2, 1) := by decide +kernel
theorem dX3_isNoCut_3 : decode cX3_isNoCut 3 = .ok (.invokestatic 34, 3) := by decide +kernel
theorem dX3_isNoCut_6 : decode cX3_isNoCut 6 = .ok (.ifCond .ne 13, 3) := by decide +kernel
theorem dX3_isNoCut_9 : decode cX3_isNoCut 9 = .ok (.iload_n 1, 1) := by decide +kernel
theorem dX3_isNoCut_10 : decode cX3_isNoCut 10 = .ok (.iconst 0, 1) := by decide +kernel
theorem dX3_isNoCut_11 : decode cX3_isNoCut 11 = .ok (.bipush 7, 2) := by decide +kernel
theorem dX3_isNoCut_13 : decode cX3_isNoCut 13 = .ok (.invokestatic 34, 3) := by decide +kernel
theorem dX3_isNoCut_16 : decode cX3_isNoCut 16 = .ok (.ifCond .eq 7, 3) := by decide +kernel
theorem dX3_isNoCut_19 : decode cX3_isNoCut 19 = .ok (.iconst 1, 1) := by decide +kernel
theorem dX3_isNoCut_20 : decode cX3_isNoCut 20 = .ok (.goto 4, 3) := by decide +kernel
theorem dX3_isNoCut_23 : decode cX3_isNoCut 23 = .ok (.iconst 0, 1) := by decide +kernel
theorem dX3_isNoCut_24 : decode cX3_isNoCut 24 = .ok (.ireturn, 1) := by decide +kernel
theorem dX3_isNoBottom_0 : decode cX3_isNoBottom 0 = .ok (.iload_n 0, 1) := by decide +kernel
theorem dX3_isNoBottom_1 : decode cX3_isNoBottom 1 = .ok (.iconst 1, 1) := by decide +kernel
theorem dX3_isNoBottom_2 : decode cX3_isNoBottom 2 = .ok (.bipush 99, 2) := by decide +kernel
theorem dX3_isNoBottom_4 : decode cX3_isNoBottom 4 = .ok (.invokestatic 34, 3) := by decide +kernel
theorem dX3_isNoBottom_7 : decode cX3_isNoBottom 7 = .ok (.ifCond .ne 15, 3) := by decide +kernel
theorem dX3_isNoBottom_10 : decode cX3_isNoBottom 10 = .ok (.iload_n 0, 1) := by decide +kernel
theorem dX3_isNoBottom_11 : decode cX3_isNoBottom 11 = .ok (.iconst 2, 1) := by decide +kernel
theorem dX3_isNoBottom_12 : decode cX3_isNoBottom 12 = .ok (.irem, 1) := by decide +kernel
theorem dX3_isNoBottom_13 : decode cX3_isNoBottom 13 = .ok (.ifCond .eq 9, 3) := by decide +kernel
theorem dX3_isNoBottom_16 : decode cX3_isNoBottom 16 = .ok (.iload_n 0, 1) := by decide +kernel
theorem dX3_isNoBottom_17 : decode cX3_isNoBottom 17 = .ok (.iconst 5, 1) := by decide +kernel
theorem dX3_isNoBottom_18 : decode cX3_isNoBottom 18 = .ok (.irem, 1) := by decide +kernel
theorem dX3_isNoBottom_19 : decode cX3_isNoBottom 19 = .ok (.ifCond .ne 7, 3) := by decide +kernel
theorem dX3_isNoBottom_22 : decode cX3_isNoBottom 22 = .ok (.iconst 1, 1) := by decide +kernel
theorem dX3_isNoBottom_23 : decode cX3_isNoBottom 23 = .ok (.goto 4, 3) := by decide +kernel
theorem dX3_isNoBottom_26 : decode cX3_isNoBottom 26 = .ok (.iconst 0, 1) := by decide +kernel
theorem dX3_isNoBottom_27 : decode cX3_isNoBottom 27 = .ok (.ireturn, 1) := by decide +kernel
theorem dX3_ten_0 : decode cX3_ten 0 = .ok (.lconst 1, 1) := by decide +kernel
theorem dX3_ten_1 : decode cX3_ten 1 = .ok (.lstore_n 1, 1) := by decide +kernel
theorem dX3_ten_2 : decode cX3_ten 2 = .ok (.iconst 0, 1) := by decide +kernel
theorem dX3_ten_3 : decode cX3_ten 3 = .ok (.istore_n 3, 1) := by decide +kernel
theorem dX3_ten_4 : decode cX3_ten 4 = .ok (.iload_n 3, 1) := by decide +kernel
theorem dX3_ten_5 : decode cX3_ten 5 = .ok (.iload_n 0, 1) := by decide +kernel
theorem dX3_ten_6 : decode cX3_ten 6 = .ok (.if_icmp .ge 15, 3) := by decide +kernel
theorem dX3_ten_9 : decode cX3_ten 9 = .ok (.lload_n 1, 1) := by decide +kernel
theorem dX3_ten_10 : decode cX3_ten 10 = .ok (.ldc2_w 38, 3) := by decide +kernel
theorem dX3_ten_13 : decode cX3_ten 13 = .ok (.lmul, 1) := by decide +kernel
theorem dX3_ten_14 : decode cX3_ten 14 = .ok (.lstore_n 1, 1) := by decide +kernel
theorem dX3_ten_15 : decode cX3_ten 15 = .ok (.iinc 3 1, 3) := by decide +kernel
theorem dX3_ten_18 : decode cX3_ten 18 = .ok (.goto (-14), 3) := by decide +kernel
theorem dX3_ten_21 : decode cX3_ten 21 = .ok (.lload_n 1, 1) := by decide +kernel
theorem dX3_ten_22 : decode cX3_ten 22 = .ok (.lreturn, 1) := by decide +kernel
theorem dX3_side_0 : decode cX3_side 0 = .ok (.lload_n 0, 1) := by decide +kernel
theorem dX3_side_1 : decode cX3_side 1 = .ok (.lload_n 2, 1) := by decide +kernel
theorem dX3_side_2 : decode cX3_side 2 = .ok (.lcmp, 1) := by decide +kernel
theorem dX3_side_3 : decode cX3_side 3 = .ok (.ifCond .ge 7, 3) := by decide +kernel
theorem dX3_side_6 : decode cX3_side 6 = .ok (.iconst (-1), 1) := by decide +kernel
theorem dX3_side_7 : decode cX3_side 7 = .ok (.goto 14, 3) := by decide +kernel
theorem dX3_side_10 : decode cX3_side 10 = .ok (.lload_n 0, 1) := by decide +kernel
theorem dX3_side_11 : decode cX3_side 11 = .ok (.lload_n 2, 1) := by decide +kernel
theorem dX3_side_12 : decode cX3_side 12 = .ok (.lcmp, 1) := by decide +kernel
theorem dX3_side_13 : decode cX3_side 13 = .ok (.ifCond .le 7, 3) := by decide +kernel
theorem dX3_side_16 : decode cX3_side 16 = .ok (.iconst 1, 1) := by decide +kernel
theorem dX3_side_17 : decode cX3_side 17 = .ok (.goto 4, 3) := by decide +kernel
theorem dX3_side_20 : decode cX3_side 20 = .ok (.iconst 0, 1) := by decide +kernel
theorem dX3_side_21 : decode cX3_side 21 = .ok (.ireturn, 1) := by decide +kernel
theorem dX3_sizeOf_0 : decode cX3_sizeOf 0 = .ok (.lload_n 0, 1) := by decide +kernel
theorem dX3_sizeOf_1 : decode cX3_sizeOf 1 = .ok (.lconst 0, 1) := by decide +kernel
theorem dX3_sizeOf_2 : decode cX3_sizeOf 2 = .ok (.lcmp, 1) := by decide +kernel
theorem dX3_sizeOf_3 : decode cX3_sizeOf 3 = .ok (.ifCond .ge 8, 3) := by decide +kernel
theorem dX3_sizeOf_6 : decode cX3_sizeOf 6 = .ok (.lload_n 0, 1) := by decide +kernel
theorem dX3_sizeOf_7 : decode cX3_sizeOf 7 = .ok (.lneg, 1) := by decide +kernel
theorem dX3_sizeOf_8 : decode cX3_sizeOf 8 = .ok (.goto 4, 3) := by decide +kernel
theorem dX3_sizeOf_11 : decode cX3_sizeOf 11 = .ok (.lload_n 0, 1) := by decide +kernel
theorem dX3_sizeOf_12 : decode cX3_sizeOf 12 = .ok (.lreturn, 1) := by decide +kernel
theorem dX3_digitsOf_0 : decode cX3_digitsOf 0 = .ok (.iconst 1, 1) := by decide +kernel
theorem dX3_digitsOf_1 : decode cX3_digitsOf 1 = .ok (.istore_n 2, 1) := by decide +kernel
theorem dX3_digitsOf_2 : decode cX3_digitsOf 2 = .ok (.lload_n 0, 1) := by decide +kernel
theorem dX3_digitsOf_3 : decode cX3_digitsOf 3 = .ok (.invokestatic 40, 3) := by decide +kernel
theorem dX3_digitsOf_6 : decode cX3_digitsOf 6 = .ok (.ldc2_w 38, 3) := by decide +kernel
theorem dX3_digitsOf_9 : decode cX3_digitsOf 9 = .ok (.ldiv, 1) := by decide +kernel
theorem dX3_digitsOf_10 : decode cX3_digitsOf 10 = .ok (.lstore_n 3, 1) := by decide +kernel
theorem dX3_digitsOf_11 : decode cX3_digitsOf 11 = .ok (.lload_n 3, 1) := by decide +kernel
theorem dX3_digitsOf_12 : decode cX3_digitsOf 12 = .ok (.lconst 0, 1) := by decide +kernel
theorem dX3_digitsOf_13 : decode cX3_digitsOf 13 = .ok (.lcmp, 1) := by decide +kernel
theorem dX3_digitsOf_14 : decode cX3_digitsOf 14 = .ok (.ifCond .le 15, 3) := by decide +kernel
theorem dX3_digitsOf_17 : decode cX3_digitsOf 17 = .ok (.iinc 2 1, 3) := by decide +kernel
theorem dX3_digitsOf_20 : decode cX3_digitsOf 20 = .ok (.lload_n 3, 1) := by decide +kernel
theorem dX3_digitsOf_21 : decode cX3_digitsOf 21 = .ok (.ldc2_w 38, 3) := by decide +kernel
theorem dX3_digitsOf_24 : decode cX3_digitsOf 24 = .ok (.ldiv, 1) := by decide +kernel
theorem dX3_digitsOf_25 : decode cX3_digitsOf 25 = .ok (.lstore_n 3, 1) := by decide +kernel
theorem dX3_digitsOf_26 : decode cX3_digitsOf 26 = .ok (.goto (-15), 3) := by decide +kernel
theorem dX3_digitsOf_29 : decode cX3_digitsOf 29 = .ok (.iload_n 2, 1) := by decide +kernel
theorem dX3_digitsOf_30 : decode cX3_digitsOf 30 = .ok (.ireturn, 1) := by decide +kernel
theorem dX3_rounded_0 : decode cX3_rounded 0 = .ok (.lload_n 0, 1) := by decide +kernel
theorem dX3_rounded_1 : decode cX3_rounded 1 = .ok (.lload_n 2, 1) := by decide +kernel
theorem dX3_rounded_2 : decode cX3_rounded 2 = .ok (.ldiv, 1) := by decide +kernel
theorem dX3_rounded_3 : decode cX3_rounded 3 = .ok (.lstore 5, 2) := by decide +kernel
theorem dX3_rounded_5 : decode cX3_rounded 5 = .ok (.lload 5, 2) := by decide +kernel
theorem dX3_rounded_7 : decode cX3_rounded 7 = .ok (.lload_n 2, 1) := by decide +kernel
theorem dX3_rounded_8 : decode cX3_rounded 8 = .ok (.lmul, 1) := by decide +kernel
theorem dX3_rounded_9 : decode cX3_rounded 9 = .ok (.lload_n 0, 1) := by decide +kernel
theorem dX3_rounded_10 : decode cX3_rounded 10 = .ok (.lcmp, 1) := by decide +kernel
theorem dX3_rounded_11 : decode cX3_rounded 11 = .ok (.ifCond .le 9, 3) := by decide +kernel
theorem dX3_rounded_14 : decode cX3_rounded 14 = .ok (.lload 5, 2) := by decide +kernel
theorem dX3_rounded_16 : decode cX3_rounded 16 = .ok (.lconst 1, 1) := by decide +kernel
theorem dX3_rounded_17 : decode cX3_rounded 17 = .ok (.lsub, 1) := by decide +kernel
theorem dX3_rounded_18 : decode cX3_rounded 18 = .ok (.lstore 5, 2) := by decide +kernel
theorem dX3_rounded_20 : decode cX3_rounded 20 = .ok (.lload 5, 2) := by decide +kernel
theorem dX3_rounded_22 : decode cX3_rounded 22 = .ok (.lload_n 2, 1) := by decide +kernel
theorem dX3_rounded_23 : decode cX3_rounded 23 = .ok (.lmul, 1) := by decide +kernel
theorem dX3_rounded_24 : decode cX3_rounded 24 = .ok (.lload_n 0, 1) := by decide +kernel
theorem dX3_rounded_25 : decode cX3_rounded 25 = .ok (.lcmp, 1) := by decide +kernel
theorem dX3_rounded_26 : decode cX3_rounded 26 = .ok (.ifCond .ne 6, 3) := by decide +kernel
theorem dX3_rounded_29 : decode cX3_rounded 29 = .ok (.lload 5, 2) := by decide +kernel
theorem dX3_rounded_31 : decode cX3_rounded 31 = .ok (.lreturn, 1) := by decide +kernel
theorem dX3_rounded_32 : decode cX3_rounded 32 = .ok (.lload_n 0, 1) := by decide +kernel
theorem dX3_rounded_33 : decode cX3_rounded 33 = .ok (.lconst 0, 1) := by decide +kernel
theorem dX3_rounded_34 : decode cX3_rounded 34 = .ok (.lcmp, 1) := by decide +kernel
theorem dX3_rounded_35 : decode cX3_rounded 35 = .ok (.ifCond .le 10, 3) := by decide +kernel
theorem dX3_rounded_38 : decode cX3_rounded 38 = .ok (.lload 5, 2) := by decide +kernel
theorem dX3_rounded_40 : decode cX3_rounded 40 = .ok (.lconst 1, 1) := by decide +kernel
theorem dX3_rounded_41 : decode cX3_rounded 41 = .ok (.ladd, 1) := by decide +kernel
theorem dX3_rounded_42 : decode cX3_rounded 42 = .ok (.goto 5, 3) := by decide +kernel
theorem dX3_rounded_45 : decode cX3_rounded 45 = .ok (.lload 5, 2) := by decide +kernel
theorem dX3_rounded_47 : decode cX3_rounded 47 = .ok (.lstore 7, 2) := by decide +kernel
theorem dX3_rounded_49 : decode cX3_rounded 49 = .ok (.lload_n 0, 1) := by decide +kernel
theorem dX3_rounded_50 : decode cX3_rounded 50 = .ok (.lconst 0, 1) := by decide +kernel
theorem dX3_rounded_51 : decode cX3_rounded 51 = .ok (.lcmp, 1) := by decide +kernel
theorem dX3_rounded_52 : decode cX3_rounded 52 = .ok (.ifCond .le 8, 3) := by decide +kernel
theorem dX3_rounded_55 : decode cX3_rounded 55 = .ok (.lload 5, 2) := by decide +kernel
theorem dX3_rounded_57 : decode cX3_rounded 57 = .ok (.goto 7, 3) := by decide +kernel
theorem dX3_rounded_60 : decode cX3_rounded 60 = .ok (.lload 5, 2) := by decide +kernel
theorem dX3_rounded_62 : decode cX3_rounded 62 = .ok (.lconst 1, 1) := by decide +kernel
theorem dX3_rounded_63 : decode cX3_rounded 63 = .ok (.ladd, 1) := by decide +kernel
theorem dX3_rounded_64 : decode cX3_rounded 64 = .ok (.lstore 9, 2) := by decide +kernel
theorem dX3_rounded_66 : decode cX3_rounded 66 = .ok (.iload 4, 2) := by decide +kernel
theorem dX3_rounded_68 : decode cX3_rounded 68 = .ok (.bipush 7, 2) := by decide +kernel
theorem dX3_rounded_70 : decode cX3_rounded 70 = .ok (.if_icmp .ne 7, 3) := by decide +kernel
theorem dX3_rounded_73 : decode cX3_rounded 73 = .ok (.ldc2_w 44, 3) := by decide +kernel
theorem dX3_rounded_76 : decode cX3_rounded 76 = .ok (.lreturn, 1) := by decide +kernel
theorem dX3_rounded_77 : decode cX3_rounded 77 = .ok (.iload 4, 2) := by decide +kernel
theorem dX3_rounded_79 : decode cX3_rounded 79 = .ok (.ifCond .ne 6, 3) := by decide +kernel
theorem dX3_rounded_82 : decode cX3_rounded 82 = .ok (.lload 7, 2) := by decide +kernel
theorem dX3_rounded_84 : decode cX3_rounded 84 = .ok (.lreturn, 1) := by decide +kernel
theorem dX3_rounded_85 : decode cX3_rounded 85 = .ok (.iload 4, 2) := by decide +kernel
theorem dX3_rounded_87 : decode cX3_rounded 87 = .ok (.iconst 1, 1) := by decide +kernel
theorem dX3_rounded_88 : decode cX3_rounded 88 = .ok (.if_icmp .ne 6, 3) := by decide +kernel
theorem dX3_rounded_91 : decode cX3_rounded 91 = .ok (.lload 9, 2) := by decide +kernel
theorem dX3_rounded_93 : decode cX3_rounded 93 = .ok (.lreturn, 1) := by decide +kernel
theorem dX3_rounded_94 : decode cX3_rounded 94 = .ok (.iload 4, 2) := by decide +kernel
theorem dX3_rounded_96 : decode cX3_rounded 96 = .ok (.iconst 2, 1) := by decide +kernel
theorem dX3_rounded_97 : decode cX3_rounded 97 = .ok (.if_icmp .ne 8, 3) := by decide +kernel
theorem dX3_rounded_100 : decode cX3_rounded 100 = .ok (.lload 5, 2) := by decide +kernel
theorem dX3_rounded_102 : decode cX3_rounded 102 = .ok (.lconst 1, 1) := by decide +kernel
theorem dX3_rounded_103 : decode cX3_rounded 103 = .ok (.ladd, 1) := by decide +kernel
theorem dX3_rounded_104 : decode cX3_rounded 104 = .ok (.lreturn, 1) := by decide +kernel
theorem dX3_rounded_105 : decode cX3_rounded 105 = .ok (.iload 4, 2) := by decide +kernel
theorem dX3_rounded_107 : decode cX3_rounded 107 = .ok (.iconst 3, 1) := by decide +kernel
theorem dX3_rounded_108 : decode cX3_rounded 108 = .ok (.if_icmp .ne 6, 3) := by decide +kernel
theorem dX3_rounded_111 : decode cX3_rounded 111 = .ok (.lload 5, 2) := by decide +kernel
theorem dX3_rounded_113 : decode cX3_rounded 113 = .ok (.lreturn, 1) := by decide +kernel
theorem dX3_rounded_114 : decode cX3_rounded 114 = .ok (.ldc2_w 46, 3) := by decide +kernel
theorem dX3_rounded_117 : decode cX3_rounded 117 = .ok (.lload_n 0, 1) := by decide +kernel
theorem dX3_rounded_118 : decode cX3_rounded 118 = .ok (.lload 5, 2) := by decide +kernel
theorem dX3_rounded_120 : decode cX3_rounded 120 = .ok (.lload_n 2, 1) := by decide +kernel
theorem dX3_rounded_121 : decode cX3_rounded 121 = .ok (.lmul, 1) := by decide +kernel
theorem dX3_rounded_122 : decode cX3_rounded 122 = .ok (.lsub, 1) := by decide +kernel
theorem dX3_rounded_123 : decode cX3_rounded 123 = .ok (.lmul, 1) := by decide +kernel
theorem dX3_rounded_124 : decode cX3_rounded 124 = .ok (.lload_n 2, 1) := by decide +kernel
theorem dX3_rounded_125 : decode cX3_rounded 125 = .ok (.invokestatic 48, 3) := by decide +kernel
theorem dX3_rounded_128 : decode cX3_rounded 128 = .ok (.istore 11, 2) := by decide +kernel
theorem dX3_rounded_130 : decode cX3_rounded 130 = .ok (.iload 11, 2) := by decide +kernel
theorem dX3_rounded_132 : decode cX3_rounded 132 = .ok (.ifCond .ge 6, 3) := by decide +kernel
theorem dX3_rounded_135 : decode cX3_rounded 135 = .ok (.lload 5, 2) := by decide +kernel
theorem dX3_rounded_137 : decode cX3_rounded 137 = .ok (.lreturn, 1) := by decide +kernel
theorem dX3_rounded_138 : decode cX3_rounded 138 = .ok (.iload 11, 2) := by decide +kernel
theorem dX3_rounded_140 : decode cX3_rounded 140 = .ok (.ifCond .le 8, 3) := by decide +kernel
theorem dX3_rounded_143 : decode cX3_rounded 143 = .ok (.lload 5, 2) := by decide +kernel
theorem dX3_rounded_145 : decode cX3_rounded 145 = .ok (.lconst 1, 1) := by decide +kernel
theorem dX3_rounded_146 : decode cX3_rounded 146 = .ok (.ladd, 1) := by decide +kernel
theorem dX3_rounded_147 : decode cX3_rounded 147 = .ok (.lreturn, 1) := by decide +kernel
theorem dX3_rounded_148 : decode cX3_rounded 148 = .ok (.iload 4, 2) := by decide +kernel
theorem dX3_rounded_150 : decode cX3_rounded 150 = .ok (.iconst 4, 1) := by decide +kernel
theorem dX3_rounded_151 : decode cX3_rounded 151 = .ok (.if_icmp .ne 8, 3) := by decide +kernel
theorem dX3_rounded_154 : decode cX3_rounded 154 = .ok (.lload 7, 2) := by decide +kernel
theorem dX3_rounded_156 : decode cX3_rounded 156 = .ok (.goto 34, 3) := by decide +kernel
theorem dX3_rounded_159 : decode cX3_rounded 159 = .ok (.iload 4, 2) := by decide +kernel
theorem dX3_rounded_161 : decode cX3_rounded 161 = .ok (.iconst 5, 1) := by decide +kernel
theorem dX3_rounded_162 : decode cX3_rounded 162 = .ok (.if_icmp .ne 8, 3) := by decide +kernel
theorem dX3_rounded_165 : decode cX3_rounded 165 = .ok (.lload 9, 2) := by decide +kernel
theorem dX3_rounded_167 : decode cX3_rounded 167 = .ok (.goto 23, 3) := by decide +kernel
theorem dX3_rounded_170 : decode cX3_rounded 170 = .ok (.lload 5, 2) := by decide +kernel
theorem dX3_rounded_172 : decode cX3_rounded 172 = .ok (.ldc2_w 46, 3) := by decide +kernel
theorem dX3_rounded_175 : decode cX3_rounded 175 = .ok (.lrem, 1) := by decide +kernel
theorem dX3_rounded_176 : decode cX3_rounded 176 = .ok (.lconst 0, 1) := by decide +kernel
theorem dX3_rounded_177 : decode cX3_rounded 177 = .ok (.lcmp, 1) := by decide +kernel
theorem dX3_rounded_178 : decode cX3_rounded 178 = .ok (.ifCond .ne 8, 3) := by decide +kernel
theorem dX3_rounded_181 : decode cX3_rounded 181 = .ok (.lload 5, 2) := by decide +kernel
theorem dX3_rounded_183 : decode cX3_rounded 183 = .ok (.goto 7, 3) := by decide +kernel
theorem dX3_rounded_186 : decode cX3_rounded 186 = .ok (.lload 5, 2) := by decide +kernel
theorem dX3_rounded_188 : decode cX3_rounded 188 = .ok (.lconst 1, 1) := by decide +kernel
theorem dX3_rounded_189 : decode cX3_rounded 189 = .ok (.ladd, 1) := by decide +kernel
theorem dX3_rounded_190 : decode cX3_rounded 190 = .ok (.lreturn, 1) := by decide +kernel
theorem dX3_nay_0 : decode cX3_nay 0 = .ok (.aload_n 0, 1) := by decide +kernel
theorem dX3_nay_1 : decode cX3_nay 1 = .ok (.getfield 27, 3) := by decide +kernel
theorem dX3_nay_4 : decode cX3_nay 4 = .ok (.iconst 2, 1) := by decide +kernel
theorem dX3_nay_5 : decode cX3_nay 5 = .ok (.dup2, 1) := by decide +kernel
theorem dX3_nay_6 : decode cX3_nay 6 = .ok (.iaload, 1) := by decide +kernel
theorem dX3_nay_7 : decode cX3_nay 7 = .ok (.iconst 1, 1) := by decide +kernel
theorem dX3_nay_8 : decode cX3_nay 8 = .ok (.iadd, 1) := by decide +kernel
theorem dX3_nay_9 : decode cX3_nay 9 = .ok (.iastore, 1) := by decide +kernel
theorem dX3_nay_10 : decode cX3_nay 10 = .ok (.bipush (-9), 2) := by decide +kernel
theorem dX3_nay_12 : decode cX3_nay 12 = .ok (.ireturn, 1) := by decide +kernel
theorem dX3_come_0 : decode cX3_come 0 = .ok (.lload_n 2, 1) := by decide +kernel
theorem dX3_come_1 : decode cX3_come 1 = .ok (.ldc2_w 44, 3) := by decide +kernel
theorem dX3_come_4 : decode cX3_come 4 = .ok (.lcmp, 1) := by decide +kernel
theorem dX3_come_5 : decode cX3_come 5 = .ok (.ifCond .eq 20, 3) := by decide +kernel
theorem dX3_come_8 : decode cX3_come 8 = .ok (.lload_n 2, 1) := by decide +kernel
theorem dX3_come_9 : decode cX3_come 9 = .ok (.invokestatic 40, 3) := by decide +kernel
theorem dX3_come_12 : decode cX3_come 12 = .ok (.ldc2_w 52, 3) := by decide +kernel
theorem dX3_come_15 : decode cX3_come 15 = .ok (.lcmp, 1) := by decide +kernel
theorem dX3_come_16 : decode cX3_come 16 = .ok (.ifCond .gt 9, 3) := by decide +kernel
theorem dX3_come_19 : decode cX3_come 19 = .ok (.iload 4, 2) := by decide +kernel
theorem dX3_come_21 : decode cX3_come 21 = .ok (.iconst 3, 1) := by decide +kernel
theorem dX3_come_22 : decode cX3_come 22 = .ok (.if_icmp .le 8, 3) := by decide +kernel
theorem dX3_come_25 : decode cX3_come 25 = .ok (.aload_n 0, 1) := by decide +kernel
theorem dX3_come_26 : decode cX3_come 26 = .ok (.invokevirtual 54, 3) := by decide +kernel
theorem dX3_come_29 : decode cX3_come 29 = .ok (.ireturn, 1) := by decide +kernel
theorem dX3_come_30 : decode cX3_come 30 = .ok (.aload_n 0, 1) := by decide +kernel
theorem dX3_come_31 : decode cX3_come 31 = .ok (.getfield 9, 3) := by decide +kernel
theorem dX3_come_34 : decode cX3_come 34 = .ok (.iload_n 1, 1) := by decide +kernel
theorem dX3_come_35 : decode cX3_come 35 = .ok (.iaload, 1) := by decide +kernel
theorem dX3_come_36 : decode cX3_come 36 = .ok (.i2l, 1) := by decide +kernel
theorem dX3_come_37 : decode cX3_come 37 = .ok (.lload_n 2, 1) := by decide +kernel
theorem dX3_come_38 : decode cX3_come 38 = .ok (.lcmp, 1) := by decide +kernel
theorem dX3_come_39 : decode cX3_come 39 = .ok (.ifCond .ne 18, 3) := by decide +kernel
theorem dX3_come_42 : decode cX3_come 42 = .ok (.aload_n 0, 1) := by decide +kernel
theorem dX3_come_43 : decode cX3_come 43 = .ok (.getfield 15, 3) := by decide +kernel
theorem dX3_come_46 : decode cX3_come 46 = .ok (.iload_n 1, 1) := by decide +kernel
theorem dX3_come_47 : decode cX3_come 47 = .ok (.iaload, 1) := by decide +kernel
theorem dX3_come_48 : decode cX3_come 48 = .ok (.iload 4, 2) := by decide +kernel
theorem dX3_come_50 : decode cX3_come 50 = .ok (.if_icmp .ne 7, 3) := by decide +kernel
theorem dX3_come_53 : decode cX3_come 53 = .ok (.iconst 1, 1) := by decide +kernel
theorem dX3_come_54 : decode cX3_come 54 = .ok (.goto 4, 3) := by decide +kernel
theorem dX3_come_57 : decode cX3_come 57 = .ok (.iconst 0, 1) := by decide +kernel
theorem dX3_come_58 : decode cX3_come 58 = .ok (.istore 5, 2) := by decide +kernel
theorem dX3_come_60 : decode cX3_come 60 = .ok (.aload_n 0, 1) := by decide +kernel
theorem dX3_come_61 : decode cX3_come 61 = .ok (.getfield 9, 3) := by decide +kernel
theorem dX3_come_64 : decode cX3_come 64 = .ok (.iload_n 1, 1) := by decide +kernel
theorem dX3_come_65 : decode cX3_come 65 = .ok (.lload_n 2, 1) := by decide +kernel
theorem dX3_come_66 : decode cX3_come 66 = .ok (.l2i, 1) := by decide +kernel
theorem dX3_come_67 : decode cX3_come 67 = .ok (.iastore, 1) := by decide +kernel
theorem dX3_come_68 : decode cX3_come 68 = .ok (.aload_n 0, 1) := by decide +kernel
theorem dX3_come_69 : decode cX3_come 69 = .ok (.getfield 15, 3) := by decide +kernel
theorem dX3_come_72 : decode cX3_come 72 = .ok (.iload_n 1, 1) := by decide +kernel
theorem dX3_come_73 : decode cX3_come 73 = .ok (.iload 4, 2) := by decide +kernel
theorem dX3_come_75 : decode cX3_come 75 = .ok (.iastore, 1) := by decide +kernel
theorem dX3_come_76 : decode cX3_come 76 = .ok (.aload_n 0, 1) := by decide +kernel
theorem dX3_come_77 : decode cX3_come 77 = .ok (.getfield 27, 3) := by decide +kernel
theorem dX3_come_80 : decode cX3_come 80 = .ok (.iconst 0, 1) := by decide +kernel
theorem dX3_come_81 : decode cX3_come 81 = .ok (.dup2, 1) := by decide +kernel
theorem dX3_come_82 : decode cX3_come 82 = .ok (.iaload, 1) := by decide +kernel
theorem dX3_come_83 : decode cX3_come 83 = .ok (.iconst 1, 1) := by decide +kernel
theorem dX3_come_84 : decode cX3_come 84 = .ok (.iadd, 1) := by decide +kernel
theorem dX3_come_85 : decode cX3_come 85 = .ok (.iastore, 1) := by decide +kernel
theorem dX3_come_86 : decode cX3_come 86 = .ok (.iload 5, 2) := by decide +kernel
theorem dX3_come_88 : decode cX3_come 88 = .ok (.ifCond .eq 7, 3) := by decide +kernel
theorem dX3_come_91 : decode cX3_come 91 = .ok (.iconst 0, 1) := by decide +kernel
theorem dX3_come_92 : decode cX3_come 92 = .ok (.goto 4, 3) := by decide +kernel
theorem dX3_come_95 : decode cX3_come 95 = .ok (.iconst 1, 1) := by decide +kernel
theorem dX3_come_96 : decode cX3_come 96 = .ok (.ireturn, 1) := by decide +kernel
theorem dX3_units_0 : decode cX3_units 0 = .ok (.aload_n 0, 1) := by decide +kernel
theorem dX3_units_1 : decode cX3_units 1 = .ok (.getfield 9, 3) := by decide +kernel
theorem dX3_units_4 : decode cX3_units 4 = .ok (.iload_n 1, 1) := by decide +kernel
theorem dX3_units_5 : decode cX3_units 5 = .ok (.iaload, 1) := by decide +kernel
theorem dX3_units_6 : decode cX3_units 6 = .ok (.i2l, 1) := by decide +kernel
theorem dX3_units_7 : decode cX3_units 7 = .ok (.iload_n 2, 1) := by decide +kernel
theorem dX3_units_8 : decode cX3_units 8 = .ok (.aload_n 0, 1) := by decide +kernel
theorem dX3_units_9 : decode cX3_units 9 = .ok (.getfield 15, 3) := by decide +kernel
theorem dX3_units_12 : decode cX3_units 12 = .ok (.iload_n 1, 1) := by decide +kernel
theorem dX3_units_13 : decode cX3_units 13 = .ok (.iaload, 1) := by decide +kernel
theorem dX3_units_14 : decode cX3_units 14 = .ok (.isub, 1) := by decide +kernel
theorem dX3_units_15 : decode cX3_units 15 = .ok (.invokestatic 58, 3) := by decide +kernel
theorem dX3_units_18 : decode cX3_units 18 = .ok (.lmul, 1) := by decide +kernel
theorem dX3_units_19 : decode cX3_units 19 = .ok (.lreturn, 1) := by decide +kernel
theorem dX3_most_0 : decode cX3_most 0 = .ok (.aload_n 0, 1) := by decide +kernel
theorem dX3_most_1 : decode cX3_most 1 = .ok (.getfield 15, 3) := by decide +kernel
theorem dX3_most_4 : decode cX3_most 4 = .ok (.iload_n 1, 1) := by decide +kernel
theorem dX3_most_5 : decode cX3_most 5 = .ok (.iaload, 1) := by decide +kernel
theorem dX3_most_6 : decode cX3_most 6 = .ok (.aload_n 0, 1) := by decide +kernel
theorem dX3_most_7 : decode cX3_most 7 = .ok (.getfield 15, 3) := by decide +kernel
theorem dX3_most_10 : decode cX3_most 10 = .ok (.iload_n 2, 1) := by decide +kernel
theorem dX3_most_11 : decode cX3_most 11 = .ok (.iaload, 1) := by decide +kernel
theorem dX3_most_12 : decode cX3_most 12 = .ok (.if_icmp .le 12, 3) := by decide +kernel
theorem dX3_most_15 : decode cX3_most 15 = .ok (.aload_n 0, 1) := by decide +kernel
theorem dX3_most_16 : decode cX3_most 16 = .ok (.getfield 15, 3) := by decide +kernel
theorem dX3_most_19 : decode cX3_most 19 = .ok (.iload_n 1, 1) := by decide +kernel
theorem dX3_most_20 : decode cX3_most 20 = .ok (.iaload, 1) := by decide +kernel
theorem dX3_most_21 : decode cX3_most 21 = .ok (.goto 9, 3) := by decide +kernel
theorem dX3_most_24 : decode cX3_most 24 = .ok (.aload_n 0, 1) := by decide +kernel
theorem dX3_most_25 : decode cX3_most 25 = .ok (.getfield 15, 3) := by decide +kernel
theorem dX3_most_28 : decode cX3_most 28 = .ok (.iload_n 2, 1) := by decide +kernel
theorem dX3_most_29 : decode cX3_most 29 = .ok (.iaload, 1) := by decide +kernel
theorem dX3_most_30 : decode cX3_most 30 = .ok (.ireturn, 1) := by decide +kernel
theorem dX3_ordered_0 : decode cX3_ordered 0 = .ok (.aload_n 0, 1) := by decide +kernel
theorem dX3_ordered_1 : decode cX3_ordered 1 = .ok (.iload_n 1, 1) := by decide +kernel
theorem dX3_ordered_2 : decode cX3_ordered 2 = .ok (.iconst 3, 1) := by decide +kernel
theorem dX3_ordered_3 : decode cX3_ordered 3 = .ok (.invokevirtual 62, 3) := by decide +kernel
theorem dX3_ordered_6 : decode cX3_ordered 6 = .ok (.aload_n 0, 1) := by decide +kernel
theorem dX3_ordered_7 : decode cX3_ordered 7 = .ok (.iload_n 2, 1) := by decide +kernel
theorem dX3_ordered_8 : decode cX3_ordered 8 = .ok (.iconst 3, 1) := by decide +kernel
theorem dX3_ordered_9 : decode cX3_ordered 9 = .ok (.invokevirtual 62, 3) := by decide +kernel
theorem dX3_ordered_12 : decode cX3_ordered 12 = .ok (.invokestatic 48, 3) := by decide +kernel
theorem dX3_ordered_15 : decode cX3_ordered 15 = .ok (.ireturn, 1) := by decide +kernel
theorem dX3_put_0 : decode cX3_put 0 = .ok (.aload_n 0, 1) := by decide +kernel
theorem dX3_put_1 : decode cX3_put 1 = .ok (.iload_n 1, 1) := by decide +kernel
theorem dX3_put_2 : decode cX3_put 2 = .ok (.invokestatic 66, 3) := by decide +kernel
theorem dX3_put_5 : decode cX3_put 5 = .ok (.iload_n 2, 1) := by decide +kernel
theorem dX3_put_6 : decode cX3_put 6 = .ok (.ldc 70, 2) := by decide +kernel
theorem dX3_put_8 : decode cX3_put 8 = .ok (.ldc 71, 2) := by decide +kernel
theorem dX3_put_10 : decode cX3_put 10 = .ok (.invokestatic 34, 3) := by decide +kernel
theorem dX3_put_13 : decode cX3_put 13 = .ok (.ifCond .ne 12, 3) := by decide +kernel
theorem dX3_put_16 : decode cX3_put 16 = .ok (.iload_n 3, 1) := by decide +kernel
theorem dX3_put_17 : decode cX3_put 17 = .ok (.iconst 0, 1) := by decide +kernel
theorem dX3_put_18 : decode cX3_put 18 = .ok (.iconst 3, 1) := by decide +kernel
theorem dX3_put_19 : decode cX3_put 19 = .ok (.invokestatic 34, 3) := by decide +kernel
theorem dX3_put_22 : decode cX3_put 22 = .ok (.ifCond .eq 7, 3) := by decide +kernel
theorem dX3_put_25 : decode cX3_put 25 = .ok (.iconst 1, 1) := by decide +kernel
theorem dX3_put_26 : decode cX3_put 26 = .ok (.goto 4, 3) := by decide +kernel
theorem dX3_put_29 : decode cX3_put 29 = .ok (.iconst 0, 1) := by decide +kernel
theorem dX3_put_30 : decode cX3_put 30 = .ok (.invokevirtual 72, 3) := by decide +kernel
theorem dX3_put_33 : decode cX3_put 33 = .ok (.ifCond .eq 5, 3) := by decide +kernel
theorem dX3_put_36 : decode cX3_put 36 = .ok (.iconst 0, 1) := by decide +kernel
theorem dX3_put_37 : decode cX3_put 37 = .ok (.ireturn, 1) := by decide +kernel
theorem dX3_put_38 : decode cX3_put 38 = .ok (.aload_n 0, 1) := by decide +kernel
theorem dX3_put_39 : decode cX3_put 39 = .ok (.iload_n 1, 1) := by decide +kernel
theorem dX3_put_40 : decode cX3_put 40 = .ok (.iload_n 2, 1) := by decide +kernel
theorem dX3_put_41 : decode cX3_put 41 = .ok (.i2l, 1) := by decide +kernel
theorem dX3_put_42 : decode cX3_put 42 = .ok (.iload_n 3, 1) := by decide +kernel
theorem dX3_put_43 : decode cX3_put 43 = .ok (.invokevirtual 76, 3) := by decide +kernel
theorem dX3_put_46 : decode cX3_put 46 = .ok (.ireturn, 1) := by decide +kernel
theorem dX3_write_0 : decode cX3_write 0 = .ok (.aload_n 0, 1) := by decide +kernel
theorem dX3_write_1 : decode cX3_write 1 = .ok (.iload_n 1, 1) := by decide +kernel
theorem dX3_write_2 : decode cX3_write 2 = .ok (.invokestatic 66, 3) := by decide +kernel
theorem dX3_write_5 : decode cX3_write 5 = .ok (.iload_n 3, 1) := by decide +kernel
theorem dX3_write_6 : decode cX3_write 6 = .ok (.iconst 0, 1) := by decide +kernel
theorem dX3_write_7 : decode cX3_write 7 = .ok (.ldc 71, 2) := by decide +kernel
theorem dX3_write_9 : decode cX3_write 9 = .ok (.invokestatic 34, 3) := by decide +kernel
theorem dX3_write_12 : decode cX3_write 12 = .ok (.ifCond .ne 30, 3) := by decide +kernel
theorem dX3_write_15 : decode cX3_write 15 = .ok (.iload 4, 2) := by decide +kernel
theorem dX3_write_17 : decode cX3_write 17 = .ok (.iconst 0, 1) := by decide +kernel
theorem dX3_write_18 : decode cX3_write 18 = .ok (.iconst 3, 1) := by decide +kernel
theorem dX3_write_19 : decode cX3_write 19 = .ok (.invokestatic 34, 3) := by decide +kernel
theorem dX3_write_22 : decode cX3_write 22 = .ok (.ifCond .ne 20, 3) := by decide +kernel
theorem dX3_write_25 : decode cX3_write 25 = .ok (.iload 5, 2) := by decide +kernel
theorem dX3_write_27 : decode cX3_write 27 = .ok (.ifCond .lt 15, 3) := by decide +kernel
theorem dX3_write_30 : decode cX3_write 30 = .ok (.iload 5, 2) := by decide +kernel
theorem dX3_write_32 : decode cX3_write 32 = .ok (.i2l, 1) := by decide +kernel
theorem dX3_write_33 : decode cX3_write 33 = .ok (.iload 4, 2) := by decide +kernel
theorem dX3_write_35 : decode cX3_write 35 = .ok (.invokestatic 58, 3) := by decide +kernel
theorem dX3_write_38 : decode cX3_write 38 = .ok (.lcmp, 1) := by decide +kernel
theorem dX3_write_39 : decode cX3_write 39 = .ok (.ifCond .lt 7, 3) := by decide +kernel
theorem dX3_write_42 : decode cX3_write 42 = .ok (.iconst 1, 1) := by decide +kernel
theorem dX3_write_43 : decode cX3_write 43 = .ok (.goto 4, 3) := by decide +kernel
theorem dX3_write_46 : decode cX3_write 46 = .ok (.iconst 0, 1) := by decide +kernel
theorem dX3_write_47 : decode cX3_write 47 = .ok (.invokevirtual 72, 3) := by decide +kernel
theorem dX3_write_50 : decode cX3_write 50 = .ok (.ifCond .eq 5, 3) := by decide +kernel
theorem dX3_write_53 : decode cX3_write 53 = .ok (.iconst 0, 1) := by decide +kernel
theorem dX3_write_54 : decode cX3_write 54 = .ok (.ireturn, 1) := by decide +kernel
theorem dX3_write_55 : decode cX3_write 55 = .ok (.iload_n 3, 1) := by decide +kernel
theorem dX3_write_56 : decode cX3_write 56 = .ok (.i2l, 1) := by decide +kernel
theorem dX3_write_57 : decode cX3_write 57 = .ok (.iload 4, 2) := by decide +kernel
theorem dX3_write_59 : decode cX3_write 59 = .ok (.invokestatic 58, 3) := by decide +kernel
theorem dX3_write_62 : decode cX3_write 62 = .ok (.lmul, 1) := by decide +kernel
theorem dX3_write_63 : decode cX3_write 63 = .ok (.iload 5, 2) := by decide +kernel
theorem dX3_write_65 : decode cX3_write 65 = .ok (.i2l, 1) := by decide +kernel
theorem dX3_write_66 : decode cX3_write 66 = .ok (.ladd, 1) := by decide +kernel
theorem dX3_write_67 : decode cX3_write 67 = .ok (.lstore 6, 2) := by decide +kernel
theorem dX3_write_69 : decode cX3_write 69 = .ok (.aload_n 0, 1) := by decide +kernel
theorem dX3_write_70 : decode cX3_write 70 = .ok (.iload_n 1, 1) := by decide +kernel
theorem dX3_write_71 : decode cX3_write 71 = .ok (.iload_n 2, 1) := by decide +kernel
theorem dX3_write_72 : decode cX3_write 72 = .ok (.ifCond .eq 9, 3) := by decide +kernel
theorem dX3_write_75 : decode cX3_write 75 = .ok (.lload 6, 2) := by decide +kernel
theorem dX3_write_77 : decode cX3_write 77 = .ok (.lneg, 1) := by decide +kernel
theorem dX3_write_78 : decode cX3_write 78 = .ok (.goto 5, 3) := by decide +kernel
theorem dX3_write_81 : decode cX3_write 81 = .ok (.lload 6, 2) := by decide +kernel
theorem dX3_write_83 : decode cX3_write 83 = .ok (.iload 4, 2) := by decide +kernel
theorem dX3_write_85 : decode cX3_write 85 = .ok (.invokevirtual 76, 3) := by decide +kernel
theorem dX3_write_88 : decode cX3_write 88 = .ok (.ireturn, 1) := by decide +kernel
theorem dX3_copy_0 : decode cX3_copy 0 = .ok (.aload_n 0, 1) := by decide +kernel
theorem dX3_copy_1 : decode cX3_copy 1 = .ok (.iload_n 1, 1) := by decide +kernel
theorem dX3_copy_2 : decode cX3_copy 2 = .ok (.invokestatic 66, 3) := by decide +kernel
theorem dX3_copy_5 : decode cX3_copy 5 = .ok (.ifCond .ne 10, 3) := by decide +kernel
theorem dX3_copy_8 : decode cX3_copy 8 = .ok (.iload_n 2, 1) := by decide +kernel
theorem dX3_copy_9 : decode cX3_copy 9 = .ok (.invokestatic 66, 3) := by decide +kernel
theorem dX3_copy_12 : decode cX3_copy 12 = .ok (.ifCond .eq 7, 3) := by decide +kernel
theorem dX3_copy_15 : decode cX3_copy 15 = .ok (.iconst 1, 1) := by decide +kernel
theorem dX3_copy_16 : decode cX3_copy 16 = .ok (.goto 4, 3) := by decide +kernel
theorem dX3_copy_19 : decode cX3_copy 19 = .ok (.iconst 0, 1) := by decide +kernel
theorem dX3_copy_20 : decode cX3_copy 20 = .ok (.iconst 0, 1) := by decide +kernel
theorem dX3_copy_21 : decode cX3_copy 21 = .ok (.invokevirtual 72, 3) := by decide +kernel
theorem dX3_copy_24 : decode cX3_copy 24 = .ok (.ifCond .eq 7, 3) := by decide +kernel
theorem dX3_copy_27 : decode cX3_copy 27 = .ok (.iconst 0, 1) := by decide +kernel
theorem dX3_copy_28 : decode cX3_copy 28 = .ok (.goto 21, 3) := by decide +kernel
theorem dX3_copy_31 : decode cX3_copy 31 = .ok (.aload_n 0, 1) := by decide +kernel
theorem dX3_copy_32 : decode cX3_copy 32 = .ok (.iload_n 2, 1) := by decide +kernel
theorem dX3_copy_33 : decode cX3_copy 33 = .ok (.aload_n 0, 1) := by decide +kernel
theorem dX3_copy_34 : decode cX3_copy 34 = .ok (.getfield 9, 3) := by decide +kernel
theorem dX3_copy_37 : decode cX3_copy 37 = .ok (.iload_n 1, 1) := by decide +kernel
theorem dX3_copy_38 : decode cX3_copy 38 = .ok (.iaload, 1) := by decide +kernel
theorem dX3_copy_39 : decode cX3_copy 39 = .ok (.i2l, 1) := by decide +kernel
theorem dX3_copy_40 : decode cX3_copy 40 = .ok (.aload_n 0, 1) := by decide +kernel
theorem dX3_copy_41 : decode cX3_copy 41 = .ok (.getfield 15, 3) := by decide +kernel
theorem dX3_copy_44 : decode cX3_copy 44 = .ok (.iload_n 1, 1) := by decide +kernel
theorem dX3_copy_45 : decode cX3_copy 45 = .ok (.iaload, 1) := by decide +kernel
theorem dX3_copy_46 : decode cX3_copy 46 = .ok (.invokevirtual 76, 3) := by decide +kernel
theorem dX3_copy_49 : decode cX3_copy 49 = .ok (.ireturn, 1) := by decide +kernel
theorem dX3_negate_0 : decode cX3_negate 0 = .ok (.aload_n 0, 1) := by decide +kernel
theorem dX3_negate_1 : decode cX3_negate 1 = .ok (.iload_n 1, 1) := by decide +kernel
theorem dX3_negate_2 : decode cX3_negate 2 = .ok (.invokestatic 66, 3) := by decide +kernel
theorem dX3_negate_5 : decode cX3_negate 5 = .ok (.iconst 0, 1) := by decide +kernel
theorem dX3_negate_6 : decode cX3_negate 6 = .ok (.invokevirtual 72, 3) := by decide +kernel
theorem dX3_negate_9 : decode cX3_negate 9 = .ok (.ifCond .eq 7, 3) := by decide +kernel
theorem dX3_negate_12 : decode cX3_negate 12 = .ok (.iconst 0, 1) := by decide +kernel
theorem dX3_negate_13 : decode cX3_negate 13 = .ok (.goto 22, 3) := by decide +kernel
theorem dX3_negate_16 : decode cX3_negate 16 = .ok (.aload_n 0, 1) := by decide +kernel
theorem dX3_negate_17 : decode cX3_negate 17 = .ok (.iload_n 1, 1) := by decide +kernel
theorem dX3_negate_18 : decode cX3_negate 18 = .ok (.aload_n 0, 1) := by decide +kernel
theorem dX3_negate_19 : decode cX3_negate 19 = .ok (.getfield 9, 3) := by decide +kernel
theorem dX3_negate_22 : decode cX3_negate 22 = .ok (.iload_n 1, 1) := by decide +kernel
theorem dX3_negate_23 : decode cX3_negate 23 = .ok (.iaload, 1) := by decide +kernel
theorem dX3_negate_24 : decode cX3_negate 24 = .ok (.ineg, 1) := by decide +kernel
theorem dX3_negate_25 : decode cX3_negate 25 = .ok (.i2l, 1) := by decide +kernel
theorem dX3_negate_26 : decode cX3_negate 26 = .ok (.aload_n 0, 1) := by decide +kernel
theorem dX3_negate_27 : decode cX3_negate 27 = .ok (.getfield 15, 3) := by decide +kernel
theorem dX3_negate_30 : decode cX3_negate 30 = .ok (.iload_n 1, 1) := by decide +kernel
theorem dX3_negate_31 : decode cX3_negate 31 = .ok (.iaload, 1) := by decide +kernel
theorem dX3_negate_32 : decode cX3_negate 32 = .ok (.invokevirtual 76, 3) := by decide +kernel
theorem dX3_negate_35 : decode cX3_negate 35 = .ok (.ireturn, 1) := by decide +kernel
theorem dX3_size_0 : decode cX3_size 0 = .ok (.aload_n 0, 1) := by decide +kernel
theorem dX3_size_1 : decode cX3_size 1 = .ok (.iload_n 1, 1) := by decide +kernel
theorem dX3_size_2 : decode cX3_size 2 = .ok (.invokestatic 66, 3) := by decide +kernel
theorem dX3_size_5 : decode cX3_size 5 = .ok (.iconst 0, 1) := by decide +kernel
theorem dX3_size_6 : decode cX3_size 6 = .ok (.invokevirtual 72, 3) := by decide +kernel
theorem dX3_size_9 : decode cX3_size 9 = .ok (.ifCond .eq 7, 3) := by decide +kernel
theorem dX3_size_12 : decode cX3_size 12 = .ok (.iconst 0, 1) := by decide +kernel
theorem dX3_size_13 : decode cX3_size 13 = .ok (.goto 24, 3) := by decide +kernel
theorem dX3_size_16 : decode cX3_size 16 = .ok (.aload_n 0, 1) := by decide +kernel
theorem dX3_size_17 : decode cX3_size 17 = .ok (.iload_n 1, 1) := by decide +kernel
theorem dX3_size_18 : decode cX3_size 18 = .ok (.aload_n 0, 1) := by decide +kernel
theorem dX3_size_19 : decode cX3_size 19 = .ok (.getfield 9, 3) := by decide +kernel
theorem dX3_size_22 : decode cX3_size 22 = .ok (.iload_n 1, 1) := by decide +kernel
theorem dX3_size_23 : decode cX3_size 23 = .ok (.iaload, 1) := by decide +kernel
theorem dX3_size_24 : decode cX3_size 24 = .ok (.i2l, 1) := by decide +kernel
theorem dX3_size_25 : decode cX3_size 25 = .ok (.invokestatic 40, 3) := by decide +kernel
theorem dX3_size_28 : decode cX3_size 28 = .ok (.aload_n 0, 1) := by decide +kernel
theorem dX3_size_29 : decode cX3_size 29 = .ok (.getfield 15, 3) := by decide +kernel
theorem dX3_size_32 : decode cX3_size 32 = .ok (.iload_n 1, 1) := by decide +kernel
theorem dX3_size_33 : decode cX3_size 33 = .ok (.iaload, 1) := by decide +kernel
theorem dX3_size_34 : decode cX3_size 34 = .ok (.invokevirtual 76, 3) := by decide +kernel
theorem dX3_size_37 : decode cX3_size 37 = .ok (.ireturn, 1) := by decide +kernel
theorem dX3_areNoCells_0 : decode cX3_areNoCells 0 = .ok (.iload_n 1, 1) := by decide +kernel
theorem dX3_areNoCells_1 : decode cX3_areNoCells 1 = .ok (.invokestatic 66, 3) := by decide +kernel
theorem dX3_areNoCells_4 : decode cX3_areNoCells 4 = .ok (.ifCond .ne 17, 3) := by decide +kernel
theorem dX3_areNoCells_7 : decode cX3_areNoCells 7 = .ok (.iload_n 2, 1) := by decide +kernel
theorem dX3_areNoCells_8 : decode cX3_areNoCells 8 = .ok (.invokestatic 66, 3) := by decide +kernel
theorem dX3_areNoCells_11 : decode cX3_areNoCells 11 = .ok (.ifCond .ne 10, 3) := by decide +kernel
theorem dX3_areNoCells_14 : decode cX3_areNoCells 14 = .ok (.iload_n 3, 1) := by decide +kernel
theorem dX3_areNoCells_15 : decode cX3_areNoCells 15 = .ok (.invokestatic 66, 3) := by decide +kernel
theorem dX3_areNoCells_18 : decode cX3_areNoCells 18 = .ok (.ifCond .eq 7, 3) := by decide +kernel
theorem dX3_areNoCells_21 : decode cX3_areNoCells 21 = .ok (.iconst 1, 1) := by decide +kernel
theorem dX3_areNoCells_22 : decode cX3_areNoCells 22 = .ok (.goto 4, 3) := by decide +kernel
theorem dX3_areNoCells_25 : decode cX3_areNoCells 25 = .ok (.iconst 0, 1) := by decide +kernel
theorem dX3_areNoCells_26 : decode cX3_areNoCells 26 = .ok (.ireturn, 1) := by decide +kernel
theorem dX3_add_0 : decode cX3_add 0 = .ok (.aload_n 0, 1) := by decide +kernel
theorem dX3_add_1 : decode cX3_add 1 = .ok (.aload_n 0, 1) := by decide +kernel
theorem dX3_add_2 : decode cX3_add 2 = .ok (.iload_n 1, 1) := by decide +kernel
theorem dX3_add_3 : decode cX3_add 3 = .ok (.iload_n 2, 1) := by decide +kernel
theorem dX3_add_4 : decode cX3_add 4 = .ok (.iload_n 3, 1) := by decide +kernel
theorem dX3_add_5 : decode cX3_add 5 = .ok (.invokevirtual 80, 3) := by decide +kernel
theorem dX3_add_8 : decode cX3_add 8 = .ok (.iconst 0, 1) := by decide +kernel
theorem dX3_add_9 : decode cX3_add 9 = .ok (.invokevirtual 72, 3) := by decide +kernel
theorem dX3_add_12 : decode cX3_add 12 = .ok (.ifCond .eq 5, 3) := by decide +kernel
theorem dX3_add_15 : decode cX3_add 15 = .ok (.iconst 0, 1) := by decide +kernel
theorem dX3_add_16 : decode cX3_add 16 = .ok (.ireturn, 1) := by decide +kernel
theorem dX3_add_17 : decode cX3_add 17 = .ok (.aload_n 0, 1) := by decide +kernel
theorem dX3_add_18 : decode cX3_add 18 = .ok (.iload_n 1, 1) := by decide +kernel
theorem dX3_add_19 : decode cX3_add 19 = .ok (.iload_n 2, 1) := by decide +kernel
theorem dX3_add_20 : decode cX3_add 20 = .ok (.invokevirtual 83, 3) := by decide +kernel
theorem dX3_add_23 : decode cX3_add 23 = .ok (.istore 4, 2) := by decide +kernel
theorem dX3_add_25 : decode cX3_add 25 = .ok (.aload_n 0, 1) := by decide +kernel
theorem dX3_add_26 : decode cX3_add 26 = .ok (.iload_n 3, 1) := by decide +kernel
theorem dX3_add_27 : decode cX3_add 27 = .ok (.aload_n 0, 1) := by decide +kernel
theorem dX3_add_28 : decode cX3_add 28 = .ok (.iload_n 1, 1) := by decide +kernel
theorem dX3_add_29 : decode cX3_add 29 = .ok (.iload 4, 2) := by decide +kernel
theorem dX3_add_31 : decode cX3_add 31 = .ok (.invokevirtual 62, 3) := by decide +kernel
theorem dX3_add_34 : decode cX3_add 34 = .ok (.aload_n 0, 1) := by decide +kernel
theorem dX3_add_35 : decode cX3_add 35 = .ok (.iload_n 2, 1) := by decide +kernel
theorem dX3_add_36 : decode cX3_add 36 = .ok (.iload 4, 2) := by decide +kernel
theorem dX3_add_38 : decode cX3_add 38 = .ok (.invokevirtual 62, 3) := by decide +kernel
theorem dX3_add_41 : decode cX3_add 41 = .ok (.ladd, 1) := by decide +kernel
theorem dX3_add_42 : decode cX3_add 42 = .ok (.iload 4, 2) := by decide +kernel
theorem dX3_add_44 : decode cX3_add 44 = .ok (.invokevirtual 76, 3) := by decide +kernel
theorem dX3_add_47 : decode cX3_add 47 = .ok (.ireturn, 1) := by decide +kernel
theorem dX3_subtract_0 : decode cX3_subtract 0 = .ok (.aload_n 0, 1) := by decide +kernel
theorem dX3_subtract_1 : decode cX3_subtract 1 = .ok (.aload_n 0, 1) := by decide +kernel
theorem dX3_subtract_2 : decode cX3_subtract 2 = .ok (.iload_n 1, 1) := by decide +kernel
theorem dX3_subtract_3 : decode cX3_subtract 3 = .ok (.iload_n 2, 1) := by decide +kernel
theorem dX3_subtract_4 : decode cX3_subtract 4 = .ok (.iload_n 3, 1) := by decide +kernel
theorem dX3_subtract_5 : decode cX3_subtract 5 = .ok (.invokevirtual 80, 3) := by decide +kernel
theorem dX3_subtract_8 : decode cX3_subtract 8 = .ok (.iconst 0, 1) := by decide +kernel
theorem dX3_subtract_9 : decode cX3_subtract 9 = .ok (.invokevirtual 72, 3) := by decide +kernel
theorem dX3_subtract_12 : decode cX3_subtract 12 = .ok (.ifCond .eq 5, 3) := by decide +kernel
theorem dX3_subtract_15 : decode cX3_subtract 15 = .ok (.iconst 0, 1) := by decide +kernel
theorem dX3_subtract_16 : decode cX3_subtract 16 = .ok (.ireturn, 1) := by decide +kernel
theorem dX3_subtract_17 : decode cX3_subtract 17 = .ok (.aload_n 0, 1) := by decide +kernel
theorem dX3_subtract_18 : decode cX3_subtract 18 = .ok (.iload_n 1, 1) := by decide +kernel
theorem dX3_subtract_19 : decode cX3_subtract 19 = .ok (.iload_n 2, 1) := by decide +kernel
theorem dX3_subtract_20 : decode cX3_subtract 20 = .ok (.invokevirtual 83, 3) := by decide +kernel
theorem dX3_subtract_23 : decode cX3_subtract 23 = .ok (.istore 4, 2) := by decide +kernel
theorem dX3_subtract_25 : decode cX3_subtract 25 = .ok (.aload_n 0, 1) := by decide +kernel
theorem dX3_subtract_26 : decode cX3_subtract 26 = .ok (.iload_n 3, 1) := by decide +kernel
theorem dX3_subtract_27 : decode cX3_subtract 27 = .ok (.aload_n 0, 1) := by decide +kernel
theorem dX3_subtract_28 : decode cX3_subtract 28 = .ok (.iload_n 1, 1) := by decide +kernel
theorem dX3_subtract_29 : decode cX3_subtract 29 = .ok (.iload 4, 2) := by decide +kernel
theorem dX3_subtract_31 : decode cX3_subtract 31 = .ok (.invokevirtual 62, 3) := by decide +kernel
theorem dX3_subtract_34 : decode cX3_subtract 34 = .ok (.aload_n 0, 1) := by decide +kernel
theorem dX3_subtract_35 : decode cX3_subtract 35 = .ok (.iload_n 2, 1) := by decide +kernel
theorem dX3_subtract_36 : decode cX3_subtract 36 = .ok (.iload 4, 2) := by decide +kernel
theorem dX3_subtract_38 : decode cX3_subtract 38 = .ok (.invokevirtual 62, 3) := by decide +kernel
theorem dX3_subtract_41 : decode cX3_subtract 41 = .ok (.lsub, 1) := by decide +kernel
theorem dX3_subtract_42 : decode cX3_subtract 42 = .ok (.iload 4, 2) := by decide +kernel
theorem dX3_subtract_44 : decode cX3_subtract 44 = .ok (.invokevirtual 76, 3) := by decide +kernel
theorem dX3_subtract_47 : decode cX3_subtract 47 = .ok (.ireturn, 1) := by decide +kernel
theorem dX3_multiply_0 : decode cX3_multiply 0 = .ok (.aload_n 0, 1) := by decide +kernel
theorem dX3_multiply_1 : decode cX3_multiply 1 = .ok (.aload_n 0, 1) := by decide +kernel
theorem dX3_multiply_2 : decode cX3_multiply 2 = .ok (.iload_n 1, 1) := by decide +kernel
theorem dX3_multiply_3 : decode cX3_multiply 3 = .ok (.iload_n 2, 1) := by decide +kernel
theorem dX3_multiply_4 : decode cX3_multiply 4 = .ok (.iload_n 3, 1) := by decide +kernel
theorem dX3_multiply_5 : decode cX3_multiply 5 = .ok (.invokevirtual 80, 3) := by decide +kernel
theorem dX3_multiply_8 : decode cX3_multiply 8 = .ok (.iconst 0, 1) := by decide +kernel
theorem dX3_multiply_9 : decode cX3_multiply 9 = .ok (.invokevirtual 72, 3) := by decide +kernel
theorem dX3_multiply_12 : decode cX3_multiply 12 = .ok (.ifCond .eq 5, 3) := by decide +kernel
theorem dX3_multiply_15 : decode cX3_multiply 15 = .ok (.iconst 0, 1) := by decide +kernel
theorem dX3_multiply_16 : decode cX3_multiply 16 = .ok (.ireturn, 1) := by decide +kernel
theorem dX3_multiply_17 : decode cX3_multiply 17 = .ok (.aload_n 0, 1) := by decide +kernel
theorem dX3_multiply_18 : decode cX3_multiply 18 = .ok (.iload_n 3, 1) := by decide +kernel
theorem dX3_multiply_19 : decode cX3_multiply 19 = .ok (.aload_n 0, 1) := by decide +kernel
theorem dX3_multiply_20 : decode cX3_multiply 20 = .ok (.getfield 9, 3) := by decide +kernel
theorem dX3_multiply_23 : decode cX3_multiply 23 = .ok (.iload_n 1, 1) := by decide +kernel
theorem dX3_multiply_24 : decode cX3_multiply 24 = .ok (.iaload, 1) := by decide +kernel
theorem dX3_multiply_25 : decode cX3_multiply 25 = .ok (.i2l, 1) := by decide +kernel
theorem dX3_multiply_26 : decode cX3_multiply 26 = .ok (.aload_n 0, 1) := by decide +kernel
theorem dX3_multiply_27 : decode cX3_multiply 27 = .ok (.getfield 9, 3) := by decide +kernel
theorem dX3_multiply_30 : decode cX3_multiply 30 = .ok (.iload_n 2, 1) := by decide +kernel
theorem dX3_multiply_31 : decode cX3_multiply 31 = .ok (.iaload, 1) := by decide +kernel
theorem dX3_multiply_32 : decode cX3_multiply 32 = .ok (.i2l, 1) := by decide +kernel
theorem dX3_multiply_33 : decode cX3_multiply 33 = .ok (.lmul, 1) := by decide +kernel
theorem dX3_multiply_34 : decode cX3_multiply 34 = .ok (.aload_n 0, 1) := by decide +kernel
theorem dX3_multiply_35 : decode cX3_multiply 35 = .ok (.getfield 15, 3) := by decide +kernel
theorem dX3_multiply_38 : decode cX3_multiply 38 = .ok (.iload_n 1, 1) := by decide +kernel
theorem dX3_multiply_39 : decode cX3_multiply 39 = .ok (.iaload, 1) := by decide +kernel
theorem dX3_multiply_40 : decode cX3_multiply 40 = .ok (.aload_n 0, 1) := by decide +kernel
theorem dX3_multiply_41 : decode cX3_multiply 41 = .ok (.getfield 15, 3) := by decide +kernel
theorem dX3_multiply_44 : decode cX3_multiply 44 = .ok (.iload_n 2, 1) := by decide +kernel
theorem dX3_multiply_45 : decode cX3_multiply 45 = .ok (.iaload, 1) := by decide +kernel
theorem dX3_multiply_46 : decode cX3_multiply 46 = .ok (.iadd, 1) := by decide +kernel
theorem dX3_multiply_47 : decode cX3_multiply 47 = .ok (.invokevirtual 76, 3) := by decide +kernel
theorem dX3_multiply_50 : decode cX3_multiply 50 = .ok (.ireturn, 1) := by decide +kernel
theorem dX3_power_0 : decode cX3_power 0 = .ok (.aload_n 0, 1) := by decide +kernel
theorem dX3_power_1 : decode cX3_power 1 = .ok (.iload_n 1, 1) := by decide +kernel
theorem dX3_power_2 : decode cX3_power 2 = .ok (.invokestatic 66, 3) := by decide +kernel
theorem dX3_power_5 : decode cX3_power 5 = .ok (.ifCond .ne 10, 3) := by decide +kernel
theorem dX3_power_8 : decode cX3_power 8 = .ok (.iload_n 3, 1) := by decide +kernel
theorem dX3_power_9 : decode cX3_power 9 = .ok (.invokestatic 66, 3) := by decide +kernel
theorem dX3_power_12 : decode cX3_power 12 = .ok (.ifCond .eq 7, 3) := by decide +kernel
theorem dX3_power_15 : decode cX3_power 15 = .ok (.iconst 1, 1) := by decide +kernel
theorem dX3_power_16 : decode cX3_power 16 = .ok (.goto 4, 3) := by decide +kernel
theorem dX3_power_19 : decode cX3_power 19 = .ok (.iconst 0, 1) := by decide +kernel
theorem dX3_power_20 : decode cX3_power 20 = .ok (.iload_n 2, 1) := by decide +kernel
theorem dX3_power_21 : decode cX3_power 21 = .ok (.iconst 0, 1) := by decide +kernel
theorem dX3_power_22 : decode cX3_power 22 = .ok (.iconst 3, 1) := by decide +kernel
theorem dX3_power_23 : decode cX3_power 23 = .ok (.invokestatic 34, 3) := by decide +kernel
theorem dX3_power_26 : decode cX3_power 26 = .ok (.invokevirtual 72, 3) := by decide +kernel
theorem dX3_power_29 : decode cX3_power 29 = .ok (.ifCond .eq 5, 3) := by decide +kernel
theorem dX3_power_32 : decode cX3_power 32 = .ok (.iconst 0, 1) := by decide +kernel
theorem dX3_power_33 : decode cX3_power 33 = .ok (.ireturn, 1) := by decide +kernel
theorem dX3_power_34 : decode cX3_power 34 = .ok (.lconst 1, 1) := by decide +kernel
theorem dX3_power_35 : decode cX3_power 35 = .ok (.lstore 4, 2) := by decide +kernel
theorem dX3_power_37 : decode cX3_power 37 = .ok (.iconst 0, 1) := by decide +kernel
theorem dX3_power_38 : decode cX3_power 38 = .ok (.istore 6, 2) := by decide +kernel
theorem dX3_power_40 : decode cX3_power 40 = .ok (.iload 6, 2) := by decide +kernel
theorem dX3_power_42 : decode cX3_power 42 = .ok (.iload_n 2, 1) := by decide +kernel
theorem dX3_power_43 : decode cX3_power 43 = .ok (.if_icmp .ge 21, 3) := by decide +kernel
theorem dX3_power_46 : decode cX3_power 46 = .ok (.lload 4, 2) := by decide +kernel
theorem dX3_power_48 : decode cX3_power 48 = .ok (.aload_n 0, 1) := by decide +kernel
theorem dX3_power_49 : decode cX3_power 49 = .ok (.getfield 9, 3) := by decide +kernel
theorem dX3_power_52 : decode cX3_power 52 = .ok (.iload_n 1, 1) := by decide +kernel
theorem dX3_power_53 : decode cX3_power 53 = .ok (.iaload, 1) := by decide +kernel
theorem dX3_power_54 : decode cX3_power 54 = .ok (.i2l, 1) := by decide +kernel
theorem dX3_power_55 : decode cX3_power 55 = .ok (.lmul, 1) := by decide +kernel
theorem dX3_power_56 : decode cX3_power 56 = .ok (.lstore 4, 2) := by decide +kernel
theorem dX3_power_58 : decode cX3_power 58 = .ok (.iinc 6 1, 3) := by decide +kernel
theorem dX3_power_61 : decode cX3_power 61 = .ok (.goto (-21), 3) := by decide +kernel
theorem dX3_power_64 : decode cX3_power 64 = .ok (.aload_n 0, 1) := by decide +kernel
theorem dX3_power_65 : decode cX3_power 65 = .ok (.iload_n 3, 1) := by decide +kernel
theorem dX3_power_66 : decode cX3_power 66 = .ok (.lload 4, 2) := by decide +kernel
theorem dX3_power_68 : decode cX3_power 68 = .ok (.iload_n 2, 1) := by decide +kernel
theorem dX3_power_69 : decode cX3_power 69 = .ok (.aload_n 0, 1) := by decide +kernel
theorem dX3_power_70 : decode cX3_power 70 = .ok (.getfield 15, 3) := by decide +kernel
theorem dX3_power_73 : decode cX3_power 73 = .ok (.iload_n 1, 1) := by decide +kernel
theorem dX3_power_74 : decode cX3_power 74 = .ok (.iaload, 1) := by decide +kernel
theorem dX3_power_75 : decode cX3_power 75 = .ok (.imul, 1) := by decide +kernel
theorem dX3_power_76 : decode cX3_power 76 = .ok (.invokevirtual 76, 3) := by decide +kernel
theorem dX3_power_79 : decode cX3_power 79 = .ok (.ireturn, 1) := by decide +kernel
theorem dX3_divide_0 : decode cX3_divide 0 = .ok (.aload_n 0, 1) := by decide +kernel
theorem dX3_divide_1 : decode cX3_divide 1 = .ok (.aload_n 0, 1) := by decide +kernel
theorem dX3_divide_2 : decode cX3_divide 2 = .ok (.iload_n 1, 1) := by decide +kernel
theorem dX3_divide_3 : decode cX3_divide 3 = .ok (.iload_n 2, 1) := by decide +kernel
theorem dX3_divide_4 : decode cX3_divide 4 = .ok (.iload 5, 2) := by decide +kernel
theorem dX3_divide_6 : decode cX3_divide 6 = .ok (.invokevirtual 80, 3) := by decide +kernel
theorem dX3_divide_9 : decode cX3_divide 9 = .ok (.iload_n 3, 1) := by decide +kernel
theorem dX3_divide_10 : decode cX3_divide 10 = .ok (.iload 4, 2) := by decide +kernel
theorem dX3_divide_12 : decode cX3_divide 12 = .ok (.iconst 3, 1) := by decide +kernel
theorem dX3_divide_13 : decode cX3_divide 13 = .ok (.invokestatic 87, 3) := by decide +kernel
theorem dX3_divide_16 : decode cX3_divide 16 = .ok (.invokevirtual 72, 3) := by decide +kernel
theorem dX3_divide_19 : decode cX3_divide 19 = .ok (.ifCond .eq 5, 3) := by decide +kernel
theorem dX3_divide_22 : decode cX3_divide 22 = .ok (.iconst 0, 1) := by decide +kernel
theorem dX3_divide_23 : decode cX3_divide 23 = .ok (.ireturn, 1) := by decide +kernel
theorem dX3_divide_24 : decode cX3_divide 24 = .ok (.aload_n 0, 1) := by decide +kernel
theorem dX3_divide_25 : decode cX3_divide 25 = .ok (.iload_n 2, 1) := by decide +kernel
theorem dX3_divide_26 : decode cX3_divide 26 = .ok (.iconst 3, 1) := by decide +kernel
theorem dX3_divide_27 : decode cX3_divide 27 = .ok (.invokevirtual 62, 3) := by decide +kernel
theorem dX3_divide_30 : decode cX3_divide 30 = .ok (.lstore 6, 2) := by decide +kernel
theorem dX3_divide_32 : decode cX3_divide 32 = .ok (.lload 6, 2) := by decide +kernel
theorem dX3_divide_34 : decode cX3_divide 34 = .ok (.lconst 0, 1) := by decide +kernel
theorem dX3_divide_35 : decode cX3_divide 35 = .ok (.lcmp, 1) := by decide +kernel
theorem dX3_divide_36 : decode cX3_divide 36 = .ok (.ifCond .ne 8, 3) := by decide +kernel
theorem dX3_divide_39 : decode cX3_divide 39 = .ok (.aload_n 0, 1) := by decide +kernel
theorem dX3_divide_40 : decode cX3_divide 40 = .ok (.invokevirtual 54, 3) := by decide +kernel
theorem dX3_divide_43 : decode cX3_divide 43 = .ok (.ireturn, 1) := by decide +kernel
theorem dX3_divide_44 : decode cX3_divide 44 = .ok (.aload_n 0, 1) := by decide +kernel
theorem dX3_divide_45 : decode cX3_divide 45 = .ok (.iload_n 1, 1) := by decide +kernel
theorem dX3_divide_46 : decode cX3_divide 46 = .ok (.iconst 3, 1) := by decide +kernel
theorem dX3_divide_47 : decode cX3_divide 47 = .ok (.invokevirtual 62, 3) := by decide +kernel
theorem dX3_divide_50 : decode cX3_divide 50 = .ok (.iload_n 3, 1) := by decide +kernel
theorem dX3_divide_51 : decode cX3_divide 51 = .ok (.invokestatic 58, 3) := by decide +kernel
theorem dX3_divide_54 : decode cX3_divide 54 = .ok (.lmul, 1) := by decide +kernel
theorem dX3_divide_55 : decode cX3_divide 55 = .ok (.lstore 8, 2) := by decide +kernel
theorem dX3_divide_57 : decode cX3_divide 57 = .ok (.aload_n 0, 1) := by decide +kernel
theorem dX3_divide_58 : decode cX3_divide 58 = .ok (.iload 5, 2) := by decide +kernel
theorem dX3_divide_60 : decode cX3_divide 60 = .ok (.lload 6, 2) := by decide +kernel
theorem dX3_divide_62 : decode cX3_divide 62 = .ok (.lconst 0, 1) := by decide +kernel
theorem dX3_divide_63 : decode cX3_divide 63 = .ok (.lcmp, 1) := by decide +kernel
theorem dX3_divide_64 : decode cX3_divide 64 = .ok (.ifCond .ge 17, 3) := by decide +kernel
theorem dX3_divide_67 : decode cX3_divide 67 = .ok (.lload 8, 2) := by decide +kernel
theorem dX3_divide_69 : decode cX3_divide 69 = .ok (.lneg, 1) := by decide +kernel
theorem dX3_divide_70 : decode cX3_divide 70 = .ok (.lload 6, 2) := by decide +kernel
theorem dX3_divide_72 : decode cX3_divide 72 = .ok (.lneg, 1) := by decide +kernel
theorem dX3_divide_73 : decode cX3_divide 73 = .ok (.iload 4, 2) := by decide +kernel
theorem dX3_divide_75 : decode cX3_divide 75 = .ok (.invokestatic 90, 3) := by decide +kernel
theorem dX3_divide_78 : decode cX3_divide 78 = .ok (.goto 12, 3) := by decide +kernel
theorem dX3_divide_81 : decode cX3_divide 81 = .ok (.lload 8, 2) := by decide +kernel
theorem dX3_divide_83 : decode cX3_divide 83 = .ok (.lload 6, 2) := by decide +kernel
theorem dX3_divide_85 : decode cX3_divide 85 = .ok (.iload 4, 2) := by decide +kernel
theorem dX3_divide_87 : decode cX3_divide 87 = .ok (.invokestatic 90, 3) := by decide +kernel
theorem dX3_divide_90 : decode cX3_divide 90 = .ok (.iload_n 3, 1) := by decide +kernel
theorem dX3_divide_91 : decode cX3_divide 91 = .ok (.invokevirtual 76, 3) := by decide +kernel
theorem dX3_divide_94 : decode cX3_divide 94 = .ok (.ireturn, 1) := by decide +kernel
theorem dX3_share_0 : decode cX3_share 0 = .ok (.aload_n 0, 1) := by decide +kernel
theorem dX3_share_1 : decode cX3_share 1 = .ok (.iload_n 1, 1) := by decide +kernel
theorem dX3_share_2 : decode cX3_share 2 = .ok (.invokestatic 66, 3) := by decide +kernel
theorem dX3_share_5 : decode cX3_share 5 = .ok (.ifCond .ne 10, 3) := by decide +kernel
theorem dX3_share_8 : decode cX3_share 8 = .ok (.iload_n 3, 1) := by decide +kernel
theorem dX3_share_9 : decode cX3_share 9 = .ok (.invokestatic 66, 3) := by decide +kernel
theorem dX3_share_12 : decode cX3_share 12 = .ok (.ifCond .eq 7, 3) := by decide +kernel
theorem dX3_share_15 : decode cX3_share 15 = .ok (.iconst 1, 1) := by decide +kernel
theorem dX3_share_16 : decode cX3_share 16 = .ok (.goto 4, 3) := by decide +kernel
theorem dX3_share_19 : decode cX3_share 19 = .ok (.iconst 0, 1) := by decide +kernel
theorem dX3_share_20 : decode cX3_share 20 = .ok (.iload_n 2, 1) := by decide +kernel
theorem dX3_share_21 : decode cX3_share 21 = .ok (.bipush (-99), 2) := by decide +kernel
theorem dX3_share_23 : decode cX3_share 23 = .ok (.bipush 99, 2) := by decide +kernel
theorem dX3_share_25 : decode cX3_share 25 = .ok (.invokestatic 34, 3) := by decide +kernel
theorem dX3_share_28 : decode cX3_share 28 = .ok (.invokevirtual 72, 3) := by decide +kernel
theorem dX3_share_31 : decode cX3_share 31 = .ok (.ifCond .eq 5, 3) := by decide +kernel
theorem dX3_share_34 : decode cX3_share 34 = .ok (.iconst 0, 1) := by decide +kernel
theorem dX3_share_35 : decode cX3_share 35 = .ok (.ireturn, 1) := by decide +kernel
theorem dX3_share_36 : decode cX3_share 36 = .ok (.iload_n 2, 1) := by decide +kernel
theorem dX3_share_37 : decode cX3_share 37 = .ok (.ifCond .ne 8, 3) := by decide +kernel
theorem dX3_share_40 : decode cX3_share 40 = .ok (.aload_n 0, 1) := by decide +kernel
theorem dX3_share_41 : decode cX3_share 41 = .ok (.invokevirtual 54, 3) := by decide +kernel
theorem dX3_share_44 : decode cX3_share 44 = .ok (.ireturn, 1) := by decide +kernel
theorem dX3_share_45 : decode cX3_share 45 = .ok (.aload_n 0, 1) := by decide +kernel
theorem dX3_share_46 : decode cX3_share 46 = .ok (.getfield 15, 3) := by decide +kernel
theorem dX3_share_49 : decode cX3_share 49 = .ok (.iload_n 1, 1) := by decide +kernel
theorem dX3_share_50 : decode cX3_share 50 = .ok (.iaload, 1) := by decide +kernel
theorem dX3_share_51 : decode cX3_share 51 = .ok (.istore 4, 2) := by decide +kernel
theorem dX3_share_53 : decode cX3_share 53 = .ok (.iload 4, 2) := by decide +kernel
theorem dX3_share_55 : decode cX3_share 55 = .ok (.iconst 3, 1) := by decide +kernel
theorem dX3_share_56 : decode cX3_share 56 = .ok (.if_icmp .gt 42, 3) := by decide +kernel
theorem dX3_share_59 : decode cX3_share 59 = .ok (.aload_n 0, 1) := by decide +kernel
theorem dX3_share_60 : decode cX3_share 60 = .ok (.iload_n 1, 1) := by decide +kernel
theorem dX3_share_61 : decode cX3_share 61 = .ok (.iload 4, 2) := by decide +kernel
theorem dX3_share_63 : decode cX3_share 63 = .ok (.invokevirtual 62, 3) := by decide +kernel
theorem dX3_share_66 : decode cX3_share 66 = .ok (.iload_n 2, 1) := by decide +kernel
theorem dX3_share_67 : decode cX3_share 67 = .ok (.i2l, 1) := by decide +kernel
theorem dX3_share_68 : decode cX3_share 68 = .ok (.lrem, 1) := by decide +kernel
theorem dX3_share_69 : decode cX3_share 69 = .ok (.lconst 0, 1) := by decide +kernel
theorem dX3_share_70 : decode cX3_share 70 = .ok (.lcmp, 1) := by decide +kernel
theorem dX3_share_71 : decode cX3_share 71 = .ok (.ifCond .ne 21, 3) := by decide +kernel
theorem dX3_share_74 : decode cX3_share 74 = .ok (.aload_n 0, 1) := by decide +kernel
theorem dX3_share_75 : decode cX3_share 75 = .ok (.iload_n 3, 1) := by decide +kernel
theorem dX3_share_76 : decode cX3_share 76 = .ok (.aload_n 0, 1) := by decide +kernel
theorem dX3_share_77 : decode cX3_share 77 = .ok (.iload_n 1, 1) := by decide +kernel
theorem dX3_share_78 : decode cX3_share 78 = .ok (.iload 4, 2) := by decide +kernel
theorem dX3_share_80 : decode cX3_share 80 = .ok (.invokevirtual 62, 3) := by decide +kernel
theorem dX3_share_83 : decode cX3_share 83 = .ok (.iload_n 2, 1) := by decide +kernel
theorem dX3_share_84 : decode cX3_share 84 = .ok (.i2l, 1) := by decide +kernel
theorem dX3_share_85 : decode cX3_share 85 = .ok (.ldiv, 1) := by decide +kernel
theorem dX3_share_86 : decode cX3_share 86 = .ok (.iload 4, 2) := by decide +kernel
theorem dX3_share_88 : decode cX3_share 88 = .ok (.invokevirtual 76, 3) := by decide +kernel
theorem dX3_share_91 : decode cX3_share 91 = .ok (.ireturn, 1) := by decide +kernel
theorem dX3_share_92 : decode cX3_share 92 = .ok (.iinc 4 1, 3) := by decide +kernel
theorem dX3_share_95 : decode cX3_share 95 = .ok (.goto (-42), 3) := by decide +kernel
theorem dX3_share_98 : decode cX3_share 98 = .ok (.aload_n 0, 1) := by decide +kernel
theorem dX3_share_99 : decode cX3_share 99 = .ok (.invokevirtual 54, 3) := by decide +kernel
theorem dX3_share_102 : decode cX3_share 102 = .ok (.ireturn, 1) := by decide +kernel
theorem dX3_wholeOf_0 : decode cX3_wholeOf 0 = .ok (.aload_n 0, 1) := by decide +kernel
theorem dX3_wholeOf_1 : decode cX3_wholeOf 1 = .ok (.getfield 9, 3) := by decide +kernel
theorem dX3_wholeOf_4 : decode cX3_wholeOf 4 = .ok (.iload_n 1, 1) := by decide +kernel
theorem dX3_wholeOf_5 : decode cX3_wholeOf 5 = .ok (.iaload, 1) := by decide +kernel
theorem dX3_wholeOf_6 : decode cX3_wholeOf 6 = .ok (.i2l, 1) := by decide +kernel
theorem dX3_wholeOf_7 : decode cX3_wholeOf 7 = .ok (.iload_n 2, 1) := by decide +kernel
theorem dX3_wholeOf_8 : decode cX3_wholeOf 8 = .ok (.i2l, 1) := by decide +kernel
theorem dX3_wholeOf_9 : decode cX3_wholeOf 9 = .ok (.aload_n 0, 1) := by decide +kernel
theorem dX3_wholeOf_10 : decode cX3_wholeOf 10 = .ok (.getfield 15, 3) := by decide +kernel
theorem dX3_wholeOf_13 : decode cX3_wholeOf 13 = .ok (.iload_n 1, 1) := by decide +kernel
theorem dX3_wholeOf_14 : decode cX3_wholeOf 14 = .ok (.iaload, 1) := by decide +kernel
theorem dX3_wholeOf_15 : decode cX3_wholeOf 15 = .ok (.invokestatic 58, 3) := by decide +kernel
theorem dX3_wholeOf_18 : decode cX3_wholeOf 18 = .ok (.lmul, 1) := by decide +kernel
theorem dX3_wholeOf_19 : decode cX3_wholeOf 19 = .ok (.ldiv, 1) := by decide +kernel
theorem dX3_wholeOf_20 : decode cX3_wholeOf 20 = .ok (.lreturn, 1) := by decide +kernel
theorem dX3_whole_0 : decode cX3_whole 0 = .ok (.aload_n 0, 1) := by decide +kernel
theorem dX3_whole_1 : decode cX3_whole 1 = .ok (.iload_n 1, 1) := by decide +kernel
theorem dX3_whole_2 : decode cX3_whole 2 = .ok (.invokestatic 66, 3) := by decide +kernel
theorem dX3_whole_5 : decode cX3_whole 5 = .ok (.ifCond .ne 10, 3) := by decide +kernel
theorem dX3_whole_8 : decode cX3_whole 8 = .ok (.iload_n 3, 1) := by decide +kernel
theorem dX3_whole_9 : decode cX3_whole 9 = .ok (.invokestatic 66, 3) := by decide +kernel
theorem dX3_whole_12 : decode cX3_whole 12 = .ok (.ifCond .eq 7, 3) := by decide +kernel
theorem dX3_whole_15 : decode cX3_whole 15 = .ok (.iconst 1, 1) := by decide +kernel
theorem dX3_whole_16 : decode cX3_whole 16 = .ok (.goto 4, 3) := by decide +kernel
theorem dX3_whole_19 : decode cX3_whole 19 = .ok (.iconst 0, 1) := by decide +kernel
theorem dX3_whole_20 : decode cX3_whole 20 = .ok (.iload_n 2, 1) := by decide +kernel
theorem dX3_whole_21 : decode cX3_whole 21 = .ok (.bipush (-99), 2) := by decide +kernel
theorem dX3_whole_23 : decode cX3_whole 23 = .ok (.bipush 99, 2) := by decide +kernel
theorem dX3_whole_25 : decode cX3_whole 25 = .ok (.invokestatic 34, 3) := by decide +kernel
theorem dX3_whole_28 : decode cX3_whole 28 = .ok (.invokevirtual 72, 3) := by decide +kernel
theorem dX3_whole_31 : decode cX3_whole 31 = .ok (.ifCond .eq 5, 3) := by decide +kernel
theorem dX3_whole_34 : decode cX3_whole 34 = .ok (.iconst 0, 1) := by decide +kernel
theorem dX3_whole_35 : decode cX3_whole 35 = .ok (.ireturn, 1) := by decide +kernel
theorem dX3_whole_36 : decode cX3_whole 36 = .ok (.iload_n 2, 1) := by decide +kernel
theorem dX3_whole_37 : decode cX3_whole 37 = .ok (.ifCond .ne 10, 3) := by decide +kernel
theorem dX3_whole_40 : decode cX3_whole 40 = .ok (.aload_n 0, 1) := by decide +kernel
theorem dX3_whole_41 : decode cX3_whole 41 = .ok (.invokevirtual 54, 3) := by decide +kernel
theorem dX3_whole_44 : decode cX3_whole 44 = .ok (.goto 15, 3) := by decide +kernel
theorem dX3_whole_47 : decode cX3_whole 47 = .ok (.aload_n 0, 1) := by decide +kernel
theorem dX3_whole_48 : decode cX3_whole 48 = .ok (.iload_n 3, 1) := by decide +kernel
theorem dX3_whole_49 : decode cX3_whole 49 = .ok (.aload_n 0, 1) := by decide +kernel
theorem dX3_whole_50 : decode cX3_whole 50 = .ok (.iload_n 1, 1) := by decide +kernel
theorem dX3_whole_51 : decode cX3_whole 51 = .ok (.iload_n 2, 1) := by decide +kernel
theorem dX3_whole_52 : decode cX3_whole 52 = .ok (.invokevirtual 94, 3) := by decide +kernel
theorem dX3_whole_55 : decode cX3_whole 55 = .ok (.iconst 0, 1) := by decide +kernel
theorem dX3_whole_56 : decode cX3_whole 56 = .ok (.invokevirtual 76, 3) := by decide +kernel
theorem dX3_whole_59 : decode cX3_whole 59 = .ok (.ireturn, 1) := by decide +kernel
theorem dX3_rest_0 : decode cX3_rest 0 = .ok (.aload_n 0, 1) := by decide +kernel
theorem dX3_rest_1 : decode cX3_rest 1 = .ok (.iload_n 1, 1) := by decide +kernel
theorem dX3_rest_2 : decode cX3_rest 2 = .ok (.invokestatic 66, 3) := by decide +kernel
theorem dX3_rest_5 : decode cX3_rest 5 = .ok (.ifCond .ne 10, 3) := by decide +kernel
theorem dX3_rest_8 : decode cX3_rest 8 = .ok (.iload_n 3, 1) := by decide +kernel
theorem dX3_rest_9 : decode cX3_rest 9 = .ok (.invokestatic 66, 3) := by decide +kernel
theorem dX3_rest_12 : decode cX3_rest 12 = .ok (.ifCond .eq 7, 3) := by decide +kernel
theorem dX3_rest_15 : decode cX3_rest 15 = .ok (.iconst 1, 1) := by decide +kernel
theorem dX3_rest_16 : decode cX3_rest 16 = .ok (.goto 4, 3) := by decide +kernel
theorem dX3_rest_19 : decode cX3_rest 19 = .ok (.iconst 0, 1) := by decide +kernel
theorem dX3_rest_20 : decode cX3_rest 20 = .ok (.iload_n 2, 1) := by decide +kernel
theorem dX3_rest_21 : decode cX3_rest 21 = .ok (.bipush (-99), 2) := by decide +kernel
theorem dX3_rest_23 : decode cX3_rest 23 = .ok (.bipush 99, 2) := by decide +kernel
theorem dX3_rest_25 : decode cX3_rest 25 = .ok (.invokestatic 34, 3) := by decide +kernel
theorem dX3_rest_28 : decode cX3_rest 28 = .ok (.invokevirtual 72, 3) := by decide +kernel
theorem dX3_rest_31 : decode cX3_rest 31 = .ok (.ifCond .eq 5, 3) := by decide +kernel
theorem dX3_rest_34 : decode cX3_rest 34 = .ok (.iconst 0, 1) := by decide +kernel
theorem dX3_rest_35 : decode cX3_rest 35 = .ok (.ireturn, 1) := by decide +kernel
theorem dX3_rest_36 : decode cX3_rest 36 = .ok (.iload_n 2, 1) := by decide +kernel
theorem dX3_rest_37 : decode cX3_rest 37 = .ok (.ifCond .ne 10, 3) := by decide +kernel
theorem dX3_rest_40 : decode cX3_rest 40 = .ok (.aload_n 0, 1) := by decide +kernel
theorem dX3_rest_41 : decode cX3_rest 41 = .ok (.invokevirtual 54, 3) := by decide +kernel
theorem dX3_rest_44 : decode cX3_rest 44 = .ok (.goto 41, 3) := by decide +kernel
theorem dX3_rest_47 : decode cX3_rest 47 = .ok (.aload_n 0, 1) := by decide +kernel
theorem dX3_rest_48 : decode cX3_rest 48 = .ok (.iload_n 3, 1) := by decide +kernel
theorem dX3_rest_49 : decode cX3_rest 49 = .ok (.aload_n 0, 1) := by decide +kernel
theorem dX3_rest_50 : decode cX3_rest 50 = .ok (.getfield 9, 3) := by decide +kernel
theorem dX3_rest_53 : decode cX3_rest 53 = .ok (.iload_n 1, 1) := by decide +kernel
theorem dX3_rest_54 : decode cX3_rest 54 = .ok (.iaload, 1) := by decide +kernel
theorem dX3_rest_55 : decode cX3_rest 55 = .ok (.i2l, 1) := by decide +kernel
theorem dX3_rest_56 : decode cX3_rest 56 = .ok (.iload_n 2, 1) := by decide +kernel
theorem dX3_rest_57 : decode cX3_rest 57 = .ok (.i2l, 1) := by decide +kernel
theorem dX3_rest_58 : decode cX3_rest 58 = .ok (.aload_n 0, 1) := by decide +kernel
theorem dX3_rest_59 : decode cX3_rest 59 = .ok (.iload_n 1, 1) := by decide +kernel
theorem dX3_rest_60 : decode cX3_rest 60 = .ok (.iload_n 2, 1) := by decide +kernel
theorem dX3_rest_61 : decode cX3_rest 61 = .ok (.invokevirtual 94, 3) := by decide +kernel
theorem dX3_rest_64 : decode cX3_rest 64 = .ok (.lmul, 1) := by decide +kernel
theorem dX3_rest_65 : decode cX3_rest 65 = .ok (.aload_n 0, 1) := by decide +kernel
theorem dX3_rest_66 : decode cX3_rest 66 = .ok (.getfield 15, 3) := by decide +kernel
theorem dX3_rest_69 : decode cX3_rest 69 = .ok (.iload_n 1, 1) := by decide +kernel
theorem dX3_rest_70 : decode cX3_rest 70 = .ok (.iaload, 1) := by decide +kernel
theorem dX3_rest_71 : decode cX3_rest 71 = .ok (.invokestatic 58, 3) := by decide +kernel
theorem dX3_rest_74 : decode cX3_rest 74 = .ok (.lmul, 1) := by decide +kernel
theorem dX3_rest_75 : decode cX3_rest 75 = .ok (.lsub, 1) := by decide +kernel
theorem dX3_rest_76 : decode cX3_rest 76 = .ok (.aload_n 0, 1) := by decide +kernel
theorem dX3_rest_77 : decode cX3_rest 77 = .ok (.getfield 15, 3) := by decide +kernel
theorem dX3_rest_80 : decode cX3_rest 80 = .ok (.iload_n 1, 1) := by decide +kernel
theorem dX3_rest_81 : decode cX3_rest 81 = .ok (.iaload, 1) := by decide +kernel
theorem dX3_rest_82 : decode cX3_rest 82 = .ok (.invokevirtual 76, 3) := by decide +kernel
theorem dX3_rest_85 : decode cX3_rest 85 = .ok (.ireturn, 1) := by decide +kernel
theorem dX3_setPlaces_0 : decode cX3_setPlaces 0 = .ok (.aload_n 0, 1) := by decide +kernel
theorem dX3_setPlaces_1 : decode cX3_setPlaces 1 = .ok (.iload_n 1, 1) := by decide +kernel
theorem dX3_setPlaces_2 : decode cX3_setPlaces 2 = .ok (.invokestatic 66, 3) := by decide +kernel
theorem dX3_setPlaces_5 : decode cX3_setPlaces 5 = .ok (.iload_n 2, 1) := by decide +kernel
theorem dX3_setPlaces_6 : decode cX3_setPlaces 6 = .ok (.iload_n 3, 1) := by decide +kernel
theorem dX3_setPlaces_7 : decode cX3_setPlaces 7 = .ok (.iconst 3, 1) := by decide +kernel
theorem dX3_setPlaces_8 : decode cX3_setPlaces 8 = .ok (.invokestatic 87, 3) := by decide +kernel
theorem dX3_setPlaces_11 : decode cX3_setPlaces 11 = .ok (.invokevirtual 72, 3) := by decide +kernel
theorem dX3_setPlaces_14 : decode cX3_setPlaces 14 = .ok (.ifCond .eq 5, 3) := by decide +kernel
theorem dX3_setPlaces_17 : decode cX3_setPlaces 17 = .ok (.iconst 0, 1) := by decide +kernel
theorem dX3_setPlaces_18 : decode cX3_setPlaces 18 = .ok (.ireturn, 1) := by decide +kernel
theorem dX3_setPlaces_19 : decode cX3_setPlaces 19 = .ok (.aload_n 0, 1) := by decide +kernel
theorem dX3_setPlaces_20 : decode cX3_setPlaces 20 = .ok (.iload_n 1, 1) := by decide +kernel
theorem dX3_setPlaces_21 : decode cX3_setPlaces 21 = .ok (.aload_n 0, 1) := by decide +kernel
theorem dX3_setPlaces_22 : decode cX3_setPlaces 22 = .ok (.getfield 9, 3) := by decide +kernel
theorem dX3_setPlaces_25 : decode cX3_setPlaces 25 = .ok (.iload_n 1, 1) := by decide +kernel
theorem dX3_setPlaces_26 : decode cX3_setPlaces 26 = .ok (.iaload, 1) := by decide +kernel
theorem dX3_setPlaces_27 : decode cX3_setPlaces 27 = .ok (.i2l, 1) := by decide +kernel
theorem dX3_setPlaces_28 : decode cX3_setPlaces 28 = .ok (.iload_n 2, 1) := by decide +kernel
theorem dX3_setPlaces_29 : decode cX3_setPlaces 29 = .ok (.invokestatic 58, 3) := by decide +kernel
theorem dX3_setPlaces_32 : decode cX3_setPlaces 32 = .ok (.lmul, 1) := by decide +kernel
theorem dX3_setPlaces_33 : decode cX3_setPlaces 33 = .ok (.aload_n 0, 1) := by decide +kernel
theorem dX3_setPlaces_34 : decode cX3_setPlaces 34 = .ok (.getfield 15, 3) := by decide +kernel
theorem dX3_setPlaces_37 : decode cX3_setPlaces 37 = .ok (.iload_n 1, 1) := by decide +kernel
theorem dX3_setPlaces_38 : decode cX3_setPlaces 38 = .ok (.iaload, 1) := by decide +kernel
theorem dX3_setPlaces_39 : decode cX3_setPlaces 39 = .ok (.invokestatic 58, 3) := by decide +kernel
theorem dX3_setPlaces_42 : decode cX3_setPlaces 42 = .ok (.iload_n 3, 1) := by decide +kernel
theorem dX3_setPlaces_43 : decode cX3_setPlaces 43 = .ok (.invokestatic 90, 3) := by decide +kernel
theorem dX3_setPlaces_46 : decode cX3_setPlaces 46 = .ok (.iload_n 2, 1) := by decide +kernel
theorem dX3_setPlaces_47 : decode cX3_setPlaces 47 = .ok (.invokevirtual 76, 3) := by decide +kernel
theorem dX3_setPlaces_50 : decode cX3_setPlaces 50 = .ok (.ireturn, 1) := by decide +kernel
theorem dX3_strip_0 : decode cX3_strip 0 = .ok (.aload_n 0, 1) := by decide +kernel
theorem dX3_strip_1 : decode cX3_strip 1 = .ok (.iload_n 1, 1) := by decide +kernel
theorem dX3_strip_2 : decode cX3_strip 2 = .ok (.invokestatic 66, 3) := by decide +kernel
theorem dX3_strip_5 : decode cX3_strip 5 = .ok (.iconst 0, 1) := by decide +kernel
theorem dX3_strip_6 : decode cX3_strip 6 = .ok (.invokevirtual 72, 3) := by decide +kernel
theorem dX3_strip_9 : decode cX3_strip 9 = .ok (.ifCond .eq 5, 3) := by decide +kernel
theorem dX3_strip_12 : decode cX3_strip 12 = .ok (.iconst 0, 1) := by decide +kernel
theorem dX3_strip_13 : decode cX3_strip 13 = .ok (.ireturn, 1) := by decide +kernel
theorem dX3_strip_14 : decode cX3_strip 14 = .ok (.iconst 0, 1) := by decide +kernel
theorem dX3_strip_15 : decode cX3_strip 15 = .ok (.istore_n 2, 1) := by decide +kernel
theorem dX3_strip_16 : decode cX3_strip 16 = .ok (.aload_n 0, 1) := by decide +kernel
theorem dX3_strip_17 : decode cX3_strip 17 = .ok (.getfield 9, 3) := by decide +kernel
theorem dX3_strip_20 : decode cX3_strip 20 = .ok (.iload_n 1, 1) := by decide +kernel
theorem dX3_strip_21 : decode cX3_strip 21 = .ok (.iaload, 1) := by decide +kernel
theorem dX3_strip_22 : decode cX3_strip 22 = .ok (.i2l, 1) := by decide +kernel
theorem dX3_strip_23 : decode cX3_strip 23 = .ok (.aload_n 0, 1) := by decide +kernel
theorem dX3_strip_24 : decode cX3_strip 24 = .ok (.getfield 15, 3) := by decide +kernel
theorem dX3_strip_27 : decode cX3_strip 27 = .ok (.iload_n 1, 1) := by decide +kernel
theorem dX3_strip_28 : decode cX3_strip 28 = .ok (.iaload, 1) := by decide +kernel
theorem dX3_strip_29 : decode cX3_strip 29 = .ok (.iload_n 2, 1) := by decide +kernel
theorem dX3_strip_30 : decode cX3_strip 30 = .ok (.isub, 1) := by decide +kernel
theorem dX3_strip_31 : decode cX3_strip 31 = .ok (.invokestatic 58, 3) := by decide +kernel
theorem dX3_strip_34 : decode cX3_strip 34 = .ok (.lrem, 1) := by decide +kernel
theorem dX3_strip_35 : decode cX3_strip 35 = .ok (.lconst 0, 1) := by decide +kernel
theorem dX3_strip_36 : decode cX3_strip 36 = .ok (.lcmp, 1) := by decide +kernel
theorem dX3_strip_37 : decode cX3_strip 37 = .ok (.ifCond .eq 9, 3) := by decide +kernel
theorem dX3_strip_40 : decode cX3_strip 40 = .ok (.iinc 2 1, 3) := by decide +kernel
theorem dX3_strip_43 : decode cX3_strip 43 = .ok (.goto (-27), 3) := by decide +kernel
theorem dX3_strip_46 : decode cX3_strip 46 = .ok (.aload_n 0, 1) := by decide +kernel
theorem dX3_strip_47 : decode cX3_strip 47 = .ok (.iload_n 1, 1) := by decide +kernel
theorem dX3_strip_48 : decode cX3_strip 48 = .ok (.aload_n 0, 1) := by decide +kernel
theorem dX3_strip_49 : decode cX3_strip 49 = .ok (.getfield 9, 3) := by decide +kernel
theorem dX3_strip_52 : decode cX3_strip 52 = .ok (.iload_n 1, 1) := by decide +kernel
theorem dX3_strip_53 : decode cX3_strip 53 = .ok (.iaload, 1) := by decide +kernel
theorem dX3_strip_54 : decode cX3_strip 54 = .ok (.i2l, 1) := by decide +kernel
theorem dX3_strip_55 : decode cX3_strip 55 = .ok (.aload_n 0, 1) := by decide +kernel
theorem dX3_strip_56 : decode cX3_strip 56 = .ok (.getfield 15, 3) := by decide +kernel
theorem dX3_strip_59 : decode cX3_strip 59 = .ok (.iload_n 1, 1) := by decide +kernel
theorem dX3_strip_60 : decode cX3_strip 60 = .ok (.iaload, 1) := by decide +kernel
theorem dX3_strip_61 : decode cX3_strip 61 = .ok (.iload_n 2, 1) := by decide +kernel
theorem dX3_strip_62 : decode cX3_strip 62 = .ok (.isub, 1) := by decide +kernel
theorem dX3_strip_63 : decode cX3_strip 63 = .ok (.invokestatic 58, 3) := by decide +kernel
theorem dX3_strip_66 : decode cX3_strip 66 = .ok (.ldiv, 1) := by decide +kernel
theorem dX3_strip_67 : decode cX3_strip 67 = .ok (.iload_n 2, 1) := by decide +kernel
theorem dX3_strip_68 : decode cX3_strip 68 = .ok (.invokevirtual 76, 3) := by decide +kernel
theorem dX3_strip_71 : decode cX3_strip 71 = .ok (.ireturn, 1) := by decide +kernel
theorem dX3_move_0 : decode cX3_move 0 = .ok (.aload_n 0, 1) := by decide +kernel
theorem dX3_move_1 : decode cX3_move 1 = .ok (.iload_n 1, 1) := by decide +kernel
theorem dX3_move_2 : decode cX3_move 2 = .ok (.invokestatic 66, 3) := by decide +kernel
theorem dX3_move_5 : decode cX3_move 5 = .ok (.iload_n 2, 1) := by decide +kernel
theorem dX3_move_6 : decode cX3_move 6 = .ok (.bipush (-3), 2) := by decide +kernel
theorem dX3_move_8 : decode cX3_move 8 = .ok (.iconst 3, 1) := by decide +kernel
theorem dX3_move_9 : decode cX3_move 9 = .ok (.invokestatic 34, 3) := by decide +kernel
theorem dX3_move_12 : decode cX3_move 12 = .ok (.invokevirtual 72, 3) := by decide +kernel
theorem dX3_move_15 : decode cX3_move 15 = .ok (.ifCond .eq 5, 3) := by decide +kernel
theorem dX3_move_18 : decode cX3_move 18 = .ok (.iconst 0, 1) := by decide +kernel
theorem dX3_move_19 : decode cX3_move 19 = .ok (.ireturn, 1) := by decide +kernel
theorem dX3_move_20 : decode cX3_move 20 = .ok (.aload_n 0, 1) := by decide +kernel
theorem dX3_move_21 : decode cX3_move 21 = .ok (.getfield 15, 3) := by decide +kernel
theorem dX3_move_24 : decode cX3_move 24 = .ok (.iload_n 1, 1) := by decide +kernel
theorem dX3_move_25 : decode cX3_move 25 = .ok (.iaload, 1) := by decide +kernel
theorem dX3_move_26 : decode cX3_move 26 = .ok (.iload_n 2, 1) := by decide +kernel
theorem dX3_move_27 : decode cX3_move 27 = .ok (.iadd, 1) := by decide +kernel
theorem dX3_move_28 : decode cX3_move 28 = .ok (.istore_n 3, 1) := by decide +kernel
theorem dX3_move_29 : decode cX3_move 29 = .ok (.iload_n 3, 1) := by decide +kernel
theorem dX3_move_30 : decode cX3_move 30 = .ok (.ifCond .ge 25, 3) := by decide +kernel
theorem dX3_move_33 : decode cX3_move 33 = .ok (.aload_n 0, 1) := by decide +kernel
theorem dX3_move_34 : decode cX3_move 34 = .ok (.iload_n 1, 1) := by decide +kernel
theorem dX3_move_35 : decode cX3_move 35 = .ok (.aload_n 0, 1) := by decide +kernel
theorem dX3_move_36 : decode cX3_move 36 = .ok (.getfield 9, 3) := by decide +kernel
theorem dX3_move_39 : decode cX3_move 39 = .ok (.iload_n 1, 1) := by decide +kernel
theorem dX3_move_40 : decode cX3_move 40 = .ok (.iaload, 1) := by decide +kernel
theorem dX3_move_41 : decode cX3_move 41 = .ok (.i2l, 1) := by decide +kernel
theorem dX3_move_42 : decode cX3_move 42 = .ok (.iload_n 3, 1) := by decide +kernel
theorem dX3_move_43 : decode cX3_move 43 = .ok (.ineg, 1) := by decide +kernel
theorem dX3_move_44 : decode cX3_move 44 = .ok (.invokestatic 58, 3) := by decide +kernel
theorem dX3_move_47 : decode cX3_move 47 = .ok (.lmul, 1) := by decide +kernel
theorem dX3_move_48 : decode cX3_move 48 = .ok (.iconst 0, 1) := by decide +kernel
theorem dX3_move_49 : decode cX3_move 49 = .ok (.invokevirtual 76, 3) := by decide +kernel
theorem dX3_move_52 : decode cX3_move 52 = .ok (.goto 16, 3) := by decide +kernel
theorem dX3_move_55 : decode cX3_move 55 = .ok (.aload_n 0, 1) := by decide +kernel
theorem dX3_move_56 : decode cX3_move 56 = .ok (.iload_n 1, 1) := by decide +kernel
theorem dX3_move_57 : decode cX3_move 57 = .ok (.aload_n 0, 1) := by decide +kernel
theorem dX3_move_58 : decode cX3_move 58 = .ok (.getfield 9, 3) := by decide +kernel
theorem dX3_move_61 : decode cX3_move 61 = .ok (.iload_n 1, 1) := by decide +kernel
theorem dX3_move_62 : decode cX3_move 62 = .ok (.iaload, 1) := by decide +kernel
theorem dX3_move_63 : decode cX3_move 63 = .ok (.i2l, 1) := by decide +kernel
theorem dX3_move_64 : decode cX3_move 64 = .ok (.iload_n 3, 1) := by decide +kernel
theorem dX3_move_65 : decode cX3_move 65 = .ok (.invokevirtual 76, 3) := by decide +kernel
theorem dX3_move_68 : decode cX3_move 68 = .ok (.ireturn, 1) := by decide +kernel
theorem dX3_round_0 : decode cX3_round 0 = .ok (.aload_n 0, 1) := by decide +kernel
theorem dX3_round_1 : decode cX3_round 1 = .ok (.iload_n 1, 1) := by decide +kernel
theorem dX3_round_2 : decode cX3_round 2 = .ok (.invokestatic 66, 3) := by decide +kernel
theorem dX3_round_5 : decode cX3_round 5 = .ok (.iload_n 2, 1) := by decide +kernel
theorem dX3_round_6 : decode cX3_round 6 = .ok (.iconst 1, 1) := by decide +kernel
theorem dX3_round_7 : decode cX3_round 7 = .ok (.bipush 6, 2) := by decide +kernel
theorem dX3_round_9 : decode cX3_round 9 = .ok (.invokestatic 34, 3) := by decide +kernel
theorem dX3_round_12 : decode cX3_round 12 = .ok (.ifCond .ne 13, 3) := by decide +kernel
theorem dX3_round_15 : decode cX3_round 15 = .ok (.iload_n 3, 1) := by decide +kernel
theorem dX3_round_16 : decode cX3_round 16 = .ok (.iconst 0, 1) := by decide +kernel
theorem dX3_round_17 : decode cX3_round 17 = .ok (.bipush 7, 2) := by decide +kernel
theorem dX3_round_19 : decode cX3_round 19 = .ok (.invokestatic 34, 3) := by decide +kernel
theorem dX3_round_22 : decode cX3_round 22 = .ok (.ifCond .eq 7, 3) := by decide +kernel
theorem dX3_round_25 : decode cX3_round 25 = .ok (.iconst 1, 1) := by decide +kernel
theorem dX3_round_26 : decode cX3_round 26 = .ok (.goto 4, 3) := by decide +kernel
theorem dX3_round_29 : decode cX3_round 29 = .ok (.iconst 0, 1) := by decide +kernel
theorem dX3_round_30 : decode cX3_round 30 = .ok (.invokevirtual 72, 3) := by decide +kernel
theorem dX3_round_33 : decode cX3_round 33 = .ok (.ifCond .eq 5, 3) := by decide +kernel
theorem dX3_round_36 : decode cX3_round 36 = .ok (.iconst 0, 1) := by decide +kernel
theorem dX3_round_37 : decode cX3_round 37 = .ok (.ireturn, 1) := by decide +kernel
theorem dX3_round_38 : decode cX3_round 38 = .ok (.aload_n 0, 1) := by decide +kernel
theorem dX3_round_39 : decode cX3_round 39 = .ok (.getfield 9, 3) := by decide +kernel
theorem dX3_round_42 : decode cX3_round 42 = .ok (.iload_n 1, 1) := by decide +kernel
theorem dX3_round_43 : decode cX3_round 43 = .ok (.iaload, 1) := by decide +kernel
theorem dX3_round_44 : decode cX3_round 44 = .ok (.i2l, 1) := by decide +kernel
theorem dX3_round_45 : decode cX3_round 45 = .ok (.invokestatic 97, 3) := by decide +kernel
theorem dX3_round_48 : decode cX3_round 48 = .ok (.iload_n 2, 1) := by decide +kernel
theorem dX3_round_49 : decode cX3_round 49 = .ok (.isub, 1) := by decide +kernel
theorem dX3_round_50 : decode cX3_round 50 = .ok (.istore 4, 2) := by decide +kernel
theorem dX3_round_52 : decode cX3_round 52 = .ok (.iload 4, 2) := by decide +kernel
theorem dX3_round_54 : decode cX3_round 54 = .ok (.ifCond .gt 22, 3) := by decide +kernel
theorem dX3_round_57 : decode cX3_round 57 = .ok (.aload_n 0, 1) := by decide +kernel
theorem dX3_round_58 : decode cX3_round 58 = .ok (.iload_n 1, 1) := by decide +kernel
theorem dX3_round_59 : decode cX3_round 59 = .ok (.aload_n 0, 1) := by decide +kernel
theorem dX3_round_60 : decode cX3_round 60 = .ok (.getfield 9, 3) := by decide +kernel
theorem dX3_round_63 : decode cX3_round 63 = .ok (.iload_n 1, 1) := by decide +kernel
theorem dX3_round_64 : decode cX3_round 64 = .ok (.iaload, 1) := by decide +kernel
theorem dX3_round_65 : decode cX3_round 65 = .ok (.i2l, 1) := by decide +kernel
theorem dX3_round_66 : decode cX3_round 66 = .ok (.aload_n 0, 1) := by decide +kernel
theorem dX3_round_67 : decode cX3_round 67 = .ok (.getfield 15, 3) := by decide +kernel
theorem dX3_round_70 : decode cX3_round 70 = .ok (.iload_n 1, 1) := by decide +kernel
theorem dX3_round_71 : decode cX3_round 71 = .ok (.iaload, 1) := by decide +kernel
theorem dX3_round_72 : decode cX3_round 72 = .ok (.invokevirtual 76, 3) := by decide +kernel
theorem dX3_round_75 : decode cX3_round 75 = .ok (.ireturn, 1) := by decide +kernel
theorem dX3_round_76 : decode cX3_round 76 = .ok (.aload_n 0, 1) := by decide +kernel
theorem dX3_round_77 : decode cX3_round 77 = .ok (.getfield 9, 3) := by decide +kernel
theorem dX3_round_80 : decode cX3_round 80 = .ok (.iload_n 1, 1) := by decide +kernel
theorem dX3_round_81 : decode cX3_round 81 = .ok (.iaload, 1) := by decide +kernel
theorem dX3_round_82 : decode cX3_round 82 = .ok (.i2l, 1) := by decide +kernel
theorem dX3_round_83 : decode cX3_round 83 = .ok (.iload 4, 2) := by decide +kernel
theorem dX3_round_85 : decode cX3_round 85 = .ok (.invokestatic 58, 3) := by decide +kernel
theorem dX3_round_88 : decode cX3_round 88 = .ok (.iload_n 3, 1) := by decide +kernel
theorem dX3_round_89 : decode cX3_round 89 = .ok (.invokestatic 90, 3) := by decide +kernel
theorem dX3_round_92 : decode cX3_round 92 = .ok (.lstore 5, 2) := by decide +kernel
theorem dX3_round_94 : decode cX3_round 94 = .ok (.lload 5, 2) := by decide +kernel
theorem dX3_round_96 : decode cX3_round 96 = .ok (.ldc2_w 44, 3) := by decide +kernel
theorem dX3_round_99 : decode cX3_round 99 = .ok (.lcmp, 1) := by decide +kernel
theorem dX3_round_100 : decode cX3_round 100 = .ok (.ifCond .ne 8, 3) := by decide +kernel
theorem dX3_round_103 : decode cX3_round 103 = .ok (.aload_n 0, 1) := by decide +kernel
theorem dX3_round_104 : decode cX3_round 104 = .ok (.invokevirtual 54, 3) := by decide +kernel
theorem dX3_round_107 : decode cX3_round 107 = .ok (.ireturn, 1) := by decide +kernel
theorem dX3_round_108 : decode cX3_round 108 = .ok (.aload_n 0, 1) := by decide +kernel
theorem dX3_round_109 : decode cX3_round 109 = .ok (.getfield 15, 3) := by decide +kernel
theorem dX3_round_112 : decode cX3_round 112 = .ok (.iload_n 1, 1) := by decide +kernel
theorem dX3_round_113 : decode cX3_round 113 = .ok (.iaload, 1) := by decide +kernel
theorem dX3_round_114 : decode cX3_round 114 = .ok (.iload 4, 2) := by decide +kernel
theorem dX3_round_116 : decode cX3_round 116 = .ok (.isub, 1) := by decide +kernel
theorem dX3_round_117 : decode cX3_round 117 = .ok (.istore 7, 2) := by decide +kernel
theorem dX3_round_119 : decode cX3_round 119 = .ok (.lload 5, 2) := by decide +kernel
theorem dX3_round_121 : decode cX3_round 121 = .ok (.invokestatic 97, 3) := by decide +kernel
theorem dX3_round_124 : decode cX3_round 124 = .ok (.iload_n 2, 1) := by decide +kernel
theorem dX3_round_125 : decode cX3_round 125 = .ok (.if_icmp .le 14, 3) := by decide +kernel
theorem dX3_round_128 : decode cX3_round 128 = .ok (.lload 5, 2) := by decide +kernel
theorem dX3_round_130 : decode cX3_round 130 = .ok (.ldc2_w 38, 3) := by decide +kernel
theorem dX3_round_133 : decode cX3_round 133 = .ok (.ldiv, 1) := by decide +kernel
theorem dX3_round_134 : decode cX3_round 134 = .ok (.lstore 5, 2) := by decide +kernel
theorem dX3_round_136 : decode cX3_round 136 = .ok (.iinc 7 (-1), 3) := by decide +kernel
theorem dX3_round_139 : decode cX3_round 139 = .ok (.iload 7, 2) := by decide +kernel
theorem dX3_round_141 : decode cX3_round 141 = .ok (.ifCond .ge 21, 3) := by decide +kernel
theorem dX3_round_144 : decode cX3_round 144 = .ok (.aload_n 0, 1) := by decide +kernel
theorem dX3_round_145 : decode cX3_round 145 = .ok (.iload_n 1, 1) := by decide +kernel
theorem dX3_round_146 : decode cX3_round 146 = .ok (.lload 5, 2) := by decide +kernel
theorem dX3_round_148 : decode cX3_round 148 = .ok (.iload 7, 2) := by decide +kernel
theorem dX3_round_150 : decode cX3_round 150 = .ok (.ineg, 1) := by decide +kernel
theorem dX3_round_151 : decode cX3_round 151 = .ok (.invokestatic 58, 3) := by decide +kernel
theorem dX3_round_154 : decode cX3_round 154 = .ok (.lmul, 1) := by decide +kernel
theorem dX3_round_155 : decode cX3_round 155 = .ok (.iconst 0, 1) := by decide +kernel
theorem dX3_round_156 : decode cX3_round 156 = .ok (.invokevirtual 76, 3) := by decide +kernel
theorem dX3_round_159 : decode cX3_round 159 = .ok (.goto 12, 3) := by decide +kernel
theorem dX3_round_162 : decode cX3_round 162 = .ok (.aload_n 0, 1) := by decide +kernel
theorem dX3_round_163 : decode cX3_round 163 = .ok (.iload_n 1, 1) := by decide +kernel
theorem dX3_round_164 : decode cX3_round 164 = .ok (.lload 5, 2) := by decide +kernel
theorem dX3_round_166 : decode cX3_round 166 = .ok (.iload 7, 2) := by decide +kernel
theorem dX3_round_168 : decode cX3_round 168 = .ok (.invokevirtual 76, 3) := by decide +kernel
theorem dX3_round_171 : decode cX3_round 171 = .ok (.ireturn, 1) := by decide +kernel
theorem dX3_greater_0 : decode cX3_greater 0 = .ok (.aload_n 0, 1) := by decide +kernel
theorem dX3_greater_1 : decode cX3_greater 1 = .ok (.aload_n 0, 1) := by decide +kernel
theorem dX3_greater_2 : decode cX3_greater 2 = .ok (.iload_n 1, 1) := by decide +kernel
theorem dX3_greater_3 : decode cX3_greater 3 = .ok (.iload_n 2, 1) := by decide +kernel
theorem dX3_greater_4 : decode cX3_greater 4 = .ok (.iload_n 3, 1) := by decide +kernel
theorem dX3_greater_5 : decode cX3_greater 5 = .ok (.invokevirtual 80, 3) := by decide +kernel
theorem dX3_greater_8 : decode cX3_greater 8 = .ok (.iconst 0, 1) := by decide +kernel
theorem dX3_greater_9 : decode cX3_greater 9 = .ok (.invokevirtual 72, 3) := by decide +kernel
theorem dX3_greater_12 : decode cX3_greater 12 = .ok (.ifCond .eq 5, 3) := by decide +kernel
theorem dX3_greater_15 : decode cX3_greater 15 = .ok (.iconst 0, 1) := by decide +kernel
theorem dX3_greater_16 : decode cX3_greater 16 = .ok (.ireturn, 1) := by decide +kernel
theorem dX3_greater_17 : decode cX3_greater 17 = .ok (.aload_n 0, 1) := by decide +kernel
theorem dX3_greater_18 : decode cX3_greater 18 = .ok (.iload_n 1, 1) := by decide +kernel
theorem dX3_greater_19 : decode cX3_greater 19 = .ok (.iload_n 2, 1) := by decide +kernel
theorem dX3_greater_20 : decode cX3_greater 20 = .ok (.invokevirtual 101, 3) := by decide +kernel
theorem dX3_greater_23 : decode cX3_greater 23 = .ok (.ifCond .ge 7, 3) := by decide +kernel
theorem dX3_greater_26 : decode cX3_greater 26 = .ok (.iload_n 2, 1) := by decide +kernel
theorem dX3_greater_27 : decode cX3_greater 27 = .ok (.goto 4, 3) := by decide +kernel
theorem dX3_greater_30 : decode cX3_greater 30 = .ok (.iload_n 1, 1) := by decide +kernel
theorem dX3_greater_31 : decode cX3_greater 31 = .ok (.istore 4, 2) := by decide +kernel
theorem dX3_greater_33 : decode cX3_greater 33 = .ok (.aload_n 0, 1) := by decide +kernel
theorem dX3_greater_34 : decode cX3_greater 34 = .ok (.iload_n 3, 1) := by decide +kernel
theorem dX3_greater_35 : decode cX3_greater 35 = .ok (.aload_n 0, 1) := by decide +kernel
theorem dX3_greater_36 : decode cX3_greater 36 = .ok (.getfield 9, 3) := by decide +kernel
theorem dX3_greater_39 : decode cX3_greater 39 = .ok (.iload 4, 2) := by decide +kernel
theorem dX3_greater_41 : decode cX3_greater 41 = .ok (.iaload, 1) := by decide +kernel
theorem dX3_greater_42 : decode cX3_greater 42 = .ok (.i2l, 1) := by decide +kernel
theorem dX3_greater_43 : decode cX3_greater 43 = .ok (.aload_n 0, 1) := by decide +kernel
theorem dX3_greater_44 : decode cX3_greater 44 = .ok (.getfield 15, 3) := by decide +kernel
theorem dX3_greater_47 : decode cX3_greater 47 = .ok (.iload 4, 2) := by decide +kernel
theorem dX3_greater_49 : decode cX3_greater 49 = .ok (.iaload, 1) := by decide +kernel
theorem dX3_greater_50 : decode cX3_greater 50 = .ok (.invokevirtual 76, 3) := by decide +kernel
theorem dX3_greater_53 : decode cX3_greater 53 = .ok (.ireturn, 1) := by decide +kernel
theorem dX3_lesser_0 : decode cX3_lesser 0 = .ok (.aload_n 0, 1) := by decide +kernel
theorem dX3_lesser_1 : decode cX3_lesser 1 = .ok (.aload_n 0, 1) := by decide +kernel
theorem dX3_lesser_2 : decode cX3_lesser 2 = .ok (.iload_n 1, 1) := by decide +kernel
theorem dX3_lesser_3 : decode cX3_lesser 3 = .ok (.iload_n 2, 1) := by decide +kernel
theorem dX3_lesser_4 : decode cX3_lesser 4 = .ok (.iload_n 3, 1) := by decide +kernel
theorem dX3_lesser_5 : decode cX3_lesser 5 = .ok (.invokevirtual 80, 3) := by decide +kernel
theorem dX3_lesser_8 : decode cX3_lesser 8 = .ok (.iconst 0, 1) := by decide +kernel
theorem dX3_lesser_9 : decode cX3_lesser 9 = .ok (.invokevirtual 72, 3) := by decide +kernel
theorem dX3_lesser_12 : decode cX3_lesser 12 = .ok (.ifCond .eq 5, 3) := by decide +kernel
theorem dX3_lesser_15 : decode cX3_lesser 15 = .ok (.iconst 0, 1) := by decide +kernel
theorem dX3_lesser_16 : decode cX3_lesser 16 = .ok (.ireturn, 1) := by decide +kernel
theorem dX3_lesser_17 : decode cX3_lesser 17 = .ok (.aload_n 0, 1) := by decide +kernel
theorem dX3_lesser_18 : decode cX3_lesser 18 = .ok (.iload_n 1, 1) := by decide +kernel
theorem dX3_lesser_19 : decode cX3_lesser 19 = .ok (.iload_n 2, 1) := by decide +kernel
theorem dX3_lesser_20 : decode cX3_lesser 20 = .ok (.invokevirtual 101, 3) := by decide +kernel
theorem dX3_lesser_23 : decode cX3_lesser 23 = .ok (.ifCond .le 7, 3) := by decide +kernel
theorem dX3_lesser_26 : decode cX3_lesser 26 = .ok (.iload_n 2, 1) := by decide +kernel
theorem dX3_lesser_27 : decode cX3_lesser 27 = .ok (.goto 4, 3) := by decide +kernel
theorem dX3_lesser_30 : decode cX3_lesser 30 = .ok (.iload_n 1, 1) := by decide +kernel
theorem dX3_lesser_31 : decode cX3_lesser 31 = .ok (.istore 4, 2) := by decide +kernel
theorem dX3_lesser_33 : decode cX3_lesser 33 = .ok (.aload_n 0, 1) := by decide +kernel
theorem dX3_lesser_34 : decode cX3_lesser 34 = .ok (.iload_n 3, 1) := by decide +kernel
theorem dX3_lesser_35 : decode cX3_lesser 35 = .ok (.aload_n 0, 1) := by decide +kernel
theorem dX3_lesser_36 : decode cX3_lesser 36 = .ok (.getfield 9, 3) := by decide +kernel
theorem dX3_lesser_39 : decode cX3_lesser 39 = .ok (.iload 4, 2) := by decide +kernel
theorem dX3_lesser_41 : decode cX3_lesser 41 = .ok (.iaload, 1) := by decide +kernel
theorem dX3_lesser_42 : decode cX3_lesser 42 = .ok (.i2l, 1) := by decide +kernel
theorem dX3_lesser_43 : decode cX3_lesser 43 = .ok (.aload_n 0, 1) := by decide +kernel
theorem dX3_lesser_44 : decode cX3_lesser 44 = .ok (.getfield 15, 3) := by decide +kernel
theorem dX3_lesser_47 : decode cX3_lesser 47 = .ok (.iload 4, 2) := by decide +kernel
theorem dX3_lesser_49 : decode cX3_lesser 49 = .ok (.iaload, 1) := by decide +kernel
theorem dX3_lesser_50 : decode cX3_lesser 50 = .ok (.invokevirtual 76, 3) := by decide +kernel
theorem dX3_lesser_53 : decode cX3_lesser 53 = .ok (.ireturn, 1) := by decide +kernel
theorem dX3_cutOf_0 : decode cX3_cutOf 0 = .ok (.aload_n 0, 1) := by decide +kernel
theorem dX3_cutOf_1 : decode cX3_cutOf 1 = .ok (.getfield 18, 3) := by decide +kernel
theorem dX3_cutOf_4 : decode cX3_cutOf 4 = .ok (.iload_n 1, 1) := by decide +kernel
theorem dX3_cutOf_5 : decode cX3_cutOf 5 = .ok (.iaload, 1) := by decide +kernel
theorem dX3_cutOf_6 : decode cX3_cutOf 6 = .ok (.i2l, 1) := by decide +kernel
theorem dX3_cutOf_7 : decode cX3_cutOf 7 = .ok (.iload_n 3, 1) := by decide +kernel
theorem dX3_cutOf_8 : decode cX3_cutOf 8 = .ok (.invokestatic 58, 3) := by decide +kernel
theorem dX3_cutOf_11 : decode cX3_cutOf 11 = .ok (.lmul, 1) := by decide +kernel
theorem dX3_cutOf_12 : decode cX3_cutOf 12 = .ok (.lstore 5, 2) := by decide +kernel
theorem dX3_cutOf_14 : decode cX3_cutOf 14 = .ok (.iload_n 2, 1) := by decide +kernel
theorem dX3_cutOf_15 : decode cX3_cutOf 15 = .ok (.ifCond .eq 9, 3) := by decide +kernel
theorem dX3_cutOf_18 : decode cX3_cutOf 18 = .ok (.lload 5, 2) := by decide +kernel
theorem dX3_cutOf_20 : decode cX3_cutOf 20 = .ok (.lneg, 1) := by decide +kernel
theorem dX3_cutOf_21 : decode cX3_cutOf 21 = .ok (.goto 5, 3) := by decide +kernel
theorem dX3_cutOf_24 : decode cX3_cutOf 24 = .ok (.lload 5, 2) := by decide +kernel
theorem dX3_cutOf_26 : decode cX3_cutOf 26 = .ok (.aload_n 0, 1) := by decide +kernel
theorem dX3_cutOf_27 : decode cX3_cutOf 27 = .ok (.getfield 21, 3) := by decide +kernel
theorem dX3_cutOf_30 : decode cX3_cutOf 30 = .ok (.iload_n 1, 1) := by decide +kernel
theorem dX3_cutOf_31 : decode cX3_cutOf 31 = .ok (.iaload, 1) := by decide +kernel
theorem dX3_cutOf_32 : decode cX3_cutOf 32 = .ok (.i2l, 1) := by decide +kernel
theorem dX3_cutOf_33 : decode cX3_cutOf 33 = .ok (.iload 4, 2) := by decide +kernel
theorem dX3_cutOf_35 : decode cX3_cutOf 35 = .ok (.invokestatic 90, 3) := by decide +kernel
theorem dX3_cutOf_38 : decode cX3_cutOf 38 = .ok (.lreturn, 1) := by decide +kernel
theorem dX3_cut_0 : decode cX3_cut 0 = .ok (.aload_n 0, 1) := by decide +kernel
theorem dX3_cut_1 : decode cX3_cut 1 = .ok (.iload_n 1, 1) := by decide +kernel
theorem dX3_cut_2 : decode cX3_cut 2 = .ok (.invokestatic 104, 3) := by decide +kernel
theorem dX3_cut_5 : decode cX3_cut 5 = .ok (.ifCond .ne 11, 3) := by decide +kernel
theorem dX3_cut_8 : decode cX3_cut 8 = .ok (.iload 5, 2) := by decide +kernel
theorem dX3_cut_10 : decode cX3_cut 10 = .ok (.invokestatic 66, 3) := by decide +kernel
theorem dX3_cut_13 : decode cX3_cut 13 = .ok (.ifCond .eq 7, 3) := by decide +kernel
theorem dX3_cut_16 : decode cX3_cut 16 = .ok (.iconst 1, 1) := by decide +kernel
theorem dX3_cut_17 : decode cX3_cut 17 = .ok (.goto 4, 3) := by decide +kernel
theorem dX3_cut_20 : decode cX3_cut 20 = .ok (.iconst 0, 1) := by decide +kernel
theorem dX3_cut_21 : decode cX3_cut 21 = .ok (.iload_n 3, 1) := by decide +kernel
theorem dX3_cut_22 : decode cX3_cut 22 = .ok (.iload 4, 2) := by decide +kernel
theorem dX3_cut_24 : decode cX3_cut 24 = .ok (.iconst 3, 1) := by decide +kernel
theorem dX3_cut_25 : decode cX3_cut 25 = .ok (.invokestatic 87, 3) := by decide +kernel
theorem dX3_cut_28 : decode cX3_cut 28 = .ok (.invokevirtual 72, 3) := by decide +kernel
theorem dX3_cut_31 : decode cX3_cut 31 = .ok (.ifCond .eq 5, 3) := by decide +kernel
theorem dX3_cut_34 : decode cX3_cut 34 = .ok (.iconst 0, 1) := by decide +kernel
theorem dX3_cut_35 : decode cX3_cut 35 = .ok (.ireturn, 1) := by decide +kernel
theorem dX3_cut_36 : decode cX3_cut 36 = .ok (.aload_n 0, 1) := by decide +kernel
theorem dX3_cut_37 : decode cX3_cut 37 = .ok (.iload 5, 2) := by decide +kernel
theorem dX3_cut_39 : decode cX3_cut 39 = .ok (.aload_n 0, 1) := by decide +kernel
theorem dX3_cut_40 : decode cX3_cut 40 = .ok (.iload_n 1, 1) := by decide +kernel
theorem dX3_cut_41 : decode cX3_cut 41 = .ok (.iload_n 2, 1) := by decide +kernel
theorem dX3_cut_42 : decode cX3_cut 42 = .ok (.iload_n 3, 1) := by decide +kernel
theorem dX3_cut_43 : decode cX3_cut 43 = .ok (.iload 4, 2) := by decide +kernel
theorem dX3_cut_45 : decode cX3_cut 45 = .ok (.invokevirtual 107, 3) := by decide +kernel
theorem dX3_cut_48 : decode cX3_cut 48 = .ok (.iload_n 3, 1) := by decide +kernel
theorem dX3_cut_49 : decode cX3_cut 49 = .ok (.invokevirtual 76, 3) := by decide +kernel
theorem dX3_cut_52 : decode cX3_cut 52 = .ok (.ireturn, 1) := by decide +kernel
theorem dX3_count_0 : decode cX3_count 0 = .ok (.aload_n 0, 1) := by decide +kernel
theorem dX3_count_1 : decode cX3_count 1 = .ok (.iload_n 1, 1) := by decide +kernel
theorem dX3_count_2 : decode cX3_count 2 = .ok (.invokestatic 66, 3) := by decide +kernel
theorem dX3_count_5 : decode cX3_count 5 = .ok (.iconst 0, 1) := by decide +kernel
theorem dX3_count_6 : decode cX3_count 6 = .ok (.invokevirtual 72, 3) := by decide +kernel
theorem dX3_count_9 : decode cX3_count 9 = .ok (.ifCond .eq 7, 3) := by decide +kernel
theorem dX3_count_12 : decode cX3_count 12 = .ok (.iconst 0, 1) := by decide +kernel
theorem dX3_count_13 : decode cX3_count 13 = .ok (.goto 9, 3) := by decide +kernel
theorem dX3_count_16 : decode cX3_count 16 = .ok (.aload_n 0, 1) := by decide +kernel
theorem dX3_count_17 : decode cX3_count 17 = .ok (.getfield 9, 3) := by decide +kernel
theorem dX3_count_20 : decode cX3_count 20 = .ok (.iload_n 1, 1) := by decide +kernel
theorem dX3_count_21 : decode cX3_count 21 = .ok (.iaload, 1) := by decide +kernel
theorem dX3_count_22 : decode cX3_count 22 = .ok (.ireturn, 1) := by decide +kernel
theorem dX3_places_0 : decode cX3_places 0 = .ok (.aload_n 0, 1) := by decide +kernel
theorem dX3_places_1 : decode cX3_places 1 = .ok (.iload_n 1, 1) := by decide +kernel
theorem dX3_places_2 : decode cX3_places 2 = .ok (.invokestatic 66, 3) := by decide +kernel
theorem dX3_places_5 : decode cX3_places 5 = .ok (.iconst 0, 1) := by decide +kernel
theorem dX3_places_6 : decode cX3_places 6 = .ok (.invokevirtual 72, 3) := by decide +kernel
theorem dX3_places_9 : decode cX3_places 9 = .ok (.ifCond .eq 7, 3) := by decide +kernel
theorem dX3_places_12 : decode cX3_places 12 = .ok (.iconst 0, 1) := by decide +kernel
theorem dX3_places_13 : decode cX3_places 13 = .ok (.goto 9, 3) := by decide +kernel
theorem dX3_places_16 : decode cX3_places 16 = .ok (.aload_n 0, 1) := by decide +kernel
theorem dX3_places_17 : decode cX3_places 17 = .ok (.getfield 15, 3) := by decide +kernel
theorem dX3_places_20 : decode cX3_places 20 = .ok (.iload_n 1, 1) := by decide +kernel
theorem dX3_places_21 : decode cX3_places 21 = .ok (.iaload, 1) := by decide +kernel
theorem dX3_places_22 : decode cX3_places 22 = .ok (.ireturn, 1) := by decide +kernel
theorem dX3_digits_0 : decode cX3_digits 0 = .ok (.aload_n 0, 1) := by decide +kernel
theorem dX3_digits_1 : decode cX3_digits 1 = .ok (.iload_n 1, 1) := by decide +kernel
theorem dX3_digits_2 : decode cX3_digits 2 = .ok (.invokestatic 66, 3) := by decide +kernel
theorem dX3_digits_5 : decode cX3_digits 5 = .ok (.iconst 0, 1) := by decide +kernel
theorem dX3_digits_6 : decode cX3_digits 6 = .ok (.invokevirtual 72, 3) := by decide +kernel
theorem dX3_digits_9 : decode cX3_digits 9 = .ok (.ifCond .eq 7, 3) := by decide +kernel
theorem dX3_digits_12 : decode cX3_digits 12 = .ok (.iconst 0, 1) := by decide +kernel
theorem dX3_digits_13 : decode cX3_digits 13 = .ok (.goto 13, 3) := by decide +kernel
theorem dX3_digits_16 : decode cX3_digits 16 = .ok (.aload_n 0, 1) := by decide +kernel
theorem dX3_digits_17 : decode cX3_digits 17 = .ok (.getfield 9, 3) := by decide +kernel
theorem dX3_digits_20 : decode cX3_digits 20 = .ok (.iload_n 1, 1) := by decide +kernel
theorem dX3_digits_21 : decode cX3_digits 21 = .ok (.iaload, 1) := by decide +kernel
theorem dX3_digits_22 : decode cX3_digits 22 = .ok (.i2l, 1) := by decide +kernel
theorem dX3_digits_23 : decode cX3_digits 23 = .ok (.invokestatic 97, 3) := by decide +kernel
theorem dX3_digits_26 : decode cX3_digits 26 = .ok (.ireturn, 1) := by decide +kernel
theorem dX3_sign_0 : decode cX3_sign 0 = .ok (.aload_n 0, 1) := by decide +kernel
theorem dX3_sign_1 : decode cX3_sign 1 = .ok (.iload_n 1, 1) := by decide +kernel
theorem dX3_sign_2 : decode cX3_sign 2 = .ok (.invokestatic 66, 3) := by decide +kernel
theorem dX3_sign_5 : decode cX3_sign 5 = .ok (.iconst 0, 1) := by decide +kernel
theorem dX3_sign_6 : decode cX3_sign 6 = .ok (.invokevirtual 72, 3) := by decide +kernel
theorem dX3_sign_9 : decode cX3_sign 9 = .ok (.ifCond .eq 7, 3) := by decide +kernel
theorem dX3_sign_12 : decode cX3_sign 12 = .ok (.iconst 0, 1) := by decide +kernel
theorem dX3_sign_13 : decode cX3_sign 13 = .ok (.goto 14, 3) := by decide +kernel
theorem dX3_sign_16 : decode cX3_sign 16 = .ok (.aload_n 0, 1) := by decide +kernel
theorem dX3_sign_17 : decode cX3_sign 17 = .ok (.getfield 9, 3) := by decide +kernel
theorem dX3_sign_20 : decode cX3_sign 20 = .ok (.iload_n 1, 1) := by decide +kernel
theorem dX3_sign_21 : decode cX3_sign 21 = .ok (.iaload, 1) := by decide +kernel
theorem dX3_sign_22 : decode cX3_sign 22 = .ok (.i2l, 1) := by decide +kernel
theorem dX3_sign_23 : decode cX3_sign 23 = .ok (.lconst 0, 1) := by decide +kernel
theorem dX3_sign_24 : decode cX3_sign 24 = .ok (.invokestatic 48, 3) := by decide +kernel
theorem dX3_sign_27 : decode cX3_sign 27 = .ok (.ireturn, 1) := by decide +kernel
theorem dX3_textOf_0 : decode cX3_textOf 0 = .ok (.new 111, 3) := by decide +kernel
theorem dX3_textOf_3 : decode cX3_textOf 3 = .ok (.dup, 1) := by decide +kernel
theorem dX3_textOf_4 : decode cX3_textOf 4 = .ok (.bipush 24, 2) := by decide +kernel
theorem dX3_textOf_6 : decode cX3_textOf 6 = .ok (.invokespecial 113, 3) := by decide +kernel
theorem dX3_textOf_9 : decode cX3_textOf 9 = .ok (.astore_n 3, 1) := by decide +kernel
theorem dX3_textOf_10 : decode cX3_textOf 10 = .ok (.lload_n 0, 1) := by decide +kernel
theorem dX3_textOf_11 : decode cX3_textOf 11 = .ok (.lconst 0, 1) := by decide +kernel
theorem dX3_textOf_12 : decode cX3_textOf 12 = .ok (.lcmp, 1) := by decide +kernel
theorem dX3_textOf_13 : decode cX3_textOf 13 = .ok (.ifCond .ge 10, 3) := by decide +kernel
theorem dX3_textOf_16 : decode cX3_textOf 16 = .ok (.aload_n 3, 1) := by decide +kernel
theorem dX3_textOf_17 : decode cX3_textOf 17 = .ok (.bipush 45, 2) := by decide +kernel
theorem dX3_textOf_19 : decode cX3_textOf 19 = .ok (.invokevirtual 116, 3) := by decide +kernel
theorem dX3_textOf_22 : decode cX3_textOf 22 = .ok (.pop, 1) := by decide +kernel
theorem dX3_textOf_23 : decode cX3_textOf 23 = .ok (.lload_n 0, 1) := by decide +kernel
theorem dX3_textOf_24 : decode cX3_textOf 24 = .ok (.invokestatic 97, 3) := by decide +kernel
theorem dX3_textOf_27 : decode cX3_textOf 27 = .ok (.iload_n 2, 1) := by decide +kernel
theorem dX3_textOf_28 : decode cX3_textOf 28 = .ok (.if_icmp .le 10, 3) := by decide +kernel
theorem dX3_textOf_31 : decode cX3_textOf 31 = .ok (.lload_n 0, 1) := by decide +kernel
theorem dX3_textOf_32 : decode cX3_textOf 32 = .ok (.invokestatic 97, 3) := by decide +kernel
theorem dX3_textOf_35 : decode cX3_textOf 35 = .ok (.goto 6, 3) := by decide +kernel
theorem dX3_textOf_38 : decode cX3_textOf 38 = .ok (.iload_n 2, 1) := by decide +kernel
theorem dX3_textOf_39 : decode cX3_textOf 39 = .ok (.iconst 1, 1) := by decide +kernel
theorem dX3_textOf_40 : decode cX3_textOf 40 = .ok (.iadd, 1) := by decide +kernel
theorem dX3_textOf_41 : decode cX3_textOf 41 = .ok (.istore 4, 2) := by decide +kernel
theorem dX3_textOf_43 : decode cX3_textOf 43 = .ok (.iload 4, 2) := by decide +kernel
theorem dX3_textOf_45 : decode cX3_textOf 45 = .ok (.iconst 1, 1) := by decide +kernel
theorem dX3_textOf_46 : decode cX3_textOf 46 = .ok (.isub, 1) := by decide +kernel
theorem dX3_textOf_47 : decode cX3_textOf 47 = .ok (.istore 5, 2) := by decide +kernel
theorem dX3_textOf_49 : decode cX3_textOf 49 = .ok (.iload 5, 2) := by decide +kernel
theorem dX3_textOf_51 : decode cX3_textOf 51 = .ok (.ifCond .lt 51, 3) := by decide +kernel
theorem dX3_textOf_54 : decode cX3_textOf 54 = .ok (.aload_n 3, 1) := by decide +kernel
theorem dX3_textOf_55 : decode cX3_textOf 55 = .ok (.ldc2_w 120, 3) := by decide +kernel
theorem dX3_textOf_58 : decode cX3_textOf 58 = .ok (.lload_n 0, 1) := by decide +kernel
theorem dX3_textOf_59 : decode cX3_textOf 59 = .ok (.invokestatic 40, 3) := by decide +kernel
theorem dX3_textOf_62 : decode cX3_textOf 62 = .ok (.iload 5, 2) := by decide +kernel
theorem dX3_textOf_64 : decode cX3_textOf 64 = .ok (.invokestatic 58, 3) := by decide +kernel
theorem dX3_textOf_67 : decode cX3_textOf 67 = .ok (.ldiv, 1) := by decide +kernel
theorem dX3_textOf_68 : decode cX3_textOf 68 = .ok (.ldc2_w 38, 3) := by decide +kernel
theorem dX3_textOf_71 : decode cX3_textOf 71 = .ok (.lrem, 1) := by decide +kernel
theorem dX3_textOf_72 : decode cX3_textOf 72 = .ok (.ladd, 1) := by decide +kernel
theorem dX3_textOf_73 : decode cX3_textOf 73 = .ok (.l2i, 1) := by decide +kernel
theorem dX3_textOf_74 : decode cX3_textOf 74 = .ok (.i2c, 1) := by decide +kernel
theorem dX3_textOf_75 : decode cX3_textOf 75 = .ok (.invokevirtual 116, 3) := by decide +kernel
theorem dX3_textOf_78 : decode cX3_textOf 78 = .ok (.pop, 1) := by decide +kernel
theorem dX3_textOf_79 : decode cX3_textOf 79 = .ok (.iload 5, 2) := by decide +kernel
theorem dX3_textOf_81 : decode cX3_textOf 81 = .ok (.iload_n 2, 1) := by decide +kernel
theorem dX3_textOf_82 : decode cX3_textOf 82 = .ok (.if_icmp .ne 14, 3) := by decide +kernel
theorem dX3_textOf_85 : decode cX3_textOf 85 = .ok (.iload_n 2, 1) := by decide +kernel
theorem dX3_textOf_86 : decode cX3_textOf 86 = .ok (.ifCond .le 10, 3) := by decide +kernel
theorem dX3_textOf_89 : decode cX3_textOf 89 = .ok (.aload_n 3, 1) := by decide +kernel
theorem dX3_textOf_90 : decode cX3_textOf 90 = .ok (.bipush 46, 2) := by decide +kernel
theorem dX3_textOf_92 : decode cX3_textOf 92 = .ok (.invokevirtual 116, 3) := by decide +kernel
theorem dX3_textOf_95 : decode cX3_textOf 95 = .ok (.pop, 1) := by decide +kernel
theorem dX3_textOf_96 : decode cX3_textOf 96 = .ok (.iinc 5 (-1), 3) := by decide +kernel
theorem dX3_textOf_99 : decode cX3_textOf 99 = .ok (.goto (-50), 3) := by decide +kernel
theorem dX3_textOf_102 : decode cX3_textOf 102 = .ok (.aload_n 3, 1) := by decide +kernel
theorem dX3_textOf_103 : decode cX3_textOf 103 = .ok (.invokevirtual 122, 3) := by decide +kernel
theorem dX3_textOf_106 : decode cX3_textOf 106 = .ok (.areturn, 1) := by decide +kernel
theorem dX3_text_0 : decode cX3_text 0 = .ok (.aload_n 0, 1) := by decide +kernel
theorem dX3_text_1 : decode cX3_text 1 = .ok (.iload_n 1, 1) := by decide +kernel
theorem dX3_text_2 : decode cX3_text 2 = .ok (.invokestatic 66, 3) := by decide +kernel
theorem dX3_text_5 : decode cX3_text 5 = .ok (.iload_n 2, 1) := by decide +kernel
theorem dX3_text_6 : decode cX3_text 6 = .ok (.iconst 0, 1) := by decide +kernel
theorem dX3_text_7 : decode cX3_text 7 = .ok (.iconst 1, 1) := by decide +kernel
theorem dX3_text_8 : decode cX3_text 8 = .ok (.invokestatic 34, 3) := by decide +kernel
theorem dX3_text_11 : decode cX3_text 11 = .ok (.invokevirtual 72, 3) := by decide +kernel
theorem dX3_text_14 : decode cX3_text 14 = .ok (.ifCond .eq 8, 3) := by decide +kernel
theorem dX3_text_17 : decode cX3_text 17 = .ok (.ldc 126, 2) := by decide +kernel
theorem dX3_text_19 : decode cX3_text 19 = .ok (.goto 19, 3) := by decide +kernel
theorem dX3_text_22 : decode cX3_text 22 = .ok (.aload_n 0, 1) := by decide +kernel
theorem dX3_text_23 : decode cX3_text 23 = .ok (.getfield 9, 3) := by decide +kernel
theorem dX3_text_26 : decode cX3_text 26 = .ok (.iload_n 1, 1) := by decide +kernel
theorem dX3_text_27 : decode cX3_text 27 = .ok (.iaload, 1) := by decide +kernel
theorem dX3_text_28 : decode cX3_text 28 = .ok (.i2l, 1) := by decide +kernel
theorem dX3_text_29 : decode cX3_text 29 = .ok (.aload_n 0, 1) := by decide +kernel
theorem dX3_text_30 : decode cX3_text 30 = .ok (.getfield 15, 3) := by decide +kernel
theorem dX3_text_33 : decode cX3_text 33 = .ok (.iload_n 1, 1) := by decide +kernel
theorem dX3_text_34 : decode cX3_text 34 = .ok (.iaload, 1) := by decide +kernel
theorem dX3_text_35 : decode cX3_text 35 = .ok (.invokestatic 128, 3) := by decide +kernel
theorem dX3_text_38 : decode cX3_text 38 = .ok (.areturn, 1) := by decide +kernel
theorem dX3_order_0 : decode cX3_order 0 = .ok (.aload_n 0, 1) := by decide +kernel
theorem dX3_order_1 : decode cX3_order 1 = .ok (.iload_n 1, 1) := by decide +kernel
theorem dX3_order_2 : decode cX3_order 2 = .ok (.invokestatic 66, 3) := by decide +kernel
theorem dX3_order_5 : decode cX3_order 5 = .ok (.ifCond .ne 10, 3) := by decide +kernel
theorem dX3_order_8 : decode cX3_order 8 = .ok (.iload_n 2, 1) := by decide +kernel
theorem dX3_order_9 : decode cX3_order 9 = .ok (.invokestatic 66, 3) := by decide +kernel
theorem dX3_order_12 : decode cX3_order 12 = .ok (.ifCond .eq 7, 3) := by decide +kernel
theorem dX3_order_15 : decode cX3_order 15 = .ok (.iconst 1, 1) := by decide +kernel
theorem dX3_order_16 : decode cX3_order 16 = .ok (.goto 4, 3) := by decide +kernel
theorem dX3_order_19 : decode cX3_order 19 = .ok (.iconst 0, 1) := by decide +kernel
theorem dX3_order_20 : decode cX3_order 20 = .ok (.iconst 0, 1) := by decide +kernel
theorem dX3_order_21 : decode cX3_order 21 = .ok (.invokevirtual 72, 3) := by decide +kernel
theorem dX3_order_24 : decode cX3_order 24 = .ok (.ifCond .eq 7, 3) := by decide +kernel
theorem dX3_order_27 : decode cX3_order 27 = .ok (.iconst 0, 1) := by decide +kernel
theorem dX3_order_28 : decode cX3_order 28 = .ok (.goto 9, 3) := by decide +kernel
theorem dX3_order_31 : decode cX3_order 31 = .ok (.aload_n 0, 1) := by decide +kernel
theorem dX3_order_32 : decode cX3_order 32 = .ok (.iload_n 1, 1) := by decide +kernel
theorem dX3_order_33 : decode cX3_order 33 = .ok (.iload_n 2, 1) := by decide +kernel
theorem dX3_order_34 : decode cX3_order 34 = .ok (.invokevirtual 101, 3) := by decide +kernel
theorem dX3_order_37 : decode cX3_order 37 = .ok (.ireturn, 1) := by decide +kernel
theorem dX3_areSame_0 : decode cX3_areSame 0 = .ok (.aload_n 0, 1) := by decide +kernel
theorem dX3_areSame_1 : decode cX3_areSame 1 = .ok (.getfield 9, 3) := by decide +kernel
theorem dX3_areSame_4 : decode cX3_areSame 4 = .ok (.iload_n 1, 1) := by decide +kernel
theorem dX3_areSame_5 : decode cX3_areSame 5 = .ok (.iaload, 1) := by decide +kernel
theorem dX3_areSame_6 : decode cX3_areSame 6 = .ok (.aload_n 0, 1) := by decide +kernel
theorem dX3_areSame_7 : decode cX3_areSame 7 = .ok (.getfield 9, 3) := by decide +kernel
theorem dX3_areSame_10 : decode cX3_areSame 10 = .ok (.iload_n 2, 1) := by decide +kernel
theorem dX3_areSame_11 : decode cX3_areSame 11 = .ok (.iaload, 1) := by decide +kernel
theorem dX3_areSame_12 : decode cX3_areSame 12 = .ok (.if_icmp .ne 22, 3) := by decide +kernel
theorem dX3_areSame_15 : decode cX3_areSame 15 = .ok (.aload_n 0, 1) := by decide +kernel
theorem dX3_areSame_16 : decode cX3_areSame 16 = .ok (.getfield 15, 3) := by decide +kernel
theorem dX3_areSame_19 : decode cX3_areSame 19 = .ok (.iload_n 1, 1) := by decide +kernel
theorem dX3_areSame_20 : decode cX3_areSame 20 = .ok (.iaload, 1) := by decide +kernel
theorem dX3_areSame_21 : decode cX3_areSame 21 = .ok (.aload_n 0, 1) := by decide +kernel
theorem dX3_areSame_22 : decode cX3_areSame 22 = .ok (.getfield 15, 3) := by decide +kernel
theorem dX3_areSame_25 : decode cX3_areSame 25 = .ok (.iload_n 2, 1) := by decide +kernel
theorem dX3_areSame_26 : decode cX3_areSame 26 = .ok (.iaload, 1) := by decide +kernel
theorem dX3_areSame_27 : decode cX3_areSame 27 = .ok (.if_icmp .ne 7, 3) := by decide +kernel
theorem dX3_areSame_30 : decode cX3_areSame 30 = .ok (.iconst 1, 1) := by decide +kernel
theorem dX3_areSame_31 : decode cX3_areSame 31 = .ok (.goto 4, 3) := by decide +kernel
theorem dX3_areSame_34 : decode cX3_areSame 34 = .ok (.iconst 0, 1) := by decide +kernel
theorem dX3_areSame_35 : decode cX3_areSame 35 = .ok (.ireturn, 1) := by decide +kernel
theorem dX3_same_0 : decode cX3_same 0 = .ok (.aload_n 0, 1) := by decide +kernel
theorem dX3_same_1 : decode cX3_same 1 = .ok (.iload_n 1, 1) := by decide +kernel
theorem dX3_same_2 : decode cX3_same 2 = .ok (.invokestatic 66, 3) := by decide +kernel
theorem dX3_same_5 : decode cX3_same 5 = .ok (.ifCond .ne 10, 3) := by decide +kernel
theorem dX3_same_8 : decode cX3_same 8 = .ok (.iload_n 2, 1) := by decide +kernel
theorem dX3_same_9 : decode cX3_same 9 = .ok (.invokestatic 66, 3) := by decide +kernel
theorem dX3_same_12 : decode cX3_same 12 = .ok (.ifCond .eq 7, 3) := by decide +kernel
theorem dX3_same_15 : decode cX3_same 15 = .ok (.iconst 1, 1) := by decide +kernel
theorem dX3_same_16 : decode cX3_same 16 = .ok (.goto 4, 3) := by decide +kernel
theorem dX3_same_19 : decode cX3_same 19 = .ok (.iconst 0, 1) := by decide +kernel
theorem dX3_same_20 : decode cX3_same 20 = .ok (.iconst 0, 1) := by decide +kernel
theorem dX3_same_21 : decode cX3_same 21 = .ok (.invokevirtual 72, 3) := by decide +kernel
theorem dX3_same_24 : decode cX3_same 24 = .ok (.ifCond .ne 16, 3) := by decide +kernel
theorem dX3_same_27 : decode cX3_same 27 = .ok (.aload_n 0, 1) := by decide +kernel
theorem dX3_same_28 : decode cX3_same 28 = .ok (.iload_n 1, 1) := by decide +kernel
theorem dX3_same_29 : decode cX3_same 29 = .ok (.iload_n 2, 1) := by decide +kernel
theorem dX3_same_30 : decode cX3_same 30 = .ok (.invokevirtual 132, 3) := by decide +kernel
theorem dX3_same_33 : decode cX3_same 33 = .ok (.ifCond .eq 7, 3) := by decide +kernel
theorem dX3_same_36 : decode cX3_same 36 = .ok (.iconst 1, 1) := by decide +kernel
theorem dX3_same_37 : decode cX3_same 37 = .ok (.goto 4, 3) := by decide +kernel
theorem dX3_same_40 : decode cX3_same 40 = .ok (.iconst 0, 1) := by decide +kernel
theorem dX3_same_41 : decode cX3_same 41 = .ok (.ireturn, 1) := by decide +kernel
theorem dX3_restOf_0 : decode cX3_restOf 0 = .ok (.iload_n 0, 1) := by decide +kernel
theorem dX3_restOf_1 : decode cX3_restOf 1 = .ok (.istore_n 3, 1) := by decide +kernel
theorem dX3_restOf_2 : decode cX3_restOf 2 = .ok (.iconst 0, 1) := by decide +kernel
theorem dX3_restOf_3 : decode cX3_restOf 3 = .ok (.istore 4, 2) := by decide +kernel
theorem dX3_restOf_5 : decode cX3_restOf 5 = .ok (.iload 4, 2) := by decide +kernel
theorem dX3_restOf_7 : decode cX3_restOf 7 = .ok (.iload_n 2, 1) := by decide +kernel
theorem dX3_restOf_8 : decode cX3_restOf 8 = .ok (.if_icmp .ge 16, 3) := by decide +kernel
theorem dX3_restOf_11 : decode cX3_restOf 11 = .ok (.bipush 10, 2) := by decide +kernel
theorem dX3_restOf_13 : decode cX3_restOf 13 = .ok (.iload_n 3, 1) := by decide +kernel
theorem dX3_restOf_14 : decode cX3_restOf 14 = .ok (.imul, 1) := by decide +kernel
theorem dX3_restOf_15 : decode cX3_restOf 15 = .ok (.iload_n 1, 1) := by decide +kernel
theorem dX3_restOf_16 : decode cX3_restOf 16 = .ok (.irem, 1) := by decide +kernel
theorem dX3_restOf_17 : decode cX3_restOf 17 = .ok (.istore_n 3, 1) := by decide +kernel
theorem dX3_restOf_18 : decode cX3_restOf 18 = .ok (.iinc 4 1, 3) := by decide +kernel
theorem dX3_restOf_21 : decode cX3_restOf 21 = .ok (.goto (-16), 3) := by decide +kernel
theorem dX3_restOf_24 : decode cX3_restOf 24 = .ok (.iload_n 3, 1) := by decide +kernel
theorem dX3_restOf_25 : decode cX3_restOf 25 = .ok (.ireturn, 1) := by decide +kernel
theorem dX3_lengthOf_0 : decode cX3_lengthOf 0 = .ok (.iconst 1, 1) := by decide +kernel
theorem dX3_lengthOf_1 : decode cX3_lengthOf 1 = .ok (.istore_n 2, 1) := by decide +kernel
theorem dX3_lengthOf_2 : decode cX3_lengthOf 2 = .ok (.bipush 10, 2) := by decide +kernel
theorem dX3_lengthOf_4 : decode cX3_lengthOf 4 = .ok (.iload_n 0, 1) := by decide +kernel
theorem dX3_lengthOf_5 : decode cX3_lengthOf 5 = .ok (.imul, 1) := by decide +kernel
theorem dX3_lengthOf_6 : decode cX3_lengthOf 6 = .ok (.iload_n 1, 1) := by decide +kernel
theorem dX3_lengthOf_7 : decode cX3_lengthOf 7 = .ok (.irem, 1) := by decide +kernel
theorem dX3_lengthOf_8 : decode cX3_lengthOf 8 = .ok (.istore_n 3, 1) := by decide +kernel
theorem dX3_lengthOf_9 : decode cX3_lengthOf 9 = .ok (.iload_n 3, 1) := by decide +kernel
theorem dX3_lengthOf_10 : decode cX3_lengthOf 10 = .ok (.iload_n 0, 1) := by decide +kernel
theorem dX3_lengthOf_11 : decode cX3_lengthOf 11 = .ok (.if_icmp .eq 16, 3) := by decide +kernel
theorem dX3_lengthOf_14 : decode cX3_lengthOf 14 = .ok (.iinc 2 1, 3) := by decide +kernel
theorem dX3_lengthOf_17 : decode cX3_lengthOf 17 = .ok (.bipush 10, 2) := by decide +kernel
theorem dX3_lengthOf_19 : decode cX3_lengthOf 19 = .ok (.iload_n 3, 1) := by decide +kernel
theorem dX3_lengthOf_20 : decode cX3_lengthOf 20 = .ok (.imul, 1) := by decide +kernel
theorem dX3_lengthOf_21 : decode cX3_lengthOf 21 = .ok (.iload_n 1, 1) := by decide +kernel
theorem dX3_lengthOf_22 : decode cX3_lengthOf 22 = .ok (.irem, 1) := by decide +kernel
theorem dX3_lengthOf_23 : decode cX3_lengthOf 23 = .ok (.istore_n 3, 1) := by decide +kernel
theorem dX3_lengthOf_24 : decode cX3_lengthOf 24 = .ok (.goto (-15), 3) := by decide +kernel
theorem dX3_lengthOf_27 : decode cX3_lengthOf 27 = .ok (.iload_n 2, 1) := by decide +kernel
theorem dX3_lengthOf_28 : decode cX3_lengthOf 28 = .ok (.ireturn, 1) := by decide +kernel
theorem dX3_lengthOf__0 : decode cX3_lengthOf_ 0 = .ok (.aload_n 0, 1) := by decide +kernel
theorem dX3_lengthOf__1 : decode cX3_lengthOf_ 1 = .ok (.getfield 18, 3) := by decide +kernel
theorem dX3_lengthOf__4 : decode cX3_lengthOf_ 4 = .ok (.iload_n 1, 1) := by decide +kernel
theorem dX3_lengthOf__5 : decode cX3_lengthOf_ 5 = .ok (.iaload, 1) := by decide +kernel
theorem dX3_lengthOf__6 : decode cX3_lengthOf_ 6 = .ok (.aload_n 0, 1) := by decide +kernel
theorem dX3_lengthOf__7 : decode cX3_lengthOf_ 7 = .ok (.getfield 21, 3) := by decide +kernel
theorem dX3_lengthOf__10 : decode cX3_lengthOf_ 10 = .ok (.iload_n 1, 1) := by decide +kernel
theorem dX3_lengthOf__11 : decode cX3_lengthOf_ 11 = .ok (.iaload, 1) := by decide +kernel
theorem dX3_lengthOf__12 : decode cX3_lengthOf_ 12 = .ok (.invokestatic 136, 3) := by decide +kernel
theorem dX3_lengthOf__15 : decode cX3_lengthOf_ 15 = .ok (.ireturn, 1) := by decide +kernel
theorem dX3_set_0 : decode cX3_set 0 = .ok (.aload_n 0, 1) := by decide +kernel
theorem dX3_set_1 : decode cX3_set 1 = .ok (.getfield 18, 3) := by decide +kernel
theorem dX3_set_4 : decode cX3_set 4 = .ok (.iload_n 1, 1) := by decide +kernel
theorem dX3_set_5 : decode cX3_set 5 = .ok (.iload_n 2, 1) := by decide +kernel
theorem dX3_set_6 : decode cX3_set 6 = .ok (.iastore, 1) := by decide +kernel
theorem dX3_set_7 : decode cX3_set 7 = .ok (.aload_n 0, 1) := by decide +kernel
theorem dX3_set_8 : decode cX3_set 8 = .ok (.getfield 21, 3) := by decide +kernel
theorem dX3_set_11 : decode cX3_set 11 = .ok (.iload_n 1, 1) := by decide +kernel
theorem dX3_set_12 : decode cX3_set 12 = .ok (.iload_n 3, 1) := by decide +kernel
theorem dX3_set_13 : decode cX3_set 13 = .ok (.iastore, 1) := by decide +kernel
theorem dX3_set_14 : decode cX3_set 14 = .ok (.aload_n 0, 1) := by decide +kernel
theorem dX3_set_15 : decode cX3_set 15 = .ok (.getfield 24, 3) := by decide +kernel
theorem dX3_set_18 : decode cX3_set 18 = .ok (.iload_n 1, 1) := by decide +kernel
theorem dX3_set_19 : decode cX3_set 19 = .ok (.iconst 0, 1) := by decide +kernel
theorem dX3_set_20 : decode cX3_set 20 = .ok (.iastore, 1) := by decide +kernel
theorem dX3_set_21 : decode cX3_set 21 = .ok (.aload_n 0, 1) := by decide +kernel
theorem dX3_set_22 : decode cX3_set 22 = .ok (.getfield 27, 3) := by decide +kernel
theorem dX3_set_25 : decode cX3_set 25 = .ok (.iconst 1, 1) := by decide +kernel
theorem dX3_set_26 : decode cX3_set 26 = .ok (.dup2, 1) := by decide +kernel
theorem dX3_set_27 : decode cX3_set 27 = .ok (.iaload, 1) := by decide +kernel
theorem dX3_set_28 : decode cX3_set 28 = .ok (.iconst 1, 1) := by decide +kernel
theorem dX3_set_29 : decode cX3_set 29 = .ok (.iadd, 1) := by decide +kernel
theorem dX3_set_30 : decode cX3_set 30 = .ok (.iastore, 1) := by decide +kernel
theorem dX3_set_31 : decode cX3_set 31 = .ok (.return_, 1) := by decide +kernel
theorem dX3_setWheel_0 : decode cX3_setWheel 0 = .ok (.aload_n 0, 1) := by decide +kernel
theorem dX3_setWheel_1 : decode cX3_setWheel 1 = .ok (.iload_n 1, 1) := by decide +kernel
theorem dX3_setWheel_2 : decode cX3_setWheel 2 = .ok (.invokestatic 104, 3) := by decide +kernel
theorem dX3_setWheel_5 : decode cX3_setWheel 5 = .ok (.iload_n 3, 1) := by decide +kernel
theorem dX3_setWheel_6 : decode cX3_setWheel 6 = .ok (.invokestatic 139, 3) := by decide +kernel
theorem dX3_setWheel_9 : decode cX3_setWheel 9 = .ok (.ifCond .ne 14, 3) := by decide +kernel
theorem dX3_setWheel_12 : decode cX3_setWheel 12 = .ok (.iload_n 2, 1) := by decide +kernel
theorem dX3_setWheel_13 : decode cX3_setWheel 13 = .ok (.iconst 0, 1) := by decide +kernel
theorem dX3_setWheel_14 : decode cX3_setWheel 14 = .ok (.iload_n 3, 1) := by decide +kernel
theorem dX3_setWheel_15 : decode cX3_setWheel 15 = .ok (.iconst 1, 1) := by decide +kernel
theorem dX3_setWheel_16 : decode cX3_setWheel 16 = .ok (.isub, 1) := by decide +kernel
theorem dX3_setWheel_17 : decode cX3_setWheel 17 = .ok (.invokestatic 34, 3) := by decide +kernel
theorem dX3_setWheel_20 : decode cX3_setWheel 20 = .ok (.ifCond .eq 7, 3) := by decide +kernel
theorem dX3_setWheel_23 : decode cX3_setWheel 23 = .ok (.iconst 1, 1) := by decide +kernel
theorem dX3_setWheel_24 : decode cX3_setWheel 24 = .ok (.goto 4, 3) := by decide +kernel
theorem dX3_setWheel_27 : decode cX3_setWheel 27 = .ok (.iconst 0, 1) := by decide +kernel
theorem dX3_setWheel_28 : decode cX3_setWheel 28 = .ok (.invokevirtual 72, 3) := by decide +kernel
theorem dX3_setWheel_31 : decode cX3_setWheel 31 = .ok (.ifCond .eq 5, 3) := by decide +kernel
theorem dX3_setWheel_34 : decode cX3_setWheel 34 = .ok (.iconst 0, 1) := by decide +kernel
theorem dX3_setWheel_35 : decode cX3_setWheel 35 = .ok (.ireturn, 1) := by decide +kernel
theorem dX3_setWheel_36 : decode cX3_setWheel 36 = .ok (.aload_n 0, 1) := by decide +kernel
theorem dX3_setWheel_37 : decode cX3_setWheel 37 = .ok (.iload_n 1, 1) := by decide +kernel
theorem dX3_setWheel_38 : decode cX3_setWheel 38 = .ok (.iload_n 2, 1) := by decide +kernel
theorem dX3_setWheel_39 : decode cX3_setWheel 39 = .ok (.iload_n 3, 1) := by decide +kernel
theorem dX3_setWheel_40 : decode cX3_setWheel 40 = .ok (.invokevirtual 142, 3) := by decide +kernel
theorem dX3_setWheel_43 : decode cX3_setWheel 43 = .ok (.aload_n 0, 1) := by decide +kernel
theorem dX3_setWheel_44 : decode cX3_setWheel 44 = .ok (.iload_n 1, 1) := by decide +kernel
theorem dX3_setWheel_45 : decode cX3_setWheel 45 = .ok (.invokevirtual 146, 3) := by decide +kernel
theorem dX3_setWheel_48 : decode cX3_setWheel 48 = .ok (.ireturn, 1) := by decide +kernel
theorem dX3_step_0 : decode cX3_step 0 = .ok (.aload_n 0, 1) := by decide +kernel
theorem dX3_step_1 : decode cX3_step 1 = .ok (.iload_n 1, 1) := by decide +kernel
theorem dX3_step_2 : decode cX3_step 2 = .ok (.invokestatic 104, 3) := by decide +kernel
theorem dX3_step_5 : decode cX3_step 5 = .ok (.iconst 0, 1) := by decide +kernel
theorem dX3_step_6 : decode cX3_step 6 = .ok (.invokevirtual 72, 3) := by decide +kernel
theorem dX3_step_9 : decode cX3_step 9 = .ok (.ifCond .eq 5, 3) := by decide +kernel
theorem dX3_step_12 : decode cX3_step 12 = .ok (.iconst 0, 1) := by decide +kernel
theorem dX3_step_13 : decode cX3_step 13 = .ok (.ireturn, 1) := by decide +kernel
theorem dX3_step_14 : decode cX3_step 14 = .ok (.aload_n 0, 1) := by decide +kernel
theorem dX3_step_15 : decode cX3_step 15 = .ok (.getfield 18, 3) := by decide +kernel
theorem dX3_step_18 : decode cX3_step 18 = .ok (.iload_n 1, 1) := by decide +kernel
theorem dX3_step_19 : decode cX3_step 19 = .ok (.iaload, 1) := by decide +kernel
theorem dX3_step_20 : decode cX3_step 20 = .ok (.aload_n 0, 1) := by decide +kernel
theorem dX3_step_21 : decode cX3_step 21 = .ok (.getfield 21, 3) := by decide +kernel
theorem dX3_step_24 : decode cX3_step 24 = .ok (.iload_n 1, 1) := by decide +kernel
theorem dX3_step_25 : decode cX3_step 25 = .ok (.iaload, 1) := by decide +kernel
theorem dX3_step_26 : decode cX3_step 26 = .ok (.aload_n 0, 1) := by decide +kernel
theorem dX3_step_27 : decode cX3_step 27 = .ok (.getfield 24, 3) := by decide +kernel
theorem dX3_step_30 : decode cX3_step 30 = .ok (.iload_n 1, 1) := by decide +kernel
theorem dX3_step_31 : decode cX3_step 31 = .ok (.iaload, 1) := by decide +kernel
theorem dX3_step_32 : decode cX3_step 32 = .ok (.invokestatic 149, 3) := by decide +kernel
theorem dX3_step_35 : decode cX3_step 35 = .ok (.istore_n 2, 1) := by decide +kernel
theorem dX3_step_36 : decode cX3_step 36 = .ok (.aload_n 0, 1) := by decide +kernel
theorem dX3_step_37 : decode cX3_step 37 = .ok (.getfield 24, 3) := by decide +kernel
theorem dX3_step_40 : decode cX3_step 40 = .ok (.iload_n 1, 1) := by decide +kernel
theorem dX3_step_41 : decode cX3_step 41 = .ok (.aload_n 0, 1) := by decide +kernel
theorem dX3_step_42 : decode cX3_step 42 = .ok (.getfield 24, 3) := by decide +kernel
theorem dX3_step_45 : decode cX3_step 45 = .ok (.iload_n 1, 1) := by decide +kernel
theorem dX3_step_46 : decode cX3_step 46 = .ok (.iaload, 1) := by decide +kernel
theorem dX3_step_47 : decode cX3_step 47 = .ok (.iconst 1, 1) := by decide +kernel
theorem dX3_step_48 : decode cX3_step 48 = .ok (.iadd, 1) := by decide +kernel
theorem dX3_step_49 : decode cX3_step 49 = .ok (.aload_n 0, 1) := by decide +kernel
theorem dX3_step_50 : decode cX3_step 50 = .ok (.iload_n 1, 1) := by decide +kernel
theorem dX3_step_51 : decode cX3_step 51 = .ok (.invokevirtual 146, 3) := by decide +kernel
theorem dX3_step_54 : decode cX3_step 54 = .ok (.irem, 1) := by decide +kernel
theorem dX3_step_55 : decode cX3_step 55 = .ok (.iastore, 1) := by decide +kernel
theorem dX3_step_56 : decode cX3_step 56 = .ok (.aload_n 0, 1) := by decide +kernel
theorem dX3_step_57 : decode cX3_step 57 = .ok (.getfield 27, 3) := by decide +kernel
theorem dX3_step_60 : decode cX3_step 60 = .ok (.iconst 1, 1) := by decide +kernel
theorem dX3_step_61 : decode cX3_step 61 = .ok (.dup2, 1) := by decide +kernel
theorem dX3_step_62 : decode cX3_step 62 = .ok (.iaload, 1) := by decide +kernel
theorem dX3_step_63 : decode cX3_step 63 = .ok (.iconst 1, 1) := by decide +kernel
theorem dX3_step_64 : decode cX3_step 64 = .ok (.iadd, 1) := by decide +kernel
theorem dX3_step_65 : decode cX3_step 65 = .ok (.iastore, 1) := by decide +kernel
theorem dX3_step_66 : decode cX3_step 66 = .ok (.bipush 10, 2) := by decide +kernel
theorem dX3_step_68 : decode cX3_step 68 = .ok (.iload_n 2, 1) := by decide +kernel
theorem dX3_step_69 : decode cX3_step 69 = .ok (.imul, 1) := by decide +kernel
theorem dX3_step_70 : decode cX3_step 70 = .ok (.aload_n 0, 1) := by decide +kernel
theorem dX3_step_71 : decode cX3_step 71 = .ok (.getfield 21, 3) := by decide +kernel
theorem dX3_step_74 : decode cX3_step 74 = .ok (.iload_n 1, 1) := by decide +kernel
theorem dX3_step_75 : decode cX3_step 75 = .ok (.iaload, 1) := by decide +kernel
theorem dX3_step_76 : decode cX3_step 76 = .ok (.idiv, 1) := by decide +kernel
theorem dX3_step_77 : decode cX3_step 77 = .ok (.ireturn, 1) := by decide +kernel
theorem dX3_turn_0 : decode cX3_turn 0 = .ok (.aload_n 0, 1) := by decide +kernel
theorem dX3_turn_1 : decode cX3_turn 1 = .ok (.iload_n 1, 1) := by decide +kernel
theorem dX3_turn_2 : decode cX3_turn 2 = .ok (.invokestatic 104, 3) := by decide +kernel
theorem dX3_turn_5 : decode cX3_turn 5 = .ok (.iload_n 2, 1) := by decide +kernel
theorem dX3_turn_6 : decode cX3_turn 6 = .ok (.iconst 0, 1) := by decide +kernel
theorem dX3_turn_7 : decode cX3_turn 7 = .ok (.sipush 200, 3) := by decide +kernel
theorem dX3_turn_10 : decode cX3_turn 10 = .ok (.invokestatic 34, 3) := by decide +kernel
theorem dX3_turn_13 : decode cX3_turn 13 = .ok (.invokevirtual 72, 3) := by decide +kernel
theorem dX3_turn_16 : decode cX3_turn 16 = .ok (.ifCond .eq 5, 3) := by decide +kernel
theorem dX3_turn_19 : decode cX3_turn 19 = .ok (.iconst 0, 1) := by decide +kernel
theorem dX3_turn_20 : decode cX3_turn 20 = .ok (.ireturn, 1) := by decide +kernel
theorem dX3_turn_21 : decode cX3_turn 21 = .ok (.aload_n 0, 1) := by decide +kernel
theorem dX3_turn_22 : decode cX3_turn 22 = .ok (.getfield 24, 3) := by decide +kernel
theorem dX3_turn_25 : decode cX3_turn 25 = .ok (.iload_n 1, 1) := by decide +kernel
theorem dX3_turn_26 : decode cX3_turn 26 = .ok (.aload_n 0, 1) := by decide +kernel
theorem dX3_turn_27 : decode cX3_turn 27 = .ok (.getfield 24, 3) := by decide +kernel
theorem dX3_turn_30 : decode cX3_turn 30 = .ok (.iload_n 1, 1) := by decide +kernel
theorem dX3_turn_31 : decode cX3_turn 31 = .ok (.iaload, 1) := by decide +kernel
theorem dX3_turn_32 : decode cX3_turn 32 = .ok (.iload_n 2, 1) := by decide +kernel
theorem dX3_turn_33 : decode cX3_turn 33 = .ok (.iadd, 1) := by decide +kernel
theorem dX3_turn_34 : decode cX3_turn 34 = .ok (.aload_n 0, 1) := by decide +kernel
theorem dX3_turn_35 : decode cX3_turn 35 = .ok (.iload_n 1, 1) := by decide +kernel
theorem dX3_turn_36 : decode cX3_turn 36 = .ok (.invokevirtual 146, 3) := by decide +kernel
theorem dX3_turn_39 : decode cX3_turn 39 = .ok (.irem, 1) := by decide +kernel
theorem dX3_turn_40 : decode cX3_turn 40 = .ok (.iastore, 1) := by decide +kernel
theorem dX3_turn_41 : decode cX3_turn 41 = .ok (.aload_n 0, 1) := by decide +kernel
theorem dX3_turn_42 : decode cX3_turn 42 = .ok (.getfield 27, 3) := by decide +kernel
theorem dX3_turn_45 : decode cX3_turn 45 = .ok (.iconst 1, 1) := by decide +kernel
theorem dX3_turn_46 : decode cX3_turn 46 = .ok (.dup2, 1) := by decide +kernel
theorem dX3_turn_47 : decode cX3_turn 47 = .ok (.iaload, 1) := by decide +kernel
theorem dX3_turn_48 : decode cX3_turn 48 = .ok (.iconst 1, 1) := by decide +kernel
theorem dX3_turn_49 : decode cX3_turn 49 = .ok (.iadd, 1) := by decide +kernel
theorem dX3_turn_50 : decode cX3_turn 50 = .ok (.iastore, 1) := by decide +kernel
theorem dX3_turn_51 : decode cX3_turn 51 = .ok (.aload_n 0, 1) := by decide +kernel
theorem dX3_turn_52 : decode cX3_turn 52 = .ok (.getfield 18, 3) := by decide +kernel
theorem dX3_turn_55 : decode cX3_turn 55 = .ok (.iload_n 1, 1) := by decide +kernel
theorem dX3_turn_56 : decode cX3_turn 56 = .ok (.iaload, 1) := by decide +kernel
theorem dX3_turn_57 : decode cX3_turn 57 = .ok (.aload_n 0, 1) := by decide +kernel
theorem dX3_turn_58 : decode cX3_turn 58 = .ok (.getfield 21, 3) := by decide +kernel
theorem dX3_turn_61 : decode cX3_turn 61 = .ok (.iload_n 1, 1) := by decide +kernel
theorem dX3_turn_62 : decode cX3_turn 62 = .ok (.iaload, 1) := by decide +kernel
theorem dX3_turn_63 : decode cX3_turn 63 = .ok (.aload_n 0, 1) := by decide +kernel
theorem dX3_turn_64 : decode cX3_turn 64 = .ok (.getfield 24, 3) := by decide +kernel
theorem dX3_turn_67 : decode cX3_turn 67 = .ok (.iload_n 1, 1) := by decide +kernel
theorem dX3_turn_68 : decode cX3_turn 68 = .ok (.iaload, 1) := by decide +kernel
theorem dX3_turn_69 : decode cX3_turn 69 = .ok (.invokestatic 149, 3) := by decide +kernel
theorem dX3_turn_72 : decode cX3_turn 72 = .ok (.ireturn, 1) := by decide +kernel
theorem dX3_times_0 : decode cX3_times 0 = .ok (.aload_n 0, 1) := by decide +kernel
theorem dX3_times_1 : decode cX3_times 1 = .ok (.iload_n 1, 1) := by decide +kernel
theorem dX3_times_2 : decode cX3_times 2 = .ok (.invokestatic 104, 3) := by decide +kernel
theorem dX3_times_5 : decode cX3_times 5 = .ok (.ifCond .ne 10, 3) := by decide +kernel
theorem dX3_times_8 : decode cX3_times 8 = .ok (.iload_n 3, 1) := by decide +kernel
theorem dX3_times_9 : decode cX3_times 9 = .ok (.invokestatic 104, 3) := by decide +kernel
theorem dX3_times_12 : decode cX3_times 12 = .ok (.ifCond .eq 7, 3) := by decide +kernel
theorem dX3_times_15 : decode cX3_times 15 = .ok (.iconst 1, 1) := by decide +kernel
theorem dX3_times_16 : decode cX3_times 16 = .ok (.goto 4, 3) := by decide +kernel
theorem dX3_times_19 : decode cX3_times 19 = .ok (.iconst 0, 1) := by decide +kernel
theorem dX3_times_20 : decode cX3_times 20 = .ok (.iload_n 2, 1) := by decide +kernel
theorem dX3_times_21 : decode cX3_times 21 = .ok (.iconst 0, 1) := by decide +kernel
theorem dX3_times_22 : decode cX3_times 22 = .ok (.bipush 99, 2) := by decide +kernel
theorem dX3_times_24 : decode cX3_times 24 = .ok (.invokestatic 34, 3) := by decide +kernel
theorem dX3_times_27 : decode cX3_times 27 = .ok (.invokevirtual 72, 3) := by decide +kernel
theorem dX3_times_30 : decode cX3_times 30 = .ok (.ifCond .eq 5, 3) := by decide +kernel
theorem dX3_times_33 : decode cX3_times 33 = .ok (.iconst 0, 1) := by decide +kernel
theorem dX3_times_34 : decode cX3_times 34 = .ok (.ireturn, 1) := by decide +kernel
theorem dX3_times_35 : decode cX3_times 35 = .ok (.aload_n 0, 1) := by decide +kernel
theorem dX3_times_36 : decode cX3_times 36 = .ok (.iload_n 3, 1) := by decide +kernel
theorem dX3_times_37 : decode cX3_times 37 = .ok (.iload_n 2, 1) := by decide +kernel
theorem dX3_times_38 : decode cX3_times 38 = .ok (.aload_n 0, 1) := by decide +kernel
theorem dX3_times_39 : decode cX3_times 39 = .ok (.getfield 18, 3) := by decide +kernel
theorem dX3_times_42 : decode cX3_times 42 = .ok (.iload_n 1, 1) := by decide +kernel
theorem dX3_times_43 : decode cX3_times 43 = .ok (.iaload, 1) := by decide +kernel
theorem dX3_times_44 : decode cX3_times 44 = .ok (.imul, 1) := by decide +kernel
theorem dX3_times_45 : decode cX3_times 45 = .ok (.aload_n 0, 1) := by decide +kernel
theorem dX3_times_46 : decode cX3_times 46 = .ok (.getfield 21, 3) := by decide +kernel
theorem dX3_times_49 : decode cX3_times 49 = .ok (.iload_n 1, 1) := by decide +kernel
theorem dX3_times_50 : decode cX3_times 50 = .ok (.iaload, 1) := by decide +kernel
theorem dX3_times_51 : decode cX3_times 51 = .ok (.irem, 1) := by decide +kernel
theorem dX3_times_52 : decode cX3_times 52 = .ok (.aload_n 0, 1) := by decide +kernel
theorem dX3_times_53 : decode cX3_times 53 = .ok (.getfield 21, 3) := by decide +kernel
theorem dX3_times_56 : decode cX3_times 56 = .ok (.iload_n 1, 1) := by decide +kernel
theorem dX3_times_57 : decode cX3_times 57 = .ok (.iaload, 1) := by decide +kernel
theorem dX3_times_58 : decode cX3_times 58 = .ok (.invokevirtual 142, 3) := by decide +kernel
theorem dX3_times_61 : decode cX3_times 61 = .ok (.aload_n 0, 1) := by decide +kernel
theorem dX3_times_62 : decode cX3_times 62 = .ok (.getfield 18, 3) := by decide +kernel
theorem dX3_times_65 : decode cX3_times 65 = .ok (.iload_n 3, 1) := by decide +kernel
theorem dX3_times_66 : decode cX3_times 66 = .ok (.iaload, 1) := by decide +kernel
theorem dX3_times_67 : decode cX3_times 67 = .ok (.ireturn, 1) := by decide +kernel
theorem dX3_spokeOf_0 : decode cX3_spokeOf 0 = .ok (.iload_n 2, 1) := by decide +kernel
theorem dX3_spokeOf_1 : decode cX3_spokeOf 1 = .ok (.ifCond .ne 10, 3) := by decide +kernel
theorem dX3_spokeOf_4 : decode cX3_spokeOf 4 = .ok (.aload_n 0, 1) := by decide +kernel
theorem dX3_spokeOf_5 : decode cX3_spokeOf 5 = .ok (.getfield 18, 3) := by decide +kernel
theorem dX3_spokeOf_8 : decode cX3_spokeOf 8 = .ok (.iload_n 1, 1) := by decide +kernel
theorem dX3_spokeOf_9 : decode cX3_spokeOf 9 = .ok (.iaload, 1) := by decide +kernel
theorem dX3_spokeOf_10 : decode cX3_spokeOf 10 = .ok (.ireturn, 1) := by decide +kernel
theorem dX3_spokeOf_11 : decode cX3_spokeOf 11 = .ok (.iload_n 2, 1) := by decide +kernel
theorem dX3_spokeOf_12 : decode cX3_spokeOf 12 = .ok (.iconst 1, 1) := by decide +kernel
theorem dX3_spokeOf_13 : decode cX3_spokeOf 13 = .ok (.if_icmp .ne 10, 3) := by decide +kernel
theorem dX3_spokeOf_16 : decode cX3_spokeOf 16 = .ok (.aload_n 0, 1) := by decide +kernel
theorem dX3_spokeOf_17 : decode cX3_spokeOf 17 = .ok (.getfield 21, 3) := by decide +kernel
theorem dX3_spokeOf_20 : decode cX3_spokeOf 20 = .ok (.iload_n 1, 1) := by decide +kernel
theorem dX3_spokeOf_21 : decode cX3_spokeOf 21 = .ok (.iaload, 1) := by decide +kernel
theorem dX3_spokeOf_22 : decode cX3_spokeOf 22 = .ok (.ireturn, 1) := by decide +kernel
theorem dX3_spokeOf_23 : decode cX3_spokeOf 23 = .ok (.iload_n 2, 1) := by decide +kernel
theorem dX3_spokeOf_24 : decode cX3_spokeOf 24 = .ok (.iconst 2, 1) := by decide +kernel
theorem dX3_spokeOf_25 : decode cX3_spokeOf 25 = .ok (.if_icmp .ne 10, 3) := by decide +kernel
theorem dX3_spokeOf_28 : decode cX3_spokeOf 28 = .ok (.aload_n 0, 1) := by decide +kernel
theorem dX3_spokeOf_29 : decode cX3_spokeOf 29 = .ok (.getfield 24, 3) := by decide +kernel
theorem dX3_spokeOf_32 : decode cX3_spokeOf 32 = .ok (.iload_n 1, 1) := by decide +kernel
theorem dX3_spokeOf_33 : decode cX3_spokeOf 33 = .ok (.iaload, 1) := by decide +kernel
theorem dX3_spokeOf_34 : decode cX3_spokeOf 34 = .ok (.ireturn, 1) := by decide +kernel
theorem dX3_spokeOf_35 : decode cX3_spokeOf 35 = .ok (.iload_n 2, 1) := by decide +kernel
theorem dX3_spokeOf_36 : decode cX3_spokeOf 36 = .ok (.iconst 3, 1) := by decide +kernel
theorem dX3_spokeOf_37 : decode cX3_spokeOf 37 = .ok (.if_icmp .ne 27, 3) := by decide +kernel
theorem dX3_spokeOf_40 : decode cX3_spokeOf 40 = .ok (.aload_n 0, 1) := by decide +kernel
theorem dX3_spokeOf_41 : decode cX3_spokeOf 41 = .ok (.getfield 18, 3) := by decide +kernel
theorem dX3_spokeOf_44 : decode cX3_spokeOf 44 = .ok (.iload_n 1, 1) := by decide +kernel
theorem dX3_spokeOf_45 : decode cX3_spokeOf 45 = .ok (.iaload, 1) := by decide +kernel
theorem dX3_spokeOf_46 : decode cX3_spokeOf 46 = .ok (.aload_n 0, 1) := by decide +kernel
theorem dX3_spokeOf_47 : decode cX3_spokeOf 47 = .ok (.getfield 21, 3) := by decide +kernel
theorem dX3_spokeOf_50 : decode cX3_spokeOf 50 = .ok (.iload_n 1, 1) := by decide +kernel
theorem dX3_spokeOf_51 : decode cX3_spokeOf 51 = .ok (.iaload, 1) := by decide +kernel
theorem dX3_spokeOf_52 : decode cX3_spokeOf 52 = .ok (.aload_n 0, 1) := by decide +kernel
theorem dX3_spokeOf_53 : decode cX3_spokeOf 53 = .ok (.getfield 24, 3) := by decide +kernel
theorem dX3_spokeOf_56 : decode cX3_spokeOf 56 = .ok (.iload_n 1, 1) := by decide +kernel
theorem dX3_spokeOf_57 : decode cX3_spokeOf 57 = .ok (.iaload, 1) := by decide +kernel
theorem dX3_spokeOf_58 : decode cX3_spokeOf 58 = .ok (.invokestatic 149, 3) := by decide +kernel
theorem dX3_spokeOf_61 : decode cX3_spokeOf 61 = .ok (.goto 8, 3) := by decide +kernel
theorem dX3_spokeOf_64 : decode cX3_spokeOf 64 = .ok (.aload_n 0, 1) := by decide +kernel
theorem dX3_spokeOf_65 : decode cX3_spokeOf 65 = .ok (.iload_n 1, 1) := by decide +kernel
theorem dX3_spokeOf_66 : decode cX3_spokeOf 66 = .ok (.invokevirtual 146, 3) := by decide +kernel
theorem dX3_spokeOf_69 : decode cX3_spokeOf 69 = .ok (.ireturn, 1) := by decide +kernel
theorem dX3_spoke_0 : decode cX3_spoke 0 = .ok (.aload_n 0, 1) := by decide +kernel
theorem dX3_spoke_1 : decode cX3_spoke 1 = .ok (.iload_n 1, 1) := by decide +kernel
theorem dX3_spoke_2 : decode cX3_spoke 2 = .ok (.invokestatic 104, 3) := by decide +kernel
theorem dX3_spoke_5 : decode cX3_spoke 5 = .ok (.iload_n 2, 1) := by decide +kernel
theorem dX3_spoke_6 : decode cX3_spoke 6 = .ok (.iconst 0, 1) := by decide +kernel
theorem dX3_spoke_7 : decode cX3_spoke 7 = .ok (.iconst 4, 1) := by decide +kernel
theorem dX3_spoke_8 : decode cX3_spoke 8 = .ok (.invokestatic 34, 3) := by decide +kernel
theorem dX3_spoke_11 : decode cX3_spoke 11 = .ok (.invokevirtual 72, 3) := by decide +kernel
theorem dX3_spoke_14 : decode cX3_spoke 14 = .ok (.ifCond .eq 7, 3) := by decide +kernel
theorem dX3_spoke_17 : decode cX3_spoke 17 = .ok (.iconst 0, 1) := by decide +kernel
theorem dX3_spoke_18 : decode cX3_spoke 18 = .ok (.goto 9, 3) := by decide +kernel
theorem dX3_spoke_21 : decode cX3_spoke 21 = .ok (.aload_n 0, 1) := by decide +kernel
theorem dX3_spoke_22 : decode cX3_spoke 22 = .ok (.iload_n 1, 1) := by decide +kernel
theorem dX3_spoke_23 : decode cX3_spoke 23 = .ok (.iload_n 2, 1) := by decide +kernel
theorem dX3_spoke_24 : decode cX3_spoke 24 = .ok (.invokevirtual 153, 3) := by decide +kernel
theorem dX3_spoke_27 : decode cX3_spoke 27 = .ok (.ireturn, 1) := by decide +kernel
theorem dX3_lowest_0 : decode cX3_lowest 0 = .ok (.aload_n 0, 1) := by decide +kernel
theorem dX3_lowest_1 : decode cX3_lowest 1 = .ok (.iload_n 1, 1) := by decide +kernel
theorem dX3_lowest_2 : decode cX3_lowest 2 = .ok (.invokestatic 104, 3) := by decide +kernel
theorem dX3_lowest_5 : decode cX3_lowest 5 = .ok (.iconst 0, 1) := by decide +kernel
theorem dX3_lowest_6 : decode cX3_lowest 6 = .ok (.invokevirtual 72, 3) := by decide +kernel
theorem dX3_lowest_9 : decode cX3_lowest 9 = .ok (.ifCond .eq 5, 3) := by decide +kernel
theorem dX3_lowest_12 : decode cX3_lowest 12 = .ok (.iconst 0, 1) := by decide +kernel
theorem dX3_lowest_13 : decode cX3_lowest 13 = .ok (.ireturn, 1) := by decide +kernel
theorem dX3_lowest_14 : decode cX3_lowest 14 = .ok (.iconst 1, 1) := by decide +kernel
theorem dX3_lowest_15 : decode cX3_lowest 15 = .ok (.istore_n 2, 1) := by decide +kernel
theorem dX3_lowest_16 : decode cX3_lowest 16 = .ok (.iload_n 2, 1) := by decide +kernel
theorem dX3_lowest_17 : decode cX3_lowest 17 = .ok (.aload_n 0, 1) := by decide +kernel
theorem dX3_lowest_18 : decode cX3_lowest 18 = .ok (.getfield 18, 3) := by decide +kernel
theorem dX3_lowest_21 : decode cX3_lowest 21 = .ok (.iload_n 1, 1) := by decide +kernel
theorem dX3_lowest_22 : decode cX3_lowest 22 = .ok (.iaload, 1) := by decide +kernel
theorem dX3_lowest_23 : decode cX3_lowest 23 = .ok (.imul, 1) := by decide +kernel
theorem dX3_lowest_24 : decode cX3_lowest 24 = .ok (.aload_n 0, 1) := by decide +kernel
theorem dX3_lowest_25 : decode cX3_lowest 25 = .ok (.getfield 21, 3) := by decide +kernel
theorem dX3_lowest_28 : decode cX3_lowest 28 = .ok (.iload_n 1, 1) := by decide +kernel
theorem dX3_lowest_29 : decode cX3_lowest 29 = .ok (.iaload, 1) := by decide +kernel
theorem dX3_lowest_30 : decode cX3_lowest 30 = .ok (.irem, 1) := by decide +kernel
theorem dX3_lowest_31 : decode cX3_lowest 31 = .ok (.ifCond .eq 9, 3) := by decide +kernel
theorem dX3_lowest_34 : decode cX3_lowest 34 = .ok (.iinc 2 1, 3) := by decide +kernel
theorem dX3_lowest_37 : decode cX3_lowest 37 = .ok (.goto (-21), 3) := by decide +kernel
theorem dX3_lowest_40 : decode cX3_lowest 40 = .ok (.iload_n 2, 1) := by decide +kernel
theorem dX3_lowest_41 : decode cX3_lowest 41 = .ok (.ireturn, 1) := by decide +kernel
theorem dX3_tens_0 : decode cX3_tens 0 = .ok (.aload_n 0, 1) := by decide +kernel
theorem dX3_tens_1 : decode cX3_tens 1 = .ok (.iload_n 1, 1) := by decide +kernel
theorem dX3_tens_2 : decode cX3_tens 2 = .ok (.invokestatic 139, 3) := by decide +kernel
theorem dX3_tens_5 : decode cX3_tens 5 = .ok (.iconst 0, 1) := by decide +kernel
theorem dX3_tens_6 : decode cX3_tens 6 = .ok (.invokevirtual 72, 3) := by decide +kernel
theorem dX3_tens_9 : decode cX3_tens 9 = .ok (.ifCond .eq 7, 3) := by decide +kernel
theorem dX3_tens_12 : decode cX3_tens 12 = .ok (.iconst 0, 1) := by decide +kernel
theorem dX3_tens_13 : decode cX3_tens 13 = .ok (.goto 10, 3) := by decide +kernel
theorem dX3_tens_16 : decode cX3_tens 16 = .ok (.iconst 1, 1) := by decide +kernel
theorem dX3_tens_17 : decode cX3_tens 17 = .ok (.iload_n 1, 1) := by decide +kernel
theorem dX3_tens_18 : decode cX3_tens 18 = .ok (.irem, 1) := by decide +kernel
theorem dX3_tens_19 : decode cX3_tens 19 = .ok (.iload_n 1, 1) := by decide +kernel
theorem dX3_tens_20 : decode cX3_tens 20 = .ok (.invokestatic 136, 3) := by decide +kernel
theorem dX3_tens_23 : decode cX3_tens 23 = .ok (.ireturn, 1) := by decide +kernel
theorem dX3_restAt_0 : decode cX3_restAt 0 = .ok (.aload_n 0, 1) := by decide +kernel
theorem dX3_restAt_1 : decode cX3_restAt 1 = .ok (.iload_n 1, 1) := by decide +kernel
theorem dX3_restAt_2 : decode cX3_restAt 2 = .ok (.invokestatic 104, 3) := by decide +kernel
theorem dX3_restAt_5 : decode cX3_restAt 5 = .ok (.iload_n 2, 1) := by decide +kernel
theorem dX3_restAt_6 : decode cX3_restAt 6 = .ok (.iconst 0, 1) := by decide +kernel
theorem dX3_restAt_7 : decode cX3_restAt 7 = .ok (.sipush 200, 3) := by decide +kernel
theorem dX3_restAt_10 : decode cX3_restAt 10 = .ok (.invokestatic 34, 3) := by decide +kernel
theorem dX3_restAt_13 : decode cX3_restAt 13 = .ok (.invokevirtual 72, 3) := by decide +kernel
theorem dX3_restAt_16 : decode cX3_restAt 16 = .ok (.ifCond .eq 7, 3) := by decide +kernel
theorem dX3_restAt_19 : decode cX3_restAt 19 = .ok (.iconst 0, 1) := by decide +kernel
theorem dX3_restAt_20 : decode cX3_restAt 20 = .ok (.goto 19, 3) := by decide +kernel
theorem dX3_restAt_23 : decode cX3_restAt 23 = .ok (.aload_n 0, 1) := by decide +kernel
theorem dX3_restAt_24 : decode cX3_restAt 24 = .ok (.getfield 18, 3) := by decide +kernel
theorem dX3_restAt_27 : decode cX3_restAt 27 = .ok (.iload_n 1, 1) := by decide +kernel
theorem dX3_restAt_28 : decode cX3_restAt 28 = .ok (.iaload, 1) := by decide +kernel
theorem dX3_restAt_29 : decode cX3_restAt 29 = .ok (.aload_n 0, 1) := by decide +kernel
theorem dX3_restAt_30 : decode cX3_restAt 30 = .ok (.getfield 21, 3) := by decide +kernel
theorem dX3_restAt_33 : decode cX3_restAt 33 = .ok (.iload_n 1, 1) := by decide +kernel
theorem dX3_restAt_34 : decode cX3_restAt 34 = .ok (.iaload, 1) := by decide +kernel
theorem dX3_restAt_35 : decode cX3_restAt 35 = .ok (.iload_n 2, 1) := by decide +kernel
theorem dX3_restAt_36 : decode cX3_restAt 36 = .ok (.invokestatic 149, 3) := by decide +kernel
theorem dX3_restAt_39 : decode cX3_restAt 39 = .ok (.ireturn, 1) := by decide +kernel
theorem dX3_row_0 : decode cX3_row 0 = .ok (.iload_n 3, 1) := by decide +kernel
theorem dX3_row_1 : decode cX3_row 1 = .ok (.newarray .int, 2) := by decide +kernel
theorem dX3_row_3 : decode cX3_row 3 = .ok (.astore 4, 2) := by decide +kernel
theorem dX3_row_5 : decode cX3_row 5 = .ok (.aload_n 0, 1) := by decide +kernel
theorem dX3_row_6 : decode cX3_row 6 = .ok (.getfield 18, 3) := by decide +kernel
theorem dX3_row_9 : decode cX3_row 9 = .ok (.iload_n 1, 1) := by decide +kernel
theorem dX3_row_10 : decode cX3_row 10 = .ok (.iaload, 1) := by decide +kernel
theorem dX3_row_11 : decode cX3_row 11 = .ok (.aload_n 0, 1) := by decide +kernel
theorem dX3_row_12 : decode cX3_row 12 = .ok (.getfield 21, 3) := by decide +kernel
theorem dX3_row_15 : decode cX3_row 15 = .ok (.iload_n 1, 1) := by decide +kernel
theorem dX3_row_16 : decode cX3_row 16 = .ok (.iaload, 1) := by decide +kernel
theorem dX3_row_17 : decode cX3_row 17 = .ok (.iload_n 2, 1) := by decide +kernel
theorem dX3_row_18 : decode cX3_row 18 = .ok (.invokestatic 149, 3) := by decide +kernel
theorem dX3_row_21 : decode cX3_row 21 = .ok (.istore 5, 2) := by decide +kernel
theorem dX3_row_23 : decode cX3_row 23 = .ok (.iconst 0, 1) := by decide +kernel
theorem dX3_row_24 : decode cX3_row 24 = .ok (.istore 6, 2) := by decide +kernel
theorem dX3_row_26 : decode cX3_row 26 = .ok (.iload 6, 2) := by decide +kernel
theorem dX3_row_28 : decode cX3_row 28 = .ok (.iload_n 3, 1) := by decide +kernel
theorem dX3_row_29 : decode cX3_row 29 = .ok (.if_icmp .ge 40, 3) := by decide +kernel
theorem dX3_row_32 : decode cX3_row 32 = .ok (.aload 4, 2) := by decide +kernel
theorem dX3_row_34 : decode cX3_row 34 = .ok (.iload 6, 2) := by decide +kernel
theorem dX3_row_36 : decode cX3_row 36 = .ok (.bipush 10, 2) := by decide +kernel
theorem dX3_row_38 : decode cX3_row 38 = .ok (.iload 5, 2) := by decide +kernel
theorem dX3_row_40 : decode cX3_row 40 = .ok (.imul, 1) := by decide +kernel
theorem dX3_row_41 : decode cX3_row 41 = .ok (.aload_n 0, 1) := by decide +kernel
theorem dX3_row_42 : decode cX3_row 42 = .ok (.getfield 21, 3) := by decide +kernel
theorem dX3_row_45 : decode cX3_row 45 = .ok (.iload_n 1, 1) := by decide +kernel
theorem dX3_row_46 : decode cX3_row 46 = .ok (.iaload, 1) := by decide +kernel
theorem dX3_row_47 : decode cX3_row 47 = .ok (.idiv, 1) := by decide +kernel
theorem dX3_row_48 : decode cX3_row 48 = .ok (.iastore, 1) := by decide +kernel
theorem dX3_row_49 : decode cX3_row 49 = .ok (.bipush 10, 2) := by decide +kernel
theorem dX3_row_51 : decode cX3_row 51 = .ok (.iload 5, 2) := by decide +kernel
theorem dX3_row_53 : decode cX3_row 53 = .ok (.imul, 1) := by decide +kernel
theorem dX3_row_54 : decode cX3_row 54 = .ok (.aload_n 0, 1) := by decide +kernel
theorem dX3_row_55 : decode cX3_row 55 = .ok (.getfield 21, 3) := by decide +kernel
theorem dX3_row_58 : decode cX3_row 58 = .ok (.iload_n 1, 1) := by decide +kernel
theorem dX3_row_59 : decode cX3_row 59 = .ok (.iaload, 1) := by decide +kernel
theorem dX3_row_60 : decode cX3_row 60 = .ok (.irem, 1) := by decide +kernel
theorem dX3_row_61 : decode cX3_row 61 = .ok (.istore 5, 2) := by decide +kernel
theorem dX3_row_63 : decode cX3_row 63 = .ok (.iinc 6 1, 3) := by decide +kernel
theorem dX3_row_66 : decode cX3_row 66 = .ok (.goto (-40), 3) := by decide +kernel
theorem dX3_row_69 : decode cX3_row 69 = .ok (.aload 4, 2) := by decide +kernel
theorem dX3_row_71 : decode cX3_row 71 = .ok (.areturn, 1) := by decide +kernel
theorem dX3_written_0 : decode cX3_written 0 = .ok (.new 111, 3) := by decide +kernel
theorem dX3_written_3 : decode cX3_written 3 = .ok (.dup, 1) := by decide +kernel
theorem dX3_written_4 : decode cX3_written 4 = .ok (.aload_n 0, 1) := by decide +kernel
theorem dX3_written_5 : decode cX3_written 5 = .ok (.arraylength, 1) := by decide +kernel
theorem dX3_written_6 : decode cX3_written 6 = .ok (.invokespecial 113, 3) := by decide +kernel
theorem dX3_written_9 : decode cX3_written 9 = .ok (.astore_n 2, 1) := by decide +kernel
theorem dX3_written_10 : decode cX3_written 10 = .ok (.iload_n 1, 1) := by decide +kernel
theorem dX3_written_11 : decode cX3_written 11 = .ok (.istore_n 3, 1) := by decide +kernel
theorem dX3_written_12 : decode cX3_written 12 = .ok (.iload_n 3, 1) := by decide +kernel
theorem dX3_written_13 : decode cX3_written 13 = .ok (.aload_n 0, 1) := by decide +kernel
theorem dX3_written_14 : decode cX3_written 14 = .ok (.arraylength, 1) := by decide +kernel
theorem dX3_written_15 : decode cX3_written 15 = .ok (.if_icmp .ge 21, 3) := by decide +kernel
theorem dX3_written_18 : decode cX3_written 18 = .ok (.aload_n 2, 1) := by decide +kernel
theorem dX3_written_19 : decode cX3_written 19 = .ok (.bipush 48, 2) := by decide +kernel
theorem dX3_written_21 : decode cX3_written 21 = .ok (.aload_n 0, 1) := by decide +kernel
theorem dX3_written_22 : decode cX3_written 22 = .ok (.iload_n 3, 1) := by decide +kernel
theorem dX3_written_23 : decode cX3_written 23 = .ok (.iaload, 1) := by decide +kernel
theorem dX3_written_24 : decode cX3_written 24 = .ok (.iadd, 1) := by decide +kernel
theorem dX3_written_25 : decode cX3_written 25 = .ok (.i2c, 1) := by decide +kernel
theorem dX3_written_26 : decode cX3_written 26 = .ok (.invokevirtual 116, 3) := by decide +kernel
theorem dX3_written_29 : decode cX3_written 29 = .ok (.pop, 1) := by decide +kernel
theorem dX3_written_30 : decode cX3_written 30 = .ok (.iinc 3 1, 3) := by decide +kernel
theorem dX3_written_33 : decode cX3_written 33 = .ok (.goto (-21), 3) := by decide +kernel
theorem dX3_written_36 : decode cX3_written 36 = .ok (.aload_n 2, 1) := by decide +kernel
theorem dX3_written_37 : decode cX3_written 37 = .ok (.invokevirtual 122, 3) := by decide +kernel
theorem dX3_written_40 : decode cX3_written 40 = .ok (.areturn, 1) := by decide +kernel
theorem dX3_number_0 : decode cX3_number 0 = .ok (.iconst 0, 1) := by decide +kernel
theorem dX3_number_1 : decode cX3_number 1 = .ok (.istore_n 1, 1) := by decide +kernel
theorem dX3_number_2 : decode cX3_number 2 = .ok (.iload_n 1, 1) := by decide +kernel
theorem dX3_number_3 : decode cX3_number 3 = .ok (.aload_n 0, 1) := by decide +kernel
theorem dX3_number_4 : decode cX3_number 4 = .ok (.arraylength, 1) := by decide +kernel
theorem dX3_number_5 : decode cX3_number 5 = .ok (.iconst 1, 1) := by decide +kernel
theorem dX3_number_6 : decode cX3_number 6 = .ok (.isub, 1) := by decide +kernel
theorem dX3_number_7 : decode cX3_number 7 = .ok (.if_icmp .ge 15, 3) := by decide +kernel
theorem dX3_number_10 : decode cX3_number 10 = .ok (.aload_n 0, 1) := by decide +kernel
theorem dX3_number_11 : decode cX3_number 11 = .ok (.iload_n 1, 1) := by decide +kernel
theorem dX3_number_12 : decode cX3_number 12 = .ok (.iaload, 1) := by decide +kernel
theorem dX3_number_13 : decode cX3_number 13 = .ok (.ifCond .ne 9, 3) := by decide +kernel
theorem dX3_number_16 : decode cX3_number 16 = .ok (.iinc 1 1, 3) := by decide +kernel
theorem dX3_number_19 : decode cX3_number 19 = .ok (.goto (-17), 3) := by decide +kernel
theorem dX3_number_22 : decode cX3_number 22 = .ok (.aload_n 0, 1) := by decide +kernel
theorem dX3_number_23 : decode cX3_number 23 = .ok (.iload_n 1, 1) := by decide +kernel
theorem dX3_number_24 : decode cX3_number 24 = .ok (.invokestatic 156, 3) := by decide +kernel
theorem dX3_number_27 : decode cX3_number 27 = .ok (.areturn, 1) := by decide +kernel
theorem dX3_digitsFrom_0 : decode cX3_digitsFrom 0 = .ok (.aload_n 0, 1) := by decide +kernel
theorem dX3_digitsFrom_1 : decode cX3_digitsFrom 1 = .ok (.iload_n 1, 1) := by decide +kernel
theorem dX3_digitsFrom_2 : decode cX3_digitsFrom 2 = .ok (.invokestatic 104, 3) := by decide +kernel
theorem dX3_digitsFrom_5 : decode cX3_digitsFrom 5 = .ok (.iload_n 2, 1) := by decide +kernel
theorem dX3_digitsFrom_6 : decode cX3_digitsFrom 6 = .ok (.iconst 0, 1) := by decide +kernel
theorem dX3_digitsFrom_7 : decode cX3_digitsFrom 7 = .ok (.sipush 200, 3) := by decide +kernel
theorem dX3_digitsFrom_10 : decode cX3_digitsFrom 10 = .ok (.invokestatic 34, 3) := by decide +kernel
theorem dX3_digitsFrom_13 : decode cX3_digitsFrom 13 = .ok (.ifCond .ne 13, 3) := by decide +kernel
theorem dX3_digitsFrom_16 : decode cX3_digitsFrom 16 = .ok (.iload_n 3, 1) := by decide +kernel
theorem dX3_digitsFrom_17 : decode cX3_digitsFrom 17 = .ok (.iconst 1, 1) := by decide +kernel
theorem dX3_digitsFrom_18 : decode cX3_digitsFrom 18 = .ok (.bipush 16, 2) := by decide +kernel
theorem dX3_digitsFrom_20 : decode cX3_digitsFrom 20 = .ok (.invokestatic 34, 3) := by decide +kernel
theorem dX3_digitsFrom_23 : decode cX3_digitsFrom 23 = .ok (.ifCond .eq 7, 3) := by decide +kernel
theorem dX3_digitsFrom_26 : decode cX3_digitsFrom 26 = .ok (.iconst 1, 1) := by decide +kernel
theorem dX3_digitsFrom_27 : decode cX3_digitsFrom 27 = .ok (.goto 4, 3) := by decide +kernel
theorem dX3_digitsFrom_30 : decode cX3_digitsFrom 30 = .ok (.iconst 0, 1) := by decide +kernel
theorem dX3_digitsFrom_31 : decode cX3_digitsFrom 31 = .ok (.invokevirtual 72, 3) := by decide +kernel
theorem dX3_digitsFrom_34 : decode cX3_digitsFrom 34 = .ok (.ifCond .eq 8, 3) := by decide +kernel
theorem dX3_digitsFrom_37 : decode cX3_digitsFrom 37 = .ok (.ldc 126, 2) := by decide +kernel
theorem dX3_digitsFrom_39 : decode cX3_digitsFrom 39 = .ok (.goto 14, 3) := by decide +kernel
theorem dX3_digitsFrom_42 : decode cX3_digitsFrom 42 = .ok (.aload_n 0, 1) := by decide +kernel
theorem dX3_digitsFrom_43 : decode cX3_digitsFrom 43 = .ok (.iload_n 1, 1) := by decide +kernel
theorem dX3_digitsFrom_44 : decode cX3_digitsFrom 44 = .ok (.iload_n 2, 1) := by decide +kernel
theorem dX3_digitsFrom_45 : decode cX3_digitsFrom 45 = .ok (.iload_n 3, 1) := by decide +kernel
theorem dX3_digitsFrom_46 : decode cX3_digitsFrom 46 = .ok (.invokevirtual 160, 3) := by decide +kernel
theorem dX3_digitsFrom_49 : decode cX3_digitsFrom 49 = .ok (.iconst 0, 1) := by decide +kernel
theorem dX3_digitsFrom_50 : decode cX3_digitsFrom 50 = .ok (.invokestatic 156, 3) := by decide +kernel
theorem dX3_digitsFrom_53 : decode cX3_digitsFrom 53 = .ok (.areturn, 1) := by decide +kernel
theorem dX3_cutText_0 : decode cX3_cutText 0 = .ok (.aload_n 0, 1) := by decide +kernel
theorem dX3_cutText_1 : decode cX3_cutText 1 = .ok (.iload_n 1, 1) := by decide +kernel
theorem dX3_cutText_2 : decode cX3_cutText 2 = .ok (.invokestatic 104, 3) := by decide +kernel
theorem dX3_cutText_5 : decode cX3_cutText 5 = .ok (.iload_n 3, 1) := by decide +kernel
theorem dX3_cutText_6 : decode cX3_cutText 6 = .ok (.iload 4, 2) := by decide +kernel
theorem dX3_cutText_8 : decode cX3_cutText 8 = .ok (.bipush 16, 2) := by decide +kernel
theorem dX3_cutText_10 : decode cX3_cutText 10 = .ok (.invokestatic 87, 3) := by decide +kernel
theorem dX3_cutText_13 : decode cX3_cutText 13 = .ok (.invokevirtual 72, 3) := by decide +kernel
theorem dX3_cutText_16 : decode cX3_cutText 16 = .ok (.ifCond .eq 6, 3) := by decide +kernel
theorem dX3_cutText_19 : decode cX3_cutText 19 = .ok (.ldc 126, 2) := by decide +kernel
theorem dX3_cutText_21 : decode cX3_cutText 21 = .ok (.areturn, 1) := by decide +kernel
theorem dX3_cutText_22 : decode cX3_cutText 22 = .ok (.aload_n 0, 1) := by decide +kernel
theorem dX3_cutText_23 : decode cX3_cutText 23 = .ok (.iload_n 1, 1) := by decide +kernel
theorem dX3_cutText_24 : decode cX3_cutText 24 = .ok (.iload_n 2, 1) := by decide +kernel
theorem dX3_cutText_25 : decode cX3_cutText 25 = .ok (.iload_n 3, 1) := by decide +kernel
theorem dX3_cutText_26 : decode cX3_cutText 26 = .ok (.iload 4, 2) := by decide +kernel
theorem dX3_cutText_28 : decode cX3_cutText 28 = .ok (.invokevirtual 107, 3) := by decide +kernel
theorem dX3_cutText_31 : decode cX3_cutText 31 = .ok (.lstore 5, 2) := by decide +kernel
theorem dX3_cutText_33 : decode cX3_cutText 33 = .ok (.lload 5, 2) := by decide +kernel
theorem dX3_cutText_35 : decode cX3_cutText 35 = .ok (.ldc2_w 44, 3) := by decide +kernel
theorem dX3_cutText_38 : decode cX3_cutText 38 = .ok (.lcmp, 1) := by decide +kernel
theorem dX3_cutText_39 : decode cX3_cutText 39 = .ok (.ifCond .ne 8, 3) := by decide +kernel
theorem dX3_cutText_42 : decode cX3_cutText 42 = .ok (.ldc 164, 2) := by decide +kernel
theorem dX3_cutText_44 : decode cX3_cutText 44 = .ok (.goto 9, 3) := by decide +kernel
theorem dX3_cutText_47 : decode cX3_cutText 47 = .ok (.lload 5, 2) := by decide +kernel
theorem dX3_cutText_49 : decode cX3_cutText 49 = .ok (.iload_n 3, 1) := by decide +kernel
theorem dX3_cutText_50 : decode cX3_cutText 50 = .ok (.invokestatic 128, 3) := by decide +kernel
theorem dX3_cutText_53 : decode cX3_cutText 53 = .ok (.areturn, 1) := by decide +kernel
theorem dX3_number__0 : decode cX3_number_ 0 = .ok (.aload_n 0, 1) := by decide +kernel
theorem dX3_number__1 : decode cX3_number_ 1 = .ok (.iload_n 1, 1) := by decide +kernel
theorem dX3_number__2 : decode cX3_number_ 2 = .ok (.invokestatic 104, 3) := by decide +kernel
theorem dX3_number__5 : decode cX3_number_ 5 = .ok (.iconst 0, 1) := by decide +kernel
theorem dX3_number__6 : decode cX3_number_ 6 = .ok (.invokevirtual 72, 3) := by decide +kernel
theorem dX3_number__9 : decode cX3_number_ 9 = .ok (.ifCond .eq 8, 3) := by decide +kernel
theorem dX3_number__12 : decode cX3_number_ 12 = .ok (.ldc 126, 2) := by decide +kernel
theorem dX3_number__14 : decode cX3_number_ 14 = .ok (.goto 18, 3) := by decide +kernel
theorem dX3_number__17 : decode cX3_number_ 17 = .ok (.aload_n 0, 1) := by decide +kernel
theorem dX3_number__18 : decode cX3_number_ 18 = .ok (.iload_n 1, 1) := by decide +kernel
theorem dX3_number__19 : decode cX3_number_ 19 = .ok (.iconst 0, 1) := by decide +kernel
theorem dX3_number__20 : decode cX3_number_ 20 = .ok (.aload_n 0, 1) := by decide +kernel
theorem dX3_number__21 : decode cX3_number_ 21 = .ok (.iload_n 1, 1) := by decide +kernel
theorem dX3_number__22 : decode cX3_number_ 22 = .ok (.invokevirtual 146, 3) := by decide +kernel
theorem dX3_number__25 : decode cX3_number_ 25 = .ok (.invokevirtual 160, 3) := by decide +kernel
theorem dX3_number__28 : decode cX3_number_ 28 = .ok (.iconst 0, 1) := by decide +kernel
theorem dX3_number__29 : decode cX3_number_ 29 = .ok (.invokestatic 156, 3) := by decide +kernel
theorem dX3_number__32 : decode cX3_number_ 32 = .ok (.areturn, 1) := by decide +kernel
theorem dX3_timesBottom_0 : decode cX3_timesBottom 0 = .ok (.aload_n 0, 1) := by decide +kernel
theorem dX3_timesBottom_1 : decode cX3_timesBottom 1 = .ok (.iload_n 1, 1) := by decide +kernel
theorem dX3_timesBottom_2 : decode cX3_timesBottom 2 = .ok (.iconst 0, 1) := by decide +kernel
theorem dX3_timesBottom_3 : decode cX3_timesBottom 3 = .ok (.aload_n 0, 1) := by decide +kernel
theorem dX3_timesBottom_4 : decode cX3_timesBottom 4 = .ok (.iload_n 1, 1) := by decide +kernel
theorem dX3_timesBottom_5 : decode cX3_timesBottom 5 = .ok (.invokevirtual 146, 3) := by decide +kernel
theorem dX3_timesBottom_8 : decode cX3_timesBottom 8 = .ok (.invokevirtual 160, 3) := by decide +kernel
theorem dX3_timesBottom_11 : decode cX3_timesBottom 11 = .ok (.astore_n 2, 1) := by decide +kernel
theorem dX3_timesBottom_12 : decode cX3_timesBottom 12 = .ok (.aload_n 2, 1) := by decide +kernel
theorem dX3_timesBottom_13 : decode cX3_timesBottom 13 = .ok (.arraylength, 1) := by decide +kernel
theorem dX3_timesBottom_14 : decode cX3_timesBottom 14 = .ok (.iconst 2, 1) := by decide +kernel
theorem dX3_timesBottom_15 : decode cX3_timesBottom 15 = .ok (.iadd, 1) := by decide +kernel
theorem dX3_timesBottom_16 : decode cX3_timesBottom 16 = .ok (.newarray .int, 2) := by decide +kernel
theorem dX3_timesBottom_18 : decode cX3_timesBottom 18 = .ok (.astore_n 3, 1) := by decide +kernel
theorem dX3_timesBottom_19 : decode cX3_timesBottom 19 = .ok (.iconst 0, 1) := by decide +kernel
theorem dX3_timesBottom_20 : decode cX3_timesBottom 20 = .ok (.istore 4, 2) := by decide +kernel
theorem dX3_timesBottom_22 : decode cX3_timesBottom 22 = .ok (.aload_n 3, 1) := by decide +kernel
theorem dX3_timesBottom_23 : decode cX3_timesBottom 23 = .ok (.arraylength, 1) := by decide +kernel
theorem dX3_timesBottom_24 : decode cX3_timesBottom 24 = .ok (.iconst 1, 1) := by decide +kernel
theorem dX3_timesBottom_25 : decode cX3_timesBottom 25 = .ok (.isub, 1) := by decide +kernel
theorem dX3_timesBottom_26 : decode cX3_timesBottom 26 = .ok (.istore 5, 2) := by decide +kernel
theorem dX3_timesBottom_28 : decode cX3_timesBottom 28 = .ok (.iload 5, 2) := by decide +kernel
theorem dX3_timesBottom_30 : decode cX3_timesBottom 30 = .ok (.ifCond .lt 53, 3) := by decide +kernel
theorem dX3_timesBottom_33 : decode cX3_timesBottom 33 = .ok (.iload 4, 2) := by decide +kernel
theorem dX3_timesBottom_35 : decode cX3_timesBottom 35 = .ok (.iload 5, 2) := by decide +kernel
theorem dX3_timesBottom_37 : decode cX3_timesBottom 37 = .ok (.iconst 2, 1) := by decide +kernel
theorem dX3_timesBottom_38 : decode cX3_timesBottom 38 = .ok (.if_icmp .ge 7, 3) := by decide +kernel
theorem dX3_timesBottom_41 : decode cX3_timesBottom 41 = .ok (.iconst 0, 1) := by decide +kernel
theorem dX3_timesBottom_42 : decode cX3_timesBottom 42 = .ok (.goto 16, 3) := by decide +kernel
theorem dX3_timesBottom_45 : decode cX3_timesBottom 45 = .ok (.aload_n 2, 1) := by decide +kernel
theorem dX3_timesBottom_46 : decode cX3_timesBottom 46 = .ok (.iload 5, 2) := by decide +kernel
theorem dX3_timesBottom_48 : decode cX3_timesBottom 48 = .ok (.iconst 2, 1) := by decide +kernel
theorem dX3_timesBottom_49 : decode cX3_timesBottom 49 = .ok (.isub, 1) := by decide +kernel
theorem dX3_timesBottom_50 : decode cX3_timesBottom 50 = .ok (.iaload, 1) := by decide +kernel
theorem dX3_timesBottom_51 : decode cX3_timesBottom 51 = .ok (.aload_n 0, 1) := by decide +kernel
theorem dX3_timesBottom_52 : decode cX3_timesBottom 52 = .ok (.getfield 21, 3) := by decide +kernel
theorem dX3_timesBottom_55 : decode cX3_timesBottom 55 = .ok (.iload_n 1, 1) := by decide +kernel
theorem dX3_timesBottom_56 : decode cX3_timesBottom 56 = .ok (.iaload, 1) := by decide +kernel
theorem dX3_timesBottom_57 : decode cX3_timesBottom 57 = .ok (.imul, 1) := by decide +kernel
theorem dX3_timesBottom_58 : decode cX3_timesBottom 58 = .ok (.iadd, 1) := by decide +kernel
theorem dX3_timesBottom_59 : decode cX3_timesBottom 59 = .ok (.istore 4, 2) := by decide +kernel
theorem dX3_timesBottom_61 : decode cX3_timesBottom 61 = .ok (.aload_n 3, 1) := by decide +kernel
theorem dX3_timesBottom_62 : decode cX3_timesBottom 62 = .ok (.iload 5, 2) := by decide +kernel
theorem dX3_timesBottom_64 : decode cX3_timesBottom 64 = .ok (.iload 4, 2) := by decide +kernel
theorem dX3_timesBottom_66 : decode cX3_timesBottom 66 = .ok (.bipush 10, 2) := by decide +kernel
theorem dX3_timesBottom_68 : decode cX3_timesBottom 68 = .ok (.irem, 1) := by decide +kernel
theorem dX3_timesBottom_69 : decode cX3_timesBottom 69 = .ok (.iastore, 1) := by decide +kernel
theorem dX3_timesBottom_70 : decode cX3_timesBottom 70 = .ok (.iload 4, 2) := by decide +kernel
theorem dX3_timesBottom_72 : decode cX3_timesBottom 72 = .ok (.bipush 10, 2) := by decide +kernel
theorem dX3_timesBottom_74 : decode cX3_timesBottom 74 = .ok (.idiv, 1) := by decide +kernel
theorem dX3_timesBottom_75 : decode cX3_timesBottom 75 = .ok (.istore 4, 2) := by decide +kernel
theorem dX3_timesBottom_77 : decode cX3_timesBottom 77 = .ok (.iinc 5 (-1), 3) := by decide +kernel
theorem dX3_timesBottom_80 : decode cX3_timesBottom 80 = .ok (.goto (-52), 3) := by decide +kernel
theorem dX3_timesBottom_83 : decode cX3_timesBottom 83 = .ok (.aload_n 3, 1) := by decide +kernel
theorem dX3_timesBottom_84 : decode cX3_timesBottom 84 = .ok (.areturn, 1) := by decide +kernel
theorem dX3_product_0 : decode cX3_product 0 = .ok (.aload_n 0, 1) := by decide +kernel
theorem dX3_product_1 : decode cX3_product 1 = .ok (.iload_n 1, 1) := by decide +kernel
theorem dX3_product_2 : decode cX3_product 2 = .ok (.invokestatic 104, 3) := by decide +kernel
theorem dX3_product_5 : decode cX3_product 5 = .ok (.iconst 0, 1) := by decide +kernel
theorem dX3_product_6 : decode cX3_product 6 = .ok (.invokevirtual 72, 3) := by decide +kernel
theorem dX3_product_9 : decode cX3_product 9 = .ok (.ifCond .eq 8, 3) := by decide +kernel
theorem dX3_product_12 : decode cX3_product 12 = .ok (.ldc 126, 2) := by decide +kernel
theorem dX3_product_14 : decode cX3_product 14 = .ok (.goto 11, 3) := by decide +kernel
theorem dX3_product_17 : decode cX3_product 17 = .ok (.aload_n 0, 1) := by decide +kernel
theorem dX3_product_18 : decode cX3_product 18 = .ok (.iload_n 1, 1) := by decide +kernel
theorem dX3_product_19 : decode cX3_product 19 = .ok (.invokevirtual 166, 3) := by decide +kernel
theorem dX3_product_22 : decode cX3_product 22 = .ok (.invokestatic 170, 3) := by decide +kernel
theorem dX3_product_25 : decode cX3_product 25 = .ok (.areturn, 1) := by decide +kernel
theorem dX3_sumOf_0 : decode cX3_sumOf 0 = .ok (.aload_n 0, 1) := by decide +kernel
theorem dX3_sumOf_1 : decode cX3_sumOf 1 = .ok (.iload_n 1, 1) := by decide +kernel
theorem dX3_sumOf_2 : decode cX3_sumOf 2 = .ok (.invokevirtual 146, 3) := by decide +kernel
theorem dX3_sumOf_5 : decode cX3_sumOf 5 = .ok (.istore_n 3, 1) := by decide +kernel
theorem dX3_sumOf_6 : decode cX3_sumOf 6 = .ok (.iload_n 3, 1) := by decide +kernel
theorem dX3_sumOf_7 : decode cX3_sumOf 7 = .ok (.iload_n 2, 1) := by decide +kernel
theorem dX3_sumOf_8 : decode cX3_sumOf 8 = .ok (.irem, 1) := by decide +kernel
theorem dX3_sumOf_9 : decode cX3_sumOf 9 = .ok (.ifCond .eq 5, 3) := by decide +kernel
theorem dX3_sumOf_12 : decode cX3_sumOf 12 = .ok (.aconst_null, 1) := by decide +kernel
theorem dX3_sumOf_13 : decode cX3_sumOf 13 = .ok (.areturn, 1) := by decide +kernel
theorem dX3_sumOf_14 : decode cX3_sumOf 14 = .ok (.aload_n 0, 1) := by decide +kernel
theorem dX3_sumOf_15 : decode cX3_sumOf 15 = .ok (.iload_n 1, 1) := by decide +kernel
theorem dX3_sumOf_16 : decode cX3_sumOf 16 = .ok (.iconst 0, 1) := by decide +kernel
theorem dX3_sumOf_17 : decode cX3_sumOf 17 = .ok (.iload_n 3, 1) := by decide +kernel
theorem dX3_sumOf_18 : decode cX3_sumOf 18 = .ok (.invokevirtual 160, 3) := by decide +kernel
theorem dX3_sumOf_21 : decode cX3_sumOf 21 = .ok (.astore 4, 2) := by decide +kernel
theorem dX3_sumOf_23 : decode cX3_sumOf 23 = .ok (.iload_n 3, 1) := by decide +kernel
theorem dX3_sumOf_24 : decode cX3_sumOf 24 = .ok (.iload_n 2, 1) := by decide +kernel
theorem dX3_sumOf_25 : decode cX3_sumOf 25 = .ok (.idiv, 1) := by decide +kernel
theorem dX3_sumOf_26 : decode cX3_sumOf 26 = .ok (.istore 5, 2) := by decide +kernel
theorem dX3_sumOf_28 : decode cX3_sumOf 28 = .ok (.iload 5, 2) := by decide +kernel
theorem dX3_sumOf_30 : decode cX3_sumOf 30 = .ok (.iconst 2, 1) := by decide +kernel
theorem dX3_sumOf_31 : decode cX3_sumOf 31 = .ok (.iadd, 1) := by decide +kernel
theorem dX3_sumOf_32 : decode cX3_sumOf 32 = .ok (.newarray .int, 2) := by decide +kernel
theorem dX3_sumOf_34 : decode cX3_sumOf 34 = .ok (.astore 6, 2) := by decide +kernel
theorem dX3_sumOf_36 : decode cX3_sumOf 36 = .ok (.iconst 0, 1) := by decide +kernel
theorem dX3_sumOf_37 : decode cX3_sumOf 37 = .ok (.istore 7, 2) := by decide +kernel
theorem dX3_sumOf_39 : decode cX3_sumOf 39 = .ok (.aload 6, 2) := by decide +kernel
theorem dX3_sumOf_41 : decode cX3_sumOf 41 = .ok (.arraylength, 1) := by decide +kernel
theorem dX3_sumOf_42 : decode cX3_sumOf 42 = .ok (.iconst 1, 1) := by decide +kernel
theorem dX3_sumOf_43 : decode cX3_sumOf 43 = .ok (.isub, 1) := by decide +kernel
theorem dX3_sumOf_44 : decode cX3_sumOf 44 = .ok (.istore 8, 2) := by decide +kernel
theorem dX3_sumOf_46 : decode cX3_sumOf 46 = .ok (.iload 8, 2) := by decide +kernel
theorem dX3_sumOf_48 : decode cX3_sumOf 48 = .ok (.ifCond .lt 65, 3) := by decide +kernel
theorem dX3_sumOf_51 : decode cX3_sumOf 51 = .ok (.iconst 0, 1) := by decide +kernel
theorem dX3_sumOf_52 : decode cX3_sumOf 52 = .ok (.istore 9, 2) := by decide +kernel
theorem dX3_sumOf_54 : decode cX3_sumOf 54 = .ok (.iload 9, 2) := by decide +kernel
theorem dX3_sumOf_56 : decode cX3_sumOf 56 = .ok (.iload_n 2, 1) := by decide +kernel
theorem dX3_sumOf_57 : decode cX3_sumOf 57 = .ok (.if_icmp .ge 33, 3) := by decide +kernel
theorem dX3_sumOf_60 : decode cX3_sumOf 60 = .ok (.iload 8, 2) := by decide +kernel
theorem dX3_sumOf_62 : decode cX3_sumOf 62 = .ok (.iconst 1, 1) := by decide +kernel
theorem dX3_sumOf_63 : decode cX3_sumOf 63 = .ok (.if_icmp .le 27, 3) := by decide +kernel
theorem dX3_sumOf_66 : decode cX3_sumOf 66 = .ok (.iload 7, 2) := by decide +kernel
theorem dX3_sumOf_68 : decode cX3_sumOf 68 = .ok (.aload 4, 2) := by decide +kernel
theorem dX3_sumOf_70 : decode cX3_sumOf 70 = .ok (.iload 9, 2) := by decide +kernel
theorem dX3_sumOf_72 : decode cX3_sumOf 72 = .ok (.iload 5, 2) := by decide +kernel
theorem dX3_sumOf_74 : decode cX3_sumOf 74 = .ok (.imul, 1) := by decide +kernel
theorem dX3_sumOf_75 : decode cX3_sumOf 75 = .ok (.iload 8, 2) := by decide +kernel
theorem dX3_sumOf_77 : decode cX3_sumOf 77 = .ok (.iadd, 1) := by decide +kernel
theorem dX3_sumOf_78 : decode cX3_sumOf 78 = .ok (.iconst 2, 1) := by decide +kernel
theorem dX3_sumOf_79 : decode cX3_sumOf 79 = .ok (.isub, 1) := by decide +kernel
theorem dX3_sumOf_80 : decode cX3_sumOf 80 = .ok (.iaload, 1) := by decide +kernel
theorem dX3_sumOf_81 : decode cX3_sumOf 81 = .ok (.iadd, 1) := by decide +kernel
theorem dX3_sumOf_82 : decode cX3_sumOf 82 = .ok (.istore 7, 2) := by decide +kernel
theorem dX3_sumOf_84 : decode cX3_sumOf 84 = .ok (.iinc 9 1, 3) := by decide +kernel
theorem dX3_sumOf_87 : decode cX3_sumOf 87 = .ok (.goto (-33), 3) := by decide +kernel
theorem dX3_sumOf_90 : decode cX3_sumOf 90 = .ok (.aload 6, 2) := by decide +kernel
theorem dX3_sumOf_92 : decode cX3_sumOf 92 = .ok (.iload 8, 2) := by decide +kernel
theorem dX3_sumOf_94 : decode cX3_sumOf 94 = .ok (.iload 7, 2) := by decide +kernel
theorem dX3_sumOf_96 : decode cX3_sumOf 96 = .ok (.bipush 10, 2) := by decide +kernel
theorem dX3_sumOf_98 : decode cX3_sumOf 98 = .ok (.irem, 1) := by decide +kernel
theorem dX3_sumOf_99 : decode cX3_sumOf 99 = .ok (.iastore, 1) := by decide +kernel
theorem dX3_sumOf_100 : decode cX3_sumOf 100 = .ok (.iload 7, 2) := by decide +kernel
theorem dX3_sumOf_102 : decode cX3_sumOf 102 = .ok (.bipush 10, 2) := by decide +kernel
theorem dX3_sumOf_104 : decode cX3_sumOf 104 = .ok (.idiv, 1) := by decide +kernel
theorem dX3_sumOf_105 : decode cX3_sumOf 105 = .ok (.istore 7, 2) := by decide +kernel
theorem dX3_sumOf_107 : decode cX3_sumOf 107 = .ok (.iinc 8 (-1), 3) := by decide +kernel
theorem dX3_sumOf_110 : decode cX3_sumOf 110 = .ok (.goto (-64), 3) := by decide +kernel
theorem dX3_sumOf_113 : decode cX3_sumOf 113 = .ok (.aload 6, 2) := by decide +kernel
theorem dX3_sumOf_115 : decode cX3_sumOf 115 = .ok (.areturn, 1) := by decide +kernel
theorem dX3_partSum_0 : decode cX3_partSum 0 = .ok (.aload_n 0, 1) := by decide +kernel
theorem dX3_partSum_1 : decode cX3_partSum 1 = .ok (.iload_n 1, 1) := by decide +kernel
theorem dX3_partSum_2 : decode cX3_partSum 2 = .ok (.invokestatic 104, 3) := by decide +kernel
theorem dX3_partSum_5 : decode cX3_partSum 5 = .ok (.iload_n 2, 1) := by decide +kernel
theorem dX3_partSum_6 : decode cX3_partSum 6 = .ok (.iconst 2, 1) := by decide +kernel
theorem dX3_partSum_7 : decode cX3_partSum 7 = .ok (.bipush 12, 2) := by decide +kernel
theorem dX3_partSum_9 : decode cX3_partSum 9 = .ok (.invokestatic 34, 3) := by decide +kernel
theorem dX3_partSum_12 : decode cX3_partSum 12 = .ok (.invokevirtual 72, 3) := by decide +kernel
theorem dX3_partSum_15 : decode cX3_partSum 15 = .ok (.ifCond .eq 6, 3) := by decide +kernel
theorem dX3_partSum_18 : decode cX3_partSum 18 = .ok (.ldc 126, 2) := by decide +kernel
theorem dX3_partSum_20 : decode cX3_partSum 20 = .ok (.areturn, 1) := by decide +kernel
theorem dX3_partSum_21 : decode cX3_partSum 21 = .ok (.aload_n 0, 1) := by decide +kernel
theorem dX3_partSum_22 : decode cX3_partSum 22 = .ok (.iload_n 1, 1) := by decide +kernel
theorem dX3_partSum_23 : decode cX3_partSum 23 = .ok (.iload_n 2, 1) := by decide +kernel
theorem dX3_partSum_24 : decode cX3_partSum 24 = .ok (.invokevirtual 174, 3) := by decide +kernel
theorem dX3_partSum_27 : decode cX3_partSum 27 = .ok (.astore_n 3, 1) := by decide +kernel
theorem dX3_partSum_28 : decode cX3_partSum 28 = .ok (.aload_n 3, 1) := by decide +kernel
theorem dX3_partSum_29 : decode cX3_partSum 29 = .ok (.ifnonnull 8, 3) := by decide +kernel
theorem dX3_partSum_32 : decode cX3_partSum 32 = .ok (.ldc 164, 2) := by decide +kernel
theorem dX3_partSum_34 : decode cX3_partSum 34 = .ok (.goto 7, 3) := by decide +kernel
theorem dX3_partSum_37 : decode cX3_partSum 37 = .ok (.aload_n 3, 1) := by decide +kernel
theorem dX3_partSum_38 : decode cX3_partSum 38 = .ok (.invokestatic 170, 3) := by decide +kernel
theorem dX3_partSum_41 : decode cX3_partSum 41 = .ok (.areturn, 1) := by decide +kernel
theorem dX3_areLike_0 : decode cX3_areLike 0 = .ok (.iconst 0, 1) := by decide +kernel
theorem dX3_areLike_1 : decode cX3_areLike 1 = .ok (.istore_n 2, 1) := by decide +kernel
theorem dX3_areLike_2 : decode cX3_areLike 2 = .ok (.iload_n 2, 1) := by decide +kernel
theorem dX3_areLike_3 : decode cX3_areLike 3 = .ok (.aload_n 0, 1) := by decide +kernel
theorem dX3_areLike_4 : decode cX3_areLike 4 = .ok (.arraylength, 1) := by decide +kernel
theorem dX3_areLike_5 : decode cX3_areLike 5 = .ok (.if_icmp .ge 20, 3) := by decide +kernel
theorem dX3_areLike_8 : decode cX3_areLike 8 = .ok (.aload_n 0, 1) := by decide +kernel
theorem dX3_areLike_9 : decode cX3_areLike 9 = .ok (.iload_n 2, 1) := by decide +kernel
theorem dX3_areLike_10 : decode cX3_areLike 10 = .ok (.iaload, 1) := by decide +kernel
theorem dX3_areLike_11 : decode cX3_areLike 11 = .ok (.aload_n 1, 1) := by decide +kernel
theorem dX3_areLike_12 : decode cX3_areLike 12 = .ok (.iload_n 2, 1) := by decide +kernel
theorem dX3_areLike_13 : decode cX3_areLike 13 = .ok (.iaload, 1) := by decide +kernel
theorem dX3_areLike_14 : decode cX3_areLike 14 = .ok (.if_icmp .eq 5, 3) := by decide +kernel
theorem dX3_areLike_17 : decode cX3_areLike 17 = .ok (.iconst 0, 1) := by decide +kernel
theorem dX3_areLike_18 : decode cX3_areLike 18 = .ok (.ireturn, 1) := by decide +kernel
theorem dX3_areLike_19 : decode cX3_areLike 19 = .ok (.iinc 2 1, 3) := by decide +kernel
theorem dX3_areLike_22 : decode cX3_areLike 22 = .ok (.goto (-20), 3) := by decide +kernel
theorem dX3_areLike_25 : decode cX3_areLike 25 = .ok (.iconst 1, 1) := by decide +kernel
theorem dX3_areLike_26 : decode cX3_areLike 26 = .ok (.ireturn, 1) := by decide +kernel
theorem dX3_ninesOf_0 : decode cX3_ninesOf 0 = .ok (.aload_n 0, 1) := by decide +kernel
theorem dX3_ninesOf_1 : decode cX3_ninesOf 1 = .ok (.iload_n 1, 1) := by decide +kernel
theorem dX3_ninesOf_2 : decode cX3_ninesOf 2 = .ok (.iload_n 2, 1) := by decide +kernel
theorem dX3_ninesOf_3 : decode cX3_ninesOf 3 = .ok (.invokevirtual 174, 3) := by decide +kernel
theorem dX3_ninesOf_6 : decode cX3_ninesOf 6 = .ok (.astore_n 3, 1) := by decide +kernel
theorem dX3_ninesOf_7 : decode cX3_ninesOf 7 = .ok (.aload_n 3, 1) := by decide +kernel
theorem dX3_ninesOf_8 : decode cX3_ninesOf 8 = .ok (.ifnonnull 6, 3) := by decide +kernel
theorem dX3_ninesOf_11 : decode cX3_ninesOf 11 = .ok (.bipush (-9), 2) := by decide +kernel
theorem dX3_ninesOf_13 : decode cX3_ninesOf 13 = .ok (.ireturn, 1) := by decide +kernel
theorem dX3_ninesOf_14 : decode cX3_ninesOf 14 = .ok (.aload_n 3, 1) := by decide +kernel
theorem dX3_ninesOf_15 : decode cX3_ninesOf 15 = .ok (.arraylength, 1) := by decide +kernel
theorem dX3_ninesOf_16 : decode cX3_ninesOf 16 = .ok (.newarray .int, 2) := by decide +kernel
theorem dX3_ninesOf_18 : decode cX3_ninesOf 18 = .ok (.astore 4, 2) := by decide +kernel
theorem dX3_ninesOf_20 : decode cX3_ninesOf 20 = .ok (.iconst 0, 1) := by decide +kernel
theorem dX3_ninesOf_21 : decode cX3_ninesOf 21 = .ok (.istore 5, 2) := by decide +kernel
theorem dX3_ninesOf_23 : decode cX3_ninesOf 23 = .ok (.iload 5, 2) := by decide +kernel
theorem dX3_ninesOf_25 : decode cX3_ninesOf 25 = .ok (.iload_n 2, 1) := by decide +kernel
theorem dX3_ninesOf_26 : decode cX3_ninesOf 26 = .ok (.if_icmp .gt 82, 3) := by decide +kernel
theorem dX3_ninesOf_29 : decode cX3_ninesOf 29 = .ok (.aload 4, 2) := by decide +kernel
theorem dX3_ninesOf_31 : decode cX3_ninesOf 31 = .ok (.aload_n 3, 1) := by decide +kernel
theorem dX3_ninesOf_32 : decode cX3_ninesOf 32 = .ok (.invokestatic 178, 3) := by decide +kernel
theorem dX3_ninesOf_35 : decode cX3_ninesOf 35 = .ok (.ifCond .eq 6, 3) := by decide +kernel
theorem dX3_ninesOf_38 : decode cX3_ninesOf 38 = .ok (.iload 5, 2) := by decide +kernel
theorem dX3_ninesOf_40 : decode cX3_ninesOf 40 = .ok (.ireturn, 1) := by decide +kernel
theorem dX3_ninesOf_41 : decode cX3_ninesOf 41 = .ok (.iconst 0, 1) := by decide +kernel
theorem dX3_ninesOf_42 : decode cX3_ninesOf 42 = .ok (.istore 6, 2) := by decide +kernel
theorem dX3_ninesOf_44 : decode cX3_ninesOf 44 = .ok (.aload 4, 2) := by decide +kernel
theorem dX3_ninesOf_46 : decode cX3_ninesOf 46 = .ok (.arraylength, 1) := by decide +kernel
theorem dX3_ninesOf_47 : decode cX3_ninesOf 47 = .ok (.iconst 1, 1) := by decide +kernel
theorem dX3_ninesOf_48 : decode cX3_ninesOf 48 = .ok (.isub, 1) := by decide +kernel
theorem dX3_ninesOf_49 : decode cX3_ninesOf 49 = .ok (.istore 7, 2) := by decide +kernel
theorem dX3_ninesOf_51 : decode cX3_ninesOf 51 = .ok (.iload 7, 2) := by decide +kernel
theorem dX3_ninesOf_53 : decode cX3_ninesOf 53 = .ok (.ifCond .lt 49, 3) := by decide +kernel
theorem dX3_ninesOf_56 : decode cX3_ninesOf 56 = .ok (.iload 6, 2) := by decide +kernel
theorem dX3_ninesOf_58 : decode cX3_ninesOf 58 = .ok (.aload 4, 2) := by decide +kernel
theorem dX3_ninesOf_60 : decode cX3_ninesOf 60 = .ok (.iload 7, 2) := by decide +kernel
theorem dX3_ninesOf_62 : decode cX3_ninesOf 62 = .ok (.iaload, 1) := by decide +kernel
theorem dX3_ninesOf_63 : decode cX3_ninesOf 63 = .ok (.iload 7, 2) := by decide +kernel
theorem dX3_ninesOf_65 : decode cX3_ninesOf 65 = .ok (.iconst 1, 1) := by decide +kernel
theorem dX3_ninesOf_66 : decode cX3_ninesOf 66 = .ok (.if_icmp .le 8, 3) := by decide +kernel
theorem dX3_ninesOf_69 : decode cX3_ninesOf 69 = .ok (.bipush 9, 2) := by decide +kernel
theorem dX3_ninesOf_71 : decode cX3_ninesOf 71 = .ok (.goto 4, 3) := by decide +kernel
theorem dX3_ninesOf_74 : decode cX3_ninesOf 74 = .ok (.iconst 0, 1) := by decide +kernel
theorem dX3_ninesOf_75 : decode cX3_ninesOf 75 = .ok (.iadd, 1) := by decide +kernel
theorem dX3_ninesOf_76 : decode cX3_ninesOf 76 = .ok (.iadd, 1) := by decide +kernel
theorem dX3_ninesOf_77 : decode cX3_ninesOf 77 = .ok (.istore 6, 2) := by decide +kernel
theorem dX3_ninesOf_79 : decode cX3_ninesOf 79 = .ok (.aload 4, 2) := by decide +kernel
theorem dX3_ninesOf_81 : decode cX3_ninesOf 81 = .ok (.iload 7, 2) := by decide +kernel
theorem dX3_ninesOf_83 : decode cX3_ninesOf 83 = .ok (.iload 6, 2) := by decide +kernel
theorem dX3_ninesOf_85 : decode cX3_ninesOf 85 = .ok (.bipush 10, 2) := by decide +kernel
theorem dX3_ninesOf_87 : decode cX3_ninesOf 87 = .ok (.irem, 1) := by decide +kernel
theorem dX3_ninesOf_88 : decode cX3_ninesOf 88 = .ok (.iastore, 1) := by decide +kernel
theorem dX3_ninesOf_89 : decode cX3_ninesOf 89 = .ok (.iload 6, 2) := by decide +kernel
theorem dX3_ninesOf_91 : decode cX3_ninesOf 91 = .ok (.bipush 10, 2) := by decide +kernel
theorem dX3_ninesOf_93 : decode cX3_ninesOf 93 = .ok (.idiv, 1) := by decide +kernel
theorem dX3_ninesOf_94 : decode cX3_ninesOf 94 = .ok (.istore 6, 2) := by decide +kernel
theorem dX3_ninesOf_96 : decode cX3_ninesOf 96 = .ok (.iinc 7 (-1), 3) := by decide +kernel
theorem dX3_ninesOf_99 : decode cX3_ninesOf 99 = .ok (.goto (-48), 3) := by decide +kernel
theorem dX3_ninesOf_102 : decode cX3_ninesOf 102 = .ok (.iinc 5 1, 3) := by decide +kernel
theorem dX3_ninesOf_105 : decode cX3_ninesOf 105 = .ok (.goto (-82), 3) := by decide +kernel
theorem dX3_ninesOf_108 : decode cX3_ninesOf 108 = .ok (.iconst (-1), 1) := by decide +kernel
theorem dX3_ninesOf_109 : decode cX3_ninesOf 109 = .ok (.ireturn, 1) := by decide +kernel
theorem dX3_nines_0 : decode cX3_nines 0 = .ok (.aload_n 0, 1) := by decide +kernel
theorem dX3_nines_1 : decode cX3_nines 1 = .ok (.iload_n 1, 1) := by decide +kernel
theorem dX3_nines_2 : decode cX3_nines 2 = .ok (.invokestatic 104, 3) := by decide +kernel
theorem dX3_nines_5 : decode cX3_nines 5 = .ok (.iload_n 2, 1) := by decide +kernel
theorem dX3_nines_6 : decode cX3_nines 6 = .ok (.iconst 2, 1) := by decide +kernel
theorem dX3_nines_7 : decode cX3_nines 7 = .ok (.bipush 12, 2) := by decide +kernel
theorem dX3_nines_9 : decode cX3_nines 9 = .ok (.invokestatic 34, 3) := by decide +kernel
theorem dX3_nines_12 : decode cX3_nines 12 = .ok (.invokevirtual 72, 3) := by decide +kernel
theorem dX3_nines_15 : decode cX3_nines 15 = .ok (.ifCond .eq 7, 3) := by decide +kernel
theorem dX3_nines_18 : decode cX3_nines 18 = .ok (.iconst 0, 1) := by decide +kernel
theorem dX3_nines_19 : decode cX3_nines 19 = .ok (.goto 9, 3) := by decide +kernel
theorem dX3_nines_22 : decode cX3_nines 22 = .ok (.aload_n 0, 1) := by decide +kernel
theorem dX3_nines_23 : decode cX3_nines 23 = .ok (.iload_n 1, 1) := by decide +kernel
theorem dX3_nines_24 : decode cX3_nines 24 = .ok (.iload_n 2, 1) := by decide +kernel
theorem dX3_nines_25 : decode cX3_nines 25 = .ok (.invokevirtual 182, 3) := by decide +kernel
theorem dX3_nines_28 : decode cX3_nines 28 = .ok (.ireturn, 1) := by decide +kernel
theorem dX3_placeOf_0 : decode cX3_placeOf 0 = .ok (.aload_n 0, 1) := by decide +kernel
theorem dX3_placeOf_1 : decode cX3_placeOf 1 = .ok (.iload_n 1, 1) := by decide +kernel
theorem dX3_placeOf_2 : decode cX3_placeOf 2 = .ok (.invokestatic 104, 3) := by decide +kernel
theorem dX3_placeOf_5 : decode cX3_placeOf 5 = .ok (.ifCond .ne 10, 3) := by decide +kernel
theorem dX3_placeOf_8 : decode cX3_placeOf 8 = .ok (.iload_n 2, 1) := by decide +kernel
theorem dX3_placeOf_9 : decode cX3_placeOf 9 = .ok (.invokestatic 104, 3) := by decide +kernel
theorem dX3_placeOf_12 : decode cX3_placeOf 12 = .ok (.ifCond .eq 7, 3) := by decide +kernel
theorem dX3_placeOf_15 : decode cX3_placeOf 15 = .ok (.iconst 1, 1) := by decide +kernel
theorem dX3_placeOf_16 : decode cX3_placeOf 16 = .ok (.goto 4, 3) := by decide +kernel
theorem dX3_placeOf_19 : decode cX3_placeOf 19 = .ok (.iconst 0, 1) := by decide +kernel
theorem dX3_placeOf_20 : decode cX3_placeOf 20 = .ok (.iconst 0, 1) := by decide +kernel
theorem dX3_placeOf_21 : decode cX3_placeOf 21 = .ok (.invokevirtual 72, 3) := by decide +kernel
theorem dX3_placeOf_24 : decode cX3_placeOf 24 = .ok (.ifCond .eq 5, 3) := by decide +kernel
theorem dX3_placeOf_27 : decode cX3_placeOf 27 = .ok (.iconst 0, 1) := by decide +kernel
theorem dX3_placeOf_28 : decode cX3_placeOf 28 = .ok (.ireturn, 1) := by decide +kernel
theorem dX3_placeOf_29 : decode cX3_placeOf 29 = .ok (.aload_n 0, 1) := by decide +kernel
theorem dX3_placeOf_30 : decode cX3_placeOf 30 = .ok (.iload_n 1, 1) := by decide +kernel
theorem dX3_placeOf_31 : decode cX3_placeOf 31 = .ok (.invokevirtual 146, 3) := by decide +kernel
theorem dX3_placeOf_34 : decode cX3_placeOf 34 = .ok (.istore_n 3, 1) := by decide +kernel
theorem dX3_placeOf_35 : decode cX3_placeOf 35 = .ok (.iconst 0, 1) := by decide +kernel
theorem dX3_placeOf_36 : decode cX3_placeOf 36 = .ok (.istore 4, 2) := by decide +kernel
theorem dX3_placeOf_38 : decode cX3_placeOf 38 = .ok (.iload 4, 2) := by decide +kernel
theorem dX3_placeOf_40 : decode cX3_placeOf 40 = .ok (.iload_n 3, 1) := by decide +kernel
theorem dX3_placeOf_41 : decode cX3_placeOf 41 = .ok (.if_icmp .ge 52, 3) := by decide +kernel
theorem dX3_placeOf_44 : decode cX3_placeOf 44 = .ok (.aload_n 0, 1) := by decide +kernel
theorem dX3_placeOf_45 : decode cX3_placeOf 45 = .ok (.getfield 18, 3) := by decide +kernel
theorem dX3_placeOf_48 : decode cX3_placeOf 48 = .ok (.iload_n 1, 1) := by decide +kernel
theorem dX3_placeOf_49 : decode cX3_placeOf 49 = .ok (.iaload, 1) := by decide +kernel
theorem dX3_placeOf_50 : decode cX3_placeOf 50 = .ok (.aload_n 0, 1) := by decide +kernel
theorem dX3_placeOf_51 : decode cX3_placeOf 51 = .ok (.getfield 21, 3) := by decide +kernel
theorem dX3_placeOf_54 : decode cX3_placeOf 54 = .ok (.iload_n 1, 1) := by decide +kernel
theorem dX3_placeOf_55 : decode cX3_placeOf 55 = .ok (.iaload, 1) := by decide +kernel
theorem dX3_placeOf_56 : decode cX3_placeOf 56 = .ok (.iload 4, 2) := by decide +kernel
theorem dX3_placeOf_58 : decode cX3_placeOf 58 = .ok (.invokestatic 149, 3) := by decide +kernel
theorem dX3_placeOf_61 : decode cX3_placeOf 61 = .ok (.aload_n 0, 1) := by decide +kernel
theorem dX3_placeOf_62 : decode cX3_placeOf 62 = .ok (.getfield 21, 3) := by decide +kernel
theorem dX3_placeOf_65 : decode cX3_placeOf 65 = .ok (.iload_n 2, 1) := by decide +kernel
theorem dX3_placeOf_66 : decode cX3_placeOf 66 = .ok (.iaload, 1) := by decide +kernel
theorem dX3_placeOf_67 : decode cX3_placeOf 67 = .ok (.imul, 1) := by decide +kernel
theorem dX3_placeOf_68 : decode cX3_placeOf 68 = .ok (.aload_n 0, 1) := by decide +kernel
theorem dX3_placeOf_69 : decode cX3_placeOf 69 = .ok (.getfield 18, 3) := by decide +kernel
theorem dX3_placeOf_72 : decode cX3_placeOf 72 = .ok (.iload_n 2, 1) := by decide +kernel
theorem dX3_placeOf_73 : decode cX3_placeOf 73 = .ok (.iaload, 1) := by decide +kernel
theorem dX3_placeOf_74 : decode cX3_placeOf 74 = .ok (.aload_n 0, 1) := by decide +kernel
theorem dX3_placeOf_75 : decode cX3_placeOf 75 = .ok (.getfield 21, 3) := by decide +kernel
theorem dX3_placeOf_78 : decode cX3_placeOf 78 = .ok (.iload_n 1, 1) := by decide +kernel
theorem dX3_placeOf_79 : decode cX3_placeOf 79 = .ok (.iaload, 1) := by decide +kernel
theorem dX3_placeOf_80 : decode cX3_placeOf 80 = .ok (.imul, 1) := by decide +kernel
theorem dX3_placeOf_81 : decode cX3_placeOf 81 = .ok (.if_icmp .ne 6, 3) := by decide +kernel
theorem dX3_placeOf_84 : decode cX3_placeOf 84 = .ok (.iload 4, 2) := by decide +kernel
theorem dX3_placeOf_86 : decode cX3_placeOf 86 = .ok (.ireturn, 1) := by decide +kernel
theorem dX3_placeOf_87 : decode cX3_placeOf 87 = .ok (.iinc 4 1, 3) := by decide +kernel
theorem dX3_placeOf_90 : decode cX3_placeOf 90 = .ok (.goto (-52), 3) := by decide +kernel
theorem dX3_placeOf_93 : decode cX3_placeOf 93 = .ok (.iconst (-1), 1) := by decide +kernel
theorem dX3_placeOf_94 : decode cX3_placeOf 94 = .ok (.ireturn, 1) := by decide +kernel
theorem dX3_wheelsOrdered_0 : decode cX3_wheelsOrdered 0 = .ok (.aload_n 0, 1) := by decide +kernel
theorem dX3_wheelsOrdered_1 : decode cX3_wheelsOrdered 1 = .ok (.getfield 18, 3) := by decide +kernel
theorem dX3_wheelsOrdered_4 : decode cX3_wheelsOrdered 4 = .ok (.iload_n 1, 1) := by decide +kernel
theorem dX3_wheelsOrdered_5 : decode cX3_wheelsOrdered 5 = .ok (.iaload, 1) := by decide +kernel
theorem dX3_wheelsOrdered_6 : decode cX3_wheelsOrdered 6 = .ok (.aload_n 0, 1) := by decide +kernel
theorem dX3_wheelsOrdered_7 : decode cX3_wheelsOrdered 7 = .ok (.getfield 21, 3) := by decide +kernel
theorem dX3_wheelsOrdered_10 : decode cX3_wheelsOrdered 10 = .ok (.iload_n 2, 1) := by decide +kernel
theorem dX3_wheelsOrdered_11 : decode cX3_wheelsOrdered 11 = .ok (.iaload, 1) := by decide +kernel
theorem dX3_wheelsOrdered_12 : decode cX3_wheelsOrdered 12 = .ok (.imul, 1) := by decide +kernel
theorem dX3_wheelsOrdered_13 : decode cX3_wheelsOrdered 13 = .ok (.i2l, 1) := by decide +kernel
theorem dX3_wheelsOrdered_14 : decode cX3_wheelsOrdered 14 = .ok (.aload_n 0, 1) := by decide +kernel
theorem dX3_wheelsOrdered_15 : decode cX3_wheelsOrdered 15 = .ok (.getfield 18, 3) := by decide +kernel
theorem dX3_wheelsOrdered_18 : decode cX3_wheelsOrdered 18 = .ok (.iload_n 2, 1) := by decide +kernel
theorem dX3_wheelsOrdered_19 : decode cX3_wheelsOrdered 19 = .ok (.iaload, 1) := by decide +kernel
theorem dX3_wheelsOrdered_20 : decode cX3_wheelsOrdered 20 = .ok (.aload_n 0, 1) := by decide +kernel
theorem dX3_wheelsOrdered_21 : decode cX3_wheelsOrdered 21 = .ok (.getfield 21, 3) := by decide +kernel
theorem dX3_wheelsOrdered_24 : decode cX3_wheelsOrdered 24 = .ok (.iload_n 1, 1) := by decide +kernel
theorem dX3_wheelsOrdered_25 : decode cX3_wheelsOrdered 25 = .ok (.iaload, 1) := by decide +kernel
theorem dX3_wheelsOrdered_26 : decode cX3_wheelsOrdered 26 = .ok (.imul, 1) := by decide +kernel
theorem dX3_wheelsOrdered_27 : decode cX3_wheelsOrdered 27 = .ok (.i2l, 1) := by decide +kernel
theorem dX3_wheelsOrdered_28 : decode cX3_wheelsOrdered 28 = .ok (.invokestatic 48, 3) := by decide +kernel
theorem dX3_wheelsOrdered_31 : decode cX3_wheelsOrdered 31 = .ok (.ireturn, 1) := by decide +kernel
theorem dX3_wheelOrder_0 : decode cX3_wheelOrder 0 = .ok (.aload_n 0, 1) := by decide +kernel
theorem dX3_wheelOrder_1 : decode cX3_wheelOrder 1 = .ok (.iload_n 1, 1) := by decide +kernel
theorem dX3_wheelOrder_2 : decode cX3_wheelOrder 2 = .ok (.invokestatic 104, 3) := by decide +kernel
theorem dX3_wheelOrder_5 : decode cX3_wheelOrder 5 = .ok (.ifCond .ne 10, 3) := by decide +kernel
theorem dX3_wheelOrder_8 : decode cX3_wheelOrder 8 = .ok (.iload_n 2, 1) := by decide +kernel
theorem dX3_wheelOrder_9 : decode cX3_wheelOrder 9 = .ok (.invokestatic 104, 3) := by decide +kernel
theorem dX3_wheelOrder_12 : decode cX3_wheelOrder 12 = .ok (.ifCond .eq 7, 3) := by decide +kernel
theorem dX3_wheelOrder_15 : decode cX3_wheelOrder 15 = .ok (.iconst 1, 1) := by decide +kernel
theorem dX3_wheelOrder_16 : decode cX3_wheelOrder 16 = .ok (.goto 4, 3) := by decide +kernel
theorem dX3_wheelOrder_19 : decode cX3_wheelOrder 19 = .ok (.iconst 0, 1) := by decide +kernel
theorem dX3_wheelOrder_20 : decode cX3_wheelOrder 20 = .ok (.iconst 0, 1) := by decide +kernel
theorem dX3_wheelOrder_21 : decode cX3_wheelOrder 21 = .ok (.invokevirtual 72, 3) := by decide +kernel
theorem dX3_wheelOrder_24 : decode cX3_wheelOrder 24 = .ok (.ifCond .eq 7, 3) := by decide +kernel
theorem dX3_wheelOrder_27 : decode cX3_wheelOrder 27 = .ok (.iconst 0, 1) := by decide +kernel
theorem dX3_wheelOrder_28 : decode cX3_wheelOrder 28 = .ok (.goto 9, 3) := by decide +kernel
theorem dX3_wheelOrder_31 : decode cX3_wheelOrder 31 = .ok (.aload_n 0, 1) := by decide +kernel
theorem dX3_wheelOrder_32 : decode cX3_wheelOrder 32 = .ok (.iload_n 1, 1) := by decide +kernel
theorem dX3_wheelOrder_33 : decode cX3_wheelOrder 33 = .ok (.iload_n 2, 1) := by decide +kernel
theorem dX3_wheelOrder_34 : decode cX3_wheelOrder 34 = .ok (.invokevirtual 185, 3) := by decide +kernel
theorem dX3_wheelOrder_37 : decode cX3_wheelOrder 37 = .ok (.ireturn, 1) := by decide +kernel
theorem dX3_heldAgainst_0 : decode cX3_heldAgainst 0 = .ok (.aload_n 0, 1) := by decide +kernel
theorem dX3_heldAgainst_1 : decode cX3_heldAgainst 1 = .ok (.getfield 18, 3) := by decide +kernel
theorem dX3_heldAgainst_4 : decode cX3_heldAgainst 4 = .ok (.iload_n 1, 1) := by decide +kernel
theorem dX3_heldAgainst_5 : decode cX3_heldAgainst 5 = .ok (.iaload, 1) := by decide +kernel
theorem dX3_heldAgainst_6 : decode cX3_heldAgainst 6 = .ok (.i2l, 1) := by decide +kernel
theorem dX3_heldAgainst_7 : decode cX3_heldAgainst 7 = .ok (.aload_n 0, 1) := by decide +kernel
theorem dX3_heldAgainst_8 : decode cX3_heldAgainst 8 = .ok (.getfield 15, 3) := by decide +kernel
theorem dX3_heldAgainst_11 : decode cX3_heldAgainst 11 = .ok (.iload_n 2, 1) := by decide +kernel
theorem dX3_heldAgainst_12 : decode cX3_heldAgainst 12 = .ok (.iaload, 1) := by decide +kernel
theorem dX3_heldAgainst_13 : decode cX3_heldAgainst 13 = .ok (.invokestatic 58, 3) := by decide +kernel
theorem dX3_heldAgainst_16 : decode cX3_heldAgainst 16 = .ok (.lmul, 1) := by decide +kernel
theorem dX3_heldAgainst_17 : decode cX3_heldAgainst 17 = .ok (.aload_n 0, 1) := by decide +kernel
theorem dX3_heldAgainst_18 : decode cX3_heldAgainst 18 = .ok (.getfield 9, 3) := by decide +kernel
theorem dX3_heldAgainst_21 : decode cX3_heldAgainst 21 = .ok (.iload_n 2, 1) := by decide +kernel
theorem dX3_heldAgainst_22 : decode cX3_heldAgainst 22 = .ok (.iaload, 1) := by decide +kernel
theorem dX3_heldAgainst_23 : decode cX3_heldAgainst 23 = .ok (.i2l, 1) := by decide +kernel
theorem dX3_heldAgainst_24 : decode cX3_heldAgainst 24 = .ok (.aload_n 0, 1) := by decide +kernel
theorem dX3_heldAgainst_25 : decode cX3_heldAgainst 25 = .ok (.getfield 21, 3) := by decide +kernel
theorem dX3_heldAgainst_28 : decode cX3_heldAgainst 28 = .ok (.iload_n 1, 1) := by decide +kernel
theorem dX3_heldAgainst_29 : decode cX3_heldAgainst 29 = .ok (.iaload, 1) := by decide +kernel
theorem dX3_heldAgainst_30 : decode cX3_heldAgainst 30 = .ok (.i2l, 1) := by decide +kernel
theorem dX3_heldAgainst_31 : decode cX3_heldAgainst 31 = .ok (.lmul, 1) := by decide +kernel
theorem dX3_heldAgainst_32 : decode cX3_heldAgainst 32 = .ok (.invokestatic 48, 3) := by decide +kernel
theorem dX3_heldAgainst_35 : decode cX3_heldAgainst 35 = .ok (.ireturn, 1) := by decide +kernel
theorem dX3_against_0 : decode cX3_against 0 = .ok (.aload_n 0, 1) := by decide +kernel
theorem dX3_against_1 : decode cX3_against 1 = .ok (.iload_n 1, 1) := by decide +kernel
theorem dX3_against_2 : decode cX3_against 2 = .ok (.invokestatic 104, 3) := by decide +kernel
theorem dX3_against_5 : decode cX3_against 5 = .ok (.ifCond .ne 10, 3) := by decide +kernel
theorem dX3_against_8 : decode cX3_against 8 = .ok (.iload_n 2, 1) := by decide +kernel
theorem dX3_against_9 : decode cX3_against 9 = .ok (.invokestatic 66, 3) := by decide +kernel
theorem dX3_against_12 : decode cX3_against 12 = .ok (.ifCond .eq 7, 3) := by decide +kernel
theorem dX3_against_15 : decode cX3_against 15 = .ok (.iconst 1, 1) := by decide +kernel
theorem dX3_against_16 : decode cX3_against 16 = .ok (.goto 4, 3) := by decide +kernel
theorem dX3_against_19 : decode cX3_against 19 = .ok (.iconst 0, 1) := by decide +kernel
theorem dX3_against_20 : decode cX3_against 20 = .ok (.iconst 0, 1) := by decide +kernel
theorem dX3_against_21 : decode cX3_against 21 = .ok (.invokevirtual 72, 3) := by decide +kernel
theorem dX3_against_24 : decode cX3_against 24 = .ok (.ifCond .eq 7, 3) := by decide +kernel
theorem dX3_against_27 : decode cX3_against 27 = .ok (.iconst 0, 1) := by decide +kernel
theorem dX3_against_28 : decode cX3_against 28 = .ok (.goto 9, 3) := by decide +kernel
theorem dX3_against_31 : decode cX3_against 31 = .ok (.aload_n 0, 1) := by decide +kernel
theorem dX3_against_32 : decode cX3_against 32 = .ok (.iload_n 1, 1) := by decide +kernel
theorem dX3_against_33 : decode cX3_against 33 = .ok (.iload_n 2, 1) := by decide +kernel
theorem dX3_against_34 : decode cX3_against 34 = .ok (.invokevirtual 188, 3) := by decide +kernel
theorem dX3_against_37 : decode cX3_against 37 = .ok (.ireturn, 1) := by decide +kernel
theorem dX3_house_0 : decode cX3_house 0 = .ok (.aload_n 0, 1) := by decide +kernel
theorem dX3_house_1 : decode cX3_house 1 = .ok (.iload_n 1, 1) := by decide +kernel
theorem dX3_house_2 : decode cX3_house 2 = .ok (.iconst 0, 1) := by decide +kernel
theorem dX3_house_3 : decode cX3_house 3 = .ok (.iconst 3, 1) := by decide +kernel
theorem dX3_house_4 : decode cX3_house 4 = .ok (.invokestatic 34, 3) := by decide +kernel
theorem dX3_house_7 : decode cX3_house 7 = .ok (.iconst 0, 1) := by decide +kernel
theorem dX3_house_8 : decode cX3_house 8 = .ok (.invokevirtual 72, 3) := by decide +kernel
theorem dX3_house_11 : decode cX3_house 11 = .ok (.ifCond .eq 7, 3) := by decide +kernel
theorem dX3_house_14 : decode cX3_house 14 = .ok (.iconst 0, 1) := by decide +kernel
theorem dX3_house_15 : decode cX3_house 15 = .ok (.goto 9, 3) := by decide +kernel
theorem dX3_house_18 : decode cX3_house 18 = .ok (.aload_n 0, 1) := by decide +kernel
theorem dX3_house_19 : decode cX3_house 19 = .ok (.getfield 27, 3) := by decide +kernel
theorem dX3_house_22 : decode cX3_house 22 = .ok (.iload_n 1, 1) := by decide +kernel
theorem dX3_house_23 : decode cX3_house 23 = .ok (.iaload, 1) := by decide +kernel
theorem dX3_house_24 : decode cX3_house 24 = .ok (.ireturn, 1) := by decide +kernel
theorem dX3_knock_0 : decode cX3_knock 0 = .ok (.aload_n 0, 1) := by decide +kernel
theorem dX3_knock_1 : decode cX3_knock 1 = .ok (.iconst 0, 1) := by decide +kernel
theorem dX3_knock_2 : decode cX3_knock 2 = .ok (.putfield 30, 3) := by decide +kernel
theorem dX3_knock_5 : decode cX3_knock 5 = .ok (.aload_n 0, 1) := by decide +kernel
theorem dX3_knock_6 : decode cX3_knock 6 = .ok (.getfield 27, 3) := by decide +kernel
theorem dX3_knock_9 : decode cX3_knock 9 = .ok (.iconst 3, 1) := by decide +kernel
theorem dX3_knock_10 : decode cX3_knock 10 = .ok (.dup2, 1) := by decide +kernel
theorem dX3_knock_11 : decode cX3_knock 11 = .ok (.iaload, 1) := by decide +kernel
theorem dX3_knock_12 : decode cX3_knock 12 = .ok (.iconst 1, 1) := by decide +kernel
theorem dX3_knock_13 : decode cX3_knock 13 = .ok (.iadd, 1) := by decide +kernel
theorem dX3_knock_14 : decode cX3_knock 14 = .ok (.iastore, 1) := by decide +kernel
theorem dX3_knock_15 : decode cX3_knock 15 = .ok (.aload_n 0, 1) := by decide +kernel
theorem dX3_knock_16 : decode cX3_knock 16 = .ok (.getfield 27, 3) := by decide +kernel
theorem dX3_knock_19 : decode cX3_knock 19 = .ok (.iconst 3, 1) := by decide +kernel
theorem dX3_knock_20 : decode cX3_knock 20 = .ok (.iaload, 1) := by decide +kernel
theorem dX3_knock_21 : decode cX3_knock 21 = .ok (.ireturn, 1) := by decide +kernel
theorem dX3_isSoundPair_0 : decode cX3_isSoundPair 0 = .ok (.aload_n 0, 1) := by decide +kernel
theorem dX3_isSoundPair_1 : decode cX3_isSoundPair 1 = .ok (.iload_n 1, 1) := by decide +kernel
theorem dX3_isSoundPair_2 : decode cX3_isSoundPair 2 = .ok (.iconst 3, 1) := by decide +kernel
theorem dX3_isSoundPair_3 : decode cX3_isSoundPair 3 = .ok (.invokevirtual 62, 3) := by decide +kernel
theorem dX3_isSoundPair_6 : decode cX3_isSoundPair 6 = .ok (.lstore_n 3, 1) := by decide +kernel
theorem dX3_isSoundPair_7 : decode cX3_isSoundPair 7 = .ok (.aload_n 0, 1) := by decide +kernel
theorem dX3_isSoundPair_8 : decode cX3_isSoundPair 8 = .ok (.iload_n 2, 1) := by decide +kernel
theorem dX3_isSoundPair_9 : decode cX3_isSoundPair 9 = .ok (.iconst 3, 1) := by decide +kernel
theorem dX3_isSoundPair_10 : decode cX3_isSoundPair 10 = .ok (.invokevirtual 62, 3) := by decide +kernel
theorem dX3_isSoundPair_13 : decode cX3_isSoundPair 13 = .ok (.lstore 5, 2) := by decide +kernel
theorem dX3_isSoundPair_15 : decode cX3_isSoundPair 15 = .ok (.lload_n 3, 1) := by decide +kernel
theorem dX3_isSoundPair_16 : decode cX3_isSoundPair 16 = .ok (.lload 5, 2) := by decide +kernel
theorem dX3_isSoundPair_18 : decode cX3_isSoundPair 18 = .ok (.ladd, 1) := by decide +kernel
theorem dX3_isSoundPair_19 : decode cX3_isSoundPair 19 = .ok (.lload 5, 2) := by decide +kernel
theorem dX3_isSoundPair_21 : decode cX3_isSoundPair 21 = .ok (.lsub, 1) := by decide +kernel
theorem dX3_isSoundPair_22 : decode cX3_isSoundPair 22 = .ok (.lload_n 3, 1) := by decide +kernel
theorem dX3_isSoundPair_23 : decode cX3_isSoundPair 23 = .ok (.lcmp, 1) := by decide +kernel
theorem dX3_isSoundPair_24 : decode cX3_isSoundPair 24 = .ok (.ifCond .ne 41, 3) := by decide +kernel
theorem dX3_isSoundPair_27 : decode cX3_isSoundPair 27 = .ok (.aload_n 0, 1) := by decide +kernel
theorem dX3_isSoundPair_28 : decode cX3_isSoundPair 28 = .ok (.iload_n 1, 1) := by decide +kernel
theorem dX3_isSoundPair_29 : decode cX3_isSoundPair 29 = .ok (.iload_n 2, 1) := by decide +kernel
theorem dX3_isSoundPair_30 : decode cX3_isSoundPair 30 = .ok (.invokevirtual 101, 3) := by decide +kernel
theorem dX3_isSoundPair_33 : decode cX3_isSoundPair 33 = .ok (.aload_n 0, 1) := by decide +kernel
theorem dX3_isSoundPair_34 : decode cX3_isSoundPair 34 = .ok (.iload_n 2, 1) := by decide +kernel
theorem dX3_isSoundPair_35 : decode cX3_isSoundPair 35 = .ok (.iload_n 1, 1) := by decide +kernel
theorem dX3_isSoundPair_36 : decode cX3_isSoundPair 36 = .ok (.invokevirtual 101, 3) := by decide +kernel
theorem dX3_isSoundPair_39 : decode cX3_isSoundPair 39 = .ok (.ineg, 1) := by decide +kernel
theorem dX3_isSoundPair_40 : decode cX3_isSoundPair 40 = .ok (.if_icmp .ne 25, 3) := by decide +kernel
theorem dX3_isSoundPair_43 : decode cX3_isSoundPair 43 = .ok (.aload_n 0, 1) := by decide +kernel
theorem dX3_isSoundPair_44 : decode cX3_isSoundPair 44 = .ok (.iload_n 1, 1) := by decide +kernel
theorem dX3_isSoundPair_45 : decode cX3_isSoundPair 45 = .ok (.iload_n 2, 1) := by decide +kernel
theorem dX3_isSoundPair_46 : decode cX3_isSoundPair 46 = .ok (.invokevirtual 132, 3) := by decide +kernel
theorem dX3_isSoundPair_49 : decode cX3_isSoundPair 49 = .ok (.ifCond .eq 12, 3) := by decide +kernel
theorem dX3_isSoundPair_52 : decode cX3_isSoundPair 52 = .ok (.aload_n 0, 1) := by decide +kernel
theorem dX3_isSoundPair_53 : decode cX3_isSoundPair 53 = .ok (.iload_n 1, 1) := by decide +kernel
theorem dX3_isSoundPair_54 : decode cX3_isSoundPair 54 = .ok (.iload_n 2, 1) := by decide +kernel
theorem dX3_isSoundPair_55 : decode cX3_isSoundPair 55 = .ok (.invokevirtual 101, 3) := by decide +kernel
theorem dX3_isSoundPair_58 : decode cX3_isSoundPair 58 = .ok (.ifCond .ne 7, 3) := by decide +kernel
theorem dX3_isSoundPair_61 : decode cX3_isSoundPair 61 = .ok (.iconst 1, 1) := by decide +kernel
theorem dX3_isSoundPair_62 : decode cX3_isSoundPair 62 = .ok (.goto 4, 3) := by decide +kernel
theorem dX3_isSoundPair_65 : decode cX3_isSoundPair 65 = .ok (.iconst 0, 1) := by decide +kernel
theorem dX3_isSoundPair_66 : decode cX3_isSoundPair 66 = .ok (.ireturn, 1) := by decide +kernel
theorem dX3_allNines_0 : decode cX3_allNines 0 = .ok (.aload_n 0, 1) := by decide +kernel
theorem dX3_allNines_1 : decode cX3_allNines 1 = .ok (.iload_n 1, 1) := by decide +kernel
theorem dX3_allNines_2 : decode cX3_allNines 2 = .ok (.invokevirtual 146, 3) := by decide +kernel
theorem dX3_allNines_5 : decode cX3_allNines 5 = .ok (.iconst 2, 1) := by decide +kernel
theorem dX3_allNines_6 : decode cX3_allNines 6 = .ok (.iadd, 1) := by decide +kernel
theorem dX3_allNines_7 : decode cX3_allNines 7 = .ok (.newarray .int, 2) := by decide +kernel
theorem dX3_allNines_9 : decode cX3_allNines 9 = .ok (.astore_n 2, 1) := by decide +kernel
theorem dX3_allNines_10 : decode cX3_allNines 10 = .ok (.aload_n 2, 1) := by decide +kernel
theorem dX3_allNines_11 : decode cX3_allNines 11 = .ok (.iconst 0, 1) := by decide +kernel
theorem dX3_allNines_12 : decode cX3_allNines 12 = .ok (.aload_n 0, 1) := by decide +kernel
theorem dX3_allNines_13 : decode cX3_allNines 13 = .ok (.getfield 18, 3) := by decide +kernel
theorem dX3_allNines_16 : decode cX3_allNines 16 = .ok (.iload_n 1, 1) := by decide +kernel
theorem dX3_allNines_17 : decode cX3_allNines 17 = .ok (.iaload, 1) := by decide +kernel
theorem dX3_allNines_18 : decode cX3_allNines 18 = .ok (.bipush 10, 2) := by decide +kernel
theorem dX3_allNines_20 : decode cX3_allNines 20 = .ok (.idiv, 1) := by decide +kernel
theorem dX3_allNines_21 : decode cX3_allNines 21 = .ok (.iastore, 1) := by decide +kernel
theorem dX3_allNines_22 : decode cX3_allNines 22 = .ok (.aload_n 2, 1) := by decide +kernel
theorem dX3_allNines_23 : decode cX3_allNines 23 = .ok (.iconst 1, 1) := by decide +kernel
theorem dX3_allNines_24 : decode cX3_allNines 24 = .ok (.aload_n 0, 1) := by decide +kernel
theorem dX3_allNines_25 : decode cX3_allNines 25 = .ok (.getfield 18, 3) := by decide +kernel
theorem dX3_allNines_28 : decode cX3_allNines 28 = .ok (.iload_n 1, 1) := by decide +kernel
theorem dX3_allNines_29 : decode cX3_allNines 29 = .ok (.iaload, 1) := by decide +kernel
theorem dX3_allNines_30 : decode cX3_allNines 30 = .ok (.bipush 10, 2) := by decide +kernel
theorem dX3_allNines_32 : decode cX3_allNines 32 = .ok (.irem, 1) := by decide +kernel
theorem dX3_allNines_33 : decode cX3_allNines 33 = .ok (.iastore, 1) := by decide +kernel
theorem dX3_allNines_34 : decode cX3_allNines 34 = .ok (.aload_n 0, 1) := by decide +kernel
theorem dX3_allNines_35 : decode cX3_allNines 35 = .ok (.getfield 18, 3) := by decide +kernel
theorem dX3_allNines_38 : decode cX3_allNines 38 = .ok (.iload_n 1, 1) := by decide +kernel
theorem dX3_allNines_39 : decode cX3_allNines 39 = .ok (.iaload, 1) := by decide +kernel
theorem dX3_allNines_40 : decode cX3_allNines 40 = .ok (.istore_n 3, 1) := by decide +kernel
theorem dX3_allNines_41 : decode cX3_allNines 41 = .ok (.aload_n 2, 1) := by decide +kernel
theorem dX3_allNines_42 : decode cX3_allNines 42 = .ok (.arraylength, 1) := by decide +kernel
theorem dX3_allNines_43 : decode cX3_allNines 43 = .ok (.iconst 1, 1) := by decide +kernel
theorem dX3_allNines_44 : decode cX3_allNines 44 = .ok (.isub, 1) := by decide +kernel
theorem dX3_allNines_45 : decode cX3_allNines 45 = .ok (.istore 4, 2) := by decide +kernel
theorem dX3_allNines_47 : decode cX3_allNines 47 = .ok (.iload 4, 2) := by decide +kernel
theorem dX3_allNines_49 : decode cX3_allNines 49 = .ok (.ifCond .lt 47, 3) := by decide +kernel
theorem dX3_allNines_52 : decode cX3_allNines 52 = .ok (.aload_n 2, 1) := by decide +kernel
theorem dX3_allNines_53 : decode cX3_allNines 53 = .ok (.iload 4, 2) := by decide +kernel
theorem dX3_allNines_55 : decode cX3_allNines 55 = .ok (.dup2, 1) := by decide +kernel
theorem dX3_allNines_56 : decode cX3_allNines 56 = .ok (.iaload, 1) := by decide +kernel
theorem dX3_allNines_57 : decode cX3_allNines 57 = .ok (.iload_n 3, 1) := by decide +kernel
theorem dX3_allNines_58 : decode cX3_allNines 58 = .ok (.bipush 10, 2) := by decide +kernel
theorem dX3_allNines_60 : decode cX3_allNines 60 = .ok (.irem, 1) := by decide +kernel
theorem dX3_allNines_61 : decode cX3_allNines 61 = .ok (.isub, 1) := by decide +kernel
theorem dX3_allNines_62 : decode cX3_allNines 62 = .ok (.iastore, 1) := by decide +kernel
theorem dX3_allNines_63 : decode cX3_allNines 63 = .ok (.iload_n 3, 1) := by decide +kernel
theorem dX3_allNines_64 : decode cX3_allNines 64 = .ok (.bipush 10, 2) := by decide +kernel
theorem dX3_allNines_66 : decode cX3_allNines 66 = .ok (.idiv, 1) := by decide +kernel
theorem dX3_allNines_67 : decode cX3_allNines 67 = .ok (.istore_n 3, 1) := by decide +kernel
theorem dX3_allNines_68 : decode cX3_allNines 68 = .ok (.aload_n 2, 1) := by decide +kernel
theorem dX3_allNines_69 : decode cX3_allNines 69 = .ok (.iload 4, 2) := by decide +kernel
theorem dX3_allNines_71 : decode cX3_allNines 71 = .ok (.iaload, 1) := by decide +kernel
theorem dX3_allNines_72 : decode cX3_allNines 72 = .ok (.ifCond .lt 6, 3) := by decide +kernel
theorem dX3_allNines_75 : decode cX3_allNines 75 = .ok (.goto 15, 3) := by decide +kernel
theorem dX3_allNines_78 : decode cX3_allNines 78 = .ok (.aload_n 2, 1) := by decide +kernel
theorem dX3_allNines_79 : decode cX3_allNines 79 = .ok (.iload 4, 2) := by decide +kernel
theorem dX3_allNines_81 : decode cX3_allNines 81 = .ok (.dup2, 1) := by decide +kernel
theorem dX3_allNines_82 : decode cX3_allNines 82 = .ok (.iaload, 1) := by decide +kernel
theorem dX3_allNines_83 : decode cX3_allNines 83 = .ok (.bipush 10, 2) := by decide +kernel
theorem dX3_allNines_85 : decode cX3_allNines 85 = .ok (.iadd, 1) := by decide +kernel
theorem dX3_allNines_86 : decode cX3_allNines 86 = .ok (.iastore, 1) := by decide +kernel
theorem dX3_allNines_87 : decode cX3_allNines 87 = .ok (.iinc 3 1, 3) := by decide +kernel
theorem dX3_allNines_90 : decode cX3_allNines 90 = .ok (.iinc 4 (-1), 3) := by decide +kernel
theorem dX3_allNines_93 : decode cX3_allNines 93 = .ok (.goto (-46), 3) := by decide +kernel
theorem dX3_allNines_96 : decode cX3_allNines 96 = .ok (.aload_n 2, 1) := by decide +kernel
theorem dX3_allNines_97 : decode cX3_allNines 97 = .ok (.areturn, 1) := by decide +kernel
theorem dX3_isSoundWheel_0 : decode cX3_isSoundWheel 0 = .ok (.aload_n 0, 1) := by decide +kernel
theorem dX3_isSoundWheel_1 : decode cX3_isSoundWheel 1 = .ok (.iload_n 1, 1) := by decide +kernel
theorem dX3_isSoundWheel_2 : decode cX3_isSoundWheel 2 = .ok (.invokevirtual 146, 3) := by decide +kernel
theorem dX3_isSoundWheel_5 : decode cX3_isSoundWheel 5 = .ok (.istore_n 2, 1) := by decide +kernel
theorem dX3_isSoundWheel_6 : decode cX3_isSoundWheel 6 = .ok (.iconst 1, 1) := by decide +kernel
theorem dX3_isSoundWheel_7 : decode cX3_isSoundWheel 7 = .ok (.istore_n 3, 1) := by decide +kernel
theorem dX3_isSoundWheel_8 : decode cX3_isSoundWheel 8 = .ok (.iload_n 3, 1) := by decide +kernel
theorem dX3_isSoundWheel_9 : decode cX3_isSoundWheel 9 = .ok (.iload_n 2, 1) := by decide +kernel
theorem dX3_isSoundWheel_10 : decode cX3_isSoundWheel 10 = .ok (.if_icmp .gt 63, 3) := by decide +kernel
theorem dX3_isSoundWheel_13 : decode cX3_isSoundWheel 13 = .ok (.iload_n 2, 1) := by decide +kernel
theorem dX3_isSoundWheel_14 : decode cX3_isSoundWheel 14 = .ok (.iload_n 3, 1) := by decide +kernel
theorem dX3_isSoundWheel_15 : decode cX3_isSoundWheel 15 = .ok (.irem, 1) := by decide +kernel
theorem dX3_isSoundWheel_16 : decode cX3_isSoundWheel 16 = .ok (.ifCond .eq 6, 3) := by decide +kernel
theorem dX3_isSoundWheel_19 : decode cX3_isSoundWheel 19 = .ok (.goto 48, 3) := by decide +kernel
theorem dX3_isSoundWheel_22 : decode cX3_isSoundWheel 22 = .ok (.aload_n 0, 1) := by decide +kernel
theorem dX3_isSoundWheel_23 : decode cX3_isSoundWheel 23 = .ok (.getfield 18, 3) := by decide +kernel
theorem dX3_isSoundWheel_26 : decode cX3_isSoundWheel 26 = .ok (.iload_n 1, 1) := by decide +kernel
theorem dX3_isSoundWheel_27 : decode cX3_isSoundWheel 27 = .ok (.iaload, 1) := by decide +kernel
theorem dX3_isSoundWheel_28 : decode cX3_isSoundWheel 28 = .ok (.aload_n 0, 1) := by decide +kernel
theorem dX3_isSoundWheel_29 : decode cX3_isSoundWheel 29 = .ok (.getfield 21, 3) := by decide +kernel
theorem dX3_isSoundWheel_32 : decode cX3_isSoundWheel 32 = .ok (.iload_n 1, 1) := by decide +kernel
theorem dX3_isSoundWheel_33 : decode cX3_isSoundWheel 33 = .ok (.iaload, 1) := by decide +kernel
theorem dX3_isSoundWheel_34 : decode cX3_isSoundWheel 34 = .ok (.iload_n 3, 1) := by decide +kernel
theorem dX3_isSoundWheel_35 : decode cX3_isSoundWheel 35 = .ok (.invokestatic 149, 3) := by decide +kernel
theorem dX3_isSoundWheel_38 : decode cX3_isSoundWheel 38 = .ok (.aload_n 0, 1) := by decide +kernel
theorem dX3_isSoundWheel_39 : decode cX3_isSoundWheel 39 = .ok (.getfield 18, 3) := by decide +kernel
theorem dX3_isSoundWheel_42 : decode cX3_isSoundWheel 42 = .ok (.iload_n 1, 1) := by decide +kernel
theorem dX3_isSoundWheel_43 : decode cX3_isSoundWheel 43 = .ok (.iaload, 1) := by decide +kernel
theorem dX3_isSoundWheel_44 : decode cX3_isSoundWheel 44 = .ok (.if_icmp .ne 7, 3) := by decide +kernel
theorem dX3_isSoundWheel_47 : decode cX3_isSoundWheel 47 = .ok (.iconst 1, 1) := by decide +kernel
theorem dX3_isSoundWheel_48 : decode cX3_isSoundWheel 48 = .ok (.goto 4, 3) := by decide +kernel
theorem dX3_isSoundWheel_51 : decode cX3_isSoundWheel 51 = .ok (.iconst 0, 1) := by decide +kernel
theorem dX3_isSoundWheel_52 : decode cX3_isSoundWheel 52 = .ok (.iload_n 3, 1) := by decide +kernel
theorem dX3_isSoundWheel_53 : decode cX3_isSoundWheel 53 = .ok (.iload_n 2, 1) := by decide +kernel
theorem dX3_isSoundWheel_54 : decode cX3_isSoundWheel 54 = .ok (.if_icmp .ne 7, 3) := by decide +kernel
theorem dX3_isSoundWheel_57 : decode cX3_isSoundWheel 57 = .ok (.iconst 1, 1) := by decide +kernel
theorem dX3_isSoundWheel_58 : decode cX3_isSoundWheel 58 = .ok (.goto 4, 3) := by decide +kernel
theorem dX3_isSoundWheel_61 : decode cX3_isSoundWheel 61 = .ok (.iconst 0, 1) := by decide +kernel
theorem dX3_isSoundWheel_62 : decode cX3_isSoundWheel 62 = .ok (.if_icmp .eq 5, 3) := by decide +kernel
theorem dX3_isSoundWheel_65 : decode cX3_isSoundWheel 65 = .ok (.iconst 0, 1) := by decide +kernel
theorem dX3_isSoundWheel_66 : decode cX3_isSoundWheel 66 = .ok (.ireturn, 1) := by decide +kernel
theorem dX3_isSoundWheel_67 : decode cX3_isSoundWheel 67 = .ok (.iinc 3 1, 3) := by decide +kernel
theorem dX3_isSoundWheel_70 : decode cX3_isSoundWheel 70 = .ok (.goto (-62), 3) := by decide +kernel
theorem dX3_isSoundWheel_73 : decode cX3_isSoundWheel 73 = .ok (.aload_n 0, 1) := by decide +kernel
theorem dX3_isSoundWheel_74 : decode cX3_isSoundWheel 74 = .ok (.iload_n 1, 1) := by decide +kernel
theorem dX3_isSoundWheel_75 : decode cX3_isSoundWheel 75 = .ok (.invokevirtual 166, 3) := by decide +kernel
theorem dX3_isSoundWheel_78 : decode cX3_isSoundWheel 78 = .ok (.aload_n 0, 1) := by decide +kernel
theorem dX3_isSoundWheel_79 : decode cX3_isSoundWheel 79 = .ok (.iload_n 1, 1) := by decide +kernel
theorem dX3_isSoundWheel_80 : decode cX3_isSoundWheel 80 = .ok (.invokevirtual 191, 3) := by decide +kernel
theorem dX3_isSoundWheel_83 : decode cX3_isSoundWheel 83 = .ok (.invokestatic 178, 3) := by decide +kernel
theorem dX3_isSoundWheel_86 : decode cX3_isSoundWheel 86 = .ok (.ifCond .ne 5, 3) := by decide +kernel
theorem dX3_isSoundWheel_89 : decode cX3_isSoundWheel 89 = .ok (.iconst 0, 1) := by decide +kernel
theorem dX3_isSoundWheel_90 : decode cX3_isSoundWheel 90 = .ok (.ireturn, 1) := by decide +kernel
theorem dX3_isSoundWheel_91 : decode cX3_isSoundWheel 91 = .ok (.aload_n 0, 1) := by decide +kernel
theorem dX3_isSoundWheel_92 : decode cX3_isSoundWheel 92 = .ok (.iload_n 1, 1) := by decide +kernel
theorem dX3_isSoundWheel_93 : decode cX3_isSoundWheel 93 = .ok (.iconst 0, 1) := by decide +kernel
theorem dX3_isSoundWheel_94 : decode cX3_isSoundWheel 94 = .ok (.iconst 5, 1) := by decide +kernel
theorem dX3_isSoundWheel_95 : decode cX3_isSoundWheel 95 = .ok (.bipush 6, 2) := by decide +kernel
theorem dX3_isSoundWheel_97 : decode cX3_isSoundWheel 97 = .ok (.invokevirtual 107, 3) := by decide +kernel
theorem dX3_isSoundWheel_100 : decode cX3_isSoundWheel 100 = .ok (.lstore_n 3, 1) := by decide +kernel
theorem dX3_isSoundWheel_101 : decode cX3_isSoundWheel 101 = .ok (.aload_n 0, 1) := by decide +kernel
theorem dX3_isSoundWheel_102 : decode cX3_isSoundWheel 102 = .ok (.iload_n 1, 1) := by decide +kernel
theorem dX3_isSoundWheel_103 : decode cX3_isSoundWheel 103 = .ok (.iconst 0, 1) := by decide +kernel
theorem dX3_isSoundWheel_104 : decode cX3_isSoundWheel 104 = .ok (.iconst 5, 1) := by decide +kernel
theorem dX3_isSoundWheel_105 : decode cX3_isSoundWheel 105 = .ok (.iconst 0, 1) := by decide +kernel
theorem dX3_isSoundWheel_106 : decode cX3_isSoundWheel 106 = .ok (.invokevirtual 107, 3) := by decide +kernel
theorem dX3_isSoundWheel_109 : decode cX3_isSoundWheel 109 = .ok (.aload_n 0, 1) := by decide +kernel
theorem dX3_isSoundWheel_110 : decode cX3_isSoundWheel 110 = .ok (.iload_n 1, 1) := by decide +kernel
theorem dX3_isSoundWheel_111 : decode cX3_isSoundWheel 111 = .ok (.iconst 0, 1) := by decide +kernel
theorem dX3_isSoundWheel_112 : decode cX3_isSoundWheel 112 = .ok (.iconst 5, 1) := by decide +kernel
theorem dX3_isSoundWheel_113 : decode cX3_isSoundWheel 113 = .ok (.iconst 1, 1) := by decide +kernel
theorem dX3_isSoundWheel_114 : decode cX3_isSoundWheel 114 = .ok (.invokevirtual 107, 3) := by decide +kernel
theorem dX3_isSoundWheel_117 : decode cX3_isSoundWheel 117 = .ok (.lsub, 1) := by decide +kernel
theorem dX3_isSoundWheel_118 : decode cX3_isSoundWheel 118 = .ok (.aload_n 0, 1) := by decide +kernel
theorem dX3_isSoundWheel_119 : decode cX3_isSoundWheel 119 = .ok (.getfield 18, 3) := by decide +kernel
theorem dX3_isSoundWheel_122 : decode cX3_isSoundWheel 122 = .ok (.iload_n 1, 1) := by decide +kernel
theorem dX3_isSoundWheel_123 : decode cX3_isSoundWheel 123 = .ok (.iaload, 1) := by decide +kernel
theorem dX3_isSoundWheel_124 : decode cX3_isSoundWheel 124 = .ok (.ifCond .ne 7, 3) := by decide +kernel
theorem dX3_isSoundWheel_127 : decode cX3_isSoundWheel 127 = .ok (.iconst 0, 1) := by decide +kernel
theorem dX3_isSoundWheel_128 : decode cX3_isSoundWheel 128 = .ok (.goto 4, 3) := by decide +kernel
theorem dX3_isSoundWheel_131 : decode cX3_isSoundWheel 131 = .ok (.iconst 1, 1) := by decide +kernel
theorem dX3_isSoundWheel_132 : decode cX3_isSoundWheel 132 = .ok (.i2l, 1) := by decide +kernel
theorem dX3_isSoundWheel_133 : decode cX3_isSoundWheel 133 = .ok (.lcmp, 1) := by decide +kernel
theorem dX3_isSoundWheel_134 : decode cX3_isSoundWheel 134 = .ok (.ifCond .ne 33, 3) := by decide +kernel
theorem dX3_isSoundWheel_137 : decode cX3_isSoundWheel 137 = .ok (.aload_n 0, 1) := by decide +kernel
theorem dX3_isSoundWheel_138 : decode cX3_isSoundWheel 138 = .ok (.iload_n 1, 1) := by decide +kernel
theorem dX3_isSoundWheel_139 : decode cX3_isSoundWheel 139 = .ok (.iconst 0, 1) := by decide +kernel
theorem dX3_isSoundWheel_140 : decode cX3_isSoundWheel 140 = .ok (.iconst 5, 1) := by decide +kernel
theorem dX3_isSoundWheel_141 : decode cX3_isSoundWheel 141 = .ok (.iconst 4, 1) := by decide +kernel
theorem dX3_isSoundWheel_142 : decode cX3_isSoundWheel 142 = .ok (.invokevirtual 107, 3) := by decide +kernel
theorem dX3_isSoundWheel_145 : decode cX3_isSoundWheel 145 = .ok (.lload_n 3, 1) := by decide +kernel
theorem dX3_isSoundWheel_146 : decode cX3_isSoundWheel 146 = .ok (.lcmp, 1) := by decide +kernel
theorem dX3_isSoundWheel_147 : decode cX3_isSoundWheel 147 = .ok (.ifCond .ne 20, 3) := by decide +kernel
theorem dX3_isSoundWheel_150 : decode cX3_isSoundWheel 150 = .ok (.aload_n 0, 1) := by decide +kernel
theorem dX3_isSoundWheel_151 : decode cX3_isSoundWheel 151 = .ok (.iload_n 1, 1) := by decide +kernel
theorem dX3_isSoundWheel_152 : decode cX3_isSoundWheel 152 = .ok (.iconst 0, 1) := by decide +kernel
theorem dX3_isSoundWheel_153 : decode cX3_isSoundWheel 153 = .ok (.iconst 5, 1) := by decide +kernel
theorem dX3_isSoundWheel_154 : decode cX3_isSoundWheel 154 = .ok (.iconst 5, 1) := by decide +kernel
theorem dX3_isSoundWheel_155 : decode cX3_isSoundWheel 155 = .ok (.invokevirtual 107, 3) := by decide +kernel
theorem dX3_isSoundWheel_158 : decode cX3_isSoundWheel 158 = .ok (.lload_n 3, 1) := by decide +kernel
theorem dX3_isSoundWheel_159 : decode cX3_isSoundWheel 159 = .ok (.lcmp, 1) := by decide +kernel
theorem dX3_isSoundWheel_160 : decode cX3_isSoundWheel 160 = .ok (.ifCond .ne 7, 3) := by decide +kernel
theorem dX3_isSoundWheel_163 : decode cX3_isSoundWheel 163 = .ok (.iconst 1, 1) := by decide +kernel
theorem dX3_isSoundWheel_164 : decode cX3_isSoundWheel 164 = .ok (.goto 4, 3) := by decide +kernel
theorem dX3_isSoundWheel_167 : decode cX3_isSoundWheel 167 = .ok (.iconst 0, 1) := by decide +kernel
theorem dX3_isSoundWheel_168 : decode cX3_isSoundWheel 168 = .ok (.ireturn, 1) := by decide +kernel
theorem dX3_isWhole_0 : decode cX3_isWhole 0 = .ok (.iconst 0, 1) := by decide +kernel
theorem dX3_isWhole_1 : decode cX3_isWhole 1 = .ok (.istore_n 1, 1) := by decide +kernel
theorem dX3_isWhole_2 : decode cX3_isWhole 2 = .ok (.iload_n 1, 1) := by decide +kernel
theorem dX3_isWhole_3 : decode cX3_isWhole 3 = .ok (.iconst 4, 1) := by decide +kernel
theorem dX3_isWhole_4 : decode cX3_isWhole 4 = .ok (.if_icmp .ge 66, 3) := by decide +kernel
theorem dX3_isWhole_7 : decode cX3_isWhole 7 = .ok (.aload_n 0, 1) := by decide +kernel
theorem dX3_isWhole_8 : decode cX3_isWhole 8 = .ok (.getfield 9, 3) := by decide +kernel
theorem dX3_isWhole_11 : decode cX3_isWhole 11 = .ok (.iload_n 1, 1) := by decide +kernel
theorem dX3_isWhole_12 : decode cX3_isWhole 12 = .ok (.iaload, 1) := by decide +kernel
theorem dX3_isWhole_13 : decode cX3_isWhole 13 = .ok (.i2l, 1) := by decide +kernel
theorem dX3_isWhole_14 : decode cX3_isWhole 14 = .ok (.invokestatic 40, 3) := by decide +kernel
theorem dX3_isWhole_17 : decode cX3_isWhole 17 = .ok (.ldc2_w 52, 3) := by decide +kernel
theorem dX3_isWhole_20 : decode cX3_isWhole 20 = .ok (.lcmp, 1) := by decide +kernel
theorem dX3_isWhole_21 : decode cX3_isWhole 21 = .ok (.ifCond .gt 17, 3) := by decide +kernel
theorem dX3_isWhole_24 : decode cX3_isWhole 24 = .ok (.aload_n 0, 1) := by decide +kernel
theorem dX3_isWhole_25 : decode cX3_isWhole 25 = .ok (.getfield 15, 3) := by decide +kernel
theorem dX3_isWhole_28 : decode cX3_isWhole 28 = .ok (.iload_n 1, 1) := by decide +kernel
theorem dX3_isWhole_29 : decode cX3_isWhole 29 = .ok (.iaload, 1) := by decide +kernel
theorem dX3_isWhole_30 : decode cX3_isWhole 30 = .ok (.iconst 0, 1) := by decide +kernel
theorem dX3_isWhole_31 : decode cX3_isWhole 31 = .ok (.iconst 3, 1) := by decide +kernel
theorem dX3_isWhole_32 : decode cX3_isWhole 32 = .ok (.invokestatic 34, 3) := by decide +kernel
theorem dX3_isWhole_35 : decode cX3_isWhole 35 = .ok (.ifCond .eq 5, 3) := by decide +kernel
theorem dX3_isWhole_38 : decode cX3_isWhole 38 = .ok (.iconst 0, 1) := by decide +kernel
theorem dX3_isWhole_39 : decode cX3_isWhole 39 = .ok (.ireturn, 1) := by decide +kernel
theorem dX3_isWhole_40 : decode cX3_isWhole 40 = .ok (.iconst 0, 1) := by decide +kernel
theorem dX3_isWhole_41 : decode cX3_isWhole 41 = .ok (.istore_n 2, 1) := by decide +kernel
theorem dX3_isWhole_42 : decode cX3_isWhole 42 = .ok (.iload_n 2, 1) := by decide +kernel
theorem dX3_isWhole_43 : decode cX3_isWhole 43 = .ok (.iconst 4, 1) := by decide +kernel
theorem dX3_isWhole_44 : decode cX3_isWhole 44 = .ok (.if_icmp .ge 20, 3) := by decide +kernel
theorem dX3_isWhole_47 : decode cX3_isWhole 47 = .ok (.aload_n 0, 1) := by decide +kernel
theorem dX3_isWhole_48 : decode cX3_isWhole 48 = .ok (.iload_n 1, 1) := by decide +kernel
theorem dX3_isWhole_49 : decode cX3_isWhole 49 = .ok (.iload_n 2, 1) := by decide +kernel
theorem dX3_isWhole_50 : decode cX3_isWhole 50 = .ok (.invokevirtual 194, 3) := by decide +kernel
theorem dX3_isWhole_53 : decode cX3_isWhole 53 = .ok (.ifCond .ne 5, 3) := by decide +kernel
theorem dX3_isWhole_56 : decode cX3_isWhole 56 = .ok (.iconst 0, 1) := by decide +kernel
theorem dX3_isWhole_57 : decode cX3_isWhole 57 = .ok (.ireturn, 1) := by decide +kernel
theorem dX3_isWhole_58 : decode cX3_isWhole 58 = .ok (.iinc 2 1, 3) := by decide +kernel
theorem dX3_isWhole_61 : decode cX3_isWhole 61 = .ok (.goto (-19), 3) := by decide +kernel
theorem dX3_isWhole_64 : decode cX3_isWhole 64 = .ok (.iinc 1 1, 3) := by decide +kernel
theorem dX3_isWhole_67 : decode cX3_isWhole 67 = .ok (.goto (-65), 3) := by decide +kernel
theorem dX3_isWhole_70 : decode cX3_isWhole 70 = .ok (.iconst 0, 1) := by decide +kernel
theorem dX3_isWhole_71 : decode cX3_isWhole 71 = .ok (.istore_n 1, 1) := by decide +kernel
theorem dX3_isWhole_72 : decode cX3_isWhole 72 = .ok (.iload_n 1, 1) := by decide +kernel
theorem dX3_isWhole_73 : decode cX3_isWhole 73 = .ok (.iconst 3, 1) := by decide +kernel
theorem dX3_isWhole_74 : decode cX3_isWhole 74 = .ok (.if_icmp .ge 19, 3) := by decide +kernel
theorem dX3_isWhole_77 : decode cX3_isWhole 77 = .ok (.aload_n 0, 1) := by decide +kernel
theorem dX3_isWhole_78 : decode cX3_isWhole 78 = .ok (.iload_n 1, 1) := by decide +kernel
theorem dX3_isWhole_79 : decode cX3_isWhole 79 = .ok (.invokevirtual 197, 3) := by decide +kernel
theorem dX3_isWhole_82 : decode cX3_isWhole 82 = .ok (.ifCond .ne 5, 3) := by decide +kernel
theorem dX3_isWhole_85 : decode cX3_isWhole 85 = .ok (.iconst 0, 1) := by decide +kernel
theorem dX3_isWhole_86 : decode cX3_isWhole 86 = .ok (.ireturn, 1) := by decide +kernel
theorem dX3_isWhole_87 : decode cX3_isWhole 87 = .ok (.iinc 1 1, 3) := by decide +kernel
theorem dX3_isWhole_90 : decode cX3_isWhole 90 = .ok (.goto (-18), 3) := by decide +kernel
theorem dX3_isWhole_93 : decode cX3_isWhole 93 = .ok (.iconst 1, 1) := by decide +kernel
theorem dX3_isWhole_94 : decode cX3_isWhole 94 = .ok (.ireturn, 1) := by decide +kernel
theorem dX3_isSound_0 : decode cX3_isSound 0 = .ok (.aload_n 0, 1) := by decide +kernel
theorem dX3_isSound_1 : decode cX3_isSound 1 = .ok (.iconst 0, 1) := by decide +kernel
theorem dX3_isSound_2 : decode cX3_isSound 2 = .ok (.putfield 30, 3) := by decide +kernel
theorem dX3_isSound_5 : decode cX3_isSound 5 = .ok (.aload_n 0, 1) := by decide +kernel
theorem dX3_isSound_6 : decode cX3_isSound 6 = .ok (.invokevirtual 200, 3) := by decide +kernel
theorem dX3_isSound_9 : decode cX3_isSound 9 = .ok (.ireturn, 1) := by decide +kernel
theorem dX3_add__0 : decode cX3_add_ 0 = .ok (.lload_n 0, 1) := by decide +kernel
theorem dX3_add__1 : decode cX3_add_ 1 = .ok (.ldc2_w 204, 3) := by decide +kernel
theorem dX3_add__4 : decode cX3_add_ 4 = .ok (.lmul, 1) := by decide +kernel
theorem dX3_add__5 : decode cX3_add_ 5 = .ok (.lload_n 2, 1) := by decide +kernel
theorem dX3_add__6 : decode cX3_add_ 6 = .ok (.ladd, 1) := by decide +kernel
theorem dX3_add__7 : decode cX3_add_ 7 = .ok (.lreturn, 1) := by decide +kernel
theorem dX3_digest_0 : decode cX3_digest 0 = .ok (.aload_n 0, 1) := by decide +kernel
theorem dX3_digest_1 : decode cX3_digest 1 = .ok (.iconst 0, 1) := by decide +kernel
theorem dX3_digest_2 : decode cX3_digest 2 = .ok (.putfield 30, 3) := by decide +kernel
theorem dX3_digest_5 : decode cX3_digest 5 = .ok (.ldc2_w 206, 3) := by decide +kernel
theorem dX3_digest_8 : decode cX3_digest 8 = .ok (.lstore_n 1, 1) := by decide +kernel
theorem dX3_digest_9 : decode cX3_digest 9 = .ok (.iconst 0, 1) := by decide +kernel
theorem dX3_digest_10 : decode cX3_digest 10 = .ok (.istore_n 3, 1) := by decide +kernel
theorem dX3_digest_11 : decode cX3_digest 11 = .ok (.iload_n 3, 1) := by decide +kernel
theorem dX3_digest_12 : decode cX3_digest 12 = .ok (.iconst 4, 1) := by decide +kernel
theorem dX3_digest_13 : decode cX3_digest 13 = .ok (.if_icmp .ge 60, 3) := by decide +kernel
theorem dX3_digest_16 : decode cX3_digest 16 = .ok (.lload_n 1, 1) := by decide +kernel
theorem dX3_digest_17 : decode cX3_digest 17 = .ok (.aload_n 0, 1) := by decide +kernel
theorem dX3_digest_18 : decode cX3_digest 18 = .ok (.getfield 9, 3) := by decide +kernel
theorem dX3_digest_21 : decode cX3_digest 21 = .ok (.iload_n 3, 1) := by decide +kernel
theorem dX3_digest_22 : decode cX3_digest 22 = .ok (.iaload, 1) := by decide +kernel
theorem dX3_digest_23 : decode cX3_digest 23 = .ok (.i2l, 1) := by decide +kernel
theorem dX3_digest_24 : decode cX3_digest 24 = .ok (.invokestatic 208, 3) := by decide +kernel
theorem dX3_digest_27 : decode cX3_digest 27 = .ok (.aload_n 0, 1) := by decide +kernel
theorem dX3_digest_28 : decode cX3_digest 28 = .ok (.getfield 15, 3) := by decide +kernel
theorem dX3_digest_31 : decode cX3_digest 31 = .ok (.iload_n 3, 1) := by decide +kernel
theorem dX3_digest_32 : decode cX3_digest 32 = .ok (.iaload, 1) := by decide +kernel
theorem dX3_digest_33 : decode cX3_digest 33 = .ok (.i2l, 1) := by decide +kernel
theorem dX3_digest_34 : decode cX3_digest 34 = .ok (.invokestatic 208, 3) := by decide +kernel
theorem dX3_digest_37 : decode cX3_digest 37 = .ok (.aload_n 0, 1) := by decide +kernel
theorem dX3_digest_38 : decode cX3_digest 38 = .ok (.getfield 9, 3) := by decide +kernel
theorem dX3_digest_41 : decode cX3_digest 41 = .ok (.iload_n 3, 1) := by decide +kernel
theorem dX3_digest_42 : decode cX3_digest 42 = .ok (.iaload, 1) := by decide +kernel
theorem dX3_digest_43 : decode cX3_digest 43 = .ok (.i2l, 1) := by decide +kernel
theorem dX3_digest_44 : decode cX3_digest 44 = .ok (.invokestatic 97, 3) := by decide +kernel
theorem dX3_digest_47 : decode cX3_digest 47 = .ok (.i2l, 1) := by decide +kernel
theorem dX3_digest_48 : decode cX3_digest 48 = .ok (.invokestatic 208, 3) := by decide +kernel
theorem dX3_digest_51 : decode cX3_digest 51 = .ok (.aload_n 0, 1) := by decide +kernel
theorem dX3_digest_52 : decode cX3_digest 52 = .ok (.getfield 9, 3) := by decide +kernel
theorem dX3_digest_55 : decode cX3_digest 55 = .ok (.iload_n 3, 1) := by decide +kernel
theorem dX3_digest_56 : decode cX3_digest 56 = .ok (.iaload, 1) := by decide +kernel
theorem dX3_digest_57 : decode cX3_digest 57 = .ok (.i2l, 1) := by decide +kernel
theorem dX3_digest_58 : decode cX3_digest 58 = .ok (.lconst 0, 1) := by decide +kernel
theorem dX3_digest_59 : decode cX3_digest 59 = .ok (.invokestatic 48, 3) := by decide +kernel
theorem dX3_digest_62 : decode cX3_digest 62 = .ok (.i2l, 1) := by decide +kernel
theorem dX3_digest_63 : decode cX3_digest 63 = .ok (.invokestatic 208, 3) := by decide +kernel
theorem dX3_digest_66 : decode cX3_digest 66 = .ok (.lstore_n 1, 1) := by decide +kernel
theorem dX3_digest_67 : decode cX3_digest 67 = .ok (.iinc 3 1, 3) := by decide +kernel
theorem dX3_digest_70 : decode cX3_digest 70 = .ok (.goto (-59), 3) := by decide +kernel
theorem dX3_digest_73 : decode cX3_digest 73 = .ok (.iconst 0, 1) := by decide +kernel
theorem dX3_digest_74 : decode cX3_digest 74 = .ok (.istore_n 3, 1) := by decide +kernel
theorem dX3_digest_75 : decode cX3_digest 75 = .ok (.iload_n 3, 1) := by decide +kernel
theorem dX3_digest_76 : decode cX3_digest 76 = .ok (.iconst 4, 1) := by decide +kernel
theorem dX3_digest_77 : decode cX3_digest 77 = .ok (.if_icmp .ge 57, 3) := by decide +kernel
theorem dX3_digest_80 : decode cX3_digest 80 = .ok (.iload_n 3, 1) := by decide +kernel
theorem dX3_digest_81 : decode cX3_digest 81 = .ok (.iconst 1, 1) := by decide +kernel
theorem dX3_digest_82 : decode cX3_digest 82 = .ok (.iadd, 1) := by decide +kernel
theorem dX3_digest_83 : decode cX3_digest 83 = .ok (.istore 4, 2) := by decide +kernel
theorem dX3_digest_85 : decode cX3_digest 85 = .ok (.iload 4, 2) := by decide +kernel
theorem dX3_digest_87 : decode cX3_digest 87 = .ok (.iconst 4, 1) := by decide +kernel
theorem dX3_digest_88 : decode cX3_digest 88 = .ok (.if_icmp .ge 40, 3) := by decide +kernel
theorem dX3_digest_91 : decode cX3_digest 91 = .ok (.lload_n 1, 1) := by decide +kernel
theorem dX3_digest_92 : decode cX3_digest 92 = .ok (.aload_n 0, 1) := by decide +kernel
theorem dX3_digest_93 : decode cX3_digest 93 = .ok (.iload_n 3, 1) := by decide +kernel
theorem dX3_digest_94 : decode cX3_digest 94 = .ok (.iload 4, 2) := by decide +kernel
theorem dX3_digest_96 : decode cX3_digest 96 = .ok (.invokevirtual 101, 3) := by decide +kernel
theorem dX3_digest_99 : decode cX3_digest 99 = .ok (.i2l, 1) := by decide +kernel
theorem dX3_digest_100 : decode cX3_digest 100 = .ok (.invokestatic 208, 3) := by decide +kernel
theorem dX3_digest_103 : decode cX3_digest 103 = .ok (.aload_n 0, 1) := by decide +kernel
theorem dX3_digest_104 : decode cX3_digest 104 = .ok (.iload_n 3, 1) := by decide +kernel
theorem dX3_digest_105 : decode cX3_digest 105 = .ok (.iload 4, 2) := by decide +kernel
theorem dX3_digest_107 : decode cX3_digest 107 = .ok (.invokevirtual 132, 3) := by decide +kernel
theorem dX3_digest_110 : decode cX3_digest 110 = .ok (.ifCond .eq 7, 3) := by decide +kernel
theorem dX3_digest_113 : decode cX3_digest 113 = .ok (.lconst 1, 1) := by decide +kernel
theorem dX3_digest_114 : decode cX3_digest 114 = .ok (.goto 4, 3) := by decide +kernel
theorem dX3_digest_117 : decode cX3_digest 117 = .ok (.lconst 0, 1) := by decide +kernel
theorem dX3_digest_118 : decode cX3_digest 118 = .ok (.invokestatic 208, 3) := by decide +kernel
theorem dX3_digest_121 : decode cX3_digest 121 = .ok (.lstore_n 1, 1) := by decide +kernel
theorem dX3_digest_122 : decode cX3_digest 122 = .ok (.iinc 4 1, 3) := by decide +kernel
theorem dX3_digest_125 : decode cX3_digest 125 = .ok (.goto (-40), 3) := by decide +kernel
theorem dX3_digest_128 : decode cX3_digest 128 = .ok (.iinc 3 1, 3) := by decide +kernel
theorem dX3_digest_131 : decode cX3_digest 131 = .ok (.goto (-56), 3) := by decide +kernel
theorem dX3_digest_134 : decode cX3_digest 134 = .ok (.iconst 0, 1) := by decide +kernel
theorem dX3_digest_135 : decode cX3_digest 135 = .ok (.istore_n 3, 1) := by decide +kernel
theorem dX3_digest_136 : decode cX3_digest 136 = .ok (.iload_n 3, 1) := by decide +kernel
theorem dX3_digest_137 : decode cX3_digest 137 = .ok (.iconst 3, 1) := by decide +kernel
theorem dX3_digest_138 : decode cX3_digest 138 = .ok (.if_icmp .ge 87, 3) := by decide +kernel
theorem dX3_digest_141 : decode cX3_digest 141 = .ok (.iconst 0, 1) := by decide +kernel
theorem dX3_digest_142 : decode cX3_digest 142 = .ok (.istore 4, 2) := by decide +kernel
theorem dX3_digest_144 : decode cX3_digest 144 = .ok (.iload 4, 2) := by decide +kernel
theorem dX3_digest_146 : decode cX3_digest 146 = .ok (.iconst 5, 1) := by decide +kernel
theorem dX3_digest_147 : decode cX3_digest 147 = .ok (.if_icmp .ge 22, 3) := by decide +kernel
theorem dX3_digest_150 : decode cX3_digest 150 = .ok (.lload_n 1, 1) := by decide +kernel
theorem dX3_digest_151 : decode cX3_digest 151 = .ok (.aload_n 0, 1) := by decide +kernel
theorem dX3_digest_152 : decode cX3_digest 152 = .ok (.iload_n 3, 1) := by decide +kernel
theorem dX3_digest_153 : decode cX3_digest 153 = .ok (.iload 4, 2) := by decide +kernel
theorem dX3_digest_155 : decode cX3_digest 155 = .ok (.invokevirtual 153, 3) := by decide +kernel
theorem dX3_digest_158 : decode cX3_digest 158 = .ok (.i2l, 1) := by decide +kernel
theorem dX3_digest_159 : decode cX3_digest 159 = .ok (.invokestatic 208, 3) := by decide +kernel
theorem dX3_digest_162 : decode cX3_digest 162 = .ok (.lstore_n 1, 1) := by decide +kernel
theorem dX3_digest_163 : decode cX3_digest 163 = .ok (.iinc 4 1, 3) := by decide +kernel
theorem dX3_digest_166 : decode cX3_digest 166 = .ok (.goto (-22), 3) := by decide +kernel
theorem dX3_digest_169 : decode cX3_digest 169 = .ok (.lload_n 1, 1) := by decide +kernel
theorem dX3_digest_170 : decode cX3_digest 170 = .ok (.aload_n 0, 1) := by decide +kernel
theorem dX3_digest_171 : decode cX3_digest 171 = .ok (.iload_n 3, 1) := by decide +kernel
theorem dX3_digest_172 : decode cX3_digest 172 = .ok (.iconst 2, 1) := by decide +kernel
theorem dX3_digest_173 : decode cX3_digest 173 = .ok (.invokevirtual 182, 3) := by decide +kernel
theorem dX3_digest_176 : decode cX3_digest 176 = .ok (.i2l, 1) := by decide +kernel
theorem dX3_digest_177 : decode cX3_digest 177 = .ok (.invokestatic 208, 3) := by decide +kernel
theorem dX3_digest_180 : decode cX3_digest 180 = .ok (.aload_n 0, 1) := by decide +kernel
theorem dX3_digest_181 : decode cX3_digest 181 = .ok (.iload_n 3, 1) := by decide +kernel
theorem dX3_digest_182 : decode cX3_digest 182 = .ok (.iconst 3, 1) := by decide +kernel
theorem dX3_digest_183 : decode cX3_digest 183 = .ok (.invokevirtual 182, 3) := by decide +kernel
theorem dX3_digest_186 : decode cX3_digest 186 = .ok (.i2l, 1) := by decide +kernel
theorem dX3_digest_187 : decode cX3_digest 187 = .ok (.invokestatic 208, 3) := by decide +kernel
theorem dX3_digest_190 : decode cX3_digest 190 = .ok (.lstore_n 1, 1) := by decide +kernel
theorem dX3_digest_191 : decode cX3_digest 191 = .ok (.iconst 0, 1) := by decide +kernel
theorem dX3_digest_192 : decode cX3_digest 192 = .ok (.istore 4, 2) := by decide +kernel
theorem dX3_digest_194 : decode cX3_digest 194 = .ok (.iload 4, 2) := by decide +kernel
theorem dX3_digest_196 : decode cX3_digest 196 = .ok (.iconst 4, 1) := by decide +kernel
theorem dX3_digest_197 : decode cX3_digest 197 = .ok (.if_icmp .ge 22, 3) := by decide +kernel
theorem dX3_digest_200 : decode cX3_digest 200 = .ok (.lload_n 1, 1) := by decide +kernel
theorem dX3_digest_201 : decode cX3_digest 201 = .ok (.aload_n 0, 1) := by decide +kernel
theorem dX3_digest_202 : decode cX3_digest 202 = .ok (.iload_n 3, 1) := by decide +kernel
theorem dX3_digest_203 : decode cX3_digest 203 = .ok (.iload 4, 2) := by decide +kernel
theorem dX3_digest_205 : decode cX3_digest 205 = .ok (.invokevirtual 188, 3) := by decide +kernel
theorem dX3_digest_208 : decode cX3_digest 208 = .ok (.i2l, 1) := by decide +kernel
theorem dX3_digest_209 : decode cX3_digest 209 = .ok (.invokestatic 208, 3) := by decide +kernel
theorem dX3_digest_212 : decode cX3_digest 212 = .ok (.lstore_n 1, 1) := by decide +kernel
theorem dX3_digest_213 : decode cX3_digest 213 = .ok (.iinc 4 1, 3) := by decide +kernel
theorem dX3_digest_216 : decode cX3_digest 216 = .ok (.goto (-22), 3) := by decide +kernel
theorem dX3_digest_219 : decode cX3_digest 219 = .ok (.iinc 3 1, 3) := by decide +kernel
theorem dX3_digest_222 : decode cX3_digest 222 = .ok (.goto (-86), 3) := by decide +kernel
theorem dX3_digest_225 : decode cX3_digest 225 = .ok (.iconst 0, 1) := by decide +kernel
theorem dX3_digest_226 : decode cX3_digest 226 = .ok (.istore_n 3, 1) := by decide +kernel
theorem dX3_digest_227 : decode cX3_digest 227 = .ok (.iload_n 3, 1) := by decide +kernel
theorem dX3_digest_228 : decode cX3_digest 228 = .ok (.iconst 3, 1) := by decide +kernel
theorem dX3_digest_229 : decode cX3_digest 229 = .ok (.if_icmp .ge 39, 3) := by decide +kernel
theorem dX3_digest_232 : decode cX3_digest 232 = .ok (.iload_n 3, 1) := by decide +kernel
theorem dX3_digest_233 : decode cX3_digest 233 = .ok (.iconst 1, 1) := by decide +kernel
theorem dX3_digest_234 : decode cX3_digest 234 = .ok (.iadd, 1) := by decide +kernel
theorem dX3_digest_235 : decode cX3_digest 235 = .ok (.istore 4, 2) := by decide +kernel
theorem dX3_digest_237 : decode cX3_digest 237 = .ok (.iload 4, 2) := by decide +kernel
theorem dX3_digest_239 : decode cX3_digest 239 = .ok (.iconst 3, 1) := by decide +kernel
theorem dX3_digest_240 : decode cX3_digest 240 = .ok (.if_icmp .ge 22, 3) := by decide +kernel
theorem dX3_digest_243 : decode cX3_digest 243 = .ok (.lload_n 1, 1) := by decide +kernel
theorem dX3_digest_244 : decode cX3_digest 244 = .ok (.aload_n 0, 1) := by decide +kernel
theorem dX3_digest_245 : decode cX3_digest 245 = .ok (.iload_n 3, 1) := by decide +kernel
theorem dX3_digest_246 : decode cX3_digest 246 = .ok (.iload 4, 2) := by decide +kernel
theorem dX3_digest_248 : decode cX3_digest 248 = .ok (.invokevirtual 185, 3) := by decide +kernel
theorem dX3_digest_251 : decode cX3_digest 251 = .ok (.i2l, 1) := by decide +kernel
theorem dX3_digest_252 : decode cX3_digest 252 = .ok (.invokestatic 208, 3) := by decide +kernel
theorem dX3_digest_255 : decode cX3_digest 255 = .ok (.lstore_n 1, 1) := by decide +kernel
theorem dX3_digest_256 : decode cX3_digest 256 = .ok (.iinc 4 1, 3) := by decide +kernel
theorem dX3_digest_259 : decode cX3_digest 259 = .ok (.goto (-22), 3) := by decide +kernel
theorem dX3_digest_262 : decode cX3_digest 262 = .ok (.iinc 3 1, 3) := by decide +kernel
theorem dX3_digest_265 : decode cX3_digest 265 = .ok (.goto (-38), 3) := by decide +kernel
theorem dX3_digest_268 : decode cX3_digest 268 = .ok (.iconst 0, 1) := by decide +kernel
theorem dX3_digest_269 : decode cX3_digest 269 = .ok (.istore_n 3, 1) := by decide +kernel
theorem dX3_digest_270 : decode cX3_digest 270 = .ok (.iload_n 3, 1) := by decide +kernel
theorem dX3_digest_271 : decode cX3_digest 271 = .ok (.iconst 4, 1) := by decide +kernel
theorem dX3_digest_272 : decode cX3_digest 272 = .ok (.if_icmp .ge 21, 3) := by decide +kernel
theorem dX3_digest_275 : decode cX3_digest 275 = .ok (.lload_n 1, 1) := by decide +kernel
theorem dX3_digest_276 : decode cX3_digest 276 = .ok (.aload_n 0, 1) := by decide +kernel
theorem dX3_digest_277 : decode cX3_digest 277 = .ok (.getfield 27, 3) := by decide +kernel
theorem dX3_digest_280 : decode cX3_digest 280 = .ok (.iload_n 3, 1) := by decide +kernel
theorem dX3_digest_281 : decode cX3_digest 281 = .ok (.iaload, 1) := by decide +kernel
theorem dX3_digest_282 : decode cX3_digest 282 = .ok (.i2l, 1) := by decide +kernel
theorem dX3_digest_283 : decode cX3_digest 283 = .ok (.invokestatic 208, 3) := by decide +kernel
theorem dX3_digest_286 : decode cX3_digest 286 = .ok (.lstore_n 1, 1) := by decide +kernel
theorem dX3_digest_287 : decode cX3_digest 287 = .ok (.iinc 3 1, 3) := by decide +kernel
theorem dX3_digest_290 : decode cX3_digest 290 = .ok (.goto (-20), 3) := by decide +kernel
theorem dX3_digest_293 : decode cX3_digest 293 = .ok (.lload_n 1, 1) := by decide +kernel
theorem dX3_digest_294 : decode cX3_digest 294 = .ok (.aload_n 0, 1) := by decide +kernel
theorem dX3_digest_295 : decode cX3_digest 295 = .ok (.invokevirtual 200, 3) := by decide +kernel
theorem dX3_digest_298 : decode cX3_digest 298 = .ok (.ifCond .eq 7, 3) := by decide +kernel
theorem dX3_digest_301 : decode cX3_digest 301 = .ok (.lconst 1, 1) := by decide +kernel
theorem dX3_digest_302 : decode cX3_digest 302 = .ok (.goto 4, 3) := by decide +kernel
theorem dX3_digest_305 : decode cX3_digest 305 = .ok (.lconst 0, 1) := by decide +kernel
theorem dX3_digest_306 : decode cX3_digest 306 = .ok (.invokestatic 208, 3) := by decide +kernel
theorem dX3_digest_309 : decode cX3_digest 309 = .ok (.lreturn, 1) := by decide +kernel
theorem dJ5_init_d00df_0 : decode cJ5_init_d00df 0 = .ok (.aload_n 0, 1) := by decide +kernel
theorem dJ5_init_d00df_1 : decode cJ5_init_d00df 1 = .ok (.invokespecial 3, 3) := by decide +kernel
theorem dJ5_init_d00df_4 : decode cJ5_init_d00df 4 = .ok (.getstatic 18, 3) := by decide +kernel
theorem dJ5_init_d00df_7 : decode cJ5_init_d00df 7 = .ok (.ifCond .eq 18, 3) := by decide +kernel
theorem dJ5_init_d00df_10 : decode cJ5_init_d00df 10 = .ok (.aload_n 0, 1) := by decide +kernel
theorem dJ5_init_d00df_11 : decode cJ5_init_d00df 11 = .ok (.iload_n 1, 1) := by decide +kernel
theorem dJ5_init_d00df_12 : decode cJ5_init_d00df 12 = .ok (.newarray .byte, 2) := by decide +kernel
theorem dJ5_init_d00df_14 : decode cJ5_init_d00df 14 = .ok (.putfield 15, 3) := by decide +kernel
theorem dJ5_init_d00df_17 : decode cJ5_init_d00df 17 = .ok (.aload_n 0, 1) := by decide +kernel
theorem dJ5_init_d00df_18 : decode cJ5_init_d00df 18 = .ok (.iconst 0, 1) := by decide +kernel
theorem dJ5_init_d00df_19 : decode cJ5_init_d00df 19 = .ok (.putfield 22, 3) := by decide +kernel
theorem dJ5_init_d00df_22 : decode cJ5_init_d00df 22 = .ok (.goto 16, 3) := by decide +kernel
theorem dJ5_init_d00df_25 : decode cJ5_init_d00df 25 = .ok (.aload_n 0, 1) := by decide +kernel
theorem dJ5_init_d00df_26 : decode cJ5_init_d00df 26 = .ok (.iload_n 1, 1) := by decide +kernel
theorem dJ5_init_d00df_27 : decode cJ5_init_d00df 27 = .ok (.invokestatic 26, 3) := by decide +kernel
theorem dJ5_init_d00df_30 : decode cJ5_init_d00df 30 = .ok (.putfield 15, 3) := by decide +kernel
theorem dJ5_init_d00df_33 : decode cJ5_init_d00df 33 = .ok (.aload_n 0, 1) := by decide +kernel
theorem dJ5_init_d00df_34 : decode cJ5_init_d00df 34 = .ok (.iconst 1, 1) := by decide +kernel
theorem dJ5_init_d00df_35 : decode cJ5_init_d00df 35 = .ok (.putfield 22, 3) := by decide +kernel
theorem dJ5_init_d00df_38 : decode cJ5_init_d00df 38 = .ok (.return_, 1) := by decide +kernel
theorem dJ5_length_8abf5_0 : decode cJ5_length_8abf5 0 = .ok (.aload_n 0, 1) := by decide +kernel
theorem dJ5_length_8abf5_1 : decode cJ5_length_8abf5 1 = .ok (.getfield 79, 3) := by decide +kernel
theorem dJ5_length_8abf5_4 : decode cJ5_length_8abf5 4 = .ok (.ireturn, 1) := by decide +kernel
theorem dJ5_ensureCapacityInternal_d00df_0 : decode cJ5_ensureCapacityInternal_d00df 0 = .ok (.aload_n 0, 1) := by decide +kernel
theorem dJ5_ensureCapacityInternal_d00df_1 : decode cJ5_ensureCapacityInternal_d00df 1 = .ok (.getfield 15, 3) := by decide +kernel
theorem dJ5_ensureCapacityInternal_d00df_4 : decode cJ5_ensureCapacityInternal_d00df 4 = .ok (.arraylength, 1) := by decide +kernel
theorem dJ5_ensureCapacityInternal_d00df_5 : decode cJ5_ensureCapacityInternal_d00df 5 = .ok (.aload_n 0, 1) := by decide +kernel
theorem dJ5_ensureCapacityInternal_d00df_6 : decode cJ5_ensureCapacityInternal_d00df 6 = .ok (.getfield 22, 3) := by decide +kernel
theorem dJ5_ensureCapacityInternal_d00df_9 : decode cJ5_ensureCapacityInternal_d00df 9 = .ok (.ishr, 1) := by decide +kernel
theorem dJ5_ensureCapacityInternal_d00df_10 : decode cJ5_ensureCapacityInternal_d00df 10 = .ok (.istore_n 2, 1) := by decide +kernel
theorem dJ5_ensureCapacityInternal_d00df_11 : decode cJ5_ensureCapacityInternal_d00df 11 = .ok (.iload_n 1, 1) := by decide +kernel
theorem dJ5_ensureCapacityInternal_d00df_12 : decode cJ5_ensureCapacityInternal_d00df 12 = .ok (.iload_n 2, 1) := by decide +kernel
theorem dJ5_ensureCapacityInternal_d00df_13 : decode cJ5_ensureCapacityInternal_d00df 13 = .ok (.isub, 1) := by decide +kernel
theorem dJ5_ensureCapacityInternal_d00df_14 : decode cJ5_ensureCapacityInternal_d00df 14 = .ok (.ifCond .le 24, 3) := by decide +kernel
theorem dJ5_ensureCapacityInternal_d00df_17 : decode cJ5_ensureCapacityInternal_d00df 17 = .ok (.aload_n 0, 1) := by decide +kernel
theorem dJ5_ensureCapacityInternal_d00df_18 : decode cJ5_ensureCapacityInternal_d00df 18 = .ok (.aload_n 0, 1) := by decide +kernel
theorem dJ5_ensureCapacityInternal_d00df_19 : decode cJ5_ensureCapacityInternal_d00df 19 = .ok (.getfield 15, 3) := by decide +kernel
theorem dJ5_ensureCapacityInternal_d00df_22 : decode cJ5_ensureCapacityInternal_d00df 22 = .ok (.aload_n 0, 1) := by decide +kernel
theorem dJ5_ensureCapacityInternal_d00df_23 : decode cJ5_ensureCapacityInternal_d00df 23 = .ok (.iload_n 1, 1) := by decide +kernel
theorem dJ5_ensureCapacityInternal_d00df_24 : decode cJ5_ensureCapacityInternal_d00df 24 = .ok (.invokevirtual 104, 3) := by decide +kernel
theorem dJ5_ensureCapacityInternal_d00df_27 : decode cJ5_ensureCapacityInternal_d00df 27 = .ok (.aload_n 0, 1) := by decide +kernel
theorem dJ5_ensureCapacityInternal_d00df_28 : decode cJ5_ensureCapacityInternal_d00df 28 = .ok (.getfield 22, 3) := by decide +kernel
theorem dJ5_ensureCapacityInternal_d00df_31 : decode cJ5_ensureCapacityInternal_d00df 31 = .ok (.ishl, 1) := by decide +kernel
theorem dJ5_ensureCapacityInternal_d00df_32 : decode cJ5_ensureCapacityInternal_d00df 32 = .ok (.invokestatic 108, 3) := by decide +kernel
theorem dJ5_ensureCapacityInternal_d00df_35 : decode cJ5_ensureCapacityInternal_d00df 35 = .ok (.putfield 15, 3) := by decide +kernel
theorem dJ5_ensureCapacityInternal_d00df_38 : decode cJ5_ensureCapacityInternal_d00df 38 = .ok (.return_, 1) := by decide +kernel
theorem dJ5_newCapacity_0f7a4_0 : decode cJ5_newCapacity_0f7a4 0 = .ok (.aload_n 0, 1) := by decide +kernel
theorem dJ5_newCapacity_0f7a4_1 : decode cJ5_newCapacity_0f7a4 1 = .ok (.getfield 15, 3) := by decide +kernel
theorem dJ5_newCapacity_0f7a4_4 : decode cJ5_newCapacity_0f7a4 4 = .ok (.arraylength, 1) := by decide +kernel
theorem dJ5_newCapacity_0f7a4_5 : decode cJ5_newCapacity_0f7a4 5 = .ok (.istore_n 2, 1) := by decide +kernel
theorem dJ5_newCapacity_0f7a4_6 : decode cJ5_newCapacity_0f7a4 6 = .ok (.iload_n 1, 1) := by decide +kernel
theorem dJ5_newCapacity_0f7a4_7 : decode cJ5_newCapacity_0f7a4 7 = .ok (.aload_n 0, 1) := by decide +kernel
theorem dJ5_newCapacity_0f7a4_8 : decode cJ5_newCapacity_0f7a4 8 = .ok (.getfield 22, 3) := by decide +kernel
theorem dJ5_newCapacity_0f7a4_11 : decode cJ5_newCapacity_0f7a4 11 = .ok (.ishl, 1) := by decide +kernel
theorem dJ5_newCapacity_0f7a4_12 : decode cJ5_newCapacity_0f7a4 12 = .ok (.istore_n 3, 1) := by decide +kernel
theorem dJ5_newCapacity_0f7a4_13 : decode cJ5_newCapacity_0f7a4 13 = .ok (.iload_n 3, 1) := by decide +kernel
theorem dJ5_newCapacity_0f7a4_14 : decode cJ5_newCapacity_0f7a4 14 = .ok (.iload_n 2, 1) := by decide +kernel
theorem dJ5_newCapacity_0f7a4_15 : decode cJ5_newCapacity_0f7a4 15 = .ok (.isub, 1) := by decide +kernel
theorem dJ5_newCapacity_0f7a4_16 : decode cJ5_newCapacity_0f7a4 16 = .ok (.istore 4, 2) := by decide +kernel
theorem dJ5_newCapacity_0f7a4_18 : decode cJ5_newCapacity_0f7a4 18 = .ok (.iload_n 2, 1) := by decide +kernel
theorem dJ5_newCapacity_0f7a4_19 : decode cJ5_newCapacity_0f7a4 19 = .ok (.iload 4, 2) := by decide +kernel
theorem dJ5_newCapacity_0f7a4_21 : decode cJ5_newCapacity_0f7a4 21 = .ok (.iload_n 2, 1) := by decide +kernel
theorem dJ5_newCapacity_0f7a4_22 : decode cJ5_newCapacity_0f7a4 22 = .ok (.iconst 2, 1) := by decide +kernel
theorem dJ5_newCapacity_0f7a4_23 : decode cJ5_newCapacity_0f7a4 23 = .ok (.aload_n 0, 1) := by decide +kernel
theorem dJ5_newCapacity_0f7a4_24 : decode cJ5_newCapacity_0f7a4 24 = .ok (.getfield 22, 3) := by decide +kernel
theorem dJ5_newCapacity_0f7a4_27 : decode cJ5_newCapacity_0f7a4 27 = .ok (.ishl, 1) := by decide +kernel
theorem dJ5_newCapacity_0f7a4_28 : decode cJ5_newCapacity_0f7a4 28 = .ok (.iadd, 1) := by decide +kernel
theorem dJ5_newCapacity_0f7a4_29 : decode cJ5_newCapacity_0f7a4 29 = .ok (.invokestatic 114, 3) := by decide +kernel
theorem dJ5_newCapacity_0f7a4_32 : decode cJ5_newCapacity_0f7a4 32 = .ok (.istore 5, 2) := by decide +kernel
theorem dJ5_newCapacity_0f7a4_34 : decode cJ5_newCapacity_0f7a4 34 = .ok (.iload 5, 2) := by decide +kernel
theorem dJ5_newCapacity_0f7a4_36 : decode cJ5_newCapacity_0f7a4 36 = .ok (.ldc 39, 2) := by decide +kernel
theorem dJ5_newCapacity_0f7a4_38 : decode cJ5_newCapacity_0f7a4 38 = .ok (.if_icmp .ne 13, 3) := by decide +kernel
theorem dJ5_newCapacity_0f7a4_41 : decode cJ5_newCapacity_0f7a4 41 = .ok (.new 120, 3) := by decide +kernel
theorem dJ5_newCapacity_0f7a4_44 : decode cJ5_newCapacity_0f7a4 44 = .ok (.dup, 1) := by decide +kernel
theorem dJ5_newCapacity_0f7a4_45 : decode cJ5_newCapacity_0f7a4 45 = .ok (.ldc 122, 2) := by decide +kernel
theorem dJ5_newCapacity_0f7a4_47 : decode cJ5_newCapacity_0f7a4 47 = .ok (.invokespecial 124, 3) := by decide +kernel
theorem dJ5_newCapacity_0f7a4_50 : decode cJ5_newCapacity_0f7a4 50 = .ok (.athrow, 1) := by decide +kernel
theorem dJ5_newCapacity_0f7a4_51 : decode cJ5_newCapacity_0f7a4 51 = .ok (.iload 5, 2) := by decide +kernel
theorem dJ5_newCapacity_0f7a4_53 : decode cJ5_newCapacity_0f7a4 53 = .ok (.aload_n 0, 1) := by decide +kernel
theorem dJ5_newCapacity_0f7a4_54 : decode cJ5_newCapacity_0f7a4 54 = .ok (.getfield 22, 3) := by decide +kernel
theorem dJ5_newCapacity_0f7a4_57 : decode cJ5_newCapacity_0f7a4 57 = .ok (.ishr, 1) := by decide +kernel
theorem dJ5_newCapacity_0f7a4_58 : decode cJ5_newCapacity_0f7a4 58 = .ok (.ireturn, 1) := by decide +kernel
theorem dJ5_append_3fe6f_0 : decode cJ5_append_3fe6f 0 = .ok (.aload_n 0, 1) := by decide +kernel
theorem dJ5_append_3fe6f_1 : decode cJ5_append_3fe6f 1 = .ok (.aload_n 0, 1) := by decide +kernel
theorem dJ5_append_3fe6f_2 : decode cJ5_append_3fe6f 2 = .ok (.getfield 79, 3) := by decide +kernel
theorem dJ5_append_3fe6f_5 : decode cJ5_append_3fe6f 5 = .ok (.iconst 1, 1) := by decide +kernel
theorem dJ5_append_3fe6f_6 : decode cJ5_append_3fe6f 6 = .ok (.iadd, 1) := by decide +kernel
theorem dJ5_append_3fe6f_7 : decode cJ5_append_3fe6f 7 = .ok (.invokevirtual 100, 3) := by decide +kernel
theorem dJ5_append_3fe6f_10 : decode cJ5_append_3fe6f 10 = .ok (.aload_n 0, 1) := by decide +kernel
theorem dJ5_append_3fe6f_11 : decode cJ5_append_3fe6f 11 = .ok (.invokevirtual 83, 3) := by decide +kernel
theorem dJ5_append_3fe6f_14 : decode cJ5_append_3fe6f 14 = .ok (.ifCond .eq 31, 3) := by decide +kernel
theorem dJ5_append_3fe6f_17 : decode cJ5_append_3fe6f 17 = .ok (.iload_n 1, 1) := by decide +kernel
theorem dJ5_append_3fe6f_18 : decode cJ5_append_3fe6f 18 = .ok (.invokestatic 191, 3) := by decide +kernel
theorem dJ5_append_3fe6f_21 : decode cJ5_append_3fe6f 21 = .ok (.ifCond .eq 24, 3) := by decide +kernel
theorem dJ5_append_3fe6f_24 : decode cJ5_append_3fe6f 24 = .ok (.aload_n 0, 1) := by decide +kernel
theorem dJ5_append_3fe6f_25 : decode cJ5_append_3fe6f 25 = .ok (.getfield 15, 3) := by decide +kernel
theorem dJ5_append_3fe6f_28 : decode cJ5_append_3fe6f 28 = .ok (.aload_n 0, 1) := by decide +kernel
theorem dJ5_append_3fe6f_29 : decode cJ5_append_3fe6f 29 = .ok (.dup, 1) := by decide +kernel
theorem dJ5_append_3fe6f_30 : decode cJ5_append_3fe6f 30 = .ok (.getfield 79, 3) := by decide +kernel
theorem dJ5_append_3fe6f_33 : decode cJ5_append_3fe6f 33 = .ok (.dup_x1, 1) := by decide +kernel
theorem dJ5_append_3fe6f_34 : decode cJ5_append_3fe6f 34 = .ok (.iconst 1, 1) := by decide +kernel
theorem dJ5_append_3fe6f_35 : decode cJ5_append_3fe6f 35 = .ok (.iadd, 1) := by decide +kernel
theorem dJ5_append_3fe6f_36 : decode cJ5_append_3fe6f 36 = .ok (.putfield 79, 3) := by decide +kernel
theorem dJ5_append_3fe6f_39 : decode cJ5_append_3fe6f 39 = .ok (.iload_n 1, 1) := by decide +kernel
theorem dJ5_append_3fe6f_40 : decode cJ5_append_3fe6f 40 = .ok (.i2b, 1) := by decide +kernel
theorem dJ5_append_3fe6f_41 : decode cJ5_append_3fe6f 41 = .ok (.bastore, 1) := by decide +kernel
theorem dJ5_append_3fe6f_42 : decode cJ5_append_3fe6f 42 = .ok (.goto 33, 3) := by decide +kernel
theorem dJ5_append_3fe6f_45 : decode cJ5_append_3fe6f 45 = .ok (.aload_n 0, 1) := by decide +kernel
theorem dJ5_append_3fe6f_46 : decode cJ5_append_3fe6f 46 = .ok (.invokevirtual 83, 3) := by decide +kernel
theorem dJ5_append_3fe6f_49 : decode cJ5_append_3fe6f 49 = .ok (.ifCond .eq 7, 3) := by decide +kernel
theorem dJ5_append_3fe6f_52 : decode cJ5_append_3fe6f 52 = .ok (.aload_n 0, 1) := by decide +kernel
theorem dJ5_append_3fe6f_53 : decode cJ5_append_3fe6f 53 = .ok (.invokevirtual 195, 3) := by decide +kernel
theorem dJ5_append_3fe6f_56 : decode cJ5_append_3fe6f 56 = .ok (.aload_n 0, 1) := by decide +kernel
theorem dJ5_append_3fe6f_57 : decode cJ5_append_3fe6f 57 = .ok (.getfield 15, 3) := by decide +kernel
theorem dJ5_append_3fe6f_60 : decode cJ5_append_3fe6f 60 = .ok (.aload_n 0, 1) := by decide +kernel
theorem dJ5_append_3fe6f_61 : decode cJ5_append_3fe6f 61 = .ok (.dup, 1) := by decide +kernel
theorem dJ5_append_3fe6f_62 : decode cJ5_append_3fe6f 62 = .ok (.getfield 79, 3) := by decide +kernel
theorem dJ5_append_3fe6f_65 : decode cJ5_append_3fe6f 65 = .ok (.dup_x1, 1) := by decide +kernel
theorem dJ5_append_3fe6f_66 : decode cJ5_append_3fe6f 66 = .ok (.iconst 1, 1) := by decide +kernel
theorem dJ5_append_3fe6f_67 : decode cJ5_append_3fe6f 67 = .ok (.iadd, 1) := by decide +kernel
theorem dJ5_append_3fe6f_68 : decode cJ5_append_3fe6f 68 = .ok (.putfield 79, 3) := by decide +kernel
theorem dJ5_append_3fe6f_71 : decode cJ5_append_3fe6f 71 = .ok (.iload_n 1, 1) := by decide +kernel
theorem dJ5_append_3fe6f_72 : decode cJ5_append_3fe6f 72 = .ok (.invokestatic 197, 3) := by decide +kernel
theorem dJ5_append_3fe6f_75 : decode cJ5_append_3fe6f 75 = .ok (.aload_n 0, 1) := by decide +kernel
theorem dJ5_append_3fe6f_76 : decode cJ5_append_3fe6f 76 = .ok (.areturn, 1) := by decide +kernel
theorem dJ5_reverse_278bc_0 : decode cJ5_reverse_278bc 0 = .ok (.aload_n 0, 1) := by decide +kernel
theorem dJ5_reverse_278bc_1 : decode cJ5_reverse_278bc 1 = .ok (.getfield 15, 3) := by decide +kernel
theorem dJ5_reverse_278bc_4 : decode cJ5_reverse_278bc 4 = .ok (.astore_n 1, 1) := by decide +kernel
theorem dJ5_reverse_278bc_5 : decode cJ5_reverse_278bc 5 = .ok (.aload_n 0, 1) := by decide +kernel
theorem dJ5_reverse_278bc_6 : decode cJ5_reverse_278bc 6 = .ok (.getfield 79, 3) := by decide +kernel
theorem dJ5_reverse_278bc_9 : decode cJ5_reverse_278bc 9 = .ok (.istore_n 2, 1) := by decide +kernel
theorem dJ5_reverse_278bc_10 : decode cJ5_reverse_278bc 10 = .ok (.iload_n 2, 1) := by decide +kernel
theorem dJ5_reverse_278bc_11 : decode cJ5_reverse_278bc 11 = .ok (.iconst 1, 1) := by decide +kernel
theorem dJ5_reverse_278bc_12 : decode cJ5_reverse_278bc 12 = .ok (.isub, 1) := by decide +kernel
theorem dJ5_reverse_278bc_13 : decode cJ5_reverse_278bc 13 = .ok (.istore_n 3, 1) := by decide +kernel
theorem dJ5_reverse_278bc_14 : decode cJ5_reverse_278bc 14 = .ok (.aload_n 0, 1) := by decide +kernel
theorem dJ5_reverse_278bc_15 : decode cJ5_reverse_278bc 15 = .ok (.invokevirtual 83, 3) := by decide +kernel
theorem dJ5_reverse_278bc_18 : decode cJ5_reverse_278bc 18 = .ok (.ifCond .eq 50, 3) := by decide +kernel
theorem dJ5_reverse_278bc_21 : decode cJ5_reverse_278bc 21 = .ok (.iload_n 3, 1) := by decide +kernel
theorem dJ5_reverse_278bc_22 : decode cJ5_reverse_278bc 22 = .ok (.iconst 1, 1) := by decide +kernel
theorem dJ5_reverse_278bc_23 : decode cJ5_reverse_278bc 23 = .ok (.isub, 1) := by decide +kernel
theorem dJ5_reverse_278bc_24 : decode cJ5_reverse_278bc 24 = .ok (.iconst 1, 1) := by decide +kernel
theorem dJ5_reverse_278bc_25 : decode cJ5_reverse_278bc 25 = .ok (.ishr, 1) := by decide +kernel
theorem dJ5_reverse_278bc_26 : decode cJ5_reverse_278bc 26 = .ok (.istore 4, 2) := by decide +kernel
theorem dJ5_reverse_278bc_28 : decode cJ5_reverse_278bc 28 = .ok (.iload 4, 2) := by decide +kernel
theorem dJ5_reverse_278bc_30 : decode cJ5_reverse_278bc 30 = .ok (.ifCond .lt 35, 3) := by decide +kernel
theorem dJ5_reverse_278bc_33 : decode cJ5_reverse_278bc 33 = .ok (.iload_n 3, 1) := by decide +kernel
theorem dJ5_reverse_278bc_34 : decode cJ5_reverse_278bc 34 = .ok (.iload 4, 2) := by decide +kernel
theorem dJ5_reverse_278bc_36 : decode cJ5_reverse_278bc 36 = .ok (.isub, 1) := by decide +kernel
theorem dJ5_reverse_278bc_37 : decode cJ5_reverse_278bc 37 = .ok (.istore 5, 2) := by decide +kernel
theorem dJ5_reverse_278bc_39 : decode cJ5_reverse_278bc 39 = .ok (.aload_n 1, 1) := by decide +kernel
theorem dJ5_reverse_278bc_40 : decode cJ5_reverse_278bc 40 = .ok (.iload 4, 2) := by decide +kernel
theorem dJ5_reverse_278bc_42 : decode cJ5_reverse_278bc 42 = .ok (.baload, 1) := by decide +kernel
theorem dJ5_reverse_278bc_43 : decode cJ5_reverse_278bc 43 = .ok (.istore 6, 2) := by decide +kernel
theorem dJ5_reverse_278bc_45 : decode cJ5_reverse_278bc 45 = .ok (.aload_n 1, 1) := by decide +kernel
theorem dJ5_reverse_278bc_46 : decode cJ5_reverse_278bc 46 = .ok (.iload 4, 2) := by decide +kernel
theorem dJ5_reverse_278bc_48 : decode cJ5_reverse_278bc 48 = .ok (.aload_n 1, 1) := by decide +kernel
theorem dJ5_reverse_278bc_49 : decode cJ5_reverse_278bc 49 = .ok (.iload 5, 2) := by decide +kernel
theorem dJ5_reverse_278bc_51 : decode cJ5_reverse_278bc 51 = .ok (.baload, 1) := by decide +kernel
theorem dJ5_reverse_278bc_52 : decode cJ5_reverse_278bc 52 = .ok (.bastore, 1) := by decide +kernel
theorem dJ5_reverse_278bc_53 : decode cJ5_reverse_278bc 53 = .ok (.aload_n 1, 1) := by decide +kernel
theorem dJ5_reverse_278bc_54 : decode cJ5_reverse_278bc 54 = .ok (.iload 5, 2) := by decide +kernel
theorem dJ5_reverse_278bc_56 : decode cJ5_reverse_278bc 56 = .ok (.iload 6, 2) := by decide +kernel
theorem dJ5_reverse_278bc_58 : decode cJ5_reverse_278bc 58 = .ok (.bastore, 1) := by decide +kernel
theorem dJ5_reverse_278bc_59 : decode cJ5_reverse_278bc 59 = .ok (.iinc 4 (-1), 3) := by decide +kernel
theorem dJ5_reverse_278bc_62 : decode cJ5_reverse_278bc 62 = .ok (.goto (-34), 3) := by decide +kernel
theorem dJ5_reverse_278bc_65 : decode cJ5_reverse_278bc 65 = .ok (.goto 8, 3) := by decide +kernel
theorem dJ5_reverse_278bc_68 : decode cJ5_reverse_278bc 68 = .ok (.aload_n 1, 1) := by decide +kernel
theorem dJ5_reverse_278bc_69 : decode cJ5_reverse_278bc 69 = .ok (.iload_n 2, 1) := by decide +kernel
theorem dJ5_reverse_278bc_70 : decode cJ5_reverse_278bc 70 = .ok (.invokestatic 358, 3) := by decide +kernel
theorem dJ5_reverse_278bc_73 : decode cJ5_reverse_278bc 73 = .ok (.aload_n 0, 1) := by decide +kernel
theorem dJ5_reverse_278bc_74 : decode cJ5_reverse_278bc 74 = .ok (.areturn, 1) := by decide +kernel
theorem dJ5_getValue_6d5f1_0 : decode cJ5_getValue_6d5f1 0 = .ok (.aload_n 0, 1) := by decide +kernel
theorem dJ5_getValue_6d5f1_1 : decode cJ5_getValue_6d5f1 1 = .ok (.getfield 15, 3) := by decide +kernel
theorem dJ5_getValue_6d5f1_4 : decode cJ5_getValue_6d5f1 4 = .ok (.areturn, 1) := by decide +kernel
theorem dJ5_isLatin1_aae02_0 : decode cJ5_isLatin1_aae02 0 = .ok (.getstatic 18, 3) := by decide +kernel
theorem dJ5_isLatin1_aae02_3 : decode cJ5_isLatin1_aae02 3 = .ok (.ifCond .eq 14, 3) := by decide +kernel
theorem dJ5_isLatin1_aae02_6 : decode cJ5_isLatin1_aae02 6 = .ok (.aload_n 0, 1) := by decide +kernel
theorem dJ5_isLatin1_aae02_7 : decode cJ5_isLatin1_aae02 7 = .ok (.getfield 22, 3) := by decide +kernel
theorem dJ5_isLatin1_aae02_10 : decode cJ5_isLatin1_aae02 10 = .ok (.ifCond .ne 7, 3) := by decide +kernel
theorem dJ5_isLatin1_aae02_13 : decode cJ5_isLatin1_aae02 13 = .ok (.iconst 1, 1) := by decide +kernel
theorem dJ5_isLatin1_aae02_14 : decode cJ5_isLatin1_aae02 14 = .ok (.goto 4, 3) := by decide +kernel
theorem dJ5_isLatin1_aae02_17 : decode cJ5_isLatin1_aae02 17 = .ok (.iconst 0, 1) := by decide +kernel
theorem dJ5_isLatin1_aae02_18 : decode cJ5_isLatin1_aae02 18 = .ok (.ireturn, 1) := by decide +kernel
theorem dJ0_init_81219_0 : decode cJ0_init_81219 0 = .ok (.aload_n 0, 1) := by decide +kernel
theorem dJ0_init_81219_1 : decode cJ0_init_81219 1 = .ok (.aload_n 1, 1) := by decide +kernel
theorem dJ0_init_81219_2 : decode cJ0_init_81219 2 = .ok (.aconst_null, 1) := by decide +kernel
theorem dJ0_init_81219_3 : decode cJ0_init_81219 3 = .ok (.invokespecial 489, 3) := by decide +kernel
theorem dJ0_init_81219_6 : decode cJ0_init_81219 6 = .ok (.return_, 1) := by decide +kernel
theorem dJ0_init_db425_0 : decode cJ0_init_db425 0 = .ok (.aload_n 0, 1) := by decide +kernel
theorem dJ0_init_db425_1 : decode cJ0_init_db425 1 = .ok (.invokespecial 1, 3) := by decide +kernel
theorem dJ0_init_db425_4 : decode cJ0_init_db425 4 = .ok (.aload_n 1, 1) := by decide +kernel
theorem dJ0_init_db425_5 : decode cJ0_init_db425 5 = .ok (.invokevirtual 552, 3) := by decide +kernel
theorem dJ0_init_db425_8 : decode cJ0_init_db425 8 = .ok (.astore_n 3, 1) := by decide +kernel
theorem dJ0_init_db425_9 : decode cJ0_init_db425 9 = .ok (.aload_n 1, 1) := by decide +kernel
theorem dJ0_init_db425_10 : decode cJ0_init_db425 10 = .ok (.invokevirtual 549, 3) := by decide +kernel
theorem dJ0_init_db425_13 : decode cJ0_init_db425 13 = .ok (.istore 4, 2) := by decide +kernel
theorem dJ0_init_db425_15 : decode cJ0_init_db425 15 = .ok (.aload_n 1, 1) := by decide +kernel
theorem dJ0_init_db425_16 : decode cJ0_init_db425 16 = .ok (.invokevirtual 1047, 3) := by decide +kernel
theorem dJ0_init_db425_19 : decode cJ0_init_db425 19 = .ok (.ifCond .eq 22, 3) := by decide +kernel
theorem dJ0_init_db425_22 : decode cJ0_init_db425 22 = .ok (.aload_n 0, 1) := by decide +kernel
theorem dJ0_init_db425_23 : decode cJ0_init_db425 23 = .ok (.iconst 0, 1) := by decide +kernel
theorem dJ0_init_db425_24 : decode cJ0_init_db425 24 = .ok (.putfield 15, 3) := by decide +kernel
theorem dJ0_init_db425_27 : decode cJ0_init_db425 27 = .ok (.aload_n 0, 1) := by decide +kernel
theorem dJ0_init_db425_28 : decode cJ0_init_db425 28 = .ok (.aload_n 3, 1) := by decide +kernel
theorem dJ0_init_db425_29 : decode cJ0_init_db425 29 = .ok (.iconst 0, 1) := by decide +kernel
theorem dJ0_init_db425_30 : decode cJ0_init_db425 30 = .ok (.iload 4, 2) := by decide +kernel
theorem dJ0_init_db425_32 : decode cJ0_init_db425 32 = .ok (.invokestatic 54, 3) := by decide +kernel
theorem dJ0_init_db425_35 : decode cJ0_init_db425 35 = .ok (.putfield 9, 3) := by decide +kernel
theorem dJ0_init_db425_38 : decode cJ0_init_db425 38 = .ok (.goto 59, 3) := by decide +kernel
theorem dJ0_init_db425_41 : decode cJ0_init_db425 41 = .ok (.getstatic 38, 3) := by decide +kernel
theorem dJ0_init_db425_44 : decode cJ0_init_db425 44 = .ok (.ifCond .eq 35, 3) := by decide +kernel
theorem dJ0_init_db425_47 : decode cJ0_init_db425 47 = .ok (.aload_n 1, 1) := by decide +kernel
theorem dJ0_init_db425_48 : decode cJ0_init_db425 48 = .ok (.getfield 1048, 3) := by decide +kernel
theorem dJ0_init_db425_51 : decode cJ0_init_db425 51 = .ok (.ifCond .eq 28, 3) := by decide +kernel
theorem dJ0_init_db425_54 : decode cJ0_init_db425 54 = .ok (.aload_n 0, 1) := by decide +kernel
theorem dJ0_init_db425_55 : decode cJ0_init_db425 55 = .ok (.aload_n 3, 1) := by decide +kernel
theorem dJ0_init_db425_56 : decode cJ0_init_db425 56 = .ok (.iconst 0, 1) := by decide +kernel
theorem dJ0_init_db425_57 : decode cJ0_init_db425 57 = .ok (.iload 4, 2) := by decide +kernel
theorem dJ0_init_db425_59 : decode cJ0_init_db425 59 = .ok (.invokestatic 1051, 3) := by decide +kernel
theorem dJ0_init_db425_62 : decode cJ0_init_db425 62 = .ok (.putfield 9, 3) := by decide +kernel
theorem dJ0_init_db425_65 : decode cJ0_init_db425 65 = .ok (.aload_n 0, 1) := by decide +kernel
theorem dJ0_init_db425_66 : decode cJ0_init_db425 66 = .ok (.aload_n 0, 1) := by decide +kernel
theorem dJ0_init_db425_67 : decode cJ0_init_db425 67 = .ok (.getfield 9, 3) := by decide +kernel
theorem dJ0_init_db425_70 : decode cJ0_init_db425 70 = .ok (.iload 4, 2) := by decide +kernel
theorem dJ0_init_db425_72 : decode cJ0_init_db425 72 = .ok (.invokestatic 47, 3) := by decide +kernel
theorem dJ0_init_db425_75 : decode cJ0_init_db425 75 = .ok (.putfield 15, 3) := by decide +kernel
theorem dJ0_init_db425_78 : decode cJ0_init_db425 78 = .ok (.return_, 1) := by decide +kernel
theorem dJ0_init_db425_79 : decode cJ0_init_db425 79 = .ok (.aload_n 0, 1) := by decide +kernel
theorem dJ0_init_db425_80 : decode cJ0_init_db425 80 = .ok (.iconst 1, 1) := by decide +kernel
theorem dJ0_init_db425_81 : decode cJ0_init_db425 81 = .ok (.putfield 15, 3) := by decide +kernel
theorem dJ0_init_db425_84 : decode cJ0_init_db425 84 = .ok (.aload_n 0, 1) := by decide +kernel
theorem dJ0_init_db425_85 : decode cJ0_init_db425 85 = .ok (.aload_n 3, 1) := by decide +kernel
theorem dJ0_init_db425_86 : decode cJ0_init_db425 86 = .ok (.iconst 0, 1) := by decide +kernel
theorem dJ0_init_db425_87 : decode cJ0_init_db425 87 = .ok (.iload 4, 2) := by decide +kernel
theorem dJ0_init_db425_89 : decode cJ0_init_db425 89 = .ok (.iconst 1, 1) := by decide +kernel
theorem dJ0_init_db425_90 : decode cJ0_init_db425 90 = .ok (.ishl, 1) := by decide +kernel
theorem dJ0_init_db425_91 : decode cJ0_init_db425 91 = .ok (.invokestatic 54, 3) := by decide +kernel
theorem dJ0_init_db425_94 : decode cJ0_init_db425 94 = .ok (.putfield 9, 3) := by decide +kernel
theorem dJ0_init_db425_97 : decode cJ0_init_db425 97 = .ok (.return_, 1) := by decide +kernel
theorem dJ4_init_da8c8_0 : decode cJ4_init_da8c8 0 = .ok (.aload_n 0, 1) := by decide +kernel
theorem dJ4_init_da8c8_1 : decode cJ4_init_da8c8 1 = .ok (.bipush 16, 2) := by decide +kernel
theorem dJ4_init_da8c8_3 : decode cJ4_init_da8c8 3 = .ok (.invokespecial 1, 3) := by decide +kernel
theorem dJ4_init_da8c8_6 : decode cJ4_init_da8c8 6 = .ok (.return_, 1) := by decide +kernel
theorem dJ4_init_d00df_0 : decode cJ4_init_d00df 0 = .ok (.aload_n 0, 1) := by decide +kernel
theorem dJ4_init_d00df_1 : decode cJ4_init_d00df 1 = .ok (.iload_n 1, 1) := by decide +kernel
theorem dJ4_init_d00df_2 : decode cJ4_init_d00df 2 = .ok (.invokespecial 1, 3) := by decide +kernel
theorem dJ4_init_d00df_5 : decode cJ4_init_d00df 5 = .ok (.return_, 1) := by decide +kernel
theorem dJ4_append_cf468_0 : decode cJ4_append_cf468 0 = .ok (.aload_n 0, 1) := by decide +kernel
theorem dJ4_append_cf468_1 : decode cJ4_append_cf468 1 = .ok (.iload_n 1, 1) := by decide +kernel
theorem dJ4_append_cf468_2 : decode cJ4_append_cf468 2 = .ok (.invokespecial 50, 3) := by decide +kernel
theorem dJ4_append_cf468_5 : decode cJ4_append_cf468 5 = .ok (.pop, 1) := by decide +kernel
theorem dJ4_append_cf468_6 : decode cJ4_append_cf468 6 = .ok (.aload_n 0, 1) := by decide +kernel
theorem dJ4_append_cf468_7 : decode cJ4_append_cf468 7 = .ok (.areturn, 1) := by decide +kernel
theorem dJ4_reverse_43fcb_0 : decode cJ4_reverse_43fcb 0 = .ok (.aload_n 0, 1) := by decide +kernel
theorem dJ4_reverse_43fcb_1 : decode cJ4_reverse_43fcb 1 = .ok (.invokespecial 127, 3) := by decide +kernel
theorem dJ4_reverse_43fcb_4 : decode cJ4_reverse_43fcb 4 = .ok (.pop, 1) := by decide +kernel
theorem dJ4_reverse_43fcb_5 : decode cJ4_reverse_43fcb 5 = .ok (.aload_n 0, 1) := by decide +kernel
theorem dJ4_reverse_43fcb_6 : decode cJ4_reverse_43fcb 6 = .ok (.areturn, 1) := by decide +kernel
theorem dJ4_toString_0e30d_0 : decode cJ4_toString_0e30d 0 = .ok (.new 18, 3) := by decide +kernel
theorem dJ4_toString_0e30d_3 : decode cJ4_toString_0e30d 3 = .ok (.dup, 1) := by decide +kernel
theorem dJ4_toString_0e30d_4 : decode cJ4_toString_0e30d 4 = .ok (.aload_n 0, 1) := by decide +kernel
theorem dJ4_toString_0e30d_5 : decode cJ4_toString_0e30d 5 = .ok (.invokespecial 137, 3) := by decide +kernel
theorem dJ4_toString_0e30d_8 : decode cJ4_toString_0e30d 8 = .ok (.areturn, 1) := by decide +kernel
theorem dJ4_length_8abf5_0 : decode cJ4_length_8abf5 0 = .ok (.aload_n 0, 1) := by decide +kernel
theorem dJ4_length_8abf5_1 : decode cJ4_length_8abf5 1 = .ok (.invokespecial 343, 3) := by decide +kernel
theorem dJ4_length_8abf5_4 : decode cJ4_length_8abf5 4 = .ok (.ireturn, 1) := by decide +kernel
theorem dJ7_copyOf_9075b_0 : decode cJ7_copyOf_9075b 0 = .ok (.iload_n 1, 1) := by decide +kernel
theorem dJ7_copyOf_9075b_1 : decode cJ7_copyOf_9075b 1 = .ok (.aload_n 0, 1) := by decide +kernel
theorem dJ7_copyOf_9075b_2 : decode cJ7_copyOf_9075b 2 = .ok (.arraylength, 1) := by decide +kernel
theorem dJ7_copyOf_9075b_3 : decode cJ7_copyOf_9075b 3 = .ok (.if_icmp .ne 11, 3) := by decide +kernel
theorem dJ7_copyOf_9075b_6 : decode cJ7_copyOf_9075b 6 = .ok (.aload_n 0, 1) := by decide +kernel
theorem dJ7_copyOf_9075b_7 : decode cJ7_copyOf_9075b 7 = .ok (.invokevirtual 310, 3) := by decide +kernel
theorem dJ7_copyOf_9075b_10 : decode cJ7_copyOf_9075b 10 = .ok (.checkcast 311, 3) := by decide +kernel
theorem dJ7_copyOf_9075b_13 : decode cJ7_copyOf_9075b 13 = .ok (.areturn, 1) := by decide +kernel
theorem dJ7_copyOf_9075b_14 : decode cJ7_copyOf_9075b 14 = .ok (.iload_n 1, 1) := by decide +kernel
theorem dJ7_copyOf_9075b_15 : decode cJ7_copyOf_9075b 15 = .ok (.newarray .byte, 2) := by decide +kernel
theorem dJ7_copyOf_9075b_17 : decode cJ7_copyOf_9075b 17 = .ok (.astore_n 2, 1) := by decide +kernel
theorem dJ7_copyOf_9075b_18 : decode cJ7_copyOf_9075b 18 = .ok (.aload_n 0, 1) := by decide +kernel
theorem dJ7_copyOf_9075b_19 : decode cJ7_copyOf_9075b 19 = .ok (.iconst 0, 1) := by decide +kernel
theorem dJ7_copyOf_9075b_20 : decode cJ7_copyOf_9075b 20 = .ok (.aload_n 2, 1) := by decide +kernel
theorem dJ7_copyOf_9075b_21 : decode cJ7_copyOf_9075b 21 = .ok (.iconst 0, 1) := by decide +kernel
theorem dJ7_copyOf_9075b_22 : decode cJ7_copyOf_9075b 22 = .ok (.aload_n 0, 1) := by decide +kernel
theorem dJ7_copyOf_9075b_23 : decode cJ7_copyOf_9075b 23 = .ok (.arraylength, 1) := by decide +kernel
theorem dJ7_copyOf_9075b_24 : decode cJ7_copyOf_9075b 24 = .ok (.iload_n 1, 1) := by decide +kernel
theorem dJ7_copyOf_9075b_25 : decode cJ7_copyOf_9075b 25 = .ok (.invokestatic 304, 3) := by decide +kernel
theorem dJ7_copyOf_9075b_28 : decode cJ7_copyOf_9075b 28 = .ok (.invokestatic 150, 3) := by decide +kernel
theorem dJ7_copyOf_9075b_31 : decode cJ7_copyOf_9075b 31 = .ok (.aload_n 2, 1) := by decide +kernel
theorem dJ7_copyOf_9075b_32 : decode cJ7_copyOf_9075b 32 = .ok (.areturn, 1) := by decide +kernel
theorem dJ7_checkLength_df160_0 : decode cJ7_checkLength_df160 0 = .ok (.iload_n 1, 1) := by decide +kernel
theorem dJ7_checkLength_df160_1 : decode cJ7_checkLength_df160 1 = .ok (.iload_n 0, 1) := by decide +kernel
theorem dJ7_checkLength_df160_2 : decode cJ7_checkLength_df160 2 = .ok (.if_icmp .ge 35, 3) := by decide +kernel
theorem dJ7_checkLength_df160_5 : decode cJ7_checkLength_df160 5 = .ok (.new 43, 3) := by decide +kernel
theorem dJ7_checkLength_df160_8 : decode cJ7_checkLength_df160 8 = .ok (.dup, 1) := by decide +kernel
theorem dJ7_checkLength_df160_9 : decode cJ7_checkLength_df160 9 = .ok (.new 45, 3) := by decide +kernel
theorem dJ7_checkLength_df160_12 : decode cJ7_checkLength_df160 12 = .ok (.dup, 1) := by decide +kernel
theorem dJ7_checkLength_df160_13 : decode cJ7_checkLength_df160 13 = .ok (.invokespecial 47, 3) := by decide +kernel
theorem dJ7_checkLength_df160_16 : decode cJ7_checkLength_df160 16 = .ok (.iload_n 0, 1) := by decide +kernel
theorem dJ7_checkLength_df160_17 : decode cJ7_checkLength_df160 17 = .ok (.invokevirtual 54, 3) := by decide +kernel
theorem dJ7_checkLength_df160_20 : decode cJ7_checkLength_df160 20 = .ok (.ldc_w 337, 3) := by decide +kernel
theorem dJ7_checkLength_df160_23 : decode cJ7_checkLength_df160 23 = .ok (.invokevirtual 50, 3) := by decide +kernel
theorem dJ7_checkLength_df160_26 : decode cJ7_checkLength_df160 26 = .ok (.iload_n 1, 1) := by decide +kernel
theorem dJ7_checkLength_df160_27 : decode cJ7_checkLength_df160 27 = .ok (.invokevirtual 54, 3) := by decide +kernel
theorem dJ7_checkLength_df160_30 : decode cJ7_checkLength_df160 30 = .ok (.invokevirtual 61, 3) := by decide +kernel
theorem dJ7_checkLength_df160_33 : decode cJ7_checkLength_df160 33 = .ok (.invokespecial 65, 3) := by decide +kernel
theorem dJ7_checkLength_df160_36 : decode cJ7_checkLength_df160 36 = .ok (.athrow, 1) := by decide +kernel
theorem dJ7_checkLength_df160_37 : decode cJ7_checkLength_df160 37 = .ok (.return_, 1) := by decide +kernel
theorem dJ7_copyOfRange_39247_0 : decode cJ7_copyOfRange_39247 0 = .ok (.iload_n 1, 1) := by decide +kernel
theorem dJ7_copyOfRange_39247_1 : decode cJ7_copyOfRange_39247 1 = .ok (.ifCond .ne 9, 3) := by decide +kernel
theorem dJ7_copyOfRange_39247_4 : decode cJ7_copyOfRange_39247 4 = .ok (.iload_n 2, 1) := by decide +kernel
theorem dJ7_copyOfRange_39247_5 : decode cJ7_copyOfRange_39247 5 = .ok (.aload_n 0, 1) := by decide +kernel
theorem dJ7_copyOfRange_39247_6 : decode cJ7_copyOfRange_39247 6 = .ok (.arraylength, 1) := by decide +kernel
theorem dJ7_copyOfRange_39247_7 : decode cJ7_copyOfRange_39247 7 = .ok (.if_icmp .eq 10, 3) := by decide +kernel
theorem dJ7_copyOfRange_39247_10 : decode cJ7_copyOfRange_39247 10 = .ok (.aload_n 0, 1) := by decide +kernel
theorem dJ7_copyOfRange_39247_11 : decode cJ7_copyOfRange_39247 11 = .ok (.iload_n 1, 1) := by decide +kernel
theorem dJ7_copyOfRange_39247_12 : decode cJ7_copyOfRange_39247 12 = .ok (.iload_n 2, 1) := by decide +kernel
theorem dJ7_copyOfRange_39247_13 : decode cJ7_copyOfRange_39247 13 = .ok (.invokestatic 339, 3) := by decide +kernel
theorem dJ7_copyOfRange_39247_16 : decode cJ7_copyOfRange_39247 16 = .ok (.areturn, 1) := by decide +kernel
theorem dJ7_copyOfRange_39247_17 : decode cJ7_copyOfRange_39247 17 = .ok (.aload_n 0, 1) := by decide +kernel
theorem dJ7_copyOfRange_39247_18 : decode cJ7_copyOfRange_39247 18 = .ok (.invokevirtual 310, 3) := by decide +kernel
theorem dJ7_copyOfRange_39247_21 : decode cJ7_copyOfRange_39247 21 = .ok (.checkcast 311, 3) := by decide +kernel
theorem dJ7_copyOfRange_39247_24 : decode cJ7_copyOfRange_39247 24 = .ok (.areturn, 1) := by decide +kernel
theorem dJ7_copyOfRangeByte_39247_0 : decode cJ7_copyOfRangeByte_39247 0 = .ok (.iload_n 1, 1) := by decide +kernel
theorem dJ7_copyOfRangeByte_39247_1 : decode cJ7_copyOfRangeByte_39247 1 = .ok (.iload_n 2, 1) := by decide +kernel
theorem dJ7_copyOfRangeByte_39247_2 : decode cJ7_copyOfRangeByte_39247 2 = .ok (.invokestatic 343, 3) := by decide +kernel
theorem dJ7_copyOfRangeByte_39247_5 : decode cJ7_copyOfRangeByte_39247 5 = .ok (.iload_n 2, 1) := by decide +kernel
theorem dJ7_copyOfRangeByte_39247_6 : decode cJ7_copyOfRangeByte_39247 6 = .ok (.iload_n 1, 1) := by decide +kernel
theorem dJ7_copyOfRangeByte_39247_7 : decode cJ7_copyOfRangeByte_39247 7 = .ok (.isub, 1) := by decide +kernel
theorem dJ7_copyOfRangeByte_39247_8 : decode cJ7_copyOfRangeByte_39247 8 = .ok (.istore_n 3, 1) := by decide +kernel
theorem dJ7_copyOfRangeByte_39247_9 : decode cJ7_copyOfRangeByte_39247 9 = .ok (.iload_n 3, 1) := by decide +kernel
theorem dJ7_copyOfRangeByte_39247_10 : decode cJ7_copyOfRangeByte_39247 10 = .ok (.newarray .byte, 2) := by decide +kernel
theorem dJ7_copyOfRangeByte_39247_12 : decode cJ7_copyOfRangeByte_39247 12 = .ok (.astore 4, 2) := by decide +kernel
theorem dJ7_copyOfRangeByte_39247_14 : decode cJ7_copyOfRangeByte_39247 14 = .ok (.aload_n 0, 1) := by decide +kernel
theorem dJ7_copyOfRangeByte_39247_15 : decode cJ7_copyOfRangeByte_39247 15 = .ok (.iload_n 1, 1) := by decide +kernel
theorem dJ7_copyOfRangeByte_39247_16 : decode cJ7_copyOfRangeByte_39247 16 = .ok (.aload 4, 2) := by decide +kernel
theorem dJ7_copyOfRangeByte_39247_18 : decode cJ7_copyOfRangeByte_39247 18 = .ok (.iconst 0, 1) := by decide +kernel
theorem dJ7_copyOfRangeByte_39247_19 : decode cJ7_copyOfRangeByte_39247 19 = .ok (.aload_n 0, 1) := by decide +kernel
theorem dJ7_copyOfRangeByte_39247_20 : decode cJ7_copyOfRangeByte_39247 20 = .ok (.arraylength, 1) := by decide +kernel
theorem dJ7_copyOfRangeByte_39247_21 : decode cJ7_copyOfRangeByte_39247 21 = .ok (.iload_n 1, 1) := by decide +kernel
theorem dJ7_copyOfRangeByte_39247_22 : decode cJ7_copyOfRangeByte_39247 22 = .ok (.isub, 1) := by decide +kernel
theorem dJ7_copyOfRangeByte_39247_23 : decode cJ7_copyOfRangeByte_39247 23 = .ok (.iload_n 3, 1) := by decide +kernel
theorem dJ7_copyOfRangeByte_39247_24 : decode cJ7_copyOfRangeByte_39247 24 = .ok (.invokestatic 304, 3) := by decide +kernel
theorem dJ7_copyOfRangeByte_39247_27 : decode cJ7_copyOfRangeByte_39247 27 = .ok (.invokestatic 150, 3) := by decide +kernel
theorem dJ7_copyOfRangeByte_39247_30 : decode cJ7_copyOfRangeByte_39247 30 = .ok (.aload 4, 2) := by decide +kernel
theorem dJ7_copyOfRangeByte_39247_32 : decode cJ7_copyOfRangeByte_39247 32 = .ok (.areturn, 1) := by decide +kernel
theorem dJ8_newLength_cabcc_0 : decode cJ8_newLength_cabcc 0 = .ok (.iload_n 0, 1) := by decide +kernel
theorem dJ8_newLength_cabcc_1 : decode cJ8_newLength_cabcc 1 = .ok (.iload_n 1, 1) := by decide +kernel
theorem dJ8_newLength_cabcc_2 : decode cJ8_newLength_cabcc 2 = .ok (.iload_n 2, 1) := by decide +kernel
theorem dJ8_newLength_cabcc_3 : decode cJ8_newLength_cabcc 3 = .ok (.invokestatic 194, 3) := by decide +kernel
theorem dJ8_newLength_cabcc_6 : decode cJ8_newLength_cabcc 6 = .ok (.iadd, 1) := by decide +kernel
theorem dJ8_newLength_cabcc_7 : decode cJ8_newLength_cabcc 7 = .ok (.istore_n 3, 1) := by decide +kernel
theorem dJ8_newLength_cabcc_8 : decode cJ8_newLength_cabcc 8 = .ok (.iconst 0, 1) := by decide +kernel
theorem dJ8_newLength_cabcc_9 : decode cJ8_newLength_cabcc 9 = .ok (.iload_n 3, 1) := by decide +kernel
theorem dJ8_newLength_cabcc_10 : decode cJ8_newLength_cabcc 10 = .ok (.if_icmp .ge 11, 3) := by decide +kernel
theorem dJ8_newLength_cabcc_13 : decode cJ8_newLength_cabcc 13 = .ok (.iload_n 3, 1) := by decide +kernel
theorem dJ8_newLength_cabcc_14 : decode cJ8_newLength_cabcc 14 = .ok (.ldc 200, 2) := by decide +kernel
theorem dJ8_newLength_cabcc_16 : decode cJ8_newLength_cabcc 16 = .ok (.if_icmp .gt 5, 3) := by decide +kernel
theorem dJ8_newLength_cabcc_19 : decode cJ8_newLength_cabcc 19 = .ok (.iload_n 3, 1) := by decide +kernel
theorem dJ8_newLength_cabcc_20 : decode cJ8_newLength_cabcc 20 = .ok (.ireturn, 1) := by decide +kernel
theorem dJ8_newLength_cabcc_21 : decode cJ8_newLength_cabcc 21 = .ok (.iload_n 0, 1) := by decide +kernel
theorem dJ8_newLength_cabcc_22 : decode cJ8_newLength_cabcc 22 = .ok (.iload_n 1, 1) := by decide +kernel
theorem dJ8_newLength_cabcc_23 : decode cJ8_newLength_cabcc 23 = .ok (.invokestatic 201, 3) := by decide +kernel
theorem dJ8_newLength_cabcc_26 : decode cJ8_newLength_cabcc 26 = .ok (.ireturn, 1) := by decide +kernel
end
section
theorem dL_put_0 : decode cL_put 0 = .ok (.aload 4, 2) := by decide +kernel
theorem dL_put_2 : decode cL_put 2 = .ok (.aload_n 0, 1) := by decide +kernel
theorem dL_put_3 : decode cL_put 3 = .ok (.iload_n 1, 1) := by decide +kernel
theorem dL_put_4 : decode cL_put 4 = .ok (.iload_n 2, 1) := by decide +kernel
theorem dL_put_5 : decode cL_put 5 = .ok (.iload_n 3, 1) := by decide +kernel
theorem dL_put_6 : decode cL_put 6 = .ok (.invokevirtual 7, 3) := by decide +kernel
theorem dL_put_9 : decode cL_put 9 = .ok (.i2l, 1) := by decide +kernel
theorem dL_put_10 : decode cL_put 10 = .ok (.putfield 13, 3) := by decide +kernel
theorem dL_put_13 : decode cL_put 13 = .ok (.goto 11, 3) := by decide +kernel
theorem dL_put_16 : decode cL_put 16 = .ok (.astore 5, 2) := by decide +kernel
theorem dL_put_18 : decode cL_put 18 = .ok (.iconst 1, 1) := by decide +kernel
theorem dL_put_19 : decode cL_put 19 = .ok (.ireturn, 1) := by decide +kernel
theorem dL_put_20 : decode cL_put 20 = .ok (.astore 5, 2) := by decide +kernel
theorem dL_put_22 : decode cL_put 22 = .ok (.iconst 2, 1) := by decide +kernel
theorem dL_put_23 : decode cL_put 23 = .ok (.ireturn, 1) := by decide +kernel
theorem dL_put_24 : decode cL_put 24 = .ok (.iconst 0, 1) := by decide +kernel
theorem dL_put_25 : decode cL_put 25 = .ok (.ireturn, 1) := by decide +kernel
theorem dL_write_0 : decode cL_write 0 = .ok (.aload 6, 2) := by decide +kernel
theorem dL_write_2 : decode cL_write 2 = .ok (.aload_n 0, 1) := by decide +kernel
theorem dL_write_3 : decode cL_write 3 = .ok (.iload_n 1, 1) := by decide +kernel
theorem dL_write_4 : decode cL_write 4 = .ok (.iload_n 2, 1) := by decide +kernel
theorem dL_write_5 : decode cL_write 5 = .ok (.iload_n 3, 1) := by decide +kernel
theorem dL_write_6 : decode cL_write 6 = .ok (.iload 4, 2) := by decide +kernel
theorem dL_write_8 : decode cL_write 8 = .ok (.iload 5, 2) := by decide +kernel
theorem dL_write_10 : decode cL_write 10 = .ok (.invokevirtual 23, 3) := by decide +kernel
theorem dL_write_13 : decode cL_write 13 = .ok (.i2l, 1) := by decide +kernel
theorem dL_write_14 : decode cL_write 14 = .ok (.putfield 13, 3) := by decide +kernel
theorem dL_write_17 : decode cL_write 17 = .ok (.goto 11, 3) := by decide +kernel
theorem dL_write_20 : decode cL_write 20 = .ok (.astore 7, 2) := by decide +kernel
theorem dL_write_22 : decode cL_write 22 = .ok (.iconst 1, 1) := by decide +kernel
theorem dL_write_23 : decode cL_write 23 = .ok (.ireturn, 1) := by decide +kernel
theorem dL_write_24 : decode cL_write 24 = .ok (.astore 7, 2) := by decide +kernel
theorem dL_write_26 : decode cL_write 26 = .ok (.iconst 2, 1) := by decide +kernel
theorem dL_write_27 : decode cL_write 27 = .ok (.ireturn, 1) := by decide +kernel
theorem dL_write_28 : decode cL_write 28 = .ok (.iconst 0, 1) := by decide +kernel
theorem dL_write_29 : decode cL_write 29 = .ok (.ireturn, 1) := by decide +kernel
theorem dL_copy_0 : decode cL_copy 0 = .ok (.aload_n 3, 1) := by decide +kernel
theorem dL_copy_1 : decode cL_copy 1 = .ok (.aload_n 0, 1) := by decide +kernel
theorem dL_copy_2 : decode cL_copy 2 = .ok (.iload_n 1, 1) := by decide +kernel
theorem dL_copy_3 : decode cL_copy 3 = .ok (.iload_n 2, 1) := by decide +kernel
theorem dL_copy_4 : decode cL_copy 4 = .ok (.invokevirtual 27, 3) := by decide +kernel
theorem dL_copy_7 : decode cL_copy 7 = .ok (.i2l, 1) := by decide +kernel
theorem dL_copy_8 : decode cL_copy 8 = .ok (.putfield 13, 3) := by decide +kernel
theorem dL_copy_11 : decode cL_copy 11 = .ok (.goto 7, 3) := by decide +kernel
theorem dL_copy_14 : decode cL_copy 14 = .ok (.astore 4, 2) := by decide +kernel
theorem dL_copy_16 : decode cL_copy 16 = .ok (.iconst 1, 1) := by decide +kernel
theorem dL_copy_17 : decode cL_copy 17 = .ok (.ireturn, 1) := by decide +kernel
theorem dL_copy_18 : decode cL_copy 18 = .ok (.iconst 0, 1) := by decide +kernel
theorem dL_copy_19 : decode cL_copy 19 = .ok (.ireturn, 1) := by decide +kernel
theorem dL_negate_0 : decode cL_negate 0 = .ok (.aload_n 2, 1) := by decide +kernel
theorem dL_negate_1 : decode cL_negate 1 = .ok (.aload_n 0, 1) := by decide +kernel
theorem dL_negate_2 : decode cL_negate 2 = .ok (.iload_n 1, 1) := by decide +kernel
theorem dL_negate_3 : decode cL_negate 3 = .ok (.invokevirtual 31, 3) := by decide +kernel
theorem dL_negate_6 : decode cL_negate 6 = .ok (.i2l, 1) := by decide +kernel
theorem dL_negate_7 : decode cL_negate 7 = .ok (.putfield 13, 3) := by decide +kernel
theorem dL_negate_10 : decode cL_negate 10 = .ok (.goto 6, 3) := by decide +kernel
theorem dL_negate_13 : decode cL_negate 13 = .ok (.astore_n 3, 1) := by decide +kernel
theorem dL_negate_14 : decode cL_negate 14 = .ok (.iconst 1, 1) := by decide +kernel
theorem dL_negate_15 : decode cL_negate 15 = .ok (.ireturn, 1) := by decide +kernel
theorem dL_negate_16 : decode cL_negate 16 = .ok (.iconst 0, 1) := by decide +kernel
theorem dL_negate_17 : decode cL_negate 17 = .ok (.ireturn, 1) := by decide +kernel
theorem dL_size_0 : decode cL_size 0 = .ok (.aload_n 2, 1) := by decide +kernel
theorem dL_size_1 : decode cL_size 1 = .ok (.aload_n 0, 1) := by decide +kernel
theorem dL_size_2 : decode cL_size 2 = .ok (.iload_n 1, 1) := by decide +kernel
theorem dL_size_3 : decode cL_size 3 = .ok (.invokevirtual 35, 3) := by decide +kernel
theorem dL_size_6 : decode cL_size 6 = .ok (.i2l, 1) := by decide +kernel
theorem dL_size_7 : decode cL_size 7 = .ok (.putfield 13, 3) := by decide +kernel
theorem dL_size_10 : decode cL_size 10 = .ok (.goto 6, 3) := by decide +kernel
theorem dL_size_13 : decode cL_size 13 = .ok (.astore_n 3, 1) := by decide +kernel
theorem dL_size_14 : decode cL_size 14 = .ok (.iconst 1, 1) := by decide +kernel
theorem dL_size_15 : decode cL_size 15 = .ok (.ireturn, 1) := by decide +kernel
theorem dL_size_16 : decode cL_size 16 = .ok (.iconst 0, 1) := by decide +kernel
theorem dL_size_17 : decode cL_size 17 = .ok (.ireturn, 1) := by decide +kernel
theorem dL_add_0 : decode cL_add 0 = .ok (.aload 4, 2) := by decide +kernel
theorem dL_add_2 : decode cL_add 2 = .ok (.aload_n 0, 1) := by decide +kernel
theorem dL_add_3 : decode cL_add 3 = .ok (.iload_n 1, 1) := by decide +kernel
theorem dL_add_4 : decode cL_add 4 = .ok (.iload_n 2, 1) := by decide +kernel
theorem dL_add_5 : decode cL_add 5 = .ok (.iload_n 3, 1) := by decide +kernel
theorem dL_add_6 : decode cL_add 6 = .ok (.invokevirtual 38, 3) := by decide +kernel
theorem dL_add_9 : decode cL_add 9 = .ok (.i2l, 1) := by decide +kernel
theorem dL_add_10 : decode cL_add 10 = .ok (.putfield 13, 3) := by decide +kernel
theorem dL_add_13 : decode cL_add 13 = .ok (.goto 7, 3) := by decide +kernel
theorem dL_add_16 : decode cL_add 16 = .ok (.astore 5, 2) := by decide +kernel
theorem dL_add_18 : decode cL_add 18 = .ok (.iconst 1, 1) := by decide +kernel
theorem dL_add_19 : decode cL_add 19 = .ok (.ireturn, 1) := by decide +kernel
theorem dL_add_20 : decode cL_add 20 = .ok (.iconst 0, 1) := by decide +kernel
theorem dL_add_21 : decode cL_add 21 = .ok (.ireturn, 1) := by decide +kernel
theorem dL_subtract_0 : decode cL_subtract 0 = .ok (.aload 4, 2) := by decide +kernel
theorem dL_subtract_2 : decode cL_subtract 2 = .ok (.aload_n 0, 1) := by decide +kernel
theorem dL_subtract_3 : decode cL_subtract 3 = .ok (.iload_n 1, 1) := by decide +kernel
theorem dL_subtract_4 : decode cL_subtract 4 = .ok (.iload_n 2, 1) := by decide +kernel
theorem dL_subtract_5 : decode cL_subtract 5 = .ok (.iload_n 3, 1) := by decide +kernel
theorem dL_subtract_6 : decode cL_subtract 6 = .ok (.invokevirtual 41, 3) := by decide +kernel
theorem dL_subtract_9 : decode cL_subtract 9 = .ok (.i2l, 1) := by decide +kernel
theorem dL_subtract_10 : decode cL_subtract 10 = .ok (.putfield 13, 3) := by decide +kernel
theorem dL_subtract_13 : decode cL_subtract 13 = .ok (.goto 7, 3) := by decide +kernel
theorem dL_subtract_16 : decode cL_subtract 16 = .ok (.astore 5, 2) := by decide +kernel
theorem dL_subtract_18 : decode cL_subtract 18 = .ok (.iconst 1, 1) := by decide +kernel
theorem dL_subtract_19 : decode cL_subtract 19 = .ok (.ireturn, 1) := by decide +kernel
theorem dL_subtract_20 : decode cL_subtract 20 = .ok (.iconst 0, 1) := by decide +kernel
theorem dL_subtract_21 : decode cL_subtract 21 = .ok (.ireturn, 1) := by decide +kernel
theorem dL_multiply_0 : decode cL_multiply 0 = .ok (.aload 4, 2) := by decide +kernel
theorem dL_multiply_2 : decode cL_multiply 2 = .ok (.aload_n 0, 1) := by decide +kernel
theorem dL_multiply_3 : decode cL_multiply 3 = .ok (.iload_n 1, 1) := by decide +kernel
theorem dL_multiply_4 : decode cL_multiply 4 = .ok (.iload_n 2, 1) := by decide +kernel
theorem dL_multiply_5 : decode cL_multiply 5 = .ok (.iload_n 3, 1) := by decide +kernel
theorem dL_multiply_6 : decode cL_multiply 6 = .ok (.invokevirtual 44, 3) := by decide +kernel
theorem dL_multiply_9 : decode cL_multiply 9 = .ok (.i2l, 1) := by decide +kernel
theorem dL_multiply_10 : decode cL_multiply 10 = .ok (.putfield 13, 3) := by decide +kernel
theorem dL_multiply_13 : decode cL_multiply 13 = .ok (.goto 7, 3) := by decide +kernel
theorem dL_multiply_16 : decode cL_multiply 16 = .ok (.astore 5, 2) := by decide +kernel
theorem dL_multiply_18 : decode cL_multiply 18 = .ok (.iconst 1, 1) := by decide +kernel
theorem dL_multiply_19 : decode cL_multiply 19 = .ok (.ireturn, 1) := by decide +kernel
theorem dL_multiply_20 : decode cL_multiply 20 = .ok (.iconst 0, 1) := by decide +kernel
theorem dL_multiply_21 : decode cL_multiply 21 = .ok (.ireturn, 1) := by decide +kernel
theorem dL_power_0 : decode cL_power 0 = .ok (.aload 4, 2) := by decide +kernel
theorem dL_power_2 : decode cL_power 2 = .ok (.aload_n 0, 1) := by decide +kernel
theorem dL_power_3 : decode cL_power 3 = .ok (.iload_n 1, 1) := by decide +kernel
theorem dL_power_4 : decode cL_power 4 = .ok (.iload_n 2, 1) := by decide +kernel
theorem dL_power_5 : decode cL_power 5 = .ok (.iload_n 3, 1) := by decide +kernel
theorem dL_power_6 : decode cL_power 6 = .ok (.invokevirtual 47, 3) := by decide +kernel
theorem dL_power_9 : decode cL_power 9 = .ok (.i2l, 1) := by decide +kernel
theorem dL_power_10 : decode cL_power 10 = .ok (.putfield 13, 3) := by decide +kernel
theorem dL_power_13 : decode cL_power 13 = .ok (.goto 11, 3) := by decide +kernel
theorem dL_power_16 : decode cL_power 16 = .ok (.astore 5, 2) := by decide +kernel
theorem dL_power_18 : decode cL_power 18 = .ok (.iconst 1, 1) := by decide +kernel
theorem dL_power_19 : decode cL_power 19 = .ok (.ireturn, 1) := by decide +kernel
theorem dL_power_20 : decode cL_power 20 = .ok (.astore 5, 2) := by decide +kernel
theorem dL_power_22 : decode cL_power 22 = .ok (.iconst 2, 1) := by decide +kernel
theorem dL_power_23 : decode cL_power 23 = .ok (.ireturn, 1) := by decide +kernel
theorem dL_power_24 : decode cL_power 24 = .ok (.iconst 0, 1) := by decide +kernel
theorem dL_power_25 : decode cL_power 25 = .ok (.ireturn, 1) := by decide +kernel
theorem dL_divide_0 : decode cL_divide 0 = .ok (.aload 6, 2) := by decide +kernel
theorem dL_divide_2 : decode cL_divide 2 = .ok (.aload_n 0, 1) := by decide +kernel
theorem dL_divide_3 : decode cL_divide 3 = .ok (.iload_n 1, 1) := by decide +kernel
theorem dL_divide_4 : decode cL_divide 4 = .ok (.iload_n 2, 1) := by decide +kernel
theorem dL_divide_5 : decode cL_divide 5 = .ok (.iload_n 3, 1) := by decide +kernel
theorem dL_divide_6 : decode cL_divide 6 = .ok (.iload 4, 2) := by decide +kernel
theorem dL_divide_8 : decode cL_divide 8 = .ok (.iload 5, 2) := by decide +kernel
theorem dL_divide_10 : decode cL_divide 10 = .ok (.invokevirtual 50, 3) := by decide +kernel
theorem dL_divide_13 : decode cL_divide 13 = .ok (.i2l, 1) := by decide +kernel
theorem dL_divide_14 : decode cL_divide 14 = .ok (.putfield 13, 3) := by decide +kernel
theorem dL_divide_17 : decode cL_divide 17 = .ok (.goto 11, 3) := by decide +kernel
theorem dL_divide_20 : decode cL_divide 20 = .ok (.astore 7, 2) := by decide +kernel
theorem dL_divide_22 : decode cL_divide 22 = .ok (.iconst 1, 1) := by decide +kernel
theorem dL_divide_23 : decode cL_divide 23 = .ok (.ireturn, 1) := by decide +kernel
theorem dL_divide_24 : decode cL_divide 24 = .ok (.astore 7, 2) := by decide +kernel
theorem dL_divide_26 : decode cL_divide 26 = .ok (.iconst 2, 1) := by decide +kernel
theorem dL_divide_27 : decode cL_divide 27 = .ok (.ireturn, 1) := by decide +kernel
theorem dL_divide_28 : decode cL_divide 28 = .ok (.iconst 0, 1) := by decide +kernel
theorem dL_divide_29 : decode cL_divide 29 = .ok (.ireturn, 1) := by decide +kernel
theorem dL_share_0 : decode cL_share 0 = .ok (.aload 4, 2) := by decide +kernel
theorem dL_share_2 : decode cL_share 2 = .ok (.aload_n 0, 1) := by decide +kernel
theorem dL_share_3 : decode cL_share 3 = .ok (.iload_n 1, 1) := by decide +kernel
theorem dL_share_4 : decode cL_share 4 = .ok (.iload_n 2, 1) := by decide +kernel
theorem dL_share_5 : decode cL_share 5 = .ok (.iload_n 3, 1) := by decide +kernel
theorem dL_share_6 : decode cL_share 6 = .ok (.invokevirtual 54, 3) := by decide +kernel
theorem dL_share_9 : decode cL_share 9 = .ok (.i2l, 1) := by decide +kernel
theorem dL_share_10 : decode cL_share 10 = .ok (.putfield 13, 3) := by decide +kernel
theorem dL_share_13 : decode cL_share 13 = .ok (.goto 11, 3) := by decide +kernel
theorem dL_share_16 : decode cL_share 16 = .ok (.astore 5, 2) := by decide +kernel
theorem dL_share_18 : decode cL_share 18 = .ok (.iconst 1, 1) := by decide +kernel
theorem dL_share_19 : decode cL_share 19 = .ok (.ireturn, 1) := by decide +kernel
theorem dL_share_20 : decode cL_share 20 = .ok (.astore 5, 2) := by decide +kernel
theorem dL_share_22 : decode cL_share 22 = .ok (.iconst 2, 1) := by decide +kernel
theorem dL_share_23 : decode cL_share 23 = .ok (.ireturn, 1) := by decide +kernel
theorem dL_share_24 : decode cL_share 24 = .ok (.iconst 0, 1) := by decide +kernel
theorem dL_share_25 : decode cL_share 25 = .ok (.ireturn, 1) := by decide +kernel
theorem dL_whole_0 : decode cL_whole 0 = .ok (.aload 4, 2) := by decide +kernel
theorem dL_whole_2 : decode cL_whole 2 = .ok (.aload_n 0, 1) := by decide +kernel
theorem dL_whole_3 : decode cL_whole 3 = .ok (.iload_n 1, 1) := by decide +kernel
theorem dL_whole_4 : decode cL_whole 4 = .ok (.iload_n 2, 1) := by decide +kernel
theorem dL_whole_5 : decode cL_whole 5 = .ok (.iload_n 3, 1) := by decide +kernel
theorem dL_whole_6 : decode cL_whole 6 = .ok (.invokevirtual 57, 3) := by decide +kernel
theorem dL_whole_9 : decode cL_whole 9 = .ok (.i2l, 1) := by decide +kernel
theorem dL_whole_10 : decode cL_whole 10 = .ok (.putfield 13, 3) := by decide +kernel
theorem dL_whole_13 : decode cL_whole 13 = .ok (.goto 11, 3) := by decide +kernel
theorem dL_whole_16 : decode cL_whole 16 = .ok (.astore 5, 2) := by decide +kernel
theorem dL_whole_18 : decode cL_whole 18 = .ok (.iconst 1, 1) := by decide +kernel
theorem dL_whole_19 : decode cL_whole 19 = .ok (.ireturn, 1) := by decide +kernel
theorem dL_whole_20 : decode cL_whole 20 = .ok (.astore 5, 2) := by decide +kernel
theorem dL_whole_22 : decode cL_whole 22 = .ok (.iconst 2, 1) := by decide +kernel
theorem dL_whole_23 : decode cL_whole 23 = .ok (.ireturn, 1) := by decide +kernel
theorem dL_whole_24 : decode cL_whole 24 = .ok (.iconst 0, 1) := by decide +kernel
theorem dL_whole_25 : decode cL_whole 25 = .ok (.ireturn, 1) := by decide +kernel
theorem dL_rest_0 : decode cL_rest 0 = .ok (.aload 4, 2) := by decide +kernel
theorem dL_rest_2 : decode cL_rest 2 = .ok (.aload_n 0, 1) := by decide +kernel
theorem dL_rest_3 : decode cL_rest 3 = .ok (.iload_n 1, 1) := by decide +kernel
theorem dL_rest_4 : decode cL_rest 4 = .ok (.iload_n 2, 1) := by decide +kernel
theorem dL_rest_5 : decode cL_rest 5 = .ok (.iload_n 3, 1) := by decide +kernel
theorem dL_rest_6 : decode cL_rest 6 = .ok (.invokevirtual 60, 3) := by decide +kernel
theorem dL_rest_9 : decode cL_rest 9 = .ok (.i2l, 1) := by decide +kernel
theorem dL_rest_10 : decode cL_rest 10 = .ok (.putfield 13, 3) := by decide +kernel
theorem dL_rest_13 : decode cL_rest 13 = .ok (.goto 11, 3) := by decide +kernel
theorem dL_rest_16 : decode cL_rest 16 = .ok (.astore 5, 2) := by decide +kernel
theorem dL_rest_18 : decode cL_rest 18 = .ok (.iconst 1, 1) := by decide +kernel
theorem dL_rest_19 : decode cL_rest 19 = .ok (.ireturn, 1) := by decide +kernel
theorem dL_rest_20 : decode cL_rest 20 = .ok (.astore 5, 2) := by decide +kernel
theorem dL_rest_22 : decode cL_rest 22 = .ok (.iconst 2, 1) := by decide +kernel
theorem dL_rest_23 : decode cL_rest 23 = .ok (.ireturn, 1) := by decide +kernel
theorem dL_rest_24 : decode cL_rest 24 = .ok (.iconst 0, 1) := by decide +kernel
theorem dL_rest_25 : decode cL_rest 25 = .ok (.ireturn, 1) := by decide +kernel
theorem dL_setPlaces_0 : decode cL_setPlaces 0 = .ok (.aload 4, 2) := by decide +kernel
theorem dL_setPlaces_2 : decode cL_setPlaces 2 = .ok (.aload_n 0, 1) := by decide +kernel
theorem dL_setPlaces_3 : decode cL_setPlaces 3 = .ok (.iload_n 1, 1) := by decide +kernel
theorem dL_setPlaces_4 : decode cL_setPlaces 4 = .ok (.iload_n 2, 1) := by decide +kernel
theorem dL_setPlaces_5 : decode cL_setPlaces 5 = .ok (.iload_n 3, 1) := by decide +kernel
theorem dL_setPlaces_6 : decode cL_setPlaces 6 = .ok (.invokevirtual 63, 3) := by decide +kernel
theorem dL_setPlaces_9 : decode cL_setPlaces 9 = .ok (.i2l, 1) := by decide +kernel
theorem dL_setPlaces_10 : decode cL_setPlaces 10 = .ok (.putfield 13, 3) := by decide +kernel
theorem dL_setPlaces_13 : decode cL_setPlaces 13 = .ok (.goto 11, 3) := by decide +kernel
theorem dL_setPlaces_16 : decode cL_setPlaces 16 = .ok (.astore 5, 2) := by decide +kernel
theorem dL_setPlaces_18 : decode cL_setPlaces 18 = .ok (.iconst 1, 1) := by decide +kernel
theorem dL_setPlaces_19 : decode cL_setPlaces 19 = .ok (.ireturn, 1) := by decide +kernel
theorem dL_setPlaces_20 : decode cL_setPlaces 20 = .ok (.astore 5, 2) := by decide +kernel
theorem dL_setPlaces_22 : decode cL_setPlaces 22 = .ok (.iconst 2, 1) := by decide +kernel
theorem dL_setPlaces_23 : decode cL_setPlaces 23 = .ok (.ireturn, 1) := by decide +kernel
theorem dL_setPlaces_24 : decode cL_setPlaces 24 = .ok (.iconst 0, 1) := by decide +kernel
theorem dL_setPlaces_25 : decode cL_setPlaces 25 = .ok (.ireturn, 1) := by decide +kernel
theorem dL_strip_0 : decode cL_strip 0 = .ok (.aload_n 2, 1) := by decide +kernel
theorem dL_strip_1 : decode cL_strip 1 = .ok (.aload_n 0, 1) := by decide +kernel
theorem dL_strip_2 : decode cL_strip 2 = .ok (.iload_n 1, 1) := by decide +kernel
theorem dL_strip_3 : decode cL_strip 3 = .ok (.invokevirtual 66, 3) := by decide +kernel
theorem dL_strip_6 : decode cL_strip 6 = .ok (.i2l, 1) := by decide +kernel
theorem dL_strip_7 : decode cL_strip 7 = .ok (.putfield 13, 3) := by decide +kernel
theorem dL_strip_10 : decode cL_strip 10 = .ok (.goto 6, 3) := by decide +kernel
theorem dL_strip_13 : decode cL_strip 13 = .ok (.astore_n 3, 1) := by decide +kernel
theorem dL_strip_14 : decode cL_strip 14 = .ok (.iconst 1, 1) := by decide +kernel
theorem dL_strip_15 : decode cL_strip 15 = .ok (.ireturn, 1) := by decide +kernel
theorem dL_strip_16 : decode cL_strip 16 = .ok (.iconst 0, 1) := by decide +kernel
theorem dL_strip_17 : decode cL_strip 17 = .ok (.ireturn, 1) := by decide +kernel
theorem dL_move_0 : decode cL_move 0 = .ok (.aload_n 3, 1) := by decide +kernel
theorem dL_move_1 : decode cL_move 1 = .ok (.aload_n 0, 1) := by decide +kernel
theorem dL_move_2 : decode cL_move 2 = .ok (.iload_n 1, 1) := by decide +kernel
theorem dL_move_3 : decode cL_move 3 = .ok (.iload_n 2, 1) := by decide +kernel
theorem dL_move_4 : decode cL_move 4 = .ok (.invokevirtual 69, 3) := by decide +kernel
theorem dL_move_7 : decode cL_move 7 = .ok (.i2l, 1) := by decide +kernel
theorem dL_move_8 : decode cL_move 8 = .ok (.putfield 13, 3) := by decide +kernel
theorem dL_move_11 : decode cL_move 11 = .ok (.goto 11, 3) := by decide +kernel
theorem dL_move_14 : decode cL_move 14 = .ok (.astore 4, 2) := by decide +kernel
theorem dL_move_16 : decode cL_move 16 = .ok (.iconst 1, 1) := by decide +kernel
theorem dL_move_17 : decode cL_move 17 = .ok (.ireturn, 1) := by decide +kernel
theorem dL_move_18 : decode cL_move 18 = .ok (.astore 4, 2) := by decide +kernel
theorem dL_move_20 : decode cL_move 20 = .ok (.iconst 2, 1) := by decide +kernel
theorem dL_move_21 : decode cL_move 21 = .ok (.ireturn, 1) := by decide +kernel
theorem dL_move_22 : decode cL_move 22 = .ok (.iconst 0, 1) := by decide +kernel
theorem dL_move_23 : decode cL_move 23 = .ok (.ireturn, 1) := by decide +kernel
theorem dL_round_0 : decode cL_round 0 = .ok (.aload 4, 2) := by decide +kernel
theorem dL_round_2 : decode cL_round 2 = .ok (.aload_n 0, 1) := by decide +kernel
theorem dL_round_3 : decode cL_round 3 = .ok (.iload_n 1, 1) := by decide +kernel
theorem dL_round_4 : decode cL_round 4 = .ok (.iload_n 2, 1) := by decide +kernel
theorem dL_round_5 : decode cL_round 5 = .ok (.iload_n 3, 1) := by decide +kernel
theorem dL_round_6 : decode cL_round 6 = .ok (.invokevirtual 72, 3) := by decide +kernel
theorem dL_round_9 : decode cL_round 9 = .ok (.i2l, 1) := by decide +kernel
theorem dL_round_10 : decode cL_round 10 = .ok (.putfield 13, 3) := by decide +kernel
theorem dL_round_13 : decode cL_round 13 = .ok (.goto 11, 3) := by decide +kernel
theorem dL_round_16 : decode cL_round 16 = .ok (.astore 5, 2) := by decide +kernel
theorem dL_round_18 : decode cL_round 18 = .ok (.iconst 1, 1) := by decide +kernel
theorem dL_round_19 : decode cL_round 19 = .ok (.ireturn, 1) := by decide +kernel
theorem dL_round_20 : decode cL_round 20 = .ok (.astore 5, 2) := by decide +kernel
theorem dL_round_22 : decode cL_round 22 = .ok (.iconst 2, 1) := by decide +kernel
theorem dL_round_23 : decode cL_round 23 = .ok (.ireturn, 1) := by decide +kernel
theorem dL_round_24 : decode cL_round 24 = .ok (.iconst 0, 1) := by decide +kernel
theorem dL_round_25 : decode cL_round 25 = .ok (.ireturn, 1) := by decide +kernel
theorem dL_greater_0 : decode cL_greater 0 = .ok (.aload 4, 2) := by decide +kernel
theorem dL_greater_2 : decode cL_greater 2 = .ok (.aload_n 0, 1) := by decide +kernel
theorem dL_greater_3 : decode cL_greater 3 = .ok (.iload_n 1, 1) := by decide +kernel
theorem dL_greater_4 : decode cL_greater 4 = .ok (.iload_n 2, 1) := by decide +kernel
theorem dL_greater_5 : decode cL_greater 5 = .ok (.iload_n 3, 1) := by decide +kernel
theorem dL_greater_6 : decode cL_greater 6 = .ok (.invokevirtual 75, 3) := by decide +kernel
theorem dL_greater_9 : decode cL_greater 9 = .ok (.i2l, 1) := by decide +kernel
theorem dL_greater_10 : decode cL_greater 10 = .ok (.putfield 13, 3) := by decide +kernel
theorem dL_greater_13 : decode cL_greater 13 = .ok (.goto 7, 3) := by decide +kernel
theorem dL_greater_16 : decode cL_greater 16 = .ok (.astore 5, 2) := by decide +kernel
theorem dL_greater_18 : decode cL_greater 18 = .ok (.iconst 1, 1) := by decide +kernel
theorem dL_greater_19 : decode cL_greater 19 = .ok (.ireturn, 1) := by decide +kernel
theorem dL_greater_20 : decode cL_greater 20 = .ok (.iconst 0, 1) := by decide +kernel
theorem dL_greater_21 : decode cL_greater 21 = .ok (.ireturn, 1) := by decide +kernel
theorem dL_lesser_0 : decode cL_lesser 0 = .ok (.aload 4, 2) := by decide +kernel
theorem dL_lesser_2 : decode cL_lesser 2 = .ok (.aload_n 0, 1) := by decide +kernel
theorem dL_lesser_3 : decode cL_lesser 3 = .ok (.iload_n 1, 1) := by decide +kernel
theorem dL_lesser_4 : decode cL_lesser 4 = .ok (.iload_n 2, 1) := by decide +kernel
theorem dL_lesser_5 : decode cL_lesser 5 = .ok (.iload_n 3, 1) := by decide +kernel
theorem dL_lesser_6 : decode cL_lesser 6 = .ok (.invokevirtual 78, 3) := by decide +kernel
theorem dL_lesser_9 : decode cL_lesser 9 = .ok (.i2l, 1) := by decide +kernel
theorem dL_lesser_10 : decode cL_lesser 10 = .ok (.putfield 13, 3) := by decide +kernel
theorem dL_lesser_13 : decode cL_lesser 13 = .ok (.goto 7, 3) := by decide +kernel
theorem dL_lesser_16 : decode cL_lesser 16 = .ok (.astore 5, 2) := by decide +kernel
theorem dL_lesser_18 : decode cL_lesser 18 = .ok (.iconst 1, 1) := by decide +kernel
theorem dL_lesser_19 : decode cL_lesser 19 = .ok (.ireturn, 1) := by decide +kernel
theorem dL_lesser_20 : decode cL_lesser 20 = .ok (.iconst 0, 1) := by decide +kernel
theorem dL_lesser_21 : decode cL_lesser 21 = .ok (.ireturn, 1) := by decide +kernel
theorem dL_cut_0 : decode cL_cut 0 = .ok (.aload 6, 2) := by decide +kernel
theorem dL_cut_2 : decode cL_cut 2 = .ok (.aload_n 0, 1) := by decide +kernel
theorem dL_cut_3 : decode cL_cut 3 = .ok (.iload_n 1, 1) := by decide +kernel
theorem dL_cut_4 : decode cL_cut 4 = .ok (.iload_n 2, 1) := by decide +kernel
theorem dL_cut_5 : decode cL_cut 5 = .ok (.iload_n 3, 1) := by decide +kernel
theorem dL_cut_6 : decode cL_cut 6 = .ok (.iload 4, 2) := by decide +kernel
theorem dL_cut_8 : decode cL_cut 8 = .ok (.iload 5, 2) := by decide +kernel
theorem dL_cut_10 : decode cL_cut 10 = .ok (.invokevirtual 81, 3) := by decide +kernel
theorem dL_cut_13 : decode cL_cut 13 = .ok (.i2l, 1) := by decide +kernel
theorem dL_cut_14 : decode cL_cut 14 = .ok (.putfield 13, 3) := by decide +kernel
theorem dL_cut_17 : decode cL_cut 17 = .ok (.goto 11, 3) := by decide +kernel
theorem dL_cut_20 : decode cL_cut 20 = .ok (.astore 7, 2) := by decide +kernel
theorem dL_cut_22 : decode cL_cut 22 = .ok (.iconst 1, 1) := by decide +kernel
theorem dL_cut_23 : decode cL_cut 23 = .ok (.ireturn, 1) := by decide +kernel
theorem dL_cut_24 : decode cL_cut 24 = .ok (.astore 7, 2) := by decide +kernel
theorem dL_cut_26 : decode cL_cut 26 = .ok (.iconst 2, 1) := by decide +kernel
theorem dL_cut_27 : decode cL_cut 27 = .ok (.ireturn, 1) := by decide +kernel
theorem dL_cut_28 : decode cL_cut 28 = .ok (.iconst 0, 1) := by decide +kernel
theorem dL_cut_29 : decode cL_cut 29 = .ok (.ireturn, 1) := by decide +kernel
theorem dL_count_0 : decode cL_count 0 = .ok (.aload_n 2, 1) := by decide +kernel
theorem dL_count_1 : decode cL_count 1 = .ok (.aload_n 0, 1) := by decide +kernel
theorem dL_count_2 : decode cL_count 2 = .ok (.iload_n 1, 1) := by decide +kernel
theorem dL_count_3 : decode cL_count 3 = .ok (.invokevirtual 84, 3) := by decide +kernel
theorem dL_count_6 : decode cL_count 6 = .ok (.i2l, 1) := by decide +kernel
theorem dL_count_7 : decode cL_count 7 = .ok (.putfield 13, 3) := by decide +kernel
theorem dL_count_10 : decode cL_count 10 = .ok (.goto 6, 3) := by decide +kernel
theorem dL_count_13 : decode cL_count 13 = .ok (.astore_n 3, 1) := by decide +kernel
theorem dL_count_14 : decode cL_count 14 = .ok (.iconst 1, 1) := by decide +kernel
theorem dL_count_15 : decode cL_count 15 = .ok (.ireturn, 1) := by decide +kernel
theorem dL_count_16 : decode cL_count 16 = .ok (.iconst 0, 1) := by decide +kernel
theorem dL_count_17 : decode cL_count 17 = .ok (.ireturn, 1) := by decide +kernel
theorem dL_places_0 : decode cL_places 0 = .ok (.aload_n 2, 1) := by decide +kernel
theorem dL_places_1 : decode cL_places 1 = .ok (.aload_n 0, 1) := by decide +kernel
theorem dL_places_2 : decode cL_places 2 = .ok (.iload_n 1, 1) := by decide +kernel
theorem dL_places_3 : decode cL_places 3 = .ok (.invokevirtual 87, 3) := by decide +kernel
theorem dL_places_6 : decode cL_places 6 = .ok (.i2l, 1) := by decide +kernel
theorem dL_places_7 : decode cL_places 7 = .ok (.putfield 13, 3) := by decide +kernel
theorem dL_places_10 : decode cL_places 10 = .ok (.goto 6, 3) := by decide +kernel
theorem dL_places_13 : decode cL_places 13 = .ok (.astore_n 3, 1) := by decide +kernel
theorem dL_places_14 : decode cL_places 14 = .ok (.iconst 1, 1) := by decide +kernel
theorem dL_places_15 : decode cL_places 15 = .ok (.ireturn, 1) := by decide +kernel
theorem dL_places_16 : decode cL_places 16 = .ok (.iconst 0, 1) := by decide +kernel
theorem dL_places_17 : decode cL_places 17 = .ok (.ireturn, 1) := by decide +kernel
theorem dL_digits_0 : decode cL_digits 0 = .ok (.aload_n 2, 1) := by decide +kernel
theorem dL_digits_1 : decode cL_digits 1 = .ok (.aload_n 0, 1) := by decide +kernel
theorem dL_digits_2 : decode cL_digits 2 = .ok (.iload_n 1, 1) := by decide +kernel
theorem dL_digits_3 : decode cL_digits 3 = .ok (.invokevirtual 90, 3) := by decide +kernel
theorem dL_digits_6 : decode cL_digits 6 = .ok (.i2l, 1) := by decide +kernel
theorem dL_digits_7 : decode cL_digits 7 = .ok (.putfield 13, 3) := by decide +kernel
theorem dL_digits_10 : decode cL_digits 10 = .ok (.goto 6, 3) := by decide +kernel
theorem dL_digits_13 : decode cL_digits 13 = .ok (.astore_n 3, 1) := by decide +kernel
theorem dL_digits_14 : decode cL_digits 14 = .ok (.iconst 1, 1) := by decide +kernel
theorem dL_digits_15 : decode cL_digits 15 = .ok (.ireturn, 1) := by decide +kernel
theorem dL_digits_16 : decode cL_digits 16 = .ok (.iconst 0, 1) := by decide +kernel
theorem dL_digits_17 : decode cL_digits 17 = .ok (.ireturn, 1) := by decide +kernel
theorem dL_sign_0 : decode cL_sign 0 = .ok (.aload_n 2, 1) := by decide +kernel
theorem dL_sign_1 : decode cL_sign 1 = .ok (.aload_n 0, 1) := by decide +kernel
theorem dL_sign_2 : decode cL_sign 2 = .ok (.iload_n 1, 1) := by decide +kernel
theorem dL_sign_3 : decode cL_sign 3 = .ok (.invokevirtual 93, 3) := by decide +kernel
theorem dL_sign_6 : decode cL_sign 6 = .ok (.i2l, 1) := by decide +kernel
theorem dL_sign_7 : decode cL_sign 7 = .ok (.putfield 13, 3) := by decide +kernel
theorem dL_sign_10 : decode cL_sign 10 = .ok (.goto 6, 3) := by decide +kernel
theorem dL_sign_13 : decode cL_sign 13 = .ok (.astore_n 3, 1) := by decide +kernel
theorem dL_sign_14 : decode cL_sign 14 = .ok (.iconst 1, 1) := by decide +kernel
theorem dL_sign_15 : decode cL_sign 15 = .ok (.ireturn, 1) := by decide +kernel
theorem dL_sign_16 : decode cL_sign 16 = .ok (.iconst 0, 1) := by decide +kernel
theorem dL_sign_17 : decode cL_sign 17 = .ok (.ireturn, 1) := by decide +kernel
theorem dL_text_0 : decode cL_text 0 = .ok (.aload_n 3, 1) := by decide +kernel
theorem dL_text_1 : decode cL_text 1 = .ok (.aload_n 0, 1) := by decide +kernel
theorem dL_text_2 : decode cL_text 2 = .ok (.iload_n 1, 1) := by decide +kernel
theorem dL_text_3 : decode cL_text 3 = .ok (.iload_n 2, 1) := by decide +kernel
theorem dL_text_4 : decode cL_text 4 = .ok (.invokevirtual 96, 3) := by decide +kernel
theorem dL_text_7 : decode cL_text 7 = .ok (.putfield 100, 3) := by decide +kernel
theorem dL_text_10 : decode cL_text 10 = .ok (.goto 11, 3) := by decide +kernel
theorem dL_text_13 : decode cL_text 13 = .ok (.astore 4, 2) := by decide +kernel
theorem dL_text_15 : decode cL_text 15 = .ok (.iconst 1, 1) := by decide +kernel
theorem dL_text_16 : decode cL_text 16 = .ok (.ireturn, 1) := by decide +kernel
theorem dL_text_17 : decode cL_text 17 = .ok (.astore 4, 2) := by decide +kernel
theorem dL_text_19 : decode cL_text 19 = .ok (.iconst 2, 1) := by decide +kernel
theorem dL_text_20 : decode cL_text 20 = .ok (.ireturn, 1) := by decide +kernel
theorem dL_text_21 : decode cL_text 21 = .ok (.iconst 0, 1) := by decide +kernel
theorem dL_text_22 : decode cL_text 22 = .ok (.ireturn, 1) := by decide +kernel
theorem dL_order_0 : decode cL_order 0 = .ok (.aload_n 3, 1) := by decide +kernel
theorem dL_order_1 : decode cL_order 1 = .ok (.aload_n 0, 1) := by decide +kernel
theorem dL_order_2 : decode cL_order 2 = .ok (.iload_n 1, 1) := by decide +kernel
theorem dL_order_3 : decode cL_order 3 = .ok (.iload_n 2, 1) := by decide +kernel
theorem dL_order_4 : decode cL_order 4 = .ok (.invokevirtual 104, 3) := by decide +kernel
theorem dL_order_7 : decode cL_order 7 = .ok (.i2l, 1) := by decide +kernel
theorem dL_order_8 : decode cL_order 8 = .ok (.putfield 13, 3) := by decide +kernel
theorem dL_order_11 : decode cL_order 11 = .ok (.goto 7, 3) := by decide +kernel
theorem dL_order_14 : decode cL_order 14 = .ok (.astore 4, 2) := by decide +kernel
theorem dL_order_16 : decode cL_order 16 = .ok (.iconst 1, 1) := by decide +kernel
theorem dL_order_17 : decode cL_order 17 = .ok (.ireturn, 1) := by decide +kernel
theorem dL_order_18 : decode cL_order 18 = .ok (.iconst 0, 1) := by decide +kernel
theorem dL_order_19 : decode cL_order 19 = .ok (.ireturn, 1) := by decide +kernel
theorem dL_same_0 : decode cL_same 0 = .ok (.aload_n 3, 1) := by decide +kernel
theorem dL_same_1 : decode cL_same 1 = .ok (.aload_n 0, 1) := by decide +kernel
theorem dL_same_2 : decode cL_same 2 = .ok (.iload_n 1, 1) := by decide +kernel
theorem dL_same_3 : decode cL_same 3 = .ok (.iload_n 2, 1) := by decide +kernel
theorem dL_same_4 : decode cL_same 4 = .ok (.invokevirtual 107, 3) := by decide +kernel
theorem dL_same_7 : decode cL_same 7 = .ok (.ifCond .eq 7, 3) := by decide +kernel
theorem dL_same_10 : decode cL_same 10 = .ok (.lconst 1, 1) := by decide +kernel
theorem dL_same_11 : decode cL_same 11 = .ok (.goto 4, 3) := by decide +kernel
theorem dL_same_14 : decode cL_same 14 = .ok (.lconst 0, 1) := by decide +kernel
theorem dL_same_15 : decode cL_same 15 = .ok (.putfield 13, 3) := by decide +kernel
theorem dL_same_18 : decode cL_same 18 = .ok (.goto 7, 3) := by decide +kernel
theorem dL_same_21 : decode cL_same 21 = .ok (.astore 4, 2) := by decide +kernel
theorem dL_same_23 : decode cL_same 23 = .ok (.iconst 1, 1) := by decide +kernel
theorem dL_same_24 : decode cL_same 24 = .ok (.ireturn, 1) := by decide +kernel
theorem dL_same_25 : decode cL_same 25 = .ok (.iconst 0, 1) := by decide +kernel
theorem dL_same_26 : decode cL_same 26 = .ok (.ireturn, 1) := by decide +kernel
theorem dL_setWheel_0 : decode cL_setWheel 0 = .ok (.aload 4, 2) := by decide +kernel
theorem dL_setWheel_2 : decode cL_setWheel 2 = .ok (.aload_n 0, 1) := by decide +kernel
theorem dL_setWheel_3 : decode cL_setWheel 3 = .ok (.iload_n 1, 1) := by decide +kernel
theorem dL_setWheel_4 : decode cL_setWheel 4 = .ok (.iload_n 2, 1) := by decide +kernel
theorem dL_setWheel_5 : decode cL_setWheel 5 = .ok (.iload_n 3, 1) := by decide +kernel
theorem dL_setWheel_6 : decode cL_setWheel 6 = .ok (.invokevirtual 111, 3) := by decide +kernel
theorem dL_setWheel_9 : decode cL_setWheel 9 = .ok (.i2l, 1) := by decide +kernel
theorem dL_setWheel_10 : decode cL_setWheel 10 = .ok (.putfield 13, 3) := by decide +kernel
theorem dL_setWheel_13 : decode cL_setWheel 13 = .ok (.goto 11, 3) := by decide +kernel
theorem dL_setWheel_16 : decode cL_setWheel 16 = .ok (.astore 5, 2) := by decide +kernel
theorem dL_setWheel_18 : decode cL_setWheel 18 = .ok (.iconst 1, 1) := by decide +kernel
theorem dL_setWheel_19 : decode cL_setWheel 19 = .ok (.ireturn, 1) := by decide +kernel
theorem dL_setWheel_20 : decode cL_setWheel 20 = .ok (.astore 5, 2) := by decide +kernel
theorem dL_setWheel_22 : decode cL_setWheel 22 = .ok (.iconst 2, 1) := by decide +kernel
theorem dL_setWheel_23 : decode cL_setWheel 23 = .ok (.ireturn, 1) := by decide +kernel
theorem dL_setWheel_24 : decode cL_setWheel 24 = .ok (.iconst 0, 1) := by decide +kernel
theorem dL_setWheel_25 : decode cL_setWheel 25 = .ok (.ireturn, 1) := by decide +kernel
theorem dL_step_0 : decode cL_step 0 = .ok (.aload_n 2, 1) := by decide +kernel
theorem dL_step_1 : decode cL_step 1 = .ok (.aload_n 0, 1) := by decide +kernel
theorem dL_step_2 : decode cL_step 2 = .ok (.iload_n 1, 1) := by decide +kernel
theorem dL_step_3 : decode cL_step 3 = .ok (.invokevirtual 114, 3) := by decide +kernel
theorem dL_step_6 : decode cL_step 6 = .ok (.i2l, 1) := by decide +kernel
theorem dL_step_7 : decode cL_step 7 = .ok (.putfield 13, 3) := by decide +kernel
theorem dL_step_10 : decode cL_step 10 = .ok (.goto 6, 3) := by decide +kernel
theorem dL_step_13 : decode cL_step 13 = .ok (.astore_n 3, 1) := by decide +kernel
theorem dL_step_14 : decode cL_step 14 = .ok (.iconst 1, 1) := by decide +kernel
theorem dL_step_15 : decode cL_step 15 = .ok (.ireturn, 1) := by decide +kernel
theorem dL_step_16 : decode cL_step 16 = .ok (.iconst 0, 1) := by decide +kernel
theorem dL_step_17 : decode cL_step 17 = .ok (.ireturn, 1) := by decide +kernel
theorem dL_turn_0 : decode cL_turn 0 = .ok (.aload_n 3, 1) := by decide +kernel
theorem dL_turn_1 : decode cL_turn 1 = .ok (.aload_n 0, 1) := by decide +kernel
theorem dL_turn_2 : decode cL_turn 2 = .ok (.iload_n 1, 1) := by decide +kernel
theorem dL_turn_3 : decode cL_turn 3 = .ok (.iload_n 2, 1) := by decide +kernel
theorem dL_turn_4 : decode cL_turn 4 = .ok (.invokevirtual 117, 3) := by decide +kernel
theorem dL_turn_7 : decode cL_turn 7 = .ok (.i2l, 1) := by decide +kernel
theorem dL_turn_8 : decode cL_turn 8 = .ok (.putfield 13, 3) := by decide +kernel
theorem dL_turn_11 : decode cL_turn 11 = .ok (.goto 11, 3) := by decide +kernel
theorem dL_turn_14 : decode cL_turn 14 = .ok (.astore 4, 2) := by decide +kernel
theorem dL_turn_16 : decode cL_turn 16 = .ok (.iconst 1, 1) := by decide +kernel
theorem dL_turn_17 : decode cL_turn 17 = .ok (.ireturn, 1) := by decide +kernel
theorem dL_turn_18 : decode cL_turn 18 = .ok (.astore 4, 2) := by decide +kernel
theorem dL_turn_20 : decode cL_turn 20 = .ok (.iconst 2, 1) := by decide +kernel
theorem dL_turn_21 : decode cL_turn 21 = .ok (.ireturn, 1) := by decide +kernel
theorem dL_turn_22 : decode cL_turn 22 = .ok (.iconst 0, 1) := by decide +kernel
theorem dL_turn_23 : decode cL_turn 23 = .ok (.ireturn, 1) := by decide +kernel
theorem dL_times_0 : decode cL_times 0 = .ok (.aload 4, 2) := by decide +kernel
theorem dL_times_2 : decode cL_times 2 = .ok (.aload_n 0, 1) := by decide +kernel
theorem dL_times_3 : decode cL_times 3 = .ok (.iload_n 1, 1) := by decide +kernel
theorem dL_times_4 : decode cL_times 4 = .ok (.iload_n 2, 1) := by decide +kernel
theorem dL_times_5 : decode cL_times 5 = .ok (.iload_n 3, 1) := by decide +kernel
theorem dL_times_6 : decode cL_times 6 = .ok (.invokevirtual 120, 3) := by decide +kernel
theorem dL_times_9 : decode cL_times 9 = .ok (.i2l, 1) := by decide +kernel
theorem dL_times_10 : decode cL_times 10 = .ok (.putfield 13, 3) := by decide +kernel
theorem dL_times_13 : decode cL_times 13 = .ok (.goto 11, 3) := by decide +kernel
theorem dL_times_16 : decode cL_times 16 = .ok (.astore 5, 2) := by decide +kernel
theorem dL_times_18 : decode cL_times 18 = .ok (.iconst 1, 1) := by decide +kernel
theorem dL_times_19 : decode cL_times 19 = .ok (.ireturn, 1) := by decide +kernel
theorem dL_times_20 : decode cL_times 20 = .ok (.astore 5, 2) := by decide +kernel
theorem dL_times_22 : decode cL_times 22 = .ok (.iconst 2, 1) := by decide +kernel
theorem dL_times_23 : decode cL_times 23 = .ok (.ireturn, 1) := by decide +kernel
theorem dL_times_24 : decode cL_times 24 = .ok (.iconst 0, 1) := by decide +kernel
theorem dL_times_25 : decode cL_times 25 = .ok (.ireturn, 1) := by decide +kernel
theorem dL_spoke_0 : decode cL_spoke 0 = .ok (.aload_n 3, 1) := by decide +kernel
theorem dL_spoke_1 : decode cL_spoke 1 = .ok (.aload_n 0, 1) := by decide +kernel
theorem dL_spoke_2 : decode cL_spoke 2 = .ok (.iload_n 1, 1) := by decide +kernel
theorem dL_spoke_3 : decode cL_spoke 3 = .ok (.iload_n 2, 1) := by decide +kernel
theorem dL_spoke_4 : decode cL_spoke 4 = .ok (.invokevirtual 123, 3) := by decide +kernel
theorem dL_spoke_7 : decode cL_spoke 7 = .ok (.i2l, 1) := by decide +kernel
theorem dL_spoke_8 : decode cL_spoke 8 = .ok (.putfield 13, 3) := by decide +kernel
theorem dL_spoke_11 : decode cL_spoke 11 = .ok (.goto 11, 3) := by decide +kernel
theorem dL_spoke_14 : decode cL_spoke 14 = .ok (.astore 4, 2) := by decide +kernel
theorem dL_spoke_16 : decode cL_spoke 16 = .ok (.iconst 1, 1) := by decide +kernel
theorem dL_spoke_17 : decode cL_spoke 17 = .ok (.ireturn, 1) := by decide +kernel
theorem dL_spoke_18 : decode cL_spoke 18 = .ok (.astore 4, 2) := by decide +kernel
theorem dL_spoke_20 : decode cL_spoke 20 = .ok (.iconst 2, 1) := by decide +kernel
theorem dL_spoke_21 : decode cL_spoke 21 = .ok (.ireturn, 1) := by decide +kernel
theorem dL_spoke_22 : decode cL_spoke 22 = .ok (.iconst 0, 1) := by decide +kernel
theorem dL_spoke_23 : decode cL_spoke 23 = .ok (.ireturn, 1) := by decide +kernel
theorem dL_lowest_0 : decode cL_lowest 0 = .ok (.aload_n 2, 1) := by decide +kernel
theorem dL_lowest_1 : decode cL_lowest 1 = .ok (.aload_n 0, 1) := by decide +kernel
theorem dL_lowest_2 : decode cL_lowest 2 = .ok (.iload_n 1, 1) := by decide +kernel
theorem dL_lowest_3 : decode cL_lowest 3 = .ok (.invokevirtual 126, 3) := by decide +kernel
theorem dL_lowest_6 : decode cL_lowest 6 = .ok (.i2l, 1) := by decide +kernel
theorem dL_lowest_7 : decode cL_lowest 7 = .ok (.putfield 13, 3) := by decide +kernel
theorem dL_lowest_10 : decode cL_lowest 10 = .ok (.goto 6, 3) := by decide +kernel
theorem dL_lowest_13 : decode cL_lowest 13 = .ok (.astore_n 3, 1) := by decide +kernel
theorem dL_lowest_14 : decode cL_lowest 14 = .ok (.iconst 1, 1) := by decide +kernel
theorem dL_lowest_15 : decode cL_lowest 15 = .ok (.ireturn, 1) := by decide +kernel
theorem dL_lowest_16 : decode cL_lowest 16 = .ok (.iconst 0, 1) := by decide +kernel
theorem dL_lowest_17 : decode cL_lowest 17 = .ok (.ireturn, 1) := by decide +kernel
theorem dL_tens_0 : decode cL_tens 0 = .ok (.aload_n 2, 1) := by decide +kernel
theorem dL_tens_1 : decode cL_tens 1 = .ok (.aload_n 0, 1) := by decide +kernel
theorem dL_tens_2 : decode cL_tens 2 = .ok (.iload_n 1, 1) := by decide +kernel
theorem dL_tens_3 : decode cL_tens 3 = .ok (.invokevirtual 129, 3) := by decide +kernel
theorem dL_tens_6 : decode cL_tens 6 = .ok (.i2l, 1) := by decide +kernel
theorem dL_tens_7 : decode cL_tens 7 = .ok (.putfield 13, 3) := by decide +kernel
theorem dL_tens_10 : decode cL_tens 10 = .ok (.goto 6, 3) := by decide +kernel
theorem dL_tens_13 : decode cL_tens 13 = .ok (.astore_n 3, 1) := by decide +kernel
theorem dL_tens_14 : decode cL_tens 14 = .ok (.iconst 1, 1) := by decide +kernel
theorem dL_tens_15 : decode cL_tens 15 = .ok (.ireturn, 1) := by decide +kernel
theorem dL_tens_16 : decode cL_tens 16 = .ok (.iconst 0, 1) := by decide +kernel
theorem dL_tens_17 : decode cL_tens 17 = .ok (.ireturn, 1) := by decide +kernel
theorem dL_restAt_0 : decode cL_restAt 0 = .ok (.aload_n 3, 1) := by decide +kernel
theorem dL_restAt_1 : decode cL_restAt 1 = .ok (.aload_n 0, 1) := by decide +kernel
theorem dL_restAt_2 : decode cL_restAt 2 = .ok (.iload_n 1, 1) := by decide +kernel
theorem dL_restAt_3 : decode cL_restAt 3 = .ok (.iload_n 2, 1) := by decide +kernel
theorem dL_restAt_4 : decode cL_restAt 4 = .ok (.invokevirtual 132, 3) := by decide +kernel
theorem dL_restAt_7 : decode cL_restAt 7 = .ok (.i2l, 1) := by decide +kernel
theorem dL_restAt_8 : decode cL_restAt 8 = .ok (.putfield 13, 3) := by decide +kernel
theorem dL_restAt_11 : decode cL_restAt 11 = .ok (.goto 11, 3) := by decide +kernel
theorem dL_restAt_14 : decode cL_restAt 14 = .ok (.astore 4, 2) := by decide +kernel
theorem dL_restAt_16 : decode cL_restAt 16 = .ok (.iconst 1, 1) := by decide +kernel
theorem dL_restAt_17 : decode cL_restAt 17 = .ok (.ireturn, 1) := by decide +kernel
theorem dL_restAt_18 : decode cL_restAt 18 = .ok (.astore 4, 2) := by decide +kernel
theorem dL_restAt_20 : decode cL_restAt 20 = .ok (.iconst 2, 1) := by decide +kernel
theorem dL_restAt_21 : decode cL_restAt 21 = .ok (.ireturn, 1) := by decide +kernel
theorem dL_restAt_22 : decode cL_restAt 22 = .ok (.iconst 0, 1) := by decide +kernel
theorem dL_restAt_23 : decode cL_restAt 23 = .ok (.ireturn, 1) := by decide +kernel
theorem dL_digitsFrom_0 : decode cL_digitsFrom 0 = .ok (.aload 4, 2) := by decide +kernel
theorem dL_digitsFrom_2 : decode cL_digitsFrom 2 = .ok (.aload_n 0, 1) := by decide +kernel
theorem dL_digitsFrom_3 : decode cL_digitsFrom 3 = .ok (.iload_n 1, 1) := by decide +kernel
theorem dL_digitsFrom_4 : decode cL_digitsFrom 4 = .ok (.iload_n 2, 1) := by decide +kernel
theorem dL_digitsFrom_5 : decode cL_digitsFrom 5 = .ok (.iload_n 3, 1) := by decide +kernel
theorem dL_digitsFrom_6 : decode cL_digitsFrom 6 = .ok (.invokevirtual 135, 3) := by decide +kernel
theorem dL_digitsFrom_9 : decode cL_digitsFrom 9 = .ok (.putfield 100, 3) := by decide +kernel
theorem dL_digitsFrom_12 : decode cL_digitsFrom 12 = .ok (.goto 11, 3) := by decide +kernel
theorem dL_digitsFrom_15 : decode cL_digitsFrom 15 = .ok (.astore 5, 2) := by decide +kernel
theorem dL_digitsFrom_17 : decode cL_digitsFrom 17 = .ok (.iconst 1, 1) := by decide +kernel
theorem dL_digitsFrom_18 : decode cL_digitsFrom 18 = .ok (.ireturn, 1) := by decide +kernel
theorem dL_digitsFrom_19 : decode cL_digitsFrom 19 = .ok (.astore 5, 2) := by decide +kernel
theorem dL_digitsFrom_21 : decode cL_digitsFrom 21 = .ok (.iconst 2, 1) := by decide +kernel
theorem dL_digitsFrom_22 : decode cL_digitsFrom 22 = .ok (.ireturn, 1) := by decide +kernel
theorem dL_digitsFrom_23 : decode cL_digitsFrom 23 = .ok (.iconst 0, 1) := by decide +kernel
theorem dL_digitsFrom_24 : decode cL_digitsFrom 24 = .ok (.ireturn, 1) := by decide +kernel
theorem dL_cutText_0 : decode cL_cutText 0 = .ok (.aload 5, 2) := by decide +kernel
theorem dL_cutText_2 : decode cL_cutText 2 = .ok (.aload_n 0, 1) := by decide +kernel
theorem dL_cutText_3 : decode cL_cutText 3 = .ok (.iload_n 1, 1) := by decide +kernel
theorem dL_cutText_4 : decode cL_cutText 4 = .ok (.iload_n 2, 1) := by decide +kernel
theorem dL_cutText_5 : decode cL_cutText 5 = .ok (.iload_n 3, 1) := by decide +kernel
theorem dL_cutText_6 : decode cL_cutText 6 = .ok (.iload 4, 2) := by decide +kernel
theorem dL_cutText_8 : decode cL_cutText 8 = .ok (.invokevirtual 139, 3) := by decide +kernel
theorem dL_cutText_11 : decode cL_cutText 11 = .ok (.putfield 100, 3) := by decide +kernel
theorem dL_cutText_14 : decode cL_cutText 14 = .ok (.goto 11, 3) := by decide +kernel
theorem dL_cutText_17 : decode cL_cutText 17 = .ok (.astore 6, 2) := by decide +kernel
theorem dL_cutText_19 : decode cL_cutText 19 = .ok (.iconst 1, 1) := by decide +kernel
theorem dL_cutText_20 : decode cL_cutText 20 = .ok (.ireturn, 1) := by decide +kernel
theorem dL_cutText_21 : decode cL_cutText 21 = .ok (.astore 6, 2) := by decide +kernel
theorem dL_cutText_23 : decode cL_cutText 23 = .ok (.iconst 2, 1) := by decide +kernel
theorem dL_cutText_24 : decode cL_cutText 24 = .ok (.ireturn, 1) := by decide +kernel
theorem dL_cutText_25 : decode cL_cutText 25 = .ok (.iconst 0, 1) := by decide +kernel
theorem dL_cutText_26 : decode cL_cutText 26 = .ok (.ireturn, 1) := by decide +kernel
theorem dL_number_0 : decode cL_number 0 = .ok (.aload_n 2, 1) := by decide +kernel
theorem dL_number_1 : decode cL_number 1 = .ok (.aload_n 0, 1) := by decide +kernel
theorem dL_number_2 : decode cL_number 2 = .ok (.iload_n 1, 1) := by decide +kernel
theorem dL_number_3 : decode cL_number 3 = .ok (.invokevirtual 143, 3) := by decide +kernel
theorem dL_number_6 : decode cL_number 6 = .ok (.putfield 100, 3) := by decide +kernel
theorem dL_number_9 : decode cL_number 9 = .ok (.goto 6, 3) := by decide +kernel
theorem dL_number_12 : decode cL_number 12 = .ok (.astore_n 3, 1) := by decide +kernel
theorem dL_number_13 : decode cL_number 13 = .ok (.iconst 1, 1) := by decide +kernel
theorem dL_number_14 : decode cL_number 14 = .ok (.ireturn, 1) := by decide +kernel
theorem dL_number_15 : decode cL_number 15 = .ok (.iconst 0, 1) := by decide +kernel
theorem dL_number_16 : decode cL_number 16 = .ok (.ireturn, 1) := by decide +kernel
theorem dL_product_0 : decode cL_product 0 = .ok (.aload_n 2, 1) := by decide +kernel
theorem dL_product_1 : decode cL_product 1 = .ok (.aload_n 0, 1) := by decide +kernel
theorem dL_product_2 : decode cL_product 2 = .ok (.iload_n 1, 1) := by decide +kernel
theorem dL_product_3 : decode cL_product 3 = .ok (.invokevirtual 147, 3) := by decide +kernel
theorem dL_product_6 : decode cL_product 6 = .ok (.putfield 100, 3) := by decide +kernel
theorem dL_product_9 : decode cL_product 9 = .ok (.goto 6, 3) := by decide +kernel
theorem dL_product_12 : decode cL_product 12 = .ok (.astore_n 3, 1) := by decide +kernel
theorem dL_product_13 : decode cL_product 13 = .ok (.iconst 1, 1) := by decide +kernel
theorem dL_product_14 : decode cL_product 14 = .ok (.ireturn, 1) := by decide +kernel
theorem dL_product_15 : decode cL_product 15 = .ok (.iconst 0, 1) := by decide +kernel
theorem dL_product_16 : decode cL_product 16 = .ok (.ireturn, 1) := by decide +kernel
theorem dL_partSum_0 : decode cL_partSum 0 = .ok (.aload_n 3, 1) := by decide +kernel
theorem dL_partSum_1 : decode cL_partSum 1 = .ok (.aload_n 0, 1) := by decide +kernel
theorem dL_partSum_2 : decode cL_partSum 2 = .ok (.iload_n 1, 1) := by decide +kernel
theorem dL_partSum_3 : decode cL_partSum 3 = .ok (.iload_n 2, 1) := by decide +kernel
theorem dL_partSum_4 : decode cL_partSum 4 = .ok (.invokevirtual 150, 3) := by decide +kernel
theorem dL_partSum_7 : decode cL_partSum 7 = .ok (.putfield 100, 3) := by decide +kernel
theorem dL_partSum_10 : decode cL_partSum 10 = .ok (.goto 11, 3) := by decide +kernel
theorem dL_partSum_13 : decode cL_partSum 13 = .ok (.astore 4, 2) := by decide +kernel
theorem dL_partSum_15 : decode cL_partSum 15 = .ok (.iconst 1, 1) := by decide +kernel
theorem dL_partSum_16 : decode cL_partSum 16 = .ok (.ireturn, 1) := by decide +kernel
theorem dL_partSum_17 : decode cL_partSum 17 = .ok (.astore 4, 2) := by decide +kernel
theorem dL_partSum_19 : decode cL_partSum 19 = .ok (.iconst 2, 1) := by decide +kernel
theorem dL_partSum_20 : decode cL_partSum 20 = .ok (.ireturn, 1) := by decide +kernel
theorem dL_partSum_21 : decode cL_partSum 21 = .ok (.iconst 0, 1) := by decide +kernel
theorem dL_partSum_22 : decode cL_partSum 22 = .ok (.ireturn, 1) := by decide +kernel
theorem dL_nines_0 : decode cL_nines 0 = .ok (.aload_n 3, 1) := by decide +kernel
theorem dL_nines_1 : decode cL_nines 1 = .ok (.aload_n 0, 1) := by decide +kernel
theorem dL_nines_2 : decode cL_nines 2 = .ok (.iload_n 1, 1) := by decide +kernel
theorem dL_nines_3 : decode cL_nines 3 = .ok (.iload_n 2, 1) := by decide +kernel
theorem dL_nines_4 : decode cL_nines 4 = .ok (.invokevirtual 153, 3) := by decide +kernel
theorem dL_nines_7 : decode cL_nines 7 = .ok (.i2l, 1) := by decide +kernel
theorem dL_nines_8 : decode cL_nines 8 = .ok (.putfield 13, 3) := by decide +kernel
theorem dL_nines_11 : decode cL_nines 11 = .ok (.goto 11, 3) := by decide +kernel
theorem dL_nines_14 : decode cL_nines 14 = .ok (.astore 4, 2) := by decide +kernel
theorem dL_nines_16 : decode cL_nines 16 = .ok (.iconst 1, 1) := by decide +kernel
theorem dL_nines_17 : decode cL_nines 17 = .ok (.ireturn, 1) := by decide +kernel
theorem dL_nines_18 : decode cL_nines 18 = .ok (.astore 4, 2) := by decide +kernel
theorem dL_nines_20 : decode cL_nines 20 = .ok (.iconst 2, 1) := by decide +kernel
theorem dL_nines_21 : decode cL_nines 21 = .ok (.ireturn, 1) := by decide +kernel
theorem dL_nines_22 : decode cL_nines 22 = .ok (.iconst 0, 1) := by decide +kernel
theorem dL_nines_23 : decode cL_nines 23 = .ok (.ireturn, 1) := by decide +kernel
theorem dL_placeOf_0 : decode cL_placeOf 0 = .ok (.aload_n 3, 1) := by decide +kernel
theorem dL_placeOf_1 : decode cL_placeOf 1 = .ok (.aload_n 0, 1) := by decide +kernel
theorem dL_placeOf_2 : decode cL_placeOf 2 = .ok (.iload_n 1, 1) := by decide +kernel
theorem dL_placeOf_3 : decode cL_placeOf 3 = .ok (.iload_n 2, 1) := by decide +kernel
theorem dL_placeOf_4 : decode cL_placeOf 4 = .ok (.invokevirtual 156, 3) := by decide +kernel
theorem dL_placeOf_7 : decode cL_placeOf 7 = .ok (.i2l, 1) := by decide +kernel
theorem dL_placeOf_8 : decode cL_placeOf 8 = .ok (.putfield 13, 3) := by decide +kernel
theorem dL_placeOf_11 : decode cL_placeOf 11 = .ok (.goto 7, 3) := by decide +kernel
theorem dL_placeOf_14 : decode cL_placeOf 14 = .ok (.astore 4, 2) := by decide +kernel
theorem dL_placeOf_16 : decode cL_placeOf 16 = .ok (.iconst 1, 1) := by decide +kernel
theorem dL_placeOf_17 : decode cL_placeOf 17 = .ok (.ireturn, 1) := by decide +kernel
theorem dL_placeOf_18 : decode cL_placeOf 18 = .ok (.iconst 0, 1) := by decide +kernel
theorem dL_placeOf_19 : decode cL_placeOf 19 = .ok (.ireturn, 1) := by decide +kernel
theorem dL_wheelOrder_0 : decode cL_wheelOrder 0 = .ok (.aload_n 3, 1) := by decide +kernel
theorem dL_wheelOrder_1 : decode cL_wheelOrder 1 = .ok (.aload_n 0, 1) := by decide +kernel
theorem dL_wheelOrder_2 : decode cL_wheelOrder 2 = .ok (.iload_n 1, 1) := by decide +kernel
theorem dL_wheelOrder_3 : decode cL_wheelOrder 3 = .ok (.iload_n 2, 1) := by decide +kernel
theorem dL_wheelOrder_4 : decode cL_wheelOrder 4 = .ok (.invokevirtual 159, 3) := by decide +kernel
theorem dL_wheelOrder_7 : decode cL_wheelOrder 7 = .ok (.i2l, 1) := by decide +kernel
theorem dL_wheelOrder_8 : decode cL_wheelOrder 8 = .ok (.putfield 13, 3) := by decide +kernel
theorem dL_wheelOrder_11 : decode cL_wheelOrder 11 = .ok (.goto 7, 3) := by decide +kernel
theorem dL_wheelOrder_14 : decode cL_wheelOrder 14 = .ok (.astore 4, 2) := by decide +kernel
theorem dL_wheelOrder_16 : decode cL_wheelOrder 16 = .ok (.iconst 1, 1) := by decide +kernel
theorem dL_wheelOrder_17 : decode cL_wheelOrder 17 = .ok (.ireturn, 1) := by decide +kernel
theorem dL_wheelOrder_18 : decode cL_wheelOrder 18 = .ok (.iconst 0, 1) := by decide +kernel
theorem dL_wheelOrder_19 : decode cL_wheelOrder 19 = .ok (.ireturn, 1) := by decide +kernel
theorem dL_against_0 : decode cL_against 0 = .ok (.aload_n 3, 1) := by decide +kernel
theorem dL_against_1 : decode cL_against 1 = .ok (.aload_n 0, 1) := by decide +kernel
theorem dL_against_2 : decode cL_against 2 = .ok (.iload_n 1, 1) := by decide +kernel
theorem dL_against_3 : decode cL_against 3 = .ok (.iload_n 2, 1) := by decide +kernel
theorem dL_against_4 : decode cL_against 4 = .ok (.invokevirtual 162, 3) := by decide +kernel
theorem dL_against_7 : decode cL_against 7 = .ok (.i2l, 1) := by decide +kernel
theorem dL_against_8 : decode cL_against 8 = .ok (.putfield 13, 3) := by decide +kernel
theorem dL_against_11 : decode cL_against 11 = .ok (.goto 7, 3) := by decide +kernel
theorem dL_against_14 : decode cL_against 14 = .ok (.astore 4, 2) := by decide +kernel
theorem dL_against_16 : decode cL_against 16 = .ok (.iconst 1, 1) := by decide +kernel
theorem dL_against_17 : decode cL_against 17 = .ok (.ireturn, 1) := by decide +kernel
theorem dL_against_18 : decode cL_against 18 = .ok (.iconst 0, 1) := by decide +kernel
theorem dL_against_19 : decode cL_against 19 = .ok (.ireturn, 1) := by decide +kernel
theorem dL_house_0 : decode cL_house 0 = .ok (.aload_n 2, 1) := by decide +kernel
theorem dL_house_1 : decode cL_house 1 = .ok (.aload_n 0, 1) := by decide +kernel
theorem dL_house_2 : decode cL_house 2 = .ok (.iload_n 1, 1) := by decide +kernel
theorem dL_house_3 : decode cL_house 3 = .ok (.invokevirtual 165, 3) := by decide +kernel
theorem dL_house_6 : decode cL_house 6 = .ok (.i2l, 1) := by decide +kernel
theorem dL_house_7 : decode cL_house 7 = .ok (.putfield 13, 3) := by decide +kernel
theorem dL_house_10 : decode cL_house 10 = .ok (.goto 6, 3) := by decide +kernel
theorem dL_house_13 : decode cL_house 13 = .ok (.astore_n 3, 1) := by decide +kernel
theorem dL_house_14 : decode cL_house 14 = .ok (.iconst 1, 1) := by decide +kernel
theorem dL_house_15 : decode cL_house 15 = .ok (.ireturn, 1) := by decide +kernel
theorem dL_house_16 : decode cL_house 16 = .ok (.iconst 0, 1) := by decide +kernel
theorem dL_house_17 : decode cL_house 17 = .ok (.ireturn, 1) := by decide +kernel
end
