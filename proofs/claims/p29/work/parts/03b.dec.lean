theorem dX3_init_0 : decode cX3_init 0 = .ok (.aload_n 0, 1) := by decide +kernel
theorem dX3_init_1 : decode cX3_init 1 = .ok (.invokespecial 3, 3) := by decide +kernel
theorem dX3_init_4 : decode cX3_init 4 = .ok (.aload_n 0, 1) := by decide +kernel
theorem dX3_init_5 : decode cX3_init 5 = .ok (.iconst 4, 1) := by decide +kernel
theorem dX3_init_6 : decode cX3_init 6 = .ok (.newarray .int, 2) := by decide +kernel
theorem dX3_init_8 : decode cX3_init 8 = .ok (.putfield 9, 3) := by decide +kernel
theorem dX3_init_11 : decode cX3_init 11 = .ok (.aload_n 0, 1) := by decide +kernel
theorem dX3_init_12 : decode cX3_init 12 = .ok (.iconst 4, 1) := by decide +kernel
theorem dX3_init_13 : decode cX3_init 13 = .ok (.newarray .int, 2) := by decide +kernel
theorem dX3_init_15 : decode cX3_init 15 = .ok (.putfield 15, 3) := by decide +kernel
theorem dX3_init_18 : decode cX3_init 18 = .ok (.aload_n 0, 1) := by decide +kernel
theorem dX3_init_19 : decode cX3_init 19 = .ok (.iconst 3, 1) := by decide +kernel
theorem dX3_init_20 : decode cX3_init 20 = .ok (.newarray .int, 2) := by decide +kernel
theorem dX3_init_22 : decode cX3_init 22 = .ok (.putfield 18, 3) := by decide +kernel
theorem dX3_init_25 : decode cX3_init 25 = .ok (.aload_n 0, 1) := by decide +kernel
theorem dX3_init_26 : decode cX3_init 26 = .ok (.iconst 3, 1) := by decide +kernel
theorem dX3_init_27 : decode cX3_init 27 = .ok (.newarray .int, 2) := by decide +kernel
theorem dX3_init_29 : decode cX3_init 29 = .ok (.dup, 1) := by decide +kernel
theorem dX3_init_30 : decode cX3_init 30 = .ok (.iconst 0, 1) := by decide +kernel
theorem dX3_init_31 : decode cX3_init 31 = .ok (.iconst 1, 1) := by decide +kernel
theorem dX3_init_32 : decode cX3_init 32 = .ok (.iastore, 1) := by decide +kernel
theorem dX3_init_33 : decode cX3_init 33 = .ok (.dup, 1) := by decide +kernel
theorem dX3_init_34 : decode cX3_init 34 = .ok (.iconst 1, 1) := by decide +kernel
theorem dX3_init_35 : decode cX3_init 35 = .ok (.iconst 1, 1) := by decide +kernel
theorem dX3_init_36 : decode cX3_init 36 = .ok (.iastore, 1) := by decide +kernel
theorem dX3_init_37 : decode cX3_init 37 = .ok (.dup, 1) := by decide +kernel
theorem dX3_init_38 : decode cX3_init 38 = .ok (.iconst 2, 1) := by decide +kernel
theorem dX3_init_39 : decode cX3_init 39 = .ok (.iconst 1, 1) := by decide +kernel
theorem dX3_init_40 : decode cX3_init 40 = .ok (.iastore, 1) := by decide +kernel
theorem dX3_init_41 : decode cX3_init 41 = .ok (.putfield 21, 3) := by decide +kernel
theorem dX3_init_44 : decode cX3_init 44 = .ok (.aload_n 0, 1) := by decide +kernel
theorem dX3_init_45 : decode cX3_init 45 = .ok (.iconst 3, 1) := by decide +kernel
theorem dX3_init_46 : decode cX3_init 46 = .ok (.newarray .int, 2) := by decide +kernel
theorem dX3_init_48 : decode cX3_init 48 = .ok (.putfield 24, 3) := by decide +kernel
theorem dX3_init_51 : decode cX3_init 51 = .ok (.aload_n 0, 1) := by decide +kernel
theorem dX3_init_52 : decode cX3_init 52 = .ok (.iconst 4, 1) := by decide +kernel
theorem dX3_init_53 : decode cX3_init 53 = .ok (.newarray .int, 2) := by decide +kernel
theorem dX3_init_55 : decode cX3_init 55 = .ok (.putfield 27, 3) := by decide +kernel
theorem dX3_init_58 : decode cX3_init 58 = .ok (.return_, 1) := by decide +kernel
theorem dX3_thrown_0 : decode cX3_thrown 0 = .ok (.aload_n 0, 1) := by decide +kernel
theorem dX3_thrown_1 : decode cX3_thrown 1 = .ok (.getfield 30, 3) := by decide +kernel
theorem dX3_thrown_4 : decode cX3_thrown 4 = .ok (.ireturn, 1) := by decide +kernel
theorem dX3_refuse_0 : decode cX3_refuse 0 = .ok (.aload_n 0, 1) := by decide +kernel
theorem dX3_refuse_1 : decode cX3_refuse 1 = .ok (.iload_n 1, 1) := by decide +kernel
theorem dX3_refuse_2 : decode cX3_refuse 2 = .ok (.ifCond .eq 7, 3) := by decide +kernel
theorem dX3_refuse_5 : decode cX3_refuse 5 = .ok (.iconst 1, 1) := by decide +kernel
theorem dX3_refuse_6 : decode cX3_refuse 6 = .ok (.goto 12, 3) := by decide +kernel
theorem dX3_refuse_9 : decode cX3_refuse 9 = .ok (.iload_n 2, 1) := by decide +kernel
theorem dX3_refuse_10 : decode cX3_refuse 10 = .ok (.ifCond .eq 7, 3) := by decide +kernel
theorem dX3_refuse_13 : decode cX3_refuse 13 = .ok (.iconst 2, 1) := by decide +kernel
theorem dX3_refuse_14 : decode cX3_refuse 14 = .ok (.goto 4, 3) := by decide +kernel
theorem dX3_refuse_17 : decode cX3_refuse 17 = .ok (.iconst 0, 1) := by decide +kernel
theorem dX3_refuse_18 : decode cX3_refuse 18 = .ok (.putfield 30, 3) := by decide +kernel
theorem dX3_refuse_21 : decode cX3_refuse 21 = .ok (.aload_n 0, 1) := by decide +kernel
theorem dX3_refuse_22 : decode cX3_refuse 22 = .ok (.getfield 30, 3) := by decide +kernel
theorem dX3_refuse_25 : decode cX3_refuse 25 = .ok (.ifCond .le 7, 3) := by decide +kernel
theorem dX3_refuse_28 : decode cX3_refuse 28 = .ok (.iconst 1, 1) := by decide +kernel
theorem dX3_refuse_29 : decode cX3_refuse 29 = .ok (.goto 4, 3) := by decide +kernel
theorem dX3_refuse_32 : decode cX3_refuse 32 = .ok (.iconst 0, 1) := by decide +kernel
theorem dX3_refuse_33 : decode cX3_refuse 33 = .ok (.ireturn, 1) := by decide +kernel
theorem dX3_isOut_0 : decode cX3_isOut 0 = .ok (.iload_n 0, 1) := by decide +kernel
theorem dX3_isOut_1 : decode cX3_isOut 1 = .ok (.iload_n 1, 1) := by decide +kernel
theorem dX3_isOut_2 : decode cX3_isOut 2 = .ok (.if_icmp .lt 8, 3) := by decide +kernel
theorem dX3_isOut_5 : decode cX3_isOut 5 = .ok (.iload_n 0, 1) := by decide +kernel
theorem dX3_isOut_6 : decode cX3_isOut 6 = .ok (.iload_n 2, 1) := by decide +kernel
theorem dX3_isOut_7 : decode cX3_isOut 7 = .ok (.if_icmp .le 7, 3) := by decide +kernel
theorem dX3_isOut_10 : decode cX3_isOut 10 = .ok (.iconst 1, 1) := by decide +kernel
theorem dX3_isOut_11 : decode cX3_isOut 11 = .ok (.goto 4, 3) := by decide +kernel
theorem dX3_isOut_14 : decode cX3_isOut 14 = .ok (.iconst 0, 1) := by decide +kernel
theorem dX3_isOut_15 : decode cX3_isOut 15 = .ok (.ireturn, 1) := by decide +kernel
theorem dX3_isNoCell_0 : decode cX3_isNoCell 0 = .ok (.iload_n 0, 1) := by decide +kernel
theorem dX3_isNoCell_1 : decode cX3_isNoCell 1 = .ok (.iconst 0, 1) := by decide +kernel
theorem dX3_isNoCell_2 : decode cX3_isNoCell 2 = .ok (.iconst 3, 1) := by decide +kernel
theorem dX3_isNoCell_3 : decode cX3_isNoCell 3 = .ok (.invokestatic 34, 3) := by decide +kernel
theorem dX3_isNoCell_6 : decode cX3_isNoCell 6 = .ok (.ireturn, 1) := by decide +kernel
theorem dX3_isNoWheel_0 : decode cX3_isNoWheel 0 = .ok (.iload_n 0, 1) := by decide +kernel
theorem dX3_isNoWheel_1 : decode cX3_isNoWheel 1 = .ok (.iconst 0, 1) := by decide +kernel
theorem dX3_isNoWheel_2 : decode cX3_isNoWheel 2 = .ok (.iconst 2, 1) := by decide +kernel
theorem dX3_isNoWheel_3 : decode cX3_isNoWheel 3 = .ok (.invokestatic 34, 3) := by decide +kernel
theorem dX3_isNoWheel_6 : decode cX3_isNoWheel 6 = .ok (.ireturn, 1) := by decide +kernel
theorem dX3_isNoCut_0 : decode cX3_isNoCut 0 = .ok (.iload_n 0, 1) := by decide +kernel
theorem dX3_isNoCut_1 : decode cX3_isNoCut 1 = .ok (.iconst 0, 1) := by decide +kernel
theorem dX3_isNoCut_2 : decode cX3_isNoCut 2 = .ok (.iload_n 2, 1) := by decide +kernel
theorem dX3_isNoCut_3 : decode cX3_isNoCut 3 = .ok (.invokestatic 34, 3) := by decide +kernel
theorem dX3_isNoCut_6 : decode cX3_isNoCut 6 = .ok (.ifCond .ne 13, 3) := by decide +kernel
theorem dX3_isNoCut_9 : decode cX3_isNoCut 9 = .ok (.iload_n 1, 1) := by decide +kernel
theorem dX3_isNoCut_10 : decode cX3_isNoCut 10 = .ok (.iconst 0, 1) := by decide +kernel
theorem dX3_isNoCut_11 : decode cX3_isNoCut 11 = .ok (.bipush 7, 2) := by decide +kernel
theorem dX3_isNoCut_13 : decode cX3_isNoCut 13 = .ok (.invokestatic 34, 3) := by decide +kernel
theorem dX3_isNoCut_16 : decode cX3_isNoCut 16 = .ok (.ifCond .eq 7, 3) := by decide +kernel
theorem dX3_isNoCut_19 : decode cX3_isNoCut 19 = .ok (.iconst 1, 1) := by decide +kernel
theorem dX3_isNoCut_20 : decode cX3_isNoCut 20 = .ok (.goto 4, 3) := by decide +kernel
theorem dX3_isNoCut_23 : decode cX3_isNoCut 23 = .ok (.iconst 0, 1) := by decide +kernel
theorem dX3_isNoCut_24 : decode cX3_isNoCut 24 = .ok (.ireturn, 1) := by decide +kernel
theorem dX3_isNoBottom_0 : decode cX3_isNoBottom 0 = .ok (.iload_n 0, 1) := by decide +kernel
theorem dX3_isNoBottom_1 : decode cX3_isNoBottom 1 = .ok (.iconst 1, 1) := by decide +kernel
theorem dX3_isNoBottom_2 : decode cX3_isNoBottom 2 = .ok (.bipush 99, 2) := by decide +kernel
theorem dX3_isNoBottom_4 : decode cX3_isNoBottom 4 = .ok (.invokestatic 34, 3) := by decide +kernel
theorem dX3_isNoBottom_7 : decode cX3_isNoBottom 7 = .ok (.ifCond .ne 15, 3) := by decide +kernel
theorem dX3_isNoBottom_10 : decode cX3_isNoBottom 10 = .ok (.iload_n 0, 1) := by decide +kernel
theorem dX3_isNoBottom_11 : decode cX3_isNoBottom 11 = .ok (.iconst 2, 1) := by decide +kernel
theorem dX3_isNoBottom_12 : decode cX3_isNoBottom 12 = .ok (.irem, 1) := by decide +kernel
theorem dX3_isNoBottom_13 : decode cX3_isNoBottom 13 = .ok (.ifCond .eq 9, 3) := by decide +kernel
theorem dX3_isNoBottom_16 : decode cX3_isNoBottom 16 = .ok (.iload_n 0, 1) := by decide +kernel
theorem dX3_isNoBottom_17 : decode cX3_isNoBottom 17 = .ok (.iconst 5, 1) := by decide +kernel
theorem dX3_isNoBottom_18 : decode cX3_isNoBottom 18 = .ok (.irem, 1) := by decide +kernel
theorem dX3_isNoBottom_19 : decode cX3_isNoBottom 19 = .ok (.ifCond .ne 7, 3) := by decide +kernel
theorem dX3_isNoBottom_22 : decode cX3_isNoBottom 22 = .ok (.iconst 1, 1) := by decide +kernel
theorem dX3_isNoBottom_23 : decode cX3_isNoBottom 23 = .ok (.goto 4, 3) := by decide +kernel
theorem dX3_isNoBottom_26 : decode cX3_isNoBottom 26 = .ok (.iconst 0, 1) := by decide +kernel
theorem dX3_isNoBottom_27 : decode cX3_isNoBottom 27 = .ok (.ireturn, 1) := by decide +kernel
theorem dX3_ten_0 : decode cX3_ten 0 = .ok (.lconst 1, 1) := by decide +kernel
theorem dX3_ten_1 : decode cX3_ten 1 = .ok (.lstore_n 1, 1) := by decide +kernel
theorem dX3_ten_2 : decode cX3_ten 2 = .ok (.iconst 0, 1) := by decide +kernel
theorem dX3_ten_3 : decode cX3_ten 3 = .ok (.istore_n 3, 1) := by decide +kernel
theorem dX3_ten_4 : decode cX3_ten 4 = .ok (.iload_n 3, 1) := by decide +kernel
theorem dX3_ten_5 : decode cX3_ten 5 = .ok (.iload_n 0, 1) := by decide +kernel
theorem dX3_ten_6 : decode cX3_ten 6 = .ok (.if_icmp .ge 15, 3) := by decide +kernel
theorem dX3_ten_9 : decode cX3_ten 9 = .ok (.lload_n 1, 1) := by decide +kernel
theorem dX3_ten_10 : decode cX3_ten 10 = .ok (.ldc2_w 38, 3) := by decide +kernel
theorem dX3_ten_13 : decode cX3_ten 13 = .ok (.lmul, 1) := by decide +kernel
theorem dX3_ten_14 : decode cX3_ten 14 = .ok (.lstore_n 1, 1) := by decide +kernel
theorem dX3_ten_15 : decode cX3_ten 15 = .ok (.iinc 3 1, 3) := by decide +kernel
theorem dX3_ten_18 : decode cX3_ten 18 = .ok (.goto (-14), 3) := by decide +kernel
theorem dX3_ten_21 : decode cX3_ten 21 = .ok (.lload_n 1, 1) := by decide +kernel
theorem dX3_ten_22 : decode cX3_ten 22 = .ok (.lreturn, 1) := by decide +kernel
theorem dX3_side_0 : decode cX3_side 0 = .ok (.lload_n 0, 1) := by decide +kernel
theorem dX3_side_1 : decode cX3_side 1 = .ok (.lload_n 2, 1) := by decide +kernel
theorem dX3_side_2 : decode cX3_side 2 = .ok (.lcmp, 1) := by decide +kernel
theorem dX3_side_3 : decode cX3_side 3 = .ok (.ifCond .ge 7, 3) := by decide +kernel
theorem dX3_side_6 : decode cX3_side 6 = .ok (.iconst (-1), 1) := by decide +kernel
theorem dX3_side_7 : decode cX3_side 7 = .ok (.goto 14, 3) := by decide +kernel
theorem dX3_side_10 : decode cX3_side 10 = .ok (.lload_n 0, 1) := by decide +kernel
theorem dX3_side_11 : decode cX3_side 11 = .ok (.lload_n 2, 1) := by decide +kernel
theorem dX3_side_12 : decode cX3_side 12 = .ok (.lcmp, 1) := by decide +kernel
theorem dX3_side_13 : decode cX3_side 13 = .ok (.ifCond .le 7, 3) := by decide +kernel
theorem dX3_side_16 : decode cX3_side 16 = .ok (.iconst 1, 1) := by decide +kernel
theorem dX3_side_17 : decode cX3_side 17 = .ok (.goto 4, 3) := by decide +kernel
theorem dX3_side_20 : decode cX3_side 20 = .ok (.iconst 0, 1) := by decide +kernel
theorem dX3_side_21 : decode cX3_side 21 = .ok (.ireturn, 1) := by decide +kernel
theorem dX3_sizeOf_0 : decode cX3_sizeOf 0 = .ok (.lload_n 0, 1) := by decide +kernel
theorem dX3_sizeOf_1 : decode cX3_sizeOf 1 = .ok (.lconst 0, 1) := by decide +kernel
theorem dX3_sizeOf_2 : decode cX3_sizeOf 2 = .ok (.lcmp, 1) := by decide +kernel
theorem dX3_sizeOf_3 : decode cX3_sizeOf 3 = .ok (.ifCond .ge 8, 3) := by decide +kernel
theorem dX3_sizeOf_6 : decode cX3_sizeOf 6 = .ok (.lload_n 0, 1) := by decide +kernel
theorem dX3_sizeOf_7 : decode cX3_sizeOf 7 = .ok (.lneg, 1) := by decide +kernel
theorem dX3_sizeOf_8 : decode cX3_sizeOf 8 = .ok (.goto 4, 3) := by decide +kernel
theorem dX3_sizeOf_11 : decode cX3_sizeOf 11 = .ok (.lload_n 0, 1) := by decide +kernel
theorem dX3_sizeOf_12 : decode cX3_sizeOf 12 = .ok (.lreturn, 1) := by decide +kernel
theorem dX3_digitsOf_0 : decode cX3_digitsOf 0 = .ok (.iconst 1, 1) := by decide +kernel
theorem dX3_digitsOf_1 : decode cX3_digitsOf 1 = .ok (.istore_n 2, 1) := by decide +kernel
theorem dX3_digitsOf_2 : decode cX3_digitsOf 2 = .ok (.lload_n 0, 1) := by decide +kernel
theorem dX3_digitsOf_3 : decode cX3_digitsOf 3 = .ok (.invokestatic 40, 3) := by decide +kernel
theorem dX3_digitsOf_6 : decode cX3_digitsOf 6 = .ok (.ldc2_w 38, 3) := by decide +kernel
theorem dX3_digitsOf_9 : decode cX3_digitsOf 9 = .ok (.ldiv, 1) := by decide +kernel
theorem dX3_digitsOf_10 : decode cX3_digitsOf 10 = .ok (.lstore_n 3, 1) := by decide +kernel
theorem dX3_digitsOf_11 : decode cX3_digitsOf 11 = .ok (.lload_n 3, 1) := by decide +kernel
theorem dX3_digitsOf_12 : decode cX3_digitsOf 12 = .ok (.lconst 0, 1) := by decide +kernel
theorem dX3_digitsOf_13 : decode cX3_digitsOf 13 = .ok (.lcmp, 1) := by decide +kernel
theorem dX3_digitsOf_14 : decode cX3_digitsOf 14 = .ok (.ifCond .le 15, 3) := by decide +kernel
theorem dX3_digitsOf_17 : decode cX3_digitsOf 17 = .ok (.iinc 2 1, 3) := by decide +kernel
theorem dX3_digitsOf_20 : decode cX3_digitsOf 20 = .ok (.lload_n 3, 1) := by decide +kernel
theorem dX3_digitsOf_21 : decode cX3_digitsOf 21 = .ok (.ldc2_w 38, 3) := by decide +kernel
theorem dX3_digitsOf_24 : decode cX3_digitsOf 24 = .ok (.ldiv, 1) := by decide +kernel
theorem dX3_digitsOf_25 : decode cX3_digitsOf 25 = .ok (.lstore_n 3, 1) := by decide +kernel
theorem dX3_digitsOf_26 : decode cX3_digitsOf 26 = .ok (.goto (-15), 3) := by decide +kernel
theorem dX3_digitsOf_29 : decode cX3_digitsOf 29 = .ok (.iload_n 2, 1) := by decide +kernel
theorem dX3_digitsOf_30 : decode cX3_digitsOf 30 = .ok (.ireturn, 1) := by decide +kernel
theorem dX3_rounded_0 : decode cX3_rounded 0 = .ok (.lload_n 0, 1) := by decide +kernel
theorem dX3_rounded_1 : decode cX3_rounded 1 = .ok (.lload_n 2, 1) := by decide +kernel
theorem dX3_rounded_2 : decode cX3_rounded 2 = .ok (.ldiv, 1) := by decide +kernel
theorem dX3_rounded_3 : decode cX3_rounded 3 = .ok (.lstore 5, 2) := by decide +kernel
theorem dX3_rounded_5 : decode cX3_rounded 5 = .ok (.lload 5, 2) := by decide +kernel
theorem dX3_rounded_7 : decode cX3_rounded 7 = .ok (.lload_n 2, 1) := by decide +kernel
theorem dX3_rounded_8 : decode cX3_rounded 8 = .ok (.lmul, 1) := by decide +kernel
theorem dX3_rounded_9 : decode cX3_rounded 9 = .ok (.lload_n 0, 1) := by decide +kernel
theorem dX3_rounded_10 : decode cX3_rounded 10 = .ok (.lcmp, 1) := by decide +kernel
theorem dX3_rounded_11 : decode cX3_rounded 11 = .ok (.ifCond .le 9, 3) := by decide +kernel
theorem dX3_rounded_14 : decode cX3_rounded 14 = .ok (.lload 5, 2) := by decide +kernel
theorem dX3_rounded_16 : decode cX3_rounded 16 = .ok (.lconst 1, 1) := by decide +kernel
theorem dX3_rounded_17 : decode cX3_rounded 17 = .ok (.lsub, 1) := by decide +kernel
theorem dX3_rounded_18 : decode cX3_rounded 18 = .ok (.lstore 5, 2) := by decide +kernel
theorem dX3_rounded_20 : decode cX3_rounded 20 = .ok (.lload 5, 2) := by decide +kernel
theorem dX3_rounded_22 : decode cX3_rounded 22 = .ok (.lload_n 2, 1) := by decide +kernel
theorem dX3_rounded_23 : decode cX3_rounded 23 = .ok (.lmul, 1) := by decide +kernel
theorem dX3_rounded_24 : decode cX3_rounded 24 = .ok (.lload_n 0, 1) := by decide +kernel
theorem dX3_rounded_25 : decode cX3_rounded 25 = .ok (.lcmp, 1) := by decide +kernel
theorem dX3_rounded_26 : decode cX3_rounded 26 = .ok (.ifCond .ne 6, 3) := by decide +kernel
theorem dX3_rounded_29 : decode cX3_rounded 29 = .ok (.lload 5, 2) := by decide +kernel
theorem dX3_rounded_31 : decode cX3_rounded 31 = .ok (.lreturn, 1) := by decide +kernel
theorem dX3_rounded_32 : decode cX3_rounded 32 = .ok (.lload_n 0, 1) := by decide +kernel
theorem dX3_rounded_33 : decode cX3_rounded 33 = .ok (.lconst 0, 1) := by decide +kernel
theorem dX3_rounded_34 : decode cX3_rounded 34 = .ok (.lcmp, 1) := by decide +kernel
theorem dX3_rounded_35 : decode cX3_rounded 35 = .ok (.ifCond .le 10, 3) := by decide +kernel
theorem dX3_rounded_38 : decode cX3_rounded 38 = .ok (.lload 5, 2) := by decide +kernel
theorem dX3_rounded_40 : decode cX3_rounded 40 = .ok (.lconst 1, 1) := by decide +kernel
theorem dX3_rounded_41 : decode cX3_rounded 41 = .ok (.ladd, 1) := by decide +kernel
theorem dX3_rounded_42 : decode cX3_rounded 42 = .ok (.goto 5, 3) := by decide +kernel
theorem dX3_rounded_45 : decode cX3_rounded 45 = .ok (.lload 5, 2) := by decide +kernel
theorem dX3_rounded_47 : decode cX3_rounded 47 = .ok (.lstore 7, 2) := by decide +kernel
theorem dX3_rounded_49 : decode cX3_rounded 49 = .ok (.lload_n 0, 1) := by decide +kernel
theorem dX3_rounded_50 : decode cX3_rounded 50 = .ok (.lconst 0, 1) := by decide +kernel
theorem dX3_rounded_51 : decode cX3_rounded 51 = .ok (.lcmp, 1) := by decide +kernel
theorem dX3_rounded_52 : decode cX3_rounded 52 = .ok (.ifCond .le 8, 3) := by decide +kernel
theorem dX3_rounded_55 : decode cX3_rounded 55 = .ok (.lload 5, 2) := by decide +kernel
theorem dX3_rounded_57 : decode cX3_rounded 57 = .ok (.goto 7, 3) := by decide +kernel
theorem dX3_rounded_60 : decode cX3_rounded 60 = .ok (.lload 5, 2) := by decide +kernel
theorem dX3_rounded_62 : decode cX3_rounded 62 = .ok (.lconst 1, 1) := by decide +kernel
theorem dX3_rounded_63 : decode cX3_rounded 63 = .ok (.ladd, 1) := by decide +kernel
theorem dX3_rounded_64 : decode cX3_rounded 64 = .ok (.lstore 9, 2) := by decide +kernel
theorem dX3_rounded_66 : decode cX3_rounded 66 = .ok (.iload 4, 2) := by decide +kernel
theorem dX3_rounded_68 : decode cX3_rounded 68 = .ok (.bipush 7, 2) := by decide +kernel
theorem dX3_rounded_70 : decode cX3_rounded 70 = .ok (.if_icmp .ne 7, 3) := by decide +kernel
theorem dX3_rounded_73 : decode cX3_rounded 73 = .ok (.ldc2_w 44, 3) := by decide +kernel
theorem dX3_rounded_76 : decode cX3_rounded 76 = .ok (.lreturn, 1) := by decide +kernel
theorem dX3_rounded_77 : decode cX3_rounded 77 = .ok (.iload 4, 2) := by decide +kernel
theorem dX3_rounded_79 : decode cX3_rounded 79 = .ok (.ifCond .ne 6, 3) := by decide +kernel
theorem dX3_rounded_82 : decode cX3_rounded 82 = .ok (.lload 7, 2) := by decide +kernel
theorem dX3_rounded_84 : decode cX3_rounded 84 = .ok (.lreturn, 1) := by decide +kernel
theorem dX3_rounded_85 : decode cX3_rounded 85 = .ok (.iload 4, 2) := by decide +kernel
theorem dX3_rounded_87 : decode cX3_rounded 87 = .ok (.iconst 1, 1) := by decide +kernel
theorem dX3_rounded_88 : decode cX3_rounded 88 = .ok (.if_icmp .ne 6, 3) := by decide +kernel
theorem dX3_rounded_91 : decode cX3_rounded 91 = .ok (.lload 9, 2) := by decide +kernel
theorem dX3_rounded_93 : decode cX3_rounded 93 = .ok (.lreturn, 1) := by decide +kernel
theorem dX3_rounded_94 : decode cX3_rounded 94 = .ok (.iload 4, 2) := by decide +kernel
theorem dX3_rounded_96 : decode cX3_rounded 96 = .ok (.iconst 2, 1) := by decide +kernel
theorem dX3_rounded_97 : decode cX3_rounded 97 = .ok (.if_icmp .ne 8, 3) := by decide +kernel
theorem dX3_rounded_100 : decode cX3_rounded 100 = .ok (.lload 5, 2) := by decide +kernel
theorem dX3_rounded_102 : decode cX3_rounded 102 = .ok (.lconst 1, 1) := by decide +kernel
theorem dX3_rounded_103 : decode cX3_rounded 103 = .ok (.ladd, 1) := by decide +kernel
theorem dX3_rounded_104 : decode cX3_rounded 104 = .ok (.lreturn, 1) := by decide +kernel
theorem dX3_rounded_105 : decode cX3_rounded 105 = .ok (.iload 4, 2) := by decide +kernel
theorem dX3_rounded_107 : decode cX3_rounded 107 = .ok (.iconst 3, 1) := by decide +kernel
theorem dX3_rounded_108 : decode cX3_rounded 108 = .ok (.if_icmp .ne 6, 3) := by decide +kernel
theorem dX3_rounded_111 : decode cX3_rounded 111 = .ok (.lload 5, 2) := by decide +kernel
theorem dX3_rounded_113 : decode cX3_rounded 113 = .ok (.lreturn, 1) := by decide +kernel
theorem dX3_rounded_114 : decode cX3_rounded 114 = .ok (.ldc2_w 46, 3) := by decide +kernel
theorem dX3_rounded_117 : decode cX3_rounded 117 = .ok (.lload_n 0, 1) := by decide +kernel
theorem dX3_rounded_118 : decode cX3_rounded 118 = .ok (.lload 5, 2) := by decide +kernel
theorem dX3_rounded_120 : decode cX3_rounded 120 = .ok (.lload_n 2, 1) := by decide +kernel
theorem dX3_rounded_121 : decode cX3_rounded 121 = .ok (.lmul, 1) := by decide +kernel
theorem dX3_rounded_122 : decode cX3_rounded 122 = .ok (.lsub, 1) := by decide +kernel
theorem dX3_rounded_123 : decode cX3_rounded 123 = .ok (.lmul, 1) := by decide +kernel
theorem dX3_rounded_124 : decode cX3_rounded 124 = .ok (.lload_n 2, 1) := by decide +kernel
theorem dX3_rounded_125 : decode cX3_rounded 125 = .ok (.invokestatic 48, 3) := by decide +kernel
theorem dX3_rounded_128 : decode cX3_rounded 128 = .ok (.istore 11, 2) := by decide +kernel
theorem dX3_rounded_130 : decode cX3_rounded 130 = .ok (.iload 11, 2) := by decide +kernel
theorem dX3_rounded_132 : decode cX3_rounded 132 = .ok (.ifCond .ge 6, 3) := by decide +kernel
theorem dX3_rounded_135 : decode cX3_rounded 135 = .ok (.lload 5, 2) := by decide +kernel
theorem dX3_rounded_137 : decode cX3_rounded 137 = .ok (.lreturn, 1) := by decide +kernel
theorem dX3_rounded_138 : decode cX3_rounded 138 = .ok (.iload 11, 2) := by decide +kernel
theorem dX3_rounded_140 : decode cX3_rounded 140 = .ok (.ifCond .le 8, 3) := by decide +kernel
theorem dX3_rounded_143 : decode cX3_rounded 143 = .ok (.lload 5, 2) := by decide +kernel
theorem dX3_rounded_145 : decode cX3_rounded 145 = .ok (.lconst 1, 1) := by decide +kernel
theorem dX3_rounded_146 : decode cX3_rounded 146 = .ok (.ladd, 1) := by decide +kernel
theorem dX3_rounded_147 : decode cX3_rounded 147 = .ok (.lreturn, 1) := by decide +kernel
theorem dX3_rounded_148 : decode cX3_rounded 148 = .ok (.iload 4, 2) := by decide +kernel
theorem dX3_rounded_150 : decode cX3_rounded 150 = .ok (.iconst 4, 1) := by decide +kernel
theorem dX3_rounded_151 : decode cX3_rounded 151 = .ok (.if_icmp .ne 8, 3) := by decide +kernel
theorem dX3_rounded_154 : decode cX3_rounded 154 = .ok (.lload 7, 2) := by decide +kernel
theorem dX3_rounded_156 : decode cX3_rounded 156 = .ok (.goto 34, 3) := by decide +kernel
theorem dX3_rounded_159 : decode cX3_rounded 159 = .ok (.iload 4, 2) := by decide +kernel
theorem dX3_rounded_161 : decode cX3_rounded 161 = .ok (.iconst 5, 1) := by decide +kernel
theorem dX3_rounded_162 : decode cX3_rounded 162 = .ok (.if_icmp .ne 8, 3) := by decide +kernel
theorem dX3_rounded_165 : decode cX3_rounded 165 = .ok (.lload 9, 2) := by decide +kernel
theorem dX3_rounded_167 : decode cX3_rounded 167 = .ok (.goto 23, 3) := by decide +kernel
theorem dX3_rounded_170 : decode cX3_rounded 170 = .ok (.lload 5, 2) := by decide +kernel
theorem dX3_rounded_172 : decode cX3_rounded 172 = .ok (.ldc2_w 46, 3) := by decide +kernel
theorem dX3_rounded_175 : decode cX3_rounded 175 = .ok (.lrem, 1) := by decide +kernel
theorem dX3_rounded_176 : decode cX3_rounded 176 = .ok (.lconst 0, 1) := by decide +kernel
theorem dX3_rounded_177 : decode cX3_rounded 177 = .ok (.lcmp, 1) := by decide +kernel
theorem dX3_rounded_178 : decode cX3_rounded 178 = .ok (.ifCond .ne 8, 3) := by decide +kernel
theorem dX3_rounded_181 : decode cX3_rounded 181 = .ok (.lload 5, 2) := by decide +kernel
theorem dX3_rounded_183 : decode cX3_rounded 183 = .ok (.goto 7, 3) := by decide +kernel
theorem dX3_rounded_186 : decode cX3_rounded 186 = .ok (.lload 5, 2) := by decide +kernel
theorem dX3_rounded_188 : decode cX3_rounded 188 = .ok (.lconst 1, 1) := by decide +kernel
theorem dX3_rounded_189 : decode cX3_rounded 189 = .ok (.ladd, 1) := by decide +kernel
theorem dX3_rounded_190 : decode cX3_rounded 190 = .ok (.lreturn, 1) := by decide +kernel
theorem dX3_nay_0 : decode cX3_nay 0 = .ok (.aload_n 0, 1) := by decide +kernel
theorem dX3_nay_1 : decode cX3_nay 1 = .ok (.getfield 27, 3) := by decide +kernel
theorem dX3_nay_4 : decode cX3_nay 4 = .ok (.iconst 2, 1) := by decide +kernel
theorem dX3_nay_5 : decode cX3_nay 5 = .ok (.dup2, 1) := by decide +kernel
theorem dX3_nay_6 : decode cX3_nay 6 = .ok (.iaload, 1) := by decide +kernel
theorem dX3_nay_7 : decode cX3_nay 7 = .ok (.iconst 1, 1) := by decide +kernel
theorem dX3_nay_8 : decode cX3_nay 8 = .ok (.iadd, 1) := by decide +kernel
theorem dX3_nay_9 : decode cX3_nay 9 = .ok (.iastore, 1) := by decide +kernel
theorem dX3_nay_10 : decode cX3_nay 10 = .ok (.bipush (-9), 2) := by decide +kernel
theorem dX3_nay_12 : decode cX3_nay 12 = .ok (.ireturn, 1) := by decide +kernel
theorem dX3_come_0 : decode cX3_come 0 = .ok (.lload_n 2, 1) := by decide +kernel
theorem dX3_come_1 : decode cX3_come 1 = .ok (.ldc2_w 44, 3) := by decide +kernel
theorem dX3_come_4 : decode cX3_come 4 = .ok (.lcmp, 1) := by decide +kernel
theorem dX3_come_5 : decode cX3_come 5 = .ok (.ifCond .eq 20, 3) := by decide +kernel
theorem dX3_come_8 : decode cX3_come 8 = .ok (.lload_n 2, 1) := by decide +kernel
theorem dX3_come_9 : decode cX3_come 9 = .ok (.invokestatic 40, 3) := by decide +kernel
theorem dX3_come_12 : decode cX3_come 12 = .ok (.ldc2_w 52, 3) := by decide +kernel
theorem dX3_come_15 : decode cX3_come 15 = .ok (.lcmp, 1) := by decide +kernel
theorem dX3_come_16 : decode cX3_come 16 = .ok (.ifCond .gt 9, 3) := by decide +kernel
theorem dX3_come_19 : decode cX3_come 19 = .ok (.iload 4, 2) := by decide +kernel
theorem dX3_come_21 : decode cX3_come 21 = .ok (.iconst 3, 1) := by decide +kernel
theorem dX3_come_22 : decode cX3_come 22 = .ok (.if_icmp .le 8, 3) := by decide +kernel
theorem dX3_come_25 : decode cX3_come 25 = .ok (.aload_n 0, 1) := by decide +kernel
theorem dX3_come_26 : decode cX3_come 26 = .ok (.invokevirtual 54, 3) := by decide +kernel
theorem dX3_come_29 : decode cX3_come 29 = .ok (.ireturn, 1) := by decide +kernel
theorem dX3_come_30 : decode cX3_come 30 = .ok (.aload_n 0, 1) := by decide +kernel
theorem dX3_come_31 : decode cX3_come 31 = .ok (.getfield 9, 3) := by decide +kernel
theorem dX3_come_34 : decode cX3_come 34 = .ok (.iload_n 1, 1) := by decide +kernel
theorem dX3_come_35 : decode cX3_come 35 = .ok (.iaload, 1) := by decide +kernel
theorem dX3_come_36 : decode cX3_come 36 = .ok (.i2l, 1) := by decide +kernel
theorem dX3_come_37 : decode cX3_come 37 = .ok (.lload_n 2, 1) := by decide +kernel
theorem dX3_come_38 : decode cX3_come 38 = .ok (.lcmp, 1) := by decide +kernel
theorem dX3_come_39 : decode cX3_come 39 = .ok (.ifCond .ne 18, 3) := by decide +kernel
theorem dX3_come_42 : decode cX3_come 42 = .ok (.aload_n 0, 1) := by decide +kernel
theorem dX3_come_43 : decode cX3_come 43 = .ok (.getfield 15, 3) := by decide +kernel
theorem dX3_come_46 : decode cX3_come 46 = .ok (.iload_n 1, 1) := by decide +kernel
theorem dX3_come_47 : decode cX3_come 47 = .ok (.iaload, 1) := by decide +kernel
theorem dX3_come_48 : decode cX3_come 48 = .ok (.iload 4, 2) := by decide +kernel
theorem dX3_come_50 : decode cX3_come 50 = .ok (.if_icmp .ne 7, 3) := by decide +kernel
theorem dX3_come_53 : decode cX3_come 53 = .ok (.iconst 1, 1) := by decide +kernel
theorem dX3_come_54 : decode cX3_come 54 = .ok (.goto 4, 3) := by decide +kernel
theorem dX3_come_57 : decode cX3_come 57 = .ok (.iconst 0, 1) := by decide +kernel
theorem dX3_come_58 : decode cX3_come 58 = .ok (.istore 5, 2) := by decide +kernel
theorem dX3_come_60 : decode cX3_come 60 = .ok (.aload_n 0, 1) := by decide +kernel
theorem dX3_come_61 : decode cX3_come 61 = .ok (.getfield 9, 3) := by decide +kernel
theorem dX3_come_64 : decode cX3_come 64 = .ok (.iload_n 1, 1) := by decide +kernel
theorem dX3_come_65 : decode cX3_come 65 = .ok (.lload_n 2, 1) := by decide +kernel
theorem dX3_come_66 : decode cX3_come 66 = .ok (.l2i, 1) := by decide +kernel
theorem dX3_come_67 : decode cX3_come 67 = .ok (.iastore, 1) := by decide +kernel
theorem dX3_come_68 : decode cX3_come 68 = .ok (.aload_n 0, 1) := by decide +kernel
theorem dX3_come_69 : decode cX3_come 69 = .ok (.getfield 15, 3) := by decide +kernel
theorem dX3_come_72 : decode cX3_come 72 = .ok (.iload_n 1, 1) := by decide +kernel
theorem dX3_come_73 : decode cX3_come 73 = .ok (.iload 4, 2) := by decide +kernel
theorem dX3_come_75 : decode cX3_come 75 = .ok (.iastore, 1) := by decide +kernel
theorem dX3_come_76 : decode cX3_come 76 = .ok (.aload_n 0, 1) := by decide +kernel
theorem dX3_come_77 : decode cX3_come 77 = .ok (.getfield 27, 3) := by decide +kernel
theorem dX3_come_80 : decode cX3_come 80 = .ok (.iconst 0, 1) := by decide +kernel
theorem dX3_come_81 : decode cX3_come 81 = .ok (.dup2, 1) := by decide +kernel
theorem dX3_come_82 : decode cX3_come 82 = .ok (.iaload, 1) := by decide +kernel
theorem dX3_come_83 : decode cX3_come 83 = .ok (.iconst 1, 1) := by decide +kernel
theorem dX3_come_84 : decode cX3_come 84 = .ok (.iadd, 1) := by decide +kernel
theorem dX3_come_85 : decode cX3_come 85 = .ok (.iastore, 1) := by decide +kernel
theorem dX3_come_86 : decode cX3_come 86 = .ok (.iload 5, 2) := by decide +kernel
theorem dX3_come_88 : decode cX3_come 88 = .ok (.ifCond .eq 7, 3) := by decide +kernel
theorem dX3_come_91 : decode cX3_come 91 = .ok (.iconst 0, 1) := by decide +kernel
theorem dX3_come_92 : decode cX3_come 92 = .ok (.goto 4, 3) := by decide +kernel
theorem dX3_come_95 : decode cX3_come 95 = .ok (.iconst 1, 1) := by decide +kernel
theorem dX3_come_96 : decode cX3_come 96 = .ok (.ireturn, 1) := by decide +kernel
theorem dX3_units_0 : decode cX3_units 0 = .ok (.aload_n 0, 1) := by decide +kernel
theorem dX3_units_1 : decode cX3_units 1 = .ok (.getfield 9, 3) := by decide +kernel
theorem dX3_units_4 : decode cX3_units 4 = .ok (.iload_n 1, 1) := by decide +kernel
theorem dX3_units_5 : decode cX3_units 5 = .ok (.iaload, 1) := by decide +kernel
theorem dX3_units_6 : decode cX3_units 6 = .ok (.i2l, 1) := by decide +kernel
theorem dX3_units_7 : decode cX3_units 7 = .ok (.iload_n 2, 1) := by decide +kernel
theorem dX3_units_8 : decode cX3_units 8 = .ok (.aload_n 0, 1) := by decide +kernel
theorem dX3_units_9 : decode cX3_units 9 = .ok (.getfield 15, 3) := by decide +kernel
theorem dX3_units_12 : decode cX3_units 12 = .ok (.iload_n 1, 1) := by decide +kernel
theorem dX3_units_13 : decode cX3_units 13 = .ok (.iaload, 1) := by decide +kernel
theorem dX3_units_14 : decode cX3_units 14 = .ok (.isub, 1) := by decide +kernel
theorem dX3_units_15 : decode cX3_units 15 = .ok (.invokestatic 58, 3) := by decide +kernel
theorem dX3_units_18 : decode cX3_units 18 = .ok (.lmul, 1) := by decide +kernel
theorem dX3_units_19 : decode cX3_units 19 = .ok (.lreturn, 1) := by decide +kernel
theorem dX3_most_0 : decode cX3_most 0 = .ok (.aload_n 0, 1) := by decide +kernel
theorem dX3_most_1 : decode cX3_most 1 = .ok (.getfield 15, 3) := by decide +kernel
theorem dX3_most_4 : decode cX3_most 4 = .ok (.iload_n 1, 1) := by decide +kernel
theorem dX3_most_5 : decode cX3_most 5 = .ok (.iaload, 1) := by decide +kernel
theorem dX3_most_6 : decode cX3_most 6 = .ok (.aload_n 0, 1) := by decide +kernel
theorem dX3_most_7 : decode cX3_most 7 = .ok (.getfield 15, 3) := by decide +kernel
theorem dX3_most_10 : decode cX3_most 10 = .ok (.iload_n 2, 1) := by decide +kernel
theorem dX3_most_11 : decode cX3_most 11 = .ok (.iaload, 1) := by decide +kernel
theorem dX3_most_12 : decode cX3_most 12 = .ok (.if_icmp .le 12, 3) := by decide +kernel
theorem dX3_most_15 : decode cX3_most 15 = .ok (.aload_n 0, 1) := by decide +kernel
theorem dX3_most_16 : decode cX3_most 16 = .ok (.getfield 15, 3) := by decide +kernel
theorem dX3_most_19 : decode cX3_most 19 = .ok (.iload_n 1, 1) := by decide +kernel
theorem dX3_most_20 : decode cX3_most 20 = .ok (.iaload, 1) := by decide +kernel
theorem dX3_most_21 : decode cX3_most 21 = .ok (.goto 9, 3) := by decide +kernel
theorem dX3_most_24 : decode cX3_most 24 = .ok (.aload_n 0, 1) := by decide +kernel
theorem dX3_most_25 : decode cX3_most 25 = .ok (.getfield 15, 3) := by decide +kernel
theorem dX3_most_28 : decode cX3_most 28 = .ok (.iload_n 2, 1) := by decide +kernel
theorem dX3_most_29 : decode cX3_most 29 = .ok (.iaload, 1) := by decide +kernel
theorem dX3_most_30 : decode cX3_most 30 = .ok (.ireturn, 1) := by decide +kernel
theorem dX3_ordered_0 : decode cX3_ordered 0 = .ok (.aload_n 0, 1) := by decide +kernel
theorem dX3_ordered_1 : decode cX3_ordered 1 = .ok (.iload_n 1, 1) := by decide +kernel
theorem dX3_ordered_2 : decode cX3_ordered 2 = .ok (.iconst 3, 1) := by decide +kernel
theorem dX3_ordered_3 : decode cX3_ordered 3 = .ok (.invokevirtual 62, 3) := by decide +kernel
theorem dX3_ordered_6 : decode cX3_ordered 6 = .ok (.aload_n 0, 1) := by decide +kernel
theorem dX3_ordered_7 : decode cX3_ordered 7 = .ok (.iload_n 2, 1) := by decide +kernel
theorem dX3_ordered_8 : decode cX3_ordered 8 = .ok (.iconst 3, 1) := by decide +kernel
theorem dX3_ordered_9 : decode cX3_ordered 9 = .ok (.invokevirtual 62, 3) := by decide +kernel
theorem dX3_ordered_12 : decode cX3_ordered 12 = .ok (.invokestatic 48, 3) := by decide +kernel
theorem dX3_ordered_15 : decode cX3_ordered 15 = .ok (.ireturn, 1) := by decide +kernel
theorem dX3_put_0 : decode cX3_put 0 = .ok (.aload_n 0, 1) := by decide +kernel
theorem dX3_put_1 : decode cX3_put 1 = .ok (.iload_n 1, 1) := by decide +kernel
theorem dX3_put_2 : decode cX3_put 2 = .ok (.invokestatic 66, 3) := by decide +kernel
theorem dX3_put_5 : decode cX3_put 5 = .ok (.iload_n 2, 1) := by decide +kernel
theorem dX3_put_6 : decode cX3_put 6 = .ok (.ldc 70, 2) := by decide +kernel
theorem dX3_put_8 : decode cX3_put 8 = .ok (.ldc 71, 2) := by decide +kernel
theorem dX3_put_10 : decode cX3_put 10 = .ok (.invokestatic 34, 3) := by decide +kernel
theorem dX3_put_13 : decode cX3_put 13 = .ok (.ifCond .ne 12, 3) := by decide +kernel
theorem dX3_put_16 : decode cX3_put 16 = .ok (.iload_n 3, 1) := by decide +kernel
theorem dX3_put_17 : decode cX3_put 17 = .ok (.iconst 0, 1) := by decide +kernel
theorem dX3_put_18 : decode cX3_put 18 = .ok (.iconst 3, 1) := by decide +kernel
theorem dX3_put_19 : decode cX3_put 19 = .ok (.invokestatic 34, 3) := by decide +kernel
theorem dX3_put_22 : decode cX3_put 22 = .ok (.ifCond .eq 7, 3) := by decide +kernel
theorem dX3_put_25 : decode cX3_put 25 = .ok (.iconst 1, 1) := by decide +kernel
theorem dX3_put_26 : decode cX3_put 26 = .ok (.goto 4, 3) := by decide +kernel
theorem dX3_put_29 : decode cX3_put 29 = .ok (.iconst 0, 1) := by decide +kernel
theorem dX3_put_30 : decode cX3_put 30 = .ok (.invokevirtual 72, 3) := by decide +kernel
theorem dX3_put_33 : decode cX3_put 33 = .ok (.ifCond .eq 5, 3) := by decide +kernel
theorem dX3_put_36 : decode cX3_put 36 = .ok (.iconst 0, 1) := by decide +kernel
theorem dX3_put_37 : decode cX3_put 37 = .ok (.ireturn, 1) := by decide +kernel
theorem dX3_put_38 : decode cX3_put 38 = .ok (.aload_n 0, 1) := by decide +kernel
theorem dX3_put_39 : decode cX3_put 39 = .ok (.iload_n 1, 1) := by decide +kernel
theorem dX3_put_40 : decode cX3_put 40 = .ok (.iload_n 2, 1) := by decide +kernel
theorem dX3_put_41 : decode cX3_put 41 = .ok (.i2l, 1) := by decide +kernel
theorem dX3_put_42 : decode cX3_put 42 = .ok (.iload_n 3, 1) := by decide +kernel
theorem dX3_put_43 : decode cX3_put 43 = .ok (.invokevirtual 76, 3) := by decide +kernel
theorem dX3_put_46 : decode cX3_put 46 = .ok (.ireturn, 1) := by decide +kernel
theorem dX3_write_0 : decode cX3_write 0 = .ok (.aload_n 0, 1) := by decide +kernel
theorem dX3_write_1 : decode cX3_write 1 = .ok (.iload_n 1, 1) := by decide +kernel
theorem dX3_write_2 : decode cX3_write 2 = .ok (.invokestatic 66, 3) := by decide +kernel
theorem dX3_write_5 : decode cX3_write 5 = .ok (.iload_n 3, 1) := by decide +kernel
theorem dX3_write_6 : decode cX3_write 6 = .ok (.iconst 0, 1) := by decide +kernel
theorem dX3_write_7 : decode cX3_write 7 = .ok (.ldc 71, 2) := by decide +kernel
theorem dX3_write_9 : decode cX3_write 9 = .ok (.invokestatic 34, 3) := by decide +kernel
theorem dX3_write_12 : decode cX3_write 12 = .ok (.ifCond .ne 30, 3) := by decide +kernel
theorem dX3_write_15 : decode cX3_write 15 = .ok (.iload 4, 2) := by decide +kernel
theorem dX3_write_17 : decode cX3_write 17 = .ok (.iconst 0, 1) := by decide +kernel
theorem dX3_write_18 : decode cX3_write 18 = .ok (.iconst 3, 1) := by decide +kernel
theorem dX3_write_19 : decode cX3_write 19 = .ok (.invokestatic 34, 3) := by decide +kernel
theorem dX3_write_22 : decode cX3_write 22 = .ok (.ifCond .ne 20, 3) := by decide +kernel
theorem dX3_write_25 : decode cX3_write 25 = .ok (.iload 5, 2) := by decide +kernel
theorem dX3_write_27 : decode cX3_write 27 = .ok (.ifCond .lt 15, 3) := by decide +kernel
theorem dX3_write_30 : decode cX3_write 30 = .ok (.iload 5, 2) := by decide +kernel
theorem dX3_write_32 : decode cX3_write 32 = .ok (.i2l, 1) := by decide +kernel
theorem dX3_write_33 : decode cX3_write 33 = .ok (.iload 4, 2) := by decide +kernel
theorem dX3_write_35 : decode cX3_write 35 = .ok (.invokestatic 58, 3) := by decide +kernel
theorem dX3_write_38 : decode cX3_write 38 = .ok (.lcmp, 1) := by decide +kernel
theorem dX3_write_39 : decode cX3_write 39 = .ok (.ifCond .lt 7, 3) := by decide +kernel
theorem dX3_write_42 : decode cX3_write 42 = .ok (.iconst 1, 1) := by decide +kernel
theorem dX3_write_43 : decode cX3_write 43 = .ok (.goto 4, 3) := by decide +kernel
theorem dX3_write_46 : decode cX3_write 46 = .ok (.iconst 0, 1) := by decide +kernel
theorem dX3_write_47 : decode cX3_write 47 = .ok (.invokevirtual 72, 3) := by decide +kernel
theorem dX3_write_50 : decode cX3_write 50 = .ok (.ifCond .eq 5, 3) := by decide +kernel
theorem dX3_write_53 : decode cX3_write 53 = .ok (.iconst 0, 1) := by decide +kernel
theorem dX3_write_54 : decode cX3_write 54 = .ok (.ireturn, 1) := by decide +kernel
theorem dX3_write_55 : decode cX3_write 55 = .ok (.iload_n 3, 1) := by decide +kernel
theorem dX3_write_56 : decode cX3_write 56 = .ok (.i2l, 1) := by decide +kernel
theorem dX3_write_57 : decode cX3_write 57 = .ok (.iload 4, 2) := by decide +kernel
theorem dX3_write_59 : decode cX3_write 59 = .ok (.invokestatic 58, 3) := by decide +kernel
theorem dX3_write_62 : decode cX3_write 62 = .ok (.lmul, 1) := by decide +kernel
theorem dX3_write_63 : decode cX3_write 63 = .ok (.iload 5, 2) := by decide +kernel
theorem dX3_write_65 : decode cX3_write 65 = .ok (.i2l, 1) := by decide +kernel
theorem dX3_write_66 : decode cX3_write 66 = .ok (.ladd, 1) := by decide +kernel
theorem dX3_write_67 : decode cX3_write 67 = .ok (.lstore 6, 2) := by decide +kernel
theorem dX3_write_69 : decode cX3_write 69 = .ok (.aload_n 0, 1) := by decide +kernel
theorem dX3_write_70 : decode cX3_write 70 = .ok (.iload_n 1, 1) := by decide +kernel
theorem dX3_write_71 : decode cX3_write 71 = .ok (.iload_n 2, 1) := by decide +kernel
theorem dX3_write_72 : decode cX3_write 72 = .ok (.ifCond .eq 9, 3) := by decide +kernel
theorem dX3_write_75 : decode cX3_write 75 = .ok (.lload 6, 2) := by decide +kernel
theorem dX3_write_77 : decode cX3_write 77 = .ok (.lneg, 1) := by decide +kernel
theorem dX3_write_78 : decode cX3_write 78 = .ok (.goto 5, 3) := by decide +kernel
theorem dX3_write_81 : decode cX3_write 81 = .ok (.lload 6, 2) := by decide +kernel
theorem dX3_write_83 : decode cX3_write 83 = .ok (.iload 4, 2) := by decide +kernel
theorem dX3_write_85 : decode cX3_write 85 = .ok (.invokevirtual 76, 3) := by decide +kernel
theorem dX3_write_88 : decode cX3_write 88 = .ok (.ireturn, 1) := by decide +kernel
theorem dX3_copy_0 : decode cX3_copy 0 = .ok (.aload_n 0, 1) := by decide +kernel
theorem dX3_copy_1 : decode cX3_copy 1 = .ok (.iload_n 1, 1) := by decide +kernel
theorem dX3_copy_2 : decode cX3_copy 2 = .ok (.invokestatic 66, 3) := by decide +kernel
theorem dX3_copy_5 : decode cX3_copy 5 = .ok (.ifCond .ne 10, 3) := by decide +kernel
theorem dX3_copy_8 : decode cX3_copy 8 = .ok (.iload_n 2, 1) := by decide +kernel
theorem dX3_copy_9 : decode cX3_copy 9 = .ok (.invokestatic 66, 3) := by decide +kernel
theorem dX3_copy_12 : decode cX3_copy 12 = .ok (.ifCond .eq 7, 3) := by decide +kernel
theorem dX3_copy_15 : decode cX3_copy 15 = .ok (.iconst 1, 1) := by decide +kernel
theorem dX3_copy_16 : decode cX3_copy 16 = .ok (.goto 4, 3) := by decide +kernel
theorem dX3_copy_19 : decode cX3_copy 19 = .ok (.iconst 0, 1) := by decide +kernel
theorem dX3_copy_20 : decode cX3_copy 20 = .ok (.iconst 0, 1) := by decide +kernel
theorem dX3_copy_21 : decode cX3_copy 21 = .ok (.invokevirtual 72, 3) := by decide +kernel
theorem dX3_copy_24 : decode cX3_copy 24 = .ok (.ifCond .eq 7, 3) := by decide +kernel
theorem dX3_copy_27 : decode cX3_copy 27 = .ok (.iconst 0, 1) := by decide +kernel
theorem dX3_copy_28 : decode cX3_copy 28 = .ok (.goto 21, 3) := by decide +kernel
theorem dX3_copy_31 : decode cX3_copy 31 = .ok (.aload_n 0, 1) := by decide +kernel
theorem dX3_copy_32 : decode cX3_copy 32 = .ok (.iload_n 2, 1) := by decide +kernel
theorem dX3_copy_33 : decode cX3_copy 33 = .ok (.aload_n 0, 1) := by decide +kernel
theorem dX3_copy_34 : decode cX3_copy 34 = .ok (.getfield 9, 3) := by decide +kernel
theorem dX3_copy_37 : decode cX3_copy 37 = .ok (.iload_n 1, 1) := by decide +kernel
theorem dX3_copy_38 : decode cX3_copy 38 = .ok (.iaload, 1) := by decide +kernel
theorem dX3_copy_39 : decode cX3_copy 39 = .ok (.i2l, 1) := by decide +kernel
theorem dX3_copy_40 : decode cX3_copy 40 = .ok (.aload_n 0, 1) := by decide +kernel
theorem dX3_copy_41 : decode cX3_copy 41 = .ok (.getfield 15, 3) := by decide +kernel
theorem dX3_copy_44 : decode cX3_copy 44 = .ok (.iload_n 1, 1) := by decide +kernel
theorem dX3_copy_45 : decode cX3_copy 45 = .ok (.iaload, 1) := by decide +kernel
theorem dX3_copy_46 : decode cX3_copy 46 = .ok (.invokevirtual 76, 3) := by decide +kernel
theorem dX3_copy_49 : decode cX3_copy 49 = .ok (.ireturn, 1) := by decide +kernel
theorem dX3_negate_0 : decode cX3_negate 0 = .ok (.aload_n 0, 1) := by decide +kernel
theorem dX3_negate_1 : decode cX3_negate 1 = .ok (.iload_n 1, 1) := by decide +kernel
theorem dX3_negate_2 : decode cX3_negate 2 = .ok (.invokestatic 66, 3) := by decide +kernel
theorem dX3_negate_5 : decode cX3_negate 5 = .ok (.iconst 0, 1) := by decide +kernel
theorem dX3_negate_6 : decode cX3_negate 6 = .ok (.invokevirtual 72, 3) := by decide +kernel
theorem dX3_negate_9 : decode cX3_negate 9 = .ok (.ifCond .eq 7, 3) := by decide +kernel
theorem dX3_negate_12 : decode cX3_negate 12 = .ok (.iconst 0, 1) := by decide +kernel
theorem dX3_negate_13 : decode cX3_negate 13 = .ok (.goto 22, 3) := by decide +kernel
theorem dX3_negate_16 : decode cX3_negate 16 = .ok (.aload_n 0, 1) := by decide +kernel
theorem dX3_negate_17 : decode cX3_negate 17 = .ok (.iload_n 1, 1) := by decide +kernel
theorem dX3_negate_18 : decode cX3_negate 18 = .ok (.aload_n 0, 1) := by decide +kernel
theorem dX3_negate_19 : decode cX3_negate 19 = .ok (.getfield 9, 3) := by decide +kernel
theorem dX3_negate_22 : decode cX3_negate 22 = .ok (.iload_n 1, 1) := by decide +kernel
theorem dX3_negate_23 : decode cX3_negate 23 = .ok (.iaload, 1) := by decide +kernel
theorem dX3_negate_24 : decode cX3_negate 24 = .ok (.ineg, 1) := by decide +kernel
theorem dX3_negate_25 : decode cX3_negate 25 = .ok (.i2l, 1) := by decide +kernel
theorem dX3_negate_26 : decode cX3_negate 26 = .ok (.aload_n 0, 1) := by decide +kernel
theorem dX3_negate_27 : decode cX3_negate 27 = .ok (.getfield 15, 3) := by decide +kernel
theorem dX3_negate_30 : decode cX3_negate 30 = .ok (.iload_n 1, 1) := by decide +kernel
theorem dX3_negate_31 : decode cX3_negate 31 = .ok (.iaload, 1) := by decide +kernel
theorem dX3_negate_32 : decode cX3_negate 32 = .ok (.invokevirtual 76, 3) := by decide +kernel
theorem dX3_negate_35 : decode cX3_negate 35 = .ok (.ireturn, 1) := by decide +kernel
theorem dX3_size_0 : decode cX3_size 0 = .ok (.aload_n 0, 1) := by decide +kernel
theorem dX3_size_1 : decode cX3_size 1 = .ok (.iload_n 1, 1) := by decide +kernel
theorem dX3_size_2 : decode cX3_size 2 = .ok (.invokestatic 66, 3) := by decide +kernel
theorem dX3_size_5 : decode cX3_size 5 = .ok (.iconst 0, 1) := by decide +kernel
theorem dX3_size_6 : decode cX3_size 6 = .ok (.invokevirtual 72, 3) := by decide +kernel
theorem dX3_size_9 : decode cX3_size 9 = .ok (.ifCond .eq 7, 3) := by decide +kernel
theorem dX3_size_12 : decode cX3_size 12 = .ok (.iconst 0, 1) := by decide +kernel
theorem dX3_size_13 : decode cX3_size 13 = .ok (.goto 24, 3) := by decide +kernel
theorem dX3_size_16 : decode cX3_size 16 = .ok (.aload_n 0, 1) := by decide +kernel
theorem dX3_size_17 : decode cX3_size 17 = .ok (.iload_n 1, 1) := by decide +kernel
theorem dX3_size_18 : decode cX3_size 18 = .ok (.aload_n 0, 1) := by decide +kernel
theorem dX3_size_19 : decode cX3_size 19 = .ok (.getfield 9, 3) := by decide +kernel
theorem dX3_size_22 : decode cX3_size 22 = .ok (.iload_n 1, 1) := by decide +kernel
theorem dX3_size_23 : decode cX3_size 23 = .ok (.iaload, 1) := by decide +kernel
theorem dX3_size_24 : decode cX3_size 24 = .ok (.i2l, 1) := by decide +kernel
theorem dX3_size_25 : decode cX3_size 25 = .ok (.invokestatic 40, 3) := by decide +kernel
theorem dX3_size_28 : decode cX3_size 28 = .ok (.aload_n 0, 1) := by decide +kernel
theorem dX3_size_29 : decode cX3_size 29 = .ok (.getfield 15, 3) := by decide +kernel
theorem dX3_size_32 : decode cX3_size 32 = .ok (.iload_n 1, 1) := by decide +kernel
theorem dX3_size_33 : decode cX3_size 33 = .ok (.iaload, 1) := by decide +kernel
theorem dX3_size_34 : decode cX3_size 34 = .ok (.invokevirtual 76, 3) := by decide +kernel
theorem dX3_size_37 : decode cX3_size 37 = .ok (.ireturn, 1) := by decide +kernel
theorem dX3_areNoCells_0 : decode cX3_areNoCells 0 = .ok (.iload_n 1, 1) := by decide +kernel
theorem dX3_areNoCells_1 : decode cX3_areNoCells 1 = .ok (.invokestatic 66, 3) := by decide +kernel
theorem dX3_areNoCells_4 : decode cX3_areNoCells 4 = .ok (.ifCond .ne 17, 3) := by decide +kernel
theorem dX3_areNoCells_7 : decode cX3_areNoCells 7 = .ok (.iload_n 2, 1) := by decide +kernel
theorem dX3_areNoCells_8 : decode cX3_areNoCells 8 = .ok (.invokestatic 66, 3) := by decide +kernel
theorem dX3_areNoCells_11 : decode cX3_areNoCells 11 = .ok (.ifCond .ne 10, 3) := by decide +kernel
theorem dX3_areNoCells_14 : decode cX3_areNoCells 14 = .ok (.iload_n 3, 1) := by decide +kernel
theorem dX3_areNoCells_15 : decode cX3_areNoCells 15 = .ok (.invokestatic 66, 3) := by decide +kernel
theorem dX3_areNoCells_18 : decode cX3_areNoCells 18 = .ok (.ifCond .eq 7, 3) := by decide +kernel
theorem dX3_areNoCells_21 : decode cX3_areNoCells 21 = .ok (.iconst 1, 1) := by decide +kernel
theorem dX3_areNoCells_22 : decode cX3_areNoCells 22 = .ok (.goto 4, 3) := by decide +kernel
theorem dX3_areNoCells_25 : decode cX3_areNoCells 25 = .ok (.iconst 0, 1) := by decide +kernel
theorem dX3_areNoCells_26 : decode cX3_areNoCells 26 = .ok (.ireturn, 1) := by decide +kernel
theorem dX3_add_0 : decode cX3_add 0 = .ok (.aload_n 0, 1) := by decide +kernel
theorem dX3_add_1 : decode cX3_add 1 = .ok (.aload_n 0, 1) := by decide +kernel
theorem dX3_add_2 : decode cX3_add 2 = .ok (.iload_n 1, 1) := by decide +kernel
theorem dX3_add_3 : decode cX3_add 3 = .ok (.iload_n 2, 1) := by decide +kernel
theorem dX3_add_4 : decode cX3_add 4 = .ok (.iload_n 3, 1) := by decide +kernel
theorem dX3_add_5 : decode cX3_add 5 = .ok (.invokevirtual 80, 3) := by decide +kernel
theorem dX3_add_8 : decode cX3_add 8 = .ok (.iconst 0, 1) := by decide +kernel
theorem dX3_add_9 : decode cX3_add 9 = .ok (.invokevirtual 72, 3) := by decide +kernel
theorem dX3_add_12 : decode cX3_add 12 = .ok (.ifCond .eq 5, 3) := by decide +kernel
theorem dX3_add_15 : decode cX3_add 15 = .ok (.iconst 0, 1) := by decide +kernel
theorem dX3_add_16 : decode cX3_add 16 = .ok (.ireturn, 1) := by decide +kernel
theorem dX3_add_17 : decode cX3_add 17 = .ok (.aload_n 0, 1) := by decide +kernel
theorem dX3_add_18 : decode cX3_add 18 = .ok (.iload_n 1, 1) := by decide +kernel
theorem dX3_add_19 : decode cX3_add 19 = .ok (.iload_n 2, 1) := by decide +kernel
theorem dX3_add_20 : decode cX3_add 20 = .ok (.invokevirtual 83, 3) := by decide +kernel
theorem dX3_add_23 : decode cX3_add 23 = .ok (.istore 4, 2) := by decide +kernel
theorem dX3_add_25 : decode cX3_add 25 = .ok (.aload_n 0, 1) := by decide +kernel
theorem dX3_add_26 : decode cX3_add 26 = .ok (.iload_n 3, 1) := by decide +kernel
theorem dX3_add_27 : decode cX3_add 27 = .ok (.aload_n 0, 1) := by decide +kernel
theorem dX3_add_28 : decode cX3_add 28 = .ok (.iload_n 1, 1) := by decide +kernel
theorem dX3_add_29 : decode cX3_add 29 = .ok (.iload 4, 2) := by decide +kernel
theorem dX3_add_31 : decode cX3_add 31 = .ok (.invokevirtual 62, 3) := by decide +kernel
theorem dX3_add_34 : decode cX3_add 34 = .ok (.aload_n 0, 1) := by decide +kernel
theorem dX3_add_35 : decode cX3_add 35 = .ok (.iload_n 2, 1) := by decide +kernel
theorem dX3_add_36 : decode cX3_add 36 = .ok (.iload 4, 2) := by decide +kernel
theorem dX3_add_38 : decode cX3_add 38 = .ok (.invokevirtual 62, 3) := by decide +kernel
theorem dX3_add_41 : decode cX3_add 41 = .ok (.ladd, 1) := by decide +kernel
theorem dX3_add_42 : decode cX3_add 42 = .ok (.iload 4, 2) := by decide +kernel
theorem dX3_add_44 : decode cX3_add 44 = .ok (.invokevirtual 76, 3) := by decide +kernel
theorem dX3_add_47 : decode cX3_add 47 = .ok (.ireturn, 1) := by decide +kernel
theorem dX3_subtract_0 : decode cX3_subtract 0 = .ok (.aload_n 0, 1) := by decide +kernel
theorem dX3_subtract_1 : decode cX3_subtract 1 = .ok (.aload_n 0, 1) := by decide +kernel
theorem dX3_subtract_2 : decode cX3_subtract 2 = .ok (.iload_n 1, 1) := by decide +kernel
theorem dX3_subtract_3 : decode cX3_subtract 3 = .ok (.iload_n 2, 1) := by decide +kernel
theorem dX3_subtract_4 : decode cX3_subtract 4 = .ok (.iload_n 3, 1) := by decide +kernel
theorem dX3_subtract_5 : decode cX3_subtract 5 = .ok (.invokevirtual 80, 3) := by decide +kernel
theorem dX3_subtract_8 : decode cX3_subtract 8 = .ok (.iconst 0, 1) := by decide +kernel
theorem dX3_subtract_9 : decode cX3_subtract 9 = .ok (.invokevirtual 72, 3) := by decide +kernel
theorem dX3_subtract_12 : decode cX3_subtract 12 = .ok (.ifCond .eq 5, 3) := by decide +kernel
theorem dX3_subtract_15 : decode cX3_subtract 15 = .ok (.iconst 0, 1) := by decide +kernel
theorem dX3_subtract_16 : decode cX3_subtract 16 = .ok (.ireturn, 1) := by decide +kernel
theorem dX3_subtract_17 : decode cX3_subtract 17 = .ok (.aload_n 0, 1) := by decide +kernel
theorem dX3_subtract_18 : decode cX3_subtract 18 = .ok (.iload_n 1, 1) := by decide +kernel
theorem dX3_subtract_19 : decode cX3_subtract 19 = .ok (.iload_n 2, 1) := by decide +kernel
theorem dX3_subtract_20 : decode cX3_subtract 20 = .ok (.invokevirtual 83, 3) := by decide +kernel
theorem dX3_subtract_23 : decode cX3_subtract 23 = .ok (.istore 4, 2) := by decide +kernel
theorem dX3_subtract_25 : decode cX3_subtract 25 = .ok (.aload_n 0, 1) := by decide +kernel
theorem dX3_subtract_26 : decode cX3_subtract 26 = .ok (.iload_n 3, 1) := by decide +kernel
theorem dX3_subtract_27 : decode cX3_subtract 27 = .ok (.aload_n 0, 1) := by decide +kernel
theorem dX3_subtract_28 : decode cX3_subtract 28 = .ok (.iload_n 1, 1) := by decide +kernel
theorem dX3_subtract_29 : decode cX3_subtract 29 = .ok (.iload 4, 2) := by decide +kernel
theorem dX3_subtract_31 : decode cX3_subtract 31 = .ok (.invokevirtual 62, 3) := by decide +kernel
theorem dX3_subtract_34 : decode cX3_subtract 34 = .ok (.aload_n 0, 1) := by decide +kernel
theorem dX3_subtract_35 : decode cX3_subtract 35 = .ok (.iload_n 2, 1) := by decide +kernel
theorem dX3_subtract_36 : decode cX3_subtract 36 = .ok (.iload 4, 2) := by decide +kernel
theorem dX3_subtract_38 : decode cX3_subtract 38 = .ok (.invokevirtual 62, 3) := by decide +kernel
theorem dX3_subtract_41 : decode cX3_subtract 41 = .ok (.lsub, 1) := by decide +kernel
theorem dX3_subtract_42 : decode cX3_subtract 42 = .ok (.iload 4, 2) := by decide +kernel
theorem dX3_subtract_44 : decode cX3_subtract 44 = .ok (.invokevirtual 76, 3) := by decide +kernel
theorem dX3_subtract_47 : decode cX3_subtract 47 = .ok (.ireturn, 1) := by decide +kernel
theorem dX3_multiply_0 : decode cX3_multiply 0 = .ok (.aload_n 0, 1) := by decide +kernel
theorem dX3_multiply_1 : decode cX3_multiply 1 = .ok (.aload_n 0, 1) := by decide +kernel
theorem dX3_multiply_2 : decode cX3_multiply 2 = .ok (.iload_n 1, 1) := by decide +kernel
theorem dX3_multiply_3 : decode cX3_multiply 3 = .ok (.iload_n 2, 1) := by decide +kernel
theorem dX3_multiply_4 : decode cX3_multiply 4 = .ok (.iload_n 3, 1) := by decide +kernel
theorem dX3_multiply_5 : decode cX3_multiply 5 = .ok (.invokevirtual 80, 3) := by decide +kernel
theorem dX3_multiply_8 : decode cX3_multiply 8 = .ok (.iconst 0, 1) := by decide +kernel
theorem dX3_multiply_9 : decode cX3_multiply 9 = .ok (.invokevirtual 72, 3) := by decide +kernel
theorem dX3_multiply_12 : decode cX3_multiply 12 = .ok (.ifCond .eq 5, 3) := by decide +kernel
theorem dX3_multiply_15 : decode cX3_multiply 15 = .ok (.iconst 0, 1) := by decide +kernel
theorem dX3_multiply_16 : decode cX3_multiply 16 = .ok (.ireturn, 1) := by decide +kernel
theorem dX3_multiply_17 : decode cX3_multiply 17 = .ok (.aload_n 0, 1) := by decide +kernel
theorem dX3_multiply_18 : decode cX3_multiply 18 = .ok (.iload_n 3, 1) := by decide +kernel
theorem dX3_multiply_19 : decode cX3_multiply 19 = .ok (.aload_n 0, 1) := by decide +kernel
theorem dX3_multiply_20 : decode cX3_multiply 20 = .ok (.getfield 9, 3) := by decide +kernel
theorem dX3_multiply_23 : decode cX3_multiply 23 = .ok (.iload_n 1, 1) := by decide +kernel
theorem dX3_multiply_24 : decode cX3_multiply 24 = .ok (.iaload, 1) := by decide +kernel
theorem dX3_multiply_25 : decode cX3_multiply 25 = .ok (.i2l, 1) := by decide +kernel
theorem dX3_multiply_26 : decode cX3_multiply 26 = .ok (.aload_n 0, 1) := by decide +kernel
theorem dX3_multiply_27 : decode cX3_multiply 27 = .ok (.getfield 9, 3) := by decide +kernel
theorem dX3_multiply_30 : decode cX3_multiply 30 = .ok (.iload_n 2, 1) := by decide +kernel
theorem dX3_multiply_31 : decode cX3_multiply 31 = .ok (.iaload, 1) := by decide +kernel
theorem dX3_multiply_32 : decode cX3_multiply 32 = .ok (.i2l, 1) := by decide +kernel
theorem dX3_multiply_33 : decode cX3_multiply 33 = .ok (.lmul, 1) := by decide +kernel
theorem dX3_multiply_34 : decode cX3_multiply 34 = .ok (.aload_n 0, 1) := by decide +kernel
theorem dX3_multiply_35 : decode cX3_multiply 35 = .ok (.getfield 15, 3) := by decide +kernel
theorem dX3_multiply_38 : decode cX3_multiply 38 = .ok (.iload_n 1, 1) := by decide +kernel
theorem dX3_multiply_39 : decode cX3_multiply 39 = .ok (.iaload, 1) := by decide +kernel
theorem dX3_multiply_40 : decode cX3_multiply 40 = .ok (.aload_n 0, 1) := by decide +kernel
theorem dX3_multiply_41 : decode cX3_multiply 41 = .ok (.getfield 15, 3) := by decide +kernel
theorem dX3_multiply_44 : decode cX3_multiply 44 = .ok (.iload_n 2, 1) := by decide +kernel
theorem dX3_multiply_45 : decode cX3_multiply 45 = .ok (.iaload, 1) := by decide +kernel
theorem dX3_multiply_46 : decode cX3_multiply 46 = .ok (.iadd, 1) := by decide +kernel
theorem dX3_multiply_47 : decode cX3_multiply 47 = .ok (.invokevirtual 76, 3) := by decide +kernel
theorem dX3_multiply_50 : decode cX3_multiply 50 = .ok (.ireturn, 1) := by decide +kernel
theorem dX3_power_0 : decode cX3_power 0 = .ok (.aload_n 0, 1) := by decide +kernel
theorem dX3_power_1 : decode cX3_power 1 = .ok (.iload_n 1, 1) := by decide +kernel
theorem dX3_power_2 : decode cX3_power 2 = .ok (.invokestatic 66, 3) := by decide +kernel
theorem dX3_power_5 : decode cX3_power 5 = .ok (.ifCond .ne 10, 3) := by decide +kernel
theorem dX3_power_8 : decode cX3_power 8 = .ok (.iload_n 3, 1) := by decide +kernel
theorem dX3_power_9 : decode cX3_power 9 = .ok (.invokestatic 66, 3) := by decide +kernel
theorem dX3_power_12 : decode cX3_power 12 = .ok (.ifCond .eq 7, 3) := by decide +kernel
theorem dX3_power_15 : decode cX3_power 15 = .ok (.iconst 1, 1) := by decide +kernel
theorem dX3_power_16 : decode cX3_power 16 = .ok (.goto 4, 3) := by decide +kernel
theorem dX3_power_19 : decode cX3_power 19 = .ok (.iconst 0, 1) := by decide +kernel
theorem dX3_power_20 : decode cX3_power 20 = .ok (.iload_n 2, 1) := by decide +kernel
theorem dX3_power_21 : decode cX3_power 21 = .ok (.iconst 0, 1) := by decide +kernel
theorem dX3_power_22 : decode cX3_power 22 = .ok (.iconst 3, 1) := by decide +kernel
theorem dX3_power_23 : decode cX3_power 23 = .ok (.invokestatic 34, 3) := by decide +kernel
theorem dX3_power_26 : decode cX3_power 26 = .ok (.invokevirtual 72, 3) := by decide +kernel
theorem dX3_power_29 : decode cX3_power 29 = .ok (.ifCond .eq 5, 3) := by decide +kernel
theorem dX3_power_32 : decode cX3_power 32 = .ok (.iconst 0, 1) := by decide +kernel
theorem dX3_power_33 : decode cX3_power 33 = .ok (.ireturn, 1) := by decide +kernel
theorem dX3_power_34 : decode cX3_power 34 = .ok (.lconst 1, 1) := by decide +kernel
theorem dX3_power_35 : decode cX3_power 35 = .ok (.lstore 4, 2) := by decide +kernel
theorem dX3_power_37 : decode cX3_power 37 = .ok (.iconst 0, 1) := by decide +kernel
theorem dX3_power_38 : decode cX3_power 38 = .ok (.istore 6, 2) := by decide +kernel
theorem dX3_power_40 : decode cX3_power 40 = .ok (.iload 6, 2) := by decide +kernel
theorem dX3_power_42 : decode cX3_power 42 = .ok (.iload_n 2, 1) := by decide +kernel
theorem dX3_power_43 : decode cX3_power 43 = .ok (.if_icmp .ge 21, 3) := by decide +kernel
theorem dX3_power_46 : decode cX3_power 46 = .ok (.lload 4, 2) := by decide +kernel
theorem dX3_power_48 : decode cX3_power 48 = .ok (.aload_n 0, 1) := by decide +kernel
theorem dX3_power_49 : decode cX3_power 49 = .ok (.getfield 9, 3) := by decide +kernel
theorem dX3_power_52 : decode cX3_power 52 = .ok (.iload_n 1, 1) := by decide +kernel
theorem dX3_power_53 : decode cX3_power 53 = .ok (.iaload, 1) := by decide +kernel
theorem dX3_power_54 : decode cX3_power 54 = .ok (.i2l, 1) := by decide +kernel
theorem dX3_power_55 : decode cX3_power 55 = .ok (.lmul, 1) := by decide +kernel
theorem dX3_power_56 : decode cX3_power 56 = .ok (.lstore 4, 2) := by decide +kernel
theorem dX3_power_58 : decode cX3_power 58 = .ok (.iinc 6 1, 3) := by decide +kernel
theorem dX3_power_61 : decode cX3_power 61 = .ok (.goto (-21), 3) := by decide +kernel
theorem dX3_power_64 : decode cX3_power 64 = .ok (.aload_n 0, 1) := by decide +kernel
theorem dX3_power_65 : decode cX3_power 65 = .ok (.iload_n 3, 1) := by decide +kernel
theorem dX3_power_66 : decode cX3_power 66 = .ok (.lload 4, 2) := by decide +kernel
theorem dX3_power_68 : decode cX3_power 68 = .ok (.iload_n 2, 1) := by decide +kernel
theorem dX3_power_69 : decode cX3_power 69 = .ok (.aload_n 0, 1) := by decide +kernel
theorem dX3_power_70 : decode cX3_power 70 = .ok (.getfield 15, 3) := by decide +kernel
theorem dX3_power_73 : decode cX3_power 73 = .ok (.iload_n 1, 1) := by decide +kernel
theorem dX3_power_74 : decode cX3_power 74 = .ok (.iaload, 1) := by decide +kernel
theorem dX3_power_75 : decode cX3_power 75 = .ok (.imul, 1) := by decide +kernel
theorem dX3_power_76 : decode cX3_power 76 = .ok (.invokevirtual 76, 3) := by decide +kernel
theorem dX3_power_79 : decode cX3_power 79 = .ok (.ireturn, 1) := by decide +kernel
theorem dX3_divide_0 : decode cX3_divide 0 = .ok (.aload_n 0, 1) := by decide +kernel
theorem dX3_divide_1 : decode cX3_divide 1 = .ok (.aload_n 0, 1) := by decide +kernel
theorem dX3_divide_2 : decode cX3_divide 2 = .ok (.iload_n 1, 1) := by decide +kernel
theorem dX3_divide_3 : decode cX3_divide 3 = .ok (.iload_n 2, 1) := by decide +kernel
theorem dX3_divide_4 : decode cX3_divide 4 = .ok (.iload 5, 2) := by decide +kernel
theorem dX3_divide_6 : decode cX3_divide 6 = .ok (.invokevirtual 80, 3) := by decide +kernel
theorem dX3_divide_9 : decode cX3_divide 9 = .ok (.iload_n 3, 1) := by decide +kernel
theorem dX3_divide_10 : decode cX3_divide 10 = .ok (.iload 4, 2) := by decide +kernel
theorem dX3_divide_12 : decode cX3_divide 12 = .ok (.iconst 3, 1) := by decide +kernel
theorem dX3_divide_13 : decode cX3_divide 13 = .ok (.invokestatic 87, 3) := by decide +kernel
theorem dX3_divide_16 : decode cX3_divide 16 = .ok (.invokevirtual 72, 3) := by decide +kernel
theorem dX3_divide_19 : decode cX3_divide 19 = .ok (.ifCond .eq 5, 3) := by decide +kernel
theorem dX3_divide_22 : decode cX3_divide 22 = .ok (.iconst 0, 1) := by decide +kernel
theorem dX3_divide_23 : decode cX3_divide 23 = .ok (.ireturn, 1) := by decide +kernel
theorem dX3_divide_24 : decode cX3_divide 24 = .ok (.aload_n 0, 1) := by decide +kernel
theorem dX3_divide_25 : decode cX3_divide 25 = .ok (.iload_n 2, 1) := by decide +kernel
theorem dX3_divide_26 : decode cX3_divide 26 = .ok (.iconst 3, 1) := by decide +kernel
theorem dX3_divide_27 : decode cX3_divide 27 = .ok (.invokevirtual 62, 3) := by decide +kernel
theorem dX3_divide_30 : decode cX3_divide 30 = .ok (.lstore 6, 2) := by decide +kernel
theorem dX3_divide_32 : decode cX3_divide 32 = .ok (.lload 6, 2) := by decide +kernel
theorem dX3_divide_34 : decode cX3_divide 34 = .ok (.lconst 0, 1) := by decide +kernel
theorem dX3_divide_35 : decode cX3_divide 35 = .ok (.lcmp, 1) := by decide +kernel
theorem dX3_divide_36 : decode cX3_divide 36 = .ok (.ifCond .ne 8, 3) := by decide +kernel
theorem dX3_divide_39 : decode cX3_divide 39 = .ok (.aload_n 0, 1) := by decide +kernel
theorem dX3_divide_40 : decode cX3_divide 40 = .ok (.invokevirtual 54, 3) := by decide +kernel
theorem dX3_divide_43 : decode cX3_divide 43 = .ok (.ireturn, 1) := by decide +kernel
theorem dX3_divide_44 : decode cX3_divide 44 = .ok (.aload_n 0, 1) := by decide +kernel
theorem dX3_divide_45 : decode cX3_divide 45 = .ok (.iload_n 1, 1) := by decide +kernel
theorem dX3_divide_46 : decode cX3_divide 46 = .ok (.iconst 3, 1) := by decide +kernel
theorem dX3_divide_47 : decode cX3_divide 47 = .ok (.invokevirtual 62, 3) := by decide +kernel
theorem dX3_divide_50 : decode cX3_divide 50 = .ok (.iload_n 3, 1) := by decide +kernel
theorem dX3_divide_51 : decode cX3_divide 51 = .ok (.invokestatic 58, 3) := by decide +kernel
theorem dX3_divide_54 : decode cX3_divide 54 = .ok (.lmul, 1) := by decide +kernel
theorem dX3_divide_55 : decode cX3_divide 55 = .ok (.lstore 8, 2) := by decide +kernel
theorem dX3_divide_57 : decode cX3_divide 57 = .ok (.aload_n 0, 1) := by decide +kernel
theorem dX3_divide_58 : decode cX3_divide 58 = .ok (.iload 5, 2) := by decide +kernel
theorem dX3_divide_60 : decode cX3_divide 60 = .ok (.lload 6, 2) := by decide +kernel
theorem dX3_divide_62 : decode cX3_divide 62 = .ok (.lconst 0, 1) := by decide +kernel
theorem dX3_divide_63 : decode cX3_divide 63 = .ok (.lcmp, 1) := by decide +kernel
theorem dX3_divide_64 : decode cX3_divide 64 = .ok (.ifCond .ge 17, 3) := by decide +kernel
theorem dX3_divide_67 : decode cX3_divide 67 = .ok (.lload 8, 2) := by decide +kernel
theorem dX3_divide_69 : decode cX3_divide 69 = .ok (.lneg, 1) := by decide +kernel
theorem dX3_divide_70 : decode cX3_divide 70 = .ok (.lload 6, 2) := by decide +kernel
theorem dX3_divide_72 : decode cX3_divide 72 = .ok (.lneg, 1) := by decide +kernel
theorem dX3_divide_73 : decode cX3_divide 73 = .ok (.iload 4, 2) := by decide +kernel
theorem dX3_divide_75 : decode cX3_divide 75 = .ok (.invokestatic 90, 3) := by decide +kernel
theorem dX3_divide_78 : decode cX3_divide 78 = .ok (.goto 12, 3) := by decide +kernel
theorem dX3_divide_81 : decode cX3_divide 81 = .ok (.lload 8, 2) := by decide +kernel
theorem dX3_divide_83 : decode cX3_divide 83 = .ok (.lload 6, 2) := by decide +kernel
theorem dX3_divide_85 : decode cX3_divide 85 = .ok (.iload 4, 2) := by decide +kernel
theorem dX3_divide_87 : decode cX3_divide 87 = .ok (.invokestatic 90, 3) := by decide +kernel
theorem dX3_divide_90 : decode cX3_divide 90 = .ok (.iload_n 3, 1) := by decide +kernel
theorem dX3_divide_91 : decode cX3_divide 91 = .ok (.invokevirtual 76, 3) := by decide +kernel
theorem dX3_divide_94 : decode cX3_divide 94 = .ok (.ireturn, 1) := by decide +kernel
theorem dX3_share_0 : decode cX3_share 0 = .ok (.aload_n 0, 1) := by decide +kernel
theorem dX3_share_1 : decode cX3_share 1 = .ok (.iload_n 1, 1) := by decide +kernel
theorem dX3_share_2 : decode cX3_share 2 = .ok (.invokestatic 66, 3) := by decide +kernel
theorem dX3_share_5 : decode cX3_share 5 = .ok (.ifCond .ne 10, 3) := by decide +kernel
theorem dX3_share_8 : decode cX3_share 8 = .ok (.iload_n 3, 1) := by decide +kernel
theorem dX3_share_9 : decode cX3_share 9 = .ok (.invokestatic 66, 3) := by decide +kernel
theorem dX3_share_12 : decode cX3_share 12 = .ok (.ifCond .eq 7, 3) := by decide +kernel
theorem dX3_share_15 : decode cX3_share 15 = .ok (.iconst 1, 1) := by decide +kernel
theorem dX3_share_16 : decode cX3_share 16 = .ok (.goto 4, 3) := by decide +kernel
theorem dX3_share_19 : decode cX3_share 19 = .ok (.iconst 0, 1) := by decide +kernel
theorem dX3_share_20 : decode cX3_share 20 = .ok (.iload_n 2, 1) := by decide +kernel
theorem dX3_share_21 : decode cX3_share 21 = .ok (.bipush (-99), 2) := by decide +kernel
theorem dX3_share_23 : decode cX3_share 23 = .ok (.bipush 99, 2) := by decide +kernel
theorem dX3_share_25 : decode cX3_share 25 = .ok (.invokestatic 34, 3) := by decide +kernel
theorem dX3_share_28 : decode cX3_share 28 = .ok (.invokevirtual 72, 3) := by decide +kernel
theorem dX3_share_31 : decode cX3_share 31 = .ok (.ifCond .eq 5, 3) := by decide +kernel
theorem dX3_share_34 : decode cX3_share 34 = .ok (.iconst 0, 1) := by decide +kernel
theorem dX3_share_35 : decode cX3_share 35 = .ok (.ireturn, 1) := by decide +kernel
theorem dX3_share_36 : decode cX3_share 36 = .ok (.iload_n 2, 1) := by decide +kernel
theorem dX3_share_37 : decode cX3_share 37 = .ok (.ifCond .ne 8, 3) := by decide +kernel
theorem dX3_share_40 : decode cX3_share 40 = .ok (.aload_n 0, 1) := by decide +kernel
theorem dX3_share_41 : decode cX3_share 41 = .ok (.invokevirtual 54, 3) := by decide +kernel
theorem dX3_share_44 : decode cX3_share 44 = .ok (.ireturn, 1) := by decide +kernel
theorem dX3_share_45 : decode cX3_share 45 = .ok (.aload_n 0, 1) := by decide +kernel
theorem dX3_share_46 : decode cX3_share 46 = .ok (.getfield 15, 3) := by decide +kernel
theorem dX3_share_49 : decode cX3_share 49 = .ok (.iload_n 1, 1) := by decide +kernel
theorem dX3_share_50 : decode cX3_share 50 = .ok (.iaload, 1) := by decide +kernel
theorem dX3_share_51 : decode cX3_share 51 = .ok (.istore 4, 2) := by decide +kernel
theorem dX3_share_53 : decode cX3_share 53 = .ok (.iload 4, 2) := by decide +kernel
theorem dX3_share_55 : decode cX3_share 55 = .ok (.iconst 3, 1) := by decide +kernel
theorem dX3_share_56 : decode cX3_share 56 = .ok (.if_icmp .gt 42, 3) := by decide +kernel
theorem dX3_share_59 : decode cX3_share 59 = .ok (.aload_n 0, 1) := by decide +kernel
theorem dX3_share_60 : decode cX3_share 60 = .ok (.iload_n 1, 1) := by decide +kernel
theorem dX3_share_61 : decode cX3_share 61 = .ok (.iload 4, 2) := by decide +kernel
theorem dX3_share_63 : decode cX3_share 63 = .ok (.invokevirtual 62, 3) := by decide +kernel
theorem dX3_share_66 : decode cX3_share 66 = .ok (.iload_n 2, 1) := by decide +kernel
theorem dX3_share_67 : decode cX3_share 67 = .ok (.i2l, 1) := by decide +kernel
theorem dX3_share_68 : decode cX3_share 68 = .ok (.lrem, 1) := by decide +kernel
theorem dX3_share_69 : decode cX3_share 69 = .ok (.lconst 0, 1) := by decide +kernel
theorem dX3_share_70 : decode cX3_share 70 = .ok (.lcmp, 1) := by decide +kernel
theorem dX3_share_71 : decode cX3_share 71 = .ok (.ifCond .ne 21, 3) := by decide +kernel
theorem dX3_share_74 : decode cX3_share 74 = .ok (.aload_n 0, 1) := by decide +kernel
theorem dX3_share_75 : decode cX3_share 75 = .ok (.iload_n 3, 1) := by decide +kernel
theorem dX3_share_76 : decode cX3_share 76 = .ok (.aload_n 0, 1) := by decide +kernel
theorem dX3_share_77 : decode cX3_share 77 = .ok (.iload_n 1, 1) := by decide +kernel
theorem dX3_share_78 : decode cX3_share 78 = .ok (.iload 4, 2) := by decide +kernel
theorem dX3_share_80 : decode cX3_share 80 = .ok (.invokevirtual 62, 3) := by decide +kernel
theorem dX3_share_83 : decode cX3_share 83 = .ok (.iload_n 2, 1) := by decide +kernel
theorem dX3_share_84 : decode cX3_share 84 = .ok (.i2l, 1) := by decide +kernel
theorem dX3_share_85 : decode cX3_share 85 = .ok (.ldiv, 1) := by decide +kernel
theorem dX3_share_86 : decode cX3_share 86 = .ok (.iload 4, 2) := by decide +kernel
theorem dX3_share_88 : decode cX3_share 88 = .ok (.invokevirtual 76, 3) := by decide +kernel
theorem dX3_share_91 : decode cX3_share 91 = .ok (.ireturn, 1) := by decide +kernel
theorem dX3_share_92 : decode cX3_share 92 = .ok (.iinc 4 1, 3) := by decide +kernel
theorem dX3_share_95 : decode cX3_share 95 = .ok (.goto (-42), 3) := by decide +kernel
theorem dX3_share_98 : decode cX3_share 98 = .ok (.aload_n 0, 1) := by decide +kernel
theorem dX3_share_99 : decode cX3_share 99 = .ok (.invokevirtual 54, 3) := by decide +kernel
theorem dX3_share_102 : decode cX3_share 102 = .ok (.ireturn, 1) := by decide +kernel
theorem dX3_wholeOf_0 : decode cX3_wholeOf 0 = .ok (.aload_n 0, 1) := by decide +kernel
theorem dX3_wholeOf_1 : decode cX3_wholeOf 1 = .ok (.getfield 9, 3) := by decide +kernel
theorem dX3_wholeOf_4 : decode cX3_wholeOf 4 = .ok (.iload_n 1, 1) := by decide +kernel
theorem dX3_wholeOf_5 : decode cX3_wholeOf 5 = .ok (.iaload, 1) := by decide +kernel
theorem dX3_wholeOf_6 : decode cX3_wholeOf 6 = .ok (.i2l, 1) := by decide +kernel
theorem dX3_wholeOf_7 : decode cX3_wholeOf 7 = .ok (.iload_n 2, 1) := by decide +kernel
theorem dX3_wholeOf_8 : decode cX3_wholeOf 8 = .ok (.i2l, 1) := by decide +kernel
theorem dX3_wholeOf_9 : decode cX3_wholeOf 9 = .ok (.aload_n 0, 1) := by decide +kernel
theorem dX3_wholeOf_10 : decode cX3_wholeOf 10 = .ok (.getfield 15, 3) := by decide +kernel
theorem dX3_wholeOf_13 : decode cX3_wholeOf 13 = .ok (.iload_n 1, 1) := by decide +kernel
theorem dX3_wholeOf_14 : decode cX3_wholeOf 14 = .ok (.iaload, 1) := by decide +kernel
theorem dX3_wholeOf_15 : decode cX3_wholeOf 15 = .ok (.invokestatic 58, 3) := by decide +kernel
theorem dX3_wholeOf_18 : decode cX3_wholeOf 18 = .ok (.lmul, 1) := by decide +kernel
theorem dX3_wholeOf_19 : decode cX3_wholeOf 19 = .ok (.ldiv, 1) := by decide +kernel
theorem dX3_wholeOf_20 : decode cX3_wholeOf 20 = .ok (.lreturn, 1) := by decide +kernel
theorem dX3_whole_0 : decode cX3_whole 0 = .ok (.aload_n 0, 1) := by decide +kernel
theorem dX3_whole_1 : decode cX3_whole 1 = .ok (.iload_n 1, 1) := by decide +kernel
theorem dX3_whole_2 : decode cX3_whole 2 = .ok (.invokestatic 66, 3) := by decide +kernel
theorem dX3_whole_5 : decode cX3_whole 5 = .ok (.ifCond .ne 10, 3) := by decide +kernel
theorem dX3_whole_8 : decode cX3_whole 8 = .ok (.iload_n 3, 1) := by decide +kernel
theorem dX3_whole_9 : decode cX3_whole 9 = .ok (.invokestatic 66, 3) := by decide +kernel
theorem dX3_whole_12 : decode cX3_whole 12 = .ok (.ifCond .eq 7, 3) := by decide +kernel
theorem dX3_whole_15 : decode cX3_whole 15 = .ok (.iconst 1, 1) := by decide +kernel
theorem dX3_whole_16 : decode cX3_whole 16 = .ok (.goto 4, 3) := by decide +kernel
theorem dX3_whole_19 : decode cX3_whole 19 = .ok (.iconst 0, 1) := by decide +kernel
theorem dX3_whole_20 : decode cX3_whole 20 = .ok (.iload_n 2, 1) := by decide +kernel
theorem dX3_whole_21 : decode cX3_whole 21 = .ok (.bipush (-99), 2) := by decide +kernel
theorem dX3_whole_23 : decode cX3_whole 23 = .ok (.bipush 99, 2) := by decide +kernel
theorem dX3_whole_25 : decode cX3_whole 25 = .ok (.invokestatic 34, 3) := by decide +kernel
theorem dX3_whole_28 : decode cX3_whole 28 = .ok (.invokevirtual 72, 3) := by decide +kernel
theorem dX3_whole_31 : decode cX3_whole 31 = .ok (.ifCond .eq 5, 3) := by decide +kernel
theorem dX3_whole_34 : decode cX3_whole 34 = .ok (.iconst 0, 1) := by decide +kernel
theorem dX3_whole_35 : decode cX3_whole 35 = .ok (.ireturn, 1) := by decide +kernel
theorem dX3_whole_36 : decode cX3_whole 36 = .ok (.iload_n 2, 1) := by decide +kernel
theorem dX3_whole_37 : decode cX3_whole 37 = .ok (.ifCond .ne 10, 3) := by decide +kernel
theorem dX3_whole_40 : decode cX3_whole 40 = .ok (.aload_n 0, 1) := by decide +kernel
theorem dX3_whole_41 : decode cX3_whole 41 = .ok (.invokevirtual 54, 3) := by decide +kernel
theorem dX3_whole_44 : decode cX3_whole 44 = .ok (.goto 15, 3) := by decide +kernel
theorem dX3_whole_47 : decode cX3_whole 47 = .ok (.aload_n 0, 1) := by decide +kernel
theorem dX3_whole_48 : decode cX3_whole 48 = .ok (.iload_n 3, 1) := by decide +kernel
theorem dX3_whole_49 : decode cX3_whole 49 = .ok (.aload_n 0, 1) := by decide +kernel
theorem dX3_whole_50 : decode cX3_whole 50 = .ok (.iload_n 1, 1) := by decide +kernel
theorem dX3_whole_51 : decode cX3_whole 51 = .ok (.iload_n 2, 1) := by decide +kernel
theorem dX3_whole_52 : decode cX3_whole 52 = .ok (.invokevirtual 94, 3) := by decide +kernel
theorem dX3_whole_55 : decode cX3_whole 55 = .ok (.iconst 0, 1) := by decide +kernel
theorem dX3_whole_56 : decode cX3_whole 56 = .ok (.invokevirtual 76, 3) := by decide +kernel
theorem dX3_whole_59 : decode cX3_whole 59 = .ok (.ireturn, 1) := by decide +kernel
theorem dX3_rest_0 : decode cX3_rest 0 = .ok (.aload_n 0, 1) := by decide +kernel
theorem dX3_rest_1 : decode cX3_rest 1 = .ok (.iload_n 1, 1) := by decide +kernel
theorem dX3_rest_2 : decode cX3_rest 2 = .ok (.invokestatic 66, 3) := by decide +kernel
theorem dX3_rest_5 : decode cX3_rest 5 = .ok (.ifCond .ne 10, 3) := by decide +kernel
theorem dX3_rest_8 : decode cX3_rest 8 = .ok (.iload_n 3, 1) := by decide +kernel
theorem dX3_rest_9 : decode cX3_rest 9 = .ok (.invokestatic 66, 3) := by decide +kernel
theorem dX3_rest_12 : decode cX3_rest 12 = .ok (.ifCond .eq 7, 3) := by decide +kernel
theorem dX3_rest_15 : decode cX3_rest 15 = .ok (.iconst 1, 1) := by decide +kernel
theorem dX3_rest_16 : decode cX3_rest 16 = .ok (.goto 4, 3) := by decide +kernel
theorem dX3_rest_19 : decode cX3_rest 19 = .ok (.iconst 0, 1) := by decide +kernel
theorem dX3_rest_20 : decode cX3_rest 20 = .ok (.iload_n 2, 1) := by decide +kernel
theorem dX3_rest_21 : decode cX3_rest 21 = .ok (.bipush (-99), 2) := by decide +kernel
theorem dX3_rest_23 : decode cX3_rest 23 = .ok (.bipush 99, 2) := by decide +kernel
theorem dX3_rest_25 : decode cX3_rest 25 = .ok (.invokestatic 34, 3) := by decide +kernel
theorem dX3_rest_28 : decode cX3_rest 28 = .ok (.invokevirtual 72, 3) := by decide +kernel
theorem dX3_rest_31 : decode cX3_rest 31 = .ok (.ifCond .eq 5, 3) := by decide +kernel
theorem dX3_rest_34 : decode cX3_rest 34 = .ok (.iconst 0, 1) := by decide +kernel
theorem dX3_rest_35 : decode cX3_rest 35 = .ok (.ireturn, 1) := by decide +kernel
theorem dX3_rest_36 : decode cX3_rest 36 = .ok (.iload_n 2, 1) := by decide +kernel
theorem dX3_rest_37 : decode cX3_rest 37 = .ok (.ifCond .ne 10, 3) := by decide +kernel
theorem dX3_rest_40 : decode cX3_rest 40 = .ok (.aload_n 0, 1) := by decide +kernel
theorem dX3_rest_41 : decode cX3_rest 41 = .ok (.invokevirtual 54, 3) := by decide +kernel
theorem dX3_rest_44 : decode cX3_rest 44 = .ok (.goto 41, 3) := by decide +kernel
theorem dX3_rest_47 : decode cX3_rest 47 = .ok (.aload_n 0, 1) := by decide +kernel
theorem dX3_rest_48 : decode cX3_rest 48 = .ok (.iload_n 3, 1) := by decide +kernel
theorem dX3_rest_49 : decode cX3_rest 49 = .ok (.aload_n 0, 1) := by decide +kernel
theorem dX3_rest_50 : decode cX3_rest 50 = .ok (.getfield 9, 3) := by decide +kernel
theorem dX3_rest_53 : decode cX3_rest 53 = .ok (.iload_n 1, 1) := by decide +kernel
theorem dX3_rest_54 : decode cX3_rest 54 = .ok (.iaload, 1) := by decide +kernel
theorem dX3_rest_55 : decode cX3_rest 55 = .ok (.i2l, 1) := by decide +kernel
theorem dX3_rest_56 : decode cX3_rest 56 = .ok (.iload_n 2, 1) := by decide +kernel
theorem dX3_rest_57 : decode cX3_rest 57 = .ok (.i2l, 1) := by decide +kernel
theorem dX3_rest_58 : decode cX3_rest 58 = .ok (.aload_n 0, 1) := by decide +kernel
theorem dX3_rest_59 : decode cX3_rest 59 = .ok (.iload_n 1, 1) := by decide +kernel
theorem dX3_rest_60 : decode cX3_rest 60 = .ok (.iload_n 2, 1) := by decide +kernel
theorem dX3_rest_61 : decode cX3_rest 61 = .ok (.invokevirtual 94, 3) := by decide +kernel
theorem dX3_rest_64 : decode cX3_rest 64 = .ok (.lmul, 1) := by decide +kernel
theorem dX3_rest_65 : decode cX3_rest 65 = .ok (.aload_n 0, 1) := by decide +kernel
theorem dX3_rest_66 : decode cX3_rest 66 = .ok (.getfield 15, 3) := by decide +kernel
theorem dX3_rest_69 : decode cX3_rest 69 = .ok (.iload_n 1, 1) := by decide +kernel
theorem dX3_rest_70 : decode cX3_rest 70 = .ok (.iaload, 1) := by decide +kernel
theorem dX3_rest_71 : decode cX3_rest 71 = .ok (.invokestatic 58, 3) := by decide +kernel
theorem dX3_rest_74 : decode cX3_rest 74 = .ok (.lmul, 1) := by decide +kernel
theorem dX3_rest_75 : decode cX3_rest 75 = .ok (.lsub, 1) := by decide +kernel
theorem dX3_rest_76 : decode cX3_rest 76 = .ok (.aload_n 0, 1) := by decide +kernel
theorem dX3_rest_77 : decode cX3_rest 77 = .ok (.getfield 15, 3) := by decide +kernel
theorem dX3_rest_80 : decode cX3_rest 80 = .ok (.iload_n 1, 1) := by decide +kernel
theorem dX3_rest_81 : decode cX3_rest 81 = .ok (.iaload, 1) := by decide +kernel
theorem dX3_rest_82 : decode cX3_rest 82 = .ok (.invokevirtual 76, 3) := by decide +kernel
theorem dX3_rest_85 : decode cX3_rest 85 = .ok (.ireturn, 1) := by decide +kernel
theorem dX3_setPlaces_0 : decode cX3_setPlaces 0 = .ok (.aload_n 0, 1) := by decide +kernel
theorem dX3_setPlaces_1 : decode cX3_setPlaces 1 = .ok (.iload_n 1, 1) := by decide +kernel
theorem dX3_setPlaces_2 : decode cX3_setPlaces 2 = .ok (.invokestatic 66, 3) := by decide +kernel
theorem dX3_setPlaces_5 : decode cX3_setPlaces 5 = .ok (.iload_n 2, 1) := by decide +kernel
theorem dX3_setPlaces_6 : decode cX3_setPlaces 6 = .ok (.iload_n 3, 1) := by decide +kernel
theorem dX3_setPlaces_7 : decode cX3_setPlaces 7 = .ok (.iconst 3, 1) := by decide +kernel
theorem dX3_setPlaces_8 : decode cX3_setPlaces 8 = .ok (.invokestatic 87, 3) := by decide +kernel
theorem dX3_setPlaces_11 : decode cX3_setPlaces 11 = .ok (.invokevirtual 72, 3) := by decide +kernel
theorem dX3_setPlaces_14 : decode cX3_setPlaces 14 = .ok (.ifCond .eq 5, 3) := by decide +kernel
theorem dX3_setPlaces_17 : decode cX3_setPlaces 17 = .ok (.iconst 0, 1) := by decide +kernel
theorem dX3_setPlaces_18 : decode cX3_setPlaces 18 = .ok (.ireturn, 1) := by decide +kernel
theorem dX3_setPlaces_19 : decode cX3_setPlaces 19 = .ok (.aload_n 0, 1) := by decide +kernel
theorem dX3_setPlaces_20 : decode cX3_setPlaces 20 = .ok (.iload_n 1, 1) := by decide +kernel
theorem dX3_setPlaces_21 : decode cX3_setPlaces 21 = .ok (.aload_n 0, 1) := by decide +kernel
theorem dX3_setPlaces_22 : decode cX3_setPlaces 22 = .ok (.getfield 9, 3) := by decide +kernel
theorem dX3_setPlaces_25 : decode cX3_setPlaces 25 = .ok (.iload_n 1, 1) := by decide +kernel
theorem dX3_setPlaces_26 : decode cX3_setPlaces 26 = .ok (.iaload, 1) := by decide +kernel
theorem dX3_setPlaces_27 : decode cX3_setPlaces 27 = .ok (.i2l, 1) := by decide +kernel
theorem dX3_setPlaces_28 : decode cX3_setPlaces 28 = .ok (.iload_n 2, 1) := by decide +kernel
theorem dX3_setPlaces_29 : decode cX3_setPlaces 29 = .ok (.invokestatic 58, 3) := by decide +kernel
theorem dX3_setPlaces_32 : decode cX3_setPlaces 32 = .ok (.lmul, 1) := by decide +kernel
theorem dX3_setPlaces_33 : decode cX3_setPlaces 33 = .ok (.aload_n 0, 1) := by decide +kernel
theorem dX3_setPlaces_34 : decode cX3_setPlaces 34 = .ok (.getfield 15, 3) := by decide +kernel
theorem dX3_setPlaces_37 : decode cX3_setPlaces 37 = .ok (.iload_n 1, 1) := by decide +kernel
theorem dX3_setPlaces_38 : decode cX3_setPlaces 38 = .ok (.iaload, 1) := by decide +kernel
theorem dX3_setPlaces_39 : decode cX3_setPlaces 39 = .ok (.invokestatic 58, 3) := by decide +kernel
theorem dX3_setPlaces_42 : decode cX3_setPlaces 42 = .ok (.iload_n 3, 1) := by decide +kernel
theorem dX3_setPlaces_43 : decode cX3_setPlaces 43 = .ok (.invokestatic 90, 3) := by decide +kernel
theorem dX3_setPlaces_46 : decode cX3_setPlaces 46 = .ok (.iload_n 2, 1) := by decide +kernel
theorem dX3_setPlaces_47 : decode cX3_setPlaces 47 = .ok (.invokevirtual 76, 3) := by decide +kernel
theorem dX3_setPlaces_50 : decode cX3_setPlaces 50 = .ok (.ireturn, 1) := by decide +kernel
theorem dX3_strip_0 : decode cX3_strip 0 = .ok (.aload_n 0, 1) := by decide +kernel
theorem dX3_strip_1 : decode cX3_strip 1 = .ok (.iload_n 1, 1) := by decide +kernel
theorem dX3_strip_2 : decode cX3_strip 2 = .ok (.invokestatic 66, 3) := by decide +kernel
theorem dX3_strip_5 : decode cX3_strip 5 = .ok (.iconst 0, 1) := by decide +kernel
theorem dX3_strip_6 : decode cX3_strip 6 = .ok (.invokevirtual 72, 3) := by decide +kernel
theorem dX3_strip_9 : decode cX3_strip 9 = .ok (.ifCond .eq 5, 3) := by decide +kernel
theorem dX3_strip_12 : decode cX3_strip 12 = .ok (.iconst 0, 1) := by decide +kernel
theorem dX3_strip_13 : decode cX3_strip 13 = .ok (.ireturn, 1) := by decide +kernel
theorem dX3_strip_14 : decode cX3_strip 14 = .ok (.iconst 0, 1) := by decide +kernel
theorem dX3_strip_15 : decode cX3_strip 15 = .ok (.istore_n 2, 1) := by decide +kernel
theorem dX3_strip_16 : decode cX3_strip 16 = .ok (.aload_n 0, 1) := by decide +kernel
theorem dX3_strip_17 : decode cX3_strip 17 = .ok (.getfield 9, 3) := by decide +kernel
theorem dX3_strip_20 : decode cX3_strip 20 = .ok (.iload_n 1, 1) := by decide +kernel
theorem dX3_strip_21 : decode cX3_strip 21 = .ok (.iaload, 1) := by decide +kernel
theorem dX3_strip_22 : decode cX3_strip 22 = .ok (.i2l, 1) := by decide +kernel
theorem dX3_strip_23 : decode cX3_strip 23 = .ok (.aload_n 0, 1) := by decide +kernel
theorem dX3_strip_24 : decode cX3_strip 24 = .ok (.getfield 15, 3) := by decide +kernel
theorem dX3_strip_27 : decode cX3_strip 27 = .ok (.iload_n 1, 1) := by decide +kernel
theorem dX3_strip_28 : decode cX3_strip 28 = .ok (.iaload, 1) := by decide +kernel
theorem dX3_strip_29 : decode cX3_strip 29 = .ok (.iload_n 2, 1) := by decide +kernel
theorem dX3_strip_30 : decode cX3_strip 30 = .ok (.isub, 1) := by decide +kernel
theorem dX3_strip_31 : decode cX3_strip 31 = .ok (.invokestatic 58, 3) := by decide +kernel
theorem dX3_strip_34 : decode cX3_strip 34 = .ok (.lrem, 1) := by decide +kernel
theorem dX3_strip_35 : decode cX3_strip 35 = .ok (.lconst 0, 1) := by decide +kernel
theorem dX3_strip_36 : decode cX3_strip 36 = .ok (.lcmp, 1) := by decide +kernel
theorem dX3_strip_37 : decode cX3_strip 37 = .ok (.ifCond .eq 9, 3) := by decide +kernel
theorem dX3_strip_40 : decode cX3_strip 40 = .ok (.iinc 2 1, 3) := by decide +kernel
theorem dX3_strip_43 : decode cX3_strip 43 = .ok (.goto (-27), 3) := by decide +kernel
theorem dX3_strip_46 : decode cX3_strip 46 = .ok (.aload_n 0, 1) := by decide +kernel
theorem dX3_strip_47 : decode cX3_strip 47 = .ok (.iload_n 1, 1) := by decide +kernel
theorem dX3_strip_48 : decode cX3_strip 48 = .ok (.aload_n 0, 1) := by decide +kernel
theorem dX3_strip_49 : decode cX3_strip 49 = .ok (.getfield 9, 3) := by decide +kernel
theorem dX3_strip_52 : decode cX3_strip 52 = .ok (.iload_n 1, 1) := by decide +kernel
theorem dX3_strip_53 : decode cX3_strip 53 = .ok (.iaload, 1) := by decide +kernel
theorem dX3_strip_54 : decode cX3_strip 54 = .ok (.i2l, 1) := by decide +kernel
theorem dX3_strip_55 : decode cX3_strip 55 = .ok (.aload_n 0, 1) := by decide +kernel
theorem dX3_strip_56 : decode cX3_strip 56 = .ok (.getfield 15, 3) := by decide +kernel
theorem dX3_strip_59 : decode cX3_strip 59 = .ok (.iload_n 1, 1) := by decide +kernel
theorem dX3_strip_60 : decode cX3_strip 60 = .ok (.iaload, 1) := by decide +kernel
theorem dX3_strip_61 : decode cX3_strip 61 = .ok (.iload_n 2, 1) := by decide +kernel
theorem dX3_strip_62 : decode cX3_strip 62 = .ok (.isub, 1) := by decide +kernel
theorem dX3_strip_63 : decode cX3_strip 63 = .ok (.invokestatic 58, 3) := by decide +kernel
theorem dX3_strip_66 : decode cX3_strip 66 = .ok (.ldiv, 1) := by decide +kernel
theorem dX3_strip_67 : decode cX3_strip 67 = .ok (.iload_n 2, 1) := by decide +kernel
theorem dX3_strip_68 : decode cX3_strip 68 = .ok (.invokevirtual 76, 3) := by decide +kernel
theorem dX3_strip_71 : decode cX3_strip 71 = .ok (.ireturn, 1) := by decide +kernel
theorem dX3_move_0 : decode cX3_move 0 = .ok (.aload_n 0, 1) := by decide +kernel
theorem dX3_move_1 : decode cX3_move 1 = .ok (.iload_n 1, 1) := by decide +kernel
theorem dX3_move_2 : decode cX3_move 2 = .ok (.invokestatic 66, 3) := by decide +kernel
theorem dX3_move_5 : decode cX3_move 5 = .ok (.iload_n 2, 1) := by decide +kernel
theorem dX3_move_6 : decode cX3_move 6 = .ok (.bipush (-3), 2) := by decide +kernel
theorem dX3_move_8 : decode cX3_move 8 = .ok (.iconst 3, 1) := by decide +kernel
theorem dX3_move_9 : decode cX3_move 9 = .ok (.invokestatic 34, 3) := by decide +kernel
theorem dX3_move_12 : decode cX3_move 12 = .ok (.invokevirtual 72, 3) := by decide +kernel
theorem dX3_move_15 : decode cX3_move 15 = .ok (.ifCond .eq 5, 3) := by decide +kernel
theorem dX3_move_18 : decode cX3_move 18 = .ok (.iconst 0, 1) := by decide +kernel
theorem dX3_move_19 : decode cX3_move 19 = .ok (.ireturn, 1) := by decide +kernel
theorem dX3_move_20 : decode cX3_move 20 = .ok (.aload_n 0, 1) := by decide +kernel
theorem dX3_move_21 : decode cX3_move 21 = .ok (.getfield 15, 3) := by decide +kernel
theorem dX3_move_24 : decode cX3_move 24 = .ok (.iload_n 1, 1) := by decide +kernel
theorem dX3_move_25 : decode cX3_move 25 = .ok (.iaload, 1) := by decide +kernel
theorem dX3_move_26 : decode cX3_move 26 = .ok (.iload_n 2, 1) := by decide +kernel
theorem dX3_move_27 : decode cX3_move 27 = .ok (.iadd, 1) := by decide +kernel
theorem dX3_move_28 : decode cX3_move 28 = .ok (.istore_n 3, 1) := by decide +kernel
theorem dX3_move_29 : decode cX3_move 29 = .ok (.iload_n 3, 1) := by decide +kernel
theorem dX3_move_30 : decode cX3_move 30 = .ok (.ifCond .ge 25, 3) := by decide +kernel
theorem dX3_move_33 : decode cX3_move 33 = .ok (.aload_n 0, 1) := by decide +kernel
theorem dX3_move_34 : decode cX3_move 34 = .ok (.iload_n 1, 1) := by decide +kernel
theorem dX3_move_35 : decode cX3_move 35 = .ok (.aload_n 0, 1) := by decide +kernel
theorem dX3_move_36 : decode cX3_move 36 = .ok (.getfield 9, 3) := by decide +kernel
theorem dX3_move_39 : decode cX3_move 39 = .ok (.iload_n 1, 1) := by decide +kernel
theorem dX3_move_40 : decode cX3_move 40 = .ok (.iaload, 1) := by decide +kernel
theorem dX3_move_41 : decode cX3_move 41 = .ok (.i2l, 1) := by decide +kernel
theorem dX3_move_42 : decode cX3_move 42 = .ok (.iload_n 3, 1) := by decide +kernel
theorem dX3_move_43 : decode cX3_move 43 = .ok (.ineg, 1) := by decide +kernel
theorem dX3_move_44 : decode cX3_move 44 = .ok (.invokestatic 58, 3) := by decide +kernel
theorem dX3_move_47 : decode cX3_move 47 = .ok (.lmul, 1) := by decide +kernel
theorem dX3_move_48 : decode cX3_move 48 = .ok (.iconst 0, 1) := by decide +kernel
theorem dX3_move_49 : decode cX3_move 49 = .ok (.invokevirtual 76, 3) := by decide +kernel
theorem dX3_move_52 : decode cX3_move 52 = .ok (.goto 16, 3) := by decide +kernel
theorem dX3_move_55 : decode cX3_move 55 = .ok (.aload_n 0, 1) := by decide +kernel
theorem dX3_move_56 : decode cX3_move 56 = .ok (.iload_n 1, 1) := by decide +kernel
theorem dX3_move_57 : decode cX3_move 57 = .ok (.aload_n 0, 1) := by decide +kernel
theorem dX3_move_58 : decode cX3_move 58 = .ok (.getfield 9, 3) := by decide +kernel
theorem dX3_move_61 : decode cX3_move 61 = .ok (.iload_n 1, 1) := by decide +kernel
theorem dX3_move_62 : decode cX3_move 62 = .ok (.iaload, 1) := by decide +kernel
theorem dX3_move_63 : decode cX3_move 63 = .ok (.i2l, 1) := by decide +kernel
theorem dX3_move_64 : decode cX3_move 64 = .ok (.iload_n 3, 1) := by decide +kernel
theorem dX3_move_65 : decode cX3_move 65 = .ok (.invokevirtual 76, 3) := by decide +kernel
theorem dX3_move_68 : decode cX3_move 68 = .ok (.ireturn, 1) := by decide +kernel
theorem dX3_round_0 : decode cX3_round 0 = .ok (.aload_n 0, 1) := by decide +kernel
theorem dX3_round_1 : decode cX3_round 1 = .ok (.iload_n 1, 1) := by decide +kernel
theorem dX3_round_2 : decode cX3_round 2 = .ok (.invokestatic 66, 3) := by decide +kernel
theorem dX3_round_5 : decode cX3_round 5 = .ok (.iload_n 2, 1) := by decide +kernel
theorem dX3_round_6 : decode cX3_round 6 = .ok (.iconst 1, 1) := by decide +kernel
theorem dX3_round_7 : decode cX3_round 7 = .ok (.bipush 6, 2) := by decide +kernel
theorem dX3_round_9 : decode cX3_round 9 = .ok (.invokestatic 34, 3) := by decide +kernel
theorem dX3_round_12 : decode cX3_round 12 = .ok (.ifCond .ne 13, 3) := by decide +kernel
theorem dX3_round_15 : decode cX3_round 15 = .ok (.iload_n 3, 1) := by decide +kernel
theorem dX3_round_16 : decode cX3_round 16 = .ok (.iconst 0, 1) := by decide +kernel
theorem dX3_round_17 : decode cX3_round 17 = .ok (.bipush 7, 2) := by decide +kernel
theorem dX3_round_19 : decode cX3_round 19 = .ok (.invokestatic 34, 3) := by decide +kernel
theorem dX3_round_22 : decode cX3_round 22 = .ok (.ifCond .eq 7, 3) := by decide +kernel
theorem dX3_round_25 : decode cX3_round 25 = .ok (.iconst 1, 1) := by decide +kernel
theorem dX3_round_26 : decode cX3_round 26 = .ok (.goto 4, 3) := by decide +kernel
theorem dX3_round_29 : decode cX3_round 29 = .ok (.iconst 0, 1) := by decide +kernel
theorem dX3_round_30 : decode cX3_round 30 = .ok (.invokevirtual 72, 3) := by decide +kernel
theorem dX3_round_33 : decode cX3_round 33 = .ok (.ifCond .eq 5, 3) := by decide +kernel
theorem dX3_round_36 : decode cX3_round 36 = .ok (.iconst 0, 1) := by decide +kernel
theorem dX3_round_37 : decode cX3_round 37 = .ok (.ireturn, 1) := by decide +kernel
theorem dX3_round_38 : decode cX3_round 38 = .ok (.aload_n 0, 1) := by decide +kernel
theorem dX3_round_39 : decode cX3_round 39 = .ok (.getfield 9, 3) := by decide +kernel
theorem dX3_round_42 : decode cX3_round 42 = .ok (.iload_n 1, 1) := by decide +kernel
theorem dX3_round_43 : decode cX3_round 43 = .ok (.iaload, 1) := by decide +kernel
theorem dX3_round_44 : decode cX3_round 44 = .ok (.i2l, 1) := by decide +kernel
theorem dX3_round_45 : decode cX3_round 45 = .ok (.invokestatic 97, 3) := by decide +kernel
theorem dX3_round_48 : decode cX3_round 48 = .ok (.iload_n 2, 1) := by decide +kernel
theorem dX3_round_49 : decode cX3_round 49 = .ok (.isub, 1) := by decide +kernel
theorem dX3_round_50 : decode cX3_round 50 = .ok (.istore 4, 2) := by decide +kernel
theorem dX3_round_52 : decode cX3_round 52 = .ok (.iload 4, 2) := by decide +kernel
theorem dX3_round_54 : decode cX3_round 54 = .ok (.ifCond .gt 22, 3) := by decide +kernel
theorem dX3_round_57 : decode cX3_round 57 = .ok (.aload_n 0, 1) := by decide +kernel
theorem dX3_round_58 : decode cX3_round 58 = .ok (.iload_n 1, 1) := by decide +kernel
theorem dX3_round_59 : decode cX3_round 59 = .ok (.aload_n 0, 1) := by decide +kernel
theorem dX3_round_60 : decode cX3_round 60 = .ok (.getfield 9, 3) := by decide +kernel
theorem dX3_round_63 : decode cX3_round 63 = .ok (.iload_n 1, 1) := by decide +kernel
theorem dX3_round_64 : decode cX3_round 64 = .ok (.iaload, 1) := by decide +kernel
theorem dX3_round_65 : decode cX3_round 65 = .ok (.i2l, 1) := by decide +kernel
theorem dX3_round_66 : decode cX3_round 66 = .ok (.aload_n 0, 1) := by decide +kernel
theorem dX3_round_67 : decode cX3_round 67 = .ok (.getfield 15, 3) := by decide +kernel
theorem dX3_round_70 : decode cX3_round 70 = .ok (.iload_n 1, 1) := by decide +kernel
theorem dX3_round_71 : decode cX3_round 71 = .ok (.iaload, 1) := by decide +kernel
theorem dX3_round_72 : decode cX3_round 72 = .ok (.invokevirtual 76, 3) := by decide +kernel
theorem dX3_round_75 : decode cX3_round 75 = .ok (.ireturn, 1) := by decide +kernel
theorem dX3_round_76 : decode cX3_round 76 = .ok (.aload_n 0, 1) := by decide +kernel
theorem dX3_round_77 : decode cX3_round 77 = .ok (.getfield 9, 3) := by decide +kernel
theorem dX3_round_80 : decode cX3_round 80 = .ok (.iload_n 1, 1) := by decide +kernel
theorem dX3_round_81 : decode cX3_round 81 = .ok (.iaload, 1) := by decide +kernel
theorem dX3_round_82 : decode cX3_round 82 = .ok (.i2l, 1) := by decide +kernel
theorem dX3_round_83 : decode cX3_round 83 = .ok (.iload 4, 2) := by decide +kernel
theorem dX3_round_85 : decode cX3_round 85 = .ok (.invokestatic 58, 3) := by decide +kernel
theorem dX3_round_88 : decode cX3_round 88 = .ok (.iload_n 3, 1) := by decide +kernel
theorem dX3_round_89 : decode cX3_round 89 = .ok (.invokestatic 90, 3) := by decide +kernel
theorem dX3_round_92 : decode cX3_round 92 = .ok (.lstore 5, 2) := by decide +kernel
theorem dX3_round_94 : decode cX3_round 94 = .ok (.lload 5, 2) := by decide +kernel
theorem dX3_round_96 : decode cX3_round 96 = .ok (.ldc2_w 44, 3) := by decide +kernel
theorem dX3_round_99 : decode cX3_round 99 = .ok (.lcmp, 1) := by decide +kernel
theorem dX3_round_100 : decode cX3_round 100 = .ok (.ifCond .ne 8, 3) := by decide +kernel
theorem dX3_round_103 : decode cX3_round 103 = .ok (.aload_n 0, 1) := by decide +kernel
theorem dX3_round_104 : decode cX3_round 104 = .ok (.invokevirtual 54, 3) := by decide +kernel
theorem dX3_round_107 : decode cX3_round 107 = .ok (.ireturn, 1) := by decide +kernel
theorem dX3_round_108 : decode cX3_round 108 = .ok (.aload_n 0, 1) := by decide +kernel
theorem dX3_round_109 : decode cX3_round 109 = .ok (.getfield 15, 3) := by decide +kernel
theorem dX3_round_112 : decode cX3_round 112 = .ok (.iload_n 1, 1) := by decide +kernel
theorem dX3_round_113 : decode cX3_round 113 = .ok (.iaload, 1) := by decide +kernel
theorem dX3_round_114 : decode cX3_round 114 = .ok (.iload 4, 2) := by decide +kernel
theorem dX3_round_116 : decode cX3_round 116 = .ok (.isub, 1) := by decide +kernel
theorem dX3_round_117 : decode cX3_round 117 = .ok (.istore 7, 2) := by decide +kernel
theorem dX3_round_119 : decode cX3_round 119 = .ok (.lload 5, 2) := by decide +kernel
theorem dX3_round_121 : decode cX3_round 121 = .ok (.invokestatic 97, 3) := by decide +kernel
theorem dX3_round_124 : decode cX3_round 124 = .ok (.iload_n 2, 1) := by decide +kernel
theorem dX3_round_125 : decode cX3_round 125 = .ok (.if_icmp .le 14, 3) := by decide +kernel
theorem dX3_round_128 : decode cX3_round 128 = .ok (.lload 5, 2) := by decide +kernel
theorem dX3_round_130 : decode cX3_round 130 = .ok (.ldc2_w 38, 3) := by decide +kernel
theorem dX3_round_133 : decode cX3_round 133 = .ok (.ldiv, 1) := by decide +kernel
theorem dX3_round_134 : decode cX3_round 134 = .ok (.lstore 5, 2) := by decide +kernel
theorem dX3_round_136 : decode cX3_round 136 = .ok (.iinc 7 (-1), 3) := by decide +kernel
theorem dX3_round_139 : decode cX3_round 139 = .ok (.iload 7, 2) := by decide +kernel
theorem dX3_round_141 : decode cX3_round 141 = .ok (.ifCond .ge 21, 3) := by decide +kernel
theorem dX3_round_144 : decode cX3_round 144 = .ok (.aload_n 0, 1) := by decide +kernel
theorem dX3_round_145 : decode cX3_round 145 = .ok (.iload_n 1, 1) := by decide +kernel
theorem dX3_round_146 : decode cX3_round 146 = .ok (.lload 5, 2) := by decide +kernel
theorem dX3_round_148 : decode cX3_round 148 = .ok (.iload 7, 2) := by decide +kernel
theorem dX3_round_150 : decode cX3_round 150 = .ok (.ineg, 1) := by decide +kernel
theorem dX3_round_151 : decode cX3_round 151 = .ok (.invokestatic 58, 3) := by decide +kernel
theorem dX3_round_154 : decode cX3_round 154 = .ok (.lmul, 1) := by decide +kernel
theorem dX3_round_155 : decode cX3_round 155 = .ok (.iconst 0, 1) := by decide +kernel
theorem dX3_round_156 : decode cX3_round 156 = .ok (.invokevirtual 76, 3) := by decide +kernel
theorem dX3_round_159 : decode cX3_round 159 = .ok (.goto 12, 3) := by decide +kernel
theorem dX3_round_162 : decode cX3_round 162 = .ok (.aload_n 0, 1) := by decide +kernel
theorem dX3_round_163 : decode cX3_round 163 = .ok (.iload_n 1, 1) := by decide +kernel
theorem dX3_round_164 : decode cX3_round 164 = .ok (.lload 5, 2) := by decide +kernel
theorem dX3_round_166 : decode cX3_round 166 = .ok (.iload 7, 2) := by decide +kernel
theorem dX3_round_168 : decode cX3_round 168 = .ok (.invokevirtual 76, 3) := by decide +kernel
theorem dX3_round_171 : decode cX3_round 171 = .ok (.ireturn, 1) := by decide +kernel
theorem dX3_greater_0 : decode cX3_greater 0 = .ok (.aload_n 0, 1) := by decide +kernel
theorem dX3_greater_1 : decode cX3_greater 1 = .ok (.aload_n 0, 1) := by decide +kernel
theorem dX3_greater_2 : decode cX3_greater 2 = .ok (.iload_n 1, 1) := by decide +kernel
theorem dX3_greater_3 : decode cX3_greater 3 = .ok (.iload_n 2, 1) := by decide +kernel
theorem dX3_greater_4 : decode cX3_greater 4 = .ok (.iload_n 3, 1) := by decide +kernel
theorem dX3_greater_5 : decode cX3_greater 5 = .ok (.invokevirtual 80, 3) := by decide +kernel
theorem dX3_greater_8 : decode cX3_greater 8 = .ok (.iconst 0, 1) := by decide +kernel
theorem dX3_greater_9 : decode cX3_greater 9 = .ok (.invokevirtual 72, 3) := by decide +kernel
theorem dX3_greater_12 : decode cX3_greater 12 = .ok (.ifCond .eq 5, 3) := by decide +kernel
theorem dX3_greater_15 : decode cX3_greater 15 = .ok (.iconst 0, 1) := by decide +kernel
theorem dX3_greater_16 : decode cX3_greater 16 = .ok (.ireturn, 1) := by decide +kernel
theorem dX3_greater_17 : decode cX3_greater 17 = .ok (.aload_n 0, 1) := by decide +kernel
theorem dX3_greater_18 : decode cX3_greater 18 = .ok (.iload_n 1, 1) := by decide +kernel
theorem dX3_greater_19 : decode cX3_greater 19 = .ok (.iload_n 2, 1) := by decide +kernel
theorem dX3_greater_20 : decode cX3_greater 20 = .ok (.invokevirtual 101, 3) := by decide +kernel
theorem dX3_greater_23 : decode cX3_greater 23 = .ok (.ifCond .ge 7, 3) := by decide +kernel
theorem dX3_greater_26 : decode cX3_greater 26 = .ok (.iload_n 2, 1) := by decide +kernel
theorem dX3_greater_27 : decode cX3_greater 27 = .ok (.goto 4, 3) := by decide +kernel
theorem dX3_greater_30 : decode cX3_greater 30 = .ok (.iload_n 1, 1) := by decide +kernel
theorem dX3_greater_31 : decode cX3_greater 31 = .ok (.istore 4, 2) := by decide +kernel
theorem dX3_greater_33 : decode cX3_greater 33 = .ok (.aload_n 0, 1) := by decide +kernel
theorem dX3_greater_34 : decode cX3_greater 34 = .ok (.iload_n 3, 1) := by decide +kernel
theorem dX3_greater_35 : decode cX3_greater 35 = .ok (.aload_n 0, 1) := by decide +kernel
theorem dX3_greater_36 : decode cX3_greater 36 = .ok (.getfield 9, 3) := by decide +kernel
theorem dX3_greater_39 : decode cX3_greater 39 = .ok (.iload 4, 2) := by decide +kernel
theorem dX3_greater_41 : decode cX3_greater 41 = .ok (.iaload, 1) := by decide +kernel
theorem dX3_greater_42 : decode cX3_greater 42 = .ok (.i2l, 1) := by decide +kernel
theorem dX3_greater_43 : decode cX3_greater 43 = .ok (.aload_n 0, 1) := by decide +kernel
theorem dX3_greater_44 : decode cX3_greater 44 = .ok (.getfield 15, 3) := by decide +kernel
theorem dX3_greater_47 : decode cX3_greater 47 = .ok (.iload 4, 2) := by decide +kernel
theorem dX3_greater_49 : decode cX3_greater 49 = .ok (.iaload, 1) := by decide +kernel
theorem dX3_greater_50 : decode cX3_greater 50 = .ok (.invokevirtual 76, 3) := by decide +kernel
theorem dX3_greater_53 : decode cX3_greater 53 = .ok (.ireturn, 1) := by decide +kernel
theorem dX3_lesser_0 : decode cX3_lesser 0 = .ok (.aload_n 0, 1) := by decide +kernel
theorem dX3_lesser_1 : decode cX3_lesser 1 = .ok (.aload_n 0, 1) := by decide +kernel
theorem dX3_lesser_2 : decode cX3_lesser 2 = .ok (.iload_n 1, 1) := by decide +kernel
theorem dX3_lesser_3 : decode cX3_lesser 3 = .ok (.iload_n 2, 1) := by decide +kernel
theorem dX3_lesser_4 : decode cX3_lesser 4 = .ok (.iload_n 3, 1) := by decide +kernel
theorem dX3_lesser_5 : decode cX3_lesser 5 = .ok (.invokevirtual 80, 3) := by decide +kernel
theorem dX3_lesser_8 : decode cX3_lesser 8 = .ok (.iconst 0, 1) := by decide +kernel
theorem dX3_lesser_9 : decode cX3_lesser 9 = .ok (.invokevirtual 72, 3) := by decide +kernel
theorem dX3_lesser_12 : decode cX3_lesser 12 = .ok (.ifCond .eq 5, 3) := by decide +kernel
theorem dX3_lesser_15 : decode cX3_lesser 15 = .ok (.iconst 0, 1) := by decide +kernel
theorem dX3_lesser_16 : decode cX3_lesser 16 = .ok (.ireturn, 1) := by decide +kernel
theorem dX3_lesser_17 : decode cX3_lesser 17 = .ok (.aload_n 0, 1) := by decide +kernel
theorem dX3_lesser_18 : decode cX3_lesser 18 = .ok (.iload_n 1, 1) := by decide +kernel
theorem dX3_lesser_19 : decode cX3_lesser 19 = .ok (.iload_n 2, 1) := by decide +kernel
theorem dX3_lesser_20 : decode cX3_lesser 20 = .ok (.invokevirtual 101, 3) := by decide +kernel
theorem dX3_lesser_23 : decode cX3_lesser 23 = .ok (.ifCond .le 7, 3) := by decide +kernel
theorem dX3_lesser_26 : decode cX3_lesser 26 = .ok (.iload_n 2, 1) := by decide +kernel
theorem dX3_lesser_27 : decode cX3_lesser 27 = .ok (.goto 4, 3) := by decide +kernel
theorem dX3_lesser_30 : decode cX3_lesser 30 = .ok (.iload_n 1, 1) := by decide +kernel
theorem dX3_lesser_31 : decode cX3_lesser 31 = .ok (.istore 4, 2) := by decide +kernel
theorem dX3_lesser_33 : decode cX3_lesser 33 = .ok (.aload_n 0, 1) := by decide +kernel
theorem dX3_lesser_34 : decode cX3_lesser 34 = .ok (.iload_n 3, 1) := by decide +kernel
theorem dX3_lesser_35 : decode cX3_lesser 35 = .ok (.aload_n 0, 1) := by decide +kernel
theorem dX3_lesser_36 : decode cX3_lesser 36 = .ok (.getfield 9, 3) := by decide +kernel
theorem dX3_lesser_39 : decode cX3_lesser 39 = .ok (.iload 4, 2) := by decide +kernel
theorem dX3_lesser_41 : decode cX3_lesser 41 = .ok (.iaload, 1) := by decide +kernel
theorem dX3_lesser_42 : decode cX3_lesser 42 = .ok (.i2l, 1) := by decide +kernel
theorem dX3_lesser_43 : decode cX3_lesser 43 = .ok (.aload_n 0, 1) := by decide +kernel
theorem dX3_lesser_44 : decode cX3_lesser 44 = .ok (.getfield 15, 3) := by decide +kernel
theorem dX3_lesser_47 : decode cX3_lesser 47 = .ok (.iload 4, 2) := by decide +kernel
theorem dX3_lesser_49 : decode cX3_lesser 49 = .ok (.iaload, 1) := by decide +kernel
theorem dX3_lesser_50 : decode cX3_lesser 50 = .ok (.invokevirtual 76, 3) := by decide +kernel
theorem dX3_lesser_53 : decode cX3_lesser 53 = .ok (.ireturn, 1) := by decide +kernel
theorem dX3_cutOf_0 : decode cX3_cutOf 0 = .ok (.aload_n 0, 1) := by decide +kernel
theorem dX3_cutOf_1 : decode cX3_cutOf 1 = .ok (.getfield 18, 3) := by decide +kernel
theorem dX3_cutOf_4 : decode cX3_cutOf 4 = .ok (.iload_n 1, 1) := by decide +kernel
theorem dX3_cutOf_5 : decode cX3_cutOf 5 = .ok (.iaload, 1) := by decide +kernel
theorem dX3_cutOf_6 : decode cX3_cutOf 6 = .ok (.i2l, 1) := by decide +kernel
theorem dX3_cutOf_7 : decode cX3_cutOf 7 = .ok (.iload_n 3, 1) := by decide +kernel
theorem dX3_cutOf_8 : decode cX3_cutOf 8 = .ok (.invokestatic 58, 3) := by decide +kernel
theorem dX3_cutOf_11 : decode cX3_cutOf 11 = .ok (.lmul, 1) := by decide +kernel
theorem dX3_cutOf_12 : decode cX3_cutOf 12 = .ok (.lstore 5, 2) := by decide +kernel
theorem dX3_cutOf_14 : decode cX3_cutOf 14 = .ok (.iload_n 2, 1) := by decide +kernel
theorem dX3_cutOf_15 : decode cX3_cutOf 15 = .ok (.ifCond .eq 9, 3) := by decide +kernel
theorem dX3_cutOf_18 : decode cX3_cutOf 18 = .ok (.lload 5, 2) := by decide +kernel
theorem dX3_cutOf_20 : decode cX3_cutOf 20 = .ok (.lneg, 1) := by decide +kernel
theorem dX3_cutOf_21 : decode cX3_cutOf 21 = .ok (.goto 5, 3) := by decide +kernel
theorem dX3_cutOf_24 : decode cX3_cutOf 24 = .ok (.lload 5, 2) := by decide +kernel
theorem dX3_cutOf_26 : decode cX3_cutOf 26 = .ok (.aload_n 0, 1) := by decide +kernel
theorem dX3_cutOf_27 : decode cX3_cutOf 27 = .ok (.getfield 21, 3) := by decide +kernel
theorem dX3_cutOf_30 : decode cX3_cutOf 30 = .ok (.iload_n 1, 1) := by decide +kernel
theorem dX3_cutOf_31 : decode cX3_cutOf 31 = .ok (.iaload, 1) := by decide +kernel
theorem dX3_cutOf_32 : decode cX3_cutOf 32 = .ok (.i2l, 1) := by decide +kernel
theorem dX3_cutOf_33 : decode cX3_cutOf 33 = .ok (.iload 4, 2) := by decide +kernel
theorem dX3_cutOf_35 : decode cX3_cutOf 35 = .ok (.invokestatic 90, 3) := by decide +kernel
theorem dX3_cutOf_38 : decode cX3_cutOf 38 = .ok (.lreturn, 1) := by decide +kernel
theorem dX3_cut_0 : decode cX3_cut 0 = .ok (.aload_n 0, 1) := by decide +kernel
theorem dX3_cut_1 : decode cX3_cut 1 = .ok (.iload_n 1, 1) := by decide +kernel
theorem dX3_cut_2 : decode cX3_cut 2 = .ok (.invokestatic 104, 3) := by decide +kernel
theorem dX3_cut_5 : decode cX3_cut 5 = .ok (.ifCond .ne 11, 3) := by decide +kernel
theorem dX3_cut_8 : decode cX3_cut 8 = .ok (.iload 5, 2) := by decide +kernel
theorem dX3_cut_10 : decode cX3_cut 10 = .ok (.invokestatic 66, 3) := by decide +kernel
theorem dX3_cut_13 : decode cX3_cut 13 = .ok (.ifCond .eq 7, 3) := by decide +kernel
theorem dX3_cut_16 : decode cX3_cut 16 = .ok (.iconst 1, 1) := by decide +kernel
theorem dX3_cut_17 : decode cX3_cut 17 = .ok (.goto 4, 3) := by decide +kernel
theorem dX3_cut_20 : decode cX3_cut 20 = .ok (.iconst 0, 1) := by decide +kernel
theorem dX3_cut_21 : decode cX3_cut 21 = .ok (.iload_n 3, 1) := by decide +kernel
theorem dX3_cut_22 : decode cX3_cut 22 = .ok (.iload 4, 2) := by decide +kernel
theorem dX3_cut_24 : decode cX3_cut 24 = .ok (.iconst 3, 1) := by decide +kernel
theorem dX3_cut_25 : decode cX3_cut 25 = .ok (.invokestatic 87, 3) := by decide +kernel
theorem dX3_cut_28 : decode cX3_cut 28 = .ok (.invokevirtual 72, 3) := by decide +kernel
theorem dX3_cut_31 : decode cX3_cut 31 = .ok (.ifCond .eq 5, 3) := by decide +kernel
theorem dX3_cut_34 : decode cX3_cut 34 = .ok (.iconst 0, 1) := by decide +kernel
theorem dX3_cut_35 : decode cX3_cut 35 = .ok (.ireturn, 1) := by decide +kernel
theorem dX3_cut_36 : decode cX3_cut 36 = .ok (.aload_n 0, 1) := by decide +kernel
theorem dX3_cut_37 : decode cX3_cut 37 = .ok (.iload 5, 2) := by decide +kernel
theorem dX3_cut_39 : decode cX3_cut 39 = .ok (.aload_n 0, 1) := by decide +kernel
theorem dX3_cut_40 : decode cX3_cut 40 = .ok (.iload_n 1, 1) := by decide +kernel
theorem dX3_cut_41 : decode cX3_cut 41 = .ok (.iload_n 2, 1) := by decide +kernel
theorem dX3_cut_42 : decode cX3_cut 42 = .ok (.iload_n 3, 1) := by decide +kernel
theorem dX3_cut_43 : decode cX3_cut 43 = .ok (.iload 4, 2) := by decide +kernel
theorem dX3_cut_45 : decode cX3_cut 45 = .ok (.invokevirtual 107, 3) := by decide +kernel
theorem dX3_cut_48 : decode cX3_cut 48 = .ok (.iload_n 3, 1) := by decide +kernel
theorem dX3_cut_49 : decode cX3_cut 49 = .ok (.invokevirtual 76, 3) := by decide +kernel
theorem dX3_cut_52 : decode cX3_cut 52 = .ok (.ireturn, 1) := by decide +kernel
theorem dX3_count_0 : decode cX3_count 0 = .ok (.aload_n 0, 1) := by decide +kernel
theorem dX3_count_1 : decode cX3_count 1 = .ok (.iload_n 1, 1) := by decide +kernel
theorem dX3_count_2 : decode cX3_count 2 = .ok (.invokestatic 66, 3) := by decide +kernel
theorem dX3_count_5 : decode cX3_count 5 = .ok (.iconst 0, 1) := by decide +kernel
theorem dX3_count_6 : decode cX3_count 6 = .ok (.invokevirtual 72, 3) := by decide +kernel
theorem dX3_count_9 : decode cX3_count 9 = .ok (.ifCond .eq 7, 3) := by decide +kernel
theorem dX3_count_12 : decode cX3_count 12 = .ok (.iconst 0, 1) := by decide +kernel
theorem dX3_count_13 : decode cX3_count 13 = .ok (.goto 9, 3) := by decide +kernel
theorem dX3_count_16 : decode cX3_count 16 = .ok (.aload_n 0, 1) := by decide +kernel
theorem dX3_count_17 : decode cX3_count 17 = .ok (.getfield 9, 3) := by decide +kernel
theorem dX3_count_20 : decode cX3_count 20 = .ok (.iload_n 1, 1) := by decide +kernel
theorem dX3_count_21 : decode cX3_count 21 = .ok (.iaload, 1) := by decide +kernel
theorem dX3_count_22 : decode cX3_count 22 = .ok (.ireturn, 1) := by decide +kernel
theorem dX3_places_0 : decode cX3_places 0 = .ok (.aload_n 0, 1) := by decide +kernel
theorem dX3_places_1 : decode cX3_places 1 = .ok (.iload_n 1, 1) := by decide +kernel
theorem dX3_places_2 : decode cX3_places 2 = .ok (.invokestatic 66, 3) := by decide +kernel
theorem dX3_places_5 : decode cX3_places 5 = .ok (.iconst 0, 1) := by decide +kernel
theorem dX3_places_6 : decode cX3_places 6 = .ok (.invokevirtual 72, 3) := by decide +kernel
theorem dX3_places_9 : decode cX3_places 9 = .ok (.ifCond .eq 7, 3) := by decide +kernel
theorem dX3_places_12 : decode cX3_places 12 = .ok (.iconst 0, 1) := by decide +kernel
theorem dX3_places_13 : decode cX3_places 13 = .ok (.goto 9, 3) := by decide +kernel
theorem dX3_places_16 : decode cX3_places 16 = .ok (.aload_n 0, 1) := by decide +kernel
theorem dX3_places_17 : decode cX3_places 17 = .ok (.getfield 15, 3) := by decide +kernel
theorem dX3_places_20 : decode cX3_places 20 = .ok (.iload_n 1, 1) := by decide +kernel
theorem dX3_places_21 : decode cX3_places 21 = .ok (.iaload, 1) := by decide +kernel
theorem dX3_places_22 : decode cX3_places 22 = .ok (.ireturn, 1) := by decide +kernel
theorem dX3_digits_0 : decode cX3_digits 0 = .ok (.aload_n 0, 1) := by decide +kernel
theorem dX3_digits_1 : decode cX3_digits 1 = .ok (.iload_n 1, 1) := by decide +kernel
theorem dX3_digits_2 : decode cX3_digits 2 = .ok (.invokestatic 66, 3) := by decide +kernel
theorem dX3_digits_5 : decode cX3_digits 5 = .ok (.iconst 0, 1) := by decide +kernel
theorem dX3_digits_6 : decode cX3_digits 6 = .ok (.invokevirtual 72, 3) := by decide +kernel
theorem dX3_digits_9 : decode cX3_digits 9 = .ok (.ifCond .eq 7, 3) := by decide +kernel
theorem dX3_digits_12 : decode cX3_digits 12 = .ok (.iconst 0, 1) := by decide +kernel
theorem dX3_digits_13 : decode cX3_digits 13 = .ok (.goto 13, 3) := by decide +kernel
theorem dX3_digits_16 : decode cX3_digits 16 = .ok (.aload_n 0, 1) := by decide +kernel
theorem dX3_digits_17 : decode cX3_digits 17 = .ok (.getfield 9, 3) := by decide +kernel
theorem dX3_digits_20 : decode cX3_digits 20 = .ok (.iload_n 1, 1) := by decide +kernel
theorem dX3_digits_21 : decode cX3_digits 21 = .ok (.iaload, 1) := by decide +kernel
theorem dX3_digits_22 : decode cX3_digits 22 = .ok (.i2l, 1) := by decide +kernel
theorem dX3_digits_23 : decode cX3_digits 23 = .ok (.invokestatic 97, 3) := by decide +kernel
theorem dX3_digits_26 : decode cX3_digits 26 = .ok (.ireturn, 1) := by decide +kernel
theorem dX3_sign_0 : decode cX3_sign 0 = .ok (.aload_n 0, 1) := by decide +kernel
theorem dX3_sign_1 : decode cX3_sign 1 = .ok (.iload_n 1, 1) := by decide +kernel
theorem dX3_sign_2 : decode cX3_sign 2 = .ok (.invokestatic 66, 3) := by decide +kernel
theorem dX3_sign_5 : decode cX3_sign 5 = .ok (.iconst 0, 1) := by decide +kernel
theorem dX3_sign_6 : decode cX3_sign 6 = .ok (.invokevirtual 72, 3) := by decide +kernel
theorem dX3_sign_9 : decode cX3_sign 9 = .ok (.ifCond .eq 7, 3) := by decide +kernel
theorem dX3_sign_12 : decode cX3_sign 12 = .ok (.iconst 0, 1) := by decide +kernel
theorem dX3_sign_13 : decode cX3_sign 13 = .ok (.goto 14, 3) := by decide +kernel
theorem dX3_sign_16 : decode cX3_sign 16 = .ok (.aload_n 0, 1) := by decide +kernel
theorem dX3_sign_17 : decode cX3_sign 17 = .ok (.getfield 9, 3) := by decide +kernel
theorem dX3_sign_20 : decode cX3_sign 20 = .ok (.iload_n 1, 1) := by decide +kernel
theorem dX3_sign_21 : decode cX3_sign 21 = .ok (.iaload, 1) := by decide +kernel
theorem dX3_sign_22 : decode cX3_sign 22 = .ok (.i2l, 1) := by decide +kernel
theorem dX3_sign_23 : decode cX3_sign 23 = .ok (.lconst 0, 1) := by decide +kernel
theorem dX3_sign_24 : decode cX3_sign 24 = .ok (.invokestatic 48, 3) := by decide +kernel
theorem dX3_sign_27 : decode cX3_sign 27 = .ok (.ireturn, 1) := by decide +kernel
theorem dX3_textOf_0 : decode cX3_textOf 0 = .ok (.new 111, 3) := by decide +kernel
theorem dX3_textOf_3 : decode cX3_textOf 3 = .ok (.dup, 1) := by decide +kernel
theorem dX3_textOf_4 : decode cX3_textOf 4 = .ok (.bipush 24, 2) := by decide +kernel
theorem dX3_textOf_6 : decode cX3_textOf 6 = .ok (.invokespecial 113, 3) := by decide +kernel
theorem dX3_textOf_9 : decode cX3_textOf 9 = .ok (.astore_n 3, 1) := by decide +kernel
theorem dX3_textOf_10 : decode cX3_textOf 10 = .ok (.lload_n 0, 1) := by decide +kernel
theorem dX3_textOf_11 : decode cX3_textOf 11 = .ok (.lconst 0, 1) := by decide +kernel
theorem dX3_textOf_12 : decode cX3_textOf 12 = .ok (.lcmp, 1) := by decide +kernel
theorem dX3_textOf_13 : decode cX3_textOf 13 = .ok (.ifCond .ge 10, 3) := by decide +kernel
theorem dX3_textOf_16 : decode cX3_textOf 16 = .ok (.aload_n 3, 1) := by decide +kernel
theorem dX3_textOf_17 : decode cX3_textOf 17 = .ok (.bipush 45, 2) := by decide +kernel
theorem dX3_textOf_19 : decode cX3_textOf 19 = .ok (.invokevirtual 116, 3) := by decide +kernel
theorem dX3_textOf_22 : decode cX3_textOf 22 = .ok (.pop, 1) := by decide +kernel
theorem dX3_textOf_23 : decode cX3_textOf 23 = .ok (.lload_n 0, 1) := by decide +kernel
theorem dX3_textOf_24 : decode cX3_textOf 24 = .ok (.invokestatic 97, 3) := by decide +kernel
theorem dX3_textOf_27 : decode cX3_textOf 27 = .ok (.iload_n 2, 1) := by decide +kernel
theorem dX3_textOf_28 : decode cX3_textOf 28 = .ok (.if_icmp .le 10, 3) := by decide +kernel
theorem dX3_textOf_31 : decode cX3_textOf 31 = .ok (.lload_n 0, 1) := by decide +kernel
theorem dX3_textOf_32 : decode cX3_textOf 32 = .ok (.invokestatic 97, 3) := by decide +kernel
theorem dX3_textOf_35 : decode cX3_textOf 35 = .ok (.goto 6, 3) := by decide +kernel
theorem dX3_textOf_38 : decode cX3_textOf 38 = .ok (.iload_n 2, 1) := by decide +kernel
theorem dX3_textOf_39 : decode cX3_textOf 39 = .ok (.iconst 1, 1) := by decide +kernel
theorem dX3_textOf_40 : decode cX3_textOf 40 = .ok (.iadd, 1) := by decide +kernel
theorem dX3_textOf_41 : decode cX3_textOf 41 = .ok (.istore 4, 2) := by decide +kernel
theorem dX3_textOf_43 : decode cX3_textOf 43 = .ok (.iload 4, 2) := by decide +kernel
theorem dX3_textOf_45 : decode cX3_textOf 45 = .ok (.iconst 1, 1) := by decide +kernel
theorem dX3_textOf_46 : decode cX3_textOf 46 = .ok (.isub, 1) := by decide +kernel
theorem dX3_textOf_47 : decode cX3_textOf 47 = .ok (.istore 5, 2) := by decide +kernel
theorem dX3_textOf_49 : decode cX3_textOf 49 = .ok (.iload 5, 2) := by decide +kernel
theorem dX3_textOf_51 : decode cX3_textOf 51 = .ok (.ifCond .lt 51, 3) := by decide +kernel
theorem dX3_textOf_54 : decode cX3_textOf 54 = .ok (.aload_n 3, 1) := by decide +kernel
theorem dX3_textOf_55 : decode cX3_textOf 55 = .ok (.ldc2_w 120, 3) := by decide +kernel
theorem dX3_textOf_58 : decode cX3_textOf 58 = .ok (.lload_n 0, 1) := by decide +kernel
theorem dX3_textOf_59 : decode cX3_textOf 59 = .ok (.invokestatic 40, 3) := by decide +kernel
theorem dX3_textOf_62 : decode cX3_textOf 62 = .ok (.iload 5, 2) := by decide +kernel
theorem dX3_textOf_64 : decode cX3_textOf 64 = .ok (.invokestatic 58, 3) := by decide +kernel
theorem dX3_textOf_67 : decode cX3_textOf 67 = .ok (.ldiv, 1) := by decide +kernel
theorem dX3_textOf_68 : decode cX3_textOf 68 = .ok (.ldc2_w 38, 3) := by decide +kernel
theorem dX3_textOf_71 : decode cX3_textOf 71 = .ok (.lrem, 1) := by decide +kernel
theorem dX3_textOf_72 : decode cX3_textOf 72 = .ok (.ladd, 1) := by decide +kernel
theorem dX3_textOf_73 : decode cX3_textOf 73 = .ok (.l2i, 1) := by decide +kernel
theorem dX3_textOf_74 : decode cX3_textOf 74 = .ok (.i2c, 1) := by decide +kernel
theorem dX3_textOf_75 : decode cX3_textOf 75 = .ok (.invokevirtual 116, 3) := by decide +kernel
theorem dX3_textOf_78 : decode cX3_textOf 78 = .ok (.pop, 1) := by decide +kernel
theorem dX3_textOf_79 : decode cX3_textOf 79 = .ok (.iload 5, 2) := by decide +kernel
theorem dX3_textOf_81 : decode cX3_textOf 81 = .ok (.iload_n 2, 1) := by decide +kernel
theorem dX3_textOf_82 : decode cX3_textOf 82 = .ok (.if_icmp .ne 14, 3) := by decide +kernel
theorem dX3_textOf_85 : decode cX3_textOf 85 = .ok (.iload_n 2, 1) := by decide +kernel
theorem dX3_textOf_86 : decode cX3_textOf 86 = .ok (.ifCond .le 10, 3) := by decide +kernel
theorem dX3_textOf_89 : decode cX3_textOf 89 = .ok (.aload_n 3, 1) := by decide +kernel
theorem dX3_textOf_90 : decode cX3_textOf 90 = .ok (.bipush 46, 2) := by decide +kernel
theorem dX3_textOf_92 : decode cX3_textOf 92 = .ok (.invokevirtual 116, 3) := by decide +kernel
theorem dX3_textOf_95 : decode cX3_textOf 95 = .ok (.pop, 1) := by decide +kernel
theorem dX3_textOf_96 : decode cX3_textOf 96 = .ok (.iinc 5 (-1), 3) := by decide +kernel
theorem dX3_textOf_99 : decode cX3_textOf 99 = .ok (.goto (-50), 3) := by decide +kernel
theorem dX3_textOf_102 : decode cX3_textOf 102 = .ok (.aload_n 3, 1) := by decide +kernel
theorem dX3_textOf_103 : decode cX3_textOf 103 = .ok (.invokevirtual 122, 3) := by decide +kernel
theorem dX3_textOf_106 : decode cX3_textOf 106 = .ok (.areturn, 1) := by decide +kernel
theorem dX3_text_0 : decode cX3_text 0 = .ok (.aload_n 0, 1) := by decide +kernel
theorem dX3_text_1 : decode cX3_text 1 = .ok (.iload_n 1, 1) := by decide +kernel
theorem dX3_text_2 : decode cX3_text 2 = .ok (.invokestatic 66, 3) := by decide +kernel
theorem dX3_text_5 : decode cX3_text 5 = .ok (.iload_n 2, 1) := by decide +kernel
theorem dX3_text_6 : decode cX3_text 6 = .ok (.iconst 0, 1) := by decide +kernel
theorem dX3_text_7 : decode cX3_text 7 = .ok (.iconst 1, 1) := by decide +kernel
theorem dX3_text_8 : decode cX3_text 8 = .ok (.invokestatic 34, 3) := by decide +kernel
theorem dX3_text_11 : decode cX3_text 11 = .ok (.invokevirtual 72, 3) := by decide +kernel
theorem dX3_text_14 : decode cX3_text 14 = .ok (.ifCond .eq 8, 3) := by decide +kernel
theorem dX3_text_17 : decode cX3_text 17 = .ok (.ldc 126, 2) := by decide +kernel
theorem dX3_text_19 : decode cX3_text 19 = .ok (.goto 19, 3) := by decide +kernel
theorem dX3_text_22 : decode cX3_text 22 = .ok (.aload_n 0, 1) := by decide +kernel
theorem dX3_text_23 : decode cX3_text 23 = .ok (.getfield 9, 3) := by decide +kernel
theorem dX3_text_26 : decode cX3_text 26 = .ok (.iload_n 1, 1) := by decide +kernel
theorem dX3_text_27 : decode cX3_text 27 = .ok (.iaload, 1) := by decide +kernel
theorem dX3_text_28 : decode cX3_text 28 = .ok (.i2l, 1) := by decide +kernel
theorem dX3_text_29 : decode cX3_text 29 = .ok (.aload_n 0, 1) := by decide +kernel
theorem dX3_text_30 : decode cX3_text 30 = .ok (.getfield 15, 3) := by decide +kernel
theorem dX3_text_33 : decode cX3_text 33 = .ok (.iload_n 1, 1) := by decide +kernel
theorem dX3_text_34 : decode cX3_text 34 = .ok (.iaload, 1) := by decide +kernel
theorem dX3_text_35 : decode cX3_text 35 = .ok (.invokestatic 128, 3) := by decide +kernel
theorem dX3_text_38 : decode cX3_text 38 = .ok (.areturn, 1) := by decide +kernel
theorem dX3_order_0 : decode cX3_order 0 = .ok (.aload_n 0, 1) := by decide +kernel
theorem dX3_order_1 : decode cX3_order 1 = .ok (.iload_n 1, 1) := by decide +kernel
theorem dX3_order_2 : decode cX3_order 2 = .ok (.invokestatic 66, 3) := by decide +kernel
theorem dX3_order_5 : decode cX3_order 5 = .ok (.ifCond .ne 10, 3) := by decide +kernel
theorem dX3_order_8 : decode cX3_order 8 = .ok (.iload_n 2, 1) := by decide +kernel
theorem dX3_order_9 : decode cX3_order 9 = .ok (.invokestatic 66, 3) := by decide +kernel
theorem dX3_order_12 : decode cX3_order 12 = .ok (.ifCond .eq 7, 3) := by decide +kernel
theorem dX3_order_15 : decode cX3_order 15 = .ok (.iconst 1, 1) := by decide +kernel
theorem dX3_order_16 : decode cX3_order 16 = .ok (.goto 4, 3) := by decide +kernel
theorem dX3_order_19 : decode cX3_order 19 = .ok (.iconst 0, 1) := by decide +kernel
theorem dX3_order_20 : decode cX3_order 20 = .ok (.iconst 0, 1) := by decide +kernel
theorem dX3_order_21 : decode cX3_order 21 = .ok (.invokevirtual 72, 3) := by decide +kernel
theorem dX3_order_24 : decode cX3_order 24 = .ok (.ifCond .eq 7, 3) := by decide +kernel
theorem dX3_order_27 : decode cX3_order 27 = .ok (.iconst 0, 1) := by decide +kernel
theorem dX3_order_28 : decode cX3_order 28 = .ok (.goto 9, 3) := by decide +kernel
theorem dX3_order_31 : decode cX3_order 31 = .ok (.aload_n 0, 1) := by decide +kernel
theorem dX3_order_32 : decode cX3_order 32 = .ok (.iload_n 1, 1) := by decide +kernel
theorem dX3_order_33 : decode cX3_order 33 = .ok (.iload_n 2, 1) := by decide +kernel
theorem dX3_order_34 : decode cX3_order 34 = .ok (.invokevirtual 101, 3) := by decide +kernel
theorem dX3_order_37 : decode cX3_order 37 = .ok (.ireturn, 1) := by decide +kernel
theorem dX3_areSame_0 : decode cX3_areSame 0 = .ok (.aload_n 0, 1) := by decide +kernel
theorem dX3_areSame_1 : decode cX3_areSame 1 = .ok (.getfield 9, 3) := by decide +kernel
theorem dX3_areSame_4 : decode cX3_areSame 4 = .ok (.iload_n 1, 1) := by decide +kernel
theorem dX3_areSame_5 : decode cX3_areSame 5 = .ok (.iaload, 1) := by decide +kernel
theorem dX3_areSame_6 : decode cX3_areSame 6 = .ok (.aload_n 0, 1) := by decide +kernel
theorem dX3_areSame_7 : decode cX3_areSame 7 = .ok (.getfield 9, 3) := by decide +kernel
theorem dX3_areSame_10 : decode cX3_areSame 10 = .ok (.iload_n 2, 1) := by decide +kernel
theorem dX3_areSame_11 : decode cX3_areSame 11 = .ok (.iaload, 1) := by decide +kernel
theorem dX3_areSame_12 : decode cX3_areSame 12 = .ok (.if_icmp .ne 22, 3) := by decide +kernel
theorem dX3_areSame_15 : decode cX3_areSame 15 = .ok (.aload_n 0, 1) := by decide +kernel
theorem dX3_areSame_16 : decode cX3_areSame 16 = .ok (.getfield 15, 3) := by decide +kernel
theorem dX3_areSame_19 : decode cX3_areSame 19 = .ok (.iload_n 1, 1) := by decide +kernel
theorem dX3_areSame_20 : decode cX3_areSame 20 = .ok (.iaload, 1) := by decide +kernel
theorem dX3_areSame_21 : decode cX3_areSame 21 = .ok (.aload_n 0, 1) := by decide +kernel
theorem dX3_areSame_22 : decode cX3_areSame 22 = .ok (.getfield 15, 3) := by decide +kernel
theorem dX3_areSame_25 : decode cX3_areSame 25 = .ok (.iload_n 2, 1) := by decide +kernel
theorem dX3_areSame_26 : decode cX3_areSame 26 = .ok (.iaload, 1) := by decide +kernel
theorem dX3_areSame_27 : decode cX3_areSame 27 = .ok (.if_icmp .ne 7, 3) := by decide +kernel
theorem dX3_areSame_30 : decode cX3_areSame 30 = .ok (.iconst 1, 1) := by decide +kernel
theorem dX3_areSame_31 : decode cX3_areSame 31 = .ok (.goto 4, 3) := by decide +kernel
theorem dX3_areSame_34 : decode cX3_areSame 34 = .ok (.iconst 0, 1) := by decide +kernel
theorem dX3_areSame_35 : decode cX3_areSame 35 = .ok (.ireturn, 1) := by decide +kernel
theorem dX3_same_0 : decode cX3_same 0 = .ok (.aload_n 0, 1) := by decide +kernel
theorem dX3_same_1 : decode cX3_same 1 = .ok (.iload_n 1, 1) := by decide +kernel
theorem dX3_same_2 : decode cX3_same 2 = .ok (.invokestatic 66, 3) := by decide +kernel
theorem dX3_same_5 : decode cX3_same 5 = .ok (.ifCond .ne 10, 3) := by decide +kernel
theorem dX3_same_8 : decode cX3_same 8 = .ok (.iload_n 2, 1) := by decide +kernel
theorem dX3_same_9 : decode cX3_same 9 = .ok (.invokestatic 66, 3) := by decide +kernel
theorem dX3_same_12 : decode cX3_same 12 = .ok (.ifCond .eq 7, 3) := by decide +kernel
theorem dX3_same_15 : decode cX3_same 15 = .ok (.iconst 1, 1) := by decide +kernel
theorem dX3_same_16 : decode cX3_same 16 = .ok (.goto 4, 3) := by decide +kernel
theorem dX3_same_19 : decode cX3_same 19 = .ok (.iconst 0, 1) := by decide +kernel
theorem dX3_same_20 : decode cX3_same 20 = .ok (.iconst 0, 1) := by decide +kernel
theorem dX3_same_21 : decode cX3_same 21 = .ok (.invokevirtual 72, 3) := by decide +kernel
theorem dX3_same_24 : decode cX3_same 24 = .ok (.ifCond .ne 16, 3) := by decide +kernel
theorem dX3_same_27 : decode cX3_same 27 = .ok (.aload_n 0, 1) := by decide +kernel
theorem dX3_same_28 : decode cX3_same 28 = .ok (.iload_n 1, 1) := by decide +kernel
theorem dX3_same_29 : decode cX3_same 29 = .ok (.iload_n 2, 1) := by decide +kernel
theorem dX3_same_30 : decode cX3_same 30 = .ok (.invokevirtual 132, 3) := by decide +kernel
theorem dX3_same_33 : decode cX3_same 33 = .ok (.ifCond .eq 7, 3) := by decide +kernel
theorem dX3_same_36 : decode cX3_same 36 = .ok (.iconst 1, 1) := by decide +kernel
theorem dX3_same_37 : decode cX3_same 37 = .ok (.goto 4, 3) := by decide +kernel
theorem dX3_same_40 : decode cX3_same 40 = .ok (.iconst 0, 1) := by decide +kernel
theorem dX3_same_41 : decode cX3_same 41 = .ok (.ireturn, 1) := by decide +kernel
theorem dX3_restOf_0 : decode cX3_restOf 0 = .ok (.iload_n 0, 1) := by decide +kernel
theorem dX3_restOf_1 : decode cX3_restOf 1 = .ok (.istore_n 3, 1) := by decide +kernel
theorem dX3_restOf_2 : decode cX3_restOf 2 = .ok (.iconst 0, 1) := by decide +kernel
theorem dX3_restOf_3 : decode cX3_restOf 3 = .ok (.istore 4, 2) := by decide +kernel
theorem dX3_restOf_5 : decode cX3_restOf 5 = .ok (.iload 4, 2) := by decide +kernel
theorem dX3_restOf_7 : decode cX3_restOf 7 = .ok (.iload_n 2, 1) := by decide +kernel
theorem dX3_restOf_8 : decode cX3_restOf 8 = .ok (.if_icmp .ge 16, 3) := by decide +kernel
theorem dX3_restOf_11 : decode cX3_restOf 11 = .ok (.bipush 10, 2) := by decide +kernel
theorem dX3_restOf_13 : decode cX3_restOf 13 = .ok (.iload_n 3, 1) := by decide +kernel
theorem dX3_restOf_14 : decode cX3_restOf 14 = .ok (.imul, 1) := by decide +kernel
theorem dX3_restOf_15 : decode cX3_restOf 15 = .ok (.iload_n 1, 1) := by decide +kernel
theorem dX3_restOf_16 : decode cX3_restOf 16 = .ok (.irem, 1) := by decide +kernel
theorem dX3_restOf_17 : decode cX3_restOf 17 = .ok (.istore_n 3, 1) := by decide +kernel
theorem dX3_restOf_18 : decode cX3_restOf 18 = .ok (.iinc 4 1, 3) := by decide +kernel
theorem dX3_restOf_21 : decode cX3_restOf 21 = .ok (.goto (-16), 3) := by decide +kernel
theorem dX3_restOf_24 : decode cX3_restOf 24 = .ok (.iload_n 3, 1) := by decide +kernel
theorem dX3_restOf_25 : decode cX3_restOf 25 = .ok (.ireturn, 1) := by decide +kernel
theorem dX3_lengthOf_0 : decode cX3_lengthOf 0 = .ok (.iconst 1, 1) := by decide +kernel
theorem dX3_lengthOf_1 : decode cX3_lengthOf 1 = .ok (.istore_n 2, 1) := by decide +kernel
theorem dX3_lengthOf_2 : decode cX3_lengthOf 2 = .ok (.bipush 10, 2) := by decide +kernel
theorem dX3_lengthOf_4 : decode cX3_lengthOf 4 = .ok (.iload_n 0, 1) := by decide +kernel
theorem dX3_lengthOf_5 : decode cX3_lengthOf 5 = .ok (.imul, 1) := by decide +kernel
theorem dX3_lengthOf_6 : decode cX3_lengthOf 6 = .ok (.iload_n 1, 1) := by decide +kernel
theorem dX3_lengthOf_7 : decode cX3_lengthOf 7 = .ok (.irem, 1) := by decide +kernel
theorem dX3_lengthOf_8 : decode cX3_lengthOf 8 = .ok (.istore_n 3, 1) := by decide +kernel
theorem dX3_lengthOf_9 : decode cX3_lengthOf 9 = .ok (.iload_n 3, 1) := by decide +kernel
theorem dX3_lengthOf_10 : decode cX3_lengthOf 10 = .ok (.iload_n 0, 1) := by decide +kernel
theorem dX3_lengthOf_11 : decode cX3_lengthOf 11 = .ok (.if_icmp .eq 16, 3) := by decide +kernel
theorem dX3_lengthOf_14 : decode cX3_lengthOf 14 = .ok (.iinc 2 1, 3) := by decide +kernel
theorem dX3_lengthOf_17 : decode cX3_lengthOf 17 = .ok (.bipush 10, 2) := by decide +kernel
theorem dX3_lengthOf_19 : decode cX3_lengthOf 19 = .ok (.iload_n 3, 1) := by decide +kernel
theorem dX3_lengthOf_20 : decode cX3_lengthOf 20 = .ok (.imul, 1) := by decide +kernel
theorem dX3_lengthOf_21 : decode cX3_lengthOf 21 = .ok (.iload_n 1, 1) := by decide +kernel
theorem dX3_lengthOf_22 : decode cX3_lengthOf 22 = .ok (.irem, 1) := by decide +kernel
theorem dX3_lengthOf_23 : decode cX3_lengthOf 23 = .ok (.istore_n 3, 1) := by decide +kernel
theorem dX3_lengthOf_24 : decode cX3_lengthOf 24 = .ok (.goto (-15), 3) := by decide +kernel
theorem dX3_lengthOf_27 : decode cX3_lengthOf 27 = .ok (.iload_n 2, 1) := by decide +kernel
theorem dX3_lengthOf_28 : decode cX3_lengthOf 28 = .ok (.ireturn, 1) := by decide +kernel
theorem dX3_lengthOf__0 : decode cX3_lengthOf_ 0 = .ok (.aload_n 0, 1) := by decide +kernel
theorem dX3_lengthOf__1 : decode cX3_lengthOf_ 1 = .ok (.getfield 18, 3) := by decide +kernel
theorem dX3_lengthOf__4 : decode cX3_lengthOf_ 4 = .ok (.iload_n 1, 1) := by decide +kernel
theorem dX3_lengthOf__5 : decode cX3_lengthOf_ 5 = .ok (.iaload, 1) := by decide +kernel
theorem dX3_lengthOf__6 : decode cX3_lengthOf_ 6 = .ok (.aload_n 0, 1) := by decide +kernel
theorem dX3_lengthOf__7 : decode cX3_lengthOf_ 7 = .ok (.getfield 21, 3) := by decide +kernel
theorem dX3_lengthOf__10 : decode cX3_lengthOf_ 10 = .ok (.iload_n 1, 1) := by decide +kernel
theorem dX3_lengthOf__11 : decode cX3_lengthOf_ 11 = .ok (.iaload, 1) := by decide +kernel
theorem dX3_lengthOf__12 : decode cX3_lengthOf_ 12 = .ok (.invokestatic 136, 3) := by decide +kernel
theorem dX3_lengthOf__15 : decode cX3_lengthOf_ 15 = .ok (.ireturn, 1) := by decide +kernel
theorem dX3_set_0 : decode cX3_set 0 = .ok (.aload_n 0, 1) := by decide +kernel
theorem dX3_set_1 : decode cX3_set 1 = .ok (.getfield 18, 3) := by decide +kernel
theorem dX3_set_4 : decode cX3_set 4 = .ok (.iload_n 1, 1) := by decide +kernel
theorem dX3_set_5 : decode cX3_set 5 = .ok (.iload_n 2, 1) := by decide +kernel
theorem dX3_set_6 : decode cX3_set 6 = .ok (.iastore, 1) := by decide +kernel
theorem dX3_set_7 : decode cX3_set 7 = .ok (.aload_n 0, 1) := by decide +kernel
theorem dX3_set_8 : decode cX3_set 8 = .ok (.getfield 21, 3) := by decide +kernel
theorem dX3_set_11 : decode cX3_set 11 = .ok (.iload_n 1, 1) := by decide +kernel
theorem dX3_set_12 : decode cX3_set 12 = .ok (.iload_n 3, 1) := by decide +kernel
theorem dX3_set_13 : decode cX3_set 13 = .ok (.iastore, 1) := by decide +kernel
theorem dX3_set_14 : decode cX3_set 14 = .ok (.aload_n 0, 1) := by decide +kernel
theorem dX3_set_15 : decode cX3_set 15 = .ok (.getfield 24, 3) := by decide +kernel
theorem dX3_set_18 : decode cX3_set 18 = .ok (.iload_n 1, 1) := by decide +kernel
theorem dX3_set_19 : decode cX3_set 19 = .ok (.iconst 0, 1) := by decide +kernel
theorem dX3_set_20 : decode cX3_set 20 = .ok (.iastore, 1) := by decide +kernel
theorem dX3_set_21 : decode cX3_set 21 = .ok (.aload_n 0, 1) := by decide +kernel
theorem dX3_set_22 : decode cX3_set 22 = .ok (.getfield 27, 3) := by decide +kernel
theorem dX3_set_25 : decode cX3_set 25 = .ok (.iconst 1, 1) := by decide +kernel
theorem dX3_set_26 : decode cX3_set 26 = .ok (.dup2, 1) := by decide +kernel
theorem dX3_set_27 : decode cX3_set 27 = .ok (.iaload, 1) := by decide +kernel
theorem dX3_set_28 : decode cX3_set 28 = .ok (.iconst 1, 1) := by decide +kernel
theorem dX3_set_29 : decode cX3_set 29 = .ok (.iadd, 1) := by decide +kernel
theorem dX3_set_30 : decode cX3_set 30 = .ok (.iastore, 1) := by decide +kernel
theorem dX3_set_31 : decode cX3_set 31 = .ok (.return_, 1) := by decide +kernel
theorem dX3_setWheel_0 : decode cX3_setWheel 0 = .ok (.aload_n 0, 1) := by decide +kernel
theorem dX3_setWheel_1 : decode cX3_setWheel 1 = .ok (.iload_n 1, 1) := by decide +kernel
theorem dX3_setWheel_2 : decode cX3_setWheel 2 = .ok (.invokestatic 104, 3) := by decide +kernel
theorem dX3_setWheel_5 : decode cX3_setWheel 5 = .ok (.iload_n 3, 1) := by decide +kernel
theorem dX3_setWheel_6 : decode cX3_setWheel 6 = .ok (.invokestatic 139, 3) := by decide +kernel
theorem dX3_setWheel_9 : decode cX3_setWheel 9 = .ok (.ifCond .ne 14, 3) := by decide +kernel
theorem dX3_setWheel_12 : decode cX3_setWheel 12 = .ok (.iload_n 2, 1) := by decide +kernel
theorem dX3_setWheel_13 : decode cX3_setWheel 13 = .ok (.iconst 0, 1) := by decide +kernel
theorem dX3_setWheel_14 : decode cX3_setWheel 14 = .ok (.iload_n 3, 1) := by decide +kernel
theorem dX3_setWheel_15 : decode cX3_setWheel 15 = .ok (.iconst 1, 1) := by decide +kernel
theorem dX3_setWheel_16 : decode cX3_setWheel 16 = .ok (.isub, 1) := by decide +kernel
theorem dX3_setWheel_17 : decode cX3_setWheel 17 = .ok (.invokestatic 34, 3) := by decide +kernel
theorem dX3_setWheel_20 : decode cX3_setWheel 20 = .ok (.ifCond .eq 7, 3) := by decide +kernel
theorem dX3_setWheel_23 : decode cX3_setWheel 23 = .ok (.iconst 1, 1) := by decide +kernel
theorem dX3_setWheel_24 : decode cX3_setWheel 24 = .ok (.goto 4, 3) := by decide +kernel
theorem dX3_setWheel_27 : decode cX3_setWheel 27 = .ok (.iconst 0, 1) := by decide +kernel
theorem dX3_setWheel_28 : decode cX3_setWheel 28 = .ok (.invokevirtual 72, 3) := by decide +kernel
theorem dX3_setWheel_31 : decode cX3_setWheel 31 = .ok (.ifCond .eq 5, 3) := by decide +kernel
theorem dX3_setWheel_34 : decode cX3_setWheel 34 = .ok (.iconst 0, 1) := by decide +kernel
theorem dX3_setWheel_35 : decode cX3_setWheel 35 = .ok (.ireturn, 1) := by decide +kernel
theorem dX3_setWheel_36 : decode cX3_setWheel 36 = .ok (.aload_n 0, 1) := by decide +kernel
theorem dX3_setWheel_37 : decode cX3_setWheel 37 = .ok (.iload_n 1, 1) := by decide +kernel
theorem dX3_setWheel_38 : decode cX3_setWheel 38 = .ok (.iload_n 2, 1) := by decide +kernel
theorem dX3_setWheel_39 : decode cX3_setWheel 39 = .ok (.iload_n 3, 1) := by decide +kernel
theorem dX3_setWheel_40 : decode cX3_setWheel 40 = .ok (.invokevirtual 142, 3) := by decide +kernel
theorem dX3_setWheel_43 : decode cX3_setWheel 43 = .ok (.aload_n 0, 1) := by decide +kernel
theorem dX3_setWheel_44 : decode cX3_setWheel 44 = .ok (.iload_n 1, 1) := by decide +kernel
theorem dX3_setWheel_45 : decode cX3_setWheel 45 = .ok (.invokevirtual 146, 3) := by decide +kernel
theorem dX3_setWheel_48 : decode cX3_setWheel 48 = .ok (.ireturn, 1) := by decide +kernel
theorem dX3_step_0 : decode cX3_step 0 = .ok (.aload_n 0, 1) := by decide +kernel
theorem dX3_step_1 : decode cX3_step 1 = .ok (.iload_n 1, 1) := by decide +kernel
theorem dX3_step_2 : decode cX3_step 2 = .ok (.invokestatic 104, 3) := by decide +kernel
theorem dX3_step_5 : decode cX3_step 5 = .ok (.iconst 0, 1) := by decide +kernel
theorem dX3_step_6 : decode cX3_step 6 = .ok (.invokevirtual 72, 3) := by decide +kernel
theorem dX3_step_9 : decode cX3_step 9 = .ok (.ifCond .eq 5, 3) := by decide +kernel
theorem dX3_step_12 : decode cX3_step 12 = .ok (.iconst 0, 1) := by decide +kernel
theorem dX3_step_13 : decode cX3_step 13 = .ok (.ireturn, 1) := by decide +kernel
theorem dX3_step_14 : decode cX3_step 14 = .ok (.aload_n 0, 1) := by decide +kernel
theorem dX3_step_15 : decode cX3_step 15 = .ok (.getfield 18, 3) := by decide +kernel
theorem dX3_step_18 : decode cX3_step 18 = .ok (.iload_n 1, 1) := by decide +kernel
theorem dX3_step_19 : decode cX3_step 19 = .ok (.iaload, 1) := by decide +kernel
theorem dX3_step_20 : decode cX3_step 20 = .ok (.aload_n 0, 1) := by decide +kernel
theorem dX3_step_21 : decode cX3_step 21 = .ok (.getfield 21, 3) := by decide +kernel
theorem dX3_step_24 : decode cX3_step 24 = .ok (.iload_n 1, 1) := by decide +kernel
theorem dX3_step_25 : decode cX3_step 25 = .ok (.iaload, 1) := by decide +kernel
theorem dX3_step_26 : decode cX3_step 26 = .ok (.aload_n 0, 1) := by decide +kernel
theorem dX3_step_27 : decode cX3_step 27 = .ok (.getfield 24, 3) := by decide +kernel
theorem dX3_step_30 : decode cX3_step 30 = .ok (.iload_n 1, 1) := by decide +kernel
theorem dX3_step_31 : decode cX3_step 31 = .ok (.iaload, 1) := by decide +kernel
theorem dX3_step_32 : decode cX3_step 32 = .ok (.invokestatic 149, 3) := by decide +kernel
theorem dX3_step_35 : decode cX3_step 35 = .ok (.istore_n 2, 1) := by decide +kernel
theorem dX3_step_36 : decode cX3_step 36 = .ok (.aload_n 0, 1) := by decide +kernel
theorem dX3_step_37 : decode cX3_step 37 = .ok (.getfield 24, 3) := by decide +kernel
theorem dX3_step_40 : decode cX3_step 40 = .ok (.iload_n 1, 1) := by decide +kernel
theorem dX3_step_41 : decode cX3_step 41 = .ok (.aload_n 0, 1) := by decide +kernel
theorem dX3_step_42 : decode cX3_step 42 = .ok (.getfield 24, 3) := by decide +kernel
theorem dX3_step_45 : decode cX3_step 45 = .ok (.iload_n 1, 1) := by decide +kernel
theorem dX3_step_46 : decode cX3_step 46 = .ok (.iaload, 1) := by decide +kernel
theorem dX3_step_47 : decode cX3_step 47 = .ok (.iconst 1, 1) := by decide +kernel
theorem dX3_step_48 : decode cX3_step 48 = .ok (.iadd, 1) := by decide +kernel
theorem dX3_step_49 : decode cX3_step 49 = .ok (.aload_n 0, 1) := by decide +kernel
theorem dX3_step_50 : decode cX3_step 50 = .ok (.iload_n 1, 1) := by decide +kernel
theorem dX3_step_51 : decode cX3_step 51 = .ok (.invokevirtual 146, 3) := by decide +kernel
theorem dX3_step_54 : decode cX3_step 54 = .ok (.irem, 1) := by decide +kernel
theorem dX3_step_55 : decode cX3_step 55 = .ok (.iastore, 1) := by decide +kernel
theorem dX3_step_56 : decode cX3_step 56 = .ok (.aload_n 0, 1) := by decide +kernel
theorem dX3_step_57 : decode cX3_step 57 = .ok (.getfield 27, 3) := by decide +kernel
theorem dX3_step_60 : decode cX3_step 60 = .ok (.iconst 1, 1) := by decide +kernel
theorem dX3_step_61 : decode cX3_step 61 = .ok (.dup2, 1) := by decide +kernel
theorem dX3_step_62 : decode cX3_step 62 = .ok (.iaload, 1) := by decide +kernel
theorem dX3_step_63 : decode cX3_step 63 = .ok (.iconst 1, 1) := by decide +kernel
theorem dX3_step_64 : decode cX3_step 64 = .ok (.iadd, 1) := by decide +kernel
theorem dX3_step_65 : decode cX3_step 65 = .ok (.iastore, 1) := by decide +kernel
theorem dX3_step_66 : decode cX3_step 66 = .ok (.bipush 10, 2) := by decide +kernel
theorem dX3_step_68 : decode cX3_step 68 = .ok (.iload_n 2, 1) := by decide +kernel
theorem dX3_step_69 : decode cX3_step 69 = .ok (.imul, 1) := by decide +kernel
theorem dX3_step_70 : decode cX3_step 70 = .ok (.aload_n 0, 1) := by decide +kernel
theorem dX3_step_71 : decode cX3_step 71 = .ok (.getfield 21, 3) := by decide +kernel
theorem dX3_step_74 : decode cX3_step 74 = .ok (.iload_n 1, 1) := by decide +kernel
theorem dX3_step_75 : decode cX3_step 75 = .ok (.iaload, 1) := by decide +kernel
theorem dX3_step_76 : decode cX3_step 76 = .ok (.idiv, 1) := by decide +kernel
theorem dX3_step_77 : decode cX3_step 77 = .ok (.ireturn, 1) := by decide +kernel
theorem dX3_turn_0 : decode cX3_turn 0 = .ok (.aload_n 0, 1) := by decide +kernel
theorem dX3_turn_1 : decode cX3_turn 1 = .ok (.iload_n 1, 1) := by decide +kernel
theorem dX3_turn_2 : decode cX3_turn 2 = .ok (.invokestatic 104, 3) := by decide +kernel
theorem dX3_turn_5 : decode cX3_turn 5 = .ok (.iload_n 2, 1) := by decide +kernel
theorem dX3_turn_6 : decode cX3_turn 6 = .ok (.iconst 0, 1) := by decide +kernel
theorem dX3_turn_7 : decode cX3_turn 7 = .ok (.sipush 200, 3) := by decide +kernel
theorem dX3_turn_10 : decode cX3_turn 10 = .ok (.invokestatic 34, 3) := by decide +kernel
theorem dX3_turn_13 : decode cX3_turn 13 = .ok (.invokevirtual 72, 3) := by decide +kernel
theorem dX3_turn_16 : decode cX3_turn 16 = .ok (.ifCond .eq 5, 3) := by decide +kernel
theorem dX3_turn_19 : decode cX3_turn 19 = .ok (.iconst 0, 1) := by decide +kernel
theorem dX3_turn_20 : decode cX3_turn 20 = .ok (.ireturn, 1) := by decide +kernel
theorem dX3_turn_21 : decode cX3_turn 21 = .ok (.aload_n 0, 1) := by decide +kernel
theorem dX3_turn_22 : decode cX3_turn 22 = .ok (.getfield 24, 3) := by decide +kernel
theorem dX3_turn_25 : decode cX3_turn 25 = .ok (.iload_n 1, 1) := by decide +kernel
theorem dX3_turn_26 : decode cX3_turn 26 = .ok (.aload_n 0, 1) := by decide +kernel
theorem dX3_turn_27 : decode cX3_turn 27 = .ok (.getfield 24, 3) := by decide +kernel
theorem dX3_turn_30 : decode cX3_turn 30 = .ok (.iload_n 1, 1) := by decide +kernel
theorem dX3_turn_31 : decode cX3_turn 31 = .ok (.iaload, 1) := by decide +kernel
theorem dX3_turn_32 : decode cX3_turn 32 = .ok (.iload_n 2, 1) := by decide +kernel
theorem dX3_turn_33 : decode cX3_turn 33 = .ok (.iadd, 1) := by decide +kernel
theorem dX3_turn_34 : decode cX3_turn 34 = .ok (.aload_n 0, 1) := by decide +kernel
theorem dX3_turn_35 : decode cX3_turn 35 = .ok (.iload_n 1, 1) := by decide +kernel
theorem dX3_turn_36 : decode cX3_turn 36 = .ok (.invokevirtual 146, 3) := by decide +kernel
theorem dX3_turn_39 : decode cX3_turn 39 = .ok (.irem, 1) := by decide +kernel
theorem dX3_turn_40 : decode cX3_turn 40 = .ok (.iastore, 1) := by decide +kernel
theorem dX3_turn_41 : decode cX3_turn 41 = .ok (.aload_n 0, 1) := by decide +kernel
theorem dX3_turn_42 : decode cX3_turn 42 = .ok (.getfield 27, 3) := by decide +kernel
theorem dX3_turn_45 : decode cX3_turn 45 = .ok (.iconst 1, 1) := by decide +kernel
theorem dX3_turn_46 : decode cX3_turn 46 = .ok (.dup2, 1) := by decide +kernel
theorem dX3_turn_47 : decode cX3_turn 47 = .ok (.iaload, 1) := by decide +kernel
theorem dX3_turn_48 : decode cX3_turn 48 = .ok (.iconst 1, 1) := by decide +kernel
theorem dX3_turn_49 : decode cX3_turn 49 = .ok (.iadd, 1) := by decide +kernel
theorem dX3_turn_50 : decode cX3_turn 50 = .ok (.iastore, 1) := by decide +kernel
theorem dX3_turn_51 : decode cX3_turn 51 = .ok (.aload_n 0, 1) := by decide +kernel
theorem dX3_turn_52 : decode cX3_turn 52 = .ok (.getfield 18, 3) := by decide +kernel
theorem dX3_turn_55 : decode cX3_turn 55 = .ok (.iload_n 1, 1) := by decide +kernel
theorem dX3_turn_56 : decode cX3_turn 56 = .ok (.iaload, 1) := by decide +kernel
theorem dX3_turn_57 : decode cX3_turn 57 = .ok (.aload_n 0, 1) := by decide +kernel
theorem dX3_turn_58 : decode cX3_turn 58 = .ok (.getfield 21, 3) := by decide +kernel
theorem dX3_turn_61 : decode cX3_turn 61 = .ok (.iload_n 1, 1) := by decide +kernel
theorem dX3_turn_62 : decode cX3_turn 62 = .ok (.iaload, 1) := by decide +kernel
theorem dX3_turn_63 : decode cX3_turn 63 = .ok (.aload_n 0, 1) := by decide +kernel
theorem dX3_turn_64 : decode cX3_turn 64 = .ok (.getfield 24, 3) := by decide +kernel
theorem dX3_turn_67 : decode cX3_turn 67 = .ok (.iload_n 1, 1) := by decide +kernel
theorem dX3_turn_68 : decode cX3_turn 68 = .ok (.iaload, 1) := by decide +kernel
theorem dX3_turn_69 : decode cX3_turn 69 = .ok (.invokestatic 149, 3) := by decide +kernel
theorem dX3_turn_72 : decode cX3_turn 72 = .ok (.ireturn, 1) := by decide +kernel
theorem dX3_times_0 : decode cX3_times 0 = .ok (.aload_n 0, 1) := by decide +kernel
theorem dX3_times_1 : decode cX3_times 1 = .ok (.iload_n 1, 1) := by decide +kernel
theorem dX3_times_2 : decode cX3_times 2 = .ok (.invokestatic 104, 3) := by decide +kernel
theorem dX3_times_5 : decode cX3_times 5 = .ok (.ifCond .ne 10, 3) := by decide +kernel
theorem dX3_times_8 : decode cX3_times 8 = .ok (.iload_n 3, 1) := by decide +kernel
theorem dX3_times_9 : decode cX3_times 9 = .ok (.invokestatic 104, 3) := by decide +kernel
theorem dX3_times_12 : decode cX3_times 12 = .ok (.ifCond .eq 7, 3) := by decide +kernel
theorem dX3_times_15 : decode cX3_times 15 = .ok (.iconst 1, 1) := by decide +kernel
theorem dX3_times_16 : decode cX3_times 16 = .ok (.goto 4, 3) := by decide +kernel
theorem dX3_times_19 : decode cX3_times 19 = .ok (.iconst 0, 1) := by decide +kernel
theorem dX3_times_20 : decode cX3_times 20 = .ok (.iload_n 2, 1) := by decide +kernel
theorem dX3_times_21 : decode cX3_times 21 = .ok (.iconst 0, 1) := by decide +kernel
theorem dX3_times_22 : decode cX3_times 22 = .ok (.bipush 99, 2) := by decide +kernel
theorem dX3_times_24 : decode cX3_times 24 = .ok (.invokestatic 34, 3) := by decide +kernel
theorem dX3_times_27 : decode cX3_times 27 = .ok (.invokevirtual 72, 3) := by decide +kernel
theorem dX3_times_30 : decode cX3_times 30 = .ok (.ifCond .eq 5, 3) := by decide +kernel
theorem dX3_times_33 : decode cX3_times 33 = .ok (.iconst 0, 1) := by decide +kernel
theorem dX3_times_34 : decode cX3_times 34 = .ok (.ireturn, 1) := by decide +kernel
theorem dX3_times_35 : decode cX3_times 35 = .ok (.aload_n 0, 1) := by decide +kernel
theorem dX3_times_36 : decode cX3_times 36 = .ok (.iload_n 3, 1) := by decide +kernel
theorem dX3_times_37 : decode cX3_times 37 = .ok (.iload_n 2, 1) := by decide +kernel
theorem dX3_times_38 : decode cX3_times 38 = .ok (.aload_n 0, 1) := by decide +kernel
theorem dX3_times_39 : decode cX3_times 39 = .ok (.getfield 18, 3) := by decide +kernel
theorem dX3_times_42 : decode cX3_times 42 = .ok (.iload_n 1, 1) := by decide +kernel
theorem dX3_times_43 : decode cX3_times 43 = .ok (.iaload, 1) := by decide +kernel
theorem dX3_times_44 : decode cX3_times 44 = .ok (.imul, 1) := by decide +kernel
theorem dX3_times_45 : decode cX3_times 45 = .ok (.aload_n 0, 1) := by decide +kernel
theorem dX3_times_46 : decode cX3_times 46 = .ok (.getfield 21, 3) := by decide +kernel
theorem dX3_times_49 : decode cX3_times 49 = .ok (.iload_n 1, 1) := by decide +kernel
theorem dX3_times_50 : decode cX3_times 50 = .ok (.iaload, 1) := by decide +kernel
theorem dX3_times_51 : decode cX3_times 51 = .ok (.irem, 1) := by decide +kernel
theorem dX3_times_52 : decode cX3_times 52 = .ok (.aload_n 0, 1) := by decide +kernel
theorem dX3_times_53 : decode cX3_times 53 = .ok (.getfield 21, 3) := by decide +kernel
theorem dX3_times_56 : decode cX3_times 56 = .ok (.iload_n 1, 1) := by decide +kernel
theorem dX3_times_57 : decode cX3_times 57 = .ok (.iaload, 1) := by decide +kernel
theorem dX3_times_58 : decode cX3_times 58 = .ok (.invokevirtual 142, 3) := by decide +kernel
theorem dX3_times_61 : decode cX3_times 61 = .ok (.aload_n 0, 1) := by decide +kernel
theorem dX3_times_62 : decode cX3_times 62 = .ok (.getfield 18, 3) := by decide +kernel
theorem dX3_times_65 : decode cX3_times 65 = .ok (.iload_n 3, 1) := by decide +kernel
theorem dX3_times_66 : decode cX3_times 66 = .ok (.iaload, 1) := by decide +kernel
theorem dX3_times_67 : decode cX3_times 67 = .ok (.ireturn, 1) := by decide +kernel
theorem dX3_spokeOf_0 : decode cX3_spokeOf 0 = .ok (.iload_n 2, 1) := by decide +kernel
theorem dX3_spokeOf_1 : decode cX3_spokeOf 1 = .ok (.ifCond .ne 10, 3) := by decide +kernel
theorem dX3_spokeOf_4 : decode cX3_spokeOf 4 = .ok (.aload_n 0, 1) := by decide +kernel
theorem dX3_spokeOf_5 : decode cX3_spokeOf 5 = .ok (.getfield 18, 3) := by decide +kernel
theorem dX3_spokeOf_8 : decode cX3_spokeOf 8 = .ok (.iload_n 1, 1) := by decide +kernel
theorem dX3_spokeOf_9 : decode cX3_spokeOf 9 = .ok (.iaload, 1) := by decide +kernel
theorem dX3_spokeOf_10 : decode cX3_spokeOf 10 = .ok (.ireturn, 1) := by decide +kernel
theorem dX3_spokeOf_11 : decode cX3_spokeOf 11 = .ok (.iload_n 2, 1) := by decide +kernel
theorem dX3_spokeOf_12 : decode cX3_spokeOf 12 = .ok (.iconst 1, 1) := by decide +kernel
theorem dX3_spokeOf_13 : decode cX3_spokeOf 13 = .ok (.if_icmp .ne 10, 3) := by decide +kernel
theorem dX3_spokeOf_16 : decode cX3_spokeOf 16 = .ok (.aload_n 0, 1) := by decide +kernel
theorem dX3_spokeOf_17 : decode cX3_spokeOf 17 = .ok (.getfield 21, 3) := by decide +kernel
theorem dX3_spokeOf_20 : decode cX3_spokeOf 20 = .ok (.iload_n 1, 1) := by decide +kernel
theorem dX3_spokeOf_21 : decode cX3_spokeOf 21 = .ok (.iaload, 1) := by decide +kernel
theorem dX3_spokeOf_22 : decode cX3_spokeOf 22 = .ok (.ireturn, 1) := by decide +kernel
theorem dX3_spokeOf_23 : decode cX3_spokeOf 23 = .ok (.iload_n 2, 1) := by decide +kernel
theorem dX3_spokeOf_24 : decode cX3_spokeOf 24 = .ok (.iconst 2, 1) := by decide +kernel
theorem dX3_spokeOf_25 : decode cX3_spokeOf 25 = .ok (.if_icmp .ne 10, 3) := by decide +kernel
theorem dX3_spokeOf_28 : decode cX3_spokeOf 28 = .ok (.aload_n 0, 1) := by decide +kernel
theorem dX3_spokeOf_29 : decode cX3_spokeOf 29 = .ok (.getfield 24, 3) := by decide +kernel
theorem dX3_spokeOf_32 : decode cX3_spokeOf 32 = .ok (.iload_n 1, 1) := by decide +kernel
theorem dX3_spokeOf_33 : decode cX3_spokeOf 33 = .ok (.iaload, 1) := by decide +kernel
theorem dX3_spokeOf_34 : decode cX3_spokeOf 34 = .ok (.ireturn, 1) := by decide +kernel
theorem dX3_spokeOf_35 : decode cX3_spokeOf 35 = .ok (.iload_n 2, 1) := by decide +kernel
theorem dX3_spokeOf_36 : decode cX3_spokeOf 36 = .ok (.iconst 3, 1) := by decide +kernel
theorem dX3_spokeOf_37 : decode cX3_spokeOf 37 = .ok (.if_icmp .ne 27, 3) := by decide +kernel
theorem dX3_spokeOf_40 : decode cX3_spokeOf 40 = .ok (.aload_n 0, 1) := by decide +kernel
theorem dX3_spokeOf_41 : decode cX3_spokeOf 41 = .ok (.getfield 18, 3) := by decide +kernel
theorem dX3_spokeOf_44 : decode cX3_spokeOf 44 = .ok (.iload_n 1, 1) := by decide +kernel
theorem dX3_spokeOf_45 : decode cX3_spokeOf 45 = .ok (.iaload, 1) := by decide +kernel
theorem dX3_spokeOf_46 : decode cX3_spokeOf 46 = .ok (.aload_n 0, 1) := by decide +kernel
theorem dX3_spokeOf_47 : decode cX3_spokeOf 47 = .ok (.getfield 21, 3) := by decide +kernel
theorem dX3_spokeOf_50 : decode cX3_spokeOf 50 = .ok (.iload_n 1, 1) := by decide +kernel
theorem dX3_spokeOf_51 : decode cX3_spokeOf 51 = .ok (.iaload, 1) := by decide +kernel
theorem dX3_spokeOf_52 : decode cX3_spokeOf 52 = .ok (.aload_n 0, 1) := by decide +kernel
theorem dX3_spokeOf_53 : decode cX3_spokeOf 53 = .ok (.getfield 24, 3) := by decide +kernel
theorem dX3_spokeOf_56 : decode cX3_spokeOf 56 = .ok (.iload_n 1, 1) := by decide +kernel
theorem dX3_spokeOf_57 : decode cX3_spokeOf 57 = .ok (.iaload, 1) := by decide +kernel
theorem dX3_spokeOf_58 : decode cX3_spokeOf 58 = .ok (.invokestatic 149, 3) := by decide +kernel
theorem dX3_spokeOf_61 : decode cX3_spokeOf 61 = .ok (.goto 8, 3) := by decide +kernel
theorem dX3_spokeOf_64 : decode cX3_spokeOf 64 = .ok (.aload_n 0, 1) := by decide +kernel
theorem dX3_spokeOf_65 : decode cX3_spokeOf 65 = .ok (.iload_n 1, 1) := by decide +kernel
theorem dX3_spokeOf_66 : decode cX3_spokeOf 66 = .ok (.invokevirtual 146, 3) := by decide +kernel
theorem dX3_spokeOf_69 : decode cX3_spokeOf 69 = .ok (.ireturn, 1) := by decide +kernel
theorem dX3_spoke_0 : decode cX3_spoke 0 = .ok (.aload_n 0, 1) := by decide +kernel
theorem dX3_spoke_1 : decode cX3_spoke 1 = .ok (.iload_n 1, 1) := by decide +kernel
theorem dX3_spoke_2 : decode cX3_spoke 2 = .ok (.invokestatic 104, 3) := by decide +kernel
theorem dX3_spoke_5 : decode cX3_spoke 5 = .ok (.iload_n 2, 1) := by decide +kernel
theorem dX3_spoke_6 : decode cX3_spoke 6 = .ok (.iconst 0, 1) := by decide +kernel
theorem dX3_spoke_7 : decode cX3_spoke 7 = .ok (.iconst 4, 1) := by decide +kernel
theorem dX3_spoke_8 : decode cX3_spoke 8 = .ok (.invokestatic 34, 3) := by decide +kernel
theorem dX3_spoke_11 : decode cX3_spoke 11 = .ok (.invokevirtual 72, 3) := by decide +kernel
theorem dX3_spoke_14 : decode cX3_spoke 14 = .ok (.ifCond .eq 7, 3) := by decide +kernel
theorem dX3_spoke_17 : decode cX3_spoke 17 = .ok (.iconst 0, 1) := by decide +kernel
theorem dX3_spoke_18 : decode cX3_spoke 18 = .ok (.goto 9, 3) := by decide +kernel
theorem dX3_spoke_21 : decode cX3_spoke 21 = .ok (.aload_n 0, 1) := by decide +kernel
theorem dX3_spoke_22 : decode cX3_spoke 22 = .ok (.iload_n 1, 1) := by decide +kernel
theorem dX3_spoke_23 : decode cX3_spoke 23 = .ok (.iload_n 2, 1) := by decide +kernel
theorem dX3_spoke_24 : decode cX3_spoke 24 = .ok (.invokevirtual 153, 3) := by decide +kernel
theorem dX3_spoke_27 : decode cX3_spoke 27 = .ok (.ireturn, 1) := by decide +kernel
theorem dX3_lowest_0 : decode cX3_lowest 0 = .ok (.aload_n 0, 1) := by decide +kernel
theorem dX3_lowest_1 : decode cX3_lowest 1 = .ok (.iload_n 1, 1) := by decide +kernel
theorem dX3_lowest_2 : decode cX3_lowest 2 = .ok (.invokestatic 104, 3) := by decide +kernel
theorem dX3_lowest_5 : decode cX3_lowest 5 = .ok (.iconst 0, 1) := by decide +kernel
theorem dX3_lowest_6 : decode cX3_lowest 6 = .ok (.invokevirtual 72, 3) := by decide +kernel
theorem dX3_lowest_9 : decode cX3_lowest 9 = .ok (.ifCond .eq 5, 3) := by decide +kernel
theorem dX3_lowest_12 : decode cX3_lowest 12 = .ok (.iconst 0, 1) := by decide +kernel
theorem dX3_lowest_13 : decode cX3_lowest 13 = .ok (.ireturn, 1) := by decide +kernel
theorem dX3_lowest_14 : decode cX3_lowest 14 = .ok (.iconst 1, 1) := by decide +kernel
theorem dX3_lowest_15 : decode cX3_lowest 15 = .ok (.istore_n 2, 1) := by decide +kernel
theorem dX3_lowest_16 : decode cX3_lowest 16 = .ok (.iload_n 2, 1) := by decide +kernel
theorem dX3_lowest_17 : decode cX3_lowest 17 = .ok (.aload_n 0, 1) := by decide +kernel
theorem dX3_lowest_18 : decode cX3_lowest 18 = .ok (.getfield 18, 3) := by decide +kernel
theorem dX3_lowest_21 : decode cX3_lowest 21 = .ok (.iload_n 1, 1) := by decide +kernel
theorem dX3_lowest_22 : decode cX3_lowest 22 = .ok (.iaload, 1) := by decide +kernel
theorem dX3_lowest_23 : decode cX3_lowest 23 = .ok (.imul, 1) := by decide +kernel
theorem dX3_lowest_24 : decode cX3_lowest 24 = .ok (.aload_n 0, 1) := by decide +kernel
theorem dX3_lowest_25 : decode cX3_lowest 25 = .ok (.getfield 21, 3) := by decide +kernel
theorem dX3_lowest_28 : decode cX3_lowest 28 = .ok (.iload_n 1, 1) := by decide +kernel
theorem dX3_lowest_29 : decode cX3_lowest 29 = .ok (.iaload, 1) := by decide +kernel
theorem dX3_lowest_30 : decode cX3_lowest 30 = .ok (.irem, 1) := by decide +kernel
theorem dX3_lowest_31 : decode cX3_lowest 31 = .ok (.ifCond .eq 9, 3) := by decide +kernel
theorem dX3_lowest_34 : decode cX3_lowest 34 = .ok (.iinc 2 1, 3) := by decide +kernel
theorem dX3_lowest_37 : decode cX3_lowest 37 = .ok (.goto (-21), 3) := by decide +kernel
theorem dX3_lowest_40 : decode cX3_lowest 40 = .ok (.iload_n 2, 1) := by decide +kernel
theorem dX3_lowest_41 : decode cX3_lowest 41 = .ok (.ireturn, 1) := by decide +kernel
theorem dX3_tens_0 : decode cX3_tens 0 = .ok (.aload_n 0, 1) := by decide +kernel
theorem dX3_tens_1 : decode cX3_tens 1 = .ok (.iload_n 1, 1) := by decide +kernel
theorem dX3_tens_2 : decode cX3_tens 2 = .ok (.invokestatic 139, 3) := by decide +kernel
theorem dX3_tens_5 : decode cX3_tens 5 = .ok (.iconst 0, 1) := by decide +kernel
theorem dX3_tens_6 : decode cX3_tens 6 = .ok (.invokevirtual 72, 3) := by decide +kernel
theorem dX3_tens_9 : decode cX3_tens 9 = .ok (.ifCond .eq 7, 3) := by decide +kernel
theorem dX3_tens_12 : decode cX3_tens 12 = .ok (.iconst 0, 1) := by decide +kernel
theorem dX3_tens_13 : decode cX3_tens 13 = .ok (.goto 10, 3) := by decide +kernel
theorem dX3_tens_16 : decode cX3_tens 16 = .ok (.iconst 1, 1) := by decide +kernel
theorem dX3_tens_17 : decode cX3_tens 17 = .ok (.iload_n 1, 1) := by decide +kernel
theorem dX3_tens_18 : decode cX3_tens 18 = .ok (.irem, 1) := by decide +kernel
theorem dX3_tens_19 : decode cX3_tens 19 = .ok (.iload_n 1, 1) := by decide +kernel
theorem dX3_tens_20 : decode cX3_tens 20 = .ok (.invokestatic 136, 3) := by decide +kernel
theorem dX3_tens_23 : decode cX3_tens 23 = .ok (.ireturn, 1) := by decide +kernel
theorem dX3_restAt_0 : decode cX3_restAt 0 = .ok (.aload_n 0, 1) := by decide +kernel
theorem dX3_restAt_1 : decode cX3_restAt 1 = .ok (.iload_n 1, 1) := by decide +kernel
theorem dX3_restAt_2 : decode cX3_restAt 2 = .ok (.invokestatic 104, 3) := by decide +kernel
theorem dX3_restAt_5 : decode cX3_restAt 5 = .ok (.iload_n 2, 1) := by decide +kernel
theorem dX3_restAt_6 : decode cX3_restAt 6 = .ok (.iconst 0, 1) := by decide +kernel
theorem dX3_restAt_7 : decode cX3_restAt 7 = .ok (.sipush 200, 3) := by decide +kernel
theorem dX3_restAt_10 : decode cX3_restAt 10 = .ok (.invokestatic 34, 3) := by decide +kernel
theorem dX3_restAt_13 : decode cX3_restAt 13 = .ok (.invokevirtual 72, 3) := by decide +kernel
theorem dX3_restAt_16 : decode cX3_restAt 16 = .ok (.ifCond .eq 7, 3) := by decide +kernel
theorem dX3_restAt_19 : decode cX3_restAt 19 = .ok (.iconst 0, 1) := by decide +kernel
theorem dX3_restAt_20 : decode cX3_restAt 20 = .ok (.goto 19, 3) := by decide +kernel
theorem dX3_restAt_23 : decode cX3_restAt 23 = .ok (.aload_n 0, 1) := by decide +kernel
theorem dX3_restAt_24 : decode cX3_restAt 24 = .ok (.getfield 18, 3) := by decide +kernel
theorem dX3_restAt_27 : decode cX3_restAt 27 = .ok (.iload_n 1, 1) := by decide +kernel
theorem dX3_restAt_28 : decode cX3_restAt 28 = .ok (.iaload, 1) := by decide +kernel
theorem dX3_restAt_29 : decode cX3_restAt 29 = .ok (.aload_n 0, 1) := by decide +kernel
theorem dX3_restAt_30 : decode cX3_restAt 30 = .ok (.getfield 21, 3) := by decide +kernel
theorem dX3_restAt_33 : decode cX3_restAt 33 = .ok (.iload_n 1, 1) := by decide +kernel
theorem dX3_restAt_34 : decode cX3_restAt 34 = .ok (.iaload, 1) := by decide +kernel
theorem dX3_restAt_35 : decode cX3_restAt 35 = .ok (.iload_n 2, 1) := by decide +kernel
theorem dX3_restAt_36 : decode cX3_restAt 36 = .ok (.invokestatic 149, 3) := by decide +kernel
theorem dX3_restAt_39 : decode cX3_restAt 39 = .ok (.ireturn, 1) := by decide +kernel
theorem dX3_row_0 : decode cX3_row 0 = .ok (.iload_n 3, 1) := by decide +kernel
theorem dX3_row_1 : decode cX3_row 1 = .ok (.newarray .int, 2) := by decide +kernel
theorem dX3_row_3 : decode cX3_row 3 = .ok (.astore 4, 2) := by decide +kernel
theorem dX3_row_5 : decode cX3_row 5 = .ok (.aload_n 0, 1) := by decide +kernel
theorem dX3_row_6 : decode cX3_row 6 = .ok (.getfield 18, 3) := by decide +kernel
theorem dX3_row_9 : decode cX3_row 9 = .ok (.iload_n 1, 1) := by decide +kernel
theorem dX3_row_10 : decode cX3_row 10 = .ok (.iaload, 1) := by decide +kernel
theorem dX3_row_11 : decode cX3_row 11 = .ok (.aload_n 0, 1) := by decide +kernel
theorem dX3_row_12 : decode cX3_row 12 = .ok (.getfield 21, 3) := by decide +kernel
theorem dX3_row_15 : decode cX3_row 15 = .ok (.iload_n 1, 1) := by decide +kernel
theorem dX3_row_16 : decode cX3_row 16 = .ok (.iaload, 1) := by decide +kernel
theorem dX3_row_17 : decode cX3_row 17 = .ok (.iload_n 2, 1) := by decide +kernel
theorem dX3_row_18 : decode cX3_row 18 = .ok (.invokestatic 149, 3) := by decide +kernel
theorem dX3_row_21 : decode cX3_row 21 = .ok (.istore 5, 2) := by decide +kernel
theorem dX3_row_23 : decode cX3_row 23 = .ok (.iconst 0, 1) := by decide +kernel
theorem dX3_row_24 : decode cX3_row 24 = .ok (.istore 6, 2) := by decide +kernel
theorem dX3_row_26 : decode cX3_row 26 = .ok (.iload 6, 2) := by decide +kernel
theorem dX3_row_28 : decode cX3_row 28 = .ok (.iload_n 3, 1) := by decide +kernel
theorem dX3_row_29 : decode cX3_row 29 = .ok (.if_icmp .ge 40, 3) := by decide +kernel
theorem dX3_row_32 : decode cX3_row 32 = .ok (.aload 4, 2) := by decide +kernel
theorem dX3_row_34 : decode cX3_row 34 = .ok (.iload 6, 2) := by decide +kernel
theorem dX3_row_36 : decode cX3_row 36 = .ok (.bipush 10, 2) := by decide +kernel
theorem dX3_row_38 : decode cX3_row 38 = .ok (.iload 5, 2) := by decide +kernel
theorem dX3_row_40 : decode cX3_row 40 = .ok (.imul, 1) := by decide +kernel
theorem dX3_row_41 : decode cX3_row 41 = .ok (.aload_n 0, 1) := by decide +kernel
theorem dX3_row_42 : decode cX3_row 42 = .ok (.getfield 21, 3) := by decide +kernel
theorem dX3_row_45 : decode cX3_row 45 = .ok (.iload_n 1, 1) := by decide +kernel
theorem dX3_row_46 : decode cX3_row 46 = .ok (.iaload, 1) := by decide +kernel
theorem dX3_row_47 : decode cX3_row 47 = .ok (.idiv, 1) := by decide +kernel
theorem dX3_row_48 : decode cX3_row 48 = .ok (.iastore, 1) := by decide +kernel
theorem dX3_row_49 : decode cX3_row 49 = .ok (.bipush 10, 2) := by decide +kernel
theorem dX3_row_51 : decode cX3_row 51 = .ok (.iload 5, 2) := by decide +kernel
theorem dX3_row_53 : decode cX3_row 53 = .ok (.imul, 1) := by decide +kernel
theorem dX3_row_54 : decode cX3_row 54 = .ok (.aload_n 0, 1) := by decide +kernel
theorem dX3_row_55 : decode cX3_row 55 = .ok (.getfield 21, 3) := by decide +kernel
theorem dX3_row_58 : decode cX3_row 58 = .ok (.iload_n 1, 1) := by decide +kernel
theorem dX3_row_59 : decode cX3_row 59 = .ok (.iaload, 1) := by decide +kernel
theorem dX3_row_60 : decode cX3_row 60 = .ok (.irem, 1) := by decide +kernel
theorem dX3_row_61 : decode cX3_row 61 = .ok (.istore 5, 2) := by decide +kernel
theorem dX3_row_63 : decode cX3_row 63 = .ok (.iinc 6 1, 3) := by decide +kernel
theorem dX3_row_66 : decode cX3_row 66 = .ok (.goto (-40), 3) := by decide +kernel
theorem dX3_row_69 : decode cX3_row 69 = .ok (.aload 4, 2) := by decide +kernel
theorem dX3_row_71 : decode cX3_row 71 = .ok (.areturn, 1) := by decide +kernel
theorem dX3_written_0 : decode cX3_written 0 = .ok (.new 111, 3) := by decide +kernel
theorem dX3_written_3 : decode cX3_written 3 = .ok (.dup, 1) := by decide +kernel
theorem dX3_written_4 : decode cX3_written 4 = .ok (.aload_n 0, 1) := by decide +kernel
theorem dX3_written_5 : decode cX3_written 5 = .ok (.arraylength, 1) := by decide +kernel
theorem dX3_written_6 : decode cX3_written 6 = .ok (.invokespecial 113, 3) := by decide +kernel
theorem dX3_written_9 : decode cX3_written 9 = .ok (.astore_n 2, 1) := by decide +kernel
theorem dX3_written_10 : decode cX3_written 10 = .ok (.iload_n 1, 1) := by decide +kernel
theorem dX3_written_11 : decode cX3_written 11 = .ok (.istore_n 3, 1) := by decide +kernel
theorem dX3_written_12 : decode cX3_written 12 = .ok (.iload_n 3, 1) := by decide +kernel
theorem dX3_written_13 : decode cX3_written 13 = .ok (.aload_n 0, 1) := by decide +kernel
theorem dX3_written_14 : decode cX3_written 14 = .ok (.arraylength, 1) := by decide +kernel
theorem dX3_written_15 : decode cX3_written 15 = .ok (.if_icmp .ge 21, 3) := by decide +kernel
theorem dX3_written_18 : decode cX3_written 18 = .ok (.aload_n 2, 1) := by decide +kernel
theorem dX3_written_19 : decode cX3_written 19 = .ok (.bipush 48, 2) := by decide +kernel
theorem dX3_written_21 : decode cX3_written 21 = .ok (.aload_n 0, 1) := by decide +kernel
theorem dX3_written_22 : decode cX3_written 22 = .ok (.iload_n 3, 1) := by decide +kernel
theorem dX3_written_23 : decode cX3_written 23 = .ok (.iaload, 1) := by decide +kernel
theorem dX3_written_24 : decode cX3_written 24 = .ok (.iadd, 1) := by decide +kernel
theorem dX3_written_25 : decode cX3_written 25 = .ok (.i2c, 1) := by decide +kernel
theorem dX3_written_26 : decode cX3_written 26 = .ok (.invokevirtual 116, 3) := by decide +kernel
theorem dX3_written_29 : decode cX3_written 29 = .ok (.pop, 1) := by decide +kernel
theorem dX3_written_30 : decode cX3_written 30 = .ok (.iinc 3 1, 3) := by decide +kernel
theorem dX3_written_33 : decode cX3_written 33 = .ok (.goto (-21), 3) := by decide +kernel
theorem dX3_written_36 : decode cX3_written 36 = .ok (.aload_n 2, 1) := by decide +kernel
theorem dX3_written_37 : decode cX3_written 37 = .ok (.invokevirtual 122, 3) := by decide +kernel
theorem dX3_written_40 : decode cX3_written 40 = .ok (.areturn, 1) := by decide +kernel
theorem dX3_number_0 : decode cX3_number 0 = .ok (.iconst 0, 1) := by decide +kernel
theorem dX3_number_1 : decode cX3_number 1 = .ok (.istore_n 1, 1) := by decide +kernel
theorem dX3_number_2 : decode cX3_number 2 = .ok (.iload_n 1, 1) := by decide +kernel
theorem dX3_number_3 : decode cX3_number 3 = .ok (.aload_n 0, 1) := by decide +kernel
theorem dX3_number_4 : decode cX3_number 4 = .ok (.arraylength, 1) := by decide +kernel
theorem dX3_number_5 : decode cX3_number 5 = .ok (.iconst 1, 1) := by decide +kernel
theorem dX3_number_6 : decode cX3_number 6 = .ok (.isub, 1) := by decide +kernel
theorem dX3_number_7 : decode cX3_number 7 = .ok (.if_icmp .ge 15, 3) := by decide +kernel
theorem dX3_number_10 : decode cX3_number 10 = .ok (.aload_n 0, 1) := by decide +kernel
theorem dX3_number_11 : decode cX3_number 11 = .ok (.iload_n 1, 1) := by decide +kernel
theorem dX3_number_12 : decode cX3_number 12 = .ok (.iaload, 1) := by decide +kernel
theorem dX3_number_13 : decode cX3_number 13 = .ok (.ifCond .ne 9, 3) := by decide +kernel
theorem dX3_number_16 : decode cX3_number 16 = .ok (.iinc 1 1, 3) := by decide +kernel
theorem dX3_number_19 : decode cX3_number 19 = .ok (.goto (-17), 3) := by decide +kernel
theorem dX3_number_22 : decode cX3_number 22 = .ok (.aload_n 0, 1) := by decide +kernel
theorem dX3_number_23 : decode cX3_number 23 = .ok (.iload_n 1, 1) := by decide +kernel
theorem dX3_number_24 : decode cX3_number 24 = .ok (.invokestatic 156, 3) := by decide +kernel
theorem dX3_number_27 : decode cX3_number 27 = .ok (.areturn, 1) := by decide +kernel
theorem dX3_digitsFrom_0 : decode cX3_digitsFrom 0 = .ok (.aload_n 0, 1) := by decide +kernel
theorem dX3_digitsFrom_1 : decode cX3_digitsFrom 1 = .ok (.iload_n 1, 1) := by decide +kernel
theorem dX3_digitsFrom_2 : decode cX3_digitsFrom 2 = .ok (.invokestatic 104, 3) := by decide +kernel
theorem dX3_digitsFrom_5 : decode cX3_digitsFrom 5 = .ok (.iload_n 2, 1) := by decide +kernel
theorem dX3_digitsFrom_6 : decode cX3_digitsFrom 6 = .ok (.iconst 0, 1) := by decide +kernel
theorem dX3_digitsFrom_7 : decode cX3_digitsFrom 7 = .ok (.sipush 200, 3) := by decide +kernel
theorem dX3_digitsFrom_10 : decode cX3_digitsFrom 10 = .ok (.invokestatic 34, 3) := by decide +kernel
theorem dX3_digitsFrom_13 : decode cX3_digitsFrom 13 = .ok (.ifCond .ne 13, 3) := by decide +kernel
theorem dX3_digitsFrom_16 : decode cX3_digitsFrom 16 = .ok (.iload_n 3, 1) := by decide +kernel
theorem dX3_digitsFrom_17 : decode cX3_digitsFrom 17 = .ok (.iconst 1, 1) := by decide +kernel
theorem dX3_digitsFrom_18 : decode cX3_digitsFrom 18 = .ok (.bipush 16, 2) := by decide +kernel
theorem dX3_digitsFrom_20 : decode cX3_digitsFrom 20 = .ok (.invokestatic 34, 3) := by decide +kernel
theorem dX3_digitsFrom_23 : decode cX3_digitsFrom 23 = .ok (.ifCond .eq 7, 3) := by decide +kernel
theorem dX3_digitsFrom_26 : decode cX3_digitsFrom 26 = .ok (.iconst 1, 1) := by decide +kernel
theorem dX3_digitsFrom_27 : decode cX3_digitsFrom 27 = .ok (.goto 4, 3) := by decide +kernel
theorem dX3_digitsFrom_30 : decode cX3_digitsFrom 30 = .ok (.iconst 0, 1) := by decide +kernel
theorem dX3_digitsFrom_31 : decode cX3_digitsFrom 31 = .ok (.invokevirtual 72, 3) := by decide +kernel
theorem dX3_digitsFrom_34 : decode cX3_digitsFrom 34 = .ok (.ifCond .eq 8, 3) := by decide +kernel
theorem dX3_digitsFrom_37 : decode cX3_digitsFrom 37 = .ok (.ldc 126, 2) := by decide +kernel
theorem dX3_digitsFrom_39 : decode cX3_digitsFrom 39 = .ok (.goto 14, 3) := by decide +kernel
theorem dX3_digitsFrom_42 : decode cX3_digitsFrom 42 = .ok (.aload_n 0, 1) := by decide +kernel
theorem dX3_digitsFrom_43 : decode cX3_digitsFrom 43 = .ok (.iload_n 1, 1) := by decide +kernel
theorem dX3_digitsFrom_44 : decode cX3_digitsFrom 44 = .ok (.iload_n 2, 1) := by decide +kernel
theorem dX3_digitsFrom_45 : decode cX3_digitsFrom 45 = .ok (.iload_n 3, 1) := by decide +kernel
theorem dX3_digitsFrom_46 : decode cX3_digitsFrom 46 = .ok (.invokevirtual 160, 3) := by decide +kernel
theorem dX3_digitsFrom_49 : decode cX3_digitsFrom 49 = .ok (.iconst 0, 1) := by decide +kernel
theorem dX3_digitsFrom_50 : decode cX3_digitsFrom 50 = .ok (.invokestatic 156, 3) := by decide +kernel
theorem dX3_digitsFrom_53 : decode cX3_digitsFrom 53 = .ok (.areturn, 1) := by decide +kernel
theorem dX3_cutText_0 : decode cX3_cutText 0 = .ok (.aload_n 0, 1) := by decide +kernel
theorem dX3_cutText_1 : decode cX3_cutText 1 = .ok (.iload_n 1, 1) := by decide +kernel
theorem dX3_cutText_2 : decode cX3_cutText 2 = .ok (.invokestatic 104, 3) := by decide +kernel
theorem dX3_cutText_5 : decode cX3_cutText 5 = .ok (.iload_n 3, 1) := by decide +kernel
theorem dX3_cutText_6 : decode cX3_cutText 6 = .ok (.iload 4, 2) := by decide +kernel
theorem dX3_cutText_8 : decode cX3_cutText 8 = .ok (.bipush 16, 2) := by decide +kernel
theorem dX3_cutText_10 : decode cX3_cutText 10 = .ok (.invokestatic 87, 3) := by decide +kernel
theorem dX3_cutText_13 : decode cX3_cutText 13 = .ok (.invokevirtual 72, 3) := by decide +kernel
theorem dX3_cutText_16 : decode cX3_cutText 16 = .ok (.ifCond .eq 6, 3) := by decide +kernel
theorem dX3_cutText_19 : decode cX3_cutText 19 = .ok (.ldc 126, 2) := by decide +kernel
theorem dX3_cutText_21 : decode cX3_cutText 21 = .ok (.areturn, 1) := by decide +kernel
theorem dX3_cutText_22 : decode cX3_cutText 22 = .ok (.aload_n 0, 1) := by decide +kernel
theorem dX3_cutText_23 : decode cX3_cutText 23 = .ok (.iload_n 1, 1) := by decide +kernel
theorem dX3_cutText_24 : decode cX3_cutText 24 = .ok (.iload_n 2, 1) := by decide +kernel
theorem dX3_cutText_25 : decode cX3_cutText 25 = .ok (.iload_n 3, 1) := by decide +kernel
theorem dX3_cutText_26 : decode cX3_cutText 26 = .ok (.iload 4, 2) := by decide +kernel
theorem dX3_cutText_28 : decode cX3_cutText 28 = .ok (.invokevirtual 107, 3) := by decide +kernel
theorem dX3_cutText_31 : decode cX3_cutText 31 = .ok (.lstore 5, 2) := by decide +kernel
theorem dX3_cutText_33 : decode cX3_cutText 33 = .ok (.lload 5, 2) := by decide +kernel
theorem dX3_cutText_35 : decode cX3_cutText 35 = .ok (.ldc2_w 44, 3) := by decide +kernel
theorem dX3_cutText_38 : decode cX3_cutText 38 = .ok (.lcmp, 1) := by decide +kernel
theorem dX3_cutText_39 : decode cX3_cutText 39 = .ok (.ifCond .ne 8, 3) := by decide +kernel
theorem dX3_cutText_42 : decode cX3_cutText 42 = .ok (.ldc 164, 2) := by decide +kernel
theorem dX3_cutText_44 : decode cX3_cutText 44 = .ok (.goto 9, 3) := by decide +kernel
theorem dX3_cutText_47 : decode cX3_cutText 47 = .ok (.lload 5, 2) := by decide +kernel
theorem dX3_cutText_49 : decode cX3_cutText 49 = .ok (.iload_n 3, 1) := by decide +kernel
theorem dX3_cutText_50 : decode cX3_cutText 50 = .ok (.invokestatic 128, 3) := by decide +kernel
theorem dX3_cutText_53 : decode cX3_cutText 53 = .ok (.areturn, 1) := by decide +kernel
theorem dX3_number__0 : decode cX3_number_ 0 = .ok (.aload_n 0, 1) := by decide +kernel
theorem dX3_number__1 : decode cX3_number_ 1 = .ok (.iload_n 1, 1) := by decide +kernel
theorem dX3_number__2 : decode cX3_number_ 2 = .ok (.invokestatic 104, 3) := by decide +kernel
theorem dX3_number__5 : decode cX3_number_ 5 = .ok (.iconst 0, 1) := by decide +kernel
theorem dX3_number__6 : decode cX3_number_ 6 = .ok (.invokevirtual 72, 3) := by decide +kernel
theorem dX3_number__9 : decode cX3_number_ 9 = .ok (.ifCond .eq 8, 3) := by decide +kernel
theorem dX3_number__12 : decode cX3_number_ 12 = .ok (.ldc 126, 2) := by decide +kernel
theorem dX3_number__14 : decode cX3_number_ 14 = .ok (.goto 18, 3) := by decide +kernel
theorem dX3_number__17 : decode cX3_number_ 17 = .ok (.aload_n 0, 1) := by decide +kernel
theorem dX3_number__18 : decode cX3_number_ 18 = .ok (.iload_n 1, 1) := by decide +kernel
theorem dX3_number__19 : decode cX3_number_ 19 = .ok (.iconst 0, 1) := by decide +kernel
theorem dX3_number__20 : decode cX3_number_ 20 = .ok (.aload_n 0, 1) := by decide +kernel
theorem dX3_number__21 : decode cX3_number_ 21 = .ok (.iload_n 1, 1) := by decide +kernel
theorem dX3_number__22 : decode cX3_number_ 22 = .ok (.invokevirtual 146, 3) := by decide +kernel
theorem dX3_number__25 : decode cX3_number_ 25 = .ok (.invokevirtual 160, 3) := by decide +kernel
theorem dX3_number__28 : decode cX3_number_ 28 = .ok (.iconst 0, 1) := by decide +kernel
theorem dX3_number__29 : decode cX3_number_ 29 = .ok (.invokestatic 156, 3) := by decide +kernel
theorem dX3_number__32 : decode cX3_number_ 32 = .ok (.areturn, 1) := by decide +kernel
theorem dX3_timesBottom_0 : decode cX3_timesBottom 0 = .ok (.aload_n 0, 1) := by decide +kernel
theorem dX3_timesBottom_1 : decode cX3_timesBottom 1 = .ok (.iload_n 1, 1) := by decide +kernel
theorem dX3_timesBottom_2 : decode cX3_timesBottom 2 = .ok (.iconst 0, 1) := by decide +kernel
theorem dX3_timesBottom_3 : decode cX3_timesBottom 3 = .ok (.aload_n 0, 1) := by decide +kernel
theorem dX3_timesBottom_4 : decode cX3_timesBottom 4 = .ok (.iload_n 1, 1) := by decide +kernel
theorem dX3_timesBottom_5 : decode cX3_timesBottom 5 = .ok (.invokevirtual 146, 3) := by decide +kernel
theorem dX3_timesBottom_8 : decode cX3_timesBottom 8 = .ok (.invokevirtual 160, 3) := by decide +kernel
theorem dX3_timesBottom_11 : decode cX3_timesBottom 11 = .ok (.astore_n 2, 1) := by decide +kernel
theorem dX3_timesBottom_12 : decode cX3_timesBottom 12 = .ok (.aload_n 2, 1) := by decide +kernel
theorem dX3_timesBottom_13 : decode cX3_timesBottom 13 = .ok (.arraylength, 1) := by decide +kernel
theorem dX3_timesBottom_14 : decode cX3_timesBottom 14 = .ok (.iconst 2, 1) := by decide +kernel
theorem dX3_timesBottom_15 : decode cX3_timesBottom 15 = .ok (.iadd, 1) := by decide +kernel
theorem dX3_timesBottom_16 : decode cX3_timesBottom 16 = .ok (.newarray .int, 2) := by decide +kernel
theorem dX3_timesBottom_18 : decode cX3_timesBottom 18 = .ok (.astore_n 3, 1) := by decide +kernel
theorem dX3_timesBottom_19 : decode cX3_timesBottom 19 = .ok (.iconst 0, 1) := by decide +kernel
theorem dX3_timesBottom_20 : decode cX3_timesBottom 20 = .ok (.istore 4, 2) := by decide +kernel
theorem dX3_timesBottom_22 : decode cX3_timesBottom 22 = .ok (.aload_n 3, 1) := by decide +kernel
theorem dX3_timesBottom_23 : decode cX3_timesBottom 23 = .ok (.arraylength, 1) := by decide +kernel
theorem dX3_timesBottom_24 : decode cX3_timesBottom 24 = .ok (.iconst 1, 1) := by decide +kernel
theorem dX3_timesBottom_25 : decode cX3_timesBottom 25 = .ok (.isub, 1) := by decide +kernel
theorem dX3_timesBottom_26 : decode cX3_timesBottom 26 = .ok (.istore 5, 2) := by decide +kernel
theorem dX3_timesBottom_28 : decode cX3_timesBottom 28 = .ok (.iload 5, 2) := by decide +kernel
theorem dX3_timesBottom_30 : decode cX3_timesBottom 30 = .ok (.ifCond .lt 53, 3) := by decide +kernel
theorem dX3_timesBottom_33 : decode cX3_timesBottom 33 = .ok (.iload 4, 2) := by decide +kernel
theorem dX3_timesBottom_35 : decode cX3_timesBottom 35 = .ok (.iload 5, 2) := by decide +kernel
theorem dX3_timesBottom_37 : decode cX3_timesBottom 37 = .ok (.iconst 2, 1) := by decide +kernel
theorem dX3_timesBottom_38 : decode cX3_timesBottom 38 = .ok (.if_icmp .ge 7, 3) := by decide +kernel
theorem dX3_timesBottom_41 : decode cX3_timesBottom 41 = .ok (.iconst 0, 1) := by decide +kernel
theorem dX3_timesBottom_42 : decode cX3_timesBottom 42 = .ok (.goto 16, 3) := by decide +kernel
theorem dX3_timesBottom_45 : decode cX3_timesBottom 45 = .ok (.aload_n 2, 1) := by decide +kernel
theorem dX3_timesBottom_46 : decode cX3_timesBottom 46 = .ok (.iload 5, 2) := by decide +kernel
theorem dX3_timesBottom_48 : decode cX3_timesBottom 48 = .ok (.iconst 2, 1) := by decide +kernel
theorem dX3_timesBottom_49 : decode cX3_timesBottom 49 = .ok (.isub, 1) := by decide +kernel
theorem dX3_timesBottom_50 : decode cX3_timesBottom 50 = .ok (.iaload, 1) := by decide +kernel
theorem dX3_timesBottom_51 : decode cX3_timesBottom 51 = .ok (.aload_n 0, 1) := by decide +kernel
theorem dX3_timesBottom_52 : decode cX3_timesBottom 52 = .ok (.getfield 21, 3) := by decide +kernel
theorem dX3_timesBottom_55 : decode cX3_timesBottom 55 = .ok (.iload_n 1, 1) := by decide +kernel
theorem dX3_timesBottom_56 : decode cX3_timesBottom 56 = .ok (.iaload, 1) := by decide +kernel
theorem dX3_timesBottom_57 : decode cX3_timesBottom 57 = .ok (.imul, 1) := by decide +kernel
theorem dX3_timesBottom_58 : decode cX3_timesBottom 58 = .ok (.iadd, 1) := by decide +kernel
theorem dX3_timesBottom_59 : decode cX3_timesBottom 59 = .ok (.istore 4, 2) := by decide +kernel
theorem dX3_timesBottom_61 : decode cX3_timesBottom 61 = .ok (.aload_n 3, 1) := by decide +kernel
theorem dX3_timesBottom_62 : decode cX3_timesBottom 62 = .ok (.iload 5, 2) := by decide +kernel
theorem dX3_timesBottom_64 : decode cX3_timesBottom 64 = .ok (.iload 4, 2) := by decide +kernel
theorem dX3_timesBottom_66 : decode cX3_timesBottom 66 = .ok (.bipush 10, 2) := by decide +kernel
theorem dX3_timesBottom_68 : decode cX3_timesBottom 68 = .ok (.irem, 1) := by decide +kernel
theorem dX3_timesBottom_69 : decode cX3_timesBottom 69 = .ok (.iastore, 1) := by decide +kernel
theorem dX3_timesBottom_70 : decode cX3_timesBottom 70 = .ok (.iload 4, 2) := by decide +kernel
theorem dX3_timesBottom_72 : decode cX3_timesBottom 72 = .ok (.bipush 10, 2) := by decide +kernel
theorem dX3_timesBottom_74 : decode cX3_timesBottom 74 = .ok (.idiv, 1) := by decide +kernel
theorem dX3_timesBottom_75 : decode cX3_timesBottom 75 = .ok (.istore 4, 2) := by decide +kernel
theorem dX3_timesBottom_77 : decode cX3_timesBottom 77 = .ok (.iinc 5 (-1), 3) := by decide +kernel
theorem dX3_timesBottom_80 : decode cX3_timesBottom 80 = .ok (.goto (-52), 3) := by decide +kernel
theorem dX3_timesBottom_83 : decode cX3_timesBottom 83 = .ok (.aload_n 3, 1) := by decide +kernel
theorem dX3_timesBottom_84 : decode cX3_timesBottom 84 = .ok (.areturn, 1) := by decide +kernel
theorem dX3_product_0 : decode cX3_product 0 = .ok (.aload_n 0, 1) := by decide +kernel
theorem dX3_product_1 : decode cX3_product 1 = .ok (.iload_n 1, 1) := by decide +kernel
theorem dX3_product_2 : decode cX3_product 2 = .ok (.invokestatic 104, 3) := by decide +kernel
theorem dX3_product_5 : decode cX3_product 5 = .ok (.iconst 0, 1) := by decide +kernel
theorem dX3_product_6 : decode cX3_product 6 = .ok (.invokevirtual 72, 3) := by decide +kernel
theorem dX3_product_9 : decode cX3_product 9 = .ok (.ifCond .eq 8, 3) := by decide +kernel
theorem dX3_product_12 : decode cX3_product 12 = .ok (.ldc 126, 2) := by decide +kernel
theorem dX3_product_14 : decode cX3_product 14 = .ok (.goto 11, 3) := by decide +kernel
theorem dX3_product_17 : decode cX3_product 17 = .ok (.aload_n 0, 1) := by decide +kernel
theorem dX3_product_18 : decode cX3_product 18 = .ok (.iload_n 1, 1) := by decide +kernel
theorem dX3_product_19 : decode cX3_product 19 = .ok (.invokevirtual 166, 3) := by decide +kernel
theorem dX3_product_22 : decode cX3_product 22 = .ok (.invokestatic 170, 3) := by decide +kernel
theorem dX3_product_25 : decode cX3_product 25 = .ok (.areturn, 1) := by decide +kernel
theorem dX3_sumOf_0 : decode cX3_sumOf 0 = .ok (.aload_n 0, 1) := by decide +kernel
theorem dX3_sumOf_1 : decode cX3_sumOf 1 = .ok (.iload_n 1, 1) := by decide +kernel
theorem dX3_sumOf_2 : decode cX3_sumOf 2 = .ok (.invokevirtual 146, 3) := by decide +kernel
theorem dX3_sumOf_5 : decode cX3_sumOf 5 = .ok (.istore_n 3, 1) := by decide +kernel
theorem dX3_sumOf_6 : decode cX3_sumOf 6 = .ok (.iload_n 3, 1) := by decide +kernel
theorem dX3_sumOf_7 : decode cX3_sumOf 7 = .ok (.iload_n 2, 1) := by decide +kernel
theorem dX3_sumOf_8 : decode cX3_sumOf 8 = .ok (.irem, 1) := by decide +kernel
theorem dX3_sumOf_9 : decode cX3_sumOf 9 = .ok (.ifCond .eq 5, 3) := by decide +kernel
theorem dX3_sumOf_12 : decode cX3_sumOf 12 = .ok (.aconst_null, 1) := by decide +kernel
theorem dX3_sumOf_13 : decode cX3_sumOf 13 = .ok (.areturn, 1) := by decide +kernel
theorem dX3_sumOf_14 : decode cX3_sumOf 14 = .ok (.aload_n 0, 1) := by decide +kernel
theorem dX3_sumOf_15 : decode cX3_sumOf 15 = .ok (.iload_n 1, 1) := by decide +kernel
theorem dX3_sumOf_16 : decode cX3_sumOf 16 = .ok (.iconst 0, 1) := by decide +kernel
theorem dX3_sumOf_17 : decode cX3_sumOf 17 = .ok (.iload_n 3, 1) := by decide +kernel
theorem dX3_sumOf_18 : decode cX3_sumOf 18 = .ok (.invokevirtual 160, 3) := by decide +kernel
theorem dX3_sumOf_21 : decode cX3_sumOf 21 = .ok (.astore 4, 2) := by decide +kernel
theorem dX3_sumOf_23 : decode cX3_sumOf 23 = .ok (.iload_n 3, 1) := by decide +kernel
theorem dX3_sumOf_24 : decode cX3_sumOf 24 = .ok (.iload_n 2, 1) := by decide +kernel
theorem dX3_sumOf_25 : decode cX3_sumOf 25 = .ok (.idiv, 1) := by decide +kernel
theorem dX3_sumOf_26 : decode cX3_sumOf 26 = .ok (.istore 5, 2) := by decide +kernel
theorem dX3_sumOf_28 : decode cX3_sumOf 28 = .ok (.iload 5, 2) := by decide +kernel
theorem dX3_sumOf_30 : decode cX3_sumOf 30 = .ok (.iconst 2, 1) := by decide +kernel
theorem dX3_sumOf_31 : decode cX3_sumOf 31 = .ok (.iadd, 1) := by decide +kernel
theorem dX3_sumOf_32 : decode cX3_sumOf 32 = .ok (.newarray .int, 2) := by decide +kernel
theorem dX3_sumOf_34 : decode cX3_sumOf 34 = .ok (.astore 6, 2) := by decide +kernel
theorem dX3_sumOf_36 : decode cX3_sumOf 36 = .ok (.iconst 0, 1) := by decide +kernel
theorem dX3_sumOf_37 : decode cX3_sumOf 37 = .ok (.istore 7, 2) := by decide +kernel
theorem dX3_sumOf_39 : decode cX3_sumOf 39 = .ok (.aload 6, 2) := by decide +kernel
theorem dX3_sumOf_41 : decode cX3_sumOf 41 = .ok (.arraylength, 1) := by decide +kernel
theorem dX3_sumOf_42 : decode cX3_sumOf 42 = .ok (.iconst 1, 1) := by decide +kernel
theorem dX3_sumOf_43 : decode cX3_sumOf 43 = .ok (.isub, 1) := by decide +kernel
theorem dX3_sumOf_44 : decode cX3_sumOf 44 = .ok (.istore 8, 2) := by decide +kernel
theorem dX3_sumOf_46 : decode cX3_sumOf 46 = .ok (.iload 8, 2) := by decide +kernel
theorem dX3_sumOf_48 : decode cX3_sumOf 48 = .ok (.ifCond .lt 65, 3) := by decide +kernel
theorem dX3_sumOf_51 : decode cX3_sumOf 51 = .ok (.iconst 0, 1) := by decide +kernel
theorem dX3_sumOf_52 : decode cX3_sumOf 52 = .ok (.istore 9, 2) := by decide +kernel
theorem dX3_sumOf_54 : decode cX3_sumOf 54 = .ok (.iload 9, 2) := by decide +kernel
theorem dX3_sumOf_56 : decode cX3_sumOf 56 = .ok (.iload_n 2, 1) := by decide +kernel
theorem dX3_sumOf_57 : decode cX3_sumOf 57 = .ok (.if_icmp .ge 33, 3) := by decide +kernel
theorem dX3_sumOf_60 : decode cX3_sumOf 60 = .ok (.iload 8, 2) := by decide +kernel
theorem dX3_sumOf_62 : decode cX3_sumOf 62 = .ok (.iconst 1, 1) := by decide +kernel
theorem dX3_sumOf_63 : decode cX3_sumOf 63 = .ok (.if_icmp .le 27, 3) := by decide +kernel
theorem dX3_sumOf_66 : decode cX3_sumOf 66 = .ok (.iload 7, 2) := by decide +kernel
theorem dX3_sumOf_68 : decode cX3_sumOf 68 = .ok (.aload 4, 2) := by decide +kernel
theorem dX3_sumOf_70 : decode cX3_sumOf 70 = .ok (.iload 9, 2) := by decide +kernel
theorem dX3_sumOf_72 : decode cX3_sumOf 72 = .ok (.iload 5, 2) := by decide +kernel
theorem dX3_sumOf_74 : decode cX3_sumOf 74 = .ok (.imul, 1) := by decide +kernel
theorem dX3_sumOf_75 : decode cX3_sumOf 75 = .ok (.iload 8, 2) := by decide +kernel
theorem dX3_sumOf_77 : decode cX3_sumOf 77 = .ok (.iadd, 1) := by decide +kernel
theorem dX3_sumOf_78 : decode cX3_sumOf 78 = .ok (.iconst 2, 1) := by decide +kernel
theorem dX3_sumOf_79 : decode cX3_sumOf 79 = .ok (.isub, 1) := by decide +kernel
theorem dX3_sumOf_80 : decode cX3_sumOf 80 = .ok (.iaload, 1) := by decide +kernel
theorem dX3_sumOf_81 : decode cX3_sumOf 81 = .ok (.iadd, 1) := by decide +kernel
theorem dX3_sumOf_82 : decode cX3_sumOf 82 = .ok (.istore 7, 2) := by decide +kernel
theorem dX3_sumOf_84 : decode cX3_sumOf 84 = .ok (.iinc 9 1, 3) := by decide +kernel
theorem dX3_sumOf_87 : decode cX3_sumOf 87 = .ok (.goto (-33), 3) := by decide +kernel
theorem dX3_sumOf_90 : decode cX3_sumOf 90 = .ok (.aload 6, 2) := by decide +kernel
theorem dX3_sumOf_92 : decode cX3_sumOf 92 = .ok (.iload 8, 2) := by decide +kernel
theorem dX3_sumOf_94 : decode cX3_sumOf 94 = .ok (.iload 7, 2) := by decide +kernel
theorem dX3_sumOf_96 : decode cX3_sumOf 96 = .ok (.bipush 10, 2) := by decide +kernel
theorem dX3_sumOf_98 : decode cX3_sumOf 98 = .ok (.irem, 1) := by decide +kernel
theorem dX3_sumOf_99 : decode cX3_sumOf 99 = .ok (.iastore, 1) := by decide +kernel
theorem dX3_sumOf_100 : decode cX3_sumOf 100 = .ok (.iload 7, 2) := by decide +kernel
theorem dX3_sumOf_102 : decode cX3_sumOf 102 = .ok (.bipush 10, 2) := by decide +kernel
theorem dX3_sumOf_104 : decode cX3_sumOf 104 = .ok (.idiv, 1) := by decide +kernel
theorem dX3_sumOf_105 : decode cX3_sumOf 105 = .ok (.istore 7, 2) := by decide +kernel
theorem dX3_sumOf_107 : decode cX3_sumOf 107 = .ok (.iinc 8 (-1), 3) := by decide +kernel
theorem dX3_sumOf_110 : decode cX3_sumOf 110 = .ok (.goto (-64), 3) := by decide +kernel
theorem dX3_sumOf_113 : decode cX3_sumOf 113 = .ok (.aload 6, 2) := by decide +kernel
theorem dX3_sumOf_115 : decode cX3_sumOf 115 = .ok (.areturn, 1) := by decide +kernel
theorem dX3_partSum_0 : decode cX3_partSum 0 = .ok (.aload_n 0, 1) := by decide +kernel
theorem dX3_partSum_1 : decode cX3_partSum 1 = .ok (.iload_n 1, 1) := by decide +kernel
theorem dX3_partSum_2 : decode cX3_partSum 2 = .ok (.invokestatic 104, 3) := by decide +kernel
theorem dX3_partSum_5 : decode cX3_partSum 5 = .ok (.iload_n 2, 1) := by decide +kernel
theorem dX3_partSum_6 : decode cX3_partSum 6 = .ok (.iconst 2, 1) := by decide +kernel
theorem dX3_partSum_7 : decode cX3_partSum 7 = .ok (.bipush 12, 2) := by decide +kernel
theorem dX3_partSum_9 : decode cX3_partSum 9 = .ok (.invokestatic 34, 3) := by decide +kernel
theorem dX3_partSum_12 : decode cX3_partSum 12 = .ok (.invokevirtual 72, 3) := by decide +kernel
theorem dX3_partSum_15 : decode cX3_partSum 15 = .ok (.ifCond .eq 6, 3) := by decide +kernel
theorem dX3_partSum_18 : decode cX3_partSum 18 = .ok (.ldc 126, 2) := by decide +kernel
theorem dX3_partSum_20 : decode cX3_partSum 20 = .ok (.areturn, 1) := by decide +kernel
theorem dX3_partSum_21 : decode cX3_partSum 21 = .ok (.aload_n 0, 1) := by decide +kernel
theorem dX3_partSum_22 : decode cX3_partSum 22 = .ok (.iload_n 1, 1) := by decide +kernel
theorem dX3_partSum_23 : decode cX3_partSum 23 = .ok (.iload_n 2, 1) := by decide +kernel
theorem dX3_partSum_24 : decode cX3_partSum 24 = .ok (.invokevirtual 174, 3) := by decide +kernel
theorem dX3_partSum_27 : decode cX3_partSum 27 = .ok (.astore_n 3, 1) := by decide +kernel
theorem dX3_partSum_28 : decode cX3_partSum 28 = .ok (.aload_n 3, 1) := by decide +kernel
theorem dX3_partSum_29 : decode cX3_partSum 29 = .ok (.ifnonnull 8, 3) := by decide +kernel
theorem dX3_partSum_32 : decode cX3_partSum 32 = .ok (.ldc 164, 2) := by decide +kernel
theorem dX3_partSum_34 : decode cX3_partSum 34 = .ok (.goto 7, 3) := by decide +kernel
theorem dX3_partSum_37 : decode cX3_partSum 37 = .ok (.aload_n 3, 1) := by decide +kernel
theorem dX3_partSum_38 : decode cX3_partSum 38 = .ok (.invokestatic 170, 3) := by decide +kernel
theorem dX3_partSum_41 : decode cX3_partSum 41 = .ok (.areturn, 1) := by decide +kernel
theorem dX3_areLike_0 : decode cX3_areLike 0 = .ok (.iconst 0, 1) := by decide +kernel
theorem dX3_areLike_1 : decode cX3_areLike 1 = .ok (.istore_n 2, 1) := by decide +kernel
theorem dX3_areLike_2 : decode cX3_areLike 2 = .ok (.iload_n 2, 1) := by decide +kernel
theorem dX3_areLike_3 : decode cX3_areLike 3 = .ok (.aload_n 0, 1) := by decide +kernel
theorem dX3_areLike_4 : decode cX3_areLike 4 = .ok (.arraylength, 1) := by decide +kernel
theorem dX3_areLike_5 : decode cX3_areLike 5 = .ok (.if_icmp .ge 20, 3) := by decide +kernel
theorem dX3_areLike_8 : decode cX3_areLike 8 = .ok (.aload_n 0, 1) := by decide +kernel
theorem dX3_areLike_9 : decode cX3_areLike 9 = .ok (.iload_n 2, 1) := by decide +kernel
theorem dX3_areLike_10 : decode cX3_areLike 10 = .ok (.iaload, 1) := by decide +kernel
theorem dX3_areLike_11 : decode cX3_areLike 11 = .ok (.aload_n 1, 1) := by decide +kernel
theorem dX3_areLike_12 : decode cX3_areLike 12 = .ok (.iload_n 2, 1) := by decide +kernel
theorem dX3_areLike_13 : decode cX3_areLike 13 = .ok (.iaload, 1) := by decide +kernel
theorem dX3_areLike_14 : decode cX3_areLike 14 = .ok (.if_icmp .eq 5, 3) := by decide +kernel
theorem dX3_areLike_17 : decode cX3_areLike 17 = .ok (.iconst 0, 1) := by decide +kernel
theorem dX3_areLike_18 : decode cX3_areLike 18 = .ok (.ireturn, 1) := by decide +kernel
theorem dX3_areLike_19 : decode cX3_areLike 19 = .ok (.iinc 2 1, 3) := by decide +kernel
theorem dX3_areLike_22 : decode cX3_areLike 22 = .ok (.goto (-20), 3) := by decide +kernel
theorem dX3_areLike_25 : decode cX3_areLike 25 = .ok (.iconst 1, 1) := by decide +kernel
theorem dX3_areLike_26 : decode cX3_areLike 26 = .ok (.ireturn, 1) := by decide +kernel
theorem dX3_ninesOf_0 : decode cX3_ninesOf 0 = .ok (.aload_n 0, 1) := by decide +kernel
theorem dX3_ninesOf_1 : decode cX3_ninesOf 1 = .ok (.iload_n 1, 1) := by decide +kernel
theorem dX3_ninesOf_2 : decode cX3_ninesOf 2 = .ok (.iload_n 2, 1) := by decide +kernel
theorem dX3_ninesOf_3 : decode cX3_ninesOf 3 = .ok (.invokevirtual 174, 3) := by decide +kernel
theorem dX3_ninesOf_6 : decode cX3_ninesOf 6 = .ok (.astore_n 3, 1) := by decide +kernel
theorem dX3_ninesOf_7 : decode cX3_ninesOf 7 = .ok (.aload_n 3, 1) := by decide +kernel
theorem dX3_ninesOf_8 : decode cX3_ninesOf 8 = .ok (.ifnonnull 6, 3) := by decide +kernel
theorem dX3_ninesOf_11 : decode cX3_ninesOf 11 = .ok (.bipush (-9), 2) := by decide +kernel
theorem dX3_ninesOf_13 : decode cX3_ninesOf 13 = .ok (.ireturn, 1) := by decide +kernel
theorem dX3_ninesOf_14 : decode cX3_ninesOf 14 = .ok (.aload_n 3, 1) := by decide +kernel
theorem dX3_ninesOf_15 : decode cX3_ninesOf 15 = .ok (.arraylength, 1) := by decide +kernel
theorem dX3_ninesOf_16 : decode cX3_ninesOf 16 = .ok (.newarray .int, 2) := by decide +kernel
theorem dX3_ninesOf_18 : decode cX3_ninesOf 18 = .ok (.astore 4, 2) := by decide +kernel
theorem dX3_ninesOf_20 : decode cX3_ninesOf 20 = .ok (.iconst 0, 1) := by decide +kernel
theorem dX3_ninesOf_21 : decode cX3_ninesOf 21 = .ok (.istore 5, 2) := by decide +kernel
theorem dX3_ninesOf_23 : decode cX3_ninesOf 23 = .ok (.iload 5, 2) := by decide +kernel
theorem dX3_ninesOf_25 : decode cX3_ninesOf 25 = .ok (.iload_n 2, 1) := by decide +kernel
theorem dX3_ninesOf_26 : decode cX3_ninesOf 26 = .ok (.if_icmp .gt 82, 3) := by decide +kernel
theorem dX3_ninesOf_29 : decode cX3_ninesOf 29 = .ok (.aload 4, 2) := by decide +kernel
theorem dX3_ninesOf_31 : decode cX3_ninesOf 31 = .ok (.aload_n 3, 1) := by decide +kernel
theorem dX3_ninesOf_32 : decode cX3_ninesOf 32 = .ok (.invokestatic 178, 3) := by decide +kernel
theorem dX3_ninesOf_35 : decode cX3_ninesOf 35 = .ok (.ifCond .eq 6, 3) := by decide +kernel
theorem dX3_ninesOf_38 : decode cX3_ninesOf 38 = .ok (.iload 5, 2) := by decide +kernel
theorem dX3_ninesOf_40 : decode cX3_ninesOf 40 = .ok (.ireturn, 1) := by decide +kernel
theorem dX3_ninesOf_41 : decode cX3_ninesOf 41 = .ok (.iconst 0, 1) := by decide +kernel
theorem dX3_ninesOf_42 : decode cX3_ninesOf 42 = .ok (.istore 6, 2) := by decide +kernel
theorem dX3_ninesOf_44 : decode cX3_ninesOf 44 = .ok (.aload 4, 2) := by decide +kernel
theorem dX3_ninesOf_46 : decode cX3_ninesOf 46 = .ok (.arraylength, 1) := by decide +kernel
theorem dX3_ninesOf_47 : decode cX3_ninesOf 47 = .ok (.iconst 1, 1) := by decide +kernel
theorem dX3_ninesOf_48 : decode cX3_ninesOf 48 = .ok (.isub, 1) := by decide +kernel
theorem dX3_ninesOf_49 : decode cX3_ninesOf 49 = .ok (.istore 7, 2) := by decide +kernel
theorem dX3_ninesOf_51 : decode cX3_ninesOf 51 = .ok (.iload 7, 2) := by decide +kernel
theorem dX3_ninesOf_53 : decode cX3_ninesOf 53 = .ok (.ifCond .lt 49, 3) := by decide +kernel
theorem dX3_ninesOf_56 : decode cX3_ninesOf 56 = .ok (.iload 6, 2) := by decide +kernel
theorem dX3_ninesOf_58 : decode cX3_ninesOf 58 = .ok (.aload 4, 2) := by decide +kernel
theorem dX3_ninesOf_60 : decode cX3_ninesOf 60 = .ok (.iload 7, 2) := by decide +kernel
theorem dX3_ninesOf_62 : decode cX3_ninesOf 62 = .ok (.iaload, 1) := by decide +kernel
theorem dX3_ninesOf_63 : decode cX3_ninesOf 63 = .ok (.iload 7, 2) := by decide +kernel
theorem dX3_ninesOf_65 : decode cX3_ninesOf 65 = .ok (.iconst 1, 1) := by decide +kernel
theorem dX3_ninesOf_66 : decode cX3_ninesOf 66 = .ok (.if_icmp .le 8, 3) := by decide +kernel
theorem dX3_ninesOf_69 : decode cX3_ninesOf 69 = .ok (.bipush 9, 2) := by decide +kernel
theorem dX3_ninesOf_71 : decode cX3_ninesOf 71 = .ok (.goto 4, 3) := by decide +kernel
theorem dX3_ninesOf_74 : decode cX3_ninesOf 74 = .ok (.iconst 0, 1) := by decide +kernel
theorem dX3_ninesOf_75 : decode cX3_ninesOf 75 = .ok (.iadd, 1) := by decide +kernel
theorem dX3_ninesOf_76 : decode cX3_ninesOf 76 = .ok (.iadd, 1) := by decide +kernel
theorem dX3_ninesOf_77 : decode cX3_ninesOf 77 = .ok (.istore 6, 2) := by decide +kernel
theorem dX3_ninesOf_79 : decode cX3_ninesOf 79 = .ok (.aload 4, 2) := by decide +kernel
theorem dX3_ninesOf_81 : decode cX3_ninesOf 81 = .ok (.iload 7, 2) := by decide +kernel
theorem dX3_ninesOf_83 : decode cX3_ninesOf 83 = .ok (.iload 6, 2) := by decide +kernel
theorem dX3_ninesOf_85 : decode cX3_ninesOf 85 = .ok (.bipush 10, 2) := by decide +kernel
theorem dX3_ninesOf_87 : decode cX3_ninesOf 87 = .ok (.irem, 1) := by decide +kernel
theorem dX3_ninesOf_88 : decode cX3_ninesOf 88 = .ok (.iastore, 1) := by decide +kernel
theorem dX3_ninesOf_89 : decode cX3_ninesOf 89 = .ok (.iload 6, 2) := by decide +kernel
theorem dX3_ninesOf_91 : decode cX3_ninesOf 91 = .ok (.bipush 10, 2) := by decide +kernel
theorem dX3_ninesOf_93 : decode cX3_ninesOf 93 = .ok (.idiv, 1) := by decide +kernel
theorem dX3_ninesOf_94 : decode cX3_ninesOf 94 = .ok (.istore 6, 2) := by decide +kernel
theorem dX3_ninesOf_96 : decode cX3_ninesOf 96 = .ok (.iinc 7 (-1), 3) := by decide +kernel
theorem dX3_ninesOf_99 : decode cX3_ninesOf 99 = .ok (.goto (-48), 3) := by decide +kernel
theorem dX3_ninesOf_102 : decode cX3_ninesOf 102 = .ok (.iinc 5 1, 3) := by decide +kernel
theorem dX3_ninesOf_105 : decode cX3_ninesOf 105 = .ok (.goto (-82), 3) := by decide +kernel
theorem dX3_ninesOf_108 : decode cX3_ninesOf 108 = .ok (.iconst (-1), 1) := by decide +kernel
theorem dX3_ninesOf_109 : decode cX3_ninesOf 109 = .ok (.ireturn, 1) := by decide +kernel
theorem dX3_nines_0 : decode cX3_nines 0 = .ok (.aload_n 0, 1) := by decide +kernel
theorem dX3_nines_1 : decode cX3_nines 1 = .ok (.iload_n 1, 1) := by decide +kernel
theorem dX3_nines_2 : decode cX3_nines 2 = .ok (.invokestatic 104, 3) := by decide +kernel
theorem dX3_nines_5 : decode cX3_nines 5 = .ok (.iload_n 2, 1) := by decide +kernel
theorem dX3_nines_6 : decode cX3_nines 6 = .ok (.iconst 2, 1) := by decide +kernel
theorem dX3_nines_7 : decode cX3_nines 7 = .ok (.bipush 12, 2) := by decide +kernel
theorem dX3_nines_9 : decode cX3_nines 9 = .ok (.invokestatic 34, 3) := by decide +kernel
theorem dX3_nines_12 : decode cX3_nines 12 = .ok (.invokevirtual 72, 3) := by decide +kernel
theorem dX3_nines_15 : decode cX3_nines 15 = .ok (.ifCond .eq 7, 3) := by decide +kernel
theorem dX3_nines_18 : decode cX3_nines 18 = .ok (.iconst 0, 1) := by decide +kernel
theorem dX3_nines_19 : decode cX3_nines 19 = .ok (.goto 9, 3) := by decide +kernel
theorem dX3_nines_22 : decode cX3_nines 22 = .ok (.aload_n 0, 1) := by decide +kernel
theorem dX3_nines_23 : decode cX3_nines 23 = .ok (.iload_n 1, 1) := by decide +kernel
theorem dX3_nines_24 : decode cX3_nines 24 = .ok (.iload_n 2, 1) := by decide +kernel
theorem dX3_nines_25 : decode cX3_nines 25 = .ok (.invokevirtual 182, 3) := by decide +kernel
theorem dX3_nines_28 : decode cX3_nines 28 = .ok (.ireturn, 1) := by decide +kernel
theorem dX3_placeOf_0 : decode cX3_placeOf 0 = .ok (.aload_n 0, 1) := by decide +kernel
theorem dX3_placeOf_1 : decode cX3_placeOf 1 = .ok (.iload_n 1, 1) := by decide +kernel
theorem dX3_placeOf_2 : decode cX3_placeOf 2 = .ok (.invokestatic 104, 3) := by decide +kernel
theorem dX3_placeOf_5 : decode cX3_placeOf 5 = .ok (.ifCond .ne 10, 3) := by decide +kernel
theorem dX3_placeOf_8 : decode cX3_placeOf 8 = .ok (.iload_n 2, 1) := by decide +kernel
theorem dX3_placeOf_9 : decode cX3_placeOf 9 = .ok (.invokestatic 104, 3) := by decide +kernel
theorem dX3_placeOf_12 : decode cX3_placeOf 12 = .ok (.ifCond .eq 7, 3) := by decide +kernel
theorem dX3_placeOf_15 : decode cX3_placeOf 15 = .ok (.iconst 1, 1) := by decide +kernel
theorem dX3_placeOf_16 : decode cX3_placeOf 16 = .ok (.goto 4, 3) := by decide +kernel
theorem dX3_placeOf_19 : decode cX3_placeOf 19 = .ok (.iconst 0, 1) := by decide +kernel
theorem dX3_placeOf_20 : decode cX3_placeOf 20 = .ok (.iconst 0, 1) := by decide +kernel
theorem dX3_placeOf_21 : decode cX3_placeOf 21 = .ok (.invokevirtual 72, 3) := by decide +kernel
theorem dX3_placeOf_24 : decode cX3_placeOf 24 = .ok (.ifCond .eq 5, 3) := by decide +kernel
theorem dX3_placeOf_27 : decode cX3_placeOf 27 = .ok (.iconst 0, 1) := by decide +kernel
theorem dX3_placeOf_28 : decode cX3_placeOf 28 = .ok (.ireturn, 1) := by decide +kernel
theorem dX3_placeOf_29 : decode cX3_placeOf 29 = .ok (.aload_n 0, 1) := by decide +kernel
theorem dX3_placeOf_30 : decode cX3_placeOf 30 = .ok (.iload_n 1, 1) := by decide +kernel
theorem dX3_placeOf_31 : decode cX3_placeOf 31 = .ok (.invokevirtual 146, 3) := by decide +kernel
theorem dX3_placeOf_34 : decode cX3_placeOf 34 = .ok (.istore_n 3, 1) := by decide +kernel
theorem dX3_placeOf_35 : decode cX3_placeOf 35 = .ok (.iconst 0, 1) := by decide +kernel
theorem dX3_placeOf_36 : decode cX3_placeOf 36 = .ok (.istore 4, 2) := by decide +kernel
theorem dX3_placeOf_38 : decode cX3_placeOf 38 = .ok (.iload 4, 2) := by decide +kernel
theorem dX3_placeOf_40 : decode cX3_placeOf 40 = .ok (.iload_n 3, 1) := by decide +kernel
theorem dX3_placeOf_41 : decode cX3_placeOf 41 = .ok (.if_icmp .ge 52, 3) := by decide +kernel
theorem dX3_placeOf_44 : decode cX3_placeOf 44 = .ok (.aload_n 0, 1) := by decide +kernel
theorem dX3_placeOf_45 : decode cX3_placeOf 45 = .ok (.getfield 18, 3) := by decide +kernel
theorem dX3_placeOf_48 : decode cX3_placeOf 48 = .ok (.iload_n 1, 1) := by decide +kernel
theorem dX3_placeOf_49 : decode cX3_placeOf 49 = .ok (.iaload, 1) := by decide +kernel
theorem dX3_placeOf_50 : decode cX3_placeOf 50 = .ok (.aload_n 0, 1) := by decide +kernel
theorem dX3_placeOf_51 : decode cX3_placeOf 51 = .ok (.getfield 21, 3) := by decide +kernel
theorem dX3_placeOf_54 : decode cX3_placeOf 54 = .ok (.iload_n 1, 1) := by decide +kernel
theorem dX3_placeOf_55 : decode cX3_placeOf 55 = .ok (.iaload, 1) := by decide +kernel
theorem dX3_placeOf_56 : decode cX3_placeOf 56 = .ok (.iload 4, 2) := by decide +kernel
theorem dX3_placeOf_58 : decode cX3_placeOf 58 = .ok (.invokestatic 149, 3) := by decide +kernel
theorem dX3_placeOf_61 : decode cX3_placeOf 61 = .ok (.aload_n 0, 1) := by decide +kernel
theorem dX3_placeOf_62 : decode cX3_placeOf 62 = .ok (.getfield 21, 3) := by decide +kernel
theorem dX3_placeOf_65 : decode cX3_placeOf 65 = .ok (.iload_n 2, 1) := by decide +kernel
theorem dX3_placeOf_66 : decode cX3_placeOf 66 = .ok (.iaload, 1) := by decide +kernel
theorem dX3_placeOf_67 : decode cX3_placeOf 67 = .ok (.imul, 1) := by decide +kernel
theorem dX3_placeOf_68 : decode cX3_placeOf 68 = .ok (.aload_n 0, 1) := by decide +kernel
theorem dX3_placeOf_69 : decode cX3_placeOf 69 = .ok (.getfield 18, 3) := by decide +kernel
theorem dX3_placeOf_72 : decode cX3_placeOf 72 = .ok (.iload_n 2, 1) := by decide +kernel
theorem dX3_placeOf_73 : decode cX3_placeOf 73 = .ok (.iaload, 1) := by decide +kernel
theorem dX3_placeOf_74 : decode cX3_placeOf 74 = .ok (.aload_n 0, 1) := by decide +kernel
theorem dX3_placeOf_75 : decode cX3_placeOf 75 = .ok (.getfield 21, 3) := by decide +kernel
theorem dX3_placeOf_78 : decode cX3_placeOf 78 = .ok (.iload_n 1, 1) := by decide +kernel
theorem dX3_placeOf_79 : decode cX3_placeOf 79 = .ok (.iaload, 1) := by decide +kernel
theorem dX3_placeOf_80 : decode cX3_placeOf 80 = .ok (.imul, 1) := by decide +kernel
theorem dX3_placeOf_81 : decode cX3_placeOf 81 = .ok (.if_icmp .ne 6, 3) := by decide +kernel
theorem dX3_placeOf_84 : decode cX3_placeOf 84 = .ok (.iload 4, 2) := by decide +kernel
theorem dX3_placeOf_86 : decode cX3_placeOf 86 = .ok (.ireturn, 1) := by decide +kernel
theorem dX3_placeOf_87 : decode cX3_placeOf 87 = .ok (.iinc 4 1, 3) := by decide +kernel
theorem dX3_placeOf_90 : decode cX3_placeOf 90 = .ok (.goto (-52), 3) := by decide +kernel
theorem dX3_placeOf_93 : decode cX3_placeOf 93 = .ok (.iconst (-1), 1) := by decide +kernel
theorem dX3_placeOf_94 : decode cX3_placeOf 94 = .ok (.ireturn, 1) := by decide +kernel
theorem dX3_wheelsOrdered_0 : decode cX3_wheelsOrdered 0 = .ok (.aload_n 0, 1) := by decide +kernel
theorem dX3_wheelsOrdered_1 : decode cX3_wheelsOrdered 1 = .ok (.getfield 18, 3) := by decide +kernel
theorem dX3_wheelsOrdered_4 : decode cX3_wheelsOrdered 4 = .ok (.iload_n 1, 1) := by decide +kernel
theorem dX3_wheelsOrdered_5 : decode cX3_wheelsOrdered 5 = .ok (.iaload, 1) := by decide +kernel
theorem dX3_wheelsOrdered_6 : decode cX3_wheelsOrdered 6 = .ok (.aload_n 0, 1) := by decide +kernel
theorem dX3_wheelsOrdered_7 : decode cX3_wheelsOrdered 7 = .ok (.getfield 21, 3) := by decide +kernel
theorem dX3_wheelsOrdered_10 : decode cX3_wheelsOrdered 10 = .ok (.iload_n 2, 1) := by decide +kernel
theorem dX3_wheelsOrdered_11 : decode cX3_wheelsOrdered 11 = .ok (.iaload, 1) := by decide +kernel
theorem dX3_wheelsOrdered_12 : decode cX3_wheelsOrdered 12 = .ok (.imul, 1) := by decide +kernel
theorem dX3_wheelsOrdered_13 : decode cX3_wheelsOrdered 13 = .ok (.i2l, 1) := by decide +kernel
theorem dX3_wheelsOrdered_14 : decode cX3_wheelsOrdered 14 = .ok (.aload_n 0, 1) := by decide +kernel
theorem dX3_wheelsOrdered_15 : decode cX3_wheelsOrdered 15 = .ok (.getfield 18, 3) := by decide +kernel
theorem dX3_wheelsOrdered_18 : decode cX3_wheelsOrdered 18 = .ok (.iload_n 2, 1) := by decide +kernel
theorem dX3_wheelsOrdered_19 : decode cX3_wheelsOrdered 19 = .ok (.iaload, 1) := by decide +kernel
theorem dX3_wheelsOrdered_20 : decode cX3_wheelsOrdered 20 = .ok (.aload_n 0, 1) := by decide +kernel
theorem dX3_wheelsOrdered_21 : decode cX3_wheelsOrdered 21 = .ok (.getfield 21, 3) := by decide +kernel
theorem dX3_wheelsOrdered_24 : decode cX3_wheelsOrdered 24 = .ok (.iload_n 1, 1) := by decide +kernel
theorem dX3_wheelsOrdered_25 : decode cX3_wheelsOrdered 25 = .ok (.iaload, 1) := by decide +kernel
theorem dX3_wheelsOrdered_26 : decode cX3_wheelsOrdered 26 = .ok (.imul, 1) := by decide +kernel
theorem dX3_wheelsOrdered_27 : decode cX3_wheelsOrdered 27 = .ok (.i2l, 1) := by decide +kernel
theorem dX3_wheelsOrdered_28 : decode cX3_wheelsOrdered 28 = .ok (.invokestatic 48, 3) := by decide +kernel
theorem dX3_wheelsOrdered_31 : decode cX3_wheelsOrdered 31 = .ok (.ireturn, 1) := by decide +kernel
theorem dX3_wheelOrder_0 : decode cX3_wheelOrder 0 = .ok (.aload_n 0, 1) := by decide +kernel
theorem dX3_wheelOrder_1 : decode cX3_wheelOrder 1 = .ok (.iload_n 1, 1) := by decide +kernel
theorem dX3_wheelOrder_2 : decode cX3_wheelOrder 2 = .ok (.invokestatic 104, 3) := by decide +kernel
theorem dX3_wheelOrder_5 : decode cX3_wheelOrder 5 = .ok (.ifCond .ne 10, 3) := by decide +kernel
theorem dX3_wheelOrder_8 : decode cX3_wheelOrder 8 = .ok (.iload_n 2, 1) := by decide +kernel
theorem dX3_wheelOrder_9 : decode cX3_wheelOrder 9 = .ok (.invokestatic 104, 3) := by decide +kernel
theorem dX3_wheelOrder_12 : decode cX3_wheelOrder 12 = .ok (.ifCond .eq 7, 3) := by decide +kernel
theorem dX3_wheelOrder_15 : decode cX3_wheelOrder 15 = .ok (.iconst 1, 1) := by decide +kernel
theorem dX3_wheelOrder_16 : decode cX3_wheelOrder 16 = .ok (.goto 4, 3) := by decide +kernel
theorem dX3_wheelOrder_19 : decode cX3_wheelOrder 19 = .ok (.iconst 0, 1) := by decide +kernel
theorem dX3_wheelOrder_20 : decode cX3_wheelOrder 20 = .ok (.iconst 0, 1) := by decide +kernel
theorem dX3_wheelOrder_21 : decode cX3_wheelOrder 21 = .ok (.invokevirtual 72, 3) := by decide +kernel
theorem dX3_wheelOrder_24 : decode cX3_wheelOrder 24 = .ok (.ifCond .eq 7, 3) := by decide +kernel
theorem dX3_wheelOrder_27 : decode cX3_wheelOrder 27 = .ok (.iconst 0, 1) := by decide +kernel
theorem dX3_wheelOrder_28 : decode cX3_wheelOrder 28 = .ok (.goto 9, 3) := by decide +kernel
theorem dX3_wheelOrder_31 : decode cX3_wheelOrder 31 = .ok (.aload_n 0, 1) := by decide +kernel
theorem dX3_wheelOrder_32 : decode cX3_wheelOrder 32 = .ok (.iload_n 1, 1) := by decide +kernel
theorem dX3_wheelOrder_33 : decode cX3_wheelOrder 33 = .ok (.iload_n 2, 1) := by decide +kernel
theorem dX3_wheelOrder_34 : decode cX3_wheelOrder 34 = .ok (.invokevirtual 185, 3) := by decide +kernel
theorem dX3_wheelOrder_37 : decode cX3_wheelOrder 37 = .ok (.ireturn, 1) := by decide +kernel
theorem dX3_heldAgainst_0 : decode cX3_heldAgainst 0 = .ok (.aload_n 0, 1) := by decide +kernel
theorem dX3_heldAgainst_1 : decode cX3_heldAgainst 1 = .ok (.getfield 18, 3) := by decide +kernel
theorem dX3_heldAgainst_4 : decode cX3_heldAgainst 4 = .ok (.iload_n 1, 1) := by decide +kernel
theorem dX3_heldAgainst_5 : decode cX3_heldAgainst 5 = .ok (.iaload, 1) := by decide +kernel
theorem dX3_heldAgainst_6 : decode cX3_heldAgainst 6 = .ok (.i2l, 1) := by decide +kernel
theorem dX3_heldAgainst_7 : decode cX3_heldAgainst 7 = .ok (.aload_n 0, 1) := by decide +kernel
theorem dX3_heldAgainst_8 : decode cX3_heldAgainst 8 = .ok (.getfield 15, 3) := by decide +kernel
theorem dX3_heldAgainst_11 : decode cX3_heldAgainst 11 = .ok (.iload_n 2, 1) := by decide +kernel
theorem dX3_heldAgainst_12 : decode cX3_heldAgainst 12 = .ok (.iaload, 1) := by decide +kernel
theorem dX3_heldAgainst_13 : decode cX3_heldAgainst 13 = .ok (.invokestatic 58, 3) := by decide +kernel
theorem dX3_heldAgainst_16 : decode cX3_heldAgainst 16 = .ok (.lmul, 1) := by decide +kernel
theorem dX3_heldAgainst_17 : decode cX3_heldAgainst 17 = .ok (.aload_n 0, 1) := by decide +kernel
theorem dX3_heldAgainst_18 : decode cX3_heldAgainst 18 = .ok (.getfield 9, 3) := by decide +kernel
theorem dX3_heldAgainst_21 : decode cX3_heldAgainst 21 = .ok (.iload_n 2, 1) := by decide +kernel
theorem dX3_heldAgainst_22 : decode cX3_heldAgainst 22 = .ok (.iaload, 1) := by decide +kernel
theorem dX3_heldAgainst_23 : decode cX3_heldAgainst 23 = .ok (.i2l, 1) := by decide +kernel
theorem dX3_heldAgainst_24 : decode cX3_heldAgainst 24 = .ok (.aload_n 0, 1) := by decide +kernel
theorem dX3_heldAgainst_25 : decode cX3_heldAgainst 25 = .ok (.getfield 21, 3) := by decide +kernel
theorem dX3_heldAgainst_28 : decode cX3_heldAgainst 28 = .ok (.iload_n 1, 1) := by decide +kernel
theorem dX3_heldAgainst_29 : decode cX3_heldAgainst 29 = .ok (.iaload, 1) := by decide +kernel
theorem dX3_heldAgainst_30 : decode cX3_heldAgainst 30 = .ok (.i2l, 1) := by decide +kernel
theorem dX3_heldAgainst_31 : decode cX3_heldAgainst 31 = .ok (.lmul, 1) := by decide +kernel
theorem dX3_heldAgainst_32 : decode cX3_heldAgainst 32 = .ok (.invokestatic 48, 3) := by decide +kernel
theorem dX3_heldAgainst_35 : decode cX3_heldAgainst 35 = .ok (.ireturn, 1) := by decide +kernel
theorem dX3_against_0 : decode cX3_against 0 = .ok (.aload_n 0, 1) := by decide +kernel
theorem dX3_against_1 : decode cX3_against 1 = .ok (.iload_n 1, 1) := by decide +kernel
theorem dX3_against_2 : decode cX3_against 2 = .ok (.invokestatic 104, 3) := by decide +kernel
theorem dX3_against_5 : decode cX3_against 5 = .ok (.ifCond .ne 10, 3) := by decide +kernel
theorem dX3_against_8 : decode cX3_against 8 = .ok (.iload_n 2, 1) := by decide +kernel
theorem dX3_against_9 : decode cX3_against 9 = .ok (.invokestatic 66, 3) := by decide +kernel
theorem dX3_against_12 : decode cX3_against 12 = .ok (.ifCond .eq 7, 3) := by decide +kernel
theorem dX3_against_15 : decode cX3_against 15 = .ok (.iconst 1, 1) := by decide +kernel
theorem dX3_against_16 : decode cX3_against 16 = .ok (.goto 4, 3) := by decide +kernel
theorem dX3_against_19 : decode cX3_against 19 = .ok (.iconst 0, 1) := by decide +kernel
theorem dX3_against_20 : decode cX3_against 20 = .ok (.iconst 0, 1) := by decide +kernel
theorem dX3_against_21 : decode cX3_against 21 = .ok (.invokevirtual 72, 3) := by decide +kernel
theorem dX3_against_24 : decode cX3_against 24 = .ok (.ifCond .eq 7, 3) := by decide +kernel
theorem dX3_against_27 : decode cX3_against 27 = .ok (.iconst 0, 1) := by decide +kernel
theorem dX3_against_28 : decode cX3_against 28 = .ok (.goto 9, 3) := by decide +kernel
theorem dX3_against_31 : decode cX3_against 31 = .ok (.aload_n 0, 1) := by decide +kernel
theorem dX3_against_32 : decode cX3_against 32 = .ok (.iload_n 1, 1) := by decide +kernel
theorem dX3_against_33 : decode cX3_against 33 = .ok (.iload_n 2, 1) := by decide +kernel
theorem dX3_against_34 : decode cX3_against 34 = .ok (.invokevirtual 188, 3) := by decide +kernel
theorem dX3_against_37 : decode cX3_against 37 = .ok (.ireturn, 1) := by decide +kernel
theorem dX3_house_0 : decode cX3_house 0 = .ok (.aload_n 0, 1) := by decide +kernel
theorem dX3_house_1 : decode cX3_house 1 = .ok (.iload_n 1, 1) := by decide +kernel
theorem dX3_house_2 : decode cX3_house 2 = .ok (.iconst 0, 1) := by decide +kernel
theorem dX3_house_3 : decode cX3_house 3 = .ok (.iconst 3, 1) := by decide +kernel
theorem dX3_house_4 : decode cX3_house 4 = .ok (.invokestatic 34, 3) := by decide +kernel
theorem dX3_house_7 : decode cX3_house 7 = .ok (.iconst 0, 1) := by decide +kernel
theorem dX3_house_8 : decode cX3_house 8 = .ok (.invokevirtual 72, 3) := by decide +kernel
theorem dX3_house_11 : decode cX3_house 11 = .ok (.ifCond .eq 7, 3) := by decide +kernel
theorem dX3_house_14 : decode cX3_house 14 = .ok (.iconst 0, 1) := by decide +kernel
theorem dX3_house_15 : decode cX3_house 15 = .ok (.goto 9, 3) := by decide +kernel
theorem dX3_house_18 : decode cX3_house 18 = .ok (.aload_n 0, 1) := by decide +kernel
theorem dX3_house_19 : decode cX3_house 19 = .ok (.getfield 27, 3) := by decide +kernel
theorem dX3_house_22 : decode cX3_house 22 = .ok (.iload_n 1, 1) := by decide +kernel
theorem dX3_house_23 : decode cX3_house 23 = .ok (.iaload, 1) := by decide +kernel
theorem dX3_house_24 : decode cX3_house 24 = .ok (.ireturn, 1) := by decide +kernel
theorem dX3_knock_0 : decode cX3_knock 0 = .ok (.aload_n 0, 1) := by decide +kernel
theorem dX3_knock_1 : decode cX3_knock 1 = .ok (.iconst 0, 1) := by decide +kernel
theorem dX3_knock_2 : decode cX3_knock 2 = .ok (.putfield 30, 3) := by decide +kernel
theorem dX3_knock_5 : decode cX3_knock 5 = .ok (.aload_n 0, 1) := by decide +kernel
theorem dX3_knock_6 : decode cX3_knock 6 = .ok (.getfield 27, 3) := by decide +kernel
theorem dX3_knock_9 : decode cX3_knock 9 = .ok (.iconst 3, 1) := by decide +kernel
theorem dX3_knock_10 : decode cX3_knock 10 = .ok (.dup2, 1) := by decide +kernel
theorem dX3_knock_11 : decode cX3_knock 11 = .ok (.iaload, 1) := by decide +kernel
theorem dX3_knock_12 : decode cX3_knock 12 = .ok (.iconst 1, 1) := by decide +kernel
theorem dX3_knock_13 : decode cX3_knock 13 = .ok (.iadd, 1) := by decide +kernel
theorem dX3_knock_14 : decode cX3_knock 14 = .ok (.iastore, 1) := by decide +kernel
theorem dX3_knock_15 : decode cX3_knock 15 = .ok (.aload_n 0, 1) := by decide +kernel
theorem dX3_knock_16 : decode cX3_knock 16 = .ok (.getfield 27, 3) := by decide +kernel
theorem dX3_knock_19 : decode cX3_knock 19 = .ok (.iconst 3, 1) := by decide +kernel
theorem dX3_knock_20 : decode cX3_knock 20 = .ok (.iaload, 1) := by decide +kernel
theorem dX3_knock_21 : decode cX3_knock 21 = .ok (.ireturn, 1) := by decide +kernel
theorem dX3_isSoundPair_0 : decode cX3_isSoundPair 0 = .ok (.aload_n 0, 1) := by decide +kernel
theorem dX3_isSoundPair_1 : decode cX3_isSoundPair 1 = .ok (.iload_n 1, 1) := by decide +kernel
theorem dX3_isSoundPair_2 : decode cX3_isSoundPair 2 = .ok (.iconst 3, 1) := by decide +kernel
theorem dX3_isSoundPair_3 : decode cX3_isSoundPair 3 = .ok (.invokevirtual 62, 3) := by decide +kernel
theorem dX3_isSoundPair_6 : decode cX3_isSoundPair 6 = .ok (.lstore_n 3, 1) := by decide +kernel
theorem dX3_isSoundPair_7 : decode cX3_isSoundPair 7 = .ok (.aload_n 0, 1) := by decide +kernel
theorem dX3_isSoundPair_8 : decode cX3_isSoundPair 8 = .ok (.iload_n 2, 1) := by decide +kernel
theorem dX3_isSoundPair_9 : decode cX3_isSoundPair 9 = .ok (.iconst 3, 1) := by decide +kernel
theorem dX3_isSoundPair_10 : decode cX3_isSoundPair 10 = .ok (.invokevirtual 62, 3) := by decide +kernel
theorem dX3_isSoundPair_13 : decode cX3_isSoundPair 13 = .ok (.lstore 5, 2) := by decide +kernel
theorem dX3_isSoundPair_15 : decode cX3_isSoundPair 15 = .ok (.lload_n 3, 1) := by decide +kernel
theorem dX3_isSoundPair_16 : decode cX3_isSoundPair 16 = .ok (.lload 5, 2) := by decide +kernel
theorem dX3_isSoundPair_18 : decode cX3_isSoundPair 18 = .ok (.ladd, 1) := by decide +kernel
theorem dX3_isSoundPair_19 : decode cX3_isSoundPair 19 = .ok (.lload 5, 2) := by decide +kernel
theorem dX3_isSoundPair_21 : decode cX3_isSoundPair 21 = .ok (.lsub, 1) := by decide +kernel
theorem dX3_isSoundPair_22 : decode cX3_isSoundPair 22 = .ok (.lload_n 3, 1) := by decide +kernel
theorem dX3_isSoundPair_23 : decode cX3_isSoundPair 23 = .ok (.lcmp, 1) := by decide +kernel
theorem dX3_isSoundPair_24 : decode cX3_isSoundPair 24 = .ok (.ifCond .ne 41, 3) := by decide +kernel
theorem dX3_isSoundPair_27 : decode cX3_isSoundPair 27 = .ok (.aload_n 0, 1) := by decide +kernel
theorem dX3_isSoundPair_28 : decode cX3_isSoundPair 28 = .ok (.iload_n 1, 1) := by decide +kernel
theorem dX3_isSoundPair_29 : decode cX3_isSoundPair 29 = .ok (.iload_n 2, 1) := by decide +kernel
theorem dX3_isSoundPair_30 : decode cX3_isSoundPair 30 = .ok (.invokevirtual 101, 3) := by decide +kernel
theorem dX3_isSoundPair_33 : decode cX3_isSoundPair 33 = .ok (.aload_n 0, 1) := by decide +kernel
theorem dX3_isSoundPair_34 : decode cX3_isSoundPair 34 = .ok (.iload_n 2, 1) := by decide +kernel
theorem dX3_isSoundPair_35 : decode cX3_isSoundPair 35 = .ok (.iload_n 1, 1) := by decide +kernel
theorem dX3_isSoundPair_36 : decode cX3_isSoundPair 36 = .ok (.invokevirtual 101, 3) := by decide +kernel
theorem dX3_isSoundPair_39 : decode cX3_isSoundPair 39 = .ok (.ineg, 1) := by decide +kernel
theorem dX3_isSoundPair_40 : decode cX3_isSoundPair 40 = .ok (.if_icmp .ne 25, 3) := by decide +kernel
theorem dX3_isSoundPair_43 : decode cX3_isSoundPair 43 = .ok (.aload_n 0, 1) := by decide +kernel
theorem dX3_isSoundPair_44 : decode cX3_isSoundPair 44 = .ok (.iload_n 1, 1) := by decide +kernel
theorem dX3_isSoundPair_45 : decode cX3_isSoundPair 45 = .ok (.iload_n 2, 1) := by decide +kernel
theorem dX3_isSoundPair_46 : decode cX3_isSoundPair 46 = .ok (.invokevirtual 132, 3) := by decide +kernel
theorem dX3_isSoundPair_49 : decode cX3_isSoundPair 49 = .ok (.ifCond .eq 12, 3) := by decide +kernel
theorem dX3_isSoundPair_52 : decode cX3_isSoundPair 52 = .ok (.aload_n 0, 1) := by decide +kernel
theorem dX3_isSoundPair_53 : decode cX3_isSoundPair 53 = .ok (.iload_n 1, 1) := by decide +kernel
theorem dX3_isSoundPair_54 : decode cX3_isSoundPair 54 = .ok (.iload_n 2, 1) := by decide +kernel
theorem dX3_isSoundPair_55 : decode cX3_isSoundPair 55 = .ok (.invokevirtual 101, 3) := by decide +kernel
theorem dX3_isSoundPair_58 : decode cX3_isSoundPair 58 = .ok (.ifCond .ne 7, 3) := by decide +kernel
theorem dX3_isSoundPair_61 : decode cX3_isSoundPair 61 = .ok (.iconst 1, 1) := by decide +kernel
theorem dX3_isSoundPair_62 : decode cX3_isSoundPair 62 = .ok (.goto 4, 3) := by decide +kernel
theorem dX3_isSoundPair_65 : decode cX3_isSoundPair 65 = .ok (.iconst 0, 1) := by decide +kernel
theorem dX3_isSoundPair_66 : decode cX3_isSoundPair 66 = .ok (.ireturn, 1) := by decide +kernel
theorem dX3_allNines_0 : decode cX3_allNines 0 = .ok (.aload_n 0, 1) := by decide +kernel
theorem dX3_allNines_1 : decode cX3_allNines 1 = .ok (.iload_n 1, 1) := by decide +kernel
theorem dX3_allNines_2 : decode cX3_allNines 2 = .ok (.invokevirtual 146, 3) := by decide +kernel
theorem dX3_allNines_5 : decode cX3_allNines 5 = .ok (.iconst 2, 1) := by decide +kernel
theorem dX3_allNines_6 : decode cX3_allNines 6 = .ok (.iadd, 1) := by decide +kernel
theorem dX3_allNines_7 : decode cX3_allNines 7 = .ok (.newarray .int, 2) := by decide +kernel
theorem dX3_allNines_9 : decode cX3_allNines 9 = .ok (.astore_n 2, 1) := by decide +kernel
theorem dX3_allNines_10 : decode cX3_allNines 10 = .ok (.aload_n 2, 1) := by decide +kernel
theorem dX3_allNines_11 : decode cX3_allNines 11 = .ok (.iconst 0, 1) := by decide +kernel
theorem dX3_allNines_12 : decode cX3_allNines 12 = .ok (.aload_n 0, 1) := by decide +kernel
theorem dX3_allNines_13 : decode cX3_allNines 13 = .ok (.getfield 18, 3) := by decide +kernel
theorem dX3_allNines_16 : decode cX3_allNines 16 = .ok (.iload_n 1, 1) := by decide +kernel
theorem dX3_allNines_17 : decode cX3_allNines 17 = .ok (.iaload, 1) := by decide +kernel
theorem dX3_allNines_18 : decode cX3_allNines 18 = .ok (.bipush 10, 2) := by decide +kernel
theorem dX3_allNines_20 : decode cX3_allNines 20 = .ok (.idiv, 1) := by decide +kernel
theorem dX3_allNines_21 : decode cX3_allNines 21 = .ok (.iastore, 1) := by decide +kernel
theorem dX3_allNines_22 : decode cX3_allNines 22 = .ok (.aload_n 2, 1) := by decide +kernel
theorem dX3_allNines_23 : decode cX3_allNines 23 = .ok (.iconst 1, 1) := by decide +kernel
theorem dX3_allNines_24 : decode cX3_allNines 24 = .ok (.aload_n 0, 1) := by decide +kernel
theorem dX3_allNines_25 : decode cX3_allNines 25 = .ok (.getfield 18, 3) := by decide +kernel
theorem dX3_allNines_28 : decode cX3_allNines 28 = .ok (.iload_n 1, 1) := by decide +kernel
theorem dX3_allNines_29 : decode cX3_allNines 29 = .ok (.iaload, 1) := by decide +kernel
theorem dX3_allNines_30 : decode cX3_allNines 30 = .ok (.bipush 10, 2) := by decide +kernel
theorem dX3_allNines_32 : decode cX3_allNines 32 = .ok (.irem, 1) := by decide +kernel
theorem dX3_allNines_33 : decode cX3_allNines 33 = .ok (.iastore, 1) := by decide +kernel
theorem dX3_allNines_34 : decode cX3_allNines 34 = .ok (.aload_n 0, 1) := by decide +kernel
theorem dX3_allNines_35 : decode cX3_allNines 35 = .ok (.getfield 18, 3) := by decide +kernel
theorem dX3_allNines_38 : decode cX3_allNines 38 = .ok (.iload_n 1, 1) := by decide +kernel
theorem dX3_allNines_39 : decode cX3_allNines 39 = .ok (.iaload, 1) := by decide +kernel
theorem dX3_allNines_40 : decode cX3_allNines 40 = .ok (.istore_n 3, 1) := by decide +kernel
theorem dX3_allNines_41 : decode cX3_allNines 41 = .ok (.aload_n 2, 1) := by decide +kernel
theorem dX3_allNines_42 : decode cX3_allNines 42 = .ok (.arraylength, 1) := by decide +kernel
theorem dX3_allNines_43 : decode cX3_allNines 43 = .ok (.iconst 1, 1) := by decide +kernel
theorem dX3_allNines_44 : decode cX3_allNines 44 = .ok (.isub, 1) := by decide +kernel
theorem dX3_allNines_45 : decode cX3_allNines 45 = .ok (.istore 4, 2) := by decide +kernel
theorem dX3_allNines_47 : decode cX3_allNines 47 = .ok (.iload 4, 2) := by decide +kernel
theorem dX3_allNines_49 : decode cX3_allNines 49 = .ok (.ifCond .lt 47, 3) := by decide +kernel
theorem dX3_allNines_52 : decode cX3_allNines 52 = .ok (.aload_n 2, 1) := by decide +kernel
theorem dX3_allNines_53 : decode cX3_allNines 53 = .ok (.iload 4, 2) := by decide +kernel
theorem dX3_allNines_55 : decode cX3_allNines 55 = .ok (.dup2, 1) := by decide +kernel
theorem dX3_allNines_56 : decode cX3_allNines 56 = .ok (.iaload, 1) := by decide +kernel
theorem dX3_allNines_57 : decode cX3_allNines 57 = .ok (.iload_n 3, 1) := by decide +kernel
theorem dX3_allNines_58 : decode cX3_allNines 58 = .ok (.bipush 10, 2) := by decide +kernel
theorem dX3_allNines_60 : decode cX3_allNines 60 = .ok (.irem, 1) := by decide +kernel
theorem dX3_allNines_61 : decode cX3_allNines 61 = .ok (.isub, 1) := by decide +kernel
theorem dX3_allNines_62 : decode cX3_allNines 62 = .ok (.iastore, 1) := by decide +kernel
theorem dX3_allNines_63 : decode cX3_allNines 63 = .ok (.iload_n 3, 1) := by decide +kernel
theorem dX3_allNines_64 : decode cX3_allNines 64 = .ok (.bipush 10, 2) := by decide +kernel
theorem dX3_allNines_66 : decode cX3_allNines 66 = .ok (.idiv, 1) := by decide +kernel
theorem dX3_allNines_67 : decode cX3_allNines 67 = .ok (.istore_n 3, 1) := by decide +kernel
theorem dX3_allNines_68 : decode cX3_allNines 68 = .ok (.aload_n 2, 1) := by decide +kernel
theorem dX3_allNines_69 : decode cX3_allNines 69 = .ok (.iload 4, 2) := by decide +kernel
theorem dX3_allNines_71 : decode cX3_allNines 71 = .ok (.iaload, 1) := by decide +kernel
theorem dX3_allNines_72 : decode cX3_allNines 72 = .ok (.ifCond .lt 6, 3) := by decide +kernel
theorem dX3_allNines_75 : decode cX3_allNines 75 = .ok (.goto 15, 3) := by decide +kernel
theorem dX3_allNines_78 : decode cX3_allNines 78 = .ok (.aload_n 2, 1) := by decide +kernel
theorem dX3_allNines_79 : decode cX3_allNines 79 = .ok (.iload 4, 2) := by decide +kernel
theorem dX3_allNines_81 : decode cX3_allNines 81 = .ok (.dup2, 1) := by decide +kernel
theorem dX3_allNines_82 : decode cX3_allNines 82 = .ok (.iaload, 1) := by decide +kernel
theorem dX3_allNines_83 : decode cX3_allNines 83 = .ok (.bipush 10, 2) := by decide +kernel
theorem dX3_allNines_85 : decode cX3_allNines 85 = .ok (.iadd, 1) := by decide +kernel
theorem dX3_allNines_86 : decode cX3_allNines 86 = .ok (.iastore, 1) := by decide +kernel
theorem dX3_allNines_87 : decode cX3_allNines 87 = .ok (.iinc 3 1, 3) := by decide +kernel
theorem dX3_allNines_90 : decode cX3_allNines 90 = .ok (.iinc 4 (-1), 3) := by decide +kernel
theorem dX3_allNines_93 : decode cX3_allNines 93 = .ok (.goto (-46), 3) := by decide +kernel
theorem dX3_allNines_96 : decode cX3_allNines 96 = .ok (.aload_n 2, 1) := by decide +kernel
theorem dX3_allNines_97 : decode cX3_allNines 97 = .ok (.areturn, 1) := by decide +kernel
theorem dX3_isSoundWheel_0 : decode cX3_isSoundWheel 0 = .ok (.aload_n 0, 1) := by decide +kernel
theorem dX3_isSoundWheel_1 : decode cX3_isSoundWheel 1 = .ok (.iload_n 1, 1) := by decide +kernel
theorem dX3_isSoundWheel_2 : decode cX3_isSoundWheel 2 = .ok (.invokevirtual 146, 3) := by decide +kernel
theorem dX3_isSoundWheel_5 : decode cX3_isSoundWheel 5 = .ok (.istore_n 2, 1) := by decide +kernel
theorem dX3_isSoundWheel_6 : decode cX3_isSoundWheel 6 = .ok (.iconst 1, 1) := by decide +kernel
theorem dX3_isSoundWheel_7 : decode cX3_isSoundWheel 7 = .ok (.istore_n 3, 1) := by decide +kernel
theorem dX3_isSoundWheel_8 : decode cX3_isSoundWheel 8 = .ok (.iload_n 3, 1) := by decide +kernel
theorem dX3_isSoundWheel_9 : decode cX3_isSoundWheel 9 = .ok (.iload_n 2, 1) := by decide +kernel
theorem dX3_isSoundWheel_10 : decode cX3_isSoundWheel 10 = .ok (.if_icmp .gt 63, 3) := by decide +kernel
theorem dX3_isSoundWheel_13 : decode cX3_isSoundWheel 13 = .ok (.iload_n 2, 1) := by decide +kernel
theorem dX3_isSoundWheel_14 : decode cX3_isSoundWheel 14 = .ok (.iload_n 3, 1) := by decide +kernel
theorem dX3_isSoundWheel_15 : decode cX3_isSoundWheel 15 = .ok (.irem, 1) := by decide +kernel
theorem dX3_isSoundWheel_16 : decode cX3_isSoundWheel 16 = .ok (.ifCond .eq 6, 3) := by decide +kernel
theorem dX3_isSoundWheel_19 : decode cX3_isSoundWheel 19 = .ok (.goto 48, 3) := by decide +kernel
theorem dX3_isSoundWheel_22 : decode cX3_isSoundWheel 22 = .ok (.aload_n 0, 1) := by decide +kernel
theorem dX3_isSoundWheel_23 : decode cX3_isSoundWheel 23 = .ok (.getfield 18, 3) := by decide +kernel
theorem dX3_isSoundWheel_26 : decode cX3_isSoundWheel 26 = .ok (.iload_n 1, 1) := by decide +kernel
theorem dX3_isSoundWheel_27 : decode cX3_isSoundWheel 27 = .ok (.iaload, 1) := by decide +kernel
theorem dX3_isSoundWheel_28 : decode cX3_isSoundWheel 28 = .ok (.aload_n 0, 1) := by decide +kernel
theorem dX3_isSoundWheel_29 : decode cX3_isSoundWheel 29 = .ok (.getfield 21, 3) := by decide +kernel
theorem dX3_isSoundWheel_32 : decode cX3_isSoundWheel 32 = .ok (.iload_n 1, 1) := by decide +kernel
theorem dX3_isSoundWheel_33 : decode cX3_isSoundWheel 33 = .ok (.iaload, 1) := by decide +kernel
theorem dX3_isSoundWheel_34 : decode cX3_isSoundWheel 34 = .ok (.iload_n 3, 1) := by decide +kernel
theorem dX3_isSoundWheel_35 : decode cX3_isSoundWheel 35 = .ok (.invokestatic 149, 3) := by decide +kernel
theorem dX3_isSoundWheel_38 : decode cX3_isSoundWheel 38 = .ok (.aload_n 0, 1) := by decide +kernel
theorem dX3_isSoundWheel_39 : decode cX3_isSoundWheel 39 = .ok (.getfield 18, 3) := by decide +kernel
theorem dX3_isSoundWheel_42 : decode cX3_isSoundWheel 42 = .ok (.iload_n 1, 1) := by decide +kernel
theorem dX3_isSoundWheel_43 : decode cX3_isSoundWheel 43 = .ok (.iaload, 1) := by decide +kernel
theorem dX3_isSoundWheel_44 : decode cX3_isSoundWheel 44 = .ok (.if_icmp .ne 7, 3) := by decide +kernel
theorem dX3_isSoundWheel_47 : decode cX3_isSoundWheel 47 = .ok (.iconst 1, 1) := by decide +kernel
theorem dX3_isSoundWheel_48 : decode cX3_isSoundWheel 48 = .ok (.goto 4, 3) := by decide +kernel
theorem dX3_isSoundWheel_51 : decode cX3_isSoundWheel 51 = .ok (.iconst 0, 1) := by decide +kernel
theorem dX3_isSoundWheel_52 : decode cX3_isSoundWheel 52 = .ok (.iload_n 3, 1) := by decide +kernel
theorem dX3_isSoundWheel_53 : decode cX3_isSoundWheel 53 = .ok (.iload_n 2, 1) := by decide +kernel
theorem dX3_isSoundWheel_54 : decode cX3_isSoundWheel 54 = .ok (.if_icmp .ne 7, 3) := by decide +kernel
theorem dX3_isSoundWheel_57 : decode cX3_isSoundWheel 57 = .ok (.iconst 1, 1) := by decide +kernel
theorem dX3_isSoundWheel_58 : decode cX3_isSoundWheel 58 = .ok (.goto 4, 3) := by decide +kernel
theorem dX3_isSoundWheel_61 : decode cX3_isSoundWheel 61 = .ok (.iconst 0, 1) := by decide +kernel
theorem dX3_isSoundWheel_62 : decode cX3_isSoundWheel 62 = .ok (.if_icmp .eq 5, 3) := by decide +kernel
theorem dX3_isSoundWheel_65 : decode cX3_isSoundWheel 65 = .ok (.iconst 0, 1) := by decide +kernel
theorem dX3_isSoundWheel_66 : decode cX3_isSoundWheel 66 = .ok (.ireturn, 1) := by decide +kernel
theorem dX3_isSoundWheel_67 : decode cX3_isSoundWheel 67 = .ok (.iinc 3 1, 3) := by decide +kernel
theorem dX3_isSoundWheel_70 : decode cX3_isSoundWheel 70 = .ok (.goto (-62), 3) := by decide +kernel
theorem dX3_isSoundWheel_73 : decode cX3_isSoundWheel 73 = .ok (.aload_n 0, 1) := by decide +kernel
theorem dX3_isSoundWheel_74 : decode cX3_isSoundWheel 74 = .ok (.iload_n 1, 1) := by decide +kernel
theorem dX3_isSoundWheel_75 : decode cX3_isSoundWheel 75 = .ok (.invokevirtual 166, 3) := by decide +kernel
theorem dX3_isSoundWheel_78 : decode cX3_isSoundWheel 78 = .ok (.aload_n 0, 1) := by decide +kernel
theorem dX3_isSoundWheel_79 : decode cX3_isSoundWheel 79 = .ok (.iload_n 1, 1) := by decide +kernel
theorem dX3_isSoundWheel_80 : decode cX3_isSoundWheel 80 = .ok (.invokevirtual 191, 3) := by decide +kernel
theorem dX3_isSoundWheel_83 : decode cX3_isSoundWheel 83 = .ok (.invokestatic 178, 3) := by decide +kernel
theorem dX3_isSoundWheel_86 : decode cX3_isSoundWheel 86 = .ok (.ifCond .ne 5, 3) := by decide +kernel
theorem dX3_isSoundWheel_89 : decode cX3_isSoundWheel 89 = .ok (.iconst 0, 1) := by decide +kernel
theorem dX3_isSoundWheel_90 : decode cX3_isSoundWheel 90 = .ok (.ireturn, 1) := by decide +kernel
theorem dX3_isSoundWheel_91 : decode cX3_isSoundWheel 91 = .ok (.aload_n 0, 1) := by decide +kernel
theorem dX3_isSoundWheel_92 : decode cX3_isSoundWheel 92 = .ok (.iload_n 1, 1) := by decide +kernel
theorem dX3_isSoundWheel_93 : decode cX3_isSoundWheel 93 = .ok (.iconst 0, 1) := by decide +kernel
theorem dX3_isSoundWheel_94 : decode cX3_isSoundWheel 94 = .ok (.iconst 5, 1) := by decide +kernel
theorem dX3_isSoundWheel_95 : decode cX3_isSoundWheel 95 = .ok (.bipush 6, 2) := by decide +kernel
theorem dX3_isSoundWheel_97 : decode cX3_isSoundWheel 97 = .ok (.invokevirtual 107, 3) := by decide +kernel
theorem dX3_isSoundWheel_100 : decode cX3_isSoundWheel 100 = .ok (.lstore_n 3, 1) := by decide +kernel
theorem dX3_isSoundWheel_101 : decode cX3_isSoundWheel 101 = .ok (.aload_n 0, 1) := by decide +kernel
theorem dX3_isSoundWheel_102 : decode cX3_isSoundWheel 102 = .ok (.iload_n 1, 1) := by decide +kernel
theorem dX3_isSoundWheel_103 : decode cX3_isSoundWheel 103 = .ok (.iconst 0, 1) := by decide +kernel
theorem dX3_isSoundWheel_104 : decode cX3_isSoundWheel 104 = .ok (.iconst 5, 1) := by decide +kernel
theorem dX3_isSoundWheel_105 : decode cX3_isSoundWheel 105 = .ok (.iconst 0, 1) := by decide +kernel
theorem dX3_isSoundWheel_106 : decode cX3_isSoundWheel 106 = .ok (.invokevirtual 107, 3) := by decide +kernel
theorem dX3_isSoundWheel_109 : decode cX3_isSoundWheel 109 = .ok (.aload_n 0, 1) := by decide +kernel
theorem dX3_isSoundWheel_110 : decode cX3_isSoundWheel 110 = .ok (.iload_n 1, 1) := by decide +kernel
theorem dX3_isSoundWheel_111 : decode cX3_isSoundWheel 111 = .ok (.iconst 0, 1) := by decide +kernel
theorem dX3_isSoundWheel_112 : decode cX3_isSoundWheel 112 = .ok (.iconst 5, 1) := by decide +kernel
theorem dX3_isSoundWheel_113 : decode cX3_isSoundWheel 113 = .ok (.iconst 1, 1) := by decide +kernel
theorem dX3_isSoundWheel_114 : decode cX3_isSoundWheel 114 = .ok (.invokevirtual 107, 3) := by decide +kernel
theorem dX3_isSoundWheel_117 : decode cX3_isSoundWheel 117 = .ok (.lsub, 1) := by decide +kernel
theorem dX3_isSoundWheel_118 : decode cX3_isSoundWheel 118 = .ok (.aload_n 0, 1) := by decide +kernel
theorem dX3_isSoundWheel_119 : decode cX3_isSoundWheel 119 = .ok (.getfield 18, 3) := by decide +kernel
theorem dX3_isSoundWheel_122 : decode cX3_isSoundWheel 122 = .ok (.iload_n 1, 1) := by decide +kernel
theorem dX3_isSoundWheel_123 : decode cX3_isSoundWheel 123 = .ok (.iaload, 1) := by decide +kernel
theorem dX3_isSoundWheel_124 : decode cX3_isSoundWheel 124 = .ok (.ifCond .ne 7, 3) := by decide +kernel
theorem dX3_isSoundWheel_127 : decode cX3_isSoundWheel 127 = .ok (.iconst 0, 1) := by decide +kernel
theorem dX3_isSoundWheel_128 : decode cX3_isSoundWheel 128 = .ok (.goto 4, 3) := by decide +kernel
theorem dX3_isSoundWheel_131 : decode cX3_isSoundWheel 131 = .ok (.iconst 1, 1) := by decide +kernel
theorem dX3_isSoundWheel_132 : decode cX3_isSoundWheel 132 = .ok (.i2l, 1) := by decide +kernel
theorem dX3_isSoundWheel_133 : decode cX3_isSoundWheel 133 = .ok (.lcmp, 1) := by decide +kernel
theorem dX3_isSoundWheel_134 : decode cX3_isSoundWheel 134 = .ok (.ifCond .ne 33, 3) := by decide +kernel
theorem dX3_isSoundWheel_137 : decode cX3_isSoundWheel 137 = .ok (.aload_n 0, 1) := by decide +kernel
theorem dX3_isSoundWheel_138 : decode cX3_isSoundWheel 138 = .ok (.iload_n 1, 1) := by decide +kernel
theorem dX3_isSoundWheel_139 : decode cX3_isSoundWheel 139 = .ok (.iconst 0, 1) := by decide +kernel
theorem dX3_isSoundWheel_140 : decode cX3_isSoundWheel 140 = .ok (.iconst 5, 1) := by decide +kernel
theorem dX3_isSoundWheel_141 : decode cX3_isSoundWheel 141 = .ok (.iconst 4, 1) := by decide +kernel
theorem dX3_isSoundWheel_142 : decode cX3_isSoundWheel 142 = .ok (.invokevirtual 107, 3) := by decide +kernel
theorem dX3_isSoundWheel_145 : decode cX3_isSoundWheel 145 = .ok (.lload_n 3, 1) := by decide +kernel
theorem dX3_isSoundWheel_146 : decode cX3_isSoundWheel 146 = .ok (.lcmp, 1) := by decide +kernel
theorem dX3_isSoundWheel_147 : decode cX3_isSoundWheel 147 = .ok (.ifCond .ne 20, 3) := by decide +kernel
theorem dX3_isSoundWheel_150 : decode cX3_isSoundWheel 150 = .ok (.aload_n 0, 1) := by decide +kernel
theorem dX3_isSoundWheel_151 : decode cX3_isSoundWheel 151 = .ok (.iload_n 1, 1) := by decide +kernel
theorem dX3_isSoundWheel_152 : decode cX3_isSoundWheel 152 = .ok (.iconst 0, 1) := by decide +kernel
theorem dX3_isSoundWheel_153 : decode cX3_isSoundWheel 153 = .ok (.iconst 5, 1) := by decide +kernel
theorem dX3_isSoundWheel_154 : decode cX3_isSoundWheel 154 = .ok (.iconst 5, 1) := by decide +kernel
theorem dX3_isSoundWheel_155 : decode cX3_isSoundWheel 155 = .ok (.invokevirtual 107, 3) := by decide +kernel
theorem dX3_isSoundWheel_158 : decode cX3_isSoundWheel 158 = .ok (.lload_n 3, 1) := by decide +kernel
theorem dX3_isSoundWheel_159 : decode cX3_isSoundWheel 159 = .ok (.lcmp, 1) := by decide +kernel
theorem dX3_isSoundWheel_160 : decode cX3_isSoundWheel 160 = .ok (.ifCond .ne 7, 3) := by decide +kernel
theorem dX3_isSoundWheel_163 : decode cX3_isSoundWheel 163 = .ok (.iconst 1, 1) := by decide +kernel
theorem dX3_isSoundWheel_164 : decode cX3_isSoundWheel 164 = .ok (.goto 4, 3) := by decide +kernel
theorem dX3_isSoundWheel_167 : decode cX3_isSoundWheel 167 = .ok (.iconst 0, 1) := by decide +kernel
theorem dX3_isSoundWheel_168 : decode cX3_isSoundWheel 168 = .ok (.ireturn, 1) := by decide +kernel
theorem dX3_isWhole_0 : decode cX3_isWhole 0 = .ok (.iconst 0, 1) := by decide +kernel
theorem dX3_isWhole_1 : decode cX3_isWhole 1 = .ok (.istore_n 1, 1) := by decide +kernel
theorem dX3_isWhole_2 : decode cX3_isWhole 2 = .ok (.iload_n 1, 1) := by decide +kernel
theorem dX3_isWhole_3 : decode cX3_isWhole 3 = .ok (.iconst 4, 1) := by decide +kernel
theorem dX3_isWhole_4 : decode cX3_isWhole 4 = .ok (.if_icmp .ge 66, 3) := by decide +kernel
theorem dX3_isWhole_7 : decode cX3_isWhole 7 = .ok (.aload_n 0, 1) := by decide +kernel
theorem dX3_isWhole_8 : decode cX3_isWhole 8 = .ok (.getfield 9, 3) := by decide +kernel
theorem dX3_isWhole_11 : decode cX3_isWhole 11 = .ok (.iload_n 1, 1) := by decide +kernel
theorem dX3_isWhole_12 : decode cX3_isWhole 12 = .ok (.iaload, 1) := by decide +kernel
theorem dX3_isWhole_13 : decode cX3_isWhole 13 = .ok (.i2l, 1) := by decide +kernel
theorem dX3_isWhole_14 : decode cX3_isWhole 14 = .ok (.invokestatic 40, 3) := by decide +kernel
theorem dX3_isWhole_17 : decode cX3_isWhole 17 = .ok (.ldc2_w 52, 3) := by decide +kernel
theorem dX3_isWhole_20 : decode cX3_isWhole 20 = .ok (.lcmp, 1) := by decide +kernel
theorem dX3_isWhole_21 : decode cX3_isWhole 21 = .ok (.ifCond .gt 17, 3) := by decide +kernel
theorem dX3_isWhole_24 : decode cX3_isWhole 24 = .ok (.aload_n 0, 1) := by decide +kernel
theorem dX3_isWhole_25 : decode cX3_isWhole 25 = .ok (.getfield 15, 3) := by decide +kernel
theorem dX3_isWhole_28 : decode cX3_isWhole 28 = .ok (.iload_n 1, 1) := by decide +kernel
theorem dX3_isWhole_29 : decode cX3_isWhole 29 = .ok (.iaload, 1) := by decide +kernel
theorem dX3_isWhole_30 : decode cX3_isWhole 30 = .ok (.iconst 0, 1) := by decide +kernel
theorem dX3_isWhole_31 : decode cX3_isWhole 31 = .ok (.iconst 3, 1) := by decide +kernel
theorem dX3_isWhole_32 : decode cX3_isWhole 32 = .ok (.invokestatic 34, 3) := by decide +kernel
theorem dX3_isWhole_35 : decode cX3_isWhole 35 = .ok (.ifCond .eq 5, 3) := by decide +kernel
theorem dX3_isWhole_38 : decode cX3_isWhole 38 = .ok (.iconst 0, 1) := by decide +kernel
theorem dX3_isWhole_39 : decode cX3_isWhole 39 = .ok (.ireturn, 1) := by decide +kernel
theorem dX3_isWhole_40 : decode cX3_isWhole 40 = .ok (.iconst 0, 1) := by decide +kernel
theorem dX3_isWhole_41 : decode cX3_isWhole 41 = .ok (.istore_n 2, 1) := by decide +kernel
theorem dX3_isWhole_42 : decode cX3_isWhole 42 = .ok (.iload_n 2, 1) := by decide +kernel
theorem dX3_isWhole_43 : decode cX3_isWhole 43 = .ok (.iconst 4, 1) := by decide +kernel
theorem dX3_isWhole_44 : decode cX3_isWhole 44 = .ok (.if_icmp .ge 20, 3) := by decide +kernel
theorem dX3_isWhole_47 : decode cX3_isWhole 47 = .ok (.aload_n 0, 1) := by decide +kernel
theorem dX3_isWhole_48 : decode cX3_isWhole 48 = .ok (.iload_n 1, 1) := by decide +kernel
theorem dX3_isWhole_49 : decode cX3_isWhole 49 = .ok (.iload_n 2, 1) := by decide +kernel
theorem dX3_isWhole_50 : decode cX3_isWhole 50 = .ok (.invokevirtual 194, 3) := by decide +kernel
theorem dX3_isWhole_53 : decode cX3_isWhole 53 = .ok (.ifCond .ne 5, 3) := by decide +kernel
theorem dX3_isWhole_56 : decode cX3_isWhole 56 = .ok (.iconst 0, 1) := by decide +kernel
theorem dX3_isWhole_57 : decode cX3_isWhole 57 = .ok (.ireturn, 1) := by decide +kernel
theorem dX3_isWhole_58 : decode cX3_isWhole 58 = .ok (.iinc 2 1, 3) := by decide +kernel
theorem dX3_isWhole_61 : decode cX3_isWhole 61 = .ok (.goto (-19), 3) := by decide +kernel
theorem dX3_isWhole_64 : decode cX3_isWhole 64 = .ok (.iinc 1 1, 3) := by decide +kernel
theorem dX3_isWhole_67 : decode cX3_isWhole 67 = .ok (.goto (-65), 3) := by decide +kernel
theorem dX3_isWhole_70 : decode cX3_isWhole 70 = .ok (.iconst 0, 1) := by decide +kernel
theorem dX3_isWhole_71 : decode cX3_isWhole 71 = .ok (.istore_n 1, 1) := by decide +kernel
theorem dX3_isWhole_72 : decode cX3_isWhole 72 = .ok (.iload_n 1, 1) := by decide +kernel
theorem dX3_isWhole_73 : decode cX3_isWhole 73 = .ok (.iconst 3, 1) := by decide +kernel
theorem dX3_isWhole_74 : decode cX3_isWhole 74 = .ok (.if_icmp .ge 19, 3) := by decide +kernel
theorem dX3_isWhole_77 : decode cX3_isWhole 77 = .ok (.aload_n 0, 1) := by decide +kernel
theorem dX3_isWhole_78 : decode cX3_isWhole 78 = .ok (.iload_n 1, 1) := by decide +kernel
theorem dX3_isWhole_79 : decode cX3_isWhole 79 = .ok (.invokevirtual 197, 3) := by decide +kernel
theorem dX3_isWhole_82 : decode cX3_isWhole 82 = .ok (.ifCond .ne 5, 3) := by decide +kernel
theorem dX3_isWhole_85 : decode cX3_isWhole 85 = .ok (.iconst 0, 1) := by decide +kernel
theorem dX3_isWhole_86 : decode cX3_isWhole 86 = .ok (.ireturn, 1) := by decide +kernel
theorem dX3_isWhole_87 : decode cX3_isWhole 87 = .ok (.iinc 1 1, 3) := by decide +kernel
theorem dX3_isWhole_90 : decode cX3_isWhole 90 = .ok (.goto (-18), 3) := by decide +kernel
theorem dX3_isWhole_93 : decode cX3_isWhole 93 = .ok (.iconst 1, 1) := by decide +kernel
theorem dX3_isWhole_94 : decode cX3_isWhole 94 = .ok (.ireturn, 1) := by decide +kernel
theorem dX3_isSound_0 : decode cX3_isSound 0 = .ok (.aload_n 0, 1) := by decide +kernel
theorem dX3_isSound_1 : decode cX3_isSound 1 = .ok (.iconst 0, 1) := by decide +kernel
theorem dX3_isSound_2 : decode cX3_isSound 2 = .ok (.putfield 30, 3) := by decide +kernel
theorem dX3_isSound_5 : decode cX3_isSound 5 = .ok (.aload_n 0, 1) := by decide +kernel
theorem dX3_isSound_6 : decode cX3_isSound 6 = .ok (.invokevirtual 200, 3) := by decide +kernel
theorem dX3_isSound_9 : decode cX3_isSound 9 = .ok (.ireturn, 1) := by decide +kernel
theorem dX3_add__0 : decode cX3_add_ 0 = .ok (.lload_n 0, 1) := by decide +kernel
theorem dX3_add__1 : decode cX3_add_ 1 = .ok (.ldc2_w 204, 3) := by decide +kernel
theorem dX3_add__4 : decode cX3_add_ 4 = .ok (.lmul, 1) := by decide +kernel
theorem dX3_add__5 : decode cX3_add_ 5 = .ok (.lload_n 2, 1) := by decide +kernel
theorem dX3_add__6 : decode cX3_add_ 6 = .ok (.ladd, 1) := by decide +kernel
theorem dX3_add__7 : decode cX3_add_ 7 = .ok (.lreturn, 1) := by decide +kernel
theorem dX3_digest_0 : decode cX3_digest 0 = .ok (.aload_n 0, 1) := by decide +kernel
theorem dX3_digest_1 : decode cX3_digest 1 = .ok (.iconst 0, 1) := by decide +kernel
theorem dX3_digest_2 : decode cX3_digest 2 = .ok (.putfield 30, 3) := by decide +kernel
theorem dX3_digest_5 : decode cX3_digest 5 = .ok (.ldc2_w 206, 3) := by decide +kernel
theorem dX3_digest_8 : decode cX3_digest 8 = .ok (.lstore_n 1, 1) := by decide +kernel
theorem dX3_digest_9 : decode cX3_digest 9 = .ok (.iconst 0, 1) := by decide +kernel
theorem dX3_digest_10 : decode cX3_digest 10 = .ok (.istore_n 3, 1) := by decide +kernel
theorem dX3_digest_11 : decode cX3_digest 11 = .ok (.iload_n 3, 1) := by decide +kernel
theorem dX3_digest_12 : decode cX3_digest 12 = .ok (.iconst 4, 1) := by decide +kernel
theorem dX3_digest_13 : decode cX3_digest 13 = .ok (.if_icmp .ge 60, 3) := by decide +kernel
theorem dX3_digest_16 : decode cX3_digest 16 = .ok (.lload_n 1, 1) := by decide +kernel
theorem dX3_digest_17 : decode cX3_digest 17 = .ok (.aload_n 0, 1) := by decide +kernel
theorem dX3_digest_18 : decode cX3_digest 18 = .ok (.getfield 9, 3) := by decide +kernel
theorem dX3_digest_21 : decode cX3_digest 21 = .ok (.iload_n 3, 1) := by decide +kernel
theorem dX3_digest_22 : decode cX3_digest 22 = .ok (.iaload, 1) := by decide +kernel
theorem dX3_digest_23 : decode cX3_digest 23 = .ok (.i2l, 1) := by decide +kernel
theorem dX3_digest_24 : decode cX3_digest 24 = .ok (.invokestatic 208, 3) := by decide +kernel
theorem dX3_digest_27 : decode cX3_digest 27 = .ok (.aload_n 0, 1) := by decide +kernel
theorem dX3_digest_28 : decode cX3_digest 28 = .ok (.getfield 15, 3) := by decide +kernel
theorem dX3_digest_31 : decode cX3_digest 31 = .ok (.iload_n 3, 1) := by decide +kernel
theorem dX3_digest_32 : decode cX3_digest 32 = .ok (.iaload, 1) := by decide +kernel
theorem dX3_digest_33 : decode cX3_digest 33 = .ok (.i2l, 1) := by decide +kernel
theorem dX3_digest_34 : decode cX3_digest 34 = .ok (.invokestatic 208, 3) := by decide +kernel
theorem dX3_digest_37 : decode cX3_digest 37 = .ok (.aload_n 0, 1) := by decide +kernel
theorem dX3_digest_38 : decode cX3_digest 38 = .ok (.getfield 9, 3) := by decide +kernel
theorem dX3_digest_41 : decode cX3_digest 41 = .ok (.iload_n 3, 1) := by decide +kernel
theorem dX3_digest_42 : decode cX3_digest 42 = .ok (.iaload, 1) := by decide +kernel
theorem dX3_digest_43 : decode cX3_digest 43 = .ok (.i2l, 1) := by decide +kernel
theorem dX3_digest_44 : decode cX3_digest 44 = .ok (.invokestatic 97, 3) := by decide +kernel
theorem dX3_digest_47 : decode cX3_digest 47 = .ok (.i2l, 1) := by decide +kernel
theorem dX3_digest_48 : decode cX3_digest 48 = .ok (.invokestatic 208, 3) := by decide +kernel
theorem dX3_digest_51 : decode cX3_digest 51 = .ok (.aload_n 0, 1) := by decide +kernel
theorem dX3_digest_52 : decode cX3_digest 52 = .ok (.getfield 9, 3) := by decide +kernel
theorem dX3_digest_55 : decode cX3_digest 55 = .ok (.iload_n 3, 1) := by decide +kernel
theorem dX3_digest_56 : decode cX3_digest 56 = .ok (.iaload, 1) := by decide +kernel
theorem dX3_digest_57 : decode cX3_digest 57 = .ok (.i2l, 1) := by decide +kernel
theorem dX3_digest_58 : decode cX3_digest 58 = .ok (.lconst 0, 1) := by decide +kernel
theorem dX3_digest_59 : decode cX3_digest 59 = .ok (.invokestatic 48, 3) := by decide +kernel
theorem dX3_digest_62 : decode cX3_digest 62 = .ok (.i2l, 1) := by decide +kernel
theorem dX3_digest_63 : decode cX3_digest 63 = .ok (.invokestatic 208, 3) := by decide +kernel
theorem dX3_digest_66 : decode cX3_digest 66 = .ok (.lstore_n 1, 1) := by decide +kernel
theorem dX3_digest_67 : decode cX3_digest 67 = .ok (.iinc 3 1, 3) := by decide +kernel
theorem dX3_digest_70 : decode cX3_digest 70 = .ok (.goto (-59), 3) := by decide +kernel
theorem dX3_digest_73 : decode cX3_digest 73 = .ok (.iconst 0, 1) := by decide +kernel
theorem dX3_digest_74 : decode cX3_digest 74 = .ok (.istore_n 3, 1) := by decide +kernel
theorem dX3_digest_75 : decode cX3_digest 75 = .ok (.iload_n 3, 1) := by decide +kernel
theorem dX3_digest_76 : decode cX3_digest 76 = .ok (.iconst 4, 1) := by decide +kernel
theorem dX3_digest_77 : decode cX3_digest 77 = .ok (.if_icmp .ge 57, 3) := by decide +kernel
theorem dX3_digest_80 : decode cX3_digest 80 = .ok (.iload_n 3, 1) := by decide +kernel
theorem dX3_digest_81 : decode cX3_digest 81 = .ok (.iconst 1, 1) := by decide +kernel
theorem dX3_digest_82 : decode cX3_digest 82 = .ok (.iadd, 1) := by decide +kernel
theorem dX3_digest_83 : decode cX3_digest 83 = .ok (.istore 4, 2) := by decide +kernel
theorem dX3_digest_85 : decode cX3_digest 85 = .ok (.iload 4, 2) := by decide +kernel
theorem dX3_digest_87 : decode cX3_digest 87 = .ok (.iconst 4, 1) := by decide +kernel
theorem dX3_digest_88 : decode cX3_digest 88 = .ok (.if_icmp .ge 40, 3) := by decide +kernel
theorem dX3_digest_91 : decode cX3_digest 91 = .ok (.lload_n 1, 1) := by decide +kernel
theorem dX3_digest_92 : decode cX3_digest 92 = .ok (.aload_n 0, 1) := by decide +kernel
theorem dX3_digest_93 : decode cX3_digest 93 = .ok (.iload_n 3, 1) := by decide +kernel
theorem dX3_digest_94 : decode cX3_digest 94 = .ok (.iload 4, 2) := by decide +kernel
theorem dX3_digest_96 : decode cX3_digest 96 = .ok (.invokevirtual 101, 3) := by decide +kernel
theorem dX3_digest_99 : decode cX3_digest 99 = .ok (.i2l, 1) := by decide +kernel
theorem dX3_digest_100 : decode cX3_digest 100 = .ok (.invokestatic 208, 3) := by decide +kernel
theorem dX3_digest_103 : decode cX3_digest 103 = .ok (.aload_n 0, 1) := by decide +kernel
theorem dX3_digest_104 : decode cX3_digest 104 = .ok (.iload_n 3, 1) := by decide +kernel
theorem dX3_digest_105 : decode cX3_digest 105 = .ok (.iload 4, 2) := by decide +kernel
theorem dX3_digest_107 : decode cX3_digest 107 = .ok (.invokevirtual 132, 3) := by decide +kernel
theorem dX3_digest_110 : decode cX3_digest 110 = .ok (.ifCond .eq 7, 3) := by decide +kernel
theorem dX3_digest_113 : decode cX3_digest 113 = .ok (.lconst 1, 1) := by decide +kernel
theorem dX3_digest_114 : decode cX3_digest 114 = .ok (.goto 4, 3) := by decide +kernel
theorem dX3_digest_117 : decode cX3_digest 117 = .ok (.lconst 0, 1) := by decide +kernel
theorem dX3_digest_118 : decode cX3_digest 118 = .ok (.invokestatic 208, 3) := by decide +kernel
theorem dX3_digest_121 : decode cX3_digest 121 = .ok (.lstore_n 1, 1) := by decide +kernel
theorem dX3_digest_122 : decode cX3_digest 122 = .ok (.iinc 4 1, 3) := by decide +kernel
theorem dX3_digest_125 : decode cX3_digest 125 = .ok (.goto (-40), 3) := by decide +kernel
theorem dX3_digest_128 : decode cX3_digest 128 = .ok (.iinc 3 1, 3) := by decide +kernel
theorem dX3_digest_131 : decode cX3_digest 131 = .ok (.goto (-56), 3) := by decide +kernel
theorem dX3_digest_134 : decode cX3_digest 134 = .ok (.iconst 0, 1) := by decide +kernel
theorem dX3_digest_135 : decode cX3_digest 135 = .ok (.istore_n 3, 1) := by decide +kernel
theorem dX3_digest_136 : decode cX3_digest 136 = .ok (.iload_n 3, 1) := by decide +kernel
theorem dX3_digest_137 : decode cX3_digest 137 = .ok (.iconst 3, 1) := by decide +kernel
theorem dX3_digest_138 : decode cX3_digest 138 = .ok (.if_icmp .ge 87, 3) := by decide +kernel
theorem dX3_digest_141 : decode cX3_digest 141 = .ok (.iconst 0, 1) := by decide +kernel
theorem dX3_digest_142 : decode cX3_digest 142 = .ok (.istore 4, 2) := by decide +kernel
theorem dX3_digest_144 : decode cX3_digest 144 = .ok (.iload 4, 2) := by decide +kernel
theorem dX3_digest_146 : decode cX3_digest 146 = .ok (.iconst 5, 1) := by decide +kernel
theorem dX3_digest_147 : decode cX3_digest 147 = .ok (.if_icmp .ge 22, 3) := by decide +kernel
theorem dX3_digest_150 : decode cX3_digest 150 = .ok (.lload_n 1, 1) := by decide +kernel
theorem dX3_digest_151 : decode cX3_digest 151 = .ok (.aload_n 0, 1) := by decide +kernel
theorem dX3_digest_152 : decode cX3_digest 152 = .ok (.iload_n 3, 1) := by decide +kernel
theorem dX3_digest_153 : decode cX3_digest 153 = .ok (.iload 4, 2) := by decide +kernel
theorem dX3_digest_155 : decode cX3_digest 155 = .ok (.invokevirtual 153, 3) := by decide +kernel
theorem dX3_digest_158 : decode cX3_digest 158 = .ok (.i2l, 1) := by decide +kernel
theorem dX3_digest_159 : decode cX3_digest 159 = .ok (.invokestatic 208, 3) := by decide +kernel
theorem dX3_digest_162 : decode cX3_digest 162 = .ok (.lstore_n 1, 1) := by decide +kernel
theorem dX3_digest_163 : decode cX3_digest 163 = .ok (.iinc 4 1, 3) := by decide +kernel
theorem dX3_digest_166 : decode cX3_digest 166 = .ok (.goto (-22), 3) := by decide +kernel
theorem dX3_digest_169 : decode cX3_digest 169 = .ok (.lload_n 1, 1) := by decide +kernel
theorem dX3_digest_170 : decode cX3_digest 170 = .ok (.aload_n 0, 1) := by decide +kernel
theorem dX3_digest_171 : decode cX3_digest 171 = .ok (.iload_n 3, 1) := by decide +kernel
theorem dX3_digest_172 : decode cX3_digest 172 = .ok (.iconst 2, 1) := by decide +kernel
theorem dX3_digest_173 : decode cX3_digest 173 = .ok (.invokevirtual 182, 3) := by decide +kernel
theorem dX3_digest_176 : decode cX3_digest 176 = .ok (.i2l, 1) := by decide +kernel
theorem dX3_digest_177 : decode cX3_digest 177 = .ok (.invokestatic 208, 3) := by decide +kernel
theorem dX3_digest_180 : decode cX3_digest 180 = .ok (.aload_n 0, 1) := by decide +kernel
theorem dX3_digest_181 : decode cX3_digest 181 = .ok (.iload_n 3, 1) := by decide +kernel
theorem dX3_digest_182 : decode cX3_digest 182 = .ok (.iconst 3, 1) := by decide +kernel
theorem dX3_digest_183 : decode cX3_digest 183 = .ok (.invokevirtual 182, 3) := by decide +kernel
theorem dX3_digest_186 : decode cX3_digest 186 = .ok (.i2l, 1) := by decide +kernel
theorem dX3_digest_187 : decode cX3_digest 187 = .ok (.invokestatic 208, 3) := by decide +kernel
theorem dX3_digest_190 : decode cX3_digest 190 = .ok (.lstore_n 1, 1) := by decide +kernel
theorem dX3_digest_191 : decode cX3_digest 191 = .ok (.iconst 0, 1) := by decide +kernel
theorem dX3_digest_192 : decode cX3_digest 192 = .ok (.istore 4, 2) := by decide +kernel
theorem dX3_digest_194 : decode cX3_digest 194 = .ok (.iload 4, 2) := by decide +kernel
theorem dX3_digest_196 : decode cX3_digest 196 = .ok (.iconst 4, 1) := by decide +kernel
theorem dX3_digest_197 : decode cX3_digest 197 = .ok (.if_icmp .ge 22, 3) := by decide +kernel
theorem dX3_digest_200 : decode cX3_digest 200 = .ok (.lload_n 1, 1) := by decide +kernel
theorem dX3_digest_201 : decode cX3_digest 201 = .ok (.aload_n 0, 1) := by decide +kernel
theorem dX3_digest_202 : decode cX3_digest 202 = .ok (.iload_n 3, 1) := by decide +kernel
theorem dX3_digest_203 : decode cX3_digest 203 = .ok (.iload 4, 2) := by decide +kernel
theorem dX3_digest_205 : decode cX3_digest 205 = .ok (.invokevirtual 188, 3) := by decide +kernel
theorem dX3_digest_208 : decode cX3_digest 208 = .ok (.i2l, 1) := by decide +kernel
theorem dX3_digest_209 : decode cX3_digest 209 = .ok (.invokestatic 208, 3) := by decide +kernel
theorem dX3_digest_212 : decode cX3_digest 212 = .ok (.lstore_n 1, 1) := by decide +kernel
theorem dX3_digest_213 : decode cX3_digest 213 = .ok (.iinc 4 1, 3) := by decide +kernel
theorem dX3_digest_216 : decode cX3_digest 216 = .ok (.goto (-22), 3) := by decide +kernel
theorem dX3_digest_219 : decode cX3_digest 219 = .ok (.iinc 3 1, 3) := by decide +kernel
theorem dX3_digest_222 : decode cX3_digest 222 = .ok (.goto (-86), 3) := by decide +kernel
theorem dX3_digest_225 : decode cX3_digest 225 = .ok (.iconst 0, 1) := by decide +kernel
theorem dX3_digest_226 : decode cX3_digest 226 = .ok (.istore_n 3, 1) := by decide +kernel
theorem dX3_digest_227 : decode cX3_digest 227 = .ok (.iload_n 3, 1) := by decide +kernel
theorem dX3_digest_228 : decode cX3_digest 228 = .ok (.iconst 3, 1) := by decide +kernel
theorem dX3_digest_229 : decode cX3_digest 229 = .ok (.if_icmp .ge 39, 3) := by decide +kernel
theorem dX3_digest_232 : decode cX3_digest 232 = .ok (.iload_n 3, 1) := by decide +kernel
theorem dX3_digest_233 : decode cX3_digest 233 = .ok (.iconst 1, 1) := by decide +kernel
theorem dX3_digest_234 : decode cX3_digest 234 = .ok (.iadd, 1) := by decide +kernel
theorem dX3_digest_235 : decode cX3_digest 235 = .ok (.istore 4, 2) := by decide +kernel
theorem dX3_digest_237 : decode cX3_digest 237 = .ok (.iload 4, 2) := by decide +kernel
theorem dX3_digest_239 : decode cX3_digest 239 = .ok (.iconst 3, 1) := by decide +kernel
theorem dX3_digest_240 : decode cX3_digest 240 = .ok (.if_icmp .ge 22, 3) := by decide +kernel
theorem dX3_digest_243 : decode cX3_digest 243 = .ok (.lload_n 1, 1) := by decide +kernel
theorem dX3_digest_244 : decode cX3_digest 244 = .ok (.aload_n 0, 1) := by decide +kernel
theorem dX3_digest_245 : decode cX3_digest 245 = .ok (.iload_n 3, 1) := by decide +kernel
theorem dX3_digest_246 : decode cX3_digest 246 = .ok (.iload 4, 2) := by decide +kernel
theorem dX3_digest_248 : decode cX3_digest 248 = .ok (.invokevirtual 185, 3) := by decide +kernel
theorem dX3_digest_251 : decode cX3_digest 251 = .ok (.i2l, 1) := by decide +kernel
theorem dX3_digest_252 : decode cX3_digest 252 = .ok (.invokestatic 208, 3) := by decide +kernel
theorem dX3_digest_255 : decode cX3_digest 255 = .ok (.lstore_n 1, 1) := by decide +kernel
theorem dX3_digest_256 : decode cX3_digest 256 = .ok (.iinc 4 1, 3) := by decide +kernel
theorem dX3_digest_259 : decode cX3_digest 259 = .ok (.goto (-22), 3) := by decide +kernel
theorem dX3_digest_262 : decode cX3_digest 262 = .ok (.iinc 3 1, 3) := by decide +kernel
theorem dX3_digest_265 : decode cX3_digest 265 = .ok (.goto (-38), 3) := by decide +kernel
theorem dX3_digest_268 : decode cX3_digest 268 = .ok (.iconst 0, 1) := by decide +kernel
theorem dX3_digest_269 : decode cX3_digest 269 = .ok (.istore_n 3, 1) := by decide +kernel
theorem dX3_digest_270 : decode cX3_digest 270 = .ok (.iload_n 3, 1) := by decide +kernel
theorem dX3_digest_271 : decode cX3_digest 271 = .ok (.iconst 4, 1) := by decide +kernel
theorem dX3_digest_272 : decode cX3_digest 272 = .ok (.if_icmp .ge 21, 3) := by decide +kernel
theorem dX3_digest_275 : decode cX3_digest 275 = .ok (.lload_n 1, 1) := by decide +kernel
theorem dX3_digest_276 : decode cX3_digest 276 = .ok (.aload_n 0, 1) := by decide +kernel
theorem dX3_digest_277 : decode cX3_digest 277 = .ok (.getfield 27, 3) := by decide +kernel
theorem dX3_digest_280 : decode cX3_digest 280 = .ok (.iload_n 3, 1) := by decide +kernel
theorem dX3_digest_281 : decode cX3_digest 281 = .ok (.iaload, 1) := by decide +kernel
theorem dX3_digest_282 : decode cX3_digest 282 = .ok (.i2l, 1) := by decide +kernel
theorem dX3_digest_283 : decode cX3_digest 283 = .ok (.invokestatic 208, 3) := by decide +kernel
theorem dX3_digest_286 : decode cX3_digest 286 = .ok (.lstore_n 1, 1) := by decide +kernel
theorem dX3_digest_287 : decode cX3_digest 287 = .ok (.iinc 3 1, 3) := by decide +kernel
theorem dX3_digest_290 : decode cX3_digest 290 = .ok (.goto (-20), 3) := by decide +kernel
theorem dX3_digest_293 : decode cX3_digest 293 = .ok (.lload_n 1, 1) := by decide +kernel
theorem dX3_digest_294 : decode cX3_digest 294 = .ok (.aload_n 0, 1) := by decide +kernel
theorem dX3_digest_295 : decode cX3_digest 295 = .ok (.invokevirtual 200, 3) := by decide +kernel
theorem dX3_digest_298 : decode cX3_digest 298 = .ok (.ifCond .eq 7, 3) := by decide +kernel
theorem dX3_digest_301 : decode cX3_digest 301 = .ok (.lconst 1, 1) := by decide +kernel
theorem dX3_digest_302 : decode cX3_digest 302 = .ok (.goto 4, 3) := by decide +kernel
theorem dX3_digest_305 : decode cX3_digest 305 = .ok (.lconst 0, 1) := by decide +kernel
theorem dX3_digest_306 : decode cX3_digest 306 = .ok (.invokestatic 208, 3) := by decide +kernel
theorem dX3_digest_309 : decode cX3_digest 309 = .ok (.lreturn, 1) := by decide +kernel
theorem dJ5_init_d00df_0 : decode cJ5_init_d00df 0 = .ok (.aload_n 0, 1) := by decide +kernel
theorem dJ5_init_d00df_1 : decode cJ5_init_d00df 1 = .ok (.invokespecial 3, 3) := by decide +kernel
theorem dJ5_init_d00df_4 : decode cJ5_init_d00df 4 = .ok (.getstatic 18, 3) := by decide +kernel
theorem dJ5_init_d00df_7 : decode cJ5_init_d00df 7 = .ok (.ifCond .eq 18, 3) := by decide +kernel
theorem dJ5_init_d00df_10 : decode cJ5_init_d00df 10 = .ok (.aload_n 0, 1) := by decide +kernel
theorem dJ5_init_d00df_11 : decode cJ5_init_d00df 11 = .ok (.iload_n 1, 1) := by decide +kernel
theorem dJ5_init_d00df_12 : decode cJ5_init_d00df 12 = .ok (.newarray .byte, 2) := by decide +kernel
theorem dJ5_init_d00df_14 : decode cJ5_init_d00df 14 = .ok (.putfield 15, 3) := by decide +kernel
theorem dJ5_init_d00df_17 : decode cJ5_init_d00df 17 = .ok (.aload_n 0, 1) := by decide +kernel
theorem dJ5_init_d00df_18 : decode cJ5_init_d00df 18 = .ok (.iconst 0, 1) := by decide +kernel
theorem dJ5_init_d00df_19 : decode cJ5_init_d00df 19 = .ok (.putfield 22, 3) := by decide +kernel
theorem dJ5_init_d00df_22 : decode cJ5_init_d00df 22 = .ok (.goto 16, 3) := by decide +kernel
theorem dJ5_init_d00df_25 : decode cJ5_init_d00df 25 = .ok (.aload_n 0, 1) := by decide +kernel
theorem dJ5_init_d00df_26 : decode cJ5_init_d00df 26 = .ok (.iload_n 1, 1) := by decide +kernel
theorem dJ5_init_d00df_27 : decode cJ5_init_d00df 27 = .ok (.invokestatic 26, 3) := by decide +kernel
theorem dJ5_init_d00df_30 : decode cJ5_init_d00df 30 = .ok (.putfield 15, 3) := by decide +kernel
theorem dJ5_init_d00df_33 : decode cJ5_init_d00df 33 = .ok (.aload_n 0, 1) := by decide +kernel
theorem dJ5_init_d00df_34 : decode cJ5_init_d00df 34 = .ok (.iconst 1, 1) := by decide +kernel
theorem dJ5_init_d00df_35 : decode cJ5_init_d00df 35 = .ok (.putfield 22, 3) := by decide +kernel
theorem dJ5_init_d00df_38 : decode cJ5_init_d00df 38 = .ok (.return_, 1) := by decide +kernel
theorem dJ5_length_8abf5_0 : decode cJ5_length_8abf5 0 = .ok (.aload_n 0, 1) := by decide +kernel
theorem dJ5_length_8abf5_1 : decode cJ5_length_8abf5 1 = .ok (.getfield 79, 3) := by decide +kernel
theorem dJ5_length_8abf5_4 : decode cJ5_length_8abf5 4 = .ok (.ireturn, 1) := by decide +kernel
theorem dJ5_ensureCapacityInternal_d00df_0 : decode cJ5_ensureCapacityInternal_d00df 0 = .ok (.aload_n 0, 1) := by decide +kernel
theorem dJ5_ensureCapacityInternal_d00df_1 : decode cJ5_ensureCapacityInternal_d00df 1 = .ok (.getfield 15, 3) := by decide +kernel
theorem dJ5_ensureCapacityInternal_d00df_4 : decode cJ5_ensureCapacityInternal_d00df 4 = .ok (.arraylength, 1) := by decide +kernel
theorem dJ5_ensureCapacityInternal_d00df_5 : decode cJ5_ensureCapacityInternal_d00df 5 = .ok (.aload_n 0, 1) := by decide +kernel
theorem dJ5_ensureCapacityInternal_d00df_6 : decode cJ5_ensureCapacityInternal_d00df 6 = .ok (.getfield 22, 3) := by decide +kernel
theorem dJ5_ensureCapacityInternal_d00df_9 : decode cJ5_ensureCapacityInternal_d00df 9 = .ok (.ishr, 1) := by decide +kernel
theorem dJ5_ensureCapacityInternal_d00df_10 : decode cJ5_ensureCapacityInternal_d00df 10 = .ok (.istore_n 2, 1) := by decide +kernel
theorem dJ5_ensureCapacityInternal_d00df_11 : decode cJ5_ensureCapacityInternal_d00df 11 = .ok (.iload_n 1, 1) := by decide +kernel
theorem dJ5_ensureCapacityInternal_d00df_12 : decode cJ5_ensureCapacityInternal_d00df 12 = .ok (.iload_n 2, 1) := by decide +kernel
theorem dJ5_ensureCapacityInternal_d00df_13 : decode cJ5_ensureCapacityInternal_d00df 13 = .ok (.isub, 1) := by decide +kernel
theorem dJ5_ensureCapacityInternal_d00df_14 : decode cJ5_ensureCapacityInternal_d00df 14 = .ok (.ifCond .le 24, 3) := by decide +kernel
theorem dJ5_ensureCapacityInternal_d00df_17 : decode cJ5_ensureCapacityInternal_d00df 17 = .ok (.aload_n 0, 1) := by decide +kernel
theorem dJ5_ensureCapacityInternal_d00df_18 : decode cJ5_ensureCapacityInternal_d00df 18 = .ok (.aload_n 0, 1) := by decide +kernel
theorem dJ5_ensureCapacityInternal_d00df_19 : decode cJ5_ensureCapacityInternal_d00df 19 = .ok (.getfield 15, 3) := by decide +kernel
theorem dJ5_ensureCapacityInternal_d00df_22 : decode cJ5_ensureCapacityInternal_d00df 22 = .ok (.aload_n 0, 1) := by decide +kernel
theorem dJ5_ensureCapacityInternal_d00df_23 : decode cJ5_ensureCapacityInternal_d00df 23 = .ok (.iload_n 1, 1) := by decide +kernel
theorem dJ5_ensureCapacityInternal_d00df_24 : decode cJ5_ensureCapacityInternal_d00df 24 = .ok (.invokevirtual 104, 3) := by decide +kernel
theorem dJ5_ensureCapacityInternal_d00df_27 : decode cJ5_ensureCapacityInternal_d00df 27 = .ok (.aload_n 0, 1) := by decide +kernel
theorem dJ5_ensureCapacityInternal_d00df_28 : decode cJ5_ensureCapacityInternal_d00df 28 = .ok (.getfield 22, 3) := by decide +kernel
theorem dJ5_ensureCapacityInternal_d00df_31 : decode cJ5_ensureCapacityInternal_d00df 31 = .ok (.ishl, 1) := by decide +kernel
theorem dJ5_ensureCapacityInternal_d00df_32 : decode cJ5_ensureCapacityInternal_d00df 32 = .ok (.invokestatic 108, 3) := by decide +kernel
theorem dJ5_ensureCapacityInternal_d00df_35 : decode cJ5_ensureCapacityInternal_d00df 35 = .ok (.putfield 15, 3) := by decide +kernel
theorem dJ5_ensureCapacityInternal_d00df_38 : decode cJ5_ensureCapacityInternal_d00df 38 = .ok (.return_, 1) := by decide +kernel
theorem dJ5_newCapacity_0f7a4_0 : decode cJ5_newCapacity_0f7a4 0 = .ok (.aload_n 0, 1) := by decide +kernel
theorem dJ5_newCapacity_0f7a4_1 : decode cJ5_newCapacity_0f7a4 1 = .ok (.getfield 15, 3) := by decide +kernel
theorem dJ5_newCapacity_0f7a4_4 : decode cJ5_newCapacity_0f7a4 4 = .ok (.arraylength, 1) := by decide +kernel
theorem dJ5_newCapacity_0f7a4_5 : decode cJ5_newCapacity_0f7a4 5 = .ok (.istore_n 2, 1) := by decide +kernel
theorem dJ5_newCapacity_0f7a4_6 : decode cJ5_newCapacity_0f7a4 6 = .ok (.iload_n 1, 1) := by decide +kernel
theorem dJ5_newCapacity_0f7a4_7 : decode cJ5_newCapacity_0f7a4 7 = .ok (.aload_n 0, 1) := by decide +kernel
theorem dJ5_newCapacity_0f7a4_8 : decode cJ5_newCapacity_0f7a4 8 = .ok (.getfield 22, 3) := by decide +kernel
theorem dJ5_newCapacity_0f7a4_11 : decode cJ5_newCapacity_0f7a4 11 = .ok (.ishl, 1) := by decide +kernel
theorem dJ5_newCapacity_0f7a4_12 : decode cJ5_newCapacity_0f7a4 12 = .ok (.istore_n 3, 1) := by decide +kernel
theorem dJ5_newCapacity_0f7a4_13 : decode cJ5_newCapacity_0f7a4 13 = .ok (.iload_n 3, 1) := by decide +kernel
theorem dJ5_newCapacity_0f7a4_14 : decode cJ5_newCapacity_0f7a4 14 = .ok (.iload_n 2, 1) := by decide +kernel
theorem dJ5_newCapacity_0f7a4_15 : decode cJ5_newCapacity_0f7a4 15 = .ok (.isub, 1) := by decide +kernel
theorem dJ5_newCapacity_0f7a4_16 : decode cJ5_newCapacity_0f7a4 16 = .ok (.istore 4, 2) := by decide +kernel
theorem dJ5_newCapacity_0f7a4_18 : decode cJ5_newCapacity_0f7a4 18 = .ok (.iload_n 2, 1) := by decide +kernel
theorem dJ5_newCapacity_0f7a4_19 : decode cJ5_newCapacity_0f7a4 19 = .ok (.iload 4, 2) := by decide +kernel
theorem dJ5_newCapacity_0f7a4_21 : decode cJ5_newCapacity_0f7a4 21 = .ok (.iload_n 2, 1) := by decide +kernel
theorem dJ5_newCapacity_0f7a4_22 : decode cJ5_newCapacity_0f7a4 22 = .ok (.iconst 2, 1) := by decide +kernel
theorem dJ5_newCapacity_0f7a4_23 : decode cJ5_newCapacity_0f7a4 23 = .ok (.aload_n 0, 1) := by decide +kernel
theorem dJ5_newCapacity_0f7a4_24 : decode cJ5_newCapacity_0f7a4 24 = .ok (.getfield 22, 3) := by decide +kernel
theorem dJ5_newCapacity_0f7a4_27 : decode cJ5_newCapacity_0f7a4 27 = .ok (.ishl, 1) := by decide +kernel
theorem dJ5_newCapacity_0f7a4_28 : decode cJ5_newCapacity_0f7a4 28 = .ok (.iadd, 1) := by decide +kernel
theorem dJ5_newCapacity_0f7a4_29 : decode cJ5_newCapacity_0f7a4 29 = .ok (.invokestatic 114, 3) := by decide +kernel
theorem dJ5_newCapacity_0f7a4_32 : decode cJ5_newCapacity_0f7a4 32 = .ok (.istore 5, 2) := by decide +kernel
theorem dJ5_newCapacity_0f7a4_34 : decode cJ5_newCapacity_0f7a4 34 = .ok (.iload 5, 2) := by decide +kernel
theorem dJ5_newCapacity_0f7a4_36 : decode cJ5_newCapacity_0f7a4 36 = .ok (.ldc 39, 2) := by decide +kernel
theorem dJ5_newCapacity_0f7a4_38 : decode cJ5_newCapacity_0f7a4 38 = .ok (.if_icmp .ne 13, 3) := by decide +kernel
theorem dJ5_newCapacity_0f7a4_41 : decode cJ5_newCapacity_0f7a4 41 = .ok (.new 120, 3) := by decide +kernel
theorem dJ5_newCapacity_0f7a4_44 : decode cJ5_newCapacity_0f7a4 44 = .ok (.dup, 1) := by decide +kernel
theorem dJ5_newCapacity_0f7a4_45 : decode cJ5_newCapacity_0f7a4 45 = .ok (.ldc 122, 2) := by decide +kernel
theorem dJ5_newCapacity_0f7a4_47 : decode cJ5_newCapacity_0f7a4 47 = .ok (.invokespecial 124, 3) := by decide +kernel
theorem dJ5_newCapacity_0f7a4_50 : decode cJ5_newCapacity_0f7a4 50 = .ok (.athrow, 1) := by decide +kernel
theorem dJ5_newCapacity_0f7a4_51 : decode cJ5_newCapacity_0f7a4 51 = .ok (.iload 5, 2) := by decide +kernel
theorem dJ5_newCapacity_0f7a4_53 : decode cJ5_newCapacity_0f7a4 53 = .ok (.aload_n 0, 1) := by decide +kernel
theorem dJ5_newCapacity_0f7a4_54 : decode cJ5_newCapacity_0f7a4 54 = .ok (.getfield 22, 3) := by decide +kernel
theorem dJ5_newCapacity_0f7a4_57 : decode cJ5_newCapacity_0f7a4 57 = .ok (.ishr, 1) := by decide +kernel
theorem dJ5_newCapacity_0f7a4_58 : decode cJ5_newCapacity_0f7a4 58 = .ok (.ireturn, 1) := by decide +kernel
theorem dJ5_append_3fe6f_0 : decode cJ5_append_3fe6f 0 = .ok (.aload_n 0, 1) := by decide +kernel
theorem dJ5_append_3fe6f_1 : decode cJ5_append_3fe6f 1 = .ok (.aload_n 0, 1) := by decide +kernel
theorem dJ5_append_3fe6f_2 : decode cJ5_append_3fe6f 2 = .ok (.getfield 79, 3) := by decide +kernel
theorem dJ5_append_3fe6f_5 : decode cJ5_append_3fe6f 5 = .ok (.iconst 1, 1) := by decide +kernel
theorem dJ5_append_3fe6f_6 : decode cJ5_append_3fe6f 6 = .ok (.iadd, 1) := by decide +kernel
theorem dJ5_append_3fe6f_7 : decode cJ5_append_3fe6f 7 = .ok (.invokevirtual 100, 3) := by decide +kernel
theorem dJ5_append_3fe6f_10 : decode cJ5_append_3fe6f 10 = .ok (.aload_n 0, 1) := by decide +kernel
theorem dJ5_append_3fe6f_11 : decode cJ5_append_3fe6f 11 = .ok (.invokevirtual 83, 3) := by decide +kernel
theorem dJ5_append_3fe6f_14 : decode cJ5_append_3fe6f 14 = .ok (.ifCond .eq 31, 3) := by decide +kernel
theorem dJ5_append_3fe6f_17 : decode cJ5_append_3fe6f 17 = .ok (.iload_n 1, 1) := by decide +kernel
theorem dJ5_append_3fe6f_18 : decode cJ5_append_3fe6f 18 = .ok (.invokestatic 191, 3) := by decide +kernel
theorem dJ5_append_3fe6f_21 : decode cJ5_append_3fe6f 21 = .ok (.ifCond .eq 24, 3) := by decide +kernel
theorem dJ5_append_3fe6f_24 : decode cJ5_append_3fe6f 24 = .ok (.aload_n 0, 1) := by decide +kernel
theorem dJ5_append_3fe6f_25 : decode cJ5_append_3fe6f 25 = .ok (.getfield 15, 3) := by decide +kernel
theorem dJ5_append_3fe6f_28 : decode cJ5_append_3fe6f 28 = .ok (.aload_n 0, 1) := by decide +kernel
theorem dJ5_append_3fe6f_29 : decode cJ5_append_3fe6f 29 = .ok (.dup, 1) := by decide +kernel
theorem dJ5_append_3fe6f_30 : decode cJ5_append_3fe6f 30 = .ok (.getfield 79, 3) := by decide +kernel
theorem dJ5_append_3fe6f_33 : decode cJ5_append_3fe6f 33 = .ok (.dup_x1, 1) := by decide +kernel
theorem dJ5_append_3fe6f_34 : decode cJ5_append_3fe6f 34 = .ok (.iconst 1, 1) := by decide +kernel
theorem dJ5_append_3fe6f_35 : decode cJ5_append_3fe6f 35 = .ok (.iadd, 1) := by decide +kernel
theorem dJ5_append_3fe6f_36 : decode cJ5_append_3fe6f 36 = .ok (.putfield 79, 3) := by decide +kernel
theorem dJ5_append_3fe6f_39 : decode cJ5_append_3fe6f 39 = .ok (.iload_n 1, 1) := by decide +kernel
theorem dJ5_append_3fe6f_40 : decode cJ5_append_3fe6f 40 = .ok (.i2b, 1) := by decide +kernel
theorem dJ5_append_3fe6f_41 : decode cJ5_append_3fe6f 41 = .ok (.bastore, 1) := by decide +kernel
theorem dJ5_append_3fe6f_42 : decode cJ5_append_3fe6f 42 = .ok (.goto 33, 3) := by decide +kernel
theorem dJ5_append_3fe6f_45 : decode cJ5_append_3fe6f 45 = .ok (.aload_n 0, 1) := by decide +kernel
theorem dJ5_append_3fe6f_46 : decode cJ5_append_3fe6f 46 = .ok (.invokevirtual 83, 3) := by decide +kernel
theorem dJ5_append_3fe6f_49 : decode cJ5_append_3fe6f 49 = .ok (.ifCond .eq 7, 3) := by decide +kernel
theorem dJ5_append_3fe6f_52 : decode cJ5_append_3fe6f 52 = .ok (.aload_n 0, 1) := by decide +kernel
theorem dJ5_append_3fe6f_53 : decode cJ5_append_3fe6f 53 = .ok (.invokevirtual 195, 3) := by decide +kernel
theorem dJ5_append_3fe6f_56 : decode cJ5_append_3fe6f 56 = .ok (.aload_n 0, 1) := by decide +kernel
theorem dJ5_append_3fe6f_57 : decode cJ5_append_3fe6f 57 = .ok (.getfield 15, 3) := by decide +kernel
theorem dJ5_append_3fe6f_60 : decode cJ5_append_3fe6f 60 = .ok (.aload_n 0, 1) := by decide +kernel
theorem dJ5_append_3fe6f_61 : decode cJ5_append_3fe6f 61 = .ok (.dup, 1) := by decide +kernel
theorem dJ5_append_3fe6f_62 : decode cJ5_append_3fe6f 62 = .ok (.getfield 79, 3) := by decide +kernel
theorem dJ5_append_3fe6f_65 : decode cJ5_append_3fe6f 65 = .ok (.dup_x1, 1) := by decide +kernel
theorem dJ5_append_3fe6f_66 : decode cJ5_append_3fe6f 66 = .ok (.iconst 1, 1) := by decide +kernel
theorem dJ5_append_3fe6f_67 : decode cJ5_append_3fe6f 67 = .ok (.iadd, 1) := by decide +kernel
theorem dJ5_append_3fe6f_68 : decode cJ5_append_3fe6f 68 = .ok (.putfield 79, 3) := by decide +kernel
theorem dJ5_append_3fe6f_71 : decode cJ5_append_3fe6f 71 = .ok (.iload_n 1, 1) := by decide +kernel
theorem dJ5_append_3fe6f_72 : decode cJ5_append_3fe6f 72 = .ok (.invokestatic 197, 3) := by decide +kernel
theorem dJ5_append_3fe6f_75 : decode cJ5_append_3fe6f 75 = .ok (.aload_n 0, 1) := by decide +kernel
theorem dJ5_append_3fe6f_76 : decode cJ5_append_3fe6f 76 = .ok (.areturn, 1) := by decide +kernel
theorem dJ5_reverse_278bc_0 : decode cJ5_reverse_278bc 0 = .ok (.aload_n 0, 1) := by decide +kernel
theorem dJ5_reverse_278bc_1 : decode cJ5_reverse_278bc 1 = .ok (.getfield 15, 3) := by decide +kernel
theorem dJ5_reverse_278bc_4 : decode cJ5_reverse_278bc 4 = .ok (.astore_n 1, 1) := by decide +kernel
theorem dJ5_reverse_278bc_5 : decode cJ5_reverse_278bc 5 = .ok (.aload_n 0, 1) := by decide +kernel
theorem dJ5_reverse_278bc_6 : decode cJ5_reverse_278bc 6 = .ok (.getfield 79, 3) := by decide +kernel
theorem dJ5_reverse_278bc_9 : decode cJ5_reverse_278bc 9 = .ok (.istore_n 2, 1) := by decide +kernel
theorem dJ5_reverse_278bc_10 : decode cJ5_reverse_278bc 10 = .ok (.iload_n 2, 1) := by decide +kernel
theorem dJ5_reverse_278bc_11 : decode cJ5_reverse_278bc 11 = .ok (.iconst 1, 1) := by decide +kernel
theorem dJ5_reverse_278bc_12 : decode cJ5_reverse_278bc 12 = .ok (.isub, 1) := by decide +kernel
theorem dJ5_reverse_278bc_13 : decode cJ5_reverse_278bc 13 = .ok (.istore_n 3, 1) := by decide +kernel
theorem dJ5_reverse_278bc_14 : decode cJ5_reverse_278bc 14 = .ok (.aload_n 0, 1) := by decide +kernel
theorem dJ5_reverse_278bc_15 : decode cJ5_reverse_278bc 15 = .ok (.invokevirtual 83, 3) := by decide +kernel
theorem dJ5_reverse_278bc_18 : decode cJ5_reverse_278bc 18 = .ok (.ifCond .eq 50, 3) := by decide +kernel
theorem dJ5_reverse_278bc_21 : decode cJ5_reverse_278bc 21 = .ok (.iload_n 3, 1) := by decide +kernel
theorem dJ5_reverse_278bc_22 : decode cJ5_reverse_278bc 22 = .ok (.iconst 1, 1) := by decide +kernel
theorem dJ5_reverse_278bc_23 : decode cJ5_reverse_278bc 23 = .ok (.isub, 1) := by decide +kernel
theorem dJ5_reverse_278bc_24 : decode cJ5_reverse_278bc 24 = .ok (.iconst 1, 1) := by decide +kernel
theorem dJ5_reverse_278bc_25 : decode cJ5_reverse_278bc 25 = .ok (.ishr, 1) := by decide +kernel
theorem dJ5_reverse_278bc_26 : decode cJ5_reverse_278bc 26 = .ok (.istore 4, 2) := by decide +kernel
theorem dJ5_reverse_278bc_28 : decode cJ5_reverse_278bc 28 = .ok (.iload 4, 2) := by decide +kernel
theorem dJ5_reverse_278bc_30 : decode cJ5_reverse_278bc 30 = .ok (.ifCond .lt 35, 3) := by decide +kernel
theorem dJ5_reverse_278bc_33 : decode cJ5_reverse_278bc 33 = .ok (.iload_n 3, 1) := by decide +kernel
theorem dJ5_reverse_278bc_34 : decode cJ5_reverse_278bc 34 = .ok (.iload 4, 2) := by decide +kernel
theorem dJ5_reverse_278bc_36 : decode cJ5_reverse_278bc 36 = .ok (.isub, 1) := by decide +kernel
theorem dJ5_reverse_278bc_37 : decode cJ5_reverse_278bc 37 = .ok (.istore 5, 2) := by decide +kernel
theorem dJ5_reverse_278bc_39 : decode cJ5_reverse_278bc 39 = .ok (.aload_n 1, 1) := by decide +kernel
theorem dJ5_reverse_278bc_40 : decode cJ5_reverse_278bc 40 = .ok (.iload 4, 2) := by decide +kernel
theorem dJ5_reverse_278bc_42 : decode cJ5_reverse_278bc 42 = .ok (.baload, 1) := by decide +kernel
theorem dJ5_reverse_278bc_43 : decode cJ5_reverse_278bc 43 = .ok (.istore 6, 2) := by decide +kernel
theorem dJ5_reverse_278bc_45 : decode cJ5_reverse_278bc 45 = .ok (.aload_n 1, 1) := by decide +kernel
theorem dJ5_reverse_278bc_46 : decode cJ5_reverse_278bc 46 = .ok (.iload 4, 2) := by decide +kernel
theorem dJ5_reverse_278bc_48 : decode cJ5_reverse_278bc 48 = .ok (.aload_n 1, 1) := by decide +kernel
theorem dJ5_reverse_278bc_49 : decode cJ5_reverse_278bc 49 = .ok (.iload 5, 2) := by decide +kernel
theorem dJ5_reverse_278bc_51 : decode cJ5_reverse_278bc 51 = .ok (.baload, 1) := by decide +kernel
theorem dJ5_reverse_278bc_52 : decode cJ5_reverse_278bc 52 = .ok (.bastore, 1) := by decide +kernel
theorem dJ5_reverse_278bc_53 : decode cJ5_reverse_278bc 53 = .ok (.aload_n 1, 1) := by decide +kernel
theorem dJ5_reverse_278bc_54 : decode cJ5_reverse_278bc 54 = .ok (.iload 5, 2) := by decide +kernel
theorem dJ5_reverse_278bc_56 : decode cJ5_reverse_278bc 56 = .ok (.iload 6, 2) := by decide +kernel
theorem dJ5_reverse_278bc_58 : decode cJ5_reverse_278bc 58 = .ok (.bastore, 1) := by decide +kernel
theorem dJ5_reverse_278bc_59 : decode cJ5_reverse_278bc 59 = .ok (.iinc 4 (-1), 3) := by decide +kernel
theorem dJ5_reverse_278bc_62 : decode cJ5_reverse_278bc 62 = .ok (.goto (-34), 3) := by decide +kernel
theorem dJ5_reverse_278bc_65 : decode cJ5_reverse_278bc 65 = .ok (.goto 8, 3) := by decide +kernel
theorem dJ5_reverse_278bc_68 : decode cJ5_reverse_278bc 68 = .ok (.aload_n 1, 1) := by decide +kernel
theorem dJ5_reverse_278bc_69 : decode cJ5_reverse_278bc 69 = .ok (.iload_n 2, 1) := by decide +kernel
theorem dJ5_reverse_278bc_70 : decode cJ5_reverse_278bc 70 = .ok (.invokestatic 358, 3) := by decide +kernel
theorem dJ5_reverse_278bc_73 : decode cJ5_reverse_278bc 73 = .ok (.aload_n 0, 1) := by decide +kernel
theorem dJ5_reverse_278bc_74 : decode cJ5_reverse_278bc 74 = .ok (.areturn, 1) := by decide +kernel
theorem dJ5_getValue_6d5f1_0 : decode cJ5_getValue_6d5f1 0 = .ok (.aload_n 0, 1) := by decide +kernel
theorem dJ5_getValue_6d5f1_1 : decode cJ5_getValue_6d5f1 1 = .ok (.getfield 15, 3) := by decide +kernel
theorem dJ5_getValue_6d5f1_4 : decode cJ5_getValue_6d5f1 4 = .ok (.areturn, 1) := by decide +kernel
theorem dJ5_isLatin1_aae02_0 : decode cJ5_isLatin1_aae02 0 = .ok (.getstatic 18, 3) := by decide +kernel
theorem dJ5_isLatin1_aae02_3 : decode cJ5_isLatin1_aae02 3 = .ok (.ifCond .eq 14, 3) := by decide +kernel
theorem dJ5_isLatin1_aae02_6 : decode cJ5_isLatin1_aae02 6 = .ok (.aload_n 0, 1) := by decide +kernel
theorem dJ5_isLatin1_aae02_7 : decode cJ5_isLatin1_aae02 7 = .ok (.getfield 22, 3) := by decide +kernel
theorem dJ5_isLatin1_aae02_10 : decode cJ5_isLatin1_aae02 10 = .ok (.ifCond .ne 7, 3) := by decide +kernel
theorem dJ5_isLatin1_aae02_13 : decode cJ5_isLatin1_aae02 13 = .ok (.iconst 1, 1) := by decide +kernel
theorem dJ5_isLatin1_aae02_14 : decode cJ5_isLatin1_aae02 14 = .ok (.goto 4, 3) := by decide +kernel
theorem dJ5_isLatin1_aae02_17 : decode cJ5_isLatin1_aae02 17 = .ok (.iconst 0, 1) := by decide +kernel
theorem dJ5_isLatin1_aae02_18 : decode cJ5_isLatin1_aae02 18 = .ok (.ireturn, 1) := by decide +kernel
theorem dJ0_init_81219_0 : decode cJ0_init_81219 0 = .ok (.aload_n 0, 1) := by decide +kernel
theorem dJ0_init_81219_1 : decode cJ0_init_81219 1 = .ok (.aload_n 1, 1) := by decide +kernel
theorem dJ0_init_81219_2 : decode cJ0_init_81219 2 = .ok (.aconst_null, 1) := by decide +kernel
theorem dJ0_init_81219_3 : decode cJ0_init_81219 3 = .ok (.invokespecial 489, 3) := by decide +kernel
theorem dJ0_init_81219_6 : decode cJ0_init_81219 6 = .ok (.return_, 1) := by decide +kernel
theorem dJ0_init_db425_0 : decode cJ0_init_db425 0 = .ok (.aload_n 0, 1) := by decide +kernel
theorem dJ0_init_db425_1 : decode cJ0_init_db425 1 = .ok (.invokespecial 1, 3) := by decide +kernel
theorem dJ0_init_db425_4 : decode cJ0_init_db425 4 = .ok (.aload_n 1, 1) := by decide +kernel
theorem dJ0_init_db425_5 : decode cJ0_init_db425 5 = .ok (.invokevirtual 552, 3) := by decide +kernel
theorem dJ0_init_db425_8 : decode cJ0_init_db425 8 = .ok (.astore_n 3, 1) := by decide +kernel
theorem dJ0_init_db425_9 : decode cJ0_init_db425 9 = .ok (.aload_n 1, 1) := by decide +kernel
theorem dJ0_init_db425_10 : decode cJ0_init_db425 10 = .ok (.invokevirtual 549, 3) := by decide +kernel
theorem dJ0_init_db425_13 : decode cJ0_init_db425 13 = .ok (.istore 4, 2) := by decide +kernel
theorem dJ0_init_db425_15 : decode cJ0_init_db425 15 = .ok (.aload_n 1, 1) := by decide +kernel
theorem dJ0_init_db425_16 : decode cJ0_init_db425 16 = .ok (.invokevirtual 1047, 3) := by decide +kernel
theorem dJ0_init_db425_19 : decode cJ0_init_db425 19 = .ok (.ifCond .eq 22, 3) := by decide +kernel
theorem dJ0_init_db425_22 : decode cJ0_init_db425 22 = .ok (.aload_n 0, 1) := by decide +kernel
theorem dJ0_init_db425_23 : decode cJ0_init_db425 23 = .ok (.iconst 0, 1) := by decide +kernel
theorem dJ0_init_db425_24 : decode cJ0_init_db425 24 = .ok (.putfield 15, 3) := by decide +kernel
theorem dJ0_init_db425_27 : decode cJ0_init_db425 27 = .ok (.aload_n 0, 1) := by decide +kernel
theorem dJ0_init_db425_28 : decode cJ0_init_db425 28 = .ok (.aload_n 3, 1) := by decide +kernel
theorem dJ0_init_db425_29 : decode cJ0_init_db425 29 = .ok (.iconst 0, 1) := by decide +kernel
theorem dJ0_init_db425_30 : decode cJ0_init_db425 30 = .ok (.iload 4, 2) := by decide +kernel
theorem dJ0_init_db425_32 : decode cJ0_init_db425 32 = .ok (.invokestatic 54, 3) := by decide +kernel
theorem dJ0_init_db425_35 : decode cJ0_init_db425 35 = .ok (.putfield 9, 3) := by decide +kernel
theorem dJ0_init_db425_38 : decode cJ0_init_db425 38 = .ok (.goto 59, 3) := by decide +kernel
theorem dJ0_init_db425_41 : decode cJ0_init_db425 41 = .ok (.getstatic 38, 3) := by decide +kernel
theorem dJ0_init_db425_44 : decode cJ0_init_db425 44 = .ok (.ifCond .eq 35, 3) := by decide +kernel
theorem dJ0_init_db425_47 : decode cJ0_init_db425 47 = .ok (.aload_n 1, 1) := by decide +kernel
theorem dJ0_init_db425_48 : decode cJ0_init_db425 48 = .ok (.getfield 1048, 3) := by decide +kernel
theorem dJ0_init_db425_51 : decode cJ0_init_db425 51 = .ok (.ifCond .eq 28, 3) := by decide +kernel
theorem dJ0_init_db425_54 : decode cJ0_init_db425 54 = .ok (.aload_n 0, 1) := by decide +kernel
theorem dJ0_init_db425_55 : decode cJ0_init_db425 55 = .ok (.aload_n 3, 1) := by decide +kernel
theorem dJ0_init_db425_56 : decode cJ0_init_db425 56 = .ok (.iconst 0, 1) := by decide +kernel
theorem dJ0_init_db425_57 : decode cJ0_init_db425 57 = .ok (.iload 4, 2) := by decide +kernel
theorem dJ0_init_db425_59 : decode cJ0_init_db425 59 = .ok (.invokestatic 1051, 3) := by decide +kernel
theorem dJ0_init_db425_62 : decode cJ0_init_db425 62 = .ok (.putfield 9, 3) := by decide +kernel
theorem dJ0_init_db425_65 : decode cJ0_init_db425 65 = .ok (.aload_n 0, 1) := by decide +kernel
theorem dJ0_init_db425_66 : decode cJ0_init_db425 66 = .ok (.aload_n 0, 1) := by decide +kernel
theorem dJ0_init_db425_67 : decode cJ0_init_db425 67 = .ok (.getfield 9, 3) := by decide +kernel
theorem dJ0_init_db425_70 : decode cJ0_init_db425 70 = .ok (.iload 4, 2) := by decide +kernel
theorem dJ0_init_db425_72 : decode cJ0_init_db425 72 = .ok (.invokestatic 47, 3) := by decide +kernel
theorem dJ0_init_db425_75 : decode cJ0_init_db425 75 = .ok (.putfield 15, 3) := by decide +kernel
theorem dJ0_init_db425_78 : decode cJ0_init_db425 78 = .ok (.return_, 1) := by decide +kernel
theorem dJ0_init_db425_79 : decode cJ0_init_db425 79 = .ok (.aload_n 0, 1) := by decide +kernel
theorem dJ0_init_db425_80 : decode cJ0_init_db425 80 = .ok (.iconst 1, 1) := by decide +kernel
theorem dJ0_init_db425_81 : decode cJ0_init_db425 81 = .ok (.putfield 15, 3) := by decide +kernel
theorem dJ0_init_db425_84 : decode cJ0_init_db425 84 = .ok (.aload_n 0, 1) := by decide +kernel
theorem dJ0_init_db425_85 : decode cJ0_init_db425 85 = .ok (.aload_n 3, 1) := by decide +kernel
theorem dJ0_init_db425_86 : decode cJ0_init_db425 86 = .ok (.iconst 0, 1) := by decide +kernel
theorem dJ0_init_db425_87 : decode cJ0_init_db425 87 = .ok (.iload 4, 2) := by decide +kernel
theorem dJ0_init_db425_89 : decode cJ0_init_db425 89 = .ok (.iconst 1, 1) := by decide +kernel
theorem dJ0_init_db425_90 : decode cJ0_init_db425 90 = .ok (.ishl, 1) := by decide +kernel
theorem dJ0_init_db425_91 : decode cJ0_init_db425 91 = .ok (.invokestatic 54, 3) := by decide +kernel
theorem dJ0_init_db425_94 : decode cJ0_init_db425 94 = .ok (.putfield 9, 3) := by decide +kernel
theorem dJ0_init_db425_97 : decode cJ0_init_db425 97 = .ok (.return_, 1) := by decide +kernel
theorem dJ4_init_da8c8_0 : decode cJ4_init_da8c8 0 = .ok (.aload_n 0, 1) := by decide +kernel
theorem dJ4_init_da8c8_1 : decode cJ4_init_da8c8 1 = .ok (.bipush 16, 2) := by decide +kernel
theorem dJ4_init_da8c8_3 : decode cJ4_init_da8c8 3 = .ok (.invokespecial 1, 3) := by decide +kernel
theorem dJ4_init_da8c8_6 : decode cJ4_init_da8c8 6 = .ok (.return_, 1) := by decide +kernel
theorem dJ4_init_d00df_0 : decode cJ4_init_d00df 0 = .ok (.aload_n 0, 1) := by decide +kernel
theorem dJ4_init_d00df_1 : decode cJ4_init_d00df 1 = .ok (.iload_n 1, 1) := by decide +kernel
theorem dJ4_init_d00df_2 : decode cJ4_init_d00df 2 = .ok (.invokespecial 1, 3) := by decide +kernel
theorem dJ4_init_d00df_5 : decode cJ4_init_d00df 5 = .ok (.return_, 1) := by decide +kernel
theorem dJ4_append_cf468_0 : decode cJ4_append_cf468 0 = .ok (.aload_n 0, 1) := by decide +kernel
theorem dJ4_append_cf468_1 : decode cJ4_append_cf468 1 = .ok (.iload_n 1, 1) := by decide +kernel
theorem dJ4_append_cf468_2 : decode cJ4_append_cf468 2 = .ok (.invokespecial 50, 3) := by decide +kernel
theorem dJ4_append_cf468_5 : decode cJ4_append_cf468 5 = .ok (.pop, 1) := by decide +kernel
theorem dJ4_append_cf468_6 : decode cJ4_append_cf468 6 = .ok (.aload_n 0, 1) := by decide +kernel
theorem dJ4_append_cf468_7 : decode cJ4_append_cf468 7 = .ok (.areturn, 1) := by decide +kernel
theorem dJ4_reverse_43fcb_0 : decode cJ4_reverse_43fcb 0 = .ok (.aload_n 0, 1) := by decide +kernel
theorem dJ4_reverse_43fcb_1 : decode cJ4_reverse_43fcb 1 = .ok (.invokespecial 127, 3) := by decide +kernel
theorem dJ4_reverse_43fcb_4 : decode cJ4_reverse_43fcb 4 = .ok (.pop, 1) := by decide +kernel
theorem dJ4_reverse_43fcb_5 : decode cJ4_reverse_43fcb 5 = .ok (.aload_n 0, 1) := by decide +kernel
theorem dJ4_reverse_43fcb_6 : decode cJ4_reverse_43fcb 6 = .ok (.areturn, 1) := by decide +kernel
theorem dJ4_toString_0e30d_0 : decode cJ4_toString_0e30d 0 = .ok (.new 18, 3) := by decide +kernel
theorem dJ4_toString_0e30d_3 : decode cJ4_toString_0e30d 3 = .ok (.dup, 1) := by decide +kernel
theorem dJ4_toString_0e30d_4 : decode cJ4_toString_0e30d 4 = .ok (.aload_n 0, 1) := by decide +kernel
theorem dJ4_toString_0e30d_5 : decode cJ4_toString_0e30d 5 = .ok (.invokespecial 137, 3) := by decide +kernel
theorem dJ4_toString_0e30d_8 : decode cJ4_toString_0e30d 8 = .ok (.areturn, 1) := by decide +kernel
theorem dJ4_length_8abf5_0 : decode cJ4_length_8abf5 0 = .ok (.aload_n 0, 1) := by decide +kernel
theorem dJ4_length_8abf5_1 : decode cJ4_length_8abf5 1 = .ok (.invokespecial 343, 3) := by decide +kernel
theorem dJ4_length_8abf5_4 : decode cJ4_length_8abf5 4 = .ok (.ireturn, 1) := by decide +kernel
theorem dJ1_canEncode_fc78d_0 : decode cJ1_canEncode_fc78d 0 = .ok (.iload_n 0, 1) := by decide +kernel
theorem dJ1_canEncode_fc78d_1 : decode cJ1_canEncode_fc78d 1 = .ok (.sipush 255, 3) := by decide +kernel
theorem dJ1_canEncode_fc78d_4 : decode cJ1_canEncode_fc78d 4 = .ok (.if_icmp .gt 7, 3) := by decide +kernel
theorem dJ1_canEncode_fc78d_7 : decode cJ1_canEncode_fc78d 7 = .ok (.iconst 1, 1) := by decide +kernel
theorem dJ1_canEncode_fc78d_8 : decode cJ1_canEncode_fc78d 8 = .ok (.goto 4, 3) := by decide +kernel
theorem dJ1_canEncode_fc78d_11 : decode cJ1_canEncode_fc78d 11 = .ok (.iconst 0, 1) := by decide +kernel
theorem dJ1_canEncode_fc78d_12 : decode cJ1_canEncode_fc78d 12 = .ok (.ireturn, 1) := by decide +kernel
theorem dJ7_copyOf_9075b_0 : decode cJ7_copyOf_9075b 0 = .ok (.iload_n 1, 1) := by decide +kernel
theorem dJ7_copyOf_9075b_1 : decode cJ7_copyOf_9075b 1 = .ok (.aload_n 0, 1) := by decide +kernel
theorem dJ7_copyOf_9075b_2 : decode cJ7_copyOf_9075b 2 = .ok (.arraylength, 1) := by decide +kernel
theorem dJ7_copyOf_9075b_3 : decode cJ7_copyOf_9075b 3 = .ok (.if_icmp .ne 11, 3) := by decide +kernel
theorem dJ7_copyOf_9075b_6 : decode cJ7_copyOf_9075b 6 = .ok (.aload_n 0, 1) := by decide +kernel
theorem dJ7_copyOf_9075b_7 : decode cJ7_copyOf_9075b 7 = .ok (.invokevirtual 310, 3) := by decide +kernel
theorem dJ7_copyOf_9075b_10 : decode cJ7_copyOf_9075b 10 = .ok (.checkcast 311, 3) := by decide +kernel
theorem dJ7_copyOf_9075b_13 : decode cJ7_copyOf_9075b 13 = .ok (.areturn, 1) := by decide +kernel
theorem dJ7_copyOf_9075b_14 : decode cJ7_copyOf_9075b 14 = .ok (.iload_n 1, 1) := by decide +kernel
theorem dJ7_copyOf_9075b_15 : decode cJ7_copyOf_9075b 15 = .ok (.newarray .byte, 2) := by decide +kernel
theorem dJ7_copyOf_9075b_17 : decode cJ7_copyOf_9075b 17 = .ok (.astore_n 2, 1) := by decide +kernel
theorem dJ7_copyOf_9075b_18 : decode cJ7_copyOf_9075b 18 = .ok (.aload_n 0, 1) := by decide +kernel
theorem dJ7_copyOf_9075b_19 : decode cJ7_copyOf_9075b 19 = .ok (.iconst 0, 1) := by decide +kernel
theorem dJ7_copyOf_9075b_20 : decode cJ7_copyOf_9075b 20 = .ok (.aload_n 2, 1) := by decide +kernel
theorem dJ7_copyOf_9075b_21 : decode cJ7_copyOf_9075b 21 = .ok (.iconst 0, 1) := by decide +kernel
theorem dJ7_copyOf_9075b_22 : decode cJ7_copyOf_9075b 22 = .ok (.aload_n 0, 1) := by decide +kernel
theorem dJ7_copyOf_9075b_23 : decode cJ7_copyOf_9075b 23 = .ok (.arraylength, 1) := by decide +kernel
theorem dJ7_copyOf_9075b_24 : decode cJ7_copyOf_9075b 24 = .ok (.iload_n 1, 1) := by decide +kernel
theorem dJ7_copyOf_9075b_25 : decode cJ7_copyOf_9075b 25 = .ok (.invokestatic 304, 3) := by decide +kernel
theorem dJ7_copyOf_9075b_28 : decode cJ7_copyOf_9075b 28 = .ok (.invokestatic 150, 3) := by decide +kernel
theorem dJ7_copyOf_9075b_31 : decode cJ7_copyOf_9075b 31 = .ok (.aload_n 2, 1) := by decide +kernel
theorem dJ7_copyOf_9075b_32 : decode cJ7_copyOf_9075b 32 = .ok (.areturn, 1) := by decide +kernel
theorem dJ7_checkLength_df160_0 : decode cJ7_checkLength_df160 0 = .ok (.iload_n 1, 1) := by decide +kernel
theorem dJ7_checkLength_df160_1 : decode cJ7_checkLength_df160 1 = .ok (.iload_n 0, 1) := by decide +kernel
theorem dJ7_checkLength_df160_2 : decode cJ7_checkLength_df160 2 = .ok (.if_icmp .ge 35, 3) := by decide +kernel
theorem dJ7_checkLength_df160_5 : decode cJ7_checkLength_df160 5 = .ok (.new 43, 3) := by decide +kernel
theorem dJ7_checkLength_df160_8 : decode cJ7_checkLength_df160 8 = .ok (.dup, 1) := by decide +kernel
theorem dJ7_checkLength_df160_9 : decode cJ7_checkLength_df160 9 = .ok (.new 45, 3) := by decide +kernel
theorem dJ7_checkLength_df160_12 : decode cJ7_checkLength_df160 12 = .ok (.dup, 1) := by decide +kernel
theorem dJ7_checkLength_df160_13 : decode cJ7_checkLength_df160 13 = .ok (.invokespecial 47, 3) := by decide +kernel
theorem dJ7_checkLength_df160_16 : decode cJ7_checkLength_df160 16 = .ok (.iload_n 0, 1) := by decide +kernel
theorem dJ7_checkLength_df160_17 : decode cJ7_checkLength_df160 17 = .ok (.invokevirtual 54, 3) := by decide +kernel
theorem dJ7_checkLength_df160_20 : decode cJ7_checkLength_df160 20 = .ok (.ldc_w 337, 3) := by decide +kernel
theorem dJ7_checkLength_df160_23 : decode cJ7_checkLength_df160 23 = .ok (.invokevirtual 50, 3) := by decide +kernel
theorem dJ7_checkLength_df160_26 : decode cJ7_checkLength_df160 26 = .ok (.iload_n 1, 1) := by decide +kernel
theorem dJ7_checkLength_df160_27 : decode cJ7_checkLength_df160 27 = .ok (.invokevirtual 54, 3) := by decide +kernel
theorem dJ7_checkLength_df160_30 : decode cJ7_checkLength_df160 30 = .ok (.invokevirtual 61, 3) := by decide +kernel
theorem dJ7_checkLength_df160_33 : decode cJ7_checkLength_df160 33 = .ok (.invokespecial 65, 3) := by decide +kernel
theorem dJ7_checkLength_df160_36 : decode cJ7_checkLength_df160 36 = .ok (.athrow, 1) := by decide +kernel
theorem dJ7_checkLength_df160_37 : decode cJ7_checkLength_df160 37 = .ok (.return_, 1) := by decide +kernel
theorem dJ7_copyOfRange_39247_0 : decode cJ7_copyOfRange_39247 0 = .ok (.iload_n 1, 1) := by decide +kernel
theorem dJ7_copyOfRange_39247_1 : decode cJ7_copyOfRange_39247 1 = .ok (.ifCond .ne 9, 3) := by decide +kernel
theorem dJ7_copyOfRange_39247_4 : decode cJ7_copyOfRange_39247 4 = .ok (.iload_n 2, 1) := by decide +kernel
theorem dJ7_copyOfRange_39247_5 : decode cJ7_copyOfRange_39247 5 = .ok (.aload_n 0, 1) := by decide +kernel
theorem dJ7_copyOfRange_39247_6 : decode cJ7_copyOfRange_39247 6 = .ok (.arraylength, 1) := by decide +kernel
theorem dJ7_copyOfRange_39247_7 : decode cJ7_copyOfRange_39247 7 = .ok (.if_icmp .eq 10, 3) := by decide +kernel
theorem dJ7_copyOfRange_39247_10 : decode cJ7_copyOfRange_39247 10 = .ok (.aload_n 0, 1) := by decide +kernel
theorem dJ7_copyOfRange_39247_11 : decode cJ7_copyOfRange_39247 11 = .ok (.iload_n 1, 1) := by decide +kernel
theorem dJ7_copyOfRange_39247_12 : decode cJ7_copyOfRange_39247 12 = .ok (.iload_n 2, 1) := by decide +kernel
theorem dJ7_copyOfRange_39247_13 : decode cJ7_copyOfRange_39247 13 = .ok (.invokestatic 339, 3) := by decide +kernel
theorem dJ7_copyOfRange_39247_16 : decode cJ7_copyOfRange_39247 16 = .ok (.areturn, 1) := by decide +kernel
theorem dJ7_copyOfRange_39247_17 : decode cJ7_copyOfRange_39247 17 = .ok (.aload_n 0, 1) := by decide +kernel
theorem dJ7_copyOfRange_39247_18 : decode cJ7_copyOfRange_39247 18 = .ok (.invokevirtual 310, 3) := by decide +kernel
theorem dJ7_copyOfRange_39247_21 : decode cJ7_copyOfRange_39247 21 = .ok (.checkcast 311, 3) := by decide +kernel
theorem dJ7_copyOfRange_39247_24 : decode cJ7_copyOfRange_39247 24 = .ok (.areturn, 1) := by decide +kernel
theorem dJ7_copyOfRangeByte_39247_0 : decode cJ7_copyOfRangeByte_39247 0 = .ok (.iload_n 1, 1) := by decide +kernel
theorem dJ7_copyOfRangeByte_39247_1 : decode cJ7_copyOfRangeByte_39247 1 = .ok (.iload_n 2, 1) := by decide +kernel
theorem dJ7_copyOfRangeByte_39247_2 : decode cJ7_copyOfRangeByte_39247 2 = .ok (.invokestatic 343, 3) := by decide +kernel
theorem dJ7_copyOfRangeByte_39247_5 : decode cJ7_copyOfRangeByte_39247 5 = .ok (.iload_n 2, 1) := by decide +kernel
theorem dJ7_copyOfRangeByte_39247_6 : decode cJ7_copyOfRangeByte_39247 6 = .ok (.iload_n 1, 1) := by decide +kernel
theorem dJ7_copyOfRangeByte_39247_7 : decode cJ7_copyOfRangeByte_39247 7 = .ok (.isub, 1) := by decide +kernel
theorem dJ7_copyOfRangeByte_39247_8 : decode cJ7_copyOfRangeByte_39247 8 = .ok (.istore_n 3, 1) := by decide +kernel
theorem dJ7_copyOfRangeByte_39247_9 : decode cJ7_copyOfRangeByte_39247 9 = .ok (.iload_n 3, 1) := by decide +kernel
theorem dJ7_copyOfRangeByte_39247_10 : decode cJ7_copyOfRangeByte_39247 10 = .ok (.newarray .byte, 2) := by decide +kernel
theorem dJ7_copyOfRangeByte_39247_12 : decode cJ7_copyOfRangeByte_39247 12 = .ok (.astore 4, 2) := by decide +kernel
theorem dJ7_copyOfRangeByte_39247_14 : decode cJ7_copyOfRangeByte_39247 14 = .ok (.aload_n 0, 1) := by decide +kernel
theorem dJ7_copyOfRangeByte_39247_15 : decode cJ7_copyOfRangeByte_39247 15 = .ok (.iload_n 1, 1) := by decide +kernel
theorem dJ7_copyOfRangeByte_39247_16 : decode cJ7_copyOfRangeByte_39247 16 = .ok (.aload 4, 2) := by decide +kernel
theorem dJ7_copyOfRangeByte_39247_18 : decode cJ7_copyOfRangeByte_39247 18 = .ok (.iconst 0, 1) := by decide +kernel
theorem dJ7_copyOfRangeByte_39247_19 : decode cJ7_copyOfRangeByte_39247 19 = .ok (.aload_n 0, 1) := by decide +kernel
theorem dJ7_copyOfRangeByte_39247_20 : decode cJ7_copyOfRangeByte_39247 20 = .ok (.arraylength, 1) := by decide +kernel
theorem dJ7_copyOfRangeByte_39247_21 : decode cJ7_copyOfRangeByte_39247 21 = .ok (.iload_n 1, 1) := by decide +kernel
theorem dJ7_copyOfRangeByte_39247_22 : decode cJ7_copyOfRangeByte_39247 22 = .ok (.isub, 1) := by decide +kernel
theorem dJ7_copyOfRangeByte_39247_23 : decode cJ7_copyOfRangeByte_39247 23 = .ok (.iload_n 3, 1) := by decide +kernel
theorem dJ7_copyOfRangeByte_39247_24 : decode cJ7_copyOfRangeByte_39247 24 = .ok (.invokestatic 304, 3) := by decide +kernel
theorem dJ7_copyOfRangeByte_39247_27 : decode cJ7_copyOfRangeByte_39247 27 = .ok (.invokestatic 150, 3) := by decide +kernel
theorem dJ7_copyOfRangeByte_39247_30 : decode cJ7_copyOfRangeByte_39247 30 = .ok (.aload 4, 2) := by decide +kernel
theorem dJ7_copyOfRangeByte_39247_32 : decode cJ7_copyOfRangeByte_39247 32 = .ok (.areturn, 1) := by decide +kernel
theorem dJ8_newLength_cabcc_0 : decode cJ8_newLength_cabcc 0 = .ok (.iload_n 0, 1) := by decide +kernel
theorem dJ8_newLength_cabcc_1 : decode cJ8_newLength_cabcc 1 = .ok (.iload_n 1, 1) := by decide +kernel
theorem dJ8_newLength_cabcc_2 : decode cJ8_newLength_cabcc 2 = .ok (.iload_n 2, 1) := by decide +kernel
theorem dJ8_newLength_cabcc_3 : decode cJ8_newLength_cabcc 3 = .ok (.invokestatic 194, 3) := by decide +kernel
theorem dJ8_newLength_cabcc_6 : decode cJ8_newLength_cabcc 6 = .ok (.iadd, 1) := by decide +kernel
theorem dJ8_newLength_cabcc_7 : decode cJ8_newLength_cabcc 7 = .ok (.istore_n 3, 1) := by decide +kernel
theorem dJ8_newLength_cabcc_8 : decode cJ8_newLength_cabcc 8 = .ok (.iconst 0, 1) := by decide +kernel
theorem dJ8_newLength_cabcc_9 : decode cJ8_newLength_cabcc 9 = .ok (.iload_n 3, 1) := by decide +kernel
theorem dJ8_newLength_cabcc_10 : decode cJ8_newLength_cabcc 10 = .ok (.if_icmp .ge 11, 3) := by decide +kernel
theorem dJ8_newLength_cabcc_13 : decode cJ8_newLength_cabcc 13 = .ok (.iload_n 3, 1) := by decide +kernel
theorem dJ8_newLength_cabcc_14 : decode cJ8_newLength_cabcc 14 = .ok (.ldc 200, 2) := by decide +kernel
theorem dJ8_newLength_cabcc_16 : decode cJ8_newLength_cabcc 16 = .ok (.if_icmp .gt 5, 3) := by decide +kernel
theorem dJ8_newLength_cabcc_19 : decode cJ8_newLength_cabcc 19 = .ok (.iload_n 3, 1) := by decide +kernel
theorem dJ8_newLength_cabcc_20 : decode cJ8_newLength_cabcc 20 = .ok (.ireturn, 1) := by decide +kernel
theorem dJ8_newLength_cabcc_21 : decode cJ8_newLength_cabcc 21 = .ok (.iload_n 0, 1) := by decide +kernel
theorem dJ8_newLength_cabcc_22 : decode cJ8_newLength_cabcc 22 = .ok (.iload_n 1, 1) := by decide +kernel
theorem dJ8_newLength_cabcc_23 : decode cJ8_newLength_cabcc 23 = .ok (.invokestatic 201, 3) := by decide +kernel
theorem dJ8_newLength_cabcc_26 : decode cJ8_newLength_cabcc 26 = .ok (.ireturn, 1) := by decide +kernel
