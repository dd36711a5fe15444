theorem dL_put_0 : decode cL_put 0 = .ok (.aload 4, 2) := by decide +kernel
theorem dL_put_2 : decode cL_put 2 = .ok (.aload_n 0, 1) := by decide +kernel
theorem dL_put_3 : decode cL_put 3 = .ok (.iload_n 1, 1) := by decide +kernel
theorem dL_put_4 : decode cL_put 4 = .ok (.iload_n 2, 1) := by decide +kernel
theorem dL_put_5 : decode cL_put 5 = .ok (.iload_n 3, 1) := by decide +kernel
theorem dL_put_6 : decode cL_put 6 = .ok (.invokevirtual 7, 3) := by decide +kernel
theorem dL_put_9 : decode cL_put 9 = .ok (.i2l, 1) := by decide +kernel
theorem dL_put_10 : decode cL_put 10 = .ok (.putfield 13, 3) := by decide +kernel
theorem dL_put_13 : decode cL_put 13 = .ok (.goto 11, 3) := by decide +kernel
theorem dL_put_16 : decode cL_put 16 = .ok (.astore 5, 2) := by decide +kernel
theorem dL_put_18 : decode cL_put 18 = .ok (.iconst 1, 1) := by decide +kernel
theorem dL_put_19 : decode cL_put 19 = .ok (.ireturn, 1) := by decide +kernel
theorem dL_put_20 : decode cL_put 20 = .ok (.astore 5, 2) := by decide +kernel
theorem dL_put_22 : decode cL_put 22 = .ok (.iconst 2, 1) := by decide +kernel
theorem dL_put_23 : decode cL_put 23 = .ok (.ireturn, 1) := by decide +kernel
theorem dL_put_24 : decode cL_put 24 = .ok (.iconst 0, 1) := by decide +kernel
theorem dL_put_25 : decode cL_put 25 = .ok (.ireturn, 1) := by decide +kernel
theorem dL_write_0 : decode cL_write 0 = .ok (.aload 6, 2) := by decide +kernel
theorem dL_write_2 : decode cL_write 2 = .ok (.aload_n 0, 1) := by decide +kernel
theorem dL_write_3 : decode cL_write 3 = .ok (.iload_n 1, 1) := by decide +kernel
theorem dL_write_4 : decode cL_write 4 = .ok (.iload_n 2, 1) := by decide +kernel
theorem dL_write_5 : decode cL_write 5 = .ok (.iload_n 3, 1) := by decide +kernel
theorem dL_write_6 : decode cL_write 6 = .ok (.iload 4, 2) := by decide +kernel
theorem dL_write_8 : decode cL_write 8 = .ok (.iload 5, 2) := by decide +kernel
theorem dL_write_10 : decode cL_write 10 = .ok (.invokevirtual 23, 3) := by decide +kernel
theorem dL_write_13 : decode cL_write 13 = .ok (.i2l, 1) := by decide +kernel
theorem dL_write_14 : decode cL_write 14 = .ok (.putfield 13, 3) := by decide +kernel
theorem dL_write_17 : decode cL_write 17 = .ok (.goto 11, 3) := by decide +kernel
theorem dL_write_20 : decode cL_write 20 = .ok (.astore 7, 2) := by decide +kernel
theorem dL_write_22 : decode cL_write 22 = .ok (.iconst 1, 1) := by decide +kernel
theorem dL_write_23 : decode cL_write 23 = .ok (.ireturn, 1) := by decide +kernel
theorem dL_write_24 : decode cL_write 24 = .ok (.astore 7, 2) := by decide +kernel
theorem dL_write_26 : decode cL_write 26 = .ok (.iconst 2, 1) := by decide +kernel
theorem dL_write_27 : decode cL_write 27 = .ok (.ireturn, 1) := by decide +kernel
theorem dL_write_28 : decode cL_write 28 = .ok (.iconst 0, 1) := by decide +kernel
theorem dL_write_29 : decode cL_write 29 = .ok (.ireturn, 1) := by decide +kernel
theorem dL_copy_0 : decode cL_copy 0 = .ok (.aload_n 3, 1) := by decide +kernel
theorem dL_copy_1 : decode cL_copy 1 = .ok (.aload_n 0, 1) := by decide +kernel
theorem dL_copy_2 : decode cL_copy 2 = .ok (.iload_n 1, 1) := by decide +kernel
theorem dL_copy_3 : decode cL_copy 3 = .ok (.iload_n 2, 1) := by decide +kernel
theorem dL_copy_4 : decode cL_copy 4 = .ok (.invokevirtual 27, 3) := by decide +kernel
theorem dL_copy_7 : decode cL_copy 7 = .ok (.i2l, 1) := by decide +kernel
theorem dL_copy_8 : decode cL_copy 8 = .ok (.putfield 13, 3) := by decide +kernel
theorem dL_copy_11 : decode cL_copy 11 = .ok (.goto 7, 3) := by decide +kernel
theorem dL_copy_14 : decode cL_copy 14 = .ok (.astore 4, 2) := by decide +kernel
theorem dL_copy_16 : decode cL_copy 16 = .ok (.iconst 1, 1) := by decide +kernel
theorem dL_copy_17 : decode cL_copy 17 = .ok (.ireturn, 1) := by decide +kernel
theorem dL_copy_18 : decode cL_copy 18 = .ok (.iconst 0, 1) := by decide +kernel
theorem dL_copy_19 : decode cL_copy 19 = .ok (.ireturn, 1) := by decide +kernel
theorem dL_negate_0 : decode cL_negate 0 = .ok (.aload_n 2, 1) := by decide +kernel
theorem dL_negate_1 : decode cL_negate 1 = .ok (.aload_n 0, 1) := by decide +kernel
theorem dL_negate_2 : decode cL_negate 2 = .ok (.iload_n 1, 1) := by decide +kernel
theorem dL_negate_3 : decode cL_negate 3 = .ok (.invokevirtual 31, 3) := by decide +kernel
theorem dL_negate_6 : decode cL_negate 6 = .ok (.i2l, 1) := by decide +kernel
theorem dL_negate_7 : decode cL_negate 7 = .ok (.putfield 13, 3) := by decide +kernel
theorem dL_negate_10 : decode cL_negate 10 = .ok (.goto 6, 3) := by decide +kernel
theorem dL_negate_13 : decode cL_negate 13 = .ok (.astore_n 3, 1) := by decide +kernel
theorem dL_negate_14 : decode cL_negate 14 = .ok (.iconst 1, 1) := by decide +kernel
theorem dL_negate_15 : decode cL_negate 15 = .ok (.ireturn, 1) := by decide +kernel
theorem dL_negate_16 : decode cL_negate 16 = .ok (.iconst 0, 1) := by decide +kernel
theorem dL_negate_17 : decode cL_negate 17 = .ok (.ireturn, 1) := by decide +kernel
theorem dL_size_0 : decode cL_size 0 = .ok (.aload_n 2, 1) := by decide +kernel
theorem dL_size_1 : decode cL_size 1 = .ok (.aload_n 0, 1) := by decide +kernel
theorem dL_size_2 : decode cL_size 2 = .ok (.iload_n 1, 1) := by decide +kernel
theorem dL_size_3 : decode cL_size 3 = .ok (.invokevirtual 35, 3) := by decide +kernel
theorem dL_size_6 : decode cL_size 6 = .ok (.i2l, 1) := by decide +kernel
theorem dL_size_7 : decode cL_size 7 = .ok (.putfield 13, 3) := by decide +kernel
theorem dL_size_10 : decode cL_size 10 = .ok (.goto 6, 3) := by decide +kernel
theorem dL_size_13 : decode cL_size 13 = .ok (.astore_n 3, 1) := by decide +kernel
theorem dL_size_14 : decode cL_size 14 = .ok (.iconst 1, 1) := by decide +kernel
theorem dL_size_15 : decode cL_size 15 = .ok (.ireturn, 1) := by decide +kernel
theorem dL_size_16 : decode cL_size 16 = .ok (.iconst 0, 1) := by decide +kernel
theorem dL_size_17 : decode cL_size 17 = .ok (.ireturn, 1) := by decide +kernel
theorem dL_add_0 : decode cL_add 0 = .ok (.aload 4, 2) := by decide +kernel
theorem dL_add_2 : decode cL_add 2 = .ok (.aload_n 0, 1) := by decide +kernel
theorem dL_add_3 : decode cL_add 3 = .ok (.iload_n 1, 1) := by decide +kernel
theorem dL_add_4 : decode cL_add 4 = .ok (.iload_n 2, 1) := by decide +kernel
theorem dL_add_5 : decode cL_add 5 = .ok (.iload_n 3, 1) := by decide +kernel
theorem dL_add_6 : decode cL_add 6 = .ok (.invokevirtual 38, 3) := by decide +kernel
theorem dL_add_9 : decode cL_add 9 = .ok (.i2l, 1) := by decide +kernel
theorem dL_add_10 : decode cL_add 10 = .ok (.putfield 13, 3) := by decide +kernel
theorem dL_add_13 : decode cL_add 13 = .ok (.goto 7, 3) := by decide +kernel
theorem dL_add_16 : decode cL_add 16 = .ok (.astore 5, 2) := by decide +kernel
theorem dL_add_18 : decode cL_add 18 = .ok (.iconst 1, 1) := by decide +kernel
theorem dL_add_19 : decode cL_add 19 = .ok (.ireturn, 1) := by decide +kernel
theorem dL_add_20 : decode cL_add 20 = .ok (.iconst 0, 1) := by decide +kernel
theorem dL_add_21 : decode cL_add 21 = .ok (.ireturn, 1) := by decide +kernel
theorem dL_subtract_0 : decode cL_subtract 0 = .ok (.aload 4, 2) := by decide +kernel
theorem dL_subtract_2 : decode cL_subtract 2 = .ok (.aload_n 0, 1) := by decide +kernel
theorem dL_subtract_3 : decode cL_subtract 3 = .ok (.iload_n 1, 1) := by decide +kernel
theorem dL_subtract_4 : decode cL_subtract 4 = .ok (.iload_n 2, 1) := by decide +kernel
theorem dL_subtract_5 : decode cL_subtract 5 = .ok (.iload_n 3, 1) := by decide +kernel
theorem dL_subtract_6 : decode cL_subtract 6 = .ok (.invokevirtual 41, 3) := by decide +kernel
theorem dL_subtract_9 : decode cL_subtract 9 = .ok (.i2l, 1) := by decide +kernel
theorem dL_subtract_10 : decode cL_subtract 10 = .ok (.putfield 13, 3) := by decide +kernel
theorem dL_subtract_13 : decode cL_subtract 13 = .ok (.goto 7, 3) := by decide +kernel
theorem dL_subtract_16 : decode cL_subtract 16 = .ok (.astore 5, 2) := by decide +kernel
theorem dL_subtract_18 : decode cL_subtract 18 = .ok (.iconst 1, 1) := by decide +kernel
theorem dL_subtract_19 : decode cL_subtract 19 = .ok (.ireturn, 1) := by decide +kernel
theorem dL_subtract_20 : decode cL_subtract 20 = .ok (.iconst 0, 1) := by decide +kernel
theorem dL_subtract_21 : decode cL_subtract 21 = .ok (.ireturn, 1) := by decide +kernel
theorem dL_multiply_0 : decode cL_multiply 0 = .ok (.aload 4, 2) := by decide +kernel
theorem dL_multiply_2 : decode cL_multiply 2 = .ok (.aload_n 0, 1) := by decide +kernel
theorem dL_multiply_3 : decode cL_multiply 3 = .ok (.iload_n 1, 1) := by decide +kernel
theorem dL_multiply_4 : decode cL_multiply 4 = .ok (.iload_n 2, 1) := by decide +kernel
theorem dL_multiply_5 : decode cL_multiply 5 = .ok (.iload_n 3, 1) := by decide +kernel
theorem dL_multiply_6 : decode cL_multiply 6 = .ok (.invokevirtual 44, 3) := by decide +kernel
theorem dL_multiply_9 : decode cL_multiply 9 = .ok (.i2l, 1) := by decide +kernel
theorem dL_multiply_10 : decode cL_multiply 10 = .ok (.putfield 13, 3) := by decide +kernel
theorem dL_multiply_13 : decode cL_multiply 13 = .ok (.goto 7, 3) := by decide +kernel
theorem dL_multiply_16 : decode cL_multiply 16 = .ok (.astore 5, 2) := by decide +kernel
theorem dL_multiply_18 : decode cL_multiply 18 = .ok (.iconst 1, 1) := by decide +kernel
theorem dL_multiply_19 : decode cL_multiply 19 = .ok (.ireturn, 1) := by decide +kernel
theorem dL_multiply_20 : decode cL_multiply 20 = .ok (.iconst 0, 1) := by decide +kernel
theorem dL_multiply_21 : decode cL_multiply 21 = .ok (.ireturn, 1) := by decide +kernel
theorem dL_power_0 : decode cL_power 0 = .ok (.aload 4, 2) := by decide +kernel
theorem dL_power_2 : decode cL_power 2 = .ok (.aload_n 0, 1) := by decide +kernel
theorem dL_power_3 : decode cL_power 3 = .ok (.iload_n 1, 1) := by decide +kernel
theorem dL_power_4 : decode cL_power 4 = .ok (.iload_n 2, 1) := by decide +kernel
theorem dL_power_5 : decode cL_power 5 = .ok (.iload_n 3, 1) := by decide +kernel
theorem dL_power_6 : decode cL_power 6 = .ok (.invokevirtual 47, 3) := by decide +kernel
theorem dL_power_9 : decode cL_power 9 = .ok (.i2l, 1) := by decide +kernel
theorem dL_power_10 : decode cL_power 10 = .ok (.putfield 13, 3) := by decide +kernel
theorem dL_power_13 : decode cL_power 13 = .ok (.goto 11, 3) := by decide +kernel
theorem dL_power_16 : decode cL_power 16 = .ok (.astore 5, 2) := by decide +kernel
theorem dL_power_18 : decode cL_power 18 = .ok (.iconst 1, 1) := by decide +kernel
theorem dL_power_19 : decode cL_power 19 = .ok (.ireturn, 1) := by decide +kernel
theorem dL_power_20 : decode cL_power 20 = .ok (.astore 5, 2) := by decide +kernel
theorem dL_power_22 : decode cL_power 22 = .ok (.iconst 2, 1) := by decide +kernel
theorem dL_power_23 : decode cL_power 23 = .ok (.ireturn, 1) := by decide +kernel
theorem dL_power_24 : decode cL_power 24 = .ok (.iconst 0, 1) := by decide +kernel
theorem dL_power_25 : decode cL_power 25 = .ok (.ireturn, 1) := by decide +kernel
theorem dL_divide_0 : decode cL_divide 0 = .ok (.aload 6, 2) := by decide +kernel
theorem dL_divide_2 : decode cL_divide 2 = .ok (.aload_n 0, 1) := by decide +kernel
theorem dL_divide_3 : decode cL_divide 3 = .ok (.iload_n 1, 1) := by decide +kernel
theorem dL_divide_4 : decode cL_divide 4 = .ok (.iload_n 2, 1) := by decide +kernel
theorem dL_divide_5 : decode cL_divide 5 = .ok (.iload_n 3, 1) := by decide +kernel
theorem dL_divide_6 : decode cL_divide 6 = .ok (.iload 4, 2) := by decide +kernel
theorem dL_divide_8 : decode cL_divide 8 = .ok (.iload 5, 2) := by decide +kernel
theorem dL_divide_10 : decode cL_divide 10 = .ok (.invokevirtual 50, 3) := by decide +kernel
theorem dL_divide_13 : decode cL_divide 13 = .ok (.i2l, 1) := by decide +kernel
theorem dL_divide_14 : decode cL_divide 14 = .ok (.putfield 13, 3) := by decide +kernel
theorem dL_divide_17 : decode cL_divide 17 = .ok (.goto 11, 3) := by decide +kernel
theorem dL_divide_20 : decode cL_divide 20 = .ok (.astore 7, 2) := by decide +kernel
theorem dL_divide_22 : decode cL_divide 22 = .ok (.iconst 1, 1) := by decide +kernel
theorem dL_divide_23 : decode cL_divide 23 = .ok (.ireturn, 1) := by decide +kernel
theorem dL_divide_24 : decode cL_divide 24 = .ok (.astore 7, 2) := by decide +kernel
theorem dL_divide_26 : decode cL_divide 26 = .ok (.iconst 2, 1) := by decide +kernel
theorem dL_divide_27 : decode cL_divide 27 = .ok (.ireturn, 1) := by decide +kernel
theorem dL_divide_28 : decode cL_divide 28 = .ok (.iconst 0, 1) := by decide +kernel
theorem dL_divide_29 : decode cL_divide 29 = .ok (.ireturn, 1) := by decide +kernel
theorem dL_share_0 : decode cL_share 0 = .ok (.aload 4, 2) := by decide +kernel
theorem dL_share_2 : decode cL_share 2 = .ok (.aload_n 0, 1) := by decide +kernel
theorem dL_share_3 : decode cL_share 3 = .ok (.iload_n 1, 1) := by decide +kernel
theorem dL_share_4 : decode cL_share 4 = .ok (.iload_n 2, 1) := by decide +kernel
theorem dL_share_5 : decode cL_share 5 = .ok (.iload_n 3, 1) := by decide +kernel
theorem dL_share_6 : decode cL_share 6 = .ok (.invokevirtual 54, 3) := by decide +kernel
theorem dL_share_9 : decode cL_share 9 = .ok (.i2l, 1) := by decide +kernel
theorem dL_share_10 : decode cL_share 10 = .ok (.putfield 13, 3) := by decide +kernel
theorem dL_share_13 : decode cL_share 13 = .ok (.goto 11, 3) := by decide +kernel
theorem dL_share_16 : decode cL_share 16 = .ok (.astore 5, 2) := by decide +kernel
theorem dL_share_18 : decode cL_share 18 = .ok (.iconst 1, 1) := by decide +kernel
theorem dL_share_19 : decode cL_share 19 = .ok (.ireturn, 1) := by decide +kernel
theorem dL_share_20 : decode cL_share 20 = .ok (.astore 5, 2) := by decide +kernel
theorem dL_share_22 : decode cL_share 22 = .ok (.iconst 2, 1) := by decide +kernel
theorem dL_share_23 : decode cL_share 23 = .ok (.ireturn, 1) := by decide +kernel
theorem dL_share_24 : decode cL_share 24 = .ok (.iconst 0, 1) := by decide +kernel
theorem dL_share_25 : decode cL_share 25 = .ok (.ireturn, 1) := by decide +kernel
theorem dL_whole_0 : decode cL_whole 0 = .ok (.aload 4, 2) := by decide +kernel
theorem dL_whole_2 : decode cL_whole 2 = .ok (.aload_n 0, 1) := by decide +kernel
theorem dL_whole_3 : decode cL_whole 3 = .ok (.iload_n 1, 1) := by decide +kernel
theorem dL_whole_4 : decode cL_whole 4 = .ok (.iload_n 2, 1) := by decide +kernel
theorem dL_whole_5 : decode cL_whole 5 = .ok (.iload_n 3, 1) := by decide +kernel
theorem dL_whole_6 : decode cL_whole 6 = .ok (.invokevirtual 57, 3) := by decide +kernel
theorem dL_whole_9 : decode cL_whole 9 = .ok (.i2l, 1) := by decide +kernel
theorem dL_whole_10 : decode cL_whole 10 = .ok (.putfield 13, 3) := by decide +kernel
theorem dL_whole_13 : decode cL_whole 13 = .ok (.goto 11, 3) := by decide +kernel
theorem dL_whole_16 : decode cL_whole 16 = .ok (.astore 5, 2) := by decide +kernel
theorem dL_whole_18 : decode cL_whole 18 = .ok (.iconst 1, 1) := by decide +kernel
theorem dL_whole_19 : decode cL_whole 19 = .ok (.ireturn, 1) := by decide +kernel
theorem dL_whole_20 : decode cL_whole 20 = .ok (.astore 5, 2) := by decide +kernel
theorem dL_whole_22 : decode cL_whole 22 = .ok (.iconst 2, 1) := by decide +kernel
theorem dL_whole_23 : decode cL_whole 23 = .ok (.ireturn, 1) := by decide +kernel
theorem dL_whole_24 : decode cL_whole 24 = .ok (.iconst 0, 1) := by decide +kernel
theorem dL_whole_25 : decode cL_whole 25 = .ok (.ireturn, 1) := by decide +kernel
theorem dL_rest_0 : decode cL_rest 0 = .ok (.aload 4, 2) := by decide +kernel
theorem dL_rest_2 : decode cL_rest 2 = .ok (.aload_n 0, 1) := by decide +kernel
theorem dL_rest_3 : decode cL_rest 3 = .ok (.iload_n 1, 1) := by decide +kernel
theorem dL_rest_4 : decode cL_rest 4 = .ok (.iload_n 2, 1) := by decide +kernel
theorem dL_rest_5 : decode cL_rest 5 = .ok (.iload_n 3, 1) := by decide +kernel
theorem dL_rest_6 : decode cL_rest 6 = .ok (.invokevirtual 60, 3) := by decide +kernel
theorem dL_rest_9 : decode cL_rest 9 = .ok (.i2l, 1) := by decide +kernel
theorem dL_rest_10 : decode cL_rest 10 = .ok (.putfield 13, 3) := by decide +kernel
theorem dL_rest_13 : decode cL_rest 13 = .ok (.goto 11, 3) := by decide +kernel
theorem dL_rest_16 : decode cL_rest 16 = .ok (.astore 5, 2) := by decide +kernel
theorem dL_rest_18 : decode cL_rest 18 = .ok (.iconst 1, 1) := by decide +kernel
theorem dL_rest_19 : decode cL_rest 19 = .ok (.ireturn, 1) := by decide +kernel
theorem dL_rest_20 : decode cL_rest 20 = .ok (.astore 5, 2) := by decide +kernel
theorem dL_rest_22 : decode cL_rest 22 = .ok (.iconst 2, 1) := by decide +kernel
theorem dL_rest_23 : decode cL_rest 23 = .ok (.ireturn, 1) := by decide +kernel
theorem dL_rest_24 : decode cL_rest 24 = .ok (.iconst 0, 1) := by decide +kernel
theorem dL_rest_25 : decode cL_rest 25 = .ok (.ireturn, 1) := by decide +kernel
theorem dL_setPlaces_0 : decode cL_setPlaces 0 = .ok (.aload 4, 2) := by decide +kernel
theorem dL_setPlaces_2 : decode cL_setPlaces 2 = .ok (.aload_n 0, 1) := by decide +kernel
theorem dL_setPlaces_3 : decode cL_setPlaces 3 = .ok (.iload_n 1, 1) := by decide +kernel
theorem dL_setPlaces_4 : decode cL_setPlaces 4 = .ok (.iload_n 2, 1) := by decide +kernel
theorem dL_setPlaces_5 : decode cL_setPlaces 5 = .ok (.iload_n 3, 1) := by decide +kernel
theorem dL_setPlaces_6 : decode cL_setPlaces 6 = .ok (.invokevirtual 63, 3) := by decide +kernel
theorem dL_setPlaces_9 : decode cL_setPlaces 9 = .ok (.i2l, 1) := by decide +kernel
theorem dL_setPlaces_10 : decode cL_setPlaces 10 = .ok (.putfield 13, 3) := by decide +kernel
theorem dL_setPlaces_13 : decode cL_setPlaces 13 = .ok (.goto 11, 3) := by decide +kernel
theorem dL_setPlaces_16 : decode cL_setPlaces 16 = .ok (.astore 5, 2) := by decide +kernel
theorem dL_setPlaces_18 : decode cL_setPlaces 18 = .ok (.iconst 1, 1) := by decide +kernel
theorem dL_setPlaces_19 : decode cL_setPlaces 19 = .ok (.ireturn, 1) := by decide +kernel
theorem dL_setPlaces_20 : decode cL_setPlaces 20 = .ok (.astore 5, 2) := by decide +kernel
theorem dL_setPlaces_22 : decode cL_setPlaces 22 = .ok (.iconst 2, 1) := by decide +kernel
theorem dL_setPlaces_23 : decode cL_setPlaces 23 = .ok (.ireturn, 1) := by decide +kernel
theorem dL_setPlaces_24 : decode cL_setPlaces 24 = .ok (.iconst 0, 1) := by decide +kernel
theorem dL_setPlaces_25 : decode cL_setPlaces 25 = .ok (.ireturn, 1) := by decide +kernel
theorem dL_strip_0 : decode cL_strip 0 = .ok (.aload_n 2, 1) := by decide +kernel
theorem dL_strip_1 : decode cL_strip 1 = .ok (.aload_n 0, 1) := by decide +kernel
theorem dL_strip_2 : decode cL_strip 2 = .ok (.iload_n 1, 1) := by decide +kernel
theorem dL_strip_3 : decode cL_strip 3 = .ok (.invokevirtual 66, 3) := by decide +kernel
theorem dL_strip_6 : decode cL_strip 6 = .ok (.i2l, 1) := by decide +kernel
theorem dL_strip_7 : decode cL_strip 7 = .ok (.putfield 13, 3) := by decide +kernel
theorem dL_strip_10 : decode cL_strip 10 = .ok (.goto 6, 3) := by decide +kernel
theorem dL_strip_13 : decode cL_strip 13 = .ok (.astore_n 3, 1) := by decide +kernel
theorem dL_strip_14 : decode cL_strip 14 = .ok (.iconst 1, 1) := by decide +kernel
theorem dL_strip_15 : decode cL_strip 15 = .ok (.ireturn, 1) := by decide +kernel
theorem dL_strip_16 : decode cL_strip 16 = .ok (.iconst 0, 1) := by decide +kernel
theorem dL_strip_17 : decode cL_strip 17 = .ok (.ireturn, 1) := by decide +kernel
theorem dL_move_0 : decode cL_move 0 = .ok (.aload_n 3, 1) := by decide +kernel
theorem dL_move_1 : decode cL_move 1 = .ok (.aload_n 0, 1) := by decide +kernel
theorem dL_move_2 : decode cL_move 2 = .ok (.iload_n 1, 1) := by decide +kernel
theorem dL_move_3 : decode cL_move 3 = .ok (.iload_n 2, 1) := by decide +kernel
theorem dL_move_4 : decode cL_move 4 = .ok (.invokevirtual 69, 3) := by decide +kernel
theorem dL_move_7 : decode cL_move 7 = .ok (.i2l, 1) := by decide +kernel
theorem dL_move_8 : decode cL_move 8 = .ok (.putfield 13, 3) := by decide +kernel
theorem dL_move_11 : decode cL_move 11 = .ok (.goto 11, 3) := by decide +kernel
theorem dL_move_14 : decode cL_move 14 = .ok (.astore 4, 2) := by decide +kernel
theorem dL_move_16 : decode cL_move 16 = .ok (.iconst 1, 1) := by decide +kernel
theorem dL_move_17 : decode cL_move 17 = .ok (.ireturn, 1) := by decide +kernel
theorem dL_move_18 : decode cL_move 18 = .ok (.astore 4, 2) := by decide +kernel
theorem dL_move_20 : decode cL_move 20 = .ok (.iconst 2, 1) := by decide +kernel
theorem dL_move_21 : decode cL_move 21 = .ok (.ireturn, 1) := by decide +kernel
theorem dL_move_22 : decode cL_move 22 = .ok (.iconst 0, 1) := by decide +kernel
theorem dL_move_23 : decode cL_move 23 = .ok (.ireturn, 1) := by decide +kernel
theorem dL_round_0 : decode cL_round 0 = .ok (.aload 4, 2) := by decide +kernel
theorem dL_round_2 : decode cL_round 2 = .ok (.aload_n 0, 1) := by decide +kernel
theorem dL_round_3 : decode cL_round 3 = .ok (.iload_n 1, 1) := by decide +kernel
theorem dL_round_4 : decode cL_round 4 = .ok (.iload_n 2, 1) := by decide +kernel
theorem dL_round_5 : decode cL_round 5 = .ok (.iload_n 3, 1) := by decide +kernel
theorem dL_round_6 : decode cL_round 6 = .ok (.invokevirtual 72, 3) := by decide +kernel
theorem dL_round_9 : decode cL_round 9 = .ok (.i2l, 1) := by decide +kernel
theorem dL_round_10 : decode cL_round 10 = .ok (.putfield 13, 3) := by decide +kernel
theorem dL_round_13 : decode cL_round 13 = .ok (.goto 11, 3) := by decide +kernel
theorem dL_round_16 : decode cL_round 16 = .ok (.astore 5, 2) := by decide +kernel
theorem dL_round_18 : decode cL_round 18 = .ok (.iconst 1, 1) := by decide +kernel
theorem dL_round_19 : decode cL_round 19 = .ok (.ireturn, 1) := by decide +kernel
theorem dL_round_20 : decode cL_round 20 = .ok (.astore 5, 2) := by decide +kernel
theorem dL_round_22 : decode cL_round 22 = .ok (.iconst 2, 1) := by decide +kernel
theorem dL_round_23 : decode cL_round 23 = .ok (.ireturn, 1) := by decide +kernel
theorem dL_round_24 : decode cL_round 24 = .ok (.iconst 0, 1) := by decide +kernel
theorem dL_round_25 : decode cL_round 25 = .ok (.ireturn, 1) := by decide +kernel
theorem dL_greater_0 : decode cL_greater 0 = .ok (.aload 4, 2) := by decide +kernel
theorem dL_greater_2 : decode cL_greater 2 = .ok (.aload_n 0, 1) := by decide +kernel
theorem dL_greater_3 : decode cL_greater 3 = .ok (.iload_n 1, 1) := by decide +kernel
theorem dL_greater_4 : decode cL_greater 4 = .ok (.iload_n 2, 1) := by decide +kernel
theorem dL_greater_5 : decode cL_greater 5 = .ok (.iload_n 3, 1) := by decide +kernel
theorem dL_greater_6 : decode cL_greater 6 = .ok (.invokevirtual 75, 3) := by decide +kernel
theorem dL_greater_9 : decode cL_greater 9 = .ok (.i2l, 1) := by decide +kernel
theorem dL_greater_10 : decode cL_greater 10 = .ok (.putfield 13, 3) := by decide +kernel
theorem dL_greater_13 : decode cL_greater 13 = .ok (.goto 7, 3) := by decide +kernel
theorem dL_greater_16 : decode cL_greater 16 = .ok (.astore 5, 2) := by decide +kernel
theorem dL_greater_18 : decode cL_greater 18 = .ok (.iconst 1, 1) := by decide +kernel
theorem dL_greater_19 : decode cL_greater 19 = .ok (.ireturn, 1) := by decide +kernel
theorem dL_greater_20 : decode cL_greater 20 = .ok (.iconst 0, 1) := by decide +kernel
theorem dL_greater_21 : decode cL_greater 21 = .ok (.ireturn, 1) := by decide +kernel
theorem dL_lesser_0 : decode cL_lesser 0 = .ok (.aload 4, 2) := by decide +kernel
theorem dL_lesser_2 : decode cL_lesser 2 = .ok (.aload_n 0, 1) := by decide +kernel
theorem dL_lesser_3 : decode cL_lesser 3 = .ok (.iload_n 1, 1) := by decide +kernel
theorem dL_lesser_4 : decode cL_lesser 4 = .ok (.iload_n 2, 1) := by decide +kernel
theorem dL_lesser_5 : decode cL_lesser 5 = .ok (.iload_n 3, 1) := by decide +kernel
theorem dL_lesser_6 : decode cL_lesser 6 = .ok (.invokevirtual 78, 3) := by decide +kernel
theorem dL_lesser_9 : decode cL_lesser 9 = .ok (.i2l, 1) := by decide +kernel
theorem dL_lesser_10 : decode cL_lesser 10 = .ok (.putfield 13, 3) := by decide +kernel
theorem dL_lesser_13 : decode cL_lesser 13 = .ok (.goto 7, 3) := by decide +kernel
theorem dL_lesser_16 : decode cL_lesser 16 = .ok (.astore 5, 2) := by decide +kernel
theorem dL_lesser_18 : decode cL_lesser 18 = .ok (.iconst 1, 1) := by decide +kernel
theorem dL_lesser_19 : decode cL_lesser 19 = .ok (.ireturn, 1) := by decide +kernel
theorem dL_lesser_20 : decode cL_lesser 20 = .ok (.iconst 0, 1) := by decide +kernel
theorem dL_lesser_21 : decode cL_lesser 21 = .ok (.ireturn, 1) := by decide +kernel
theorem dL_cut_0 : decode cL_cut 0 = .ok (.aload 6, 2) := by decide +kernel
theorem dL_cut_2 : decode cL_cut 2 = .ok (.aload_n 0, 1) := by decide +kernel
theorem dL_cut_3 : decode cL_cut 3 = .ok (.iload_n 1, 1) := by decide +kernel
theorem dL_cut_4 : decode cL_cut 4 = .ok (.iload_n 2, 1) := by decide +kernel
theorem dL_cut_5 : decode cL_cut 5 = .ok (.iload_n 3, 1) := by decide +kernel
theorem dL_cut_6 : decode cL_cut 6 = .ok (.iload 4, 2) := by decide +kernel
theorem dL_cut_8 : decode cL_cut 8 = .ok (.iload 5, 2) := by decide +kernel
theorem dL_cut_10 : decode cL_cut 10 = .ok (.invokevirtual 81, 3) := by decide +kernel
theorem dL_cut_13 : decode cL_cut 13 = .ok (.i2l, 1) := by decide +kernel
theorem dL_cut_14 : decode cL_cut 14 = .ok (.putfield 13, 3) := by decide +kernel
theorem dL_cut_17 : decode cL_cut 17 = .ok (.goto 11, 3) := by decide +kernel
theorem dL_cut_20 : decode cL_cut 20 = .ok (.astore 7, 2) := by decide +kernel
theorem dL_cut_22 : decode cL_cut 22 = .ok (.iconst 1, 1) := by decide +kernel
theorem dL_cut_23 : decode cL_cut 23 = .ok (.ireturn, 1) := by decide +kernel
theorem dL_cut_24 : decode cL_cut 24 = .ok (.astore 7, 2) := by decide +kernel
theorem dL_cut_26 : decode cL_cut 26 = .ok (.iconst 2, 1) := by decide +kernel
theorem dL_cut_27 : decode cL_cut 27 = .ok (.ireturn, 1) := by decide +kernel
theorem dL_cut_28 : decode cL_cut 28 = .ok (.iconst 0, 1) := by decide +kernel
theorem dL_cut_29 : decode cL_cut 29 = .ok (.ireturn, 1) := by decide +kernel
theorem dL_count_0 : decode cL_count 0 = .ok (.aload_n 2, 1) := by decide +kernel
theorem dL_count_1 : decode cL_count 1 = .ok (.aload_n 0, 1) := by decide +kernel
theorem dL_count_2 : decode cL_count 2 = .ok (.iload_n 1, 1) := by decide +kernel
theorem dL_count_3 : decode cL_count 3 = .ok (.invokevirtual 84, 3) := by decide +kernel
theorem dL_count_6 : decode cL_count 6 = .ok (.i2l, 1) := by decide +kernel
theorem dL_count_7 : decode cL_count 7 = .ok (.putfield 13, 3) := by decide +kernel
theorem dL_count_10 : decode cL_count 10 = .ok (.goto 6, 3) := by decide +kernel
theorem dL_count_13 : decode cL_count 13 = .ok (.astore_n 3, 1) := by decide +kernel
theorem dL_count_14 : decode cL_count 14 = .ok (.iconst 1, 1) := by decide +kernel
theorem dL_count_15 : decode cL_count 15 = .ok (.ireturn, 1) := by decide +kernel
theorem dL_count_16 : decode cL_count 16 = .ok (.iconst 0, 1) := by decide +kernel
theorem dL_count_17 : decode cL_count 17 = .ok (.ireturn, 1) := by decide +kernel
theorem dL_places_0 : decode cL_places 0 = .ok (.aload_n 2, 1) := by decide +kernel
theorem dL_places_1 : decode cL_places 1 = .ok (.aload_n 0, 1) := by decide +kernel
theorem dL_places_2 : decode cL_places 2 = .ok (.iload_n 1, 1) := by decide +kernel
theorem dL_places_3 : decode cL_places 3 = .ok (.invokevirtual 87, 3) := by decide +kernel
theorem dL_places_6 : decode cL_places 6 = .ok (.i2l, 1) := by decide +kernel
theorem dL_places_7 : decode cL_places 7 = .ok (.putfield 13, 3) := by decide +kernel
theorem dL_places_10 : decode cL_places 10 = .ok (.goto 6, 3) := by decide +kernel
theorem dL_places_13 : decode cL_places 13 = .ok (.astore_n 3, 1) := by decide +kernel
theorem dL_places_14 : decode cL_places 14 = .ok (.iconst 1, 1) := by decide +kernel
theorem dL_places_15 : decode cL_places 15 = .ok (.ireturn, 1) := by decide +kernel
theorem dL_places_16 : decode cL_places 16 = .ok (.iconst 0, 1) := by decide +kernel
theorem dL_places_17 : decode cL_places 17 = .ok (.ireturn, 1) := by decide +kernel
theorem dL_digits_0 : decode cL_digits 0 = .ok (.aload_n 2, 1) := by decide +kernel
theorem dL_digits_1 : decode cL_digits 1 = .ok (.aload_n 0, 1) := by decide +kernel
theorem dL_digits_2 : decode cL_digits 2 = .ok (.iload_n 1, 1) := by decide +kernel
theorem dL_digits_3 : decode cL_digits 3 = .ok (.invokevirtual 90, 3) := by decide +kernel
theorem dL_digits_6 : decode cL_digits 6 = .ok (.i2l, 1) := by decide +kernel
theorem dL_digits_7 : decode cL_digits 7 = .ok (.putfield 13, 3) := by decide +kernel
theorem dL_digits_10 : decode cL_digits 10 = .ok (.goto 6, 3) := by decide +kernel
theorem dL_digits_13 : decode cL_digits 13 = .ok (.astore_n 3, 1) := by decide +kernel
theorem dL_digits_14 : decode cL_digits 14 = .ok (.iconst 1, 1) := by decide +kernel
theorem dL_digits_15 : decode cL_digits 15 = .ok (.ireturn, 1) := by decide +kernel
theorem dL_digits_16 : decode cL_digits 16 = .ok (.iconst 0, 1) := by decide +kernel
theorem dL_digits_17 : decode cL_digits 17 = .ok (.ireturn, 1) := by decide +kernel
theorem dL_sign_0 : decode cL_sign 0 = .ok (.aload_n 2, 1) := by decide +kernel
theorem dL_sign_1 : decode cL_sign 1 = .ok (.aload_n 0, 1) := by decide +kernel
theorem dL_sign_2 : decode cL_sign 2 = .ok (.iload_n 1, 1) := by decide +kernel
theorem dL_sign_3 : decode cL_sign 3 = .ok (.invokevirtual 93, 3) := by decide +kernel
theorem dL_sign_6 : decode cL_sign 6 = .ok (.i2l, 1) := by decide +kernel
theorem dL_sign_7 : decode cL_sign 7 = .ok (.putfield 13, 3) := by decide +kernel
theorem dL_sign_10 : decode cL_sign 10 = .ok (.goto 6, 3) := by decide +kernel
theorem dL_sign_13 : decode cL_sign 13 = .ok (.astore_n 3, 1) := by decide +kernel
theorem dL_sign_14 : decode cL_sign 14 = .ok (.iconst 1, 1) := by decide +kernel
theorem dL_sign_15 : decode cL_sign 15 = .ok (.ireturn, 1) := by decide +kernel
theorem dL_sign_16 : decode cL_sign 16 = .ok (.iconst 0, 1) := by decide +kernel
theorem dL_sign_17 : decode cL_sign 17 = .ok (.ireturn, 1) := by decide +kernel
theorem dL_text_0 : decode cL_text 0 = .ok (.aload_n 3, 1) := by decide +kernel
theorem dL_text_1 : decode cL_text 1 = .ok (.aload_n 0, 1) := by decide +kernel
theorem dL_text_2 : decode cL_text 2 = .ok (.iload_n 1, 1) := by decide +kernel
theorem dL_text_3 : decode cL_text 3 = .ok (.iload_n 2, 1) := by decide +kernel
theorem dL_text_4 : decode cL_text 4 = .ok (.invokevirtual 96, 3) := by decide +kernel
theorem dL_text_7 : decode cL_text 7 = .ok (.putfield 100, 3) := by decide +kernel
theorem dL_text_10 : decode cL_text 10 = .ok (.goto 11, 3) := by decide +kernel
theorem dL_text_13 : decode cL_text 13 = .ok (.astore 4, 2) := by decide +kernel
theorem dL_text_15 : decode cL_text 15 = .ok (.iconst 1, 1) := by decide +kernel
theorem dL_text_16 : decode cL_text 16 = .ok (.ireturn, 1) := by decide +kernel
theorem dL_text_17 : decode cL_text 17 = .ok (.astore 4, 2) := by decide +kernel
theorem dL_text_19 : decode cL_text 19 = .ok (.iconst 2, 1) := by decide +kernel
theorem dL_text_20 : decode cL_text 20 = .ok (.ireturn, 1) := by decide +kernel
theorem dL_text_21 : decode cL_text 21 = .ok (.iconst 0, 1) := by decide +kernel
theorem dL_text_22 : decode cL_text 22 = .ok (.ireturn, 1) := by decide +kernel
theorem dL_order_0 : decode cL_order 0 = .ok (.aload_n 3, 1) := by decide +kernel
theorem dL_order_1 : decode cL_order 1 = .ok (.aload_n 0, 1) := by decide +kernel
theorem dL_order_2 : decode cL_order 2 = .ok (.iload_n 1, 1) := by decide +kernel
theorem dL_order_3 : decode cL_order 3 = .ok (.iload_n 2, 1) := by decide +kernel
theorem dL_order_4 : decode cL_order 4 = .ok (.invokevirtual 104, 3) := by decide +kernel
theorem dL_order_7 : decode cL_order 7 = .ok (.i2l, 1) := by decide +kernel
theorem dL_order_8 : decode cL_order 8 = .ok (.putfield 13, 3) := by decide +kernel
theorem dL_order_11 : decode cL_order 11 = .ok (.goto 7, 3) := by decide +kernel
theorem dL_order_14 : decode cL_order 14 = .ok (.astore 4, 2) := by decide +kernel
theorem dL_order_16 : decode cL_order 16 = .ok (.iconst 1, 1) := by decide +kernel
theorem dL_order_17 : decode cL_order 17 = .ok (.ireturn, 1) := by decide +kernel
theorem dL_order_18 : decode cL_order 18 = .ok (.iconst 0, 1) := by decide +kernel
theorem dL_order_19 : decode cL_order 19 = .ok (.ireturn, 1) := by decide +kernel
theorem dL_same_0 : decode cL_same 0 = .ok (.aload_n 3, 1) := by decide +kernel
theorem dL_same_1 : decode cL_same 1 = .ok (.aload_n 0, 1) := by decide +kernel
theorem dL_same_2 : decode cL_same 2 = .ok (.iload_n 1, 1) := by decide +kernel
theorem dL_same_3 : decode cL_same 3 = .ok (.iload_n 2, 1) := by decide +kernel
theorem dL_same_4 : decode cL_same 4 = .ok (.invokevirtual 107, 3) := by decide +kernel
theorem dL_same_7 : decode cL_same 7 = .ok (.ifCond .eq 7, 3) := by decide +kernel
theorem dL_same_10 : decode cL_same 10 = .ok (.lconst 1, 1) := by decide +kernel
theorem dL_same_11 : decode cL_same 11 = .ok (.goto 4, 3) := by decide +kernel
theorem dL_same_14 : decode cL_same 14 = .ok (.lconst 0, 1) := by decide +kernel
theorem dL_same_15 : decode cL_same 15 = .ok (.putfield 13, 3) := by decide +kernel
theorem dL_same_18 : decode cL_same 18 = .ok (.goto 7, 3) := by decide +kernel
theorem dL_same_21 : decode cL_same 21 = .ok (.astore 4, 2) := by decide +kernel
theorem dL_same_23 : decode cL_same 23 = .ok (.iconst 1, 1) := by decide +kernel
theorem dL_same_24 : decode cL_same 24 = .ok (.ireturn, 1) := by decide +kernel
theorem dL_same_25 : decode cL_same 25 = .ok (.iconst 0, 1) := by decide +kernel
theorem dL_same_26 : decode cL_same 26 = .ok (.ireturn, 1) := by decide +kernel
theorem dL_setWheel_0 : decode cL_setWheel 0 = .ok (.aload 4, 2) := by decide +kernel
theorem dL_setWheel_2 : decode cL_setWheel 2 = .ok (.aload_n 0, 1) := by decide +kernel
theorem dL_setWheel_3 : decode cL_setWheel 3 = .ok (.iload_n 1, 1) := by decide +kernel
theorem dL_setWheel_4 : decode cL_setWheel 4 = .ok (.iload_n 2, 1) := by decide +kernel
theorem dL_setWheel_5 : decode cL_setWheel 5 = .ok (.iload_n 3, 1) := by decide +kernel
theorem dL_setWheel_6 : decode cL_setWheel 6 = .ok (.invokevirtual 111, 3) := by decide +kernel
theorem dL_setWheel_9 : decode cL_setWheel 9 = .ok (.i2l, 1) := by decide +kernel
theorem dL_setWheel_10 : decode cL_setWheel 10 = .ok (.putfield 13, 3) := by decide +kernel
theorem dL_setWheel_13 : decode cL_setWheel 13 = .ok (.goto 11, 3) := by decide +kernel
theorem dL_setWheel_16 : decode cL_setWheel 16 = .ok (.astore 5, 2) := by decide +kernel
theorem dL_setWheel_18 : decode cL_setWheel 18 = .ok (.iconst 1, 1) := by decide +kernel
theorem dL_setWheel_19 : decode cL_setWheel 19 = .ok (.ireturn, 1) := by decide +kernel
theorem dL_setWheel_20 : decode cL_setWheel 20 = .ok (.astore 5, 2) := by decide +kernel
theorem dL_setWheel_22 : decode cL_setWheel 22 = .ok (.iconst 2, 1) := by decide +kernel
theorem dL_setWheel_23 : decode cL_setWheel 23 = .ok (.ireturn, 1) := by decide +kernel
theorem dL_setWheel_24 : decode cL_setWheel 24 = .ok (.iconst 0, 1) := by decide +kernel
theorem dL_setWheel_25 : decode cL_setWheel 25 = .ok (.ireturn, 1) := by decide +kernel
theorem dL_step_0 : decode cL_step 0 = .ok (.aload_n 2, 1) := by decide +kernel
theorem dL_step_1 : decode cL_step 1 = .ok (.aload_n 0, 1) := by decide +kernel
theorem dL_step_2 : decode cL_step 2 = .ok (.iload_n 1, 1) := by decide +kernel
theorem dL_step_3 : decode cL_step 3 = .ok (.invokevirtual 114, 3) := by decide +kernel
theorem dL_step_6 : decode cL_step 6 = .ok (.i2l, 1) := by decide +kernel
theorem dL_step_7 : decode cL_step 7 = .ok (.putfield 13, 3) := by decide +kernel
theorem dL_step_10 : decode cL_step 10 = .ok (.goto 6, 3) := by decide +kernel
theorem dL_step_13 : decode cL_step 13 = .ok (.astore_n 3, 1) := by decide +kernel
theorem dL_step_14 : decode cL_step 14 = .ok (.iconst 1, 1) := by decide +kernel
theorem dL_step_15 : decode cL_step 15 = .ok (.ireturn, 1) := by decide +kernel
theorem dL_step_16 : decode cL_step 16 = .ok (.iconst 0, 1) := by decide +kernel
theorem dL_step_17 : decode cL_step 17 = .ok (.ireturn, 1) := by decide +kernel
theorem dL_turn_0 : decode cL_turn 0 = .ok (.aload_n 3, 1) := by decide +kernel
theorem dL_turn_1 : decode cL_turn 1 = .ok (.aload_n 0, 1) := by decide +kernel
theorem dL_turn_2 : decode cL_turn 2 = .ok (.iload_n 1, 1) := by decide +kernel
theorem dL_turn_3 : decode cL_turn 3 = .ok (.iload_n 2, 1) := by decide +kernel
theorem dL_turn_4 : decode cL_turn 4 = .ok (.invokevirtual 117, 3) := by decide +kernel
theorem dL_turn_7 : decode cL_turn 7 = .ok (.i2l, 1) := by decide +kernel
theorem dL_turn_8 : decode cL_turn 8 = .ok (.putfield 13, 3) := by decide +kernel
theorem dL_turn_11 : decode cL_turn 11 = .ok (.goto 11, 3) := by decide +kernel
theorem dL_turn_14 : decode cL_turn 14 = .ok (.astore 4, 2) := by decide +kernel
theorem dL_turn_16 : decode cL_turn 16 = .ok (.iconst 1, 1) := by decide +kernel
theorem dL_turn_17 : decode cL_turn 17 = .ok (.ireturn, 1) := by decide +kernel
theorem dL_turn_18 : decode cL_turn 18 = .ok (.astore 4, 2) := by decide +kernel
theorem dL_turn_20 : decode cL_turn 20 = .ok (.iconst 2, 1) := by decide +kernel
theorem dL_turn_21 : decode cL_turn 21 = .ok (.ireturn, 1) := by decide +kernel
theorem dL_turn_22 : decode cL_turn 22 = .ok (.iconst 0, 1) := by decide +kernel
theorem dL_turn_23 : decode cL_turn 23 = .ok (.ireturn, 1) := by decide +kernel
theorem dL_times_0 : decode cL_times 0 = .ok (.aload 4, 2) := by decide +kernel
theorem dL_times_2 : decode cL_times 2 = .ok (.aload_n 0, 1) := by decide +kernel
theorem dL_times_3 : decode cL_times 3 = .ok (.iload_n 1, 1) := by decide +kernel
theorem dL_times_4 : decode cL_times 4 = .ok (.iload_n 2, 1) := by decide +kernel
theorem dL_times_5 : decode cL_times 5 = .ok (.iload_n 3, 1) := by decide +kernel
theorem dL_times_6 : decode cL_times 6 = .ok (.invokevirtual 120, 3) := by decide +kernel
theorem dL_times_9 : decode cL_times 9 = .ok (.i2l, 1) := by decide +kernel
theorem dL_times_10 : decode cL_times 10 = .ok (.putfield 13, 3) := by decide +kernel
theorem dL_times_13 : decode cL_times 13 = .ok (.goto 11, 3) := by decide +kernel
theorem dL_times_16 : decode cL_times 16 = .ok (.astore 5, 2) := by decide +kernel
theorem dL_times_18 : decode cL_times 18 = .ok (.iconst 1, 1) := by decide +kernel
theorem dL_times_19 : decode cL_times 19 = .ok (.ireturn, 1) := by decide +kernel
theorem dL_times_20 : decode cL_times 20 = .ok (.astore 5, 2) := by decide +kernel
theorem dL_times_22 : decode cL_times 22 = .ok (.iconst 2, 1) := by decide +kernel
theorem dL_times_23 : decode cL_times 23 = .ok (.ireturn, 1) := by decide +kernel
theorem dL_times_24 : decode cL_times 24 = .ok (.iconst 0, 1) := by decide +kernel
theorem dL_times_25 : decode cL_times 25 = .ok (.ireturn, 1) := by decide +kernel
theorem dL_spoke_0 : decode cL_spoke 0 = .ok (.aload_n 3, 1) := by decide +kernel
theorem dL_spoke_1 : decode cL_spoke 1 = .ok (.aload_n 0, 1) := by decide +kernel
theorem dL_spoke_2 : decode cL_spoke 2 = .ok (.iload_n 1, 1) := by decide +kernel
theorem dL_spoke_3 : decode cL_spoke 3 = .ok (.iload_n 2, 1) := by decide +kernel
theorem dL_spoke_4 : decode cL_spoke 4 = .ok (.invokevirtual 123, 3) := by decide +kernel
theorem dL_spoke_7 : decode cL_spoke 7 = .ok (.i2l, 1) := by decide +kernel
theorem dL_spoke_8 : decode cL_spoke 8 = .ok (.putfield 13, 3) := by decide +kernel
theorem dL_spoke_11 : decode cL_spoke 11 = .ok (.goto 11, 3) := by decide +kernel
theorem dL_spoke_14 : decode cL_spoke 14 = .ok (.astore 4, 2) := by decide +kernel
theorem dL_spoke_16 : decode cL_spoke 16 = .ok (.iconst 1, 1) := by decide +kernel
theorem dL_spoke_17 : decode cL_spoke 17 = .ok (.ireturn, 1) := by decide +kernel
theorem dL_spoke_18 : decode cL_spoke 18 = .ok (.astore 4, 2) := by decide +kernel
theorem dL_spoke_20 : decode cL_spoke 20 = .ok (.iconst 2, 1) := by decide +kernel
theorem dL_spoke_21 : decode cL_spoke 21 = .ok (.ireturn, 1) := by decide +kernel
theorem dL_spoke_22 : decode cL_spoke 22 = .ok (.iconst 0, 1) := by decide +kernel
theorem dL_spoke_23 : decode cL_spoke 23 = .ok (.ireturn, 1) := by decide +kernel
theorem dL_lowest_0 : decode cL_lowest 0 = .ok (.aload_n 2, 1) := by decide +kernel
theorem dL_lowest_1 : decode cL_lowest 1 = .ok (.aload_n 0, 1) := by decide +kernel
theorem dL_lowest_2 : decode cL_lowest 2 = .ok (.iload_n 1, 1) := by decide +kernel
theorem dL_lowest_3 : decode cL_lowest 3 = .ok (.invokevirtual 126, 3) := by decide +kernel
theorem dL_lowest_6 : decode cL_lowest 6 = .ok (.i2l, 1) := by decide +kernel
theorem dL_lowest_7 : decode cL_lowest 7 = .ok (.putfield 13, 3) := by decide +kernel
theorem dL_lowest_10 : decode cL_lowest 10 = .ok (.goto 6, 3) := by decide +kernel
theorem dL_lowest_13 : decode cL_lowest 13 = .ok (.astore_n 3, 1) := by decide +kernel
theorem dL_lowest_14 : decode cL_lowest 14 = .ok (.iconst 1, 1) := by decide +kernel
theorem dL_lowest_15 : decode cL_lowest 15 = .ok (.ireturn, 1) := by decide +kernel
theorem dL_lowest_16 : decode cL_lowest 16 = .ok (.iconst 0, 1) := by decide +kernel
theorem dL_lowest_17 : decode cL_lowest 17 = .ok (.ireturn, 1) := by decide +kernel
theorem dL_tens_0 : decode cL_tens 0 = .ok (.aload_n 2, 1) := by decide +kernel
theorem dL_tens_1 : decode cL_tens 1 = .ok (.aload_n 0, 1) := by decide +kernel
theorem dL_tens_2 : decode cL_tens 2 = .ok (.iload_n 1, 1) := by decide +kernel
theorem dL_tens_3 : decode cL_tens 3 = .ok (.invokevirtual 129, 3) := by decide +kernel
theorem dL_tens_6 : decode cL_tens 6 = .ok (.i2l, 1) := by decide +kernel
theorem dL_tens_7 : decode cL_tens 7 = .ok (.putfield 13, 3) := by decide +kernel
theorem dL_tens_10 : decode cL_tens 10 = .ok (.goto 6, 3) := by decide +kernel
theorem dL_tens_13 : decode cL_tens 13 = .ok (.astore_n 3, 1) := by decide +kernel
theorem dL_tens_14 : decode cL_tens 14 = .ok (.iconst 1, 1) := by decide +kernel
theorem dL_tens_15 : decode cL_tens 15 = .ok (.ireturn, 1) := by decide +kernel
theorem dL_tens_16 : decode cL_tens 16 = .ok (.iconst 0, 1) := by decide +kernel
theorem dL_tens_17 : decode cL_tens 17 = .ok (.ireturn, 1) := by decide +kernel
theorem dL_restAt_0 : decode cL_restAt 0 = .ok (.aload_n 3, 1) := by decide +kernel
theorem dL_restAt_1 : decode cL_restAt 1 = .ok (.aload_n 0, 1) := by decide +kernel
theorem dL_restAt_2 : decode cL_restAt 2 = .ok (.iload_n 1, 1) := by decide +kernel
theorem dL_restAt_3 : decode cL_restAt 3 = .ok (.iload_n 2, 1) := by decide +kernel
theorem dL_restAt_4 : decode cL_restAt 4 = .ok (.invokevirtual 132, 3) := by decide +kernel
theorem dL_restAt_7 : decode cL_restAt 7 = .ok (.i2l, 1) := by decide +kernel
theorem dL_restAt_8 : decode cL_restAt 8 = .ok (.putfield 13, 3) := by decide +kernel
theorem dL_restAt_11 : decode cL_restAt 11 = .ok (.goto 11, 3) := by decide +kernel
theorem dL_restAt_14 : decode cL_restAt 14 = .ok (.astore 4, 2) := by decide +kernel
theorem dL_restAt_16 : decode cL_restAt 16 = .ok (.iconst 1, 1) := by decide +kernel
theorem dL_restAt_17 : decode cL_restAt 17 = .ok (.ireturn, 1) := by decide +kernel
theorem dL_restAt_18 : decode cL_restAt 18 = .ok (.astore 4, 2) := by decide +kernel
theorem dL_restAt_20 : decode cL_restAt 20 = .ok (.iconst 2, 1) := by decide +kernel
theorem dL_restAt_21 : decode cL_restAt 21 = .ok (.ireturn, 1) := by decide +kernel
theorem dL_restAt_22 : decode cL_restAt 22 = .ok (.iconst 0, 1) := by decide +kernel
theorem dL_restAt_23 : decode cL_restAt 23 = .ok (.ireturn, 1) := by decide +kernel
theorem dL_digitsFrom_0 : decode cL_digitsFrom 0 = .ok (.aload 4, 2) := by decide +kernel
theorem dL_digitsFrom_2 : decode cL_digitsFrom 2 = .ok (.aload_n 0, 1) := by decide +kernel
theorem dL_digitsFrom_3 : decode cL_digitsFrom 3 = .ok (.iload_n 1, 1) := by decide +kernel
theorem dL_digitsFrom_4 : decode cL_digitsFrom 4 = .ok (.iload_n 2, 1) := by decide +kernel
theorem dL_digitsFrom_5 : decode cL_digitsFrom 5 = .ok (.iload_n 3, 1) := by decide +kernel
theorem dL_digitsFrom_6 : decode cL_digitsFrom 6 = .ok (.invokevirtual 135, 3) := by decide +kernel
theorem dL_digitsFrom_9 : decode cL_digitsFrom 9 = .ok (.putfield 100, 3) := by decide +kernel
theorem dL_digitsFrom_12 : decode cL_digitsFrom 12 = .ok (.goto 11, 3) := by decide +kernel
theorem dL_digitsFrom_15 : decode cL_digitsFrom 15 = .ok (.astore 5, 2) := by decide +kernel
theorem dL_digitsFrom_17 : decode cL_digitsFrom 17 = .ok (.iconst 1, 1) := by decide +kernel
theorem dL_digitsFrom_18 : decode cL_digitsFrom 18 = .ok (.ireturn, 1) := by decide +kernel
theorem dL_digitsFrom_19 : decode cL_digitsFrom 19 = .ok (.astore 5, 2) := by decide +kernel
theorem dL_digitsFrom_21 : decode cL_digitsFrom 21 = .ok (.iconst 2, 1) := by decide +kernel
theorem dL_digitsFrom_22 : decode cL_digitsFrom 22 = .ok (.ireturn, 1) := by decide +kernel
theorem dL_digitsFrom_23 : decode cL_digitsFrom 23 = .ok (.iconst 0, 1) := by decide +kernel
theorem dL_digitsFrom_24 : decode cL_digitsFrom 24 = .ok (.ireturn, 1) := by decide +kernel
theorem dL_cutText_0 : decode cL_cutText 0 = .ok (.aload 5, 2) := by decide +kernel
theorem dL_cutText_2 : decode cL_cutText 2 = .ok (.aload_n 0, 1) := by decide +kernel
theorem dL_cutText_3 : decode cL_cutText 3 = .ok (.iload_n 1, 1) := by decide +kernel
theorem dL_cutText_4 : decode cL_cutText 4 = .ok (.iload_n 2, 1) := by decide +kernel
theorem dL_cutText_5 : decode cL_cutText 5 = .ok (.iload_n 3, 1) := by decide +kernel
theorem dL_cutText_6 : decode cL_cutText 6 = .ok (.iload 4, 2) := by decide +kernel
theorem dL_cutText_8 : decode cL_cutText 8 = .ok (.invokevirtual 139, 3) := by decide +kernel
theorem dL_cutText_11 : decode cL_cutText 11 = .ok (.putfield 100, 3) := by decide +kernel
theorem dL_cutText_14 : decode cL_cutText 14 = .ok (.goto 11, 3) := by decide +kernel
theorem dL_cutText_17 : decode cL_cutText 17 = .ok (.astore 6, 2) := by decide +kernel
theorem dL_cutText_19 : decode cL_cutText 19 = .ok (.iconst 1, 1) := by decide +kernel
theorem dL_cutText_20 : decode cL_cutText 20 = .ok (.ireturn, 1) := by decide +kernel
theorem dL_cutText_21 : decode cL_cutText 21 = .ok (.astore 6, 2) := by decide +kernel
theorem dL_cutText_23 : decode cL_cutText 23 = .ok (.iconst 2, 1) := by decide +kernel
theorem dL_cutText_24 : decode cL_cutText 24 = .ok (.ireturn, 1) := by decide +kernel
theorem dL_cutText_25 : decode cL_cutText 25 = .ok (.iconst 0, 1) := by decide +kernel
theorem dL_cutText_26 : decode cL_cutText 26 = .ok (.ireturn, 1) := by decide +kernel
theorem dL_number_0 : decode cL_number 0 = .ok (.aload_n 2, 1) := by decide +kernel
theorem dL_number_1 : decode cL_number 1 = .ok (.aload_n 0, 1) := by decide +kernel
theorem dL_number_2 : decode cL_number 2 = .ok (.iload_n 1, 1) := by decide +kernel
theorem dL_number_3 : decode cL_number 3 = .ok (.invokevirtual 143, 3) := by decide +kernel
theorem dL_number_6 : decode cL_number 6 = .ok (.putfield 100, 3) := by decide +kernel
theorem dL_number_9 : decode cL_number 9 = .ok (.goto 6, 3) := by decide +kernel
theorem dL_number_12 : decode cL_number 12 = .ok (.astore_n 3, 1) := by decide +kernel
theorem dL_number_13 : decode cL_number 13 = .ok (.iconst 1, 1) := by decide +kernel
theorem dL_number_14 : decode cL_number 14 = .ok (.ireturn, 1) := by decide +kernel
theorem dL_number_15 : decode cL_number 15 = .ok (.iconst 0, 1) := by decide +kernel
theorem dL_number_16 : decode cL_number 16 = .ok (.ireturn, 1) := by decide +kernel
theorem dL_product_0 : decode cL_product 0 = .ok (.aload_n 2, 1) := by decide +kernel
theorem dL_product_1 : decode cL_product 1 = .ok (.aload_n 0, 1) := by decide +kernel
theorem dL_product_2 : decode cL_product 2 = .ok (.iload_n 1, 1) := by decide +kernel
theorem dL_product_3 : decode cL_product 3 = .ok (.invokevirtual 147, 3) := by decide +kernel
theorem dL_product_6 : decode cL_product 6 = .ok (.putfield 100, 3) := by decide +kernel
theorem dL_product_9 : decode cL_product 9 = .ok (.goto 6, 3) := by decide +kernel
theorem dL_product_12 : decode cL_product 12 = .ok (.astore_n 3, 1) := by decide +kernel
theorem dL_product_13 : decode cL_product 13 = .ok (.iconst 1, 1) := by decide +kernel
theorem dL_product_14 : decode cL_product 14 = .ok (.ireturn, 1) := by decide +kernel
theorem dL_product_15 : decode cL_product 15 = .ok (.iconst 0, 1) := by decide +kernel
theorem dL_product_16 : decode cL_product 16 = .ok (.ireturn, 1) := by decide +kernel
theorem dL_partSum_0 : decode cL_partSum 0 = .ok (.aload_n 3, 1) := by decide +kernel
theorem dL_partSum_1 : decode cL_partSum 1 = .ok (.aload_n 0, 1) := by decide +kernel
theorem dL_partSum_2 : decode cL_partSum 2 = .ok (.iload_n 1, 1) := by decide +kernel
theorem dL_partSum_3 : decode cL_partSum 3 = .ok (.iload_n 2, 1) := by decide +kernel
theorem dL_partSum_4 : decode cL_partSum 4 = .ok (.invokevirtual 150, 3) := by decide +kernel
theorem dL_partSum_7 : decode cL_partSum 7 = .ok (.putfield 100, 3) := by decide +kernel
theorem dL_partSum_10 : decode cL_partSum 10 = .ok (.goto 11, 3) := by decide +kernel
theorem dL_partSum_13 : decode cL_partSum 13 = .ok (.astore 4, 2) := by decide +kernel
theorem dL_partSum_15 : decode cL_partSum 15 = .ok (.iconst 1, 1) := by decide +kernel
theorem dL_partSum_16 : decode cL_partSum 16 = .ok (.ireturn, 1) := by decide +kernel
theorem dL_partSum_17 : decode cL_partSum 17 = .ok (.astore 4, 2) := by decide +kernel
theorem dL_partSum_19 : decode cL_partSum 19 = .ok (.iconst 2, 1) := by decide +kernel
theorem dL_partSum_20 : decode cL_partSum 20 = .ok (.ireturn, 1) := by decide +kernel
theorem dL_partSum_21 : decode cL_partSum 21 = .ok (.iconst 0, 1) := by decide +kernel
theorem dL_partSum_22 : decode cL_partSum 22 = .ok (.ireturn, 1) := by decide +kernel
theorem dL_nines_0 : decode cL_nines 0 = .ok (.aload_n 3, 1) := by decide +kernel
theorem dL_nines_1 : decode cL_nines 1 = .ok (.aload_n 0, 1) := by decide +kernel
theorem dL_nines_2 : decode cL_nines 2 = .ok (.iload_n 1, 1) := by decide +kernel
theorem dL_nines_3 : decode cL_nines 3 = .ok (.iload_n 2, 1) := by decide +kernel
theorem dL_nines_4 : decode cL_nines 4 = .ok (.invokevirtual 153, 3) := by decide +kernel
theorem dL_nines_7 : decode cL_nines 7 = .ok (.i2l, 1) := by decide +kernel
theorem dL_nines_8 : decode cL_nines 8 = .ok (.putfield 13, 3) := by decide +kernel
theorem dL_nines_11 : decode cL_nines 11 = .ok (.goto 11, 3) := by decide +kernel
theorem dL_nines_14 : decode cL_nines 14 = .ok (.astore 4, 2) := by decide +kernel
theorem dL_nines_16 : decode cL_nines 16 = .ok (.iconst 1, 1) := by decide +kernel
theorem dL_nines_17 : decode cL_nines 17 = .ok (.ireturn, 1) := by decide +kernel
theorem dL_nines_18 : decode cL_nines 18 = .ok (.astore 4, 2) := by decide +kernel
theorem dL_nines_20 : decode cL_nines 20 = .ok (.iconst 2, 1) := by decide +kernel
theorem dL_nines_21 : decode cL_nines 21 = .ok (.ireturn, 1) := by decide +kernel
theorem dL_nines_22 : decode cL_nines 22 = .ok (.iconst 0, 1) := by decide +kernel
theorem dL_nines_23 : decode cL_nines 23 = .ok (.ireturn, 1) := by decide +kernel
theorem dL_placeOf_0 : decode cL_placeOf 0 = .ok (.aload_n 3, 1) := by decide +kernel
theorem dL_placeOf_1 : decode cL_placeOf 1 = .ok (.aload_n 0, 1) := by decide +kernel
theorem dL_placeOf_2 : decode cL_placeOf 2 = .ok (.iload_n 1, 1) := by decide +kernel
theorem dL_placeOf_3 : decode cL_placeOf 3 = .ok (.iload_n 2, 1) := by decide +kernel
theorem dL_placeOf_4 : decode cL_placeOf 4 = .ok (.invokevirtual 156, 3) := by decide +kernel
theorem dL_placeOf_7 : decode cL_placeOf 7 = .ok (.i2l, 1) := by decide +kernel
theorem dL_placeOf_8 : decode cL_placeOf 8 = .ok (.putfield 13, 3) := by decide +kernel
theorem dL_placeOf_11 : decode cL_placeOf 11 = .ok (.goto 7, 3) := by decide +kernel
theorem dL_placeOf_14 : decode cL_placeOf 14 = .ok (.astore 4, 2) := by decide +kernel
theorem dL_placeOf_16 : decode cL_placeOf 16 = .ok (.iconst 1, 1) := by decide +kernel
theorem dL_placeOf_17 : decode cL_placeOf 17 = .ok (.ireturn, 1) := by decide +kernel
theorem dL_placeOf_18 : decode cL_placeOf 18 = .ok (.iconst 0, 1) := by decide +kernel
theorem dL_placeOf_19 : decode cL_placeOf 19 = .ok (.ireturn, 1) := by decide +kernel
theorem dL_wheelOrder_0 : decode cL_wheelOrder 0 = .ok (.aload_n 3, 1) := by decide +kernel
theorem dL_wheelOrder_1 : decode cL_wheelOrder 1 = .ok (.aload_n 0, 1) := by decide +kernel
theorem dL_wheelOrder_2 : decode cL_wheelOrder 2 = .ok (.iload_n 1, 1) := by decide +kernel
theorem dL_wheelOrder_3 : decode cL_wheelOrder 3 = .ok (.iload_n 2, 1) := by decide +kernel
theorem dL_wheelOrder_4 : decode cL_wheelOrder 4 = .ok (.invokevirtual 159, 3) := by decide +kernel
theorem dL_wheelOrder_7 : decode cL_wheelOrder 7 = .ok (.i2l, 1) := by decide +kernel
theorem dL_wheelOrder_8 : decode cL_wheelOrder 8 = .ok (.putfield 13, 3) := by decide +kernel
theorem dL_wheelOrder_11 : decode cL_wheelOrder 11 = .ok (.goto 7, 3) := by decide +kernel
theorem dL_wheelOrder_14 : decode cL_wheelOrder 14 = .ok (.astore 4, 2) := by decide +kernel
theorem dL_wheelOrder_16 : decode cL_wheelOrder 16 = .ok (.iconst 1, 1) := by decide +kernel
theorem dL_wheelOrder_17 : decode cL_wheelOrder 17 = .ok (.ireturn, 1) := by decide +kernel
theorem dL_wheelOrder_18 : decode cL_wheelOrder 18 = .ok (.iconst 0, 1) := by decide +kernel
theorem dL_wheelOrder_19 : decode cL_wheelOrder 19 = .ok (.ireturn, 1) := by decide +kernel
theorem dL_against_0 : decode cL_against 0 = .ok (.aload_n 3, 1) := by decide +kernel
theorem dL_against_1 : decode cL_against 1 = .ok (.aload_n 0, 1) := by decide +kernel
theorem dL_against_2 : decode cL_against 2 = .ok (.iload_n 1, 1) := by decide +kernel
theorem dL_against_3 : decode cL_against 3 = .ok (.iload_n 2, 1) := by decide +kernel
theorem dL_against_4 : decode cL_against 4 = .ok (.invokevirtual 162, 3) := by decide +kernel
theorem dL_against_7 : decode cL_against 7 = .ok (.i2l, 1) := by decide +kernel
theorem dL_against_8 : decode cL_against 8 = .ok (.putfield 13, 3) := by decide +kernel
theorem dL_against_11 : decode cL_against 11 = .ok (.goto 7, 3) := by decide +kernel
theorem dL_against_14 : decode cL_against 14 = .ok (.astore 4, 2) := by decide +kernel
theorem dL_against_16 : decode cL_against 16 = .ok (.iconst 1, 1) := by decide +kernel
theorem dL_against_17 : decode cL_against 17 = .ok (.ireturn, 1) := by decide +kernel
theorem dL_against_18 : decode cL_against 18 = .ok (.iconst 0, 1) := by decide +kernel
theorem dL_against_19 : decode cL_against 19 = .ok (.ireturn, 1) := by decide +kernel
theorem dL_house_0 : decode cL_house 0 = .ok (.aload_n 2, 1) := by decide +kernel
theorem dL_house_1 : decode cL_house 1 = .ok (.aload_n 0, 1) := by decide +kernel
theorem dL_house_2 : decode cL_house 2 = .ok (.iload_n 1, 1) := by decide +kernel
theorem dL_house_3 : decode cL_house 3 = .ok (.invokevirtual 165, 3) := by decide +kernel
theorem dL_house_6 : decode cL_house 6 = .ok (.i2l, 1) := by decide +kernel
theorem dL_house_7 : decode cL_house 7 = .ok (.putfield 13, 3) := by decide +kernel
theorem dL_house_10 : decode cL_house 10 = .ok (.goto 6, 3) := by decide +kernel
theorem dL_house_13 : decode cL_house 13 = .ok (.astore_n 3, 1) := by decide +kernel
theorem dL_house_14 : decode cL_house 14 = .ok (.iconst 1, 1) := by decide +kernel
theorem dL_house_15 : decode cL_house 15 = .ok (.ireturn, 1) := by decide +kernel
theorem dL_house_16 : decode cL_house 16 = .ok (.iconst 0, 1) := by decide +kernel
theorem dL_house_17 : decode cL_house 17 = .ok (.ireturn, 1) := by decide +kernel
