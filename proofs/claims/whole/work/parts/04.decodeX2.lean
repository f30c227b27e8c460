theorem dX2_init_0 : decode cX2_init 0 = .ok (.aload_n 0, 1) := by decide +kernel
theorem dX2_init_1 : decode cX2_init 1 = .ok (.invokespecial 3, 3) := by decide +kernel
theorem dX2_init_4 : decode cX2_init 4 = .ok (.aload_n 0, 1) := by decide +kernel
theorem dX2_init_5 : decode cX2_init 5 = .ok (.bipush 12, 2) := by decide +kernel
theorem dX2_init_7 : decode cX2_init 7 = .ok (.newarray .long, 2) := by decide +kernel
theorem dX2_init_9 : decode cX2_init 9 = .ok (.putfield 9, 3) := by decide +kernel
theorem dX2_init_12 : decode cX2_init 12 = .ok (.return_, 1) := by decide +kernel
theorem dX2_setTo_0 : decode cX2_setTo 0 = .ok (.lload_n 1, 1) := by decide +kernel
theorem dX2_setTo_1 : decode cX2_setTo 1 = .ok (.lstore_n 3, 1) := by decide +kernel
theorem dX2_setTo_2 : decode cX2_setTo 2 = .ok (.iconst 0, 1) := by decide +kernel
theorem dX2_setTo_3 : decode cX2_setTo 3 = .ok (.istore 5, 2) := by decide +kernel
theorem dX2_setTo_5 : decode cX2_setTo 5 = .ok (.iload 5, 2) := by decide +kernel
theorem dX2_setTo_7 : decode cX2_setTo 7 = .ok (.bipush 12, 2) := by decide +kernel
theorem dX2_setTo_9 : decode cX2_setTo 9 = .ok (.if_icmp .ge 26, 3) := by decide +kernel
theorem dX2_setTo_12 : decode cX2_setTo 12 = .ok (.aload_n 0, 1) := by decide +kernel
theorem dX2_setTo_13 : decode cX2_setTo 13 = .ok (.getfield 9, 3) := by decide +kernel
theorem dX2_setTo_16 : decode cX2_setTo 16 = .ok (.iload 5, 2) := by decide +kernel
theorem dX2_setTo_18 : decode cX2_setTo 18 = .ok (.lload_n 3, 1) := by decide +kernel
theorem dX2_setTo_19 : decode cX2_setTo 19 = .ok (.ldc2_w 15, 3) := by decide +kernel
theorem dX2_setTo_22 : decode cX2_setTo 22 = .ok (.land, 1) := by decide +kernel
theorem dX2_setTo_23 : decode cX2_setTo 23 = .ok (.lastore, 1) := by decide +kernel
theorem dX2_setTo_24 : decode cX2_setTo 24 = .ok (.lload_n 3, 1) := by decide +kernel
theorem dX2_setTo_25 : decode cX2_setTo 25 = .ok (.bipush 16, 2) := by decide +kernel
theorem dX2_setTo_27 : decode cX2_setTo 27 = .ok (.lshr, 1) := by decide +kernel
theorem dX2_setTo_28 : decode cX2_setTo 28 = .ok (.lstore_n 3, 1) := by decide +kernel
theorem dX2_setTo_29 : decode cX2_setTo 29 = .ok (.iinc 5 1, 3) := by decide +kernel
theorem dX2_setTo_32 : decode cX2_setTo 32 = .ok (.goto (-27), 3) := by decide +kernel
theorem dX2_setTo_35 : decode cX2_setTo 35 = .ok (.return_, 1) := by decide +kernel
theorem dX2_copy_0 : decode cX2_copy 0 = .ok (.iconst 0, 1) := by decide +kernel
theorem dX2_copy_1 : decode cX2_copy 1 = .ok (.istore_n 2, 1) := by decide +kernel
theorem dX2_copy_2 : decode cX2_copy 2 = .ok (.iload_n 2, 1) := by decide +kernel
theorem dX2_copy_3 : decode cX2_copy 3 = .ok (.bipush 12, 2) := by decide +kernel
theorem dX2_copy_5 : decode cX2_copy 5 = .ok (.if_icmp .ge 21, 3) := by decide +kernel
theorem dX2_copy_8 : decode cX2_copy 8 = .ok (.aload_n 0, 1) := by decide +kernel
theorem dX2_copy_9 : decode cX2_copy 9 = .ok (.getfield 9, 3) := by decide +kernel
theorem dX2_copy_12 : decode cX2_copy 12 = .ok (.iload_n 2, 1) := by decide +kernel
theorem dX2_copy_13 : decode cX2_copy 13 = .ok (.aload_n 1, 1) := by decide +kernel
theorem dX2_copy_14 : decode cX2_copy 14 = .ok (.getfield 9, 3) := by decide +kernel
theorem dX2_copy_17 : decode cX2_copy 17 = .ok (.iload_n 2, 1) := by decide +kernel
theorem dX2_copy_18 : decode cX2_copy 18 = .ok (.laload, 1) := by decide +kernel
theorem dX2_copy_19 : decode cX2_copy 19 = .ok (.lastore, 1) := by decide +kernel
theorem dX2_copy_20 : decode cX2_copy 20 = .ok (.iinc 2 1, 3) := by decide +kernel
theorem dX2_copy_23 : decode cX2_copy 23 = .ok (.goto (-21), 3) := by decide +kernel
theorem dX2_copy_26 : decode cX2_copy 26 = .ok (.return_, 1) := by decide +kernel
theorem dX2_isNegative_0 : decode cX2_isNegative 0 = .ok (.aload_n 0, 1) := by decide +kernel
theorem dX2_isNegative_1 : decode cX2_isNegative 1 = .ok (.getfield 9, 3) := by decide +kernel
theorem dX2_isNegative_4 : decode cX2_isNegative 4 = .ok (.bipush 11, 2) := by decide +kernel
theorem dX2_isNegative_6 : decode cX2_isNegative 6 = .ok (.laload, 1) := by decide +kernel
theorem dX2_isNegative_7 : decode cX2_isNegative 7 = .ok (.bipush 15, 2) := by decide +kernel
theorem dX2_isNegative_9 : decode cX2_isNegative 9 = .ok (.lshr, 1) := by decide +kernel
theorem dX2_isNegative_10 : decode cX2_isNegative 10 = .ok (.lconst 0, 1) := by decide +kernel
theorem dX2_isNegative_11 : decode cX2_isNegative 11 = .ok (.lcmp, 1) := by decide +kernel
theorem dX2_isNegative_12 : decode cX2_isNegative 12 = .ok (.ifCond .eq 7, 3) := by decide +kernel
theorem dX2_isNegative_15 : decode cX2_isNegative 15 = .ok (.iconst 1, 1) := by decide +kernel
theorem dX2_isNegative_16 : decode cX2_isNegative 16 = .ok (.goto 4, 3) := by decide +kernel
theorem dX2_isNegative_19 : decode cX2_isNegative 19 = .ok (.iconst 0, 1) := by decide +kernel
theorem dX2_isNegative_20 : decode cX2_isNegative 20 = .ok (.ireturn, 1) := by decide +kernel
theorem dX2_isZero_0 : decode cX2_isZero 0 = .ok (.aload_n 0, 1) := by decide +kernel
theorem dX2_isZero_1 : decode cX2_isZero 1 = .ok (.invokevirtual 17, 3) := by decide +kernel
theorem dX2_isZero_4 : decode cX2_isZero 4 = .ok (.ifCond .ne 7, 3) := by decide +kernel
theorem dX2_isZero_7 : decode cX2_isZero 7 = .ok (.iconst 1, 1) := by decide +kernel
theorem dX2_isZero_8 : decode cX2_isZero 8 = .ok (.goto 4, 3) := by decide +kernel
theorem dX2_isZero_11 : decode cX2_isZero 11 = .ok (.iconst 0, 1) := by decide +kernel
theorem dX2_isZero_12 : decode cX2_isZero 12 = .ok (.ireturn, 1) := by decide +kernel
theorem dX2_isOdd_0 : decode cX2_isOdd 0 = .ok (.aload_n 0, 1) := by decide +kernel
theorem dX2_isOdd_1 : decode cX2_isOdd 1 = .ok (.getfield 9, 3) := by decide +kernel
theorem dX2_isOdd_4 : decode cX2_isOdd 4 = .ok (.iconst 0, 1) := by decide +kernel
theorem dX2_isOdd_5 : decode cX2_isOdd 5 = .ok (.laload, 1) := by decide +kernel
theorem dX2_isOdd_6 : decode cX2_isOdd 6 = .ok (.lconst 1, 1) := by decide +kernel
theorem dX2_isOdd_7 : decode cX2_isOdd 7 = .ok (.land, 1) := by decide +kernel
theorem dX2_isOdd_8 : decode cX2_isOdd 8 = .ok (.lconst 0, 1) := by decide +kernel
theorem dX2_isOdd_9 : decode cX2_isOdd 9 = .ok (.lcmp, 1) := by decide +kernel
theorem dX2_isOdd_10 : decode cX2_isOdd 10 = .ok (.ifCond .eq 7, 3) := by decide +kernel
theorem dX2_isOdd_13 : decode cX2_isOdd 13 = .ok (.iconst 1, 1) := by decide +kernel
theorem dX2_isOdd_14 : decode cX2_isOdd 14 = .ok (.goto 4, 3) := by decide +kernel
theorem dX2_isOdd_17 : decode cX2_isOdd 17 = .ok (.iconst 0, 1) := by decide +kernel
theorem dX2_isOdd_18 : decode cX2_isOdd 18 = .ok (.ireturn, 1) := by decide +kernel
theorem dX2_size_0 : decode cX2_size 0 = .ok (.bipush 12, 2) := by decide +kernel
theorem dX2_size_2 : decode cX2_size 2 = .ok (.istore_n 1, 1) := by decide +kernel
theorem dX2_size_3 : decode cX2_size 3 = .ok (.iload_n 1, 1) := by decide +kernel
theorem dX2_size_4 : decode cX2_size 4 = .ok (.ifCond .le 22, 3) := by decide +kernel
theorem dX2_size_7 : decode cX2_size 7 = .ok (.aload_n 0, 1) := by decide +kernel
theorem dX2_size_8 : decode cX2_size 8 = .ok (.getfield 9, 3) := by decide +kernel
theorem dX2_size_11 : decode cX2_size 11 = .ok (.iload_n 1, 1) := by decide +kernel
theorem dX2_size_12 : decode cX2_size 12 = .ok (.iconst 1, 1) := by decide +kernel
theorem dX2_size_13 : decode cX2_size 13 = .ok (.isub, 1) := by decide +kernel
theorem dX2_size_14 : decode cX2_size 14 = .ok (.laload, 1) := by decide +kernel
theorem dX2_size_15 : decode cX2_size 15 = .ok (.lconst 0, 1) := by decide +kernel
theorem dX2_size_16 : decode cX2_size 16 = .ok (.lcmp, 1) := by decide +kernel
theorem dX2_size_17 : decode cX2_size 17 = .ok (.ifCond .ne 9, 3) := by decide +kernel
theorem dX2_size_20 : decode cX2_size 20 = .ok (.iinc 1 (-1), 3) := by decide +kernel
theorem dX2_size_23 : decode cX2_size 23 = .ok (.goto (-20), 3) := by decide +kernel
theorem dX2_size_26 : decode cX2_size 26 = .ok (.iload_n 1, 1) := by decide +kernel
theorem dX2_size_27 : decode cX2_size 27 = .ok (.ireturn, 1) := by decide +kernel
theorem dX2_limb_0 : decode cX2_limb 0 = .ok (.iload_n 1, 1) := by decide +kernel
theorem dX2_limb_1 : decode cX2_limb 1 = .ok (.ifCond .lt 18, 3) := by decide +kernel
theorem dX2_limb_4 : decode cX2_limb 4 = .ok (.iload_n 1, 1) := by decide +kernel
theorem dX2_limb_5 : decode cX2_limb 5 = .ok (.bipush 12, 2) := by decide +kernel
theorem dX2_limb_7 : decode cX2_limb 7 = .ok (.if_icmp .ge 12, 3) := by decide +kernel
theorem dX2_limb_10 : decode cX2_limb 10 = .ok (.aload_n 0, 1) := by decide +kernel
theorem dX2_limb_11 : decode cX2_limb 11 = .ok (.getfield 9, 3) := by decide +kernel
theorem dX2_limb_14 : decode cX2_limb 14 = .ok (.iload_n 1, 1) := by decide +kernel
theorem dX2_limb_15 : decode cX2_limb 15 = .ok (.laload, 1) := by decide +kernel
theorem dX2_limb_16 : decode cX2_limb 16 = .ok (.goto 4, 3) := by decide +kernel
theorem dX2_limb_19 : decode cX2_limb 19 = .ok (.lconst 0, 1) := by decide +kernel
theorem dX2_limb_20 : decode cX2_limb 20 = .ok (.lreturn, 1) := by decide +kernel
theorem dX2_bitsFrom_0 : decode cX2_bitsFrom 0 = .ok (.lconst 0, 1) := by decide +kernel
theorem dX2_bitsFrom_1 : decode cX2_bitsFrom 1 = .ok (.lstore_n 2, 1) := by decide +kernel
theorem dX2_bitsFrom_2 : decode cX2_bitsFrom 2 = .ok (.iconst 3, 1) := by decide +kernel
theorem dX2_bitsFrom_3 : decode cX2_bitsFrom 3 = .ok (.istore 4, 2) := by decide +kernel
theorem dX2_bitsFrom_5 : decode cX2_bitsFrom 5 = .ok (.iload 4, 2) := by decide +kernel
theorem dX2_bitsFrom_7 : decode cX2_bitsFrom 7 = .ok (.ifCond .lt 23, 3) := by decide +kernel
theorem dX2_bitsFrom_10 : decode cX2_bitsFrom 10 = .ok (.lload_n 2, 1) := by decide +kernel
theorem dX2_bitsFrom_11 : decode cX2_bitsFrom 11 = .ok (.bipush 16, 2) := by decide +kernel
theorem dX2_bitsFrom_13 : decode cX2_bitsFrom 13 = .ok (.lshl, 1) := by decide +kernel
theorem dX2_bitsFrom_14 : decode cX2_bitsFrom 14 = .ok (.aload_n 0, 1) := by decide +kernel
theorem dX2_bitsFrom_15 : decode cX2_bitsFrom 15 = .ok (.iload_n 1, 1) := by decide +kernel
theorem dX2_bitsFrom_16 : decode cX2_bitsFrom 16 = .ok (.iload 4, 2) := by decide +kernel
theorem dX2_bitsFrom_18 : decode cX2_bitsFrom 18 = .ok (.iadd, 1) := by decide +kernel
theorem dX2_bitsFrom_19 : decode cX2_bitsFrom 19 = .ok (.invokevirtual 21, 3) := by decide +kernel
theorem dX2_bitsFrom_22 : decode cX2_bitsFrom 22 = .ok (.lor, 1) := by decide +kernel
theorem dX2_bitsFrom_23 : decode cX2_bitsFrom 23 = .ok (.lstore_n 2, 1) := by decide +kernel
theorem dX2_bitsFrom_24 : decode cX2_bitsFrom 24 = .ok (.iinc 4 (-1), 3) := by decide +kernel
theorem dX2_bitsFrom_27 : decode cX2_bitsFrom 27 = .ok (.goto (-22), 3) := by decide +kernel
theorem dX2_bitsFrom_30 : decode cX2_bitsFrom 30 = .ok (.lload_n 2, 1) := by decide +kernel
theorem dX2_bitsFrom_31 : decode cX2_bitsFrom 31 = .ok (.lreturn, 1) := by decide +kernel
theorem dX2_fitsLong_0 : decode cX2_fitsLong 0 = .ok (.aload_n 0, 1) := by decide +kernel
theorem dX2_fitsLong_1 : decode cX2_fitsLong 1 = .ok (.iconst 0, 1) := by decide +kernel
theorem dX2_fitsLong_2 : decode cX2_fitsLong 2 = .ok (.invokevirtual 25, 3) := by decide +kernel
theorem dX2_fitsLong_5 : decode cX2_fitsLong 5 = .ok (.lstore_n 1, 1) := by decide +kernel
theorem dX2_fitsLong_6 : decode cX2_fitsLong 6 = .ok (.iconst 0, 1) := by decide +kernel
theorem dX2_fitsLong_7 : decode cX2_fitsLong 7 = .ok (.istore_n 3, 1) := by decide +kernel
theorem dX2_fitsLong_8 : decode cX2_fitsLong 8 = .ok (.iload_n 3, 1) := by decide +kernel
theorem dX2_fitsLong_9 : decode cX2_fitsLong 9 = .ok (.bipush 12, 2) := by decide +kernel
theorem dX2_fitsLong_11 : decode cX2_fitsLong 11 = .ok (.if_icmp .ge 31, 3) := by decide +kernel
theorem dX2_fitsLong_14 : decode cX2_fitsLong 14 = .ok (.aload_n 0, 1) := by decide +kernel
theorem dX2_fitsLong_15 : decode cX2_fitsLong 15 = .ok (.getfield 9, 3) := by decide +kernel
theorem dX2_fitsLong_18 : decode cX2_fitsLong 18 = .ok (.iload_n 3, 1) := by decide +kernel
theorem dX2_fitsLong_19 : decode cX2_fitsLong 19 = .ok (.laload, 1) := by decide +kernel
theorem dX2_fitsLong_20 : decode cX2_fitsLong 20 = .ok (.lload_n 1, 1) := by decide +kernel
theorem dX2_fitsLong_21 : decode cX2_fitsLong 21 = .ok (.ldc2_w 15, 3) := by decide +kernel
theorem dX2_fitsLong_24 : decode cX2_fitsLong 24 = .ok (.land, 1) := by decide +kernel
theorem dX2_fitsLong_25 : decode cX2_fitsLong 25 = .ok (.lcmp, 1) := by decide +kernel
theorem dX2_fitsLong_26 : decode cX2_fitsLong 26 = .ok (.ifCond .eq 5, 3) := by decide +kernel
theorem dX2_fitsLong_29 : decode cX2_fitsLong 29 = .ok (.iconst 0, 1) := by decide +kernel
theorem dX2_fitsLong_30 : decode cX2_fitsLong 30 = .ok (.ireturn, 1) := by decide +kernel
theorem dX2_fitsLong_31 : decode cX2_fitsLong 31 = .ok (.lload_n 1, 1) := by decide +kernel
theorem dX2_fitsLong_32 : decode cX2_fitsLong 32 = .ok (.bipush 16, 2) := by decide +kernel
theorem dX2_fitsLong_34 : decode cX2_fitsLong 34 = .ok (.lshr, 1) := by decide +kernel
theorem dX2_fitsLong_35 : decode cX2_fitsLong 35 = .ok (.lstore_n 1, 1) := by decide +kernel
theorem dX2_fitsLong_36 : decode cX2_fitsLong 36 = .ok (.iinc 3 1, 3) := by decide +kernel
theorem dX2_fitsLong_39 : decode cX2_fitsLong 39 = .ok (.goto (-31), 3) := by decide +kernel
theorem dX2_fitsLong_42 : decode cX2_fitsLong 42 = .ok (.iconst 1, 1) := by decide +kernel
theorem dX2_fitsLong_43 : decode cX2_fitsLong 43 = .ok (.ireturn, 1) := by decide +kernel
theorem dX2_grow_0 : decode cX2_grow 0 = .ok (.lload_n 1, 1) := by decide +kernel
theorem dX2_grow_1 : decode cX2_grow 1 = .ok (.lstore_n 3, 1) := by decide +kernel
theorem dX2_grow_2 : decode cX2_grow 2 = .ok (.iconst 0, 1) := by decide +kernel
theorem dX2_grow_3 : decode cX2_grow 3 = .ok (.istore 5, 2) := by decide +kernel
theorem dX2_grow_5 : decode cX2_grow 5 = .ok (.iload 5, 2) := by decide +kernel
theorem dX2_grow_7 : decode cX2_grow 7 = .ok (.bipush 12, 2) := by decide +kernel
theorem dX2_grow_9 : decode cX2_grow 9 = .ok (.if_icmp .ge 36, 3) := by decide +kernel
theorem dX2_grow_12 : decode cX2_grow 12 = .ok (.lload_n 3, 1) := by decide +kernel
theorem dX2_grow_13 : decode cX2_grow 13 = .ok (.aload_n 0, 1) := by decide +kernel
theorem dX2_grow_14 : decode cX2_grow 14 = .ok (.getfield 9, 3) := by decide +kernel
theorem dX2_grow_17 : decode cX2_grow 17 = .ok (.iload 5, 2) := by decide +kernel
theorem dX2_grow_19 : decode cX2_grow 19 = .ok (.laload, 1) := by decide +kernel
theorem dX2_grow_20 : decode cX2_grow 20 = .ok (.ladd, 1) := by decide +kernel
theorem dX2_grow_21 : decode cX2_grow 21 = .ok (.lstore_n 3, 1) := by decide +kernel
theorem dX2_grow_22 : decode cX2_grow 22 = .ok (.aload_n 0, 1) := by decide +kernel
theorem dX2_grow_23 : decode cX2_grow 23 = .ok (.getfield 9, 3) := by decide +kernel
theorem dX2_grow_26 : decode cX2_grow 26 = .ok (.iload 5, 2) := by decide +kernel
theorem dX2_grow_28 : decode cX2_grow 28 = .ok (.lload_n 3, 1) := by decide +kernel
theorem dX2_grow_29 : decode cX2_grow 29 = .ok (.ldc2_w 15, 3) := by decide +kernel
theorem dX2_grow_32 : decode cX2_grow 32 = .ok (.land, 1) := by decide +kernel
theorem dX2_grow_33 : decode cX2_grow 33 = .ok (.lastore, 1) := by decide +kernel
theorem dX2_grow_34 : decode cX2_grow 34 = .ok (.lload_n 3, 1) := by decide +kernel
theorem dX2_grow_35 : decode cX2_grow 35 = .ok (.bipush 16, 2) := by decide +kernel
theorem dX2_grow_37 : decode cX2_grow 37 = .ok (.lshr, 1) := by decide +kernel
theorem dX2_grow_38 : decode cX2_grow 38 = .ok (.lstore_n 3, 1) := by decide +kernel
theorem dX2_grow_39 : decode cX2_grow 39 = .ok (.iinc 5 1, 3) := by decide +kernel
theorem dX2_grow_42 : decode cX2_grow 42 = .ok (.goto (-37), 3) := by decide +kernel
theorem dX2_grow_45 : decode cX2_grow 45 = .ok (.return_, 1) := by decide +kernel
theorem dX2_scale_0 : decode cX2_scale 0 = .ok (.lconst 0, 1) := by decide +kernel
theorem dX2_scale_1 : decode cX2_scale 1 = .ok (.lstore_n 3, 1) := by decide +kernel
theorem dX2_scale_2 : decode cX2_scale 2 = .ok (.iconst 0, 1) := by decide +kernel
theorem dX2_scale_3 : decode cX2_scale 3 = .ok (.istore 5, 2) := by decide +kernel
theorem dX2_scale_5 : decode cX2_scale 5 = .ok (.iload 5, 2) := by decide +kernel
theorem dX2_scale_7 : decode cX2_scale 7 = .ok (.bipush 12, 2) := by decide +kernel
theorem dX2_scale_9 : decode cX2_scale 9 = .ok (.if_icmp .ge 38, 3) := by decide +kernel
theorem dX2_scale_12 : decode cX2_scale 12 = .ok (.lload_n 3, 1) := by decide +kernel
theorem dX2_scale_13 : decode cX2_scale 13 = .ok (.aload_n 0, 1) := by decide +kernel
theorem dX2_scale_14 : decode cX2_scale 14 = .ok (.getfield 9, 3) := by decide +kernel
theorem dX2_scale_17 : decode cX2_scale 17 = .ok (.iload 5, 2) := by decide +kernel
theorem dX2_scale_19 : decode cX2_scale 19 = .ok (.laload, 1) := by decide +kernel
theorem dX2_scale_20 : decode cX2_scale 20 = .ok (.lload_n 1, 1) := by decide +kernel
theorem dX2_scale_21 : decode cX2_scale 21 = .ok (.lmul, 1) := by decide +kernel
theorem dX2_scale_22 : decode cX2_scale 22 = .ok (.ladd, 1) := by decide +kernel
theorem dX2_scale_23 : decode cX2_scale 23 = .ok (.lstore_n 3, 1) := by decide +kernel
theorem dX2_scale_24 : decode cX2_scale 24 = .ok (.aload_n 0, 1) := by decide +kernel
theorem dX2_scale_25 : decode cX2_scale 25 = .ok (.getfield 9, 3) := by decide +kernel
theorem dX2_scale_28 : decode cX2_scale 28 = .ok (.iload 5, 2) := by decide +kernel
theorem dX2_scale_30 : decode cX2_scale 30 = .ok (.lload_n 3, 1) := by decide +kernel
theorem dX2_scale_31 : decode cX2_scale 31 = .ok (.ldc2_w 15, 3) := by decide +kernel
theorem dX2_scale_34 : decode cX2_scale 34 = .ok (.land, 1) := by decide +kernel
theorem dX2_scale_35 : decode cX2_scale 35 = .ok (.lastore, 1) := by decide +kernel
theorem dX2_scale_36 : decode cX2_scale 36 = .ok (.lload_n 3, 1) := by decide +kernel
theorem dX2_scale_37 : decode cX2_scale 37 = .ok (.bipush 16, 2) := by decide +kernel
theorem dX2_scale_39 : decode cX2_scale 39 = .ok (.lshr, 1) := by decide +kernel
theorem dX2_scale_40 : decode cX2_scale 40 = .ok (.lstore_n 3, 1) := by decide +kernel
theorem dX2_scale_41 : decode cX2_scale 41 = .ok (.iinc 5 1, 3) := by decide +kernel
theorem dX2_scale_44 : decode cX2_scale 44 = .ok (.goto (-39), 3) := by decide +kernel
theorem dX2_scale_47 : decode cX2_scale 47 = .ok (.return_, 1) := by decide +kernel
theorem dX2_addTimes_0 : decode cX2_addTimes 0 = .ok (.aload_n 0, 1) := by decide +kernel
theorem dX2_addTimes_1 : decode cX2_addTimes 1 = .ok (.aload_n 1, 1) := by decide +kernel
theorem dX2_addTimes_2 : decode cX2_addTimes 2 = .ok (.bipush 12, 2) := by decide +kernel
theorem dX2_addTimes_4 : decode cX2_addTimes 4 = .ok (.iconst 0, 1) := by decide +kernel
theorem dX2_addTimes_5 : decode cX2_addTimes 5 = .ok (.lload_n 2, 1) := by decide +kernel
theorem dX2_addTimes_6 : decode cX2_addTimes 6 = .ok (.invokevirtual 28, 3) := by decide +kernel
theorem dX2_addTimes_9 : decode cX2_addTimes 9 = .ok (.pop2, 1) := by decide +kernel
theorem dX2_addTimes_10 : decode cX2_addTimes 10 = .ok (.return_, 1) := by decide +kernel
theorem dX2_addShifted_0 : decode cX2_addShifted 0 = .ok (.lconst 0, 1) := by decide +kernel
theorem dX2_addShifted_1 : decode cX2_addShifted 1 = .ok (.lstore 6, 2) := by decide +kernel
theorem dX2_addShifted_3 : decode cX2_addShifted 3 = .ok (.iload_n 3, 1) := by decide +kernel
theorem dX2_addShifted_4 : decode cX2_addShifted 4 = .ok (.istore 8, 2) := by decide +kernel
theorem dX2_addShifted_6 : decode cX2_addShifted 6 = .ok (.iload 8, 2) := by decide +kernel
theorem dX2_addShifted_8 : decode cX2_addShifted 8 = .ok (.ifCond .lt 68, 3) := by decide +kernel
theorem dX2_addShifted_11 : decode cX2_addShifted 11 = .ok (.iload 8, 2) := by decide +kernel
theorem dX2_addShifted_13 : decode cX2_addShifted 13 = .ok (.bipush 12, 2) := by decide +kernel
theorem dX2_addShifted_15 : decode cX2_addShifted 15 = .ok (.if_icmp .ge 61, 3) := by decide +kernel
theorem dX2_addShifted_18 : decode cX2_addShifted 18 = .ok (.iload 8, 2) := by decide +kernel
theorem dX2_addShifted_20 : decode cX2_addShifted 20 = .ok (.iload_n 2, 1) := by decide +kernel
theorem dX2_addShifted_21 : decode cX2_addShifted 21 = .ok (.iload_n 3, 1) := by decide +kernel
theorem dX2_addShifted_22 : decode cX2_addShifted 22 = .ok (.iadd, 1) := by decide +kernel
theorem dX2_addShifted_23 : decode cX2_addShifted 23 = .ok (.if_icmp .gt 53, 3) := by decide +kernel
theorem dX2_addShifted_26 : decode cX2_addShifted 26 = .ok (.lload 6, 2) := by decide +kernel
theorem dX2_addShifted_28 : decode cX2_addShifted 28 = .ok (.aload_n 0, 1) := by decide +kernel
theorem dX2_addShifted_29 : decode cX2_addShifted 29 = .ok (.getfield 9, 3) := by decide +kernel
theorem dX2_addShifted_32 : decode cX2_addShifted 32 = .ok (.iload 8, 2) := by decide +kernel
theorem dX2_addShifted_34 : decode cX2_addShifted 34 = .ok (.laload, 1) := by decide +kernel
theorem dX2_addShifted_35 : decode cX2_addShifted 35 = .ok (.aload_n 1, 1) := by decide +kernel
theorem dX2_addShifted_36 : decode cX2_addShifted 36 = .ok (.iload 8, 2) := by decide +kernel
theorem dX2_addShifted_38 : decode cX2_addShifted 38 = .ok (.iload_n 3, 1) := by decide +kernel
theorem dX2_addShifted_39 : decode cX2_addShifted 39 = .ok (.isub, 1) := by decide +kernel
theorem dX2_addShifted_40 : decode cX2_addShifted 40 = .ok (.invokevirtual 21, 3) := by decide +kernel
theorem dX2_addShifted_43 : decode cX2_addShifted 43 = .ok (.lload 4, 2) := by decide +kernel
theorem dX2_addShifted_45 : decode cX2_addShifted 45 = .ok (.lmul, 1) := by decide +kernel
theorem dX2_addShifted_46 : decode cX2_addShifted 46 = .ok (.ladd, 1) := by decide +kernel
theorem dX2_addShifted_47 : decode cX2_addShifted 47 = .ok (.ladd, 1) := by decide +kernel
theorem dX2_addShifted_48 : decode cX2_addShifted 48 = .ok (.lstore 6, 2) := by decide +kernel
theorem dX2_addShifted_50 : decode cX2_addShifted 50 = .ok (.aload_n 0, 1) := by decide +kernel
theorem dX2_addShifted_51 : decode cX2_addShifted 51 = .ok (.getfield 9, 3) := by decide +kernel
theorem dX2_addShifted_54 : decode cX2_addShifted 54 = .ok (.iload 8, 2) := by decide +kernel
theorem dX2_addShifted_56 : decode cX2_addShifted 56 = .ok (.lload 6, 2) := by decide +kernel
theorem dX2_addShifted_58 : decode cX2_addShifted 58 = .ok (.ldc2_w 15, 3) := by decide +kernel
theorem dX2_addShifted_61 : decode cX2_addShifted 61 = .ok (.land, 1) := by decide +kernel
theorem dX2_addShifted_62 : decode cX2_addShifted 62 = .ok (.lastore, 1) := by decide +kernel
theorem dX2_addShifted_63 : decode cX2_addShifted 63 = .ok (.lload 6, 2) := by decide +kernel
theorem dX2_addShifted_65 : decode cX2_addShifted 65 = .ok (.bipush 16, 2) := by decide +kernel
theorem dX2_addShifted_67 : decode cX2_addShifted 67 = .ok (.lshr, 1) := by decide +kernel
theorem dX2_addShifted_68 : decode cX2_addShifted 68 = .ok (.lstore 6, 2) := by decide +kernel
theorem dX2_addShifted_70 : decode cX2_addShifted 70 = .ok (.iinc 8 1, 3) := by decide +kernel
theorem dX2_addShifted_73 : decode cX2_addShifted 73 = .ok (.goto (-67), 3) := by decide +kernel
theorem dX2_addShifted_76 : decode cX2_addShifted 76 = .ok (.lload 6, 2) := by decide +kernel
theorem dX2_addShifted_78 : decode cX2_addShifted 78 = .ok (.lreturn, 1) := by decide +kernel
theorem dX2_multiply_0 : decode cX2_multiply 0 = .ok (.bipush 11, 2) := by decide +kernel
theorem dX2_multiply_2 : decode cX2_multiply 2 = .ok (.istore_n 2, 1) := by decide +kernel
theorem dX2_multiply_3 : decode cX2_multiply 3 = .ok (.iload_n 2, 1) := by decide +kernel
theorem dX2_multiply_4 : decode cX2_multiply 4 = .ok (.ifCond .lt 53, 3) := by decide +kernel
theorem dX2_multiply_7 : decode cX2_multiply 7 = .ok (.lconst 0, 1) := by decide +kernel
theorem dX2_multiply_8 : decode cX2_multiply 8 = .ok (.lstore_n 3, 1) := by decide +kernel
theorem dX2_multiply_9 : decode cX2_multiply 9 = .ok (.iconst 0, 1) := by decide +kernel
theorem dX2_multiply_10 : decode cX2_multiply 10 = .ok (.istore 5, 2) := by decide +kernel
theorem dX2_multiply_12 : decode cX2_multiply 12 = .ok (.iload 5, 2) := by decide +kernel
theorem dX2_multiply_14 : decode cX2_multiply 14 = .ok (.iload_n 2, 1) := by decide +kernel
theorem dX2_multiply_15 : decode cX2_multiply 15 = .ok (.if_icmp .gt 29, 3) := by decide +kernel
theorem dX2_multiply_18 : decode cX2_multiply 18 = .ok (.lload_n 3, 1) := by decide +kernel
theorem dX2_multiply_19 : decode cX2_multiply 19 = .ok (.aload_n 0, 1) := by decide +kernel
theorem dX2_multiply_20 : decode cX2_multiply 20 = .ok (.getfield 9, 3) := by decide +kernel
theorem dX2_multiply_23 : decode cX2_multiply 23 = .ok (.iload 5, 2) := by decide +kernel
theorem dX2_multiply_25 : decode cX2_multiply 25 = .ok (.laload, 1) := by decide +kernel
theorem dX2_multiply_26 : decode cX2_multiply 26 = .ok (.aload_n 1, 1) := by decide +kernel
theorem dX2_multiply_27 : decode cX2_multiply 27 = .ok (.getfield 9, 3) := by decide +kernel
theorem dX2_multiply_30 : decode cX2_multiply 30 = .ok (.iload_n 2, 1) := by decide +kernel
theorem dX2_multiply_31 : decode cX2_multiply 31 = .ok (.iload 5, 2) := by decide +kernel
theorem dX2_multiply_33 : decode cX2_multiply 33 = .ok (.isub, 1) := by decide +kernel
theorem dX2_multiply_34 : decode cX2_multiply 34 = .ok (.laload, 1) := by decide +kernel
theorem dX2_multiply_35 : decode cX2_multiply 35 = .ok (.lmul, 1) := by decide +kernel
theorem dX2_multiply_36 : decode cX2_multiply 36 = .ok (.ladd, 1) := by decide +kernel
theorem dX2_multiply_37 : decode cX2_multiply 37 = .ok (.lstore_n 3, 1) := by decide +kernel
theorem dX2_multiply_38 : decode cX2_multiply 38 = .ok (.iinc 5 1, 3) := by decide +kernel
theorem dX2_multiply_41 : decode cX2_multiply 41 = .ok (.goto (-29), 3) := by decide +kernel
theorem dX2_multiply_44 : decode cX2_multiply 44 = .ok (.aload_n 0, 1) := by decide +kernel
theorem dX2_multiply_45 : decode cX2_multiply 45 = .ok (.getfield 9, 3) := by decide +kernel
theorem dX2_multiply_48 : decode cX2_multiply 48 = .ok (.iload_n 2, 1) := by decide +kernel
theorem dX2_multiply_49 : decode cX2_multiply 49 = .ok (.lload_n 3, 1) := by decide +kernel
theorem dX2_multiply_50 : decode cX2_multiply 50 = .ok (.lastore, 1) := by decide +kernel
theorem dX2_multiply_51 : decode cX2_multiply 51 = .ok (.iinc 2 (-1), 3) := by decide +kernel
theorem dX2_multiply_54 : decode cX2_multiply 54 = .ok (.goto (-51), 3) := by decide +kernel
theorem dX2_multiply_57 : decode cX2_multiply 57 = .ok (.aload_n 0, 1) := by decide +kernel
theorem dX2_multiply_58 : decode cX2_multiply 58 = .ok (.lconst 0, 1) := by decide +kernel
theorem dX2_multiply_59 : decode cX2_multiply 59 = .ok (.invokevirtual 32, 3) := by decide +kernel
theorem dX2_multiply_62 : decode cX2_multiply 62 = .ok (.return_, 1) := by decide +kernel
theorem dX2_shorten_0 : decode cX2_shorten 0 = .ok (.lload_n 1, 1) := by decide +kernel
theorem dX2_shorten_1 : decode cX2_shorten 1 = .ok (.lconst 0, 1) := by decide +kernel
theorem dX2_shorten_2 : decode cX2_shorten 2 = .ok (.lcmp, 1) := by decide +kernel
theorem dX2_shorten_3 : decode cX2_shorten 3 = .ok (.ifCond .gt 5, 3) := by decide +kernel
theorem dX2_shorten_6 : decode cX2_shorten 6 = .ok (.lconst 0, 1) := by decide +kernel
theorem dX2_shorten_7 : decode cX2_shorten 7 = .ok (.lreturn, 1) := by decide +kernel
theorem dX2_shorten_8 : decode cX2_shorten 8 = .ok (.lconst 0, 1) := by decide +kernel
theorem dX2_shorten_9 : decode cX2_shorten 9 = .ok (.lstore_n 3, 1) := by decide +kernel
theorem dX2_shorten_10 : decode cX2_shorten 10 = .ok (.bipush 11, 2) := by decide +kernel
theorem dX2_shorten_12 : decode cX2_shorten 12 = .ok (.istore 5, 2) := by decide +kernel
theorem dX2_shorten_14 : decode cX2_shorten 14 = .ok (.iload 5, 2) := by decide +kernel
theorem dX2_shorten_16 : decode cX2_shorten 16 = .ok (.ifCond .lt 36, 3) := by decide +kernel
theorem dX2_shorten_19 : decode cX2_shorten 19 = .ok (.lload_n 3, 1) := by decide +kernel
theorem dX2_shorten_20 : decode cX2_shorten 20 = .ok (.bipush 16, 2) := by decide +kernel
theorem dX2_shorten_22 : decode cX2_shorten 22 = .ok (.lshl, 1) := by decide +kernel
theorem dX2_shorten_23 : decode cX2_shorten 23 = .ok (.aload_n 0, 1) := by decide +kernel
theorem dX2_shorten_24 : decode cX2_shorten 24 = .ok (.getfield 9, 3) := by decide +kernel
theorem dX2_shorten_27 : decode cX2_shorten 27 = .ok (.iload 5, 2) := by decide +kernel
theorem dX2_shorten_29 : decode cX2_shorten 29 = .ok (.laload, 1) := by decide +kernel
theorem dX2_shorten_30 : decode cX2_shorten 30 = .ok (.lor, 1) := by decide +kernel
theorem dX2_shorten_31 : decode cX2_shorten 31 = .ok (.lstore_n 3, 1) := by decide +kernel
theorem dX2_shorten_32 : decode cX2_shorten 32 = .ok (.aload_n 0, 1) := by decide +kernel
theorem dX2_shorten_33 : decode cX2_shorten 33 = .ok (.getfield 9, 3) := by decide +kernel
theorem dX2_shorten_36 : decode cX2_shorten 36 = .ok (.iload 5, 2) := by decide +kernel
theorem dX2_shorten_38 : decode cX2_shorten 38 = .ok (.lload_n 3, 1) := by decide +kernel
theorem dX2_shorten_39 : decode cX2_shorten 39 = .ok (.lload_n 1, 1) := by decide +kernel
theorem dX2_shorten_40 : decode cX2_shorten 40 = .ok (.ldiv, 1) := by decide +kernel
theorem dX2_shorten_41 : decode cX2_shorten 41 = .ok (.lastore, 1) := by decide +kernel
theorem dX2_shorten_42 : decode cX2_shorten 42 = .ok (.lload_n 3, 1) := by decide +kernel
theorem dX2_shorten_43 : decode cX2_shorten 43 = .ok (.lload_n 1, 1) := by decide +kernel
theorem dX2_shorten_44 : decode cX2_shorten 44 = .ok (.lrem, 1) := by decide +kernel
theorem dX2_shorten_45 : decode cX2_shorten 45 = .ok (.lstore_n 3, 1) := by decide +kernel
theorem dX2_shorten_46 : decode cX2_shorten 46 = .ok (.iinc 5 (-1), 3) := by decide +kernel
theorem dX2_shorten_49 : decode cX2_shorten 49 = .ok (.goto (-35), 3) := by decide +kernel
theorem dX2_shorten_52 : decode cX2_shorten 52 = .ok (.lload_n 3, 1) := by decide +kernel
theorem dX2_shorten_53 : decode cX2_shorten 53 = .ok (.lreturn, 1) := by decide +kernel
theorem dX2_divide_0 : decode cX2_divide 0 = .ok (.aload_n 2, 1) := by decide +kernel
theorem dX2_divide_1 : decode cX2_divide 1 = .ok (.lconst 0, 1) := by decide +kernel
theorem dX2_divide_2 : decode cX2_divide 2 = .ok (.invokevirtual 36, 3) := by decide +kernel
theorem dX2_divide_5 : decode cX2_divide 5 = .ok (.aload_n 1, 1) := by decide +kernel
theorem dX2_divide_6 : decode cX2_divide 6 = .ok (.invokevirtual 17, 3) := by decide +kernel
theorem dX2_divide_9 : decode cX2_divide 9 = .ok (.istore_n 3, 1) := by decide +kernel
theorem dX2_divide_10 : decode cX2_divide 10 = .ok (.iload_n 3, 1) := by decide +kernel
theorem dX2_divide_11 : decode cX2_divide 11 = .ok (.ifCond .ne 4, 3) := by decide +kernel
theorem dX2_divide_14 : decode cX2_divide 14 = .ok (.return_, 1) := by decide +kernel
theorem dX2_divide_15 : decode cX2_divide 15 = .ok (.aload_n 0, 1) := by decide +kernel
theorem dX2_divide_16 : decode cX2_divide 16 = .ok (.invokevirtual 17, 3) := by decide +kernel
theorem dX2_divide_19 : decode cX2_divide 19 = .ok (.iload_n 3, 1) := by decide +kernel
theorem dX2_divide_20 : decode cX2_divide 20 = .ok (.isub, 1) := by decide +kernel
theorem dX2_divide_21 : decode cX2_divide 21 = .ok (.istore 4, 2) := by decide +kernel
theorem dX2_divide_23 : decode cX2_divide 23 = .ok (.iload 4, 2) := by decide +kernel
theorem dX2_divide_25 : decode cX2_divide 25 = .ok (.ifCond .lt 67, 3) := by decide +kernel
theorem dX2_divide_28 : decode cX2_divide 28 = .ok (.aload_n 0, 1) := by decide +kernel
theorem dX2_divide_29 : decode cX2_divide 29 = .ok (.aload_n 1, 1) := by decide +kernel
theorem dX2_divide_30 : decode cX2_divide 30 = .ok (.iload_n 3, 1) := by decide +kernel
theorem dX2_divide_31 : decode cX2_divide 31 = .ok (.iload 4, 2) := by decide +kernel
theorem dX2_divide_33 : decode cX2_divide 33 = .ok (.invokevirtual 39, 3) := by decide +kernel
theorem dX2_divide_36 : decode cX2_divide 36 = .ok (.lstore 5, 2) := by decide +kernel
theorem dX2_divide_38 : decode cX2_divide 38 = .ok (.lload 5, 2) := by decide +kernel
theorem dX2_divide_40 : decode cX2_divide 40 = .ok (.lconst 0, 1) := by decide +kernel
theorem dX2_divide_41 : decode cX2_divide 41 = .ok (.lcmp, 1) := by decide +kernel
theorem dX2_divide_42 : decode cX2_divide 42 = .ok (.ifCond .le 35, 3) := by decide +kernel
theorem dX2_divide_45 : decode cX2_divide 45 = .ok (.aload_n 0, 1) := by decide +kernel
theorem dX2_divide_46 : decode cX2_divide 46 = .ok (.aload_n 1, 1) := by decide +kernel
theorem dX2_divide_47 : decode cX2_divide 47 = .ok (.iload_n 3, 1) := by decide +kernel
theorem dX2_divide_48 : decode cX2_divide 48 = .ok (.iload 4, 2) := by decide +kernel
theorem dX2_divide_50 : decode cX2_divide 50 = .ok (.lload 5, 2) := by decide +kernel
theorem dX2_divide_52 : decode cX2_divide 52 = .ok (.lneg, 1) := by decide +kernel
theorem dX2_divide_53 : decode cX2_divide 53 = .ok (.invokevirtual 28, 3) := by decide +kernel
theorem dX2_divide_56 : decode cX2_divide 56 = .ok (.lconst 0, 1) := by decide +kernel
theorem dX2_divide_57 : decode cX2_divide 57 = .ok (.lcmp, 1) := by decide +kernel
theorem dX2_divide_58 : decode cX2_divide 58 = .ok (.ifCond .ge 19, 3) := by decide +kernel
theorem dX2_divide_61 : decode cX2_divide 61 = .ok (.aload_n 0, 1) := by decide +kernel
theorem dX2_divide_62 : decode cX2_divide 62 = .ok (.aload_n 1, 1) := by decide +kernel
theorem dX2_divide_63 : decode cX2_divide 63 = .ok (.iload_n 3, 1) := by decide +kernel
theorem dX2_divide_64 : decode cX2_divide 64 = .ok (.iload 4, 2) := by decide +kernel
theorem dX2_divide_66 : decode cX2_divide 66 = .ok (.lconst 1, 1) := by decide +kernel
theorem dX2_divide_67 : decode cX2_divide 67 = .ok (.invokevirtual 28, 3) := by decide +kernel
theorem dX2_divide_70 : decode cX2_divide 70 = .ok (.pop2, 1) := by decide +kernel
theorem dX2_divide_71 : decode cX2_divide 71 = .ok (.lload 5, 2) := by decide +kernel
theorem dX2_divide_73 : decode cX2_divide 73 = .ok (.lconst 1, 1) := by decide +kernel
theorem dX2_divide_74 : decode cX2_divide 74 = .ok (.lsub, 1) := by decide +kernel
theorem dX2_divide_75 : decode cX2_divide 75 = .ok (.lstore 5, 2) := by decide +kernel
theorem dX2_divide_77 : decode cX2_divide 77 = .ok (.aload_n 2, 1) := by decide +kernel
theorem dX2_divide_78 : decode cX2_divide 78 = .ok (.getfield 9, 3) := by decide +kernel
theorem dX2_divide_81 : decode cX2_divide 81 = .ok (.iload 4, 2) := by decide +kernel
theorem dX2_divide_83 : decode cX2_divide 83 = .ok (.lload 5, 2) := by decide +kernel
theorem dX2_divide_85 : decode cX2_divide 85 = .ok (.lastore, 1) := by decide +kernel
theorem dX2_divide_86 : decode cX2_divide 86 = .ok (.iinc 4 (-1), 3) := by decide +kernel
theorem dX2_divide_89 : decode cX2_divide 89 = .ok (.goto (-66), 3) := by decide +kernel
theorem dX2_divide_92 : decode cX2_divide 92 = .ok (.return_, 1) := by decide +kernel
theorem dX2_guessDigit_0 : decode cX2_guessDigit 0 = .ok (.aload_n 1, 1) := by decide +kernel
theorem dX2_guessDigit_1 : decode cX2_guessDigit 1 = .ok (.iload_n 2, 1) := by decide +kernel
theorem dX2_guessDigit_2 : decode cX2_guessDigit 2 = .ok (.iconst 1, 1) := by decide +kernel
theorem dX2_guessDigit_3 : decode cX2_guessDigit 3 = .ok (.isub, 1) := by decide +kernel
theorem dX2_guessDigit_4 : decode cX2_guessDigit 4 = .ok (.invokevirtual 21, 3) := by decide +kernel
theorem dX2_guessDigit_7 : decode cX2_guessDigit 7 = .ok (.bipush 16, 2) := by decide +kernel
theorem dX2_guessDigit_9 : decode cX2_guessDigit 9 = .ok (.lshl, 1) := by decide +kernel
theorem dX2_guessDigit_10 : decode cX2_guessDigit 10 = .ok (.aload_n 1, 1) := by decide +kernel
theorem dX2_guessDigit_11 : decode cX2_guessDigit 11 = .ok (.iload_n 2, 1) := by decide +kernel
theorem dX2_guessDigit_12 : decode cX2_guessDigit 12 = .ok (.iconst 2, 1) := by decide +kernel
theorem dX2_guessDigit_13 : decode cX2_guessDigit 13 = .ok (.isub, 1) := by decide +kernel
theorem dX2_guessDigit_14 : decode cX2_guessDigit 14 = .ok (.invokevirtual 21, 3) := by decide +kernel
theorem dX2_guessDigit_17 : decode cX2_guessDigit 17 = .ok (.lor, 1) := by decide +kernel
theorem dX2_guessDigit_18 : decode cX2_guessDigit 18 = .ok (.lstore 4, 2) := by decide +kernel
theorem dX2_guessDigit_20 : decode cX2_guessDigit 20 = .ok (.lload 4, 2) := by decide +kernel
theorem dX2_guessDigit_22 : decode cX2_guessDigit 22 = .ok (.lconst 0, 1) := by decide +kernel
theorem dX2_guessDigit_23 : decode cX2_guessDigit 23 = .ok (.lcmp, 1) := by decide +kernel
theorem dX2_guessDigit_24 : decode cX2_guessDigit 24 = .ok (.ifCond .ne 5, 3) := by decide +kernel
theorem dX2_guessDigit_27 : decode cX2_guessDigit 27 = .ok (.lconst 0, 1) := by decide +kernel
theorem dX2_guessDigit_28 : decode cX2_guessDigit 28 = .ok (.lreturn, 1) := by decide +kernel
theorem dX2_guessDigit_29 : decode cX2_guessDigit 29 = .ok (.iload_n 2, 1) := by decide +kernel
theorem dX2_guessDigit_30 : decode cX2_guessDigit 30 = .ok (.iload_n 3, 1) := by decide +kernel
theorem dX2_guessDigit_31 : decode cX2_guessDigit 31 = .ok (.iadd, 1) := by decide +kernel
theorem dX2_guessDigit_32 : decode cX2_guessDigit 32 = .ok (.istore 6, 2) := by decide +kernel
theorem dX2_guessDigit_34 : decode cX2_guessDigit 34 = .ok (.aload_n 0, 1) := by decide +kernel
theorem dX2_guessDigit_35 : decode cX2_guessDigit 35 = .ok (.iload 6, 2) := by decide +kernel
theorem dX2_guessDigit_37 : decode cX2_guessDigit 37 = .ok (.invokevirtual 21, 3) := by decide +kernel
theorem dX2_guessDigit_40 : decode cX2_guessDigit 40 = .ok (.bipush 16, 2) := by decide +kernel
theorem dX2_guessDigit_42 : decode cX2_guessDigit 42 = .ok (.lshl, 1) := by decide +kernel
theorem dX2_guessDigit_43 : decode cX2_guessDigit 43 = .ok (.aload_n 0, 1) := by decide +kernel
theorem dX2_guessDigit_44 : decode cX2_guessDigit 44 = .ok (.iload 6, 2) := by decide +kernel
theorem dX2_guessDigit_46 : decode cX2_guessDigit 46 = .ok (.iconst 1, 1) := by decide +kernel
theorem dX2_guessDigit_47 : decode cX2_guessDigit 47 = .ok (.isub, 1) := by decide +kernel
theorem dX2_guessDigit_48 : decode cX2_guessDigit 48 = .ok (.invokevirtual 21, 3) := by decide +kernel
theorem dX2_guessDigit_51 : decode cX2_guessDigit 51 = .ok (.lor, 1) := by decide +kernel
theorem dX2_guessDigit_52 : decode cX2_guessDigit 52 = .ok (.bipush 16, 2) := by decide +kernel
theorem dX2_guessDigit_54 : decode cX2_guessDigit 54 = .ok (.lshl, 1) := by decide +kernel
theorem dX2_guessDigit_55 : decode cX2_guessDigit 55 = .ok (.aload_n 0, 1) := by decide +kernel
theorem dX2_guessDigit_56 : decode cX2_guessDigit 56 = .ok (.iload 6, 2) := by decide +kernel
theorem dX2_guessDigit_58 : decode cX2_guessDigit 58 = .ok (.iconst 2, 1) := by decide +kernel
theorem dX2_guessDigit_59 : decode cX2_guessDigit 59 = .ok (.isub, 1) := by decide +kernel
theorem dX2_guessDigit_60 : decode cX2_guessDigit 60 = .ok (.invokevirtual 21, 3) := by decide +kernel
theorem dX2_guessDigit_63 : decode cX2_guessDigit 63 = .ok (.lor, 1) := by decide +kernel
theorem dX2_guessDigit_64 : decode cX2_guessDigit 64 = .ok (.lload 4, 2) := by decide +kernel
theorem dX2_guessDigit_66 : decode cX2_guessDigit 66 = .ok (.ldiv, 1) := by decide +kernel
theorem dX2_guessDigit_67 : decode cX2_guessDigit 67 = .ok (.lreturn, 1) := by decide +kernel
