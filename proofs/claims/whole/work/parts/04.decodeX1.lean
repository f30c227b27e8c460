theorem dX1_init_0 : decode cX1_init 0 = .ok (.aload_n 0, 1) := by decide +kernel
theorem dX1_init_1 : decode cX1_init 1 = .ok (.invokespecial 3, 3) := by decide +kernel
theorem dX1_init_4 : decode cX1_init 4 = .ok (.aload_n 0, 1) := by decide +kernel
theorem dX1_init_5 : decode cX1_init 5 = .ok (.iload_n 1, 1) := by decide +kernel
theorem dX1_init_6 : decode cX1_init 6 = .ok (.putfield 9, 3) := by decide +kernel
theorem dX1_init_9 : decode cX1_init 9 = .ok (.aload_n 0, 1) := by decide +kernel
theorem dX1_init_10 : decode cX1_init 10 = .ok (.iload_n 2, 1) := by decide +kernel
theorem dX1_init_11 : decode cX1_init 11 = .ok (.putfield 15, 3) := by decide +kernel
theorem dX1_init_14 : decode cX1_init 14 = .ok (.aload_n 0, 1) := by decide +kernel
theorem dX1_init_15 : decode cX1_init 15 = .ok (.lload_n 3, 1) := by decide +kernel
theorem dX1_init_16 : decode cX1_init 16 = .ok (.putfield 19, 3) := by decide +kernel
theorem dX1_init_19 : decode cX1_init 19 = .ok (.aload_n 0, 1) := by decide +kernel
theorem dX1_init_20 : decode cX1_init 20 = .ok (.lload 5, 2) := by decide +kernel
theorem dX1_init_22 : decode cX1_init 22 = .ok (.putfield 23, 3) := by decide +kernel
theorem dX1_init_25 : decode cX1_init 25 = .ok (.aload_n 0, 1) := by decide +kernel
theorem dX1_init_26 : decode cX1_init 26 = .ok (.lload 7, 2) := by decide +kernel
theorem dX1_init_28 : decode cX1_init 28 = .ok (.putfield 26, 3) := by decide +kernel
theorem dX1_init_31 : decode cX1_init 31 = .ok (.aload_n 0, 1) := by decide +kernel
theorem dX1_init_32 : decode cX1_init 32 = .ok (.iconst 0, 1) := by decide +kernel
theorem dX1_init_33 : decode cX1_init 33 = .ok (.putfield 29, 3) := by decide +kernel
theorem dX1_init_36 : decode cX1_init 36 = .ok (.aload_n 0, 1) := by decide +kernel
theorem dX1_init_37 : decode cX1_init 37 = .ok (.iconst 0, 1) := by decide +kernel
theorem dX1_init_38 : decode cX1_init 38 = .ok (.putfield 32, 3) := by decide +kernel
theorem dX1_init_41 : decode cX1_init 41 = .ok (.return_, 1) := by decide +kernel
theorem dX1_least_0 : decode cX1_least 0 = .ok (.aload_n 0, 1) := by decide +kernel
theorem dX1_least_1 : decode cX1_least 1 = .ok (.getfield 15, 3) := by decide +kernel
theorem dX1_least_4 : decode cX1_least 4 = .ok (.ifCond .eq 16, 3) := by decide +kernel
theorem dX1_least_7 : decode cX1_least 7 = .ok (.ldc2_w 35, 3) := by decide +kernel
theorem dX1_least_10 : decode cX1_least 10 = .ok (.aload_n 0, 1) := by decide +kernel
theorem dX1_least_11 : decode cX1_least 11 = .ok (.getfield 9, 3) := by decide +kernel
theorem dX1_least_14 : decode cX1_least 14 = .ok (.iconst 1, 1) := by decide +kernel
theorem dX1_least_15 : decode cX1_least 15 = .ok (.isub, 1) := by decide +kernel
theorem dX1_least_16 : decode cX1_least 16 = .ok (.lshl, 1) := by decide +kernel
theorem dX1_least_17 : decode cX1_least 17 = .ok (.goto 4, 3) := by decide +kernel
theorem dX1_least_20 : decode cX1_least 20 = .ok (.lconst 0, 1) := by decide +kernel
theorem dX1_least_21 : decode cX1_least 21 = .ok (.lreturn, 1) := by decide +kernel
theorem dX1_greatest_0 : decode cX1_greatest 0 = .ok (.aload_n 0, 1) := by decide +kernel
theorem dX1_greatest_1 : decode cX1_greatest 1 = .ok (.getfield 15, 3) := by decide +kernel
theorem dX1_greatest_4 : decode cX1_greatest 4 = .ok (.ifCond .eq 14, 3) := by decide +kernel
theorem dX1_greatest_7 : decode cX1_greatest 7 = .ok (.aload_n 0, 1) := by decide +kernel
theorem dX1_greatest_8 : decode cX1_greatest 8 = .ok (.invokevirtual 37, 3) := by decide +kernel
theorem dX1_greatest_11 : decode cX1_greatest 11 = .ok (.ldc2_w 35, 3) := by decide +kernel
theorem dX1_greatest_14 : decode cX1_greatest 14 = .ok (.lxor, 1) := by decide +kernel
theorem dX1_greatest_15 : decode cX1_greatest 15 = .ok (.goto 11, 3) := by decide +kernel
theorem dX1_greatest_18 : decode cX1_greatest 18 = .ok (.lconst 1, 1) := by decide +kernel
theorem dX1_greatest_19 : decode cX1_greatest 19 = .ok (.aload_n 0, 1) := by decide +kernel
theorem dX1_greatest_20 : decode cX1_greatest 20 = .ok (.getfield 9, 3) := by decide +kernel
theorem dX1_greatest_23 : decode cX1_greatest 23 = .ok (.lshl, 1) := by decide +kernel
theorem dX1_greatest_24 : decode cX1_greatest 24 = .ok (.lconst 1, 1) := by decide +kernel
theorem dX1_greatest_25 : decode cX1_greatest 25 = .ok (.lsub, 1) := by decide +kernel
theorem dX1_greatest_26 : decode cX1_greatest 26 = .ok (.lreturn, 1) := by decide +kernel
theorem dX1_isRaw_0 : decode cX1_isRaw 0 = .ok (.lload_n 1, 1) := by decide +kernel
theorem dX1_isRaw_1 : decode cX1_isRaw 1 = .ok (.aload_n 0, 1) := by decide +kernel
theorem dX1_isRaw_2 : decode cX1_isRaw 2 = .ok (.invokevirtual 37, 3) := by decide +kernel
theorem dX1_isRaw_5 : decode cX1_isRaw 5 = .ok (.lcmp, 1) := by decide +kernel
theorem dX1_isRaw_6 : decode cX1_isRaw 6 = .ok (.ifCond .lt 16, 3) := by decide +kernel
theorem dX1_isRaw_9 : decode cX1_isRaw 9 = .ok (.lload_n 1, 1) := by decide +kernel
theorem dX1_isRaw_10 : decode cX1_isRaw 10 = .ok (.aload_n 0, 1) := by decide +kernel
theorem dX1_isRaw_11 : decode cX1_isRaw 11 = .ok (.invokevirtual 41, 3) := by decide +kernel
theorem dX1_isRaw_14 : decode cX1_isRaw 14 = .ok (.lcmp, 1) := by decide +kernel
theorem dX1_isRaw_15 : decode cX1_isRaw 15 = .ok (.ifCond .gt 7, 3) := by decide +kernel
theorem dX1_isRaw_18 : decode cX1_isRaw 18 = .ok (.iconst 1, 1) := by decide +kernel
theorem dX1_isRaw_19 : decode cX1_isRaw 19 = .ok (.goto 4, 3) := by decide +kernel
theorem dX1_isRaw_22 : decode cX1_isRaw 22 = .ok (.iconst 0, 1) := by decide +kernel
theorem dX1_isRaw_23 : decode cX1_isRaw 23 = .ok (.ireturn, 1) := by decide +kernel
theorem dX1_broughtIn_0 : decode cX1_broughtIn 0 = .ok (.bipush 64, 2) := by decide +kernel
theorem dX1_broughtIn_2 : decode cX1_broughtIn 2 = .ok (.aload_n 0, 1) := by decide +kernel
theorem dX1_broughtIn_3 : decode cX1_broughtIn 3 = .ok (.getfield 9, 3) := by decide +kernel
theorem dX1_broughtIn_6 : decode cX1_broughtIn 6 = .ok (.isub, 1) := by decide +kernel
theorem dX1_broughtIn_7 : decode cX1_broughtIn 7 = .ok (.istore_n 3, 1) := by decide +kernel
theorem dX1_broughtIn_8 : decode cX1_broughtIn 8 = .ok (.aload_n 0, 1) := by decide +kernel
theorem dX1_broughtIn_9 : decode cX1_broughtIn 9 = .ok (.getfield 15, 3) := by decide +kernel
theorem dX1_broughtIn_12 : decode cX1_broughtIn 12 = .ok (.ifCond .eq 11, 3) := by decide +kernel
theorem dX1_broughtIn_15 : decode cX1_broughtIn 15 = .ok (.lload_n 1, 1) := by decide +kernel
theorem dX1_broughtIn_16 : decode cX1_broughtIn 16 = .ok (.iload_n 3, 1) := by decide +kernel
theorem dX1_broughtIn_17 : decode cX1_broughtIn 17 = .ok (.lshl, 1) := by decide +kernel
theorem dX1_broughtIn_18 : decode cX1_broughtIn 18 = .ok (.iload_n 3, 1) := by decide +kernel
theorem dX1_broughtIn_19 : decode cX1_broughtIn 19 = .ok (.lshr, 1) := by decide +kernel
theorem dX1_broughtIn_20 : decode cX1_broughtIn 20 = .ok (.goto 8, 3) := by decide +kernel
theorem dX1_broughtIn_23 : decode cX1_broughtIn 23 = .ok (.lload_n 1, 1) := by decide +kernel
theorem dX1_broughtIn_24 : decode cX1_broughtIn 24 = .ok (.iload_n 3, 1) := by decide +kernel
theorem dX1_broughtIn_25 : decode cX1_broughtIn 25 = .ok (.lshl, 1) := by decide +kernel
theorem dX1_broughtIn_26 : decode cX1_broughtIn 26 = .ok (.iload_n 3, 1) := by decide +kernel
theorem dX1_broughtIn_27 : decode cX1_broughtIn 27 = .ok (.lushr, 1) := by decide +kernel
theorem dX1_broughtIn_28 : decode cX1_broughtIn 28 = .ok (.lreturn, 1) := by decide +kernel
theorem dX1_bits_0 : decode cX1_bits 0 = .ok (.bipush 64, 2) := by decide +kernel
theorem dX1_bits_2 : decode cX1_bits 2 = .ok (.aload_n 0, 1) := by decide +kernel
theorem dX1_bits_3 : decode cX1_bits 3 = .ok (.getfield 9, 3) := by decide +kernel
theorem dX1_bits_6 : decode cX1_bits 6 = .ok (.isub, 1) := by decide +kernel
theorem dX1_bits_7 : decode cX1_bits 7 = .ok (.istore_n 3, 1) := by decide +kernel
theorem dX1_bits_8 : decode cX1_bits 8 = .ok (.lload_n 1, 1) := by decide +kernel
theorem dX1_bits_9 : decode cX1_bits 9 = .ok (.iload_n 3, 1) := by decide +kernel
theorem dX1_bits_10 : decode cX1_bits 10 = .ok (.lshl, 1) := by decide +kernel
theorem dX1_bits_11 : decode cX1_bits 11 = .ok (.iload_n 3, 1) := by decide +kernel
theorem dX1_bits_12 : decode cX1_bits 12 = .ok (.lushr, 1) := by decide +kernel
theorem dX1_bits_13 : decode cX1_bits 13 = .ok (.lreturn, 1) := by decide +kernel
theorem dX1_octets_0 : decode cX1_octets 0 = .ok (.aload_n 0, 1) := by decide +kernel
theorem dX1_octets_1 : decode cX1_octets 1 = .ok (.getfield 9, 3) := by decide +kernel
theorem dX1_octets_4 : decode cX1_octets 4 = .ok (.bipush 7, 2) := by decide +kernel
theorem dX1_octets_6 : decode cX1_octets 6 = .ok (.iadd, 1) := by decide +kernel
theorem dX1_octets_7 : decode cX1_octets 7 = .ok (.bipush 8, 2) := by decide +kernel
theorem dX1_octets_9 : decode cX1_octets 9 = .ok (.idiv, 1) := by decide +kernel
theorem dX1_octets_10 : decode cX1_octets 10 = .ok (.ireturn, 1) := by decide +kernel
