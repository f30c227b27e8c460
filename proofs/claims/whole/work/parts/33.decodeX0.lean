theorem dX0_init_0 : decode cX0_init 0 = .ok (.aload_n 0, 1) := by decide +kernel
theorem dX0_init_1 : decode cX0_init 1 = .ok (.invokespecial 3, 3) := by decide +kernel
theorem dX0_init_4 : decode cX0_init 4 = .ok (.aload_n 0, 1) := by decide +kernel
theorem dX0_init_5 : decode cX0_init 5 = .ok (.new 9, 3) := by decide +kernel
theorem dX0_init_8 : decode cX0_init 8 = .ok (.dup, 1) := by decide +kernel
theorem dX0_init_9 : decode cX0_init 9 = .ok (.invokespecial 11, 3) := by decide +kernel
theorem dX0_init_12 : decode cX0_init 12 = .ok (.putfield 12, 3) := by decide +kernel
theorem dX0_init_15 : decode cX0_init 15 = .ok (.aload_n 0, 1) := by decide +kernel
theorem dX0_init_16 : decode cX0_init 16 = .ok (.new 9, 3) := by decide +kernel
theorem dX0_init_19 : decode cX0_init 19 = .ok (.dup, 1) := by decide +kernel
theorem dX0_init_20 : decode cX0_init 20 = .ok (.invokespecial 11, 3) := by decide +kernel
theorem dX0_init_23 : decode cX0_init 23 = .ok (.putfield 18, 3) := by decide +kernel
theorem dX0_init_26 : decode cX0_init 26 = .ok (.return_, 1) := by decide +kernel
theorem dX0_take_0 : decode cX0_take 0 = .ok (.aload_n 0, 1) := by decide +kernel
theorem dX0_take_1 : decode cX0_take 1 = .ok (.getfield 12, 3) := by decide +kernel
theorem dX0_take_4 : decode cX0_take 4 = .ok (.aload_n 1, 1) := by decide +kernel
theorem dX0_take_5 : decode cX0_take 5 = .ok (.lload_n 2, 1) := by decide +kernel
theorem dX0_take_6 : decode cX0_take 6 = .ok (.invokevirtual 21, 3) := by decide +kernel
theorem dX0_take_9 : decode cX0_take 9 = .ok (.invokevirtual 27, 3) := by decide +kernel
theorem dX0_take_12 : decode cX0_take 12 = .ok (.aload_n 0, 1) := by decide +kernel
theorem dX0_take_13 : decode cX0_take 13 = .ok (.getfield 12, 3) := by decide +kernel
theorem dX0_take_16 : decode cX0_take 16 = .ok (.aload_n 1, 1) := by decide +kernel
theorem dX0_take_17 : decode cX0_take 17 = .ok (.getfield 31, 3) := by decide +kernel
theorem dX0_take_20 : decode cX0_take 20 = .ok (.invokevirtual 35, 3) := by decide +kernel
theorem dX0_take_23 : decode cX0_take 23 = .ok (.aload_n 0, 1) := by decide +kernel
theorem dX0_take_24 : decode cX0_take 24 = .ok (.getfield 12, 3) := by decide +kernel
theorem dX0_take_27 : decode cX0_take 27 = .ok (.aload_n 1, 1) := by decide +kernel
theorem dX0_take_28 : decode cX0_take 28 = .ok (.getfield 38, 3) := by decide +kernel
theorem dX0_take_31 : decode cX0_take 31 = .ok (.aload_n 1, 1) := by decide +kernel
theorem dX0_take_32 : decode cX0_take 32 = .ok (.getfield 41, 3) := by decide +kernel
theorem dX0_take_35 : decode cX0_take 35 = .ok (.lmul, 1) := by decide +kernel
theorem dX0_take_36 : decode cX0_take 36 = .ok (.invokevirtual 44, 3) := by decide +kernel
theorem dX0_take_39 : decode cX0_take 39 = .ok (.aload_n 0, 1) := by decide +kernel
theorem dX0_take_40 : decode cX0_take 40 = .ok (.getfield 18, 3) := by decide +kernel
theorem dX0_take_43 : decode cX0_take 43 = .ok (.aload_n 1, 1) := by decide +kernel
theorem dX0_take_44 : decode cX0_take 44 = .ok (.getfield 41, 3) := by decide +kernel
theorem dX0_take_47 : decode cX0_take 47 = .ok (.invokevirtual 27, 3) := by decide +kernel
theorem dX0_take_50 : decode cX0_take 50 = .ok (.return_, 1) := by decide +kernel
theorem dX0_sign_0 : decode cX0_sign 0 = .ok (.aload_n 0, 1) := by decide +kernel
theorem dX0_sign_1 : decode cX0_sign 1 = .ok (.getfield 12, 3) := by decide +kernel
theorem dX0_sign_4 : decode cX0_sign 4 = .ok (.invokevirtual 47, 3) := by decide +kernel
theorem dX0_sign_7 : decode cX0_sign 7 = .ok (.ifCond .eq 5, 3) := by decide +kernel
theorem dX0_sign_10 : decode cX0_sign 10 = .ok (.iconst 0, 1) := by decide +kernel
theorem dX0_sign_11 : decode cX0_sign 11 = .ok (.ireturn, 1) := by decide +kernel
theorem dX0_sign_12 : decode cX0_sign 12 = .ok (.aload_n 0, 1) := by decide +kernel
theorem dX0_sign_13 : decode cX0_sign 13 = .ok (.getfield 12, 3) := by decide +kernel
theorem dX0_sign_16 : decode cX0_sign 16 = .ok (.invokevirtual 51, 3) := by decide +kernel
theorem dX0_sign_19 : decode cX0_sign 19 = .ok (.ifCond .eq 7, 3) := by decide +kernel
theorem dX0_sign_22 : decode cX0_sign 22 = .ok (.iconst (-1), 1) := by decide +kernel
theorem dX0_sign_23 : decode cX0_sign 23 = .ok (.goto 4, 3) := by decide +kernel
theorem dX0_sign_26 : decode cX0_sign 26 = .ok (.iconst 1, 1) := by decide +kernel
theorem dX0_sign_27 : decode cX0_sign 27 = .ok (.ireturn, 1) := by decide +kernel
theorem dX0_add_0 : decode cX0_add 0 = .ok (.aload_n 0, 1) := by decide +kernel
theorem dX0_add_1 : decode cX0_add 1 = .ok (.getfield 12, 3) := by decide +kernel
theorem dX0_add_4 : decode cX0_add 4 = .ok (.aload_n 1, 1) := by decide +kernel
theorem dX0_add_5 : decode cX0_add 5 = .ok (.getfield 18, 3) := by decide +kernel
theorem dX0_add_8 : decode cX0_add 8 = .ok (.invokevirtual 54, 3) := by decide +kernel
theorem dX0_add_11 : decode cX0_add 11 = .ok (.aload_n 1, 1) := by decide +kernel
theorem dX0_add_12 : decode cX0_add 12 = .ok (.getfield 12, 3) := by decide +kernel
theorem dX0_add_15 : decode cX0_add 15 = .ok (.aload_n 0, 1) := by decide +kernel
theorem dX0_add_16 : decode cX0_add 16 = .ok (.getfield 18, 3) := by decide +kernel
theorem dX0_add_19 : decode cX0_add 19 = .ok (.invokevirtual 54, 3) := by decide +kernel
theorem dX0_add_22 : decode cX0_add 22 = .ok (.aload_n 0, 1) := by decide +kernel
theorem dX0_add_23 : decode cX0_add 23 = .ok (.getfield 12, 3) := by decide +kernel
theorem dX0_add_26 : decode cX0_add 26 = .ok (.aload_n 1, 1) := by decide +kernel
theorem dX0_add_27 : decode cX0_add 27 = .ok (.getfield 12, 3) := by decide +kernel
theorem dX0_add_30 : decode cX0_add 30 = .ok (.lload_n 2, 1) := by decide +kernel
theorem dX0_add_31 : decode cX0_add 31 = .ok (.invokevirtual 58, 3) := by decide +kernel
theorem dX0_add_34 : decode cX0_add 34 = .ok (.aload_n 0, 1) := by decide +kernel
theorem dX0_add_35 : decode cX0_add 35 = .ok (.getfield 18, 3) := by decide +kernel
theorem dX0_add_38 : decode cX0_add 38 = .ok (.aload_n 1, 1) := by decide +kernel
theorem dX0_add_39 : decode cX0_add 39 = .ok (.getfield 18, 3) := by decide +kernel
theorem dX0_add_42 : decode cX0_add 42 = .ok (.invokevirtual 54, 3) := by decide +kernel
theorem dX0_add_45 : decode cX0_add 45 = .ok (.return_, 1) := by decide +kernel
theorem dX0_multiply_0 : decode cX0_multiply 0 = .ok (.aload_n 0, 1) := by decide +kernel
theorem dX0_multiply_1 : decode cX0_multiply 1 = .ok (.getfield 12, 3) := by decide +kernel
theorem dX0_multiply_4 : decode cX0_multiply 4 = .ok (.aload_n 1, 1) := by decide +kernel
theorem dX0_multiply_5 : decode cX0_multiply 5 = .ok (.getfield 12, 3) := by decide +kernel
theorem dX0_multiply_8 : decode cX0_multiply 8 = .ok (.invokevirtual 54, 3) := by decide +kernel
theorem dX0_multiply_11 : decode cX0_multiply 11 = .ok (.aload_n 0, 1) := by decide +kernel
theorem dX0_multiply_12 : decode cX0_multiply 12 = .ok (.getfield 18, 3) := by decide +kernel
theorem dX0_multiply_15 : decode cX0_multiply 15 = .ok (.aload_n 1, 1) := by decide +kernel
theorem dX0_multiply_16 : decode cX0_multiply 16 = .ok (.getfield 18, 3) := by decide +kernel
theorem dX0_multiply_19 : decode cX0_multiply 19 = .ok (.invokevirtual 54, 3) := by decide +kernel
theorem dX0_multiply_22 : decode cX0_multiply 22 = .ok (.return_, 1) := by decide +kernel
theorem dX0_divide_0 : decode cX0_divide 0 = .ok (.aload_n 0, 1) := by decide +kernel
theorem dX0_divide_1 : decode cX0_divide 1 = .ok (.getfield 12, 3) := by decide +kernel
theorem dX0_divide_4 : decode cX0_divide 4 = .ok (.aload_n 1, 1) := by decide +kernel
theorem dX0_divide_5 : decode cX0_divide 5 = .ok (.getfield 18, 3) := by decide +kernel
theorem dX0_divide_8 : decode cX0_divide 8 = .ok (.invokevirtual 54, 3) := by decide +kernel
theorem dX0_divide_11 : decode cX0_divide 11 = .ok (.aload_n 0, 1) := by decide +kernel
theorem dX0_divide_12 : decode cX0_divide 12 = .ok (.getfield 18, 3) := by decide +kernel
theorem dX0_divide_15 : decode cX0_divide 15 = .ok (.aload_n 1, 1) := by decide +kernel
theorem dX0_divide_16 : decode cX0_divide 16 = .ok (.getfield 12, 3) := by decide +kernel
theorem dX0_divide_19 : decode cX0_divide 19 = .ok (.invokevirtual 54, 3) := by decide +kernel
theorem dX0_divide_22 : decode cX0_divide 22 = .ok (.aload_n 0, 1) := by decide +kernel
theorem dX0_divide_23 : decode cX0_divide 23 = .ok (.getfield 18, 3) := by decide +kernel
theorem dX0_divide_26 : decode cX0_divide 26 = .ok (.invokevirtual 51, 3) := by decide +kernel
theorem dX0_divide_29 : decode cX0_divide 29 = .ok (.ifCond .eq 23, 3) := by decide +kernel
theorem dX0_divide_32 : decode cX0_divide 32 = .ok (.aload_n 0, 1) := by decide +kernel
theorem dX0_divide_33 : decode cX0_divide 33 = .ok (.getfield 12, 3) := by decide +kernel
theorem dX0_divide_36 : decode cX0_divide 36 = .ok (.ldc2_w 62, 3) := by decide +kernel
theorem dX0_divide_39 : decode cX0_divide 39 = .ok (.invokevirtual 35, 3) := by decide +kernel
theorem dX0_divide_42 : decode cX0_divide 42 = .ok (.aload_n 0, 1) := by decide +kernel
theorem dX0_divide_43 : decode cX0_divide 43 = .ok (.getfield 18, 3) := by decide +kernel
theorem dX0_divide_46 : decode cX0_divide 46 = .ok (.ldc2_w 62, 3) := by decide +kernel
theorem dX0_divide_49 : decode cX0_divide 49 = .ok (.invokevirtual 35, 3) := by decide +kernel
theorem dX0_divide_52 : decode cX0_divide 52 = .ok (.return_, 1) := by decide +kernel
theorem dX0_toRawScale_0 : decode cX0_toRawScale 0 = .ok (.aload_n 0, 1) := by decide +kernel
theorem dX0_toRawScale_1 : decode cX0_toRawScale 1 = .ok (.getfield 12, 3) := by decide +kernel
theorem dX0_toRawScale_4 : decode cX0_toRawScale 4 = .ok (.aload_n 0, 1) := by decide +kernel
theorem dX0_toRawScale_5 : decode cX0_toRawScale 5 = .ok (.getfield 18, 3) := by decide +kernel
theorem dX0_toRawScale_8 : decode cX0_toRawScale 8 = .ok (.aload_n 1, 1) := by decide +kernel
theorem dX0_toRawScale_9 : decode cX0_toRawScale 9 = .ok (.getfield 38, 3) := by decide +kernel
theorem dX0_toRawScale_12 : decode cX0_toRawScale 12 = .ok (.lneg, 1) := by decide +kernel
theorem dX0_toRawScale_13 : decode cX0_toRawScale 13 = .ok (.invokevirtual 58, 3) := by decide +kernel
theorem dX0_toRawScale_16 : decode cX0_toRawScale 16 = .ok (.aload_n 0, 1) := by decide +kernel
theorem dX0_toRawScale_17 : decode cX0_toRawScale 17 = .ok (.getfield 12, 3) := by decide +kernel
theorem dX0_toRawScale_20 : decode cX0_toRawScale 20 = .ok (.aload_n 1, 1) := by decide +kernel
theorem dX0_toRawScale_21 : decode cX0_toRawScale 21 = .ok (.getfield 41, 3) := by decide +kernel
theorem dX0_toRawScale_24 : decode cX0_toRawScale 24 = .ok (.invokevirtual 35, 3) := by decide +kernel
theorem dX0_toRawScale_27 : decode cX0_toRawScale 27 = .ok (.aload_n 0, 1) := by decide +kernel
theorem dX0_toRawScale_28 : decode cX0_toRawScale 28 = .ok (.getfield 18, 3) := by decide +kernel
theorem dX0_toRawScale_31 : decode cX0_toRawScale 31 = .ok (.aload_n 1, 1) := by decide +kernel
theorem dX0_toRawScale_32 : decode cX0_toRawScale 32 = .ok (.getfield 31, 3) := by decide +kernel
theorem dX0_toRawScale_35 : decode cX0_toRawScale 35 = .ok (.invokevirtual 35, 3) := by decide +kernel
theorem dX0_toRawScale_38 : decode cX0_toRawScale 38 = .ok (.return_, 1) := by decide +kernel
theorem dX0_round_0 : decode cX0_round 0 = .ok (.aload_n 0, 1) := by decide +kernel
theorem dX0_round_1 : decode cX0_round 1 = .ok (.getfield 12, 3) := by decide +kernel
theorem dX0_round_4 : decode cX0_round 4 = .ok (.invokevirtual 51, 3) := by decide +kernel
theorem dX0_round_7 : decode cX0_round 7 = .ok (.istore_n 3, 1) := by decide +kernel
theorem dX0_round_8 : decode cX0_round 8 = .ok (.iload_n 3, 1) := by decide +kernel
theorem dX0_round_9 : decode cX0_round 9 = .ok (.ifCond .eq 13, 3) := by decide +kernel
theorem dX0_round_12 : decode cX0_round 12 = .ok (.aload_n 0, 1) := by decide +kernel
theorem dX0_round_13 : decode cX0_round 13 = .ok (.getfield 12, 3) := by decide +kernel
theorem dX0_round_16 : decode cX0_round 16 = .ok (.ldc2_w 62, 3) := by decide +kernel
theorem dX0_round_19 : decode cX0_round 19 = .ok (.invokevirtual 35, 3) := by decide +kernel
theorem dX0_round_22 : decode cX0_round 22 = .ok (.aload_n 0, 1) := by decide +kernel
theorem dX0_round_23 : decode cX0_round 23 = .ok (.getfield 12, 3) := by decide +kernel
theorem dX0_round_26 : decode cX0_round 26 = .ok (.aload_n 0, 1) := by decide +kernel
theorem dX0_round_27 : decode cX0_round 27 = .ok (.getfield 18, 3) := by decide +kernel
theorem dX0_round_30 : decode cX0_round 30 = .ok (.aload_n 2, 1) := by decide +kernel
theorem dX0_round_31 : decode cX0_round 31 = .ok (.invokevirtual 64, 3) := by decide +kernel
theorem dX0_round_34 : decode cX0_round 34 = .ok (.aload_n 0, 1) := by decide +kernel
theorem dX0_round_35 : decode cX0_round 35 = .ok (.getfield 12, 3) := by decide +kernel
theorem dX0_round_38 : decode cX0_round 38 = .ok (.invokevirtual 47, 3) := by decide +kernel
theorem dX0_round_41 : decode cX0_round 41 = .ok (.istore 4, 2) := by decide +kernel
theorem dX0_round_43 : decode cX0_round 43 = .ok (.iload 4, 2) := by decide +kernel
theorem dX0_round_45 : decode cX0_round 45 = .ok (.ifCond .ne 21, 3) := by decide +kernel
theorem dX0_round_48 : decode cX0_round 48 = .ok (.aload_n 0, 1) := by decide +kernel
theorem dX0_round_49 : decode cX0_round 49 = .ok (.iload_n 1, 1) := by decide +kernel
theorem dX0_round_50 : decode cX0_round 50 = .ok (.iload_n 3, 1) := by decide +kernel
theorem dX0_round_51 : decode cX0_round 51 = .ok (.aload_n 2, 1) := by decide +kernel
theorem dX0_round_52 : decode cX0_round 52 = .ok (.invokevirtual 68, 3) := by decide +kernel
theorem dX0_round_55 : decode cX0_round 55 = .ok (.invokevirtual 71, 3) := by decide +kernel
theorem dX0_round_58 : decode cX0_round 58 = .ok (.ifCond .eq 8, 3) := by decide +kernel
theorem dX0_round_61 : decode cX0_round 61 = .ok (.aload_n 2, 1) := by decide +kernel
theorem dX0_round_62 : decode cX0_round 62 = .ok (.lconst 1, 1) := by decide +kernel
theorem dX0_round_63 : decode cX0_round 63 = .ok (.invokevirtual 44, 3) := by decide +kernel
theorem dX0_round_66 : decode cX0_round 66 = .ok (.iload_n 3, 1) := by decide +kernel
theorem dX0_round_67 : decode cX0_round 67 = .ok (.ifCond .eq 10, 3) := by decide +kernel
theorem dX0_round_70 : decode cX0_round 70 = .ok (.aload_n 2, 1) := by decide +kernel
theorem dX0_round_71 : decode cX0_round 71 = .ok (.ldc2_w 62, 3) := by decide +kernel
theorem dX0_round_74 : decode cX0_round 74 = .ok (.invokevirtual 35, 3) := by decide +kernel
theorem dX0_round_77 : decode cX0_round 77 = .ok (.iload 4, 2) := by decide +kernel
theorem dX0_round_79 : decode cX0_round 79 = .ok (.ireturn, 1) := by decide +kernel
theorem dX0_isRoundedAway_0 : decode cX0_isRoundedAway 0 = .ok (.iload_n 1, 1) := by decide +kernel
theorem dX0_isRoundedAway_1 : decode cX0_isRoundedAway 1 = .ok (.ifCond .ne 5, 3) := by decide +kernel
theorem dX0_isRoundedAway_4 : decode cX0_isRoundedAway 4 = .ok (.iconst 0, 1) := by decide +kernel
theorem dX0_isRoundedAway_5 : decode cX0_isRoundedAway 5 = .ok (.ireturn, 1) := by decide +kernel
theorem dX0_isRoundedAway_6 : decode cX0_isRoundedAway 6 = .ok (.iload_n 1, 1) := by decide +kernel
theorem dX0_isRoundedAway_7 : decode cX0_isRoundedAway 7 = .ok (.iconst 1, 1) := by decide +kernel
theorem dX0_isRoundedAway_8 : decode cX0_isRoundedAway 8 = .ok (.if_icmp .ne 5, 3) := by decide +kernel
theorem dX0_isRoundedAway_11 : decode cX0_isRoundedAway 11 = .ok (.iload_n 2, 1) := by decide +kernel
theorem dX0_isRoundedAway_12 : decode cX0_isRoundedAway 12 = .ok (.ireturn, 1) := by decide +kernel
theorem dX0_isRoundedAway_13 : decode cX0_isRoundedAway 13 = .ok (.aload_n 0, 1) := by decide +kernel
theorem dX0_isRoundedAway_14 : decode cX0_isRoundedAway 14 = .ok (.getfield 12, 3) := by decide +kernel
theorem dX0_isRoundedAway_17 : decode cX0_isRoundedAway 17 = .ok (.ldc2_w 75, 3) := by decide +kernel
theorem dX0_isRoundedAway_20 : decode cX0_isRoundedAway 20 = .ok (.invokevirtual 35, 3) := by decide +kernel
theorem dX0_isRoundedAway_23 : decode cX0_isRoundedAway 23 = .ok (.aload_n 0, 1) := by decide +kernel
theorem dX0_isRoundedAway_24 : decode cX0_isRoundedAway 24 = .ok (.getfield 12, 3) := by decide +kernel
theorem dX0_isRoundedAway_27 : decode cX0_isRoundedAway 27 = .ok (.aload_n 0, 1) := by decide +kernel
theorem dX0_isRoundedAway_28 : decode cX0_isRoundedAway 28 = .ok (.getfield 18, 3) := by decide +kernel
theorem dX0_isRoundedAway_31 : decode cX0_isRoundedAway 31 = .ok (.ldc2_w 62, 3) := by decide +kernel
theorem dX0_isRoundedAway_34 : decode cX0_isRoundedAway 34 = .ok (.invokevirtual 58, 3) := by decide +kernel
theorem dX0_isRoundedAway_37 : decode cX0_isRoundedAway 37 = .ok (.aload_n 0, 1) := by decide +kernel
theorem dX0_isRoundedAway_38 : decode cX0_isRoundedAway 38 = .ok (.getfield 12, 3) := by decide +kernel
theorem dX0_isRoundedAway_41 : decode cX0_isRoundedAway 41 = .ok (.invokevirtual 47, 3) := by decide +kernel
theorem dX0_isRoundedAway_44 : decode cX0_isRoundedAway 44 = .ok (.ifCond .eq 18, 3) := by decide +kernel
theorem dX0_isRoundedAway_47 : decode cX0_isRoundedAway 47 = .ok (.iload_n 1, 1) := by decide +kernel
theorem dX0_isRoundedAway_48 : decode cX0_isRoundedAway 48 = .ok (.iconst 2, 1) := by decide +kernel
theorem dX0_isRoundedAway_49 : decode cX0_isRoundedAway 49 = .ok (.if_icmp .eq 7, 3) := by decide +kernel
theorem dX0_isRoundedAway_52 : decode cX0_isRoundedAway 52 = .ok (.iload_n 3, 1) := by decide +kernel
theorem dX0_isRoundedAway_53 : decode cX0_isRoundedAway 53 = .ok (.ifCond .eq 7, 3) := by decide +kernel
theorem dX0_isRoundedAway_56 : decode cX0_isRoundedAway 56 = .ok (.iconst 1, 1) := by decide +kernel
theorem dX0_isRoundedAway_57 : decode cX0_isRoundedAway 57 = .ok (.goto 4, 3) := by decide +kernel
theorem dX0_isRoundedAway_60 : decode cX0_isRoundedAway 60 = .ok (.iconst 0, 1) := by decide +kernel
theorem dX0_isRoundedAway_61 : decode cX0_isRoundedAway 61 = .ok (.ireturn, 1) := by decide +kernel
theorem dX0_isRoundedAway_62 : decode cX0_isRoundedAway 62 = .ok (.aload_n 0, 1) := by decide +kernel
theorem dX0_isRoundedAway_63 : decode cX0_isRoundedAway 63 = .ok (.getfield 12, 3) := by decide +kernel
theorem dX0_isRoundedAway_66 : decode cX0_isRoundedAway 66 = .ok (.invokevirtual 51, 3) := by decide +kernel
theorem dX0_isRoundedAway_69 : decode cX0_isRoundedAway 69 = .ok (.ifCond .ne 7, 3) := by decide +kernel
theorem dX0_isRoundedAway_72 : decode cX0_isRoundedAway 72 = .ok (.iconst 1, 1) := by decide +kernel
theorem dX0_isRoundedAway_73 : decode cX0_isRoundedAway 73 = .ok (.goto 4, 3) := by decide +kernel
theorem dX0_isRoundedAway_76 : decode cX0_isRoundedAway 76 = .ok (.iconst 0, 1) := by decide +kernel
theorem dX0_isRoundedAway_77 : decode cX0_isRoundedAway 77 = .ok (.ireturn, 1) := by decide +kernel
theorem dX0_reduce_0 : decode cX0_reduce 0 = .ok (.aload_n 0, 1) := by decide +kernel
theorem dX0_reduce_1 : decode cX0_reduce 1 = .ok (.getfield 12, 3) := by decide +kernel
theorem dX0_reduce_4 : decode cX0_reduce 4 = .ok (.invokevirtual 51, 3) := by decide +kernel
theorem dX0_reduce_7 : decode cX0_reduce 7 = .ok (.istore_n 2, 1) := by decide +kernel
theorem dX0_reduce_8 : decode cX0_reduce 8 = .ok (.iload_n 2, 1) := by decide +kernel
theorem dX0_reduce_9 : decode cX0_reduce 9 = .ok (.ifCond .eq 13, 3) := by decide +kernel
theorem dX0_reduce_12 : decode cX0_reduce 12 = .ok (.aload_n 0, 1) := by decide +kernel
theorem dX0_reduce_13 : decode cX0_reduce 13 = .ok (.getfield 12, 3) := by decide +kernel
theorem dX0_reduce_16 : decode cX0_reduce 16 = .ok (.ldc2_w 62, 3) := by decide +kernel
theorem dX0_reduce_19 : decode cX0_reduce 19 = .ok (.invokevirtual 35, 3) := by decide +kernel
theorem dX0_reduce_22 : decode cX0_reduce 22 = .ok (.aload_n 0, 1) := by decide +kernel
theorem dX0_reduce_23 : decode cX0_reduce 23 = .ok (.getfield 18, 3) := by decide +kernel
theorem dX0_reduce_26 : decode cX0_reduce 26 = .ok (.iconst 0, 1) := by decide +kernel
theorem dX0_reduce_27 : decode cX0_reduce 27 = .ok (.invokevirtual 77, 3) := by decide +kernel
theorem dX0_reduce_30 : decode cX0_reduce 30 = .ok (.lstore_n 3, 1) := by decide +kernel
theorem dX0_reduce_31 : decode cX0_reduce 31 = .ok (.aload_n 1, 1) := by decide +kernel
theorem dX0_reduce_32 : decode cX0_reduce 32 = .ok (.aload_n 0, 1) := by decide +kernel
theorem dX0_reduce_33 : decode cX0_reduce 33 = .ok (.getfield 12, 3) := by decide +kernel
theorem dX0_reduce_36 : decode cX0_reduce 36 = .ok (.invokevirtual 81, 3) := by decide +kernel
theorem dX0_reduce_39 : decode cX0_reduce 39 = .ok (.lload_n 3, 1) := by decide +kernel
theorem dX0_reduce_40 : decode cX0_reduce 40 = .ok (.aload_n 1, 1) := by decide +kernel
theorem dX0_reduce_41 : decode cX0_reduce 41 = .ok (.lload_n 3, 1) := by decide +kernel
theorem dX0_reduce_42 : decode cX0_reduce 42 = .ok (.invokevirtual 84, 3) := by decide +kernel
theorem dX0_reduce_45 : decode cX0_reduce 45 = .ok (.invokestatic 87, 3) := by decide +kernel
theorem dX0_reduce_48 : decode cX0_reduce 48 = .ok (.lstore 5, 2) := by decide +kernel
theorem dX0_reduce_50 : decode cX0_reduce 50 = .ok (.lload 5, 2) := by decide +kernel
theorem dX0_reduce_52 : decode cX0_reduce 52 = .ok (.lconst 1, 1) := by decide +kernel
theorem dX0_reduce_53 : decode cX0_reduce 53 = .ok (.lcmp, 1) := by decide +kernel
theorem dX0_reduce_54 : decode cX0_reduce 54 = .ok (.ifCond .le 23, 3) := by decide +kernel
theorem dX0_reduce_57 : decode cX0_reduce 57 = .ok (.aload_n 0, 1) := by decide +kernel
theorem dX0_reduce_58 : decode cX0_reduce 58 = .ok (.getfield 12, 3) := by decide +kernel
theorem dX0_reduce_61 : decode cX0_reduce 61 = .ok (.lload 5, 2) := by decide +kernel
theorem dX0_reduce_63 : decode cX0_reduce 63 = .ok (.invokevirtual 84, 3) := by decide +kernel
theorem dX0_reduce_66 : decode cX0_reduce 66 = .ok (.pop2, 1) := by decide +kernel
theorem dX0_reduce_67 : decode cX0_reduce 67 = .ok (.aload_n 0, 1) := by decide +kernel
theorem dX0_reduce_68 : decode cX0_reduce 68 = .ok (.getfield 18, 3) := by decide +kernel
theorem dX0_reduce_71 : decode cX0_reduce 71 = .ok (.lload 5, 2) := by decide +kernel
theorem dX0_reduce_73 : decode cX0_reduce 73 = .ok (.invokevirtual 84, 3) := by decide +kernel
theorem dX0_reduce_76 : decode cX0_reduce 76 = .ok (.pop2, 1) := by decide +kernel
theorem dX0_reduce_77 : decode cX0_reduce 77 = .ok (.iload_n 2, 1) := by decide +kernel
theorem dX0_reduce_78 : decode cX0_reduce 78 = .ok (.ifCond .eq 13, 3) := by decide +kernel
theorem dX0_reduce_81 : decode cX0_reduce 81 = .ok (.aload_n 0, 1) := by decide +kernel
theorem dX0_reduce_82 : decode cX0_reduce 82 = .ok (.getfield 12, 3) := by decide +kernel
theorem dX0_reduce_85 : decode cX0_reduce 85 = .ok (.ldc2_w 62, 3) := by decide +kernel
theorem dX0_reduce_88 : decode cX0_reduce 88 = .ok (.invokevirtual 35, 3) := by decide +kernel
theorem dX0_reduce_91 : decode cX0_reduce 91 = .ok (.return_, 1) := by decide +kernel
theorem dX0_commonDivisor_0 : decode cX0_commonDivisor 0 = .ok (.lload_n 0, 1) := by decide +kernel
theorem dX0_commonDivisor_1 : decode cX0_commonDivisor 1 = .ok (.lstore 4, 2) := by decide +kernel
theorem dX0_commonDivisor_3 : decode cX0_commonDivisor 3 = .ok (.lload_n 2, 1) := by decide +kernel
theorem dX0_commonDivisor_4 : decode cX0_commonDivisor 4 = .ok (.lstore 6, 2) := by decide +kernel
theorem dX0_commonDivisor_6 : decode cX0_commonDivisor 6 = .ok (.iconst 0, 1) := by decide +kernel
theorem dX0_commonDivisor_7 : decode cX0_commonDivisor 7 = .ok (.istore 8, 2) := by decide +kernel
theorem dX0_commonDivisor_9 : decode cX0_commonDivisor 9 = .ok (.iload 8, 2) := by decide +kernel
theorem dX0_commonDivisor_11 : decode cX0_commonDivisor 11 = .ok (.bipush 64, 2) := by decide +kernel
theorem dX0_commonDivisor_13 : decode cX0_commonDivisor 13 = .ok (.if_icmp .ge 31, 3) := by decide +kernel
theorem dX0_commonDivisor_16 : decode cX0_commonDivisor 16 = .ok (.lload 6, 2) := by decide +kernel
theorem dX0_commonDivisor_18 : decode cX0_commonDivisor 18 = .ok (.lconst 0, 1) := by decide +kernel
theorem dX0_commonDivisor_19 : decode cX0_commonDivisor 19 = .ok (.lcmp, 1) := by decide +kernel
theorem dX0_commonDivisor_20 : decode cX0_commonDivisor 20 = .ok (.ifCond .eq 24, 3) := by decide +kernel
theorem dX0_commonDivisor_23 : decode cX0_commonDivisor 23 = .ok (.lload 4, 2) := by decide +kernel
theorem dX0_commonDivisor_25 : decode cX0_commonDivisor 25 = .ok (.lload 6, 2) := by decide +kernel
theorem dX0_commonDivisor_27 : decode cX0_commonDivisor 27 = .ok (.lrem, 1) := by decide +kernel
theorem dX0_commonDivisor_28 : decode cX0_commonDivisor 28 = .ok (.lstore 9, 2) := by decide +kernel
theorem dX0_commonDivisor_30 : decode cX0_commonDivisor 30 = .ok (.lload 6, 2) := by decide +kernel
theorem dX0_commonDivisor_32 : decode cX0_commonDivisor 32 = .ok (.lstore 4, 2) := by decide +kernel
theorem dX0_commonDivisor_34 : decode cX0_commonDivisor 34 = .ok (.lload 9, 2) := by decide +kernel
theorem dX0_commonDivisor_36 : decode cX0_commonDivisor 36 = .ok (.lstore 6, 2) := by decide +kernel
theorem dX0_commonDivisor_38 : decode cX0_commonDivisor 38 = .ok (.iinc 8 1, 3) := by decide +kernel
theorem dX0_commonDivisor_41 : decode cX0_commonDivisor 41 = .ok (.goto (-32), 3) := by decide +kernel
theorem dX0_commonDivisor_44 : decode cX0_commonDivisor 44 = .ok (.lload 4, 2) := by decide +kernel
theorem dX0_commonDivisor_46 : decode cX0_commonDivisor 46 = .ok (.lreturn, 1) := by decide +kernel
theorem dX0_toMillionths_0 : decode cX0_toMillionths 0 = .ok (.aload_n 0, 1) := by decide +kernel
theorem dX0_toMillionths_1 : decode cX0_toMillionths 1 = .ok (.getfield 12, 3) := by decide +kernel
theorem dX0_toMillionths_4 : decode cX0_toMillionths 4 = .ok (.invokevirtual 51, 3) := by decide +kernel
theorem dX0_toMillionths_7 : decode cX0_toMillionths 7 = .ok (.ifCond .eq 13, 3) := by decide +kernel
theorem dX0_toMillionths_10 : decode cX0_toMillionths 10 = .ok (.aload_n 0, 1) := by decide +kernel
theorem dX0_toMillionths_11 : decode cX0_toMillionths 11 = .ok (.getfield 12, 3) := by decide +kernel
theorem dX0_toMillionths_14 : decode cX0_toMillionths 14 = .ok (.ldc2_w 62, 3) := by decide +kernel
theorem dX0_toMillionths_17 : decode cX0_toMillionths 17 = .ok (.invokevirtual 35, 3) := by decide +kernel
theorem dX0_toMillionths_20 : decode cX0_toMillionths 20 = .ok (.aload_n 0, 1) := by decide +kernel
theorem dX0_toMillionths_21 : decode cX0_toMillionths 21 = .ok (.getfield 18, 3) := by decide +kernel
theorem dX0_toMillionths_24 : decode cX0_toMillionths 24 = .ok (.iconst 0, 1) := by decide +kernel
theorem dX0_toMillionths_25 : decode cX0_toMillionths 25 = .ok (.invokevirtual 77, 3) := by decide +kernel
theorem dX0_toMillionths_28 : decode cX0_toMillionths 28 = .ok (.lstore_n 1, 1) := by decide +kernel
theorem dX0_toMillionths_29 : decode cX0_toMillionths 29 = .ok (.aload_n 0, 1) := by decide +kernel
theorem dX0_toMillionths_30 : decode cX0_toMillionths 30 = .ok (.getfield 12, 3) := by decide +kernel
theorem dX0_toMillionths_33 : decode cX0_toMillionths 33 = .ok (.ldc2_w 91, 3) := by decide +kernel
theorem dX0_toMillionths_36 : decode cX0_toMillionths 36 = .ok (.invokevirtual 35, 3) := by decide +kernel
theorem dX0_toMillionths_39 : decode cX0_toMillionths 39 = .ok (.aload_n 0, 1) := by decide +kernel
theorem dX0_toMillionths_40 : decode cX0_toMillionths 40 = .ok (.getfield 12, 3) := by decide +kernel
theorem dX0_toMillionths_43 : decode cX0_toMillionths 43 = .ok (.lload_n 1, 1) := by decide +kernel
theorem dX0_toMillionths_44 : decode cX0_toMillionths 44 = .ok (.invokevirtual 44, 3) := by decide +kernel
theorem dX0_toMillionths_47 : decode cX0_toMillionths 47 = .ok (.aload_n 0, 1) := by decide +kernel
theorem dX0_toMillionths_48 : decode cX0_toMillionths 48 = .ok (.getfield 12, 3) := by decide +kernel
theorem dX0_toMillionths_51 : decode cX0_toMillionths 51 = .ok (.ldc2_w 75, 3) := by decide +kernel
theorem dX0_toMillionths_54 : decode cX0_toMillionths 54 = .ok (.lload_n 1, 1) := by decide +kernel
theorem dX0_toMillionths_55 : decode cX0_toMillionths 55 = .ok (.lmul, 1) := by decide +kernel
theorem dX0_toMillionths_56 : decode cX0_toMillionths 56 = .ok (.invokevirtual 84, 3) := by decide +kernel
theorem dX0_toMillionths_59 : decode cX0_toMillionths 59 = .ok (.pop2, 1) := by decide +kernel
theorem dX0_toMillionths_60 : decode cX0_toMillionths 60 = .ok (.aload_n 0, 1) := by decide +kernel
theorem dX0_toMillionths_61 : decode cX0_toMillionths 61 = .ok (.getfield 12, 3) := by decide +kernel
theorem dX0_toMillionths_64 : decode cX0_toMillionths 64 = .ok (.areturn, 1) := by decide +kernel
