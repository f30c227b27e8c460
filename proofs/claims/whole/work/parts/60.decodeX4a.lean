theorem dX4_init_0 : decode cX4_init 0 = .ok (.aload_n 0, 1) := by decide +kernel
theorem dX4_init_1 : decode cX4_init 1 = .ok (.invokespecial 1, 3) := by decide +kernel
theorem dX4_init_4 : decode cX4_init 4 = .ok (.aload_n 0, 1) := by decide +kernel
theorem dX4_init_5 : decode cX4_init 5 = .ok (.bipush 41, 2) := by decide +kernel
theorem dX4_init_7 : decode cX4_init 7 = .ok (.newarray .int, 2) := by decide +kernel
theorem dX4_init_9 : decode cX4_init 9 = .ok (.putfield 7, 3) := by decide +kernel
theorem dX4_init_12 : decode cX4_init 12 = .ok (.aload_n 0, 1) := by decide +kernel
theorem dX4_init_13 : decode cX4_init 13 = .ok (.bipush 41, 2) := by decide +kernel
theorem dX4_init_15 : decode cX4_init 15 = .ok (.newarray .boolean, 2) := by decide +kernel
theorem dX4_init_17 : decode cX4_init 17 = .ok (.putfield 13, 3) := by decide +kernel
theorem dX4_init_20 : decode cX4_init 20 = .ok (.aload_n 0, 1) := by decide +kernel
theorem dX4_init_21 : decode cX4_init 21 = .ok (.bipush 41, 2) := by decide +kernel
theorem dX4_init_23 : decode cX4_init 23 = .ok (.newarray .long, 2) := by decide +kernel
theorem dX4_init_25 : decode cX4_init 25 = .ok (.putfield 17, 3) := by decide +kernel
theorem dX4_init_28 : decode cX4_init 28 = .ok (.aload_n 0, 1) := by decide +kernel
theorem dX4_init_29 : decode cX4_init 29 = .ok (.bipush 41, 2) := by decide +kernel
theorem dX4_init_31 : decode cX4_init 31 = .ok (.newarray .long, 2) := by decide +kernel
theorem dX4_init_33 : decode cX4_init 33 = .ok (.putfield 21, 3) := by decide +kernel
theorem dX4_init_36 : decode cX4_init 36 = .ok (.aload_n 0, 1) := by decide +kernel
theorem dX4_init_37 : decode cX4_init 37 = .ok (.bipush 41, 2) := by decide +kernel
theorem dX4_init_39 : decode cX4_init 39 = .ok (.newarray .long, 2) := by decide +kernel
theorem dX4_init_41 : decode cX4_init 41 = .ok (.putfield 24, 3) := by decide +kernel
theorem dX4_init_44 : decode cX4_init 44 = .ok (.aload_n 0, 1) := by decide +kernel
theorem dX4_init_45 : decode cX4_init 45 = .ok (.bipush 41, 2) := by decide +kernel
theorem dX4_init_47 : decode cX4_init 47 = .ok (.newarray .int, 2) := by decide +kernel
theorem dX4_init_49 : decode cX4_init 49 = .ok (.putfield 27, 3) := by decide +kernel
theorem dX4_init_52 : decode cX4_init 52 = .ok (.aload_n 0, 1) := by decide +kernel
theorem dX4_init_53 : decode cX4_init 53 = .ok (.bipush 41, 2) := by decide +kernel
theorem dX4_init_55 : decode cX4_init 55 = .ok (.newarray .int, 2) := by decide +kernel
theorem dX4_init_57 : decode cX4_init 57 = .ok (.putfield 30, 3) := by decide +kernel
theorem dX4_init_60 : decode cX4_init 60 = .ok (.aload_n 0, 1) := by decide +kernel
theorem dX4_init_61 : decode cX4_init 61 = .ok (.bipush 80, 2) := by decide +kernel
theorem dX4_init_63 : decode cX4_init 63 = .ok (.newarray .int, 2) := by decide +kernel
theorem dX4_init_65 : decode cX4_init 65 = .ok (.putfield 33, 3) := by decide +kernel
theorem dX4_init_68 : decode cX4_init 68 = .ok (.aload_n 0, 1) := by decide +kernel
theorem dX4_init_69 : decode cX4_init 69 = .ok (.sipush 384, 3) := by decide +kernel
theorem dX4_init_72 : decode cX4_init 72 = .ok (.newarray .int, 2) := by decide +kernel
theorem dX4_init_74 : decode cX4_init 74 = .ok (.putfield 36, 3) := by decide +kernel
theorem dX4_init_77 : decode cX4_init 77 = .ok (.aload_n 0, 1) := by decide +kernel
theorem dX4_init_78 : decode cX4_init 78 = .ok (.bipush 24, 2) := by decide +kernel
theorem dX4_init_80 : decode cX4_init 80 = .ok (.newarray .int, 2) := by decide +kernel
theorem dX4_init_82 : decode cX4_init 82 = .ok (.putfield 39, 3) := by decide +kernel
theorem dX4_init_85 : decode cX4_init 85 = .ok (.return_, 1) := by decide +kernel
theorem dX4_thrown_0 : decode cX4_thrown 0 = .ok (.aload_n 0, 1) := by decide +kernel
theorem dX4_thrown_1 : decode cX4_thrown 1 = .ok (.getfield 42, 3) := by decide +kernel
theorem dX4_thrown_4 : decode cX4_thrown 4 = .ok (.ireturn, 1) := by decide +kernel
theorem dX4_set_0 : decode cX4_set 0 = .ok (.lload_n 2, 1) := by decide +kernel
theorem dX4_set_1 : decode cX4_set 1 = .ok (.lconst 0, 1) := by decide +kernel
theorem dX4_set_2 : decode cX4_set 2 = .ok (.lcmp, 1) := by decide +kernel
theorem dX4_set_3 : decode cX4_set 3 = .ok (.ifCond .ge 8, 3) := by decide +kernel
theorem dX4_set_6 : decode cX4_set 6 = .ok (.lload_n 2, 1) := by decide +kernel
theorem dX4_set_7 : decode cX4_set 7 = .ok (.lneg, 1) := by decide +kernel
theorem dX4_set_8 : decode cX4_set 8 = .ok (.goto 4, 3) := by decide +kernel
theorem dX4_set_11 : decode cX4_set 11 = .ok (.lload_n 2, 1) := by decide +kernel
theorem dX4_set_12 : decode cX4_set 12 = .ok (.lstore 4, 2) := by decide +kernel
theorem dX4_set_14 : decode cX4_set 14 = .ok (.iconst 0, 1) := by decide +kernel
theorem dX4_set_15 : decode cX4_set 15 = .ok (.istore 6, 2) := by decide +kernel
theorem dX4_set_17 : decode cX4_set 17 = .ok (.iload 6, 2) := by decide +kernel
theorem dX4_set_19 : decode cX4_set 19 = .ok (.bipush 16, 2) := by decide +kernel
theorem dX4_set_21 : decode cX4_set 21 = .ok (.if_icmp .ge 44, 3) := by decide +kernel
theorem dX4_set_24 : decode cX4_set 24 = .ok (.aload_n 0, 1) := by decide +kernel
theorem dX4_set_25 : decode cX4_set 25 = .ok (.getfield 36, 3) := by decide +kernel
theorem dX4_set_28 : decode cX4_set 28 = .ok (.bipush 16, 2) := by decide +kernel
theorem dX4_set_30 : decode cX4_set 30 = .ok (.iload_n 1, 1) := by decide +kernel
theorem dX4_set_31 : decode cX4_set 31 = .ok (.imul, 1) := by decide +kernel
theorem dX4_set_32 : decode cX4_set 32 = .ok (.iload 6, 2) := by decide +kernel
theorem dX4_set_34 : decode cX4_set 34 = .ok (.iadd, 1) := by decide +kernel
theorem dX4_set_35 : decode cX4_set 35 = .ok (.iload 6, 2) := by decide +kernel
theorem dX4_set_37 : decode cX4_set 37 = .ok (.iconst 4, 1) := by decide +kernel
theorem dX4_set_38 : decode cX4_set 38 = .ok (.if_icmp .ge 19, 3) := by decide +kernel
theorem dX4_set_41 : decode cX4_set 41 = .ok (.lload 4, 2) := by decide +kernel
theorem dX4_set_43 : decode cX4_set 43 = .ok (.bipush 16, 2) := by decide +kernel
theorem dX4_set_45 : decode cX4_set 45 = .ok (.iload 6, 2) := by decide +kernel
theorem dX4_set_47 : decode cX4_set 47 = .ok (.imul, 1) := by decide +kernel
theorem dX4_set_48 : decode cX4_set 48 = .ok (.lushr, 1) := by decide +kernel
theorem dX4_set_49 : decode cX4_set 49 = .ok (.ldc2_w 46, 3) := by decide +kernel
theorem dX4_set_52 : decode cX4_set 52 = .ok (.land, 1) := by decide +kernel
theorem dX4_set_53 : decode cX4_set 53 = .ok (.l2i, 1) := by decide +kernel
theorem dX4_set_54 : decode cX4_set 54 = .ok (.goto 4, 3) := by decide +kernel
theorem dX4_set_57 : decode cX4_set 57 = .ok (.iconst 0, 1) := by decide +kernel
theorem dX4_set_58 : decode cX4_set 58 = .ok (.iastore, 1) := by decide +kernel
theorem dX4_set_59 : decode cX4_set 59 = .ok (.iinc 6 1, 3) := by decide +kernel
theorem dX4_set_62 : decode cX4_set 62 = .ok (.goto (-45), 3) := by decide +kernel
theorem dX4_set_65 : decode cX4_set 65 = .ok (.aload_n 0, 1) := by decide +kernel
theorem dX4_set_66 : decode cX4_set 66 = .ok (.getfield 39, 3) := by decide +kernel
theorem dX4_set_69 : decode cX4_set 69 = .ok (.iload_n 1, 1) := by decide +kernel
theorem dX4_set_70 : decode cX4_set 70 = .ok (.lload_n 2, 1) := by decide +kernel
theorem dX4_set_71 : decode cX4_set 71 = .ok (.lconst 0, 1) := by decide +kernel
theorem dX4_set_72 : decode cX4_set 72 = .ok (.lcmp, 1) := by decide +kernel
theorem dX4_set_73 : decode cX4_set 73 = .ok (.ifCond .ge 7, 3) := by decide +kernel
theorem dX4_set_76 : decode cX4_set 76 = .ok (.iconst (-1), 1) := by decide +kernel
theorem dX4_set_77 : decode cX4_set 77 = .ok (.goto 14, 3) := by decide +kernel
theorem dX4_set_80 : decode cX4_set 80 = .ok (.lload_n 2, 1) := by decide +kernel
theorem dX4_set_81 : decode cX4_set 81 = .ok (.lconst 0, 1) := by decide +kernel
theorem dX4_set_82 : decode cX4_set 82 = .ok (.lcmp, 1) := by decide +kernel
theorem dX4_set_83 : decode cX4_set 83 = .ok (.ifCond .le 7, 3) := by decide +kernel
theorem dX4_set_86 : decode cX4_set 86 = .ok (.iconst 1, 1) := by decide +kernel
theorem dX4_set_87 : decode cX4_set 87 = .ok (.goto 4, 3) := by decide +kernel
theorem dX4_set_90 : decode cX4_set 90 = .ok (.iconst 0, 1) := by decide +kernel
theorem dX4_set_91 : decode cX4_set 91 = .ok (.iastore, 1) := by decide +kernel
theorem dX4_set_92 : decode cX4_set 92 = .ok (.return_, 1) := by decide +kernel
theorem dX4_copy_0 : decode cX4_copy 0 = .ok (.iconst 0, 1) := by decide +kernel
theorem dX4_copy_1 : decode cX4_copy 1 = .ok (.istore_n 3, 1) := by decide +kernel
theorem dX4_copy_2 : decode cX4_copy 2 = .ok (.iload_n 3, 1) := by decide +kernel
theorem dX4_copy_3 : decode cX4_copy 3 = .ok (.bipush 16, 2) := by decide +kernel
theorem dX4_copy_5 : decode cX4_copy 5 = .ok (.if_icmp .ge 31, 3) := by decide +kernel
theorem dX4_copy_8 : decode cX4_copy 8 = .ok (.aload_n 0, 1) := by decide +kernel
theorem dX4_copy_9 : decode cX4_copy 9 = .ok (.getfield 36, 3) := by decide +kernel
theorem dX4_copy_12 : decode cX4_copy 12 = .ok (.bipush 16, 2) := by decide +kernel
theorem dX4_copy_14 : decode cX4_copy 14 = .ok (.iload_n 1, 1) := by decide +kernel
theorem dX4_copy_15 : decode cX4_copy 15 = .ok (.imul, 1) := by decide +kernel
theorem dX4_copy_16 : decode cX4_copy 16 = .ok (.iload_n 3, 1) := by decide +kernel
theorem dX4_copy_17 : decode cX4_copy 17 = .ok (.iadd, 1) := by decide +kernel
theorem dX4_copy_18 : decode cX4_copy 18 = .ok (.aload_n 0, 1) := by decide +kernel
theorem dX4_copy_19 : decode cX4_copy 19 = .ok (.getfield 36, 3) := by decide +kernel
theorem dX4_copy_22 : decode cX4_copy 22 = .ok (.bipush 16, 2) := by decide +kernel
theorem dX4_copy_24 : decode cX4_copy 24 = .ok (.iload_n 2, 1) := by decide +kernel
theorem dX4_copy_25 : decode cX4_copy 25 = .ok (.imul, 1) := by decide +kernel
theorem dX4_copy_26 : decode cX4_copy 26 = .ok (.iload_n 3, 1) := by decide +kernel
theorem dX4_copy_27 : decode cX4_copy 27 = .ok (.iadd, 1) := by decide +kernel
theorem dX4_copy_28 : decode cX4_copy 28 = .ok (.iaload, 1) := by decide +kernel
theorem dX4_copy_29 : decode cX4_copy 29 = .ok (.iastore, 1) := by decide +kernel
theorem dX4_copy_30 : decode cX4_copy 30 = .ok (.iinc 3 1, 3) := by decide +kernel
theorem dX4_copy_33 : decode cX4_copy 33 = .ok (.goto (-31), 3) := by decide +kernel
theorem dX4_copy_36 : decode cX4_copy 36 = .ok (.aload_n 0, 1) := by decide +kernel
theorem dX4_copy_37 : decode cX4_copy 37 = .ok (.getfield 39, 3) := by decide +kernel
theorem dX4_copy_40 : decode cX4_copy 40 = .ok (.iload_n 1, 1) := by decide +kernel
theorem dX4_copy_41 : decode cX4_copy 41 = .ok (.aload_n 0, 1) := by decide +kernel
theorem dX4_copy_42 : decode cX4_copy 42 = .ok (.getfield 39, 3) := by decide +kernel
theorem dX4_copy_45 : decode cX4_copy 45 = .ok (.iload_n 2, 1) := by decide +kernel
theorem dX4_copy_46 : decode cX4_copy 46 = .ok (.iaload, 1) := by decide +kernel
theorem dX4_copy_47 : decode cX4_copy 47 = .ok (.iastore, 1) := by decide +kernel
theorem dX4_copy_48 : decode cX4_copy 48 = .ok (.return_, 1) := by decide +kernel
theorem dX4_nothing_0 : decode cX4_nothing 0 = .ok (.iconst 1, 1) := by decide +kernel
theorem dX4_nothing_1 : decode cX4_nothing 1 = .ok (.istore_n 2, 1) := by decide +kernel
theorem dX4_nothing_2 : decode cX4_nothing 2 = .ok (.iconst 0, 1) := by decide +kernel
theorem dX4_nothing_3 : decode cX4_nothing 3 = .ok (.istore_n 3, 1) := by decide +kernel
theorem dX4_nothing_4 : decode cX4_nothing 4 = .ok (.iload_n 3, 1) := by decide +kernel
theorem dX4_nothing_5 : decode cX4_nothing 5 = .ok (.bipush 16, 2) := by decide +kernel
theorem dX4_nothing_7 : decode cX4_nothing 7 = .ok (.if_icmp .ge 33, 3) := by decide +kernel
theorem dX4_nothing_10 : decode cX4_nothing 10 = .ok (.iload_n 2, 1) := by decide +kernel
theorem dX4_nothing_11 : decode cX4_nothing 11 = .ok (.ifCond .eq 21, 3) := by decide +kernel
theorem dX4_nothing_14 : decode cX4_nothing 14 = .ok (.aload_n 0, 1) := by decide +kernel
theorem dX4_nothing_15 : decode cX4_nothing 15 = .ok (.getfield 36, 3) := by decide +kernel
theorem dX4_nothing_18 : decode cX4_nothing 18 = .ok (.bipush 16, 2) := by decide +kernel
theorem dX4_nothing_20 : decode cX4_nothing 20 = .ok (.iload_n 1, 1) := by decide +kernel
theorem dX4_nothing_21 : decode cX4_nothing 21 = .ok (.imul, 1) := by decide +kernel
theorem dX4_nothing_22 : decode cX4_nothing 22 = .ok (.iload_n 3, 1) := by decide +kernel
theorem dX4_nothing_23 : decode cX4_nothing 23 = .ok (.iadd, 1) := by decide +kernel
theorem dX4_nothing_24 : decode cX4_nothing 24 = .ok (.iaload, 1) := by decide +kernel
theorem dX4_nothing_25 : decode cX4_nothing 25 = .ok (.ifCond .ne 7, 3) := by decide +kernel
theorem dX4_nothing_28 : decode cX4_nothing 28 = .ok (.iconst 1, 1) := by decide +kernel
theorem dX4_nothing_29 : decode cX4_nothing 29 = .ok (.goto 4, 3) := by decide +kernel
theorem dX4_nothing_32 : decode cX4_nothing 32 = .ok (.iconst 0, 1) := by decide +kernel
theorem dX4_nothing_33 : decode cX4_nothing 33 = .ok (.istore_n 2, 1) := by decide +kernel
theorem dX4_nothing_34 : decode cX4_nothing 34 = .ok (.iinc 3 1, 3) := by decide +kernel
theorem dX4_nothing_37 : decode cX4_nothing 37 = .ok (.goto (-33), 3) := by decide +kernel
theorem dX4_nothing_40 : decode cX4_nothing 40 = .ok (.iload_n 2, 1) := by decide +kernel
theorem dX4_nothing_41 : decode cX4_nothing 41 = .ok (.ireturn, 1) := by decide +kernel
theorem dX4_sizes_0 : decode cX4_sizes 0 = .ok (.iconst 0, 1) := by decide +kernel
theorem dX4_sizes_1 : decode cX4_sizes 1 = .ok (.istore_n 3, 1) := by decide +kernel
theorem dX4_sizes_2 : decode cX4_sizes 2 = .ok (.iconst 0, 1) := by decide +kernel
theorem dX4_sizes_3 : decode cX4_sizes 3 = .ok (.istore 4, 2) := by decide +kernel
theorem dX4_sizes_5 : decode cX4_sizes 5 = .ok (.iload 4, 2) := by decide +kernel
theorem dX4_sizes_7 : decode cX4_sizes 7 = .ok (.bipush 16, 2) := by decide +kernel
theorem dX4_sizes_9 : decode cX4_sizes 9 = .ok (.if_icmp .ge 48, 3) := by decide +kernel
theorem dX4_sizes_12 : decode cX4_sizes 12 = .ok (.aload_n 0, 1) := by decide +kernel
theorem dX4_sizes_13 : decode cX4_sizes 13 = .ok (.getfield 36, 3) := by decide +kernel
theorem dX4_sizes_16 : decode cX4_sizes 16 = .ok (.bipush 16, 2) := by decide +kernel
theorem dX4_sizes_18 : decode cX4_sizes 18 = .ok (.iload_n 1, 1) := by decide +kernel
theorem dX4_sizes_19 : decode cX4_sizes 19 = .ok (.imul, 1) := by decide +kernel
theorem dX4_sizes_20 : decode cX4_sizes 20 = .ok (.iload 4, 2) := by decide +kernel
theorem dX4_sizes_22 : decode cX4_sizes 22 = .ok (.iadd, 1) := by decide +kernel
theorem dX4_sizes_23 : decode cX4_sizes 23 = .ok (.iaload, 1) := by decide +kernel
theorem dX4_sizes_24 : decode cX4_sizes 24 = .ok (.aload_n 0, 1) := by decide +kernel
theorem dX4_sizes_25 : decode cX4_sizes 25 = .ok (.getfield 36, 3) := by decide +kernel
theorem dX4_sizes_28 : decode cX4_sizes 28 = .ok (.bipush 16, 2) := by decide +kernel
theorem dX4_sizes_30 : decode cX4_sizes 30 = .ok (.iload_n 2, 1) := by decide +kernel
theorem dX4_sizes_31 : decode cX4_sizes 31 = .ok (.imul, 1) := by decide +kernel
theorem dX4_sizes_32 : decode cX4_sizes 32 = .ok (.iload 4, 2) := by decide +kernel
theorem dX4_sizes_34 : decode cX4_sizes 34 = .ok (.iadd, 1) := by decide +kernel
theorem dX4_sizes_35 : decode cX4_sizes 35 = .ok (.iaload, 1) := by decide +kernel
theorem dX4_sizes_36 : decode cX4_sizes 36 = .ok (.isub, 1) := by decide +kernel
theorem dX4_sizes_37 : decode cX4_sizes 37 = .ok (.istore 5, 2) := by decide +kernel
theorem dX4_sizes_39 : decode cX4_sizes 39 = .ok (.iload 5, 2) := by decide +kernel
theorem dX4_sizes_41 : decode cX4_sizes 41 = .ok (.ifCond .ne 7, 3) := by decide +kernel
theorem dX4_sizes_44 : decode cX4_sizes 44 = .ok (.iload_n 3, 1) := by decide +kernel
theorem dX4_sizes_45 : decode cX4_sizes 45 = .ok (.goto 5, 3) := by decide +kernel
theorem dX4_sizes_48 : decode cX4_sizes 48 = .ok (.iload 5, 2) := by decide +kernel
theorem dX4_sizes_50 : decode cX4_sizes 50 = .ok (.istore_n 3, 1) := by decide +kernel
theorem dX4_sizes_51 : decode cX4_sizes 51 = .ok (.iinc 4 1, 3) := by decide +kernel
theorem dX4_sizes_54 : decode cX4_sizes 54 = .ok (.goto (-49), 3) := by decide +kernel
theorem dX4_sizes_57 : decode cX4_sizes 57 = .ok (.iload_n 3, 1) := by decide +kernel
theorem dX4_sizes_58 : decode cX4_sizes 58 = .ok (.ireturn, 1) := by decide +kernel
theorem dX4_addSizes_0 : decode cX4_addSizes 0 = .ok (.iconst 0, 1) := by decide +kernel
theorem dX4_addSizes_1 : decode cX4_addSizes 1 = .ok (.istore 4, 2) := by decide +kernel
theorem dX4_addSizes_3 : decode cX4_addSizes 3 = .ok (.iconst 0, 1) := by decide +kernel
theorem dX4_addSizes_4 : decode cX4_addSizes 4 = .ok (.istore 5, 2) := by decide +kernel
theorem dX4_addSizes_6 : decode cX4_addSizes 6 = .ok (.iload 5, 2) := by decide +kernel
theorem dX4_addSizes_8 : decode cX4_addSizes 8 = .ok (.bipush 16, 2) := by decide +kernel
theorem dX4_addSizes_10 : decode cX4_addSizes 10 = .ok (.if_icmp .ge 63, 3) := by decide +kernel
theorem dX4_addSizes_13 : decode cX4_addSizes 13 = .ok (.iload 4, 2) := by decide +kernel
theorem dX4_addSizes_15 : decode cX4_addSizes 15 = .ok (.aload_n 0, 1) := by decide +kernel
theorem dX4_addSizes_16 : decode cX4_addSizes 16 = .ok (.getfield 36, 3) := by decide +kernel
theorem dX4_addSizes_19 : decode cX4_addSizes 19 = .ok (.bipush 16, 2) := by decide +kernel
theorem dX4_addSizes_21 : decode cX4_addSizes 21 = .ok (.iload_n 2, 1) := by decide +kernel
theorem dX4_addSizes_22 : decode cX4_addSizes 22 = .ok (.imul, 1) := by decide +kernel
theorem dX4_addSizes_23 : decode cX4_addSizes 23 = .ok (.iload 5, 2) := by decide +kernel
theorem dX4_addSizes_25 : decode cX4_addSizes 25 = .ok (.iadd, 1) := by decide +kernel
theorem dX4_addSizes_26 : decode cX4_addSizes 26 = .ok (.iaload, 1) := by decide +kernel
theorem dX4_addSizes_27 : decode cX4_addSizes 27 = .ok (.iadd, 1) := by decide +kernel
theorem dX4_addSizes_28 : decode cX4_addSizes 28 = .ok (.aload_n 0, 1) := by decide +kernel
theorem dX4_addSizes_29 : decode cX4_addSizes 29 = .ok (.getfield 36, 3) := by decide +kernel
theorem dX4_addSizes_32 : decode cX4_addSizes 32 = .ok (.bipush 16, 2) := by decide +kernel
theorem dX4_addSizes_34 : decode cX4_addSizes 34 = .ok (.iload_n 3, 1) := by decide +kernel
theorem dX4_addSizes_35 : decode cX4_addSizes 35 = .ok (.imul, 1) := by decide +kernel
theorem dX4_addSizes_36 : decode cX4_addSizes 36 = .ok (.iload 5, 2) := by decide +kernel
theorem dX4_addSizes_38 : decode cX4_addSizes 38 = .ok (.iadd, 1) := by decide +kernel
theorem dX4_addSizes_39 : decode cX4_addSizes 39 = .ok (.iaload, 1) := by decide +kernel
theorem dX4_addSizes_40 : decode cX4_addSizes 40 = .ok (.iadd, 1) := by decide +kernel
theorem dX4_addSizes_41 : decode cX4_addSizes 41 = .ok (.istore 4, 2) := by decide +kernel
theorem dX4_addSizes_43 : decode cX4_addSizes 43 = .ok (.aload_n 0, 1) := by decide +kernel
theorem dX4_addSizes_44 : decode cX4_addSizes 44 = .ok (.getfield 36, 3) := by decide +kernel
theorem dX4_addSizes_47 : decode cX4_addSizes 47 = .ok (.bipush 16, 2) := by decide +kernel
theorem dX4_addSizes_49 : decode cX4_addSizes 49 = .ok (.iload_n 1, 1) := by decide +kernel
theorem dX4_addSizes_50 : decode cX4_addSizes 50 = .ok (.imul, 1) := by decide +kernel
theorem dX4_addSizes_51 : decode cX4_addSizes 51 = .ok (.iload 5, 2) := by decide +kernel
theorem dX4_addSizes_53 : decode cX4_addSizes 53 = .ok (.iadd, 1) := by decide +kernel
theorem dX4_addSizes_54 : decode cX4_addSizes 54 = .ok (.iload 4, 2) := by decide +kernel
theorem dX4_addSizes_56 : decode cX4_addSizes 56 = .ok (.ldc 48, 2) := by decide +kernel
theorem dX4_addSizes_58 : decode cX4_addSizes 58 = .ok (.iand, 1) := by decide +kernel
theorem dX4_addSizes_59 : decode cX4_addSizes 59 = .ok (.iastore, 1) := by decide +kernel
theorem dX4_addSizes_60 : decode cX4_addSizes 60 = .ok (.iload 4, 2) := by decide +kernel
theorem dX4_addSizes_62 : decode cX4_addSizes 62 = .ok (.bipush 16, 2) := by decide +kernel
theorem dX4_addSizes_64 : decode cX4_addSizes 64 = .ok (.ishr, 1) := by decide +kernel
theorem dX4_addSizes_65 : decode cX4_addSizes 65 = .ok (.istore 4, 2) := by decide +kernel
theorem dX4_addSizes_67 : decode cX4_addSizes 67 = .ok (.iinc 5 1, 3) := by decide +kernel
theorem dX4_addSizes_70 : decode cX4_addSizes 70 = .ok (.goto (-64), 3) := by decide +kernel
theorem dX4_addSizes_73 : decode cX4_addSizes 73 = .ok (.return_, 1) := by decide +kernel
theorem dX4_lessSizes_0 : decode cX4_lessSizes 0 = .ok (.iconst 0, 1) := by decide +kernel
theorem dX4_lessSizes_1 : decode cX4_lessSizes 1 = .ok (.istore 4, 2) := by decide +kernel
theorem dX4_lessSizes_3 : decode cX4_lessSizes 3 = .ok (.iconst 0, 1) := by decide +kernel
theorem dX4_lessSizes_4 : decode cX4_lessSizes 4 = .ok (.istore 5, 2) := by decide +kernel
theorem dX4_lessSizes_6 : decode cX4_lessSizes 6 = .ok (.iload 5, 2) := by decide +kernel
theorem dX4_lessSizes_8 : decode cX4_lessSizes 8 = .ok (.bipush 16, 2) := by decide +kernel
theorem dX4_lessSizes_10 : decode cX4_lessSizes 10 = .ok (.if_icmp .ge 63, 3) := by decide +kernel
theorem dX4_lessSizes_13 : decode cX4_lessSizes 13 = .ok (.iload 4, 2) := by decide +kernel
theorem dX4_lessSizes_15 : decode cX4_lessSizes 15 = .ok (.aload_n 0, 1) := by decide +kernel
theorem dX4_lessSizes_16 : decode cX4_lessSizes 16 = .ok (.getfield 36, 3) := by decide +kernel
theorem dX4_lessSizes_19 : decode cX4_lessSizes 19 = .ok (.bipush 16, 2) := by decide +kernel
theorem dX4_lessSizes_21 : decode cX4_lessSizes 21 = .ok (.iload_n 2, 1) := by decide +kernel
theorem dX4_lessSizes_22 : decode cX4_lessSizes 22 = .ok (.imul, 1) := by decide +kernel
theorem dX4_lessSizes_23 : decode cX4_lessSizes 23 = .ok (.iload 5, 2) := by decide +kernel
theorem dX4_lessSizes_25 : decode cX4_lessSizes 25 = .ok (.iadd, 1) := by decide +kernel
theorem dX4_lessSizes_26 : decode cX4_lessSizes 26 = .ok (.iaload, 1) := by decide +kernel
theorem dX4_lessSizes_27 : decode cX4_lessSizes 27 = .ok (.iadd, 1) := by decide +kernel
theorem dX4_lessSizes_28 : decode cX4_lessSizes 28 = .ok (.aload_n 0, 1) := by decide +kernel
theorem dX4_lessSizes_29 : decode cX4_lessSizes 29 = .ok (.getfield 36, 3) := by decide +kernel
theorem dX4_lessSizes_32 : decode cX4_lessSizes 32 = .ok (.bipush 16, 2) := by decide +kernel
theorem dX4_lessSizes_34 : decode cX4_lessSizes 34 = .ok (.iload_n 3, 1) := by decide +kernel
theorem dX4_lessSizes_35 : decode cX4_lessSizes 35 = .ok (.imul, 1) := by decide +kernel
theorem dX4_lessSizes_36 : decode cX4_lessSizes 36 = .ok (.iload 5, 2) := by decide +kernel
theorem dX4_lessSizes_38 : decode cX4_lessSizes 38 = .ok (.iadd, 1) := by decide +kernel
theorem dX4_lessSizes_39 : decode cX4_lessSizes 39 = .ok (.iaload, 1) := by decide +kernel
theorem dX4_lessSizes_40 : decode cX4_lessSizes 40 = .ok (.isub, 1) := by decide +kernel
theorem dX4_lessSizes_41 : decode cX4_lessSizes 41 = .ok (.istore 4, 2) := by decide +kernel
theorem dX4_lessSizes_43 : decode cX4_lessSizes 43 = .ok (.aload_n 0, 1) := by decide +kernel
theorem dX4_lessSizes_44 : decode cX4_lessSizes 44 = .ok (.getfield 36, 3) := by decide +kernel
theorem dX4_lessSizes_47 : decode cX4_lessSizes 47 = .ok (.bipush 16, 2) := by decide +kernel
theorem dX4_lessSizes_49 : decode cX4_lessSizes 49 = .ok (.iload_n 1, 1) := by decide +kernel
theorem dX4_lessSizes_50 : decode cX4_lessSizes 50 = .ok (.imul, 1) := by decide +kernel
theorem dX4_lessSizes_51 : decode cX4_lessSizes 51 = .ok (.iload 5, 2) := by decide +kernel
theorem dX4_lessSizes_53 : decode cX4_lessSizes 53 = .ok (.iadd, 1) := by decide +kernel
theorem dX4_lessSizes_54 : decode cX4_lessSizes 54 = .ok (.iload 4, 2) := by decide +kernel
theorem dX4_lessSizes_56 : decode cX4_lessSizes 56 = .ok (.ldc 48, 2) := by decide +kernel
theorem dX4_lessSizes_58 : decode cX4_lessSizes 58 = .ok (.iand, 1) := by decide +kernel
theorem dX4_lessSizes_59 : decode cX4_lessSizes 59 = .ok (.iastore, 1) := by decide +kernel
theorem dX4_lessSizes_60 : decode cX4_lessSizes 60 = .ok (.iload 4, 2) := by decide +kernel
theorem dX4_lessSizes_62 : decode cX4_lessSizes 62 = .ok (.bipush 16, 2) := by decide +kernel
theorem dX4_lessSizes_64 : decode cX4_lessSizes 64 = .ok (.ishr, 1) := by decide +kernel
theorem dX4_lessSizes_65 : decode cX4_lessSizes 65 = .ok (.istore 4, 2) := by decide +kernel
theorem dX4_lessSizes_67 : decode cX4_lessSizes 67 = .ok (.iinc 5 1, 3) := by decide +kernel
theorem dX4_lessSizes_70 : decode cX4_lessSizes 70 = .ok (.goto (-64), 3) := by decide +kernel
theorem dX4_lessSizes_73 : decode cX4_lessSizes 73 = .ok (.return_, 1) := by decide +kernel
theorem dX4_add_0 : decode cX4_add 0 = .ok (.iload 4, 2) := by decide +kernel
theorem dX4_add_2 : decode cX4_add 2 = .ok (.aload_n 0, 1) := by decide +kernel
theorem dX4_add_3 : decode cX4_add 3 = .ok (.getfield 39, 3) := by decide +kernel
theorem dX4_add_6 : decode cX4_add 6 = .ok (.iload_n 3, 1) := by decide +kernel
theorem dX4_add_7 : decode cX4_add 7 = .ok (.iaload, 1) := by decide +kernel
theorem dX4_add_8 : decode cX4_add 8 = .ok (.imul, 1) := by decide +kernel
theorem dX4_add_9 : decode cX4_add 9 = .ok (.istore 5, 2) := by decide +kernel
theorem dX4_add_11 : decode cX4_add 11 = .ok (.aload_n 0, 1) := by decide +kernel
theorem dX4_add_12 : decode cX4_add 12 = .ok (.getfield 39, 3) := by decide +kernel
theorem dX4_add_15 : decode cX4_add 15 = .ok (.iload_n 2, 1) := by decide +kernel
theorem dX4_add_16 : decode cX4_add 16 = .ok (.iaload, 1) := by decide +kernel
theorem dX4_add_17 : decode cX4_add 17 = .ok (.istore 6, 2) := by decide +kernel
theorem dX4_add_19 : decode cX4_add 19 = .ok (.iload 6, 2) := by decide +kernel
theorem dX4_add_21 : decode cX4_add 21 = .ok (.ifCond .eq 15, 3) := by decide +kernel
theorem dX4_add_24 : decode cX4_add 24 = .ok (.iload 5, 2) := by decide +kernel
theorem dX4_add_26 : decode cX4_add 26 = .ok (.ifCond .eq 10, 3) := by decide +kernel
theorem dX4_add_29 : decode cX4_add 29 = .ok (.iload 6, 2) := by decide +kernel
theorem dX4_add_31 : decode cX4_add 31 = .ok (.iload 5, 2) := by decide +kernel
theorem dX4_add_33 : decode cX4_add 33 = .ok (.if_icmp .ne 29, 3) := by decide +kernel
theorem dX4_add_36 : decode cX4_add 36 = .ok (.aload_n 0, 1) := by decide +kernel
theorem dX4_add_37 : decode cX4_add 37 = .ok (.iload_n 1, 1) := by decide +kernel
theorem dX4_add_38 : decode cX4_add 38 = .ok (.iload_n 2, 1) := by decide +kernel
theorem dX4_add_39 : decode cX4_add 39 = .ok (.iload_n 3, 1) := by decide +kernel
theorem dX4_add_40 : decode cX4_add 40 = .ok (.invokevirtual 49, 3) := by decide +kernel
theorem dX4_add_43 : decode cX4_add 43 = .ok (.aload_n 0, 1) := by decide +kernel
theorem dX4_add_44 : decode cX4_add 44 = .ok (.getfield 39, 3) := by decide +kernel
theorem dX4_add_47 : decode cX4_add 47 = .ok (.iload_n 1, 1) := by decide +kernel
theorem dX4_add_48 : decode cX4_add 48 = .ok (.iload 6, 2) := by decide +kernel
theorem dX4_add_50 : decode cX4_add 50 = .ok (.ifCond .ne 8, 3) := by decide +kernel
theorem dX4_add_53 : decode cX4_add 53 = .ok (.iload 5, 2) := by decide +kernel
theorem dX4_add_55 : decode cX4_add 55 = .ok (.goto 5, 3) := by decide +kernel
theorem dX4_add_58 : decode cX4_add 58 = .ok (.iload 6, 2) := by decide +kernel
theorem dX4_add_60 : decode cX4_add 60 = .ok (.iastore, 1) := by decide +kernel
theorem dX4_add_61 : decode cX4_add 61 = .ok (.return_, 1) := by decide +kernel
theorem dX4_add_62 : decode cX4_add 62 = .ok (.aload_n 0, 1) := by decide +kernel
theorem dX4_add_63 : decode cX4_add 63 = .ok (.iload_n 2, 1) := by decide +kernel
theorem dX4_add_64 : decode cX4_add 64 = .ok (.iload_n 3, 1) := by decide +kernel
theorem dX4_add_65 : decode cX4_add 65 = .ok (.invokevirtual 53, 3) := by decide +kernel
theorem dX4_add_68 : decode cX4_add 68 = .ok (.ifCond .lt 7, 3) := by decide +kernel
theorem dX4_add_71 : decode cX4_add 71 = .ok (.iconst 1, 1) := by decide +kernel
theorem dX4_add_72 : decode cX4_add 72 = .ok (.goto 4, 3) := by decide +kernel
theorem dX4_add_75 : decode cX4_add 75 = .ok (.iconst 0, 1) := by decide +kernel
theorem dX4_add_76 : decode cX4_add 76 = .ok (.istore 7, 2) := by decide +kernel
theorem dX4_add_78 : decode cX4_add 78 = .ok (.iload 7, 2) := by decide +kernel
theorem dX4_add_80 : decode cX4_add 80 = .ok (.ifCond .eq 13, 3) := by decide +kernel
theorem dX4_add_83 : decode cX4_add 83 = .ok (.aload_n 0, 1) := by decide +kernel
theorem dX4_add_84 : decode cX4_add 84 = .ok (.iload_n 1, 1) := by decide +kernel
theorem dX4_add_85 : decode cX4_add 85 = .ok (.iload_n 2, 1) := by decide +kernel
theorem dX4_add_86 : decode cX4_add 86 = .ok (.iload_n 3, 1) := by decide +kernel
theorem dX4_add_87 : decode cX4_add 87 = .ok (.invokevirtual 57, 3) := by decide +kernel
theorem dX4_add_90 : decode cX4_add 90 = .ok (.goto 10, 3) := by decide +kernel
theorem dX4_add_93 : decode cX4_add 93 = .ok (.aload_n 0, 1) := by decide +kernel
theorem dX4_add_94 : decode cX4_add 94 = .ok (.iload_n 1, 1) := by decide +kernel
theorem dX4_add_95 : decode cX4_add 95 = .ok (.iload_n 3, 1) := by decide +kernel
theorem dX4_add_96 : decode cX4_add 96 = .ok (.iload_n 2, 1) := by decide +kernel
theorem dX4_add_97 : decode cX4_add 97 = .ok (.invokevirtual 57, 3) := by decide +kernel
theorem dX4_add_100 : decode cX4_add 100 = .ok (.aload_n 0, 1) := by decide +kernel
theorem dX4_add_101 : decode cX4_add 101 = .ok (.getfield 39, 3) := by decide +kernel
theorem dX4_add_104 : decode cX4_add 104 = .ok (.iload_n 1, 1) := by decide +kernel
theorem dX4_add_105 : decode cX4_add 105 = .ok (.aload_n 0, 1) := by decide +kernel
theorem dX4_add_106 : decode cX4_add 106 = .ok (.iload_n 1, 1) := by decide +kernel
theorem dX4_add_107 : decode cX4_add 107 = .ok (.invokevirtual 60, 3) := by decide +kernel
theorem dX4_add_110 : decode cX4_add 110 = .ok (.ifCond .eq 7, 3) := by decide +kernel
theorem dX4_add_113 : decode cX4_add 113 = .ok (.iconst 0, 1) := by decide +kernel
theorem dX4_add_114 : decode cX4_add 114 = .ok (.goto 15, 3) := by decide +kernel
theorem dX4_add_117 : decode cX4_add 117 = .ok (.iload 7, 2) := by decide +kernel
theorem dX4_add_119 : decode cX4_add 119 = .ok (.ifCond .eq 8, 3) := by decide +kernel
theorem dX4_add_122 : decode cX4_add 122 = .ok (.iload 6, 2) := by decide +kernel
theorem dX4_add_124 : decode cX4_add 124 = .ok (.goto 5, 3) := by decide +kernel
theorem dX4_add_127 : decode cX4_add 127 = .ok (.iload 5, 2) := by decide +kernel
theorem dX4_add_129 : decode cX4_add 129 = .ok (.iastore, 1) := by decide +kernel
theorem dX4_add_130 : decode cX4_add 130 = .ok (.return_, 1) := by decide +kernel
theorem dX4_multiply_0 : decode cX4_multiply 0 = .ok (.iconst 0, 1) := by decide +kernel
theorem dX4_multiply_1 : decode cX4_multiply 1 = .ok (.istore 4, 2) := by decide +kernel
theorem dX4_multiply_3 : decode cX4_multiply 3 = .ok (.iload 4, 2) := by decide +kernel
theorem dX4_multiply_5 : decode cX4_multiply 5 = .ok (.bipush 16, 2) := by decide +kernel
theorem dX4_multiply_7 : decode cX4_multiply 7 = .ok (.if_icmp .ge 22, 3) := by decide +kernel
theorem dX4_multiply_10 : decode cX4_multiply 10 = .ok (.aload_n 0, 1) := by decide +kernel
theorem dX4_multiply_11 : decode cX4_multiply 11 = .ok (.getfield 36, 3) := by decide +kernel
theorem dX4_multiply_14 : decode cX4_multiply 14 = .ok (.bipush 16, 2) := by decide +kernel
theorem dX4_multiply_16 : decode cX4_multiply 16 = .ok (.iload_n 1, 1) := by decide +kernel
theorem dX4_multiply_17 : decode cX4_multiply 17 = .ok (.imul, 1) := by decide +kernel
theorem dX4_multiply_18 : decode cX4_multiply 18 = .ok (.iload 4, 2) := by decide +kernel
theorem dX4_multiply_20 : decode cX4_multiply 20 = .ok (.iadd, 1) := by decide +kernel
theorem dX4_multiply_21 : decode cX4_multiply 21 = .ok (.iconst 0, 1) := by decide +kernel
theorem dX4_multiply_22 : decode cX4_multiply 22 = .ok (.iastore, 1) := by decide +kernel
theorem dX4_multiply_23 : decode cX4_multiply 23 = .ok (.iinc 4 1, 3) := by decide +kernel
theorem dX4_multiply_26 : decode cX4_multiply 26 = .ok (.goto (-23), 3) := by decide +kernel
theorem dX4_multiply_29 : decode cX4_multiply 29 = .ok (.iconst 0, 1) := by decide +kernel
theorem dX4_multiply_30 : decode cX4_multiply 30 = .ok (.istore 4, 2) := by decide +kernel
theorem dX4_multiply_32 : decode cX4_multiply 32 = .ok (.iload 4, 2) := by decide +kernel
theorem dX4_multiply_34 : decode cX4_multiply 34 = .ok (.bipush 16, 2) := by decide +kernel
theorem dX4_multiply_36 : decode cX4_multiply 36 = .ok (.if_icmp .ge 105, 3) := by decide +kernel
theorem dX4_multiply_39 : decode cX4_multiply 39 = .ok (.lconst 0, 1) := by decide +kernel
theorem dX4_multiply_40 : decode cX4_multiply 40 = .ok (.lstore 5, 2) := by decide +kernel
theorem dX4_multiply_42 : decode cX4_multiply 42 = .ok (.iconst 0, 1) := by decide +kernel
theorem dX4_multiply_43 : decode cX4_multiply 43 = .ok (.istore 7, 2) := by decide +kernel
theorem dX4_multiply_45 : decode cX4_multiply 45 = .ok (.iload 7, 2) := by decide +kernel
theorem dX4_multiply_47 : decode cX4_multiply 47 = .ok (.iload 4, 2) := by decide +kernel
theorem dX4_multiply_49 : decode cX4_multiply 49 = .ok (.iadd, 1) := by decide +kernel
theorem dX4_multiply_50 : decode cX4_multiply 50 = .ok (.bipush 16, 2) := by decide +kernel
theorem dX4_multiply_52 : decode cX4_multiply 52 = .ok (.if_icmp .ge 83, 3) := by decide +kernel
theorem dX4_multiply_55 : decode cX4_multiply 55 = .ok (.bipush 16, 2) := by decide +kernel
theorem dX4_multiply_57 : decode cX4_multiply 57 = .ok (.iload_n 1, 1) := by decide +kernel
theorem dX4_multiply_58 : decode cX4_multiply 58 = .ok (.imul, 1) := by decide +kernel
theorem dX4_multiply_59 : decode cX4_multiply 59 = .ok (.iload 4, 2) := by decide +kernel
theorem dX4_multiply_61 : decode cX4_multiply 61 = .ok (.iadd, 1) := by decide +kernel
theorem dX4_multiply_62 : decode cX4_multiply 62 = .ok (.iload 7, 2) := by decide +kernel
theorem dX4_multiply_64 : decode cX4_multiply 64 = .ok (.iadd, 1) := by decide +kernel
theorem dX4_multiply_65 : decode cX4_multiply 65 = .ok (.istore 8, 2) := by decide +kernel
theorem dX4_multiply_67 : decode cX4_multiply 67 = .ok (.lload 5, 2) := by decide +kernel
theorem dX4_multiply_69 : decode cX4_multiply 69 = .ok (.aload_n 0, 1) := by decide +kernel
theorem dX4_multiply_70 : decode cX4_multiply 70 = .ok (.getfield 36, 3) := by decide +kernel
theorem dX4_multiply_73 : decode cX4_multiply 73 = .ok (.iload 8, 2) := by decide +kernel
theorem dX4_multiply_75 : decode cX4_multiply 75 = .ok (.iaload, 1) := by decide +kernel
theorem dX4_multiply_76 : decode cX4_multiply 76 = .ok (.i2l, 1) := by decide +kernel
theorem dX4_multiply_77 : decode cX4_multiply 77 = .ok (.ladd, 1) := by decide +kernel
theorem dX4_multiply_78 : decode cX4_multiply 78 = .ok (.aload_n 0, 1) := by decide +kernel
theorem dX4_multiply_79 : decode cX4_multiply 79 = .ok (.getfield 36, 3) := by decide +kernel
theorem dX4_multiply_82 : decode cX4_multiply 82 = .ok (.bipush 16, 2) := by decide +kernel
theorem dX4_multiply_84 : decode cX4_multiply 84 = .ok (.iload_n 2, 1) := by decide +kernel
theorem dX4_multiply_85 : decode cX4_multiply 85 = .ok (.imul, 1) := by decide +kernel
theorem dX4_multiply_86 : decode cX4_multiply 86 = .ok (.iload 4, 2) := by decide +kernel
theorem dX4_multiply_88 : decode cX4_multiply 88 = .ok (.iadd, 1) := by decide +kernel
theorem dX4_multiply_89 : decode cX4_multiply 89 = .ok (.iaload, 1) := by decide +kernel
theorem dX4_multiply_90 : decode cX4_multiply 90 = .ok (.i2l, 1) := by decide +kernel
theorem dX4_multiply_91 : decode cX4_multiply 91 = .ok (.aload_n 0, 1) := by decide +kernel
theorem dX4_multiply_92 : decode cX4_multiply 92 = .ok (.getfield 36, 3) := by decide +kernel
theorem dX4_multiply_95 : decode cX4_multiply 95 = .ok (.bipush 16, 2) := by decide +kernel
theorem dX4_multiply_97 : decode cX4_multiply 97 = .ok (.iload_n 3, 1) := by decide +kernel
theorem dX4_multiply_98 : decode cX4_multiply 98 = .ok (.imul, 1) := by decide +kernel
theorem dX4_multiply_99 : decode cX4_multiply 99 = .ok (.iload 7, 2) := by decide +kernel
theorem dX4_multiply_101 : decode cX4_multiply 101 = .ok (.iadd, 1) := by decide +kernel
theorem dX4_multiply_102 : decode cX4_multiply 102 = .ok (.iaload, 1) := by decide +kernel
theorem dX4_multiply_103 : decode cX4_multiply 103 = .ok (.i2l, 1) := by decide +kernel
theorem dX4_multiply_104 : decode cX4_multiply 104 = .ok (.lmul, 1) := by decide +kernel
theorem dX4_multiply_105 : decode cX4_multiply 105 = .ok (.ladd, 1) := by decide +kernel
theorem dX4_multiply_106 : decode cX4_multiply 106 = .ok (.lstore 5, 2) := by decide +kernel
theorem dX4_multiply_108 : decode cX4_multiply 108 = .ok (.aload_n 0, 1) := by decide +kernel
theorem dX4_multiply_109 : decode cX4_multiply 109 = .ok (.getfield 36, 3) := by decide +kernel
theorem dX4_multiply_112 : decode cX4_multiply 112 = .ok (.iload 8, 2) := by decide +kernel
theorem dX4_multiply_114 : decode cX4_multiply 114 = .ok (.lload 5, 2) := by decide +kernel
theorem dX4_multiply_116 : decode cX4_multiply 116 = .ok (.ldc2_w 46, 3) := by decide +kernel
theorem dX4_multiply_119 : decode cX4_multiply 119 = .ok (.land, 1) := by decide +kernel
theorem dX4_multiply_120 : decode cX4_multiply 120 = .ok (.l2i, 1) := by decide +kernel
theorem dX4_multiply_121 : decode cX4_multiply 121 = .ok (.iastore, 1) := by decide +kernel
theorem dX4_multiply_122 : decode cX4_multiply 122 = .ok (.lload 5, 2) := by decide +kernel
theorem dX4_multiply_124 : decode cX4_multiply 124 = .ok (.bipush 16, 2) := by decide +kernel
theorem dX4_multiply_126 : decode cX4_multiply 126 = .ok (.lshr, 1) := by decide +kernel
theorem dX4_multiply_127 : decode cX4_multiply 127 = .ok (.lstore 5, 2) := by decide +kernel
theorem dX4_multiply_129 : decode cX4_multiply 129 = .ok (.iinc 7 1, 3) := by decide +kernel
theorem dX4_multiply_132 : decode cX4_multiply 132 = .ok (.goto (-87), 3) := by decide +kernel
theorem dX4_multiply_135 : decode cX4_multiply 135 = .ok (.iinc 4 1, 3) := by decide +kernel
theorem dX4_multiply_138 : decode cX4_multiply 138 = .ok (.goto (-106), 3) := by decide +kernel
theorem dX4_multiply_141 : decode cX4_multiply 141 = .ok (.aload_n 0, 1) := by decide +kernel
theorem dX4_multiply_142 : decode cX4_multiply 142 = .ok (.getfield 39, 3) := by decide +kernel
theorem dX4_multiply_145 : decode cX4_multiply 145 = .ok (.iload_n 1, 1) := by decide +kernel
theorem dX4_multiply_146 : decode cX4_multiply 146 = .ok (.aload_n 0, 1) := by decide +kernel
theorem dX4_multiply_147 : decode cX4_multiply 147 = .ok (.getfield 39, 3) := by decide +kernel
theorem dX4_multiply_150 : decode cX4_multiply 150 = .ok (.iload_n 2, 1) := by decide +kernel
theorem dX4_multiply_151 : decode cX4_multiply 151 = .ok (.iaload, 1) := by decide +kernel
theorem dX4_multiply_152 : decode cX4_multiply 152 = .ok (.aload_n 0, 1) := by decide +kernel
theorem dX4_multiply_153 : decode cX4_multiply 153 = .ok (.getfield 39, 3) := by decide +kernel
theorem dX4_multiply_156 : decode cX4_multiply 156 = .ok (.iload_n 3, 1) := by decide +kernel
theorem dX4_multiply_157 : decode cX4_multiply 157 = .ok (.iaload, 1) := by decide +kernel
theorem dX4_multiply_158 : decode cX4_multiply 158 = .ok (.imul, 1) := by decide +kernel
theorem dX4_multiply_159 : decode cX4_multiply 159 = .ok (.iastore, 1) := by decide +kernel
theorem dX4_multiply_160 : decode cX4_multiply 160 = .ok (.return_, 1) := by decide +kernel
theorem dX4_multiplyBy_0 : decode cX4_multiplyBy 0 = .ok (.aload_n 0, 1) := by decide +kernel
theorem dX4_multiplyBy_1 : decode cX4_multiplyBy 1 = .ok (.bipush 23, 2) := by decide +kernel
theorem dX4_multiplyBy_3 : decode cX4_multiplyBy 3 = .ok (.lload_n 3, 1) := by decide +kernel
theorem dX4_multiplyBy_4 : decode cX4_multiplyBy 4 = .ok (.invokevirtual 64, 3) := by decide +kernel
theorem dX4_multiplyBy_7 : decode cX4_multiplyBy 7 = .ok (.aload_n 0, 1) := by decide +kernel
theorem dX4_multiplyBy_8 : decode cX4_multiplyBy 8 = .ok (.iload_n 1, 1) := by decide +kernel
theorem dX4_multiplyBy_9 : decode cX4_multiplyBy 9 = .ok (.iload_n 2, 1) := by decide +kernel
theorem dX4_multiplyBy_10 : decode cX4_multiplyBy 10 = .ok (.bipush 23, 2) := by decide +kernel
theorem dX4_multiplyBy_12 : decode cX4_multiplyBy 12 = .ok (.invokevirtual 68, 3) := by decide +kernel
theorem dX4_multiplyBy_15 : decode cX4_multiplyBy 15 = .ok (.return_, 1) := by decide +kernel
theorem dX4_halve_0 : decode cX4_halve 0 = .ok (.iconst 0, 1) := by decide +kernel
theorem dX4_halve_1 : decode cX4_halve 1 = .ok (.istore_n 2, 1) := by decide +kernel
theorem dX4_halve_2 : decode cX4_halve 2 = .ok (.iload_n 2, 1) := by decide +kernel
theorem dX4_halve_3 : decode cX4_halve 3 = .ok (.bipush 16, 2) := by decide +kernel
theorem dX4_halve_5 : decode cX4_halve 5 = .ok (.if_icmp .ge 66, 3) := by decide +kernel
theorem dX4_halve_8 : decode cX4_halve 8 = .ok (.iload_n 2, 1) := by decide +kernel
theorem dX4_halve_9 : decode cX4_halve 9 = .ok (.iconst 1, 1) := by decide +kernel
theorem dX4_halve_10 : decode cX4_halve 10 = .ok (.iadd, 1) := by decide +kernel
theorem dX4_halve_11 : decode cX4_halve 11 = .ok (.bipush 16, 2) := by decide +kernel
theorem dX4_halve_13 : decode cX4_halve 13 = .ok (.if_icmp .ge 19, 3) := by decide +kernel
theorem dX4_halve_16 : decode cX4_halve 16 = .ok (.aload_n 0, 1) := by decide +kernel
theorem dX4_halve_17 : decode cX4_halve 17 = .ok (.getfield 36, 3) := by decide +kernel
theorem dX4_halve_20 : decode cX4_halve 20 = .ok (.bipush 16, 2) := by decide +kernel
theorem dX4_halve_22 : decode cX4_halve 22 = .ok (.iload_n 1, 1) := by decide +kernel
theorem dX4_halve_23 : decode cX4_halve 23 = .ok (.imul, 1) := by decide +kernel
theorem dX4_halve_24 : decode cX4_halve 24 = .ok (.iload_n 2, 1) := by decide +kernel
theorem dX4_halve_25 : decode cX4_halve 25 = .ok (.iadd, 1) := by decide +kernel
theorem dX4_halve_26 : decode cX4_halve 26 = .ok (.iconst 1, 1) := by decide +kernel
theorem dX4_halve_27 : decode cX4_halve 27 = .ok (.iadd, 1) := by decide +kernel
theorem dX4_halve_28 : decode cX4_halve 28 = .ok (.iaload, 1) := by decide +kernel
theorem dX4_halve_29 : decode cX4_halve 29 = .ok (.goto 4, 3) := by decide +kernel
theorem dX4_halve_32 : decode cX4_halve 32 = .ok (.iconst 0, 1) := by decide +kernel
theorem dX4_halve_33 : decode cX4_halve 33 = .ok (.istore_n 3, 1) := by decide +kernel
theorem dX4_halve_34 : decode cX4_halve 34 = .ok (.aload_n 0, 1) := by decide +kernel
theorem dX4_halve_35 : decode cX4_halve 35 = .ok (.getfield 36, 3) := by decide +kernel
theorem dX4_halve_38 : decode cX4_halve 38 = .ok (.bipush 16, 2) := by decide +kernel
theorem dX4_halve_40 : decode cX4_halve 40 = .ok (.iload_n 1, 1) := by decide +kernel
theorem dX4_halve_41 : decode cX4_halve 41 = .ok (.imul, 1) := by decide +kernel
theorem dX4_halve_42 : decode cX4_halve 42 = .ok (.iload_n 2, 1) := by decide +kernel
theorem dX4_halve_43 : decode cX4_halve 43 = .ok (.iadd, 1) := by decide +kernel
theorem dX4_halve_44 : decode cX4_halve 44 = .ok (.aload_n 0, 1) := by decide +kernel
theorem dX4_halve_45 : decode cX4_halve 45 = .ok (.getfield 36, 3) := by decide +kernel
theorem dX4_halve_48 : decode cX4_halve 48 = .ok (.bipush 16, 2) := by decide +kernel
theorem dX4_halve_50 : decode cX4_halve 50 = .ok (.iload_n 1, 1) := by decide +kernel
theorem dX4_halve_51 : decode cX4_halve 51 = .ok (.imul, 1) := by decide +kernel
theorem dX4_halve_52 : decode cX4_halve 52 = .ok (.iload_n 2, 1) := by decide +kernel
theorem dX4_halve_53 : decode cX4_halve 53 = .ok (.iadd, 1) := by decide +kernel
theorem dX4_halve_54 : decode cX4_halve 54 = .ok (.iaload, 1) := by decide +kernel
theorem dX4_halve_55 : decode cX4_halve 55 = .ok (.iconst 1, 1) := by decide +kernel
theorem dX4_halve_56 : decode cX4_halve 56 = .ok (.ishr, 1) := by decide +kernel
theorem dX4_halve_57 : decode cX4_halve 57 = .ok (.iload_n 3, 1) := by decide +kernel
theorem dX4_halve_58 : decode cX4_halve 58 = .ok (.iconst 1, 1) := by decide +kernel
theorem dX4_halve_59 : decode cX4_halve 59 = .ok (.iand, 1) := by decide +kernel
theorem dX4_halve_60 : decode cX4_halve 60 = .ok (.bipush 15, 2) := by decide +kernel
theorem dX4_halve_62 : decode cX4_halve 62 = .ok (.ishl, 1) := by decide +kernel
theorem dX4_halve_63 : decode cX4_halve 63 = .ok (.ior, 1) := by decide +kernel
theorem dX4_halve_64 : decode cX4_halve 64 = .ok (.iastore, 1) := by decide +kernel
theorem dX4_halve_65 : decode cX4_halve 65 = .ok (.iinc 2 1, 3) := by decide +kernel
theorem dX4_halve_68 : decode cX4_halve 68 = .ok (.goto (-66), 3) := by decide +kernel
theorem dX4_halve_71 : decode cX4_halve 71 = .ok (.aload_n 0, 1) := by decide +kernel
theorem dX4_halve_72 : decode cX4_halve 72 = .ok (.iload_n 1, 1) := by decide +kernel
theorem dX4_halve_73 : decode cX4_halve 73 = .ok (.invokevirtual 60, 3) := by decide +kernel
theorem dX4_halve_76 : decode cX4_halve 76 = .ok (.ifCond .eq 10, 3) := by decide +kernel
theorem dX4_halve_79 : decode cX4_halve 79 = .ok (.aload_n 0, 1) := by decide +kernel
theorem dX4_halve_80 : decode cX4_halve 80 = .ok (.getfield 39, 3) := by decide +kernel
theorem dX4_halve_83 : decode cX4_halve 83 = .ok (.iload_n 1, 1) := by decide +kernel
theorem dX4_halve_84 : decode cX4_halve 84 = .ok (.iconst 0, 1) := by decide +kernel
theorem dX4_halve_85 : decode cX4_halve 85 = .ok (.iastore, 1) := by decide +kernel
theorem dX4_halve_86 : decode cX4_halve 86 = .ok (.return_, 1) := by decide +kernel
theorem dX4_divide_0 : decode cX4_divide 0 = .ok (.aload_n 0, 1) := by decide +kernel
theorem dX4_divide_1 : decode cX4_divide 1 = .ok (.getfield 39, 3) := by decide +kernel
theorem dX4_divide_4 : decode cX4_divide 4 = .ok (.iload_n 3, 1) := by decide +kernel
theorem dX4_divide_5 : decode cX4_divide 5 = .ok (.iaload, 1) := by decide +kernel
theorem dX4_divide_6 : decode cX4_divide 6 = .ok (.aload_n 0, 1) := by decide +kernel
theorem dX4_divide_7 : decode cX4_divide 7 = .ok (.getfield 39, 3) := by decide +kernel
theorem dX4_divide_10 : decode cX4_divide 10 = .ok (.iload 4, 2) := by decide +kernel
theorem dX4_divide_12 : decode cX4_divide 12 = .ok (.iaload, 1) := by decide +kernel
theorem dX4_divide_13 : decode cX4_divide 13 = .ok (.imul, 1) := by decide +kernel
theorem dX4_divide_14 : decode cX4_divide 14 = .ok (.istore 5, 2) := by decide +kernel
theorem dX4_divide_16 : decode cX4_divide 16 = .ok (.aload_n 0, 1) := by decide +kernel
theorem dX4_divide_17 : decode cX4_divide 17 = .ok (.iload_n 2, 1) := by decide +kernel
theorem dX4_divide_18 : decode cX4_divide 18 = .ok (.iload_n 3, 1) := by decide +kernel
theorem dX4_divide_19 : decode cX4_divide 19 = .ok (.invokevirtual 71, 3) := by decide +kernel
theorem dX4_divide_22 : decode cX4_divide 22 = .ok (.aload_n 0, 1) := by decide +kernel
theorem dX4_divide_23 : decode cX4_divide 23 = .ok (.bipush 22, 2) := by decide +kernel
theorem dX4_divide_25 : decode cX4_divide 25 = .ok (.iload 4, 2) := by decide +kernel
theorem dX4_divide_27 : decode cX4_divide 27 = .ok (.invokevirtual 71, 3) := by decide +kernel
theorem dX4_divide_30 : decode cX4_divide 30 = .ok (.iconst 0, 1) := by decide +kernel
theorem dX4_divide_31 : decode cX4_divide 31 = .ok (.istore 6, 2) := by decide +kernel
theorem dX4_divide_33 : decode cX4_divide 33 = .ok (.aload_n 0, 1) := by decide +kernel
theorem dX4_divide_34 : decode cX4_divide 34 = .ok (.bipush 22, 2) := by decide +kernel
theorem dX4_divide_36 : decode cX4_divide 36 = .ok (.iload_n 2, 1) := by decide +kernel
theorem dX4_divide_37 : decode cX4_divide 37 = .ok (.invokevirtual 53, 3) := by decide +kernel
theorem dX4_divide_40 : decode cX4_divide 40 = .ok (.ifCond .gt 19, 3) := by decide +kernel
theorem dX4_divide_43 : decode cX4_divide 43 = .ok (.aload_n 0, 1) := by decide +kernel
theorem dX4_divide_44 : decode cX4_divide 44 = .ok (.bipush 22, 2) := by decide +kernel
theorem dX4_divide_46 : decode cX4_divide 46 = .ok (.bipush 22, 2) := by decide +kernel
theorem dX4_divide_48 : decode cX4_divide 48 = .ok (.bipush 22, 2) := by decide +kernel
theorem dX4_divide_50 : decode cX4_divide 50 = .ok (.invokevirtual 49, 3) := by decide +kernel
theorem dX4_divide_53 : decode cX4_divide 53 = .ok (.iinc 6 1, 3) := by decide +kernel
theorem dX4_divide_56 : decode cX4_divide 56 = .ok (.goto (-23), 3) := by decide +kernel
theorem dX4_divide_59 : decode cX4_divide 59 = .ok (.aload_n 0, 1) := by decide +kernel
theorem dX4_divide_60 : decode cX4_divide 60 = .ok (.iload_n 1, 1) := by decide +kernel
theorem dX4_divide_61 : decode cX4_divide 61 = .ok (.lconst 0, 1) := by decide +kernel
theorem dX4_divide_62 : decode cX4_divide 62 = .ok (.invokevirtual 64, 3) := by decide +kernel
theorem dX4_divide_65 : decode cX4_divide 65 = .ok (.iconst 0, 1) := by decide +kernel
theorem dX4_divide_66 : decode cX4_divide 66 = .ok (.istore 7, 2) := by decide +kernel
theorem dX4_divide_68 : decode cX4_divide 68 = .ok (.iload 7, 2) := by decide +kernel
theorem dX4_divide_70 : decode cX4_divide 70 = .ok (.iload 6, 2) := by decide +kernel
theorem dX4_divide_72 : decode cX4_divide 72 = .ok (.if_icmp .ge 60, 3) := by decide +kernel
theorem dX4_divide_75 : decode cX4_divide 75 = .ok (.aload_n 0, 1) := by decide +kernel
theorem dX4_divide_76 : decode cX4_divide 76 = .ok (.bipush 22, 2) := by decide +kernel
theorem dX4_divide_78 : decode cX4_divide 78 = .ok (.invokevirtual 75, 3) := by decide +kernel
theorem dX4_divide_81 : decode cX4_divide 81 = .ok (.aload_n 0, 1) := by decide +kernel
theorem dX4_divide_82 : decode cX4_divide 82 = .ok (.iload_n 1, 1) := by decide +kernel
theorem dX4_divide_83 : decode cX4_divide 83 = .ok (.iload_n 1, 1) := by decide +kernel
theorem dX4_divide_84 : decode cX4_divide 84 = .ok (.iload_n 1, 1) := by decide +kernel
theorem dX4_divide_85 : decode cX4_divide 85 = .ok (.invokevirtual 49, 3) := by decide +kernel
theorem dX4_divide_88 : decode cX4_divide 88 = .ok (.aload_n 0, 1) := by decide +kernel
theorem dX4_divide_89 : decode cX4_divide 89 = .ok (.iload_n 2, 1) := by decide +kernel
theorem dX4_divide_90 : decode cX4_divide 90 = .ok (.bipush 22, 2) := by decide +kernel
theorem dX4_divide_92 : decode cX4_divide 92 = .ok (.invokevirtual 53, 3) := by decide +kernel
theorem dX4_divide_95 : decode cX4_divide 95 = .ok (.ifCond .lt 31, 3) := by decide +kernel
theorem dX4_divide_98 : decode cX4_divide 98 = .ok (.aload_n 0, 1) := by decide +kernel
theorem dX4_divide_99 : decode cX4_divide 99 = .ok (.iload_n 2, 1) := by decide +kernel
theorem dX4_divide_100 : decode cX4_divide 100 = .ok (.iload_n 2, 1) := by decide +kernel
theorem dX4_divide_101 : decode cX4_divide 101 = .ok (.bipush 22, 2) := by decide +kernel
theorem dX4_divide_103 : decode cX4_divide 103 = .ok (.invokevirtual 57, 3) := by decide +kernel
theorem dX4_divide_106 : decode cX4_divide 106 = .ok (.aload_n 0, 1) := by decide +kernel
theorem dX4_divide_107 : decode cX4_divide 107 = .ok (.getfield 36, 3) := by decide +kernel
theorem dX4_divide_110 : decode cX4_divide 110 = .ok (.bipush 16, 2) := by decide +kernel
theorem dX4_divide_112 : decode cX4_divide 112 = .ok (.iload_n 1, 1) := by decide +kernel
theorem dX4_divide_113 : decode cX4_divide 113 = .ok (.imul, 1) := by decide +kernel
theorem dX4_divide_114 : decode cX4_divide 114 = .ok (.aload_n 0, 1) := by decide +kernel
theorem dX4_divide_115 : decode cX4_divide 115 = .ok (.getfield 36, 3) := by decide +kernel
theorem dX4_divide_118 : decode cX4_divide 118 = .ok (.bipush 16, 2) := by decide +kernel
theorem dX4_divide_120 : decode cX4_divide 120 = .ok (.iload_n 1, 1) := by decide +kernel
theorem dX4_divide_121 : decode cX4_divide 121 = .ok (.imul, 1) := by decide +kernel
theorem dX4_divide_122 : decode cX4_divide 122 = .ok (.iaload, 1) := by decide +kernel
theorem dX4_divide_123 : decode cX4_divide 123 = .ok (.iconst 1, 1) := by decide +kernel
theorem dX4_divide_124 : decode cX4_divide 124 = .ok (.ior, 1) := by decide +kernel
theorem dX4_divide_125 : decode cX4_divide 125 = .ok (.iastore, 1) := by decide +kernel
theorem dX4_divide_126 : decode cX4_divide 126 = .ok (.iinc 7 1, 3) := by decide +kernel
theorem dX4_divide_129 : decode cX4_divide 129 = .ok (.goto (-61), 3) := by decide +kernel
theorem dX4_divide_132 : decode cX4_divide 132 = .ok (.aload_n 0, 1) := by decide +kernel
theorem dX4_divide_133 : decode cX4_divide 133 = .ok (.getfield 39, 3) := by decide +kernel
theorem dX4_divide_136 : decode cX4_divide 136 = .ok (.iload_n 1, 1) := by decide +kernel
theorem dX4_divide_137 : decode cX4_divide 137 = .ok (.aload_n 0, 1) := by decide +kernel
theorem dX4_divide_138 : decode cX4_divide 138 = .ok (.iload_n 1, 1) := by decide +kernel
theorem dX4_divide_139 : decode cX4_divide 139 = .ok (.invokevirtual 60, 3) := by decide +kernel
theorem dX4_divide_142 : decode cX4_divide 142 = .ok (.ifCond .eq 7, 3) := by decide +kernel
theorem dX4_divide_145 : decode cX4_divide 145 = .ok (.iconst 0, 1) := by decide +kernel
theorem dX4_divide_146 : decode cX4_divide 146 = .ok (.goto 5, 3) := by decide +kernel
theorem dX4_divide_149 : decode cX4_divide 149 = .ok (.iload 5, 2) := by decide +kernel
theorem dX4_divide_151 : decode cX4_divide 151 = .ok (.iastore, 1) := by decide +kernel
theorem dX4_divide_152 : decode cX4_divide 152 = .ok (.aload_n 0, 1) := by decide +kernel
theorem dX4_divide_153 : decode cX4_divide 153 = .ok (.getfield 39, 3) := by decide +kernel
theorem dX4_divide_156 : decode cX4_divide 156 = .ok (.iload_n 2, 1) := by decide +kernel
theorem dX4_divide_157 : decode cX4_divide 157 = .ok (.aload_n 0, 1) := by decide +kernel
theorem dX4_divide_158 : decode cX4_divide 158 = .ok (.iload_n 2, 1) := by decide +kernel
theorem dX4_divide_159 : decode cX4_divide 159 = .ok (.invokevirtual 60, 3) := by decide +kernel
theorem dX4_divide_162 : decode cX4_divide 162 = .ok (.ifCond .eq 7, 3) := by decide +kernel
theorem dX4_divide_165 : decode cX4_divide 165 = .ok (.iconst 0, 1) := by decide +kernel
theorem dX4_divide_166 : decode cX4_divide 166 = .ok (.goto 4, 3) := by decide +kernel
theorem dX4_divide_169 : decode cX4_divide 169 = .ok (.iconst 1, 1) := by decide +kernel
theorem dX4_divide_170 : decode cX4_divide 170 = .ok (.iastore, 1) := by decide +kernel
theorem dX4_divide_171 : decode cX4_divide 171 = .ok (.return_, 1) := by decide +kernel
theorem dX4_low_0 : decode cX4_low 0 = .ok (.lconst 0, 1) := by decide +kernel
theorem dX4_low_1 : decode cX4_low 1 = .ok (.lstore_n 2, 1) := by decide +kernel
theorem dX4_low_2 : decode cX4_low 2 = .ok (.iconst 3, 1) := by decide +kernel
theorem dX4_low_3 : decode cX4_low 3 = .ok (.istore 4, 2) := by decide +kernel
theorem dX4_low_5 : decode cX4_low 5 = .ok (.iload 4, 2) := by decide +kernel
theorem dX4_low_7 : decode cX4_low 7 = .ok (.ifCond .lt 28, 3) := by decide +kernel
theorem dX4_low_10 : decode cX4_low 10 = .ok (.lload_n 2, 1) := by decide +kernel
theorem dX4_low_11 : decode cX4_low 11 = .ok (.bipush 16, 2) := by decide +kernel
theorem dX4_low_13 : decode cX4_low 13 = .ok (.lshl, 1) := by decide +kernel
theorem dX4_low_14 : decode cX4_low 14 = .ok (.aload_n 0, 1) := by decide +kernel
theorem dX4_low_15 : decode cX4_low 15 = .ok (.getfield 36, 3) := by decide +kernel
theorem dX4_low_18 : decode cX4_low 18 = .ok (.bipush 16, 2) := by decide +kernel
theorem dX4_low_20 : decode cX4_low 20 = .ok (.iload_n 1, 1) := by decide +kernel
theorem dX4_low_21 : decode cX4_low 21 = .ok (.imul, 1) := by decide +kernel
theorem dX4_low_22 : decode cX4_low 22 = .ok (.iload 4, 2) := by decide +kernel
theorem dX4_low_24 : decode cX4_low 24 = .ok (.iadd, 1) := by decide +kernel
theorem dX4_low_25 : decode cX4_low 25 = .ok (.iaload, 1) := by decide +kernel
theorem dX4_low_26 : decode cX4_low 26 = .ok (.i2l, 1) := by decide +kernel
theorem dX4_low_27 : decode cX4_low 27 = .ok (.lor, 1) := by decide +kernel
theorem dX4_low_28 : decode cX4_low 28 = .ok (.lstore_n 2, 1) := by decide +kernel
theorem dX4_low_29 : decode cX4_low 29 = .ok (.iinc 4 (-1), 3) := by decide +kernel
theorem dX4_low_32 : decode cX4_low 32 = .ok (.goto (-27), 3) := by decide +kernel
theorem dX4_low_35 : decode cX4_low 35 = .ok (.aload_n 0, 1) := by decide +kernel
theorem dX4_low_36 : decode cX4_low 36 = .ok (.getfield 39, 3) := by decide +kernel
theorem dX4_low_39 : decode cX4_low 39 = .ok (.iload_n 1, 1) := by decide +kernel
theorem dX4_low_40 : decode cX4_low 40 = .ok (.iaload, 1) := by decide +kernel
theorem dX4_low_41 : decode cX4_low 41 = .ok (.ifCond .ge 8, 3) := by decide +kernel
theorem dX4_low_44 : decode cX4_low 44 = .ok (.lload_n 2, 1) := by decide +kernel
theorem dX4_low_45 : decode cX4_low 45 = .ok (.lneg, 1) := by decide +kernel
theorem dX4_low_46 : decode cX4_low 46 = .ok (.goto 4, 3) := by decide +kernel
theorem dX4_low_49 : decode cX4_low 49 = .ok (.lload_n 2, 1) := by decide +kernel
theorem dX4_low_50 : decode cX4_low 50 = .ok (.lreturn, 1) := by decide +kernel
theorem dX4_none_0 : decode cX4_none 0 = .ok (.aload_n 0, 1) := by decide +kernel
theorem dX4_none_1 : decode cX4_none 1 = .ok (.iconst 0, 1) := by decide +kernel
theorem dX4_none_2 : decode cX4_none 2 = .ok (.putfield 42, 3) := by decide +kernel
theorem dX4_none_5 : decode cX4_none 5 = .ok (.iload_n 1, 1) := by decide +kernel
theorem dX4_none_6 : decode cX4_none 6 = .ok (.iconst 1, 1) := by decide +kernel
theorem dX4_none_7 : decode cX4_none 7 = .ok (.if_icmp .lt 11, 3) := by decide +kernel
theorem dX4_none_10 : decode cX4_none 10 = .ok (.iload_n 1, 1) := by decide +kernel
theorem dX4_none_11 : decode cX4_none 11 = .ok (.aload_n 0, 1) := by decide +kernel
theorem dX4_none_12 : decode cX4_none 12 = .ok (.getfield 79, 3) := by decide +kernel
theorem dX4_none_15 : decode cX4_none 15 = .ok (.if_icmp .le 7, 3) := by decide +kernel
theorem dX4_none_18 : decode cX4_none 18 = .ok (.iconst 1, 1) := by decide +kernel
theorem dX4_none_19 : decode cX4_none 19 = .ok (.goto 4, 3) := by decide +kernel
theorem dX4_none_22 : decode cX4_none 22 = .ok (.iconst 0, 1) := by decide +kernel
theorem dX4_none_23 : decode cX4_none 23 = .ok (.ireturn, 1) := by decide +kernel
theorem dX4_kind_0 : decode cX4_kind 0 = .ok (.aload_n 0, 1) := by decide +kernel
theorem dX4_kind_1 : decode cX4_kind 1 = .ok (.iconst 0, 1) := by decide +kernel
theorem dX4_kind_2 : decode cX4_kind 2 = .ok (.putfield 42, 3) := by decide +kernel
theorem dX4_kind_5 : decode cX4_kind 5 = .ok (.iload_n 1, 1) := by decide +kernel
theorem dX4_kind_6 : decode cX4_kind 6 = .ok (.bipush 8, 2) := by decide +kernel
theorem dX4_kind_8 : decode cX4_kind 8 = .ok (.if_icmp .lt 67, 3) := by decide +kernel
theorem dX4_kind_11 : decode cX4_kind 11 = .ok (.iload_n 1, 1) := by decide +kernel
theorem dX4_kind_12 : decode cX4_kind 12 = .ok (.bipush 64, 2) := by decide +kernel
theorem dX4_kind_14 : decode cX4_kind 14 = .ok (.if_icmp .gt 61, 3) := by decide +kernel
theorem dX4_kind_17 : decode cX4_kind 17 = .ok (.iload_n 1, 1) := by decide +kernel
theorem dX4_kind_18 : decode cX4_kind 18 = .ok (.bipush 64, 2) := by decide +kernel
theorem dX4_kind_20 : decode cX4_kind 20 = .ok (.if_icmp .ne 7, 3) := by decide +kernel
theorem dX4_kind_23 : decode cX4_kind 23 = .ok (.iload_n 2, 1) := by decide +kernel
theorem dX4_kind_24 : decode cX4_kind 24 = .ok (.ifCond .eq 51, 3) := by decide +kernel
theorem dX4_kind_27 : decode cX4_kind 27 = .ok (.lload_n 3, 1) := by decide +kernel
theorem dX4_kind_28 : decode cX4_kind 28 = .ok (.lconst 0, 1) := by decide +kernel
theorem dX4_kind_29 : decode cX4_kind 29 = .ok (.lcmp, 1) := by decide +kernel
theorem dX4_kind_30 : decode cX4_kind 30 = .ok (.ifCond .lt 45, 3) := by decide +kernel
theorem dX4_kind_33 : decode cX4_kind 33 = .ok (.lload_n 3, 1) := by decide +kernel
theorem dX4_kind_34 : decode cX4_kind 34 = .ok (.ldc2_w 82, 3) := by decide +kernel
theorem dX4_kind_37 : decode cX4_kind 37 = .ok (.lcmp, 1) := by decide +kernel
theorem dX4_kind_38 : decode cX4_kind 38 = .ok (.ifCond .gt 37, 3) := by decide +kernel
theorem dX4_kind_41 : decode cX4_kind 41 = .ok (.lload 5, 2) := by decide +kernel
theorem dX4_kind_43 : decode cX4_kind 43 = .ok (.lconst 1, 1) := by decide +kernel
theorem dX4_kind_44 : decode cX4_kind 44 = .ok (.lcmp, 1) := by decide +kernel
theorem dX4_kind_45 : decode cX4_kind 45 = .ok (.ifCond .lt 30, 3) := by decide +kernel
theorem dX4_kind_48 : decode cX4_kind 48 = .ok (.lload 5, 2) := by decide +kernel
theorem dX4_kind_50 : decode cX4_kind 50 = .ok (.ldc2_w 82, 3) := by decide +kernel
theorem dX4_kind_53 : decode cX4_kind 53 = .ok (.lcmp, 1) := by decide +kernel
theorem dX4_kind_54 : decode cX4_kind 54 = .ok (.ifCond .gt 21, 3) := by decide +kernel
theorem dX4_kind_57 : decode cX4_kind 57 = .ok (.lload 7, 2) := by decide +kernel
theorem dX4_kind_59 : decode cX4_kind 59 = .ok (.ldc2_w 84, 3) := by decide +kernel
theorem dX4_kind_62 : decode cX4_kind 62 = .ok (.lcmp, 1) := by decide +kernel
theorem dX4_kind_63 : decode cX4_kind 63 = .ok (.ifCond .lt 12, 3) := by decide +kernel
theorem dX4_kind_66 : decode cX4_kind 66 = .ok (.lload 7, 2) := by decide +kernel
theorem dX4_kind_68 : decode cX4_kind 68 = .ok (.ldc2_w 86, 3) := by decide +kernel
theorem dX4_kind_71 : decode cX4_kind 71 = .ok (.lcmp, 1) := by decide +kernel
theorem dX4_kind_72 : decode cX4_kind 72 = .ok (.ifCond .le 6, 3) := by decide +kernel
theorem dX4_kind_75 : decode cX4_kind 75 = .ok (.bipush (-2), 2) := by decide +kernel
theorem dX4_kind_77 : decode cX4_kind 77 = .ok (.ireturn, 1) := by decide +kernel
theorem dX4_kind_78 : decode cX4_kind 78 = .ok (.aload_n 0, 1) := by decide +kernel
theorem dX4_kind_79 : decode cX4_kind 79 = .ok (.getfield 79, 3) := by decide +kernel
theorem dX4_kind_82 : decode cX4_kind 82 = .ok (.bipush 40, 2) := by decide +kernel
theorem dX4_kind_84 : decode cX4_kind 84 = .ok (.if_icmp .ne 6, 3) := by decide +kernel
theorem dX4_kind_87 : decode cX4_kind 87 = .ok (.bipush (-4), 2) := by decide +kernel
theorem dX4_kind_89 : decode cX4_kind 89 = .ok (.ireturn, 1) := by decide +kernel
theorem dX4_kind_90 : decode cX4_kind 90 = .ok (.lload_n 3, 1) := by decide +kernel
theorem dX4_kind_91 : decode cX4_kind 91 = .ok (.lconst 0, 1) := by decide +kernel
theorem dX4_kind_92 : decode cX4_kind 92 = .ok (.lcmp, 1) := by decide +kernel
theorem dX4_kind_93 : decode cX4_kind 93 = .ok (.ifCond .ne 5, 3) := by decide +kernel
theorem dX4_kind_96 : decode cX4_kind 96 = .ok (.iconst 0, 1) := by decide +kernel
theorem dX4_kind_97 : decode cX4_kind 97 = .ok (.ireturn, 1) := by decide +kernel
theorem dX4_kind_98 : decode cX4_kind 98 = .ok (.aload_n 0, 1) := by decide +kernel
theorem dX4_kind_99 : decode cX4_kind 99 = .ok (.dup, 1) := by decide +kernel
theorem dX4_kind_100 : decode cX4_kind 100 = .ok (.getfield 79, 3) := by decide +kernel
theorem dX4_kind_103 : decode cX4_kind 103 = .ok (.iconst 1, 1) := by decide +kernel
theorem dX4_kind_104 : decode cX4_kind 104 = .ok (.iadd, 1) := by decide +kernel
theorem dX4_kind_105 : decode cX4_kind 105 = .ok (.putfield 79, 3) := by decide +kernel
theorem dX4_kind_108 : decode cX4_kind 108 = .ok (.aload_n 0, 1) := by decide +kernel
theorem dX4_kind_109 : decode cX4_kind 109 = .ok (.getfield 7, 3) := by decide +kernel
theorem dX4_kind_112 : decode cX4_kind 112 = .ok (.aload_n 0, 1) := by decide +kernel
theorem dX4_kind_113 : decode cX4_kind 113 = .ok (.getfield 79, 3) := by decide +kernel
theorem dX4_kind_116 : decode cX4_kind 116 = .ok (.iload_n 1, 1) := by decide +kernel
theorem dX4_kind_117 : decode cX4_kind 117 = .ok (.iastore, 1) := by decide +kernel
theorem dX4_kind_118 : decode cX4_kind 118 = .ok (.aload_n 0, 1) := by decide +kernel
theorem dX4_kind_119 : decode cX4_kind 119 = .ok (.getfield 13, 3) := by decide +kernel
theorem dX4_kind_122 : decode cX4_kind 122 = .ok (.aload_n 0, 1) := by decide +kernel
theorem dX4_kind_123 : decode cX4_kind 123 = .ok (.getfield 79, 3) := by decide +kernel
theorem dX4_kind_126 : decode cX4_kind 126 = .ok (.iload_n 2, 1) := by decide +kernel
theorem dX4_kind_127 : decode cX4_kind 127 = .ok (.bastore, 1) := by decide +kernel
theorem dX4_kind_128 : decode cX4_kind 128 = .ok (.aload_n 0, 1) := by decide +kernel
theorem dX4_kind_129 : decode cX4_kind 129 = .ok (.getfield 17, 3) := by decide +kernel
theorem dX4_kind_132 : decode cX4_kind 132 = .ok (.aload_n 0, 1) := by decide +kernel
theorem dX4_kind_133 : decode cX4_kind 133 = .ok (.getfield 79, 3) := by decide +kernel
theorem dX4_kind_136 : decode cX4_kind 136 = .ok (.lload_n 3, 1) := by decide +kernel
theorem dX4_kind_137 : decode cX4_kind 137 = .ok (.lastore, 1) := by decide +kernel
theorem dX4_kind_138 : decode cX4_kind 138 = .ok (.aload_n 0, 1) := by decide +kernel
theorem dX4_kind_139 : decode cX4_kind 139 = .ok (.getfield 21, 3) := by decide +kernel
theorem dX4_kind_142 : decode cX4_kind 142 = .ok (.aload_n 0, 1) := by decide +kernel
theorem dX4_kind_143 : decode cX4_kind 143 = .ok (.getfield 79, 3) := by decide +kernel
theorem dX4_kind_146 : decode cX4_kind 146 = .ok (.lload 5, 2) := by decide +kernel
theorem dX4_kind_148 : decode cX4_kind 148 = .ok (.lastore, 1) := by decide +kernel
theorem dX4_kind_149 : decode cX4_kind 149 = .ok (.aload_n 0, 1) := by decide +kernel
theorem dX4_kind_150 : decode cX4_kind 150 = .ok (.getfield 24, 3) := by decide +kernel
theorem dX4_kind_153 : decode cX4_kind 153 = .ok (.aload_n 0, 1) := by decide +kernel
theorem dX4_kind_154 : decode cX4_kind 154 = .ok (.getfield 79, 3) := by decide +kernel
theorem dX4_kind_157 : decode cX4_kind 157 = .ok (.lload 7, 2) := by decide +kernel
theorem dX4_kind_159 : decode cX4_kind 159 = .ok (.lastore, 1) := by decide +kernel
theorem dX4_kind_160 : decode cX4_kind 160 = .ok (.aload_n 0, 1) := by decide +kernel
theorem dX4_kind_161 : decode cX4_kind 161 = .ok (.getfield 79, 3) := by decide +kernel
theorem dX4_kind_164 : decode cX4_kind 164 = .ok (.ireturn, 1) := by decide +kernel
theorem dX4_rule_0 : decode cX4_rule 0 = .ok (.aload_n 0, 1) := by decide +kernel
theorem dX4_rule_1 : decode cX4_rule 1 = .ok (.iload_n 1, 1) := by decide +kernel
theorem dX4_rule_2 : decode cX4_rule 2 = .ok (.invokevirtual 88, 3) := by decide +kernel
theorem dX4_rule_5 : decode cX4_rule 5 = .ok (.ifCond .eq 5, 3) := by decide +kernel
theorem dX4_rule_8 : decode cX4_rule 8 = .ok (.iconst (-1), 1) := by decide +kernel
theorem dX4_rule_9 : decode cX4_rule 9 = .ok (.ireturn, 1) := by decide +kernel
theorem dX4_rule_10 : decode cX4_rule 10 = .ok (.iload_n 2, 1) := by decide +kernel
theorem dX4_rule_11 : decode cX4_rule 11 = .ok (.ifCond .lt 17, 3) := by decide +kernel
theorem dX4_rule_14 : decode cX4_rule 14 = .ok (.iload_n 2, 1) := by decide +kernel
theorem dX4_rule_15 : decode cX4_rule 15 = .ok (.iconst 2, 1) := by decide +kernel
theorem dX4_rule_16 : decode cX4_rule 16 = .ok (.if_icmp .gt 12, 3) := by decide +kernel
theorem dX4_rule_19 : decode cX4_rule 19 = .ok (.iload_n 3, 1) := by decide +kernel
theorem dX4_rule_20 : decode cX4_rule 20 = .ok (.ifCond .lt 8, 3) := by decide +kernel
theorem dX4_rule_23 : decode cX4_rule 23 = .ok (.iload_n 3, 1) := by decide +kernel
theorem dX4_rule_24 : decode cX4_rule 24 = .ok (.iconst 3, 1) := by decide +kernel
theorem dX4_rule_25 : decode cX4_rule 25 = .ok (.if_icmp .le 6, 3) := by decide +kernel
theorem dX4_rule_28 : decode cX4_rule 28 = .ok (.bipush (-2), 2) := by decide +kernel
theorem dX4_rule_30 : decode cX4_rule 30 = .ok (.ireturn, 1) := by decide +kernel
theorem dX4_rule_31 : decode cX4_rule 31 = .ok (.aload_n 0, 1) := by decide +kernel
theorem dX4_rule_32 : decode cX4_rule 32 = .ok (.getfield 27, 3) := by decide +kernel
theorem dX4_rule_35 : decode cX4_rule 35 = .ok (.iload_n 1, 1) := by decide +kernel
theorem dX4_rule_36 : decode cX4_rule 36 = .ok (.iload_n 2, 1) := by decide +kernel
theorem dX4_rule_37 : decode cX4_rule 37 = .ok (.iastore, 1) := by decide +kernel
theorem dX4_rule_38 : decode cX4_rule 38 = .ok (.aload_n 0, 1) := by decide +kernel
theorem dX4_rule_39 : decode cX4_rule 39 = .ok (.getfield 30, 3) := by decide +kernel
theorem dX4_rule_42 : decode cX4_rule 42 = .ok (.iload_n 1, 1) := by decide +kernel
theorem dX4_rule_43 : decode cX4_rule 43 = .ok (.iload_n 3, 1) := by decide +kernel
theorem dX4_rule_44 : decode cX4_rule 44 = .ok (.iastore, 1) := by decide +kernel
theorem dX4_rule_45 : decode cX4_rule 45 = .ok (.iconst 1, 1) := by decide +kernel
theorem dX4_rule_46 : decode cX4_rule 46 = .ok (.ireturn, 1) := by decide +kernel
theorem dX4_unsigned_0 : decode cX4_unsigned 0 = .ok (.aload_n 0, 1) := by decide +kernel
theorem dX4_unsigned_1 : decode cX4_unsigned 1 = .ok (.getfield 7, 3) := by decide +kernel
theorem dX4_unsigned_4 : decode cX4_unsigned 4 = .ok (.iload_n 1, 1) := by decide +kernel
theorem dX4_unsigned_5 : decode cX4_unsigned 5 = .ok (.iaload, 1) := by decide +kernel
theorem dX4_unsigned_6 : decode cX4_unsigned 6 = .ok (.bipush 64, 2) := by decide +kernel
theorem dX4_unsigned_8 : decode cX4_unsigned 8 = .ok (.if_icmp .ne 7, 3) := by decide +kernel
theorem dX4_unsigned_11 : decode cX4_unsigned 11 = .ok (.lload_n 2, 1) := by decide +kernel
theorem dX4_unsigned_12 : decode cX4_unsigned 12 = .ok (.goto 15, 3) := by decide +kernel
theorem dX4_unsigned_15 : decode cX4_unsigned 15 = .ok (.lload_n 2, 1) := by decide +kernel
theorem dX4_unsigned_16 : decode cX4_unsigned 16 = .ok (.lconst 1, 1) := by decide +kernel
theorem dX4_unsigned_17 : decode cX4_unsigned 17 = .ok (.aload_n 0, 1) := by decide +kernel
theorem dX4_unsigned_18 : decode cX4_unsigned 18 = .ok (.getfield 7, 3) := by decide +kernel
theorem dX4_unsigned_21 : decode cX4_unsigned 21 = .ok (.iload_n 1, 1) := by decide +kernel
theorem dX4_unsigned_22 : decode cX4_unsigned 22 = .ok (.iaload, 1) := by decide +kernel
theorem dX4_unsigned_23 : decode cX4_unsigned 23 = .ok (.lshl, 1) := by decide +kernel
theorem dX4_unsigned_24 : decode cX4_unsigned 24 = .ok (.lconst 1, 1) := by decide +kernel
theorem dX4_unsigned_25 : decode cX4_unsigned 25 = .ok (.lsub, 1) := by decide +kernel
theorem dX4_unsigned_26 : decode cX4_unsigned 26 = .ok (.land, 1) := by decide +kernel
theorem dX4_unsigned_27 : decode cX4_unsigned 27 = .ok (.lreturn, 1) := by decide +kernel
theorem dX4_bring_0 : decode cX4_bring 0 = .ok (.aload_n 0, 1) := by decide +kernel
theorem dX4_bring_1 : decode cX4_bring 1 = .ok (.iload_n 1, 1) := by decide +kernel
theorem dX4_bring_2 : decode cX4_bring 2 = .ok (.lload_n 2, 1) := by decide +kernel
theorem dX4_bring_3 : decode cX4_bring 3 = .ok (.invokevirtual 91, 3) := by decide +kernel
theorem dX4_bring_6 : decode cX4_bring 6 = .ok (.lstore 4, 2) := by decide +kernel
theorem dX4_bring_8 : decode cX4_bring 8 = .ok (.aload_n 0, 1) := by decide +kernel
theorem dX4_bring_9 : decode cX4_bring 9 = .ok (.getfield 13, 3) := by decide +kernel
theorem dX4_bring_12 : decode cX4_bring 12 = .ok (.iload_n 1, 1) := by decide +kernel
theorem dX4_bring_13 : decode cX4_bring 13 = .ok (.baload, 1) := by decide +kernel
theorem dX4_bring_14 : decode cX4_bring 14 = .ok (.ifCond .eq 36, 3) := by decide +kernel
theorem dX4_bring_17 : decode cX4_bring 17 = .ok (.aload_n 0, 1) := by decide +kernel
theorem dX4_bring_18 : decode cX4_bring 18 = .ok (.getfield 7, 3) := by decide +kernel
theorem dX4_bring_21 : decode cX4_bring 21 = .ok (.iload_n 1, 1) := by decide +kernel
theorem dX4_bring_22 : decode cX4_bring 22 = .ok (.iaload, 1) := by decide +kernel
theorem dX4_bring_23 : decode cX4_bring 23 = .ok (.bipush 64, 2) := by decide +kernel
theorem dX4_bring_25 : decode cX4_bring 25 = .ok (.if_icmp .ge 25, 3) := by decide +kernel
theorem dX4_bring_28 : decode cX4_bring 28 = .ok (.lload 4, 2) := by decide +kernel
theorem dX4_bring_30 : decode cX4_bring 30 = .ok (.aload_n 0, 1) := by decide +kernel
theorem dX4_bring_31 : decode cX4_bring 31 = .ok (.getfield 7, 3) := by decide +kernel
theorem dX4_bring_34 : decode cX4_bring 34 = .ok (.iload_n 1, 1) := by decide +kernel
theorem dX4_bring_35 : decode cX4_bring 35 = .ok (.iaload, 1) := by decide +kernel
theorem dX4_bring_36 : decode cX4_bring 36 = .ok (.iconst 1, 1) := by decide +kernel
theorem dX4_bring_37 : decode cX4_bring 37 = .ok (.isub, 1) := by decide +kernel
theorem dX4_bring_38 : decode cX4_bring 38 = .ok (.lshr, 1) := by decide +kernel
theorem dX4_bring_39 : decode cX4_bring 39 = .ok (.lconst 1, 1) := by decide +kernel
theorem dX4_bring_40 : decode cX4_bring 40 = .ok (.land, 1) := by decide +kernel
theorem dX4_bring_41 : decode cX4_bring 41 = .ok (.lconst 1, 1) := by decide +kernel
theorem dX4_bring_42 : decode cX4_bring 42 = .ok (.lcmp, 1) := by decide +kernel
theorem dX4_bring_43 : decode cX4_bring 43 = .ok (.ifCond .ne 7, 3) := by decide +kernel
theorem dX4_bring_46 : decode cX4_bring 46 = .ok (.iconst 1, 1) := by decide +kernel
theorem dX4_bring_47 : decode cX4_bring 47 = .ok (.goto 4, 3) := by decide +kernel
theorem dX4_bring_50 : decode cX4_bring 50 = .ok (.iconst 0, 1) := by decide +kernel
theorem dX4_bring_51 : decode cX4_bring 51 = .ok (.istore 6, 2) := by decide +kernel
theorem dX4_bring_53 : decode cX4_bring 53 = .ok (.iload 6, 2) := by decide +kernel
theorem dX4_bring_55 : decode cX4_bring 55 = .ok (.ifCond .eq 17, 3) := by decide +kernel
theorem dX4_bring_58 : decode cX4_bring 58 = .ok (.lload 4, 2) := by decide +kernel
theorem dX4_bring_60 : decode cX4_bring 60 = .ok (.lconst 1, 1) := by decide +kernel
theorem dX4_bring_61 : decode cX4_bring 61 = .ok (.aload_n 0, 1) := by decide +kernel
theorem dX4_bring_62 : decode cX4_bring 62 = .ok (.getfield 7, 3) := by decide +kernel
theorem dX4_bring_65 : decode cX4_bring 65 = .ok (.iload_n 1, 1) := by decide +kernel
theorem dX4_bring_66 : decode cX4_bring 66 = .ok (.iaload, 1) := by decide +kernel
theorem dX4_bring_67 : decode cX4_bring 67 = .ok (.lshl, 1) := by decide +kernel
theorem dX4_bring_68 : decode cX4_bring 68 = .ok (.lsub, 1) := by decide +kernel
theorem dX4_bring_69 : decode cX4_bring 69 = .ok (.goto 5, 3) := by decide +kernel
theorem dX4_bring_72 : decode cX4_bring 72 = .ok (.lload 4, 2) := by decide +kernel
theorem dX4_bring_74 : decode cX4_bring 74 = .ok (.lreturn, 1) := by decide +kernel
theorem dX4_least_0 : decode cX4_least 0 = .ok (.aload_n 0, 1) := by decide +kernel
theorem dX4_least_1 : decode cX4_least 1 = .ok (.getfield 13, 3) := by decide +kernel
theorem dX4_least_4 : decode cX4_least 4 = .ok (.iload_n 1, 1) := by decide +kernel
theorem dX4_least_5 : decode cX4_least 5 = .ok (.baload, 1) := by decide +kernel
theorem dX4_least_6 : decode cX4_least 6 = .ok (.ifCond .ne 7, 3) := by decide +kernel
theorem dX4_least_9 : decode cX4_least 9 = .ok (.lconst 0, 1) := by decide +kernel
theorem dX4_least_10 : decode cX4_least 10 = .ok (.goto 31, 3) := by decide +kernel
theorem dX4_least_13 : decode cX4_least 13 = .ok (.aload_n 0, 1) := by decide +kernel
theorem dX4_least_14 : decode cX4_least 14 = .ok (.getfield 7, 3) := by decide +kernel
theorem dX4_least_17 : decode cX4_least 17 = .ok (.iload_n 1, 1) := by decide +kernel
theorem dX4_least_18 : decode cX4_least 18 = .ok (.iaload, 1) := by decide +kernel
theorem dX4_least_19 : decode cX4_least 19 = .ok (.bipush 64, 2) := by decide +kernel
theorem dX4_least_21 : decode cX4_least 21 = .ok (.if_icmp .ne 9, 3) := by decide +kernel
theorem dX4_least_24 : decode cX4_least 24 = .ok (.ldc2_w 95, 3) := by decide +kernel
theorem dX4_least_27 : decode cX4_least 27 = .ok (.goto 14, 3) := by decide +kernel
theorem dX4_least_30 : decode cX4_least 30 = .ok (.lconst 1, 1) := by decide +kernel
theorem dX4_least_31 : decode cX4_least 31 = .ok (.aload_n 0, 1) := by decide +kernel
theorem dX4_least_32 : decode cX4_least 32 = .ok (.getfield 7, 3) := by decide +kernel
theorem dX4_least_35 : decode cX4_least 35 = .ok (.iload_n 1, 1) := by decide +kernel
theorem dX4_least_36 : decode cX4_least 36 = .ok (.iaload, 1) := by decide +kernel
theorem dX4_least_37 : decode cX4_least 37 = .ok (.iconst 1, 1) := by decide +kernel
theorem dX4_least_38 : decode cX4_least 38 = .ok (.isub, 1) := by decide +kernel
theorem dX4_least_39 : decode cX4_least 39 = .ok (.lshl, 1) := by decide +kernel
theorem dX4_least_40 : decode cX4_least 40 = .ok (.lneg, 1) := by decide +kernel
theorem dX4_least_41 : decode cX4_least 41 = .ok (.lreturn, 1) := by decide +kernel
theorem dX4_most_0 : decode cX4_most 0 = .ok (.aload_n 0, 1) := by decide +kernel
theorem dX4_most_1 : decode cX4_most 1 = .ok (.getfield 13, 3) := by decide +kernel
theorem dX4_most_4 : decode cX4_most 4 = .ok (.iload_n 1, 1) := by decide +kernel
theorem dX4_most_5 : decode cX4_most 5 = .ok (.baload, 1) := by decide +kernel
theorem dX4_most_6 : decode cX4_most 6 = .ok (.ifCond .ne 16, 3) := by decide +kernel
theorem dX4_most_9 : decode cX4_most 9 = .ok (.lconst 1, 1) := by decide +kernel
theorem dX4_most_10 : decode cX4_most 10 = .ok (.aload_n 0, 1) := by decide +kernel
theorem dX4_most_11 : decode cX4_most 11 = .ok (.getfield 7, 3) := by decide +kernel
theorem dX4_most_14 : decode cX4_most 14 = .ok (.iload_n 1, 1) := by decide +kernel
theorem dX4_most_15 : decode cX4_most 15 = .ok (.iaload, 1) := by decide +kernel
theorem dX4_most_16 : decode cX4_most 16 = .ok (.lshl, 1) := by decide +kernel
theorem dX4_most_17 : decode cX4_most 17 = .ok (.lconst 1, 1) := by decide +kernel
theorem dX4_most_18 : decode cX4_most 18 = .ok (.lsub, 1) := by decide +kernel
theorem dX4_most_19 : decode cX4_most 19 = .ok (.goto 32, 3) := by decide +kernel
theorem dX4_most_22 : decode cX4_most 22 = .ok (.aload_n 0, 1) := by decide +kernel
theorem dX4_most_23 : decode cX4_most 23 = .ok (.getfield 7, 3) := by decide +kernel
theorem dX4_most_26 : decode cX4_most 26 = .ok (.iload_n 1, 1) := by decide +kernel
theorem dX4_most_27 : decode cX4_most 27 = .ok (.iaload, 1) := by decide +kernel
theorem dX4_most_28 : decode cX4_most 28 = .ok (.bipush 64, 2) := by decide +kernel
theorem dX4_most_30 : decode cX4_most 30 = .ok (.if_icmp .ne 9, 3) := by decide +kernel
theorem dX4_most_33 : decode cX4_most 33 = .ok (.ldc2_w 97, 3) := by decide +kernel
theorem dX4_most_36 : decode cX4_most 36 = .ok (.goto 15, 3) := by decide +kernel
theorem dX4_most_39 : decode cX4_most 39 = .ok (.lconst 1, 1) := by decide +kernel
theorem dX4_most_40 : decode cX4_most 40 = .ok (.aload_n 0, 1) := by decide +kernel
theorem dX4_most_41 : decode cX4_most 41 = .ok (.getfield 7, 3) := by decide +kernel
theorem dX4_most_44 : decode cX4_most 44 = .ok (.iload_n 1, 1) := by decide +kernel
theorem dX4_most_45 : decode cX4_most 45 = .ok (.iaload, 1) := by decide +kernel
theorem dX4_most_46 : decode cX4_most 46 = .ok (.iconst 1, 1) := by decide +kernel
theorem dX4_most_47 : decode cX4_most 47 = .ok (.isub, 1) := by decide +kernel
theorem dX4_most_48 : decode cX4_most 48 = .ok (.lshl, 1) := by decide +kernel
theorem dX4_most_49 : decode cX4_most 49 = .ok (.lconst 1, 1) := by decide +kernel
theorem dX4_most_50 : decode cX4_most 50 = .ok (.lsub, 1) := by decide +kernel
theorem dX4_most_51 : decode cX4_most 51 = .ok (.lreturn, 1) := by decide +kernel
theorem dX4_value_0 : decode cX4_value 0 = .ok (.aload_n 0, 1) := by decide +kernel
theorem dX4_value_1 : decode cX4_value 1 = .ok (.bipush 20, 2) := by decide +kernel
theorem dX4_value_3 : decode cX4_value 3 = .ok (.aload_n 0, 1) := by decide +kernel
theorem dX4_value_4 : decode cX4_value 4 = .ok (.iload_n 2, 1) := by decide +kernel
theorem dX4_value_5 : decode cX4_value 5 = .ok (.lload_n 3, 1) := by decide +kernel
theorem dX4_value_6 : decode cX4_value 6 = .ok (.invokevirtual 99, 3) := by decide +kernel
theorem dX4_value_9 : decode cX4_value 9 = .ok (.invokevirtual 64, 3) := by decide +kernel
theorem dX4_value_12 : decode cX4_value 12 = .ok (.aload_n 0, 1) := by decide +kernel
theorem dX4_value_13 : decode cX4_value 13 = .ok (.iload_n 1, 1) := by decide +kernel
theorem dX4_value_14 : decode cX4_value 14 = .ok (.bipush 20, 2) := by decide +kernel
theorem dX4_value_16 : decode cX4_value 16 = .ok (.aload_n 0, 1) := by decide +kernel
theorem dX4_value_17 : decode cX4_value 17 = .ok (.getfield 17, 3) := by decide +kernel
theorem dX4_value_20 : decode cX4_value 20 = .ok (.iload_n 2, 1) := by decide +kernel
theorem dX4_value_21 : decode cX4_value 21 = .ok (.laload, 1) := by decide +kernel
theorem dX4_value_22 : decode cX4_value 22 = .ok (.invokevirtual 102, 3) := by decide +kernel
theorem dX4_value_25 : decode cX4_value 25 = .ok (.aload_n 0, 1) := by decide +kernel
theorem dX4_value_26 : decode cX4_value 26 = .ok (.bipush 20, 2) := by decide +kernel
theorem dX4_value_28 : decode cX4_value 28 = .ok (.aload_n 0, 1) := by decide +kernel
theorem dX4_value_29 : decode cX4_value 29 = .ok (.getfield 24, 3) := by decide +kernel
theorem dX4_value_32 : decode cX4_value 32 = .ok (.iload_n 2, 1) := by decide +kernel
theorem dX4_value_33 : decode cX4_value 33 = .ok (.laload, 1) := by decide +kernel
theorem dX4_value_34 : decode cX4_value 34 = .ok (.invokevirtual 64, 3) := by decide +kernel
theorem dX4_value_37 : decode cX4_value 37 = .ok (.aload_n 0, 1) := by decide +kernel
theorem dX4_value_38 : decode cX4_value 38 = .ok (.iload_n 1, 1) := by decide +kernel
theorem dX4_value_39 : decode cX4_value 39 = .ok (.iconst 1, 1) := by decide +kernel
theorem dX4_value_40 : decode cX4_value 40 = .ok (.iadd, 1) := by decide +kernel
theorem dX4_value_41 : decode cX4_value 41 = .ok (.bipush 20, 2) := by decide +kernel
theorem dX4_value_43 : decode cX4_value 43 = .ok (.aload_n 0, 1) := by decide +kernel
theorem dX4_value_44 : decode cX4_value 44 = .ok (.getfield 21, 3) := by decide +kernel
theorem dX4_value_47 : decode cX4_value 47 = .ok (.iload_n 2, 1) := by decide +kernel
theorem dX4_value_48 : decode cX4_value 48 = .ok (.laload, 1) := by decide +kernel
theorem dX4_value_49 : decode cX4_value 49 = .ok (.invokevirtual 102, 3) := by decide +kernel
theorem dX4_value_52 : decode cX4_value 52 = .ok (.aload_n 0, 1) := by decide +kernel
theorem dX4_value_53 : decode cX4_value 53 = .ok (.iload_n 1, 1) := by decide +kernel
theorem dX4_value_54 : decode cX4_value 54 = .ok (.iload_n 1, 1) := by decide +kernel
theorem dX4_value_55 : decode cX4_value 55 = .ok (.iload_n 1, 1) := by decide +kernel
theorem dX4_value_56 : decode cX4_value 56 = .ok (.iconst 1, 1) := by decide +kernel
theorem dX4_value_57 : decode cX4_value 57 = .ok (.iadd, 1) := by decide +kernel
theorem dX4_value_58 : decode cX4_value 58 = .ok (.iconst 1, 1) := by decide +kernel
theorem dX4_value_59 : decode cX4_value 59 = .ok (.invokevirtual 106, 3) := by decide +kernel
theorem dX4_value_62 : decode cX4_value 62 = .ok (.aload_n 0, 1) := by decide +kernel
