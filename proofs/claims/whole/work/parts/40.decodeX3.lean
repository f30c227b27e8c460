theorem dX3_init_0 : decode cX3_init 0 = .ok (.aload_n 0, 1) := by decide +kernel
theorem dX3_init_1 : decode cX3_init 1 = .ok (.invokespecial 1, 3) := by decide +kernel
theorem dX3_init_4 : decode cX3_init 4 = .ok (.aload_n 0, 1) := by decide +kernel
theorem dX3_init_5 : decode cX3_init 5 = .ok (.bipush 40, 2) := by decide +kernel
theorem dX3_init_7 : decode cX3_init 7 = .ok (.anewarray 9, 3) := by decide +kernel
theorem dX3_init_10 : decode cX3_init 10 = .ok (.putfield 11, 3) := by decide +kernel
theorem dX3_init_13 : decode cX3_init 13 = .ok (.aload_n 0, 1) := by decide +kernel
theorem dX3_init_14 : decode cX3_init 14 = .ok (.iconst 0, 1) := by decide +kernel
theorem dX3_init_15 : decode cX3_init 15 = .ok (.putfield 15, 3) := by decide +kernel
theorem dX3_init_18 : decode cX3_init 18 = .ok (.aload_n 0, 1) := by decide +kernel
theorem dX3_init_19 : decode cX3_init 19 = .ok (.iconst 0, 1) := by decide +kernel
theorem dX3_init_20 : decode cX3_init 20 = .ok (.putfield 19, 3) := by decide +kernel
theorem dX3_init_23 : decode cX3_init 23 = .ok (.aload_n 0, 1) := by decide +kernel
theorem dX3_init_24 : decode cX3_init 24 = .ok (.bipush 40, 2) := by decide +kernel
theorem dX3_init_26 : decode cX3_init 26 = .ok (.newarray .char, 2) := by decide +kernel
theorem dX3_init_28 : decode cX3_init 28 = .ok (.putfield 23, 3) := by decide +kernel
theorem dX3_init_31 : decode cX3_init 31 = .ok (.aload_n 0, 1) := by decide +kernel
theorem dX3_init_32 : decode cX3_init 32 = .ok (.bipush 40, 2) := by decide +kernel
theorem dX3_init_34 : decode cX3_init 34 = .ok (.putfield 27, 3) := by decide +kernel
theorem dX3_init_37 : decode cX3_init 37 = .ok (.aload_n 0, 1) := by decide +kernel
theorem dX3_init_38 : decode cX3_init 38 = .ok (.new 30, 3) := by decide +kernel
theorem dX3_init_41 : decode cX3_init 41 = .ok (.dup, 1) := by decide +kernel
theorem dX3_init_42 : decode cX3_init 42 = .ok (.invokespecial 32, 3) := by decide +kernel
theorem dX3_init_45 : decode cX3_init 45 = .ok (.putfield 33, 3) := by decide +kernel
theorem dX3_init_48 : decode cX3_init 48 = .ok (.aload_n 0, 1) := by decide +kernel
theorem dX3_init_49 : decode cX3_init 49 = .ok (.new 30, 3) := by decide +kernel
theorem dX3_init_52 : decode cX3_init 52 = .ok (.dup, 1) := by decide +kernel
theorem dX3_init_53 : decode cX3_init 53 = .ok (.invokespecial 32, 3) := by decide +kernel
theorem dX3_init_56 : decode cX3_init 56 = .ok (.putfield 37, 3) := by decide +kernel
theorem dX3_init_59 : decode cX3_init 59 = .ok (.aload_n 0, 1) := by decide +kernel
theorem dX3_init_60 : decode cX3_init 60 = .ok (.new 40, 3) := by decide +kernel
theorem dX3_init_63 : decode cX3_init 63 = .ok (.dup, 1) := by decide +kernel
theorem dX3_init_64 : decode cX3_init 64 = .ok (.invokespecial 42, 3) := by decide +kernel
theorem dX3_init_67 : decode cX3_init 67 = .ok (.putfield 43, 3) := by decide +kernel
theorem dX3_init_70 : decode cX3_init 70 = .ok (.return_, 1) := by decide +kernel
theorem dX3_kind_0 : decode cX3_kind 0 = .ok (.iload_n 1, 1) := by decide +kernel
theorem dX3_kind_1 : decode cX3_kind 1 = .ok (.iload_n 2, 1) := by decide +kernel
theorem dX3_kind_2 : decode cX3_kind 2 = .ok (.invokestatic 47, 3) := by decide +kernel
theorem dX3_kind_5 : decode cX3_kind 5 = .ok (.ifCond .eq 20, 3) := by decide +kernel
theorem dX3_kind_8 : decode cX3_kind 8 = .ok (.lload_n 3, 1) := by decide +kernel
theorem dX3_kind_9 : decode cX3_kind 9 = .ok (.lload 5, 2) := by decide +kernel
theorem dX3_kind_11 : decode cX3_kind 11 = .ok (.invokestatic 51, 3) := by decide +kernel
theorem dX3_kind_14 : decode cX3_kind 14 = .ok (.ifCond .eq 11, 3) := by decide +kernel
theorem dX3_kind_17 : decode cX3_kind 17 = .ok (.lload 7, 2) := by decide +kernel
theorem dX3_kind_19 : decode cX3_kind 19 = .ok (.invokestatic 55, 3) := by decide +kernel
theorem dX3_kind_22 : decode cX3_kind 22 = .ok (.ifCond .ne 6, 3) := by decide +kernel
theorem dX3_kind_25 : decode cX3_kind 25 = .ok (.bipush (-2), 2) := by decide +kernel
theorem dX3_kind_27 : decode cX3_kind 27 = .ok (.ireturn, 1) := by decide +kernel
theorem dX3_kind_28 : decode cX3_kind 28 = .ok (.aload_n 0, 1) := by decide +kernel
theorem dX3_kind_29 : decode cX3_kind 29 = .ok (.getfield 15, 3) := by decide +kernel
theorem dX3_kind_32 : decode cX3_kind 32 = .ok (.ifCond .lt 12, 3) := by decide +kernel
theorem dX3_kind_35 : decode cX3_kind 35 = .ok (.aload_n 0, 1) := by decide +kernel
theorem dX3_kind_36 : decode cX3_kind 36 = .ok (.getfield 15, 3) := by decide +kernel
theorem dX3_kind_39 : decode cX3_kind 39 = .ok (.bipush 40, 2) := by decide +kernel
theorem dX3_kind_41 : decode cX3_kind 41 = .ok (.if_icmp .lt 6, 3) := by decide +kernel
theorem dX3_kind_44 : decode cX3_kind 44 = .ok (.bipush (-4), 2) := by decide +kernel
theorem dX3_kind_46 : decode cX3_kind 46 = .ok (.ireturn, 1) := by decide +kernel
theorem dX3_kind_47 : decode cX3_kind 47 = .ok (.lload_n 3, 1) := by decide +kernel
theorem dX3_kind_48 : decode cX3_kind 48 = .ok (.lconst 0, 1) := by decide +kernel
theorem dX3_kind_49 : decode cX3_kind 49 = .ok (.lcmp, 1) := by decide +kernel
theorem dX3_kind_50 : decode cX3_kind 50 = .ok (.ifCond .ne 5, 3) := by decide +kernel
theorem dX3_kind_53 : decode cX3_kind 53 = .ok (.iconst 0, 1) := by decide +kernel
theorem dX3_kind_54 : decode cX3_kind 54 = .ok (.ireturn, 1) := by decide +kernel
theorem dX3_kind_55 : decode cX3_kind 55 = .ok (.aload_n 0, 1) := by decide +kernel
theorem dX3_kind_56 : decode cX3_kind 56 = .ok (.getfield 11, 3) := by decide +kernel
theorem dX3_kind_59 : decode cX3_kind 59 = .ok (.aload_n 0, 1) := by decide +kernel
theorem dX3_kind_60 : decode cX3_kind 60 = .ok (.getfield 15, 3) := by decide +kernel
theorem dX3_kind_63 : decode cX3_kind 63 = .ok (.new 9, 3) := by decide +kernel
theorem dX3_kind_66 : decode cX3_kind 66 = .ok (.dup, 1) := by decide +kernel
theorem dX3_kind_67 : decode cX3_kind 67 = .ok (.iload_n 1, 1) := by decide +kernel
theorem dX3_kind_68 : decode cX3_kind 68 = .ok (.iload_n 2, 1) := by decide +kernel
theorem dX3_kind_69 : decode cX3_kind 69 = .ok (.lload_n 3, 1) := by decide +kernel
theorem dX3_kind_70 : decode cX3_kind 70 = .ok (.lload 5, 2) := by decide +kernel
theorem dX3_kind_72 : decode cX3_kind 72 = .ok (.lload 7, 2) := by decide +kernel
theorem dX3_kind_74 : decode cX3_kind 74 = .ok (.invokespecial 59, 3) := by decide +kernel
theorem dX3_kind_77 : decode cX3_kind 77 = .ok (.aastore, 1) := by decide +kernel
theorem dX3_kind_78 : decode cX3_kind 78 = .ok (.aload_n 0, 1) := by decide +kernel
theorem dX3_kind_79 : decode cX3_kind 79 = .ok (.dup, 1) := by decide +kernel
theorem dX3_kind_80 : decode cX3_kind 80 = .ok (.getfield 15, 3) := by decide +kernel
theorem dX3_kind_83 : decode cX3_kind 83 = .ok (.iconst 1, 1) := by decide +kernel
theorem dX3_kind_84 : decode cX3_kind 84 = .ok (.iadd, 1) := by decide +kernel
theorem dX3_kind_85 : decode cX3_kind 85 = .ok (.putfield 15, 3) := by decide +kernel
theorem dX3_kind_88 : decode cX3_kind 88 = .ok (.aload_n 0, 1) := by decide +kernel
theorem dX3_kind_89 : decode cX3_kind 89 = .ok (.getfield 15, 3) := by decide +kernel
theorem dX3_kind_92 : decode cX3_kind 92 = .ok (.ireturn, 1) := by decide +kernel
theorem dX3_rule_0 : decode cX3_rule 0 = .ok (.aload_n 0, 1) := by decide +kernel
theorem dX3_rule_1 : decode cX3_rule 1 = .ok (.iload_n 1, 1) := by decide +kernel
theorem dX3_rule_2 : decode cX3_rule 2 = .ok (.invokevirtual 62, 3) := by decide +kernel
theorem dX3_rule_5 : decode cX3_rule 5 = .ok (.astore 4, 2) := by decide +kernel
theorem dX3_rule_7 : decode cX3_rule 7 = .ok (.aload 4, 2) := by decide +kernel
theorem dX3_rule_9 : decode cX3_rule 9 = .ok (.ifnonnull 5, 3) := by decide +kernel
theorem dX3_rule_12 : decode cX3_rule 12 = .ok (.iconst (-1), 1) := by decide +kernel
theorem dX3_rule_13 : decode cX3_rule 13 = .ok (.ireturn, 1) := by decide +kernel
theorem dX3_rule_14 : decode cX3_rule 14 = .ok (.iload_n 2, 1) := by decide +kernel
theorem dX3_rule_15 : decode cX3_rule 15 = .ok (.ifCond .lt 17, 3) := by decide +kernel
theorem dX3_rule_18 : decode cX3_rule 18 = .ok (.iload_n 2, 1) := by decide +kernel
theorem dX3_rule_19 : decode cX3_rule 19 = .ok (.iconst 2, 1) := by decide +kernel
theorem dX3_rule_20 : decode cX3_rule 20 = .ok (.if_icmp .gt 12, 3) := by decide +kernel
theorem dX3_rule_23 : decode cX3_rule 23 = .ok (.iload_n 3, 1) := by decide +kernel
theorem dX3_rule_24 : decode cX3_rule 24 = .ok (.ifCond .lt 8, 3) := by decide +kernel
theorem dX3_rule_27 : decode cX3_rule 27 = .ok (.iload_n 3, 1) := by decide +kernel
theorem dX3_rule_28 : decode cX3_rule 28 = .ok (.iconst 3, 1) := by decide +kernel
theorem dX3_rule_29 : decode cX3_rule 29 = .ok (.if_icmp .le 6, 3) := by decide +kernel
theorem dX3_rule_32 : decode cX3_rule 32 = .ok (.bipush (-2), 2) := by decide +kernel
theorem dX3_rule_34 : decode cX3_rule 34 = .ok (.ireturn, 1) := by decide +kernel
theorem dX3_rule_35 : decode cX3_rule 35 = .ok (.aload 4, 2) := by decide +kernel
theorem dX3_rule_37 : decode cX3_rule 37 = .ok (.iload_n 2, 1) := by decide +kernel
theorem dX3_rule_38 : decode cX3_rule 38 = .ok (.putfield 66, 3) := by decide +kernel
theorem dX3_rule_41 : decode cX3_rule 41 = .ok (.aload 4, 2) := by decide +kernel
theorem dX3_rule_43 : decode cX3_rule 43 = .ok (.iload_n 3, 1) := by decide +kernel
theorem dX3_rule_44 : decode cX3_rule 44 = .ok (.putfield 69, 3) := by decide +kernel
theorem dX3_rule_47 : decode cX3_rule 47 = .ok (.iconst 1, 1) := by decide +kernel
theorem dX3_rule_48 : decode cX3_rule 48 = .ok (.ireturn, 1) := by decide +kernel
theorem dX3_apply_0 : decode cX3_apply 0 = .ok (.aload_n 0, 1) := by decide +kernel
theorem dX3_apply_1 : decode cX3_apply 1 = .ok (.iload_n 2, 1) := by decide +kernel
theorem dX3_apply_2 : decode cX3_apply 2 = .ok (.invokevirtual 62, 3) := by decide +kernel
theorem dX3_apply_5 : decode cX3_apply 5 = .ok (.astore 8, 2) := by decide +kernel
theorem dX3_apply_7 : decode cX3_apply 7 = .ok (.aload_n 0, 1) := by decide +kernel
theorem dX3_apply_8 : decode cX3_apply 8 = .ok (.iload 5, 2) := by decide +kernel
theorem dX3_apply_10 : decode cX3_apply 10 = .ok (.invokevirtual 62, 3) := by decide +kernel
theorem dX3_apply_13 : decode cX3_apply 13 = .ok (.astore 9, 2) := by decide +kernel
theorem dX3_apply_15 : decode cX3_apply 15 = .ok (.aload 8, 2) := by decide +kernel
theorem dX3_apply_17 : decode cX3_apply 17 = .ok (.ifnull 17, 3) := by decide +kernel
theorem dX3_apply_20 : decode cX3_apply 20 = .ok (.aload 9, 2) := by decide +kernel
theorem dX3_apply_22 : decode cX3_apply 22 = .ok (.ifnull 12, 3) := by decide +kernel
theorem dX3_apply_25 : decode cX3_apply 25 = .ok (.iload_n 1, 1) := by decide +kernel
theorem dX3_apply_26 : decode cX3_apply 26 = .ok (.ifCond .lt 8, 3) := by decide +kernel
theorem dX3_apply_29 : decode cX3_apply 29 = .ok (.iload_n 1, 1) := by decide +kernel
theorem dX3_apply_30 : decode cX3_apply 30 = .ok (.iconst 3, 1) := by decide +kernel
theorem dX3_apply_31 : decode cX3_apply 31 = .ok (.if_icmp .le 5, 3) := by decide +kernel
theorem dX3_apply_34 : decode cX3_apply 34 = .ok (.lconst 0, 1) := by decide +kernel
theorem dX3_apply_35 : decode cX3_apply 35 = .ok (.lreturn, 1) := by decide +kernel
theorem dX3_apply_36 : decode cX3_apply 36 = .ok (.aload_n 0, 1) := by decide +kernel
theorem dX3_apply_37 : decode cX3_apply 37 = .ok (.getfield 33, 3) := by decide +kernel
theorem dX3_apply_40 : decode cX3_apply 40 = .ok (.aload 8, 2) := by decide +kernel
theorem dX3_apply_42 : decode cX3_apply 42 = .ok (.lload_n 3, 1) := by decide +kernel
theorem dX3_apply_43 : decode cX3_apply 43 = .ok (.invokevirtual 72, 3) := by decide +kernel
theorem dX3_apply_46 : decode cX3_apply 46 = .ok (.aload_n 0, 1) := by decide +kernel
theorem dX3_apply_47 : decode cX3_apply 47 = .ok (.getfield 37, 3) := by decide +kernel
theorem dX3_apply_50 : decode cX3_apply 50 = .ok (.aload 9, 2) := by decide +kernel
theorem dX3_apply_52 : decode cX3_apply 52 = .ok (.lload 6, 2) := by decide +kernel
theorem dX3_apply_54 : decode cX3_apply 54 = .ok (.invokevirtual 72, 3) := by decide +kernel
theorem dX3_apply_57 : decode cX3_apply 57 = .ok (.iload_n 1, 1) := by decide +kernel
theorem dX3_apply_58 : decode cX3_apply 58 = .ok (.iconst 3, 1) := by decide +kernel
theorem dX3_apply_59 : decode cX3_apply 59 = .ok (.if_icmp .ne 38, 3) := by decide +kernel
theorem dX3_apply_62 : decode cX3_apply 62 = .ok (.aload_n 0, 1) := by decide +kernel
theorem dX3_apply_63 : decode cX3_apply 63 = .ok (.getfield 37, 3) := by decide +kernel
theorem dX3_apply_66 : decode cX3_apply 66 = .ok (.invokevirtual 76, 3) := by decide +kernel
theorem dX3_apply_69 : decode cX3_apply 69 = .ok (.ifCond .ne 28, 3) := by decide +kernel
theorem dX3_apply_72 : decode cX3_apply 72 = .ok (.aload 8, 2) := by decide +kernel
theorem dX3_apply_74 : decode cX3_apply 74 = .ok (.getfield 66, 3) := by decide +kernel
theorem dX3_apply_77 : decode cX3_apply 77 = .ok (.ifCond .eq 13, 3) := by decide +kernel
theorem dX3_apply_80 : decode cX3_apply 80 = .ok (.new 80, 3) := by decide +kernel
theorem dX3_apply_83 : decode cX3_apply 83 = .ok (.dup, 1) := by decide +kernel
theorem dX3_apply_84 : decode cX3_apply 84 = .ok (.ldc 82, 2) := by decide +kernel
theorem dX3_apply_86 : decode cX3_apply 86 = .ok (.invokespecial 84, 3) := by decide +kernel
theorem dX3_apply_89 : decode cX3_apply 89 = .ok (.athrow, 1) := by decide +kernel
theorem dX3_apply_90 : decode cX3_apply 90 = .ok (.aload_n 0, 1) := by decide +kernel
theorem dX3_apply_91 : decode cX3_apply 91 = .ok (.aload 8, 2) := by decide +kernel
theorem dX3_apply_93 : decode cX3_apply 93 = .ok (.invokevirtual 87, 3) := by decide +kernel
theorem dX3_apply_96 : decode cX3_apply 96 = .ok (.lreturn, 1) := by decide +kernel
theorem dX3_apply_97 : decode cX3_apply 97 = .ok (.aload_n 0, 1) := by decide +kernel
theorem dX3_apply_98 : decode cX3_apply 98 = .ok (.iload_n 1, 1) := by decide +kernel
theorem dX3_apply_99 : decode cX3_apply 99 = .ok (.invokevirtual 91, 3) := by decide +kernel
theorem dX3_apply_102 : decode cX3_apply 102 = .ok (.aload_n 0, 1) := by decide +kernel
theorem dX3_apply_103 : decode cX3_apply 103 = .ok (.aload 8, 2) := by decide +kernel
theorem dX3_apply_105 : decode cX3_apply 105 = .ok (.invokevirtual 95, 3) := by decide +kernel
theorem dX3_apply_108 : decode cX3_apply 108 = .ok (.lreturn, 1) := by decide +kernel
theorem dX3_convert_0 : decode cX3_convert 0 = .ok (.aload_n 0, 1) := by decide +kernel
theorem dX3_convert_1 : decode cX3_convert 1 = .ok (.iload_n 1, 1) := by decide +kernel
theorem dX3_convert_2 : decode cX3_convert 2 = .ok (.invokevirtual 62, 3) := by decide +kernel
theorem dX3_convert_5 : decode cX3_convert 5 = .ok (.astore 5, 2) := by decide +kernel
theorem dX3_convert_7 : decode cX3_convert 7 = .ok (.aload_n 0, 1) := by decide +kernel
theorem dX3_convert_8 : decode cX3_convert 8 = .ok (.iload 4, 2) := by decide +kernel
theorem dX3_convert_10 : decode cX3_convert 10 = .ok (.invokevirtual 62, 3) := by decide +kernel
theorem dX3_convert_13 : decode cX3_convert 13 = .ok (.astore 6, 2) := by decide +kernel
theorem dX3_convert_15 : decode cX3_convert 15 = .ok (.aload 5, 2) := by decide +kernel
theorem dX3_convert_17 : decode cX3_convert 17 = .ok (.ifnull 8, 3) := by decide +kernel
theorem dX3_convert_20 : decode cX3_convert 20 = .ok (.aload 6, 2) := by decide +kernel
theorem dX3_convert_22 : decode cX3_convert 22 = .ok (.ifnonnull 5, 3) := by decide +kernel
theorem dX3_convert_25 : decode cX3_convert 25 = .ok (.lconst 0, 1) := by decide +kernel
theorem dX3_convert_26 : decode cX3_convert 26 = .ok (.lreturn, 1) := by decide +kernel
theorem dX3_convert_27 : decode cX3_convert 27 = .ok (.aload_n 0, 1) := by decide +kernel
theorem dX3_convert_28 : decode cX3_convert 28 = .ok (.getfield 33, 3) := by decide +kernel
theorem dX3_convert_31 : decode cX3_convert 31 = .ok (.aload 5, 2) := by decide +kernel
theorem dX3_convert_33 : decode cX3_convert 33 = .ok (.lload_n 2, 1) := by decide +kernel
theorem dX3_convert_34 : decode cX3_convert 34 = .ok (.invokevirtual 72, 3) := by decide +kernel
theorem dX3_convert_37 : decode cX3_convert 37 = .ok (.aload_n 0, 1) := by decide +kernel
theorem dX3_convert_38 : decode cX3_convert 38 = .ok (.aload 6, 2) := by decide +kernel
theorem dX3_convert_40 : decode cX3_convert 40 = .ok (.invokevirtual 95, 3) := by decide +kernel
theorem dX3_convert_43 : decode cX3_convert 43 = .ok (.lreturn, 1) := by decide +kernel
theorem dX3_lost_0 : decode cX3_lost 0 = .ok (.aload_n 0, 1) := by decide +kernel
theorem dX3_lost_1 : decode cX3_lost 1 = .ok (.getfield 19, 3) := by decide +kernel
theorem dX3_lost_4 : decode cX3_lost 4 = .ok (.ireturn, 1) := by decide +kernel
theorem dX3_physical_0 : decode cX3_physical 0 = .ok (.aload_n 0, 1) := by decide +kernel
theorem dX3_physical_1 : decode cX3_physical 1 = .ok (.iload_n 1, 1) := by decide +kernel
theorem dX3_physical_2 : decode cX3_physical 2 = .ok (.invokevirtual 62, 3) := by decide +kernel
theorem dX3_physical_5 : decode cX3_physical 5 = .ok (.astore 5, 2) := by decide +kernel
theorem dX3_physical_7 : decode cX3_physical 7 = .ok (.aload 5, 2) := by decide +kernel
theorem dX3_physical_9 : decode cX3_physical 9 = .ok (.ifnull 14, 3) := by decide +kernel
theorem dX3_physical_12 : decode cX3_physical 12 = .ok (.iload 4, 2) := by decide +kernel
theorem dX3_physical_14 : decode cX3_physical 14 = .ok (.ifCond .lt 9, 3) := by decide +kernel
theorem dX3_physical_17 : decode cX3_physical 17 = .ok (.iload 4, 2) := by decide +kernel
theorem dX3_physical_19 : decode cX3_physical 19 = .ok (.iconst 3, 1) := by decide +kernel
theorem dX3_physical_20 : decode cX3_physical 20 = .ok (.if_icmp .le 5, 3) := by decide +kernel
theorem dX3_physical_23 : decode cX3_physical 23 = .ok (.lconst 0, 1) := by decide +kernel
theorem dX3_physical_24 : decode cX3_physical 24 = .ok (.lreturn, 1) := by decide +kernel
theorem dX3_physical_25 : decode cX3_physical 25 = .ok (.aload_n 0, 1) := by decide +kernel
theorem dX3_physical_26 : decode cX3_physical 26 = .ok (.getfield 33, 3) := by decide +kernel
theorem dX3_physical_29 : decode cX3_physical 29 = .ok (.aload 5, 2) := by decide +kernel
theorem dX3_physical_31 : decode cX3_physical 31 = .ok (.lload_n 2, 1) := by decide +kernel
theorem dX3_physical_32 : decode cX3_physical 32 = .ok (.invokevirtual 72, 3) := by decide +kernel
theorem dX3_physical_35 : decode cX3_physical 35 = .ok (.aload_n 0, 1) := by decide +kernel
theorem dX3_physical_36 : decode cX3_physical 36 = .ok (.getfield 33, 3) := by decide +kernel
theorem dX3_physical_39 : decode cX3_physical 39 = .ok (.aload_n 0, 1) := by decide +kernel
theorem dX3_physical_40 : decode cX3_physical 40 = .ok (.getfield 37, 3) := by decide +kernel
theorem dX3_physical_43 : decode cX3_physical 43 = .ok (.getfield 98, 3) := by decide +kernel
theorem dX3_physical_46 : decode cX3_physical 46 = .ok (.invokevirtual 101, 3) := by decide +kernel
theorem dX3_physical_49 : decode cX3_physical 49 = .ok (.iload 4, 2) := by decide +kernel
theorem dX3_physical_51 : decode cX3_physical 51 = .ok (.tableswitch 69 0 2 #[25, 37, 53], 25) := by decide +kernel
theorem dX3_physical_76 : decode cX3_physical 76 = .ok (.aload_n 0, 1) := by decide +kernel
theorem dX3_physical_77 : decode cX3_physical 77 = .ok (.getfield 33, 3) := by decide +kernel
theorem dX3_physical_80 : decode cX3_physical 80 = .ok (.getfield 105, 3) := by decide +kernel
theorem dX3_physical_83 : decode cX3_physical 83 = .ok (.iconst 0, 1) := by decide +kernel
theorem dX3_physical_84 : decode cX3_physical 84 = .ok (.invokevirtual 108, 3) := by decide +kernel
theorem dX3_physical_87 : decode cX3_physical 87 = .ok (.lreturn, 1) := by decide +kernel
theorem dX3_physical_88 : decode cX3_physical 88 = .ok (.aload_n 0, 1) := by decide +kernel
theorem dX3_physical_89 : decode cX3_physical 89 = .ok (.getfield 33, 3) := by decide +kernel
theorem dX3_physical_92 : decode cX3_physical 92 = .ok (.getfield 98, 3) := by decide +kernel
theorem dX3_physical_95 : decode cX3_physical 95 = .ok (.iconst 0, 1) := by decide +kernel
theorem dX3_physical_96 : decode cX3_physical 96 = .ok (.invokevirtual 108, 3) := by decide +kernel
theorem dX3_physical_99 : decode cX3_physical 99 = .ok (.ldc2_w 112, 3) := by decide +kernel
theorem dX3_physical_102 : decode cX3_physical 102 = .ok (.land, 1) := by decide +kernel
theorem dX3_physical_103 : decode cX3_physical 103 = .ok (.lreturn, 1) := by decide +kernel
theorem dX3_physical_104 : decode cX3_physical 104 = .ok (.aload_n 0, 1) := by decide +kernel
theorem dX3_physical_105 : decode cX3_physical 105 = .ok (.getfield 33, 3) := by decide +kernel
theorem dX3_physical_108 : decode cX3_physical 108 = .ok (.getfield 98, 3) := by decide +kernel
theorem dX3_physical_111 : decode cX3_physical 111 = .ok (.iconst 2, 1) := by decide +kernel
theorem dX3_physical_112 : decode cX3_physical 112 = .ok (.invokevirtual 108, 3) := by decide +kernel
theorem dX3_physical_115 : decode cX3_physical 115 = .ok (.ldc2_w 112, 3) := by decide +kernel
theorem dX3_physical_118 : decode cX3_physical 118 = .ok (.land, 1) := by decide +kernel
theorem dX3_physical_119 : decode cX3_physical 119 = .ok (.lreturn, 1) := by decide +kernel
theorem dX3_physical_120 : decode cX3_physical 120 = .ok (.aload_n 0, 1) := by decide +kernel
theorem dX3_physical_121 : decode cX3_physical 121 = .ok (.getfield 33, 3) := by decide +kernel
theorem dX3_physical_124 : decode cX3_physical 124 = .ok (.getfield 98, 3) := by decide +kernel
theorem dX3_physical_127 : decode cX3_physical 127 = .ok (.iconst 4, 1) := by decide +kernel
theorem dX3_physical_128 : decode cX3_physical 128 = .ok (.invokevirtual 108, 3) := by decide +kernel
theorem dX3_physical_131 : decode cX3_physical 131 = .ok (.lreturn, 1) := by decide +kernel
theorem dX3_text_0 : decode cX3_text 0 = .ok (.aload_n 0, 1) := by decide +kernel
theorem dX3_text_1 : decode cX3_text 1 = .ok (.iload_n 1, 1) := by decide +kernel
theorem dX3_text_2 : decode cX3_text 2 = .ok (.invokevirtual 62, 3) := by decide +kernel
theorem dX3_text_5 : decode cX3_text 5 = .ok (.astore 4, 2) := by decide +kernel
theorem dX3_text_7 : decode cX3_text 7 = .ok (.aload 4, 2) := by decide +kernel
theorem dX3_text_9 : decode cX3_text 9 = .ok (.ifnonnull 5, 3) := by decide +kernel
theorem dX3_text_12 : decode cX3_text 12 = .ok (.iconst (-1), 1) := by decide +kernel
theorem dX3_text_13 : decode cX3_text 13 = .ok (.ireturn, 1) := by decide +kernel
theorem dX3_text_14 : decode cX3_text 14 = .ok (.aload_n 0, 1) := by decide +kernel
theorem dX3_text_15 : decode cX3_text 15 = .ok (.getfield 33, 3) := by decide +kernel
theorem dX3_text_18 : decode cX3_text 18 = .ok (.aload 4, 2) := by decide +kernel
theorem dX3_text_20 : decode cX3_text 20 = .ok (.lload_n 2, 1) := by decide +kernel
theorem dX3_text_21 : decode cX3_text 21 = .ok (.invokevirtual 72, 3) := by decide +kernel
theorem dX3_text_24 : decode cX3_text 24 = .ok (.aload_n 0, 1) := by decide +kernel
theorem dX3_text_25 : decode cX3_text 25 = .ok (.getfield 33, 3) := by decide +kernel
theorem dX3_text_28 : decode cX3_text 28 = .ok (.getfield 98, 3) := by decide +kernel
theorem dX3_text_31 : decode cX3_text 31 = .ok (.invokevirtual 114, 3) := by decide +kernel
theorem dX3_text_34 : decode cX3_text 34 = .ok (.istore 5, 2) := by decide +kernel
theorem dX3_text_36 : decode cX3_text 36 = .ok (.aload_n 0, 1) := by decide +kernel
theorem dX3_text_37 : decode cX3_text 37 = .ok (.getfield 33, 3) := by decide +kernel
theorem dX3_text_40 : decode cX3_text 40 = .ok (.invokevirtual 118, 3) := by decide +kernel
theorem dX3_text_43 : decode cX3_text 43 = .ok (.astore 6, 2) := by decide +kernel
theorem dX3_text_45 : decode cX3_text 45 = .ok (.iload 5, 2) := by decide +kernel
theorem dX3_text_47 : decode cX3_text 47 = .ok (.ifCond .eq 15, 3) := by decide +kernel
theorem dX3_text_50 : decode cX3_text 50 = .ok (.aload 6, 2) := by decide +kernel
theorem dX3_text_52 : decode cX3_text 52 = .ok (.invokevirtual 122, 3) := by decide +kernel
theorem dX3_text_55 : decode cX3_text 55 = .ok (.ifCond .ne 7, 3) := by decide +kernel
theorem dX3_text_58 : decode cX3_text 58 = .ok (.iconst 1, 1) := by decide +kernel
theorem dX3_text_59 : decode cX3_text 59 = .ok (.goto 4, 3) := by decide +kernel
theorem dX3_text_62 : decode cX3_text 62 = .ok (.iconst 0, 1) := by decide +kernel
theorem dX3_text_63 : decode cX3_text 63 = .ok (.istore 7, 2) := by decide +kernel
theorem dX3_text_65 : decode cX3_text 65 = .ok (.aload_n 0, 1) := by decide +kernel
theorem dX3_text_66 : decode cX3_text 66 = .ok (.bipush 40, 2) := by decide +kernel
theorem dX3_text_68 : decode cX3_text 68 = .ok (.putfield 27, 3) := by decide +kernel
theorem dX3_text_71 : decode cX3_text 71 = .ok (.aload_n 0, 1) := by decide +kernel
theorem dX3_text_72 : decode cX3_text 72 = .ok (.aload 6, 2) := by decide +kernel
theorem dX3_text_74 : decode cX3_text 74 = .ok (.invokevirtual 125, 3) := by decide +kernel
theorem dX3_text_77 : decode cX3_text 77 = .ok (.aload_n 0, 1) := by decide +kernel
theorem dX3_text_78 : decode cX3_text 78 = .ok (.aload 6, 2) := by decide +kernel
theorem dX3_text_80 : decode cX3_text 80 = .ok (.invokevirtual 128, 3) := by decide +kernel
theorem dX3_text_83 : decode cX3_text 83 = .ok (.iload 7, 2) := by decide +kernel
theorem dX3_text_85 : decode cX3_text 85 = .ok (.ifCond .eq 9, 3) := by decide +kernel
theorem dX3_text_88 : decode cX3_text 88 = .ok (.aload_n 0, 1) := by decide +kernel
theorem dX3_text_89 : decode cX3_text 89 = .ok (.bipush 45, 2) := by decide +kernel
theorem dX3_text_91 : decode cX3_text 91 = .ok (.invokevirtual 131, 3) := by decide +kernel
theorem dX3_text_94 : decode cX3_text 94 = .ok (.bipush 40, 2) := by decide +kernel
theorem dX3_text_96 : decode cX3_text 96 = .ok (.aload_n 0, 1) := by decide +kernel
theorem dX3_text_97 : decode cX3_text 97 = .ok (.getfield 27, 3) := by decide +kernel
theorem dX3_text_100 : decode cX3_text 100 = .ok (.isub, 1) := by decide +kernel
theorem dX3_text_101 : decode cX3_text 101 = .ok (.ireturn, 1) := by decide +kernel
theorem dX3_at_0 : decode cX3_at 0 = .ok (.iload_n 1, 1) := by decide +kernel
theorem dX3_at_1 : decode cX3_at 1 = .ok (.ifCond .lt 21, 3) := by decide +kernel
theorem dX3_at_4 : decode cX3_at 4 = .ok (.aload_n 0, 1) := by decide +kernel
theorem dX3_at_5 : decode cX3_at 5 = .ok (.getfield 27, 3) := by decide +kernel
theorem dX3_at_8 : decode cX3_at 8 = .ok (.ifCond .lt 14, 3) := by decide +kernel
theorem dX3_at_11 : decode cX3_at 11 = .ok (.iload_n 1, 1) := by decide +kernel
theorem dX3_at_12 : decode cX3_at 12 = .ok (.bipush 40, 2) := by decide +kernel
theorem dX3_at_14 : decode cX3_at 14 = .ok (.aload_n 0, 1) := by decide +kernel
theorem dX3_at_15 : decode cX3_at 15 = .ok (.getfield 27, 3) := by decide +kernel
theorem dX3_at_18 : decode cX3_at 18 = .ok (.isub, 1) := by decide +kernel
theorem dX3_at_19 : decode cX3_at 19 = .ok (.if_icmp .lt 13, 3) := by decide +kernel
theorem dX3_at_22 : decode cX3_at 22 = .ok (.new 135, 3) := by decide +kernel
theorem dX3_at_25 : decode cX3_at 25 = .ok (.dup, 1) := by decide +kernel
theorem dX3_at_26 : decode cX3_at 26 = .ok (.ldc 137, 2) := by decide +kernel
theorem dX3_at_28 : decode cX3_at 28 = .ok (.invokespecial 139, 3) := by decide +kernel
theorem dX3_at_31 : decode cX3_at 31 = .ok (.athrow, 1) := by decide +kernel
theorem dX3_at_32 : decode cX3_at 32 = .ok (.aload_n 0, 1) := by decide +kernel
theorem dX3_at_33 : decode cX3_at 33 = .ok (.getfield 23, 3) := by decide +kernel
theorem dX3_at_36 : decode cX3_at 36 = .ok (.aload_n 0, 1) := by decide +kernel
theorem dX3_at_37 : decode cX3_at 37 = .ok (.getfield 27, 3) := by decide +kernel
theorem dX3_at_40 : decode cX3_at 40 = .ok (.iload_n 1, 1) := by decide +kernel
theorem dX3_at_41 : decode cX3_at 41 = .ok (.iadd, 1) := by decide +kernel
theorem dX3_at_42 : decode cX3_at 42 = .ok (.caload, 1) := by decide +kernel
theorem dX3_at_43 : decode cX3_at 43 = .ok (.ireturn, 1) := by decide +kernel
theorem dX3_bound_0 : decode cX3_bound 0 = .ok (.aload_n 0, 1) := by decide +kernel
theorem dX3_bound_1 : decode cX3_bound 1 = .ok (.iload_n 1, 1) := by decide +kernel
theorem dX3_bound_2 : decode cX3_bound 2 = .ok (.invokevirtual 62, 3) := by decide +kernel
theorem dX3_bound_5 : decode cX3_bound 5 = .ok (.astore_n 3, 1) := by decide +kernel
theorem dX3_bound_6 : decode cX3_bound 6 = .ok (.aload_n 3, 1) := by decide +kernel
theorem dX3_bound_7 : decode cX3_bound 7 = .ok (.ifnonnull 5, 3) := by decide +kernel
theorem dX3_bound_10 : decode cX3_bound 10 = .ok (.lconst 0, 1) := by decide +kernel
theorem dX3_bound_11 : decode cX3_bound 11 = .ok (.lreturn, 1) := by decide +kernel
theorem dX3_bound_12 : decode cX3_bound 12 = .ok (.iload_n 2, 1) := by decide +kernel
theorem dX3_bound_13 : decode cX3_bound 13 = .ok (.ifCond .ne 10, 3) := by decide +kernel
theorem dX3_bound_16 : decode cX3_bound 16 = .ok (.aload_n 3, 1) := by decide +kernel
theorem dX3_bound_17 : decode cX3_bound 17 = .ok (.invokevirtual 140, 3) := by decide +kernel
theorem dX3_bound_20 : decode cX3_bound 20 = .ok (.goto 7, 3) := by decide +kernel
theorem dX3_bound_23 : decode cX3_bound 23 = .ok (.aload_n 3, 1) := by decide +kernel
theorem dX3_bound_24 : decode cX3_bound 24 = .ok (.invokevirtual 144, 3) := by decide +kernel
theorem dX3_bound_27 : decode cX3_bound 27 = .ok (.lreturn, 1) := by decide +kernel
theorem dX3_compare_0 : decode cX3_compare 0 = .ok (.aload_n 0, 1) := by decide +kernel
theorem dX3_compare_1 : decode cX3_compare 1 = .ok (.iload_n 1, 1) := by decide +kernel
theorem dX3_compare_2 : decode cX3_compare 2 = .ok (.invokevirtual 62, 3) := by decide +kernel
theorem dX3_compare_5 : decode cX3_compare 5 = .ok (.astore 7, 2) := by decide +kernel
theorem dX3_compare_7 : decode cX3_compare 7 = .ok (.aload_n 0, 1) := by decide +kernel
theorem dX3_compare_8 : decode cX3_compare 8 = .ok (.iload 4, 2) := by decide +kernel
theorem dX3_compare_10 : decode cX3_compare 10 = .ok (.invokevirtual 62, 3) := by decide +kernel
theorem dX3_compare_13 : decode cX3_compare 13 = .ok (.astore 8, 2) := by decide +kernel
theorem dX3_compare_15 : decode cX3_compare 15 = .ok (.aload 7, 2) := by decide +kernel
theorem dX3_compare_17 : decode cX3_compare 17 = .ok (.ifnull 8, 3) := by decide +kernel
theorem dX3_compare_20 : decode cX3_compare 20 = .ok (.aload 8, 2) := by decide +kernel
theorem dX3_compare_22 : decode cX3_compare 22 = .ok (.ifnonnull 6, 3) := by decide +kernel
theorem dX3_compare_25 : decode cX3_compare 25 = .ok (.bipush (-2), 2) := by decide +kernel
theorem dX3_compare_27 : decode cX3_compare 27 = .ok (.ireturn, 1) := by decide +kernel
theorem dX3_compare_28 : decode cX3_compare 28 = .ok (.aload_n 0, 1) := by decide +kernel
theorem dX3_compare_29 : decode cX3_compare 29 = .ok (.getfield 33, 3) := by decide +kernel
theorem dX3_compare_32 : decode cX3_compare 32 = .ok (.aload 7, 2) := by decide +kernel
theorem dX3_compare_34 : decode cX3_compare 34 = .ok (.lload_n 2, 1) := by decide +kernel
theorem dX3_compare_35 : decode cX3_compare 35 = .ok (.invokevirtual 72, 3) := by decide +kernel
theorem dX3_compare_38 : decode cX3_compare 38 = .ok (.aload_n 0, 1) := by decide +kernel
theorem dX3_compare_39 : decode cX3_compare 39 = .ok (.getfield 37, 3) := by decide +kernel
theorem dX3_compare_42 : decode cX3_compare 42 = .ok (.aload 8, 2) := by decide +kernel
theorem dX3_compare_44 : decode cX3_compare 44 = .ok (.lload 5, 2) := by decide +kernel
theorem dX3_compare_46 : decode cX3_compare 46 = .ok (.invokevirtual 72, 3) := by decide +kernel
theorem dX3_compare_49 : decode cX3_compare 49 = .ok (.aload_n 0, 1) := by decide +kernel
theorem dX3_compare_50 : decode cX3_compare 50 = .ok (.getfield 33, 3) := by decide +kernel
theorem dX3_compare_53 : decode cX3_compare 53 = .ok (.aload_n 0, 1) := by decide +kernel
theorem dX3_compare_54 : decode cX3_compare 54 = .ok (.getfield 37, 3) := by decide +kernel
theorem dX3_compare_57 : decode cX3_compare 57 = .ok (.ldc2_w 147, 3) := by decide +kernel
theorem dX3_compare_60 : decode cX3_compare 60 = .ok (.invokevirtual 149, 3) := by decide +kernel
theorem dX3_compare_63 : decode cX3_compare 63 = .ok (.aload_n 0, 1) := by decide +kernel
theorem dX3_compare_64 : decode cX3_compare 64 = .ok (.getfield 33, 3) := by decide +kernel
theorem dX3_compare_67 : decode cX3_compare 67 = .ok (.invokevirtual 76, 3) := by decide +kernel
theorem dX3_compare_70 : decode cX3_compare 70 = .ok (.ireturn, 1) := by decide +kernel
theorem dX3_octet_0 : decode cX3_octet 0 = .ok (.aload_n 0, 1) := by decide +kernel
theorem dX3_octet_1 : decode cX3_octet 1 = .ok (.iload_n 1, 1) := by decide +kernel
theorem dX3_octet_2 : decode cX3_octet 2 = .ok (.invokevirtual 62, 3) := by decide +kernel
theorem dX3_octet_5 : decode cX3_octet 5 = .ok (.astore 5, 2) := by decide +kernel
theorem dX3_octet_7 : decode cX3_octet 7 = .ok (.aload 5, 2) := by decide +kernel
theorem dX3_octet_9 : decode cX3_octet 9 = .ok (.ifnull 18, 3) := by decide +kernel
theorem dX3_octet_12 : decode cX3_octet 12 = .ok (.iload 4, 2) := by decide +kernel
theorem dX3_octet_14 : decode cX3_octet 14 = .ok (.ifCond .lt 13, 3) := by decide +kernel
theorem dX3_octet_17 : decode cX3_octet 17 = .ok (.iload 4, 2) := by decide +kernel
theorem dX3_octet_19 : decode cX3_octet 19 = .ok (.aload 5, 2) := by decide +kernel
theorem dX3_octet_21 : decode cX3_octet 21 = .ok (.invokevirtual 153, 3) := by decide +kernel
theorem dX3_octet_24 : decode cX3_octet 24 = .ok (.if_icmp .lt 5, 3) := by decide +kernel
theorem dX3_octet_27 : decode cX3_octet 27 = .ok (.iconst 0, 1) := by decide +kernel
theorem dX3_octet_28 : decode cX3_octet 28 = .ok (.ireturn, 1) := by decide +kernel
theorem dX3_octet_29 : decode cX3_octet 29 = .ok (.aload 5, 2) := by decide +kernel
theorem dX3_octet_31 : decode cX3_octet 31 = .ok (.lload_n 2, 1) := by decide +kernel
theorem dX3_octet_32 : decode cX3_octet 32 = .ok (.invokevirtual 156, 3) := by decide +kernel
theorem dX3_octet_35 : decode cX3_octet 35 = .ok (.bipush 8, 2) := by decide +kernel
theorem dX3_octet_37 : decode cX3_octet 37 = .ok (.iload 4, 2) := by decide +kernel
theorem dX3_octet_39 : decode cX3_octet 39 = .ok (.imul, 1) := by decide +kernel
theorem dX3_octet_40 : decode cX3_octet 40 = .ok (.lushr, 1) := by decide +kernel
theorem dX3_octet_41 : decode cX3_octet 41 = .ok (.l2i, 1) := by decide +kernel
theorem dX3_octet_42 : decode cX3_octet 42 = .ok (.i2b, 1) := by decide +kernel
theorem dX3_octet_43 : decode cX3_octet 43 = .ok (.ireturn, 1) := by decide +kernel
theorem dX3_half_0 : decode cX3_half 0 = .ok (.aload_n 0, 1) := by decide +kernel
theorem dX3_half_1 : decode cX3_half 1 = .ok (.iload_n 1, 1) := by decide +kernel
theorem dX3_half_2 : decode cX3_half 2 = .ok (.invokevirtual 62, 3) := by decide +kernel
theorem dX3_half_5 : decode cX3_half 5 = .ok (.astore 4, 2) := by decide +kernel
theorem dX3_half_7 : decode cX3_half 7 = .ok (.aload 4, 2) := by decide +kernel
theorem dX3_half_9 : decode cX3_half 9 = .ok (.ifnonnull 5, 3) := by decide +kernel
theorem dX3_half_12 : decode cX3_half 12 = .ok (.iconst 0, 1) := by decide +kernel
theorem dX3_half_13 : decode cX3_half 13 = .ok (.ireturn, 1) := by decide +kernel
theorem dX3_half_14 : decode cX3_half 14 = .ok (.aload 4, 2) := by decide +kernel
theorem dX3_half_16 : decode cX3_half 16 = .ok (.getfield 160, 3) := by decide +kernel
theorem dX3_half_19 : decode cX3_half 19 = .ok (.aload 4, 2) := by decide +kernel
theorem dX3_half_21 : decode cX3_half 21 = .ok (.getfield 160, 3) := by decide +kernel
theorem dX3_half_24 : decode cX3_half 24 = .ok (.iconst 2, 1) := by decide +kernel
theorem dX3_half_25 : decode cX3_half 25 = .ok (.idiv, 1) := by decide +kernel
theorem dX3_half_26 : decode cX3_half 26 = .ok (.isub, 1) := by decide +kernel
theorem dX3_half_27 : decode cX3_half 27 = .ok (.istore 5, 2) := by decide +kernel
theorem dX3_half_29 : decode cX3_half 29 = .ok (.aload 4, 2) := by decide +kernel
theorem dX3_half_31 : decode cX3_half 31 = .ok (.lload_n 2, 1) := by decide +kernel
theorem dX3_half_32 : decode cX3_half 32 = .ok (.invokevirtual 156, 3) := by decide +kernel
theorem dX3_half_35 : decode cX3_half 35 = .ok (.iload 5, 2) := by decide +kernel
theorem dX3_half_37 : decode cX3_half 37 = .ok (.lushr, 1) := by decide +kernel
theorem dX3_half_38 : decode cX3_half 38 = .ok (.l2i, 1) := by decide +kernel
theorem dX3_half_39 : decode cX3_half 39 = .ok (.i2s, 1) := by decide +kernel
theorem dX3_half_40 : decode cX3_half 40 = .ok (.ireturn, 1) := by decide +kernel
theorem dX3_isWidth_0 : decode cX3_isWidth 0 = .ok (.iload_n 0, 1) := by decide +kernel
theorem dX3_isWidth_1 : decode cX3_isWidth 1 = .ok (.bipush 8, 2) := by decide +kernel
theorem dX3_isWidth_3 : decode cX3_isWidth 3 = .ok (.if_icmp .lt 22, 3) := by decide +kernel
theorem dX3_isWidth_6 : decode cX3_isWidth 6 = .ok (.iload_n 0, 1) := by decide +kernel
theorem dX3_isWidth_7 : decode cX3_isWidth 7 = .ok (.iload_n 1, 1) := by decide +kernel
theorem dX3_isWidth_8 : decode cX3_isWidth 8 = .ok (.ifCond .eq 8, 3) := by decide +kernel
theorem dX3_isWidth_11 : decode cX3_isWidth 11 = .ok (.bipush 64, 2) := by decide +kernel
theorem dX3_isWidth_13 : decode cX3_isWidth 13 = .ok (.goto 5, 3) := by decide +kernel
theorem dX3_isWidth_16 : decode cX3_isWidth 16 = .ok (.bipush 63, 2) := by decide +kernel
theorem dX3_isWidth_18 : decode cX3_isWidth 18 = .ok (.if_icmp .gt 7, 3) := by decide +kernel
theorem dX3_isWidth_21 : decode cX3_isWidth 21 = .ok (.iconst 1, 1) := by decide +kernel
theorem dX3_isWidth_22 : decode cX3_isWidth 22 = .ok (.goto 4, 3) := by decide +kernel
theorem dX3_isWidth_25 : decode cX3_isWidth 25 = .ok (.iconst 0, 1) := by decide +kernel
theorem dX3_isWidth_26 : decode cX3_isWidth 26 = .ok (.ireturn, 1) := by decide +kernel
theorem dX3_isSlope_0 : decode cX3_isSlope 0 = .ok (.lload_n 0, 1) := by decide +kernel
theorem dX3_isSlope_1 : decode cX3_isSlope 1 = .ok (.lconst 0, 1) := by decide +kernel
theorem dX3_isSlope_2 : decode cX3_isSlope 2 = .ok (.lcmp, 1) := by decide +kernel
theorem dX3_isSlope_3 : decode cX3_isSlope 3 = .ok (.ifCond .lt 29, 3) := by decide +kernel
theorem dX3_isSlope_6 : decode cX3_isSlope 6 = .ok (.lload_n 0, 1) := by decide +kernel
theorem dX3_isSlope_7 : decode cX3_isSlope 7 = .ok (.ldc2_w 163, 3) := by decide +kernel
theorem dX3_isSlope_10 : decode cX3_isSlope 10 = .ok (.lcmp, 1) := by decide +kernel
theorem dX3_isSlope_11 : decode cX3_isSlope 11 = .ok (.ifCond .gt 21, 3) := by decide +kernel
theorem dX3_isSlope_14 : decode cX3_isSlope 14 = .ok (.lload_n 2, 1) := by decide +kernel
theorem dX3_isSlope_15 : decode cX3_isSlope 15 = .ok (.lconst 1, 1) := by decide +kernel
theorem dX3_isSlope_16 : decode cX3_isSlope 16 = .ok (.lcmp, 1) := by decide +kernel
theorem dX3_isSlope_17 : decode cX3_isSlope 17 = .ok (.ifCond .lt 15, 3) := by decide +kernel
theorem dX3_isSlope_20 : decode cX3_isSlope 20 = .ok (.lload_n 2, 1) := by decide +kernel
theorem dX3_isSlope_21 : decode cX3_isSlope 21 = .ok (.ldc2_w 163, 3) := by decide +kernel
theorem dX3_isSlope_24 : decode cX3_isSlope 24 = .ok (.lcmp, 1) := by decide +kernel
theorem dX3_isSlope_25 : decode cX3_isSlope 25 = .ok (.ifCond .gt 7, 3) := by decide +kernel
theorem dX3_isSlope_28 : decode cX3_isSlope 28 = .ok (.iconst 1, 1) := by decide +kernel
theorem dX3_isSlope_29 : decode cX3_isSlope 29 = .ok (.goto 4, 3) := by decide +kernel
theorem dX3_isSlope_32 : decode cX3_isSlope 32 = .ok (.iconst 0, 1) := by decide +kernel
theorem dX3_isSlope_33 : decode cX3_isSlope 33 = .ok (.ireturn, 1) := by decide +kernel
theorem dX3_isOffset_0 : decode cX3_isOffset 0 = .ok (.lload_n 0, 1) := by decide +kernel
theorem dX3_isOffset_1 : decode cX3_isOffset 1 = .ok (.ldc2_w 165, 3) := by decide +kernel
theorem dX3_isOffset_4 : decode cX3_isOffset 4 = .ok (.lcmp, 1) := by decide +kernel
theorem dX3_isOffset_5 : decode cX3_isOffset 5 = .ok (.ifCond .lt 15, 3) := by decide +kernel
theorem dX3_isOffset_8 : decode cX3_isOffset 8 = .ok (.lload_n 0, 1) := by decide +kernel
theorem dX3_isOffset_9 : decode cX3_isOffset 9 = .ok (.ldc2_w 167, 3) := by decide +kernel
theorem dX3_isOffset_12 : decode cX3_isOffset 12 = .ok (.lcmp, 1) := by decide +kernel
theorem dX3_isOffset_13 : decode cX3_isOffset 13 = .ok (.ifCond .gt 7, 3) := by decide +kernel
theorem dX3_isOffset_16 : decode cX3_isOffset 16 = .ok (.iconst 1, 1) := by decide +kernel
theorem dX3_isOffset_17 : decode cX3_isOffset 17 = .ok (.goto 4, 3) := by decide +kernel
theorem dX3_isOffset_20 : decode cX3_isOffset 20 = .ok (.iconst 0, 1) := by decide +kernel
theorem dX3_isOffset_21 : decode cX3_isOffset 21 = .ok (.ireturn, 1) := by decide +kernel
theorem dX3_find_0 : decode cX3_find 0 = .ok (.iload_n 1, 1) := by decide +kernel
theorem dX3_find_1 : decode cX3_find 1 = .ok (.iconst 1, 1) := by decide +kernel
theorem dX3_find_2 : decode cX3_find 2 = .ok (.if_icmp .lt 17, 3) := by decide +kernel
theorem dX3_find_5 : decode cX3_find 5 = .ok (.iload_n 1, 1) := by decide +kernel
theorem dX3_find_6 : decode cX3_find 6 = .ok (.aload_n 0, 1) := by decide +kernel
theorem dX3_find_7 : decode cX3_find 7 = .ok (.getfield 15, 3) := by decide +kernel
theorem dX3_find_10 : decode cX3_find 10 = .ok (.if_icmp .gt 9, 3) := by decide +kernel
theorem dX3_find_13 : decode cX3_find 13 = .ok (.iload_n 1, 1) := by decide +kernel
theorem dX3_find_14 : decode cX3_find 14 = .ok (.bipush 40, 2) := by decide +kernel
theorem dX3_find_16 : decode cX3_find 16 = .ok (.if_icmp .le 5, 3) := by decide +kernel
theorem dX3_find_19 : decode cX3_find 19 = .ok (.aconst_null, 1) := by decide +kernel
theorem dX3_find_20 : decode cX3_find 20 = .ok (.areturn, 1) := by decide +kernel
theorem dX3_find_21 : decode cX3_find 21 = .ok (.aload_n 0, 1) := by decide +kernel
theorem dX3_find_22 : decode cX3_find 22 = .ok (.getfield 11, 3) := by decide +kernel
theorem dX3_find_25 : decode cX3_find 25 = .ok (.iload_n 1, 1) := by decide +kernel
theorem dX3_find_26 : decode cX3_find 26 = .ok (.iconst 1, 1) := by decide +kernel
theorem dX3_find_27 : decode cX3_find 27 = .ok (.isub, 1) := by decide +kernel
theorem dX3_find_28 : decode cX3_find 28 = .ok (.aaload, 1) := by decide +kernel
theorem dX3_find_29 : decode cX3_find 29 = .ok (.areturn, 1) := by decide +kernel
theorem dX3_combine_0 : decode cX3_combine 0 = .ok (.iload_n 1, 1) := by decide +kernel
theorem dX3_combine_1 : decode cX3_combine 1 = .ok (.tableswitch 73 0 2 #[27, 42, 59], 27) := by decide +kernel
theorem dX3_combine_28 : decode cX3_combine 28 = .ok (.aload_n 0, 1) := by decide +kernel
theorem dX3_combine_29 : decode cX3_combine 29 = .ok (.getfield 33, 3) := by decide +kernel
theorem dX3_combine_32 : decode cX3_combine 32 = .ok (.aload_n 0, 1) := by decide +kernel
theorem dX3_combine_33 : decode cX3_combine 33 = .ok (.getfield 37, 3) := by decide +kernel
theorem dX3_combine_36 : decode cX3_combine 36 = .ok (.lconst 1, 1) := by decide +kernel
theorem dX3_combine_37 : decode cX3_combine 37 = .ok (.invokevirtual 149, 3) := by decide +kernel
theorem dX3_combine_40 : decode cX3_combine 40 = .ok (.goto 45, 3) := by decide +kernel
theorem dX3_combine_43 : decode cX3_combine 43 = .ok (.aload_n 0, 1) := by decide +kernel
theorem dX3_combine_44 : decode cX3_combine 44 = .ok (.getfield 33, 3) := by decide +kernel
theorem dX3_combine_47 : decode cX3_combine 47 = .ok (.aload_n 0, 1) := by decide +kernel
theorem dX3_combine_48 : decode cX3_combine 48 = .ok (.getfield 37, 3) := by decide +kernel
theorem dX3_combine_51 : decode cX3_combine 51 = .ok (.ldc2_w 147, 3) := by decide +kernel
theorem dX3_combine_54 : decode cX3_combine 54 = .ok (.invokevirtual 149, 3) := by decide +kernel
theorem dX3_combine_57 : decode cX3_combine 57 = .ok (.goto 28, 3) := by decide +kernel
theorem dX3_combine_60 : decode cX3_combine 60 = .ok (.aload_n 0, 1) := by decide +kernel
theorem dX3_combine_61 : decode cX3_combine 61 = .ok (.getfield 33, 3) := by decide +kernel
theorem dX3_combine_64 : decode cX3_combine 64 = .ok (.aload_n 0, 1) := by decide +kernel
theorem dX3_combine_65 : decode cX3_combine 65 = .ok (.getfield 37, 3) := by decide +kernel
theorem dX3_combine_68 : decode cX3_combine 68 = .ok (.invokevirtual 169, 3) := by decide +kernel
theorem dX3_combine_71 : decode cX3_combine 71 = .ok (.goto 14, 3) := by decide +kernel
theorem dX3_combine_74 : decode cX3_combine 74 = .ok (.aload_n 0, 1) := by decide +kernel
theorem dX3_combine_75 : decode cX3_combine 75 = .ok (.getfield 33, 3) := by decide +kernel
theorem dX3_combine_78 : decode cX3_combine 78 = .ok (.aload_n 0, 1) := by decide +kernel
theorem dX3_combine_79 : decode cX3_combine 79 = .ok (.getfield 37, 3) := by decide +kernel
theorem dX3_combine_82 : decode cX3_combine 82 = .ok (.invokevirtual 173, 3) := by decide +kernel
theorem dX3_combine_85 : decode cX3_combine 85 = .ok (.return_, 1) := by decide +kernel
theorem dX3_putQuotientByZero_0 : decode cX3_putQuotientByZero 0 = .ok (.aload_n 0, 1) := by decide +kernel
theorem dX3_putQuotientByZero_1 : decode cX3_putQuotientByZero 1 = .ok (.getfield 33, 3) := by decide +kernel
theorem dX3_putQuotientByZero_4 : decode cX3_putQuotientByZero 4 = .ok (.invokevirtual 76, 3) := by decide +kernel
theorem dX3_putQuotientByZero_7 : decode cX3_putQuotientByZero 7 = .ok (.istore_n 2, 1) := by decide +kernel
theorem dX3_putQuotientByZero_8 : decode cX3_putQuotientByZero 8 = .ok (.iload_n 2, 1) := by decide +kernel
theorem dX3_putQuotientByZero_9 : decode cX3_putQuotientByZero 9 = .ok (.ifCond .le 10, 3) := by decide +kernel
theorem dX3_putQuotientByZero_12 : decode cX3_putQuotientByZero 12 = .ok (.aload_n 1, 1) := by decide +kernel
theorem dX3_putQuotientByZero_13 : decode cX3_putQuotientByZero 13 = .ok (.invokevirtual 144, 3) := by decide +kernel
theorem dX3_putQuotientByZero_16 : decode cX3_putQuotientByZero 16 = .ok (.goto 7, 3) := by decide +kernel
theorem dX3_putQuotientByZero_19 : decode cX3_putQuotientByZero 19 = .ok (.aload_n 1, 1) := by decide +kernel
theorem dX3_putQuotientByZero_20 : decode cX3_putQuotientByZero 20 = .ok (.invokevirtual 140, 3) := by decide +kernel
theorem dX3_putQuotientByZero_23 : decode cX3_putQuotientByZero 23 = .ok (.lstore_n 3, 1) := by decide +kernel
theorem dX3_putQuotientByZero_24 : decode cX3_putQuotientByZero 24 = .ok (.iload_n 2, 1) := by decide +kernel
theorem dX3_putQuotientByZero_25 : decode cX3_putQuotientByZero 25 = .ok (.ifCond .ne 9, 3) := by decide +kernel
theorem dX3_putQuotientByZero_28 : decode cX3_putQuotientByZero 28 = .ok (.aload_n 0, 1) := by decide +kernel
theorem dX3_putQuotientByZero_29 : decode cX3_putQuotientByZero 29 = .ok (.aload_n 1, 1) := by decide +kernel
theorem dX3_putQuotientByZero_30 : decode cX3_putQuotientByZero 30 = .ok (.invokevirtual 95, 3) := by decide +kernel
theorem dX3_putQuotientByZero_33 : decode cX3_putQuotientByZero 33 = .ok (.lstore_n 3, 1) := by decide +kernel
theorem dX3_putQuotientByZero_34 : decode cX3_putQuotientByZero 34 = .ok (.aload_n 0, 1) := by decide +kernel
theorem dX3_putQuotientByZero_35 : decode cX3_putQuotientByZero 35 = .ok (.iconst 1, 1) := by decide +kernel
theorem dX3_putQuotientByZero_36 : decode cX3_putQuotientByZero 36 = .ok (.putfield 19, 3) := by decide +kernel
theorem dX3_putQuotientByZero_39 : decode cX3_putQuotientByZero 39 = .ok (.lload_n 3, 1) := by decide +kernel
theorem dX3_putQuotientByZero_40 : decode cX3_putQuotientByZero 40 = .ok (.lreturn, 1) := by decide +kernel
theorem dX3_put_0 : decode cX3_put 0 = .ok (.aload_n 0, 1) := by decide +kernel
theorem dX3_put_1 : decode cX3_put 1 = .ok (.getfield 33, 3) := by decide +kernel
theorem dX3_put_4 : decode cX3_put 4 = .ok (.aload_n 1, 1) := by decide +kernel
theorem dX3_put_5 : decode cX3_put 5 = .ok (.invokevirtual 176, 3) := by decide +kernel
theorem dX3_put_8 : decode cX3_put 8 = .ok (.aload_n 0, 1) := by decide +kernel
theorem dX3_put_9 : decode cX3_put 9 = .ok (.getfield 33, 3) := by decide +kernel
theorem dX3_put_12 : decode cX3_put 12 = .ok (.aload_n 1, 1) := by decide +kernel
theorem dX3_put_13 : decode cX3_put 13 = .ok (.getfield 69, 3) := by decide +kernel
theorem dX3_put_16 : decode cX3_put 16 = .ok (.aload_n 0, 1) := by decide +kernel
theorem dX3_put_17 : decode cX3_put 17 = .ok (.getfield 43, 3) := by decide +kernel
theorem dX3_put_20 : decode cX3_put 20 = .ok (.invokevirtual 180, 3) := by decide +kernel
theorem dX3_put_23 : decode cX3_put 23 = .ok (.istore_n 2, 1) := by decide +kernel
theorem dX3_put_24 : decode cX3_put 24 = .ok (.aload_n 0, 1) := by decide +kernel
theorem dX3_put_25 : decode cX3_put 25 = .ok (.getfield 43, 3) := by decide +kernel
theorem dX3_put_28 : decode cX3_put 28 = .ok (.invokevirtual 184, 3) := by decide +kernel
theorem dX3_put_31 : decode cX3_put 31 = .ok (.ifCond .eq 22, 3) := by decide +kernel
theorem dX3_put_34 : decode cX3_put 34 = .ok (.aload_n 1, 1) := by decide +kernel
theorem dX3_put_35 : decode cX3_put 35 = .ok (.aload_n 0, 1) := by decide +kernel
theorem dX3_put_36 : decode cX3_put 36 = .ok (.getfield 43, 3) := by decide +kernel
theorem dX3_put_39 : decode cX3_put 39 = .ok (.iconst 0, 1) := by decide +kernel
theorem dX3_put_40 : decode cX3_put 40 = .ok (.invokevirtual 108, 3) := by decide +kernel
theorem dX3_put_43 : decode cX3_put 43 = .ok (.invokevirtual 187, 3) := by decide +kernel
theorem dX3_put_46 : decode cX3_put 46 = .ok (.ifCond .eq 7, 3) := by decide +kernel
theorem dX3_put_49 : decode cX3_put 49 = .ok (.iconst 1, 1) := by decide +kernel
theorem dX3_put_50 : decode cX3_put 50 = .ok (.goto 4, 3) := by decide +kernel
theorem dX3_put_53 : decode cX3_put 53 = .ok (.iconst 0, 1) := by decide +kernel
theorem dX3_put_54 : decode cX3_put 54 = .ok (.istore_n 3, 1) := by decide +kernel
theorem dX3_put_55 : decode cX3_put 55 = .ok (.aload_n 0, 1) := by decide +kernel
theorem dX3_put_56 : decode cX3_put 56 = .ok (.iload_n 2, 1) := by decide +kernel
theorem dX3_put_57 : decode cX3_put 57 = .ok (.ifCond .eq 7, 3) := by decide +kernel
theorem dX3_put_60 : decode cX3_put 60 = .ok (.iload_n 3, 1) := by decide +kernel
theorem dX3_put_61 : decode cX3_put 61 = .ok (.ifCond .ne 7, 3) := by decide +kernel
theorem dX3_put_64 : decode cX3_put 64 = .ok (.iconst 1, 1) := by decide +kernel
theorem dX3_put_65 : decode cX3_put 65 = .ok (.goto 4, 3) := by decide +kernel
theorem dX3_put_68 : decode cX3_put 68 = .ok (.iconst 0, 1) := by decide +kernel
theorem dX3_put_69 : decode cX3_put 69 = .ok (.putfield 19, 3) := by decide +kernel
theorem dX3_put_72 : decode cX3_put 72 = .ok (.iload_n 3, 1) := by decide +kernel
theorem dX3_put_73 : decode cX3_put 73 = .ok (.ifCond .eq 14, 3) := by decide +kernel
theorem dX3_put_76 : decode cX3_put 76 = .ok (.aload_n 0, 1) := by decide +kernel
theorem dX3_put_77 : decode cX3_put 77 = .ok (.getfield 43, 3) := by decide +kernel
theorem dX3_put_80 : decode cX3_put 80 = .ok (.iconst 0, 1) := by decide +kernel
theorem dX3_put_81 : decode cX3_put 81 = .ok (.invokevirtual 108, 3) := by decide +kernel
theorem dX3_put_84 : decode cX3_put 84 = .ok (.goto 8, 3) := by decide +kernel
theorem dX3_put_87 : decode cX3_put 87 = .ok (.aload_n 0, 1) := by decide +kernel
theorem dX3_put_88 : decode cX3_put 88 = .ok (.aload_n 1, 1) := by decide +kernel
theorem dX3_put_89 : decode cX3_put 89 = .ok (.invokevirtual 190, 3) := by decide +kernel
theorem dX3_put_92 : decode cX3_put 92 = .ok (.lreturn, 1) := by decide +kernel
theorem dX3_beyond_0 : decode cX3_beyond 0 = .ok (.aload_n 1, 1) := by decide +kernel
theorem dX3_beyond_1 : decode cX3_beyond 1 = .ok (.getfield 66, 3) := by decide +kernel
theorem dX3_beyond_4 : decode cX3_beyond 4 = .ok (.lookupswitch 63 #[(0, 28), (1, 50)], 28) := by decide +kernel
theorem dX3_beyond_32 : decode cX3_beyond 32 = .ok (.aload_n 0, 1) := by decide +kernel
theorem dX3_beyond_33 : decode cX3_beyond 33 = .ok (.getfield 43, 3) := by decide +kernel
theorem dX3_beyond_36 : decode cX3_beyond 36 = .ok (.invokevirtual 114, 3) := by decide +kernel
theorem dX3_beyond_39 : decode cX3_beyond 39 = .ok (.ifCond .eq 10, 3) := by decide +kernel
theorem dX3_beyond_42 : decode cX3_beyond 42 = .ok (.aload_n 1, 1) := by decide +kernel
theorem dX3_beyond_43 : decode cX3_beyond 43 = .ok (.invokevirtual 140, 3) := by decide +kernel
theorem dX3_beyond_46 : decode cX3_beyond 46 = .ok (.goto 7, 3) := by decide +kernel
theorem dX3_beyond_49 : decode cX3_beyond 49 = .ok (.aload_n 1, 1) := by decide +kernel
theorem dX3_beyond_50 : decode cX3_beyond 50 = .ok (.invokevirtual 144, 3) := by decide +kernel
theorem dX3_beyond_53 : decode cX3_beyond 53 = .ok (.lreturn, 1) := by decide +kernel
theorem dX3_beyond_54 : decode cX3_beyond 54 = .ok (.aload_n 1, 1) := by decide +kernel
theorem dX3_beyond_55 : decode cX3_beyond 55 = .ok (.aload_n 0, 1) := by decide +kernel
theorem dX3_beyond_56 : decode cX3_beyond 56 = .ok (.getfield 43, 3) := by decide +kernel
theorem dX3_beyond_59 : decode cX3_beyond 59 = .ok (.iconst 0, 1) := by decide +kernel
theorem dX3_beyond_60 : decode cX3_beyond 60 = .ok (.invokevirtual 108, 3) := by decide +kernel
theorem dX3_beyond_63 : decode cX3_beyond 63 = .ok (.invokevirtual 193, 3) := by decide +kernel
theorem dX3_beyond_66 : decode cX3_beyond 66 = .ok (.lreturn, 1) := by decide +kernel
theorem dX3_beyond_67 : decode cX3_beyond 67 = .ok (.lconst 0, 1) := by decide +kernel
theorem dX3_beyond_68 : decode cX3_beyond 68 = .ok (.lreturn, 1) := by decide +kernel
theorem dX3_writeBefore_0 : decode cX3_writeBefore 0 = .ok (.aload_n 0, 1) := by decide +kernel
theorem dX3_writeBefore_1 : decode cX3_writeBefore 1 = .ok (.getfield 27, 3) := by decide +kernel
theorem dX3_writeBefore_4 : decode cX3_writeBefore 4 = .ok (.ifCond .le 32, 3) := by decide +kernel
theorem dX3_writeBefore_7 : decode cX3_writeBefore 7 = .ok (.aload_n 0, 1) := by decide +kernel
theorem dX3_writeBefore_8 : decode cX3_writeBefore 8 = .ok (.getfield 27, 3) := by decide +kernel
theorem dX3_writeBefore_11 : decode cX3_writeBefore 11 = .ok (.bipush 40, 2) := by decide +kernel
theorem dX3_writeBefore_13 : decode cX3_writeBefore 13 = .ok (.if_icmp .gt 23, 3) := by decide +kernel
theorem dX3_writeBefore_16 : decode cX3_writeBefore 16 = .ok (.aload_n 0, 1) := by decide +kernel
theorem dX3_writeBefore_17 : decode cX3_writeBefore 17 = .ok (.dup, 1) := by decide +kernel
theorem dX3_writeBefore_18 : decode cX3_writeBefore 18 = .ok (.getfield 27, 3) := by decide +kernel
theorem dX3_writeBefore_21 : decode cX3_writeBefore 21 = .ok (.iconst 1, 1) := by decide +kernel
theorem dX3_writeBefore_22 : decode cX3_writeBefore 22 = .ok (.isub, 1) := by decide +kernel
theorem dX3_writeBefore_23 : decode cX3_writeBefore 23 = .ok (.putfield 27, 3) := by decide +kernel
theorem dX3_writeBefore_26 : decode cX3_writeBefore 26 = .ok (.aload_n 0, 1) := by decide +kernel
theorem dX3_writeBefore_27 : decode cX3_writeBefore 27 = .ok (.getfield 23, 3) := by decide +kernel
theorem dX3_writeBefore_30 : decode cX3_writeBefore 30 = .ok (.aload_n 0, 1) := by decide +kernel
theorem dX3_writeBefore_31 : decode cX3_writeBefore 31 = .ok (.getfield 27, 3) := by decide +kernel
theorem dX3_writeBefore_34 : decode cX3_writeBefore 34 = .ok (.iload_n 1, 1) := by decide +kernel
theorem dX3_writeBefore_35 : decode cX3_writeBefore 35 = .ok (.castore, 1) := by decide +kernel
theorem dX3_writeBefore_36 : decode cX3_writeBefore 36 = .ok (.return_, 1) := by decide +kernel
theorem dX3_writeDigit_0 : decode cX3_writeDigit 0 = .ok (.aload_n 0, 1) := by decide +kernel
theorem dX3_writeDigit_1 : decode cX3_writeDigit 1 = .ok (.ldc2_w 196, 3) := by decide +kernel
theorem dX3_writeDigit_4 : decode cX3_writeDigit 4 = .ok (.lload_n 1, 1) := by decide +kernel
theorem dX3_writeDigit_5 : decode cX3_writeDigit 5 = .ok (.ladd, 1) := by decide +kernel
theorem dX3_writeDigit_6 : decode cX3_writeDigit 6 = .ok (.l2i, 1) := by decide +kernel
theorem dX3_writeDigit_7 : decode cX3_writeDigit 7 = .ok (.i2c, 1) := by decide +kernel
theorem dX3_writeDigit_8 : decode cX3_writeDigit 8 = .ok (.invokevirtual 131, 3) := by decide +kernel
theorem dX3_writeDigit_11 : decode cX3_writeDigit 11 = .ok (.return_, 1) := by decide +kernel
theorem dX3_writePlaces_0 : decode cX3_writePlaces 0 = .ok (.iconst 0, 1) := by decide +kernel
theorem dX3_writePlaces_1 : decode cX3_writePlaces 1 = .ok (.istore_n 2, 1) := by decide +kernel
theorem dX3_writePlaces_2 : decode cX3_writePlaces 2 = .ok (.iload_n 2, 1) := by decide +kernel
theorem dX3_writePlaces_3 : decode cX3_writePlaces 3 = .ok (.bipush 6, 2) := by decide +kernel
theorem dX3_writePlaces_5 : decode cX3_writePlaces 5 = .ok (.if_icmp .ge 37, 3) := by decide +kernel
theorem dX3_writePlaces_8 : decode cX3_writePlaces 8 = .ok (.aload_n 1, 1) := by decide +kernel
theorem dX3_writePlaces_9 : decode cX3_writePlaces 9 = .ok (.ldc2_w 198, 3) := by decide +kernel
theorem dX3_writePlaces_12 : decode cX3_writePlaces 12 = .ok (.invokevirtual 200, 3) := by decide +kernel
theorem dX3_writePlaces_15 : decode cX3_writePlaces 15 = .ok (.lstore_n 3, 1) := by decide +kernel
theorem dX3_writePlaces_16 : decode cX3_writePlaces 16 = .ok (.lload_n 3, 1) := by decide +kernel
theorem dX3_writePlaces_17 : decode cX3_writePlaces 17 = .ok (.lconst 0, 1) := by decide +kernel
theorem dX3_writePlaces_18 : decode cX3_writePlaces 18 = .ok (.lcmp, 1) := by decide +kernel
theorem dX3_writePlaces_19 : decode cX3_writePlaces 19 = .ok (.ifCond .ne 12, 3) := by decide +kernel
theorem dX3_writePlaces_22 : decode cX3_writePlaces 22 = .ok (.aload_n 0, 1) := by decide +kernel
theorem dX3_writePlaces_23 : decode cX3_writePlaces 23 = .ok (.getfield 27, 3) := by decide +kernel
theorem dX3_writePlaces_26 : decode cX3_writePlaces 26 = .ok (.bipush 40, 2) := by decide +kernel
theorem dX3_writePlaces_28 : decode cX3_writePlaces 28 = .ok (.if_icmp .ge 8, 3) := by decide +kernel
theorem dX3_writePlaces_31 : decode cX3_writePlaces 31 = .ok (.aload_n 0, 1) := by decide +kernel
theorem dX3_writePlaces_32 : decode cX3_writePlaces 32 = .ok (.lload_n 3, 1) := by decide +kernel
theorem dX3_writePlaces_33 : decode cX3_writePlaces 33 = .ok (.invokevirtual 203, 3) := by decide +kernel
theorem dX3_writePlaces_36 : decode cX3_writePlaces 36 = .ok (.iinc 2 1, 3) := by decide +kernel
theorem dX3_writePlaces_39 : decode cX3_writePlaces 39 = .ok (.goto (-37), 3) := by decide +kernel
theorem dX3_writePlaces_42 : decode cX3_writePlaces 42 = .ok (.aload_n 0, 1) := by decide +kernel
theorem dX3_writePlaces_43 : decode cX3_writePlaces 43 = .ok (.getfield 27, 3) := by decide +kernel
theorem dX3_writePlaces_46 : decode cX3_writePlaces 46 = .ok (.bipush 40, 2) := by decide +kernel
theorem dX3_writePlaces_48 : decode cX3_writePlaces 48 = .ok (.if_icmp .ge 9, 3) := by decide +kernel
theorem dX3_writePlaces_51 : decode cX3_writePlaces 51 = .ok (.aload_n 0, 1) := by decide +kernel
theorem dX3_writePlaces_52 : decode cX3_writePlaces 52 = .ok (.bipush 46, 2) := by decide +kernel
theorem dX3_writePlaces_54 : decode cX3_writePlaces 54 = .ok (.invokevirtual 131, 3) := by decide +kernel
theorem dX3_writePlaces_57 : decode cX3_writePlaces 57 = .ok (.return_, 1) := by decide +kernel
theorem dX3_writeWholePart_0 : decode cX3_writeWholePart 0 = .ok (.aload_n 0, 1) := by decide +kernel
theorem dX3_writeWholePart_1 : decode cX3_writeWholePart 1 = .ok (.aload_n 1, 1) := by decide +kernel
theorem dX3_writeWholePart_2 : decode cX3_writeWholePart 2 = .ok (.ldc2_w 198, 3) := by decide +kernel
theorem dX3_writeWholePart_5 : decode cX3_writeWholePart 5 = .ok (.invokevirtual 200, 3) := by decide +kernel
theorem dX3_writeWholePart_8 : decode cX3_writeWholePart 8 = .ok (.invokevirtual 203, 3) := by decide +kernel
theorem dX3_writeWholePart_11 : decode cX3_writeWholePart 11 = .ok (.iconst 1, 1) := by decide +kernel
theorem dX3_writeWholePart_12 : decode cX3_writeWholePart 12 = .ok (.istore_n 2, 1) := by decide +kernel
theorem dX3_writeWholePart_13 : decode cX3_writeWholePart 13 = .ok (.iload_n 2, 1) := by decide +kernel
theorem dX3_writeWholePart_14 : decode cX3_writeWholePart 14 = .ok (.bipush 40, 2) := by decide +kernel
theorem dX3_writeWholePart_16 : decode cX3_writeWholePart 16 = .ok (.if_icmp .ge 27, 3) := by decide +kernel
theorem dX3_writeWholePart_19 : decode cX3_writeWholePart 19 = .ok (.aload_n 1, 1) := by decide +kernel
theorem dX3_writeWholePart_20 : decode cX3_writeWholePart 20 = .ok (.invokevirtual 122, 3) := by decide +kernel
theorem dX3_writeWholePart_23 : decode cX3_writeWholePart 23 = .ok (.ifCond .ne 20, 3) := by decide +kernel
theorem dX3_writeWholePart_26 : decode cX3_writeWholePart 26 = .ok (.aload_n 0, 1) := by decide +kernel
theorem dX3_writeWholePart_27 : decode cX3_writeWholePart 27 = .ok (.aload_n 1, 1) := by decide +kernel
theorem dX3_writeWholePart_28 : decode cX3_writeWholePart 28 = .ok (.ldc2_w 198, 3) := by decide +kernel
theorem dX3_writeWholePart_31 : decode cX3_writeWholePart 31 = .ok (.invokevirtual 200, 3) := by decide +kernel
theorem dX3_writeWholePart_34 : decode cX3_writeWholePart 34 = .ok (.invokevirtual 203, 3) := by decide +kernel
theorem dX3_writeWholePart_37 : decode cX3_writeWholePart 37 = .ok (.iinc 2 1, 3) := by decide +kernel
theorem dX3_writeWholePart_40 : decode cX3_writeWholePart 40 = .ok (.goto (-27), 3) := by decide +kernel
theorem dX3_writeWholePart_43 : decode cX3_writeWholePart 43 = .ok (.return_, 1) := by decide +kernel
