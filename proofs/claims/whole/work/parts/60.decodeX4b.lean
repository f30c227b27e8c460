theorem dX4_value_63 : decode cX4_value 63 = .ok (.iload_n 1, 1) := by decide +kernel
theorem dX4_value_64 : decode cX4_value 64 = .ok (.iconst 1, 1) := by decide +kernel
theorem dX4_value_65 : decode cX4_value 65 = .ok (.iadd, 1) := by decide +kernel
theorem dX4_value_66 : decode cX4_value 66 = .ok (.aload_n 0, 1) := by decide +kernel
theorem dX4_value_67 : decode cX4_value 67 = .ok (.getfield 21, 3) := by decide +kernel
theorem dX4_value_70 : decode cX4_value 70 = .ok (.iload_n 2, 1) := by decide +kernel
theorem dX4_value_71 : decode cX4_value 71 = .ok (.laload, 1) := by decide +kernel
theorem dX4_value_72 : decode cX4_value 72 = .ok (.invokevirtual 64, 3) := by decide +kernel
theorem dX4_value_75 : decode cX4_value 75 = .ok (.return_, 1) := by decide +kernel
theorem dX4_round_0 : decode cX4_round 0 = .ok (.aload_n 0, 1) := by decide +kernel
theorem dX4_round_1 : decode cX4_round 1 = .ok (.bipush 16, 2) := by decide +kernel
theorem dX4_round_3 : decode cX4_round 3 = .ok (.bipush 17, 2) := by decide +kernel
theorem dX4_round_5 : decode cX4_round 5 = .ok (.iload_n 1, 1) := by decide +kernel
theorem dX4_round_6 : decode cX4_round 6 = .ok (.iload_n 1, 1) := by decide +kernel
theorem dX4_round_7 : decode cX4_round 7 = .ok (.iconst 1, 1) := by decide +kernel
theorem dX4_round_8 : decode cX4_round 8 = .ok (.iadd, 1) := by decide +kernel
theorem dX4_round_9 : decode cX4_round 9 = .ok (.invokevirtual 110, 3) := by decide +kernel
theorem dX4_round_12 : decode cX4_round 12 = .ok (.aload_n 0, 1) := by decide +kernel
theorem dX4_round_13 : decode cX4_round 13 = .ok (.aload_n 0, 1) := by decide +kernel
theorem dX4_round_14 : decode cX4_round 14 = .ok (.getfield 39, 3) := by decide +kernel
theorem dX4_round_17 : decode cX4_round 17 = .ok (.bipush 17, 2) := by decide +kernel
theorem dX4_round_19 : decode cX4_round 19 = .ok (.iaload, 1) := by decide +kernel
theorem dX4_round_20 : decode cX4_round 20 = .ok (.ifCond .eq 7, 3) := by decide +kernel
theorem dX4_round_23 : decode cX4_round 23 = .ok (.iconst 1, 1) := by decide +kernel
theorem dX4_round_24 : decode cX4_round 24 = .ok (.goto 4, 3) := by decide +kernel
theorem dX4_round_27 : decode cX4_round 27 = .ok (.iconst 0, 1) := by decide +kernel
theorem dX4_round_28 : decode cX4_round 28 = .ok (.putfield 113, 3) := by decide +kernel
theorem dX4_round_31 : decode cX4_round 31 = .ok (.aload_n 0, 1) := by decide +kernel
theorem dX4_round_32 : decode cX4_round 32 = .ok (.getfield 113, 3) := by decide +kernel
theorem dX4_round_35 : decode cX4_round 35 = .ok (.ifCond .ne 4, 3) := by decide +kernel
theorem dX4_round_38 : decode cX4_round 38 = .ok (.return_, 1) := by decide +kernel
theorem dX4_round_39 : decode cX4_round 39 = .ok (.aload_n 0, 1) := by decide +kernel
theorem dX4_round_40 : decode cX4_round 40 = .ok (.bipush 18, 2) := by decide +kernel
theorem dX4_round_42 : decode cX4_round 42 = .ok (.bipush 17, 2) := by decide +kernel
theorem dX4_round_44 : decode cX4_round 44 = .ok (.bipush 17, 2) := by decide +kernel
theorem dX4_round_46 : decode cX4_round 46 = .ok (.invokevirtual 49, 3) := by decide +kernel
theorem dX4_round_49 : decode cX4_round 49 = .ok (.aload_n 0, 1) := by decide +kernel
theorem dX4_round_50 : decode cX4_round 50 = .ok (.bipush 18, 2) := by decide +kernel
theorem dX4_round_52 : decode cX4_round 52 = .ok (.iload_n 1, 1) := by decide +kernel
theorem dX4_round_53 : decode cX4_round 53 = .ok (.iconst 1, 1) := by decide +kernel
theorem dX4_round_54 : decode cX4_round 54 = .ok (.iadd, 1) := by decide +kernel
theorem dX4_round_55 : decode cX4_round 55 = .ok (.invokevirtual 53, 3) := by decide +kernel
theorem dX4_round_58 : decode cX4_round 58 = .ok (.istore_n 3, 1) := by decide +kernel
theorem dX4_round_59 : decode cX4_round 59 = .ok (.iload_n 2, 1) := by decide +kernel
theorem dX4_round_60 : decode cX4_round 60 = .ok (.iconst 1, 1) := by decide +kernel
theorem dX4_round_61 : decode cX4_round 61 = .ok (.if_icmp .ne 20, 3) := by decide +kernel
theorem dX4_round_64 : decode cX4_round 64 = .ok (.aload_n 0, 1) := by decide +kernel
theorem dX4_round_65 : decode cX4_round 65 = .ok (.getfield 39, 3) := by decide +kernel
theorem dX4_round_68 : decode cX4_round 68 = .ok (.iload_n 1, 1) := by decide +kernel
theorem dX4_round_69 : decode cX4_round 69 = .ok (.iaload, 1) := by decide +kernel
theorem dX4_round_70 : decode cX4_round 70 = .ok (.ifCond .ge 7, 3) := by decide +kernel
theorem dX4_round_73 : decode cX4_round 73 = .ok (.iconst 1, 1) := by decide +kernel
theorem dX4_round_74 : decode cX4_round 74 = .ok (.goto 56, 3) := by decide +kernel
theorem dX4_round_77 : decode cX4_round 77 = .ok (.iconst 0, 1) := by decide +kernel
theorem dX4_round_78 : decode cX4_round 78 = .ok (.goto 52, 3) := by decide +kernel
theorem dX4_round_81 : decode cX4_round 81 = .ok (.iload_n 2, 1) := by decide +kernel
theorem dX4_round_82 : decode cX4_round 82 = .ok (.iconst 2, 1) := by decide +kernel
theorem dX4_round_83 : decode cX4_round 83 = .ok (.if_icmp .ne 15, 3) := by decide +kernel
theorem dX4_round_86 : decode cX4_round 86 = .ok (.iload_n 3, 1) := by decide +kernel
theorem dX4_round_87 : decode cX4_round 87 = .ok (.ifCond .lt 7, 3) := by decide +kernel
theorem dX4_round_90 : decode cX4_round 90 = .ok (.iconst 1, 1) := by decide +kernel
theorem dX4_round_91 : decode cX4_round 91 = .ok (.goto 39, 3) := by decide +kernel
theorem dX4_round_94 : decode cX4_round 94 = .ok (.iconst 0, 1) := by decide +kernel
theorem dX4_round_95 : decode cX4_round 95 = .ok (.goto 35, 3) := by decide +kernel
theorem dX4_round_98 : decode cX4_round 98 = .ok (.iload_n 2, 1) := by decide +kernel
theorem dX4_round_99 : decode cX4_round 99 = .ok (.iconst 3, 1) := by decide +kernel
theorem dX4_round_100 : decode cX4_round 100 = .ok (.if_icmp .ne 29, 3) := by decide +kernel
theorem dX4_round_103 : decode cX4_round 103 = .ok (.iload_n 3, 1) := by decide +kernel
theorem dX4_round_104 : decode cX4_round 104 = .ok (.ifCond .gt 21, 3) := by decide +kernel
theorem dX4_round_107 : decode cX4_round 107 = .ok (.iload_n 3, 1) := by decide +kernel
theorem dX4_round_108 : decode cX4_round 108 = .ok (.ifCond .ne 21, 3) := by decide +kernel
theorem dX4_round_111 : decode cX4_round 111 = .ok (.aload_n 0, 1) := by decide +kernel
theorem dX4_round_112 : decode cX4_round 112 = .ok (.getfield 36, 3) := by decide +kernel
theorem dX4_round_115 : decode cX4_round 115 = .ok (.sipush 256, 3) := by decide +kernel
theorem dX4_round_118 : decode cX4_round 118 = .ok (.iaload, 1) := by decide +kernel
theorem dX4_round_119 : decode cX4_round 119 = .ok (.iconst 2, 1) := by decide +kernel
theorem dX4_round_120 : decode cX4_round 120 = .ok (.irem, 1) := by decide +kernel
theorem dX4_round_121 : decode cX4_round 121 = .ok (.iconst 1, 1) := by decide +kernel
theorem dX4_round_122 : decode cX4_round 122 = .ok (.if_icmp .ne 7, 3) := by decide +kernel
theorem dX4_round_125 : decode cX4_round 125 = .ok (.iconst 1, 1) := by decide +kernel
theorem dX4_round_126 : decode cX4_round 126 = .ok (.goto 4, 3) := by decide +kernel
theorem dX4_round_129 : decode cX4_round 129 = .ok (.iconst 0, 1) := by decide +kernel
theorem dX4_round_130 : decode cX4_round 130 = .ok (.istore 4, 2) := by decide +kernel
theorem dX4_round_132 : decode cX4_round 132 = .ok (.aload_n 0, 1) := by decide +kernel
theorem dX4_round_133 : decode cX4_round 133 = .ok (.bipush 18, 2) := by decide +kernel
theorem dX4_round_135 : decode cX4_round 135 = .ok (.aload_n 0, 1) := by decide +kernel
theorem dX4_round_136 : decode cX4_round 136 = .ok (.getfield 39, 3) := by decide +kernel
theorem dX4_round_139 : decode cX4_round 139 = .ok (.iload_n 1, 1) := by decide +kernel
theorem dX4_round_140 : decode cX4_round 140 = .ok (.iaload, 1) := by decide +kernel
theorem dX4_round_141 : decode cX4_round 141 = .ok (.i2l, 1) := by decide +kernel
theorem dX4_round_142 : decode cX4_round 142 = .ok (.invokevirtual 64, 3) := by decide +kernel
theorem dX4_round_145 : decode cX4_round 145 = .ok (.iload 4, 2) := by decide +kernel
theorem dX4_round_147 : decode cX4_round 147 = .ok (.ifCond .eq 14, 3) := by decide +kernel
theorem dX4_round_150 : decode cX4_round 150 = .ok (.aload_n 0, 1) := by decide +kernel
theorem dX4_round_151 : decode cX4_round 151 = .ok (.bipush 16, 2) := by decide +kernel
theorem dX4_round_153 : decode cX4_round 153 = .ok (.bipush 16, 2) := by decide +kernel
theorem dX4_round_155 : decode cX4_round 155 = .ok (.bipush 18, 2) := by decide +kernel
theorem dX4_round_157 : decode cX4_round 157 = .ok (.iconst 1, 1) := by decide +kernel
theorem dX4_round_158 : decode cX4_round 158 = .ok (.invokevirtual 106, 3) := by decide +kernel
theorem dX4_round_161 : decode cX4_round 161 = .ok (.return_, 1) := by decide +kernel
theorem dX4_put_0 : decode cX4_put 0 = .ok (.aload_n 0, 1) := by decide +kernel
theorem dX4_put_1 : decode cX4_put 1 = .ok (.iconst 4, 1) := by decide +kernel
theorem dX4_put_2 : decode cX4_put 2 = .ok (.iconst 1, 1) := by decide +kernel
theorem dX4_put_3 : decode cX4_put 3 = .ok (.aload_n 0, 1) := by decide +kernel
theorem dX4_put_4 : decode cX4_put 4 = .ok (.getfield 24, 3) := by decide +kernel
theorem dX4_put_7 : decode cX4_put 7 = .ok (.iload_n 1, 1) := by decide +kernel
theorem dX4_put_8 : decode cX4_put 8 = .ok (.laload, 1) := by decide +kernel
theorem dX4_put_9 : decode cX4_put 9 = .ok (.invokevirtual 102, 3) := by decide +kernel
theorem dX4_put_12 : decode cX4_put 12 = .ok (.aload_n 0, 1) := by decide +kernel
theorem dX4_put_13 : decode cX4_put 13 = .ok (.iconst 5, 1) := by decide +kernel
theorem dX4_put_14 : decode cX4_put 14 = .ok (.iconst 0, 1) := by decide +kernel
theorem dX4_put_15 : decode cX4_put 15 = .ok (.iconst 4, 1) := by decide +kernel
theorem dX4_put_16 : decode cX4_put 16 = .ok (.iconst (-1), 1) := by decide +kernel
theorem dX4_put_17 : decode cX4_put 17 = .ok (.invokevirtual 106, 3) := by decide +kernel
theorem dX4_put_20 : decode cX4_put 20 = .ok (.aload_n 0, 1) := by decide +kernel
theorem dX4_put_21 : decode cX4_put 21 = .ok (.bipush 6, 2) := by decide +kernel
theorem dX4_put_23 : decode cX4_put 23 = .ok (.iconst 5, 1) := by decide +kernel
theorem dX4_put_24 : decode cX4_put 24 = .ok (.aload_n 0, 1) := by decide +kernel
theorem dX4_put_25 : decode cX4_put 25 = .ok (.getfield 21, 3) := by decide +kernel
theorem dX4_put_28 : decode cX4_put 28 = .ok (.iload_n 1, 1) := by decide +kernel
theorem dX4_put_29 : decode cX4_put 29 = .ok (.laload, 1) := by decide +kernel
theorem dX4_put_30 : decode cX4_put 30 = .ok (.invokevirtual 102, 3) := by decide +kernel
theorem dX4_put_33 : decode cX4_put 33 = .ok (.aload_n 0, 1) := by decide +kernel
theorem dX4_put_34 : decode cX4_put 34 = .ok (.bipush 7, 2) := by decide +kernel
theorem dX4_put_36 : decode cX4_put 36 = .ok (.iconst 1, 1) := by decide +kernel
theorem dX4_put_37 : decode cX4_put 37 = .ok (.aload_n 0, 1) := by decide +kernel
theorem dX4_put_38 : decode cX4_put 38 = .ok (.getfield 17, 3) := by decide +kernel
theorem dX4_put_41 : decode cX4_put 41 = .ok (.iload_n 1, 1) := by decide +kernel
theorem dX4_put_42 : decode cX4_put 42 = .ok (.laload, 1) := by decide +kernel
theorem dX4_put_43 : decode cX4_put 43 = .ok (.invokevirtual 102, 3) := by decide +kernel
theorem dX4_put_46 : decode cX4_put 46 = .ok (.aload_n 0, 1) := by decide +kernel
theorem dX4_put_47 : decode cX4_put 47 = .ok (.bipush 6, 2) := by decide +kernel
theorem dX4_put_49 : decode cX4_put 49 = .ok (.aload_n 0, 1) := by decide +kernel
theorem dX4_put_50 : decode cX4_put 50 = .ok (.getfield 30, 3) := by decide +kernel
theorem dX4_put_53 : decode cX4_put 53 = .ok (.iload_n 1, 1) := by decide +kernel
theorem dX4_put_54 : decode cX4_put 54 = .ok (.iaload, 1) := by decide +kernel
theorem dX4_put_55 : decode cX4_put 55 = .ok (.invokevirtual 117, 3) := by decide +kernel
theorem dX4_put_58 : decode cX4_put 58 = .ok (.aload_n 0, 1) := by decide +kernel
theorem dX4_put_59 : decode cX4_put 59 = .ok (.bipush 18, 2) := by decide +kernel
theorem dX4_put_61 : decode cX4_put 61 = .ok (.aload_n 0, 1) := by decide +kernel
theorem dX4_put_62 : decode cX4_put 62 = .ok (.iload_n 1, 1) := by decide +kernel
theorem dX4_put_63 : decode cX4_put 63 = .ok (.invokevirtual 120, 3) := by decide +kernel
theorem dX4_put_66 : decode cX4_put 66 = .ok (.invokevirtual 64, 3) := by decide +kernel
theorem dX4_put_69 : decode cX4_put 69 = .ok (.aload_n 0, 1) := by decide +kernel
theorem dX4_put_70 : decode cX4_put 70 = .ok (.bipush 19, 2) := by decide +kernel
theorem dX4_put_72 : decode cX4_put 72 = .ok (.bipush 16, 2) := by decide +kernel
theorem dX4_put_74 : decode cX4_put 74 = .ok (.bipush 18, 2) := by decide +kernel
theorem dX4_put_76 : decode cX4_put 76 = .ok (.iconst (-1), 1) := by decide +kernel
theorem dX4_put_77 : decode cX4_put 77 = .ok (.invokevirtual 106, 3) := by decide +kernel
theorem dX4_put_80 : decode cX4_put 80 = .ok (.aload_n 0, 1) := by decide +kernel
theorem dX4_put_81 : decode cX4_put 81 = .ok (.getfield 39, 3) := by decide +kernel
theorem dX4_put_84 : decode cX4_put 84 = .ok (.bipush 19, 2) := by decide +kernel
theorem dX4_put_86 : decode cX4_put 86 = .ok (.iaload, 1) := by decide +kernel
theorem dX4_put_87 : decode cX4_put 87 = .ok (.ifCond .ge 7, 3) := by decide +kernel
theorem dX4_put_90 : decode cX4_put 90 = .ok (.iconst 1, 1) := by decide +kernel
theorem dX4_put_91 : decode cX4_put 91 = .ok (.goto 4, 3) := by decide +kernel
theorem dX4_put_94 : decode cX4_put 94 = .ok (.iconst 0, 1) := by decide +kernel
theorem dX4_put_95 : decode cX4_put 95 = .ok (.istore_n 2, 1) := by decide +kernel
theorem dX4_put_96 : decode cX4_put 96 = .ok (.aload_n 0, 1) := by decide +kernel
theorem dX4_put_97 : decode cX4_put 97 = .ok (.bipush 18, 2) := by decide +kernel
theorem dX4_put_99 : decode cX4_put 99 = .ok (.aload_n 0, 1) := by decide +kernel
theorem dX4_put_100 : decode cX4_put 100 = .ok (.iload_n 1, 1) := by decide +kernel
theorem dX4_put_101 : decode cX4_put 101 = .ok (.invokevirtual 124, 3) := by decide +kernel
theorem dX4_put_104 : decode cX4_put 104 = .ok (.invokevirtual 64, 3) := by decide +kernel
theorem dX4_put_107 : decode cX4_put 107 = .ok (.aload_n 0, 1) := by decide +kernel
theorem dX4_put_108 : decode cX4_put 108 = .ok (.bipush 19, 2) := by decide +kernel
theorem dX4_put_110 : decode cX4_put 110 = .ok (.bipush 16, 2) := by decide +kernel
theorem dX4_put_112 : decode cX4_put 112 = .ok (.bipush 18, 2) := by decide +kernel
theorem dX4_put_114 : decode cX4_put 114 = .ok (.iconst (-1), 1) := by decide +kernel
theorem dX4_put_115 : decode cX4_put 115 = .ok (.invokevirtual 106, 3) := by decide +kernel
theorem dX4_put_118 : decode cX4_put 118 = .ok (.iload_n 2, 1) := by decide +kernel
theorem dX4_put_119 : decode cX4_put 119 = .ok (.ifCond .ne 20, 3) := by decide +kernel
theorem dX4_put_122 : decode cX4_put 122 = .ok (.aload_n 0, 1) := by decide +kernel
theorem dX4_put_123 : decode cX4_put 123 = .ok (.getfield 39, 3) := by decide +kernel
theorem dX4_put_126 : decode cX4_put 126 = .ok (.bipush 19, 2) := by decide +kernel
theorem dX4_put_128 : decode cX4_put 128 = .ok (.iaload, 1) := by decide +kernel
theorem dX4_put_129 : decode cX4_put 129 = .ok (.ifCond .gt 10, 3) := by decide +kernel
theorem dX4_put_132 : decode cX4_put 132 = .ok (.aload_n 0, 1) := by decide +kernel
theorem dX4_put_133 : decode cX4_put 133 = .ok (.bipush 16, 2) := by decide +kernel
theorem dX4_put_135 : decode cX4_put 135 = .ok (.invokevirtual 127, 3) := by decide +kernel
theorem dX4_put_138 : decode cX4_put 138 = .ok (.lreturn, 1) := by decide +kernel
theorem dX4_put_139 : decode cX4_put 139 = .ok (.aload_n 0, 1) := by decide +kernel
theorem dX4_put_140 : decode cX4_put 140 = .ok (.iconst 1, 1) := by decide +kernel
theorem dX4_put_141 : decode cX4_put 141 = .ok (.putfield 113, 3) := by decide +kernel
theorem dX4_put_144 : decode cX4_put 144 = .ok (.aload_n 0, 1) := by decide +kernel
theorem dX4_put_145 : decode cX4_put 145 = .ok (.getfield 27, 3) := by decide +kernel
theorem dX4_put_148 : decode cX4_put 148 = .ok (.iload_n 1, 1) := by decide +kernel
theorem dX4_put_149 : decode cX4_put 149 = .ok (.iaload, 1) := by decide +kernel
theorem dX4_put_150 : decode cX4_put 150 = .ok (.ifCond .ne 21, 3) := by decide +kernel
theorem dX4_put_153 : decode cX4_put 153 = .ok (.iload_n 2, 1) := by decide +kernel
theorem dX4_put_154 : decode cX4_put 154 = .ok (.ifCond .eq 11, 3) := by decide +kernel
theorem dX4_put_157 : decode cX4_put 157 = .ok (.aload_n 0, 1) := by decide +kernel
theorem dX4_put_158 : decode cX4_put 158 = .ok (.iload_n 1, 1) := by decide +kernel
theorem dX4_put_159 : decode cX4_put 159 = .ok (.invokevirtual 120, 3) := by decide +kernel
theorem dX4_put_162 : decode cX4_put 162 = .ok (.goto 8, 3) := by decide +kernel
theorem dX4_put_165 : decode cX4_put 165 = .ok (.aload_n 0, 1) := by decide +kernel
theorem dX4_put_166 : decode cX4_put 166 = .ok (.iload_n 1, 1) := by decide +kernel
theorem dX4_put_167 : decode cX4_put 167 = .ok (.invokevirtual 124, 3) := by decide +kernel
theorem dX4_put_170 : decode cX4_put 170 = .ok (.lreturn, 1) := by decide +kernel
theorem dX4_put_171 : decode cX4_put 171 = .ok (.aload_n 0, 1) := by decide +kernel
theorem dX4_put_172 : decode cX4_put 172 = .ok (.getfield 27, 3) := by decide +kernel
theorem dX4_put_175 : decode cX4_put 175 = .ok (.iload_n 1, 1) := by decide +kernel
theorem dX4_put_176 : decode cX4_put 176 = .ok (.iaload, 1) := by decide +kernel
theorem dX4_put_177 : decode cX4_put 177 = .ok (.iconst 1, 1) := by decide +kernel
theorem dX4_put_178 : decode cX4_put 178 = .ok (.if_icmp .ne 17, 3) := by decide +kernel
theorem dX4_put_181 : decode cX4_put 181 = .ok (.aload_n 0, 1) := by decide +kernel
theorem dX4_put_182 : decode cX4_put 182 = .ok (.iload_n 1, 1) := by decide +kernel
theorem dX4_put_183 : decode cX4_put 183 = .ok (.aload_n 0, 1) := by decide +kernel
theorem dX4_put_184 : decode cX4_put 184 = .ok (.bipush 16, 2) := by decide +kernel
theorem dX4_put_186 : decode cX4_put 186 = .ok (.invokevirtual 127, 3) := by decide +kernel
theorem dX4_put_189 : decode cX4_put 189 = .ok (.invokevirtual 99, 3) := by decide +kernel
theorem dX4_put_192 : decode cX4_put 192 = .ok (.goto 4, 3) := by decide +kernel
theorem dX4_put_195 : decode cX4_put 195 = .ok (.lconst 0, 1) := by decide +kernel
theorem dX4_put_196 : decode cX4_put 196 = .ok (.lreturn, 1) := by decide +kernel
theorem dX4_apply_0 : decode cX4_apply 0 = .ok (.aload_n 0, 1) := by decide +kernel
theorem dX4_apply_1 : decode cX4_apply 1 = .ok (.iload_n 2, 1) := by decide +kernel
theorem dX4_apply_2 : decode cX4_apply 2 = .ok (.invokevirtual 88, 3) := by decide +kernel
theorem dX4_apply_5 : decode cX4_apply 5 = .ok (.ifCond .ne 21, 3) := by decide +kernel
theorem dX4_apply_8 : decode cX4_apply 8 = .ok (.aload_n 0, 1) := by decide +kernel
theorem dX4_apply_9 : decode cX4_apply 9 = .ok (.iload 5, 2) := by decide +kernel
theorem dX4_apply_11 : decode cX4_apply 11 = .ok (.invokevirtual 88, 3) := by decide +kernel
theorem dX4_apply_14 : decode cX4_apply 14 = .ok (.ifCond .ne 12, 3) := by decide +kernel
theorem dX4_apply_17 : decode cX4_apply 17 = .ok (.iload_n 1, 1) := by decide +kernel
theorem dX4_apply_18 : decode cX4_apply 18 = .ok (.ifCond .lt 8, 3) := by decide +kernel
theorem dX4_apply_21 : decode cX4_apply 21 = .ok (.iload_n 1, 1) := by decide +kernel
theorem dX4_apply_22 : decode cX4_apply 22 = .ok (.iconst 3, 1) := by decide +kernel
theorem dX4_apply_23 : decode cX4_apply 23 = .ok (.if_icmp .le 5, 3) := by decide +kernel
theorem dX4_apply_26 : decode cX4_apply 26 = .ok (.lconst 0, 1) := by decide +kernel
theorem dX4_apply_27 : decode cX4_apply 27 = .ok (.lreturn, 1) := by decide +kernel
theorem dX4_apply_28 : decode cX4_apply 28 = .ok (.aload_n 0, 1) := by decide +kernel
theorem dX4_apply_29 : decode cX4_apply 29 = .ok (.bipush 8, 2) := by decide +kernel
theorem dX4_apply_31 : decode cX4_apply 31 = .ok (.iload_n 2, 1) := by decide +kernel
theorem dX4_apply_32 : decode cX4_apply 32 = .ok (.lload_n 3, 1) := by decide +kernel
theorem dX4_apply_33 : decode cX4_apply 33 = .ok (.invokevirtual 130, 3) := by decide +kernel
theorem dX4_apply_36 : decode cX4_apply 36 = .ok (.aload_n 0, 1) := by decide +kernel
theorem dX4_apply_37 : decode cX4_apply 37 = .ok (.bipush 10, 2) := by decide +kernel
theorem dX4_apply_39 : decode cX4_apply 39 = .ok (.iload 5, 2) := by decide +kernel
theorem dX4_apply_41 : decode cX4_apply 41 = .ok (.lload 6, 2) := by decide +kernel
theorem dX4_apply_43 : decode cX4_apply 43 = .ok (.invokevirtual 130, 3) := by decide +kernel
theorem dX4_apply_46 : decode cX4_apply 46 = .ok (.iload_n 1, 1) := by decide +kernel
theorem dX4_apply_47 : decode cX4_apply 47 = .ok (.iconst 3, 1) := by decide +kernel
theorem dX4_apply_48 : decode cX4_apply 48 = .ok (.if_icmp .ne 103, 3) := by decide +kernel
theorem dX4_apply_51 : decode cX4_apply 51 = .ok (.aload_n 0, 1) := by decide +kernel
theorem dX4_apply_52 : decode cX4_apply 52 = .ok (.getfield 39, 3) := by decide +kernel
theorem dX4_apply_55 : decode cX4_apply 55 = .ok (.bipush 10, 2) := by decide +kernel
theorem dX4_apply_57 : decode cX4_apply 57 = .ok (.iaload, 1) := by decide +kernel
theorem dX4_apply_58 : decode cX4_apply 58 = .ok (.ifCond .ne 93, 3) := by decide +kernel
theorem dX4_apply_61 : decode cX4_apply 61 = .ok (.aload_n 0, 1) := by decide +kernel
theorem dX4_apply_62 : decode cX4_apply 62 = .ok (.aload_n 0, 1) := by decide +kernel
theorem dX4_apply_63 : decode cX4_apply 63 = .ok (.getfield 27, 3) := by decide +kernel
theorem dX4_apply_66 : decode cX4_apply 66 = .ok (.iload_n 2, 1) := by decide +kernel
theorem dX4_apply_67 : decode cX4_apply 67 = .ok (.iaload, 1) := by decide +kernel
theorem dX4_apply_68 : decode cX4_apply 68 = .ok (.ifCond .ne 7, 3) := by decide +kernel
theorem dX4_apply_71 : decode cX4_apply 71 = .ok (.iconst 0, 1) := by decide +kernel
theorem dX4_apply_72 : decode cX4_apply 72 = .ok (.goto 4, 3) := by decide +kernel
theorem dX4_apply_75 : decode cX4_apply 75 = .ok (.iconst 1, 1) := by decide +kernel
theorem dX4_apply_76 : decode cX4_apply 76 = .ok (.putfield 42, 3) := by decide +kernel
theorem dX4_apply_79 : decode cX4_apply 79 = .ok (.aload_n 0, 1) := by decide +kernel
theorem dX4_apply_80 : decode cX4_apply 80 = .ok (.getfield 42, 3) := by decide +kernel
theorem dX4_apply_83 : decode cX4_apply 83 = .ok (.ifCond .le 5, 3) := by decide +kernel
theorem dX4_apply_86 : decode cX4_apply 86 = .ok (.lconst 0, 1) := by decide +kernel
theorem dX4_apply_87 : decode cX4_apply 87 = .ok (.lreturn, 1) := by decide +kernel
theorem dX4_apply_88 : decode cX4_apply 88 = .ok (.aload_n 0, 1) := by decide +kernel
theorem dX4_apply_89 : decode cX4_apply 89 = .ok (.iconst 0, 1) := by decide +kernel
theorem dX4_apply_90 : decode cX4_apply 90 = .ok (.lconst 0, 1) := by decide +kernel
theorem dX4_apply_91 : decode cX4_apply 91 = .ok (.invokevirtual 64, 3) := by decide +kernel
theorem dX4_apply_94 : decode cX4_apply 94 = .ok (.aload_n 0, 1) := by decide +kernel
theorem dX4_apply_95 : decode cX4_apply 95 = .ok (.iconst 1, 1) := by decide +kernel
theorem dX4_apply_96 : decode cX4_apply 96 = .ok (.lconst 1, 1) := by decide +kernel
theorem dX4_apply_97 : decode cX4_apply 97 = .ok (.invokevirtual 64, 3) := by decide +kernel
theorem dX4_apply_100 : decode cX4_apply 100 = .ok (.aload_n 0, 1) := by decide +kernel
theorem dX4_apply_101 : decode cX4_apply 101 = .ok (.getfield 39, 3) := by decide +kernel
theorem dX4_apply_104 : decode cX4_apply 104 = .ok (.bipush 8, 2) := by decide +kernel
theorem dX4_apply_106 : decode cX4_apply 106 = .ok (.iaload, 1) := by decide +kernel
theorem dX4_apply_107 : decode cX4_apply 107 = .ok (.ifCond .le 11, 3) := by decide +kernel
theorem dX4_apply_110 : decode cX4_apply 110 = .ok (.aload_n 0, 1) := by decide +kernel
theorem dX4_apply_111 : decode cX4_apply 111 = .ok (.iload_n 2, 1) := by decide +kernel
theorem dX4_apply_112 : decode cX4_apply 112 = .ok (.invokevirtual 124, 3) := by decide +kernel
theorem dX4_apply_115 : decode cX4_apply 115 = .ok (.goto 26, 3) := by decide +kernel
theorem dX4_apply_118 : decode cX4_apply 118 = .ok (.aload_n 0, 1) := by decide +kernel
theorem dX4_apply_119 : decode cX4_apply 119 = .ok (.getfield 39, 3) := by decide +kernel
theorem dX4_apply_122 : decode cX4_apply 122 = .ok (.bipush 8, 2) := by decide +kernel
theorem dX4_apply_124 : decode cX4_apply 124 = .ok (.iaload, 1) := by decide +kernel
theorem dX4_apply_125 : decode cX4_apply 125 = .ok (.ifCond .ge 11, 3) := by decide +kernel
theorem dX4_apply_128 : decode cX4_apply 128 = .ok (.aload_n 0, 1) := by decide +kernel
theorem dX4_apply_129 : decode cX4_apply 129 = .ok (.iload_n 2, 1) := by decide +kernel
theorem dX4_apply_130 : decode cX4_apply 130 = .ok (.invokevirtual 120, 3) := by decide +kernel
theorem dX4_apply_133 : decode cX4_apply 133 = .ok (.goto 8, 3) := by decide +kernel
theorem dX4_apply_136 : decode cX4_apply 136 = .ok (.aload_n 0, 1) := by decide +kernel
theorem dX4_apply_137 : decode cX4_apply 137 = .ok (.iload_n 2, 1) := by decide +kernel
theorem dX4_apply_138 : decode cX4_apply 138 = .ok (.invokevirtual 133, 3) := by decide +kernel
theorem dX4_apply_141 : decode cX4_apply 141 = .ok (.lstore 8, 2) := by decide +kernel
theorem dX4_apply_143 : decode cX4_apply 143 = .ok (.aload_n 0, 1) := by decide +kernel
theorem dX4_apply_144 : decode cX4_apply 144 = .ok (.iconst 1, 1) := by decide +kernel
theorem dX4_apply_145 : decode cX4_apply 145 = .ok (.putfield 113, 3) := by decide +kernel
theorem dX4_apply_148 : decode cX4_apply 148 = .ok (.lload 8, 2) := by decide +kernel
theorem dX4_apply_150 : decode cX4_apply 150 = .ok (.lreturn, 1) := by decide +kernel
theorem dX4_apply_151 : decode cX4_apply 151 = .ok (.iload_n 1, 1) := by decide +kernel
theorem dX4_apply_152 : decode cX4_apply 152 = .ok (.iconst 2, 1) := by decide +kernel
theorem dX4_apply_153 : decode cX4_apply 153 = .ok (.if_icmp .ge 53, 3) := by decide +kernel
theorem dX4_apply_156 : decode cX4_apply 156 = .ok (.aload_n 0, 1) := by decide +kernel
theorem dX4_apply_157 : decode cX4_apply 157 = .ok (.bipush 12, 2) := by decide +kernel
theorem dX4_apply_159 : decode cX4_apply 159 = .ok (.bipush 8, 2) := by decide +kernel
theorem dX4_apply_161 : decode cX4_apply 161 = .ok (.bipush 11, 2) := by decide +kernel
theorem dX4_apply_163 : decode cX4_apply 163 = .ok (.invokevirtual 68, 3) := by decide +kernel
theorem dX4_apply_166 : decode cX4_apply 166 = .ok (.aload_n 0, 1) := by decide +kernel
theorem dX4_apply_167 : decode cX4_apply 167 = .ok (.bipush 13, 2) := by decide +kernel
theorem dX4_apply_169 : decode cX4_apply 169 = .ok (.bipush 10, 2) := by decide +kernel
theorem dX4_apply_171 : decode cX4_apply 171 = .ok (.bipush 9, 2) := by decide +kernel
theorem dX4_apply_173 : decode cX4_apply 173 = .ok (.invokevirtual 68, 3) := by decide +kernel
theorem dX4_apply_176 : decode cX4_apply 176 = .ok (.aload_n 0, 1) := by decide +kernel
theorem dX4_apply_177 : decode cX4_apply 177 = .ok (.iconst 0, 1) := by decide +kernel
theorem dX4_apply_178 : decode cX4_apply 178 = .ok (.bipush 12, 2) := by decide +kernel
theorem dX4_apply_180 : decode cX4_apply 180 = .ok (.bipush 13, 2) := by decide +kernel
theorem dX4_apply_182 : decode cX4_apply 182 = .ok (.iload_n 1, 1) := by decide +kernel
theorem dX4_apply_183 : decode cX4_apply 183 = .ok (.ifCond .ne 7, 3) := by decide +kernel
theorem dX4_apply_186 : decode cX4_apply 186 = .ok (.iconst 1, 1) := by decide +kernel
theorem dX4_apply_187 : decode cX4_apply 187 = .ok (.goto 4, 3) := by decide +kernel
theorem dX4_apply_190 : decode cX4_apply 190 = .ok (.iconst (-1), 1) := by decide +kernel
theorem dX4_apply_191 : decode cX4_apply 191 = .ok (.invokevirtual 106, 3) := by decide +kernel
theorem dX4_apply_194 : decode cX4_apply 194 = .ok (.aload_n 0, 1) := by decide +kernel
theorem dX4_apply_195 : decode cX4_apply 195 = .ok (.iconst 1, 1) := by decide +kernel
theorem dX4_apply_196 : decode cX4_apply 196 = .ok (.bipush 9, 2) := by decide +kernel
theorem dX4_apply_198 : decode cX4_apply 198 = .ok (.bipush 11, 2) := by decide +kernel
theorem dX4_apply_200 : decode cX4_apply 200 = .ok (.invokevirtual 68, 3) := by decide +kernel
theorem dX4_apply_203 : decode cX4_apply 203 = .ok (.goto 73, 3) := by decide +kernel
theorem dX4_apply_206 : decode cX4_apply 206 = .ok (.iload_n 1, 1) := by decide +kernel
theorem dX4_apply_207 : decode cX4_apply 207 = .ok (.iconst 2, 1) := by decide +kernel
theorem dX4_apply_208 : decode cX4_apply 208 = .ok (.if_icmp .ne 24, 3) := by decide +kernel
theorem dX4_apply_211 : decode cX4_apply 211 = .ok (.aload_n 0, 1) := by decide +kernel
theorem dX4_apply_212 : decode cX4_apply 212 = .ok (.iconst 0, 1) := by decide +kernel
theorem dX4_apply_213 : decode cX4_apply 213 = .ok (.bipush 8, 2) := by decide +kernel
theorem dX4_apply_215 : decode cX4_apply 215 = .ok (.bipush 10, 2) := by decide +kernel
theorem dX4_apply_217 : decode cX4_apply 217 = .ok (.invokevirtual 68, 3) := by decide +kernel
theorem dX4_apply_220 : decode cX4_apply 220 = .ok (.aload_n 0, 1) := by decide +kernel
theorem dX4_apply_221 : decode cX4_apply 221 = .ok (.iconst 1, 1) := by decide +kernel
theorem dX4_apply_222 : decode cX4_apply 222 = .ok (.bipush 9, 2) := by decide +kernel
theorem dX4_apply_224 : decode cX4_apply 224 = .ok (.bipush 11, 2) := by decide +kernel
theorem dX4_apply_226 : decode cX4_apply 226 = .ok (.invokevirtual 68, 3) := by decide +kernel
theorem dX4_apply_229 : decode cX4_apply 229 = .ok (.goto 47, 3) := by decide +kernel
theorem dX4_apply_232 : decode cX4_apply 232 = .ok (.aload_n 0, 1) := by decide +kernel
theorem dX4_apply_233 : decode cX4_apply 233 = .ok (.iconst 0, 1) := by decide +kernel
theorem dX4_apply_234 : decode cX4_apply 234 = .ok (.bipush 8, 2) := by decide +kernel
theorem dX4_apply_236 : decode cX4_apply 236 = .ok (.bipush 11, 2) := by decide +kernel
theorem dX4_apply_238 : decode cX4_apply 238 = .ok (.invokevirtual 68, 3) := by decide +kernel
theorem dX4_apply_241 : decode cX4_apply 241 = .ok (.aload_n 0, 1) := by decide +kernel
theorem dX4_apply_242 : decode cX4_apply 242 = .ok (.iconst 1, 1) := by decide +kernel
theorem dX4_apply_243 : decode cX4_apply 243 = .ok (.bipush 9, 2) := by decide +kernel
theorem dX4_apply_245 : decode cX4_apply 245 = .ok (.bipush 10, 2) := by decide +kernel
theorem dX4_apply_247 : decode cX4_apply 247 = .ok (.invokevirtual 68, 3) := by decide +kernel
theorem dX4_apply_250 : decode cX4_apply 250 = .ok (.aload_n 0, 1) := by decide +kernel
theorem dX4_apply_251 : decode cX4_apply 251 = .ok (.getfield 39, 3) := by decide +kernel
theorem dX4_apply_254 : decode cX4_apply 254 = .ok (.iconst 0, 1) := by decide +kernel
theorem dX4_apply_255 : decode cX4_apply 255 = .ok (.aload_n 0, 1) := by decide +kernel
theorem dX4_apply_256 : decode cX4_apply 256 = .ok (.getfield 39, 3) := by decide +kernel
theorem dX4_apply_259 : decode cX4_apply 259 = .ok (.iconst 0, 1) := by decide +kernel
theorem dX4_apply_260 : decode cX4_apply 260 = .ok (.iaload, 1) := by decide +kernel
theorem dX4_apply_261 : decode cX4_apply 261 = .ok (.aload_n 0, 1) := by decide +kernel
theorem dX4_apply_262 : decode cX4_apply 262 = .ok (.getfield 39, 3) := by decide +kernel
theorem dX4_apply_265 : decode cX4_apply 265 = .ok (.iconst 1, 1) := by decide +kernel
theorem dX4_apply_266 : decode cX4_apply 266 = .ok (.iaload, 1) := by decide +kernel
theorem dX4_apply_267 : decode cX4_apply 267 = .ok (.imul, 1) := by decide +kernel
theorem dX4_apply_268 : decode cX4_apply 268 = .ok (.iastore, 1) := by decide +kernel
theorem dX4_apply_269 : decode cX4_apply 269 = .ok (.aload_n 0, 1) := by decide +kernel
theorem dX4_apply_270 : decode cX4_apply 270 = .ok (.getfield 39, 3) := by decide +kernel
theorem dX4_apply_273 : decode cX4_apply 273 = .ok (.iconst 1, 1) := by decide +kernel
theorem dX4_apply_274 : decode cX4_apply 274 = .ok (.iconst 1, 1) := by decide +kernel
theorem dX4_apply_275 : decode cX4_apply 275 = .ok (.iastore, 1) := by decide +kernel
theorem dX4_apply_276 : decode cX4_apply 276 = .ok (.aload_n 0, 1) := by decide +kernel
theorem dX4_apply_277 : decode cX4_apply 277 = .ok (.iload_n 2, 1) := by decide +kernel
theorem dX4_apply_278 : decode cX4_apply 278 = .ok (.invokevirtual 133, 3) := by decide +kernel
theorem dX4_apply_281 : decode cX4_apply 281 = .ok (.lreturn, 1) := by decide +kernel
theorem dX4_convert_0 : decode cX4_convert 0 = .ok (.aload_n 0, 1) := by decide +kernel
theorem dX4_convert_1 : decode cX4_convert 1 = .ok (.iload_n 1, 1) := by decide +kernel
theorem dX4_convert_2 : decode cX4_convert 2 = .ok (.invokevirtual 88, 3) := by decide +kernel
theorem dX4_convert_5 : decode cX4_convert 5 = .ok (.ifCond .ne 12, 3) := by decide +kernel
theorem dX4_convert_8 : decode cX4_convert 8 = .ok (.aload_n 0, 1) := by decide +kernel
theorem dX4_convert_9 : decode cX4_convert 9 = .ok (.iload 4, 2) := by decide +kernel
theorem dX4_convert_11 : decode cX4_convert 11 = .ok (.invokevirtual 88, 3) := by decide +kernel
theorem dX4_convert_14 : decode cX4_convert 14 = .ok (.ifCond .eq 5, 3) := by decide +kernel
theorem dX4_convert_17 : decode cX4_convert 17 = .ok (.lconst 0, 1) := by decide +kernel
theorem dX4_convert_18 : decode cX4_convert 18 = .ok (.lreturn, 1) := by decide +kernel
theorem dX4_convert_19 : decode cX4_convert 19 = .ok (.aload_n 0, 1) := by decide +kernel
theorem dX4_convert_20 : decode cX4_convert 20 = .ok (.iconst 0, 1) := by decide +kernel
theorem dX4_convert_21 : decode cX4_convert 21 = .ok (.iload_n 1, 1) := by decide +kernel
theorem dX4_convert_22 : decode cX4_convert 22 = .ok (.lload_n 2, 1) := by decide +kernel
theorem dX4_convert_23 : decode cX4_convert 23 = .ok (.invokevirtual 130, 3) := by decide +kernel
theorem dX4_convert_26 : decode cX4_convert 26 = .ok (.aload_n 0, 1) := by decide +kernel
theorem dX4_convert_27 : decode cX4_convert 27 = .ok (.iload 4, 2) := by decide +kernel
theorem dX4_convert_29 : decode cX4_convert 29 = .ok (.invokevirtual 133, 3) := by decide +kernel
theorem dX4_convert_32 : decode cX4_convert 32 = .ok (.lreturn, 1) := by decide +kernel
theorem dX4_lost_0 : decode cX4_lost 0 = .ok (.aload_n 0, 1) := by decide +kernel
theorem dX4_lost_1 : decode cX4_lost 1 = .ok (.iconst 0, 1) := by decide +kernel
theorem dX4_lost_2 : decode cX4_lost 2 = .ok (.putfield 42, 3) := by decide +kernel
theorem dX4_lost_5 : decode cX4_lost 5 = .ok (.aload_n 0, 1) := by decide +kernel
theorem dX4_lost_6 : decode cX4_lost 6 = .ok (.getfield 113, 3) := by decide +kernel
theorem dX4_lost_9 : decode cX4_lost 9 = .ok (.ireturn, 1) := by decide +kernel
theorem dX4_common_0 : decode cX4_common 0 = .ok (.iconst 0, 1) := by decide +kernel
theorem dX4_common_1 : decode cX4_common 1 = .ok (.istore_n 1, 1) := by decide +kernel
theorem dX4_common_2 : decode cX4_common 2 = .ok (.aload_n 0, 1) := by decide +kernel
theorem dX4_common_3 : decode cX4_common 3 = .ok (.bipush 12, 2) := by decide +kernel
theorem dX4_common_5 : decode cX4_common 5 = .ok (.invokevirtual 60, 3) := by decide +kernel
theorem dX4_common_8 : decode cX4_common 8 = .ok (.ifCond .eq 12, 3) := by decide +kernel
theorem dX4_common_11 : decode cX4_common 11 = .ok (.aload_n 0, 1) := by decide +kernel
theorem dX4_common_12 : decode cX4_common 12 = .ok (.bipush 12, 2) := by decide +kernel
theorem dX4_common_14 : decode cX4_common 14 = .ok (.bipush 13, 2) := by decide +kernel
theorem dX4_common_16 : decode cX4_common 16 = .ok (.invokevirtual 71, 3) := by decide +kernel
theorem dX4_common_19 : decode cX4_common 19 = .ok (.return_, 1) := by decide +kernel
theorem dX4_common_20 : decode cX4_common 20 = .ok (.aload_n 0, 1) := by decide +kernel
theorem dX4_common_21 : decode cX4_common 21 = .ok (.getfield 36, 3) := by decide +kernel
theorem dX4_common_24 : decode cX4_common 24 = .ok (.sipush 192, 3) := by decide +kernel
theorem dX4_common_27 : decode cX4_common 27 = .ok (.iaload, 1) := by decide +kernel
theorem dX4_common_28 : decode cX4_common 28 = .ok (.iconst 2, 1) := by decide +kernel
theorem dX4_common_29 : decode cX4_common 29 = .ok (.irem, 1) := by decide +kernel
theorem dX4_common_30 : decode cX4_common 30 = .ok (.ifCond .ne 34, 3) := by decide +kernel
theorem dX4_common_33 : decode cX4_common 33 = .ok (.aload_n 0, 1) := by decide +kernel
theorem dX4_common_34 : decode cX4_common 34 = .ok (.getfield 36, 3) := by decide +kernel
theorem dX4_common_37 : decode cX4_common 37 = .ok (.sipush 208, 3) := by decide +kernel
theorem dX4_common_40 : decode cX4_common 40 = .ok (.iaload, 1) := by decide +kernel
theorem dX4_common_41 : decode cX4_common 41 = .ok (.iconst 2, 1) := by decide +kernel
theorem dX4_common_42 : decode cX4_common 42 = .ok (.irem, 1) := by decide +kernel
theorem dX4_common_43 : decode cX4_common 43 = .ok (.ifCond .ne 21, 3) := by decide +kernel
theorem dX4_common_46 : decode cX4_common 46 = .ok (.aload_n 0, 1) := by decide +kernel
theorem dX4_common_47 : decode cX4_common 47 = .ok (.bipush 12, 2) := by decide +kernel
theorem dX4_common_49 : decode cX4_common 49 = .ok (.invokevirtual 75, 3) := by decide +kernel
theorem dX4_common_52 : decode cX4_common 52 = .ok (.aload_n 0, 1) := by decide +kernel
theorem dX4_common_53 : decode cX4_common 53 = .ok (.bipush 13, 2) := by decide +kernel
theorem dX4_common_55 : decode cX4_common 55 = .ok (.invokevirtual 75, 3) := by decide +kernel
theorem dX4_common_58 : decode cX4_common 58 = .ok (.iinc 1 1, 3) := by decide +kernel
theorem dX4_common_61 : decode cX4_common 61 = .ok (.goto (-41), 3) := by decide +kernel
theorem dX4_common_64 : decode cX4_common 64 = .ok (.aload_n 0, 1) := by decide +kernel
theorem dX4_common_65 : decode cX4_common 65 = .ok (.bipush 12, 2) := by decide +kernel
theorem dX4_common_67 : decode cX4_common 67 = .ok (.invokevirtual 60, 3) := by decide +kernel
theorem dX4_common_70 : decode cX4_common 70 = .ok (.ifCond .ne 93, 3) := by decide +kernel
theorem dX4_common_73 : decode cX4_common 73 = .ok (.aload_n 0, 1) := by decide +kernel
theorem dX4_common_74 : decode cX4_common 74 = .ok (.getfield 36, 3) := by decide +kernel
theorem dX4_common_77 : decode cX4_common 77 = .ok (.sipush 192, 3) := by decide +kernel
theorem dX4_common_80 : decode cX4_common 80 = .ok (.iaload, 1) := by decide +kernel
theorem dX4_common_81 : decode cX4_common 81 = .ok (.iconst 2, 1) := by decide +kernel
theorem dX4_common_82 : decode cX4_common 82 = .ok (.irem, 1) := by decide +kernel
theorem dX4_common_83 : decode cX4_common 83 = .ok (.ifCond .ne 12, 3) := by decide +kernel
theorem dX4_common_86 : decode cX4_common 86 = .ok (.aload_n 0, 1) := by decide +kernel
theorem dX4_common_87 : decode cX4_common 87 = .ok (.bipush 12, 2) := by decide +kernel
theorem dX4_common_89 : decode cX4_common 89 = .ok (.invokevirtual 75, 3) := by decide +kernel
theorem dX4_common_92 : decode cX4_common 92 = .ok (.goto (-19), 3) := by decide +kernel
theorem dX4_common_95 : decode cX4_common 95 = .ok (.aload_n 0, 1) := by decide +kernel
theorem dX4_common_96 : decode cX4_common 96 = .ok (.getfield 36, 3) := by decide +kernel
theorem dX4_common_99 : decode cX4_common 99 = .ok (.sipush 208, 3) := by decide +kernel
theorem dX4_common_102 : decode cX4_common 102 = .ok (.iaload, 1) := by decide +kernel
theorem dX4_common_103 : decode cX4_common 103 = .ok (.iconst 2, 1) := by decide +kernel
theorem dX4_common_104 : decode cX4_common 104 = .ok (.irem, 1) := by decide +kernel
theorem dX4_common_105 : decode cX4_common 105 = .ok (.ifCond .ne 12, 3) := by decide +kernel
theorem dX4_common_108 : decode cX4_common 108 = .ok (.aload_n 0, 1) := by decide +kernel
theorem dX4_common_109 : decode cX4_common 109 = .ok (.bipush 13, 2) := by decide +kernel
theorem dX4_common_111 : decode cX4_common 111 = .ok (.invokevirtual 75, 3) := by decide +kernel
theorem dX4_common_114 : decode cX4_common 114 = .ok (.goto (-19), 3) := by decide +kernel
theorem dX4_common_117 : decode cX4_common 117 = .ok (.aload_n 0, 1) := by decide +kernel
theorem dX4_common_118 : decode cX4_common 118 = .ok (.bipush 12, 2) := by decide +kernel
theorem dX4_common_120 : decode cX4_common 120 = .ok (.bipush 13, 2) := by decide +kernel
theorem dX4_common_122 : decode cX4_common 122 = .ok (.invokevirtual 53, 3) := by decide +kernel
theorem dX4_common_125 : decode cX4_common 125 = .ok (.ifCond .lt 16, 3) := by decide +kernel
theorem dX4_common_128 : decode cX4_common 128 = .ok (.aload_n 0, 1) := by decide +kernel
theorem dX4_common_129 : decode cX4_common 129 = .ok (.bipush 12, 2) := by decide +kernel
theorem dX4_common_131 : decode cX4_common 131 = .ok (.bipush 12, 2) := by decide +kernel
theorem dX4_common_133 : decode cX4_common 133 = .ok (.bipush 13, 2) := by decide +kernel
theorem dX4_common_135 : decode cX4_common 135 = .ok (.invokevirtual 57, 3) := by decide +kernel
theorem dX4_common_138 : decode cX4_common 138 = .ok (.goto 13, 3) := by decide +kernel
theorem dX4_common_141 : decode cX4_common 141 = .ok (.aload_n 0, 1) := by decide +kernel
theorem dX4_common_142 : decode cX4_common 142 = .ok (.bipush 13, 2) := by decide +kernel
theorem dX4_common_144 : decode cX4_common 144 = .ok (.bipush 13, 2) := by decide +kernel
theorem dX4_common_146 : decode cX4_common 146 = .ok (.bipush 12, 2) := by decide +kernel
theorem dX4_common_148 : decode cX4_common 148 = .ok (.invokevirtual 57, 3) := by decide +kernel
theorem dX4_common_151 : decode cX4_common 151 = .ok (.aload_n 0, 1) := by decide +kernel
theorem dX4_common_152 : decode cX4_common 152 = .ok (.bipush 12, 2) := by decide +kernel
theorem dX4_common_154 : decode cX4_common 154 = .ok (.invokevirtual 60, 3) := by decide +kernel
theorem dX4_common_157 : decode cX4_common 157 = .ok (.ifCond .eq (-93), 3) := by decide +kernel
theorem dX4_common_160 : decode cX4_common 160 = .ok (.goto 3, 3) := by decide +kernel
theorem dX4_common_163 : decode cX4_common 163 = .ok (.aload_n 0, 1) := by decide +kernel
theorem dX4_common_164 : decode cX4_common 164 = .ok (.bipush 12, 2) := by decide +kernel
theorem dX4_common_166 : decode cX4_common 166 = .ok (.bipush 13, 2) := by decide +kernel
theorem dX4_common_168 : decode cX4_common 168 = .ok (.invokevirtual 71, 3) := by decide +kernel
theorem dX4_common_171 : decode cX4_common 171 = .ok (.iconst 0, 1) := by decide +kernel
theorem dX4_common_172 : decode cX4_common 172 = .ok (.istore_n 2, 1) := by decide +kernel
theorem dX4_common_173 : decode cX4_common 173 = .ok (.iload_n 2, 1) := by decide +kernel
theorem dX4_common_174 : decode cX4_common 174 = .ok (.iload_n 1, 1) := by decide +kernel
theorem dX4_common_175 : decode cX4_common 175 = .ok (.if_icmp .ge 19, 3) := by decide +kernel
theorem dX4_common_178 : decode cX4_common 178 = .ok (.aload_n 0, 1) := by decide +kernel
theorem dX4_common_179 : decode cX4_common 179 = .ok (.bipush 12, 2) := by decide +kernel
theorem dX4_common_181 : decode cX4_common 181 = .ok (.bipush 12, 2) := by decide +kernel
theorem dX4_common_183 : decode cX4_common 183 = .ok (.bipush 12, 2) := by decide +kernel
theorem dX4_common_185 : decode cX4_common 185 = .ok (.invokevirtual 49, 3) := by decide +kernel
theorem dX4_common_188 : decode cX4_common 188 = .ok (.iinc 2 1, 3) := by decide +kernel
theorem dX4_common_191 : decode cX4_common 191 = .ok (.goto (-18), 3) := by decide +kernel
theorem dX4_common_194 : decode cX4_common 194 = .ok (.aload_n 0, 1) := by decide +kernel
theorem dX4_common_195 : decode cX4_common 195 = .ok (.getfield 39, 3) := by decide +kernel
theorem dX4_common_198 : decode cX4_common 198 = .ok (.bipush 12, 2) := by decide +kernel
theorem dX4_common_200 : decode cX4_common 200 = .ok (.iconst 1, 1) := by decide +kernel
theorem dX4_common_201 : decode cX4_common 201 = .ok (.iastore, 1) := by decide +kernel
theorem dX4_common_202 : decode cX4_common 202 = .ok (.return_, 1) := by decide +kernel
theorem dX4_physical_0 : decode cX4_physical 0 = .ok (.aload_n 0, 1) := by decide +kernel
theorem dX4_physical_1 : decode cX4_physical 1 = .ok (.iload_n 1, 1) := by decide +kernel
theorem dX4_physical_2 : decode cX4_physical 2 = .ok (.invokevirtual 88, 3) := by decide +kernel
theorem dX4_physical_5 : decode cX4_physical 5 = .ok (.ifCond .ne 14, 3) := by decide +kernel
theorem dX4_physical_8 : decode cX4_physical 8 = .ok (.iload 4, 2) := by decide +kernel
theorem dX4_physical_10 : decode cX4_physical 10 = .ok (.ifCond .lt 9, 3) := by decide +kernel
theorem dX4_physical_13 : decode cX4_physical 13 = .ok (.iload 4, 2) := by decide +kernel
theorem dX4_physical_15 : decode cX4_physical 15 = .ok (.iconst 3, 1) := by decide +kernel
theorem dX4_physical_16 : decode cX4_physical 16 = .ok (.if_icmp .le 5, 3) := by decide +kernel
theorem dX4_physical_19 : decode cX4_physical 19 = .ok (.lconst 0, 1) := by decide +kernel
theorem dX4_physical_20 : decode cX4_physical 20 = .ok (.lreturn, 1) := by decide +kernel
theorem dX4_physical_21 : decode cX4_physical 21 = .ok (.aload_n 0, 1) := by decide +kernel
theorem dX4_physical_22 : decode cX4_physical 22 = .ok (.iconst 0, 1) := by decide +kernel
theorem dX4_physical_23 : decode cX4_physical 23 = .ok (.iload_n 1, 1) := by decide +kernel
theorem dX4_physical_24 : decode cX4_physical 24 = .ok (.lload_n 2, 1) := by decide +kernel
theorem dX4_physical_25 : decode cX4_physical 25 = .ok (.invokevirtual 130, 3) := by decide +kernel
theorem dX4_physical_28 : decode cX4_physical 28 = .ok (.aload_n 0, 1) := by decide +kernel
theorem dX4_physical_29 : decode cX4_physical 29 = .ok (.bipush 12, 2) := by decide +kernel
theorem dX4_physical_31 : decode cX4_physical 31 = .ok (.iconst 0, 1) := by decide +kernel
theorem dX4_physical_32 : decode cX4_physical 32 = .ok (.invokevirtual 71, 3) := by decide +kernel
theorem dX4_physical_35 : decode cX4_physical 35 = .ok (.aload_n 0, 1) := by decide +kernel
theorem dX4_physical_36 : decode cX4_physical 36 = .ok (.bipush 13, 2) := by decide +kernel
theorem dX4_physical_38 : decode cX4_physical 38 = .ok (.iconst 1, 1) := by decide +kernel
theorem dX4_physical_39 : decode cX4_physical 39 = .ok (.invokevirtual 71, 3) := by decide +kernel
theorem dX4_physical_42 : decode cX4_physical 42 = .ok (.aload_n 0, 1) := by decide +kernel
theorem dX4_physical_43 : decode cX4_physical 43 = .ok (.invokevirtual 136, 3) := by decide +kernel
theorem dX4_physical_46 : decode cX4_physical 46 = .ok (.aload_n 0, 1) := by decide +kernel
theorem dX4_physical_47 : decode cX4_physical 47 = .ok (.iconst 2, 1) := by decide +kernel
theorem dX4_physical_48 : decode cX4_physical 48 = .ok (.iconst 4, 1) := by decide +kernel
theorem dX4_physical_49 : decode cX4_physical 49 = .ok (.iconst 0, 1) := by decide +kernel
theorem dX4_physical_50 : decode cX4_physical 50 = .ok (.bipush 12, 2) := by decide +kernel
theorem dX4_physical_52 : decode cX4_physical 52 = .ok (.invokevirtual 110, 3) := by decide +kernel
theorem dX4_physical_55 : decode cX4_physical 55 = .ok (.aload_n 0, 1) := by decide +kernel
theorem dX4_physical_56 : decode cX4_physical 56 = .ok (.iconst 3, 1) := by decide +kernel
theorem dX4_physical_57 : decode cX4_physical 57 = .ok (.iconst 4, 1) := by decide +kernel
theorem dX4_physical_58 : decode cX4_physical 58 = .ok (.iconst 1, 1) := by decide +kernel
theorem dX4_physical_59 : decode cX4_physical 59 = .ok (.bipush 12, 2) := by decide +kernel
theorem dX4_physical_61 : decode cX4_physical 61 = .ok (.invokevirtual 110, 3) := by decide +kernel
theorem dX4_physical_64 : decode cX4_physical 64 = .ok (.iload 4, 2) := by decide +kernel
theorem dX4_physical_66 : decode cX4_physical 66 = .ok (.ifCond .ne 9, 3) := by decide +kernel
theorem dX4_physical_69 : decode cX4_physical 69 = .ok (.aload_n 0, 1) := by decide +kernel
theorem dX4_physical_70 : decode cX4_physical 70 = .ok (.iconst 3, 1) := by decide +kernel
theorem dX4_physical_71 : decode cX4_physical 71 = .ok (.invokevirtual 127, 3) := by decide +kernel
theorem dX4_physical_74 : decode cX4_physical 74 = .ok (.lreturn, 1) := by decide +kernel
theorem dX4_physical_75 : decode cX4_physical 75 = .ok (.aload_n 0, 1) := by decide +kernel
theorem dX4_physical_76 : decode cX4_physical 76 = .ok (.getfield 39, 3) := by decide +kernel
theorem dX4_physical_79 : decode cX4_physical 79 = .ok (.iconst 2, 1) := by decide +kernel
theorem dX4_physical_80 : decode cX4_physical 80 = .ok (.iaload, 1) := by decide +kernel
theorem dX4_physical_81 : decode cX4_physical 81 = .ok (.ifCond .ge 7, 3) := by decide +kernel
theorem dX4_physical_84 : decode cX4_physical 84 = .ok (.lconst 1, 1) := by decide +kernel
theorem dX4_physical_85 : decode cX4_physical 85 = .ok (.goto 4, 3) := by decide +kernel
theorem dX4_physical_88 : decode cX4_physical 88 = .ok (.lconst 0, 1) := by decide +kernel
theorem dX4_physical_89 : decode cX4_physical 89 = .ok (.lstore 5, 2) := by decide +kernel
theorem dX4_physical_91 : decode cX4_physical 91 = .ok (.lconst 0, 1) := by decide +kernel
theorem dX4_physical_92 : decode cX4_physical 92 = .ok (.lstore 7, 2) := by decide +kernel
theorem dX4_physical_94 : decode cX4_physical 94 = .ok (.iconst 0, 1) := by decide +kernel
theorem dX4_physical_95 : decode cX4_physical 95 = .ok (.istore 9, 2) := by decide +kernel
theorem dX4_physical_97 : decode cX4_physical 97 = .ok (.iload 9, 2) := by decide +kernel
theorem dX4_physical_99 : decode cX4_physical 99 = .ok (.iconst 2, 1) := by decide +kernel
theorem dX4_physical_100 : decode cX4_physical 100 = .ok (.iload 4, 2) := by decide +kernel
theorem dX4_physical_102 : decode cX4_physical 102 = .ok (.imul, 1) := by decide +kernel
theorem dX4_physical_103 : decode cX4_physical 103 = .ok (.if_icmp .ge 87, 3) := by decide +kernel
theorem dX4_physical_106 : decode cX4_physical 106 = .ok (.lload 5, 2) := by decide +kernel
theorem dX4_physical_108 : decode cX4_physical 108 = .ok (.aload_n 0, 1) := by decide +kernel
theorem dX4_physical_109 : decode cX4_physical 109 = .ok (.getfield 39, 3) := by decide +kernel
theorem dX4_physical_112 : decode cX4_physical 112 = .ok (.iconst 2, 1) := by decide +kernel
theorem dX4_physical_113 : decode cX4_physical 113 = .ok (.iaload, 1) := by decide +kernel
theorem dX4_physical_114 : decode cX4_physical 114 = .ok (.ifCond .ge 19, 3) := by decide +kernel
theorem dX4_physical_117 : decode cX4_physical 117 = .ok (.ldc 48, 2) := by decide +kernel
theorem dX4_physical_119 : decode cX4_physical 119 = .ok (.aload_n 0, 1) := by decide +kernel
theorem dX4_physical_120 : decode cX4_physical 120 = .ok (.getfield 36, 3) := by decide +kernel
theorem dX4_physical_123 : decode cX4_physical 123 = .ok (.bipush 32, 2) := by decide +kernel
theorem dX4_physical_125 : decode cX4_physical 125 = .ok (.iload 9, 2) := by decide +kernel
theorem dX4_physical_127 : decode cX4_physical 127 = .ok (.iadd, 1) := by decide +kernel
theorem dX4_physical_128 : decode cX4_physical 128 = .ok (.iaload, 1) := by decide +kernel
theorem dX4_physical_129 : decode cX4_physical 129 = .ok (.isub, 1) := by decide +kernel
theorem dX4_physical_130 : decode cX4_physical 130 = .ok (.goto 13, 3) := by decide +kernel
theorem dX4_physical_133 : decode cX4_physical 133 = .ok (.aload_n 0, 1) := by decide +kernel
theorem dX4_physical_134 : decode cX4_physical 134 = .ok (.getfield 36, 3) := by decide +kernel
theorem dX4_physical_137 : decode cX4_physical 137 = .ok (.bipush 32, 2) := by decide +kernel
theorem dX4_physical_139 : decode cX4_physical 139 = .ok (.iload 9, 2) := by decide +kernel
theorem dX4_physical_141 : decode cX4_physical 141 = .ok (.iadd, 1) := by decide +kernel
theorem dX4_physical_142 : decode cX4_physical 142 = .ok (.iaload, 1) := by decide +kernel
theorem dX4_physical_143 : decode cX4_physical 143 = .ok (.i2l, 1) := by decide +kernel
theorem dX4_physical_144 : decode cX4_physical 144 = .ok (.ladd, 1) := by decide +kernel
theorem dX4_physical_145 : decode cX4_physical 145 = .ok (.lstore 5, 2) := by decide +kernel
theorem dX4_physical_147 : decode cX4_physical 147 = .ok (.iload 9, 2) := by decide +kernel
theorem dX4_physical_149 : decode cX4_physical 149 = .ok (.iconst 2, 1) := by decide +kernel
theorem dX4_physical_150 : decode cX4_physical 150 = .ok (.irem, 1) := by decide +kernel
theorem dX4_physical_151 : decode cX4_physical 151 = .ok (.ifCond .ne 12, 3) := by decide +kernel
theorem dX4_physical_154 : decode cX4_physical 154 = .ok (.lload 5, 2) := by decide +kernel
theorem dX4_physical_156 : decode cX4_physical 156 = .ok (.ldc2_w 46, 3) := by decide +kernel
theorem dX4_physical_159 : decode cX4_physical 159 = .ok (.land, 1) := by decide +kernel
theorem dX4_physical_160 : decode cX4_physical 160 = .ok (.goto 15, 3) := by decide +kernel
theorem dX4_physical_163 : decode cX4_physical 163 = .ok (.lload 7, 2) := by decide +kernel
theorem dX4_physical_165 : decode cX4_physical 165 = .ok (.lload 5, 2) := by decide +kernel
theorem dX4_physical_167 : decode cX4_physical 167 = .ok (.ldc2_w 46, 3) := by decide +kernel
theorem dX4_physical_170 : decode cX4_physical 170 = .ok (.land, 1) := by decide +kernel
theorem dX4_physical_171 : decode cX4_physical 171 = .ok (.bipush 16, 2) := by decide +kernel
theorem dX4_physical_173 : decode cX4_physical 173 = .ok (.lshl, 1) := by decide +kernel
theorem dX4_physical_174 : decode cX4_physical 174 = .ok (.ladd, 1) := by decide +kernel
theorem dX4_physical_175 : decode cX4_physical 175 = .ok (.lstore 7, 2) := by decide +kernel
theorem dX4_physical_177 : decode cX4_physical 177 = .ok (.lload 5, 2) := by decide +kernel
theorem dX4_physical_179 : decode cX4_physical 179 = .ok (.bipush 16, 2) := by decide +kernel
theorem dX4_physical_181 : decode cX4_physical 181 = .ok (.lshr, 1) := by decide +kernel
theorem dX4_physical_182 : decode cX4_physical 182 = .ok (.lstore 5, 2) := by decide +kernel
theorem dX4_physical_184 : decode cX4_physical 184 = .ok (.iinc 9 1, 3) := by decide +kernel
theorem dX4_physical_187 : decode cX4_physical 187 = .ok (.goto (-90), 3) := by decide +kernel
theorem dX4_physical_190 : decode cX4_physical 190 = .ok (.iload 4, 2) := by decide +kernel
theorem dX4_physical_192 : decode cX4_physical 192 = .ok (.iconst 3, 1) := by decide +kernel
theorem dX4_physical_193 : decode cX4_physical 193 = .ok (.if_icmp .ne 21, 3) := by decide +kernel
theorem dX4_physical_196 : decode cX4_physical 196 = .ok (.lload 7, 2) := by decide +kernel
theorem dX4_physical_198 : decode cX4_physical 198 = .ok (.ldc2_w 139, 3) := by decide +kernel
theorem dX4_physical_201 : decode cX4_physical 201 = .ok (.lcmp, 1) := by decide +kernel
theorem dX4_physical_202 : decode cX4_physical 202 = .ok (.ifCond .le 12, 3) := by decide +kernel
theorem dX4_physical_205 : decode cX4_physical 205 = .ok (.lload 7, 2) := by decide +kernel
theorem dX4_physical_207 : decode cX4_physical 207 = .ok (.ldc2_w 141, 3) := by decide +kernel
theorem dX4_physical_210 : decode cX4_physical 210 = .ok (.lsub, 1) := by decide +kernel
theorem dX4_physical_211 : decode cX4_physical 211 = .ok (.goto 5, 3) := by decide +kernel
theorem dX4_physical_214 : decode cX4_physical 214 = .ok (.lload 7, 2) := by decide +kernel
theorem dX4_physical_216 : decode cX4_physical 216 = .ok (.lreturn, 1) := by decide +kernel
theorem dX4_text_0 : decode cX4_text 0 = .ok (.aload_n 0, 1) := by decide +kernel
theorem dX4_text_1 : decode cX4_text 1 = .ok (.iload_n 1, 1) := by decide +kernel
theorem dX4_text_2 : decode cX4_text 2 = .ok (.invokevirtual 88, 3) := by decide +kernel
theorem dX4_text_5 : decode cX4_text 5 = .ok (.ifCond .eq 5, 3) := by decide +kernel
theorem dX4_text_8 : decode cX4_text 8 = .ok (.iconst (-1), 1) := by decide +kernel
theorem dX4_text_9 : decode cX4_text 9 = .ok (.ireturn, 1) := by decide +kernel
theorem dX4_text_10 : decode cX4_text 10 = .ok (.aload_n 0, 1) := by decide +kernel
theorem dX4_text_11 : decode cX4_text 11 = .ok (.getfield 113, 3) := by decide +kernel
theorem dX4_text_14 : decode cX4_text 14 = .ok (.istore 4, 2) := by decide +kernel
theorem dX4_text_16 : decode cX4_text 16 = .ok (.aload_n 0, 1) := by decide +kernel
theorem dX4_text_17 : decode cX4_text 17 = .ok (.iconst 0, 1) := by decide +kernel
theorem dX4_text_18 : decode cX4_text 18 = .ok (.iload_n 1, 1) := by decide +kernel
theorem dX4_text_19 : decode cX4_text 19 = .ok (.lload_n 2, 1) := by decide +kernel
theorem dX4_text_20 : decode cX4_text 20 = .ok (.invokevirtual 130, 3) := by decide +kernel
theorem dX4_text_23 : decode cX4_text 23 = .ok (.aload_n 0, 1) := by decide +kernel
theorem dX4_text_24 : decode cX4_text 24 = .ok (.bipush 14, 2) := by decide +kernel
theorem dX4_text_26 : decode cX4_text 26 = .ok (.iconst 0, 1) := by decide +kernel
theorem dX4_text_27 : decode cX4_text 27 = .ok (.ldc2_w 86, 3) := by decide +kernel
theorem dX4_text_30 : decode cX4_text 30 = .ok (.invokevirtual 102, 3) := by decide +kernel
theorem dX4_text_33 : decode cX4_text 33 = .ok (.aload_n 0, 1) := by decide +kernel
theorem dX4_text_34 : decode cX4_text 34 = .ok (.bipush 15, 2) := by decide +kernel
theorem dX4_text_36 : decode cX4_text 36 = .ok (.iconst 1, 1) := by decide +kernel
theorem dX4_text_37 : decode cX4_text 37 = .ok (.invokevirtual 71, 3) := by decide +kernel
theorem dX4_text_40 : decode cX4_text 40 = .ok (.aload_n 0, 1) := by decide +kernel
theorem dX4_text_41 : decode cX4_text 41 = .ok (.bipush 14, 2) := by decide +kernel
theorem dX4_text_43 : decode cX4_text 43 = .ok (.iconst 2, 1) := by decide +kernel
theorem dX4_text_44 : decode cX4_text 44 = .ok (.invokevirtual 117, 3) := by decide +kernel
theorem dX4_text_47 : decode cX4_text 47 = .ok (.aload_n 0, 1) := by decide +kernel
theorem dX4_text_48 : decode cX4_text 48 = .ok (.iload 4, 2) := by decide +kernel
theorem dX4_text_50 : decode cX4_text 50 = .ok (.putfield 113, 3) := by decide +kernel
theorem dX4_text_53 : decode cX4_text 53 = .ok (.aload_n 0, 1) := by decide +kernel
theorem dX4_text_54 : decode cX4_text 54 = .ok (.iconst 0, 1) := by decide +kernel
theorem dX4_text_55 : decode cX4_text 55 = .ok (.putfield 143, 3) := by decide +kernel
theorem dX4_text_58 : decode cX4_text 58 = .ok (.aload_n 0, 1) := by decide +kernel
theorem dX4_text_59 : decode cX4_text 59 = .ok (.getfield 39, 3) := by decide +kernel
theorem dX4_text_62 : decode cX4_text 62 = .ok (.bipush 16, 2) := by decide +kernel
theorem dX4_text_64 : decode cX4_text 64 = .ok (.iaload, 1) := by decide +kernel
theorem dX4_text_65 : decode cX4_text 65 = .ok (.istore 5, 2) := by decide +kernel
theorem dX4_text_67 : decode cX4_text 67 = .ok (.iconst 0, 1) := by decide +kernel
theorem dX4_text_68 : decode cX4_text 68 = .ok (.istore 6, 2) := by decide +kernel
theorem dX4_text_70 : decode cX4_text 70 = .ok (.aload_n 0, 1) := by decide +kernel
theorem dX4_text_71 : decode cX4_text 71 = .ok (.bipush 15, 2) := by decide +kernel
theorem dX4_text_73 : decode cX4_text 73 = .ok (.ldc2_w 146, 3) := by decide +kernel
theorem dX4_text_76 : decode cX4_text 76 = .ok (.invokevirtual 64, 3) := by decide +kernel
theorem dX4_text_79 : decode cX4_text 79 = .ok (.iconst 0, 1) := by decide +kernel
theorem dX4_text_80 : decode cX4_text 80 = .ok (.istore 7, 2) := by decide +kernel
theorem dX4_text_82 : decode cX4_text 82 = .ok (.aload_n 0, 1) := by decide +kernel
theorem dX4_text_83 : decode cX4_text 83 = .ok (.getfield 39, 3) := by decide +kernel
theorem dX4_text_86 : decode cX4_text 86 = .ok (.bipush 16, 2) := by decide +kernel
theorem dX4_text_88 : decode cX4_text 88 = .ok (.iaload, 1) := by decide +kernel
theorem dX4_text_89 : decode cX4_text 89 = .ok (.ifCond .ne 10, 3) := by decide +kernel
theorem dX4_text_92 : decode cX4_text 92 = .ok (.iload 6, 2) := by decide +kernel
theorem dX4_text_94 : decode cX4_text 94 = .ok (.bipush 7, 2) := by decide +kernel
theorem dX4_text_96 : decode cX4_text 96 = .ok (.if_icmp .ge 97, 3) := by decide +kernel
theorem dX4_text_99 : decode cX4_text 99 = .ok (.aload_n 0, 1) := by decide +kernel
theorem dX4_text_100 : decode cX4_text 100 = .ok (.bipush 14, 2) := by decide +kernel
theorem dX4_text_102 : decode cX4_text 102 = .ok (.bipush 13, 2) := by decide +kernel
theorem dX4_text_104 : decode cX4_text 104 = .ok (.bipush 16, 2) := by decide +kernel
theorem dX4_text_106 : decode cX4_text 106 = .ok (.bipush 15, 2) := by decide +kernel
theorem dX4_text_108 : decode cX4_text 108 = .ok (.invokevirtual 110, 3) := by decide +kernel
theorem dX4_text_111 : decode cX4_text 111 = .ok (.aload_n 0, 1) := by decide +kernel
theorem dX4_text_112 : decode cX4_text 112 = .ok (.getfield 36, 3) := by decide +kernel
theorem dX4_text_115 : decode cX4_text 115 = .ok (.sipush 208, 3) := by decide +kernel
theorem dX4_text_118 : decode cX4_text 118 = .ok (.iaload, 1) := by decide +kernel
theorem dX4_text_119 : decode cX4_text 119 = .ok (.istore 8, 2) := by decide +kernel
theorem dX4_text_121 : decode cX4_text 121 = .ok (.iload 7, 2) := by decide +kernel
theorem dX4_text_123 : decode cX4_text 123 = .ok (.ifCond .ne 15, 3) := by decide +kernel
theorem dX4_text_126 : decode cX4_text 126 = .ok (.iload 8, 2) := by decide +kernel
theorem dX4_text_128 : decode cX4_text 128 = .ok (.ifCond .gt 10, 3) := by decide +kernel
theorem dX4_text_131 : decode cX4_text 131 = .ok (.iload 6, 2) := by decide +kernel
theorem dX4_text_133 : decode cX4_text 133 = .ok (.bipush 6, 2) := by decide +kernel
theorem dX4_text_135 : decode cX4_text 135 = .ok (.if_icmp .lt 7, 3) := by decide +kernel
theorem dX4_text_138 : decode cX4_text 138 = .ok (.iconst 1, 1) := by decide +kernel
theorem dX4_text_139 : decode cX4_text 139 = .ok (.goto 4, 3) := by decide +kernel
theorem dX4_text_142 : decode cX4_text 142 = .ok (.iconst 0, 1) := by decide +kernel
theorem dX4_text_143 : decode cX4_text 143 = .ok (.istore 7, 2) := by decide +kernel
theorem dX4_text_145 : decode cX4_text 145 = .ok (.iload 6, 2) := by decide +kernel
theorem dX4_text_147 : decode cX4_text 147 = .ok (.bipush 6, 2) := by decide +kernel
theorem dX4_text_149 : decode cX4_text 149 = .ok (.if_icmp .ne 16, 3) := by decide +kernel
theorem dX4_text_152 : decode cX4_text 152 = .ok (.aload_n 0, 1) := by decide +kernel
theorem dX4_text_153 : decode cX4_text 153 = .ok (.getfield 143, 3) := by decide +kernel
theorem dX4_text_156 : decode cX4_text 156 = .ok (.ifCond .le 9, 3) := by decide +kernel
theorem dX4_text_159 : decode cX4_text 159 = .ok (.aload_n 0, 1) := by decide +kernel
theorem dX4_text_160 : decode cX4_text 160 = .ok (.bipush 46, 2) := by decide +kernel
theorem dX4_text_162 : decode cX4_text 162 = .ok (.invokevirtual 148, 3) := by decide +kernel
theorem dX4_text_165 : decode cX4_text 165 = .ok (.iload 7, 2) := by decide +kernel
theorem dX4_text_167 : decode cX4_text 167 = .ok (.ifCond .eq 12, 3) := by decide +kernel
theorem dX4_text_170 : decode cX4_text 170 = .ok (.aload_n 0, 1) := by decide +kernel
theorem dX4_text_171 : decode cX4_text 171 = .ok (.bipush 48, 2) := by decide +kernel
theorem dX4_text_173 : decode cX4_text 173 = .ok (.iload 8, 2) := by decide +kernel
theorem dX4_text_175 : decode cX4_text 175 = .ok (.iadd, 1) := by decide +kernel
theorem dX4_text_176 : decode cX4_text 176 = .ok (.invokevirtual 148, 3) := by decide +kernel
theorem dX4_text_179 : decode cX4_text 179 = .ok (.aload_n 0, 1) := by decide +kernel
theorem dX4_text_180 : decode cX4_text 180 = .ok (.bipush 16, 2) := by decide +kernel
theorem dX4_text_182 : decode cX4_text 182 = .ok (.bipush 14, 2) := by decide +kernel
theorem dX4_text_184 : decode cX4_text 184 = .ok (.invokevirtual 71, 3) := by decide +kernel
theorem dX4_text_187 : decode cX4_text 187 = .ok (.iinc 6 1, 3) := by decide +kernel
theorem dX4_text_190 : decode cX4_text 190 = .ok (.goto (-108), 3) := by decide +kernel
theorem dX4_text_193 : decode cX4_text 193 = .ok (.iload 5, 2) := by decide +kernel
theorem dX4_text_195 : decode cX4_text 195 = .ok (.ifCond .ge 9, 3) := by decide +kernel
theorem dX4_text_198 : decode cX4_text 198 = .ok (.aload_n 0, 1) := by decide +kernel
theorem dX4_text_199 : decode cX4_text 199 = .ok (.bipush 45, 2) := by decide +kernel
theorem dX4_text_201 : decode cX4_text 201 = .ok (.invokevirtual 148, 3) := by decide +kernel
theorem dX4_text_204 : decode cX4_text 204 = .ok (.iconst 0, 1) := by decide +kernel
theorem dX4_text_205 : decode cX4_text 205 = .ok (.istore 8, 2) := by decide +kernel
theorem dX4_text_207 : decode cX4_text 207 = .ok (.iconst 2, 1) := by decide +kernel
theorem dX4_text_208 : decode cX4_text 208 = .ok (.iload 8, 2) := by decide +kernel
theorem dX4_text_210 : decode cX4_text 210 = .ok (.imul, 1) := by decide +kernel
theorem dX4_text_211 : decode cX4_text 211 = .ok (.aload_n 0, 1) := by decide +kernel
theorem dX4_text_212 : decode cX4_text 212 = .ok (.getfield 143, 3) := by decide +kernel
theorem dX4_text_215 : decode cX4_text 215 = .ok (.iconst 1, 1) := by decide +kernel
theorem dX4_text_216 : decode cX4_text 216 = .ok (.isub, 1) := by decide +kernel
theorem dX4_text_217 : decode cX4_text 217 = .ok (.if_icmp .ge 55, 3) := by decide +kernel
theorem dX4_text_220 : decode cX4_text 220 = .ok (.aload_n 0, 1) := by decide +kernel
theorem dX4_text_221 : decode cX4_text 221 = .ok (.getfield 33, 3) := by decide +kernel
theorem dX4_text_224 : decode cX4_text 224 = .ok (.iload 8, 2) := by decide +kernel
theorem dX4_text_226 : decode cX4_text 226 = .ok (.iaload, 1) := by decide +kernel
theorem dX4_text_227 : decode cX4_text 227 = .ok (.istore 9, 2) := by decide +kernel
theorem dX4_text_229 : decode cX4_text 229 = .ok (.aload_n 0, 1) := by decide +kernel
theorem dX4_text_230 : decode cX4_text 230 = .ok (.getfield 33, 3) := by decide +kernel
theorem dX4_text_233 : decode cX4_text 233 = .ok (.iload 8, 2) := by decide +kernel
theorem dX4_text_235 : decode cX4_text 235 = .ok (.aload_n 0, 1) := by decide +kernel
theorem dX4_text_236 : decode cX4_text 236 = .ok (.getfield 33, 3) := by decide +kernel
theorem dX4_text_239 : decode cX4_text 239 = .ok (.aload_n 0, 1) := by decide +kernel
theorem dX4_text_240 : decode cX4_text 240 = .ok (.getfield 143, 3) := by decide +kernel
theorem dX4_text_243 : decode cX4_text 243 = .ok (.iconst 1, 1) := by decide +kernel
theorem dX4_text_244 : decode cX4_text 244 = .ok (.isub, 1) := by decide +kernel
theorem dX4_text_245 : decode cX4_text 245 = .ok (.iload 8, 2) := by decide +kernel
theorem dX4_text_247 : decode cX4_text 247 = .ok (.isub, 1) := by decide +kernel
theorem dX4_text_248 : decode cX4_text 248 = .ok (.iaload, 1) := by decide +kernel
theorem dX4_text_249 : decode cX4_text 249 = .ok (.iastore, 1) := by decide +kernel
theorem dX4_text_250 : decode cX4_text 250 = .ok (.aload_n 0, 1) := by decide +kernel
theorem dX4_text_251 : decode cX4_text 251 = .ok (.getfield 33, 3) := by decide +kernel
theorem dX4_text_254 : decode cX4_text 254 = .ok (.aload_n 0, 1) := by decide +kernel
theorem dX4_text_255 : decode cX4_text 255 = .ok (.getfield 143, 3) := by decide +kernel
theorem dX4_text_258 : decode cX4_text 258 = .ok (.iconst 1, 1) := by decide +kernel
theorem dX4_text_259 : decode cX4_text 259 = .ok (.isub, 1) := by decide +kernel
theorem dX4_text_260 : decode cX4_text 260 = .ok (.iload 8, 2) := by decide +kernel
theorem dX4_text_262 : decode cX4_text 262 = .ok (.isub, 1) := by decide +kernel
theorem dX4_text_263 : decode cX4_text 263 = .ok (.iload 9, 2) := by decide +kernel
theorem dX4_text_265 : decode cX4_text 265 = .ok (.iastore, 1) := by decide +kernel
theorem dX4_text_266 : decode cX4_text 266 = .ok (.iinc 8 1, 3) := by decide +kernel
theorem dX4_text_269 : decode cX4_text 269 = .ok (.goto (-62), 3) := by decide +kernel
theorem dX4_text_272 : decode cX4_text 272 = .ok (.aload_n 0, 1) := by decide +kernel
theorem dX4_text_273 : decode cX4_text 273 = .ok (.getfield 143, 3) := by decide +kernel
theorem dX4_text_276 : decode cX4_text 276 = .ok (.ireturn, 1) := by decide +kernel
theorem dX4_letter_0 : decode cX4_letter 0 = .ok (.aload_n 0, 1) := by decide +kernel
theorem dX4_letter_1 : decode cX4_letter 1 = .ok (.getfield 33, 3) := by decide +kernel
theorem dX4_letter_4 : decode cX4_letter 4 = .ok (.aload_n 0, 1) := by decide +kernel
theorem dX4_letter_5 : decode cX4_letter 5 = .ok (.getfield 143, 3) := by decide +kernel
theorem dX4_letter_8 : decode cX4_letter 8 = .ok (.iload_n 1, 1) := by decide +kernel
theorem dX4_letter_9 : decode cX4_letter 9 = .ok (.iastore, 1) := by decide +kernel
theorem dX4_letter_10 : decode cX4_letter 10 = .ok (.aload_n 0, 1) := by decide +kernel
theorem dX4_letter_11 : decode cX4_letter 11 = .ok (.dup, 1) := by decide +kernel
theorem dX4_letter_12 : decode cX4_letter 12 = .ok (.getfield 143, 3) := by decide +kernel
theorem dX4_letter_15 : decode cX4_letter 15 = .ok (.iconst 1, 1) := by decide +kernel
theorem dX4_letter_16 : decode cX4_letter 16 = .ok (.iadd, 1) := by decide +kernel
theorem dX4_letter_17 : decode cX4_letter 17 = .ok (.putfield 143, 3) := by decide +kernel
theorem dX4_letter_20 : decode cX4_letter 20 = .ok (.return_, 1) := by decide +kernel
theorem dX4_at_0 : decode cX4_at 0 = .ok (.aload_n 0, 1) := by decide +kernel
theorem dX4_at_1 : decode cX4_at 1 = .ok (.iload_n 1, 1) := by decide +kernel
theorem dX4_at_2 : decode cX4_at 2 = .ok (.ifCond .lt 11, 3) := by decide +kernel
theorem dX4_at_5 : decode cX4_at 5 = .ok (.iload_n 1, 1) := by decide +kernel
theorem dX4_at_6 : decode cX4_at 6 = .ok (.aload_n 0, 1) := by decide +kernel
theorem dX4_at_7 : decode cX4_at 7 = .ok (.getfield 143, 3) := by decide +kernel
theorem dX4_at_10 : decode cX4_at 10 = .ok (.if_icmp .lt 7, 3) := by decide +kernel
theorem dX4_at_13 : decode cX4_at 13 = .ok (.iconst 1, 1) := by decide +kernel
theorem dX4_at_14 : decode cX4_at 14 = .ok (.goto 4, 3) := by decide +kernel
theorem dX4_at_17 : decode cX4_at 17 = .ok (.iconst 0, 1) := by decide +kernel
theorem dX4_at_18 : decode cX4_at 18 = .ok (.putfield 42, 3) := by decide +kernel
theorem dX4_at_21 : decode cX4_at 21 = .ok (.aload_n 0, 1) := by decide +kernel
theorem dX4_at_22 : decode cX4_at 22 = .ok (.getfield 42, 3) := by decide +kernel
theorem dX4_at_25 : decode cX4_at 25 = .ok (.ifCond .le 7, 3) := by decide +kernel
theorem dX4_at_28 : decode cX4_at 28 = .ok (.iconst 0, 1) := by decide +kernel
theorem dX4_at_29 : decode cX4_at 29 = .ok (.goto 9, 3) := by decide +kernel
theorem dX4_at_32 : decode cX4_at 32 = .ok (.aload_n 0, 1) := by decide +kernel
theorem dX4_at_33 : decode cX4_at 33 = .ok (.getfield 33, 3) := by decide +kernel
theorem dX4_at_36 : decode cX4_at 36 = .ok (.iload_n 1, 1) := by decide +kernel
theorem dX4_at_37 : decode cX4_at 37 = .ok (.iaload, 1) := by decide +kernel
theorem dX4_at_38 : decode cX4_at 38 = .ok (.ireturn, 1) := by decide +kernel
theorem dX4_bound_0 : decode cX4_bound 0 = .ok (.aload_n 0, 1) := by decide +kernel
theorem dX4_bound_1 : decode cX4_bound 1 = .ok (.iload_n 1, 1) := by decide +kernel
theorem dX4_bound_2 : decode cX4_bound 2 = .ok (.invokevirtual 88, 3) := by decide +kernel
theorem dX4_bound_5 : decode cX4_bound 5 = .ok (.ifCond .eq 7, 3) := by decide +kernel
theorem dX4_bound_8 : decode cX4_bound 8 = .ok (.lconst 0, 1) := by decide +kernel
theorem dX4_bound_9 : decode cX4_bound 9 = .ok (.goto 20, 3) := by decide +kernel
theorem dX4_bound_12 : decode cX4_bound 12 = .ok (.iload_n 2, 1) := by decide +kernel
theorem dX4_bound_13 : decode cX4_bound 13 = .ok (.ifCond .ne 11, 3) := by decide +kernel
theorem dX4_bound_16 : decode cX4_bound 16 = .ok (.aload_n 0, 1) := by decide +kernel
theorem dX4_bound_17 : decode cX4_bound 17 = .ok (.iload_n 1, 1) := by decide +kernel
theorem dX4_bound_18 : decode cX4_bound 18 = .ok (.invokevirtual 120, 3) := by decide +kernel
theorem dX4_bound_21 : decode cX4_bound 21 = .ok (.goto 8, 3) := by decide +kernel
theorem dX4_bound_24 : decode cX4_bound 24 = .ok (.aload_n 0, 1) := by decide +kernel
theorem dX4_bound_25 : decode cX4_bound 25 = .ok (.iload_n 1, 1) := by decide +kernel
theorem dX4_bound_26 : decode cX4_bound 26 = .ok (.invokevirtual 124, 3) := by decide +kernel
theorem dX4_bound_29 : decode cX4_bound 29 = .ok (.lreturn, 1) := by decide +kernel
theorem dX4_compare_0 : decode cX4_compare 0 = .ok (.aload_n 0, 1) := by decide +kernel
theorem dX4_compare_1 : decode cX4_compare 1 = .ok (.iload_n 1, 1) := by decide +kernel
theorem dX4_compare_2 : decode cX4_compare 2 = .ok (.invokevirtual 88, 3) := by decide +kernel
theorem dX4_compare_5 : decode cX4_compare 5 = .ok (.ifCond .ne 12, 3) := by decide +kernel
theorem dX4_compare_8 : decode cX4_compare 8 = .ok (.aload_n 0, 1) := by decide +kernel
theorem dX4_compare_9 : decode cX4_compare 9 = .ok (.iload 4, 2) := by decide +kernel
theorem dX4_compare_11 : decode cX4_compare 11 = .ok (.invokevirtual 88, 3) := by decide +kernel
theorem dX4_compare_14 : decode cX4_compare 14 = .ok (.ifCond .eq 6, 3) := by decide +kernel
theorem dX4_compare_17 : decode cX4_compare 17 = .ok (.bipush (-2), 2) := by decide +kernel
theorem dX4_compare_19 : decode cX4_compare 19 = .ok (.ireturn, 1) := by decide +kernel
theorem dX4_compare_20 : decode cX4_compare 20 = .ok (.aload_n 0, 1) := by decide +kernel
theorem dX4_compare_21 : decode cX4_compare 21 = .ok (.bipush 8, 2) := by decide +kernel
theorem dX4_compare_23 : decode cX4_compare 23 = .ok (.iload_n 1, 1) := by decide +kernel
theorem dX4_compare_24 : decode cX4_compare 24 = .ok (.lload_n 2, 1) := by decide +kernel
theorem dX4_compare_25 : decode cX4_compare 25 = .ok (.invokevirtual 130, 3) := by decide +kernel
theorem dX4_compare_28 : decode cX4_compare 28 = .ok (.aload_n 0, 1) := by decide +kernel
theorem dX4_compare_29 : decode cX4_compare 29 = .ok (.bipush 10, 2) := by decide +kernel
theorem dX4_compare_31 : decode cX4_compare 31 = .ok (.iload 4, 2) := by decide +kernel
theorem dX4_compare_33 : decode cX4_compare 33 = .ok (.lload 5, 2) := by decide +kernel
theorem dX4_compare_35 : decode cX4_compare 35 = .ok (.invokevirtual 130, 3) := by decide +kernel
theorem dX4_compare_38 : decode cX4_compare 38 = .ok (.aload_n 0, 1) := by decide +kernel
theorem dX4_compare_39 : decode cX4_compare 39 = .ok (.bipush 12, 2) := by decide +kernel
theorem dX4_compare_41 : decode cX4_compare 41 = .ok (.bipush 8, 2) := by decide +kernel
theorem dX4_compare_43 : decode cX4_compare 43 = .ok (.bipush 11, 2) := by decide +kernel
theorem dX4_compare_45 : decode cX4_compare 45 = .ok (.invokevirtual 68, 3) := by decide +kernel
theorem dX4_compare_48 : decode cX4_compare 48 = .ok (.aload_n 0, 1) := by decide +kernel
theorem dX4_compare_49 : decode cX4_compare 49 = .ok (.bipush 13, 2) := by decide +kernel
theorem dX4_compare_51 : decode cX4_compare 51 = .ok (.bipush 10, 2) := by decide +kernel
theorem dX4_compare_53 : decode cX4_compare 53 = .ok (.bipush 9, 2) := by decide +kernel
theorem dX4_compare_55 : decode cX4_compare 55 = .ok (.invokevirtual 68, 3) := by decide +kernel
theorem dX4_compare_58 : decode cX4_compare 58 = .ok (.aload_n 0, 1) := by decide +kernel
theorem dX4_compare_59 : decode cX4_compare 59 = .ok (.bipush 14, 2) := by decide +kernel
theorem dX4_compare_61 : decode cX4_compare 61 = .ok (.bipush 12, 2) := by decide +kernel
theorem dX4_compare_63 : decode cX4_compare 63 = .ok (.bipush 13, 2) := by decide +kernel
theorem dX4_compare_65 : decode cX4_compare 65 = .ok (.iconst (-1), 1) := by decide +kernel
theorem dX4_compare_66 : decode cX4_compare 66 = .ok (.invokevirtual 106, 3) := by decide +kernel
theorem dX4_compare_69 : decode cX4_compare 69 = .ok (.aload_n 0, 1) := by decide +kernel
theorem dX4_compare_70 : decode cX4_compare 70 = .ok (.getfield 39, 3) := by decide +kernel
theorem dX4_compare_73 : decode cX4_compare 73 = .ok (.bipush 14, 2) := by decide +kernel
theorem dX4_compare_75 : decode cX4_compare 75 = .ok (.iaload, 1) := by decide +kernel
theorem dX4_compare_76 : decode cX4_compare 76 = .ok (.ireturn, 1) := by decide +kernel
theorem dX4_octet_0 : decode cX4_octet 0 = .ok (.aload_n 0, 1) := by decide +kernel
theorem dX4_octet_1 : decode cX4_octet 1 = .ok (.iload_n 1, 1) := by decide +kernel
theorem dX4_octet_2 : decode cX4_octet 2 = .ok (.invokevirtual 88, 3) := by decide +kernel
theorem dX4_octet_5 : decode cX4_octet 5 = .ok (.ifCond .ne 25, 3) := by decide +kernel
theorem dX4_octet_8 : decode cX4_octet 8 = .ok (.iload 4, 2) := by decide +kernel
theorem dX4_octet_10 : decode cX4_octet 10 = .ok (.ifCond .lt 20, 3) := by decide +kernel
theorem dX4_octet_13 : decode cX4_octet 13 = .ok (.iload 4, 2) := by decide +kernel
theorem dX4_octet_15 : decode cX4_octet 15 = .ok (.aload_n 0, 1) := by decide +kernel
theorem dX4_octet_16 : decode cX4_octet 16 = .ok (.getfield 7, 3) := by decide +kernel
theorem dX4_octet_19 : decode cX4_octet 19 = .ok (.iload_n 1, 1) := by decide +kernel
theorem dX4_octet_20 : decode cX4_octet 20 = .ok (.iaload, 1) := by decide +kernel
theorem dX4_octet_21 : decode cX4_octet 21 = .ok (.bipush 7, 2) := by decide +kernel
theorem dX4_octet_23 : decode cX4_octet 23 = .ok (.iadd, 1) := by decide +kernel
theorem dX4_octet_24 : decode cX4_octet 24 = .ok (.bipush 8, 2) := by decide +kernel
theorem dX4_octet_26 : decode cX4_octet 26 = .ok (.idiv, 1) := by decide +kernel
theorem dX4_octet_27 : decode cX4_octet 27 = .ok (.if_icmp .lt 5, 3) := by decide +kernel
theorem dX4_octet_30 : decode cX4_octet 30 = .ok (.iconst 0, 1) := by decide +kernel
theorem dX4_octet_31 : decode cX4_octet 31 = .ok (.ireturn, 1) := by decide +kernel
theorem dX4_octet_32 : decode cX4_octet 32 = .ok (.aload_n 0, 1) := by decide +kernel
theorem dX4_octet_33 : decode cX4_octet 33 = .ok (.iload_n 1, 1) := by decide +kernel
theorem dX4_octet_34 : decode cX4_octet 34 = .ok (.lload_n 2, 1) := by decide +kernel
theorem dX4_octet_35 : decode cX4_octet 35 = .ok (.invokevirtual 91, 3) := by decide +kernel
theorem dX4_octet_38 : decode cX4_octet 38 = .ok (.bipush 8, 2) := by decide +kernel
theorem dX4_octet_40 : decode cX4_octet 40 = .ok (.iload 4, 2) := by decide +kernel
theorem dX4_octet_42 : decode cX4_octet 42 = .ok (.imul, 1) := by decide +kernel
theorem dX4_octet_43 : decode cX4_octet 43 = .ok (.lshr, 1) := by decide +kernel
theorem dX4_octet_44 : decode cX4_octet 44 = .ok (.ldc2_w 151, 3) := by decide +kernel
theorem dX4_octet_47 : decode cX4_octet 47 = .ok (.land, 1) := by decide +kernel
theorem dX4_octet_48 : decode cX4_octet 48 = .ok (.l2i, 1) := by decide +kernel
theorem dX4_octet_49 : decode cX4_octet 49 = .ok (.i2b, 1) := by decide +kernel
theorem dX4_octet_50 : decode cX4_octet 50 = .ok (.ireturn, 1) := by decide +kernel
theorem dX4_half_0 : decode cX4_half 0 = .ok (.aload_n 0, 1) := by decide +kernel
theorem dX4_half_1 : decode cX4_half 1 = .ok (.iload_n 1, 1) := by decide +kernel
theorem dX4_half_2 : decode cX4_half 2 = .ok (.invokevirtual 88, 3) := by decide +kernel
theorem dX4_half_5 : decode cX4_half 5 = .ok (.ifCond .eq 5, 3) := by decide +kernel
theorem dX4_half_8 : decode cX4_half 8 = .ok (.iconst 0, 1) := by decide +kernel
theorem dX4_half_9 : decode cX4_half 9 = .ok (.ireturn, 1) := by decide +kernel
theorem dX4_half_10 : decode cX4_half 10 = .ok (.aload_n 0, 1) := by decide +kernel
theorem dX4_half_11 : decode cX4_half 11 = .ok (.iload_n 1, 1) := by decide +kernel
theorem dX4_half_12 : decode cX4_half 12 = .ok (.lload_n 2, 1) := by decide +kernel
theorem dX4_half_13 : decode cX4_half 13 = .ok (.invokevirtual 91, 3) := by decide +kernel
theorem dX4_half_16 : decode cX4_half 16 = .ok (.aload_n 0, 1) := by decide +kernel
theorem dX4_half_17 : decode cX4_half 17 = .ok (.getfield 7, 3) := by decide +kernel
theorem dX4_half_20 : decode cX4_half 20 = .ok (.iload_n 1, 1) := by decide +kernel
theorem dX4_half_21 : decode cX4_half 21 = .ok (.iaload, 1) := by decide +kernel
theorem dX4_half_22 : decode cX4_half 22 = .ok (.iconst 1, 1) := by decide +kernel
theorem dX4_half_23 : decode cX4_half 23 = .ok (.iadd, 1) := by decide +kernel
theorem dX4_half_24 : decode cX4_half 24 = .ok (.iconst 2, 1) := by decide +kernel
theorem dX4_half_25 : decode cX4_half 25 = .ok (.idiv, 1) := by decide +kernel
theorem dX4_half_26 : decode cX4_half 26 = .ok (.lushr, 1) := by decide +kernel
theorem dX4_half_27 : decode cX4_half 27 = .ok (.ldc2_w 46, 3) := by decide +kernel
theorem dX4_half_30 : decode cX4_half 30 = .ok (.land, 1) := by decide +kernel
theorem dX4_half_31 : decode cX4_half 31 = .ok (.l2i, 1) := by decide +kernel
theorem dX4_half_32 : decode cX4_half 32 = .ok (.i2s, 1) := by decide +kernel
theorem dX4_half_33 : decode cX4_half 33 = .ok (.ireturn, 1) := by decide +kernel
