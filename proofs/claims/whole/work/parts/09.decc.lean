/-! ===== decode rows, by wip/whole/gen09.py ===== -/
theorem dX6_seenLaw_0 : decode prog_8_method_21_code 0 = .ok (.aload_n 0, 1) := by decide +kernel
theorem dX6_seenLaw_1 : decode prog_8_method_21_code 1 = .ok (.ldc 221, 2) := by decide +kernel
theorem dX6_seenLaw_3 : decode prog_8_method_21_code 3 = .ok (.invokevirtual 112, 3) := by decide +kernel
theorem dX6_seenLaw_6 : decode prog_8_method_21_code 6 = .ok (.ifCond .eq 5, 3) := by decide +kernel
theorem dX6_seenLaw_9 : decode prog_8_method_21_code 9 = .ok (.iconst 0, 1) := by decide +kernel
theorem dX6_seenLaw_10 : decode prog_8_method_21_code 10 = .ok (.ireturn, 1) := by decide +kernel
theorem dX6_seenLaw_11 : decode prog_8_method_21_code 11 = .ok (.aload_n 0, 1) := by decide +kernel
theorem dX6_seenLaw_12 : decode prog_8_method_21_code 12 = .ok (.ldc 223, 2) := by decide +kernel
theorem dX6_seenLaw_14 : decode prog_8_method_21_code 14 = .ok (.invokevirtual 112, 3) := by decide +kernel
theorem dX6_seenLaw_17 : decode prog_8_method_21_code 17 = .ok (.ifCond .eq 5, 3) := by decide +kernel
theorem dX6_seenLaw_20 : decode prog_8_method_21_code 20 = .ok (.iconst 1, 1) := by decide +kernel
theorem dX6_seenLaw_21 : decode prog_8_method_21_code 21 = .ok (.ireturn, 1) := by decide +kernel
theorem dX6_seenLaw_22 : decode prog_8_method_21_code 22 = .ok (.aload_n 0, 1) := by decide +kernel
theorem dX6_seenLaw_23 : decode prog_8_method_21_code 23 = .ok (.ldc 225, 2) := by decide +kernel
theorem dX6_seenLaw_25 : decode prog_8_method_21_code 25 = .ok (.invokevirtual 112, 3) := by decide +kernel
theorem dX6_seenLaw_28 : decode prog_8_method_21_code 28 = .ok (.ifCond .eq 5, 3) := by decide +kernel
theorem dX6_seenLaw_31 : decode prog_8_method_21_code 31 = .ok (.iconst 2, 1) := by decide +kernel
theorem dX6_seenLaw_32 : decode prog_8_method_21_code 32 = .ok (.ireturn, 1) := by decide +kernel
theorem dX6_seenLaw_33 : decode prog_8_method_21_code 33 = .ok (.aload_n 0, 1) := by decide +kernel
theorem dX6_seenLaw_34 : decode prog_8_method_21_code 34 = .ok (.ldc 227, 2) := by decide +kernel
theorem dX6_seenLaw_36 : decode prog_8_method_21_code 36 = .ok (.invokevirtual 112, 3) := by decide +kernel
theorem dX6_seenLaw_39 : decode prog_8_method_21_code 39 = .ok (.ifCond .eq 5, 3) := by decide +kernel
theorem dX6_seenLaw_42 : decode prog_8_method_21_code 42 = .ok (.iconst 3, 1) := by decide +kernel
theorem dX6_seenLaw_43 : decode prog_8_method_21_code 43 = .ok (.ireturn, 1) := by decide +kernel
theorem dX6_seenLaw_44 : decode prog_8_method_21_code 44 = .ok (.aload_n 0, 1) := by decide +kernel
theorem dX6_seenLaw_45 : decode prog_8_method_21_code 45 = .ok (.ldc 229, 2) := by decide +kernel
theorem dX6_seenLaw_47 : decode prog_8_method_21_code 47 = .ok (.invokevirtual 112, 3) := by decide +kernel
theorem dX6_seenLaw_50 : decode prog_8_method_21_code 50 = .ok (.ifCond .eq 7, 3) := by decide +kernel
theorem dX6_seenLaw_53 : decode prog_8_method_21_code 53 = .ok (.iconst 4, 1) := by decide +kernel
theorem dX6_seenLaw_54 : decode prog_8_method_21_code 54 = .ok (.goto 4, 3) := by decide +kernel
theorem dX6_seenLaw_57 : decode prog_8_method_21_code 57 = .ok (.iconst (-1), 1) := by decide +kernel
theorem dX6_seenLaw_58 : decode prog_8_method_21_code 58 = .ok (.ireturn, 1) := by decide +kernel
theorem dX6_readPerson_0 : decode prog_8_method_22_code 0 = .ok (.aload_n 1, 1) := by decide +kernel
theorem dX6_readPerson_1 : decode prog_8_method_22_code 1 = .ok (.bipush 6, 2) := by decide +kernel
theorem dX6_readPerson_3 : decode prog_8_method_22_code 3 = .ok (.bipush (-2), 2) := by decide +kernel
theorem dX6_readPerson_5 : decode prog_8_method_22_code 5 = .ok (.iastore, 1) := by decide +kernel
theorem dX6_readPerson_6 : decode prog_8_method_22_code 6 = .ok (.aload_n 0, 1) := by decide +kernel
theorem dX6_readPerson_7 : decode prog_8_method_22_code 7 = .ok (.iconst 0, 1) := by decide +kernel
theorem dX6_readPerson_8 : decode prog_8_method_22_code 8 = .ok (.aload_n 0, 1) := by decide +kernel
theorem dX6_readPerson_9 : decode prog_8_method_22_code 9 = .ok (.getfield 12, 3) := by decide +kernel
theorem dX6_readPerson_12 : decode prog_8_method_22_code 12 = .ok (.getfield 93, 3) := by decide +kernel
theorem dX6_readPerson_15 : decode prog_8_method_22_code 15 = .ok (.invokevirtual 231, 3) := by decide +kernel
theorem dX6_readPerson_18 : decode prog_8_method_22_code 18 = .ok (.ifCond .eq 155, 3) := by decide +kernel
theorem dX6_readPerson_21 : decode prog_8_method_22_code 21 = .ok (.aload_n 0, 1) := by decide +kernel
theorem dX6_readPerson_22 : decode prog_8_method_22_code 22 = .ok (.aload_n 1, 1) := by decide +kernel
theorem dX6_readPerson_23 : decode prog_8_method_22_code 23 = .ok (.iconst 0, 1) := by decide +kernel
theorem dX6_readPerson_24 : decode prog_8_method_22_code 24 = .ok (.aload_n 0, 1) := by decide +kernel
theorem dX6_readPerson_25 : decode prog_8_method_22_code 25 = .ok (.invokevirtual 235, 3) := by decide +kernel
theorem dX6_readPerson_28 : decode prog_8_method_22_code 28 = .ok (.invokevirtual 211, 3) := by decide +kernel
theorem dX6_readPerson_31 : decode prog_8_method_22_code 31 = .ok (.ifCond .eq 142, 3) := by decide +kernel
theorem dX6_readPerson_34 : decode prog_8_method_22_code 34 = .ok (.aload_n 0, 1) := by decide +kernel
theorem dX6_readPerson_35 : decode prog_8_method_22_code 35 = .ok (.ldc 238, 2) := by decide +kernel
theorem dX6_readPerson_37 : decode prog_8_method_22_code 37 = .ok (.invokevirtual 199, 3) := by decide +kernel
theorem dX6_readPerson_40 : decode prog_8_method_22_code 40 = .ok (.ifCond .eq 133, 3) := by decide +kernel
theorem dX6_readPerson_43 : decode prog_8_method_22_code 43 = .ok (.aload_n 0, 1) := by decide +kernel
theorem dX6_readPerson_44 : decode prog_8_method_22_code 44 = .ok (.aload_n 1, 1) := by decide +kernel
theorem dX6_readPerson_45 : decode prog_8_method_22_code 45 = .ok (.iconst 1, 1) := by decide +kernel
theorem dX6_readPerson_46 : decode prog_8_method_22_code 46 = .ok (.aload_n 0, 1) := by decide +kernel
theorem dX6_readPerson_47 : decode prog_8_method_22_code 47 = .ok (.invokevirtual 240, 3) := by decide +kernel
theorem dX6_readPerson_50 : decode prog_8_method_22_code 50 = .ok (.invokevirtual 211, 3) := by decide +kernel
theorem dX6_readPerson_53 : decode prog_8_method_22_code 53 = .ok (.ifCond .eq 120, 3) := by decide +kernel
theorem dX6_readPerson_56 : decode prog_8_method_22_code 56 = .ok (.aload_n 0, 1) := by decide +kernel
theorem dX6_readPerson_57 : decode prog_8_method_22_code 57 = .ok (.aload_n 0, 1) := by decide +kernel
theorem dX6_readPerson_58 : decode prog_8_method_22_code 58 = .ok (.getfield 70, 3) := by decide +kernel
theorem dX6_readPerson_61 : decode prog_8_method_22_code 61 = .ok (.iconst 0, 1) := by decide +kernel
theorem dX6_readPerson_62 : decode prog_8_method_22_code 62 = .ok (.aload_n 0, 1) := by decide +kernel
theorem dX6_readPerson_63 : decode prog_8_method_22_code 63 = .ok (.invokevirtual 243, 3) := by decide +kernel
theorem dX6_readPerson_66 : decode prog_8_method_22_code 66 = .ok (.invokevirtual 211, 3) := by decide +kernel
theorem dX6_readPerson_69 : decode prog_8_method_22_code 69 = .ok (.ifCond .eq 104, 3) := by decide +kernel
theorem dX6_readPerson_72 : decode prog_8_method_22_code 72 = .ok (.aload_n 0, 1) := by decide +kernel
theorem dX6_readPerson_73 : decode prog_8_method_22_code 73 = .ok (.aload_n 1, 1) := by decide +kernel
theorem dX6_readPerson_74 : decode prog_8_method_22_code 74 = .ok (.iconst 2, 1) := by decide +kernel
theorem dX6_readPerson_75 : decode prog_8_method_22_code 75 = .ok (.aload_n 0, 1) := by decide +kernel
theorem dX6_readPerson_76 : decode prog_8_method_22_code 76 = .ok (.getfield 70, 3) := by decide +kernel
theorem dX6_readPerson_79 : decode prog_8_method_22_code 79 = .ok (.iconst 0, 1) := by decide +kernel
theorem dX6_readPerson_80 : decode prog_8_method_22_code 80 = .ok (.iaload, 1) := by decide +kernel
theorem dX6_readPerson_81 : decode prog_8_method_22_code 81 = .ok (.aload_n 0, 1) := by decide +kernel
theorem dX6_readPerson_82 : decode prog_8_method_22_code 82 = .ok (.getfield 70, 3) := by decide +kernel
theorem dX6_readPerson_85 : decode prog_8_method_22_code 85 = .ok (.iconst 0, 1) := by decide +kernel
theorem dX6_readPerson_86 : decode prog_8_method_22_code 86 = .ok (.iaload, 1) := by decide +kernel
theorem dX6_readPerson_87 : decode prog_8_method_22_code 87 = .ok (.ifCond .ne 8, 3) := by decide +kernel
theorem dX6_readPerson_90 : decode prog_8_method_22_code 90 = .ok (.bipush 90, 2) := by decide +kernel
theorem dX6_readPerson_92 : decode prog_8_method_22_code 92 = .ok (.goto 12, 3) := by decide +kernel
theorem dX6_readPerson_95 : decode prog_8_method_22_code 95 = .ok (.aload_n 0, 1) := by decide +kernel
theorem dX6_readPerson_96 : decode prog_8_method_22_code 96 = .ok (.getfield 12, 3) := by decide +kernel
theorem dX6_readPerson_99 : decode prog_8_method_22_code 99 = .ok (.getfield 156, 3) := by decide +kernel
theorem dX6_readPerson_102 : decode prog_8_method_22_code 102 = .ok (.iconst 1, 1) := by decide +kernel
theorem dX6_readPerson_103 : decode prog_8_method_22_code 103 = .ok (.isub, 1) := by decide +kernel
theorem dX6_readPerson_104 : decode prog_8_method_22_code 104 = .ok (.invokevirtual 202, 3) := by decide +kernel
theorem dX6_readPerson_107 : decode prog_8_method_22_code 107 = .ok (.ifCond .eq 66, 3) := by decide +kernel
theorem dX6_readPerson_110 : decode prog_8_method_22_code 110 = .ok (.aload_n 0, 1) := by decide +kernel
theorem dX6_readPerson_111 : decode prog_8_method_22_code 111 = .ok (.ldc 246, 2) := by decide +kernel
theorem dX6_readPerson_113 : decode prog_8_method_22_code 113 = .ok (.invokevirtual 199, 3) := by decide +kernel
theorem dX6_readPerson_116 : decode prog_8_method_22_code 116 = .ok (.ifCond .eq 57, 3) := by decide +kernel
theorem dX6_readPerson_119 : decode prog_8_method_22_code 119 = .ok (.aload_n 0, 1) := by decide +kernel
theorem dX6_readPerson_120 : decode prog_8_method_22_code 120 = .ok (.aload_n 1, 1) := by decide +kernel
theorem dX6_readPerson_121 : decode prog_8_method_22_code 121 = .ok (.iconst 3, 1) := by decide +kernel
theorem dX6_readPerson_122 : decode prog_8_method_22_code 122 = .ok (.iconst 1, 1) := by decide +kernel
theorem dX6_readPerson_123 : decode prog_8_method_22_code 123 = .ok (.bipush 9, 2) := by decide +kernel
theorem dX6_readPerson_125 : decode prog_8_method_22_code 125 = .ok (.invokevirtual 202, 3) := by decide +kernel
theorem dX6_readPerson_128 : decode prog_8_method_22_code 128 = .ok (.ifCond .eq 45, 3) := by decide +kernel
theorem dX6_readPerson_131 : decode prog_8_method_22_code 131 = .ok (.aload_n 0, 1) := by decide +kernel
theorem dX6_readPerson_132 : decode prog_8_method_22_code 132 = .ok (.ldc 248, 2) := by decide +kernel
theorem dX6_readPerson_134 : decode prog_8_method_22_code 134 = .ok (.invokevirtual 199, 3) := by decide +kernel
theorem dX6_readPerson_137 : decode prog_8_method_22_code 137 = .ok (.ifCond .eq 36, 3) := by decide +kernel
theorem dX6_readPerson_140 : decode prog_8_method_22_code 140 = .ok (.aload_n 0, 1) := by decide +kernel
theorem dX6_readPerson_141 : decode prog_8_method_22_code 141 = .ok (.aload_n 1, 1) := by decide +kernel
theorem dX6_readPerson_142 : decode prog_8_method_22_code 142 = .ok (.iconst 4, 1) := by decide +kernel
theorem dX6_readPerson_143 : decode prog_8_method_22_code 143 = .ok (.iconst 0, 1) := by decide +kernel
theorem dX6_readPerson_144 : decode prog_8_method_22_code 144 = .ok (.bipush 9, 2) := by decide +kernel
theorem dX6_readPerson_146 : decode prog_8_method_22_code 146 = .ok (.invokevirtual 202, 3) := by decide +kernel
theorem dX6_readPerson_149 : decode prog_8_method_22_code 149 = .ok (.ifCond .eq 24, 3) := by decide +kernel
theorem dX6_readPerson_152 : decode prog_8_method_22_code 152 = .ok (.aload_n 0, 1) := by decide +kernel
theorem dX6_readPerson_153 : decode prog_8_method_22_code 153 = .ok (.ldc 250, 2) := by decide +kernel
theorem dX6_readPerson_155 : decode prog_8_method_22_code 155 = .ok (.invokevirtual 199, 3) := by decide +kernel
theorem dX6_readPerson_158 : decode prog_8_method_22_code 158 = .ok (.ifCond .eq 15, 3) := by decide +kernel
theorem dX6_readPerson_161 : decode prog_8_method_22_code 161 = .ok (.aload_n 0, 1) := by decide +kernel
theorem dX6_readPerson_162 : decode prog_8_method_22_code 162 = .ok (.aload_n 1, 1) := by decide +kernel
theorem dX6_readPerson_163 : decode prog_8_method_22_code 163 = .ok (.iconst 5, 1) := by decide +kernel
theorem dX6_readPerson_164 : decode prog_8_method_22_code 164 = .ok (.iconst 0, 1) := by decide +kernel
theorem dX6_readPerson_165 : decode prog_8_method_22_code 165 = .ok (.bipush 100, 2) := by decide +kernel
theorem dX6_readPerson_167 : decode prog_8_method_22_code 167 = .ok (.invokevirtual 202, 3) := by decide +kernel
theorem dX6_readPerson_170 : decode prog_8_method_22_code 170 = .ok (.ifCond .ne 5, 3) := by decide +kernel
theorem dX6_readPerson_173 : decode prog_8_method_22_code 173 = .ok (.iconst 0, 1) := by decide +kernel
theorem dX6_readPerson_174 : decode prog_8_method_22_code 174 = .ok (.ireturn, 1) := by decide +kernel
theorem dX6_readPerson_175 : decode prog_8_method_22_code 175 = .ok (.aload_n 1, 1) := by decide +kernel
theorem dX6_readPerson_176 : decode prog_8_method_22_code 176 = .ok (.iconst 2, 1) := by decide +kernel
theorem dX6_readPerson_177 : decode prog_8_method_22_code 177 = .ok (.aload_n 0, 1) := by decide +kernel
theorem dX6_readPerson_178 : decode prog_8_method_22_code 178 = .ok (.getfield 70, 3) := by decide +kernel
theorem dX6_readPerson_181 : decode prog_8_method_22_code 181 = .ok (.iconst 0, 1) := by decide +kernel
theorem dX6_readPerson_182 : decode prog_8_method_22_code 182 = .ok (.iaload, 1) := by decide +kernel
theorem dX6_readPerson_183 : decode prog_8_method_22_code 183 = .ok (.ifCond .ne 10, 3) := by decide +kernel
theorem dX6_readPerson_186 : decode prog_8_method_22_code 186 = .ok (.aload_n 1, 1) := by decide +kernel
theorem dX6_readPerson_187 : decode prog_8_method_22_code 187 = .ok (.iconst 2, 1) := by decide +kernel
theorem dX6_readPerson_188 : decode prog_8_method_22_code 188 = .ok (.iaload, 1) := by decide +kernel
theorem dX6_readPerson_189 : decode prog_8_method_22_code 189 = .ok (.ineg, 1) := by decide +kernel
theorem dX6_readPerson_190 : decode prog_8_method_22_code 190 = .ok (.goto 6, 3) := by decide +kernel
theorem dX6_readPerson_193 : decode prog_8_method_22_code 193 = .ok (.aload_n 1, 1) := by decide +kernel
theorem dX6_readPerson_194 : decode prog_8_method_22_code 194 = .ok (.iconst 2, 1) := by decide +kernel
theorem dX6_readPerson_195 : decode prog_8_method_22_code 195 = .ok (.iaload, 1) := by decide +kernel
theorem dX6_readPerson_196 : decode prog_8_method_22_code 196 = .ok (.iastore, 1) := by decide +kernel
theorem dX6_readPerson_197 : decode prog_8_method_22_code 197 = .ok (.aload_n 0, 1) := by decide +kernel
theorem dX6_readPerson_198 : decode prog_8_method_22_code 198 = .ok (.getfield 12, 3) := by decide +kernel
theorem dX6_readPerson_201 : decode prog_8_method_22_code 201 = .ok (.dup, 1) := by decide +kernel
theorem dX6_readPerson_202 : decode prog_8_method_22_code 202 = .ok (.getfield 93, 3) := by decide +kernel
theorem dX6_readPerson_205 : decode prog_8_method_22_code 205 = .ok (.iconst 1, 1) := by decide +kernel
theorem dX6_readPerson_206 : decode prog_8_method_22_code 206 = .ok (.iadd, 1) := by decide +kernel
theorem dX6_readPerson_207 : decode prog_8_method_22_code 207 = .ok (.putfield 93, 3) := by decide +kernel
theorem dX6_readPerson_210 : decode prog_8_method_22_code 210 = .ok (.iconst 1, 1) := by decide +kernel
theorem dX6_readPerson_211 : decode prog_8_method_22_code 211 = .ok (.ireturn, 1) := by decide +kernel
theorem dX6_seenKind_0 : decode prog_8_method_23_code 0 = .ok (.aload_n 0, 1) := by decide +kernel
theorem dX6_seenKind_1 : decode prog_8_method_23_code 1 = .ok (.ldc 252, 2) := by decide +kernel
theorem dX6_seenKind_3 : decode prog_8_method_23_code 3 = .ok (.invokevirtual 112, 3) := by decide +kernel
theorem dX6_seenKind_6 : decode prog_8_method_23_code 6 = .ok (.ifCond .eq 5, 3) := by decide +kernel
theorem dX6_seenKind_9 : decode prog_8_method_23_code 9 = .ok (.iconst 0, 1) := by decide +kernel
theorem dX6_seenKind_10 : decode prog_8_method_23_code 10 = .ok (.ireturn, 1) := by decide +kernel
theorem dX6_seenKind_11 : decode prog_8_method_23_code 11 = .ok (.aload_n 0, 1) := by decide +kernel
theorem dX6_seenKind_12 : decode prog_8_method_23_code 12 = .ok (.ldc 254, 2) := by decide +kernel
theorem dX6_seenKind_14 : decode prog_8_method_23_code 14 = .ok (.invokevirtual 112, 3) := by decide +kernel
theorem dX6_seenKind_17 : decode prog_8_method_23_code 17 = .ok (.ifCond .eq 5, 3) := by decide +kernel
theorem dX6_seenKind_20 : decode prog_8_method_23_code 20 = .ok (.iconst 1, 1) := by decide +kernel
theorem dX6_seenKind_21 : decode prog_8_method_23_code 21 = .ok (.ireturn, 1) := by decide +kernel
theorem dX6_seenKind_22 : decode prog_8_method_23_code 22 = .ok (.aload_n 0, 1) := by decide +kernel
theorem dX6_seenKind_23 : decode prog_8_method_23_code 23 = .ok (.ldc_w 256, 3) := by decide +kernel
theorem dX6_seenKind_26 : decode prog_8_method_23_code 26 = .ok (.invokevirtual 112, 3) := by decide +kernel
theorem dX6_seenKind_29 : decode prog_8_method_23_code 29 = .ok (.ifCond .eq 5, 3) := by decide +kernel
theorem dX6_seenKind_32 : decode prog_8_method_23_code 32 = .ok (.iconst 2, 1) := by decide +kernel
theorem dX6_seenKind_33 : decode prog_8_method_23_code 33 = .ok (.ireturn, 1) := by decide +kernel
theorem dX6_seenKind_34 : decode prog_8_method_23_code 34 = .ok (.aload_n 0, 1) := by decide +kernel
theorem dX6_seenKind_35 : decode prog_8_method_23_code 35 = .ok (.ldc_w 258, 3) := by decide +kernel
theorem dX6_seenKind_38 : decode prog_8_method_23_code 38 = .ok (.invokevirtual 112, 3) := by decide +kernel
theorem dX6_seenKind_41 : decode prog_8_method_23_code 41 = .ok (.ifCond .eq 5, 3) := by decide +kernel
theorem dX6_seenKind_44 : decode prog_8_method_23_code 44 = .ok (.iconst 3, 1) := by decide +kernel
theorem dX6_seenKind_45 : decode prog_8_method_23_code 45 = .ok (.ireturn, 1) := by decide +kernel
theorem dX6_seenKind_46 : decode prog_8_method_23_code 46 = .ok (.aload_n 0, 1) := by decide +kernel
theorem dX6_seenKind_47 : decode prog_8_method_23_code 47 = .ok (.ldc_w 260, 3) := by decide +kernel
theorem dX6_seenKind_50 : decode prog_8_method_23_code 50 = .ok (.invokevirtual 112, 3) := by decide +kernel
theorem dX6_seenKind_53 : decode prog_8_method_23_code 53 = .ok (.ifCond .eq 7, 3) := by decide +kernel
theorem dX6_seenKind_56 : decode prog_8_method_23_code 56 = .ok (.iconst 4, 1) := by decide +kernel
theorem dX6_seenKind_57 : decode prog_8_method_23_code 57 = .ok (.goto 4, 3) := by decide +kernel
theorem dX6_seenKind_60 : decode prog_8_method_23_code 60 = .ok (.iconst (-1), 1) := by decide +kernel
theorem dX6_seenKind_61 : decode prog_8_method_23_code 61 = .ok (.ireturn, 1) := by decide +kernel
theorem dX6_seenSide_0 : decode prog_8_method_24_code 0 = .ok (.aload_n 0, 1) := by decide +kernel
theorem dX6_seenSide_1 : decode prog_8_method_24_code 1 = .ok (.ldc_w 262, 3) := by decide +kernel
theorem dX6_seenSide_4 : decode prog_8_method_24_code 4 = .ok (.invokevirtual 112, 3) := by decide +kernel
theorem dX6_seenSide_7 : decode prog_8_method_24_code 7 = .ok (.ifCond .eq 5, 3) := by decide +kernel
theorem dX6_seenSide_10 : decode prog_8_method_24_code 10 = .ok (.iconst 0, 1) := by decide +kernel
theorem dX6_seenSide_11 : decode prog_8_method_24_code 11 = .ok (.ireturn, 1) := by decide +kernel
theorem dX6_seenSide_12 : decode prog_8_method_24_code 12 = .ok (.aload_n 0, 1) := by decide +kernel
theorem dX6_seenSide_13 : decode prog_8_method_24_code 13 = .ok (.ldc_w 264, 3) := by decide +kernel
theorem dX6_seenSide_16 : decode prog_8_method_24_code 16 = .ok (.invokevirtual 112, 3) := by decide +kernel
theorem dX6_seenSide_19 : decode prog_8_method_24_code 19 = .ok (.ifCond .eq 7, 3) := by decide +kernel
theorem dX6_seenSide_22 : decode prog_8_method_24_code 22 = .ok (.iconst 1, 1) := by decide +kernel
theorem dX6_seenSide_23 : decode prog_8_method_24_code 23 = .ok (.goto 4, 3) := by decide +kernel
theorem dX6_seenSide_26 : decode prog_8_method_24_code 26 = .ok (.iconst (-1), 1) := by decide +kernel
theorem dX6_seenSide_27 : decode prog_8_method_24_code 27 = .ok (.ireturn, 1) := by decide +kernel
theorem dX6_seenAge_0 : decode prog_8_method_25_code 0 = .ok (.aload_n 0, 1) := by decide +kernel
theorem dX6_seenAge_1 : decode prog_8_method_25_code 1 = .ok (.ldc_w 266, 3) := by decide +kernel
theorem dX6_seenAge_4 : decode prog_8_method_25_code 4 = .ok (.invokevirtual 112, 3) := by decide +kernel
theorem dX6_seenAge_7 : decode prog_8_method_25_code 7 = .ok (.ifCond .eq 5, 3) := by decide +kernel
theorem dX6_seenAge_10 : decode prog_8_method_25_code 10 = .ok (.iconst 0, 1) := by decide +kernel
theorem dX6_seenAge_11 : decode prog_8_method_25_code 11 = .ok (.ireturn, 1) := by decide +kernel
theorem dX6_seenAge_12 : decode prog_8_method_25_code 12 = .ok (.aload_n 0, 1) := by decide +kernel
theorem dX6_seenAge_13 : decode prog_8_method_25_code 13 = .ok (.ldc_w 268, 3) := by decide +kernel
theorem dX6_seenAge_16 : decode prog_8_method_25_code 16 = .ok (.invokevirtual 112, 3) := by decide +kernel
theorem dX6_seenAge_19 : decode prog_8_method_25_code 19 = .ok (.ifCond .eq 7, 3) := by decide +kernel
theorem dX6_seenAge_22 : decode prog_8_method_25_code 22 = .ok (.iconst 1, 1) := by decide +kernel
theorem dX6_seenAge_23 : decode prog_8_method_25_code 23 = .ok (.goto 4, 3) := by decide +kernel
theorem dX6_seenAge_26 : decode prog_8_method_25_code 26 = .ok (.iconst (-1), 1) := by decide +kernel
theorem dX6_seenAge_27 : decode prog_8_method_25_code 27 = .ok (.ireturn, 1) := by decide +kernel
theorem dX6_readPlan_0 : decode prog_8_method_26_code 0 = .ok (.aload_n 0, 1) := by decide +kernel
theorem dX6_readPlan_1 : decode prog_8_method_26_code 1 = .ok (.aload_n 1, 1) := by decide +kernel
theorem dX6_readPlan_2 : decode prog_8_method_26_code 2 = .ok (.iconst 0, 1) := by decide +kernel
theorem dX6_readPlan_3 : decode prog_8_method_26_code 3 = .ok (.iconst 0, 1) := by decide +kernel
theorem dX6_readPlan_4 : decode prog_8_method_26_code 4 = .ok (.invokevirtual 270, 3) := by decide +kernel
theorem dX6_readPlan_7 : decode prog_8_method_26_code 7 = .ok (.ifCond .eq 75, 3) := by decide +kernel
theorem dX6_readPlan_10 : decode prog_8_method_26_code 10 = .ok (.aload_n 0, 1) := by decide +kernel
theorem dX6_readPlan_11 : decode prog_8_method_26_code 11 = .ok (.aload_n 1, 1) := by decide +kernel
theorem dX6_readPlan_12 : decode prog_8_method_26_code 12 = .ok (.iconst 1, 1) := by decide +kernel
theorem dX6_readPlan_13 : decode prog_8_method_26_code 13 = .ok (.iconst 0, 1) := by decide +kernel
theorem dX6_readPlan_14 : decode prog_8_method_26_code 14 = .ok (.aload_n 0, 1) := by decide +kernel
theorem dX6_readPlan_15 : decode prog_8_method_26_code 15 = .ok (.getfield 12, 3) := by decide +kernel
theorem dX6_readPlan_18 : decode prog_8_method_26_code 18 = .ok (.getfield 156, 3) := by decide +kernel
theorem dX6_readPlan_21 : decode prog_8_method_26_code 21 = .ok (.iconst 1, 1) := by decide +kernel
theorem dX6_readPlan_22 : decode prog_8_method_26_code 22 = .ok (.isub, 1) := by decide +kernel
theorem dX6_readPlan_23 : decode prog_8_method_26_code 23 = .ok (.invokevirtual 202, 3) := by decide +kernel
theorem dX6_readPlan_26 : decode prog_8_method_26_code 26 = .ok (.ifCond .eq 56, 3) := by decide +kernel
theorem dX6_readPlan_29 : decode prog_8_method_26_code 29 = .ok (.aload_n 0, 1) := by decide +kernel
theorem dX6_readPlan_30 : decode prog_8_method_26_code 30 = .ok (.ldc_w 274, 3) := by decide +kernel
theorem dX6_readPlan_33 : decode prog_8_method_26_code 33 = .ok (.invokevirtual 199, 3) := by decide +kernel
theorem dX6_readPlan_36 : decode prog_8_method_26_code 36 = .ok (.ifCond .eq 46, 3) := by decide +kernel
theorem dX6_readPlan_39 : decode prog_8_method_26_code 39 = .ok (.aload_n 0, 1) := by decide +kernel
theorem dX6_readPlan_40 : decode prog_8_method_26_code 40 = .ok (.aload_n 1, 1) := by decide +kernel
theorem dX6_readPlan_41 : decode prog_8_method_26_code 41 = .ok (.iconst 2, 1) := by decide +kernel
theorem dX6_readPlan_42 : decode prog_8_method_26_code 42 = .ok (.aload_n 1, 1) := by decide +kernel
theorem dX6_readPlan_43 : decode prog_8_method_26_code 43 = .ok (.iconst 1, 1) := by decide +kernel
theorem dX6_readPlan_44 : decode prog_8_method_26_code 44 = .ok (.iaload, 1) := by decide +kernel
theorem dX6_readPlan_45 : decode prog_8_method_26_code 45 = .ok (.aload_n 0, 1) := by decide +kernel
theorem dX6_readPlan_46 : decode prog_8_method_26_code 46 = .ok (.getfield 12, 3) := by decide +kernel
theorem dX6_readPlan_49 : decode prog_8_method_26_code 49 = .ok (.getfield 156, 3) := by decide +kernel
theorem dX6_readPlan_52 : decode prog_8_method_26_code 52 = .ok (.iconst 1, 1) := by decide +kernel
theorem dX6_readPlan_53 : decode prog_8_method_26_code 53 = .ok (.isub, 1) := by decide +kernel
theorem dX6_readPlan_54 : decode prog_8_method_26_code 54 = .ok (.invokevirtual 202, 3) := by decide +kernel
theorem dX6_readPlan_57 : decode prog_8_method_26_code 57 = .ok (.ifCond .eq 25, 3) := by decide +kernel
theorem dX6_readPlan_60 : decode prog_8_method_26_code 60 = .ok (.aload_n 0, 1) := by decide +kernel
theorem dX6_readPlan_61 : decode prog_8_method_26_code 61 = .ok (.ldc_w 276, 3) := by decide +kernel
theorem dX6_readPlan_64 : decode prog_8_method_26_code 64 = .ok (.invokevirtual 199, 3) := by decide +kernel
theorem dX6_readPlan_67 : decode prog_8_method_26_code 67 = .ok (.ifCond .eq 15, 3) := by decide +kernel
theorem dX6_readPlan_70 : decode prog_8_method_26_code 70 = .ok (.aload_n 0, 1) := by decide +kernel
theorem dX6_readPlan_71 : decode prog_8_method_26_code 71 = .ok (.aload_n 1, 1) := by decide +kernel
theorem dX6_readPlan_72 : decode prog_8_method_26_code 72 = .ok (.iconst 3, 1) := by decide +kernel
theorem dX6_readPlan_73 : decode prog_8_method_26_code 73 = .ok (.iconst 1, 1) := by decide +kernel
theorem dX6_readPlan_74 : decode prog_8_method_26_code 74 = .ok (.bipush 99, 2) := by decide +kernel
theorem dX6_readPlan_76 : decode prog_8_method_26_code 76 = .ok (.invokevirtual 202, 3) := by decide +kernel
theorem dX6_readPlan_79 : decode prog_8_method_26_code 79 = .ok (.ifCond .ne 5, 3) := by decide +kernel
theorem dX6_readPlan_82 : decode prog_8_method_26_code 82 = .ok (.iconst 0, 1) := by decide +kernel
theorem dX6_readPlan_83 : decode prog_8_method_26_code 83 = .ok (.ireturn, 1) := by decide +kernel
theorem dX6_readPlan_84 : decode prog_8_method_26_code 84 = .ok (.aload_n 0, 1) := by decide +kernel
theorem dX6_readPlan_85 : decode prog_8_method_26_code 85 = .ok (.getfield 12, 3) := by decide +kernel
theorem dX6_readPlan_88 : decode prog_8_method_26_code 88 = .ok (.dup, 1) := by decide +kernel
theorem dX6_readPlan_89 : decode prog_8_method_26_code 89 = .ok (.getfield 143, 3) := by decide +kernel
theorem dX6_readPlan_92 : decode prog_8_method_26_code 92 = .ok (.iconst 1, 1) := by decide +kernel
theorem dX6_readPlan_93 : decode prog_8_method_26_code 93 = .ok (.iadd, 1) := by decide +kernel
theorem dX6_readPlan_94 : decode prog_8_method_26_code 94 = .ok (.putfield 143, 3) := by decide +kernel
theorem dX6_readPlan_97 : decode prog_8_method_26_code 97 = .ok (.iconst 1, 1) := by decide +kernel
theorem dX6_readPlan_98 : decode prog_8_method_26_code 98 = .ok (.ireturn, 1) := by decide +kernel
theorem dX6_readDies_0 : decode prog_8_method_27_code 0 = .ok (.aload_n 0, 1) := by decide +kernel
theorem dX6_readDies_1 : decode prog_8_method_27_code 1 = .ok (.aload_n 0, 1) := by decide +kernel
theorem dX6_readDies_2 : decode prog_8_method_27_code 2 = .ok (.getfield 70, 3) := by decide +kernel
theorem dX6_readDies_5 : decode prog_8_method_27_code 5 = .ok (.iconst 0, 1) := by decide +kernel
theorem dX6_readDies_6 : decode prog_8_method_27_code 6 = .ok (.iconst 0, 1) := by decide +kernel
theorem dX6_readDies_7 : decode prog_8_method_27_code 7 = .ok (.invokevirtual 270, 3) := by decide +kernel
theorem dX6_readDies_10 : decode prog_8_method_27_code 10 = .ok (.ifCond .ne 5, 3) := by decide +kernel
theorem dX6_readDies_13 : decode prog_8_method_27_code 13 = .ok (.iconst 0, 1) := by decide +kernel
theorem dX6_readDies_14 : decode prog_8_method_27_code 14 = .ok (.ireturn, 1) := by decide +kernel
theorem dX6_readDies_15 : decode prog_8_method_27_code 15 = .ok (.aload_n 0, 1) := by decide +kernel
theorem dX6_readDies_16 : decode prog_8_method_27_code 16 = .ok (.getfield 12, 3) := by decide +kernel
theorem dX6_readDies_19 : decode prog_8_method_27_code 19 = .ok (.getfield 165, 3) := by decide +kernel
theorem dX6_readDies_22 : decode prog_8_method_27_code 22 = .ok (.aload_n 0, 1) := by decide +kernel
theorem dX6_readDies_23 : decode prog_8_method_27_code 23 = .ok (.getfield 70, 3) := by decide +kernel
theorem dX6_readDies_26 : decode prog_8_method_27_code 26 = .ok (.iconst 0, 1) := by decide +kernel
theorem dX6_readDies_27 : decode prog_8_method_27_code 27 = .ok (.iaload, 1) := by decide +kernel
theorem dX6_readDies_28 : decode prog_8_method_27_code 28 = .ok (.aaload, 1) := by decide +kernel
theorem dX6_readDies_29 : decode prog_8_method_27_code 29 = .ok (.astore_n 1, 1) := by decide +kernel
theorem dX6_readDies_30 : decode prog_8_method_27_code 30 = .ok (.aload_n 1, 1) := by decide +kernel
theorem dX6_readDies_31 : decode prog_8_method_27_code 31 = .ok (.bipush 6, 2) := by decide +kernel
theorem dX6_readDies_33 : decode prog_8_method_27_code 33 = .ok (.iaload, 1) := by decide +kernel
theorem dX6_readDies_34 : decode prog_8_method_27_code 34 = .ok (.bipush (-2), 2) := by decide +kernel
theorem dX6_readDies_36 : decode prog_8_method_27_code 36 = .ok (.if_icmp .eq 9, 3) := by decide +kernel
theorem dX6_readDies_39 : decode prog_8_method_27_code 39 = .ok (.aload_n 0, 1) := by decide +kernel
theorem dX6_readDies_40 : decode prog_8_method_27_code 40 = .ok (.iconst 3, 1) := by decide +kernel
theorem dX6_readDies_41 : decode prog_8_method_27_code 41 = .ok (.invokevirtual 278, 3) := by decide +kernel
theorem dX6_readDies_44 : decode prog_8_method_27_code 44 = .ok (.ireturn, 1) := by decide +kernel
theorem dX6_readDies_45 : decode prog_8_method_27_code 45 = .ok (.aload_n 0, 1) := by decide +kernel
theorem dX6_readDies_46 : decode prog_8_method_27_code 46 = .ok (.aload_n 1, 1) := by decide +kernel
theorem dX6_readDies_47 : decode prog_8_method_27_code 47 = .ok (.bipush 6, 2) := by decide +kernel
theorem dX6_readDies_49 : decode prog_8_method_27_code 49 = .ok (.iconst 0, 1) := by decide +kernel
theorem dX6_readDies_50 : decode prog_8_method_27_code 50 = .ok (.aload_n 0, 1) := by decide +kernel
theorem dX6_readDies_51 : decode prog_8_method_27_code 51 = .ok (.getfield 12, 3) := by decide +kernel
theorem dX6_readDies_54 : decode prog_8_method_27_code 54 = .ok (.getfield 156, 3) := by decide +kernel
theorem dX6_readDies_57 : decode prog_8_method_27_code 57 = .ok (.iconst 1, 1) := by decide +kernel
theorem dX6_readDies_58 : decode prog_8_method_27_code 58 = .ok (.isub, 1) := by decide +kernel
theorem dX6_readDies_59 : decode prog_8_method_27_code 59 = .ok (.invokevirtual 202, 3) := by decide +kernel
theorem dX6_readDies_62 : decode prog_8_method_27_code 62 = .ok (.ireturn, 1) := by decide +kernel
theorem dX6_readBuys_0 : decode prog_8_method_28_code 0 = .ok (.aload_n 0, 1) := by decide +kernel
theorem dX6_readBuys_1 : decode prog_8_method_28_code 1 = .ok (.aload_n 1, 1) := by decide +kernel
theorem dX6_readBuys_2 : decode prog_8_method_28_code 2 = .ok (.iconst 0, 1) := by decide +kernel
theorem dX6_readBuys_3 : decode prog_8_method_28_code 3 = .ok (.iconst 0, 1) := by decide +kernel
theorem dX6_readBuys_4 : decode prog_8_method_28_code 4 = .ok (.aload_n 0, 1) := by decide +kernel
theorem dX6_readBuys_5 : decode prog_8_method_28_code 5 = .ok (.getfield 12, 3) := by decide +kernel
theorem dX6_readBuys_8 : decode prog_8_method_28_code 8 = .ok (.getfield 156, 3) := by decide +kernel
theorem dX6_readBuys_11 : decode prog_8_method_28_code 11 = .ok (.iconst 1, 1) := by decide +kernel
theorem dX6_readBuys_12 : decode prog_8_method_28_code 12 = .ok (.isub, 1) := by decide +kernel
theorem dX6_readBuys_13 : decode prog_8_method_28_code 13 = .ok (.invokevirtual 202, 3) := by decide +kernel
theorem dX6_readBuys_16 : decode prog_8_method_28_code 16 = .ok (.ifCond .eq 23, 3) := by decide +kernel
theorem dX6_readBuys_19 : decode prog_8_method_28_code 19 = .ok (.aload_n 0, 1) := by decide +kernel
theorem dX6_readBuys_20 : decode prog_8_method_28_code 20 = .ok (.aload_n 1, 1) := by decide +kernel
theorem dX6_readBuys_21 : decode prog_8_method_28_code 21 = .ok (.iconst 1, 1) := by decide +kernel
theorem dX6_readBuys_22 : decode prog_8_method_28_code 22 = .ok (.iconst 0, 1) := by decide +kernel
theorem dX6_readBuys_23 : decode prog_8_method_28_code 23 = .ok (.invokevirtual 270, 3) := by decide +kernel
theorem dX6_readBuys_26 : decode prog_8_method_28_code 26 = .ok (.ifCond .eq 13, 3) := by decide +kernel
theorem dX6_readBuys_29 : decode prog_8_method_28_code 29 = .ok (.aload_n 0, 1) := by decide +kernel
theorem dX6_readBuys_30 : decode prog_8_method_28_code 30 = .ok (.aload_n 1, 1) := by decide +kernel
theorem dX6_readBuys_31 : decode prog_8_method_28_code 31 = .ok (.iconst 2, 1) := by decide +kernel
theorem dX6_readBuys_32 : decode prog_8_method_28_code 32 = .ok (.iconst 0, 1) := by decide +kernel
theorem dX6_readBuys_33 : decode prog_8_method_28_code 33 = .ok (.invokevirtual 270, 3) := by decide +kernel
theorem dX6_readBuys_36 : decode prog_8_method_28_code 36 = .ok (.ifCond .ne 5, 3) := by decide +kernel
theorem dX6_readBuys_39 : decode prog_8_method_28_code 39 = .ok (.iconst 0, 1) := by decide +kernel
theorem dX6_readBuys_40 : decode prog_8_method_28_code 40 = .ok (.ireturn, 1) := by decide +kernel
theorem dX6_readBuys_41 : decode prog_8_method_28_code 41 = .ok (.aload_n 1, 1) := by decide +kernel
theorem dX6_readBuys_42 : decode prog_8_method_28_code 42 = .ok (.iconst 2, 1) := by decide +kernel
theorem dX6_readBuys_43 : decode prog_8_method_28_code 43 = .ok (.iaload, 1) := by decide +kernel
theorem dX6_readBuys_44 : decode prog_8_method_28_code 44 = .ok (.aload_n 1, 1) := by decide +kernel
theorem dX6_readBuys_45 : decode prog_8_method_28_code 45 = .ok (.iconst 1, 1) := by decide +kernel
theorem dX6_readBuys_46 : decode prog_8_method_28_code 46 = .ok (.iaload, 1) := by decide +kernel
theorem dX6_readBuys_47 : decode prog_8_method_28_code 47 = .ok (.if_icmp .ne 9, 3) := by decide +kernel
theorem dX6_readBuys_50 : decode prog_8_method_28_code 50 = .ok (.aload_n 0, 1) := by decide +kernel
theorem dX6_readBuys_51 : decode prog_8_method_28_code 51 = .ok (.iconst 3, 1) := by decide +kernel
theorem dX6_readBuys_52 : decode prog_8_method_28_code 52 = .ok (.invokevirtual 278, 3) := by decide +kernel
theorem dX6_readBuys_55 : decode prog_8_method_28_code 55 = .ok (.ireturn, 1) := by decide +kernel
theorem dX6_readBuys_56 : decode prog_8_method_28_code 56 = .ok (.aload_n 0, 1) := by decide +kernel
theorem dX6_readBuys_57 : decode prog_8_method_28_code 57 = .ok (.ldc_w 281, 3) := by decide +kernel
theorem dX6_readBuys_60 : decode prog_8_method_28_code 60 = .ok (.invokevirtual 199, 3) := by decide +kernel
theorem dX6_readBuys_63 : decode prog_8_method_28_code 63 = .ok (.ifCond .eq 15, 3) := by decide +kernel
theorem dX6_readBuys_66 : decode prog_8_method_28_code 66 = .ok (.aload_n 0, 1) := by decide +kernel
theorem dX6_readBuys_67 : decode prog_8_method_28_code 67 = .ok (.aload_n 1, 1) := by decide +kernel
theorem dX6_readBuys_68 : decode prog_8_method_28_code 68 = .ok (.iconst 3, 1) := by decide +kernel
theorem dX6_readBuys_69 : decode prog_8_method_28_code 69 = .ok (.iconst 0, 1) := by decide +kernel
theorem dX6_readBuys_70 : decode prog_8_method_28_code 70 = .ok (.bipush 99, 2) := by decide +kernel
theorem dX6_readBuys_72 : decode prog_8_method_28_code 72 = .ok (.invokevirtual 202, 3) := by decide +kernel
theorem dX6_readBuys_75 : decode prog_8_method_28_code 75 = .ok (.ifCond .ne 5, 3) := by decide +kernel
theorem dX6_readBuys_78 : decode prog_8_method_28_code 78 = .ok (.iconst 0, 1) := by decide +kernel
theorem dX6_readBuys_79 : decode prog_8_method_28_code 79 = .ok (.ireturn, 1) := by decide +kernel
theorem dX6_readBuys_80 : decode prog_8_method_28_code 80 = .ok (.aload_n 0, 1) := by decide +kernel
theorem dX6_readBuys_81 : decode prog_8_method_28_code 81 = .ok (.getfield 12, 3) := by decide +kernel
theorem dX6_readBuys_84 : decode prog_8_method_28_code 84 = .ok (.dup, 1) := by decide +kernel
theorem dX6_readBuys_85 : decode prog_8_method_28_code 85 = .ok (.getfield 146, 3) := by decide +kernel
theorem dX6_readBuys_88 : decode prog_8_method_28_code 88 = .ok (.iconst 1, 1) := by decide +kernel
theorem dX6_readBuys_89 : decode prog_8_method_28_code 89 = .ok (.iadd, 1) := by decide +kernel
theorem dX6_readBuys_90 : decode prog_8_method_28_code 90 = .ok (.putfield 146, 3) := by decide +kernel
theorem dX6_readBuys_93 : decode prog_8_method_28_code 93 = .ok (.iconst 1, 1) := by decide +kernel
theorem dX6_readBuys_94 : decode prog_8_method_28_code 94 = .ok (.ireturn, 1) := by decide +kernel
theorem dX6_readSecret_0 : decode prog_8_method_29_code 0 = .ok (.aload_n 0, 1) := by decide +kernel
theorem dX6_readSecret_1 : decode prog_8_method_29_code 1 = .ok (.iconst 1, 1) := by decide +kernel
theorem dX6_readSecret_2 : decode prog_8_method_29_code 2 = .ok (.aload_n 0, 1) := by decide +kernel
theorem dX6_readSecret_3 : decode prog_8_method_29_code 3 = .ok (.getfield 12, 3) := by decide +kernel
theorem dX6_readSecret_6 : decode prog_8_method_29_code 6 = .ok (.getfield 148, 3) := by decide +kernel
theorem dX6_readSecret_9 : decode prog_8_method_29_code 9 = .ok (.invokevirtual 231, 3) := by decide +kernel
theorem dX6_readSecret_12 : decode prog_8_method_29_code 12 = .ok (.ifCond .eq 25, 3) := by decide +kernel
theorem dX6_readSecret_15 : decode prog_8_method_29_code 15 = .ok (.aload_n 0, 1) := by decide +kernel
theorem dX6_readSecret_16 : decode prog_8_method_29_code 16 = .ok (.aload_n 0, 1) := by decide +kernel
theorem dX6_readSecret_17 : decode prog_8_method_29_code 17 = .ok (.getfield 12, 3) := by decide +kernel
theorem dX6_readSecret_20 : decode prog_8_method_29_code 20 = .ok (.getfield 283, 3) := by decide +kernel
theorem dX6_readSecret_23 : decode prog_8_method_29_code 23 = .ok (.aload_n 0, 1) := by decide +kernel
theorem dX6_readSecret_24 : decode prog_8_method_29_code 24 = .ok (.getfield 12, 3) := by decide +kernel
theorem dX6_readSecret_27 : decode prog_8_method_29_code 27 = .ok (.getfield 148, 3) := by decide +kernel
theorem dX6_readSecret_30 : decode prog_8_method_29_code 30 = .ok (.iconst 0, 1) := by decide +kernel
theorem dX6_readSecret_31 : decode prog_8_method_29_code 31 = .ok (.invokevirtual 270, 3) := by decide +kernel
theorem dX6_readSecret_34 : decode prog_8_method_29_code 34 = .ok (.ifCond .ne 5, 3) := by decide +kernel
theorem dX6_readSecret_37 : decode prog_8_method_29_code 37 = .ok (.iconst 0, 1) := by decide +kernel
theorem dX6_readSecret_38 : decode prog_8_method_29_code 38 = .ok (.ireturn, 1) := by decide +kernel
theorem dX6_readSecret_39 : decode prog_8_method_29_code 39 = .ok (.aload_n 0, 1) := by decide +kernel
theorem dX6_readSecret_40 : decode prog_8_method_29_code 40 = .ok (.getfield 12, 3) := by decide +kernel
theorem dX6_readSecret_43 : decode prog_8_method_29_code 43 = .ok (.dup, 1) := by decide +kernel
theorem dX6_readSecret_44 : decode prog_8_method_29_code 44 = .ok (.getfield 148, 3) := by decide +kernel
theorem dX6_readSecret_47 : decode prog_8_method_29_code 47 = .ok (.iconst 1, 1) := by decide +kernel
theorem dX6_readSecret_48 : decode prog_8_method_29_code 48 = .ok (.iadd, 1) := by decide +kernel
theorem dX6_readSecret_49 : decode prog_8_method_29_code 49 = .ok (.putfield 148, 3) := by decide +kernel
theorem dX6_readSecret_52 : decode prog_8_method_29_code 52 = .ok (.iconst 1, 1) := by decide +kernel
theorem dX6_readSecret_53 : decode prog_8_method_29_code 53 = .ok (.ireturn, 1) := by decide +kernel
theorem dX6_readHides_0 : decode prog_8_method_30_code 0 = .ok (.aload_n 0, 1) := by decide +kernel
theorem dX6_readHides_1 : decode prog_8_method_30_code 1 = .ok (.aload_n 0, 1) := by decide +kernel
theorem dX6_readHides_2 : decode prog_8_method_30_code 2 = .ok (.getfield 70, 3) := by decide +kernel
theorem dX6_readHides_5 : decode prog_8_method_30_code 5 = .ok (.iconst 0, 1) := by decide +kernel
theorem dX6_readHides_6 : decode prog_8_method_30_code 6 = .ok (.iconst 0, 1) := by decide +kernel
theorem dX6_readHides_7 : decode prog_8_method_30_code 7 = .ok (.invokevirtual 270, 3) := by decide +kernel
theorem dX6_readHides_10 : decode prog_8_method_30_code 10 = .ok (.ifCond .eq 29, 3) := by decide +kernel
theorem dX6_readHides_13 : decode prog_8_method_30_code 13 = .ok (.aload_n 0, 1) := by decide +kernel
theorem dX6_readHides_14 : decode prog_8_method_30_code 14 = .ok (.aload_n 0, 1) := by decide +kernel
theorem dX6_readHides_15 : decode prog_8_method_30_code 15 = .ok (.getfield 70, 3) := by decide +kernel
theorem dX6_readHides_18 : decode prog_8_method_30_code 18 = .ok (.iconst 1, 1) := by decide +kernel
theorem dX6_readHides_19 : decode prog_8_method_30_code 19 = .ok (.iconst 1, 1) := by decide +kernel
theorem dX6_readHides_20 : decode prog_8_method_30_code 20 = .ok (.invokevirtual 270, 3) := by decide +kernel
theorem dX6_readHides_23 : decode prog_8_method_30_code 23 = .ok (.ifCond .eq 16, 3) := by decide +kernel
theorem dX6_readHides_26 : decode prog_8_method_30_code 26 = .ok (.aload_n 0, 1) := by decide +kernel
theorem dX6_readHides_27 : decode prog_8_method_30_code 27 = .ok (.aload_n 0, 1) := by decide +kernel
theorem dX6_readHides_28 : decode prog_8_method_30_code 28 = .ok (.getfield 70, 3) := by decide +kernel
theorem dX6_readHides_31 : decode prog_8_method_30_code 31 = .ok (.iconst 2, 1) := by decide +kernel
theorem dX6_readHides_32 : decode prog_8_method_30_code 32 = .ok (.iconst 0, 1) := by decide +kernel
theorem dX6_readHides_33 : decode prog_8_method_30_code 33 = .ok (.invokevirtual 270, 3) := by decide +kernel
theorem dX6_readHides_36 : decode prog_8_method_30_code 36 = .ok (.ifCond .ne 5, 3) := by decide +kernel
theorem dX6_readHides_39 : decode prog_8_method_30_code 39 = .ok (.iconst 0, 1) := by decide +kernel
theorem dX6_readHides_40 : decode prog_8_method_30_code 40 = .ok (.ireturn, 1) := by decide +kernel
theorem dX6_readHides_41 : decode prog_8_method_30_code 41 = .ok (.aload_n 0, 1) := by decide +kernel
theorem dX6_readHides_42 : decode prog_8_method_30_code 42 = .ok (.getfield 70, 3) := by decide +kernel
theorem dX6_readHides_45 : decode prog_8_method_30_code 45 = .ok (.iconst 0, 1) := by decide +kernel
theorem dX6_readHides_46 : decode prog_8_method_30_code 46 = .ok (.iaload, 1) := by decide +kernel
theorem dX6_readHides_47 : decode prog_8_method_30_code 47 = .ok (.bipush 8, 2) := by decide +kernel
theorem dX6_readHides_49 : decode prog_8_method_30_code 49 = .ok (.imul, 1) := by decide +kernel
theorem dX6_readHides_50 : decode prog_8_method_30_code 50 = .ok (.aload_n 0, 1) := by decide +kernel
theorem dX6_readHides_51 : decode prog_8_method_30_code 51 = .ok (.getfield 70, 3) := by decide +kernel
theorem dX6_readHides_54 : decode prog_8_method_30_code 54 = .ok (.iconst 1, 1) := by decide +kernel
theorem dX6_readHides_55 : decode prog_8_method_30_code 55 = .ok (.iaload, 1) := by decide +kernel
theorem dX6_readHides_56 : decode prog_8_method_30_code 56 = .ok (.iadd, 1) := by decide +kernel
theorem dX6_readHides_57 : decode prog_8_method_30_code 57 = .ok (.istore_n 1, 1) := by decide +kernel
theorem dX6_readHides_58 : decode prog_8_method_30_code 58 = .ok (.aload_n 0, 1) := by decide +kernel
theorem dX6_readHides_59 : decode prog_8_method_30_code 59 = .ok (.getfield 70, 3) := by decide +kernel
theorem dX6_readHides_62 : decode prog_8_method_30_code 62 = .ok (.iconst 2, 1) := by decide +kernel
theorem dX6_readHides_63 : decode prog_8_method_30_code 63 = .ok (.iaload, 1) := by decide +kernel
theorem dX6_readHides_64 : decode prog_8_method_30_code 64 = .ok (.istore_n 2, 1) := by decide +kernel
theorem dX6_readHides_65 : decode prog_8_method_30_code 65 = .ok (.iload_n 2, 1) := by decide +kernel
theorem dX6_readHides_66 : decode prog_8_method_30_code 66 = .ok (.aload_n 0, 1) := by decide +kernel
theorem dX6_readHides_67 : decode prog_8_method_30_code 67 = .ok (.getfield 70, 3) := by decide +kernel
theorem dX6_readHides_70 : decode prog_8_method_30_code 70 = .ok (.iconst 0, 1) := by decide +kernel
theorem dX6_readHides_71 : decode prog_8_method_30_code 71 = .ok (.iaload, 1) := by decide +kernel
theorem dX6_readHides_72 : decode prog_8_method_30_code 72 = .ok (.if_icmp .eq 19, 3) := by decide +kernel
theorem dX6_readHides_75 : decode prog_8_method_30_code 75 = .ok (.aload_n 0, 1) := by decide +kernel
theorem dX6_readHides_76 : decode prog_8_method_30_code 76 = .ok (.getfield 12, 3) := by decide +kernel
theorem dX6_readHides_79 : decode prog_8_method_30_code 79 = .ok (.getfield 286, 3) := by decide +kernel
theorem dX6_readHides_82 : decode prog_8_method_30_code 82 = .ok (.iload_n 1, 1) := by decide +kernel
theorem dX6_readHides_83 : decode prog_8_method_30_code 83 = .ok (.iaload, 1) := by decide +kernel
theorem dX6_readHides_84 : decode prog_8_method_30_code 84 = .ok (.iload_n 2, 1) := by decide +kernel
theorem dX6_readHides_85 : decode prog_8_method_30_code 85 = .ok (.invokestatic 289, 3) := by decide +kernel
theorem dX6_readHides_88 : decode prog_8_method_30_code 88 = .ok (.ifCond .eq 9, 3) := by decide +kernel
theorem dX6_readHides_91 : decode prog_8_method_30_code 91 = .ok (.aload_n 0, 1) := by decide +kernel
theorem dX6_readHides_92 : decode prog_8_method_30_code 92 = .ok (.iconst 3, 1) := by decide +kernel
theorem dX6_readHides_93 : decode prog_8_method_30_code 93 = .ok (.invokevirtual 278, 3) := by decide +kernel
theorem dX6_readHides_96 : decode prog_8_method_30_code 96 = .ok (.ireturn, 1) := by decide +kernel
theorem dX6_readHides_97 : decode prog_8_method_30_code 97 = .ok (.aload_n 0, 1) := by decide +kernel
theorem dX6_readHides_98 : decode prog_8_method_30_code 98 = .ok (.getfield 12, 3) := by decide +kernel
theorem dX6_readHides_101 : decode prog_8_method_30_code 101 = .ok (.getfield 286, 3) := by decide +kernel
theorem dX6_readHides_104 : decode prog_8_method_30_code 104 = .ok (.iload_n 1, 1) := by decide +kernel
theorem dX6_readHides_105 : decode prog_8_method_30_code 105 = .ok (.dup2, 1) := by decide +kernel
theorem dX6_readHides_106 : decode prog_8_method_30_code 106 = .ok (.iaload, 1) := by decide +kernel
theorem dX6_readHides_107 : decode prog_8_method_30_code 107 = .ok (.iconst 1, 1) := by decide +kernel
theorem dX6_readHides_108 : decode prog_8_method_30_code 108 = .ok (.iload_n 2, 1) := by decide +kernel
theorem dX6_readHides_109 : decode prog_8_method_30_code 109 = .ok (.ishl, 1) := by decide +kernel
theorem dX6_readHides_110 : decode prog_8_method_30_code 110 = .ok (.ior, 1) := by decide +kernel
theorem dX6_readHides_111 : decode prog_8_method_30_code 111 = .ok (.iastore, 1) := by decide +kernel
theorem dX6_readHides_112 : decode prog_8_method_30_code 112 = .ok (.aload_n 0, 1) := by decide +kernel
theorem dX6_readHides_113 : decode prog_8_method_30_code 113 = .ok (.getfield 12, 3) := by decide +kernel
theorem dX6_readHides_116 : decode prog_8_method_30_code 116 = .ok (.dup, 1) := by decide +kernel
theorem dX6_readHides_117 : decode prog_8_method_30_code 117 = .ok (.getfield 151, 3) := by decide +kernel
theorem dX6_readHides_120 : decode prog_8_method_30_code 120 = .ok (.iconst 1, 1) := by decide +kernel
theorem dX6_readHides_121 : decode prog_8_method_30_code 121 = .ok (.iadd, 1) := by decide +kernel
theorem dX6_readHides_122 : decode prog_8_method_30_code 122 = .ok (.putfield 151, 3) := by decide +kernel
theorem dX6_readHides_125 : decode prog_8_method_30_code 125 = .ok (.iconst 1, 1) := by decide +kernel
theorem dX6_readHides_126 : decode prog_8_method_30_code 126 = .ok (.ireturn, 1) := by decide +kernel
theorem dX6_readDiary_0 : decode prog_8_method_31_code 0 = .ok (.aload_n 1, 1) := by decide +kernel
theorem dX6_readDiary_1 : decode prog_8_method_31_code 1 = .ok (.iconst 2, 1) := by decide +kernel
theorem dX6_readDiary_2 : decode prog_8_method_31_code 2 = .ok (.iload_n 2, 1) := by decide +kernel
theorem dX6_readDiary_3 : decode prog_8_method_31_code 3 = .ok (.iastore, 1) := by decide +kernel
theorem dX6_readDiary_4 : decode prog_8_method_31_code 4 = .ok (.aload_n 0, 1) := by decide +kernel
theorem dX6_readDiary_5 : decode prog_8_method_31_code 5 = .ok (.aload_n 1, 1) := by decide +kernel
theorem dX6_readDiary_6 : decode prog_8_method_31_code 6 = .ok (.iconst 0, 1) := by decide +kernel
theorem dX6_readDiary_7 : decode prog_8_method_31_code 7 = .ok (.iconst 0, 1) := by decide +kernel
theorem dX6_readDiary_8 : decode prog_8_method_31_code 8 = .ok (.aload_n 0, 1) := by decide +kernel
theorem dX6_readDiary_9 : decode prog_8_method_31_code 9 = .ok (.getfield 12, 3) := by decide +kernel
theorem dX6_readDiary_12 : decode prog_8_method_31_code 12 = .ok (.getfield 156, 3) := by decide +kernel
theorem dX6_readDiary_15 : decode prog_8_method_31_code 15 = .ok (.iconst 1, 1) := by decide +kernel
theorem dX6_readDiary_16 : decode prog_8_method_31_code 16 = .ok (.isub, 1) := by decide +kernel
theorem dX6_readDiary_17 : decode prog_8_method_31_code 17 = .ok (.invokevirtual 202, 3) := by decide +kernel
theorem dX6_readDiary_20 : decode prog_8_method_31_code 20 = .ok (.ifCond .eq 13, 3) := by decide +kernel
theorem dX6_readDiary_23 : decode prog_8_method_31_code 23 = .ok (.aload_n 0, 1) := by decide +kernel
theorem dX6_readDiary_24 : decode prog_8_method_31_code 24 = .ok (.aload_n 1, 1) := by decide +kernel
theorem dX6_readDiary_25 : decode prog_8_method_31_code 25 = .ok (.iconst 1, 1) := by decide +kernel
theorem dX6_readDiary_26 : decode prog_8_method_31_code 26 = .ok (.iconst 0, 1) := by decide +kernel
theorem dX6_readDiary_27 : decode prog_8_method_31_code 27 = .ok (.invokevirtual 270, 3) := by decide +kernel
theorem dX6_readDiary_30 : decode prog_8_method_31_code 30 = .ok (.ifCond .ne 5, 3) := by decide +kernel
theorem dX6_readDiary_33 : decode prog_8_method_31_code 33 = .ok (.iconst 0, 1) := by decide +kernel
theorem dX6_readDiary_34 : decode prog_8_method_31_code 34 = .ok (.ireturn, 1) := by decide +kernel
theorem dX6_readDiary_35 : decode prog_8_method_31_code 35 = .ok (.aload_n 0, 1) := by decide +kernel
theorem dX6_readDiary_36 : decode prog_8_method_31_code 36 = .ok (.getfield 12, 3) := by decide +kernel
theorem dX6_readDiary_39 : decode prog_8_method_31_code 39 = .ok (.dup, 1) := by decide +kernel
theorem dX6_readDiary_40 : decode prog_8_method_31_code 40 = .ok (.getfield 153, 3) := by decide +kernel
theorem dX6_readDiary_43 : decode prog_8_method_31_code 43 = .ok (.iconst 1, 1) := by decide +kernel
theorem dX6_readDiary_44 : decode prog_8_method_31_code 44 = .ok (.iadd, 1) := by decide +kernel
theorem dX6_readDiary_45 : decode prog_8_method_31_code 45 = .ok (.putfield 153, 3) := by decide +kernel
theorem dX6_readDiary_48 : decode prog_8_method_31_code 48 = .ok (.iconst 1, 1) := by decide +kernel
theorem dX6_readDiary_49 : decode prog_8_method_31_code 49 = .ok (.ireturn, 1) := by decide +kernel
theorem dX10_init_0 : decode prog_1_method_1_code 0 = .ok (.aload_n 0, 1) := by decide +kernel
theorem dX10_init_1 : decode prog_1_method_1_code 1 = .ok (.invokespecial 3, 3) := by decide +kernel
theorem dX10_init_4 : decode prog_1_method_1_code 4 = .ok (.aload_n 0, 1) := by decide +kernel
theorem dX10_init_5 : decode prog_1_method_1_code 5 = .ok (.new 9, 3) := by decide +kernel
theorem dX10_init_8 : decode prog_1_method_1_code 8 = .ok (.dup, 1) := by decide +kernel
theorem dX10_init_9 : decode prog_1_method_1_code 9 = .ok (.invokespecial 11, 3) := by decide +kernel
theorem dX10_init_12 : decode prog_1_method_1_code 12 = .ok (.putfield 12, 3) := by decide +kernel
theorem dX10_init_15 : decode prog_1_method_1_code 15 = .ok (.aload_n 0, 1) := by decide +kernel
theorem dX10_init_16 : decode prog_1_method_1_code 16 = .ok (.new 16, 3) := by decide +kernel
theorem dX10_init_19 : decode prog_1_method_1_code 19 = .ok (.dup, 1) := by decide +kernel
theorem dX10_init_20 : decode prog_1_method_1_code 20 = .ok (.invokespecial 18, 3) := by decide +kernel
theorem dX10_init_23 : decode prog_1_method_1_code 23 = .ok (.putfield 19, 3) := by decide +kernel
theorem dX10_init_26 : decode prog_1_method_1_code 26 = .ok (.aload_n 0, 1) := by decide +kernel
theorem dX10_init_27 : decode prog_1_method_1_code 27 = .ok (.new 23, 3) := by decide +kernel
theorem dX10_init_30 : decode prog_1_method_1_code 30 = .ok (.dup, 1) := by decide +kernel
theorem dX10_init_31 : decode prog_1_method_1_code 31 = .ok (.invokespecial 25, 3) := by decide +kernel
theorem dX10_init_34 : decode prog_1_method_1_code 34 = .ok (.putfield 26, 3) := by decide +kernel
theorem dX10_init_37 : decode prog_1_method_1_code 37 = .ok (.aload_n 0, 1) := by decide +kernel
theorem dX10_init_38 : decode prog_1_method_1_code 38 = .ok (.new 30, 3) := by decide +kernel
theorem dX10_init_41 : decode prog_1_method_1_code 41 = .ok (.dup, 1) := by decide +kernel
theorem dX10_init_42 : decode prog_1_method_1_code 42 = .ok (.aload_n 0, 1) := by decide +kernel
theorem dX10_init_43 : decode prog_1_method_1_code 43 = .ok (.getfield 19, 3) := by decide +kernel
theorem dX10_init_46 : decode prog_1_method_1_code 46 = .ok (.invokespecial 32, 3) := by decide +kernel
theorem dX10_init_49 : decode prog_1_method_1_code 49 = .ok (.putfield 35, 3) := by decide +kernel
theorem dX10_init_52 : decode prog_1_method_1_code 52 = .ok (.aload_n 0, 1) := by decide +kernel
theorem dX10_init_53 : decode prog_1_method_1_code 53 = .ok (.new 39, 3) := by decide +kernel
theorem dX10_init_56 : decode prog_1_method_1_code 56 = .ok (.dup, 1) := by decide +kernel
theorem dX10_init_57 : decode prog_1_method_1_code 57 = .ok (.aload_n 0, 1) := by decide +kernel
theorem dX10_init_58 : decode prog_1_method_1_code 58 = .ok (.getfield 19, 3) := by decide +kernel
theorem dX10_init_61 : decode prog_1_method_1_code 61 = .ok (.invokespecial 41, 3) := by decide +kernel
theorem dX10_init_64 : decode prog_1_method_1_code 64 = .ok (.putfield 42, 3) := by decide +kernel
theorem dX10_init_67 : decode prog_1_method_1_code 67 = .ok (.aload_n 0, 1) := by decide +kernel
theorem dX10_init_68 : decode prog_1_method_1_code 68 = .ok (.new 46, 3) := by decide +kernel
theorem dX10_init_71 : decode prog_1_method_1_code 71 = .ok (.dup, 1) := by decide +kernel
theorem dX10_init_72 : decode prog_1_method_1_code 72 = .ok (.aload_n 0, 1) := by decide +kernel
theorem dX10_init_73 : decode prog_1_method_1_code 73 = .ok (.getfield 19, 3) := by decide +kernel
theorem dX10_init_76 : decode prog_1_method_1_code 76 = .ok (.invokespecial 48, 3) := by decide +kernel
theorem dX10_init_79 : decode prog_1_method_1_code 79 = .ok (.putfield 49, 3) := by decide +kernel
theorem dX10_init_82 : decode prog_1_method_1_code 82 = .ok (.aload_n 0, 1) := by decide +kernel
theorem dX10_init_83 : decode prog_1_method_1_code 83 = .ok (.iconst 0, 1) := by decide +kernel
theorem dX10_init_84 : decode prog_1_method_1_code 84 = .ok (.putfield 53, 3) := by decide +kernel
theorem dX10_init_87 : decode prog_1_method_1_code 87 = .ok (.aload_n 0, 1) := by decide +kernel
theorem dX10_init_88 : decode prog_1_method_1_code 88 = .ok (.iconst 0, 1) := by decide +kernel
theorem dX10_init_89 : decode prog_1_method_1_code 89 = .ok (.putfield 57, 3) := by decide +kernel
theorem dX10_init_92 : decode prog_1_method_1_code 92 = .ok (.return_, 1) := by decide +kernel
theorem dX10_feed_0 : decode prog_1_method_2_code 0 = .ok (.aload_n 0, 1) := by decide +kernel
theorem dX10_feed_1 : decode prog_1_method_2_code 1 = .ok (.getfield 12, 3) := by decide +kernel
theorem dX10_feed_4 : decode prog_1_method_2_code 4 = .ok (.getfield 61, 3) := by decide +kernel
theorem dX10_feed_7 : decode prog_1_method_2_code 7 = .ok (.sipush 1080, 3) := by decide +kernel
theorem dX10_feed_10 : decode prog_1_method_2_code 10 = .ok (.if_icmp .le 5, 3) := by decide +kernel
theorem dX10_feed_13 : decode prog_1_method_2_code 13 = .ok (.iconst (-1), 1) := by decide +kernel
theorem dX10_feed_14 : decode prog_1_method_2_code 14 = .ok (.ireturn, 1) := by decide +kernel
theorem dX10_feed_15 : decode prog_1_method_2_code 15 = .ok (.aload_n 0, 1) := by decide +kernel
theorem dX10_feed_16 : decode prog_1_method_2_code 16 = .ok (.getfield 12, 3) := by decide +kernel
theorem dX10_feed_19 : decode prog_1_method_2_code 19 = .ok (.iload_n 1, 1) := by decide +kernel
theorem dX10_feed_20 : decode prog_1_method_2_code 20 = .ok (.invokevirtual 64, 3) := by decide +kernel
theorem dX10_feed_23 : decode prog_1_method_2_code 23 = .ok (.aload_n 0, 1) := by decide +kernel
theorem dX10_feed_24 : decode prog_1_method_2_code 24 = .ok (.getfield 12, 3) := by decide +kernel
theorem dX10_feed_27 : decode prog_1_method_2_code 27 = .ok (.iload_n 2, 1) := by decide +kernel
theorem dX10_feed_28 : decode prog_1_method_2_code 28 = .ok (.invokevirtual 64, 3) := by decide +kernel
theorem dX10_feed_31 : decode prog_1_method_2_code 31 = .ok (.aload_n 0, 1) := by decide +kernel
theorem dX10_feed_32 : decode prog_1_method_2_code 32 = .ok (.getfield 12, 3) := by decide +kernel
theorem dX10_feed_35 : decode prog_1_method_2_code 35 = .ok (.iload_n 3, 1) := by decide +kernel
theorem dX10_feed_36 : decode prog_1_method_2_code 36 = .ok (.invokevirtual 64, 3) := by decide +kernel
theorem dX10_feed_39 : decode prog_1_method_2_code 39 = .ok (.aload_n 0, 1) := by decide +kernel
theorem dX10_feed_40 : decode prog_1_method_2_code 40 = .ok (.getfield 12, 3) := by decide +kernel
theorem dX10_feed_43 : decode prog_1_method_2_code 43 = .ok (.iload 4, 2) := by decide +kernel
theorem dX10_feed_45 : decode prog_1_method_2_code 45 = .ok (.invokevirtual 64, 3) := by decide +kernel
theorem dX10_feed_48 : decode prog_1_method_2_code 48 = .ok (.aload_n 0, 1) := by decide +kernel
theorem dX10_feed_49 : decode prog_1_method_2_code 49 = .ok (.getfield 12, 3) := by decide +kernel
theorem dX10_feed_52 : decode prog_1_method_2_code 52 = .ok (.iload 5, 2) := by decide +kernel
theorem dX10_feed_54 : decode prog_1_method_2_code 54 = .ok (.invokevirtual 64, 3) := by decide +kernel
theorem dX10_feed_57 : decode prog_1_method_2_code 57 = .ok (.aload_n 0, 1) := by decide +kernel
theorem dX10_feed_58 : decode prog_1_method_2_code 58 = .ok (.getfield 12, 3) := by decide +kernel
theorem dX10_feed_61 : decode prog_1_method_2_code 61 = .ok (.getfield 61, 3) := by decide +kernel
theorem dX10_feed_64 : decode prog_1_method_2_code 64 = .ok (.ireturn, 1) := by decide +kernel
theorem dX10_family_0 : decode prog_1_method_3_code 0 = .ok (.iload_n 1, 1) := by decide +kernel
theorem dX10_family_1 : decode prog_1_method_3_code 1 = .ok (.ifCond .lt 14, 3) := by decide +kernel
theorem dX10_family_4 : decode prog_1_method_3_code 4 = .ok (.iload_n 1, 1) := by decide +kernel
theorem dX10_family_5 : decode prog_1_method_3_code 5 = .ok (.aload_n 0, 1) := by decide +kernel
theorem dX10_family_6 : decode prog_1_method_3_code 6 = .ok (.getfield 12, 3) := by decide +kernel
theorem dX10_family_9 : decode prog_1_method_3_code 9 = .ok (.getfield 61, 3) := by decide +kernel
theorem dX10_family_12 : decode prog_1_method_3_code 12 = .ok (.if_icmp .le 9, 3) := by decide +kernel
theorem dX10_family_15 : decode prog_1_method_3_code 15 = .ok (.aload_n 0, 1) := by decide +kernel
theorem dX10_family_16 : decode prog_1_method_3_code 16 = .ok (.iconst 2, 1) := by decide +kernel
theorem dX10_family_17 : decode prog_1_method_3_code 17 = .ok (.invokevirtual 68, 3) := by decide +kernel
theorem dX10_family_20 : decode prog_1_method_3_code 20 = .ok (.ireturn, 1) := by decide +kernel
theorem dX10_family_21 : decode prog_1_method_3_code 21 = .ok (.aload_n 0, 1) := by decide +kernel
theorem dX10_family_22 : decode prog_1_method_3_code 22 = .ok (.getfield 12, 3) := by decide +kernel
theorem dX10_family_25 : decode prog_1_method_3_code 25 = .ok (.iload_n 1, 1) := by decide +kernel
theorem dX10_family_26 : decode prog_1_method_3_code 26 = .ok (.invokevirtual 72, 3) := by decide +kernel
theorem dX10_family_29 : decode prog_1_method_3_code 29 = .ok (.ifCond .ne 9, 3) := by decide +kernel
theorem dX10_family_32 : decode prog_1_method_3_code 32 = .ok (.aload_n 0, 1) := by decide +kernel
theorem dX10_family_33 : decode prog_1_method_3_code 33 = .ok (.iconst 4, 1) := by decide +kernel
theorem dX10_family_34 : decode prog_1_method_3_code 34 = .ok (.invokevirtual 68, 3) := by decide +kernel
theorem dX10_family_37 : decode prog_1_method_3_code 37 = .ok (.ireturn, 1) := by decide +kernel
theorem dX10_family_38 : decode prog_1_method_3_code 38 = .ok (.aload_n 0, 1) := by decide +kernel
theorem dX10_family_39 : decode prog_1_method_3_code 39 = .ok (.getfield 19, 3) := by decide +kernel
theorem dX10_family_42 : decode prog_1_method_3_code 42 = .ok (.getfield 76, 3) := by decide +kernel
theorem dX10_family_45 : decode prog_1_method_3_code 45 = .ok (.astore_n 2, 1) := by decide +kernel
theorem dX10_family_46 : decode prog_1_method_3_code 46 = .ok (.aload_n 0, 1) := by decide +kernel
theorem dX10_family_47 : decode prog_1_method_3_code 47 = .ok (.getfield 19, 3) := by decide +kernel
theorem dX10_family_50 : decode prog_1_method_3_code 50 = .ok (.aload_n 0, 1) := by decide +kernel
theorem dX10_family_51 : decode prog_1_method_3_code 51 = .ok (.getfield 12, 3) := by decide +kernel
theorem dX10_family_54 : decode prog_1_method_3_code 54 = .ok (.getfield 80, 3) := by decide +kernel
theorem dX10_family_57 : decode prog_1_method_3_code 57 = .ok (.putfield 76, 3) := by decide +kernel
theorem dX10_family_60 : decode prog_1_method_3_code 60 = .ok (.aload_n 0, 1) := by decide +kernel
theorem dX10_family_61 : decode prog_1_method_3_code 61 = .ok (.getfield 12, 3) := by decide +kernel
theorem dX10_family_64 : decode prog_1_method_3_code 64 = .ok (.aload_n 2, 1) := by decide +kernel
theorem dX10_family_65 : decode prog_1_method_3_code 65 = .ok (.putfield 80, 3) := by decide +kernel
theorem dX10_family_68 : decode prog_1_method_3_code 68 = .ok (.aload_n 0, 1) := by decide +kernel
theorem dX10_family_69 : decode prog_1_method_3_code 69 = .ok (.getfield 19, 3) := by decide +kernel
theorem dX10_family_72 : decode prog_1_method_3_code 72 = .ok (.getfield 81, 3) := by decide +kernel
theorem dX10_family_75 : decode prog_1_method_3_code 75 = .ok (.aload_n 0, 1) := by decide +kernel
theorem dX10_family_76 : decode prog_1_method_3_code 76 = .ok (.getfield 19, 3) := by decide +kernel
theorem dX10_family_79 : decode prog_1_method_3_code 79 = .ok (.getfield 76, 3) := by decide +kernel
theorem dX10_family_82 : decode prog_1_method_3_code 82 = .ok (.invokevirtual 85, 3) := by decide +kernel
theorem dX10_family_85 : decode prog_1_method_3_code 85 = .ok (.aload_n 0, 1) := by decide +kernel
theorem dX10_family_86 : decode prog_1_method_3_code 86 = .ok (.getfield 26, 3) := by decide +kernel
theorem dX10_family_89 : decode prog_1_method_3_code 89 = .ok (.invokevirtual 91, 3) := by decide +kernel
theorem dX10_family_92 : decode prog_1_method_3_code 92 = .ok (.aload_n 0, 1) := by decide +kernel
theorem dX10_family_93 : decode prog_1_method_3_code 93 = .ok (.iconst 1, 1) := by decide +kernel
theorem dX10_family_94 : decode prog_1_method_3_code 94 = .ok (.putfield 53, 3) := by decide +kernel
theorem dX10_family_97 : decode prog_1_method_3_code 97 = .ok (.aload_n 0, 1) := by decide +kernel
theorem dX10_family_98 : decode prog_1_method_3_code 98 = .ok (.invokevirtual 94, 3) := by decide +kernel
theorem dX10_family_101 : decode prog_1_method_3_code 101 = .ok (.pop, 1) := by decide +kernel
theorem dX10_family_102 : decode prog_1_method_3_code 102 = .ok (.aload_n 0, 1) := by decide +kernel
theorem dX10_family_103 : decode prog_1_method_3_code 103 = .ok (.getfield 19, 3) := by decide +kernel
theorem dX10_family_106 : decode prog_1_method_3_code 106 = .ok (.getfield 76, 3) := by decide +kernel
theorem dX10_family_109 : decode prog_1_method_3_code 109 = .ok (.getfield 98, 3) := by decide +kernel
theorem dX10_family_112 : decode prog_1_method_3_code 112 = .ok (.ireturn, 1) := by decide +kernel
theorem dX10_fault_0 : decode prog_1_method_4_code 0 = .ok (.aload_n 0, 1) := by decide +kernel
theorem dX10_fault_1 : decode prog_1_method_4_code 1 = .ok (.getfield 12, 3) := by decide +kernel
theorem dX10_fault_4 : decode prog_1_method_4_code 4 = .ok (.getfield 103, 3) := by decide +kernel
theorem dX10_fault_7 : decode prog_1_method_4_code 7 = .ok (.ireturn, 1) := by decide +kernel
theorem dX10_where_0 : decode prog_1_method_5_code 0 = .ok (.aload_n 0, 1) := by decide +kernel
theorem dX10_where_1 : decode prog_1_method_5_code 1 = .ok (.getfield 57, 3) := by decide +kernel
theorem dX10_where_4 : decode prog_1_method_5_code 4 = .ok (.iconst 4, 1) := by decide +kernel
theorem dX10_where_5 : decode prog_1_method_5_code 5 = .ok (.if_icmp .ne 13, 3) := by decide +kernel
theorem dX10_where_8 : decode prog_1_method_5_code 8 = .ok (.aload_n 0, 1) := by decide +kernel
theorem dX10_where_9 : decode prog_1_method_5_code 9 = .ok (.getfield 12, 3) := by decide +kernel
theorem dX10_where_12 : decode prog_1_method_5_code 12 = .ok (.getfield 106, 3) := by decide +kernel
theorem dX10_where_15 : decode prog_1_method_5_code 15 = .ok (.goto 4, 3) := by decide +kernel
theorem dX10_where_18 : decode prog_1_method_5_code 18 = .ok (.iconst (-1), 1) := by decide +kernel
theorem dX10_where_19 : decode prog_1_method_5_code 19 = .ok (.ireturn, 1) := by decide +kernel
theorem dX10_person_0 : decode prog_1_method_6_code 0 = .ok (.aload_n 0, 1) := by decide +kernel
theorem dX10_person_1 : decode prog_1_method_6_code 1 = .ok (.iload_n 1, 1) := by decide +kernel
theorem dX10_person_2 : decode prog_1_method_6_code 2 = .ok (.invokevirtual 109, 3) := by decide +kernel
theorem dX10_person_5 : decode prog_1_method_6_code 5 = .ok (.ifCond .ne 13, 3) := by decide +kernel
theorem dX10_person_8 : decode prog_1_method_6_code 8 = .ok (.iload_n 2, 1) := by decide +kernel
theorem dX10_person_9 : decode prog_1_method_6_code 9 = .ok (.ifCond .lt 9, 3) := by decide +kernel
theorem dX10_person_12 : decode prog_1_method_6_code 12 = .ok (.iload_n 2, 1) := by decide +kernel
theorem dX10_person_13 : decode prog_1_method_6_code 13 = .ok (.bipush 7, 2) := by decide +kernel
theorem dX10_person_15 : decode prog_1_method_6_code 15 = .ok (.if_icmp .lt 9, 3) := by decide +kernel
theorem dX10_person_18 : decode prog_1_method_6_code 18 = .ok (.aload_n 0, 1) := by decide +kernel
theorem dX10_person_19 : decode prog_1_method_6_code 19 = .ok (.iconst 1, 1) := by decide +kernel
theorem dX10_person_20 : decode prog_1_method_6_code 20 = .ok (.invokevirtual 68, 3) := by decide +kernel
theorem dX10_person_23 : decode prog_1_method_6_code 23 = .ok (.ireturn, 1) := by decide +kernel
theorem dX10_person_24 : decode prog_1_method_6_code 24 = .ok (.aload_n 0, 1) := by decide +kernel
theorem dX10_person_25 : decode prog_1_method_6_code 25 = .ok (.getfield 19, 3) := by decide +kernel
theorem dX10_person_28 : decode prog_1_method_6_code 28 = .ok (.getfield 76, 3) := by decide +kernel
theorem dX10_person_31 : decode prog_1_method_6_code 31 = .ok (.getfield 112, 3) := by decide +kernel
theorem dX10_person_34 : decode prog_1_method_6_code 34 = .ok (.iload_n 1, 1) := by decide +kernel
theorem dX10_person_35 : decode prog_1_method_6_code 35 = .ok (.aaload, 1) := by decide +kernel
theorem dX10_person_36 : decode prog_1_method_6_code 36 = .ok (.astore_n 3, 1) := by decide +kernel
theorem dX10_person_37 : decode prog_1_method_6_code 37 = .ok (.iload_n 2, 1) := by decide +kernel
theorem dX10_person_38 : decode prog_1_method_6_code 38 = .ok (.iconst 2, 1) := by decide +kernel
theorem dX10_person_39 : decode prog_1_method_6_code 39 = .ok (.if_icmp .ne 23, 3) := by decide +kernel
theorem dX10_person_42 : decode prog_1_method_6_code 42 = .ok (.aload_n 0, 1) := by decide +kernel
theorem dX10_person_43 : decode prog_1_method_6_code 43 = .ok (.aload_n 3, 1) := by decide +kernel
theorem dX10_person_44 : decode prog_1_method_6_code 44 = .ok (.iconst 2, 1) := by decide +kernel
theorem dX10_person_45 : decode prog_1_method_6_code 45 = .ok (.iaload, 1) := by decide +kernel
theorem dX10_person_46 : decode prog_1_method_6_code 46 = .ok (.ifCond .le 8, 3) := by decide +kernel
theorem dX10_person_49 : decode prog_1_method_6_code 49 = .ok (.bipush (-100), 2) := by decide +kernel
theorem dX10_person_51 : decode prog_1_method_6_code 51 = .ok (.goto 7, 3) := by decide +kernel
theorem dX10_person_54 : decode prog_1_method_6_code 54 = .ok (.aload_n 3, 1) := by decide +kernel
theorem dX10_person_55 : decode prog_1_method_6_code 55 = .ok (.iconst 2, 1) := by decide +kernel
theorem dX10_person_56 : decode prog_1_method_6_code 56 = .ok (.iaload, 1) := by decide +kernel
theorem dX10_person_57 : decode prog_1_method_6_code 57 = .ok (.ineg, 1) := by decide +kernel
theorem dX10_person_58 : decode prog_1_method_6_code 58 = .ok (.invokevirtual 116, 3) := by decide +kernel
theorem dX10_person_61 : decode prog_1_method_6_code 61 = .ok (.ireturn, 1) := by decide +kernel
theorem dX10_person_62 : decode prog_1_method_6_code 62 = .ok (.aload_n 0, 1) := by decide +kernel
theorem dX10_person_63 : decode prog_1_method_6_code 63 = .ok (.iload_n 2, 1) := by decide +kernel
theorem dX10_person_64 : decode prog_1_method_6_code 64 = .ok (.bipush 6, 2) := by decide +kernel
theorem dX10_person_66 : decode prog_1_method_6_code 66 = .ok (.if_icmp .ne 18, 3) := by decide +kernel
theorem dX10_person_69 : decode prog_1_method_6_code 69 = .ok (.aload_n 0, 1) := by decide +kernel
theorem dX10_person_70 : decode prog_1_method_6_code 70 = .ok (.getfield 19, 3) := by decide +kernel
theorem dX10_person_73 : decode prog_1_method_6_code 73 = .ok (.getfield 81, 3) := by decide +kernel
theorem dX10_person_76 : decode prog_1_method_6_code 76 = .ok (.getfield 119, 3) := by decide +kernel
theorem dX10_person_79 : decode prog_1_method_6_code 79 = .ok (.iload_n 1, 1) := by decide +kernel
theorem dX10_person_80 : decode prog_1_method_6_code 80 = .ok (.iaload, 1) := by decide +kernel
theorem dX10_person_81 : decode prog_1_method_6_code 81 = .ok (.goto 6, 3) := by decide +kernel
theorem dX10_person_84 : decode prog_1_method_6_code 84 = .ok (.aload_n 3, 1) := by decide +kernel
theorem dX10_person_85 : decode prog_1_method_6_code 85 = .ok (.iload_n 2, 1) := by decide +kernel
theorem dX10_person_86 : decode prog_1_method_6_code 86 = .ok (.iaload, 1) := by decide +kernel
theorem dX10_person_87 : decode prog_1_method_6_code 87 = .ok (.invokevirtual 116, 3) := by decide +kernel
theorem dX10_person_90 : decode prog_1_method_6_code 90 = .ok (.ireturn, 1) := by decide +kernel
theorem dX10_plan_0 : decode prog_1_method_7_code 0 = .ok (.aload_n 0, 1) := by decide +kernel
theorem dX10_plan_1 : decode prog_1_method_7_code 1 = .ok (.getfield 53, 3) := by decide +kernel
theorem dX10_plan_4 : decode prog_1_method_7_code 4 = .ok (.ifCond .eq 30, 3) := by decide +kernel
theorem dX10_plan_7 : decode prog_1_method_7_code 7 = .ok (.iload_n 1, 1) := by decide +kernel
theorem dX10_plan_8 : decode prog_1_method_7_code 8 = .ok (.ifCond .lt 26, 3) := by decide +kernel
theorem dX10_plan_11 : decode prog_1_method_7_code 11 = .ok (.iload_n 1, 1) := by decide +kernel
theorem dX10_plan_12 : decode prog_1_method_7_code 12 = .ok (.aload_n 0, 1) := by decide +kernel
theorem dX10_plan_13 : decode prog_1_method_7_code 13 = .ok (.getfield 19, 3) := by decide +kernel
theorem dX10_plan_16 : decode prog_1_method_7_code 16 = .ok (.getfield 76, 3) := by decide +kernel
theorem dX10_plan_19 : decode prog_1_method_7_code 19 = .ok (.getfield 123, 3) := by decide +kernel
theorem dX10_plan_22 : decode prog_1_method_7_code 22 = .ok (.if_icmp .ge 12, 3) := by decide +kernel
theorem dX10_plan_25 : decode prog_1_method_7_code 25 = .ok (.iload_n 2, 1) := by decide +kernel
theorem dX10_plan_26 : decode prog_1_method_7_code 26 = .ok (.ifCond .lt 8, 3) := by decide +kernel
theorem dX10_plan_29 : decode prog_1_method_7_code 29 = .ok (.iload_n 2, 1) := by decide +kernel
theorem dX10_plan_30 : decode prog_1_method_7_code 30 = .ok (.iconst 4, 1) := by decide +kernel
theorem dX10_plan_31 : decode prog_1_method_7_code 31 = .ok (.if_icmp .lt 9, 3) := by decide +kernel
theorem dX10_plan_34 : decode prog_1_method_7_code 34 = .ok (.aload_n 0, 1) := by decide +kernel
theorem dX10_plan_35 : decode prog_1_method_7_code 35 = .ok (.iconst 1, 1) := by decide +kernel
theorem dX10_plan_36 : decode prog_1_method_7_code 36 = .ok (.invokevirtual 68, 3) := by decide +kernel
theorem dX10_plan_39 : decode prog_1_method_7_code 39 = .ok (.ireturn, 1) := by decide +kernel
theorem dX10_plan_40 : decode prog_1_method_7_code 40 = .ok (.aload_n 0, 1) := by decide +kernel
theorem dX10_plan_41 : decode prog_1_method_7_code 41 = .ok (.aload_n 0, 1) := by decide +kernel
theorem dX10_plan_42 : decode prog_1_method_7_code 42 = .ok (.getfield 19, 3) := by decide +kernel
theorem dX10_plan_45 : decode prog_1_method_7_code 45 = .ok (.getfield 76, 3) := by decide +kernel
theorem dX10_plan_48 : decode prog_1_method_7_code 48 = .ok (.getfield 126, 3) := by decide +kernel
theorem dX10_plan_51 : decode prog_1_method_7_code 51 = .ok (.iload_n 1, 1) := by decide +kernel
theorem dX10_plan_52 : decode prog_1_method_7_code 52 = .ok (.aaload, 1) := by decide +kernel
theorem dX10_plan_53 : decode prog_1_method_7_code 53 = .ok (.iload_n 2, 1) := by decide +kernel
theorem dX10_plan_54 : decode prog_1_method_7_code 54 = .ok (.iaload, 1) := by decide +kernel
theorem dX10_plan_55 : decode prog_1_method_7_code 55 = .ok (.invokevirtual 116, 3) := by decide +kernel
theorem dX10_plan_58 : decode prog_1_method_7_code 58 = .ok (.ireturn, 1) := by decide +kernel
theorem dX10_secret_0 : decode prog_1_method_8_code 0 = .ok (.aload_n 0, 1) := by decide +kernel
theorem dX10_secret_1 : decode prog_1_method_8_code 1 = .ok (.iload_n 1, 1) := by decide +kernel
theorem dX10_secret_2 : decode prog_1_method_8_code 2 = .ok (.invokevirtual 129, 3) := by decide +kernel
theorem dX10_secret_5 : decode prog_1_method_8_code 5 = .ok (.ifCond .eq 11, 3) := by decide +kernel
theorem dX10_secret_8 : decode prog_1_method_8_code 8 = .ok (.aload_n 0, 1) := by decide +kernel
theorem dX10_secret_9 : decode prog_1_method_8_code 9 = .ok (.iconst 1, 1) := by decide +kernel
theorem dX10_secret_10 : decode prog_1_method_8_code 10 = .ok (.invokevirtual 68, 3) := by decide +kernel
theorem dX10_secret_13 : decode prog_1_method_8_code 13 = .ok (.goto 19, 3) := by decide +kernel
theorem dX10_secret_16 : decode prog_1_method_8_code 16 = .ok (.aload_n 0, 1) := by decide +kernel
theorem dX10_secret_17 : decode prog_1_method_8_code 17 = .ok (.aload_n 0, 1) := by decide +kernel
theorem dX10_secret_18 : decode prog_1_method_8_code 18 = .ok (.getfield 19, 3) := by decide +kernel
theorem dX10_secret_21 : decode prog_1_method_8_code 21 = .ok (.getfield 76, 3) := by decide +kernel
theorem dX10_secret_24 : decode prog_1_method_8_code 24 = .ok (.getfield 132, 3) := by decide +kernel
theorem dX10_secret_27 : decode prog_1_method_8_code 27 = .ok (.iload_n 1, 1) := by decide +kernel
theorem dX10_secret_28 : decode prog_1_method_8_code 28 = .ok (.iaload, 1) := by decide +kernel
theorem dX10_secret_29 : decode prog_1_method_8_code 29 = .ok (.invokevirtual 116, 3) := by decide +kernel
theorem dX10_secret_32 : decode prog_1_method_8_code 32 = .ok (.ireturn, 1) := by decide +kernel
theorem dX10_elder_0 : decode prog_1_method_9_code 0 = .ok (.aload_n 0, 1) := by decide +kernel
theorem dX10_elder_1 : decode prog_1_method_9_code 1 = .ok (.iload_n 1, 1) := by decide +kernel
theorem dX10_elder_2 : decode prog_1_method_9_code 2 = .ok (.invokevirtual 135, 3) := by decide +kernel
theorem dX10_elder_5 : decode prog_1_method_9_code 5 = .ok (.istore_n 2, 1) := by decide +kernel
theorem dX10_elder_6 : decode prog_1_method_9_code 6 = .ok (.iload_n 2, 1) := by decide +kernel
theorem dX10_elder_7 : decode prog_1_method_9_code 7 = .ok (.ifCond .eq 11, 3) := by decide +kernel
theorem dX10_elder_10 : decode prog_1_method_9_code 10 = .ok (.aload_n 0, 1) := by decide +kernel
theorem dX10_elder_11 : decode prog_1_method_9_code 11 = .ok (.iload_n 2, 1) := by decide +kernel
theorem dX10_elder_12 : decode prog_1_method_9_code 12 = .ok (.invokevirtual 68, 3) := by decide +kernel
theorem dX10_elder_15 : decode prog_1_method_9_code 15 = .ok (.goto 19, 3) := by decide +kernel
theorem dX10_elder_18 : decode prog_1_method_9_code 18 = .ok (.aload_n 0, 1) := by decide +kernel
theorem dX10_elder_19 : decode prog_1_method_9_code 19 = .ok (.aload_n 0, 1) := by decide +kernel
theorem dX10_elder_20 : decode prog_1_method_9_code 20 = .ok (.getfield 35, 3) := by decide +kernel
theorem dX10_elder_23 : decode prog_1_method_9_code 23 = .ok (.getfield 138, 3) := by decide +kernel
theorem dX10_elder_26 : decode prog_1_method_9_code 26 = .ok (.getfield 141, 3) := by decide +kernel
theorem dX10_elder_29 : decode prog_1_method_9_code 29 = .ok (.iload_n 1, 1) := by decide +kernel
theorem dX10_elder_30 : decode prog_1_method_9_code 30 = .ok (.iaload, 1) := by decide +kernel
theorem dX10_elder_31 : decode prog_1_method_9_code 31 = .ok (.invokevirtual 116, 3) := by decide +kernel
theorem dX10_elder_34 : decode prog_1_method_9_code 34 = .ok (.ireturn, 1) := by decide +kernel
theorem dX10_empty_0 : decode prog_1_method_10_code 0 = .ok (.aload_n 0, 1) := by decide +kernel
theorem dX10_empty_1 : decode prog_1_method_10_code 1 = .ok (.iload_n 1, 1) := by decide +kernel
theorem dX10_empty_2 : decode prog_1_method_10_code 2 = .ok (.invokevirtual 135, 3) := by decide +kernel
theorem dX10_empty_5 : decode prog_1_method_10_code 5 = .ok (.istore_n 2, 1) := by decide +kernel
theorem dX10_empty_6 : decode prog_1_method_10_code 6 = .ok (.iload_n 2, 1) := by decide +kernel
theorem dX10_empty_7 : decode prog_1_method_10_code 7 = .ok (.ifCond .eq 11, 3) := by decide +kernel
theorem dX10_empty_10 : decode prog_1_method_10_code 10 = .ok (.aload_n 0, 1) := by decide +kernel
theorem dX10_empty_11 : decode prog_1_method_10_code 11 = .ok (.iload_n 2, 1) := by decide +kernel
theorem dX10_empty_12 : decode prog_1_method_10_code 12 = .ok (.invokevirtual 68, 3) := by decide +kernel
theorem dX10_empty_15 : decode prog_1_method_10_code 15 = .ok (.goto 16, 3) := by decide +kernel
theorem dX10_empty_18 : decode prog_1_method_10_code 18 = .ok (.aload_n 0, 1) := by decide +kernel
theorem dX10_empty_19 : decode prog_1_method_10_code 19 = .ok (.aload_n 0, 1) := by decide +kernel
theorem dX10_empty_20 : decode prog_1_method_10_code 20 = .ok (.getfield 35, 3) := by decide +kernel
theorem dX10_empty_23 : decode prog_1_method_10_code 23 = .ok (.getfield 144, 3) := by decide +kernel
theorem dX10_empty_26 : decode prog_1_method_10_code 26 = .ok (.iload_n 1, 1) := by decide +kernel
theorem dX10_empty_27 : decode prog_1_method_10_code 27 = .ok (.iaload, 1) := by decide +kernel
theorem dX10_empty_28 : decode prog_1_method_10_code 28 = .ok (.invokevirtual 116, 3) := by decide +kernel
theorem dX10_empty_31 : decode prog_1_method_10_code 31 = .ok (.ireturn, 1) := by decide +kernel
theorem dX10_there_0 : decode prog_1_method_11_code 0 = .ok (.aload_n 0, 1) := by decide +kernel
theorem dX10_there_1 : decode prog_1_method_11_code 1 = .ok (.iload_n 1, 1) := by decide +kernel
theorem dX10_there_2 : decode prog_1_method_11_code 2 = .ok (.invokevirtual 135, 3) := by decide +kernel
theorem dX10_there_5 : decode prog_1_method_11_code 5 = .ok (.istore_n 2, 1) := by decide +kernel
theorem dX10_there_6 : decode prog_1_method_11_code 6 = .ok (.iload_n 2, 1) := by decide +kernel
theorem dX10_there_7 : decode prog_1_method_11_code 7 = .ok (.ifCond .eq 11, 3) := by decide +kernel
theorem dX10_there_10 : decode prog_1_method_11_code 10 = .ok (.aload_n 0, 1) := by decide +kernel
theorem dX10_there_11 : decode prog_1_method_11_code 11 = .ok (.iload_n 2, 1) := by decide +kernel
theorem dX10_there_12 : decode prog_1_method_11_code 12 = .ok (.invokevirtual 68, 3) := by decide +kernel
theorem dX10_there_15 : decode prog_1_method_11_code 15 = .ok (.goto 16, 3) := by decide +kernel
theorem dX10_there_18 : decode prog_1_method_11_code 18 = .ok (.aload_n 0, 1) := by decide +kernel
theorem dX10_there_19 : decode prog_1_method_11_code 19 = .ok (.aload_n 0, 1) := by decide +kernel
theorem dX10_there_20 : decode prog_1_method_11_code 20 = .ok (.getfield 35, 3) := by decide +kernel
theorem dX10_there_23 : decode prog_1_method_11_code 23 = .ok (.getfield 147, 3) := by decide +kernel
theorem dX10_there_26 : decode prog_1_method_11_code 26 = .ok (.iload_n 1, 1) := by decide +kernel
theorem dX10_there_27 : decode prog_1_method_11_code 27 = .ok (.iaload, 1) := by decide +kernel
theorem dX10_there_28 : decode prog_1_method_11_code 28 = .ok (.invokevirtual 116, 3) := by decide +kernel
theorem dX10_there_31 : decode prog_1_method_11_code 31 = .ok (.ireturn, 1) := by decide +kernel
theorem dX10_can_0 : decode prog_1_method_12_code 0 = .ok (.aload_n 0, 1) := by decide +kernel
theorem dX10_can_1 : decode prog_1_method_12_code 1 = .ok (.iload_n 1, 1) := by decide +kernel
theorem dX10_can_2 : decode prog_1_method_12_code 2 = .ok (.invokevirtual 135, 3) := by decide +kernel
theorem dX10_can_5 : decode prog_1_method_12_code 5 = .ok (.istore_n 2, 1) := by decide +kernel
theorem dX10_can_6 : decode prog_1_method_12_code 6 = .ok (.iload_n 2, 1) := by decide +kernel
theorem dX10_can_7 : decode prog_1_method_12_code 7 = .ok (.ifCond .eq 11, 3) := by decide +kernel
theorem dX10_can_10 : decode prog_1_method_12_code 10 = .ok (.aload_n 0, 1) := by decide +kernel
theorem dX10_can_11 : decode prog_1_method_12_code 11 = .ok (.iload_n 2, 1) := by decide +kernel
theorem dX10_can_12 : decode prog_1_method_12_code 12 = .ok (.invokevirtual 68, 3) := by decide +kernel
theorem dX10_can_15 : decode prog_1_method_12_code 15 = .ok (.goto 16, 3) := by decide +kernel
theorem dX10_can_18 : decode prog_1_method_12_code 18 = .ok (.aload_n 0, 1) := by decide +kernel
theorem dX10_can_19 : decode prog_1_method_12_code 19 = .ok (.aload_n 0, 1) := by decide +kernel
theorem dX10_can_20 : decode prog_1_method_12_code 20 = .ok (.getfield 35, 3) := by decide +kernel
theorem dX10_can_23 : decode prog_1_method_12_code 23 = .ok (.getfield 150, 3) := by decide +kernel
theorem dX10_can_26 : decode prog_1_method_12_code 26 = .ok (.iload_n 1, 1) := by decide +kernel
theorem dX10_can_27 : decode prog_1_method_12_code 27 = .ok (.iaload, 1) := by decide +kernel
theorem dX10_can_28 : decode prog_1_method_12_code 28 = .ok (.invokevirtual 116, 3) := by decide +kernel
theorem dX10_can_31 : decode prog_1_method_12_code 31 = .ok (.ireturn, 1) := by decide +kernel
theorem dX10_age_0 : decode prog_1_method_13_code 0 = .ok (.aload_n 0, 1) := by decide +kernel
theorem dX10_age_1 : decode prog_1_method_13_code 1 = .ok (.iload_n 1, 1) := by decide +kernel
theorem dX10_age_2 : decode prog_1_method_13_code 2 = .ok (.iload_n 2, 1) := by decide +kernel
theorem dX10_age_3 : decode prog_1_method_13_code 3 = .ok (.invokevirtual 153, 3) := by decide +kernel
theorem dX10_age_6 : decode prog_1_method_13_code 6 = .ok (.istore_n 3, 1) := by decide +kernel
theorem dX10_age_7 : decode prog_1_method_13_code 7 = .ok (.iload_n 3, 1) := by decide +kernel
theorem dX10_age_8 : decode prog_1_method_13_code 8 = .ok (.ifCond .eq 9, 3) := by decide +kernel
theorem dX10_age_11 : decode prog_1_method_13_code 11 = .ok (.aload_n 0, 1) := by decide +kernel
theorem dX10_age_12 : decode prog_1_method_13_code 12 = .ok (.iload_n 3, 1) := by decide +kernel
theorem dX10_age_13 : decode prog_1_method_13_code 13 = .ok (.invokevirtual 68, 3) := by decide +kernel
theorem dX10_age_16 : decode prog_1_method_13_code 16 = .ok (.ireturn, 1) := by decide +kernel
theorem dX10_age_17 : decode prog_1_method_13_code 17 = .ok (.iload_n 2, 1) := by decide +kernel
theorem dX10_age_18 : decode prog_1_method_13_code 18 = .ok (.aload_n 0, 1) := by decide +kernel
theorem dX10_age_19 : decode prog_1_method_13_code 19 = .ok (.getfield 19, 3) := by decide +kernel
theorem dX10_age_22 : decode prog_1_method_13_code 22 = .ok (.getfield 76, 3) := by decide +kernel
theorem dX10_age_25 : decode prog_1_method_13_code 25 = .ok (.getfield 112, 3) := by decide +kernel
theorem dX10_age_28 : decode prog_1_method_13_code 28 = .ok (.iload_n 1, 1) := by decide +kernel
theorem dX10_age_29 : decode prog_1_method_13_code 29 = .ok (.aaload, 1) := by decide +kernel
theorem dX10_age_30 : decode prog_1_method_13_code 30 = .ok (.iconst 2, 1) := by decide +kernel
theorem dX10_age_31 : decode prog_1_method_13_code 31 = .ok (.iaload, 1) := by decide +kernel
theorem dX10_age_32 : decode prog_1_method_13_code 32 = .ok (.isub, 1) := by decide +kernel
theorem dX10_age_33 : decode prog_1_method_13_code 33 = .ok (.istore 4, 2) := by decide +kernel
theorem dX10_age_35 : decode prog_1_method_13_code 35 = .ok (.aload_n 0, 1) := by decide +kernel
theorem dX10_age_36 : decode prog_1_method_13_code 36 = .ok (.iload 4, 2) := by decide +kernel
theorem dX10_age_38 : decode prog_1_method_13_code 38 = .ok (.ifCond .ge 8, 3) := by decide +kernel
theorem dX10_age_41 : decode prog_1_method_13_code 41 = .ok (.bipush (-2), 2) := by decide +kernel
theorem dX10_age_43 : decode prog_1_method_13_code 43 = .ok (.goto 5, 3) := by decide +kernel
theorem dX10_age_46 : decode prog_1_method_13_code 46 = .ok (.iload 4, 2) := by decide +kernel
theorem dX10_age_48 : decode prog_1_method_13_code 48 = .ok (.invokevirtual 116, 3) := by decide +kernel
theorem dX10_age_51 : decode prog_1_method_13_code 51 = .ok (.ireturn, 1) := by decide +kernel
theorem dX10_turnsOf_0 : decode prog_1_method_14_code 0 = .ok (.aload_n 0, 1) := by decide +kernel
theorem dX10_turnsOf_1 : decode prog_1_method_14_code 1 = .ok (.iload_n 1, 1) := by decide +kernel
theorem dX10_turnsOf_2 : decode prog_1_method_14_code 2 = .ok (.iload_n 2, 1) := by decide +kernel
theorem dX10_turnsOf_3 : decode prog_1_method_14_code 3 = .ok (.invokevirtual 153, 3) := by decide +kernel
theorem dX10_turnsOf_6 : decode prog_1_method_14_code 6 = .ok (.istore_n 3, 1) := by decide +kernel
theorem dX10_turnsOf_7 : decode prog_1_method_14_code 7 = .ok (.iload_n 3, 1) := by decide +kernel
theorem dX10_turnsOf_8 : decode prog_1_method_14_code 8 = .ok (.ifCond .eq 11, 3) := by decide +kernel
theorem dX10_turnsOf_11 : decode prog_1_method_14_code 11 = .ok (.aload_n 0, 1) := by decide +kernel
theorem dX10_turnsOf_12 : decode prog_1_method_14_code 12 = .ok (.iload_n 3, 1) := by decide +kernel
theorem dX10_turnsOf_13 : decode prog_1_method_14_code 13 = .ok (.invokevirtual 68, 3) := by decide +kernel
theorem dX10_turnsOf_16 : decode prog_1_method_14_code 16 = .ok (.goto 16, 3) := by decide +kernel
theorem dX10_turnsOf_19 : decode prog_1_method_14_code 19 = .ok (.aload_n 0, 1) := by decide +kernel
theorem dX10_turnsOf_20 : decode prog_1_method_14_code 20 = .ok (.aload_n 0, 1) := by decide +kernel
theorem dX10_turnsOf_21 : decode prog_1_method_14_code 21 = .ok (.getfield 35, 3) := by decide +kernel
theorem dX10_turnsOf_24 : decode prog_1_method_14_code 24 = .ok (.iload_n 1, 1) := by decide +kernel
theorem dX10_turnsOf_25 : decode prog_1_method_14_code 25 = .ok (.iload_n 2, 1) := by decide +kernel
theorem dX10_turnsOf_26 : decode prog_1_method_14_code 26 = .ok (.invokevirtual 157, 3) := by decide +kernel
theorem dX10_turnsOf_29 : decode prog_1_method_14_code 29 = .ok (.invokevirtual 116, 3) := by decide +kernel
theorem dX10_turnsOf_32 : decode prog_1_method_14_code 32 = .ok (.ireturn, 1) := by decide +kernel
theorem dX10_strength_0 : decode prog_1_method_15_code 0 = .ok (.aload_n 0, 1) := by decide +kernel
theorem dX10_strength_1 : decode prog_1_method_15_code 1 = .ok (.iload_n 1, 1) := by decide +kernel
theorem dX10_strength_2 : decode prog_1_method_15_code 2 = .ok (.iload_n 2, 1) := by decide +kernel
theorem dX10_strength_3 : decode prog_1_method_15_code 3 = .ok (.invokevirtual 153, 3) := by decide +kernel
theorem dX10_strength_6 : decode prog_1_method_15_code 6 = .ok (.istore_n 3, 1) := by decide +kernel
theorem dX10_strength_7 : decode prog_1_method_15_code 7 = .ok (.iload_n 3, 1) := by decide +kernel
theorem dX10_strength_8 : decode prog_1_method_15_code 8 = .ok (.ifCond .eq 9, 3) := by decide +kernel
theorem dX10_strength_11 : decode prog_1_method_15_code 11 = .ok (.aload_n 0, 1) := by decide +kernel
theorem dX10_strength_12 : decode prog_1_method_15_code 12 = .ok (.iload_n 3, 1) := by decide +kernel
theorem dX10_strength_13 : decode prog_1_method_15_code 13 = .ok (.invokevirtual 68, 3) := by decide +kernel
theorem dX10_strength_16 : decode prog_1_method_15_code 16 = .ok (.ireturn, 1) := by decide +kernel
theorem dX10_strength_17 : decode prog_1_method_15_code 17 = .ok (.aload_n 0, 1) := by decide +kernel
theorem dX10_strength_18 : decode prog_1_method_15_code 18 = .ok (.aload_n 0, 1) := by decide +kernel
theorem dX10_strength_19 : decode prog_1_method_15_code 19 = .ok (.getfield 19, 3) := by decide +kernel
theorem dX10_strength_22 : decode prog_1_method_15_code 22 = .ok (.getfield 76, 3) := by decide +kernel
theorem dX10_strength_25 : decode prog_1_method_15_code 25 = .ok (.getfield 112, 3) := by decide +kernel
theorem dX10_strength_28 : decode prog_1_method_15_code 28 = .ok (.iload_n 1, 1) := by decide +kernel
theorem dX10_strength_29 : decode prog_1_method_15_code 29 = .ok (.aaload, 1) := by decide +kernel
theorem dX10_strength_30 : decode prog_1_method_15_code 30 = .ok (.iconst 3, 1) := by decide +kernel
theorem dX10_strength_31 : decode prog_1_method_15_code 31 = .ok (.iaload, 1) := by decide +kernel
theorem dX10_strength_32 : decode prog_1_method_15_code 32 = .ok (.aload_n 0, 1) := by decide +kernel
theorem dX10_strength_33 : decode prog_1_method_15_code 33 = .ok (.getfield 35, 3) := by decide +kernel
theorem dX10_strength_36 : decode prog_1_method_15_code 36 = .ok (.iload_n 1, 1) := by decide +kernel
theorem dX10_strength_37 : decode prog_1_method_15_code 37 = .ok (.iload_n 2, 1) := by decide +kernel
theorem dX10_strength_38 : decode prog_1_method_15_code 38 = .ok (.invokevirtual 157, 3) := by decide +kernel
theorem dX10_strength_41 : decode prog_1_method_15_code 41 = .ok (.isub, 1) := by decide +kernel
theorem dX10_strength_42 : decode prog_1_method_15_code 42 = .ok (.invokevirtual 116, 3) := by decide +kernel
theorem dX10_strength_45 : decode prog_1_method_15_code 45 = .ok (.ireturn, 1) := by decide +kernel
theorem dX10_knows_0 : decode prog_1_method_16_code 0 = .ok (.aload_n 0, 1) := by decide +kernel
theorem dX10_knows_1 : decode prog_1_method_16_code 1 = .ok (.iload_n 1, 1) := by decide +kernel
theorem dX10_knows_2 : decode prog_1_method_16_code 2 = .ok (.iload_n 2, 1) := by decide +kernel
theorem dX10_knows_3 : decode prog_1_method_16_code 3 = .ok (.invokevirtual 153, 3) := by decide +kernel
theorem dX10_knows_6 : decode prog_1_method_16_code 6 = .ok (.istore_n 3, 1) := by decide +kernel
theorem dX10_knows_7 : decode prog_1_method_16_code 7 = .ok (.iload_n 3, 1) := by decide +kernel
theorem dX10_knows_8 : decode prog_1_method_16_code 8 = .ok (.ifCond .eq 11, 3) := by decide +kernel
theorem dX10_knows_11 : decode prog_1_method_16_code 11 = .ok (.aload_n 0, 1) := by decide +kernel
theorem dX10_knows_12 : decode prog_1_method_16_code 12 = .ok (.iload_n 3, 1) := by decide +kernel
theorem dX10_knows_13 : decode prog_1_method_16_code 13 = .ok (.invokevirtual 68, 3) := by decide +kernel
theorem dX10_knows_16 : decode prog_1_method_16_code 16 = .ok (.goto 21, 3) := by decide +kernel
theorem dX10_knows_19 : decode prog_1_method_16_code 19 = .ok (.aload_n 0, 1) := by decide +kernel
theorem dX10_knows_20 : decode prog_1_method_16_code 20 = .ok (.aload_n 0, 1) := by decide +kernel
theorem dX10_knows_21 : decode prog_1_method_16_code 21 = .ok (.getfield 35, 3) := by decide +kernel
theorem dX10_knows_24 : decode prog_1_method_16_code 24 = .ok (.getfield 160, 3) := by decide +kernel
theorem dX10_knows_27 : decode prog_1_method_16_code 27 = .ok (.iload_n 2, 1) := by decide +kernel
theorem dX10_knows_28 : decode prog_1_method_16_code 28 = .ok (.bipush 10, 2) := by decide +kernel
theorem dX10_knows_30 : decode prog_1_method_16_code 30 = .ok (.imul, 1) := by decide +kernel
theorem dX10_knows_31 : decode prog_1_method_16_code 31 = .ok (.iload_n 1, 1) := by decide +kernel
theorem dX10_knows_32 : decode prog_1_method_16_code 32 = .ok (.iadd, 1) := by decide +kernel
theorem dX10_knows_33 : decode prog_1_method_16_code 33 = .ok (.iaload, 1) := by decide +kernel
theorem dX10_knows_34 : decode prog_1_method_16_code 34 = .ok (.invokevirtual 116, 3) := by decide +kernel
theorem dX10_knows_37 : decode prog_1_method_16_code 37 = .ok (.ireturn, 1) := by decide +kernel
theorem dX10_box_0 : decode prog_1_method_17_code 0 = .ok (.aload_n 0, 1) := by decide +kernel
theorem dX10_box_1 : decode prog_1_method_17_code 1 = .ok (.iload_n 1, 1) := by decide +kernel
theorem dX10_box_2 : decode prog_1_method_17_code 2 = .ok (.invokevirtual 135, 3) := by decide +kernel
theorem dX10_box_5 : decode prog_1_method_17_code 5 = .ok (.istore_n 2, 1) := by decide +kernel
theorem dX10_box_6 : decode prog_1_method_17_code 6 = .ok (.iload_n 2, 1) := by decide +kernel
theorem dX10_box_7 : decode prog_1_method_17_code 7 = .ok (.ifCond .eq 11, 3) := by decide +kernel
theorem dX10_box_10 : decode prog_1_method_17_code 10 = .ok (.aload_n 0, 1) := by decide +kernel
theorem dX10_box_11 : decode prog_1_method_17_code 11 = .ok (.iload_n 2, 1) := by decide +kernel
theorem dX10_box_12 : decode prog_1_method_17_code 12 = .ok (.invokevirtual 68, 3) := by decide +kernel
theorem dX10_box_15 : decode prog_1_method_17_code 15 = .ok (.goto 16, 3) := by decide +kernel
theorem dX10_box_18 : decode prog_1_method_17_code 18 = .ok (.aload_n 0, 1) := by decide +kernel
theorem dX10_box_19 : decode prog_1_method_17_code 19 = .ok (.aload_n 0, 1) := by decide +kernel
theorem dX10_box_20 : decode prog_1_method_17_code 20 = .ok (.getfield 35, 3) := by decide +kernel
theorem dX10_box_23 : decode prog_1_method_17_code 23 = .ok (.getfield 163, 3) := by decide +kernel
theorem dX10_box_26 : decode prog_1_method_17_code 26 = .ok (.iload_n 1, 1) := by decide +kernel
theorem dX10_box_27 : decode prog_1_method_17_code 27 = .ok (.iaload, 1) := by decide +kernel
theorem dX10_box_28 : decode prog_1_method_17_code 28 = .ok (.invokevirtual 116, 3) := by decide +kernel
theorem dX10_box_31 : decode prog_1_method_17_code 31 = .ok (.ireturn, 1) := by decide +kernel
theorem dX10_kept_0 : decode prog_1_method_18_code 0 = .ok (.aload_n 0, 1) := by decide +kernel
theorem dX10_kept_1 : decode prog_1_method_18_code 1 = .ok (.iload_n 1, 1) := by decide +kernel
theorem dX10_kept_2 : decode prog_1_method_18_code 2 = .ok (.invokevirtual 129, 3) := by decide +kernel
theorem dX10_kept_5 : decode prog_1_method_18_code 5 = .ok (.ifCond .eq 9, 3) := by decide +kernel
theorem dX10_kept_8 : decode prog_1_method_18_code 8 = .ok (.aload_n 0, 1) := by decide +kernel
theorem dX10_kept_9 : decode prog_1_method_18_code 9 = .ok (.iconst 1, 1) := by decide +kernel
theorem dX10_kept_10 : decode prog_1_method_18_code 10 = .ok (.invokevirtual 68, 3) := by decide +kernel
theorem dX10_kept_13 : decode prog_1_method_18_code 13 = .ok (.ireturn, 1) := by decide +kernel
theorem dX10_kept_14 : decode prog_1_method_18_code 14 = .ok (.aload_n 0, 1) := by decide +kernel
theorem dX10_kept_15 : decode prog_1_method_18_code 15 = .ok (.iload_n 2, 1) := by decide +kernel
theorem dX10_kept_16 : decode prog_1_method_18_code 16 = .ok (.invokevirtual 166, 3) := by decide +kernel
theorem dX10_kept_19 : decode prog_1_method_18_code 19 = .ok (.ifCond .eq 9, 3) := by decide +kernel
theorem dX10_kept_22 : decode prog_1_method_18_code 22 = .ok (.aload_n 0, 1) := by decide +kernel
theorem dX10_kept_23 : decode prog_1_method_18_code 23 = .ok (.iconst 2, 1) := by decide +kernel
theorem dX10_kept_24 : decode prog_1_method_18_code 24 = .ok (.invokevirtual 68, 3) := by decide +kernel
theorem dX10_kept_27 : decode prog_1_method_18_code 27 = .ok (.ireturn, 1) := by decide +kernel
theorem dX10_kept_28 : decode prog_1_method_18_code 28 = .ok (.aload_n 0, 1) := by decide +kernel
theorem dX10_kept_29 : decode prog_1_method_18_code 29 = .ok (.getfield 35, 3) := by decide +kernel
theorem dX10_kept_32 : decode prog_1_method_18_code 32 = .ok (.getfield 163, 3) := by decide +kernel
theorem dX10_kept_35 : decode prog_1_method_18_code 35 = .ok (.iload_n 2, 1) := by decide +kernel
theorem dX10_kept_36 : decode prog_1_method_18_code 36 = .ok (.iaload, 1) := by decide +kernel
theorem dX10_kept_37 : decode prog_1_method_18_code 37 = .ok (.iload_n 1, 1) := by decide +kernel
theorem dX10_kept_38 : decode prog_1_method_18_code 38 = .ok (.invokestatic 169, 3) := by decide +kernel
theorem dX10_kept_41 : decode prog_1_method_18_code 41 = .ok (.istore_n 3, 1) := by decide +kernel
theorem dX10_kept_42 : decode prog_1_method_18_code 42 = .ok (.aload_n 0, 1) := by decide +kernel
theorem dX10_kept_43 : decode prog_1_method_18_code 43 = .ok (.iload_n 3, 1) := by decide +kernel
theorem dX10_kept_44 : decode prog_1_method_18_code 44 = .ok (.ifCond .eq 20, 3) := by decide +kernel
theorem dX10_kept_47 : decode prog_1_method_18_code 47 = .ok (.aload_n 0, 1) := by decide +kernel
theorem dX10_kept_48 : decode prog_1_method_18_code 48 = .ok (.getfield 35, 3) := by decide +kernel
theorem dX10_kept_51 : decode prog_1_method_18_code 51 = .ok (.getfield 173, 3) := by decide +kernel
theorem dX10_kept_54 : decode prog_1_method_18_code 54 = .ok (.iload_n 2, 1) := by decide +kernel
theorem dX10_kept_55 : decode prog_1_method_18_code 55 = .ok (.bipush 8, 2) := by decide +kernel
theorem dX10_kept_57 : decode prog_1_method_18_code 57 = .ok (.imul, 1) := by decide +kernel
theorem dX10_kept_58 : decode prog_1_method_18_code 58 = .ok (.iload_n 1, 1) := by decide +kernel
theorem dX10_kept_59 : decode prog_1_method_18_code 59 = .ok (.iadd, 1) := by decide +kernel
theorem dX10_kept_60 : decode prog_1_method_18_code 60 = .ok (.iaload, 1) := by decide +kernel
theorem dX10_kept_61 : decode prog_1_method_18_code 61 = .ok (.goto 5, 3) := by decide +kernel
theorem dX10_kept_64 : decode prog_1_method_18_code 64 = .ok (.bipush (-2), 2) := by decide +kernel
theorem dX10_kept_66 : decode prog_1_method_18_code 66 = .ok (.invokevirtual 116, 3) := by decide +kernel
theorem dX10_kept_69 : decode prog_1_method_18_code 69 = .ok (.ireturn, 1) := by decide +kernel
theorem dX10_harm_0 : decode prog_1_method_19_code 0 = .ok (.aload_n 0, 1) := by decide +kernel
theorem dX10_harm_1 : decode prog_1_method_19_code 1 = .ok (.iload_n 1, 1) := by decide +kernel
theorem dX10_harm_2 : decode prog_1_method_19_code 2 = .ok (.invokevirtual 135, 3) := by decide +kernel
theorem dX10_harm_5 : decode prog_1_method_19_code 5 = .ok (.istore_n 2, 1) := by decide +kernel
theorem dX10_harm_6 : decode prog_1_method_19_code 6 = .ok (.iload_n 2, 1) := by decide +kernel
theorem dX10_harm_7 : decode prog_1_method_19_code 7 = .ok (.ifCond .eq 11, 3) := by decide +kernel
theorem dX10_harm_10 : decode prog_1_method_19_code 10 = .ok (.aload_n 0, 1) := by decide +kernel
theorem dX10_harm_11 : decode prog_1_method_19_code 11 = .ok (.iload_n 2, 1) := by decide +kernel
theorem dX10_harm_12 : decode prog_1_method_19_code 12 = .ok (.invokevirtual 68, 3) := by decide +kernel
theorem dX10_harm_15 : decode prog_1_method_19_code 15 = .ok (.goto 16, 3) := by decide +kernel
theorem dX10_harm_18 : decode prog_1_method_19_code 18 = .ok (.aload_n 0, 1) := by decide +kernel
theorem dX10_harm_19 : decode prog_1_method_19_code 19 = .ok (.aload_n 0, 1) := by decide +kernel
theorem dX10_harm_20 : decode prog_1_method_19_code 20 = .ok (.getfield 35, 3) := by decide +kernel
theorem dX10_harm_23 : decode prog_1_method_19_code 23 = .ok (.getfield 176, 3) := by decide +kernel
theorem dX10_harm_26 : decode prog_1_method_19_code 26 = .ok (.iload_n 1, 1) := by decide +kernel
theorem dX10_harm_27 : decode prog_1_method_19_code 27 = .ok (.iaload, 1) := by decide +kernel
theorem dX10_harm_28 : decode prog_1_method_19_code 28 = .ok (.invokevirtual 116, 3) := by decide +kernel
theorem dX10_harm_31 : decode prog_1_method_19_code 31 = .ok (.ireturn, 1) := by decide +kernel
theorem dX10_harmAll_0 : decode prog_1_method_20_code 0 = .ok (.aload_n 0, 1) := by decide +kernel
theorem dX10_harmAll_1 : decode prog_1_method_20_code 1 = .ok (.getfield 53, 3) := by decide +kernel
theorem dX10_harmAll_4 : decode prog_1_method_20_code 4 = .ok (.ifCond .eq 20, 3) := by decide +kernel
theorem dX10_harmAll_7 : decode prog_1_method_20_code 7 = .ok (.aload_n 0, 1) := by decide +kernel
theorem dX10_harmAll_8 : decode prog_1_method_20_code 8 = .ok (.aload_n 0, 1) := by decide +kernel
theorem dX10_harmAll_9 : decode prog_1_method_20_code 9 = .ok (.getfield 35, 3) := by decide +kernel
theorem dX10_harmAll_12 : decode prog_1_method_20_code 12 = .ok (.getfield 138, 3) := by decide +kernel
theorem dX10_harmAll_15 : decode prog_1_method_20_code 15 = .ok (.getfield 179, 3) := by decide +kernel
theorem dX10_harmAll_18 : decode prog_1_method_20_code 18 = .ok (.invokevirtual 116, 3) := by decide +kernel
theorem dX10_harmAll_21 : decode prog_1_method_20_code 21 = .ok (.goto 8, 3) := by decide +kernel
theorem dX10_harmAll_24 : decode prog_1_method_20_code 24 = .ok (.aload_n 0, 1) := by decide +kernel
theorem dX10_harmAll_25 : decode prog_1_method_20_code 25 = .ok (.iconst 1, 1) := by decide +kernel
theorem dX10_harmAll_26 : decode prog_1_method_20_code 26 = .ok (.invokevirtual 68, 3) := by decide +kernel
theorem dX10_harmAll_29 : decode prog_1_method_20_code 29 = .ok (.ireturn, 1) := by decide +kernel
theorem dX10_harmOf_0 : decode prog_1_method_21_code 0 = .ok (.aload_n 0, 1) := by decide +kernel
theorem dX10_harmOf_1 : decode prog_1_method_21_code 1 = .ok (.iload_n 1, 1) := by decide +kernel
theorem dX10_harmOf_2 : decode prog_1_method_21_code 2 = .ok (.invokevirtual 109, 3) := by decide +kernel
theorem dX10_harmOf_5 : decode prog_1_method_21_code 5 = .ok (.ifCond .eq 11, 3) := by decide +kernel
theorem dX10_harmOf_8 : decode prog_1_method_21_code 8 = .ok (.aload_n 0, 1) := by decide +kernel
theorem dX10_harmOf_9 : decode prog_1_method_21_code 9 = .ok (.iconst 1, 1) := by decide +kernel
theorem dX10_harmOf_10 : decode prog_1_method_21_code 10 = .ok (.invokevirtual 68, 3) := by decide +kernel
theorem dX10_harmOf_13 : decode prog_1_method_21_code 13 = .ok (.goto 15, 3) := by decide +kernel
theorem dX10_harmOf_16 : decode prog_1_method_21_code 16 = .ok (.aload_n 0, 1) := by decide +kernel
theorem dX10_harmOf_17 : decode prog_1_method_21_code 17 = .ok (.aload_n 0, 1) := by decide +kernel
theorem dX10_harmOf_18 : decode prog_1_method_21_code 18 = .ok (.getfield 35, 3) := by decide +kernel
theorem dX10_harmOf_21 : decode prog_1_method_21_code 21 = .ok (.iload_n 1, 1) := by decide +kernel
theorem dX10_harmOf_22 : decode prog_1_method_21_code 22 = .ok (.invokevirtual 181, 3) := by decide +kernel
theorem dX10_harmOf_25 : decode prog_1_method_21_code 25 = .ok (.invokevirtual 116, 3) := by decide +kernel
theorem dX10_harmOf_28 : decode prog_1_method_21_code 28 = .ok (.ireturn, 1) := by decide +kernel
theorem dX10_purse_0 : decode prog_1_method_22_code 0 = .ok (.aload_n 0, 1) := by decide +kernel
theorem dX10_purse_1 : decode prog_1_method_22_code 1 = .ok (.iload_n 1, 1) := by decide +kernel
theorem dX10_purse_2 : decode prog_1_method_22_code 2 = .ok (.invokevirtual 109, 3) := by decide +kernel
theorem dX10_purse_5 : decode prog_1_method_22_code 5 = .ok (.ifCond .eq 13, 3) := by decide +kernel
theorem dX10_purse_8 : decode prog_1_method_22_code 8 = .ok (.aload_n 0, 1) := by decide +kernel
theorem dX10_purse_9 : decode prog_1_method_22_code 9 = .ok (.iconst 1, 1) := by decide +kernel
theorem dX10_purse_10 : decode prog_1_method_22_code 10 = .ok (.invokevirtual 68, 3) := by decide +kernel
theorem dX10_purse_13 : decode prog_1_method_22_code 13 = .ok (.pop, 1) := by decide +kernel
theorem dX10_purse_14 : decode prog_1_method_22_code 14 = .ok (.sipush (-10000), 3) := by decide +kernel
theorem dX10_purse_17 : decode prog_1_method_22_code 17 = .ok (.ireturn, 1) := by decide +kernel
theorem dX10_purse_18 : decode prog_1_method_22_code 18 = .ok (.aload_n 0, 1) := by decide +kernel
theorem dX10_purse_19 : decode prog_1_method_22_code 19 = .ok (.aload_n 0, 1) := by decide +kernel
theorem dX10_purse_20 : decode prog_1_method_22_code 20 = .ok (.getfield 35, 3) := by decide +kernel
theorem dX10_purse_23 : decode prog_1_method_22_code 23 = .ok (.getfield 138, 3) := by decide +kernel
theorem dX10_purse_26 : decode prog_1_method_22_code 26 = .ok (.getfield 184, 3) := by decide +kernel
theorem dX10_purse_29 : decode prog_1_method_22_code 29 = .ok (.iload_n 1, 1) := by decide +kernel
theorem dX10_purse_30 : decode prog_1_method_22_code 30 = .ok (.iaload, 1) := by decide +kernel
theorem dX10_purse_31 : decode prog_1_method_22_code 31 = .ok (.invokevirtual 116, 3) := by decide +kernel
theorem dX10_purse_34 : decode prog_1_method_22_code 34 = .ok (.ireturn, 1) := by decide +kernel
theorem dX10_first_0 : decode prog_1_method_23_code 0 = .ok (.aload_n 0, 1) := by decide +kernel
theorem dX10_first_1 : decode prog_1_method_23_code 1 = .ok (.iload_n 1, 1) := by decide +kernel
theorem dX10_first_2 : decode prog_1_method_23_code 2 = .ok (.invokevirtual 109, 3) := by decide +kernel
theorem dX10_first_5 : decode prog_1_method_23_code 5 = .ok (.ifCond .eq 11, 3) := by decide +kernel
theorem dX10_first_8 : decode prog_1_method_23_code 8 = .ok (.aload_n 0, 1) := by decide +kernel
theorem dX10_first_9 : decode prog_1_method_23_code 9 = .ok (.iconst 1, 1) := by decide +kernel
theorem dX10_first_10 : decode prog_1_method_23_code 10 = .ok (.invokevirtual 68, 3) := by decide +kernel
theorem dX10_first_13 : decode prog_1_method_23_code 13 = .ok (.goto 15, 3) := by decide +kernel
theorem dX10_first_16 : decode prog_1_method_23_code 16 = .ok (.aload_n 0, 1) := by decide +kernel
theorem dX10_first_17 : decode prog_1_method_23_code 17 = .ok (.aload_n 0, 1) := by decide +kernel
theorem dX10_first_18 : decode prog_1_method_23_code 18 = .ok (.getfield 35, 3) := by decide +kernel
theorem dX10_first_21 : decode prog_1_method_23_code 21 = .ok (.iload_n 1, 1) := by decide +kernel
theorem dX10_first_22 : decode prog_1_method_23_code 22 = .ok (.invokevirtual 187, 3) := by decide +kernel
theorem dX10_first_25 : decode prog_1_method_23_code 25 = .ok (.invokevirtual 116, 3) := by decide +kernel
theorem dX10_first_28 : decode prog_1_method_23_code 28 = .ok (.ireturn, 1) := by decide +kernel
theorem dX10_last_0 : decode prog_1_method_24_code 0 = .ok (.aload_n 0, 1) := by decide +kernel
theorem dX10_last_1 : decode prog_1_method_24_code 1 = .ok (.iload_n 1, 1) := by decide +kernel
theorem dX10_last_2 : decode prog_1_method_24_code 2 = .ok (.invokevirtual 109, 3) := by decide +kernel
theorem dX10_last_5 : decode prog_1_method_24_code 5 = .ok (.ifCond .eq 11, 3) := by decide +kernel
theorem dX10_last_8 : decode prog_1_method_24_code 8 = .ok (.aload_n 0, 1) := by decide +kernel
theorem dX10_last_9 : decode prog_1_method_24_code 9 = .ok (.iconst 1, 1) := by decide +kernel
theorem dX10_last_10 : decode prog_1_method_24_code 10 = .ok (.invokevirtual 68, 3) := by decide +kernel
theorem dX10_last_13 : decode prog_1_method_24_code 13 = .ok (.goto 15, 3) := by decide +kernel
theorem dX10_last_16 : decode prog_1_method_24_code 16 = .ok (.aload_n 0, 1) := by decide +kernel
theorem dX10_last_17 : decode prog_1_method_24_code 17 = .ok (.aload_n 0, 1) := by decide +kernel
theorem dX10_last_18 : decode prog_1_method_24_code 18 = .ok (.getfield 35, 3) := by decide +kernel
theorem dX10_last_21 : decode prog_1_method_24_code 21 = .ok (.iload_n 1, 1) := by decide +kernel
theorem dX10_last_22 : decode prog_1_method_24_code 22 = .ok (.invokevirtual 190, 3) := by decide +kernel
theorem dX10_last_25 : decode prog_1_method_24_code 25 = .ok (.invokevirtual 116, 3) := by decide +kernel
theorem dX10_last_28 : decode prog_1_method_24_code 28 = .ok (.ireturn, 1) := by decide +kernel
theorem dX10_fair_0 : decode prog_1_method_25_code 0 = .ok (.aload_n 0, 1) := by decide +kernel
theorem dX10_fair_1 : decode prog_1_method_25_code 1 = .ok (.getfield 53, 3) := by decide +kernel
theorem dX10_fair_4 : decode prog_1_method_25_code 4 = .ok (.ifCond .eq 20, 3) := by decide +kernel
theorem dX10_fair_7 : decode prog_1_method_25_code 7 = .ok (.aload_n 0, 1) := by decide +kernel
theorem dX10_fair_8 : decode prog_1_method_25_code 8 = .ok (.aload_n 0, 1) := by decide +kernel
theorem dX10_fair_9 : decode prog_1_method_25_code 9 = .ok (.getfield 35, 3) := by decide +kernel
theorem dX10_fair_12 : decode prog_1_method_25_code 12 = .ok (.getfield 138, 3) := by decide +kernel
theorem dX10_fair_15 : decode prog_1_method_25_code 15 = .ok (.invokevirtual 193, 3) := by decide +kernel
theorem dX10_fair_18 : decode prog_1_method_25_code 18 = .ok (.invokevirtual 116, 3) := by decide +kernel
theorem dX10_fair_21 : decode prog_1_method_25_code 21 = .ok (.goto 8, 3) := by decide +kernel
theorem dX10_fair_24 : decode prog_1_method_25_code 24 = .ok (.aload_n 0, 1) := by decide +kernel
theorem dX10_fair_25 : decode prog_1_method_25_code 25 = .ok (.iconst 1, 1) := by decide +kernel
theorem dX10_fair_26 : decode prog_1_method_25_code 26 = .ok (.invokevirtual 68, 3) := by decide +kernel
theorem dX10_fair_29 : decode prog_1_method_25_code 29 = .ok (.ireturn, 1) := by decide +kernel
theorem dX10_deaths_0 : decode prog_1_method_26_code 0 = .ok (.aload_n 0, 1) := by decide +kernel
theorem dX10_deaths_1 : decode prog_1_method_26_code 1 = .ok (.getfield 53, 3) := by decide +kernel
theorem dX10_deaths_4 : decode prog_1_method_26_code 4 = .ok (.ifCond .eq 20, 3) := by decide +kernel
theorem dX10_deaths_7 : decode prog_1_method_26_code 7 = .ok (.aload_n 0, 1) := by decide +kernel
theorem dX10_deaths_8 : decode prog_1_method_26_code 8 = .ok (.aload_n 0, 1) := by decide +kernel
theorem dX10_deaths_9 : decode prog_1_method_26_code 9 = .ok (.getfield 35, 3) := by decide +kernel
theorem dX10_deaths_12 : decode prog_1_method_26_code 12 = .ok (.getfield 138, 3) := by decide +kernel
theorem dX10_deaths_15 : decode prog_1_method_26_code 15 = .ok (.getfield 197, 3) := by decide +kernel
theorem dX10_deaths_18 : decode prog_1_method_26_code 18 = .ok (.invokevirtual 116, 3) := by decide +kernel
theorem dX10_deaths_21 : decode prog_1_method_26_code 21 = .ok (.goto 8, 3) := by decide +kernel
theorem dX10_deaths_24 : decode prog_1_method_26_code 24 = .ok (.aload_n 0, 1) := by decide +kernel
theorem dX10_deaths_25 : decode prog_1_method_26_code 25 = .ok (.iconst 1, 1) := by decide +kernel
theorem dX10_deaths_26 : decode prog_1_method_26_code 26 = .ok (.invokevirtual 68, 3) := by decide +kernel
theorem dX10_deaths_29 : decode prog_1_method_26_code 29 = .ok (.ireturn, 1) := by decide +kernel
theorem dX10_soonest_0 : decode prog_1_method_27_code 0 = .ok (.aload_n 0, 1) := by decide +kernel
theorem dX10_soonest_1 : decode prog_1_method_27_code 1 = .ok (.iload_n 1, 1) := by decide +kernel
theorem dX10_soonest_2 : decode prog_1_method_27_code 2 = .ok (.invokevirtual 129, 3) := by decide +kernel
theorem dX10_soonest_5 : decode prog_1_method_27_code 5 = .ok (.ifCond .ne 11, 3) := by decide +kernel
theorem dX10_soonest_8 : decode prog_1_method_27_code 8 = .ok (.aload_n 0, 1) := by decide +kernel
theorem dX10_soonest_9 : decode prog_1_method_27_code 9 = .ok (.iload_n 2, 1) := by decide +kernel
theorem dX10_soonest_10 : decode prog_1_method_27_code 10 = .ok (.invokevirtual 109, 3) := by decide +kernel
theorem dX10_soonest_13 : decode prog_1_method_27_code 13 = .ok (.ifCond .eq 9, 3) := by decide +kernel
theorem dX10_soonest_16 : decode prog_1_method_27_code 16 = .ok (.aload_n 0, 1) := by decide +kernel
theorem dX10_soonest_17 : decode prog_1_method_27_code 17 = .ok (.iconst 1, 1) := by decide +kernel
theorem dX10_soonest_18 : decode prog_1_method_27_code 18 = .ok (.invokevirtual 68, 3) := by decide +kernel
theorem dX10_soonest_21 : decode prog_1_method_27_code 21 = .ok (.ireturn, 1) := by decide +kernel
theorem dX10_soonest_22 : decode prog_1_method_27_code 22 = .ok (.aload_n 0, 1) := by decide +kernel
theorem dX10_soonest_23 : decode prog_1_method_27_code 23 = .ok (.aload_n 0, 1) := by decide +kernel
theorem dX10_soonest_24 : decode prog_1_method_27_code 24 = .ok (.getfield 35, 3) := by decide +kernel
theorem dX10_soonest_27 : decode prog_1_method_27_code 27 = .ok (.iload_n 1, 1) := by decide +kernel
theorem dX10_soonest_28 : decode prog_1_method_27_code 28 = .ok (.iload_n 2, 1) := by decide +kernel
theorem dX10_soonest_29 : decode prog_1_method_27_code 29 = .ok (.invokevirtual 200, 3) := by decide +kernel
theorem dX10_soonest_32 : decode prog_1_method_27_code 32 = .ok (.invokevirtual 116, 3) := by decide +kernel
theorem dX10_soonest_35 : decode prog_1_method_27_code 35 = .ok (.ireturn, 1) := by decide +kernel
theorem dX10_know_0 : decode prog_1_method_28_code 0 = .ok (.aload_n 0, 1) := by decide +kernel
theorem dX10_know_1 : decode prog_1_method_28_code 1 = .ok (.iload_n 1, 1) := by decide +kernel
theorem dX10_know_2 : decode prog_1_method_28_code 2 = .ok (.invokevirtual 129, 3) := by decide +kernel
theorem dX10_know_5 : decode prog_1_method_28_code 5 = .ok (.ifCond .eq 11, 3) := by decide +kernel
theorem dX10_know_8 : decode prog_1_method_28_code 8 = .ok (.aload_n 0, 1) := by decide +kernel
theorem dX10_know_9 : decode prog_1_method_28_code 9 = .ok (.iconst 1, 1) := by decide +kernel
theorem dX10_know_10 : decode prog_1_method_28_code 10 = .ok (.invokevirtual 68, 3) := by decide +kernel
theorem dX10_know_13 : decode prog_1_method_28_code 13 = .ok (.goto 15, 3) := by decide +kernel
theorem dX10_know_16 : decode prog_1_method_28_code 16 = .ok (.aload_n 0, 1) := by decide +kernel
theorem dX10_know_17 : decode prog_1_method_28_code 17 = .ok (.aload_n 0, 1) := by decide +kernel
theorem dX10_know_18 : decode prog_1_method_28_code 18 = .ok (.getfield 35, 3) := by decide +kernel
theorem dX10_know_21 : decode prog_1_method_28_code 21 = .ok (.iload_n 1, 1) := by decide +kernel
theorem dX10_know_22 : decode prog_1_method_28_code 22 = .ok (.invokevirtual 203, 3) := by decide +kernel
theorem dX10_know_25 : decode prog_1_method_28_code 25 = .ok (.invokevirtual 116, 3) := by decide +kernel
theorem dX10_know_28 : decode prog_1_method_28_code 28 = .ok (.ireturn, 1) := by decide +kernel
theorem dX10_byLaw_0 : decode prog_1_method_29_code 0 = .ok (.aload_n 0, 1) := by decide +kernel
theorem dX10_byLaw_1 : decode prog_1_method_29_code 1 = .ok (.getfield 53, 3) := by decide +kernel
theorem dX10_byLaw_4 : decode prog_1_method_29_code 4 = .ok (.ifCond .eq 17, 3) := by decide +kernel
theorem dX10_byLaw_7 : decode prog_1_method_29_code 7 = .ok (.iload_n 1, 1) := by decide +kernel
theorem dX10_byLaw_8 : decode prog_1_method_29_code 8 = .ok (.invokestatic 206, 3) := by decide +kernel
theorem dX10_byLaw_11 : decode prog_1_method_29_code 11 = .ok (.ifCond .ne 10, 3) := by decide +kernel
theorem dX10_byLaw_14 : decode prog_1_method_29_code 14 = .ok (.iload_n 2, 1) := by decide +kernel
theorem dX10_byLaw_15 : decode prog_1_method_29_code 15 = .ok (.invokestatic 209, 3) := by decide +kernel
theorem dX10_byLaw_18 : decode prog_1_method_29_code 18 = .ok (.ifCond .eq 9, 3) := by decide +kernel
theorem dX10_byLaw_21 : decode prog_1_method_29_code 21 = .ok (.aload_n 0, 1) := by decide +kernel
theorem dX10_byLaw_22 : decode prog_1_method_29_code 22 = .ok (.iconst 1, 1) := by decide +kernel
theorem dX10_byLaw_23 : decode prog_1_method_29_code 23 = .ok (.invokevirtual 68, 3) := by decide +kernel
theorem dX10_byLaw_26 : decode prog_1_method_29_code 26 = .ok (.ireturn, 1) := by decide +kernel
theorem dX10_byLaw_27 : decode prog_1_method_29_code 27 = .ok (.aload_n 0, 1) := by decide +kernel
theorem dX10_byLaw_28 : decode prog_1_method_29_code 28 = .ok (.aload_n 0, 1) := by decide +kernel
theorem dX10_byLaw_29 : decode prog_1_method_29_code 29 = .ok (.iload_n 1, 1) := by decide +kernel
theorem dX10_byLaw_30 : decode prog_1_method_29_code 30 = .ok (.iload_n 2, 1) := by decide +kernel
theorem dX10_byLaw_31 : decode prog_1_method_29_code 31 = .ok (.invokevirtual 212, 3) := by decide +kernel
theorem dX10_byLaw_34 : decode prog_1_method_29_code 34 = .ok (.invokevirtual 116, 3) := by decide +kernel
theorem dX10_byLaw_37 : decode prog_1_method_29_code 37 = .ok (.ireturn, 1) := by decide +kernel
theorem dX10_bestLaw_0 : decode prog_1_method_30_code 0 = .ok (.aload_n 0, 1) := by decide +kernel
theorem dX10_bestLaw_1 : decode prog_1_method_30_code 1 = .ok (.getfield 53, 3) := by decide +kernel
theorem dX10_bestLaw_4 : decode prog_1_method_30_code 4 = .ok (.ifCond .eq 10, 3) := by decide +kernel
theorem dX10_bestLaw_7 : decode prog_1_method_30_code 7 = .ok (.iload_n 1, 1) := by decide +kernel
theorem dX10_bestLaw_8 : decode prog_1_method_30_code 8 = .ok (.invokestatic 209, 3) := by decide +kernel
theorem dX10_bestLaw_11 : decode prog_1_method_30_code 11 = .ok (.ifCond .eq 9, 3) := by decide +kernel
theorem dX10_bestLaw_14 : decode prog_1_method_30_code 14 = .ok (.aload_n 0, 1) := by decide +kernel
theorem dX10_bestLaw_15 : decode prog_1_method_30_code 15 = .ok (.iconst 1, 1) := by decide +kernel
theorem dX10_bestLaw_16 : decode prog_1_method_30_code 16 = .ok (.invokevirtual 68, 3) := by decide +kernel
theorem dX10_bestLaw_19 : decode prog_1_method_30_code 19 = .ok (.ireturn, 1) := by decide +kernel
theorem dX10_bestLaw_20 : decode prog_1_method_30_code 20 = .ok (.iconst 0, 1) := by decide +kernel
theorem dX10_bestLaw_21 : decode prog_1_method_30_code 21 = .ok (.istore_n 2, 1) := by decide +kernel
theorem dX10_bestLaw_22 : decode prog_1_method_30_code 22 = .ok (.aload_n 0, 1) := by decide +kernel
theorem dX10_bestLaw_23 : decode prog_1_method_30_code 23 = .ok (.iconst 0, 1) := by decide +kernel
theorem dX10_bestLaw_24 : decode prog_1_method_30_code 24 = .ok (.iload_n 1, 1) := by decide +kernel
theorem dX10_bestLaw_25 : decode prog_1_method_30_code 25 = .ok (.invokevirtual 212, 3) := by decide +kernel
theorem dX10_bestLaw_28 : decode prog_1_method_30_code 28 = .ok (.istore_n 3, 1) := by decide +kernel
theorem dX10_bestLaw_29 : decode prog_1_method_30_code 29 = .ok (.iconst 1, 1) := by decide +kernel
theorem dX10_bestLaw_30 : decode prog_1_method_30_code 30 = .ok (.istore 4, 2) := by decide +kernel
theorem dX10_bestLaw_32 : decode prog_1_method_30_code 32 = .ok (.iload 4, 2) := by decide +kernel
theorem dX10_bestLaw_34 : decode prog_1_method_30_code 34 = .ok (.iconst 5, 1) := by decide +kernel
theorem dX10_bestLaw_35 : decode prog_1_method_30_code 35 = .ok (.if_icmp .ge 30, 3) := by decide +kernel
theorem dX10_bestLaw_38 : decode prog_1_method_30_code 38 = .ok (.aload_n 0, 1) := by decide +kernel
theorem dX10_bestLaw_39 : decode prog_1_method_30_code 39 = .ok (.iload 4, 2) := by decide +kernel
theorem dX10_bestLaw_41 : decode prog_1_method_30_code 41 = .ok (.iload_n 1, 1) := by decide +kernel
theorem dX10_bestLaw_42 : decode prog_1_method_30_code 42 = .ok (.invokevirtual 212, 3) := by decide +kernel
theorem dX10_bestLaw_45 : decode prog_1_method_30_code 45 = .ok (.istore 5, 2) := by decide +kernel
theorem dX10_bestLaw_47 : decode prog_1_method_30_code 47 = .ok (.iload 5, 2) := by decide +kernel
theorem dX10_bestLaw_49 : decode prog_1_method_30_code 49 = .ok (.iload_n 3, 1) := by decide +kernel
theorem dX10_bestLaw_50 : decode prog_1_method_30_code 50 = .ok (.if_icmp .ge 9, 3) := by decide +kernel
theorem dX10_bestLaw_53 : decode prog_1_method_30_code 53 = .ok (.iload 4, 2) := by decide +kernel
theorem dX10_bestLaw_55 : decode prog_1_method_30_code 55 = .ok (.istore_n 2, 1) := by decide +kernel
theorem dX10_bestLaw_56 : decode prog_1_method_30_code 56 = .ok (.iload 5, 2) := by decide +kernel
theorem dX10_bestLaw_58 : decode prog_1_method_30_code 58 = .ok (.istore_n 3, 1) := by decide +kernel
theorem dX10_bestLaw_59 : decode prog_1_method_30_code 59 = .ok (.iinc 4 1, 3) := by decide +kernel
theorem dX10_bestLaw_62 : decode prog_1_method_30_code 62 = .ok (.goto (-30), 3) := by decide +kernel
theorem dX10_bestLaw_65 : decode prog_1_method_30_code 65 = .ok (.aload_n 0, 1) := by decide +kernel
theorem dX10_bestLaw_66 : decode prog_1_method_30_code 66 = .ok (.iload_n 2, 1) := by decide +kernel
theorem dX10_bestLaw_67 : decode prog_1_method_30_code 67 = .ok (.invokevirtual 116, 3) := by decide +kernel
theorem dX10_bestLaw_70 : decode prog_1_method_30_code 70 = .ok (.ireturn, 1) := by decide +kernel
theorem dX10_row_0 : decode prog_1_method_31_code 0 = .ok (.aload_n 0, 1) := by decide +kernel
theorem dX10_row_1 : decode prog_1_method_31_code 1 = .ok (.iload_n 1, 1) := by decide +kernel
theorem dX10_row_2 : decode prog_1_method_31_code 2 = .ok (.invokevirtual 215, 3) := by decide +kernel
theorem dX10_row_5 : decode prog_1_method_31_code 5 = .ok (.istore_n 2, 1) := by decide +kernel
theorem dX10_row_6 : decode prog_1_method_31_code 6 = .ok (.iload_n 2, 1) := by decide +kernel
theorem dX10_row_7 : decode prog_1_method_31_code 7 = .ok (.ifCond .eq 11, 3) := by decide +kernel
theorem dX10_row_10 : decode prog_1_method_31_code 10 = .ok (.aload_n 0, 1) := by decide +kernel
theorem dX10_row_11 : decode prog_1_method_31_code 11 = .ok (.iload_n 2, 1) := by decide +kernel
theorem dX10_row_12 : decode prog_1_method_31_code 12 = .ok (.invokevirtual 68, 3) := by decide +kernel
theorem dX10_row_15 : decode prog_1_method_31_code 15 = .ok (.goto 15, 3) := by decide +kernel
theorem dX10_row_18 : decode prog_1_method_31_code 18 = .ok (.aload_n 0, 1) := by decide +kernel
theorem dX10_row_19 : decode prog_1_method_31_code 19 = .ok (.aload_n 0, 1) := by decide +kernel
theorem dX10_row_20 : decode prog_1_method_31_code 20 = .ok (.getfield 49, 3) := by decide +kernel
theorem dX10_row_23 : decode prog_1_method_31_code 23 = .ok (.iload_n 1, 1) := by decide +kernel
theorem dX10_row_24 : decode prog_1_method_31_code 24 = .ok (.invokevirtual 218, 3) := by decide +kernel
theorem dX10_row_27 : decode prog_1_method_31_code 27 = .ok (.invokevirtual 116, 3) := by decide +kernel
theorem dX10_row_30 : decode prog_1_method_31_code 30 = .ok (.ireturn, 1) := by decide +kernel
theorem dX10_rowAt_0 : decode prog_1_method_32_code 0 = .ok (.aload_n 0, 1) := by decide +kernel
theorem dX10_rowAt_1 : decode prog_1_method_32_code 1 = .ok (.iload_n 1, 1) := by decide +kernel
theorem dX10_rowAt_2 : decode prog_1_method_32_code 2 = .ok (.invokevirtual 215, 3) := by decide +kernel
theorem dX10_rowAt_5 : decode prog_1_method_32_code 5 = .ok (.istore_n 3, 1) := by decide +kernel
theorem dX10_rowAt_6 : decode prog_1_method_32_code 6 = .ok (.iload_n 3, 1) := by decide +kernel
theorem dX10_rowAt_7 : decode prog_1_method_32_code 7 = .ok (.ifCond .eq 9, 3) := by decide +kernel
theorem dX10_rowAt_10 : decode prog_1_method_32_code 10 = .ok (.aload_n 0, 1) := by decide +kernel
theorem dX10_rowAt_11 : decode prog_1_method_32_code 11 = .ok (.iload_n 3, 1) := by decide +kernel
theorem dX10_rowAt_12 : decode prog_1_method_32_code 12 = .ok (.invokevirtual 68, 3) := by decide +kernel
theorem dX10_rowAt_15 : decode prog_1_method_32_code 15 = .ok (.ireturn, 1) := by decide +kernel
theorem dX10_rowAt_16 : decode prog_1_method_32_code 16 = .ok (.iload_n 2, 1) := by decide +kernel
theorem dX10_rowAt_17 : decode prog_1_method_32_code 17 = .ok (.ifCond .lt 8, 3) := by decide +kernel
theorem dX10_rowAt_20 : decode prog_1_method_32_code 20 = .ok (.iload_n 2, 1) := by decide +kernel
theorem dX10_rowAt_21 : decode prog_1_method_32_code 21 = .ok (.iload_n 1, 1) := by decide +kernel
theorem dX10_rowAt_22 : decode prog_1_method_32_code 22 = .ok (.if_icmp .lt 9, 3) := by decide +kernel
theorem dX10_rowAt_25 : decode prog_1_method_32_code 25 = .ok (.aload_n 0, 1) := by decide +kernel
theorem dX10_rowAt_26 : decode prog_1_method_32_code 26 = .ok (.iconst 1, 1) := by decide +kernel
theorem dX10_rowAt_27 : decode prog_1_method_32_code 27 = .ok (.invokevirtual 68, 3) := by decide +kernel
theorem dX10_rowAt_30 : decode prog_1_method_32_code 30 = .ok (.ireturn, 1) := by decide +kernel
theorem dX10_rowAt_31 : decode prog_1_method_32_code 31 = .ok (.aload_n 0, 1) := by decide +kernel
theorem dX10_rowAt_32 : decode prog_1_method_32_code 32 = .ok (.getfield 49, 3) := by decide +kernel
theorem dX10_rowAt_35 : decode prog_1_method_32_code 35 = .ok (.iload_n 1, 1) := by decide +kernel
theorem dX10_rowAt_36 : decode prog_1_method_32_code 36 = .ok (.invokevirtual 218, 3) := by decide +kernel
theorem dX10_rowAt_39 : decode prog_1_method_32_code 39 = .ok (.pop, 1) := by decide +kernel
theorem dX10_rowAt_40 : decode prog_1_method_32_code 40 = .ok (.aload_n 0, 1) := by decide +kernel
theorem dX10_rowAt_41 : decode prog_1_method_32_code 41 = .ok (.aload_n 0, 1) := by decide +kernel
theorem dX10_rowAt_42 : decode prog_1_method_32_code 42 = .ok (.getfield 49, 3) := by decide +kernel
theorem dX10_rowAt_45 : decode prog_1_method_32_code 45 = .ok (.getfield 221, 3) := by decide +kernel
theorem dX10_rowAt_48 : decode prog_1_method_32_code 48 = .ok (.iload_n 1, 1) := by decide +kernel
theorem dX10_rowAt_49 : decode prog_1_method_32_code 49 = .ok (.iconst 4, 1) := by decide +kernel
theorem dX10_rowAt_50 : decode prog_1_method_32_code 50 = .ok (.imul, 1) := by decide +kernel
theorem dX10_rowAt_51 : decode prog_1_method_32_code 51 = .ok (.iload_n 2, 1) := by decide +kernel
theorem dX10_rowAt_52 : decode prog_1_method_32_code 52 = .ok (.iadd, 1) := by decide +kernel
theorem dX10_rowAt_53 : decode prog_1_method_32_code 53 = .ok (.iaload, 1) := by decide +kernel
theorem dX10_rowAt_54 : decode prog_1_method_32_code 54 = .ok (.invokevirtual 116, 3) := by decide +kernel
theorem dX10_rowAt_57 : decode prog_1_method_32_code 57 = .ok (.ireturn, 1) := by decide +kernel
theorem dX10_chain_0 : decode prog_1_method_33_code 0 = .ok (.aload_n 0, 1) := by decide +kernel
theorem dX10_chain_1 : decode prog_1_method_33_code 1 = .ok (.iload_n 1, 1) := by decide +kernel
theorem dX10_chain_2 : decode prog_1_method_33_code 2 = .ok (.invokevirtual 129, 3) := by decide +kernel
theorem dX10_chain_5 : decode prog_1_method_33_code 5 = .ok (.ifCond .ne 11, 3) := by decide +kernel
theorem dX10_chain_8 : decode prog_1_method_33_code 8 = .ok (.aload_n 0, 1) := by decide +kernel
theorem dX10_chain_9 : decode prog_1_method_33_code 9 = .ok (.iload_n 2, 1) := by decide +kernel
theorem dX10_chain_10 : decode prog_1_method_33_code 10 = .ok (.invokevirtual 109, 3) := by decide +kernel
theorem dX10_chain_13 : decode prog_1_method_33_code 13 = .ok (.ifCond .eq 9, 3) := by decide +kernel
theorem dX10_chain_16 : decode prog_1_method_33_code 16 = .ok (.aload_n 0, 1) := by decide +kernel
theorem dX10_chain_17 : decode prog_1_method_33_code 17 = .ok (.iconst 1, 1) := by decide +kernel
theorem dX10_chain_18 : decode prog_1_method_33_code 18 = .ok (.invokevirtual 68, 3) := by decide +kernel
theorem dX10_chain_21 : decode prog_1_method_33_code 21 = .ok (.ireturn, 1) := by decide +kernel
theorem dX10_chain_22 : decode prog_1_method_33_code 22 = .ok (.aload_n 0, 1) := by decide +kernel
theorem dX10_chain_23 : decode prog_1_method_33_code 23 = .ok (.getfield 49, 3) := by decide +kernel
theorem dX10_chain_26 : decode prog_1_method_33_code 26 = .ok (.invokevirtual 224, 3) := by decide +kernel
theorem dX10_chain_29 : decode prog_1_method_33_code 29 = .ok (.aload_n 0, 1) := by decide +kernel
theorem dX10_chain_30 : decode prog_1_method_33_code 30 = .ok (.aload_n 0, 1) := by decide +kernel
theorem dX10_chain_31 : decode prog_1_method_33_code 31 = .ok (.getfield 49, 3) := by decide +kernel
theorem dX10_chain_34 : decode prog_1_method_33_code 34 = .ok (.getfield 227, 3) := by decide +kernel
theorem dX10_chain_37 : decode prog_1_method_33_code 37 = .ok (.iload_n 1, 1) := by decide +kernel
theorem dX10_chain_38 : decode prog_1_method_33_code 38 = .ok (.bipush 10, 2) := by decide +kernel
theorem dX10_chain_40 : decode prog_1_method_33_code 40 = .ok (.imul, 1) := by decide +kernel
theorem dX10_chain_41 : decode prog_1_method_33_code 41 = .ok (.iload_n 2, 1) := by decide +kernel
theorem dX10_chain_42 : decode prog_1_method_33_code 42 = .ok (.iadd, 1) := by decide +kernel
theorem dX10_chain_43 : decode prog_1_method_33_code 43 = .ok (.iaload, 1) := by decide +kernel
theorem dX10_chain_44 : decode prog_1_method_33_code 44 = .ok (.invokevirtual 116, 3) := by decide +kernel
theorem dX10_chain_47 : decode prog_1_method_33_code 47 = .ok (.ireturn, 1) := by decide +kernel
theorem dX10_trade_0 : decode prog_1_method_34_code 0 = .ok (.aload_n 0, 1) := by decide +kernel
theorem dX10_trade_1 : decode prog_1_method_34_code 1 = .ok (.iload_n 1, 1) := by decide +kernel
theorem dX10_trade_2 : decode prog_1_method_34_code 2 = .ok (.iload_n 2, 1) := by decide +kernel
theorem dX10_trade_3 : decode prog_1_method_34_code 3 = .ok (.invokevirtual 230, 3) := by decide +kernel
theorem dX10_trade_6 : decode prog_1_method_34_code 6 = .ok (.ifCond .eq 13, 3) := by decide +kernel
theorem dX10_trade_9 : decode prog_1_method_34_code 9 = .ok (.aload_n 0, 1) := by decide +kernel
theorem dX10_trade_10 : decode prog_1_method_34_code 10 = .ok (.iconst 1, 1) := by decide +kernel
theorem dX10_trade_11 : decode prog_1_method_34_code 11 = .ok (.invokevirtual 68, 3) := by decide +kernel
theorem dX10_trade_14 : decode prog_1_method_34_code 14 = .ok (.pop, 1) := by decide +kernel
theorem dX10_trade_15 : decode prog_1_method_34_code 15 = .ok (.sipush (-10000), 3) := by decide +kernel
theorem dX10_trade_18 : decode prog_1_method_34_code 18 = .ok (.ireturn, 1) := by decide +kernel
theorem dX10_trade_19 : decode prog_1_method_34_code 19 = .ok (.aload_n 0, 1) := by decide +kernel
theorem dX10_trade_20 : decode prog_1_method_34_code 20 = .ok (.aload_n 0, 1) := by decide +kernel
theorem dX10_trade_21 : decode prog_1_method_34_code 21 = .ok (.iload_n 1, 1) := by decide +kernel
theorem dX10_trade_22 : decode prog_1_method_34_code 22 = .ok (.iload_n 2, 1) := by decide +kernel
theorem dX10_trade_23 : decode prog_1_method_34_code 23 = .ok (.invokevirtual 233, 3) := by decide +kernel
theorem dX10_trade_26 : decode prog_1_method_34_code 26 = .ok (.invokevirtual 116, 3) := by decide +kernel
theorem dX10_trade_29 : decode prog_1_method_34_code 29 = .ok (.ireturn, 1) := by decide +kernel
theorem dX10_bestTrade_0 : decode prog_1_method_35_code 0 = .ok (.aload_n 0, 1) := by decide +kernel
theorem dX10_bestTrade_1 : decode prog_1_method_35_code 1 = .ok (.getfield 53, 3) := by decide +kernel
theorem dX10_bestTrade_4 : decode prog_1_method_35_code 4 = .ok (.ifCond .ne 9, 3) := by decide +kernel
theorem dX10_bestTrade_7 : decode prog_1_method_35_code 7 = .ok (.aload_n 0, 1) := by decide +kernel
theorem dX10_bestTrade_8 : decode prog_1_method_35_code 8 = .ok (.iconst 1, 1) := by decide +kernel
theorem dX10_bestTrade_9 : decode prog_1_method_35_code 9 = .ok (.invokevirtual 68, 3) := by decide +kernel
theorem dX10_bestTrade_12 : decode prog_1_method_35_code 12 = .ok (.ireturn, 1) := by decide +kernel
theorem dX10_bestTrade_13 : decode prog_1_method_35_code 13 = .ok (.aload_n 0, 1) := by decide +kernel
theorem dX10_bestTrade_14 : decode prog_1_method_35_code 14 = .ok (.getfield 19, 3) := by decide +kernel
theorem dX10_bestTrade_17 : decode prog_1_method_35_code 17 = .ok (.getfield 76, 3) := by decide +kernel
theorem dX10_bestTrade_20 : decode prog_1_method_35_code 20 = .ok (.getfield 98, 3) := by decide +kernel
theorem dX10_bestTrade_23 : decode prog_1_method_35_code 23 = .ok (.istore_n 1, 1) := by decide +kernel
theorem dX10_bestTrade_24 : decode prog_1_method_35_code 24 = .ok (.iload_n 1, 1) := by decide +kernel
theorem dX10_bestTrade_25 : decode prog_1_method_35_code 25 = .ok (.iconst 2, 1) := by decide +kernel
theorem dX10_bestTrade_26 : decode prog_1_method_35_code 26 = .ok (.if_icmp .ge 10, 3) := by decide +kernel
theorem dX10_bestTrade_29 : decode prog_1_method_35_code 29 = .ok (.aload_n 0, 1) := by decide +kernel
theorem dX10_bestTrade_30 : decode prog_1_method_35_code 30 = .ok (.bipush 6, 2) := by decide +kernel
theorem dX10_bestTrade_32 : decode prog_1_method_35_code 32 = .ok (.invokevirtual 68, 3) := by decide +kernel
theorem dX10_bestTrade_35 : decode prog_1_method_35_code 35 = .ok (.ireturn, 1) := by decide +kernel
theorem dX10_bestTrade_36 : decode prog_1_method_35_code 36 = .ok (.iconst (-1), 1) := by decide +kernel
theorem dX10_bestTrade_37 : decode prog_1_method_35_code 37 = .ok (.istore_n 2, 1) := by decide +kernel
theorem dX10_bestTrade_38 : decode prog_1_method_35_code 38 = .ok (.ldc 236, 2) := by decide +kernel
theorem dX10_bestTrade_40 : decode prog_1_method_35_code 40 = .ok (.istore_n 3, 1) := by decide +kernel
theorem dX10_bestTrade_41 : decode prog_1_method_35_code 41 = .ok (.iconst 0, 1) := by decide +kernel
theorem dX10_bestTrade_42 : decode prog_1_method_35_code 42 = .ok (.istore 4, 2) := by decide +kernel
theorem dX10_bestTrade_44 : decode prog_1_method_35_code 44 = .ok (.iload 4, 2) := by decide +kernel
theorem dX10_bestTrade_46 : decode prog_1_method_35_code 46 = .ok (.iload_n 1, 1) := by decide +kernel
theorem dX10_bestTrade_47 : decode prog_1_method_35_code 47 = .ok (.if_icmp .ge 55, 3) := by decide +kernel
theorem dX10_bestTrade_50 : decode prog_1_method_35_code 50 = .ok (.iload 4, 2) := by decide +kernel
theorem dX10_bestTrade_52 : decode prog_1_method_35_code 52 = .ok (.iconst 1, 1) := by decide +kernel
theorem dX10_bestTrade_53 : decode prog_1_method_35_code 53 = .ok (.iadd, 1) := by decide +kernel
theorem dX10_bestTrade_54 : decode prog_1_method_35_code 54 = .ok (.istore 5, 2) := by decide +kernel
theorem dX10_bestTrade_56 : decode prog_1_method_35_code 56 = .ok (.iload 5, 2) := by decide +kernel
theorem dX10_bestTrade_58 : decode prog_1_method_35_code 58 = .ok (.iload_n 1, 1) := by decide +kernel
theorem dX10_bestTrade_59 : decode prog_1_method_35_code 59 = .ok (.if_icmp .ge 37, 3) := by decide +kernel
theorem dX10_bestTrade_62 : decode prog_1_method_35_code 62 = .ok (.aload_n 0, 1) := by decide +kernel
theorem dX10_bestTrade_63 : decode prog_1_method_35_code 63 = .ok (.iload 4, 2) := by decide +kernel
theorem dX10_bestTrade_65 : decode prog_1_method_35_code 65 = .ok (.iload 5, 2) := by decide +kernel
theorem dX10_bestTrade_67 : decode prog_1_method_35_code 67 = .ok (.invokevirtual 233, 3) := by decide +kernel
theorem dX10_bestTrade_70 : decode prog_1_method_35_code 70 = .ok (.istore 6, 2) := by decide +kernel
theorem dX10_bestTrade_72 : decode prog_1_method_35_code 72 = .ok (.iload 6, 2) := by decide +kernel
theorem dX10_bestTrade_74 : decode prog_1_method_35_code 74 = .ok (.iload_n 3, 1) := by decide +kernel
theorem dX10_bestTrade_75 : decode prog_1_method_35_code 75 = .ok (.if_icmp .ge 15, 3) := by decide +kernel
theorem dX10_bestTrade_78 : decode prog_1_method_35_code 78 = .ok (.bipush 100, 2) := by decide +kernel
theorem dX10_bestTrade_80 : decode prog_1_method_35_code 80 = .ok (.iload 4, 2) := by decide +kernel
theorem dX10_bestTrade_82 : decode prog_1_method_35_code 82 = .ok (.imul, 1) := by decide +kernel
theorem dX10_bestTrade_83 : decode prog_1_method_35_code 83 = .ok (.iload 5, 2) := by decide +kernel
theorem dX10_bestTrade_85 : decode prog_1_method_35_code 85 = .ok (.iadd, 1) := by decide +kernel
theorem dX10_bestTrade_86 : decode prog_1_method_35_code 86 = .ok (.istore_n 2, 1) := by decide +kernel
theorem dX10_bestTrade_87 : decode prog_1_method_35_code 87 = .ok (.iload 6, 2) := by decide +kernel
theorem dX10_bestTrade_89 : decode prog_1_method_35_code 89 = .ok (.istore_n 3, 1) := by decide +kernel
theorem dX10_bestTrade_90 : decode prog_1_method_35_code 90 = .ok (.iinc 5 1, 3) := by decide +kernel
theorem dX10_bestTrade_93 : decode prog_1_method_35_code 93 = .ok (.goto (-37), 3) := by decide +kernel
theorem dX10_bestTrade_96 : decode prog_1_method_35_code 96 = .ok (.iinc 4 1, 3) := by decide +kernel
theorem dX10_bestTrade_99 : decode prog_1_method_35_code 99 = .ok (.goto (-55), 3) := by decide +kernel
theorem dX10_bestTrade_102 : decode prog_1_method_35_code 102 = .ok (.aload_n 0, 1) := by decide +kernel
theorem dX10_bestTrade_103 : decode prog_1_method_35_code 103 = .ok (.iload_n 2, 1) := by decide +kernel
theorem dX10_bestTrade_104 : decode prog_1_method_35_code 104 = .ok (.invokevirtual 116, 3) := by decide +kernel
theorem dX10_bestTrade_107 : decode prog_1_method_35_code 107 = .ok (.ireturn, 1) := by decide +kernel
theorem dX10_fits_0 : decode prog_1_method_36_code 0 = .ok (.aload_n 0, 1) := by decide +kernel
theorem dX10_fits_1 : decode prog_1_method_36_code 1 = .ok (.getfield 53, 3) := by decide +kernel
theorem dX10_fits_4 : decode prog_1_method_36_code 4 = .ok (.ifCond .ne 9, 3) := by decide +kernel
theorem dX10_fits_7 : decode prog_1_method_36_code 7 = .ok (.aload_n 0, 1) := by decide +kernel
theorem dX10_fits_8 : decode prog_1_method_36_code 8 = .ok (.iconst 1, 1) := by decide +kernel
theorem dX10_fits_9 : decode prog_1_method_36_code 9 = .ok (.invokevirtual 68, 3) := by decide +kernel
theorem dX10_fits_12 : decode prog_1_method_36_code 12 = .ok (.ireturn, 1) := by decide +kernel
theorem dX10_fits_13 : decode prog_1_method_36_code 13 = .ok (.iconst 0, 1) := by decide +kernel
theorem dX10_fits_14 : decode prog_1_method_36_code 14 = .ok (.istore_n 1, 1) := by decide +kernel
theorem dX10_fits_15 : decode prog_1_method_36_code 15 = .ok (.iconst 0, 1) := by decide +kernel
theorem dX10_fits_16 : decode prog_1_method_36_code 16 = .ok (.istore_n 2, 1) := by decide +kernel
theorem dX10_fits_17 : decode prog_1_method_36_code 17 = .ok (.iload_n 2, 1) := by decide +kernel
theorem dX10_fits_18 : decode prog_1_method_36_code 18 = .ok (.iconst 5, 1) := by decide +kernel
theorem dX10_fits_19 : decode prog_1_method_36_code 19 = .ok (.if_icmp .ge 33, 3) := by decide +kernel
theorem dX10_fits_22 : decode prog_1_method_36_code 22 = .ok (.aload_n 0, 1) := by decide +kernel
theorem dX10_fits_23 : decode prog_1_method_36_code 23 = .ok (.iload_n 2, 1) := by decide +kernel
theorem dX10_fits_24 : decode prog_1_method_36_code 24 = .ok (.aload_n 0, 1) := by decide +kernel
theorem dX10_fits_25 : decode prog_1_method_36_code 25 = .ok (.getfield 19, 3) := by decide +kernel
theorem dX10_fits_28 : decode prog_1_method_36_code 28 = .ok (.getfield 81, 3) := by decide +kernel
theorem dX10_fits_31 : decode prog_1_method_36_code 31 = .ok (.getfield 237, 3) := by decide +kernel
theorem dX10_fits_34 : decode prog_1_method_36_code 34 = .ok (.invokevirtual 240, 3) := by decide +kernel
theorem dX10_fits_37 : decode prog_1_method_36_code 37 = .ok (.ifCond .eq 9, 3) := by decide +kernel
theorem dX10_fits_40 : decode prog_1_method_36_code 40 = .ok (.iload_n 1, 1) := by decide +kernel
theorem dX10_fits_41 : decode prog_1_method_36_code 41 = .ok (.iconst 1, 1) := by decide +kernel
theorem dX10_fits_42 : decode prog_1_method_36_code 42 = .ok (.iload_n 2, 1) := by decide +kernel
theorem dX10_fits_43 : decode prog_1_method_36_code 43 = .ok (.ishl, 1) := by decide +kernel
theorem dX10_fits_44 : decode prog_1_method_36_code 44 = .ok (.ior, 1) := by decide +kernel
theorem dX10_fits_45 : decode prog_1_method_36_code 45 = .ok (.istore_n 1, 1) := by decide +kernel
theorem dX10_fits_46 : decode prog_1_method_36_code 46 = .ok (.iinc 2 1, 3) := by decide +kernel
theorem dX10_fits_49 : decode prog_1_method_36_code 49 = .ok (.goto (-32), 3) := by decide +kernel
theorem dX10_fits_52 : decode prog_1_method_36_code 52 = .ok (.aload_n 0, 1) := by decide +kernel
theorem dX10_fits_53 : decode prog_1_method_36_code 53 = .ok (.iload_n 1, 1) := by decide +kernel
theorem dX10_fits_54 : decode prog_1_method_36_code 54 = .ok (.invokevirtual 116, 3) := by decide +kernel
theorem dX10_fits_57 : decode prog_1_method_36_code 57 = .ok (.ireturn, 1) := by decide +kernel
theorem dX10_seeds_0 : decode prog_1_method_37_code 0 = .ok (.aload_n 0, 1) := by decide +kernel
theorem dX10_seeds_1 : decode prog_1_method_37_code 1 = .ok (.iload_n 1, 1) := by decide +kernel
theorem dX10_seeds_2 : decode prog_1_method_37_code 2 = .ok (.invokevirtual 243, 3) := by decide +kernel
theorem dX10_seeds_5 : decode prog_1_method_37_code 5 = .ok (.istore_n 2, 1) := by decide +kernel
theorem dX10_seeds_6 : decode prog_1_method_37_code 6 = .ok (.iload_n 2, 1) := by decide +kernel
theorem dX10_seeds_7 : decode prog_1_method_37_code 7 = .ok (.ifCond .eq 9, 3) := by decide +kernel
theorem dX10_seeds_10 : decode prog_1_method_37_code 10 = .ok (.aload_n 0, 1) := by decide +kernel
theorem dX10_seeds_11 : decode prog_1_method_37_code 11 = .ok (.iload_n 2, 1) := by decide +kernel
theorem dX10_seeds_12 : decode prog_1_method_37_code 12 = .ok (.invokevirtual 68, 3) := by decide +kernel
theorem dX10_seeds_15 : decode prog_1_method_37_code 15 = .ok (.ireturn, 1) := by decide +kernel
theorem dX10_seeds_16 : decode prog_1_method_37_code 16 = .ok (.iconst 0, 1) := by decide +kernel
theorem dX10_seeds_17 : decode prog_1_method_37_code 17 = .ok (.istore_n 3, 1) := by decide +kernel
theorem dX10_seeds_18 : decode prog_1_method_37_code 18 = .ok (.iconst 0, 1) := by decide +kernel
theorem dX10_seeds_19 : decode prog_1_method_37_code 19 = .ok (.istore 4, 2) := by decide +kernel
theorem dX10_seeds_21 : decode prog_1_method_37_code 21 = .ok (.iload 4, 2) := by decide +kernel
theorem dX10_seeds_23 : decode prog_1_method_37_code 23 = .ok (.iload_n 1, 1) := by decide +kernel
theorem dX10_seeds_24 : decode prog_1_method_37_code 24 = .ok (.if_icmp .ge 22, 3) := by decide +kernel
theorem dX10_seeds_27 : decode prog_1_method_37_code 27 = .ok (.aload_n 0, 1) := by decide +kernel
theorem dX10_seeds_28 : decode prog_1_method_37_code 28 = .ok (.iconst 3, 1) := by decide +kernel
theorem dX10_seeds_29 : decode prog_1_method_37_code 29 = .ok (.iload 4, 2) := by decide +kernel
theorem dX10_seeds_31 : decode prog_1_method_37_code 31 = .ok (.invokevirtual 240, 3) := by decide +kernel
theorem dX10_seeds_34 : decode prog_1_method_37_code 34 = .ok (.ifCond .eq 6, 3) := by decide +kernel
theorem dX10_seeds_37 : decode prog_1_method_37_code 37 = .ok (.iinc 3 1, 3) := by decide +kernel
theorem dX10_seeds_40 : decode prog_1_method_37_code 40 = .ok (.iinc 4 1, 3) := by decide +kernel
theorem dX10_seeds_43 : decode prog_1_method_37_code 43 = .ok (.goto (-22), 3) := by decide +kernel
theorem dX10_seeds_46 : decode prog_1_method_37_code 46 = .ok (.aload_n 0, 1) := by decide +kernel
theorem dX10_seeds_47 : decode prog_1_method_37_code 47 = .ok (.iload_n 3, 1) := by decide +kernel
theorem dX10_seeds_48 : decode prog_1_method_37_code 48 = .ok (.invokevirtual 116, 3) := by decide +kernel
theorem dX10_seeds_51 : decode prog_1_method_37_code 51 = .ok (.ireturn, 1) := by decide +kernel
theorem dX10_firstSeed_0 : decode prog_1_method_38_code 0 = .ok (.aload_n 0, 1) := by decide +kernel
theorem dX10_firstSeed_1 : decode prog_1_method_38_code 1 = .ok (.iload_n 1, 1) := by decide +kernel
theorem dX10_firstSeed_2 : decode prog_1_method_38_code 2 = .ok (.invokevirtual 243, 3) := by decide +kernel
theorem dX10_firstSeed_5 : decode prog_1_method_38_code 5 = .ok (.istore_n 2, 1) := by decide +kernel
theorem dX10_firstSeed_6 : decode prog_1_method_38_code 6 = .ok (.iload_n 2, 1) := by decide +kernel
theorem dX10_firstSeed_7 : decode prog_1_method_38_code 7 = .ok (.ifCond .eq 9, 3) := by decide +kernel
theorem dX10_firstSeed_10 : decode prog_1_method_38_code 10 = .ok (.aload_n 0, 1) := by decide +kernel
theorem dX10_firstSeed_11 : decode prog_1_method_38_code 11 = .ok (.iload_n 2, 1) := by decide +kernel
theorem dX10_firstSeed_12 : decode prog_1_method_38_code 12 = .ok (.invokevirtual 68, 3) := by decide +kernel
theorem dX10_firstSeed_15 : decode prog_1_method_38_code 15 = .ok (.ireturn, 1) := by decide +kernel
theorem dX10_firstSeed_16 : decode prog_1_method_38_code 16 = .ok (.iconst 0, 1) := by decide +kernel
theorem dX10_firstSeed_17 : decode prog_1_method_38_code 17 = .ok (.istore_n 3, 1) := by decide +kernel
theorem dX10_firstSeed_18 : decode prog_1_method_38_code 18 = .ok (.iload_n 3, 1) := by decide +kernel
theorem dX10_firstSeed_19 : decode prog_1_method_38_code 19 = .ok (.iload_n 1, 1) := by decide +kernel
theorem dX10_firstSeed_20 : decode prog_1_method_38_code 20 = .ok (.if_icmp .ge 24, 3) := by decide +kernel
theorem dX10_firstSeed_23 : decode prog_1_method_38_code 23 = .ok (.aload_n 0, 1) := by decide +kernel
theorem dX10_firstSeed_24 : decode prog_1_method_38_code 24 = .ok (.iconst 3, 1) := by decide +kernel
theorem dX10_firstSeed_25 : decode prog_1_method_38_code 25 = .ok (.iload_n 3, 1) := by decide +kernel
theorem dX10_firstSeed_26 : decode prog_1_method_38_code 26 = .ok (.invokevirtual 240, 3) := by decide +kernel
theorem dX10_firstSeed_29 : decode prog_1_method_38_code 29 = .ok (.ifCond .eq 9, 3) := by decide +kernel
theorem dX10_firstSeed_32 : decode prog_1_method_38_code 32 = .ok (.aload_n 0, 1) := by decide +kernel
theorem dX10_firstSeed_33 : decode prog_1_method_38_code 33 = .ok (.iload_n 3, 1) := by decide +kernel
theorem dX10_firstSeed_34 : decode prog_1_method_38_code 34 = .ok (.invokevirtual 116, 3) := by decide +kernel
theorem dX10_firstSeed_37 : decode prog_1_method_38_code 37 = .ok (.ireturn, 1) := by decide +kernel
theorem dX10_firstSeed_38 : decode prog_1_method_38_code 38 = .ok (.iinc 3 1, 3) := by decide +kernel
theorem dX10_firstSeed_41 : decode prog_1_method_38_code 41 = .ok (.goto (-23), 3) := by decide +kernel
theorem dX10_firstSeed_44 : decode prog_1_method_38_code 44 = .ok (.aload_n 0, 1) := by decide +kernel
theorem dX10_firstSeed_45 : decode prog_1_method_38_code 45 = .ok (.bipush (-2), 2) := by decide +kernel
theorem dX10_firstSeed_47 : decode prog_1_method_38_code 47 = .ok (.invokevirtual 116, 3) := by decide +kernel
theorem dX10_firstSeed_50 : decode prog_1_method_38_code 50 = .ok (.ireturn, 1) := by decide +kernel
theorem dX10_power_0 : decode prog_1_method_39_code 0 = .ok (.aload_n 0, 1) := by decide +kernel
theorem dX10_power_1 : decode prog_1_method_39_code 1 = .ok (.iload_n 1, 1) := by decide +kernel
theorem dX10_power_2 : decode prog_1_method_39_code 2 = .ok (.invokevirtual 109, 3) := by decide +kernel
theorem dX10_power_5 : decode prog_1_method_39_code 5 = .ok (.ifCond .eq 9, 3) := by decide +kernel
theorem dX10_power_8 : decode prog_1_method_39_code 8 = .ok (.aload_n 0, 1) := by decide +kernel
theorem dX10_power_9 : decode prog_1_method_39_code 9 = .ok (.iconst 1, 1) := by decide +kernel
theorem dX10_power_10 : decode prog_1_method_39_code 10 = .ok (.invokevirtual 68, 3) := by decide +kernel
theorem dX10_power_13 : decode prog_1_method_39_code 13 = .ok (.ireturn, 1) := by decide +kernel
theorem dX10_power_14 : decode prog_1_method_39_code 14 = .ok (.aload_n 0, 1) := by decide +kernel
theorem dX10_power_15 : decode prog_1_method_39_code 15 = .ok (.getfield 19, 3) := by decide +kernel
theorem dX10_power_18 : decode prog_1_method_39_code 18 = .ok (.getfield 246, 3) := by decide +kernel
theorem dX10_power_21 : decode prog_1_method_39_code 21 = .ok (.getfield 250, 3) := by decide +kernel
theorem dX10_power_24 : decode prog_1_method_39_code 24 = .ok (.iconst 0, 1) := by decide +kernel
theorem dX10_power_25 : decode prog_1_method_39_code 25 = .ok (.iaload, 1) := by decide +kernel
theorem dX10_power_26 : decode prog_1_method_39_code 26 = .ok (.istore_n 2, 1) := by decide +kernel
theorem dX10_power_27 : decode prog_1_method_39_code 27 = .ok (.aload_n 0, 1) := by decide +kernel
theorem dX10_power_28 : decode prog_1_method_39_code 28 = .ok (.iload_n 2, 1) := by decide +kernel
theorem dX10_power_29 : decode prog_1_method_39_code 29 = .ok (.iload_n 1, 1) := by decide +kernel
theorem dX10_power_30 : decode prog_1_method_39_code 30 = .ok (.invokestatic 169, 3) := by decide +kernel
theorem dX10_power_33 : decode prog_1_method_39_code 33 = .ok (.ifCond .eq 12, 3) := by decide +kernel
theorem dX10_power_36 : decode prog_1_method_39_code 36 = .ok (.aload_n 0, 1) := by decide +kernel
theorem dX10_power_37 : decode prog_1_method_39_code 37 = .ok (.iload_n 1, 1) := by decide +kernel
theorem dX10_power_38 : decode prog_1_method_39_code 38 = .ok (.iload_n 2, 1) := by decide +kernel
theorem dX10_power_39 : decode prog_1_method_39_code 39 = .ok (.invokevirtual 253, 3) := by decide +kernel
theorem dX10_power_42 : decode prog_1_method_39_code 42 = .ok (.goto 4, 3) := by decide +kernel
theorem dX10_power_45 : decode prog_1_method_39_code 45 = .ok (.iconst 0, 1) := by decide +kernel
theorem dX10_power_46 : decode prog_1_method_39_code 46 = .ok (.invokevirtual 116, 3) := by decide +kernel
theorem dX10_power_49 : decode prog_1_method_39_code 49 = .ok (.ireturn, 1) := by decide +kernel
theorem dX10_stands_0 : decode prog_1_method_40_code 0 = .ok (.aload_n 0, 1) := by decide +kernel
theorem dX10_stands_1 : decode prog_1_method_40_code 1 = .ok (.getfield 53, 3) := by decide +kernel
theorem dX10_stands_4 : decode prog_1_method_40_code 4 = .ok (.ifCond .ne 10, 3) := by decide +kernel
theorem dX10_stands_7 : decode prog_1_method_40_code 7 = .ok (.aload_n 0, 1) := by decide +kernel
theorem dX10_stands_8 : decode prog_1_method_40_code 8 = .ok (.iconst 1, 1) := by decide +kernel
theorem dX10_stands_9 : decode prog_1_method_40_code 9 = .ok (.invokevirtual 68, 3) := by decide +kernel
theorem dX10_stands_12 : decode prog_1_method_40_code 12 = .ok (.i2l, 1) := by decide +kernel
theorem dX10_stands_13 : decode prog_1_method_40_code 13 = .ok (.lreturn, 1) := by decide +kernel
theorem dX10_stands_14 : decode prog_1_method_40_code 14 = .ok (.iload_n 1, 1) := by decide +kernel
theorem dX10_stands_15 : decode prog_1_method_40_code 15 = .ok (.ifCond .lt 23, 3) := by decide +kernel
theorem dX10_stands_18 : decode prog_1_method_40_code 18 = .ok (.iload_n 1, 1) := by decide +kernel
theorem dX10_stands_19 : decode prog_1_method_40_code 19 = .ok (.bipush 8, 2) := by decide +kernel
theorem dX10_stands_21 : decode prog_1_method_40_code 21 = .ok (.if_icmp .gt 17, 3) := by decide +kernel
theorem dX10_stands_24 : decode prog_1_method_40_code 24 = .ok (.iload_n 1, 1) := by decide +kernel
theorem dX10_stands_25 : decode prog_1_method_40_code 25 = .ok (.aload_n 0, 1) := by decide +kernel
theorem dX10_stands_26 : decode prog_1_method_40_code 26 = .ok (.getfield 19, 3) := by decide +kernel
theorem dX10_stands_29 : decode prog_1_method_40_code 29 = .ok (.getfield 76, 3) := by decide +kernel
theorem dX10_stands_32 : decode prog_1_method_40_code 32 = .ok (.getfield 256, 3) := by decide +kernel
theorem dX10_stands_35 : decode prog_1_method_40_code 35 = .ok (.if_icmp .le 10, 3) := by decide +kernel
theorem dX10_stands_38 : decode prog_1_method_40_code 38 = .ok (.aload_n 0, 1) := by decide +kernel
theorem dX10_stands_39 : decode prog_1_method_40_code 39 = .ok (.iconst 2, 1) := by decide +kernel
theorem dX10_stands_40 : decode prog_1_method_40_code 40 = .ok (.invokevirtual 68, 3) := by decide +kernel
theorem dX10_stands_43 : decode prog_1_method_40_code 43 = .ok (.i2l, 1) := by decide +kernel
theorem dX10_stands_44 : decode prog_1_method_40_code 44 = .ok (.lreturn, 1) := by decide +kernel
theorem dX10_stands_45 : decode prog_1_method_40_code 45 = .ok (.lconst 1, 1) := by decide +kernel
theorem dX10_stands_46 : decode prog_1_method_40_code 46 = .ok (.lstore_n 3, 1) := by decide +kernel
theorem dX10_stands_47 : decode prog_1_method_40_code 47 = .ok (.lconst 1, 1) := by decide +kernel
theorem dX10_stands_48 : decode prog_1_method_40_code 48 = .ok (.lstore 5, 2) := by decide +kernel
theorem dX10_stands_50 : decode prog_1_method_40_code 50 = .ok (.iconst 0, 1) := by decide +kernel
theorem dX10_stands_51 : decode prog_1_method_40_code 51 = .ok (.istore 7, 2) := by decide +kernel
theorem dX10_stands_53 : decode prog_1_method_40_code 53 = .ok (.iload 7, 2) := by decide +kernel
theorem dX10_stands_55 : decode prog_1_method_40_code 55 = .ok (.iload_n 1, 1) := by decide +kernel
theorem dX10_stands_56 : decode prog_1_method_40_code 56 = .ok (.if_icmp .ge 59, 3) := by decide +kernel
theorem dX10_stands_59 : decode prog_1_method_40_code 59 = .ok (.aload_n 0, 1) := by decide +kernel
theorem dX10_stands_60 : decode prog_1_method_40_code 60 = .ok (.getfield 35, 3) := by decide +kernel
theorem dX10_stands_63 : decode prog_1_method_40_code 63 = .ok (.getfield 138, 3) := by decide +kernel
theorem dX10_stands_66 : decode prog_1_method_40_code 66 = .ok (.getfield 141, 3) := by decide +kernel
theorem dX10_stands_69 : decode prog_1_method_40_code 69 = .ok (.iload 7, 2) := by decide +kernel
theorem dX10_stands_71 : decode prog_1_method_40_code 71 = .ok (.iaload, 1) := by decide +kernel
theorem dX10_stands_72 : decode prog_1_method_40_code 72 = .ok (.istore 8, 2) := by decide +kernel
theorem dX10_stands_74 : decode prog_1_method_40_code 74 = .ok (.iload 8, 2) := by decide +kernel
theorem dX10_stands_76 : decode prog_1_method_40_code 76 = .ok (.ifCond .lt 33, 3) := by decide +kernel
theorem dX10_stands_79 : decode prog_1_method_40_code 79 = .ok (.lload_n 3, 1) := by decide +kernel
theorem dX10_stands_80 : decode prog_1_method_40_code 80 = .ok (.bipush 100, 2) := by decide +kernel
theorem dX10_stands_82 : decode prog_1_method_40_code 82 = .ok (.aload_n 0, 1) := by decide +kernel
theorem dX10_stands_83 : decode prog_1_method_40_code 83 = .ok (.getfield 19, 3) := by decide +kernel
theorem dX10_stands_86 : decode prog_1_method_40_code 86 = .ok (.getfield 76, 3) := by decide +kernel
theorem dX10_stands_89 : decode prog_1_method_40_code 89 = .ok (.getfield 112, 3) := by decide +kernel
theorem dX10_stands_92 : decode prog_1_method_40_code 92 = .ok (.iload 8, 2) := by decide +kernel
theorem dX10_stands_94 : decode prog_1_method_40_code 94 = .ok (.aaload, 1) := by decide +kernel
theorem dX10_stands_95 : decode prog_1_method_40_code 95 = .ok (.iconst 5, 1) := by decide +kernel
theorem dX10_stands_96 : decode prog_1_method_40_code 96 = .ok (.iaload, 1) := by decide +kernel
theorem dX10_stands_97 : decode prog_1_method_40_code 97 = .ok (.isub, 1) := by decide +kernel
theorem dX10_stands_98 : decode prog_1_method_40_code 98 = .ok (.i2l, 1) := by decide +kernel
theorem dX10_stands_99 : decode prog_1_method_40_code 99 = .ok (.lmul, 1) := by decide +kernel
theorem dX10_stands_100 : decode prog_1_method_40_code 100 = .ok (.lstore_n 3, 1) := by decide +kernel
theorem dX10_stands_101 : decode prog_1_method_40_code 101 = .ok (.lload 5, 2) := by decide +kernel
theorem dX10_stands_103 : decode prog_1_method_40_code 103 = .ok (.ldc2_w 259, 3) := by decide +kernel
theorem dX10_stands_106 : decode prog_1_method_40_code 106 = .ok (.lmul, 1) := by decide +kernel
theorem dX10_stands_107 : decode prog_1_method_40_code 107 = .ok (.lstore 5, 2) := by decide +kernel
theorem dX10_stands_109 : decode prog_1_method_40_code 109 = .ok (.iinc 7 1, 3) := by decide +kernel
theorem dX10_stands_112 : decode prog_1_method_40_code 112 = .ok (.goto (-59), 3) := by decide +kernel
theorem dX10_stands_115 : decode prog_1_method_40_code 115 = .ok (.aload_n 0, 1) := by decide +kernel
theorem dX10_stands_116 : decode prog_1_method_40_code 116 = .ok (.iconst 0, 1) := by decide +kernel
theorem dX10_stands_117 : decode prog_1_method_40_code 117 = .ok (.putfield 57, 3) := by decide +kernel
theorem dX10_stands_120 : decode prog_1_method_40_code 120 = .ok (.lload_n 3, 1) := by decide +kernel
theorem dX10_stands_121 : decode prog_1_method_40_code 121 = .ok (.lload 5, 2) := by decide +kernel
theorem dX10_stands_123 : decode prog_1_method_40_code 123 = .ok (.invokestatic 261, 3) := by decide +kernel
theorem dX10_stands_126 : decode prog_1_method_40_code 126 = .ok (.lstore 7, 2) := by decide +kernel
theorem dX10_stands_128 : decode prog_1_method_40_code 128 = .ok (.lload 7, 2) := by decide +kernel
theorem dX10_stands_130 : decode prog_1_method_40_code 130 = .ok (.lconst 0, 1) := by decide +kernel
theorem dX10_stands_131 : decode prog_1_method_40_code 131 = .ok (.lcmp, 1) := by decide +kernel
theorem dX10_stands_132 : decode prog_1_method_40_code 132 = .ok (.ifCond .ne 5, 3) := by decide +kernel
theorem dX10_stands_135 : decode prog_1_method_40_code 135 = .ok (.lconst 0, 1) := by decide +kernel
theorem dX10_stands_136 : decode prog_1_method_40_code 136 = .ok (.lreturn, 1) := by decide +kernel
theorem dX10_stands_137 : decode prog_1_method_40_code 137 = .ok (.iload_n 2, 1) := by decide +kernel
theorem dX10_stands_138 : decode prog_1_method_40_code 138 = .ok (.ifCond .eq 11, 3) := by decide +kernel
theorem dX10_stands_141 : decode prog_1_method_40_code 141 = .ok (.lload 5, 2) := by decide +kernel
theorem dX10_stands_143 : decode prog_1_method_40_code 143 = .ok (.lload 7, 2) := by decide +kernel
theorem dX10_stands_145 : decode prog_1_method_40_code 145 = .ok (.ldiv, 1) := by decide +kernel
theorem dX10_stands_146 : decode prog_1_method_40_code 146 = .ok (.goto 7, 3) := by decide +kernel
theorem dX10_stands_149 : decode prog_1_method_40_code 149 = .ok (.lload_n 3, 1) := by decide +kernel
theorem dX10_stands_150 : decode prog_1_method_40_code 150 = .ok (.lload 7, 2) := by decide +kernel
theorem dX10_stands_152 : decode prog_1_method_40_code 152 = .ok (.ldiv, 1) := by decide +kernel
theorem dX10_stands_153 : decode prog_1_method_40_code 153 = .ok (.lreturn, 1) := by decide +kernel
theorem dX10_mean_0 : decode prog_1_method_41_code 0 = .ok (.aload_n 0, 1) := by decide +kernel
theorem dX10_mean_1 : decode prog_1_method_41_code 1 = .ok (.iload_n 1, 1) := by decide +kernel
theorem dX10_mean_2 : decode prog_1_method_41_code 2 = .ok (.invokevirtual 109, 3) := by decide +kernel
theorem dX10_mean_5 : decode prog_1_method_41_code 5 = .ok (.ifCond .eq 9, 3) := by decide +kernel
theorem dX10_mean_8 : decode prog_1_method_41_code 8 = .ok (.aload_n 0, 1) := by decide +kernel
theorem dX10_mean_9 : decode prog_1_method_41_code 9 = .ok (.iconst 1, 1) := by decide +kernel
theorem dX10_mean_10 : decode prog_1_method_41_code 10 = .ok (.invokevirtual 68, 3) := by decide +kernel
theorem dX10_mean_13 : decode prog_1_method_41_code 13 = .ok (.ireturn, 1) := by decide +kernel
theorem dX10_mean_14 : decode prog_1_method_41_code 14 = .ok (.iload_n 2, 1) := by decide +kernel
theorem dX10_mean_15 : decode prog_1_method_41_code 15 = .ok (.invokestatic 265, 3) := by decide +kernel
theorem dX10_mean_18 : decode prog_1_method_41_code 18 = .ok (.ifCond .ne 14, 3) := by decide +kernel
theorem dX10_mean_21 : decode prog_1_method_41_code 21 = .ok (.iload_n 3, 1) := by decide +kernel
theorem dX10_mean_22 : decode prog_1_method_41_code 22 = .ok (.iconst 1, 1) := by decide +kernel
theorem dX10_mean_23 : decode prog_1_method_41_code 23 = .ok (.if_icmp .lt 9, 3) := by decide +kernel
theorem dX10_mean_26 : decode prog_1_method_41_code 26 = .ok (.iload_n 3, 1) := by decide +kernel
theorem dX10_mean_27 : decode prog_1_method_41_code 27 = .ok (.bipush 50, 2) := by decide +kernel
theorem dX10_mean_29 : decode prog_1_method_41_code 29 = .ok (.if_icmp .le 9, 3) := by decide +kernel
theorem dX10_mean_32 : decode prog_1_method_41_code 32 = .ok (.aload_n 0, 1) := by decide +kernel
theorem dX10_mean_33 : decode prog_1_method_41_code 33 = .ok (.iconst 2, 1) := by decide +kernel
theorem dX10_mean_34 : decode prog_1_method_41_code 34 = .ok (.invokevirtual 68, 3) := by decide +kernel
theorem dX10_mean_37 : decode prog_1_method_41_code 37 = .ok (.ireturn, 1) := by decide +kernel
theorem dX10_mean_38 : decode prog_1_method_41_code 38 = .ok (.iconst 0, 1) := by decide +kernel
theorem dX10_mean_39 : decode prog_1_method_41_code 39 = .ok (.istore 4, 2) := by decide +kernel
theorem dX10_mean_41 : decode prog_1_method_41_code 41 = .ok (.iconst 0, 1) := by decide +kernel
theorem dX10_mean_42 : decode prog_1_method_41_code 42 = .ok (.istore 5, 2) := by decide +kernel
theorem dX10_mean_44 : decode prog_1_method_41_code 44 = .ok (.iload 5, 2) := by decide +kernel
theorem dX10_mean_46 : decode prog_1_method_41_code 46 = .ok (.iload_n 3, 1) := by decide +kernel
theorem dX10_mean_47 : decode prog_1_method_41_code 47 = .ok (.if_icmp .ge 46, 3) := by decide +kernel
theorem dX10_mean_50 : decode prog_1_method_41_code 50 = .ok (.aload_n 0, 1) := by decide +kernel
theorem dX10_mean_51 : decode prog_1_method_41_code 51 = .ok (.getfield 42, 3) := by decide +kernel
theorem dX10_mean_54 : decode prog_1_method_41_code 54 = .ok (.iconst 3, 1) := by decide +kernel
theorem dX10_mean_55 : decode prog_1_method_41_code 55 = .ok (.iload_n 2, 1) := by decide +kernel
theorem dX10_mean_56 : decode prog_1_method_41_code 56 = .ok (.iload 5, 2) := by decide +kernel
theorem dX10_mean_58 : decode prog_1_method_41_code 58 = .ok (.iadd, 1) := by decide +kernel
theorem dX10_mean_59 : decode prog_1_method_41_code 59 = .ok (.ldc_w 268, 3) := by decide +kernel
theorem dX10_mean_62 : decode prog_1_method_41_code 62 = .ok (.irem, 1) := by decide +kernel
theorem dX10_mean_63 : decode prog_1_method_41_code 63 = .ok (.invokevirtual 269, 3) := by decide +kernel
theorem dX10_mean_66 : decode prog_1_method_41_code 66 = .ok (.aload_n 0, 1) := by decide +kernel
theorem dX10_mean_67 : decode prog_1_method_41_code 67 = .ok (.getfield 42, 3) := by decide +kernel
theorem dX10_mean_70 : decode prog_1_method_41_code 70 = .ok (.invokevirtual 273, 3) := by decide +kernel
theorem dX10_mean_73 : decode prog_1_method_41_code 73 = .ok (.iload 4, 2) := by decide +kernel
theorem dX10_mean_75 : decode prog_1_method_41_code 75 = .ok (.aload_n 0, 1) := by decide +kernel
theorem dX10_mean_76 : decode prog_1_method_41_code 76 = .ok (.getfield 42, 3) := by decide +kernel
theorem dX10_mean_79 : decode prog_1_method_41_code 79 = .ok (.getfield 276, 3) := by decide +kernel
theorem dX10_mean_82 : decode prog_1_method_41_code 82 = .ok (.iload_n 1, 1) := by decide +kernel
theorem dX10_mean_83 : decode prog_1_method_41_code 83 = .ok (.iaload, 1) := by decide +kernel
theorem dX10_mean_84 : decode prog_1_method_41_code 84 = .ok (.iadd, 1) := by decide +kernel
theorem dX10_mean_85 : decode prog_1_method_41_code 85 = .ok (.istore 4, 2) := by decide +kernel
theorem dX10_mean_87 : decode prog_1_method_41_code 87 = .ok (.iinc 5 1, 3) := by decide +kernel
theorem dX10_mean_90 : decode prog_1_method_41_code 90 = .ok (.goto (-46), 3) := by decide +kernel
theorem dX10_mean_93 : decode prog_1_method_41_code 93 = .ok (.aload_n 0, 1) := by decide +kernel
theorem dX10_mean_94 : decode prog_1_method_41_code 94 = .ok (.iload 4, 2) := by decide +kernel
theorem dX10_mean_96 : decode prog_1_method_41_code 96 = .ok (.invokevirtual 116, 3) := by decide +kernel
theorem dX10_mean_99 : decode prog_1_method_41_code 99 = .ok (.ireturn, 1) := by decide +kernel
