theorem d_Pt_init_33 : decode m_Pt_init.2.2.1 33 = .ok (.putfield 21, 3) := by decide +kernel
theorem d_Pt_init_36 : decode m_Pt_init.2.2.1 36 = .ok (.aload_n 0, 1) := by decide +kernel
theorem d_Pt_init_37 : decode m_Pt_init.2.2.1 37 = .ok (.bipush (32), 2) := by decide +kernel
theorem d_Pt_init_39 : decode m_Pt_init.2.2.1 39 = .ok (.newarray .int, 2) := by decide +kernel
theorem d_Pt_init_41 : decode m_Pt_init.2.2.1 41 = .ok (.putfield 24, 3) := by decide +kernel
theorem d_Pt_init_44 : decode m_Pt_init.2.2.1 44 = .ok (.bipush (11), 2) := by decide +kernel
theorem d_Pt_init_46 : decode m_Pt_init.2.2.1 46 = .ok (.sipush (384), 3) := by decide +kernel
theorem d_Pt_init_49 : decode m_Pt_init.2.2.1 49 = .ok (.invokestatic 27, 3) := by decide +kernel
theorem d_Pt_init_52 : decode m_Pt_init.2.2.1 52 = .ok (.istore_n 1, 1) := by decide +kernel
theorem d_Pt_init_53 : decode m_Pt_init.2.2.1 53 = .ok (.aload_n 0, 1) := by decide +kernel
theorem d_Pt_init_54 : decode m_Pt_init.2.2.1 54 = .ok (.getfield 9, 3) := by decide +kernel
theorem d_Pt_init_57 : decode m_Pt_init.2.2.1 57 = .ok (.iconst 0, 1) := by decide +kernel
theorem d_Pt_init_58 : decode m_Pt_init.2.2.1 58 = .ok (.iconst 1, 1) := by decide +kernel
theorem d_Pt_init_59 : decode m_Pt_init.2.2.1 59 = .ok (.iastore, 1) := by decide +kernel
theorem d_Pt_init_60 : decode m_Pt_init.2.2.1 60 = .ok (.iconst 1, 1) := by decide +kernel
theorem d_Pt_init_61 : decode m_Pt_init.2.2.1 61 = .ok (.istore_n 2, 1) := by decide +kernel
theorem d_Pt_init_62 : decode m_Pt_init.2.2.1 62 = .ok (.iload_n 2, 1) := by decide +kernel
theorem d_Pt_init_63 : decode m_Pt_init.2.2.1 63 = .ok (.bipush (32), 2) := by decide +kernel
theorem d_Pt_init_65 : decode m_Pt_init.2.2.1 65 = .ok (.if_icmp .ge (27), 3) := by decide +kernel
theorem d_Pt_init_68 : decode m_Pt_init.2.2.1 68 = .ok (.aload_n 0, 1) := by decide +kernel
theorem d_Pt_init_69 : decode m_Pt_init.2.2.1 69 = .ok (.getfield 9, 3) := by decide +kernel
theorem d_Pt_init_72 : decode m_Pt_init.2.2.1 72 = .ok (.iload_n 2, 1) := by decide +kernel
theorem d_Pt_init_73 : decode m_Pt_init.2.2.1 73 = .ok (.aload_n 0, 1) := by decide +kernel
theorem d_Pt_init_74 : decode m_Pt_init.2.2.1 74 = .ok (.getfield 9, 3) := by decide +kernel
theorem d_Pt_init_77 : decode m_Pt_init.2.2.1 77 = .ok (.iload_n 2, 1) := by decide +kernel
theorem d_Pt_init_78 : decode m_Pt_init.2.2.1 78 = .ok (.iconst 1, 1) := by decide +kernel
theorem d_Pt_init_79 : decode m_Pt_init.2.2.1 79 = .ok (.isub, 1) := by decide +kernel
theorem d_Pt_init_80 : decode m_Pt_init.2.2.1 80 = .ok (.iaload, 1) := by decide +kernel
theorem d_Pt_init_81 : decode m_Pt_init.2.2.1 81 = .ok (.iload_n 1, 1) := by decide +kernel
theorem d_Pt_init_82 : decode m_Pt_init.2.2.1 82 = .ok (.invokestatic 33, 3) := by decide +kernel
theorem d_Pt_init_85 : decode m_Pt_init.2.2.1 85 = .ok (.iastore, 1) := by decide +kernel
theorem d_Pt_init_86 : decode m_Pt_init.2.2.1 86 = .ok (.iinc 2 (1), 3) := by decide +kernel
theorem d_Pt_init_89 : decode m_Pt_init.2.2.1 89 = .ok (.goto (-27), 3) := by decide +kernel
theorem d_Pt_init_92 : decode m_Pt_init.2.2.1 92 = .ok (.bipush (8), 2) := by decide +kernel
theorem d_Pt_init_94 : decode m_Pt_init.2.2.1 94 = .ok (.invokestatic 36, 3) := by decide +kernel
theorem d_Pt_init_97 : decode m_Pt_init.2.2.1 97 = .ok (.istore_n 2, 1) := by decide +kernel
theorem d_Pt_init_98 : decode m_Pt_init.2.2.1 98 = .ok (.iconst 0, 1) := by decide +kernel
theorem d_Pt_init_99 : decode m_Pt_init.2.2.1 99 = .ok (.istore_n 3, 1) := by decide +kernel
theorem d_Pt_init_100 : decode m_Pt_init.2.2.1 100 = .ok (.iload_n 3, 1) := by decide +kernel
theorem d_Pt_init_101 : decode m_Pt_init.2.2.1 101 = .ok (.bipush (32), 2) := by decide +kernel
theorem d_Pt_init_103 : decode m_Pt_init.2.2.1 103 = .ok (.if_icmp .ge (102), 3) := by decide +kernel
theorem d_Pt_init_106 : decode m_Pt_init.2.2.1 106 = .ok (.bipush (11), 2) := by decide +kernel
theorem d_Pt_init_108 : decode m_Pt_init.2.2.1 108 = .ok (.aload_n 0, 1) := by decide +kernel
theorem d_Pt_init_109 : decode m_Pt_init.2.2.1 109 = .ok (.getfield 9, 3) := by decide +kernel
theorem d_Pt_init_112 : decode m_Pt_init.2.2.1 112 = .ok (.iload_n 3, 1) := by decide +kernel
theorem d_Pt_init_113 : decode m_Pt_init.2.2.1 113 = .ok (.iaload, 1) := by decide +kernel
theorem d_Pt_init_114 : decode m_Pt_init.2.2.1 114 = .ok (.invokestatic 33, 3) := by decide +kernel
theorem d_Pt_init_117 : decode m_Pt_init.2.2.1 117 = .ok (.istore 4, 2) := by decide +kernel
theorem d_Pt_init_119 : decode m_Pt_init.2.2.1 119 = .ok (.iload 4, 2) := by decide +kernel
theorem d_Pt_init_121 : decode m_Pt_init.2.2.1 121 = .ok (.bipush (8), 2) := by decide +kernel
theorem d_Pt_init_123 : decode m_Pt_init.2.2.1 123 = .ok (.invokestatic 27, 3) := by decide +kernel
theorem d_Pt_init_126 : decode m_Pt_init.2.2.1 126 = .ok (.iconst 1, 1) := by decide +kernel
theorem d_Pt_init_127 : decode m_Pt_init.2.2.1 127 = .ok (.invokestatic 40, 3) := by decide +kernel
theorem d_Pt_init_130 : decode m_Pt_init.2.2.1 130 = .ok (.istore 5, 2) := by decide +kernel
theorem d_Pt_init_132 : decode m_Pt_init.2.2.1 132 = .ok (.iload 4, 2) := by decide +kernel
theorem d_Pt_init_134 : decode m_Pt_init.2.2.1 134 = .ok (.aload_n 0, 1) := by decide +kernel
theorem d_Pt_init_135 : decode m_Pt_init.2.2.1 135 = .ok (.bipush (7), 2) := by decide +kernel
theorem d_Pt_init_137 : decode m_Pt_init.2.2.1 137 = .ok (.invokevirtual 43, 3) := by decide +kernel
theorem d_Pt_init_140 : decode m_Pt_init.2.2.1 140 = .ok (.invokestatic 40, 3) := by decide +kernel
theorem d_Pt_init_143 : decode m_Pt_init.2.2.1 143 = .ok (.istore 6, 2) := by decide +kernel
theorem d_Pt_init_145 : decode m_Pt_init.2.2.1 145 = .ok (.aload_n 0, 1) := by decide +kernel
theorem d_Pt_init_146 : decode m_Pt_init.2.2.1 146 = .ok (.getfield 15, 3) := by decide +kernel
theorem d_Pt_init_149 : decode m_Pt_init.2.2.1 149 = .ok (.iload_n 3, 1) := by decide +kernel
theorem d_Pt_init_150 : decode m_Pt_init.2.2.1 150 = .ok (.iload 4, 2) := by decide +kernel
theorem d_Pt_init_152 : decode m_Pt_init.2.2.1 152 = .ok (.invokestatic 36, 3) := by decide +kernel
theorem d_Pt_init_155 : decode m_Pt_init.2.2.1 155 = .ok (.iastore, 1) := by decide +kernel
theorem d_Pt_init_156 : decode m_Pt_init.2.2.1 156 = .ok (.aload_n 0, 1) := by decide +kernel
theorem d_Pt_init_157 : decode m_Pt_init.2.2.1 157 = .ok (.getfield 18, 3) := by decide +kernel
theorem d_Pt_init_160 : decode m_Pt_init.2.2.1 160 = .ok (.iload_n 3, 1) := by decide +kernel
theorem d_Pt_init_161 : decode m_Pt_init.2.2.1 161 = .ok (.iload 4, 2) := by decide +kernel
theorem d_Pt_init_163 : decode m_Pt_init.2.2.1 163 = .ok (.iconst 1, 1) := by decide +kernel
theorem d_Pt_init_164 : decode m_Pt_init.2.2.1 164 = .ok (.invokestatic 40, 3) := by decide +kernel
theorem d_Pt_init_167 : decode m_Pt_init.2.2.1 167 = .ok (.invokestatic 36, 3) := by decide +kernel
theorem d_Pt_init_170 : decode m_Pt_init.2.2.1 170 = .ok (.iastore, 1) := by decide +kernel
theorem d_Pt_init_171 : decode m_Pt_init.2.2.1 171 = .ok (.aload_n 0, 1) := by decide +kernel
theorem d_Pt_init_172 : decode m_Pt_init.2.2.1 172 = .ok (.getfield 21, 3) := by decide +kernel
theorem d_Pt_init_175 : decode m_Pt_init.2.2.1 175 = .ok (.iload_n 3, 1) := by decide +kernel
theorem d_Pt_init_176 : decode m_Pt_init.2.2.1 176 = .ok (.iload 6, 2) := by decide +kernel
theorem d_Pt_init_178 : decode m_Pt_init.2.2.1 178 = .ok (.iload 5, 2) := by decide +kernel
theorem d_Pt_init_180 : decode m_Pt_init.2.2.1 180 = .ok (.invokestatic 36, 3) := by decide +kernel
theorem d_Pt_init_183 : decode m_Pt_init.2.2.1 183 = .ok (.invokestatic 33, 3) := by decide +kernel
theorem d_Pt_init_186 : decode m_Pt_init.2.2.1 186 = .ok (.iastore, 1) := by decide +kernel
theorem d_Pt_init_187 : decode m_Pt_init.2.2.1 187 = .ok (.aload_n 0, 1) := by decide +kernel
theorem d_Pt_init_188 : decode m_Pt_init.2.2.1 188 = .ok (.getfield 24, 3) := by decide +kernel
theorem d_Pt_init_191 : decode m_Pt_init.2.2.1 191 = .ok (.iload_n 3, 1) := by decide +kernel
theorem d_Pt_init_192 : decode m_Pt_init.2.2.1 192 = .ok (.iload 5, 2) := by decide +kernel
theorem d_Pt_init_194 : decode m_Pt_init.2.2.1 194 = .ok (.iload_n 2, 1) := by decide +kernel
theorem d_Pt_init_195 : decode m_Pt_init.2.2.1 195 = .ok (.invokestatic 33, 3) := by decide +kernel
theorem d_Pt_init_198 : decode m_Pt_init.2.2.1 198 = .ok (.iastore, 1) := by decide +kernel
theorem d_Pt_init_199 : decode m_Pt_init.2.2.1 199 = .ok (.iinc 3 (1), 3) := by decide +kernel
theorem d_Pt_init_202 : decode m_Pt_init.2.2.1 202 = .ok (.goto (-102), 3) := by decide +kernel
theorem d_Pt_init_205 : decode m_Pt_init.2.2.1 205 = .ok (.return_, 1) := by decide +kernel
theorem d_Pt_rowPoint_0 : decode m_Pt_rowPoint.2.2.1 0 = .ok (.aload_n 0, 1) := by decide +kernel
theorem d_Pt_rowPoint_1 : decode m_Pt_rowPoint.2.2.1 1 = .ok (.getfield 9, 3) := by decide +kernel
theorem d_Pt_rowPoint_4 : decode m_Pt_rowPoint.2.2.1 4 = .ok (.iconst 4, 1) := by decide +kernel
theorem d_Pt_rowPoint_5 : decode m_Pt_rowPoint.2.2.1 5 = .ok (.iload_n 1, 1) := by decide +kernel
theorem d_Pt_rowPoint_6 : decode m_Pt_rowPoint.2.2.1 6 = .ok (.imul, 1) := by decide +kernel
theorem d_Pt_rowPoint_7 : decode m_Pt_rowPoint.2.2.1 7 = .ok (.iaload, 1) := by decide +kernel
theorem d_Pt_rowPoint_8 : decode m_Pt_rowPoint.2.2.1 8 = .ok (.ireturn, 1) := by decide +kernel
theorem d_Pt_constraintFactor_0 : decode m_Pt_constraintFactor.2.2.1 0 = .ok (.aload_n 0, 1) := by decide +kernel
theorem d_Pt_constraintFactor_1 : decode m_Pt_constraintFactor.2.2.1 1 = .ok (.getfield 21, 3) := by decide +kernel
theorem d_Pt_constraintFactor_4 : decode m_Pt_constraintFactor.2.2.1 4 = .ok (.iload_n 1, 1) := by decide +kernel
theorem d_Pt_constraintFactor_5 : decode m_Pt_constraintFactor.2.2.1 5 = .ok (.iaload, 1) := by decide +kernel
theorem d_Pt_constraintFactor_6 : decode m_Pt_constraintFactor.2.2.1 6 = .ok (.ireturn, 1) := by decide +kernel
theorem d_Pt_boundFactor_0 : decode m_Pt_boundFactor.2.2.1 0 = .ok (.aload_n 0, 1) := by decide +kernel
theorem d_Pt_boundFactor_1 : decode m_Pt_boundFactor.2.2.1 1 = .ok (.bipush (8), 2) := by decide +kernel
theorem d_Pt_boundFactor_3 : decode m_Pt_boundFactor.2.2.1 3 = .ok (.iload_n 2, 1) := by decide +kernel
theorem d_Pt_boundFactor_4 : decode m_Pt_boundFactor.2.2.1 4 = .ok (.isub, 1) := by decide +kernel
theorem d_Pt_boundFactor_5 : decode m_Pt_boundFactor.2.2.1 5 = .ok (.bipush (8), 2) := by decide +kernel
theorem d_Pt_boundFactor_7 : decode m_Pt_boundFactor.2.2.1 7 = .ok (.irem, 1) := by decide +kernel
theorem d_Pt_boundFactor_8 : decode m_Pt_boundFactor.2.2.1 8 = .ok (.invokevirtual 43, 3) := by decide +kernel
theorem d_Pt_boundFactor_11 : decode m_Pt_boundFactor.2.2.1 11 = .ok (.istore_n 3, 1) := by decide +kernel
theorem d_Pt_boundFactor_12 : decode m_Pt_boundFactor.2.2.1 12 = .ok (.iload_n 3, 1) := by decide +kernel
theorem d_Pt_boundFactor_13 : decode m_Pt_boundFactor.2.2.1 13 = .ok (.aload_n 0, 1) := by decide +kernel
theorem d_Pt_boundFactor_14 : decode m_Pt_boundFactor.2.2.1 14 = .ok (.getfield 18, 3) := by decide +kernel
theorem d_Pt_boundFactor_17 : decode m_Pt_boundFactor.2.2.1 17 = .ok (.iload_n 1, 1) := by decide +kernel
theorem d_Pt_boundFactor_18 : decode m_Pt_boundFactor.2.2.1 18 = .ok (.iload_n 2, 1) := by decide +kernel
theorem d_Pt_boundFactor_19 : decode m_Pt_boundFactor.2.2.1 19 = .ok (.invokestatic 46, 3) := by decide +kernel
theorem d_Pt_boundFactor_22 : decode m_Pt_boundFactor.2.2.1 22 = .ok (.iaload, 1) := by decide +kernel
theorem d_Pt_boundFactor_23 : decode m_Pt_boundFactor.2.2.1 23 = .ok (.invokestatic 33, 3) := by decide +kernel
theorem d_Pt_boundFactor_26 : decode m_Pt_boundFactor.2.2.1 26 = .ok (.ireturn, 1) := by decide +kernel
theorem d_Pt_interpolate_0 : decode m_Pt_interpolate.2.2.1 0 = .ok (.iconst 0, 1) := by decide +kernel
theorem d_Pt_interpolate_1 : decode m_Pt_interpolate.2.2.1 1 = .ok (.istore_n 3, 1) := by decide +kernel
theorem d_Pt_interpolate_2 : decode m_Pt_interpolate.2.2.1 2 = .ok (.iconst 0, 1) := by decide +kernel
theorem d_Pt_interpolate_3 : decode m_Pt_interpolate.2.2.1 3 = .ok (.istore 4, 2) := by decide +kernel
theorem d_Pt_interpolate_5 : decode m_Pt_interpolate.2.2.1 5 = .ok (.iload 4, 2) := by decide +kernel
theorem d_Pt_interpolate_7 : decode m_Pt_interpolate.2.2.1 7 = .ok (.bipush (8), 2) := by decide +kernel
theorem d_Pt_interpolate_9 : decode m_Pt_interpolate.2.2.1 9 = .ok (.if_icmp .ge (32), 3) := by decide +kernel
theorem d_Pt_interpolate_12 : decode m_Pt_interpolate.2.2.1 12 = .ok (.iload_n 3, 1) := by decide +kernel
theorem d_Pt_interpolate_13 : decode m_Pt_interpolate.2.2.1 13 = .ok (.aload_n 1, 1) := by decide +kernel
theorem d_Pt_interpolate_14 : decode m_Pt_interpolate.2.2.1 14 = .ok (.iload 4, 2) := by decide +kernel
theorem d_Pt_interpolate_16 : decode m_Pt_interpolate.2.2.1 16 = .ok (.iaload, 1) := by decide +kernel
theorem d_Pt_interpolate_17 : decode m_Pt_interpolate.2.2.1 17 = .ok (.aload_n 0, 1) := by decide +kernel
theorem d_Pt_interpolate_18 : decode m_Pt_interpolate.2.2.1 18 = .ok (.getfield 18, 3) := by decide +kernel
theorem d_Pt_interpolate_21 : decode m_Pt_interpolate.2.2.1 21 = .ok (.iload_n 2, 1) := by decide +kernel
theorem d_Pt_interpolate_22 : decode m_Pt_interpolate.2.2.1 22 = .ok (.iload 4, 2) := by decide +kernel
theorem d_Pt_interpolate_24 : decode m_Pt_interpolate.2.2.1 24 = .ok (.invokestatic 46, 3) := by decide +kernel
theorem d_Pt_interpolate_27 : decode m_Pt_interpolate.2.2.1 27 = .ok (.iaload, 1) := by decide +kernel
theorem d_Pt_interpolate_28 : decode m_Pt_interpolate.2.2.1 28 = .ok (.invokestatic 33, 3) := by decide +kernel
theorem d_Pt_interpolate_31 : decode m_Pt_interpolate.2.2.1 31 = .ok (.invokestatic 49, 3) := by decide +kernel
theorem d_Pt_interpolate_34 : decode m_Pt_interpolate.2.2.1 34 = .ok (.istore_n 3, 1) := by decide +kernel
theorem d_Pt_interpolate_35 : decode m_Pt_interpolate.2.2.1 35 = .ok (.iinc 4 (1), 3) := by decide +kernel
theorem d_Pt_interpolate_38 : decode m_Pt_interpolate.2.2.1 38 = .ok (.goto (-33), 3) := by decide +kernel
theorem d_Pt_interpolate_41 : decode m_Pt_interpolate.2.2.1 41 = .ok (.iload_n 3, 1) := by decide +kernel
theorem d_Pt_interpolate_42 : decode m_Pt_interpolate.2.2.1 42 = .ok (.aload_n 0, 1) := by decide +kernel
theorem d_Pt_interpolate_43 : decode m_Pt_interpolate.2.2.1 43 = .ok (.getfield 24, 3) := by decide +kernel
theorem d_Pt_interpolate_46 : decode m_Pt_interpolate.2.2.1 46 = .ok (.iload_n 2, 1) := by decide +kernel
theorem d_Pt_interpolate_47 : decode m_Pt_interpolate.2.2.1 47 = .ok (.iaload, 1) := by decide +kernel
theorem d_Pt_interpolate_48 : decode m_Pt_interpolate.2.2.1 48 = .ok (.invokestatic 33, 3) := by decide +kernel
theorem d_Pt_interpolate_51 : decode m_Pt_interpolate.2.2.1 51 = .ok (.ireturn, 1) := by decide +kernel
theorem d_Pt_rowsBefore_0 : decode m_Pt_rowsBefore.2.2.1 0 = .ok (.iload_n 0, 1) := by decide +kernel
theorem d_Pt_rowsBefore_1 : decode m_Pt_rowsBefore.2.2.1 1 = .ok (.bipush (32), 2) := by decide +kernel
theorem d_Pt_rowsBefore_3 : decode m_Pt_rowsBefore.2.2.1 3 = .ok (.iadd, 1) := by decide +kernel
theorem d_Pt_rowsBefore_4 : decode m_Pt_rowsBefore.2.2.1 4 = .ok (.iconst 4, 1) := by decide +kernel
theorem d_Pt_rowsBefore_5 : decode m_Pt_rowsBefore.2.2.1 5 = .ok (.iload_n 1, 1) := by decide +kernel
theorem d_Pt_rowsBefore_6 : decode m_Pt_rowsBefore.2.2.1 6 = .ok (.imul, 1) := by decide +kernel
theorem d_Pt_rowsBefore_7 : decode m_Pt_rowsBefore.2.2.1 7 = .ok (.isub, 1) := by decide +kernel
theorem d_Pt_rowsBefore_8 : decode m_Pt_rowsBefore.2.2.1 8 = .ok (.bipush (32), 2) := by decide +kernel
theorem d_Pt_rowsBefore_10 : decode m_Pt_rowsBefore.2.2.1 10 = .ok (.irem, 1) := by decide +kernel
theorem d_Pt_rowsBefore_11 : decode m_Pt_rowsBefore.2.2.1 11 = .ok (.ireturn, 1) := by decide +kernel
theorem d_Pt_rowBehind_0 : decode m_Pt_rowBehind.2.2.1 0 = .ok (.iload_n 0, 1) := by decide +kernel
theorem d_Pt_rowBehind_1 : decode m_Pt_rowBehind.2.2.1 1 = .ok (.iconst 4, 1) := by decide +kernel
theorem d_Pt_rowBehind_2 : decode m_Pt_rowBehind.2.2.1 2 = .ok (.iadd, 1) := by decide +kernel
theorem d_Pt_rowBehind_3 : decode m_Pt_rowBehind.2.2.1 3 = .ok (.bipush (32), 2) := by decide +kernel
theorem d_Pt_rowBehind_5 : decode m_Pt_rowBehind.2.2.1 5 = .ok (.irem, 1) := by decide +kernel
theorem d_Pt_rowBehind_6 : decode m_Pt_rowBehind.2.2.1 6 = .ok (.ireturn, 1) := by decide +kernel
theorem d_Pt_fold_0 : decode m_Pt_fold.2.2.1 0 = .ok (.aload_n 0, 1) := by decide +kernel
theorem d_Pt_fold_1 : decode m_Pt_fold.2.2.1 1 = .ok (.getfield 15, 3) := by decide +kernel
theorem d_Pt_fold_4 : decode m_Pt_fold.2.2.1 4 = .ok (.iload_n 2, 1) := by decide +kernel
theorem d_Pt_fold_5 : decode m_Pt_fold.2.2.1 5 = .ok (.iaload, 1) := by decide +kernel
theorem d_Pt_fold_6 : decode m_Pt_fold.2.2.1 6 = .ok (.iconst 1, 1) := by decide +kernel
theorem d_Pt_fold_7 : decode m_Pt_fold.2.2.1 7 = .ok (.iload_n 1, 1) := by decide +kernel
theorem d_Pt_fold_8 : decode m_Pt_fold.2.2.1 8 = .ok (.ishl, 1) := by decide +kernel
theorem d_Pt_fold_9 : decode m_Pt_fold.2.2.1 9 = .ok (.invokestatic 27, 3) := by decide +kernel
theorem d_Pt_fold_12 : decode m_Pt_fold.2.2.1 12 = .ok (.istore 6, 2) := by decide +kernel
theorem d_Pt_fold_14 : decode m_Pt_fold.2.2.1 14 = .ok (.iload_n 3, 1) := by decide +kernel
theorem d_Pt_fold_15 : decode m_Pt_fold.2.2.1 15 = .ok (.iload 4, 2) := by decide +kernel
theorem d_Pt_fold_17 : decode m_Pt_fold.2.2.1 17 = .ok (.invokestatic 40, 3) := by decide +kernel
theorem d_Pt_fold_20 : decode m_Pt_fold.2.2.1 20 = .ok (.iload 6, 2) := by decide +kernel
theorem d_Pt_fold_22 : decode m_Pt_fold.2.2.1 22 = .ok (.invokestatic 33, 3) := by decide +kernel
theorem d_Pt_fold_25 : decode m_Pt_fold.2.2.1 25 = .ok (.istore 7, 2) := by decide +kernel
theorem d_Pt_fold_27 : decode m_Pt_fold.2.2.1 27 = .ok (.iload_n 3, 1) := by decide +kernel
theorem d_Pt_fold_28 : decode m_Pt_fold.2.2.1 28 = .ok (.iload 4, 2) := by decide +kernel
theorem d_Pt_fold_30 : decode m_Pt_fold.2.2.1 30 = .ok (.invokestatic 49, 3) := by decide +kernel
theorem d_Pt_fold_33 : decode m_Pt_fold.2.2.1 33 = .ok (.iload 5, 2) := by decide +kernel
theorem d_Pt_fold_35 : decode m_Pt_fold.2.2.1 35 = .ok (.iload 7, 2) := by decide +kernel
theorem d_Pt_fold_37 : decode m_Pt_fold.2.2.1 37 = .ok (.invokestatic 33, 3) := by decide +kernel
theorem d_Pt_fold_40 : decode m_Pt_fold.2.2.1 40 = .ok (.invokestatic 49, 3) := by decide +kernel
theorem d_Pt_fold_43 : decode m_Pt_fold.2.2.1 43 = .ok (.istore 8, 2) := by decide +kernel
theorem d_Pt_fold_45 : decode m_Pt_fold.2.2.1 45 = .ok (.iload 8, 2) := by decide +kernel
theorem d_Pt_fold_47 : decode m_Pt_fold.2.2.1 47 = .ok (.sipush (6145), 3) := by decide +kernel
theorem d_Pt_fold_50 : decode m_Pt_fold.2.2.1 50 = .ok (.invokestatic 33, 3) := by decide +kernel
theorem d_Pt_fold_53 : decode m_Pt_fold.2.2.1 53 = .ok (.ireturn, 1) := by decide +kernel
theorem d_Pf_init_0 : decode m_Pf_init.2.2.1 0 = .ok (.aload_n 0, 1) := by decide +kernel
theorem d_Pf_init_1 : decode m_Pf_init.2.2.1 1 = .ok (.invokespecial 3, 3) := by decide +kernel
theorem d_Pf_init_4 : decode m_Pf_init.2.2.1 4 = .ok (.aload_n 0, 1) := by decide +kernel
theorem d_Pf_init_5 : decode m_Pf_init.2.2.1 5 = .ok (.sipush (179), 3) := by decide +kernel
theorem d_Pf_init_8 : decode m_Pf_init.2.2.1 8 = .ok (.newarray .int, 2) := by decide +kernel
theorem d_Pf_init_10 : decode m_Pf_init.2.2.1 10 = .ok (.putfield 11, 3) := by decide +kernel
theorem d_Pf_init_13 : decode m_Pf_init.2.2.1 13 = .ok (.return_, 1) := by decide +kernel
theorem d_Pf_columnStart_0 : decode m_Pf_columnStart.2.2.1 0 = .ok (.iconst 5, 1) := by decide +kernel
theorem d_Pf_columnStart_1 : decode m_Pf_columnStart.2.2.1 1 = .ok (.bipush (58), 2) := by decide +kernel
theorem d_Pf_columnStart_3 : decode m_Pf_columnStart.2.2.1 3 = .ok (.iload_n 0, 1) := by decide +kernel
theorem d_Pf_columnStart_4 : decode m_Pf_columnStart.2.2.1 4 = .ok (.imul, 1) := by decide +kernel
theorem d_Pf_columnStart_5 : decode m_Pf_columnStart.2.2.1 5 = .ok (.iadd, 1) := by decide +kernel
theorem d_Pf_columnStart_6 : decode m_Pf_columnStart.2.2.1 6 = .ok (.bipush (7), 2) := by decide +kernel
theorem d_Pf_columnStart_8 : decode m_Pf_columnStart.2.2.1 8 = .ok (.iload_n 1, 1) := by decide +kernel
theorem d_Pf_columnStart_9 : decode m_Pf_columnStart.2.2.1 9 = .ok (.imul, 1) := by decide +kernel
theorem d_Pf_columnStart_10 : decode m_Pf_columnStart.2.2.1 10 = .ok (.iadd, 1) := by decide +kernel
theorem d_Pf_columnStart_11 : decode m_Pf_columnStart.2.2.1 11 = .ok (.ireturn, 1) := by decide +kernel
theorem d_Pf_columnIndex_0 : decode m_Pf_columnIndex.2.2.1 0 = .ok (.iload_n 0, 1) := by decide +kernel
theorem d_Pf_columnIndex_1 : decode m_Pf_columnIndex.2.2.1 1 = .ok (.getstatic 15, 3) := by decide +kernel
theorem d_Pf_columnIndex_4 : decode m_Pf_columnIndex.2.2.1 4 = .ok (.iload_n 1, 1) := by decide +kernel
theorem d_Pf_columnIndex_5 : decode m_Pf_columnIndex.2.2.1 5 = .ok (.iaload, 1) := by decide +kernel
theorem d_Pf_columnIndex_6 : decode m_Pf_columnIndex.2.2.1 6 = .ok (.iadd, 1) := by decide +kernel
theorem d_Pf_columnIndex_7 : decode m_Pf_columnIndex.2.2.1 7 = .ok (.bipush (32), 2) := by decide +kernel
theorem d_Pf_columnIndex_9 : decode m_Pf_columnIndex.2.2.1 9 = .ok (.irem, 1) := by decide +kernel
theorem d_Pf_columnIndex_10 : decode m_Pf_columnIndex.2.2.1 10 = .ok (.ireturn, 1) := by decide +kernel
theorem d_Pf_layerStart_0 : decode m_Pf_layerStart.2.2.1 0 = .ok (.iconst 5, 1) := by decide +kernel
theorem d_Pf_layerStart_1 : decode m_Pf_layerStart.2.2.1 1 = .ok (.bipush (58), 2) := by decide +kernel
theorem d_Pf_layerStart_3 : decode m_Pf_layerStart.2.2.1 3 = .ok (.iload_n 0, 1) := by decide +kernel
theorem d_Pf_layerStart_4 : decode m_Pf_layerStart.2.2.1 4 = .ok (.imul, 1) := by decide +kernel
theorem d_Pf_layerStart_5 : decode m_Pf_layerStart.2.2.1 5 = .ok (.iadd, 1) := by decide +kernel
theorem d_Pf_layerStart_6 : decode m_Pf_layerStart.2.2.1 6 = .ok (.getstatic 18, 3) := by decide +kernel
theorem d_Pf_layerStart_9 : decode m_Pf_layerStart.2.2.1 9 = .ok (.iload_n 1, 1) := by decide +kernel
theorem d_Pf_layerStart_10 : decode m_Pf_layerStart.2.2.1 10 = .ok (.iaload, 1) := by decide +kernel
theorem d_Pf_layerStart_11 : decode m_Pf_layerStart.2.2.1 11 = .ok (.iadd, 1) := by decide +kernel
theorem d_Pf_layerStart_12 : decode m_Pf_layerStart.2.2.1 12 = .ok (.bipush (6), 2) := by decide +kernel
theorem d_Pf_layerStart_14 : decode m_Pf_layerStart.2.2.1 14 = .ok (.iload_n 1, 1) := by decide +kernel
theorem d_Pf_layerStart_15 : decode m_Pf_layerStart.2.2.1 15 = .ok (.isub, 1) := by decide +kernel
theorem d_Pf_layerStart_16 : decode m_Pf_layerStart.2.2.1 16 = .ok (.iload_n 2, 1) := by decide +kernel
theorem d_Pf_layerStart_17 : decode m_Pf_layerStart.2.2.1 17 = .ok (.imul, 1) := by decide +kernel
theorem d_Pf_layerStart_18 : decode m_Pf_layerStart.2.2.1 18 = .ok (.iadd, 1) := by decide +kernel
theorem d_Pf_layerStart_19 : decode m_Pf_layerStart.2.2.1 19 = .ok (.ireturn, 1) := by decide +kernel
theorem d_Pf_layerIndex_0 : decode m_Pf_layerIndex.2.2.1 0 = .ok (.iload_n 1, 1) := by decide +kernel
theorem d_Pf_layerIndex_1 : decode m_Pf_layerIndex.2.2.1 1 = .ok (.invokestatic 21, 3) := by decide +kernel
theorem d_Pf_layerIndex_4 : decode m_Pf_layerIndex.2.2.1 4 = .ok (.iconst 2, 1) := by decide +kernel
theorem d_Pf_layerIndex_5 : decode m_Pf_layerIndex.2.2.1 5 = .ok (.idiv, 1) := by decide +kernel
theorem d_Pf_layerIndex_6 : decode m_Pf_layerIndex.2.2.1 6 = .ok (.istore_n 3, 1) := by decide +kernel
theorem d_Pf_layerIndex_7 : decode m_Pf_layerIndex.2.2.1 7 = .ok (.iload_n 0, 1) := by decide +kernel
theorem d_Pf_layerIndex_8 : decode m_Pf_layerIndex.2.2.1 8 = .ok (.iload_n 3, 1) := by decide +kernel
theorem d_Pf_layerIndex_9 : decode m_Pf_layerIndex.2.2.1 9 = .ok (.irem, 1) := by decide +kernel
theorem d_Pf_layerIndex_10 : decode m_Pf_layerIndex.2.2.1 10 = .ok (.iload_n 3, 1) := by decide +kernel
theorem d_Pf_layerIndex_11 : decode m_Pf_layerIndex.2.2.1 11 = .ok (.iload_n 2, 1) := by decide +kernel
theorem d_Pf_layerIndex_12 : decode m_Pf_layerIndex.2.2.1 12 = .ok (.imul, 1) := by decide +kernel
theorem d_Pf_layerIndex_13 : decode m_Pf_layerIndex.2.2.1 13 = .ok (.iadd, 1) := by decide +kernel
theorem d_Pf_layerIndex_14 : decode m_Pf_layerIndex.2.2.1 14 = .ok (.ireturn, 1) := by decide +kernel
theorem d_Pf_layerSize_0 : decode m_Pf_layerSize.2.2.1 0 = .ok (.bipush (32), 2) := by decide +kernel
theorem d_Pf_layerSize_2 : decode m_Pf_layerSize.2.2.1 2 = .ok (.iload_n 0, 1) := by decide +kernel
theorem d_Pf_layerSize_3 : decode m_Pf_layerSize.2.2.1 3 = .ok (.ishr, 1) := by decide +kernel
theorem d_Pf_layerSize_4 : decode m_Pf_layerSize.2.2.1 4 = .ok (.ireturn, 1) := by decide +kernel
theorem d_Pf_columnLeaf_0 : decode m_Pf_columnLeaf.2.2.1 0 = .ok (.iload_n 0, 1) := by decide +kernel
theorem d_Pf_columnLeaf_1 : decode m_Pf_columnLeaf.2.2.1 1 = .ok (.iload_n 1, 1) := by decide +kernel
theorem d_Pf_columnLeaf_2 : decode m_Pf_columnLeaf.2.2.1 2 = .ok (.invokestatic 25, 3) := by decide +kernel
theorem d_Pf_columnLeaf_5 : decode m_Pf_columnLeaf.2.2.1 5 = .ok (.ireturn, 1) := by decide +kernel
theorem d_Pf_layerLeaf_0 : decode m_Pf_layerLeaf.2.2.1 0 = .ok (.iload_n 0, 1) := by decide +kernel
theorem d_Pf_layerLeaf_1 : decode m_Pf_layerLeaf.2.2.1 1 = .ok (.sipush (12289), 3) := by decide +kernel
theorem d_Pf_layerLeaf_4 : decode m_Pf_layerLeaf.2.2.1 4 = .ok (.invokestatic 25, 3) := by decide +kernel
theorem d_Pf_layerLeaf_7 : decode m_Pf_layerLeaf.2.2.1 7 = .ok (.ireturn, 1) := by decide +kernel
theorem d_Pf_isInField_0 : decode m_Pf_isInField.2.2.1 0 = .ok (.aload_n 0, 1) := by decide +kernel
theorem d_Pf_isInField_1 : decode m_Pf_isInField.2.2.1 1 = .ok (.getfield 11, 3) := by decide +kernel
theorem d_Pf_isInField_4 : decode m_Pf_isInField.2.2.1 4 = .ok (.iconst 4, 1) := by decide +kernel
theorem d_Pf_isInField_5 : decode m_Pf_isInField.2.2.1 5 = .ok (.iaload, 1) := by decide +kernel
theorem d_Pf_isInField_6 : decode m_Pf_isInField.2.2.1 6 = .ok (.invokestatic 31, 3) := by decide +kernel
theorem d_Pf_isInField_9 : decode m_Pf_isInField.2.2.1 9 = .ok (.ifCond .ne (5), 3) := by decide +kernel
theorem d_Pf_isInField_12 : decode m_Pf_isInField.2.2.1 12 = .ok (.iconst 0, 1) := by decide +kernel
theorem d_Pf_isInField_13 : decode m_Pf_isInField.2.2.1 13 = .ok (.ireturn, 1) := by decide +kernel
theorem d_Pf_isInField_14 : decode m_Pf_isInField.2.2.1 14 = .ok (.iconst 0, 1) := by decide +kernel
theorem d_Pf_isInField_15 : decode m_Pf_isInField.2.2.1 15 = .ok (.istore_n 1, 1) := by decide +kernel
theorem d_Pf_isInField_16 : decode m_Pf_isInField.2.2.1 16 = .ok (.iload_n 1, 1) := by decide +kernel
theorem d_Pf_isInField_17 : decode m_Pf_isInField.2.2.1 17 = .ok (.iconst 3, 1) := by decide +kernel
theorem d_Pf_isInField_18 : decode m_Pf_isInField.2.2.1 18 = .ok (.if_icmp .ge (27), 3) := by decide +kernel
theorem d_Pf_isInField_21 : decode m_Pf_isInField.2.2.1 21 = .ok (.aload_n 0, 1) := by decide +kernel
theorem d_Pf_isInField_22 : decode m_Pf_isInField.2.2.1 22 = .ok (.iload_n 1, 1) := by decide +kernel
theorem d_Pf_isInField_23 : decode m_Pf_isInField.2.2.1 23 = .ok (.invokevirtual 35, 3) := by decide +kernel
theorem d_Pf_isInField_26 : decode m_Pf_isInField.2.2.1 26 = .ok (.ifCond .eq (11), 3) := by decide +kernel
theorem d_Pf_isInField_29 : decode m_Pf_isInField.2.2.1 29 = .ok (.aload_n 0, 1) := by decide +kernel
theorem d_Pf_isInField_30 : decode m_Pf_isInField.2.2.1 30 = .ok (.iload_n 1, 1) := by decide +kernel
theorem d_Pf_isInField_31 : decode m_Pf_isInField.2.2.1 31 = .ok (.invokevirtual 38, 3) := by decide +kernel
theorem d_Pf_isInField_34 : decode m_Pf_isInField.2.2.1 34 = .ok (.ifCond .ne (5), 3) := by decide +kernel
theorem d_Pf_isInField_37 : decode m_Pf_isInField.2.2.1 37 = .ok (.iconst 0, 1) := by decide +kernel
theorem d_Pf_isInField_38 : decode m_Pf_isInField.2.2.1 38 = .ok (.ireturn, 1) := by decide +kernel
theorem d_Pf_isInField_39 : decode m_Pf_isInField.2.2.1 39 = .ok (.iinc 1 (1), 3) := by decide +kernel
theorem d_Pf_isInField_42 : decode m_Pf_isInField.2.2.1 42 = .ok (.goto (-26), 3) := by decide +kernel
theorem d_Pf_isInField_45 : decode m_Pf_isInField.2.2.1 45 = .ok (.iconst 1, 1) := by decide +kernel
theorem d_Pf_isInField_46 : decode m_Pf_isInField.2.2.1 46 = .ok (.ireturn, 1) := by decide +kernel
theorem d_Pf_areColumnsInField_0 : decode m_Pf_areColumnsInField.2.2.1 0 = .ok (.iconst 0, 1) := by decide +kernel
theorem d_Pf_areColumnsInField_1 : decode m_Pf_areColumnsInField.2.2.1 1 = .ok (.istore_n 2, 1) := by decide +kernel
theorem d_Pf_areColumnsInField_2 : decode m_Pf_areColumnsInField.2.2.1 2 = .ok (.iload_n 2, 1) := by decide +kernel
theorem d_Pf_areColumnsInField_3 : decode m_Pf_areColumnsInField.2.2.1 3 = .ok (.iconst 4, 1) := by decide +kernel
theorem d_Pf_areColumnsInField_4 : decode m_Pf_areColumnsInField.2.2.1 4 = .ok (.if_icmp .ge (43), 3) := by decide +kernel
theorem d_Pf_areColumnsInField_7 : decode m_Pf_areColumnsInField.2.2.1 7 = .ok (.iload_n 1, 1) := by decide +kernel
theorem d_Pf_areColumnsInField_8 : decode m_Pf_areColumnsInField.2.2.1 8 = .ok (.iload_n 2, 1) := by decide +kernel
theorem d_Pf_areColumnsInField_9 : decode m_Pf_areColumnsInField.2.2.1 9 = .ok (.invokestatic 41, 3) := by decide +kernel
theorem d_Pf_areColumnsInField_12 : decode m_Pf_areColumnsInField.2.2.1 12 = .ok (.istore_n 3, 1) := by decide +kernel
theorem d_Pf_areColumnsInField_13 : decode m_Pf_areColumnsInField.2.2.1 13 = .ok (.aload_n 0, 1) := by decide +kernel
theorem d_Pf_areColumnsInField_14 : decode m_Pf_areColumnsInField.2.2.1 14 = .ok (.getfield 11, 3) := by decide +kernel
theorem d_Pf_areColumnsInField_17 : decode m_Pf_areColumnsInField.2.2.1 17 = .ok (.iload_n 3, 1) := by decide +kernel
theorem d_Pf_areColumnsInField_18 : decode m_Pf_areColumnsInField.2.2.1 18 = .ok (.iaload, 1) := by decide +kernel
theorem d_Pf_areColumnsInField_19 : decode m_Pf_areColumnsInField.2.2.1 19 = .ok (.invokestatic 31, 3) := by decide +kernel
theorem d_Pf_areColumnsInField_22 : decode m_Pf_areColumnsInField.2.2.1 22 = .ok (.ifCond .eq (17), 3) := by decide +kernel
theorem d_Pf_areColumnsInField_25 : decode m_Pf_areColumnsInField.2.2.1 25 = .ok (.aload_n 0, 1) := by decide +kernel
theorem d_Pf_areColumnsInField_26 : decode m_Pf_areColumnsInField.2.2.1 26 = .ok (.getfield 11, 3) := by decide +kernel
theorem d_Pf_areColumnsInField_29 : decode m_Pf_areColumnsInField.2.2.1 29 = .ok (.iload_n 3, 1) := by decide +kernel
theorem d_Pf_areColumnsInField_30 : decode m_Pf_areColumnsInField.2.2.1 30 = .ok (.iconst 1, 1) := by decide +kernel
theorem d_Pf_areColumnsInField_31 : decode m_Pf_areColumnsInField.2.2.1 31 = .ok (.iadd, 1) := by decide +kernel
theorem d_Pf_areColumnsInField_32 : decode m_Pf_areColumnsInField.2.2.1 32 = .ok (.iaload, 1) := by decide +kernel
theorem d_Pf_areColumnsInField_33 : decode m_Pf_areColumnsInField.2.2.1 33 = .ok (.invokestatic 31, 3) := by decide +kernel
theorem d_Pf_areColumnsInField_36 : decode m_Pf_areColumnsInField.2.2.1 36 = .ok (.ifCond .ne (5), 3) := by decide +kernel
theorem d_Pf_areColumnsInField_39 : decode m_Pf_areColumnsInField.2.2.1 39 = .ok (.iconst 0, 1) := by decide +kernel
theorem d_Pf_areColumnsInField_40 : decode m_Pf_areColumnsInField.2.2.1 40 = .ok (.ireturn, 1) := by decide +kernel
theorem d_Pf_areColumnsInField_41 : decode m_Pf_areColumnsInField.2.2.1 41 = .ok (.iinc 2 (1), 3) := by decide +kernel
theorem d_Pf_areColumnsInField_44 : decode m_Pf_areColumnsInField.2.2.1 44 = .ok (.goto (-42), 3) := by decide +kernel
theorem d_Pf_areColumnsInField_47 : decode m_Pf_areColumnsInField.2.2.1 47 = .ok (.iconst 1, 1) := by decide +kernel
theorem d_Pf_areColumnsInField_48 : decode m_Pf_areColumnsInField.2.2.1 48 = .ok (.ireturn, 1) := by decide +kernel
theorem d_Pf_areLayersInField_0 : decode m_Pf_areLayersInField.2.2.1 0 = .ok (.iconst 0, 1) := by decide +kernel
theorem d_Pf_areLayersInField_1 : decode m_Pf_areLayersInField.2.2.1 1 = .ok (.istore_n 2, 1) := by decide +kernel
theorem d_Pf_areLayersInField_2 : decode m_Pf_areLayersInField.2.2.1 2 = .ok (.iload_n 2, 1) := by decide +kernel
theorem d_Pf_areLayersInField_3 : decode m_Pf_areLayersInField.2.2.1 3 = .ok (.iconst 3, 1) := by decide +kernel
theorem d_Pf_areLayersInField_4 : decode m_Pf_areLayersInField.2.2.1 4 = .ok (.if_icmp .ge (41), 3) := by decide +kernel
theorem d_Pf_areLayersInField_7 : decode m_Pf_areLayersInField.2.2.1 7 = .ok (.iconst 0, 1) := by decide +kernel
theorem d_Pf_areLayersInField_8 : decode m_Pf_areLayersInField.2.2.1 8 = .ok (.istore_n 3, 1) := by decide +kernel
theorem d_Pf_areLayersInField_9 : decode m_Pf_areLayersInField.2.2.1 9 = .ok (.iload_n 3, 1) := by decide +kernel
theorem d_Pf_areLayersInField_10 : decode m_Pf_areLayersInField.2.2.1 10 = .ok (.iconst 2, 1) := by decide +kernel
theorem d_Pf_areLayersInField_11 : decode m_Pf_areLayersInField.2.2.1 11 = .ok (.if_icmp .ge (28), 3) := by decide +kernel
theorem d_Pf_areLayersInField_14 : decode m_Pf_areLayersInField.2.2.1 14 = .ok (.aload_n 0, 1) := by decide +kernel
theorem d_Pf_areLayersInField_15 : decode m_Pf_areLayersInField.2.2.1 15 = .ok (.getfield 11, 3) := by decide +kernel
theorem d_Pf_areLayersInField_18 : decode m_Pf_areLayersInField.2.2.1 18 = .ok (.iload_n 1, 1) := by decide +kernel
theorem d_Pf_areLayersInField_19 : decode m_Pf_areLayersInField.2.2.1 19 = .ok (.iload_n 2, 1) := by decide +kernel
theorem d_Pf_areLayersInField_20 : decode m_Pf_areLayersInField.2.2.1 20 = .ok (.iload_n 3, 1) := by decide +kernel
theorem d_Pf_areLayersInField_21 : decode m_Pf_areLayersInField.2.2.1 21 = .ok (.invokestatic 44, 3) := by decide +kernel
theorem d_Pf_areLayersInField_24 : decode m_Pf_areLayersInField.2.2.1 24 = .ok (.iaload, 1) := by decide +kernel
theorem d_Pf_areLayersInField_25 : decode m_Pf_areLayersInField.2.2.1 25 = .ok (.invokestatic 31, 3) := by decide +kernel
theorem d_Pf_areLayersInField_28 : decode m_Pf_areLayersInField.2.2.1 28 = .ok (.ifCond .ne (5), 3) := by decide +kernel
theorem d_Pf_areLayersInField_31 : decode m_Pf_areLayersInField.2.2.1 31 = .ok (.iconst 0, 1) := by decide +kernel
theorem d_Pf_areLayersInField_32 : decode m_Pf_areLayersInField.2.2.1 32 = .ok (.ireturn, 1) := by decide +kernel
theorem d_Pf_areLayersInField_33 : decode m_Pf_areLayersInField.2.2.1 33 = .ok (.iinc 3 (1), 3) := by decide +kernel
theorem d_Pf_areLayersInField_36 : decode m_Pf_areLayersInField.2.2.1 36 = .ok (.goto (-27), 3) := by decide +kernel
theorem d_Pf_areLayersInField_39 : decode m_Pf_areLayersInField.2.2.1 39 = .ok (.iinc 2 (1), 3) := by decide +kernel
theorem d_Pf_areLayersInField_42 : decode m_Pf_areLayersInField.2.2.1 42 = .ok (.goto (-40), 3) := by decide +kernel
theorem d_Pf_areLayersInField_45 : decode m_Pf_areLayersInField.2.2.1 45 = .ok (.iconst 1, 1) := by decide +kernel
theorem d_Pf_areLayersInField_46 : decode m_Pf_areLayersInField.2.2.1 46 = .ok (.ireturn, 1) := by decide +kernel
theorem d_Pr_init_0 : decode m_Pr_init.2.2.1 0 = .ok (.aload_n 0, 1) := by decide +kernel
theorem d_Pr_init_1 : decode m_Pr_init.2.2.1 1 = .ok (.invokespecial 3, 3) := by decide +kernel
theorem d_Pr_init_4 : decode m_Pr_init.2.2.1 4 = .ok (.aload_n 0, 1) := by decide +kernel
theorem d_Pr_init_5 : decode m_Pr_init.2.2.1 5 = .ok (.new 9, 3) := by decide +kernel
theorem d_Pr_init_8 : decode m_Pr_init.2.2.1 8 = .ok (.dup, 1) := by decide +kernel
theorem d_Pr_init_9 : decode m_Pr_init.2.2.1 9 = .ok (.invokespecial 11, 3) := by decide +kernel
theorem d_Pr_init_12 : decode m_Pr_init.2.2.1 12 = .ok (.putfield 12, 3) := by decide +kernel
theorem d_Pr_init_15 : decode m_Pr_init.2.2.1 15 = .ok (.aload_n 0, 1) := by decide +kernel
theorem d_Pr_init_16 : decode m_Pr_init.2.2.1 16 = .ok (.iconst 2, 1) := by decide +kernel
theorem d_Pr_init_17 : decode m_Pr_init.2.2.1 17 = .ok (.bipush (32), 2) := by decide +kernel
theorem d_Pr_init_19 : decode m_Pr_init.2.2.1 19 = .ok (.multianewarray 18 2, 4) := by decide +kernel
theorem d_Pr_init_23 : decode m_Pr_init.2.2.1 23 = .ok (.putfield 20, 3) := by decide +kernel
theorem d_Pr_init_26 : decode m_Pr_init.2.2.1 26 = .ok (.aload_n 0, 1) := by decide +kernel
theorem d_Pr_init_27 : decode m_Pr_init.2.2.1 27 = .ok (.iconst 3, 1) := by decide +kernel
theorem d_Pr_init_28 : decode m_Pr_init.2.2.1 28 = .ok (.bipush (32), 2) := by decide +kernel
theorem d_Pr_init_30 : decode m_Pr_init.2.2.1 30 = .ok (.multianewarray 18 2, 4) := by decide +kernel
theorem d_Pr_init_34 : decode m_Pr_init.2.2.1 34 = .ok (.putfield 23, 3) := by decide +kernel
theorem d_Pr_init_37 : decode m_Pr_init.2.2.1 37 = .ok (.aload_n 0, 1) := by decide +kernel
theorem d_Pr_init_38 : decode m_Pr_init.2.2.1 38 = .ok (.new 26, 3) := by decide +kernel
theorem d_Pr_init_41 : decode m_Pr_init.2.2.1 41 = .ok (.dup, 1) := by decide +kernel
theorem d_Pr_init_42 : decode m_Pr_init.2.2.1 42 = .ok (.bipush (32), 2) := by decide +kernel
theorem d_Pr_init_44 : decode m_Pr_init.2.2.1 44 = .ok (.invokespecial 28, 3) := by decide +kernel
theorem d_Pr_init_47 : decode m_Pr_init.2.2.1 47 = .ok (.putfield 31, 3) := by decide +kernel
theorem d_Pr_init_50 : decode m_Pr_init.2.2.1 50 = .ok (.aload_n 0, 1) := by decide +kernel
theorem d_Pr_init_51 : decode m_Pr_init.2.2.1 51 = .ok (.iconst 3, 1) := by decide +kernel
theorem d_Pr_init_52 : decode m_Pr_init.2.2.1 52 = .ok (.anewarray 26, 3) := by decide +kernel
theorem d_Pr_init_55 : decode m_Pr_init.2.2.1 55 = .ok (.putfield 35, 3) := by decide +kernel
theorem d_Pr_init_58 : decode m_Pr_init.2.2.1 58 = .ok (.aload_n 0, 1) := by decide +kernel
theorem d_Pr_init_59 : decode m_Pr_init.2.2.1 59 = .ok (.aload_n 1, 1) := by decide +kernel
theorem d_Pr_init_60 : decode m_Pr_init.2.2.1 60 = .ok (.putfield 39, 3) := by decide +kernel
theorem d_Pr_init_63 : decode m_Pr_init.2.2.1 63 = .ok (.aload_n 0, 1) := by decide +kernel
theorem d_Pr_init_64 : decode m_Pr_init.2.2.1 64 = .ok (.aload_n 2, 1) := by decide +kernel
theorem d_Pr_init_65 : decode m_Pr_init.2.2.1 65 = .ok (.putfield 43, 3) := by decide +kernel
theorem d_Pr_init_68 : decode m_Pr_init.2.2.1 68 = .ok (.aload_n 0, 1) := by decide +kernel
theorem d_Pr_init_69 : decode m_Pr_init.2.2.1 69 = .ok (.aload_n 3, 1) := by decide +kernel
theorem d_Pr_init_70 : decode m_Pr_init.2.2.1 70 = .ok (.putfield 47, 3) := by decide +kernel
theorem d_Pr_init_73 : decode m_Pr_init.2.2.1 73 = .ok (.iconst 0, 1) := by decide +kernel
theorem d_Pr_init_74 : decode m_Pr_init.2.2.1 74 = .ok (.istore 4, 2) := by decide +kernel
theorem d_Pr_init_76 : decode m_Pr_init.2.2.1 76 = .ok (.iload 4, 2) := by decide +kernel
theorem d_Pr_init_78 : decode m_Pr_init.2.2.1 78 = .ok (.iconst 3, 1) := by decide +kernel
theorem d_Pr_init_79 : decode m_Pr_init.2.2.1 79 = .ok (.if_icmp .ge (28), 3) := by decide +kernel
theorem d_Pr_init_82 : decode m_Pr_init.2.2.1 82 = .ok (.aload_n 0, 1) := by decide +kernel
theorem d_Pr_init_83 : decode m_Pr_init.2.2.1 83 = .ok (.getfield 35, 3) := by decide +kernel
theorem d_Pr_init_86 : decode m_Pr_init.2.2.1 86 = .ok (.iload 4, 2) := by decide +kernel
theorem d_Pr_init_88 : decode m_Pr_init.2.2.1 88 = .ok (.new 26, 3) := by decide +kernel
theorem d_Pr_init_91 : decode m_Pr_init.2.2.1 91 = .ok (.dup, 1) := by decide +kernel
theorem d_Pr_init_92 : decode m_Pr_init.2.2.1 92 = .ok (.iload 4, 2) := by decide +kernel
theorem d_Pr_init_94 : decode m_Pr_init.2.2.1 94 = .ok (.invokestatic 51, 3) := by decide +kernel
theorem d_Pr_init_97 : decode m_Pr_init.2.2.1 97 = .ok (.invokespecial 28, 3) := by decide +kernel
theorem d_Pr_init_100 : decode m_Pr_init.2.2.1 100 = .ok (.aastore, 1) := by decide +kernel
theorem d_Pr_init_101 : decode m_Pr_init.2.2.1 101 = .ok (.iinc 4 (1), 3) := by decide +kernel
theorem d_Pr_init_104 : decode m_Pr_init.2.2.1 104 = .ok (.goto (-28), 3) := by decide +kernel
theorem d_Pr_init_107 : decode m_Pr_init.2.2.1 107 = .ok (.return_, 1) := by decide +kernel
theorem d_Pr_writeTo_0 : decode m_Pr_writeTo.2.2.1 0 = .ok (.aload_n 1, 1) := by decide +kernel
theorem d_Pr_writeTo_1 : decode m_Pr_writeTo.2.2.1 1 = .ok (.getfield 57, 3) := by decide +kernel
theorem d_Pr_writeTo_4 : decode m_Pr_writeTo.2.2.1 4 = .ok (.iconst 0, 1) := by decide +kernel
theorem d_Pr_writeTo_5 : decode m_Pr_writeTo.2.2.1 5 = .ok (.aload_n 0, 1) := by decide +kernel
theorem d_Pr_writeTo_6 : decode m_Pr_writeTo.2.2.1 6 = .ok (.invokevirtual 61, 3) := by decide +kernel
theorem d_Pr_writeTo_9 : decode m_Pr_writeTo.2.2.1 9 = .ok (.iastore, 1) := by decide +kernel
theorem d_Pr_writeTo_10 : decode m_Pr_writeTo.2.2.1 10 = .ok (.aload_n 0, 1) := by decide +kernel
theorem d_Pr_writeTo_11 : decode m_Pr_writeTo.2.2.1 11 = .ok (.getfield 12, 3) := by decide +kernel
theorem d_Pr_writeTo_14 : decode m_Pr_writeTo.2.2.1 14 = .ok (.aload_n 0, 1) := by decide +kernel
theorem d_Pr_writeTo_15 : decode m_Pr_writeTo.2.2.1 15 = .ok (.getfield 43, 3) := by decide +kernel
theorem d_Pr_writeTo_18 : decode m_Pr_writeTo.2.2.1 18 = .ok (.aload_n 1, 1) := by decide +kernel
theorem d_Pr_writeTo_19 : decode m_Pr_writeTo.2.2.1 19 = .ok (.getfield 57, 3) := by decide +kernel
theorem d_Pr_writeTo_22 : decode m_Pr_writeTo.2.2.1 22 = .ok (.iconst 0, 1) := by decide +kernel
theorem d_Pr_writeTo_23 : decode m_Pr_writeTo.2.2.1 23 = .ok (.iaload, 1) := by decide +kernel
theorem d_Pr_writeTo_24 : decode m_Pr_writeTo.2.2.1 24 = .ok (.invokevirtual 65, 3) := by decide +kernel
theorem d_Pr_writeTo_27 : decode m_Pr_writeTo.2.2.1 27 = .ok (.aload_n 0, 1) := by decide +kernel
theorem d_Pr_writeTo_28 : decode m_Pr_writeTo.2.2.1 28 = .ok (.invokevirtual 69, 3) := by decide +kernel
theorem d_Pr_writeTo_31 : decode m_Pr_writeTo.2.2.1 31 = .ok (.iconst 0, 1) := by decide +kernel
theorem d_Pr_writeTo_32 : decode m_Pr_writeTo.2.2.1 32 = .ok (.istore_n 2, 1) := by decide +kernel
theorem d_Pr_writeTo_33 : decode m_Pr_writeTo.2.2.1 33 = .ok (.iload_n 2, 1) := by decide +kernel
theorem d_Pr_writeTo_34 : decode m_Pr_writeTo.2.2.1 34 = .ok (.iconst 3, 1) := by decide +kernel
theorem d_Pr_writeTo_35 : decode m_Pr_writeTo.2.2.1 35 = .ok (.if_icmp .ge (47), 3) := by decide +kernel
theorem d_Pr_writeTo_38 : decode m_Pr_writeTo.2.2.1 38 = .ok (.iload_n 2, 1) := by decide +kernel
theorem d_Pr_writeTo_39 : decode m_Pr_writeTo.2.2.1 39 = .ok (.ifCond .le (8), 3) := by decide +kernel
theorem d_Pr_writeTo_42 : decode m_Pr_writeTo.2.2.1 42 = .ok (.aload_n 0, 1) := by decide +kernel
theorem d_Pr_writeTo_43 : decode m_Pr_writeTo.2.2.1 43 = .ok (.iload_n 2, 1) := by decide +kernel
theorem d_Pr_writeTo_44 : decode m_Pr_writeTo.2.2.1 44 = .ok (.invokevirtual 72, 3) := by decide +kernel
theorem d_Pr_writeTo_47 : decode m_Pr_writeTo.2.2.1 47 = .ok (.aload_n 1, 1) := by decide +kernel
theorem d_Pr_writeTo_48 : decode m_Pr_writeTo.2.2.1 48 = .ok (.getfield 57, 3) := by decide +kernel
theorem d_Pr_writeTo_51 : decode m_Pr_writeTo.2.2.1 51 = .ok (.iconst 1, 1) := by decide +kernel
theorem d_Pr_writeTo_52 : decode m_Pr_writeTo.2.2.1 52 = .ok (.iload_n 2, 1) := by decide +kernel
theorem d_Pr_writeTo_53 : decode m_Pr_writeTo.2.2.1 53 = .ok (.iadd, 1) := by decide +kernel
theorem d_Pr_writeTo_54 : decode m_Pr_writeTo.2.2.1 54 = .ok (.aload_n 0, 1) := by decide +kernel
theorem d_Pr_writeTo_55 : decode m_Pr_writeTo.2.2.1 55 = .ok (.iload_n 2, 1) := by decide +kernel
theorem d_Pr_writeTo_56 : decode m_Pr_writeTo.2.2.1 56 = .ok (.invokevirtual 75, 3) := by decide +kernel
theorem d_Pr_writeTo_59 : decode m_Pr_writeTo.2.2.1 59 = .ok (.iastore, 1) := by decide +kernel
theorem d_Pr_writeTo_60 : decode m_Pr_writeTo.2.2.1 60 = .ok (.aload_n 0, 1) := by decide +kernel
theorem d_Pr_writeTo_61 : decode m_Pr_writeTo.2.2.1 61 = .ok (.getfield 12, 3) := by decide +kernel
theorem d_Pr_writeTo_64 : decode m_Pr_writeTo.2.2.1 64 = .ok (.iload_n 2, 1) := by decide +kernel
theorem d_Pr_writeTo_65 : decode m_Pr_writeTo.2.2.1 65 = .ok (.aload_n 1, 1) := by decide +kernel
theorem d_Pr_writeTo_66 : decode m_Pr_writeTo.2.2.1 66 = .ok (.getfield 57, 3) := by decide +kernel
theorem d_Pr_writeTo_69 : decode m_Pr_writeTo.2.2.1 69 = .ok (.iconst 1, 1) := by decide +kernel
theorem d_Pr_writeTo_70 : decode m_Pr_writeTo.2.2.1 70 = .ok (.iload_n 2, 1) := by decide +kernel
theorem d_Pr_writeTo_71 : decode m_Pr_writeTo.2.2.1 71 = .ok (.iadd, 1) := by decide +kernel
theorem d_Pr_writeTo_72 : decode m_Pr_writeTo.2.2.1 72 = .ok (.iaload, 1) := by decide +kernel
theorem d_Pr_writeTo_73 : decode m_Pr_writeTo.2.2.1 73 = .ok (.invokevirtual 78, 3) := by decide +kernel
theorem d_Pr_writeTo_76 : decode m_Pr_writeTo.2.2.1 76 = .ok (.iinc 2 (1), 3) := by decide +kernel
theorem d_Pr_writeTo_79 : decode m_Pr_writeTo.2.2.1 79 = .ok (.goto (-46), 3) := by decide +kernel
theorem d_Pr_writeTo_82 : decode m_Pr_writeTo.2.2.1 82 = .ok (.aload_n 1, 1) := by decide +kernel
theorem d_Pr_writeTo_83 : decode m_Pr_writeTo.2.2.1 83 = .ok (.getfield 57, 3) := by decide +kernel
theorem d_Pr_writeTo_86 : decode m_Pr_writeTo.2.2.1 86 = .ok (.iconst 4, 1) := by decide +kernel
theorem d_Pr_writeTo_87 : decode m_Pr_writeTo.2.2.1 87 = .ok (.aload_n 0, 1) := by decide +kernel
theorem d_Pr_writeTo_88 : decode m_Pr_writeTo.2.2.1 88 = .ok (.iconst 2, 1) := by decide +kernel
theorem d_Pr_writeTo_89 : decode m_Pr_writeTo.2.2.1 89 = .ok (.iconst 0, 1) := by decide +kernel
theorem d_Pr_writeTo_90 : decode m_Pr_writeTo.2.2.1 90 = .ok (.invokevirtual 82, 3) := by decide +kernel
theorem d_Pr_writeTo_93 : decode m_Pr_writeTo.2.2.1 93 = .ok (.iastore, 1) := by decide +kernel
theorem d_Pr_writeTo_94 : decode m_Pr_writeTo.2.2.1 94 = .ok (.aload_n 0, 1) := by decide +kernel
theorem d_Pr_writeTo_95 : decode m_Pr_writeTo.2.2.1 95 = .ok (.getfield 12, 3) := by decide +kernel
theorem d_Pr_writeTo_98 : decode m_Pr_writeTo.2.2.1 98 = .ok (.aload_n 1, 1) := by decide +kernel
theorem d_Pr_writeTo_99 : decode m_Pr_writeTo.2.2.1 99 = .ok (.getfield 57, 3) := by decide +kernel
theorem d_Pr_writeTo_102 : decode m_Pr_writeTo.2.2.1 102 = .ok (.iconst 4, 1) := by decide +kernel
theorem d_Pr_writeTo_103 : decode m_Pr_writeTo.2.2.1 103 = .ok (.iaload, 1) := by decide +kernel
theorem d_Pr_writeTo_104 : decode m_Pr_writeTo.2.2.1 104 = .ok (.invokevirtual 86, 3) := by decide +kernel
theorem d_Pr_writeTo_107 : decode m_Pr_writeTo.2.2.1 107 = .ok (.iconst 0, 1) := by decide +kernel
theorem d_Pr_writeTo_108 : decode m_Pr_writeTo.2.2.1 108 = .ok (.istore_n 2, 1) := by decide +kernel
theorem d_Pr_writeTo_109 : decode m_Pr_writeTo.2.2.1 109 = .ok (.iload_n 2, 1) := by decide +kernel
theorem d_Pr_writeTo_110 : decode m_Pr_writeTo.2.2.1 110 = .ok (.iconst 3, 1) := by decide +kernel
theorem d_Pr_writeTo_111 : decode m_Pr_writeTo.2.2.1 111 = .ok (.if_icmp .ge (27), 3) := by decide +kernel
theorem d_Pr_writeTo_114 : decode m_Pr_writeTo.2.2.1 114 = .ok (.aload_n 0, 1) := by decide +kernel
theorem d_Pr_writeTo_115 : decode m_Pr_writeTo.2.2.1 115 = .ok (.aload_n 1, 1) := by decide +kernel
theorem d_Pr_writeTo_116 : decode m_Pr_writeTo.2.2.1 116 = .ok (.getfield 57, 3) := by decide +kernel
theorem d_Pr_writeTo_119 : decode m_Pr_writeTo.2.2.1 119 = .ok (.iload_n 2, 1) := by decide +kernel
theorem d_Pr_writeTo_120 : decode m_Pr_writeTo.2.2.1 120 = .ok (.invokevirtual 89, 3) := by decide +kernel
theorem d_Pr_writeTo_123 : decode m_Pr_writeTo.2.2.1 123 = .ok (.aload_n 0, 1) := by decide +kernel
theorem d_Pr_writeTo_124 : decode m_Pr_writeTo.2.2.1 124 = .ok (.aload_n 1, 1) := by decide +kernel
theorem d_Pr_writeTo_125 : decode m_Pr_writeTo.2.2.1 125 = .ok (.getfield 57, 3) := by decide +kernel
theorem d_Pr_writeTo_128 : decode m_Pr_writeTo.2.2.1 128 = .ok (.iload_n 2, 1) := by decide +kernel
theorem d_Pr_writeTo_129 : decode m_Pr_writeTo.2.2.1 129 = .ok (.invokevirtual 93, 3) := by decide +kernel
theorem d_Pr_writeTo_132 : decode m_Pr_writeTo.2.2.1 132 = .ok (.iinc 2 (1), 3) := by decide +kernel
theorem d_Pr_writeTo_135 : decode m_Pr_writeTo.2.2.1 135 = .ok (.goto (-26), 3) := by decide +kernel
theorem d_Pr_writeTo_138 : decode m_Pr_writeTo.2.2.1 138 = .ok (.return_, 1) := by decide +kernel
theorem d_Pr_commitColumns_0 : decode m_Pr_commitColumns.2.2.1 0 = .ok (.iconst 0, 1) := by decide +kernel
theorem d_Pr_commitColumns_1 : decode m_Pr_commitColumns.2.2.1 1 = .ok (.istore_n 1, 1) := by decide +kernel
theorem d_Pr_commitColumns_2 : decode m_Pr_commitColumns.2.2.1 2 = .ok (.iload_n 1, 1) := by decide +kernel
theorem d_Pr_commitColumns_3 : decode m_Pr_commitColumns.2.2.1 3 = .ok (.bipush (32), 2) := by decide +kernel
theorem d_Pr_commitColumns_5 : decode m_Pr_commitColumns.2.2.1 5 = .ok (.if_icmp .ge (70), 3) := by decide +kernel
theorem d_Pr_commitColumns_8 : decode m_Pr_commitColumns.2.2.1 8 = .ok (.aload_n 0, 1) := by decide +kernel
theorem d_Pr_commitColumns_9 : decode m_Pr_commitColumns.2.2.1 9 = .ok (.getfield 20, 3) := by decide +kernel
theorem d_Pr_commitColumns_12 : decode m_Pr_commitColumns.2.2.1 12 = .ok (.iconst 0, 1) := by decide +kernel
theorem d_Pr_commitColumns_13 : decode m_Pr_commitColumns.2.2.1 13 = .ok (.aaload, 1) := by decide +kernel
theorem d_Pr_commitColumns_14 : decode m_Pr_commitColumns.2.2.1 14 = .ok (.iload_n 1, 1) := by decide +kernel
theorem d_Pr_commitColumns_15 : decode m_Pr_commitColumns.2.2.1 15 = .ok (.aload_n 0, 1) := by decide +kernel
theorem d_Pr_commitColumns_16 : decode m_Pr_commitColumns.2.2.1 16 = .ok (.getfield 47, 3) := by decide +kernel
theorem d_Pr_commitColumns_19 : decode m_Pr_commitColumns.2.2.1 19 = .ok (.iconst 0, 1) := by decide +kernel
theorem d_Pr_commitColumns_20 : decode m_Pr_commitColumns.2.2.1 20 = .ok (.iload_n 1, 1) := by decide +kernel
theorem d_Pr_commitColumns_21 : decode m_Pr_commitColumns.2.2.1 21 = .ok (.invokevirtual 96, 3) := by decide +kernel
theorem d_Pr_commitColumns_24 : decode m_Pr_commitColumns.2.2.1 24 = .ok (.iastore, 1) := by decide +kernel
theorem d_Pr_commitColumns_25 : decode m_Pr_commitColumns.2.2.1 25 = .ok (.aload_n 0, 1) := by decide +kernel
theorem d_Pr_commitColumns_26 : decode m_Pr_commitColumns.2.2.1 26 = .ok (.getfield 20, 3) := by decide +kernel
theorem d_Pr_commitColumns_29 : decode m_Pr_commitColumns.2.2.1 29 = .ok (.iconst 1, 1) := by decide +kernel
theorem d_Pr_commitColumns_30 : decode m_Pr_commitColumns.2.2.1 30 = .ok (.aaload, 1) := by decide +kernel
theorem d_Pr_commitColumns_31 : decode m_Pr_commitColumns.2.2.1 31 = .ok (.iload_n 1, 1) := by decide +kernel
theorem d_Pr_commitColumns_32 : decode m_Pr_commitColumns.2.2.1 32 = .ok (.aload_n 0, 1) := by decide +kernel
theorem d_Pr_commitColumns_33 : decode m_Pr_commitColumns.2.2.1 33 = .ok (.getfield 47, 3) := by decide +kernel
theorem d_Pr_commitColumns_36 : decode m_Pr_commitColumns.2.2.1 36 = .ok (.iconst 1, 1) := by decide +kernel
theorem d_Pr_commitColumns_37 : decode m_Pr_commitColumns.2.2.1 37 = .ok (.iload_n 1, 1) := by decide +kernel
theorem d_Pr_commitColumns_38 : decode m_Pr_commitColumns.2.2.1 38 = .ok (.invokevirtual 96, 3) := by decide +kernel
theorem d_Pr_commitColumns_41 : decode m_Pr_commitColumns.2.2.1 41 = .ok (.iastore, 1) := by decide +kernel
theorem d_Pr_commitColumns_42 : decode m_Pr_commitColumns.2.2.1 42 = .ok (.aload_n 0, 1) := by decide +kernel
theorem d_Pr_commitColumns_43 : decode m_Pr_commitColumns.2.2.1 43 = .ok (.getfield 31, 3) := by decide +kernel
theorem d_Pr_commitColumns_46 : decode m_Pr_commitColumns.2.2.1 46 = .ok (.iload_n 1, 1) := by decide +kernel
theorem d_Pr_commitColumns_47 : decode m_Pr_commitColumns.2.2.1 47 = .ok (.aload_n 0, 1) := by decide +kernel
theorem d_Pr_commitColumns_48 : decode m_Pr_commitColumns.2.2.1 48 = .ok (.getfield 20, 3) := by decide +kernel
theorem d_Pr_commitColumns_51 : decode m_Pr_commitColumns.2.2.1 51 = .ok (.iconst 0, 1) := by decide +kernel
theorem d_Pr_commitColumns_52 : decode m_Pr_commitColumns.2.2.1 52 = .ok (.aaload, 1) := by decide +kernel
theorem d_Pr_commitColumns_53 : decode m_Pr_commitColumns.2.2.1 53 = .ok (.iload_n 1, 1) := by decide +kernel
theorem d_Pr_commitColumns_54 : decode m_Pr_commitColumns.2.2.1 54 = .ok (.iaload, 1) := by decide +kernel
theorem d_Pr_commitColumns_55 : decode m_Pr_commitColumns.2.2.1 55 = .ok (.aload_n 0, 1) := by decide +kernel
theorem d_Pr_commitColumns_56 : decode m_Pr_commitColumns.2.2.1 56 = .ok (.getfield 20, 3) := by decide +kernel
theorem d_Pr_commitColumns_59 : decode m_Pr_commitColumns.2.2.1 59 = .ok (.iconst 1, 1) := by decide +kernel
theorem d_Pr_commitColumns_60 : decode m_Pr_commitColumns.2.2.1 60 = .ok (.aaload, 1) := by decide +kernel
theorem d_Pr_commitColumns_61 : decode m_Pr_commitColumns.2.2.1 61 = .ok (.iload_n 1, 1) := by decide +kernel
theorem d_Pr_commitColumns_62 : decode m_Pr_commitColumns.2.2.1 62 = .ok (.iaload, 1) := by decide +kernel
theorem d_Pr_commitColumns_63 : decode m_Pr_commitColumns.2.2.1 63 = .ok (.invokestatic 101, 3) := by decide +kernel
theorem d_Pr_commitColumns_66 : decode m_Pr_commitColumns.2.2.1 66 = .ok (.invokevirtual 104, 3) := by decide +kernel
theorem d_Pr_commitColumns_69 : decode m_Pr_commitColumns.2.2.1 69 = .ok (.iinc 1 (1), 3) := by decide +kernel
theorem d_Pr_commitColumns_72 : decode m_Pr_commitColumns.2.2.1 72 = .ok (.goto (-70), 3) := by decide +kernel
theorem d_Pr_commitColumns_75 : decode m_Pr_commitColumns.2.2.1 75 = .ok (.aload_n 0, 1) := by decide +kernel
theorem d_Pr_commitColumns_76 : decode m_Pr_commitColumns.2.2.1 76 = .ok (.getfield 31, 3) := by decide +kernel
theorem d_Pr_commitColumns_79 : decode m_Pr_commitColumns.2.2.1 79 = .ok (.invokevirtual 107, 3) := by decide +kernel
theorem d_Pr_commitColumns_82 : decode m_Pr_commitColumns.2.2.1 82 = .ok (.ireturn, 1) := by decide +kernel
theorem d_Pr_compose_0 : decode m_Pr_compose.2.2.1 0 = .ok (.iconst 0, 1) := by decide +kernel
theorem d_Pr_compose_1 : decode m_Pr_compose.2.2.1 1 = .ok (.istore_n 1, 1) := by decide +kernel
theorem d_Pr_compose_2 : decode m_Pr_compose.2.2.1 2 = .ok (.iload_n 1, 1) := by decide +kernel
theorem d_Pr_compose_3 : decode m_Pr_compose.2.2.1 3 = .ok (.bipush (32), 2) := by decide +kernel
theorem d_Pr_compose_5 : decode m_Pr_compose.2.2.1 5 = .ok (.if_icmp .ge (76), 3) := by decide +kernel
theorem d_Pr_compose_8 : decode m_Pr_compose.2.2.1 8 = .ok (.iload_n 1, 1) := by decide +kernel
theorem d_Pr_compose_9 : decode m_Pr_compose.2.2.1 9 = .ok (.invokestatic 110, 3) := by decide +kernel
theorem d_Pr_compose_12 : decode m_Pr_compose.2.2.1 12 = .ok (.istore_n 2, 1) := by decide +kernel
theorem d_Pr_compose_13 : decode m_Pr_compose.2.2.1 13 = .ok (.aload_n 0, 1) := by decide +kernel
theorem d_Pr_compose_14 : decode m_Pr_compose.2.2.1 14 = .ok (.getfield 43, 3) := by decide +kernel
theorem d_Pr_compose_17 : decode m_Pr_compose.2.2.1 17 = .ok (.aload_n 0, 1) := by decide +kernel
theorem d_Pr_compose_18 : decode m_Pr_compose.2.2.1 18 = .ok (.getfield 20, 3) := by decide +kernel
theorem d_Pr_compose_21 : decode m_Pr_compose.2.2.1 21 = .ok (.iconst 0, 1) := by decide +kernel
theorem d_Pr_compose_22 : decode m_Pr_compose.2.2.1 22 = .ok (.aaload, 1) := by decide +kernel
theorem d_Pr_compose_23 : decode m_Pr_compose.2.2.1 23 = .ok (.iload_n 1, 1) := by decide +kernel
theorem d_Pr_compose_24 : decode m_Pr_compose.2.2.1 24 = .ok (.iaload, 1) := by decide +kernel
theorem d_Pr_compose_25 : decode m_Pr_compose.2.2.1 25 = .ok (.aload_n 0, 1) := by decide +kernel
theorem d_Pr_compose_26 : decode m_Pr_compose.2.2.1 26 = .ok (.getfield 20, 3) := by decide +kernel
theorem d_Pr_compose_29 : decode m_Pr_compose.2.2.1 29 = .ok (.iconst 1, 1) := by decide +kernel
theorem d_Pr_compose_30 : decode m_Pr_compose.2.2.1 30 = .ok (.aaload, 1) := by decide +kernel
theorem d_Pr_compose_31 : decode m_Pr_compose.2.2.1 31 = .ok (.iload_n 1, 1) := by decide +kernel
theorem d_Pr_compose_32 : decode m_Pr_compose.2.2.1 32 = .ok (.iaload, 1) := by decide +kernel
theorem d_Pr_compose_33 : decode m_Pr_compose.2.2.1 33 = .ok (.aload_n 0, 1) := by decide +kernel
theorem d_Pr_compose_34 : decode m_Pr_compose.2.2.1 34 = .ok (.getfield 20, 3) := by decide +kernel
theorem d_Pr_compose_37 : decode m_Pr_compose.2.2.1 37 = .ok (.iconst 0, 1) := by decide +kernel
theorem d_Pr_compose_38 : decode m_Pr_compose.2.2.1 38 = .ok (.aaload, 1) := by decide +kernel
theorem d_Pr_compose_39 : decode m_Pr_compose.2.2.1 39 = .ok (.iload_n 2, 1) := by decide +kernel
theorem d_Pr_compose_40 : decode m_Pr_compose.2.2.1 40 = .ok (.iaload, 1) := by decide +kernel
theorem d_Pr_compose_41 : decode m_Pr_compose.2.2.1 41 = .ok (.aload_n 0, 1) := by decide +kernel
theorem d_Pr_compose_42 : decode m_Pr_compose.2.2.1 42 = .ok (.getfield 20, 3) := by decide +kernel
theorem d_Pr_compose_45 : decode m_Pr_compose.2.2.1 45 = .ok (.iconst 1, 1) := by decide +kernel
theorem d_Pr_compose_46 : decode m_Pr_compose.2.2.1 46 = .ok (.aaload, 1) := by decide +kernel
theorem d_Pr_compose_47 : decode m_Pr_compose.2.2.1 47 = .ok (.iload_n 2, 1) := by decide +kernel
theorem d_Pr_compose_48 : decode m_Pr_compose.2.2.1 48 = .ok (.iaload, 1) := by decide +kernel
theorem d_Pr_compose_49 : decode m_Pr_compose.2.2.1 49 = .ok (.invokevirtual 115, 3) := by decide +kernel
theorem d_Pr_compose_52 : decode m_Pr_compose.2.2.1 52 = .ok (.aload_n 0, 1) := by decide +kernel
theorem d_Pr_compose_53 : decode m_Pr_compose.2.2.1 53 = .ok (.getfield 23, 3) := by decide +kernel
theorem d_Pr_compose_56 : decode m_Pr_compose.2.2.1 56 = .ok (.iconst 0, 1) := by decide +kernel
theorem d_Pr_compose_57 : decode m_Pr_compose.2.2.1 57 = .ok (.aaload, 1) := by decide +kernel
theorem d_Pr_compose_58 : decode m_Pr_compose.2.2.1 58 = .ok (.iload_n 1, 1) := by decide +kernel
theorem d_Pr_compose_59 : decode m_Pr_compose.2.2.1 59 = .ok (.aload_n 0, 1) := by decide +kernel
theorem d_Pr_compose_60 : decode m_Pr_compose.2.2.1 60 = .ok (.getfield 43, 3) := by decide +kernel
theorem d_Pr_compose_63 : decode m_Pr_compose.2.2.1 63 = .ok (.iload_n 1, 1) := by decide +kernel
theorem d_Pr_compose_64 : decode m_Pr_compose.2.2.1 64 = .ok (.aload_n 0, 1) := by decide +kernel
theorem d_Pr_compose_65 : decode m_Pr_compose.2.2.1 65 = .ok (.getfield 12, 3) := by decide +kernel
theorem d_Pr_compose_68 : decode m_Pr_compose.2.2.1 68 = .ok (.getfield 121, 3) := by decide +kernel
theorem d_Pr_compose_71 : decode m_Pr_compose.2.2.1 71 = .ok (.invokevirtual 125, 3) := by decide +kernel
theorem d_Pr_compose_74 : decode m_Pr_compose.2.2.1 74 = .ok (.iastore, 1) := by decide +kernel
theorem d_Pr_compose_75 : decode m_Pr_compose.2.2.1 75 = .ok (.iinc 1 (1), 3) := by decide +kernel
theorem d_Pr_compose_78 : decode m_Pr_compose.2.2.1 78 = .ok (.goto (-76), 3) := by decide +kernel
theorem d_Pr_compose_81 : decode m_Pr_compose.2.2.1 81 = .ok (.return_, 1) := by decide +kernel
theorem d_Pr_foldInto_0 : decode m_Pr_foldInto.2.2.1 0 = .ok (.iconst 0, 1) := by decide +kernel
theorem d_Pr_foldInto_1 : decode m_Pr_foldInto.2.2.1 1 = .ok (.istore_n 2, 1) := by decide +kernel
theorem d_Pr_foldInto_2 : decode m_Pr_foldInto.2.2.1 2 = .ok (.iload_n 2, 1) := by decide +kernel
theorem d_Pr_foldInto_3 : decode m_Pr_foldInto.2.2.1 3 = .ok (.iload_n 1, 1) := by decide +kernel
theorem d_Pr_foldInto_4 : decode m_Pr_foldInto.2.2.1 4 = .ok (.invokestatic 51, 3) := by decide +kernel
theorem d_Pr_foldInto_7 : decode m_Pr_foldInto.2.2.1 7 = .ok (.if_icmp .ge (25), 3) := by decide +kernel
theorem d_Pr_foldInto_10 : decode m_Pr_foldInto.2.2.1 10 = .ok (.aload_n 0, 1) := by decide +kernel
theorem d_Pr_foldInto_11 : decode m_Pr_foldInto.2.2.1 11 = .ok (.getfield 23, 3) := by decide +kernel
theorem d_Pr_foldInto_14 : decode m_Pr_foldInto.2.2.1 14 = .ok (.iload_n 1, 1) := by decide +kernel
theorem d_Pr_foldInto_15 : decode m_Pr_foldInto.2.2.1 15 = .ok (.aaload, 1) := by decide +kernel
theorem d_Pr_foldInto_16 : decode m_Pr_foldInto.2.2.1 16 = .ok (.iload_n 2, 1) := by decide +kernel
theorem d_Pr_foldInto_17 : decode m_Pr_foldInto.2.2.1 17 = .ok (.aload_n 0, 1) := by decide +kernel
theorem d_Pr_foldInto_18 : decode m_Pr_foldInto.2.2.1 18 = .ok (.iload_n 1, 1) := by decide +kernel
theorem d_Pr_foldInto_19 : decode m_Pr_foldInto.2.2.1 19 = .ok (.iconst 1, 1) := by decide +kernel
theorem d_Pr_foldInto_20 : decode m_Pr_foldInto.2.2.1 20 = .ok (.isub, 1) := by decide +kernel
theorem d_Pr_foldInto_21 : decode m_Pr_foldInto.2.2.1 21 = .ok (.iload_n 2, 1) := by decide +kernel
theorem d_Pr_foldInto_22 : decode m_Pr_foldInto.2.2.1 22 = .ok (.invokevirtual 82, 3) := by decide +kernel
theorem d_Pr_foldInto_25 : decode m_Pr_foldInto.2.2.1 25 = .ok (.iastore, 1) := by decide +kernel
theorem d_Pr_foldInto_26 : decode m_Pr_foldInto.2.2.1 26 = .ok (.iinc 2 (1), 3) := by decide +kernel
theorem d_Pr_foldInto_29 : decode m_Pr_foldInto.2.2.1 29 = .ok (.goto (-27), 3) := by decide +kernel
theorem d_Pr_foldInto_32 : decode m_Pr_foldInto.2.2.1 32 = .ok (.return_, 1) := by decide +kernel
theorem d_Pr_folded_0 : decode m_Pr_folded.2.2.1 0 = .ok (.iload_n 2, 1) := by decide +kernel
theorem d_Pr_folded_1 : decode m_Pr_folded.2.2.1 1 = .ok (.iload_n 1, 1) := by decide +kernel
theorem d_Pr_folded_2 : decode m_Pr_folded.2.2.1 2 = .ok (.invokestatic 51, 3) := by decide +kernel
theorem d_Pr_folded_5 : decode m_Pr_folded.2.2.1 5 = .ok (.iconst 2, 1) := by decide +kernel
theorem d_Pr_folded_6 : decode m_Pr_folded.2.2.1 6 = .ok (.idiv, 1) := by decide +kernel
theorem d_Pr_folded_7 : decode m_Pr_folded.2.2.1 7 = .ok (.iadd, 1) := by decide +kernel
theorem d_Pr_folded_8 : decode m_Pr_folded.2.2.1 8 = .ok (.istore_n 3, 1) := by decide +kernel
theorem d_Pr_folded_9 : decode m_Pr_folded.2.2.1 9 = .ok (.aload_n 0, 1) := by decide +kernel
theorem d_Pr_folded_10 : decode m_Pr_folded.2.2.1 10 = .ok (.getfield 39, 3) := by decide +kernel
theorem d_Pr_folded_13 : decode m_Pr_folded.2.2.1 13 = .ok (.iload_n 1, 1) := by decide +kernel
theorem d_Pr_folded_14 : decode m_Pr_folded.2.2.1 14 = .ok (.iload_n 2, 1) := by decide +kernel
theorem d_Pr_folded_15 : decode m_Pr_folded.2.2.1 15 = .ok (.aload_n 0, 1) := by decide +kernel
theorem d_Pr_folded_16 : decode m_Pr_folded.2.2.1 16 = .ok (.getfield 23, 3) := by decide +kernel
theorem d_Pr_folded_19 : decode m_Pr_folded.2.2.1 19 = .ok (.iload_n 1, 1) := by decide +kernel
theorem d_Pr_folded_20 : decode m_Pr_folded.2.2.1 20 = .ok (.aaload, 1) := by decide +kernel
theorem d_Pr_folded_21 : decode m_Pr_folded.2.2.1 21 = .ok (.iload_n 2, 1) := by decide +kernel
theorem d_Pr_folded_22 : decode m_Pr_folded.2.2.1 22 = .ok (.iaload, 1) := by decide +kernel
theorem d_Pr_folded_23 : decode m_Pr_folded.2.2.1 23 = .ok (.aload_n 0, 1) := by decide +kernel
theorem d_Pr_folded_24 : decode m_Pr_folded.2.2.1 24 = .ok (.getfield 23, 3) := by decide +kernel
theorem d_Pr_folded_27 : decode m_Pr_folded.2.2.1 27 = .ok (.iload_n 1, 1) := by decide +kernel
theorem d_Pr_folded_28 : decode m_Pr_folded.2.2.1 28 = .ok (.aaload, 1) := by decide +kernel
theorem d_Pr_folded_29 : decode m_Pr_folded.2.2.1 29 = .ok (.iload_n 3, 1) := by decide +kernel
theorem d_Pr_folded_30 : decode m_Pr_folded.2.2.1 30 = .ok (.iaload, 1) := by decide +kernel
theorem d_Pr_folded_31 : decode m_Pr_folded.2.2.1 31 = .ok (.aload_n 0, 1) := by decide +kernel
theorem d_Pr_folded_32 : decode m_Pr_folded.2.2.1 32 = .ok (.getfield 12, 3) := by decide +kernel
theorem d_Pr_folded_35 : decode m_Pr_folded.2.2.1 35 = .ok (.getfield 128, 3) := by decide +kernel
theorem d_Pr_folded_38 : decode m_Pr_folded.2.2.1 38 = .ok (.iload_n 1, 1) := by decide +kernel
theorem d_Pr_folded_39 : decode m_Pr_folded.2.2.1 39 = .ok (.iaload, 1) := by decide +kernel
theorem d_Pr_folded_40 : decode m_Pr_folded.2.2.1 40 = .ok (.invokevirtual 131, 3) := by decide +kernel
theorem d_Pr_folded_43 : decode m_Pr_folded.2.2.1 43 = .ok (.ireturn, 1) := by decide +kernel
theorem d_Pr_commitLayer_0 : decode m_Pr_commitLayer.2.2.1 0 = .ok (.aload_n 0, 1) := by decide +kernel
theorem d_Pr_commitLayer_1 : decode m_Pr_commitLayer.2.2.1 1 = .ok (.getfield 35, 3) := by decide +kernel
theorem d_Pr_commitLayer_4 : decode m_Pr_commitLayer.2.2.1 4 = .ok (.iload_n 1, 1) := by decide +kernel
theorem d_Pr_commitLayer_5 : decode m_Pr_commitLayer.2.2.1 5 = .ok (.aaload, 1) := by decide +kernel
theorem d_Pr_commitLayer_6 : decode m_Pr_commitLayer.2.2.1 6 = .ok (.astore_n 2, 1) := by decide +kernel
theorem d_Pr_commitLayer_7 : decode m_Pr_commitLayer.2.2.1 7 = .ok (.iconst 0, 1) := by decide +kernel
theorem d_Pr_commitLayer_8 : decode m_Pr_commitLayer.2.2.1 8 = .ok (.istore_n 3, 1) := by decide +kernel
theorem d_Pr_commitLayer_9 : decode m_Pr_commitLayer.2.2.1 9 = .ok (.iload_n 3, 1) := by decide +kernel
theorem d_Pr_commitLayer_10 : decode m_Pr_commitLayer.2.2.1 10 = .ok (.iload_n 1, 1) := by decide +kernel
theorem d_Pr_commitLayer_11 : decode m_Pr_commitLayer.2.2.1 11 = .ok (.invokestatic 51, 3) := by decide +kernel
theorem d_Pr_commitLayer_14 : decode m_Pr_commitLayer.2.2.1 14 = .ok (.if_icmp .ge (25), 3) := by decide +kernel
theorem d_Pr_commitLayer_17 : decode m_Pr_commitLayer.2.2.1 17 = .ok (.aload_n 2, 1) := by decide +kernel
theorem d_Pr_commitLayer_18 : decode m_Pr_commitLayer.2.2.1 18 = .ok (.iload_n 3, 1) := by decide +kernel
theorem d_Pr_commitLayer_19 : decode m_Pr_commitLayer.2.2.1 19 = .ok (.aload_n 0, 1) := by decide +kernel
theorem d_Pr_commitLayer_20 : decode m_Pr_commitLayer.2.2.1 20 = .ok (.getfield 23, 3) := by decide +kernel
theorem d_Pr_commitLayer_23 : decode m_Pr_commitLayer.2.2.1 23 = .ok (.iload_n 1, 1) := by decide +kernel
theorem d_Pr_commitLayer_24 : decode m_Pr_commitLayer.2.2.1 24 = .ok (.aaload, 1) := by decide +kernel
theorem d_Pr_commitLayer_25 : decode m_Pr_commitLayer.2.2.1 25 = .ok (.iload_n 3, 1) := by decide +kernel
theorem d_Pr_commitLayer_26 : decode m_Pr_commitLayer.2.2.1 26 = .ok (.iaload, 1) := by decide +kernel
theorem d_Pr_commitLayer_27 : decode m_Pr_commitLayer.2.2.1 27 = .ok (.invokestatic 135, 3) := by decide +kernel
theorem d_Pr_commitLayer_30 : decode m_Pr_commitLayer.2.2.1 30 = .ok (.invokevirtual 104, 3) := by decide +kernel
theorem d_Pr_commitLayer_33 : decode m_Pr_commitLayer.2.2.1 33 = .ok (.iinc 3 (1), 3) := by decide +kernel
theorem d_Pr_commitLayer_36 : decode m_Pr_commitLayer.2.2.1 36 = .ok (.goto (-27), 3) := by decide +kernel
theorem d_Pr_commitLayer_39 : decode m_Pr_commitLayer.2.2.1 39 = .ok (.aload_n 2, 1) := by decide +kernel
theorem d_Pr_commitLayer_40 : decode m_Pr_commitLayer.2.2.1 40 = .ok (.invokevirtual 107, 3) := by decide +kernel
theorem d_Pr_commitLayer_43 : decode m_Pr_commitLayer.2.2.1 43 = .ok (.ireturn, 1) := by decide +kernel
theorem d_Pr_openColumns_0 : decode m_Pr_openColumns.2.2.1 0 = .ok (.iconst 0, 1) := by decide +kernel
theorem d_Pr_openColumns_1 : decode m_Pr_openColumns.2.2.1 1 = .ok (.istore_n 3, 1) := by decide +kernel
theorem d_Pr_openColumns_2 : decode m_Pr_openColumns.2.2.1 2 = .ok (.iload_n 3, 1) := by decide +kernel
theorem d_Pr_openColumns_3 : decode m_Pr_openColumns.2.2.1 3 = .ok (.iconst 4, 1) := by decide +kernel
theorem d_Pr_openColumns_4 : decode m_Pr_openColumns.2.2.1 4 = .ok (.if_icmp .ge (73), 3) := by decide +kernel
theorem d_Pr_openColumns_7 : decode m_Pr_openColumns.2.2.1 7 = .ok (.aload_n 0, 1) := by decide +kernel
theorem d_Pr_openColumns_8 : decode m_Pr_openColumns.2.2.1 8 = .ok (.getfield 12, 3) := by decide +kernel
theorem d_Pr_openColumns_11 : decode m_Pr_openColumns.2.2.1 11 = .ok (.getfield 138, 3) := by decide +kernel
theorem d_Pr_openColumns_14 : decode m_Pr_openColumns.2.2.1 14 = .ok (.iload_n 2, 1) := by decide +kernel
theorem d_Pr_openColumns_15 : decode m_Pr_openColumns.2.2.1 15 = .ok (.iaload, 1) := by decide +kernel
theorem d_Pr_openColumns_16 : decode m_Pr_openColumns.2.2.1 16 = .ok (.iload_n 3, 1) := by decide +kernel
theorem d_Pr_openColumns_17 : decode m_Pr_openColumns.2.2.1 17 = .ok (.invokestatic 141, 3) := by decide +kernel
theorem d_Pr_openColumns_20 : decode m_Pr_openColumns.2.2.1 20 = .ok (.istore 4, 2) := by decide +kernel
theorem d_Pr_openColumns_22 : decode m_Pr_openColumns.2.2.1 22 = .ok (.iload_n 2, 1) := by decide +kernel
theorem d_Pr_openColumns_23 : decode m_Pr_openColumns.2.2.1 23 = .ok (.iload_n 3, 1) := by decide +kernel
theorem d_Pr_openColumns_24 : decode m_Pr_openColumns.2.2.1 24 = .ok (.invokestatic 144, 3) := by decide +kernel
theorem d_Pr_openColumns_27 : decode m_Pr_openColumns.2.2.1 27 = .ok (.istore 5, 2) := by decide +kernel
theorem d_Pr_openColumns_29 : decode m_Pr_openColumns.2.2.1 29 = .ok (.aload_n 1, 1) := by decide +kernel
theorem d_Pr_openColumns_30 : decode m_Pr_openColumns.2.2.1 30 = .ok (.iload 5, 2) := by decide +kernel
theorem d_Pr_openColumns_32 : decode m_Pr_openColumns.2.2.1 32 = .ok (.aload_n 0, 1) := by decide +kernel
theorem d_Pr_openColumns_33 : decode m_Pr_openColumns.2.2.1 33 = .ok (.getfield 20, 3) := by decide +kernel
theorem d_Pr_openColumns_36 : decode m_Pr_openColumns.2.2.1 36 = .ok (.iconst 0, 1) := by decide +kernel
theorem d_Pr_openColumns_37 : decode m_Pr_openColumns.2.2.1 37 = .ok (.aaload, 1) := by decide +kernel
theorem d_Pr_openColumns_38 : decode m_Pr_openColumns.2.2.1 38 = .ok (.iload 4, 2) := by decide +kernel
theorem d_Pr_openColumns_40 : decode m_Pr_openColumns.2.2.1 40 = .ok (.iaload, 1) := by decide +kernel
theorem d_Pr_openColumns_41 : decode m_Pr_openColumns.2.2.1 41 = .ok (.iastore, 1) := by decide +kernel
theorem d_Pr_openColumns_42 : decode m_Pr_openColumns.2.2.1 42 = .ok (.aload_n 1, 1) := by decide +kernel
theorem d_Pr_openColumns_43 : decode m_Pr_openColumns.2.2.1 43 = .ok (.iload 5, 2) := by decide +kernel
theorem d_Pr_openColumns_45 : decode m_Pr_openColumns.2.2.1 45 = .ok (.iconst 1, 1) := by decide +kernel
theorem d_Pr_openColumns_46 : decode m_Pr_openColumns.2.2.1 46 = .ok (.iadd, 1) := by decide +kernel
theorem d_Pr_openColumns_47 : decode m_Pr_openColumns.2.2.1 47 = .ok (.aload_n 0, 1) := by decide +kernel
theorem d_Pr_openColumns_48 : decode m_Pr_openColumns.2.2.1 48 = .ok (.getfield 20, 3) := by decide +kernel
theorem d_Pr_openColumns_51 : decode m_Pr_openColumns.2.2.1 51 = .ok (.iconst 1, 1) := by decide +kernel
theorem d_Pr_openColumns_52 : decode m_Pr_openColumns.2.2.1 52 = .ok (.aaload, 1) := by decide +kernel
theorem d_Pr_openColumns_53 : decode m_Pr_openColumns.2.2.1 53 = .ok (.iload 4, 2) := by decide +kernel
theorem d_Pr_openColumns_55 : decode m_Pr_openColumns.2.2.1 55 = .ok (.iaload, 1) := by decide +kernel
theorem d_Pr_openColumns_56 : decode m_Pr_openColumns.2.2.1 56 = .ok (.iastore, 1) := by decide +kernel
theorem d_Pr_openColumns_57 : decode m_Pr_openColumns.2.2.1 57 = .ok (.aload_n 0, 1) := by decide +kernel
theorem d_Pr_openColumns_58 : decode m_Pr_openColumns.2.2.1 58 = .ok (.getfield 31, 3) := by decide +kernel
theorem d_Pr_openColumns_61 : decode m_Pr_openColumns.2.2.1 61 = .ok (.iload 4, 2) := by decide +kernel
theorem d_Pr_openColumns_63 : decode m_Pr_openColumns.2.2.1 63 = .ok (.aload_n 1, 1) := by decide +kernel
theorem d_Pr_openColumns_64 : decode m_Pr_openColumns.2.2.1 64 = .ok (.iload 5, 2) := by decide +kernel
theorem d_Pr_openColumns_66 : decode m_Pr_openColumns.2.2.1 66 = .ok (.iconst 2, 1) := by decide +kernel
theorem d_Pr_openColumns_67 : decode m_Pr_openColumns.2.2.1 67 = .ok (.iadd, 1) := by decide +kernel
theorem d_Pr_openColumns_68 : decode m_Pr_openColumns.2.2.1 68 = .ok (.invokevirtual 147, 3) := by decide +kernel
theorem d_Pr_openColumns_71 : decode m_Pr_openColumns.2.2.1 71 = .ok (.iinc 3 (1), 3) := by decide +kernel
theorem d_Pr_openColumns_74 : decode m_Pr_openColumns.2.2.1 74 = .ok (.goto (-72), 3) := by decide +kernel
theorem d_Pr_openColumns_77 : decode m_Pr_openColumns.2.2.1 77 = .ok (.return_, 1) := by decide +kernel
theorem d_Pr_openLayers_0 : decode m_Pr_openLayers.2.2.1 0 = .ok (.iconst 0, 1) := by decide +kernel
theorem d_Pr_openLayers_1 : decode m_Pr_openLayers.2.2.1 1 = .ok (.istore_n 3, 1) := by decide +kernel
theorem d_Pr_openLayers_2 : decode m_Pr_openLayers.2.2.1 2 = .ok (.iload_n 3, 1) := by decide +kernel
theorem d_Pr_openLayers_3 : decode m_Pr_openLayers.2.2.1 3 = .ok (.iconst 3, 1) := by decide +kernel
theorem d_Pr_openLayers_4 : decode m_Pr_openLayers.2.2.1 4 = .ok (.if_icmp .ge (79), 3) := by decide +kernel
theorem d_Pr_openLayers_7 : decode m_Pr_openLayers.2.2.1 7 = .ok (.iconst 0, 1) := by decide +kernel
theorem d_Pr_openLayers_8 : decode m_Pr_openLayers.2.2.1 8 = .ok (.istore 4, 2) := by decide +kernel
theorem d_Pr_openLayers_10 : decode m_Pr_openLayers.2.2.1 10 = .ok (.iload 4, 2) := by decide +kernel
theorem d_Pr_openLayers_12 : decode m_Pr_openLayers.2.2.1 12 = .ok (.iconst 2, 1) := by decide +kernel
theorem d_Pr_openLayers_13 : decode m_Pr_openLayers.2.2.1 13 = .ok (.if_icmp .ge (64), 3) := by decide +kernel
theorem d_Pr_openLayers_16 : decode m_Pr_openLayers.2.2.1 16 = .ok (.aload_n 0, 1) := by decide +kernel
theorem d_Pr_openLayers_17 : decode m_Pr_openLayers.2.2.1 17 = .ok (.getfield 12, 3) := by decide +kernel
theorem d_Pr_openLayers_20 : decode m_Pr_openLayers.2.2.1 20 = .ok (.getfield 138, 3) := by decide +kernel
theorem d_Pr_openLayers_23 : decode m_Pr_openLayers.2.2.1 23 = .ok (.iload_n 2, 1) := by decide +kernel
theorem d_Pr_openLayers_24 : decode m_Pr_openLayers.2.2.1 24 = .ok (.iaload, 1) := by decide +kernel
theorem d_Pr_openLayers_25 : decode m_Pr_openLayers.2.2.1 25 = .ok (.iload_n 3, 1) := by decide +kernel
theorem d_Pr_openLayers_26 : decode m_Pr_openLayers.2.2.1 26 = .ok (.iload 4, 2) := by decide +kernel
theorem d_Pr_openLayers_28 : decode m_Pr_openLayers.2.2.1 28 = .ok (.invokestatic 151, 3) := by decide +kernel
theorem d_Pr_openLayers_31 : decode m_Pr_openLayers.2.2.1 31 = .ok (.istore 5, 2) := by decide +kernel
theorem d_Pr_openLayers_33 : decode m_Pr_openLayers.2.2.1 33 = .ok (.iload_n 2, 1) := by decide +kernel
theorem d_Pr_openLayers_34 : decode m_Pr_openLayers.2.2.1 34 = .ok (.iload_n 3, 1) := by decide +kernel
theorem d_Pr_openLayers_35 : decode m_Pr_openLayers.2.2.1 35 = .ok (.iload 4, 2) := by decide +kernel
theorem d_Pr_openLayers_37 : decode m_Pr_openLayers.2.2.1 37 = .ok (.invokestatic 155, 3) := by decide +kernel
theorem d_Pr_openLayers_40 : decode m_Pr_openLayers.2.2.1 40 = .ok (.istore 6, 2) := by decide +kernel
theorem d_Pr_openLayers_42 : decode m_Pr_openLayers.2.2.1 42 = .ok (.aload_n 1, 1) := by decide +kernel
theorem d_Pr_openLayers_43 : decode m_Pr_openLayers.2.2.1 43 = .ok (.iload 6, 2) := by decide +kernel
theorem d_Pr_openLayers_45 : decode m_Pr_openLayers.2.2.1 45 = .ok (.aload_n 0, 1) := by decide +kernel
theorem d_Pr_openLayers_46 : decode m_Pr_openLayers.2.2.1 46 = .ok (.getfield 23, 3) := by decide +kernel
theorem d_Pr_openLayers_49 : decode m_Pr_openLayers.2.2.1 49 = .ok (.iload_n 3, 1) := by decide +kernel
theorem d_Pr_openLayers_50 : decode m_Pr_openLayers.2.2.1 50 = .ok (.aaload, 1) := by decide +kernel
theorem d_Pr_openLayers_51 : decode m_Pr_openLayers.2.2.1 51 = .ok (.iload 5, 2) := by decide +kernel
theorem d_Pr_openLayers_53 : decode m_Pr_openLayers.2.2.1 53 = .ok (.iaload, 1) := by decide +kernel
theorem d_Pr_openLayers_54 : decode m_Pr_openLayers.2.2.1 54 = .ok (.iastore, 1) := by decide +kernel
theorem d_Pr_openLayers_55 : decode m_Pr_openLayers.2.2.1 55 = .ok (.aload_n 0, 1) := by decide +kernel
theorem d_Pr_openLayers_56 : decode m_Pr_openLayers.2.2.1 56 = .ok (.getfield 35, 3) := by decide +kernel
theorem d_Pr_openLayers_59 : decode m_Pr_openLayers.2.2.1 59 = .ok (.iload_n 3, 1) := by decide +kernel
theorem d_Pr_openLayers_60 : decode m_Pr_openLayers.2.2.1 60 = .ok (.aaload, 1) := by decide +kernel
theorem d_Pr_openLayers_61 : decode m_Pr_openLayers.2.2.1 61 = .ok (.iload 5, 2) := by decide +kernel
theorem d_Pr_openLayers_63 : decode m_Pr_openLayers.2.2.1 63 = .ok (.aload_n 1, 1) := by decide +kernel
theorem d_Pr_openLayers_64 : decode m_Pr_openLayers.2.2.1 64 = .ok (.iload 6, 2) := by decide +kernel
theorem d_Pr_openLayers_66 : decode m_Pr_openLayers.2.2.1 66 = .ok (.iconst 1, 1) := by decide +kernel
theorem d_Pr_openLayers_67 : decode m_Pr_openLayers.2.2.1 67 = .ok (.iadd, 1) := by decide +kernel
theorem d_Pr_openLayers_68 : decode m_Pr_openLayers.2.2.1 68 = .ok (.invokevirtual 147, 3) := by decide +kernel
theorem d_Pr_openLayers_71 : decode m_Pr_openLayers.2.2.1 71 = .ok (.iinc 4 (1), 3) := by decide +kernel
theorem d_Pr_openLayers_74 : decode m_Pr_openLayers.2.2.1 74 = .ok (.goto (-64), 3) := by decide +kernel
theorem d_Pr_openLayers_77 : decode m_Pr_openLayers.2.2.1 77 = .ok (.iinc 3 (1), 3) := by decide +kernel
theorem d_Pr_openLayers_80 : decode m_Pr_openLayers.2.2.1 80 = .ok (.goto (-78), 3) := by decide +kernel
theorem d_Pr_openLayers_83 : decode m_Pr_openLayers.2.2.1 83 = .ok (.return_, 1) := by decide +kernel
theorem d_Ru_init_0 : decode m_Ru_init.2.2.1 0 = .ok (.aload_n 0, 1) := by decide +kernel
theorem d_Ru_init_1 : decode m_Ru_init.2.2.1 1 = .ok (.invokespecial 3, 3) := by decide +kernel
theorem d_Ru_init_4 : decode m_Ru_init.2.2.1 4 = .ok (.aload_n 0, 1) := by decide +kernel
theorem d_Ru_init_5 : decode m_Ru_init.2.2.1 5 = .ok (.iconst 2, 1) := by decide +kernel
theorem d_Ru_init_6 : decode m_Ru_init.2.2.1 6 = .ok (.newarray .int, 2) := by decide +kernel
theorem d_Ru_init_8 : decode m_Ru_init.2.2.1 8 = .ok (.putfield 11, 3) := by decide +kernel
theorem d_Ru_init_11 : decode m_Ru_init.2.2.1 11 = .ok (.aload_n 0, 1) := by decide +kernel
theorem d_Ru_init_12 : decode m_Ru_init.2.2.1 12 = .ok (.iconst 2, 1) := by decide +kernel
theorem d_Ru_init_13 : decode m_Ru_init.2.2.1 13 = .ok (.bipush (18), 2) := by decide +kernel
theorem d_Ru_init_15 : decode m_Ru_init.2.2.1 15 = .ok (.multianewarray 15 2, 4) := by decide +kernel
theorem d_Ru_init_19 : decode m_Ru_init.2.2.1 19 = .ok (.putfield 17, 3) := by decide +kernel
theorem d_Ru_init_22 : decode m_Ru_init.2.2.1 22 = .ok (.aload_n 0, 1) := by decide +kernel
theorem d_Ru_init_23 : decode m_Ru_init.2.2.1 23 = .ok (.bipush (12), 2) := by decide +kernel
theorem d_Ru_init_25 : decode m_Ru_init.2.2.1 25 = .ok (.newarray .int, 2) := by decide +kernel
theorem d_Ru_init_27 : decode m_Ru_init.2.2.1 27 = .ok (.putfield 20, 3) := by decide +kernel
theorem d_Ru_init_30 : decode m_Ru_init.2.2.1 30 = .ok (.aload_n 0, 1) := by decide +kernel
theorem d_Ru_init_31 : decode m_Ru_init.2.2.1 31 = .ok (.iconst 5, 1) := by decide +kernel
theorem d_Ru_init_32 : decode m_Ru_init.2.2.1 32 = .ok (.newarray .int, 2) := by decide +kernel
theorem d_Ru_init_34 : decode m_Ru_init.2.2.1 34 = .ok (.putfield 23, 3) := by decide +kernel
theorem d_Ru_init_37 : decode m_Ru_init.2.2.1 37 = .ok (.aload_n 0, 1) := by decide +kernel
theorem d_Ru_init_38 : decode m_Ru_init.2.2.1 38 = .ok (.aload_n 1, 1) := by decide +kernel
theorem d_Ru_init_39 : decode m_Ru_init.2.2.1 39 = .ok (.putfield 26, 3) := by decide +kernel
theorem d_Ru_init_42 : decode m_Ru_init.2.2.1 42 = .ok (.aload_n 0, 1) := by decide +kernel
theorem d_Ru_init_43 : decode m_Ru_init.2.2.1 43 = .ok (.iconst 0, 1) := by decide +kernel
theorem d_Ru_init_44 : decode m_Ru_init.2.2.1 44 = .ok (.putfield 30, 3) := by decide +kernel
theorem d_Ru_init_47 : decode m_Ru_init.2.2.1 47 = .ok (.aload_n 0, 1) := by decide +kernel
theorem d_Ru_init_48 : decode m_Ru_init.2.2.1 48 = .ok (.getfield 23, 3) := by decide +kernel
theorem d_Ru_init_51 : decode m_Ru_init.2.2.1 51 = .ok (.iconst 0, 1) := by decide +kernel
theorem d_Ru_init_52 : decode m_Ru_init.2.2.1 52 = .ok (.iconst 1, 1) := by decide +kernel
theorem d_Ru_init_53 : decode m_Ru_init.2.2.1 53 = .ok (.iastore, 1) := by decide +kernel
theorem d_Ru_init_54 : decode m_Ru_init.2.2.1 54 = .ok (.return_, 1) := by decide +kernel
theorem d_Ru_addTerm_0 : decode m_Ru_addTerm.2.2.1 0 = .ok (.aload_n 0, 1) := by decide +kernel
theorem d_Ru_addTerm_1 : decode m_Ru_addTerm.2.2.1 1 = .ok (.getfield 11, 3) := by decide +kernel
theorem d_Ru_addTerm_4 : decode m_Ru_addTerm.2.2.1 4 = .ok (.iload_n 1, 1) := by decide +kernel
theorem d_Ru_addTerm_5 : decode m_Ru_addTerm.2.2.1 5 = .ok (.iaload, 1) := by decide +kernel
theorem d_Ru_addTerm_6 : decode m_Ru_addTerm.2.2.1 6 = .ok (.bipush (6), 2) := by decide +kernel
theorem d_Ru_addTerm_8 : decode m_Ru_addTerm.2.2.1 8 = .ok (.if_icmp .lt (6), 3) := by decide +kernel
theorem d_Ru_addTerm_11 : decode m_Ru_addTerm.2.2.1 11 = .ok (.bipush (-3), 2) := by decide +kernel
theorem d_Ru_addTerm_13 : decode m_Ru_addTerm.2.2.1 13 = .ok (.ireturn, 1) := by decide +kernel
theorem d_Ru_addTerm_14 : decode m_Ru_addTerm.2.2.1 14 = .ok (.aload_n 0, 1) := by decide +kernel
theorem d_Ru_addTerm_15 : decode m_Ru_addTerm.2.2.1 15 = .ok (.getfield 17, 3) := by decide +kernel
theorem d_Ru_addTerm_18 : decode m_Ru_addTerm.2.2.1 18 = .ok (.iload_n 1, 1) := by decide +kernel
theorem d_Ru_addTerm_19 : decode m_Ru_addTerm.2.2.1 19 = .ok (.aaload, 1) := by decide +kernel
theorem d_Ru_addTerm_20 : decode m_Ru_addTerm.2.2.1 20 = .ok (.aload_n 0, 1) := by decide +kernel
theorem d_Ru_addTerm_21 : decode m_Ru_addTerm.2.2.1 21 = .ok (.getfield 11, 3) := by decide +kernel
theorem d_Ru_addTerm_24 : decode m_Ru_addTerm.2.2.1 24 = .ok (.iload_n 1, 1) := by decide +kernel
theorem d_Ru_addTerm_25 : decode m_Ru_addTerm.2.2.1 25 = .ok (.iaload, 1) := by decide +kernel
theorem d_Ru_addTerm_26 : decode m_Ru_addTerm.2.2.1 26 = .ok (.iload_n 2, 1) := by decide +kernel
theorem d_Ru_addTerm_27 : decode m_Ru_addTerm.2.2.1 27 = .ok (.iload_n 3, 1) := by decide +kernel
theorem d_Ru_addTerm_28 : decode m_Ru_addTerm.2.2.1 28 = .ok (.iload 4, 2) := by decide +kernel
theorem d_Ru_addTerm_30 : decode m_Ru_addTerm.2.2.1 30 = .ok (.invokestatic 34, 3) := by decide +kernel
theorem d_Ru_addTerm_33 : decode m_Ru_addTerm.2.2.1 33 = .ok (.aload_n 0, 1) := by decide +kernel
theorem d_Ru_addTerm_34 : decode m_Ru_addTerm.2.2.1 34 = .ok (.getfield 11, 3) := by decide +kernel
theorem d_Ru_addTerm_37 : decode m_Ru_addTerm.2.2.1 37 = .ok (.iload_n 1, 1) := by decide +kernel
theorem d_Ru_addTerm_38 : decode m_Ru_addTerm.2.2.1 38 = .ok (.dup2, 1) := by decide +kernel
theorem d_Ru_addTerm_39 : decode m_Ru_addTerm.2.2.1 39 = .ok (.iaload, 1) := by decide +kernel
theorem d_Ru_addTerm_40 : decode m_Ru_addTerm.2.2.1 40 = .ok (.iconst 1, 1) := by decide +kernel
theorem d_Ru_addTerm_41 : decode m_Ru_addTerm.2.2.1 41 = .ok (.iadd, 1) := by decide +kernel
theorem d_Ru_addTerm_42 : decode m_Ru_addTerm.2.2.1 42 = .ok (.iastore, 1) := by decide +kernel
theorem d_Ru_addTerm_43 : decode m_Ru_addTerm.2.2.1 43 = .ok (.aload_n 0, 1) := by decide +kernel
theorem d_Ru_addTerm_44 : decode m_Ru_addTerm.2.2.1 44 = .ok (.getfield 11, 3) := by decide +kernel
theorem d_Ru_addTerm_47 : decode m_Ru_addTerm.2.2.1 47 = .ok (.iload_n 1, 1) := by decide +kernel
theorem d_Ru_addTerm_48 : decode m_Ru_addTerm.2.2.1 48 = .ok (.iaload, 1) := by decide +kernel
theorem d_Ru_addTerm_49 : decode m_Ru_addTerm.2.2.1 49 = .ok (.ireturn, 1) := by decide +kernel
theorem d_Ru_addBound_0 : decode m_Ru_addBound.2.2.1 0 = .ok (.aload_n 0, 1) := by decide +kernel
theorem d_Ru_addBound_1 : decode m_Ru_addBound.2.2.1 1 = .ok (.getfield 30, 3) := by decide +kernel
theorem d_Ru_addBound_4 : decode m_Ru_addBound.2.2.1 4 = .ok (.iconst 4, 1) := by decide +kernel
theorem d_Ru_addBound_5 : decode m_Ru_addBound.2.2.1 5 = .ok (.if_icmp .lt (6), 3) := by decide +kernel
theorem d_Ru_addBound_8 : decode m_Ru_addBound.2.2.1 8 = .ok (.bipush (-3), 2) := by decide +kernel
theorem d_Ru_addBound_10 : decode m_Ru_addBound.2.2.1 10 = .ok (.ireturn, 1) := by decide +kernel
theorem d_Ru_addBound_11 : decode m_Ru_addBound.2.2.1 11 = .ok (.aload_n 0, 1) := by decide +kernel
theorem d_Ru_addBound_12 : decode m_Ru_addBound.2.2.1 12 = .ok (.getfield 20, 3) := by decide +kernel
theorem d_Ru_addBound_15 : decode m_Ru_addBound.2.2.1 15 = .ok (.aload_n 0, 1) := by decide +kernel
theorem d_Ru_addBound_16 : decode m_Ru_addBound.2.2.1 16 = .ok (.getfield 30, 3) := by decide +kernel
theorem d_Ru_addBound_19 : decode m_Ru_addBound.2.2.1 19 = .ok (.iload_n 1, 1) := by decide +kernel
theorem d_Ru_addBound_20 : decode m_Ru_addBound.2.2.1 20 = .ok (.iload_n 2, 1) := by decide +kernel
theorem d_Ru_addBound_21 : decode m_Ru_addBound.2.2.1 21 = .ok (.iload_n 3, 1) := by decide +kernel
theorem d_Ru_addBound_22 : decode m_Ru_addBound.2.2.1 22 = .ok (.invokestatic 34, 3) := by decide +kernel
theorem d_Ru_addBound_25 : decode m_Ru_addBound.2.2.1 25 = .ok (.aload_n 0, 1) := by decide +kernel
theorem d_Ru_addBound_26 : decode m_Ru_addBound.2.2.1 26 = .ok (.dup, 1) := by decide +kernel
theorem d_Ru_addBound_27 : decode m_Ru_addBound.2.2.1 27 = .ok (.getfield 30, 3) := by decide +kernel
theorem d_Ru_addBound_30 : decode m_Ru_addBound.2.2.1 30 = .ok (.iconst 1, 1) := by decide +kernel
theorem d_Ru_addBound_31 : decode m_Ru_addBound.2.2.1 31 = .ok (.iadd, 1) := by decide +kernel
theorem d_Ru_addBound_32 : decode m_Ru_addBound.2.2.1 32 = .ok (.putfield 30, 3) := by decide +kernel
theorem d_Ru_addBound_35 : decode m_Ru_addBound.2.2.1 35 = .ok (.aload_n 0, 1) := by decide +kernel
theorem d_Ru_addBound_36 : decode m_Ru_addBound.2.2.1 36 = .ok (.getfield 30, 3) := by decide +kernel
theorem d_Ru_addBound_39 : decode m_Ru_addBound.2.2.1 39 = .ok (.ireturn, 1) := by decide +kernel
theorem d_Ru_write_0 : decode m_Ru_write.2.2.1 0 = .ok (.aload_n 0, 1) := by decide +kernel
theorem d_Ru_write_1 : decode m_Ru_write.2.2.1 1 = .ok (.iconst 3, 1) := by decide +kernel
theorem d_Ru_write_2 : decode m_Ru_write.2.2.1 2 = .ok (.iload_n 1, 1) := by decide +kernel
theorem d_Ru_write_3 : decode m_Ru_write.2.2.1 3 = .ok (.imul, 1) := by decide +kernel
theorem d_Ru_write_4 : decode m_Ru_write.2.2.1 4 = .ok (.iload_n 2, 1) := by decide +kernel
theorem d_Ru_write_5 : decode m_Ru_write.2.2.1 5 = .ok (.iastore, 1) := by decide +kernel
theorem d_Ru_write_6 : decode m_Ru_write.2.2.1 6 = .ok (.aload_n 0, 1) := by decide +kernel
theorem d_Ru_write_7 : decode m_Ru_write.2.2.1 7 = .ok (.iconst 3, 1) := by decide +kernel
theorem d_Ru_write_8 : decode m_Ru_write.2.2.1 8 = .ok (.iload_n 1, 1) := by decide +kernel
theorem d_Ru_write_9 : decode m_Ru_write.2.2.1 9 = .ok (.imul, 1) := by decide +kernel
theorem d_Ru_write_10 : decode m_Ru_write.2.2.1 10 = .ok (.iconst 1, 1) := by decide +kernel
theorem d_Ru_write_11 : decode m_Ru_write.2.2.1 11 = .ok (.iadd, 1) := by decide +kernel
theorem d_Ru_write_12 : decode m_Ru_write.2.2.1 12 = .ok (.iload_n 3, 1) := by decide +kernel
theorem d_Ru_write_13 : decode m_Ru_write.2.2.1 13 = .ok (.iastore, 1) := by decide +kernel
theorem d_Ru_write_14 : decode m_Ru_write.2.2.1 14 = .ok (.aload_n 0, 1) := by decide +kernel
theorem d_Ru_write_15 : decode m_Ru_write.2.2.1 15 = .ok (.iconst 3, 1) := by decide +kernel
theorem d_Ru_write_16 : decode m_Ru_write.2.2.1 16 = .ok (.iload_n 1, 1) := by decide +kernel
theorem d_Ru_write_17 : decode m_Ru_write.2.2.1 17 = .ok (.imul, 1) := by decide +kernel
theorem d_Ru_write_18 : decode m_Ru_write.2.2.1 18 = .ok (.iconst 2, 1) := by decide +kernel
theorem d_Ru_write_19 : decode m_Ru_write.2.2.1 19 = .ok (.iadd, 1) := by decide +kernel
theorem d_Ru_write_20 : decode m_Ru_write.2.2.1 20 = .ok (.iload 4, 2) := by decide +kernel
theorem d_Ru_write_22 : decode m_Ru_write.2.2.1 22 = .ok (.iastore, 1) := by decide +kernel
theorem d_Ru_write_23 : decode m_Ru_write.2.2.1 23 = .ok (.return_, 1) := by decide +kernel
theorem d_Ru_dropAll_0 : decode m_Ru_dropAll.2.2.1 0 = .ok (.aload_n 0, 1) := by decide +kernel
theorem d_Ru_dropAll_1 : decode m_Ru_dropAll.2.2.1 1 = .ok (.getfield 11, 3) := by decide +kernel
theorem d_Ru_dropAll_4 : decode m_Ru_dropAll.2.2.1 4 = .ok (.iconst 0, 1) := by decide +kernel
theorem d_Ru_dropAll_5 : decode m_Ru_dropAll.2.2.1 5 = .ok (.iconst 0, 1) := by decide +kernel
theorem d_Ru_dropAll_6 : decode m_Ru_dropAll.2.2.1 6 = .ok (.iastore, 1) := by decide +kernel
theorem d_Ru_dropAll_7 : decode m_Ru_dropAll.2.2.1 7 = .ok (.aload_n 0, 1) := by decide +kernel
theorem d_Ru_dropAll_8 : decode m_Ru_dropAll.2.2.1 8 = .ok (.getfield 11, 3) := by decide +kernel
theorem d_Ru_dropAll_11 : decode m_Ru_dropAll.2.2.1 11 = .ok (.iconst 1, 1) := by decide +kernel
theorem d_Ru_dropAll_12 : decode m_Ru_dropAll.2.2.1 12 = .ok (.iconst 0, 1) := by decide +kernel
theorem d_Ru_dropAll_13 : decode m_Ru_dropAll.2.2.1 13 = .ok (.iastore, 1) := by decide +kernel
theorem d_Ru_dropAll_14 : decode m_Ru_dropAll.2.2.1 14 = .ok (.aload_n 0, 1) := by decide +kernel
theorem d_Ru_dropAll_15 : decode m_Ru_dropAll.2.2.1 15 = .ok (.iconst 0, 1) := by decide +kernel
theorem d_Ru_dropAll_16 : decode m_Ru_dropAll.2.2.1 16 = .ok (.putfield 30, 3) := by decide +kernel
theorem d_Ru_dropAll_19 : decode m_Ru_dropAll.2.2.1 19 = .ok (.return_, 1) := by decide +kernel
theorem d_Ru_areNone_0 : decode m_Ru_areNone.2.2.1 0 = .ok (.aload_n 0, 1) := by decide +kernel
theorem d_Ru_areNone_1 : decode m_Ru_areNone.2.2.1 1 = .ok (.invokevirtual 38, 3) := by decide +kernel
theorem d_Ru_areNone_4 : decode m_Ru_areNone.2.2.1 4 = .ok (.ifCond .ne (14), 3) := by decide +kernel
theorem d_Ru_areNone_7 : decode m_Ru_areNone.2.2.1 7 = .ok (.aload_n 0, 1) := by decide +kernel
theorem d_Ru_areNone_8 : decode m_Ru_areNone.2.2.1 8 = .ok (.getfield 30, 3) := by decide +kernel
theorem d_Ru_areNone_11 : decode m_Ru_areNone.2.2.1 11 = .ok (.ifCond .ne (7), 3) := by decide +kernel
theorem d_Ru_areNone_14 : decode m_Ru_areNone.2.2.1 14 = .ok (.iconst 1, 1) := by decide +kernel
theorem d_Ru_areNone_15 : decode m_Ru_areNone.2.2.1 15 = .ok (.goto (4), 3) := by decide +kernel
theorem d_Ru_areNone_18 : decode m_Ru_areNone.2.2.1 18 = .ok (.iconst 0, 1) := by decide +kernel
theorem d_Ru_areNone_19 : decode m_Ru_areNone.2.2.1 19 = .ok (.ireturn, 1) := by decide +kernel
theorem d_Ru_constraintCount_0 : decode m_Ru_constraintCount.2.2.1 0 = .ok (.aload_n 0, 1) := by decide +kernel
theorem d_Ru_constraintCount_1 : decode m_Ru_constraintCount.2.2.1 1 = .ok (.getfield 11, 3) := by decide +kernel
theorem d_Ru_constraintCount_4 : decode m_Ru_constraintCount.2.2.1 4 = .ok (.iconst 1, 1) := by decide +kernel
theorem d_Ru_constraintCount_5 : decode m_Ru_constraintCount.2.2.1 5 = .ok (.iaload, 1) := by decide +kernel
theorem d_Ru_constraintCount_6 : decode m_Ru_constraintCount.2.2.1 6 = .ok (.ifCond .le (5), 3) := by decide +kernel
theorem d_Ru_constraintCount_9 : decode m_Ru_constraintCount.2.2.1 9 = .ok (.iconst 2, 1) := by decide +kernel
theorem d_Ru_constraintCount_10 : decode m_Ru_constraintCount.2.2.1 10 = .ok (.ireturn, 1) := by decide +kernel
theorem d_Ru_constraintCount_11 : decode m_Ru_constraintCount.2.2.1 11 = .ok (.aload_n 0, 1) := by decide +kernel
theorem d_Ru_constraintCount_12 : decode m_Ru_constraintCount.2.2.1 12 = .ok (.getfield 11, 3) := by decide +kernel
theorem d_Ru_constraintCount_15 : decode m_Ru_constraintCount.2.2.1 15 = .ok (.iconst 0, 1) := by decide +kernel
theorem d_Ru_constraintCount_16 : decode m_Ru_constraintCount.2.2.1 16 = .ok (.iaload, 1) := by decide +kernel
theorem d_Ru_constraintCount_17 : decode m_Ru_constraintCount.2.2.1 17 = .ok (.ifCond .le (7), 3) := by decide +kernel
theorem d_Ru_constraintCount_20 : decode m_Ru_constraintCount.2.2.1 20 = .ok (.iconst 1, 1) := by decide +kernel
theorem d_Ru_constraintCount_21 : decode m_Ru_constraintCount.2.2.1 21 = .ok (.goto (4), 3) := by decide +kernel
theorem d_Ru_constraintCount_24 : decode m_Ru_constraintCount.2.2.1 24 = .ok (.iconst 0, 1) := by decide +kernel
theorem d_Ru_constraintCount_25 : decode m_Ru_constraintCount.2.2.1 25 = .ok (.ireturn, 1) := by decide +kernel
theorem d_Ru_tellTo_0 : decode m_Ru_tellTo.2.2.1 0 = .ok (.aload_n 0, 1) := by decide +kernel
theorem d_Ru_tellTo_1 : decode m_Ru_tellTo.2.2.1 1 = .ok (.invokevirtual 38, 3) := by decide +kernel
theorem d_Ru_tellTo_4 : decode m_Ru_tellTo.2.2.1 4 = .ok (.istore_n 2, 1) := by decide +kernel
theorem d_Ru_tellTo_5 : decode m_Ru_tellTo.2.2.1 5 = .ok (.aload_n 1, 1) := by decide +kernel
theorem d_Ru_tellTo_6 : decode m_Ru_tellTo.2.2.1 6 = .ok (.iload_n 2, 1) := by decide +kernel
theorem d_Ru_tellTo_7 : decode m_Ru_tellTo.2.2.1 7 = .ok (.invokevirtual 42, 3) := by decide +kernel
theorem d_Ru_tellTo_10 : decode m_Ru_tellTo.2.2.1 10 = .ok (.iconst 0, 1) := by decide +kernel
theorem d_Ru_tellTo_11 : decode m_Ru_tellTo.2.2.1 11 = .ok (.istore_n 3, 1) := by decide +kernel
theorem d_Ru_tellTo_12 : decode m_Ru_tellTo.2.2.1 12 = .ok (.iload_n 3, 1) := by decide +kernel
theorem d_Ru_tellTo_13 : decode m_Ru_tellTo.2.2.1 13 = .ok (.iload_n 2, 1) := by decide +kernel
theorem d_Ru_tellTo_14 : decode m_Ru_tellTo.2.2.1 14 = .ok (.if_icmp .ge (25), 3) := by decide +kernel
theorem d_Ru_tellTo_17 : decode m_Ru_tellTo.2.2.1 17 = .ok (.aload_n 1, 1) := by decide +kernel
theorem d_Ru_tellTo_18 : decode m_Ru_tellTo.2.2.1 18 = .ok (.aload_n 0, 1) := by decide +kernel
theorem d_Ru_tellTo_19 : decode m_Ru_tellTo.2.2.1 19 = .ok (.getfield 17, 3) := by decide +kernel
theorem d_Ru_tellTo_22 : decode m_Ru_tellTo.2.2.1 22 = .ok (.iload_n 3, 1) := by decide +kernel
theorem d_Ru_tellTo_23 : decode m_Ru_tellTo.2.2.1 23 = .ok (.aaload, 1) := by decide +kernel
theorem d_Ru_tellTo_24 : decode m_Ru_tellTo.2.2.1 24 = .ok (.aload_n 0, 1) := by decide +kernel
theorem d_Ru_tellTo_25 : decode m_Ru_tellTo.2.2.1 25 = .ok (.getfield 11, 3) := by decide +kernel
theorem d_Ru_tellTo_28 : decode m_Ru_tellTo.2.2.1 28 = .ok (.iload_n 3, 1) := by decide +kernel
theorem d_Ru_tellTo_29 : decode m_Ru_tellTo.2.2.1 29 = .ok (.iaload, 1) := by decide +kernel
theorem d_Ru_tellTo_30 : decode m_Ru_tellTo.2.2.1 30 = .ok (.invokestatic 48, 3) := by decide +kernel
theorem d_Ru_tellTo_33 : decode m_Ru_tellTo.2.2.1 33 = .ok (.iinc 3 (1), 3) := by decide +kernel
theorem d_Ru_tellTo_36 : decode m_Ru_tellTo.2.2.1 36 = .ok (.goto (-24), 3) := by decide +kernel
theorem d_Ru_tellTo_39 : decode m_Ru_tellTo.2.2.1 39 = .ok (.aload_n 1, 1) := by decide +kernel
theorem d_Ru_tellTo_40 : decode m_Ru_tellTo.2.2.1 40 = .ok (.aload_n 0, 1) := by decide +kernel
theorem d_Ru_tellTo_41 : decode m_Ru_tellTo.2.2.1 41 = .ok (.getfield 20, 3) := by decide +kernel
theorem d_Ru_tellTo_44 : decode m_Ru_tellTo.2.2.1 44 = .ok (.aload_n 0, 1) := by decide +kernel
theorem d_Ru_tellTo_45 : decode m_Ru_tellTo.2.2.1 45 = .ok (.getfield 30, 3) := by decide +kernel
theorem d_Ru_tellTo_48 : decode m_Ru_tellTo.2.2.1 48 = .ok (.invokestatic 48, 3) := by decide +kernel
theorem d_Ru_tellTo_51 : decode m_Ru_tellTo.2.2.1 51 = .ok (.return_, 1) := by decide +kernel
theorem d_Ru_tellParts_0 : decode m_Ru_tellParts.2.2.1 0 = .ok (.aload_n 0, 1) := by decide +kernel
theorem d_Ru_tellParts_1 : decode m_Ru_tellParts.2.2.1 1 = .ok (.iload_n 2, 1) := by decide +kernel
theorem d_Ru_tellParts_2 : decode m_Ru_tellParts.2.2.1 2 = .ok (.invokevirtual 42, 3) := by decide +kernel
theorem d_Ru_tellParts_5 : decode m_Ru_tellParts.2.2.1 5 = .ok (.iconst 0, 1) := by decide +kernel
theorem d_Ru_tellParts_6 : decode m_Ru_tellParts.2.2.1 6 = .ok (.istore_n 3, 1) := by decide +kernel
theorem d_Ru_tellParts_7 : decode m_Ru_tellParts.2.2.1 7 = .ok (.iload_n 3, 1) := by decide +kernel
theorem d_Ru_tellParts_8 : decode m_Ru_tellParts.2.2.1 8 = .ok (.iconst 3, 1) := by decide +kernel
theorem d_Ru_tellParts_9 : decode m_Ru_tellParts.2.2.1 9 = .ok (.iload_n 2, 1) := by decide +kernel
theorem d_Ru_tellParts_10 : decode m_Ru_tellParts.2.2.1 10 = .ok (.imul, 1) := by decide +kernel
theorem d_Ru_tellParts_11 : decode m_Ru_tellParts.2.2.1 11 = .ok (.if_icmp .ge (16), 3) := by decide +kernel
theorem d_Ru_tellParts_14 : decode m_Ru_tellParts.2.2.1 14 = .ok (.aload_n 0, 1) := by decide +kernel
theorem d_Ru_tellParts_15 : decode m_Ru_tellParts.2.2.1 15 = .ok (.aload_n 1, 1) := by decide +kernel
theorem d_Ru_tellParts_16 : decode m_Ru_tellParts.2.2.1 16 = .ok (.iload_n 3, 1) := by decide +kernel
theorem d_Ru_tellParts_17 : decode m_Ru_tellParts.2.2.1 17 = .ok (.iaload, 1) := by decide +kernel
theorem d_Ru_tellParts_18 : decode m_Ru_tellParts.2.2.1 18 = .ok (.invokevirtual 42, 3) := by decide +kernel
theorem d_Ru_tellParts_21 : decode m_Ru_tellParts.2.2.1 21 = .ok (.iinc 3 (1), 3) := by decide +kernel
theorem d_Ru_tellParts_24 : decode m_Ru_tellParts.2.2.1 24 = .ok (.goto (-17), 3) := by decide +kernel
theorem d_Ru_tellParts_27 : decode m_Ru_tellParts.2.2.1 27 = .ok (.return_, 1) := by decide +kernel
theorem d_Ru_areBrokenIn_0 : decode m_Ru_areBrokenIn.2.2.1 0 = .ok (.iload_n 2, 1) := by decide +kernel
theorem d_Ru_areBrokenIn_1 : decode m_Ru_areBrokenIn.2.2.1 1 = .ok (.bipush (7), 2) := by decide +kernel
theorem d_Ru_areBrokenIn_3 : decode m_Ru_areBrokenIn.2.2.1 3 = .ok (.if_icmp .ge (12), 3) := by decide +kernel
theorem d_Ru_areBrokenIn_6 : decode m_Ru_areBrokenIn.2.2.1 6 = .ok (.aload_n 0, 1) := by decide +kernel
theorem d_Ru_areBrokenIn_7 : decode m_Ru_areBrokenIn.2.2.1 7 = .ok (.aload_n 1, 1) := by decide +kernel
theorem d_Ru_areBrokenIn_8 : decode m_Ru_areBrokenIn.2.2.1 8 = .ok (.iload_n 2, 1) := by decide +kernel
theorem d_Ru_areBrokenIn_9 : decode m_Ru_areBrokenIn.2.2.1 9 = .ok (.invokevirtual 52, 3) := by decide +kernel
theorem d_Ru_areBrokenIn_12 : decode m_Ru_areBrokenIn.2.2.1 12 = .ok (.ifCond .ne (12), 3) := by decide +kernel
theorem d_Ru_areBrokenIn_15 : decode m_Ru_areBrokenIn.2.2.1 15 = .ok (.aload_n 0, 1) := by decide +kernel
theorem d_Ru_areBrokenIn_16 : decode m_Ru_areBrokenIn.2.2.1 16 = .ok (.aload_n 1, 1) := by decide +kernel
theorem d_Ru_areBrokenIn_17 : decode m_Ru_areBrokenIn.2.2.1 17 = .ok (.iload_n 2, 1) := by decide +kernel
theorem d_Ru_areBrokenIn_18 : decode m_Ru_areBrokenIn.2.2.1 18 = .ok (.invokevirtual 56, 3) := by decide +kernel
theorem d_Ru_areBrokenIn_21 : decode m_Ru_areBrokenIn.2.2.1 21 = .ok (.ifCond .eq (7), 3) := by decide +kernel
theorem d_Ru_areBrokenIn_24 : decode m_Ru_areBrokenIn.2.2.1 24 = .ok (.iconst 1, 1) := by decide +kernel
theorem d_Ru_areBrokenIn_25 : decode m_Ru_areBrokenIn.2.2.1 25 = .ok (.goto (4), 3) := by decide +kernel
theorem d_Ru_areBrokenIn_28 : decode m_Ru_areBrokenIn.2.2.1 28 = .ok (.iconst 0, 1) := by decide +kernel
theorem d_Ru_areBrokenIn_29 : decode m_Ru_areBrokenIn.2.2.1 29 = .ok (.ireturn, 1) := by decide +kernel
theorem d_Ru_isStepBroken_0 : decode m_Ru_isStepBroken.2.2.1 0 = .ok (.aload_n 0, 1) := by decide +kernel
theorem d_Ru_isStepBroken_1 : decode m_Ru_isStepBroken.2.2.1 1 = .ok (.aload_n 1, 1) := by decide +kernel
theorem d_Ru_isStepBroken_2 : decode m_Ru_isStepBroken.2.2.1 2 = .ok (.iconst 0, 1) := by decide +kernel
theorem d_Ru_isStepBroken_3 : decode m_Ru_isStepBroken.2.2.1 3 = .ok (.iload_n 2, 1) := by decide +kernel
theorem d_Ru_isStepBroken_4 : decode m_Ru_isStepBroken.2.2.1 4 = .ok (.invokevirtual 59, 3) := by decide +kernel
theorem d_Ru_isStepBroken_7 : decode m_Ru_isStepBroken.2.2.1 7 = .ok (.aload_n 1, 1) := by decide +kernel
theorem d_Ru_isStepBroken_8 : decode m_Ru_isStepBroken.2.2.1 8 = .ok (.iconst 1, 1) := by decide +kernel
theorem d_Ru_isStepBroken_9 : decode m_Ru_isStepBroken.2.2.1 9 = .ok (.iload_n 2, 1) := by decide +kernel
theorem d_Ru_isStepBroken_10 : decode m_Ru_isStepBroken.2.2.1 10 = .ok (.invokevirtual 59, 3) := by decide +kernel
theorem d_Ru_isStepBroken_13 : decode m_Ru_isStepBroken.2.2.1 13 = .ok (.aload_n 1, 1) := by decide +kernel
theorem d_Ru_isStepBroken_14 : decode m_Ru_isStepBroken.2.2.1 14 = .ok (.iconst 0, 1) := by decide +kernel
theorem d_Ru_isStepBroken_15 : decode m_Ru_isStepBroken.2.2.1 15 = .ok (.iload_n 2, 1) := by decide +kernel
theorem d_Ru_isStepBroken_16 : decode m_Ru_isStepBroken.2.2.1 16 = .ok (.iconst 1, 1) := by decide +kernel
theorem d_Ru_isStepBroken_17 : decode m_Ru_isStepBroken.2.2.1 17 = .ok (.iadd, 1) := by decide +kernel
theorem d_Ru_isStepBroken_18 : decode m_Ru_isStepBroken.2.2.1 18 = .ok (.invokevirtual 59, 3) := by decide +kernel
theorem d_Ru_isStepBroken_21 : decode m_Ru_isStepBroken.2.2.1 21 = .ok (.aload_n 1, 1) := by decide +kernel
theorem d_Ru_isStepBroken_22 : decode m_Ru_isStepBroken.2.2.1 22 = .ok (.iconst 1, 1) := by decide +kernel
theorem d_Ru_isStepBroken_23 : decode m_Ru_isStepBroken.2.2.1 23 = .ok (.iload_n 2, 1) := by decide +kernel
theorem d_Ru_isStepBroken_24 : decode m_Ru_isStepBroken.2.2.1 24 = .ok (.iconst 1, 1) := by decide +kernel
theorem d_Ru_isStepBroken_25 : decode m_Ru_isStepBroken.2.2.1 25 = .ok (.iadd, 1) := by decide +kernel
theorem d_Ru_isStepBroken_26 : decode m_Ru_isStepBroken.2.2.1 26 = .ok (.invokevirtual 59, 3) := by decide +kernel
theorem d_Ru_isStepBroken_29 : decode m_Ru_isStepBroken.2.2.1 29 = .ok (.invokevirtual 65, 3) := by decide +kernel
theorem d_Ru_isStepBroken_32 : decode m_Ru_isStepBroken.2.2.1 32 = .ok (.iconst 0, 1) := by decide +kernel
theorem d_Ru_isStepBroken_33 : decode m_Ru_isStepBroken.2.2.1 33 = .ok (.istore_n 3, 1) := by decide +kernel
theorem d_Ru_isStepBroken_34 : decode m_Ru_isStepBroken.2.2.1 34 = .ok (.iload_n 3, 1) := by decide +kernel
theorem d_Ru_isStepBroken_35 : decode m_Ru_isStepBroken.2.2.1 35 = .ok (.iconst 2, 1) := by decide +kernel
theorem d_Ru_isStepBroken_36 : decode m_Ru_isStepBroken.2.2.1 36 = .ok (.if_icmp .ge (19), 3) := by decide +kernel
theorem d_Ru_isStepBroken_39 : decode m_Ru_isStepBroken.2.2.1 39 = .ok (.aload_n 0, 1) := by decide +kernel
theorem d_Ru_isStepBroken_40 : decode m_Ru_isStepBroken.2.2.1 40 = .ok (.iload_n 3, 1) := by decide +kernel
theorem d_Ru_isStepBroken_41 : decode m_Ru_isStepBroken.2.2.1 41 = .ok (.invokevirtual 69, 3) := by decide +kernel
theorem d_Ru_isStepBroken_44 : decode m_Ru_isStepBroken.2.2.1 44 = .ok (.ifCond .eq (5), 3) := by decide +kernel
theorem d_Ru_isStepBroken_47 : decode m_Ru_isStepBroken.2.2.1 47 = .ok (.iconst 1, 1) := by decide +kernel
theorem d_Ru_isStepBroken_48 : decode m_Ru_isStepBroken.2.2.1 48 = .ok (.ireturn, 1) := by decide +kernel
theorem d_Ru_isStepBroken_49 : decode m_Ru_isStepBroken.2.2.1 49 = .ok (.iinc 3 (1), 3) := by decide +kernel
theorem d_Ru_isStepBroken_52 : decode m_Ru_isStepBroken.2.2.1 52 = .ok (.goto (-18), 3) := by decide +kernel
theorem d_Ru_isStepBroken_55 : decode m_Ru_isStepBroken.2.2.1 55 = .ok (.iconst 0, 1) := by decide +kernel
theorem d_Ru_isStepBroken_56 : decode m_Ru_isStepBroken.2.2.1 56 = .ok (.ireturn, 1) := by decide +kernel
theorem d_Ru_isBoundBroken_0 : decode m_Ru_isBoundBroken.2.2.1 0 = .ok (.iconst 0, 1) := by decide +kernel
theorem d_Ru_isBoundBroken_1 : decode m_Ru_isBoundBroken.2.2.1 1 = .ok (.istore_n 3, 1) := by decide +kernel
theorem d_Ru_isBoundBroken_2 : decode m_Ru_isBoundBroken.2.2.1 2 = .ok (.iload_n 3, 1) := by decide +kernel
theorem d_Ru_isBoundBroken_3 : decode m_Ru_isBoundBroken.2.2.1 3 = .ok (.aload_n 0, 1) := by decide +kernel
theorem d_Ru_isBoundBroken_4 : decode m_Ru_isBoundBroken.2.2.1 4 = .ok (.getfield 30, 3) := by decide +kernel
theorem d_Ru_isBoundBroken_7 : decode m_Ru_isBoundBroken.2.2.1 7 = .ok (.if_icmp .ge (38), 3) := by decide +kernel
theorem d_Ru_isBoundBroken_10 : decode m_Ru_isBoundBroken.2.2.1 10 = .ok (.aload_n 0, 1) := by decide +kernel
theorem d_Ru_isBoundBroken_11 : decode m_Ru_isBoundBroken.2.2.1 11 = .ok (.iload_n 3, 1) := by decide +kernel
theorem d_Ru_isBoundBroken_12 : decode m_Ru_isBoundBroken.2.2.1 12 = .ok (.invokevirtual 73, 3) := by decide +kernel
theorem d_Ru_isBoundBroken_15 : decode m_Ru_isBoundBroken.2.2.1 15 = .ok (.iload_n 2, 1) := by decide +kernel
theorem d_Ru_isBoundBroken_16 : decode m_Ru_isBoundBroken.2.2.1 16 = .ok (.if_icmp .ne (23), 3) := by decide +kernel
theorem d_Ru_isBoundBroken_19 : decode m_Ru_isBoundBroken.2.2.1 19 = .ok (.aload_n 1, 1) := by decide +kernel
theorem d_Ru_isBoundBroken_20 : decode m_Ru_isBoundBroken.2.2.1 20 = .ok (.aload_n 0, 1) := by decide +kernel
theorem d_Ru_isBoundBroken_21 : decode m_Ru_isBoundBroken.2.2.1 21 = .ok (.iload_n 3, 1) := by decide +kernel
theorem d_Ru_isBoundBroken_22 : decode m_Ru_isBoundBroken.2.2.1 22 = .ok (.invokevirtual 76, 3) := by decide +kernel
theorem d_Ru_isBoundBroken_25 : decode m_Ru_isBoundBroken.2.2.1 25 = .ok (.iload_n 2, 1) := by decide +kernel
theorem d_Ru_isBoundBroken_26 : decode m_Ru_isBoundBroken.2.2.1 26 = .ok (.invokevirtual 59, 3) := by decide +kernel
theorem d_Ru_isBoundBroken_29 : decode m_Ru_isBoundBroken.2.2.1 29 = .ok (.aload_n 0, 1) := by decide +kernel
theorem d_Ru_isBoundBroken_30 : decode m_Ru_isBoundBroken.2.2.1 30 = .ok (.iload_n 3, 1) := by decide +kernel
theorem d_Ru_isBoundBroken_31 : decode m_Ru_isBoundBroken.2.2.1 31 = .ok (.invokevirtual 79, 3) := by decide +kernel
theorem d_Ru_isBoundBroken_34 : decode m_Ru_isBoundBroken.2.2.1 34 = .ok (.if_icmp .eq (5), 3) := by decide +kernel
theorem d_Ru_isBoundBroken_37 : decode m_Ru_isBoundBroken.2.2.1 37 = .ok (.iconst 1, 1) := by decide +kernel
theorem d_Ru_isBoundBroken_38 : decode m_Ru_isBoundBroken.2.2.1 38 = .ok (.ireturn, 1) := by decide +kernel
theorem d_Ru_isBoundBroken_39 : decode m_Ru_isBoundBroken.2.2.1 39 = .ok (.iinc 3 (1), 3) := by decide +kernel
theorem d_Ru_isBoundBroken_42 : decode m_Ru_isBoundBroken.2.2.1 42 = .ok (.goto (-40), 3) := by decide +kernel
theorem d_Ru_isBoundBroken_45 : decode m_Ru_isBoundBroken.2.2.1 45 = .ok (.iconst 0, 1) := by decide +kernel
theorem d_Ru_isBoundBroken_46 : decode m_Ru_isBoundBroken.2.2.1 46 = .ok (.ireturn, 1) := by decide +kernel
theorem d_Ru_read_0 : decode m_Ru_read.2.2.1 0 = .ok (.aload_n 0, 1) := by decide +kernel
theorem d_Ru_read_1 : decode m_Ru_read.2.2.1 1 = .ok (.getfield 23, 3) := by decide +kernel
theorem d_Ru_read_4 : decode m_Ru_read.2.2.1 4 = .ok (.iconst 1, 1) := by decide +kernel
theorem d_Ru_read_5 : decode m_Ru_read.2.2.1 5 = .ok (.iload_n 1, 1) := by decide +kernel
theorem d_Ru_read_6 : decode m_Ru_read.2.2.1 6 = .ok (.iastore, 1) := by decide +kernel
theorem d_Ru_read_7 : decode m_Ru_read.2.2.1 7 = .ok (.aload_n 0, 1) := by decide +kernel
theorem d_Ru_read_8 : decode m_Ru_read.2.2.1 8 = .ok (.getfield 23, 3) := by decide +kernel
theorem d_Ru_read_11 : decode m_Ru_read.2.2.1 11 = .ok (.iconst 2, 1) := by decide +kernel
theorem d_Ru_read_12 : decode m_Ru_read.2.2.1 12 = .ok (.iload_n 2, 1) := by decide +kernel
theorem d_Ru_read_13 : decode m_Ru_read.2.2.1 13 = .ok (.iastore, 1) := by decide +kernel
theorem d_Ru_read_14 : decode m_Ru_read.2.2.1 14 = .ok (.aload_n 0, 1) := by decide +kernel
theorem d_Ru_read_15 : decode m_Ru_read.2.2.1 15 = .ok (.getfield 23, 3) := by decide +kernel
theorem d_Ru_read_18 : decode m_Ru_read.2.2.1 18 = .ok (.iconst 3, 1) := by decide +kernel
theorem d_Ru_read_19 : decode m_Ru_read.2.2.1 19 = .ok (.iload_n 3, 1) := by decide +kernel
theorem d_Ru_read_20 : decode m_Ru_read.2.2.1 20 = .ok (.iastore, 1) := by decide +kernel
theorem d_Ru_read_21 : decode m_Ru_read.2.2.1 21 = .ok (.aload_n 0, 1) := by decide +kernel
theorem d_Ru_read_22 : decode m_Ru_read.2.2.1 22 = .ok (.getfield 23, 3) := by decide +kernel
theorem d_Ru_read_25 : decode m_Ru_read.2.2.1 25 = .ok (.iconst 4, 1) := by decide +kernel
theorem d_Ru_read_26 : decode m_Ru_read.2.2.1 26 = .ok (.iload 4, 2) := by decide +kernel
theorem d_Ru_read_28 : decode m_Ru_read.2.2.1 28 = .ok (.iastore, 1) := by decide +kernel
theorem d_Ru_read_29 : decode m_Ru_read.2.2.1 29 = .ok (.return_, 1) := by decide +kernel
theorem d_Ru_termSum_0 : decode m_Ru_termSum.2.2.1 0 = .ok (.aload_n 0, 1) := by decide +kernel
theorem d_Ru_termSum_1 : decode m_Ru_termSum.2.2.1 1 = .ok (.getfield 17, 3) := by decide +kernel
theorem d_Ru_termSum_4 : decode m_Ru_termSum.2.2.1 4 = .ok (.iload_n 1, 1) := by decide +kernel
theorem d_Ru_termSum_5 : decode m_Ru_termSum.2.2.1 5 = .ok (.aaload, 1) := by decide +kernel
theorem d_Ru_termSum_6 : decode m_Ru_termSum.2.2.1 6 = .ok (.astore_n 2, 1) := by decide +kernel
theorem d_Ru_termSum_7 : decode m_Ru_termSum.2.2.1 7 = .ok (.iconst 0, 1) := by decide +kernel
theorem d_Ru_termSum_8 : decode m_Ru_termSum.2.2.1 8 = .ok (.istore_n 3, 1) := by decide +kernel
theorem d_Ru_termSum_9 : decode m_Ru_termSum.2.2.1 9 = .ok (.iconst 0, 1) := by decide +kernel
theorem d_Ru_termSum_10 : decode m_Ru_termSum.2.2.1 10 = .ok (.istore 4, 2) := by decide +kernel
theorem d_Ru_termSum_12 : decode m_Ru_termSum.2.2.1 12 = .ok (.iload 4, 2) := by decide +kernel
theorem d_Ru_termSum_14 : decode m_Ru_termSum.2.2.1 14 = .ok (.aload_n 0, 1) := by decide +kernel
theorem d_Ru_termSum_15 : decode m_Ru_termSum.2.2.1 15 = .ok (.getfield 11, 3) := by decide +kernel
theorem d_Ru_termSum_18 : decode m_Ru_termSum.2.2.1 18 = .ok (.iload_n 1, 1) := by decide +kernel
theorem d_Ru_termSum_19 : decode m_Ru_termSum.2.2.1 19 = .ok (.iaload, 1) := by decide +kernel
theorem d_Ru_termSum_20 : decode m_Ru_termSum.2.2.1 20 = .ok (.if_icmp .ge (60), 3) := by decide +kernel
theorem d_Ru_termSum_23 : decode m_Ru_termSum.2.2.1 23 = .ok (.aload_n 0, 1) := by decide +kernel
theorem d_Ru_termSum_24 : decode m_Ru_termSum.2.2.1 24 = .ok (.getfield 23, 3) := by decide +kernel
theorem d_Ru_termSum_27 : decode m_Ru_termSum.2.2.1 27 = .ok (.aload_n 2, 1) := by decide +kernel
theorem d_Ru_termSum_28 : decode m_Ru_termSum.2.2.1 28 = .ok (.iconst 3, 1) := by decide +kernel
theorem d_Ru_termSum_29 : decode m_Ru_termSum.2.2.1 29 = .ok (.iload 4, 2) := by decide +kernel
theorem d_Ru_termSum_31 : decode m_Ru_termSum.2.2.1 31 = .ok (.imul, 1) := by decide +kernel
theorem d_Ru_termSum_32 : decode m_Ru_termSum.2.2.1 32 = .ok (.iconst 1, 1) := by decide +kernel
theorem d_Ru_termSum_33 : decode m_Ru_termSum.2.2.1 33 = .ok (.iadd, 1) := by decide +kernel
theorem d_Ru_termSum_34 : decode m_Ru_termSum.2.2.1 34 = .ok (.iaload, 1) := by decide +kernel
theorem d_Ru_termSum_35 : decode m_Ru_termSum.2.2.1 35 = .ok (.iaload, 1) := by decide +kernel
theorem d_Ru_termSum_36 : decode m_Ru_termSum.2.2.1 36 = .ok (.istore 5, 2) := by decide +kernel
theorem d_Ru_termSum_38 : decode m_Ru_termSum.2.2.1 38 = .ok (.aload_n 0, 1) := by decide +kernel
theorem d_Ru_termSum_39 : decode m_Ru_termSum.2.2.1 39 = .ok (.getfield 23, 3) := by decide +kernel
theorem d_Ru_termSum_42 : decode m_Ru_termSum.2.2.1 42 = .ok (.aload_n 2, 1) := by decide +kernel
theorem d_Ru_termSum_43 : decode m_Ru_termSum.2.2.1 43 = .ok (.iconst 3, 1) := by decide +kernel
theorem d_Ru_termSum_44 : decode m_Ru_termSum.2.2.1 44 = .ok (.iload 4, 2) := by decide +kernel
theorem d_Ru_termSum_46 : decode m_Ru_termSum.2.2.1 46 = .ok (.imul, 1) := by decide +kernel
theorem d_Ru_termSum_47 : decode m_Ru_termSum.2.2.1 47 = .ok (.iconst 2, 1) := by decide +kernel
theorem d_Ru_termSum_48 : decode m_Ru_termSum.2.2.1 48 = .ok (.iadd, 1) := by decide +kernel
theorem d_Ru_termSum_49 : decode m_Ru_termSum.2.2.1 49 = .ok (.iaload, 1) := by decide +kernel
theorem d_Ru_termSum_50 : decode m_Ru_termSum.2.2.1 50 = .ok (.iaload, 1) := by decide +kernel
theorem d_Ru_termSum_51 : decode m_Ru_termSum.2.2.1 51 = .ok (.istore 6, 2) := by decide +kernel
theorem d_Ru_termSum_53 : decode m_Ru_termSum.2.2.1 53 = .ok (.iload_n 3, 1) := by decide +kernel
theorem d_Ru_termSum_54 : decode m_Ru_termSum.2.2.1 54 = .ok (.aload_n 2, 1) := by decide +kernel
theorem d_Ru_termSum_55 : decode m_Ru_termSum.2.2.1 55 = .ok (.iconst 3, 1) := by decide +kernel
theorem d_Ru_termSum_56 : decode m_Ru_termSum.2.2.1 56 = .ok (.iload 4, 2) := by decide +kernel
theorem d_Ru_termSum_58 : decode m_Ru_termSum.2.2.1 58 = .ok (.imul, 1) := by decide +kernel
theorem d_Ru_termSum_59 : decode m_Ru_termSum.2.2.1 59 = .ok (.iaload, 1) := by decide +kernel
theorem d_Ru_termSum_60 : decode m_Ru_termSum.2.2.1 60 = .ok (.iload 5, 2) := by decide +kernel
theorem d_Ru_termSum_62 : decode m_Ru_termSum.2.2.1 62 = .ok (.iload 6, 2) := by decide +kernel
theorem d_Ru_termSum_64 : decode m_Ru_termSum.2.2.1 64 = .ok (.invokestatic 82, 3) := by decide +kernel
theorem d_Ru_termSum_67 : decode m_Ru_termSum.2.2.1 67 = .ok (.invokestatic 82, 3) := by decide +kernel
theorem d_Ru_termSum_70 : decode m_Ru_termSum.2.2.1 70 = .ok (.invokestatic 87, 3) := by decide +kernel
theorem d_Ru_termSum_73 : decode m_Ru_termSum.2.2.1 73 = .ok (.istore_n 3, 1) := by decide +kernel
theorem d_Ru_termSum_74 : decode m_Ru_termSum.2.2.1 74 = .ok (.iinc 4 (1), 3) := by decide +kernel
theorem d_Ru_termSum_77 : decode m_Ru_termSum.2.2.1 77 = .ok (.goto (-65), 3) := by decide +kernel
theorem d_Ru_termSum_80 : decode m_Ru_termSum.2.2.1 80 = .ok (.iload_n 3, 1) := by decide +kernel
theorem d_Ru_termSum_81 : decode m_Ru_termSum.2.2.1 81 = .ok (.ireturn, 1) := by decide +kernel
theorem d_Ru_composition_0 : decode m_Ru_composition.2.2.1 0 = .ok (.iconst 0, 1) := by decide +kernel
theorem d_Ru_composition_1 : decode m_Ru_composition.2.2.1 1 = .ok (.istore_n 3, 1) := by decide +kernel
theorem d_Ru_composition_2 : decode m_Ru_composition.2.2.1 2 = .ok (.iconst 1, 1) := by decide +kernel
theorem d_Ru_composition_3 : decode m_Ru_composition.2.2.1 3 = .ok (.istore 4, 2) := by decide +kernel
theorem d_Ru_composition_5 : decode m_Ru_composition.2.2.1 5 = .ok (.aload_n 0, 1) := by decide +kernel
theorem d_Ru_composition_6 : decode m_Ru_composition.2.2.1 6 = .ok (.invokevirtual 38, 3) := by decide +kernel
theorem d_Ru_composition_9 : decode m_Ru_composition.2.2.1 9 = .ok (.istore 5, 2) := by decide +kernel
theorem d_Ru_composition_11 : decode m_Ru_composition.2.2.1 11 = .ok (.iconst 0, 1) := by decide +kernel
theorem d_Ru_composition_12 : decode m_Ru_composition.2.2.1 12 = .ok (.istore 6, 2) := by decide +kernel
theorem d_Ru_composition_14 : decode m_Ru_composition.2.2.1 14 = .ok (.iload 6, 2) := by decide +kernel
theorem d_Ru_composition_16 : decode m_Ru_composition.2.2.1 16 = .ok (.iload 5, 2) := by decide +kernel
theorem d_Ru_composition_18 : decode m_Ru_composition.2.2.1 18 = .ok (.if_icmp .ge (48), 3) := by decide +kernel
theorem d_Ru_composition_21 : decode m_Ru_composition.2.2.1 21 = .ok (.aload_n 0, 1) := by decide +kernel
theorem d_Ru_composition_22 : decode m_Ru_composition.2.2.1 22 = .ok (.iload 6, 2) := by decide +kernel
theorem d_Ru_composition_24 : decode m_Ru_composition.2.2.1 24 = .ok (.invokevirtual 69, 3) := by decide +kernel
theorem d_Ru_composition_27 : decode m_Ru_composition.2.2.1 27 = .ok (.aload_n 0, 1) := by decide +kernel
theorem d_Ru_composition_28 : decode m_Ru_composition.2.2.1 28 = .ok (.getfield 26, 3) := by decide +kernel
theorem d_Ru_composition_31 : decode m_Ru_composition.2.2.1 31 = .ok (.iload_n 1, 1) := by decide +kernel
theorem d_Ru_composition_32 : decode m_Ru_composition.2.2.1 32 = .ok (.invokevirtual 90, 3) := by decide +kernel
theorem d_Ru_composition_35 : decode m_Ru_composition.2.2.1 35 = .ok (.invokestatic 82, 3) := by decide +kernel
theorem d_Ru_composition_38 : decode m_Ru_composition.2.2.1 38 = .ok (.istore 7, 2) := by decide +kernel
theorem d_Ru_composition_40 : decode m_Ru_composition.2.2.1 40 = .ok (.iload_n 3, 1) := by decide +kernel
theorem d_Ru_composition_41 : decode m_Ru_composition.2.2.1 41 = .ok (.iload 4, 2) := by decide +kernel
theorem d_Ru_composition_43 : decode m_Ru_composition.2.2.1 43 = .ok (.iload 7, 2) := by decide +kernel
theorem d_Ru_composition_45 : decode m_Ru_composition.2.2.1 45 = .ok (.invokestatic 82, 3) := by decide +kernel
theorem d_Ru_composition_48 : decode m_Ru_composition.2.2.1 48 = .ok (.invokestatic 87, 3) := by decide +kernel
theorem d_Ru_composition_51 : decode m_Ru_composition.2.2.1 51 = .ok (.istore_n 3, 1) := by decide +kernel
theorem d_Ru_composition_52 : decode m_Ru_composition.2.2.1 52 = .ok (.iload 4, 2) := by decide +kernel
theorem d_Ru_composition_54 : decode m_Ru_composition.2.2.1 54 = .ok (.iload_n 2, 1) := by decide +kernel
theorem d_Ru_composition_55 : decode m_Ru_composition.2.2.1 55 = .ok (.invokestatic 82, 3) := by decide +kernel
theorem d_Ru_composition_58 : decode m_Ru_composition.2.2.1 58 = .ok (.istore 4, 2) := by decide +kernel
theorem d_Ru_composition_60 : decode m_Ru_composition.2.2.1 60 = .ok (.iinc 6 (1), 3) := by decide +kernel
theorem d_Ru_composition_63 : decode m_Ru_composition.2.2.1 63 = .ok (.goto (-49), 3) := by decide +kernel
theorem d_Ru_composition_66 : decode m_Ru_composition.2.2.1 66 = .ok (.iconst 0, 1) := by decide +kernel
theorem d_Ru_composition_67 : decode m_Ru_composition.2.2.1 67 = .ok (.istore 6, 2) := by decide +kernel
theorem d_Ru_composition_69 : decode m_Ru_composition.2.2.1 69 = .ok (.iload 6, 2) := by decide +kernel
theorem d_Ru_composition_71 : decode m_Ru_composition.2.2.1 71 = .ok (.aload_n 0, 1) := by decide +kernel
theorem d_Ru_composition_72 : decode m_Ru_composition.2.2.1 72 = .ok (.getfield 30, 3) := by decide +kernel
theorem d_Ru_composition_75 : decode m_Ru_composition.2.2.1 75 = .ok (.if_icmp .ge (74), 3) := by decide +kernel
theorem d_Ru_composition_78 : decode m_Ru_composition.2.2.1 78 = .ok (.aload_n 0, 1) := by decide +kernel
theorem d_Ru_composition_79 : decode m_Ru_composition.2.2.1 79 = .ok (.getfield 23, 3) := by decide +kernel
theorem d_Ru_composition_82 : decode m_Ru_composition.2.2.1 82 = .ok (.iconst 1, 1) := by decide +kernel
theorem d_Ru_composition_83 : decode m_Ru_composition.2.2.1 83 = .ok (.aload_n 0, 1) := by decide +kernel
theorem d_Ru_composition_84 : decode m_Ru_composition.2.2.1 84 = .ok (.iload 6, 2) := by decide +kernel
theorem d_Ru_composition_86 : decode m_Ru_composition.2.2.1 86 = .ok (.invokevirtual 76, 3) := by decide +kernel
theorem d_Ru_composition_89 : decode m_Ru_composition.2.2.1 89 = .ok (.iadd, 1) := by decide +kernel
theorem d_Ru_composition_90 : decode m_Ru_composition.2.2.1 90 = .ok (.iaload, 1) := by decide +kernel
theorem d_Ru_composition_91 : decode m_Ru_composition.2.2.1 91 = .ok (.aload_n 0, 1) := by decide +kernel
theorem d_Ru_composition_92 : decode m_Ru_composition.2.2.1 92 = .ok (.iload 6, 2) := by decide +kernel
theorem d_Ru_composition_94 : decode m_Ru_composition.2.2.1 94 = .ok (.invokevirtual 79, 3) := by decide +kernel
theorem d_Ru_composition_97 : decode m_Ru_composition.2.2.1 97 = .ok (.invokestatic 95, 3) := by decide +kernel
theorem d_Ru_composition_100 : decode m_Ru_composition.2.2.1 100 = .ok (.istore 7, 2) := by decide +kernel
theorem d_Ru_composition_102 : decode m_Ru_composition.2.2.1 102 = .ok (.iload 7, 2) := by decide +kernel
theorem d_Ru_composition_104 : decode m_Ru_composition.2.2.1 104 = .ok (.aload_n 0, 1) := by decide +kernel
theorem d_Ru_composition_105 : decode m_Ru_composition.2.2.1 105 = .ok (.getfield 26, 3) := by decide +kernel
theorem d_Ru_composition_108 : decode m_Ru_composition.2.2.1 108 = .ok (.iload_n 1, 1) := by decide +kernel
theorem d_Ru_composition_109 : decode m_Ru_composition.2.2.1 109 = .ok (.aload_n 0, 1) := by decide +kernel
theorem d_Ru_composition_110 : decode m_Ru_composition.2.2.1 110 = .ok (.iload 6, 2) := by decide +kernel
theorem d_Ru_composition_112 : decode m_Ru_composition.2.2.1 112 = .ok (.invokevirtual 73, 3) := by decide +kernel
theorem d_Ru_composition_115 : decode m_Ru_composition.2.2.1 115 = .ok (.invokevirtual 98, 3) := by decide +kernel
theorem d_Ru_composition_118 : decode m_Ru_composition.2.2.1 118 = .ok (.invokestatic 82, 3) := by decide +kernel
theorem d_Ru_composition_121 : decode m_Ru_composition.2.2.1 121 = .ok (.istore 8, 2) := by decide +kernel
theorem d_Ru_composition_123 : decode m_Ru_composition.2.2.1 123 = .ok (.iload_n 3, 1) := by decide +kernel
theorem d_Ru_composition_124 : decode m_Ru_composition.2.2.1 124 = .ok (.iload 4, 2) := by decide +kernel
theorem d_Ru_composition_126 : decode m_Ru_composition.2.2.1 126 = .ok (.iload 8, 2) := by decide +kernel
theorem d_Ru_composition_128 : decode m_Ru_composition.2.2.1 128 = .ok (.invokestatic 82, 3) := by decide +kernel
theorem d_Ru_composition_131 : decode m_Ru_composition.2.2.1 131 = .ok (.invokestatic 87, 3) := by decide +kernel
theorem d_Ru_composition_134 : decode m_Ru_composition.2.2.1 134 = .ok (.istore_n 3, 1) := by decide +kernel
theorem d_Ru_composition_135 : decode m_Ru_composition.2.2.1 135 = .ok (.iload 4, 2) := by decide +kernel
theorem d_Ru_composition_137 : decode m_Ru_composition.2.2.1 137 = .ok (.iload_n 2, 1) := by decide +kernel
theorem d_Ru_composition_138 : decode m_Ru_composition.2.2.1 138 = .ok (.invokestatic 82, 3) := by decide +kernel
theorem d_Ru_composition_141 : decode m_Ru_composition.2.2.1 141 = .ok (.istore 4, 2) := by decide +kernel
theorem d_Ru_composition_143 : decode m_Ru_composition.2.2.1 143 = .ok (.iinc 6 (1), 3) := by decide +kernel
theorem d_Ru_composition_146 : decode m_Ru_composition.2.2.1 146 = .ok (.goto (-77), 3) := by decide +kernel
theorem d_Ru_composition_149 : decode m_Ru_composition.2.2.1 149 = .ok (.iload_n 3, 1) := by decide +kernel
theorem d_Ru_composition_150 : decode m_Ru_composition.2.2.1 150 = .ok (.ireturn, 1) := by decide +kernel
theorem d_Ru_boundColumn_0 : decode m_Ru_boundColumn.2.2.1 0 = .ok (.aload_n 0, 1) := by decide +kernel
theorem d_Ru_boundColumn_1 : decode m_Ru_boundColumn.2.2.1 1 = .ok (.getfield 20, 3) := by decide +kernel
theorem d_Ru_boundColumn_4 : decode m_Ru_boundColumn.2.2.1 4 = .ok (.iconst 3, 1) := by decide +kernel
theorem d_Ru_boundColumn_5 : decode m_Ru_boundColumn.2.2.1 5 = .ok (.iload_n 1, 1) := by decide +kernel
theorem d_Ru_boundColumn_6 : decode m_Ru_boundColumn.2.2.1 6 = .ok (.imul, 1) := by decide +kernel
theorem d_Ru_boundColumn_7 : decode m_Ru_boundColumn.2.2.1 7 = .ok (.iaload, 1) := by decide +kernel
theorem d_Ru_boundColumn_8 : decode m_Ru_boundColumn.2.2.1 8 = .ok (.ireturn, 1) := by decide +kernel
theorem d_Ru_boundRow_0 : decode m_Ru_boundRow.2.2.1 0 = .ok (.aload_n 0, 1) := by decide +kernel
theorem d_Ru_boundRow_1 : decode m_Ru_boundRow.2.2.1 1 = .ok (.getfield 20, 3) := by decide +kernel
theorem d_Ru_boundRow_4 : decode m_Ru_boundRow.2.2.1 4 = .ok (.iconst 3, 1) := by decide +kernel
theorem d_Ru_boundRow_5 : decode m_Ru_boundRow.2.2.1 5 = .ok (.iload_n 1, 1) := by decide +kernel
theorem d_Ru_boundRow_6 : decode m_Ru_boundRow.2.2.1 6 = .ok (.imul, 1) := by decide +kernel
theorem d_Ru_boundRow_7 : decode m_Ru_boundRow.2.2.1 7 = .ok (.iconst 1, 1) := by decide +kernel
theorem d_Ru_boundRow_8 : decode m_Ru_boundRow.2.2.1 8 = .ok (.iadd, 1) := by decide +kernel
theorem d_Ru_boundRow_9 : decode m_Ru_boundRow.2.2.1 9 = .ok (.iaload, 1) := by decide +kernel
theorem d_Ru_boundRow_10 : decode m_Ru_boundRow.2.2.1 10 = .ok (.ireturn, 1) := by decide +kernel
theorem d_Ru_boundValue_0 : decode m_Ru_boundValue.2.2.1 0 = .ok (.aload_n 0, 1) := by decide +kernel
theorem d_Ru_boundValue_1 : decode m_Ru_boundValue.2.2.1 1 = .ok (.getfield 20, 3) := by decide +kernel
theorem d_Ru_boundValue_4 : decode m_Ru_boundValue.2.2.1 4 = .ok (.iconst 3, 1) := by decide +kernel
theorem d_Ru_boundValue_5 : decode m_Ru_boundValue.2.2.1 5 = .ok (.iload_n 1, 1) := by decide +kernel
theorem d_Ru_boundValue_6 : decode m_Ru_boundValue.2.2.1 6 = .ok (.imul, 1) := by decide +kernel
