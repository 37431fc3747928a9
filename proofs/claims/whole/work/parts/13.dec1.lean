theorem d_Mo_tellRules_113 : decode m_Mo_tellRules.2.2.1 113 = .ok (.aload_n 0, 1) := by decide +kernel
theorem d_Mo_tellRules_114 : decode m_Mo_tellRules.2.2.1 114 = .ok (.aload_n 0, 1) := by decide +kernel
theorem d_Mo_tellRules_115 : decode m_Mo_tellRules.2.2.1 115 = .ok (.getfield 25, 3) := by decide +kernel
theorem d_Mo_tellRules_118 : decode m_Mo_tellRules.2.2.1 118 = .ok (.iload_n 1, 1) := by decide +kernel
theorem d_Mo_tellRules_119 : decode m_Mo_tellRules.2.2.1 119 = .ok (.iaload, 1) := by decide +kernel
theorem d_Mo_tellRules_120 : decode m_Mo_tellRules.2.2.1 120 = .ok (.invokevirtual 126, 3) := by decide +kernel
theorem d_Mo_tellRules_123 : decode m_Mo_tellRules.2.2.1 123 = .ok (.aload_n 0, 1) := by decide +kernel
theorem d_Mo_tellRules_124 : decode m_Mo_tellRules.2.2.1 124 = .ok (.aload_n 0, 1) := by decide +kernel
theorem d_Mo_tellRules_125 : decode m_Mo_tellRules.2.2.1 125 = .ok (.getfield 28, 3) := by decide +kernel
theorem d_Mo_tellRules_128 : decode m_Mo_tellRules.2.2.1 128 = .ok (.iload_n 1, 1) := by decide +kernel
theorem d_Mo_tellRules_129 : decode m_Mo_tellRules.2.2.1 129 = .ok (.iaload, 1) := by decide +kernel
theorem d_Mo_tellRules_130 : decode m_Mo_tellRules.2.2.1 130 = .ok (.invokevirtual 126, 3) := by decide +kernel
theorem d_Mo_tellRules_133 : decode m_Mo_tellRules.2.2.1 133 = .ok (.aload_n 0, 1) := by decide +kernel
theorem d_Mo_tellRules_134 : decode m_Mo_tellRules.2.2.1 134 = .ok (.aload_n 0, 1) := by decide +kernel
theorem d_Mo_tellRules_135 : decode m_Mo_tellRules.2.2.1 135 = .ok (.getfield 31, 3) := by decide +kernel
theorem d_Mo_tellRules_138 : decode m_Mo_tellRules.2.2.1 138 = .ok (.iload_n 1, 1) := by decide +kernel
theorem d_Mo_tellRules_139 : decode m_Mo_tellRules.2.2.1 139 = .ok (.iaload, 1) := by decide +kernel
theorem d_Mo_tellRules_140 : decode m_Mo_tellRules.2.2.1 140 = .ok (.invokevirtual 126, 3) := by decide +kernel
theorem d_Mo_tellRules_143 : decode m_Mo_tellRules.2.2.1 143 = .ok (.iinc 1 (1), 3) := by decide +kernel
theorem d_Mo_tellRules_146 : decode m_Mo_tellRules.2.2.1 146 = .ok (.goto (-41), 3) := by decide +kernel
theorem d_Mo_tellRules_149 : decode m_Mo_tellRules.2.2.1 149 = .ok (.return_, 1) := by decide +kernel
theorem d_Mo_tellRest_0 : decode m_Mo_tellRest.2.2.1 0 = .ok (.aload_n 0, 1) := by decide +kernel
theorem d_Mo_tellRest_1 : decode m_Mo_tellRest.2.2.1 1 = .ok (.iload_n 1, 1) := by decide +kernel
theorem d_Mo_tellRest_2 : decode m_Mo_tellRest.2.2.1 2 = .ok (.invokevirtual 126, 3) := by decide +kernel
theorem d_Mo_tellRest_5 : decode m_Mo_tellRest.2.2.1 5 = .ok (.iconst 0, 1) := by decide +kernel
theorem d_Mo_tellRest_6 : decode m_Mo_tellRest.2.2.1 6 = .ok (.istore_n 2, 1) := by decide +kernel
theorem d_Mo_tellRest_7 : decode m_Mo_tellRest.2.2.1 7 = .ok (.iload_n 2, 1) := by decide +kernel
theorem d_Mo_tellRest_8 : decode m_Mo_tellRest.2.2.1 8 = .ok (.iconst 3, 1) := by decide +kernel
theorem d_Mo_tellRest_9 : decode m_Mo_tellRest.2.2.1 9 = .ok (.if_icmp .ge (31), 3) := by decide +kernel
theorem d_Mo_tellRest_12 : decode m_Mo_tellRest.2.2.1 12 = .ok (.aload_n 0, 1) := by decide +kernel
theorem d_Mo_tellRest_13 : decode m_Mo_tellRest.2.2.1 13 = .ok (.bipush (-9), 2) := by decide +kernel
theorem d_Mo_tellRest_15 : decode m_Mo_tellRest.2.2.1 15 = .ok (.invokevirtual 126, 3) := by decide +kernel
theorem d_Mo_tellRest_18 : decode m_Mo_tellRest.2.2.1 18 = .ok (.aload_n 0, 1) := by decide +kernel
theorem d_Mo_tellRest_19 : decode m_Mo_tellRest.2.2.1 19 = .ok (.getfield 40, 3) := by decide +kernel
theorem d_Mo_tellRest_22 : decode m_Mo_tellRest.2.2.1 22 = .ok (.iload_n 2, 1) := by decide +kernel
theorem d_Mo_tellRest_23 : decode m_Mo_tellRest.2.2.1 23 = .ok (.aload_n 0, 1) := by decide +kernel
theorem d_Mo_tellRest_24 : decode m_Mo_tellRest.2.2.1 24 = .ok (.getfield 120, 3) := by decide +kernel
theorem d_Mo_tellRest_27 : decode m_Mo_tellRest.2.2.1 27 = .ok (.ldc 130, 2) := by decide +kernel
theorem d_Mo_tellRest_29 : decode m_Mo_tellRest.2.2.1 29 = .ok (.iand, 1) := by decide +kernel
theorem d_Mo_tellRest_30 : decode m_Mo_tellRest.2.2.1 30 = .ok (.bipush (16), 2) := by decide +kernel
theorem d_Mo_tellRest_32 : decode m_Mo_tellRest.2.2.1 32 = .ok (.irem, 1) := by decide +kernel
theorem d_Mo_tellRest_33 : decode m_Mo_tellRest.2.2.1 33 = .ok (.iastore, 1) := by decide +kernel
theorem d_Mo_tellRest_34 : decode m_Mo_tellRest.2.2.1 34 = .ok (.iinc 2 (1), 3) := by decide +kernel
theorem d_Mo_tellRest_37 : decode m_Mo_tellRest.2.2.1 37 = .ok (.goto (-30), 3) := by decide +kernel
theorem d_Mo_tellRest_40 : decode m_Mo_tellRest.2.2.1 40 = .ok (.return_, 1) := by decide +kernel
theorem d_Mo_treeFrom_0 : decode m_Mo_treeFrom.2.2.1 0 = .ok (.iload_n 0, 1) := by decide +kernel
theorem d_Mo_treeFrom_1 : decode m_Mo_treeFrom.2.2.1 1 = .ok (.ifCond .ne (7), 3) := by decide +kernel
theorem d_Mo_treeFrom_4 : decode m_Mo_treeFrom.2.2.1 4 = .ok (.iconst 0, 1) := by decide +kernel
theorem d_Mo_treeFrom_5 : decode m_Mo_treeFrom.2.2.1 5 = .ok (.goto (27), 3) := by decide +kernel
theorem d_Mo_treeFrom_8 : decode m_Mo_treeFrom.2.2.1 8 = .ok (.iload_n 0, 1) := by decide +kernel
theorem d_Mo_treeFrom_9 : decode m_Mo_treeFrom.2.2.1 9 = .ok (.iconst 1, 1) := by decide +kernel
theorem d_Mo_treeFrom_10 : decode m_Mo_treeFrom.2.2.1 10 = .ok (.if_icmp .ne (8), 3) := by decide +kernel
theorem d_Mo_treeFrom_13 : decode m_Mo_treeFrom.2.2.1 13 = .ok (.bipush (64), 2) := by decide +kernel
theorem d_Mo_treeFrom_15 : decode m_Mo_treeFrom.2.2.1 15 = .ok (.goto (17), 3) := by decide +kernel
theorem d_Mo_treeFrom_18 : decode m_Mo_treeFrom.2.2.1 18 = .ok (.iload_n 0, 1) := by decide +kernel
theorem d_Mo_treeFrom_19 : decode m_Mo_treeFrom.2.2.1 19 = .ok (.iconst 2, 1) := by decide +kernel
theorem d_Mo_treeFrom_20 : decode m_Mo_treeFrom.2.2.1 20 = .ok (.if_icmp .ne (9), 3) := by decide +kernel
theorem d_Mo_treeFrom_23 : decode m_Mo_treeFrom.2.2.1 23 = .ok (.sipush (128), 3) := by decide +kernel
theorem d_Mo_treeFrom_26 : decode m_Mo_treeFrom.2.2.1 26 = .ok (.goto (6), 3) := by decide +kernel
theorem d_Mo_treeFrom_29 : decode m_Mo_treeFrom.2.2.1 29 = .ok (.sipush (160), 3) := by decide +kernel
theorem d_Mo_treeFrom_32 : decode m_Mo_treeFrom.2.2.1 32 = .ok (.ireturn, 1) := by decide +kernel
theorem d_Mo_leavesOf_0 : decode m_Mo_leavesOf.2.2.1 0 = .ok (.iload_n 0, 1) := by decide +kernel
theorem d_Mo_leavesOf_1 : decode m_Mo_leavesOf.2.2.1 1 = .ok (.iconst 2, 1) := by decide +kernel
theorem d_Mo_leavesOf_2 : decode m_Mo_leavesOf.2.2.1 2 = .ok (.if_icmp .ge (8), 3) := by decide +kernel
theorem d_Mo_leavesOf_5 : decode m_Mo_leavesOf.2.2.1 5 = .ok (.bipush (32), 2) := by decide +kernel
theorem d_Mo_leavesOf_7 : decode m_Mo_leavesOf.2.2.1 7 = .ok (.goto (15), 3) := by decide +kernel
theorem d_Mo_leavesOf_10 : decode m_Mo_leavesOf.2.2.1 10 = .ok (.iload_n 0, 1) := by decide +kernel
theorem d_Mo_leavesOf_11 : decode m_Mo_leavesOf.2.2.1 11 = .ok (.iconst 2, 1) := by decide +kernel
theorem d_Mo_leavesOf_12 : decode m_Mo_leavesOf.2.2.1 12 = .ok (.if_icmp .ne (8), 3) := by decide +kernel
theorem d_Mo_leavesOf_15 : decode m_Mo_leavesOf.2.2.1 15 = .ok (.bipush (16), 2) := by decide +kernel
theorem d_Mo_leavesOf_17 : decode m_Mo_leavesOf.2.2.1 17 = .ok (.goto (5), 3) := by decide +kernel
theorem d_Mo_leavesOf_20 : decode m_Mo_leavesOf.2.2.1 20 = .ok (.bipush (8), 2) := by decide +kernel
theorem d_Mo_leavesOf_22 : decode m_Mo_leavesOf.2.2.1 22 = .ok (.ireturn, 1) := by decide +kernel
theorem d_Mo_layerFrom_0 : decode m_Mo_layerFrom.2.2.1 0 = .ok (.iload_n 0, 1) := by decide +kernel
theorem d_Mo_layerFrom_1 : decode m_Mo_layerFrom.2.2.1 1 = .ok (.ifCond .ne (7), 3) := by decide +kernel
theorem d_Mo_layerFrom_4 : decode m_Mo_layerFrom.2.2.1 4 = .ok (.iconst 0, 1) := by decide +kernel
theorem d_Mo_layerFrom_5 : decode m_Mo_layerFrom.2.2.1 5 = .ok (.goto (25), 3) := by decide +kernel
theorem d_Mo_layerFrom_8 : decode m_Mo_layerFrom.2.2.1 8 = .ok (.iload_n 0, 1) := by decide +kernel
theorem d_Mo_layerFrom_9 : decode m_Mo_layerFrom.2.2.1 9 = .ok (.iconst 1, 1) := by decide +kernel
theorem d_Mo_layerFrom_10 : decode m_Mo_layerFrom.2.2.1 10 = .ok (.if_icmp .ne (8), 3) := by decide +kernel
theorem d_Mo_layerFrom_13 : decode m_Mo_layerFrom.2.2.1 13 = .ok (.bipush (32), 2) := by decide +kernel
theorem d_Mo_layerFrom_15 : decode m_Mo_layerFrom.2.2.1 15 = .ok (.goto (15), 3) := by decide +kernel
theorem d_Mo_layerFrom_18 : decode m_Mo_layerFrom.2.2.1 18 = .ok (.iload_n 0, 1) := by decide +kernel
theorem d_Mo_layerFrom_19 : decode m_Mo_layerFrom.2.2.1 19 = .ok (.iconst 2, 1) := by decide +kernel
theorem d_Mo_layerFrom_20 : decode m_Mo_layerFrom.2.2.1 20 = .ok (.if_icmp .ne (8), 3) := by decide +kernel
theorem d_Mo_layerFrom_23 : decode m_Mo_layerFrom.2.2.1 23 = .ok (.bipush (48), 2) := by decide +kernel
theorem d_Mo_layerFrom_25 : decode m_Mo_layerFrom.2.2.1 25 = .ok (.goto (5), 3) := by decide +kernel
theorem d_Mo_layerFrom_28 : decode m_Mo_layerFrom.2.2.1 28 = .ok (.bipush (56), 2) := by decide +kernel
theorem d_Mo_layerFrom_30 : decode m_Mo_layerFrom.2.2.1 30 = .ok (.ireturn, 1) := by decide +kernel
theorem d_Mo_grow_0 : decode m_Mo_grow.2.2.1 0 = .ok (.iload_n 1, 1) := by decide +kernel
theorem d_Mo_grow_1 : decode m_Mo_grow.2.2.1 1 = .ok (.invokestatic 131, 3) := by decide +kernel
theorem d_Mo_grow_4 : decode m_Mo_grow.2.2.1 4 = .ok (.istore_n 2, 1) := by decide +kernel
theorem d_Mo_grow_5 : decode m_Mo_grow.2.2.1 5 = .ok (.iload_n 1, 1) := by decide +kernel
theorem d_Mo_grow_6 : decode m_Mo_grow.2.2.1 6 = .ok (.invokestatic 134, 3) := by decide +kernel
theorem d_Mo_grow_9 : decode m_Mo_grow.2.2.1 9 = .ok (.istore_n 3, 1) := by decide +kernel
theorem d_Mo_grow_10 : decode m_Mo_grow.2.2.1 10 = .ok (.iconst 0, 1) := by decide +kernel
theorem d_Mo_grow_11 : decode m_Mo_grow.2.2.1 11 = .ok (.istore 4, 2) := by decide +kernel
theorem d_Mo_grow_13 : decode m_Mo_grow.2.2.1 13 = .ok (.iload 4, 2) := by decide +kernel
theorem d_Mo_grow_15 : decode m_Mo_grow.2.2.1 15 = .ok (.iload_n 3, 1) := by decide +kernel
theorem d_Mo_grow_16 : decode m_Mo_grow.2.2.1 16 = .ok (.if_icmp .ge (67), 3) := by decide +kernel
theorem d_Mo_grow_19 : decode m_Mo_grow.2.2.1 19 = .ok (.aload_n 0, 1) := by decide +kernel
theorem d_Mo_grow_20 : decode m_Mo_grow.2.2.1 20 = .ok (.getfield 55, 3) := by decide +kernel
theorem d_Mo_grow_23 : decode m_Mo_grow.2.2.1 23 = .ok (.iload_n 2, 1) := by decide +kernel
theorem d_Mo_grow_24 : decode m_Mo_grow.2.2.1 24 = .ok (.iload_n 3, 1) := by decide +kernel
theorem d_Mo_grow_25 : decode m_Mo_grow.2.2.1 25 = .ok (.iadd, 1) := by decide +kernel
theorem d_Mo_grow_26 : decode m_Mo_grow.2.2.1 26 = .ok (.iload 4, 2) := by decide +kernel
theorem d_Mo_grow_28 : decode m_Mo_grow.2.2.1 28 = .ok (.iadd, 1) := by decide +kernel
theorem d_Mo_grow_29 : decode m_Mo_grow.2.2.1 29 = .ok (.iload_n 1, 1) := by decide +kernel
theorem d_Mo_grow_30 : decode m_Mo_grow.2.2.1 30 = .ok (.ifCond .ne (26), 3) := by decide +kernel
theorem d_Mo_grow_33 : decode m_Mo_grow.2.2.1 33 = .ok (.aload_n 0, 1) := by decide +kernel
theorem d_Mo_grow_34 : decode m_Mo_grow.2.2.1 34 = .ok (.getfield 49, 3) := by decide +kernel
theorem d_Mo_grow_37 : decode m_Mo_grow.2.2.1 37 = .ok (.iload 4, 2) := by decide +kernel
theorem d_Mo_grow_39 : decode m_Mo_grow.2.2.1 39 = .ok (.iaload, 1) := by decide +kernel
theorem d_Mo_grow_40 : decode m_Mo_grow.2.2.1 40 = .ok (.aload_n 0, 1) := by decide +kernel
theorem d_Mo_grow_41 : decode m_Mo_grow.2.2.1 41 = .ok (.getfield 49, 3) := by decide +kernel
theorem d_Mo_grow_44 : decode m_Mo_grow.2.2.1 44 = .ok (.bipush (32), 2) := by decide +kernel
theorem d_Mo_grow_46 : decode m_Mo_grow.2.2.1 46 = .ok (.iload 4, 2) := by decide +kernel
theorem d_Mo_grow_48 : decode m_Mo_grow.2.2.1 48 = .ok (.iadd, 1) := by decide +kernel
theorem d_Mo_grow_49 : decode m_Mo_grow.2.2.1 49 = .ok (.iaload, 1) := by decide +kernel
theorem d_Mo_grow_50 : decode m_Mo_grow.2.2.1 50 = .ok (.invokestatic 123, 3) := by decide +kernel
theorem d_Mo_grow_53 : decode m_Mo_grow.2.2.1 53 = .ok (.goto (23), 3) := by decide +kernel
theorem d_Mo_grow_56 : decode m_Mo_grow.2.2.1 56 = .ok (.aload_n 0, 1) := by decide +kernel
theorem d_Mo_grow_57 : decode m_Mo_grow.2.2.1 57 = .ok (.getfield 52, 3) := by decide +kernel
theorem d_Mo_grow_60 : decode m_Mo_grow.2.2.1 60 = .ok (.iload_n 1, 1) := by decide +kernel
theorem d_Mo_grow_61 : decode m_Mo_grow.2.2.1 61 = .ok (.iconst 1, 1) := by decide +kernel
theorem d_Mo_grow_62 : decode m_Mo_grow.2.2.1 62 = .ok (.isub, 1) := by decide +kernel
theorem d_Mo_grow_63 : decode m_Mo_grow.2.2.1 63 = .ok (.invokestatic 137, 3) := by decide +kernel
theorem d_Mo_grow_66 : decode m_Mo_grow.2.2.1 66 = .ok (.iload 4, 2) := by decide +kernel
theorem d_Mo_grow_68 : decode m_Mo_grow.2.2.1 68 = .ok (.iadd, 1) := by decide +kernel
theorem d_Mo_grow_69 : decode m_Mo_grow.2.2.1 69 = .ok (.iaload, 1) := by decide +kernel
theorem d_Mo_grow_70 : decode m_Mo_grow.2.2.1 70 = .ok (.sipush (12289), 3) := by decide +kernel
theorem d_Mo_grow_73 : decode m_Mo_grow.2.2.1 73 = .ok (.invokestatic 123, 3) := by decide +kernel
theorem d_Mo_grow_76 : decode m_Mo_grow.2.2.1 76 = .ok (.iastore, 1) := by decide +kernel
theorem d_Mo_grow_77 : decode m_Mo_grow.2.2.1 77 = .ok (.iinc 4 (1), 3) := by decide +kernel
theorem d_Mo_grow_80 : decode m_Mo_grow.2.2.1 80 = .ok (.goto (-67), 3) := by decide +kernel
theorem d_Mo_grow_83 : decode m_Mo_grow.2.2.1 83 = .ok (.iload_n 3, 1) := by decide +kernel
theorem d_Mo_grow_84 : decode m_Mo_grow.2.2.1 84 = .ok (.iconst 1, 1) := by decide +kernel
theorem d_Mo_grow_85 : decode m_Mo_grow.2.2.1 85 = .ok (.isub, 1) := by decide +kernel
theorem d_Mo_grow_86 : decode m_Mo_grow.2.2.1 86 = .ok (.istore 4, 2) := by decide +kernel
theorem d_Mo_grow_88 : decode m_Mo_grow.2.2.1 88 = .ok (.iload 4, 2) := by decide +kernel
theorem d_Mo_grow_90 : decode m_Mo_grow.2.2.1 90 = .ok (.ifCond .le (45), 3) := by decide +kernel
theorem d_Mo_grow_93 : decode m_Mo_grow.2.2.1 93 = .ok (.aload_n 0, 1) := by decide +kernel
theorem d_Mo_grow_94 : decode m_Mo_grow.2.2.1 94 = .ok (.getfield 55, 3) := by decide +kernel
theorem d_Mo_grow_97 : decode m_Mo_grow.2.2.1 97 = .ok (.iload_n 2, 1) := by decide +kernel
theorem d_Mo_grow_98 : decode m_Mo_grow.2.2.1 98 = .ok (.iload 4, 2) := by decide +kernel
theorem d_Mo_grow_100 : decode m_Mo_grow.2.2.1 100 = .ok (.iadd, 1) := by decide +kernel
theorem d_Mo_grow_101 : decode m_Mo_grow.2.2.1 101 = .ok (.aload_n 0, 1) := by decide +kernel
theorem d_Mo_grow_102 : decode m_Mo_grow.2.2.1 102 = .ok (.getfield 55, 3) := by decide +kernel
theorem d_Mo_grow_105 : decode m_Mo_grow.2.2.1 105 = .ok (.iload_n 2, 1) := by decide +kernel
theorem d_Mo_grow_106 : decode m_Mo_grow.2.2.1 106 = .ok (.iconst 2, 1) := by decide +kernel
theorem d_Mo_grow_107 : decode m_Mo_grow.2.2.1 107 = .ok (.iload 4, 2) := by decide +kernel
theorem d_Mo_grow_109 : decode m_Mo_grow.2.2.1 109 = .ok (.imul, 1) := by decide +kernel
theorem d_Mo_grow_110 : decode m_Mo_grow.2.2.1 110 = .ok (.iadd, 1) := by decide +kernel
theorem d_Mo_grow_111 : decode m_Mo_grow.2.2.1 111 = .ok (.iaload, 1) := by decide +kernel
theorem d_Mo_grow_112 : decode m_Mo_grow.2.2.1 112 = .ok (.aload_n 0, 1) := by decide +kernel
theorem d_Mo_grow_113 : decode m_Mo_grow.2.2.1 113 = .ok (.getfield 55, 3) := by decide +kernel
theorem d_Mo_grow_116 : decode m_Mo_grow.2.2.1 116 = .ok (.iload_n 2, 1) := by decide +kernel
theorem d_Mo_grow_117 : decode m_Mo_grow.2.2.1 117 = .ok (.iconst 2, 1) := by decide +kernel
theorem d_Mo_grow_118 : decode m_Mo_grow.2.2.1 118 = .ok (.iload 4, 2) := by decide +kernel
theorem d_Mo_grow_120 : decode m_Mo_grow.2.2.1 120 = .ok (.imul, 1) := by decide +kernel
theorem d_Mo_grow_121 : decode m_Mo_grow.2.2.1 121 = .ok (.iadd, 1) := by decide +kernel
theorem d_Mo_grow_122 : decode m_Mo_grow.2.2.1 122 = .ok (.iconst 1, 1) := by decide +kernel
theorem d_Mo_grow_123 : decode m_Mo_grow.2.2.1 123 = .ok (.iadd, 1) := by decide +kernel
theorem d_Mo_grow_124 : decode m_Mo_grow.2.2.1 124 = .ok (.iaload, 1) := by decide +kernel
theorem d_Mo_grow_125 : decode m_Mo_grow.2.2.1 125 = .ok (.invokestatic 123, 3) := by decide +kernel
theorem d_Mo_grow_128 : decode m_Mo_grow.2.2.1 128 = .ok (.iastore, 1) := by decide +kernel
theorem d_Mo_grow_129 : decode m_Mo_grow.2.2.1 129 = .ok (.iinc 4 (-1), 3) := by decide +kernel
theorem d_Mo_grow_132 : decode m_Mo_grow.2.2.1 132 = .ok (.goto (-44), 3) := by decide +kernel
theorem d_Mo_grow_135 : decode m_Mo_grow.2.2.1 135 = .ok (.aload_n 0, 1) := by decide +kernel
theorem d_Mo_grow_136 : decode m_Mo_grow.2.2.1 136 = .ok (.getfield 55, 3) := by decide +kernel
theorem d_Mo_grow_139 : decode m_Mo_grow.2.2.1 139 = .ok (.iload_n 2, 1) := by decide +kernel
theorem d_Mo_grow_140 : decode m_Mo_grow.2.2.1 140 = .ok (.iconst 1, 1) := by decide +kernel
theorem d_Mo_grow_141 : decode m_Mo_grow.2.2.1 141 = .ok (.iadd, 1) := by decide +kernel
theorem d_Mo_grow_142 : decode m_Mo_grow.2.2.1 142 = .ok (.iaload, 1) := by decide +kernel
theorem d_Mo_grow_143 : decode m_Mo_grow.2.2.1 143 = .ok (.ireturn, 1) := by decide +kernel
theorem d_Mo_write_0 : decode m_Mo_write.2.2.1 0 = .ok (.aload_n 0, 1) := by decide +kernel
theorem d_Mo_write_1 : decode m_Mo_write.2.2.1 1 = .ok (.getfield 34, 3) := by decide +kernel
theorem d_Mo_write_4 : decode m_Mo_write.2.2.1 4 = .ok (.aload_n 0, 1) := by decide +kernel
theorem d_Mo_write_5 : decode m_Mo_write.2.2.1 5 = .ok (.getfield 140, 3) := by decide +kernel
theorem d_Mo_write_8 : decode m_Mo_write.2.2.1 8 = .ok (.iload_n 1, 1) := by decide +kernel
theorem d_Mo_write_9 : decode m_Mo_write.2.2.1 9 = .ok (.iastore, 1) := by decide +kernel
theorem d_Mo_write_10 : decode m_Mo_write.2.2.1 10 = .ok (.aload_n 0, 1) := by decide +kernel
theorem d_Mo_write_11 : decode m_Mo_write.2.2.1 11 = .ok (.dup, 1) := by decide +kernel
theorem d_Mo_write_12 : decode m_Mo_write.2.2.1 12 = .ok (.getfield 140, 3) := by decide +kernel
theorem d_Mo_write_15 : decode m_Mo_write.2.2.1 15 = .ok (.iconst 1, 1) := by decide +kernel
theorem d_Mo_write_16 : decode m_Mo_write.2.2.1 16 = .ok (.iadd, 1) := by decide +kernel
theorem d_Mo_write_17 : decode m_Mo_write.2.2.1 17 = .ok (.putfield 140, 3) := by decide +kernel
theorem d_Mo_write_20 : decode m_Mo_write.2.2.1 20 = .ok (.return_, 1) := by decide +kernel
theorem d_Mo_writePath_0 : decode m_Mo_writePath.2.2.1 0 = .ok (.iload_n 1, 1) := by decide +kernel
theorem d_Mo_writePath_1 : decode m_Mo_writePath.2.2.1 1 = .ok (.invokestatic 134, 3) := by decide +kernel
theorem d_Mo_writePath_4 : decode m_Mo_writePath.2.2.1 4 = .ok (.iload_n 2, 1) := by decide +kernel
theorem d_Mo_writePath_5 : decode m_Mo_writePath.2.2.1 5 = .ok (.iadd, 1) := by decide +kernel
theorem d_Mo_writePath_6 : decode m_Mo_writePath.2.2.1 6 = .ok (.istore_n 3, 1) := by decide +kernel
theorem d_Mo_writePath_7 : decode m_Mo_writePath.2.2.1 7 = .ok (.iload_n 3, 1) := by decide +kernel
theorem d_Mo_writePath_8 : decode m_Mo_writePath.2.2.1 8 = .ok (.iconst 1, 1) := by decide +kernel
theorem d_Mo_writePath_9 : decode m_Mo_writePath.2.2.1 9 = .ok (.if_icmp .le (27), 3) := by decide +kernel
theorem d_Mo_writePath_12 : decode m_Mo_writePath.2.2.1 12 = .ok (.aload_n 0, 1) := by decide +kernel
theorem d_Mo_writePath_13 : decode m_Mo_writePath.2.2.1 13 = .ok (.aload_n 0, 1) := by decide +kernel
theorem d_Mo_writePath_14 : decode m_Mo_writePath.2.2.1 14 = .ok (.getfield 55, 3) := by decide +kernel
theorem d_Mo_writePath_17 : decode m_Mo_writePath.2.2.1 17 = .ok (.iload_n 1, 1) := by decide +kernel
theorem d_Mo_writePath_18 : decode m_Mo_writePath.2.2.1 18 = .ok (.invokestatic 131, 3) := by decide +kernel
theorem d_Mo_writePath_21 : decode m_Mo_writePath.2.2.1 21 = .ok (.iload_n 3, 1) := by decide +kernel
theorem d_Mo_writePath_22 : decode m_Mo_writePath.2.2.1 22 = .ok (.iconst 1, 1) := by decide +kernel
theorem d_Mo_writePath_23 : decode m_Mo_writePath.2.2.1 23 = .ok (.ixor, 1) := by decide +kernel
theorem d_Mo_writePath_24 : decode m_Mo_writePath.2.2.1 24 = .ok (.iadd, 1) := by decide +kernel
theorem d_Mo_writePath_25 : decode m_Mo_writePath.2.2.1 25 = .ok (.iaload, 1) := by decide +kernel
theorem d_Mo_writePath_26 : decode m_Mo_writePath.2.2.1 26 = .ok (.invokevirtual 143, 3) := by decide +kernel
theorem d_Mo_writePath_29 : decode m_Mo_writePath.2.2.1 29 = .ok (.iload_n 3, 1) := by decide +kernel
theorem d_Mo_writePath_30 : decode m_Mo_writePath.2.2.1 30 = .ok (.iconst 2, 1) := by decide +kernel
theorem d_Mo_writePath_31 : decode m_Mo_writePath.2.2.1 31 = .ok (.idiv, 1) := by decide +kernel
theorem d_Mo_writePath_32 : decode m_Mo_writePath.2.2.1 32 = .ok (.istore_n 3, 1) := by decide +kernel
theorem d_Mo_writePath_33 : decode m_Mo_writePath.2.2.1 33 = .ok (.goto (-26), 3) := by decide +kernel
theorem d_Mo_writePath_36 : decode m_Mo_writePath.2.2.1 36 = .ok (.return_, 1) := by decide +kernel
theorem d_Mo_writeOpening_0 : decode m_Mo_writeOpening.2.2.1 0 = .ok (.iconst 0, 1) := by decide +kernel
theorem d_Mo_writeOpening_1 : decode m_Mo_writeOpening.2.2.1 1 = .ok (.istore_n 2, 1) := by decide +kernel
theorem d_Mo_writeOpening_2 : decode m_Mo_writeOpening.2.2.1 2 = .ok (.iload_n 2, 1) := by decide +kernel
theorem d_Mo_writeOpening_3 : decode m_Mo_writeOpening.2.2.1 3 = .ok (.iconst 4, 1) := by decide +kernel
theorem d_Mo_writeOpening_4 : decode m_Mo_writeOpening.2.2.1 4 = .ok (.if_icmp .ge (56), 3) := by decide +kernel
theorem d_Mo_writeOpening_7 : decode m_Mo_writeOpening.2.2.1 7 = .ok (.iload_n 1, 1) := by decide +kernel
theorem d_Mo_writeOpening_8 : decode m_Mo_writeOpening.2.2.1 8 = .ok (.iload_n 2, 1) := by decide +kernel
theorem d_Mo_writeOpening_9 : decode m_Mo_writeOpening.2.2.1 9 = .ok (.iconst 2, 1) := by decide +kernel
theorem d_Mo_writeOpening_10 : decode m_Mo_writeOpening.2.2.1 10 = .ok (.irem, 1) := by decide +kernel
theorem d_Mo_writeOpening_11 : decode m_Mo_writeOpening.2.2.1 11 = .ok (.iconst 4, 1) := by decide +kernel
theorem d_Mo_writeOpening_12 : decode m_Mo_writeOpening.2.2.1 12 = .ok (.imul, 1) := by decide +kernel
theorem d_Mo_writeOpening_13 : decode m_Mo_writeOpening.2.2.1 13 = .ok (.iadd, 1) := by decide +kernel
theorem d_Mo_writeOpening_14 : decode m_Mo_writeOpening.2.2.1 14 = .ok (.iload_n 2, 1) := by decide +kernel
theorem d_Mo_writeOpening_15 : decode m_Mo_writeOpening.2.2.1 15 = .ok (.iconst 2, 1) := by decide +kernel
theorem d_Mo_writeOpening_16 : decode m_Mo_writeOpening.2.2.1 16 = .ok (.idiv, 1) := by decide +kernel
theorem d_Mo_writeOpening_17 : decode m_Mo_writeOpening.2.2.1 17 = .ok (.bipush (16), 2) := by decide +kernel
theorem d_Mo_writeOpening_19 : decode m_Mo_writeOpening.2.2.1 19 = .ok (.imul, 1) := by decide +kernel
theorem d_Mo_writeOpening_20 : decode m_Mo_writeOpening.2.2.1 20 = .ok (.iadd, 1) := by decide +kernel
theorem d_Mo_writeOpening_21 : decode m_Mo_writeOpening.2.2.1 21 = .ok (.bipush (32), 2) := by decide +kernel
theorem d_Mo_writeOpening_23 : decode m_Mo_writeOpening.2.2.1 23 = .ok (.irem, 1) := by decide +kernel
theorem d_Mo_writeOpening_24 : decode m_Mo_writeOpening.2.2.1 24 = .ok (.istore_n 3, 1) := by decide +kernel
theorem d_Mo_writeOpening_25 : decode m_Mo_writeOpening.2.2.1 25 = .ok (.aload_n 0, 1) := by decide +kernel
theorem d_Mo_writeOpening_26 : decode m_Mo_writeOpening.2.2.1 26 = .ok (.aload_n 0, 1) := by decide +kernel
theorem d_Mo_writeOpening_27 : decode m_Mo_writeOpening.2.2.1 27 = .ok (.getfield 49, 3) := by decide +kernel
theorem d_Mo_writeOpening_30 : decode m_Mo_writeOpening.2.2.1 30 = .ok (.iload_n 3, 1) := by decide +kernel
theorem d_Mo_writeOpening_31 : decode m_Mo_writeOpening.2.2.1 31 = .ok (.iaload, 1) := by decide +kernel
theorem d_Mo_writeOpening_32 : decode m_Mo_writeOpening.2.2.1 32 = .ok (.invokevirtual 143, 3) := by decide +kernel
theorem d_Mo_writeOpening_35 : decode m_Mo_writeOpening.2.2.1 35 = .ok (.aload_n 0, 1) := by decide +kernel
theorem d_Mo_writeOpening_36 : decode m_Mo_writeOpening.2.2.1 36 = .ok (.aload_n 0, 1) := by decide +kernel
theorem d_Mo_writeOpening_37 : decode m_Mo_writeOpening.2.2.1 37 = .ok (.getfield 49, 3) := by decide +kernel
theorem d_Mo_writeOpening_40 : decode m_Mo_writeOpening.2.2.1 40 = .ok (.bipush (32), 2) := by decide +kernel
theorem d_Mo_writeOpening_42 : decode m_Mo_writeOpening.2.2.1 42 = .ok (.iload_n 3, 1) := by decide +kernel
theorem d_Mo_writeOpening_43 : decode m_Mo_writeOpening.2.2.1 43 = .ok (.iadd, 1) := by decide +kernel
theorem d_Mo_writeOpening_44 : decode m_Mo_writeOpening.2.2.1 44 = .ok (.iaload, 1) := by decide +kernel
theorem d_Mo_writeOpening_45 : decode m_Mo_writeOpening.2.2.1 45 = .ok (.invokevirtual 143, 3) := by decide +kernel
theorem d_Mo_writeOpening_48 : decode m_Mo_writeOpening.2.2.1 48 = .ok (.aload_n 0, 1) := by decide +kernel
theorem d_Mo_writeOpening_49 : decode m_Mo_writeOpening.2.2.1 49 = .ok (.iconst 0, 1) := by decide +kernel
theorem d_Mo_writeOpening_50 : decode m_Mo_writeOpening.2.2.1 50 = .ok (.iload_n 3, 1) := by decide +kernel
theorem d_Mo_writeOpening_51 : decode m_Mo_writeOpening.2.2.1 51 = .ok (.invokevirtual 146, 3) := by decide +kernel
theorem d_Mo_writeOpening_54 : decode m_Mo_writeOpening.2.2.1 54 = .ok (.iinc 2 (1), 3) := by decide +kernel
theorem d_Mo_writeOpening_57 : decode m_Mo_writeOpening.2.2.1 57 = .ok (.goto (-55), 3) := by decide +kernel
theorem d_Mo_writeOpening_60 : decode m_Mo_writeOpening.2.2.1 60 = .ok (.iconst 0, 1) := by decide +kernel
theorem d_Mo_writeOpening_61 : decode m_Mo_writeOpening.2.2.1 61 = .ok (.istore_n 2, 1) := by decide +kernel
theorem d_Mo_writeOpening_62 : decode m_Mo_writeOpening.2.2.1 62 = .ok (.iload_n 2, 1) := by decide +kernel
theorem d_Mo_writeOpening_63 : decode m_Mo_writeOpening.2.2.1 63 = .ok (.iconst 3, 1) := by decide +kernel
theorem d_Mo_writeOpening_64 : decode m_Mo_writeOpening.2.2.1 64 = .ok (.if_icmp .ge (64), 3) := by decide +kernel
theorem d_Mo_writeOpening_67 : decode m_Mo_writeOpening.2.2.1 67 = .ok (.bipush (16), 2) := by decide +kernel
theorem d_Mo_writeOpening_69 : decode m_Mo_writeOpening.2.2.1 69 = .ok (.iload_n 2, 1) := by decide +kernel
theorem d_Mo_writeOpening_70 : decode m_Mo_writeOpening.2.2.1 70 = .ok (.ishr, 1) := by decide +kernel
theorem d_Mo_writeOpening_71 : decode m_Mo_writeOpening.2.2.1 71 = .ok (.istore_n 3, 1) := by decide +kernel
theorem d_Mo_writeOpening_72 : decode m_Mo_writeOpening.2.2.1 72 = .ok (.iconst 0, 1) := by decide +kernel
theorem d_Mo_writeOpening_73 : decode m_Mo_writeOpening.2.2.1 73 = .ok (.istore 4, 2) := by decide +kernel
theorem d_Mo_writeOpening_75 : decode m_Mo_writeOpening.2.2.1 75 = .ok (.iload 4, 2) := by decide +kernel
theorem d_Mo_writeOpening_77 : decode m_Mo_writeOpening.2.2.1 77 = .ok (.iconst 2, 1) := by decide +kernel
theorem d_Mo_writeOpening_78 : decode m_Mo_writeOpening.2.2.1 78 = .ok (.if_icmp .ge (44), 3) := by decide +kernel
theorem d_Mo_writeOpening_81 : decode m_Mo_writeOpening.2.2.1 81 = .ok (.iload_n 1, 1) := by decide +kernel
theorem d_Mo_writeOpening_82 : decode m_Mo_writeOpening.2.2.1 82 = .ok (.iload_n 3, 1) := by decide +kernel
theorem d_Mo_writeOpening_83 : decode m_Mo_writeOpening.2.2.1 83 = .ok (.irem, 1) := by decide +kernel
theorem d_Mo_writeOpening_84 : decode m_Mo_writeOpening.2.2.1 84 = .ok (.iload 4, 2) := by decide +kernel
theorem d_Mo_writeOpening_86 : decode m_Mo_writeOpening.2.2.1 86 = .ok (.iload_n 3, 1) := by decide +kernel
theorem d_Mo_writeOpening_87 : decode m_Mo_writeOpening.2.2.1 87 = .ok (.imul, 1) := by decide +kernel
theorem d_Mo_writeOpening_88 : decode m_Mo_writeOpening.2.2.1 88 = .ok (.iadd, 1) := by decide +kernel
theorem d_Mo_writeOpening_89 : decode m_Mo_writeOpening.2.2.1 89 = .ok (.istore 5, 2) := by decide +kernel
theorem d_Mo_writeOpening_91 : decode m_Mo_writeOpening.2.2.1 91 = .ok (.aload_n 0, 1) := by decide +kernel
theorem d_Mo_writeOpening_92 : decode m_Mo_writeOpening.2.2.1 92 = .ok (.aload_n 0, 1) := by decide +kernel
theorem d_Mo_writeOpening_93 : decode m_Mo_writeOpening.2.2.1 93 = .ok (.getfield 52, 3) := by decide +kernel
theorem d_Mo_writeOpening_96 : decode m_Mo_writeOpening.2.2.1 96 = .ok (.iload_n 2, 1) := by decide +kernel
theorem d_Mo_writeOpening_97 : decode m_Mo_writeOpening.2.2.1 97 = .ok (.invokestatic 137, 3) := by decide +kernel
theorem d_Mo_writeOpening_100 : decode m_Mo_writeOpening.2.2.1 100 = .ok (.iload 5, 2) := by decide +kernel
theorem d_Mo_writeOpening_102 : decode m_Mo_writeOpening.2.2.1 102 = .ok (.iadd, 1) := by decide +kernel
theorem d_Mo_writeOpening_103 : decode m_Mo_writeOpening.2.2.1 103 = .ok (.iaload, 1) := by decide +kernel
theorem d_Mo_writeOpening_104 : decode m_Mo_writeOpening.2.2.1 104 = .ok (.invokevirtual 143, 3) := by decide +kernel
theorem d_Mo_writeOpening_107 : decode m_Mo_writeOpening.2.2.1 107 = .ok (.aload_n 0, 1) := by decide +kernel
theorem d_Mo_writeOpening_108 : decode m_Mo_writeOpening.2.2.1 108 = .ok (.iload_n 2, 1) := by decide +kernel
theorem d_Mo_writeOpening_109 : decode m_Mo_writeOpening.2.2.1 109 = .ok (.iconst 1, 1) := by decide +kernel
theorem d_Mo_writeOpening_110 : decode m_Mo_writeOpening.2.2.1 110 = .ok (.iadd, 1) := by decide +kernel
theorem d_Mo_writeOpening_111 : decode m_Mo_writeOpening.2.2.1 111 = .ok (.iload 5, 2) := by decide +kernel
theorem d_Mo_writeOpening_113 : decode m_Mo_writeOpening.2.2.1 113 = .ok (.invokevirtual 146, 3) := by decide +kernel
theorem d_Mo_writeOpening_116 : decode m_Mo_writeOpening.2.2.1 116 = .ok (.iinc 4 (1), 3) := by decide +kernel
theorem d_Mo_writeOpening_119 : decode m_Mo_writeOpening.2.2.1 119 = .ok (.goto (-44), 3) := by decide +kernel
theorem d_Mo_writeOpening_122 : decode m_Mo_writeOpening.2.2.1 122 = .ok (.iinc 2 (1), 3) := by decide +kernel
theorem d_Mo_writeOpening_125 : decode m_Mo_writeOpening.2.2.1 125 = .ok (.goto (-63), 3) := by decide +kernel
theorem d_Mo_writeOpening_128 : decode m_Mo_writeOpening.2.2.1 128 = .ok (.return_, 1) := by decide +kernel
theorem d_Mo_nextLayer_0 : decode m_Mo_nextLayer.2.2.1 0 = .ok (.bipush (16), 2) := by decide +kernel
theorem d_Mo_nextLayer_2 : decode m_Mo_nextLayer.2.2.1 2 = .ok (.iload_n 1, 1) := by decide +kernel
theorem d_Mo_nextLayer_3 : decode m_Mo_nextLayer.2.2.1 3 = .ok (.ishr, 1) := by decide +kernel
theorem d_Mo_nextLayer_4 : decode m_Mo_nextLayer.2.2.1 4 = .ok (.istore_n 2, 1) := by decide +kernel
theorem d_Mo_nextLayer_5 : decode m_Mo_nextLayer.2.2.1 5 = .ok (.iload_n 1, 1) := by decide +kernel
theorem d_Mo_nextLayer_6 : decode m_Mo_nextLayer.2.2.1 6 = .ok (.invokestatic 137, 3) := by decide +kernel
theorem d_Mo_nextLayer_9 : decode m_Mo_nextLayer.2.2.1 9 = .ok (.istore_n 3, 1) := by decide +kernel
theorem d_Mo_nextLayer_10 : decode m_Mo_nextLayer.2.2.1 10 = .ok (.iconst 0, 1) := by decide +kernel
theorem d_Mo_nextLayer_11 : decode m_Mo_nextLayer.2.2.1 11 = .ok (.istore 4, 2) := by decide +kernel
theorem d_Mo_nextLayer_13 : decode m_Mo_nextLayer.2.2.1 13 = .ok (.iload 4, 2) := by decide +kernel
theorem d_Mo_nextLayer_15 : decode m_Mo_nextLayer.2.2.1 15 = .ok (.iload_n 2, 1) := by decide +kernel
theorem d_Mo_nextLayer_16 : decode m_Mo_nextLayer.2.2.1 16 = .ok (.if_icmp .ge (50), 3) := by decide +kernel
theorem d_Mo_nextLayer_19 : decode m_Mo_nextLayer.2.2.1 19 = .ok (.aload_n 0, 1) := by decide +kernel
theorem d_Mo_nextLayer_20 : decode m_Mo_nextLayer.2.2.1 20 = .ok (.getfield 52, 3) := by decide +kernel
theorem d_Mo_nextLayer_23 : decode m_Mo_nextLayer.2.2.1 23 = .ok (.iload_n 1, 1) := by decide +kernel
theorem d_Mo_nextLayer_24 : decode m_Mo_nextLayer.2.2.1 24 = .ok (.iconst 1, 1) := by decide +kernel
theorem d_Mo_nextLayer_25 : decode m_Mo_nextLayer.2.2.1 25 = .ok (.iadd, 1) := by decide +kernel
theorem d_Mo_nextLayer_26 : decode m_Mo_nextLayer.2.2.1 26 = .ok (.invokestatic 137, 3) := by decide +kernel
theorem d_Mo_nextLayer_29 : decode m_Mo_nextLayer.2.2.1 29 = .ok (.iload 4, 2) := by decide +kernel
theorem d_Mo_nextLayer_31 : decode m_Mo_nextLayer.2.2.1 31 = .ok (.iadd, 1) := by decide +kernel
theorem d_Mo_nextLayer_32 : decode m_Mo_nextLayer.2.2.1 32 = .ok (.aload_n 0, 1) := by decide +kernel
theorem d_Mo_nextLayer_33 : decode m_Mo_nextLayer.2.2.1 33 = .ok (.iload_n 1, 1) := by decide +kernel
theorem d_Mo_nextLayer_34 : decode m_Mo_nextLayer.2.2.1 34 = .ok (.iload 4, 2) := by decide +kernel
theorem d_Mo_nextLayer_36 : decode m_Mo_nextLayer.2.2.1 36 = .ok (.aload_n 0, 1) := by decide +kernel
theorem d_Mo_nextLayer_37 : decode m_Mo_nextLayer.2.2.1 37 = .ok (.getfield 52, 3) := by decide +kernel
theorem d_Mo_nextLayer_40 : decode m_Mo_nextLayer.2.2.1 40 = .ok (.iload_n 3, 1) := by decide +kernel
theorem d_Mo_nextLayer_41 : decode m_Mo_nextLayer.2.2.1 41 = .ok (.iload 4, 2) := by decide +kernel
theorem d_Mo_nextLayer_43 : decode m_Mo_nextLayer.2.2.1 43 = .ok (.iadd, 1) := by decide +kernel
theorem d_Mo_nextLayer_44 : decode m_Mo_nextLayer.2.2.1 44 = .ok (.iaload, 1) := by decide +kernel
theorem d_Mo_nextLayer_45 : decode m_Mo_nextLayer.2.2.1 45 = .ok (.aload_n 0, 1) := by decide +kernel
theorem d_Mo_nextLayer_46 : decode m_Mo_nextLayer.2.2.1 46 = .ok (.getfield 52, 3) := by decide +kernel
theorem d_Mo_nextLayer_49 : decode m_Mo_nextLayer.2.2.1 49 = .ok (.iload_n 3, 1) := by decide +kernel
theorem d_Mo_nextLayer_50 : decode m_Mo_nextLayer.2.2.1 50 = .ok (.iload_n 2, 1) := by decide +kernel
theorem d_Mo_nextLayer_51 : decode m_Mo_nextLayer.2.2.1 51 = .ok (.iadd, 1) := by decide +kernel
theorem d_Mo_nextLayer_52 : decode m_Mo_nextLayer.2.2.1 52 = .ok (.iload 4, 2) := by decide +kernel
theorem d_Mo_nextLayer_54 : decode m_Mo_nextLayer.2.2.1 54 = .ok (.iadd, 1) := by decide +kernel
theorem d_Mo_nextLayer_55 : decode m_Mo_nextLayer.2.2.1 55 = .ok (.iaload, 1) := by decide +kernel
theorem d_Mo_nextLayer_56 : decode m_Mo_nextLayer.2.2.1 56 = .ok (.invokevirtual 150, 3) := by decide +kernel
theorem d_Mo_nextLayer_59 : decode m_Mo_nextLayer.2.2.1 59 = .ok (.iastore, 1) := by decide +kernel
theorem d_Mo_nextLayer_60 : decode m_Mo_nextLayer.2.2.1 60 = .ok (.iinc 4 (1), 3) := by decide +kernel
theorem d_Mo_nextLayer_63 : decode m_Mo_nextLayer.2.2.1 63 = .ok (.goto (-50), 3) := by decide +kernel
theorem d_Mo_nextLayer_66 : decode m_Mo_nextLayer.2.2.1 66 = .ok (.return_, 1) := by decide +kernel
theorem d_Mo_prove_0 : decode m_Mo_prove.2.2.1 0 = .ok (.aload_n 0, 1) := by decide +kernel
theorem d_Mo_prove_1 : decode m_Mo_prove.2.2.1 1 = .ok (.invokevirtual 113, 3) := by decide +kernel
theorem d_Mo_prove_4 : decode m_Mo_prove.2.2.1 4 = .ok (.aload_n 0, 1) := by decide +kernel
theorem d_Mo_prove_5 : decode m_Mo_prove.2.2.1 5 = .ok (.getfield 84, 3) := by decide +kernel
theorem d_Mo_prove_8 : decode m_Mo_prove.2.2.1 8 = .ok (.iadd, 1) := by decide +kernel
theorem d_Mo_prove_9 : decode m_Mo_prove.2.2.1 9 = .ok (.ifCond .ne (5), 3) := by decide +kernel
theorem d_Mo_prove_12 : decode m_Mo_prove.2.2.1 12 = .ok (.iconst (-1), 1) := by decide +kernel
theorem d_Mo_prove_13 : decode m_Mo_prove.2.2.1 13 = .ok (.ireturn, 1) := by decide +kernel
theorem d_Mo_prove_14 : decode m_Mo_prove.2.2.1 14 = .ok (.aload_n 0, 1) := by decide +kernel
theorem d_Mo_prove_15 : decode m_Mo_prove.2.2.1 15 = .ok (.invokevirtual 154, 3) := by decide +kernel
theorem d_Mo_prove_18 : decode m_Mo_prove.2.2.1 18 = .ok (.istore_n 1, 1) := by decide +kernel
theorem d_Mo_prove_19 : decode m_Mo_prove.2.2.1 19 = .ok (.iload_n 1, 1) := by decide +kernel
theorem d_Mo_prove_20 : decode m_Mo_prove.2.2.1 20 = .ok (.ifCond .lt (8), 3) := by decide +kernel
theorem d_Mo_prove_23 : decode m_Mo_prove.2.2.1 23 = .ok (.bipush (-10), 2) := by decide +kernel
theorem d_Mo_prove_25 : decode m_Mo_prove.2.2.1 25 = .ok (.iload_n 1, 1) := by decide +kernel
theorem d_Mo_prove_26 : decode m_Mo_prove.2.2.1 26 = .ok (.isub, 1) := by decide +kernel
theorem d_Mo_prove_27 : decode m_Mo_prove.2.2.1 27 = .ok (.ireturn, 1) := by decide +kernel
theorem d_Mo_prove_28 : decode m_Mo_prove.2.2.1 28 = .ok (.iconst 0, 1) := by decide +kernel
theorem d_Mo_prove_29 : decode m_Mo_prove.2.2.1 29 = .ok (.istore_n 2, 1) := by decide +kernel
theorem d_Mo_prove_30 : decode m_Mo_prove.2.2.1 30 = .ok (.iload_n 2, 1) := by decide +kernel
theorem d_Mo_prove_31 : decode m_Mo_prove.2.2.1 31 = .ok (.iconst 2, 1) := by decide +kernel
theorem d_Mo_prove_32 : decode m_Mo_prove.2.2.1 32 = .ok (.if_icmp .ge (44), 3) := by decide +kernel
theorem d_Mo_prove_35 : decode m_Mo_prove.2.2.1 35 = .ok (.iconst 0, 1) := by decide +kernel
theorem d_Mo_prove_36 : decode m_Mo_prove.2.2.1 36 = .ok (.istore_n 3, 1) := by decide +kernel
theorem d_Mo_prove_37 : decode m_Mo_prove.2.2.1 37 = .ok (.iload_n 3, 1) := by decide +kernel
theorem d_Mo_prove_38 : decode m_Mo_prove.2.2.1 38 = .ok (.bipush (32), 2) := by decide +kernel
theorem d_Mo_prove_40 : decode m_Mo_prove.2.2.1 40 = .ok (.if_icmp .ge (30), 3) := by decide +kernel
theorem d_Mo_prove_43 : decode m_Mo_prove.2.2.1 43 = .ok (.aload_n 0, 1) := by decide +kernel
theorem d_Mo_prove_44 : decode m_Mo_prove.2.2.1 44 = .ok (.getfield 49, 3) := by decide +kernel
theorem d_Mo_prove_47 : decode m_Mo_prove.2.2.1 47 = .ok (.bipush (32), 2) := by decide +kernel
theorem d_Mo_prove_49 : decode m_Mo_prove.2.2.1 49 = .ok (.iload_n 2, 1) := by decide +kernel
theorem d_Mo_prove_50 : decode m_Mo_prove.2.2.1 50 = .ok (.imul, 1) := by decide +kernel
theorem d_Mo_prove_51 : decode m_Mo_prove.2.2.1 51 = .ok (.iload_n 3, 1) := by decide +kernel
theorem d_Mo_prove_52 : decode m_Mo_prove.2.2.1 52 = .ok (.iadd, 1) := by decide +kernel
theorem d_Mo_prove_53 : decode m_Mo_prove.2.2.1 53 = .ok (.aload_n 0, 1) := by decide +kernel
theorem d_Mo_prove_54 : decode m_Mo_prove.2.2.1 54 = .ok (.iload_n 2, 1) := by decide +kernel
theorem d_Mo_prove_55 : decode m_Mo_prove.2.2.1 55 = .ok (.aload_n 0, 1) := by decide +kernel
theorem d_Mo_prove_56 : decode m_Mo_prove.2.2.1 56 = .ok (.iload_n 3, 1) := by decide +kernel
theorem d_Mo_prove_57 : decode m_Mo_prove.2.2.1 57 = .ok (.invokevirtual 97, 3) := by decide +kernel
theorem d_Mo_prove_60 : decode m_Mo_prove.2.2.1 60 = .ok (.invokevirtual 100, 3) := by decide +kernel
theorem d_Mo_prove_63 : decode m_Mo_prove.2.2.1 63 = .ok (.iastore, 1) := by decide +kernel
theorem d_Mo_prove_64 : decode m_Mo_prove.2.2.1 64 = .ok (.iinc 3 (1), 3) := by decide +kernel
theorem d_Mo_prove_67 : decode m_Mo_prove.2.2.1 67 = .ok (.goto (-30), 3) := by decide +kernel
theorem d_Mo_prove_70 : decode m_Mo_prove.2.2.1 70 = .ok (.iinc 2 (1), 3) := by decide +kernel
theorem d_Mo_prove_73 : decode m_Mo_prove.2.2.1 73 = .ok (.goto (-43), 3) := by decide +kernel
theorem d_Mo_prove_76 : decode m_Mo_prove.2.2.1 76 = .ok (.aload_n 0, 1) := by decide +kernel
theorem d_Mo_prove_77 : decode m_Mo_prove.2.2.1 77 = .ok (.invokevirtual 157, 3) := by decide +kernel
theorem d_Mo_prove_80 : decode m_Mo_prove.2.2.1 80 = .ok (.aload_n 0, 1) := by decide +kernel
theorem d_Mo_prove_81 : decode m_Mo_prove.2.2.1 81 = .ok (.getfield 34, 3) := by decide +kernel
theorem d_Mo_prove_84 : decode m_Mo_prove.2.2.1 84 = .ok (.iconst 0, 1) := by decide +kernel
theorem d_Mo_prove_85 : decode m_Mo_prove.2.2.1 85 = .ok (.aload_n 0, 1) := by decide +kernel
theorem d_Mo_prove_86 : decode m_Mo_prove.2.2.1 86 = .ok (.iconst 0, 1) := by decide +kernel
theorem d_Mo_prove_87 : decode m_Mo_prove.2.2.1 87 = .ok (.invokevirtual 160, 3) := by decide +kernel
theorem d_Mo_prove_90 : decode m_Mo_prove.2.2.1 90 = .ok (.iastore, 1) := by decide +kernel
theorem d_Mo_prove_91 : decode m_Mo_prove.2.2.1 91 = .ok (.aload_n 0, 1) := by decide +kernel
theorem d_Mo_prove_92 : decode m_Mo_prove.2.2.1 92 = .ok (.aload_n 0, 1) := by decide +kernel
theorem d_Mo_prove_93 : decode m_Mo_prove.2.2.1 93 = .ok (.getfield 34, 3) := by decide +kernel
theorem d_Mo_prove_96 : decode m_Mo_prove.2.2.1 96 = .ok (.iconst 0, 1) := by decide +kernel
theorem d_Mo_prove_97 : decode m_Mo_prove.2.2.1 97 = .ok (.iaload, 1) := by decide +kernel
theorem d_Mo_prove_98 : decode m_Mo_prove.2.2.1 98 = .ok (.invokevirtual 126, 3) := by decide +kernel
theorem d_Mo_prove_101 : decode m_Mo_prove.2.2.1 101 = .ok (.aload_n 0, 1) := by decide +kernel
theorem d_Mo_prove_102 : decode m_Mo_prove.2.2.1 102 = .ok (.aload_n 0, 1) := by decide +kernel
theorem d_Mo_prove_103 : decode m_Mo_prove.2.2.1 103 = .ok (.invokevirtual 163, 3) := by decide +kernel
theorem d_Mo_prove_106 : decode m_Mo_prove.2.2.1 106 = .ok (.putfield 117, 3) := by decide +kernel
theorem d_Mo_prove_109 : decode m_Mo_prove.2.2.1 109 = .ok (.iconst 0, 1) := by decide +kernel
theorem d_Mo_prove_110 : decode m_Mo_prove.2.2.1 110 = .ok (.istore_n 2, 1) := by decide +kernel
theorem d_Mo_prove_111 : decode m_Mo_prove.2.2.1 111 = .ok (.iload_n 2, 1) := by decide +kernel
theorem d_Mo_prove_112 : decode m_Mo_prove.2.2.1 112 = .ok (.bipush (32), 2) := by decide +kernel
theorem d_Mo_prove_114 : decode m_Mo_prove.2.2.1 114 = .ok (.if_icmp .ge (64), 3) := by decide +kernel
theorem d_Mo_prove_117 : decode m_Mo_prove.2.2.1 117 = .ok (.aload_n 0, 1) := by decide +kernel
theorem d_Mo_prove_118 : decode m_Mo_prove.2.2.1 118 = .ok (.aload_n 0, 1) := by decide +kernel
theorem d_Mo_prove_119 : decode m_Mo_prove.2.2.1 119 = .ok (.getfield 49, 3) := by decide +kernel
theorem d_Mo_prove_122 : decode m_Mo_prove.2.2.1 122 = .ok (.iload_n 2, 1) := by decide +kernel
theorem d_Mo_prove_123 : decode m_Mo_prove.2.2.1 123 = .ok (.iaload, 1) := by decide +kernel
theorem d_Mo_prove_124 : decode m_Mo_prove.2.2.1 124 = .ok (.aload_n 0, 1) := by decide +kernel
theorem d_Mo_prove_125 : decode m_Mo_prove.2.2.1 125 = .ok (.getfield 49, 3) := by decide +kernel
theorem d_Mo_prove_128 : decode m_Mo_prove.2.2.1 128 = .ok (.bipush (32), 2) := by decide +kernel
theorem d_Mo_prove_130 : decode m_Mo_prove.2.2.1 130 = .ok (.iload_n 2, 1) := by decide +kernel
theorem d_Mo_prove_131 : decode m_Mo_prove.2.2.1 131 = .ok (.iadd, 1) := by decide +kernel
theorem d_Mo_prove_132 : decode m_Mo_prove.2.2.1 132 = .ok (.iaload, 1) := by decide +kernel
theorem d_Mo_prove_133 : decode m_Mo_prove.2.2.1 133 = .ok (.aload_n 0, 1) := by decide +kernel
theorem d_Mo_prove_134 : decode m_Mo_prove.2.2.1 134 = .ok (.getfield 49, 3) := by decide +kernel
theorem d_Mo_prove_137 : decode m_Mo_prove.2.2.1 137 = .ok (.iload_n 2, 1) := by decide +kernel
theorem d_Mo_prove_138 : decode m_Mo_prove.2.2.1 138 = .ok (.iconst 4, 1) := by decide +kernel
theorem d_Mo_prove_139 : decode m_Mo_prove.2.2.1 139 = .ok (.iadd, 1) := by decide +kernel
theorem d_Mo_prove_140 : decode m_Mo_prove.2.2.1 140 = .ok (.bipush (32), 2) := by decide +kernel
theorem d_Mo_prove_142 : decode m_Mo_prove.2.2.1 142 = .ok (.irem, 1) := by decide +kernel
theorem d_Mo_prove_143 : decode m_Mo_prove.2.2.1 143 = .ok (.iaload, 1) := by decide +kernel
theorem d_Mo_prove_144 : decode m_Mo_prove.2.2.1 144 = .ok (.aload_n 0, 1) := by decide +kernel
theorem d_Mo_prove_145 : decode m_Mo_prove.2.2.1 145 = .ok (.getfield 49, 3) := by decide +kernel
theorem d_Mo_prove_148 : decode m_Mo_prove.2.2.1 148 = .ok (.bipush (32), 2) := by decide +kernel
theorem d_Mo_prove_150 : decode m_Mo_prove.2.2.1 150 = .ok (.iload_n 2, 1) := by decide +kernel
theorem d_Mo_prove_151 : decode m_Mo_prove.2.2.1 151 = .ok (.iconst 4, 1) := by decide +kernel
theorem d_Mo_prove_152 : decode m_Mo_prove.2.2.1 152 = .ok (.iadd, 1) := by decide +kernel
theorem d_Mo_prove_153 : decode m_Mo_prove.2.2.1 153 = .ok (.bipush (32), 2) := by decide +kernel
theorem d_Mo_prove_155 : decode m_Mo_prove.2.2.1 155 = .ok (.irem, 1) := by decide +kernel
theorem d_Mo_prove_156 : decode m_Mo_prove.2.2.1 156 = .ok (.iadd, 1) := by decide +kernel
theorem d_Mo_prove_157 : decode m_Mo_prove.2.2.1 157 = .ok (.iaload, 1) := by decide +kernel
theorem d_Mo_prove_158 : decode m_Mo_prove.2.2.1 158 = .ok (.invokevirtual 103, 3) := by decide +kernel
theorem d_Mo_prove_161 : decode m_Mo_prove.2.2.1 161 = .ok (.aload_n 0, 1) := by decide +kernel
theorem d_Mo_prove_162 : decode m_Mo_prove.2.2.1 162 = .ok (.getfield 52, 3) := by decide +kernel
theorem d_Mo_prove_165 : decode m_Mo_prove.2.2.1 165 = .ok (.iload_n 2, 1) := by decide +kernel
theorem d_Mo_prove_166 : decode m_Mo_prove.2.2.1 166 = .ok (.aload_n 0, 1) := by decide +kernel
theorem d_Mo_prove_167 : decode m_Mo_prove.2.2.1 167 = .ok (.iload_n 2, 1) := by decide +kernel
theorem d_Mo_prove_168 : decode m_Mo_prove.2.2.1 168 = .ok (.invokevirtual 166, 3) := by decide +kernel
theorem d_Mo_prove_171 : decode m_Mo_prove.2.2.1 171 = .ok (.iastore, 1) := by decide +kernel
theorem d_Mo_prove_172 : decode m_Mo_prove.2.2.1 172 = .ok (.iinc 2 (1), 3) := by decide +kernel
theorem d_Mo_prove_175 : decode m_Mo_prove.2.2.1 175 = .ok (.goto (-64), 3) := by decide +kernel
theorem d_Mo_prove_178 : decode m_Mo_prove.2.2.1 178 = .ok (.iconst 0, 1) := by decide +kernel
theorem d_Mo_prove_179 : decode m_Mo_prove.2.2.1 179 = .ok (.istore_n 2, 1) := by decide +kernel
theorem d_Mo_prove_180 : decode m_Mo_prove.2.2.1 180 = .ok (.iload_n 2, 1) := by decide +kernel
theorem d_Mo_prove_181 : decode m_Mo_prove.2.2.1 181 = .ok (.iconst 3, 1) := by decide +kernel
theorem d_Mo_prove_182 : decode m_Mo_prove.2.2.1 182 = .ok (.if_icmp .ge (51), 3) := by decide +kernel
theorem d_Mo_prove_185 : decode m_Mo_prove.2.2.1 185 = .ok (.aload_n 0, 1) := by decide +kernel
theorem d_Mo_prove_186 : decode m_Mo_prove.2.2.1 186 = .ok (.getfield 34, 3) := by decide +kernel
theorem d_Mo_prove_189 : decode m_Mo_prove.2.2.1 189 = .ok (.iload_n 2, 1) := by decide +kernel
theorem d_Mo_prove_190 : decode m_Mo_prove.2.2.1 190 = .ok (.iconst 1, 1) := by decide +kernel
theorem d_Mo_prove_191 : decode m_Mo_prove.2.2.1 191 = .ok (.iadd, 1) := by decide +kernel
theorem d_Mo_prove_192 : decode m_Mo_prove.2.2.1 192 = .ok (.aload_n 0, 1) := by decide +kernel
theorem d_Mo_prove_193 : decode m_Mo_prove.2.2.1 193 = .ok (.iload_n 2, 1) := by decide +kernel
theorem d_Mo_prove_194 : decode m_Mo_prove.2.2.1 194 = .ok (.iconst 1, 1) := by decide +kernel
theorem d_Mo_prove_195 : decode m_Mo_prove.2.2.1 195 = .ok (.iadd, 1) := by decide +kernel
theorem d_Mo_prove_196 : decode m_Mo_prove.2.2.1 196 = .ok (.invokevirtual 160, 3) := by decide +kernel
theorem d_Mo_prove_199 : decode m_Mo_prove.2.2.1 199 = .ok (.iastore, 1) := by decide +kernel
theorem d_Mo_prove_200 : decode m_Mo_prove.2.2.1 200 = .ok (.aload_n 0, 1) := by decide +kernel
theorem d_Mo_prove_201 : decode m_Mo_prove.2.2.1 201 = .ok (.aload_n 0, 1) := by decide +kernel
theorem d_Mo_prove_202 : decode m_Mo_prove.2.2.1 202 = .ok (.getfield 34, 3) := by decide +kernel
theorem d_Mo_prove_205 : decode m_Mo_prove.2.2.1 205 = .ok (.iload_n 2, 1) := by decide +kernel
theorem d_Mo_prove_206 : decode m_Mo_prove.2.2.1 206 = .ok (.iconst 1, 1) := by decide +kernel
theorem d_Mo_prove_207 : decode m_Mo_prove.2.2.1 207 = .ok (.iadd, 1) := by decide +kernel
theorem d_Mo_prove_208 : decode m_Mo_prove.2.2.1 208 = .ok (.iaload, 1) := by decide +kernel
theorem d_Mo_prove_209 : decode m_Mo_prove.2.2.1 209 = .ok (.invokevirtual 126, 3) := by decide +kernel
theorem d_Mo_prove_212 : decode m_Mo_prove.2.2.1 212 = .ok (.aload_n 0, 1) := by decide +kernel
theorem d_Mo_prove_213 : decode m_Mo_prove.2.2.1 213 = .ok (.getfield 37, 3) := by decide +kernel
theorem d_Mo_prove_216 : decode m_Mo_prove.2.2.1 216 = .ok (.iload_n 2, 1) := by decide +kernel
theorem d_Mo_prove_217 : decode m_Mo_prove.2.2.1 217 = .ok (.aload_n 0, 1) := by decide +kernel
theorem d_Mo_prove_218 : decode m_Mo_prove.2.2.1 218 = .ok (.invokevirtual 163, 3) := by decide +kernel
theorem d_Mo_prove_221 : decode m_Mo_prove.2.2.1 221 = .ok (.iastore, 1) := by decide +kernel
theorem d_Mo_prove_222 : decode m_Mo_prove.2.2.1 222 = .ok (.aload_n 0, 1) := by decide +kernel
theorem d_Mo_prove_223 : decode m_Mo_prove.2.2.1 223 = .ok (.iload_n 2, 1) := by decide +kernel
theorem d_Mo_prove_224 : decode m_Mo_prove.2.2.1 224 = .ok (.invokevirtual 169, 3) := by decide +kernel
theorem d_Mo_prove_227 : decode m_Mo_prove.2.2.1 227 = .ok (.iinc 2 (1), 3) := by decide +kernel
theorem d_Mo_prove_230 : decode m_Mo_prove.2.2.1 230 = .ok (.goto (-50), 3) := by decide +kernel
theorem d_Mo_prove_233 : decode m_Mo_prove.2.2.1 233 = .ok (.aload_n 0, 1) := by decide +kernel
theorem d_Mo_prove_234 : decode m_Mo_prove.2.2.1 234 = .ok (.getfield 34, 3) := by decide +kernel
theorem d_Mo_prove_237 : decode m_Mo_prove.2.2.1 237 = .ok (.iconst 4, 1) := by decide +kernel
theorem d_Mo_prove_238 : decode m_Mo_prove.2.2.1 238 = .ok (.aload_n 0, 1) := by decide +kernel
theorem d_Mo_prove_239 : decode m_Mo_prove.2.2.1 239 = .ok (.getfield 52, 3) := by decide +kernel
theorem d_Mo_prove_242 : decode m_Mo_prove.2.2.1 242 = .ok (.bipush (56), 2) := by decide +kernel
theorem d_Mo_prove_244 : decode m_Mo_prove.2.2.1 244 = .ok (.iaload, 1) := by decide +kernel
theorem d_Mo_prove_245 : decode m_Mo_prove.2.2.1 245 = .ok (.iastore, 1) := by decide +kernel
theorem d_Mo_prove_246 : decode m_Mo_prove.2.2.1 246 = .ok (.aload_n 0, 1) := by decide +kernel
theorem d_Mo_prove_247 : decode m_Mo_prove.2.2.1 247 = .ok (.aload_n 0, 1) := by decide +kernel
theorem d_Mo_prove_248 : decode m_Mo_prove.2.2.1 248 = .ok (.getfield 34, 3) := by decide +kernel
theorem d_Mo_prove_251 : decode m_Mo_prove.2.2.1 251 = .ok (.iconst 4, 1) := by decide +kernel
theorem d_Mo_prove_252 : decode m_Mo_prove.2.2.1 252 = .ok (.iaload, 1) := by decide +kernel
theorem d_Mo_prove_253 : decode m_Mo_prove.2.2.1 253 = .ok (.invokevirtual 172, 3) := by decide +kernel
theorem d_Mo_prove_256 : decode m_Mo_prove.2.2.1 256 = .ok (.aload_n 0, 1) := by decide +kernel
theorem d_Mo_prove_257 : decode m_Mo_prove.2.2.1 257 = .ok (.iconst 5, 1) := by decide +kernel
theorem d_Mo_prove_258 : decode m_Mo_prove.2.2.1 258 = .ok (.putfield 140, 3) := by decide +kernel
theorem d_Mo_prove_261 : decode m_Mo_prove.2.2.1 261 = .ok (.iconst 0, 1) := by decide +kernel
theorem d_Mo_prove_262 : decode m_Mo_prove.2.2.1 262 = .ok (.istore_n 2, 1) := by decide +kernel
theorem d_Mo_prove_263 : decode m_Mo_prove.2.2.1 263 = .ok (.iload_n 2, 1) := by decide +kernel
theorem d_Mo_prove_264 : decode m_Mo_prove.2.2.1 264 = .ok (.iconst 3, 1) := by decide +kernel
theorem d_Mo_prove_265 : decode m_Mo_prove.2.2.1 265 = .ok (.if_icmp .ge (19), 3) := by decide +kernel
theorem d_Mo_prove_268 : decode m_Mo_prove.2.2.1 268 = .ok (.aload_n 0, 1) := by decide +kernel
theorem d_Mo_prove_269 : decode m_Mo_prove.2.2.1 269 = .ok (.aload_n 0, 1) := by decide +kernel
theorem d_Mo_prove_270 : decode m_Mo_prove.2.2.1 270 = .ok (.getfield 40, 3) := by decide +kernel
theorem d_Mo_prove_273 : decode m_Mo_prove.2.2.1 273 = .ok (.iload_n 2, 1) := by decide +kernel
theorem d_Mo_prove_274 : decode m_Mo_prove.2.2.1 274 = .ok (.iaload, 1) := by decide +kernel
theorem d_Mo_prove_275 : decode m_Mo_prove.2.2.1 275 = .ok (.invokevirtual 175, 3) := by decide +kernel
theorem d_Mo_prove_278 : decode m_Mo_prove.2.2.1 278 = .ok (.iinc 2 (1), 3) := by decide +kernel
theorem d_Mo_prove_281 : decode m_Mo_prove.2.2.1 281 = .ok (.goto (-18), 3) := by decide +kernel
theorem d_Mo_prove_284 : decode m_Mo_prove.2.2.1 284 = .ok (.aload_n 0, 1) := by decide +kernel
theorem d_Mo_prove_285 : decode m_Mo_prove.2.2.1 285 = .ok (.iconst 1, 1) := by decide +kernel
theorem d_Mo_prove_286 : decode m_Mo_prove.2.2.1 286 = .ok (.putfield 178, 3) := by decide +kernel
theorem d_Mo_prove_289 : decode m_Mo_prove.2.2.1 289 = .ok (.iconst 0, 1) := by decide +kernel
theorem d_Mo_prove_290 : decode m_Mo_prove.2.2.1 290 = .ok (.ireturn, 1) := by decide +kernel
theorem d_Mo_proof_0 : decode m_Mo_proof.2.2.1 0 = .ok (.aload_n 0, 1) := by decide +kernel
theorem d_Mo_proof_1 : decode m_Mo_proof.2.2.1 1 = .ok (.getfield 178, 3) := by decide +kernel
theorem d_Mo_proof_4 : decode m_Mo_proof.2.2.1 4 = .ok (.ifCond .eq (23), 3) := by decide +kernel
theorem d_Mo_proof_7 : decode m_Mo_proof.2.2.1 7 = .ok (.iload_n 1, 1) := by decide +kernel
theorem d_Mo_proof_8 : decode m_Mo_proof.2.2.1 8 = .ok (.ifCond .lt (19), 3) := by decide +kernel
theorem d_Mo_proof_11 : decode m_Mo_proof.2.2.1 11 = .ok (.iload_n 1, 1) := by decide +kernel
theorem d_Mo_proof_12 : decode m_Mo_proof.2.2.1 12 = .ok (.sipush (179), 3) := by decide +kernel
theorem d_Mo_proof_15 : decode m_Mo_proof.2.2.1 15 = .ok (.if_icmp .ge (12), 3) := by decide +kernel
theorem d_Mo_proof_18 : decode m_Mo_proof.2.2.1 18 = .ok (.aload_n 0, 1) := by decide +kernel
theorem d_Mo_proof_19 : decode m_Mo_proof.2.2.1 19 = .ok (.getfield 34, 3) := by decide +kernel
theorem d_Mo_proof_22 : decode m_Mo_proof.2.2.1 22 = .ok (.iload_n 1, 1) := by decide +kernel
theorem d_Mo_proof_23 : decode m_Mo_proof.2.2.1 23 = .ok (.iaload, 1) := by decide +kernel
theorem d_Mo_proof_24 : decode m_Mo_proof.2.2.1 24 = .ok (.goto (4), 3) := by decide +kernel
theorem d_Mo_proof_27 : decode m_Mo_proof.2.2.1 27 = .ok (.iconst 0, 1) := by decide +kernel
theorem d_Mo_proof_28 : decode m_Mo_proof.2.2.1 28 = .ok (.ireturn, 1) := by decide +kernel
theorem d_Mo_alter_0 : decode m_Mo_alter.2.2.1 0 = .ok (.aload_n 0, 1) := by decide +kernel
theorem d_Mo_alter_1 : decode m_Mo_alter.2.2.1 1 = .ok (.getfield 178, 3) := by decide +kernel
theorem d_Mo_alter_4 : decode m_Mo_alter.2.2.1 4 = .ok (.ifCond .eq (14), 3) := by decide +kernel
theorem d_Mo_alter_7 : decode m_Mo_alter.2.2.1 7 = .ok (.iload_n 1, 1) := by decide +kernel
theorem d_Mo_alter_8 : decode m_Mo_alter.2.2.1 8 = .ok (.ifCond .lt (10), 3) := by decide +kernel
theorem d_Mo_alter_11 : decode m_Mo_alter.2.2.1 11 = .ok (.iload_n 1, 1) := by decide +kernel
theorem d_Mo_alter_12 : decode m_Mo_alter.2.2.1 12 = .ok (.sipush (179), 3) := by decide +kernel
theorem d_Mo_alter_15 : decode m_Mo_alter.2.2.1 15 = .ok (.if_icmp .lt (5), 3) := by decide +kernel
theorem d_Mo_alter_18 : decode m_Mo_alter.2.2.1 18 = .ok (.iconst 0, 1) := by decide +kernel
theorem d_Mo_alter_19 : decode m_Mo_alter.2.2.1 19 = .ok (.ireturn, 1) := by decide +kernel
theorem d_Mo_alter_20 : decode m_Mo_alter.2.2.1 20 = .ok (.aload_n 0, 1) := by decide +kernel
theorem d_Mo_alter_21 : decode m_Mo_alter.2.2.1 21 = .ok (.getfield 34, 3) := by decide +kernel
theorem d_Mo_alter_24 : decode m_Mo_alter.2.2.1 24 = .ok (.iload_n 1, 1) := by decide +kernel
theorem d_Mo_alter_25 : decode m_Mo_alter.2.2.1 25 = .ok (.iload_n 2, 1) := by decide +kernel
theorem d_Mo_alter_26 : decode m_Mo_alter.2.2.1 26 = .ok (.iastore, 1) := by decide +kernel
theorem d_Mo_alter_27 : decode m_Mo_alter.2.2.1 27 = .ok (.iconst 1, 1) := by decide +kernel
theorem d_Mo_alter_28 : decode m_Mo_alter.2.2.1 28 = .ok (.ireturn, 1) := by decide +kernel
theorem d_Mo_placeOf_0 : decode m_Mo_placeOf.2.2.1 0 = .ok (.iconst 5, 1) := by decide +kernel
theorem d_Mo_placeOf_1 : decode m_Mo_placeOf.2.2.1 1 = .ok (.bipush (58), 2) := by decide +kernel
theorem d_Mo_placeOf_3 : decode m_Mo_placeOf.2.2.1 3 = .ok (.iload_n 0, 1) := by decide +kernel
theorem d_Mo_placeOf_4 : decode m_Mo_placeOf.2.2.1 4 = .ok (.imul, 1) := by decide +kernel
theorem d_Mo_placeOf_5 : decode m_Mo_placeOf.2.2.1 5 = .ok (.iadd, 1) := by decide +kernel
theorem d_Mo_placeOf_6 : decode m_Mo_placeOf.2.2.1 6 = .ok (.istore_n 2, 1) := by decide +kernel
theorem d_Mo_placeOf_7 : decode m_Mo_placeOf.2.2.1 7 = .ok (.iload_n 1, 1) := by decide +kernel
theorem d_Mo_placeOf_8 : decode m_Mo_placeOf.2.2.1 8 = .ok (.iconst 4, 1) := by decide +kernel
theorem d_Mo_placeOf_9 : decode m_Mo_placeOf.2.2.1 9 = .ok (.if_icmp .ge (12), 3) := by decide +kernel
theorem d_Mo_placeOf_12 : decode m_Mo_placeOf.2.2.1 12 = .ok (.iload_n 2, 1) := by decide +kernel
theorem d_Mo_placeOf_13 : decode m_Mo_placeOf.2.2.1 13 = .ok (.bipush (7), 2) := by decide +kernel
theorem d_Mo_placeOf_15 : decode m_Mo_placeOf.2.2.1 15 = .ok (.iload_n 1, 1) := by decide +kernel
theorem d_Mo_placeOf_16 : decode m_Mo_placeOf.2.2.1 16 = .ok (.imul, 1) := by decide +kernel
theorem d_Mo_placeOf_17 : decode m_Mo_placeOf.2.2.1 17 = .ok (.iadd, 1) := by decide +kernel
theorem d_Mo_placeOf_18 : decode m_Mo_placeOf.2.2.1 18 = .ok (.goto (54), 3) := by decide +kernel
theorem d_Mo_placeOf_21 : decode m_Mo_placeOf.2.2.1 21 = .ok (.iload_n 1, 1) := by decide +kernel
theorem d_Mo_placeOf_22 : decode m_Mo_placeOf.2.2.1 22 = .ok (.bipush (6), 2) := by decide +kernel
theorem d_Mo_placeOf_24 : decode m_Mo_placeOf.2.2.1 24 = .ok (.if_icmp .ge (17), 3) := by decide +kernel
theorem d_Mo_placeOf_27 : decode m_Mo_placeOf.2.2.1 27 = .ok (.iload_n 2, 1) := by decide +kernel
theorem d_Mo_placeOf_28 : decode m_Mo_placeOf.2.2.1 28 = .ok (.bipush (28), 2) := by decide +kernel
theorem d_Mo_placeOf_30 : decode m_Mo_placeOf.2.2.1 30 = .ok (.iadd, 1) := by decide +kernel
theorem d_Mo_placeOf_31 : decode m_Mo_placeOf.2.2.1 31 = .ok (.bipush (6), 2) := by decide +kernel
theorem d_Mo_placeOf_33 : decode m_Mo_placeOf.2.2.1 33 = .ok (.iload_n 1, 1) := by decide +kernel
theorem d_Mo_placeOf_34 : decode m_Mo_placeOf.2.2.1 34 = .ok (.iconst 4, 1) := by decide +kernel
theorem d_Mo_placeOf_35 : decode m_Mo_placeOf.2.2.1 35 = .ok (.isub, 1) := by decide +kernel
theorem d_Mo_placeOf_36 : decode m_Mo_placeOf.2.2.1 36 = .ok (.imul, 1) := by decide +kernel
theorem d_Mo_placeOf_37 : decode m_Mo_placeOf.2.2.1 37 = .ok (.iadd, 1) := by decide +kernel
theorem d_Mo_placeOf_38 : decode m_Mo_placeOf.2.2.1 38 = .ok (.goto (34), 3) := by decide +kernel
theorem d_Mo_placeOf_41 : decode m_Mo_placeOf.2.2.1 41 = .ok (.iload_n 1, 1) := by decide +kernel
theorem d_Mo_placeOf_42 : decode m_Mo_placeOf.2.2.1 42 = .ok (.bipush (8), 2) := by decide +kernel
theorem d_Mo_placeOf_44 : decode m_Mo_placeOf.2.2.1 44 = .ok (.if_icmp .ge (17), 3) := by decide +kernel
theorem d_Mo_placeOf_47 : decode m_Mo_placeOf.2.2.1 47 = .ok (.iload_n 2, 1) := by decide +kernel
theorem d_Mo_placeOf_48 : decode m_Mo_placeOf.2.2.1 48 = .ok (.bipush (40), 2) := by decide +kernel
theorem d_Mo_placeOf_50 : decode m_Mo_placeOf.2.2.1 50 = .ok (.iadd, 1) := by decide +kernel
theorem d_Mo_placeOf_51 : decode m_Mo_placeOf.2.2.1 51 = .ok (.iconst 5, 1) := by decide +kernel
theorem d_Mo_placeOf_52 : decode m_Mo_placeOf.2.2.1 52 = .ok (.iload_n 1, 1) := by decide +kernel
theorem d_Mo_placeOf_53 : decode m_Mo_placeOf.2.2.1 53 = .ok (.bipush (6), 2) := by decide +kernel
theorem d_Mo_placeOf_55 : decode m_Mo_placeOf.2.2.1 55 = .ok (.isub, 1) := by decide +kernel
theorem d_Mo_placeOf_56 : decode m_Mo_placeOf.2.2.1 56 = .ok (.imul, 1) := by decide +kernel
theorem d_Mo_placeOf_57 : decode m_Mo_placeOf.2.2.1 57 = .ok (.iadd, 1) := by decide +kernel
theorem d_Mo_placeOf_58 : decode m_Mo_placeOf.2.2.1 58 = .ok (.goto (14), 3) := by decide +kernel
theorem d_Mo_placeOf_61 : decode m_Mo_placeOf.2.2.1 61 = .ok (.iload_n 2, 1) := by decide +kernel
theorem d_Mo_placeOf_62 : decode m_Mo_placeOf.2.2.1 62 = .ok (.bipush (50), 2) := by decide +kernel
theorem d_Mo_placeOf_64 : decode m_Mo_placeOf.2.2.1 64 = .ok (.iadd, 1) := by decide +kernel
theorem d_Mo_placeOf_65 : decode m_Mo_placeOf.2.2.1 65 = .ok (.iconst 4, 1) := by decide +kernel
theorem d_Mo_placeOf_66 : decode m_Mo_placeOf.2.2.1 66 = .ok (.iload_n 1, 1) := by decide +kernel
theorem d_Mo_placeOf_67 : decode m_Mo_placeOf.2.2.1 67 = .ok (.bipush (8), 2) := by decide +kernel
theorem d_Mo_placeOf_69 : decode m_Mo_placeOf.2.2.1 69 = .ok (.isub, 1) := by decide +kernel
theorem d_Mo_placeOf_70 : decode m_Mo_placeOf.2.2.1 70 = .ok (.imul, 1) := by decide +kernel
theorem d_Mo_placeOf_71 : decode m_Mo_placeOf.2.2.1 71 = .ok (.iadd, 1) := by decide +kernel
theorem d_Mo_placeOf_72 : decode m_Mo_placeOf.2.2.1 72 = .ok (.ireturn, 1) := by decide +kernel
theorem d_Mo_allNumbers_0 : decode m_Mo_allNumbers.2.2.1 0 = .ok (.aload_n 0, 1) := by decide +kernel
theorem d_Mo_allNumbers_1 : decode m_Mo_allNumbers.2.2.1 1 = .ok (.getfield 34, 3) := by decide +kernel
theorem d_Mo_allNumbers_4 : decode m_Mo_allNumbers.2.2.1 4 = .ok (.iconst 4, 1) := by decide +kernel
theorem d_Mo_allNumbers_5 : decode m_Mo_allNumbers.2.2.1 5 = .ok (.iaload, 1) := by decide +kernel
theorem d_Mo_allNumbers_6 : decode m_Mo_allNumbers.2.2.1 6 = .ok (.invokestatic 78, 3) := by decide +kernel
theorem d_Mo_allNumbers_9 : decode m_Mo_allNumbers.2.2.1 9 = .ok (.istore_n 1, 1) := by decide +kernel
theorem d_Mo_allNumbers_10 : decode m_Mo_allNumbers.2.2.1 10 = .ok (.iconst 0, 1) := by decide +kernel
theorem d_Mo_allNumbers_11 : decode m_Mo_allNumbers.2.2.1 11 = .ok (.istore_n 2, 1) := by decide +kernel
theorem d_Mo_allNumbers_12 : decode m_Mo_allNumbers.2.2.1 12 = .ok (.iload_n 2, 1) := by decide +kernel
theorem d_Mo_allNumbers_13 : decode m_Mo_allNumbers.2.2.1 13 = .ok (.iconst 3, 1) := by decide +kernel
theorem d_Mo_allNumbers_14 : decode m_Mo_allNumbers.2.2.1 14 = .ok (.if_icmp .ge (72), 3) := by decide +kernel
theorem d_Mo_allNumbers_17 : decode m_Mo_allNumbers.2.2.1 17 = .ok (.iconst 0, 1) := by decide +kernel
theorem d_Mo_allNumbers_18 : decode m_Mo_allNumbers.2.2.1 18 = .ok (.istore_n 3, 1) := by decide +kernel
theorem d_Mo_allNumbers_19 : decode m_Mo_allNumbers.2.2.1 19 = .ok (.iload_n 3, 1) := by decide +kernel
theorem d_Mo_allNumbers_20 : decode m_Mo_allNumbers.2.2.1 20 = .ok (.bipush (10), 2) := by decide +kernel
theorem d_Mo_allNumbers_22 : decode m_Mo_allNumbers.2.2.1 22 = .ok (.if_icmp .ge (58), 3) := by decide +kernel
theorem d_Mo_allNumbers_25 : decode m_Mo_allNumbers.2.2.1 25 = .ok (.iload_n 1, 1) := by decide +kernel
theorem d_Mo_allNumbers_26 : decode m_Mo_allNumbers.2.2.1 26 = .ok (.ifCond .eq (46), 3) := by decide +kernel
theorem d_Mo_allNumbers_29 : decode m_Mo_allNumbers.2.2.1 29 = .ok (.aload_n 0, 1) := by decide +kernel
theorem d_Mo_allNumbers_30 : decode m_Mo_allNumbers.2.2.1 30 = .ok (.getfield 34, 3) := by decide +kernel
theorem d_Mo_allNumbers_33 : decode m_Mo_allNumbers.2.2.1 33 = .ok (.iload_n 2, 1) := by decide +kernel
theorem d_Mo_allNumbers_34 : decode m_Mo_allNumbers.2.2.1 34 = .ok (.iload_n 3, 1) := by decide +kernel
theorem d_Mo_allNumbers_35 : decode m_Mo_allNumbers.2.2.1 35 = .ok (.invokestatic 182, 3) := by decide +kernel
theorem d_Mo_allNumbers_38 : decode m_Mo_allNumbers.2.2.1 38 = .ok (.iaload, 1) := by decide +kernel
theorem d_Mo_allNumbers_39 : decode m_Mo_allNumbers.2.2.1 39 = .ok (.invokestatic 78, 3) := by decide +kernel
theorem d_Mo_allNumbers_42 : decode m_Mo_allNumbers.2.2.1 42 = .ok (.ifCond .eq (30), 3) := by decide +kernel
theorem d_Mo_allNumbers_45 : decode m_Mo_allNumbers.2.2.1 45 = .ok (.iload_n 3, 1) := by decide +kernel
theorem d_Mo_allNumbers_46 : decode m_Mo_allNumbers.2.2.1 46 = .ok (.iconst 3, 1) := by decide +kernel
theorem d_Mo_allNumbers_47 : decode m_Mo_allNumbers.2.2.1 47 = .ok (.if_icmp .gt (21), 3) := by decide +kernel
theorem d_Mo_allNumbers_50 : decode m_Mo_allNumbers.2.2.1 50 = .ok (.aload_n 0, 1) := by decide +kernel
theorem d_Mo_allNumbers_51 : decode m_Mo_allNumbers.2.2.1 51 = .ok (.getfield 34, 3) := by decide +kernel
theorem d_Mo_allNumbers_54 : decode m_Mo_allNumbers.2.2.1 54 = .ok (.iload_n 2, 1) := by decide +kernel
theorem d_Mo_allNumbers_55 : decode m_Mo_allNumbers.2.2.1 55 = .ok (.iload_n 3, 1) := by decide +kernel
theorem d_Mo_allNumbers_56 : decode m_Mo_allNumbers.2.2.1 56 = .ok (.invokestatic 182, 3) := by decide +kernel
theorem d_Mo_allNumbers_59 : decode m_Mo_allNumbers.2.2.1 59 = .ok (.iconst 1, 1) := by decide +kernel
theorem d_Mo_allNumbers_60 : decode m_Mo_allNumbers.2.2.1 60 = .ok (.iadd, 1) := by decide +kernel
theorem d_Mo_allNumbers_61 : decode m_Mo_allNumbers.2.2.1 61 = .ok (.iaload, 1) := by decide +kernel
theorem d_Mo_allNumbers_62 : decode m_Mo_allNumbers.2.2.1 62 = .ok (.invokestatic 78, 3) := by decide +kernel
theorem d_Mo_allNumbers_65 : decode m_Mo_allNumbers.2.2.1 65 = .ok (.ifCond .eq (7), 3) := by decide +kernel
theorem d_Mo_allNumbers_68 : decode m_Mo_allNumbers.2.2.1 68 = .ok (.iconst 1, 1) := by decide +kernel
theorem d_Mo_allNumbers_69 : decode m_Mo_allNumbers.2.2.1 69 = .ok (.goto (4), 3) := by decide +kernel
theorem d_Mo_allNumbers_72 : decode m_Mo_allNumbers.2.2.1 72 = .ok (.iconst 0, 1) := by decide +kernel
theorem d_Mo_allNumbers_73 : decode m_Mo_allNumbers.2.2.1 73 = .ok (.istore_n 1, 1) := by decide +kernel
theorem d_Mo_allNumbers_74 : decode m_Mo_allNumbers.2.2.1 74 = .ok (.iinc 3 (1), 3) := by decide +kernel
theorem d_Mo_allNumbers_77 : decode m_Mo_allNumbers.2.2.1 77 = .ok (.goto (-58), 3) := by decide +kernel
theorem d_Mo_allNumbers_80 : decode m_Mo_allNumbers.2.2.1 80 = .ok (.iinc 2 (1), 3) := by decide +kernel
theorem d_Mo_allNumbers_83 : decode m_Mo_allNumbers.2.2.1 83 = .ok (.goto (-71), 3) := by decide +kernel
theorem d_Mo_allNumbers_86 : decode m_Mo_allNumbers.2.2.1 86 = .ok (.iload_n 1, 1) := by decide +kernel
theorem d_Mo_allNumbers_87 : decode m_Mo_allNumbers.2.2.1 87 = .ok (.ireturn, 1) := by decide +kernel
theorem d_Mo_leads_0 : decode m_Mo_leads.2.2.1 0 = .ok (.iload_n 3, 1) := by decide +kernel
theorem d_Mo_leads_1 : decode m_Mo_leads.2.2.1 1 = .ok (.istore 5, 2) := by decide +kernel
theorem d_Mo_leads_3 : decode m_Mo_leads.2.2.1 3 = .ok (.iload 4, 2) := by decide +kernel
theorem d_Mo_leads_5 : decode m_Mo_leads.2.2.1 5 = .ok (.istore 6, 2) := by decide +kernel
theorem d_Mo_leads_7 : decode m_Mo_leads.2.2.1 7 = .ok (.iload_n 1, 1) := by decide +kernel
theorem d_Mo_leads_8 : decode m_Mo_leads.2.2.1 8 = .ok (.invokestatic 134, 3) := by decide +kernel
theorem d_Mo_leads_11 : decode m_Mo_leads.2.2.1 11 = .ok (.iload_n 2, 1) := by decide +kernel
theorem d_Mo_leads_12 : decode m_Mo_leads.2.2.1 12 = .ok (.iadd, 1) := by decide +kernel
theorem d_Mo_leads_13 : decode m_Mo_leads.2.2.1 13 = .ok (.istore 7, 2) := by decide +kernel
theorem d_Mo_leads_15 : decode m_Mo_leads.2.2.1 15 = .ok (.iload 7, 2) := by decide +kernel
theorem d_Mo_leads_17 : decode m_Mo_leads.2.2.1 17 = .ok (.iconst 1, 1) := by decide +kernel
theorem d_Mo_leads_18 : decode m_Mo_leads.2.2.1 18 = .ok (.if_icmp .le (51), 3) := by decide +kernel
theorem d_Mo_leads_21 : decode m_Mo_leads.2.2.1 21 = .ok (.iload 7, 2) := by decide +kernel
theorem d_Mo_leads_23 : decode m_Mo_leads.2.2.1 23 = .ok (.iconst 2, 1) := by decide +kernel
theorem d_Mo_leads_24 : decode m_Mo_leads.2.2.1 24 = .ok (.irem, 1) := by decide +kernel
theorem d_Mo_leads_25 : decode m_Mo_leads.2.2.1 25 = .ok (.ifCond .ne (18), 3) := by decide +kernel
theorem d_Mo_leads_28 : decode m_Mo_leads.2.2.1 28 = .ok (.iload 5, 2) := by decide +kernel
theorem d_Mo_leads_30 : decode m_Mo_leads.2.2.1 30 = .ok (.aload_n 0, 1) := by decide +kernel
theorem d_Mo_leads_31 : decode m_Mo_leads.2.2.1 31 = .ok (.getfield 34, 3) := by decide +kernel
theorem d_Mo_leads_34 : decode m_Mo_leads.2.2.1 34 = .ok (.iload 6, 2) := by decide +kernel
theorem d_Mo_leads_36 : decode m_Mo_leads.2.2.1 36 = .ok (.iaload, 1) := by decide +kernel
theorem d_Mo_leads_37 : decode m_Mo_leads.2.2.1 37 = .ok (.invokestatic 123, 3) := by decide +kernel
theorem d_Mo_leads_40 : decode m_Mo_leads.2.2.1 40 = .ok (.goto (15), 3) := by decide +kernel
theorem d_Mo_leads_43 : decode m_Mo_leads.2.2.1 43 = .ok (.aload_n 0, 1) := by decide +kernel
theorem d_Mo_leads_44 : decode m_Mo_leads.2.2.1 44 = .ok (.getfield 34, 3) := by decide +kernel
theorem d_Mo_leads_47 : decode m_Mo_leads.2.2.1 47 = .ok (.iload 6, 2) := by decide +kernel
theorem d_Mo_leads_49 : decode m_Mo_leads.2.2.1 49 = .ok (.iaload, 1) := by decide +kernel
theorem d_Mo_leads_50 : decode m_Mo_leads.2.2.1 50 = .ok (.iload 5, 2) := by decide +kernel
theorem d_Mo_leads_52 : decode m_Mo_leads.2.2.1 52 = .ok (.invokestatic 123, 3) := by decide +kernel
theorem d_Mo_leads_55 : decode m_Mo_leads.2.2.1 55 = .ok (.istore 5, 2) := by decide +kernel
theorem d_Mo_leads_57 : decode m_Mo_leads.2.2.1 57 = .ok (.iinc 6 (1), 3) := by decide +kernel
theorem d_Mo_leads_60 : decode m_Mo_leads.2.2.1 60 = .ok (.iload 7, 2) := by decide +kernel
theorem d_Mo_leads_62 : decode m_Mo_leads.2.2.1 62 = .ok (.iconst 2, 1) := by decide +kernel
theorem d_Mo_leads_63 : decode m_Mo_leads.2.2.1 63 = .ok (.idiv, 1) := by decide +kernel
theorem d_Mo_leads_64 : decode m_Mo_leads.2.2.1 64 = .ok (.istore 7, 2) := by decide +kernel
theorem d_Mo_leads_66 : decode m_Mo_leads.2.2.1 66 = .ok (.goto (-51), 3) := by decide +kernel
theorem d_Mo_leads_69 : decode m_Mo_leads.2.2.1 69 = .ok (.iload 5, 2) := by decide +kernel
theorem d_Mo_leads_71 : decode m_Mo_leads.2.2.1 71 = .ok (.aload_n 0, 1) := by decide +kernel
theorem d_Mo_leads_72 : decode m_Mo_leads.2.2.1 72 = .ok (.getfield 34, 3) := by decide +kernel
theorem d_Mo_leads_75 : decode m_Mo_leads.2.2.1 75 = .ok (.iload_n 1, 1) := by decide +kernel
theorem d_Mo_leads_76 : decode m_Mo_leads.2.2.1 76 = .ok (.iaload, 1) := by decide +kernel
theorem d_Mo_leads_77 : decode m_Mo_leads.2.2.1 77 = .ok (.if_icmp .ne (7), 3) := by decide +kernel
theorem d_Mo_leads_80 : decode m_Mo_leads.2.2.1 80 = .ok (.iconst 1, 1) := by decide +kernel
theorem d_Mo_leads_81 : decode m_Mo_leads.2.2.1 81 = .ok (.goto (4), 3) := by decide +kernel
theorem d_Mo_leads_84 : decode m_Mo_leads.2.2.1 84 = .ok (.iconst 0, 1) := by decide +kernel
theorem d_Mo_leads_85 : decode m_Mo_leads.2.2.1 85 = .ok (.ireturn, 1) := by decide +kernel
theorem d_Mo_opens_0 : decode m_Mo_opens.2.2.1 0 = .ok (.iconst 1, 1) := by decide +kernel
theorem d_Mo_opens_1 : decode m_Mo_opens.2.2.1 1 = .ok (.istore_n 3, 1) := by decide +kernel
theorem d_Mo_opens_2 : decode m_Mo_opens.2.2.1 2 = .ok (.iconst 0, 1) := by decide +kernel
theorem d_Mo_opens_3 : decode m_Mo_opens.2.2.1 3 = .ok (.istore 4, 2) := by decide +kernel
theorem d_Mo_opens_5 : decode m_Mo_opens.2.2.1 5 = .ok (.iload 4, 2) := by decide +kernel
theorem d_Mo_opens_7 : decode m_Mo_opens.2.2.1 7 = .ok (.iconst 4, 1) := by decide +kernel
theorem d_Mo_opens_8 : decode m_Mo_opens.2.2.1 8 = .ok (.if_icmp .ge (77), 3) := by decide +kernel
theorem d_Mo_opens_11 : decode m_Mo_opens.2.2.1 11 = .ok (.iload_n 1, 1) := by decide +kernel
theorem d_Mo_opens_12 : decode m_Mo_opens.2.2.1 12 = .ok (.iload 4, 2) := by decide +kernel
theorem d_Mo_opens_14 : decode m_Mo_opens.2.2.1 14 = .ok (.invokestatic 182, 3) := by decide +kernel
theorem d_Mo_opens_17 : decode m_Mo_opens.2.2.1 17 = .ok (.istore 5, 2) := by decide +kernel
theorem d_Mo_opens_19 : decode m_Mo_opens.2.2.1 19 = .ok (.iload_n 3, 1) := by decide +kernel
theorem d_Mo_opens_20 : decode m_Mo_opens.2.2.1 20 = .ok (.ifCond .eq (57), 3) := by decide +kernel
theorem d_Mo_opens_23 : decode m_Mo_opens.2.2.1 23 = .ok (.aload_n 0, 1) := by decide +kernel
theorem d_Mo_opens_24 : decode m_Mo_opens.2.2.1 24 = .ok (.iconst 0, 1) := by decide +kernel
theorem d_Mo_opens_25 : decode m_Mo_opens.2.2.1 25 = .ok (.iload_n 2, 1) := by decide +kernel
theorem d_Mo_opens_26 : decode m_Mo_opens.2.2.1 26 = .ok (.iload 4, 2) := by decide +kernel
theorem d_Mo_opens_28 : decode m_Mo_opens.2.2.1 28 = .ok (.iconst 2, 1) := by decide +kernel
theorem d_Mo_opens_29 : decode m_Mo_opens.2.2.1 29 = .ok (.irem, 1) := by decide +kernel
theorem d_Mo_opens_30 : decode m_Mo_opens.2.2.1 30 = .ok (.iconst 4, 1) := by decide +kernel
theorem d_Mo_opens_31 : decode m_Mo_opens.2.2.1 31 = .ok (.imul, 1) := by decide +kernel
theorem d_Mo_opens_32 : decode m_Mo_opens.2.2.1 32 = .ok (.iadd, 1) := by decide +kernel
theorem d_Mo_opens_33 : decode m_Mo_opens.2.2.1 33 = .ok (.iload 4, 2) := by decide +kernel
theorem d_Mo_opens_35 : decode m_Mo_opens.2.2.1 35 = .ok (.iconst 2, 1) := by decide +kernel
theorem d_Mo_opens_36 : decode m_Mo_opens.2.2.1 36 = .ok (.idiv, 1) := by decide +kernel
theorem d_Mo_opens_37 : decode m_Mo_opens.2.2.1 37 = .ok (.bipush (16), 2) := by decide +kernel
theorem d_Mo_opens_39 : decode m_Mo_opens.2.2.1 39 = .ok (.imul, 1) := by decide +kernel
theorem d_Mo_opens_40 : decode m_Mo_opens.2.2.1 40 = .ok (.iadd, 1) := by decide +kernel
theorem d_Mo_opens_41 : decode m_Mo_opens.2.2.1 41 = .ok (.bipush (32), 2) := by decide +kernel
theorem d_Mo_opens_43 : decode m_Mo_opens.2.2.1 43 = .ok (.irem, 1) := by decide +kernel
theorem d_Mo_opens_44 : decode m_Mo_opens.2.2.1 44 = .ok (.aload_n 0, 1) := by decide +kernel
theorem d_Mo_opens_45 : decode m_Mo_opens.2.2.1 45 = .ok (.getfield 34, 3) := by decide +kernel
theorem d_Mo_opens_48 : decode m_Mo_opens.2.2.1 48 = .ok (.iload 5, 2) := by decide +kernel
theorem d_Mo_opens_50 : decode m_Mo_opens.2.2.1 50 = .ok (.iaload, 1) := by decide +kernel
theorem d_Mo_opens_51 : decode m_Mo_opens.2.2.1 51 = .ok (.aload_n 0, 1) := by decide +kernel
theorem d_Mo_opens_52 : decode m_Mo_opens.2.2.1 52 = .ok (.getfield 34, 3) := by decide +kernel
theorem d_Mo_opens_55 : decode m_Mo_opens.2.2.1 55 = .ok (.iload 5, 2) := by decide +kernel
theorem d_Mo_opens_57 : decode m_Mo_opens.2.2.1 57 = .ok (.iconst 1, 1) := by decide +kernel
theorem d_Mo_opens_58 : decode m_Mo_opens.2.2.1 58 = .ok (.iadd, 1) := by decide +kernel
theorem d_Mo_opens_59 : decode m_Mo_opens.2.2.1 59 = .ok (.iaload, 1) := by decide +kernel
theorem d_Mo_opens_60 : decode m_Mo_opens.2.2.1 60 = .ok (.invokestatic 123, 3) := by decide +kernel
theorem d_Mo_opens_63 : decode m_Mo_opens.2.2.1 63 = .ok (.iload 5, 2) := by decide +kernel
theorem d_Mo_opens_65 : decode m_Mo_opens.2.2.1 65 = .ok (.iconst 2, 1) := by decide +kernel
theorem d_Mo_opens_66 : decode m_Mo_opens.2.2.1 66 = .ok (.iadd, 1) := by decide +kernel
theorem d_Mo_opens_67 : decode m_Mo_opens.2.2.1 67 = .ok (.invokevirtual 185, 3) := by decide +kernel
theorem d_Mo_opens_70 : decode m_Mo_opens.2.2.1 70 = .ok (.ifCond .eq (7), 3) := by decide +kernel
theorem d_Mo_opens_73 : decode m_Mo_opens.2.2.1 73 = .ok (.iconst 1, 1) := by decide +kernel
theorem d_Mo_opens_74 : decode m_Mo_opens.2.2.1 74 = .ok (.goto (4), 3) := by decide +kernel
theorem d_Mo_opens_77 : decode m_Mo_opens.2.2.1 77 = .ok (.iconst 0, 1) := by decide +kernel
theorem d_Mo_opens_78 : decode m_Mo_opens.2.2.1 78 = .ok (.istore_n 3, 1) := by decide +kernel
theorem d_Mo_opens_79 : decode m_Mo_opens.2.2.1 79 = .ok (.iinc 4 (1), 3) := by decide +kernel
theorem d_Mo_opens_82 : decode m_Mo_opens.2.2.1 82 = .ok (.goto (-77), 3) := by decide +kernel
theorem d_Mo_opens_85 : decode m_Mo_opens.2.2.1 85 = .ok (.iload_n 3, 1) := by decide +kernel
theorem d_Mo_opens_86 : decode m_Mo_opens.2.2.1 86 = .ok (.ireturn, 1) := by decide +kernel
theorem d_Mo_opensLayer_0 : decode m_Mo_opensLayer.2.2.1 0 = .ok (.iconst 1, 1) := by decide +kernel
theorem d_Mo_opensLayer_1 : decode m_Mo_opensLayer.2.2.1 1 = .ok (.istore 4, 2) := by decide +kernel
theorem d_Mo_opensLayer_3 : decode m_Mo_opensLayer.2.2.1 3 = .ok (.bipush (16), 2) := by decide +kernel
theorem d_Mo_opensLayer_5 : decode m_Mo_opensLayer.2.2.1 5 = .ok (.iload_n 3, 1) := by decide +kernel
theorem d_Mo_opensLayer_6 : decode m_Mo_opensLayer.2.2.1 6 = .ok (.ishr, 1) := by decide +kernel
theorem d_Mo_opensLayer_7 : decode m_Mo_opensLayer.2.2.1 7 = .ok (.istore 5, 2) := by decide +kernel
theorem d_Mo_opensLayer_9 : decode m_Mo_opensLayer.2.2.1 9 = .ok (.iconst 0, 1) := by decide +kernel
theorem d_Mo_opensLayer_10 : decode m_Mo_opensLayer.2.2.1 10 = .ok (.istore 6, 2) := by decide +kernel
theorem d_Mo_opensLayer_12 : decode m_Mo_opensLayer.2.2.1 12 = .ok (.iload 6, 2) := by decide +kernel
theorem d_Mo_opensLayer_14 : decode m_Mo_opensLayer.2.2.1 14 = .ok (.iconst 2, 1) := by decide +kernel
theorem d_Mo_opensLayer_15 : decode m_Mo_opensLayer.2.2.1 15 = .ok (.if_icmp .ge (72), 3) := by decide +kernel
theorem d_Mo_opensLayer_18 : decode m_Mo_opensLayer.2.2.1 18 = .ok (.iload_n 1, 1) := by decide +kernel
theorem d_Mo_opensLayer_19 : decode m_Mo_opensLayer.2.2.1 19 = .ok (.iconst 4, 1) := by decide +kernel
theorem d_Mo_opensLayer_20 : decode m_Mo_opensLayer.2.2.1 20 = .ok (.iconst 2, 1) := by decide +kernel
theorem d_Mo_opensLayer_21 : decode m_Mo_opensLayer.2.2.1 21 = .ok (.iload_n 3, 1) := by decide +kernel
theorem d_Mo_opensLayer_22 : decode m_Mo_opensLayer.2.2.1 22 = .ok (.imul, 1) := by decide +kernel
theorem d_Mo_opensLayer_23 : decode m_Mo_opensLayer.2.2.1 23 = .ok (.iadd, 1) := by decide +kernel
theorem d_Mo_opensLayer_24 : decode m_Mo_opensLayer.2.2.1 24 = .ok (.iload 6, 2) := by decide +kernel
theorem d_Mo_opensLayer_26 : decode m_Mo_opensLayer.2.2.1 26 = .ok (.iadd, 1) := by decide +kernel
theorem d_Mo_opensLayer_27 : decode m_Mo_opensLayer.2.2.1 27 = .ok (.invokestatic 182, 3) := by decide +kernel
theorem d_Mo_opensLayer_30 : decode m_Mo_opensLayer.2.2.1 30 = .ok (.istore 7, 2) := by decide +kernel
theorem d_Mo_opensLayer_32 : decode m_Mo_opensLayer.2.2.1 32 = .ok (.iload 4, 2) := by decide +kernel
theorem d_Mo_opensLayer_34 : decode m_Mo_opensLayer.2.2.1 34 = .ok (.ifCond .eq (44), 3) := by decide +kernel
theorem d_Mo_opensLayer_37 : decode m_Mo_opensLayer.2.2.1 37 = .ok (.aload_n 0, 1) := by decide +kernel
theorem d_Mo_opensLayer_38 : decode m_Mo_opensLayer.2.2.1 38 = .ok (.iload_n 3, 1) := by decide +kernel
theorem d_Mo_opensLayer_39 : decode m_Mo_opensLayer.2.2.1 39 = .ok (.iconst 1, 1) := by decide +kernel
theorem d_Mo_opensLayer_40 : decode m_Mo_opensLayer.2.2.1 40 = .ok (.iadd, 1) := by decide +kernel
theorem d_Mo_opensLayer_41 : decode m_Mo_opensLayer.2.2.1 41 = .ok (.iload_n 2, 1) := by decide +kernel
theorem d_Mo_opensLayer_42 : decode m_Mo_opensLayer.2.2.1 42 = .ok (.iload 5, 2) := by decide +kernel
theorem d_Mo_opensLayer_44 : decode m_Mo_opensLayer.2.2.1 44 = .ok (.irem, 1) := by decide +kernel
theorem d_Mo_opensLayer_45 : decode m_Mo_opensLayer.2.2.1 45 = .ok (.iload 6, 2) := by decide +kernel
theorem d_Mo_opensLayer_47 : decode m_Mo_opensLayer.2.2.1 47 = .ok (.iload 5, 2) := by decide +kernel
theorem d_Mo_opensLayer_49 : decode m_Mo_opensLayer.2.2.1 49 = .ok (.imul, 1) := by decide +kernel
theorem d_Mo_opensLayer_50 : decode m_Mo_opensLayer.2.2.1 50 = .ok (.iadd, 1) := by decide +kernel
theorem d_Mo_opensLayer_51 : decode m_Mo_opensLayer.2.2.1 51 = .ok (.aload_n 0, 1) := by decide +kernel
theorem d_Mo_opensLayer_52 : decode m_Mo_opensLayer.2.2.1 52 = .ok (.getfield 34, 3) := by decide +kernel
theorem d_Mo_opensLayer_55 : decode m_Mo_opensLayer.2.2.1 55 = .ok (.iload 7, 2) := by decide +kernel
theorem d_Mo_opensLayer_57 : decode m_Mo_opensLayer.2.2.1 57 = .ok (.iaload, 1) := by decide +kernel
theorem d_Mo_opensLayer_58 : decode m_Mo_opensLayer.2.2.1 58 = .ok (.sipush (12289), 3) := by decide +kernel
theorem d_Mo_opensLayer_61 : decode m_Mo_opensLayer.2.2.1 61 = .ok (.invokestatic 123, 3) := by decide +kernel
theorem d_Mo_opensLayer_64 : decode m_Mo_opensLayer.2.2.1 64 = .ok (.iload 7, 2) := by decide +kernel
theorem d_Mo_opensLayer_66 : decode m_Mo_opensLayer.2.2.1 66 = .ok (.iconst 1, 1) := by decide +kernel
theorem d_Mo_opensLayer_67 : decode m_Mo_opensLayer.2.2.1 67 = .ok (.iadd, 1) := by decide +kernel
theorem d_Mo_opensLayer_68 : decode m_Mo_opensLayer.2.2.1 68 = .ok (.invokevirtual 185, 3) := by decide +kernel
theorem d_Mo_opensLayer_71 : decode m_Mo_opensLayer.2.2.1 71 = .ok (.ifCond .eq (7), 3) := by decide +kernel
theorem d_Mo_opensLayer_74 : decode m_Mo_opensLayer.2.2.1 74 = .ok (.iconst 1, 1) := by decide +kernel
theorem d_Mo_opensLayer_75 : decode m_Mo_opensLayer.2.2.1 75 = .ok (.goto (4), 3) := by decide +kernel
theorem d_Mo_opensLayer_78 : decode m_Mo_opensLayer.2.2.1 78 = .ok (.iconst 0, 1) := by decide +kernel
theorem d_Mo_opensLayer_79 : decode m_Mo_opensLayer.2.2.1 79 = .ok (.istore 4, 2) := by decide +kernel
theorem d_Mo_opensLayer_81 : decode m_Mo_opensLayer.2.2.1 81 = .ok (.iinc 6 (1), 3) := by decide +kernel
theorem d_Mo_opensLayer_84 : decode m_Mo_opensLayer.2.2.1 84 = .ok (.goto (-72), 3) := by decide +kernel
theorem d_Mo_opensLayer_87 : decode m_Mo_opensLayer.2.2.1 87 = .ok (.iload 4, 2) := by decide +kernel
theorem d_Mo_opensLayer_89 : decode m_Mo_opensLayer.2.2.1 89 = .ok (.ireturn, 1) := by decide +kernel
theorem d_Mo_composes_0 : decode m_Mo_composes.2.2.1 0 = .ok (.iconst 1, 1) := by decide +kernel
theorem d_Mo_composes_1 : decode m_Mo_composes.2.2.1 1 = .ok (.istore_n 3, 1) := by decide +kernel
theorem d_Mo_composes_2 : decode m_Mo_composes.2.2.1 2 = .ok (.iconst 0, 1) := by decide +kernel
theorem d_Mo_composes_3 : decode m_Mo_composes.2.2.1 3 = .ok (.istore 4, 2) := by decide +kernel
theorem d_Mo_composes_5 : decode m_Mo_composes.2.2.1 5 = .ok (.iload 4, 2) := by decide +kernel
theorem d_Mo_composes_7 : decode m_Mo_composes.2.2.1 7 = .ok (.iconst 2, 1) := by decide +kernel
theorem d_Mo_composes_8 : decode m_Mo_composes.2.2.1 8 = .ok (.if_icmp .ge (107), 3) := by decide +kernel
theorem d_Mo_composes_11 : decode m_Mo_composes.2.2.1 11 = .ok (.iload_n 1, 1) := by decide +kernel
theorem d_Mo_composes_12 : decode m_Mo_composes.2.2.1 12 = .ok (.iconst 2, 1) := by decide +kernel
theorem d_Mo_composes_13 : decode m_Mo_composes.2.2.1 13 = .ok (.iload 4, 2) := by decide +kernel
theorem d_Mo_composes_15 : decode m_Mo_composes.2.2.1 15 = .ok (.imul, 1) := by decide +kernel
theorem d_Mo_composes_16 : decode m_Mo_composes.2.2.1 16 = .ok (.invokestatic 182, 3) := by decide +kernel
theorem d_Mo_composes_19 : decode m_Mo_composes.2.2.1 19 = .ok (.istore 5, 2) := by decide +kernel
theorem d_Mo_composes_21 : decode m_Mo_composes.2.2.1 21 = .ok (.iload_n 1, 1) := by decide +kernel
theorem d_Mo_composes_22 : decode m_Mo_composes.2.2.1 22 = .ok (.iconst 2, 1) := by decide +kernel
theorem d_Mo_composes_23 : decode m_Mo_composes.2.2.1 23 = .ok (.iload 4, 2) := by decide +kernel
theorem d_Mo_composes_25 : decode m_Mo_composes.2.2.1 25 = .ok (.imul, 1) := by decide +kernel
theorem d_Mo_composes_26 : decode m_Mo_composes.2.2.1 26 = .ok (.iconst 1, 1) := by decide +kernel
theorem d_Mo_composes_27 : decode m_Mo_composes.2.2.1 27 = .ok (.iadd, 1) := by decide +kernel
theorem d_Mo_composes_28 : decode m_Mo_composes.2.2.1 28 = .ok (.invokestatic 182, 3) := by decide +kernel
theorem d_Mo_composes_31 : decode m_Mo_composes.2.2.1 31 = .ok (.istore 6, 2) := by decide +kernel
theorem d_Mo_composes_33 : decode m_Mo_composes.2.2.1 33 = .ok (.aload_n 0, 1) := by decide +kernel
theorem d_Mo_composes_34 : decode m_Mo_composes.2.2.1 34 = .ok (.aload_n 0, 1) := by decide +kernel
theorem d_Mo_composes_35 : decode m_Mo_composes.2.2.1 35 = .ok (.getfield 34, 3) := by decide +kernel
theorem d_Mo_composes_38 : decode m_Mo_composes.2.2.1 38 = .ok (.iload 5, 2) := by decide +kernel
theorem d_Mo_composes_40 : decode m_Mo_composes.2.2.1 40 = .ok (.iaload, 1) := by decide +kernel
theorem d_Mo_composes_41 : decode m_Mo_composes.2.2.1 41 = .ok (.aload_n 0, 1) := by decide +kernel
theorem d_Mo_composes_42 : decode m_Mo_composes.2.2.1 42 = .ok (.getfield 34, 3) := by decide +kernel
theorem d_Mo_composes_45 : decode m_Mo_composes.2.2.1 45 = .ok (.iload 5, 2) := by decide +kernel
theorem d_Mo_composes_47 : decode m_Mo_composes.2.2.1 47 = .ok (.iconst 1, 1) := by decide +kernel
theorem d_Mo_composes_48 : decode m_Mo_composes.2.2.1 48 = .ok (.iadd, 1) := by decide +kernel
theorem d_Mo_composes_49 : decode m_Mo_composes.2.2.1 49 = .ok (.iaload, 1) := by decide +kernel
theorem d_Mo_composes_50 : decode m_Mo_composes.2.2.1 50 = .ok (.aload_n 0, 1) := by decide +kernel
theorem d_Mo_composes_51 : decode m_Mo_composes.2.2.1 51 = .ok (.getfield 34, 3) := by decide +kernel
theorem d_Mo_composes_54 : decode m_Mo_composes.2.2.1 54 = .ok (.iload 6, 2) := by decide +kernel
theorem d_Mo_composes_56 : decode m_Mo_composes.2.2.1 56 = .ok (.iaload, 1) := by decide +kernel
theorem d_Mo_composes_57 : decode m_Mo_composes.2.2.1 57 = .ok (.aload_n 0, 1) := by decide +kernel
theorem d_Mo_composes_58 : decode m_Mo_composes.2.2.1 58 = .ok (.getfield 34, 3) := by decide +kernel
theorem d_Mo_composes_61 : decode m_Mo_composes.2.2.1 61 = .ok (.iload 6, 2) := by decide +kernel
theorem d_Mo_composes_63 : decode m_Mo_composes.2.2.1 63 = .ok (.iconst 1, 1) := by decide +kernel
theorem d_Mo_composes_64 : decode m_Mo_composes.2.2.1 64 = .ok (.iadd, 1) := by decide +kernel
theorem d_Mo_composes_65 : decode m_Mo_composes.2.2.1 65 = .ok (.iaload, 1) := by decide +kernel
theorem d_Mo_composes_66 : decode m_Mo_composes.2.2.1 66 = .ok (.invokevirtual 103, 3) := by decide +kernel
theorem d_Mo_composes_69 : decode m_Mo_composes.2.2.1 69 = .ok (.iload_n 3, 1) := by decide +kernel
theorem d_Mo_composes_70 : decode m_Mo_composes.2.2.1 70 = .ok (.ifCond .eq (37), 3) := by decide +kernel
theorem d_Mo_composes_73 : decode m_Mo_composes.2.2.1 73 = .ok (.aload_n 0, 1) := by decide +kernel
theorem d_Mo_composes_74 : decode m_Mo_composes.2.2.1 74 = .ok (.getfield 34, 3) := by decide +kernel
theorem d_Mo_composes_77 : decode m_Mo_composes.2.2.1 77 = .ok (.iload_n 1, 1) := by decide +kernel
theorem d_Mo_composes_78 : decode m_Mo_composes.2.2.1 78 = .ok (.iconst 4, 1) := by decide +kernel
theorem d_Mo_composes_79 : decode m_Mo_composes.2.2.1 79 = .ok (.iload 4, 2) := by decide +kernel
theorem d_Mo_composes_81 : decode m_Mo_composes.2.2.1 81 = .ok (.iadd, 1) := by decide +kernel
theorem d_Mo_composes_82 : decode m_Mo_composes.2.2.1 82 = .ok (.invokestatic 182, 3) := by decide +kernel
theorem d_Mo_composes_85 : decode m_Mo_composes.2.2.1 85 = .ok (.iaload, 1) := by decide +kernel
theorem d_Mo_composes_86 : decode m_Mo_composes.2.2.1 86 = .ok (.aload_n 0, 1) := by decide +kernel
theorem d_Mo_composes_87 : decode m_Mo_composes.2.2.1 87 = .ok (.iload_n 2, 1) := by decide +kernel
theorem d_Mo_composes_88 : decode m_Mo_composes.2.2.1 88 = .ok (.bipush (16), 2) := by decide +kernel
theorem d_Mo_composes_90 : decode m_Mo_composes.2.2.1 90 = .ok (.iload 4, 2) := by decide +kernel
theorem d_Mo_composes_92 : decode m_Mo_composes.2.2.1 92 = .ok (.imul, 1) := by decide +kernel
theorem d_Mo_composes_93 : decode m_Mo_composes.2.2.1 93 = .ok (.iadd, 1) := by decide +kernel
theorem d_Mo_composes_94 : decode m_Mo_composes.2.2.1 94 = .ok (.bipush (32), 2) := by decide +kernel
theorem d_Mo_composes_96 : decode m_Mo_composes.2.2.1 96 = .ok (.irem, 1) := by decide +kernel
theorem d_Mo_composes_97 : decode m_Mo_composes.2.2.1 97 = .ok (.invokevirtual 166, 3) := by decide +kernel
theorem d_Mo_composes_100 : decode m_Mo_composes.2.2.1 100 = .ok (.if_icmp .ne (7), 3) := by decide +kernel
theorem d_Mo_composes_103 : decode m_Mo_composes.2.2.1 103 = .ok (.iconst 1, 1) := by decide +kernel
theorem d_Mo_composes_104 : decode m_Mo_composes.2.2.1 104 = .ok (.goto (4), 3) := by decide +kernel
theorem d_Mo_composes_107 : decode m_Mo_composes.2.2.1 107 = .ok (.iconst 0, 1) := by decide +kernel
theorem d_Mo_composes_108 : decode m_Mo_composes.2.2.1 108 = .ok (.istore_n 3, 1) := by decide +kernel
theorem d_Mo_composes_109 : decode m_Mo_composes.2.2.1 109 = .ok (.iinc 4 (1), 3) := by decide +kernel
theorem d_Mo_composes_112 : decode m_Mo_composes.2.2.1 112 = .ok (.goto (-107), 3) := by decide +kernel
theorem d_Mo_composes_115 : decode m_Mo_composes.2.2.1 115 = .ok (.iload_n 3, 1) := by decide +kernel
theorem d_Mo_composes_116 : decode m_Mo_composes.2.2.1 116 = .ok (.ireturn, 1) := by decide +kernel
theorem d_Mo_folds_0 : decode m_Mo_folds.2.2.1 0 = .ok (.bipush (16), 2) := by decide +kernel
theorem d_Mo_folds_2 : decode m_Mo_folds.2.2.1 2 = .ok (.iload_n 3, 1) := by decide +kernel
theorem d_Mo_folds_3 : decode m_Mo_folds.2.2.1 3 = .ok (.ishr, 1) := by decide +kernel
theorem d_Mo_folds_4 : decode m_Mo_folds.2.2.1 4 = .ok (.istore 4, 2) := by decide +kernel
theorem d_Mo_folds_6 : decode m_Mo_folds.2.2.1 6 = .ok (.iload_n 2, 1) := by decide +kernel
theorem d_Mo_folds_7 : decode m_Mo_folds.2.2.1 7 = .ok (.iload 4, 2) := by decide +kernel
theorem d_Mo_folds_9 : decode m_Mo_folds.2.2.1 9 = .ok (.irem, 1) := by decide +kernel
theorem d_Mo_folds_10 : decode m_Mo_folds.2.2.1 10 = .ok (.istore 5, 2) := by decide +kernel
theorem d_Mo_folds_12 : decode m_Mo_folds.2.2.1 12 = .ok (.aload_n 0, 1) := by decide +kernel
theorem d_Mo_folds_13 : decode m_Mo_folds.2.2.1 13 = .ok (.iload_n 3, 1) := by decide +kernel
theorem d_Mo_folds_14 : decode m_Mo_folds.2.2.1 14 = .ok (.iload 5, 2) := by decide +kernel
theorem d_Mo_folds_16 : decode m_Mo_folds.2.2.1 16 = .ok (.aload_n 0, 1) := by decide +kernel
theorem d_Mo_folds_17 : decode m_Mo_folds.2.2.1 17 = .ok (.getfield 34, 3) := by decide +kernel
theorem d_Mo_folds_20 : decode m_Mo_folds.2.2.1 20 = .ok (.iload_n 1, 1) := by decide +kernel
theorem d_Mo_folds_21 : decode m_Mo_folds.2.2.1 21 = .ok (.iconst 4, 1) := by decide +kernel
theorem d_Mo_folds_22 : decode m_Mo_folds.2.2.1 22 = .ok (.iconst 2, 1) := by decide +kernel
theorem d_Mo_folds_23 : decode m_Mo_folds.2.2.1 23 = .ok (.iload_n 3, 1) := by decide +kernel
theorem d_Mo_folds_24 : decode m_Mo_folds.2.2.1 24 = .ok (.imul, 1) := by decide +kernel
theorem d_Mo_folds_25 : decode m_Mo_folds.2.2.1 25 = .ok (.iadd, 1) := by decide +kernel
theorem d_Mo_folds_26 : decode m_Mo_folds.2.2.1 26 = .ok (.invokestatic 182, 3) := by decide +kernel
theorem d_Mo_folds_29 : decode m_Mo_folds.2.2.1 29 = .ok (.iaload, 1) := by decide +kernel
theorem d_Mo_folds_30 : decode m_Mo_folds.2.2.1 30 = .ok (.aload_n 0, 1) := by decide +kernel
theorem d_Mo_folds_31 : decode m_Mo_folds.2.2.1 31 = .ok (.getfield 34, 3) := by decide +kernel
theorem d_Mo_folds_34 : decode m_Mo_folds.2.2.1 34 = .ok (.iload_n 1, 1) := by decide +kernel
theorem d_Mo_folds_35 : decode m_Mo_folds.2.2.1 35 = .ok (.iconst 5, 1) := by decide +kernel
theorem d_Mo_folds_36 : decode m_Mo_folds.2.2.1 36 = .ok (.iconst 2, 1) := by decide +kernel
theorem d_Mo_folds_37 : decode m_Mo_folds.2.2.1 37 = .ok (.iload_n 3, 1) := by decide +kernel
theorem d_Mo_folds_38 : decode m_Mo_folds.2.2.1 38 = .ok (.imul, 1) := by decide +kernel
theorem d_Mo_folds_39 : decode m_Mo_folds.2.2.1 39 = .ok (.iadd, 1) := by decide +kernel
theorem d_Mo_folds_40 : decode m_Mo_folds.2.2.1 40 = .ok (.invokestatic 182, 3) := by decide +kernel
theorem d_Mo_folds_43 : decode m_Mo_folds.2.2.1 43 = .ok (.iaload, 1) := by decide +kernel
theorem d_Mo_folds_44 : decode m_Mo_folds.2.2.1 44 = .ok (.invokevirtual 150, 3) := by decide +kernel
theorem d_Mo_folds_47 : decode m_Mo_folds.2.2.1 47 = .ok (.istore 6, 2) := by decide +kernel
theorem d_Mo_folds_49 : decode m_Mo_folds.2.2.1 49 = .ok (.iload_n 3, 1) := by decide +kernel
theorem d_Mo_folds_50 : decode m_Mo_folds.2.2.1 50 = .ok (.iconst 2, 1) := by decide +kernel
theorem d_Mo_folds_51 : decode m_Mo_folds.2.2.1 51 = .ok (.if_icmp .ne (20), 3) := by decide +kernel
theorem d_Mo_folds_54 : decode m_Mo_folds.2.2.1 54 = .ok (.iload 6, 2) := by decide +kernel
theorem d_Mo_folds_56 : decode m_Mo_folds.2.2.1 56 = .ok (.aload_n 0, 1) := by decide +kernel
theorem d_Mo_folds_57 : decode m_Mo_folds.2.2.1 57 = .ok (.getfield 34, 3) := by decide +kernel
theorem d_Mo_folds_60 : decode m_Mo_folds.2.2.1 60 = .ok (.iconst 4, 1) := by decide +kernel
theorem d_Mo_folds_61 : decode m_Mo_folds.2.2.1 61 = .ok (.iaload, 1) := by decide +kernel
theorem d_Mo_folds_62 : decode m_Mo_folds.2.2.1 62 = .ok (.if_icmp .ne (7), 3) := by decide +kernel
theorem d_Mo_folds_65 : decode m_Mo_folds.2.2.1 65 = .ok (.iconst 1, 1) := by decide +kernel
theorem d_Mo_folds_66 : decode m_Mo_folds.2.2.1 66 = .ok (.goto (4), 3) := by decide +kernel
theorem d_Mo_folds_69 : decode m_Mo_folds.2.2.1 69 = .ok (.iconst 0, 1) := by decide +kernel
theorem d_Mo_folds_70 : decode m_Mo_folds.2.2.1 70 = .ok (.ireturn, 1) := by decide +kernel
theorem d_Mo_folds_71 : decode m_Mo_folds.2.2.1 71 = .ok (.iload 6, 2) := by decide +kernel
theorem d_Mo_folds_73 : decode m_Mo_folds.2.2.1 73 = .ok (.aload_n 0, 1) := by decide +kernel
theorem d_Mo_folds_74 : decode m_Mo_folds.2.2.1 74 = .ok (.getfield 34, 3) := by decide +kernel
theorem d_Mo_folds_77 : decode m_Mo_folds.2.2.1 77 = .ok (.iload_n 1, 1) := by decide +kernel
theorem d_Mo_folds_78 : decode m_Mo_folds.2.2.1 78 = .ok (.bipush (6), 2) := by decide +kernel
theorem d_Mo_folds_80 : decode m_Mo_folds.2.2.1 80 = .ok (.iconst 2, 1) := by decide +kernel
theorem d_Mo_folds_81 : decode m_Mo_folds.2.2.1 81 = .ok (.iload_n 3, 1) := by decide +kernel
theorem d_Mo_folds_82 : decode m_Mo_folds.2.2.1 82 = .ok (.imul, 1) := by decide +kernel
theorem d_Mo_folds_83 : decode m_Mo_folds.2.2.1 83 = .ok (.iadd, 1) := by decide +kernel
theorem d_Mo_folds_84 : decode m_Mo_folds.2.2.1 84 = .ok (.iload 5, 2) := by decide +kernel
theorem d_Mo_folds_86 : decode m_Mo_folds.2.2.1 86 = .ok (.iload 4, 2) := by decide +kernel
theorem d_Mo_folds_88 : decode m_Mo_folds.2.2.1 88 = .ok (.iconst 2, 1) := by decide +kernel
theorem d_Mo_folds_89 : decode m_Mo_folds.2.2.1 89 = .ok (.idiv, 1) := by decide +kernel
theorem d_Mo_folds_90 : decode m_Mo_folds.2.2.1 90 = .ok (.if_icmp .lt (7), 3) := by decide +kernel
theorem d_Mo_folds_93 : decode m_Mo_folds.2.2.1 93 = .ok (.iconst 1, 1) := by decide +kernel
theorem d_Mo_folds_94 : decode m_Mo_folds.2.2.1 94 = .ok (.goto (4), 3) := by decide +kernel
theorem d_Mo_folds_97 : decode m_Mo_folds.2.2.1 97 = .ok (.iconst 0, 1) := by decide +kernel
theorem d_Mo_folds_98 : decode m_Mo_folds.2.2.1 98 = .ok (.iadd, 1) := by decide +kernel
theorem d_Mo_folds_99 : decode m_Mo_folds.2.2.1 99 = .ok (.invokestatic 182, 3) := by decide +kernel
theorem d_Mo_folds_102 : decode m_Mo_folds.2.2.1 102 = .ok (.iaload, 1) := by decide +kernel
theorem d_Mo_folds_103 : decode m_Mo_folds.2.2.1 103 = .ok (.if_icmp .ne (7), 3) := by decide +kernel
theorem d_Mo_folds_106 : decode m_Mo_folds.2.2.1 106 = .ok (.iconst 1, 1) := by decide +kernel
theorem d_Mo_folds_107 : decode m_Mo_folds.2.2.1 107 = .ok (.goto (4), 3) := by decide +kernel
theorem d_Mo_folds_110 : decode m_Mo_folds.2.2.1 110 = .ok (.iconst 0, 1) := by decide +kernel
theorem d_Mo_folds_111 : decode m_Mo_folds.2.2.1 111 = .ok (.ireturn, 1) := by decide +kernel
theorem d_Mo_code_0 : decode m_Mo_code.2.2.1 0 = .ok (.aload_n 0, 1) := by decide +kernel
theorem d_Mo_code_1 : decode m_Mo_code.2.2.1 1 = .ok (.getfield 40, 3) := by decide +kernel
theorem d_Mo_code_4 : decode m_Mo_code.2.2.1 4 = .ok (.iload_n 1, 1) := by decide +kernel
theorem d_Mo_code_5 : decode m_Mo_code.2.2.1 5 = .ok (.iaload, 1) := by decide +kernel
theorem d_Mo_code_6 : decode m_Mo_code.2.2.1 6 = .ok (.istore_n 2, 1) := by decide +kernel
theorem d_Mo_code_7 : decode m_Mo_code.2.2.1 7 = .ok (.aload_n 0, 1) := by decide +kernel
theorem d_Mo_code_8 : decode m_Mo_code.2.2.1 8 = .ok (.iload_n 1, 1) := by decide +kernel
theorem d_Mo_code_9 : decode m_Mo_code.2.2.1 9 = .ok (.iload_n 2, 1) := by decide +kernel
theorem d_Mo_code_10 : decode m_Mo_code.2.2.1 10 = .ok (.invokevirtual 189, 3) := by decide +kernel
theorem d_Mo_code_13 : decode m_Mo_code.2.2.1 13 = .ok (.ifCond .ne (5), 3) := by decide +kernel
theorem d_Mo_code_16 : decode m_Mo_code.2.2.1 16 = .ok (.iconst 2, 1) := by decide +kernel
theorem d_Mo_code_17 : decode m_Mo_code.2.2.1 17 = .ok (.ireturn, 1) := by decide +kernel
theorem d_Mo_code_18 : decode m_Mo_code.2.2.1 18 = .ok (.aload_n 0, 1) := by decide +kernel
theorem d_Mo_code_19 : decode m_Mo_code.2.2.1 19 = .ok (.iload_n 1, 1) := by decide +kernel
theorem d_Mo_code_20 : decode m_Mo_code.2.2.1 20 = .ok (.iload_n 2, 1) := by decide +kernel
theorem d_Mo_code_21 : decode m_Mo_code.2.2.1 21 = .ok (.iconst 0, 1) := by decide +kernel
theorem d_Mo_code_22 : decode m_Mo_code.2.2.1 22 = .ok (.invokevirtual 193, 3) := by decide +kernel
theorem d_Mo_code_25 : decode m_Mo_code.2.2.1 25 = .ok (.ifCond .ne (5), 3) := by decide +kernel
theorem d_Mo_code_28 : decode m_Mo_code.2.2.1 28 = .ok (.iconst 3, 1) := by decide +kernel
theorem d_Mo_code_29 : decode m_Mo_code.2.2.1 29 = .ok (.ireturn, 1) := by decide +kernel
theorem d_Mo_code_30 : decode m_Mo_code.2.2.1 30 = .ok (.aload_n 0, 1) := by decide +kernel
theorem d_Mo_code_31 : decode m_Mo_code.2.2.1 31 = .ok (.iload_n 1, 1) := by decide +kernel
theorem d_Mo_code_32 : decode m_Mo_code.2.2.1 32 = .ok (.iload_n 2, 1) := by decide +kernel
theorem d_Mo_code_33 : decode m_Mo_code.2.2.1 33 = .ok (.invokevirtual 197, 3) := by decide +kernel
theorem d_Mo_code_36 : decode m_Mo_code.2.2.1 36 = .ok (.ifCond .ne (5), 3) := by decide +kernel
theorem d_Mo_code_39 : decode m_Mo_code.2.2.1 39 = .ok (.iconst 4, 1) := by decide +kernel
theorem d_Mo_code_40 : decode m_Mo_code.2.2.1 40 = .ok (.ireturn, 1) := by decide +kernel
theorem d_Mo_code_41 : decode m_Mo_code.2.2.1 41 = .ok (.aload_n 0, 1) := by decide +kernel
theorem d_Mo_code_42 : decode m_Mo_code.2.2.1 42 = .ok (.iload_n 1, 1) := by decide +kernel
theorem d_Mo_code_43 : decode m_Mo_code.2.2.1 43 = .ok (.iload_n 2, 1) := by decide +kernel
theorem d_Mo_code_44 : decode m_Mo_code.2.2.1 44 = .ok (.iconst 1, 1) := by decide +kernel
theorem d_Mo_code_45 : decode m_Mo_code.2.2.1 45 = .ok (.invokevirtual 193, 3) := by decide +kernel
theorem d_Mo_code_48 : decode m_Mo_code.2.2.1 48 = .ok (.ifCond .ne (5), 3) := by decide +kernel
theorem d_Mo_code_51 : decode m_Mo_code.2.2.1 51 = .ok (.iconst 5, 1) := by decide +kernel
theorem d_Mo_code_52 : decode m_Mo_code.2.2.1 52 = .ok (.ireturn, 1) := by decide +kernel
theorem d_Mo_code_53 : decode m_Mo_code.2.2.1 53 = .ok (.aload_n 0, 1) := by decide +kernel
theorem d_Mo_code_54 : decode m_Mo_code.2.2.1 54 = .ok (.iload_n 1, 1) := by decide +kernel
theorem d_Mo_code_55 : decode m_Mo_code.2.2.1 55 = .ok (.iload_n 2, 1) := by decide +kernel
theorem d_Mo_code_56 : decode m_Mo_code.2.2.1 56 = .ok (.iconst 0, 1) := by decide +kernel
theorem d_Mo_code_57 : decode m_Mo_code.2.2.1 57 = .ok (.invokevirtual 200, 3) := by decide +kernel
theorem d_Mo_code_60 : decode m_Mo_code.2.2.1 60 = .ok (.ifCond .ne (6), 3) := by decide +kernel
theorem d_Mo_code_63 : decode m_Mo_code.2.2.1 63 = .ok (.bipush (6), 2) := by decide +kernel
theorem d_Mo_code_65 : decode m_Mo_code.2.2.1 65 = .ok (.ireturn, 1) := by decide +kernel
theorem d_Mo_code_66 : decode m_Mo_code.2.2.1 66 = .ok (.aload_n 0, 1) := by decide +kernel
theorem d_Mo_code_67 : decode m_Mo_code.2.2.1 67 = .ok (.iload_n 1, 1) := by decide +kernel
theorem d_Mo_code_68 : decode m_Mo_code.2.2.1 68 = .ok (.iload_n 2, 1) := by decide +kernel
theorem d_Mo_code_69 : decode m_Mo_code.2.2.1 69 = .ok (.iconst 2, 1) := by decide +kernel
theorem d_Mo_code_70 : decode m_Mo_code.2.2.1 70 = .ok (.invokevirtual 193, 3) := by decide +kernel
theorem d_Mo_code_73 : decode m_Mo_code.2.2.1 73 = .ok (.ifCond .ne (6), 3) := by decide +kernel
theorem d_Mo_code_76 : decode m_Mo_code.2.2.1 76 = .ok (.bipush (7), 2) := by decide +kernel
theorem d_Mo_code_78 : decode m_Mo_code.2.2.1 78 = .ok (.ireturn, 1) := by decide +kernel
theorem d_Mo_code_79 : decode m_Mo_code.2.2.1 79 = .ok (.aload_n 0, 1) := by decide +kernel
theorem d_Mo_code_80 : decode m_Mo_code.2.2.1 80 = .ok (.iload_n 1, 1) := by decide +kernel
theorem d_Mo_code_81 : decode m_Mo_code.2.2.1 81 = .ok (.iload_n 2, 1) := by decide +kernel
theorem d_Mo_code_82 : decode m_Mo_code.2.2.1 82 = .ok (.iconst 1, 1) := by decide +kernel
theorem d_Mo_code_83 : decode m_Mo_code.2.2.1 83 = .ok (.invokevirtual 200, 3) := by decide +kernel
theorem d_Mo_code_86 : decode m_Mo_code.2.2.1 86 = .ok (.ifCond .ne (6), 3) := by decide +kernel
theorem d_Mo_code_89 : decode m_Mo_code.2.2.1 89 = .ok (.bipush (8), 2) := by decide +kernel
theorem d_Mo_code_91 : decode m_Mo_code.2.2.1 91 = .ok (.ireturn, 1) := by decide +kernel
theorem d_Mo_code_92 : decode m_Mo_code.2.2.1 92 = .ok (.aload_n 0, 1) := by decide +kernel
theorem d_Mo_code_93 : decode m_Mo_code.2.2.1 93 = .ok (.iload_n 1, 1) := by decide +kernel
theorem d_Mo_code_94 : decode m_Mo_code.2.2.1 94 = .ok (.iload_n 2, 1) := by decide +kernel
theorem d_Mo_code_95 : decode m_Mo_code.2.2.1 95 = .ok (.iconst 2, 1) := by decide +kernel
theorem d_Mo_code_96 : decode m_Mo_code.2.2.1 96 = .ok (.invokevirtual 200, 3) := by decide +kernel
theorem d_Mo_code_99 : decode m_Mo_code.2.2.1 99 = .ok (.ifCond .eq (7), 3) := by decide +kernel
theorem d_Mo_code_102 : decode m_Mo_code.2.2.1 102 = .ok (.iconst 0, 1) := by decide +kernel
theorem d_Mo_code_103 : decode m_Mo_code.2.2.1 103 = .ok (.goto (5), 3) := by decide +kernel
theorem d_Mo_code_106 : decode m_Mo_code.2.2.1 106 = .ok (.bipush (9), 2) := by decide +kernel
theorem d_Mo_code_108 : decode m_Mo_code.2.2.1 108 = .ok (.ireturn, 1) := by decide +kernel
theorem d_Mo_verify_0 : decode m_Mo_verify.2.2.1 0 = .ok (.aload_n 0, 1) := by decide +kernel
theorem d_Mo_verify_1 : decode m_Mo_verify.2.2.1 1 = .ok (.iconst 0, 1) := by decide +kernel
theorem d_Mo_verify_2 : decode m_Mo_verify.2.2.1 2 = .ok (.putfield 203, 3) := by decide +kernel
theorem d_Mo_verify_5 : decode m_Mo_verify.2.2.1 5 = .ok (.aload_n 0, 1) := by decide +kernel
theorem d_Mo_verify_6 : decode m_Mo_verify.2.2.1 6 = .ok (.getfield 178, 3) := by decide +kernel
theorem d_Mo_verify_9 : decode m_Mo_verify.2.2.1 9 = .ok (.ifCond .ne (6), 3) := by decide +kernel
theorem d_Mo_verify_12 : decode m_Mo_verify.2.2.1 12 = .ok (.bipush (-2), 2) := by decide +kernel
theorem d_Mo_verify_14 : decode m_Mo_verify.2.2.1 14 = .ok (.ireturn, 1) := by decide +kernel
theorem d_Mo_verify_15 : decode m_Mo_verify.2.2.1 15 = .ok (.aload_n 0, 1) := by decide +kernel
theorem d_Mo_verify_16 : decode m_Mo_verify.2.2.1 16 = .ok (.invokevirtual 113, 3) := by decide +kernel
theorem d_Mo_verify_19 : decode m_Mo_verify.2.2.1 19 = .ok (.aload_n 0, 1) := by decide +kernel
theorem d_Mo_verify_20 : decode m_Mo_verify.2.2.1 20 = .ok (.getfield 84, 3) := by decide +kernel
theorem d_Mo_verify_23 : decode m_Mo_verify.2.2.1 23 = .ok (.iadd, 1) := by decide +kernel
theorem d_Mo_verify_24 : decode m_Mo_verify.2.2.1 24 = .ok (.ifCond .ne (5), 3) := by decide +kernel
theorem d_Mo_verify_27 : decode m_Mo_verify.2.2.1 27 = .ok (.iconst (-1), 1) := by decide +kernel
theorem d_Mo_verify_28 : decode m_Mo_verify.2.2.1 28 = .ok (.ireturn, 1) := by decide +kernel
theorem d_Mo_verify_29 : decode m_Mo_verify.2.2.1 29 = .ok (.aload_n 0, 1) := by decide +kernel
theorem d_Mo_verify_30 : decode m_Mo_verify.2.2.1 30 = .ok (.invokevirtual 206, 3) := by decide +kernel
theorem d_Mo_verify_33 : decode m_Mo_verify.2.2.1 33 = .ok (.ifCond .ne (5), 3) := by decide +kernel
theorem d_Mo_verify_36 : decode m_Mo_verify.2.2.1 36 = .ok (.iconst 1, 1) := by decide +kernel
theorem d_Mo_verify_37 : decode m_Mo_verify.2.2.1 37 = .ok (.ireturn, 1) := by decide +kernel
theorem d_Mo_verify_38 : decode m_Mo_verify.2.2.1 38 = .ok (.aload_n 0, 1) := by decide +kernel
theorem d_Mo_verify_39 : decode m_Mo_verify.2.2.1 39 = .ok (.invokevirtual 157, 3) := by decide +kernel
theorem d_Mo_verify_42 : decode m_Mo_verify.2.2.1 42 = .ok (.aload_n 0, 1) := by decide +kernel
theorem d_Mo_verify_43 : decode m_Mo_verify.2.2.1 43 = .ok (.aload_n 0, 1) := by decide +kernel
theorem d_Mo_verify_44 : decode m_Mo_verify.2.2.1 44 = .ok (.getfield 34, 3) := by decide +kernel
theorem d_Mo_verify_47 : decode m_Mo_verify.2.2.1 47 = .ok (.iconst 0, 1) := by decide +kernel
theorem d_Mo_verify_48 : decode m_Mo_verify.2.2.1 48 = .ok (.iaload, 1) := by decide +kernel
theorem d_Mo_verify_49 : decode m_Mo_verify.2.2.1 49 = .ok (.invokevirtual 126, 3) := by decide +kernel
theorem d_Mo_verify_52 : decode m_Mo_verify.2.2.1 52 = .ok (.aload_n 0, 1) := by decide +kernel
theorem d_Mo_verify_53 : decode m_Mo_verify.2.2.1 53 = .ok (.aload_n 0, 1) := by decide +kernel
theorem d_Mo_verify_54 : decode m_Mo_verify.2.2.1 54 = .ok (.invokevirtual 163, 3) := by decide +kernel
theorem d_Mo_verify_57 : decode m_Mo_verify.2.2.1 57 = .ok (.putfield 117, 3) := by decide +kernel
theorem d_Mo_verify_60 : decode m_Mo_verify.2.2.1 60 = .ok (.iconst 0, 1) := by decide +kernel
theorem d_Mo_verify_61 : decode m_Mo_verify.2.2.1 61 = .ok (.istore_n 1, 1) := by decide +kernel
theorem d_Mo_verify_62 : decode m_Mo_verify.2.2.1 62 = .ok (.iload_n 1, 1) := by decide +kernel
theorem d_Mo_verify_63 : decode m_Mo_verify.2.2.1 63 = .ok (.iconst 3, 1) := by decide +kernel
theorem d_Mo_verify_64 : decode m_Mo_verify.2.2.1 64 = .ok (.if_icmp .ge (31), 3) := by decide +kernel
theorem d_Mo_verify_67 : decode m_Mo_verify.2.2.1 67 = .ok (.aload_n 0, 1) := by decide +kernel
theorem d_Mo_verify_68 : decode m_Mo_verify.2.2.1 68 = .ok (.aload_n 0, 1) := by decide +kernel
theorem d_Mo_verify_69 : decode m_Mo_verify.2.2.1 69 = .ok (.getfield 34, 3) := by decide +kernel
theorem d_Mo_verify_72 : decode m_Mo_verify.2.2.1 72 = .ok (.iload_n 1, 1) := by decide +kernel
theorem d_Mo_verify_73 : decode m_Mo_verify.2.2.1 73 = .ok (.iconst 1, 1) := by decide +kernel
theorem d_Mo_verify_74 : decode m_Mo_verify.2.2.1 74 = .ok (.iadd, 1) := by decide +kernel
theorem d_Mo_verify_75 : decode m_Mo_verify.2.2.1 75 = .ok (.iaload, 1) := by decide +kernel
theorem d_Mo_verify_76 : decode m_Mo_verify.2.2.1 76 = .ok (.invokevirtual 126, 3) := by decide +kernel
theorem d_Mo_verify_79 : decode m_Mo_verify.2.2.1 79 = .ok (.aload_n 0, 1) := by decide +kernel
theorem d_Mo_verify_80 : decode m_Mo_verify.2.2.1 80 = .ok (.getfield 37, 3) := by decide +kernel
theorem d_Mo_verify_83 : decode m_Mo_verify.2.2.1 83 = .ok (.iload_n 1, 1) := by decide +kernel
theorem d_Mo_verify_84 : decode m_Mo_verify.2.2.1 84 = .ok (.aload_n 0, 1) := by decide +kernel
theorem d_Mo_verify_85 : decode m_Mo_verify.2.2.1 85 = .ok (.invokevirtual 163, 3) := by decide +kernel
theorem d_Mo_verify_88 : decode m_Mo_verify.2.2.1 88 = .ok (.iastore, 1) := by decide +kernel
theorem d_Mo_verify_89 : decode m_Mo_verify.2.2.1 89 = .ok (.iinc 1 (1), 3) := by decide +kernel
theorem d_Mo_verify_92 : decode m_Mo_verify.2.2.1 92 = .ok (.goto (-30), 3) := by decide +kernel
theorem d_Mo_verify_95 : decode m_Mo_verify.2.2.1 95 = .ok (.aload_n 0, 1) := by decide +kernel
theorem d_Mo_verify_96 : decode m_Mo_verify.2.2.1 96 = .ok (.aload_n 0, 1) := by decide +kernel
theorem d_Mo_verify_97 : decode m_Mo_verify.2.2.1 97 = .ok (.getfield 34, 3) := by decide +kernel
theorem d_Mo_verify_100 : decode m_Mo_verify.2.2.1 100 = .ok (.iconst 4, 1) := by decide +kernel
theorem d_Mo_verify_101 : decode m_Mo_verify.2.2.1 101 = .ok (.iaload, 1) := by decide +kernel
theorem d_Mo_verify_102 : decode m_Mo_verify.2.2.1 102 = .ok (.invokevirtual 172, 3) := by decide +kernel
theorem d_Mo_verify_105 : decode m_Mo_verify.2.2.1 105 = .ok (.aload_n 0, 1) := by decide +kernel
theorem d_Mo_verify_106 : decode m_Mo_verify.2.2.1 106 = .ok (.iconst 1, 1) := by decide +kernel
theorem d_Mo_verify_107 : decode m_Mo_verify.2.2.1 107 = .ok (.putfield 203, 3) := by decide +kernel
theorem d_Mo_verify_110 : decode m_Mo_verify.2.2.1 110 = .ok (.iconst 0, 1) := by decide +kernel
theorem d_Mo_verify_111 : decode m_Mo_verify.2.2.1 111 = .ok (.istore_n 1, 1) := by decide +kernel
theorem d_Mo_verify_112 : decode m_Mo_verify.2.2.1 112 = .ok (.iload_n 1, 1) := by decide +kernel
theorem d_Mo_verify_113 : decode m_Mo_verify.2.2.1 113 = .ok (.iconst 3, 1) := by decide +kernel
theorem d_Mo_verify_114 : decode m_Mo_verify.2.2.1 114 = .ok (.if_icmp .ge (21), 3) := by decide +kernel
theorem d_Mo_verify_117 : decode m_Mo_verify.2.2.1 117 = .ok (.aload_n 0, 1) := by decide +kernel
theorem d_Mo_verify_118 : decode m_Mo_verify.2.2.1 118 = .ok (.getfield 43, 3) := by decide +kernel
theorem d_Mo_verify_121 : decode m_Mo_verify.2.2.1 121 = .ok (.iload_n 1, 1) := by decide +kernel
theorem d_Mo_verify_122 : decode m_Mo_verify.2.2.1 122 = .ok (.aload_n 0, 1) := by decide +kernel
theorem d_Mo_verify_123 : decode m_Mo_verify.2.2.1 123 = .ok (.getfield 40, 3) := by decide +kernel
theorem d_Mo_verify_126 : decode m_Mo_verify.2.2.1 126 = .ok (.iload_n 1, 1) := by decide +kernel
theorem d_Mo_verify_127 : decode m_Mo_verify.2.2.1 127 = .ok (.iaload, 1) := by decide +kernel
theorem d_Mo_verify_128 : decode m_Mo_verify.2.2.1 128 = .ok (.iastore, 1) := by decide +kernel
theorem d_Mo_verify_129 : decode m_Mo_verify.2.2.1 129 = .ok (.iinc 1 (1), 3) := by decide +kernel
theorem d_Mo_verify_132 : decode m_Mo_verify.2.2.1 132 = .ok (.goto (-20), 3) := by decide +kernel
theorem d_Mo_verify_135 : decode m_Mo_verify.2.2.1 135 = .ok (.iconst 0, 1) := by decide +kernel
theorem d_Mo_verify_136 : decode m_Mo_verify.2.2.1 136 = .ok (.istore_n 1, 1) := by decide +kernel
theorem d_Mo_verify_137 : decode m_Mo_verify.2.2.1 137 = .ok (.iconst 0, 1) := by decide +kernel
theorem d_Mo_verify_138 : decode m_Mo_verify.2.2.1 138 = .ok (.istore_n 2, 1) := by decide +kernel
theorem d_Mo_verify_139 : decode m_Mo_verify.2.2.1 139 = .ok (.iload_n 2, 1) := by decide +kernel
theorem d_Mo_verify_140 : decode m_Mo_verify.2.2.1 140 = .ok (.iconst 3, 1) := by decide +kernel
theorem d_Mo_verify_141 : decode m_Mo_verify.2.2.1 141 = .ok (.if_icmp .ge (19), 3) := by decide +kernel
theorem d_Mo_verify_144 : decode m_Mo_verify.2.2.1 144 = .ok (.iload_n 1, 1) := by decide +kernel
theorem d_Mo_verify_145 : decode m_Mo_verify.2.2.1 145 = .ok (.ifCond .ne (15), 3) := by decide +kernel
theorem d_Mo_verify_148 : decode m_Mo_verify.2.2.1 148 = .ok (.aload_n 0, 1) := by decide +kernel
theorem d_Mo_verify_149 : decode m_Mo_verify.2.2.1 149 = .ok (.iload_n 2, 1) := by decide +kernel
theorem d_Mo_verify_150 : decode m_Mo_verify.2.2.1 150 = .ok (.invokevirtual 210, 3) := by decide +kernel
theorem d_Mo_verify_153 : decode m_Mo_verify.2.2.1 153 = .ok (.istore_n 1, 1) := by decide +kernel
theorem d_Mo_verify_154 : decode m_Mo_verify.2.2.1 154 = .ok (.iinc 2 (1), 3) := by decide +kernel
theorem d_Mo_verify_157 : decode m_Mo_verify.2.2.1 157 = .ok (.goto (-18), 3) := by decide +kernel
theorem d_Mo_verify_160 : decode m_Mo_verify.2.2.1 160 = .ok (.iload_n 1, 1) := by decide +kernel
theorem d_Mo_verify_161 : decode m_Mo_verify.2.2.1 161 = .ok (.ireturn, 1) := by decide +kernel
theorem d_Mo_position_0 : decode m_Mo_position.2.2.1 0 = .ok (.aload_n 0, 1) := by decide +kernel
theorem d_Mo_position_1 : decode m_Mo_position.2.2.1 1 = .ok (.getfield 203, 3) := by decide +kernel
theorem d_Mo_position_4 : decode m_Mo_position.2.2.1 4 = .ok (.ifCond .eq (21), 3) := by decide +kernel
theorem d_Mo_position_7 : decode m_Mo_position.2.2.1 7 = .ok (.iload_n 1, 1) := by decide +kernel
theorem d_Mo_position_8 : decode m_Mo_position.2.2.1 8 = .ok (.ifCond .lt (17), 3) := by decide +kernel
theorem d_Mo_position_11 : decode m_Mo_position.2.2.1 11 = .ok (.iload_n 1, 1) := by decide +kernel
theorem d_Mo_position_12 : decode m_Mo_position.2.2.1 12 = .ok (.iconst 3, 1) := by decide +kernel
theorem d_Mo_position_13 : decode m_Mo_position.2.2.1 13 = .ok (.if_icmp .ge (12), 3) := by decide +kernel
theorem d_Mo_position_16 : decode m_Mo_position.2.2.1 16 = .ok (.aload_n 0, 1) := by decide +kernel
theorem d_Mo_position_17 : decode m_Mo_position.2.2.1 17 = .ok (.getfield 43, 3) := by decide +kernel
theorem d_Mo_position_20 : decode m_Mo_position.2.2.1 20 = .ok (.iload_n 1, 1) := by decide +kernel
theorem d_Mo_position_21 : decode m_Mo_position.2.2.1 21 = .ok (.iaload, 1) := by decide +kernel
theorem d_Mo_position_22 : decode m_Mo_position.2.2.1 22 = .ok (.goto (5), 3) := by decide +kernel
theorem d_Mo_position_25 : decode m_Mo_position.2.2.1 25 = .ok (.bipush (-2), 2) := by decide +kernel
theorem d_Mo_position_27 : decode m_Mo_position.2.2.1 27 = .ok (.ireturn, 1) := by decide +kernel
theorem d_Fi_holds_0 : decode m_Fi_holds.2.2.1 0 = .ok (.iload_n 0, 1) := by decide +kernel
theorem d_Fi_holds_1 : decode m_Fi_holds.2.2.1 1 = .ok (.ifCond .lt (14), 3) := by decide +kernel
theorem d_Fi_holds_4 : decode m_Fi_holds.2.2.1 4 = .ok (.iload_n 0, 1) := by decide +kernel
theorem d_Fi_holds_5 : decode m_Fi_holds.2.2.1 5 = .ok (.sipush (12289), 3) := by decide +kernel
theorem d_Fi_holds_8 : decode m_Fi_holds.2.2.1 8 = .ok (.if_icmp .ge (7), 3) := by decide +kernel
theorem d_Fi_holds_11 : decode m_Fi_holds.2.2.1 11 = .ok (.iconst 1, 1) := by decide +kernel
theorem d_Fi_holds_12 : decode m_Fi_holds.2.2.1 12 = .ok (.goto (4), 3) := by decide +kernel
theorem d_Fi_holds_15 : decode m_Fi_holds.2.2.1 15 = .ok (.iconst 0, 1) := by decide +kernel
theorem d_Fi_holds_16 : decode m_Fi_holds.2.2.1 16 = .ok (.ireturn, 1) := by decide +kernel
theorem d_Fi_plus_0 : decode m_Fi_plus.2.2.1 0 = .ok (.iload_n 0, 1) := by decide +kernel
theorem d_Fi_plus_1 : decode m_Fi_plus.2.2.1 1 = .ok (.iload_n 1, 1) := by decide +kernel
theorem d_Fi_plus_2 : decode m_Fi_plus.2.2.1 2 = .ok (.iadd, 1) := by decide +kernel
theorem d_Fi_plus_3 : decode m_Fi_plus.2.2.1 3 = .ok (.sipush (12289), 3) := by decide +kernel
theorem d_Fi_plus_6 : decode m_Fi_plus.2.2.1 6 = .ok (.irem, 1) := by decide +kernel
theorem d_Fi_plus_7 : decode m_Fi_plus.2.2.1 7 = .ok (.ireturn, 1) := by decide +kernel
theorem d_Fi_minus_0 : decode m_Fi_minus.2.2.1 0 = .ok (.iload_n 0, 1) := by decide +kernel
theorem d_Fi_minus_1 : decode m_Fi_minus.2.2.1 1 = .ok (.iload_n 1, 1) := by decide +kernel
theorem d_Fi_minus_2 : decode m_Fi_minus.2.2.1 2 = .ok (.isub, 1) := by decide +kernel
theorem d_Fi_minus_3 : decode m_Fi_minus.2.2.1 3 = .ok (.sipush (12289), 3) := by decide +kernel
theorem d_Fi_minus_6 : decode m_Fi_minus.2.2.1 6 = .ok (.iadd, 1) := by decide +kernel
theorem d_Fi_minus_7 : decode m_Fi_minus.2.2.1 7 = .ok (.sipush (12289), 3) := by decide +kernel
theorem d_Fi_minus_10 : decode m_Fi_minus.2.2.1 10 = .ok (.irem, 1) := by decide +kernel
theorem d_Fi_minus_11 : decode m_Fi_minus.2.2.1 11 = .ok (.ireturn, 1) := by decide +kernel
theorem d_Fi_times_0 : decode m_Fi_times.2.2.1 0 = .ok (.iload_n 0, 1) := by decide +kernel
theorem d_Fi_times_1 : decode m_Fi_times.2.2.1 1 = .ok (.iload_n 1, 1) := by decide +kernel
theorem d_Fi_times_2 : decode m_Fi_times.2.2.1 2 = .ok (.imul, 1) := by decide +kernel
theorem d_Fi_times_3 : decode m_Fi_times.2.2.1 3 = .ok (.sipush (12289), 3) := by decide +kernel
theorem d_Fi_times_6 : decode m_Fi_times.2.2.1 6 = .ok (.irem, 1) := by decide +kernel
theorem d_Fi_times_7 : decode m_Fi_times.2.2.1 7 = .ok (.ireturn, 1) := by decide +kernel
theorem d_Fi_power_0 : decode m_Fi_power.2.2.1 0 = .ok (.iconst 1, 1) := by decide +kernel
theorem d_Fi_power_1 : decode m_Fi_power.2.2.1 1 = .ok (.istore_n 2, 1) := by decide +kernel
theorem d_Fi_power_2 : decode m_Fi_power.2.2.1 2 = .ok (.iload_n 0, 1) := by decide +kernel
theorem d_Fi_power_3 : decode m_Fi_power.2.2.1 3 = .ok (.istore_n 3, 1) := by decide +kernel
theorem d_Fi_power_4 : decode m_Fi_power.2.2.1 4 = .ok (.iload_n 1, 1) := by decide +kernel
theorem d_Fi_power_5 : decode m_Fi_power.2.2.1 5 = .ok (.istore 4, 2) := by decide +kernel
theorem d_Fi_power_7 : decode m_Fi_power.2.2.1 7 = .ok (.iload 4, 2) := by decide +kernel
theorem d_Fi_power_9 : decode m_Fi_power.2.2.1 9 = .ok (.ifCond .le (32), 3) := by decide +kernel
theorem d_Fi_power_12 : decode m_Fi_power.2.2.1 12 = .ok (.iload 4, 2) := by decide +kernel
theorem d_Fi_power_14 : decode m_Fi_power.2.2.1 14 = .ok (.iconst 2, 1) := by decide +kernel
theorem d_Fi_power_15 : decode m_Fi_power.2.2.1 15 = .ok (.irem, 1) := by decide +kernel
theorem d_Fi_power_16 : decode m_Fi_power.2.2.1 16 = .ok (.iconst 1, 1) := by decide +kernel
theorem d_Fi_power_17 : decode m_Fi_power.2.2.1 17 = .ok (.if_icmp .ne (9), 3) := by decide +kernel
theorem d_Fi_power_20 : decode m_Fi_power.2.2.1 20 = .ok (.iload_n 2, 1) := by decide +kernel
theorem d_Fi_power_21 : decode m_Fi_power.2.2.1 21 = .ok (.iload_n 3, 1) := by decide +kernel
theorem d_Fi_power_22 : decode m_Fi_power.2.2.1 22 = .ok (.invokestatic 9, 3) := by decide +kernel
theorem d_Fi_power_25 : decode m_Fi_power.2.2.1 25 = .ok (.istore_n 2, 1) := by decide +kernel
theorem d_Fi_power_26 : decode m_Fi_power.2.2.1 26 = .ok (.iload_n 3, 1) := by decide +kernel
theorem d_Fi_power_27 : decode m_Fi_power.2.2.1 27 = .ok (.iload_n 3, 1) := by decide +kernel
theorem d_Fi_power_28 : decode m_Fi_power.2.2.1 28 = .ok (.invokestatic 9, 3) := by decide +kernel
theorem d_Fi_power_31 : decode m_Fi_power.2.2.1 31 = .ok (.istore_n 3, 1) := by decide +kernel
theorem d_Fi_power_32 : decode m_Fi_power.2.2.1 32 = .ok (.iload 4, 2) := by decide +kernel
theorem d_Fi_power_34 : decode m_Fi_power.2.2.1 34 = .ok (.iconst 2, 1) := by decide +kernel
theorem d_Fi_power_35 : decode m_Fi_power.2.2.1 35 = .ok (.idiv, 1) := by decide +kernel
theorem d_Fi_power_36 : decode m_Fi_power.2.2.1 36 = .ok (.istore 4, 2) := by decide +kernel
theorem d_Fi_power_38 : decode m_Fi_power.2.2.1 38 = .ok (.goto (-31), 3) := by decide +kernel
theorem d_Fi_power_41 : decode m_Fi_power.2.2.1 41 = .ok (.iload_n 2, 1) := by decide +kernel
theorem d_Fi_power_42 : decode m_Fi_power.2.2.1 42 = .ok (.ireturn, 1) := by decide +kernel
theorem d_Fi_inverse_0 : decode m_Fi_inverse.2.2.1 0 = .ok (.iload_n 0, 1) := by decide +kernel
theorem d_Fi_inverse_1 : decode m_Fi_inverse.2.2.1 1 = .ok (.sipush (12287), 3) := by decide +kernel
theorem d_Fi_inverse_4 : decode m_Fi_inverse.2.2.1 4 = .ok (.invokestatic 13, 3) := by decide +kernel
theorem d_Fi_inverse_7 : decode m_Fi_inverse.2.2.1 7 = .ok (.ireturn, 1) := by decide +kernel
theorem d_Pt_init_0 : decode m_Pt_init.2.2.1 0 = .ok (.aload_n 0, 1) := by decide +kernel
theorem d_Pt_init_1 : decode m_Pt_init.2.2.1 1 = .ok (.invokespecial 3, 3) := by decide +kernel
theorem d_Pt_init_4 : decode m_Pt_init.2.2.1 4 = .ok (.aload_n 0, 1) := by decide +kernel
theorem d_Pt_init_5 : decode m_Pt_init.2.2.1 5 = .ok (.bipush (32), 2) := by decide +kernel
theorem d_Pt_init_7 : decode m_Pt_init.2.2.1 7 = .ok (.newarray .int, 2) := by decide +kernel
theorem d_Pt_init_9 : decode m_Pt_init.2.2.1 9 = .ok (.putfield 9, 3) := by decide +kernel
theorem d_Pt_init_12 : decode m_Pt_init.2.2.1 12 = .ok (.aload_n 0, 1) := by decide +kernel
theorem d_Pt_init_13 : decode m_Pt_init.2.2.1 13 = .ok (.bipush (32), 2) := by decide +kernel
theorem d_Pt_init_15 : decode m_Pt_init.2.2.1 15 = .ok (.newarray .int, 2) := by decide +kernel
theorem d_Pt_init_17 : decode m_Pt_init.2.2.1 17 = .ok (.putfield 15, 3) := by decide +kernel
theorem d_Pt_init_20 : decode m_Pt_init.2.2.1 20 = .ok (.aload_n 0, 1) := by decide +kernel
theorem d_Pt_init_21 : decode m_Pt_init.2.2.1 21 = .ok (.bipush (32), 2) := by decide +kernel
theorem d_Pt_init_23 : decode m_Pt_init.2.2.1 23 = .ok (.newarray .int, 2) := by decide +kernel
theorem d_Pt_init_25 : decode m_Pt_init.2.2.1 25 = .ok (.putfield 18, 3) := by decide +kernel
theorem d_Pt_init_28 : decode m_Pt_init.2.2.1 28 = .ok (.aload_n 0, 1) := by decide +kernel
theorem d_Pt_init_29 : decode m_Pt_init.2.2.1 29 = .ok (.bipush (32), 2) := by decide +kernel
theorem d_Pt_init_31 : decode m_Pt_init.2.2.1 31 = .ok (.newarray .int, 2) := by decide +kernel
