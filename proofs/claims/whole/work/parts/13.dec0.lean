theorem d_P_init_0 : decode m_P_init.2.2.1 0 = .ok (.aload_n 0, 1) := by decide +kernel
theorem d_P_init_1 : decode m_P_init.2.2.1 1 = .ok (.invokespecial 1, 3) := by decide +kernel
theorem d_P_init_4 : decode m_P_init.2.2.1 4 = .ok (.aload_n 0, 1) := by decide +kernel
theorem d_P_init_5 : decode m_P_init.2.2.1 5 = .ok (.new 7, 3) := by decide +kernel
theorem d_P_init_8 : decode m_P_init.2.2.1 8 = .ok (.dup, 1) := by decide +kernel
theorem d_P_init_9 : decode m_P_init.2.2.1 9 = .ok (.invokespecial 9, 3) := by decide +kernel
theorem d_P_init_12 : decode m_P_init.2.2.1 12 = .ok (.putfield 10, 3) := by decide +kernel
theorem d_P_init_15 : decode m_P_init.2.2.1 15 = .ok (.aload_n 0, 1) := by decide +kernel
theorem d_P_init_16 : decode m_P_init.2.2.1 16 = .ok (.new 16, 3) := by decide +kernel
theorem d_P_init_19 : decode m_P_init.2.2.1 19 = .ok (.dup, 1) := by decide +kernel
theorem d_P_init_20 : decode m_P_init.2.2.1 20 = .ok (.aload_n 0, 1) := by decide +kernel
theorem d_P_init_21 : decode m_P_init.2.2.1 21 = .ok (.getfield 10, 3) := by decide +kernel
theorem d_P_init_24 : decode m_P_init.2.2.1 24 = .ok (.invokespecial 18, 3) := by decide +kernel
theorem d_P_init_27 : decode m_P_init.2.2.1 27 = .ok (.putfield 21, 3) := by decide +kernel
theorem d_P_init_30 : decode m_P_init.2.2.1 30 = .ok (.aload_n 0, 1) := by decide +kernel
theorem d_P_init_31 : decode m_P_init.2.2.1 31 = .ok (.new 25, 3) := by decide +kernel
theorem d_P_init_34 : decode m_P_init.2.2.1 34 = .ok (.dup, 1) := by decide +kernel
theorem d_P_init_35 : decode m_P_init.2.2.1 35 = .ok (.aload_n 0, 1) := by decide +kernel
theorem d_P_init_36 : decode m_P_init.2.2.1 36 = .ok (.getfield 10, 3) := by decide +kernel
theorem d_P_init_39 : decode m_P_init.2.2.1 39 = .ok (.invokespecial 27, 3) := by decide +kernel
theorem d_P_init_42 : decode m_P_init.2.2.1 42 = .ok (.putfield 28, 3) := by decide +kernel
theorem d_P_init_45 : decode m_P_init.2.2.1 45 = .ok (.aload_n 0, 1) := by decide +kernel
theorem d_P_init_46 : decode m_P_init.2.2.1 46 = .ok (.new 32, 3) := by decide +kernel
theorem d_P_init_49 : decode m_P_init.2.2.1 49 = .ok (.dup, 1) := by decide +kernel
theorem d_P_init_50 : decode m_P_init.2.2.1 50 = .ok (.invokespecial 34, 3) := by decide +kernel
theorem d_P_init_53 : decode m_P_init.2.2.1 53 = .ok (.putfield 35, 3) := by decide +kernel
theorem d_P_init_56 : decode m_P_init.2.2.1 56 = .ok (.aload_n 0, 1) := by decide +kernel
theorem d_P_init_57 : decode m_P_init.2.2.1 57 = .ok (.new 39, 3) := by decide +kernel
theorem d_P_init_60 : decode m_P_init.2.2.1 60 = .ok (.dup, 1) := by decide +kernel
theorem d_P_init_61 : decode m_P_init.2.2.1 61 = .ok (.aload_n 0, 1) := by decide +kernel
theorem d_P_init_62 : decode m_P_init.2.2.1 62 = .ok (.getfield 10, 3) := by decide +kernel
theorem d_P_init_65 : decode m_P_init.2.2.1 65 = .ok (.aload_n 0, 1) := by decide +kernel
theorem d_P_init_66 : decode m_P_init.2.2.1 66 = .ok (.getfield 21, 3) := by decide +kernel
theorem d_P_init_69 : decode m_P_init.2.2.1 69 = .ok (.aload_n 0, 1) := by decide +kernel
theorem d_P_init_70 : decode m_P_init.2.2.1 70 = .ok (.getfield 28, 3) := by decide +kernel
theorem d_P_init_73 : decode m_P_init.2.2.1 73 = .ok (.invokespecial 41, 3) := by decide +kernel
theorem d_P_init_76 : decode m_P_init.2.2.1 76 = .ok (.putfield 44, 3) := by decide +kernel
theorem d_P_init_79 : decode m_P_init.2.2.1 79 = .ok (.aload_n 0, 1) := by decide +kernel
theorem d_P_init_80 : decode m_P_init.2.2.1 80 = .ok (.new 48, 3) := by decide +kernel
theorem d_P_init_83 : decode m_P_init.2.2.1 83 = .ok (.dup, 1) := by decide +kernel
theorem d_P_init_84 : decode m_P_init.2.2.1 84 = .ok (.aload_n 0, 1) := by decide +kernel
theorem d_P_init_85 : decode m_P_init.2.2.1 85 = .ok (.getfield 10, 3) := by decide +kernel
theorem d_P_init_88 : decode m_P_init.2.2.1 88 = .ok (.aload_n 0, 1) := by decide +kernel
theorem d_P_init_89 : decode m_P_init.2.2.1 89 = .ok (.getfield 21, 3) := by decide +kernel
theorem d_P_init_92 : decode m_P_init.2.2.1 92 = .ok (.aload_n 0, 1) := by decide +kernel
theorem d_P_init_93 : decode m_P_init.2.2.1 93 = .ok (.getfield 35, 3) := by decide +kernel
theorem d_P_init_96 : decode m_P_init.2.2.1 96 = .ok (.invokespecial 50, 3) := by decide +kernel
theorem d_P_init_99 : decode m_P_init.2.2.1 99 = .ok (.putfield 53, 3) := by decide +kernel
theorem d_P_init_102 : decode m_P_init.2.2.1 102 = .ok (.aload_n 0, 1) := by decide +kernel
theorem d_P_init_103 : decode m_P_init.2.2.1 103 = .ok (.iconst 0, 1) := by decide +kernel
theorem d_P_init_104 : decode m_P_init.2.2.1 104 = .ok (.putfield 57, 3) := by decide +kernel
theorem d_P_init_107 : decode m_P_init.2.2.1 107 = .ok (.aload_n 0, 1) := by decide +kernel
theorem d_P_init_108 : decode m_P_init.2.2.1 108 = .ok (.iconst 0, 1) := by decide +kernel
theorem d_P_init_109 : decode m_P_init.2.2.1 109 = .ok (.putfield 61, 3) := by decide +kernel
theorem d_P_init_112 : decode m_P_init.2.2.1 112 = .ok (.return_, 1) := by decide +kernel
theorem d_P_term_0 : decode m_P_term.2.2.1 0 = .ok (.iload_n 1, 1) := by decide +kernel
theorem d_P_term_1 : decode m_P_term.2.2.1 1 = .ok (.invokestatic 64, 3) := by decide +kernel
theorem d_P_term_4 : decode m_P_term.2.2.1 4 = .ok (.ifCond .eq (25), 3) := by decide +kernel
theorem d_P_term_7 : decode m_P_term.2.2.1 7 = .ok (.iload_n 2, 1) := by decide +kernel
theorem d_P_term_8 : decode m_P_term.2.2.1 8 = .ok (.invokestatic 68, 3) := by decide +kernel
theorem d_P_term_11 : decode m_P_term.2.2.1 11 = .ok (.ifCond .eq (18), 3) := by decide +kernel
theorem d_P_term_14 : decode m_P_term.2.2.1 14 = .ok (.iload_n 3, 1) := by decide +kernel
theorem d_P_term_15 : decode m_P_term.2.2.1 15 = .ok (.invokestatic 73, 3) := by decide +kernel
theorem d_P_term_18 : decode m_P_term.2.2.1 18 = .ok (.ifCond .eq (11), 3) := by decide +kernel
theorem d_P_term_21 : decode m_P_term.2.2.1 21 = .ok (.iload 4, 2) := by decide +kernel
theorem d_P_term_23 : decode m_P_term.2.2.1 23 = .ok (.invokestatic 73, 3) := by decide +kernel
theorem d_P_term_26 : decode m_P_term.2.2.1 26 = .ok (.ifCond .ne (5), 3) := by decide +kernel
theorem d_P_term_29 : decode m_P_term.2.2.1 29 = .ok (.iconst (-1), 1) := by decide +kernel
theorem d_P_term_30 : decode m_P_term.2.2.1 30 = .ok (.ireturn, 1) := by decide +kernel
theorem d_P_term_31 : decode m_P_term.2.2.1 31 = .ok (.aload_n 0, 1) := by decide +kernel
theorem d_P_term_32 : decode m_P_term.2.2.1 32 = .ok (.getfield 21, 3) := by decide +kernel
theorem d_P_term_35 : decode m_P_term.2.2.1 35 = .ok (.iload_n 1, 1) := by decide +kernel
theorem d_P_term_36 : decode m_P_term.2.2.1 36 = .ok (.iload_n 2, 1) := by decide +kernel
theorem d_P_term_37 : decode m_P_term.2.2.1 37 = .ok (.iload_n 3, 1) := by decide +kernel
theorem d_P_term_38 : decode m_P_term.2.2.1 38 = .ok (.iload 4, 2) := by decide +kernel
theorem d_P_term_40 : decode m_P_term.2.2.1 40 = .ok (.invokevirtual 76, 3) := by decide +kernel
theorem d_P_term_43 : decode m_P_term.2.2.1 43 = .ok (.ireturn, 1) := by decide +kernel
theorem d_P_bound_0 : decode m_P_bound.2.2.1 0 = .ok (.iload_n 1, 1) := by decide +kernel
theorem d_P_bound_1 : decode m_P_bound.2.2.1 1 = .ok (.iload_n 2, 1) := by decide +kernel
theorem d_P_bound_2 : decode m_P_bound.2.2.1 2 = .ok (.invokestatic 80, 3) := by decide +kernel
theorem d_P_bound_5 : decode m_P_bound.2.2.1 5 = .ok (.ifCond .eq (10), 3) := by decide +kernel
theorem d_P_bound_8 : decode m_P_bound.2.2.1 8 = .ok (.iload_n 3, 1) := by decide +kernel
theorem d_P_bound_9 : decode m_P_bound.2.2.1 9 = .ok (.invokestatic 68, 3) := by decide +kernel
theorem d_P_bound_12 : decode m_P_bound.2.2.1 12 = .ok (.ifCond .ne (5), 3) := by decide +kernel
theorem d_P_bound_15 : decode m_P_bound.2.2.1 15 = .ok (.iconst (-1), 1) := by decide +kernel
theorem d_P_bound_16 : decode m_P_bound.2.2.1 16 = .ok (.ireturn, 1) := by decide +kernel
theorem d_P_bound_17 : decode m_P_bound.2.2.1 17 = .ok (.aload_n 0, 1) := by decide +kernel
theorem d_P_bound_18 : decode m_P_bound.2.2.1 18 = .ok (.getfield 21, 3) := by decide +kernel
theorem d_P_bound_21 : decode m_P_bound.2.2.1 21 = .ok (.iload_n 1, 1) := by decide +kernel
theorem d_P_bound_22 : decode m_P_bound.2.2.1 22 = .ok (.iload_n 2, 1) := by decide +kernel
theorem d_P_bound_23 : decode m_P_bound.2.2.1 23 = .ok (.iload_n 3, 1) := by decide +kernel
theorem d_P_bound_24 : decode m_P_bound.2.2.1 24 = .ok (.invokevirtual 84, 3) := by decide +kernel
theorem d_P_bound_27 : decode m_P_bound.2.2.1 27 = .ok (.ireturn, 1) := by decide +kernel
theorem d_P_clear_0 : decode m_P_clear.2.2.1 0 = .ok (.aload_n 0, 1) := by decide +kernel
theorem d_P_clear_1 : decode m_P_clear.2.2.1 1 = .ok (.getfield 21, 3) := by decide +kernel
theorem d_P_clear_4 : decode m_P_clear.2.2.1 4 = .ok (.invokevirtual 88, 3) := by decide +kernel
theorem d_P_clear_7 : decode m_P_clear.2.2.1 7 = .ok (.return_, 1) := by decide +kernel
theorem d_P_set_0 : decode m_P_set.2.2.1 0 = .ok (.iload_n 1, 1) := by decide +kernel
theorem d_P_set_1 : decode m_P_set.2.2.1 1 = .ok (.iload_n 2, 1) := by decide +kernel
theorem d_P_set_2 : decode m_P_set.2.2.1 2 = .ok (.invokestatic 80, 3) := by decide +kernel
theorem d_P_set_5 : decode m_P_set.2.2.1 5 = .ok (.ifCond .eq (10), 3) := by decide +kernel
theorem d_P_set_8 : decode m_P_set.2.2.1 8 = .ok (.iload_n 3, 1) := by decide +kernel
theorem d_P_set_9 : decode m_P_set.2.2.1 9 = .ok (.invokestatic 68, 3) := by decide +kernel
theorem d_P_set_12 : decode m_P_set.2.2.1 12 = .ok (.ifCond .ne (5), 3) := by decide +kernel
theorem d_P_set_15 : decode m_P_set.2.2.1 15 = .ok (.iconst 0, 1) := by decide +kernel
theorem d_P_set_16 : decode m_P_set.2.2.1 16 = .ok (.ireturn, 1) := by decide +kernel
theorem d_P_set_17 : decode m_P_set.2.2.1 17 = .ok (.aload_n 0, 1) := by decide +kernel
theorem d_P_set_18 : decode m_P_set.2.2.1 18 = .ok (.getfield 28, 3) := by decide +kernel
theorem d_P_set_21 : decode m_P_set.2.2.1 21 = .ok (.iload_n 1, 1) := by decide +kernel
theorem d_P_set_22 : decode m_P_set.2.2.1 22 = .ok (.iload_n 2, 1) := by decide +kernel
theorem d_P_set_23 : decode m_P_set.2.2.1 23 = .ok (.iload_n 3, 1) := by decide +kernel
theorem d_P_set_24 : decode m_P_set.2.2.1 24 = .ok (.invokevirtual 91, 3) := by decide +kernel
theorem d_P_set_27 : decode m_P_set.2.2.1 27 = .ok (.iconst 1, 1) := by decide +kernel
theorem d_P_set_28 : decode m_P_set.2.2.1 28 = .ok (.ireturn, 1) := by decide +kernel
theorem d_P_cell_0 : decode m_P_cell.2.2.1 0 = .ok (.iload_n 1, 1) := by decide +kernel
theorem d_P_cell_1 : decode m_P_cell.2.2.1 1 = .ok (.iload_n 2, 1) := by decide +kernel
theorem d_P_cell_2 : decode m_P_cell.2.2.1 2 = .ok (.invokestatic 80, 3) := by decide +kernel
theorem d_P_cell_5 : decode m_P_cell.2.2.1 5 = .ok (.ifCond .eq (15), 3) := by decide +kernel
theorem d_P_cell_8 : decode m_P_cell.2.2.1 8 = .ok (.aload_n 0, 1) := by decide +kernel
theorem d_P_cell_9 : decode m_P_cell.2.2.1 9 = .ok (.getfield 28, 3) := by decide +kernel
theorem d_P_cell_12 : decode m_P_cell.2.2.1 12 = .ok (.iload_n 1, 1) := by decide +kernel
theorem d_P_cell_13 : decode m_P_cell.2.2.1 13 = .ok (.iload_n 2, 1) := by decide +kernel
theorem d_P_cell_14 : decode m_P_cell.2.2.1 14 = .ok (.invokevirtual 95, 3) := by decide +kernel
theorem d_P_cell_17 : decode m_P_cell.2.2.1 17 = .ok (.goto (4), 3) := by decide +kernel
theorem d_P_cell_20 : decode m_P_cell.2.2.1 20 = .ok (.iconst (-1), 1) := by decide +kernel
theorem d_P_cell_21 : decode m_P_cell.2.2.1 21 = .ok (.ireturn, 1) := by decide +kernel
theorem d_P_at_0 : decode m_P_at.2.2.1 0 = .ok (.iload_n 1, 1) := by decide +kernel
theorem d_P_at_1 : decode m_P_at.2.2.1 1 = .ok (.invokestatic 64, 3) := by decide +kernel
theorem d_P_at_4 : decode m_P_at.2.2.1 4 = .ok (.ifCond .eq (13), 3) := by decide +kernel
theorem d_P_at_7 : decode m_P_at.2.2.1 7 = .ok (.iload_n 2, 1) := by decide +kernel
theorem d_P_at_8 : decode m_P_at.2.2.1 8 = .ok (.ifCond .lt (9), 3) := by decide +kernel
theorem d_P_at_11 : decode m_P_at.2.2.1 11 = .ok (.iload_n 2, 1) := by decide +kernel
theorem d_P_at_12 : decode m_P_at.2.2.1 12 = .ok (.bipush (32), 2) := by decide +kernel
theorem d_P_at_14 : decode m_P_at.2.2.1 14 = .ok (.if_icmp .lt (5), 3) := by decide +kernel
theorem d_P_at_17 : decode m_P_at.2.2.1 17 = .ok (.iconst (-1), 1) := by decide +kernel
theorem d_P_at_18 : decode m_P_at.2.2.1 18 = .ok (.ireturn, 1) := by decide +kernel
theorem d_P_at_19 : decode m_P_at.2.2.1 19 = .ok (.aload_n 0, 1) := by decide +kernel
theorem d_P_at_20 : decode m_P_at.2.2.1 20 = .ok (.getfield 28, 3) := by decide +kernel
theorem d_P_at_23 : decode m_P_at.2.2.1 23 = .ok (.iload_n 1, 1) := by decide +kernel
theorem d_P_at_24 : decode m_P_at.2.2.1 24 = .ok (.iload_n 2, 1) := by decide +kernel
theorem d_P_at_25 : decode m_P_at.2.2.1 25 = .ok (.invokevirtual 99, 3) := by decide +kernel
theorem d_P_at_28 : decode m_P_at.2.2.1 28 = .ok (.ireturn, 1) := by decide +kernel
theorem d_P_wrong_0 : decode m_P_wrong.2.2.1 0 = .ok (.iconst 0, 1) := by decide +kernel
theorem d_P_wrong_1 : decode m_P_wrong.2.2.1 1 = .ok (.istore_n 1, 1) := by decide +kernel
theorem d_P_wrong_2 : decode m_P_wrong.2.2.1 2 = .ok (.iload_n 1, 1) := by decide +kernel
theorem d_P_wrong_3 : decode m_P_wrong.2.2.1 3 = .ok (.bipush (8), 2) := by decide +kernel
theorem d_P_wrong_5 : decode m_P_wrong.2.2.1 5 = .ok (.if_icmp .ge (26), 3) := by decide +kernel
theorem d_P_wrong_8 : decode m_P_wrong.2.2.1 8 = .ok (.aload_n 0, 1) := by decide +kernel
theorem d_P_wrong_9 : decode m_P_wrong.2.2.1 9 = .ok (.getfield 21, 3) := by decide +kernel
theorem d_P_wrong_12 : decode m_P_wrong.2.2.1 12 = .ok (.aload_n 0, 1) := by decide +kernel
theorem d_P_wrong_13 : decode m_P_wrong.2.2.1 13 = .ok (.getfield 28, 3) := by decide +kernel
theorem d_P_wrong_16 : decode m_P_wrong.2.2.1 16 = .ok (.iload_n 1, 1) := by decide +kernel
theorem d_P_wrong_17 : decode m_P_wrong.2.2.1 17 = .ok (.invokevirtual 102, 3) := by decide +kernel
theorem d_P_wrong_20 : decode m_P_wrong.2.2.1 20 = .ok (.ifCond .eq (5), 3) := by decide +kernel
theorem d_P_wrong_23 : decode m_P_wrong.2.2.1 23 = .ok (.iload_n 1, 1) := by decide +kernel
theorem d_P_wrong_24 : decode m_P_wrong.2.2.1 24 = .ok (.ireturn, 1) := by decide +kernel
theorem d_P_wrong_25 : decode m_P_wrong.2.2.1 25 = .ok (.iinc 1 (1), 3) := by decide +kernel
theorem d_P_wrong_28 : decode m_P_wrong.2.2.1 28 = .ok (.goto (-26), 3) := by decide +kernel
theorem d_P_wrong_31 : decode m_P_wrong.2.2.1 31 = .ok (.bipush (-2), 2) := by decide +kernel
theorem d_P_wrong_33 : decode m_P_wrong.2.2.1 33 = .ok (.ireturn, 1) := by decide +kernel
theorem d_P_prove_0 : decode m_P_prove.2.2.1 0 = .ok (.aload_n 0, 1) := by decide +kernel
theorem d_P_prove_1 : decode m_P_prove.2.2.1 1 = .ok (.getfield 21, 3) := by decide +kernel
theorem d_P_prove_4 : decode m_P_prove.2.2.1 4 = .ok (.invokevirtual 106, 3) := by decide +kernel
theorem d_P_prove_7 : decode m_P_prove.2.2.1 7 = .ok (.ifCond .eq (5), 3) := by decide +kernel
theorem d_P_prove_10 : decode m_P_prove.2.2.1 10 = .ok (.iconst (-1), 1) := by decide +kernel
theorem d_P_prove_11 : decode m_P_prove.2.2.1 11 = .ok (.ireturn, 1) := by decide +kernel
theorem d_P_prove_12 : decode m_P_prove.2.2.1 12 = .ok (.aload_n 0, 1) := by decide +kernel
theorem d_P_prove_13 : decode m_P_prove.2.2.1 13 = .ok (.invokevirtual 110, 3) := by decide +kernel
theorem d_P_prove_16 : decode m_P_prove.2.2.1 16 = .ok (.istore_n 1, 1) := by decide +kernel
theorem d_P_prove_17 : decode m_P_prove.2.2.1 17 = .ok (.iload_n 1, 1) := by decide +kernel
theorem d_P_prove_18 : decode m_P_prove.2.2.1 18 = .ok (.bipush (-2), 2) := by decide +kernel
theorem d_P_prove_20 : decode m_P_prove.2.2.1 20 = .ok (.if_icmp .eq (8), 3) := by decide +kernel
theorem d_P_prove_23 : decode m_P_prove.2.2.1 23 = .ok (.bipush (-10), 2) := by decide +kernel
theorem d_P_prove_25 : decode m_P_prove.2.2.1 25 = .ok (.iload_n 1, 1) := by decide +kernel
theorem d_P_prove_26 : decode m_P_prove.2.2.1 26 = .ok (.isub, 1) := by decide +kernel
theorem d_P_prove_27 : decode m_P_prove.2.2.1 27 = .ok (.ireturn, 1) := by decide +kernel
theorem d_P_prove_28 : decode m_P_prove.2.2.1 28 = .ok (.aload_n 0, 1) := by decide +kernel
theorem d_P_prove_29 : decode m_P_prove.2.2.1 29 = .ok (.getfield 44, 3) := by decide +kernel
theorem d_P_prove_32 : decode m_P_prove.2.2.1 32 = .ok (.aload_n 0, 1) := by decide +kernel
theorem d_P_prove_33 : decode m_P_prove.2.2.1 33 = .ok (.getfield 35, 3) := by decide +kernel
theorem d_P_prove_36 : decode m_P_prove.2.2.1 36 = .ok (.invokevirtual 114, 3) := by decide +kernel
theorem d_P_prove_39 : decode m_P_prove.2.2.1 39 = .ok (.aload_n 0, 1) := by decide +kernel
theorem d_P_prove_40 : decode m_P_prove.2.2.1 40 = .ok (.iconst 1, 1) := by decide +kernel
theorem d_P_prove_41 : decode m_P_prove.2.2.1 41 = .ok (.putfield 57, 3) := by decide +kernel
theorem d_P_prove_44 : decode m_P_prove.2.2.1 44 = .ok (.iconst 0, 1) := by decide +kernel
theorem d_P_prove_45 : decode m_P_prove.2.2.1 45 = .ok (.ireturn, 1) := by decide +kernel
theorem d_P_proof_0 : decode m_P_proof.2.2.1 0 = .ok (.aload_n 0, 1) := by decide +kernel
theorem d_P_proof_1 : decode m_P_proof.2.2.1 1 = .ok (.iload_n 1, 1) := by decide +kernel
theorem d_P_proof_2 : decode m_P_proof.2.2.1 2 = .ok (.invokevirtual 118, 3) := by decide +kernel
theorem d_P_proof_5 : decode m_P_proof.2.2.1 5 = .ok (.ifCond .eq (15), 3) := by decide +kernel
theorem d_P_proof_8 : decode m_P_proof.2.2.1 8 = .ok (.aload_n 0, 1) := by decide +kernel
theorem d_P_proof_9 : decode m_P_proof.2.2.1 9 = .ok (.getfield 35, 3) := by decide +kernel
theorem d_P_proof_12 : decode m_P_proof.2.2.1 12 = .ok (.getfield 121, 3) := by decide +kernel
theorem d_P_proof_15 : decode m_P_proof.2.2.1 15 = .ok (.iload_n 1, 1) := by decide +kernel
theorem d_P_proof_16 : decode m_P_proof.2.2.1 16 = .ok (.iaload, 1) := by decide +kernel
theorem d_P_proof_17 : decode m_P_proof.2.2.1 17 = .ok (.goto (4), 3) := by decide +kernel
theorem d_P_proof_20 : decode m_P_proof.2.2.1 20 = .ok (.iconst 0, 1) := by decide +kernel
theorem d_P_proof_21 : decode m_P_proof.2.2.1 21 = .ok (.ireturn, 1) := by decide +kernel
theorem d_P_alter_0 : decode m_P_alter.2.2.1 0 = .ok (.aload_n 0, 1) := by decide +kernel
theorem d_P_alter_1 : decode m_P_alter.2.2.1 1 = .ok (.iload_n 1, 1) := by decide +kernel
theorem d_P_alter_2 : decode m_P_alter.2.2.1 2 = .ok (.invokevirtual 118, 3) := by decide +kernel
theorem d_P_alter_5 : decode m_P_alter.2.2.1 5 = .ok (.ifCond .ne (5), 3) := by decide +kernel
theorem d_P_alter_8 : decode m_P_alter.2.2.1 8 = .ok (.iconst 0, 1) := by decide +kernel
theorem d_P_alter_9 : decode m_P_alter.2.2.1 9 = .ok (.ireturn, 1) := by decide +kernel
theorem d_P_alter_10 : decode m_P_alter.2.2.1 10 = .ok (.aload_n 0, 1) := by decide +kernel
theorem d_P_alter_11 : decode m_P_alter.2.2.1 11 = .ok (.getfield 35, 3) := by decide +kernel
theorem d_P_alter_14 : decode m_P_alter.2.2.1 14 = .ok (.getfield 121, 3) := by decide +kernel
theorem d_P_alter_17 : decode m_P_alter.2.2.1 17 = .ok (.iload_n 1, 1) := by decide +kernel
theorem d_P_alter_18 : decode m_P_alter.2.2.1 18 = .ok (.iload_n 2, 1) := by decide +kernel
theorem d_P_alter_19 : decode m_P_alter.2.2.1 19 = .ok (.iastore, 1) := by decide +kernel
theorem d_P_alter_20 : decode m_P_alter.2.2.1 20 = .ok (.iconst 1, 1) := by decide +kernel
theorem d_P_alter_21 : decode m_P_alter.2.2.1 21 = .ok (.ireturn, 1) := by decide +kernel
theorem d_P_verify_0 : decode m_P_verify.2.2.1 0 = .ok (.aload_n 0, 1) := by decide +kernel
theorem d_P_verify_1 : decode m_P_verify.2.2.1 1 = .ok (.iconst 0, 1) := by decide +kernel
theorem d_P_verify_2 : decode m_P_verify.2.2.1 2 = .ok (.putfield 61, 3) := by decide +kernel
theorem d_P_verify_5 : decode m_P_verify.2.2.1 5 = .ok (.aload_n 0, 1) := by decide +kernel
theorem d_P_verify_6 : decode m_P_verify.2.2.1 6 = .ok (.getfield 57, 3) := by decide +kernel
theorem d_P_verify_9 : decode m_P_verify.2.2.1 9 = .ok (.ifCond .ne (6), 3) := by decide +kernel
theorem d_P_verify_12 : decode m_P_verify.2.2.1 12 = .ok (.bipush (-2), 2) := by decide +kernel
theorem d_P_verify_14 : decode m_P_verify.2.2.1 14 = .ok (.ireturn, 1) := by decide +kernel
theorem d_P_verify_15 : decode m_P_verify.2.2.1 15 = .ok (.aload_n 0, 1) := by decide +kernel
theorem d_P_verify_16 : decode m_P_verify.2.2.1 16 = .ok (.getfield 21, 3) := by decide +kernel
theorem d_P_verify_19 : decode m_P_verify.2.2.1 19 = .ok (.invokevirtual 106, 3) := by decide +kernel
theorem d_P_verify_22 : decode m_P_verify.2.2.1 22 = .ok (.ifCond .eq (5), 3) := by decide +kernel
theorem d_P_verify_25 : decode m_P_verify.2.2.1 25 = .ok (.iconst (-1), 1) := by decide +kernel
theorem d_P_verify_26 : decode m_P_verify.2.2.1 26 = .ok (.ireturn, 1) := by decide +kernel
theorem d_P_verify_27 : decode m_P_verify.2.2.1 27 = .ok (.aload_n 0, 1) := by decide +kernel
theorem d_P_verify_28 : decode m_P_verify.2.2.1 28 = .ok (.getfield 53, 3) := by decide +kernel
theorem d_P_verify_31 : decode m_P_verify.2.2.1 31 = .ok (.invokevirtual 125, 3) := by decide +kernel
theorem d_P_verify_34 : decode m_P_verify.2.2.1 34 = .ok (.istore_n 1, 1) := by decide +kernel
theorem d_P_verify_35 : decode m_P_verify.2.2.1 35 = .ok (.aload_n 0, 1) := by decide +kernel
theorem d_P_verify_36 : decode m_P_verify.2.2.1 36 = .ok (.iload_n 1, 1) := by decide +kernel
theorem d_P_verify_37 : decode m_P_verify.2.2.1 37 = .ok (.iconst 1, 1) := by decide +kernel
theorem d_P_verify_38 : decode m_P_verify.2.2.1 38 = .ok (.if_icmp .eq (7), 3) := by decide +kernel
theorem d_P_verify_41 : decode m_P_verify.2.2.1 41 = .ok (.iconst 1, 1) := by decide +kernel
theorem d_P_verify_42 : decode m_P_verify.2.2.1 42 = .ok (.goto (4), 3) := by decide +kernel
theorem d_P_verify_45 : decode m_P_verify.2.2.1 45 = .ok (.iconst 0, 1) := by decide +kernel
theorem d_P_verify_46 : decode m_P_verify.2.2.1 46 = .ok (.putfield 61, 3) := by decide +kernel
theorem d_P_verify_49 : decode m_P_verify.2.2.1 49 = .ok (.iload_n 1, 1) := by decide +kernel
theorem d_P_verify_50 : decode m_P_verify.2.2.1 50 = .ok (.ireturn, 1) := by decide +kernel
theorem d_P_position_0 : decode m_P_position.2.2.1 0 = .ok (.aload_n 0, 1) := by decide +kernel
theorem d_P_position_1 : decode m_P_position.2.2.1 1 = .ok (.getfield 61, 3) := by decide +kernel
theorem d_P_position_4 : decode m_P_position.2.2.1 4 = .ok (.ifCond .eq (12), 3) := by decide +kernel
theorem d_P_position_7 : decode m_P_position.2.2.1 7 = .ok (.iload_n 1, 1) := by decide +kernel
theorem d_P_position_8 : decode m_P_position.2.2.1 8 = .ok (.ifCond .lt (8), 3) := by decide +kernel
theorem d_P_position_11 : decode m_P_position.2.2.1 11 = .ok (.iload_n 1, 1) := by decide +kernel
theorem d_P_position_12 : decode m_P_position.2.2.1 12 = .ok (.iconst 3, 1) := by decide +kernel
theorem d_P_position_13 : decode m_P_position.2.2.1 13 = .ok (.if_icmp .lt (6), 3) := by decide +kernel
theorem d_P_position_16 : decode m_P_position.2.2.1 16 = .ok (.bipush (-2), 2) := by decide +kernel
theorem d_P_position_18 : decode m_P_position.2.2.1 18 = .ok (.ireturn, 1) := by decide +kernel
theorem d_P_position_19 : decode m_P_position.2.2.1 19 = .ok (.aload_n 0, 1) := by decide +kernel
theorem d_P_position_20 : decode m_P_position.2.2.1 20 = .ok (.getfield 53, 3) := by decide +kernel
theorem d_P_position_23 : decode m_P_position.2.2.1 23 = .ok (.iload_n 1, 1) := by decide +kernel
theorem d_P_position_24 : decode m_P_position.2.2.1 24 = .ok (.invokevirtual 128, 3) := by decide +kernel
theorem d_P_position_27 : decode m_P_position.2.2.1 27 = .ok (.ireturn, 1) := by decide +kernel
theorem d_P_isInProof_0 : decode m_P_isInProof.2.2.1 0 = .ok (.aload_n 0, 1) := by decide +kernel
theorem d_P_isInProof_1 : decode m_P_isInProof.2.2.1 1 = .ok (.getfield 57, 3) := by decide +kernel
theorem d_P_isInProof_4 : decode m_P_isInProof.2.2.1 4 = .ok (.ifCond .eq (18), 3) := by decide +kernel
theorem d_P_isInProof_7 : decode m_P_isInProof.2.2.1 7 = .ok (.iload_n 1, 1) := by decide +kernel
theorem d_P_isInProof_8 : decode m_P_isInProof.2.2.1 8 = .ok (.ifCond .lt (14), 3) := by decide +kernel
theorem d_P_isInProof_11 : decode m_P_isInProof.2.2.1 11 = .ok (.iload_n 1, 1) := by decide +kernel
theorem d_P_isInProof_12 : decode m_P_isInProof.2.2.1 12 = .ok (.sipush (179), 3) := by decide +kernel
theorem d_P_isInProof_15 : decode m_P_isInProof.2.2.1 15 = .ok (.if_icmp .ge (7), 3) := by decide +kernel
theorem d_P_isInProof_18 : decode m_P_isInProof.2.2.1 18 = .ok (.iconst 1, 1) := by decide +kernel
theorem d_P_isInProof_19 : decode m_P_isInProof.2.2.1 19 = .ok (.goto (4), 3) := by decide +kernel
theorem d_P_isInProof_22 : decode m_P_isInProof.2.2.1 22 = .ok (.iconst 0, 1) := by decide +kernel
theorem d_P_isInProof_23 : decode m_P_isInProof.2.2.1 23 = .ok (.ireturn, 1) := by decide +kernel
theorem d_P_isColumn_0 : decode m_P_isColumn.2.2.1 0 = .ok (.iload_n 0, 1) := by decide +kernel
theorem d_P_isColumn_1 : decode m_P_isColumn.2.2.1 1 = .ok (.ifCond .lt (12), 3) := by decide +kernel
theorem d_P_isColumn_4 : decode m_P_isColumn.2.2.1 4 = .ok (.iload_n 0, 1) := by decide +kernel
theorem d_P_isColumn_5 : decode m_P_isColumn.2.2.1 5 = .ok (.iconst 2, 1) := by decide +kernel
theorem d_P_isColumn_6 : decode m_P_isColumn.2.2.1 6 = .ok (.if_icmp .ge (7), 3) := by decide +kernel
theorem d_P_isColumn_9 : decode m_P_isColumn.2.2.1 9 = .ok (.iconst 1, 1) := by decide +kernel
theorem d_P_isColumn_10 : decode m_P_isColumn.2.2.1 10 = .ok (.goto (4), 3) := by decide +kernel
theorem d_P_isColumn_13 : decode m_P_isColumn.2.2.1 13 = .ok (.iconst 0, 1) := by decide +kernel
theorem d_P_isColumn_14 : decode m_P_isColumn.2.2.1 14 = .ok (.ireturn, 1) := by decide +kernel
theorem d_P_isCell_0 : decode m_P_isCell.2.2.1 0 = .ok (.iload_n 0, 1) := by decide +kernel
theorem d_P_isCell_1 : decode m_P_isCell.2.2.1 1 = .ok (.invokestatic 64, 3) := by decide +kernel
theorem d_P_isCell_4 : decode m_P_isCell.2.2.1 4 = .ok (.ifCond .eq (17), 3) := by decide +kernel
theorem d_P_isCell_7 : decode m_P_isCell.2.2.1 7 = .ok (.iload_n 1, 1) := by decide +kernel
theorem d_P_isCell_8 : decode m_P_isCell.2.2.1 8 = .ok (.ifCond .lt (13), 3) := by decide +kernel
theorem d_P_isCell_11 : decode m_P_isCell.2.2.1 11 = .ok (.iload_n 1, 1) := by decide +kernel
theorem d_P_isCell_12 : decode m_P_isCell.2.2.1 12 = .ok (.bipush (8), 2) := by decide +kernel
theorem d_P_isCell_14 : decode m_P_isCell.2.2.1 14 = .ok (.if_icmp .ge (7), 3) := by decide +kernel
theorem d_P_isCell_17 : decode m_P_isCell.2.2.1 17 = .ok (.iconst 1, 1) := by decide +kernel
theorem d_P_isCell_18 : decode m_P_isCell.2.2.1 18 = .ok (.goto (4), 3) := by decide +kernel
theorem d_P_isCell_21 : decode m_P_isCell.2.2.1 21 = .ok (.iconst 0, 1) := by decide +kernel
theorem d_P_isCell_22 : decode m_P_isCell.2.2.1 22 = .ok (.ireturn, 1) := by decide +kernel
theorem d_P_isLetter_0 : decode m_P_isLetter.2.2.1 0 = .ok (.iload_n 0, 1) := by decide +kernel
theorem d_P_isLetter_1 : decode m_P_isLetter.2.2.1 1 = .ok (.ifCond .lt (12), 3) := by decide +kernel
theorem d_P_isLetter_4 : decode m_P_isLetter.2.2.1 4 = .ok (.iload_n 0, 1) := by decide +kernel
theorem d_P_isLetter_5 : decode m_P_isLetter.2.2.1 5 = .ok (.iconst 5, 1) := by decide +kernel
theorem d_P_isLetter_6 : decode m_P_isLetter.2.2.1 6 = .ok (.if_icmp .ge (7), 3) := by decide +kernel
theorem d_P_isLetter_9 : decode m_P_isLetter.2.2.1 9 = .ok (.iconst 1, 1) := by decide +kernel
theorem d_P_isLetter_10 : decode m_P_isLetter.2.2.1 10 = .ok (.goto (4), 3) := by decide +kernel
theorem d_P_isLetter_13 : decode m_P_isLetter.2.2.1 13 = .ok (.iconst 0, 1) := by decide +kernel
theorem d_P_isLetter_14 : decode m_P_isLetter.2.2.1 14 = .ok (.ireturn, 1) := by decide +kernel
theorem d_P_mix_0 : decode m_P_mix.2.2.1 0 = .ok (.ldc 132, 2) := by decide +kernel
theorem d_P_mix_2 : decode m_P_mix.2.2.1 2 = .ok (.iload_n 0, 1) := by decide +kernel
theorem d_P_mix_3 : decode m_P_mix.2.2.1 3 = .ok (.ixor, 1) := by decide +kernel
theorem d_P_mix_4 : decode m_P_mix.2.2.1 4 = .ok (.ldc 133, 2) := by decide +kernel
theorem d_P_mix_6 : decode m_P_mix.2.2.1 6 = .ok (.imul, 1) := by decide +kernel
theorem d_P_mix_7 : decode m_P_mix.2.2.1 7 = .ok (.istore_n 2, 1) := by decide +kernel
theorem d_P_mix_8 : decode m_P_mix.2.2.1 8 = .ok (.iload_n 2, 1) := by decide +kernel
theorem d_P_mix_9 : decode m_P_mix.2.2.1 9 = .ok (.iload_n 2, 1) := by decide +kernel
theorem d_P_mix_10 : decode m_P_mix.2.2.1 10 = .ok (.bipush (15), 2) := by decide +kernel
theorem d_P_mix_12 : decode m_P_mix.2.2.1 12 = .ok (.iushr, 1) := by decide +kernel
theorem d_P_mix_13 : decode m_P_mix.2.2.1 13 = .ok (.ixor, 1) := by decide +kernel
theorem d_P_mix_14 : decode m_P_mix.2.2.1 14 = .ok (.istore_n 2, 1) := by decide +kernel
theorem d_P_mix_15 : decode m_P_mix.2.2.1 15 = .ok (.iload_n 2, 1) := by decide +kernel
theorem d_P_mix_16 : decode m_P_mix.2.2.1 16 = .ok (.iload_n 1, 1) := by decide +kernel
theorem d_P_mix_17 : decode m_P_mix.2.2.1 17 = .ok (.ixor, 1) := by decide +kernel
theorem d_P_mix_18 : decode m_P_mix.2.2.1 18 = .ok (.ldc 133, 2) := by decide +kernel
theorem d_P_mix_20 : decode m_P_mix.2.2.1 20 = .ok (.imul, 1) := by decide +kernel
theorem d_P_mix_21 : decode m_P_mix.2.2.1 21 = .ok (.istore_n 2, 1) := by decide +kernel
theorem d_P_mix_22 : decode m_P_mix.2.2.1 22 = .ok (.iload_n 2, 1) := by decide +kernel
theorem d_P_mix_23 : decode m_P_mix.2.2.1 23 = .ok (.iload_n 2, 1) := by decide +kernel
theorem d_P_mix_24 : decode m_P_mix.2.2.1 24 = .ok (.bipush (15), 2) := by decide +kernel
theorem d_P_mix_26 : decode m_P_mix.2.2.1 26 = .ok (.iushr, 1) := by decide +kernel
theorem d_P_mix_27 : decode m_P_mix.2.2.1 27 = .ok (.ixor, 1) := by decide +kernel
theorem d_P_mix_28 : decode m_P_mix.2.2.1 28 = .ok (.ireturn, 1) := by decide +kernel
theorem d_Mo_init_0 : decode m_Mo_init.2.2.1 0 = .ok (.aload_n 0, 1) := by decide +kernel
theorem d_Mo_init_1 : decode m_Mo_init.2.2.1 1 = .ok (.invokespecial 1, 3) := by decide +kernel
theorem d_Mo_init_4 : decode m_Mo_init.2.2.1 4 = .ok (.aload_n 0, 1) := by decide +kernel
theorem d_Mo_init_5 : decode m_Mo_init.2.2.1 5 = .ok (.bipush (16), 2) := by decide +kernel
theorem d_Mo_init_7 : decode m_Mo_init.2.2.1 7 = .ok (.newarray .int, 2) := by decide +kernel
theorem d_Mo_init_9 : decode m_Mo_init.2.2.1 9 = .ok (.putfield 7, 3) := by decide +kernel
theorem d_Mo_init_12 : decode m_Mo_init.2.2.1 12 = .ok (.aload_n 0, 1) := by decide +kernel
theorem d_Mo_init_13 : decode m_Mo_init.2.2.1 13 = .ok (.iconst 2, 1) := by decide +kernel
theorem d_Mo_init_14 : decode m_Mo_init.2.2.1 14 = .ok (.newarray .int, 2) := by decide +kernel
theorem d_Mo_init_16 : decode m_Mo_init.2.2.1 16 = .ok (.putfield 13, 3) := by decide +kernel
theorem d_Mo_init_19 : decode m_Mo_init.2.2.1 19 = .ok (.aload_n 0, 1) := by decide +kernel
theorem d_Mo_init_20 : decode m_Mo_init.2.2.1 20 = .ok (.bipush (12), 2) := by decide +kernel
theorem d_Mo_init_22 : decode m_Mo_init.2.2.1 22 = .ok (.newarray .int, 2) := by decide +kernel
theorem d_Mo_init_24 : decode m_Mo_init.2.2.1 24 = .ok (.putfield 16, 3) := by decide +kernel
theorem d_Mo_init_27 : decode m_Mo_init.2.2.1 27 = .ok (.aload_n 0, 1) := by decide +kernel
theorem d_Mo_init_28 : decode m_Mo_init.2.2.1 28 = .ok (.bipush (12), 2) := by decide +kernel
theorem d_Mo_init_30 : decode m_Mo_init.2.2.1 30 = .ok (.newarray .int, 2) := by decide +kernel
theorem d_Mo_init_32 : decode m_Mo_init.2.2.1 32 = .ok (.putfield 19, 3) := by decide +kernel
theorem d_Mo_init_35 : decode m_Mo_init.2.2.1 35 = .ok (.aload_n 0, 1) := by decide +kernel
theorem d_Mo_init_36 : decode m_Mo_init.2.2.1 36 = .ok (.bipush (12), 2) := by decide +kernel
theorem d_Mo_init_38 : decode m_Mo_init.2.2.1 38 = .ok (.newarray .int, 2) := by decide +kernel
theorem d_Mo_init_40 : decode m_Mo_init.2.2.1 40 = .ok (.putfield 22, 3) := by decide +kernel
theorem d_Mo_init_43 : decode m_Mo_init.2.2.1 43 = .ok (.aload_n 0, 1) := by decide +kernel
theorem d_Mo_init_44 : decode m_Mo_init.2.2.1 44 = .ok (.iconst 4, 1) := by decide +kernel
theorem d_Mo_init_45 : decode m_Mo_init.2.2.1 45 = .ok (.newarray .int, 2) := by decide +kernel
theorem d_Mo_init_47 : decode m_Mo_init.2.2.1 47 = .ok (.putfield 25, 3) := by decide +kernel
theorem d_Mo_init_50 : decode m_Mo_init.2.2.1 50 = .ok (.aload_n 0, 1) := by decide +kernel
theorem d_Mo_init_51 : decode m_Mo_init.2.2.1 51 = .ok (.iconst 4, 1) := by decide +kernel
theorem d_Mo_init_52 : decode m_Mo_init.2.2.1 52 = .ok (.newarray .int, 2) := by decide +kernel
theorem d_Mo_init_54 : decode m_Mo_init.2.2.1 54 = .ok (.putfield 28, 3) := by decide +kernel
theorem d_Mo_init_57 : decode m_Mo_init.2.2.1 57 = .ok (.aload_n 0, 1) := by decide +kernel
theorem d_Mo_init_58 : decode m_Mo_init.2.2.1 58 = .ok (.iconst 4, 1) := by decide +kernel
theorem d_Mo_init_59 : decode m_Mo_init.2.2.1 59 = .ok (.newarray .int, 2) := by decide +kernel
theorem d_Mo_init_61 : decode m_Mo_init.2.2.1 61 = .ok (.putfield 31, 3) := by decide +kernel
theorem d_Mo_init_64 : decode m_Mo_init.2.2.1 64 = .ok (.aload_n 0, 1) := by decide +kernel
theorem d_Mo_init_65 : decode m_Mo_init.2.2.1 65 = .ok (.sipush (179), 3) := by decide +kernel
theorem d_Mo_init_68 : decode m_Mo_init.2.2.1 68 = .ok (.newarray .int, 2) := by decide +kernel
theorem d_Mo_init_70 : decode m_Mo_init.2.2.1 70 = .ok (.putfield 34, 3) := by decide +kernel
theorem d_Mo_init_73 : decode m_Mo_init.2.2.1 73 = .ok (.aload_n 0, 1) := by decide +kernel
theorem d_Mo_init_74 : decode m_Mo_init.2.2.1 74 = .ok (.iconst 3, 1) := by decide +kernel
theorem d_Mo_init_75 : decode m_Mo_init.2.2.1 75 = .ok (.newarray .int, 2) := by decide +kernel
theorem d_Mo_init_77 : decode m_Mo_init.2.2.1 77 = .ok (.putfield 37, 3) := by decide +kernel
theorem d_Mo_init_80 : decode m_Mo_init.2.2.1 80 = .ok (.aload_n 0, 1) := by decide +kernel
theorem d_Mo_init_81 : decode m_Mo_init.2.2.1 81 = .ok (.iconst 3, 1) := by decide +kernel
theorem d_Mo_init_82 : decode m_Mo_init.2.2.1 82 = .ok (.newarray .int, 2) := by decide +kernel
theorem d_Mo_init_84 : decode m_Mo_init.2.2.1 84 = .ok (.putfield 40, 3) := by decide +kernel
theorem d_Mo_init_87 : decode m_Mo_init.2.2.1 87 = .ok (.aload_n 0, 1) := by decide +kernel
theorem d_Mo_init_88 : decode m_Mo_init.2.2.1 88 = .ok (.iconst 3, 1) := by decide +kernel
theorem d_Mo_init_89 : decode m_Mo_init.2.2.1 89 = .ok (.newarray .int, 2) := by decide +kernel
theorem d_Mo_init_91 : decode m_Mo_init.2.2.1 91 = .ok (.putfield 43, 3) := by decide +kernel
theorem d_Mo_init_94 : decode m_Mo_init.2.2.1 94 = .ok (.aload_n 0, 1) := by decide +kernel
theorem d_Mo_init_95 : decode m_Mo_init.2.2.1 95 = .ok (.bipush (32), 2) := by decide +kernel
theorem d_Mo_init_97 : decode m_Mo_init.2.2.1 97 = .ok (.newarray .int, 2) := by decide +kernel
theorem d_Mo_init_99 : decode m_Mo_init.2.2.1 99 = .ok (.putfield 46, 3) := by decide +kernel
theorem d_Mo_init_102 : decode m_Mo_init.2.2.1 102 = .ok (.aload_n 0, 1) := by decide +kernel
theorem d_Mo_init_103 : decode m_Mo_init.2.2.1 103 = .ok (.bipush (64), 2) := by decide +kernel
theorem d_Mo_init_105 : decode m_Mo_init.2.2.1 105 = .ok (.newarray .int, 2) := by decide +kernel
theorem d_Mo_init_107 : decode m_Mo_init.2.2.1 107 = .ok (.putfield 49, 3) := by decide +kernel
theorem d_Mo_init_110 : decode m_Mo_init.2.2.1 110 = .ok (.aload_n 0, 1) := by decide +kernel
theorem d_Mo_init_111 : decode m_Mo_init.2.2.1 111 = .ok (.bipush (60), 2) := by decide +kernel
theorem d_Mo_init_113 : decode m_Mo_init.2.2.1 113 = .ok (.newarray .int, 2) := by decide +kernel
theorem d_Mo_init_115 : decode m_Mo_init.2.2.1 115 = .ok (.putfield 52, 3) := by decide +kernel
theorem d_Mo_init_118 : decode m_Mo_init.2.2.1 118 = .ok (.aload_n 0, 1) := by decide +kernel
theorem d_Mo_init_119 : decode m_Mo_init.2.2.1 119 = .ok (.sipush (176), 3) := by decide +kernel
theorem d_Mo_init_122 : decode m_Mo_init.2.2.1 122 = .ok (.newarray .int, 2) := by decide +kernel
theorem d_Mo_init_124 : decode m_Mo_init.2.2.1 124 = .ok (.putfield 55, 3) := by decide +kernel
theorem d_Mo_init_127 : decode m_Mo_init.2.2.1 127 = .ok (.aload_n 0, 1) := by decide +kernel
theorem d_Mo_init_128 : decode m_Mo_init.2.2.1 128 = .ok (.iconst 5, 1) := by decide +kernel
theorem d_Mo_init_129 : decode m_Mo_init.2.2.1 129 = .ok (.newarray .int, 2) := by decide +kernel
theorem d_Mo_init_131 : decode m_Mo_init.2.2.1 131 = .ok (.putfield 58, 3) := by decide +kernel
theorem d_Mo_init_134 : decode m_Mo_init.2.2.1 134 = .ok (.bipush (11), 2) := by decide +kernel
theorem d_Mo_init_136 : decode m_Mo_init.2.2.1 136 = .ok (.sipush (384), 3) := by decide +kernel
theorem d_Mo_init_139 : decode m_Mo_init.2.2.1 139 = .ok (.invokestatic 61, 3) := by decide +kernel
theorem d_Mo_init_142 : decode m_Mo_init.2.2.1 142 = .ok (.istore_n 1, 1) := by decide +kernel
theorem d_Mo_init_143 : decode m_Mo_init.2.2.1 143 = .ok (.aload_n 0, 1) := by decide +kernel
theorem d_Mo_init_144 : decode m_Mo_init.2.2.1 144 = .ok (.getfield 46, 3) := by decide +kernel
theorem d_Mo_init_147 : decode m_Mo_init.2.2.1 147 = .ok (.iconst 0, 1) := by decide +kernel
theorem d_Mo_init_148 : decode m_Mo_init.2.2.1 148 = .ok (.iconst 1, 1) := by decide +kernel
theorem d_Mo_init_149 : decode m_Mo_init.2.2.1 149 = .ok (.iastore, 1) := by decide +kernel
theorem d_Mo_init_150 : decode m_Mo_init.2.2.1 150 = .ok (.iconst 1, 1) := by decide +kernel
theorem d_Mo_init_151 : decode m_Mo_init.2.2.1 151 = .ok (.istore_n 2, 1) := by decide +kernel
theorem d_Mo_init_152 : decode m_Mo_init.2.2.1 152 = .ok (.iload_n 2, 1) := by decide +kernel
theorem d_Mo_init_153 : decode m_Mo_init.2.2.1 153 = .ok (.bipush (32), 2) := by decide +kernel
theorem d_Mo_init_155 : decode m_Mo_init.2.2.1 155 = .ok (.if_icmp .ge (27), 3) := by decide +kernel
theorem d_Mo_init_158 : decode m_Mo_init.2.2.1 158 = .ok (.aload_n 0, 1) := by decide +kernel
theorem d_Mo_init_159 : decode m_Mo_init.2.2.1 159 = .ok (.getfield 46, 3) := by decide +kernel
theorem d_Mo_init_162 : decode m_Mo_init.2.2.1 162 = .ok (.iload_n 2, 1) := by decide +kernel
theorem d_Mo_init_163 : decode m_Mo_init.2.2.1 163 = .ok (.aload_n 0, 1) := by decide +kernel
theorem d_Mo_init_164 : decode m_Mo_init.2.2.1 164 = .ok (.getfield 46, 3) := by decide +kernel
theorem d_Mo_init_167 : decode m_Mo_init.2.2.1 167 = .ok (.iload_n 2, 1) := by decide +kernel
theorem d_Mo_init_168 : decode m_Mo_init.2.2.1 168 = .ok (.iconst 1, 1) := by decide +kernel
theorem d_Mo_init_169 : decode m_Mo_init.2.2.1 169 = .ok (.isub, 1) := by decide +kernel
theorem d_Mo_init_170 : decode m_Mo_init.2.2.1 170 = .ok (.iaload, 1) := by decide +kernel
theorem d_Mo_init_171 : decode m_Mo_init.2.2.1 171 = .ok (.iload_n 1, 1) := by decide +kernel
theorem d_Mo_init_172 : decode m_Mo_init.2.2.1 172 = .ok (.invokestatic 65, 3) := by decide +kernel
theorem d_Mo_init_175 : decode m_Mo_init.2.2.1 175 = .ok (.iastore, 1) := by decide +kernel
theorem d_Mo_init_176 : decode m_Mo_init.2.2.1 176 = .ok (.iinc 2 (1), 3) := by decide +kernel
theorem d_Mo_init_179 : decode m_Mo_init.2.2.1 179 = .ok (.goto (-27), 3) := by decide +kernel
theorem d_Mo_init_182 : decode m_Mo_init.2.2.1 182 = .ok (.return_, 1) := by decide +kernel
theorem d_Mo_mod_0 : decode m_Mo_mod.2.2.1 0 = .ok (.iload_n 0, 1) := by decide +kernel
theorem d_Mo_mod_1 : decode m_Mo_mod.2.2.1 1 = .ok (.sipush (12289), 3) := by decide +kernel
theorem d_Mo_mod_4 : decode m_Mo_mod.2.2.1 4 = .ok (.irem, 1) := by decide +kernel
theorem d_Mo_mod_5 : decode m_Mo_mod.2.2.1 5 = .ok (.istore_n 1, 1) := by decide +kernel
theorem d_Mo_mod_6 : decode m_Mo_mod.2.2.1 6 = .ok (.iload_n 1, 1) := by decide +kernel
theorem d_Mo_mod_7 : decode m_Mo_mod.2.2.1 7 = .ok (.ifCond .ge (11), 3) := by decide +kernel
theorem d_Mo_mod_10 : decode m_Mo_mod.2.2.1 10 = .ok (.iload_n 1, 1) := by decide +kernel
theorem d_Mo_mod_11 : decode m_Mo_mod.2.2.1 11 = .ok (.sipush (12289), 3) := by decide +kernel
theorem d_Mo_mod_14 : decode m_Mo_mod.2.2.1 14 = .ok (.iadd, 1) := by decide +kernel
theorem d_Mo_mod_15 : decode m_Mo_mod.2.2.1 15 = .ok (.goto (4), 3) := by decide +kernel
theorem d_Mo_mod_18 : decode m_Mo_mod.2.2.1 18 = .ok (.iload_n 1, 1) := by decide +kernel
theorem d_Mo_mod_19 : decode m_Mo_mod.2.2.1 19 = .ok (.ireturn, 1) := by decide +kernel
theorem d_Mo_times_0 : decode m_Mo_times.2.2.1 0 = .ok (.iload_n 0, 1) := by decide +kernel
theorem d_Mo_times_1 : decode m_Mo_times.2.2.1 1 = .ok (.iload_n 1, 1) := by decide +kernel
theorem d_Mo_times_2 : decode m_Mo_times.2.2.1 2 = .ok (.imul, 1) := by decide +kernel
theorem d_Mo_times_3 : decode m_Mo_times.2.2.1 3 = .ok (.sipush (12289), 3) := by decide +kernel
theorem d_Mo_times_6 : decode m_Mo_times.2.2.1 6 = .ok (.irem, 1) := by decide +kernel
theorem d_Mo_times_7 : decode m_Mo_times.2.2.1 7 = .ok (.ireturn, 1) := by decide +kernel
theorem d_Mo_power_0 : decode m_Mo_power.2.2.1 0 = .ok (.iconst 1, 1) := by decide +kernel
theorem d_Mo_power_1 : decode m_Mo_power.2.2.1 1 = .ok (.istore_n 2, 1) := by decide +kernel
theorem d_Mo_power_2 : decode m_Mo_power.2.2.1 2 = .ok (.iconst 0, 1) := by decide +kernel
theorem d_Mo_power_3 : decode m_Mo_power.2.2.1 3 = .ok (.istore_n 3, 1) := by decide +kernel
theorem d_Mo_power_4 : decode m_Mo_power.2.2.1 4 = .ok (.iload_n 3, 1) := by decide +kernel
theorem d_Mo_power_5 : decode m_Mo_power.2.2.1 5 = .ok (.iload_n 1, 1) := by decide +kernel
theorem d_Mo_power_6 : decode m_Mo_power.2.2.1 6 = .ok (.if_icmp .ge (15), 3) := by decide +kernel
theorem d_Mo_power_9 : decode m_Mo_power.2.2.1 9 = .ok (.iload_n 2, 1) := by decide +kernel
theorem d_Mo_power_10 : decode m_Mo_power.2.2.1 10 = .ok (.iload_n 0, 1) := by decide +kernel
theorem d_Mo_power_11 : decode m_Mo_power.2.2.1 11 = .ok (.invokestatic 65, 3) := by decide +kernel
theorem d_Mo_power_14 : decode m_Mo_power.2.2.1 14 = .ok (.istore_n 2, 1) := by decide +kernel
theorem d_Mo_power_15 : decode m_Mo_power.2.2.1 15 = .ok (.iinc 3 (1), 3) := by decide +kernel
theorem d_Mo_power_18 : decode m_Mo_power.2.2.1 18 = .ok (.goto (-14), 3) := by decide +kernel
theorem d_Mo_power_21 : decode m_Mo_power.2.2.1 21 = .ok (.iload_n 2, 1) := by decide +kernel
theorem d_Mo_power_22 : decode m_Mo_power.2.2.1 22 = .ok (.ireturn, 1) := by decide +kernel
theorem d_Mo_inverse_0 : decode m_Mo_inverse.2.2.1 0 = .ok (.iconst 1, 1) := by decide +kernel
theorem d_Mo_inverse_1 : decode m_Mo_inverse.2.2.1 1 = .ok (.istore_n 1, 1) := by decide +kernel
theorem d_Mo_inverse_2 : decode m_Mo_inverse.2.2.1 2 = .ok (.iload_n 0, 1) := by decide +kernel
theorem d_Mo_inverse_3 : decode m_Mo_inverse.2.2.1 3 = .ok (.istore_n 2, 1) := by decide +kernel
theorem d_Mo_inverse_4 : decode m_Mo_inverse.2.2.1 4 = .ok (.sipush (12287), 3) := by decide +kernel
theorem d_Mo_inverse_7 : decode m_Mo_inverse.2.2.1 7 = .ok (.istore_n 3, 1) := by decide +kernel
theorem d_Mo_inverse_8 : decode m_Mo_inverse.2.2.1 8 = .ok (.iload_n 3, 1) := by decide +kernel
theorem d_Mo_inverse_9 : decode m_Mo_inverse.2.2.1 9 = .ok (.ifCond .le (29), 3) := by decide +kernel
theorem d_Mo_inverse_12 : decode m_Mo_inverse.2.2.1 12 = .ok (.iload_n 3, 1) := by decide +kernel
theorem d_Mo_inverse_13 : decode m_Mo_inverse.2.2.1 13 = .ok (.iconst 2, 1) := by decide +kernel
theorem d_Mo_inverse_14 : decode m_Mo_inverse.2.2.1 14 = .ok (.irem, 1) := by decide +kernel
theorem d_Mo_inverse_15 : decode m_Mo_inverse.2.2.1 15 = .ok (.iconst 1, 1) := by decide +kernel
theorem d_Mo_inverse_16 : decode m_Mo_inverse.2.2.1 16 = .ok (.if_icmp .ne (9), 3) := by decide +kernel
theorem d_Mo_inverse_19 : decode m_Mo_inverse.2.2.1 19 = .ok (.iload_n 1, 1) := by decide +kernel
theorem d_Mo_inverse_20 : decode m_Mo_inverse.2.2.1 20 = .ok (.iload_n 2, 1) := by decide +kernel
theorem d_Mo_inverse_21 : decode m_Mo_inverse.2.2.1 21 = .ok (.invokestatic 65, 3) := by decide +kernel
theorem d_Mo_inverse_24 : decode m_Mo_inverse.2.2.1 24 = .ok (.istore_n 1, 1) := by decide +kernel
theorem d_Mo_inverse_25 : decode m_Mo_inverse.2.2.1 25 = .ok (.iload_n 2, 1) := by decide +kernel
theorem d_Mo_inverse_26 : decode m_Mo_inverse.2.2.1 26 = .ok (.iload_n 2, 1) := by decide +kernel
theorem d_Mo_inverse_27 : decode m_Mo_inverse.2.2.1 27 = .ok (.invokestatic 65, 3) := by decide +kernel
theorem d_Mo_inverse_30 : decode m_Mo_inverse.2.2.1 30 = .ok (.istore_n 2, 1) := by decide +kernel
theorem d_Mo_inverse_31 : decode m_Mo_inverse.2.2.1 31 = .ok (.iload_n 3, 1) := by decide +kernel
theorem d_Mo_inverse_32 : decode m_Mo_inverse.2.2.1 32 = .ok (.iconst 2, 1) := by decide +kernel
theorem d_Mo_inverse_33 : decode m_Mo_inverse.2.2.1 33 = .ok (.idiv, 1) := by decide +kernel
theorem d_Mo_inverse_34 : decode m_Mo_inverse.2.2.1 34 = .ok (.istore_n 3, 1) := by decide +kernel
theorem d_Mo_inverse_35 : decode m_Mo_inverse.2.2.1 35 = .ok (.goto (-27), 3) := by decide +kernel
theorem d_Mo_inverse_38 : decode m_Mo_inverse.2.2.1 38 = .ok (.iload_n 1, 1) := by decide +kernel
theorem d_Mo_inverse_39 : decode m_Mo_inverse.2.2.1 39 = .ok (.ireturn, 1) := by decide +kernel
theorem d_Mo_isNumber_0 : decode m_Mo_isNumber.2.2.1 0 = .ok (.iload_n 0, 1) := by decide +kernel
theorem d_Mo_isNumber_1 : decode m_Mo_isNumber.2.2.1 1 = .ok (.ifCond .lt (14), 3) := by decide +kernel
theorem d_Mo_isNumber_4 : decode m_Mo_isNumber.2.2.1 4 = .ok (.iload_n 0, 1) := by decide +kernel
theorem d_Mo_isNumber_5 : decode m_Mo_isNumber.2.2.1 5 = .ok (.sipush (12289), 3) := by decide +kernel
theorem d_Mo_isNumber_8 : decode m_Mo_isNumber.2.2.1 8 = .ok (.if_icmp .ge (7), 3) := by decide +kernel
theorem d_Mo_isNumber_11 : decode m_Mo_isNumber.2.2.1 11 = .ok (.iconst 1, 1) := by decide +kernel
theorem d_Mo_isNumber_12 : decode m_Mo_isNumber.2.2.1 12 = .ok (.goto (4), 3) := by decide +kernel
theorem d_Mo_isNumber_15 : decode m_Mo_isNumber.2.2.1 15 = .ok (.iconst 0, 1) := by decide +kernel
theorem d_Mo_isNumber_16 : decode m_Mo_isNumber.2.2.1 16 = .ok (.ireturn, 1) := by decide +kernel
theorem d_Mo_w_0 : decode m_Mo_w.2.2.1 0 = .ok (.aload_n 0, 1) := by decide +kernel
theorem d_Mo_w_1 : decode m_Mo_w.2.2.1 1 = .ok (.getfield 46, 3) := by decide +kernel
theorem d_Mo_w_4 : decode m_Mo_w.2.2.1 4 = .ok (.iload_n 1, 1) := by decide +kernel
theorem d_Mo_w_5 : decode m_Mo_w.2.2.1 5 = .ok (.bipush (32), 2) := by decide +kernel
theorem d_Mo_w_7 : decode m_Mo_w.2.2.1 7 = .ok (.irem, 1) := by decide +kernel
theorem d_Mo_w_8 : decode m_Mo_w.2.2.1 8 = .ok (.iaload, 1) := by decide +kernel
theorem d_Mo_w_9 : decode m_Mo_w.2.2.1 9 = .ok (.ireturn, 1) := by decide +kernel
theorem d_Mo_x_0 : decode m_Mo_x.2.2.1 0 = .ok (.bipush (11), 2) := by decide +kernel
theorem d_Mo_x_2 : decode m_Mo_x.2.2.1 2 = .ok (.aload_n 0, 1) := by decide +kernel
theorem d_Mo_x_3 : decode m_Mo_x.2.2.1 3 = .ok (.iload_n 1, 1) := by decide +kernel
theorem d_Mo_x_4 : decode m_Mo_x.2.2.1 4 = .ok (.bipush (32), 2) := by decide +kernel
theorem d_Mo_x_6 : decode m_Mo_x.2.2.1 6 = .ok (.irem, 1) := by decide +kernel
theorem d_Mo_x_7 : decode m_Mo_x.2.2.1 7 = .ok (.invokevirtual 68, 3) := by decide +kernel
theorem d_Mo_x_10 : decode m_Mo_x.2.2.1 10 = .ok (.invokestatic 65, 3) := by decide +kernel
theorem d_Mo_x_13 : decode m_Mo_x.2.2.1 13 = .ok (.ireturn, 1) := by decide +kernel
theorem d_Mo_h_0 : decode m_Mo_h.2.2.1 0 = .ok (.aload_n 0, 1) := by decide +kernel
theorem d_Mo_h_1 : decode m_Mo_h.2.2.1 1 = .ok (.iconst 4, 1) := by decide +kernel
theorem d_Mo_h_2 : decode m_Mo_h.2.2.1 2 = .ok (.iload_n 1, 1) := by decide +kernel
theorem d_Mo_h_3 : decode m_Mo_h.2.2.1 3 = .ok (.imul, 1) := by decide +kernel
theorem d_Mo_h_4 : decode m_Mo_h.2.2.1 4 = .ok (.invokevirtual 68, 3) := by decide +kernel
theorem d_Mo_h_7 : decode m_Mo_h.2.2.1 7 = .ok (.ireturn, 1) := by decide +kernel
theorem d_Mo_mix_0 : decode m_Mo_mix.2.2.1 0 = .ok (.ldc 72, 2) := by decide +kernel
theorem d_Mo_mix_2 : decode m_Mo_mix.2.2.1 2 = .ok (.istore_n 2, 1) := by decide +kernel
theorem d_Mo_mix_3 : decode m_Mo_mix.2.2.1 3 = .ok (.iload_n 2, 1) := by decide +kernel
theorem d_Mo_mix_4 : decode m_Mo_mix.2.2.1 4 = .ok (.iload_n 0, 1) := by decide +kernel
theorem d_Mo_mix_5 : decode m_Mo_mix.2.2.1 5 = .ok (.ixor, 1) := by decide +kernel
theorem d_Mo_mix_6 : decode m_Mo_mix.2.2.1 6 = .ok (.ldc 73, 2) := by decide +kernel
theorem d_Mo_mix_8 : decode m_Mo_mix.2.2.1 8 = .ok (.imul, 1) := by decide +kernel
theorem d_Mo_mix_9 : decode m_Mo_mix.2.2.1 9 = .ok (.istore_n 2, 1) := by decide +kernel
theorem d_Mo_mix_10 : decode m_Mo_mix.2.2.1 10 = .ok (.iload_n 2, 1) := by decide +kernel
theorem d_Mo_mix_11 : decode m_Mo_mix.2.2.1 11 = .ok (.iload_n 2, 1) := by decide +kernel
theorem d_Mo_mix_12 : decode m_Mo_mix.2.2.1 12 = .ok (.bipush (15), 2) := by decide +kernel
theorem d_Mo_mix_14 : decode m_Mo_mix.2.2.1 14 = .ok (.iushr, 1) := by decide +kernel
theorem d_Mo_mix_15 : decode m_Mo_mix.2.2.1 15 = .ok (.ixor, 1) := by decide +kernel
theorem d_Mo_mix_16 : decode m_Mo_mix.2.2.1 16 = .ok (.istore_n 2, 1) := by decide +kernel
theorem d_Mo_mix_17 : decode m_Mo_mix.2.2.1 17 = .ok (.iload_n 2, 1) := by decide +kernel
theorem d_Mo_mix_18 : decode m_Mo_mix.2.2.1 18 = .ok (.iload_n 1, 1) := by decide +kernel
theorem d_Mo_mix_19 : decode m_Mo_mix.2.2.1 19 = .ok (.ixor, 1) := by decide +kernel
theorem d_Mo_mix_20 : decode m_Mo_mix.2.2.1 20 = .ok (.ldc 73, 2) := by decide +kernel
theorem d_Mo_mix_22 : decode m_Mo_mix.2.2.1 22 = .ok (.imul, 1) := by decide +kernel
theorem d_Mo_mix_23 : decode m_Mo_mix.2.2.1 23 = .ok (.istore_n 2, 1) := by decide +kernel
theorem d_Mo_mix_24 : decode m_Mo_mix.2.2.1 24 = .ok (.iload_n 2, 1) := by decide +kernel
theorem d_Mo_mix_25 : decode m_Mo_mix.2.2.1 25 = .ok (.iload_n 2, 1) := by decide +kernel
theorem d_Mo_mix_26 : decode m_Mo_mix.2.2.1 26 = .ok (.bipush (15), 2) := by decide +kernel
theorem d_Mo_mix_28 : decode m_Mo_mix.2.2.1 28 = .ok (.iushr, 1) := by decide +kernel
theorem d_Mo_mix_29 : decode m_Mo_mix.2.2.1 29 = .ok (.ixor, 1) := by decide +kernel
theorem d_Mo_mix_30 : decode m_Mo_mix.2.2.1 30 = .ok (.ireturn, 1) := by decide +kernel
theorem d_Mo_isColumn_0 : decode m_Mo_isColumn.2.2.1 0 = .ok (.iload_n 0, 1) := by decide +kernel
theorem d_Mo_isColumn_1 : decode m_Mo_isColumn.2.2.1 1 = .ok (.ifCond .eq (8), 3) := by decide +kernel
theorem d_Mo_isColumn_4 : decode m_Mo_isColumn.2.2.1 4 = .ok (.iload_n 0, 1) := by decide +kernel
theorem d_Mo_isColumn_5 : decode m_Mo_isColumn.2.2.1 5 = .ok (.iconst 1, 1) := by decide +kernel
theorem d_Mo_isColumn_6 : decode m_Mo_isColumn.2.2.1 6 = .ok (.if_icmp .ne (7), 3) := by decide +kernel
theorem d_Mo_isColumn_9 : decode m_Mo_isColumn.2.2.1 9 = .ok (.iconst 1, 1) := by decide +kernel
theorem d_Mo_isColumn_10 : decode m_Mo_isColumn.2.2.1 10 = .ok (.goto (4), 3) := by decide +kernel
theorem d_Mo_isColumn_13 : decode m_Mo_isColumn.2.2.1 13 = .ok (.iconst 0, 1) := by decide +kernel
theorem d_Mo_isColumn_14 : decode m_Mo_isColumn.2.2.1 14 = .ok (.ireturn, 1) := by decide +kernel
theorem d_Mo_isRow_0 : decode m_Mo_isRow.2.2.1 0 = .ok (.iload_n 0, 1) := by decide +kernel
theorem d_Mo_isRow_1 : decode m_Mo_isRow.2.2.1 1 = .ok (.ifCond .lt (13), 3) := by decide +kernel
theorem d_Mo_isRow_4 : decode m_Mo_isRow.2.2.1 4 = .ok (.iload_n 0, 1) := by decide +kernel
theorem d_Mo_isRow_5 : decode m_Mo_isRow.2.2.1 5 = .ok (.bipush (8), 2) := by decide +kernel
theorem d_Mo_isRow_7 : decode m_Mo_isRow.2.2.1 7 = .ok (.if_icmp .ge (7), 3) := by decide +kernel
theorem d_Mo_isRow_10 : decode m_Mo_isRow.2.2.1 10 = .ok (.iconst 1, 1) := by decide +kernel
theorem d_Mo_isRow_11 : decode m_Mo_isRow.2.2.1 11 = .ok (.goto (4), 3) := by decide +kernel
theorem d_Mo_isRow_14 : decode m_Mo_isRow.2.2.1 14 = .ok (.iconst 0, 1) := by decide +kernel
theorem d_Mo_isRow_15 : decode m_Mo_isRow.2.2.1 15 = .ok (.ireturn, 1) := by decide +kernel
theorem d_Mo_term_0 : decode m_Mo_term.2.2.1 0 = .ok (.iload_n 1, 1) := by decide +kernel
theorem d_Mo_term_1 : decode m_Mo_term.2.2.1 1 = .ok (.invokestatic 74, 3) := by decide +kernel
theorem d_Mo_term_4 : decode m_Mo_term.2.2.1 4 = .ok (.ifCond .eq (30), 3) := by decide +kernel
theorem d_Mo_term_7 : decode m_Mo_term.2.2.1 7 = .ok (.iload_n 2, 1) := by decide +kernel
theorem d_Mo_term_8 : decode m_Mo_term.2.2.1 8 = .ok (.invokestatic 78, 3) := by decide +kernel
theorem d_Mo_term_11 : decode m_Mo_term.2.2.1 11 = .ok (.ifCond .eq (23), 3) := by decide +kernel
theorem d_Mo_term_14 : decode m_Mo_term.2.2.1 14 = .ok (.iload_n 3, 1) := by decide +kernel
theorem d_Mo_term_15 : decode m_Mo_term.2.2.1 15 = .ok (.ifCond .lt (19), 3) := by decide +kernel
theorem d_Mo_term_18 : decode m_Mo_term.2.2.1 18 = .ok (.iload_n 3, 1) := by decide +kernel
theorem d_Mo_term_19 : decode m_Mo_term.2.2.1 19 = .ok (.iconst 4, 1) := by decide +kernel
theorem d_Mo_term_20 : decode m_Mo_term.2.2.1 20 = .ok (.if_icmp .gt (14), 3) := by decide +kernel
theorem d_Mo_term_23 : decode m_Mo_term.2.2.1 23 = .ok (.iload 4, 2) := by decide +kernel
theorem d_Mo_term_25 : decode m_Mo_term.2.2.1 25 = .ok (.ifCond .lt (9), 3) := by decide +kernel
theorem d_Mo_term_28 : decode m_Mo_term.2.2.1 28 = .ok (.iload 4, 2) := by decide +kernel
theorem d_Mo_term_30 : decode m_Mo_term.2.2.1 30 = .ok (.iconst 4, 1) := by decide +kernel
theorem d_Mo_term_31 : decode m_Mo_term.2.2.1 31 = .ok (.if_icmp .le (5), 3) := by decide +kernel
theorem d_Mo_term_34 : decode m_Mo_term.2.2.1 34 = .ok (.iconst (-1), 1) := by decide +kernel
theorem d_Mo_term_35 : decode m_Mo_term.2.2.1 35 = .ok (.ireturn, 1) := by decide +kernel
theorem d_Mo_term_36 : decode m_Mo_term.2.2.1 36 = .ok (.aload_n 0, 1) := by decide +kernel
theorem d_Mo_term_37 : decode m_Mo_term.2.2.1 37 = .ok (.getfield 13, 3) := by decide +kernel
theorem d_Mo_term_40 : decode m_Mo_term.2.2.1 40 = .ok (.iload_n 1, 1) := by decide +kernel
theorem d_Mo_term_41 : decode m_Mo_term.2.2.1 41 = .ok (.iaload, 1) := by decide +kernel
theorem d_Mo_term_42 : decode m_Mo_term.2.2.1 42 = .ok (.bipush (6), 2) := by decide +kernel
theorem d_Mo_term_44 : decode m_Mo_term.2.2.1 44 = .ok (.if_icmp .ne (6), 3) := by decide +kernel
theorem d_Mo_term_47 : decode m_Mo_term.2.2.1 47 = .ok (.bipush (-3), 2) := by decide +kernel
theorem d_Mo_term_49 : decode m_Mo_term.2.2.1 49 = .ok (.ireturn, 1) := by decide +kernel
theorem d_Mo_term_50 : decode m_Mo_term.2.2.1 50 = .ok (.aload_n 0, 1) := by decide +kernel
theorem d_Mo_term_51 : decode m_Mo_term.2.2.1 51 = .ok (.getfield 16, 3) := by decide +kernel
theorem d_Mo_term_54 : decode m_Mo_term.2.2.1 54 = .ok (.bipush (6), 2) := by decide +kernel
theorem d_Mo_term_56 : decode m_Mo_term.2.2.1 56 = .ok (.iload_n 1, 1) := by decide +kernel
theorem d_Mo_term_57 : decode m_Mo_term.2.2.1 57 = .ok (.imul, 1) := by decide +kernel
theorem d_Mo_term_58 : decode m_Mo_term.2.2.1 58 = .ok (.aload_n 0, 1) := by decide +kernel
theorem d_Mo_term_59 : decode m_Mo_term.2.2.1 59 = .ok (.getfield 13, 3) := by decide +kernel
theorem d_Mo_term_62 : decode m_Mo_term.2.2.1 62 = .ok (.iload_n 1, 1) := by decide +kernel
theorem d_Mo_term_63 : decode m_Mo_term.2.2.1 63 = .ok (.iaload, 1) := by decide +kernel
theorem d_Mo_term_64 : decode m_Mo_term.2.2.1 64 = .ok (.iadd, 1) := by decide +kernel
theorem d_Mo_term_65 : decode m_Mo_term.2.2.1 65 = .ok (.iload_n 2, 1) := by decide +kernel
theorem d_Mo_term_66 : decode m_Mo_term.2.2.1 66 = .ok (.iastore, 1) := by decide +kernel
theorem d_Mo_term_67 : decode m_Mo_term.2.2.1 67 = .ok (.aload_n 0, 1) := by decide +kernel
theorem d_Mo_term_68 : decode m_Mo_term.2.2.1 68 = .ok (.getfield 19, 3) := by decide +kernel
theorem d_Mo_term_71 : decode m_Mo_term.2.2.1 71 = .ok (.bipush (6), 2) := by decide +kernel
theorem d_Mo_term_73 : decode m_Mo_term.2.2.1 73 = .ok (.iload_n 1, 1) := by decide +kernel
theorem d_Mo_term_74 : decode m_Mo_term.2.2.1 74 = .ok (.imul, 1) := by decide +kernel
theorem d_Mo_term_75 : decode m_Mo_term.2.2.1 75 = .ok (.aload_n 0, 1) := by decide +kernel
theorem d_Mo_term_76 : decode m_Mo_term.2.2.1 76 = .ok (.getfield 13, 3) := by decide +kernel
theorem d_Mo_term_79 : decode m_Mo_term.2.2.1 79 = .ok (.iload_n 1, 1) := by decide +kernel
theorem d_Mo_term_80 : decode m_Mo_term.2.2.1 80 = .ok (.iaload, 1) := by decide +kernel
theorem d_Mo_term_81 : decode m_Mo_term.2.2.1 81 = .ok (.iadd, 1) := by decide +kernel
theorem d_Mo_term_82 : decode m_Mo_term.2.2.1 82 = .ok (.iload_n 3, 1) := by decide +kernel
theorem d_Mo_term_83 : decode m_Mo_term.2.2.1 83 = .ok (.iastore, 1) := by decide +kernel
theorem d_Mo_term_84 : decode m_Mo_term.2.2.1 84 = .ok (.aload_n 0, 1) := by decide +kernel
theorem d_Mo_term_85 : decode m_Mo_term.2.2.1 85 = .ok (.getfield 22, 3) := by decide +kernel
theorem d_Mo_term_88 : decode m_Mo_term.2.2.1 88 = .ok (.bipush (6), 2) := by decide +kernel
theorem d_Mo_term_90 : decode m_Mo_term.2.2.1 90 = .ok (.iload_n 1, 1) := by decide +kernel
theorem d_Mo_term_91 : decode m_Mo_term.2.2.1 91 = .ok (.imul, 1) := by decide +kernel
theorem d_Mo_term_92 : decode m_Mo_term.2.2.1 92 = .ok (.aload_n 0, 1) := by decide +kernel
theorem d_Mo_term_93 : decode m_Mo_term.2.2.1 93 = .ok (.getfield 13, 3) := by decide +kernel
theorem d_Mo_term_96 : decode m_Mo_term.2.2.1 96 = .ok (.iload_n 1, 1) := by decide +kernel
theorem d_Mo_term_97 : decode m_Mo_term.2.2.1 97 = .ok (.iaload, 1) := by decide +kernel
theorem d_Mo_term_98 : decode m_Mo_term.2.2.1 98 = .ok (.iadd, 1) := by decide +kernel
theorem d_Mo_term_99 : decode m_Mo_term.2.2.1 99 = .ok (.iload 4, 2) := by decide +kernel
theorem d_Mo_term_101 : decode m_Mo_term.2.2.1 101 = .ok (.iastore, 1) := by decide +kernel
theorem d_Mo_term_102 : decode m_Mo_term.2.2.1 102 = .ok (.aload_n 0, 1) := by decide +kernel
theorem d_Mo_term_103 : decode m_Mo_term.2.2.1 103 = .ok (.getfield 13, 3) := by decide +kernel
theorem d_Mo_term_106 : decode m_Mo_term.2.2.1 106 = .ok (.iload_n 1, 1) := by decide +kernel
theorem d_Mo_term_107 : decode m_Mo_term.2.2.1 107 = .ok (.dup2, 1) := by decide +kernel
theorem d_Mo_term_108 : decode m_Mo_term.2.2.1 108 = .ok (.iaload, 1) := by decide +kernel
theorem d_Mo_term_109 : decode m_Mo_term.2.2.1 109 = .ok (.iconst 1, 1) := by decide +kernel
theorem d_Mo_term_110 : decode m_Mo_term.2.2.1 110 = .ok (.iadd, 1) := by decide +kernel
theorem d_Mo_term_111 : decode m_Mo_term.2.2.1 111 = .ok (.iastore, 1) := by decide +kernel
theorem d_Mo_term_112 : decode m_Mo_term.2.2.1 112 = .ok (.aload_n 0, 1) := by decide +kernel
theorem d_Mo_term_113 : decode m_Mo_term.2.2.1 113 = .ok (.getfield 13, 3) := by decide +kernel
theorem d_Mo_term_116 : decode m_Mo_term.2.2.1 116 = .ok (.iload_n 1, 1) := by decide +kernel
theorem d_Mo_term_117 : decode m_Mo_term.2.2.1 117 = .ok (.iaload, 1) := by decide +kernel
theorem d_Mo_term_118 : decode m_Mo_term.2.2.1 118 = .ok (.ireturn, 1) := by decide +kernel
theorem d_Mo_bound_0 : decode m_Mo_bound.2.2.1 0 = .ok (.iload_n 1, 1) := by decide +kernel
theorem d_Mo_bound_1 : decode m_Mo_bound.2.2.1 1 = .ok (.invokestatic 74, 3) := by decide +kernel
theorem d_Mo_bound_4 : decode m_Mo_bound.2.2.1 4 = .ok (.ifCond .eq (17), 3) := by decide +kernel
theorem d_Mo_bound_7 : decode m_Mo_bound.2.2.1 7 = .ok (.iload_n 2, 1) := by decide +kernel
theorem d_Mo_bound_8 : decode m_Mo_bound.2.2.1 8 = .ok (.invokestatic 81, 3) := by decide +kernel
theorem d_Mo_bound_11 : decode m_Mo_bound.2.2.1 11 = .ok (.ifCond .eq (10), 3) := by decide +kernel
theorem d_Mo_bound_14 : decode m_Mo_bound.2.2.1 14 = .ok (.iload_n 3, 1) := by decide +kernel
theorem d_Mo_bound_15 : decode m_Mo_bound.2.2.1 15 = .ok (.invokestatic 78, 3) := by decide +kernel
theorem d_Mo_bound_18 : decode m_Mo_bound.2.2.1 18 = .ok (.ifCond .ne (5), 3) := by decide +kernel
theorem d_Mo_bound_21 : decode m_Mo_bound.2.2.1 21 = .ok (.iconst (-1), 1) := by decide +kernel
theorem d_Mo_bound_22 : decode m_Mo_bound.2.2.1 22 = .ok (.ireturn, 1) := by decide +kernel
theorem d_Mo_bound_23 : decode m_Mo_bound.2.2.1 23 = .ok (.aload_n 0, 1) := by decide +kernel
theorem d_Mo_bound_24 : decode m_Mo_bound.2.2.1 24 = .ok (.getfield 84, 3) := by decide +kernel
theorem d_Mo_bound_27 : decode m_Mo_bound.2.2.1 27 = .ok (.iconst 4, 1) := by decide +kernel
theorem d_Mo_bound_28 : decode m_Mo_bound.2.2.1 28 = .ok (.if_icmp .ne (6), 3) := by decide +kernel
theorem d_Mo_bound_31 : decode m_Mo_bound.2.2.1 31 = .ok (.bipush (-3), 2) := by decide +kernel
theorem d_Mo_bound_33 : decode m_Mo_bound.2.2.1 33 = .ok (.ireturn, 1) := by decide +kernel
theorem d_Mo_bound_34 : decode m_Mo_bound.2.2.1 34 = .ok (.aload_n 0, 1) := by decide +kernel
theorem d_Mo_bound_35 : decode m_Mo_bound.2.2.1 35 = .ok (.getfield 25, 3) := by decide +kernel
theorem d_Mo_bound_38 : decode m_Mo_bound.2.2.1 38 = .ok (.aload_n 0, 1) := by decide +kernel
theorem d_Mo_bound_39 : decode m_Mo_bound.2.2.1 39 = .ok (.getfield 84, 3) := by decide +kernel
theorem d_Mo_bound_42 : decode m_Mo_bound.2.2.1 42 = .ok (.iload_n 1, 1) := by decide +kernel
theorem d_Mo_bound_43 : decode m_Mo_bound.2.2.1 43 = .ok (.iastore, 1) := by decide +kernel
theorem d_Mo_bound_44 : decode m_Mo_bound.2.2.1 44 = .ok (.aload_n 0, 1) := by decide +kernel
theorem d_Mo_bound_45 : decode m_Mo_bound.2.2.1 45 = .ok (.getfield 28, 3) := by decide +kernel
theorem d_Mo_bound_48 : decode m_Mo_bound.2.2.1 48 = .ok (.aload_n 0, 1) := by decide +kernel
theorem d_Mo_bound_49 : decode m_Mo_bound.2.2.1 49 = .ok (.getfield 84, 3) := by decide +kernel
theorem d_Mo_bound_52 : decode m_Mo_bound.2.2.1 52 = .ok (.iload_n 2, 1) := by decide +kernel
theorem d_Mo_bound_53 : decode m_Mo_bound.2.2.1 53 = .ok (.iastore, 1) := by decide +kernel
theorem d_Mo_bound_54 : decode m_Mo_bound.2.2.1 54 = .ok (.aload_n 0, 1) := by decide +kernel
theorem d_Mo_bound_55 : decode m_Mo_bound.2.2.1 55 = .ok (.getfield 31, 3) := by decide +kernel
theorem d_Mo_bound_58 : decode m_Mo_bound.2.2.1 58 = .ok (.aload_n 0, 1) := by decide +kernel
theorem d_Mo_bound_59 : decode m_Mo_bound.2.2.1 59 = .ok (.getfield 84, 3) := by decide +kernel
theorem d_Mo_bound_62 : decode m_Mo_bound.2.2.1 62 = .ok (.iload_n 3, 1) := by decide +kernel
theorem d_Mo_bound_63 : decode m_Mo_bound.2.2.1 63 = .ok (.iastore, 1) := by decide +kernel
theorem d_Mo_bound_64 : decode m_Mo_bound.2.2.1 64 = .ok (.aload_n 0, 1) := by decide +kernel
theorem d_Mo_bound_65 : decode m_Mo_bound.2.2.1 65 = .ok (.dup, 1) := by decide +kernel
theorem d_Mo_bound_66 : decode m_Mo_bound.2.2.1 66 = .ok (.getfield 84, 3) := by decide +kernel
theorem d_Mo_bound_69 : decode m_Mo_bound.2.2.1 69 = .ok (.iconst 1, 1) := by decide +kernel
theorem d_Mo_bound_70 : decode m_Mo_bound.2.2.1 70 = .ok (.iadd, 1) := by decide +kernel
theorem d_Mo_bound_71 : decode m_Mo_bound.2.2.1 71 = .ok (.putfield 84, 3) := by decide +kernel
theorem d_Mo_bound_74 : decode m_Mo_bound.2.2.1 74 = .ok (.aload_n 0, 1) := by decide +kernel
theorem d_Mo_bound_75 : decode m_Mo_bound.2.2.1 75 = .ok (.getfield 84, 3) := by decide +kernel
theorem d_Mo_bound_78 : decode m_Mo_bound.2.2.1 78 = .ok (.ireturn, 1) := by decide +kernel
theorem d_Mo_clear_0 : decode m_Mo_clear.2.2.1 0 = .ok (.aload_n 0, 1) := by decide +kernel
theorem d_Mo_clear_1 : decode m_Mo_clear.2.2.1 1 = .ok (.getfield 13, 3) := by decide +kernel
theorem d_Mo_clear_4 : decode m_Mo_clear.2.2.1 4 = .ok (.iconst 0, 1) := by decide +kernel
theorem d_Mo_clear_5 : decode m_Mo_clear.2.2.1 5 = .ok (.iconst 0, 1) := by decide +kernel
theorem d_Mo_clear_6 : decode m_Mo_clear.2.2.1 6 = .ok (.iastore, 1) := by decide +kernel
theorem d_Mo_clear_7 : decode m_Mo_clear.2.2.1 7 = .ok (.aload_n 0, 1) := by decide +kernel
theorem d_Mo_clear_8 : decode m_Mo_clear.2.2.1 8 = .ok (.getfield 13, 3) := by decide +kernel
theorem d_Mo_clear_11 : decode m_Mo_clear.2.2.1 11 = .ok (.iconst 1, 1) := by decide +kernel
theorem d_Mo_clear_12 : decode m_Mo_clear.2.2.1 12 = .ok (.iconst 0, 1) := by decide +kernel
theorem d_Mo_clear_13 : decode m_Mo_clear.2.2.1 13 = .ok (.iastore, 1) := by decide +kernel
theorem d_Mo_clear_14 : decode m_Mo_clear.2.2.1 14 = .ok (.aload_n 0, 1) := by decide +kernel
theorem d_Mo_clear_15 : decode m_Mo_clear.2.2.1 15 = .ok (.iconst 0, 1) := by decide +kernel
theorem d_Mo_clear_16 : decode m_Mo_clear.2.2.1 16 = .ok (.putfield 84, 3) := by decide +kernel
theorem d_Mo_clear_19 : decode m_Mo_clear.2.2.1 19 = .ok (.return_, 1) := by decide +kernel
theorem d_Mo_set_0 : decode m_Mo_set.2.2.1 0 = .ok (.iload_n 1, 1) := by decide +kernel
theorem d_Mo_set_1 : decode m_Mo_set.2.2.1 1 = .ok (.invokestatic 74, 3) := by decide +kernel
theorem d_Mo_set_4 : decode m_Mo_set.2.2.1 4 = .ok (.ifCond .eq (17), 3) := by decide +kernel
theorem d_Mo_set_7 : decode m_Mo_set.2.2.1 7 = .ok (.iload_n 2, 1) := by decide +kernel
theorem d_Mo_set_8 : decode m_Mo_set.2.2.1 8 = .ok (.invokestatic 81, 3) := by decide +kernel
theorem d_Mo_set_11 : decode m_Mo_set.2.2.1 11 = .ok (.ifCond .eq (10), 3) := by decide +kernel
theorem d_Mo_set_14 : decode m_Mo_set.2.2.1 14 = .ok (.iload_n 3, 1) := by decide +kernel
theorem d_Mo_set_15 : decode m_Mo_set.2.2.1 15 = .ok (.invokestatic 78, 3) := by decide +kernel
theorem d_Mo_set_18 : decode m_Mo_set.2.2.1 18 = .ok (.ifCond .ne (5), 3) := by decide +kernel
theorem d_Mo_set_21 : decode m_Mo_set.2.2.1 21 = .ok (.iconst 0, 1) := by decide +kernel
theorem d_Mo_set_22 : decode m_Mo_set.2.2.1 22 = .ok (.ireturn, 1) := by decide +kernel
theorem d_Mo_set_23 : decode m_Mo_set.2.2.1 23 = .ok (.aload_n 0, 1) := by decide +kernel
theorem d_Mo_set_24 : decode m_Mo_set.2.2.1 24 = .ok (.getfield 7, 3) := by decide +kernel
theorem d_Mo_set_27 : decode m_Mo_set.2.2.1 27 = .ok (.bipush (8), 2) := by decide +kernel
theorem d_Mo_set_29 : decode m_Mo_set.2.2.1 29 = .ok (.iload_n 1, 1) := by decide +kernel
theorem d_Mo_set_30 : decode m_Mo_set.2.2.1 30 = .ok (.imul, 1) := by decide +kernel
theorem d_Mo_set_31 : decode m_Mo_set.2.2.1 31 = .ok (.iload_n 2, 1) := by decide +kernel
theorem d_Mo_set_32 : decode m_Mo_set.2.2.1 32 = .ok (.iadd, 1) := by decide +kernel
theorem d_Mo_set_33 : decode m_Mo_set.2.2.1 33 = .ok (.iload_n 3, 1) := by decide +kernel
theorem d_Mo_set_34 : decode m_Mo_set.2.2.1 34 = .ok (.iastore, 1) := by decide +kernel
theorem d_Mo_set_35 : decode m_Mo_set.2.2.1 35 = .ok (.iconst 1, 1) := by decide +kernel
theorem d_Mo_set_36 : decode m_Mo_set.2.2.1 36 = .ok (.ireturn, 1) := by decide +kernel
theorem d_Mo_cell_0 : decode m_Mo_cell.2.2.1 0 = .ok (.iload_n 1, 1) := by decide +kernel
theorem d_Mo_cell_1 : decode m_Mo_cell.2.2.1 1 = .ok (.invokestatic 74, 3) := by decide +kernel
theorem d_Mo_cell_4 : decode m_Mo_cell.2.2.1 4 = .ok (.ifCond .eq (24), 3) := by decide +kernel
theorem d_Mo_cell_7 : decode m_Mo_cell.2.2.1 7 = .ok (.iload_n 2, 1) := by decide +kernel
theorem d_Mo_cell_8 : decode m_Mo_cell.2.2.1 8 = .ok (.invokestatic 81, 3) := by decide +kernel
theorem d_Mo_cell_11 : decode m_Mo_cell.2.2.1 11 = .ok (.ifCond .eq (17), 3) := by decide +kernel
theorem d_Mo_cell_14 : decode m_Mo_cell.2.2.1 14 = .ok (.aload_n 0, 1) := by decide +kernel
theorem d_Mo_cell_15 : decode m_Mo_cell.2.2.1 15 = .ok (.getfield 7, 3) := by decide +kernel
theorem d_Mo_cell_18 : decode m_Mo_cell.2.2.1 18 = .ok (.bipush (8), 2) := by decide +kernel
theorem d_Mo_cell_20 : decode m_Mo_cell.2.2.1 20 = .ok (.iload_n 1, 1) := by decide +kernel
theorem d_Mo_cell_21 : decode m_Mo_cell.2.2.1 21 = .ok (.imul, 1) := by decide +kernel
theorem d_Mo_cell_22 : decode m_Mo_cell.2.2.1 22 = .ok (.iload_n 2, 1) := by decide +kernel
theorem d_Mo_cell_23 : decode m_Mo_cell.2.2.1 23 = .ok (.iadd, 1) := by decide +kernel
theorem d_Mo_cell_24 : decode m_Mo_cell.2.2.1 24 = .ok (.iaload, 1) := by decide +kernel
theorem d_Mo_cell_25 : decode m_Mo_cell.2.2.1 25 = .ok (.goto (4), 3) := by decide +kernel
theorem d_Mo_cell_28 : decode m_Mo_cell.2.2.1 28 = .ok (.iconst (-1), 1) := by decide +kernel
theorem d_Mo_cell_29 : decode m_Mo_cell.2.2.1 29 = .ok (.ireturn, 1) := by decide +kernel
theorem d_Mo_constraints_0 : decode m_Mo_constraints.2.2.1 0 = .ok (.aload_n 0, 1) := by decide +kernel
theorem d_Mo_constraints_1 : decode m_Mo_constraints.2.2.1 1 = .ok (.getfield 13, 3) := by decide +kernel
theorem d_Mo_constraints_4 : decode m_Mo_constraints.2.2.1 4 = .ok (.iconst 1, 1) := by decide +kernel
theorem d_Mo_constraints_5 : decode m_Mo_constraints.2.2.1 5 = .ok (.iaload, 1) := by decide +kernel
theorem d_Mo_constraints_6 : decode m_Mo_constraints.2.2.1 6 = .ok (.ifCond .le (7), 3) := by decide +kernel
theorem d_Mo_constraints_9 : decode m_Mo_constraints.2.2.1 9 = .ok (.iconst 2, 1) := by decide +kernel
theorem d_Mo_constraints_10 : decode m_Mo_constraints.2.2.1 10 = .ok (.goto (17), 3) := by decide +kernel
theorem d_Mo_constraints_13 : decode m_Mo_constraints.2.2.1 13 = .ok (.aload_n 0, 1) := by decide +kernel
theorem d_Mo_constraints_14 : decode m_Mo_constraints.2.2.1 14 = .ok (.getfield 13, 3) := by decide +kernel
theorem d_Mo_constraints_17 : decode m_Mo_constraints.2.2.1 17 = .ok (.iconst 0, 1) := by decide +kernel
theorem d_Mo_constraints_18 : decode m_Mo_constraints.2.2.1 18 = .ok (.iaload, 1) := by decide +kernel
theorem d_Mo_constraints_19 : decode m_Mo_constraints.2.2.1 19 = .ok (.ifCond .le (7), 3) := by decide +kernel
theorem d_Mo_constraints_22 : decode m_Mo_constraints.2.2.1 22 = .ok (.iconst 1, 1) := by decide +kernel
theorem d_Mo_constraints_23 : decode m_Mo_constraints.2.2.1 23 = .ok (.goto (4), 3) := by decide +kernel
theorem d_Mo_constraints_26 : decode m_Mo_constraints.2.2.1 26 = .ok (.iconst 0, 1) := by decide +kernel
theorem d_Mo_constraints_27 : decode m_Mo_constraints.2.2.1 27 = .ok (.ireturn, 1) := by decide +kernel
theorem d_Mo_valueAt_0 : decode m_Mo_valueAt.2.2.1 0 = .ok (.iconst 0, 1) := by decide +kernel
theorem d_Mo_valueAt_1 : decode m_Mo_valueAt.2.2.1 1 = .ok (.istore_n 3, 1) := by decide +kernel
theorem d_Mo_valueAt_2 : decode m_Mo_valueAt.2.2.1 2 = .ok (.iconst 0, 1) := by decide +kernel
theorem d_Mo_valueAt_3 : decode m_Mo_valueAt.2.2.1 3 = .ok (.istore 4, 2) := by decide +kernel
theorem d_Mo_valueAt_5 : decode m_Mo_valueAt.2.2.1 5 = .ok (.iload 4, 2) := by decide +kernel
theorem d_Mo_valueAt_7 : decode m_Mo_valueAt.2.2.1 7 = .ok (.bipush (8), 2) := by decide +kernel
theorem d_Mo_valueAt_9 : decode m_Mo_valueAt.2.2.1 9 = .ok (.if_icmp .ge (106), 3) := by decide +kernel
theorem d_Mo_valueAt_12 : decode m_Mo_valueAt.2.2.1 12 = .ok (.aload_n 0, 1) := by decide +kernel
theorem d_Mo_valueAt_13 : decode m_Mo_valueAt.2.2.1 13 = .ok (.getfield 7, 3) := by decide +kernel
theorem d_Mo_valueAt_16 : decode m_Mo_valueAt.2.2.1 16 = .ok (.bipush (8), 2) := by decide +kernel
theorem d_Mo_valueAt_18 : decode m_Mo_valueAt.2.2.1 18 = .ok (.iload_n 1, 1) := by decide +kernel
theorem d_Mo_valueAt_19 : decode m_Mo_valueAt.2.2.1 19 = .ok (.imul, 1) := by decide +kernel
theorem d_Mo_valueAt_20 : decode m_Mo_valueAt.2.2.1 20 = .ok (.iload 4, 2) := by decide +kernel
theorem d_Mo_valueAt_22 : decode m_Mo_valueAt.2.2.1 22 = .ok (.iadd, 1) := by decide +kernel
theorem d_Mo_valueAt_23 : decode m_Mo_valueAt.2.2.1 23 = .ok (.iaload, 1) := by decide +kernel
theorem d_Mo_valueAt_24 : decode m_Mo_valueAt.2.2.1 24 = .ok (.istore 5, 2) := by decide +kernel
theorem d_Mo_valueAt_26 : decode m_Mo_valueAt.2.2.1 26 = .ok (.iconst 1, 1) := by decide +kernel
theorem d_Mo_valueAt_27 : decode m_Mo_valueAt.2.2.1 27 = .ok (.istore 6, 2) := by decide +kernel
theorem d_Mo_valueAt_29 : decode m_Mo_valueAt.2.2.1 29 = .ok (.iconst 0, 1) := by decide +kernel
theorem d_Mo_valueAt_30 : decode m_Mo_valueAt.2.2.1 30 = .ok (.istore 7, 2) := by decide +kernel
theorem d_Mo_valueAt_32 : decode m_Mo_valueAt.2.2.1 32 = .ok (.iload 7, 2) := by decide +kernel
theorem d_Mo_valueAt_34 : decode m_Mo_valueAt.2.2.1 34 = .ok (.bipush (8), 2) := by decide +kernel
theorem d_Mo_valueAt_36 : decode m_Mo_valueAt.2.2.1 36 = .ok (.if_icmp .ge (57), 3) := by decide +kernel
theorem d_Mo_valueAt_39 : decode m_Mo_valueAt.2.2.1 39 = .ok (.iload 7, 2) := by decide +kernel
theorem d_Mo_valueAt_41 : decode m_Mo_valueAt.2.2.1 41 = .ok (.iload 4, 2) := by decide +kernel
theorem d_Mo_valueAt_43 : decode m_Mo_valueAt.2.2.1 43 = .ok (.if_icmp .eq (44), 3) := by decide +kernel
theorem d_Mo_valueAt_46 : decode m_Mo_valueAt.2.2.1 46 = .ok (.iload 5, 2) := by decide +kernel
theorem d_Mo_valueAt_48 : decode m_Mo_valueAt.2.2.1 48 = .ok (.iload_n 2, 1) := by decide +kernel
theorem d_Mo_valueAt_49 : decode m_Mo_valueAt.2.2.1 49 = .ok (.aload_n 0, 1) := by decide +kernel
theorem d_Mo_valueAt_50 : decode m_Mo_valueAt.2.2.1 50 = .ok (.iload 7, 2) := by decide +kernel
theorem d_Mo_valueAt_52 : decode m_Mo_valueAt.2.2.1 52 = .ok (.invokevirtual 88, 3) := by decide +kernel
theorem d_Mo_valueAt_55 : decode m_Mo_valueAt.2.2.1 55 = .ok (.isub, 1) := by decide +kernel
theorem d_Mo_valueAt_56 : decode m_Mo_valueAt.2.2.1 56 = .ok (.invokestatic 91, 3) := by decide +kernel
theorem d_Mo_valueAt_59 : decode m_Mo_valueAt.2.2.1 59 = .ok (.invokestatic 65, 3) := by decide +kernel
theorem d_Mo_valueAt_62 : decode m_Mo_valueAt.2.2.1 62 = .ok (.istore 5, 2) := by decide +kernel
theorem d_Mo_valueAt_64 : decode m_Mo_valueAt.2.2.1 64 = .ok (.iload 6, 2) := by decide +kernel
theorem d_Mo_valueAt_66 : decode m_Mo_valueAt.2.2.1 66 = .ok (.aload_n 0, 1) := by decide +kernel
theorem d_Mo_valueAt_67 : decode m_Mo_valueAt.2.2.1 67 = .ok (.iload 4, 2) := by decide +kernel
theorem d_Mo_valueAt_69 : decode m_Mo_valueAt.2.2.1 69 = .ok (.invokevirtual 88, 3) := by decide +kernel
theorem d_Mo_valueAt_72 : decode m_Mo_valueAt.2.2.1 72 = .ok (.aload_n 0, 1) := by decide +kernel
theorem d_Mo_valueAt_73 : decode m_Mo_valueAt.2.2.1 73 = .ok (.iload 7, 2) := by decide +kernel
theorem d_Mo_valueAt_75 : decode m_Mo_valueAt.2.2.1 75 = .ok (.invokevirtual 88, 3) := by decide +kernel
theorem d_Mo_valueAt_78 : decode m_Mo_valueAt.2.2.1 78 = .ok (.isub, 1) := by decide +kernel
theorem d_Mo_valueAt_79 : decode m_Mo_valueAt.2.2.1 79 = .ok (.invokestatic 91, 3) := by decide +kernel
theorem d_Mo_valueAt_82 : decode m_Mo_valueAt.2.2.1 82 = .ok (.invokestatic 65, 3) := by decide +kernel
theorem d_Mo_valueAt_85 : decode m_Mo_valueAt.2.2.1 85 = .ok (.istore 6, 2) := by decide +kernel
theorem d_Mo_valueAt_87 : decode m_Mo_valueAt.2.2.1 87 = .ok (.iinc 7 (1), 3) := by decide +kernel
theorem d_Mo_valueAt_90 : decode m_Mo_valueAt.2.2.1 90 = .ok (.goto (-58), 3) := by decide +kernel
theorem d_Mo_valueAt_93 : decode m_Mo_valueAt.2.2.1 93 = .ok (.iload_n 3, 1) := by decide +kernel
theorem d_Mo_valueAt_94 : decode m_Mo_valueAt.2.2.1 94 = .ok (.iload 5, 2) := by decide +kernel
theorem d_Mo_valueAt_96 : decode m_Mo_valueAt.2.2.1 96 = .ok (.iload 6, 2) := by decide +kernel
theorem d_Mo_valueAt_98 : decode m_Mo_valueAt.2.2.1 98 = .ok (.invokestatic 94, 3) := by decide +kernel
theorem d_Mo_valueAt_101 : decode m_Mo_valueAt.2.2.1 101 = .ok (.invokestatic 65, 3) := by decide +kernel
theorem d_Mo_valueAt_104 : decode m_Mo_valueAt.2.2.1 104 = .ok (.iadd, 1) := by decide +kernel
theorem d_Mo_valueAt_105 : decode m_Mo_valueAt.2.2.1 105 = .ok (.invokestatic 91, 3) := by decide +kernel
theorem d_Mo_valueAt_108 : decode m_Mo_valueAt.2.2.1 108 = .ok (.istore_n 3, 1) := by decide +kernel
theorem d_Mo_valueAt_109 : decode m_Mo_valueAt.2.2.1 109 = .ok (.iinc 4 (1), 3) := by decide +kernel
theorem d_Mo_valueAt_112 : decode m_Mo_valueAt.2.2.1 112 = .ok (.goto (-107), 3) := by decide +kernel
theorem d_Mo_valueAt_115 : decode m_Mo_valueAt.2.2.1 115 = .ok (.iload_n 3, 1) := by decide +kernel
theorem d_Mo_valueAt_116 : decode m_Mo_valueAt.2.2.1 116 = .ok (.ireturn, 1) := by decide +kernel
theorem d_Mo_at_0 : decode m_Mo_at.2.2.1 0 = .ok (.iload_n 1, 1) := by decide +kernel
theorem d_Mo_at_1 : decode m_Mo_at.2.2.1 1 = .ok (.invokestatic 74, 3) := by decide +kernel
theorem d_Mo_at_4 : decode m_Mo_at.2.2.1 4 = .ok (.ifCond .eq (26), 3) := by decide +kernel
theorem d_Mo_at_7 : decode m_Mo_at.2.2.1 7 = .ok (.iload_n 2, 1) := by decide +kernel
theorem d_Mo_at_8 : decode m_Mo_at.2.2.1 8 = .ok (.ifCond .lt (22), 3) := by decide +kernel
theorem d_Mo_at_11 : decode m_Mo_at.2.2.1 11 = .ok (.iload_n 2, 1) := by decide +kernel
theorem d_Mo_at_12 : decode m_Mo_at.2.2.1 12 = .ok (.bipush (32), 2) := by decide +kernel
theorem d_Mo_at_14 : decode m_Mo_at.2.2.1 14 = .ok (.if_icmp .ge (16), 3) := by decide +kernel
theorem d_Mo_at_17 : decode m_Mo_at.2.2.1 17 = .ok (.aload_n 0, 1) := by decide +kernel
theorem d_Mo_at_18 : decode m_Mo_at.2.2.1 18 = .ok (.iload_n 1, 1) := by decide +kernel
theorem d_Mo_at_19 : decode m_Mo_at.2.2.1 19 = .ok (.aload_n 0, 1) := by decide +kernel
theorem d_Mo_at_20 : decode m_Mo_at.2.2.1 20 = .ok (.iload_n 2, 1) := by decide +kernel
theorem d_Mo_at_21 : decode m_Mo_at.2.2.1 21 = .ok (.invokevirtual 97, 3) := by decide +kernel
theorem d_Mo_at_24 : decode m_Mo_at.2.2.1 24 = .ok (.invokevirtual 100, 3) := by decide +kernel
theorem d_Mo_at_27 : decode m_Mo_at.2.2.1 27 = .ok (.goto (4), 3) := by decide +kernel
theorem d_Mo_at_30 : decode m_Mo_at.2.2.1 30 = .ok (.iconst (-1), 1) := by decide +kernel
theorem d_Mo_at_31 : decode m_Mo_at.2.2.1 31 = .ok (.ireturn, 1) := by decide +kernel
theorem d_Mo_summed_0 : decode m_Mo_summed.2.2.1 0 = .ok (.iconst 0, 1) := by decide +kernel
theorem d_Mo_summed_1 : decode m_Mo_summed.2.2.1 1 = .ok (.istore_n 2, 1) := by decide +kernel
theorem d_Mo_summed_2 : decode m_Mo_summed.2.2.1 2 = .ok (.bipush (6), 2) := by decide +kernel
theorem d_Mo_summed_4 : decode m_Mo_summed.2.2.1 4 = .ok (.iload_n 1, 1) := by decide +kernel
theorem d_Mo_summed_5 : decode m_Mo_summed.2.2.1 5 = .ok (.imul, 1) := by decide +kernel
theorem d_Mo_summed_6 : decode m_Mo_summed.2.2.1 6 = .ok (.istore_n 3, 1) := by decide +kernel
theorem d_Mo_summed_7 : decode m_Mo_summed.2.2.1 7 = .ok (.iload_n 3, 1) := by decide +kernel
theorem d_Mo_summed_8 : decode m_Mo_summed.2.2.1 8 = .ok (.bipush (6), 2) := by decide +kernel
theorem d_Mo_summed_10 : decode m_Mo_summed.2.2.1 10 = .ok (.iload_n 1, 1) := by decide +kernel
theorem d_Mo_summed_11 : decode m_Mo_summed.2.2.1 11 = .ok (.imul, 1) := by decide +kernel
theorem d_Mo_summed_12 : decode m_Mo_summed.2.2.1 12 = .ok (.aload_n 0, 1) := by decide +kernel
theorem d_Mo_summed_13 : decode m_Mo_summed.2.2.1 13 = .ok (.getfield 13, 3) := by decide +kernel
theorem d_Mo_summed_16 : decode m_Mo_summed.2.2.1 16 = .ok (.iload_n 1, 1) := by decide +kernel
theorem d_Mo_summed_17 : decode m_Mo_summed.2.2.1 17 = .ok (.iaload, 1) := by decide +kernel
theorem d_Mo_summed_18 : decode m_Mo_summed.2.2.1 18 = .ok (.iadd, 1) := by decide +kernel
theorem d_Mo_summed_19 : decode m_Mo_summed.2.2.1 19 = .ok (.if_icmp .ge (49), 3) := by decide +kernel
theorem d_Mo_summed_22 : decode m_Mo_summed.2.2.1 22 = .ok (.iload_n 2, 1) := by decide +kernel
theorem d_Mo_summed_23 : decode m_Mo_summed.2.2.1 23 = .ok (.aload_n 0, 1) := by decide +kernel
theorem d_Mo_summed_24 : decode m_Mo_summed.2.2.1 24 = .ok (.getfield 16, 3) := by decide +kernel
theorem d_Mo_summed_27 : decode m_Mo_summed.2.2.1 27 = .ok (.iload_n 3, 1) := by decide +kernel
theorem d_Mo_summed_28 : decode m_Mo_summed.2.2.1 28 = .ok (.iaload, 1) := by decide +kernel
theorem d_Mo_summed_29 : decode m_Mo_summed.2.2.1 29 = .ok (.aload_n 0, 1) := by decide +kernel
theorem d_Mo_summed_30 : decode m_Mo_summed.2.2.1 30 = .ok (.getfield 58, 3) := by decide +kernel
theorem d_Mo_summed_33 : decode m_Mo_summed.2.2.1 33 = .ok (.aload_n 0, 1) := by decide +kernel
theorem d_Mo_summed_34 : decode m_Mo_summed.2.2.1 34 = .ok (.getfield 19, 3) := by decide +kernel
theorem d_Mo_summed_37 : decode m_Mo_summed.2.2.1 37 = .ok (.iload_n 3, 1) := by decide +kernel
theorem d_Mo_summed_38 : decode m_Mo_summed.2.2.1 38 = .ok (.iaload, 1) := by decide +kernel
theorem d_Mo_summed_39 : decode m_Mo_summed.2.2.1 39 = .ok (.iaload, 1) := by decide +kernel
theorem d_Mo_summed_40 : decode m_Mo_summed.2.2.1 40 = .ok (.aload_n 0, 1) := by decide +kernel
theorem d_Mo_summed_41 : decode m_Mo_summed.2.2.1 41 = .ok (.getfield 58, 3) := by decide +kernel
theorem d_Mo_summed_44 : decode m_Mo_summed.2.2.1 44 = .ok (.aload_n 0, 1) := by decide +kernel
theorem d_Mo_summed_45 : decode m_Mo_summed.2.2.1 45 = .ok (.getfield 22, 3) := by decide +kernel
theorem d_Mo_summed_48 : decode m_Mo_summed.2.2.1 48 = .ok (.iload_n 3, 1) := by decide +kernel
theorem d_Mo_summed_49 : decode m_Mo_summed.2.2.1 49 = .ok (.iaload, 1) := by decide +kernel
theorem d_Mo_summed_50 : decode m_Mo_summed.2.2.1 50 = .ok (.iaload, 1) := by decide +kernel
theorem d_Mo_summed_51 : decode m_Mo_summed.2.2.1 51 = .ok (.invokestatic 65, 3) := by decide +kernel
theorem d_Mo_summed_54 : decode m_Mo_summed.2.2.1 54 = .ok (.invokestatic 65, 3) := by decide +kernel
theorem d_Mo_summed_57 : decode m_Mo_summed.2.2.1 57 = .ok (.iadd, 1) := by decide +kernel
theorem d_Mo_summed_58 : decode m_Mo_summed.2.2.1 58 = .ok (.invokestatic 91, 3) := by decide +kernel
theorem d_Mo_summed_61 : decode m_Mo_summed.2.2.1 61 = .ok (.istore_n 2, 1) := by decide +kernel
theorem d_Mo_summed_62 : decode m_Mo_summed.2.2.1 62 = .ok (.iinc 3 (1), 3) := by decide +kernel
theorem d_Mo_summed_65 : decode m_Mo_summed.2.2.1 65 = .ok (.goto (-58), 3) := by decide +kernel
theorem d_Mo_summed_68 : decode m_Mo_summed.2.2.1 68 = .ok (.iload_n 2, 1) := by decide +kernel
theorem d_Mo_summed_69 : decode m_Mo_summed.2.2.1 69 = .ok (.ireturn, 1) := by decide +kernel
theorem d_Mo_letters_0 : decode m_Mo_letters.2.2.1 0 = .ok (.aload_n 0, 1) := by decide +kernel
theorem d_Mo_letters_1 : decode m_Mo_letters.2.2.1 1 = .ok (.getfield 58, 3) := by decide +kernel
theorem d_Mo_letters_4 : decode m_Mo_letters.2.2.1 4 = .ok (.iconst 0, 1) := by decide +kernel
theorem d_Mo_letters_5 : decode m_Mo_letters.2.2.1 5 = .ok (.iconst 1, 1) := by decide +kernel
theorem d_Mo_letters_6 : decode m_Mo_letters.2.2.1 6 = .ok (.iastore, 1) := by decide +kernel
theorem d_Mo_letters_7 : decode m_Mo_letters.2.2.1 7 = .ok (.aload_n 0, 1) := by decide +kernel
theorem d_Mo_letters_8 : decode m_Mo_letters.2.2.1 8 = .ok (.getfield 58, 3) := by decide +kernel
theorem d_Mo_letters_11 : decode m_Mo_letters.2.2.1 11 = .ok (.iconst 1, 1) := by decide +kernel
theorem d_Mo_letters_12 : decode m_Mo_letters.2.2.1 12 = .ok (.iload_n 1, 1) := by decide +kernel
theorem d_Mo_letters_13 : decode m_Mo_letters.2.2.1 13 = .ok (.iastore, 1) := by decide +kernel
theorem d_Mo_letters_14 : decode m_Mo_letters.2.2.1 14 = .ok (.aload_n 0, 1) := by decide +kernel
theorem d_Mo_letters_15 : decode m_Mo_letters.2.2.1 15 = .ok (.getfield 58, 3) := by decide +kernel
theorem d_Mo_letters_18 : decode m_Mo_letters.2.2.1 18 = .ok (.iconst 2, 1) := by decide +kernel
theorem d_Mo_letters_19 : decode m_Mo_letters.2.2.1 19 = .ok (.iload_n 2, 1) := by decide +kernel
theorem d_Mo_letters_20 : decode m_Mo_letters.2.2.1 20 = .ok (.iastore, 1) := by decide +kernel
theorem d_Mo_letters_21 : decode m_Mo_letters.2.2.1 21 = .ok (.aload_n 0, 1) := by decide +kernel
theorem d_Mo_letters_22 : decode m_Mo_letters.2.2.1 22 = .ok (.getfield 58, 3) := by decide +kernel
theorem d_Mo_letters_25 : decode m_Mo_letters.2.2.1 25 = .ok (.iconst 3, 1) := by decide +kernel
theorem d_Mo_letters_26 : decode m_Mo_letters.2.2.1 26 = .ok (.iload_n 3, 1) := by decide +kernel
theorem d_Mo_letters_27 : decode m_Mo_letters.2.2.1 27 = .ok (.iastore, 1) := by decide +kernel
theorem d_Mo_letters_28 : decode m_Mo_letters.2.2.1 28 = .ok (.aload_n 0, 1) := by decide +kernel
theorem d_Mo_letters_29 : decode m_Mo_letters.2.2.1 29 = .ok (.getfield 58, 3) := by decide +kernel
theorem d_Mo_letters_32 : decode m_Mo_letters.2.2.1 32 = .ok (.iconst 4, 1) := by decide +kernel
theorem d_Mo_letters_33 : decode m_Mo_letters.2.2.1 33 = .ok (.iload 4, 2) := by decide +kernel
theorem d_Mo_letters_35 : decode m_Mo_letters.2.2.1 35 = .ok (.iastore, 1) := by decide +kernel
theorem d_Mo_letters_36 : decode m_Mo_letters.2.2.1 36 = .ok (.return_, 1) := by decide +kernel
theorem d_Mo_isWrong_0 : decode m_Mo_isWrong.2.2.1 0 = .ok (.iconst 0, 1) := by decide +kernel
theorem d_Mo_isWrong_1 : decode m_Mo_isWrong.2.2.1 1 = .ok (.istore_n 2, 1) := by decide +kernel
theorem d_Mo_isWrong_2 : decode m_Mo_isWrong.2.2.1 2 = .ok (.iload_n 1, 1) := by decide +kernel
theorem d_Mo_isWrong_3 : decode m_Mo_isWrong.2.2.1 3 = .ok (.bipush (7), 2) := by decide +kernel
theorem d_Mo_isWrong_5 : decode m_Mo_isWrong.2.2.1 5 = .ok (.if_icmp .ge (61), 3) := by decide +kernel
theorem d_Mo_isWrong_8 : decode m_Mo_isWrong.2.2.1 8 = .ok (.aload_n 0, 1) := by decide +kernel
theorem d_Mo_isWrong_9 : decode m_Mo_isWrong.2.2.1 9 = .ok (.aload_n 0, 1) := by decide +kernel
theorem d_Mo_isWrong_10 : decode m_Mo_isWrong.2.2.1 10 = .ok (.getfield 7, 3) := by decide +kernel
theorem d_Mo_isWrong_13 : decode m_Mo_isWrong.2.2.1 13 = .ok (.iload_n 1, 1) := by decide +kernel
theorem d_Mo_isWrong_14 : decode m_Mo_isWrong.2.2.1 14 = .ok (.iaload, 1) := by decide +kernel
theorem d_Mo_isWrong_15 : decode m_Mo_isWrong.2.2.1 15 = .ok (.aload_n 0, 1) := by decide +kernel
theorem d_Mo_isWrong_16 : decode m_Mo_isWrong.2.2.1 16 = .ok (.getfield 7, 3) := by decide +kernel
theorem d_Mo_isWrong_19 : decode m_Mo_isWrong.2.2.1 19 = .ok (.bipush (8), 2) := by decide +kernel
theorem d_Mo_isWrong_21 : decode m_Mo_isWrong.2.2.1 21 = .ok (.iload_n 1, 1) := by decide +kernel
theorem d_Mo_isWrong_22 : decode m_Mo_isWrong.2.2.1 22 = .ok (.iadd, 1) := by decide +kernel
theorem d_Mo_isWrong_23 : decode m_Mo_isWrong.2.2.1 23 = .ok (.iaload, 1) := by decide +kernel
theorem d_Mo_isWrong_24 : decode m_Mo_isWrong.2.2.1 24 = .ok (.aload_n 0, 1) := by decide +kernel
theorem d_Mo_isWrong_25 : decode m_Mo_isWrong.2.2.1 25 = .ok (.getfield 7, 3) := by decide +kernel
theorem d_Mo_isWrong_28 : decode m_Mo_isWrong.2.2.1 28 = .ok (.iload_n 1, 1) := by decide +kernel
theorem d_Mo_isWrong_29 : decode m_Mo_isWrong.2.2.1 29 = .ok (.iconst 1, 1) := by decide +kernel
theorem d_Mo_isWrong_30 : decode m_Mo_isWrong.2.2.1 30 = .ok (.iadd, 1) := by decide +kernel
theorem d_Mo_isWrong_31 : decode m_Mo_isWrong.2.2.1 31 = .ok (.iaload, 1) := by decide +kernel
theorem d_Mo_isWrong_32 : decode m_Mo_isWrong.2.2.1 32 = .ok (.aload_n 0, 1) := by decide +kernel
theorem d_Mo_isWrong_33 : decode m_Mo_isWrong.2.2.1 33 = .ok (.getfield 7, 3) := by decide +kernel
theorem d_Mo_isWrong_36 : decode m_Mo_isWrong.2.2.1 36 = .ok (.bipush (9), 2) := by decide +kernel
theorem d_Mo_isWrong_38 : decode m_Mo_isWrong.2.2.1 38 = .ok (.iload_n 1, 1) := by decide +kernel
theorem d_Mo_isWrong_39 : decode m_Mo_isWrong.2.2.1 39 = .ok (.iadd, 1) := by decide +kernel
theorem d_Mo_isWrong_40 : decode m_Mo_isWrong.2.2.1 40 = .ok (.iaload, 1) := by decide +kernel
theorem d_Mo_isWrong_41 : decode m_Mo_isWrong.2.2.1 41 = .ok (.invokevirtual 103, 3) := by decide +kernel
theorem d_Mo_isWrong_44 : decode m_Mo_isWrong.2.2.1 44 = .ok (.aload_n 0, 1) := by decide +kernel
theorem d_Mo_isWrong_45 : decode m_Mo_isWrong.2.2.1 45 = .ok (.iconst 0, 1) := by decide +kernel
theorem d_Mo_isWrong_46 : decode m_Mo_isWrong.2.2.1 46 = .ok (.invokevirtual 107, 3) := by decide +kernel
theorem d_Mo_isWrong_49 : decode m_Mo_isWrong.2.2.1 49 = .ok (.ifCond .ne (11), 3) := by decide +kernel
theorem d_Mo_isWrong_52 : decode m_Mo_isWrong.2.2.1 52 = .ok (.aload_n 0, 1) := by decide +kernel
theorem d_Mo_isWrong_53 : decode m_Mo_isWrong.2.2.1 53 = .ok (.iconst 1, 1) := by decide +kernel
theorem d_Mo_isWrong_54 : decode m_Mo_isWrong.2.2.1 54 = .ok (.invokevirtual 107, 3) := by decide +kernel
theorem d_Mo_isWrong_57 : decode m_Mo_isWrong.2.2.1 57 = .ok (.ifCond .eq (7), 3) := by decide +kernel
theorem d_Mo_isWrong_60 : decode m_Mo_isWrong.2.2.1 60 = .ok (.iconst 1, 1) := by decide +kernel
theorem d_Mo_isWrong_61 : decode m_Mo_isWrong.2.2.1 61 = .ok (.goto (4), 3) := by decide +kernel
theorem d_Mo_isWrong_64 : decode m_Mo_isWrong.2.2.1 64 = .ok (.iconst 0, 1) := by decide +kernel
theorem d_Mo_isWrong_65 : decode m_Mo_isWrong.2.2.1 65 = .ok (.istore_n 2, 1) := by decide +kernel
theorem d_Mo_isWrong_66 : decode m_Mo_isWrong.2.2.1 66 = .ok (.iconst 0, 1) := by decide +kernel
theorem d_Mo_isWrong_67 : decode m_Mo_isWrong.2.2.1 67 = .ok (.istore_n 3, 1) := by decide +kernel
theorem d_Mo_isWrong_68 : decode m_Mo_isWrong.2.2.1 68 = .ok (.iload_n 3, 1) := by decide +kernel
theorem d_Mo_isWrong_69 : decode m_Mo_isWrong.2.2.1 69 = .ok (.aload_n 0, 1) := by decide +kernel
theorem d_Mo_isWrong_70 : decode m_Mo_isWrong.2.2.1 70 = .ok (.getfield 84, 3) := by decide +kernel
theorem d_Mo_isWrong_73 : decode m_Mo_isWrong.2.2.1 73 = .ok (.if_icmp .ge (54), 3) := by decide +kernel
theorem d_Mo_isWrong_76 : decode m_Mo_isWrong.2.2.1 76 = .ok (.iload_n 2, 1) := by decide +kernel
theorem d_Mo_isWrong_77 : decode m_Mo_isWrong.2.2.1 77 = .ok (.ifCond .ne (38), 3) := by decide +kernel
theorem d_Mo_isWrong_80 : decode m_Mo_isWrong.2.2.1 80 = .ok (.aload_n 0, 1) := by decide +kernel
theorem d_Mo_isWrong_81 : decode m_Mo_isWrong.2.2.1 81 = .ok (.getfield 28, 3) := by decide +kernel
theorem d_Mo_isWrong_84 : decode m_Mo_isWrong.2.2.1 84 = .ok (.iload_n 3, 1) := by decide +kernel
theorem d_Mo_isWrong_85 : decode m_Mo_isWrong.2.2.1 85 = .ok (.iaload, 1) := by decide +kernel
theorem d_Mo_isWrong_86 : decode m_Mo_isWrong.2.2.1 86 = .ok (.iload_n 1, 1) := by decide +kernel
theorem d_Mo_isWrong_87 : decode m_Mo_isWrong.2.2.1 87 = .ok (.if_icmp .ne (32), 3) := by decide +kernel
theorem d_Mo_isWrong_90 : decode m_Mo_isWrong.2.2.1 90 = .ok (.aload_n 0, 1) := by decide +kernel
theorem d_Mo_isWrong_91 : decode m_Mo_isWrong.2.2.1 91 = .ok (.getfield 7, 3) := by decide +kernel
theorem d_Mo_isWrong_94 : decode m_Mo_isWrong.2.2.1 94 = .ok (.bipush (8), 2) := by decide +kernel
theorem d_Mo_isWrong_96 : decode m_Mo_isWrong.2.2.1 96 = .ok (.aload_n 0, 1) := by decide +kernel
theorem d_Mo_isWrong_97 : decode m_Mo_isWrong.2.2.1 97 = .ok (.getfield 25, 3) := by decide +kernel
theorem d_Mo_isWrong_100 : decode m_Mo_isWrong.2.2.1 100 = .ok (.iload_n 3, 1) := by decide +kernel
theorem d_Mo_isWrong_101 : decode m_Mo_isWrong.2.2.1 101 = .ok (.iaload, 1) := by decide +kernel
theorem d_Mo_isWrong_102 : decode m_Mo_isWrong.2.2.1 102 = .ok (.imul, 1) := by decide +kernel
theorem d_Mo_isWrong_103 : decode m_Mo_isWrong.2.2.1 103 = .ok (.iload_n 1, 1) := by decide +kernel
theorem d_Mo_isWrong_104 : decode m_Mo_isWrong.2.2.1 104 = .ok (.iadd, 1) := by decide +kernel
theorem d_Mo_isWrong_105 : decode m_Mo_isWrong.2.2.1 105 = .ok (.iaload, 1) := by decide +kernel
theorem d_Mo_isWrong_106 : decode m_Mo_isWrong.2.2.1 106 = .ok (.aload_n 0, 1) := by decide +kernel
theorem d_Mo_isWrong_107 : decode m_Mo_isWrong.2.2.1 107 = .ok (.getfield 31, 3) := by decide +kernel
theorem d_Mo_isWrong_110 : decode m_Mo_isWrong.2.2.1 110 = .ok (.iload_n 3, 1) := by decide +kernel
theorem d_Mo_isWrong_111 : decode m_Mo_isWrong.2.2.1 111 = .ok (.iaload, 1) := by decide +kernel
theorem d_Mo_isWrong_112 : decode m_Mo_isWrong.2.2.1 112 = .ok (.if_icmp .eq (7), 3) := by decide +kernel
theorem d_Mo_isWrong_115 : decode m_Mo_isWrong.2.2.1 115 = .ok (.iconst 1, 1) := by decide +kernel
theorem d_Mo_isWrong_116 : decode m_Mo_isWrong.2.2.1 116 = .ok (.goto (4), 3) := by decide +kernel
theorem d_Mo_isWrong_119 : decode m_Mo_isWrong.2.2.1 119 = .ok (.iconst 0, 1) := by decide +kernel
theorem d_Mo_isWrong_120 : decode m_Mo_isWrong.2.2.1 120 = .ok (.istore_n 2, 1) := by decide +kernel
theorem d_Mo_isWrong_121 : decode m_Mo_isWrong.2.2.1 121 = .ok (.iinc 3 (1), 3) := by decide +kernel
theorem d_Mo_isWrong_124 : decode m_Mo_isWrong.2.2.1 124 = .ok (.goto (-56), 3) := by decide +kernel
theorem d_Mo_isWrong_127 : decode m_Mo_isWrong.2.2.1 127 = .ok (.iload_n 2, 1) := by decide +kernel
theorem d_Mo_isWrong_128 : decode m_Mo_isWrong.2.2.1 128 = .ok (.ireturn, 1) := by decide +kernel
theorem d_Mo_wrong_0 : decode m_Mo_wrong.2.2.1 0 = .ok (.iconst 0, 1) := by decide +kernel
theorem d_Mo_wrong_1 : decode m_Mo_wrong.2.2.1 1 = .ok (.istore_n 1, 1) := by decide +kernel
theorem d_Mo_wrong_2 : decode m_Mo_wrong.2.2.1 2 = .ok (.iload_n 1, 1) := by decide +kernel
theorem d_Mo_wrong_3 : decode m_Mo_wrong.2.2.1 3 = .ok (.bipush (8), 2) := by decide +kernel
theorem d_Mo_wrong_5 : decode m_Mo_wrong.2.2.1 5 = .ok (.if_icmp .ge (19), 3) := by decide +kernel
theorem d_Mo_wrong_8 : decode m_Mo_wrong.2.2.1 8 = .ok (.aload_n 0, 1) := by decide +kernel
theorem d_Mo_wrong_9 : decode m_Mo_wrong.2.2.1 9 = .ok (.iload_n 1, 1) := by decide +kernel
theorem d_Mo_wrong_10 : decode m_Mo_wrong.2.2.1 10 = .ok (.invokevirtual 110, 3) := by decide +kernel
theorem d_Mo_wrong_13 : decode m_Mo_wrong.2.2.1 13 = .ok (.ifCond .eq (5), 3) := by decide +kernel
theorem d_Mo_wrong_16 : decode m_Mo_wrong.2.2.1 16 = .ok (.iload_n 1, 1) := by decide +kernel
theorem d_Mo_wrong_17 : decode m_Mo_wrong.2.2.1 17 = .ok (.ireturn, 1) := by decide +kernel
theorem d_Mo_wrong_18 : decode m_Mo_wrong.2.2.1 18 = .ok (.iinc 1 (1), 3) := by decide +kernel
theorem d_Mo_wrong_21 : decode m_Mo_wrong.2.2.1 21 = .ok (.goto (-19), 3) := by decide +kernel
theorem d_Mo_wrong_24 : decode m_Mo_wrong.2.2.1 24 = .ok (.bipush (-2), 2) := by decide +kernel
theorem d_Mo_wrong_26 : decode m_Mo_wrong.2.2.1 26 = .ok (.ireturn, 1) := by decide +kernel
theorem d_Mo_composition_0 : decode m_Mo_composition.2.2.1 0 = .ok (.aload_n 0, 1) := by decide +kernel
theorem d_Mo_composition_1 : decode m_Mo_composition.2.2.1 1 = .ok (.iload_n 1, 1) := by decide +kernel
theorem d_Mo_composition_2 : decode m_Mo_composition.2.2.1 2 = .ok (.invokevirtual 97, 3) := by decide +kernel
theorem d_Mo_composition_5 : decode m_Mo_composition.2.2.1 5 = .ok (.istore_n 2, 1) := by decide +kernel
theorem d_Mo_composition_6 : decode m_Mo_composition.2.2.1 6 = .ok (.iconst 0, 1) := by decide +kernel
theorem d_Mo_composition_7 : decode m_Mo_composition.2.2.1 7 = .ok (.istore_n 3, 1) := by decide +kernel
theorem d_Mo_composition_8 : decode m_Mo_composition.2.2.1 8 = .ok (.iconst 1, 1) := by decide +kernel
theorem d_Mo_composition_9 : decode m_Mo_composition.2.2.1 9 = .ok (.istore 4, 2) := by decide +kernel
theorem d_Mo_composition_11 : decode m_Mo_composition.2.2.1 11 = .ok (.iconst 0, 1) := by decide +kernel
theorem d_Mo_composition_12 : decode m_Mo_composition.2.2.1 12 = .ok (.istore 5, 2) := by decide +kernel
theorem d_Mo_composition_14 : decode m_Mo_composition.2.2.1 14 = .ok (.iload 5, 2) := by decide +kernel
theorem d_Mo_composition_16 : decode m_Mo_composition.2.2.1 16 = .ok (.aload_n 0, 1) := by decide +kernel
theorem d_Mo_composition_17 : decode m_Mo_composition.2.2.1 17 = .ok (.invokevirtual 113, 3) := by decide +kernel
theorem d_Mo_composition_20 : decode m_Mo_composition.2.2.1 20 = .ok (.if_icmp .ge (76), 3) := by decide +kernel
theorem d_Mo_composition_23 : decode m_Mo_composition.2.2.1 23 = .ok (.aload_n 0, 1) := by decide +kernel
theorem d_Mo_composition_24 : decode m_Mo_composition.2.2.1 24 = .ok (.iload 5, 2) := by decide +kernel
theorem d_Mo_composition_26 : decode m_Mo_composition.2.2.1 26 = .ok (.invokevirtual 107, 3) := by decide +kernel
theorem d_Mo_composition_29 : decode m_Mo_composition.2.2.1 29 = .ok (.iload_n 2, 1) := by decide +kernel
theorem d_Mo_composition_30 : decode m_Mo_composition.2.2.1 30 = .ok (.aload_n 0, 1) := by decide +kernel
theorem d_Mo_composition_31 : decode m_Mo_composition.2.2.1 31 = .ok (.bipush (7), 2) := by decide +kernel
theorem d_Mo_composition_33 : decode m_Mo_composition.2.2.1 33 = .ok (.invokevirtual 88, 3) := by decide +kernel
theorem d_Mo_composition_36 : decode m_Mo_composition.2.2.1 36 = .ok (.isub, 1) := by decide +kernel
theorem d_Mo_composition_37 : decode m_Mo_composition.2.2.1 37 = .ok (.invokestatic 91, 3) := by decide +kernel
theorem d_Mo_composition_40 : decode m_Mo_composition.2.2.1 40 = .ok (.invokestatic 65, 3) := by decide +kernel
theorem d_Mo_composition_43 : decode m_Mo_composition.2.2.1 43 = .ok (.istore 6, 2) := by decide +kernel
theorem d_Mo_composition_45 : decode m_Mo_composition.2.2.1 45 = .ok (.iload 6, 2) := by decide +kernel
theorem d_Mo_composition_47 : decode m_Mo_composition.2.2.1 47 = .ok (.iload_n 2, 1) := by decide +kernel
theorem d_Mo_composition_48 : decode m_Mo_composition.2.2.1 48 = .ok (.bipush (8), 2) := by decide +kernel
theorem d_Mo_composition_50 : decode m_Mo_composition.2.2.1 50 = .ok (.invokestatic 61, 3) := by decide +kernel
theorem d_Mo_composition_53 : decode m_Mo_composition.2.2.1 53 = .ok (.iconst 1, 1) := by decide +kernel
theorem d_Mo_composition_54 : decode m_Mo_composition.2.2.1 54 = .ok (.isub, 1) := by decide +kernel
theorem d_Mo_composition_55 : decode m_Mo_composition.2.2.1 55 = .ok (.invokestatic 91, 3) := by decide +kernel
theorem d_Mo_composition_58 : decode m_Mo_composition.2.2.1 58 = .ok (.invokestatic 94, 3) := by decide +kernel
theorem d_Mo_composition_61 : decode m_Mo_composition.2.2.1 61 = .ok (.invokestatic 65, 3) := by decide +kernel
theorem d_Mo_composition_64 : decode m_Mo_composition.2.2.1 64 = .ok (.istore 6, 2) := by decide +kernel
theorem d_Mo_composition_66 : decode m_Mo_composition.2.2.1 66 = .ok (.iload_n 3, 1) := by decide +kernel
theorem d_Mo_composition_67 : decode m_Mo_composition.2.2.1 67 = .ok (.iload 4, 2) := by decide +kernel
theorem d_Mo_composition_69 : decode m_Mo_composition.2.2.1 69 = .ok (.iload 6, 2) := by decide +kernel
theorem d_Mo_composition_71 : decode m_Mo_composition.2.2.1 71 = .ok (.invokestatic 65, 3) := by decide +kernel
theorem d_Mo_composition_74 : decode m_Mo_composition.2.2.1 74 = .ok (.iadd, 1) := by decide +kernel
theorem d_Mo_composition_75 : decode m_Mo_composition.2.2.1 75 = .ok (.invokestatic 91, 3) := by decide +kernel
theorem d_Mo_composition_78 : decode m_Mo_composition.2.2.1 78 = .ok (.istore_n 3, 1) := by decide +kernel
theorem d_Mo_composition_79 : decode m_Mo_composition.2.2.1 79 = .ok (.iload 4, 2) := by decide +kernel
theorem d_Mo_composition_81 : decode m_Mo_composition.2.2.1 81 = .ok (.aload_n 0, 1) := by decide +kernel
theorem d_Mo_composition_82 : decode m_Mo_composition.2.2.1 82 = .ok (.getfield 117, 3) := by decide +kernel
theorem d_Mo_composition_85 : decode m_Mo_composition.2.2.1 85 = .ok (.invokestatic 65, 3) := by decide +kernel
theorem d_Mo_composition_88 : decode m_Mo_composition.2.2.1 88 = .ok (.istore 4, 2) := by decide +kernel
theorem d_Mo_composition_90 : decode m_Mo_composition.2.2.1 90 = .ok (.iinc 5 (1), 3) := by decide +kernel
theorem d_Mo_composition_93 : decode m_Mo_composition.2.2.1 93 = .ok (.goto (-79), 3) := by decide +kernel
theorem d_Mo_composition_96 : decode m_Mo_composition.2.2.1 96 = .ok (.iconst 0, 1) := by decide +kernel
theorem d_Mo_composition_97 : decode m_Mo_composition.2.2.1 97 = .ok (.istore 5, 2) := by decide +kernel
theorem d_Mo_composition_99 : decode m_Mo_composition.2.2.1 99 = .ok (.iload 5, 2) := by decide +kernel
theorem d_Mo_composition_101 : decode m_Mo_composition.2.2.1 101 = .ok (.aload_n 0, 1) := by decide +kernel
theorem d_Mo_composition_102 : decode m_Mo_composition.2.2.1 102 = .ok (.getfield 84, 3) := by decide +kernel
theorem d_Mo_composition_105 : decode m_Mo_composition.2.2.1 105 = .ok (.if_icmp .ge (86), 3) := by decide +kernel
theorem d_Mo_composition_108 : decode m_Mo_composition.2.2.1 108 = .ok (.aload_n 0, 1) := by decide +kernel
theorem d_Mo_composition_109 : decode m_Mo_composition.2.2.1 109 = .ok (.getfield 58, 3) := by decide +kernel
theorem d_Mo_composition_112 : decode m_Mo_composition.2.2.1 112 = .ok (.iconst 1, 1) := by decide +kernel
theorem d_Mo_composition_113 : decode m_Mo_composition.2.2.1 113 = .ok (.aload_n 0, 1) := by decide +kernel
theorem d_Mo_composition_114 : decode m_Mo_composition.2.2.1 114 = .ok (.getfield 25, 3) := by decide +kernel
theorem d_Mo_composition_117 : decode m_Mo_composition.2.2.1 117 = .ok (.iload 5, 2) := by decide +kernel
theorem d_Mo_composition_119 : decode m_Mo_composition.2.2.1 119 = .ok (.iaload, 1) := by decide +kernel
theorem d_Mo_composition_120 : decode m_Mo_composition.2.2.1 120 = .ok (.iadd, 1) := by decide +kernel
theorem d_Mo_composition_121 : decode m_Mo_composition.2.2.1 121 = .ok (.iaload, 1) := by decide +kernel
theorem d_Mo_composition_122 : decode m_Mo_composition.2.2.1 122 = .ok (.aload_n 0, 1) := by decide +kernel
theorem d_Mo_composition_123 : decode m_Mo_composition.2.2.1 123 = .ok (.getfield 31, 3) := by decide +kernel
theorem d_Mo_composition_126 : decode m_Mo_composition.2.2.1 126 = .ok (.iload 5, 2) := by decide +kernel
theorem d_Mo_composition_128 : decode m_Mo_composition.2.2.1 128 = .ok (.iaload, 1) := by decide +kernel
theorem d_Mo_composition_129 : decode m_Mo_composition.2.2.1 129 = .ok (.isub, 1) := by decide +kernel
theorem d_Mo_composition_130 : decode m_Mo_composition.2.2.1 130 = .ok (.invokestatic 91, 3) := by decide +kernel
theorem d_Mo_composition_133 : decode m_Mo_composition.2.2.1 133 = .ok (.istore 6, 2) := by decide +kernel
theorem d_Mo_composition_135 : decode m_Mo_composition.2.2.1 135 = .ok (.iload 6, 2) := by decide +kernel
theorem d_Mo_composition_137 : decode m_Mo_composition.2.2.1 137 = .ok (.iload_n 2, 1) := by decide +kernel
theorem d_Mo_composition_138 : decode m_Mo_composition.2.2.1 138 = .ok (.aload_n 0, 1) := by decide +kernel
theorem d_Mo_composition_139 : decode m_Mo_composition.2.2.1 139 = .ok (.aload_n 0, 1) := by decide +kernel
theorem d_Mo_composition_140 : decode m_Mo_composition.2.2.1 140 = .ok (.getfield 28, 3) := by decide +kernel
theorem d_Mo_composition_143 : decode m_Mo_composition.2.2.1 143 = .ok (.iload 5, 2) := by decide +kernel
theorem d_Mo_composition_145 : decode m_Mo_composition.2.2.1 145 = .ok (.iaload, 1) := by decide +kernel
theorem d_Mo_composition_146 : decode m_Mo_composition.2.2.1 146 = .ok (.invokevirtual 88, 3) := by decide +kernel
theorem d_Mo_composition_149 : decode m_Mo_composition.2.2.1 149 = .ok (.isub, 1) := by decide +kernel
theorem d_Mo_composition_150 : decode m_Mo_composition.2.2.1 150 = .ok (.invokestatic 91, 3) := by decide +kernel
theorem d_Mo_composition_153 : decode m_Mo_composition.2.2.1 153 = .ok (.invokestatic 94, 3) := by decide +kernel
theorem d_Mo_composition_156 : decode m_Mo_composition.2.2.1 156 = .ok (.invokestatic 65, 3) := by decide +kernel
theorem d_Mo_composition_159 : decode m_Mo_composition.2.2.1 159 = .ok (.istore 6, 2) := by decide +kernel
theorem d_Mo_composition_161 : decode m_Mo_composition.2.2.1 161 = .ok (.iload_n 3, 1) := by decide +kernel
theorem d_Mo_composition_162 : decode m_Mo_composition.2.2.1 162 = .ok (.iload 4, 2) := by decide +kernel
theorem d_Mo_composition_164 : decode m_Mo_composition.2.2.1 164 = .ok (.iload 6, 2) := by decide +kernel
theorem d_Mo_composition_166 : decode m_Mo_composition.2.2.1 166 = .ok (.invokestatic 65, 3) := by decide +kernel
theorem d_Mo_composition_169 : decode m_Mo_composition.2.2.1 169 = .ok (.iadd, 1) := by decide +kernel
theorem d_Mo_composition_170 : decode m_Mo_composition.2.2.1 170 = .ok (.invokestatic 91, 3) := by decide +kernel
theorem d_Mo_composition_173 : decode m_Mo_composition.2.2.1 173 = .ok (.istore_n 3, 1) := by decide +kernel
theorem d_Mo_composition_174 : decode m_Mo_composition.2.2.1 174 = .ok (.iload 4, 2) := by decide +kernel
theorem d_Mo_composition_176 : decode m_Mo_composition.2.2.1 176 = .ok (.aload_n 0, 1) := by decide +kernel
theorem d_Mo_composition_177 : decode m_Mo_composition.2.2.1 177 = .ok (.getfield 117, 3) := by decide +kernel
theorem d_Mo_composition_180 : decode m_Mo_composition.2.2.1 180 = .ok (.invokestatic 65, 3) := by decide +kernel
theorem d_Mo_composition_183 : decode m_Mo_composition.2.2.1 183 = .ok (.istore 4, 2) := by decide +kernel
theorem d_Mo_composition_185 : decode m_Mo_composition.2.2.1 185 = .ok (.iinc 5 (1), 3) := by decide +kernel
theorem d_Mo_composition_188 : decode m_Mo_composition.2.2.1 188 = .ok (.goto (-89), 3) := by decide +kernel
theorem d_Mo_composition_191 : decode m_Mo_composition.2.2.1 191 = .ok (.iload_n 3, 1) := by decide +kernel
theorem d_Mo_composition_192 : decode m_Mo_composition.2.2.1 192 = .ok (.ireturn, 1) := by decide +kernel
theorem d_Mo_folded_0 : decode m_Mo_folded.2.2.1 0 = .ok (.aload_n 0, 1) := by decide +kernel
theorem d_Mo_folded_1 : decode m_Mo_folded.2.2.1 1 = .ok (.iload_n 2, 1) := by decide +kernel
theorem d_Mo_folded_2 : decode m_Mo_folded.2.2.1 2 = .ok (.invokevirtual 97, 3) := by decide +kernel
theorem d_Mo_folded_5 : decode m_Mo_folded.2.2.1 5 = .ok (.iconst 1, 1) := by decide +kernel
theorem d_Mo_folded_6 : decode m_Mo_folded.2.2.1 6 = .ok (.iload_n 1, 1) := by decide +kernel
theorem d_Mo_folded_7 : decode m_Mo_folded.2.2.1 7 = .ok (.ishl, 1) := by decide +kernel
theorem d_Mo_folded_8 : decode m_Mo_folded.2.2.1 8 = .ok (.invokestatic 61, 3) := by decide +kernel
theorem d_Mo_folded_11 : decode m_Mo_folded.2.2.1 11 = .ok (.istore 5, 2) := by decide +kernel
theorem d_Mo_folded_13 : decode m_Mo_folded.2.2.1 13 = .ok (.iload_n 3, 1) := by decide +kernel
theorem d_Mo_folded_14 : decode m_Mo_folded.2.2.1 14 = .ok (.iload 4, 2) := by decide +kernel
theorem d_Mo_folded_16 : decode m_Mo_folded.2.2.1 16 = .ok (.iadd, 1) := by decide +kernel
theorem d_Mo_folded_17 : decode m_Mo_folded.2.2.1 17 = .ok (.invokestatic 91, 3) := by decide +kernel
theorem d_Mo_folded_20 : decode m_Mo_folded.2.2.1 20 = .ok (.iconst 2, 1) := by decide +kernel
theorem d_Mo_folded_21 : decode m_Mo_folded.2.2.1 21 = .ok (.invokestatic 94, 3) := by decide +kernel
theorem d_Mo_folded_24 : decode m_Mo_folded.2.2.1 24 = .ok (.invokestatic 65, 3) := by decide +kernel
theorem d_Mo_folded_27 : decode m_Mo_folded.2.2.1 27 = .ok (.istore 6, 2) := by decide +kernel
theorem d_Mo_folded_29 : decode m_Mo_folded.2.2.1 29 = .ok (.iload 6, 2) := by decide +kernel
theorem d_Mo_folded_31 : decode m_Mo_folded.2.2.1 31 = .ok (.aload_n 0, 1) := by decide +kernel
theorem d_Mo_folded_32 : decode m_Mo_folded.2.2.1 32 = .ok (.getfield 37, 3) := by decide +kernel
theorem d_Mo_folded_35 : decode m_Mo_folded.2.2.1 35 = .ok (.iload_n 1, 1) := by decide +kernel
theorem d_Mo_folded_36 : decode m_Mo_folded.2.2.1 36 = .ok (.iaload, 1) := by decide +kernel
theorem d_Mo_folded_37 : decode m_Mo_folded.2.2.1 37 = .ok (.iload_n 3, 1) := by decide +kernel
theorem d_Mo_folded_38 : decode m_Mo_folded.2.2.1 38 = .ok (.iload 4, 2) := by decide +kernel
theorem d_Mo_folded_40 : decode m_Mo_folded.2.2.1 40 = .ok (.isub, 1) := by decide +kernel
theorem d_Mo_folded_41 : decode m_Mo_folded.2.2.1 41 = .ok (.invokestatic 91, 3) := by decide +kernel
theorem d_Mo_folded_44 : decode m_Mo_folded.2.2.1 44 = .ok (.iconst 2, 1) := by decide +kernel
theorem d_Mo_folded_45 : decode m_Mo_folded.2.2.1 45 = .ok (.iload 5, 2) := by decide +kernel
theorem d_Mo_folded_47 : decode m_Mo_folded.2.2.1 47 = .ok (.invokestatic 65, 3) := by decide +kernel
theorem d_Mo_folded_50 : decode m_Mo_folded.2.2.1 50 = .ok (.invokestatic 94, 3) := by decide +kernel
theorem d_Mo_folded_53 : decode m_Mo_folded.2.2.1 53 = .ok (.invokestatic 65, 3) := by decide +kernel
theorem d_Mo_folded_56 : decode m_Mo_folded.2.2.1 56 = .ok (.invokestatic 65, 3) := by decide +kernel
theorem d_Mo_folded_59 : decode m_Mo_folded.2.2.1 59 = .ok (.iadd, 1) := by decide +kernel
theorem d_Mo_folded_60 : decode m_Mo_folded.2.2.1 60 = .ok (.invokestatic 91, 3) := by decide +kernel
theorem d_Mo_folded_63 : decode m_Mo_folded.2.2.1 63 = .ok (.ireturn, 1) := by decide +kernel
theorem d_Mo_tell_0 : decode m_Mo_tell.2.2.1 0 = .ok (.aload_n 0, 1) := by decide +kernel
theorem d_Mo_tell_1 : decode m_Mo_tell.2.2.1 1 = .ok (.aload_n 0, 1) := by decide +kernel
theorem d_Mo_tell_2 : decode m_Mo_tell.2.2.1 2 = .ok (.getfield 120, 3) := by decide +kernel
theorem d_Mo_tell_5 : decode m_Mo_tell.2.2.1 5 = .ok (.iload_n 1, 1) := by decide +kernel
theorem d_Mo_tell_6 : decode m_Mo_tell.2.2.1 6 = .ok (.invokestatic 123, 3) := by decide +kernel
theorem d_Mo_tell_9 : decode m_Mo_tell.2.2.1 9 = .ok (.putfield 120, 3) := by decide +kernel
theorem d_Mo_tell_12 : decode m_Mo_tell.2.2.1 12 = .ok (.return_, 1) := by decide +kernel
theorem d_Mo_challenge_0 : decode m_Mo_challenge.2.2.1 0 = .ok (.aload_n 0, 1) := by decide +kernel
theorem d_Mo_challenge_1 : decode m_Mo_challenge.2.2.1 1 = .ok (.bipush (-7), 2) := by decide +kernel
theorem d_Mo_challenge_3 : decode m_Mo_challenge.2.2.1 3 = .ok (.invokevirtual 126, 3) := by decide +kernel
theorem d_Mo_challenge_6 : decode m_Mo_challenge.2.2.1 6 = .ok (.aload_n 0, 1) := by decide +kernel
theorem d_Mo_challenge_7 : decode m_Mo_challenge.2.2.1 7 = .ok (.getfield 120, 3) := by decide +kernel
theorem d_Mo_challenge_10 : decode m_Mo_challenge.2.2.1 10 = .ok (.ldc 130, 2) := by decide +kernel
theorem d_Mo_challenge_12 : decode m_Mo_challenge.2.2.1 12 = .ok (.iand, 1) := by decide +kernel
theorem d_Mo_challenge_13 : decode m_Mo_challenge.2.2.1 13 = .ok (.sipush (12289), 3) := by decide +kernel
theorem d_Mo_challenge_16 : decode m_Mo_challenge.2.2.1 16 = .ok (.irem, 1) := by decide +kernel
theorem d_Mo_challenge_17 : decode m_Mo_challenge.2.2.1 17 = .ok (.ireturn, 1) := by decide +kernel
theorem d_Mo_tellRules_0 : decode m_Mo_tellRules.2.2.1 0 = .ok (.aload_n 0, 1) := by decide +kernel
theorem d_Mo_tellRules_1 : decode m_Mo_tellRules.2.2.1 1 = .ok (.iconst 1, 1) := by decide +kernel
theorem d_Mo_tellRules_2 : decode m_Mo_tellRules.2.2.1 2 = .ok (.putfield 120, 3) := by decide +kernel
theorem d_Mo_tellRules_5 : decode m_Mo_tellRules.2.2.1 5 = .ok (.aload_n 0, 1) := by decide +kernel
theorem d_Mo_tellRules_6 : decode m_Mo_tellRules.2.2.1 6 = .ok (.aload_n 0, 1) := by decide +kernel
theorem d_Mo_tellRules_7 : decode m_Mo_tellRules.2.2.1 7 = .ok (.invokevirtual 113, 3) := by decide +kernel
theorem d_Mo_tellRules_10 : decode m_Mo_tellRules.2.2.1 10 = .ok (.invokevirtual 126, 3) := by decide +kernel
theorem d_Mo_tellRules_13 : decode m_Mo_tellRules.2.2.1 13 = .ok (.iconst 0, 1) := by decide +kernel
theorem d_Mo_tellRules_14 : decode m_Mo_tellRules.2.2.1 14 = .ok (.istore_n 1, 1) := by decide +kernel
theorem d_Mo_tellRules_15 : decode m_Mo_tellRules.2.2.1 15 = .ok (.iload_n 1, 1) := by decide +kernel
theorem d_Mo_tellRules_16 : decode m_Mo_tellRules.2.2.1 16 = .ok (.aload_n 0, 1) := by decide +kernel
theorem d_Mo_tellRules_17 : decode m_Mo_tellRules.2.2.1 17 = .ok (.invokevirtual 113, 3) := by decide +kernel
theorem d_Mo_tellRules_20 : decode m_Mo_tellRules.2.2.1 20 = .ok (.if_icmp .ge (75), 3) := by decide +kernel
theorem d_Mo_tellRules_23 : decode m_Mo_tellRules.2.2.1 23 = .ok (.aload_n 0, 1) := by decide +kernel
theorem d_Mo_tellRules_24 : decode m_Mo_tellRules.2.2.1 24 = .ok (.aload_n 0, 1) := by decide +kernel
theorem d_Mo_tellRules_25 : decode m_Mo_tellRules.2.2.1 25 = .ok (.getfield 13, 3) := by decide +kernel
theorem d_Mo_tellRules_28 : decode m_Mo_tellRules.2.2.1 28 = .ok (.iload_n 1, 1) := by decide +kernel
theorem d_Mo_tellRules_29 : decode m_Mo_tellRules.2.2.1 29 = .ok (.iaload, 1) := by decide +kernel
theorem d_Mo_tellRules_30 : decode m_Mo_tellRules.2.2.1 30 = .ok (.invokevirtual 126, 3) := by decide +kernel
theorem d_Mo_tellRules_33 : decode m_Mo_tellRules.2.2.1 33 = .ok (.bipush (6), 2) := by decide +kernel
theorem d_Mo_tellRules_35 : decode m_Mo_tellRules.2.2.1 35 = .ok (.iload_n 1, 1) := by decide +kernel
theorem d_Mo_tellRules_36 : decode m_Mo_tellRules.2.2.1 36 = .ok (.imul, 1) := by decide +kernel
theorem d_Mo_tellRules_37 : decode m_Mo_tellRules.2.2.1 37 = .ok (.istore_n 2, 1) := by decide +kernel
theorem d_Mo_tellRules_38 : decode m_Mo_tellRules.2.2.1 38 = .ok (.iload_n 2, 1) := by decide +kernel
theorem d_Mo_tellRules_39 : decode m_Mo_tellRules.2.2.1 39 = .ok (.bipush (6), 2) := by decide +kernel
theorem d_Mo_tellRules_41 : decode m_Mo_tellRules.2.2.1 41 = .ok (.iload_n 1, 1) := by decide +kernel
theorem d_Mo_tellRules_42 : decode m_Mo_tellRules.2.2.1 42 = .ok (.imul, 1) := by decide +kernel
theorem d_Mo_tellRules_43 : decode m_Mo_tellRules.2.2.1 43 = .ok (.aload_n 0, 1) := by decide +kernel
theorem d_Mo_tellRules_44 : decode m_Mo_tellRules.2.2.1 44 = .ok (.getfield 13, 3) := by decide +kernel
theorem d_Mo_tellRules_47 : decode m_Mo_tellRules.2.2.1 47 = .ok (.iload_n 1, 1) := by decide +kernel
theorem d_Mo_tellRules_48 : decode m_Mo_tellRules.2.2.1 48 = .ok (.iaload, 1) := by decide +kernel
theorem d_Mo_tellRules_49 : decode m_Mo_tellRules.2.2.1 49 = .ok (.iadd, 1) := by decide +kernel
theorem d_Mo_tellRules_50 : decode m_Mo_tellRules.2.2.1 50 = .ok (.if_icmp .ge (39), 3) := by decide +kernel
theorem d_Mo_tellRules_53 : decode m_Mo_tellRules.2.2.1 53 = .ok (.aload_n 0, 1) := by decide +kernel
theorem d_Mo_tellRules_54 : decode m_Mo_tellRules.2.2.1 54 = .ok (.aload_n 0, 1) := by decide +kernel
theorem d_Mo_tellRules_55 : decode m_Mo_tellRules.2.2.1 55 = .ok (.getfield 16, 3) := by decide +kernel
theorem d_Mo_tellRules_58 : decode m_Mo_tellRules.2.2.1 58 = .ok (.iload_n 2, 1) := by decide +kernel
theorem d_Mo_tellRules_59 : decode m_Mo_tellRules.2.2.1 59 = .ok (.iaload, 1) := by decide +kernel
theorem d_Mo_tellRules_60 : decode m_Mo_tellRules.2.2.1 60 = .ok (.invokevirtual 126, 3) := by decide +kernel
theorem d_Mo_tellRules_63 : decode m_Mo_tellRules.2.2.1 63 = .ok (.aload_n 0, 1) := by decide +kernel
theorem d_Mo_tellRules_64 : decode m_Mo_tellRules.2.2.1 64 = .ok (.aload_n 0, 1) := by decide +kernel
theorem d_Mo_tellRules_65 : decode m_Mo_tellRules.2.2.1 65 = .ok (.getfield 19, 3) := by decide +kernel
theorem d_Mo_tellRules_68 : decode m_Mo_tellRules.2.2.1 68 = .ok (.iload_n 2, 1) := by decide +kernel
theorem d_Mo_tellRules_69 : decode m_Mo_tellRules.2.2.1 69 = .ok (.iaload, 1) := by decide +kernel
theorem d_Mo_tellRules_70 : decode m_Mo_tellRules.2.2.1 70 = .ok (.invokevirtual 126, 3) := by decide +kernel
theorem d_Mo_tellRules_73 : decode m_Mo_tellRules.2.2.1 73 = .ok (.aload_n 0, 1) := by decide +kernel
theorem d_Mo_tellRules_74 : decode m_Mo_tellRules.2.2.1 74 = .ok (.aload_n 0, 1) := by decide +kernel
theorem d_Mo_tellRules_75 : decode m_Mo_tellRules.2.2.1 75 = .ok (.getfield 22, 3) := by decide +kernel
theorem d_Mo_tellRules_78 : decode m_Mo_tellRules.2.2.1 78 = .ok (.iload_n 2, 1) := by decide +kernel
theorem d_Mo_tellRules_79 : decode m_Mo_tellRules.2.2.1 79 = .ok (.iaload, 1) := by decide +kernel
theorem d_Mo_tellRules_80 : decode m_Mo_tellRules.2.2.1 80 = .ok (.invokevirtual 126, 3) := by decide +kernel
theorem d_Mo_tellRules_83 : decode m_Mo_tellRules.2.2.1 83 = .ok (.iinc 2 (1), 3) := by decide +kernel
theorem d_Mo_tellRules_86 : decode m_Mo_tellRules.2.2.1 86 = .ok (.goto (-48), 3) := by decide +kernel
theorem d_Mo_tellRules_89 : decode m_Mo_tellRules.2.2.1 89 = .ok (.iinc 1 (1), 3) := by decide +kernel
theorem d_Mo_tellRules_92 : decode m_Mo_tellRules.2.2.1 92 = .ok (.goto (-77), 3) := by decide +kernel
theorem d_Mo_tellRules_95 : decode m_Mo_tellRules.2.2.1 95 = .ok (.aload_n 0, 1) := by decide +kernel
theorem d_Mo_tellRules_96 : decode m_Mo_tellRules.2.2.1 96 = .ok (.aload_n 0, 1) := by decide +kernel
theorem d_Mo_tellRules_97 : decode m_Mo_tellRules.2.2.1 97 = .ok (.getfield 84, 3) := by decide +kernel
theorem d_Mo_tellRules_100 : decode m_Mo_tellRules.2.2.1 100 = .ok (.invokevirtual 126, 3) := by decide +kernel
theorem d_Mo_tellRules_103 : decode m_Mo_tellRules.2.2.1 103 = .ok (.iconst 0, 1) := by decide +kernel
theorem d_Mo_tellRules_104 : decode m_Mo_tellRules.2.2.1 104 = .ok (.istore_n 1, 1) := by decide +kernel
theorem d_Mo_tellRules_105 : decode m_Mo_tellRules.2.2.1 105 = .ok (.iload_n 1, 1) := by decide +kernel
theorem d_Mo_tellRules_106 : decode m_Mo_tellRules.2.2.1 106 = .ok (.aload_n 0, 1) := by decide +kernel
theorem d_Mo_tellRules_107 : decode m_Mo_tellRules.2.2.1 107 = .ok (.getfield 84, 3) := by decide +kernel
theorem d_Mo_tellRules_110 : decode m_Mo_tellRules.2.2.1 110 = .ok (.if_icmp .ge (39), 3) := by decide +kernel
