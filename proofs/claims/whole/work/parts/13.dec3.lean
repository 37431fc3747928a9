theorem d_Ru_boundValue_7 : decode m_Ru_boundValue.2.2.1 7 = .ok (.iconst 2, 1) := by decide +kernel
theorem d_Ru_boundValue_8 : decode m_Ru_boundValue.2.2.1 8 = .ok (.iadd, 1) := by decide +kernel
theorem d_Ru_boundValue_9 : decode m_Ru_boundValue.2.2.1 9 = .ok (.iaload, 1) := by decide +kernel
theorem d_Ru_boundValue_10 : decode m_Ru_boundValue.2.2.1 10 = .ok (.ireturn, 1) := by decide +kernel
theorem d_Ta_init_0 : decode m_Ta_init.2.2.1 0 = .ok (.aload_n 0, 1) := by decide +kernel
theorem d_Ta_init_1 : decode m_Ta_init.2.2.1 1 = .ok (.invokespecial 3, 3) := by decide +kernel
theorem d_Ta_init_4 : decode m_Ta_init.2.2.1 4 = .ok (.aload_n 0, 1) := by decide +kernel
theorem d_Ta_init_5 : decode m_Ta_init.2.2.1 5 = .ok (.iconst 2, 1) := by decide +kernel
theorem d_Ta_init_6 : decode m_Ta_init.2.2.1 6 = .ok (.bipush (8), 2) := by decide +kernel
theorem d_Ta_init_8 : decode m_Ta_init.2.2.1 8 = .ok (.multianewarray 9 2, 4) := by decide +kernel
theorem d_Ta_init_12 : decode m_Ta_init.2.2.1 12 = .ok (.putfield 11, 3) := by decide +kernel
theorem d_Ta_init_15 : decode m_Ta_init.2.2.1 15 = .ok (.aload_n 0, 1) := by decide +kernel
theorem d_Ta_init_16 : decode m_Ta_init.2.2.1 16 = .ok (.aload_n 1, 1) := by decide +kernel
theorem d_Ta_init_17 : decode m_Ta_init.2.2.1 17 = .ok (.putfield 16, 3) := by decide +kernel
theorem d_Ta_init_20 : decode m_Ta_init.2.2.1 20 = .ok (.return_, 1) := by decide +kernel
theorem d_Ta_put_0 : decode m_Ta_put.2.2.1 0 = .ok (.aload_n 0, 1) := by decide +kernel
theorem d_Ta_put_1 : decode m_Ta_put.2.2.1 1 = .ok (.getfield 11, 3) := by decide +kernel
theorem d_Ta_put_4 : decode m_Ta_put.2.2.1 4 = .ok (.iload_n 1, 1) := by decide +kernel
theorem d_Ta_put_5 : decode m_Ta_put.2.2.1 5 = .ok (.aaload, 1) := by decide +kernel
theorem d_Ta_put_6 : decode m_Ta_put.2.2.1 6 = .ok (.iload_n 2, 1) := by decide +kernel
theorem d_Ta_put_7 : decode m_Ta_put.2.2.1 7 = .ok (.iload_n 3, 1) := by decide +kernel
theorem d_Ta_put_8 : decode m_Ta_put.2.2.1 8 = .ok (.iastore, 1) := by decide +kernel
theorem d_Ta_put_9 : decode m_Ta_put.2.2.1 9 = .ok (.return_, 1) := by decide +kernel
theorem d_Ta_get_0 : decode m_Ta_get.2.2.1 0 = .ok (.aload_n 0, 1) := by decide +kernel
theorem d_Ta_get_1 : decode m_Ta_get.2.2.1 1 = .ok (.getfield 11, 3) := by decide +kernel
theorem d_Ta_get_4 : decode m_Ta_get.2.2.1 4 = .ok (.iload_n 1, 1) := by decide +kernel
theorem d_Ta_get_5 : decode m_Ta_get.2.2.1 5 = .ok (.aaload, 1) := by decide +kernel
theorem d_Ta_get_6 : decode m_Ta_get.2.2.1 6 = .ok (.iload_n 2, 1) := by decide +kernel
theorem d_Ta_get_7 : decode m_Ta_get.2.2.1 7 = .ok (.iaload, 1) := by decide +kernel
theorem d_Ta_get_8 : decode m_Ta_get.2.2.1 8 = .ok (.ireturn, 1) := by decide +kernel
theorem d_Ta_polynomial_0 : decode m_Ta_polynomial.2.2.1 0 = .ok (.aload_n 0, 1) := by decide +kernel
theorem d_Ta_polynomial_1 : decode m_Ta_polynomial.2.2.1 1 = .ok (.getfield 16, 3) := by decide +kernel
theorem d_Ta_polynomial_4 : decode m_Ta_polynomial.2.2.1 4 = .ok (.aload_n 0, 1) := by decide +kernel
theorem d_Ta_polynomial_5 : decode m_Ta_polynomial.2.2.1 5 = .ok (.getfield 11, 3) := by decide +kernel
theorem d_Ta_polynomial_8 : decode m_Ta_polynomial.2.2.1 8 = .ok (.iload_n 1, 1) := by decide +kernel
theorem d_Ta_polynomial_9 : decode m_Ta_polynomial.2.2.1 9 = .ok (.aaload, 1) := by decide +kernel
theorem d_Ta_polynomial_10 : decode m_Ta_polynomial.2.2.1 10 = .ok (.iload_n 2, 1) := by decide +kernel
theorem d_Ta_polynomial_11 : decode m_Ta_polynomial.2.2.1 11 = .ok (.invokevirtual 20, 3) := by decide +kernel
theorem d_Ta_polynomial_14 : decode m_Ta_polynomial.2.2.1 14 = .ok (.ireturn, 1) := by decide +kernel
theorem d_Tk_init_0 : decode m_Tk_init.2.2.1 0 = .ok (.aload_n 0, 1) := by decide +kernel
theorem d_Tk_init_1 : decode m_Tk_init.2.2.1 1 = .ok (.invokespecial 3, 3) := by decide +kernel
theorem d_Tk_init_4 : decode m_Tk_init.2.2.1 4 = .ok (.aload_n 0, 1) := by decide +kernel
theorem d_Tk_init_5 : decode m_Tk_init.2.2.1 5 = .ok (.iconst 3, 1) := by decide +kernel
theorem d_Tk_init_6 : decode m_Tk_init.2.2.1 6 = .ok (.newarray .int, 2) := by decide +kernel
theorem d_Tk_init_8 : decode m_Tk_init.2.2.1 8 = .ok (.putfield 9, 3) := by decide +kernel
theorem d_Tk_init_11 : decode m_Tk_init.2.2.1 11 = .ok (.aload_n 0, 1) := by decide +kernel
theorem d_Tk_init_12 : decode m_Tk_init.2.2.1 12 = .ok (.iconst 3, 1) := by decide +kernel
theorem d_Tk_init_13 : decode m_Tk_init.2.2.1 13 = .ok (.newarray .int, 2) := by decide +kernel
theorem d_Tk_init_15 : decode m_Tk_init.2.2.1 15 = .ok (.putfield 15, 3) := by decide +kernel
theorem d_Tk_init_18 : decode m_Tk_init.2.2.1 18 = .ok (.return_, 1) := by decide +kernel
theorem d_Tk_tell_0 : decode m_Tk_tell.2.2.1 0 = .ok (.aload_n 0, 1) := by decide +kernel
theorem d_Tk_tell_1 : decode m_Tk_tell.2.2.1 1 = .ok (.aload_n 0, 1) := by decide +kernel
theorem d_Tk_tell_2 : decode m_Tk_tell.2.2.1 2 = .ok (.getfield 18, 3) := by decide +kernel
theorem d_Tk_tell_5 : decode m_Tk_tell.2.2.1 5 = .ok (.iload_n 1, 1) := by decide +kernel
theorem d_Tk_tell_6 : decode m_Tk_tell.2.2.1 6 = .ok (.invokestatic 22, 3) := by decide +kernel
theorem d_Tk_tell_9 : decode m_Tk_tell.2.2.1 9 = .ok (.putfield 18, 3) := by decide +kernel
theorem d_Tk_tell_12 : decode m_Tk_tell.2.2.1 12 = .ok (.return_, 1) := by decide +kernel
theorem d_Tk_draw_0 : decode m_Tk_draw.2.2.1 0 = .ok (.aload_n 0, 1) := by decide +kernel
theorem d_Tk_draw_1 : decode m_Tk_draw.2.2.1 1 = .ok (.iload_n 1, 1) := by decide +kernel
theorem d_Tk_draw_2 : decode m_Tk_draw.2.2.1 2 = .ok (.invokevirtual 26, 3) := by decide +kernel
theorem d_Tk_draw_5 : decode m_Tk_draw.2.2.1 5 = .ok (.aload_n 0, 1) := by decide +kernel
theorem d_Tk_draw_6 : decode m_Tk_draw.2.2.1 6 = .ok (.getfield 18, 3) := by decide +kernel
theorem d_Tk_draw_9 : decode m_Tk_draw.2.2.1 9 = .ok (.ldc 30, 2) := by decide +kernel
theorem d_Tk_draw_11 : decode m_Tk_draw.2.2.1 11 = .ok (.iand, 1) := by decide +kernel
theorem d_Tk_draw_12 : decode m_Tk_draw.2.2.1 12 = .ok (.iload_n 2, 1) := by decide +kernel
theorem d_Tk_draw_13 : decode m_Tk_draw.2.2.1 13 = .ok (.irem, 1) := by decide +kernel
theorem d_Tk_draw_14 : decode m_Tk_draw.2.2.1 14 = .ok (.ireturn, 1) := by decide +kernel
theorem d_Tk_challenge_0 : decode m_Tk_challenge.2.2.1 0 = .ok (.aload_n 0, 1) := by decide +kernel
theorem d_Tk_challenge_1 : decode m_Tk_challenge.2.2.1 1 = .ok (.bipush (-7), 2) := by decide +kernel
theorem d_Tk_challenge_3 : decode m_Tk_challenge.2.2.1 3 = .ok (.sipush (12289), 3) := by decide +kernel
theorem d_Tk_challenge_6 : decode m_Tk_challenge.2.2.1 6 = .ok (.invokevirtual 33, 3) := by decide +kernel
theorem d_Tk_challenge_9 : decode m_Tk_challenge.2.2.1 9 = .ok (.ireturn, 1) := by decide +kernel
theorem d_Tk_begin_0 : decode m_Tk_begin.2.2.1 0 = .ok (.aload_n 0, 1) := by decide +kernel
theorem d_Tk_begin_1 : decode m_Tk_begin.2.2.1 1 = .ok (.iconst 1, 1) := by decide +kernel
theorem d_Tk_begin_2 : decode m_Tk_begin.2.2.1 2 = .ok (.putfield 18, 3) := by decide +kernel
theorem d_Tk_begin_5 : decode m_Tk_begin.2.2.1 5 = .ok (.aload_n 1, 1) := by decide +kernel
theorem d_Tk_begin_6 : decode m_Tk_begin.2.2.1 6 = .ok (.aload_n 0, 1) := by decide +kernel
theorem d_Tk_begin_7 : decode m_Tk_begin.2.2.1 7 = .ok (.invokevirtual 36, 3) := by decide +kernel
theorem d_Tk_begin_10 : decode m_Tk_begin.2.2.1 10 = .ok (.aload_n 0, 1) := by decide +kernel
theorem d_Tk_begin_11 : decode m_Tk_begin.2.2.1 11 = .ok (.iload_n 2, 1) := by decide +kernel
theorem d_Tk_begin_12 : decode m_Tk_begin.2.2.1 12 = .ok (.invokevirtual 26, 3) := by decide +kernel
theorem d_Tk_begin_15 : decode m_Tk_begin.2.2.1 15 = .ok (.aload_n 0, 1) := by decide +kernel
theorem d_Tk_begin_16 : decode m_Tk_begin.2.2.1 16 = .ok (.aload_n 0, 1) := by decide +kernel
theorem d_Tk_begin_17 : decode m_Tk_begin.2.2.1 17 = .ok (.invokevirtual 42, 3) := by decide +kernel
theorem d_Tk_begin_20 : decode m_Tk_begin.2.2.1 20 = .ok (.putfield 46, 3) := by decide +kernel
theorem d_Tk_begin_23 : decode m_Tk_begin.2.2.1 23 = .ok (.return_, 1) := by decide +kernel
theorem d_Tk_hearLayer_0 : decode m_Tk_hearLayer.2.2.1 0 = .ok (.aload_n 0, 1) := by decide +kernel
theorem d_Tk_hearLayer_1 : decode m_Tk_hearLayer.2.2.1 1 = .ok (.iload_n 2, 1) := by decide +kernel
theorem d_Tk_hearLayer_2 : decode m_Tk_hearLayer.2.2.1 2 = .ok (.invokevirtual 26, 3) := by decide +kernel
theorem d_Tk_hearLayer_5 : decode m_Tk_hearLayer.2.2.1 5 = .ok (.aload_n 0, 1) := by decide +kernel
theorem d_Tk_hearLayer_6 : decode m_Tk_hearLayer.2.2.1 6 = .ok (.getfield 9, 3) := by decide +kernel
theorem d_Tk_hearLayer_9 : decode m_Tk_hearLayer.2.2.1 9 = .ok (.iload_n 1, 1) := by decide +kernel
theorem d_Tk_hearLayer_10 : decode m_Tk_hearLayer.2.2.1 10 = .ok (.aload_n 0, 1) := by decide +kernel
theorem d_Tk_hearLayer_11 : decode m_Tk_hearLayer.2.2.1 11 = .ok (.invokevirtual 42, 3) := by decide +kernel
theorem d_Tk_hearLayer_14 : decode m_Tk_hearLayer.2.2.1 14 = .ok (.iastore, 1) := by decide +kernel
theorem d_Tk_hearLayer_15 : decode m_Tk_hearLayer.2.2.1 15 = .ok (.return_, 1) := by decide +kernel
theorem d_Tk_end_0 : decode m_Tk_end.2.2.1 0 = .ok (.aload_n 0, 1) := by decide +kernel
theorem d_Tk_end_1 : decode m_Tk_end.2.2.1 1 = .ok (.iload_n 1, 1) := by decide +kernel
theorem d_Tk_end_2 : decode m_Tk_end.2.2.1 2 = .ok (.invokevirtual 26, 3) := by decide +kernel
theorem d_Tk_end_5 : decode m_Tk_end.2.2.1 5 = .ok (.iconst 0, 1) := by decide +kernel
theorem d_Tk_end_6 : decode m_Tk_end.2.2.1 6 = .ok (.istore_n 2, 1) := by decide +kernel
theorem d_Tk_end_7 : decode m_Tk_end.2.2.1 7 = .ok (.iload_n 2, 1) := by decide +kernel
theorem d_Tk_end_8 : decode m_Tk_end.2.2.1 8 = .ok (.iconst 3, 1) := by decide +kernel
theorem d_Tk_end_9 : decode m_Tk_end.2.2.1 9 = .ok (.if_icmp .ge (23), 3) := by decide +kernel
theorem d_Tk_end_12 : decode m_Tk_end.2.2.1 12 = .ok (.aload_n 0, 1) := by decide +kernel
theorem d_Tk_end_13 : decode m_Tk_end.2.2.1 13 = .ok (.getfield 15, 3) := by decide +kernel
theorem d_Tk_end_16 : decode m_Tk_end.2.2.1 16 = .ok (.iload_n 2, 1) := by decide +kernel
theorem d_Tk_end_17 : decode m_Tk_end.2.2.1 17 = .ok (.aload_n 0, 1) := by decide +kernel
theorem d_Tk_end_18 : decode m_Tk_end.2.2.1 18 = .ok (.bipush (-9), 2) := by decide +kernel
theorem d_Tk_end_20 : decode m_Tk_end.2.2.1 20 = .ok (.bipush (16), 2) := by decide +kernel
theorem d_Tk_end_22 : decode m_Tk_end.2.2.1 22 = .ok (.invokevirtual 33, 3) := by decide +kernel
theorem d_Tk_end_25 : decode m_Tk_end.2.2.1 25 = .ok (.iastore, 1) := by decide +kernel
theorem d_Tk_end_26 : decode m_Tk_end.2.2.1 26 = .ok (.iinc 2 (1), 3) := by decide +kernel
theorem d_Tk_end_29 : decode m_Tk_end.2.2.1 29 = .ok (.goto (-22), 3) := by decide +kernel
theorem d_Tk_end_32 : decode m_Tk_end.2.2.1 32 = .ok (.return_, 1) := by decide +kernel
theorem d_Tr_init_0 : decode m_Tr_init.2.2.1 0 = .ok (.aload_n 0, 1) := by decide +kernel
theorem d_Tr_init_1 : decode m_Tr_init.2.2.1 1 = .ok (.invokespecial 1, 3) := by decide +kernel
theorem d_Tr_init_4 : decode m_Tr_init.2.2.1 4 = .ok (.aload_n 0, 1) := by decide +kernel
theorem d_Tr_init_5 : decode m_Tr_init.2.2.1 5 = .ok (.iload_n 1, 1) := by decide +kernel
theorem d_Tr_init_6 : decode m_Tr_init.2.2.1 6 = .ok (.putfield 7, 3) := by decide +kernel
theorem d_Tr_init_9 : decode m_Tr_init.2.2.1 9 = .ok (.aload_n 0, 1) := by decide +kernel
theorem d_Tr_init_10 : decode m_Tr_init.2.2.1 10 = .ok (.iconst 2, 1) := by decide +kernel
theorem d_Tr_init_11 : decode m_Tr_init.2.2.1 11 = .ok (.iload_n 1, 1) := by decide +kernel
theorem d_Tr_init_12 : decode m_Tr_init.2.2.1 12 = .ok (.imul, 1) := by decide +kernel
theorem d_Tr_init_13 : decode m_Tr_init.2.2.1 13 = .ok (.newarray .int, 2) := by decide +kernel
theorem d_Tr_init_15 : decode m_Tr_init.2.2.1 15 = .ok (.putfield 13, 3) := by decide +kernel
theorem d_Tr_init_18 : decode m_Tr_init.2.2.1 18 = .ok (.return_, 1) := by decide +kernel
theorem d_Tr_plant_0 : decode m_Tr_plant.2.2.1 0 = .ok (.aload_n 0, 1) := by decide +kernel
theorem d_Tr_plant_1 : decode m_Tr_plant.2.2.1 1 = .ok (.getfield 13, 3) := by decide +kernel
theorem d_Tr_plant_4 : decode m_Tr_plant.2.2.1 4 = .ok (.aload_n 0, 1) := by decide +kernel
theorem d_Tr_plant_5 : decode m_Tr_plant.2.2.1 5 = .ok (.getfield 7, 3) := by decide +kernel
theorem d_Tr_plant_8 : decode m_Tr_plant.2.2.1 8 = .ok (.iload_n 1, 1) := by decide +kernel
theorem d_Tr_plant_9 : decode m_Tr_plant.2.2.1 9 = .ok (.iadd, 1) := by decide +kernel
theorem d_Tr_plant_10 : decode m_Tr_plant.2.2.1 10 = .ok (.iload_n 2, 1) := by decide +kernel
theorem d_Tr_plant_11 : decode m_Tr_plant.2.2.1 11 = .ok (.iastore, 1) := by decide +kernel
theorem d_Tr_plant_12 : decode m_Tr_plant.2.2.1 12 = .ok (.return_, 1) := by decide +kernel
theorem d_Tr_grow_0 : decode m_Tr_grow.2.2.1 0 = .ok (.aload_n 0, 1) := by decide +kernel
theorem d_Tr_grow_1 : decode m_Tr_grow.2.2.1 1 = .ok (.getfield 7, 3) := by decide +kernel
theorem d_Tr_grow_4 : decode m_Tr_grow.2.2.1 4 = .ok (.iconst 1, 1) := by decide +kernel
theorem d_Tr_grow_5 : decode m_Tr_grow.2.2.1 5 = .ok (.isub, 1) := by decide +kernel
theorem d_Tr_grow_6 : decode m_Tr_grow.2.2.1 6 = .ok (.istore_n 1, 1) := by decide +kernel
theorem d_Tr_grow_7 : decode m_Tr_grow.2.2.1 7 = .ok (.iload_n 1, 1) := by decide +kernel
theorem d_Tr_grow_8 : decode m_Tr_grow.2.2.1 8 = .ok (.iconst 1, 1) := by decide +kernel
theorem d_Tr_grow_9 : decode m_Tr_grow.2.2.1 9 = .ok (.if_icmp .lt (36), 3) := by decide +kernel
theorem d_Tr_grow_12 : decode m_Tr_grow.2.2.1 12 = .ok (.aload_n 0, 1) := by decide +kernel
theorem d_Tr_grow_13 : decode m_Tr_grow.2.2.1 13 = .ok (.getfield 13, 3) := by decide +kernel
theorem d_Tr_grow_16 : decode m_Tr_grow.2.2.1 16 = .ok (.iload_n 1, 1) := by decide +kernel
theorem d_Tr_grow_17 : decode m_Tr_grow.2.2.1 17 = .ok (.aload_n 0, 1) := by decide +kernel
theorem d_Tr_grow_18 : decode m_Tr_grow.2.2.1 18 = .ok (.getfield 13, 3) := by decide +kernel
theorem d_Tr_grow_21 : decode m_Tr_grow.2.2.1 21 = .ok (.iconst 2, 1) := by decide +kernel
theorem d_Tr_grow_22 : decode m_Tr_grow.2.2.1 22 = .ok (.iload_n 1, 1) := by decide +kernel
theorem d_Tr_grow_23 : decode m_Tr_grow.2.2.1 23 = .ok (.imul, 1) := by decide +kernel
theorem d_Tr_grow_24 : decode m_Tr_grow.2.2.1 24 = .ok (.iaload, 1) := by decide +kernel
theorem d_Tr_grow_25 : decode m_Tr_grow.2.2.1 25 = .ok (.aload_n 0, 1) := by decide +kernel
theorem d_Tr_grow_26 : decode m_Tr_grow.2.2.1 26 = .ok (.getfield 13, 3) := by decide +kernel
theorem d_Tr_grow_29 : decode m_Tr_grow.2.2.1 29 = .ok (.iconst 2, 1) := by decide +kernel
theorem d_Tr_grow_30 : decode m_Tr_grow.2.2.1 30 = .ok (.iload_n 1, 1) := by decide +kernel
theorem d_Tr_grow_31 : decode m_Tr_grow.2.2.1 31 = .ok (.imul, 1) := by decide +kernel
theorem d_Tr_grow_32 : decode m_Tr_grow.2.2.1 32 = .ok (.iconst 1, 1) := by decide +kernel
theorem d_Tr_grow_33 : decode m_Tr_grow.2.2.1 33 = .ok (.iadd, 1) := by decide +kernel
theorem d_Tr_grow_34 : decode m_Tr_grow.2.2.1 34 = .ok (.iaload, 1) := by decide +kernel
theorem d_Tr_grow_35 : decode m_Tr_grow.2.2.1 35 = .ok (.invokestatic 17, 3) := by decide +kernel
theorem d_Tr_grow_38 : decode m_Tr_grow.2.2.1 38 = .ok (.iastore, 1) := by decide +kernel
theorem d_Tr_grow_39 : decode m_Tr_grow.2.2.1 39 = .ok (.iinc 1 (-1), 3) := by decide +kernel
theorem d_Tr_grow_42 : decode m_Tr_grow.2.2.1 42 = .ok (.goto (-35), 3) := by decide +kernel
theorem d_Tr_grow_45 : decode m_Tr_grow.2.2.1 45 = .ok (.aload_n 0, 1) := by decide +kernel
theorem d_Tr_grow_46 : decode m_Tr_grow.2.2.1 46 = .ok (.getfield 13, 3) := by decide +kernel
theorem d_Tr_grow_49 : decode m_Tr_grow.2.2.1 49 = .ok (.iconst 1, 1) := by decide +kernel
theorem d_Tr_grow_50 : decode m_Tr_grow.2.2.1 50 = .ok (.iaload, 1) := by decide +kernel
theorem d_Tr_grow_51 : decode m_Tr_grow.2.2.1 51 = .ok (.ireturn, 1) := by decide +kernel
theorem d_Tr_copyPath_0 : decode m_Tr_copyPath.2.2.1 0 = .ok (.iload_n 3, 1) := by decide +kernel
theorem d_Tr_copyPath_1 : decode m_Tr_copyPath.2.2.1 1 = .ok (.istore 4, 2) := by decide +kernel
theorem d_Tr_copyPath_3 : decode m_Tr_copyPath.2.2.1 3 = .ok (.aload_n 0, 1) := by decide +kernel
theorem d_Tr_copyPath_4 : decode m_Tr_copyPath.2.2.1 4 = .ok (.getfield 7, 3) := by decide +kernel
theorem d_Tr_copyPath_7 : decode m_Tr_copyPath.2.2.1 7 = .ok (.iload_n 1, 1) := by decide +kernel
theorem d_Tr_copyPath_8 : decode m_Tr_copyPath.2.2.1 8 = .ok (.iadd, 1) := by decide +kernel
theorem d_Tr_copyPath_9 : decode m_Tr_copyPath.2.2.1 9 = .ok (.istore 5, 2) := by decide +kernel
theorem d_Tr_copyPath_11 : decode m_Tr_copyPath.2.2.1 11 = .ok (.iload 5, 2) := by decide +kernel
theorem d_Tr_copyPath_13 : decode m_Tr_copyPath.2.2.1 13 = .ok (.iconst 1, 1) := by decide +kernel
theorem d_Tr_copyPath_14 : decode m_Tr_copyPath.2.2.1 14 = .ok (.if_icmp .le (28), 3) := by decide +kernel
theorem d_Tr_copyPath_17 : decode m_Tr_copyPath.2.2.1 17 = .ok (.aload_n 2, 1) := by decide +kernel
theorem d_Tr_copyPath_18 : decode m_Tr_copyPath.2.2.1 18 = .ok (.iload 4, 2) := by decide +kernel
theorem d_Tr_copyPath_20 : decode m_Tr_copyPath.2.2.1 20 = .ok (.aload_n 0, 1) := by decide +kernel
theorem d_Tr_copyPath_21 : decode m_Tr_copyPath.2.2.1 21 = .ok (.getfield 13, 3) := by decide +kernel
theorem d_Tr_copyPath_24 : decode m_Tr_copyPath.2.2.1 24 = .ok (.iload 5, 2) := by decide +kernel
theorem d_Tr_copyPath_26 : decode m_Tr_copyPath.2.2.1 26 = .ok (.iconst 1, 1) := by decide +kernel
theorem d_Tr_copyPath_27 : decode m_Tr_copyPath.2.2.1 27 = .ok (.ixor, 1) := by decide +kernel
theorem d_Tr_copyPath_28 : decode m_Tr_copyPath.2.2.1 28 = .ok (.iaload, 1) := by decide +kernel
theorem d_Tr_copyPath_29 : decode m_Tr_copyPath.2.2.1 29 = .ok (.iastore, 1) := by decide +kernel
theorem d_Tr_copyPath_30 : decode m_Tr_copyPath.2.2.1 30 = .ok (.iinc 4 (1), 3) := by decide +kernel
theorem d_Tr_copyPath_33 : decode m_Tr_copyPath.2.2.1 33 = .ok (.iload 5, 2) := by decide +kernel
theorem d_Tr_copyPath_35 : decode m_Tr_copyPath.2.2.1 35 = .ok (.iconst 2, 1) := by decide +kernel
theorem d_Tr_copyPath_36 : decode m_Tr_copyPath.2.2.1 36 = .ok (.idiv, 1) := by decide +kernel
theorem d_Tr_copyPath_37 : decode m_Tr_copyPath.2.2.1 37 = .ok (.istore 5, 2) := by decide +kernel
theorem d_Tr_copyPath_39 : decode m_Tr_copyPath.2.2.1 39 = .ok (.goto (-28), 3) := by decide +kernel
theorem d_Tr_copyPath_42 : decode m_Tr_copyPath.2.2.1 42 = .ok (.return_, 1) := by decide +kernel
theorem d_Tr_rootOf_0 : decode m_Tr_rootOf.2.2.1 0 = .ok (.iload_n 2, 1) := by decide +kernel
theorem d_Tr_rootOf_1 : decode m_Tr_rootOf.2.2.1 1 = .ok (.istore 5, 2) := by decide +kernel
theorem d_Tr_rootOf_3 : decode m_Tr_rootOf.2.2.1 3 = .ok (.iload 4, 2) := by decide +kernel
theorem d_Tr_rootOf_5 : decode m_Tr_rootOf.2.2.1 5 = .ok (.istore 6, 2) := by decide +kernel
theorem d_Tr_rootOf_7 : decode m_Tr_rootOf.2.2.1 7 = .ok (.iload_n 0, 1) := by decide +kernel
theorem d_Tr_rootOf_8 : decode m_Tr_rootOf.2.2.1 8 = .ok (.iload_n 1, 1) := by decide +kernel
theorem d_Tr_rootOf_9 : decode m_Tr_rootOf.2.2.1 9 = .ok (.iadd, 1) := by decide +kernel
theorem d_Tr_rootOf_10 : decode m_Tr_rootOf.2.2.1 10 = .ok (.istore 7, 2) := by decide +kernel
theorem d_Tr_rootOf_12 : decode m_Tr_rootOf.2.2.1 12 = .ok (.iload 7, 2) := by decide +kernel
theorem d_Tr_rootOf_14 : decode m_Tr_rootOf.2.2.1 14 = .ok (.iconst 1, 1) := by decide +kernel
theorem d_Tr_rootOf_15 : decode m_Tr_rootOf.2.2.1 15 = .ok (.if_icmp .le (45), 3) := by decide +kernel
theorem d_Tr_rootOf_18 : decode m_Tr_rootOf.2.2.1 18 = .ok (.iload 7, 2) := by decide +kernel
theorem d_Tr_rootOf_20 : decode m_Tr_rootOf.2.2.1 20 = .ok (.iconst 2, 1) := by decide +kernel
theorem d_Tr_rootOf_21 : decode m_Tr_rootOf.2.2.1 21 = .ok (.irem, 1) := by decide +kernel
theorem d_Tr_rootOf_22 : decode m_Tr_rootOf.2.2.1 22 = .ok (.ifCond .ne (15), 3) := by decide +kernel
theorem d_Tr_rootOf_25 : decode m_Tr_rootOf.2.2.1 25 = .ok (.iload 5, 2) := by decide +kernel
theorem d_Tr_rootOf_27 : decode m_Tr_rootOf.2.2.1 27 = .ok (.aload_n 3, 1) := by decide +kernel
theorem d_Tr_rootOf_28 : decode m_Tr_rootOf.2.2.1 28 = .ok (.iload 6, 2) := by decide +kernel
theorem d_Tr_rootOf_30 : decode m_Tr_rootOf.2.2.1 30 = .ok (.iaload, 1) := by decide +kernel
theorem d_Tr_rootOf_31 : decode m_Tr_rootOf.2.2.1 31 = .ok (.invokestatic 17, 3) := by decide +kernel
theorem d_Tr_rootOf_34 : decode m_Tr_rootOf.2.2.1 34 = .ok (.goto (12), 3) := by decide +kernel
theorem d_Tr_rootOf_37 : decode m_Tr_rootOf.2.2.1 37 = .ok (.aload_n 3, 1) := by decide +kernel
theorem d_Tr_rootOf_38 : decode m_Tr_rootOf.2.2.1 38 = .ok (.iload 6, 2) := by decide +kernel
theorem d_Tr_rootOf_40 : decode m_Tr_rootOf.2.2.1 40 = .ok (.iaload, 1) := by decide +kernel
theorem d_Tr_rootOf_41 : decode m_Tr_rootOf.2.2.1 41 = .ok (.iload 5, 2) := by decide +kernel
theorem d_Tr_rootOf_43 : decode m_Tr_rootOf.2.2.1 43 = .ok (.invokestatic 17, 3) := by decide +kernel
theorem d_Tr_rootOf_46 : decode m_Tr_rootOf.2.2.1 46 = .ok (.istore 5, 2) := by decide +kernel
theorem d_Tr_rootOf_48 : decode m_Tr_rootOf.2.2.1 48 = .ok (.iinc 6 (1), 3) := by decide +kernel
theorem d_Tr_rootOf_51 : decode m_Tr_rootOf.2.2.1 51 = .ok (.iload 7, 2) := by decide +kernel
theorem d_Tr_rootOf_53 : decode m_Tr_rootOf.2.2.1 53 = .ok (.iconst 2, 1) := by decide +kernel
theorem d_Tr_rootOf_54 : decode m_Tr_rootOf.2.2.1 54 = .ok (.idiv, 1) := by decide +kernel
theorem d_Tr_rootOf_55 : decode m_Tr_rootOf.2.2.1 55 = .ok (.istore 7, 2) := by decide +kernel
theorem d_Tr_rootOf_57 : decode m_Tr_rootOf.2.2.1 57 = .ok (.goto (-45), 3) := by decide +kernel
theorem d_Tr_rootOf_60 : decode m_Tr_rootOf.2.2.1 60 = .ok (.iload 5, 2) := by decide +kernel
theorem d_Tr_rootOf_62 : decode m_Tr_rootOf.2.2.1 62 = .ok (.ireturn, 1) := by decide +kernel
theorem d_Ve_init_0 : decode m_Ve_init.2.2.1 0 = .ok (.aload_n 0, 1) := by decide +kernel
theorem d_Ve_init_1 : decode m_Ve_init.2.2.1 1 = .ok (.invokespecial 3, 3) := by decide +kernel
theorem d_Ve_init_4 : decode m_Ve_init.2.2.1 4 = .ok (.aload_n 0, 1) := by decide +kernel
theorem d_Ve_init_5 : decode m_Ve_init.2.2.1 5 = .ok (.new 9, 3) := by decide +kernel
theorem d_Ve_init_8 : decode m_Ve_init.2.2.1 8 = .ok (.dup, 1) := by decide +kernel
theorem d_Ve_init_9 : decode m_Ve_init.2.2.1 9 = .ok (.invokespecial 11, 3) := by decide +kernel
theorem d_Ve_init_12 : decode m_Ve_init.2.2.1 12 = .ok (.putfield 12, 3) := by decide +kernel
theorem d_Ve_init_15 : decode m_Ve_init.2.2.1 15 = .ok (.aload_n 0, 1) := by decide +kernel
theorem d_Ve_init_16 : decode m_Ve_init.2.2.1 16 = .ok (.aload_n 1, 1) := by decide +kernel
theorem d_Ve_init_17 : decode m_Ve_init.2.2.1 17 = .ok (.putfield 18, 3) := by decide +kernel
theorem d_Ve_init_20 : decode m_Ve_init.2.2.1 20 = .ok (.aload_n 0, 1) := by decide +kernel
theorem d_Ve_init_21 : decode m_Ve_init.2.2.1 21 = .ok (.aload_n 2, 1) := by decide +kernel
theorem d_Ve_init_22 : decode m_Ve_init.2.2.1 22 = .ok (.putfield 22, 3) := by decide +kernel
theorem d_Ve_init_25 : decode m_Ve_init.2.2.1 25 = .ok (.aload_n 0, 1) := by decide +kernel
theorem d_Ve_init_26 : decode m_Ve_init.2.2.1 26 = .ok (.aload_n 3, 1) := by decide +kernel
theorem d_Ve_init_27 : decode m_Ve_init.2.2.1 27 = .ok (.putfield 26, 3) := by decide +kernel
theorem d_Ve_init_30 : decode m_Ve_init.2.2.1 30 = .ok (.aload_n 0, 1) := by decide +kernel
theorem d_Ve_init_31 : decode m_Ve_init.2.2.1 31 = .ok (.aload_n 3, 1) := by decide +kernel
theorem d_Ve_init_32 : decode m_Ve_init.2.2.1 32 = .ok (.getfield 30, 3) := by decide +kernel
theorem d_Ve_init_35 : decode m_Ve_init.2.2.1 35 = .ok (.putfield 36, 3) := by decide +kernel
theorem d_Ve_init_38 : decode m_Ve_init.2.2.1 38 = .ok (.return_, 1) := by decide +kernel
theorem d_Ve_place_0 : decode m_Ve_place.2.2.1 0 = .ok (.aload_n 0, 1) := by decide +kernel
theorem d_Ve_place_1 : decode m_Ve_place.2.2.1 1 = .ok (.getfield 12, 3) := by decide +kernel
theorem d_Ve_place_4 : decode m_Ve_place.2.2.1 4 = .ok (.getfield 37, 3) := by decide +kernel
theorem d_Ve_place_7 : decode m_Ve_place.2.2.1 7 = .ok (.iload_n 1, 1) := by decide +kernel
theorem d_Ve_place_8 : decode m_Ve_place.2.2.1 8 = .ok (.iaload, 1) := by decide +kernel
theorem d_Ve_place_9 : decode m_Ve_place.2.2.1 9 = .ok (.ireturn, 1) := by decide +kernel
theorem d_Ve_code_0 : decode m_Ve_code.2.2.1 0 = .ok (.aload_n 0, 1) := by decide +kernel
theorem d_Ve_code_1 : decode m_Ve_code.2.2.1 1 = .ok (.getfield 26, 3) := by decide +kernel
theorem d_Ve_code_4 : decode m_Ve_code.2.2.1 4 = .ok (.invokevirtual 40, 3) := by decide +kernel
theorem d_Ve_code_7 : decode m_Ve_code.2.2.1 7 = .ok (.ifCond .ne (5), 3) := by decide +kernel
theorem d_Ve_code_10 : decode m_Ve_code.2.2.1 10 = .ok (.iconst 1, 1) := by decide +kernel
theorem d_Ve_code_11 : decode m_Ve_code.2.2.1 11 = .ok (.ireturn, 1) := by decide +kernel
theorem d_Ve_code_12 : decode m_Ve_code.2.2.1 12 = .ok (.aload_n 0, 1) := by decide +kernel
theorem d_Ve_code_13 : decode m_Ve_code.2.2.1 13 = .ok (.invokevirtual 44, 3) := by decide +kernel
theorem d_Ve_code_16 : decode m_Ve_code.2.2.1 16 = .ok (.iconst 0, 1) := by decide +kernel
theorem d_Ve_code_17 : decode m_Ve_code.2.2.1 17 = .ok (.istore_n 1, 1) := by decide +kernel
theorem d_Ve_code_18 : decode m_Ve_code.2.2.1 18 = .ok (.iload_n 1, 1) := by decide +kernel
theorem d_Ve_code_19 : decode m_Ve_code.2.2.1 19 = .ok (.iconst 3, 1) := by decide +kernel
theorem d_Ve_code_20 : decode m_Ve_code.2.2.1 20 = .ok (.if_icmp .ge (21), 3) := by decide +kernel
theorem d_Ve_code_23 : decode m_Ve_code.2.2.1 23 = .ok (.aload_n 0, 1) := by decide +kernel
theorem d_Ve_code_24 : decode m_Ve_code.2.2.1 24 = .ok (.iload_n 1, 1) := by decide +kernel
theorem d_Ve_code_25 : decode m_Ve_code.2.2.1 25 = .ok (.invokevirtual 47, 3) := by decide +kernel
theorem d_Ve_code_28 : decode m_Ve_code.2.2.1 28 = .ok (.istore_n 2, 1) := by decide +kernel
theorem d_Ve_code_29 : decode m_Ve_code.2.2.1 29 = .ok (.iload_n 2, 1) := by decide +kernel
theorem d_Ve_code_30 : decode m_Ve_code.2.2.1 30 = .ok (.ifCond .eq (5), 3) := by decide +kernel
theorem d_Ve_code_33 : decode m_Ve_code.2.2.1 33 = .ok (.iload_n 2, 1) := by decide +kernel
theorem d_Ve_code_34 : decode m_Ve_code.2.2.1 34 = .ok (.ireturn, 1) := by decide +kernel
theorem d_Ve_code_35 : decode m_Ve_code.2.2.1 35 = .ok (.iinc 1 (1), 3) := by decide +kernel
theorem d_Ve_code_38 : decode m_Ve_code.2.2.1 38 = .ok (.goto (-20), 3) := by decide +kernel
theorem d_Ve_code_41 : decode m_Ve_code.2.2.1 41 = .ok (.iconst 0, 1) := by decide +kernel
theorem d_Ve_code_42 : decode m_Ve_code.2.2.1 42 = .ok (.ireturn, 1) := by decide +kernel
theorem d_Ve_listen_0 : decode m_Ve_listen.2.2.1 0 = .ok (.aload_n 0, 1) := by decide +kernel
theorem d_Ve_listen_1 : decode m_Ve_listen.2.2.1 1 = .ok (.getfield 12, 3) := by decide +kernel
theorem d_Ve_listen_4 : decode m_Ve_listen.2.2.1 4 = .ok (.aload_n 0, 1) := by decide +kernel
theorem d_Ve_listen_5 : decode m_Ve_listen.2.2.1 5 = .ok (.getfield 22, 3) := by decide +kernel
theorem d_Ve_listen_8 : decode m_Ve_listen.2.2.1 8 = .ok (.aload_n 0, 1) := by decide +kernel
theorem d_Ve_listen_9 : decode m_Ve_listen.2.2.1 9 = .ok (.getfield 36, 3) := by decide +kernel
theorem d_Ve_listen_12 : decode m_Ve_listen.2.2.1 12 = .ok (.iconst 0, 1) := by decide +kernel
theorem d_Ve_listen_13 : decode m_Ve_listen.2.2.1 13 = .ok (.iaload, 1) := by decide +kernel
theorem d_Ve_listen_14 : decode m_Ve_listen.2.2.1 14 = .ok (.invokevirtual 51, 3) := by decide +kernel
theorem d_Ve_listen_17 : decode m_Ve_listen.2.2.1 17 = .ok (.iconst 0, 1) := by decide +kernel
theorem d_Ve_listen_18 : decode m_Ve_listen.2.2.1 18 = .ok (.istore_n 1, 1) := by decide +kernel
theorem d_Ve_listen_19 : decode m_Ve_listen.2.2.1 19 = .ok (.iload_n 1, 1) := by decide +kernel
theorem d_Ve_listen_20 : decode m_Ve_listen.2.2.1 20 = .ok (.iconst 3, 1) := by decide +kernel
theorem d_Ve_listen_21 : decode m_Ve_listen.2.2.1 21 = .ok (.if_icmp .ge (25), 3) := by decide +kernel
theorem d_Ve_listen_24 : decode m_Ve_listen.2.2.1 24 = .ok (.aload_n 0, 1) := by decide +kernel
theorem d_Ve_listen_25 : decode m_Ve_listen.2.2.1 25 = .ok (.getfield 12, 3) := by decide +kernel
theorem d_Ve_listen_28 : decode m_Ve_listen.2.2.1 28 = .ok (.iload_n 1, 1) := by decide +kernel
theorem d_Ve_listen_29 : decode m_Ve_listen.2.2.1 29 = .ok (.aload_n 0, 1) := by decide +kernel
theorem d_Ve_listen_30 : decode m_Ve_listen.2.2.1 30 = .ok (.getfield 36, 3) := by decide +kernel
theorem d_Ve_listen_33 : decode m_Ve_listen.2.2.1 33 = .ok (.iconst 1, 1) := by decide +kernel
theorem d_Ve_listen_34 : decode m_Ve_listen.2.2.1 34 = .ok (.iload_n 1, 1) := by decide +kernel
theorem d_Ve_listen_35 : decode m_Ve_listen.2.2.1 35 = .ok (.iadd, 1) := by decide +kernel
theorem d_Ve_listen_36 : decode m_Ve_listen.2.2.1 36 = .ok (.iaload, 1) := by decide +kernel
theorem d_Ve_listen_37 : decode m_Ve_listen.2.2.1 37 = .ok (.invokevirtual 55, 3) := by decide +kernel
theorem d_Ve_listen_40 : decode m_Ve_listen.2.2.1 40 = .ok (.iinc 1 (1), 3) := by decide +kernel
theorem d_Ve_listen_43 : decode m_Ve_listen.2.2.1 43 = .ok (.goto (-24), 3) := by decide +kernel
theorem d_Ve_listen_46 : decode m_Ve_listen.2.2.1 46 = .ok (.aload_n 0, 1) := by decide +kernel
theorem d_Ve_listen_47 : decode m_Ve_listen.2.2.1 47 = .ok (.getfield 12, 3) := by decide +kernel
theorem d_Ve_listen_50 : decode m_Ve_listen.2.2.1 50 = .ok (.aload_n 0, 1) := by decide +kernel
theorem d_Ve_listen_51 : decode m_Ve_listen.2.2.1 51 = .ok (.getfield 36, 3) := by decide +kernel
theorem d_Ve_listen_54 : decode m_Ve_listen.2.2.1 54 = .ok (.iconst 4, 1) := by decide +kernel
theorem d_Ve_listen_55 : decode m_Ve_listen.2.2.1 55 = .ok (.iaload, 1) := by decide +kernel
theorem d_Ve_listen_56 : decode m_Ve_listen.2.2.1 56 = .ok (.invokevirtual 59, 3) := by decide +kernel
theorem d_Ve_listen_59 : decode m_Ve_listen.2.2.1 59 = .ok (.return_, 1) := by decide +kernel
theorem d_Ve_codeOf_0 : decode m_Ve_codeOf.2.2.1 0 = .ok (.aload_n 0, 1) := by decide +kernel
theorem d_Ve_codeOf_1 : decode m_Ve_codeOf.2.2.1 1 = .ok (.iload_n 1, 1) := by decide +kernel
theorem d_Ve_codeOf_2 : decode m_Ve_codeOf.2.2.1 2 = .ok (.invokevirtual 63, 3) := by decide +kernel
theorem d_Ve_codeOf_5 : decode m_Ve_codeOf.2.2.1 5 = .ok (.ifCond .ne (5), 3) := by decide +kernel
theorem d_Ve_codeOf_8 : decode m_Ve_codeOf.2.2.1 8 = .ok (.iconst 2, 1) := by decide +kernel
theorem d_Ve_codeOf_9 : decode m_Ve_codeOf.2.2.1 9 = .ok (.ireturn, 1) := by decide +kernel
theorem d_Ve_codeOf_10 : decode m_Ve_codeOf.2.2.1 10 = .ok (.aload_n 0, 1) := by decide +kernel
theorem d_Ve_codeOf_11 : decode m_Ve_codeOf.2.2.1 11 = .ok (.iload_n 1, 1) := by decide +kernel
theorem d_Ve_codeOf_12 : decode m_Ve_codeOf.2.2.1 12 = .ok (.iconst 0, 1) := by decide +kernel
theorem d_Ve_codeOf_13 : decode m_Ve_codeOf.2.2.1 13 = .ok (.invokevirtual 67, 3) := by decide +kernel
theorem d_Ve_codeOf_16 : decode m_Ve_codeOf.2.2.1 16 = .ok (.ifCond .ne (5), 3) := by decide +kernel
theorem d_Ve_codeOf_19 : decode m_Ve_codeOf.2.2.1 19 = .ok (.iconst 3, 1) := by decide +kernel
theorem d_Ve_codeOf_20 : decode m_Ve_codeOf.2.2.1 20 = .ok (.ireturn, 1) := by decide +kernel
theorem d_Ve_codeOf_21 : decode m_Ve_codeOf.2.2.1 21 = .ok (.aload_n 0, 1) := by decide +kernel
theorem d_Ve_codeOf_22 : decode m_Ve_codeOf.2.2.1 22 = .ok (.iload_n 1, 1) := by decide +kernel
theorem d_Ve_codeOf_23 : decode m_Ve_codeOf.2.2.1 23 = .ok (.iconst 0, 1) := by decide +kernel
theorem d_Ve_codeOf_24 : decode m_Ve_codeOf.2.2.1 24 = .ok (.invokevirtual 71, 3) := by decide +kernel
theorem d_Ve_codeOf_27 : decode m_Ve_codeOf.2.2.1 27 = .ok (.ifCond .eq (12), 3) := by decide +kernel
theorem d_Ve_codeOf_30 : decode m_Ve_codeOf.2.2.1 30 = .ok (.aload_n 0, 1) := by decide +kernel
theorem d_Ve_codeOf_31 : decode m_Ve_codeOf.2.2.1 31 = .ok (.iload_n 1, 1) := by decide +kernel
theorem d_Ve_codeOf_32 : decode m_Ve_codeOf.2.2.1 32 = .ok (.iconst 1, 1) := by decide +kernel
theorem d_Ve_codeOf_33 : decode m_Ve_codeOf.2.2.1 33 = .ok (.invokevirtual 71, 3) := by decide +kernel
theorem d_Ve_codeOf_36 : decode m_Ve_codeOf.2.2.1 36 = .ok (.ifCond .ne (5), 3) := by decide +kernel
theorem d_Ve_codeOf_39 : decode m_Ve_codeOf.2.2.1 39 = .ok (.iconst 4, 1) := by decide +kernel
theorem d_Ve_codeOf_40 : decode m_Ve_codeOf.2.2.1 40 = .ok (.ireturn, 1) := by decide +kernel
theorem d_Ve_codeOf_41 : decode m_Ve_codeOf.2.2.1 41 = .ok (.aload_n 0, 1) := by decide +kernel
theorem d_Ve_codeOf_42 : decode m_Ve_codeOf.2.2.1 42 = .ok (.iload_n 1, 1) := by decide +kernel
theorem d_Ve_codeOf_43 : decode m_Ve_codeOf.2.2.1 43 = .ok (.iconst 1, 1) := by decide +kernel
theorem d_Ve_codeOf_44 : decode m_Ve_codeOf.2.2.1 44 = .ok (.invokevirtual 67, 3) := by decide +kernel
theorem d_Ve_codeOf_47 : decode m_Ve_codeOf.2.2.1 47 = .ok (.ifCond .ne (5), 3) := by decide +kernel
theorem d_Ve_codeOf_50 : decode m_Ve_codeOf.2.2.1 50 = .ok (.iconst 5, 1) := by decide +kernel
theorem d_Ve_codeOf_51 : decode m_Ve_codeOf.2.2.1 51 = .ok (.ireturn, 1) := by decide +kernel
theorem d_Ve_codeOf_52 : decode m_Ve_codeOf.2.2.1 52 = .ok (.aload_n 0, 1) := by decide +kernel
theorem d_Ve_codeOf_53 : decode m_Ve_codeOf.2.2.1 53 = .ok (.iload_n 1, 1) := by decide +kernel
theorem d_Ve_codeOf_54 : decode m_Ve_codeOf.2.2.1 54 = .ok (.iconst 0, 1) := by decide +kernel
theorem d_Ve_codeOf_55 : decode m_Ve_codeOf.2.2.1 55 = .ok (.invokevirtual 74, 3) := by decide +kernel
theorem d_Ve_codeOf_58 : decode m_Ve_codeOf.2.2.1 58 = .ok (.aload_n 0, 1) := by decide +kernel
theorem d_Ve_codeOf_59 : decode m_Ve_codeOf.2.2.1 59 = .ok (.iload_n 1, 1) := by decide +kernel
theorem d_Ve_codeOf_60 : decode m_Ve_codeOf.2.2.1 60 = .ok (.iconst 0, 1) := by decide +kernel
theorem d_Ve_codeOf_61 : decode m_Ve_codeOf.2.2.1 61 = .ok (.invokevirtual 78, 3) := by decide +kernel
theorem d_Ve_codeOf_64 : decode m_Ve_codeOf.2.2.1 64 = .ok (.if_icmp .eq (6), 3) := by decide +kernel
theorem d_Ve_codeOf_67 : decode m_Ve_codeOf.2.2.1 67 = .ok (.bipush (6), 2) := by decide +kernel
theorem d_Ve_codeOf_69 : decode m_Ve_codeOf.2.2.1 69 = .ok (.ireturn, 1) := by decide +kernel
theorem d_Ve_codeOf_70 : decode m_Ve_codeOf.2.2.1 70 = .ok (.aload_n 0, 1) := by decide +kernel
theorem d_Ve_codeOf_71 : decode m_Ve_codeOf.2.2.1 71 = .ok (.iload_n 1, 1) := by decide +kernel
theorem d_Ve_codeOf_72 : decode m_Ve_codeOf.2.2.1 72 = .ok (.iconst 2, 1) := by decide +kernel
theorem d_Ve_codeOf_73 : decode m_Ve_codeOf.2.2.1 73 = .ok (.invokevirtual 67, 3) := by decide +kernel
theorem d_Ve_codeOf_76 : decode m_Ve_codeOf.2.2.1 76 = .ok (.ifCond .ne (6), 3) := by decide +kernel
theorem d_Ve_codeOf_79 : decode m_Ve_codeOf.2.2.1 79 = .ok (.bipush (7), 2) := by decide +kernel
theorem d_Ve_codeOf_81 : decode m_Ve_codeOf.2.2.1 81 = .ok (.ireturn, 1) := by decide +kernel
theorem d_Ve_codeOf_82 : decode m_Ve_codeOf.2.2.1 82 = .ok (.aload_n 0, 1) := by decide +kernel
theorem d_Ve_codeOf_83 : decode m_Ve_codeOf.2.2.1 83 = .ok (.iload_n 1, 1) := by decide +kernel
theorem d_Ve_codeOf_84 : decode m_Ve_codeOf.2.2.1 84 = .ok (.iconst 1, 1) := by decide +kernel
theorem d_Ve_codeOf_85 : decode m_Ve_codeOf.2.2.1 85 = .ok (.invokevirtual 74, 3) := by decide +kernel
theorem d_Ve_codeOf_88 : decode m_Ve_codeOf.2.2.1 88 = .ok (.aload_n 0, 1) := by decide +kernel
theorem d_Ve_codeOf_89 : decode m_Ve_codeOf.2.2.1 89 = .ok (.iload_n 1, 1) := by decide +kernel
theorem d_Ve_codeOf_90 : decode m_Ve_codeOf.2.2.1 90 = .ok (.iconst 1, 1) := by decide +kernel
theorem d_Ve_codeOf_91 : decode m_Ve_codeOf.2.2.1 91 = .ok (.invokevirtual 78, 3) := by decide +kernel
theorem d_Ve_codeOf_94 : decode m_Ve_codeOf.2.2.1 94 = .ok (.if_icmp .eq (6), 3) := by decide +kernel
theorem d_Ve_codeOf_97 : decode m_Ve_codeOf.2.2.1 97 = .ok (.bipush (8), 2) := by decide +kernel
theorem d_Ve_codeOf_99 : decode m_Ve_codeOf.2.2.1 99 = .ok (.ireturn, 1) := by decide +kernel
theorem d_Ve_codeOf_100 : decode m_Ve_codeOf.2.2.1 100 = .ok (.aload_n 0, 1) := by decide +kernel
theorem d_Ve_codeOf_101 : decode m_Ve_codeOf.2.2.1 101 = .ok (.iload_n 1, 1) := by decide +kernel
theorem d_Ve_codeOf_102 : decode m_Ve_codeOf.2.2.1 102 = .ok (.iconst 2, 1) := by decide +kernel
theorem d_Ve_codeOf_103 : decode m_Ve_codeOf.2.2.1 103 = .ok (.invokevirtual 74, 3) := by decide +kernel
theorem d_Ve_codeOf_106 : decode m_Ve_codeOf.2.2.1 106 = .ok (.aload_n 0, 1) := by decide +kernel
theorem d_Ve_codeOf_107 : decode m_Ve_codeOf.2.2.1 107 = .ok (.getfield 36, 3) := by decide +kernel
theorem d_Ve_codeOf_110 : decode m_Ve_codeOf.2.2.1 110 = .ok (.iconst 4, 1) := by decide +kernel
theorem d_Ve_codeOf_111 : decode m_Ve_codeOf.2.2.1 111 = .ok (.iaload, 1) := by decide +kernel
theorem d_Ve_codeOf_112 : decode m_Ve_codeOf.2.2.1 112 = .ok (.if_icmp .ne (7), 3) := by decide +kernel
theorem d_Ve_codeOf_115 : decode m_Ve_codeOf.2.2.1 115 = .ok (.iconst 0, 1) := by decide +kernel
theorem d_Ve_codeOf_116 : decode m_Ve_codeOf.2.2.1 116 = .ok (.goto (5), 3) := by decide +kernel
theorem d_Ve_codeOf_119 : decode m_Ve_codeOf.2.2.1 119 = .ok (.bipush (9), 2) := by decide +kernel
theorem d_Ve_codeOf_121 : decode m_Ve_codeOf.2.2.1 121 = .ok (.ireturn, 1) := by decide +kernel
theorem d_Ve_doColumnPathsLead_0 : decode m_Ve_doColumnPathsLead.2.2.1 0 = .ok (.iconst 0, 1) := by decide +kernel
theorem d_Ve_doColumnPathsLead_1 : decode m_Ve_doColumnPathsLead.2.2.1 1 = .ok (.istore_n 2, 1) := by decide +kernel
theorem d_Ve_doColumnPathsLead_2 : decode m_Ve_doColumnPathsLead.2.2.1 2 = .ok (.iload_n 2, 1) := by decide +kernel
theorem d_Ve_doColumnPathsLead_3 : decode m_Ve_doColumnPathsLead.2.2.1 3 = .ok (.iconst 4, 1) := by decide +kernel
theorem d_Ve_doColumnPathsLead_4 : decode m_Ve_doColumnPathsLead.2.2.1 4 = .ok (.if_icmp .ge (74), 3) := by decide +kernel
theorem d_Ve_doColumnPathsLead_7 : decode m_Ve_doColumnPathsLead.2.2.1 7 = .ok (.aload_n 0, 1) := by decide +kernel
theorem d_Ve_doColumnPathsLead_8 : decode m_Ve_doColumnPathsLead.2.2.1 8 = .ok (.iload_n 1, 1) := by decide +kernel
theorem d_Ve_doColumnPathsLead_9 : decode m_Ve_doColumnPathsLead.2.2.1 9 = .ok (.invokevirtual 81, 3) := by decide +kernel
theorem d_Ve_doColumnPathsLead_12 : decode m_Ve_doColumnPathsLead.2.2.1 12 = .ok (.iload_n 2, 1) := by decide +kernel
theorem d_Ve_doColumnPathsLead_13 : decode m_Ve_doColumnPathsLead.2.2.1 13 = .ok (.invokestatic 84, 3) := by decide +kernel
theorem d_Ve_doColumnPathsLead_16 : decode m_Ve_doColumnPathsLead.2.2.1 16 = .ok (.istore_n 3, 1) := by decide +kernel
theorem d_Ve_doColumnPathsLead_17 : decode m_Ve_doColumnPathsLead.2.2.1 17 = .ok (.iload_n 1, 1) := by decide +kernel
theorem d_Ve_doColumnPathsLead_18 : decode m_Ve_doColumnPathsLead.2.2.1 18 = .ok (.iload_n 2, 1) := by decide +kernel
theorem d_Ve_doColumnPathsLead_19 : decode m_Ve_doColumnPathsLead.2.2.1 19 = .ok (.invokestatic 87, 3) := by decide +kernel
theorem d_Ve_doColumnPathsLead_22 : decode m_Ve_doColumnPathsLead.2.2.1 22 = .ok (.istore 4, 2) := by decide +kernel
theorem d_Ve_doColumnPathsLead_24 : decode m_Ve_doColumnPathsLead.2.2.1 24 = .ok (.aload_n 0, 1) := by decide +kernel
theorem d_Ve_doColumnPathsLead_25 : decode m_Ve_doColumnPathsLead.2.2.1 25 = .ok (.getfield 36, 3) := by decide +kernel
theorem d_Ve_doColumnPathsLead_28 : decode m_Ve_doColumnPathsLead.2.2.1 28 = .ok (.iload 4, 2) := by decide +kernel
theorem d_Ve_doColumnPathsLead_30 : decode m_Ve_doColumnPathsLead.2.2.1 30 = .ok (.iaload, 1) := by decide +kernel
theorem d_Ve_doColumnPathsLead_31 : decode m_Ve_doColumnPathsLead.2.2.1 31 = .ok (.aload_n 0, 1) := by decide +kernel
theorem d_Ve_doColumnPathsLead_32 : decode m_Ve_doColumnPathsLead.2.2.1 32 = .ok (.getfield 36, 3) := by decide +kernel
theorem d_Ve_doColumnPathsLead_35 : decode m_Ve_doColumnPathsLead.2.2.1 35 = .ok (.iload 4, 2) := by decide +kernel
theorem d_Ve_doColumnPathsLead_37 : decode m_Ve_doColumnPathsLead.2.2.1 37 = .ok (.iconst 1, 1) := by decide +kernel
theorem d_Ve_doColumnPathsLead_38 : decode m_Ve_doColumnPathsLead.2.2.1 38 = .ok (.iadd, 1) := by decide +kernel
theorem d_Ve_doColumnPathsLead_39 : decode m_Ve_doColumnPathsLead.2.2.1 39 = .ok (.iaload, 1) := by decide +kernel
theorem d_Ve_doColumnPathsLead_40 : decode m_Ve_doColumnPathsLead.2.2.1 40 = .ok (.invokestatic 90, 3) := by decide +kernel
theorem d_Ve_doColumnPathsLead_43 : decode m_Ve_doColumnPathsLead.2.2.1 43 = .ok (.istore 5, 2) := by decide +kernel
theorem d_Ve_doColumnPathsLead_45 : decode m_Ve_doColumnPathsLead.2.2.1 45 = .ok (.bipush (32), 2) := by decide +kernel
theorem d_Ve_doColumnPathsLead_47 : decode m_Ve_doColumnPathsLead.2.2.1 47 = .ok (.iload_n 3, 1) := by decide +kernel
theorem d_Ve_doColumnPathsLead_48 : decode m_Ve_doColumnPathsLead.2.2.1 48 = .ok (.iload 5, 2) := by decide +kernel
theorem d_Ve_doColumnPathsLead_50 : decode m_Ve_doColumnPathsLead.2.2.1 50 = .ok (.aload_n 0, 1) := by decide +kernel
theorem d_Ve_doColumnPathsLead_51 : decode m_Ve_doColumnPathsLead.2.2.1 51 = .ok (.getfield 36, 3) := by decide +kernel
theorem d_Ve_doColumnPathsLead_54 : decode m_Ve_doColumnPathsLead.2.2.1 54 = .ok (.iload 4, 2) := by decide +kernel
theorem d_Ve_doColumnPathsLead_56 : decode m_Ve_doColumnPathsLead.2.2.1 56 = .ok (.iconst 2, 1) := by decide +kernel
theorem d_Ve_doColumnPathsLead_57 : decode m_Ve_doColumnPathsLead.2.2.1 57 = .ok (.iadd, 1) := by decide +kernel
theorem d_Ve_doColumnPathsLead_58 : decode m_Ve_doColumnPathsLead.2.2.1 58 = .ok (.invokestatic 93, 3) := by decide +kernel
theorem d_Ve_doColumnPathsLead_61 : decode m_Ve_doColumnPathsLead.2.2.1 61 = .ok (.aload_n 0, 1) := by decide +kernel
theorem d_Ve_doColumnPathsLead_62 : decode m_Ve_doColumnPathsLead.2.2.1 62 = .ok (.getfield 36, 3) := by decide +kernel
theorem d_Ve_doColumnPathsLead_65 : decode m_Ve_doColumnPathsLead.2.2.1 65 = .ok (.iconst 0, 1) := by decide +kernel
theorem d_Ve_doColumnPathsLead_66 : decode m_Ve_doColumnPathsLead.2.2.1 66 = .ok (.iaload, 1) := by decide +kernel
theorem d_Ve_doColumnPathsLead_67 : decode m_Ve_doColumnPathsLead.2.2.1 67 = .ok (.if_icmp .eq (5), 3) := by decide +kernel
theorem d_Ve_doColumnPathsLead_70 : decode m_Ve_doColumnPathsLead.2.2.1 70 = .ok (.iconst 0, 1) := by decide +kernel
theorem d_Ve_doColumnPathsLead_71 : decode m_Ve_doColumnPathsLead.2.2.1 71 = .ok (.ireturn, 1) := by decide +kernel
theorem d_Ve_doColumnPathsLead_72 : decode m_Ve_doColumnPathsLead.2.2.1 72 = .ok (.iinc 2 (1), 3) := by decide +kernel
theorem d_Ve_doColumnPathsLead_75 : decode m_Ve_doColumnPathsLead.2.2.1 75 = .ok (.goto (-73), 3) := by decide +kernel
theorem d_Ve_doColumnPathsLead_78 : decode m_Ve_doColumnPathsLead.2.2.1 78 = .ok (.iconst 1, 1) := by decide +kernel
theorem d_Ve_doColumnPathsLead_79 : decode m_Ve_doColumnPathsLead.2.2.1 79 = .ok (.ireturn, 1) := by decide +kernel
theorem d_Ve_doLayerPathsLead_0 : decode m_Ve_doLayerPathsLead.2.2.1 0 = .ok (.iload_n 2, 1) := by decide +kernel
theorem d_Ve_doLayerPathsLead_1 : decode m_Ve_doLayerPathsLead.2.2.1 1 = .ok (.invokestatic 99, 3) := by decide +kernel
theorem d_Ve_doLayerPathsLead_4 : decode m_Ve_doLayerPathsLead.2.2.1 4 = .ok (.istore_n 3, 1) := by decide +kernel
theorem d_Ve_doLayerPathsLead_5 : decode m_Ve_doLayerPathsLead.2.2.1 5 = .ok (.iconst 0, 1) := by decide +kernel
theorem d_Ve_doLayerPathsLead_6 : decode m_Ve_doLayerPathsLead.2.2.1 6 = .ok (.istore 4, 2) := by decide +kernel
theorem d_Ve_doLayerPathsLead_8 : decode m_Ve_doLayerPathsLead.2.2.1 8 = .ok (.iload 4, 2) := by decide +kernel
theorem d_Ve_doLayerPathsLead_10 : decode m_Ve_doLayerPathsLead.2.2.1 10 = .ok (.iconst 2, 1) := by decide +kernel
theorem d_Ve_doLayerPathsLead_11 : decode m_Ve_doLayerPathsLead.2.2.1 11 = .ok (.if_icmp .ge (72), 3) := by decide +kernel
theorem d_Ve_doLayerPathsLead_14 : decode m_Ve_doLayerPathsLead.2.2.1 14 = .ok (.aload_n 0, 1) := by decide +kernel
theorem d_Ve_doLayerPathsLead_15 : decode m_Ve_doLayerPathsLead.2.2.1 15 = .ok (.iload_n 1, 1) := by decide +kernel
theorem d_Ve_doLayerPathsLead_16 : decode m_Ve_doLayerPathsLead.2.2.1 16 = .ok (.invokevirtual 81, 3) := by decide +kernel
theorem d_Ve_doLayerPathsLead_19 : decode m_Ve_doLayerPathsLead.2.2.1 19 = .ok (.iload_n 2, 1) := by decide +kernel
theorem d_Ve_doLayerPathsLead_20 : decode m_Ve_doLayerPathsLead.2.2.1 20 = .ok (.iload 4, 2) := by decide +kernel
theorem d_Ve_doLayerPathsLead_22 : decode m_Ve_doLayerPathsLead.2.2.1 22 = .ok (.invokestatic 102, 3) := by decide +kernel
theorem d_Ve_doLayerPathsLead_25 : decode m_Ve_doLayerPathsLead.2.2.1 25 = .ok (.istore 5, 2) := by decide +kernel
theorem d_Ve_doLayerPathsLead_27 : decode m_Ve_doLayerPathsLead.2.2.1 27 = .ok (.iload_n 1, 1) := by decide +kernel
theorem d_Ve_doLayerPathsLead_28 : decode m_Ve_doLayerPathsLead.2.2.1 28 = .ok (.iload_n 2, 1) := by decide +kernel
theorem d_Ve_doLayerPathsLead_29 : decode m_Ve_doLayerPathsLead.2.2.1 29 = .ok (.iload 4, 2) := by decide +kernel
theorem d_Ve_doLayerPathsLead_31 : decode m_Ve_doLayerPathsLead.2.2.1 31 = .ok (.invokestatic 106, 3) := by decide +kernel
theorem d_Ve_doLayerPathsLead_34 : decode m_Ve_doLayerPathsLead.2.2.1 34 = .ok (.istore 6, 2) := by decide +kernel
theorem d_Ve_doLayerPathsLead_36 : decode m_Ve_doLayerPathsLead.2.2.1 36 = .ok (.aload_n 0, 1) := by decide +kernel
theorem d_Ve_doLayerPathsLead_37 : decode m_Ve_doLayerPathsLead.2.2.1 37 = .ok (.getfield 36, 3) := by decide +kernel
theorem d_Ve_doLayerPathsLead_40 : decode m_Ve_doLayerPathsLead.2.2.1 40 = .ok (.iload 6, 2) := by decide +kernel
theorem d_Ve_doLayerPathsLead_42 : decode m_Ve_doLayerPathsLead.2.2.1 42 = .ok (.iaload, 1) := by decide +kernel
theorem d_Ve_doLayerPathsLead_43 : decode m_Ve_doLayerPathsLead.2.2.1 43 = .ok (.invokestatic 109, 3) := by decide +kernel
theorem d_Ve_doLayerPathsLead_46 : decode m_Ve_doLayerPathsLead.2.2.1 46 = .ok (.istore 7, 2) := by decide +kernel
theorem d_Ve_doLayerPathsLead_48 : decode m_Ve_doLayerPathsLead.2.2.1 48 = .ok (.iload_n 3, 1) := by decide +kernel
theorem d_Ve_doLayerPathsLead_49 : decode m_Ve_doLayerPathsLead.2.2.1 49 = .ok (.iload 5, 2) := by decide +kernel
theorem d_Ve_doLayerPathsLead_51 : decode m_Ve_doLayerPathsLead.2.2.1 51 = .ok (.iload 7, 2) := by decide +kernel
theorem d_Ve_doLayerPathsLead_53 : decode m_Ve_doLayerPathsLead.2.2.1 53 = .ok (.aload_n 0, 1) := by decide +kernel
theorem d_Ve_doLayerPathsLead_54 : decode m_Ve_doLayerPathsLead.2.2.1 54 = .ok (.getfield 36, 3) := by decide +kernel
theorem d_Ve_doLayerPathsLead_57 : decode m_Ve_doLayerPathsLead.2.2.1 57 = .ok (.iload 6, 2) := by decide +kernel
theorem d_Ve_doLayerPathsLead_59 : decode m_Ve_doLayerPathsLead.2.2.1 59 = .ok (.iconst 1, 1) := by decide +kernel
theorem d_Ve_doLayerPathsLead_60 : decode m_Ve_doLayerPathsLead.2.2.1 60 = .ok (.iadd, 1) := by decide +kernel
theorem d_Ve_doLayerPathsLead_61 : decode m_Ve_doLayerPathsLead.2.2.1 61 = .ok (.invokestatic 93, 3) := by decide +kernel
theorem d_Ve_doLayerPathsLead_64 : decode m_Ve_doLayerPathsLead.2.2.1 64 = .ok (.aload_n 0, 1) := by decide +kernel
theorem d_Ve_doLayerPathsLead_65 : decode m_Ve_doLayerPathsLead.2.2.1 65 = .ok (.getfield 36, 3) := by decide +kernel
theorem d_Ve_doLayerPathsLead_68 : decode m_Ve_doLayerPathsLead.2.2.1 68 = .ok (.iconst 1, 1) := by decide +kernel
theorem d_Ve_doLayerPathsLead_69 : decode m_Ve_doLayerPathsLead.2.2.1 69 = .ok (.iload_n 2, 1) := by decide +kernel
theorem d_Ve_doLayerPathsLead_70 : decode m_Ve_doLayerPathsLead.2.2.1 70 = .ok (.iadd, 1) := by decide +kernel
theorem d_Ve_doLayerPathsLead_71 : decode m_Ve_doLayerPathsLead.2.2.1 71 = .ok (.iaload, 1) := by decide +kernel
theorem d_Ve_doLayerPathsLead_72 : decode m_Ve_doLayerPathsLead.2.2.1 72 = .ok (.if_icmp .eq (5), 3) := by decide +kernel
theorem d_Ve_doLayerPathsLead_75 : decode m_Ve_doLayerPathsLead.2.2.1 75 = .ok (.iconst 0, 1) := by decide +kernel
theorem d_Ve_doLayerPathsLead_76 : decode m_Ve_doLayerPathsLead.2.2.1 76 = .ok (.ireturn, 1) := by decide +kernel
theorem d_Ve_doLayerPathsLead_77 : decode m_Ve_doLayerPathsLead.2.2.1 77 = .ok (.iinc 4 (1), 3) := by decide +kernel
theorem d_Ve_doLayerPathsLead_80 : decode m_Ve_doLayerPathsLead.2.2.1 80 = .ok (.goto (-72), 3) := by decide +kernel
theorem d_Ve_doLayerPathsLead_83 : decode m_Ve_doLayerPathsLead.2.2.1 83 = .ok (.iconst 1, 1) := by decide +kernel
theorem d_Ve_doLayerPathsLead_84 : decode m_Ve_doLayerPathsLead.2.2.1 84 = .ok (.ireturn, 1) := by decide +kernel
theorem d_Ve_isComposed_0 : decode m_Ve_isComposed.2.2.1 0 = .ok (.iload_n 1, 1) := by decide +kernel
theorem d_Ve_isComposed_1 : decode m_Ve_isComposed.2.2.1 1 = .ok (.iconst 2, 1) := by decide +kernel
theorem d_Ve_isComposed_2 : decode m_Ve_isComposed.2.2.1 2 = .ok (.iload_n 2, 1) := by decide +kernel
theorem d_Ve_isComposed_3 : decode m_Ve_isComposed.2.2.1 3 = .ok (.imul, 1) := by decide +kernel
theorem d_Ve_isComposed_4 : decode m_Ve_isComposed.2.2.1 4 = .ok (.invokestatic 87, 3) := by decide +kernel
theorem d_Ve_isComposed_7 : decode m_Ve_isComposed.2.2.1 7 = .ok (.istore_n 3, 1) := by decide +kernel
theorem d_Ve_isComposed_8 : decode m_Ve_isComposed.2.2.1 8 = .ok (.iload_n 1, 1) := by decide +kernel
theorem d_Ve_isComposed_9 : decode m_Ve_isComposed.2.2.1 9 = .ok (.iconst 2, 1) := by decide +kernel
theorem d_Ve_isComposed_10 : decode m_Ve_isComposed.2.2.1 10 = .ok (.iload_n 2, 1) := by decide +kernel
theorem d_Ve_isComposed_11 : decode m_Ve_isComposed.2.2.1 11 = .ok (.imul, 1) := by decide +kernel
theorem d_Ve_isComposed_12 : decode m_Ve_isComposed.2.2.1 12 = .ok (.iconst 1, 1) := by decide +kernel
theorem d_Ve_isComposed_13 : decode m_Ve_isComposed.2.2.1 13 = .ok (.iadd, 1) := by decide +kernel
theorem d_Ve_isComposed_14 : decode m_Ve_isComposed.2.2.1 14 = .ok (.invokestatic 87, 3) := by decide +kernel
theorem d_Ve_isComposed_17 : decode m_Ve_isComposed.2.2.1 17 = .ok (.istore 4, 2) := by decide +kernel
theorem d_Ve_isComposed_19 : decode m_Ve_isComposed.2.2.1 19 = .ok (.aload_n 0, 1) := by decide +kernel
theorem d_Ve_isComposed_20 : decode m_Ve_isComposed.2.2.1 20 = .ok (.getfield 22, 3) := by decide +kernel
theorem d_Ve_isComposed_23 : decode m_Ve_isComposed.2.2.1 23 = .ok (.aload_n 0, 1) := by decide +kernel
theorem d_Ve_isComposed_24 : decode m_Ve_isComposed.2.2.1 24 = .ok (.getfield 36, 3) := by decide +kernel
theorem d_Ve_isComposed_27 : decode m_Ve_isComposed.2.2.1 27 = .ok (.iload_n 3, 1) := by decide +kernel
theorem d_Ve_isComposed_28 : decode m_Ve_isComposed.2.2.1 28 = .ok (.iaload, 1) := by decide +kernel
theorem d_Ve_isComposed_29 : decode m_Ve_isComposed.2.2.1 29 = .ok (.aload_n 0, 1) := by decide +kernel
theorem d_Ve_isComposed_30 : decode m_Ve_isComposed.2.2.1 30 = .ok (.getfield 36, 3) := by decide +kernel
theorem d_Ve_isComposed_33 : decode m_Ve_isComposed.2.2.1 33 = .ok (.iload_n 3, 1) := by decide +kernel
theorem d_Ve_isComposed_34 : decode m_Ve_isComposed.2.2.1 34 = .ok (.iconst 1, 1) := by decide +kernel
theorem d_Ve_isComposed_35 : decode m_Ve_isComposed.2.2.1 35 = .ok (.iadd, 1) := by decide +kernel
theorem d_Ve_isComposed_36 : decode m_Ve_isComposed.2.2.1 36 = .ok (.iaload, 1) := by decide +kernel
theorem d_Ve_isComposed_37 : decode m_Ve_isComposed.2.2.1 37 = .ok (.aload_n 0, 1) := by decide +kernel
theorem d_Ve_isComposed_38 : decode m_Ve_isComposed.2.2.1 38 = .ok (.getfield 36, 3) := by decide +kernel
theorem d_Ve_isComposed_41 : decode m_Ve_isComposed.2.2.1 41 = .ok (.iload 4, 2) := by decide +kernel
theorem d_Ve_isComposed_43 : decode m_Ve_isComposed.2.2.1 43 = .ok (.iaload, 1) := by decide +kernel
theorem d_Ve_isComposed_44 : decode m_Ve_isComposed.2.2.1 44 = .ok (.aload_n 0, 1) := by decide +kernel
theorem d_Ve_isComposed_45 : decode m_Ve_isComposed.2.2.1 45 = .ok (.getfield 36, 3) := by decide +kernel
theorem d_Ve_isComposed_48 : decode m_Ve_isComposed.2.2.1 48 = .ok (.iload 4, 2) := by decide +kernel
theorem d_Ve_isComposed_50 : decode m_Ve_isComposed.2.2.1 50 = .ok (.iconst 1, 1) := by decide +kernel
theorem d_Ve_isComposed_51 : decode m_Ve_isComposed.2.2.1 51 = .ok (.iadd, 1) := by decide +kernel
theorem d_Ve_isComposed_52 : decode m_Ve_isComposed.2.2.1 52 = .ok (.iaload, 1) := by decide +kernel
theorem d_Ve_isComposed_53 : decode m_Ve_isComposed.2.2.1 53 = .ok (.invokevirtual 112, 3) := by decide +kernel
theorem d_Ve_isComposed_56 : decode m_Ve_isComposed.2.2.1 56 = .ok (.aload_n 0, 1) := by decide +kernel
theorem d_Ve_isComposed_57 : decode m_Ve_isComposed.2.2.1 57 = .ok (.getfield 22, 3) := by decide +kernel
theorem d_Ve_isComposed_60 : decode m_Ve_isComposed.2.2.1 60 = .ok (.aload_n 0, 1) := by decide +kernel
theorem d_Ve_isComposed_61 : decode m_Ve_isComposed.2.2.1 61 = .ok (.iload_n 1, 1) := by decide +kernel
theorem d_Ve_isComposed_62 : decode m_Ve_isComposed.2.2.1 62 = .ok (.invokevirtual 81, 3) := by decide +kernel
theorem d_Ve_isComposed_65 : decode m_Ve_isComposed.2.2.1 65 = .ok (.iconst 0, 1) := by decide +kernel
theorem d_Ve_isComposed_66 : decode m_Ve_isComposed.2.2.1 66 = .ok (.iload_n 2, 1) := by decide +kernel
theorem d_Ve_isComposed_67 : decode m_Ve_isComposed.2.2.1 67 = .ok (.invokestatic 102, 3) := by decide +kernel
theorem d_Ve_isComposed_70 : decode m_Ve_isComposed.2.2.1 70 = .ok (.aload_n 0, 1) := by decide +kernel
theorem d_Ve_isComposed_71 : decode m_Ve_isComposed.2.2.1 71 = .ok (.getfield 12, 3) := by decide +kernel
theorem d_Ve_isComposed_74 : decode m_Ve_isComposed.2.2.1 74 = .ok (.getfield 118, 3) := by decide +kernel
theorem d_Ve_isComposed_77 : decode m_Ve_isComposed.2.2.1 77 = .ok (.invokevirtual 122, 3) := by decide +kernel
theorem d_Ve_isComposed_80 : decode m_Ve_isComposed.2.2.1 80 = .ok (.istore 5, 2) := by decide +kernel
theorem d_Ve_isComposed_82 : decode m_Ve_isComposed.2.2.1 82 = .ok (.iload 5, 2) := by decide +kernel
theorem d_Ve_isComposed_84 : decode m_Ve_isComposed.2.2.1 84 = .ok (.aload_n 0, 1) := by decide +kernel
theorem d_Ve_isComposed_85 : decode m_Ve_isComposed.2.2.1 85 = .ok (.getfield 36, 3) := by decide +kernel
theorem d_Ve_isComposed_88 : decode m_Ve_isComposed.2.2.1 88 = .ok (.iload_n 1, 1) := by decide +kernel
theorem d_Ve_isComposed_89 : decode m_Ve_isComposed.2.2.1 89 = .ok (.iconst 0, 1) := by decide +kernel
theorem d_Ve_isComposed_90 : decode m_Ve_isComposed.2.2.1 90 = .ok (.iload_n 2, 1) := by decide +kernel
theorem d_Ve_isComposed_91 : decode m_Ve_isComposed.2.2.1 91 = .ok (.invokestatic 106, 3) := by decide +kernel
theorem d_Ve_isComposed_94 : decode m_Ve_isComposed.2.2.1 94 = .ok (.iaload, 1) := by decide +kernel
theorem d_Ve_isComposed_95 : decode m_Ve_isComposed.2.2.1 95 = .ok (.if_icmp .ne (7), 3) := by decide +kernel
theorem d_Ve_isComposed_98 : decode m_Ve_isComposed.2.2.1 98 = .ok (.iconst 1, 1) := by decide +kernel
theorem d_Ve_isComposed_99 : decode m_Ve_isComposed.2.2.1 99 = .ok (.goto (4), 3) := by decide +kernel
theorem d_Ve_isComposed_102 : decode m_Ve_isComposed.2.2.1 102 = .ok (.iconst 0, 1) := by decide +kernel
theorem d_Ve_isComposed_103 : decode m_Ve_isComposed.2.2.1 103 = .ok (.ireturn, 1) := by decide +kernel
theorem d_Ve_folded_0 : decode m_Ve_folded.2.2.1 0 = .ok (.aload_n 0, 1) := by decide +kernel
theorem d_Ve_folded_1 : decode m_Ve_folded.2.2.1 1 = .ok (.getfield 36, 3) := by decide +kernel
theorem d_Ve_folded_4 : decode m_Ve_folded.2.2.1 4 = .ok (.iload_n 1, 1) := by decide +kernel
theorem d_Ve_folded_5 : decode m_Ve_folded.2.2.1 5 = .ok (.iload_n 2, 1) := by decide +kernel
theorem d_Ve_folded_6 : decode m_Ve_folded.2.2.1 6 = .ok (.iconst 0, 1) := by decide +kernel
theorem d_Ve_folded_7 : decode m_Ve_folded.2.2.1 7 = .ok (.invokestatic 106, 3) := by decide +kernel
theorem d_Ve_folded_10 : decode m_Ve_folded.2.2.1 10 = .ok (.iaload, 1) := by decide +kernel
theorem d_Ve_folded_11 : decode m_Ve_folded.2.2.1 11 = .ok (.istore_n 3, 1) := by decide +kernel
theorem d_Ve_folded_12 : decode m_Ve_folded.2.2.1 12 = .ok (.aload_n 0, 1) := by decide +kernel
theorem d_Ve_folded_13 : decode m_Ve_folded.2.2.1 13 = .ok (.getfield 36, 3) := by decide +kernel
theorem d_Ve_folded_16 : decode m_Ve_folded.2.2.1 16 = .ok (.iload_n 1, 1) := by decide +kernel
theorem d_Ve_folded_17 : decode m_Ve_folded.2.2.1 17 = .ok (.iload_n 2, 1) := by decide +kernel
theorem d_Ve_folded_18 : decode m_Ve_folded.2.2.1 18 = .ok (.iconst 1, 1) := by decide +kernel
theorem d_Ve_folded_19 : decode m_Ve_folded.2.2.1 19 = .ok (.invokestatic 106, 3) := by decide +kernel
theorem d_Ve_folded_22 : decode m_Ve_folded.2.2.1 22 = .ok (.iaload, 1) := by decide +kernel
theorem d_Ve_folded_23 : decode m_Ve_folded.2.2.1 23 = .ok (.istore 4, 2) := by decide +kernel
theorem d_Ve_folded_25 : decode m_Ve_folded.2.2.1 25 = .ok (.aload_n 0, 1) := by decide +kernel
theorem d_Ve_folded_26 : decode m_Ve_folded.2.2.1 26 = .ok (.iload_n 1, 1) := by decide +kernel
theorem d_Ve_folded_27 : decode m_Ve_folded.2.2.1 27 = .ok (.invokevirtual 81, 3) := by decide +kernel
theorem d_Ve_folded_30 : decode m_Ve_folded.2.2.1 30 = .ok (.iload_n 2, 1) := by decide +kernel
theorem d_Ve_folded_31 : decode m_Ve_folded.2.2.1 31 = .ok (.iconst 0, 1) := by decide +kernel
theorem d_Ve_folded_32 : decode m_Ve_folded.2.2.1 32 = .ok (.invokestatic 102, 3) := by decide +kernel
theorem d_Ve_folded_35 : decode m_Ve_folded.2.2.1 35 = .ok (.istore 5, 2) := by decide +kernel
theorem d_Ve_folded_37 : decode m_Ve_folded.2.2.1 37 = .ok (.aload_n 0, 1) := by decide +kernel
theorem d_Ve_folded_38 : decode m_Ve_folded.2.2.1 38 = .ok (.getfield 18, 3) := by decide +kernel
theorem d_Ve_folded_41 : decode m_Ve_folded.2.2.1 41 = .ok (.iload_n 2, 1) := by decide +kernel
theorem d_Ve_folded_42 : decode m_Ve_folded.2.2.1 42 = .ok (.iload 5, 2) := by decide +kernel
theorem d_Ve_folded_44 : decode m_Ve_folded.2.2.1 44 = .ok (.iload_n 3, 1) := by decide +kernel
theorem d_Ve_folded_45 : decode m_Ve_folded.2.2.1 45 = .ok (.iload 4, 2) := by decide +kernel
theorem d_Ve_folded_47 : decode m_Ve_folded.2.2.1 47 = .ok (.aload_n 0, 1) := by decide +kernel
theorem d_Ve_folded_48 : decode m_Ve_folded.2.2.1 48 = .ok (.getfield 12, 3) := by decide +kernel
theorem d_Ve_folded_51 : decode m_Ve_folded.2.2.1 51 = .ok (.getfield 125, 3) := by decide +kernel
theorem d_Ve_folded_54 : decode m_Ve_folded.2.2.1 54 = .ok (.iload_n 2, 1) := by decide +kernel
theorem d_Ve_folded_55 : decode m_Ve_folded.2.2.1 55 = .ok (.iaload, 1) := by decide +kernel
theorem d_Ve_folded_56 : decode m_Ve_folded.2.2.1 56 = .ok (.invokevirtual 128, 3) := by decide +kernel
theorem d_Ve_folded_59 : decode m_Ve_folded.2.2.1 59 = .ok (.ireturn, 1) := by decide +kernel
theorem d_Ve_valueBehind_0 : decode m_Ve_valueBehind.2.2.1 0 = .ok (.iload_n 2, 1) := by decide +kernel
theorem d_Ve_valueBehind_1 : decode m_Ve_valueBehind.2.2.1 1 = .ok (.iconst 1, 1) := by decide +kernel
theorem d_Ve_valueBehind_2 : decode m_Ve_valueBehind.2.2.1 2 = .ok (.iadd, 1) := by decide +kernel
theorem d_Ve_valueBehind_3 : decode m_Ve_valueBehind.2.2.1 3 = .ok (.istore_n 3, 1) := by decide +kernel
theorem d_Ve_valueBehind_4 : decode m_Ve_valueBehind.2.2.1 4 = .ok (.iload_n 3, 1) := by decide +kernel
theorem d_Ve_valueBehind_5 : decode m_Ve_valueBehind.2.2.1 5 = .ok (.invokestatic 99, 3) := by decide +kernel
theorem d_Ve_valueBehind_8 : decode m_Ve_valueBehind.2.2.1 8 = .ok (.istore 4, 2) := by decide +kernel
theorem d_Ve_valueBehind_10 : decode m_Ve_valueBehind.2.2.1 10 = .ok (.aload_n 0, 1) := by decide +kernel
theorem d_Ve_valueBehind_11 : decode m_Ve_valueBehind.2.2.1 11 = .ok (.iload_n 1, 1) := by decide +kernel
theorem d_Ve_valueBehind_12 : decode m_Ve_valueBehind.2.2.1 12 = .ok (.invokevirtual 81, 3) := by decide +kernel
theorem d_Ve_valueBehind_15 : decode m_Ve_valueBehind.2.2.1 15 = .ok (.iload 4, 2) := by decide +kernel
theorem d_Ve_valueBehind_17 : decode m_Ve_valueBehind.2.2.1 17 = .ok (.irem, 1) := by decide +kernel
theorem d_Ve_valueBehind_18 : decode m_Ve_valueBehind.2.2.1 18 = .ok (.iload 4, 2) := by decide +kernel
theorem d_Ve_valueBehind_20 : decode m_Ve_valueBehind.2.2.1 20 = .ok (.iconst 2, 1) := by decide +kernel
theorem d_Ve_valueBehind_21 : decode m_Ve_valueBehind.2.2.1 21 = .ok (.idiv, 1) := by decide +kernel
theorem d_Ve_valueBehind_22 : decode m_Ve_valueBehind.2.2.1 22 = .ok (.idiv, 1) := by decide +kernel
theorem d_Ve_valueBehind_23 : decode m_Ve_valueBehind.2.2.1 23 = .ok (.istore 5, 2) := by decide +kernel
theorem d_Ve_valueBehind_25 : decode m_Ve_valueBehind.2.2.1 25 = .ok (.aload_n 0, 1) := by decide +kernel
theorem d_Ve_valueBehind_26 : decode m_Ve_valueBehind.2.2.1 26 = .ok (.getfield 36, 3) := by decide +kernel
theorem d_Ve_valueBehind_29 : decode m_Ve_valueBehind.2.2.1 29 = .ok (.iload_n 1, 1) := by decide +kernel
theorem d_Ve_valueBehind_30 : decode m_Ve_valueBehind.2.2.1 30 = .ok (.iload_n 3, 1) := by decide +kernel
theorem d_Ve_valueBehind_31 : decode m_Ve_valueBehind.2.2.1 31 = .ok (.iload 5, 2) := by decide +kernel
theorem d_Ve_valueBehind_33 : decode m_Ve_valueBehind.2.2.1 33 = .ok (.invokestatic 106, 3) := by decide +kernel
theorem d_Ve_valueBehind_36 : decode m_Ve_valueBehind.2.2.1 36 = .ok (.iaload, 1) := by decide +kernel
theorem d_Ve_valueBehind_37 : decode m_Ve_valueBehind.2.2.1 37 = .ok (.ireturn, 1) := by decide +kernel
theorem d_La_law_0 : decode m_La_law.2.2.1 0 = .ok (.new 7, 3) := by decide +kernel
theorem d_La_law_3 : decode m_La_law.2.2.1 3 = .ok (.dup, 1) := by decide +kernel
theorem d_La_law_4 : decode m_La_law.2.2.1 4 = .ok (.invokespecial 9, 3) := by decide +kernel
theorem d_La_law_7 : decode m_La_law.2.2.1 7 = .ok (.astore_n 1, 1) := by decide +kernel
theorem d_La_law_8 : decode m_La_law.2.2.1 8 = .ok (.new 10, 3) := by decide +kernel
theorem d_La_law_11 : decode m_La_law.2.2.1 11 = .ok (.dup, 1) := by decide +kernel
theorem d_La_law_12 : decode m_La_law.2.2.1 12 = .ok (.invokespecial 12, 3) := by decide +kernel
theorem d_La_law_15 : decode m_La_law.2.2.1 15 = .ok (.astore_n 2, 1) := by decide +kernel
theorem d_La_law_16 : decode m_La_law.2.2.1 16 = .ok (.iconst 0, 1) := by decide +kernel
theorem d_La_law_17 : decode m_La_law.2.2.1 17 = .ok (.istore_n 3, 1) := by decide +kernel
theorem d_La_law_18 : decode m_La_law.2.2.1 18 = .ok (.iload_n 3, 1) := by decide +kernel
theorem d_La_law_19 : decode m_La_law.2.2.1 19 = .ok (.aload_n 0, 1) := by decide +kernel
theorem d_La_law_20 : decode m_La_law.2.2.1 20 = .ok (.arraylength, 1) := by decide +kernel
theorem d_La_law_21 : decode m_La_law.2.2.1 21 = .ok (.iconst 5, 1) := by decide +kernel
theorem d_La_law_22 : decode m_La_law.2.2.1 22 = .ok (.isub, 1) := by decide +kernel
theorem d_La_law_23 : decode m_La_law.2.2.1 23 = .ok (.if_icmp .gt (413), 3) := by decide +kernel
theorem d_La_law_26 : decode m_La_law.2.2.1 26 = .ok (.aload_n 0, 1) := by decide +kernel
theorem d_La_law_27 : decode m_La_law.2.2.1 27 = .ok (.iload_n 3, 1) := by decide +kernel
theorem d_La_law_28 : decode m_La_law.2.2.1 28 = .ok (.iaload, 1) := by decide +kernel
theorem d_La_law_29 : decode m_La_law.2.2.1 29 = .ok (.bipush (15), 2) := by decide +kernel
theorem d_La_law_31 : decode m_La_law.2.2.1 31 = .ok (.iand, 1) := by decide +kernel
theorem d_La_law_32 : decode m_La_law.2.2.1 32 = .ok (.tableswitch (398) (0) (11) #[64, 117, 160, 171, 214, 247, 280, 293, 306, 329, 362, 375], 64) := by decide +kernel
theorem d_La_law_96 : decode m_La_law.2.2.1 96 = .ok (.aload_n 1, 1) := by decide +kernel
theorem d_La_law_97 : decode m_La_law.2.2.1 97 = .ok (.aload_n 0, 1) := by decide +kernel
theorem d_La_law_98 : decode m_La_law.2.2.1 98 = .ok (.iload_n 3, 1) := by decide +kernel
theorem d_La_law_99 : decode m_La_law.2.2.1 99 = .ok (.iconst 1, 1) := by decide +kernel
theorem d_La_law_100 : decode m_La_law.2.2.1 100 = .ok (.iadd, 1) := by decide +kernel
theorem d_La_law_101 : decode m_La_law.2.2.1 101 = .ok (.iaload, 1) := by decide +kernel
theorem d_La_law_102 : decode m_La_law.2.2.1 102 = .ok (.aload_n 0, 1) := by decide +kernel
theorem d_La_law_103 : decode m_La_law.2.2.1 103 = .ok (.iload_n 3, 1) := by decide +kernel
theorem d_La_law_104 : decode m_La_law.2.2.1 104 = .ok (.iconst 2, 1) := by decide +kernel
theorem d_La_law_105 : decode m_La_law.2.2.1 105 = .ok (.iadd, 1) := by decide +kernel
theorem d_La_law_106 : decode m_La_law.2.2.1 106 = .ok (.iaload, 1) := by decide +kernel
theorem d_La_law_107 : decode m_La_law.2.2.1 107 = .ok (.aload_n 0, 1) := by decide +kernel
theorem d_La_law_108 : decode m_La_law.2.2.1 108 = .ok (.iload_n 3, 1) := by decide +kernel
theorem d_La_law_109 : decode m_La_law.2.2.1 109 = .ok (.iconst 3, 1) := by decide +kernel
theorem d_La_law_110 : decode m_La_law.2.2.1 110 = .ok (.iadd, 1) := by decide +kernel
theorem d_La_law_111 : decode m_La_law.2.2.1 111 = .ok (.iaload, 1) := by decide +kernel
theorem d_La_law_112 : decode m_La_law.2.2.1 112 = .ok (.aload_n 0, 1) := by decide +kernel
theorem d_La_law_113 : decode m_La_law.2.2.1 113 = .ok (.iload_n 3, 1) := by decide +kernel
theorem d_La_law_114 : decode m_La_law.2.2.1 114 = .ok (.iconst 4, 1) := by decide +kernel
theorem d_La_law_115 : decode m_La_law.2.2.1 115 = .ok (.iadd, 1) := by decide +kernel
theorem d_La_law_116 : decode m_La_law.2.2.1 116 = .ok (.iaload, 1) := by decide +kernel
theorem d_La_law_117 : decode m_La_law.2.2.1 117 = .ok (.invokevirtual 13, 3) := by decide +kernel
theorem d_La_law_120 : decode m_La_law.2.2.1 120 = .ok (.aload_n 2, 1) := by decide +kernel
theorem d_La_law_121 : decode m_La_law.2.2.1 121 = .ok (.aload_n 0, 1) := by decide +kernel
theorem d_La_law_122 : decode m_La_law.2.2.1 122 = .ok (.iload_n 3, 1) := by decide +kernel
theorem d_La_law_123 : decode m_La_law.2.2.1 123 = .ok (.iconst 1, 1) := by decide +kernel
theorem d_La_law_124 : decode m_La_law.2.2.1 124 = .ok (.iadd, 1) := by decide +kernel
theorem d_La_law_125 : decode m_La_law.2.2.1 125 = .ok (.iaload, 1) := by decide +kernel
theorem d_La_law_126 : decode m_La_law.2.2.1 126 = .ok (.aload_n 0, 1) := by decide +kernel
theorem d_La_law_127 : decode m_La_law.2.2.1 127 = .ok (.iload_n 3, 1) := by decide +kernel
theorem d_La_law_128 : decode m_La_law.2.2.1 128 = .ok (.iconst 2, 1) := by decide +kernel
theorem d_La_law_129 : decode m_La_law.2.2.1 129 = .ok (.iadd, 1) := by decide +kernel
theorem d_La_law_130 : decode m_La_law.2.2.1 130 = .ok (.iaload, 1) := by decide +kernel
theorem d_La_law_131 : decode m_La_law.2.2.1 131 = .ok (.aload_n 0, 1) := by decide +kernel
theorem d_La_law_132 : decode m_La_law.2.2.1 132 = .ok (.iload_n 3, 1) := by decide +kernel
theorem d_La_law_133 : decode m_La_law.2.2.1 133 = .ok (.iconst 3, 1) := by decide +kernel
theorem d_La_law_134 : decode m_La_law.2.2.1 134 = .ok (.iadd, 1) := by decide +kernel
theorem d_La_law_135 : decode m_La_law.2.2.1 135 = .ok (.iaload, 1) := by decide +kernel
theorem d_La_law_136 : decode m_La_law.2.2.1 136 = .ok (.aload_n 0, 1) := by decide +kernel
theorem d_La_law_137 : decode m_La_law.2.2.1 137 = .ok (.iload_n 3, 1) := by decide +kernel
theorem d_La_law_138 : decode m_La_law.2.2.1 138 = .ok (.iconst 4, 1) := by decide +kernel
theorem d_La_law_139 : decode m_La_law.2.2.1 139 = .ok (.iadd, 1) := by decide +kernel
theorem d_La_law_140 : decode m_La_law.2.2.1 140 = .ok (.iaload, 1) := by decide +kernel
theorem d_La_law_141 : decode m_La_law.2.2.1 141 = .ok (.invokevirtual 17, 3) := by decide +kernel
theorem d_La_law_144 : decode m_La_law.2.2.1 144 = .ok (.if_icmp .eq (286), 3) := by decide +kernel
theorem d_La_law_147 : decode m_La_law.2.2.1 147 = .ok (.iconst 0, 1) := by decide +kernel
theorem d_La_law_148 : decode m_La_law.2.2.1 148 = .ok (.ireturn, 1) := by decide +kernel
theorem d_La_law_149 : decode m_La_law.2.2.1 149 = .ok (.aload_n 1, 1) := by decide +kernel
theorem d_La_law_150 : decode m_La_law.2.2.1 150 = .ok (.aload_n 0, 1) := by decide +kernel
theorem d_La_law_151 : decode m_La_law.2.2.1 151 = .ok (.iload_n 3, 1) := by decide +kernel
theorem d_La_law_152 : decode m_La_law.2.2.1 152 = .ok (.iconst 1, 1) := by decide +kernel
theorem d_La_law_153 : decode m_La_law.2.2.1 153 = .ok (.iadd, 1) := by decide +kernel
theorem d_La_law_154 : decode m_La_law.2.2.1 154 = .ok (.iaload, 1) := by decide +kernel
theorem d_La_law_155 : decode m_La_law.2.2.1 155 = .ok (.aload_n 0, 1) := by decide +kernel
theorem d_La_law_156 : decode m_La_law.2.2.1 156 = .ok (.iload_n 3, 1) := by decide +kernel
theorem d_La_law_157 : decode m_La_law.2.2.1 157 = .ok (.iconst 2, 1) := by decide +kernel
theorem d_La_law_158 : decode m_La_law.2.2.1 158 = .ok (.iadd, 1) := by decide +kernel
theorem d_La_law_159 : decode m_La_law.2.2.1 159 = .ok (.iaload, 1) := by decide +kernel
theorem d_La_law_160 : decode m_La_law.2.2.1 160 = .ok (.aload_n 0, 1) := by decide +kernel
theorem d_La_law_161 : decode m_La_law.2.2.1 161 = .ok (.iload_n 3, 1) := by decide +kernel
theorem d_La_law_162 : decode m_La_law.2.2.1 162 = .ok (.iconst 3, 1) := by decide +kernel
theorem d_La_law_163 : decode m_La_law.2.2.1 163 = .ok (.iadd, 1) := by decide +kernel
theorem d_La_law_164 : decode m_La_law.2.2.1 164 = .ok (.iaload, 1) := by decide +kernel
theorem d_La_law_165 : decode m_La_law.2.2.1 165 = .ok (.invokevirtual 18, 3) := by decide +kernel
theorem d_La_law_168 : decode m_La_law.2.2.1 168 = .ok (.aload_n 2, 1) := by decide +kernel
theorem d_La_law_169 : decode m_La_law.2.2.1 169 = .ok (.aload_n 0, 1) := by decide +kernel
theorem d_La_law_170 : decode m_La_law.2.2.1 170 = .ok (.iload_n 3, 1) := by decide +kernel
theorem d_La_law_171 : decode m_La_law.2.2.1 171 = .ok (.iconst 1, 1) := by decide +kernel
theorem d_La_law_172 : decode m_La_law.2.2.1 172 = .ok (.iadd, 1) := by decide +kernel
theorem d_La_law_173 : decode m_La_law.2.2.1 173 = .ok (.iaload, 1) := by decide +kernel
theorem d_La_law_174 : decode m_La_law.2.2.1 174 = .ok (.aload_n 0, 1) := by decide +kernel
theorem d_La_law_175 : decode m_La_law.2.2.1 175 = .ok (.iload_n 3, 1) := by decide +kernel
theorem d_La_law_176 : decode m_La_law.2.2.1 176 = .ok (.iconst 2, 1) := by decide +kernel
theorem d_La_law_177 : decode m_La_law.2.2.1 177 = .ok (.iadd, 1) := by decide +kernel
theorem d_La_law_178 : decode m_La_law.2.2.1 178 = .ok (.iaload, 1) := by decide +kernel
theorem d_La_law_179 : decode m_La_law.2.2.1 179 = .ok (.aload_n 0, 1) := by decide +kernel
theorem d_La_law_180 : decode m_La_law.2.2.1 180 = .ok (.iload_n 3, 1) := by decide +kernel
theorem d_La_law_181 : decode m_La_law.2.2.1 181 = .ok (.iconst 3, 1) := by decide +kernel
theorem d_La_law_182 : decode m_La_law.2.2.1 182 = .ok (.iadd, 1) := by decide +kernel
theorem d_La_law_183 : decode m_La_law.2.2.1 183 = .ok (.iaload, 1) := by decide +kernel
theorem d_La_law_184 : decode m_La_law.2.2.1 184 = .ok (.invokevirtual 22, 3) := by decide +kernel
theorem d_La_law_187 : decode m_La_law.2.2.1 187 = .ok (.if_icmp .eq (243), 3) := by decide +kernel
theorem d_La_law_190 : decode m_La_law.2.2.1 190 = .ok (.iconst 0, 1) := by decide +kernel
theorem d_La_law_191 : decode m_La_law.2.2.1 191 = .ok (.ireturn, 1) := by decide +kernel
theorem d_La_law_192 : decode m_La_law.2.2.1 192 = .ok (.aload_n 1, 1) := by decide +kernel
theorem d_La_law_193 : decode m_La_law.2.2.1 193 = .ok (.invokevirtual 23, 3) := by decide +kernel
theorem d_La_law_196 : decode m_La_law.2.2.1 196 = .ok (.aload_n 2, 1) := by decide +kernel
theorem d_La_law_197 : decode m_La_law.2.2.1 197 = .ok (.invokevirtual 26, 3) := by decide +kernel
theorem d_La_law_200 : decode m_La_law.2.2.1 200 = .ok (.goto (230), 3) := by decide +kernel
theorem d_La_law_203 : decode m_La_law.2.2.1 203 = .ok (.aload_n 1, 1) := by decide +kernel
theorem d_La_law_204 : decode m_La_law.2.2.1 204 = .ok (.aload_n 0, 1) := by decide +kernel
theorem d_La_law_205 : decode m_La_law.2.2.1 205 = .ok (.iload_n 3, 1) := by decide +kernel
theorem d_La_law_206 : decode m_La_law.2.2.1 206 = .ok (.iconst 1, 1) := by decide +kernel
theorem d_La_law_207 : decode m_La_law.2.2.1 207 = .ok (.iadd, 1) := by decide +kernel
theorem d_La_law_208 : decode m_La_law.2.2.1 208 = .ok (.iaload, 1) := by decide +kernel
theorem d_La_law_209 : decode m_La_law.2.2.1 209 = .ok (.aload_n 0, 1) := by decide +kernel
theorem d_La_law_210 : decode m_La_law.2.2.1 210 = .ok (.iload_n 3, 1) := by decide +kernel
theorem d_La_law_211 : decode m_La_law.2.2.1 211 = .ok (.iconst 2, 1) := by decide +kernel
theorem d_La_law_212 : decode m_La_law.2.2.1 212 = .ok (.iadd, 1) := by decide +kernel
theorem d_La_law_213 : decode m_La_law.2.2.1 213 = .ok (.iaload, 1) := by decide +kernel
theorem d_La_law_214 : decode m_La_law.2.2.1 214 = .ok (.aload_n 0, 1) := by decide +kernel
theorem d_La_law_215 : decode m_La_law.2.2.1 215 = .ok (.iload_n 3, 1) := by decide +kernel
theorem d_La_law_216 : decode m_La_law.2.2.1 216 = .ok (.iconst 3, 1) := by decide +kernel
theorem d_La_law_217 : decode m_La_law.2.2.1 217 = .ok (.iadd, 1) := by decide +kernel
theorem d_La_law_218 : decode m_La_law.2.2.1 218 = .ok (.iaload, 1) := by decide +kernel
theorem d_La_law_219 : decode m_La_law.2.2.1 219 = .ok (.invokevirtual 27, 3) := by decide +kernel
theorem d_La_law_222 : decode m_La_law.2.2.1 222 = .ok (.aload_n 2, 1) := by decide +kernel
theorem d_La_law_223 : decode m_La_law.2.2.1 223 = .ok (.aload_n 0, 1) := by decide +kernel
theorem d_La_law_224 : decode m_La_law.2.2.1 224 = .ok (.iload_n 3, 1) := by decide +kernel
theorem d_La_law_225 : decode m_La_law.2.2.1 225 = .ok (.iconst 1, 1) := by decide +kernel
theorem d_La_law_226 : decode m_La_law.2.2.1 226 = .ok (.iadd, 1) := by decide +kernel
theorem d_La_law_227 : decode m_La_law.2.2.1 227 = .ok (.iaload, 1) := by decide +kernel
theorem d_La_law_228 : decode m_La_law.2.2.1 228 = .ok (.aload_n 0, 1) := by decide +kernel
theorem d_La_law_229 : decode m_La_law.2.2.1 229 = .ok (.iload_n 3, 1) := by decide +kernel
theorem d_La_law_230 : decode m_La_law.2.2.1 230 = .ok (.iconst 2, 1) := by decide +kernel
theorem d_La_law_231 : decode m_La_law.2.2.1 231 = .ok (.iadd, 1) := by decide +kernel
theorem d_La_law_232 : decode m_La_law.2.2.1 232 = .ok (.iaload, 1) := by decide +kernel
theorem d_La_law_233 : decode m_La_law.2.2.1 233 = .ok (.aload_n 0, 1) := by decide +kernel
theorem d_La_law_234 : decode m_La_law.2.2.1 234 = .ok (.iload_n 3, 1) := by decide +kernel
theorem d_La_law_235 : decode m_La_law.2.2.1 235 = .ok (.iconst 3, 1) := by decide +kernel
theorem d_La_law_236 : decode m_La_law.2.2.1 236 = .ok (.iadd, 1) := by decide +kernel
theorem d_La_law_237 : decode m_La_law.2.2.1 237 = .ok (.iaload, 1) := by decide +kernel
theorem d_La_law_238 : decode m_La_law.2.2.1 238 = .ok (.invokevirtual 31, 3) := by decide +kernel
theorem d_La_law_241 : decode m_La_law.2.2.1 241 = .ok (.if_icmp .eq (189), 3) := by decide +kernel
theorem d_La_law_244 : decode m_La_law.2.2.1 244 = .ok (.iconst 0, 1) := by decide +kernel
theorem d_La_law_245 : decode m_La_law.2.2.1 245 = .ok (.ireturn, 1) := by decide +kernel
theorem d_La_law_246 : decode m_La_law.2.2.1 246 = .ok (.aload_n 1, 1) := by decide +kernel
theorem d_La_law_247 : decode m_La_law.2.2.1 247 = .ok (.aload_n 0, 1) := by decide +kernel
theorem d_La_law_248 : decode m_La_law.2.2.1 248 = .ok (.iload_n 3, 1) := by decide +kernel
theorem d_La_law_249 : decode m_La_law.2.2.1 249 = .ok (.iconst 1, 1) := by decide +kernel
theorem d_La_law_250 : decode m_La_law.2.2.1 250 = .ok (.iadd, 1) := by decide +kernel
theorem d_La_law_251 : decode m_La_law.2.2.1 251 = .ok (.iaload, 1) := by decide +kernel
theorem d_La_law_252 : decode m_La_law.2.2.1 252 = .ok (.aload_n 0, 1) := by decide +kernel
theorem d_La_law_253 : decode m_La_law.2.2.1 253 = .ok (.iload_n 3, 1) := by decide +kernel
theorem d_La_law_254 : decode m_La_law.2.2.1 254 = .ok (.iconst 2, 1) := by decide +kernel
theorem d_La_law_255 : decode m_La_law.2.2.1 255 = .ok (.iadd, 1) := by decide +kernel
theorem d_La_law_256 : decode m_La_law.2.2.1 256 = .ok (.iaload, 1) := by decide +kernel
theorem d_La_law_257 : decode m_La_law.2.2.1 257 = .ok (.invokevirtual 32, 3) := by decide +kernel
theorem d_La_law_260 : decode m_La_law.2.2.1 260 = .ok (.aload_n 2, 1) := by decide +kernel
theorem d_La_law_261 : decode m_La_law.2.2.1 261 = .ok (.aload_n 0, 1) := by decide +kernel
theorem d_La_law_262 : decode m_La_law.2.2.1 262 = .ok (.iload_n 3, 1) := by decide +kernel
theorem d_La_law_263 : decode m_La_law.2.2.1 263 = .ok (.iconst 1, 1) := by decide +kernel
theorem d_La_law_264 : decode m_La_law.2.2.1 264 = .ok (.iadd, 1) := by decide +kernel
theorem d_La_law_265 : decode m_La_law.2.2.1 265 = .ok (.iaload, 1) := by decide +kernel
theorem d_La_law_266 : decode m_La_law.2.2.1 266 = .ok (.aload_n 0, 1) := by decide +kernel
theorem d_La_law_267 : decode m_La_law.2.2.1 267 = .ok (.iload_n 3, 1) := by decide +kernel
theorem d_La_law_268 : decode m_La_law.2.2.1 268 = .ok (.iconst 2, 1) := by decide +kernel
theorem d_La_law_269 : decode m_La_law.2.2.1 269 = .ok (.iadd, 1) := by decide +kernel
theorem d_La_law_270 : decode m_La_law.2.2.1 270 = .ok (.iaload, 1) := by decide +kernel
theorem d_La_law_271 : decode m_La_law.2.2.1 271 = .ok (.invokevirtual 36, 3) := by decide +kernel
theorem d_La_law_274 : decode m_La_law.2.2.1 274 = .ok (.if_icmp .eq (156), 3) := by decide +kernel
theorem d_La_law_277 : decode m_La_law.2.2.1 277 = .ok (.iconst 0, 1) := by decide +kernel
theorem d_La_law_278 : decode m_La_law.2.2.1 278 = .ok (.ireturn, 1) := by decide +kernel
theorem d_La_law_279 : decode m_La_law.2.2.1 279 = .ok (.aload_n 1, 1) := by decide +kernel
theorem d_La_law_280 : decode m_La_law.2.2.1 280 = .ok (.aload_n 0, 1) := by decide +kernel
theorem d_La_law_281 : decode m_La_law.2.2.1 281 = .ok (.iload_n 3, 1) := by decide +kernel
theorem d_La_law_282 : decode m_La_law.2.2.1 282 = .ok (.iconst 1, 1) := by decide +kernel
theorem d_La_law_283 : decode m_La_law.2.2.1 283 = .ok (.iadd, 1) := by decide +kernel
theorem d_La_law_284 : decode m_La_law.2.2.1 284 = .ok (.iaload, 1) := by decide +kernel
theorem d_La_law_285 : decode m_La_law.2.2.1 285 = .ok (.aload_n 0, 1) := by decide +kernel
theorem d_La_law_286 : decode m_La_law.2.2.1 286 = .ok (.iload_n 3, 1) := by decide +kernel
theorem d_La_law_287 : decode m_La_law.2.2.1 287 = .ok (.iconst 2, 1) := by decide +kernel
theorem d_La_law_288 : decode m_La_law.2.2.1 288 = .ok (.iadd, 1) := by decide +kernel
theorem d_La_law_289 : decode m_La_law.2.2.1 289 = .ok (.iaload, 1) := by decide +kernel
theorem d_La_law_290 : decode m_La_law.2.2.1 290 = .ok (.invokevirtual 37, 3) := by decide +kernel
theorem d_La_law_293 : decode m_La_law.2.2.1 293 = .ok (.aload_n 2, 1) := by decide +kernel
theorem d_La_law_294 : decode m_La_law.2.2.1 294 = .ok (.aload_n 0, 1) := by decide +kernel
theorem d_La_law_295 : decode m_La_law.2.2.1 295 = .ok (.iload_n 3, 1) := by decide +kernel
theorem d_La_law_296 : decode m_La_law.2.2.1 296 = .ok (.iconst 1, 1) := by decide +kernel
theorem d_La_law_297 : decode m_La_law.2.2.1 297 = .ok (.iadd, 1) := by decide +kernel
theorem d_La_law_298 : decode m_La_law.2.2.1 298 = .ok (.iaload, 1) := by decide +kernel
theorem d_La_law_299 : decode m_La_law.2.2.1 299 = .ok (.aload_n 0, 1) := by decide +kernel
theorem d_La_law_300 : decode m_La_law.2.2.1 300 = .ok (.iload_n 3, 1) := by decide +kernel
theorem d_La_law_301 : decode m_La_law.2.2.1 301 = .ok (.iconst 2, 1) := by decide +kernel
theorem d_La_law_302 : decode m_La_law.2.2.1 302 = .ok (.iadd, 1) := by decide +kernel
theorem d_La_law_303 : decode m_La_law.2.2.1 303 = .ok (.iaload, 1) := by decide +kernel
theorem d_La_law_304 : decode m_La_law.2.2.1 304 = .ok (.invokevirtual 40, 3) := by decide +kernel
theorem d_La_law_307 : decode m_La_law.2.2.1 307 = .ok (.if_icmp .eq (123), 3) := by decide +kernel
theorem d_La_law_310 : decode m_La_law.2.2.1 310 = .ok (.iconst 0, 1) := by decide +kernel
theorem d_La_law_311 : decode m_La_law.2.2.1 311 = .ok (.ireturn, 1) := by decide +kernel
theorem d_La_law_312 : decode m_La_law.2.2.1 312 = .ok (.aload_n 1, 1) := by decide +kernel
theorem d_La_law_313 : decode m_La_law.2.2.1 313 = .ok (.invokevirtual 41, 3) := by decide +kernel
theorem d_La_law_316 : decode m_La_law.2.2.1 316 = .ok (.aload_n 2, 1) := by decide +kernel
theorem d_La_law_317 : decode m_La_law.2.2.1 317 = .ok (.invokevirtual 45, 3) := by decide +kernel
theorem d_La_law_320 : decode m_La_law.2.2.1 320 = .ok (.if_icmp .eq (110), 3) := by decide +kernel
theorem d_La_law_323 : decode m_La_law.2.2.1 323 = .ok (.iconst 0, 1) := by decide +kernel
theorem d_La_law_324 : decode m_La_law.2.2.1 324 = .ok (.ireturn, 1) := by decide +kernel
theorem d_La_law_325 : decode m_La_law.2.2.1 325 = .ok (.aload_n 1, 1) := by decide +kernel
theorem d_La_law_326 : decode m_La_law.2.2.1 326 = .ok (.invokevirtual 46, 3) := by decide +kernel
theorem d_La_law_329 : decode m_La_law.2.2.1 329 = .ok (.aload_n 2, 1) := by decide +kernel
theorem d_La_law_330 : decode m_La_law.2.2.1 330 = .ok (.invokevirtual 49, 3) := by decide +kernel
theorem d_La_law_333 : decode m_La_law.2.2.1 333 = .ok (.if_icmp .eq (97), 3) := by decide +kernel
theorem d_La_law_336 : decode m_La_law.2.2.1 336 = .ok (.iconst 0, 1) := by decide +kernel
theorem d_La_law_337 : decode m_La_law.2.2.1 337 = .ok (.ireturn, 1) := by decide +kernel
theorem d_La_law_338 : decode m_La_law.2.2.1 338 = .ok (.aload_n 1, 1) := by decide +kernel
theorem d_La_law_339 : decode m_La_law.2.2.1 339 = .ok (.aload_n 0, 1) := by decide +kernel
theorem d_La_law_340 : decode m_La_law.2.2.1 340 = .ok (.iload_n 3, 1) := by decide +kernel
theorem d_La_law_341 : decode m_La_law.2.2.1 341 = .ok (.iconst 1, 1) := by decide +kernel
theorem d_La_law_342 : decode m_La_law.2.2.1 342 = .ok (.iadd, 1) := by decide +kernel
theorem d_La_law_343 : decode m_La_law.2.2.1 343 = .ok (.iaload, 1) := by decide +kernel
theorem d_La_law_344 : decode m_La_law.2.2.1 344 = .ok (.invokevirtual 50, 3) := by decide +kernel
theorem d_La_law_347 : decode m_La_law.2.2.1 347 = .ok (.aload_n 2, 1) := by decide +kernel
theorem d_La_law_348 : decode m_La_law.2.2.1 348 = .ok (.aload_n 0, 1) := by decide +kernel
theorem d_La_law_349 : decode m_La_law.2.2.1 349 = .ok (.iload_n 3, 1) := by decide +kernel
theorem d_La_law_350 : decode m_La_law.2.2.1 350 = .ok (.iconst 1, 1) := by decide +kernel
theorem d_La_law_351 : decode m_La_law.2.2.1 351 = .ok (.iadd, 1) := by decide +kernel
theorem d_La_law_352 : decode m_La_law.2.2.1 352 = .ok (.iaload, 1) := by decide +kernel
theorem d_La_law_353 : decode m_La_law.2.2.1 353 = .ok (.invokevirtual 54, 3) := by decide +kernel
theorem d_La_law_356 : decode m_La_law.2.2.1 356 = .ok (.if_icmp .eq (74), 3) := by decide +kernel
theorem d_La_law_359 : decode m_La_law.2.2.1 359 = .ok (.iconst 0, 1) := by decide +kernel
theorem d_La_law_360 : decode m_La_law.2.2.1 360 = .ok (.ireturn, 1) := by decide +kernel
theorem d_La_law_361 : decode m_La_law.2.2.1 361 = .ok (.aload_n 1, 1) := by decide +kernel
theorem d_La_law_362 : decode m_La_law.2.2.1 362 = .ok (.aload_n 0, 1) := by decide +kernel
theorem d_La_law_363 : decode m_La_law.2.2.1 363 = .ok (.iload_n 3, 1) := by decide +kernel
theorem d_La_law_364 : decode m_La_law.2.2.1 364 = .ok (.iconst 1, 1) := by decide +kernel
theorem d_La_law_365 : decode m_La_law.2.2.1 365 = .ok (.iadd, 1) := by decide +kernel
theorem d_La_law_366 : decode m_La_law.2.2.1 366 = .ok (.iaload, 1) := by decide +kernel
theorem d_La_law_367 : decode m_La_law.2.2.1 367 = .ok (.aload_n 0, 1) := by decide +kernel
theorem d_La_law_368 : decode m_La_law.2.2.1 368 = .ok (.iload_n 3, 1) := by decide +kernel
theorem d_La_law_369 : decode m_La_law.2.2.1 369 = .ok (.iconst 2, 1) := by decide +kernel
theorem d_La_law_370 : decode m_La_law.2.2.1 370 = .ok (.iadd, 1) := by decide +kernel
theorem d_La_law_371 : decode m_La_law.2.2.1 371 = .ok (.iaload, 1) := by decide +kernel
theorem d_La_law_372 : decode m_La_law.2.2.1 372 = .ok (.invokevirtual 55, 3) := by decide +kernel
theorem d_La_law_375 : decode m_La_law.2.2.1 375 = .ok (.aload_n 2, 1) := by decide +kernel
theorem d_La_law_376 : decode m_La_law.2.2.1 376 = .ok (.aload_n 0, 1) := by decide +kernel
theorem d_La_law_377 : decode m_La_law.2.2.1 377 = .ok (.iload_n 3, 1) := by decide +kernel
theorem d_La_law_378 : decode m_La_law.2.2.1 378 = .ok (.iconst 1, 1) := by decide +kernel
theorem d_La_law_379 : decode m_La_law.2.2.1 379 = .ok (.iadd, 1) := by decide +kernel
theorem d_La_law_380 : decode m_La_law.2.2.1 380 = .ok (.iaload, 1) := by decide +kernel
theorem d_La_law_381 : decode m_La_law.2.2.1 381 = .ok (.aload_n 0, 1) := by decide +kernel
theorem d_La_law_382 : decode m_La_law.2.2.1 382 = .ok (.iload_n 3, 1) := by decide +kernel
theorem d_La_law_383 : decode m_La_law.2.2.1 383 = .ok (.iconst 2, 1) := by decide +kernel
theorem d_La_law_384 : decode m_La_law.2.2.1 384 = .ok (.iadd, 1) := by decide +kernel
theorem d_La_law_385 : decode m_La_law.2.2.1 385 = .ok (.iaload, 1) := by decide +kernel
theorem d_La_law_386 : decode m_La_law.2.2.1 386 = .ok (.invokevirtual 59, 3) := by decide +kernel
theorem d_La_law_389 : decode m_La_law.2.2.1 389 = .ok (.if_icmp .eq (41), 3) := by decide +kernel
theorem d_La_law_392 : decode m_La_law.2.2.1 392 = .ok (.iconst 0, 1) := by decide +kernel
theorem d_La_law_393 : decode m_La_law.2.2.1 393 = .ok (.ireturn, 1) := by decide +kernel
theorem d_La_law_394 : decode m_La_law.2.2.1 394 = .ok (.aload_n 1, 1) := by decide +kernel
theorem d_La_law_395 : decode m_La_law.2.2.1 395 = .ok (.invokevirtual 60, 3) := by decide +kernel
theorem d_La_law_398 : decode m_La_law.2.2.1 398 = .ok (.aload_n 2, 1) := by decide +kernel
theorem d_La_law_399 : decode m_La_law.2.2.1 399 = .ok (.invokevirtual 63, 3) := by decide +kernel
theorem d_La_law_402 : decode m_La_law.2.2.1 402 = .ok (.if_icmp .eq (28), 3) := by decide +kernel
theorem d_La_law_405 : decode m_La_law.2.2.1 405 = .ok (.iconst 0, 1) := by decide +kernel
theorem d_La_law_406 : decode m_La_law.2.2.1 406 = .ok (.ireturn, 1) := by decide +kernel
theorem d_La_law_407 : decode m_La_law.2.2.1 407 = .ok (.aload_n 1, 1) := by decide +kernel
theorem d_La_law_408 : decode m_La_law.2.2.1 408 = .ok (.aload_n 0, 1) := by decide +kernel
theorem d_La_law_409 : decode m_La_law.2.2.1 409 = .ok (.iload_n 3, 1) := by decide +kernel
theorem d_La_law_410 : decode m_La_law.2.2.1 410 = .ok (.iconst 1, 1) := by decide +kernel
theorem d_La_law_411 : decode m_La_law.2.2.1 411 = .ok (.iadd, 1) := by decide +kernel
theorem d_La_law_412 : decode m_La_law.2.2.1 412 = .ok (.iaload, 1) := by decide +kernel
theorem d_La_law_413 : decode m_La_law.2.2.1 413 = .ok (.invokevirtual 64, 3) := by decide +kernel
theorem d_La_law_416 : decode m_La_law.2.2.1 416 = .ok (.aload_n 2, 1) := by decide +kernel
theorem d_La_law_417 : decode m_La_law.2.2.1 417 = .ok (.aload_n 0, 1) := by decide +kernel
theorem d_La_law_418 : decode m_La_law.2.2.1 418 = .ok (.iload_n 3, 1) := by decide +kernel
theorem d_La_law_419 : decode m_La_law.2.2.1 419 = .ok (.iconst 1, 1) := by decide +kernel
theorem d_La_law_420 : decode m_La_law.2.2.1 420 = .ok (.iadd, 1) := by decide +kernel
theorem d_La_law_421 : decode m_La_law.2.2.1 421 = .ok (.iaload, 1) := by decide +kernel
theorem d_La_law_422 : decode m_La_law.2.2.1 422 = .ok (.invokevirtual 67, 3) := by decide +kernel
theorem d_La_law_425 : decode m_La_law.2.2.1 425 = .ok (.if_icmp .eq (5), 3) := by decide +kernel
theorem d_La_law_428 : decode m_La_law.2.2.1 428 = .ok (.iconst 0, 1) := by decide +kernel
theorem d_La_law_429 : decode m_La_law.2.2.1 429 = .ok (.ireturn, 1) := by decide +kernel
theorem d_La_law_430 : decode m_La_law.2.2.1 430 = .ok (.iinc 3 (5), 3) := by decide +kernel
theorem d_La_law_433 : decode m_La_law.2.2.1 433 = .ok (.goto (-415), 3) := by decide +kernel
theorem d_La_law_436 : decode m_La_law.2.2.1 436 = .ok (.iconst 1, 1) := by decide +kernel
theorem d_La_law_437 : decode m_La_law.2.2.1 437 = .ok (.ireturn, 1) := by decide +kernel
