set_option maxRecDepth 100000 in
theorem c_Mo_composes0 (l : Launch) (g : ew_G) (d L : Nat) (M : ew_M) (ρ : sp_R) (hr : sp_rm ρ M) (fn : Nat → Nat) (hfn : sp_fnok (M 56) fn) (hR : sp_rts M) (A : Nat) (hA : A < 12289) (hA0 : M 47 14 = nI A) (j : Nat) (hj : j < 16) :
    Ew l g (d + 3) 0 0 m_Mo_composes 0 [.ref 47, .int (nI 0), .int (nI j), .retAddr 0, .retAddr 0, .retAddr 0, .retAddr 0] [] (ew_SH L) M (sp_mq L M (ew_b (sp_vo0 ρ fn j A 0 && sp_vo0 ρ fn j A 1))) := by
  refine ew_iconst (v := nI 1) d_Mo_composes_0 (by decide) ?_
  refine en_istore_n (ls' := [.ref 47, .int (nI 0), .int (nI j), .int (nI 1), .retAddr 0, .retAddr 0, .retAddr 0]) d_Mo_composes_1 (Nat.le_of_ble_eq_true rfl) rfl ?_
  refine ew_iconst (v := nI 0) d_Mo_composes_2 (by decide) ?_
  refine en_istore (ls' := [.ref 47, .int (nI 0), .int (nI j), .int (nI 1), .int (nI 0), .retAddr 0, .retAddr 0]) d_Mo_composes_3 (Nat.le_of_ble_eq_true rfl) rfl ?_
  refine ew_iload d_Mo_composes_5 rfl ?_
  refine ew_iconst (v := nI 2) d_Mo_composes_7 (by decide) ?_
  refine en_icmp_ge (tgt := 115) d_Mo_composes_8 (by decide) (by decide) (by decide) (fun h8 => by exact absurd h8 (by decide)) (fun h8 => ?_)
  refine ew_iload_n d_Mo_composes_11 rfl ?_
  refine ew_iconst (v := nI 2) d_Mo_composes_12 (by decide) ?_
  refine ew_iload d_Mo_composes_13 rfl ?_
  refine en_imul d_Mo_composes_15 ?_
  refine en_eq rfl (show _ = [.int (nI 0), .int (nI 0)] from rfl) rfl ?_
  refine en_callS (As := [.int (nI 0), .int (nI 0)]) (st := []) (st1 := [.int (nI 5)]) d_Mo_composes_16 k_Mo_placeOf tw_819 tw_820 rfl (Nat.le_of_ble_eq_true rfl) rfl (Nat.le_of_ble_eq_true rfl) rfl rfl (c_Mo_placeOf_0_0 l g _ L M) rfl ?_
  refine en_istore (ls' := [.ref 47, .int (nI 0), .int (nI j), .int (nI 1), .int (nI 0), .int (nI 5), .retAddr 0]) d_Mo_composes_19 (Nat.le_of_ble_eq_true rfl) rfl ?_
  refine ew_iload_n d_Mo_composes_21 rfl ?_
  refine ew_iconst (v := nI 2) d_Mo_composes_22 (by decide) ?_
  refine ew_iload d_Mo_composes_23 rfl ?_
  refine en_imul d_Mo_composes_25 ?_
  refine en_eq rfl (show _ = [.int (nI 0), .int (nI 0)] from rfl) rfl ?_
  refine ew_iconst (v := nI 1) d_Mo_composes_26 (by decide) ?_
  refine en_iadd d_Mo_composes_27 ?_
  refine en_eq rfl (show _ = [.int (nI 1), .int (nI 0)] from rfl) rfl ?_
  refine en_callS (As := [.int (nI 0), .int (nI 1)]) (st := []) (st1 := [.int (nI 12)]) d_Mo_composes_28 k_Mo_placeOf tw_819 tw_820 rfl (Nat.le_of_ble_eq_true rfl) rfl (Nat.le_of_ble_eq_true rfl) rfl rfl (c_Mo_placeOf_0_1 l g _ L M) rfl ?_
  refine en_istore (ls' := [.ref 47, .int (nI 0), .int (nI j), .int (nI 1), .int (nI 0), .int (nI 5), .int (nI 12)]) d_Mo_composes_31 (Nat.le_of_ble_eq_true rfl) rfl ?_
  refine ew_aload_n d_Mo_composes_33 rfl ?_
  refine ew_aload_n d_Mo_composes_34 rfl ?_
  refine ew_getr (ci := 9) (f := 10) d_Mo_composes_35 rfl rfl rfl tw_602 ?_
  refine ew_iload d_Mo_composes_38 rfl ?_
  refine ew_iald (j := 5) d_Mo_composes_40 rfl (rfl) (by decide) (by decide) ?_
  refine en_eq (st' := [.int (nI (fn 5)), .ref 47]) rfl (by rw [show (M 56 5) = (nI (fn 5)) from by first | exact (hfn 5 (by decide)).1 | (rw [sp_rl_ne (by decide)]; exact (hfn 5 (by decide)).1) | (rw [sp_rl_ne (by decide), sp_rl_ne (by decide)]; exact (hfn 5 (by decide)).1)]) rfl ?_
  refine ew_aload_n d_Mo_composes_41 rfl ?_
  refine ew_getr (ci := 9) (f := 10) d_Mo_composes_42 rfl rfl rfl tw_602 ?_
  refine ew_iload d_Mo_composes_45 rfl ?_
  refine ew_iconst (v := nI 1) d_Mo_composes_47 (by decide) ?_
  refine en_iadd d_Mo_composes_48 ?_
  refine en_eq rfl (show _ = [.int (nI 6), .ref 56, .int (nI (fn 5)), .ref 47] from rfl) rfl ?_
  refine ew_iald (j := 6) d_Mo_composes_49 rfl (rfl) (by decide) (by decide) ?_
  refine en_eq (st' := [.int (nI (fn 6)), .int (nI (fn 5)), .ref 47]) rfl (by rw [show (M 56 6) = (nI (fn 6)) from by first | exact (hfn 6 (by decide)).1 | (rw [sp_rl_ne (by decide)]; exact (hfn 6 (by decide)).1) | (rw [sp_rl_ne (by decide), sp_rl_ne (by decide)]; exact (hfn 6 (by decide)).1)]) rfl ?_
  refine ew_aload_n d_Mo_composes_50 rfl ?_
  refine ew_getr (ci := 9) (f := 10) d_Mo_composes_51 rfl rfl rfl tw_602 ?_
  refine ew_iload d_Mo_composes_54 rfl ?_
  refine ew_iald (j := 12) d_Mo_composes_56 rfl (rfl) (by decide) (by decide) ?_
  refine en_eq (st' := [.int (nI (fn 12)), .int (nI (fn 6)), .int (nI (fn 5)), .ref 47]) rfl (by rw [show (M 56 12) = (nI (fn 12)) from by first | exact (hfn 12 (by decide)).1 | (rw [sp_rl_ne (by decide)]; exact (hfn 12 (by decide)).1) | (rw [sp_rl_ne (by decide), sp_rl_ne (by decide)]; exact (hfn 12 (by decide)).1)]) rfl ?_
  refine ew_aload_n d_Mo_composes_57 rfl ?_
  refine ew_getr (ci := 9) (f := 10) d_Mo_composes_58 rfl rfl rfl tw_602 ?_
  refine ew_iload d_Mo_composes_61 rfl ?_
  refine ew_iconst (v := nI 1) d_Mo_composes_63 (by decide) ?_
  refine en_iadd d_Mo_composes_64 ?_
  refine en_eq rfl (show _ = [.int (nI 13), .ref 56, .int (nI (fn 12)), .int (nI (fn 6)), .int (nI (fn 5)), .ref 47] from rfl) rfl ?_
  refine ew_iald (j := 13) d_Mo_composes_65 rfl (rfl) (by decide) (by decide) ?_
  refine en_eq (st' := [.int (nI (fn 13)), .int (nI (fn 12)), .int (nI (fn 6)), .int (nI (fn 5)), .ref 47]) rfl (by rw [show (M 56 13) = (nI (fn 13)) from by first | exact (hfn 13 (by decide)).1 | (rw [sp_rl_ne (by decide)]; exact (hfn 13 (by decide)).1) | (rw [sp_rl_ne (by decide), sp_rl_ne (by decide)]; exact (hfn 13 (by decide)).1)]) rfl ?_
  refine en_callV (As := [.int (nI (fn 5)), .int (nI (fn 6)), .int (nI (fn 12)), .int (nI (fn 13))]) (i := 47) (ci := 9) (st := []) (st1 := []) d_Mo_composes_66 k_Mo_letters rfl rfl tw_727 tw_729 tp_32 rfl (Nat.le_of_ble_eq_true rfl) rfl (Nat.le_of_ble_eq_true rfl) rfl rfl (c_Mo_letters l g _ L M (nI (fn 5)) (nI (fn 6)) (nI (fn 12)) (nI (fn 13))) rfl ?_
  refine ew_iload_n d_Mo_composes_69 rfl ?_
  refine en_if_eq (tgt := 107) d_Mo_composes_70 (by decide) (by decide) (fun h70 => by exact absurd h70 (by decide)) (fun h70 => ?_)
  refine ew_aload_n d_Mo_composes_73 rfl ?_
  refine ew_getr (ci := 9) (f := 10) d_Mo_composes_74 rfl rfl rfl tw_602 ?_
  refine ew_iload_n d_Mo_composes_77 rfl ?_
  refine ew_iconst (v := nI 4) d_Mo_composes_78 (by decide) ?_
  refine ew_iload d_Mo_composes_79 rfl ?_
  refine en_iadd d_Mo_composes_81 ?_
  refine en_eq rfl (show _ = [.int (nI 4), .int (nI 0), .ref 56] from rfl) rfl ?_
  refine en_callS (As := [.int (nI 0), .int (nI 4)]) (st := [.ref 56]) (st1 := [.int (nI 33), .ref 56]) d_Mo_composes_82 k_Mo_placeOf tw_819 tw_820 rfl (Nat.le_of_ble_eq_true rfl) rfl (Nat.le_of_ble_eq_true rfl) rfl rfl (c_Mo_placeOf_0_4 l g _ L (sp_rl M (nI (fn 5)) (nI (fn 6)) (nI (fn 12)) (nI (fn 13)))) rfl ?_
  refine ew_iald (j := 33) d_Mo_composes_85 rfl (rfl) (by decide) (by decide) ?_
  refine en_eq (st' := [.int (nI (fn 33))]) rfl (by rw [show ((sp_rl M (nI (fn 5)) (nI (fn 6)) (nI (fn 12)) (nI (fn 13))) 56 33) = (nI (fn 33)) from by first | exact (hfn 33 (by decide)).1 | (rw [sp_rl_ne (by decide)]; exact (hfn 33 (by decide)).1) | (rw [sp_rl_ne (by decide), sp_rl_ne (by decide)]; exact (hfn 33 (by decide)).1)]) rfl ?_
  refine ew_aload_n d_Mo_composes_86 rfl ?_
  refine ew_iload_n d_Mo_composes_87 rfl ?_
  refine ew_bipush (v := nI 16) d_Mo_composes_88 (by decide) ?_
  refine ew_iload d_Mo_composes_90 rfl ?_
  refine en_imul d_Mo_composes_92 ?_
  refine en_eq rfl (show _ = [.int (nI 0), .int (nI j), .ref 47, .int (nI (fn 33))] from rfl) rfl ?_
  refine en_iadd d_Mo_composes_93 ?_
  refine ew_bipush (v := nI 32) d_Mo_composes_94 (by decide) ?_
  refine en_irem d_Mo_composes_96 (by omega) (by decide) (by decide) ?_
  refine en_eq (st' := [.int (nI (j % 16 + 16 * 0)), .ref 47, .int (nI (fn 33))]) rfl (by rw [show (nI ((j + 0) % 32)) = (nI (j % 16 + 16 * 0)) from congrArg nI (by omega)]) rfl ?_
  refine en_callV (As := [.int (nI (j % 16 + 16 * 0))]) (i := 47) (ci := 9) (st := [.int (nI (fn 33))]) (st1 := [.int (nI (sp_com ρ (sp_le (fn 5) (fn 6) (fn 12) (fn 13)) (j % 16 + 16 * 0) A)), .int (nI (fn 33))]) d_Mo_composes_97 k_Mo_composition rfl rfl tw_775 tw_777 tp_39 rfl (Nat.le_of_ble_eq_true rfl) rfl (Nat.le_of_ble_eq_true rfl) rfl rfl (c_Mo_composition l g _ L (sp_rl M (nI (fn 5)) (nI (fn 6)) (nI (fn 12)) (nI (fn 13))) ρ (sp_rm_rl hr) (sp_le (fn 5) (fn 6) (fn 12) (fn 13)) (sp_rl_le (hfn 5 (by decide)).2 (hfn 6 (by decide)).2 (hfn 12 (by decide)).2 (hfn 13 (by decide)).2) (sp_rts_of hR (by rw [sp_rl_ne (by decide)])) (j % 16 + 16 * 0) A (by omega) hA (by rw [sp_rl_ne (by decide)]; exact hA0)) rfl ?_
  refine en_icmp_ne (tgt := 107) d_Mo_composes_100 (by decide) (by first | exact Nat.lt_trans (hfn _ (by decide)).2 (by decide) | exact Nat.lt_trans (sp_com_lt _ _ _ _) (by decide) | exact Nat.lt_trans (sp_fo_lt _ _ _ _ _) (by decide)) (by first | exact Nat.lt_trans (hfn _ (by decide)).2 (by decide) | exact Nat.lt_trans (sp_com_lt _ _ _ _) (by decide) | exact Nat.lt_trans (sp_fo_lt _ _ _ _ _) (by decide)) (fun h100 => ?_) (fun h100 => ?_)
  · refine ew_iconst (v := nI 0) d_Mo_composes_107 (by decide) ?_
    refine en_istore_n (ls' := [.ref 47, .int (nI 0), .int (nI j), .int (nI 0), .int (nI 0), .int (nI 5), .int (nI 12)]) d_Mo_composes_108 (Nat.le_of_ble_eq_true rfl) rfl ?_
    refine en_inc (ls' := [.ref 47, .int (nI 0), .int (nI j), .int (nI 0), .int (nI 1), .int (nI 5), .int (nI 12)]) d_Mo_composes_109 rfl rfl ?_
    refine ew_goto (tgt := 5) d_Mo_composes_112 (by decide) ?_
    refine ew_iload d_Mo_composes_5 rfl ?_
    refine ew_iconst (v := nI 2) d_Mo_composes_7 (by decide) ?_
    refine en_icmp_ge (tgt := 115) d_Mo_composes_8 (by decide) (by decide) (by decide) (fun h8_1 => by exact absurd h8_1 (by decide)) (fun h8_1 => ?_)
    refine ew_iload_n d_Mo_composes_11 rfl ?_
    refine ew_iconst (v := nI 2) d_Mo_composes_12 (by decide) ?_
    refine ew_iload d_Mo_composes_13 rfl ?_
    refine en_imul d_Mo_composes_15 ?_
    refine en_eq rfl (show _ = [.int (nI 2), .int (nI 0)] from rfl) rfl ?_
    refine en_callS (As := [.int (nI 0), .int (nI 2)]) (st := []) (st1 := [.int (nI 19)]) d_Mo_composes_16 k_Mo_placeOf tw_819 tw_820 rfl (Nat.le_of_ble_eq_true rfl) rfl (Nat.le_of_ble_eq_true rfl) rfl rfl (c_Mo_placeOf_0_2 l g _ L (sp_rl M (nI (fn 5)) (nI (fn 6)) (nI (fn 12)) (nI (fn 13)))) rfl ?_
    refine en_istore (ls' := [.ref 47, .int (nI 0), .int (nI j), .int (nI 0), .int (nI 1), .int (nI 19), .int (nI 12)]) d_Mo_composes_19 (Nat.le_of_ble_eq_true rfl) rfl ?_
    refine ew_iload_n d_Mo_composes_21 rfl ?_
    refine ew_iconst (v := nI 2) d_Mo_composes_22 (by decide) ?_
    refine ew_iload d_Mo_composes_23 rfl ?_
    refine en_imul d_Mo_composes_25 ?_
    refine en_eq rfl (show _ = [.int (nI 2), .int (nI 0)] from rfl) rfl ?_
    refine ew_iconst (v := nI 1) d_Mo_composes_26 (by decide) ?_
    refine en_iadd d_Mo_composes_27 ?_
    refine en_eq rfl (show _ = [.int (nI 3), .int (nI 0)] from rfl) rfl ?_
    refine en_callS (As := [.int (nI 0), .int (nI 3)]) (st := []) (st1 := [.int (nI 26)]) d_Mo_composes_28 k_Mo_placeOf tw_819 tw_820 rfl (Nat.le_of_ble_eq_true rfl) rfl (Nat.le_of_ble_eq_true rfl) rfl rfl (c_Mo_placeOf_0_3 l g _ L (sp_rl M (nI (fn 5)) (nI (fn 6)) (nI (fn 12)) (nI (fn 13)))) rfl ?_
    refine en_istore (ls' := [.ref 47, .int (nI 0), .int (nI j), .int (nI 0), .int (nI 1), .int (nI 19), .int (nI 26)]) d_Mo_composes_31 (Nat.le_of_ble_eq_true rfl) rfl ?_
    refine ew_aload_n d_Mo_composes_33 rfl ?_
    refine ew_aload_n d_Mo_composes_34 rfl ?_
    refine ew_getr (ci := 9) (f := 10) d_Mo_composes_35 rfl rfl rfl tw_602 ?_
    refine ew_iload d_Mo_composes_38 rfl ?_
    refine ew_iald (j := 19) d_Mo_composes_40 rfl (rfl) (by decide) (by decide) ?_
    refine en_eq (st' := [.int (nI (fn 19)), .ref 47]) rfl (by rw [show ((sp_rl M (nI (fn 5)) (nI (fn 6)) (nI (fn 12)) (nI (fn 13))) 56 19) = (nI (fn 19)) from by first | exact (hfn 19 (by decide)).1 | (rw [sp_rl_ne (by decide)]; exact (hfn 19 (by decide)).1) | (rw [sp_rl_ne (by decide), sp_rl_ne (by decide)]; exact (hfn 19 (by decide)).1)]) rfl ?_
    refine ew_aload_n d_Mo_composes_41 rfl ?_
    refine ew_getr (ci := 9) (f := 10) d_Mo_composes_42 rfl rfl rfl tw_602 ?_
    refine ew_iload d_Mo_composes_45 rfl ?_
    refine ew_iconst (v := nI 1) d_Mo_composes_47 (by decide) ?_
    refine en_iadd d_Mo_composes_48 ?_
    refine en_eq rfl (show _ = [.int (nI 20), .ref 56, .int (nI (fn 19)), .ref 47] from rfl) rfl ?_
    refine ew_iald (j := 20) d_Mo_composes_49 rfl (rfl) (by decide) (by decide) ?_
    refine en_eq (st' := [.int (nI (fn 20)), .int (nI (fn 19)), .ref 47]) rfl (by rw [show ((sp_rl M (nI (fn 5)) (nI (fn 6)) (nI (fn 12)) (nI (fn 13))) 56 20) = (nI (fn 20)) from by first | exact (hfn 20 (by decide)).1 | (rw [sp_rl_ne (by decide)]; exact (hfn 20 (by decide)).1) | (rw [sp_rl_ne (by decide), sp_rl_ne (by decide)]; exact (hfn 20 (by decide)).1)]) rfl ?_
    refine ew_aload_n d_Mo_composes_50 rfl ?_
    refine ew_getr (ci := 9) (f := 10) d_Mo_composes_51 rfl rfl rfl tw_602 ?_
    refine ew_iload d_Mo_composes_54 rfl ?_
    refine ew_iald (j := 26) d_Mo_composes_56 rfl (rfl) (by decide) (by decide) ?_
    refine en_eq (st' := [.int (nI (fn 26)), .int (nI (fn 20)), .int (nI (fn 19)), .ref 47]) rfl (by rw [show ((sp_rl M (nI (fn 5)) (nI (fn 6)) (nI (fn 12)) (nI (fn 13))) 56 26) = (nI (fn 26)) from by first | exact (hfn 26 (by decide)).1 | (rw [sp_rl_ne (by decide)]; exact (hfn 26 (by decide)).1) | (rw [sp_rl_ne (by decide), sp_rl_ne (by decide)]; exact (hfn 26 (by decide)).1)]) rfl ?_
    refine ew_aload_n d_Mo_composes_57 rfl ?_
    refine ew_getr (ci := 9) (f := 10) d_Mo_composes_58 rfl rfl rfl tw_602 ?_
    refine ew_iload d_Mo_composes_61 rfl ?_
    refine ew_iconst (v := nI 1) d_Mo_composes_63 (by decide) ?_
    refine en_iadd d_Mo_composes_64 ?_
    refine en_eq rfl (show _ = [.int (nI 27), .ref 56, .int (nI (fn 26)), .int (nI (fn 20)), .int (nI (fn 19)), .ref 47] from rfl) rfl ?_
    refine ew_iald (j := 27) d_Mo_composes_65 rfl (rfl) (by decide) (by decide) ?_
    refine en_eq (st' := [.int (nI (fn 27)), .int (nI (fn 26)), .int (nI (fn 20)), .int (nI (fn 19)), .ref 47]) rfl (by rw [show ((sp_rl M (nI (fn 5)) (nI (fn 6)) (nI (fn 12)) (nI (fn 13))) 56 27) = (nI (fn 27)) from by first | exact (hfn 27 (by decide)).1 | (rw [sp_rl_ne (by decide)]; exact (hfn 27 (by decide)).1) | (rw [sp_rl_ne (by decide), sp_rl_ne (by decide)]; exact (hfn 27 (by decide)).1)]) rfl ?_
    refine en_callV (As := [.int (nI (fn 19)), .int (nI (fn 20)), .int (nI (fn 26)), .int (nI (fn 27))]) (i := 47) (ci := 9) (st := []) (st1 := []) d_Mo_composes_66 k_Mo_letters rfl rfl tw_727 tw_729 tp_32 rfl (Nat.le_of_ble_eq_true rfl) rfl (Nat.le_of_ble_eq_true rfl) rfl rfl (c_Mo_letters l g _ L (sp_rl M (nI (fn 5)) (nI (fn 6)) (nI (fn 12)) (nI (fn 13))) (nI (fn 19)) (nI (fn 20)) (nI (fn 26)) (nI (fn 27))) rfl ?_
    refine ew_iload_n d_Mo_composes_69 rfl ?_
    refine en_if_eq (tgt := 107) d_Mo_composes_70 (by decide) (by decide) (fun h70_1 => ?_) (fun h70_1 => by exact absurd h70_1 (by decide))
    refine ew_iconst (v := nI 0) d_Mo_composes_107 (by decide) ?_
    refine en_istore_n (ls' := [.ref 47, .int (nI 0), .int (nI j), .int (nI 0), .int (nI 1), .int (nI 19), .int (nI 26)]) d_Mo_composes_108 (Nat.le_of_ble_eq_true rfl) rfl ?_
    refine en_inc (ls' := [.ref 47, .int (nI 0), .int (nI j), .int (nI 0), .int (nI 2), .int (nI 19), .int (nI 26)]) d_Mo_composes_109 rfl rfl ?_
    refine ew_goto (tgt := 5) d_Mo_composes_112 (by decide) ?_
    refine ew_iload d_Mo_composes_5 rfl ?_
    refine ew_iconst (v := nI 2) d_Mo_composes_7 (by decide) ?_
    refine en_icmp_ge (tgt := 115) d_Mo_composes_8 (by decide) (by decide) (by decide) (fun h8_2 => ?_) (fun h8_2 => by exact absurd h8_2 (by decide))
    refine ew_iload_n d_Mo_composes_115 rfl ?_
    exact ew_zret d_Mo_composes_116 rfl (by decide) (⟨rfl, by rw [show (sp_vo0 ρ fn j A 0 && sp_vo0 ρ fn j A 1) = false from by rw [show sp_vo0 ρ fn j A 0 = false from decide_eq_false (fun q => h100 q.symm), Bool.false_and]]; rfl, fun q hq => by rw [sp_rl_ne hq, sp_rl_ne hq]⟩)
  · refine ew_iconst (v := nI 1) d_Mo_composes_103 (by decide) ?_
    refine ew_goto (tgt := 108) d_Mo_composes_104 (by decide) ?_
    refine en_istore_n (ls' := [.ref 47, .int (nI 0), .int (nI j), .int (nI 1), .int (nI 0), .int (nI 5), .int (nI 12)]) d_Mo_composes_108 (Nat.le_of_ble_eq_true rfl) rfl ?_
    refine en_inc (ls' := [.ref 47, .int (nI 0), .int (nI j), .int (nI 1), .int (nI 1), .int (nI 5), .int (nI 12)]) d_Mo_composes_109 rfl rfl ?_
    refine ew_goto (tgt := 5) d_Mo_composes_112 (by decide) ?_
    refine ew_iload d_Mo_composes_5 rfl ?_
    refine ew_iconst (v := nI 2) d_Mo_composes_7 (by decide) ?_
    refine en_icmp_ge (tgt := 115) d_Mo_composes_8 (by decide) (by decide) (by decide) (fun h8_1 => by exact absurd h8_1 (by decide)) (fun h8_1 => ?_)
    refine ew_iload_n d_Mo_composes_11 rfl ?_
    refine ew_iconst (v := nI 2) d_Mo_composes_12 (by decide) ?_
    refine ew_iload d_Mo_composes_13 rfl ?_
    refine en_imul d_Mo_composes_15 ?_
    refine en_eq rfl (show _ = [.int (nI 2), .int (nI 0)] from rfl) rfl ?_
    refine en_callS (As := [.int (nI 0), .int (nI 2)]) (st := []) (st1 := [.int (nI 19)]) d_Mo_composes_16 k_Mo_placeOf tw_819 tw_820 rfl (Nat.le_of_ble_eq_true rfl) rfl (Nat.le_of_ble_eq_true rfl) rfl rfl (c_Mo_placeOf_0_2 l g _ L (sp_rl M (nI (fn 5)) (nI (fn 6)) (nI (fn 12)) (nI (fn 13)))) rfl ?_
    refine en_istore (ls' := [.ref 47, .int (nI 0), .int (nI j), .int (nI 1), .int (nI 1), .int (nI 19), .int (nI 12)]) d_Mo_composes_19 (Nat.le_of_ble_eq_true rfl) rfl ?_
    refine ew_iload_n d_Mo_composes_21 rfl ?_
    refine ew_iconst (v := nI 2) d_Mo_composes_22 (by decide) ?_
    refine ew_iload d_Mo_composes_23 rfl ?_
    refine en_imul d_Mo_composes_25 ?_
    refine en_eq rfl (show _ = [.int (nI 2), .int (nI 0)] from rfl) rfl ?_
    refine ew_iconst (v := nI 1) d_Mo_composes_26 (by decide) ?_
    refine en_iadd d_Mo_composes_27 ?_
    refine en_eq rfl (show _ = [.int (nI 3), .int (nI 0)] from rfl) rfl ?_
    refine en_callS (As := [.int (nI 0), .int (nI 3)]) (st := []) (st1 := [.int (nI 26)]) d_Mo_composes_28 k_Mo_placeOf tw_819 tw_820 rfl (Nat.le_of_ble_eq_true rfl) rfl (Nat.le_of_ble_eq_true rfl) rfl rfl (c_Mo_placeOf_0_3 l g _ L (sp_rl M (nI (fn 5)) (nI (fn 6)) (nI (fn 12)) (nI (fn 13)))) rfl ?_
    refine en_istore (ls' := [.ref 47, .int (nI 0), .int (nI j), .int (nI 1), .int (nI 1), .int (nI 19), .int (nI 26)]) d_Mo_composes_31 (Nat.le_of_ble_eq_true rfl) rfl ?_
    refine ew_aload_n d_Mo_composes_33 rfl ?_
    refine ew_aload_n d_Mo_composes_34 rfl ?_
    refine ew_getr (ci := 9) (f := 10) d_Mo_composes_35 rfl rfl rfl tw_602 ?_
    refine ew_iload d_Mo_composes_38 rfl ?_
    refine ew_iald (j := 19) d_Mo_composes_40 rfl (rfl) (by decide) (by decide) ?_
    refine en_eq (st' := [.int (nI (fn 19)), .ref 47]) rfl (by rw [show ((sp_rl M (nI (fn 5)) (nI (fn 6)) (nI (fn 12)) (nI (fn 13))) 56 19) = (nI (fn 19)) from by first | exact (hfn 19 (by decide)).1 | (rw [sp_rl_ne (by decide)]; exact (hfn 19 (by decide)).1) | (rw [sp_rl_ne (by decide), sp_rl_ne (by decide)]; exact (hfn 19 (by decide)).1)]) rfl ?_
    refine ew_aload_n d_Mo_composes_41 rfl ?_
    refine ew_getr (ci := 9) (f := 10) d_Mo_composes_42 rfl rfl rfl tw_602 ?_
    refine ew_iload d_Mo_composes_45 rfl ?_
    refine ew_iconst (v := nI 1) d_Mo_composes_47 (by decide) ?_
    refine en_iadd d_Mo_composes_48 ?_
    refine en_eq rfl (show _ = [.int (nI 20), .ref 56, .int (nI (fn 19)), .ref 47] from rfl) rfl ?_
    refine ew_iald (j := 20) d_Mo_composes_49 rfl (rfl) (by decide) (by decide) ?_
    refine en_eq (st' := [.int (nI (fn 20)), .int (nI (fn 19)), .ref 47]) rfl (by rw [show ((sp_rl M (nI (fn 5)) (nI (fn 6)) (nI (fn 12)) (nI (fn 13))) 56 20) = (nI (fn 20)) from by first | exact (hfn 20 (by decide)).1 | (rw [sp_rl_ne (by decide)]; exact (hfn 20 (by decide)).1) | (rw [sp_rl_ne (by decide), sp_rl_ne (by decide)]; exact (hfn 20 (by decide)).1)]) rfl ?_
    refine ew_aload_n d_Mo_composes_50 rfl ?_
    refine ew_getr (ci := 9) (f := 10) d_Mo_composes_51 rfl rfl rfl tw_602 ?_
    refine ew_iload d_Mo_composes_54 rfl ?_
    refine ew_iald (j := 26) d_Mo_composes_56 rfl (rfl) (by decide) (by decide) ?_
    refine en_eq (st' := [.int (nI (fn 26)), .int (nI (fn 20)), .int (nI (fn 19)), .ref 47]) rfl (by rw [show ((sp_rl M (nI (fn 5)) (nI (fn 6)) (nI (fn 12)) (nI (fn 13))) 56 26) = (nI (fn 26)) from by first | exact (hfn 26 (by decide)).1 | (rw [sp_rl_ne (by decide)]; exact (hfn 26 (by decide)).1) | (rw [sp_rl_ne (by decide), sp_rl_ne (by decide)]; exact (hfn 26 (by decide)).1)]) rfl ?_
    refine ew_aload_n d_Mo_composes_57 rfl ?_
    refine ew_getr (ci := 9) (f := 10) d_Mo_composes_58 rfl rfl rfl tw_602 ?_
    refine ew_iload d_Mo_composes_61 rfl ?_
    refine ew_iconst (v := nI 1) d_Mo_composes_63 (by decide) ?_
    refine en_iadd d_Mo_composes_64 ?_
    refine en_eq rfl (show _ = [.int (nI 27), .ref 56, .int (nI (fn 26)), .int (nI (fn 20)), .int (nI (fn 19)), .ref 47] from rfl) rfl ?_
    refine ew_iald (j := 27) d_Mo_composes_65 rfl (rfl) (by decide) (by decide) ?_
    refine en_eq (st' := [.int (nI (fn 27)), .int (nI (fn 26)), .int (nI (fn 20)), .int (nI (fn 19)), .ref 47]) rfl (by rw [show ((sp_rl M (nI (fn 5)) (nI (fn 6)) (nI (fn 12)) (nI (fn 13))) 56 27) = (nI (fn 27)) from by first | exact (hfn 27 (by decide)).1 | (rw [sp_rl_ne (by decide)]; exact (hfn 27 (by decide)).1) | (rw [sp_rl_ne (by decide), sp_rl_ne (by decide)]; exact (hfn 27 (by decide)).1)]) rfl ?_
    refine en_callV (As := [.int (nI (fn 19)), .int (nI (fn 20)), .int (nI (fn 26)), .int (nI (fn 27))]) (i := 47) (ci := 9) (st := []) (st1 := []) d_Mo_composes_66 k_Mo_letters rfl rfl tw_727 tw_729 tp_32 rfl (Nat.le_of_ble_eq_true rfl) rfl (Nat.le_of_ble_eq_true rfl) rfl rfl (c_Mo_letters l g _ L (sp_rl M (nI (fn 5)) (nI (fn 6)) (nI (fn 12)) (nI (fn 13))) (nI (fn 19)) (nI (fn 20)) (nI (fn 26)) (nI (fn 27))) rfl ?_
    refine ew_iload_n d_Mo_composes_69 rfl ?_
    refine en_if_eq (tgt := 107) d_Mo_composes_70 (by decide) (by decide) (fun h70_1 => by exact absurd h70_1 (by decide)) (fun h70_1 => ?_)
    refine ew_aload_n d_Mo_composes_73 rfl ?_
    refine ew_getr (ci := 9) (f := 10) d_Mo_composes_74 rfl rfl rfl tw_602 ?_
    refine ew_iload_n d_Mo_composes_77 rfl ?_
    refine ew_iconst (v := nI 4) d_Mo_composes_78 (by decide) ?_
    refine ew_iload d_Mo_composes_79 rfl ?_
    refine en_iadd d_Mo_composes_81 ?_
    refine en_eq rfl (show _ = [.int (nI 5), .int (nI 0), .ref 56] from rfl) rfl ?_
    refine en_callS (As := [.int (nI 0), .int (nI 5)]) (st := [.ref 56]) (st1 := [.int (nI 39), .ref 56]) d_Mo_composes_82 k_Mo_placeOf tw_819 tw_820 rfl (Nat.le_of_ble_eq_true rfl) rfl (Nat.le_of_ble_eq_true rfl) rfl rfl (c_Mo_placeOf_0_5 l g _ L (sp_rl (sp_rl M (nI (fn 5)) (nI (fn 6)) (nI (fn 12)) (nI (fn 13))) (nI (fn 19)) (nI (fn 20)) (nI (fn 26)) (nI (fn 27)))) rfl ?_
    refine ew_iald (j := 39) d_Mo_composes_85 rfl (rfl) (by decide) (by decide) ?_
    refine en_eq (st' := [.int (nI (fn 39))]) rfl (by rw [show ((sp_rl (sp_rl M (nI (fn 5)) (nI (fn 6)) (nI (fn 12)) (nI (fn 13))) (nI (fn 19)) (nI (fn 20)) (nI (fn 26)) (nI (fn 27))) 56 39) = (nI (fn 39)) from by first | exact (hfn 39 (by decide)).1 | (rw [sp_rl_ne (by decide)]; exact (hfn 39 (by decide)).1) | (rw [sp_rl_ne (by decide), sp_rl_ne (by decide)]; exact (hfn 39 (by decide)).1)]) rfl ?_
    refine ew_aload_n d_Mo_composes_86 rfl ?_
    refine ew_iload_n d_Mo_composes_87 rfl ?_
    refine ew_bipush (v := nI 16) d_Mo_composes_88 (by decide) ?_
    refine ew_iload d_Mo_composes_90 rfl ?_
    refine en_imul d_Mo_composes_92 ?_
    refine en_eq rfl (show _ = [.int (nI 16), .int (nI j), .ref 47, .int (nI (fn 39))] from rfl) rfl ?_
    refine en_iadd d_Mo_composes_93 ?_
    refine ew_bipush (v := nI 32) d_Mo_composes_94 (by decide) ?_
    refine en_irem d_Mo_composes_96 (by omega) (by decide) (by decide) ?_
    refine en_eq (st' := [.int (nI (j % 16 + 16 * 1)), .ref 47, .int (nI (fn 39))]) rfl (by rw [show (nI ((j + 16) % 32)) = (nI (j % 16 + 16 * 1)) from congrArg nI (by omega)]) rfl ?_
    refine en_callV (As := [.int (nI (j % 16 + 16 * 1))]) (i := 47) (ci := 9) (st := [.int (nI (fn 39))]) (st1 := [.int (nI (sp_com ρ (sp_le (fn 19) (fn 20) (fn 26) (fn 27)) (j % 16 + 16 * 1) A)), .int (nI (fn 39))]) d_Mo_composes_97 k_Mo_composition rfl rfl tw_775 tw_777 tp_39 rfl (Nat.le_of_ble_eq_true rfl) rfl (Nat.le_of_ble_eq_true rfl) rfl rfl (c_Mo_composition l g _ L (sp_rl (sp_rl M (nI (fn 5)) (nI (fn 6)) (nI (fn 12)) (nI (fn 13))) (nI (fn 19)) (nI (fn 20)) (nI (fn 26)) (nI (fn 27))) ρ (sp_rm_rl (sp_rm_rl hr)) (sp_le (fn 19) (fn 20) (fn 26) (fn 27)) (sp_rl_le (hfn 19 (by decide)).2 (hfn 20 (by decide)).2 (hfn 26 (by decide)).2 (hfn 27 (by decide)).2) (sp_rts_of hR (by rw [sp_rl_ne (by decide), sp_rl_ne (by decide)])) (j % 16 + 16 * 1) A (by omega) hA (by rw [sp_rl_ne (by decide), sp_rl_ne (by decide)]; exact hA0)) rfl ?_
    refine en_icmp_ne (tgt := 107) d_Mo_composes_100 (by decide) (by first | exact Nat.lt_trans (hfn _ (by decide)).2 (by decide) | exact Nat.lt_trans (sp_com_lt _ _ _ _) (by decide) | exact Nat.lt_trans (sp_fo_lt _ _ _ _ _) (by decide)) (by first | exact Nat.lt_trans (hfn _ (by decide)).2 (by decide) | exact Nat.lt_trans (sp_com_lt _ _ _ _) (by decide) | exact Nat.lt_trans (sp_fo_lt _ _ _ _ _) (by decide)) (fun h100_1 => ?_) (fun h100_1 => ?_)
    · refine ew_iconst (v := nI 0) d_Mo_composes_107 (by decide) ?_
      refine en_istore_n (ls' := [.ref 47, .int (nI 0), .int (nI j), .int (nI 0), .int (nI 1), .int (nI 19), .int (nI 26)]) d_Mo_composes_108 (Nat.le_of_ble_eq_true rfl) rfl ?_
      refine en_inc (ls' := [.ref 47, .int (nI 0), .int (nI j), .int (nI 0), .int (nI 2), .int (nI 19), .int (nI 26)]) d_Mo_composes_109 rfl rfl ?_
      refine ew_goto (tgt := 5) d_Mo_composes_112 (by decide) ?_
      refine ew_iload d_Mo_composes_5 rfl ?_
      refine ew_iconst (v := nI 2) d_Mo_composes_7 (by decide) ?_
      refine en_icmp_ge (tgt := 115) d_Mo_composes_8 (by decide) (by decide) (by decide) (fun h8_2 => ?_) (fun h8_2 => by exact absurd h8_2 (by decide))
      refine ew_iload_n d_Mo_composes_115 rfl ?_
      exact ew_zret d_Mo_composes_116 rfl (by decide) (⟨rfl, by rw [show (sp_vo0 ρ fn j A 0 && sp_vo0 ρ fn j A 1) = false from by rw [show sp_vo0 ρ fn j A 1 = false from decide_eq_false (fun q => h100_1 q.symm), Bool.and_false]]; rfl, fun q hq => by rw [sp_rl_ne hq, sp_rl_ne hq]⟩)
    · refine ew_iconst (v := nI 1) d_Mo_composes_103 (by decide) ?_
      refine ew_goto (tgt := 108) d_Mo_composes_104 (by decide) ?_
      refine en_istore_n (ls' := [.ref 47, .int (nI 0), .int (nI j), .int (nI 1), .int (nI 1), .int (nI 19), .int (nI 26)]) d_Mo_composes_108 (Nat.le_of_ble_eq_true rfl) rfl ?_
      refine en_inc (ls' := [.ref 47, .int (nI 0), .int (nI j), .int (nI 1), .int (nI 2), .int (nI 19), .int (nI 26)]) d_Mo_composes_109 rfl rfl ?_
      refine ew_goto (tgt := 5) d_Mo_composes_112 (by decide) ?_
      refine ew_iload d_Mo_composes_5 rfl ?_
      refine ew_iconst (v := nI 2) d_Mo_composes_7 (by decide) ?_
      refine en_icmp_ge (tgt := 115) d_Mo_composes_8 (by decide) (by decide) (by decide) (fun h8_2 => ?_) (fun h8_2 => by exact absurd h8_2 (by decide))
      refine ew_iload_n d_Mo_composes_115 rfl ?_
      exact ew_zret d_Mo_composes_116 rfl (by decide) (⟨rfl, by rw [show (sp_vo0 ρ fn j A 0 && sp_vo0 ρ fn j A 1) = true from by rw [show sp_vo0 ρ fn j A 0 = true from decide_eq_true h100.symm, show sp_vo0 ρ fn j A 1 = true from decide_eq_true h100_1.symm]; rfl]; rfl, fun q hq => by rw [sp_rl_ne hq, sp_rl_ne hq]⟩)
set_option maxRecDepth 100000 in
theorem c_Mo_folds00 (l : Launch) (g : ew_G) (d L : Nat) (M : ew_M) (fn : Nat → Nat) (hfn : sp_fnok (M 56) fn) (hR : sp_rts M) (B : Nat) (hB : B < 12289) (hB0 : M 57 0 = nI B) (j : Nat) (hj : j < 16) :
    Ew l g (d + 3) 0 0 m_Mo_folds 0 [.ref 47, .int (nI 0), .int (nI j), .int (nI 0), .retAddr 0, .retAddr 0, .retAddr 0] [] (ew_SH L) M (ew_q (some (.int (ew_b (decide (sp_vf00 fn j B = sp_vb00 fn j))))) (ew_SH L) M) := by
  refine ew_bipush (v := nI 16) d_Mo_folds_0 (by decide) ?_
  refine ew_iload_n d_Mo_folds_2 rfl ?_
  refine ew_ishr d_Mo_folds_3 ?_
  refine en_eq (st' := [.int (nI 16)]) rfl (by rw [show ((nI 16) >>> ((nI 0) &&& 31)) = (nI 16) from by decide]) rfl ?_
  refine en_istore (ls' := [.ref 47, .int (nI 0), .int (nI j), .int (nI 0), .int (nI 16), .retAddr 0, .retAddr 0]) d_Mo_folds_4 (Nat.le_of_ble_eq_true rfl) rfl ?_
  refine ew_iload_n d_Mo_folds_6 rfl ?_
  refine ew_iload d_Mo_folds_7 rfl ?_
  refine en_irem d_Mo_folds_9 (by omega) (by decide) (by decide) ?_
  refine en_istore (ls' := [.ref 47, .int (nI 0), .int (nI j), .int (nI 0), .int (nI 16), .int (nI (j % 16)), .retAddr 0]) d_Mo_folds_10 (Nat.le_of_ble_eq_true rfl) rfl ?_
  refine ew_aload_n d_Mo_folds_12 rfl ?_
  refine ew_iload_n d_Mo_folds_13 rfl ?_
  refine ew_iload d_Mo_folds_14 rfl ?_
  refine ew_aload_n d_Mo_folds_16 rfl ?_
  refine ew_getr (ci := 9) (f := 10) d_Mo_folds_17 rfl rfl rfl tw_602 ?_
  refine ew_iload_n d_Mo_folds_20 rfl ?_
  refine ew_iconst (v := nI 4) d_Mo_folds_21 (by decide) ?_
  refine ew_iconst (v := nI 2) d_Mo_folds_22 (by decide) ?_
  refine ew_iload_n d_Mo_folds_23 rfl ?_
  refine en_imul d_Mo_folds_24 ?_
  refine en_eq rfl (show _ = [.int (nI 0), .int (nI 4), .int (nI 0), .ref 56, .int (nI (j % 16)), .int (nI 0), .ref 47] from rfl) rfl ?_
  refine en_iadd d_Mo_folds_25 ?_
  refine en_eq rfl (show _ = [.int (nI 4), .int (nI 0), .ref 56, .int (nI (j % 16)), .int (nI 0), .ref 47] from rfl) rfl ?_
  refine en_callS (As := [.int (nI 0), .int (nI 4)]) (st := [.ref 56, .int (nI (j % 16)), .int (nI 0), .ref 47]) (st1 := [.int (nI 33), .ref 56, .int (nI (j % 16)), .int (nI 0), .ref 47]) d_Mo_folds_26 k_Mo_placeOf tw_819 tw_820 rfl (Nat.le_of_ble_eq_true rfl) rfl (Nat.le_of_ble_eq_true rfl) rfl rfl (c_Mo_placeOf_0_4 l g _ L M) rfl ?_
  refine ew_iald (j := 33) d_Mo_folds_29 rfl (rfl) (by decide) (by decide) ?_
  refine en_eq (st' := [.int (nI (fn 33)), .int (nI (j % 16)), .int (nI 0), .ref 47]) rfl (by rw [show (M 56 33) = (nI (fn 33)) from by first | exact (hfn 33 (by decide)).1 | (rw [sp_rl_ne (by decide)]; exact (hfn 33 (by decide)).1) | (rw [sp_rl_ne (by decide), sp_rl_ne (by decide)]; exact (hfn 33 (by decide)).1)]) rfl ?_
  refine ew_aload_n d_Mo_folds_30 rfl ?_
  refine ew_getr (ci := 9) (f := 10) d_Mo_folds_31 rfl rfl rfl tw_602 ?_
  refine ew_iload_n d_Mo_folds_34 rfl ?_
  refine ew_iconst (v := nI 5) d_Mo_folds_35 (by decide) ?_
  refine ew_iconst (v := nI 2) d_Mo_folds_36 (by decide) ?_
  refine ew_iload_n d_Mo_folds_37 rfl ?_
  refine en_imul d_Mo_folds_38 ?_
  refine en_eq rfl (show _ = [.int (nI 0), .int (nI 5), .int (nI 0), .ref 56, .int (nI (fn 33)), .int (nI (j % 16)), .int (nI 0), .ref 47] from rfl) rfl ?_
  refine en_iadd d_Mo_folds_39 ?_
  refine en_eq rfl (show _ = [.int (nI 5), .int (nI 0), .ref 56, .int (nI (fn 33)), .int (nI (j % 16)), .int (nI 0), .ref 47] from rfl) rfl ?_
  refine en_callS (As := [.int (nI 0), .int (nI 5)]) (st := [.ref 56, .int (nI (fn 33)), .int (nI (j % 16)), .int (nI 0), .ref 47]) (st1 := [.int (nI 39), .ref 56, .int (nI (fn 33)), .int (nI (j % 16)), .int (nI 0), .ref 47]) d_Mo_folds_40 k_Mo_placeOf tw_819 tw_820 rfl (Nat.le_of_ble_eq_true rfl) rfl (Nat.le_of_ble_eq_true rfl) rfl rfl (c_Mo_placeOf_0_5 l g _ L M) rfl ?_
  refine ew_iald (j := 39) d_Mo_folds_43 rfl (rfl) (by decide) (by decide) ?_
  refine en_eq (st' := [.int (nI (fn 39)), .int (nI (fn 33)), .int (nI (j % 16)), .int (nI 0), .ref 47]) rfl (by rw [show (M 56 39) = (nI (fn 39)) from by first | exact (hfn 39 (by decide)).1 | (rw [sp_rl_ne (by decide)]; exact (hfn 39 (by decide)).1) | (rw [sp_rl_ne (by decide), sp_rl_ne (by decide)]; exact (hfn 39 (by decide)).1)]) rfl ?_
  refine en_callV (As := [.int (nI 0), .int (nI (j % 16)), .int (nI (fn 33)), .int (nI (fn 39))]) (i := 47) (ci := 9) (st := []) (st1 := [.int (nI (sp_fo 1 (j % 16) (fn 33) (fn 39) B))]) d_Mo_folds_44 k_Mo_folded rfl rfl tw_783 tw_785 tp_41 rfl (Nat.le_of_ble_eq_true rfl) rfl (Nat.le_of_ble_eq_true rfl) rfl rfl (c_Mo_folded0 l g _ L M (hR) (j % 16) (fn 33) (fn 39) B (by omega) ((hfn _ (by decide)).2) ((hfn _ (by decide)).2) (hB) (hB0)) rfl ?_
  refine en_istore (ls' := [.ref 47, .int (nI 0), .int (nI j), .int (nI 0), .int (nI 16), .int (nI (j % 16)), .int (nI (sp_fo 1 (j % 16) (fn 33) (fn 39) B))]) d_Mo_folds_47 (Nat.le_of_ble_eq_true rfl) rfl ?_
  refine ew_iload_n d_Mo_folds_49 rfl ?_
  refine ew_iconst (v := nI 2) d_Mo_folds_50 (by decide) ?_
  refine en_icmp_ne (tgt := 71) d_Mo_folds_51 (by decide) (by decide) (by decide) (fun h51 => ?_) (fun h51 => by exact absurd h51 (by decide))
  refine ew_iload d_Mo_folds_71 rfl ?_
  refine ew_aload_n d_Mo_folds_73 rfl ?_
  refine ew_getr (ci := 9) (f := 10) d_Mo_folds_74 rfl rfl rfl tw_602 ?_
  refine ew_iload_n d_Mo_folds_77 rfl ?_
  refine ew_bipush (v := nI 6) d_Mo_folds_78 (by decide) ?_
  refine ew_iconst (v := nI 2) d_Mo_folds_80 (by decide) ?_
  refine ew_iload_n d_Mo_folds_81 rfl ?_
  refine en_imul d_Mo_folds_82 ?_
  refine en_eq rfl (show _ = [.int (nI 0), .int (nI 6), .int (nI 0), .ref 56, .int (nI (sp_fo 1 (j % 16) (fn 33) (fn 39) B))] from rfl) rfl ?_
  refine en_iadd d_Mo_folds_83 ?_
  refine en_eq rfl (show _ = [.int (nI 6), .int (nI 0), .ref 56, .int (nI (sp_fo 1 (j % 16) (fn 33) (fn 39) B))] from rfl) rfl ?_
  refine ew_iload d_Mo_folds_84 rfl ?_
  refine ew_iload d_Mo_folds_86 rfl ?_
  refine ew_iconst (v := nI 2) d_Mo_folds_88 (by decide) ?_
  refine en_idiv d_Mo_folds_89 (by first | with_reducible assumption | with_reducible exact ep_lt _ | with_reducible exact sp_its_lt _ _ _ | with_reducible exact tb_l_rt _ | with_reducible exact tb_l_x _ | with_reducible exact tb_l_o0 _ | with_reducible exact tb_l_o1 _ | with_reducible exact tb_l_va _ | with_reducible exact tb_l_ll _ | with_reducible exact tb_l_cf _ | with_reducible exact tb_l_kf _ | with_reducible exact sp_ts_lt _ _ _ _ | with_reducible exact sp_w_lt _ _ | with_reducible exact sp_cs_lt _ _ _ _ _ | with_reducible exact sp_cb_lt _ _ _ _ _ | with_reducible exact sp_ch_lt _ | with_reducible exact sp_bf_lt _ _ | with_reducible exact sp_va_lt _ _ _ | with_reducible exact sp_be_lt _ _ | with_reducible exact sp_p_lt _ _ _ | with_reducible exact sp_com_lt _ _ _ _ | with_reducible exact sp_fo_lt _ _ _ _ _ | omega) (by decide) (by decide) ?_
  refine en_eq rfl (show _ = [.int (nI 8), .int (nI (j % 16)), .int (nI 6), .int (nI 0), .ref 56, .int (nI (sp_fo 1 (j % 16) (fn 33) (fn 39) B))] from rfl) rfl ?_
  refine en_icmp_lt (tgt := 97) d_Mo_folds_90 (by decide) (by omega) (by omega) (fun h90 => ?_) (fun h90 => ?_)
  · refine ew_iconst (v := nI 0) d_Mo_folds_97 (by decide) ?_
    refine en_iadd d_Mo_folds_98 ?_
    refine en_eq rfl (show _ = [.int (nI 6), .int (nI 0), .ref 56, .int (nI (sp_fo 1 (j % 16) (fn 33) (fn 39) B))] from rfl) rfl ?_
    refine en_callS (As := [.int (nI 0), .int (nI 6)]) (st := [.ref 56, .int (nI (sp_fo 1 (j % 16) (fn 33) (fn 39) B))]) (st1 := [.int (nI 45), .ref 56, .int (nI (sp_fo 1 (j % 16) (fn 33) (fn 39) B))]) d_Mo_folds_99 k_Mo_placeOf tw_819 tw_820 rfl (Nat.le_of_ble_eq_true rfl) rfl (Nat.le_of_ble_eq_true rfl) rfl rfl (c_Mo_placeOf_0_6 l g _ L M) rfl ?_
    refine ew_iald (j := 45) d_Mo_folds_102 rfl (rfl) (by decide) (by decide) ?_
    refine en_eq (st' := [.int (nI (fn 45)), .int (nI (sp_fo 1 (j % 16) (fn 33) (fn 39) B))]) rfl (by rw [show (M 56 45) = (nI (fn 45)) from by first | exact (hfn 45 (by decide)).1 | (rw [sp_rl_ne (by decide)]; exact (hfn 45 (by decide)).1) | (rw [sp_rl_ne (by decide), sp_rl_ne (by decide)]; exact (hfn 45 (by decide)).1)]) rfl ?_
    refine en_icmp_ne (tgt := 110) d_Mo_folds_103 (by decide) (by first | exact Nat.lt_trans (hfn _ (by decide)).2 (by decide) | exact Nat.lt_trans (sp_com_lt _ _ _ _) (by decide) | exact Nat.lt_trans (sp_fo_lt _ _ _ _ _) (by decide)) (by first | exact Nat.lt_trans (hfn _ (by decide)).2 (by decide) | exact Nat.lt_trans (sp_com_lt _ _ _ _) (by decide) | exact Nat.lt_trans (sp_fo_lt _ _ _ _ _) (by decide)) (fun h103 => ?_) (fun h103 => ?_)
    · refine ew_iconst (v := nI 0) d_Mo_folds_110 (by decide) ?_
      exact ew_zret d_Mo_folds_111 rfl (by decide) (⟨by rw [show decide (sp_vf00 fn j B = sp_vb00 fn j) = false from decide_eq_false (by unfold sp_vb00; rw [show j % 16 / 8 = 0 by omega]; exact h103)]; rfl, rfl, rfl⟩)
    · refine ew_iconst (v := nI 1) d_Mo_folds_106 (by decide) ?_
      refine ew_goto (tgt := 111) d_Mo_folds_107 (by decide) ?_
      exact ew_zret d_Mo_folds_111 rfl (by decide) (⟨by rw [show decide (sp_vf00 fn j B = sp_vb00 fn j) = true from decide_eq_true (by unfold sp_vb00; rw [show j % 16 / 8 = 0 by omega]; exact h103)]; rfl, rfl, rfl⟩)
  · refine ew_iconst (v := nI 1) d_Mo_folds_93 (by decide) ?_
    refine ew_goto (tgt := 98) d_Mo_folds_94 (by decide) ?_
    refine en_iadd d_Mo_folds_98 ?_
    refine en_eq rfl (show _ = [.int (nI 7), .int (nI 0), .ref 56, .int (nI (sp_fo 1 (j % 16) (fn 33) (fn 39) B))] from rfl) rfl ?_
    refine en_callS (As := [.int (nI 0), .int (nI 7)]) (st := [.ref 56, .int (nI (sp_fo 1 (j % 16) (fn 33) (fn 39) B))]) (st1 := [.int (nI 50), .ref 56, .int (nI (sp_fo 1 (j % 16) (fn 33) (fn 39) B))]) d_Mo_folds_99 k_Mo_placeOf tw_819 tw_820 rfl (Nat.le_of_ble_eq_true rfl) rfl (Nat.le_of_ble_eq_true rfl) rfl rfl (c_Mo_placeOf_0_7 l g _ L M) rfl ?_
    refine ew_iald (j := 50) d_Mo_folds_102 rfl (rfl) (by decide) (by decide) ?_
    refine en_eq (st' := [.int (nI (fn 50)), .int (nI (sp_fo 1 (j % 16) (fn 33) (fn 39) B))]) rfl (by rw [show (M 56 50) = (nI (fn 50)) from by first | exact (hfn 50 (by decide)).1 | (rw [sp_rl_ne (by decide)]; exact (hfn 50 (by decide)).1) | (rw [sp_rl_ne (by decide), sp_rl_ne (by decide)]; exact (hfn 50 (by decide)).1)]) rfl ?_
    refine en_icmp_ne (tgt := 110) d_Mo_folds_103 (by decide) (by first | exact Nat.lt_trans (hfn _ (by decide)).2 (by decide) | exact Nat.lt_trans (sp_com_lt _ _ _ _) (by decide) | exact Nat.lt_trans (sp_fo_lt _ _ _ _ _) (by decide)) (by first | exact Nat.lt_trans (hfn _ (by decide)).2 (by decide) | exact Nat.lt_trans (sp_com_lt _ _ _ _) (by decide) | exact Nat.lt_trans (sp_fo_lt _ _ _ _ _) (by decide)) (fun h103 => ?_) (fun h103 => ?_)
    · refine ew_iconst (v := nI 0) d_Mo_folds_110 (by decide) ?_
      exact ew_zret d_Mo_folds_111 rfl (by decide) (⟨by rw [show decide (sp_vf00 fn j B = sp_vb00 fn j) = false from decide_eq_false (by unfold sp_vb00; rw [show j % 16 / 8 = 1 by omega]; exact h103)]; rfl, rfl, rfl⟩)
    · refine ew_iconst (v := nI 1) d_Mo_folds_106 (by decide) ?_
      refine ew_goto (tgt := 111) d_Mo_folds_107 (by decide) ?_
      exact ew_zret d_Mo_folds_111 rfl (by decide) (⟨by rw [show decide (sp_vf00 fn j B = sp_vb00 fn j) = true from decide_eq_true (by unfold sp_vb00; rw [show j % 16 / 8 = 1 by omega]; exact h103)]; rfl, rfl, rfl⟩)
set_option maxRecDepth 100000 in
theorem c_Mo_folds01 (l : Launch) (g : ew_G) (d L : Nat) (M : ew_M) (fn : Nat → Nat) (hfn : sp_fnok (M 56) fn) (hR : sp_rts M) (B : Nat) (hB : B < 12289) (hB0 : M 57 1 = nI B) (j : Nat) (hj : j < 16) :
    Ew l g (d + 3) 0 0 m_Mo_folds 0 [.ref 47, .int (nI 0), .int (nI j), .int (nI 1), .retAddr 0, .retAddr 0, .retAddr 0] [] (ew_SH L) M (ew_q (some (.int (ew_b (decide (sp_vf01 fn j B = sp_vb01 fn j))))) (ew_SH L) M) := by
  refine ew_bipush (v := nI 16) d_Mo_folds_0 (by decide) ?_
  refine ew_iload_n d_Mo_folds_2 rfl ?_
  refine ew_ishr d_Mo_folds_3 ?_
  refine en_eq (st' := [.int (nI 8)]) rfl (by rw [show ((nI 16) >>> ((nI 1) &&& 31)) = (nI 8) from by decide]) rfl ?_
  refine en_istore (ls' := [.ref 47, .int (nI 0), .int (nI j), .int (nI 1), .int (nI 8), .retAddr 0, .retAddr 0]) d_Mo_folds_4 (Nat.le_of_ble_eq_true rfl) rfl ?_
  refine ew_iload_n d_Mo_folds_6 rfl ?_
  refine ew_iload d_Mo_folds_7 rfl ?_
  refine en_irem d_Mo_folds_9 (by omega) (by decide) (by decide) ?_
  refine en_istore (ls' := [.ref 47, .int (nI 0), .int (nI j), .int (nI 1), .int (nI 8), .int (nI (j % 8)), .retAddr 0]) d_Mo_folds_10 (Nat.le_of_ble_eq_true rfl) rfl ?_
  refine ew_aload_n d_Mo_folds_12 rfl ?_
  refine ew_iload_n d_Mo_folds_13 rfl ?_
  refine ew_iload d_Mo_folds_14 rfl ?_
  refine ew_aload_n d_Mo_folds_16 rfl ?_
  refine ew_getr (ci := 9) (f := 10) d_Mo_folds_17 rfl rfl rfl tw_602 ?_
  refine ew_iload_n d_Mo_folds_20 rfl ?_
  refine ew_iconst (v := nI 4) d_Mo_folds_21 (by decide) ?_
  refine ew_iconst (v := nI 2) d_Mo_folds_22 (by decide) ?_
  refine ew_iload_n d_Mo_folds_23 rfl ?_
  refine en_imul d_Mo_folds_24 ?_
  refine en_eq rfl (show _ = [.int (nI 2), .int (nI 4), .int (nI 0), .ref 56, .int (nI (j % 8)), .int (nI 1), .ref 47] from rfl) rfl ?_
  refine en_iadd d_Mo_folds_25 ?_
  refine en_eq rfl (show _ = [.int (nI 6), .int (nI 0), .ref 56, .int (nI (j % 8)), .int (nI 1), .ref 47] from rfl) rfl ?_
  refine en_callS (As := [.int (nI 0), .int (nI 6)]) (st := [.ref 56, .int (nI (j % 8)), .int (nI 1), .ref 47]) (st1 := [.int (nI 45), .ref 56, .int (nI (j % 8)), .int (nI 1), .ref 47]) d_Mo_folds_26 k_Mo_placeOf tw_819 tw_820 rfl (Nat.le_of_ble_eq_true rfl) rfl (Nat.le_of_ble_eq_true rfl) rfl rfl (c_Mo_placeOf_0_6 l g _ L M) rfl ?_
  refine ew_iald (j := 45) d_Mo_folds_29 rfl (rfl) (by decide) (by decide) ?_
  refine en_eq (st' := [.int (nI (fn 45)), .int (nI (j % 8)), .int (nI 1), .ref 47]) rfl (by rw [show (M 56 45) = (nI (fn 45)) from by first | exact (hfn 45 (by decide)).1 | (rw [sp_rl_ne (by decide)]; exact (hfn 45 (by decide)).1) | (rw [sp_rl_ne (by decide), sp_rl_ne (by decide)]; exact (hfn 45 (by decide)).1)]) rfl ?_
  refine ew_aload_n d_Mo_folds_30 rfl ?_
  refine ew_getr (ci := 9) (f := 10) d_Mo_folds_31 rfl rfl rfl tw_602 ?_
  refine ew_iload_n d_Mo_folds_34 rfl ?_
  refine ew_iconst (v := nI 5) d_Mo_folds_35 (by decide) ?_
  refine ew_iconst (v := nI 2) d_Mo_folds_36 (by decide) ?_
  refine ew_iload_n d_Mo_folds_37 rfl ?_
  refine en_imul d_Mo_folds_38 ?_
  refine en_eq rfl (show _ = [.int (nI 2), .int (nI 5), .int (nI 0), .ref 56, .int (nI (fn 45)), .int (nI (j % 8)), .int (nI 1), .ref 47] from rfl) rfl ?_
  refine en_iadd d_Mo_folds_39 ?_
  refine en_eq rfl (show _ = [.int (nI 7), .int (nI 0), .ref 56, .int (nI (fn 45)), .int (nI (j % 8)), .int (nI 1), .ref 47] from rfl) rfl ?_
  refine en_callS (As := [.int (nI 0), .int (nI 7)]) (st := [.ref 56, .int (nI (fn 45)), .int (nI (j % 8)), .int (nI 1), .ref 47]) (st1 := [.int (nI 50), .ref 56, .int (nI (fn 45)), .int (nI (j % 8)), .int (nI 1), .ref 47]) d_Mo_folds_40 k_Mo_placeOf tw_819 tw_820 rfl (Nat.le_of_ble_eq_true rfl) rfl (Nat.le_of_ble_eq_true rfl) rfl rfl (c_Mo_placeOf_0_7 l g _ L M) rfl ?_
  refine ew_iald (j := 50) d_Mo_folds_43 rfl (rfl) (by decide) (by decide) ?_
  refine en_eq (st' := [.int (nI (fn 50)), .int (nI (fn 45)), .int (nI (j % 8)), .int (nI 1), .ref 47]) rfl (by rw [show (M 56 50) = (nI (fn 50)) from by first | exact (hfn 50 (by decide)).1 | (rw [sp_rl_ne (by decide)]; exact (hfn 50 (by decide)).1) | (rw [sp_rl_ne (by decide), sp_rl_ne (by decide)]; exact (hfn 50 (by decide)).1)]) rfl ?_
  refine en_callV (As := [.int (nI 1), .int (nI (j % 8)), .int (nI (fn 45)), .int (nI (fn 50))]) (i := 47) (ci := 9) (st := []) (st1 := [.int (nI (sp_fo 2 (j % 8) (fn 45) (fn 50) B))]) d_Mo_folds_44 k_Mo_folded rfl rfl tw_783 tw_785 tp_41 rfl (Nat.le_of_ble_eq_true rfl) rfl (Nat.le_of_ble_eq_true rfl) rfl rfl (c_Mo_folded1 l g _ L M (hR) (j % 8) (fn 45) (fn 50) B (by omega) ((hfn _ (by decide)).2) ((hfn _ (by decide)).2) (hB) (hB0)) rfl ?_
  refine en_istore (ls' := [.ref 47, .int (nI 0), .int (nI j), .int (nI 1), .int (nI 8), .int (nI (j % 8)), .int (nI (sp_fo 2 (j % 8) (fn 45) (fn 50) B))]) d_Mo_folds_47 (Nat.le_of_ble_eq_true rfl) rfl ?_
  refine ew_iload_n d_Mo_folds_49 rfl ?_
  refine ew_iconst (v := nI 2) d_Mo_folds_50 (by decide) ?_
  refine en_icmp_ne (tgt := 71) d_Mo_folds_51 (by decide) (by decide) (by decide) (fun h51 => ?_) (fun h51 => by exact absurd h51 (by decide))
  refine ew_iload d_Mo_folds_71 rfl ?_
  refine ew_aload_n d_Mo_folds_73 rfl ?_
  refine ew_getr (ci := 9) (f := 10) d_Mo_folds_74 rfl rfl rfl tw_602 ?_
  refine ew_iload_n d_Mo_folds_77 rfl ?_
  refine ew_bipush (v := nI 6) d_Mo_folds_78 (by decide) ?_
  refine ew_iconst (v := nI 2) d_Mo_folds_80 (by decide) ?_
  refine ew_iload_n d_Mo_folds_81 rfl ?_
  refine en_imul d_Mo_folds_82 ?_
  refine en_eq rfl (show _ = [.int (nI 2), .int (nI 6), .int (nI 0), .ref 56, .int (nI (sp_fo 2 (j % 8) (fn 45) (fn 50) B))] from rfl) rfl ?_
  refine en_iadd d_Mo_folds_83 ?_
  refine en_eq rfl (show _ = [.int (nI 8), .int (nI 0), .ref 56, .int (nI (sp_fo 2 (j % 8) (fn 45) (fn 50) B))] from rfl) rfl ?_
  refine ew_iload d_Mo_folds_84 rfl ?_
  refine ew_iload d_Mo_folds_86 rfl ?_
  refine ew_iconst (v := nI 2) d_Mo_folds_88 (by decide) ?_
  refine en_idiv d_Mo_folds_89 (by first | with_reducible assumption | with_reducible exact ep_lt _ | with_reducible exact sp_its_lt _ _ _ | with_reducible exact tb_l_rt _ | with_reducible exact tb_l_x _ | with_reducible exact tb_l_o0 _ | with_reducible exact tb_l_o1 _ | with_reducible exact tb_l_va _ | with_reducible exact tb_l_ll _ | with_reducible exact tb_l_cf _ | with_reducible exact tb_l_kf _ | with_reducible exact sp_ts_lt _ _ _ _ | with_reducible exact sp_w_lt _ _ | with_reducible exact sp_cs_lt _ _ _ _ _ | with_reducible exact sp_cb_lt _ _ _ _ _ | with_reducible exact sp_ch_lt _ | with_reducible exact sp_bf_lt _ _ | with_reducible exact sp_va_lt _ _ _ | with_reducible exact sp_be_lt _ _ | with_reducible exact sp_p_lt _ _ _ | with_reducible exact sp_com_lt _ _ _ _ | with_reducible exact sp_fo_lt _ _ _ _ _ | omega) (by decide) (by decide) ?_
  refine en_eq rfl (show _ = [.int (nI 4), .int (nI (j % 8)), .int (nI 8), .int (nI 0), .ref 56, .int (nI (sp_fo 2 (j % 8) (fn 45) (fn 50) B))] from rfl) rfl ?_
  refine en_icmp_lt (tgt := 97) d_Mo_folds_90 (by decide) (by omega) (by omega) (fun h90 => ?_) (fun h90 => ?_)
  · refine ew_iconst (v := nI 0) d_Mo_folds_97 (by decide) ?_
    refine en_iadd d_Mo_folds_98 ?_
    refine en_eq rfl (show _ = [.int (nI 8), .int (nI 0), .ref 56, .int (nI (sp_fo 2 (j % 8) (fn 45) (fn 50) B))] from rfl) rfl ?_
    refine en_callS (As := [.int (nI 0), .int (nI 8)]) (st := [.ref 56, .int (nI (sp_fo 2 (j % 8) (fn 45) (fn 50) B))]) (st1 := [.int (nI 55), .ref 56, .int (nI (sp_fo 2 (j % 8) (fn 45) (fn 50) B))]) d_Mo_folds_99 k_Mo_placeOf tw_819 tw_820 rfl (Nat.le_of_ble_eq_true rfl) rfl (Nat.le_of_ble_eq_true rfl) rfl rfl (c_Mo_placeOf_0_8 l g _ L M) rfl ?_
    refine ew_iald (j := 55) d_Mo_folds_102 rfl (rfl) (by decide) (by decide) ?_
    refine en_eq (st' := [.int (nI (fn 55)), .int (nI (sp_fo 2 (j % 8) (fn 45) (fn 50) B))]) rfl (by rw [show (M 56 55) = (nI (fn 55)) from by first | exact (hfn 55 (by decide)).1 | (rw [sp_rl_ne (by decide)]; exact (hfn 55 (by decide)).1) | (rw [sp_rl_ne (by decide), sp_rl_ne (by decide)]; exact (hfn 55 (by decide)).1)]) rfl ?_
    refine en_icmp_ne (tgt := 110) d_Mo_folds_103 (by decide) (by first | exact Nat.lt_trans (hfn _ (by decide)).2 (by decide) | exact Nat.lt_trans (sp_com_lt _ _ _ _) (by decide) | exact Nat.lt_trans (sp_fo_lt _ _ _ _ _) (by decide)) (by first | exact Nat.lt_trans (hfn _ (by decide)).2 (by decide) | exact Nat.lt_trans (sp_com_lt _ _ _ _) (by decide) | exact Nat.lt_trans (sp_fo_lt _ _ _ _ _) (by decide)) (fun h103 => ?_) (fun h103 => ?_)
    · refine ew_iconst (v := nI 0) d_Mo_folds_110 (by decide) ?_
      exact ew_zret d_Mo_folds_111 rfl (by decide) (⟨by rw [show decide (sp_vf01 fn j B = sp_vb01 fn j) = false from decide_eq_false (by unfold sp_vb01; rw [show j % 8 / 4 = 0 by omega]; exact h103)]; rfl, rfl, rfl⟩)
    · refine ew_iconst (v := nI 1) d_Mo_folds_106 (by decide) ?_
      refine ew_goto (tgt := 111) d_Mo_folds_107 (by decide) ?_
      exact ew_zret d_Mo_folds_111 rfl (by decide) (⟨by rw [show decide (sp_vf01 fn j B = sp_vb01 fn j) = true from decide_eq_true (by unfold sp_vb01; rw [show j % 8 / 4 = 0 by omega]; exact h103)]; rfl, rfl, rfl⟩)
  · refine ew_iconst (v := nI 1) d_Mo_folds_93 (by decide) ?_
    refine ew_goto (tgt := 98) d_Mo_folds_94 (by decide) ?_
    refine en_iadd d_Mo_folds_98 ?_
    refine en_eq rfl (show _ = [.int (nI 9), .int (nI 0), .ref 56, .int (nI (sp_fo 2 (j % 8) (fn 45) (fn 50) B))] from rfl) rfl ?_
    refine en_callS (As := [.int (nI 0), .int (nI 9)]) (st := [.ref 56, .int (nI (sp_fo 2 (j % 8) (fn 45) (fn 50) B))]) (st1 := [.int (nI 59), .ref 56, .int (nI (sp_fo 2 (j % 8) (fn 45) (fn 50) B))]) d_Mo_folds_99 k_Mo_placeOf tw_819 tw_820 rfl (Nat.le_of_ble_eq_true rfl) rfl (Nat.le_of_ble_eq_true rfl) rfl rfl (c_Mo_placeOf_0_9 l g _ L M) rfl ?_
    refine ew_iald (j := 59) d_Mo_folds_102 rfl (rfl) (by decide) (by decide) ?_
    refine en_eq (st' := [.int (nI (fn 59)), .int (nI (sp_fo 2 (j % 8) (fn 45) (fn 50) B))]) rfl (by rw [show (M 56 59) = (nI (fn 59)) from by first | exact (hfn 59 (by decide)).1 | (rw [sp_rl_ne (by decide)]; exact (hfn 59 (by decide)).1) | (rw [sp_rl_ne (by decide), sp_rl_ne (by decide)]; exact (hfn 59 (by decide)).1)]) rfl ?_
    refine en_icmp_ne (tgt := 110) d_Mo_folds_103 (by decide) (by first | exact Nat.lt_trans (hfn _ (by decide)).2 (by decide) | exact Nat.lt_trans (sp_com_lt _ _ _ _) (by decide) | exact Nat.lt_trans (sp_fo_lt _ _ _ _ _) (by decide)) (by first | exact Nat.lt_trans (hfn _ (by decide)).2 (by decide) | exact Nat.lt_trans (sp_com_lt _ _ _ _) (by decide) | exact Nat.lt_trans (sp_fo_lt _ _ _ _ _) (by decide)) (fun h103 => ?_) (fun h103 => ?_)
    · refine ew_iconst (v := nI 0) d_Mo_folds_110 (by decide) ?_
      exact ew_zret d_Mo_folds_111 rfl (by decide) (⟨by rw [show decide (sp_vf01 fn j B = sp_vb01 fn j) = false from decide_eq_false (by unfold sp_vb01; rw [show j % 8 / 4 = 1 by omega]; exact h103)]; rfl, rfl, rfl⟩)
    · refine ew_iconst (v := nI 1) d_Mo_folds_106 (by decide) ?_
      refine ew_goto (tgt := 111) d_Mo_folds_107 (by decide) ?_
      exact ew_zret d_Mo_folds_111 rfl (by decide) (⟨by rw [show decide (sp_vf01 fn j B = sp_vb01 fn j) = true from decide_eq_true (by unfold sp_vb01; rw [show j % 8 / 4 = 1 by omega]; exact h103)]; rfl, rfl, rfl⟩)
set_option maxRecDepth 100000 in
theorem c_Mo_folds02 (l : Launch) (g : ew_G) (d L : Nat) (M : ew_M) (fn : Nat → Nat) (hfn : sp_fnok (M 56) fn) (hR : sp_rts M) (B : Nat) (hB : B < 12289) (hB0 : M 57 2 = nI B) (j : Nat) (hj : j < 16) :
    Ew l g (d + 3) 0 0 m_Mo_folds 0 [.ref 47, .int (nI 0), .int (nI j), .int (nI 2), .retAddr 0, .retAddr 0, .retAddr 0] [] (ew_SH L) M (ew_q (some (.int (ew_b (decide (sp_vf02 fn j B = fn 4))))) (ew_SH L) M) := by
  refine ew_bipush (v := nI 16) d_Mo_folds_0 (by decide) ?_
  refine ew_iload_n d_Mo_folds_2 rfl ?_
  refine ew_ishr d_Mo_folds_3 ?_
  refine en_eq (st' := [.int (nI 4)]) rfl (by rw [show ((nI 16) >>> ((nI 2) &&& 31)) = (nI 4) from by decide]) rfl ?_
  refine en_istore (ls' := [.ref 47, .int (nI 0), .int (nI j), .int (nI 2), .int (nI 4), .retAddr 0, .retAddr 0]) d_Mo_folds_4 (Nat.le_of_ble_eq_true rfl) rfl ?_
  refine ew_iload_n d_Mo_folds_6 rfl ?_
  refine ew_iload d_Mo_folds_7 rfl ?_
  refine en_irem d_Mo_folds_9 (by omega) (by decide) (by decide) ?_
  refine en_istore (ls' := [.ref 47, .int (nI 0), .int (nI j), .int (nI 2), .int (nI 4), .int (nI (j % 4)), .retAddr 0]) d_Mo_folds_10 (Nat.le_of_ble_eq_true rfl) rfl ?_
  refine ew_aload_n d_Mo_folds_12 rfl ?_
  refine ew_iload_n d_Mo_folds_13 rfl ?_
  refine ew_iload d_Mo_folds_14 rfl ?_
  refine ew_aload_n d_Mo_folds_16 rfl ?_
  refine ew_getr (ci := 9) (f := 10) d_Mo_folds_17 rfl rfl rfl tw_602 ?_
  refine ew_iload_n d_Mo_folds_20 rfl ?_
  refine ew_iconst (v := nI 4) d_Mo_folds_21 (by decide) ?_
  refine ew_iconst (v := nI 2) d_Mo_folds_22 (by decide) ?_
  refine ew_iload_n d_Mo_folds_23 rfl ?_
  refine en_imul d_Mo_folds_24 ?_
  refine en_eq rfl (show _ = [.int (nI 4), .int (nI 4), .int (nI 0), .ref 56, .int (nI (j % 4)), .int (nI 2), .ref 47] from rfl) rfl ?_
  refine en_iadd d_Mo_folds_25 ?_
  refine en_eq rfl (show _ = [.int (nI 8), .int (nI 0), .ref 56, .int (nI (j % 4)), .int (nI 2), .ref 47] from rfl) rfl ?_
  refine en_callS (As := [.int (nI 0), .int (nI 8)]) (st := [.ref 56, .int (nI (j % 4)), .int (nI 2), .ref 47]) (st1 := [.int (nI 55), .ref 56, .int (nI (j % 4)), .int (nI 2), .ref 47]) d_Mo_folds_26 k_Mo_placeOf tw_819 tw_820 rfl (Nat.le_of_ble_eq_true rfl) rfl (Nat.le_of_ble_eq_true rfl) rfl rfl (c_Mo_placeOf_0_8 l g _ L M) rfl ?_
  refine ew_iald (j := 55) d_Mo_folds_29 rfl (rfl) (by decide) (by decide) ?_
  refine en_eq (st' := [.int (nI (fn 55)), .int (nI (j % 4)), .int (nI 2), .ref 47]) rfl (by rw [show (M 56 55) = (nI (fn 55)) from by first | exact (hfn 55 (by decide)).1 | (rw [sp_rl_ne (by decide)]; exact (hfn 55 (by decide)).1) | (rw [sp_rl_ne (by decide), sp_rl_ne (by decide)]; exact (hfn 55 (by decide)).1)]) rfl ?_
  refine ew_aload_n d_Mo_folds_30 rfl ?_
  refine ew_getr (ci := 9) (f := 10) d_Mo_folds_31 rfl rfl rfl tw_602 ?_
  refine ew_iload_n d_Mo_folds_34 rfl ?_
  refine ew_iconst (v := nI 5) d_Mo_folds_35 (by decide) ?_
  refine ew_iconst (v := nI 2) d_Mo_folds_36 (by decide) ?_
  refine ew_iload_n d_Mo_folds_37 rfl ?_
  refine en_imul d_Mo_folds_38 ?_
  refine en_eq rfl (show _ = [.int (nI 4), .int (nI 5), .int (nI 0), .ref 56, .int (nI (fn 55)), .int (nI (j % 4)), .int (nI 2), .ref 47] from rfl) rfl ?_
  refine en_iadd d_Mo_folds_39 ?_
  refine en_eq rfl (show _ = [.int (nI 9), .int (nI 0), .ref 56, .int (nI (fn 55)), .int (nI (j % 4)), .int (nI 2), .ref 47] from rfl) rfl ?_
  refine en_callS (As := [.int (nI 0), .int (nI 9)]) (st := [.ref 56, .int (nI (fn 55)), .int (nI (j % 4)), .int (nI 2), .ref 47]) (st1 := [.int (nI 59), .ref 56, .int (nI (fn 55)), .int (nI (j % 4)), .int (nI 2), .ref 47]) d_Mo_folds_40 k_Mo_placeOf tw_819 tw_820 rfl (Nat.le_of_ble_eq_true rfl) rfl (Nat.le_of_ble_eq_true rfl) rfl rfl (c_Mo_placeOf_0_9 l g _ L M) rfl ?_
  refine ew_iald (j := 59) d_Mo_folds_43 rfl (rfl) (by decide) (by decide) ?_
  refine en_eq (st' := [.int (nI (fn 59)), .int (nI (fn 55)), .int (nI (j % 4)), .int (nI 2), .ref 47]) rfl (by rw [show (M 56 59) = (nI (fn 59)) from by first | exact (hfn 59 (by decide)).1 | (rw [sp_rl_ne (by decide)]; exact (hfn 59 (by decide)).1) | (rw [sp_rl_ne (by decide), sp_rl_ne (by decide)]; exact (hfn 59 (by decide)).1)]) rfl ?_
  refine en_callV (As := [.int (nI 2), .int (nI (j % 4)), .int (nI (fn 55)), .int (nI (fn 59))]) (i := 47) (ci := 9) (st := []) (st1 := [.int (nI (sp_fo 4 (j % 4) (fn 55) (fn 59) B))]) d_Mo_folds_44 k_Mo_folded rfl rfl tw_783 tw_785 tp_41 rfl (Nat.le_of_ble_eq_true rfl) rfl (Nat.le_of_ble_eq_true rfl) rfl rfl (c_Mo_folded2 l g _ L M (hR) (j % 4) (fn 55) (fn 59) B (by omega) ((hfn _ (by decide)).2) ((hfn _ (by decide)).2) (hB) (hB0)) rfl ?_
  refine en_istore (ls' := [.ref 47, .int (nI 0), .int (nI j), .int (nI 2), .int (nI 4), .int (nI (j % 4)), .int (nI (sp_fo 4 (j % 4) (fn 55) (fn 59) B))]) d_Mo_folds_47 (Nat.le_of_ble_eq_true rfl) rfl ?_
  refine ew_iload_n d_Mo_folds_49 rfl ?_
  refine ew_iconst (v := nI 2) d_Mo_folds_50 (by decide) ?_
  refine en_icmp_ne (tgt := 71) d_Mo_folds_51 (by decide) (by decide) (by decide) (fun h51 => by exact absurd h51 (by decide)) (fun h51 => ?_)
  refine ew_iload d_Mo_folds_54 rfl ?_
  refine ew_aload_n d_Mo_folds_56 rfl ?_
  refine ew_getr (ci := 9) (f := 10) d_Mo_folds_57 rfl rfl rfl tw_602 ?_
  refine ew_iconst (v := nI 4) d_Mo_folds_60 (by decide) ?_
  refine ew_iald (j := 4) d_Mo_folds_61 rfl (rfl) (by decide) (by decide) ?_
  refine en_eq (st' := [.int (nI (fn 4)), .int (nI (sp_fo 4 (j % 4) (fn 55) (fn 59) B))]) rfl (by rw [show (M 56 4) = (nI (fn 4)) from by first | exact (hfn 4 (by decide)).1 | (rw [sp_rl_ne (by decide)]; exact (hfn 4 (by decide)).1) | (rw [sp_rl_ne (by decide), sp_rl_ne (by decide)]; exact (hfn 4 (by decide)).1)]) rfl ?_
  refine en_icmp_ne (tgt := 69) d_Mo_folds_62 (by decide) (by first | exact Nat.lt_trans (hfn _ (by decide)).2 (by decide) | exact Nat.lt_trans (sp_com_lt _ _ _ _) (by decide) | exact Nat.lt_trans (sp_fo_lt _ _ _ _ _) (by decide)) (by first | exact Nat.lt_trans (hfn _ (by decide)).2 (by decide) | exact Nat.lt_trans (sp_com_lt _ _ _ _) (by decide) | exact Nat.lt_trans (sp_fo_lt _ _ _ _ _) (by decide)) (fun h62 => ?_) (fun h62 => ?_)
  · refine ew_iconst (v := nI 0) d_Mo_folds_69 (by decide) ?_
    exact ew_zret d_Mo_folds_70 rfl (by decide) (⟨by rw [show decide (sp_vf02 fn j B = fn 4) = false from decide_eq_false h62]; rfl, rfl, rfl⟩)
  · refine ew_iconst (v := nI 1) d_Mo_folds_65 (by decide) ?_
    refine ew_goto (tgt := 70) d_Mo_folds_66 (by decide) ?_
    exact ew_zret d_Mo_folds_70 rfl (by decide) (⟨by rw [show decide (sp_vf02 fn j B = fn 4) = true from decide_eq_true h62]; rfl, rfl, rfl⟩)
set_option maxRecDepth 100000 in
theorem c_Mo_composes1 (l : Launch) (g : ew_G) (d L : Nat) (M : ew_M) (ρ : sp_R) (hr : sp_rm ρ M) (fn : Nat → Nat) (hfn : sp_fnok (M 56) fn) (hR : sp_rts M) (A : Nat) (hA : A < 12289) (hA0 : M 47 14 = nI A) (j : Nat) (hj : j < 16) :
    Ew l g (d + 3) 0 0 m_Mo_composes 0 [.ref 47, .int (nI 1), .int (nI j), .retAddr 0, .retAddr 0, .retAddr 0, .retAddr 0] [] (ew_SH L) M (sp_mq L M (ew_b (sp_vo1 ρ fn j A 0 && sp_vo1 ρ fn j A 1))) := by
  refine ew_iconst (v := nI 1) d_Mo_composes_0 (by decide) ?_
  refine en_istore_n (ls' := [.ref 47, .int (nI 1), .int (nI j), .int (nI 1), .retAddr 0, .retAddr 0, .retAddr 0]) d_Mo_composes_1 (Nat.le_of_ble_eq_true rfl) rfl ?_
  refine ew_iconst (v := nI 0) d_Mo_composes_2 (by decide) ?_
  refine en_istore (ls' := [.ref 47, .int (nI 1), .int (nI j), .int (nI 1), .int (nI 0), .retAddr 0, .retAddr 0]) d_Mo_composes_3 (Nat.le_of_ble_eq_true rfl) rfl ?_
  refine ew_iload d_Mo_composes_5 rfl ?_
  refine ew_iconst (v := nI 2) d_Mo_composes_7 (by decide) ?_
  refine en_icmp_ge (tgt := 115) d_Mo_composes_8 (by decide) (by decide) (by decide) (fun h8 => by exact absurd h8 (by decide)) (fun h8 => ?_)
  refine ew_iload_n d_Mo_composes_11 rfl ?_
  refine ew_iconst (v := nI 2) d_Mo_composes_12 (by decide) ?_
  refine ew_iload d_Mo_composes_13 rfl ?_
  refine en_imul d_Mo_composes_15 ?_
  refine en_eq rfl (show _ = [.int (nI 0), .int (nI 1)] from rfl) rfl ?_
  refine en_callS (As := [.int (nI 1), .int (nI 0)]) (st := []) (st1 := [.int (nI 63)]) d_Mo_composes_16 k_Mo_placeOf tw_819 tw_820 rfl (Nat.le_of_ble_eq_true rfl) rfl (Nat.le_of_ble_eq_true rfl) rfl rfl (c_Mo_placeOf_1_0 l g _ L M) rfl ?_
  refine en_istore (ls' := [.ref 47, .int (nI 1), .int (nI j), .int (nI 1), .int (nI 0), .int (nI 63), .retAddr 0]) d_Mo_composes_19 (Nat.le_of_ble_eq_true rfl) rfl ?_
  refine ew_iload_n d_Mo_composes_21 rfl ?_
  refine ew_iconst (v := nI 2) d_Mo_composes_22 (by decide) ?_
  refine ew_iload d_Mo_composes_23 rfl ?_
  refine en_imul d_Mo_composes_25 ?_
  refine en_eq rfl (show _ = [.int (nI 0), .int (nI 1)] from rfl) rfl ?_
  refine ew_iconst (v := nI 1) d_Mo_composes_26 (by decide) ?_
  refine en_iadd d_Mo_composes_27 ?_
  refine en_eq rfl (show _ = [.int (nI 1), .int (nI 1)] from rfl) rfl ?_
  refine en_callS (As := [.int (nI 1), .int (nI 1)]) (st := []) (st1 := [.int (nI 70)]) d_Mo_composes_28 k_Mo_placeOf tw_819 tw_820 rfl (Nat.le_of_ble_eq_true rfl) rfl (Nat.le_of_ble_eq_true rfl) rfl rfl (c_Mo_placeOf_1_1 l g _ L M) rfl ?_
  refine en_istore (ls' := [.ref 47, .int (nI 1), .int (nI j), .int (nI 1), .int (nI 0), .int (nI 63), .int (nI 70)]) d_Mo_composes_31 (Nat.le_of_ble_eq_true rfl) rfl ?_
  refine ew_aload_n d_Mo_composes_33 rfl ?_
  refine ew_aload_n d_Mo_composes_34 rfl ?_
  refine ew_getr (ci := 9) (f := 10) d_Mo_composes_35 rfl rfl rfl tw_602 ?_
  refine ew_iload d_Mo_composes_38 rfl ?_
  refine ew_iald (j := 63) d_Mo_composes_40 rfl (rfl) (by decide) (by decide) ?_
  refine en_eq (st' := [.int (nI (fn 63)), .ref 47]) rfl (by rw [show (M 56 63) = (nI (fn 63)) from by first | exact (hfn 63 (by decide)).1 | (rw [sp_rl_ne (by decide)]; exact (hfn 63 (by decide)).1) | (rw [sp_rl_ne (by decide), sp_rl_ne (by decide)]; exact (hfn 63 (by decide)).1)]) rfl ?_
  refine ew_aload_n d_Mo_composes_41 rfl ?_
  refine ew_getr (ci := 9) (f := 10) d_Mo_composes_42 rfl rfl rfl tw_602 ?_
  refine ew_iload d_Mo_composes_45 rfl ?_
  refine ew_iconst (v := nI 1) d_Mo_composes_47 (by decide) ?_
  refine en_iadd d_Mo_composes_48 ?_
  refine en_eq rfl (show _ = [.int (nI 64), .ref 56, .int (nI (fn 63)), .ref 47] from rfl) rfl ?_
  refine ew_iald (j := 64) d_Mo_composes_49 rfl (rfl) (by decide) (by decide) ?_
  refine en_eq (st' := [.int (nI (fn 64)), .int (nI (fn 63)), .ref 47]) rfl (by rw [show (M 56 64) = (nI (fn 64)) from by first | exact (hfn 64 (by decide)).1 | (rw [sp_rl_ne (by decide)]; exact (hfn 64 (by decide)).1) | (rw [sp_rl_ne (by decide), sp_rl_ne (by decide)]; exact (hfn 64 (by decide)).1)]) rfl ?_
  refine ew_aload_n d_Mo_composes_50 rfl ?_
  refine ew_getr (ci := 9) (f := 10) d_Mo_composes_51 rfl rfl rfl tw_602 ?_
  refine ew_iload d_Mo_composes_54 rfl ?_
  refine ew_iald (j := 70) d_Mo_composes_56 rfl (rfl) (by decide) (by decide) ?_
  refine en_eq (st' := [.int (nI (fn 70)), .int (nI (fn 64)), .int (nI (fn 63)), .ref 47]) rfl (by rw [show (M 56 70) = (nI (fn 70)) from by first | exact (hfn 70 (by decide)).1 | (rw [sp_rl_ne (by decide)]; exact (hfn 70 (by decide)).1) | (rw [sp_rl_ne (by decide), sp_rl_ne (by decide)]; exact (hfn 70 (by decide)).1)]) rfl ?_
  refine ew_aload_n d_Mo_composes_57 rfl ?_
  refine ew_getr (ci := 9) (f := 10) d_Mo_composes_58 rfl rfl rfl tw_602 ?_
  refine ew_iload d_Mo_composes_61 rfl ?_
  refine ew_iconst (v := nI 1) d_Mo_composes_63 (by decide) ?_
  refine en_iadd d_Mo_composes_64 ?_
  refine en_eq rfl (show _ = [.int (nI 71), .ref 56, .int (nI (fn 70)), .int (nI (fn 64)), .int (nI (fn 63)), .ref 47] from rfl) rfl ?_
  refine ew_iald (j := 71) d_Mo_composes_65 rfl (rfl) (by decide) (by decide) ?_
  refine en_eq (st' := [.int (nI (fn 71)), .int (nI (fn 70)), .int (nI (fn 64)), .int (nI (fn 63)), .ref 47]) rfl (by rw [show (M 56 71) = (nI (fn 71)) from by first | exact (hfn 71 (by decide)).1 | (rw [sp_rl_ne (by decide)]; exact (hfn 71 (by decide)).1) | (rw [sp_rl_ne (by decide), sp_rl_ne (by decide)]; exact (hfn 71 (by decide)).1)]) rfl ?_
  refine en_callV (As := [.int (nI (fn 63)), .int (nI (fn 64)), .int (nI (fn 70)), .int (nI (fn 71))]) (i := 47) (ci := 9) (st := []) (st1 := []) d_Mo_composes_66 k_Mo_letters rfl rfl tw_727 tw_729 tp_32 rfl (Nat.le_of_ble_eq_true rfl) rfl (Nat.le_of_ble_eq_true rfl) rfl rfl (c_Mo_letters l g _ L M (nI (fn 63)) (nI (fn 64)) (nI (fn 70)) (nI (fn 71))) rfl ?_
  refine ew_iload_n d_Mo_composes_69 rfl ?_
  refine en_if_eq (tgt := 107) d_Mo_composes_70 (by decide) (by decide) (fun h70 => by exact absurd h70 (by decide)) (fun h70 => ?_)
  refine ew_aload_n d_Mo_composes_73 rfl ?_
  refine ew_getr (ci := 9) (f := 10) d_Mo_composes_74 rfl rfl rfl tw_602 ?_
  refine ew_iload_n d_Mo_composes_77 rfl ?_
  refine ew_iconst (v := nI 4) d_Mo_composes_78 (by decide) ?_
  refine ew_iload d_Mo_composes_79 rfl ?_
  refine en_iadd d_Mo_composes_81 ?_
  refine en_eq rfl (show _ = [.int (nI 4), .int (nI 1), .ref 56] from rfl) rfl ?_
  refine en_callS (As := [.int (nI 1), .int (nI 4)]) (st := [.ref 56]) (st1 := [.int (nI 91), .ref 56]) d_Mo_composes_82 k_Mo_placeOf tw_819 tw_820 rfl (Nat.le_of_ble_eq_true rfl) rfl (Nat.le_of_ble_eq_true rfl) rfl rfl (c_Mo_placeOf_1_4 l g _ L (sp_rl M (nI (fn 63)) (nI (fn 64)) (nI (fn 70)) (nI (fn 71)))) rfl ?_
  refine ew_iald (j := 91) d_Mo_composes_85 rfl (rfl) (by decide) (by decide) ?_
  refine en_eq (st' := [.int (nI (fn 91))]) rfl (by rw [show ((sp_rl M (nI (fn 63)) (nI (fn 64)) (nI (fn 70)) (nI (fn 71))) 56 91) = (nI (fn 91)) from by first | exact (hfn 91 (by decide)).1 | (rw [sp_rl_ne (by decide)]; exact (hfn 91 (by decide)).1) | (rw [sp_rl_ne (by decide), sp_rl_ne (by decide)]; exact (hfn 91 (by decide)).1)]) rfl ?_
  refine ew_aload_n d_Mo_composes_86 rfl ?_
  refine ew_iload_n d_Mo_composes_87 rfl ?_
  refine ew_bipush (v := nI 16) d_Mo_composes_88 (by decide) ?_
  refine ew_iload d_Mo_composes_90 rfl ?_
  refine en_imul d_Mo_composes_92 ?_
  refine en_eq rfl (show _ = [.int (nI 0), .int (nI j), .ref 47, .int (nI (fn 91))] from rfl) rfl ?_
  refine en_iadd d_Mo_composes_93 ?_
  refine ew_bipush (v := nI 32) d_Mo_composes_94 (by decide) ?_
  refine en_irem d_Mo_composes_96 (by omega) (by decide) (by decide) ?_
  refine en_eq (st' := [.int (nI (j % 16 + 16 * 0)), .ref 47, .int (nI (fn 91))]) rfl (by rw [show (nI ((j + 0) % 32)) = (nI (j % 16 + 16 * 0)) from congrArg nI (by omega)]) rfl ?_
  refine en_callV (As := [.int (nI (j % 16 + 16 * 0))]) (i := 47) (ci := 9) (st := [.int (nI (fn 91))]) (st1 := [.int (nI (sp_com ρ (sp_le (fn 63) (fn 64) (fn 70) (fn 71)) (j % 16 + 16 * 0) A)), .int (nI (fn 91))]) d_Mo_composes_97 k_Mo_composition rfl rfl tw_775 tw_777 tp_39 rfl (Nat.le_of_ble_eq_true rfl) rfl (Nat.le_of_ble_eq_true rfl) rfl rfl (c_Mo_composition l g _ L (sp_rl M (nI (fn 63)) (nI (fn 64)) (nI (fn 70)) (nI (fn 71))) ρ (sp_rm_rl hr) (sp_le (fn 63) (fn 64) (fn 70) (fn 71)) (sp_rl_le (hfn 63 (by decide)).2 (hfn 64 (by decide)).2 (hfn 70 (by decide)).2 (hfn 71 (by decide)).2) (sp_rts_of hR (by rw [sp_rl_ne (by decide)])) (j % 16 + 16 * 0) A (by omega) hA (by rw [sp_rl_ne (by decide)]; exact hA0)) rfl ?_
  refine en_icmp_ne (tgt := 107) d_Mo_composes_100 (by decide) (by first | exact Nat.lt_trans (hfn _ (by decide)).2 (by decide) | exact Nat.lt_trans (sp_com_lt _ _ _ _) (by decide) | exact Nat.lt_trans (sp_fo_lt _ _ _ _ _) (by decide)) (by first | exact Nat.lt_trans (hfn _ (by decide)).2 (by decide) | exact Nat.lt_trans (sp_com_lt _ _ _ _) (by decide) | exact Nat.lt_trans (sp_fo_lt _ _ _ _ _) (by decide)) (fun h100 => ?_) (fun h100 => ?_)
  · refine ew_iconst (v := nI 0) d_Mo_composes_107 (by decide) ?_
    refine en_istore_n (ls' := [.ref 47, .int (nI 1), .int (nI j), .int (nI 0), .int (nI 0), .int (nI 63), .int (nI 70)]) d_Mo_composes_108 (Nat.le_of_ble_eq_true rfl) rfl ?_
    refine en_inc (ls' := [.ref 47, .int (nI 1), .int (nI j), .int (nI 0), .int (nI 1), .int (nI 63), .int (nI 70)]) d_Mo_composes_109 rfl rfl ?_
    refine ew_goto (tgt := 5) d_Mo_composes_112 (by decide) ?_
    refine ew_iload d_Mo_composes_5 rfl ?_
    refine ew_iconst (v := nI 2) d_Mo_composes_7 (by decide) ?_
    refine en_icmp_ge (tgt := 115) d_Mo_composes_8 (by decide) (by decide) (by decide) (fun h8_1 => by exact absurd h8_1 (by decide)) (fun h8_1 => ?_)
    refine ew_iload_n d_Mo_composes_11 rfl ?_
    refine ew_iconst (v := nI 2) d_Mo_composes_12 (by decide) ?_
    refine ew_iload d_Mo_composes_13 rfl ?_
    refine en_imul d_Mo_composes_15 ?_
    refine en_eq rfl (show _ = [.int (nI 2), .int (nI 1)] from rfl) rfl ?_
    refine en_callS (As := [.int (nI 1), .int (nI 2)]) (st := []) (st1 := [.int (nI 77)]) d_Mo_composes_16 k_Mo_placeOf tw_819 tw_820 rfl (Nat.le_of_ble_eq_true rfl) rfl (Nat.le_of_ble_eq_true rfl) rfl rfl (c_Mo_placeOf_1_2 l g _ L (sp_rl M (nI (fn 63)) (nI (fn 64)) (nI (fn 70)) (nI (fn 71)))) rfl ?_
    refine en_istore (ls' := [.ref 47, .int (nI 1), .int (nI j), .int (nI 0), .int (nI 1), .int (nI 77), .int (nI 70)]) d_Mo_composes_19 (Nat.le_of_ble_eq_true rfl) rfl ?_
    refine ew_iload_n d_Mo_composes_21 rfl ?_
    refine ew_iconst (v := nI 2) d_Mo_composes_22 (by decide) ?_
    refine ew_iload d_Mo_composes_23 rfl ?_
    refine en_imul d_Mo_composes_25 ?_
    refine en_eq rfl (show _ = [.int (nI 2), .int (nI 1)] from rfl) rfl ?_
    refine ew_iconst (v := nI 1) d_Mo_composes_26 (by decide) ?_
    refine en_iadd d_Mo_composes_27 ?_
    refine en_eq rfl (show _ = [.int (nI 3), .int (nI 1)] from rfl) rfl ?_
    refine en_callS (As := [.int (nI 1), .int (nI 3)]) (st := []) (st1 := [.int (nI 84)]) d_Mo_composes_28 k_Mo_placeOf tw_819 tw_820 rfl (Nat.le_of_ble_eq_true rfl) rfl (Nat.le_of_ble_eq_true rfl) rfl rfl (c_Mo_placeOf_1_3 l g _ L (sp_rl M (nI (fn 63)) (nI (fn 64)) (nI (fn 70)) (nI (fn 71)))) rfl ?_
    refine en_istore (ls' := [.ref 47, .int (nI 1), .int (nI j), .int (nI 0), .int (nI 1), .int (nI 77), .int (nI 84)]) d_Mo_composes_31 (Nat.le_of_ble_eq_true rfl) rfl ?_
    refine ew_aload_n d_Mo_composes_33 rfl ?_
    refine ew_aload_n d_Mo_composes_34 rfl ?_
    refine ew_getr (ci := 9) (f := 10) d_Mo_composes_35 rfl rfl rfl tw_602 ?_
    refine ew_iload d_Mo_composes_38 rfl ?_
    refine ew_iald (j := 77) d_Mo_composes_40 rfl (rfl) (by decide) (by decide) ?_
    refine en_eq (st' := [.int (nI (fn 77)), .ref 47]) rfl (by rw [show ((sp_rl M (nI (fn 63)) (nI (fn 64)) (nI (fn 70)) (nI (fn 71))) 56 77) = (nI (fn 77)) from by first | exact (hfn 77 (by decide)).1 | (rw [sp_rl_ne (by decide)]; exact (hfn 77 (by decide)).1) | (rw [sp_rl_ne (by decide), sp_rl_ne (by decide)]; exact (hfn 77 (by decide)).1)]) rfl ?_
    refine ew_aload_n d_Mo_composes_41 rfl ?_
    refine ew_getr (ci := 9) (f := 10) d_Mo_composes_42 rfl rfl rfl tw_602 ?_
    refine ew_iload d_Mo_composes_45 rfl ?_
    refine ew_iconst (v := nI 1) d_Mo_composes_47 (by decide) ?_
    refine en_iadd d_Mo_composes_48 ?_
    refine en_eq rfl (show _ = [.int (nI 78), .ref 56, .int (nI (fn 77)), .ref 47] from rfl) rfl ?_
    refine ew_iald (j := 78) d_Mo_composes_49 rfl (rfl) (by decide) (by decide) ?_
    refine en_eq (st' := [.int (nI (fn 78)), .int (nI (fn 77)), .ref 47]) rfl (by rw [show ((sp_rl M (nI (fn 63)) (nI (fn 64)) (nI (fn 70)) (nI (fn 71))) 56 78) = (nI (fn 78)) from by first | exact (hfn 78 (by decide)).1 | (rw [sp_rl_ne (by decide)]; exact (hfn 78 (by decide)).1) | (rw [sp_rl_ne (by decide), sp_rl_ne (by decide)]; exact (hfn 78 (by decide)).1)]) rfl ?_
    refine ew_aload_n d_Mo_composes_50 rfl ?_
    refine ew_getr (ci := 9) (f := 10) d_Mo_composes_51 rfl rfl rfl tw_602 ?_
    refine ew_iload d_Mo_composes_54 rfl ?_
    refine ew_iald (j := 84) d_Mo_composes_56 rfl (rfl) (by decide) (by decide) ?_
    refine en_eq (st' := [.int (nI (fn 84)), .int (nI (fn 78)), .int (nI (fn 77)), .ref 47]) rfl (by rw [show ((sp_rl M (nI (fn 63)) (nI (fn 64)) (nI (fn 70)) (nI (fn 71))) 56 84) = (nI (fn 84)) from by first | exact (hfn 84 (by decide)).1 | (rw [sp_rl_ne (by decide)]; exact (hfn 84 (by decide)).1) | (rw [sp_rl_ne (by decide), sp_rl_ne (by decide)]; exact (hfn 84 (by decide)).1)]) rfl ?_
    refine ew_aload_n d_Mo_composes_57 rfl ?_
    refine ew_getr (ci := 9) (f := 10) d_Mo_composes_58 rfl rfl rfl tw_602 ?_
    refine ew_iload d_Mo_composes_61 rfl ?_
    refine ew_iconst (v := nI 1) d_Mo_composes_63 (by decide) ?_
    refine en_iadd d_Mo_composes_64 ?_
    refine en_eq rfl (show _ = [.int (nI 85), .ref 56, .int (nI (fn 84)), .int (nI (fn 78)), .int (nI (fn 77)), .ref 47] from rfl) rfl ?_
    refine ew_iald (j := 85) d_Mo_composes_65 rfl (rfl) (by decide) (by decide) ?_
    refine en_eq (st' := [.int (nI (fn 85)), .int (nI (fn 84)), .int (nI (fn 78)), .int (nI (fn 77)), .ref 47]) rfl (by rw [show ((sp_rl M (nI (fn 63)) (nI (fn 64)) (nI (fn 70)) (nI (fn 71))) 56 85) = (nI (fn 85)) from by first | exact (hfn 85 (by decide)).1 | (rw [sp_rl_ne (by decide)]; exact (hfn 85 (by decide)).1) | (rw [sp_rl_ne (by decide), sp_rl_ne (by decide)]; exact (hfn 85 (by decide)).1)]) rfl ?_
    refine en_callV (As := [.int (nI (fn 77)), .int (nI (fn 78)), .int (nI (fn 84)), .int (nI (fn 85))]) (i := 47) (ci := 9) (st := []) (st1 := []) d_Mo_composes_66 k_Mo_letters rfl rfl tw_727 tw_729 tp_32 rfl (Nat.le_of_ble_eq_true rfl) rfl (Nat.le_of_ble_eq_true rfl) rfl rfl (c_Mo_letters l g _ L (sp_rl M (nI (fn 63)) (nI (fn 64)) (nI (fn 70)) (nI (fn 71))) (nI (fn 77)) (nI (fn 78)) (nI (fn 84)) (nI (fn 85))) rfl ?_
    refine ew_iload_n d_Mo_composes_69 rfl ?_
    refine en_if_eq (tgt := 107) d_Mo_composes_70 (by decide) (by decide) (fun h70_1 => ?_) (fun h70_1 => by exact absurd h70_1 (by decide))
    refine ew_iconst (v := nI 0) d_Mo_composes_107 (by decide) ?_
    refine en_istore_n (ls' := [.ref 47, .int (nI 1), .int (nI j), .int (nI 0), .int (nI 1), .int (nI 77), .int (nI 84)]) d_Mo_composes_108 (Nat.le_of_ble_eq_true rfl) rfl ?_
    refine en_inc (ls' := [.ref 47, .int (nI 1), .int (nI j), .int (nI 0), .int (nI 2), .int (nI 77), .int (nI 84)]) d_Mo_composes_109 rfl rfl ?_
    refine ew_goto (tgt := 5) d_Mo_composes_112 (by decide) ?_
    refine ew_iload d_Mo_composes_5 rfl ?_
    refine ew_iconst (v := nI 2) d_Mo_composes_7 (by decide) ?_
    refine en_icmp_ge (tgt := 115) d_Mo_composes_8 (by decide) (by decide) (by decide) (fun h8_2 => ?_) (fun h8_2 => by exact absurd h8_2 (by decide))
    refine ew_iload_n d_Mo_composes_115 rfl ?_
    exact ew_zret d_Mo_composes_116 rfl (by decide) (⟨rfl, by rw [show (sp_vo1 ρ fn j A 0 && sp_vo1 ρ fn j A 1) = false from by rw [show sp_vo1 ρ fn j A 0 = false from decide_eq_false (fun q => h100 q.symm), Bool.false_and]]; rfl, fun q hq => by rw [sp_rl_ne hq, sp_rl_ne hq]⟩)
  · refine ew_iconst (v := nI 1) d_Mo_composes_103 (by decide) ?_
    refine ew_goto (tgt := 108) d_Mo_composes_104 (by decide) ?_
    refine en_istore_n (ls' := [.ref 47, .int (nI 1), .int (nI j), .int (nI 1), .int (nI 0), .int (nI 63), .int (nI 70)]) d_Mo_composes_108 (Nat.le_of_ble_eq_true rfl) rfl ?_
    refine en_inc (ls' := [.ref 47, .int (nI 1), .int (nI j), .int (nI 1), .int (nI 1), .int (nI 63), .int (nI 70)]) d_Mo_composes_109 rfl rfl ?_
    refine ew_goto (tgt := 5) d_Mo_composes_112 (by decide) ?_
    refine ew_iload d_Mo_composes_5 rfl ?_
    refine ew_iconst (v := nI 2) d_Mo_composes_7 (by decide) ?_
    refine en_icmp_ge (tgt := 115) d_Mo_composes_8 (by decide) (by decide) (by decide) (fun h8_1 => by exact absurd h8_1 (by decide)) (fun h8_1 => ?_)
    refine ew_iload_n d_Mo_composes_11 rfl ?_
    refine ew_iconst (v := nI 2) d_Mo_composes_12 (by decide) ?_
    refine ew_iload d_Mo_composes_13 rfl ?_
    refine en_imul d_Mo_composes_15 ?_
    refine en_eq rfl (show _ = [.int (nI 2), .int (nI 1)] from rfl) rfl ?_
    refine en_callS (As := [.int (nI 1), .int (nI 2)]) (st := []) (st1 := [.int (nI 77)]) d_Mo_composes_16 k_Mo_placeOf tw_819 tw_820 rfl (Nat.le_of_ble_eq_true rfl) rfl (Nat.le_of_ble_eq_true rfl) rfl rfl (c_Mo_placeOf_1_2 l g _ L (sp_rl M (nI (fn 63)) (nI (fn 64)) (nI (fn 70)) (nI (fn 71)))) rfl ?_
    refine en_istore (ls' := [.ref 47, .int (nI 1), .int (nI j), .int (nI 1), .int (nI 1), .int (nI 77), .int (nI 70)]) d_Mo_composes_19 (Nat.le_of_ble_eq_true rfl) rfl ?_
    refine ew_iload_n d_Mo_composes_21 rfl ?_
    refine ew_iconst (v := nI 2) d_Mo_composes_22 (by decide) ?_
    refine ew_iload d_Mo_composes_23 rfl ?_
    refine en_imul d_Mo_composes_25 ?_
    refine en_eq rfl (show _ = [.int (nI 2), .int (nI 1)] from rfl) rfl ?_
    refine ew_iconst (v := nI 1) d_Mo_composes_26 (by decide) ?_
    refine en_iadd d_Mo_composes_27 ?_
    refine en_eq rfl (show _ = [.int (nI 3), .int (nI 1)] from rfl) rfl ?_
    refine en_callS (As := [.int (nI 1), .int (nI 3)]) (st := []) (st1 := [.int (nI 84)]) d_Mo_composes_28 k_Mo_placeOf tw_819 tw_820 rfl (Nat.le_of_ble_eq_true rfl) rfl (Nat.le_of_ble_eq_true rfl) rfl rfl (c_Mo_placeOf_1_3 l g _ L (sp_rl M (nI (fn 63)) (nI (fn 64)) (nI (fn 70)) (nI (fn 71)))) rfl ?_
    refine en_istore (ls' := [.ref 47, .int (nI 1), .int (nI j), .int (nI 1), .int (nI 1), .int (nI 77), .int (nI 84)]) d_Mo_composes_31 (Nat.le_of_ble_eq_true rfl) rfl ?_
    refine ew_aload_n d_Mo_composes_33 rfl ?_
    refine ew_aload_n d_Mo_composes_34 rfl ?_
    refine ew_getr (ci := 9) (f := 10) d_Mo_composes_35 rfl rfl rfl tw_602 ?_
    refine ew_iload d_Mo_composes_38 rfl ?_
    refine ew_iald (j := 77) d_Mo_composes_40 rfl (rfl) (by decide) (by decide) ?_
    refine en_eq (st' := [.int (nI (fn 77)), .ref 47]) rfl (by rw [show ((sp_rl M (nI (fn 63)) (nI (fn 64)) (nI (fn 70)) (nI (fn 71))) 56 77) = (nI (fn 77)) from by first | exact (hfn 77 (by decide)).1 | (rw [sp_rl_ne (by decide)]; exact (hfn 77 (by decide)).1) | (rw [sp_rl_ne (by decide), sp_rl_ne (by decide)]; exact (hfn 77 (by decide)).1)]) rfl ?_
    refine ew_aload_n d_Mo_composes_41 rfl ?_
    refine ew_getr (ci := 9) (f := 10) d_Mo_composes_42 rfl rfl rfl tw_602 ?_
    refine ew_iload d_Mo_composes_45 rfl ?_
    refine ew_iconst (v := nI 1) d_Mo_composes_47 (by decide) ?_
    refine en_iadd d_Mo_composes_48 ?_
    refine en_eq rfl (show _ = [.int (nI 78), .ref 56, .int (nI (fn 77)), .ref 47] from rfl) rfl ?_
    refine ew_iald (j := 78) d_Mo_composes_49 rfl (rfl) (by decide) (by decide) ?_
    refine en_eq (st' := [.int (nI (fn 78)), .int (nI (fn 77)), .ref 47]) rfl (by rw [show ((sp_rl M (nI (fn 63)) (nI (fn 64)) (nI (fn 70)) (nI (fn 71))) 56 78) = (nI (fn 78)) from by first | exact (hfn 78 (by decide)).1 | (rw [sp_rl_ne (by decide)]; exact (hfn 78 (by decide)).1) | (rw [sp_rl_ne (by decide), sp_rl_ne (by decide)]; exact (hfn 78 (by decide)).1)]) rfl ?_
    refine ew_aload_n d_Mo_composes_50 rfl ?_
    refine ew_getr (ci := 9) (f := 10) d_Mo_composes_51 rfl rfl rfl tw_602 ?_
    refine ew_iload d_Mo_composes_54 rfl ?_
    refine ew_iald (j := 84) d_Mo_composes_56 rfl (rfl) (by decide) (by decide) ?_
    refine en_eq (st' := [.int (nI (fn 84)), .int (nI (fn 78)), .int (nI (fn 77)), .ref 47]) rfl (by rw [show ((sp_rl M (nI (fn 63)) (nI (fn 64)) (nI (fn 70)) (nI (fn 71))) 56 84) = (nI (fn 84)) from by first | exact (hfn 84 (by decide)).1 | (rw [sp_rl_ne (by decide)]; exact (hfn 84 (by decide)).1) | (rw [sp_rl_ne (by decide), sp_rl_ne (by decide)]; exact (hfn 84 (by decide)).1)]) rfl ?_
    refine ew_aload_n d_Mo_composes_57 rfl ?_
    refine ew_getr (ci := 9) (f := 10) d_Mo_composes_58 rfl rfl rfl tw_602 ?_
    refine ew_iload d_Mo_composes_61 rfl ?_
    refine ew_iconst (v := nI 1) d_Mo_composes_63 (by decide) ?_
    refine en_iadd d_Mo_composes_64 ?_
    refine en_eq rfl (show _ = [.int (nI 85), .ref 56, .int (nI (fn 84)), .int (nI (fn 78)), .int (nI (fn 77)), .ref 47] from rfl) rfl ?_
    refine ew_iald (j := 85) d_Mo_composes_65 rfl (rfl) (by decide) (by decide) ?_
    refine en_eq (st' := [.int (nI (fn 85)), .int (nI (fn 84)), .int (nI (fn 78)), .int (nI (fn 77)), .ref 47]) rfl (by rw [show ((sp_rl M (nI (fn 63)) (nI (fn 64)) (nI (fn 70)) (nI (fn 71))) 56 85) = (nI (fn 85)) from by first | exact (hfn 85 (by decide)).1 | (rw [sp_rl_ne (by decide)]; exact (hfn 85 (by decide)).1) | (rw [sp_rl_ne (by decide), sp_rl_ne (by decide)]; exact (hfn 85 (by decide)).1)]) rfl ?_
    refine en_callV (As := [.int (nI (fn 77)), .int (nI (fn 78)), .int (nI (fn 84)), .int (nI (fn 85))]) (i := 47) (ci := 9) (st := []) (st1 := []) d_Mo_composes_66 k_Mo_letters rfl rfl tw_727 tw_729 tp_32 rfl (Nat.le_of_ble_eq_true rfl) rfl (Nat.le_of_ble_eq_true rfl) rfl rfl (c_Mo_letters l g _ L (sp_rl M (nI (fn 63)) (nI (fn 64)) (nI (fn 70)) (nI (fn 71))) (nI (fn 77)) (nI (fn 78)) (nI (fn 84)) (nI (fn 85))) rfl ?_
    refine ew_iload_n d_Mo_composes_69 rfl ?_
    refine en_if_eq (tgt := 107) d_Mo_composes_70 (by decide) (by decide) (fun h70_1 => by exact absurd h70_1 (by decide)) (fun h70_1 => ?_)
    refine ew_aload_n d_Mo_composes_73 rfl ?_
    refine ew_getr (ci := 9) (f := 10) d_Mo_composes_74 rfl rfl rfl tw_602 ?_
    refine ew_iload_n d_Mo_composes_77 rfl ?_
    refine ew_iconst (v := nI 4) d_Mo_composes_78 (by decide) ?_
    refine ew_iload d_Mo_composes_79 rfl ?_
    refine en_iadd d_Mo_composes_81 ?_
    refine en_eq rfl (show _ = [.int (nI 5), .int (nI 1), .ref 56] from rfl) rfl ?_
    refine en_callS (As := [.int (nI 1), .int (nI 5)]) (st := [.ref 56]) (st1 := [.int (nI 97), .ref 56]) d_Mo_composes_82 k_Mo_placeOf tw_819 tw_820 rfl (Nat.le_of_ble_eq_true rfl) rfl (Nat.le_of_ble_eq_true rfl) rfl rfl (c_Mo_placeOf_1_5 l g _ L (sp_rl (sp_rl M (nI (fn 63)) (nI (fn 64)) (nI (fn 70)) (nI (fn 71))) (nI (fn 77)) (nI (fn 78)) (nI (fn 84)) (nI (fn 85)))) rfl ?_
    refine ew_iald (j := 97) d_Mo_composes_85 rfl (rfl) (by decide) (by decide) ?_
    refine en_eq (st' := [.int (nI (fn 97))]) rfl (by rw [show ((sp_rl (sp_rl M (nI (fn 63)) (nI (fn 64)) (nI (fn 70)) (nI (fn 71))) (nI (fn 77)) (nI (fn 78)) (nI (fn 84)) (nI (fn 85))) 56 97) = (nI (fn 97)) from by first | exact (hfn 97 (by decide)).1 | (rw [sp_rl_ne (by decide)]; exact (hfn 97 (by decide)).1) | (rw [sp_rl_ne (by decide), sp_rl_ne (by decide)]; exact (hfn 97 (by decide)).1)]) rfl ?_
    refine ew_aload_n d_Mo_composes_86 rfl ?_
    refine ew_iload_n d_Mo_composes_87 rfl ?_
    refine ew_bipush (v := nI 16) d_Mo_composes_88 (by decide) ?_
    refine ew_iload d_Mo_composes_90 rfl ?_
    refine en_imul d_Mo_composes_92 ?_
    refine en_eq rfl (show _ = [.int (nI 16), .int (nI j), .ref 47, .int (nI (fn 97))] from rfl) rfl ?_
    refine en_iadd d_Mo_composes_93 ?_
    refine ew_bipush (v := nI 32) d_Mo_composes_94 (by decide) ?_
    refine en_irem d_Mo_composes_96 (by omega) (by decide) (by decide) ?_
    refine en_eq (st' := [.int (nI (j % 16 + 16 * 1)), .ref 47, .int (nI (fn 97))]) rfl (by rw [show (nI ((j + 16) % 32)) = (nI (j % 16 + 16 * 1)) from congrArg nI (by omega)]) rfl ?_
    refine en_callV (As := [.int (nI (j % 16 + 16 * 1))]) (i := 47) (ci := 9) (st := [.int (nI (fn 97))]) (st1 := [.int (nI (sp_com ρ (sp_le (fn 77) (fn 78) (fn 84) (fn 85)) (j % 16 + 16 * 1) A)), .int (nI (fn 97))]) d_Mo_composes_97 k_Mo_composition rfl rfl tw_775 tw_777 tp_39 rfl (Nat.le_of_ble_eq_true rfl) rfl (Nat.le_of_ble_eq_true rfl) rfl rfl (c_Mo_composition l g _ L (sp_rl (sp_rl M (nI (fn 63)) (nI (fn 64)) (nI (fn 70)) (nI (fn 71))) (nI (fn 77)) (nI (fn 78)) (nI (fn 84)) (nI (fn 85))) ρ (sp_rm_rl (sp_rm_rl hr)) (sp_le (fn 77) (fn 78) (fn 84) (fn 85)) (sp_rl_le (hfn 77 (by decide)).2 (hfn 78 (by decide)).2 (hfn 84 (by decide)).2 (hfn 85 (by decide)).2) (sp_rts_of hR (by rw [sp_rl_ne (by decide), sp_rl_ne (by decide)])) (j % 16 + 16 * 1) A (by omega) hA (by rw [sp_rl_ne (by decide), sp_rl_ne (by decide)]; exact hA0)) rfl ?_
    refine en_icmp_ne (tgt := 107) d_Mo_composes_100 (by decide) (by first | exact Nat.lt_trans (hfn _ (by decide)).2 (by decide) | exact Nat.lt_trans (sp_com_lt _ _ _ _) (by decide) | exact Nat.lt_trans (sp_fo_lt _ _ _ _ _) (by decide)) (by first | exact Nat.lt_trans (hfn _ (by decide)).2 (by decide) | exact Nat.lt_trans (sp_com_lt _ _ _ _) (by decide) | exact Nat.lt_trans (sp_fo_lt _ _ _ _ _) (by decide)) (fun h100_1 => ?_) (fun h100_1 => ?_)
    · refine ew_iconst (v := nI 0) d_Mo_composes_107 (by decide) ?_
      refine en_istore_n (ls' := [.ref 47, .int (nI 1), .int (nI j), .int (nI 0), .int (nI 1), .int (nI 77), .int (nI 84)]) d_Mo_composes_108 (Nat.le_of_ble_eq_true rfl) rfl ?_
      refine en_inc (ls' := [.ref 47, .int (nI 1), .int (nI j), .int (nI 0), .int (nI 2), .int (nI 77), .int (nI 84)]) d_Mo_composes_109 rfl rfl ?_
      refine ew_goto (tgt := 5) d_Mo_composes_112 (by decide) ?_
      refine ew_iload d_Mo_composes_5 rfl ?_
      refine ew_iconst (v := nI 2) d_Mo_composes_7 (by decide) ?_
      refine en_icmp_ge (tgt := 115) d_Mo_composes_8 (by decide) (by decide) (by decide) (fun h8_2 => ?_) (fun h8_2 => by exact absurd h8_2 (by decide))
      refine ew_iload_n d_Mo_composes_115 rfl ?_
      exact ew_zret d_Mo_composes_116 rfl (by decide) (⟨rfl, by rw [show (sp_vo1 ρ fn j A 0 && sp_vo1 ρ fn j A 1) = false from by rw [show sp_vo1 ρ fn j A 1 = false from decide_eq_false (fun q => h100_1 q.symm), Bool.and_false]]; rfl, fun q hq => by rw [sp_rl_ne hq, sp_rl_ne hq]⟩)
    · refine ew_iconst (v := nI 1) d_Mo_composes_103 (by decide) ?_
      refine ew_goto (tgt := 108) d_Mo_composes_104 (by decide) ?_
      refine en_istore_n (ls' := [.ref 47, .int (nI 1), .int (nI j), .int (nI 1), .int (nI 1), .int (nI 77), .int (nI 84)]) d_Mo_composes_108 (Nat.le_of_ble_eq_true rfl) rfl ?_
      refine en_inc (ls' := [.ref 47, .int (nI 1), .int (nI j), .int (nI 1), .int (nI 2), .int (nI 77), .int (nI 84)]) d_Mo_composes_109 rfl rfl ?_
      refine ew_goto (tgt := 5) d_Mo_composes_112 (by decide) ?_
      refine ew_iload d_Mo_composes_5 rfl ?_
      refine ew_iconst (v := nI 2) d_Mo_composes_7 (by decide) ?_
      refine en_icmp_ge (tgt := 115) d_Mo_composes_8 (by decide) (by decide) (by decide) (fun h8_2 => ?_) (fun h8_2 => by exact absurd h8_2 (by decide))
      refine ew_iload_n d_Mo_composes_115 rfl ?_
      exact ew_zret d_Mo_composes_116 rfl (by decide) (⟨rfl, by rw [show (sp_vo1 ρ fn j A 0 && sp_vo1 ρ fn j A 1) = true from by rw [show sp_vo1 ρ fn j A 0 = true from decide_eq_true h100.symm, show sp_vo1 ρ fn j A 1 = true from decide_eq_true h100_1.symm]; rfl]; rfl, fun q hq => by rw [sp_rl_ne hq, sp_rl_ne hq]⟩)
set_option maxRecDepth 100000 in
theorem c_Mo_folds10 (l : Launch) (g : ew_G) (d L : Nat) (M : ew_M) (fn : Nat → Nat) (hfn : sp_fnok (M 56) fn) (hR : sp_rts M) (B : Nat) (hB : B < 12289) (hB0 : M 57 0 = nI B) (j : Nat) (hj : j < 16) :
    Ew l g (d + 3) 0 0 m_Mo_folds 0 [.ref 47, .int (nI 1), .int (nI j), .int (nI 0), .retAddr 0, .retAddr 0, .retAddr 0] [] (ew_SH L) M (ew_q (some (.int (ew_b (decide (sp_vf10 fn j B = sp_vb10 fn j))))) (ew_SH L) M) := by
  refine ew_bipush (v := nI 16) d_Mo_folds_0 (by decide) ?_
  refine ew_iload_n d_Mo_folds_2 rfl ?_
  refine ew_ishr d_Mo_folds_3 ?_
  refine en_eq (st' := [.int (nI 16)]) rfl (by rw [show ((nI 16) >>> ((nI 0) &&& 31)) = (nI 16) from by decide]) rfl ?_
  refine en_istore (ls' := [.ref 47, .int (nI 1), .int (nI j), .int (nI 0), .int (nI 16), .retAddr 0, .retAddr 0]) d_Mo_folds_4 (Nat.le_of_ble_eq_true rfl) rfl ?_
  refine ew_iload_n d_Mo_folds_6 rfl ?_
  refine ew_iload d_Mo_folds_7 rfl ?_
  refine en_irem d_Mo_folds_9 (by omega) (by decide) (by decide) ?_
  refine en_istore (ls' := [.ref 47, .int (nI 1), .int (nI j), .int (nI 0), .int (nI 16), .int (nI (j % 16)), .retAddr 0]) d_Mo_folds_10 (Nat.le_of_ble_eq_true rfl) rfl ?_
  refine ew_aload_n d_Mo_folds_12 rfl ?_
  refine ew_iload_n d_Mo_folds_13 rfl ?_
  refine ew_iload d_Mo_folds_14 rfl ?_
  refine ew_aload_n d_Mo_folds_16 rfl ?_
  refine ew_getr (ci := 9) (f := 10) d_Mo_folds_17 rfl rfl rfl tw_602 ?_
  refine ew_iload_n d_Mo_folds_20 rfl ?_
  refine ew_iconst (v := nI 4) d_Mo_folds_21 (by decide) ?_
  refine ew_iconst (v := nI 2) d_Mo_folds_22 (by decide) ?_
  refine ew_iload_n d_Mo_folds_23 rfl ?_
  refine en_imul d_Mo_folds_24 ?_
  refine en_eq rfl (show _ = [.int (nI 0), .int (nI 4), .int (nI 1), .ref 56, .int (nI (j % 16)), .int (nI 0), .ref 47] from rfl) rfl ?_
  refine en_iadd d_Mo_folds_25 ?_
  refine en_eq rfl (show _ = [.int (nI 4), .int (nI 1), .ref 56, .int (nI (j % 16)), .int (nI 0), .ref 47] from rfl) rfl ?_
  refine en_callS (As := [.int (nI 1), .int (nI 4)]) (st := [.ref 56, .int (nI (j % 16)), .int (nI 0), .ref 47]) (st1 := [.int (nI 91), .ref 56, .int (nI (j % 16)), .int (nI 0), .ref 47]) d_Mo_folds_26 k_Mo_placeOf tw_819 tw_820 rfl (Nat.le_of_ble_eq_true rfl) rfl (Nat.le_of_ble_eq_true rfl) rfl rfl (c_Mo_placeOf_1_4 l g _ L M) rfl ?_
  refine ew_iald (j := 91) d_Mo_folds_29 rfl (rfl) (by decide) (by decide) ?_
  refine en_eq (st' := [.int (nI (fn 91)), .int (nI (j % 16)), .int (nI 0), .ref 47]) rfl (by rw [show (M 56 91) = (nI (fn 91)) from by first | exact (hfn 91 (by decide)).1 | (rw [sp_rl_ne (by decide)]; exact (hfn 91 (by decide)).1) | (rw [sp_rl_ne (by decide), sp_rl_ne (by decide)]; exact (hfn 91 (by decide)).1)]) rfl ?_
  refine ew_aload_n d_Mo_folds_30 rfl ?_
  refine ew_getr (ci := 9) (f := 10) d_Mo_folds_31 rfl rfl rfl tw_602 ?_
  refine ew_iload_n d_Mo_folds_34 rfl ?_
  refine ew_iconst (v := nI 5) d_Mo_folds_35 (by decide) ?_
  refine ew_iconst (v := nI 2) d_Mo_folds_36 (by decide) ?_
  refine ew_iload_n d_Mo_folds_37 rfl ?_
  refine en_imul d_Mo_folds_38 ?_
  refine en_eq rfl (show _ = [.int (nI 0), .int (nI 5), .int (nI 1), .ref 56, .int (nI (fn 91)), .int (nI (j % 16)), .int (nI 0), .ref 47] from rfl) rfl ?_
  refine en_iadd d_Mo_folds_39 ?_
  refine en_eq rfl (show _ = [.int (nI 5), .int (nI 1), .ref 56, .int (nI (fn 91)), .int (nI (j % 16)), .int (nI 0), .ref 47] from rfl) rfl ?_
  refine en_callS (As := [.int (nI 1), .int (nI 5)]) (st := [.ref 56, .int (nI (fn 91)), .int (nI (j % 16)), .int (nI 0), .ref 47]) (st1 := [.int (nI 97), .ref 56, .int (nI (fn 91)), .int (nI (j % 16)), .int (nI 0), .ref 47]) d_Mo_folds_40 k_Mo_placeOf tw_819 tw_820 rfl (Nat.le_of_ble_eq_true rfl) rfl (Nat.le_of_ble_eq_true rfl) rfl rfl (c_Mo_placeOf_1_5 l g _ L M) rfl ?_
  refine ew_iald (j := 97) d_Mo_folds_43 rfl (rfl) (by decide) (by decide) ?_
  refine en_eq (st' := [.int (nI (fn 97)), .int (nI (fn 91)), .int (nI (j % 16)), .int (nI 0), .ref 47]) rfl (by rw [show (M 56 97) = (nI (fn 97)) from by first | exact (hfn 97 (by decide)).1 | (rw [sp_rl_ne (by decide)]; exact (hfn 97 (by decide)).1) | (rw [sp_rl_ne (by decide), sp_rl_ne (by decide)]; exact (hfn 97 (by decide)).1)]) rfl ?_
  refine en_callV (As := [.int (nI 0), .int (nI (j % 16)), .int (nI (fn 91)), .int (nI (fn 97))]) (i := 47) (ci := 9) (st := []) (st1 := [.int (nI (sp_fo 1 (j % 16) (fn 91) (fn 97) B))]) d_Mo_folds_44 k_Mo_folded rfl rfl tw_783 tw_785 tp_41 rfl (Nat.le_of_ble_eq_true rfl) rfl (Nat.le_of_ble_eq_true rfl) rfl rfl (c_Mo_folded0 l g _ L M (hR) (j % 16) (fn 91) (fn 97) B (by omega) ((hfn _ (by decide)).2) ((hfn _ (by decide)).2) (hB) (hB0)) rfl ?_
  refine en_istore (ls' := [.ref 47, .int (nI 1), .int (nI j), .int (nI 0), .int (nI 16), .int (nI (j % 16)), .int (nI (sp_fo 1 (j % 16) (fn 91) (fn 97) B))]) d_Mo_folds_47 (Nat.le_of_ble_eq_true rfl) rfl ?_
  refine ew_iload_n d_Mo_folds_49 rfl ?_
  refine ew_iconst (v := nI 2) d_Mo_folds_50 (by decide) ?_
  refine en_icmp_ne (tgt := 71) d_Mo_folds_51 (by decide) (by decide) (by decide) (fun h51 => ?_) (fun h51 => by exact absurd h51 (by decide))
  refine ew_iload d_Mo_folds_71 rfl ?_
  refine ew_aload_n d_Mo_folds_73 rfl ?_
  refine ew_getr (ci := 9) (f := 10) d_Mo_folds_74 rfl rfl rfl tw_602 ?_
  refine ew_iload_n d_Mo_folds_77 rfl ?_
  refine ew_bipush (v := nI 6) d_Mo_folds_78 (by decide) ?_
  refine ew_iconst (v := nI 2) d_Mo_folds_80 (by decide) ?_
  refine ew_iload_n d_Mo_folds_81 rfl ?_
  refine en_imul d_Mo_folds_82 ?_
  refine en_eq rfl (show _ = [.int (nI 0), .int (nI 6), .int (nI 1), .ref 56, .int (nI (sp_fo 1 (j % 16) (fn 91) (fn 97) B))] from rfl) rfl ?_
  refine en_iadd d_Mo_folds_83 ?_
  refine en_eq rfl (show _ = [.int (nI 6), .int (nI 1), .ref 56, .int (nI (sp_fo 1 (j % 16) (fn 91) (fn 97) B))] from rfl) rfl ?_
  refine ew_iload d_Mo_folds_84 rfl ?_
  refine ew_iload d_Mo_folds_86 rfl ?_
  refine ew_iconst (v := nI 2) d_Mo_folds_88 (by decide) ?_
  refine en_idiv d_Mo_folds_89 (by first | with_reducible assumption | with_reducible exact ep_lt _ | with_reducible exact sp_its_lt _ _ _ | with_reducible exact tb_l_rt _ | with_reducible exact tb_l_x _ | with_reducible exact tb_l_o0 _ | with_reducible exact tb_l_o1 _ | with_reducible exact tb_l_va _ | with_reducible exact tb_l_ll _ | with_reducible exact tb_l_cf _ | with_reducible exact tb_l_kf _ | with_reducible exact sp_ts_lt _ _ _ _ | with_reducible exact sp_w_lt _ _ | with_reducible exact sp_cs_lt _ _ _ _ _ | with_reducible exact sp_cb_lt _ _ _ _ _ | with_reducible exact sp_ch_lt _ | with_reducible exact sp_bf_lt _ _ | with_reducible exact sp_va_lt _ _ _ | with_reducible exact sp_be_lt _ _ | with_reducible exact sp_p_lt _ _ _ | with_reducible exact sp_com_lt _ _ _ _ | with_reducible exact sp_fo_lt _ _ _ _ _ | omega) (by decide) (by decide) ?_
  refine en_eq rfl (show _ = [.int (nI 8), .int (nI (j % 16)), .int (nI 6), .int (nI 1), .ref 56, .int (nI (sp_fo 1 (j % 16) (fn 91) (fn 97) B))] from rfl) rfl ?_
  refine en_icmp_lt (tgt := 97) d_Mo_folds_90 (by decide) (by omega) (by omega) (fun h90 => ?_) (fun h90 => ?_)
  · refine ew_iconst (v := nI 0) d_Mo_folds_97 (by decide) ?_
    refine en_iadd d_Mo_folds_98 ?_
    refine en_eq rfl (show _ = [.int (nI 6), .int (nI 1), .ref 56, .int (nI (sp_fo 1 (j % 16) (fn 91) (fn 97) B))] from rfl) rfl ?_
    refine en_callS (As := [.int (nI 1), .int (nI 6)]) (st := [.ref 56, .int (nI (sp_fo 1 (j % 16) (fn 91) (fn 97) B))]) (st1 := [.int (nI 103), .ref 56, .int (nI (sp_fo 1 (j % 16) (fn 91) (fn 97) B))]) d_Mo_folds_99 k_Mo_placeOf tw_819 tw_820 rfl (Nat.le_of_ble_eq_true rfl) rfl (Nat.le_of_ble_eq_true rfl) rfl rfl (c_Mo_placeOf_1_6 l g _ L M) rfl ?_
    refine ew_iald (j := 103) d_Mo_folds_102 rfl (rfl) (by decide) (by decide) ?_
    refine en_eq (st' := [.int (nI (fn 103)), .int (nI (sp_fo 1 (j % 16) (fn 91) (fn 97) B))]) rfl (by rw [show (M 56 103) = (nI (fn 103)) from by first | exact (hfn 103 (by decide)).1 | (rw [sp_rl_ne (by decide)]; exact (hfn 103 (by decide)).1) | (rw [sp_rl_ne (by decide), sp_rl_ne (by decide)]; exact (hfn 103 (by decide)).1)]) rfl ?_
    refine en_icmp_ne (tgt := 110) d_Mo_folds_103 (by decide) (by first | exact Nat.lt_trans (hfn _ (by decide)).2 (by decide) | exact Nat.lt_trans (sp_com_lt _ _ _ _) (by decide) | exact Nat.lt_trans (sp_fo_lt _ _ _ _ _) (by decide)) (by first | exact Nat.lt_trans (hfn _ (by decide)).2 (by decide) | exact Nat.lt_trans (sp_com_lt _ _ _ _) (by decide) | exact Nat.lt_trans (sp_fo_lt _ _ _ _ _) (by decide)) (fun h103 => ?_) (fun h103 => ?_)
    · refine ew_iconst (v := nI 0) d_Mo_folds_110 (by decide) ?_
      exact ew_zret d_Mo_folds_111 rfl (by decide) (⟨by rw [show decide (sp_vf10 fn j B = sp_vb10 fn j) = false from decide_eq_false (by unfold sp_vb10; rw [show j % 16 / 8 = 0 by omega]; exact h103)]; rfl, rfl, rfl⟩)
    · refine ew_iconst (v := nI 1) d_Mo_folds_106 (by decide) ?_
      refine ew_goto (tgt := 111) d_Mo_folds_107 (by decide) ?_
      exact ew_zret d_Mo_folds_111 rfl (by decide) (⟨by rw [show decide (sp_vf10 fn j B = sp_vb10 fn j) = true from decide_eq_true (by unfold sp_vb10; rw [show j % 16 / 8 = 0 by omega]; exact h103)]; rfl, rfl, rfl⟩)
  · refine ew_iconst (v := nI 1) d_Mo_folds_93 (by decide) ?_
    refine ew_goto (tgt := 98) d_Mo_folds_94 (by decide) ?_
    refine en_iadd d_Mo_folds_98 ?_
    refine en_eq rfl (show _ = [.int (nI 7), .int (nI 1), .ref 56, .int (nI (sp_fo 1 (j % 16) (fn 91) (fn 97) B))] from rfl) rfl ?_
    refine en_callS (As := [.int (nI 1), .int (nI 7)]) (st := [.ref 56, .int (nI (sp_fo 1 (j % 16) (fn 91) (fn 97) B))]) (st1 := [.int (nI 108), .ref 56, .int (nI (sp_fo 1 (j % 16) (fn 91) (fn 97) B))]) d_Mo_folds_99 k_Mo_placeOf tw_819 tw_820 rfl (Nat.le_of_ble_eq_true rfl) rfl (Nat.le_of_ble_eq_true rfl) rfl rfl (c_Mo_placeOf_1_7 l g _ L M) rfl ?_
    refine ew_iald (j := 108) d_Mo_folds_102 rfl (rfl) (by decide) (by decide) ?_
    refine en_eq (st' := [.int (nI (fn 108)), .int (nI (sp_fo 1 (j % 16) (fn 91) (fn 97) B))]) rfl (by rw [show (M 56 108) = (nI (fn 108)) from by first | exact (hfn 108 (by decide)).1 | (rw [sp_rl_ne (by decide)]; exact (hfn 108 (by decide)).1) | (rw [sp_rl_ne (by decide), sp_rl_ne (by decide)]; exact (hfn 108 (by decide)).1)]) rfl ?_
    refine en_icmp_ne (tgt := 110) d_Mo_folds_103 (by decide) (by first | exact Nat.lt_trans (hfn _ (by decide)).2 (by decide) | exact Nat.lt_trans (sp_com_lt _ _ _ _) (by decide) | exact Nat.lt_trans (sp_fo_lt _ _ _ _ _) (by decide)) (by first | exact Nat.lt_trans (hfn _ (by decide)).2 (by decide) | exact Nat.lt_trans (sp_com_lt _ _ _ _) (by decide) | exact Nat.lt_trans (sp_fo_lt _ _ _ _ _) (by decide)) (fun h103 => ?_) (fun h103 => ?_)
    · refine ew_iconst (v := nI 0) d_Mo_folds_110 (by decide) ?_
      exact ew_zret d_Mo_folds_111 rfl (by decide) (⟨by rw [show decide (sp_vf10 fn j B = sp_vb10 fn j) = false from decide_eq_false (by unfold sp_vb10; rw [show j % 16 / 8 = 1 by omega]; exact h103)]; rfl, rfl, rfl⟩)
    · refine ew_iconst (v := nI 1) d_Mo_folds_106 (by decide) ?_
      refine ew_goto (tgt := 111) d_Mo_folds_107 (by decide) ?_
      exact ew_zret d_Mo_folds_111 rfl (by decide) (⟨by rw [show decide (sp_vf10 fn j B = sp_vb10 fn j) = true from decide_eq_true (by unfold sp_vb10; rw [show j % 16 / 8 = 1 by omega]; exact h103)]; rfl, rfl, rfl⟩)
set_option maxRecDepth 100000 in
theorem c_Mo_folds11 (l : Launch) (g : ew_G) (d L : Nat) (M : ew_M) (fn : Nat → Nat) (hfn : sp_fnok (M 56) fn) (hR : sp_rts M) (B : Nat) (hB : B < 12289) (hB0 : M 57 1 = nI B) (j : Nat) (hj : j < 16) :
    Ew l g (d + 3) 0 0 m_Mo_folds 0 [.ref 47, .int (nI 1), .int (nI j), .int (nI 1), .retAddr 0, .retAddr 0, .retAddr 0] [] (ew_SH L) M (ew_q (some (.int (ew_b (decide (sp_vf11 fn j B = sp_vb11 fn j))))) (ew_SH L) M) := by
  refine ew_bipush (v := nI 16) d_Mo_folds_0 (by decide) ?_
  refine ew_iload_n d_Mo_folds_2 rfl ?_
  refine ew_ishr d_Mo_folds_3 ?_
  refine en_eq (st' := [.int (nI 8)]) rfl (by rw [show ((nI 16) >>> ((nI 1) &&& 31)) = (nI 8) from by decide]) rfl ?_
  refine en_istore (ls' := [.ref 47, .int (nI 1), .int (nI j), .int (nI 1), .int (nI 8), .retAddr 0, .retAddr 0]) d_Mo_folds_4 (Nat.le_of_ble_eq_true rfl) rfl ?_
  refine ew_iload_n d_Mo_folds_6 rfl ?_
  refine ew_iload d_Mo_folds_7 rfl ?_
  refine en_irem d_Mo_folds_9 (by omega) (by decide) (by decide) ?_
  refine en_istore (ls' := [.ref 47, .int (nI 1), .int (nI j), .int (nI 1), .int (nI 8), .int (nI (j % 8)), .retAddr 0]) d_Mo_folds_10 (Nat.le_of_ble_eq_true rfl) rfl ?_
  refine ew_aload_n d_Mo_folds_12 rfl ?_
  refine ew_iload_n d_Mo_folds_13 rfl ?_
  refine ew_iload d_Mo_folds_14 rfl ?_
  refine ew_aload_n d_Mo_folds_16 rfl ?_
  refine ew_getr (ci := 9) (f := 10) d_Mo_folds_17 rfl rfl rfl tw_602 ?_
  refine ew_iload_n d_Mo_folds_20 rfl ?_
  refine ew_iconst (v := nI 4) d_Mo_folds_21 (by decide) ?_
  refine ew_iconst (v := nI 2) d_Mo_folds_22 (by decide) ?_
  refine ew_iload_n d_Mo_folds_23 rfl ?_
  refine en_imul d_Mo_folds_24 ?_
  refine en_eq rfl (show _ = [.int (nI 2), .int (nI 4), .int (nI 1), .ref 56, .int (nI (j % 8)), .int (nI 1), .ref 47] from rfl) rfl ?_
  refine en_iadd d_Mo_folds_25 ?_
  refine en_eq rfl (show _ = [.int (nI 6), .int (nI 1), .ref 56, .int (nI (j % 8)), .int (nI 1), .ref 47] from rfl) rfl ?_
  refine en_callS (As := [.int (nI 1), .int (nI 6)]) (st := [.ref 56, .int (nI (j % 8)), .int (nI 1), .ref 47]) (st1 := [.int (nI 103), .ref 56, .int (nI (j % 8)), .int (nI 1), .ref 47]) d_Mo_folds_26 k_Mo_placeOf tw_819 tw_820 rfl (Nat.le_of_ble_eq_true rfl) rfl (Nat.le_of_ble_eq_true rfl) rfl rfl (c_Mo_placeOf_1_6 l g _ L M) rfl ?_
  refine ew_iald (j := 103) d_Mo_folds_29 rfl (rfl) (by decide) (by decide) ?_
  refine en_eq (st' := [.int (nI (fn 103)), .int (nI (j % 8)), .int (nI 1), .ref 47]) rfl (by rw [show (M 56 103) = (nI (fn 103)) from by first | exact (hfn 103 (by decide)).1 | (rw [sp_rl_ne (by decide)]; exact (hfn 103 (by decide)).1) | (rw [sp_rl_ne (by decide), sp_rl_ne (by decide)]; exact (hfn 103 (by decide)).1)]) rfl ?_
  refine ew_aload_n d_Mo_folds_30 rfl ?_
  refine ew_getr (ci := 9) (f := 10) d_Mo_folds_31 rfl rfl rfl tw_602 ?_
  refine ew_iload_n d_Mo_folds_34 rfl ?_
  refine ew_iconst (v := nI 5) d_Mo_folds_35 (by decide) ?_
  refine ew_iconst (v := nI 2) d_Mo_folds_36 (by decide) ?_
  refine ew_iload_n d_Mo_folds_37 rfl ?_
  refine en_imul d_Mo_folds_38 ?_
  refine en_eq rfl (show _ = [.int (nI 2), .int (nI 5), .int (nI 1), .ref 56, .int (nI (fn 103)), .int (nI (j % 8)), .int (nI 1), .ref 47] from rfl) rfl ?_
  refine en_iadd d_Mo_folds_39 ?_
  refine en_eq rfl (show _ = [.int (nI 7), .int (nI 1), .ref 56, .int (nI (fn 103)), .int (nI (j % 8)), .int (nI 1), .ref 47] from rfl) rfl ?_
  refine en_callS (As := [.int (nI 1), .int (nI 7)]) (st := [.ref 56, .int (nI (fn 103)), .int (nI (j % 8)), .int (nI 1), .ref 47]) (st1 := [.int (nI 108), .ref 56, .int (nI (fn 103)), .int (nI (j % 8)), .int (nI 1), .ref 47]) d_Mo_folds_40 k_Mo_placeOf tw_819 tw_820 rfl (Nat.le_of_ble_eq_true rfl) rfl (Nat.le_of_ble_eq_true rfl) rfl rfl (c_Mo_placeOf_1_7 l g _ L M) rfl ?_
  refine ew_iald (j := 108) d_Mo_folds_43 rfl (rfl) (by decide) (by decide) ?_
  refine en_eq (st' := [.int (nI (fn 108)), .int (nI (fn 103)), .int (nI (j % 8)), .int (nI 1), .ref 47]) rfl (by rw [show (M 56 108) = (nI (fn 108)) from by first | exact (hfn 108 (by decide)).1 | (rw [sp_rl_ne (by decide)]; exact (hfn 108 (by decide)).1) | (rw [sp_rl_ne (by decide), sp_rl_ne (by decide)]; exact (hfn 108 (by decide)).1)]) rfl ?_
  refine en_callV (As := [.int (nI 1), .int (nI (j % 8)), .int (nI (fn 103)), .int (nI (fn 108))]) (i := 47) (ci := 9) (st := []) (st1 := [.int (nI (sp_fo 2 (j % 8) (fn 103) (fn 108) B))]) d_Mo_folds_44 k_Mo_folded rfl rfl tw_783 tw_785 tp_41 rfl (Nat.le_of_ble_eq_true rfl) rfl (Nat.le_of_ble_eq_true rfl) rfl rfl (c_Mo_folded1 l g _ L M (hR) (j % 8) (fn 103) (fn 108) B (by omega) ((hfn _ (by decide)).2) ((hfn _ (by decide)).2) (hB) (hB0)) rfl ?_
  refine en_istore (ls' := [.ref 47, .int (nI 1), .int (nI j), .int (nI 1), .int (nI 8), .int (nI (j % 8)), .int (nI (sp_fo 2 (j % 8) (fn 103) (fn 108) B))]) d_Mo_folds_47 (Nat.le_of_ble_eq_true rfl) rfl ?_
  refine ew_iload_n d_Mo_folds_49 rfl ?_
  refine ew_iconst (v := nI 2) d_Mo_folds_50 (by decide) ?_
  refine en_icmp_ne (tgt := 71) d_Mo_folds_51 (by decide) (by decide) (by decide) (fun h51 => ?_) (fun h51 => by exact absurd h51 (by decide))
  refine ew_iload d_Mo_folds_71 rfl ?_
  refine ew_aload_n d_Mo_folds_73 rfl ?_
  refine ew_getr (ci := 9) (f := 10) d_Mo_folds_74 rfl rfl rfl tw_602 ?_
  refine ew_iload_n d_Mo_folds_77 rfl ?_
  refine ew_bipush (v := nI 6) d_Mo_folds_78 (by decide) ?_
  refine ew_iconst (v := nI 2) d_Mo_folds_80 (by decide) ?_
  refine ew_iload_n d_Mo_folds_81 rfl ?_
  refine en_imul d_Mo_folds_82 ?_
  refine en_eq rfl (show _ = [.int (nI 2), .int (nI 6), .int (nI 1), .ref 56, .int (nI (sp_fo 2 (j % 8) (fn 103) (fn 108) B))] from rfl) rfl ?_
  refine en_iadd d_Mo_folds_83 ?_
  refine en_eq rfl (show _ = [.int (nI 8), .int (nI 1), .ref 56, .int (nI (sp_fo 2 (j % 8) (fn 103) (fn 108) B))] from rfl) rfl ?_
  refine ew_iload d_Mo_folds_84 rfl ?_
  refine ew_iload d_Mo_folds_86 rfl ?_
  refine ew_iconst (v := nI 2) d_Mo_folds_88 (by decide) ?_
  refine en_idiv d_Mo_folds_89 (by first | with_reducible assumption | with_reducible exact ep_lt _ | with_reducible exact sp_its_lt _ _ _ | with_reducible exact tb_l_rt _ | with_reducible exact tb_l_x _ | with_reducible exact tb_l_o0 _ | with_reducible exact tb_l_o1 _ | with_reducible exact tb_l_va _ | with_reducible exact tb_l_ll _ | with_reducible exact tb_l_cf _ | with_reducible exact tb_l_kf _ | with_reducible exact sp_ts_lt _ _ _ _ | with_reducible exact sp_w_lt _ _ | with_reducible exact sp_cs_lt _ _ _ _ _ | with_reducible exact sp_cb_lt _ _ _ _ _ | with_reducible exact sp_ch_lt _ | with_reducible exact sp_bf_lt _ _ | with_reducible exact sp_va_lt _ _ _ | with_reducible exact sp_be_lt _ _ | with_reducible exact sp_p_lt _ _ _ | with_reducible exact sp_com_lt _ _ _ _ | with_reducible exact sp_fo_lt _ _ _ _ _ | omega) (by decide) (by decide) ?_
  refine en_eq rfl (show _ = [.int (nI 4), .int (nI (j % 8)), .int (nI 8), .int (nI 1), .ref 56, .int (nI (sp_fo 2 (j % 8) (fn 103) (fn 108) B))] from rfl) rfl ?_
  refine en_icmp_lt (tgt := 97) d_Mo_folds_90 (by decide) (by omega) (by omega) (fun h90 => ?_) (fun h90 => ?_)
  · refine ew_iconst (v := nI 0) d_Mo_folds_97 (by decide) ?_
    refine en_iadd d_Mo_folds_98 ?_
    refine en_eq rfl (show _ = [.int (nI 8), .int (nI 1), .ref 56, .int (nI (sp_fo 2 (j % 8) (fn 103) (fn 108) B))] from rfl) rfl ?_
    refine en_callS (As := [.int (nI 1), .int (nI 8)]) (st := [.ref 56, .int (nI (sp_fo 2 (j % 8) (fn 103) (fn 108) B))]) (st1 := [.int (nI 113), .ref 56, .int (nI (sp_fo 2 (j % 8) (fn 103) (fn 108) B))]) d_Mo_folds_99 k_Mo_placeOf tw_819 tw_820 rfl (Nat.le_of_ble_eq_true rfl) rfl (Nat.le_of_ble_eq_true rfl) rfl rfl (c_Mo_placeOf_1_8 l g _ L M) rfl ?_
    refine ew_iald (j := 113) d_Mo_folds_102 rfl (rfl) (by decide) (by decide) ?_
    refine en_eq (st' := [.int (nI (fn 113)), .int (nI (sp_fo 2 (j % 8) (fn 103) (fn 108) B))]) rfl (by rw [show (M 56 113) = (nI (fn 113)) from by first | exact (hfn 113 (by decide)).1 | (rw [sp_rl_ne (by decide)]; exact (hfn 113 (by decide)).1) | (rw [sp_rl_ne (by decide), sp_rl_ne (by decide)]; exact (hfn 113 (by decide)).1)]) rfl ?_
    refine en_icmp_ne (tgt := 110) d_Mo_folds_103 (by decide) (by first | exact Nat.lt_trans (hfn _ (by decide)).2 (by decide) | exact Nat.lt_trans (sp_com_lt _ _ _ _) (by decide) | exact Nat.lt_trans (sp_fo_lt _ _ _ _ _) (by decide)) (by first | exact Nat.lt_trans (hfn _ (by decide)).2 (by decide) | exact Nat.lt_trans (sp_com_lt _ _ _ _) (by decide) | exact Nat.lt_trans (sp_fo_lt _ _ _ _ _) (by decide)) (fun h103 => ?_) (fun h103 => ?_)
    · refine ew_iconst (v := nI 0) d_Mo_folds_110 (by decide) ?_
      exact ew_zret d_Mo_folds_111 rfl (by decide) (⟨by rw [show decide (sp_vf11 fn j B = sp_vb11 fn j) = false from decide_eq_false (by unfold sp_vb11; rw [show j % 8 / 4 = 0 by omega]; exact h103)]; rfl, rfl, rfl⟩)
    · refine ew_iconst (v := nI 1) d_Mo_folds_106 (by decide) ?_
      refine ew_goto (tgt := 111) d_Mo_folds_107 (by decide) ?_
      exact ew_zret d_Mo_folds_111 rfl (by decide) (⟨by rw [show decide (sp_vf11 fn j B = sp_vb11 fn j) = true from decide_eq_true (by unfold sp_vb11; rw [show j % 8 / 4 = 0 by omega]; exact h103)]; rfl, rfl, rfl⟩)
  · refine ew_iconst (v := nI 1) d_Mo_folds_93 (by decide) ?_
    refine ew_goto (tgt := 98) d_Mo_folds_94 (by decide) ?_
    refine en_iadd d_Mo_folds_98 ?_
    refine en_eq rfl (show _ = [.int (nI 9), .int (nI 1), .ref 56, .int (nI (sp_fo 2 (j % 8) (fn 103) (fn 108) B))] from rfl) rfl ?_
    refine en_callS (As := [.int (nI 1), .int (nI 9)]) (st := [.ref 56, .int (nI (sp_fo 2 (j % 8) (fn 103) (fn 108) B))]) (st1 := [.int (nI 117), .ref 56, .int (nI (sp_fo 2 (j % 8) (fn 103) (fn 108) B))]) d_Mo_folds_99 k_Mo_placeOf tw_819 tw_820 rfl (Nat.le_of_ble_eq_true rfl) rfl (Nat.le_of_ble_eq_true rfl) rfl rfl (c_Mo_placeOf_1_9 l g _ L M) rfl ?_
    refine ew_iald (j := 117) d_Mo_folds_102 rfl (rfl) (by decide) (by decide) ?_
    refine en_eq (st' := [.int (nI (fn 117)), .int (nI (sp_fo 2 (j % 8) (fn 103) (fn 108) B))]) rfl (by rw [show (M 56 117) = (nI (fn 117)) from by first | exact (hfn 117 (by decide)).1 | (rw [sp_rl_ne (by decide)]; exact (hfn 117 (by decide)).1) | (rw [sp_rl_ne (by decide), sp_rl_ne (by decide)]; exact (hfn 117 (by decide)).1)]) rfl ?_
    refine en_icmp_ne (tgt := 110) d_Mo_folds_103 (by decide) (by first | exact Nat.lt_trans (hfn _ (by decide)).2 (by decide) | exact Nat.lt_trans (sp_com_lt _ _ _ _) (by decide) | exact Nat.lt_trans (sp_fo_lt _ _ _ _ _) (by decide)) (by first | exact Nat.lt_trans (hfn _ (by decide)).2 (by decide) | exact Nat.lt_trans (sp_com_lt _ _ _ _) (by decide) | exact Nat.lt_trans (sp_fo_lt _ _ _ _ _) (by decide)) (fun h103 => ?_) (fun h103 => ?_)
    · refine ew_iconst (v := nI 0) d_Mo_folds_110 (by decide) ?_
      exact ew_zret d_Mo_folds_111 rfl (by decide) (⟨by rw [show decide (sp_vf11 fn j B = sp_vb11 fn j) = false from decide_eq_false (by unfold sp_vb11; rw [show j % 8 / 4 = 1 by omega]; exact h103)]; rfl, rfl, rfl⟩)
    · refine ew_iconst (v := nI 1) d_Mo_folds_106 (by decide) ?_
      refine ew_goto (tgt := 111) d_Mo_folds_107 (by decide) ?_
      exact ew_zret d_Mo_folds_111 rfl (by decide) (⟨by rw [show decide (sp_vf11 fn j B = sp_vb11 fn j) = true from decide_eq_true (by unfold sp_vb11; rw [show j % 8 / 4 = 1 by omega]; exact h103)]; rfl, rfl, rfl⟩)
set_option maxRecDepth 100000 in
theorem c_Mo_folds12 (l : Launch) (g : ew_G) (d L : Nat) (M : ew_M) (fn : Nat → Nat) (hfn : sp_fnok (M 56) fn) (hR : sp_rts M) (B : Nat) (hB : B < 12289) (hB0 : M 57 2 = nI B) (j : Nat) (hj : j < 16) :
    Ew l g (d + 3) 0 0 m_Mo_folds 0 [.ref 47, .int (nI 1), .int (nI j), .int (nI 2), .retAddr 0, .retAddr 0, .retAddr 0] [] (ew_SH L) M (ew_q (some (.int (ew_b (decide (sp_vf12 fn j B = fn 4))))) (ew_SH L) M) := by
  refine ew_bipush (v := nI 16) d_Mo_folds_0 (by decide) ?_
  refine ew_iload_n d_Mo_folds_2 rfl ?_
  refine ew_ishr d_Mo_folds_3 ?_
  refine en_eq (st' := [.int (nI 4)]) rfl (by rw [show ((nI 16) >>> ((nI 2) &&& 31)) = (nI 4) from by decide]) rfl ?_
  refine en_istore (ls' := [.ref 47, .int (nI 1), .int (nI j), .int (nI 2), .int (nI 4), .retAddr 0, .retAddr 0]) d_Mo_folds_4 (Nat.le_of_ble_eq_true rfl) rfl ?_
  refine ew_iload_n d_Mo_folds_6 rfl ?_
  refine ew_iload d_Mo_folds_7 rfl ?_
  refine en_irem d_Mo_folds_9 (by omega) (by decide) (by decide) ?_
  refine en_istore (ls' := [.ref 47, .int (nI 1), .int (nI j), .int (nI 2), .int (nI 4), .int (nI (j % 4)), .retAddr 0]) d_Mo_folds_10 (Nat.le_of_ble_eq_true rfl) rfl ?_
  refine ew_aload_n d_Mo_folds_12 rfl ?_
  refine ew_iload_n d_Mo_folds_13 rfl ?_
  refine ew_iload d_Mo_folds_14 rfl ?_
  refine ew_aload_n d_Mo_folds_16 rfl ?_
  refine ew_getr (ci := 9) (f := 10) d_Mo_folds_17 rfl rfl rfl tw_602 ?_
  refine ew_iload_n d_Mo_folds_20 rfl ?_
  refine ew_iconst (v := nI 4) d_Mo_folds_21 (by decide) ?_
  refine ew_iconst (v := nI 2) d_Mo_folds_22 (by decide) ?_
  refine ew_iload_n d_Mo_folds_23 rfl ?_
  refine en_imul d_Mo_folds_24 ?_
  refine en_eq rfl (show _ = [.int (nI 4), .int (nI 4), .int (nI 1), .ref 56, .int (nI (j % 4)), .int (nI 2), .ref 47] from rfl) rfl ?_
  refine en_iadd d_Mo_folds_25 ?_
  refine en_eq rfl (show _ = [.int (nI 8), .int (nI 1), .ref 56, .int (nI (j % 4)), .int (nI 2), .ref 47] from rfl) rfl ?_
  refine en_callS (As := [.int (nI 1), .int (nI 8)]) (st := [.ref 56, .int (nI (j % 4)), .int (nI 2), .ref 47]) (st1 := [.int (nI 113), .ref 56, .int (nI (j % 4)), .int (nI 2), .ref 47]) d_Mo_folds_26 k_Mo_placeOf tw_819 tw_820 rfl (Nat.le_of_ble_eq_true rfl) rfl (Nat.le_of_ble_eq_true rfl) rfl rfl (c_Mo_placeOf_1_8 l g _ L M) rfl ?_
  refine ew_iald (j := 113) d_Mo_folds_29 rfl (rfl) (by decide) (by decide) ?_
  refine en_eq (st' := [.int (nI (fn 113)), .int (nI (j % 4)), .int (nI 2), .ref 47]) rfl (by rw [show (M 56 113) = (nI (fn 113)) from by first | exact (hfn 113 (by decide)).1 | (rw [sp_rl_ne (by decide)]; exact (hfn 113 (by decide)).1) | (rw [sp_rl_ne (by decide), sp_rl_ne (by decide)]; exact (hfn 113 (by decide)).1)]) rfl ?_
  refine ew_aload_n d_Mo_folds_30 rfl ?_
  refine ew_getr (ci := 9) (f := 10) d_Mo_folds_31 rfl rfl rfl tw_602 ?_
  refine ew_iload_n d_Mo_folds_34 rfl ?_
  refine ew_iconst (v := nI 5) d_Mo_folds_35 (by decide) ?_
  refine ew_iconst (v := nI 2) d_Mo_folds_36 (by decide) ?_
  refine ew_iload_n d_Mo_folds_37 rfl ?_
  refine en_imul d_Mo_folds_38 ?_
  refine en_eq rfl (show _ = [.int (nI 4), .int (nI 5), .int (nI 1), .ref 56, .int (nI (fn 113)), .int (nI (j % 4)), .int (nI 2), .ref 47] from rfl) rfl ?_
  refine en_iadd d_Mo_folds_39 ?_
  refine en_eq rfl (show _ = [.int (nI 9), .int (nI 1), .ref 56, .int (nI (fn 113)), .int (nI (j % 4)), .int (nI 2), .ref 47] from rfl) rfl ?_
  refine en_callS (As := [.int (nI 1), .int (nI 9)]) (st := [.ref 56, .int (nI (fn 113)), .int (nI (j % 4)), .int (nI 2), .ref 47]) (st1 := [.int (nI 117), .ref 56, .int (nI (fn 113)), .int (nI (j % 4)), .int (nI 2), .ref 47]) d_Mo_folds_40 k_Mo_placeOf tw_819 tw_820 rfl (Nat.le_of_ble_eq_true rfl) rfl (Nat.le_of_ble_eq_true rfl) rfl rfl (c_Mo_placeOf_1_9 l g _ L M) rfl ?_
  refine ew_iald (j := 117) d_Mo_folds_43 rfl (rfl) (by decide) (by decide) ?_
  refine en_eq (st' := [.int (nI (fn 117)), .int (nI (fn 113)), .int (nI (j % 4)), .int (nI 2), .ref 47]) rfl (by rw [show (M 56 117) = (nI (fn 117)) from by first | exact (hfn 117 (by decide)).1 | (rw [sp_rl_ne (by decide)]; exact (hfn 117 (by decide)).1) | (rw [sp_rl_ne (by decide), sp_rl_ne (by decide)]; exact (hfn 117 (by decide)).1)]) rfl ?_
  refine en_callV (As := [.int (nI 2), .int (nI (j % 4)), .int (nI (fn 113)), .int (nI (fn 117))]) (i := 47) (ci := 9) (st := []) (st1 := [.int (nI (sp_fo 4 (j % 4) (fn 113) (fn 117) B))]) d_Mo_folds_44 k_Mo_folded rfl rfl tw_783 tw_785 tp_41 rfl (Nat.le_of_ble_eq_true rfl) rfl (Nat.le_of_ble_eq_true rfl) rfl rfl (c_Mo_folded2 l g _ L M (hR) (j % 4) (fn 113) (fn 117) B (by omega) ((hfn _ (by decide)).2) ((hfn _ (by decide)).2) (hB) (hB0)) rfl ?_
  refine en_istore (ls' := [.ref 47, .int (nI 1), .int (nI j), .int (nI 2), .int (nI 4), .int (nI (j % 4)), .int (nI (sp_fo 4 (j % 4) (fn 113) (fn 117) B))]) d_Mo_folds_47 (Nat.le_of_ble_eq_true rfl) rfl ?_
  refine ew_iload_n d_Mo_folds_49 rfl ?_
  refine ew_iconst (v := nI 2) d_Mo_folds_50 (by decide) ?_
  refine en_icmp_ne (tgt := 71) d_Mo_folds_51 (by decide) (by decide) (by decide) (fun h51 => by exact absurd h51 (by decide)) (fun h51 => ?_)
  refine ew_iload d_Mo_folds_54 rfl ?_
  refine ew_aload_n d_Mo_folds_56 rfl ?_
  refine ew_getr (ci := 9) (f := 10) d_Mo_folds_57 rfl rfl rfl tw_602 ?_
  refine ew_iconst (v := nI 4) d_Mo_folds_60 (by decide) ?_
  refine ew_iald (j := 4) d_Mo_folds_61 rfl (rfl) (by decide) (by decide) ?_
  refine en_eq (st' := [.int (nI (fn 4)), .int (nI (sp_fo 4 (j % 4) (fn 113) (fn 117) B))]) rfl (by rw [show (M 56 4) = (nI (fn 4)) from by first | exact (hfn 4 (by decide)).1 | (rw [sp_rl_ne (by decide)]; exact (hfn 4 (by decide)).1) | (rw [sp_rl_ne (by decide), sp_rl_ne (by decide)]; exact (hfn 4 (by decide)).1)]) rfl ?_
  refine en_icmp_ne (tgt := 69) d_Mo_folds_62 (by decide) (by first | exact Nat.lt_trans (hfn _ (by decide)).2 (by decide) | exact Nat.lt_trans (sp_com_lt _ _ _ _) (by decide) | exact Nat.lt_trans (sp_fo_lt _ _ _ _ _) (by decide)) (by first | exact Nat.lt_trans (hfn _ (by decide)).2 (by decide) | exact Nat.lt_trans (sp_com_lt _ _ _ _) (by decide) | exact Nat.lt_trans (sp_fo_lt _ _ _ _ _) (by decide)) (fun h62 => ?_) (fun h62 => ?_)
  · refine ew_iconst (v := nI 0) d_Mo_folds_69 (by decide) ?_
    exact ew_zret d_Mo_folds_70 rfl (by decide) (⟨by rw [show decide (sp_vf12 fn j B = fn 4) = false from decide_eq_false h62]; rfl, rfl, rfl⟩)
  · refine ew_iconst (v := nI 1) d_Mo_folds_65 (by decide) ?_
    refine ew_goto (tgt := 70) d_Mo_folds_66 (by decide) ?_
    exact ew_zret d_Mo_folds_70 rfl (by decide) (⟨by rw [show decide (sp_vf12 fn j B = fn 4) = true from decide_eq_true h62]; rfl, rfl, rfl⟩)
set_option maxRecDepth 100000 in
theorem c_Mo_composes2 (l : Launch) (g : ew_G) (d L : Nat) (M : ew_M) (ρ : sp_R) (hr : sp_rm ρ M) (fn : Nat → Nat) (hfn : sp_fnok (M 56) fn) (hR : sp_rts M) (A : Nat) (hA : A < 12289) (hA0 : M 47 14 = nI A) (j : Nat) (hj : j < 16) :
    Ew l g (d + 3) 0 0 m_Mo_composes 0 [.ref 47, .int (nI 2), .int (nI j), .retAddr 0, .retAddr 0, .retAddr 0, .retAddr 0] [] (ew_SH L) M (sp_mq L M (ew_b (sp_vo2 ρ fn j A 0 && sp_vo2 ρ fn j A 1))) := by
  refine ew_iconst (v := nI 1) d_Mo_composes_0 (by decide) ?_
  refine en_istore_n (ls' := [.ref 47, .int (nI 2), .int (nI j), .int (nI 1), .retAddr 0, .retAddr 0, .retAddr 0]) d_Mo_composes_1 (Nat.le_of_ble_eq_true rfl) rfl ?_
  refine ew_iconst (v := nI 0) d_Mo_composes_2 (by decide) ?_
  refine en_istore (ls' := [.ref 47, .int (nI 2), .int (nI j), .int (nI 1), .int (nI 0), .retAddr 0, .retAddr 0]) d_Mo_composes_3 (Nat.le_of_ble_eq_true rfl) rfl ?_
  refine ew_iload d_Mo_composes_5 rfl ?_
  refine ew_iconst (v := nI 2) d_Mo_composes_7 (by decide) ?_
  refine en_icmp_ge (tgt := 115) d_Mo_composes_8 (by decide) (by decide) (by decide) (fun h8 => by exact absurd h8 (by decide)) (fun h8 => ?_)
  refine ew_iload_n d_Mo_composes_11 rfl ?_
  refine ew_iconst (v := nI 2) d_Mo_composes_12 (by decide) ?_
  refine ew_iload d_Mo_composes_13 rfl ?_
  refine en_imul d_Mo_composes_15 ?_
  refine en_eq rfl (show _ = [.int (nI 0), .int (nI 2)] from rfl) rfl ?_
  refine en_callS (As := [.int (nI 2), .int (nI 0)]) (st := []) (st1 := [.int (nI 121)]) d_Mo_composes_16 k_Mo_placeOf tw_819 tw_820 rfl (Nat.le_of_ble_eq_true rfl) rfl (Nat.le_of_ble_eq_true rfl) rfl rfl (c_Mo_placeOf_2_0 l g _ L M) rfl ?_
  refine en_istore (ls' := [.ref 47, .int (nI 2), .int (nI j), .int (nI 1), .int (nI 0), .int (nI 121), .retAddr 0]) d_Mo_composes_19 (Nat.le_of_ble_eq_true rfl) rfl ?_
  refine ew_iload_n d_Mo_composes_21 rfl ?_
  refine ew_iconst (v := nI 2) d_Mo_composes_22 (by decide) ?_
  refine ew_iload d_Mo_composes_23 rfl ?_
  refine en_imul d_Mo_composes_25 ?_
  refine en_eq rfl (show _ = [.int (nI 0), .int (nI 2)] from rfl) rfl ?_
  refine ew_iconst (v := nI 1) d_Mo_composes_26 (by decide) ?_
  refine en_iadd d_Mo_composes_27 ?_
  refine en_eq rfl (show _ = [.int (nI 1), .int (nI 2)] from rfl) rfl ?_
  refine en_callS (As := [.int (nI 2), .int (nI 1)]) (st := []) (st1 := [.int (nI 128)]) d_Mo_composes_28 k_Mo_placeOf tw_819 tw_820 rfl (Nat.le_of_ble_eq_true rfl) rfl (Nat.le_of_ble_eq_true rfl) rfl rfl (c_Mo_placeOf_2_1 l g _ L M) rfl ?_
  refine en_istore (ls' := [.ref 47, .int (nI 2), .int (nI j), .int (nI 1), .int (nI 0), .int (nI 121), .int (nI 128)]) d_Mo_composes_31 (Nat.le_of_ble_eq_true rfl) rfl ?_
  refine ew_aload_n d_Mo_composes_33 rfl ?_
  refine ew_aload_n d_Mo_composes_34 rfl ?_
  refine ew_getr (ci := 9) (f := 10) d_Mo_composes_35 rfl rfl rfl tw_602 ?_
  refine ew_iload d_Mo_composes_38 rfl ?_
  refine ew_iald (j := 121) d_Mo_composes_40 rfl (rfl) (by decide) (by decide) ?_
  refine en_eq (st' := [.int (nI (fn 121)), .ref 47]) rfl (by rw [show (M 56 121) = (nI (fn 121)) from by first | exact (hfn 121 (by decide)).1 | (rw [sp_rl_ne (by decide)]; exact (hfn 121 (by decide)).1) | (rw [sp_rl_ne (by decide), sp_rl_ne (by decide)]; exact (hfn 121 (by decide)).1)]) rfl ?_
  refine ew_aload_n d_Mo_composes_41 rfl ?_
  refine ew_getr (ci := 9) (f := 10) d_Mo_composes_42 rfl rfl rfl tw_602 ?_
  refine ew_iload d_Mo_composes_45 rfl ?_
  refine ew_iconst (v := nI 1) d_Mo_composes_47 (by decide) ?_
  refine en_iadd d_Mo_composes_48 ?_
  refine en_eq rfl (show _ = [.int (nI 122), .ref 56, .int (nI (fn 121)), .ref 47] from rfl) rfl ?_
  refine ew_iald (j := 122) d_Mo_composes_49 rfl (rfl) (by decide) (by decide) ?_
  refine en_eq (st' := [.int (nI (fn 122)), .int (nI (fn 121)), .ref 47]) rfl (by rw [show (M 56 122) = (nI (fn 122)) from by first | exact (hfn 122 (by decide)).1 | (rw [sp_rl_ne (by decide)]; exact (hfn 122 (by decide)).1) | (rw [sp_rl_ne (by decide), sp_rl_ne (by decide)]; exact (hfn 122 (by decide)).1)]) rfl ?_
  refine ew_aload_n d_Mo_composes_50 rfl ?_
  refine ew_getr (ci := 9) (f := 10) d_Mo_composes_51 rfl rfl rfl tw_602 ?_
  refine ew_iload d_Mo_composes_54 rfl ?_
  refine ew_iald (j := 128) d_Mo_composes_56 rfl (rfl) (by decide) (by decide) ?_
  refine en_eq (st' := [.int (nI (fn 128)), .int (nI (fn 122)), .int (nI (fn 121)), .ref 47]) rfl (by rw [show (M 56 128) = (nI (fn 128)) from by first | exact (hfn 128 (by decide)).1 | (rw [sp_rl_ne (by decide)]; exact (hfn 128 (by decide)).1) | (rw [sp_rl_ne (by decide), sp_rl_ne (by decide)]; exact (hfn 128 (by decide)).1)]) rfl ?_
  refine ew_aload_n d_Mo_composes_57 rfl ?_
  refine ew_getr (ci := 9) (f := 10) d_Mo_composes_58 rfl rfl rfl tw_602 ?_
  refine ew_iload d_Mo_composes_61 rfl ?_
  refine ew_iconst (v := nI 1) d_Mo_composes_63 (by decide) ?_
  refine en_iadd d_Mo_composes_64 ?_
  refine en_eq rfl (show _ = [.int (nI 129), .ref 56, .int (nI (fn 128)), .int (nI (fn 122)), .int (nI (fn 121)), .ref 47] from rfl) rfl ?_
  refine ew_iald (j := 129) d_Mo_composes_65 rfl (rfl) (by decide) (by decide) ?_
  refine en_eq (st' := [.int (nI (fn 129)), .int (nI (fn 128)), .int (nI (fn 122)), .int (nI (fn 121)), .ref 47]) rfl (by rw [show (M 56 129) = (nI (fn 129)) from by first | exact (hfn 129 (by decide)).1 | (rw [sp_rl_ne (by decide)]; exact (hfn 129 (by decide)).1) | (rw [sp_rl_ne (by decide), sp_rl_ne (by decide)]; exact (hfn 129 (by decide)).1)]) rfl ?_
  refine en_callV (As := [.int (nI (fn 121)), .int (nI (fn 122)), .int (nI (fn 128)), .int (nI (fn 129))]) (i := 47) (ci := 9) (st := []) (st1 := []) d_Mo_composes_66 k_Mo_letters rfl rfl tw_727 tw_729 tp_32 rfl (Nat.le_of_ble_eq_true rfl) rfl (Nat.le_of_ble_eq_true rfl) rfl rfl (c_Mo_letters l g _ L M (nI (fn 121)) (nI (fn 122)) (nI (fn 128)) (nI (fn 129))) rfl ?_
  refine ew_iload_n d_Mo_composes_69 rfl ?_
  refine en_if_eq (tgt := 107) d_Mo_composes_70 (by decide) (by decide) (fun h70 => by exact absurd h70 (by decide)) (fun h70 => ?_)
  refine ew_aload_n d_Mo_composes_73 rfl ?_
  refine ew_getr (ci := 9) (f := 10) d_Mo_composes_74 rfl rfl rfl tw_602 ?_
  refine ew_iload_n d_Mo_composes_77 rfl ?_
  refine ew_iconst (v := nI 4) d_Mo_composes_78 (by decide) ?_
  refine ew_iload d_Mo_composes_79 rfl ?_
  refine en_iadd d_Mo_composes_81 ?_
  refine en_eq rfl (show _ = [.int (nI 4), .int (nI 2), .ref 56] from rfl) rfl ?_
  refine en_callS (As := [.int (nI 2), .int (nI 4)]) (st := [.ref 56]) (st1 := [.int (nI 149), .ref 56]) d_Mo_composes_82 k_Mo_placeOf tw_819 tw_820 rfl (Nat.le_of_ble_eq_true rfl) rfl (Nat.le_of_ble_eq_true rfl) rfl rfl (c_Mo_placeOf_2_4 l g _ L (sp_rl M (nI (fn 121)) (nI (fn 122)) (nI (fn 128)) (nI (fn 129)))) rfl ?_
  refine ew_iald (j := 149) d_Mo_composes_85 rfl (rfl) (by decide) (by decide) ?_
  refine en_eq (st' := [.int (nI (fn 149))]) rfl (by rw [show ((sp_rl M (nI (fn 121)) (nI (fn 122)) (nI (fn 128)) (nI (fn 129))) 56 149) = (nI (fn 149)) from by first | exact (hfn 149 (by decide)).1 | (rw [sp_rl_ne (by decide)]; exact (hfn 149 (by decide)).1) | (rw [sp_rl_ne (by decide), sp_rl_ne (by decide)]; exact (hfn 149 (by decide)).1)]) rfl ?_
  refine ew_aload_n d_Mo_composes_86 rfl ?_
  refine ew_iload_n d_Mo_composes_87 rfl ?_
  refine ew_bipush (v := nI 16) d_Mo_composes_88 (by decide) ?_
  refine ew_iload d_Mo_composes_90 rfl ?_
  refine en_imul d_Mo_composes_92 ?_
  refine en_eq rfl (show _ = [.int (nI 0), .int (nI j), .ref 47, .int (nI (fn 149))] from rfl) rfl ?_
  refine en_iadd d_Mo_composes_93 ?_
  refine ew_bipush (v := nI 32) d_Mo_composes_94 (by decide) ?_
  refine en_irem d_Mo_composes_96 (by omega) (by decide) (by decide) ?_
  refine en_eq (st' := [.int (nI (j % 16 + 16 * 0)), .ref 47, .int (nI (fn 149))]) rfl (by rw [show (nI ((j + 0) % 32)) = (nI (j % 16 + 16 * 0)) from congrArg nI (by omega)]) rfl ?_
  refine en_callV (As := [.int (nI (j % 16 + 16 * 0))]) (i := 47) (ci := 9) (st := [.int (nI (fn 149))]) (st1 := [.int (nI (sp_com ρ (sp_le (fn 121) (fn 122) (fn 128) (fn 129)) (j % 16 + 16 * 0) A)), .int (nI (fn 149))]) d_Mo_composes_97 k_Mo_composition rfl rfl tw_775 tw_777 tp_39 rfl (Nat.le_of_ble_eq_true rfl) rfl (Nat.le_of_ble_eq_true rfl) rfl rfl (c_Mo_composition l g _ L (sp_rl M (nI (fn 121)) (nI (fn 122)) (nI (fn 128)) (nI (fn 129))) ρ (sp_rm_rl hr) (sp_le (fn 121) (fn 122) (fn 128) (fn 129)) (sp_rl_le (hfn 121 (by decide)).2 (hfn 122 (by decide)).2 (hfn 128 (by decide)).2 (hfn 129 (by decide)).2) (sp_rts_of hR (by rw [sp_rl_ne (by decide)])) (j % 16 + 16 * 0) A (by omega) hA (by rw [sp_rl_ne (by decide)]; exact hA0)) rfl ?_
  refine en_icmp_ne (tgt := 107) d_Mo_composes_100 (by decide) (by first | exact Nat.lt_trans (hfn _ (by decide)).2 (by decide) | exact Nat.lt_trans (sp_com_lt _ _ _ _) (by decide) | exact Nat.lt_trans (sp_fo_lt _ _ _ _ _) (by decide)) (by first | exact Nat.lt_trans (hfn _ (by decide)).2 (by decide) | exact Nat.lt_trans (sp_com_lt _ _ _ _) (by decide) | exact Nat.lt_trans (sp_fo_lt _ _ _ _ _) (by decide)) (fun h100 => ?_) (fun h100 => ?_)
  · refine ew_iconst (v := nI 0) d_Mo_composes_107 (by decide) ?_
    refine en_istore_n (ls' := [.ref 47, .int (nI 2), .int (nI j), .int (nI 0), .int (nI 0), .int (nI 121), .int (nI 128)]) d_Mo_composes_108 (Nat.le_of_ble_eq_true rfl) rfl ?_
    refine en_inc (ls' := [.ref 47, .int (nI 2), .int (nI j), .int (nI 0), .int (nI 1), .int (nI 121), .int (nI 128)]) d_Mo_composes_109 rfl rfl ?_
    refine ew_goto (tgt := 5) d_Mo_composes_112 (by decide) ?_
    refine ew_iload d_Mo_composes_5 rfl ?_
    refine ew_iconst (v := nI 2) d_Mo_composes_7 (by decide) ?_
    refine en_icmp_ge (tgt := 115) d_Mo_composes_8 (by decide) (by decide) (by decide) (fun h8_1 => by exact absurd h8_1 (by decide)) (fun h8_1 => ?_)
    refine ew_iload_n d_Mo_composes_11 rfl ?_
    refine ew_iconst (v := nI 2) d_Mo_composes_12 (by decide) ?_
    refine ew_iload d_Mo_composes_13 rfl ?_
    refine en_imul d_Mo_composes_15 ?_
    refine en_eq rfl (show _ = [.int (nI 2), .int (nI 2)] from rfl) rfl ?_
    refine en_callS (As := [.int (nI 2), .int (nI 2)]) (st := []) (st1 := [.int (nI 135)]) d_Mo_composes_16 k_Mo_placeOf tw_819 tw_820 rfl (Nat.le_of_ble_eq_true rfl) rfl (Nat.le_of_ble_eq_true rfl) rfl rfl (c_Mo_placeOf_2_2 l g _ L (sp_rl M (nI (fn 121)) (nI (fn 122)) (nI (fn 128)) (nI (fn 129)))) rfl ?_
    refine en_istore (ls' := [.ref 47, .int (nI 2), .int (nI j), .int (nI 0), .int (nI 1), .int (nI 135), .int (nI 128)]) d_Mo_composes_19 (Nat.le_of_ble_eq_true rfl) rfl ?_
    refine ew_iload_n d_Mo_composes_21 rfl ?_
    refine ew_iconst (v := nI 2) d_Mo_composes_22 (by decide) ?_
    refine ew_iload d_Mo_composes_23 rfl ?_
    refine en_imul d_Mo_composes_25 ?_
    refine en_eq rfl (show _ = [.int (nI 2), .int (nI 2)] from rfl) rfl ?_
    refine ew_iconst (v := nI 1) d_Mo_composes_26 (by decide) ?_
    refine en_iadd d_Mo_composes_27 ?_
    refine en_eq rfl (show _ = [.int (nI 3), .int (nI 2)] from rfl) rfl ?_
    refine en_callS (As := [.int (nI 2), .int (nI 3)]) (st := []) (st1 := [.int (nI 142)]) d_Mo_composes_28 k_Mo_placeOf tw_819 tw_820 rfl (Nat.le_of_ble_eq_true rfl) rfl (Nat.le_of_ble_eq_true rfl) rfl rfl (c_Mo_placeOf_2_3 l g _ L (sp_rl M (nI (fn 121)) (nI (fn 122)) (nI (fn 128)) (nI (fn 129)))) rfl ?_
    refine en_istore (ls' := [.ref 47, .int (nI 2), .int (nI j), .int (nI 0), .int (nI 1), .int (nI 135), .int (nI 142)]) d_Mo_composes_31 (Nat.le_of_ble_eq_true rfl) rfl ?_
    refine ew_aload_n d_Mo_composes_33 rfl ?_
    refine ew_aload_n d_Mo_composes_34 rfl ?_
    refine ew_getr (ci := 9) (f := 10) d_Mo_composes_35 rfl rfl rfl tw_602 ?_
    refine ew_iload d_Mo_composes_38 rfl ?_
    refine ew_iald (j := 135) d_Mo_composes_40 rfl (rfl) (by decide) (by decide) ?_
    refine en_eq (st' := [.int (nI (fn 135)), .ref 47]) rfl (by rw [show ((sp_rl M (nI (fn 121)) (nI (fn 122)) (nI (fn 128)) (nI (fn 129))) 56 135) = (nI (fn 135)) from by first | exact (hfn 135 (by decide)).1 | (rw [sp_rl_ne (by decide)]; exact (hfn 135 (by decide)).1) | (rw [sp_rl_ne (by decide), sp_rl_ne (by decide)]; exact (hfn 135 (by decide)).1)]) rfl ?_
    refine ew_aload_n d_Mo_composes_41 rfl ?_
    refine ew_getr (ci := 9) (f := 10) d_Mo_composes_42 rfl rfl rfl tw_602 ?_
    refine ew_iload d_Mo_composes_45 rfl ?_
    refine ew_iconst (v := nI 1) d_Mo_composes_47 (by decide) ?_
    refine en_iadd d_Mo_composes_48 ?_
    refine en_eq rfl (show _ = [.int (nI 136), .ref 56, .int (nI (fn 135)), .ref 47] from rfl) rfl ?_
    refine ew_iald (j := 136) d_Mo_composes_49 rfl (rfl) (by decide) (by decide) ?_
    refine en_eq (st' := [.int (nI (fn 136)), .int (nI (fn 135)), .ref 47]) rfl (by rw [show ((sp_rl M (nI (fn 121)) (nI (fn 122)) (nI (fn 128)) (nI (fn 129))) 56 136) = (nI (fn 136)) from by first | exact (hfn 136 (by decide)).1 | (rw [sp_rl_ne (by decide)]; exact (hfn 136 (by decide)).1) | (rw [sp_rl_ne (by decide), sp_rl_ne (by decide)]; exact (hfn 136 (by decide)).1)]) rfl ?_
    refine ew_aload_n d_Mo_composes_50 rfl ?_
    refine ew_getr (ci := 9) (f := 10) d_Mo_composes_51 rfl rfl rfl tw_602 ?_
    refine ew_iload d_Mo_composes_54 rfl ?_
    refine ew_iald (j := 142) d_Mo_composes_56 rfl (rfl) (by decide) (by decide) ?_
    refine en_eq (st' := [.int (nI (fn 142)), .int (nI (fn 136)), .int (nI (fn 135)), .ref 47]) rfl (by rw [show ((sp_rl M (nI (fn 121)) (nI (fn 122)) (nI (fn 128)) (nI (fn 129))) 56 142) = (nI (fn 142)) from by first | exact (hfn 142 (by decide)).1 | (rw [sp_rl_ne (by decide)]; exact (hfn 142 (by decide)).1) | (rw [sp_rl_ne (by decide), sp_rl_ne (by decide)]; exact (hfn 142 (by decide)).1)]) rfl ?_
    refine ew_aload_n d_Mo_composes_57 rfl ?_
    refine ew_getr (ci := 9) (f := 10) d_Mo_composes_58 rfl rfl rfl tw_602 ?_
    refine ew_iload d_Mo_composes_61 rfl ?_
    refine ew_iconst (v := nI 1) d_Mo_composes_63 (by decide) ?_
    refine en_iadd d_Mo_composes_64 ?_
    refine en_eq rfl (show _ = [.int (nI 143), .ref 56, .int (nI (fn 142)), .int (nI (fn 136)), .int (nI (fn 135)), .ref 47] from rfl) rfl ?_
    refine ew_iald (j := 143) d_Mo_composes_65 rfl (rfl) (by decide) (by decide) ?_
    refine en_eq (st' := [.int (nI (fn 143)), .int (nI (fn 142)), .int (nI (fn 136)), .int (nI (fn 135)), .ref 47]) rfl (by rw [show ((sp_rl M (nI (fn 121)) (nI (fn 122)) (nI (fn 128)) (nI (fn 129))) 56 143) = (nI (fn 143)) from by first | exact (hfn 143 (by decide)).1 | (rw [sp_rl_ne (by decide)]; exact (hfn 143 (by decide)).1) | (rw [sp_rl_ne (by decide), sp_rl_ne (by decide)]; exact (hfn 143 (by decide)).1)]) rfl ?_
    refine en_callV (As := [.int (nI (fn 135)), .int (nI (fn 136)), .int (nI (fn 142)), .int (nI (fn 143))]) (i := 47) (ci := 9) (st := []) (st1 := []) d_Mo_composes_66 k_Mo_letters rfl rfl tw_727 tw_729 tp_32 rfl (Nat.le_of_ble_eq_true rfl) rfl (Nat.le_of_ble_eq_true rfl) rfl rfl (c_Mo_letters l g _ L (sp_rl M (nI (fn 121)) (nI (fn 122)) (nI (fn 128)) (nI (fn 129))) (nI (fn 135)) (nI (fn 136)) (nI (fn 142)) (nI (fn 143))) rfl ?_
    refine ew_iload_n d_Mo_composes_69 rfl ?_
    refine en_if_eq (tgt := 107) d_Mo_composes_70 (by decide) (by decide) (fun h70_1 => ?_) (fun h70_1 => by exact absurd h70_1 (by decide))
    refine ew_iconst (v := nI 0) d_Mo_composes_107 (by decide) ?_
    refine en_istore_n (ls' := [.ref 47, .int (nI 2), .int (nI j), .int (nI 0), .int (nI 1), .int (nI 135), .int (nI 142)]) d_Mo_composes_108 (Nat.le_of_ble_eq_true rfl) rfl ?_
    refine en_inc (ls' := [.ref 47, .int (nI 2), .int (nI j), .int (nI 0), .int (nI 2), .int (nI 135), .int (nI 142)]) d_Mo_composes_109 rfl rfl ?_
    refine ew_goto (tgt := 5) d_Mo_composes_112 (by decide) ?_
    refine ew_iload d_Mo_composes_5 rfl ?_
    refine ew_iconst (v := nI 2) d_Mo_composes_7 (by decide) ?_
    refine en_icmp_ge (tgt := 115) d_Mo_composes_8 (by decide) (by decide) (by decide) (fun h8_2 => ?_) (fun h8_2 => by exact absurd h8_2 (by decide))
    refine ew_iload_n d_Mo_composes_115 rfl ?_
    exact ew_zret d_Mo_composes_116 rfl (by decide) (⟨rfl, by rw [show (sp_vo2 ρ fn j A 0 && sp_vo2 ρ fn j A 1) = false from by rw [show sp_vo2 ρ fn j A 0 = false from decide_eq_false (fun q => h100 q.symm), Bool.false_and]]; rfl, fun q hq => by rw [sp_rl_ne hq, sp_rl_ne hq]⟩)
  · refine ew_iconst (v := nI 1) d_Mo_composes_103 (by decide) ?_
    refine ew_goto (tgt := 108) d_Mo_composes_104 (by decide) ?_
    refine en_istore_n (ls' := [.ref 47, .int (nI 2), .int (nI j), .int (nI 1), .int (nI 0), .int (nI 121), .int (nI 128)]) d_Mo_composes_108 (Nat.le_of_ble_eq_true rfl) rfl ?_
    refine en_inc (ls' := [.ref 47, .int (nI 2), .int (nI j), .int (nI 1), .int (nI 1), .int (nI 121), .int (nI 128)]) d_Mo_composes_109 rfl rfl ?_
    refine ew_goto (tgt := 5) d_Mo_composes_112 (by decide) ?_
    refine ew_iload d_Mo_composes_5 rfl ?_
    refine ew_iconst (v := nI 2) d_Mo_composes_7 (by decide) ?_
    refine en_icmp_ge (tgt := 115) d_Mo_composes_8 (by decide) (by decide) (by decide) (fun h8_1 => by exact absurd h8_1 (by decide)) (fun h8_1 => ?_)
    refine ew_iload_n d_Mo_composes_11 rfl ?_
    refine ew_iconst (v := nI 2) d_Mo_composes_12 (by decide) ?_
    refine ew_iload d_Mo_composes_13 rfl ?_
    refine en_imul d_Mo_composes_15 ?_
    refine en_eq rfl (show _ = [.int (nI 2), .int (nI 2)] from rfl) rfl ?_
    refine en_callS (As := [.int (nI 2), .int (nI 2)]) (st := []) (st1 := [.int (nI 135)]) d_Mo_composes_16 k_Mo_placeOf tw_819 tw_820 rfl (Nat.le_of_ble_eq_true rfl) rfl (Nat.le_of_ble_eq_true rfl) rfl rfl (c_Mo_placeOf_2_2 l g _ L (sp_rl M (nI (fn 121)) (nI (fn 122)) (nI (fn 128)) (nI (fn 129)))) rfl ?_
    refine en_istore (ls' := [.ref 47, .int (nI 2), .int (nI j), .int (nI 1), .int (nI 1), .int (nI 135), .int (nI 128)]) d_Mo_composes_19 (Nat.le_of_ble_eq_true rfl) rfl ?_
    refine ew_iload_n d_Mo_composes_21 rfl ?_
    refine ew_iconst (v := nI 2) d_Mo_composes_22 (by decide) ?_
    refine ew_iload d_Mo_composes_23 rfl ?_
    refine en_imul d_Mo_composes_25 ?_
    refine en_eq rfl (show _ = [.int (nI 2), .int (nI 2)] from rfl) rfl ?_
    refine ew_iconst (v := nI 1) d_Mo_composes_26 (by decide) ?_
    refine en_iadd d_Mo_composes_27 ?_
    refine en_eq rfl (show _ = [.int (nI 3), .int (nI 2)] from rfl) rfl ?_
    refine en_callS (As := [.int (nI 2), .int (nI 3)]) (st := []) (st1 := [.int (nI 142)]) d_Mo_composes_28 k_Mo_placeOf tw_819 tw_820 rfl (Nat.le_of_ble_eq_true rfl) rfl (Nat.le_of_ble_eq_true rfl) rfl rfl (c_Mo_placeOf_2_3 l g _ L (sp_rl M (nI (fn 121)) (nI (fn 122)) (nI (fn 128)) (nI (fn 129)))) rfl ?_
    refine en_istore (ls' := [.ref 47, .int (nI 2), .int (nI j), .int (nI 1), .int (nI 1), .int (nI 135), .int (nI 142)]) d_Mo_composes_31 (Nat.le_of_ble_eq_true rfl) rfl ?_
    refine ew_aload_n d_Mo_composes_33 rfl ?_
    refine ew_aload_n d_Mo_composes_34 rfl ?_
    refine ew_getr (ci := 9) (f := 10) d_Mo_composes_35 rfl rfl rfl tw_602 ?_
    refine ew_iload d_Mo_composes_38 rfl ?_
    refine ew_iald (j := 135) d_Mo_composes_40 rfl (rfl) (by decide) (by decide) ?_
    refine en_eq (st' := [.int (nI (fn 135)), .ref 47]) rfl (by rw [show ((sp_rl M (nI (fn 121)) (nI (fn 122)) (nI (fn 128)) (nI (fn 129))) 56 135) = (nI (fn 135)) from by first | exact (hfn 135 (by decide)).1 | (rw [sp_rl_ne (by decide)]; exact (hfn 135 (by decide)).1) | (rw [sp_rl_ne (by decide), sp_rl_ne (by decide)]; exact (hfn 135 (by decide)).1)]) rfl ?_
    refine ew_aload_n d_Mo_composes_41 rfl ?_
    refine ew_getr (ci := 9) (f := 10) d_Mo_composes_42 rfl rfl rfl tw_602 ?_
    refine ew_iload d_Mo_composes_45 rfl ?_
    refine ew_iconst (v := nI 1) d_Mo_composes_47 (by decide) ?_
    refine en_iadd d_Mo_composes_48 ?_
    refine en_eq rfl (show _ = [.int (nI 136), .ref 56, .int (nI (fn 135)), .ref 47] from rfl) rfl ?_
    refine ew_iald (j := 136) d_Mo_composes_49 rfl (rfl) (by decide) (by decide) ?_
    refine en_eq (st' := [.int (nI (fn 136)), .int (nI (fn 135)), .ref 47]) rfl (by rw [show ((sp_rl M (nI (fn 121)) (nI (fn 122)) (nI (fn 128)) (nI (fn 129))) 56 136) = (nI (fn 136)) from by first | exact (hfn 136 (by decide)).1 | (rw [sp_rl_ne (by decide)]; exact (hfn 136 (by decide)).1) | (rw [sp_rl_ne (by decide), sp_rl_ne (by decide)]; exact (hfn 136 (by decide)).1)]) rfl ?_
    refine ew_aload_n d_Mo_composes_50 rfl ?_
    refine ew_getr (ci := 9) (f := 10) d_Mo_composes_51 rfl rfl rfl tw_602 ?_
    refine ew_iload d_Mo_composes_54 rfl ?_
    refine ew_iald (j := 142) d_Mo_composes_56 rfl (rfl) (by decide) (by decide) ?_
    refine en_eq (st' := [.int (nI (fn 142)), .int (nI (fn 136)), .int (nI (fn 135)), .ref 47]) rfl (by rw [show ((sp_rl M (nI (fn 121)) (nI (fn 122)) (nI (fn 128)) (nI (fn 129))) 56 142) = (nI (fn 142)) from by first | exact (hfn 142 (by decide)).1 | (rw [sp_rl_ne (by decide)]; exact (hfn 142 (by decide)).1) | (rw [sp_rl_ne (by decide), sp_rl_ne (by decide)]; exact (hfn 142 (by decide)).1)]) rfl ?_
    refine ew_aload_n d_Mo_composes_57 rfl ?_
    refine ew_getr (ci := 9) (f := 10) d_Mo_composes_58 rfl rfl rfl tw_602 ?_
    refine ew_iload d_Mo_composes_61 rfl ?_
    refine ew_iconst (v := nI 1) d_Mo_composes_63 (by decide) ?_
    refine en_iadd d_Mo_composes_64 ?_
    refine en_eq rfl (show _ = [.int (nI 143), .ref 56, .int (nI (fn 142)), .int (nI (fn 136)), .int (nI (fn 135)), .ref 47] from rfl) rfl ?_
    refine ew_iald (j := 143) d_Mo_composes_65 rfl (rfl) (by decide) (by decide) ?_
    refine en_eq (st' := [.int (nI (fn 143)), .int (nI (fn 142)), .int (nI (fn 136)), .int (nI (fn 135)), .ref 47]) rfl (by rw [show ((sp_rl M (nI (fn 121)) (nI (fn 122)) (nI (fn 128)) (nI (fn 129))) 56 143) = (nI (fn 143)) from by first | exact (hfn 143 (by decide)).1 | (rw [sp_rl_ne (by decide)]; exact (hfn 143 (by decide)).1) | (rw [sp_rl_ne (by decide), sp_rl_ne (by decide)]; exact (hfn 143 (by decide)).1)]) rfl ?_
    refine en_callV (As := [.int (nI (fn 135)), .int (nI (fn 136)), .int (nI (fn 142)), .int (nI (fn 143))]) (i := 47) (ci := 9) (st := []) (st1 := []) d_Mo_composes_66 k_Mo_letters rfl rfl tw_727 tw_729 tp_32 rfl (Nat.le_of_ble_eq_true rfl) rfl (Nat.le_of_ble_eq_true rfl) rfl rfl (c_Mo_letters l g _ L (sp_rl M (nI (fn 121)) (nI (fn 122)) (nI (fn 128)) (nI (fn 129))) (nI (fn 135)) (nI (fn 136)) (nI (fn 142)) (nI (fn 143))) rfl ?_
    refine ew_iload_n d_Mo_composes_69 rfl ?_
    refine en_if_eq (tgt := 107) d_Mo_composes_70 (by decide) (by decide) (fun h70_1 => by exact absurd h70_1 (by decide)) (fun h70_1 => ?_)
    refine ew_aload_n d_Mo_composes_73 rfl ?_
    refine ew_getr (ci := 9) (f := 10) d_Mo_composes_74 rfl rfl rfl tw_602 ?_
    refine ew_iload_n d_Mo_composes_77 rfl ?_
    refine ew_iconst (v := nI 4) d_Mo_composes_78 (by decide) ?_
    refine ew_iload d_Mo_composes_79 rfl ?_
    refine en_iadd d_Mo_composes_81 ?_
    refine en_eq rfl (show _ = [.int (nI 5), .int (nI 2), .ref 56] from rfl) rfl ?_
    refine en_callS (As := [.int (nI 2), .int (nI 5)]) (st := [.ref 56]) (st1 := [.int (nI 155), .ref 56]) d_Mo_composes_82 k_Mo_placeOf tw_819 tw_820 rfl (Nat.le_of_ble_eq_true rfl) rfl (Nat.le_of_ble_eq_true rfl) rfl rfl (c_Mo_placeOf_2_5 l g _ L (sp_rl (sp_rl M (nI (fn 121)) (nI (fn 122)) (nI (fn 128)) (nI (fn 129))) (nI (fn 135)) (nI (fn 136)) (nI (fn 142)) (nI (fn 143)))) rfl ?_
    refine ew_iald (j := 155) d_Mo_composes_85 rfl (rfl) (by decide) (by decide) ?_
    refine en_eq (st' := [.int (nI (fn 155))]) rfl (by rw [show ((sp_rl (sp_rl M (nI (fn 121)) (nI (fn 122)) (nI (fn 128)) (nI (fn 129))) (nI (fn 135)) (nI (fn 136)) (nI (fn 142)) (nI (fn 143))) 56 155) = (nI (fn 155)) from by first | exact (hfn 155 (by decide)).1 | (rw [sp_rl_ne (by decide)]; exact (hfn 155 (by decide)).1) | (rw [sp_rl_ne (by decide), sp_rl_ne (by decide)]; exact (hfn 155 (by decide)).1)]) rfl ?_
    refine ew_aload_n d_Mo_composes_86 rfl ?_
    refine ew_iload_n d_Mo_composes_87 rfl ?_
    refine ew_bipush (v := nI 16) d_Mo_composes_88 (by decide) ?_
    refine ew_iload d_Mo_composes_90 rfl ?_
    refine en_imul d_Mo_composes_92 ?_
    refine en_eq rfl (show _ = [.int (nI 16), .int (nI j), .ref 47, .int (nI (fn 155))] from rfl) rfl ?_
    refine en_iadd d_Mo_composes_93 ?_
    refine ew_bipush (v := nI 32) d_Mo_composes_94 (by decide) ?_
    refine en_irem d_Mo_composes_96 (by omega) (by decide) (by decide) ?_
    refine en_eq (st' := [.int (nI (j % 16 + 16 * 1)), .ref 47, .int (nI (fn 155))]) rfl (by rw [show (nI ((j + 16) % 32)) = (nI (j % 16 + 16 * 1)) from congrArg nI (by omega)]) rfl ?_
    refine en_callV (As := [.int (nI (j % 16 + 16 * 1))]) (i := 47) (ci := 9) (st := [.int (nI (fn 155))]) (st1 := [.int (nI (sp_com ρ (sp_le (fn 135) (fn 136) (fn 142) (fn 143)) (j % 16 + 16 * 1) A)), .int (nI (fn 155))]) d_Mo_composes_97 k_Mo_composition rfl rfl tw_775 tw_777 tp_39 rfl (Nat.le_of_ble_eq_true rfl) rfl (Nat.le_of_ble_eq_true rfl) rfl rfl (c_Mo_composition l g _ L (sp_rl (sp_rl M (nI (fn 121)) (nI (fn 122)) (nI (fn 128)) (nI (fn 129))) (nI (fn 135)) (nI (fn 136)) (nI (fn 142)) (nI (fn 143))) ρ (sp_rm_rl (sp_rm_rl hr)) (sp_le (fn 135) (fn 136) (fn 142) (fn 143)) (sp_rl_le (hfn 135 (by decide)).2 (hfn 136 (by decide)).2 (hfn 142 (by decide)).2 (hfn 143 (by decide)).2) (sp_rts_of hR (by rw [sp_rl_ne (by decide), sp_rl_ne (by decide)])) (j % 16 + 16 * 1) A (by omega) hA (by rw [sp_rl_ne (by decide), sp_rl_ne (by decide)]; exact hA0)) rfl ?_
    refine en_icmp_ne (tgt := 107) d_Mo_composes_100 (by decide) (by first | exact Nat.lt_trans (hfn _ (by decide)).2 (by decide) | exact Nat.lt_trans (sp_com_lt _ _ _ _) (by decide) | exact Nat.lt_trans (sp_fo_lt _ _ _ _ _) (by decide)) (by first | exact Nat.lt_trans (hfn _ (by decide)).2 (by decide) | exact Nat.lt_trans (sp_com_lt _ _ _ _) (by decide) | exact Nat.lt_trans (sp_fo_lt _ _ _ _ _) (by decide)) (fun h100_1 => ?_) (fun h100_1 => ?_)
    · refine ew_iconst (v := nI 0) d_Mo_composes_107 (by decide) ?_
      refine en_istore_n (ls' := [.ref 47, .int (nI 2), .int (nI j), .int (nI 0), .int (nI 1), .int (nI 135), .int (nI 142)]) d_Mo_composes_108 (Nat.le_of_ble_eq_true rfl) rfl ?_
      refine en_inc (ls' := [.ref 47, .int (nI 2), .int (nI j), .int (nI 0), .int (nI 2), .int (nI 135), .int (nI 142)]) d_Mo_composes_109 rfl rfl ?_
      refine ew_goto (tgt := 5) d_Mo_composes_112 (by decide) ?_
      refine ew_iload d_Mo_composes_5 rfl ?_
      refine ew_iconst (v := nI 2) d_Mo_composes_7 (by decide) ?_
      refine en_icmp_ge (tgt := 115) d_Mo_composes_8 (by decide) (by decide) (by decide) (fun h8_2 => ?_) (fun h8_2 => by exact absurd h8_2 (by decide))
      refine ew_iload_n d_Mo_composes_115 rfl ?_
      exact ew_zret d_Mo_composes_116 rfl (by decide) (⟨rfl, by rw [show (sp_vo2 ρ fn j A 0 && sp_vo2 ρ fn j A 1) = false from by rw [show sp_vo2 ρ fn j A 1 = false from decide_eq_false (fun q => h100_1 q.symm), Bool.and_false]]; rfl, fun q hq => by rw [sp_rl_ne hq, sp_rl_ne hq]⟩)
    · refine ew_iconst (v := nI 1) d_Mo_composes_103 (by decide) ?_
      refine ew_goto (tgt := 108) d_Mo_composes_104 (by decide) ?_
      refine en_istore_n (ls' := [.ref 47, .int (nI 2), .int (nI j), .int (nI 1), .int (nI 1), .int (nI 135), .int (nI 142)]) d_Mo_composes_108 (Nat.le_of_ble_eq_true rfl) rfl ?_
      refine en_inc (ls' := [.ref 47, .int (nI 2), .int (nI j), .int (nI 1), .int (nI 2), .int (nI 135), .int (nI 142)]) d_Mo_composes_109 rfl rfl ?_
      refine ew_goto (tgt := 5) d_Mo_composes_112 (by decide) ?_
      refine ew_iload d_Mo_composes_5 rfl ?_
      refine ew_iconst (v := nI 2) d_Mo_composes_7 (by decide) ?_
      refine en_icmp_ge (tgt := 115) d_Mo_composes_8 (by decide) (by decide) (by decide) (fun h8_2 => ?_) (fun h8_2 => by exact absurd h8_2 (by decide))
      refine ew_iload_n d_Mo_composes_115 rfl ?_
      exact ew_zret d_Mo_composes_116 rfl (by decide) (⟨rfl, by rw [show (sp_vo2 ρ fn j A 0 && sp_vo2 ρ fn j A 1) = true from by rw [show sp_vo2 ρ fn j A 0 = true from decide_eq_true h100.symm, show sp_vo2 ρ fn j A 1 = true from decide_eq_true h100_1.symm]; rfl]; rfl, fun q hq => by rw [sp_rl_ne hq, sp_rl_ne hq]⟩)
set_option maxRecDepth 100000 in
theorem c_Mo_folds20 (l : Launch) (g : ew_G) (d L : Nat) (M : ew_M) (fn : Nat → Nat) (hfn : sp_fnok (M 56) fn) (hR : sp_rts M) (B : Nat) (hB : B < 12289) (hB0 : M 57 0 = nI B) (j : Nat) (hj : j < 16) :
    Ew l g (d + 3) 0 0 m_Mo_folds 0 [.ref 47, .int (nI 2), .int (nI j), .int (nI 0), .retAddr 0, .retAddr 0, .retAddr 0] [] (ew_SH L) M (ew_q (some (.int (ew_b (decide (sp_vf20 fn j B = sp_vb20 fn j))))) (ew_SH L) M) := by
  refine ew_bipush (v := nI 16) d_Mo_folds_0 (by decide) ?_
  refine ew_iload_n d_Mo_folds_2 rfl ?_
  refine ew_ishr d_Mo_folds_3 ?_
  refine en_eq (st' := [.int (nI 16)]) rfl (by rw [show ((nI 16) >>> ((nI 0) &&& 31)) = (nI 16) from by decide]) rfl ?_
  refine en_istore (ls' := [.ref 47, .int (nI 2), .int (nI j), .int (nI 0), .int (nI 16), .retAddr 0, .retAddr 0]) d_Mo_folds_4 (Nat.le_of_ble_eq_true rfl) rfl ?_
  refine ew_iload_n d_Mo_folds_6 rfl ?_
  refine ew_iload d_Mo_folds_7 rfl ?_
  refine en_irem d_Mo_folds_9 (by omega) (by decide) (by decide) ?_
  refine en_istore (ls' := [.ref 47, .int (nI 2), .int (nI j), .int (nI 0), .int (nI 16), .int (nI (j % 16)), .retAddr 0]) d_Mo_folds_10 (Nat.le_of_ble_eq_true rfl) rfl ?_
  refine ew_aload_n d_Mo_folds_12 rfl ?_
  refine ew_iload_n d_Mo_folds_13 rfl ?_
  refine ew_iload d_Mo_folds_14 rfl ?_
  refine ew_aload_n d_Mo_folds_16 rfl ?_
  refine ew_getr (ci := 9) (f := 10) d_Mo_folds_17 rfl rfl rfl tw_602 ?_
  refine ew_iload_n d_Mo_folds_20 rfl ?_
  refine ew_iconst (v := nI 4) d_Mo_folds_21 (by decide) ?_
  refine ew_iconst (v := nI 2) d_Mo_folds_22 (by decide) ?_
  refine ew_iload_n d_Mo_folds_23 rfl ?_
  refine en_imul d_Mo_folds_24 ?_
  refine en_eq rfl (show _ = [.int (nI 0), .int (nI 4), .int (nI 2), .ref 56, .int (nI (j % 16)), .int (nI 0), .ref 47] from rfl) rfl ?_
  refine en_iadd d_Mo_folds_25 ?_
  refine en_eq rfl (show _ = [.int (nI 4), .int (nI 2), .ref 56, .int (nI (j % 16)), .int (nI 0), .ref 47] from rfl) rfl ?_
  refine en_callS (As := [.int (nI 2), .int (nI 4)]) (st := [.ref 56, .int (nI (j % 16)), .int (nI 0), .ref 47]) (st1 := [.int (nI 149), .ref 56, .int (nI (j % 16)), .int (nI 0), .ref 47]) d_Mo_folds_26 k_Mo_placeOf tw_819 tw_820 rfl (Nat.le_of_ble_eq_true rfl) rfl (Nat.le_of_ble_eq_true rfl) rfl rfl (c_Mo_placeOf_2_4 l g _ L M) rfl ?_
  refine ew_iald (j := 149) d_Mo_folds_29 rfl (rfl) (by decide) (by decide) ?_
  refine en_eq (st' := [.int (nI (fn 149)), .int (nI (j % 16)), .int (nI 0), .ref 47]) rfl (by rw [show (M 56 149) = (nI (fn 149)) from by first | exact (hfn 149 (by decide)).1 | (rw [sp_rl_ne (by decide)]; exact (hfn 149 (by decide)).1) | (rw [sp_rl_ne (by decide), sp_rl_ne (by decide)]; exact (hfn 149 (by decide)).1)]) rfl ?_
  refine ew_aload_n d_Mo_folds_30 rfl ?_
  refine ew_getr (ci := 9) (f := 10) d_Mo_folds_31 rfl rfl rfl tw_602 ?_
  refine ew_iload_n d_Mo_folds_34 rfl ?_
  refine ew_iconst (v := nI 5) d_Mo_folds_35 (by decide) ?_
  refine ew_iconst (v := nI 2) d_Mo_folds_36 (by decide) ?_
  refine ew_iload_n d_Mo_folds_37 rfl ?_
  refine en_imul d_Mo_folds_38 ?_
  refine en_eq rfl (show _ = [.int (nI 0), .int (nI 5), .int (nI 2), .ref 56, .int (nI (fn 149)), .int (nI (j % 16)), .int (nI 0), .ref 47] from rfl) rfl ?_
  refine en_iadd d_Mo_folds_39 ?_
  refine en_eq rfl (show _ = [.int (nI 5), .int (nI 2), .ref 56, .int (nI (fn 149)), .int (nI (j % 16)), .int (nI 0), .ref 47] from rfl) rfl ?_
  refine en_callS (As := [.int (nI 2), .int (nI 5)]) (st := [.ref 56, .int (nI (fn 149)), .int (nI (j % 16)), .int (nI 0), .ref 47]) (st1 := [.int (nI 155), .ref 56, .int (nI (fn 149)), .int (nI (j % 16)), .int (nI 0), .ref 47]) d_Mo_folds_40 k_Mo_placeOf tw_819 tw_820 rfl (Nat.le_of_ble_eq_true rfl) rfl (Nat.le_of_ble_eq_true rfl) rfl rfl (c_Mo_placeOf_2_5 l g _ L M) rfl ?_
  refine ew_iald (j := 155) d_Mo_folds_43 rfl (rfl) (by decide) (by decide) ?_
  refine en_eq (st' := [.int (nI (fn 155)), .int (nI (fn 149)), .int (nI (j % 16)), .int (nI 0), .ref 47]) rfl (by rw [show (M 56 155) = (nI (fn 155)) from by first | exact (hfn 155 (by decide)).1 | (rw [sp_rl_ne (by decide)]; exact (hfn 155 (by decide)).1) | (rw [sp_rl_ne (by decide), sp_rl_ne (by decide)]; exact (hfn 155 (by decide)).1)]) rfl ?_
  refine en_callV (As := [.int (nI 0), .int (nI (j % 16)), .int (nI (fn 149)), .int (nI (fn 155))]) (i := 47) (ci := 9) (st := []) (st1 := [.int (nI (sp_fo 1 (j % 16) (fn 149) (fn 155) B))]) d_Mo_folds_44 k_Mo_folded rfl rfl tw_783 tw_785 tp_41 rfl (Nat.le_of_ble_eq_true rfl) rfl (Nat.le_of_ble_eq_true rfl) rfl rfl (c_Mo_folded0 l g _ L M (hR) (j % 16) (fn 149) (fn 155) B (by omega) ((hfn _ (by decide)).2) ((hfn _ (by decide)).2) (hB) (hB0)) rfl ?_
  refine en_istore (ls' := [.ref 47, .int (nI 2), .int (nI j), .int (nI 0), .int (nI 16), .int (nI (j % 16)), .int (nI (sp_fo 1 (j % 16) (fn 149) (fn 155) B))]) d_Mo_folds_47 (Nat.le_of_ble_eq_true rfl) rfl ?_
  refine ew_iload_n d_Mo_folds_49 rfl ?_
  refine ew_iconst (v := nI 2) d_Mo_folds_50 (by decide) ?_
  refine en_icmp_ne (tgt := 71) d_Mo_folds_51 (by decide) (by decide) (by decide) (fun h51 => ?_) (fun h51 => by exact absurd h51 (by decide))
  refine ew_iload d_Mo_folds_71 rfl ?_
  refine ew_aload_n d_Mo_folds_73 rfl ?_
  refine ew_getr (ci := 9) (f := 10) d_Mo_folds_74 rfl rfl rfl tw_602 ?_
  refine ew_iload_n d_Mo_folds_77 rfl ?_
  refine ew_bipush (v := nI 6) d_Mo_folds_78 (by decide) ?_
  refine ew_iconst (v := nI 2) d_Mo_folds_80 (by decide) ?_
  refine ew_iload_n d_Mo_folds_81 rfl ?_
  refine en_imul d_Mo_folds_82 ?_
  refine en_eq rfl (show _ = [.int (nI 0), .int (nI 6), .int (nI 2), .ref 56, .int (nI (sp_fo 1 (j % 16) (fn 149) (fn 155) B))] from rfl) rfl ?_
  refine en_iadd d_Mo_folds_83 ?_
  refine en_eq rfl (show _ = [.int (nI 6), .int (nI 2), .ref 56, .int (nI (sp_fo 1 (j % 16) (fn 149) (fn 155) B))] from rfl) rfl ?_
  refine ew_iload d_Mo_folds_84 rfl ?_
  refine ew_iload d_Mo_folds_86 rfl ?_
  refine ew_iconst (v := nI 2) d_Mo_folds_88 (by decide) ?_
  refine en_idiv d_Mo_folds_89 (by first | with_reducible assumption | with_reducible exact ep_lt _ | with_reducible exact sp_its_lt _ _ _ | with_reducible exact tb_l_rt _ | with_reducible exact tb_l_x _ | with_reducible exact tb_l_o0 _ | with_reducible exact tb_l_o1 _ | with_reducible exact tb_l_va _ | with_reducible exact tb_l_ll _ | with_reducible exact tb_l_cf _ | with_reducible exact tb_l_kf _ | with_reducible exact sp_ts_lt _ _ _ _ | with_reducible exact sp_w_lt _ _ | with_reducible exact sp_cs_lt _ _ _ _ _ | with_reducible exact sp_cb_lt _ _ _ _ _ | with_reducible exact sp_ch_lt _ | with_reducible exact sp_bf_lt _ _ | with_reducible exact sp_va_lt _ _ _ | with_reducible exact sp_be_lt _ _ | with_reducible exact sp_p_lt _ _ _ | with_reducible exact sp_com_lt _ _ _ _ | with_reducible exact sp_fo_lt _ _ _ _ _ | omega) (by decide) (by decide) ?_
  refine en_eq rfl (show _ = [.int (nI 8), .int (nI (j % 16)), .int (nI 6), .int (nI 2), .ref 56, .int (nI (sp_fo 1 (j % 16) (fn 149) (fn 155) B))] from rfl) rfl ?_
  refine en_icmp_lt (tgt := 97) d_Mo_folds_90 (by decide) (by omega) (by omega) (fun h90 => ?_) (fun h90 => ?_)
  · refine ew_iconst (v := nI 0) d_Mo_folds_97 (by decide) ?_
    refine en_iadd d_Mo_folds_98 ?_
    refine en_eq rfl (show _ = [.int (nI 6), .int (nI 2), .ref 56, .int (nI (sp_fo 1 (j % 16) (fn 149) (fn 155) B))] from rfl) rfl ?_
    refine en_callS (As := [.int (nI 2), .int (nI 6)]) (st := [.ref 56, .int (nI (sp_fo 1 (j % 16) (fn 149) (fn 155) B))]) (st1 := [.int (nI 161), .ref 56, .int (nI (sp_fo 1 (j % 16) (fn 149) (fn 155) B))]) d_Mo_folds_99 k_Mo_placeOf tw_819 tw_820 rfl (Nat.le_of_ble_eq_true rfl) rfl (Nat.le_of_ble_eq_true rfl) rfl rfl (c_Mo_placeOf_2_6 l g _ L M) rfl ?_
    refine ew_iald (j := 161) d_Mo_folds_102 rfl (rfl) (by decide) (by decide) ?_
    refine en_eq (st' := [.int (nI (fn 161)), .int (nI (sp_fo 1 (j % 16) (fn 149) (fn 155) B))]) rfl (by rw [show (M 56 161) = (nI (fn 161)) from by first | exact (hfn 161 (by decide)).1 | (rw [sp_rl_ne (by decide)]; exact (hfn 161 (by decide)).1) | (rw [sp_rl_ne (by decide), sp_rl_ne (by decide)]; exact (hfn 161 (by decide)).1)]) rfl ?_
    refine en_icmp_ne (tgt := 110) d_Mo_folds_103 (by decide) (by first | exact Nat.lt_trans (hfn _ (by decide)).2 (by decide) | exact Nat.lt_trans (sp_com_lt _ _ _ _) (by decide) | exact Nat.lt_trans (sp_fo_lt _ _ _ _ _) (by decide)) (by first | exact Nat.lt_trans (hfn _ (by decide)).2 (by decide) | exact Nat.lt_trans (sp_com_lt _ _ _ _) (by decide) | exact Nat.lt_trans (sp_fo_lt _ _ _ _ _) (by decide)) (fun h103 => ?_) (fun h103 => ?_)
    · refine ew_iconst (v := nI 0) d_Mo_folds_110 (by decide) ?_
      exact ew_zret d_Mo_folds_111 rfl (by decide) (⟨by rw [show decide (sp_vf20 fn j B = sp_vb20 fn j) = false from decide_eq_false (by unfold sp_vb20; rw [show j % 16 / 8 = 0 by omega]; exact h103)]; rfl, rfl, rfl⟩)
    · refine ew_iconst (v := nI 1) d_Mo_folds_106 (by decide) ?_
      refine ew_goto (tgt := 111) d_Mo_folds_107 (by decide) ?_
      exact ew_zret d_Mo_folds_111 rfl (by decide) (⟨by rw [show decide (sp_vf20 fn j B = sp_vb20 fn j) = true from decide_eq_true (by unfold sp_vb20; rw [show j % 16 / 8 = 0 by omega]; exact h103)]; rfl, rfl, rfl⟩)
  · refine ew_iconst (v := nI 1) d_Mo_folds_93 (by decide) ?_
    refine ew_goto (tgt := 98) d_Mo_folds_94 (by decide) ?_
    refine en_iadd d_Mo_folds_98 ?_
    refine en_eq rfl (show _ = [.int (nI 7), .int (nI 2), .ref 56, .int (nI (sp_fo 1 (j % 16) (fn 149) (fn 155) B))] from rfl) rfl ?_
    refine en_callS (As := [.int (nI 2), .int (nI 7)]) (st := [.ref 56, .int (nI (sp_fo 1 (j % 16) (fn 149) (fn 155) B))]) (st1 := [.int (nI 166), .ref 56, .int (nI (sp_fo 1 (j % 16) (fn 149) (fn 155) B))]) d_Mo_folds_99 k_Mo_placeOf tw_819 tw_820 rfl (Nat.le_of_ble_eq_true rfl) rfl (Nat.le_of_ble_eq_true rfl) rfl rfl (c_Mo_placeOf_2_7 l g _ L M) rfl ?_
    refine ew_iald (j := 166) d_Mo_folds_102 rfl (rfl) (by decide) (by decide) ?_
    refine en_eq (st' := [.int (nI (fn 166)), .int (nI (sp_fo 1 (j % 16) (fn 149) (fn 155) B))]) rfl (by rw [show (M 56 166) = (nI (fn 166)) from by first | exact (hfn 166 (by decide)).1 | (rw [sp_rl_ne (by decide)]; exact (hfn 166 (by decide)).1) | (rw [sp_rl_ne (by decide), sp_rl_ne (by decide)]; exact (hfn 166 (by decide)).1)]) rfl ?_
    refine en_icmp_ne (tgt := 110) d_Mo_folds_103 (by decide) (by first | exact Nat.lt_trans (hfn _ (by decide)).2 (by decide) | exact Nat.lt_trans (sp_com_lt _ _ _ _) (by decide) | exact Nat.lt_trans (sp_fo_lt _ _ _ _ _) (by decide)) (by first | exact Nat.lt_trans (hfn _ (by decide)).2 (by decide) | exact Nat.lt_trans (sp_com_lt _ _ _ _) (by decide) | exact Nat.lt_trans (sp_fo_lt _ _ _ _ _) (by decide)) (fun h103 => ?_) (fun h103 => ?_)
    · refine ew_iconst (v := nI 0) d_Mo_folds_110 (by decide) ?_
      exact ew_zret d_Mo_folds_111 rfl (by decide) (⟨by rw [show decide (sp_vf20 fn j B = sp_vb20 fn j) = false from decide_eq_false (by unfold sp_vb20; rw [show j % 16 / 8 = 1 by omega]; exact h103)]; rfl, rfl, rfl⟩)
    · refine ew_iconst (v := nI 1) d_Mo_folds_106 (by decide) ?_
      refine ew_goto (tgt := 111) d_Mo_folds_107 (by decide) ?_
      exact ew_zret d_Mo_folds_111 rfl (by decide) (⟨by rw [show decide (sp_vf20 fn j B = sp_vb20 fn j) = true from decide_eq_true (by unfold sp_vb20; rw [show j % 16 / 8 = 1 by omega]; exact h103)]; rfl, rfl, rfl⟩)
set_option maxRecDepth 100000 in
theorem c_Mo_folds21 (l : Launch) (g : ew_G) (d L : Nat) (M : ew_M) (fn : Nat → Nat) (hfn : sp_fnok (M 56) fn) (hR : sp_rts M) (B : Nat) (hB : B < 12289) (hB0 : M 57 1 = nI B) (j : Nat) (hj : j < 16) :
    Ew l g (d + 3) 0 0 m_Mo_folds 0 [.ref 47, .int (nI 2), .int (nI j), .int (nI 1), .retAddr 0, .retAddr 0, .retAddr 0] [] (ew_SH L) M (ew_q (some (.int (ew_b (decide (sp_vf21 fn j B = sp_vb21 fn j))))) (ew_SH L) M) := by
  refine ew_bipush (v := nI 16) d_Mo_folds_0 (by decide) ?_
  refine ew_iload_n d_Mo_folds_2 rfl ?_
  refine ew_ishr d_Mo_folds_3 ?_
  refine en_eq (st' := [.int (nI 8)]) rfl (by rw [show ((nI 16) >>> ((nI 1) &&& 31)) = (nI 8) from by decide]) rfl ?_
  refine en_istore (ls' := [.ref 47, .int (nI 2), .int (nI j), .int (nI 1), .int (nI 8), .retAddr 0, .retAddr 0]) d_Mo_folds_4 (Nat.le_of_ble_eq_true rfl) rfl ?_
  refine ew_iload_n d_Mo_folds_6 rfl ?_
  refine ew_iload d_Mo_folds_7 rfl ?_
  refine en_irem d_Mo_folds_9 (by omega) (by decide) (by decide) ?_
  refine en_istore (ls' := [.ref 47, .int (nI 2), .int (nI j), .int (nI 1), .int (nI 8), .int (nI (j % 8)), .retAddr 0]) d_Mo_folds_10 (Nat.le_of_ble_eq_true rfl) rfl ?_
  refine ew_aload_n d_Mo_folds_12 rfl ?_
  refine ew_iload_n d_Mo_folds_13 rfl ?_
  refine ew_iload d_Mo_folds_14 rfl ?_
  refine ew_aload_n d_Mo_folds_16 rfl ?_
  refine ew_getr (ci := 9) (f := 10) d_Mo_folds_17 rfl rfl rfl tw_602 ?_
  refine ew_iload_n d_Mo_folds_20 rfl ?_
  refine ew_iconst (v := nI 4) d_Mo_folds_21 (by decide) ?_
  refine ew_iconst (v := nI 2) d_Mo_folds_22 (by decide) ?_
  refine ew_iload_n d_Mo_folds_23 rfl ?_
  refine en_imul d_Mo_folds_24 ?_
  refine en_eq rfl (show _ = [.int (nI 2), .int (nI 4), .int (nI 2), .ref 56, .int (nI (j % 8)), .int (nI 1), .ref 47] from rfl) rfl ?_
  refine en_iadd d_Mo_folds_25 ?_
  refine en_eq rfl (show _ = [.int (nI 6), .int (nI 2), .ref 56, .int (nI (j % 8)), .int (nI 1), .ref 47] from rfl) rfl ?_
  refine en_callS (As := [.int (nI 2), .int (nI 6)]) (st := [.ref 56, .int (nI (j % 8)), .int (nI 1), .ref 47]) (st1 := [.int (nI 161), .ref 56, .int (nI (j % 8)), .int (nI 1), .ref 47]) d_Mo_folds_26 k_Mo_placeOf tw_819 tw_820 rfl (Nat.le_of_ble_eq_true rfl) rfl (Nat.le_of_ble_eq_true rfl) rfl rfl (c_Mo_placeOf_2_6 l g _ L M) rfl ?_
  refine ew_iald (j := 161) d_Mo_folds_29 rfl (rfl) (by decide) (by decide) ?_
  refine en_eq (st' := [.int (nI (fn 161)), .int (nI (j % 8)), .int (nI 1), .ref 47]) rfl (by rw [show (M 56 161) = (nI (fn 161)) from by first | exact (hfn 161 (by decide)).1 | (rw [sp_rl_ne (by decide)]; exact (hfn 161 (by decide)).1) | (rw [sp_rl_ne (by decide), sp_rl_ne (by decide)]; exact (hfn 161 (by decide)).1)]) rfl ?_
  refine ew_aload_n d_Mo_folds_30 rfl ?_
  refine ew_getr (ci := 9) (f := 10) d_Mo_folds_31 rfl rfl rfl tw_602 ?_
  refine ew_iload_n d_Mo_folds_34 rfl ?_
  refine ew_iconst (v := nI 5) d_Mo_folds_35 (by decide) ?_
  refine ew_iconst (v := nI 2) d_Mo_folds_36 (by decide) ?_
  refine ew_iload_n d_Mo_folds_37 rfl ?_
  refine en_imul d_Mo_folds_38 ?_
  refine en_eq rfl (show _ = [.int (nI 2), .int (nI 5), .int (nI 2), .ref 56, .int (nI (fn 161)), .int (nI (j % 8)), .int (nI 1), .ref 47] from rfl) rfl ?_
  refine en_iadd d_Mo_folds_39 ?_
  refine en_eq rfl (show _ = [.int (nI 7), .int (nI 2), .ref 56, .int (nI (fn 161)), .int (nI (j % 8)), .int (nI 1), .ref 47] from rfl) rfl ?_
  refine en_callS (As := [.int (nI 2), .int (nI 7)]) (st := [.ref 56, .int (nI (fn 161)), .int (nI (j % 8)), .int (nI 1), .ref 47]) (st1 := [.int (nI 166), .ref 56, .int (nI (fn 161)), .int (nI (j % 8)), .int (nI 1), .ref 47]) d_Mo_folds_40 k_Mo_placeOf tw_819 tw_820 rfl (Nat.le_of_ble_eq_true rfl) rfl (Nat.le_of_ble_eq_true rfl) rfl rfl (c_Mo_placeOf_2_7 l g _ L M) rfl ?_
  refine ew_iald (j := 166) d_Mo_folds_43 rfl (rfl) (by decide) (by decide) ?_
  refine en_eq (st' := [.int (nI (fn 166)), .int (nI (fn 161)), .int (nI (j % 8)), .int (nI 1), .ref 47]) rfl (by rw [show (M 56 166) = (nI (fn 166)) from by first | exact (hfn 166 (by decide)).1 | (rw [sp_rl_ne (by decide)]; exact (hfn 166 (by decide)).1) | (rw [sp_rl_ne (by decide), sp_rl_ne (by decide)]; exact (hfn 166 (by decide)).1)]) rfl ?_
  refine en_callV (As := [.int (nI 1), .int (nI (j % 8)), .int (nI (fn 161)), .int (nI (fn 166))]) (i := 47) (ci := 9) (st := []) (st1 := [.int (nI (sp_fo 2 (j % 8) (fn 161) (fn 166) B))]) d_Mo_folds_44 k_Mo_folded rfl rfl tw_783 tw_785 tp_41 rfl (Nat.le_of_ble_eq_true rfl) rfl (Nat.le_of_ble_eq_true rfl) rfl rfl (c_Mo_folded1 l g _ L M (hR) (j % 8) (fn 161) (fn 166) B (by omega) ((hfn _ (by decide)).2) ((hfn _ (by decide)).2) (hB) (hB0)) rfl ?_
  refine en_istore (ls' := [.ref 47, .int (nI 2), .int (nI j), .int (nI 1), .int (nI 8), .int (nI (j % 8)), .int (nI (sp_fo 2 (j % 8) (fn 161) (fn 166) B))]) d_Mo_folds_47 (Nat.le_of_ble_eq_true rfl) rfl ?_
  refine ew_iload_n d_Mo_folds_49 rfl ?_
  refine ew_iconst (v := nI 2) d_Mo_folds_50 (by decide) ?_
  refine en_icmp_ne (tgt := 71) d_Mo_folds_51 (by decide) (by decide) (by decide) (fun h51 => ?_) (fun h51 => by exact absurd h51 (by decide))
  refine ew_iload d_Mo_folds_71 rfl ?_
  refine ew_aload_n d_Mo_folds_73 rfl ?_
  refine ew_getr (ci := 9) (f := 10) d_Mo_folds_74 rfl rfl rfl tw_602 ?_
  refine ew_iload_n d_Mo_folds_77 rfl ?_
  refine ew_bipush (v := nI 6) d_Mo_folds_78 (by decide) ?_
  refine ew_iconst (v := nI 2) d_Mo_folds_80 (by decide) ?_
  refine ew_iload_n d_Mo_folds_81 rfl ?_
  refine en_imul d_Mo_folds_82 ?_
  refine en_eq rfl (show _ = [.int (nI 2), .int (nI 6), .int (nI 2), .ref 56, .int (nI (sp_fo 2 (j % 8) (fn 161) (fn 166) B))] from rfl) rfl ?_
  refine en_iadd d_Mo_folds_83 ?_
  refine en_eq rfl (show _ = [.int (nI 8), .int (nI 2), .ref 56, .int (nI (sp_fo 2 (j % 8) (fn 161) (fn 166) B))] from rfl) rfl ?_
  refine ew_iload d_Mo_folds_84 rfl ?_
  refine ew_iload d_Mo_folds_86 rfl ?_
  refine ew_iconst (v := nI 2) d_Mo_folds_88 (by decide) ?_
  refine en_idiv d_Mo_folds_89 (by first | with_reducible assumption | with_reducible exact ep_lt _ | with_reducible exact sp_its_lt _ _ _ | with_reducible exact tb_l_rt _ | with_reducible exact tb_l_x _ | with_reducible exact tb_l_o0 _ | with_reducible exact tb_l_o1 _ | with_reducible exact tb_l_va _ | with_reducible exact tb_l_ll _ | with_reducible exact tb_l_cf _ | with_reducible exact tb_l_kf _ | with_reducible exact sp_ts_lt _ _ _ _ | with_reducible exact sp_w_lt _ _ | with_reducible exact sp_cs_lt _ _ _ _ _ | with_reducible exact sp_cb_lt _ _ _ _ _ | with_reducible exact sp_ch_lt _ | with_reducible exact sp_bf_lt _ _ | with_reducible exact sp_va_lt _ _ _ | with_reducible exact sp_be_lt _ _ | with_reducible exact sp_p_lt _ _ _ | with_reducible exact sp_com_lt _ _ _ _ | with_reducible exact sp_fo_lt _ _ _ _ _ | omega) (by decide) (by decide) ?_
  refine en_eq rfl (show _ = [.int (nI 4), .int (nI (j % 8)), .int (nI 8), .int (nI 2), .ref 56, .int (nI (sp_fo 2 (j % 8) (fn 161) (fn 166) B))] from rfl) rfl ?_
  refine en_icmp_lt (tgt := 97) d_Mo_folds_90 (by decide) (by omega) (by omega) (fun h90 => ?_) (fun h90 => ?_)
  · refine ew_iconst (v := nI 0) d_Mo_folds_97 (by decide) ?_
    refine en_iadd d_Mo_folds_98 ?_
    refine en_eq rfl (show _ = [.int (nI 8), .int (nI 2), .ref 56, .int (nI (sp_fo 2 (j % 8) (fn 161) (fn 166) B))] from rfl) rfl ?_
    refine en_callS (As := [.int (nI 2), .int (nI 8)]) (st := [.ref 56, .int (nI (sp_fo 2 (j % 8) (fn 161) (fn 166) B))]) (st1 := [.int (nI 171), .ref 56, .int (nI (sp_fo 2 (j % 8) (fn 161) (fn 166) B))]) d_Mo_folds_99 k_Mo_placeOf tw_819 tw_820 rfl (Nat.le_of_ble_eq_true rfl) rfl (Nat.le_of_ble_eq_true rfl) rfl rfl (c_Mo_placeOf_2_8 l g _ L M) rfl ?_
    refine ew_iald (j := 171) d_Mo_folds_102 rfl (rfl) (by decide) (by decide) ?_
    refine en_eq (st' := [.int (nI (fn 171)), .int (nI (sp_fo 2 (j % 8) (fn 161) (fn 166) B))]) rfl (by rw [show (M 56 171) = (nI (fn 171)) from by first | exact (hfn 171 (by decide)).1 | (rw [sp_rl_ne (by decide)]; exact (hfn 171 (by decide)).1) | (rw [sp_rl_ne (by decide), sp_rl_ne (by decide)]; exact (hfn 171 (by decide)).1)]) rfl ?_
    refine en_icmp_ne (tgt := 110) d_Mo_folds_103 (by decide) (by first | exact Nat.lt_trans (hfn _ (by decide)).2 (by decide) | exact Nat.lt_trans (sp_com_lt _ _ _ _) (by decide) | exact Nat.lt_trans (sp_fo_lt _ _ _ _ _) (by decide)) (by first | exact Nat.lt_trans (hfn _ (by decide)).2 (by decide) | exact Nat.lt_trans (sp_com_lt _ _ _ _) (by decide) | exact Nat.lt_trans (sp_fo_lt _ _ _ _ _) (by decide)) (fun h103 => ?_) (fun h103 => ?_)
    · refine ew_iconst (v := nI 0) d_Mo_folds_110 (by decide) ?_
      exact ew_zret d_Mo_folds_111 rfl (by decide) (⟨by rw [show decide (sp_vf21 fn j B = sp_vb21 fn j) = false from decide_eq_false (by unfold sp_vb21; rw [show j % 8 / 4 = 0 by omega]; exact h103)]; rfl, rfl, rfl⟩)
    · refine ew_iconst (v := nI 1) d_Mo_folds_106 (by decide) ?_
      refine ew_goto (tgt := 111) d_Mo_folds_107 (by decide) ?_
      exact ew_zret d_Mo_folds_111 rfl (by decide) (⟨by rw [show decide (sp_vf21 fn j B = sp_vb21 fn j) = true from decide_eq_true (by unfold sp_vb21; rw [show j % 8 / 4 = 0 by omega]; exact h103)]; rfl, rfl, rfl⟩)
  · refine ew_iconst (v := nI 1) d_Mo_folds_93 (by decide) ?_
    refine ew_goto (tgt := 98) d_Mo_folds_94 (by decide) ?_
    refine en_iadd d_Mo_folds_98 ?_
    refine en_eq rfl (show _ = [.int (nI 9), .int (nI 2), .ref 56, .int (nI (sp_fo 2 (j % 8) (fn 161) (fn 166) B))] from rfl) rfl ?_
    refine en_callS (As := [.int (nI 2), .int (nI 9)]) (st := [.ref 56, .int (nI (sp_fo 2 (j % 8) (fn 161) (fn 166) B))]) (st1 := [.int (nI 175), .ref 56, .int (nI (sp_fo 2 (j % 8) (fn 161) (fn 166) B))]) d_Mo_folds_99 k_Mo_placeOf tw_819 tw_820 rfl (Nat.le_of_ble_eq_true rfl) rfl (Nat.le_of_ble_eq_true rfl) rfl rfl (c_Mo_placeOf_2_9 l g _ L M) rfl ?_
    refine ew_iald (j := 175) d_Mo_folds_102 rfl (rfl) (by decide) (by decide) ?_
    refine en_eq (st' := [.int (nI (fn 175)), .int (nI (sp_fo 2 (j % 8) (fn 161) (fn 166) B))]) rfl (by rw [show (M 56 175) = (nI (fn 175)) from by first | exact (hfn 175 (by decide)).1 | (rw [sp_rl_ne (by decide)]; exact (hfn 175 (by decide)).1) | (rw [sp_rl_ne (by decide), sp_rl_ne (by decide)]; exact (hfn 175 (by decide)).1)]) rfl ?_
    refine en_icmp_ne (tgt := 110) d_Mo_folds_103 (by decide) (by first | exact Nat.lt_trans (hfn _ (by decide)).2 (by decide) | exact Nat.lt_trans (sp_com_lt _ _ _ _) (by decide) | exact Nat.lt_trans (sp_fo_lt _ _ _ _ _) (by decide)) (by first | exact Nat.lt_trans (hfn _ (by decide)).2 (by decide) | exact Nat.lt_trans (sp_com_lt _ _ _ _) (by decide) | exact Nat.lt_trans (sp_fo_lt _ _ _ _ _) (by decide)) (fun h103 => ?_) (fun h103 => ?_)
    · refine ew_iconst (v := nI 0) d_Mo_folds_110 (by decide) ?_
      exact ew_zret d_Mo_folds_111 rfl (by decide) (⟨by rw [show decide (sp_vf21 fn j B = sp_vb21 fn j) = false from decide_eq_false (by unfold sp_vb21; rw [show j % 8 / 4 = 1 by omega]; exact h103)]; rfl, rfl, rfl⟩)
    · refine ew_iconst (v := nI 1) d_Mo_folds_106 (by decide) ?_
      refine ew_goto (tgt := 111) d_Mo_folds_107 (by decide) ?_
      exact ew_zret d_Mo_folds_111 rfl (by decide) (⟨by rw [show decide (sp_vf21 fn j B = sp_vb21 fn j) = true from decide_eq_true (by unfold sp_vb21; rw [show j % 8 / 4 = 1 by omega]; exact h103)]; rfl, rfl, rfl⟩)
set_option maxRecDepth 100000 in
theorem c_Mo_folds22 (l : Launch) (g : ew_G) (d L : Nat) (M : ew_M) (fn : Nat → Nat) (hfn : sp_fnok (M 56) fn) (hR : sp_rts M) (B : Nat) (hB : B < 12289) (hB0 : M 57 2 = nI B) (j : Nat) (hj : j < 16) :
    Ew l g (d + 3) 0 0 m_Mo_folds 0 [.ref 47, .int (nI 2), .int (nI j), .int (nI 2), .retAddr 0, .retAddr 0, .retAddr 0] [] (ew_SH L) M (ew_q (some (.int (ew_b (decide (sp_vf22 fn j B = fn 4))))) (ew_SH L) M) := by
  refine ew_bipush (v := nI 16) d_Mo_folds_0 (by decide) ?_
  refine ew_iload_n d_Mo_folds_2 rfl ?_
  refine ew_ishr d_Mo_folds_3 ?_
  refine en_eq (st' := [.int (nI 4)]) rfl (by rw [show ((nI 16) >>> ((nI 2) &&& 31)) = (nI 4) from by decide]) rfl ?_
  refine en_istore (ls' := [.ref 47, .int (nI 2), .int (nI j), .int (nI 2), .int (nI 4), .retAddr 0, .retAddr 0]) d_Mo_folds_4 (Nat.le_of_ble_eq_true rfl) rfl ?_
  refine ew_iload_n d_Mo_folds_6 rfl ?_
  refine ew_iload d_Mo_folds_7 rfl ?_
  refine en_irem d_Mo_folds_9 (by omega) (by decide) (by decide) ?_
  refine en_istore (ls' := [.ref 47, .int (nI 2), .int (nI j), .int (nI 2), .int (nI 4), .int (nI (j % 4)), .retAddr 0]) d_Mo_folds_10 (Nat.le_of_ble_eq_true rfl) rfl ?_
  refine ew_aload_n d_Mo_folds_12 rfl ?_
  refine ew_iload_n d_Mo_folds_13 rfl ?_
  refine ew_iload d_Mo_folds_14 rfl ?_
  refine ew_aload_n d_Mo_folds_16 rfl ?_
  refine ew_getr (ci := 9) (f := 10) d_Mo_folds_17 rfl rfl rfl tw_602 ?_
  refine ew_iload_n d_Mo_folds_20 rfl ?_
  refine ew_iconst (v := nI 4) d_Mo_folds_21 (by decide) ?_
  refine ew_iconst (v := nI 2) d_Mo_folds_22 (by decide) ?_
  refine ew_iload_n d_Mo_folds_23 rfl ?_
  refine en_imul d_Mo_folds_24 ?_
  refine en_eq rfl (show _ = [.int (nI 4), .int (nI 4), .int (nI 2), .ref 56, .int (nI (j % 4)), .int (nI 2), .ref 47] from rfl) rfl ?_
  refine en_iadd d_Mo_folds_25 ?_
  refine en_eq rfl (show _ = [.int (nI 8), .int (nI 2), .ref 56, .int (nI (j % 4)), .int (nI 2), .ref 47] from rfl) rfl ?_
  refine en_callS (As := [.int (nI 2), .int (nI 8)]) (st := [.ref 56, .int (nI (j % 4)), .int (nI 2), .ref 47]) (st1 := [.int (nI 171), .ref 56, .int (nI (j % 4)), .int (nI 2), .ref 47]) d_Mo_folds_26 k_Mo_placeOf tw_819 tw_820 rfl (Nat.le_of_ble_eq_true rfl) rfl (Nat.le_of_ble_eq_true rfl) rfl rfl (c_Mo_placeOf_2_8 l g _ L M) rfl ?_
  refine ew_iald (j := 171) d_Mo_folds_29 rfl (rfl) (by decide) (by decide) ?_
  refine en_eq (st' := [.int (nI (fn 171)), .int (nI (j % 4)), .int (nI 2), .ref 47]) rfl (by rw [show (M 56 171) = (nI (fn 171)) from by first | exact (hfn 171 (by decide)).1 | (rw [sp_rl_ne (by decide)]; exact (hfn 171 (by decide)).1) | (rw [sp_rl_ne (by decide), sp_rl_ne (by decide)]; exact (hfn 171 (by decide)).1)]) rfl ?_
  refine ew_aload_n d_Mo_folds_30 rfl ?_
  refine ew_getr (ci := 9) (f := 10) d_Mo_folds_31 rfl rfl rfl tw_602 ?_
  refine ew_iload_n d_Mo_folds_34 rfl ?_
  refine ew_iconst (v := nI 5) d_Mo_folds_35 (by decide) ?_
  refine ew_iconst (v := nI 2) d_Mo_folds_36 (by decide) ?_
  refine ew_iload_n d_Mo_folds_37 rfl ?_
  refine en_imul d_Mo_folds_38 ?_
  refine en_eq rfl (show _ = [.int (nI 4), .int (nI 5), .int (nI 2), .ref 56, .int (nI (fn 171)), .int (nI (j % 4)), .int (nI 2), .ref 47] from rfl) rfl ?_
  refine en_iadd d_Mo_folds_39 ?_
  refine en_eq rfl (show _ = [.int (nI 9), .int (nI 2), .ref 56, .int (nI (fn 171)), .int (nI (j % 4)), .int (nI 2), .ref 47] from rfl) rfl ?_
  refine en_callS (As := [.int (nI 2), .int (nI 9)]) (st := [.ref 56, .int (nI (fn 171)), .int (nI (j % 4)), .int (nI 2), .ref 47]) (st1 := [.int (nI 175), .ref 56, .int (nI (fn 171)), .int (nI (j % 4)), .int (nI 2), .ref 47]) d_Mo_folds_40 k_Mo_placeOf tw_819 tw_820 rfl (Nat.le_of_ble_eq_true rfl) rfl (Nat.le_of_ble_eq_true rfl) rfl rfl (c_Mo_placeOf_2_9 l g _ L M) rfl ?_
  refine ew_iald (j := 175) d_Mo_folds_43 rfl (rfl) (by decide) (by decide) ?_
  refine en_eq (st' := [.int (nI (fn 175)), .int (nI (fn 171)), .int (nI (j % 4)), .int (nI 2), .ref 47]) rfl (by rw [show (M 56 175) = (nI (fn 175)) from by first | exact (hfn 175 (by decide)).1 | (rw [sp_rl_ne (by decide)]; exact (hfn 175 (by decide)).1) | (rw [sp_rl_ne (by decide), sp_rl_ne (by decide)]; exact (hfn 175 (by decide)).1)]) rfl ?_
  refine en_callV (As := [.int (nI 2), .int (nI (j % 4)), .int (nI (fn 171)), .int (nI (fn 175))]) (i := 47) (ci := 9) (st := []) (st1 := [.int (nI (sp_fo 4 (j % 4) (fn 171) (fn 175) B))]) d_Mo_folds_44 k_Mo_folded rfl rfl tw_783 tw_785 tp_41 rfl (Nat.le_of_ble_eq_true rfl) rfl (Nat.le_of_ble_eq_true rfl) rfl rfl (c_Mo_folded2 l g _ L M (hR) (j % 4) (fn 171) (fn 175) B (by omega) ((hfn _ (by decide)).2) ((hfn _ (by decide)).2) (hB) (hB0)) rfl ?_
  refine en_istore (ls' := [.ref 47, .int (nI 2), .int (nI j), .int (nI 2), .int (nI 4), .int (nI (j % 4)), .int (nI (sp_fo 4 (j % 4) (fn 171) (fn 175) B))]) d_Mo_folds_47 (Nat.le_of_ble_eq_true rfl) rfl ?_
  refine ew_iload_n d_Mo_folds_49 rfl ?_
  refine ew_iconst (v := nI 2) d_Mo_folds_50 (by decide) ?_
  refine en_icmp_ne (tgt := 71) d_Mo_folds_51 (by decide) (by decide) (by decide) (fun h51 => by exact absurd h51 (by decide)) (fun h51 => ?_)
  refine ew_iload d_Mo_folds_54 rfl ?_
  refine ew_aload_n d_Mo_folds_56 rfl ?_
  refine ew_getr (ci := 9) (f := 10) d_Mo_folds_57 rfl rfl rfl tw_602 ?_
  refine ew_iconst (v := nI 4) d_Mo_folds_60 (by decide) ?_
  refine ew_iald (j := 4) d_Mo_folds_61 rfl (rfl) (by decide) (by decide) ?_
  refine en_eq (st' := [.int (nI (fn 4)), .int (nI (sp_fo 4 (j % 4) (fn 171) (fn 175) B))]) rfl (by rw [show (M 56 4) = (nI (fn 4)) from by first | exact (hfn 4 (by decide)).1 | (rw [sp_rl_ne (by decide)]; exact (hfn 4 (by decide)).1) | (rw [sp_rl_ne (by decide), sp_rl_ne (by decide)]; exact (hfn 4 (by decide)).1)]) rfl ?_
  refine en_icmp_ne (tgt := 69) d_Mo_folds_62 (by decide) (by first | exact Nat.lt_trans (hfn _ (by decide)).2 (by decide) | exact Nat.lt_trans (sp_com_lt _ _ _ _) (by decide) | exact Nat.lt_trans (sp_fo_lt _ _ _ _ _) (by decide)) (by first | exact Nat.lt_trans (hfn _ (by decide)).2 (by decide) | exact Nat.lt_trans (sp_com_lt _ _ _ _) (by decide) | exact Nat.lt_trans (sp_fo_lt _ _ _ _ _) (by decide)) (fun h62 => ?_) (fun h62 => ?_)
  · refine ew_iconst (v := nI 0) d_Mo_folds_69 (by decide) ?_
    exact ew_zret d_Mo_folds_70 rfl (by decide) (⟨by rw [show decide (sp_vf22 fn j B = fn 4) = false from decide_eq_false h62]; rfl, rfl, rfl⟩)
  · refine ew_iconst (v := nI 1) d_Mo_folds_65 (by decide) ?_
    refine ew_goto (tgt := 70) d_Mo_folds_66 (by decide) ?_
    exact ew_zret d_Mo_folds_70 rfl (by decide) (⟨by rw [show decide (sp_vf22 fn j B = fn 4) = true from decide_eq_true h62]; rfl, rfl, rfl⟩)
set_option maxRecDepth 100000 in
theorem c_Mo_code0 (l : Launch) (g : ew_G) (d L : Nat) (M : ew_M) (ρ : sp_R) (hr : sp_rm ρ M) (fn : Nat → Nat) (hfn : sp_fnok (M 56) fn) (hR : sp_rts M) (A : Nat) (hA : A < 12289) (hA0 : M 47 14 = nI A) (B0 : Nat) (hB0 : B0 < 12289) (hC0 : M 57 0 = nI B0) (B1 : Nat) (hB1 : B1 < 12289) (hC1 : M 57 1 = nI B1) (B2 : Nat) (hB2 : B2 < 12289) (hC2 : M 57 2 = nI B2) (j : Nat) (hj : j < 16) (hj0 : M 58 0 = nI j) :
    Ew l g (d + 4) 0 0 m_Mo_code 0 [.ref 47, .int (nI 0), .retAddr 0] [] (ew_SH L) M (sp_mq L M (nI (sp_code0 ρ (M 56) fn j A B0 B1 B2))) := by
  refine ew_aload_n d_Mo_code_0 rfl ?_
  refine ew_getr (ci := 9) (f := 16) d_Mo_code_1 rfl rfl rfl tw_607 ?_
  refine ew_iload_n d_Mo_code_4 rfl ?_
  refine ew_iald (j := 0) d_Mo_code_5 rfl (rfl) (by decide) (by decide) ?_
  refine en_eq (st' := [.int (nI j)]) rfl (by rw [show (M 58 0) = (nI j) from hj0]) rfl ?_
  refine en_istore_n (ls' := [.ref 47, .int (nI 0), .int (nI j)]) d_Mo_code_6 (Nat.le_of_ble_eq_true rfl) rfl ?_
  refine ew_aload_n d_Mo_code_7 rfl ?_
  refine ew_iload_n d_Mo_code_8 rfl ?_
  refine ew_iload_n d_Mo_code_9 rfl ?_
  refine en_callV (As := [.int (nI 0), .int (nI j)]) (i := 47) (ci := 9) (st := []) (st1 := [.int (ew_b (sp_vc0 (M 56) j))]) d_Mo_code_10 k_Mo_opens rfl rfl tw_826 tw_828 tp_48 rfl (Nat.le_of_ble_eq_true rfl) rfl (Nat.le_of_ble_eq_true rfl) rfl rfl (c_Mo_opens0 l g _ L M j hj) rfl ?_
  refine en_b_ne (tgt := 18) d_Mo_code_13 (by decide) (fun h13 => ?_) (fun h13 => ?_)
  · refine ew_aload_n d_Mo_code_18 rfl ?_
    refine ew_iload_n d_Mo_code_19 rfl ?_
    refine ew_iload_n d_Mo_code_20 rfl ?_
    refine ew_iconst (v := nI 0) d_Mo_code_21 (by decide) ?_
    refine en_callV (As := [.int (nI 0), .int (nI j), .int (nI 0)]) (i := 47) (ci := 9) (st := []) (st1 := [.int (ew_b (sp_vl00 (M 56) j))]) d_Mo_code_22 k_Mo_opensLayer rfl rfl tw_834 tw_836 tp_50 rfl (Nat.le_of_ble_eq_true rfl) rfl (Nat.le_of_ble_eq_true rfl) rfl rfl (c_Mo_opensLayer00 l g _ L M j hj) rfl ?_
    refine en_b_ne (tgt := 30) d_Mo_code_25 (by decide) (fun h25 => ?_) (fun h25 => ?_)
    · refine ew_aload_n d_Mo_code_30 rfl ?_
      refine ew_iload_n d_Mo_code_31 rfl ?_
      refine ew_iload_n d_Mo_code_32 rfl ?_
      refine en_callVq (As := [.int (nI 0), .int (nI j)]) (i := 47) (ci := 9) (st := []) d_Mo_code_33 k_Mo_composes rfl rfl tw_838 tw_840 tp_51 rfl (Nat.le_of_ble_eq_true rfl) rfl (Nat.le_of_ble_eq_true rfl) rfl rfl (c_Mo_composes0 l g _ L M ρ hr fn hfn hR A hA hA0 j hj) ?_
      rintro _ _ M1 ⟨rfl, rfl, a1⟩
      show Ew l g _ _ _ m_Mo_code 36 [.ref 47, .int (nI 0), .int (nI j)] [.int (ew_b (sp_vo0 ρ fn j A 0 && sp_vo0 ρ fn j A 1))] (ew_SH L) M1 _
      refine en_b_ne (tgt := 41) d_Mo_code_36 (by decide) (fun h36 => ?_) (fun h36 => ?_)
      · refine ew_aload_n d_Mo_code_41 rfl ?_
        refine ew_iload_n d_Mo_code_42 rfl ?_
        refine ew_iload_n d_Mo_code_43 rfl ?_
        refine ew_iconst (v := nI 1) d_Mo_code_44 (by decide) ?_
        refine en_callV (As := [.int (nI 0), .int (nI j), .int (nI 1)]) (i := 47) (ci := 9) (st := []) (st1 := [.int (ew_b (sp_vl01 (M1 56) j))]) d_Mo_code_45 k_Mo_opensLayer rfl rfl tw_834 tw_836 tp_50 rfl (Nat.le_of_ble_eq_true rfl) rfl (Nat.le_of_ble_eq_true rfl) rfl rfl (c_Mo_opensLayer01 l g _ L M1 j hj) rfl ?_
        refine en_eq (st' := [.int (ew_b (sp_vl01 (M 56) j))]) rfl (by rw [show (ew_b (sp_vl01 (M1 56) j)) = (ew_b (sp_vl01 (M 56) j)) from by rw [a1 56 (by decide)]]) rfl ?_
        refine en_b_ne (tgt := 53) d_Mo_code_48 (by decide) (fun h48 => ?_) (fun h48 => ?_)
        · refine ew_aload_n d_Mo_code_53 rfl ?_
          refine ew_iload_n d_Mo_code_54 rfl ?_
          refine ew_iload_n d_Mo_code_55 rfl ?_
          refine ew_iconst (v := nI 0) d_Mo_code_56 (by decide) ?_
          refine en_callV (As := [.int (nI 0), .int (nI j), .int (nI 0)]) (i := 47) (ci := 9) (st := []) (st1 := [.int (ew_b (decide (sp_vf00 fn j B0 = sp_vb00 fn j)))]) d_Mo_code_57 k_Mo_folds rfl rfl tw_842 tw_844 tp_52 rfl (Nat.le_of_ble_eq_true rfl) rfl (Nat.le_of_ble_eq_true rfl) rfl rfl (c_Mo_folds00 l g _ L M1 fn (by rw [a1 56 (by decide)]; exact hfn) (sp_rts_of hR (a1 60 (by decide))) B0 hB0 (by rw [a1 57 (by decide)]; exact hC0) j hj) rfl ?_
          refine en_b_ne (tgt := 66) d_Mo_code_60 (by decide) (fun h60 => ?_) (fun h60 => ?_)
          · refine ew_aload_n d_Mo_code_66 rfl ?_
            refine ew_iload_n d_Mo_code_67 rfl ?_
            refine ew_iload_n d_Mo_code_68 rfl ?_
            refine ew_iconst (v := nI 2) d_Mo_code_69 (by decide) ?_
            refine en_callV (As := [.int (nI 0), .int (nI j), .int (nI 2)]) (i := 47) (ci := 9) (st := []) (st1 := [.int (ew_b (sp_vl02 (M1 56) j))]) d_Mo_code_70 k_Mo_opensLayer rfl rfl tw_834 tw_836 tp_50 rfl (Nat.le_of_ble_eq_true rfl) rfl (Nat.le_of_ble_eq_true rfl) rfl rfl (c_Mo_opensLayer02 l g _ L M1 j hj) rfl ?_
            refine en_eq (st' := [.int (ew_b (sp_vl02 (M 56) j))]) rfl (by rw [show (ew_b (sp_vl02 (M1 56) j)) = (ew_b (sp_vl02 (M 56) j)) from by rw [a1 56 (by decide)]]) rfl ?_
            refine en_b_ne (tgt := 79) d_Mo_code_73 (by decide) (fun h73 => ?_) (fun h73 => ?_)
            · refine ew_aload_n d_Mo_code_79 rfl ?_
              refine ew_iload_n d_Mo_code_80 rfl ?_
              refine ew_iload_n d_Mo_code_81 rfl ?_
              refine ew_iconst (v := nI 1) d_Mo_code_82 (by decide) ?_
              refine en_callV (As := [.int (nI 0), .int (nI j), .int (nI 1)]) (i := 47) (ci := 9) (st := []) (st1 := [.int (ew_b (decide (sp_vf01 fn j B1 = sp_vb01 fn j)))]) d_Mo_code_83 k_Mo_folds rfl rfl tw_842 tw_844 tp_52 rfl (Nat.le_of_ble_eq_true rfl) rfl (Nat.le_of_ble_eq_true rfl) rfl rfl (c_Mo_folds01 l g _ L M1 fn (by rw [a1 56 (by decide)]; exact hfn) (sp_rts_of hR (a1 60 (by decide))) B1 hB1 (by rw [a1 57 (by decide)]; exact hC1) j hj) rfl ?_
              refine en_b_ne (tgt := 92) d_Mo_code_86 (by decide) (fun h86 => ?_) (fun h86 => ?_)
              · refine ew_aload_n d_Mo_code_92 rfl ?_
                refine ew_iload_n d_Mo_code_93 rfl ?_
                refine ew_iload_n d_Mo_code_94 rfl ?_
                refine ew_iconst (v := nI 2) d_Mo_code_95 (by decide) ?_
                refine en_callV (As := [.int (nI 0), .int (nI j), .int (nI 2)]) (i := 47) (ci := 9) (st := []) (st1 := [.int (ew_b (decide (sp_vf02 fn j B2 = fn 4)))]) d_Mo_code_96 k_Mo_folds rfl rfl tw_842 tw_844 tp_52 rfl (Nat.le_of_ble_eq_true rfl) rfl (Nat.le_of_ble_eq_true rfl) rfl rfl (c_Mo_folds02 l g _ L M1 fn (by rw [a1 56 (by decide)]; exact hfn) (sp_rts_of hR (a1 60 (by decide))) B2 hB2 (by rw [a1 57 (by decide)]; exact hC2) j hj) rfl ?_
                refine en_b_eq (tgt := 106) d_Mo_code_99 (by decide) (fun h99 => ?_) (fun h99 => ?_)
                · refine ew_bipush (v := nI 9) d_Mo_code_106 (by decide) ?_
                  exact ew_iret d_Mo_code_108 rfl (⟨rfl, by rw [show sp_code0 ρ (M 56) fn j A B0 B1 B2 = 9 from by (unfold sp_code0; rw [if_neg (by rw [h13]; decide), if_neg (by rw [h25]; decide), if_neg (by rw [h36]; decide), if_neg (by rw [h48]; decide), if_neg (not_not_intro (of_decide_eq_true h60)), if_neg (by rw [h73]; decide), if_neg (not_not_intro (of_decide_eq_true h86)), if_neg (of_decide_eq_false h99)])], a1⟩)
                · refine ew_iconst (v := nI 0) d_Mo_code_102 (by decide) ?_
                  refine ew_goto (tgt := 108) d_Mo_code_103 (by decide) ?_
                  exact ew_iret d_Mo_code_108 rfl (⟨rfl, by rw [show sp_code0 ρ (M 56) fn j A B0 B1 B2 = 0 from by (unfold sp_code0; rw [if_neg (by rw [h13]; decide), if_neg (by rw [h25]; decide), if_neg (by rw [h36]; decide), if_neg (by rw [h48]; decide), if_neg (not_not_intro (of_decide_eq_true h60)), if_neg (by rw [h73]; decide), if_neg (not_not_intro (of_decide_eq_true h86)), if_pos (of_decide_eq_true h99)])], a1⟩)
              · refine ew_bipush (v := nI 8) d_Mo_code_89 (by decide) ?_
                exact ew_iret d_Mo_code_91 rfl (⟨rfl, by rw [show sp_code0 ρ (M 56) fn j A B0 B1 B2 = 8 from by (unfold sp_code0; rw [if_neg (by rw [h13]; decide), if_neg (by rw [h25]; decide), if_neg (by rw [h36]; decide), if_neg (by rw [h48]; decide), if_neg (not_not_intro (of_decide_eq_true h60)), if_neg (by rw [h73]; decide), if_pos (of_decide_eq_false h86)])], a1⟩)
            · refine ew_bipush (v := nI 7) d_Mo_code_76 (by decide) ?_
              exact ew_iret d_Mo_code_78 rfl (⟨rfl, by rw [show sp_code0 ρ (M 56) fn j A B0 B1 B2 = 7 from by (unfold sp_code0; rw [if_neg (by rw [h13]; decide), if_neg (by rw [h25]; decide), if_neg (by rw [h36]; decide), if_neg (by rw [h48]; decide), if_neg (not_not_intro (of_decide_eq_true h60)), if_pos h73])], a1⟩)
          · refine ew_bipush (v := nI 6) d_Mo_code_63 (by decide) ?_
            exact ew_iret d_Mo_code_65 rfl (⟨rfl, by rw [show sp_code0 ρ (M 56) fn j A B0 B1 B2 = 6 from by (unfold sp_code0; rw [if_neg (by rw [h13]; decide), if_neg (by rw [h25]; decide), if_neg (by rw [h36]; decide), if_neg (by rw [h48]; decide), if_pos (of_decide_eq_false h60)])], a1⟩)
        · refine ew_iconst (v := nI 5) d_Mo_code_51 (by decide) ?_
          exact ew_iret d_Mo_code_52 rfl (⟨rfl, by rw [show sp_code0 ρ (M 56) fn j A B0 B1 B2 = 5 from by (unfold sp_code0; rw [if_neg (by rw [h13]; decide), if_neg (by rw [h25]; decide), if_neg (by rw [h36]; decide), if_pos h48])], a1⟩)
      · refine ew_iconst (v := nI 4) d_Mo_code_39 (by decide) ?_
        exact ew_iret d_Mo_code_40 rfl (⟨rfl, by rw [show sp_code0 ρ (M 56) fn j A B0 B1 B2 = 4 from by (unfold sp_code0; rw [if_neg (by rw [h13]; decide), if_neg (by rw [h25]; decide), if_pos h36])], a1⟩)
    · refine ew_iconst (v := nI 3) d_Mo_code_28 (by decide) ?_
      exact ew_iret d_Mo_code_29 rfl (⟨rfl, by rw [show sp_code0 ρ (M 56) fn j A B0 B1 B2 = 3 from by (unfold sp_code0; rw [if_neg (by rw [h13]; decide), if_pos h25])], fun _ _ => rfl⟩)
  · refine ew_iconst (v := nI 2) d_Mo_code_16 (by decide) ?_
    exact ew_iret d_Mo_code_17 rfl (⟨rfl, by rw [show sp_code0 ρ (M 56) fn j A B0 B1 B2 = 2 from by (unfold sp_code0; rw [if_pos h13])], fun _ _ => rfl⟩)
set_option maxRecDepth 100000 in
theorem c_Mo_code1 (l : Launch) (g : ew_G) (d L : Nat) (M : ew_M) (ρ : sp_R) (hr : sp_rm ρ M) (fn : Nat → Nat) (hfn : sp_fnok (M 56) fn) (hR : sp_rts M) (A : Nat) (hA : A < 12289) (hA0 : M 47 14 = nI A) (B0 : Nat) (hB0 : B0 < 12289) (hC0 : M 57 0 = nI B0) (B1 : Nat) (hB1 : B1 < 12289) (hC1 : M 57 1 = nI B1) (B2 : Nat) (hB2 : B2 < 12289) (hC2 : M 57 2 = nI B2) (j : Nat) (hj : j < 16) (hj0 : M 58 1 = nI j) :
    Ew l g (d + 4) 0 0 m_Mo_code 0 [.ref 47, .int (nI 1), .retAddr 0] [] (ew_SH L) M (sp_mq L M (nI (sp_code1 ρ (M 56) fn j A B0 B1 B2))) := by
  refine ew_aload_n d_Mo_code_0 rfl ?_
  refine ew_getr (ci := 9) (f := 16) d_Mo_code_1 rfl rfl rfl tw_607 ?_
  refine ew_iload_n d_Mo_code_4 rfl ?_
  refine ew_iald (j := 1) d_Mo_code_5 rfl (rfl) (by decide) (by decide) ?_
  refine en_eq (st' := [.int (nI j)]) rfl (by rw [show (M 58 1) = (nI j) from hj0]) rfl ?_
  refine en_istore_n (ls' := [.ref 47, .int (nI 1), .int (nI j)]) d_Mo_code_6 (Nat.le_of_ble_eq_true rfl) rfl ?_
  refine ew_aload_n d_Mo_code_7 rfl ?_
  refine ew_iload_n d_Mo_code_8 rfl ?_
  refine ew_iload_n d_Mo_code_9 rfl ?_
  refine en_callV (As := [.int (nI 1), .int (nI j)]) (i := 47) (ci := 9) (st := []) (st1 := [.int (ew_b (sp_vc1 (M 56) j))]) d_Mo_code_10 k_Mo_opens rfl rfl tw_826 tw_828 tp_48 rfl (Nat.le_of_ble_eq_true rfl) rfl (Nat.le_of_ble_eq_true rfl) rfl rfl (c_Mo_opens1 l g _ L M j hj) rfl ?_
  refine en_b_ne (tgt := 18) d_Mo_code_13 (by decide) (fun h13 => ?_) (fun h13 => ?_)
  · refine ew_aload_n d_Mo_code_18 rfl ?_
    refine ew_iload_n d_Mo_code_19 rfl ?_
    refine ew_iload_n d_Mo_code_20 rfl ?_
    refine ew_iconst (v := nI 0) d_Mo_code_21 (by decide) ?_
    refine en_callV (As := [.int (nI 1), .int (nI j), .int (nI 0)]) (i := 47) (ci := 9) (st := []) (st1 := [.int (ew_b (sp_vl10 (M 56) j))]) d_Mo_code_22 k_Mo_opensLayer rfl rfl tw_834 tw_836 tp_50 rfl (Nat.le_of_ble_eq_true rfl) rfl (Nat.le_of_ble_eq_true rfl) rfl rfl (c_Mo_opensLayer10 l g _ L M j hj) rfl ?_
    refine en_b_ne (tgt := 30) d_Mo_code_25 (by decide) (fun h25 => ?_) (fun h25 => ?_)
    · refine ew_aload_n d_Mo_code_30 rfl ?_
      refine ew_iload_n d_Mo_code_31 rfl ?_
      refine ew_iload_n d_Mo_code_32 rfl ?_
      refine en_callVq (As := [.int (nI 1), .int (nI j)]) (i := 47) (ci := 9) (st := []) d_Mo_code_33 k_Mo_composes rfl rfl tw_838 tw_840 tp_51 rfl (Nat.le_of_ble_eq_true rfl) rfl (Nat.le_of_ble_eq_true rfl) rfl rfl (c_Mo_composes1 l g _ L M ρ hr fn hfn hR A hA hA0 j hj) ?_
      rintro _ _ M1 ⟨rfl, rfl, a1⟩
      show Ew l g _ _ _ m_Mo_code 36 [.ref 47, .int (nI 1), .int (nI j)] [.int (ew_b (sp_vo1 ρ fn j A 0 && sp_vo1 ρ fn j A 1))] (ew_SH L) M1 _
      refine en_b_ne (tgt := 41) d_Mo_code_36 (by decide) (fun h36 => ?_) (fun h36 => ?_)
      · refine ew_aload_n d_Mo_code_41 rfl ?_
        refine ew_iload_n d_Mo_code_42 rfl ?_
        refine ew_iload_n d_Mo_code_43 rfl ?_
        refine ew_iconst (v := nI 1) d_Mo_code_44 (by decide) ?_
        refine en_callV (As := [.int (nI 1), .int (nI j), .int (nI 1)]) (i := 47) (ci := 9) (st := []) (st1 := [.int (ew_b (sp_vl11 (M1 56) j))]) d_Mo_code_45 k_Mo_opensLayer rfl rfl tw_834 tw_836 tp_50 rfl (Nat.le_of_ble_eq_true rfl) rfl (Nat.le_of_ble_eq_true rfl) rfl rfl (c_Mo_opensLayer11 l g _ L M1 j hj) rfl ?_
        refine en_eq (st' := [.int (ew_b (sp_vl11 (M 56) j))]) rfl (by rw [show (ew_b (sp_vl11 (M1 56) j)) = (ew_b (sp_vl11 (M 56) j)) from by rw [a1 56 (by decide)]]) rfl ?_
        refine en_b_ne (tgt := 53) d_Mo_code_48 (by decide) (fun h48 => ?_) (fun h48 => ?_)
        · refine ew_aload_n d_Mo_code_53 rfl ?_
          refine ew_iload_n d_Mo_code_54 rfl ?_
          refine ew_iload_n d_Mo_code_55 rfl ?_
          refine ew_iconst (v := nI 0) d_Mo_code_56 (by decide) ?_
          refine en_callV (As := [.int (nI 1), .int (nI j), .int (nI 0)]) (i := 47) (ci := 9) (st := []) (st1 := [.int (ew_b (decide (sp_vf10 fn j B0 = sp_vb10 fn j)))]) d_Mo_code_57 k_Mo_folds rfl rfl tw_842 tw_844 tp_52 rfl (Nat.le_of_ble_eq_true rfl) rfl (Nat.le_of_ble_eq_true rfl) rfl rfl (c_Mo_folds10 l g _ L M1 fn (by rw [a1 56 (by decide)]; exact hfn) (sp_rts_of hR (a1 60 (by decide))) B0 hB0 (by rw [a1 57 (by decide)]; exact hC0) j hj) rfl ?_
          refine en_b_ne (tgt := 66) d_Mo_code_60 (by decide) (fun h60 => ?_) (fun h60 => ?_)
          · refine ew_aload_n d_Mo_code_66 rfl ?_
            refine ew_iload_n d_Mo_code_67 rfl ?_
            refine ew_iload_n d_Mo_code_68 rfl ?_
            refine ew_iconst (v := nI 2) d_Mo_code_69 (by decide) ?_
            refine en_callV (As := [.int (nI 1), .int (nI j), .int (nI 2)]) (i := 47) (ci := 9) (st := []) (st1 := [.int (ew_b (sp_vl12 (M1 56) j))]) d_Mo_code_70 k_Mo_opensLayer rfl rfl tw_834 tw_836 tp_50 rfl (Nat.le_of_ble_eq_true rfl) rfl (Nat.le_of_ble_eq_true rfl) rfl rfl (c_Mo_opensLayer12 l g _ L M1 j hj) rfl ?_
            refine en_eq (st' := [.int (ew_b (sp_vl12 (M 56) j))]) rfl (by rw [show (ew_b (sp_vl12 (M1 56) j)) = (ew_b (sp_vl12 (M 56) j)) from by rw [a1 56 (by decide)]]) rfl ?_
            refine en_b_ne (tgt := 79) d_Mo_code_73 (by decide) (fun h73 => ?_) (fun h73 => ?_)
            · refine ew_aload_n d_Mo_code_79 rfl ?_
              refine ew_iload_n d_Mo_code_80 rfl ?_
              refine ew_iload_n d_Mo_code_81 rfl ?_
              refine ew_iconst (v := nI 1) d_Mo_code_82 (by decide) ?_
              refine en_callV (As := [.int (nI 1), .int (nI j), .int (nI 1)]) (i := 47) (ci := 9) (st := []) (st1 := [.int (ew_b (decide (sp_vf11 fn j B1 = sp_vb11 fn j)))]) d_Mo_code_83 k_Mo_folds rfl rfl tw_842 tw_844 tp_52 rfl (Nat.le_of_ble_eq_true rfl) rfl (Nat.le_of_ble_eq_true rfl) rfl rfl (c_Mo_folds11 l g _ L M1 fn (by rw [a1 56 (by decide)]; exact hfn) (sp_rts_of hR (a1 60 (by decide))) B1 hB1 (by rw [a1 57 (by decide)]; exact hC1) j hj) rfl ?_
              refine en_b_ne (tgt := 92) d_Mo_code_86 (by decide) (fun h86 => ?_) (fun h86 => ?_)
              · refine ew_aload_n d_Mo_code_92 rfl ?_
                refine ew_iload_n d_Mo_code_93 rfl ?_
                refine ew_iload_n d_Mo_code_94 rfl ?_
                refine ew_iconst (v := nI 2) d_Mo_code_95 (by decide) ?_
                refine en_callV (As := [.int (nI 1), .int (nI j), .int (nI 2)]) (i := 47) (ci := 9) (st := []) (st1 := [.int (ew_b (decide (sp_vf12 fn j B2 = fn 4)))]) d_Mo_code_96 k_Mo_folds rfl rfl tw_842 tw_844 tp_52 rfl (Nat.le_of_ble_eq_true rfl) rfl (Nat.le_of_ble_eq_true rfl) rfl rfl (c_Mo_folds12 l g _ L M1 fn (by rw [a1 56 (by decide)]; exact hfn) (sp_rts_of hR (a1 60 (by decide))) B2 hB2 (by rw [a1 57 (by decide)]; exact hC2) j hj) rfl ?_
                refine en_b_eq (tgt := 106) d_Mo_code_99 (by decide) (fun h99 => ?_) (fun h99 => ?_)
                · refine ew_bipush (v := nI 9) d_Mo_code_106 (by decide) ?_
                  exact ew_iret d_Mo_code_108 rfl (⟨rfl, by rw [show sp_code1 ρ (M 56) fn j A B0 B1 B2 = 9 from by (unfold sp_code1; rw [if_neg (by rw [h13]; decide), if_neg (by rw [h25]; decide), if_neg (by rw [h36]; decide), if_neg (by rw [h48]; decide), if_neg (not_not_intro (of_decide_eq_true h60)), if_neg (by rw [h73]; decide), if_neg (not_not_intro (of_decide_eq_true h86)), if_neg (of_decide_eq_false h99)])], a1⟩)
                · refine ew_iconst (v := nI 0) d_Mo_code_102 (by decide) ?_
                  refine ew_goto (tgt := 108) d_Mo_code_103 (by decide) ?_
                  exact ew_iret d_Mo_code_108 rfl (⟨rfl, by rw [show sp_code1 ρ (M 56) fn j A B0 B1 B2 = 0 from by (unfold sp_code1; rw [if_neg (by rw [h13]; decide), if_neg (by rw [h25]; decide), if_neg (by rw [h36]; decide), if_neg (by rw [h48]; decide), if_neg (not_not_intro (of_decide_eq_true h60)), if_neg (by rw [h73]; decide), if_neg (not_not_intro (of_decide_eq_true h86)), if_pos (of_decide_eq_true h99)])], a1⟩)
              · refine ew_bipush (v := nI 8) d_Mo_code_89 (by decide) ?_
                exact ew_iret d_Mo_code_91 rfl (⟨rfl, by rw [show sp_code1 ρ (M 56) fn j A B0 B1 B2 = 8 from by (unfold sp_code1; rw [if_neg (by rw [h13]; decide), if_neg (by rw [h25]; decide), if_neg (by rw [h36]; decide), if_neg (by rw [h48]; decide), if_neg (not_not_intro (of_decide_eq_true h60)), if_neg (by rw [h73]; decide), if_pos (of_decide_eq_false h86)])], a1⟩)
            · refine ew_bipush (v := nI 7) d_Mo_code_76 (by decide) ?_
              exact ew_iret d_Mo_code_78 rfl (⟨rfl, by rw [show sp_code1 ρ (M 56) fn j A B0 B1 B2 = 7 from by (unfold sp_code1; rw [if_neg (by rw [h13]; decide), if_neg (by rw [h25]; decide), if_neg (by rw [h36]; decide), if_neg (by rw [h48]; decide), if_neg (not_not_intro (of_decide_eq_true h60)), if_pos h73])], a1⟩)
          · refine ew_bipush (v := nI 6) d_Mo_code_63 (by decide) ?_
            exact ew_iret d_Mo_code_65 rfl (⟨rfl, by rw [show sp_code1 ρ (M 56) fn j A B0 B1 B2 = 6 from by (unfold sp_code1; rw [if_neg (by rw [h13]; decide), if_neg (by rw [h25]; decide), if_neg (by rw [h36]; decide), if_neg (by rw [h48]; decide), if_pos (of_decide_eq_false h60)])], a1⟩)
        · refine ew_iconst (v := nI 5) d_Mo_code_51 (by decide) ?_
          exact ew_iret d_Mo_code_52 rfl (⟨rfl, by rw [show sp_code1 ρ (M 56) fn j A B0 B1 B2 = 5 from by (unfold sp_code1; rw [if_neg (by rw [h13]; decide), if_neg (by rw [h25]; decide), if_neg (by rw [h36]; decide), if_pos h48])], a1⟩)
      · refine ew_iconst (v := nI 4) d_Mo_code_39 (by decide) ?_
        exact ew_iret d_Mo_code_40 rfl (⟨rfl, by rw [show sp_code1 ρ (M 56) fn j A B0 B1 B2 = 4 from by (unfold sp_code1; rw [if_neg (by rw [h13]; decide), if_neg (by rw [h25]; decide), if_pos h36])], a1⟩)
    · refine ew_iconst (v := nI 3) d_Mo_code_28 (by decide) ?_
      exact ew_iret d_Mo_code_29 rfl (⟨rfl, by rw [show sp_code1 ρ (M 56) fn j A B0 B1 B2 = 3 from by (unfold sp_code1; rw [if_neg (by rw [h13]; decide), if_pos h25])], fun _ _ => rfl⟩)
  · refine ew_iconst (v := nI 2) d_Mo_code_16 (by decide) ?_
    exact ew_iret d_Mo_code_17 rfl (⟨rfl, by rw [show sp_code1 ρ (M 56) fn j A B0 B1 B2 = 2 from by (unfold sp_code1; rw [if_pos h13])], fun _ _ => rfl⟩)
set_option maxRecDepth 100000 in
theorem c_Mo_code2 (l : Launch) (g : ew_G) (d L : Nat) (M : ew_M) (ρ : sp_R) (hr : sp_rm ρ M) (fn : Nat → Nat) (hfn : sp_fnok (M 56) fn) (hR : sp_rts M) (A : Nat) (hA : A < 12289) (hA0 : M 47 14 = nI A) (B0 : Nat) (hB0 : B0 < 12289) (hC0 : M 57 0 = nI B0) (B1 : Nat) (hB1 : B1 < 12289) (hC1 : M 57 1 = nI B1) (B2 : Nat) (hB2 : B2 < 12289) (hC2 : M 57 2 = nI B2) (j : Nat) (hj : j < 16) (hj0 : M 58 2 = nI j) :
    Ew l g (d + 4) 0 0 m_Mo_code 0 [.ref 47, .int (nI 2), .retAddr 0] [] (ew_SH L) M (sp_mq L M (nI (sp_code2 ρ (M 56) fn j A B0 B1 B2))) := by
  refine ew_aload_n d_Mo_code_0 rfl ?_
  refine ew_getr (ci := 9) (f := 16) d_Mo_code_1 rfl rfl rfl tw_607 ?_
  refine ew_iload_n d_Mo_code_4 rfl ?_
  refine ew_iald (j := 2) d_Mo_code_5 rfl (rfl) (by decide) (by decide) ?_
  refine en_eq (st' := [.int (nI j)]) rfl (by rw [show (M 58 2) = (nI j) from hj0]) rfl ?_
  refine en_istore_n (ls' := [.ref 47, .int (nI 2), .int (nI j)]) d_Mo_code_6 (Nat.le_of_ble_eq_true rfl) rfl ?_
  refine ew_aload_n d_Mo_code_7 rfl ?_
  refine ew_iload_n d_Mo_code_8 rfl ?_
  refine ew_iload_n d_Mo_code_9 rfl ?_
  refine en_callV (As := [.int (nI 2), .int (nI j)]) (i := 47) (ci := 9) (st := []) (st1 := [.int (ew_b (sp_vc2 (M 56) j))]) d_Mo_code_10 k_Mo_opens rfl rfl tw_826 tw_828 tp_48 rfl (Nat.le_of_ble_eq_true rfl) rfl (Nat.le_of_ble_eq_true rfl) rfl rfl (c_Mo_opens2 l g _ L M j hj) rfl ?_
  refine en_b_ne (tgt := 18) d_Mo_code_13 (by decide) (fun h13 => ?_) (fun h13 => ?_)
  · refine ew_aload_n d_Mo_code_18 rfl ?_
    refine ew_iload_n d_Mo_code_19 rfl ?_
    refine ew_iload_n d_Mo_code_20 rfl ?_
    refine ew_iconst (v := nI 0) d_Mo_code_21 (by decide) ?_
    refine en_callV (As := [.int (nI 2), .int (nI j), .int (nI 0)]) (i := 47) (ci := 9) (st := []) (st1 := [.int (ew_b (sp_vl20 (M 56) j))]) d_Mo_code_22 k_Mo_opensLayer rfl rfl tw_834 tw_836 tp_50 rfl (Nat.le_of_ble_eq_true rfl) rfl (Nat.le_of_ble_eq_true rfl) rfl rfl (c_Mo_opensLayer20 l g _ L M j hj) rfl ?_
    refine en_b_ne (tgt := 30) d_Mo_code_25 (by decide) (fun h25 => ?_) (fun h25 => ?_)
    · refine ew_aload_n d_Mo_code_30 rfl ?_
      refine ew_iload_n d_Mo_code_31 rfl ?_
      refine ew_iload_n d_Mo_code_32 rfl ?_
      refine en_callVq (As := [.int (nI 2), .int (nI j)]) (i := 47) (ci := 9) (st := []) d_Mo_code_33 k_Mo_composes rfl rfl tw_838 tw_840 tp_51 rfl (Nat.le_of_ble_eq_true rfl) rfl (Nat.le_of_ble_eq_true rfl) rfl rfl (c_Mo_composes2 l g _ L M ρ hr fn hfn hR A hA hA0 j hj) ?_
      rintro _ _ M1 ⟨rfl, rfl, a1⟩
      show Ew l g _ _ _ m_Mo_code 36 [.ref 47, .int (nI 2), .int (nI j)] [.int (ew_b (sp_vo2 ρ fn j A 0 && sp_vo2 ρ fn j A 1))] (ew_SH L) M1 _
      refine en_b_ne (tgt := 41) d_Mo_code_36 (by decide) (fun h36 => ?_) (fun h36 => ?_)
      · refine ew_aload_n d_Mo_code_41 rfl ?_
        refine ew_iload_n d_Mo_code_42 rfl ?_
        refine ew_iload_n d_Mo_code_43 rfl ?_
        refine ew_iconst (v := nI 1) d_Mo_code_44 (by decide) ?_
        refine en_callV (As := [.int (nI 2), .int (nI j), .int (nI 1)]) (i := 47) (ci := 9) (st := []) (st1 := [.int (ew_b (sp_vl21 (M1 56) j))]) d_Mo_code_45 k_Mo_opensLayer rfl rfl tw_834 tw_836 tp_50 rfl (Nat.le_of_ble_eq_true rfl) rfl (Nat.le_of_ble_eq_true rfl) rfl rfl (c_Mo_opensLayer21 l g _ L M1 j hj) rfl ?_
        refine en_eq (st' := [.int (ew_b (sp_vl21 (M 56) j))]) rfl (by rw [show (ew_b (sp_vl21 (M1 56) j)) = (ew_b (sp_vl21 (M 56) j)) from by rw [a1 56 (by decide)]]) rfl ?_
        refine en_b_ne (tgt := 53) d_Mo_code_48 (by decide) (fun h48 => ?_) (fun h48 => ?_)
        · refine ew_aload_n d_Mo_code_53 rfl ?_
          refine ew_iload_n d_Mo_code_54 rfl ?_
          refine ew_iload_n d_Mo_code_55 rfl ?_
          refine ew_iconst (v := nI 0) d_Mo_code_56 (by decide) ?_
          refine en_callV (As := [.int (nI 2), .int (nI j), .int (nI 0)]) (i := 47) (ci := 9) (st := []) (st1 := [.int (ew_b (decide (sp_vf20 fn j B0 = sp_vb20 fn j)))]) d_Mo_code_57 k_Mo_folds rfl rfl tw_842 tw_844 tp_52 rfl (Nat.le_of_ble_eq_true rfl) rfl (Nat.le_of_ble_eq_true rfl) rfl rfl (c_Mo_folds20 l g _ L M1 fn (by rw [a1 56 (by decide)]; exact hfn) (sp_rts_of hR (a1 60 (by decide))) B0 hB0 (by rw [a1 57 (by decide)]; exact hC0) j hj) rfl ?_
          refine en_b_ne (tgt := 66) d_Mo_code_60 (by decide) (fun h60 => ?_) (fun h60 => ?_)
          · refine ew_aload_n d_Mo_code_66 rfl ?_
            refine ew_iload_n d_Mo_code_67 rfl ?_
            refine ew_iload_n d_Mo_code_68 rfl ?_
            refine ew_iconst (v := nI 2) d_Mo_code_69 (by decide) ?_
            refine en_callV (As := [.int (nI 2), .int (nI j), .int (nI 2)]) (i := 47) (ci := 9) (st := []) (st1 := [.int (ew_b (sp_vl22 (M1 56) j))]) d_Mo_code_70 k_Mo_opensLayer rfl rfl tw_834 tw_836 tp_50 rfl (Nat.le_of_ble_eq_true rfl) rfl (Nat.le_of_ble_eq_true rfl) rfl rfl (c_Mo_opensLayer22 l g _ L M1 j hj) rfl ?_
            refine en_eq (st' := [.int (ew_b (sp_vl22 (M 56) j))]) rfl (by rw [show (ew_b (sp_vl22 (M1 56) j)) = (ew_b (sp_vl22 (M 56) j)) from by rw [a1 56 (by decide)]]) rfl ?_
            refine en_b_ne (tgt := 79) d_Mo_code_73 (by decide) (fun h73 => ?_) (fun h73 => ?_)
            · refine ew_aload_n d_Mo_code_79 rfl ?_
              refine ew_iload_n d_Mo_code_80 rfl ?_
              refine ew_iload_n d_Mo_code_81 rfl ?_
              refine ew_iconst (v := nI 1) d_Mo_code_82 (by decide) ?_
              refine en_callV (As := [.int (nI 2), .int (nI j), .int (nI 1)]) (i := 47) (ci := 9) (st := []) (st1 := [.int (ew_b (decide (sp_vf21 fn j B1 = sp_vb21 fn j)))]) d_Mo_code_83 k_Mo_folds rfl rfl tw_842 tw_844 tp_52 rfl (Nat.le_of_ble_eq_true rfl) rfl (Nat.le_of_ble_eq_true rfl) rfl rfl (c_Mo_folds21 l g _ L M1 fn (by rw [a1 56 (by decide)]; exact hfn) (sp_rts_of hR (a1 60 (by decide))) B1 hB1 (by rw [a1 57 (by decide)]; exact hC1) j hj) rfl ?_
              refine en_b_ne (tgt := 92) d_Mo_code_86 (by decide) (fun h86 => ?_) (fun h86 => ?_)
              · refine ew_aload_n d_Mo_code_92 rfl ?_
                refine ew_iload_n d_Mo_code_93 rfl ?_
                refine ew_iload_n d_Mo_code_94 rfl ?_
                refine ew_iconst (v := nI 2) d_Mo_code_95 (by decide) ?_
                refine en_callV (As := [.int (nI 2), .int (nI j), .int (nI 2)]) (i := 47) (ci := 9) (st := []) (st1 := [.int (ew_b (decide (sp_vf22 fn j B2 = fn 4)))]) d_Mo_code_96 k_Mo_folds rfl rfl tw_842 tw_844 tp_52 rfl (Nat.le_of_ble_eq_true rfl) rfl (Nat.le_of_ble_eq_true rfl) rfl rfl (c_Mo_folds22 l g _ L M1 fn (by rw [a1 56 (by decide)]; exact hfn) (sp_rts_of hR (a1 60 (by decide))) B2 hB2 (by rw [a1 57 (by decide)]; exact hC2) j hj) rfl ?_
                refine en_b_eq (tgt := 106) d_Mo_code_99 (by decide) (fun h99 => ?_) (fun h99 => ?_)
                · refine ew_bipush (v := nI 9) d_Mo_code_106 (by decide) ?_
                  exact ew_iret d_Mo_code_108 rfl (⟨rfl, by rw [show sp_code2 ρ (M 56) fn j A B0 B1 B2 = 9 from by (unfold sp_code2; rw [if_neg (by rw [h13]; decide), if_neg (by rw [h25]; decide), if_neg (by rw [h36]; decide), if_neg (by rw [h48]; decide), if_neg (not_not_intro (of_decide_eq_true h60)), if_neg (by rw [h73]; decide), if_neg (not_not_intro (of_decide_eq_true h86)), if_neg (of_decide_eq_false h99)])], a1⟩)
                · refine ew_iconst (v := nI 0) d_Mo_code_102 (by decide) ?_
                  refine ew_goto (tgt := 108) d_Mo_code_103 (by decide) ?_
                  exact ew_iret d_Mo_code_108 rfl (⟨rfl, by rw [show sp_code2 ρ (M 56) fn j A B0 B1 B2 = 0 from by (unfold sp_code2; rw [if_neg (by rw [h13]; decide), if_neg (by rw [h25]; decide), if_neg (by rw [h36]; decide), if_neg (by rw [h48]; decide), if_neg (not_not_intro (of_decide_eq_true h60)), if_neg (by rw [h73]; decide), if_neg (not_not_intro (of_decide_eq_true h86)), if_pos (of_decide_eq_true h99)])], a1⟩)
              · refine ew_bipush (v := nI 8) d_Mo_code_89 (by decide) ?_
                exact ew_iret d_Mo_code_91 rfl (⟨rfl, by rw [show sp_code2 ρ (M 56) fn j A B0 B1 B2 = 8 from by (unfold sp_code2; rw [if_neg (by rw [h13]; decide), if_neg (by rw [h25]; decide), if_neg (by rw [h36]; decide), if_neg (by rw [h48]; decide), if_neg (not_not_intro (of_decide_eq_true h60)), if_neg (by rw [h73]; decide), if_pos (of_decide_eq_false h86)])], a1⟩)
            · refine ew_bipush (v := nI 7) d_Mo_code_76 (by decide) ?_
              exact ew_iret d_Mo_code_78 rfl (⟨rfl, by rw [show sp_code2 ρ (M 56) fn j A B0 B1 B2 = 7 from by (unfold sp_code2; rw [if_neg (by rw [h13]; decide), if_neg (by rw [h25]; decide), if_neg (by rw [h36]; decide), if_neg (by rw [h48]; decide), if_neg (not_not_intro (of_decide_eq_true h60)), if_pos h73])], a1⟩)
          · refine ew_bipush (v := nI 6) d_Mo_code_63 (by decide) ?_
            exact ew_iret d_Mo_code_65 rfl (⟨rfl, by rw [show sp_code2 ρ (M 56) fn j A B0 B1 B2 = 6 from by (unfold sp_code2; rw [if_neg (by rw [h13]; decide), if_neg (by rw [h25]; decide), if_neg (by rw [h36]; decide), if_neg (by rw [h48]; decide), if_pos (of_decide_eq_false h60)])], a1⟩)
        · refine ew_iconst (v := nI 5) d_Mo_code_51 (by decide) ?_
          exact ew_iret d_Mo_code_52 rfl (⟨rfl, by rw [show sp_code2 ρ (M 56) fn j A B0 B1 B2 = 5 from by (unfold sp_code2; rw [if_neg (by rw [h13]; decide), if_neg (by rw [h25]; decide), if_neg (by rw [h36]; decide), if_pos h48])], a1⟩)
      · refine ew_iconst (v := nI 4) d_Mo_code_39 (by decide) ?_
        exact ew_iret d_Mo_code_40 rfl (⟨rfl, by rw [show sp_code2 ρ (M 56) fn j A B0 B1 B2 = 4 from by (unfold sp_code2; rw [if_neg (by rw [h13]; decide), if_neg (by rw [h25]; decide), if_pos h36])], a1⟩)
    · refine ew_iconst (v := nI 3) d_Mo_code_28 (by decide) ?_
      exact ew_iret d_Mo_code_29 rfl (⟨rfl, by rw [show sp_code2 ρ (M 56) fn j A B0 B1 B2 = 3 from by (unfold sp_code2; rw [if_neg (by rw [h13]; decide), if_pos h25])], fun _ _ => rfl⟩)
  · refine ew_iconst (v := nI 2) d_Mo_code_16 (by decide) ?_
    exact ew_iret d_Mo_code_17 rfl (⟨rfl, by rw [show sp_code2 ρ (M 56) fn j A B0 B1 B2 = 2 from by (unfold sp_code2; rw [if_pos h13])], fun _ _ => rfl⟩)
theorem sp_ite1 {c : Prop} [Decidable c] {a b : Nat} (ha : a ≠ 1) (hb : b ≠ 1) : (if c then a else b) ≠ 1 := by
  split
  · exact ha
  · exact hb
theorem sp_nB_vcd (ρ : sp_R) (f : Nat → Int32) : sp_nB f = decide (sp_vcd ρ f ≠ 1) := by
  unfold sp_vcd
  cases h : sp_nB f with
  | false => rw [if_pos rfl]; rfl
  | true =>
    rw [if_neg (by decide)]
    refine (decide_eq_true ?_).symm
    refine sp_ite1 ?_ (sp_ite1 ?_ ?_) <;> exact sp_ite1 (by decide) (sp_ite1 (by decide) (sp_ite1 (by decide) (sp_ite1 (by decide) (sp_ite1 (by decide) (sp_ite1 (by decide) (sp_ite1 (by decide) (sp_ite1 (by decide) (by decide))))))))
theorem sp_k0_lt (ρ : sp_R) (f : Nat → Int32) : sp_kc0 ρ f < 2 ^ 31 := Nat.lt_of_le_of_lt sp_code_le.1 (by decide)
theorem sp_k1_lt (ρ : sp_R) (f : Nat → Int32) : sp_kc1 ρ f < 2 ^ 31 := Nat.lt_of_le_of_lt sp_code_le.2.1 (by decide)
def sp_mvq (ρ : sp_R) (L : Nat) (M : ew_M) : Option Value → List ew_S → ew_M → Prop := fun v sh' M' => sh' = ew_SH L ∧ v = some (.int (nI (sp_vcd ρ (M 56)))) ∧ (∀ q, q ∉ [47, 57, 58, 59, 64] → M' q = M q) ∧ (∀ j, j ∉ [12, 14, 18] → M' 47 j = M 47 j) ∧ M' 47 18 = ew_b (sp_nB (M 56)) ∧ (sp_nB (M 56) = true → M' 59 0 = nI (sp_jv ρ (M 56) 0) ∧ M' 59 1 = nI (sp_jv ρ (M 56) 1) ∧ M' 59 2 = nI (sp_jv ρ (M 56) 2))
set_option maxRecDepth 100000 in
theorem c_Mo_verifyN (l : Launch) (g : ew_G) (d L : Nat) (M : ew_M) (hp : M 47 9 = ew_b false) :
    Ew l g (d + 1) 0 0 m_Mo_verify 0 [.ref 47, .retAddr 0, .retAddr 0] [] (ew_SH L) M (ew_q (some (.int (-2))) (ew_SH L) (ew_w M 47 18 (nI 0))) := by
  refine ew_aload_n d_Mo_verify_0 rfl ?_
  refine ew_iconst (v := nI 0) d_Mo_verify_1 (by decide) ?_
  refine ew_puti (ci := 9) (f := 18) (ty := .boolean) d_Mo_verify_2 rfl (by decide) rfl rfl rfl (by decide +kernel) (by decide) rfl tw_609 ?_
  refine ew_aload_n d_Mo_verify_5 rfl ?_
  refine ew_geti (ci := 9) (f := 9) d_Mo_verify_6 rfl rfl rfl tw_601 ?_
  refine en_eq (st' := [.int (ew_b false)]) rfl (by rw [show ((ew_w M 47 18 (nI 0)) 47 9) = (ew_b false) from by rw [ew_w_j (by decide)]; exact hp]) rfl ?_
  refine en_b_ne (tgt := 15) d_Mo_verify_9 (by decide) (fun h9 => by exact absurd h9 (by decide)) (fun h9 => ?_)
  refine ew_bipush (v := -2) d_Mo_verify_12 (by decide) ?_
  exact ew_iret d_Mo_verify_14 rfl (⟨rfl, rfl, rfl⟩)
set_option maxRecDepth 100000 in
theorem c_Mo_verifyE (l : Launch) (g : ew_G) (d L : Nat) (M : ew_M) (hp : M 47 9 = ew_b true) (ρ : sp_R) (hr : sp_rm ρ M) (h : sp_cc ρ + r_bn ρ = 0) :
    Ew l g (d + 1) 0 0 m_Mo_verify 0 [.ref 47, .retAddr 0, .retAddr 0] [] (ew_SH L) M (ew_q (some (.int (-1))) (ew_SH L) (ew_w M 47 18 (nI 0))) := by
  refine ew_aload_n d_Mo_verify_0 rfl ?_
  refine ew_iconst (v := nI 0) d_Mo_verify_1 (by decide) ?_
  refine ew_puti (ci := 9) (f := 18) (ty := .boolean) d_Mo_verify_2 rfl (by decide) rfl rfl rfl (by decide +kernel) (by decide) rfl tw_609 ?_
  refine ew_aload_n d_Mo_verify_5 rfl ?_
  refine ew_geti (ci := 9) (f := 9) d_Mo_verify_6 rfl rfl rfl tw_601 ?_
  refine en_eq (st' := [.int (ew_b true)]) rfl (by rw [show ((ew_w M 47 18 (nI 0)) 47 9) = (ew_b true) from by rw [ew_w_j (by decide)]; exact hp]) rfl ?_
  refine en_b_ne (tgt := 15) d_Mo_verify_9 (by decide) (fun h9 => ?_) (fun h9 => by exact absurd h9 (by decide))
  refine ew_aload_n d_Mo_verify_15 rfl ?_
  refine en_callV (As := []) (i := 47) (ci := 9) (st := []) (st1 := [.int (nI (sp_cc ρ))]) d_Mo_verify_16 k_Mo_constraints rfl rfl tw_739 tw_741 tp_34 rfl (Nat.le_of_ble_eq_true rfl) rfl (Nat.le_of_ble_eq_true rfl) rfl rfl (c_Mo_constraints l g _ L (ew_w M 47 18 (nI 0)) ρ (sp_rm_w hr (by decide))) rfl ?_
  refine ew_aload_n d_Mo_verify_19 rfl ?_
  refine ew_geti (ci := 9) (f := 5) d_Mo_verify_20 rfl rfl rfl tw_597 ?_
  refine en_eq (st' := [.int (nI (r_bn ρ)), .int (nI (sp_cc ρ))]) rfl (by rw [show ((ew_w M 47 18 (nI 0)) 47 5) = (nI (r_bn ρ)) from by rw [ew_w_j (by decide)]; exact hr.2.2.2.1]) rfl ?_
  refine en_iadd d_Mo_verify_23 ?_
  refine en_if_ne (tgt := 29) d_Mo_verify_24 (by decide) (by have := sp_cc_le ρ; have := hr.1.2.2.1; omega) (fun h24 => by exact absurd h h24) (fun h24 => ?_)
  refine ew_iconst (v := -1) d_Mo_verify_27 (by decide) ?_
  exact ew_iret d_Mo_verify_28 rfl (⟨rfl, rfl, rfl⟩)
set_option maxRecDepth 100000 in
theorem c_Mo_verify (l : Launch) (g : ew_G) (d L : Nat) (M : ew_M) (hp : M 47 9 = ew_b true) (ρ : sp_R) (hr : sp_rm ρ M) (hR : sp_rts M) (h : sp_cc ρ + r_bn ρ ≠ 0) :
    Ew l g (d + 5) 0 0 m_Mo_verify 0 [.ref 47, .retAddr 0, .retAddr 0] [] (ew_SH L) M (sp_mvq ρ L M) := by
  refine ew_aload_n d_Mo_verify_0 rfl ?_
  refine ew_iconst (v := nI 0) d_Mo_verify_1 (by decide) ?_
  refine ew_puti (ci := 9) (f := 18) (ty := .boolean) d_Mo_verify_2 rfl (by decide) rfl rfl rfl (by decide +kernel) (by decide) rfl tw_609 ?_
  refine ew_aload_n d_Mo_verify_5 rfl ?_
  refine ew_geti (ci := 9) (f := 9) d_Mo_verify_6 rfl rfl rfl tw_601 ?_
  refine en_eq (st' := [.int (ew_b true)]) rfl (by rw [show ((ew_w M 47 18 (nI 0)) 47 9) = (ew_b true) from by rw [ew_w_j (by decide)]; exact hp]) rfl ?_
  refine en_b_ne (tgt := 15) d_Mo_verify_9 (by decide) (fun h9 => ?_) (fun h9 => by exact absurd h9 (by decide))
  refine ew_aload_n d_Mo_verify_15 rfl ?_
  refine en_callV (As := []) (i := 47) (ci := 9) (st := []) (st1 := [.int (nI (sp_cc ρ))]) d_Mo_verify_16 k_Mo_constraints rfl rfl tw_739 tw_741 tp_34 rfl (Nat.le_of_ble_eq_true rfl) rfl (Nat.le_of_ble_eq_true rfl) rfl rfl (c_Mo_constraints l g _ L (ew_w M 47 18 (nI 0)) ρ (sp_rm_w hr (by decide))) rfl ?_
  refine ew_aload_n d_Mo_verify_19 rfl ?_
  refine ew_geti (ci := 9) (f := 5) d_Mo_verify_20 rfl rfl rfl tw_597 ?_
  refine en_eq (st' := [.int (nI (r_bn ρ)), .int (nI (sp_cc ρ))]) rfl (by rw [show ((ew_w M 47 18 (nI 0)) 47 5) = (nI (r_bn ρ)) from by rw [ew_w_j (by decide)]; exact hr.2.2.2.1]) rfl ?_
  refine en_iadd d_Mo_verify_23 ?_
  refine en_if_ne (tgt := 29) d_Mo_verify_24 (by decide) (by have := sp_cc_le ρ; have := hr.1.2.2.1; omega) (fun h24 => ?_) (fun h24 => by exact absurd h24 h)
  refine ew_aload_n d_Mo_verify_29 rfl ?_
  refine en_callV (As := []) (i := 47) (ci := 9) (st := []) (st1 := [.int (ew_b (sp_nB ((ew_w M 47 18 (nI 0)) 56)))]) d_Mo_verify_30 k_Mo_allNumbers rfl rfl tw_815 tw_817 tp_46 rfl (Nat.le_of_ble_eq_true rfl) rfl (Nat.le_of_ble_eq_true rfl) rfl rfl (c_Mo_allNumbers l g _ L (ew_w M 47 18 (nI 0))) rfl ?_
  refine en_eq (st' := [.int (ew_b (sp_nB (M 56)))]) rfl (by rw [show (ew_b (sp_nB ((ew_w M 47 18 (nI 0)) 56))) = (ew_b (sp_nB (M 56))) from by rw [ew_w_ne (by decide)]]) rfl ?_
  refine en_b_ne (tgt := 38) d_Mo_verify_33 (by decide) (fun h33 => ?_) (fun h33 => ?_)
  · refine ew_aload_n d_Mo_verify_38 rfl ?_
    refine en_callV (As := []) (i := 47) (ci := 9) (st := []) (st1 := []) d_Mo_verify_39 k_Mo_tellRules rfl rfl tw_744 tw_746 tp_35 rfl (Nat.le_of_ble_eq_true rfl) rfl (Nat.le_of_ble_eq_true rfl) rfl rfl (c_Mo_tellRules l g _ L (ew_w M 47 18 (nI 0)) ρ (sp_rm_w hr (by decide))) rfl ?_
    refine ew_aload_n d_Mo_verify_42 rfl ?_
    refine ew_aload_n d_Mo_verify_43 rfl ?_
    refine ew_getr (ci := 9) (f := 10) d_Mo_verify_44 rfl rfl rfl tw_602 ?_
    refine ew_iconst (v := nI 0) d_Mo_verify_47 (by decide) ?_
    refine ew_iald (j := 0) d_Mo_verify_48 rfl (rfl) (by decide) (by decide) ?_
    refine en_eq (st' := [.int (M 56 0), .ref 47]) rfl (by rw [show ((ew_w (ew_w M 47 18 (nI 0)) 47 12 (sp_tR ρ (nI 1))) 56 0) = (M 56 0) from by rw [ew_w_ne (by decide), ew_w_ne (by decide)]]) rfl ?_
    refine en_callV (As := [.int (M 56 0)]) (i := 47) (ci := 9) (st := []) (st1 := []) d_Mo_verify_49 k_Mo_tell rfl rfl tw_748 tw_750 tp_36 rfl (Nat.le_of_ble_eq_true rfl) rfl (Nat.le_of_ble_eq_true rfl) rfl rfl (c_Mo_tellw l g _ L (ew_w M 47 18 (nI 0)) (sp_tR ρ (nI 1)) (M 56 0)) rfl ?_
    refine ew_aload_n d_Mo_verify_52 rfl ?_
    refine ew_aload_n d_Mo_verify_53 rfl ?_
    refine en_callV (As := []) (i := 47) (ci := 9) (st := [.ref 47]) (st1 := [.int (nI (sp_ch (sp_mix (sp_mix (sp_tR ρ (nI 1)) (M 56 0)) (-7)))), .ref 47]) d_Mo_verify_54 k_Mo_challenge rfl rfl tw_770 tw_772 tp_38 rfl (Nat.le_of_ble_eq_true rfl) rfl (Nat.le_of_ble_eq_true rfl) rfl rfl (c_Mo_challengew l g _ L (ew_w M 47 18 (nI 0)) (sp_mix (sp_tR ρ (nI 1)) (M 56 0))) rfl ?_
    refine ew_puti (ci := 9) (f := 14) (ty := .int) d_Mo_verify_57 rfl (by decide) rfl rfl rfl (by decide +kernel) rfl rfl tw_605 ?_
    refine ew_iconst (v := nI 0) d_Mo_verify_60 (by decide) ?_
    refine en_istore_n (ls' := [.ref 47, .int (nI 0), .retAddr 0]) d_Mo_verify_61 (Nat.le_of_ble_eq_true rfl) rfl ?_
    refine ew_iload_n d_Mo_verify_62 rfl ?_
    refine ew_iconst (v := nI 3) d_Mo_verify_63 (by decide) ?_
    refine en_icmp_ge (tgt := 95) d_Mo_verify_64 (by decide) (by decide) (by decide) (fun h64 => by exact absurd h64 (by decide)) (fun h64 => ?_)
    refine ew_aload_n d_Mo_verify_67 rfl ?_
    refine ew_aload_n d_Mo_verify_68 rfl ?_
    refine ew_getr (ci := 9) (f := 10) d_Mo_verify_69 rfl rfl rfl tw_602 ?_
    refine ew_iload_n d_Mo_verify_72 rfl ?_
    refine ew_iconst (v := nI 1) d_Mo_verify_73 (by decide) ?_
    refine en_iadd d_Mo_verify_74 ?_
    refine en_eq rfl (show _ = [.int (nI 1), .ref 56, .ref 47] from rfl) rfl ?_
    refine ew_iald (j := 1) d_Mo_verify_75 rfl (rfl) (by decide) (by decide) ?_
    refine en_eq (st' := [.int (M 56 1), .ref 47]) rfl (by rw [show ((ew_w (ew_w (ew_w M 47 18 (nI 0)) 47 12 (sp_mix (sp_mix (sp_tR ρ (nI 1)) (M 56 0)) (-7))) 47 14 (nI (sp_ch (sp_mix (sp_mix (sp_tR ρ (nI 1)) (M 56 0)) (-7))))) 56 1) = (M 56 1) from by rw [ew_w_ne (by decide), ew_w_ne (by decide), ew_w_ne (by decide)]]) rfl ?_
    refine en_callV (As := [.int (M 56 1)]) (i := 47) (ci := 9) (st := []) (st1 := []) d_Mo_verify_76 k_Mo_tell rfl rfl tw_748 tw_750 tp_36 rfl (Nat.le_of_ble_eq_true rfl) rfl (Nat.le_of_ble_eq_true rfl) rfl rfl (c_Mo_tell l g _ L (ew_w (ew_w (ew_w M 47 18 (nI 0)) 47 12 (sp_mix (sp_mix (sp_tR ρ (nI 1)) (M 56 0)) (-7))) 47 14 (nI (sp_ch (sp_mix (sp_mix (sp_tR ρ (nI 1)) (M 56 0)) (-7))))) (M 56 1)) rfl ?_
    refine en_eq (M' := ew_w (ew_w (ew_w (ew_w M 47 18 (nI 0)) 47 12 (sp_mix (sp_mix (sp_tR ρ (nI 1)) (M 56 0)) (-7))) 47 14 (nI (sp_ch (sp_mix (sp_mix (sp_tR ρ (nI 1)) (M 56 0)) (-7))))) 47 12 (sp_mix (sp_mix (sp_mix (sp_tR ρ (nI 1)) (M 56 0)) (-7)) (M 56 1))) rfl rfl (by rw [show (ew_w (ew_w (ew_w M 47 18 (nI 0)) 47 12 (sp_mix (sp_mix (sp_tR ρ (nI 1)) (M 56 0)) (-7))) 47 14 (nI (sp_ch (sp_mix (sp_mix (sp_tR ρ (nI 1)) (M 56 0)) (-7))))) 47 12 = (sp_mix (sp_mix (sp_tR ρ (nI 1)) (M 56 0)) (-7)) from by rw [ew_w_j (by decide)]; exact ew_w_at]) ?_
    refine ew_aload_n d_Mo_verify_79 rfl ?_
    refine ew_getr (ci := 9) (f := 15) d_Mo_verify_80 rfl rfl rfl tw_606 ?_
    refine ew_iload_n d_Mo_verify_83 rfl ?_
    refine ew_aload_n d_Mo_verify_84 rfl ?_
    refine en_callV (As := []) (i := 47) (ci := 9) (st := [.int (nI 0), .ref 57]) (st1 := [.int (nI (sp_ch (sp_mix (sp_mix (sp_mix (sp_mix (sp_tR ρ (nI 1)) (M 56 0)) (-7)) (M 56 1)) (-7)))), .int (nI 0), .ref 57]) d_Mo_verify_85 k_Mo_challenge rfl rfl tw_770 tw_772 tp_38 rfl (Nat.le_of_ble_eq_true rfl) rfl (Nat.le_of_ble_eq_true rfl) rfl rfl (c_Mo_challengew l g _ L (ew_w (ew_w (ew_w M 47 18 (nI 0)) 47 12 (sp_mix (sp_mix (sp_tR ρ (nI 1)) (M 56 0)) (-7))) 47 14 (nI (sp_ch (sp_mix (sp_mix (sp_tR ρ (nI 1)) (M 56 0)) (-7))))) (sp_mix (sp_mix (sp_mix (sp_tR ρ (nI 1)) (M 56 0)) (-7)) (M 56 1))) rfl ?_
    refine ew_iast (j := 0) d_Mo_verify_88 rfl (by decide) (rfl) (by decide) (by decide) ?_
    refine en_inc (ls' := [.ref 47, .int (nI 1), .retAddr 0]) d_Mo_verify_89 rfl rfl ?_
    refine ew_goto (tgt := 62) d_Mo_verify_92 (by decide) ?_
    refine ew_iload_n d_Mo_verify_62 rfl ?_
    refine ew_iconst (v := nI 3) d_Mo_verify_63 (by decide) ?_
    refine en_icmp_ge (tgt := 95) d_Mo_verify_64 (by decide) (by decide) (by decide) (fun h64_1 => by exact absurd h64_1 (by decide)) (fun h64_1 => ?_)
    refine ew_aload_n d_Mo_verify_67 rfl ?_
    refine ew_aload_n d_Mo_verify_68 rfl ?_
    refine ew_getr (ci := 9) (f := 10) d_Mo_verify_69 rfl rfl rfl tw_602 ?_
    refine ew_iload_n d_Mo_verify_72 rfl ?_
    refine ew_iconst (v := nI 1) d_Mo_verify_73 (by decide) ?_
    refine en_iadd d_Mo_verify_74 ?_
    refine en_eq rfl (show _ = [.int (nI 2), .ref 56, .ref 47] from rfl) rfl ?_
    refine ew_iald (j := 2) d_Mo_verify_75 rfl (rfl) (by decide) (by decide) ?_
    refine en_eq (st' := [.int (M 56 2), .ref 47]) rfl (by rw [show ((ew_w (ew_w (ew_w (ew_w (ew_w M 47 18 (nI 0)) 47 12 (sp_mix (sp_mix (sp_tR ρ (nI 1)) (M 56 0)) (-7))) 47 14 (nI (sp_ch (sp_mix (sp_mix (sp_tR ρ (nI 1)) (M 56 0)) (-7))))) 47 12 (sp_mix (sp_mix (sp_mix (sp_mix (sp_tR ρ (nI 1)) (M 56 0)) (-7)) (M 56 1)) (-7))) 57 0 (nI (sp_ch (sp_mix (sp_mix (sp_mix (sp_mix (sp_tR ρ (nI 1)) (M 56 0)) (-7)) (M 56 1)) (-7))))) 56 2) = (M 56 2) from by rw [ew_w_ne (by decide), ew_w_ne (by decide), ew_w_ne (by decide), ew_w_ne (by decide), ew_w_ne (by decide)]]) rfl ?_
    refine en_callV (As := [.int (M 56 2)]) (i := 47) (ci := 9) (st := []) (st1 := []) d_Mo_verify_76 k_Mo_tell rfl rfl tw_748 tw_750 tp_36 rfl (Nat.le_of_ble_eq_true rfl) rfl (Nat.le_of_ble_eq_true rfl) rfl rfl (c_Mo_tell l g _ L (ew_w (ew_w (ew_w (ew_w (ew_w M 47 18 (nI 0)) 47 12 (sp_mix (sp_mix (sp_tR ρ (nI 1)) (M 56 0)) (-7))) 47 14 (nI (sp_ch (sp_mix (sp_mix (sp_tR ρ (nI 1)) (M 56 0)) (-7))))) 47 12 (sp_mix (sp_mix (sp_mix (sp_mix (sp_tR ρ (nI 1)) (M 56 0)) (-7)) (M 56 1)) (-7))) 57 0 (nI (sp_ch (sp_mix (sp_mix (sp_mix (sp_mix (sp_tR ρ (nI 1)) (M 56 0)) (-7)) (M 56 1)) (-7))))) (M 56 2)) rfl ?_
    refine en_eq (M' := ew_w (ew_w (ew_w (ew_w (ew_w (ew_w M 47 18 (nI 0)) 47 12 (sp_mix (sp_mix (sp_tR ρ (nI 1)) (M 56 0)) (-7))) 47 14 (nI (sp_ch (sp_mix (sp_mix (sp_tR ρ (nI 1)) (M 56 0)) (-7))))) 47 12 (sp_mix (sp_mix (sp_mix (sp_mix (sp_tR ρ (nI 1)) (M 56 0)) (-7)) (M 56 1)) (-7))) 57 0 (nI (sp_ch (sp_mix (sp_mix (sp_mix (sp_mix (sp_tR ρ (nI 1)) (M 56 0)) (-7)) (M 56 1)) (-7))))) 47 12 (sp_mix (sp_mix (sp_mix (sp_mix (sp_mix (sp_tR ρ (nI 1)) (M 56 0)) (-7)) (M 56 1)) (-7)) (M 56 2))) rfl rfl (by rw [show (ew_w (ew_w (ew_w (ew_w (ew_w M 47 18 (nI 0)) 47 12 (sp_mix (sp_mix (sp_tR ρ (nI 1)) (M 56 0)) (-7))) 47 14 (nI (sp_ch (sp_mix (sp_mix (sp_tR ρ (nI 1)) (M 56 0)) (-7))))) 47 12 (sp_mix (sp_mix (sp_mix (sp_mix (sp_tR ρ (nI 1)) (M 56 0)) (-7)) (M 56 1)) (-7))) 57 0 (nI (sp_ch (sp_mix (sp_mix (sp_mix (sp_mix (sp_tR ρ (nI 1)) (M 56 0)) (-7)) (M 56 1)) (-7))))) 47 12 = (sp_mix (sp_mix (sp_mix (sp_mix (sp_tR ρ (nI 1)) (M 56 0)) (-7)) (M 56 1)) (-7)) from by rw [ew_w_ne (by decide)]; exact ew_w_at]) ?_
    refine ew_aload_n d_Mo_verify_79 rfl ?_
    refine ew_getr (ci := 9) (f := 15) d_Mo_verify_80 rfl rfl rfl tw_606 ?_
    refine ew_iload_n d_Mo_verify_83 rfl ?_
    refine ew_aload_n d_Mo_verify_84 rfl ?_
    refine en_callV (As := []) (i := 47) (ci := 9) (st := [.int (nI 1), .ref 57]) (st1 := [.int (nI (sp_ch (sp_mix (sp_mix (sp_mix (sp_mix (sp_mix (sp_mix (sp_tR ρ (nI 1)) (M 56 0)) (-7)) (M 56 1)) (-7)) (M 56 2)) (-7)))), .int (nI 1), .ref 57]) d_Mo_verify_85 k_Mo_challenge rfl rfl tw_770 tw_772 tp_38 rfl (Nat.le_of_ble_eq_true rfl) rfl (Nat.le_of_ble_eq_true rfl) rfl rfl (c_Mo_challengew l g _ L (ew_w (ew_w (ew_w (ew_w (ew_w M 47 18 (nI 0)) 47 12 (sp_mix (sp_mix (sp_tR ρ (nI 1)) (M 56 0)) (-7))) 47 14 (nI (sp_ch (sp_mix (sp_mix (sp_tR ρ (nI 1)) (M 56 0)) (-7))))) 47 12 (sp_mix (sp_mix (sp_mix (sp_mix (sp_tR ρ (nI 1)) (M 56 0)) (-7)) (M 56 1)) (-7))) 57 0 (nI (sp_ch (sp_mix (sp_mix (sp_mix (sp_mix (sp_tR ρ (nI 1)) (M 56 0)) (-7)) (M 56 1)) (-7))))) (sp_mix (sp_mix (sp_mix (sp_mix (sp_mix (sp_tR ρ (nI 1)) (M 56 0)) (-7)) (M 56 1)) (-7)) (M 56 2))) rfl ?_
    refine ew_iast (j := 1) d_Mo_verify_88 rfl (by decide) (rfl) (by decide) (by decide) ?_
    refine en_inc (ls' := [.ref 47, .int (nI 2), .retAddr 0]) d_Mo_verify_89 rfl rfl ?_
    refine ew_goto (tgt := 62) d_Mo_verify_92 (by decide) ?_
    refine ew_iload_n d_Mo_verify_62 rfl ?_
    refine ew_iconst (v := nI 3) d_Mo_verify_63 (by decide) ?_
    refine en_icmp_ge (tgt := 95) d_Mo_verify_64 (by decide) (by decide) (by decide) (fun h64_2 => by exact absurd h64_2 (by decide)) (fun h64_2 => ?_)
    refine ew_aload_n d_Mo_verify_67 rfl ?_
    refine ew_aload_n d_Mo_verify_68 rfl ?_
    refine ew_getr (ci := 9) (f := 10) d_Mo_verify_69 rfl rfl rfl tw_602 ?_
    refine ew_iload_n d_Mo_verify_72 rfl ?_
    refine ew_iconst (v := nI 1) d_Mo_verify_73 (by decide) ?_
    refine en_iadd d_Mo_verify_74 ?_
    refine en_eq rfl (show _ = [.int (nI 3), .ref 56, .ref 47] from rfl) rfl ?_
    refine ew_iald (j := 3) d_Mo_verify_75 rfl (rfl) (by decide) (by decide) ?_
    refine en_eq (st' := [.int (M 56 3), .ref 47]) rfl (by rw [show ((ew_w (ew_w (ew_w (ew_w (ew_w (ew_w (ew_w M 47 18 (nI 0)) 47 12 (sp_mix (sp_mix (sp_tR ρ (nI 1)) (M 56 0)) (-7))) 47 14 (nI (sp_ch (sp_mix (sp_mix (sp_tR ρ (nI 1)) (M 56 0)) (-7))))) 47 12 (sp_mix (sp_mix (sp_mix (sp_mix (sp_tR ρ (nI 1)) (M 56 0)) (-7)) (M 56 1)) (-7))) 57 0 (nI (sp_ch (sp_mix (sp_mix (sp_mix (sp_mix (sp_tR ρ (nI 1)) (M 56 0)) (-7)) (M 56 1)) (-7))))) 47 12 (sp_mix (sp_mix (sp_mix (sp_mix (sp_mix (sp_mix (sp_tR ρ (nI 1)) (M 56 0)) (-7)) (M 56 1)) (-7)) (M 56 2)) (-7))) 57 1 (nI (sp_ch (sp_mix (sp_mix (sp_mix (sp_mix (sp_mix (sp_mix (sp_tR ρ (nI 1)) (M 56 0)) (-7)) (M 56 1)) (-7)) (M 56 2)) (-7))))) 56 3) = (M 56 3) from by rw [ew_w_ne (by decide), ew_w_ne (by decide), ew_w_ne (by decide), ew_w_ne (by decide), ew_w_ne (by decide), ew_w_ne (by decide), ew_w_ne (by decide)]]) rfl ?_
    refine en_callV (As := [.int (M 56 3)]) (i := 47) (ci := 9) (st := []) (st1 := []) d_Mo_verify_76 k_Mo_tell rfl rfl tw_748 tw_750 tp_36 rfl (Nat.le_of_ble_eq_true rfl) rfl (Nat.le_of_ble_eq_true rfl) rfl rfl (c_Mo_tell l g _ L (ew_w (ew_w (ew_w (ew_w (ew_w (ew_w (ew_w M 47 18 (nI 0)) 47 12 (sp_mix (sp_mix (sp_tR ρ (nI 1)) (M 56 0)) (-7))) 47 14 (nI (sp_ch (sp_mix (sp_mix (sp_tR ρ (nI 1)) (M 56 0)) (-7))))) 47 12 (sp_mix (sp_mix (sp_mix (sp_mix (sp_tR ρ (nI 1)) (M 56 0)) (-7)) (M 56 1)) (-7))) 57 0 (nI (sp_ch (sp_mix (sp_mix (sp_mix (sp_mix (sp_tR ρ (nI 1)) (M 56 0)) (-7)) (M 56 1)) (-7))))) 47 12 (sp_mix (sp_mix (sp_mix (sp_mix (sp_mix (sp_mix (sp_tR ρ (nI 1)) (M 56 0)) (-7)) (M 56 1)) (-7)) (M 56 2)) (-7))) 57 1 (nI (sp_ch (sp_mix (sp_mix (sp_mix (sp_mix (sp_mix (sp_mix (sp_tR ρ (nI 1)) (M 56 0)) (-7)) (M 56 1)) (-7)) (M 56 2)) (-7))))) (M 56 3)) rfl ?_
    refine en_eq (M' := ew_w (ew_w (ew_w (ew_w (ew_w (ew_w (ew_w (ew_w M 47 18 (nI 0)) 47 12 (sp_mix (sp_mix (sp_tR ρ (nI 1)) (M 56 0)) (-7))) 47 14 (nI (sp_ch (sp_mix (sp_mix (sp_tR ρ (nI 1)) (M 56 0)) (-7))))) 47 12 (sp_mix (sp_mix (sp_mix (sp_mix (sp_tR ρ (nI 1)) (M 56 0)) (-7)) (M 56 1)) (-7))) 57 0 (nI (sp_ch (sp_mix (sp_mix (sp_mix (sp_mix (sp_tR ρ (nI 1)) (M 56 0)) (-7)) (M 56 1)) (-7))))) 47 12 (sp_mix (sp_mix (sp_mix (sp_mix (sp_mix (sp_mix (sp_tR ρ (nI 1)) (M 56 0)) (-7)) (M 56 1)) (-7)) (M 56 2)) (-7))) 57 1 (nI (sp_ch (sp_mix (sp_mix (sp_mix (sp_mix (sp_mix (sp_mix (sp_tR ρ (nI 1)) (M 56 0)) (-7)) (M 56 1)) (-7)) (M 56 2)) (-7))))) 47 12 (sp_mix (sp_mix (sp_mix (sp_mix (sp_mix (sp_mix (sp_mix (sp_tR ρ (nI 1)) (M 56 0)) (-7)) (M 56 1)) (-7)) (M 56 2)) (-7)) (M 56 3))) rfl rfl (by rw [show (ew_w (ew_w (ew_w (ew_w (ew_w (ew_w (ew_w M 47 18 (nI 0)) 47 12 (sp_mix (sp_mix (sp_tR ρ (nI 1)) (M 56 0)) (-7))) 47 14 (nI (sp_ch (sp_mix (sp_mix (sp_tR ρ (nI 1)) (M 56 0)) (-7))))) 47 12 (sp_mix (sp_mix (sp_mix (sp_mix (sp_tR ρ (nI 1)) (M 56 0)) (-7)) (M 56 1)) (-7))) 57 0 (nI (sp_ch (sp_mix (sp_mix (sp_mix (sp_mix (sp_tR ρ (nI 1)) (M 56 0)) (-7)) (M 56 1)) (-7))))) 47 12 (sp_mix (sp_mix (sp_mix (sp_mix (sp_mix (sp_mix (sp_tR ρ (nI 1)) (M 56 0)) (-7)) (M 56 1)) (-7)) (M 56 2)) (-7))) 57 1 (nI (sp_ch (sp_mix (sp_mix (sp_mix (sp_mix (sp_mix (sp_mix (sp_tR ρ (nI 1)) (M 56 0)) (-7)) (M 56 1)) (-7)) (M 56 2)) (-7))))) 47 12 = (sp_mix (sp_mix (sp_mix (sp_mix (sp_mix (sp_mix (sp_tR ρ (nI 1)) (M 56 0)) (-7)) (M 56 1)) (-7)) (M 56 2)) (-7)) from by rw [ew_w_ne (by decide)]; exact ew_w_at]) ?_
    refine ew_aload_n d_Mo_verify_79 rfl ?_
    refine ew_getr (ci := 9) (f := 15) d_Mo_verify_80 rfl rfl rfl tw_606 ?_
    refine ew_iload_n d_Mo_verify_83 rfl ?_
    refine ew_aload_n d_Mo_verify_84 rfl ?_
    refine en_callV (As := []) (i := 47) (ci := 9) (st := [.int (nI 2), .ref 57]) (st1 := [.int (nI (sp_ch (sp_mix (sp_mix (sp_mix (sp_mix (sp_mix (sp_mix (sp_mix (sp_mix (sp_tR ρ (nI 1)) (M 56 0)) (-7)) (M 56 1)) (-7)) (M 56 2)) (-7)) (M 56 3)) (-7)))), .int (nI 2), .ref 57]) d_Mo_verify_85 k_Mo_challenge rfl rfl tw_770 tw_772 tp_38 rfl (Nat.le_of_ble_eq_true rfl) rfl (Nat.le_of_ble_eq_true rfl) rfl rfl (c_Mo_challengew l g _ L (ew_w (ew_w (ew_w (ew_w (ew_w (ew_w (ew_w M 47 18 (nI 0)) 47 12 (sp_mix (sp_mix (sp_tR ρ (nI 1)) (M 56 0)) (-7))) 47 14 (nI (sp_ch (sp_mix (sp_mix (sp_tR ρ (nI 1)) (M 56 0)) (-7))))) 47 12 (sp_mix (sp_mix (sp_mix (sp_mix (sp_tR ρ (nI 1)) (M 56 0)) (-7)) (M 56 1)) (-7))) 57 0 (nI (sp_ch (sp_mix (sp_mix (sp_mix (sp_mix (sp_tR ρ (nI 1)) (M 56 0)) (-7)) (M 56 1)) (-7))))) 47 12 (sp_mix (sp_mix (sp_mix (sp_mix (sp_mix (sp_mix (sp_tR ρ (nI 1)) (M 56 0)) (-7)) (M 56 1)) (-7)) (M 56 2)) (-7))) 57 1 (nI (sp_ch (sp_mix (sp_mix (sp_mix (sp_mix (sp_mix (sp_mix (sp_tR ρ (nI 1)) (M 56 0)) (-7)) (M 56 1)) (-7)) (M 56 2)) (-7))))) (sp_mix (sp_mix (sp_mix (sp_mix (sp_mix (sp_mix (sp_mix (sp_tR ρ (nI 1)) (M 56 0)) (-7)) (M 56 1)) (-7)) (M 56 2)) (-7)) (M 56 3))) rfl ?_
    refine ew_iast (j := 2) d_Mo_verify_88 rfl (by decide) (rfl) (by decide) (by decide) ?_
    refine en_inc (ls' := [.ref 47, .int (nI 3), .retAddr 0]) d_Mo_verify_89 rfl rfl ?_
    refine ew_goto (tgt := 62) d_Mo_verify_92 (by decide) ?_
    refine ew_iload_n d_Mo_verify_62 rfl ?_
    refine ew_iconst (v := nI 3) d_Mo_verify_63 (by decide) ?_
    refine en_icmp_ge (tgt := 95) d_Mo_verify_64 (by decide) (by decide) (by decide) (fun h64_3 => ?_) (fun h64_3 => by exact absurd h64_3 (by decide))
    refine ew_aload_n d_Mo_verify_95 rfl ?_
    refine ew_aload_n d_Mo_verify_96 rfl ?_
    refine ew_getr (ci := 9) (f := 10) d_Mo_verify_97 rfl rfl rfl tw_602 ?_
    refine ew_iconst (v := nI 4) d_Mo_verify_100 (by decide) ?_
    refine ew_iald (j := 4) d_Mo_verify_101 rfl (rfl) (by decide) (by decide) ?_
    refine en_eq (st' := [.int (M 56 4), .ref 47]) rfl (by rw [show ((ew_w (ew_w (ew_w (ew_w (ew_w (ew_w (ew_w (ew_w (ew_w M 47 18 (nI 0)) 47 12 (sp_mix (sp_mix (sp_tR ρ (nI 1)) (M 56 0)) (-7))) 47 14 (nI (sp_ch (sp_mix (sp_mix (sp_tR ρ (nI 1)) (M 56 0)) (-7))))) 47 12 (sp_mix (sp_mix (sp_mix (sp_mix (sp_tR ρ (nI 1)) (M 56 0)) (-7)) (M 56 1)) (-7))) 57 0 (nI (sp_ch (sp_mix (sp_mix (sp_mix (sp_mix (sp_tR ρ (nI 1)) (M 56 0)) (-7)) (M 56 1)) (-7))))) 47 12 (sp_mix (sp_mix (sp_mix (sp_mix (sp_mix (sp_mix (sp_tR ρ (nI 1)) (M 56 0)) (-7)) (M 56 1)) (-7)) (M 56 2)) (-7))) 57 1 (nI (sp_ch (sp_mix (sp_mix (sp_mix (sp_mix (sp_mix (sp_mix (sp_tR ρ (nI 1)) (M 56 0)) (-7)) (M 56 1)) (-7)) (M 56 2)) (-7))))) 47 12 (sp_mix (sp_mix (sp_mix (sp_mix (sp_mix (sp_mix (sp_mix (sp_mix (sp_tR ρ (nI 1)) (M 56 0)) (-7)) (M 56 1)) (-7)) (M 56 2)) (-7)) (M 56 3)) (-7))) 57 2 (nI (sp_ch (sp_mix (sp_mix (sp_mix (sp_mix (sp_mix (sp_mix (sp_mix (sp_mix (sp_tR ρ (nI 1)) (M 56 0)) (-7)) (M 56 1)) (-7)) (M 56 2)) (-7)) (M 56 3)) (-7))))) 56 4) = (M 56 4) from by rw [ew_w_ne (by decide), ew_w_ne (by decide), ew_w_ne (by decide), ew_w_ne (by decide), ew_w_ne (by decide), ew_w_ne (by decide), ew_w_ne (by decide), ew_w_ne (by decide), ew_w_ne (by decide)]]) rfl ?_
    refine en_callVq (As := [.int (M 56 4)]) (i := 47) (ci := 9) (st := []) d_Mo_verify_102 k_Mo_tellRest rfl rfl tw_787 tw_789 tp_42 rfl (Nat.le_of_ble_eq_true rfl) rfl (Nat.le_of_ble_eq_true rfl) rfl rfl (c_Mo_tellRest l g _ L (ew_w (ew_w (ew_w (ew_w (ew_w (ew_w (ew_w (ew_w (ew_w M 47 18 (nI 0)) 47 12 (sp_mix (sp_mix (sp_tR ρ (nI 1)) (M 56 0)) (-7))) 47 14 (nI (sp_ch (sp_mix (sp_mix (sp_tR ρ (nI 1)) (M 56 0)) (-7))))) 47 12 (sp_mix (sp_mix (sp_mix (sp_mix (sp_tR ρ (nI 1)) (M 56 0)) (-7)) (M 56 1)) (-7))) 57 0 (nI (sp_ch (sp_mix (sp_mix (sp_mix (sp_mix (sp_tR ρ (nI 1)) (M 56 0)) (-7)) (M 56 1)) (-7))))) 47 12 (sp_mix (sp_mix (sp_mix (sp_mix (sp_mix (sp_mix (sp_tR ρ (nI 1)) (M 56 0)) (-7)) (M 56 1)) (-7)) (M 56 2)) (-7))) 57 1 (nI (sp_ch (sp_mix (sp_mix (sp_mix (sp_mix (sp_mix (sp_mix (sp_tR ρ (nI 1)) (M 56 0)) (-7)) (M 56 1)) (-7)) (M 56 2)) (-7))))) 47 12 (sp_mix (sp_mix (sp_mix (sp_mix (sp_mix (sp_mix (sp_mix (sp_mix (sp_tR ρ (nI 1)) (M 56 0)) (-7)) (M 56 1)) (-7)) (M 56 2)) (-7)) (M 56 3)) (-7))) 57 2 (nI (sp_ch (sp_mix (sp_mix (sp_mix (sp_mix (sp_mix (sp_mix (sp_mix (sp_mix (sp_tR ρ (nI 1)) (M 56 0)) (-7)) (M 56 1)) (-7)) (M 56 2)) (-7)) (M 56 3)) (-7))))) (M 56 4)) ?_
    rintro _ _ M5 ⟨rfl, rfl, p1, p2, _, p4⟩
    rw [show (ew_w (ew_w (ew_w (ew_w (ew_w (ew_w (ew_w (ew_w (ew_w M 47 18 (nI 0)) 47 12 (sp_mix (sp_mix (sp_tR ρ (nI 1)) (M 56 0)) (-7))) 47 14 (nI (sp_ch (sp_mix (sp_mix (sp_tR ρ (nI 1)) (M 56 0)) (-7))))) 47 12 (sp_mix (sp_mix (sp_mix (sp_mix (sp_tR ρ (nI 1)) (M 56 0)) (-7)) (M 56 1)) (-7))) 57 0 (nI (sp_ch (sp_mix (sp_mix (sp_mix (sp_mix (sp_tR ρ (nI 1)) (M 56 0)) (-7)) (M 56 1)) (-7))))) 47 12 (sp_mix (sp_mix (sp_mix (sp_mix (sp_mix (sp_mix (sp_tR ρ (nI 1)) (M 56 0)) (-7)) (M 56 1)) (-7)) (M 56 2)) (-7))) 57 1 (nI (sp_ch (sp_mix (sp_mix (sp_mix (sp_mix (sp_mix (sp_mix (sp_tR ρ (nI 1)) (M 56 0)) (-7)) (M 56 1)) (-7)) (M 56 2)) (-7))))) 47 12 (sp_mix (sp_mix (sp_mix (sp_mix (sp_mix (sp_mix (sp_mix (sp_mix (sp_tR ρ (nI 1)) (M 56 0)) (-7)) (M 56 1)) (-7)) (M 56 2)) (-7)) (M 56 3)) (-7))) 57 2 (nI (sp_ch (sp_mix (sp_mix (sp_mix (sp_mix (sp_mix (sp_mix (sp_mix (sp_mix (sp_tR ρ (nI 1)) (M 56 0)) (-7)) (M 56 1)) (-7)) (M 56 2)) (-7)) (M 56 3)) (-7))))) 47 12 = sp_tn (sp_tn (sp_tn (sp_t0 ρ (M 56 0)) (M 56 1)) (M 56 2)) (M 56 3) from by rw [ew_w_ne (by decide)]; exact ew_w_at] at p4
    have fr : ∀ q, q ≠ 47 → q ≠ 57 → q ≠ 58 → M5 q = M q := fun q h47 h57 h58 => by rw [p1 q h47 h58]; simp only [ew_w_ne h47, ew_w_ne h57]
    have fj : ∀ j, j ≠ 12 → j ≠ 14 → j ≠ 18 → M5 47 j = M 47 j := fun j h12 h14 h18 => by rw [p2 j h12]; simp only [ew_w_ne (show (47 : Nat) ≠ 57 by decide), ew_w_j h12, ew_w_j h14, ew_w_j h18]
    have hA0 : M5 47 14 = nI (sp_Av ρ (M 56)) := by rw [p2 14 (by decide)]; simp only [ew_w_ne (show (47 : Nat) ≠ 57 by decide), ew_w_j (show (14 : Nat) ≠ 12 by decide)]; exact ew_w_at
    have hC0 : M5 57 0 = nI (sp_Bv0 ρ (M 56)) := by rw [p1 57 (by decide) (by decide)]; (try simp only [ew_w_ne (show (57 : Nat) ≠ 47 by decide), ew_w_j (show (0 : Nat) ≠ 1 by decide), ew_w_j (show (0 : Nat) ≠ 2 by decide)]); exact ew_w_at
    have hC1 : M5 57 1 = nI (sp_Bv1 ρ (M 56)) := by rw [p1 57 (by decide) (by decide)]; (try simp only [ew_w_ne (show (57 : Nat) ≠ 47 by decide), ew_w_j (show (1 : Nat) ≠ 2 by decide)]); exact ew_w_at
    have hC2 : M5 57 2 = nI (sp_Bv2 ρ (M 56)) := by rw [p1 57 (by decide) (by decide)]; (try simp only [ew_w_ne (show (57 : Nat) ≠ 47 by decide)]); exact ew_w_at
    show Ew l g _ _ _ m_Mo_verify 105 [.ref 47, .int (nI 3), .retAddr 0] [] (ew_SH L) M5 _
    refine ew_aload_n d_Mo_verify_105 rfl ?_
    refine ew_iconst (v := nI 1) d_Mo_verify_106 (by decide) ?_
    refine ew_puti (ci := 9) (f := 18) (ty := .boolean) d_Mo_verify_107 rfl (by decide) rfl rfl rfl (by decide +kernel) (by decide) rfl tw_609 ?_
    refine ew_iconst (v := nI 0) d_Mo_verify_110 (by decide) ?_
    refine en_istore_n (ls' := [.ref 47, .int (nI 0), .retAddr 0]) d_Mo_verify_111 (Nat.le_of_ble_eq_true rfl) rfl ?_
    refine ew_iload_n d_Mo_verify_112 rfl ?_
    refine ew_iconst (v := nI 3) d_Mo_verify_113 (by decide) ?_
    refine en_icmp_ge (tgt := 135) d_Mo_verify_114 (by decide) (by decide) (by decide) (fun h114 => by exact absurd h114 (by decide)) (fun h114 => ?_)
    refine ew_aload_n d_Mo_verify_117 rfl ?_
    refine ew_getr (ci := 9) (f := 17) d_Mo_verify_118 rfl rfl rfl tw_608 ?_
    refine ew_iload_n d_Mo_verify_121 rfl ?_
    refine ew_aload_n d_Mo_verify_122 rfl ?_
    refine ew_getr (ci := 9) (f := 16) d_Mo_verify_123 rfl rfl rfl tw_607 ?_
    refine ew_iload_n d_Mo_verify_126 rfl ?_
    refine ew_iald (j := 0) d_Mo_verify_127 rfl (rfl) (by decide) (by decide) ?_
    refine en_eq (st' := [.int (nI (sp_jv ρ (M 56) 0)), .int (nI 0), .ref 59]) rfl (by rw [show ((ew_w M5 47 18 (nI 1)) 58 0) = (nI (sp_jv ρ (M 56) 0)) from by rw [ew_w_ne (by decide), p4 0 (by decide)]; rfl]) rfl ?_
    refine ew_iast (j := 0) d_Mo_verify_128 rfl (by decide) (rfl) (by decide) (by decide) ?_
    refine en_inc (ls' := [.ref 47, .int (nI 1), .retAddr 0]) d_Mo_verify_129 rfl rfl ?_
    refine ew_goto (tgt := 112) d_Mo_verify_132 (by decide) ?_
    refine ew_iload_n d_Mo_verify_112 rfl ?_
    refine ew_iconst (v := nI 3) d_Mo_verify_113 (by decide) ?_
    refine en_icmp_ge (tgt := 135) d_Mo_verify_114 (by decide) (by decide) (by decide) (fun h114_1 => by exact absurd h114_1 (by decide)) (fun h114_1 => ?_)
    refine ew_aload_n d_Mo_verify_117 rfl ?_
    refine ew_getr (ci := 9) (f := 17) d_Mo_verify_118 rfl rfl rfl tw_608 ?_
    refine ew_iload_n d_Mo_verify_121 rfl ?_
    refine ew_aload_n d_Mo_verify_122 rfl ?_
    refine ew_getr (ci := 9) (f := 16) d_Mo_verify_123 rfl rfl rfl tw_607 ?_
    refine ew_iload_n d_Mo_verify_126 rfl ?_
    refine ew_iald (j := 1) d_Mo_verify_127 rfl (rfl) (by decide) (by decide) ?_
    refine en_eq (st' := [.int (nI (sp_jv ρ (M 56) 1)), .int (nI 1), .ref 59]) rfl (by rw [show ((ew_w (ew_w M5 47 18 (nI 1)) 59 0 (nI (sp_jv ρ (M 56) 0))) 58 1) = (nI (sp_jv ρ (M 56) 1)) from by rw [ew_w_ne (by decide), ew_w_ne (by decide), p4 1 (by decide)]; rfl]) rfl ?_
    refine ew_iast (j := 1) d_Mo_verify_128 rfl (by decide) (rfl) (by decide) (by decide) ?_
    refine en_inc (ls' := [.ref 47, .int (nI 2), .retAddr 0]) d_Mo_verify_129 rfl rfl ?_
    refine ew_goto (tgt := 112) d_Mo_verify_132 (by decide) ?_
    refine ew_iload_n d_Mo_verify_112 rfl ?_
    refine ew_iconst (v := nI 3) d_Mo_verify_113 (by decide) ?_
    refine en_icmp_ge (tgt := 135) d_Mo_verify_114 (by decide) (by decide) (by decide) (fun h114_2 => by exact absurd h114_2 (by decide)) (fun h114_2 => ?_)
    refine ew_aload_n d_Mo_verify_117 rfl ?_
    refine ew_getr (ci := 9) (f := 17) d_Mo_verify_118 rfl rfl rfl tw_608 ?_
    refine ew_iload_n d_Mo_verify_121 rfl ?_
    refine ew_aload_n d_Mo_verify_122 rfl ?_
    refine ew_getr (ci := 9) (f := 16) d_Mo_verify_123 rfl rfl rfl tw_607 ?_
    refine ew_iload_n d_Mo_verify_126 rfl ?_
    refine ew_iald (j := 2) d_Mo_verify_127 rfl (rfl) (by decide) (by decide) ?_
    refine en_eq (st' := [.int (nI (sp_jv ρ (M 56) 2)), .int (nI 2), .ref 59]) rfl (by rw [show ((ew_w (ew_w (ew_w M5 47 18 (nI 1)) 59 0 (nI (sp_jv ρ (M 56) 0))) 59 1 (nI (sp_jv ρ (M 56) 1))) 58 2) = (nI (sp_jv ρ (M 56) 2)) from by rw [ew_w_ne (by decide), ew_w_ne (by decide), ew_w_ne (by decide), p4 2 (by decide)]; rfl]) rfl ?_
    refine ew_iast (j := 2) d_Mo_verify_128 rfl (by decide) (rfl) (by decide) (by decide) ?_
    refine en_inc (ls' := [.ref 47, .int (nI 3), .retAddr 0]) d_Mo_verify_129 rfl rfl ?_
    refine ew_goto (tgt := 112) d_Mo_verify_132 (by decide) ?_
    refine ew_iload_n d_Mo_verify_112 rfl ?_
    refine ew_iconst (v := nI 3) d_Mo_verify_113 (by decide) ?_
    refine en_icmp_ge (tgt := 135) d_Mo_verify_114 (by decide) (by decide) (by decide) (fun h114_3 => ?_) (fun h114_3 => by exact absurd h114_3 (by decide))
    refine ew_iconst (v := nI 0) d_Mo_verify_135 (by decide) ?_
    refine en_istore_n (ls' := [.ref 47, .int (nI 0), .retAddr 0]) d_Mo_verify_136 (Nat.le_of_ble_eq_true rfl) rfl ?_
    refine ew_iconst (v := nI 0) d_Mo_verify_137 (by decide) ?_
    refine en_istore_n (ls' := [.ref 47, .int (nI 0), .int (nI 0)]) d_Mo_verify_138 (Nat.le_of_ble_eq_true rfl) rfl ?_
    refine ew_iload_n d_Mo_verify_139 rfl ?_
    refine ew_iconst (v := nI 3) d_Mo_verify_140 (by decide) ?_
    refine en_icmp_ge (tgt := 160) d_Mo_verify_141 (by decide) (by decide) (by decide) (fun h141 => by exact absurd h141 (by decide)) (fun h141 => ?_)
    refine ew_iload_n d_Mo_verify_144 rfl ?_
    refine en_if_ne (tgt := 160) d_Mo_verify_145 (by decide) (by first | with_reducible exact sp_k0_lt _ _ | with_reducible exact sp_k1_lt _ _ | decide) (fun h145 => by exact absurd h145 (by decide)) (fun h145 => ?_)
    refine ew_aload_n d_Mo_verify_148 rfl ?_
    refine ew_iload_n d_Mo_verify_149 rfl ?_
    have e56 : (ew_w (ew_w (ew_w (ew_w M5 47 18 (nI 1)) 59 0 (nI (sp_jv ρ (M 56) 0))) 59 1 (nI (sp_jv ρ (M 56) 1))) 59 2 (nI (sp_jv ρ (M 56) 2))) 56 = M 56 := (by rw [ew_w_ne (by decide), ew_w_ne (by decide), ew_w_ne (by decide), ew_w_ne (by decide)]; exact fr 56 (by decide) (by decide) (by decide))
    have hk0 : sp_fnok ((ew_w (ew_w (ew_w (ew_w M5 47 18 (nI 1)) 59 0 (nI (sp_jv ρ (M 56) 0))) 59 1 (nI (sp_jv ρ (M 56) 1))) 59 2 (nI (sp_jv ρ (M 56) 2))) 56) (sp_fnf (M 56)) := by rw [e56]; exact sp_nB_fn h33
    refine en_callVq (As := [.int (nI 0)]) (i := 47) (ci := 9) (st := []) d_Mo_verify_150 k_Mo_code rfl rfl tw_822 tw_824 tp_47 rfl (Nat.le_of_ble_eq_true rfl) rfl (Nat.le_of_ble_eq_true rfl) rfl rfl (c_Mo_code0 l g _ L (ew_w (ew_w (ew_w (ew_w M5 47 18 (nI 1)) 59 0 (nI (sp_jv ρ (M 56) 0))) 59 1 (nI (sp_jv ρ (M 56) 1))) 59 2 (nI (sp_jv ρ (M 56) 2))) ρ (sp_rm_of hr (by rw [ew_w_ne (by decide), ew_w_ne (by decide), ew_w_ne (by decide), ew_w_ne (by decide)]; exact fr 49 (by decide) (by decide) (by decide)) (by rw [ew_w_ne (by decide), ew_w_ne (by decide), ew_w_ne (by decide), ew_w_ne (by decide)]; exact fr 50 (by decide) (by decide) (by decide)) (by rw [ew_w_ne (by decide), ew_w_ne (by decide), ew_w_ne (by decide), ew_w_ne (by decide)]; exact fr 51 (by decide) (by decide) (by decide)) (by rw [ew_w_ne (by decide), ew_w_ne (by decide), ew_w_ne (by decide), ew_w_ne (by decide)]; exact fr 52 (by decide) (by decide) (by decide)) (by rw [ew_w_ne (by decide), ew_w_ne (by decide), ew_w_ne (by decide), ew_w_j (by decide)]; exact fj 5 (by decide) (by decide) (by decide)) (by rw [ew_w_ne (by decide), ew_w_ne (by decide), ew_w_ne (by decide), ew_w_ne (by decide)]; exact fr 53 (by decide) (by decide) (by decide)) (by rw [ew_w_ne (by decide), ew_w_ne (by decide), ew_w_ne (by decide), ew_w_ne (by decide)]; exact fr 54 (by decide) (by decide) (by decide)) (by rw [ew_w_ne (by decide), ew_w_ne (by decide), ew_w_ne (by decide), ew_w_ne (by decide)]; exact fr 55 (by decide) (by decide) (by decide))) (sp_fnf (M 56)) hk0 (sp_rts_of hR (by rw [ew_w_ne (by decide), ew_w_ne (by decide), ew_w_ne (by decide), ew_w_ne (by decide)]; exact fr 60 (by decide) (by decide) (by decide))) (sp_Av ρ (M 56)) (sp_ch_lt _) (by rw [ew_w_ne (by decide), ew_w_ne (by decide), ew_w_ne (by decide), ew_w_j (by decide)]; exact hA0) (sp_Bv0 ρ (M 56)) (sp_ch_lt _) (by rw [ew_w_ne (by decide), ew_w_ne (by decide), ew_w_ne (by decide), ew_w_ne (by decide)]; exact hC0) (sp_Bv1 ρ (M 56)) (sp_ch_lt _) (by rw [ew_w_ne (by decide), ew_w_ne (by decide), ew_w_ne (by decide), ew_w_ne (by decide)]; exact hC1) (sp_Bv2 ρ (M 56)) (sp_ch_lt _) (by rw [ew_w_ne (by decide), ew_w_ne (by decide), ew_w_ne (by decide), ew_w_ne (by decide)]; exact hC2) (sp_jv ρ (M 56) 0) (sp_po_lt _) (by rw [ew_w_ne (by decide), ew_w_ne (by decide), ew_w_ne (by decide), ew_w_ne (by decide)]; exact p4 0 (by decide))) ?_
    rintro _ _ M7 ⟨rfl, rfl, b0⟩
    rw [e56]
    show Ew l g _ _ _ m_Mo_verify 153 [.ref 47, .int (nI 0), .int (nI 0)] [.int (nI (sp_kc0 ρ (M 56)))] (ew_SH L) M7 _
    refine en_istore_n (ls' := [.ref 47, .int (nI (sp_kc0 ρ (M 56))), .int (nI 0)]) d_Mo_verify_153 (Nat.le_of_ble_eq_true rfl) rfl ?_
    refine en_inc (ls' := [.ref 47, .int (nI (sp_kc0 ρ (M 56))), .int (nI 1)]) d_Mo_verify_154 rfl rfl ?_
    refine ew_goto (tgt := 139) d_Mo_verify_157 (by decide) ?_
    refine ew_iload_n d_Mo_verify_139 rfl ?_
    refine ew_iconst (v := nI 3) d_Mo_verify_140 (by decide) ?_
    refine en_icmp_ge (tgt := 160) d_Mo_verify_141 (by decide) (by decide) (by decide) (fun h141_1 => by exact absurd h141_1 (by decide)) (fun h141_1 => ?_)
    refine ew_iload_n d_Mo_verify_144 rfl ?_
    refine en_if_ne (tgt := 160) d_Mo_verify_145 (by decide) (by first | with_reducible exact sp_k0_lt _ _ | with_reducible exact sp_k1_lt _ _ | decide) (fun h145_1 => ?_) (fun h145_1 => ?_)
    · refine ew_iload_n d_Mo_verify_160 rfl ?_
      exact ew_iret d_Mo_verify_161 rfl (⟨rfl, by rw [show sp_vcd ρ (M 56) = sp_kc0 ρ (M 56) from by (unfold sp_vcd; rw [if_neg (by rw [h33]; decide), if_pos h145_1])], fun q hq => by (have e47 : q ≠ 47 := fun e => hq (by rw [e]; decide)); (have e59 : q ≠ 59 := fun e => hq (by rw [e]; decide)); rw [b0 q (fun e => hq (by rw [e]; decide))]; rw [ew_w_ne e59, ew_w_ne e59, ew_w_ne e59, ew_w_ne e47]; exact fr q e47 (fun e => hq (by rw [e]; decide)) (fun e => hq (by rw [e]; decide)), fun j hj => by rw [b0 47 (by decide), ew_w_ne (by decide), ew_w_ne (by decide), ew_w_ne (by decide), ew_w_j (show j ≠ 18 from fun e => hj (by rw [e]; decide))]; exact fj j (fun e => hj (by rw [e]; decide)) (fun e => hj (by rw [e]; decide)) (fun e => hj (by rw [e]; decide)), by rw [h33]; rw [b0 47 (by decide), ew_w_ne (by decide), ew_w_ne (by decide), ew_w_ne (by decide)]; exact ew_w_at, fun _ => ⟨by rw [b0 59 (by decide), ew_w_j (by decide), ew_w_j (by decide)]; exact ew_w_at, by rw [b0 59 (by decide), ew_w_j (by decide)]; exact ew_w_at, by rw [b0 59 (by decide)]; exact ew_w_at⟩⟩)
    · refine ew_aload_n d_Mo_verify_148 rfl ?_
      refine ew_iload_n d_Mo_verify_149 rfl ?_
      refine en_callVq (As := [.int (nI 1)]) (i := 47) (ci := 9) (st := []) d_Mo_verify_150 k_Mo_code rfl rfl tw_822 tw_824 tp_47 rfl (Nat.le_of_ble_eq_true rfl) rfl (Nat.le_of_ble_eq_true rfl) rfl rfl (c_Mo_code1 l g _ L M7 ρ (sp_rm_of hr (by rw [b0 49 (by decide)]; rw [ew_w_ne (by decide), ew_w_ne (by decide), ew_w_ne (by decide), ew_w_ne (by decide)]; exact fr 49 (by decide) (by decide) (by decide)) (by rw [b0 50 (by decide)]; rw [ew_w_ne (by decide), ew_w_ne (by decide), ew_w_ne (by decide), ew_w_ne (by decide)]; exact fr 50 (by decide) (by decide) (by decide)) (by rw [b0 51 (by decide)]; rw [ew_w_ne (by decide), ew_w_ne (by decide), ew_w_ne (by decide), ew_w_ne (by decide)]; exact fr 51 (by decide) (by decide) (by decide)) (by rw [b0 52 (by decide)]; rw [ew_w_ne (by decide), ew_w_ne (by decide), ew_w_ne (by decide), ew_w_ne (by decide)]; exact fr 52 (by decide) (by decide) (by decide)) (by rw [b0 47 (by decide)]; rw [ew_w_ne (by decide), ew_w_ne (by decide), ew_w_ne (by decide), ew_w_j (by decide)]; exact fj 5 (by decide) (by decide) (by decide)) (by rw [b0 53 (by decide)]; rw [ew_w_ne (by decide), ew_w_ne (by decide), ew_w_ne (by decide), ew_w_ne (by decide)]; exact fr 53 (by decide) (by decide) (by decide)) (by rw [b0 54 (by decide)]; rw [ew_w_ne (by decide), ew_w_ne (by decide), ew_w_ne (by decide), ew_w_ne (by decide)]; exact fr 54 (by decide) (by decide) (by decide)) (by rw [b0 55 (by decide)]; rw [ew_w_ne (by decide), ew_w_ne (by decide), ew_w_ne (by decide), ew_w_ne (by decide)]; exact fr 55 (by decide) (by decide) (by decide))) (sp_fnf (M 56)) (by rw [b0 56 (by decide), e56]; exact sp_nB_fn h33) (sp_rts_of hR (by rw [b0 60 (by decide)]; rw [ew_w_ne (by decide), ew_w_ne (by decide), ew_w_ne (by decide), ew_w_ne (by decide)]; exact fr 60 (by decide) (by decide) (by decide))) (sp_Av ρ (M 56)) (sp_ch_lt _) (by rw [b0 47 (by decide)]; rw [ew_w_ne (by decide), ew_w_ne (by decide), ew_w_ne (by decide), ew_w_j (by decide)]; exact hA0) (sp_Bv0 ρ (M 56)) (sp_ch_lt _) (by rw [b0 57 (by decide)]; rw [ew_w_ne (by decide), ew_w_ne (by decide), ew_w_ne (by decide), ew_w_ne (by decide)]; exact hC0) (sp_Bv1 ρ (M 56)) (sp_ch_lt _) (by rw [b0 57 (by decide)]; rw [ew_w_ne (by decide), ew_w_ne (by decide), ew_w_ne (by decide), ew_w_ne (by decide)]; exact hC1) (sp_Bv2 ρ (M 56)) (sp_ch_lt _) (by rw [b0 57 (by decide)]; rw [ew_w_ne (by decide), ew_w_ne (by decide), ew_w_ne (by decide), ew_w_ne (by decide)]; exact hC2) (sp_jv ρ (M 56) 1) (sp_po_lt _) (by rw [b0 58 (by decide)]; rw [ew_w_ne (by decide), ew_w_ne (by decide), ew_w_ne (by decide), ew_w_ne (by decide)]; exact p4 1 (by decide))) ?_
      rintro _ _ M8 ⟨rfl, rfl, b1⟩
      rw [b0 56 (by decide), e56]
      show Ew l g _ _ _ m_Mo_verify 153 [.ref 47, .int (nI (sp_kc0 ρ (M 56))), .int (nI 1)] [.int (nI (sp_kc1 ρ (M 56)))] (ew_SH L) M8 _
      refine en_istore_n (ls' := [.ref 47, .int (nI (sp_kc1 ρ (M 56))), .int (nI 1)]) d_Mo_verify_153 (Nat.le_of_ble_eq_true rfl) rfl ?_
      refine en_inc (ls' := [.ref 47, .int (nI (sp_kc1 ρ (M 56))), .int (nI 2)]) d_Mo_verify_154 rfl rfl ?_
      refine ew_goto (tgt := 139) d_Mo_verify_157 (by decide) ?_
      refine ew_iload_n d_Mo_verify_139 rfl ?_
      refine ew_iconst (v := nI 3) d_Mo_verify_140 (by decide) ?_
      refine en_icmp_ge (tgt := 160) d_Mo_verify_141 (by decide) (by decide) (by decide) (fun h141_2 => by exact absurd h141_2 (by decide)) (fun h141_2 => ?_)
      refine ew_iload_n d_Mo_verify_144 rfl ?_
      refine en_if_ne (tgt := 160) d_Mo_verify_145 (by decide) (by first | with_reducible exact sp_k0_lt _ _ | with_reducible exact sp_k1_lt _ _ | decide) (fun h145_2 => ?_) (fun h145_2 => ?_)
      · refine ew_iload_n d_Mo_verify_160 rfl ?_
        exact ew_iret d_Mo_verify_161 rfl (⟨rfl, by rw [show sp_vcd ρ (M 56) = sp_kc1 ρ (M 56) from by (unfold sp_vcd; rw [if_neg (by rw [h33]; decide), if_neg (not_not_intro h145_1), if_pos h145_2])], fun q hq => by (have e47 : q ≠ 47 := fun e => hq (by rw [e]; decide)); (have e59 : q ≠ 59 := fun e => hq (by rw [e]; decide)); rw [b1 q (fun e => hq (by rw [e]; decide)), b0 q (fun e => hq (by rw [e]; decide))]; rw [ew_w_ne e59, ew_w_ne e59, ew_w_ne e59, ew_w_ne e47]; exact fr q e47 (fun e => hq (by rw [e]; decide)) (fun e => hq (by rw [e]; decide)), fun j hj => by rw [b1 47 (by decide), b0 47 (by decide), ew_w_ne (by decide), ew_w_ne (by decide), ew_w_ne (by decide), ew_w_j (show j ≠ 18 from fun e => hj (by rw [e]; decide))]; exact fj j (fun e => hj (by rw [e]; decide)) (fun e => hj (by rw [e]; decide)) (fun e => hj (by rw [e]; decide)), by rw [h33]; rw [b1 47 (by decide), b0 47 (by decide), ew_w_ne (by decide), ew_w_ne (by decide), ew_w_ne (by decide)]; exact ew_w_at, fun _ => ⟨by rw [b1 59 (by decide), b0 59 (by decide), ew_w_j (by decide), ew_w_j (by decide)]; exact ew_w_at, by rw [b1 59 (by decide), b0 59 (by decide), ew_w_j (by decide)]; exact ew_w_at, by rw [b1 59 (by decide), b0 59 (by decide)]; exact ew_w_at⟩⟩)
      · refine ew_aload_n d_Mo_verify_148 rfl ?_
        refine ew_iload_n d_Mo_verify_149 rfl ?_
        refine en_callVq (As := [.int (nI 2)]) (i := 47) (ci := 9) (st := []) d_Mo_verify_150 k_Mo_code rfl rfl tw_822 tw_824 tp_47 rfl (Nat.le_of_ble_eq_true rfl) rfl (Nat.le_of_ble_eq_true rfl) rfl rfl (c_Mo_code2 l g _ L M8 ρ (sp_rm_of hr (by rw [b1 49 (by decide), b0 49 (by decide)]; rw [ew_w_ne (by decide), ew_w_ne (by decide), ew_w_ne (by decide), ew_w_ne (by decide)]; exact fr 49 (by decide) (by decide) (by decide)) (by rw [b1 50 (by decide), b0 50 (by decide)]; rw [ew_w_ne (by decide), ew_w_ne (by decide), ew_w_ne (by decide), ew_w_ne (by decide)]; exact fr 50 (by decide) (by decide) (by decide)) (by rw [b1 51 (by decide), b0 51 (by decide)]; rw [ew_w_ne (by decide), ew_w_ne (by decide), ew_w_ne (by decide), ew_w_ne (by decide)]; exact fr 51 (by decide) (by decide) (by decide)) (by rw [b1 52 (by decide), b0 52 (by decide)]; rw [ew_w_ne (by decide), ew_w_ne (by decide), ew_w_ne (by decide), ew_w_ne (by decide)]; exact fr 52 (by decide) (by decide) (by decide)) (by rw [b1 47 (by decide), b0 47 (by decide)]; rw [ew_w_ne (by decide), ew_w_ne (by decide), ew_w_ne (by decide), ew_w_j (by decide)]; exact fj 5 (by decide) (by decide) (by decide)) (by rw [b1 53 (by decide), b0 53 (by decide)]; rw [ew_w_ne (by decide), ew_w_ne (by decide), ew_w_ne (by decide), ew_w_ne (by decide)]; exact fr 53 (by decide) (by decide) (by decide)) (by rw [b1 54 (by decide), b0 54 (by decide)]; rw [ew_w_ne (by decide), ew_w_ne (by decide), ew_w_ne (by decide), ew_w_ne (by decide)]; exact fr 54 (by decide) (by decide) (by decide)) (by rw [b1 55 (by decide), b0 55 (by decide)]; rw [ew_w_ne (by decide), ew_w_ne (by decide), ew_w_ne (by decide), ew_w_ne (by decide)]; exact fr 55 (by decide) (by decide) (by decide))) (sp_fnf (M 56)) (by rw [b1 56 (by decide), b0 56 (by decide), e56]; exact sp_nB_fn h33) (sp_rts_of hR (by rw [b1 60 (by decide), b0 60 (by decide)]; rw [ew_w_ne (by decide), ew_w_ne (by decide), ew_w_ne (by decide), ew_w_ne (by decide)]; exact fr 60 (by decide) (by decide) (by decide))) (sp_Av ρ (M 56)) (sp_ch_lt _) (by rw [b1 47 (by decide), b0 47 (by decide)]; rw [ew_w_ne (by decide), ew_w_ne (by decide), ew_w_ne (by decide), ew_w_j (by decide)]; exact hA0) (sp_Bv0 ρ (M 56)) (sp_ch_lt _) (by rw [b1 57 (by decide), b0 57 (by decide)]; rw [ew_w_ne (by decide), ew_w_ne (by decide), ew_w_ne (by decide), ew_w_ne (by decide)]; exact hC0) (sp_Bv1 ρ (M 56)) (sp_ch_lt _) (by rw [b1 57 (by decide), b0 57 (by decide)]; rw [ew_w_ne (by decide), ew_w_ne (by decide), ew_w_ne (by decide), ew_w_ne (by decide)]; exact hC1) (sp_Bv2 ρ (M 56)) (sp_ch_lt _) (by rw [b1 57 (by decide), b0 57 (by decide)]; rw [ew_w_ne (by decide), ew_w_ne (by decide), ew_w_ne (by decide), ew_w_ne (by decide)]; exact hC2) (sp_jv ρ (M 56) 2) (sp_po_lt _) (by rw [b1 58 (by decide), b0 58 (by decide)]; rw [ew_w_ne (by decide), ew_w_ne (by decide), ew_w_ne (by decide), ew_w_ne (by decide)]; exact p4 2 (by decide))) ?_
        rintro _ _ M9 ⟨rfl, rfl, b2⟩
        rw [b1 56 (by decide), b0 56 (by decide), e56]
        show Ew l g _ _ _ m_Mo_verify 153 [.ref 47, .int (nI (sp_kc1 ρ (M 56))), .int (nI 2)] [.int (nI (sp_kc2 ρ (M 56)))] (ew_SH L) M9 _
        refine en_istore_n (ls' := [.ref 47, .int (nI (sp_kc2 ρ (M 56))), .int (nI 2)]) d_Mo_verify_153 (Nat.le_of_ble_eq_true rfl) rfl ?_
        refine en_inc (ls' := [.ref 47, .int (nI (sp_kc2 ρ (M 56))), .int (nI 3)]) d_Mo_verify_154 rfl rfl ?_
        refine ew_goto (tgt := 139) d_Mo_verify_157 (by decide) ?_
        refine ew_iload_n d_Mo_verify_139 rfl ?_
        refine ew_iconst (v := nI 3) d_Mo_verify_140 (by decide) ?_
        refine en_icmp_ge (tgt := 160) d_Mo_verify_141 (by decide) (by decide) (by decide) (fun h141_3 => ?_) (fun h141_3 => by exact absurd h141_3 (by decide))
        refine ew_iload_n d_Mo_verify_160 rfl ?_
        exact ew_iret d_Mo_verify_161 rfl (⟨rfl, by rw [show sp_vcd ρ (M 56) = sp_kc2 ρ (M 56) from by (unfold sp_vcd; rw [if_neg (by rw [h33]; decide), if_neg (not_not_intro h145_1), if_neg (not_not_intro h145_2)])], fun q hq => by (have e47 : q ≠ 47 := fun e => hq (by rw [e]; decide)); (have e59 : q ≠ 59 := fun e => hq (by rw [e]; decide)); rw [b2 q (fun e => hq (by rw [e]; decide)), b1 q (fun e => hq (by rw [e]; decide)), b0 q (fun e => hq (by rw [e]; decide))]; rw [ew_w_ne e59, ew_w_ne e59, ew_w_ne e59, ew_w_ne e47]; exact fr q e47 (fun e => hq (by rw [e]; decide)) (fun e => hq (by rw [e]; decide)), fun j hj => by rw [b2 47 (by decide), b1 47 (by decide), b0 47 (by decide), ew_w_ne (by decide), ew_w_ne (by decide), ew_w_ne (by decide), ew_w_j (show j ≠ 18 from fun e => hj (by rw [e]; decide))]; exact fj j (fun e => hj (by rw [e]; decide)) (fun e => hj (by rw [e]; decide)) (fun e => hj (by rw [e]; decide)), by rw [h33]; rw [b2 47 (by decide), b1 47 (by decide), b0 47 (by decide), ew_w_ne (by decide), ew_w_ne (by decide), ew_w_ne (by decide)]; exact ew_w_at, fun _ => ⟨by rw [b2 59 (by decide), b1 59 (by decide), b0 59 (by decide), ew_w_j (by decide), ew_w_j (by decide)]; exact ew_w_at, by rw [b2 59 (by decide), b1 59 (by decide), b0 59 (by decide), ew_w_j (by decide)]; exact ew_w_at, by rw [b2 59 (by decide), b1 59 (by decide), b0 59 (by decide)]; exact ew_w_at⟩⟩)
  · refine ew_iconst (v := nI 1) d_Mo_verify_36 (by decide) ?_
    exact ew_iret d_Mo_verify_37 rfl (⟨rfl, by rw [show sp_vcd ρ (M 56) = 1 from if_pos h33], fun q hq => ew_w_ne (show q ≠ 47 from fun e => hq (by rw [e]; decide)), fun j hj => ew_w_j (show j ≠ 18 from fun e => hj (by rw [e]; decide)), by rw [h33]; exact ew_w_at, fun z => absurd z (by rw [h33]; decide)⟩)
