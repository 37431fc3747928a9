theorem sp_rm_w {ρ : sp_R} {M : ew_M} {j : Nat} {x : Int32} (h : sp_rm ρ M) (hj : 5 ≠ j) : sp_rm ρ (ew_w M 47 j x) := sp_rm_of h (ew_w_ne (by decide)) (ew_w_ne (by decide)) (ew_w_ne (by decide)) (ew_w_ne (by decide)) (ew_w_j hj) (ew_w_ne (by decide)) (ew_w_ne (by decide)) (ew_w_ne (by decide))
theorem sp_rm_w2 {ρ : sp_R} {M : ew_M} {q j : Nat} {x : Int32} (h : sp_rm ρ M) (hq : 56 ≤ q) : sp_rm ρ (ew_w M q j x) := sp_rm_of h (ew_w_ne (by omega)) (ew_w_ne (by omega)) (ew_w_ne (by omega)) (ew_w_ne (by omega)) (by rw [ew_w_ne (by omega)]) (ew_w_ne (by omega)) (ew_w_ne (by omega)) (ew_w_ne (by omega))
theorem sp_ab_s {x pt r s : Nat} (h : ¬ s = r) : sp_ab x pt r (s + 1) = sp_ab x pt r s * ((pt + 12289 - tb_rt (4 * s)) % 12289) % 12289 := if_neg h
theorem sp_ab_r {x pt r s : Nat} (h : s = r) : sp_ab x pt r (s + 1) = sp_ab x pt r s := if_pos h
theorem sp_be_s {r s : Nat} (h : ¬ s = r) : sp_be r (s + 1) = sp_be r s * ((tb_rt (4 * r) + 12289 - tb_rt (4 * s)) % 12289) % 12289 := if_neg h
theorem sp_be_r {r s : Nat} (h : s = r) : sp_be r (s + 1) = sp_be r s := if_pos h
set_option maxRecDepth 100000 in
theorem lp_Mo_valueAtI (l : Launch) (g : ew_G) (d L : Nat) (M : ew_M) (hR : sp_rts M) (Q : Option Value → List ew_S → ew_M → Prop) (c pt z r x : Nat) (hpt : pt < 12289) (hx : x < 12289) (hr8 : r < 8) (K : Ew l g (d + 2) 0 0 m_Mo_valueAt 93 [.ref 47, .int (nI c), .int (nI pt), .int (nI z), .int (nI r), .int (nI (sp_ab x pt r 8)), .int (nI (sp_be r 8)), .int (nI 8)] [] (ew_SH L) M Q) : ∀ (fu s : Nat), 8 - s < fu → s ≤ 8 → Ew l g (d + 2) 0 0 m_Mo_valueAt 32 [.ref 47, .int (nI c), .int (nI pt), .int (nI z), .int (nI r), .int (nI (sp_ab x pt r s)), .int (nI (sp_be r s)), .int (nI s)] [] (ew_SH L) M Q := by
  intro fu
  induction fu with
  | zero =>
    intro s  hn
    exact absurd hn (Nat.not_lt_zero _)
  | succ fu ih =>
    intro s  hn hle
    refine ew_iload d_Mo_valueAt_32 rfl ?_
    refine ew_bipush (v := nI 8) d_Mo_valueAt_34 (by decide) ?_
    refine en_icmp_ge (tgt := 93) d_Mo_valueAt_36 (by decide) (by omega) (by omega) (fun h36 => ?_) (fun h36 => ?_)
    · obtain rfl : s = 8 := by omega
      exact K
    · refine ew_iload d_Mo_valueAt_39 rfl ?_
      refine ew_iload d_Mo_valueAt_41 rfl ?_
      refine en_icmp_eq (tgt := 87) d_Mo_valueAt_43 (by decide) (by omega) (by omega) (fun h43 => ?_) (fun h43 => ?_)
      · refine en_inc (ls' := [.ref 47, .int (nI c), .int (nI pt), .int (nI z), .int (nI r), .int (nI (sp_ab x pt r s)), .int (nI (sp_be r s)), .int (nI (s + 1))]) d_Mo_valueAt_87 rfl rfl ?_
        refine ew_goto (tgt := 32) d_Mo_valueAt_90 (by decide) ?_
        refine en_eq (ls' := [.ref 47, .int (nI c), .int (nI pt), .int (nI z), .int (nI r), .int (nI (sp_ab x pt r (s + 1))), .int (nI (sp_be r (s + 1))), .int (nI (s + 1))]) (by rw [sp_ab_r h43, sp_be_r h43]) rfl rfl ?_
        exact ih (s + 1) (by omega) (by omega)
      · refine ew_iload d_Mo_valueAt_46 rfl ?_
        refine ew_iload_n d_Mo_valueAt_48 rfl ?_
        refine ew_aload_n d_Mo_valueAt_49 rfl ?_
        refine ew_iload d_Mo_valueAt_50 rfl ?_
        refine en_callV (As := [.int (nI s)]) (i := 47) (ci := 9) (st := [.int (nI pt), .int (nI (sp_ab x pt r s))]) (st1 := [.int (nI (tb_rt (4 * s))), .int (nI pt), .int (nI (sp_ab x pt r s))]) d_Mo_valueAt_52 k_Mo_h rfl rfl tw_709 tw_711 tp_30 rfl (Nat.le_of_ble_eq_true rfl) rfl (Nat.le_of_ble_eq_true rfl) rfl rfl (c_Mo_h l g _ L M (hR) s (by first | with_reducible assumption | with_reducible exact ep_lt _ | with_reducible exact sp_its_lt _ _ _ | with_reducible exact tb_l_rt _ | with_reducible exact tb_l_x _ | with_reducible exact tb_l_o0 _ | with_reducible exact tb_l_o1 _ | with_reducible exact tb_l_va _ | with_reducible exact tb_l_ll _ | with_reducible exact tb_l_cf _ | with_reducible exact tb_l_kf _ | with_reducible exact sp_ts_lt _ _ _ _ | with_reducible exact sp_w_lt _ _ | with_reducible exact sp_cs_lt _ _ _ _ _ | with_reducible exact sp_cb_lt _ _ _ _ _ | with_reducible exact sp_ch_lt _ | with_reducible exact sp_bf_lt _ _ | with_reducible exact sp_va_lt _ _ _ | with_reducible exact sp_be_lt _ _ | with_reducible exact sp_p_lt _ _ _ | with_reducible exact sp_com_lt _ _ _ _ | with_reducible exact sp_fo_lt _ _ _ _ _ | omega)) rfl ?_
        refine ew_isub d_Mo_valueAt_55 ?_
        refine en_callS (As := [.int ((nI pt) - (nI (tb_rt (4 * s))))]) (st := [.int (nI (sp_ab x pt r s))]) (st1 := [.int (nI ((pt + 12289 - (tb_rt (4 * s))) % 12289)), .int (nI (sp_ab x pt r s))]) d_Mo_valueAt_56 k_Mo_mod tw_713 tw_714 rfl (Nat.le_of_ble_eq_true rfl) rfl (Nat.le_of_ble_eq_true rfl) rfl rfl (c_Mo_modS l g _ (ew_SH L) M pt (tb_rt (4 * s)) (by first | with_reducible assumption | with_reducible exact tb_l_rt _) (by first | with_reducible assumption | with_reducible exact tb_l_rt _)) rfl ?_
        refine en_callS (As := [.int (nI (sp_ab x pt r s)), .int (nI ((pt + 12289 - (tb_rt (4 * s))) % 12289))]) (st := []) (st1 := [.int (nI ((sp_ab x pt r s) * ((pt + 12289 - (tb_rt (4 * s))) % 12289) % 12289))]) d_Mo_valueAt_59 k_Mo_times tw_589 tw_590 rfl (Nat.le_of_ble_eq_true rfl) rfl (Nat.le_of_ble_eq_true rfl) rfl rfl (c_Mo_times l g _ (ew_SH L) M (sp_ab x pt r s) ((pt + 12289 - (tb_rt (4 * s))) % 12289) (by first | with_reducible assumption | with_reducible exact ep_lt _ | exact sp_ab_lt hx _) (by first | with_reducible assumption | with_reducible exact ep_lt _ | exact sp_ab_lt hx _)) rfl ?_
        refine en_istore (ls' := [.ref 47, .int (nI c), .int (nI pt), .int (nI z), .int (nI r), .int (nI ((sp_ab x pt r s) * ((pt + 12289 - (tb_rt (4 * s))) % 12289) % 12289)), .int (nI (sp_be r s)), .int (nI s)]) d_Mo_valueAt_62 (Nat.le_of_ble_eq_true rfl) rfl ?_
        refine ew_iload d_Mo_valueAt_64 rfl ?_
        refine ew_aload_n d_Mo_valueAt_66 rfl ?_
        refine ew_iload d_Mo_valueAt_67 rfl ?_
        refine en_callV (As := [.int (nI r)]) (i := 47) (ci := 9) (st := [.int (nI (sp_be r s))]) (st1 := [.int (nI (tb_rt (4 * r))), .int (nI (sp_be r s))]) d_Mo_valueAt_69 k_Mo_h rfl rfl tw_709 tw_711 tp_30 rfl (Nat.le_of_ble_eq_true rfl) rfl (Nat.le_of_ble_eq_true rfl) rfl rfl (c_Mo_h l g _ L M (hR) r (by first | with_reducible assumption | with_reducible exact ep_lt _ | with_reducible exact sp_its_lt _ _ _ | with_reducible exact tb_l_rt _ | with_reducible exact tb_l_x _ | with_reducible exact tb_l_o0 _ | with_reducible exact tb_l_o1 _ | with_reducible exact tb_l_va _ | with_reducible exact tb_l_ll _ | with_reducible exact tb_l_cf _ | with_reducible exact tb_l_kf _ | with_reducible exact sp_ts_lt _ _ _ _ | with_reducible exact sp_w_lt _ _ | with_reducible exact sp_cs_lt _ _ _ _ _ | with_reducible exact sp_cb_lt _ _ _ _ _ | with_reducible exact sp_ch_lt _ | with_reducible exact sp_bf_lt _ _ | with_reducible exact sp_va_lt _ _ _ | with_reducible exact sp_be_lt _ _ | with_reducible exact sp_p_lt _ _ _ | with_reducible exact sp_com_lt _ _ _ _ | with_reducible exact sp_fo_lt _ _ _ _ _ | omega)) rfl ?_
        refine ew_aload_n d_Mo_valueAt_72 rfl ?_
        refine ew_iload d_Mo_valueAt_73 rfl ?_
        refine en_callV (As := [.int (nI s)]) (i := 47) (ci := 9) (st := [.int (nI (tb_rt (4 * r))), .int (nI (sp_be r s))]) (st1 := [.int (nI (tb_rt (4 * s))), .int (nI (tb_rt (4 * r))), .int (nI (sp_be r s))]) d_Mo_valueAt_75 k_Mo_h rfl rfl tw_709 tw_711 tp_30 rfl (Nat.le_of_ble_eq_true rfl) rfl (Nat.le_of_ble_eq_true rfl) rfl rfl (c_Mo_h l g _ L M (hR) s (by first | with_reducible assumption | with_reducible exact ep_lt _ | with_reducible exact sp_its_lt _ _ _ | with_reducible exact tb_l_rt _ | with_reducible exact tb_l_x _ | with_reducible exact tb_l_o0 _ | with_reducible exact tb_l_o1 _ | with_reducible exact tb_l_va _ | with_reducible exact tb_l_ll _ | with_reducible exact tb_l_cf _ | with_reducible exact tb_l_kf _ | with_reducible exact sp_ts_lt _ _ _ _ | with_reducible exact sp_w_lt _ _ | with_reducible exact sp_cs_lt _ _ _ _ _ | with_reducible exact sp_cb_lt _ _ _ _ _ | with_reducible exact sp_ch_lt _ | with_reducible exact sp_bf_lt _ _ | with_reducible exact sp_va_lt _ _ _ | with_reducible exact sp_be_lt _ _ | with_reducible exact sp_p_lt _ _ _ | with_reducible exact sp_com_lt _ _ _ _ | with_reducible exact sp_fo_lt _ _ _ _ _ | omega)) rfl ?_
        refine ew_isub d_Mo_valueAt_78 ?_
        refine en_callS (As := [.int ((nI (tb_rt (4 * r))) - (nI (tb_rt (4 * s))))]) (st := [.int (nI (sp_be r s))]) (st1 := [.int (nI (((tb_rt (4 * r)) + 12289 - (tb_rt (4 * s))) % 12289)), .int (nI (sp_be r s))]) d_Mo_valueAt_79 k_Mo_mod tw_713 tw_714 rfl (Nat.le_of_ble_eq_true rfl) rfl (Nat.le_of_ble_eq_true rfl) rfl rfl (c_Mo_modS l g _ (ew_SH L) M (tb_rt (4 * r)) (tb_rt (4 * s)) (by with_reducible exact tb_l_rt _) (by with_reducible exact tb_l_rt _)) rfl ?_
        refine en_callS (As := [.int (nI (sp_be r s)), .int (nI (((tb_rt (4 * r)) + 12289 - (tb_rt (4 * s))) % 12289))]) (st := []) (st1 := [.int (nI ((sp_be r s) * (((tb_rt (4 * r)) + 12289 - (tb_rt (4 * s))) % 12289) % 12289))]) d_Mo_valueAt_82 k_Mo_times tw_589 tw_590 rfl (Nat.le_of_ble_eq_true rfl) rfl (Nat.le_of_ble_eq_true rfl) rfl rfl (c_Mo_times l g _ (ew_SH L) M (sp_be r s) (((tb_rt (4 * r)) + 12289 - (tb_rt (4 * s))) % 12289) (by first | with_reducible exact ep_lt _ | with_reducible exact sp_be_lt _ _) (by first | with_reducible exact ep_lt _ | with_reducible exact sp_be_lt _ _)) rfl ?_
        refine en_istore (ls' := [.ref 47, .int (nI c), .int (nI pt), .int (nI z), .int (nI r), .int (nI ((sp_ab x pt r s) * ((pt + 12289 - (tb_rt (4 * s))) % 12289) % 12289)), .int (nI ((sp_be r s) * (((tb_rt (4 * r)) + 12289 - (tb_rt (4 * s))) % 12289) % 12289)), .int (nI s)]) d_Mo_valueAt_85 (Nat.le_of_ble_eq_true rfl) rfl ?_
        refine en_inc (ls' := [.ref 47, .int (nI c), .int (nI pt), .int (nI z), .int (nI r), .int (nI ((sp_ab x pt r s) * ((pt + 12289 - (tb_rt (4 * s))) % 12289) % 12289)), .int (nI ((sp_be r s) * (((tb_rt (4 * r)) + 12289 - (tb_rt (4 * s))) % 12289) % 12289)), .int (nI (s + 1))]) d_Mo_valueAt_87 rfl rfl ?_
        refine ew_goto (tgt := 32) d_Mo_valueAt_90 (by decide) ?_
        rw [← sp_ab_s h43, ← sp_be_s h43]
        exact ih (s + 1) (by omega) (by omega)
set_option maxRecDepth 100000 in
theorem lp_Mo_valueAt (l : Launch) (g : ew_G) (d L : Nat) (M : ew_M) (hR : sp_rts M) (ce : Nat → Nat → Nat) (hc : sp_cm ce M) (c pt : Nat) (hc2 : c < 2) (hpt : pt < 12289) : ∀ (fu r : Nat), 8 - r < fu → r ≤ 8 → Ew l g (d + 2) 0 0 m_Mo_valueAt 5 [.ref 47, .int (nI c), .int (nI pt), .int (nI (sp_va (ce c) pt r)), .int (nI r), .retAddr 0, .retAddr 0, .retAddr 0] [] (ew_SH L) M (ew_q (some (.int (nI (sp_va (ce c) pt 8)))) (ew_SH L) M) := by
  intro fu
  induction fu with
  | zero =>
    intro r  hn
    exact absurd hn (Nat.not_lt_zero _)
  | succ fu ih =>
    intro r  hn hle
    refine ew_iload d_Mo_valueAt_5 rfl ?_
    refine ew_bipush (v := nI 8) d_Mo_valueAt_7 (by decide) ?_
    refine en_icmp_ge (tgt := 115) d_Mo_valueAt_9 (by decide) (by omega) (by omega) (fun h9 => ?_) (fun h9 => ?_)
    · obtain rfl : r = 8 := by omega
      refine ew_iload_n d_Mo_valueAt_115 rfl ?_
      exact ew_iret d_Mo_valueAt_116 rfl (⟨rfl, rfl, rfl⟩)
    · refine ew_aload_n d_Mo_valueAt_12 rfl ?_
      refine ew_getr (ci := 9) (f := 0) d_Mo_valueAt_13 rfl rfl rfl tw_592 ?_
      refine ew_bipush (v := nI 8) d_Mo_valueAt_16 (by decide) ?_
      refine ew_iload_n d_Mo_valueAt_18 rfl ?_
      refine en_imul d_Mo_valueAt_19 ?_
      refine ew_iload d_Mo_valueAt_20 rfl ?_
      refine en_iadd d_Mo_valueAt_22 ?_
      refine ew_iald (j := (8 * c) + r) d_Mo_valueAt_23 rfl (rfl) (by omega) (by decide) ?_
      refine en_eq (st' := [.int (nI (ce c r))]) rfl (by rw [show (M 48 ((8 * c) + r)) = (nI (ce c r)) from (hc c r hc2 (by omega)).1]) rfl ?_
      refine en_istore (ls' := [.ref 47, .int (nI c), .int (nI pt), .int (nI (sp_va (ce c) pt r)), .int (nI r), .int (nI (ce c r)), .retAddr 0, .retAddr 0]) d_Mo_valueAt_24 (Nat.le_of_ble_eq_true rfl) rfl ?_
      refine ew_iconst (v := nI 1) d_Mo_valueAt_26 (by decide) ?_
      refine en_istore (ls' := [.ref 47, .int (nI c), .int (nI pt), .int (nI (sp_va (ce c) pt r)), .int (nI r), .int (nI (ce c r)), .int (nI 1), .retAddr 0]) d_Mo_valueAt_27 (Nat.le_of_ble_eq_true rfl) rfl ?_
      refine ew_iconst (v := nI 0) d_Mo_valueAt_29 (by decide) ?_
      refine en_istore (ls' := [.ref 47, .int (nI c), .int (nI pt), .int (nI (sp_va (ce c) pt r)), .int (nI r), .int (nI (ce c r)), .int (nI 1), .int (nI 0)]) d_Mo_valueAt_30 (Nat.le_of_ble_eq_true rfl) rfl ?_
      refine lp_Mo_valueAtI l g d L M hR _ c pt _ r (ce c r) hpt (hc c r hc2 (by omega)).2 (by omega) ?_ 9 0 (by omega) (by omega)
      refine ew_iload_n d_Mo_valueAt_93 rfl ?_
      refine ew_iload d_Mo_valueAt_94 rfl ?_
      refine ew_iload d_Mo_valueAt_96 rfl ?_
      refine en_callS (As := [.int (nI (sp_be r 8))]) (st := [.int (nI (sp_ab (ce c r) pt r 8)), .int (nI (sp_va (ce c) pt r))]) (st1 := [.int (nI ((sp_be r 8) ^ 12287 % 12289)), .int (nI (sp_ab (ce c r) pt r 8)), .int (nI (sp_va (ce c) pt r))]) d_Mo_valueAt_98 k_Mo_inverse tw_716 tw_717 rfl (Nat.le_of_ble_eq_true rfl) rfl (Nat.le_of_ble_eq_true rfl) rfl rfl (c_Mo_inverse l g _ (ew_SH L) M (sp_be r 8) (by first | with_reducible assumption | with_reducible exact ep_lt _ | with_reducible exact sp_its_lt _ _ _ | with_reducible exact tb_l_rt _ | with_reducible exact tb_l_x _ | with_reducible exact tb_l_o0 _ | with_reducible exact tb_l_o1 _ | with_reducible exact tb_l_va _ | with_reducible exact tb_l_ll _ | with_reducible exact tb_l_cf _ | with_reducible exact tb_l_kf _ | with_reducible exact sp_ts_lt _ _ _ _ | with_reducible exact sp_w_lt _ _ | with_reducible exact sp_cs_lt _ _ _ _ _ | with_reducible exact sp_cb_lt _ _ _ _ _ | with_reducible exact sp_ch_lt _ | with_reducible exact sp_bf_lt _ _ | with_reducible exact sp_va_lt _ _ _ | with_reducible exact sp_be_lt _ _ | with_reducible exact sp_p_lt _ _ _ | with_reducible exact sp_com_lt _ _ _ _ | with_reducible exact sp_fo_lt _ _ _ _ _ | omega)) rfl ?_
      refine en_callS (As := [.int (nI (sp_ab (ce c r) pt r 8)), .int (nI ((sp_be r 8) ^ 12287 % 12289))]) (st := [.int (nI (sp_va (ce c) pt r))]) (st1 := [.int (nI ((sp_ab (ce c r) pt r 8) * ((sp_be r 8) ^ 12287 % 12289) % 12289)), .int (nI (sp_va (ce c) pt r))]) d_Mo_valueAt_101 k_Mo_times tw_589 tw_590 rfl (Nat.le_of_ble_eq_true rfl) rfl (Nat.le_of_ble_eq_true rfl) rfl rfl (c_Mo_times l g _ (ew_SH L) M (sp_ab (ce c r) pt r 8) ((sp_be r 8) ^ 12287 % 12289) (by first | with_reducible assumption | with_reducible exact ep_lt _ | exact sp_ab_lt (hc c r hc2 (by omega)).2 _) (by first | with_reducible assumption | with_reducible exact ep_lt _ | exact sp_ab_lt (hc c r hc2 (by omega)).2 _)) rfl ?_
      refine en_iadd d_Mo_valueAt_104 ?_
      refine en_callS (As := [.int (nI ((sp_va (ce c) pt r) + ((sp_ab (ce c r) pt r 8) * ((sp_be r 8) ^ 12287 % 12289) % 12289)))]) (st := []) (st1 := [.int (nI (((sp_va (ce c) pt r) + ((sp_ab (ce c r) pt r 8) * ((sp_be r 8) ^ 12287 % 12289) % 12289)) % 12289))]) d_Mo_valueAt_105 k_Mo_mod tw_713 tw_714 rfl (Nat.le_of_ble_eq_true rfl) rfl (Nat.le_of_ble_eq_true rfl) rfl rfl (c_Mo_mod l g _ (ew_SH L) M ((sp_va (ce c) pt r) + ((sp_ab (ce c r) pt r 8) * ((sp_be r 8) ^ 12287 % 12289) % 12289)) (by (have := sp_va_lt (ce c) pt r; have := ep_lt (sp_ab (ce c r) pt r 8 * (sp_be r 8 ^ 12287 % 12289)); omega))) rfl ?_
      refine en_istore_n (ls' := [.ref 47, .int (nI c), .int (nI pt), .int (nI (((sp_va (ce c) pt r) + ((sp_ab (ce c r) pt r 8) * ((sp_be r 8) ^ 12287 % 12289) % 12289)) % 12289)), .int (nI r), .int (nI (sp_ab (ce c r) pt r 8)), .int (nI (sp_be r 8)), .int (nI 8)]) d_Mo_valueAt_108 (Nat.le_of_ble_eq_true rfl) rfl ?_
      refine en_inc (ls' := [.ref 47, .int (nI c), .int (nI pt), .int (nI (((sp_va (ce c) pt r) + ((sp_ab (ce c r) pt r 8) * ((sp_be r 8) ^ 12287 % 12289) % 12289)) % 12289)), .int (nI (r + 1)), .int (nI (sp_ab (ce c r) pt r 8)), .int (nI (sp_be r 8)), .int (nI 8)]) d_Mo_valueAt_109 rfl rfl ?_
      refine ew_goto (tgt := 5) d_Mo_valueAt_112 (by decide) ?_
      refine en_drop (ls' := [.ref 47, .int (nI c), .int (nI pt), .int (nI (((sp_va (ce c) pt r) + ((sp_ab (ce c r) pt r 8) * ((sp_be r 8) ^ 12287 % 12289) % 12289)) % 12289)), .int (nI (r + 1)), .retAddr 0, .retAddr 0, .retAddr 0]) ⟨Or.inl rfl, Or.inl rfl, Or.inl rfl, Or.inl rfl, Or.inl rfl, Or.inr rfl, Or.inr rfl, Or.inr rfl, trivial⟩ ?_
      exact ih (r + 1) (by omega) (by omega)
