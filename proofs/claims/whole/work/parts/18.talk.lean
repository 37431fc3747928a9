set_option maxRecDepth 100000 in
theorem c_Ru_termSum0 (l : Launch) (g : ew_G) (d L : Nat) (M : ew_M) (ρ : sp_R) (hr : sp_ru ρ M) (le : Nat → Nat) (hl : sp_hle le (M 16)) :
    Ew l g (d + 1) 0 0 m_Ru_termSum 0 [.ref 10, .int (nI 0), .retAddr 0, .retAddr 0, .retAddr 0, .retAddr 0, .retAddr 0] [] (ew_SH L) M (ew_q (some (.int (nI (sp_ts ρ 0 le (r_cn ρ 0))))) (ew_SH L) M) := by
  refine ew_aload_n d_Ru_termSum_0 rfl ?_
  refine ew_getr (ci := 2) (f := 2) d_Ru_termSum_1 rfl rfl rfl tw_71 ?_
  refine ew_iload_n d_Ru_termSum_4 rfl ?_
  refine ew_aald (j := 0) d_Ru_termSum_5 rfl (by decide) rfl rfl (by decide) ?_
  refine en_astore_n (ls' := [.ref 10, .int (nI 0), .ref 13, .retAddr 0, .retAddr 0, .retAddr 0, .retAddr 0]) d_Ru_termSum_6 (Nat.le_of_ble_eq_true rfl) rfl ?_
  refine ew_iconst (v := nI 0) d_Ru_termSum_7 (by decide) ?_
  refine en_istore_n (ls' := [.ref 10, .int (nI 0), .ref 13, .int (nI 0), .retAddr 0, .retAddr 0, .retAddr 0]) d_Ru_termSum_8 (Nat.le_of_ble_eq_true rfl) rfl ?_
  refine ew_iconst (v := nI 0) d_Ru_termSum_9 (by decide) ?_
  refine en_istore (ls' := [.ref 10, .int (nI 0), .ref 13, .int (nI 0), .int (nI 0), .retAddr 0, .retAddr 0]) d_Ru_termSum_10 (Nat.le_of_ble_eq_true rfl) rfl ?_
  exact lp_Ru_termSum0 l g d L M ρ hr le hl (r_cn ρ 0 + 1) 0 (by omega) (by omega)
set_option maxRecDepth 100000 in
theorem c_Ru_termSum1 (l : Launch) (g : ew_G) (d L : Nat) (M : ew_M) (ρ : sp_R) (hr : sp_ru ρ M) (le : Nat → Nat) (hl : sp_hle le (M 16)) :
    Ew l g (d + 1) 0 0 m_Ru_termSum 0 [.ref 10, .int (nI 1), .retAddr 0, .retAddr 0, .retAddr 0, .retAddr 0, .retAddr 0] [] (ew_SH L) M (ew_q (some (.int (nI (sp_ts ρ 1 le (r_cn ρ 1))))) (ew_SH L) M) := by
  refine ew_aload_n d_Ru_termSum_0 rfl ?_
  refine ew_getr (ci := 2) (f := 2) d_Ru_termSum_1 rfl rfl rfl tw_71 ?_
  refine ew_iload_n d_Ru_termSum_4 rfl ?_
  refine ew_aald (j := 1) d_Ru_termSum_5 rfl (by decide) rfl rfl (by decide) ?_
  refine en_astore_n (ls' := [.ref 10, .int (nI 1), .ref 14, .retAddr 0, .retAddr 0, .retAddr 0, .retAddr 0]) d_Ru_termSum_6 (Nat.le_of_ble_eq_true rfl) rfl ?_
  refine ew_iconst (v := nI 0) d_Ru_termSum_7 (by decide) ?_
  refine en_istore_n (ls' := [.ref 10, .int (nI 1), .ref 14, .int (nI 0), .retAddr 0, .retAddr 0, .retAddr 0]) d_Ru_termSum_8 (Nat.le_of_ble_eq_true rfl) rfl ?_
  refine ew_iconst (v := nI 0) d_Ru_termSum_9 (by decide) ?_
  refine en_istore (ls' := [.ref 10, .int (nI 1), .ref 14, .int (nI 0), .int (nI 0), .retAddr 0, .retAddr 0]) d_Ru_termSum_10 (Nat.le_of_ble_eq_true rfl) rfl ?_
  exact lp_Ru_termSum1 l g d L M ρ hr le hl (r_cn ρ 1 + 1) 0 (by omega) (by omega)
set_option maxRecDepth 100000 in
theorem lp_Ru_composition (l : Launch) (g : ew_G) (d L : Nat) (M : ew_M) (ρ : sp_R) (hr : sp_ru ρ M) (le : Nat → Nat) (hl : sp_hle le (M 16)) (hT : sp_tab M) (i A : Nat) (hi : i < 32) (hA : A < 12289) : ∀ (fu b : Nat), r_bn ρ - b < fu → b ≤ r_bn ρ → Ew l g (d + 2) 0 0 m_Ru_composition 69 [.ref 10, .int (nI i), .int (nI A), .int (nI (sp_cb ρ le i A b)), .int (nI (sp_w A (sp_cc ρ + b))), .retAddr 0, .int (nI b), .retAddr 0, .retAddr 0] [] (ew_SH L) M (ew_q (some (.int (nI (sp_com ρ le i A)))) (ew_SH L) M) := by
  intro fu
  induction fu with
  | zero =>
    intro b  hn
    exact absurd hn (Nat.not_lt_zero _)
  | succ fu ih =>
    intro b  hn hle
    refine ew_iload d_Ru_composition_69 rfl ?_
    refine ew_aload_n d_Ru_composition_71 rfl ?_
    refine ew_geti (ci := 2) (f := 4) d_Ru_composition_72 rfl rfl rfl tw_73 ?_
    refine en_eq (st' := [.int (nI (r_bn ρ)), .int (nI b)]) rfl (by rw [show (M 10 4) = (nI (r_bn ρ)) from hr.2.2.2.2.1]) rfl ?_
    refine en_icmp_ge (tgt := 149) d_Ru_composition_75 (by decide) (by have := hr.1.2.2.1; omega) (by have := hr.1.2.2.1; omega) (fun h75 => ?_) (fun h75 => ?_)
    · have eb : b = r_bn ρ := by omega
      refine ew_iload_n d_Ru_composition_149 rfl ?_
      exact ew_iret d_Ru_composition_150 rfl (⟨by rw [eb]; rfl, rfl, rfl⟩)
    · refine ew_aload_n d_Ru_composition_78 rfl ?_
      refine ew_getr (ci := 2) (f := 5) d_Ru_composition_79 rfl rfl rfl tw_74 ?_
      refine ew_iconst (v := nI 1) d_Ru_composition_82 (by decide) ?_
      refine ew_aload_n d_Ru_composition_83 rfl ?_
      refine ew_iload d_Ru_composition_84 rfl ?_
      refine en_callV (As := [.int (nI b)]) (i := 10) (ci := 2) (st := [.int (nI 1), .ref 16]) (st1 := [.int (nI (r_bc ρ b)), .int (nI 1), .ref 16]) d_Ru_composition_86 k_Ru_boundColumn rfl rfl tw_342 tw_344 tp_5 rfl (Nat.le_of_ble_eq_true rfl) rfl (Nat.le_of_ble_eq_true rfl) rfl rfl (c_Ru_boundColumn l g _ L M ρ (hr) b (by first | with_reducible assumption | with_reducible exact ep_lt _ | with_reducible exact sp_its_lt _ _ _ | with_reducible exact tb_l_rt _ | with_reducible exact tb_l_x _ | with_reducible exact tb_l_o0 _ | with_reducible exact tb_l_o1 _ | with_reducible exact tb_l_va _ | with_reducible exact tb_l_ll _ | with_reducible exact tb_l_cf _ | with_reducible exact tb_l_kf _ | with_reducible exact sp_ts_lt _ _ _ _ | with_reducible exact sp_w_lt _ _ | with_reducible exact sp_cs_lt _ _ _ _ _ | with_reducible exact sp_cb_lt _ _ _ _ _ | with_reducible exact sp_ch_lt _ | with_reducible exact sp_bf_lt _ _ | omega)) rfl ?_
      refine en_iadd d_Ru_composition_89 ?_
      refine ew_iald (j := 1 + (r_bc ρ b)) d_Ru_composition_90 rfl (rfl) (by have := (hr.1.2.2.2 b h75).1; omega) (by decide) ?_
      refine en_eq (st' := [.int (nI (le (1 + r_bc ρ b)))]) rfl (by rw [show (M 16 (1 + (r_bc ρ b))) = (nI (le (1 + r_bc ρ b))) from (hl _ (by have := (hr.1.2.2.2 b h75).1; omega)).1]) rfl ?_
      refine ew_aload_n d_Ru_composition_91 rfl ?_
      refine ew_iload d_Ru_composition_92 rfl ?_
      refine en_callV (As := [.int (nI b)]) (i := 10) (ci := 2) (st := [.int (nI (le (1 + r_bc ρ b)))]) (st1 := [.int (nI (r_bv ρ b)), .int (nI (le (1 + r_bc ρ b)))]) d_Ru_composition_94 k_Ru_boundValue rfl rfl tw_346 tw_348 tp_6 rfl (Nat.le_of_ble_eq_true rfl) rfl (Nat.le_of_ble_eq_true rfl) rfl rfl (c_Ru_boundValue l g _ L M ρ (hr) b (by first | with_reducible assumption | with_reducible exact ep_lt _ | with_reducible exact sp_its_lt _ _ _ | with_reducible exact tb_l_rt _ | with_reducible exact tb_l_x _ | with_reducible exact tb_l_o0 _ | with_reducible exact tb_l_o1 _ | with_reducible exact tb_l_va _ | with_reducible exact tb_l_ll _ | with_reducible exact tb_l_cf _ | with_reducible exact tb_l_kf _ | with_reducible exact sp_ts_lt _ _ _ _ | with_reducible exact sp_w_lt _ _ | with_reducible exact sp_cs_lt _ _ _ _ _ | with_reducible exact sp_cb_lt _ _ _ _ _ | with_reducible exact sp_ch_lt _ | with_reducible exact sp_bf_lt _ _ | omega)) rfl ?_
      refine en_callS (As := [.int (nI (le (1 + r_bc ρ b))), .int (nI (r_bv ρ b))]) (st := []) (st1 := [.int (nI (((le (1 + r_bc ρ b)) + 12289 - (r_bv ρ b)) % 12289))]) d_Ru_composition_97 k_Fi_minus tw_431 tw_38 rfl (Nat.le_of_ble_eq_true rfl) rfl (Nat.le_of_ble_eq_true rfl) rfl rfl (c_Fi_minus l g _ (ew_SH L) M (le (1 + r_bc ρ b)) (r_bv ρ b) (by first | exact (hl _ (by have := (hr.1.2.2.2 b h75).1; omega)).2 | exact (hr.1.2.2.2 b h75).2.2) (by first | exact (hl _ (by have := (hr.1.2.2.2 b h75).1; omega)).2 | exact (hr.1.2.2.2 b h75).2.2)) rfl ?_
      refine en_istore (ls' := [.ref 10, .int (nI i), .int (nI A), .int (nI (sp_cb ρ le i A b)), .int (nI (sp_w A (sp_cc ρ + b))), .retAddr 0, .int (nI b), .int (nI (((le (1 + r_bc ρ b)) + 12289 - (r_bv ρ b)) % 12289)), .retAddr 0]) d_Ru_composition_100 (Nat.le_of_ble_eq_true rfl) rfl ?_
      refine ew_iload d_Ru_composition_102 rfl ?_
      refine ew_aload_n d_Ru_composition_104 rfl ?_
      refine ew_getr (ci := 2) (f := 0) d_Ru_composition_105 rfl rfl rfl tw_69 ?_
      refine ew_iload_n d_Ru_composition_108 rfl ?_
      refine ew_aload_n d_Ru_composition_109 rfl ?_
      refine ew_iload d_Ru_composition_110 rfl ?_
      refine en_callV (As := [.int (nI b)]) (i := 10) (ci := 2) (st := [.int (nI i), .ref 4, .int (nI (((le (1 + r_bc ρ b)) + 12289 - (r_bv ρ b)) % 12289))]) (st1 := [.int (nI (r_br ρ b)), .int (nI i), .ref 4, .int (nI (((le (1 + r_bc ρ b)) + 12289 - (r_bv ρ b)) % 12289))]) d_Ru_composition_112 k_Ru_boundRow rfl rfl tw_338 tw_340 tp_4 rfl (Nat.le_of_ble_eq_true rfl) rfl (Nat.le_of_ble_eq_true rfl) rfl rfl (c_Ru_boundRow l g _ L M ρ (hr) b (by first | with_reducible assumption | with_reducible exact ep_lt _ | with_reducible exact sp_its_lt _ _ _ | with_reducible exact tb_l_rt _ | with_reducible exact tb_l_x _ | with_reducible exact tb_l_o0 _ | with_reducible exact tb_l_o1 _ | with_reducible exact tb_l_va _ | with_reducible exact tb_l_ll _ | with_reducible exact tb_l_cf _ | with_reducible exact tb_l_kf _ | with_reducible exact sp_ts_lt _ _ _ _ | with_reducible exact sp_w_lt _ _ | with_reducible exact sp_cs_lt _ _ _ _ _ | with_reducible exact sp_cb_lt _ _ _ _ _ | with_reducible exact sp_ch_lt _ | with_reducible exact sp_bf_lt _ _ | omega)) rfl ?_
      refine en_callV (As := [.int (nI i), .int (nI (r_br ρ b))]) (i := 4) (ci := 1) (st := [.int (nI (((le (1 + r_bc ρ b)) + 12289 - (r_bv ρ b)) % 12289))]) (st1 := [.int (nI (sp_bf i (r_br ρ b))), .int (nI (((le (1 + r_bc ρ b)) + 12289 - (r_bv ρ b)) % 12289))]) d_Ru_composition_115 k_Pt_boundFactor rfl rfl tw_432 tw_433 tw_434 rfl (Nat.le_of_ble_eq_true rfl) rfl (Nat.le_of_ble_eq_true rfl) rfl rfl (c_Pt_boundFactor l g _ L M (hT) i (r_br ρ b) (by first | with_reducible assumption | exact (hr.1.2.2.2 b h75).2.1) (by first | with_reducible assumption | exact (hr.1.2.2.2 b h75).2.1)) rfl ?_
      refine en_callS (As := [.int (nI (((le (1 + r_bc ρ b)) + 12289 - (r_bv ρ b)) % 12289)), .int (nI (sp_bf i (r_br ρ b)))]) (st := []) (st1 := [.int (nI ((((le (1 + r_bc ρ b)) + 12289 - (r_bv ρ b)) % 12289) * (sp_bf i (r_br ρ b)) % 12289))]) d_Ru_composition_118 k_Fi_times tw_332 tw_30 rfl (Nat.le_of_ble_eq_true rfl) rfl (Nat.le_of_ble_eq_true rfl) rfl rfl (c_Fi_times l g _ (ew_SH L) M (((le (1 + r_bc ρ b)) + 12289 - (r_bv ρ b)) % 12289) (sp_bf i (r_br ρ b)) (by first | with_reducible assumption | with_reducible exact ep_lt _ | with_reducible exact sp_its_lt _ _ _ | with_reducible exact tb_l_rt _ | with_reducible exact tb_l_x _ | with_reducible exact tb_l_o0 _ | with_reducible exact tb_l_o1 _ | with_reducible exact tb_l_va _ | with_reducible exact tb_l_ll _ | with_reducible exact tb_l_cf _ | with_reducible exact tb_l_kf _ | with_reducible exact sp_ts_lt _ _ _ _ | with_reducible exact sp_w_lt _ _ | with_reducible exact sp_cs_lt _ _ _ _ _ | with_reducible exact sp_cb_lt _ _ _ _ _ | with_reducible exact sp_ch_lt _ | with_reducible exact sp_bf_lt _ _ | omega) (by first | with_reducible assumption | with_reducible exact ep_lt _ | with_reducible exact sp_its_lt _ _ _ | with_reducible exact tb_l_rt _ | with_reducible exact tb_l_x _ | with_reducible exact tb_l_o0 _ | with_reducible exact tb_l_o1 _ | with_reducible exact tb_l_va _ | with_reducible exact tb_l_ll _ | with_reducible exact tb_l_cf _ | with_reducible exact tb_l_kf _ | with_reducible exact sp_ts_lt _ _ _ _ | with_reducible exact sp_w_lt _ _ | with_reducible exact sp_cs_lt _ _ _ _ _ | with_reducible exact sp_cb_lt _ _ _ _ _ | with_reducible exact sp_ch_lt _ | with_reducible exact sp_bf_lt _ _ | omega)) rfl ?_
      refine en_istore (ls' := [.ref 10, .int (nI i), .int (nI A), .int (nI (sp_cb ρ le i A b)), .int (nI (sp_w A (sp_cc ρ + b))), .retAddr 0, .int (nI b), .int (nI (((le (1 + r_bc ρ b)) + 12289 - (r_bv ρ b)) % 12289)), .int (nI ((((le (1 + r_bc ρ b)) + 12289 - (r_bv ρ b)) % 12289) * (sp_bf i (r_br ρ b)) % 12289))]) d_Ru_composition_121 (Nat.le_of_ble_eq_true rfl) rfl ?_
      refine ew_iload_n d_Ru_composition_123 rfl ?_
      refine ew_iload d_Ru_composition_124 rfl ?_
      refine ew_iload d_Ru_composition_126 rfl ?_
      refine en_callS (As := [.int (nI (sp_w A (sp_cc ρ + b))), .int (nI ((((le (1 + r_bc ρ b)) + 12289 - (r_bv ρ b)) % 12289) * (sp_bf i (r_br ρ b)) % 12289))]) (st := [.int (nI (sp_cb ρ le i A b))]) (st1 := [.int (nI ((sp_w A (sp_cc ρ + b)) * ((((le (1 + r_bc ρ b)) + 12289 - (r_bv ρ b)) % 12289) * (sp_bf i (r_br ρ b)) % 12289) % 12289)), .int (nI (sp_cb ρ le i A b))]) d_Ru_composition_128 k_Fi_times tw_332 tw_30 rfl (Nat.le_of_ble_eq_true rfl) rfl (Nat.le_of_ble_eq_true rfl) rfl rfl (c_Fi_times l g _ (ew_SH L) M (sp_w A (sp_cc ρ + b)) ((((le (1 + r_bc ρ b)) + 12289 - (r_bv ρ b)) % 12289) * (sp_bf i (r_br ρ b)) % 12289) (by first | with_reducible assumption | with_reducible exact ep_lt _ | with_reducible exact sp_its_lt _ _ _ | with_reducible exact tb_l_rt _ | with_reducible exact tb_l_x _ | with_reducible exact tb_l_o0 _ | with_reducible exact tb_l_o1 _ | with_reducible exact tb_l_va _ | with_reducible exact tb_l_ll _ | with_reducible exact tb_l_cf _ | with_reducible exact tb_l_kf _ | with_reducible exact sp_ts_lt _ _ _ _ | with_reducible exact sp_w_lt _ _ | with_reducible exact sp_cs_lt _ _ _ _ _ | with_reducible exact sp_cb_lt _ _ _ _ _ | with_reducible exact sp_ch_lt _ | with_reducible exact sp_bf_lt _ _ | omega) (by first | with_reducible assumption | with_reducible exact ep_lt _ | with_reducible exact sp_its_lt _ _ _ | with_reducible exact tb_l_rt _ | with_reducible exact tb_l_x _ | with_reducible exact tb_l_o0 _ | with_reducible exact tb_l_o1 _ | with_reducible exact tb_l_va _ | with_reducible exact tb_l_ll _ | with_reducible exact tb_l_cf _ | with_reducible exact tb_l_kf _ | with_reducible exact sp_ts_lt _ _ _ _ | with_reducible exact sp_w_lt _ _ | with_reducible exact sp_cs_lt _ _ _ _ _ | with_reducible exact sp_cb_lt _ _ _ _ _ | with_reducible exact sp_ch_lt _ | with_reducible exact sp_bf_lt _ _ | omega)) rfl ?_
      refine en_callS (As := [.int (nI (sp_cb ρ le i A b)), .int (nI ((sp_w A (sp_cc ρ + b)) * ((((le (1 + r_bc ρ b)) + 12289 - (r_bv ρ b)) % 12289) * (sp_bf i (r_br ρ b)) % 12289) % 12289))]) (st := []) (st1 := [.int (nI (((sp_cb ρ le i A b) + ((sp_w A (sp_cc ρ + b)) * ((((le (1 + r_bc ρ b)) + 12289 - (r_bv ρ b)) % 12289) * (sp_bf i (r_br ρ b)) % 12289) % 12289)) % 12289))]) d_Ru_composition_131 k_Fi_plus tw_333 tw_309 rfl (Nat.le_of_ble_eq_true rfl) rfl (Nat.le_of_ble_eq_true rfl) rfl rfl (c_Fi_plus l g _ (ew_SH L) M (sp_cb ρ le i A b) ((sp_w A (sp_cc ρ + b)) * ((((le (1 + r_bc ρ b)) + 12289 - (r_bv ρ b)) % 12289) * (sp_bf i (r_br ρ b)) % 12289) % 12289) (by first | with_reducible assumption | with_reducible exact ep_lt _ | with_reducible exact sp_its_lt _ _ _ | with_reducible exact tb_l_rt _ | with_reducible exact tb_l_x _ | with_reducible exact tb_l_o0 _ | with_reducible exact tb_l_o1 _ | with_reducible exact tb_l_va _ | with_reducible exact tb_l_ll _ | with_reducible exact tb_l_cf _ | with_reducible exact tb_l_kf _ | with_reducible exact sp_ts_lt _ _ _ _ | with_reducible exact sp_w_lt _ _ | with_reducible exact sp_cs_lt _ _ _ _ _ | with_reducible exact sp_cb_lt _ _ _ _ _ | with_reducible exact sp_ch_lt _ | with_reducible exact sp_bf_lt _ _ | omega) (by first | with_reducible assumption | with_reducible exact ep_lt _ | with_reducible exact sp_its_lt _ _ _ | with_reducible exact tb_l_rt _ | with_reducible exact tb_l_x _ | with_reducible exact tb_l_o0 _ | with_reducible exact tb_l_o1 _ | with_reducible exact tb_l_va _ | with_reducible exact tb_l_ll _ | with_reducible exact tb_l_cf _ | with_reducible exact tb_l_kf _ | with_reducible exact sp_ts_lt _ _ _ _ | with_reducible exact sp_w_lt _ _ | with_reducible exact sp_cs_lt _ _ _ _ _ | with_reducible exact sp_cb_lt _ _ _ _ _ | with_reducible exact sp_ch_lt _ | with_reducible exact sp_bf_lt _ _ | omega)) rfl ?_
      refine en_istore_n (ls' := [.ref 10, .int (nI i), .int (nI A), .int (nI (((sp_cb ρ le i A b) + ((sp_w A (sp_cc ρ + b)) * ((((le (1 + r_bc ρ b)) + 12289 - (r_bv ρ b)) % 12289) * (sp_bf i (r_br ρ b)) % 12289) % 12289)) % 12289)), .int (nI (sp_w A (sp_cc ρ + b))), .retAddr 0, .int (nI b), .int (nI (((le (1 + r_bc ρ b)) + 12289 - (r_bv ρ b)) % 12289)), .int (nI ((((le (1 + r_bc ρ b)) + 12289 - (r_bv ρ b)) % 12289) * (sp_bf i (r_br ρ b)) % 12289))]) d_Ru_composition_134 (Nat.le_of_ble_eq_true rfl) rfl ?_
      refine ew_iload d_Ru_composition_135 rfl ?_
      refine ew_iload_n d_Ru_composition_137 rfl ?_
      refine en_callS (As := [.int (nI (sp_w A (sp_cc ρ + b))), .int (nI A)]) (st := []) (st1 := [.int (nI ((sp_w A (sp_cc ρ + b)) * A % 12289))]) d_Ru_composition_138 k_Fi_times tw_332 tw_30 rfl (Nat.le_of_ble_eq_true rfl) rfl (Nat.le_of_ble_eq_true rfl) rfl rfl (c_Fi_times l g _ (ew_SH L) M (sp_w A (sp_cc ρ + b)) A (by first | with_reducible assumption | with_reducible exact ep_lt _ | with_reducible exact sp_its_lt _ _ _ | with_reducible exact tb_l_rt _ | with_reducible exact tb_l_x _ | with_reducible exact tb_l_o0 _ | with_reducible exact tb_l_o1 _ | with_reducible exact tb_l_va _ | with_reducible exact tb_l_ll _ | with_reducible exact tb_l_cf _ | with_reducible exact tb_l_kf _ | with_reducible exact sp_ts_lt _ _ _ _ | with_reducible exact sp_w_lt _ _ | with_reducible exact sp_cs_lt _ _ _ _ _ | with_reducible exact sp_cb_lt _ _ _ _ _ | with_reducible exact sp_ch_lt _ | with_reducible exact sp_bf_lt _ _ | omega) (by first | with_reducible assumption | with_reducible exact ep_lt _ | with_reducible exact sp_its_lt _ _ _ | with_reducible exact tb_l_rt _ | with_reducible exact tb_l_x _ | with_reducible exact tb_l_o0 _ | with_reducible exact tb_l_o1 _ | with_reducible exact tb_l_va _ | with_reducible exact tb_l_ll _ | with_reducible exact tb_l_cf _ | with_reducible exact tb_l_kf _ | with_reducible exact sp_ts_lt _ _ _ _ | with_reducible exact sp_w_lt _ _ | with_reducible exact sp_cs_lt _ _ _ _ _ | with_reducible exact sp_cb_lt _ _ _ _ _ | with_reducible exact sp_ch_lt _ | with_reducible exact sp_bf_lt _ _ | omega)) rfl ?_
      refine en_istore (ls' := [.ref 10, .int (nI i), .int (nI A), .int (nI (((sp_cb ρ le i A b) + ((sp_w A (sp_cc ρ + b)) * ((((le (1 + r_bc ρ b)) + 12289 - (r_bv ρ b)) % 12289) * (sp_bf i (r_br ρ b)) % 12289) % 12289)) % 12289)), .int (nI ((sp_w A (sp_cc ρ + b)) * A % 12289)), .retAddr 0, .int (nI b), .int (nI (((le (1 + r_bc ρ b)) + 12289 - (r_bv ρ b)) % 12289)), .int (nI ((((le (1 + r_bc ρ b)) + 12289 - (r_bv ρ b)) % 12289) * (sp_bf i (r_br ρ b)) % 12289))]) d_Ru_composition_141 (Nat.le_of_ble_eq_true rfl) rfl ?_
      refine en_inc (ls' := [.ref 10, .int (nI i), .int (nI A), .int (nI (((sp_cb ρ le i A b) + ((sp_w A (sp_cc ρ + b)) * ((((le (1 + r_bc ρ b)) + 12289 - (r_bv ρ b)) % 12289) * (sp_bf i (r_br ρ b)) % 12289) % 12289)) % 12289)), .int (nI ((sp_w A (sp_cc ρ + b)) * A % 12289)), .retAddr 0, .int (nI (b + 1)), .int (nI (((le (1 + r_bc ρ b)) + 12289 - (r_bv ρ b)) % 12289)), .int (nI ((((le (1 + r_bc ρ b)) + 12289 - (r_bv ρ b)) % 12289) * (sp_bf i (r_br ρ b)) % 12289))]) d_Ru_composition_143 rfl rfl ?_
      refine ew_goto (tgt := 69) d_Ru_composition_146 (by decide) ?_
      refine en_drop (ls' := [.ref 10, .int (nI i), .int (nI A), .int (nI (((sp_cb ρ le i A b) + ((sp_w A (sp_cc ρ + b)) * ((((le (1 + r_bc ρ b)) + 12289 - (r_bv ρ b)) % 12289) * (sp_bf i (r_br ρ b)) % 12289) % 12289)) % 12289)), .int (nI ((sp_w A (sp_cc ρ + b)) * A % 12289)), .retAddr 0, .int (nI (b + 1)), .retAddr 0, .retAddr 0]) ⟨Or.inl rfl, Or.inl rfl, Or.inl rfl, Or.inl rfl, Or.inl rfl, Or.inl rfl, Or.inl rfl, Or.inr rfl, Or.inr rfl, trivial⟩ ?_
      exact ih (b + 1) (by omega) (by omega)
set_option maxRecDepth 100000 in
theorem c_Ru_composition_0 (l : Launch) (g : ew_G) (d L : Nat) (M : ew_M) (ρ : sp_R) (hr : sp_ru ρ M) (le : Nat → Nat) (hl : sp_hle le (M 16)) (hT : sp_tab M) (i A : Nat) (hi : i < 32) (hA : A < 12289) (hk : sp_cc ρ = 0) :
    Ew l g (d + 2) 0 0 m_Ru_composition 0 [.ref 10, .int (nI i), .int (nI A), .retAddr 0, .retAddr 0, .retAddr 0, .retAddr 0, .retAddr 0, .retAddr 0] [] (ew_SH L) M (ew_q (some (.int (nI (sp_com ρ le i A)))) (ew_SH L) M) := by
  refine ew_iconst (v := nI 0) d_Ru_composition_0 (by decide) ?_
  refine en_istore_n (ls' := [.ref 10, .int (nI i), .int (nI A), .int (nI 0), .retAddr 0, .retAddr 0, .retAddr 0, .retAddr 0, .retAddr 0]) d_Ru_composition_1 (Nat.le_of_ble_eq_true rfl) rfl ?_
  refine ew_iconst (v := nI 1) d_Ru_composition_2 (by decide) ?_
  refine en_istore (ls' := [.ref 10, .int (nI i), .int (nI A), .int (nI 0), .int (nI 1), .retAddr 0, .retAddr 0, .retAddr 0, .retAddr 0]) d_Ru_composition_3 (Nat.le_of_ble_eq_true rfl) rfl ?_
  refine ew_aload_n d_Ru_composition_5 rfl ?_
  refine en_callV (As := []) (i := 10) (ci := 2) (st := []) (st1 := [.int (nI (sp_cc ρ))]) d_Ru_composition_6 k_Ru_constraintCount rfl rfl tw_358 tw_360 tp_7 rfl (Nat.le_of_ble_eq_true rfl) rfl (Nat.le_of_ble_eq_true rfl) rfl rfl (c_Ru_constraintCount l g _ L M ρ (hr)) rfl ?_
  refine en_eq (st' := [.int (nI 0)]) rfl (by rw [show (nI (sp_cc ρ)) = (nI 0) from by rw [hk]]) rfl ?_
  refine en_istore (ls' := [.ref 10, .int (nI i), .int (nI A), .int (nI 0), .int (nI 1), .int (nI 0), .retAddr 0, .retAddr 0, .retAddr 0]) d_Ru_composition_9 (Nat.le_of_ble_eq_true rfl) rfl ?_
  refine ew_iconst (v := nI 0) d_Ru_composition_11 (by decide) ?_
  refine en_istore (ls' := [.ref 10, .int (nI i), .int (nI A), .int (nI 0), .int (nI 1), .int (nI 0), .int (nI 0), .retAddr 0, .retAddr 0]) d_Ru_composition_12 (Nat.le_of_ble_eq_true rfl) rfl ?_
  refine ew_iload d_Ru_composition_14 rfl ?_
  refine ew_iload d_Ru_composition_16 rfl ?_
  refine en_icmp_ge (tgt := 66) d_Ru_composition_18 (by decide) (by decide) (by decide) (fun h18 => ?_) (fun h18 => by exact absurd h18 (by decide))
  refine ew_iconst (v := nI 0) d_Ru_composition_66 (by decide) ?_
  refine en_istore (ls' := [.ref 10, .int (nI i), .int (nI A), .int (nI 0), .int (nI 1), .int (nI 0), .int (nI 0), .retAddr 0, .retAddr 0]) d_Ru_composition_67 (Nat.le_of_ble_eq_true rfl) rfl ?_
  refine en_drop (ls' := [.ref 10, .int (nI i), .int (nI A), .int (nI 0), .int (nI 1), .retAddr 0, .int (nI 0), .retAddr 0, .retAddr 0]) ⟨Or.inl rfl, Or.inl rfl, Or.inl rfl, Or.inl rfl, Or.inl rfl, Or.inr rfl, Or.inl rfl, Or.inl rfl, Or.inl rfl, trivial⟩ ?_
  refine en_eq (ls' := [.ref 10, .int (nI i), .int (nI A), .int (nI (sp_cb ρ le i A 0)), .int (nI (sp_w A (sp_cc ρ + 0))), .retAddr 0, .int (nI 0), .retAddr 0, .retAddr 0]) (by rw [show sp_cb ρ le i A 0 = 0 from by (show sp_cs ρ le i A (sp_cc ρ) = _; rw [hk]; rfl), show sp_w A (sp_cc ρ + 0) = 1 from by (rw [hk]; rfl)]) rfl rfl ?_
  exact lp_Ru_composition l g d L M ρ hr le hl hT i A hi hA (r_bn ρ + 1) 0 (by omega) (by omega)
set_option maxRecDepth 100000 in
theorem c_Ru_composition_1 (l : Launch) (g : ew_G) (d L : Nat) (M : ew_M) (ρ : sp_R) (hr : sp_ru ρ M) (le : Nat → Nat) (hl : sp_hle le (M 16)) (hT : sp_tab M) (i A : Nat) (hi : i < 32) (hA : A < 12289) (hk : sp_cc ρ = 1) :
    Ew l g (d + 2) 0 0 m_Ru_composition 0 [.ref 10, .int (nI i), .int (nI A), .retAddr 0, .retAddr 0, .retAddr 0, .retAddr 0, .retAddr 0, .retAddr 0] [] (ew_SH L) M (ew_q (some (.int (nI (sp_com ρ le i A)))) (ew_SH L) M) := by
  refine ew_iconst (v := nI 0) d_Ru_composition_0 (by decide) ?_
  refine en_istore_n (ls' := [.ref 10, .int (nI i), .int (nI A), .int (nI 0), .retAddr 0, .retAddr 0, .retAddr 0, .retAddr 0, .retAddr 0]) d_Ru_composition_1 (Nat.le_of_ble_eq_true rfl) rfl ?_
  refine ew_iconst (v := nI 1) d_Ru_composition_2 (by decide) ?_
  refine en_istore (ls' := [.ref 10, .int (nI i), .int (nI A), .int (nI 0), .int (nI 1), .retAddr 0, .retAddr 0, .retAddr 0, .retAddr 0]) d_Ru_composition_3 (Nat.le_of_ble_eq_true rfl) rfl ?_
  refine ew_aload_n d_Ru_composition_5 rfl ?_
  refine en_callV (As := []) (i := 10) (ci := 2) (st := []) (st1 := [.int (nI (sp_cc ρ))]) d_Ru_composition_6 k_Ru_constraintCount rfl rfl tw_358 tw_360 tp_7 rfl (Nat.le_of_ble_eq_true rfl) rfl (Nat.le_of_ble_eq_true rfl) rfl rfl (c_Ru_constraintCount l g _ L M ρ (hr)) rfl ?_
  refine en_eq (st' := [.int (nI 1)]) rfl (by rw [show (nI (sp_cc ρ)) = (nI 1) from by rw [hk]]) rfl ?_
  refine en_istore (ls' := [.ref 10, .int (nI i), .int (nI A), .int (nI 0), .int (nI 1), .int (nI 1), .retAddr 0, .retAddr 0, .retAddr 0]) d_Ru_composition_9 (Nat.le_of_ble_eq_true rfl) rfl ?_
  refine ew_iconst (v := nI 0) d_Ru_composition_11 (by decide) ?_
  refine en_istore (ls' := [.ref 10, .int (nI i), .int (nI A), .int (nI 0), .int (nI 1), .int (nI 1), .int (nI 0), .retAddr 0, .retAddr 0]) d_Ru_composition_12 (Nat.le_of_ble_eq_true rfl) rfl ?_
  refine ew_iload d_Ru_composition_14 rfl ?_
  refine ew_iload d_Ru_composition_16 rfl ?_
  refine en_icmp_ge (tgt := 66) d_Ru_composition_18 (by decide) (by decide) (by decide) (fun h18 => by exact absurd h18 (by decide)) (fun h18 => ?_)
  refine ew_aload_n d_Ru_composition_21 rfl ?_
  refine ew_iload d_Ru_composition_22 rfl ?_
  refine en_callV (As := [.int (nI 0)]) (i := 10) (ci := 2) (st := []) (st1 := [.int (nI (sp_ts ρ 0 le (r_cn ρ 0)))]) d_Ru_composition_24 k_Ru_termSum rfl rfl tw_328 tw_330 tp_2 rfl (Nat.le_of_ble_eq_true rfl) rfl (Nat.le_of_ble_eq_true rfl) rfl rfl (c_Ru_termSum0 l g _ L M ρ (hr) (le) (hl)) rfl ?_
  refine ew_aload_n d_Ru_composition_27 rfl ?_
  refine ew_getr (ci := 2) (f := 0) d_Ru_composition_28 rfl rfl rfl tw_69 ?_
  refine ew_iload_n d_Ru_composition_31 rfl ?_
  refine en_callV (As := [.int (nI i)]) (i := 4) (ci := 1) (st := [.int (nI (sp_ts ρ 0 le (r_cn ρ 0)))]) (st1 := [.int (nI (tb_cf i)), .int (nI (sp_ts ρ 0 le (r_cn ρ 0)))]) d_Ru_composition_32 k_Pt_constraintFactor rfl rfl tw_427 tw_428 tw_429 rfl (Nat.le_of_ble_eq_true rfl) rfl (Nat.le_of_ble_eq_true rfl) rfl rfl (c_Pt_constraintFactor l g _ L M (hT) i (by first | with_reducible assumption | with_reducible exact ep_lt _ | with_reducible exact sp_its_lt _ _ _ | with_reducible exact tb_l_rt _ | with_reducible exact tb_l_x _ | with_reducible exact tb_l_o0 _ | with_reducible exact tb_l_o1 _ | with_reducible exact tb_l_va _ | with_reducible exact tb_l_ll _ | with_reducible exact tb_l_cf _ | with_reducible exact tb_l_kf _ | with_reducible exact sp_ts_lt _ _ _ _ | with_reducible exact sp_w_lt _ _ | with_reducible exact sp_cs_lt _ _ _ _ _ | with_reducible exact sp_cb_lt _ _ _ _ _ | with_reducible exact sp_ch_lt _ | with_reducible exact sp_bf_lt _ _ | omega)) rfl ?_
  refine en_callS (As := [.int (nI (sp_ts ρ 0 le (r_cn ρ 0))), .int (nI (tb_cf i))]) (st := []) (st1 := [.int (nI ((sp_ts ρ 0 le (r_cn ρ 0)) * (tb_cf i) % 12289))]) d_Ru_composition_35 k_Fi_times tw_332 tw_30 rfl (Nat.le_of_ble_eq_true rfl) rfl (Nat.le_of_ble_eq_true rfl) rfl rfl (c_Fi_times l g _ (ew_SH L) M (sp_ts ρ 0 le (r_cn ρ 0)) (tb_cf i) (by first | with_reducible assumption | with_reducible exact ep_lt _ | with_reducible exact sp_its_lt _ _ _ | with_reducible exact tb_l_rt _ | with_reducible exact tb_l_x _ | with_reducible exact tb_l_o0 _ | with_reducible exact tb_l_o1 _ | with_reducible exact tb_l_va _ | with_reducible exact tb_l_ll _ | with_reducible exact tb_l_cf _ | with_reducible exact tb_l_kf _ | with_reducible exact sp_ts_lt _ _ _ _ | with_reducible exact sp_w_lt _ _ | with_reducible exact sp_cs_lt _ _ _ _ _ | with_reducible exact sp_cb_lt _ _ _ _ _ | with_reducible exact sp_ch_lt _ | with_reducible exact sp_bf_lt _ _ | omega) (by first | with_reducible assumption | with_reducible exact ep_lt _ | with_reducible exact sp_its_lt _ _ _ | with_reducible exact tb_l_rt _ | with_reducible exact tb_l_x _ | with_reducible exact tb_l_o0 _ | with_reducible exact tb_l_o1 _ | with_reducible exact tb_l_va _ | with_reducible exact tb_l_ll _ | with_reducible exact tb_l_cf _ | with_reducible exact tb_l_kf _ | with_reducible exact sp_ts_lt _ _ _ _ | with_reducible exact sp_w_lt _ _ | with_reducible exact sp_cs_lt _ _ _ _ _ | with_reducible exact sp_cb_lt _ _ _ _ _ | with_reducible exact sp_ch_lt _ | with_reducible exact sp_bf_lt _ _ | omega)) rfl ?_
  refine en_istore (ls' := [.ref 10, .int (nI i), .int (nI A), .int (nI 0), .int (nI 1), .int (nI 1), .int (nI 0), .int (nI ((sp_ts ρ 0 le (r_cn ρ 0)) * (tb_cf i) % 12289)), .retAddr 0]) d_Ru_composition_38 (Nat.le_of_ble_eq_true rfl) rfl ?_
  refine ew_iload_n d_Ru_composition_40 rfl ?_
  refine ew_iload d_Ru_composition_41 rfl ?_
  refine ew_iload d_Ru_composition_43 rfl ?_
  refine en_callS (As := [.int (nI 1), .int (nI ((sp_ts ρ 0 le (r_cn ρ 0)) * (tb_cf i) % 12289))]) (st := [.int (nI 0)]) (st1 := [.int (nI (1 * ((sp_ts ρ 0 le (r_cn ρ 0)) * (tb_cf i) % 12289) % 12289)), .int (nI 0)]) d_Ru_composition_45 k_Fi_times tw_332 tw_30 rfl (Nat.le_of_ble_eq_true rfl) rfl (Nat.le_of_ble_eq_true rfl) rfl rfl (c_Fi_times l g _ (ew_SH L) M 1 ((sp_ts ρ 0 le (r_cn ρ 0)) * (tb_cf i) % 12289) (by first | with_reducible exact ep_lt _ | decide) (by first | with_reducible exact ep_lt _ | decide)) rfl ?_
  refine en_callS (As := [.int (nI 0), .int (nI (1 * ((sp_ts ρ 0 le (r_cn ρ 0)) * (tb_cf i) % 12289) % 12289))]) (st := []) (st1 := [.int (nI ((0 + (1 * ((sp_ts ρ 0 le (r_cn ρ 0)) * (tb_cf i) % 12289) % 12289)) % 12289))]) d_Ru_composition_48 k_Fi_plus tw_333 tw_309 rfl (Nat.le_of_ble_eq_true rfl) rfl (Nat.le_of_ble_eq_true rfl) rfl rfl (c_Fi_plus l g _ (ew_SH L) M 0 (1 * ((sp_ts ρ 0 le (r_cn ρ 0)) * (tb_cf i) % 12289) % 12289) (by first | with_reducible exact ep_lt _ | decide) (by first | with_reducible exact ep_lt _ | decide)) rfl ?_
  refine en_istore_n (ls' := [.ref 10, .int (nI i), .int (nI A), .int (nI ((0 + (1 * ((sp_ts ρ 0 le (r_cn ρ 0)) * (tb_cf i) % 12289) % 12289)) % 12289)), .int (nI 1), .int (nI 1), .int (nI 0), .int (nI ((sp_ts ρ 0 le (r_cn ρ 0)) * (tb_cf i) % 12289)), .retAddr 0]) d_Ru_composition_51 (Nat.le_of_ble_eq_true rfl) rfl ?_
  refine ew_iload d_Ru_composition_52 rfl ?_
  refine ew_iload_n d_Ru_composition_54 rfl ?_
  refine en_callS (As := [.int (nI 1), .int (nI A)]) (st := []) (st1 := [.int (nI (1 * A % 12289))]) d_Ru_composition_55 k_Fi_times tw_332 tw_30 rfl (Nat.le_of_ble_eq_true rfl) rfl (Nat.le_of_ble_eq_true rfl) rfl rfl (c_Fi_times l g _ (ew_SH L) M 1 A (by first | with_reducible assumption | with_reducible exact ep_lt _ | decide) (by first | with_reducible assumption | with_reducible exact ep_lt _ | decide)) rfl ?_
  refine en_istore (ls' := [.ref 10, .int (nI i), .int (nI A), .int (nI ((0 + (1 * ((sp_ts ρ 0 le (r_cn ρ 0)) * (tb_cf i) % 12289) % 12289)) % 12289)), .int (nI (1 * A % 12289)), .int (nI 1), .int (nI 0), .int (nI ((sp_ts ρ 0 le (r_cn ρ 0)) * (tb_cf i) % 12289)), .retAddr 0]) d_Ru_composition_58 (Nat.le_of_ble_eq_true rfl) rfl ?_
  refine en_inc (ls' := [.ref 10, .int (nI i), .int (nI A), .int (nI ((0 + (1 * ((sp_ts ρ 0 le (r_cn ρ 0)) * (tb_cf i) % 12289) % 12289)) % 12289)), .int (nI (1 * A % 12289)), .int (nI 1), .int (nI 1), .int (nI ((sp_ts ρ 0 le (r_cn ρ 0)) * (tb_cf i) % 12289)), .retAddr 0]) d_Ru_composition_60 rfl rfl ?_
  refine ew_goto (tgt := 14) d_Ru_composition_63 (by decide) ?_
  refine ew_iload d_Ru_composition_14 rfl ?_
  refine ew_iload d_Ru_composition_16 rfl ?_
  refine en_icmp_ge (tgt := 66) d_Ru_composition_18 (by decide) (by decide) (by decide) (fun h18 => ?_) (fun h18 => by exact absurd h18 (by decide))
  refine ew_iconst (v := nI 0) d_Ru_composition_66 (by decide) ?_
  refine en_istore (ls' := [.ref 10, .int (nI i), .int (nI A), .int (nI ((0 + (1 * ((sp_ts ρ 0 le (r_cn ρ 0)) * (tb_cf i) % 12289) % 12289)) % 12289)), .int (nI (1 * A % 12289)), .int (nI 1), .int (nI 0), .int (nI ((sp_ts ρ 0 le (r_cn ρ 0)) * (tb_cf i) % 12289)), .retAddr 0]) d_Ru_composition_67 (Nat.le_of_ble_eq_true rfl) rfl ?_
  refine en_drop (ls' := [.ref 10, .int (nI i), .int (nI A), .int (nI ((0 + (1 * ((sp_ts ρ 0 le (r_cn ρ 0)) * (tb_cf i) % 12289) % 12289)) % 12289)), .int (nI (1 * A % 12289)), .retAddr 0, .int (nI 0), .retAddr 0, .retAddr 0]) ⟨Or.inl rfl, Or.inl rfl, Or.inl rfl, Or.inl rfl, Or.inl rfl, Or.inr rfl, Or.inl rfl, Or.inr rfl, Or.inl rfl, trivial⟩ ?_
  refine en_eq (ls' := [.ref 10, .int (nI i), .int (nI A), .int (nI (sp_cb ρ le i A 0)), .int (nI (sp_w A (sp_cc ρ + 0))), .retAddr 0, .int (nI 0), .retAddr 0, .retAddr 0]) (by rw [show sp_cb ρ le i A 0 = (0 + (1 * ((sp_ts ρ 0 le (r_cn ρ 0)) * (tb_cf i) % 12289) % 12289)) % 12289 from by (show sp_cs ρ le i A (sp_cc ρ) = _; rw [hk]; rfl), show sp_w A (sp_cc ρ + 0) = 1 * A % 12289 from by (rw [hk]; rfl)]) rfl rfl ?_
  exact lp_Ru_composition l g d L M ρ hr le hl hT i A hi hA (r_bn ρ + 1) 0 (by omega) (by omega)
set_option maxRecDepth 100000 in
theorem c_Ru_composition_2 (l : Launch) (g : ew_G) (d L : Nat) (M : ew_M) (ρ : sp_R) (hr : sp_ru ρ M) (le : Nat → Nat) (hl : sp_hle le (M 16)) (hT : sp_tab M) (i A : Nat) (hi : i < 32) (hA : A < 12289) (hk : sp_cc ρ = 2) :
    Ew l g (d + 2) 0 0 m_Ru_composition 0 [.ref 10, .int (nI i), .int (nI A), .retAddr 0, .retAddr 0, .retAddr 0, .retAddr 0, .retAddr 0, .retAddr 0] [] (ew_SH L) M (ew_q (some (.int (nI (sp_com ρ le i A)))) (ew_SH L) M) := by
  refine ew_iconst (v := nI 0) d_Ru_composition_0 (by decide) ?_
  refine en_istore_n (ls' := [.ref 10, .int (nI i), .int (nI A), .int (nI 0), .retAddr 0, .retAddr 0, .retAddr 0, .retAddr 0, .retAddr 0]) d_Ru_composition_1 (Nat.le_of_ble_eq_true rfl) rfl ?_
  refine ew_iconst (v := nI 1) d_Ru_composition_2 (by decide) ?_
  refine en_istore (ls' := [.ref 10, .int (nI i), .int (nI A), .int (nI 0), .int (nI 1), .retAddr 0, .retAddr 0, .retAddr 0, .retAddr 0]) d_Ru_composition_3 (Nat.le_of_ble_eq_true rfl) rfl ?_
  refine ew_aload_n d_Ru_composition_5 rfl ?_
  refine en_callV (As := []) (i := 10) (ci := 2) (st := []) (st1 := [.int (nI (sp_cc ρ))]) d_Ru_composition_6 k_Ru_constraintCount rfl rfl tw_358 tw_360 tp_7 rfl (Nat.le_of_ble_eq_true rfl) rfl (Nat.le_of_ble_eq_true rfl) rfl rfl (c_Ru_constraintCount l g _ L M ρ (hr)) rfl ?_
  refine en_eq (st' := [.int (nI 2)]) rfl (by rw [show (nI (sp_cc ρ)) = (nI 2) from by rw [hk]]) rfl ?_
  refine en_istore (ls' := [.ref 10, .int (nI i), .int (nI A), .int (nI 0), .int (nI 1), .int (nI 2), .retAddr 0, .retAddr 0, .retAddr 0]) d_Ru_composition_9 (Nat.le_of_ble_eq_true rfl) rfl ?_
  refine ew_iconst (v := nI 0) d_Ru_composition_11 (by decide) ?_
  refine en_istore (ls' := [.ref 10, .int (nI i), .int (nI A), .int (nI 0), .int (nI 1), .int (nI 2), .int (nI 0), .retAddr 0, .retAddr 0]) d_Ru_composition_12 (Nat.le_of_ble_eq_true rfl) rfl ?_
  refine ew_iload d_Ru_composition_14 rfl ?_
  refine ew_iload d_Ru_composition_16 rfl ?_
  refine en_icmp_ge (tgt := 66) d_Ru_composition_18 (by decide) (by decide) (by decide) (fun h18 => by exact absurd h18 (by decide)) (fun h18 => ?_)
  refine ew_aload_n d_Ru_composition_21 rfl ?_
  refine ew_iload d_Ru_composition_22 rfl ?_
  refine en_callV (As := [.int (nI 0)]) (i := 10) (ci := 2) (st := []) (st1 := [.int (nI (sp_ts ρ 0 le (r_cn ρ 0)))]) d_Ru_composition_24 k_Ru_termSum rfl rfl tw_328 tw_330 tp_2 rfl (Nat.le_of_ble_eq_true rfl) rfl (Nat.le_of_ble_eq_true rfl) rfl rfl (c_Ru_termSum0 l g _ L M ρ (hr) (le) (hl)) rfl ?_
  refine ew_aload_n d_Ru_composition_27 rfl ?_
  refine ew_getr (ci := 2) (f := 0) d_Ru_composition_28 rfl rfl rfl tw_69 ?_
  refine ew_iload_n d_Ru_composition_31 rfl ?_
  refine en_callV (As := [.int (nI i)]) (i := 4) (ci := 1) (st := [.int (nI (sp_ts ρ 0 le (r_cn ρ 0)))]) (st1 := [.int (nI (tb_cf i)), .int (nI (sp_ts ρ 0 le (r_cn ρ 0)))]) d_Ru_composition_32 k_Pt_constraintFactor rfl rfl tw_427 tw_428 tw_429 rfl (Nat.le_of_ble_eq_true rfl) rfl (Nat.le_of_ble_eq_true rfl) rfl rfl (c_Pt_constraintFactor l g _ L M (hT) i (by first | with_reducible assumption | with_reducible exact ep_lt _ | with_reducible exact sp_its_lt _ _ _ | with_reducible exact tb_l_rt _ | with_reducible exact tb_l_x _ | with_reducible exact tb_l_o0 _ | with_reducible exact tb_l_o1 _ | with_reducible exact tb_l_va _ | with_reducible exact tb_l_ll _ | with_reducible exact tb_l_cf _ | with_reducible exact tb_l_kf _ | with_reducible exact sp_ts_lt _ _ _ _ | with_reducible exact sp_w_lt _ _ | with_reducible exact sp_cs_lt _ _ _ _ _ | with_reducible exact sp_cb_lt _ _ _ _ _ | with_reducible exact sp_ch_lt _ | with_reducible exact sp_bf_lt _ _ | omega)) rfl ?_
  refine en_callS (As := [.int (nI (sp_ts ρ 0 le (r_cn ρ 0))), .int (nI (tb_cf i))]) (st := []) (st1 := [.int (nI ((sp_ts ρ 0 le (r_cn ρ 0)) * (tb_cf i) % 12289))]) d_Ru_composition_35 k_Fi_times tw_332 tw_30 rfl (Nat.le_of_ble_eq_true rfl) rfl (Nat.le_of_ble_eq_true rfl) rfl rfl (c_Fi_times l g _ (ew_SH L) M (sp_ts ρ 0 le (r_cn ρ 0)) (tb_cf i) (by first | with_reducible assumption | with_reducible exact ep_lt _ | with_reducible exact sp_its_lt _ _ _ | with_reducible exact tb_l_rt _ | with_reducible exact tb_l_x _ | with_reducible exact tb_l_o0 _ | with_reducible exact tb_l_o1 _ | with_reducible exact tb_l_va _ | with_reducible exact tb_l_ll _ | with_reducible exact tb_l_cf _ | with_reducible exact tb_l_kf _ | with_reducible exact sp_ts_lt _ _ _ _ | with_reducible exact sp_w_lt _ _ | with_reducible exact sp_cs_lt _ _ _ _ _ | with_reducible exact sp_cb_lt _ _ _ _ _ | with_reducible exact sp_ch_lt _ | with_reducible exact sp_bf_lt _ _ | omega) (by first | with_reducible assumption | with_reducible exact ep_lt _ | with_reducible exact sp_its_lt _ _ _ | with_reducible exact tb_l_rt _ | with_reducible exact tb_l_x _ | with_reducible exact tb_l_o0 _ | with_reducible exact tb_l_o1 _ | with_reducible exact tb_l_va _ | with_reducible exact tb_l_ll _ | with_reducible exact tb_l_cf _ | with_reducible exact tb_l_kf _ | with_reducible exact sp_ts_lt _ _ _ _ | with_reducible exact sp_w_lt _ _ | with_reducible exact sp_cs_lt _ _ _ _ _ | with_reducible exact sp_cb_lt _ _ _ _ _ | with_reducible exact sp_ch_lt _ | with_reducible exact sp_bf_lt _ _ | omega)) rfl ?_
  refine en_istore (ls' := [.ref 10, .int (nI i), .int (nI A), .int (nI 0), .int (nI 1), .int (nI 2), .int (nI 0), .int (nI ((sp_ts ρ 0 le (r_cn ρ 0)) * (tb_cf i) % 12289)), .retAddr 0]) d_Ru_composition_38 (Nat.le_of_ble_eq_true rfl) rfl ?_
  refine ew_iload_n d_Ru_composition_40 rfl ?_
  refine ew_iload d_Ru_composition_41 rfl ?_
  refine ew_iload d_Ru_composition_43 rfl ?_
  refine en_callS (As := [.int (nI 1), .int (nI ((sp_ts ρ 0 le (r_cn ρ 0)) * (tb_cf i) % 12289))]) (st := [.int (nI 0)]) (st1 := [.int (nI (1 * ((sp_ts ρ 0 le (r_cn ρ 0)) * (tb_cf i) % 12289) % 12289)), .int (nI 0)]) d_Ru_composition_45 k_Fi_times tw_332 tw_30 rfl (Nat.le_of_ble_eq_true rfl) rfl (Nat.le_of_ble_eq_true rfl) rfl rfl (c_Fi_times l g _ (ew_SH L) M 1 ((sp_ts ρ 0 le (r_cn ρ 0)) * (tb_cf i) % 12289) (by first | with_reducible exact ep_lt _ | decide) (by first | with_reducible exact ep_lt _ | decide)) rfl ?_
  refine en_callS (As := [.int (nI 0), .int (nI (1 * ((sp_ts ρ 0 le (r_cn ρ 0)) * (tb_cf i) % 12289) % 12289))]) (st := []) (st1 := [.int (nI ((0 + (1 * ((sp_ts ρ 0 le (r_cn ρ 0)) * (tb_cf i) % 12289) % 12289)) % 12289))]) d_Ru_composition_48 k_Fi_plus tw_333 tw_309 rfl (Nat.le_of_ble_eq_true rfl) rfl (Nat.le_of_ble_eq_true rfl) rfl rfl (c_Fi_plus l g _ (ew_SH L) M 0 (1 * ((sp_ts ρ 0 le (r_cn ρ 0)) * (tb_cf i) % 12289) % 12289) (by first | with_reducible exact ep_lt _ | decide) (by first | with_reducible exact ep_lt _ | decide)) rfl ?_
  refine en_istore_n (ls' := [.ref 10, .int (nI i), .int (nI A), .int (nI ((0 + (1 * ((sp_ts ρ 0 le (r_cn ρ 0)) * (tb_cf i) % 12289) % 12289)) % 12289)), .int (nI 1), .int (nI 2), .int (nI 0), .int (nI ((sp_ts ρ 0 le (r_cn ρ 0)) * (tb_cf i) % 12289)), .retAddr 0]) d_Ru_composition_51 (Nat.le_of_ble_eq_true rfl) rfl ?_
  refine ew_iload d_Ru_composition_52 rfl ?_
  refine ew_iload_n d_Ru_composition_54 rfl ?_
  refine en_callS (As := [.int (nI 1), .int (nI A)]) (st := []) (st1 := [.int (nI (1 * A % 12289))]) d_Ru_composition_55 k_Fi_times tw_332 tw_30 rfl (Nat.le_of_ble_eq_true rfl) rfl (Nat.le_of_ble_eq_true rfl) rfl rfl (c_Fi_times l g _ (ew_SH L) M 1 A (by first | with_reducible assumption | with_reducible exact ep_lt _ | decide) (by first | with_reducible assumption | with_reducible exact ep_lt _ | decide)) rfl ?_
  refine en_istore (ls' := [.ref 10, .int (nI i), .int (nI A), .int (nI ((0 + (1 * ((sp_ts ρ 0 le (r_cn ρ 0)) * (tb_cf i) % 12289) % 12289)) % 12289)), .int (nI (1 * A % 12289)), .int (nI 2), .int (nI 0), .int (nI ((sp_ts ρ 0 le (r_cn ρ 0)) * (tb_cf i) % 12289)), .retAddr 0]) d_Ru_composition_58 (Nat.le_of_ble_eq_true rfl) rfl ?_
  refine en_inc (ls' := [.ref 10, .int (nI i), .int (nI A), .int (nI ((0 + (1 * ((sp_ts ρ 0 le (r_cn ρ 0)) * (tb_cf i) % 12289) % 12289)) % 12289)), .int (nI (1 * A % 12289)), .int (nI 2), .int (nI 1), .int (nI ((sp_ts ρ 0 le (r_cn ρ 0)) * (tb_cf i) % 12289)), .retAddr 0]) d_Ru_composition_60 rfl rfl ?_
  refine ew_goto (tgt := 14) d_Ru_composition_63 (by decide) ?_
  refine ew_iload d_Ru_composition_14 rfl ?_
  refine ew_iload d_Ru_composition_16 rfl ?_
  refine en_icmp_ge (tgt := 66) d_Ru_composition_18 (by decide) (by decide) (by decide) (fun h18 => by exact absurd h18 (by decide)) (fun h18 => ?_)
  refine ew_aload_n d_Ru_composition_21 rfl ?_
  refine ew_iload d_Ru_composition_22 rfl ?_
  refine en_callV (As := [.int (nI 1)]) (i := 10) (ci := 2) (st := []) (st1 := [.int (nI (sp_ts ρ 1 le (r_cn ρ 1)))]) d_Ru_composition_24 k_Ru_termSum rfl rfl tw_328 tw_330 tp_2 rfl (Nat.le_of_ble_eq_true rfl) rfl (Nat.le_of_ble_eq_true rfl) rfl rfl (c_Ru_termSum1 l g _ L M ρ (hr) (le) (hl)) rfl ?_
  refine ew_aload_n d_Ru_composition_27 rfl ?_
  refine ew_getr (ci := 2) (f := 0) d_Ru_composition_28 rfl rfl rfl tw_69 ?_
  refine ew_iload_n d_Ru_composition_31 rfl ?_
  refine en_callV (As := [.int (nI i)]) (i := 4) (ci := 1) (st := [.int (nI (sp_ts ρ 1 le (r_cn ρ 1)))]) (st1 := [.int (nI (tb_cf i)), .int (nI (sp_ts ρ 1 le (r_cn ρ 1)))]) d_Ru_composition_32 k_Pt_constraintFactor rfl rfl tw_427 tw_428 tw_429 rfl (Nat.le_of_ble_eq_true rfl) rfl (Nat.le_of_ble_eq_true rfl) rfl rfl (c_Pt_constraintFactor l g _ L M (hT) i (by first | with_reducible assumption | with_reducible exact ep_lt _ | with_reducible exact sp_its_lt _ _ _ | with_reducible exact tb_l_rt _ | with_reducible exact tb_l_x _ | with_reducible exact tb_l_o0 _ | with_reducible exact tb_l_o1 _ | with_reducible exact tb_l_va _ | with_reducible exact tb_l_ll _ | with_reducible exact tb_l_cf _ | with_reducible exact tb_l_kf _ | with_reducible exact sp_ts_lt _ _ _ _ | with_reducible exact sp_w_lt _ _ | with_reducible exact sp_cs_lt _ _ _ _ _ | with_reducible exact sp_cb_lt _ _ _ _ _ | with_reducible exact sp_ch_lt _ | with_reducible exact sp_bf_lt _ _ | omega)) rfl ?_
  refine en_callS (As := [.int (nI (sp_ts ρ 1 le (r_cn ρ 1))), .int (nI (tb_cf i))]) (st := []) (st1 := [.int (nI ((sp_ts ρ 1 le (r_cn ρ 1)) * (tb_cf i) % 12289))]) d_Ru_composition_35 k_Fi_times tw_332 tw_30 rfl (Nat.le_of_ble_eq_true rfl) rfl (Nat.le_of_ble_eq_true rfl) rfl rfl (c_Fi_times l g _ (ew_SH L) M (sp_ts ρ 1 le (r_cn ρ 1)) (tb_cf i) (by first | with_reducible assumption | with_reducible exact ep_lt _ | with_reducible exact sp_its_lt _ _ _ | with_reducible exact tb_l_rt _ | with_reducible exact tb_l_x _ | with_reducible exact tb_l_o0 _ | with_reducible exact tb_l_o1 _ | with_reducible exact tb_l_va _ | with_reducible exact tb_l_ll _ | with_reducible exact tb_l_cf _ | with_reducible exact tb_l_kf _ | with_reducible exact sp_ts_lt _ _ _ _ | with_reducible exact sp_w_lt _ _ | with_reducible exact sp_cs_lt _ _ _ _ _ | with_reducible exact sp_cb_lt _ _ _ _ _ | with_reducible exact sp_ch_lt _ | with_reducible exact sp_bf_lt _ _ | omega) (by first | with_reducible assumption | with_reducible exact ep_lt _ | with_reducible exact sp_its_lt _ _ _ | with_reducible exact tb_l_rt _ | with_reducible exact tb_l_x _ | with_reducible exact tb_l_o0 _ | with_reducible exact tb_l_o1 _ | with_reducible exact tb_l_va _ | with_reducible exact tb_l_ll _ | with_reducible exact tb_l_cf _ | with_reducible exact tb_l_kf _ | with_reducible exact sp_ts_lt _ _ _ _ | with_reducible exact sp_w_lt _ _ | with_reducible exact sp_cs_lt _ _ _ _ _ | with_reducible exact sp_cb_lt _ _ _ _ _ | with_reducible exact sp_ch_lt _ | with_reducible exact sp_bf_lt _ _ | omega)) rfl ?_
  refine en_istore (ls' := [.ref 10, .int (nI i), .int (nI A), .int (nI ((0 + (1 * ((sp_ts ρ 0 le (r_cn ρ 0)) * (tb_cf i) % 12289) % 12289)) % 12289)), .int (nI (1 * A % 12289)), .int (nI 2), .int (nI 1), .int (nI ((sp_ts ρ 1 le (r_cn ρ 1)) * (tb_cf i) % 12289)), .retAddr 0]) d_Ru_composition_38 (Nat.le_of_ble_eq_true rfl) rfl ?_
  refine ew_iload_n d_Ru_composition_40 rfl ?_
  refine ew_iload d_Ru_composition_41 rfl ?_
  refine ew_iload d_Ru_composition_43 rfl ?_
  refine en_callS (As := [.int (nI (1 * A % 12289)), .int (nI ((sp_ts ρ 1 le (r_cn ρ 1)) * (tb_cf i) % 12289))]) (st := [.int (nI ((0 + (1 * ((sp_ts ρ 0 le (r_cn ρ 0)) * (tb_cf i) % 12289) % 12289)) % 12289))]) (st1 := [.int (nI ((1 * A % 12289) * ((sp_ts ρ 1 le (r_cn ρ 1)) * (tb_cf i) % 12289) % 12289)), .int (nI ((0 + (1 * ((sp_ts ρ 0 le (r_cn ρ 0)) * (tb_cf i) % 12289) % 12289)) % 12289))]) d_Ru_composition_45 k_Fi_times tw_332 tw_30 rfl (Nat.le_of_ble_eq_true rfl) rfl (Nat.le_of_ble_eq_true rfl) rfl rfl (c_Fi_times l g _ (ew_SH L) M (1 * A % 12289) ((sp_ts ρ 1 le (r_cn ρ 1)) * (tb_cf i) % 12289) (by first | with_reducible exact ep_lt _ | decide) (by first | with_reducible exact ep_lt _ | decide)) rfl ?_
  refine en_callS (As := [.int (nI ((0 + (1 * ((sp_ts ρ 0 le (r_cn ρ 0)) * (tb_cf i) % 12289) % 12289)) % 12289)), .int (nI ((1 * A % 12289) * ((sp_ts ρ 1 le (r_cn ρ 1)) * (tb_cf i) % 12289) % 12289))]) (st := []) (st1 := [.int (nI ((((0 + (1 * ((sp_ts ρ 0 le (r_cn ρ 0)) * (tb_cf i) % 12289) % 12289)) % 12289) + ((1 * A % 12289) * ((sp_ts ρ 1 le (r_cn ρ 1)) * (tb_cf i) % 12289) % 12289)) % 12289))]) d_Ru_composition_48 k_Fi_plus tw_333 tw_309 rfl (Nat.le_of_ble_eq_true rfl) rfl (Nat.le_of_ble_eq_true rfl) rfl rfl (c_Fi_plus l g _ (ew_SH L) M ((0 + (1 * ((sp_ts ρ 0 le (r_cn ρ 0)) * (tb_cf i) % 12289) % 12289)) % 12289) ((1 * A % 12289) * ((sp_ts ρ 1 le (r_cn ρ 1)) * (tb_cf i) % 12289) % 12289) (by first | with_reducible exact ep_lt _ | decide) (by first | with_reducible exact ep_lt _ | decide)) rfl ?_
  refine en_istore_n (ls' := [.ref 10, .int (nI i), .int (nI A), .int (nI ((((0 + (1 * ((sp_ts ρ 0 le (r_cn ρ 0)) * (tb_cf i) % 12289) % 12289)) % 12289) + ((1 * A % 12289) * ((sp_ts ρ 1 le (r_cn ρ 1)) * (tb_cf i) % 12289) % 12289)) % 12289)), .int (nI (1 * A % 12289)), .int (nI 2), .int (nI 1), .int (nI ((sp_ts ρ 1 le (r_cn ρ 1)) * (tb_cf i) % 12289)), .retAddr 0]) d_Ru_composition_51 (Nat.le_of_ble_eq_true rfl) rfl ?_
  refine ew_iload d_Ru_composition_52 rfl ?_
  refine ew_iload_n d_Ru_composition_54 rfl ?_
  refine en_callS (As := [.int (nI (1 * A % 12289)), .int (nI A)]) (st := []) (st1 := [.int (nI ((1 * A % 12289) * A % 12289))]) d_Ru_composition_55 k_Fi_times tw_332 tw_30 rfl (Nat.le_of_ble_eq_true rfl) rfl (Nat.le_of_ble_eq_true rfl) rfl rfl (c_Fi_times l g _ (ew_SH L) M (1 * A % 12289) A (by first | with_reducible assumption | with_reducible exact ep_lt _ | decide) (by first | with_reducible assumption | with_reducible exact ep_lt _ | decide)) rfl ?_
  refine en_istore (ls' := [.ref 10, .int (nI i), .int (nI A), .int (nI ((((0 + (1 * ((sp_ts ρ 0 le (r_cn ρ 0)) * (tb_cf i) % 12289) % 12289)) % 12289) + ((1 * A % 12289) * ((sp_ts ρ 1 le (r_cn ρ 1)) * (tb_cf i) % 12289) % 12289)) % 12289)), .int (nI ((1 * A % 12289) * A % 12289)), .int (nI 2), .int (nI 1), .int (nI ((sp_ts ρ 1 le (r_cn ρ 1)) * (tb_cf i) % 12289)), .retAddr 0]) d_Ru_composition_58 (Nat.le_of_ble_eq_true rfl) rfl ?_
  refine en_inc (ls' := [.ref 10, .int (nI i), .int (nI A), .int (nI ((((0 + (1 * ((sp_ts ρ 0 le (r_cn ρ 0)) * (tb_cf i) % 12289) % 12289)) % 12289) + ((1 * A % 12289) * ((sp_ts ρ 1 le (r_cn ρ 1)) * (tb_cf i) % 12289) % 12289)) % 12289)), .int (nI ((1 * A % 12289) * A % 12289)), .int (nI 2), .int (nI 2), .int (nI ((sp_ts ρ 1 le (r_cn ρ 1)) * (tb_cf i) % 12289)), .retAddr 0]) d_Ru_composition_60 rfl rfl ?_
  refine ew_goto (tgt := 14) d_Ru_composition_63 (by decide) ?_
  refine ew_iload d_Ru_composition_14 rfl ?_
  refine ew_iload d_Ru_composition_16 rfl ?_
  refine en_icmp_ge (tgt := 66) d_Ru_composition_18 (by decide) (by decide) (by decide) (fun h18 => ?_) (fun h18 => by exact absurd h18 (by decide))
  refine ew_iconst (v := nI 0) d_Ru_composition_66 (by decide) ?_
  refine en_istore (ls' := [.ref 10, .int (nI i), .int (nI A), .int (nI ((((0 + (1 * ((sp_ts ρ 0 le (r_cn ρ 0)) * (tb_cf i) % 12289) % 12289)) % 12289) + ((1 * A % 12289) * ((sp_ts ρ 1 le (r_cn ρ 1)) * (tb_cf i) % 12289) % 12289)) % 12289)), .int (nI ((1 * A % 12289) * A % 12289)), .int (nI 2), .int (nI 0), .int (nI ((sp_ts ρ 1 le (r_cn ρ 1)) * (tb_cf i) % 12289)), .retAddr 0]) d_Ru_composition_67 (Nat.le_of_ble_eq_true rfl) rfl ?_
  refine en_drop (ls' := [.ref 10, .int (nI i), .int (nI A), .int (nI ((((0 + (1 * ((sp_ts ρ 0 le (r_cn ρ 0)) * (tb_cf i) % 12289) % 12289)) % 12289) + ((1 * A % 12289) * ((sp_ts ρ 1 le (r_cn ρ 1)) * (tb_cf i) % 12289) % 12289)) % 12289)), .int (nI ((1 * A % 12289) * A % 12289)), .retAddr 0, .int (nI 0), .retAddr 0, .retAddr 0]) ⟨Or.inl rfl, Or.inl rfl, Or.inl rfl, Or.inl rfl, Or.inl rfl, Or.inr rfl, Or.inl rfl, Or.inr rfl, Or.inl rfl, trivial⟩ ?_
  refine en_eq (ls' := [.ref 10, .int (nI i), .int (nI A), .int (nI (sp_cb ρ le i A 0)), .int (nI (sp_w A (sp_cc ρ + 0))), .retAddr 0, .int (nI 0), .retAddr 0, .retAddr 0]) (by rw [show sp_cb ρ le i A 0 = (((0 + (1 * ((sp_ts ρ 0 le (r_cn ρ 0)) * (tb_cf i) % 12289) % 12289)) % 12289) + ((1 * A % 12289) * ((sp_ts ρ 1 le (r_cn ρ 1)) * (tb_cf i) % 12289) % 12289)) % 12289 from by (show sp_cs ρ le i A (sp_cc ρ) = _; rw [hk]; rfl), show sp_w A (sp_cc ρ + 0) = (1 * A % 12289) * A % 12289 from by (rw [hk]; rfl)]) rfl rfl ?_
  exact lp_Ru_composition l g d L M ρ hr le hl hT i A hi hA (r_bn ρ + 1) 0 (by omega) (by omega)
theorem c_Ru_composition (l : Launch) (g : ew_G) (d L : Nat) (M : ew_M) (ρ : sp_R) (hr : sp_ru ρ M) (le : Nat → Nat) (hl : sp_hle le (M 16)) (hT : sp_tab M) (i A : Nat) (hi : i < 32) (hA : A < 12289) : Ew l g (d + 2) 0 0 m_Ru_composition 0 [.ref 10, .int (nI i), .int (nI A), .retAddr 0, .retAddr 0, .retAddr 0, .retAddr 0, .retAddr 0, .retAddr 0] [] (ew_SH L) M (ew_q (some (.int (nI (sp_com ρ le i A)))) (ew_SH L) M) := by
  have h := sp_cc_le ρ
  rcases (show sp_cc ρ = 0 ∨ sp_cc ρ = 1 ∨ sp_cc ρ = 2 by omega) with hk | hk | hk
  · exact c_Ru_composition_0 l g d L M ρ hr le hl hT i A hi hA hk
  · exact c_Ru_composition_1 l g d L M ρ hr le hl hT i A hi hA hk
  · exact c_Ru_composition_2 l g d L M ρ hr le hl hT i A hi hA hk
theorem sp_com_lt (ρ : sp_R) (le : Nat → Nat) (i A : Nat) : sp_com ρ le i A < 12289 := sp_cb_lt _ _ _ _ _
set_option maxRecDepth 100000 in
theorem c_Tk_tell_24 (l : Launch) (g : ew_G) (d L : Nat) (M : ew_M) (x : Int32) :
    Ew l g (d + 2) 0 0 m_Tk_tell 0 [.ref 24, .int x] [] (ew_SH L) M (ew_q (none) (ew_SH L) (ew_w M 24 0 (sp_mix (M 24 0) x))) := by
  refine ew_aload_n d_Tk_tell_0 rfl ?_
  refine ew_aload_n d_Tk_tell_1 rfl ?_
  refine ew_geti (ci := 7) (f := 0) d_Tk_tell_2 rfl rfl rfl tw_127 ?_
  refine ew_iload_n d_Tk_tell_5 rfl ?_
  refine en_callSN (As := [.int (M 24 0), .int x]) (st := [.ref 24]) (st1 := [.int (sp_mix (M 24 0) x), .ref 24]) d_Tk_tell_6 k_P_mix tw_401 tw_376 rfl (Nat.le_of_ble_eq_true rfl) rfl (Nat.le_of_ble_eq_true rfl) rfl rfl (c_P_mix l g _ (ew_SH L) M (M 24 0) x) rfl ?_
  refine ew_puti (ci := 7) (f := 0) (ty := .int) d_Tk_tell_9 rfl (by decide) rfl rfl rfl (by decide +kernel) rfl rfl tw_127 ?_
  exact ew_ret d_Tk_tell_12 rfl (⟨rfl, rfl, rfl⟩)
set_option maxRecDepth 100000 in
theorem c_Tk_draw_ch_24 (l : Launch) (g : ew_G) (d L : Nat) (M : ew_M)  :
    Ew l g (d + 3) 0 0 m_Tk_draw 0 [.ref 24, .int (-7), .int (nI 12289)] [] (ew_SH L) M (ew_q (some (.int (nI (sp_ch (sp_mix (M 24 0) (-7)))))) (ew_SH L) (ew_w M 24 0 (sp_mix (M 24 0) (-7)))) := by
  refine ew_aload_n d_Tk_draw_0 rfl ?_
  refine ew_iload_n d_Tk_draw_1 rfl ?_
  refine en_callV (As := [.int (-7)]) (i := 24) (ci := 7) (st := []) (st1 := []) d_Tk_draw_2 k_Tk_tell rfl rfl tw_405 tw_398 tw_399 rfl (Nat.le_of_ble_eq_true rfl) rfl (Nat.le_of_ble_eq_true rfl) rfl rfl (c_Tk_tell_24 l g _ L M (-7)) rfl ?_
  refine ew_aload_n d_Tk_draw_5 rfl ?_
  refine ew_geti (ci := 7) (f := 0) d_Tk_draw_6 rfl rfl rfl tw_127 ?_
  refine en_eq (st' := [.int (sp_mix (M 24 0) (-7))]) rfl (by rw [show ((ew_w M 24 0 (sp_mix (M 24 0) (-7))) 24 0) = (sp_mix (M 24 0) (-7)) from ew_w_at]) rfl ?_
  refine ew_ldc (v := 2147483647) d_Tk_draw_9 tw_414 ?_
  refine en_eq rfl (show _ = [.int (nI 2147483647), .int (sp_mix (M 24 0) (-7))] from rfl) rfl ?_
  refine ew_iand d_Tk_draw_11 ?_
  refine ew_iload_n d_Tk_draw_12 rfl ?_
  refine ew_irem d_Tk_draw_13 (by decide) ?_
  exact ew_iret d_Tk_draw_14 rfl (⟨by rw [sp_dr _ (by decide) (by decide)]; rfl, rfl, rfl⟩)
set_option maxRecDepth 100000 in
theorem c_Tk_draw_po_24 (l : Launch) (g : ew_G) (d L : Nat) (M : ew_M)  :
    Ew l g (d + 3) 0 0 m_Tk_draw 0 [.ref 24, .int (-9), .int (nI 16)] [] (ew_SH L) M (ew_q (some (.int (nI (sp_po (sp_mix (M 24 0) (-9)))))) (ew_SH L) (ew_w M 24 0 (sp_mix (M 24 0) (-9)))) := by
  refine ew_aload_n d_Tk_draw_0 rfl ?_
  refine ew_iload_n d_Tk_draw_1 rfl ?_
  refine en_callV (As := [.int (-9)]) (i := 24) (ci := 7) (st := []) (st1 := []) d_Tk_draw_2 k_Tk_tell rfl rfl tw_405 tw_398 tw_399 rfl (Nat.le_of_ble_eq_true rfl) rfl (Nat.le_of_ble_eq_true rfl) rfl rfl (c_Tk_tell_24 l g _ L M (-9)) rfl ?_
  refine ew_aload_n d_Tk_draw_5 rfl ?_
  refine ew_geti (ci := 7) (f := 0) d_Tk_draw_6 rfl rfl rfl tw_127 ?_
  refine en_eq (st' := [.int (sp_mix (M 24 0) (-9))]) rfl (by rw [show ((ew_w M 24 0 (sp_mix (M 24 0) (-9))) 24 0) = (sp_mix (M 24 0) (-9)) from ew_w_at]) rfl ?_
  refine ew_ldc (v := 2147483647) d_Tk_draw_9 tw_414 ?_
  refine en_eq rfl (show _ = [.int (nI 2147483647), .int (sp_mix (M 24 0) (-9))] from rfl) rfl ?_
  refine ew_iand d_Tk_draw_11 ?_
  refine ew_iload_n d_Tk_draw_12 rfl ?_
  refine ew_irem d_Tk_draw_13 (by decide) ?_
  exact ew_iret d_Tk_draw_14 rfl (⟨by rw [sp_dr _ (by decide) (by decide)]; rfl, rfl, rfl⟩)
set_option maxRecDepth 100000 in
theorem c_Tk_challenge_24 (l : Launch) (g : ew_G) (d L : Nat) (M : ew_M)  :
    Ew l g (d + 4) 0 0 m_Tk_challenge 0 [.ref 24] [] (ew_SH L) M (ew_q (some (.int (nI (sp_ch (sp_mix (M 24 0) (-7)))))) (ew_SH L) (ew_w M 24 0 (sp_mix (M 24 0) (-7)))) := by
  refine ew_aload_n d_Tk_challenge_0 rfl ?_
  refine ew_bipush (v := -7) d_Tk_challenge_1 (by decide) ?_
  refine ew_sipush (v := nI 12289) d_Tk_challenge_3 (by decide) ?_
  refine en_callV (As := [.int (-7), .int (nI 12289)]) (i := 24) (ci := 7) (st := []) (st1 := [.int (nI (sp_ch (sp_mix (M 24 0) (-7))))]) d_Tk_challenge_6 k_Tk_draw rfl rfl tw_410 tw_412 tp_10 rfl (Nat.le_of_ble_eq_true rfl) rfl (Nat.le_of_ble_eq_true rfl) rfl rfl (c_Tk_draw_ch_24 l g _ L M) rfl ?_
  exact ew_iret d_Tk_challenge_9 rfl (⟨rfl, rfl, rfl⟩)
set_option maxRecDepth 100000 in
theorem c_Tk_hearLayer0_24 (l : Launch) (g : ew_G) (d L : Nat) (M : ew_M) (x : Int32) :
    Ew l g (d + 5) 0 0 m_Tk_hearLayer 0 [.ref 24, .int (nI 0), .int x] [] (ew_SH L) M (ew_q (none) (ew_SH L) (ew_w (ew_w M 24 0 (sp_mix (sp_mix (M 24 0) x) (-7))) 25 0 (nI (sp_ch (sp_mix (sp_mix (M 24 0) x) (-7)))))) := by
  refine ew_aload_n d_Tk_hearLayer_0 rfl ?_
  refine ew_iload_n d_Tk_hearLayer_1 rfl ?_
  refine en_callV (As := [.int x]) (i := 24) (ci := 7) (st := []) (st1 := []) d_Tk_hearLayer_2 k_Tk_tell rfl rfl tw_405 tw_398 tw_399 rfl (Nat.le_of_ble_eq_true rfl) rfl (Nat.le_of_ble_eq_true rfl) rfl rfl (c_Tk_tell_24 l g _ L M x) rfl ?_
  refine ew_aload_n d_Tk_hearLayer_5 rfl ?_
  refine ew_getr (ci := 7) (f := 2) d_Tk_hearLayer_6 rfl rfl rfl tw_131 ?_
  refine ew_iload_n d_Tk_hearLayer_9 rfl ?_
  refine ew_aload_n d_Tk_hearLayer_10 rfl ?_
  refine en_callV (As := []) (i := 24) (ci := 7) (st := [.int (nI 0), .ref 25]) (st1 := [.int (nI (sp_ch (sp_mix ((ew_w M 24 0 (sp_mix (M 24 0) x)) 24 0) (-7)))), .int (nI 0), .ref 25]) d_Tk_hearLayer_11 k_Tk_challenge rfl rfl tw_406 tw_408 tp_9 rfl (Nat.le_of_ble_eq_true rfl) rfl (Nat.le_of_ble_eq_true rfl) rfl rfl (c_Tk_challenge_24 l g _ L (ew_w M 24 0 (sp_mix (M 24 0) x))) rfl ?_
  refine en_eq (st' := [.int (nI (sp_ch (sp_mix (sp_mix (M 24 0) x) (-7)))), .int (nI 0), .ref 25]) rfl (by rw [show (nI (sp_ch (sp_mix ((ew_w M 24 0 (sp_mix (M 24 0) x)) 24 0) (-7)))) = (nI (sp_ch (sp_mix (sp_mix (M 24 0) x) (-7)))) from by rw [ew_w_at]]) rfl ?_
  refine en_eq (M' := ew_w M 24 0 (sp_mix (sp_mix (M 24 0) x) (-7))) rfl rfl (by rw [ew_ww, ew_w_at]) ?_
  refine ew_iast (j := 0) d_Tk_hearLayer_14 rfl (by decide) (rfl) (by decide) (by decide) ?_
  exact ew_ret d_Tk_hearLayer_15 rfl (⟨rfl, rfl, rfl⟩)
set_option maxRecDepth 100000 in
theorem c_Tk_hearLayer1_24 (l : Launch) (g : ew_G) (d L : Nat) (M : ew_M) (x : Int32) :
    Ew l g (d + 5) 0 0 m_Tk_hearLayer 0 [.ref 24, .int (nI 1), .int x] [] (ew_SH L) M (ew_q (none) (ew_SH L) (ew_w (ew_w M 24 0 (sp_mix (sp_mix (M 24 0) x) (-7))) 25 1 (nI (sp_ch (sp_mix (sp_mix (M 24 0) x) (-7)))))) := by
  refine ew_aload_n d_Tk_hearLayer_0 rfl ?_
  refine ew_iload_n d_Tk_hearLayer_1 rfl ?_
  refine en_callV (As := [.int x]) (i := 24) (ci := 7) (st := []) (st1 := []) d_Tk_hearLayer_2 k_Tk_tell rfl rfl tw_405 tw_398 tw_399 rfl (Nat.le_of_ble_eq_true rfl) rfl (Nat.le_of_ble_eq_true rfl) rfl rfl (c_Tk_tell_24 l g _ L M x) rfl ?_
  refine ew_aload_n d_Tk_hearLayer_5 rfl ?_
  refine ew_getr (ci := 7) (f := 2) d_Tk_hearLayer_6 rfl rfl rfl tw_131 ?_
  refine ew_iload_n d_Tk_hearLayer_9 rfl ?_
  refine ew_aload_n d_Tk_hearLayer_10 rfl ?_
  refine en_callV (As := []) (i := 24) (ci := 7) (st := [.int (nI 1), .ref 25]) (st1 := [.int (nI (sp_ch (sp_mix ((ew_w M 24 0 (sp_mix (M 24 0) x)) 24 0) (-7)))), .int (nI 1), .ref 25]) d_Tk_hearLayer_11 k_Tk_challenge rfl rfl tw_406 tw_408 tp_9 rfl (Nat.le_of_ble_eq_true rfl) rfl (Nat.le_of_ble_eq_true rfl) rfl rfl (c_Tk_challenge_24 l g _ L (ew_w M 24 0 (sp_mix (M 24 0) x))) rfl ?_
  refine en_eq (st' := [.int (nI (sp_ch (sp_mix (sp_mix (M 24 0) x) (-7)))), .int (nI 1), .ref 25]) rfl (by rw [show (nI (sp_ch (sp_mix ((ew_w M 24 0 (sp_mix (M 24 0) x)) 24 0) (-7)))) = (nI (sp_ch (sp_mix (sp_mix (M 24 0) x) (-7)))) from by rw [ew_w_at]]) rfl ?_
  refine en_eq (M' := ew_w M 24 0 (sp_mix (sp_mix (M 24 0) x) (-7))) rfl rfl (by rw [ew_ww, ew_w_at]) ?_
  refine ew_iast (j := 1) d_Tk_hearLayer_14 rfl (by decide) (rfl) (by decide) (by decide) ?_
  exact ew_ret d_Tk_hearLayer_15 rfl (⟨rfl, rfl, rfl⟩)
set_option maxRecDepth 100000 in
theorem c_Tk_hearLayer2_24 (l : Launch) (g : ew_G) (d L : Nat) (M : ew_M) (x : Int32) :
    Ew l g (d + 5) 0 0 m_Tk_hearLayer 0 [.ref 24, .int (nI 2), .int x] [] (ew_SH L) M (ew_q (none) (ew_SH L) (ew_w (ew_w M 24 0 (sp_mix (sp_mix (M 24 0) x) (-7))) 25 2 (nI (sp_ch (sp_mix (sp_mix (M 24 0) x) (-7)))))) := by
  refine ew_aload_n d_Tk_hearLayer_0 rfl ?_
  refine ew_iload_n d_Tk_hearLayer_1 rfl ?_
  refine en_callV (As := [.int x]) (i := 24) (ci := 7) (st := []) (st1 := []) d_Tk_hearLayer_2 k_Tk_tell rfl rfl tw_405 tw_398 tw_399 rfl (Nat.le_of_ble_eq_true rfl) rfl (Nat.le_of_ble_eq_true rfl) rfl rfl (c_Tk_tell_24 l g _ L M x) rfl ?_
  refine ew_aload_n d_Tk_hearLayer_5 rfl ?_
  refine ew_getr (ci := 7) (f := 2) d_Tk_hearLayer_6 rfl rfl rfl tw_131 ?_
  refine ew_iload_n d_Tk_hearLayer_9 rfl ?_
  refine ew_aload_n d_Tk_hearLayer_10 rfl ?_
  refine en_callV (As := []) (i := 24) (ci := 7) (st := [.int (nI 2), .ref 25]) (st1 := [.int (nI (sp_ch (sp_mix ((ew_w M 24 0 (sp_mix (M 24 0) x)) 24 0) (-7)))), .int (nI 2), .ref 25]) d_Tk_hearLayer_11 k_Tk_challenge rfl rfl tw_406 tw_408 tp_9 rfl (Nat.le_of_ble_eq_true rfl) rfl (Nat.le_of_ble_eq_true rfl) rfl rfl (c_Tk_challenge_24 l g _ L (ew_w M 24 0 (sp_mix (M 24 0) x))) rfl ?_
  refine en_eq (st' := [.int (nI (sp_ch (sp_mix (sp_mix (M 24 0) x) (-7)))), .int (nI 2), .ref 25]) rfl (by rw [show (nI (sp_ch (sp_mix ((ew_w M 24 0 (sp_mix (M 24 0) x)) 24 0) (-7)))) = (nI (sp_ch (sp_mix (sp_mix (M 24 0) x) (-7)))) from by rw [ew_w_at]]) rfl ?_
  refine en_eq (M' := ew_w M 24 0 (sp_mix (sp_mix (M 24 0) x) (-7))) rfl rfl (by rw [ew_ww, ew_w_at]) ?_
  refine ew_iast (j := 2) d_Tk_hearLayer_14 rfl (by decide) (rfl) (by decide) (by decide) ?_
  exact ew_ret d_Tk_hearLayer_15 rfl (⟨rfl, rfl, rfl⟩)
def sp_ps (t : Int32) : Nat → Int32
  | 0 => t
  | k + 1 => sp_mix (sp_ps t k) (-9)
theorem ew_wc {M : ew_M} {i j q r : Nat} {x y : Int32} (h : i ≠ q) : ew_w (ew_w M i j x) q r y = ew_w (ew_w M q r y) i j x := by
  funext a b
  unfold ew_w ew_up
  by_cases h1 : a = q
  · subst h1
    simp [Ne.symm h]
  · by_cases h2 : a = i
    · subst h2
      simp [h]
    · simp [h1, h2]
theorem sp_e0_24 (M : ew_M) (x : Int32) : (ew_w M 24 0 (sp_ps (sp_mix (M 24 0) x) 0)) 24 0 = sp_ps (sp_mix (M 24 0) x) 0 := by
  rw [ew_w_at]
theorem sp_f0_24 (M : ew_M) (x : Int32) : ew_w (ew_w M 24 0 (sp_ps (sp_mix (M 24 0) x) 0)) 24 0 (sp_mix (sp_ps (sp_mix (M 24 0) x) 0) (-9)) = ew_w M 24 0 (sp_ps (sp_mix (M 24 0) x) 1) := by
  show ew_w (ew_w M 24 0 (sp_ps (sp_mix (M 24 0) x) 0)) 24 0 (sp_ps (sp_mix (M 24 0) x) 1) = _
  rw [ew_ww]
theorem sp_e1_24 (M : ew_M) (x : Int32) : (ew_w (ew_w M 24 0 (sp_ps (sp_mix (M 24 0) x) 1)) 26 0 (nI (sp_po (sp_ps (sp_mix (M 24 0) x) 1)))) 24 0 = sp_ps (sp_mix (M 24 0) x) 1 := by
  rw [ew_w_ne (by decide), ew_w_at]
theorem sp_f1_24 (M : ew_M) (x : Int32) : ew_w (ew_w (ew_w M 24 0 (sp_ps (sp_mix (M 24 0) x) 1)) 26 0 (nI (sp_po (sp_ps (sp_mix (M 24 0) x) 1)))) 24 0 (sp_mix (sp_ps (sp_mix (M 24 0) x) 1) (-9)) = ew_w (ew_w M 24 0 (sp_ps (sp_mix (M 24 0) x) 2)) 26 0 (nI (sp_po (sp_ps (sp_mix (M 24 0) x) 1))) := by
  show ew_w (ew_w (ew_w M 24 0 (sp_ps (sp_mix (M 24 0) x) 1)) 26 0 (nI (sp_po (sp_ps (sp_mix (M 24 0) x) 1)))) 24 0 (sp_ps (sp_mix (M 24 0) x) 2) = _
  rw [ew_wc (i := 26) (q := 24) (by decide), ew_ww]
theorem sp_e2_24 (M : ew_M) (x : Int32) : (ew_w (ew_w (ew_w M 24 0 (sp_ps (sp_mix (M 24 0) x) 2)) 26 0 (nI (sp_po (sp_ps (sp_mix (M 24 0) x) 1)))) 26 1 (nI (sp_po (sp_ps (sp_mix (M 24 0) x) 2)))) 24 0 = sp_ps (sp_mix (M 24 0) x) 2 := by
  rw [ew_w_ne (by decide), ew_w_ne (by decide), ew_w_at]
theorem sp_f2_24 (M : ew_M) (x : Int32) : ew_w (ew_w (ew_w (ew_w M 24 0 (sp_ps (sp_mix (M 24 0) x) 2)) 26 0 (nI (sp_po (sp_ps (sp_mix (M 24 0) x) 1)))) 26 1 (nI (sp_po (sp_ps (sp_mix (M 24 0) x) 2)))) 24 0 (sp_mix (sp_ps (sp_mix (M 24 0) x) 2) (-9)) = ew_w (ew_w (ew_w M 24 0 (sp_ps (sp_mix (M 24 0) x) 3)) 26 0 (nI (sp_po (sp_ps (sp_mix (M 24 0) x) 1)))) 26 1 (nI (sp_po (sp_ps (sp_mix (M 24 0) x) 2))) := by
  show ew_w (ew_w (ew_w (ew_w M 24 0 (sp_ps (sp_mix (M 24 0) x) 2)) 26 0 (nI (sp_po (sp_ps (sp_mix (M 24 0) x) 1)))) 26 1 (nI (sp_po (sp_ps (sp_mix (M 24 0) x) 2)))) 24 0 (sp_ps (sp_mix (M 24 0) x) 3) = _
  rw [ew_wc (i := 26) (q := 24) (by decide), ew_wc (i := 26) (q := 24) (by decide), ew_ww]
set_option maxRecDepth 100000 in
theorem c_Tk_end_24 (l : Launch) (g : ew_G) (d L : Nat) (M : ew_M) (x : Int32) :
    Ew l g (d + 4) 0 0 m_Tk_end 0 [.ref 24, .int x, .retAddr 0] [] (ew_SH L) M (ew_q (none) (ew_SH L) (ew_w (ew_w (ew_w (ew_w M 24 0 (sp_ps (sp_mix (M 24 0) x) 3)) 26 0 (nI (sp_po (sp_ps (sp_mix (M 24 0) x) 1)))) 26 1 (nI (sp_po (sp_ps (sp_mix (M 24 0) x) 2)))) 26 2 (nI (sp_po (sp_ps (sp_mix (M 24 0) x) 3))))) := by
  refine ew_aload_n d_Tk_end_0 rfl ?_
  refine ew_iload_n d_Tk_end_1 rfl ?_
  refine en_callV (As := [.int x]) (i := 24) (ci := 7) (st := []) (st1 := []) d_Tk_end_2 k_Tk_tell rfl rfl tw_405 tw_398 tw_399 rfl (Nat.le_of_ble_eq_true rfl) rfl (Nat.le_of_ble_eq_true rfl) rfl rfl (c_Tk_tell_24 l g _ L M x) rfl ?_
  refine en_eq (M' := ew_w M 24 0 (sp_ps (sp_mix (M 24 0) x) 0)) rfl rfl (rfl) ?_
  refine ew_iconst (v := nI 0) d_Tk_end_5 (by decide) ?_
  refine en_istore_n (ls' := [.ref 24, .int x, .int (nI 0)]) d_Tk_end_6 (Nat.le_of_ble_eq_true rfl) rfl ?_
  refine ew_iload_n d_Tk_end_7 rfl ?_
  refine ew_iconst (v := nI 3) d_Tk_end_8 (by decide) ?_
  refine en_icmp_ge (tgt := 32) d_Tk_end_9 (by decide) (by first | with_reducible assumption | with_reducible exact ep_lt _ | with_reducible exact sp_its_lt _ _ _ | with_reducible exact tb_l_rt _ | with_reducible exact tb_l_x _ | with_reducible exact tb_l_o0 _ | with_reducible exact tb_l_o1 _ | with_reducible exact tb_l_va _ | with_reducible exact tb_l_ll _ | with_reducible exact tb_l_cf _ | with_reducible exact tb_l_kf _ | with_reducible exact sp_ts_lt _ _ _ _ | with_reducible exact sp_w_lt _ _ | with_reducible exact sp_cs_lt _ _ _ _ _ | with_reducible exact sp_cb_lt _ _ _ _ _ | with_reducible exact sp_ch_lt _ | with_reducible exact sp_bf_lt _ _ | omega) (by first | with_reducible assumption | with_reducible exact ep_lt _ | with_reducible exact sp_its_lt _ _ _ | with_reducible exact tb_l_rt _ | with_reducible exact tb_l_x _ | with_reducible exact tb_l_o0 _ | with_reducible exact tb_l_o1 _ | with_reducible exact tb_l_va _ | with_reducible exact tb_l_ll _ | with_reducible exact tb_l_cf _ | with_reducible exact tb_l_kf _ | with_reducible exact sp_ts_lt _ _ _ _ | with_reducible exact sp_w_lt _ _ | with_reducible exact sp_cs_lt _ _ _ _ _ | with_reducible exact sp_cb_lt _ _ _ _ _ | with_reducible exact sp_ch_lt _ | with_reducible exact sp_bf_lt _ _ | omega) (fun h9 => by exact absurd h9 (by decide)) (fun h9 => ?_)
  refine ew_aload_n d_Tk_end_12 rfl ?_
  refine ew_getr (ci := 7) (f := 3) d_Tk_end_13 rfl rfl rfl tw_134 ?_
  refine ew_iload_n d_Tk_end_16 rfl ?_
  refine ew_aload_n d_Tk_end_17 rfl ?_
  refine ew_bipush (v := -9) d_Tk_end_18 (by decide) ?_
  refine ew_bipush (v := nI 16) d_Tk_end_20 (by decide) ?_
  refine en_callV (As := [.int (-9), .int (nI 16)]) (i := 24) (ci := 7) (st := [.int (nI 0), .ref 26]) (st1 := [.int (nI (sp_po (sp_mix ((ew_w M 24 0 (sp_ps (sp_mix (M 24 0) x) 0)) 24 0) (-9)))), .int (nI 0), .ref 26]) d_Tk_end_22 k_Tk_draw rfl rfl tw_410 tw_412 tp_10 rfl (Nat.le_of_ble_eq_true rfl) rfl (Nat.le_of_ble_eq_true rfl) rfl rfl (c_Tk_draw_po_24 l g _ L (ew_w M 24 0 (sp_ps (sp_mix (M 24 0) x) 0))) rfl ?_
  refine en_eq (st' := [.int (nI (sp_po (sp_ps (sp_mix (M 24 0) x) 1))), .int (nI 0), .ref 26]) rfl (by rw [show (nI (sp_po (sp_mix ((ew_w M 24 0 (sp_ps (sp_mix (M 24 0) x) 0)) 24 0) (-9)))) = (nI (sp_po (sp_ps (sp_mix (M 24 0) x) 1))) from by rw [sp_e0_24]; rfl]) rfl ?_
  refine en_eq (M' := ew_w M 24 0 (sp_ps (sp_mix (M 24 0) x) 1)) rfl rfl (by rw [sp_e0_24, sp_f0_24]) ?_
  refine ew_iast (j := 0) d_Tk_end_25 rfl (by decide) (rfl) (by decide) (by decide) ?_
  refine en_eq (M' := ew_w (ew_w M 24 0 (sp_ps (sp_mix (M 24 0) x) 1)) 26 0 (nI (sp_po (sp_ps (sp_mix (M 24 0) x) 1)))) rfl rfl (rfl) ?_
  refine en_inc (ls' := [.ref 24, .int x, .int (nI 1)]) d_Tk_end_26 rfl rfl ?_
  refine ew_goto (tgt := 7) d_Tk_end_29 (by decide) ?_
  refine ew_iload_n d_Tk_end_7 rfl ?_
  refine ew_iconst (v := nI 3) d_Tk_end_8 (by decide) ?_
  refine en_icmp_ge (tgt := 32) d_Tk_end_9 (by decide) (by first | with_reducible assumption | with_reducible exact ep_lt _ | with_reducible exact sp_its_lt _ _ _ | with_reducible exact tb_l_rt _ | with_reducible exact tb_l_x _ | with_reducible exact tb_l_o0 _ | with_reducible exact tb_l_o1 _ | with_reducible exact tb_l_va _ | with_reducible exact tb_l_ll _ | with_reducible exact tb_l_cf _ | with_reducible exact tb_l_kf _ | with_reducible exact sp_ts_lt _ _ _ _ | with_reducible exact sp_w_lt _ _ | with_reducible exact sp_cs_lt _ _ _ _ _ | with_reducible exact sp_cb_lt _ _ _ _ _ | with_reducible exact sp_ch_lt _ | with_reducible exact sp_bf_lt _ _ | omega) (by first | with_reducible assumption | with_reducible exact ep_lt _ | with_reducible exact sp_its_lt _ _ _ | with_reducible exact tb_l_rt _ | with_reducible exact tb_l_x _ | with_reducible exact tb_l_o0 _ | with_reducible exact tb_l_o1 _ | with_reducible exact tb_l_va _ | with_reducible exact tb_l_ll _ | with_reducible exact tb_l_cf _ | with_reducible exact tb_l_kf _ | with_reducible exact sp_ts_lt _ _ _ _ | with_reducible exact sp_w_lt _ _ | with_reducible exact sp_cs_lt _ _ _ _ _ | with_reducible exact sp_cb_lt _ _ _ _ _ | with_reducible exact sp_ch_lt _ | with_reducible exact sp_bf_lt _ _ | omega) (fun h9 => by exact absurd h9 (by decide)) (fun h9 => ?_)
  refine ew_aload_n d_Tk_end_12 rfl ?_
  refine ew_getr (ci := 7) (f := 3) d_Tk_end_13 rfl rfl rfl tw_134 ?_
  refine ew_iload_n d_Tk_end_16 rfl ?_
  refine ew_aload_n d_Tk_end_17 rfl ?_
  refine ew_bipush (v := -9) d_Tk_end_18 (by decide) ?_
  refine ew_bipush (v := nI 16) d_Tk_end_20 (by decide) ?_
  refine en_callV (As := [.int (-9), .int (nI 16)]) (i := 24) (ci := 7) (st := [.int (nI 1), .ref 26]) (st1 := [.int (nI (sp_po (sp_mix ((ew_w (ew_w M 24 0 (sp_ps (sp_mix (M 24 0) x) 1)) 26 0 (nI (sp_po (sp_ps (sp_mix (M 24 0) x) 1)))) 24 0) (-9)))), .int (nI 1), .ref 26]) d_Tk_end_22 k_Tk_draw rfl rfl tw_410 tw_412 tp_10 rfl (Nat.le_of_ble_eq_true rfl) rfl (Nat.le_of_ble_eq_true rfl) rfl rfl (c_Tk_draw_po_24 l g _ L (ew_w (ew_w M 24 0 (sp_ps (sp_mix (M 24 0) x) 1)) 26 0 (nI (sp_po (sp_ps (sp_mix (M 24 0) x) 1))))) rfl ?_
  refine en_eq (st' := [.int (nI (sp_po (sp_ps (sp_mix (M 24 0) x) 2))), .int (nI 1), .ref 26]) rfl (by rw [show (nI (sp_po (sp_mix ((ew_w (ew_w M 24 0 (sp_ps (sp_mix (M 24 0) x) 1)) 26 0 (nI (sp_po (sp_ps (sp_mix (M 24 0) x) 1)))) 24 0) (-9)))) = (nI (sp_po (sp_ps (sp_mix (M 24 0) x) 2))) from by rw [sp_e1_24]; rfl]) rfl ?_
  refine en_eq (M' := ew_w (ew_w M 24 0 (sp_ps (sp_mix (M 24 0) x) 2)) 26 0 (nI (sp_po (sp_ps (sp_mix (M 24 0) x) 1)))) rfl rfl (by rw [sp_e1_24, sp_f1_24]) ?_
  refine ew_iast (j := 1) d_Tk_end_25 rfl (by decide) (rfl) (by decide) (by decide) ?_
  refine en_eq (M' := ew_w (ew_w (ew_w M 24 0 (sp_ps (sp_mix (M 24 0) x) 2)) 26 0 (nI (sp_po (sp_ps (sp_mix (M 24 0) x) 1)))) 26 1 (nI (sp_po (sp_ps (sp_mix (M 24 0) x) 2)))) rfl rfl (rfl) ?_
  refine en_inc (ls' := [.ref 24, .int x, .int (nI 2)]) d_Tk_end_26 rfl rfl ?_
  refine ew_goto (tgt := 7) d_Tk_end_29 (by decide) ?_
  refine ew_iload_n d_Tk_end_7 rfl ?_
  refine ew_iconst (v := nI 3) d_Tk_end_8 (by decide) ?_
  refine en_icmp_ge (tgt := 32) d_Tk_end_9 (by decide) (by first | with_reducible assumption | with_reducible exact ep_lt _ | with_reducible exact sp_its_lt _ _ _ | with_reducible exact tb_l_rt _ | with_reducible exact tb_l_x _ | with_reducible exact tb_l_o0 _ | with_reducible exact tb_l_o1 _ | with_reducible exact tb_l_va _ | with_reducible exact tb_l_ll _ | with_reducible exact tb_l_cf _ | with_reducible exact tb_l_kf _ | with_reducible exact sp_ts_lt _ _ _ _ | with_reducible exact sp_w_lt _ _ | with_reducible exact sp_cs_lt _ _ _ _ _ | with_reducible exact sp_cb_lt _ _ _ _ _ | with_reducible exact sp_ch_lt _ | with_reducible exact sp_bf_lt _ _ | omega) (by first | with_reducible assumption | with_reducible exact ep_lt _ | with_reducible exact sp_its_lt _ _ _ | with_reducible exact tb_l_rt _ | with_reducible exact tb_l_x _ | with_reducible exact tb_l_o0 _ | with_reducible exact tb_l_o1 _ | with_reducible exact tb_l_va _ | with_reducible exact tb_l_ll _ | with_reducible exact tb_l_cf _ | with_reducible exact tb_l_kf _ | with_reducible exact sp_ts_lt _ _ _ _ | with_reducible exact sp_w_lt _ _ | with_reducible exact sp_cs_lt _ _ _ _ _ | with_reducible exact sp_cb_lt _ _ _ _ _ | with_reducible exact sp_ch_lt _ | with_reducible exact sp_bf_lt _ _ | omega) (fun h9 => by exact absurd h9 (by decide)) (fun h9 => ?_)
  refine ew_aload_n d_Tk_end_12 rfl ?_
  refine ew_getr (ci := 7) (f := 3) d_Tk_end_13 rfl rfl rfl tw_134 ?_
  refine ew_iload_n d_Tk_end_16 rfl ?_
  refine ew_aload_n d_Tk_end_17 rfl ?_
  refine ew_bipush (v := -9) d_Tk_end_18 (by decide) ?_
  refine ew_bipush (v := nI 16) d_Tk_end_20 (by decide) ?_
  refine en_callV (As := [.int (-9), .int (nI 16)]) (i := 24) (ci := 7) (st := [.int (nI 2), .ref 26]) (st1 := [.int (nI (sp_po (sp_mix ((ew_w (ew_w (ew_w M 24 0 (sp_ps (sp_mix (M 24 0) x) 2)) 26 0 (nI (sp_po (sp_ps (sp_mix (M 24 0) x) 1)))) 26 1 (nI (sp_po (sp_ps (sp_mix (M 24 0) x) 2)))) 24 0) (-9)))), .int (nI 2), .ref 26]) d_Tk_end_22 k_Tk_draw rfl rfl tw_410 tw_412 tp_10 rfl (Nat.le_of_ble_eq_true rfl) rfl (Nat.le_of_ble_eq_true rfl) rfl rfl (c_Tk_draw_po_24 l g _ L (ew_w (ew_w (ew_w M 24 0 (sp_ps (sp_mix (M 24 0) x) 2)) 26 0 (nI (sp_po (sp_ps (sp_mix (M 24 0) x) 1)))) 26 1 (nI (sp_po (sp_ps (sp_mix (M 24 0) x) 2))))) rfl ?_
  refine en_eq (st' := [.int (nI (sp_po (sp_ps (sp_mix (M 24 0) x) 3))), .int (nI 2), .ref 26]) rfl (by rw [show (nI (sp_po (sp_mix ((ew_w (ew_w (ew_w M 24 0 (sp_ps (sp_mix (M 24 0) x) 2)) 26 0 (nI (sp_po (sp_ps (sp_mix (M 24 0) x) 1)))) 26 1 (nI (sp_po (sp_ps (sp_mix (M 24 0) x) 2)))) 24 0) (-9)))) = (nI (sp_po (sp_ps (sp_mix (M 24 0) x) 3))) from by rw [sp_e2_24]; rfl]) rfl ?_
  refine en_eq (M' := ew_w (ew_w (ew_w M 24 0 (sp_ps (sp_mix (M 24 0) x) 3)) 26 0 (nI (sp_po (sp_ps (sp_mix (M 24 0) x) 1)))) 26 1 (nI (sp_po (sp_ps (sp_mix (M 24 0) x) 2)))) rfl rfl (by rw [sp_e2_24, sp_f2_24]) ?_
  refine ew_iast (j := 2) d_Tk_end_25 rfl (by decide) (rfl) (by decide) (by decide) ?_
  refine en_eq (M' := ew_w (ew_w (ew_w (ew_w M 24 0 (sp_ps (sp_mix (M 24 0) x) 3)) 26 0 (nI (sp_po (sp_ps (sp_mix (M 24 0) x) 1)))) 26 1 (nI (sp_po (sp_ps (sp_mix (M 24 0) x) 2)))) 26 2 (nI (sp_po (sp_ps (sp_mix (M 24 0) x) 3)))) rfl rfl (rfl) ?_
  refine en_inc (ls' := [.ref 24, .int x, .int (nI 3)]) d_Tk_end_26 rfl rfl ?_
  refine ew_goto (tgt := 7) d_Tk_end_29 (by decide) ?_
  refine ew_iload_n d_Tk_end_7 rfl ?_
  refine ew_iconst (v := nI 3) d_Tk_end_8 (by decide) ?_
  refine en_icmp_ge (tgt := 32) d_Tk_end_9 (by decide) (by first | with_reducible assumption | with_reducible exact ep_lt _ | with_reducible exact sp_its_lt _ _ _ | with_reducible exact tb_l_rt _ | with_reducible exact tb_l_x _ | with_reducible exact tb_l_o0 _ | with_reducible exact tb_l_o1 _ | with_reducible exact tb_l_va _ | with_reducible exact tb_l_ll _ | with_reducible exact tb_l_cf _ | with_reducible exact tb_l_kf _ | with_reducible exact sp_ts_lt _ _ _ _ | with_reducible exact sp_w_lt _ _ | with_reducible exact sp_cs_lt _ _ _ _ _ | with_reducible exact sp_cb_lt _ _ _ _ _ | with_reducible exact sp_ch_lt _ | with_reducible exact sp_bf_lt _ _ | omega) (by first | with_reducible assumption | with_reducible exact ep_lt _ | with_reducible exact sp_its_lt _ _ _ | with_reducible exact tb_l_rt _ | with_reducible exact tb_l_x _ | with_reducible exact tb_l_o0 _ | with_reducible exact tb_l_o1 _ | with_reducible exact tb_l_va _ | with_reducible exact tb_l_ll _ | with_reducible exact tb_l_cf _ | with_reducible exact tb_l_kf _ | with_reducible exact sp_ts_lt _ _ _ _ | with_reducible exact sp_w_lt _ _ | with_reducible exact sp_cs_lt _ _ _ _ _ | with_reducible exact sp_cb_lt _ _ _ _ _ | with_reducible exact sp_ch_lt _ | with_reducible exact sp_bf_lt _ _ | omega) (fun h9 => ?_) (fun h9 => by exact absurd h9 (by decide))
  exact ew_ret d_Tk_end_32 rfl (⟨rfl, rfl, rfl⟩)
set_option maxRecDepth 100000 in
theorem c_Tk_tell_44 (l : Launch) (g : ew_G) (d L : Nat) (M : ew_M) (x : Int32) :
    Ew l g (d + 2) 0 0 m_Tk_tell 0 [.ref 44, .int x] [] (ew_SH L) M (ew_q (none) (ew_SH L) (ew_w M 44 0 (sp_mix (M 44 0) x))) := by
  refine ew_aload_n d_Tk_tell_0 rfl ?_
  refine ew_aload_n d_Tk_tell_1 rfl ?_
  refine ew_geti (ci := 7) (f := 0) d_Tk_tell_2 rfl rfl rfl tw_127 ?_
  refine ew_iload_n d_Tk_tell_5 rfl ?_
  refine en_callSN (As := [.int (M 44 0), .int x]) (st := [.ref 44]) (st1 := [.int (sp_mix (M 44 0) x), .ref 44]) d_Tk_tell_6 k_P_mix tw_401 tw_376 rfl (Nat.le_of_ble_eq_true rfl) rfl (Nat.le_of_ble_eq_true rfl) rfl rfl (c_P_mix l g _ (ew_SH L) M (M 44 0) x) rfl ?_
  refine ew_puti (ci := 7) (f := 0) (ty := .int) d_Tk_tell_9 rfl (by decide) rfl rfl rfl (by decide +kernel) rfl rfl tw_127 ?_
  exact ew_ret d_Tk_tell_12 rfl (⟨rfl, rfl, rfl⟩)
set_option maxRecDepth 100000 in
theorem c_Tk_draw_ch_44 (l : Launch) (g : ew_G) (d L : Nat) (M : ew_M)  :
    Ew l g (d + 3) 0 0 m_Tk_draw 0 [.ref 44, .int (-7), .int (nI 12289)] [] (ew_SH L) M (ew_q (some (.int (nI (sp_ch (sp_mix (M 44 0) (-7)))))) (ew_SH L) (ew_w M 44 0 (sp_mix (M 44 0) (-7)))) := by
  refine ew_aload_n d_Tk_draw_0 rfl ?_
  refine ew_iload_n d_Tk_draw_1 rfl ?_
  refine en_callV (As := [.int (-7)]) (i := 44) (ci := 7) (st := []) (st1 := []) d_Tk_draw_2 k_Tk_tell rfl rfl tw_405 tw_398 tw_399 rfl (Nat.le_of_ble_eq_true rfl) rfl (Nat.le_of_ble_eq_true rfl) rfl rfl (c_Tk_tell_44 l g _ L M (-7)) rfl ?_
  refine ew_aload_n d_Tk_draw_5 rfl ?_
  refine ew_geti (ci := 7) (f := 0) d_Tk_draw_6 rfl rfl rfl tw_127 ?_
  refine en_eq (st' := [.int (sp_mix (M 44 0) (-7))]) rfl (by rw [show ((ew_w M 44 0 (sp_mix (M 44 0) (-7))) 44 0) = (sp_mix (M 44 0) (-7)) from ew_w_at]) rfl ?_
  refine ew_ldc (v := 2147483647) d_Tk_draw_9 tw_414 ?_
  refine en_eq rfl (show _ = [.int (nI 2147483647), .int (sp_mix (M 44 0) (-7))] from rfl) rfl ?_
  refine ew_iand d_Tk_draw_11 ?_
  refine ew_iload_n d_Tk_draw_12 rfl ?_
  refine ew_irem d_Tk_draw_13 (by decide) ?_
  exact ew_iret d_Tk_draw_14 rfl (⟨by rw [sp_dr _ (by decide) (by decide)]; rfl, rfl, rfl⟩)
set_option maxRecDepth 100000 in
theorem c_Tk_draw_po_44 (l : Launch) (g : ew_G) (d L : Nat) (M : ew_M)  :
    Ew l g (d + 3) 0 0 m_Tk_draw 0 [.ref 44, .int (-9), .int (nI 16)] [] (ew_SH L) M (ew_q (some (.int (nI (sp_po (sp_mix (M 44 0) (-9)))))) (ew_SH L) (ew_w M 44 0 (sp_mix (M 44 0) (-9)))) := by
  refine ew_aload_n d_Tk_draw_0 rfl ?_
  refine ew_iload_n d_Tk_draw_1 rfl ?_
  refine en_callV (As := [.int (-9)]) (i := 44) (ci := 7) (st := []) (st1 := []) d_Tk_draw_2 k_Tk_tell rfl rfl tw_405 tw_398 tw_399 rfl (Nat.le_of_ble_eq_true rfl) rfl (Nat.le_of_ble_eq_true rfl) rfl rfl (c_Tk_tell_44 l g _ L M (-9)) rfl ?_
  refine ew_aload_n d_Tk_draw_5 rfl ?_
  refine ew_geti (ci := 7) (f := 0) d_Tk_draw_6 rfl rfl rfl tw_127 ?_
  refine en_eq (st' := [.int (sp_mix (M 44 0) (-9))]) rfl (by rw [show ((ew_w M 44 0 (sp_mix (M 44 0) (-9))) 44 0) = (sp_mix (M 44 0) (-9)) from ew_w_at]) rfl ?_
  refine ew_ldc (v := 2147483647) d_Tk_draw_9 tw_414 ?_
  refine en_eq rfl (show _ = [.int (nI 2147483647), .int (sp_mix (M 44 0) (-9))] from rfl) rfl ?_
  refine ew_iand d_Tk_draw_11 ?_
  refine ew_iload_n d_Tk_draw_12 rfl ?_
  refine ew_irem d_Tk_draw_13 (by decide) ?_
  exact ew_iret d_Tk_draw_14 rfl (⟨by rw [sp_dr _ (by decide) (by decide)]; rfl, rfl, rfl⟩)
set_option maxRecDepth 100000 in
theorem c_Tk_challenge_44 (l : Launch) (g : ew_G) (d L : Nat) (M : ew_M)  :
    Ew l g (d + 4) 0 0 m_Tk_challenge 0 [.ref 44] [] (ew_SH L) M (ew_q (some (.int (nI (sp_ch (sp_mix (M 44 0) (-7)))))) (ew_SH L) (ew_w M 44 0 (sp_mix (M 44 0) (-7)))) := by
  refine ew_aload_n d_Tk_challenge_0 rfl ?_
  refine ew_bipush (v := -7) d_Tk_challenge_1 (by decide) ?_
  refine ew_sipush (v := nI 12289) d_Tk_challenge_3 (by decide) ?_
  refine en_callV (As := [.int (-7), .int (nI 12289)]) (i := 44) (ci := 7) (st := []) (st1 := [.int (nI (sp_ch (sp_mix (M 44 0) (-7))))]) d_Tk_challenge_6 k_Tk_draw rfl rfl tw_410 tw_412 tp_10 rfl (Nat.le_of_ble_eq_true rfl) rfl (Nat.le_of_ble_eq_true rfl) rfl rfl (c_Tk_draw_ch_44 l g _ L M) rfl ?_
  exact ew_iret d_Tk_challenge_9 rfl (⟨rfl, rfl, rfl⟩)
set_option maxRecDepth 100000 in
theorem c_Tk_hearLayer0_44 (l : Launch) (g : ew_G) (d L : Nat) (M : ew_M) (x : Int32) :
    Ew l g (d + 5) 0 0 m_Tk_hearLayer 0 [.ref 44, .int (nI 0), .int x] [] (ew_SH L) M (ew_q (none) (ew_SH L) (ew_w (ew_w M 44 0 (sp_mix (sp_mix (M 44 0) x) (-7))) 45 0 (nI (sp_ch (sp_mix (sp_mix (M 44 0) x) (-7)))))) := by
  refine ew_aload_n d_Tk_hearLayer_0 rfl ?_
  refine ew_iload_n d_Tk_hearLayer_1 rfl ?_
  refine en_callV (As := [.int x]) (i := 44) (ci := 7) (st := []) (st1 := []) d_Tk_hearLayer_2 k_Tk_tell rfl rfl tw_405 tw_398 tw_399 rfl (Nat.le_of_ble_eq_true rfl) rfl (Nat.le_of_ble_eq_true rfl) rfl rfl (c_Tk_tell_44 l g _ L M x) rfl ?_
  refine ew_aload_n d_Tk_hearLayer_5 rfl ?_
  refine ew_getr (ci := 7) (f := 2) d_Tk_hearLayer_6 rfl rfl rfl tw_131 ?_
  refine ew_iload_n d_Tk_hearLayer_9 rfl ?_
  refine ew_aload_n d_Tk_hearLayer_10 rfl ?_
  refine en_callV (As := []) (i := 44) (ci := 7) (st := [.int (nI 0), .ref 45]) (st1 := [.int (nI (sp_ch (sp_mix ((ew_w M 44 0 (sp_mix (M 44 0) x)) 44 0) (-7)))), .int (nI 0), .ref 45]) d_Tk_hearLayer_11 k_Tk_challenge rfl rfl tw_406 tw_408 tp_9 rfl (Nat.le_of_ble_eq_true rfl) rfl (Nat.le_of_ble_eq_true rfl) rfl rfl (c_Tk_challenge_44 l g _ L (ew_w M 44 0 (sp_mix (M 44 0) x))) rfl ?_
  refine en_eq (st' := [.int (nI (sp_ch (sp_mix (sp_mix (M 44 0) x) (-7)))), .int (nI 0), .ref 45]) rfl (by rw [show (nI (sp_ch (sp_mix ((ew_w M 44 0 (sp_mix (M 44 0) x)) 44 0) (-7)))) = (nI (sp_ch (sp_mix (sp_mix (M 44 0) x) (-7)))) from by rw [ew_w_at]]) rfl ?_
  refine en_eq (M' := ew_w M 44 0 (sp_mix (sp_mix (M 44 0) x) (-7))) rfl rfl (by rw [ew_ww, ew_w_at]) ?_
  refine ew_iast (j := 0) d_Tk_hearLayer_14 rfl (by decide) (rfl) (by decide) (by decide) ?_
  exact ew_ret d_Tk_hearLayer_15 rfl (⟨rfl, rfl, rfl⟩)
set_option maxRecDepth 100000 in
theorem c_Tk_hearLayer1_44 (l : Launch) (g : ew_G) (d L : Nat) (M : ew_M) (x : Int32) :
    Ew l g (d + 5) 0 0 m_Tk_hearLayer 0 [.ref 44, .int (nI 1), .int x] [] (ew_SH L) M (ew_q (none) (ew_SH L) (ew_w (ew_w M 44 0 (sp_mix (sp_mix (M 44 0) x) (-7))) 45 1 (nI (sp_ch (sp_mix (sp_mix (M 44 0) x) (-7)))))) := by
  refine ew_aload_n d_Tk_hearLayer_0 rfl ?_
  refine ew_iload_n d_Tk_hearLayer_1 rfl ?_
  refine en_callV (As := [.int x]) (i := 44) (ci := 7) (st := []) (st1 := []) d_Tk_hearLayer_2 k_Tk_tell rfl rfl tw_405 tw_398 tw_399 rfl (Nat.le_of_ble_eq_true rfl) rfl (Nat.le_of_ble_eq_true rfl) rfl rfl (c_Tk_tell_44 l g _ L M x) rfl ?_
  refine ew_aload_n d_Tk_hearLayer_5 rfl ?_
  refine ew_getr (ci := 7) (f := 2) d_Tk_hearLayer_6 rfl rfl rfl tw_131 ?_
  refine ew_iload_n d_Tk_hearLayer_9 rfl ?_
  refine ew_aload_n d_Tk_hearLayer_10 rfl ?_
  refine en_callV (As := []) (i := 44) (ci := 7) (st := [.int (nI 1), .ref 45]) (st1 := [.int (nI (sp_ch (sp_mix ((ew_w M 44 0 (sp_mix (M 44 0) x)) 44 0) (-7)))), .int (nI 1), .ref 45]) d_Tk_hearLayer_11 k_Tk_challenge rfl rfl tw_406 tw_408 tp_9 rfl (Nat.le_of_ble_eq_true rfl) rfl (Nat.le_of_ble_eq_true rfl) rfl rfl (c_Tk_challenge_44 l g _ L (ew_w M 44 0 (sp_mix (M 44 0) x))) rfl ?_
  refine en_eq (st' := [.int (nI (sp_ch (sp_mix (sp_mix (M 44 0) x) (-7)))), .int (nI 1), .ref 45]) rfl (by rw [show (nI (sp_ch (sp_mix ((ew_w M 44 0 (sp_mix (M 44 0) x)) 44 0) (-7)))) = (nI (sp_ch (sp_mix (sp_mix (M 44 0) x) (-7)))) from by rw [ew_w_at]]) rfl ?_
  refine en_eq (M' := ew_w M 44 0 (sp_mix (sp_mix (M 44 0) x) (-7))) rfl rfl (by rw [ew_ww, ew_w_at]) ?_
  refine ew_iast (j := 1) d_Tk_hearLayer_14 rfl (by decide) (rfl) (by decide) (by decide) ?_
  exact ew_ret d_Tk_hearLayer_15 rfl (⟨rfl, rfl, rfl⟩)
set_option maxRecDepth 100000 in
theorem c_Tk_hearLayer2_44 (l : Launch) (g : ew_G) (d L : Nat) (M : ew_M) (x : Int32) :
    Ew l g (d + 5) 0 0 m_Tk_hearLayer 0 [.ref 44, .int (nI 2), .int x] [] (ew_SH L) M (ew_q (none) (ew_SH L) (ew_w (ew_w M 44 0 (sp_mix (sp_mix (M 44 0) x) (-7))) 45 2 (nI (sp_ch (sp_mix (sp_mix (M 44 0) x) (-7)))))) := by
  refine ew_aload_n d_Tk_hearLayer_0 rfl ?_
  refine ew_iload_n d_Tk_hearLayer_1 rfl ?_
  refine en_callV (As := [.int x]) (i := 44) (ci := 7) (st := []) (st1 := []) d_Tk_hearLayer_2 k_Tk_tell rfl rfl tw_405 tw_398 tw_399 rfl (Nat.le_of_ble_eq_true rfl) rfl (Nat.le_of_ble_eq_true rfl) rfl rfl (c_Tk_tell_44 l g _ L M x) rfl ?_
  refine ew_aload_n d_Tk_hearLayer_5 rfl ?_
  refine ew_getr (ci := 7) (f := 2) d_Tk_hearLayer_6 rfl rfl rfl tw_131 ?_
  refine ew_iload_n d_Tk_hearLayer_9 rfl ?_
  refine ew_aload_n d_Tk_hearLayer_10 rfl ?_
  refine en_callV (As := []) (i := 44) (ci := 7) (st := [.int (nI 2), .ref 45]) (st1 := [.int (nI (sp_ch (sp_mix ((ew_w M 44 0 (sp_mix (M 44 0) x)) 44 0) (-7)))), .int (nI 2), .ref 45]) d_Tk_hearLayer_11 k_Tk_challenge rfl rfl tw_406 tw_408 tp_9 rfl (Nat.le_of_ble_eq_true rfl) rfl (Nat.le_of_ble_eq_true rfl) rfl rfl (c_Tk_challenge_44 l g _ L (ew_w M 44 0 (sp_mix (M 44 0) x))) rfl ?_
  refine en_eq (st' := [.int (nI (sp_ch (sp_mix (sp_mix (M 44 0) x) (-7)))), .int (nI 2), .ref 45]) rfl (by rw [show (nI (sp_ch (sp_mix ((ew_w M 44 0 (sp_mix (M 44 0) x)) 44 0) (-7)))) = (nI (sp_ch (sp_mix (sp_mix (M 44 0) x) (-7)))) from by rw [ew_w_at]]) rfl ?_
  refine en_eq (M' := ew_w M 44 0 (sp_mix (sp_mix (M 44 0) x) (-7))) rfl rfl (by rw [ew_ww, ew_w_at]) ?_
  refine ew_iast (j := 2) d_Tk_hearLayer_14 rfl (by decide) (rfl) (by decide) (by decide) ?_
  exact ew_ret d_Tk_hearLayer_15 rfl (⟨rfl, rfl, rfl⟩)

theorem sp_e0_44 (M : ew_M) (x : Int32) : (ew_w M 44 0 (sp_ps (sp_mix (M 44 0) x) 0)) 44 0 = sp_ps (sp_mix (M 44 0) x) 0 := by
  rw [ew_w_at]
theorem sp_f0_44 (M : ew_M) (x : Int32) : ew_w (ew_w M 44 0 (sp_ps (sp_mix (M 44 0) x) 0)) 44 0 (sp_mix (sp_ps (sp_mix (M 44 0) x) 0) (-9)) = ew_w M 44 0 (sp_ps (sp_mix (M 44 0) x) 1) := by
  show ew_w (ew_w M 44 0 (sp_ps (sp_mix (M 44 0) x) 0)) 44 0 (sp_ps (sp_mix (M 44 0) x) 1) = _
  rw [ew_ww]
theorem sp_e1_44 (M : ew_M) (x : Int32) : (ew_w (ew_w M 44 0 (sp_ps (sp_mix (M 44 0) x) 1)) 46 0 (nI (sp_po (sp_ps (sp_mix (M 44 0) x) 1)))) 44 0 = sp_ps (sp_mix (M 44 0) x) 1 := by
  rw [ew_w_ne (by decide), ew_w_at]
theorem sp_f1_44 (M : ew_M) (x : Int32) : ew_w (ew_w (ew_w M 44 0 (sp_ps (sp_mix (M 44 0) x) 1)) 46 0 (nI (sp_po (sp_ps (sp_mix (M 44 0) x) 1)))) 44 0 (sp_mix (sp_ps (sp_mix (M 44 0) x) 1) (-9)) = ew_w (ew_w M 44 0 (sp_ps (sp_mix (M 44 0) x) 2)) 46 0 (nI (sp_po (sp_ps (sp_mix (M 44 0) x) 1))) := by
  show ew_w (ew_w (ew_w M 44 0 (sp_ps (sp_mix (M 44 0) x) 1)) 46 0 (nI (sp_po (sp_ps (sp_mix (M 44 0) x) 1)))) 44 0 (sp_ps (sp_mix (M 44 0) x) 2) = _
  rw [ew_wc (i := 46) (q := 44) (by decide), ew_ww]
theorem sp_e2_44 (M : ew_M) (x : Int32) : (ew_w (ew_w (ew_w M 44 0 (sp_ps (sp_mix (M 44 0) x) 2)) 46 0 (nI (sp_po (sp_ps (sp_mix (M 44 0) x) 1)))) 46 1 (nI (sp_po (sp_ps (sp_mix (M 44 0) x) 2)))) 44 0 = sp_ps (sp_mix (M 44 0) x) 2 := by
  rw [ew_w_ne (by decide), ew_w_ne (by decide), ew_w_at]
theorem sp_f2_44 (M : ew_M) (x : Int32) : ew_w (ew_w (ew_w (ew_w M 44 0 (sp_ps (sp_mix (M 44 0) x) 2)) 46 0 (nI (sp_po (sp_ps (sp_mix (M 44 0) x) 1)))) 46 1 (nI (sp_po (sp_ps (sp_mix (M 44 0) x) 2)))) 44 0 (sp_mix (sp_ps (sp_mix (M 44 0) x) 2) (-9)) = ew_w (ew_w (ew_w M 44 0 (sp_ps (sp_mix (M 44 0) x) 3)) 46 0 (nI (sp_po (sp_ps (sp_mix (M 44 0) x) 1)))) 46 1 (nI (sp_po (sp_ps (sp_mix (M 44 0) x) 2))) := by
  show ew_w (ew_w (ew_w (ew_w M 44 0 (sp_ps (sp_mix (M 44 0) x) 2)) 46 0 (nI (sp_po (sp_ps (sp_mix (M 44 0) x) 1)))) 46 1 (nI (sp_po (sp_ps (sp_mix (M 44 0) x) 2)))) 44 0 (sp_ps (sp_mix (M 44 0) x) 3) = _
  rw [ew_wc (i := 46) (q := 44) (by decide), ew_wc (i := 46) (q := 44) (by decide), ew_ww]
set_option maxRecDepth 100000 in
theorem c_Tk_end_44 (l : Launch) (g : ew_G) (d L : Nat) (M : ew_M) (x : Int32) :
    Ew l g (d + 4) 0 0 m_Tk_end 0 [.ref 44, .int x, .retAddr 0] [] (ew_SH L) M (ew_q (none) (ew_SH L) (ew_w (ew_w (ew_w (ew_w M 44 0 (sp_ps (sp_mix (M 44 0) x) 3)) 46 0 (nI (sp_po (sp_ps (sp_mix (M 44 0) x) 1)))) 46 1 (nI (sp_po (sp_ps (sp_mix (M 44 0) x) 2)))) 46 2 (nI (sp_po (sp_ps (sp_mix (M 44 0) x) 3))))) := by
  refine ew_aload_n d_Tk_end_0 rfl ?_
  refine ew_iload_n d_Tk_end_1 rfl ?_
  refine en_callV (As := [.int x]) (i := 44) (ci := 7) (st := []) (st1 := []) d_Tk_end_2 k_Tk_tell rfl rfl tw_405 tw_398 tw_399 rfl (Nat.le_of_ble_eq_true rfl) rfl (Nat.le_of_ble_eq_true rfl) rfl rfl (c_Tk_tell_44 l g _ L M x) rfl ?_
  refine en_eq (M' := ew_w M 44 0 (sp_ps (sp_mix (M 44 0) x) 0)) rfl rfl (rfl) ?_
  refine ew_iconst (v := nI 0) d_Tk_end_5 (by decide) ?_
  refine en_istore_n (ls' := [.ref 44, .int x, .int (nI 0)]) d_Tk_end_6 (Nat.le_of_ble_eq_true rfl) rfl ?_
  refine ew_iload_n d_Tk_end_7 rfl ?_
  refine ew_iconst (v := nI 3) d_Tk_end_8 (by decide) ?_
  refine en_icmp_ge (tgt := 32) d_Tk_end_9 (by decide) (by first | with_reducible assumption | with_reducible exact ep_lt _ | with_reducible exact sp_its_lt _ _ _ | with_reducible exact tb_l_rt _ | with_reducible exact tb_l_x _ | with_reducible exact tb_l_o0 _ | with_reducible exact tb_l_o1 _ | with_reducible exact tb_l_va _ | with_reducible exact tb_l_ll _ | with_reducible exact tb_l_cf _ | with_reducible exact tb_l_kf _ | with_reducible exact sp_ts_lt _ _ _ _ | with_reducible exact sp_w_lt _ _ | with_reducible exact sp_cs_lt _ _ _ _ _ | with_reducible exact sp_cb_lt _ _ _ _ _ | with_reducible exact sp_ch_lt _ | with_reducible exact sp_bf_lt _ _ | omega) (by first | with_reducible assumption | with_reducible exact ep_lt _ | with_reducible exact sp_its_lt _ _ _ | with_reducible exact tb_l_rt _ | with_reducible exact tb_l_x _ | with_reducible exact tb_l_o0 _ | with_reducible exact tb_l_o1 _ | with_reducible exact tb_l_va _ | with_reducible exact tb_l_ll _ | with_reducible exact tb_l_cf _ | with_reducible exact tb_l_kf _ | with_reducible exact sp_ts_lt _ _ _ _ | with_reducible exact sp_w_lt _ _ | with_reducible exact sp_cs_lt _ _ _ _ _ | with_reducible exact sp_cb_lt _ _ _ _ _ | with_reducible exact sp_ch_lt _ | with_reducible exact sp_bf_lt _ _ | omega) (fun h9 => by exact absurd h9 (by decide)) (fun h9 => ?_)
  refine ew_aload_n d_Tk_end_12 rfl ?_
  refine ew_getr (ci := 7) (f := 3) d_Tk_end_13 rfl rfl rfl tw_134 ?_
  refine ew_iload_n d_Tk_end_16 rfl ?_
  refine ew_aload_n d_Tk_end_17 rfl ?_
  refine ew_bipush (v := -9) d_Tk_end_18 (by decide) ?_
  refine ew_bipush (v := nI 16) d_Tk_end_20 (by decide) ?_
  refine en_callV (As := [.int (-9), .int (nI 16)]) (i := 44) (ci := 7) (st := [.int (nI 0), .ref 46]) (st1 := [.int (nI (sp_po (sp_mix ((ew_w M 44 0 (sp_ps (sp_mix (M 44 0) x) 0)) 44 0) (-9)))), .int (nI 0), .ref 46]) d_Tk_end_22 k_Tk_draw rfl rfl tw_410 tw_412 tp_10 rfl (Nat.le_of_ble_eq_true rfl) rfl (Nat.le_of_ble_eq_true rfl) rfl rfl (c_Tk_draw_po_44 l g _ L (ew_w M 44 0 (sp_ps (sp_mix (M 44 0) x) 0))) rfl ?_
  refine en_eq (st' := [.int (nI (sp_po (sp_ps (sp_mix (M 44 0) x) 1))), .int (nI 0), .ref 46]) rfl (by rw [show (nI (sp_po (sp_mix ((ew_w M 44 0 (sp_ps (sp_mix (M 44 0) x) 0)) 44 0) (-9)))) = (nI (sp_po (sp_ps (sp_mix (M 44 0) x) 1))) from by rw [sp_e0_44]; rfl]) rfl ?_
  refine en_eq (M' := ew_w M 44 0 (sp_ps (sp_mix (M 44 0) x) 1)) rfl rfl (by rw [sp_e0_44, sp_f0_44]) ?_
  refine ew_iast (j := 0) d_Tk_end_25 rfl (by decide) (rfl) (by decide) (by decide) ?_
  refine en_eq (M' := ew_w (ew_w M 44 0 (sp_ps (sp_mix (M 44 0) x) 1)) 46 0 (nI (sp_po (sp_ps (sp_mix (M 44 0) x) 1)))) rfl rfl (rfl) ?_
  refine en_inc (ls' := [.ref 44, .int x, .int (nI 1)]) d_Tk_end_26 rfl rfl ?_
  refine ew_goto (tgt := 7) d_Tk_end_29 (by decide) ?_
  refine ew_iload_n d_Tk_end_7 rfl ?_
  refine ew_iconst (v := nI 3) d_Tk_end_8 (by decide) ?_
  refine en_icmp_ge (tgt := 32) d_Tk_end_9 (by decide) (by first | with_reducible assumption | with_reducible exact ep_lt _ | with_reducible exact sp_its_lt _ _ _ | with_reducible exact tb_l_rt _ | with_reducible exact tb_l_x _ | with_reducible exact tb_l_o0 _ | with_reducible exact tb_l_o1 _ | with_reducible exact tb_l_va _ | with_reducible exact tb_l_ll _ | with_reducible exact tb_l_cf _ | with_reducible exact tb_l_kf _ | with_reducible exact sp_ts_lt _ _ _ _ | with_reducible exact sp_w_lt _ _ | with_reducible exact sp_cs_lt _ _ _ _ _ | with_reducible exact sp_cb_lt _ _ _ _ _ | with_reducible exact sp_ch_lt _ | with_reducible exact sp_bf_lt _ _ | omega) (by first | with_reducible assumption | with_reducible exact ep_lt _ | with_reducible exact sp_its_lt _ _ _ | with_reducible exact tb_l_rt _ | with_reducible exact tb_l_x _ | with_reducible exact tb_l_o0 _ | with_reducible exact tb_l_o1 _ | with_reducible exact tb_l_va _ | with_reducible exact tb_l_ll _ | with_reducible exact tb_l_cf _ | with_reducible exact tb_l_kf _ | with_reducible exact sp_ts_lt _ _ _ _ | with_reducible exact sp_w_lt _ _ | with_reducible exact sp_cs_lt _ _ _ _ _ | with_reducible exact sp_cb_lt _ _ _ _ _ | with_reducible exact sp_ch_lt _ | with_reducible exact sp_bf_lt _ _ | omega) (fun h9 => by exact absurd h9 (by decide)) (fun h9 => ?_)
  refine ew_aload_n d_Tk_end_12 rfl ?_
  refine ew_getr (ci := 7) (f := 3) d_Tk_end_13 rfl rfl rfl tw_134 ?_
  refine ew_iload_n d_Tk_end_16 rfl ?_
  refine ew_aload_n d_Tk_end_17 rfl ?_
  refine ew_bipush (v := -9) d_Tk_end_18 (by decide) ?_
  refine ew_bipush (v := nI 16) d_Tk_end_20 (by decide) ?_
  refine en_callV (As := [.int (-9), .int (nI 16)]) (i := 44) (ci := 7) (st := [.int (nI 1), .ref 46]) (st1 := [.int (nI (sp_po (sp_mix ((ew_w (ew_w M 44 0 (sp_ps (sp_mix (M 44 0) x) 1)) 46 0 (nI (sp_po (sp_ps (sp_mix (M 44 0) x) 1)))) 44 0) (-9)))), .int (nI 1), .ref 46]) d_Tk_end_22 k_Tk_draw rfl rfl tw_410 tw_412 tp_10 rfl (Nat.le_of_ble_eq_true rfl) rfl (Nat.le_of_ble_eq_true rfl) rfl rfl (c_Tk_draw_po_44 l g _ L (ew_w (ew_w M 44 0 (sp_ps (sp_mix (M 44 0) x) 1)) 46 0 (nI (sp_po (sp_ps (sp_mix (M 44 0) x) 1))))) rfl ?_
  refine en_eq (st' := [.int (nI (sp_po (sp_ps (sp_mix (M 44 0) x) 2))), .int (nI 1), .ref 46]) rfl (by rw [show (nI (sp_po (sp_mix ((ew_w (ew_w M 44 0 (sp_ps (sp_mix (M 44 0) x) 1)) 46 0 (nI (sp_po (sp_ps (sp_mix (M 44 0) x) 1)))) 44 0) (-9)))) = (nI (sp_po (sp_ps (sp_mix (M 44 0) x) 2))) from by rw [sp_e1_44]; rfl]) rfl ?_
  refine en_eq (M' := ew_w (ew_w M 44 0 (sp_ps (sp_mix (M 44 0) x) 2)) 46 0 (nI (sp_po (sp_ps (sp_mix (M 44 0) x) 1)))) rfl rfl (by rw [sp_e1_44, sp_f1_44]) ?_
  refine ew_iast (j := 1) d_Tk_end_25 rfl (by decide) (rfl) (by decide) (by decide) ?_
  refine en_eq (M' := ew_w (ew_w (ew_w M 44 0 (sp_ps (sp_mix (M 44 0) x) 2)) 46 0 (nI (sp_po (sp_ps (sp_mix (M 44 0) x) 1)))) 46 1 (nI (sp_po (sp_ps (sp_mix (M 44 0) x) 2)))) rfl rfl (rfl) ?_
  refine en_inc (ls' := [.ref 44, .int x, .int (nI 2)]) d_Tk_end_26 rfl rfl ?_
  refine ew_goto (tgt := 7) d_Tk_end_29 (by decide) ?_
  refine ew_iload_n d_Tk_end_7 rfl ?_
  refine ew_iconst (v := nI 3) d_Tk_end_8 (by decide) ?_
  refine en_icmp_ge (tgt := 32) d_Tk_end_9 (by decide) (by first | with_reducible assumption | with_reducible exact ep_lt _ | with_reducible exact sp_its_lt _ _ _ | with_reducible exact tb_l_rt _ | with_reducible exact tb_l_x _ | with_reducible exact tb_l_o0 _ | with_reducible exact tb_l_o1 _ | with_reducible exact tb_l_va _ | with_reducible exact tb_l_ll _ | with_reducible exact tb_l_cf _ | with_reducible exact tb_l_kf _ | with_reducible exact sp_ts_lt _ _ _ _ | with_reducible exact sp_w_lt _ _ | with_reducible exact sp_cs_lt _ _ _ _ _ | with_reducible exact sp_cb_lt _ _ _ _ _ | with_reducible exact sp_ch_lt _ | with_reducible exact sp_bf_lt _ _ | omega) (by first | with_reducible assumption | with_reducible exact ep_lt _ | with_reducible exact sp_its_lt _ _ _ | with_reducible exact tb_l_rt _ | with_reducible exact tb_l_x _ | with_reducible exact tb_l_o0 _ | with_reducible exact tb_l_o1 _ | with_reducible exact tb_l_va _ | with_reducible exact tb_l_ll _ | with_reducible exact tb_l_cf _ | with_reducible exact tb_l_kf _ | with_reducible exact sp_ts_lt _ _ _ _ | with_reducible exact sp_w_lt _ _ | with_reducible exact sp_cs_lt _ _ _ _ _ | with_reducible exact sp_cb_lt _ _ _ _ _ | with_reducible exact sp_ch_lt _ | with_reducible exact sp_bf_lt _ _ | omega) (fun h9 => by exact absurd h9 (by decide)) (fun h9 => ?_)
  refine ew_aload_n d_Tk_end_12 rfl ?_
  refine ew_getr (ci := 7) (f := 3) d_Tk_end_13 rfl rfl rfl tw_134 ?_
  refine ew_iload_n d_Tk_end_16 rfl ?_
  refine ew_aload_n d_Tk_end_17 rfl ?_
  refine ew_bipush (v := -9) d_Tk_end_18 (by decide) ?_
  refine ew_bipush (v := nI 16) d_Tk_end_20 (by decide) ?_
  refine en_callV (As := [.int (-9), .int (nI 16)]) (i := 44) (ci := 7) (st := [.int (nI 2), .ref 46]) (st1 := [.int (nI (sp_po (sp_mix ((ew_w (ew_w (ew_w M 44 0 (sp_ps (sp_mix (M 44 0) x) 2)) 46 0 (nI (sp_po (sp_ps (sp_mix (M 44 0) x) 1)))) 46 1 (nI (sp_po (sp_ps (sp_mix (M 44 0) x) 2)))) 44 0) (-9)))), .int (nI 2), .ref 46]) d_Tk_end_22 k_Tk_draw rfl rfl tw_410 tw_412 tp_10 rfl (Nat.le_of_ble_eq_true rfl) rfl (Nat.le_of_ble_eq_true rfl) rfl rfl (c_Tk_draw_po_44 l g _ L (ew_w (ew_w (ew_w M 44 0 (sp_ps (sp_mix (M 44 0) x) 2)) 46 0 (nI (sp_po (sp_ps (sp_mix (M 44 0) x) 1)))) 46 1 (nI (sp_po (sp_ps (sp_mix (M 44 0) x) 2))))) rfl ?_
  refine en_eq (st' := [.int (nI (sp_po (sp_ps (sp_mix (M 44 0) x) 3))), .int (nI 2), .ref 46]) rfl (by rw [show (nI (sp_po (sp_mix ((ew_w (ew_w (ew_w M 44 0 (sp_ps (sp_mix (M 44 0) x) 2)) 46 0 (nI (sp_po (sp_ps (sp_mix (M 44 0) x) 1)))) 46 1 (nI (sp_po (sp_ps (sp_mix (M 44 0) x) 2)))) 44 0) (-9)))) = (nI (sp_po (sp_ps (sp_mix (M 44 0) x) 3))) from by rw [sp_e2_44]; rfl]) rfl ?_
  refine en_eq (M' := ew_w (ew_w (ew_w M 44 0 (sp_ps (sp_mix (M 44 0) x) 3)) 46 0 (nI (sp_po (sp_ps (sp_mix (M 44 0) x) 1)))) 46 1 (nI (sp_po (sp_ps (sp_mix (M 44 0) x) 2)))) rfl rfl (by rw [sp_e2_44, sp_f2_44]) ?_
  refine ew_iast (j := 2) d_Tk_end_25 rfl (by decide) (rfl) (by decide) (by decide) ?_
  refine en_eq (M' := ew_w (ew_w (ew_w (ew_w M 44 0 (sp_ps (sp_mix (M 44 0) x) 3)) 46 0 (nI (sp_po (sp_ps (sp_mix (M 44 0) x) 1)))) 46 1 (nI (sp_po (sp_ps (sp_mix (M 44 0) x) 2)))) 46 2 (nI (sp_po (sp_ps (sp_mix (M 44 0) x) 3)))) rfl rfl (rfl) ?_
  refine en_inc (ls' := [.ref 44, .int x, .int (nI 3)]) d_Tk_end_26 rfl rfl ?_
  refine ew_goto (tgt := 7) d_Tk_end_29 (by decide) ?_
  refine ew_iload_n d_Tk_end_7 rfl ?_
  refine ew_iconst (v := nI 3) d_Tk_end_8 (by decide) ?_
  refine en_icmp_ge (tgt := 32) d_Tk_end_9 (by decide) (by first | with_reducible assumption | with_reducible exact ep_lt _ | with_reducible exact sp_its_lt _ _ _ | with_reducible exact tb_l_rt _ | with_reducible exact tb_l_x _ | with_reducible exact tb_l_o0 _ | with_reducible exact tb_l_o1 _ | with_reducible exact tb_l_va _ | with_reducible exact tb_l_ll _ | with_reducible exact tb_l_cf _ | with_reducible exact tb_l_kf _ | with_reducible exact sp_ts_lt _ _ _ _ | with_reducible exact sp_w_lt _ _ | with_reducible exact sp_cs_lt _ _ _ _ _ | with_reducible exact sp_cb_lt _ _ _ _ _ | with_reducible exact sp_ch_lt _ | with_reducible exact sp_bf_lt _ _ | omega) (by first | with_reducible assumption | with_reducible exact ep_lt _ | with_reducible exact sp_its_lt _ _ _ | with_reducible exact tb_l_rt _ | with_reducible exact tb_l_x _ | with_reducible exact tb_l_o0 _ | with_reducible exact tb_l_o1 _ | with_reducible exact tb_l_va _ | with_reducible exact tb_l_ll _ | with_reducible exact tb_l_cf _ | with_reducible exact tb_l_kf _ | with_reducible exact sp_ts_lt _ _ _ _ | with_reducible exact sp_w_lt _ _ | with_reducible exact sp_cs_lt _ _ _ _ _ | with_reducible exact sp_cb_lt _ _ _ _ _ | with_reducible exact sp_ch_lt _ | with_reducible exact sp_bf_lt _ _ | omega) (fun h9 => ?_) (fun h9 => by exact absurd h9 (by decide))
  exact ew_ret d_Tk_end_32 rfl (⟨rfl, rfl, rfl⟩)
