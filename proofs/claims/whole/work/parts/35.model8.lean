theorem sp_in5 {x : Int32} (h : ¬ x < 0) (h2 : ¬ nI 4 < x) : sp_in x 5 = true := by
  refine sp_in_t h (fun q => h2 ?_)
  rw [Int32.lt_iff_toInt_lt] at *
  rw [Int32.le_iff_toInt_le] at q
  have e4 : (nI 4).toInt = 4 := rfl
  have e5 : (nI 5).toInt = 5 := rfl
  omega
set_option maxRecDepth 100000 in
theorem c_Mo_proofB (l : Launch) (g : ew_G) (d L : Nat) (M : ew_M) (pm : Bool) (hp : M 47 9 = ew_b pm) (i : Int32) (h : (pm && sp_in i 179) = false) :
    Ew l g d 0 0 m_Mo_proof 0 [.ref 47, .int i] [] (ew_SH L) M (ew_q (some (.int (nI 0))) (ew_SH L) M) := by
  refine ew_aload_n d_Mo_proof_0 rfl ?_
  refine ew_geti (ci := 9) (f := 9) d_Mo_proof_1 rfl rfl rfl tw_601 ?_
  refine en_eq (st' := [.int (ew_b pm)]) rfl (by rw [show (M 47 9) = (ew_b pm) from hp]) rfl ?_
  refine en_b_eq (tgt := 27) d_Mo_proof_4 (by decide) (fun h4 => ?_) (fun h4 => ?_)
  · refine ew_iconst (v := nI 0) d_Mo_proof_27 (by decide) ?_
    exact ew_iret d_Mo_proof_28 rfl (⟨rfl, rfl, rfl⟩)
  · refine ew_iload_n d_Mo_proof_7 rfl ?_
    refine ew_if_lt (tgt := 27) d_Mo_proof_8 (by decide) (fun h8 => ?_) (fun h8 => ?_)
    · refine ew_iconst (v := nI 0) d_Mo_proof_27 (by decide) ?_
      exact ew_iret d_Mo_proof_28 rfl (⟨rfl, rfl, rfl⟩)
    · refine ew_iload_n d_Mo_proof_11 rfl ?_
      refine ew_sipush (v := nI 179) d_Mo_proof_12 (by decide) ?_
      refine ew_icmp_ge (tgt := 27) d_Mo_proof_15 (by decide) (fun h15 => ?_) (fun h15 => ?_)
      · refine ew_iconst (v := nI 0) d_Mo_proof_27 (by decide) ?_
        exact ew_iret d_Mo_proof_28 rfl (⟨rfl, rfl, rfl⟩)
      · exact absurd h (by rw [h4, sp_in_t h8 h15]; decide)
set_option maxRecDepth 100000 in
theorem c_Mo_proof (l : Launch) (g : ew_G) (d L : Nat) (M : ew_M) (hp : M 47 9 = ew_b true) (i : Nat) (hi : i < 179) :
    Ew l g d 0 0 m_Mo_proof 0 [.ref 47, .int (nI i)] [] (ew_SH L) M (ew_q (some (.int (M 56 i))) (ew_SH L) M) := by
  refine ew_aload_n d_Mo_proof_0 rfl ?_
  refine ew_geti (ci := 9) (f := 9) d_Mo_proof_1 rfl rfl rfl tw_601 ?_
  refine en_eq (st' := [.int (ew_b true)]) rfl (by rw [show (M 47 9) = (ew_b true) from hp]) rfl ?_
  refine en_b_eq (tgt := 27) d_Mo_proof_4 (by decide) (fun h4 => by exact absurd h4 (by decide)) (fun h4 => ?_)
  refine ew_iload_n d_Mo_proof_7 rfl ?_
  refine en_if_lt (tgt := 27) d_Mo_proof_8 (by decide) (by first | with_reducible assumption | with_reducible exact ep_lt _ | with_reducible exact sp_its_lt _ _ _ | with_reducible exact tb_l_rt _ | with_reducible exact tb_l_x _ | with_reducible exact tb_l_o0 _ | with_reducible exact tb_l_o1 _ | with_reducible exact tb_l_va _ | with_reducible exact tb_l_ll _ | with_reducible exact tb_l_cf _ | with_reducible exact tb_l_kf _ | with_reducible exact sp_ts_lt _ _ _ _ | with_reducible exact sp_w_lt _ _ | with_reducible exact sp_cs_lt _ _ _ _ _ | with_reducible exact sp_cb_lt _ _ _ _ _ | with_reducible exact sp_ch_lt _ | with_reducible exact sp_bf_lt _ _ | with_reducible exact sp_va_lt _ _ _ | with_reducible exact sp_be_lt _ _ | with_reducible exact sp_p_lt _ _ _ | with_reducible exact sp_com_lt _ _ _ _ | with_reducible exact sp_fo_lt _ _ _ _ _ | omega) ?_
  refine ew_iload_n d_Mo_proof_11 rfl ?_
  refine ew_sipush (v := nI 179) d_Mo_proof_12 (by decide) ?_
  refine en_icmp_ge (tgt := 27) d_Mo_proof_15 (by decide) (by first | with_reducible assumption | with_reducible exact ep_lt _ | with_reducible exact sp_its_lt _ _ _ | with_reducible exact tb_l_rt _ | with_reducible exact tb_l_x _ | with_reducible exact tb_l_o0 _ | with_reducible exact tb_l_o1 _ | with_reducible exact tb_l_va _ | with_reducible exact tb_l_ll _ | with_reducible exact tb_l_cf _ | with_reducible exact tb_l_kf _ | with_reducible exact sp_ts_lt _ _ _ _ | with_reducible exact sp_w_lt _ _ | with_reducible exact sp_cs_lt _ _ _ _ _ | with_reducible exact sp_cb_lt _ _ _ _ _ | with_reducible exact sp_ch_lt _ | with_reducible exact sp_bf_lt _ _ | with_reducible exact sp_va_lt _ _ _ | with_reducible exact sp_be_lt _ _ | with_reducible exact sp_p_lt _ _ _ | with_reducible exact sp_com_lt _ _ _ _ | with_reducible exact sp_fo_lt _ _ _ _ _ | omega) (by first | with_reducible assumption | with_reducible exact ep_lt _ | with_reducible exact sp_its_lt _ _ _ | with_reducible exact tb_l_rt _ | with_reducible exact tb_l_x _ | with_reducible exact tb_l_o0 _ | with_reducible exact tb_l_o1 _ | with_reducible exact tb_l_va _ | with_reducible exact tb_l_ll _ | with_reducible exact tb_l_cf _ | with_reducible exact tb_l_kf _ | with_reducible exact sp_ts_lt _ _ _ _ | with_reducible exact sp_w_lt _ _ | with_reducible exact sp_cs_lt _ _ _ _ _ | with_reducible exact sp_cb_lt _ _ _ _ _ | with_reducible exact sp_ch_lt _ | with_reducible exact sp_bf_lt _ _ | with_reducible exact sp_va_lt _ _ _ | with_reducible exact sp_be_lt _ _ | with_reducible exact sp_p_lt _ _ _ | with_reducible exact sp_com_lt _ _ _ _ | with_reducible exact sp_fo_lt _ _ _ _ _ | omega) (fun h15 => by exact absurd h15 (by omega)) (fun h15 => ?_)
  refine ew_aload_n d_Mo_proof_18 rfl ?_
  refine ew_getr (ci := 9) (f := 10) d_Mo_proof_19 rfl rfl rfl tw_602 ?_
  refine ew_iload_n d_Mo_proof_22 rfl ?_
  refine ew_iald (j := i) d_Mo_proof_23 rfl (rfl) (by first | with_reducible assumption | with_reducible exact ep_lt _ | with_reducible exact sp_its_lt _ _ _ | with_reducible exact tb_l_rt _ | with_reducible exact tb_l_x _ | with_reducible exact tb_l_o0 _ | with_reducible exact tb_l_o1 _ | with_reducible exact tb_l_va _ | with_reducible exact tb_l_ll _ | with_reducible exact tb_l_cf _ | with_reducible exact tb_l_kf _ | with_reducible exact sp_ts_lt _ _ _ _ | with_reducible exact sp_w_lt _ _ | with_reducible exact sp_cs_lt _ _ _ _ _ | with_reducible exact sp_cb_lt _ _ _ _ _ | with_reducible exact sp_ch_lt _ | with_reducible exact sp_bf_lt _ _ | with_reducible exact sp_va_lt _ _ _ | with_reducible exact sp_be_lt _ _ | with_reducible exact sp_p_lt _ _ _ | with_reducible exact sp_com_lt _ _ _ _ | with_reducible exact sp_fo_lt _ _ _ _ _ | omega) (by decide) ?_
  refine ew_goto (tgt := 28) d_Mo_proof_24 (by decide) ?_
  exact ew_iret d_Mo_proof_28 rfl (⟨rfl, rfl, rfl⟩)
set_option maxRecDepth 100000 in
theorem c_Mo_alterB (l : Launch) (g : ew_G) (d L : Nat) (M : ew_M) (pm : Bool) (hp : M 47 9 = ew_b pm) (i v : Int32) (h : (pm && sp_in i 179) = false) :
    Ew l g d 0 0 m_Mo_alter 0 [.ref 47, .int i, .int v] [] (ew_SH L) M (ew_q (some (.int (nI 0))) (ew_SH L) M) := by
  refine ew_aload_n d_Mo_alter_0 rfl ?_
  refine ew_geti (ci := 9) (f := 9) d_Mo_alter_1 rfl rfl rfl tw_601 ?_
  refine en_eq (st' := [.int (ew_b pm)]) rfl (by rw [show (M 47 9) = (ew_b pm) from hp]) rfl ?_
  refine en_b_eq (tgt := 18) d_Mo_alter_4 (by decide) (fun h4 => ?_) (fun h4 => ?_)
  · refine ew_iconst (v := nI 0) d_Mo_alter_18 (by decide) ?_
    exact ew_zret d_Mo_alter_19 rfl (by decide) (⟨rfl, rfl, rfl⟩)
  · refine ew_iload_n d_Mo_alter_7 rfl ?_
    refine ew_if_lt (tgt := 18) d_Mo_alter_8 (by decide) (fun h8 => ?_) (fun h8 => ?_)
    · refine ew_iconst (v := nI 0) d_Mo_alter_18 (by decide) ?_
      exact ew_zret d_Mo_alter_19 rfl (by decide) (⟨rfl, rfl, rfl⟩)
    · refine ew_iload_n d_Mo_alter_11 rfl ?_
      refine ew_sipush (v := nI 179) d_Mo_alter_12 (by decide) ?_
      refine ew_icmp_lt (tgt := 20) d_Mo_alter_15 (by decide) (fun h15 => ?_) (fun h15 => ?_)
      · exact absurd h (by rw [h4, sp_in_t h8 (Int32.not_le.mpr h15)]; decide)
      · refine ew_iconst (v := nI 0) d_Mo_alter_18 (by decide) ?_
        exact ew_zret d_Mo_alter_19 rfl (by decide) (⟨rfl, rfl, rfl⟩)
set_option maxRecDepth 100000 in
theorem c_Mo_alter (l : Launch) (g : ew_G) (d L : Nat) (M : ew_M) (hp : M 47 9 = ew_b true) (i : Nat) (v : Int32) (hi : i < 179) :
    Ew l g d 0 0 m_Mo_alter 0 [.ref 47, .int (nI i), .int v] [] (ew_SH L) M (ew_q (some (.int (nI 1))) (ew_SH L) (ew_w M 56 i v)) := by
  refine ew_aload_n d_Mo_alter_0 rfl ?_
  refine ew_geti (ci := 9) (f := 9) d_Mo_alter_1 rfl rfl rfl tw_601 ?_
  refine en_eq (st' := [.int (ew_b true)]) rfl (by rw [show (M 47 9) = (ew_b true) from hp]) rfl ?_
  refine en_b_eq (tgt := 18) d_Mo_alter_4 (by decide) (fun h4 => by exact absurd h4 (by decide)) (fun h4 => ?_)
  refine ew_iload_n d_Mo_alter_7 rfl ?_
  refine en_if_lt (tgt := 18) d_Mo_alter_8 (by decide) (by first | with_reducible assumption | with_reducible exact ep_lt _ | with_reducible exact sp_its_lt _ _ _ | with_reducible exact tb_l_rt _ | with_reducible exact tb_l_x _ | with_reducible exact tb_l_o0 _ | with_reducible exact tb_l_o1 _ | with_reducible exact tb_l_va _ | with_reducible exact tb_l_ll _ | with_reducible exact tb_l_cf _ | with_reducible exact tb_l_kf _ | with_reducible exact sp_ts_lt _ _ _ _ | with_reducible exact sp_w_lt _ _ | with_reducible exact sp_cs_lt _ _ _ _ _ | with_reducible exact sp_cb_lt _ _ _ _ _ | with_reducible exact sp_ch_lt _ | with_reducible exact sp_bf_lt _ _ | with_reducible exact sp_va_lt _ _ _ | with_reducible exact sp_be_lt _ _ | with_reducible exact sp_p_lt _ _ _ | with_reducible exact sp_com_lt _ _ _ _ | with_reducible exact sp_fo_lt _ _ _ _ _ | omega) ?_
  refine ew_iload_n d_Mo_alter_11 rfl ?_
  refine ew_sipush (v := nI 179) d_Mo_alter_12 (by decide) ?_
  refine en_icmp_lt (tgt := 20) d_Mo_alter_15 (by decide) (by first | with_reducible assumption | with_reducible exact ep_lt _ | with_reducible exact sp_its_lt _ _ _ | with_reducible exact tb_l_rt _ | with_reducible exact tb_l_x _ | with_reducible exact tb_l_o0 _ | with_reducible exact tb_l_o1 _ | with_reducible exact tb_l_va _ | with_reducible exact tb_l_ll _ | with_reducible exact tb_l_cf _ | with_reducible exact tb_l_kf _ | with_reducible exact sp_ts_lt _ _ _ _ | with_reducible exact sp_w_lt _ _ | with_reducible exact sp_cs_lt _ _ _ _ _ | with_reducible exact sp_cb_lt _ _ _ _ _ | with_reducible exact sp_ch_lt _ | with_reducible exact sp_bf_lt _ _ | with_reducible exact sp_va_lt _ _ _ | with_reducible exact sp_be_lt _ _ | with_reducible exact sp_p_lt _ _ _ | with_reducible exact sp_com_lt _ _ _ _ | with_reducible exact sp_fo_lt _ _ _ _ _ | omega) (by first | with_reducible assumption | with_reducible exact ep_lt _ | with_reducible exact sp_its_lt _ _ _ | with_reducible exact tb_l_rt _ | with_reducible exact tb_l_x _ | with_reducible exact tb_l_o0 _ | with_reducible exact tb_l_o1 _ | with_reducible exact tb_l_va _ | with_reducible exact tb_l_ll _ | with_reducible exact tb_l_cf _ | with_reducible exact tb_l_kf _ | with_reducible exact sp_ts_lt _ _ _ _ | with_reducible exact sp_w_lt _ _ | with_reducible exact sp_cs_lt _ _ _ _ _ | with_reducible exact sp_cb_lt _ _ _ _ _ | with_reducible exact sp_ch_lt _ | with_reducible exact sp_bf_lt _ _ | with_reducible exact sp_va_lt _ _ _ | with_reducible exact sp_be_lt _ _ | with_reducible exact sp_p_lt _ _ _ | with_reducible exact sp_com_lt _ _ _ _ | with_reducible exact sp_fo_lt _ _ _ _ _ | omega) (fun h15 => ?_) (fun h15 => by exact absurd h15 (by omega))
  refine ew_aload_n d_Mo_alter_20 rfl ?_
  refine ew_getr (ci := 9) (f := 10) d_Mo_alter_21 rfl rfl rfl tw_602 ?_
  refine ew_iload_n d_Mo_alter_24 rfl ?_
  refine ew_iload_n d_Mo_alter_25 rfl ?_
  refine ew_iast (j := i) d_Mo_alter_26 rfl (by decide) (rfl) (by first | with_reducible assumption | with_reducible exact ep_lt _ | with_reducible exact sp_its_lt _ _ _ | with_reducible exact tb_l_rt _ | with_reducible exact tb_l_x _ | with_reducible exact tb_l_o0 _ | with_reducible exact tb_l_o1 _ | with_reducible exact tb_l_va _ | with_reducible exact tb_l_ll _ | with_reducible exact tb_l_cf _ | with_reducible exact tb_l_kf _ | with_reducible exact sp_ts_lt _ _ _ _ | with_reducible exact sp_w_lt _ _ | with_reducible exact sp_cs_lt _ _ _ _ _ | with_reducible exact sp_cb_lt _ _ _ _ _ | with_reducible exact sp_ch_lt _ | with_reducible exact sp_bf_lt _ _ | with_reducible exact sp_va_lt _ _ _ | with_reducible exact sp_be_lt _ _ | with_reducible exact sp_p_lt _ _ _ | with_reducible exact sp_com_lt _ _ _ _ | with_reducible exact sp_fo_lt _ _ _ _ _ | omega) (by decide) ?_
  refine ew_iconst (v := nI 1) d_Mo_alter_27 (by decide) ?_
  exact ew_zret d_Mo_alter_28 rfl (by decide) (⟨rfl, rfl, rfl⟩)
set_option maxRecDepth 100000 in
theorem c_Mo_positionB (l : Launch) (g : ew_G) (d L : Nat) (M : ew_M) (km : Bool) (hk : M 47 18 = ew_b km) (i : Int32) (h : (km && sp_in i 3) = false) :
    Ew l g d 0 0 m_Mo_position 0 [.ref 47, .int i] [] (ew_SH L) M (ew_q (some (.int (-2))) (ew_SH L) M) := by
  refine ew_aload_n d_Mo_position_0 rfl ?_
  refine ew_geti (ci := 9) (f := 18) d_Mo_position_1 rfl rfl rfl tw_609 ?_
  refine en_eq (st' := [.int (ew_b km)]) rfl (by rw [show (M 47 18) = (ew_b km) from hk]) rfl ?_
  refine en_b_eq (tgt := 25) d_Mo_position_4 (by decide) (fun h4 => ?_) (fun h4 => ?_)
  · refine ew_bipush (v := -2) d_Mo_position_25 (by decide) ?_
    exact ew_iret d_Mo_position_27 rfl (⟨rfl, rfl, rfl⟩)
  · refine ew_iload_n d_Mo_position_7 rfl ?_
    refine ew_if_lt (tgt := 25) d_Mo_position_8 (by decide) (fun h8 => ?_) (fun h8 => ?_)
    · refine ew_bipush (v := -2) d_Mo_position_25 (by decide) ?_
      exact ew_iret d_Mo_position_27 rfl (⟨rfl, rfl, rfl⟩)
    · refine ew_iload_n d_Mo_position_11 rfl ?_
      refine ew_iconst (v := nI 3) d_Mo_position_12 (by decide) ?_
      refine ew_icmp_ge (tgt := 25) d_Mo_position_13 (by decide) (fun h13 => ?_) (fun h13 => ?_)
      · refine ew_bipush (v := -2) d_Mo_position_25 (by decide) ?_
        exact ew_iret d_Mo_position_27 rfl (⟨rfl, rfl, rfl⟩)
      · exact absurd h (by rw [h4, sp_in_t h8 h13]; decide)
set_option maxRecDepth 100000 in
theorem c_Mo_position (l : Launch) (g : ew_G) (d L : Nat) (M : ew_M) (hk : M 47 18 = ew_b true) (i j : Nat) (hi : i < 3) (hj : M 59 i = nI j) :
    Ew l g d 0 0 m_Mo_position 0 [.ref 47, .int (nI i)] [] (ew_SH L) M (ew_q (some (.int (nI j))) (ew_SH L) M) := by
  refine ew_aload_n d_Mo_position_0 rfl ?_
  refine ew_geti (ci := 9) (f := 18) d_Mo_position_1 rfl rfl rfl tw_609 ?_
  refine en_eq (st' := [.int (ew_b true)]) rfl (by rw [show (M 47 18) = (ew_b true) from hk]) rfl ?_
  refine en_b_eq (tgt := 25) d_Mo_position_4 (by decide) (fun h4 => by exact absurd h4 (by decide)) (fun h4 => ?_)
  refine ew_iload_n d_Mo_position_7 rfl ?_
  refine en_if_lt (tgt := 25) d_Mo_position_8 (by decide) (by first | with_reducible assumption | with_reducible exact ep_lt _ | with_reducible exact sp_its_lt _ _ _ | with_reducible exact tb_l_rt _ | with_reducible exact tb_l_x _ | with_reducible exact tb_l_o0 _ | with_reducible exact tb_l_o1 _ | with_reducible exact tb_l_va _ | with_reducible exact tb_l_ll _ | with_reducible exact tb_l_cf _ | with_reducible exact tb_l_kf _ | with_reducible exact sp_ts_lt _ _ _ _ | with_reducible exact sp_w_lt _ _ | with_reducible exact sp_cs_lt _ _ _ _ _ | with_reducible exact sp_cb_lt _ _ _ _ _ | with_reducible exact sp_ch_lt _ | with_reducible exact sp_bf_lt _ _ | with_reducible exact sp_va_lt _ _ _ | with_reducible exact sp_be_lt _ _ | with_reducible exact sp_p_lt _ _ _ | with_reducible exact sp_com_lt _ _ _ _ | with_reducible exact sp_fo_lt _ _ _ _ _ | omega) ?_
  refine ew_iload_n d_Mo_position_11 rfl ?_
  refine ew_iconst (v := nI 3) d_Mo_position_12 (by decide) ?_
  refine en_icmp_ge (tgt := 25) d_Mo_position_13 (by decide) (by first | with_reducible assumption | with_reducible exact ep_lt _ | with_reducible exact sp_its_lt _ _ _ | with_reducible exact tb_l_rt _ | with_reducible exact tb_l_x _ | with_reducible exact tb_l_o0 _ | with_reducible exact tb_l_o1 _ | with_reducible exact tb_l_va _ | with_reducible exact tb_l_ll _ | with_reducible exact tb_l_cf _ | with_reducible exact tb_l_kf _ | with_reducible exact sp_ts_lt _ _ _ _ | with_reducible exact sp_w_lt _ _ | with_reducible exact sp_cs_lt _ _ _ _ _ | with_reducible exact sp_cb_lt _ _ _ _ _ | with_reducible exact sp_ch_lt _ | with_reducible exact sp_bf_lt _ _ | with_reducible exact sp_va_lt _ _ _ | with_reducible exact sp_be_lt _ _ | with_reducible exact sp_p_lt _ _ _ | with_reducible exact sp_com_lt _ _ _ _ | with_reducible exact sp_fo_lt _ _ _ _ _ | omega) (by first | with_reducible assumption | with_reducible exact ep_lt _ | with_reducible exact sp_its_lt _ _ _ | with_reducible exact tb_l_rt _ | with_reducible exact tb_l_x _ | with_reducible exact tb_l_o0 _ | with_reducible exact tb_l_o1 _ | with_reducible exact tb_l_va _ | with_reducible exact tb_l_ll _ | with_reducible exact tb_l_cf _ | with_reducible exact tb_l_kf _ | with_reducible exact sp_ts_lt _ _ _ _ | with_reducible exact sp_w_lt _ _ | with_reducible exact sp_cs_lt _ _ _ _ _ | with_reducible exact sp_cb_lt _ _ _ _ _ | with_reducible exact sp_ch_lt _ | with_reducible exact sp_bf_lt _ _ | with_reducible exact sp_va_lt _ _ _ | with_reducible exact sp_be_lt _ _ | with_reducible exact sp_p_lt _ _ _ | with_reducible exact sp_com_lt _ _ _ _ | with_reducible exact sp_fo_lt _ _ _ _ _ | omega) (fun h13 => by exact absurd h13 (by omega)) (fun h13 => ?_)
  refine ew_aload_n d_Mo_position_16 rfl ?_
  refine ew_getr (ci := 9) (f := 17) d_Mo_position_17 rfl rfl rfl tw_608 ?_
  refine ew_iload_n d_Mo_position_20 rfl ?_
  refine ew_iald (j := i) d_Mo_position_21 rfl (rfl) (by first | with_reducible assumption | with_reducible exact ep_lt _ | with_reducible exact sp_its_lt _ _ _ | with_reducible exact tb_l_rt _ | with_reducible exact tb_l_x _ | with_reducible exact tb_l_o0 _ | with_reducible exact tb_l_o1 _ | with_reducible exact tb_l_va _ | with_reducible exact tb_l_ll _ | with_reducible exact tb_l_cf _ | with_reducible exact tb_l_kf _ | with_reducible exact sp_ts_lt _ _ _ _ | with_reducible exact sp_w_lt _ _ | with_reducible exact sp_cs_lt _ _ _ _ _ | with_reducible exact sp_cb_lt _ _ _ _ _ | with_reducible exact sp_ch_lt _ | with_reducible exact sp_bf_lt _ _ | with_reducible exact sp_va_lt _ _ _ | with_reducible exact sp_be_lt _ _ | with_reducible exact sp_p_lt _ _ _ | with_reducible exact sp_com_lt _ _ _ _ | with_reducible exact sp_fo_lt _ _ _ _ _ | omega) (by decide) ?_
  refine en_eq (st' := [.int (nI j)]) rfl (by rw [show (M 59 i) = (nI j) from hj]) rfl ?_
  refine ew_goto (tgt := 27) d_Mo_position_22 (by decide) ?_
  exact ew_iret d_Mo_position_27 rfl (⟨rfl, rfl, rfl⟩)
set_option maxRecDepth 100000 in
theorem c_Mo_termB (l : Launch) (g : ew_G) (d L : Nat) (M : ew_M) (c k u v : Int32) (h : (sp_in c 2 && (sp_in k 12289 && (sp_in u 5 && sp_in v 5))) = false) :
    Ew l g (d + 1) 0 0 m_Mo_term 0 [.ref 47, .int c, .int k, .int u, .int v] [] (ew_SH L) M (ew_q (some (.int (-1))) (ew_SH L) M) := by
  refine ew_iload_n d_Mo_term_0 rfl ?_
  refine en_callS (As := [.int c]) (st := []) (st1 := [.int (ew_b (sp_in c 2))]) d_Mo_term_1 k_Mo_isColumn tw_668 tw_669 rfl (Nat.le_of_ble_eq_true rfl) rfl (Nat.le_of_ble_eq_true rfl) rfl rfl (c_Mo_isColumn l g _ (ew_SH L) M c) rfl ?_
  refine en_b_eq (tgt := 34) d_Mo_term_4 (by decide) (fun h4 => ?_) (fun h4 => ?_)
  · refine ew_iconst (v := -1) d_Mo_term_34 (by decide) ?_
    exact ew_iret d_Mo_term_35 rfl (⟨rfl, rfl, rfl⟩)
  · refine ew_iload_n d_Mo_term_7 rfl ?_
    refine en_callS (As := [.int k]) (st := []) (st1 := [.int (ew_b (sp_in k 12289))]) d_Mo_term_8 k_Mo_isNumber tw_671 tw_672 rfl (Nat.le_of_ble_eq_true rfl) rfl (Nat.le_of_ble_eq_true rfl) rfl rfl (c_Mo_isNumber l g _ (ew_SH L) M k) rfl ?_
    refine en_b_eq (tgt := 34) d_Mo_term_11 (by decide) (fun h11 => ?_) (fun h11 => ?_)
    · refine ew_iconst (v := -1) d_Mo_term_34 (by decide) ?_
      exact ew_iret d_Mo_term_35 rfl (⟨rfl, rfl, rfl⟩)
    · refine ew_iload_n d_Mo_term_14 rfl ?_
      refine ew_if_lt (tgt := 34) d_Mo_term_15 (by decide) (fun h15 => ?_) (fun h15 => ?_)
      · refine ew_iconst (v := -1) d_Mo_term_34 (by decide) ?_
        exact ew_iret d_Mo_term_35 rfl (⟨rfl, rfl, rfl⟩)
      · refine ew_iload_n d_Mo_term_18 rfl ?_
        refine ew_iconst (v := nI 4) d_Mo_term_19 (by decide) ?_
        refine ew_icmp_gt (tgt := 34) d_Mo_term_20 (by decide) (fun h20 => ?_) (fun h20 => ?_)
        · refine ew_iconst (v := -1) d_Mo_term_34 (by decide) ?_
          exact ew_iret d_Mo_term_35 rfl (⟨rfl, rfl, rfl⟩)
        · refine ew_iload d_Mo_term_23 rfl ?_
          refine ew_if_lt (tgt := 34) d_Mo_term_25 (by decide) (fun h25 => ?_) (fun h25 => ?_)
          · refine ew_iconst (v := -1) d_Mo_term_34 (by decide) ?_
            exact ew_iret d_Mo_term_35 rfl (⟨rfl, rfl, rfl⟩)
          · refine ew_iload d_Mo_term_28 rfl ?_
            refine ew_iconst (v := nI 4) d_Mo_term_30 (by decide) ?_
            refine ew_icmp_le (tgt := 36) d_Mo_term_31 (by decide) (fun h31 => ?_) (fun h31 => ?_)
            · exact absurd h (by rw [h4, h11, sp_in5 h15 h20, sp_in5 h25 (Int32.not_lt.mpr h31)]; decide)
            · refine ew_iconst (v := -1) d_Mo_term_34 (by decide) ?_
              exact ew_iret d_Mo_term_35 rfl (⟨rfl, rfl, rfl⟩)
set_option maxRecDepth 100000 in
theorem c_Mo_termF (l : Launch) (g : ew_G) (d L : Nat) (M : ew_M) (ρ : sp_R) (hr : sp_rm ρ M) (c k u v : Nat) (hc2 : c < 2) (hk : k < 12289) (hu : u < 5) (hv : v < 5) (h6 : r_cn ρ c = 6)  :
    Ew l g (d + 1) 0 0 m_Mo_term 0 [.ref 47, .int (nI c), .int (nI k), .int (nI u), .int (nI v)] [] (ew_SH L) M (ew_q (some (.int (-3))) (ew_SH L) M) := by
  refine ew_iload_n d_Mo_term_0 rfl ?_
  refine en_callS (As := [.int (nI c)]) (st := []) (st1 := [.int (ew_b (sp_in (nI c) 2))]) d_Mo_term_1 k_Mo_isColumn tw_668 tw_669 rfl (Nat.le_of_ble_eq_true rfl) rfl (Nat.le_of_ble_eq_true rfl) rfl rfl (c_Mo_isColumn l g _ (ew_SH L) M (nI c)) rfl ?_
  refine en_b_eq (tgt := 34) d_Mo_term_4 (by decide) (fun h4 => by exact absurd h4 (by rw [sp_in_nI (by decide) hc2]; decide)) (fun h4 => ?_)
  refine ew_iload_n d_Mo_term_7 rfl ?_
  refine en_callS (As := [.int (nI k)]) (st := []) (st1 := [.int (ew_b (sp_in (nI k) 12289))]) d_Mo_term_8 k_Mo_isNumber tw_671 tw_672 rfl (Nat.le_of_ble_eq_true rfl) rfl (Nat.le_of_ble_eq_true rfl) rfl rfl (c_Mo_isNumber l g _ (ew_SH L) M (nI k)) rfl ?_
  refine en_b_eq (tgt := 34) d_Mo_term_11 (by decide) (fun h11 => by exact absurd h11 (by rw [sp_in_nI (by decide) hk]; decide)) (fun h11 => ?_)
  refine ew_iload_n d_Mo_term_14 rfl ?_
  refine en_if_lt (tgt := 34) d_Mo_term_15 (by decide) (by omega) ?_
  refine ew_iload_n d_Mo_term_18 rfl ?_
  refine ew_iconst (v := nI 4) d_Mo_term_19 (by decide) ?_
  refine en_icmp_gt (tgt := 34) d_Mo_term_20 (by decide) (by omega) (by omega) (fun h20 => by exact absurd h20 (by omega)) (fun h20 => ?_)
  refine ew_iload d_Mo_term_23 rfl ?_
  refine en_if_lt (tgt := 34) d_Mo_term_25 (by decide) (by omega) ?_
  refine ew_iload d_Mo_term_28 rfl ?_
  refine ew_iconst (v := nI 4) d_Mo_term_30 (by decide) ?_
  refine en_icmp_le (tgt := 36) d_Mo_term_31 (by decide) (by omega) (by omega) (fun h31 => ?_) (fun h31 => by exact absurd h31 (by omega))
  refine ew_aload_n d_Mo_term_36 rfl ?_
  refine ew_getr (ci := 9) (f := 1) d_Mo_term_37 rfl rfl rfl tw_593 ?_
  refine ew_iload_n d_Mo_term_40 rfl ?_
  refine ew_iald (j := c) d_Mo_term_41 rfl (rfl) (hc2) (by decide) ?_
  refine en_eq (st' := [.int (nI (r_cn ρ c))]) rfl (by rw [show (M 49 c) = (nI (r_cn ρ c)) from hr.2.1 c hc2]) rfl ?_
  refine ew_bipush (v := nI 6) d_Mo_term_42 (by decide) ?_
  refine en_icmp_ne (tgt := 50) d_Mo_term_44 (by decide) (by omega) (by omega) (fun h44 => by exact absurd h44 (by omega)) (fun h44 => ?_)
  refine ew_bipush (v := -3) d_Mo_term_47 (by decide) ?_
  exact ew_iret d_Mo_term_49 rfl (⟨rfl, rfl, rfl⟩)
set_option maxRecDepth 100000 in
theorem c_Mo_term (l : Launch) (g : ew_G) (d L : Nat) (M : ew_M) (ρ : sp_R) (hr : sp_rm ρ M) (c k u v : Nat) (hc2 : c < 2) (hk : k < 12289) (hu : u < 5) (hv : v < 5) (h6 : r_cn ρ c < 6) :
    Ew l g (d + 1) 0 0 m_Mo_term 0 [.ref 47, .int (nI c), .int (nI k), .int (nI u), .int (nI v)] [] (ew_SH L) M (ew_q (some (.int (nI (r_cn ρ c + 1)))) (ew_SH L) (ew_w (ew_w (ew_w (ew_w M 50 (6 * c + r_cn ρ c) (nI k)) 51 (6 * c + r_cn ρ c) (nI u)) 52 (6 * c + r_cn ρ c) (nI v)) 49 c (nI (r_cn ρ c + 1)))) := by
  refine ew_iload_n d_Mo_term_0 rfl ?_
  refine en_callS (As := [.int (nI c)]) (st := []) (st1 := [.int (ew_b (sp_in (nI c) 2))]) d_Mo_term_1 k_Mo_isColumn tw_668 tw_669 rfl (Nat.le_of_ble_eq_true rfl) rfl (Nat.le_of_ble_eq_true rfl) rfl rfl (c_Mo_isColumn l g _ (ew_SH L) M (nI c)) rfl ?_
  refine en_b_eq (tgt := 34) d_Mo_term_4 (by decide) (fun h4 => by exact absurd h4 (by rw [sp_in_nI (by decide) hc2]; decide)) (fun h4 => ?_)
  refine ew_iload_n d_Mo_term_7 rfl ?_
  refine en_callS (As := [.int (nI k)]) (st := []) (st1 := [.int (ew_b (sp_in (nI k) 12289))]) d_Mo_term_8 k_Mo_isNumber tw_671 tw_672 rfl (Nat.le_of_ble_eq_true rfl) rfl (Nat.le_of_ble_eq_true rfl) rfl rfl (c_Mo_isNumber l g _ (ew_SH L) M (nI k)) rfl ?_
  refine en_b_eq (tgt := 34) d_Mo_term_11 (by decide) (fun h11 => by exact absurd h11 (by rw [sp_in_nI (by decide) hk]; decide)) (fun h11 => ?_)
  refine ew_iload_n d_Mo_term_14 rfl ?_
  refine en_if_lt (tgt := 34) d_Mo_term_15 (by decide) (by omega) ?_
  refine ew_iload_n d_Mo_term_18 rfl ?_
  refine ew_iconst (v := nI 4) d_Mo_term_19 (by decide) ?_
  refine en_icmp_gt (tgt := 34) d_Mo_term_20 (by decide) (by omega) (by omega) (fun h20 => by exact absurd h20 (by omega)) (fun h20 => ?_)
  refine ew_iload d_Mo_term_23 rfl ?_
  refine en_if_lt (tgt := 34) d_Mo_term_25 (by decide) (by omega) ?_
  refine ew_iload d_Mo_term_28 rfl ?_
  refine ew_iconst (v := nI 4) d_Mo_term_30 (by decide) ?_
  refine en_icmp_le (tgt := 36) d_Mo_term_31 (by decide) (by omega) (by omega) (fun h31 => ?_) (fun h31 => by exact absurd h31 (by omega))
  refine ew_aload_n d_Mo_term_36 rfl ?_
  refine ew_getr (ci := 9) (f := 1) d_Mo_term_37 rfl rfl rfl tw_593 ?_
  refine ew_iload_n d_Mo_term_40 rfl ?_
  refine ew_iald (j := c) d_Mo_term_41 rfl (rfl) (hc2) (by decide) ?_
  refine en_eq (st' := [.int (nI (r_cn ρ c))]) rfl (by rw [show (M 49 c) = (nI (r_cn ρ c)) from by (exact hr.2.1 c hc2)]) rfl ?_
  refine ew_bipush (v := nI 6) d_Mo_term_42 (by decide) ?_
  refine en_icmp_ne (tgt := 50) d_Mo_term_44 (by decide) (by omega) (by omega) (fun h44 => ?_) (fun h44 => by exact absurd h44 (by omega))
  refine ew_aload_n d_Mo_term_50 rfl ?_
  refine ew_getr (ci := 9) (f := 2) d_Mo_term_51 rfl rfl rfl tw_594 ?_
  refine ew_bipush (v := nI 6) d_Mo_term_54 (by decide) ?_
  refine ew_iload_n d_Mo_term_56 rfl ?_
  refine en_imul d_Mo_term_57 ?_
  refine ew_aload_n d_Mo_term_58 rfl ?_
  refine ew_getr (ci := 9) (f := 1) d_Mo_term_59 rfl rfl rfl tw_593 ?_
  refine ew_iload_n d_Mo_term_62 rfl ?_
  refine ew_iald (j := c) d_Mo_term_63 rfl (rfl) (hc2) (by decide) ?_
  refine en_eq (st' := [.int (nI (r_cn ρ c)), .int (nI (6 * c)), .ref 50]) rfl (by rw [show (M 49 c) = (nI (r_cn ρ c)) from by (exact hr.2.1 c hc2)]) rfl ?_
  refine en_iadd d_Mo_term_64 ?_
  refine ew_iload_n d_Mo_term_65 rfl ?_
  refine ew_iast (j := (6 * c) + (r_cn ρ c)) d_Mo_term_66 rfl (by decide) (rfl) (by omega) (by decide) ?_
  refine ew_aload_n d_Mo_term_67 rfl ?_
  refine ew_getr (ci := 9) (f := 3) d_Mo_term_68 rfl rfl rfl tw_595 ?_
  refine ew_bipush (v := nI 6) d_Mo_term_71 (by decide) ?_
  refine ew_iload_n d_Mo_term_73 rfl ?_
  refine en_imul d_Mo_term_74 ?_
  refine ew_aload_n d_Mo_term_75 rfl ?_
  refine ew_getr (ci := 9) (f := 1) d_Mo_term_76 rfl rfl rfl tw_593 ?_
  refine ew_iload_n d_Mo_term_79 rfl ?_
  refine ew_iald (j := c) d_Mo_term_80 rfl (rfl) (hc2) (by decide) ?_
  refine en_eq (st' := [.int (nI (r_cn ρ c)), .int (nI (6 * c)), .ref 51]) rfl (by rw [show ((ew_w M 50 ((6 * c) + (r_cn ρ c)) (nI k)) 49 c) = (nI (r_cn ρ c)) from by (rw [ew_w_ne (by decide)]; exact hr.2.1 c hc2)]) rfl ?_
  refine en_iadd d_Mo_term_81 ?_
  refine ew_iload_n d_Mo_term_82 rfl ?_
  refine ew_iast (j := (6 * c) + (r_cn ρ c)) d_Mo_term_83 rfl (by decide) (rfl) (by omega) (by decide) ?_
  refine ew_aload_n d_Mo_term_84 rfl ?_
  refine ew_getr (ci := 9) (f := 4) d_Mo_term_85 rfl rfl rfl tw_596 ?_
  refine ew_bipush (v := nI 6) d_Mo_term_88 (by decide) ?_
  refine ew_iload_n d_Mo_term_90 rfl ?_
  refine en_imul d_Mo_term_91 ?_
  refine ew_aload_n d_Mo_term_92 rfl ?_
  refine ew_getr (ci := 9) (f := 1) d_Mo_term_93 rfl rfl rfl tw_593 ?_
  refine ew_iload_n d_Mo_term_96 rfl ?_
  refine ew_iald (j := c) d_Mo_term_97 rfl (rfl) (hc2) (by decide) ?_
  refine en_eq (st' := [.int (nI (r_cn ρ c)), .int (nI (6 * c)), .ref 52]) rfl (by rw [show ((ew_w (ew_w M 50 ((6 * c) + (r_cn ρ c)) (nI k)) 51 ((6 * c) + (r_cn ρ c)) (nI u)) 49 c) = (nI (r_cn ρ c)) from by (rw [ew_w_ne (by decide), ew_w_ne (by decide)]; exact hr.2.1 c hc2)]) rfl ?_
  refine en_iadd d_Mo_term_98 ?_
  refine ew_iload d_Mo_term_99 rfl ?_
  refine ew_iast (j := (6 * c) + (r_cn ρ c)) d_Mo_term_101 rfl (by decide) (rfl) (by omega) (by decide) ?_
  refine ew_aload_n d_Mo_term_102 rfl ?_
  refine ew_getr (ci := 9) (f := 1) d_Mo_term_103 rfl rfl rfl tw_593 ?_
  refine ew_iload_n d_Mo_term_106 rfl ?_
  refine ew_dup2 d_Mo_term_107 ?_
  refine ew_iald (j := c) d_Mo_term_108 rfl (rfl) (hc2) (by decide) ?_
  refine en_eq (st' := [.int (nI (r_cn ρ c)), .int (nI c), .ref 49]) rfl (by rw [show ((ew_w (ew_w (ew_w M 50 ((6 * c) + (r_cn ρ c)) (nI k)) 51 ((6 * c) + (r_cn ρ c)) (nI u)) 52 ((6 * c) + (r_cn ρ c)) (nI v)) 49 c) = (nI (r_cn ρ c)) from by (rw [ew_w_ne (by decide), ew_w_ne (by decide), ew_w_ne (by decide)]; exact hr.2.1 c hc2)]) rfl ?_
  refine ew_iconst (v := nI 1) d_Mo_term_109 (by decide) ?_
  refine en_iadd d_Mo_term_110 ?_
  refine ew_iast (j := c) d_Mo_term_111 rfl (by decide) (rfl) (hc2) (by decide) ?_
  refine ew_aload_n d_Mo_term_112 rfl ?_
  refine ew_getr (ci := 9) (f := 1) d_Mo_term_113 rfl rfl rfl tw_593 ?_
  refine ew_iload_n d_Mo_term_116 rfl ?_
  refine ew_iald (j := c) d_Mo_term_117 rfl (rfl) (hc2) (by decide) ?_
  refine en_eq (st' := [.int (nI (r_cn ρ c + 1))]) rfl (by rw [show ((ew_w (ew_w (ew_w (ew_w M 50 ((6 * c) + (r_cn ρ c)) (nI k)) 51 ((6 * c) + (r_cn ρ c)) (nI u)) 52 ((6 * c) + (r_cn ρ c)) (nI v)) 49 c (nI ((r_cn ρ c) + 1))) 49 c) = (nI (r_cn ρ c + 1)) from ew_w_at]) rfl ?_
  exact ew_iret d_Mo_term_118 rfl (⟨rfl, rfl, rfl⟩)
theorem sp_rm_addT {ρ : sp_R} {M : ew_M} (h : sp_rm ρ M) {c k u v : Nat} (hc : c < 2) (hn : r_cn ρ c < 6) (hk : k < 12289) (hu : u < 5) (hv : v < 5) : sp_rm (sp_addT ρ c k u v) (ew_w (ew_w (ew_w (ew_w M 50 (6 * c + r_cn ρ c) (nI k)) 51 (6 * c + r_cn ρ c) (nI u)) 52 (6 * c + r_cn ρ c) (nI v)) 49 c (nI (r_cn ρ c + 1))) := by
  obtain ⟨h0, h1, h2, h3, h4⟩ := h
  refine ⟨sp_okR_addT h0 hc hn hk hu hv, fun a ha => ?_, fun a t ha ht => ?_, ?_, fun b hb => ?_⟩
  · show _ = nI (up1 (r_cn ρ) c (r_cn ρ c + 1) a)
    unfold up1
    by_cases e : a = c
    · rw [if_pos e, e]
      exact ew_w_at
    · rw [if_neg e, ew_w_j e, ew_w_ne (by decide), ew_w_ne (by decide), ew_w_ne (by decide)]
      exact h1 a ha
  · show _ = nI (up2 (r_tk ρ) c (r_cn ρ c) k a t) ∧ _ = nI (up2 (r_tu ρ) c (r_cn ρ c) u a t) ∧ _ = nI (up2 (r_tv ρ) c (r_cn ρ c) v a t)
    have ht' : t < up1 (r_cn ρ) c (r_cn ρ c + 1) a := ht
    have h6 := h0.1 a ha
    unfold up2
    by_cases e : a = c ∧ t = r_cn ρ c
    · obtain ⟨rfl, rfl⟩ := e
      rw [if_pos ⟨rfl, rfl⟩, if_pos ⟨rfl, rfl⟩, if_pos ⟨rfl, rfl⟩]
      refine ⟨?_, ?_, ?_⟩
      · rw [ew_w_ne (by decide), ew_w_ne (by decide), ew_w_ne (by decide)]
        exact ew_w_at
      · rw [ew_w_ne (by decide), ew_w_ne (by decide)]
        exact ew_w_at
      · rw [ew_w_ne (by decide)]
        exact ew_w_at
    · rw [if_neg e, if_neg e, if_neg e]
      have hlt : t < r_cn ρ a := by
        unfold up1 at ht'
        split at ht'
        · rename_i ea
          subst ea
          have : t ≠ r_cn ρ a := fun q => e ⟨rfl, q⟩
          omega
        · exact ht'
      have hne : 6 * a + t ≠ 6 * c + r_cn ρ c := by
        intro q
        by_cases ea : a = c
        · subst ea
          exact e ⟨rfl, by omega⟩
        · omega
      obtain ⟨z1, z2, z3⟩ := h2 a t ha hlt
      refine ⟨?_, ?_, ?_⟩
      · rw [ew_w_ne (by decide), ew_w_ne (by decide), ew_w_ne (by decide), ew_w_j hne]
        exact z1
      · rw [ew_w_ne (by decide), ew_w_ne (by decide), ew_w_j hne, ew_w_ne (by decide)]
        exact z2
      · rw [ew_w_ne (by decide), ew_w_j hne, ew_w_ne (by decide), ew_w_ne (by decide)]
        exact z3
  · rw [ew_w_ne (by decide), ew_w_ne (by decide), ew_w_ne (by decide), ew_w_ne (by decide)]
    exact h3
  · rw [ew_w_ne (by decide), ew_w_ne (by decide), ew_w_ne (by decide), ew_w_ne (by decide), ew_w_ne (by decide), ew_w_ne (by decide), ew_w_ne (by decide), ew_w_ne (by decide), ew_w_ne (by decide), ew_w_ne (by decide), ew_w_ne (by decide), ew_w_ne (by decide)]
    exact h4 b hb
set_option maxRecDepth 100000 in
theorem c_Mo_boundB (l : Launch) (g : ew_G) (d L : Nat) (M : ew_M) (c r v : Int32) (h : ((sp_in c 2 && sp_in r 8) && sp_in v 12289) = false) :
    Ew l g (d + 1) 0 0 m_Mo_bound 0 [.ref 47, .int c, .int r, .int v] [] (ew_SH L) M (ew_q (some (.int (-1))) (ew_SH L) M) := by
  refine ew_iload_n d_Mo_bound_0 rfl ?_
  refine en_callS (As := [.int c]) (st := []) (st1 := [.int (ew_b (sp_in c 2))]) d_Mo_bound_1 k_Mo_isColumn tw_668 tw_669 rfl (Nat.le_of_ble_eq_true rfl) rfl (Nat.le_of_ble_eq_true rfl) rfl rfl (c_Mo_isColumn l g _ (ew_SH L) M c) rfl ?_
  refine en_b_eq (tgt := 21) d_Mo_bound_4 (by decide) (fun h4 => ?_) (fun h4 => ?_)
  · refine ew_iconst (v := -1) d_Mo_bound_21 (by decide) ?_
    exact ew_iret d_Mo_bound_22 rfl (⟨rfl, rfl, rfl⟩)
  · refine ew_iload_n d_Mo_bound_7 rfl ?_
    refine en_callS (As := [.int r]) (st := []) (st1 := [.int (ew_b (sp_in r 8))]) d_Mo_bound_8 k_Mo_isRow tw_678 tw_679 rfl (Nat.le_of_ble_eq_true rfl) rfl (Nat.le_of_ble_eq_true rfl) rfl rfl (c_Mo_isRow l g _ (ew_SH L) M r) rfl ?_
    refine en_b_eq (tgt := 21) d_Mo_bound_11 (by decide) (fun h11 => ?_) (fun h11 => ?_)
    · refine ew_iconst (v := -1) d_Mo_bound_21 (by decide) ?_
      exact ew_iret d_Mo_bound_22 rfl (⟨rfl, rfl, rfl⟩)
    · refine ew_iload_n d_Mo_bound_14 rfl ?_
      refine en_callS (As := [.int v]) (st := []) (st1 := [.int (ew_b (sp_in v 12289))]) d_Mo_bound_15 k_Mo_isNumber tw_671 tw_672 rfl (Nat.le_of_ble_eq_true rfl) rfl (Nat.le_of_ble_eq_true rfl) rfl rfl (c_Mo_isNumber l g _ (ew_SH L) M v) rfl ?_
      refine en_b_ne (tgt := 23) d_Mo_bound_18 (by decide) (fun h18 => ?_) (fun h18 => ?_)
      · exact absurd h (by rw [h4, h11, h18]; decide)
      · refine ew_iconst (v := -1) d_Mo_bound_21 (by decide) ?_
        exact ew_iret d_Mo_bound_22 rfl (⟨rfl, rfl, rfl⟩)
set_option maxRecDepth 100000 in
theorem c_Mo_setB (l : Launch) (g : ew_G) (d L : Nat) (M : ew_M) (c r v : Int32) (h : ((sp_in c 2 && sp_in r 8) && sp_in v 12289) = false) :
    Ew l g (d + 1) 0 0 m_Mo_set 0 [.ref 47, .int c, .int r, .int v] [] (ew_SH L) M (ew_q (some (.int (nI 0))) (ew_SH L) M) := by
  refine ew_iload_n d_Mo_set_0 rfl ?_
  refine en_callS (As := [.int c]) (st := []) (st1 := [.int (ew_b (sp_in c 2))]) d_Mo_set_1 k_Mo_isColumn tw_668 tw_669 rfl (Nat.le_of_ble_eq_true rfl) rfl (Nat.le_of_ble_eq_true rfl) rfl rfl (c_Mo_isColumn l g _ (ew_SH L) M c) rfl ?_
  refine en_b_eq (tgt := 21) d_Mo_set_4 (by decide) (fun h4 => ?_) (fun h4 => ?_)
  · refine ew_iconst (v := nI 0) d_Mo_set_21 (by decide) ?_
    exact ew_zret d_Mo_set_22 rfl (by decide) (⟨rfl, rfl, rfl⟩)
  · refine ew_iload_n d_Mo_set_7 rfl ?_
    refine en_callS (As := [.int r]) (st := []) (st1 := [.int (ew_b (sp_in r 8))]) d_Mo_set_8 k_Mo_isRow tw_678 tw_679 rfl (Nat.le_of_ble_eq_true rfl) rfl (Nat.le_of_ble_eq_true rfl) rfl rfl (c_Mo_isRow l g _ (ew_SH L) M r) rfl ?_
    refine en_b_eq (tgt := 21) d_Mo_set_11 (by decide) (fun h11 => ?_) (fun h11 => ?_)
    · refine ew_iconst (v := nI 0) d_Mo_set_21 (by decide) ?_
      exact ew_zret d_Mo_set_22 rfl (by decide) (⟨rfl, rfl, rfl⟩)
    · refine ew_iload_n d_Mo_set_14 rfl ?_
      refine en_callS (As := [.int v]) (st := []) (st1 := [.int (ew_b (sp_in v 12289))]) d_Mo_set_15 k_Mo_isNumber tw_671 tw_672 rfl (Nat.le_of_ble_eq_true rfl) rfl (Nat.le_of_ble_eq_true rfl) rfl rfl (c_Mo_isNumber l g _ (ew_SH L) M v) rfl ?_
      refine en_b_ne (tgt := 23) d_Mo_set_18 (by decide) (fun h18 => ?_) (fun h18 => ?_)
      · exact absurd h (by rw [h4, h11, h18]; decide)
      · refine ew_iconst (v := nI 0) d_Mo_set_21 (by decide) ?_
        exact ew_zret d_Mo_set_22 rfl (by decide) (⟨rfl, rfl, rfl⟩)
set_option maxRecDepth 100000 in
theorem c_Mo_boundF (l : Launch) (g : ew_G) (d L : Nat) (M : ew_M) (ρ : sp_R) (hr : sp_rm ρ M) (c r v : Nat) (hc2 : c < 2) (hr8 : r < 8) (hv : v < 12289) (h4 : r_bn ρ = 4) :
    Ew l g (d + 1) 0 0 m_Mo_bound 0 [.ref 47, .int (nI c), .int (nI r), .int (nI v)] [] (ew_SH L) M (ew_q (some (.int (-3))) (ew_SH L) M) := by
  refine ew_iload_n d_Mo_bound_0 rfl ?_
  refine en_callS (As := [.int (nI c)]) (st := []) (st1 := [.int (ew_b (sp_in (nI c) 2))]) d_Mo_bound_1 k_Mo_isColumn tw_668 tw_669 rfl (Nat.le_of_ble_eq_true rfl) rfl (Nat.le_of_ble_eq_true rfl) rfl rfl (c_Mo_isColumn l g _ (ew_SH L) M (nI c)) rfl ?_
  refine en_b_eq (tgt := 21) d_Mo_bound_4 (by decide) (fun h4 => by exact absurd h4 (by rw [sp_in_nI (by decide) hc2]; decide)) (fun h4 => ?_)
  refine ew_iload_n d_Mo_bound_7 rfl ?_
  refine en_callS (As := [.int (nI r)]) (st := []) (st1 := [.int (ew_b (sp_in (nI r) 8))]) d_Mo_bound_8 k_Mo_isRow tw_678 tw_679 rfl (Nat.le_of_ble_eq_true rfl) rfl (Nat.le_of_ble_eq_true rfl) rfl rfl (c_Mo_isRow l g _ (ew_SH L) M (nI r)) rfl ?_
  refine en_b_eq (tgt := 21) d_Mo_bound_11 (by decide) (fun h11 => by exact absurd h11 (by rw [sp_in_nI (by decide) hr8]; decide)) (fun h11 => ?_)
  refine ew_iload_n d_Mo_bound_14 rfl ?_
  refine en_callS (As := [.int (nI v)]) (st := []) (st1 := [.int (ew_b (sp_in (nI v) 12289))]) d_Mo_bound_15 k_Mo_isNumber tw_671 tw_672 rfl (Nat.le_of_ble_eq_true rfl) rfl (Nat.le_of_ble_eq_true rfl) rfl rfl (c_Mo_isNumber l g _ (ew_SH L) M (nI v)) rfl ?_
  refine en_b_ne (tgt := 23) d_Mo_bound_18 (by decide) (fun h18 => ?_) (fun h18 => by exact absurd h18 (by rw [sp_in_nI (by decide) hv]; decide))
  refine ew_aload_n d_Mo_bound_23 rfl ?_
  refine ew_geti (ci := 9) (f := 5) d_Mo_bound_24 rfl rfl rfl tw_597 ?_
  refine en_eq (st' := [.int (nI (r_bn ρ))]) rfl (by rw [show (M 47 5) = (nI (r_bn ρ)) from hr.2.2.2.1]) rfl ?_
  refine ew_iconst (v := nI 4) d_Mo_bound_27 (by decide) ?_
  refine en_icmp_ne (tgt := 34) d_Mo_bound_28 (by decide) (by omega) (by omega) (fun h28 => by exact absurd h28 (by omega)) (fun h28 => ?_)
  refine ew_bipush (v := -3) d_Mo_bound_31 (by decide) ?_
  exact ew_iret d_Mo_bound_33 rfl (⟨rfl, rfl, rfl⟩)
set_option maxRecDepth 100000 in
theorem c_Mo_bound (l : Launch) (g : ew_G) (d L : Nat) (M : ew_M) (ρ : sp_R) (hr : sp_rm ρ M) (c r v : Nat) (hc2 : c < 2) (hr8 : r < 8) (hv : v < 12289) (h4 : r_bn ρ < 4) :
    Ew l g (d + 1) 0 0 m_Mo_bound 0 [.ref 47, .int (nI c), .int (nI r), .int (nI v)] [] (ew_SH L) M (ew_q (some (.int (nI (r_bn ρ + 1)))) (ew_SH L) (ew_w (ew_w (ew_w (ew_w M 53 (r_bn ρ) (nI c)) 54 (r_bn ρ) (nI r)) 55 (r_bn ρ) (nI v)) 47 5 (nI (r_bn ρ + 1)))) := by
  refine ew_iload_n d_Mo_bound_0 rfl ?_
  refine en_callS (As := [.int (nI c)]) (st := []) (st1 := [.int (ew_b (sp_in (nI c) 2))]) d_Mo_bound_1 k_Mo_isColumn tw_668 tw_669 rfl (Nat.le_of_ble_eq_true rfl) rfl (Nat.le_of_ble_eq_true rfl) rfl rfl (c_Mo_isColumn l g _ (ew_SH L) M (nI c)) rfl ?_
  refine en_b_eq (tgt := 21) d_Mo_bound_4 (by decide) (fun h4 => by exact absurd h4 (by rw [sp_in_nI (by decide) hc2]; decide)) (fun h4 => ?_)
  refine ew_iload_n d_Mo_bound_7 rfl ?_
  refine en_callS (As := [.int (nI r)]) (st := []) (st1 := [.int (ew_b (sp_in (nI r) 8))]) d_Mo_bound_8 k_Mo_isRow tw_678 tw_679 rfl (Nat.le_of_ble_eq_true rfl) rfl (Nat.le_of_ble_eq_true rfl) rfl rfl (c_Mo_isRow l g _ (ew_SH L) M (nI r)) rfl ?_
  refine en_b_eq (tgt := 21) d_Mo_bound_11 (by decide) (fun h11 => by exact absurd h11 (by rw [sp_in_nI (by decide) hr8]; decide)) (fun h11 => ?_)
  refine ew_iload_n d_Mo_bound_14 rfl ?_
  refine en_callS (As := [.int (nI v)]) (st := []) (st1 := [.int (ew_b (sp_in (nI v) 12289))]) d_Mo_bound_15 k_Mo_isNumber tw_671 tw_672 rfl (Nat.le_of_ble_eq_true rfl) rfl (Nat.le_of_ble_eq_true rfl) rfl rfl (c_Mo_isNumber l g _ (ew_SH L) M (nI v)) rfl ?_
  refine en_b_ne (tgt := 23) d_Mo_bound_18 (by decide) (fun h18 => ?_) (fun h18 => by exact absurd h18 (by rw [sp_in_nI (by decide) hv]; decide))
  refine ew_aload_n d_Mo_bound_23 rfl ?_
  refine ew_geti (ci := 9) (f := 5) d_Mo_bound_24 rfl rfl rfl tw_597 ?_
  refine en_eq (st' := [.int (nI (r_bn ρ))]) rfl (by rw [show (M 47 5) = (nI (r_bn ρ)) from by (exact hr.2.2.2.1)]) rfl ?_
  refine ew_iconst (v := nI 4) d_Mo_bound_27 (by decide) ?_
  refine en_icmp_ne (tgt := 34) d_Mo_bound_28 (by decide) (by omega) (by omega) (fun h28 => ?_) (fun h28 => by exact absurd h28 (by omega))
  refine ew_aload_n d_Mo_bound_34 rfl ?_
  refine ew_getr (ci := 9) (f := 6) d_Mo_bound_35 rfl rfl rfl tw_598 ?_
  refine ew_aload_n d_Mo_bound_38 rfl ?_
  refine ew_geti (ci := 9) (f := 5) d_Mo_bound_39 rfl rfl rfl tw_597 ?_
  refine en_eq (st' := [.int (nI (r_bn ρ)), .ref 53]) rfl (by rw [show (M 47 5) = (nI (r_bn ρ)) from by (exact hr.2.2.2.1)]) rfl ?_
  refine ew_iload_n d_Mo_bound_42 rfl ?_
  refine ew_iast (j := r_bn ρ) d_Mo_bound_43 rfl (by decide) (rfl) (by omega) (by decide) ?_
  refine ew_aload_n d_Mo_bound_44 rfl ?_
  refine ew_getr (ci := 9) (f := 7) d_Mo_bound_45 rfl rfl rfl tw_599 ?_
  refine ew_aload_n d_Mo_bound_48 rfl ?_
  refine ew_geti (ci := 9) (f := 5) d_Mo_bound_49 rfl rfl rfl tw_597 ?_
  refine en_eq (st' := [.int (nI (r_bn ρ)), .ref 54]) rfl (by rw [show ((ew_w M 53 (r_bn ρ) (nI c)) 47 5) = (nI (r_bn ρ)) from by (rw [ew_w_ne (by decide)]; exact hr.2.2.2.1)]) rfl ?_
  refine ew_iload_n d_Mo_bound_52 rfl ?_
  refine ew_iast (j := r_bn ρ) d_Mo_bound_53 rfl (by decide) (rfl) (by omega) (by decide) ?_
  refine ew_aload_n d_Mo_bound_54 rfl ?_
  refine ew_getr (ci := 9) (f := 8) d_Mo_bound_55 rfl rfl rfl tw_600 ?_
  refine ew_aload_n d_Mo_bound_58 rfl ?_
  refine ew_geti (ci := 9) (f := 5) d_Mo_bound_59 rfl rfl rfl tw_597 ?_
  refine en_eq (st' := [.int (nI (r_bn ρ)), .ref 55]) rfl (by rw [show ((ew_w (ew_w M 53 (r_bn ρ) (nI c)) 54 (r_bn ρ) (nI r)) 47 5) = (nI (r_bn ρ)) from by (rw [ew_w_ne (by decide), ew_w_ne (by decide)]; exact hr.2.2.2.1)]) rfl ?_
  refine ew_iload_n d_Mo_bound_62 rfl ?_
  refine ew_iast (j := r_bn ρ) d_Mo_bound_63 rfl (by decide) (rfl) (by omega) (by decide) ?_
  refine ew_aload_n d_Mo_bound_64 rfl ?_
  refine ew_dupr d_Mo_bound_65 ?_
  refine ew_geti (ci := 9) (f := 5) d_Mo_bound_66 rfl rfl rfl tw_597 ?_
  refine en_eq (st' := [.int (nI (r_bn ρ)), .ref 47]) rfl (by rw [show ((ew_w (ew_w (ew_w M 53 (r_bn ρ) (nI c)) 54 (r_bn ρ) (nI r)) 55 (r_bn ρ) (nI v)) 47 5) = (nI (r_bn ρ)) from by (rw [ew_w_ne (by decide), ew_w_ne (by decide), ew_w_ne (by decide)]; exact hr.2.2.2.1)]) rfl ?_
  refine ew_iconst (v := nI 1) d_Mo_bound_69 (by decide) ?_
  refine en_iadd d_Mo_bound_70 ?_
  refine ew_puti (ci := 9) (f := 5) (ty := .int) d_Mo_bound_71 rfl (by decide) rfl rfl rfl (by decide +kernel) rfl rfl tw_597 ?_
  refine ew_aload_n d_Mo_bound_74 rfl ?_
  refine ew_geti (ci := 9) (f := 5) d_Mo_bound_75 rfl rfl rfl tw_597 ?_
  refine en_eq (st' := [.int (nI (r_bn ρ + 1))]) rfl (by rw [show ((ew_w (ew_w (ew_w (ew_w M 53 (r_bn ρ) (nI c)) 54 (r_bn ρ) (nI r)) 55 (r_bn ρ) (nI v)) 47 5 (nI ((r_bn ρ) + 1))) 47 5) = (nI (r_bn ρ + 1)) from ew_w_at]) rfl ?_
  exact ew_iret d_Mo_bound_78 rfl (⟨rfl, rfl, rfl⟩)
theorem sp_rm_addB {ρ : sp_R} {M : ew_M} (h : sp_rm ρ M) {c r v : Nat} (hc : c < 2) (hn : r_bn ρ < 4) (hr : r < 8) (hv : v < 12289) : sp_rm (sp_addB ρ c r v) (ew_w (ew_w (ew_w (ew_w M 53 (r_bn ρ) (nI c)) 54 (r_bn ρ) (nI r)) 55 (r_bn ρ) (nI v)) 47 5 (nI (r_bn ρ + 1))) := by
  obtain ⟨h0, h1, h2, h3, h4⟩ := h
  refine ⟨sp_okR_addB h0 hc hn hr hv, fun a ha => ?_, fun a t ha ht => ?_, ew_w_at, fun b hb => ?_⟩
  · rw [ew_w_ne (by decide), ew_w_ne (by decide), ew_w_ne (by decide), ew_w_ne (by decide)]
    exact h1 a ha
  · rw [ew_w_ne (by decide), ew_w_ne (by decide), ew_w_ne (by decide), ew_w_ne (by decide), ew_w_ne (by decide), ew_w_ne (by decide), ew_w_ne (by decide), ew_w_ne (by decide), ew_w_ne (by decide), ew_w_ne (by decide), ew_w_ne (by decide), ew_w_ne (by decide)]
    exact h2 a t ha ht
  · show _ = nI (up1 (r_bc ρ) (r_bn ρ) c b) ∧ _ = nI (up1 (r_br ρ) (r_bn ρ) r b) ∧ _ = nI (up1 (r_bv ρ) (r_bn ρ) v b)
    have hb' : b < r_bn ρ + 1 := hb
    unfold up1
    by_cases e : b = r_bn ρ
    · subst e
      rw [if_pos rfl, if_pos rfl, if_pos rfl]
      refine ⟨?_, ?_, ?_⟩
      · rw [ew_w_ne (by decide), ew_w_ne (by decide), ew_w_ne (by decide)]
        exact ew_w_at
      · rw [ew_w_ne (by decide), ew_w_ne (by decide)]
        exact ew_w_at
      · rw [ew_w_ne (by decide)]
        exact ew_w_at
    · rw [if_neg e, if_neg e, if_neg e]
      obtain ⟨z1, z2, z3⟩ := h4 b (by omega)
      refine ⟨?_, ?_, ?_⟩
      · rw [ew_w_ne (by decide), ew_w_ne (by decide), ew_w_ne (by decide), ew_w_j e]
        exact z1
      · rw [ew_w_ne (by decide), ew_w_ne (by decide), ew_w_j e, ew_w_ne (by decide)]
        exact z2
      · rw [ew_w_ne (by decide), ew_w_j e, ew_w_ne (by decide), ew_w_ne (by decide)]
        exact z3
set_option maxRecDepth 100000 in
theorem c_Mo_clear (l : Launch) (g : ew_G) (d L : Nat) (M : ew_M)  :
    Ew l g d 0 0 m_Mo_clear 0 [.ref 47] [] (ew_SH L) M (ew_q (none) (ew_SH L) (ew_w (ew_w (ew_w M 49 0 (nI 0)) 49 1 (nI 0)) 47 5 (nI 0))) := by
  refine ew_aload_n d_Mo_clear_0 rfl ?_
  refine ew_getr (ci := 9) (f := 1) d_Mo_clear_1 rfl rfl rfl tw_593 ?_
  refine ew_iconst (v := nI 0) d_Mo_clear_4 (by decide) ?_
  refine ew_iconst (v := nI 0) d_Mo_clear_5 (by decide) ?_
  refine ew_iast (j := 0) d_Mo_clear_6 rfl (by decide) (rfl) (by decide) (by decide) ?_
  refine ew_aload_n d_Mo_clear_7 rfl ?_
  refine ew_getr (ci := 9) (f := 1) d_Mo_clear_8 rfl rfl rfl tw_593 ?_
  refine ew_iconst (v := nI 1) d_Mo_clear_11 (by decide) ?_
  refine ew_iconst (v := nI 0) d_Mo_clear_12 (by decide) ?_
  refine ew_iast (j := 1) d_Mo_clear_13 rfl (by decide) (rfl) (by decide) (by decide) ?_
  refine ew_aload_n d_Mo_clear_14 rfl ?_
  refine ew_iconst (v := nI 0) d_Mo_clear_15 (by decide) ?_
  refine ew_puti (ci := 9) (f := 5) (ty := .int) d_Mo_clear_16 rfl (by decide) rfl rfl rfl (by decide +kernel) rfl rfl tw_597 ?_
  exact ew_ret d_Mo_clear_19 rfl (⟨rfl, rfl, rfl⟩)
theorem sp_rm_clr {ρ : sp_R} {M : ew_M} : sp_rm (sp_clr ρ) (ew_w (ew_w (ew_w M 49 0 (nI 0)) 49 1 (nI 0)) 47 5 (nI 0)) := by
  refine ⟨sp_okR_clr, fun c hc => ?_, fun c t _ ht => absurd ht (Nat.not_lt_zero _), ew_w_at, fun b hb => absurd hb (Nat.not_lt_zero _)⟩
  show _ = nI 0
  rw [ew_w_ne (by decide)]
  rcases (show c = 0 ∨ c = 1 by omega) with rfl | rfl
  · rw [ew_w_j (by decide)]
    exact ew_w_at
  · exact ew_w_at
set_option maxRecDepth 100000 in
theorem c_Mo_set (l : Launch) (g : ew_G) (d L : Nat) (M : ew_M) (c r v : Nat) (hc2 : c < 2) (hr8 : r < 8) (hv : v < 12289) :
    Ew l g (d + 1) 0 0 m_Mo_set 0 [.ref 47, .int (nI c), .int (nI r), .int (nI v)] [] (ew_SH L) M (ew_q (some (.int (nI 1))) (ew_SH L) (ew_w M 48 (8 * c + r) (nI v))) := by
  refine ew_iload_n d_Mo_set_0 rfl ?_
  refine en_callS (As := [.int (nI c)]) (st := []) (st1 := [.int (ew_b (sp_in (nI c) 2))]) d_Mo_set_1 k_Mo_isColumn tw_668 tw_669 rfl (Nat.le_of_ble_eq_true rfl) rfl (Nat.le_of_ble_eq_true rfl) rfl rfl (c_Mo_isColumn l g _ (ew_SH L) M (nI c)) rfl ?_
  refine en_b_eq (tgt := 21) d_Mo_set_4 (by decide) (fun h4 => by exact absurd h4 (by rw [sp_in_nI (by decide) hc2]; decide)) (fun h4 => ?_)
  refine ew_iload_n d_Mo_set_7 rfl ?_
  refine en_callS (As := [.int (nI r)]) (st := []) (st1 := [.int (ew_b (sp_in (nI r) 8))]) d_Mo_set_8 k_Mo_isRow tw_678 tw_679 rfl (Nat.le_of_ble_eq_true rfl) rfl (Nat.le_of_ble_eq_true rfl) rfl rfl (c_Mo_isRow l g _ (ew_SH L) M (nI r)) rfl ?_
  refine en_b_eq (tgt := 21) d_Mo_set_11 (by decide) (fun h11 => by exact absurd h11 (by rw [sp_in_nI (by decide) hr8]; decide)) (fun h11 => ?_)
  refine ew_iload_n d_Mo_set_14 rfl ?_
  refine en_callS (As := [.int (nI v)]) (st := []) (st1 := [.int (ew_b (sp_in (nI v) 12289))]) d_Mo_set_15 k_Mo_isNumber tw_671 tw_672 rfl (Nat.le_of_ble_eq_true rfl) rfl (Nat.le_of_ble_eq_true rfl) rfl rfl (c_Mo_isNumber l g _ (ew_SH L) M (nI v)) rfl ?_
  refine en_b_ne (tgt := 23) d_Mo_set_18 (by decide) (fun h18 => ?_) (fun h18 => by exact absurd h18 (by rw [sp_in_nI (by decide) hv]; decide))
  refine ew_aload_n d_Mo_set_23 rfl ?_
  refine ew_getr (ci := 9) (f := 0) d_Mo_set_24 rfl rfl rfl tw_592 ?_
  refine ew_bipush (v := nI 8) d_Mo_set_27 (by decide) ?_
  refine ew_iload_n d_Mo_set_29 rfl ?_
  refine en_imul d_Mo_set_30 ?_
  refine ew_iload_n d_Mo_set_31 rfl ?_
  refine en_iadd d_Mo_set_32 ?_
  refine ew_iload_n d_Mo_set_33 rfl ?_
  refine ew_iast (j := (8 * c) + r) d_Mo_set_34 rfl (by decide) (rfl) (by omega) (by decide) ?_
  refine ew_iconst (v := nI 1) d_Mo_set_35 (by decide) ?_
  exact ew_zret d_Mo_set_36 rfl (by decide) (⟨rfl, rfl, rfl⟩)
set_option maxRecDepth 100000 in
theorem c_Mo_cellB (l : Launch) (g : ew_G) (d L : Nat) (M : ew_M) (c r : Int32) (h : (sp_in c 2 && sp_in r 8) = false) :
    Ew l g (d + 1) 0 0 m_Mo_cell 0 [.ref 47, .int c, .int r] [] (ew_SH L) M (ew_q (some (.int (-1))) (ew_SH L) M) := by
  refine ew_iload_n d_Mo_cell_0 rfl ?_
  refine en_callS (As := [.int c]) (st := []) (st1 := [.int (ew_b (sp_in c 2))]) d_Mo_cell_1 k_Mo_isColumn tw_668 tw_669 rfl (Nat.le_of_ble_eq_true rfl) rfl (Nat.le_of_ble_eq_true rfl) rfl rfl (c_Mo_isColumn l g _ (ew_SH L) M c) rfl ?_
  refine en_b_eq (tgt := 28) d_Mo_cell_4 (by decide) (fun h4 => ?_) (fun h4 => ?_)
  · refine ew_iconst (v := -1) d_Mo_cell_28 (by decide) ?_
    exact ew_iret d_Mo_cell_29 rfl (⟨rfl, rfl, rfl⟩)
  · refine ew_iload_n d_Mo_cell_7 rfl ?_
    refine en_callS (As := [.int r]) (st := []) (st1 := [.int (ew_b (sp_in r 8))]) d_Mo_cell_8 k_Mo_isRow tw_678 tw_679 rfl (Nat.le_of_ble_eq_true rfl) rfl (Nat.le_of_ble_eq_true rfl) rfl rfl (c_Mo_isRow l g _ (ew_SH L) M r) rfl ?_
    refine en_b_eq (tgt := 28) d_Mo_cell_11 (by decide) (fun h11 => ?_) (fun h11 => ?_)
    · refine ew_iconst (v := -1) d_Mo_cell_28 (by decide) ?_
      exact ew_iret d_Mo_cell_29 rfl (⟨rfl, rfl, rfl⟩)
    · exact absurd h (by rw [h4, h11]; decide)
set_option maxRecDepth 100000 in
theorem c_Mo_cell (l : Launch) (g : ew_G) (d L : Nat) (M : ew_M) (ce : Nat → Nat → Nat) (hc : sp_cm ce M) (c r : Nat) (hc2 : c < 2) (hr8 : r < 8) :
    Ew l g (d + 1) 0 0 m_Mo_cell 0 [.ref 47, .int (nI c), .int (nI r)] [] (ew_SH L) M (ew_q (some (.int (nI (ce c r)))) (ew_SH L) M) := by
  refine ew_iload_n d_Mo_cell_0 rfl ?_
  refine en_callS (As := [.int (nI c)]) (st := []) (st1 := [.int (ew_b (sp_in (nI c) 2))]) d_Mo_cell_1 k_Mo_isColumn tw_668 tw_669 rfl (Nat.le_of_ble_eq_true rfl) rfl (Nat.le_of_ble_eq_true rfl) rfl rfl (c_Mo_isColumn l g _ (ew_SH L) M (nI c)) rfl ?_
  refine en_b_eq (tgt := 28) d_Mo_cell_4 (by decide) (fun h4 => by exact absurd h4 (by rw [sp_in_nI (by decide) hc2]; decide)) (fun h4 => ?_)
  refine ew_iload_n d_Mo_cell_7 rfl ?_
  refine en_callS (As := [.int (nI r)]) (st := []) (st1 := [.int (ew_b (sp_in (nI r) 8))]) d_Mo_cell_8 k_Mo_isRow tw_678 tw_679 rfl (Nat.le_of_ble_eq_true rfl) rfl (Nat.le_of_ble_eq_true rfl) rfl rfl (c_Mo_isRow l g _ (ew_SH L) M (nI r)) rfl ?_
  refine en_b_eq (tgt := 28) d_Mo_cell_11 (by decide) (fun h11 => by exact absurd h11 (by rw [sp_in_nI (by decide) hr8]; decide)) (fun h11 => ?_)
  refine ew_aload_n d_Mo_cell_14 rfl ?_
  refine ew_getr (ci := 9) (f := 0) d_Mo_cell_15 rfl rfl rfl tw_592 ?_
  refine ew_bipush (v := nI 8) d_Mo_cell_18 (by decide) ?_
  refine ew_iload_n d_Mo_cell_20 rfl ?_
  refine en_imul d_Mo_cell_21 ?_
  refine ew_iload_n d_Mo_cell_22 rfl ?_
  refine en_iadd d_Mo_cell_23 ?_
  refine ew_iald (j := (8 * c) + r) d_Mo_cell_24 rfl (rfl) (by omega) (by decide) ?_
  refine en_eq (st' := [.int (nI (ce c r))]) rfl (by rw [show (M 48 ((8 * c) + r)) = (nI (ce c r)) from (hc c r hc2 hr8).1]) rfl ?_
  refine ew_goto (tgt := 29) d_Mo_cell_25 (by decide) ?_
  exact ew_iret d_Mo_cell_29 rfl (⟨rfl, rfl, rfl⟩)
theorem sp_cm_set {ce : Nat → Nat → Nat} {M : ew_M} {c r v : Nat} (h : sp_cm ce M) (hc : c < 2) (hr : r < 8) (hv : v < 12289) : sp_cm (up2 ce c r v) (ew_w M 48 (8 * c + r) (nI v)) := by
  intro a b ha hb
  unfold up2
  by_cases e : a = c ∧ b = r
  · obtain ⟨rfl, rfl⟩ := e
    rw [if_pos ⟨rfl, rfl⟩]
    exact ⟨ew_w_at, hv⟩
  · rw [if_neg e, ew_w_j (fun q => e ⟨by omega, by omega⟩)]
    exact h a b ha hb
theorem sp_ce_set {ce : Nat → Nat → Nat} {M : ew_M} {c r v : Nat} (h : sp_ce ce M) (hc : c < 2) (hr : r < 8) (hv : v < 12289) : sp_ce (up2 ce c r v) (ew_w M (19 + c) r (nI v)) := by
  rcases (show c = 0 ∨ c = 1 by omega) with rfl | rfl
  · refine ⟨fun b hb => ?_, fun b hb => ?_⟩
    · unfold up2
      by_cases e : b = r
      · subst e
        rw [if_pos ⟨rfl, rfl⟩]
        exact ⟨ew_w_at, hv⟩
      · rw [if_neg (fun q => e q.2), ew_w_j e]
        exact h.1 b hb
    · unfold up2
      rw [if_neg (fun q => absurd q.1 (by decide)), ew_w_ne (by decide)]
      exact h.2 b hb
  · refine ⟨fun b hb => ?_, fun b hb => ?_⟩
    · unfold up2
      rw [if_neg (fun q => absurd q.1 (by decide)), ew_w_ne (by decide)]
      exact h.1 b hb
    · unfold up2
      by_cases e : b = r
      · subst e
        rw [if_pos ⟨rfl, rfl⟩]
        exact ⟨ew_w_at, hv⟩
      · rw [if_neg (fun q => e q.2), ew_w_j e]
        exact h.2 b hb
