def sp_st (M : ew_M) : Prop := (M 1 0 = nI 0 ∧ M 1 1 = nI 4 ∧ M 1 2 = nI 16 ∧ M 1 3 = nI 20) ∧ M 2 0 = nI 28 ∧ M 2 1 = nI 40 ∧ M 2 2 = nI 50
theorem sp_st_of {M M' : ew_M} (h : sp_st M) (h1 : M' 1 = M 1) (h2 : M' 2 = M 2) : sp_st M' := by
  unfold sp_st at h ⊢
  rw [h1, h2]
  exact h
theorem ew_upup {M : ew_M} {i : Nat} {f h : Nat → Int32} : ew_up (ew_up M i f) i h = ew_up M i h := by
  funext q
  unfold ew_up
  by_cases e : q = i
  · simp [e]
  · simp [e]
set_option maxRecDepth 100000 in
theorem c_Pf_columnStart (l : Launch) (g : ew_G) (d L : Nat) (M : ew_M) (k q : Nat) :
    Ew l g d 0 0 m_Pf_columnStart 0 [.int (nI k), .int (nI q)] [] (ew_SH L) M (ew_q (some (.int (nI (5 + 58 * k + 7 * q)))) (ew_SH L) M) := by
  refine ew_iconst (v := nI 5) d_Pf_columnStart_0 (by decide) ?_
  refine ew_bipush (v := nI 58) d_Pf_columnStart_1 (by decide) ?_
  refine ew_iload_n d_Pf_columnStart_3 rfl ?_
  refine en_imul d_Pf_columnStart_4 ?_
  refine en_iadd d_Pf_columnStart_5 ?_
  refine ew_bipush (v := nI 7) d_Pf_columnStart_6 (by decide) ?_
  refine ew_iload_n d_Pf_columnStart_8 rfl ?_
  refine en_imul d_Pf_columnStart_9 ?_
  refine en_iadd d_Pf_columnStart_10 ?_
  exact ew_iret d_Pf_columnStart_11 rfl (⟨rfl, rfl, rfl⟩)
set_option maxRecDepth 100000 in
theorem c_Pf_columnIndex0 (l : Launch) (g : ew_G) (d L : Nat) (M : ew_M) (hs : sp_st M) (j : Nat) (hj : j < 16) :
    Ew l g d 0 0 m_Pf_columnIndex 0 [.int (nI j), .int (nI 0)] [] (ew_SH L) M (ew_q (some (.int (nI ((j + 0) % 32)))) (ew_SH L) M) := by
  refine ew_iload_n d_Pf_columnIndex_0 rfl ?_
  refine ew_gets (i := 1) d_Pf_columnIndex_1 (by decide) tw_470 ?_
  refine ew_iload_n d_Pf_columnIndex_4 rfl ?_
  refine ew_iald (j := 0) d_Pf_columnIndex_5 rfl (rfl) (by decide) (by decide) ?_
  refine en_eq (st' := [.int (nI 0), .int (nI j)]) rfl (by rw [show (M 1 0) = (nI 0) from hs.1.1]) rfl ?_
  refine en_iadd d_Pf_columnIndex_6 ?_
  refine ew_bipush (v := nI 32) d_Pf_columnIndex_7 (by decide) ?_
  refine en_irem d_Pf_columnIndex_9 (by first | with_reducible assumption | with_reducible exact ep_lt _ | with_reducible exact sp_its_lt _ _ _ | with_reducible exact tb_l_rt _ | with_reducible exact tb_l_x _ | with_reducible exact tb_l_o0 _ | with_reducible exact tb_l_o1 _ | with_reducible exact tb_l_va _ | with_reducible exact tb_l_ll _ | with_reducible exact tb_l_cf _ | with_reducible exact tb_l_kf _ | with_reducible exact sp_ts_lt _ _ _ _ | with_reducible exact sp_w_lt _ _ | with_reducible exact sp_cs_lt _ _ _ _ _ | with_reducible exact sp_cb_lt _ _ _ _ _ | with_reducible exact sp_ch_lt _ | with_reducible exact sp_bf_lt _ _ | omega) (by decide) (by decide) ?_
  exact ew_iret d_Pf_columnIndex_10 rfl (⟨rfl, rfl, rfl⟩)
set_option maxRecDepth 100000 in
theorem c_Pf_columnIndex1 (l : Launch) (g : ew_G) (d L : Nat) (M : ew_M) (hs : sp_st M) (j : Nat) (hj : j < 16) :
    Ew l g d 0 0 m_Pf_columnIndex 0 [.int (nI j), .int (nI 1)] [] (ew_SH L) M (ew_q (some (.int (nI ((j + 4) % 32)))) (ew_SH L) M) := by
  refine ew_iload_n d_Pf_columnIndex_0 rfl ?_
  refine ew_gets (i := 1) d_Pf_columnIndex_1 (by decide) tw_470 ?_
  refine ew_iload_n d_Pf_columnIndex_4 rfl ?_
  refine ew_iald (j := 1) d_Pf_columnIndex_5 rfl (rfl) (by decide) (by decide) ?_
  refine en_eq (st' := [.int (nI 4), .int (nI j)]) rfl (by rw [show (M 1 1) = (nI 4) from hs.1.2.1]) rfl ?_
  refine en_iadd d_Pf_columnIndex_6 ?_
  refine ew_bipush (v := nI 32) d_Pf_columnIndex_7 (by decide) ?_
  refine en_irem d_Pf_columnIndex_9 (by first | with_reducible assumption | with_reducible exact ep_lt _ | with_reducible exact sp_its_lt _ _ _ | with_reducible exact tb_l_rt _ | with_reducible exact tb_l_x _ | with_reducible exact tb_l_o0 _ | with_reducible exact tb_l_o1 _ | with_reducible exact tb_l_va _ | with_reducible exact tb_l_ll _ | with_reducible exact tb_l_cf _ | with_reducible exact tb_l_kf _ | with_reducible exact sp_ts_lt _ _ _ _ | with_reducible exact sp_w_lt _ _ | with_reducible exact sp_cs_lt _ _ _ _ _ | with_reducible exact sp_cb_lt _ _ _ _ _ | with_reducible exact sp_ch_lt _ | with_reducible exact sp_bf_lt _ _ | omega) (by decide) (by decide) ?_
  exact ew_iret d_Pf_columnIndex_10 rfl (⟨rfl, rfl, rfl⟩)
set_option maxRecDepth 100000 in
theorem c_Pf_columnIndex2 (l : Launch) (g : ew_G) (d L : Nat) (M : ew_M) (hs : sp_st M) (j : Nat) (hj : j < 16) :
    Ew l g d 0 0 m_Pf_columnIndex 0 [.int (nI j), .int (nI 2)] [] (ew_SH L) M (ew_q (some (.int (nI ((j + 16) % 32)))) (ew_SH L) M) := by
  refine ew_iload_n d_Pf_columnIndex_0 rfl ?_
  refine ew_gets (i := 1) d_Pf_columnIndex_1 (by decide) tw_470 ?_
  refine ew_iload_n d_Pf_columnIndex_4 rfl ?_
  refine ew_iald (j := 2) d_Pf_columnIndex_5 rfl (rfl) (by decide) (by decide) ?_
  refine en_eq (st' := [.int (nI 16), .int (nI j)]) rfl (by rw [show (M 1 2) = (nI 16) from hs.1.2.2.1]) rfl ?_
  refine en_iadd d_Pf_columnIndex_6 ?_
  refine ew_bipush (v := nI 32) d_Pf_columnIndex_7 (by decide) ?_
  refine en_irem d_Pf_columnIndex_9 (by first | with_reducible assumption | with_reducible exact ep_lt _ | with_reducible exact sp_its_lt _ _ _ | with_reducible exact tb_l_rt _ | with_reducible exact tb_l_x _ | with_reducible exact tb_l_o0 _ | with_reducible exact tb_l_o1 _ | with_reducible exact tb_l_va _ | with_reducible exact tb_l_ll _ | with_reducible exact tb_l_cf _ | with_reducible exact tb_l_kf _ | with_reducible exact sp_ts_lt _ _ _ _ | with_reducible exact sp_w_lt _ _ | with_reducible exact sp_cs_lt _ _ _ _ _ | with_reducible exact sp_cb_lt _ _ _ _ _ | with_reducible exact sp_ch_lt _ | with_reducible exact sp_bf_lt _ _ | omega) (by decide) (by decide) ?_
  exact ew_iret d_Pf_columnIndex_10 rfl (⟨rfl, rfl, rfl⟩)
set_option maxRecDepth 100000 in
theorem c_Pf_columnIndex3 (l : Launch) (g : ew_G) (d L : Nat) (M : ew_M) (hs : sp_st M) (j : Nat) (hj : j < 16) :
    Ew l g d 0 0 m_Pf_columnIndex 0 [.int (nI j), .int (nI 3)] [] (ew_SH L) M (ew_q (some (.int (nI ((j + 20) % 32)))) (ew_SH L) M) := by
  refine ew_iload_n d_Pf_columnIndex_0 rfl ?_
  refine ew_gets (i := 1) d_Pf_columnIndex_1 (by decide) tw_470 ?_
  refine ew_iload_n d_Pf_columnIndex_4 rfl ?_
  refine ew_iald (j := 3) d_Pf_columnIndex_5 rfl (rfl) (by decide) (by decide) ?_
  refine en_eq (st' := [.int (nI 20), .int (nI j)]) rfl (by rw [show (M 1 3) = (nI 20) from hs.1.2.2.2]) rfl ?_
  refine en_iadd d_Pf_columnIndex_6 ?_
  refine ew_bipush (v := nI 32) d_Pf_columnIndex_7 (by decide) ?_
  refine en_irem d_Pf_columnIndex_9 (by first | with_reducible assumption | with_reducible exact ep_lt _ | with_reducible exact sp_its_lt _ _ _ | with_reducible exact tb_l_rt _ | with_reducible exact tb_l_x _ | with_reducible exact tb_l_o0 _ | with_reducible exact tb_l_o1 _ | with_reducible exact tb_l_va _ | with_reducible exact tb_l_ll _ | with_reducible exact tb_l_cf _ | with_reducible exact tb_l_kf _ | with_reducible exact sp_ts_lt _ _ _ _ | with_reducible exact sp_w_lt _ _ | with_reducible exact sp_cs_lt _ _ _ _ _ | with_reducible exact sp_cb_lt _ _ _ _ _ | with_reducible exact sp_ch_lt _ | with_reducible exact sp_bf_lt _ _ | omega) (by decide) (by decide) ?_
  exact ew_iret d_Pf_columnIndex_10 rfl (⟨rfl, rfl, rfl⟩)
set_option maxRecDepth 100000 in
theorem c_Pf_layerStart0 (l : Launch) (g : ew_G) (d L : Nat) (M : ew_M) (hs : sp_st M) (k q : Nat) :
    Ew l g d 0 0 m_Pf_layerStart 0 [.int (nI k), .int (nI 0), .int (nI q)] [] (ew_SH L) M (ew_q (some (.int (nI (5 + 58 * k + 28 + 6 * q)))) (ew_SH L) M) := by
  refine ew_iconst (v := nI 5) d_Pf_layerStart_0 (by decide) ?_
  refine ew_bipush (v := nI 58) d_Pf_layerStart_1 (by decide) ?_
  refine ew_iload_n d_Pf_layerStart_3 rfl ?_
  refine en_imul d_Pf_layerStart_4 ?_
  refine en_iadd d_Pf_layerStart_5 ?_
  refine ew_gets (i := 2) d_Pf_layerStart_6 (by decide) tw_490 ?_
  refine ew_iload_n d_Pf_layerStart_9 rfl ?_
  refine ew_iald (j := 0) d_Pf_layerStart_10 rfl (rfl) (by decide) (by decide) ?_
  refine en_eq (st' := [.int (nI 28), .int (nI (5 + (58 * k)))]) rfl (by rw [show (M 2 0) = (nI 28) from hs.2.1]) rfl ?_
  refine en_iadd d_Pf_layerStart_11 ?_
  refine ew_bipush (v := nI 6) d_Pf_layerStart_12 (by decide) ?_
  refine ew_iload_n d_Pf_layerStart_14 rfl ?_
  refine en_isub d_Pf_layerStart_15 (by first | with_reducible assumption | with_reducible exact ep_lt _ | with_reducible exact sp_its_lt _ _ _ | with_reducible exact tb_l_rt _ | with_reducible exact tb_l_x _ | with_reducible exact tb_l_o0 _ | with_reducible exact tb_l_o1 _ | with_reducible exact tb_l_va _ | with_reducible exact tb_l_ll _ | with_reducible exact tb_l_cf _ | with_reducible exact tb_l_kf _ | with_reducible exact sp_ts_lt _ _ _ _ | with_reducible exact sp_w_lt _ _ | with_reducible exact sp_cs_lt _ _ _ _ _ | with_reducible exact sp_cb_lt _ _ _ _ _ | with_reducible exact sp_ch_lt _ | with_reducible exact sp_bf_lt _ _ | omega) ?_
  refine en_eq rfl (show _ = [.int (nI 6), .int (nI ((5 + (58 * k)) + 28))] from rfl) rfl ?_
  refine ew_iload_n d_Pf_layerStart_16 rfl ?_
  refine en_imul d_Pf_layerStart_17 ?_
  refine en_iadd d_Pf_layerStart_18 ?_
  exact ew_iret d_Pf_layerStart_19 rfl (⟨rfl, rfl, rfl⟩)
set_option maxRecDepth 100000 in
theorem c_Pf_layerSize0 (l : Launch) (g : ew_G) (d L : Nat) (M : ew_M)  :
    Ew l g d 0 0 m_Pf_layerSize 0 [.int (nI 0)] [] (ew_SH L) M (ew_q (some (.int (nI 32))) (ew_SH L) M) := by
  refine ew_bipush (v := nI 32) d_Pf_layerSize_0 (by decide) ?_
  refine ew_iload_n d_Pf_layerSize_2 rfl ?_
  refine ew_ishr d_Pf_layerSize_3 ?_
  refine en_eq (st' := [.int (nI 32)]) rfl (by rw [show ((nI 32) >>> ((nI 0) &&& 31)) = (nI 32) from by decide]) rfl ?_
  exact ew_iret d_Pf_layerSize_4 rfl (⟨rfl, rfl, rfl⟩)
set_option maxRecDepth 100000 in
theorem c_Pf_layerStart1 (l : Launch) (g : ew_G) (d L : Nat) (M : ew_M) (hs : sp_st M) (k q : Nat) :
    Ew l g d 0 0 m_Pf_layerStart 0 [.int (nI k), .int (nI 1), .int (nI q)] [] (ew_SH L) M (ew_q (some (.int (nI (5 + 58 * k + 40 + 5 * q)))) (ew_SH L) M) := by
  refine ew_iconst (v := nI 5) d_Pf_layerStart_0 (by decide) ?_
  refine ew_bipush (v := nI 58) d_Pf_layerStart_1 (by decide) ?_
  refine ew_iload_n d_Pf_layerStart_3 rfl ?_
  refine en_imul d_Pf_layerStart_4 ?_
  refine en_iadd d_Pf_layerStart_5 ?_
  refine ew_gets (i := 2) d_Pf_layerStart_6 (by decide) tw_490 ?_
  refine ew_iload_n d_Pf_layerStart_9 rfl ?_
  refine ew_iald (j := 1) d_Pf_layerStart_10 rfl (rfl) (by decide) (by decide) ?_
  refine en_eq (st' := [.int (nI 40), .int (nI (5 + (58 * k)))]) rfl (by rw [show (M 2 1) = (nI 40) from hs.2.2.1]) rfl ?_
  refine en_iadd d_Pf_layerStart_11 ?_
  refine ew_bipush (v := nI 6) d_Pf_layerStart_12 (by decide) ?_
  refine ew_iload_n d_Pf_layerStart_14 rfl ?_
  refine en_isub d_Pf_layerStart_15 (by first | with_reducible assumption | with_reducible exact ep_lt _ | with_reducible exact sp_its_lt _ _ _ | with_reducible exact tb_l_rt _ | with_reducible exact tb_l_x _ | with_reducible exact tb_l_o0 _ | with_reducible exact tb_l_o1 _ | with_reducible exact tb_l_va _ | with_reducible exact tb_l_ll _ | with_reducible exact tb_l_cf _ | with_reducible exact tb_l_kf _ | with_reducible exact sp_ts_lt _ _ _ _ | with_reducible exact sp_w_lt _ _ | with_reducible exact sp_cs_lt _ _ _ _ _ | with_reducible exact sp_cb_lt _ _ _ _ _ | with_reducible exact sp_ch_lt _ | with_reducible exact sp_bf_lt _ _ | omega) ?_
  refine en_eq rfl (show _ = [.int (nI 5), .int (nI ((5 + (58 * k)) + 40))] from rfl) rfl ?_
  refine ew_iload_n d_Pf_layerStart_16 rfl ?_
  refine en_imul d_Pf_layerStart_17 ?_
  refine en_iadd d_Pf_layerStart_18 ?_
  exact ew_iret d_Pf_layerStart_19 rfl (⟨rfl, rfl, rfl⟩)
set_option maxRecDepth 100000 in
theorem c_Pf_layerSize1 (l : Launch) (g : ew_G) (d L : Nat) (M : ew_M)  :
    Ew l g d 0 0 m_Pf_layerSize 0 [.int (nI 1)] [] (ew_SH L) M (ew_q (some (.int (nI 16))) (ew_SH L) M) := by
  refine ew_bipush (v := nI 32) d_Pf_layerSize_0 (by decide) ?_
  refine ew_iload_n d_Pf_layerSize_2 rfl ?_
  refine ew_ishr d_Pf_layerSize_3 ?_
  refine en_eq (st' := [.int (nI 16)]) rfl (by rw [show ((nI 32) >>> ((nI 1) &&& 31)) = (nI 16) from by decide]) rfl ?_
  exact ew_iret d_Pf_layerSize_4 rfl (⟨rfl, rfl, rfl⟩)
set_option maxRecDepth 100000 in
theorem c_Pf_layerStart2 (l : Launch) (g : ew_G) (d L : Nat) (M : ew_M) (hs : sp_st M) (k q : Nat) :
    Ew l g d 0 0 m_Pf_layerStart 0 [.int (nI k), .int (nI 2), .int (nI q)] [] (ew_SH L) M (ew_q (some (.int (nI (5 + 58 * k + 50 + 4 * q)))) (ew_SH L) M) := by
  refine ew_iconst (v := nI 5) d_Pf_layerStart_0 (by decide) ?_
  refine ew_bipush (v := nI 58) d_Pf_layerStart_1 (by decide) ?_
  refine ew_iload_n d_Pf_layerStart_3 rfl ?_
  refine en_imul d_Pf_layerStart_4 ?_
  refine en_iadd d_Pf_layerStart_5 ?_
  refine ew_gets (i := 2) d_Pf_layerStart_6 (by decide) tw_490 ?_
  refine ew_iload_n d_Pf_layerStart_9 rfl ?_
  refine ew_iald (j := 2) d_Pf_layerStart_10 rfl (rfl) (by decide) (by decide) ?_
  refine en_eq (st' := [.int (nI 50), .int (nI (5 + (58 * k)))]) rfl (by rw [show (M 2 2) = (nI 50) from hs.2.2.2]) rfl ?_
  refine en_iadd d_Pf_layerStart_11 ?_
  refine ew_bipush (v := nI 6) d_Pf_layerStart_12 (by decide) ?_
  refine ew_iload_n d_Pf_layerStart_14 rfl ?_
  refine en_isub d_Pf_layerStart_15 (by first | with_reducible assumption | with_reducible exact ep_lt _ | with_reducible exact sp_its_lt _ _ _ | with_reducible exact tb_l_rt _ | with_reducible exact tb_l_x _ | with_reducible exact tb_l_o0 _ | with_reducible exact tb_l_o1 _ | with_reducible exact tb_l_va _ | with_reducible exact tb_l_ll _ | with_reducible exact tb_l_cf _ | with_reducible exact tb_l_kf _ | with_reducible exact sp_ts_lt _ _ _ _ | with_reducible exact sp_w_lt _ _ | with_reducible exact sp_cs_lt _ _ _ _ _ | with_reducible exact sp_cb_lt _ _ _ _ _ | with_reducible exact sp_ch_lt _ | with_reducible exact sp_bf_lt _ _ | omega) ?_
  refine en_eq rfl (show _ = [.int (nI 4), .int (nI ((5 + (58 * k)) + 50))] from rfl) rfl ?_
  refine ew_iload_n d_Pf_layerStart_16 rfl ?_
  refine en_imul d_Pf_layerStart_17 ?_
  refine en_iadd d_Pf_layerStart_18 ?_
  exact ew_iret d_Pf_layerStart_19 rfl (⟨rfl, rfl, rfl⟩)
set_option maxRecDepth 100000 in
theorem c_Pf_layerSize2 (l : Launch) (g : ew_G) (d L : Nat) (M : ew_M)  :
    Ew l g d 0 0 m_Pf_layerSize 0 [.int (nI 2)] [] (ew_SH L) M (ew_q (some (.int (nI 8))) (ew_SH L) M) := by
  refine ew_bipush (v := nI 32) d_Pf_layerSize_0 (by decide) ?_
  refine ew_iload_n d_Pf_layerSize_2 rfl ?_
  refine ew_ishr d_Pf_layerSize_3 ?_
  refine en_eq (st' := [.int (nI 8)]) rfl (by rw [show ((nI 32) >>> ((nI 2) &&& 31)) = (nI 8) from by decide]) rfl ?_
  exact ew_iret d_Pf_layerSize_4 rfl (⟨rfl, rfl, rfl⟩)
set_option maxRecDepth 100000 in
theorem c_Pf_layerIndex0 (l : Launch) (g : ew_G) (d L : Nat) (M : ew_M) (j q : Nat) (hj : j < 16) :
    Ew l g (d + 1) 0 0 m_Pf_layerIndex 0 [.int (nI j), .int (nI 0), .int (nI q), .retAddr 0] [] (ew_SH L) M (ew_q (some (.int (nI (j % 16 + 16 * q)))) (ew_SH L) M) := by
  refine ew_iload_n d_Pf_layerIndex_0 rfl ?_
  refine en_callS (As := [.int (nI 0)]) (st := []) (st1 := [.int (nI 32)]) d_Pf_layerIndex_1 k_Pf_layerSize tw_486 tw_162 rfl (Nat.le_of_ble_eq_true rfl) rfl (Nat.le_of_ble_eq_true rfl) rfl rfl (c_Pf_layerSize0 l g _ L M) rfl ?_
  refine ew_iconst (v := nI 2) d_Pf_layerIndex_4 (by decide) ?_
  refine en_idiv d_Pf_layerIndex_5 (by first | with_reducible assumption | with_reducible exact ep_lt _ | with_reducible exact sp_its_lt _ _ _ | with_reducible exact tb_l_rt _ | with_reducible exact tb_l_x _ | with_reducible exact tb_l_o0 _ | with_reducible exact tb_l_o1 _ | with_reducible exact tb_l_va _ | with_reducible exact tb_l_ll _ | with_reducible exact tb_l_cf _ | with_reducible exact tb_l_kf _ | with_reducible exact sp_ts_lt _ _ _ _ | with_reducible exact sp_w_lt _ _ | with_reducible exact sp_cs_lt _ _ _ _ _ | with_reducible exact sp_cb_lt _ _ _ _ _ | with_reducible exact sp_ch_lt _ | with_reducible exact sp_bf_lt _ _ | omega) (by decide) (by decide) ?_
  refine en_eq rfl (show _ = [.int (nI 16)] from rfl) rfl ?_
  refine en_istore_n (ls' := [.int (nI j), .int (nI 0), .int (nI q), .int (nI 16)]) d_Pf_layerIndex_6 (Nat.le_of_ble_eq_true rfl) rfl ?_
  refine ew_iload_n d_Pf_layerIndex_7 rfl ?_
  refine ew_iload_n d_Pf_layerIndex_8 rfl ?_
  refine en_irem d_Pf_layerIndex_9 (by first | with_reducible assumption | with_reducible exact ep_lt _ | with_reducible exact sp_its_lt _ _ _ | with_reducible exact tb_l_rt _ | with_reducible exact tb_l_x _ | with_reducible exact tb_l_o0 _ | with_reducible exact tb_l_o1 _ | with_reducible exact tb_l_va _ | with_reducible exact tb_l_ll _ | with_reducible exact tb_l_cf _ | with_reducible exact tb_l_kf _ | with_reducible exact sp_ts_lt _ _ _ _ | with_reducible exact sp_w_lt _ _ | with_reducible exact sp_cs_lt _ _ _ _ _ | with_reducible exact sp_cb_lt _ _ _ _ _ | with_reducible exact sp_ch_lt _ | with_reducible exact sp_bf_lt _ _ | omega) (by decide) (by decide) ?_
  refine ew_iload_n d_Pf_layerIndex_10 rfl ?_
  refine ew_iload_n d_Pf_layerIndex_11 rfl ?_
  refine en_imul d_Pf_layerIndex_12 ?_
  refine en_iadd d_Pf_layerIndex_13 ?_
  exact ew_iret d_Pf_layerIndex_14 rfl (⟨rfl, rfl, rfl⟩)
set_option maxRecDepth 100000 in
theorem c_Pf_layerIndex1 (l : Launch) (g : ew_G) (d L : Nat) (M : ew_M) (j q : Nat) (hj : j < 16) :
    Ew l g (d + 1) 0 0 m_Pf_layerIndex 0 [.int (nI j), .int (nI 1), .int (nI q), .retAddr 0] [] (ew_SH L) M (ew_q (some (.int (nI (j % 8 + 8 * q)))) (ew_SH L) M) := by
  refine ew_iload_n d_Pf_layerIndex_0 rfl ?_
  refine en_callS (As := [.int (nI 1)]) (st := []) (st1 := [.int (nI 16)]) d_Pf_layerIndex_1 k_Pf_layerSize tw_486 tw_162 rfl (Nat.le_of_ble_eq_true rfl) rfl (Nat.le_of_ble_eq_true rfl) rfl rfl (c_Pf_layerSize1 l g _ L M) rfl ?_
  refine ew_iconst (v := nI 2) d_Pf_layerIndex_4 (by decide) ?_
  refine en_idiv d_Pf_layerIndex_5 (by first | with_reducible assumption | with_reducible exact ep_lt _ | with_reducible exact sp_its_lt _ _ _ | with_reducible exact tb_l_rt _ | with_reducible exact tb_l_x _ | with_reducible exact tb_l_o0 _ | with_reducible exact tb_l_o1 _ | with_reducible exact tb_l_va _ | with_reducible exact tb_l_ll _ | with_reducible exact tb_l_cf _ | with_reducible exact tb_l_kf _ | with_reducible exact sp_ts_lt _ _ _ _ | with_reducible exact sp_w_lt _ _ | with_reducible exact sp_cs_lt _ _ _ _ _ | with_reducible exact sp_cb_lt _ _ _ _ _ | with_reducible exact sp_ch_lt _ | with_reducible exact sp_bf_lt _ _ | omega) (by decide) (by decide) ?_
  refine en_eq rfl (show _ = [.int (nI 8)] from rfl) rfl ?_
  refine en_istore_n (ls' := [.int (nI j), .int (nI 1), .int (nI q), .int (nI 8)]) d_Pf_layerIndex_6 (Nat.le_of_ble_eq_true rfl) rfl ?_
  refine ew_iload_n d_Pf_layerIndex_7 rfl ?_
  refine ew_iload_n d_Pf_layerIndex_8 rfl ?_
  refine en_irem d_Pf_layerIndex_9 (by first | with_reducible assumption | with_reducible exact ep_lt _ | with_reducible exact sp_its_lt _ _ _ | with_reducible exact tb_l_rt _ | with_reducible exact tb_l_x _ | with_reducible exact tb_l_o0 _ | with_reducible exact tb_l_o1 _ | with_reducible exact tb_l_va _ | with_reducible exact tb_l_ll _ | with_reducible exact tb_l_cf _ | with_reducible exact tb_l_kf _ | with_reducible exact sp_ts_lt _ _ _ _ | with_reducible exact sp_w_lt _ _ | with_reducible exact sp_cs_lt _ _ _ _ _ | with_reducible exact sp_cb_lt _ _ _ _ _ | with_reducible exact sp_ch_lt _ | with_reducible exact sp_bf_lt _ _ | omega) (by decide) (by decide) ?_
  refine ew_iload_n d_Pf_layerIndex_10 rfl ?_
  refine ew_iload_n d_Pf_layerIndex_11 rfl ?_
  refine en_imul d_Pf_layerIndex_12 ?_
  refine en_iadd d_Pf_layerIndex_13 ?_
  exact ew_iret d_Pf_layerIndex_14 rfl (⟨rfl, rfl, rfl⟩)
set_option maxRecDepth 100000 in
theorem c_Pf_layerIndex2 (l : Launch) (g : ew_G) (d L : Nat) (M : ew_M) (j q : Nat) (hj : j < 16) :
    Ew l g (d + 1) 0 0 m_Pf_layerIndex 0 [.int (nI j), .int (nI 2), .int (nI q), .retAddr 0] [] (ew_SH L) M (ew_q (some (.int (nI (j % 4 + 4 * q)))) (ew_SH L) M) := by
  refine ew_iload_n d_Pf_layerIndex_0 rfl ?_
  refine en_callS (As := [.int (nI 2)]) (st := []) (st1 := [.int (nI 8)]) d_Pf_layerIndex_1 k_Pf_layerSize tw_486 tw_162 rfl (Nat.le_of_ble_eq_true rfl) rfl (Nat.le_of_ble_eq_true rfl) rfl rfl (c_Pf_layerSize2 l g _ L M) rfl ?_
  refine ew_iconst (v := nI 2) d_Pf_layerIndex_4 (by decide) ?_
  refine en_idiv d_Pf_layerIndex_5 (by first | with_reducible assumption | with_reducible exact ep_lt _ | with_reducible exact sp_its_lt _ _ _ | with_reducible exact tb_l_rt _ | with_reducible exact tb_l_x _ | with_reducible exact tb_l_o0 _ | with_reducible exact tb_l_o1 _ | with_reducible exact tb_l_va _ | with_reducible exact tb_l_ll _ | with_reducible exact tb_l_cf _ | with_reducible exact tb_l_kf _ | with_reducible exact sp_ts_lt _ _ _ _ | with_reducible exact sp_w_lt _ _ | with_reducible exact sp_cs_lt _ _ _ _ _ | with_reducible exact sp_cb_lt _ _ _ _ _ | with_reducible exact sp_ch_lt _ | with_reducible exact sp_bf_lt _ _ | omega) (by decide) (by decide) ?_
  refine en_eq rfl (show _ = [.int (nI 4)] from rfl) rfl ?_
  refine en_istore_n (ls' := [.int (nI j), .int (nI 2), .int (nI q), .int (nI 4)]) d_Pf_layerIndex_6 (Nat.le_of_ble_eq_true rfl) rfl ?_
  refine ew_iload_n d_Pf_layerIndex_7 rfl ?_
  refine ew_iload_n d_Pf_layerIndex_8 rfl ?_
  refine en_irem d_Pf_layerIndex_9 (by first | with_reducible assumption | with_reducible exact ep_lt _ | with_reducible exact sp_its_lt _ _ _ | with_reducible exact tb_l_rt _ | with_reducible exact tb_l_x _ | with_reducible exact tb_l_o0 _ | with_reducible exact tb_l_o1 _ | with_reducible exact tb_l_va _ | with_reducible exact tb_l_ll _ | with_reducible exact tb_l_cf _ | with_reducible exact tb_l_kf _ | with_reducible exact sp_ts_lt _ _ _ _ | with_reducible exact sp_w_lt _ _ | with_reducible exact sp_cs_lt _ _ _ _ _ | with_reducible exact sp_cb_lt _ _ _ _ _ | with_reducible exact sp_ch_lt _ | with_reducible exact sp_bf_lt _ _ | omega) (by decide) (by decide) ?_
  refine ew_iload_n d_Pf_layerIndex_10 rfl ?_
  refine ew_iload_n d_Pf_layerIndex_11 rfl ?_
  refine en_imul d_Pf_layerIndex_12 ?_
  refine en_iadd d_Pf_layerIndex_13 ?_
  exact ew_iret d_Pf_layerIndex_14 rfl (⟨rfl, rfl, rfl⟩)
set_option maxRecDepth 100000 in
theorem c_Pf_columnLeaf (l : Launch) (g : ew_G) (d L : Nat) (M : ew_M) (x y : Int32) :
    Ew l g (d + 2) 0 0 m_Pf_columnLeaf 0 [.int x, .int y] [] (ew_SH L) M (ew_q (some (.int (sp_mix x y))) (ew_SH L) M) := by
  refine ew_iload_n d_Pf_columnLeaf_0 rfl ?_
  refine ew_iload_n d_Pf_columnLeaf_1 rfl ?_
  refine en_callSN (As := [.int x, .int y]) (st := []) (st1 := [.int (sp_mix x y)]) d_Pf_columnLeaf_2 k_P_mix tw_375 tw_376 rfl (Nat.le_of_ble_eq_true rfl) rfl (Nat.le_of_ble_eq_true rfl) rfl rfl (c_P_mix l g _ (ew_SH L) M x y) rfl ?_
  exact ew_iret d_Pf_columnLeaf_5 rfl (⟨rfl, rfl, rfl⟩)
set_option maxRecDepth 100000 in
theorem c_Pf_layerLeaf (l : Launch) (g : ew_G) (d L : Nat) (M : ew_M) (x : Int32) :
    Ew l g (d + 2) 0 0 m_Pf_layerLeaf 0 [.int x] [] (ew_SH L) M (ew_q (some (.int (sp_mix x (nI 12289)))) (ew_SH L) M) := by
  refine ew_iload_n d_Pf_layerLeaf_0 rfl ?_
  refine ew_sipush (v := nI 12289) d_Pf_layerLeaf_1 (by decide) ?_
  refine en_callSN (As := [.int x, .int (nI 12289)]) (st := []) (st1 := [.int (sp_mix x (nI 12289))]) d_Pf_layerLeaf_4 k_P_mix tw_375 tw_376 rfl (Nat.le_of_ble_eq_true rfl) rfl (Nat.le_of_ble_eq_true rfl) rfl rfl (c_P_mix l g _ (ew_SH L) M x (nI 12289)) rfl ?_
  exact ew_iret d_Pf_layerLeaf_7 rfl (⟨rfl, rfl, rfl⟩)
def sp_p (ce : Nat → Nat → Nat) (c i : Nat) : Nat := sp_it (ce c) i
theorem sp_p_lt (ce : Nat → Nat → Nat) (c i : Nat) : sp_p ce c i < 12289 := ep_lt _
def sp_cci (ce : Nat → Nat → Nat) (M0 : ew_M) (i : Nat) (M : ew_M) : Prop := (∀ q, q ≠ 28 → q ≠ 29 → q ≠ 35 → M q = M0 q) ∧ (∀ t, t < i → M 28 t = nI (sp_p ce 0 t)) ∧ (∀ t, t < i → M 29 t = nI (sp_p ce 1 t)) ∧ ∀ t, t < i → M 35 (32 + t) = sp_mix (nI (sp_p ce 0 t)) (nI (sp_p ce 1 t))
theorem sp_cci_s {ce : Nat → Nat → Nat} {M0 M : ew_M} {i : Nat} (h : sp_cci ce M0 i M) : sp_cci ce M0 (i + 1) (ew_w (ew_w (ew_w M 28 i (nI (sp_p ce 0 i))) 29 i (nI (sp_p ce 1 i))) 35 (32 + i) (sp_mix (nI (sp_p ce 0 i)) (nI (sp_p ce 1 i)))) := by
  obtain ⟨h1, h2, h3, h4⟩ := h
  refine ⟨fun q a b c => ?_, fun t ht => ?_, fun t ht => ?_, fun t ht => ?_⟩
  · rw [ew_w_ne c, ew_w_ne b, ew_w_ne a]
    exact h1 q a b c
  · rw [ew_w_ne (by decide), ew_w_ne (by decide)]
    by_cases e : t = i
    · subst e
      exact ew_w_at
    · rw [ew_w_j e]
      exact h2 t (by omega)
  · rw [ew_w_ne (by decide)]
    by_cases e : t = i
    · subst e
      exact ew_w_at
    · rw [ew_w_j e, ew_w_ne (by decide)]
      exact h3 t (by omega)
  · by_cases e : t = i
    · subst e
      exact ew_w_at
    · rw [ew_w_j (by omega), ew_w_ne (by decide), ew_w_ne (by decide)]
      exact h4 t (by omega)
def sp_ccq (ce : Nat → Nat → Nat) (L : Nat) (M0 : ew_M) : Option Value → List ew_S → ew_M → Prop := fun v sh' M' => sh' = ew_SH L ∧ v = some (.int (M' 35 1)) ∧ (∀ q, q ≠ 28 → q ≠ 29 → q ≠ 35 → M' q = M0 q) ∧ (∀ t, t < 32 → M' 28 t = nI (sp_p ce 0 t)) ∧ (∀ t, t < 32 → M' 29 t = nI (sp_p ce 1 t)) ∧ sp_tree (M' 35) 32 (fun t => sp_mix (nI (sp_p ce 0 t)) (nI (sp_p ce 1 t)))
theorem sp_tree_c {r : Nat → Int32} {c : Nat} {lf lg : Nat → Int32} (h : sp_tree r c lf) (he : ∀ i, i < c → lf i = lg i) : sp_tree r c lg := ⟨fun i hi => (h.1 i hi).trans (he i hi), h.2⟩
set_option maxRecDepth 100000 in
theorem lp_Pr_commitColumns (l : Launch) (g : ew_G) (d L : Nat) (M0 : ew_M) (hT : sp_tab M0) (ce : Nat → Nat → Nat) (hc : sp_ce ce M0) (hz : M0 34 0 = nI 32) : ∀ (fu i : Nat) (M : ew_M), 32 - i < fu → i ≤ 32 → sp_cci ce M0 i M → Ew l g (d + 3) 0 0 m_Pr_commitColumns 2 [.ref 23, .int (nI i)] [] (ew_SH L) M (sp_ccq ce L M0) := by
  intro fu
  induction fu with
  | zero =>
    intro i M hn
    exact absurd hn (Nat.not_lt_zero _)
  | succ fu ih =>
    intro i M hn hle hI
    refine ew_iload_n d_Pr_commitColumns_2 rfl ?_
    refine ew_bipush (v := nI 32) d_Pr_commitColumns_3 (by decide) ?_
    refine en_icmp_ge (tgt := 75) d_Pr_commitColumns_5 (by decide) (by omega) (by omega) (fun h5 => ?_) (fun h5 => ?_)
    · obtain rfl : i = 32 := by omega
      refine ew_aload_n d_Pr_commitColumns_75 rfl ?_
      refine ew_getr (ci := 5) (f := 6) d_Pr_commitColumns_76 rfl rfl rfl tw_170 ?_
      refine en_callV (As := []) (i := 34) (ci := 8) (st := []) (st1 := [.int (sp_gr (M 35) 32 31 1)]) d_Pr_commitColumns_79 k_Tr_grow rfl rfl tw_384 tw_385 tw_386 rfl (Nat.le_of_ble_eq_true rfl) rfl (Nat.le_of_ble_eq_true rfl) rfl rfl (c_Tr_grow34 l g _ L M (by rw [hI.1 34 (by decide) (by decide) (by decide)]; exact hz)) rfl ?_
      exact ew_iret d_Pr_commitColumns_82 rfl (⟨rfl, by rw [ew_up_self], fun q a b c => by rw [ew_up_ne c]; exact hI.1 q a b c, fun t ht => by rw [ew_up_ne (by decide)]; exact hI.2.1 t ht, fun t ht => by rw [ew_up_ne (by decide)]; exact hI.2.2.1 t ht, by rw [ew_up_self]; exact sp_tree_c (sp_gr_tree (M 35) (by decide)) hI.2.2.2⟩)
    · refine ew_aload_n d_Pr_commitColumns_8 rfl ?_
      refine ew_getr (ci := 5) (f := 4) d_Pr_commitColumns_9 rfl rfl rfl tw_168 ?_
      refine ew_iconst (v := nI 0) d_Pr_commitColumns_12 (by decide) ?_
      refine ew_aald (j := 0) d_Pr_commitColumns_13 rfl (by decide) rfl rfl (by decide) ?_
      refine ew_iload_n d_Pr_commitColumns_14 rfl ?_
      refine ew_aload_n d_Pr_commitColumns_15 rfl ?_
      refine ew_getr (ci := 5) (f := 2) d_Pr_commitColumns_16 rfl rfl rfl tw_166 ?_
      refine ew_iconst (v := nI 0) d_Pr_commitColumns_19 (by decide) ?_
      refine ew_iload_n d_Pr_commitColumns_20 rfl ?_
      refine en_callV (As := [.int (nI 0), .int (nI i)]) (i := 17) (ci := 3) (st := [.int (nI i), .ref 28]) (st1 := [.int (nI (sp_p ce 0 i)), .int (nI i), .ref 28]) d_Pr_commitColumns_21 k_Ta_polynomial rfl rfl tw_371 tw_298 tw_299 rfl (Nat.le_of_ble_eq_true rfl) rfl (Nat.le_of_ble_eq_true rfl) rfl rfl (c_Ta_polynomial0 l g _ L M (sp_tab_of hT (hI.1 5 (by decide) (by decide) (by decide)) (hI.1 6 (by decide) (by decide) (by decide)) (hI.1 7 (by decide) (by decide) (by decide)) (hI.1 8 (by decide) (by decide) (by decide)) (hI.1 9 (by decide) (by decide) (by decide))) (ce 0) (fun r h => by rw [hI.1 19 (by decide) (by decide) (by decide)]; exact hc.1 r h) i (by omega)) rfl ?_
      refine ew_iast (j := i) d_Pr_commitColumns_24 rfl (by decide) (rfl) (by first | with_reducible assumption | with_reducible exact ep_lt _ | with_reducible exact sp_its_lt _ _ _ | with_reducible exact tb_l_rt _ | with_reducible exact tb_l_x _ | with_reducible exact tb_l_o0 _ | with_reducible exact tb_l_o1 _ | with_reducible exact tb_l_va _ | with_reducible exact tb_l_ll _ | with_reducible exact tb_l_cf _ | with_reducible exact tb_l_kf _ | with_reducible exact sp_ts_lt _ _ _ _ | with_reducible exact sp_w_lt _ _ | with_reducible exact sp_cs_lt _ _ _ _ _ | with_reducible exact sp_cb_lt _ _ _ _ _ | with_reducible exact sp_ch_lt _ | with_reducible exact sp_bf_lt _ _ | omega) (by decide) ?_
      refine ew_aload_n d_Pr_commitColumns_25 rfl ?_
      refine ew_getr (ci := 5) (f := 4) d_Pr_commitColumns_26 rfl rfl rfl tw_168 ?_
      refine ew_iconst (v := nI 1) d_Pr_commitColumns_29 (by decide) ?_
      refine ew_aald (j := 1) d_Pr_commitColumns_30 rfl (by decide) rfl rfl (by decide) ?_
      refine ew_iload_n d_Pr_commitColumns_31 rfl ?_
      refine ew_aload_n d_Pr_commitColumns_32 rfl ?_
      refine ew_getr (ci := 5) (f := 2) d_Pr_commitColumns_33 rfl rfl rfl tw_166 ?_
      refine ew_iconst (v := nI 1) d_Pr_commitColumns_36 (by decide) ?_
      refine ew_iload_n d_Pr_commitColumns_37 rfl ?_
      refine en_callV (As := [.int (nI 1), .int (nI i)]) (i := 17) (ci := 3) (st := [.int (nI i), .ref 29]) (st1 := [.int (nI (sp_p ce 1 i)), .int (nI i), .ref 29]) d_Pr_commitColumns_38 k_Ta_polynomial rfl rfl tw_371 tw_298 tw_299 rfl (Nat.le_of_ble_eq_true rfl) rfl (Nat.le_of_ble_eq_true rfl) rfl rfl (c_Ta_polynomial1 l g _ L (ew_w M 28 i (nI (sp_p ce 0 i))) (sp_tab_w (sp_tab_of hT (hI.1 5 (by decide) (by decide) (by decide)) (hI.1 6 (by decide) (by decide) (by decide)) (hI.1 7 (by decide) (by decide) (by decide)) (hI.1 8 (by decide) (by decide) (by decide)) (hI.1 9 (by decide) (by decide) (by decide))) (by decide)) (ce 1) (fun r h => by rw [ew_w_ne (by decide), hI.1 20 (by decide) (by decide) (by decide)]; exact hc.2 r h) i (by omega)) rfl ?_
      refine ew_iast (j := i) d_Pr_commitColumns_41 rfl (by decide) (rfl) (by first | with_reducible assumption | with_reducible exact ep_lt _ | with_reducible exact sp_its_lt _ _ _ | with_reducible exact tb_l_rt _ | with_reducible exact tb_l_x _ | with_reducible exact tb_l_o0 _ | with_reducible exact tb_l_o1 _ | with_reducible exact tb_l_va _ | with_reducible exact tb_l_ll _ | with_reducible exact tb_l_cf _ | with_reducible exact tb_l_kf _ | with_reducible exact sp_ts_lt _ _ _ _ | with_reducible exact sp_w_lt _ _ | with_reducible exact sp_cs_lt _ _ _ _ _ | with_reducible exact sp_cb_lt _ _ _ _ _ | with_reducible exact sp_ch_lt _ | with_reducible exact sp_bf_lt _ _ | omega) (by decide) ?_
      refine ew_aload_n d_Pr_commitColumns_42 rfl ?_
      refine ew_getr (ci := 5) (f := 6) d_Pr_commitColumns_43 rfl rfl rfl tw_170 ?_
      refine ew_iload_n d_Pr_commitColumns_46 rfl ?_
      refine ew_aload_n d_Pr_commitColumns_47 rfl ?_
      refine ew_getr (ci := 5) (f := 4) d_Pr_commitColumns_48 rfl rfl rfl tw_168 ?_
      refine ew_iconst (v := nI 0) d_Pr_commitColumns_51 (by decide) ?_
      refine ew_aald (j := 0) d_Pr_commitColumns_52 rfl (by decide) rfl rfl (by decide) ?_
      refine ew_iload_n d_Pr_commitColumns_53 rfl ?_
      refine ew_iald (j := i) d_Pr_commitColumns_54 rfl (rfl) (by first | with_reducible assumption | with_reducible exact ep_lt _ | with_reducible exact sp_its_lt _ _ _ | with_reducible exact tb_l_rt _ | with_reducible exact tb_l_x _ | with_reducible exact tb_l_o0 _ | with_reducible exact tb_l_o1 _ | with_reducible exact tb_l_va _ | with_reducible exact tb_l_ll _ | with_reducible exact tb_l_cf _ | with_reducible exact tb_l_kf _ | with_reducible exact sp_ts_lt _ _ _ _ | with_reducible exact sp_w_lt _ _ | with_reducible exact sp_cs_lt _ _ _ _ _ | with_reducible exact sp_cb_lt _ _ _ _ _ | with_reducible exact sp_ch_lt _ | with_reducible exact sp_bf_lt _ _ | omega) (by decide) ?_
      refine en_eq (st' := [.int (nI (sp_p ce 0 i)), .int (nI i), .ref 34]) rfl (by rw [show ((ew_w (ew_w M 28 i (nI (sp_p ce 0 i))) 29 i (nI (sp_p ce 1 i))) 28 i) = (nI (sp_p ce 0 i)) from by rw [ew_w_ne (by decide), ew_w_at]]) rfl ?_
      refine ew_aload_n d_Pr_commitColumns_55 rfl ?_
      refine ew_getr (ci := 5) (f := 4) d_Pr_commitColumns_56 rfl rfl rfl tw_168 ?_
      refine ew_iconst (v := nI 1) d_Pr_commitColumns_59 (by decide) ?_
      refine ew_aald (j := 1) d_Pr_commitColumns_60 rfl (by decide) rfl rfl (by decide) ?_
      refine ew_iload_n d_Pr_commitColumns_61 rfl ?_
      refine ew_iald (j := i) d_Pr_commitColumns_62 rfl (rfl) (by first | with_reducible assumption | with_reducible exact ep_lt _ | with_reducible exact sp_its_lt _ _ _ | with_reducible exact tb_l_rt _ | with_reducible exact tb_l_x _ | with_reducible exact tb_l_o0 _ | with_reducible exact tb_l_o1 _ | with_reducible exact tb_l_va _ | with_reducible exact tb_l_ll _ | with_reducible exact tb_l_cf _ | with_reducible exact tb_l_kf _ | with_reducible exact sp_ts_lt _ _ _ _ | with_reducible exact sp_w_lt _ _ | with_reducible exact sp_cs_lt _ _ _ _ _ | with_reducible exact sp_cb_lt _ _ _ _ _ | with_reducible exact sp_ch_lt _ | with_reducible exact sp_bf_lt _ _ | omega) (by decide) ?_
      refine en_eq (st' := [.int (nI (sp_p ce 1 i)), .int (nI (sp_p ce 0 i)), .int (nI i), .ref 34]) rfl (by rw [show ((ew_w (ew_w M 28 i (nI (sp_p ce 0 i))) 29 i (nI (sp_p ce 1 i))) 29 i) = (nI (sp_p ce 1 i)) from ew_w_at]) rfl ?_
      refine en_callS (As := [.int (nI (sp_p ce 0 i)), .int (nI (sp_p ce 1 i))]) (st := [.int (nI i), .ref 34]) (st1 := [.int (sp_mix (nI (sp_p ce 0 i)) (nI (sp_p ce 1 i))), .int (nI i), .ref 34]) d_Pr_commitColumns_63 k_Pf_columnLeaf tw_372 tw_373 rfl (Nat.le_of_ble_eq_true rfl) rfl (Nat.le_of_ble_eq_true rfl) rfl rfl (c_Pf_columnLeaf l g _ L (ew_w (ew_w M 28 i (nI (sp_p ce 0 i))) 29 i (nI (sp_p ce 1 i))) (nI (sp_p ce 0 i)) (nI (sp_p ce 1 i))) rfl ?_
      refine en_callV (As := [.int (nI i), .int (sp_mix (nI (sp_p ce 0 i)) (nI (sp_p ce 1 i)))]) (i := 34) (ci := 8) (st := []) (st1 := []) d_Pr_commitColumns_66 k_Tr_plant rfl rfl tw_380 tw_381 tw_382 rfl (Nat.le_of_ble_eq_true rfl) rfl (Nat.le_of_ble_eq_true rfl) rfl rfl (c_Tr_plant34 l g _ L (ew_w (ew_w M 28 i (nI (sp_p ce 0 i))) 29 i (nI (sp_p ce 1 i))) (by rw [ew_w_ne (by decide), ew_w_ne (by decide), hI.1 34 (by decide) (by decide) (by decide)]; exact hz) i (sp_mix (nI (sp_p ce 0 i)) (nI (sp_p ce 1 i))) (by omega)) rfl ?_
      refine en_inc (ls' := [.ref 23, .int (nI (i + 1))]) d_Pr_commitColumns_69 rfl rfl ?_
      refine ew_goto (tgt := 2) d_Pr_commitColumns_72 (by decide) ?_
      exact ih (i + 1) _ (by omega) (by omega) (sp_cci_s hI)
set_option maxRecDepth 100000 in
theorem c_Pr_commitColumns (l : Launch) (g : ew_G) (d L : Nat) (M : ew_M) (hT : sp_tab M) (ce : Nat → Nat → Nat) (hc : sp_ce ce M) (hz : M 34 0 = nI 32) :
    Ew l g (d + 3) 0 0 m_Pr_commitColumns 0 [.ref 23, .retAddr 0] [] (ew_SH L) M (sp_ccq ce L M) := by
  refine ew_iconst (v := nI 0) d_Pr_commitColumns_0 (by decide) ?_
  refine en_istore_n (ls' := [.ref 23, .int (nI 0)]) d_Pr_commitColumns_1 (Nat.le_of_ble_eq_true rfl) rfl ?_
  exact lp_Pr_commitColumns l g d L M hT ce hc hz 33 0 M (by omega) (by omega) ⟨fun _ _ _ _ => rfl, fun t h => absurd h (Nat.not_lt_zero _), fun t h => absurd h (Nat.not_lt_zero _), fun t h => absurd h (Nat.not_lt_zero _)⟩
def sp_l0 (ce : Nat → Nat → Nat) (i : Nat) : Nat → Nat := sp_le (sp_p ce 0 i) (sp_p ce 1 i) (sp_p ce 0 ((i + 4) % 32)) (sp_p ce 1 ((i + 4) % 32))
def sp_y0 (ρ : sp_R) (ce : Nat → Nat → Nat) (A i : Nat) : Nat := sp_com ρ (sp_l0 ce i) i A
theorem sp_y0_lt (ρ : sp_R) (ce : Nat → Nat → Nat) (A i : Nat) : sp_y0 ρ ce A i < 12289 := sp_com_lt _ _ _ _
def sp_coi (ρ : sp_R) (ce : Nat → Nat → Nat) (A : Nat) (M0 : ew_M) (i : Nat) (M : ew_M) : Prop := (∀ q, q ≠ 16 → q ≠ 31 → M q = M0 q) ∧ M 16 0 = nI 1 ∧ ∀ t, t < i → M 31 t = nI (sp_y0 ρ ce A t)
theorem sp_coi_s {ρ : sp_R} {ce : Nat → Nat → Nat} {A : Nat} {M0 M : ew_M} {i : Nat} {a b c e : Int32} (h : sp_coi ρ ce A M0 i M) : sp_coi ρ ce A M0 (i + 1) (ew_w (sp_rd M 16 a b c e) 31 i (nI (sp_y0 ρ ce A i))) := by
  obtain ⟨h1, h2, h3⟩ := h
  refine ⟨fun q p r => ?_, ?_, fun t ht => ?_⟩
  · rw [ew_w_ne r, sp_rd_ne p]
    exact h1 q p r
  · rw [ew_w_ne (by decide), sp_rd_0]
    exact h2
  · by_cases e : t = i
    · subst e
      exact ew_w_at
    · rw [ew_w_j e, sp_rd_ne (by decide)]
      exact h3 t (by omega)
def sp_coq (ρ : sp_R) (ce : Nat → Nat → Nat) (A L : Nat) (M0 : ew_M) : Option Value → List ew_S → ew_M → Prop := fun v sh' M' => sh' = ew_SH L ∧ v = none ∧ sp_coi ρ ce A M0 32 M'
set_option maxRecDepth 100000 in
theorem lp_Pr_compose (l : Launch) (g : ew_G) (d L : Nat) (M0 : ew_M) (ρ : sp_R) (hr : sp_ru ρ M0) (hT : sp_tab M0) (ce : Nat → Nat → Nat) (hp0 : ∀ t, t < 32 → M0 28 t = nI (sp_p ce 0 t)) (hp1 : ∀ t, t < 32 → M0 29 t = nI (sp_p ce 1 t)) (A : Nat) (hA : A < 12289) (hA0 : M0 24 1 = nI A) : ∀ (fu i : Nat) (M : ew_M), 32 - i < fu → i ≤ 32 → sp_coi ρ ce A M0 i M → Ew l g (d + 3) 0 0 m_Pr_compose 2 [.ref 23, .int (nI i), .retAddr 0] [] (ew_SH L) M (sp_coq ρ ce A L M0) := by
  intro fu
  induction fu with
  | zero =>
    intro i M hn
    exact absurd hn (Nat.not_lt_zero _)
  | succ fu ih =>
    intro i M hn hle hI
    refine ew_iload_n d_Pr_compose_2 rfl ?_
    refine ew_bipush (v := nI 32) d_Pr_compose_3 (by decide) ?_
    refine en_icmp_ge (tgt := 81) d_Pr_compose_5 (by decide) (by omega) (by omega) (fun h5 => ?_) (fun h5 => ?_)
    · obtain rfl : i = 32 := by omega
      exact ew_ret d_Pr_compose_81 rfl (⟨rfl, rfl, hI⟩)
    · refine ew_iload_n d_Pr_compose_8 rfl ?_
      refine en_callS (As := [.int (nI i)]) (st := []) (st1 := [.int (nI ((i + 4) % 32))]) d_Pr_compose_9 k_Pt_rowBehind tw_419 tw_420 rfl (Nat.le_of_ble_eq_true rfl) rfl (Nat.le_of_ble_eq_true rfl) rfl rfl (c_Pt_rowBehind l g _ L M i (by omega)) rfl ?_
      refine en_istore_n (ls' := [.ref 23, .int (nI i), .int (nI ((i + 4) % 32))]) d_Pr_compose_12 (Nat.le_of_ble_eq_true rfl) rfl ?_
      refine ew_aload_n d_Pr_compose_13 rfl ?_
      refine ew_getr (ci := 5) (f := 1) d_Pr_compose_14 rfl rfl rfl tw_165 ?_
      refine ew_aload_n d_Pr_compose_17 rfl ?_
      refine ew_getr (ci := 5) (f := 4) d_Pr_compose_18 rfl rfl rfl tw_168 ?_
      refine ew_iconst (v := nI 0) d_Pr_compose_21 (by decide) ?_
      refine ew_aald (j := 0) d_Pr_compose_22 rfl (by decide) rfl rfl (by decide) ?_
      refine ew_iload_n d_Pr_compose_23 rfl ?_
      refine ew_iald (j := i) d_Pr_compose_24 rfl (rfl) (by first | with_reducible assumption | with_reducible exact ep_lt _ | with_reducible exact sp_its_lt _ _ _ | with_reducible exact tb_l_rt _ | with_reducible exact tb_l_x _ | with_reducible exact tb_l_o0 _ | with_reducible exact tb_l_o1 _ | with_reducible exact tb_l_va _ | with_reducible exact tb_l_ll _ | with_reducible exact tb_l_cf _ | with_reducible exact tb_l_kf _ | with_reducible exact sp_ts_lt _ _ _ _ | with_reducible exact sp_w_lt _ _ | with_reducible exact sp_cs_lt _ _ _ _ _ | with_reducible exact sp_cb_lt _ _ _ _ _ | with_reducible exact sp_ch_lt _ | with_reducible exact sp_bf_lt _ _ | omega) (by decide) ?_
      refine en_eq (st' := [.int (nI (sp_p ce 0 i)), .ref 10]) rfl (by rw [show (M 28 i) = (nI (sp_p ce 0 i)) from by rw [hI.1 28 (by decide) (by decide)]; exact hp0 _ (by omega)]) rfl ?_
      refine ew_aload_n d_Pr_compose_25 rfl ?_
      refine ew_getr (ci := 5) (f := 4) d_Pr_compose_26 rfl rfl rfl tw_168 ?_
      refine ew_iconst (v := nI 1) d_Pr_compose_29 (by decide) ?_
      refine ew_aald (j := 1) d_Pr_compose_30 rfl (by decide) rfl rfl (by decide) ?_
      refine ew_iload_n d_Pr_compose_31 rfl ?_
      refine ew_iald (j := i) d_Pr_compose_32 rfl (rfl) (by first | with_reducible assumption | with_reducible exact ep_lt _ | with_reducible exact sp_its_lt _ _ _ | with_reducible exact tb_l_rt _ | with_reducible exact tb_l_x _ | with_reducible exact tb_l_o0 _ | with_reducible exact tb_l_o1 _ | with_reducible exact tb_l_va _ | with_reducible exact tb_l_ll _ | with_reducible exact tb_l_cf _ | with_reducible exact tb_l_kf _ | with_reducible exact sp_ts_lt _ _ _ _ | with_reducible exact sp_w_lt _ _ | with_reducible exact sp_cs_lt _ _ _ _ _ | with_reducible exact sp_cb_lt _ _ _ _ _ | with_reducible exact sp_ch_lt _ | with_reducible exact sp_bf_lt _ _ | omega) (by decide) ?_
      refine en_eq (st' := [.int (nI (sp_p ce 1 i)), .int (nI (sp_p ce 0 i)), .ref 10]) rfl (by rw [show (M 29 i) = (nI (sp_p ce 1 i)) from by rw [hI.1 29 (by decide) (by decide)]; exact hp1 _ (by omega)]) rfl ?_
      refine ew_aload_n d_Pr_compose_33 rfl ?_
      refine ew_getr (ci := 5) (f := 4) d_Pr_compose_34 rfl rfl rfl tw_168 ?_
      refine ew_iconst (v := nI 0) d_Pr_compose_37 (by decide) ?_
      refine ew_aald (j := 0) d_Pr_compose_38 rfl (by decide) rfl rfl (by decide) ?_
      refine ew_iload_n d_Pr_compose_39 rfl ?_
      refine ew_iald (j := (i + 4) % 32) d_Pr_compose_40 rfl (rfl) (by first | with_reducible assumption | with_reducible exact ep_lt _ | with_reducible exact sp_its_lt _ _ _ | with_reducible exact tb_l_rt _ | with_reducible exact tb_l_x _ | with_reducible exact tb_l_o0 _ | with_reducible exact tb_l_o1 _ | with_reducible exact tb_l_va _ | with_reducible exact tb_l_ll _ | with_reducible exact tb_l_cf _ | with_reducible exact tb_l_kf _ | with_reducible exact sp_ts_lt _ _ _ _ | with_reducible exact sp_w_lt _ _ | with_reducible exact sp_cs_lt _ _ _ _ _ | with_reducible exact sp_cb_lt _ _ _ _ _ | with_reducible exact sp_ch_lt _ | with_reducible exact sp_bf_lt _ _ | omega) (by decide) ?_
      refine en_eq (st' := [.int (nI (sp_p ce 0 ((i + 4) % 32))), .int (nI (sp_p ce 1 i)), .int (nI (sp_p ce 0 i)), .ref 10]) rfl (by rw [show (M 28 ((i + 4) % 32)) = (nI (sp_p ce 0 ((i + 4) % 32))) from by rw [hI.1 28 (by decide) (by decide)]; exact hp0 _ (by omega)]) rfl ?_
      refine ew_aload_n d_Pr_compose_41 rfl ?_
      refine ew_getr (ci := 5) (f := 4) d_Pr_compose_42 rfl rfl rfl tw_168 ?_
      refine ew_iconst (v := nI 1) d_Pr_compose_45 (by decide) ?_
      refine ew_aald (j := 1) d_Pr_compose_46 rfl (by decide) rfl rfl (by decide) ?_
      refine ew_iload_n d_Pr_compose_47 rfl ?_
      refine ew_iald (j := (i + 4) % 32) d_Pr_compose_48 rfl (rfl) (by first | with_reducible assumption | with_reducible exact ep_lt _ | with_reducible exact sp_its_lt _ _ _ | with_reducible exact tb_l_rt _ | with_reducible exact tb_l_x _ | with_reducible exact tb_l_o0 _ | with_reducible exact tb_l_o1 _ | with_reducible exact tb_l_va _ | with_reducible exact tb_l_ll _ | with_reducible exact tb_l_cf _ | with_reducible exact tb_l_kf _ | with_reducible exact sp_ts_lt _ _ _ _ | with_reducible exact sp_w_lt _ _ | with_reducible exact sp_cs_lt _ _ _ _ _ | with_reducible exact sp_cb_lt _ _ _ _ _ | with_reducible exact sp_ch_lt _ | with_reducible exact sp_bf_lt _ _ | omega) (by decide) ?_
      refine en_eq (st' := [.int (nI (sp_p ce 1 ((i + 4) % 32))), .int (nI (sp_p ce 0 ((i + 4) % 32))), .int (nI (sp_p ce 1 i)), .int (nI (sp_p ce 0 i)), .ref 10]) rfl (by rw [show (M 29 ((i + 4) % 32)) = (nI (sp_p ce 1 ((i + 4) % 32))) from by rw [hI.1 29 (by decide) (by decide)]; exact hp1 _ (by omega)]) rfl ?_
      refine en_callV (As := [.int (nI (sp_p ce 0 i)), .int (nI (sp_p ce 1 i)), .int (nI (sp_p ce 0 ((i + 4) % 32))), .int (nI (sp_p ce 1 ((i + 4) % 32)))]) (i := 10) (ci := 2) (st := []) (st1 := []) d_Pr_compose_49 k_Ru_read rfl rfl tw_422 tw_325 tw_326 rfl (Nat.le_of_ble_eq_true rfl) rfl (Nat.le_of_ble_eq_true rfl) rfl rfl (c_Ru_read l g _ L M (nI (sp_p ce 0 i)) (nI (sp_p ce 1 i)) (nI (sp_p ce 0 ((i + 4) % 32))) (nI (sp_p ce 1 ((i + 4) % 32)))) rfl ?_
      refine ew_aload_n d_Pr_compose_52 rfl ?_
      refine ew_getr (ci := 5) (f := 5) d_Pr_compose_53 rfl rfl rfl tw_169 ?_
      refine ew_iconst (v := nI 0) d_Pr_compose_56 (by decide) ?_
      refine ew_aald (j := 0) d_Pr_compose_57 rfl (by decide) rfl rfl (by decide) ?_
      refine ew_iload_n d_Pr_compose_58 rfl ?_
      refine ew_aload_n d_Pr_compose_59 rfl ?_
      refine ew_getr (ci := 5) (f := 1) d_Pr_compose_60 rfl rfl rfl tw_165 ?_
      refine ew_iload_n d_Pr_compose_63 rfl ?_
      refine ew_aload_n d_Pr_compose_64 rfl ?_
      refine ew_getr (ci := 5) (f := 3) d_Pr_compose_65 rfl rfl rfl tw_167 ?_
      refine ew_getiN (ci := 7) (f := 1) d_Pr_compose_68 rfl rfl rfl tw_128 ?_
      refine en_eq (st' := [.int (nI A), .int (nI i), .ref 10, .int (nI i), .ref 31]) rfl (by rw [show ((sp_rd M 16 (nI (sp_p ce 0 i)) (nI (sp_p ce 1 i)) (nI (sp_p ce 0 ((i + 4) % 32))) (nI (sp_p ce 1 ((i + 4) % 32)))) 24 1) = (nI A) from by rw [sp_rd_ne (by decide), hI.1 24 (by decide) (by decide)]; exact hA0]) rfl ?_
      refine en_callV (As := [.int (nI i), .int (nI A)]) (i := 10) (ci := 2) (st := [.int (nI i), .ref 31]) (st1 := [.int (nI (sp_y0 ρ ce A i)), .int (nI i), .ref 31]) d_Pr_compose_71 k_Ru_composition rfl rfl tw_423 tw_424 tw_425 rfl (Nat.le_of_ble_eq_true rfl) rfl (Nat.le_of_ble_eq_true rfl) rfl rfl (c_Ru_composition l g _ L (sp_rd M 16 (nI (sp_p ce 0 i)) (nI (sp_p ce 1 i)) (nI (sp_p ce 0 ((i + 4) % 32))) (nI (sp_p ce 1 ((i + 4) % 32)))) ρ (sp_ru_of hr (by rw [sp_rd_ne (by decide)]; exact hI.1 10 (by decide) (by decide)) (by rw [sp_rd_ne (by decide)]; exact hI.1 11 (by decide) (by decide)) (by rw [sp_rd_ne (by decide)]; exact hI.1 13 (by decide) (by decide)) (by rw [sp_rd_ne (by decide)]; exact hI.1 14 (by decide) (by decide)) (by rw [sp_rd_ne (by decide)]; exact hI.1 15 (by decide) (by decide))) (sp_l0 ce i) (sp_rd_le hI.2.1 (sp_p_lt _ _ _) (sp_p_lt _ _ _) (sp_p_lt _ _ _) (sp_p_lt _ _ _)) (sp_tab_of hT (by rw [sp_rd_ne (by decide)]; exact hI.1 5 (by decide) (by decide)) (by rw [sp_rd_ne (by decide)]; exact hI.1 6 (by decide) (by decide)) (by rw [sp_rd_ne (by decide)]; exact hI.1 7 (by decide) (by decide)) (by rw [sp_rd_ne (by decide)]; exact hI.1 8 (by decide) (by decide)) (by rw [sp_rd_ne (by decide)]; exact hI.1 9 (by decide) (by decide))) i A (by omega) hA) rfl ?_
      refine ew_iast (j := i) d_Pr_compose_74 rfl (by decide) (rfl) (by first | with_reducible assumption | with_reducible exact ep_lt _ | with_reducible exact sp_its_lt _ _ _ | with_reducible exact tb_l_rt _ | with_reducible exact tb_l_x _ | with_reducible exact tb_l_o0 _ | with_reducible exact tb_l_o1 _ | with_reducible exact tb_l_va _ | with_reducible exact tb_l_ll _ | with_reducible exact tb_l_cf _ | with_reducible exact tb_l_kf _ | with_reducible exact sp_ts_lt _ _ _ _ | with_reducible exact sp_w_lt _ _ | with_reducible exact sp_cs_lt _ _ _ _ _ | with_reducible exact sp_cb_lt _ _ _ _ _ | with_reducible exact sp_ch_lt _ | with_reducible exact sp_bf_lt _ _ | omega) (by decide) ?_
      refine en_inc (ls' := [.ref 23, .int (nI (i + 1)), .int (nI ((i + 4) % 32))]) d_Pr_compose_75 rfl rfl ?_
      refine ew_goto (tgt := 2) d_Pr_compose_78 (by decide) ?_
      refine en_drop (ls' := [.ref 23, .int (nI (i + 1)), .retAddr 0]) ⟨Or.inl rfl, Or.inl rfl, Or.inr rfl, trivial⟩ ?_
      exact ih (i + 1) _ (by omega) (by omega) (sp_coi_s hI)
set_option maxRecDepth 100000 in
theorem c_Pr_compose (l : Launch) (g : ew_G) (d L : Nat) (M : ew_M) (ρ : sp_R) (hr : sp_ru ρ M) (hT : sp_tab M) (h1 : M 16 0 = nI 1) (ce : Nat → Nat → Nat) (hp0 : ∀ t, t < 32 → M 28 t = nI (sp_p ce 0 t)) (hp1 : ∀ t, t < 32 → M 29 t = nI (sp_p ce 1 t)) (A : Nat) (hA : A < 12289) (hA0 : M 24 1 = nI A) :
    Ew l g (d + 3) 0 0 m_Pr_compose 0 [.ref 23, .retAddr 0, .retAddr 0] [] (ew_SH L) M (sp_coq ρ ce A L M) := by
  refine ew_iconst (v := nI 0) d_Pr_compose_0 (by decide) ?_
  refine en_istore_n (ls' := [.ref 23, .int (nI 0), .retAddr 0]) d_Pr_compose_1 (Nat.le_of_ble_eq_true rfl) rfl ?_
  exact lp_Pr_compose l g d L M ρ hr hT ce hp0 hp1 A hA hA0 33 0 M (by omega) (by omega) ⟨fun _ _ _ => rfl, h1, fun t h => absurd h (Nat.not_lt_zero _)⟩
set_option maxRecDepth 100000 in
theorem c_Pr_folded0 (l : Launch) (g : ew_G) (d L : Nat) (M : ew_M) (hT : sp_tab M) (f : Nat → Nat) (B i : Nat) (hf : ∀ t, t < 32 → M 31 t = nI (f t) ∧ f t < 12289) (hB : M 25 0 = nI B) (hB2 : B < 12289) (hi : i < 16) :
    Ew l g (d + 3) 0 0 m_Pr_folded 0 [.ref 23, .int (nI 0), .int (nI i), .retAddr 0] [] (ew_SH L) M (ew_q (some (.int (nI (sp_fo 1 i (f i) (f (i + 16)) B)))) (ew_SH L) M) := by
  refine ew_iload_n d_Pr_folded_0 rfl ?_
  refine ew_iload_n d_Pr_folded_1 rfl ?_
  refine en_callS (As := [.int (nI 0)]) (st := [.int (nI i)]) (st1 := [.int (nI 32), .int (nI i)]) d_Pr_folded_2 k_Pf_layerSize tw_161 tw_162 rfl (Nat.le_of_ble_eq_true rfl) rfl (Nat.le_of_ble_eq_true rfl) rfl rfl (c_Pf_layerSize0 l g _ L M) rfl ?_
  refine ew_iconst (v := nI 2) d_Pr_folded_5 (by decide) ?_
  refine en_idiv d_Pr_folded_6 (by first | with_reducible assumption | with_reducible exact ep_lt _ | with_reducible exact sp_its_lt _ _ _ | with_reducible exact tb_l_rt _ | with_reducible exact tb_l_x _ | with_reducible exact tb_l_o0 _ | with_reducible exact tb_l_o1 _ | with_reducible exact tb_l_va _ | with_reducible exact tb_l_ll _ | with_reducible exact tb_l_cf _ | with_reducible exact tb_l_kf _ | with_reducible exact sp_ts_lt _ _ _ _ | with_reducible exact sp_w_lt _ _ | with_reducible exact sp_cs_lt _ _ _ _ _ | with_reducible exact sp_cb_lt _ _ _ _ _ | with_reducible exact sp_ch_lt _ | with_reducible exact sp_bf_lt _ _ | omega) (by decide) (by decide) ?_
  refine en_eq rfl (show _ = [.int (nI 16), .int (nI i)] from rfl) rfl ?_
  refine en_iadd d_Pr_folded_7 ?_
  refine en_istore_n (ls' := [.ref 23, .int (nI 0), .int (nI i), .int (nI (i + 16))]) d_Pr_folded_8 (Nat.le_of_ble_eq_true rfl) rfl ?_
  refine ew_aload_n d_Pr_folded_9 rfl ?_
  refine ew_getr (ci := 5) (f := 0) d_Pr_folded_10 rfl rfl rfl tw_164 ?_
  refine ew_iload_n d_Pr_folded_13 rfl ?_
  refine ew_iload_n d_Pr_folded_14 rfl ?_
  refine ew_aload_n d_Pr_folded_15 rfl ?_
  refine ew_getr (ci := 5) (f := 5) d_Pr_folded_16 rfl rfl rfl tw_169 ?_
  refine ew_iload_n d_Pr_folded_19 rfl ?_
  refine ew_aald (j := 0) d_Pr_folded_20 rfl (by decide) rfl rfl (by decide) ?_
  refine ew_iload_n d_Pr_folded_21 rfl ?_
  refine ew_iald (j := i) d_Pr_folded_22 rfl (rfl) (by first | with_reducible assumption | with_reducible exact ep_lt _ | with_reducible exact sp_its_lt _ _ _ | with_reducible exact tb_l_rt _ | with_reducible exact tb_l_x _ | with_reducible exact tb_l_o0 _ | with_reducible exact tb_l_o1 _ | with_reducible exact tb_l_va _ | with_reducible exact tb_l_ll _ | with_reducible exact tb_l_cf _ | with_reducible exact tb_l_kf _ | with_reducible exact sp_ts_lt _ _ _ _ | with_reducible exact sp_w_lt _ _ | with_reducible exact sp_cs_lt _ _ _ _ _ | with_reducible exact sp_cb_lt _ _ _ _ _ | with_reducible exact sp_ch_lt _ | with_reducible exact sp_bf_lt _ _ | omega) (by decide) ?_
  refine en_eq (st' := [.int (nI (f i)), .int (nI i), .int (nI 0), .ref 4]) rfl (by rw [show (M 31 i) = (nI (f i)) from (hf i (by omega)).1]) rfl ?_
  refine ew_aload_n d_Pr_folded_23 rfl ?_
  refine ew_getr (ci := 5) (f := 5) d_Pr_folded_24 rfl rfl rfl tw_169 ?_
  refine ew_iload_n d_Pr_folded_27 rfl ?_
  refine ew_aald (j := 0) d_Pr_folded_28 rfl (by decide) rfl rfl (by decide) ?_
  refine ew_iload_n d_Pr_folded_29 rfl ?_
  refine ew_iald (j := i + 16) d_Pr_folded_30 rfl (rfl) (by first | with_reducible assumption | with_reducible exact ep_lt _ | with_reducible exact sp_its_lt _ _ _ | with_reducible exact tb_l_rt _ | with_reducible exact tb_l_x _ | with_reducible exact tb_l_o0 _ | with_reducible exact tb_l_o1 _ | with_reducible exact tb_l_va _ | with_reducible exact tb_l_ll _ | with_reducible exact tb_l_cf _ | with_reducible exact tb_l_kf _ | with_reducible exact sp_ts_lt _ _ _ _ | with_reducible exact sp_w_lt _ _ | with_reducible exact sp_cs_lt _ _ _ _ _ | with_reducible exact sp_cb_lt _ _ _ _ _ | with_reducible exact sp_ch_lt _ | with_reducible exact sp_bf_lt _ _ | omega) (by decide) ?_
  refine en_eq (st' := [.int (nI (f (i + 16))), .int (nI (f i)), .int (nI i), .int (nI 0), .ref 4]) rfl (by rw [show (M 31 (i + 16)) = (nI (f (i + 16))) from (hf (i + 16) (by omega)).1]) rfl ?_
  refine ew_aload_n d_Pr_folded_31 rfl ?_
  refine ew_getr (ci := 5) (f := 3) d_Pr_folded_32 rfl rfl rfl tw_167 ?_
  refine ew_getrN (ci := 7) (f := 2) d_Pr_folded_35 rfl rfl rfl tw_132 ?_
  refine ew_iload_n d_Pr_folded_38 rfl ?_
  refine ew_iald (j := 0) d_Pr_folded_39 rfl (rfl) (by decide) (by decide) ?_
  refine en_eq (st' := [.int (nI B), .int (nI (f (i + 16))), .int (nI (f i)), .int (nI i), .int (nI 0), .ref 4]) rfl (by rw [show (M 25 0) = (nI B) from hB]) rfl ?_
  refine en_callV (As := [.int (nI 0), .int (nI i), .int (nI (f i)), .int (nI (f (i + 16))), .int (nI B)]) (i := 4) (ci := 1) (st := []) (st1 := [.int (nI (sp_fo 1 i (f i) (f (i + 16)) B))]) d_Pr_folded_40 k_Pt_fold rfl rfl tw_444 tw_445 tw_446 rfl (Nat.le_of_ble_eq_true rfl) rfl (Nat.le_of_ble_eq_true rfl) rfl rfl (c_Pt_fold0 l g _ L M (hT) i (f i) (f (i + 16)) B (by first | with_reducible assumption | exact (hf _ (by omega)).2 | omega) (by first | with_reducible assumption | exact (hf _ (by omega)).2 | omega) (by first | with_reducible assumption | exact (hf _ (by omega)).2 | omega) (by first | with_reducible assumption | exact (hf _ (by omega)).2 | omega)) rfl ?_
  exact ew_iret d_Pr_folded_43 rfl (⟨rfl, rfl, rfl⟩)
set_option maxRecDepth 100000 in
theorem c_Pr_folded1 (l : Launch) (g : ew_G) (d L : Nat) (M : ew_M) (hT : sp_tab M) (f : Nat → Nat) (B i : Nat) (hf : ∀ t, t < 16 → M 32 t = nI (f t) ∧ f t < 12289) (hB : M 25 1 = nI B) (hB2 : B < 12289) (hi : i < 8) :
    Ew l g (d + 3) 0 0 m_Pr_folded 0 [.ref 23, .int (nI 1), .int (nI i), .retAddr 0] [] (ew_SH L) M (ew_q (some (.int (nI (sp_fo 2 i (f i) (f (i + 8)) B)))) (ew_SH L) M) := by
  refine ew_iload_n d_Pr_folded_0 rfl ?_
  refine ew_iload_n d_Pr_folded_1 rfl ?_
  refine en_callS (As := [.int (nI 1)]) (st := [.int (nI i)]) (st1 := [.int (nI 16), .int (nI i)]) d_Pr_folded_2 k_Pf_layerSize tw_161 tw_162 rfl (Nat.le_of_ble_eq_true rfl) rfl (Nat.le_of_ble_eq_true rfl) rfl rfl (c_Pf_layerSize1 l g _ L M) rfl ?_
  refine ew_iconst (v := nI 2) d_Pr_folded_5 (by decide) ?_
  refine en_idiv d_Pr_folded_6 (by first | with_reducible assumption | with_reducible exact ep_lt _ | with_reducible exact sp_its_lt _ _ _ | with_reducible exact tb_l_rt _ | with_reducible exact tb_l_x _ | with_reducible exact tb_l_o0 _ | with_reducible exact tb_l_o1 _ | with_reducible exact tb_l_va _ | with_reducible exact tb_l_ll _ | with_reducible exact tb_l_cf _ | with_reducible exact tb_l_kf _ | with_reducible exact sp_ts_lt _ _ _ _ | with_reducible exact sp_w_lt _ _ | with_reducible exact sp_cs_lt _ _ _ _ _ | with_reducible exact sp_cb_lt _ _ _ _ _ | with_reducible exact sp_ch_lt _ | with_reducible exact sp_bf_lt _ _ | omega) (by decide) (by decide) ?_
  refine en_eq rfl (show _ = [.int (nI 8), .int (nI i)] from rfl) rfl ?_
  refine en_iadd d_Pr_folded_7 ?_
  refine en_istore_n (ls' := [.ref 23, .int (nI 1), .int (nI i), .int (nI (i + 8))]) d_Pr_folded_8 (Nat.le_of_ble_eq_true rfl) rfl ?_
  refine ew_aload_n d_Pr_folded_9 rfl ?_
  refine ew_getr (ci := 5) (f := 0) d_Pr_folded_10 rfl rfl rfl tw_164 ?_
  refine ew_iload_n d_Pr_folded_13 rfl ?_
  refine ew_iload_n d_Pr_folded_14 rfl ?_
  refine ew_aload_n d_Pr_folded_15 rfl ?_
  refine ew_getr (ci := 5) (f := 5) d_Pr_folded_16 rfl rfl rfl tw_169 ?_
  refine ew_iload_n d_Pr_folded_19 rfl ?_
  refine ew_aald (j := 1) d_Pr_folded_20 rfl (by decide) rfl rfl (by decide) ?_
  refine ew_iload_n d_Pr_folded_21 rfl ?_
  refine ew_iald (j := i) d_Pr_folded_22 rfl (rfl) (by first | with_reducible assumption | with_reducible exact ep_lt _ | with_reducible exact sp_its_lt _ _ _ | with_reducible exact tb_l_rt _ | with_reducible exact tb_l_x _ | with_reducible exact tb_l_o0 _ | with_reducible exact tb_l_o1 _ | with_reducible exact tb_l_va _ | with_reducible exact tb_l_ll _ | with_reducible exact tb_l_cf _ | with_reducible exact tb_l_kf _ | with_reducible exact sp_ts_lt _ _ _ _ | with_reducible exact sp_w_lt _ _ | with_reducible exact sp_cs_lt _ _ _ _ _ | with_reducible exact sp_cb_lt _ _ _ _ _ | with_reducible exact sp_ch_lt _ | with_reducible exact sp_bf_lt _ _ | omega) (by decide) ?_
  refine en_eq (st' := [.int (nI (f i)), .int (nI i), .int (nI 1), .ref 4]) rfl (by rw [show (M 32 i) = (nI (f i)) from (hf i (by omega)).1]) rfl ?_
  refine ew_aload_n d_Pr_folded_23 rfl ?_
  refine ew_getr (ci := 5) (f := 5) d_Pr_folded_24 rfl rfl rfl tw_169 ?_
  refine ew_iload_n d_Pr_folded_27 rfl ?_
  refine ew_aald (j := 1) d_Pr_folded_28 rfl (by decide) rfl rfl (by decide) ?_
  refine ew_iload_n d_Pr_folded_29 rfl ?_
  refine ew_iald (j := i + 8) d_Pr_folded_30 rfl (rfl) (by first | with_reducible assumption | with_reducible exact ep_lt _ | with_reducible exact sp_its_lt _ _ _ | with_reducible exact tb_l_rt _ | with_reducible exact tb_l_x _ | with_reducible exact tb_l_o0 _ | with_reducible exact tb_l_o1 _ | with_reducible exact tb_l_va _ | with_reducible exact tb_l_ll _ | with_reducible exact tb_l_cf _ | with_reducible exact tb_l_kf _ | with_reducible exact sp_ts_lt _ _ _ _ | with_reducible exact sp_w_lt _ _ | with_reducible exact sp_cs_lt _ _ _ _ _ | with_reducible exact sp_cb_lt _ _ _ _ _ | with_reducible exact sp_ch_lt _ | with_reducible exact sp_bf_lt _ _ | omega) (by decide) ?_
  refine en_eq (st' := [.int (nI (f (i + 8))), .int (nI (f i)), .int (nI i), .int (nI 1), .ref 4]) rfl (by rw [show (M 32 (i + 8)) = (nI (f (i + 8))) from (hf (i + 8) (by omega)).1]) rfl ?_
  refine ew_aload_n d_Pr_folded_31 rfl ?_
  refine ew_getr (ci := 5) (f := 3) d_Pr_folded_32 rfl rfl rfl tw_167 ?_
  refine ew_getrN (ci := 7) (f := 2) d_Pr_folded_35 rfl rfl rfl tw_132 ?_
  refine ew_iload_n d_Pr_folded_38 rfl ?_
  refine ew_iald (j := 1) d_Pr_folded_39 rfl (rfl) (by decide) (by decide) ?_
  refine en_eq (st' := [.int (nI B), .int (nI (f (i + 8))), .int (nI (f i)), .int (nI i), .int (nI 1), .ref 4]) rfl (by rw [show (M 25 1) = (nI B) from hB]) rfl ?_
  refine en_callV (As := [.int (nI 1), .int (nI i), .int (nI (f i)), .int (nI (f (i + 8))), .int (nI B)]) (i := 4) (ci := 1) (st := []) (st1 := [.int (nI (sp_fo 2 i (f i) (f (i + 8)) B))]) d_Pr_folded_40 k_Pt_fold rfl rfl tw_444 tw_445 tw_446 rfl (Nat.le_of_ble_eq_true rfl) rfl (Nat.le_of_ble_eq_true rfl) rfl rfl (c_Pt_fold1 l g _ L M (hT) i (f i) (f (i + 8)) B (by first | with_reducible assumption | exact (hf _ (by omega)).2 | omega) (by first | with_reducible assumption | exact (hf _ (by omega)).2 | omega) (by first | with_reducible assumption | exact (hf _ (by omega)).2 | omega) (by first | with_reducible assumption | exact (hf _ (by omega)).2 | omega)) rfl ?_
  exact ew_iret d_Pr_folded_43 rfl (⟨rfl, rfl, rfl⟩)
set_option maxRecDepth 100000 in
theorem c_Pr_folded2 (l : Launch) (g : ew_G) (d L : Nat) (M : ew_M) (hT : sp_tab M) (f : Nat → Nat) (B i : Nat) (hf : ∀ t, t < 8 → M 33 t = nI (f t) ∧ f t < 12289) (hB : M 25 2 = nI B) (hB2 : B < 12289) (hi : i < 4) :
    Ew l g (d + 3) 0 0 m_Pr_folded 0 [.ref 23, .int (nI 2), .int (nI i), .retAddr 0] [] (ew_SH L) M (ew_q (some (.int (nI (sp_fo 4 i (f i) (f (i + 4)) B)))) (ew_SH L) M) := by
  refine ew_iload_n d_Pr_folded_0 rfl ?_
  refine ew_iload_n d_Pr_folded_1 rfl ?_
  refine en_callS (As := [.int (nI 2)]) (st := [.int (nI i)]) (st1 := [.int (nI 8), .int (nI i)]) d_Pr_folded_2 k_Pf_layerSize tw_161 tw_162 rfl (Nat.le_of_ble_eq_true rfl) rfl (Nat.le_of_ble_eq_true rfl) rfl rfl (c_Pf_layerSize2 l g _ L M) rfl ?_
  refine ew_iconst (v := nI 2) d_Pr_folded_5 (by decide) ?_
  refine en_idiv d_Pr_folded_6 (by first | with_reducible assumption | with_reducible exact ep_lt _ | with_reducible exact sp_its_lt _ _ _ | with_reducible exact tb_l_rt _ | with_reducible exact tb_l_x _ | with_reducible exact tb_l_o0 _ | with_reducible exact tb_l_o1 _ | with_reducible exact tb_l_va _ | with_reducible exact tb_l_ll _ | with_reducible exact tb_l_cf _ | with_reducible exact tb_l_kf _ | with_reducible exact sp_ts_lt _ _ _ _ | with_reducible exact sp_w_lt _ _ | with_reducible exact sp_cs_lt _ _ _ _ _ | with_reducible exact sp_cb_lt _ _ _ _ _ | with_reducible exact sp_ch_lt _ | with_reducible exact sp_bf_lt _ _ | omega) (by decide) (by decide) ?_
  refine en_eq rfl (show _ = [.int (nI 4), .int (nI i)] from rfl) rfl ?_
  refine en_iadd d_Pr_folded_7 ?_
  refine en_istore_n (ls' := [.ref 23, .int (nI 2), .int (nI i), .int (nI (i + 4))]) d_Pr_folded_8 (Nat.le_of_ble_eq_true rfl) rfl ?_
  refine ew_aload_n d_Pr_folded_9 rfl ?_
  refine ew_getr (ci := 5) (f := 0) d_Pr_folded_10 rfl rfl rfl tw_164 ?_
  refine ew_iload_n d_Pr_folded_13 rfl ?_
  refine ew_iload_n d_Pr_folded_14 rfl ?_
  refine ew_aload_n d_Pr_folded_15 rfl ?_
  refine ew_getr (ci := 5) (f := 5) d_Pr_folded_16 rfl rfl rfl tw_169 ?_
  refine ew_iload_n d_Pr_folded_19 rfl ?_
  refine ew_aald (j := 2) d_Pr_folded_20 rfl (by decide) rfl rfl (by decide) ?_
  refine ew_iload_n d_Pr_folded_21 rfl ?_
  refine ew_iald (j := i) d_Pr_folded_22 rfl (rfl) (by first | with_reducible assumption | with_reducible exact ep_lt _ | with_reducible exact sp_its_lt _ _ _ | with_reducible exact tb_l_rt _ | with_reducible exact tb_l_x _ | with_reducible exact tb_l_o0 _ | with_reducible exact tb_l_o1 _ | with_reducible exact tb_l_va _ | with_reducible exact tb_l_ll _ | with_reducible exact tb_l_cf _ | with_reducible exact tb_l_kf _ | with_reducible exact sp_ts_lt _ _ _ _ | with_reducible exact sp_w_lt _ _ | with_reducible exact sp_cs_lt _ _ _ _ _ | with_reducible exact sp_cb_lt _ _ _ _ _ | with_reducible exact sp_ch_lt _ | with_reducible exact sp_bf_lt _ _ | omega) (by decide) ?_
  refine en_eq (st' := [.int (nI (f i)), .int (nI i), .int (nI 2), .ref 4]) rfl (by rw [show (M 33 i) = (nI (f i)) from (hf i (by omega)).1]) rfl ?_
  refine ew_aload_n d_Pr_folded_23 rfl ?_
  refine ew_getr (ci := 5) (f := 5) d_Pr_folded_24 rfl rfl rfl tw_169 ?_
  refine ew_iload_n d_Pr_folded_27 rfl ?_
  refine ew_aald (j := 2) d_Pr_folded_28 rfl (by decide) rfl rfl (by decide) ?_
  refine ew_iload_n d_Pr_folded_29 rfl ?_
  refine ew_iald (j := i + 4) d_Pr_folded_30 rfl (rfl) (by first | with_reducible assumption | with_reducible exact ep_lt _ | with_reducible exact sp_its_lt _ _ _ | with_reducible exact tb_l_rt _ | with_reducible exact tb_l_x _ | with_reducible exact tb_l_o0 _ | with_reducible exact tb_l_o1 _ | with_reducible exact tb_l_va _ | with_reducible exact tb_l_ll _ | with_reducible exact tb_l_cf _ | with_reducible exact tb_l_kf _ | with_reducible exact sp_ts_lt _ _ _ _ | with_reducible exact sp_w_lt _ _ | with_reducible exact sp_cs_lt _ _ _ _ _ | with_reducible exact sp_cb_lt _ _ _ _ _ | with_reducible exact sp_ch_lt _ | with_reducible exact sp_bf_lt _ _ | omega) (by decide) ?_
  refine en_eq (st' := [.int (nI (f (i + 4))), .int (nI (f i)), .int (nI i), .int (nI 2), .ref 4]) rfl (by rw [show (M 33 (i + 4)) = (nI (f (i + 4))) from (hf (i + 4) (by omega)).1]) rfl ?_
  refine ew_aload_n d_Pr_folded_31 rfl ?_
  refine ew_getr (ci := 5) (f := 3) d_Pr_folded_32 rfl rfl rfl tw_167 ?_
  refine ew_getrN (ci := 7) (f := 2) d_Pr_folded_35 rfl rfl rfl tw_132 ?_
  refine ew_iload_n d_Pr_folded_38 rfl ?_
  refine ew_iald (j := 2) d_Pr_folded_39 rfl (rfl) (by decide) (by decide) ?_
  refine en_eq (st' := [.int (nI B), .int (nI (f (i + 4))), .int (nI (f i)), .int (nI i), .int (nI 2), .ref 4]) rfl (by rw [show (M 25 2) = (nI B) from hB]) rfl ?_
  refine en_callV (As := [.int (nI 2), .int (nI i), .int (nI (f i)), .int (nI (f (i + 4))), .int (nI B)]) (i := 4) (ci := 1) (st := []) (st1 := [.int (nI (sp_fo 4 i (f i) (f (i + 4)) B))]) d_Pr_folded_40 k_Pt_fold rfl rfl tw_444 tw_445 tw_446 rfl (Nat.le_of_ble_eq_true rfl) rfl (Nat.le_of_ble_eq_true rfl) rfl rfl (c_Pt_fold2 l g _ L M (hT) i (f i) (f (i + 4)) B (by first | with_reducible assumption | exact (hf _ (by omega)).2 | omega) (by first | with_reducible assumption | exact (hf _ (by omega)).2 | omega) (by first | with_reducible assumption | exact (hf _ (by omega)).2 | omega) (by first | with_reducible assumption | exact (hf _ (by omega)).2 | omega)) rfl ?_
  exact ew_iret d_Pr_folded_43 rfl (⟨rfl, rfl, rfl⟩)
def sp_fi1 (f : Nat → Nat) (B : Nat) (M0 : ew_M) (i : Nat) (M : ew_M) : Prop := (∀ q, q ≠ 32 → M q = M0 q) ∧ ∀ t, t < i → M 32 t = nI (sp_fo 1 t (f t) (f (t + 16)) B)
theorem sp_fi1_s {f : Nat → Nat} {B : Nat} {M0 M : ew_M} {i : Nat} (h : sp_fi1 f B M0 i M) : sp_fi1 f B M0 (i + 1) (ew_w M 32 i (nI (sp_fo 1 i (f i) (f (i + 16)) B))) := by
  refine ⟨fun q hq => by rw [ew_w_ne hq]; exact h.1 q hq, fun t ht => ?_⟩
  by_cases e : t = i
  · subst e
    exact ew_w_at
  · rw [ew_w_j e]
    exact h.2 t (by omega)
set_option maxRecDepth 100000 in
theorem lp_Pr_foldInto1 (l : Launch) (g : ew_G) (d L : Nat) (M0 : ew_M) (hT : sp_tab M0) (f : Nat → Nat) (B : Nat) (hf : ∀ t, t < 32 → M0 31 t = nI (f t) ∧ f t < 12289) (hB : M0 25 0 = nI B) (hB2 : B < 12289) : ∀ (fu i : Nat) (M : ew_M), 16 - i < fu → i ≤ 16 → sp_fi1 f B M0 i M → Ew l g (d + 4) 0 0 m_Pr_foldInto 2 [.ref 23, .int (nI 1), .int (nI i)] [] (ew_SH L) M (fun v sh' M' => sh' = ew_SH L ∧ v = none ∧ sp_fi1 f B M0 16 M') := by
  intro fu
  induction fu with
  | zero =>
    intro i M hn
    exact absurd hn (Nat.not_lt_zero _)
  | succ fu ih =>
    intro i M hn hle hI
    refine ew_iload_n d_Pr_foldInto_2 rfl ?_
    refine ew_iload_n d_Pr_foldInto_3 rfl ?_
    refine en_callS (As := [.int (nI 1)]) (st := [.int (nI i)]) (st1 := [.int (nI 16), .int (nI i)]) d_Pr_foldInto_4 k_Pf_layerSize tw_161 tw_162 rfl (Nat.le_of_ble_eq_true rfl) rfl (Nat.le_of_ble_eq_true rfl) rfl rfl (c_Pf_layerSize1 l g _ L M) rfl ?_
    refine en_icmp_ge (tgt := 32) d_Pr_foldInto_7 (by decide) (by omega) (by omega) (fun h7 => ?_) (fun h7 => ?_)
    · obtain rfl : i = 16 := by omega
      exact ew_ret d_Pr_foldInto_32 rfl (⟨rfl, rfl, hI⟩)
    · refine ew_aload_n d_Pr_foldInto_10 rfl ?_
      refine ew_getr (ci := 5) (f := 5) d_Pr_foldInto_11 rfl rfl rfl tw_169 ?_
      refine ew_iload_n d_Pr_foldInto_14 rfl ?_
      refine ew_aald (j := 1) d_Pr_foldInto_15 rfl (by decide) rfl rfl (by decide) ?_
      refine ew_iload_n d_Pr_foldInto_16 rfl ?_
      refine ew_aload_n d_Pr_foldInto_17 rfl ?_
      refine ew_iload_n d_Pr_foldInto_18 rfl ?_
      refine ew_iconst (v := nI 1) d_Pr_foldInto_19 (by decide) ?_
      refine en_isub d_Pr_foldInto_20 (by first | with_reducible assumption | with_reducible exact ep_lt _ | with_reducible exact sp_its_lt _ _ _ | with_reducible exact tb_l_rt _ | with_reducible exact tb_l_x _ | with_reducible exact tb_l_o0 _ | with_reducible exact tb_l_o1 _ | with_reducible exact tb_l_va _ | with_reducible exact tb_l_ll _ | with_reducible exact tb_l_cf _ | with_reducible exact tb_l_kf _ | with_reducible exact sp_ts_lt _ _ _ _ | with_reducible exact sp_w_lt _ _ | with_reducible exact sp_cs_lt _ _ _ _ _ | with_reducible exact sp_cb_lt _ _ _ _ _ | with_reducible exact sp_ch_lt _ | with_reducible exact sp_bf_lt _ _ | omega) ?_
      refine en_eq rfl (show _ = [.int (nI 0), .ref 23, .int (nI i), .ref 32] from rfl) rfl ?_
      refine ew_iload_n d_Pr_foldInto_21 rfl ?_
      refine en_callV (As := [.int (nI 0), .int (nI i)]) (i := 23) (ci := 5) (st := [.int (nI i), .ref 32]) (st1 := [.int (nI (sp_fo 1 i (f i) (f (i + 16)) B)), .int (nI i), .ref 32]) d_Pr_foldInto_22 k_Pr_folded rfl rfl tw_440 tw_442 tp_13 rfl (Nat.le_of_ble_eq_true rfl) rfl (Nat.le_of_ble_eq_true rfl) rfl rfl (c_Pr_folded0 l g _ L M (sp_tab_of hT (hI.1 5 (by decide)) (hI.1 6 (by decide)) (hI.1 7 (by decide)) (hI.1 8 (by decide)) (hI.1 9 (by decide))) f B i (fun t h => by rw [hI.1 31 (by decide)]; exact hf t h) (by rw [hI.1 25 (by decide)]; exact hB) hB2 (by omega)) rfl ?_
      refine ew_iast (j := i) d_Pr_foldInto_25 rfl (by decide) (rfl) (by omega) (by decide) ?_
      refine en_inc (ls' := [.ref 23, .int (nI 1), .int (nI (i + 1))]) d_Pr_foldInto_26 rfl rfl ?_
      refine ew_goto (tgt := 2) d_Pr_foldInto_29 (by decide) ?_
      exact ih (i + 1) _ (by omega) (by omega) (sp_fi1_s hI)
set_option maxRecDepth 100000 in
theorem c_Pr_foldInto1 (l : Launch) (g : ew_G) (d L : Nat) (M : ew_M) (hT : sp_tab M) (f : Nat → Nat) (B : Nat) (hf : ∀ t, t < 32 → M 31 t = nI (f t) ∧ f t < 12289) (hB : M 25 0 = nI B) (hB2 : B < 12289) :
    Ew l g (d + 4) 0 0 m_Pr_foldInto 0 [.ref 23, .int (nI 1), .retAddr 0] [] (ew_SH L) M (fun v sh' M' => sh' = ew_SH L ∧ v = none ∧ sp_fi1 f B M 16 M') := by
  refine ew_iconst (v := nI 0) d_Pr_foldInto_0 (by decide) ?_
  refine en_istore_n (ls' := [.ref 23, .int (nI 1), .int (nI 0)]) d_Pr_foldInto_1 (Nat.le_of_ble_eq_true rfl) rfl ?_
  exact lp_Pr_foldInto1 l g d L M hT f B hf hB hB2 17 0 M (by omega) (by omega) ⟨fun _ _ => rfl, fun t h => absurd h (Nat.not_lt_zero _)⟩
def sp_fi2 (f : Nat → Nat) (B : Nat) (M0 : ew_M) (i : Nat) (M : ew_M) : Prop := (∀ q, q ≠ 33 → M q = M0 q) ∧ ∀ t, t < i → M 33 t = nI (sp_fo 2 t (f t) (f (t + 8)) B)
theorem sp_fi2_s {f : Nat → Nat} {B : Nat} {M0 M : ew_M} {i : Nat} (h : sp_fi2 f B M0 i M) : sp_fi2 f B M0 (i + 1) (ew_w M 33 i (nI (sp_fo 2 i (f i) (f (i + 8)) B))) := by
  refine ⟨fun q hq => by rw [ew_w_ne hq]; exact h.1 q hq, fun t ht => ?_⟩
  by_cases e : t = i
  · subst e
    exact ew_w_at
  · rw [ew_w_j e]
    exact h.2 t (by omega)
set_option maxRecDepth 100000 in
theorem lp_Pr_foldInto2 (l : Launch) (g : ew_G) (d L : Nat) (M0 : ew_M) (hT : sp_tab M0) (f : Nat → Nat) (B : Nat) (hf : ∀ t, t < 16 → M0 32 t = nI (f t) ∧ f t < 12289) (hB : M0 25 1 = nI B) (hB2 : B < 12289) : ∀ (fu i : Nat) (M : ew_M), 8 - i < fu → i ≤ 8 → sp_fi2 f B M0 i M → Ew l g (d + 4) 0 0 m_Pr_foldInto 2 [.ref 23, .int (nI 2), .int (nI i)] [] (ew_SH L) M (fun v sh' M' => sh' = ew_SH L ∧ v = none ∧ sp_fi2 f B M0 8 M') := by
  intro fu
  induction fu with
  | zero =>
    intro i M hn
    exact absurd hn (Nat.not_lt_zero _)
  | succ fu ih =>
    intro i M hn hle hI
    refine ew_iload_n d_Pr_foldInto_2 rfl ?_
    refine ew_iload_n d_Pr_foldInto_3 rfl ?_
    refine en_callS (As := [.int (nI 2)]) (st := [.int (nI i)]) (st1 := [.int (nI 8), .int (nI i)]) d_Pr_foldInto_4 k_Pf_layerSize tw_161 tw_162 rfl (Nat.le_of_ble_eq_true rfl) rfl (Nat.le_of_ble_eq_true rfl) rfl rfl (c_Pf_layerSize2 l g _ L M) rfl ?_
    refine en_icmp_ge (tgt := 32) d_Pr_foldInto_7 (by decide) (by omega) (by omega) (fun h7 => ?_) (fun h7 => ?_)
    · obtain rfl : i = 8 := by omega
      exact ew_ret d_Pr_foldInto_32 rfl (⟨rfl, rfl, hI⟩)
    · refine ew_aload_n d_Pr_foldInto_10 rfl ?_
      refine ew_getr (ci := 5) (f := 5) d_Pr_foldInto_11 rfl rfl rfl tw_169 ?_
      refine ew_iload_n d_Pr_foldInto_14 rfl ?_
      refine ew_aald (j := 2) d_Pr_foldInto_15 rfl (by decide) rfl rfl (by decide) ?_
      refine ew_iload_n d_Pr_foldInto_16 rfl ?_
      refine ew_aload_n d_Pr_foldInto_17 rfl ?_
      refine ew_iload_n d_Pr_foldInto_18 rfl ?_
      refine ew_iconst (v := nI 1) d_Pr_foldInto_19 (by decide) ?_
      refine en_isub d_Pr_foldInto_20 (by first | with_reducible assumption | with_reducible exact ep_lt _ | with_reducible exact sp_its_lt _ _ _ | with_reducible exact tb_l_rt _ | with_reducible exact tb_l_x _ | with_reducible exact tb_l_o0 _ | with_reducible exact tb_l_o1 _ | with_reducible exact tb_l_va _ | with_reducible exact tb_l_ll _ | with_reducible exact tb_l_cf _ | with_reducible exact tb_l_kf _ | with_reducible exact sp_ts_lt _ _ _ _ | with_reducible exact sp_w_lt _ _ | with_reducible exact sp_cs_lt _ _ _ _ _ | with_reducible exact sp_cb_lt _ _ _ _ _ | with_reducible exact sp_ch_lt _ | with_reducible exact sp_bf_lt _ _ | omega) ?_
      refine en_eq rfl (show _ = [.int (nI 1), .ref 23, .int (nI i), .ref 33] from rfl) rfl ?_
      refine ew_iload_n d_Pr_foldInto_21 rfl ?_
      refine en_callV (As := [.int (nI 1), .int (nI i)]) (i := 23) (ci := 5) (st := [.int (nI i), .ref 33]) (st1 := [.int (nI (sp_fo 2 i (f i) (f (i + 8)) B)), .int (nI i), .ref 33]) d_Pr_foldInto_22 k_Pr_folded rfl rfl tw_440 tw_442 tp_13 rfl (Nat.le_of_ble_eq_true rfl) rfl (Nat.le_of_ble_eq_true rfl) rfl rfl (c_Pr_folded1 l g _ L M (sp_tab_of hT (hI.1 5 (by decide)) (hI.1 6 (by decide)) (hI.1 7 (by decide)) (hI.1 8 (by decide)) (hI.1 9 (by decide))) f B i (fun t h => by rw [hI.1 32 (by decide)]; exact hf t h) (by rw [hI.1 25 (by decide)]; exact hB) hB2 (by omega)) rfl ?_
      refine ew_iast (j := i) d_Pr_foldInto_25 rfl (by decide) (rfl) (by omega) (by decide) ?_
      refine en_inc (ls' := [.ref 23, .int (nI 2), .int (nI (i + 1))]) d_Pr_foldInto_26 rfl rfl ?_
      refine ew_goto (tgt := 2) d_Pr_foldInto_29 (by decide) ?_
      exact ih (i + 1) _ (by omega) (by omega) (sp_fi2_s hI)
set_option maxRecDepth 100000 in
theorem c_Pr_foldInto2 (l : Launch) (g : ew_G) (d L : Nat) (M : ew_M) (hT : sp_tab M) (f : Nat → Nat) (B : Nat) (hf : ∀ t, t < 16 → M 32 t = nI (f t) ∧ f t < 12289) (hB : M 25 1 = nI B) (hB2 : B < 12289) :
    Ew l g (d + 4) 0 0 m_Pr_foldInto 0 [.ref 23, .int (nI 2), .retAddr 0] [] (ew_SH L) M (fun v sh' M' => sh' = ew_SH L ∧ v = none ∧ sp_fi2 f B M 8 M') := by
  refine ew_iconst (v := nI 0) d_Pr_foldInto_0 (by decide) ?_
  refine en_istore_n (ls' := [.ref 23, .int (nI 2), .int (nI 0)]) d_Pr_foldInto_1 (Nat.le_of_ble_eq_true rfl) rfl ?_
  exact lp_Pr_foldInto2 l g d L M hT f B hf hB hB2 9 0 M (by omega) (by omega) ⟨fun _ _ => rfl, fun t h => absurd h (Nat.not_lt_zero _)⟩
def sp_cl0 (f : Nat → Nat) (M0 : ew_M) (i : Nat) (M : ew_M) : Prop := (∀ q, q ≠ 38 → M q = M0 q) ∧ ∀ t, t < i → M 38 (32 + t) = sp_mix (nI (f t)) (nI 12289)
theorem sp_cl0_s {f : Nat → Nat} {M0 M : ew_M} {i : Nat} (h : sp_cl0 f M0 i M) : sp_cl0 f M0 (i + 1) (ew_w M 38 (32 + i) (sp_mix (nI (f i)) (nI 12289))) := by
  refine ⟨fun q hq => by rw [ew_w_ne hq]; exact h.1 q hq, fun t ht => ?_⟩
  by_cases e : t = i
  · subst e
    exact ew_w_at
  · rw [ew_w_j (by omega)]
    exact h.2 t (by omega)
def sp_clq0 (f : Nat → Nat) (L : Nat) (M0 : ew_M) : Option Value → List ew_S → ew_M → Prop := fun v sh' M' => sh' = ew_SH L ∧ v = some (.int (M' 38 1)) ∧ (∀ q, q ≠ 38 → M' q = M0 q) ∧ sp_tree (M' 38) 32 (fun t => sp_mix (nI (f t)) (nI 12289))
set_option maxRecDepth 100000 in
theorem lp_Pr_commitLayer0 (l : Launch) (g : ew_G) (d L : Nat) (M0 : ew_M) (f : Nat → Nat) (hf : ∀ t, t < 32 → M0 31 t = nI (f t)) (hz : M0 37 0 = nI 32) : ∀ (fu i : Nat) (M : ew_M), 32 - i < fu → i ≤ 32 → sp_cl0 f M0 i M → Ew l g (d + 3) 0 0 m_Pr_commitLayer 9 [.ref 23, .int (nI 0), .ref 37, .int (nI i)] [] (ew_SH L) M (sp_clq0 f L M0) := by
  intro fu
  induction fu with
  | zero =>
    intro i M hn
    exact absurd hn (Nat.not_lt_zero _)
  | succ fu ih =>
    intro i M hn hle hI
    refine ew_iload_n d_Pr_commitLayer_9 rfl ?_
    refine ew_iload_n d_Pr_commitLayer_10 rfl ?_
    refine en_callS (As := [.int (nI 0)]) (st := [.int (nI i)]) (st1 := [.int (nI 32), .int (nI i)]) d_Pr_commitLayer_11 k_Pf_layerSize tw_161 tw_162 rfl (Nat.le_of_ble_eq_true rfl) rfl (Nat.le_of_ble_eq_true rfl) rfl rfl (c_Pf_layerSize0 l g _ L M) rfl ?_
    refine en_icmp_ge (tgt := 39) d_Pr_commitLayer_14 (by decide) (by omega) (by omega) (fun h14 => ?_) (fun h14 => ?_)
    · obtain rfl : i = 32 := by omega
      refine ew_aload_n d_Pr_commitLayer_39 rfl ?_
      refine en_callV (As := []) (i := 37) (ci := 8) (st := []) (st1 := [.int (sp_gr (M 38) 32 31 1)]) d_Pr_commitLayer_40 k_Tr_grow rfl rfl tw_384 tw_385 tw_386 rfl (Nat.le_of_ble_eq_true rfl) rfl (Nat.le_of_ble_eq_true rfl) rfl rfl (c_Tr_grow37 l g _ L M (by rw [hI.1 37 (by decide)]; exact hz)) rfl ?_
      exact ew_iret d_Pr_commitLayer_43 rfl (⟨rfl, by rw [ew_up_self], fun q a => by rw [ew_up_ne a]; exact hI.1 q a, by rw [ew_up_self]; exact sp_tree_c (sp_gr_tree (M 38) (by decide)) hI.2⟩)
    · refine ew_aload_n d_Pr_commitLayer_17 rfl ?_
      refine ew_iload_n d_Pr_commitLayer_18 rfl ?_
      refine ew_aload_n d_Pr_commitLayer_19 rfl ?_
      refine ew_getr (ci := 5) (f := 5) d_Pr_commitLayer_20 rfl rfl rfl tw_169 ?_
      refine ew_iload_n d_Pr_commitLayer_23 rfl ?_
      refine ew_aald (j := 0) d_Pr_commitLayer_24 rfl (by decide) rfl rfl (by decide) ?_
      refine ew_iload_n d_Pr_commitLayer_25 rfl ?_
      refine ew_iald (j := i) d_Pr_commitLayer_26 rfl (rfl) (by omega) (by decide) ?_
      refine en_eq (st' := [.int (nI (f i)), .int (nI i), .ref 37]) rfl (by rw [show (M 31 i) = (nI (f i)) from by rw [hI.1 31 (by decide)]; exact hf i (by omega)]) rfl ?_
      refine en_callS (As := [.int (nI (f i))]) (st := [.int (nI i), .ref 37]) (st1 := [.int (sp_mix (nI (f i)) (nI 12289)), .int (nI i), .ref 37]) d_Pr_commitLayer_27 k_Pf_layerLeaf tw_452 tw_453 rfl (Nat.le_of_ble_eq_true rfl) rfl (Nat.le_of_ble_eq_true rfl) rfl rfl (c_Pf_layerLeaf l g _ L M (nI (f i))) rfl ?_
      refine en_callV (As := [.int (nI i), .int (sp_mix (nI (f i)) (nI 12289))]) (i := 37) (ci := 8) (st := []) (st1 := []) d_Pr_commitLayer_30 k_Tr_plant rfl rfl tw_380 tw_381 tw_382 rfl (Nat.le_of_ble_eq_true rfl) rfl (Nat.le_of_ble_eq_true rfl) rfl rfl (c_Tr_plant37 l g _ L M (by rw [hI.1 37 (by decide)]; exact hz) i (sp_mix (nI (f i)) (nI 12289)) (by omega)) rfl ?_
      refine en_inc (ls' := [.ref 23, .int (nI 0), .ref 37, .int (nI (i + 1))]) d_Pr_commitLayer_33 rfl rfl ?_
      refine ew_goto (tgt := 9) d_Pr_commitLayer_36 (by decide) ?_
      exact ih (i + 1) _ (by omega) (by omega) (sp_cl0_s hI)
set_option maxRecDepth 100000 in
theorem c_Pr_commitLayer0 (l : Launch) (g : ew_G) (d L : Nat) (M : ew_M) (f : Nat → Nat) (hf : ∀ t, t < 32 → M 31 t = nI (f t)) (hz : M 37 0 = nI 32) :
    Ew l g (d + 3) 0 0 m_Pr_commitLayer 0 [.ref 23, .int (nI 0), .retAddr 0, .retAddr 0] [] (ew_SH L) M (sp_clq0 f L M) := by
  refine ew_aload_n d_Pr_commitLayer_0 rfl ?_
  refine ew_getr (ci := 5) (f := 7) d_Pr_commitLayer_1 rfl rfl rfl tw_171 ?_
  refine ew_iload_n d_Pr_commitLayer_4 rfl ?_
  refine ew_aald (j := 0) d_Pr_commitLayer_5 rfl (by decide) rfl rfl (by decide) ?_
  refine en_astore_n (ls' := [.ref 23, .int (nI 0), .ref 37, .retAddr 0]) d_Pr_commitLayer_6 (Nat.le_of_ble_eq_true rfl) rfl ?_
  refine ew_iconst (v := nI 0) d_Pr_commitLayer_7 (by decide) ?_
  refine en_istore_n (ls' := [.ref 23, .int (nI 0), .ref 37, .int (nI 0)]) d_Pr_commitLayer_8 (Nat.le_of_ble_eq_true rfl) rfl ?_
  exact lp_Pr_commitLayer0 l g d L M f hf hz 33 0 M (by omega) (by omega) ⟨fun _ _ => rfl, fun t h => absurd h (Nat.not_lt_zero _)⟩
def sp_cl1 (f : Nat → Nat) (M0 : ew_M) (i : Nat) (M : ew_M) : Prop := (∀ q, q ≠ 40 → M q = M0 q) ∧ ∀ t, t < i → M 40 (16 + t) = sp_mix (nI (f t)) (nI 12289)
theorem sp_cl1_s {f : Nat → Nat} {M0 M : ew_M} {i : Nat} (h : sp_cl1 f M0 i M) : sp_cl1 f M0 (i + 1) (ew_w M 40 (16 + i) (sp_mix (nI (f i)) (nI 12289))) := by
  refine ⟨fun q hq => by rw [ew_w_ne hq]; exact h.1 q hq, fun t ht => ?_⟩
  by_cases e : t = i
  · subst e
    exact ew_w_at
  · rw [ew_w_j (by omega)]
    exact h.2 t (by omega)
def sp_clq1 (f : Nat → Nat) (L : Nat) (M0 : ew_M) : Option Value → List ew_S → ew_M → Prop := fun v sh' M' => sh' = ew_SH L ∧ v = some (.int (M' 40 1)) ∧ (∀ q, q ≠ 40 → M' q = M0 q) ∧ sp_tree (M' 40) 16 (fun t => sp_mix (nI (f t)) (nI 12289))
set_option maxRecDepth 100000 in
theorem lp_Pr_commitLayer1 (l : Launch) (g : ew_G) (d L : Nat) (M0 : ew_M) (f : Nat → Nat) (hf : ∀ t, t < 16 → M0 32 t = nI (f t)) (hz : M0 39 0 = nI 16) : ∀ (fu i : Nat) (M : ew_M), 16 - i < fu → i ≤ 16 → sp_cl1 f M0 i M → Ew l g (d + 3) 0 0 m_Pr_commitLayer 9 [.ref 23, .int (nI 1), .ref 39, .int (nI i)] [] (ew_SH L) M (sp_clq1 f L M0) := by
  intro fu
  induction fu with
  | zero =>
    intro i M hn
    exact absurd hn (Nat.not_lt_zero _)
  | succ fu ih =>
    intro i M hn hle hI
    refine ew_iload_n d_Pr_commitLayer_9 rfl ?_
    refine ew_iload_n d_Pr_commitLayer_10 rfl ?_
    refine en_callS (As := [.int (nI 1)]) (st := [.int (nI i)]) (st1 := [.int (nI 16), .int (nI i)]) d_Pr_commitLayer_11 k_Pf_layerSize tw_161 tw_162 rfl (Nat.le_of_ble_eq_true rfl) rfl (Nat.le_of_ble_eq_true rfl) rfl rfl (c_Pf_layerSize1 l g _ L M) rfl ?_
    refine en_icmp_ge (tgt := 39) d_Pr_commitLayer_14 (by decide) (by omega) (by omega) (fun h14 => ?_) (fun h14 => ?_)
    · obtain rfl : i = 16 := by omega
      refine ew_aload_n d_Pr_commitLayer_39 rfl ?_
      refine en_callV (As := []) (i := 39) (ci := 8) (st := []) (st1 := [.int (sp_gr (M 40) 16 15 1)]) d_Pr_commitLayer_40 k_Tr_grow rfl rfl tw_384 tw_385 tw_386 rfl (Nat.le_of_ble_eq_true rfl) rfl (Nat.le_of_ble_eq_true rfl) rfl rfl (c_Tr_grow39 l g _ L M (by rw [hI.1 39 (by decide)]; exact hz)) rfl ?_
      exact ew_iret d_Pr_commitLayer_43 rfl (⟨rfl, by rw [ew_up_self], fun q a => by rw [ew_up_ne a]; exact hI.1 q a, by rw [ew_up_self]; exact sp_tree_c (sp_gr_tree (M 40) (by decide)) hI.2⟩)
    · refine ew_aload_n d_Pr_commitLayer_17 rfl ?_
      refine ew_iload_n d_Pr_commitLayer_18 rfl ?_
      refine ew_aload_n d_Pr_commitLayer_19 rfl ?_
      refine ew_getr (ci := 5) (f := 5) d_Pr_commitLayer_20 rfl rfl rfl tw_169 ?_
      refine ew_iload_n d_Pr_commitLayer_23 rfl ?_
      refine ew_aald (j := 1) d_Pr_commitLayer_24 rfl (by decide) rfl rfl (by decide) ?_
      refine ew_iload_n d_Pr_commitLayer_25 rfl ?_
      refine ew_iald (j := i) d_Pr_commitLayer_26 rfl (rfl) (by omega) (by decide) ?_
      refine en_eq (st' := [.int (nI (f i)), .int (nI i), .ref 39]) rfl (by rw [show (M 32 i) = (nI (f i)) from by rw [hI.1 32 (by decide)]; exact hf i (by omega)]) rfl ?_
      refine en_callS (As := [.int (nI (f i))]) (st := [.int (nI i), .ref 39]) (st1 := [.int (sp_mix (nI (f i)) (nI 12289)), .int (nI i), .ref 39]) d_Pr_commitLayer_27 k_Pf_layerLeaf tw_452 tw_453 rfl (Nat.le_of_ble_eq_true rfl) rfl (Nat.le_of_ble_eq_true rfl) rfl rfl (c_Pf_layerLeaf l g _ L M (nI (f i))) rfl ?_
      refine en_callV (As := [.int (nI i), .int (sp_mix (nI (f i)) (nI 12289))]) (i := 39) (ci := 8) (st := []) (st1 := []) d_Pr_commitLayer_30 k_Tr_plant rfl rfl tw_380 tw_381 tw_382 rfl (Nat.le_of_ble_eq_true rfl) rfl (Nat.le_of_ble_eq_true rfl) rfl rfl (c_Tr_plant39 l g _ L M (by rw [hI.1 39 (by decide)]; exact hz) i (sp_mix (nI (f i)) (nI 12289)) (by omega)) rfl ?_
      refine en_inc (ls' := [.ref 23, .int (nI 1), .ref 39, .int (nI (i + 1))]) d_Pr_commitLayer_33 rfl rfl ?_
      refine ew_goto (tgt := 9) d_Pr_commitLayer_36 (by decide) ?_
      exact ih (i + 1) _ (by omega) (by omega) (sp_cl1_s hI)
set_option maxRecDepth 100000 in
theorem c_Pr_commitLayer1 (l : Launch) (g : ew_G) (d L : Nat) (M : ew_M) (f : Nat → Nat) (hf : ∀ t, t < 16 → M 32 t = nI (f t)) (hz : M 39 0 = nI 16) :
    Ew l g (d + 3) 0 0 m_Pr_commitLayer 0 [.ref 23, .int (nI 1), .retAddr 0, .retAddr 0] [] (ew_SH L) M (sp_clq1 f L M) := by
  refine ew_aload_n d_Pr_commitLayer_0 rfl ?_
  refine ew_getr (ci := 5) (f := 7) d_Pr_commitLayer_1 rfl rfl rfl tw_171 ?_
  refine ew_iload_n d_Pr_commitLayer_4 rfl ?_
  refine ew_aald (j := 1) d_Pr_commitLayer_5 rfl (by decide) rfl rfl (by decide) ?_
  refine en_astore_n (ls' := [.ref 23, .int (nI 1), .ref 39, .retAddr 0]) d_Pr_commitLayer_6 (Nat.le_of_ble_eq_true rfl) rfl ?_
  refine ew_iconst (v := nI 0) d_Pr_commitLayer_7 (by decide) ?_
  refine en_istore_n (ls' := [.ref 23, .int (nI 1), .ref 39, .int (nI 0)]) d_Pr_commitLayer_8 (Nat.le_of_ble_eq_true rfl) rfl ?_
  exact lp_Pr_commitLayer1 l g d L M f hf hz 17 0 M (by omega) (by omega) ⟨fun _ _ => rfl, fun t h => absurd h (Nat.not_lt_zero _)⟩
def sp_cl2 (f : Nat → Nat) (M0 : ew_M) (i : Nat) (M : ew_M) : Prop := (∀ q, q ≠ 42 → M q = M0 q) ∧ ∀ t, t < i → M 42 (8 + t) = sp_mix (nI (f t)) (nI 12289)
theorem sp_cl2_s {f : Nat → Nat} {M0 M : ew_M} {i : Nat} (h : sp_cl2 f M0 i M) : sp_cl2 f M0 (i + 1) (ew_w M 42 (8 + i) (sp_mix (nI (f i)) (nI 12289))) := by
  refine ⟨fun q hq => by rw [ew_w_ne hq]; exact h.1 q hq, fun t ht => ?_⟩
  by_cases e : t = i
  · subst e
    exact ew_w_at
  · rw [ew_w_j (by omega)]
    exact h.2 t (by omega)
def sp_clq2 (f : Nat → Nat) (L : Nat) (M0 : ew_M) : Option Value → List ew_S → ew_M → Prop := fun v sh' M' => sh' = ew_SH L ∧ v = some (.int (M' 42 1)) ∧ (∀ q, q ≠ 42 → M' q = M0 q) ∧ sp_tree (M' 42) 8 (fun t => sp_mix (nI (f t)) (nI 12289))
set_option maxRecDepth 100000 in
theorem lp_Pr_commitLayer2 (l : Launch) (g : ew_G) (d L : Nat) (M0 : ew_M) (f : Nat → Nat) (hf : ∀ t, t < 8 → M0 33 t = nI (f t)) (hz : M0 41 0 = nI 8) : ∀ (fu i : Nat) (M : ew_M), 8 - i < fu → i ≤ 8 → sp_cl2 f M0 i M → Ew l g (d + 3) 0 0 m_Pr_commitLayer 9 [.ref 23, .int (nI 2), .ref 41, .int (nI i)] [] (ew_SH L) M (sp_clq2 f L M0) := by
  intro fu
  induction fu with
  | zero =>
    intro i M hn
    exact absurd hn (Nat.not_lt_zero _)
  | succ fu ih =>
    intro i M hn hle hI
    refine ew_iload_n d_Pr_commitLayer_9 rfl ?_
    refine ew_iload_n d_Pr_commitLayer_10 rfl ?_
    refine en_callS (As := [.int (nI 2)]) (st := [.int (nI i)]) (st1 := [.int (nI 8), .int (nI i)]) d_Pr_commitLayer_11 k_Pf_layerSize tw_161 tw_162 rfl (Nat.le_of_ble_eq_true rfl) rfl (Nat.le_of_ble_eq_true rfl) rfl rfl (c_Pf_layerSize2 l g _ L M) rfl ?_
    refine en_icmp_ge (tgt := 39) d_Pr_commitLayer_14 (by decide) (by omega) (by omega) (fun h14 => ?_) (fun h14 => ?_)
    · obtain rfl : i = 8 := by omega
      refine ew_aload_n d_Pr_commitLayer_39 rfl ?_
      refine en_callV (As := []) (i := 41) (ci := 8) (st := []) (st1 := [.int (sp_gr (M 42) 8 7 1)]) d_Pr_commitLayer_40 k_Tr_grow rfl rfl tw_384 tw_385 tw_386 rfl (Nat.le_of_ble_eq_true rfl) rfl (Nat.le_of_ble_eq_true rfl) rfl rfl (c_Tr_grow41 l g _ L M (by rw [hI.1 41 (by decide)]; exact hz)) rfl ?_
      exact ew_iret d_Pr_commitLayer_43 rfl (⟨rfl, by rw [ew_up_self], fun q a => by rw [ew_up_ne a]; exact hI.1 q a, by rw [ew_up_self]; exact sp_tree_c (sp_gr_tree (M 42) (by decide)) hI.2⟩)
    · refine ew_aload_n d_Pr_commitLayer_17 rfl ?_
      refine ew_iload_n d_Pr_commitLayer_18 rfl ?_
      refine ew_aload_n d_Pr_commitLayer_19 rfl ?_
      refine ew_getr (ci := 5) (f := 5) d_Pr_commitLayer_20 rfl rfl rfl tw_169 ?_
      refine ew_iload_n d_Pr_commitLayer_23 rfl ?_
      refine ew_aald (j := 2) d_Pr_commitLayer_24 rfl (by decide) rfl rfl (by decide) ?_
      refine ew_iload_n d_Pr_commitLayer_25 rfl ?_
      refine ew_iald (j := i) d_Pr_commitLayer_26 rfl (rfl) (by omega) (by decide) ?_
      refine en_eq (st' := [.int (nI (f i)), .int (nI i), .ref 41]) rfl (by rw [show (M 33 i) = (nI (f i)) from by rw [hI.1 33 (by decide)]; exact hf i (by omega)]) rfl ?_
      refine en_callS (As := [.int (nI (f i))]) (st := [.int (nI i), .ref 41]) (st1 := [.int (sp_mix (nI (f i)) (nI 12289)), .int (nI i), .ref 41]) d_Pr_commitLayer_27 k_Pf_layerLeaf tw_452 tw_453 rfl (Nat.le_of_ble_eq_true rfl) rfl (Nat.le_of_ble_eq_true rfl) rfl rfl (c_Pf_layerLeaf l g _ L M (nI (f i))) rfl ?_
      refine en_callV (As := [.int (nI i), .int (sp_mix (nI (f i)) (nI 12289))]) (i := 41) (ci := 8) (st := []) (st1 := []) d_Pr_commitLayer_30 k_Tr_plant rfl rfl tw_380 tw_381 tw_382 rfl (Nat.le_of_ble_eq_true rfl) rfl (Nat.le_of_ble_eq_true rfl) rfl rfl (c_Tr_plant41 l g _ L M (by rw [hI.1 41 (by decide)]; exact hz) i (sp_mix (nI (f i)) (nI 12289)) (by omega)) rfl ?_
      refine en_inc (ls' := [.ref 23, .int (nI 2), .ref 41, .int (nI (i + 1))]) d_Pr_commitLayer_33 rfl rfl ?_
      refine ew_goto (tgt := 9) d_Pr_commitLayer_36 (by decide) ?_
      exact ih (i + 1) _ (by omega) (by omega) (sp_cl2_s hI)
set_option maxRecDepth 100000 in
theorem c_Pr_commitLayer2 (l : Launch) (g : ew_G) (d L : Nat) (M : ew_M) (f : Nat → Nat) (hf : ∀ t, t < 8 → M 33 t = nI (f t)) (hz : M 41 0 = nI 8) :
    Ew l g (d + 3) 0 0 m_Pr_commitLayer 0 [.ref 23, .int (nI 2), .retAddr 0, .retAddr 0] [] (ew_SH L) M (sp_clq2 f L M) := by
  refine ew_aload_n d_Pr_commitLayer_0 rfl ?_
  refine ew_getr (ci := 5) (f := 7) d_Pr_commitLayer_1 rfl rfl rfl tw_171 ?_
  refine ew_iload_n d_Pr_commitLayer_4 rfl ?_
  refine ew_aald (j := 2) d_Pr_commitLayer_5 rfl (by decide) rfl rfl (by decide) ?_
  refine en_astore_n (ls' := [.ref 23, .int (nI 2), .ref 41, .retAddr 0]) d_Pr_commitLayer_6 (Nat.le_of_ble_eq_true rfl) rfl ?_
  refine ew_iconst (v := nI 0) d_Pr_commitLayer_7 (by decide) ?_
  refine en_istore_n (ls' := [.ref 23, .int (nI 2), .ref 41, .int (nI 0)]) d_Pr_commitLayer_8 (Nat.le_of_ble_eq_true rfl) rfl ?_
  exact lp_Pr_commitLayer2 l g d L M f hf hz 9 0 M (by omega) (by omega) ⟨fun _ _ => rfl, fun t h => absurd h (Nat.not_lt_zero _)⟩
