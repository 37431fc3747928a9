def sp_cB0 (f : Nat → Int32) : Bool := sp_in (f 5) 12289 && (sp_in (f 6) 12289 && (sp_in (f 12) 12289 && (sp_in (f 13) 12289 && (sp_in (f 19) 12289 && (sp_in (f 20) 12289 && (sp_in (f 26) 12289 && (sp_in (f 27) 12289)))))))
def sp_lB0 (f : Nat → Int32) : Bool := sp_in (f 33) 12289 && (sp_in (f 39) 12289 && (sp_in (f 45) 12289 && (sp_in (f 50) 12289 && (sp_in (f 55) 12289 && (sp_in (f 59) 12289)))))
def sp_cB1 (f : Nat → Int32) : Bool := sp_in (f 63) 12289 && (sp_in (f 64) 12289 && (sp_in (f 70) 12289 && (sp_in (f 71) 12289 && (sp_in (f 77) 12289 && (sp_in (f 78) 12289 && (sp_in (f 84) 12289 && (sp_in (f 85) 12289)))))))
def sp_lB1 (f : Nat → Int32) : Bool := sp_in (f 91) 12289 && (sp_in (f 97) 12289 && (sp_in (f 103) 12289 && (sp_in (f 108) 12289 && (sp_in (f 113) 12289 && (sp_in (f 117) 12289)))))
def sp_cB2 (f : Nat → Int32) : Bool := sp_in (f 121) 12289 && (sp_in (f 122) 12289 && (sp_in (f 128) 12289 && (sp_in (f 129) 12289 && (sp_in (f 135) 12289 && (sp_in (f 136) 12289 && (sp_in (f 142) 12289 && (sp_in (f 143) 12289)))))))
def sp_lB2 (f : Nat → Int32) : Bool := sp_in (f 149) 12289 && (sp_in (f 155) 12289 && (sp_in (f 161) 12289 && (sp_in (f 166) 12289 && (sp_in (f 171) 12289 && (sp_in (f 175) 12289)))))
def sp_nB (f : Nat → Int32) : Bool := sp_in (f 4) 12289 && (sp_cB0 f && (sp_lB0 f && (sp_cB1 f && (sp_lB1 f && (sp_cB2 f && (sp_lB2 f))))))
set_option maxRecDepth 100000 in
theorem c_Pf_areColumnsInField0 (l : Launch) (g : ew_G) (d L : Nat) (M : ew_M)  :
    Ew l g (d + 1) 0 0 m_Pf_areColumnsInField 0 [.ref 21, .int (nI 0), .retAddr 0, .retAddr 0] [] (ew_SH L) M (ew_q (some (.int (ew_b (sp_cB0 (M 22))))) (ew_SH L) M) := by
  refine ew_iconst (v := nI 0) d_Pf_areColumnsInField_0 (by decide) ?_
  refine en_istore_n (ls' := [.ref 21, .int (nI 0), .int (nI 0), .retAddr 0]) d_Pf_areColumnsInField_1 (Nat.le_of_ble_eq_true rfl) rfl ?_
  refine ew_iload_n d_Pf_areColumnsInField_2 rfl ?_
  refine ew_iconst (v := nI 4) d_Pf_areColumnsInField_3 (by decide) ?_
  refine en_icmp_ge (tgt := 47) d_Pf_areColumnsInField_4 (by decide) (by first | with_reducible assumption | with_reducible exact ep_lt _ | with_reducible exact sp_its_lt _ _ _ | with_reducible exact tb_l_rt _ | with_reducible exact tb_l_x _ | with_reducible exact tb_l_o0 _ | with_reducible exact tb_l_o1 _ | with_reducible exact tb_l_va _ | with_reducible exact tb_l_ll _ | with_reducible exact tb_l_cf _ | with_reducible exact tb_l_kf _ | with_reducible exact sp_ts_lt _ _ _ _ | with_reducible exact sp_w_lt _ _ | with_reducible exact sp_cs_lt _ _ _ _ _ | with_reducible exact sp_cb_lt _ _ _ _ _ | with_reducible exact sp_ch_lt _ | with_reducible exact sp_bf_lt _ _ | omega) (by first | with_reducible assumption | with_reducible exact ep_lt _ | with_reducible exact sp_its_lt _ _ _ | with_reducible exact tb_l_rt _ | with_reducible exact tb_l_x _ | with_reducible exact tb_l_o0 _ | with_reducible exact tb_l_o1 _ | with_reducible exact tb_l_va _ | with_reducible exact tb_l_ll _ | with_reducible exact tb_l_cf _ | with_reducible exact tb_l_kf _ | with_reducible exact sp_ts_lt _ _ _ _ | with_reducible exact sp_w_lt _ _ | with_reducible exact sp_cs_lt _ _ _ _ _ | with_reducible exact sp_cb_lt _ _ _ _ _ | with_reducible exact sp_ch_lt _ | with_reducible exact sp_bf_lt _ _ | omega) (fun h4 => by exact absurd h4 (by decide)) (fun h4 => ?_)
  refine ew_iload_n d_Pf_areColumnsInField_7 rfl ?_
  refine ew_iload_n d_Pf_areColumnsInField_8 rfl ?_
  refine en_callS (As := [.int (nI 0), .int (nI 0)]) (st := []) (st1 := [.int (nI 5)]) d_Pf_areColumnsInField_9 k_Pf_columnStart tw_521 tw_473 rfl (Nat.le_of_ble_eq_true rfl) rfl (Nat.le_of_ble_eq_true rfl) rfl rfl (c_Pf_columnStart l g _ L M 0 0) rfl ?_
  refine en_istore_n (ls' := [.ref 21, .int (nI 0), .int (nI 0), .int (nI 5)]) d_Pf_areColumnsInField_12 (Nat.le_of_ble_eq_true rfl) rfl ?_
  refine ew_aload_n d_Pf_areColumnsInField_13 rfl ?_
  refine ew_getr (ci := 4) (f := 0) d_Pf_areColumnsInField_14 rfl rfl rfl tw_108 ?_
  refine ew_iload_n d_Pf_areColumnsInField_17 rfl ?_
  refine ew_iald (j := 5) d_Pf_areColumnsInField_18 rfl (rfl) (by decide) (by decide) ?_
  refine en_callS (As := [.int (M 22 5)]) (st := []) (st1 := [.int (ew_b (sp_in (M 22 5) 12289))]) d_Pf_areColumnsInField_19 k_Fi_holds tw_516 tw_246 rfl (Nat.le_of_ble_eq_true rfl) rfl (Nat.le_of_ble_eq_true rfl) rfl rfl (c_Fi_holds l g _ (ew_SH L) M (M 22 5)) rfl ?_
  refine en_b_eq (tgt := 39) d_Pf_areColumnsInField_22 (by decide) (fun h22 => ?_) (fun h22 => ?_)
  · refine ew_iconst (v := nI 0) d_Pf_areColumnsInField_39 (by decide) ?_
    exact ew_zret d_Pf_areColumnsInField_40 rfl (by decide) (⟨by rw [show sp_cB0 (M 22) = false from by (unfold sp_cB0; rw [h22]; first | rfl | done)]; rfl, rfl, rfl⟩)
  · refine ew_aload_n d_Pf_areColumnsInField_25 rfl ?_
    refine ew_getr (ci := 4) (f := 0) d_Pf_areColumnsInField_26 rfl rfl rfl tw_108 ?_
    refine ew_iload_n d_Pf_areColumnsInField_29 rfl ?_
    refine ew_iconst (v := nI 1) d_Pf_areColumnsInField_30 (by decide) ?_
    refine en_iadd d_Pf_areColumnsInField_31 ?_
    refine en_eq rfl (show _ = [.int (nI 6), .ref 22] from rfl) rfl ?_
    refine ew_iald (j := 6) d_Pf_areColumnsInField_32 rfl (rfl) (by decide) (by decide) ?_
    refine en_callS (As := [.int (M 22 6)]) (st := []) (st1 := [.int (ew_b (sp_in (M 22 6) 12289))]) d_Pf_areColumnsInField_33 k_Fi_holds tw_516 tw_246 rfl (Nat.le_of_ble_eq_true rfl) rfl (Nat.le_of_ble_eq_true rfl) rfl rfl (c_Fi_holds l g _ (ew_SH L) M (M 22 6)) rfl ?_
    refine en_b_ne (tgt := 41) d_Pf_areColumnsInField_36 (by decide) (fun h36 => ?_) (fun h36 => ?_)
    · refine en_inc (ls' := [.ref 21, .int (nI 0), .int (nI 1), .int (nI 5)]) d_Pf_areColumnsInField_41 rfl rfl ?_
      refine ew_goto (tgt := 2) d_Pf_areColumnsInField_44 (by decide) ?_
      refine ew_iload_n d_Pf_areColumnsInField_2 rfl ?_
      refine ew_iconst (v := nI 4) d_Pf_areColumnsInField_3 (by decide) ?_
      refine en_icmp_ge (tgt := 47) d_Pf_areColumnsInField_4 (by decide) (by first | with_reducible assumption | with_reducible exact ep_lt _ | with_reducible exact sp_its_lt _ _ _ | with_reducible exact tb_l_rt _ | with_reducible exact tb_l_x _ | with_reducible exact tb_l_o0 _ | with_reducible exact tb_l_o1 _ | with_reducible exact tb_l_va _ | with_reducible exact tb_l_ll _ | with_reducible exact tb_l_cf _ | with_reducible exact tb_l_kf _ | with_reducible exact sp_ts_lt _ _ _ _ | with_reducible exact sp_w_lt _ _ | with_reducible exact sp_cs_lt _ _ _ _ _ | with_reducible exact sp_cb_lt _ _ _ _ _ | with_reducible exact sp_ch_lt _ | with_reducible exact sp_bf_lt _ _ | omega) (by first | with_reducible assumption | with_reducible exact ep_lt _ | with_reducible exact sp_its_lt _ _ _ | with_reducible exact tb_l_rt _ | with_reducible exact tb_l_x _ | with_reducible exact tb_l_o0 _ | with_reducible exact tb_l_o1 _ | with_reducible exact tb_l_va _ | with_reducible exact tb_l_ll _ | with_reducible exact tb_l_cf _ | with_reducible exact tb_l_kf _ | with_reducible exact sp_ts_lt _ _ _ _ | with_reducible exact sp_w_lt _ _ | with_reducible exact sp_cs_lt _ _ _ _ _ | with_reducible exact sp_cb_lt _ _ _ _ _ | with_reducible exact sp_ch_lt _ | with_reducible exact sp_bf_lt _ _ | omega) (fun h4_1 => by exact absurd h4_1 (by decide)) (fun h4_1 => ?_)
      refine ew_iload_n d_Pf_areColumnsInField_7 rfl ?_
      refine ew_iload_n d_Pf_areColumnsInField_8 rfl ?_
      refine en_callS (As := [.int (nI 0), .int (nI 1)]) (st := []) (st1 := [.int (nI 12)]) d_Pf_areColumnsInField_9 k_Pf_columnStart tw_521 tw_473 rfl (Nat.le_of_ble_eq_true rfl) rfl (Nat.le_of_ble_eq_true rfl) rfl rfl (c_Pf_columnStart l g _ L M 0 1) rfl ?_
      refine en_istore_n (ls' := [.ref 21, .int (nI 0), .int (nI 1), .int (nI 12)]) d_Pf_areColumnsInField_12 (Nat.le_of_ble_eq_true rfl) rfl ?_
      refine ew_aload_n d_Pf_areColumnsInField_13 rfl ?_
      refine ew_getr (ci := 4) (f := 0) d_Pf_areColumnsInField_14 rfl rfl rfl tw_108 ?_
      refine ew_iload_n d_Pf_areColumnsInField_17 rfl ?_
      refine ew_iald (j := 12) d_Pf_areColumnsInField_18 rfl (rfl) (by decide) (by decide) ?_
      refine en_callS (As := [.int (M 22 12)]) (st := []) (st1 := [.int (ew_b (sp_in (M 22 12) 12289))]) d_Pf_areColumnsInField_19 k_Fi_holds tw_516 tw_246 rfl (Nat.le_of_ble_eq_true rfl) rfl (Nat.le_of_ble_eq_true rfl) rfl rfl (c_Fi_holds l g _ (ew_SH L) M (M 22 12)) rfl ?_
      refine en_b_eq (tgt := 39) d_Pf_areColumnsInField_22 (by decide) (fun h22_1 => ?_) (fun h22_1 => ?_)
      · refine ew_iconst (v := nI 0) d_Pf_areColumnsInField_39 (by decide) ?_
        exact ew_zret d_Pf_areColumnsInField_40 rfl (by decide) (⟨by rw [show sp_cB0 (M 22) = false from by (unfold sp_cB0; rw [h22, h36, h22_1]; first | rfl | done)]; rfl, rfl, rfl⟩)
      · refine ew_aload_n d_Pf_areColumnsInField_25 rfl ?_
        refine ew_getr (ci := 4) (f := 0) d_Pf_areColumnsInField_26 rfl rfl rfl tw_108 ?_
        refine ew_iload_n d_Pf_areColumnsInField_29 rfl ?_
        refine ew_iconst (v := nI 1) d_Pf_areColumnsInField_30 (by decide) ?_
        refine en_iadd d_Pf_areColumnsInField_31 ?_
        refine en_eq rfl (show _ = [.int (nI 13), .ref 22] from rfl) rfl ?_
        refine ew_iald (j := 13) d_Pf_areColumnsInField_32 rfl (rfl) (by decide) (by decide) ?_
        refine en_callS (As := [.int (M 22 13)]) (st := []) (st1 := [.int (ew_b (sp_in (M 22 13) 12289))]) d_Pf_areColumnsInField_33 k_Fi_holds tw_516 tw_246 rfl (Nat.le_of_ble_eq_true rfl) rfl (Nat.le_of_ble_eq_true rfl) rfl rfl (c_Fi_holds l g _ (ew_SH L) M (M 22 13)) rfl ?_
        refine en_b_ne (tgt := 41) d_Pf_areColumnsInField_36 (by decide) (fun h36_1 => ?_) (fun h36_1 => ?_)
        · refine en_inc (ls' := [.ref 21, .int (nI 0), .int (nI 2), .int (nI 12)]) d_Pf_areColumnsInField_41 rfl rfl ?_
          refine ew_goto (tgt := 2) d_Pf_areColumnsInField_44 (by decide) ?_
          refine ew_iload_n d_Pf_areColumnsInField_2 rfl ?_
          refine ew_iconst (v := nI 4) d_Pf_areColumnsInField_3 (by decide) ?_
          refine en_icmp_ge (tgt := 47) d_Pf_areColumnsInField_4 (by decide) (by first | with_reducible assumption | with_reducible exact ep_lt _ | with_reducible exact sp_its_lt _ _ _ | with_reducible exact tb_l_rt _ | with_reducible exact tb_l_x _ | with_reducible exact tb_l_o0 _ | with_reducible exact tb_l_o1 _ | with_reducible exact tb_l_va _ | with_reducible exact tb_l_ll _ | with_reducible exact tb_l_cf _ | with_reducible exact tb_l_kf _ | with_reducible exact sp_ts_lt _ _ _ _ | with_reducible exact sp_w_lt _ _ | with_reducible exact sp_cs_lt _ _ _ _ _ | with_reducible exact sp_cb_lt _ _ _ _ _ | with_reducible exact sp_ch_lt _ | with_reducible exact sp_bf_lt _ _ | omega) (by first | with_reducible assumption | with_reducible exact ep_lt _ | with_reducible exact sp_its_lt _ _ _ | with_reducible exact tb_l_rt _ | with_reducible exact tb_l_x _ | with_reducible exact tb_l_o0 _ | with_reducible exact tb_l_o1 _ | with_reducible exact tb_l_va _ | with_reducible exact tb_l_ll _ | with_reducible exact tb_l_cf _ | with_reducible exact tb_l_kf _ | with_reducible exact sp_ts_lt _ _ _ _ | with_reducible exact sp_w_lt _ _ | with_reducible exact sp_cs_lt _ _ _ _ _ | with_reducible exact sp_cb_lt _ _ _ _ _ | with_reducible exact sp_ch_lt _ | with_reducible exact sp_bf_lt _ _ | omega) (fun h4_2 => by exact absurd h4_2 (by decide)) (fun h4_2 => ?_)
          refine ew_iload_n d_Pf_areColumnsInField_7 rfl ?_
          refine ew_iload_n d_Pf_areColumnsInField_8 rfl ?_
          refine en_callS (As := [.int (nI 0), .int (nI 2)]) (st := []) (st1 := [.int (nI 19)]) d_Pf_areColumnsInField_9 k_Pf_columnStart tw_521 tw_473 rfl (Nat.le_of_ble_eq_true rfl) rfl (Nat.le_of_ble_eq_true rfl) rfl rfl (c_Pf_columnStart l g _ L M 0 2) rfl ?_
          refine en_istore_n (ls' := [.ref 21, .int (nI 0), .int (nI 2), .int (nI 19)]) d_Pf_areColumnsInField_12 (Nat.le_of_ble_eq_true rfl) rfl ?_
          refine ew_aload_n d_Pf_areColumnsInField_13 rfl ?_
          refine ew_getr (ci := 4) (f := 0) d_Pf_areColumnsInField_14 rfl rfl rfl tw_108 ?_
          refine ew_iload_n d_Pf_areColumnsInField_17 rfl ?_
          refine ew_iald (j := 19) d_Pf_areColumnsInField_18 rfl (rfl) (by decide) (by decide) ?_
          refine en_callS (As := [.int (M 22 19)]) (st := []) (st1 := [.int (ew_b (sp_in (M 22 19) 12289))]) d_Pf_areColumnsInField_19 k_Fi_holds tw_516 tw_246 rfl (Nat.le_of_ble_eq_true rfl) rfl (Nat.le_of_ble_eq_true rfl) rfl rfl (c_Fi_holds l g _ (ew_SH L) M (M 22 19)) rfl ?_
          refine en_b_eq (tgt := 39) d_Pf_areColumnsInField_22 (by decide) (fun h22_2 => ?_) (fun h22_2 => ?_)
          · refine ew_iconst (v := nI 0) d_Pf_areColumnsInField_39 (by decide) ?_
            exact ew_zret d_Pf_areColumnsInField_40 rfl (by decide) (⟨by rw [show sp_cB0 (M 22) = false from by (unfold sp_cB0; rw [h22, h36, h22_1, h36_1, h22_2]; first | rfl | done)]; rfl, rfl, rfl⟩)
          · refine ew_aload_n d_Pf_areColumnsInField_25 rfl ?_
            refine ew_getr (ci := 4) (f := 0) d_Pf_areColumnsInField_26 rfl rfl rfl tw_108 ?_
            refine ew_iload_n d_Pf_areColumnsInField_29 rfl ?_
            refine ew_iconst (v := nI 1) d_Pf_areColumnsInField_30 (by decide) ?_
            refine en_iadd d_Pf_areColumnsInField_31 ?_
            refine en_eq rfl (show _ = [.int (nI 20), .ref 22] from rfl) rfl ?_
            refine ew_iald (j := 20) d_Pf_areColumnsInField_32 rfl (rfl) (by decide) (by decide) ?_
            refine en_callS (As := [.int (M 22 20)]) (st := []) (st1 := [.int (ew_b (sp_in (M 22 20) 12289))]) d_Pf_areColumnsInField_33 k_Fi_holds tw_516 tw_246 rfl (Nat.le_of_ble_eq_true rfl) rfl (Nat.le_of_ble_eq_true rfl) rfl rfl (c_Fi_holds l g _ (ew_SH L) M (M 22 20)) rfl ?_
            refine en_b_ne (tgt := 41) d_Pf_areColumnsInField_36 (by decide) (fun h36_2 => ?_) (fun h36_2 => ?_)
            · refine en_inc (ls' := [.ref 21, .int (nI 0), .int (nI 3), .int (nI 19)]) d_Pf_areColumnsInField_41 rfl rfl ?_
              refine ew_goto (tgt := 2) d_Pf_areColumnsInField_44 (by decide) ?_
              refine ew_iload_n d_Pf_areColumnsInField_2 rfl ?_
              refine ew_iconst (v := nI 4) d_Pf_areColumnsInField_3 (by decide) ?_
              refine en_icmp_ge (tgt := 47) d_Pf_areColumnsInField_4 (by decide) (by first | with_reducible assumption | with_reducible exact ep_lt _ | with_reducible exact sp_its_lt _ _ _ | with_reducible exact tb_l_rt _ | with_reducible exact tb_l_x _ | with_reducible exact tb_l_o0 _ | with_reducible exact tb_l_o1 _ | with_reducible exact tb_l_va _ | with_reducible exact tb_l_ll _ | with_reducible exact tb_l_cf _ | with_reducible exact tb_l_kf _ | with_reducible exact sp_ts_lt _ _ _ _ | with_reducible exact sp_w_lt _ _ | with_reducible exact sp_cs_lt _ _ _ _ _ | with_reducible exact sp_cb_lt _ _ _ _ _ | with_reducible exact sp_ch_lt _ | with_reducible exact sp_bf_lt _ _ | omega) (by first | with_reducible assumption | with_reducible exact ep_lt _ | with_reducible exact sp_its_lt _ _ _ | with_reducible exact tb_l_rt _ | with_reducible exact tb_l_x _ | with_reducible exact tb_l_o0 _ | with_reducible exact tb_l_o1 _ | with_reducible exact tb_l_va _ | with_reducible exact tb_l_ll _ | with_reducible exact tb_l_cf _ | with_reducible exact tb_l_kf _ | with_reducible exact sp_ts_lt _ _ _ _ | with_reducible exact sp_w_lt _ _ | with_reducible exact sp_cs_lt _ _ _ _ _ | with_reducible exact sp_cb_lt _ _ _ _ _ | with_reducible exact sp_ch_lt _ | with_reducible exact sp_bf_lt _ _ | omega) (fun h4_3 => by exact absurd h4_3 (by decide)) (fun h4_3 => ?_)
              refine ew_iload_n d_Pf_areColumnsInField_7 rfl ?_
              refine ew_iload_n d_Pf_areColumnsInField_8 rfl ?_
              refine en_callS (As := [.int (nI 0), .int (nI 3)]) (st := []) (st1 := [.int (nI 26)]) d_Pf_areColumnsInField_9 k_Pf_columnStart tw_521 tw_473 rfl (Nat.le_of_ble_eq_true rfl) rfl (Nat.le_of_ble_eq_true rfl) rfl rfl (c_Pf_columnStart l g _ L M 0 3) rfl ?_
              refine en_istore_n (ls' := [.ref 21, .int (nI 0), .int (nI 3), .int (nI 26)]) d_Pf_areColumnsInField_12 (Nat.le_of_ble_eq_true rfl) rfl ?_
              refine ew_aload_n d_Pf_areColumnsInField_13 rfl ?_
              refine ew_getr (ci := 4) (f := 0) d_Pf_areColumnsInField_14 rfl rfl rfl tw_108 ?_
              refine ew_iload_n d_Pf_areColumnsInField_17 rfl ?_
              refine ew_iald (j := 26) d_Pf_areColumnsInField_18 rfl (rfl) (by decide) (by decide) ?_
              refine en_callS (As := [.int (M 22 26)]) (st := []) (st1 := [.int (ew_b (sp_in (M 22 26) 12289))]) d_Pf_areColumnsInField_19 k_Fi_holds tw_516 tw_246 rfl (Nat.le_of_ble_eq_true rfl) rfl (Nat.le_of_ble_eq_true rfl) rfl rfl (c_Fi_holds l g _ (ew_SH L) M (M 22 26)) rfl ?_
              refine en_b_eq (tgt := 39) d_Pf_areColumnsInField_22 (by decide) (fun h22_3 => ?_) (fun h22_3 => ?_)
              · refine ew_iconst (v := nI 0) d_Pf_areColumnsInField_39 (by decide) ?_
                exact ew_zret d_Pf_areColumnsInField_40 rfl (by decide) (⟨by rw [show sp_cB0 (M 22) = false from by (unfold sp_cB0; rw [h22, h36, h22_1, h36_1, h22_2, h36_2, h22_3]; first | rfl | done)]; rfl, rfl, rfl⟩)
              · refine ew_aload_n d_Pf_areColumnsInField_25 rfl ?_
                refine ew_getr (ci := 4) (f := 0) d_Pf_areColumnsInField_26 rfl rfl rfl tw_108 ?_
                refine ew_iload_n d_Pf_areColumnsInField_29 rfl ?_
                refine ew_iconst (v := nI 1) d_Pf_areColumnsInField_30 (by decide) ?_
                refine en_iadd d_Pf_areColumnsInField_31 ?_
                refine en_eq rfl (show _ = [.int (nI 27), .ref 22] from rfl) rfl ?_
                refine ew_iald (j := 27) d_Pf_areColumnsInField_32 rfl (rfl) (by decide) (by decide) ?_
                refine en_callS (As := [.int (M 22 27)]) (st := []) (st1 := [.int (ew_b (sp_in (M 22 27) 12289))]) d_Pf_areColumnsInField_33 k_Fi_holds tw_516 tw_246 rfl (Nat.le_of_ble_eq_true rfl) rfl (Nat.le_of_ble_eq_true rfl) rfl rfl (c_Fi_holds l g _ (ew_SH L) M (M 22 27)) rfl ?_
                refine en_b_ne (tgt := 41) d_Pf_areColumnsInField_36 (by decide) (fun h36_3 => ?_) (fun h36_3 => ?_)
                · refine en_inc (ls' := [.ref 21, .int (nI 0), .int (nI 4), .int (nI 26)]) d_Pf_areColumnsInField_41 rfl rfl ?_
                  refine ew_goto (tgt := 2) d_Pf_areColumnsInField_44 (by decide) ?_
                  refine ew_iload_n d_Pf_areColumnsInField_2 rfl ?_
                  refine ew_iconst (v := nI 4) d_Pf_areColumnsInField_3 (by decide) ?_
                  refine en_icmp_ge (tgt := 47) d_Pf_areColumnsInField_4 (by decide) (by first | with_reducible assumption | with_reducible exact ep_lt _ | with_reducible exact sp_its_lt _ _ _ | with_reducible exact tb_l_rt _ | with_reducible exact tb_l_x _ | with_reducible exact tb_l_o0 _ | with_reducible exact tb_l_o1 _ | with_reducible exact tb_l_va _ | with_reducible exact tb_l_ll _ | with_reducible exact tb_l_cf _ | with_reducible exact tb_l_kf _ | with_reducible exact sp_ts_lt _ _ _ _ | with_reducible exact sp_w_lt _ _ | with_reducible exact sp_cs_lt _ _ _ _ _ | with_reducible exact sp_cb_lt _ _ _ _ _ | with_reducible exact sp_ch_lt _ | with_reducible exact sp_bf_lt _ _ | omega) (by first | with_reducible assumption | with_reducible exact ep_lt _ | with_reducible exact sp_its_lt _ _ _ | with_reducible exact tb_l_rt _ | with_reducible exact tb_l_x _ | with_reducible exact tb_l_o0 _ | with_reducible exact tb_l_o1 _ | with_reducible exact tb_l_va _ | with_reducible exact tb_l_ll _ | with_reducible exact tb_l_cf _ | with_reducible exact tb_l_kf _ | with_reducible exact sp_ts_lt _ _ _ _ | with_reducible exact sp_w_lt _ _ | with_reducible exact sp_cs_lt _ _ _ _ _ | with_reducible exact sp_cb_lt _ _ _ _ _ | with_reducible exact sp_ch_lt _ | with_reducible exact sp_bf_lt _ _ | omega) (fun h4_4 => ?_) (fun h4_4 => by exact absurd h4_4 (by decide))
                  refine ew_iconst (v := nI 1) d_Pf_areColumnsInField_47 (by decide) ?_
                  exact ew_zret d_Pf_areColumnsInField_48 rfl (by decide) (⟨by rw [show sp_cB0 (M 22) = true from by (unfold sp_cB0; rw [h22, h36, h22_1, h36_1, h22_2, h36_2, h22_3, h36_3]; first | rfl | done)]; rfl, rfl, rfl⟩)
                · refine ew_iconst (v := nI 0) d_Pf_areColumnsInField_39 (by decide) ?_
                  exact ew_zret d_Pf_areColumnsInField_40 rfl (by decide) (⟨by rw [show sp_cB0 (M 22) = false from by (unfold sp_cB0; rw [h22, h36, h22_1, h36_1, h22_2, h36_2, h22_3, h36_3]; first | rfl | done)]; rfl, rfl, rfl⟩)
            · refine ew_iconst (v := nI 0) d_Pf_areColumnsInField_39 (by decide) ?_
              exact ew_zret d_Pf_areColumnsInField_40 rfl (by decide) (⟨by rw [show sp_cB0 (M 22) = false from by (unfold sp_cB0; rw [h22, h36, h22_1, h36_1, h22_2, h36_2]; first | rfl | done)]; rfl, rfl, rfl⟩)
        · refine ew_iconst (v := nI 0) d_Pf_areColumnsInField_39 (by decide) ?_
          exact ew_zret d_Pf_areColumnsInField_40 rfl (by decide) (⟨by rw [show sp_cB0 (M 22) = false from by (unfold sp_cB0; rw [h22, h36, h22_1, h36_1]; first | rfl | done)]; rfl, rfl, rfl⟩)
    · refine ew_iconst (v := nI 0) d_Pf_areColumnsInField_39 (by decide) ?_
      exact ew_zret d_Pf_areColumnsInField_40 rfl (by decide) (⟨by rw [show sp_cB0 (M 22) = false from by (unfold sp_cB0; rw [h22, h36]; first | rfl | done)]; rfl, rfl, rfl⟩)
set_option maxRecDepth 100000 in
theorem c_Pf_areLayersInField0 (l : Launch) (g : ew_G) (d L : Nat) (M : ew_M) (hs : sp_st M) :
    Ew l g (d + 1) 0 0 m_Pf_areLayersInField 0 [.ref 21, .int (nI 0), .retAddr 0, .retAddr 0] [] (ew_SH L) M (ew_q (some (.int (ew_b (sp_lB0 (M 22))))) (ew_SH L) M) := by
  refine ew_iconst (v := nI 0) d_Pf_areLayersInField_0 (by decide) ?_
  refine en_istore_n (ls' := [.ref 21, .int (nI 0), .int (nI 0), .retAddr 0]) d_Pf_areLayersInField_1 (Nat.le_of_ble_eq_true rfl) rfl ?_
  refine ew_iload_n d_Pf_areLayersInField_2 rfl ?_
  refine ew_iconst (v := nI 3) d_Pf_areLayersInField_3 (by decide) ?_
  refine en_icmp_ge (tgt := 45) d_Pf_areLayersInField_4 (by decide) (by first | with_reducible assumption | with_reducible exact ep_lt _ | with_reducible exact sp_its_lt _ _ _ | with_reducible exact tb_l_rt _ | with_reducible exact tb_l_x _ | with_reducible exact tb_l_o0 _ | with_reducible exact tb_l_o1 _ | with_reducible exact tb_l_va _ | with_reducible exact tb_l_ll _ | with_reducible exact tb_l_cf _ | with_reducible exact tb_l_kf _ | with_reducible exact sp_ts_lt _ _ _ _ | with_reducible exact sp_w_lt _ _ | with_reducible exact sp_cs_lt _ _ _ _ _ | with_reducible exact sp_cb_lt _ _ _ _ _ | with_reducible exact sp_ch_lt _ | with_reducible exact sp_bf_lt _ _ | omega) (by first | with_reducible assumption | with_reducible exact ep_lt _ | with_reducible exact sp_its_lt _ _ _ | with_reducible exact tb_l_rt _ | with_reducible exact tb_l_x _ | with_reducible exact tb_l_o0 _ | with_reducible exact tb_l_o1 _ | with_reducible exact tb_l_va _ | with_reducible exact tb_l_ll _ | with_reducible exact tb_l_cf _ | with_reducible exact tb_l_kf _ | with_reducible exact sp_ts_lt _ _ _ _ | with_reducible exact sp_w_lt _ _ | with_reducible exact sp_cs_lt _ _ _ _ _ | with_reducible exact sp_cb_lt _ _ _ _ _ | with_reducible exact sp_ch_lt _ | with_reducible exact sp_bf_lt _ _ | omega) (fun h4 => by exact absurd h4 (by decide)) (fun h4 => ?_)
  refine ew_iconst (v := nI 0) d_Pf_areLayersInField_7 (by decide) ?_
  refine en_istore_n (ls' := [.ref 21, .int (nI 0), .int (nI 0), .int (nI 0)]) d_Pf_areLayersInField_8 (Nat.le_of_ble_eq_true rfl) rfl ?_
  refine ew_iload_n d_Pf_areLayersInField_9 rfl ?_
  refine ew_iconst (v := nI 2) d_Pf_areLayersInField_10 (by decide) ?_
  refine en_icmp_ge (tgt := 39) d_Pf_areLayersInField_11 (by decide) (by first | with_reducible assumption | with_reducible exact ep_lt _ | with_reducible exact sp_its_lt _ _ _ | with_reducible exact tb_l_rt _ | with_reducible exact tb_l_x _ | with_reducible exact tb_l_o0 _ | with_reducible exact tb_l_o1 _ | with_reducible exact tb_l_va _ | with_reducible exact tb_l_ll _ | with_reducible exact tb_l_cf _ | with_reducible exact tb_l_kf _ | with_reducible exact sp_ts_lt _ _ _ _ | with_reducible exact sp_w_lt _ _ | with_reducible exact sp_cs_lt _ _ _ _ _ | with_reducible exact sp_cb_lt _ _ _ _ _ | with_reducible exact sp_ch_lt _ | with_reducible exact sp_bf_lt _ _ | omega) (by first | with_reducible assumption | with_reducible exact ep_lt _ | with_reducible exact sp_its_lt _ _ _ | with_reducible exact tb_l_rt _ | with_reducible exact tb_l_x _ | with_reducible exact tb_l_o0 _ | with_reducible exact tb_l_o1 _ | with_reducible exact tb_l_va _ | with_reducible exact tb_l_ll _ | with_reducible exact tb_l_cf _ | with_reducible exact tb_l_kf _ | with_reducible exact sp_ts_lt _ _ _ _ | with_reducible exact sp_w_lt _ _ | with_reducible exact sp_cs_lt _ _ _ _ _ | with_reducible exact sp_cb_lt _ _ _ _ _ | with_reducible exact sp_ch_lt _ | with_reducible exact sp_bf_lt _ _ | omega) (fun h11 => by exact absurd h11 (by decide)) (fun h11 => ?_)
  refine ew_aload_n d_Pf_areLayersInField_14 rfl ?_
  refine ew_getr (ci := 4) (f := 0) d_Pf_areLayersInField_15 rfl rfl rfl tw_108 ?_
  refine ew_iload_n d_Pf_areLayersInField_18 rfl ?_
  refine ew_iload_n d_Pf_areLayersInField_19 rfl ?_
  refine ew_iload_n d_Pf_areLayersInField_20 rfl ?_
  refine en_callS (As := [.int (nI 0), .int (nI 0), .int (nI 0)]) (st := [.ref 22]) (st1 := [.int (nI 33), .ref 22]) d_Pf_areLayersInField_21 k_Pf_layerStart tw_526 tw_488 rfl (Nat.le_of_ble_eq_true rfl) rfl (Nat.le_of_ble_eq_true rfl) rfl rfl (c_Pf_layerStart0 l g _ L M (hs) 0 0) rfl ?_
  refine ew_iald (j := 33) d_Pf_areLayersInField_24 rfl (rfl) (by decide) (by decide) ?_
  refine en_callS (As := [.int (M 22 33)]) (st := []) (st1 := [.int (ew_b (sp_in (M 22 33) 12289))]) d_Pf_areLayersInField_25 k_Fi_holds tw_516 tw_246 rfl (Nat.le_of_ble_eq_true rfl) rfl (Nat.le_of_ble_eq_true rfl) rfl rfl (c_Fi_holds l g _ (ew_SH L) M (M 22 33)) rfl ?_
  refine en_b_ne (tgt := 33) d_Pf_areLayersInField_28 (by decide) (fun h28 => ?_) (fun h28 => ?_)
  · refine en_inc (ls' := [.ref 21, .int (nI 0), .int (nI 0), .int (nI 1)]) d_Pf_areLayersInField_33 rfl rfl ?_
    refine ew_goto (tgt := 9) d_Pf_areLayersInField_36 (by decide) ?_
    refine ew_iload_n d_Pf_areLayersInField_9 rfl ?_
    refine ew_iconst (v := nI 2) d_Pf_areLayersInField_10 (by decide) ?_
    refine en_icmp_ge (tgt := 39) d_Pf_areLayersInField_11 (by decide) (by first | with_reducible assumption | with_reducible exact ep_lt _ | with_reducible exact sp_its_lt _ _ _ | with_reducible exact tb_l_rt _ | with_reducible exact tb_l_x _ | with_reducible exact tb_l_o0 _ | with_reducible exact tb_l_o1 _ | with_reducible exact tb_l_va _ | with_reducible exact tb_l_ll _ | with_reducible exact tb_l_cf _ | with_reducible exact tb_l_kf _ | with_reducible exact sp_ts_lt _ _ _ _ | with_reducible exact sp_w_lt _ _ | with_reducible exact sp_cs_lt _ _ _ _ _ | with_reducible exact sp_cb_lt _ _ _ _ _ | with_reducible exact sp_ch_lt _ | with_reducible exact sp_bf_lt _ _ | omega) (by first | with_reducible assumption | with_reducible exact ep_lt _ | with_reducible exact sp_its_lt _ _ _ | with_reducible exact tb_l_rt _ | with_reducible exact tb_l_x _ | with_reducible exact tb_l_o0 _ | with_reducible exact tb_l_o1 _ | with_reducible exact tb_l_va _ | with_reducible exact tb_l_ll _ | with_reducible exact tb_l_cf _ | with_reducible exact tb_l_kf _ | with_reducible exact sp_ts_lt _ _ _ _ | with_reducible exact sp_w_lt _ _ | with_reducible exact sp_cs_lt _ _ _ _ _ | with_reducible exact sp_cb_lt _ _ _ _ _ | with_reducible exact sp_ch_lt _ | with_reducible exact sp_bf_lt _ _ | omega) (fun h11_1 => by exact absurd h11_1 (by decide)) (fun h11_1 => ?_)
    refine ew_aload_n d_Pf_areLayersInField_14 rfl ?_
    refine ew_getr (ci := 4) (f := 0) d_Pf_areLayersInField_15 rfl rfl rfl tw_108 ?_
    refine ew_iload_n d_Pf_areLayersInField_18 rfl ?_
    refine ew_iload_n d_Pf_areLayersInField_19 rfl ?_
    refine ew_iload_n d_Pf_areLayersInField_20 rfl ?_
    refine en_callS (As := [.int (nI 0), .int (nI 0), .int (nI 1)]) (st := [.ref 22]) (st1 := [.int (nI 39), .ref 22]) d_Pf_areLayersInField_21 k_Pf_layerStart tw_526 tw_488 rfl (Nat.le_of_ble_eq_true rfl) rfl (Nat.le_of_ble_eq_true rfl) rfl rfl (c_Pf_layerStart0 l g _ L M (hs) 0 1) rfl ?_
    refine ew_iald (j := 39) d_Pf_areLayersInField_24 rfl (rfl) (by decide) (by decide) ?_
    refine en_callS (As := [.int (M 22 39)]) (st := []) (st1 := [.int (ew_b (sp_in (M 22 39) 12289))]) d_Pf_areLayersInField_25 k_Fi_holds tw_516 tw_246 rfl (Nat.le_of_ble_eq_true rfl) rfl (Nat.le_of_ble_eq_true rfl) rfl rfl (c_Fi_holds l g _ (ew_SH L) M (M 22 39)) rfl ?_
    refine en_b_ne (tgt := 33) d_Pf_areLayersInField_28 (by decide) (fun h28_1 => ?_) (fun h28_1 => ?_)
    · refine en_inc (ls' := [.ref 21, .int (nI 0), .int (nI 0), .int (nI 2)]) d_Pf_areLayersInField_33 rfl rfl ?_
      refine ew_goto (tgt := 9) d_Pf_areLayersInField_36 (by decide) ?_
      refine ew_iload_n d_Pf_areLayersInField_9 rfl ?_
      refine ew_iconst (v := nI 2) d_Pf_areLayersInField_10 (by decide) ?_
      refine en_icmp_ge (tgt := 39) d_Pf_areLayersInField_11 (by decide) (by first | with_reducible assumption | with_reducible exact ep_lt _ | with_reducible exact sp_its_lt _ _ _ | with_reducible exact tb_l_rt _ | with_reducible exact tb_l_x _ | with_reducible exact tb_l_o0 _ | with_reducible exact tb_l_o1 _ | with_reducible exact tb_l_va _ | with_reducible exact tb_l_ll _ | with_reducible exact tb_l_cf _ | with_reducible exact tb_l_kf _ | with_reducible exact sp_ts_lt _ _ _ _ | with_reducible exact sp_w_lt _ _ | with_reducible exact sp_cs_lt _ _ _ _ _ | with_reducible exact sp_cb_lt _ _ _ _ _ | with_reducible exact sp_ch_lt _ | with_reducible exact sp_bf_lt _ _ | omega) (by first | with_reducible assumption | with_reducible exact ep_lt _ | with_reducible exact sp_its_lt _ _ _ | with_reducible exact tb_l_rt _ | with_reducible exact tb_l_x _ | with_reducible exact tb_l_o0 _ | with_reducible exact tb_l_o1 _ | with_reducible exact tb_l_va _ | with_reducible exact tb_l_ll _ | with_reducible exact tb_l_cf _ | with_reducible exact tb_l_kf _ | with_reducible exact sp_ts_lt _ _ _ _ | with_reducible exact sp_w_lt _ _ | with_reducible exact sp_cs_lt _ _ _ _ _ | with_reducible exact sp_cb_lt _ _ _ _ _ | with_reducible exact sp_ch_lt _ | with_reducible exact sp_bf_lt _ _ | omega) (fun h11_2 => ?_) (fun h11_2 => by exact absurd h11_2 (by decide))
      refine en_inc (ls' := [.ref 21, .int (nI 0), .int (nI 1), .int (nI 2)]) d_Pf_areLayersInField_39 rfl rfl ?_
      refine ew_goto (tgt := 2) d_Pf_areLayersInField_42 (by decide) ?_
      refine ew_iload_n d_Pf_areLayersInField_2 rfl ?_
      refine ew_iconst (v := nI 3) d_Pf_areLayersInField_3 (by decide) ?_
      refine en_icmp_ge (tgt := 45) d_Pf_areLayersInField_4 (by decide) (by first | with_reducible assumption | with_reducible exact ep_lt _ | with_reducible exact sp_its_lt _ _ _ | with_reducible exact tb_l_rt _ | with_reducible exact tb_l_x _ | with_reducible exact tb_l_o0 _ | with_reducible exact tb_l_o1 _ | with_reducible exact tb_l_va _ | with_reducible exact tb_l_ll _ | with_reducible exact tb_l_cf _ | with_reducible exact tb_l_kf _ | with_reducible exact sp_ts_lt _ _ _ _ | with_reducible exact sp_w_lt _ _ | with_reducible exact sp_cs_lt _ _ _ _ _ | with_reducible exact sp_cb_lt _ _ _ _ _ | with_reducible exact sp_ch_lt _ | with_reducible exact sp_bf_lt _ _ | omega) (by first | with_reducible assumption | with_reducible exact ep_lt _ | with_reducible exact sp_its_lt _ _ _ | with_reducible exact tb_l_rt _ | with_reducible exact tb_l_x _ | with_reducible exact tb_l_o0 _ | with_reducible exact tb_l_o1 _ | with_reducible exact tb_l_va _ | with_reducible exact tb_l_ll _ | with_reducible exact tb_l_cf _ | with_reducible exact tb_l_kf _ | with_reducible exact sp_ts_lt _ _ _ _ | with_reducible exact sp_w_lt _ _ | with_reducible exact sp_cs_lt _ _ _ _ _ | with_reducible exact sp_cb_lt _ _ _ _ _ | with_reducible exact sp_ch_lt _ | with_reducible exact sp_bf_lt _ _ | omega) (fun h4_1 => by exact absurd h4_1 (by decide)) (fun h4_1 => ?_)
      refine ew_iconst (v := nI 0) d_Pf_areLayersInField_7 (by decide) ?_
      refine en_istore_n (ls' := [.ref 21, .int (nI 0), .int (nI 1), .int (nI 0)]) d_Pf_areLayersInField_8 (Nat.le_of_ble_eq_true rfl) rfl ?_
      refine ew_iload_n d_Pf_areLayersInField_9 rfl ?_
      refine ew_iconst (v := nI 2) d_Pf_areLayersInField_10 (by decide) ?_
      refine en_icmp_ge (tgt := 39) d_Pf_areLayersInField_11 (by decide) (by first | with_reducible assumption | with_reducible exact ep_lt _ | with_reducible exact sp_its_lt _ _ _ | with_reducible exact tb_l_rt _ | with_reducible exact tb_l_x _ | with_reducible exact tb_l_o0 _ | with_reducible exact tb_l_o1 _ | with_reducible exact tb_l_va _ | with_reducible exact tb_l_ll _ | with_reducible exact tb_l_cf _ | with_reducible exact tb_l_kf _ | with_reducible exact sp_ts_lt _ _ _ _ | with_reducible exact sp_w_lt _ _ | with_reducible exact sp_cs_lt _ _ _ _ _ | with_reducible exact sp_cb_lt _ _ _ _ _ | with_reducible exact sp_ch_lt _ | with_reducible exact sp_bf_lt _ _ | omega) (by first | with_reducible assumption | with_reducible exact ep_lt _ | with_reducible exact sp_its_lt _ _ _ | with_reducible exact tb_l_rt _ | with_reducible exact tb_l_x _ | with_reducible exact tb_l_o0 _ | with_reducible exact tb_l_o1 _ | with_reducible exact tb_l_va _ | with_reducible exact tb_l_ll _ | with_reducible exact tb_l_cf _ | with_reducible exact tb_l_kf _ | with_reducible exact sp_ts_lt _ _ _ _ | with_reducible exact sp_w_lt _ _ | with_reducible exact sp_cs_lt _ _ _ _ _ | with_reducible exact sp_cb_lt _ _ _ _ _ | with_reducible exact sp_ch_lt _ | with_reducible exact sp_bf_lt _ _ | omega) (fun h11_3 => by exact absurd h11_3 (by decide)) (fun h11_3 => ?_)
      refine ew_aload_n d_Pf_areLayersInField_14 rfl ?_
      refine ew_getr (ci := 4) (f := 0) d_Pf_areLayersInField_15 rfl rfl rfl tw_108 ?_
      refine ew_iload_n d_Pf_areLayersInField_18 rfl ?_
      refine ew_iload_n d_Pf_areLayersInField_19 rfl ?_
      refine ew_iload_n d_Pf_areLayersInField_20 rfl ?_
      refine en_callS (As := [.int (nI 0), .int (nI 1), .int (nI 0)]) (st := [.ref 22]) (st1 := [.int (nI 45), .ref 22]) d_Pf_areLayersInField_21 k_Pf_layerStart tw_526 tw_488 rfl (Nat.le_of_ble_eq_true rfl) rfl (Nat.le_of_ble_eq_true rfl) rfl rfl (c_Pf_layerStart1 l g _ L M (hs) 0 0) rfl ?_
      refine ew_iald (j := 45) d_Pf_areLayersInField_24 rfl (rfl) (by decide) (by decide) ?_
      refine en_callS (As := [.int (M 22 45)]) (st := []) (st1 := [.int (ew_b (sp_in (M 22 45) 12289))]) d_Pf_areLayersInField_25 k_Fi_holds tw_516 tw_246 rfl (Nat.le_of_ble_eq_true rfl) rfl (Nat.le_of_ble_eq_true rfl) rfl rfl (c_Fi_holds l g _ (ew_SH L) M (M 22 45)) rfl ?_
      refine en_b_ne (tgt := 33) d_Pf_areLayersInField_28 (by decide) (fun h28_2 => ?_) (fun h28_2 => ?_)
      · refine en_inc (ls' := [.ref 21, .int (nI 0), .int (nI 1), .int (nI 1)]) d_Pf_areLayersInField_33 rfl rfl ?_
        refine ew_goto (tgt := 9) d_Pf_areLayersInField_36 (by decide) ?_
        refine ew_iload_n d_Pf_areLayersInField_9 rfl ?_
        refine ew_iconst (v := nI 2) d_Pf_areLayersInField_10 (by decide) ?_
        refine en_icmp_ge (tgt := 39) d_Pf_areLayersInField_11 (by decide) (by first | with_reducible assumption | with_reducible exact ep_lt _ | with_reducible exact sp_its_lt _ _ _ | with_reducible exact tb_l_rt _ | with_reducible exact tb_l_x _ | with_reducible exact tb_l_o0 _ | with_reducible exact tb_l_o1 _ | with_reducible exact tb_l_va _ | with_reducible exact tb_l_ll _ | with_reducible exact tb_l_cf _ | with_reducible exact tb_l_kf _ | with_reducible exact sp_ts_lt _ _ _ _ | with_reducible exact sp_w_lt _ _ | with_reducible exact sp_cs_lt _ _ _ _ _ | with_reducible exact sp_cb_lt _ _ _ _ _ | with_reducible exact sp_ch_lt _ | with_reducible exact sp_bf_lt _ _ | omega) (by first | with_reducible assumption | with_reducible exact ep_lt _ | with_reducible exact sp_its_lt _ _ _ | with_reducible exact tb_l_rt _ | with_reducible exact tb_l_x _ | with_reducible exact tb_l_o0 _ | with_reducible exact tb_l_o1 _ | with_reducible exact tb_l_va _ | with_reducible exact tb_l_ll _ | with_reducible exact tb_l_cf _ | with_reducible exact tb_l_kf _ | with_reducible exact sp_ts_lt _ _ _ _ | with_reducible exact sp_w_lt _ _ | with_reducible exact sp_cs_lt _ _ _ _ _ | with_reducible exact sp_cb_lt _ _ _ _ _ | with_reducible exact sp_ch_lt _ | with_reducible exact sp_bf_lt _ _ | omega) (fun h11_4 => by exact absurd h11_4 (by decide)) (fun h11_4 => ?_)
        refine ew_aload_n d_Pf_areLayersInField_14 rfl ?_
        refine ew_getr (ci := 4) (f := 0) d_Pf_areLayersInField_15 rfl rfl rfl tw_108 ?_
        refine ew_iload_n d_Pf_areLayersInField_18 rfl ?_
        refine ew_iload_n d_Pf_areLayersInField_19 rfl ?_
        refine ew_iload_n d_Pf_areLayersInField_20 rfl ?_
        refine en_callS (As := [.int (nI 0), .int (nI 1), .int (nI 1)]) (st := [.ref 22]) (st1 := [.int (nI 50), .ref 22]) d_Pf_areLayersInField_21 k_Pf_layerStart tw_526 tw_488 rfl (Nat.le_of_ble_eq_true rfl) rfl (Nat.le_of_ble_eq_true rfl) rfl rfl (c_Pf_layerStart1 l g _ L M (hs) 0 1) rfl ?_
        refine ew_iald (j := 50) d_Pf_areLayersInField_24 rfl (rfl) (by decide) (by decide) ?_
        refine en_callS (As := [.int (M 22 50)]) (st := []) (st1 := [.int (ew_b (sp_in (M 22 50) 12289))]) d_Pf_areLayersInField_25 k_Fi_holds tw_516 tw_246 rfl (Nat.le_of_ble_eq_true rfl) rfl (Nat.le_of_ble_eq_true rfl) rfl rfl (c_Fi_holds l g _ (ew_SH L) M (M 22 50)) rfl ?_
        refine en_b_ne (tgt := 33) d_Pf_areLayersInField_28 (by decide) (fun h28_3 => ?_) (fun h28_3 => ?_)
        · refine en_inc (ls' := [.ref 21, .int (nI 0), .int (nI 1), .int (nI 2)]) d_Pf_areLayersInField_33 rfl rfl ?_
          refine ew_goto (tgt := 9) d_Pf_areLayersInField_36 (by decide) ?_
          refine ew_iload_n d_Pf_areLayersInField_9 rfl ?_
          refine ew_iconst (v := nI 2) d_Pf_areLayersInField_10 (by decide) ?_
          refine en_icmp_ge (tgt := 39) d_Pf_areLayersInField_11 (by decide) (by first | with_reducible assumption | with_reducible exact ep_lt _ | with_reducible exact sp_its_lt _ _ _ | with_reducible exact tb_l_rt _ | with_reducible exact tb_l_x _ | with_reducible exact tb_l_o0 _ | with_reducible exact tb_l_o1 _ | with_reducible exact tb_l_va _ | with_reducible exact tb_l_ll _ | with_reducible exact tb_l_cf _ | with_reducible exact tb_l_kf _ | with_reducible exact sp_ts_lt _ _ _ _ | with_reducible exact sp_w_lt _ _ | with_reducible exact sp_cs_lt _ _ _ _ _ | with_reducible exact sp_cb_lt _ _ _ _ _ | with_reducible exact sp_ch_lt _ | with_reducible exact sp_bf_lt _ _ | omega) (by first | with_reducible assumption | with_reducible exact ep_lt _ | with_reducible exact sp_its_lt _ _ _ | with_reducible exact tb_l_rt _ | with_reducible exact tb_l_x _ | with_reducible exact tb_l_o0 _ | with_reducible exact tb_l_o1 _ | with_reducible exact tb_l_va _ | with_reducible exact tb_l_ll _ | with_reducible exact tb_l_cf _ | with_reducible exact tb_l_kf _ | with_reducible exact sp_ts_lt _ _ _ _ | with_reducible exact sp_w_lt _ _ | with_reducible exact sp_cs_lt _ _ _ _ _ | with_reducible exact sp_cb_lt _ _ _ _ _ | with_reducible exact sp_ch_lt _ | with_reducible exact sp_bf_lt _ _ | omega) (fun h11_5 => ?_) (fun h11_5 => by exact absurd h11_5 (by decide))
          refine en_inc (ls' := [.ref 21, .int (nI 0), .int (nI 2), .int (nI 2)]) d_Pf_areLayersInField_39 rfl rfl ?_
          refine ew_goto (tgt := 2) d_Pf_areLayersInField_42 (by decide) ?_
          refine ew_iload_n d_Pf_areLayersInField_2 rfl ?_
          refine ew_iconst (v := nI 3) d_Pf_areLayersInField_3 (by decide) ?_
          refine en_icmp_ge (tgt := 45) d_Pf_areLayersInField_4 (by decide) (by first | with_reducible assumption | with_reducible exact ep_lt _ | with_reducible exact sp_its_lt _ _ _ | with_reducible exact tb_l_rt _ | with_reducible exact tb_l_x _ | with_reducible exact tb_l_o0 _ | with_reducible exact tb_l_o1 _ | with_reducible exact tb_l_va _ | with_reducible exact tb_l_ll _ | with_reducible exact tb_l_cf _ | with_reducible exact tb_l_kf _ | with_reducible exact sp_ts_lt _ _ _ _ | with_reducible exact sp_w_lt _ _ | with_reducible exact sp_cs_lt _ _ _ _ _ | with_reducible exact sp_cb_lt _ _ _ _ _ | with_reducible exact sp_ch_lt _ | with_reducible exact sp_bf_lt _ _ | omega) (by first | with_reducible assumption | with_reducible exact ep_lt _ | with_reducible exact sp_its_lt _ _ _ | with_reducible exact tb_l_rt _ | with_reducible exact tb_l_x _ | with_reducible exact tb_l_o0 _ | with_reducible exact tb_l_o1 _ | with_reducible exact tb_l_va _ | with_reducible exact tb_l_ll _ | with_reducible exact tb_l_cf _ | with_reducible exact tb_l_kf _ | with_reducible exact sp_ts_lt _ _ _ _ | with_reducible exact sp_w_lt _ _ | with_reducible exact sp_cs_lt _ _ _ _ _ | with_reducible exact sp_cb_lt _ _ _ _ _ | with_reducible exact sp_ch_lt _ | with_reducible exact sp_bf_lt _ _ | omega) (fun h4_2 => by exact absurd h4_2 (by decide)) (fun h4_2 => ?_)
          refine ew_iconst (v := nI 0) d_Pf_areLayersInField_7 (by decide) ?_
          refine en_istore_n (ls' := [.ref 21, .int (nI 0), .int (nI 2), .int (nI 0)]) d_Pf_areLayersInField_8 (Nat.le_of_ble_eq_true rfl) rfl ?_
          refine ew_iload_n d_Pf_areLayersInField_9 rfl ?_
          refine ew_iconst (v := nI 2) d_Pf_areLayersInField_10 (by decide) ?_
          refine en_icmp_ge (tgt := 39) d_Pf_areLayersInField_11 (by decide) (by first | with_reducible assumption | with_reducible exact ep_lt _ | with_reducible exact sp_its_lt _ _ _ | with_reducible exact tb_l_rt _ | with_reducible exact tb_l_x _ | with_reducible exact tb_l_o0 _ | with_reducible exact tb_l_o1 _ | with_reducible exact tb_l_va _ | with_reducible exact tb_l_ll _ | with_reducible exact tb_l_cf _ | with_reducible exact tb_l_kf _ | with_reducible exact sp_ts_lt _ _ _ _ | with_reducible exact sp_w_lt _ _ | with_reducible exact sp_cs_lt _ _ _ _ _ | with_reducible exact sp_cb_lt _ _ _ _ _ | with_reducible exact sp_ch_lt _ | with_reducible exact sp_bf_lt _ _ | omega) (by first | with_reducible assumption | with_reducible exact ep_lt _ | with_reducible exact sp_its_lt _ _ _ | with_reducible exact tb_l_rt _ | with_reducible exact tb_l_x _ | with_reducible exact tb_l_o0 _ | with_reducible exact tb_l_o1 _ | with_reducible exact tb_l_va _ | with_reducible exact tb_l_ll _ | with_reducible exact tb_l_cf _ | with_reducible exact tb_l_kf _ | with_reducible exact sp_ts_lt _ _ _ _ | with_reducible exact sp_w_lt _ _ | with_reducible exact sp_cs_lt _ _ _ _ _ | with_reducible exact sp_cb_lt _ _ _ _ _ | with_reducible exact sp_ch_lt _ | with_reducible exact sp_bf_lt _ _ | omega) (fun h11_6 => by exact absurd h11_6 (by decide)) (fun h11_6 => ?_)
          refine ew_aload_n d_Pf_areLayersInField_14 rfl ?_
          refine ew_getr (ci := 4) (f := 0) d_Pf_areLayersInField_15 rfl rfl rfl tw_108 ?_
          refine ew_iload_n d_Pf_areLayersInField_18 rfl ?_
          refine ew_iload_n d_Pf_areLayersInField_19 rfl ?_
          refine ew_iload_n d_Pf_areLayersInField_20 rfl ?_
          refine en_callS (As := [.int (nI 0), .int (nI 2), .int (nI 0)]) (st := [.ref 22]) (st1 := [.int (nI 55), .ref 22]) d_Pf_areLayersInField_21 k_Pf_layerStart tw_526 tw_488 rfl (Nat.le_of_ble_eq_true rfl) rfl (Nat.le_of_ble_eq_true rfl) rfl rfl (c_Pf_layerStart2 l g _ L M (hs) 0 0) rfl ?_
          refine ew_iald (j := 55) d_Pf_areLayersInField_24 rfl (rfl) (by decide) (by decide) ?_
          refine en_callS (As := [.int (M 22 55)]) (st := []) (st1 := [.int (ew_b (sp_in (M 22 55) 12289))]) d_Pf_areLayersInField_25 k_Fi_holds tw_516 tw_246 rfl (Nat.le_of_ble_eq_true rfl) rfl (Nat.le_of_ble_eq_true rfl) rfl rfl (c_Fi_holds l g _ (ew_SH L) M (M 22 55)) rfl ?_
          refine en_b_ne (tgt := 33) d_Pf_areLayersInField_28 (by decide) (fun h28_4 => ?_) (fun h28_4 => ?_)
          · refine en_inc (ls' := [.ref 21, .int (nI 0), .int (nI 2), .int (nI 1)]) d_Pf_areLayersInField_33 rfl rfl ?_
            refine ew_goto (tgt := 9) d_Pf_areLayersInField_36 (by decide) ?_
            refine ew_iload_n d_Pf_areLayersInField_9 rfl ?_
            refine ew_iconst (v := nI 2) d_Pf_areLayersInField_10 (by decide) ?_
            refine en_icmp_ge (tgt := 39) d_Pf_areLayersInField_11 (by decide) (by first | with_reducible assumption | with_reducible exact ep_lt _ | with_reducible exact sp_its_lt _ _ _ | with_reducible exact tb_l_rt _ | with_reducible exact tb_l_x _ | with_reducible exact tb_l_o0 _ | with_reducible exact tb_l_o1 _ | with_reducible exact tb_l_va _ | with_reducible exact tb_l_ll _ | with_reducible exact tb_l_cf _ | with_reducible exact tb_l_kf _ | with_reducible exact sp_ts_lt _ _ _ _ | with_reducible exact sp_w_lt _ _ | with_reducible exact sp_cs_lt _ _ _ _ _ | with_reducible exact sp_cb_lt _ _ _ _ _ | with_reducible exact sp_ch_lt _ | with_reducible exact sp_bf_lt _ _ | omega) (by first | with_reducible assumption | with_reducible exact ep_lt _ | with_reducible exact sp_its_lt _ _ _ | with_reducible exact tb_l_rt _ | with_reducible exact tb_l_x _ | with_reducible exact tb_l_o0 _ | with_reducible exact tb_l_o1 _ | with_reducible exact tb_l_va _ | with_reducible exact tb_l_ll _ | with_reducible exact tb_l_cf _ | with_reducible exact tb_l_kf _ | with_reducible exact sp_ts_lt _ _ _ _ | with_reducible exact sp_w_lt _ _ | with_reducible exact sp_cs_lt _ _ _ _ _ | with_reducible exact sp_cb_lt _ _ _ _ _ | with_reducible exact sp_ch_lt _ | with_reducible exact sp_bf_lt _ _ | omega) (fun h11_7 => by exact absurd h11_7 (by decide)) (fun h11_7 => ?_)
            refine ew_aload_n d_Pf_areLayersInField_14 rfl ?_
            refine ew_getr (ci := 4) (f := 0) d_Pf_areLayersInField_15 rfl rfl rfl tw_108 ?_
            refine ew_iload_n d_Pf_areLayersInField_18 rfl ?_
            refine ew_iload_n d_Pf_areLayersInField_19 rfl ?_
            refine ew_iload_n d_Pf_areLayersInField_20 rfl ?_
            refine en_callS (As := [.int (nI 0), .int (nI 2), .int (nI 1)]) (st := [.ref 22]) (st1 := [.int (nI 59), .ref 22]) d_Pf_areLayersInField_21 k_Pf_layerStart tw_526 tw_488 rfl (Nat.le_of_ble_eq_true rfl) rfl (Nat.le_of_ble_eq_true rfl) rfl rfl (c_Pf_layerStart2 l g _ L M (hs) 0 1) rfl ?_
            refine ew_iald (j := 59) d_Pf_areLayersInField_24 rfl (rfl) (by decide) (by decide) ?_
            refine en_callS (As := [.int (M 22 59)]) (st := []) (st1 := [.int (ew_b (sp_in (M 22 59) 12289))]) d_Pf_areLayersInField_25 k_Fi_holds tw_516 tw_246 rfl (Nat.le_of_ble_eq_true rfl) rfl (Nat.le_of_ble_eq_true rfl) rfl rfl (c_Fi_holds l g _ (ew_SH L) M (M 22 59)) rfl ?_
            refine en_b_ne (tgt := 33) d_Pf_areLayersInField_28 (by decide) (fun h28_5 => ?_) (fun h28_5 => ?_)
            · refine en_inc (ls' := [.ref 21, .int (nI 0), .int (nI 2), .int (nI 2)]) d_Pf_areLayersInField_33 rfl rfl ?_
              refine ew_goto (tgt := 9) d_Pf_areLayersInField_36 (by decide) ?_
              refine ew_iload_n d_Pf_areLayersInField_9 rfl ?_
              refine ew_iconst (v := nI 2) d_Pf_areLayersInField_10 (by decide) ?_
              refine en_icmp_ge (tgt := 39) d_Pf_areLayersInField_11 (by decide) (by first | with_reducible assumption | with_reducible exact ep_lt _ | with_reducible exact sp_its_lt _ _ _ | with_reducible exact tb_l_rt _ | with_reducible exact tb_l_x _ | with_reducible exact tb_l_o0 _ | with_reducible exact tb_l_o1 _ | with_reducible exact tb_l_va _ | with_reducible exact tb_l_ll _ | with_reducible exact tb_l_cf _ | with_reducible exact tb_l_kf _ | with_reducible exact sp_ts_lt _ _ _ _ | with_reducible exact sp_w_lt _ _ | with_reducible exact sp_cs_lt _ _ _ _ _ | with_reducible exact sp_cb_lt _ _ _ _ _ | with_reducible exact sp_ch_lt _ | with_reducible exact sp_bf_lt _ _ | omega) (by first | with_reducible assumption | with_reducible exact ep_lt _ | with_reducible exact sp_its_lt _ _ _ | with_reducible exact tb_l_rt _ | with_reducible exact tb_l_x _ | with_reducible exact tb_l_o0 _ | with_reducible exact tb_l_o1 _ | with_reducible exact tb_l_va _ | with_reducible exact tb_l_ll _ | with_reducible exact tb_l_cf _ | with_reducible exact tb_l_kf _ | with_reducible exact sp_ts_lt _ _ _ _ | with_reducible exact sp_w_lt _ _ | with_reducible exact sp_cs_lt _ _ _ _ _ | with_reducible exact sp_cb_lt _ _ _ _ _ | with_reducible exact sp_ch_lt _ | with_reducible exact sp_bf_lt _ _ | omega) (fun h11_8 => ?_) (fun h11_8 => by exact absurd h11_8 (by decide))
              refine en_inc (ls' := [.ref 21, .int (nI 0), .int (nI 3), .int (nI 2)]) d_Pf_areLayersInField_39 rfl rfl ?_
              refine ew_goto (tgt := 2) d_Pf_areLayersInField_42 (by decide) ?_
              refine ew_iload_n d_Pf_areLayersInField_2 rfl ?_
              refine ew_iconst (v := nI 3) d_Pf_areLayersInField_3 (by decide) ?_
              refine en_icmp_ge (tgt := 45) d_Pf_areLayersInField_4 (by decide) (by first | with_reducible assumption | with_reducible exact ep_lt _ | with_reducible exact sp_its_lt _ _ _ | with_reducible exact tb_l_rt _ | with_reducible exact tb_l_x _ | with_reducible exact tb_l_o0 _ | with_reducible exact tb_l_o1 _ | with_reducible exact tb_l_va _ | with_reducible exact tb_l_ll _ | with_reducible exact tb_l_cf _ | with_reducible exact tb_l_kf _ | with_reducible exact sp_ts_lt _ _ _ _ | with_reducible exact sp_w_lt _ _ | with_reducible exact sp_cs_lt _ _ _ _ _ | with_reducible exact sp_cb_lt _ _ _ _ _ | with_reducible exact sp_ch_lt _ | with_reducible exact sp_bf_lt _ _ | omega) (by first | with_reducible assumption | with_reducible exact ep_lt _ | with_reducible exact sp_its_lt _ _ _ | with_reducible exact tb_l_rt _ | with_reducible exact tb_l_x _ | with_reducible exact tb_l_o0 _ | with_reducible exact tb_l_o1 _ | with_reducible exact tb_l_va _ | with_reducible exact tb_l_ll _ | with_reducible exact tb_l_cf _ | with_reducible exact tb_l_kf _ | with_reducible exact sp_ts_lt _ _ _ _ | with_reducible exact sp_w_lt _ _ | with_reducible exact sp_cs_lt _ _ _ _ _ | with_reducible exact sp_cb_lt _ _ _ _ _ | with_reducible exact sp_ch_lt _ | with_reducible exact sp_bf_lt _ _ | omega) (fun h4_3 => ?_) (fun h4_3 => by exact absurd h4_3 (by decide))
              refine ew_iconst (v := nI 1) d_Pf_areLayersInField_45 (by decide) ?_
              exact ew_zret d_Pf_areLayersInField_46 rfl (by decide) (⟨by rw [show sp_lB0 (M 22) = true from by (unfold sp_lB0; rw [h28, h28_1, h28_2, h28_3, h28_4, h28_5]; first | rfl | done)]; rfl, rfl, rfl⟩)
            · refine ew_iconst (v := nI 0) d_Pf_areLayersInField_31 (by decide) ?_
              exact ew_zret d_Pf_areLayersInField_32 rfl (by decide) (⟨by rw [show sp_lB0 (M 22) = false from by (unfold sp_lB0; rw [h28, h28_1, h28_2, h28_3, h28_4, h28_5]; first | rfl | done)]; rfl, rfl, rfl⟩)
          · refine ew_iconst (v := nI 0) d_Pf_areLayersInField_31 (by decide) ?_
            exact ew_zret d_Pf_areLayersInField_32 rfl (by decide) (⟨by rw [show sp_lB0 (M 22) = false from by (unfold sp_lB0; rw [h28, h28_1, h28_2, h28_3, h28_4]; first | rfl | done)]; rfl, rfl, rfl⟩)
        · refine ew_iconst (v := nI 0) d_Pf_areLayersInField_31 (by decide) ?_
          exact ew_zret d_Pf_areLayersInField_32 rfl (by decide) (⟨by rw [show sp_lB0 (M 22) = false from by (unfold sp_lB0; rw [h28, h28_1, h28_2, h28_3]; first | rfl | done)]; rfl, rfl, rfl⟩)
      · refine ew_iconst (v := nI 0) d_Pf_areLayersInField_31 (by decide) ?_
        exact ew_zret d_Pf_areLayersInField_32 rfl (by decide) (⟨by rw [show sp_lB0 (M 22) = false from by (unfold sp_lB0; rw [h28, h28_1, h28_2]; first | rfl | done)]; rfl, rfl, rfl⟩)
    · refine ew_iconst (v := nI 0) d_Pf_areLayersInField_31 (by decide) ?_
      exact ew_zret d_Pf_areLayersInField_32 rfl (by decide) (⟨by rw [show sp_lB0 (M 22) = false from by (unfold sp_lB0; rw [h28, h28_1]; first | rfl | done)]; rfl, rfl, rfl⟩)
  · refine ew_iconst (v := nI 0) d_Pf_areLayersInField_31 (by decide) ?_
    exact ew_zret d_Pf_areLayersInField_32 rfl (by decide) (⟨by rw [show sp_lB0 (M 22) = false from by (unfold sp_lB0; rw [h28]; first | rfl | done)]; rfl, rfl, rfl⟩)
set_option maxRecDepth 100000 in
theorem c_Pf_areColumnsInField1 (l : Launch) (g : ew_G) (d L : Nat) (M : ew_M)  :
    Ew l g (d + 1) 0 0 m_Pf_areColumnsInField 0 [.ref 21, .int (nI 1), .retAddr 0, .retAddr 0] [] (ew_SH L) M (ew_q (some (.int (ew_b (sp_cB1 (M 22))))) (ew_SH L) M) := by
  refine ew_iconst (v := nI 0) d_Pf_areColumnsInField_0 (by decide) ?_
  refine en_istore_n (ls' := [.ref 21, .int (nI 1), .int (nI 0), .retAddr 0]) d_Pf_areColumnsInField_1 (Nat.le_of_ble_eq_true rfl) rfl ?_
  refine ew_iload_n d_Pf_areColumnsInField_2 rfl ?_
  refine ew_iconst (v := nI 4) d_Pf_areColumnsInField_3 (by decide) ?_
  refine en_icmp_ge (tgt := 47) d_Pf_areColumnsInField_4 (by decide) (by first | with_reducible assumption | with_reducible exact ep_lt _ | with_reducible exact sp_its_lt _ _ _ | with_reducible exact tb_l_rt _ | with_reducible exact tb_l_x _ | with_reducible exact tb_l_o0 _ | with_reducible exact tb_l_o1 _ | with_reducible exact tb_l_va _ | with_reducible exact tb_l_ll _ | with_reducible exact tb_l_cf _ | with_reducible exact tb_l_kf _ | with_reducible exact sp_ts_lt _ _ _ _ | with_reducible exact sp_w_lt _ _ | with_reducible exact sp_cs_lt _ _ _ _ _ | with_reducible exact sp_cb_lt _ _ _ _ _ | with_reducible exact sp_ch_lt _ | with_reducible exact sp_bf_lt _ _ | omega) (by first | with_reducible assumption | with_reducible exact ep_lt _ | with_reducible exact sp_its_lt _ _ _ | with_reducible exact tb_l_rt _ | with_reducible exact tb_l_x _ | with_reducible exact tb_l_o0 _ | with_reducible exact tb_l_o1 _ | with_reducible exact tb_l_va _ | with_reducible exact tb_l_ll _ | with_reducible exact tb_l_cf _ | with_reducible exact tb_l_kf _ | with_reducible exact sp_ts_lt _ _ _ _ | with_reducible exact sp_w_lt _ _ | with_reducible exact sp_cs_lt _ _ _ _ _ | with_reducible exact sp_cb_lt _ _ _ _ _ | with_reducible exact sp_ch_lt _ | with_reducible exact sp_bf_lt _ _ | omega) (fun h4 => by exact absurd h4 (by decide)) (fun h4 => ?_)
  refine ew_iload_n d_Pf_areColumnsInField_7 rfl ?_
  refine ew_iload_n d_Pf_areColumnsInField_8 rfl ?_
  refine en_callS (As := [.int (nI 1), .int (nI 0)]) (st := []) (st1 := [.int (nI 63)]) d_Pf_areColumnsInField_9 k_Pf_columnStart tw_521 tw_473 rfl (Nat.le_of_ble_eq_true rfl) rfl (Nat.le_of_ble_eq_true rfl) rfl rfl (c_Pf_columnStart l g _ L M 1 0) rfl ?_
  refine en_istore_n (ls' := [.ref 21, .int (nI 1), .int (nI 0), .int (nI 63)]) d_Pf_areColumnsInField_12 (Nat.le_of_ble_eq_true rfl) rfl ?_
  refine ew_aload_n d_Pf_areColumnsInField_13 rfl ?_
  refine ew_getr (ci := 4) (f := 0) d_Pf_areColumnsInField_14 rfl rfl rfl tw_108 ?_
  refine ew_iload_n d_Pf_areColumnsInField_17 rfl ?_
  refine ew_iald (j := 63) d_Pf_areColumnsInField_18 rfl (rfl) (by decide) (by decide) ?_
  refine en_callS (As := [.int (M 22 63)]) (st := []) (st1 := [.int (ew_b (sp_in (M 22 63) 12289))]) d_Pf_areColumnsInField_19 k_Fi_holds tw_516 tw_246 rfl (Nat.le_of_ble_eq_true rfl) rfl (Nat.le_of_ble_eq_true rfl) rfl rfl (c_Fi_holds l g _ (ew_SH L) M (M 22 63)) rfl ?_
  refine en_b_eq (tgt := 39) d_Pf_areColumnsInField_22 (by decide) (fun h22 => ?_) (fun h22 => ?_)
  · refine ew_iconst (v := nI 0) d_Pf_areColumnsInField_39 (by decide) ?_
    exact ew_zret d_Pf_areColumnsInField_40 rfl (by decide) (⟨by rw [show sp_cB1 (M 22) = false from by (unfold sp_cB1; rw [h22]; first | rfl | done)]; rfl, rfl, rfl⟩)
  · refine ew_aload_n d_Pf_areColumnsInField_25 rfl ?_
    refine ew_getr (ci := 4) (f := 0) d_Pf_areColumnsInField_26 rfl rfl rfl tw_108 ?_
    refine ew_iload_n d_Pf_areColumnsInField_29 rfl ?_
    refine ew_iconst (v := nI 1) d_Pf_areColumnsInField_30 (by decide) ?_
    refine en_iadd d_Pf_areColumnsInField_31 ?_
    refine en_eq rfl (show _ = [.int (nI 64), .ref 22] from rfl) rfl ?_
    refine ew_iald (j := 64) d_Pf_areColumnsInField_32 rfl (rfl) (by decide) (by decide) ?_
    refine en_callS (As := [.int (M 22 64)]) (st := []) (st1 := [.int (ew_b (sp_in (M 22 64) 12289))]) d_Pf_areColumnsInField_33 k_Fi_holds tw_516 tw_246 rfl (Nat.le_of_ble_eq_true rfl) rfl (Nat.le_of_ble_eq_true rfl) rfl rfl (c_Fi_holds l g _ (ew_SH L) M (M 22 64)) rfl ?_
    refine en_b_ne (tgt := 41) d_Pf_areColumnsInField_36 (by decide) (fun h36 => ?_) (fun h36 => ?_)
    · refine en_inc (ls' := [.ref 21, .int (nI 1), .int (nI 1), .int (nI 63)]) d_Pf_areColumnsInField_41 rfl rfl ?_
      refine ew_goto (tgt := 2) d_Pf_areColumnsInField_44 (by decide) ?_
      refine ew_iload_n d_Pf_areColumnsInField_2 rfl ?_
      refine ew_iconst (v := nI 4) d_Pf_areColumnsInField_3 (by decide) ?_
      refine en_icmp_ge (tgt := 47) d_Pf_areColumnsInField_4 (by decide) (by first | with_reducible assumption | with_reducible exact ep_lt _ | with_reducible exact sp_its_lt _ _ _ | with_reducible exact tb_l_rt _ | with_reducible exact tb_l_x _ | with_reducible exact tb_l_o0 _ | with_reducible exact tb_l_o1 _ | with_reducible exact tb_l_va _ | with_reducible exact tb_l_ll _ | with_reducible exact tb_l_cf _ | with_reducible exact tb_l_kf _ | with_reducible exact sp_ts_lt _ _ _ _ | with_reducible exact sp_w_lt _ _ | with_reducible exact sp_cs_lt _ _ _ _ _ | with_reducible exact sp_cb_lt _ _ _ _ _ | with_reducible exact sp_ch_lt _ | with_reducible exact sp_bf_lt _ _ | omega) (by first | with_reducible assumption | with_reducible exact ep_lt _ | with_reducible exact sp_its_lt _ _ _ | with_reducible exact tb_l_rt _ | with_reducible exact tb_l_x _ | with_reducible exact tb_l_o0 _ | with_reducible exact tb_l_o1 _ | with_reducible exact tb_l_va _ | with_reducible exact tb_l_ll _ | with_reducible exact tb_l_cf _ | with_reducible exact tb_l_kf _ | with_reducible exact sp_ts_lt _ _ _ _ | with_reducible exact sp_w_lt _ _ | with_reducible exact sp_cs_lt _ _ _ _ _ | with_reducible exact sp_cb_lt _ _ _ _ _ | with_reducible exact sp_ch_lt _ | with_reducible exact sp_bf_lt _ _ | omega) (fun h4_1 => by exact absurd h4_1 (by decide)) (fun h4_1 => ?_)
      refine ew_iload_n d_Pf_areColumnsInField_7 rfl ?_
      refine ew_iload_n d_Pf_areColumnsInField_8 rfl ?_
      refine en_callS (As := [.int (nI 1), .int (nI 1)]) (st := []) (st1 := [.int (nI 70)]) d_Pf_areColumnsInField_9 k_Pf_columnStart tw_521 tw_473 rfl (Nat.le_of_ble_eq_true rfl) rfl (Nat.le_of_ble_eq_true rfl) rfl rfl (c_Pf_columnStart l g _ L M 1 1) rfl ?_
      refine en_istore_n (ls' := [.ref 21, .int (nI 1), .int (nI 1), .int (nI 70)]) d_Pf_areColumnsInField_12 (Nat.le_of_ble_eq_true rfl) rfl ?_
      refine ew_aload_n d_Pf_areColumnsInField_13 rfl ?_
      refine ew_getr (ci := 4) (f := 0) d_Pf_areColumnsInField_14 rfl rfl rfl tw_108 ?_
      refine ew_iload_n d_Pf_areColumnsInField_17 rfl ?_
      refine ew_iald (j := 70) d_Pf_areColumnsInField_18 rfl (rfl) (by decide) (by decide) ?_
      refine en_callS (As := [.int (M 22 70)]) (st := []) (st1 := [.int (ew_b (sp_in (M 22 70) 12289))]) d_Pf_areColumnsInField_19 k_Fi_holds tw_516 tw_246 rfl (Nat.le_of_ble_eq_true rfl) rfl (Nat.le_of_ble_eq_true rfl) rfl rfl (c_Fi_holds l g _ (ew_SH L) M (M 22 70)) rfl ?_
      refine en_b_eq (tgt := 39) d_Pf_areColumnsInField_22 (by decide) (fun h22_1 => ?_) (fun h22_1 => ?_)
      · refine ew_iconst (v := nI 0) d_Pf_areColumnsInField_39 (by decide) ?_
        exact ew_zret d_Pf_areColumnsInField_40 rfl (by decide) (⟨by rw [show sp_cB1 (M 22) = false from by (unfold sp_cB1; rw [h22, h36, h22_1]; first | rfl | done)]; rfl, rfl, rfl⟩)
      · refine ew_aload_n d_Pf_areColumnsInField_25 rfl ?_
        refine ew_getr (ci := 4) (f := 0) d_Pf_areColumnsInField_26 rfl rfl rfl tw_108 ?_
        refine ew_iload_n d_Pf_areColumnsInField_29 rfl ?_
        refine ew_iconst (v := nI 1) d_Pf_areColumnsInField_30 (by decide) ?_
        refine en_iadd d_Pf_areColumnsInField_31 ?_
        refine en_eq rfl (show _ = [.int (nI 71), .ref 22] from rfl) rfl ?_
        refine ew_iald (j := 71) d_Pf_areColumnsInField_32 rfl (rfl) (by decide) (by decide) ?_
        refine en_callS (As := [.int (M 22 71)]) (st := []) (st1 := [.int (ew_b (sp_in (M 22 71) 12289))]) d_Pf_areColumnsInField_33 k_Fi_holds tw_516 tw_246 rfl (Nat.le_of_ble_eq_true rfl) rfl (Nat.le_of_ble_eq_true rfl) rfl rfl (c_Fi_holds l g _ (ew_SH L) M (M 22 71)) rfl ?_
        refine en_b_ne (tgt := 41) d_Pf_areColumnsInField_36 (by decide) (fun h36_1 => ?_) (fun h36_1 => ?_)
        · refine en_inc (ls' := [.ref 21, .int (nI 1), .int (nI 2), .int (nI 70)]) d_Pf_areColumnsInField_41 rfl rfl ?_
          refine ew_goto (tgt := 2) d_Pf_areColumnsInField_44 (by decide) ?_
          refine ew_iload_n d_Pf_areColumnsInField_2 rfl ?_
          refine ew_iconst (v := nI 4) d_Pf_areColumnsInField_3 (by decide) ?_
          refine en_icmp_ge (tgt := 47) d_Pf_areColumnsInField_4 (by decide) (by first | with_reducible assumption | with_reducible exact ep_lt _ | with_reducible exact sp_its_lt _ _ _ | with_reducible exact tb_l_rt _ | with_reducible exact tb_l_x _ | with_reducible exact tb_l_o0 _ | with_reducible exact tb_l_o1 _ | with_reducible exact tb_l_va _ | with_reducible exact tb_l_ll _ | with_reducible exact tb_l_cf _ | with_reducible exact tb_l_kf _ | with_reducible exact sp_ts_lt _ _ _ _ | with_reducible exact sp_w_lt _ _ | with_reducible exact sp_cs_lt _ _ _ _ _ | with_reducible exact sp_cb_lt _ _ _ _ _ | with_reducible exact sp_ch_lt _ | with_reducible exact sp_bf_lt _ _ | omega) (by first | with_reducible assumption | with_reducible exact ep_lt _ | with_reducible exact sp_its_lt _ _ _ | with_reducible exact tb_l_rt _ | with_reducible exact tb_l_x _ | with_reducible exact tb_l_o0 _ | with_reducible exact tb_l_o1 _ | with_reducible exact tb_l_va _ | with_reducible exact tb_l_ll _ | with_reducible exact tb_l_cf _ | with_reducible exact tb_l_kf _ | with_reducible exact sp_ts_lt _ _ _ _ | with_reducible exact sp_w_lt _ _ | with_reducible exact sp_cs_lt _ _ _ _ _ | with_reducible exact sp_cb_lt _ _ _ _ _ | with_reducible exact sp_ch_lt _ | with_reducible exact sp_bf_lt _ _ | omega) (fun h4_2 => by exact absurd h4_2 (by decide)) (fun h4_2 => ?_)
          refine ew_iload_n d_Pf_areColumnsInField_7 rfl ?_
          refine ew_iload_n d_Pf_areColumnsInField_8 rfl ?_
          refine en_callS (As := [.int (nI 1), .int (nI 2)]) (st := []) (st1 := [.int (nI 77)]) d_Pf_areColumnsInField_9 k_Pf_columnStart tw_521 tw_473 rfl (Nat.le_of_ble_eq_true rfl) rfl (Nat.le_of_ble_eq_true rfl) rfl rfl (c_Pf_columnStart l g _ L M 1 2) rfl ?_
          refine en_istore_n (ls' := [.ref 21, .int (nI 1), .int (nI 2), .int (nI 77)]) d_Pf_areColumnsInField_12 (Nat.le_of_ble_eq_true rfl) rfl ?_
          refine ew_aload_n d_Pf_areColumnsInField_13 rfl ?_
          refine ew_getr (ci := 4) (f := 0) d_Pf_areColumnsInField_14 rfl rfl rfl tw_108 ?_
          refine ew_iload_n d_Pf_areColumnsInField_17 rfl ?_
          refine ew_iald (j := 77) d_Pf_areColumnsInField_18 rfl (rfl) (by decide) (by decide) ?_
          refine en_callS (As := [.int (M 22 77)]) (st := []) (st1 := [.int (ew_b (sp_in (M 22 77) 12289))]) d_Pf_areColumnsInField_19 k_Fi_holds tw_516 tw_246 rfl (Nat.le_of_ble_eq_true rfl) rfl (Nat.le_of_ble_eq_true rfl) rfl rfl (c_Fi_holds l g _ (ew_SH L) M (M 22 77)) rfl ?_
          refine en_b_eq (tgt := 39) d_Pf_areColumnsInField_22 (by decide) (fun h22_2 => ?_) (fun h22_2 => ?_)
          · refine ew_iconst (v := nI 0) d_Pf_areColumnsInField_39 (by decide) ?_
            exact ew_zret d_Pf_areColumnsInField_40 rfl (by decide) (⟨by rw [show sp_cB1 (M 22) = false from by (unfold sp_cB1; rw [h22, h36, h22_1, h36_1, h22_2]; first | rfl | done)]; rfl, rfl, rfl⟩)
          · refine ew_aload_n d_Pf_areColumnsInField_25 rfl ?_
            refine ew_getr (ci := 4) (f := 0) d_Pf_areColumnsInField_26 rfl rfl rfl tw_108 ?_
            refine ew_iload_n d_Pf_areColumnsInField_29 rfl ?_
            refine ew_iconst (v := nI 1) d_Pf_areColumnsInField_30 (by decide) ?_
            refine en_iadd d_Pf_areColumnsInField_31 ?_
            refine en_eq rfl (show _ = [.int (nI 78), .ref 22] from rfl) rfl ?_
            refine ew_iald (j := 78) d_Pf_areColumnsInField_32 rfl (rfl) (by decide) (by decide) ?_
            refine en_callS (As := [.int (M 22 78)]) (st := []) (st1 := [.int (ew_b (sp_in (M 22 78) 12289))]) d_Pf_areColumnsInField_33 k_Fi_holds tw_516 tw_246 rfl (Nat.le_of_ble_eq_true rfl) rfl (Nat.le_of_ble_eq_true rfl) rfl rfl (c_Fi_holds l g _ (ew_SH L) M (M 22 78)) rfl ?_
            refine en_b_ne (tgt := 41) d_Pf_areColumnsInField_36 (by decide) (fun h36_2 => ?_) (fun h36_2 => ?_)
            · refine en_inc (ls' := [.ref 21, .int (nI 1), .int (nI 3), .int (nI 77)]) d_Pf_areColumnsInField_41 rfl rfl ?_
              refine ew_goto (tgt := 2) d_Pf_areColumnsInField_44 (by decide) ?_
              refine ew_iload_n d_Pf_areColumnsInField_2 rfl ?_
              refine ew_iconst (v := nI 4) d_Pf_areColumnsInField_3 (by decide) ?_
              refine en_icmp_ge (tgt := 47) d_Pf_areColumnsInField_4 (by decide) (by first | with_reducible assumption | with_reducible exact ep_lt _ | with_reducible exact sp_its_lt _ _ _ | with_reducible exact tb_l_rt _ | with_reducible exact tb_l_x _ | with_reducible exact tb_l_o0 _ | with_reducible exact tb_l_o1 _ | with_reducible exact tb_l_va _ | with_reducible exact tb_l_ll _ | with_reducible exact tb_l_cf _ | with_reducible exact tb_l_kf _ | with_reducible exact sp_ts_lt _ _ _ _ | with_reducible exact sp_w_lt _ _ | with_reducible exact sp_cs_lt _ _ _ _ _ | with_reducible exact sp_cb_lt _ _ _ _ _ | with_reducible exact sp_ch_lt _ | with_reducible exact sp_bf_lt _ _ | omega) (by first | with_reducible assumption | with_reducible exact ep_lt _ | with_reducible exact sp_its_lt _ _ _ | with_reducible exact tb_l_rt _ | with_reducible exact tb_l_x _ | with_reducible exact tb_l_o0 _ | with_reducible exact tb_l_o1 _ | with_reducible exact tb_l_va _ | with_reducible exact tb_l_ll _ | with_reducible exact tb_l_cf _ | with_reducible exact tb_l_kf _ | with_reducible exact sp_ts_lt _ _ _ _ | with_reducible exact sp_w_lt _ _ | with_reducible exact sp_cs_lt _ _ _ _ _ | with_reducible exact sp_cb_lt _ _ _ _ _ | with_reducible exact sp_ch_lt _ | with_reducible exact sp_bf_lt _ _ | omega) (fun h4_3 => by exact absurd h4_3 (by decide)) (fun h4_3 => ?_)
              refine ew_iload_n d_Pf_areColumnsInField_7 rfl ?_
              refine ew_iload_n d_Pf_areColumnsInField_8 rfl ?_
              refine en_callS (As := [.int (nI 1), .int (nI 3)]) (st := []) (st1 := [.int (nI 84)]) d_Pf_areColumnsInField_9 k_Pf_columnStart tw_521 tw_473 rfl (Nat.le_of_ble_eq_true rfl) rfl (Nat.le_of_ble_eq_true rfl) rfl rfl (c_Pf_columnStart l g _ L M 1 3) rfl ?_
              refine en_istore_n (ls' := [.ref 21, .int (nI 1), .int (nI 3), .int (nI 84)]) d_Pf_areColumnsInField_12 (Nat.le_of_ble_eq_true rfl) rfl ?_
              refine ew_aload_n d_Pf_areColumnsInField_13 rfl ?_
              refine ew_getr (ci := 4) (f := 0) d_Pf_areColumnsInField_14 rfl rfl rfl tw_108 ?_
              refine ew_iload_n d_Pf_areColumnsInField_17 rfl ?_
              refine ew_iald (j := 84) d_Pf_areColumnsInField_18 rfl (rfl) (by decide) (by decide) ?_
              refine en_callS (As := [.int (M 22 84)]) (st := []) (st1 := [.int (ew_b (sp_in (M 22 84) 12289))]) d_Pf_areColumnsInField_19 k_Fi_holds tw_516 tw_246 rfl (Nat.le_of_ble_eq_true rfl) rfl (Nat.le_of_ble_eq_true rfl) rfl rfl (c_Fi_holds l g _ (ew_SH L) M (M 22 84)) rfl ?_
              refine en_b_eq (tgt := 39) d_Pf_areColumnsInField_22 (by decide) (fun h22_3 => ?_) (fun h22_3 => ?_)
              · refine ew_iconst (v := nI 0) d_Pf_areColumnsInField_39 (by decide) ?_
                exact ew_zret d_Pf_areColumnsInField_40 rfl (by decide) (⟨by rw [show sp_cB1 (M 22) = false from by (unfold sp_cB1; rw [h22, h36, h22_1, h36_1, h22_2, h36_2, h22_3]; first | rfl | done)]; rfl, rfl, rfl⟩)
              · refine ew_aload_n d_Pf_areColumnsInField_25 rfl ?_
                refine ew_getr (ci := 4) (f := 0) d_Pf_areColumnsInField_26 rfl rfl rfl tw_108 ?_
                refine ew_iload_n d_Pf_areColumnsInField_29 rfl ?_
                refine ew_iconst (v := nI 1) d_Pf_areColumnsInField_30 (by decide) ?_
                refine en_iadd d_Pf_areColumnsInField_31 ?_
                refine en_eq rfl (show _ = [.int (nI 85), .ref 22] from rfl) rfl ?_
                refine ew_iald (j := 85) d_Pf_areColumnsInField_32 rfl (rfl) (by decide) (by decide) ?_
                refine en_callS (As := [.int (M 22 85)]) (st := []) (st1 := [.int (ew_b (sp_in (M 22 85) 12289))]) d_Pf_areColumnsInField_33 k_Fi_holds tw_516 tw_246 rfl (Nat.le_of_ble_eq_true rfl) rfl (Nat.le_of_ble_eq_true rfl) rfl rfl (c_Fi_holds l g _ (ew_SH L) M (M 22 85)) rfl ?_
                refine en_b_ne (tgt := 41) d_Pf_areColumnsInField_36 (by decide) (fun h36_3 => ?_) (fun h36_3 => ?_)
                · refine en_inc (ls' := [.ref 21, .int (nI 1), .int (nI 4), .int (nI 84)]) d_Pf_areColumnsInField_41 rfl rfl ?_
                  refine ew_goto (tgt := 2) d_Pf_areColumnsInField_44 (by decide) ?_
                  refine ew_iload_n d_Pf_areColumnsInField_2 rfl ?_
                  refine ew_iconst (v := nI 4) d_Pf_areColumnsInField_3 (by decide) ?_
                  refine en_icmp_ge (tgt := 47) d_Pf_areColumnsInField_4 (by decide) (by first | with_reducible assumption | with_reducible exact ep_lt _ | with_reducible exact sp_its_lt _ _ _ | with_reducible exact tb_l_rt _ | with_reducible exact tb_l_x _ | with_reducible exact tb_l_o0 _ | with_reducible exact tb_l_o1 _ | with_reducible exact tb_l_va _ | with_reducible exact tb_l_ll _ | with_reducible exact tb_l_cf _ | with_reducible exact tb_l_kf _ | with_reducible exact sp_ts_lt _ _ _ _ | with_reducible exact sp_w_lt _ _ | with_reducible exact sp_cs_lt _ _ _ _ _ | with_reducible exact sp_cb_lt _ _ _ _ _ | with_reducible exact sp_ch_lt _ | with_reducible exact sp_bf_lt _ _ | omega) (by first | with_reducible assumption | with_reducible exact ep_lt _ | with_reducible exact sp_its_lt _ _ _ | with_reducible exact tb_l_rt _ | with_reducible exact tb_l_x _ | with_reducible exact tb_l_o0 _ | with_reducible exact tb_l_o1 _ | with_reducible exact tb_l_va _ | with_reducible exact tb_l_ll _ | with_reducible exact tb_l_cf _ | with_reducible exact tb_l_kf _ | with_reducible exact sp_ts_lt _ _ _ _ | with_reducible exact sp_w_lt _ _ | with_reducible exact sp_cs_lt _ _ _ _ _ | with_reducible exact sp_cb_lt _ _ _ _ _ | with_reducible exact sp_ch_lt _ | with_reducible exact sp_bf_lt _ _ | omega) (fun h4_4 => ?_) (fun h4_4 => by exact absurd h4_4 (by decide))
                  refine ew_iconst (v := nI 1) d_Pf_areColumnsInField_47 (by decide) ?_
                  exact ew_zret d_Pf_areColumnsInField_48 rfl (by decide) (⟨by rw [show sp_cB1 (M 22) = true from by (unfold sp_cB1; rw [h22, h36, h22_1, h36_1, h22_2, h36_2, h22_3, h36_3]; first | rfl | done)]; rfl, rfl, rfl⟩)
                · refine ew_iconst (v := nI 0) d_Pf_areColumnsInField_39 (by decide) ?_
                  exact ew_zret d_Pf_areColumnsInField_40 rfl (by decide) (⟨by rw [show sp_cB1 (M 22) = false from by (unfold sp_cB1; rw [h22, h36, h22_1, h36_1, h22_2, h36_2, h22_3, h36_3]; first | rfl | done)]; rfl, rfl, rfl⟩)
            · refine ew_iconst (v := nI 0) d_Pf_areColumnsInField_39 (by decide) ?_
              exact ew_zret d_Pf_areColumnsInField_40 rfl (by decide) (⟨by rw [show sp_cB1 (M 22) = false from by (unfold sp_cB1; rw [h22, h36, h22_1, h36_1, h22_2, h36_2]; first | rfl | done)]; rfl, rfl, rfl⟩)
        · refine ew_iconst (v := nI 0) d_Pf_areColumnsInField_39 (by decide) ?_
          exact ew_zret d_Pf_areColumnsInField_40 rfl (by decide) (⟨by rw [show sp_cB1 (M 22) = false from by (unfold sp_cB1; rw [h22, h36, h22_1, h36_1]; first | rfl | done)]; rfl, rfl, rfl⟩)
    · refine ew_iconst (v := nI 0) d_Pf_areColumnsInField_39 (by decide) ?_
      exact ew_zret d_Pf_areColumnsInField_40 rfl (by decide) (⟨by rw [show sp_cB1 (M 22) = false from by (unfold sp_cB1; rw [h22, h36]; first | rfl | done)]; rfl, rfl, rfl⟩)
set_option maxRecDepth 100000 in
theorem c_Pf_areLayersInField1 (l : Launch) (g : ew_G) (d L : Nat) (M : ew_M) (hs : sp_st M) :
    Ew l g (d + 1) 0 0 m_Pf_areLayersInField 0 [.ref 21, .int (nI 1), .retAddr 0, .retAddr 0] [] (ew_SH L) M (ew_q (some (.int (ew_b (sp_lB1 (M 22))))) (ew_SH L) M) := by
  refine ew_iconst (v := nI 0) d_Pf_areLayersInField_0 (by decide) ?_
  refine en_istore_n (ls' := [.ref 21, .int (nI 1), .int (nI 0), .retAddr 0]) d_Pf_areLayersInField_1 (Nat.le_of_ble_eq_true rfl) rfl ?_
  refine ew_iload_n d_Pf_areLayersInField_2 rfl ?_
  refine ew_iconst (v := nI 3) d_Pf_areLayersInField_3 (by decide) ?_
  refine en_icmp_ge (tgt := 45) d_Pf_areLayersInField_4 (by decide) (by first | with_reducible assumption | with_reducible exact ep_lt _ | with_reducible exact sp_its_lt _ _ _ | with_reducible exact tb_l_rt _ | with_reducible exact tb_l_x _ | with_reducible exact tb_l_o0 _ | with_reducible exact tb_l_o1 _ | with_reducible exact tb_l_va _ | with_reducible exact tb_l_ll _ | with_reducible exact tb_l_cf _ | with_reducible exact tb_l_kf _ | with_reducible exact sp_ts_lt _ _ _ _ | with_reducible exact sp_w_lt _ _ | with_reducible exact sp_cs_lt _ _ _ _ _ | with_reducible exact sp_cb_lt _ _ _ _ _ | with_reducible exact sp_ch_lt _ | with_reducible exact sp_bf_lt _ _ | omega) (by first | with_reducible assumption | with_reducible exact ep_lt _ | with_reducible exact sp_its_lt _ _ _ | with_reducible exact tb_l_rt _ | with_reducible exact tb_l_x _ | with_reducible exact tb_l_o0 _ | with_reducible exact tb_l_o1 _ | with_reducible exact tb_l_va _ | with_reducible exact tb_l_ll _ | with_reducible exact tb_l_cf _ | with_reducible exact tb_l_kf _ | with_reducible exact sp_ts_lt _ _ _ _ | with_reducible exact sp_w_lt _ _ | with_reducible exact sp_cs_lt _ _ _ _ _ | with_reducible exact sp_cb_lt _ _ _ _ _ | with_reducible exact sp_ch_lt _ | with_reducible exact sp_bf_lt _ _ | omega) (fun h4 => by exact absurd h4 (by decide)) (fun h4 => ?_)
  refine ew_iconst (v := nI 0) d_Pf_areLayersInField_7 (by decide) ?_
  refine en_istore_n (ls' := [.ref 21, .int (nI 1), .int (nI 0), .int (nI 0)]) d_Pf_areLayersInField_8 (Nat.le_of_ble_eq_true rfl) rfl ?_
  refine ew_iload_n d_Pf_areLayersInField_9 rfl ?_
  refine ew_iconst (v := nI 2) d_Pf_areLayersInField_10 (by decide) ?_
  refine en_icmp_ge (tgt := 39) d_Pf_areLayersInField_11 (by decide) (by first | with_reducible assumption | with_reducible exact ep_lt _ | with_reducible exact sp_its_lt _ _ _ | with_reducible exact tb_l_rt _ | with_reducible exact tb_l_x _ | with_reducible exact tb_l_o0 _ | with_reducible exact tb_l_o1 _ | with_reducible exact tb_l_va _ | with_reducible exact tb_l_ll _ | with_reducible exact tb_l_cf _ | with_reducible exact tb_l_kf _ | with_reducible exact sp_ts_lt _ _ _ _ | with_reducible exact sp_w_lt _ _ | with_reducible exact sp_cs_lt _ _ _ _ _ | with_reducible exact sp_cb_lt _ _ _ _ _ | with_reducible exact sp_ch_lt _ | with_reducible exact sp_bf_lt _ _ | omega) (by first | with_reducible assumption | with_reducible exact ep_lt _ | with_reducible exact sp_its_lt _ _ _ | with_reducible exact tb_l_rt _ | with_reducible exact tb_l_x _ | with_reducible exact tb_l_o0 _ | with_reducible exact tb_l_o1 _ | with_reducible exact tb_l_va _ | with_reducible exact tb_l_ll _ | with_reducible exact tb_l_cf _ | with_reducible exact tb_l_kf _ | with_reducible exact sp_ts_lt _ _ _ _ | with_reducible exact sp_w_lt _ _ | with_reducible exact sp_cs_lt _ _ _ _ _ | with_reducible exact sp_cb_lt _ _ _ _ _ | with_reducible exact sp_ch_lt _ | with_reducible exact sp_bf_lt _ _ | omega) (fun h11 => by exact absurd h11 (by decide)) (fun h11 => ?_)
  refine ew_aload_n d_Pf_areLayersInField_14 rfl ?_
  refine ew_getr (ci := 4) (f := 0) d_Pf_areLayersInField_15 rfl rfl rfl tw_108 ?_
  refine ew_iload_n d_Pf_areLayersInField_18 rfl ?_
  refine ew_iload_n d_Pf_areLayersInField_19 rfl ?_
  refine ew_iload_n d_Pf_areLayersInField_20 rfl ?_
  refine en_callS (As := [.int (nI 1), .int (nI 0), .int (nI 0)]) (st := [.ref 22]) (st1 := [.int (nI 91), .ref 22]) d_Pf_areLayersInField_21 k_Pf_layerStart tw_526 tw_488 rfl (Nat.le_of_ble_eq_true rfl) rfl (Nat.le_of_ble_eq_true rfl) rfl rfl (c_Pf_layerStart0 l g _ L M (hs) 1 0) rfl ?_
  refine ew_iald (j := 91) d_Pf_areLayersInField_24 rfl (rfl) (by decide) (by decide) ?_
  refine en_callS (As := [.int (M 22 91)]) (st := []) (st1 := [.int (ew_b (sp_in (M 22 91) 12289))]) d_Pf_areLayersInField_25 k_Fi_holds tw_516 tw_246 rfl (Nat.le_of_ble_eq_true rfl) rfl (Nat.le_of_ble_eq_true rfl) rfl rfl (c_Fi_holds l g _ (ew_SH L) M (M 22 91)) rfl ?_
  refine en_b_ne (tgt := 33) d_Pf_areLayersInField_28 (by decide) (fun h28 => ?_) (fun h28 => ?_)
  · refine en_inc (ls' := [.ref 21, .int (nI 1), .int (nI 0), .int (nI 1)]) d_Pf_areLayersInField_33 rfl rfl ?_
    refine ew_goto (tgt := 9) d_Pf_areLayersInField_36 (by decide) ?_
    refine ew_iload_n d_Pf_areLayersInField_9 rfl ?_
    refine ew_iconst (v := nI 2) d_Pf_areLayersInField_10 (by decide) ?_
    refine en_icmp_ge (tgt := 39) d_Pf_areLayersInField_11 (by decide) (by first | with_reducible assumption | with_reducible exact ep_lt _ | with_reducible exact sp_its_lt _ _ _ | with_reducible exact tb_l_rt _ | with_reducible exact tb_l_x _ | with_reducible exact tb_l_o0 _ | with_reducible exact tb_l_o1 _ | with_reducible exact tb_l_va _ | with_reducible exact tb_l_ll _ | with_reducible exact tb_l_cf _ | with_reducible exact tb_l_kf _ | with_reducible exact sp_ts_lt _ _ _ _ | with_reducible exact sp_w_lt _ _ | with_reducible exact sp_cs_lt _ _ _ _ _ | with_reducible exact sp_cb_lt _ _ _ _ _ | with_reducible exact sp_ch_lt _ | with_reducible exact sp_bf_lt _ _ | omega) (by first | with_reducible assumption | with_reducible exact ep_lt _ | with_reducible exact sp_its_lt _ _ _ | with_reducible exact tb_l_rt _ | with_reducible exact tb_l_x _ | with_reducible exact tb_l_o0 _ | with_reducible exact tb_l_o1 _ | with_reducible exact tb_l_va _ | with_reducible exact tb_l_ll _ | with_reducible exact tb_l_cf _ | with_reducible exact tb_l_kf _ | with_reducible exact sp_ts_lt _ _ _ _ | with_reducible exact sp_w_lt _ _ | with_reducible exact sp_cs_lt _ _ _ _ _ | with_reducible exact sp_cb_lt _ _ _ _ _ | with_reducible exact sp_ch_lt _ | with_reducible exact sp_bf_lt _ _ | omega) (fun h11_1 => by exact absurd h11_1 (by decide)) (fun h11_1 => ?_)
    refine ew_aload_n d_Pf_areLayersInField_14 rfl ?_
    refine ew_getr (ci := 4) (f := 0) d_Pf_areLayersInField_15 rfl rfl rfl tw_108 ?_
    refine ew_iload_n d_Pf_areLayersInField_18 rfl ?_
    refine ew_iload_n d_Pf_areLayersInField_19 rfl ?_
    refine ew_iload_n d_Pf_areLayersInField_20 rfl ?_
    refine en_callS (As := [.int (nI 1), .int (nI 0), .int (nI 1)]) (st := [.ref 22]) (st1 := [.int (nI 97), .ref 22]) d_Pf_areLayersInField_21 k_Pf_layerStart tw_526 tw_488 rfl (Nat.le_of_ble_eq_true rfl) rfl (Nat.le_of_ble_eq_true rfl) rfl rfl (c_Pf_layerStart0 l g _ L M (hs) 1 1) rfl ?_
    refine ew_iald (j := 97) d_Pf_areLayersInField_24 rfl (rfl) (by decide) (by decide) ?_
    refine en_callS (As := [.int (M 22 97)]) (st := []) (st1 := [.int (ew_b (sp_in (M 22 97) 12289))]) d_Pf_areLayersInField_25 k_Fi_holds tw_516 tw_246 rfl (Nat.le_of_ble_eq_true rfl) rfl (Nat.le_of_ble_eq_true rfl) rfl rfl (c_Fi_holds l g _ (ew_SH L) M (M 22 97)) rfl ?_
    refine en_b_ne (tgt := 33) d_Pf_areLayersInField_28 (by decide) (fun h28_1 => ?_) (fun h28_1 => ?_)
    · refine en_inc (ls' := [.ref 21, .int (nI 1), .int (nI 0), .int (nI 2)]) d_Pf_areLayersInField_33 rfl rfl ?_
      refine ew_goto (tgt := 9) d_Pf_areLayersInField_36 (by decide) ?_
      refine ew_iload_n d_Pf_areLayersInField_9 rfl ?_
      refine ew_iconst (v := nI 2) d_Pf_areLayersInField_10 (by decide) ?_
      refine en_icmp_ge (tgt := 39) d_Pf_areLayersInField_11 (by decide) (by first | with_reducible assumption | with_reducible exact ep_lt _ | with_reducible exact sp_its_lt _ _ _ | with_reducible exact tb_l_rt _ | with_reducible exact tb_l_x _ | with_reducible exact tb_l_o0 _ | with_reducible exact tb_l_o1 _ | with_reducible exact tb_l_va _ | with_reducible exact tb_l_ll _ | with_reducible exact tb_l_cf _ | with_reducible exact tb_l_kf _ | with_reducible exact sp_ts_lt _ _ _ _ | with_reducible exact sp_w_lt _ _ | with_reducible exact sp_cs_lt _ _ _ _ _ | with_reducible exact sp_cb_lt _ _ _ _ _ | with_reducible exact sp_ch_lt _ | with_reducible exact sp_bf_lt _ _ | omega) (by first | with_reducible assumption | with_reducible exact ep_lt _ | with_reducible exact sp_its_lt _ _ _ | with_reducible exact tb_l_rt _ | with_reducible exact tb_l_x _ | with_reducible exact tb_l_o0 _ | with_reducible exact tb_l_o1 _ | with_reducible exact tb_l_va _ | with_reducible exact tb_l_ll _ | with_reducible exact tb_l_cf _ | with_reducible exact tb_l_kf _ | with_reducible exact sp_ts_lt _ _ _ _ | with_reducible exact sp_w_lt _ _ | with_reducible exact sp_cs_lt _ _ _ _ _ | with_reducible exact sp_cb_lt _ _ _ _ _ | with_reducible exact sp_ch_lt _ | with_reducible exact sp_bf_lt _ _ | omega) (fun h11_2 => ?_) (fun h11_2 => by exact absurd h11_2 (by decide))
      refine en_inc (ls' := [.ref 21, .int (nI 1), .int (nI 1), .int (nI 2)]) d_Pf_areLayersInField_39 rfl rfl ?_
      refine ew_goto (tgt := 2) d_Pf_areLayersInField_42 (by decide) ?_
      refine ew_iload_n d_Pf_areLayersInField_2 rfl ?_
      refine ew_iconst (v := nI 3) d_Pf_areLayersInField_3 (by decide) ?_
      refine en_icmp_ge (tgt := 45) d_Pf_areLayersInField_4 (by decide) (by first | with_reducible assumption | with_reducible exact ep_lt _ | with_reducible exact sp_its_lt _ _ _ | with_reducible exact tb_l_rt _ | with_reducible exact tb_l_x _ | with_reducible exact tb_l_o0 _ | with_reducible exact tb_l_o1 _ | with_reducible exact tb_l_va _ | with_reducible exact tb_l_ll _ | with_reducible exact tb_l_cf _ | with_reducible exact tb_l_kf _ | with_reducible exact sp_ts_lt _ _ _ _ | with_reducible exact sp_w_lt _ _ | with_reducible exact sp_cs_lt _ _ _ _ _ | with_reducible exact sp_cb_lt _ _ _ _ _ | with_reducible exact sp_ch_lt _ | with_reducible exact sp_bf_lt _ _ | omega) (by first | with_reducible assumption | with_reducible exact ep_lt _ | with_reducible exact sp_its_lt _ _ _ | with_reducible exact tb_l_rt _ | with_reducible exact tb_l_x _ | with_reducible exact tb_l_o0 _ | with_reducible exact tb_l_o1 _ | with_reducible exact tb_l_va _ | with_reducible exact tb_l_ll _ | with_reducible exact tb_l_cf _ | with_reducible exact tb_l_kf _ | with_reducible exact sp_ts_lt _ _ _ _ | with_reducible exact sp_w_lt _ _ | with_reducible exact sp_cs_lt _ _ _ _ _ | with_reducible exact sp_cb_lt _ _ _ _ _ | with_reducible exact sp_ch_lt _ | with_reducible exact sp_bf_lt _ _ | omega) (fun h4_1 => by exact absurd h4_1 (by decide)) (fun h4_1 => ?_)
      refine ew_iconst (v := nI 0) d_Pf_areLayersInField_7 (by decide) ?_
      refine en_istore_n (ls' := [.ref 21, .int (nI 1), .int (nI 1), .int (nI 0)]) d_Pf_areLayersInField_8 (Nat.le_of_ble_eq_true rfl) rfl ?_
      refine ew_iload_n d_Pf_areLayersInField_9 rfl ?_
      refine ew_iconst (v := nI 2) d_Pf_areLayersInField_10 (by decide) ?_
      refine en_icmp_ge (tgt := 39) d_Pf_areLayersInField_11 (by decide) (by first | with_reducible assumption | with_reducible exact ep_lt _ | with_reducible exact sp_its_lt _ _ _ | with_reducible exact tb_l_rt _ | with_reducible exact tb_l_x _ | with_reducible exact tb_l_o0 _ | with_reducible exact tb_l_o1 _ | with_reducible exact tb_l_va _ | with_reducible exact tb_l_ll _ | with_reducible exact tb_l_cf _ | with_reducible exact tb_l_kf _ | with_reducible exact sp_ts_lt _ _ _ _ | with_reducible exact sp_w_lt _ _ | with_reducible exact sp_cs_lt _ _ _ _ _ | with_reducible exact sp_cb_lt _ _ _ _ _ | with_reducible exact sp_ch_lt _ | with_reducible exact sp_bf_lt _ _ | omega) (by first | with_reducible assumption | with_reducible exact ep_lt _ | with_reducible exact sp_its_lt _ _ _ | with_reducible exact tb_l_rt _ | with_reducible exact tb_l_x _ | with_reducible exact tb_l_o0 _ | with_reducible exact tb_l_o1 _ | with_reducible exact tb_l_va _ | with_reducible exact tb_l_ll _ | with_reducible exact tb_l_cf _ | with_reducible exact tb_l_kf _ | with_reducible exact sp_ts_lt _ _ _ _ | with_reducible exact sp_w_lt _ _ | with_reducible exact sp_cs_lt _ _ _ _ _ | with_reducible exact sp_cb_lt _ _ _ _ _ | with_reducible exact sp_ch_lt _ | with_reducible exact sp_bf_lt _ _ | omega) (fun h11_3 => by exact absurd h11_3 (by decide)) (fun h11_3 => ?_)
      refine ew_aload_n d_Pf_areLayersInField_14 rfl ?_
      refine ew_getr (ci := 4) (f := 0) d_Pf_areLayersInField_15 rfl rfl rfl tw_108 ?_
      refine ew_iload_n d_Pf_areLayersInField_18 rfl ?_
      refine ew_iload_n d_Pf_areLayersInField_19 rfl ?_
      refine ew_iload_n d_Pf_areLayersInField_20 rfl ?_
      refine en_callS (As := [.int (nI 1), .int (nI 1), .int (nI 0)]) (st := [.ref 22]) (st1 := [.int (nI 103), .ref 22]) d_Pf_areLayersInField_21 k_Pf_layerStart tw_526 tw_488 rfl (Nat.le_of_ble_eq_true rfl) rfl (Nat.le_of_ble_eq_true rfl) rfl rfl (c_Pf_layerStart1 l g _ L M (hs) 1 0) rfl ?_
      refine ew_iald (j := 103) d_Pf_areLayersInField_24 rfl (rfl) (by decide) (by decide) ?_
      refine en_callS (As := [.int (M 22 103)]) (st := []) (st1 := [.int (ew_b (sp_in (M 22 103) 12289))]) d_Pf_areLayersInField_25 k_Fi_holds tw_516 tw_246 rfl (Nat.le_of_ble_eq_true rfl) rfl (Nat.le_of_ble_eq_true rfl) rfl rfl (c_Fi_holds l g _ (ew_SH L) M (M 22 103)) rfl ?_
      refine en_b_ne (tgt := 33) d_Pf_areLayersInField_28 (by decide) (fun h28_2 => ?_) (fun h28_2 => ?_)
      · refine en_inc (ls' := [.ref 21, .int (nI 1), .int (nI 1), .int (nI 1)]) d_Pf_areLayersInField_33 rfl rfl ?_
        refine ew_goto (tgt := 9) d_Pf_areLayersInField_36 (by decide) ?_
        refine ew_iload_n d_Pf_areLayersInField_9 rfl ?_
        refine ew_iconst (v := nI 2) d_Pf_areLayersInField_10 (by decide) ?_
        refine en_icmp_ge (tgt := 39) d_Pf_areLayersInField_11 (by decide) (by first | with_reducible assumption | with_reducible exact ep_lt _ | with_reducible exact sp_its_lt _ _ _ | with_reducible exact tb_l_rt _ | with_reducible exact tb_l_x _ | with_reducible exact tb_l_o0 _ | with_reducible exact tb_l_o1 _ | with_reducible exact tb_l_va _ | with_reducible exact tb_l_ll _ | with_reducible exact tb_l_cf _ | with_reducible exact tb_l_kf _ | with_reducible exact sp_ts_lt _ _ _ _ | with_reducible exact sp_w_lt _ _ | with_reducible exact sp_cs_lt _ _ _ _ _ | with_reducible exact sp_cb_lt _ _ _ _ _ | with_reducible exact sp_ch_lt _ | with_reducible exact sp_bf_lt _ _ | omega) (by first | with_reducible assumption | with_reducible exact ep_lt _ | with_reducible exact sp_its_lt _ _ _ | with_reducible exact tb_l_rt _ | with_reducible exact tb_l_x _ | with_reducible exact tb_l_o0 _ | with_reducible exact tb_l_o1 _ | with_reducible exact tb_l_va _ | with_reducible exact tb_l_ll _ | with_reducible exact tb_l_cf _ | with_reducible exact tb_l_kf _ | with_reducible exact sp_ts_lt _ _ _ _ | with_reducible exact sp_w_lt _ _ | with_reducible exact sp_cs_lt _ _ _ _ _ | with_reducible exact sp_cb_lt _ _ _ _ _ | with_reducible exact sp_ch_lt _ | with_reducible exact sp_bf_lt _ _ | omega) (fun h11_4 => by exact absurd h11_4 (by decide)) (fun h11_4 => ?_)
        refine ew_aload_n d_Pf_areLayersInField_14 rfl ?_
        refine ew_getr (ci := 4) (f := 0) d_Pf_areLayersInField_15 rfl rfl rfl tw_108 ?_
        refine ew_iload_n d_Pf_areLayersInField_18 rfl ?_
        refine ew_iload_n d_Pf_areLayersInField_19 rfl ?_
        refine ew_iload_n d_Pf_areLayersInField_20 rfl ?_
        refine en_callS (As := [.int (nI 1), .int (nI 1), .int (nI 1)]) (st := [.ref 22]) (st1 := [.int (nI 108), .ref 22]) d_Pf_areLayersInField_21 k_Pf_layerStart tw_526 tw_488 rfl (Nat.le_of_ble_eq_true rfl) rfl (Nat.le_of_ble_eq_true rfl) rfl rfl (c_Pf_layerStart1 l g _ L M (hs) 1 1) rfl ?_
        refine ew_iald (j := 108) d_Pf_areLayersInField_24 rfl (rfl) (by decide) (by decide) ?_
        refine en_callS (As := [.int (M 22 108)]) (st := []) (st1 := [.int (ew_b (sp_in (M 22 108) 12289))]) d_Pf_areLayersInField_25 k_Fi_holds tw_516 tw_246 rfl (Nat.le_of_ble_eq_true rfl) rfl (Nat.le_of_ble_eq_true rfl) rfl rfl (c_Fi_holds l g _ (ew_SH L) M (M 22 108)) rfl ?_
        refine en_b_ne (tgt := 33) d_Pf_areLayersInField_28 (by decide) (fun h28_3 => ?_) (fun h28_3 => ?_)
        · refine en_inc (ls' := [.ref 21, .int (nI 1), .int (nI 1), .int (nI 2)]) d_Pf_areLayersInField_33 rfl rfl ?_
          refine ew_goto (tgt := 9) d_Pf_areLayersInField_36 (by decide) ?_
          refine ew_iload_n d_Pf_areLayersInField_9 rfl ?_
          refine ew_iconst (v := nI 2) d_Pf_areLayersInField_10 (by decide) ?_
          refine en_icmp_ge (tgt := 39) d_Pf_areLayersInField_11 (by decide) (by first | with_reducible assumption | with_reducible exact ep_lt _ | with_reducible exact sp_its_lt _ _ _ | with_reducible exact tb_l_rt _ | with_reducible exact tb_l_x _ | with_reducible exact tb_l_o0 _ | with_reducible exact tb_l_o1 _ | with_reducible exact tb_l_va _ | with_reducible exact tb_l_ll _ | with_reducible exact tb_l_cf _ | with_reducible exact tb_l_kf _ | with_reducible exact sp_ts_lt _ _ _ _ | with_reducible exact sp_w_lt _ _ | with_reducible exact sp_cs_lt _ _ _ _ _ | with_reducible exact sp_cb_lt _ _ _ _ _ | with_reducible exact sp_ch_lt _ | with_reducible exact sp_bf_lt _ _ | omega) (by first | with_reducible assumption | with_reducible exact ep_lt _ | with_reducible exact sp_its_lt _ _ _ | with_reducible exact tb_l_rt _ | with_reducible exact tb_l_x _ | with_reducible exact tb_l_o0 _ | with_reducible exact tb_l_o1 _ | with_reducible exact tb_l_va _ | with_reducible exact tb_l_ll _ | with_reducible exact tb_l_cf _ | with_reducible exact tb_l_kf _ | with_reducible exact sp_ts_lt _ _ _ _ | with_reducible exact sp_w_lt _ _ | with_reducible exact sp_cs_lt _ _ _ _ _ | with_reducible exact sp_cb_lt _ _ _ _ _ | with_reducible exact sp_ch_lt _ | with_reducible exact sp_bf_lt _ _ | omega) (fun h11_5 => ?_) (fun h11_5 => by exact absurd h11_5 (by decide))
          refine en_inc (ls' := [.ref 21, .int (nI 1), .int (nI 2), .int (nI 2)]) d_Pf_areLayersInField_39 rfl rfl ?_
          refine ew_goto (tgt := 2) d_Pf_areLayersInField_42 (by decide) ?_
          refine ew_iload_n d_Pf_areLayersInField_2 rfl ?_
          refine ew_iconst (v := nI 3) d_Pf_areLayersInField_3 (by decide) ?_
          refine en_icmp_ge (tgt := 45) d_Pf_areLayersInField_4 (by decide) (by first | with_reducible assumption | with_reducible exact ep_lt _ | with_reducible exact sp_its_lt _ _ _ | with_reducible exact tb_l_rt _ | with_reducible exact tb_l_x _ | with_reducible exact tb_l_o0 _ | with_reducible exact tb_l_o1 _ | with_reducible exact tb_l_va _ | with_reducible exact tb_l_ll _ | with_reducible exact tb_l_cf _ | with_reducible exact tb_l_kf _ | with_reducible exact sp_ts_lt _ _ _ _ | with_reducible exact sp_w_lt _ _ | with_reducible exact sp_cs_lt _ _ _ _ _ | with_reducible exact sp_cb_lt _ _ _ _ _ | with_reducible exact sp_ch_lt _ | with_reducible exact sp_bf_lt _ _ | omega) (by first | with_reducible assumption | with_reducible exact ep_lt _ | with_reducible exact sp_its_lt _ _ _ | with_reducible exact tb_l_rt _ | with_reducible exact tb_l_x _ | with_reducible exact tb_l_o0 _ | with_reducible exact tb_l_o1 _ | with_reducible exact tb_l_va _ | with_reducible exact tb_l_ll _ | with_reducible exact tb_l_cf _ | with_reducible exact tb_l_kf _ | with_reducible exact sp_ts_lt _ _ _ _ | with_reducible exact sp_w_lt _ _ | with_reducible exact sp_cs_lt _ _ _ _ _ | with_reducible exact sp_cb_lt _ _ _ _ _ | with_reducible exact sp_ch_lt _ | with_reducible exact sp_bf_lt _ _ | omega) (fun h4_2 => by exact absurd h4_2 (by decide)) (fun h4_2 => ?_)
          refine ew_iconst (v := nI 0) d_Pf_areLayersInField_7 (by decide) ?_
          refine en_istore_n (ls' := [.ref 21, .int (nI 1), .int (nI 2), .int (nI 0)]) d_Pf_areLayersInField_8 (Nat.le_of_ble_eq_true rfl) rfl ?_
          refine ew_iload_n d_Pf_areLayersInField_9 rfl ?_
          refine ew_iconst (v := nI 2) d_Pf_areLayersInField_10 (by decide) ?_
          refine en_icmp_ge (tgt := 39) d_Pf_areLayersInField_11 (by decide) (by first | with_reducible assumption | with_reducible exact ep_lt _ | with_reducible exact sp_its_lt _ _ _ | with_reducible exact tb_l_rt _ | with_reducible exact tb_l_x _ | with_reducible exact tb_l_o0 _ | with_reducible exact tb_l_o1 _ | with_reducible exact tb_l_va _ | with_reducible exact tb_l_ll _ | with_reducible exact tb_l_cf _ | with_reducible exact tb_l_kf _ | with_reducible exact sp_ts_lt _ _ _ _ | with_reducible exact sp_w_lt _ _ | with_reducible exact sp_cs_lt _ _ _ _ _ | with_reducible exact sp_cb_lt _ _ _ _ _ | with_reducible exact sp_ch_lt _ | with_reducible exact sp_bf_lt _ _ | omega) (by first | with_reducible assumption | with_reducible exact ep_lt _ | with_reducible exact sp_its_lt _ _ _ | with_reducible exact tb_l_rt _ | with_reducible exact tb_l_x _ | with_reducible exact tb_l_o0 _ | with_reducible exact tb_l_o1 _ | with_reducible exact tb_l_va _ | with_reducible exact tb_l_ll _ | with_reducible exact tb_l_cf _ | with_reducible exact tb_l_kf _ | with_reducible exact sp_ts_lt _ _ _ _ | with_reducible exact sp_w_lt _ _ | with_reducible exact sp_cs_lt _ _ _ _ _ | with_reducible exact sp_cb_lt _ _ _ _ _ | with_reducible exact sp_ch_lt _ | with_reducible exact sp_bf_lt _ _ | omega) (fun h11_6 => by exact absurd h11_6 (by decide)) (fun h11_6 => ?_)
          refine ew_aload_n d_Pf_areLayersInField_14 rfl ?_
          refine ew_getr (ci := 4) (f := 0) d_Pf_areLayersInField_15 rfl rfl rfl tw_108 ?_
          refine ew_iload_n d_Pf_areLayersInField_18 rfl ?_
          refine ew_iload_n d_Pf_areLayersInField_19 rfl ?_
          refine ew_iload_n d_Pf_areLayersInField_20 rfl ?_
          refine en_callS (As := [.int (nI 1), .int (nI 2), .int (nI 0)]) (st := [.ref 22]) (st1 := [.int (nI 113), .ref 22]) d_Pf_areLayersInField_21 k_Pf_layerStart tw_526 tw_488 rfl (Nat.le_of_ble_eq_true rfl) rfl (Nat.le_of_ble_eq_true rfl) rfl rfl (c_Pf_layerStart2 l g _ L M (hs) 1 0) rfl ?_
          refine ew_iald (j := 113) d_Pf_areLayersInField_24 rfl (rfl) (by decide) (by decide) ?_
          refine en_callS (As := [.int (M 22 113)]) (st := []) (st1 := [.int (ew_b (sp_in (M 22 113) 12289))]) d_Pf_areLayersInField_25 k_Fi_holds tw_516 tw_246 rfl (Nat.le_of_ble_eq_true rfl) rfl (Nat.le_of_ble_eq_true rfl) rfl rfl (c_Fi_holds l g _ (ew_SH L) M (M 22 113)) rfl ?_
          refine en_b_ne (tgt := 33) d_Pf_areLayersInField_28 (by decide) (fun h28_4 => ?_) (fun h28_4 => ?_)
          · refine en_inc (ls' := [.ref 21, .int (nI 1), .int (nI 2), .int (nI 1)]) d_Pf_areLayersInField_33 rfl rfl ?_
            refine ew_goto (tgt := 9) d_Pf_areLayersInField_36 (by decide) ?_
            refine ew_iload_n d_Pf_areLayersInField_9 rfl ?_
            refine ew_iconst (v := nI 2) d_Pf_areLayersInField_10 (by decide) ?_
            refine en_icmp_ge (tgt := 39) d_Pf_areLayersInField_11 (by decide) (by first | with_reducible assumption | with_reducible exact ep_lt _ | with_reducible exact sp_its_lt _ _ _ | with_reducible exact tb_l_rt _ | with_reducible exact tb_l_x _ | with_reducible exact tb_l_o0 _ | with_reducible exact tb_l_o1 _ | with_reducible exact tb_l_va _ | with_reducible exact tb_l_ll _ | with_reducible exact tb_l_cf _ | with_reducible exact tb_l_kf _ | with_reducible exact sp_ts_lt _ _ _ _ | with_reducible exact sp_w_lt _ _ | with_reducible exact sp_cs_lt _ _ _ _ _ | with_reducible exact sp_cb_lt _ _ _ _ _ | with_reducible exact sp_ch_lt _ | with_reducible exact sp_bf_lt _ _ | omega) (by first | with_reducible assumption | with_reducible exact ep_lt _ | with_reducible exact sp_its_lt _ _ _ | with_reducible exact tb_l_rt _ | with_reducible exact tb_l_x _ | with_reducible exact tb_l_o0 _ | with_reducible exact tb_l_o1 _ | with_reducible exact tb_l_va _ | with_reducible exact tb_l_ll _ | with_reducible exact tb_l_cf _ | with_reducible exact tb_l_kf _ | with_reducible exact sp_ts_lt _ _ _ _ | with_reducible exact sp_w_lt _ _ | with_reducible exact sp_cs_lt _ _ _ _ _ | with_reducible exact sp_cb_lt _ _ _ _ _ | with_reducible exact sp_ch_lt _ | with_reducible exact sp_bf_lt _ _ | omega) (fun h11_7 => by exact absurd h11_7 (by decide)) (fun h11_7 => ?_)
            refine ew_aload_n d_Pf_areLayersInField_14 rfl ?_
            refine ew_getr (ci := 4) (f := 0) d_Pf_areLayersInField_15 rfl rfl rfl tw_108 ?_
            refine ew_iload_n d_Pf_areLayersInField_18 rfl ?_
            refine ew_iload_n d_Pf_areLayersInField_19 rfl ?_
            refine ew_iload_n d_Pf_areLayersInField_20 rfl ?_
            refine en_callS (As := [.int (nI 1), .int (nI 2), .int (nI 1)]) (st := [.ref 22]) (st1 := [.int (nI 117), .ref 22]) d_Pf_areLayersInField_21 k_Pf_layerStart tw_526 tw_488 rfl (Nat.le_of_ble_eq_true rfl) rfl (Nat.le_of_ble_eq_true rfl) rfl rfl (c_Pf_layerStart2 l g _ L M (hs) 1 1) rfl ?_
            refine ew_iald (j := 117) d_Pf_areLayersInField_24 rfl (rfl) (by decide) (by decide) ?_
            refine en_callS (As := [.int (M 22 117)]) (st := []) (st1 := [.int (ew_b (sp_in (M 22 117) 12289))]) d_Pf_areLayersInField_25 k_Fi_holds tw_516 tw_246 rfl (Nat.le_of_ble_eq_true rfl) rfl (Nat.le_of_ble_eq_true rfl) rfl rfl (c_Fi_holds l g _ (ew_SH L) M (M 22 117)) rfl ?_
            refine en_b_ne (tgt := 33) d_Pf_areLayersInField_28 (by decide) (fun h28_5 => ?_) (fun h28_5 => ?_)
            · refine en_inc (ls' := [.ref 21, .int (nI 1), .int (nI 2), .int (nI 2)]) d_Pf_areLayersInField_33 rfl rfl ?_
              refine ew_goto (tgt := 9) d_Pf_areLayersInField_36 (by decide) ?_
              refine ew_iload_n d_Pf_areLayersInField_9 rfl ?_
              refine ew_iconst (v := nI 2) d_Pf_areLayersInField_10 (by decide) ?_
              refine en_icmp_ge (tgt := 39) d_Pf_areLayersInField_11 (by decide) (by first | with_reducible assumption | with_reducible exact ep_lt _ | with_reducible exact sp_its_lt _ _ _ | with_reducible exact tb_l_rt _ | with_reducible exact tb_l_x _ | with_reducible exact tb_l_o0 _ | with_reducible exact tb_l_o1 _ | with_reducible exact tb_l_va _ | with_reducible exact tb_l_ll _ | with_reducible exact tb_l_cf _ | with_reducible exact tb_l_kf _ | with_reducible exact sp_ts_lt _ _ _ _ | with_reducible exact sp_w_lt _ _ | with_reducible exact sp_cs_lt _ _ _ _ _ | with_reducible exact sp_cb_lt _ _ _ _ _ | with_reducible exact sp_ch_lt _ | with_reducible exact sp_bf_lt _ _ | omega) (by first | with_reducible assumption | with_reducible exact ep_lt _ | with_reducible exact sp_its_lt _ _ _ | with_reducible exact tb_l_rt _ | with_reducible exact tb_l_x _ | with_reducible exact tb_l_o0 _ | with_reducible exact tb_l_o1 _ | with_reducible exact tb_l_va _ | with_reducible exact tb_l_ll _ | with_reducible exact tb_l_cf _ | with_reducible exact tb_l_kf _ | with_reducible exact sp_ts_lt _ _ _ _ | with_reducible exact sp_w_lt _ _ | with_reducible exact sp_cs_lt _ _ _ _ _ | with_reducible exact sp_cb_lt _ _ _ _ _ | with_reducible exact sp_ch_lt _ | with_reducible exact sp_bf_lt _ _ | omega) (fun h11_8 => ?_) (fun h11_8 => by exact absurd h11_8 (by decide))
              refine en_inc (ls' := [.ref 21, .int (nI 1), .int (nI 3), .int (nI 2)]) d_Pf_areLayersInField_39 rfl rfl ?_
              refine ew_goto (tgt := 2) d_Pf_areLayersInField_42 (by decide) ?_
              refine ew_iload_n d_Pf_areLayersInField_2 rfl ?_
              refine ew_iconst (v := nI 3) d_Pf_areLayersInField_3 (by decide) ?_
              refine en_icmp_ge (tgt := 45) d_Pf_areLayersInField_4 (by decide) (by first | with_reducible assumption | with_reducible exact ep_lt _ | with_reducible exact sp_its_lt _ _ _ | with_reducible exact tb_l_rt _ | with_reducible exact tb_l_x _ | with_reducible exact tb_l_o0 _ | with_reducible exact tb_l_o1 _ | with_reducible exact tb_l_va _ | with_reducible exact tb_l_ll _ | with_reducible exact tb_l_cf _ | with_reducible exact tb_l_kf _ | with_reducible exact sp_ts_lt _ _ _ _ | with_reducible exact sp_w_lt _ _ | with_reducible exact sp_cs_lt _ _ _ _ _ | with_reducible exact sp_cb_lt _ _ _ _ _ | with_reducible exact sp_ch_lt _ | with_reducible exact sp_bf_lt _ _ | omega) (by first | with_reducible assumption | with_reducible exact ep_lt _ | with_reducible exact sp_its_lt _ _ _ | with_reducible exact tb_l_rt _ | with_reducible exact tb_l_x _ | with_reducible exact tb_l_o0 _ | with_reducible exact tb_l_o1 _ | with_reducible exact tb_l_va _ | with_reducible exact tb_l_ll _ | with_reducible exact tb_l_cf _ | with_reducible exact tb_l_kf _ | with_reducible exact sp_ts_lt _ _ _ _ | with_reducible exact sp_w_lt _ _ | with_reducible exact sp_cs_lt _ _ _ _ _ | with_reducible exact sp_cb_lt _ _ _ _ _ | with_reducible exact sp_ch_lt _ | with_reducible exact sp_bf_lt _ _ | omega) (fun h4_3 => ?_) (fun h4_3 => by exact absurd h4_3 (by decide))
              refine ew_iconst (v := nI 1) d_Pf_areLayersInField_45 (by decide) ?_
              exact ew_zret d_Pf_areLayersInField_46 rfl (by decide) (⟨by rw [show sp_lB1 (M 22) = true from by (unfold sp_lB1; rw [h28, h28_1, h28_2, h28_3, h28_4, h28_5]; first | rfl | done)]; rfl, rfl, rfl⟩)
            · refine ew_iconst (v := nI 0) d_Pf_areLayersInField_31 (by decide) ?_
              exact ew_zret d_Pf_areLayersInField_32 rfl (by decide) (⟨by rw [show sp_lB1 (M 22) = false from by (unfold sp_lB1; rw [h28, h28_1, h28_2, h28_3, h28_4, h28_5]; first | rfl | done)]; rfl, rfl, rfl⟩)
          · refine ew_iconst (v := nI 0) d_Pf_areLayersInField_31 (by decide) ?_
            exact ew_zret d_Pf_areLayersInField_32 rfl (by decide) (⟨by rw [show sp_lB1 (M 22) = false from by (unfold sp_lB1; rw [h28, h28_1, h28_2, h28_3, h28_4]; first | rfl | done)]; rfl, rfl, rfl⟩)
        · refine ew_iconst (v := nI 0) d_Pf_areLayersInField_31 (by decide) ?_
          exact ew_zret d_Pf_areLayersInField_32 rfl (by decide) (⟨by rw [show sp_lB1 (M 22) = false from by (unfold sp_lB1; rw [h28, h28_1, h28_2, h28_3]; first | rfl | done)]; rfl, rfl, rfl⟩)
      · refine ew_iconst (v := nI 0) d_Pf_areLayersInField_31 (by decide) ?_
        exact ew_zret d_Pf_areLayersInField_32 rfl (by decide) (⟨by rw [show sp_lB1 (M 22) = false from by (unfold sp_lB1; rw [h28, h28_1, h28_2]; first | rfl | done)]; rfl, rfl, rfl⟩)
    · refine ew_iconst (v := nI 0) d_Pf_areLayersInField_31 (by decide) ?_
      exact ew_zret d_Pf_areLayersInField_32 rfl (by decide) (⟨by rw [show sp_lB1 (M 22) = false from by (unfold sp_lB1; rw [h28, h28_1]; first | rfl | done)]; rfl, rfl, rfl⟩)
  · refine ew_iconst (v := nI 0) d_Pf_areLayersInField_31 (by decide) ?_
    exact ew_zret d_Pf_areLayersInField_32 rfl (by decide) (⟨by rw [show sp_lB1 (M 22) = false from by (unfold sp_lB1; rw [h28]; first | rfl | done)]; rfl, rfl, rfl⟩)
set_option maxRecDepth 100000 in
theorem c_Pf_areColumnsInField2 (l : Launch) (g : ew_G) (d L : Nat) (M : ew_M)  :
    Ew l g (d + 1) 0 0 m_Pf_areColumnsInField 0 [.ref 21, .int (nI 2), .retAddr 0, .retAddr 0] [] (ew_SH L) M (ew_q (some (.int (ew_b (sp_cB2 (M 22))))) (ew_SH L) M) := by
  refine ew_iconst (v := nI 0) d_Pf_areColumnsInField_0 (by decide) ?_
  refine en_istore_n (ls' := [.ref 21, .int (nI 2), .int (nI 0), .retAddr 0]) d_Pf_areColumnsInField_1 (Nat.le_of_ble_eq_true rfl) rfl ?_
  refine ew_iload_n d_Pf_areColumnsInField_2 rfl ?_
  refine ew_iconst (v := nI 4) d_Pf_areColumnsInField_3 (by decide) ?_
  refine en_icmp_ge (tgt := 47) d_Pf_areColumnsInField_4 (by decide) (by first | with_reducible assumption | with_reducible exact ep_lt _ | with_reducible exact sp_its_lt _ _ _ | with_reducible exact tb_l_rt _ | with_reducible exact tb_l_x _ | with_reducible exact tb_l_o0 _ | with_reducible exact tb_l_o1 _ | with_reducible exact tb_l_va _ | with_reducible exact tb_l_ll _ | with_reducible exact tb_l_cf _ | with_reducible exact tb_l_kf _ | with_reducible exact sp_ts_lt _ _ _ _ | with_reducible exact sp_w_lt _ _ | with_reducible exact sp_cs_lt _ _ _ _ _ | with_reducible exact sp_cb_lt _ _ _ _ _ | with_reducible exact sp_ch_lt _ | with_reducible exact sp_bf_lt _ _ | omega) (by first | with_reducible assumption | with_reducible exact ep_lt _ | with_reducible exact sp_its_lt _ _ _ | with_reducible exact tb_l_rt _ | with_reducible exact tb_l_x _ | with_reducible exact tb_l_o0 _ | with_reducible exact tb_l_o1 _ | with_reducible exact tb_l_va _ | with_reducible exact tb_l_ll _ | with_reducible exact tb_l_cf _ | with_reducible exact tb_l_kf _ | with_reducible exact sp_ts_lt _ _ _ _ | with_reducible exact sp_w_lt _ _ | with_reducible exact sp_cs_lt _ _ _ _ _ | with_reducible exact sp_cb_lt _ _ _ _ _ | with_reducible exact sp_ch_lt _ | with_reducible exact sp_bf_lt _ _ | omega) (fun h4 => by exact absurd h4 (by decide)) (fun h4 => ?_)
  refine ew_iload_n d_Pf_areColumnsInField_7 rfl ?_
  refine ew_iload_n d_Pf_areColumnsInField_8 rfl ?_
  refine en_callS (As := [.int (nI 2), .int (nI 0)]) (st := []) (st1 := [.int (nI 121)]) d_Pf_areColumnsInField_9 k_Pf_columnStart tw_521 tw_473 rfl (Nat.le_of_ble_eq_true rfl) rfl (Nat.le_of_ble_eq_true rfl) rfl rfl (c_Pf_columnStart l g _ L M 2 0) rfl ?_
  refine en_istore_n (ls' := [.ref 21, .int (nI 2), .int (nI 0), .int (nI 121)]) d_Pf_areColumnsInField_12 (Nat.le_of_ble_eq_true rfl) rfl ?_
  refine ew_aload_n d_Pf_areColumnsInField_13 rfl ?_
  refine ew_getr (ci := 4) (f := 0) d_Pf_areColumnsInField_14 rfl rfl rfl tw_108 ?_
  refine ew_iload_n d_Pf_areColumnsInField_17 rfl ?_
  refine ew_iald (j := 121) d_Pf_areColumnsInField_18 rfl (rfl) (by decide) (by decide) ?_
  refine en_callS (As := [.int (M 22 121)]) (st := []) (st1 := [.int (ew_b (sp_in (M 22 121) 12289))]) d_Pf_areColumnsInField_19 k_Fi_holds tw_516 tw_246 rfl (Nat.le_of_ble_eq_true rfl) rfl (Nat.le_of_ble_eq_true rfl) rfl rfl (c_Fi_holds l g _ (ew_SH L) M (M 22 121)) rfl ?_
  refine en_b_eq (tgt := 39) d_Pf_areColumnsInField_22 (by decide) (fun h22 => ?_) (fun h22 => ?_)
  · refine ew_iconst (v := nI 0) d_Pf_areColumnsInField_39 (by decide) ?_
    exact ew_zret d_Pf_areColumnsInField_40 rfl (by decide) (⟨by rw [show sp_cB2 (M 22) = false from by (unfold sp_cB2; rw [h22]; first | rfl | done)]; rfl, rfl, rfl⟩)
  · refine ew_aload_n d_Pf_areColumnsInField_25 rfl ?_
    refine ew_getr (ci := 4) (f := 0) d_Pf_areColumnsInField_26 rfl rfl rfl tw_108 ?_
    refine ew_iload_n d_Pf_areColumnsInField_29 rfl ?_
    refine ew_iconst (v := nI 1) d_Pf_areColumnsInField_30 (by decide) ?_
    refine en_iadd d_Pf_areColumnsInField_31 ?_
    refine en_eq rfl (show _ = [.int (nI 122), .ref 22] from rfl) rfl ?_
    refine ew_iald (j := 122) d_Pf_areColumnsInField_32 rfl (rfl) (by decide) (by decide) ?_
    refine en_callS (As := [.int (M 22 122)]) (st := []) (st1 := [.int (ew_b (sp_in (M 22 122) 12289))]) d_Pf_areColumnsInField_33 k_Fi_holds tw_516 tw_246 rfl (Nat.le_of_ble_eq_true rfl) rfl (Nat.le_of_ble_eq_true rfl) rfl rfl (c_Fi_holds l g _ (ew_SH L) M (M 22 122)) rfl ?_
    refine en_b_ne (tgt := 41) d_Pf_areColumnsInField_36 (by decide) (fun h36 => ?_) (fun h36 => ?_)
    · refine en_inc (ls' := [.ref 21, .int (nI 2), .int (nI 1), .int (nI 121)]) d_Pf_areColumnsInField_41 rfl rfl ?_
      refine ew_goto (tgt := 2) d_Pf_areColumnsInField_44 (by decide) ?_
      refine ew_iload_n d_Pf_areColumnsInField_2 rfl ?_
      refine ew_iconst (v := nI 4) d_Pf_areColumnsInField_3 (by decide) ?_
      refine en_icmp_ge (tgt := 47) d_Pf_areColumnsInField_4 (by decide) (by first | with_reducible assumption | with_reducible exact ep_lt _ | with_reducible exact sp_its_lt _ _ _ | with_reducible exact tb_l_rt _ | with_reducible exact tb_l_x _ | with_reducible exact tb_l_o0 _ | with_reducible exact tb_l_o1 _ | with_reducible exact tb_l_va _ | with_reducible exact tb_l_ll _ | with_reducible exact tb_l_cf _ | with_reducible exact tb_l_kf _ | with_reducible exact sp_ts_lt _ _ _ _ | with_reducible exact sp_w_lt _ _ | with_reducible exact sp_cs_lt _ _ _ _ _ | with_reducible exact sp_cb_lt _ _ _ _ _ | with_reducible exact sp_ch_lt _ | with_reducible exact sp_bf_lt _ _ | omega) (by first | with_reducible assumption | with_reducible exact ep_lt _ | with_reducible exact sp_its_lt _ _ _ | with_reducible exact tb_l_rt _ | with_reducible exact tb_l_x _ | with_reducible exact tb_l_o0 _ | with_reducible exact tb_l_o1 _ | with_reducible exact tb_l_va _ | with_reducible exact tb_l_ll _ | with_reducible exact tb_l_cf _ | with_reducible exact tb_l_kf _ | with_reducible exact sp_ts_lt _ _ _ _ | with_reducible exact sp_w_lt _ _ | with_reducible exact sp_cs_lt _ _ _ _ _ | with_reducible exact sp_cb_lt _ _ _ _ _ | with_reducible exact sp_ch_lt _ | with_reducible exact sp_bf_lt _ _ | omega) (fun h4_1 => by exact absurd h4_1 (by decide)) (fun h4_1 => ?_)
      refine ew_iload_n d_Pf_areColumnsInField_7 rfl ?_
      refine ew_iload_n d_Pf_areColumnsInField_8 rfl ?_
      refine en_callS (As := [.int (nI 2), .int (nI 1)]) (st := []) (st1 := [.int (nI 128)]) d_Pf_areColumnsInField_9 k_Pf_columnStart tw_521 tw_473 rfl (Nat.le_of_ble_eq_true rfl) rfl (Nat.le_of_ble_eq_true rfl) rfl rfl (c_Pf_columnStart l g _ L M 2 1) rfl ?_
      refine en_istore_n (ls' := [.ref 21, .int (nI 2), .int (nI 1), .int (nI 128)]) d_Pf_areColumnsInField_12 (Nat.le_of_ble_eq_true rfl) rfl ?_
      refine ew_aload_n d_Pf_areColumnsInField_13 rfl ?_
      refine ew_getr (ci := 4) (f := 0) d_Pf_areColumnsInField_14 rfl rfl rfl tw_108 ?_
      refine ew_iload_n d_Pf_areColumnsInField_17 rfl ?_
      refine ew_iald (j := 128) d_Pf_areColumnsInField_18 rfl (rfl) (by decide) (by decide) ?_
      refine en_callS (As := [.int (M 22 128)]) (st := []) (st1 := [.int (ew_b (sp_in (M 22 128) 12289))]) d_Pf_areColumnsInField_19 k_Fi_holds tw_516 tw_246 rfl (Nat.le_of_ble_eq_true rfl) rfl (Nat.le_of_ble_eq_true rfl) rfl rfl (c_Fi_holds l g _ (ew_SH L) M (M 22 128)) rfl ?_
      refine en_b_eq (tgt := 39) d_Pf_areColumnsInField_22 (by decide) (fun h22_1 => ?_) (fun h22_1 => ?_)
      · refine ew_iconst (v := nI 0) d_Pf_areColumnsInField_39 (by decide) ?_
        exact ew_zret d_Pf_areColumnsInField_40 rfl (by decide) (⟨by rw [show sp_cB2 (M 22) = false from by (unfold sp_cB2; rw [h22, h36, h22_1]; first | rfl | done)]; rfl, rfl, rfl⟩)
      · refine ew_aload_n d_Pf_areColumnsInField_25 rfl ?_
        refine ew_getr (ci := 4) (f := 0) d_Pf_areColumnsInField_26 rfl rfl rfl tw_108 ?_
        refine ew_iload_n d_Pf_areColumnsInField_29 rfl ?_
        refine ew_iconst (v := nI 1) d_Pf_areColumnsInField_30 (by decide) ?_
        refine en_iadd d_Pf_areColumnsInField_31 ?_
        refine en_eq rfl (show _ = [.int (nI 129), .ref 22] from rfl) rfl ?_
        refine ew_iald (j := 129) d_Pf_areColumnsInField_32 rfl (rfl) (by decide) (by decide) ?_
        refine en_callS (As := [.int (M 22 129)]) (st := []) (st1 := [.int (ew_b (sp_in (M 22 129) 12289))]) d_Pf_areColumnsInField_33 k_Fi_holds tw_516 tw_246 rfl (Nat.le_of_ble_eq_true rfl) rfl (Nat.le_of_ble_eq_true rfl) rfl rfl (c_Fi_holds l g _ (ew_SH L) M (M 22 129)) rfl ?_
        refine en_b_ne (tgt := 41) d_Pf_areColumnsInField_36 (by decide) (fun h36_1 => ?_) (fun h36_1 => ?_)
        · refine en_inc (ls' := [.ref 21, .int (nI 2), .int (nI 2), .int (nI 128)]) d_Pf_areColumnsInField_41 rfl rfl ?_
          refine ew_goto (tgt := 2) d_Pf_areColumnsInField_44 (by decide) ?_
          refine ew_iload_n d_Pf_areColumnsInField_2 rfl ?_
          refine ew_iconst (v := nI 4) d_Pf_areColumnsInField_3 (by decide) ?_
          refine en_icmp_ge (tgt := 47) d_Pf_areColumnsInField_4 (by decide) (by first | with_reducible assumption | with_reducible exact ep_lt _ | with_reducible exact sp_its_lt _ _ _ | with_reducible exact tb_l_rt _ | with_reducible exact tb_l_x _ | with_reducible exact tb_l_o0 _ | with_reducible exact tb_l_o1 _ | with_reducible exact tb_l_va _ | with_reducible exact tb_l_ll _ | with_reducible exact tb_l_cf _ | with_reducible exact tb_l_kf _ | with_reducible exact sp_ts_lt _ _ _ _ | with_reducible exact sp_w_lt _ _ | with_reducible exact sp_cs_lt _ _ _ _ _ | with_reducible exact sp_cb_lt _ _ _ _ _ | with_reducible exact sp_ch_lt _ | with_reducible exact sp_bf_lt _ _ | omega) (by first | with_reducible assumption | with_reducible exact ep_lt _ | with_reducible exact sp_its_lt _ _ _ | with_reducible exact tb_l_rt _ | with_reducible exact tb_l_x _ | with_reducible exact tb_l_o0 _ | with_reducible exact tb_l_o1 _ | with_reducible exact tb_l_va _ | with_reducible exact tb_l_ll _ | with_reducible exact tb_l_cf _ | with_reducible exact tb_l_kf _ | with_reducible exact sp_ts_lt _ _ _ _ | with_reducible exact sp_w_lt _ _ | with_reducible exact sp_cs_lt _ _ _ _ _ | with_reducible exact sp_cb_lt _ _ _ _ _ | with_reducible exact sp_ch_lt _ | with_reducible exact sp_bf_lt _ _ | omega) (fun h4_2 => by exact absurd h4_2 (by decide)) (fun h4_2 => ?_)
          refine ew_iload_n d_Pf_areColumnsInField_7 rfl ?_
          refine ew_iload_n d_Pf_areColumnsInField_8 rfl ?_
          refine en_callS (As := [.int (nI 2), .int (nI 2)]) (st := []) (st1 := [.int (nI 135)]) d_Pf_areColumnsInField_9 k_Pf_columnStart tw_521 tw_473 rfl (Nat.le_of_ble_eq_true rfl) rfl (Nat.le_of_ble_eq_true rfl) rfl rfl (c_Pf_columnStart l g _ L M 2 2) rfl ?_
          refine en_istore_n (ls' := [.ref 21, .int (nI 2), .int (nI 2), .int (nI 135)]) d_Pf_areColumnsInField_12 (Nat.le_of_ble_eq_true rfl) rfl ?_
          refine ew_aload_n d_Pf_areColumnsInField_13 rfl ?_
          refine ew_getr (ci := 4) (f := 0) d_Pf_areColumnsInField_14 rfl rfl rfl tw_108 ?_
          refine ew_iload_n d_Pf_areColumnsInField_17 rfl ?_
          refine ew_iald (j := 135) d_Pf_areColumnsInField_18 rfl (rfl) (by decide) (by decide) ?_
          refine en_callS (As := [.int (M 22 135)]) (st := []) (st1 := [.int (ew_b (sp_in (M 22 135) 12289))]) d_Pf_areColumnsInField_19 k_Fi_holds tw_516 tw_246 rfl (Nat.le_of_ble_eq_true rfl) rfl (Nat.le_of_ble_eq_true rfl) rfl rfl (c_Fi_holds l g _ (ew_SH L) M (M 22 135)) rfl ?_
          refine en_b_eq (tgt := 39) d_Pf_areColumnsInField_22 (by decide) (fun h22_2 => ?_) (fun h22_2 => ?_)
          · refine ew_iconst (v := nI 0) d_Pf_areColumnsInField_39 (by decide) ?_
            exact ew_zret d_Pf_areColumnsInField_40 rfl (by decide) (⟨by rw [show sp_cB2 (M 22) = false from by (unfold sp_cB2; rw [h22, h36, h22_1, h36_1, h22_2]; first | rfl | done)]; rfl, rfl, rfl⟩)
          · refine ew_aload_n d_Pf_areColumnsInField_25 rfl ?_
            refine ew_getr (ci := 4) (f := 0) d_Pf_areColumnsInField_26 rfl rfl rfl tw_108 ?_
            refine ew_iload_n d_Pf_areColumnsInField_29 rfl ?_
            refine ew_iconst (v := nI 1) d_Pf_areColumnsInField_30 (by decide) ?_
            refine en_iadd d_Pf_areColumnsInField_31 ?_
            refine en_eq rfl (show _ = [.int (nI 136), .ref 22] from rfl) rfl ?_
            refine ew_iald (j := 136) d_Pf_areColumnsInField_32 rfl (rfl) (by decide) (by decide) ?_
            refine en_callS (As := [.int (M 22 136)]) (st := []) (st1 := [.int (ew_b (sp_in (M 22 136) 12289))]) d_Pf_areColumnsInField_33 k_Fi_holds tw_516 tw_246 rfl (Nat.le_of_ble_eq_true rfl) rfl (Nat.le_of_ble_eq_true rfl) rfl rfl (c_Fi_holds l g _ (ew_SH L) M (M 22 136)) rfl ?_
            refine en_b_ne (tgt := 41) d_Pf_areColumnsInField_36 (by decide) (fun h36_2 => ?_) (fun h36_2 => ?_)
            · refine en_inc (ls' := [.ref 21, .int (nI 2), .int (nI 3), .int (nI 135)]) d_Pf_areColumnsInField_41 rfl rfl ?_
              refine ew_goto (tgt := 2) d_Pf_areColumnsInField_44 (by decide) ?_
              refine ew_iload_n d_Pf_areColumnsInField_2 rfl ?_
              refine ew_iconst (v := nI 4) d_Pf_areColumnsInField_3 (by decide) ?_
              refine en_icmp_ge (tgt := 47) d_Pf_areColumnsInField_4 (by decide) (by first | with_reducible assumption | with_reducible exact ep_lt _ | with_reducible exact sp_its_lt _ _ _ | with_reducible exact tb_l_rt _ | with_reducible exact tb_l_x _ | with_reducible exact tb_l_o0 _ | with_reducible exact tb_l_o1 _ | with_reducible exact tb_l_va _ | with_reducible exact tb_l_ll _ | with_reducible exact tb_l_cf _ | with_reducible exact tb_l_kf _ | with_reducible exact sp_ts_lt _ _ _ _ | with_reducible exact sp_w_lt _ _ | with_reducible exact sp_cs_lt _ _ _ _ _ | with_reducible exact sp_cb_lt _ _ _ _ _ | with_reducible exact sp_ch_lt _ | with_reducible exact sp_bf_lt _ _ | omega) (by first | with_reducible assumption | with_reducible exact ep_lt _ | with_reducible exact sp_its_lt _ _ _ | with_reducible exact tb_l_rt _ | with_reducible exact tb_l_x _ | with_reducible exact tb_l_o0 _ | with_reducible exact tb_l_o1 _ | with_reducible exact tb_l_va _ | with_reducible exact tb_l_ll _ | with_reducible exact tb_l_cf _ | with_reducible exact tb_l_kf _ | with_reducible exact sp_ts_lt _ _ _ _ | with_reducible exact sp_w_lt _ _ | with_reducible exact sp_cs_lt _ _ _ _ _ | with_reducible exact sp_cb_lt _ _ _ _ _ | with_reducible exact sp_ch_lt _ | with_reducible exact sp_bf_lt _ _ | omega) (fun h4_3 => by exact absurd h4_3 (by decide)) (fun h4_3 => ?_)
              refine ew_iload_n d_Pf_areColumnsInField_7 rfl ?_
              refine ew_iload_n d_Pf_areColumnsInField_8 rfl ?_
              refine en_callS (As := [.int (nI 2), .int (nI 3)]) (st := []) (st1 := [.int (nI 142)]) d_Pf_areColumnsInField_9 k_Pf_columnStart tw_521 tw_473 rfl (Nat.le_of_ble_eq_true rfl) rfl (Nat.le_of_ble_eq_true rfl) rfl rfl (c_Pf_columnStart l g _ L M 2 3) rfl ?_
              refine en_istore_n (ls' := [.ref 21, .int (nI 2), .int (nI 3), .int (nI 142)]) d_Pf_areColumnsInField_12 (Nat.le_of_ble_eq_true rfl) rfl ?_
              refine ew_aload_n d_Pf_areColumnsInField_13 rfl ?_
              refine ew_getr (ci := 4) (f := 0) d_Pf_areColumnsInField_14 rfl rfl rfl tw_108 ?_
              refine ew_iload_n d_Pf_areColumnsInField_17 rfl ?_
              refine ew_iald (j := 142) d_Pf_areColumnsInField_18 rfl (rfl) (by decide) (by decide) ?_
              refine en_callS (As := [.int (M 22 142)]) (st := []) (st1 := [.int (ew_b (sp_in (M 22 142) 12289))]) d_Pf_areColumnsInField_19 k_Fi_holds tw_516 tw_246 rfl (Nat.le_of_ble_eq_true rfl) rfl (Nat.le_of_ble_eq_true rfl) rfl rfl (c_Fi_holds l g _ (ew_SH L) M (M 22 142)) rfl ?_
              refine en_b_eq (tgt := 39) d_Pf_areColumnsInField_22 (by decide) (fun h22_3 => ?_) (fun h22_3 => ?_)
              · refine ew_iconst (v := nI 0) d_Pf_areColumnsInField_39 (by decide) ?_
                exact ew_zret d_Pf_areColumnsInField_40 rfl (by decide) (⟨by rw [show sp_cB2 (M 22) = false from by (unfold sp_cB2; rw [h22, h36, h22_1, h36_1, h22_2, h36_2, h22_3]; first | rfl | done)]; rfl, rfl, rfl⟩)
              · refine ew_aload_n d_Pf_areColumnsInField_25 rfl ?_
                refine ew_getr (ci := 4) (f := 0) d_Pf_areColumnsInField_26 rfl rfl rfl tw_108 ?_
                refine ew_iload_n d_Pf_areColumnsInField_29 rfl ?_
                refine ew_iconst (v := nI 1) d_Pf_areColumnsInField_30 (by decide) ?_
                refine en_iadd d_Pf_areColumnsInField_31 ?_
                refine en_eq rfl (show _ = [.int (nI 143), .ref 22] from rfl) rfl ?_
                refine ew_iald (j := 143) d_Pf_areColumnsInField_32 rfl (rfl) (by decide) (by decide) ?_
                refine en_callS (As := [.int (M 22 143)]) (st := []) (st1 := [.int (ew_b (sp_in (M 22 143) 12289))]) d_Pf_areColumnsInField_33 k_Fi_holds tw_516 tw_246 rfl (Nat.le_of_ble_eq_true rfl) rfl (Nat.le_of_ble_eq_true rfl) rfl rfl (c_Fi_holds l g _ (ew_SH L) M (M 22 143)) rfl ?_
                refine en_b_ne (tgt := 41) d_Pf_areColumnsInField_36 (by decide) (fun h36_3 => ?_) (fun h36_3 => ?_)
                · refine en_inc (ls' := [.ref 21, .int (nI 2), .int (nI 4), .int (nI 142)]) d_Pf_areColumnsInField_41 rfl rfl ?_
                  refine ew_goto (tgt := 2) d_Pf_areColumnsInField_44 (by decide) ?_
                  refine ew_iload_n d_Pf_areColumnsInField_2 rfl ?_
                  refine ew_iconst (v := nI 4) d_Pf_areColumnsInField_3 (by decide) ?_
                  refine en_icmp_ge (tgt := 47) d_Pf_areColumnsInField_4 (by decide) (by first | with_reducible assumption | with_reducible exact ep_lt _ | with_reducible exact sp_its_lt _ _ _ | with_reducible exact tb_l_rt _ | with_reducible exact tb_l_x _ | with_reducible exact tb_l_o0 _ | with_reducible exact tb_l_o1 _ | with_reducible exact tb_l_va _ | with_reducible exact tb_l_ll _ | with_reducible exact tb_l_cf _ | with_reducible exact tb_l_kf _ | with_reducible exact sp_ts_lt _ _ _ _ | with_reducible exact sp_w_lt _ _ | with_reducible exact sp_cs_lt _ _ _ _ _ | with_reducible exact sp_cb_lt _ _ _ _ _ | with_reducible exact sp_ch_lt _ | with_reducible exact sp_bf_lt _ _ | omega) (by first | with_reducible assumption | with_reducible exact ep_lt _ | with_reducible exact sp_its_lt _ _ _ | with_reducible exact tb_l_rt _ | with_reducible exact tb_l_x _ | with_reducible exact tb_l_o0 _ | with_reducible exact tb_l_o1 _ | with_reducible exact tb_l_va _ | with_reducible exact tb_l_ll _ | with_reducible exact tb_l_cf _ | with_reducible exact tb_l_kf _ | with_reducible exact sp_ts_lt _ _ _ _ | with_reducible exact sp_w_lt _ _ | with_reducible exact sp_cs_lt _ _ _ _ _ | with_reducible exact sp_cb_lt _ _ _ _ _ | with_reducible exact sp_ch_lt _ | with_reducible exact sp_bf_lt _ _ | omega) (fun h4_4 => ?_) (fun h4_4 => by exact absurd h4_4 (by decide))
                  refine ew_iconst (v := nI 1) d_Pf_areColumnsInField_47 (by decide) ?_
                  exact ew_zret d_Pf_areColumnsInField_48 rfl (by decide) (⟨by rw [show sp_cB2 (M 22) = true from by (unfold sp_cB2; rw [h22, h36, h22_1, h36_1, h22_2, h36_2, h22_3, h36_3]; first | rfl | done)]; rfl, rfl, rfl⟩)
                · refine ew_iconst (v := nI 0) d_Pf_areColumnsInField_39 (by decide) ?_
                  exact ew_zret d_Pf_areColumnsInField_40 rfl (by decide) (⟨by rw [show sp_cB2 (M 22) = false from by (unfold sp_cB2; rw [h22, h36, h22_1, h36_1, h22_2, h36_2, h22_3, h36_3]; first | rfl | done)]; rfl, rfl, rfl⟩)
            · refine ew_iconst (v := nI 0) d_Pf_areColumnsInField_39 (by decide) ?_
              exact ew_zret d_Pf_areColumnsInField_40 rfl (by decide) (⟨by rw [show sp_cB2 (M 22) = false from by (unfold sp_cB2; rw [h22, h36, h22_1, h36_1, h22_2, h36_2]; first | rfl | done)]; rfl, rfl, rfl⟩)
        · refine ew_iconst (v := nI 0) d_Pf_areColumnsInField_39 (by decide) ?_
          exact ew_zret d_Pf_areColumnsInField_40 rfl (by decide) (⟨by rw [show sp_cB2 (M 22) = false from by (unfold sp_cB2; rw [h22, h36, h22_1, h36_1]; first | rfl | done)]; rfl, rfl, rfl⟩)
    · refine ew_iconst (v := nI 0) d_Pf_areColumnsInField_39 (by decide) ?_
      exact ew_zret d_Pf_areColumnsInField_40 rfl (by decide) (⟨by rw [show sp_cB2 (M 22) = false from by (unfold sp_cB2; rw [h22, h36]; first | rfl | done)]; rfl, rfl, rfl⟩)
set_option maxRecDepth 100000 in
theorem c_Pf_areLayersInField2 (l : Launch) (g : ew_G) (d L : Nat) (M : ew_M) (hs : sp_st M) :
    Ew l g (d + 1) 0 0 m_Pf_areLayersInField 0 [.ref 21, .int (nI 2), .retAddr 0, .retAddr 0] [] (ew_SH L) M (ew_q (some (.int (ew_b (sp_lB2 (M 22))))) (ew_SH L) M) := by
  refine ew_iconst (v := nI 0) d_Pf_areLayersInField_0 (by decide) ?_
  refine en_istore_n (ls' := [.ref 21, .int (nI 2), .int (nI 0), .retAddr 0]) d_Pf_areLayersInField_1 (Nat.le_of_ble_eq_true rfl) rfl ?_
  refine ew_iload_n d_Pf_areLayersInField_2 rfl ?_
  refine ew_iconst (v := nI 3) d_Pf_areLayersInField_3 (by decide) ?_
  refine en_icmp_ge (tgt := 45) d_Pf_areLayersInField_4 (by decide) (by first | with_reducible assumption | with_reducible exact ep_lt _ | with_reducible exact sp_its_lt _ _ _ | with_reducible exact tb_l_rt _ | with_reducible exact tb_l_x _ | with_reducible exact tb_l_o0 _ | with_reducible exact tb_l_o1 _ | with_reducible exact tb_l_va _ | with_reducible exact tb_l_ll _ | with_reducible exact tb_l_cf _ | with_reducible exact tb_l_kf _ | with_reducible exact sp_ts_lt _ _ _ _ | with_reducible exact sp_w_lt _ _ | with_reducible exact sp_cs_lt _ _ _ _ _ | with_reducible exact sp_cb_lt _ _ _ _ _ | with_reducible exact sp_ch_lt _ | with_reducible exact sp_bf_lt _ _ | omega) (by first | with_reducible assumption | with_reducible exact ep_lt _ | with_reducible exact sp_its_lt _ _ _ | with_reducible exact tb_l_rt _ | with_reducible exact tb_l_x _ | with_reducible exact tb_l_o0 _ | with_reducible exact tb_l_o1 _ | with_reducible exact tb_l_va _ | with_reducible exact tb_l_ll _ | with_reducible exact tb_l_cf _ | with_reducible exact tb_l_kf _ | with_reducible exact sp_ts_lt _ _ _ _ | with_reducible exact sp_w_lt _ _ | with_reducible exact sp_cs_lt _ _ _ _ _ | with_reducible exact sp_cb_lt _ _ _ _ _ | with_reducible exact sp_ch_lt _ | with_reducible exact sp_bf_lt _ _ | omega) (fun h4 => by exact absurd h4 (by decide)) (fun h4 => ?_)
  refine ew_iconst (v := nI 0) d_Pf_areLayersInField_7 (by decide) ?_
  refine en_istore_n (ls' := [.ref 21, .int (nI 2), .int (nI 0), .int (nI 0)]) d_Pf_areLayersInField_8 (Nat.le_of_ble_eq_true rfl) rfl ?_
  refine ew_iload_n d_Pf_areLayersInField_9 rfl ?_
  refine ew_iconst (v := nI 2) d_Pf_areLayersInField_10 (by decide) ?_
  refine en_icmp_ge (tgt := 39) d_Pf_areLayersInField_11 (by decide) (by first | with_reducible assumption | with_reducible exact ep_lt _ | with_reducible exact sp_its_lt _ _ _ | with_reducible exact tb_l_rt _ | with_reducible exact tb_l_x _ | with_reducible exact tb_l_o0 _ | with_reducible exact tb_l_o1 _ | with_reducible exact tb_l_va _ | with_reducible exact tb_l_ll _ | with_reducible exact tb_l_cf _ | with_reducible exact tb_l_kf _ | with_reducible exact sp_ts_lt _ _ _ _ | with_reducible exact sp_w_lt _ _ | with_reducible exact sp_cs_lt _ _ _ _ _ | with_reducible exact sp_cb_lt _ _ _ _ _ | with_reducible exact sp_ch_lt _ | with_reducible exact sp_bf_lt _ _ | omega) (by first | with_reducible assumption | with_reducible exact ep_lt _ | with_reducible exact sp_its_lt _ _ _ | with_reducible exact tb_l_rt _ | with_reducible exact tb_l_x _ | with_reducible exact tb_l_o0 _ | with_reducible exact tb_l_o1 _ | with_reducible exact tb_l_va _ | with_reducible exact tb_l_ll _ | with_reducible exact tb_l_cf _ | with_reducible exact tb_l_kf _ | with_reducible exact sp_ts_lt _ _ _ _ | with_reducible exact sp_w_lt _ _ | with_reducible exact sp_cs_lt _ _ _ _ _ | with_reducible exact sp_cb_lt _ _ _ _ _ | with_reducible exact sp_ch_lt _ | with_reducible exact sp_bf_lt _ _ | omega) (fun h11 => by exact absurd h11 (by decide)) (fun h11 => ?_)
  refine ew_aload_n d_Pf_areLayersInField_14 rfl ?_
  refine ew_getr (ci := 4) (f := 0) d_Pf_areLayersInField_15 rfl rfl rfl tw_108 ?_
  refine ew_iload_n d_Pf_areLayersInField_18 rfl ?_
  refine ew_iload_n d_Pf_areLayersInField_19 rfl ?_
  refine ew_iload_n d_Pf_areLayersInField_20 rfl ?_
  refine en_callS (As := [.int (nI 2), .int (nI 0), .int (nI 0)]) (st := [.ref 22]) (st1 := [.int (nI 149), .ref 22]) d_Pf_areLayersInField_21 k_Pf_layerStart tw_526 tw_488 rfl (Nat.le_of_ble_eq_true rfl) rfl (Nat.le_of_ble_eq_true rfl) rfl rfl (c_Pf_layerStart0 l g _ L M (hs) 2 0) rfl ?_
  refine ew_iald (j := 149) d_Pf_areLayersInField_24 rfl (rfl) (by decide) (by decide) ?_
  refine en_callS (As := [.int (M 22 149)]) (st := []) (st1 := [.int (ew_b (sp_in (M 22 149) 12289))]) d_Pf_areLayersInField_25 k_Fi_holds tw_516 tw_246 rfl (Nat.le_of_ble_eq_true rfl) rfl (Nat.le_of_ble_eq_true rfl) rfl rfl (c_Fi_holds l g _ (ew_SH L) M (M 22 149)) rfl ?_
  refine en_b_ne (tgt := 33) d_Pf_areLayersInField_28 (by decide) (fun h28 => ?_) (fun h28 => ?_)
  · refine en_inc (ls' := [.ref 21, .int (nI 2), .int (nI 0), .int (nI 1)]) d_Pf_areLayersInField_33 rfl rfl ?_
    refine ew_goto (tgt := 9) d_Pf_areLayersInField_36 (by decide) ?_
    refine ew_iload_n d_Pf_areLayersInField_9 rfl ?_
    refine ew_iconst (v := nI 2) d_Pf_areLayersInField_10 (by decide) ?_
    refine en_icmp_ge (tgt := 39) d_Pf_areLayersInField_11 (by decide) (by first | with_reducible assumption | with_reducible exact ep_lt _ | with_reducible exact sp_its_lt _ _ _ | with_reducible exact tb_l_rt _ | with_reducible exact tb_l_x _ | with_reducible exact tb_l_o0 _ | with_reducible exact tb_l_o1 _ | with_reducible exact tb_l_va _ | with_reducible exact tb_l_ll _ | with_reducible exact tb_l_cf _ | with_reducible exact tb_l_kf _ | with_reducible exact sp_ts_lt _ _ _ _ | with_reducible exact sp_w_lt _ _ | with_reducible exact sp_cs_lt _ _ _ _ _ | with_reducible exact sp_cb_lt _ _ _ _ _ | with_reducible exact sp_ch_lt _ | with_reducible exact sp_bf_lt _ _ | omega) (by first | with_reducible assumption | with_reducible exact ep_lt _ | with_reducible exact sp_its_lt _ _ _ | with_reducible exact tb_l_rt _ | with_reducible exact tb_l_x _ | with_reducible exact tb_l_o0 _ | with_reducible exact tb_l_o1 _ | with_reducible exact tb_l_va _ | with_reducible exact tb_l_ll _ | with_reducible exact tb_l_cf _ | with_reducible exact tb_l_kf _ | with_reducible exact sp_ts_lt _ _ _ _ | with_reducible exact sp_w_lt _ _ | with_reducible exact sp_cs_lt _ _ _ _ _ | with_reducible exact sp_cb_lt _ _ _ _ _ | with_reducible exact sp_ch_lt _ | with_reducible exact sp_bf_lt _ _ | omega) (fun h11_1 => by exact absurd h11_1 (by decide)) (fun h11_1 => ?_)
    refine ew_aload_n d_Pf_areLayersInField_14 rfl ?_
    refine ew_getr (ci := 4) (f := 0) d_Pf_areLayersInField_15 rfl rfl rfl tw_108 ?_
    refine ew_iload_n d_Pf_areLayersInField_18 rfl ?_
    refine ew_iload_n d_Pf_areLayersInField_19 rfl ?_
    refine ew_iload_n d_Pf_areLayersInField_20 rfl ?_
    refine en_callS (As := [.int (nI 2), .int (nI 0), .int (nI 1)]) (st := [.ref 22]) (st1 := [.int (nI 155), .ref 22]) d_Pf_areLayersInField_21 k_Pf_layerStart tw_526 tw_488 rfl (Nat.le_of_ble_eq_true rfl) rfl (Nat.le_of_ble_eq_true rfl) rfl rfl (c_Pf_layerStart0 l g _ L M (hs) 2 1) rfl ?_
    refine ew_iald (j := 155) d_Pf_areLayersInField_24 rfl (rfl) (by decide) (by decide) ?_
    refine en_callS (As := [.int (M 22 155)]) (st := []) (st1 := [.int (ew_b (sp_in (M 22 155) 12289))]) d_Pf_areLayersInField_25 k_Fi_holds tw_516 tw_246 rfl (Nat.le_of_ble_eq_true rfl) rfl (Nat.le_of_ble_eq_true rfl) rfl rfl (c_Fi_holds l g _ (ew_SH L) M (M 22 155)) rfl ?_
    refine en_b_ne (tgt := 33) d_Pf_areLayersInField_28 (by decide) (fun h28_1 => ?_) (fun h28_1 => ?_)
    · refine en_inc (ls' := [.ref 21, .int (nI 2), .int (nI 0), .int (nI 2)]) d_Pf_areLayersInField_33 rfl rfl ?_
      refine ew_goto (tgt := 9) d_Pf_areLayersInField_36 (by decide) ?_
      refine ew_iload_n d_Pf_areLayersInField_9 rfl ?_
      refine ew_iconst (v := nI 2) d_Pf_areLayersInField_10 (by decide) ?_
      refine en_icmp_ge (tgt := 39) d_Pf_areLayersInField_11 (by decide) (by first | with_reducible assumption | with_reducible exact ep_lt _ | with_reducible exact sp_its_lt _ _ _ | with_reducible exact tb_l_rt _ | with_reducible exact tb_l_x _ | with_reducible exact tb_l_o0 _ | with_reducible exact tb_l_o1 _ | with_reducible exact tb_l_va _ | with_reducible exact tb_l_ll _ | with_reducible exact tb_l_cf _ | with_reducible exact tb_l_kf _ | with_reducible exact sp_ts_lt _ _ _ _ | with_reducible exact sp_w_lt _ _ | with_reducible exact sp_cs_lt _ _ _ _ _ | with_reducible exact sp_cb_lt _ _ _ _ _ | with_reducible exact sp_ch_lt _ | with_reducible exact sp_bf_lt _ _ | omega) (by first | with_reducible assumption | with_reducible exact ep_lt _ | with_reducible exact sp_its_lt _ _ _ | with_reducible exact tb_l_rt _ | with_reducible exact tb_l_x _ | with_reducible exact tb_l_o0 _ | with_reducible exact tb_l_o1 _ | with_reducible exact tb_l_va _ | with_reducible exact tb_l_ll _ | with_reducible exact tb_l_cf _ | with_reducible exact tb_l_kf _ | with_reducible exact sp_ts_lt _ _ _ _ | with_reducible exact sp_w_lt _ _ | with_reducible exact sp_cs_lt _ _ _ _ _ | with_reducible exact sp_cb_lt _ _ _ _ _ | with_reducible exact sp_ch_lt _ | with_reducible exact sp_bf_lt _ _ | omega) (fun h11_2 => ?_) (fun h11_2 => by exact absurd h11_2 (by decide))
      refine en_inc (ls' := [.ref 21, .int (nI 2), .int (nI 1), .int (nI 2)]) d_Pf_areLayersInField_39 rfl rfl ?_
      refine ew_goto (tgt := 2) d_Pf_areLayersInField_42 (by decide) ?_
      refine ew_iload_n d_Pf_areLayersInField_2 rfl ?_
      refine ew_iconst (v := nI 3) d_Pf_areLayersInField_3 (by decide) ?_
      refine en_icmp_ge (tgt := 45) d_Pf_areLayersInField_4 (by decide) (by first | with_reducible assumption | with_reducible exact ep_lt _ | with_reducible exact sp_its_lt _ _ _ | with_reducible exact tb_l_rt _ | with_reducible exact tb_l_x _ | with_reducible exact tb_l_o0 _ | with_reducible exact tb_l_o1 _ | with_reducible exact tb_l_va _ | with_reducible exact tb_l_ll _ | with_reducible exact tb_l_cf _ | with_reducible exact tb_l_kf _ | with_reducible exact sp_ts_lt _ _ _ _ | with_reducible exact sp_w_lt _ _ | with_reducible exact sp_cs_lt _ _ _ _ _ | with_reducible exact sp_cb_lt _ _ _ _ _ | with_reducible exact sp_ch_lt _ | with_reducible exact sp_bf_lt _ _ | omega) (by first | with_reducible assumption | with_reducible exact ep_lt _ | with_reducible exact sp_its_lt _ _ _ | with_reducible exact tb_l_rt _ | with_reducible exact tb_l_x _ | with_reducible exact tb_l_o0 _ | with_reducible exact tb_l_o1 _ | with_reducible exact tb_l_va _ | with_reducible exact tb_l_ll _ | with_reducible exact tb_l_cf _ | with_reducible exact tb_l_kf _ | with_reducible exact sp_ts_lt _ _ _ _ | with_reducible exact sp_w_lt _ _ | with_reducible exact sp_cs_lt _ _ _ _ _ | with_reducible exact sp_cb_lt _ _ _ _ _ | with_reducible exact sp_ch_lt _ | with_reducible exact sp_bf_lt _ _ | omega) (fun h4_1 => by exact absurd h4_1 (by decide)) (fun h4_1 => ?_)
      refine ew_iconst (v := nI 0) d_Pf_areLayersInField_7 (by decide) ?_
      refine en_istore_n (ls' := [.ref 21, .int (nI 2), .int (nI 1), .int (nI 0)]) d_Pf_areLayersInField_8 (Nat.le_of_ble_eq_true rfl) rfl ?_
      refine ew_iload_n d_Pf_areLayersInField_9 rfl ?_
      refine ew_iconst (v := nI 2) d_Pf_areLayersInField_10 (by decide) ?_
      refine en_icmp_ge (tgt := 39) d_Pf_areLayersInField_11 (by decide) (by first | with_reducible assumption | with_reducible exact ep_lt _ | with_reducible exact sp_its_lt _ _ _ | with_reducible exact tb_l_rt _ | with_reducible exact tb_l_x _ | with_reducible exact tb_l_o0 _ | with_reducible exact tb_l_o1 _ | with_reducible exact tb_l_va _ | with_reducible exact tb_l_ll _ | with_reducible exact tb_l_cf _ | with_reducible exact tb_l_kf _ | with_reducible exact sp_ts_lt _ _ _ _ | with_reducible exact sp_w_lt _ _ | with_reducible exact sp_cs_lt _ _ _ _ _ | with_reducible exact sp_cb_lt _ _ _ _ _ | with_reducible exact sp_ch_lt _ | with_reducible exact sp_bf_lt _ _ | omega) (by first | with_reducible assumption | with_reducible exact ep_lt _ | with_reducible exact sp_its_lt _ _ _ | with_reducible exact tb_l_rt _ | with_reducible exact tb_l_x _ | with_reducible exact tb_l_o0 _ | with_reducible exact tb_l_o1 _ | with_reducible exact tb_l_va _ | with_reducible exact tb_l_ll _ | with_reducible exact tb_l_cf _ | with_reducible exact tb_l_kf _ | with_reducible exact sp_ts_lt _ _ _ _ | with_reducible exact sp_w_lt _ _ | with_reducible exact sp_cs_lt _ _ _ _ _ | with_reducible exact sp_cb_lt _ _ _ _ _ | with_reducible exact sp_ch_lt _ | with_reducible exact sp_bf_lt _ _ | omega) (fun h11_3 => by exact absurd h11_3 (by decide)) (fun h11_3 => ?_)
      refine ew_aload_n d_Pf_areLayersInField_14 rfl ?_
      refine ew_getr (ci := 4) (f := 0) d_Pf_areLayersInField_15 rfl rfl rfl tw_108 ?_
      refine ew_iload_n d_Pf_areLayersInField_18 rfl ?_
      refine ew_iload_n d_Pf_areLayersInField_19 rfl ?_
      refine ew_iload_n d_Pf_areLayersInField_20 rfl ?_
      refine en_callS (As := [.int (nI 2), .int (nI 1), .int (nI 0)]) (st := [.ref 22]) (st1 := [.int (nI 161), .ref 22]) d_Pf_areLayersInField_21 k_Pf_layerStart tw_526 tw_488 rfl (Nat.le_of_ble_eq_true rfl) rfl (Nat.le_of_ble_eq_true rfl) rfl rfl (c_Pf_layerStart1 l g _ L M (hs) 2 0) rfl ?_
      refine ew_iald (j := 161) d_Pf_areLayersInField_24 rfl (rfl) (by decide) (by decide) ?_
      refine en_callS (As := [.int (M 22 161)]) (st := []) (st1 := [.int (ew_b (sp_in (M 22 161) 12289))]) d_Pf_areLayersInField_25 k_Fi_holds tw_516 tw_246 rfl (Nat.le_of_ble_eq_true rfl) rfl (Nat.le_of_ble_eq_true rfl) rfl rfl (c_Fi_holds l g _ (ew_SH L) M (M 22 161)) rfl ?_
      refine en_b_ne (tgt := 33) d_Pf_areLayersInField_28 (by decide) (fun h28_2 => ?_) (fun h28_2 => ?_)
      · refine en_inc (ls' := [.ref 21, .int (nI 2), .int (nI 1), .int (nI 1)]) d_Pf_areLayersInField_33 rfl rfl ?_
        refine ew_goto (tgt := 9) d_Pf_areLayersInField_36 (by decide) ?_
        refine ew_iload_n d_Pf_areLayersInField_9 rfl ?_
        refine ew_iconst (v := nI 2) d_Pf_areLayersInField_10 (by decide) ?_
        refine en_icmp_ge (tgt := 39) d_Pf_areLayersInField_11 (by decide) (by first | with_reducible assumption | with_reducible exact ep_lt _ | with_reducible exact sp_its_lt _ _ _ | with_reducible exact tb_l_rt _ | with_reducible exact tb_l_x _ | with_reducible exact tb_l_o0 _ | with_reducible exact tb_l_o1 _ | with_reducible exact tb_l_va _ | with_reducible exact tb_l_ll _ | with_reducible exact tb_l_cf _ | with_reducible exact tb_l_kf _ | with_reducible exact sp_ts_lt _ _ _ _ | with_reducible exact sp_w_lt _ _ | with_reducible exact sp_cs_lt _ _ _ _ _ | with_reducible exact sp_cb_lt _ _ _ _ _ | with_reducible exact sp_ch_lt _ | with_reducible exact sp_bf_lt _ _ | omega) (by first | with_reducible assumption | with_reducible exact ep_lt _ | with_reducible exact sp_its_lt _ _ _ | with_reducible exact tb_l_rt _ | with_reducible exact tb_l_x _ | with_reducible exact tb_l_o0 _ | with_reducible exact tb_l_o1 _ | with_reducible exact tb_l_va _ | with_reducible exact tb_l_ll _ | with_reducible exact tb_l_cf _ | with_reducible exact tb_l_kf _ | with_reducible exact sp_ts_lt _ _ _ _ | with_reducible exact sp_w_lt _ _ | with_reducible exact sp_cs_lt _ _ _ _ _ | with_reducible exact sp_cb_lt _ _ _ _ _ | with_reducible exact sp_ch_lt _ | with_reducible exact sp_bf_lt _ _ | omega) (fun h11_4 => by exact absurd h11_4 (by decide)) (fun h11_4 => ?_)
        refine ew_aload_n d_Pf_areLayersInField_14 rfl ?_
        refine ew_getr (ci := 4) (f := 0) d_Pf_areLayersInField_15 rfl rfl rfl tw_108 ?_
        refine ew_iload_n d_Pf_areLayersInField_18 rfl ?_
        refine ew_iload_n d_Pf_areLayersInField_19 rfl ?_
        refine ew_iload_n d_Pf_areLayersInField_20 rfl ?_
        refine en_callS (As := [.int (nI 2), .int (nI 1), .int (nI 1)]) (st := [.ref 22]) (st1 := [.int (nI 166), .ref 22]) d_Pf_areLayersInField_21 k_Pf_layerStart tw_526 tw_488 rfl (Nat.le_of_ble_eq_true rfl) rfl (Nat.le_of_ble_eq_true rfl) rfl rfl (c_Pf_layerStart1 l g _ L M (hs) 2 1) rfl ?_
        refine ew_iald (j := 166) d_Pf_areLayersInField_24 rfl (rfl) (by decide) (by decide) ?_
        refine en_callS (As := [.int (M 22 166)]) (st := []) (st1 := [.int (ew_b (sp_in (M 22 166) 12289))]) d_Pf_areLayersInField_25 k_Fi_holds tw_516 tw_246 rfl (Nat.le_of_ble_eq_true rfl) rfl (Nat.le_of_ble_eq_true rfl) rfl rfl (c_Fi_holds l g _ (ew_SH L) M (M 22 166)) rfl ?_
        refine en_b_ne (tgt := 33) d_Pf_areLayersInField_28 (by decide) (fun h28_3 => ?_) (fun h28_3 => ?_)
        · refine en_inc (ls' := [.ref 21, .int (nI 2), .int (nI 1), .int (nI 2)]) d_Pf_areLayersInField_33 rfl rfl ?_
          refine ew_goto (tgt := 9) d_Pf_areLayersInField_36 (by decide) ?_
          refine ew_iload_n d_Pf_areLayersInField_9 rfl ?_
          refine ew_iconst (v := nI 2) d_Pf_areLayersInField_10 (by decide) ?_
          refine en_icmp_ge (tgt := 39) d_Pf_areLayersInField_11 (by decide) (by first | with_reducible assumption | with_reducible exact ep_lt _ | with_reducible exact sp_its_lt _ _ _ | with_reducible exact tb_l_rt _ | with_reducible exact tb_l_x _ | with_reducible exact tb_l_o0 _ | with_reducible exact tb_l_o1 _ | with_reducible exact tb_l_va _ | with_reducible exact tb_l_ll _ | with_reducible exact tb_l_cf _ | with_reducible exact tb_l_kf _ | with_reducible exact sp_ts_lt _ _ _ _ | with_reducible exact sp_w_lt _ _ | with_reducible exact sp_cs_lt _ _ _ _ _ | with_reducible exact sp_cb_lt _ _ _ _ _ | with_reducible exact sp_ch_lt _ | with_reducible exact sp_bf_lt _ _ | omega) (by first | with_reducible assumption | with_reducible exact ep_lt _ | with_reducible exact sp_its_lt _ _ _ | with_reducible exact tb_l_rt _ | with_reducible exact tb_l_x _ | with_reducible exact tb_l_o0 _ | with_reducible exact tb_l_o1 _ | with_reducible exact tb_l_va _ | with_reducible exact tb_l_ll _ | with_reducible exact tb_l_cf _ | with_reducible exact tb_l_kf _ | with_reducible exact sp_ts_lt _ _ _ _ | with_reducible exact sp_w_lt _ _ | with_reducible exact sp_cs_lt _ _ _ _ _ | with_reducible exact sp_cb_lt _ _ _ _ _ | with_reducible exact sp_ch_lt _ | with_reducible exact sp_bf_lt _ _ | omega) (fun h11_5 => ?_) (fun h11_5 => by exact absurd h11_5 (by decide))
          refine en_inc (ls' := [.ref 21, .int (nI 2), .int (nI 2), .int (nI 2)]) d_Pf_areLayersInField_39 rfl rfl ?_
          refine ew_goto (tgt := 2) d_Pf_areLayersInField_42 (by decide) ?_
          refine ew_iload_n d_Pf_areLayersInField_2 rfl ?_
          refine ew_iconst (v := nI 3) d_Pf_areLayersInField_3 (by decide) ?_
          refine en_icmp_ge (tgt := 45) d_Pf_areLayersInField_4 (by decide) (by first | with_reducible assumption | with_reducible exact ep_lt _ | with_reducible exact sp_its_lt _ _ _ | with_reducible exact tb_l_rt _ | with_reducible exact tb_l_x _ | with_reducible exact tb_l_o0 _ | with_reducible exact tb_l_o1 _ | with_reducible exact tb_l_va _ | with_reducible exact tb_l_ll _ | with_reducible exact tb_l_cf _ | with_reducible exact tb_l_kf _ | with_reducible exact sp_ts_lt _ _ _ _ | with_reducible exact sp_w_lt _ _ | with_reducible exact sp_cs_lt _ _ _ _ _ | with_reducible exact sp_cb_lt _ _ _ _ _ | with_reducible exact sp_ch_lt _ | with_reducible exact sp_bf_lt _ _ | omega) (by first | with_reducible assumption | with_reducible exact ep_lt _ | with_reducible exact sp_its_lt _ _ _ | with_reducible exact tb_l_rt _ | with_reducible exact tb_l_x _ | with_reducible exact tb_l_o0 _ | with_reducible exact tb_l_o1 _ | with_reducible exact tb_l_va _ | with_reducible exact tb_l_ll _ | with_reducible exact tb_l_cf _ | with_reducible exact tb_l_kf _ | with_reducible exact sp_ts_lt _ _ _ _ | with_reducible exact sp_w_lt _ _ | with_reducible exact sp_cs_lt _ _ _ _ _ | with_reducible exact sp_cb_lt _ _ _ _ _ | with_reducible exact sp_ch_lt _ | with_reducible exact sp_bf_lt _ _ | omega) (fun h4_2 => by exact absurd h4_2 (by decide)) (fun h4_2 => ?_)
          refine ew_iconst (v := nI 0) d_Pf_areLayersInField_7 (by decide) ?_
          refine en_istore_n (ls' := [.ref 21, .int (nI 2), .int (nI 2), .int (nI 0)]) d_Pf_areLayersInField_8 (Nat.le_of_ble_eq_true rfl) rfl ?_
          refine ew_iload_n d_Pf_areLayersInField_9 rfl ?_
          refine ew_iconst (v := nI 2) d_Pf_areLayersInField_10 (by decide) ?_
          refine en_icmp_ge (tgt := 39) d_Pf_areLayersInField_11 (by decide) (by first | with_reducible assumption | with_reducible exact ep_lt _ | with_reducible exact sp_its_lt _ _ _ | with_reducible exact tb_l_rt _ | with_reducible exact tb_l_x _ | with_reducible exact tb_l_o0 _ | with_reducible exact tb_l_o1 _ | with_reducible exact tb_l_va _ | with_reducible exact tb_l_ll _ | with_reducible exact tb_l_cf _ | with_reducible exact tb_l_kf _ | with_reducible exact sp_ts_lt _ _ _ _ | with_reducible exact sp_w_lt _ _ | with_reducible exact sp_cs_lt _ _ _ _ _ | with_reducible exact sp_cb_lt _ _ _ _ _ | with_reducible exact sp_ch_lt _ | with_reducible exact sp_bf_lt _ _ | omega) (by first | with_reducible assumption | with_reducible exact ep_lt _ | with_reducible exact sp_its_lt _ _ _ | with_reducible exact tb_l_rt _ | with_reducible exact tb_l_x _ | with_reducible exact tb_l_o0 _ | with_reducible exact tb_l_o1 _ | with_reducible exact tb_l_va _ | with_reducible exact tb_l_ll _ | with_reducible exact tb_l_cf _ | with_reducible exact tb_l_kf _ | with_reducible exact sp_ts_lt _ _ _ _ | with_reducible exact sp_w_lt _ _ | with_reducible exact sp_cs_lt _ _ _ _ _ | with_reducible exact sp_cb_lt _ _ _ _ _ | with_reducible exact sp_ch_lt _ | with_reducible exact sp_bf_lt _ _ | omega) (fun h11_6 => by exact absurd h11_6 (by decide)) (fun h11_6 => ?_)
          refine ew_aload_n d_Pf_areLayersInField_14 rfl ?_
          refine ew_getr (ci := 4) (f := 0) d_Pf_areLayersInField_15 rfl rfl rfl tw_108 ?_
          refine ew_iload_n d_Pf_areLayersInField_18 rfl ?_
          refine ew_iload_n d_Pf_areLayersInField_19 rfl ?_
          refine ew_iload_n d_Pf_areLayersInField_20 rfl ?_
          refine en_callS (As := [.int (nI 2), .int (nI 2), .int (nI 0)]) (st := [.ref 22]) (st1 := [.int (nI 171), .ref 22]) d_Pf_areLayersInField_21 k_Pf_layerStart tw_526 tw_488 rfl (Nat.le_of_ble_eq_true rfl) rfl (Nat.le_of_ble_eq_true rfl) rfl rfl (c_Pf_layerStart2 l g _ L M (hs) 2 0) rfl ?_
          refine ew_iald (j := 171) d_Pf_areLayersInField_24 rfl (rfl) (by decide) (by decide) ?_
          refine en_callS (As := [.int (M 22 171)]) (st := []) (st1 := [.int (ew_b (sp_in (M 22 171) 12289))]) d_Pf_areLayersInField_25 k_Fi_holds tw_516 tw_246 rfl (Nat.le_of_ble_eq_true rfl) rfl (Nat.le_of_ble_eq_true rfl) rfl rfl (c_Fi_holds l g _ (ew_SH L) M (M 22 171)) rfl ?_
          refine en_b_ne (tgt := 33) d_Pf_areLayersInField_28 (by decide) (fun h28_4 => ?_) (fun h28_4 => ?_)
          · refine en_inc (ls' := [.ref 21, .int (nI 2), .int (nI 2), .int (nI 1)]) d_Pf_areLayersInField_33 rfl rfl ?_
            refine ew_goto (tgt := 9) d_Pf_areLayersInField_36 (by decide) ?_
            refine ew_iload_n d_Pf_areLayersInField_9 rfl ?_
            refine ew_iconst (v := nI 2) d_Pf_areLayersInField_10 (by decide) ?_
            refine en_icmp_ge (tgt := 39) d_Pf_areLayersInField_11 (by decide) (by first | with_reducible assumption | with_reducible exact ep_lt _ | with_reducible exact sp_its_lt _ _ _ | with_reducible exact tb_l_rt _ | with_reducible exact tb_l_x _ | with_reducible exact tb_l_o0 _ | with_reducible exact tb_l_o1 _ | with_reducible exact tb_l_va _ | with_reducible exact tb_l_ll _ | with_reducible exact tb_l_cf _ | with_reducible exact tb_l_kf _ | with_reducible exact sp_ts_lt _ _ _ _ | with_reducible exact sp_w_lt _ _ | with_reducible exact sp_cs_lt _ _ _ _ _ | with_reducible exact sp_cb_lt _ _ _ _ _ | with_reducible exact sp_ch_lt _ | with_reducible exact sp_bf_lt _ _ | omega) (by first | with_reducible assumption | with_reducible exact ep_lt _ | with_reducible exact sp_its_lt _ _ _ | with_reducible exact tb_l_rt _ | with_reducible exact tb_l_x _ | with_reducible exact tb_l_o0 _ | with_reducible exact tb_l_o1 _ | with_reducible exact tb_l_va _ | with_reducible exact tb_l_ll _ | with_reducible exact tb_l_cf _ | with_reducible exact tb_l_kf _ | with_reducible exact sp_ts_lt _ _ _ _ | with_reducible exact sp_w_lt _ _ | with_reducible exact sp_cs_lt _ _ _ _ _ | with_reducible exact sp_cb_lt _ _ _ _ _ | with_reducible exact sp_ch_lt _ | with_reducible exact sp_bf_lt _ _ | omega) (fun h11_7 => by exact absurd h11_7 (by decide)) (fun h11_7 => ?_)
            refine ew_aload_n d_Pf_areLayersInField_14 rfl ?_
            refine ew_getr (ci := 4) (f := 0) d_Pf_areLayersInField_15 rfl rfl rfl tw_108 ?_
            refine ew_iload_n d_Pf_areLayersInField_18 rfl ?_
            refine ew_iload_n d_Pf_areLayersInField_19 rfl ?_
            refine ew_iload_n d_Pf_areLayersInField_20 rfl ?_
            refine en_callS (As := [.int (nI 2), .int (nI 2), .int (nI 1)]) (st := [.ref 22]) (st1 := [.int (nI 175), .ref 22]) d_Pf_areLayersInField_21 k_Pf_layerStart tw_526 tw_488 rfl (Nat.le_of_ble_eq_true rfl) rfl (Nat.le_of_ble_eq_true rfl) rfl rfl (c_Pf_layerStart2 l g _ L M (hs) 2 1) rfl ?_
            refine ew_iald (j := 175) d_Pf_areLayersInField_24 rfl (rfl) (by decide) (by decide) ?_
            refine en_callS (As := [.int (M 22 175)]) (st := []) (st1 := [.int (ew_b (sp_in (M 22 175) 12289))]) d_Pf_areLayersInField_25 k_Fi_holds tw_516 tw_246 rfl (Nat.le_of_ble_eq_true rfl) rfl (Nat.le_of_ble_eq_true rfl) rfl rfl (c_Fi_holds l g _ (ew_SH L) M (M 22 175)) rfl ?_
            refine en_b_ne (tgt := 33) d_Pf_areLayersInField_28 (by decide) (fun h28_5 => ?_) (fun h28_5 => ?_)
            · refine en_inc (ls' := [.ref 21, .int (nI 2), .int (nI 2), .int (nI 2)]) d_Pf_areLayersInField_33 rfl rfl ?_
              refine ew_goto (tgt := 9) d_Pf_areLayersInField_36 (by decide) ?_
              refine ew_iload_n d_Pf_areLayersInField_9 rfl ?_
              refine ew_iconst (v := nI 2) d_Pf_areLayersInField_10 (by decide) ?_
              refine en_icmp_ge (tgt := 39) d_Pf_areLayersInField_11 (by decide) (by first | with_reducible assumption | with_reducible exact ep_lt _ | with_reducible exact sp_its_lt _ _ _ | with_reducible exact tb_l_rt _ | with_reducible exact tb_l_x _ | with_reducible exact tb_l_o0 _ | with_reducible exact tb_l_o1 _ | with_reducible exact tb_l_va _ | with_reducible exact tb_l_ll _ | with_reducible exact tb_l_cf _ | with_reducible exact tb_l_kf _ | with_reducible exact sp_ts_lt _ _ _ _ | with_reducible exact sp_w_lt _ _ | with_reducible exact sp_cs_lt _ _ _ _ _ | with_reducible exact sp_cb_lt _ _ _ _ _ | with_reducible exact sp_ch_lt _ | with_reducible exact sp_bf_lt _ _ | omega) (by first | with_reducible assumption | with_reducible exact ep_lt _ | with_reducible exact sp_its_lt _ _ _ | with_reducible exact tb_l_rt _ | with_reducible exact tb_l_x _ | with_reducible exact tb_l_o0 _ | with_reducible exact tb_l_o1 _ | with_reducible exact tb_l_va _ | with_reducible exact tb_l_ll _ | with_reducible exact tb_l_cf _ | with_reducible exact tb_l_kf _ | with_reducible exact sp_ts_lt _ _ _ _ | with_reducible exact sp_w_lt _ _ | with_reducible exact sp_cs_lt _ _ _ _ _ | with_reducible exact sp_cb_lt _ _ _ _ _ | with_reducible exact sp_ch_lt _ | with_reducible exact sp_bf_lt _ _ | omega) (fun h11_8 => ?_) (fun h11_8 => by exact absurd h11_8 (by decide))
              refine en_inc (ls' := [.ref 21, .int (nI 2), .int (nI 3), .int (nI 2)]) d_Pf_areLayersInField_39 rfl rfl ?_
              refine ew_goto (tgt := 2) d_Pf_areLayersInField_42 (by decide) ?_
              refine ew_iload_n d_Pf_areLayersInField_2 rfl ?_
              refine ew_iconst (v := nI 3) d_Pf_areLayersInField_3 (by decide) ?_
              refine en_icmp_ge (tgt := 45) d_Pf_areLayersInField_4 (by decide) (by first | with_reducible assumption | with_reducible exact ep_lt _ | with_reducible exact sp_its_lt _ _ _ | with_reducible exact tb_l_rt _ | with_reducible exact tb_l_x _ | with_reducible exact tb_l_o0 _ | with_reducible exact tb_l_o1 _ | with_reducible exact tb_l_va _ | with_reducible exact tb_l_ll _ | with_reducible exact tb_l_cf _ | with_reducible exact tb_l_kf _ | with_reducible exact sp_ts_lt _ _ _ _ | with_reducible exact sp_w_lt _ _ | with_reducible exact sp_cs_lt _ _ _ _ _ | with_reducible exact sp_cb_lt _ _ _ _ _ | with_reducible exact sp_ch_lt _ | with_reducible exact sp_bf_lt _ _ | omega) (by first | with_reducible assumption | with_reducible exact ep_lt _ | with_reducible exact sp_its_lt _ _ _ | with_reducible exact tb_l_rt _ | with_reducible exact tb_l_x _ | with_reducible exact tb_l_o0 _ | with_reducible exact tb_l_o1 _ | with_reducible exact tb_l_va _ | with_reducible exact tb_l_ll _ | with_reducible exact tb_l_cf _ | with_reducible exact tb_l_kf _ | with_reducible exact sp_ts_lt _ _ _ _ | with_reducible exact sp_w_lt _ _ | with_reducible exact sp_cs_lt _ _ _ _ _ | with_reducible exact sp_cb_lt _ _ _ _ _ | with_reducible exact sp_ch_lt _ | with_reducible exact sp_bf_lt _ _ | omega) (fun h4_3 => ?_) (fun h4_3 => by exact absurd h4_3 (by decide))
              refine ew_iconst (v := nI 1) d_Pf_areLayersInField_45 (by decide) ?_
              exact ew_zret d_Pf_areLayersInField_46 rfl (by decide) (⟨by rw [show sp_lB2 (M 22) = true from by (unfold sp_lB2; rw [h28, h28_1, h28_2, h28_3, h28_4, h28_5]; first | rfl | done)]; rfl, rfl, rfl⟩)
            · refine ew_iconst (v := nI 0) d_Pf_areLayersInField_31 (by decide) ?_
              exact ew_zret d_Pf_areLayersInField_32 rfl (by decide) (⟨by rw [show sp_lB2 (M 22) = false from by (unfold sp_lB2; rw [h28, h28_1, h28_2, h28_3, h28_4, h28_5]; first | rfl | done)]; rfl, rfl, rfl⟩)
          · refine ew_iconst (v := nI 0) d_Pf_areLayersInField_31 (by decide) ?_
            exact ew_zret d_Pf_areLayersInField_32 rfl (by decide) (⟨by rw [show sp_lB2 (M 22) = false from by (unfold sp_lB2; rw [h28, h28_1, h28_2, h28_3, h28_4]; first | rfl | done)]; rfl, rfl, rfl⟩)
        · refine ew_iconst (v := nI 0) d_Pf_areLayersInField_31 (by decide) ?_
          exact ew_zret d_Pf_areLayersInField_32 rfl (by decide) (⟨by rw [show sp_lB2 (M 22) = false from by (unfold sp_lB2; rw [h28, h28_1, h28_2, h28_3]; first | rfl | done)]; rfl, rfl, rfl⟩)
      · refine ew_iconst (v := nI 0) d_Pf_areLayersInField_31 (by decide) ?_
        exact ew_zret d_Pf_areLayersInField_32 rfl (by decide) (⟨by rw [show sp_lB2 (M 22) = false from by (unfold sp_lB2; rw [h28, h28_1, h28_2]; first | rfl | done)]; rfl, rfl, rfl⟩)
    · refine ew_iconst (v := nI 0) d_Pf_areLayersInField_31 (by decide) ?_
      exact ew_zret d_Pf_areLayersInField_32 rfl (by decide) (⟨by rw [show sp_lB2 (M 22) = false from by (unfold sp_lB2; rw [h28, h28_1]; first | rfl | done)]; rfl, rfl, rfl⟩)
  · refine ew_iconst (v := nI 0) d_Pf_areLayersInField_31 (by decide) ?_
    exact ew_zret d_Pf_areLayersInField_32 rfl (by decide) (⟨by rw [show sp_lB2 (M 22) = false from by (unfold sp_lB2; rw [h28]; first | rfl | done)]; rfl, rfl, rfl⟩)
set_option maxRecDepth 100000 in
theorem c_Pf_isInField (l : Launch) (g : ew_G) (d L : Nat) (M : ew_M) (hs : sp_st M) :
    Ew l g (d + 2) 0 0 m_Pf_isInField 0 [.ref 21, .retAddr 0] [] (ew_SH L) M (ew_q (some (.int (ew_b (sp_nB (M 22))))) (ew_SH L) M) := by
  refine ew_aload_n d_Pf_isInField_0 rfl ?_
  refine ew_getr (ci := 4) (f := 0) d_Pf_isInField_1 rfl rfl rfl tw_108 ?_
  refine ew_iconst (v := nI 4) d_Pf_isInField_4 (by decide) ?_
  refine ew_iald (j := 4) d_Pf_isInField_5 rfl (rfl) (by decide) (by decide) ?_
  refine en_callS (As := [.int (M 22 4)]) (st := []) (st1 := [.int (ew_b (sp_in (M 22 4) 12289))]) d_Pf_isInField_6 k_Fi_holds tw_516 tw_246 rfl (Nat.le_of_ble_eq_true rfl) rfl (Nat.le_of_ble_eq_true rfl) rfl rfl (c_Fi_holds l g _ (ew_SH L) M (M 22 4)) rfl ?_
  refine en_b_ne (tgt := 14) d_Pf_isInField_9 (by decide) (fun h9 => ?_) (fun h9 => ?_)
  · refine ew_iconst (v := nI 0) d_Pf_isInField_14 (by decide) ?_
    refine en_istore_n (ls' := [.ref 21, .int (nI 0)]) d_Pf_isInField_15 (Nat.le_of_ble_eq_true rfl) rfl ?_
    refine ew_iload_n d_Pf_isInField_16 rfl ?_
    refine ew_iconst (v := nI 3) d_Pf_isInField_17 (by decide) ?_
    refine en_icmp_ge (tgt := 45) d_Pf_isInField_18 (by decide) (by first | with_reducible assumption | with_reducible exact ep_lt _ | with_reducible exact sp_its_lt _ _ _ | with_reducible exact tb_l_rt _ | with_reducible exact tb_l_x _ | with_reducible exact tb_l_o0 _ | with_reducible exact tb_l_o1 _ | with_reducible exact tb_l_va _ | with_reducible exact tb_l_ll _ | with_reducible exact tb_l_cf _ | with_reducible exact tb_l_kf _ | with_reducible exact sp_ts_lt _ _ _ _ | with_reducible exact sp_w_lt _ _ | with_reducible exact sp_cs_lt _ _ _ _ _ | with_reducible exact sp_cb_lt _ _ _ _ _ | with_reducible exact sp_ch_lt _ | with_reducible exact sp_bf_lt _ _ | omega) (by first | with_reducible assumption | with_reducible exact ep_lt _ | with_reducible exact sp_its_lt _ _ _ | with_reducible exact tb_l_rt _ | with_reducible exact tb_l_x _ | with_reducible exact tb_l_o0 _ | with_reducible exact tb_l_o1 _ | with_reducible exact tb_l_va _ | with_reducible exact tb_l_ll _ | with_reducible exact tb_l_cf _ | with_reducible exact tb_l_kf _ | with_reducible exact sp_ts_lt _ _ _ _ | with_reducible exact sp_w_lt _ _ | with_reducible exact sp_cs_lt _ _ _ _ _ | with_reducible exact sp_cb_lt _ _ _ _ _ | with_reducible exact sp_ch_lt _ | with_reducible exact sp_bf_lt _ _ | omega) (fun h18 => by exact absurd h18 (by decide)) (fun h18 => ?_)
    refine ew_aload_n d_Pf_isInField_21 rfl ?_
    refine ew_iload_n d_Pf_isInField_22 rfl ?_
    refine en_callV (As := [.int (nI 0)]) (i := 21) (ci := 4) (st := []) (st1 := [.int (ew_b (sp_cB0 (M 22)))]) d_Pf_isInField_23 k_Pf_areColumnsInField rfl rfl tw_517 tw_519 tp_18 rfl (Nat.le_of_ble_eq_true rfl) rfl (Nat.le_of_ble_eq_true rfl) rfl rfl (c_Pf_areColumnsInField0 l g _ L M) rfl ?_
    refine en_b_eq (tgt := 37) d_Pf_isInField_26 (by decide) (fun h26 => ?_) (fun h26 => ?_)
    · refine ew_iconst (v := nI 0) d_Pf_isInField_37 (by decide) ?_
      exact ew_zret d_Pf_isInField_38 rfl (by decide) (⟨by rw [show sp_nB (M 22) = false from by (unfold sp_nB; rw [h9, h26]; first | rfl | done)]; rfl, rfl, rfl⟩)
    · refine ew_aload_n d_Pf_isInField_29 rfl ?_
      refine ew_iload_n d_Pf_isInField_30 rfl ?_
      refine en_callV (As := [.int (nI 0)]) (i := 21) (ci := 4) (st := []) (st1 := [.int (ew_b (sp_lB0 (M 22)))]) d_Pf_isInField_31 k_Pf_areLayersInField rfl rfl tw_522 tw_524 tp_19 rfl (Nat.le_of_ble_eq_true rfl) rfl (Nat.le_of_ble_eq_true rfl) rfl rfl (c_Pf_areLayersInField0 l g _ L M hs) rfl ?_
      refine en_b_ne (tgt := 39) d_Pf_isInField_34 (by decide) (fun h34 => ?_) (fun h34 => ?_)
      · refine en_inc (ls' := [.ref 21, .int (nI 1)]) d_Pf_isInField_39 rfl rfl ?_
        refine ew_goto (tgt := 16) d_Pf_isInField_42 (by decide) ?_
        refine ew_iload_n d_Pf_isInField_16 rfl ?_
        refine ew_iconst (v := nI 3) d_Pf_isInField_17 (by decide) ?_
        refine en_icmp_ge (tgt := 45) d_Pf_isInField_18 (by decide) (by first | with_reducible assumption | with_reducible exact ep_lt _ | with_reducible exact sp_its_lt _ _ _ | with_reducible exact tb_l_rt _ | with_reducible exact tb_l_x _ | with_reducible exact tb_l_o0 _ | with_reducible exact tb_l_o1 _ | with_reducible exact tb_l_va _ | with_reducible exact tb_l_ll _ | with_reducible exact tb_l_cf _ | with_reducible exact tb_l_kf _ | with_reducible exact sp_ts_lt _ _ _ _ | with_reducible exact sp_w_lt _ _ | with_reducible exact sp_cs_lt _ _ _ _ _ | with_reducible exact sp_cb_lt _ _ _ _ _ | with_reducible exact sp_ch_lt _ | with_reducible exact sp_bf_lt _ _ | omega) (by first | with_reducible assumption | with_reducible exact ep_lt _ | with_reducible exact sp_its_lt _ _ _ | with_reducible exact tb_l_rt _ | with_reducible exact tb_l_x _ | with_reducible exact tb_l_o0 _ | with_reducible exact tb_l_o1 _ | with_reducible exact tb_l_va _ | with_reducible exact tb_l_ll _ | with_reducible exact tb_l_cf _ | with_reducible exact tb_l_kf _ | with_reducible exact sp_ts_lt _ _ _ _ | with_reducible exact sp_w_lt _ _ | with_reducible exact sp_cs_lt _ _ _ _ _ | with_reducible exact sp_cb_lt _ _ _ _ _ | with_reducible exact sp_ch_lt _ | with_reducible exact sp_bf_lt _ _ | omega) (fun h18_1 => by exact absurd h18_1 (by decide)) (fun h18_1 => ?_)
        refine ew_aload_n d_Pf_isInField_21 rfl ?_
        refine ew_iload_n d_Pf_isInField_22 rfl ?_
        refine en_callV (As := [.int (nI 1)]) (i := 21) (ci := 4) (st := []) (st1 := [.int (ew_b (sp_cB1 (M 22)))]) d_Pf_isInField_23 k_Pf_areColumnsInField rfl rfl tw_517 tw_519 tp_18 rfl (Nat.le_of_ble_eq_true rfl) rfl (Nat.le_of_ble_eq_true rfl) rfl rfl (c_Pf_areColumnsInField1 l g _ L M) rfl ?_
        refine en_b_eq (tgt := 37) d_Pf_isInField_26 (by decide) (fun h26_1 => ?_) (fun h26_1 => ?_)
        · refine ew_iconst (v := nI 0) d_Pf_isInField_37 (by decide) ?_
          exact ew_zret d_Pf_isInField_38 rfl (by decide) (⟨by rw [show sp_nB (M 22) = false from by (unfold sp_nB; rw [h9, h26, h34, h26_1]; first | rfl | done)]; rfl, rfl, rfl⟩)
        · refine ew_aload_n d_Pf_isInField_29 rfl ?_
          refine ew_iload_n d_Pf_isInField_30 rfl ?_
          refine en_callV (As := [.int (nI 1)]) (i := 21) (ci := 4) (st := []) (st1 := [.int (ew_b (sp_lB1 (M 22)))]) d_Pf_isInField_31 k_Pf_areLayersInField rfl rfl tw_522 tw_524 tp_19 rfl (Nat.le_of_ble_eq_true rfl) rfl (Nat.le_of_ble_eq_true rfl) rfl rfl (c_Pf_areLayersInField1 l g _ L M hs) rfl ?_
          refine en_b_ne (tgt := 39) d_Pf_isInField_34 (by decide) (fun h34_1 => ?_) (fun h34_1 => ?_)
          · refine en_inc (ls' := [.ref 21, .int (nI 2)]) d_Pf_isInField_39 rfl rfl ?_
            refine ew_goto (tgt := 16) d_Pf_isInField_42 (by decide) ?_
            refine ew_iload_n d_Pf_isInField_16 rfl ?_
            refine ew_iconst (v := nI 3) d_Pf_isInField_17 (by decide) ?_
            refine en_icmp_ge (tgt := 45) d_Pf_isInField_18 (by decide) (by first | with_reducible assumption | with_reducible exact ep_lt _ | with_reducible exact sp_its_lt _ _ _ | with_reducible exact tb_l_rt _ | with_reducible exact tb_l_x _ | with_reducible exact tb_l_o0 _ | with_reducible exact tb_l_o1 _ | with_reducible exact tb_l_va _ | with_reducible exact tb_l_ll _ | with_reducible exact tb_l_cf _ | with_reducible exact tb_l_kf _ | with_reducible exact sp_ts_lt _ _ _ _ | with_reducible exact sp_w_lt _ _ | with_reducible exact sp_cs_lt _ _ _ _ _ | with_reducible exact sp_cb_lt _ _ _ _ _ | with_reducible exact sp_ch_lt _ | with_reducible exact sp_bf_lt _ _ | omega) (by first | with_reducible assumption | with_reducible exact ep_lt _ | with_reducible exact sp_its_lt _ _ _ | with_reducible exact tb_l_rt _ | with_reducible exact tb_l_x _ | with_reducible exact tb_l_o0 _ | with_reducible exact tb_l_o1 _ | with_reducible exact tb_l_va _ | with_reducible exact tb_l_ll _ | with_reducible exact tb_l_cf _ | with_reducible exact tb_l_kf _ | with_reducible exact sp_ts_lt _ _ _ _ | with_reducible exact sp_w_lt _ _ | with_reducible exact sp_cs_lt _ _ _ _ _ | with_reducible exact sp_cb_lt _ _ _ _ _ | with_reducible exact sp_ch_lt _ | with_reducible exact sp_bf_lt _ _ | omega) (fun h18_2 => by exact absurd h18_2 (by decide)) (fun h18_2 => ?_)
            refine ew_aload_n d_Pf_isInField_21 rfl ?_
            refine ew_iload_n d_Pf_isInField_22 rfl ?_
            refine en_callV (As := [.int (nI 2)]) (i := 21) (ci := 4) (st := []) (st1 := [.int (ew_b (sp_cB2 (M 22)))]) d_Pf_isInField_23 k_Pf_areColumnsInField rfl rfl tw_517 tw_519 tp_18 rfl (Nat.le_of_ble_eq_true rfl) rfl (Nat.le_of_ble_eq_true rfl) rfl rfl (c_Pf_areColumnsInField2 l g _ L M) rfl ?_
            refine en_b_eq (tgt := 37) d_Pf_isInField_26 (by decide) (fun h26_2 => ?_) (fun h26_2 => ?_)
            · refine ew_iconst (v := nI 0) d_Pf_isInField_37 (by decide) ?_
              exact ew_zret d_Pf_isInField_38 rfl (by decide) (⟨by rw [show sp_nB (M 22) = false from by (unfold sp_nB; rw [h9, h26, h34, h26_1, h34_1, h26_2]; first | rfl | done)]; rfl, rfl, rfl⟩)
            · refine ew_aload_n d_Pf_isInField_29 rfl ?_
              refine ew_iload_n d_Pf_isInField_30 rfl ?_
              refine en_callV (As := [.int (nI 2)]) (i := 21) (ci := 4) (st := []) (st1 := [.int (ew_b (sp_lB2 (M 22)))]) d_Pf_isInField_31 k_Pf_areLayersInField rfl rfl tw_522 tw_524 tp_19 rfl (Nat.le_of_ble_eq_true rfl) rfl (Nat.le_of_ble_eq_true rfl) rfl rfl (c_Pf_areLayersInField2 l g _ L M hs) rfl ?_
              refine en_b_ne (tgt := 39) d_Pf_isInField_34 (by decide) (fun h34_2 => ?_) (fun h34_2 => ?_)
              · refine en_inc (ls' := [.ref 21, .int (nI 3)]) d_Pf_isInField_39 rfl rfl ?_
                refine ew_goto (tgt := 16) d_Pf_isInField_42 (by decide) ?_
                refine ew_iload_n d_Pf_isInField_16 rfl ?_
                refine ew_iconst (v := nI 3) d_Pf_isInField_17 (by decide) ?_
                refine en_icmp_ge (tgt := 45) d_Pf_isInField_18 (by decide) (by first | with_reducible assumption | with_reducible exact ep_lt _ | with_reducible exact sp_its_lt _ _ _ | with_reducible exact tb_l_rt _ | with_reducible exact tb_l_x _ | with_reducible exact tb_l_o0 _ | with_reducible exact tb_l_o1 _ | with_reducible exact tb_l_va _ | with_reducible exact tb_l_ll _ | with_reducible exact tb_l_cf _ | with_reducible exact tb_l_kf _ | with_reducible exact sp_ts_lt _ _ _ _ | with_reducible exact sp_w_lt _ _ | with_reducible exact sp_cs_lt _ _ _ _ _ | with_reducible exact sp_cb_lt _ _ _ _ _ | with_reducible exact sp_ch_lt _ | with_reducible exact sp_bf_lt _ _ | omega) (by first | with_reducible assumption | with_reducible exact ep_lt _ | with_reducible exact sp_its_lt _ _ _ | with_reducible exact tb_l_rt _ | with_reducible exact tb_l_x _ | with_reducible exact tb_l_o0 _ | with_reducible exact tb_l_o1 _ | with_reducible exact tb_l_va _ | with_reducible exact tb_l_ll _ | with_reducible exact tb_l_cf _ | with_reducible exact tb_l_kf _ | with_reducible exact sp_ts_lt _ _ _ _ | with_reducible exact sp_w_lt _ _ | with_reducible exact sp_cs_lt _ _ _ _ _ | with_reducible exact sp_cb_lt _ _ _ _ _ | with_reducible exact sp_ch_lt _ | with_reducible exact sp_bf_lt _ _ | omega) (fun h18_3 => ?_) (fun h18_3 => by exact absurd h18_3 (by decide))
                refine ew_iconst (v := nI 1) d_Pf_isInField_45 (by decide) ?_
                exact ew_zret d_Pf_isInField_46 rfl (by decide) (⟨by rw [show sp_nB (M 22) = true from by (unfold sp_nB; rw [h9, h26, h34, h26_1, h34_1, h26_2, h34_2]; first | rfl | done)]; rfl, rfl, rfl⟩)
              · refine ew_iconst (v := nI 0) d_Pf_isInField_37 (by decide) ?_
                exact ew_zret d_Pf_isInField_38 rfl (by decide) (⟨by rw [show sp_nB (M 22) = false from by (unfold sp_nB; rw [h9, h26, h34, h26_1, h34_1, h26_2, h34_2]; first | rfl | done)]; rfl, rfl, rfl⟩)
          · refine ew_iconst (v := nI 0) d_Pf_isInField_37 (by decide) ?_
            exact ew_zret d_Pf_isInField_38 rfl (by decide) (⟨by rw [show sp_nB (M 22) = false from by (unfold sp_nB; rw [h9, h26, h34, h26_1, h34_1]; first | rfl | done)]; rfl, rfl, rfl⟩)
      · refine ew_iconst (v := nI 0) d_Pf_isInField_37 (by decide) ?_
        exact ew_zret d_Pf_isInField_38 rfl (by decide) (⟨by rw [show sp_nB (M 22) = false from by (unfold sp_nB; rw [h9, h26, h34]; first | rfl | done)]; rfl, rfl, rfl⟩)
  · refine ew_iconst (v := nI 0) d_Pf_isInField_12 (by decide) ?_
    exact ew_zret d_Pf_isInField_13 rfl (by decide) (⟨by rw [show sp_nB (M 22) = false from by (unfold sp_nB; rw [h9]; first | rfl | done)]; rfl, rfl, rfl⟩)
def sp_ix : List Nat := [4, 5, 6, 12, 13, 19, 20, 26, 27, 33, 39, 45, 50, 55, 59, 63, 64, 70, 71, 77, 78, 84, 85, 91, 97, 103, 108, 113, 117, 121, 122, 128, 129, 135, 136, 142, 143, 149, 155, 161, 166, 171, 175]
def sp_fnok (f : Nat → Int32) (fn : Nat → Nat) : Prop := ∀ i, i ∈ sp_ix → f i = nI (fn i) ∧ fn i < 12289
theorem sp_and {a b : Bool} (h : (a && b) = true) : a = true ∧ b = true := by
  cases a <;> cases b <;> first | exact ⟨rfl, rfl⟩ | cases h
theorem sp_nB_all {f : Nat → Int32} (h : sp_nB f = true) : ∀ i, i ∈ sp_ix → sp_in (f i) 12289 = true := by
  unfold sp_nB at h
  simp only [sp_cB0, sp_lB0, sp_cB1, sp_lB1, sp_cB2, sp_lB2, Bool.and_eq_true] at h
  intro i hi
  simp only [sp_ix, List.mem_cons, List.not_mem_nil, or_false] at hi
  rcases hi with rfl | rfl | rfl | rfl | rfl | rfl | rfl | rfl | rfl | rfl | rfl | rfl | rfl | rfl | rfl | rfl | rfl | rfl | rfl | rfl | rfl | rfl | rfl | rfl | rfl | rfl | rfl | rfl | rfl | rfl | rfl | rfl | rfl | rfl | rfl | rfl | rfl | rfl | rfl | rfl | rfl | rfl | rfl <;> simp only [h]
theorem sp_nB_fn {f : Nat → Int32} (h : sp_nB f = true) : sp_fnok f (fun i => (f i).toNatClampNeg) := by
  intro i hi
  obtain ⟨j, hj, e⟩ := sp_in_of (by decide) (sp_nB_all h i hi)
  dsimp only
  rw [e, nI_clamp (by omega)]
  exact ⟨rfl, hj⟩
set_option maxRecDepth 100000 in
theorem c_Ve_place (l : Launch) (g : ew_G) (d L : Nat) (M : ew_M) (k j : Nat) (hk : k < 3) (hj : M 46 k = nI j) :
    Ew l g d 0 0 m_Ve_place 0 [.ref 43, .int (nI k)] [] (ew_SH L) M (ew_q (some (.int (nI j))) (ew_SH L) M) := by
  refine ew_aload_n d_Ve_place_0 rfl ?_
  refine ew_getr (ci := 6) (f := 4) d_Ve_place_1 rfl rfl rfl tw_201 ?_
  refine ew_getrN (ci := 7) (f := 3) d_Ve_place_4 rfl rfl rfl tw_135 ?_
  refine ew_iload_n d_Ve_place_7 rfl ?_
  refine ew_iald (j := k) d_Ve_place_8 rfl (rfl) (by first | with_reducible assumption | with_reducible exact ep_lt _ | with_reducible exact sp_its_lt _ _ _ | with_reducible exact tb_l_rt _ | with_reducible exact tb_l_x _ | with_reducible exact tb_l_o0 _ | with_reducible exact tb_l_o1 _ | with_reducible exact tb_l_va _ | with_reducible exact tb_l_ll _ | with_reducible exact tb_l_cf _ | with_reducible exact tb_l_kf _ | with_reducible exact sp_ts_lt _ _ _ _ | with_reducible exact sp_w_lt _ _ | with_reducible exact sp_cs_lt _ _ _ _ _ | with_reducible exact sp_cb_lt _ _ _ _ _ | with_reducible exact sp_ch_lt _ | with_reducible exact sp_bf_lt _ _ | omega) (by decide) ?_
  refine en_eq (st' := [.int (nI j)]) rfl (by rw [show (M 46 k) = (nI j) from hj]) rfl ?_
  exact ew_iret d_Ve_place_9 rfl (⟨rfl, rfl, rfl⟩)
def sp_vc0 (f : Nat → Int32) (j : Nat) : Bool := decide (sp_ro f 6 (sp_mix (f 5) (f 6)) (32 + (j + 0) % 32) 7 = f 0) && (decide (sp_ro f 6 (sp_mix (f 12) (f 13)) (32 + (j + 4) % 32) 14 = f 0) && (decide (sp_ro f 6 (sp_mix (f 19) (f 20)) (32 + (j + 16) % 32) 21 = f 0) && (decide (sp_ro f 6 (sp_mix (f 26) (f 27)) (32 + (j + 20) % 32) 28 = f 0))))
def sp_vl00 (f : Nat → Int32) (j : Nat) : Bool := decide (sp_ro f 6 (sp_mix (f 33) (nI 12289)) (32 + (j % 16 + 16 * 0)) 34 = f 1) && (decide (sp_ro f 6 (sp_mix (f 39) (nI 12289)) (32 + (j % 16 + 16 * 1)) 40 = f 1))
def sp_vl01 (f : Nat → Int32) (j : Nat) : Bool := decide (sp_ro f 6 (sp_mix (f 45) (nI 12289)) (16 + (j % 8 + 8 * 0)) 46 = f 2) && (decide (sp_ro f 6 (sp_mix (f 50) (nI 12289)) (16 + (j % 8 + 8 * 1)) 51 = f 2))
def sp_vl02 (f : Nat → Int32) (j : Nat) : Bool := decide (sp_ro f 6 (sp_mix (f 55) (nI 12289)) (8 + (j % 4 + 4 * 0)) 56 = f 3) && (decide (sp_ro f 6 (sp_mix (f 59) (nI 12289)) (8 + (j % 4 + 4 * 1)) 60 = f 3))
def sp_vo0 (ρ : sp_R) (fn : Nat → Nat) (j A q : Nat) : Bool := decide (sp_com ρ (sp_le (fn (5 + 14 * q)) (fn (5 + 14 * q + 1)) (fn (12 + 14 * q)) (fn (12 + 14 * q + 1))) (j % 16 + 16 * q) A = fn (33 + 6 * q))
def sp_vf00 (fn : Nat → Nat) (j B : Nat) : Nat := sp_fo 1 (j % 16 + 16 * 0) (fn 33) (fn 39) B
def sp_vf01 (fn : Nat → Nat) (j B : Nat) : Nat := sp_fo 2 (j % 8 + 8 * 0) (fn 45) (fn 50) B
def sp_vf02 (fn : Nat → Nat) (j B : Nat) : Nat := sp_fo 4 (j % 4 + 4 * 0) (fn 55) (fn 59) B
def sp_vb00 (fn : Nat → Nat) (j : Nat) : Nat := fn (45 + 5 * (j % 16 / 8))
def sp_vb01 (fn : Nat → Nat) (j : Nat) : Nat := fn (55 + 4 * (j % 8 / 4))
def sp_vc1 (f : Nat → Int32) (j : Nat) : Bool := decide (sp_ro f 6 (sp_mix (f 63) (f 64)) (32 + (j + 0) % 32) 65 = f 0) && (decide (sp_ro f 6 (sp_mix (f 70) (f 71)) (32 + (j + 4) % 32) 72 = f 0) && (decide (sp_ro f 6 (sp_mix (f 77) (f 78)) (32 + (j + 16) % 32) 79 = f 0) && (decide (sp_ro f 6 (sp_mix (f 84) (f 85)) (32 + (j + 20) % 32) 86 = f 0))))
def sp_vl10 (f : Nat → Int32) (j : Nat) : Bool := decide (sp_ro f 6 (sp_mix (f 91) (nI 12289)) (32 + (j % 16 + 16 * 0)) 92 = f 1) && (decide (sp_ro f 6 (sp_mix (f 97) (nI 12289)) (32 + (j % 16 + 16 * 1)) 98 = f 1))
def sp_vl11 (f : Nat → Int32) (j : Nat) : Bool := decide (sp_ro f 6 (sp_mix (f 103) (nI 12289)) (16 + (j % 8 + 8 * 0)) 104 = f 2) && (decide (sp_ro f 6 (sp_mix (f 108) (nI 12289)) (16 + (j % 8 + 8 * 1)) 109 = f 2))
def sp_vl12 (f : Nat → Int32) (j : Nat) : Bool := decide (sp_ro f 6 (sp_mix (f 113) (nI 12289)) (8 + (j % 4 + 4 * 0)) 114 = f 3) && (decide (sp_ro f 6 (sp_mix (f 117) (nI 12289)) (8 + (j % 4 + 4 * 1)) 118 = f 3))
def sp_vo1 (ρ : sp_R) (fn : Nat → Nat) (j A q : Nat) : Bool := decide (sp_com ρ (sp_le (fn (63 + 14 * q)) (fn (63 + 14 * q + 1)) (fn (70 + 14 * q)) (fn (70 + 14 * q + 1))) (j % 16 + 16 * q) A = fn (91 + 6 * q))
def sp_vf10 (fn : Nat → Nat) (j B : Nat) : Nat := sp_fo 1 (j % 16 + 16 * 0) (fn 91) (fn 97) B
def sp_vf11 (fn : Nat → Nat) (j B : Nat) : Nat := sp_fo 2 (j % 8 + 8 * 0) (fn 103) (fn 108) B
def sp_vf12 (fn : Nat → Nat) (j B : Nat) : Nat := sp_fo 4 (j % 4 + 4 * 0) (fn 113) (fn 117) B
def sp_vb10 (fn : Nat → Nat) (j : Nat) : Nat := fn (103 + 5 * (j % 16 / 8))
def sp_vb11 (fn : Nat → Nat) (j : Nat) : Nat := fn (113 + 4 * (j % 8 / 4))
def sp_vc2 (f : Nat → Int32) (j : Nat) : Bool := decide (sp_ro f 6 (sp_mix (f 121) (f 122)) (32 + (j + 0) % 32) 123 = f 0) && (decide (sp_ro f 6 (sp_mix (f 128) (f 129)) (32 + (j + 4) % 32) 130 = f 0) && (decide (sp_ro f 6 (sp_mix (f 135) (f 136)) (32 + (j + 16) % 32) 137 = f 0) && (decide (sp_ro f 6 (sp_mix (f 142) (f 143)) (32 + (j + 20) % 32) 144 = f 0))))
def sp_vl20 (f : Nat → Int32) (j : Nat) : Bool := decide (sp_ro f 6 (sp_mix (f 149) (nI 12289)) (32 + (j % 16 + 16 * 0)) 150 = f 1) && (decide (sp_ro f 6 (sp_mix (f 155) (nI 12289)) (32 + (j % 16 + 16 * 1)) 156 = f 1))
def sp_vl21 (f : Nat → Int32) (j : Nat) : Bool := decide (sp_ro f 6 (sp_mix (f 161) (nI 12289)) (16 + (j % 8 + 8 * 0)) 162 = f 2) && (decide (sp_ro f 6 (sp_mix (f 166) (nI 12289)) (16 + (j % 8 + 8 * 1)) 167 = f 2))
def sp_vl22 (f : Nat → Int32) (j : Nat) : Bool := decide (sp_ro f 6 (sp_mix (f 171) (nI 12289)) (8 + (j % 4 + 4 * 0)) 172 = f 3) && (decide (sp_ro f 6 (sp_mix (f 175) (nI 12289)) (8 + (j % 4 + 4 * 1)) 176 = f 3))
def sp_vo2 (ρ : sp_R) (fn : Nat → Nat) (j A q : Nat) : Bool := decide (sp_com ρ (sp_le (fn (121 + 14 * q)) (fn (121 + 14 * q + 1)) (fn (128 + 14 * q)) (fn (128 + 14 * q + 1))) (j % 16 + 16 * q) A = fn (149 + 6 * q))
def sp_vf20 (fn : Nat → Nat) (j B : Nat) : Nat := sp_fo 1 (j % 16 + 16 * 0) (fn 149) (fn 155) B
def sp_vf21 (fn : Nat → Nat) (j B : Nat) : Nat := sp_fo 2 (j % 8 + 8 * 0) (fn 161) (fn 166) B
def sp_vf22 (fn : Nat → Nat) (j B : Nat) : Nat := sp_fo 4 (j % 4 + 4 * 0) (fn 171) (fn 175) B
def sp_vb20 (fn : Nat → Nat) (j : Nat) : Nat := fn (161 + 5 * (j % 16 / 8))
def sp_vb21 (fn : Nat → Nat) (j : Nat) : Nat := fn (171 + 4 * (j % 8 / 4))
def sp_code0 (ρ : sp_R) (f : Nat → Int32) (fn : Nat → Nat) (j A B0 B1 B2 : Nat) : Nat :=
  if sp_vc0 f j = false then 2 else if sp_vl00 f j = false then 3 else if (sp_vo0 ρ fn j A 0 && sp_vo0 ρ fn j A 1) = false then 4 else if sp_vl01 f j = false then 5 else if sp_vf00 fn j B0 ≠ sp_vb00 fn j then 6 else if sp_vl02 f j = false then 7 else if sp_vf01 fn j B1 ≠ sp_vb01 fn j then 8 else if sp_vf02 fn j B2 = fn 4 then 0 else 9
def sp_code1 (ρ : sp_R) (f : Nat → Int32) (fn : Nat → Nat) (j A B0 B1 B2 : Nat) : Nat :=
  if sp_vc1 f j = false then 2 else if sp_vl10 f j = false then 3 else if (sp_vo1 ρ fn j A 0 && sp_vo1 ρ fn j A 1) = false then 4 else if sp_vl11 f j = false then 5 else if sp_vf10 fn j B0 ≠ sp_vb10 fn j then 6 else if sp_vl12 f j = false then 7 else if sp_vf11 fn j B1 ≠ sp_vb11 fn j then 8 else if sp_vf12 fn j B2 = fn 4 then 0 else 9
def sp_code2 (ρ : sp_R) (f : Nat → Int32) (fn : Nat → Nat) (j A B0 B1 B2 : Nat) : Nat :=
  if sp_vc2 f j = false then 2 else if sp_vl20 f j = false then 3 else if (sp_vo2 ρ fn j A 0 && sp_vo2 ρ fn j A 1) = false then 4 else if sp_vl21 f j = false then 5 else if sp_vf20 fn j B0 ≠ sp_vb20 fn j then 6 else if sp_vl22 f j = false then 7 else if sp_vf21 fn j B1 ≠ sp_vb21 fn j then 8 else if sp_vf22 fn j B2 = fn 4 then 0 else 9
set_option maxRecDepth 100000 in
theorem c_Ve_doColumnPathsLead0 (l : Launch) (g : ew_G) (d L : Nat) (M : ew_M) (hs : sp_st M) (j : Nat) (hj : M 46 0 = nI j) (hj2 : j < 16) :
    Ew l g (d + 3) 0 0 m_Ve_doColumnPathsLead 0 [.ref 43, .int (nI 0), .retAddr 0, .retAddr 0, .retAddr 0, .retAddr 0] [] (ew_SH L) M (ew_q (some (.int (ew_b (sp_vc0 (M 22) j)))) (ew_SH L) M) := by
  refine ew_iconst (v := nI 0) d_Ve_doColumnPathsLead_0 (by decide) ?_
  refine en_istore_n (ls' := [.ref 43, .int (nI 0), .int (nI 0), .retAddr 0, .retAddr 0, .retAddr 0]) d_Ve_doColumnPathsLead_1 (Nat.le_of_ble_eq_true rfl) rfl ?_
  refine ew_iload_n d_Ve_doColumnPathsLead_2 rfl ?_
  refine ew_iconst (v := nI 4) d_Ve_doColumnPathsLead_3 (by decide) ?_
  refine en_icmp_ge (tgt := 78) d_Ve_doColumnPathsLead_4 (by decide) (by first | with_reducible assumption | with_reducible exact ep_lt _ | with_reducible exact sp_its_lt _ _ _ | with_reducible exact tb_l_rt _ | with_reducible exact tb_l_x _ | with_reducible exact tb_l_o0 _ | with_reducible exact tb_l_o1 _ | with_reducible exact tb_l_va _ | with_reducible exact tb_l_ll _ | with_reducible exact tb_l_cf _ | with_reducible exact tb_l_kf _ | with_reducible exact sp_ts_lt _ _ _ _ | with_reducible exact sp_w_lt _ _ | with_reducible exact sp_cs_lt _ _ _ _ _ | with_reducible exact sp_cb_lt _ _ _ _ _ | with_reducible exact sp_ch_lt _ | with_reducible exact sp_bf_lt _ _ | omega) (by first | with_reducible assumption | with_reducible exact ep_lt _ | with_reducible exact sp_its_lt _ _ _ | with_reducible exact tb_l_rt _ | with_reducible exact tb_l_x _ | with_reducible exact tb_l_o0 _ | with_reducible exact tb_l_o1 _ | with_reducible exact tb_l_va _ | with_reducible exact tb_l_ll _ | with_reducible exact tb_l_cf _ | with_reducible exact tb_l_kf _ | with_reducible exact sp_ts_lt _ _ _ _ | with_reducible exact sp_w_lt _ _ | with_reducible exact sp_cs_lt _ _ _ _ _ | with_reducible exact sp_cb_lt _ _ _ _ _ | with_reducible exact sp_ch_lt _ | with_reducible exact sp_bf_lt _ _ | omega) (fun h4 => by exact absurd h4 (by decide)) (fun h4 => ?_)
  refine ew_aload_n d_Ve_doColumnPathsLead_7 rfl ?_
  refine ew_iload_n d_Ve_doColumnPathsLead_8 rfl ?_
  refine en_callV (As := [.int (nI 0)]) (i := 43) (ci := 6) (st := []) (st1 := [.int (nI j)]) d_Ve_doColumnPathsLead_9 k_Ve_place rfl rfl tw_542 tw_543 tw_544 rfl (Nat.le_of_ble_eq_true rfl) rfl (Nat.le_of_ble_eq_true rfl) rfl rfl (c_Ve_place l g _ L M 0 j (by decide) (hj)) rfl ?_
  refine ew_iload_n d_Ve_doColumnPathsLead_12 rfl ?_
  refine en_callS (As := [.int (nI j), .int (nI 0)]) (st := []) (st1 := [.int (nI ((j + 0) % 32))]) d_Ve_doColumnPathsLead_13 k_Pf_columnIndex tw_546 tw_468 rfl (Nat.le_of_ble_eq_true rfl) rfl (Nat.le_of_ble_eq_true rfl) rfl rfl (c_Pf_columnIndex0 l g _ L M (hs) j (hj2)) rfl ?_
  refine en_istore_n (ls' := [.ref 43, .int (nI 0), .int (nI 0), .int (nI ((j + 0) % 32)), .retAddr 0, .retAddr 0]) d_Ve_doColumnPathsLead_16 (Nat.le_of_ble_eq_true rfl) rfl ?_
  refine ew_iload_n d_Ve_doColumnPathsLead_17 rfl ?_
  refine ew_iload_n d_Ve_doColumnPathsLead_18 rfl ?_
  refine en_callS (As := [.int (nI 0), .int (nI 0)]) (st := []) (st1 := [.int (nI 5)]) d_Ve_doColumnPathsLead_19 k_Pf_columnStart tw_547 tw_473 rfl (Nat.le_of_ble_eq_true rfl) rfl (Nat.le_of_ble_eq_true rfl) rfl rfl (c_Pf_columnStart l g _ L M 0 0) rfl ?_
  refine en_istore (ls' := [.ref 43, .int (nI 0), .int (nI 0), .int (nI ((j + 0) % 32)), .int (nI 5), .retAddr 0]) d_Ve_doColumnPathsLead_22 (Nat.le_of_ble_eq_true rfl) rfl ?_
  refine ew_aload_n d_Ve_doColumnPathsLead_24 rfl ?_
  refine ew_getr (ci := 6) (f := 3) d_Ve_doColumnPathsLead_25 rfl rfl rfl tw_200 ?_
  refine ew_iload d_Ve_doColumnPathsLead_28 rfl ?_
  refine ew_iald (j := 5) d_Ve_doColumnPathsLead_30 rfl (rfl) (by decide) (by decide) ?_
  refine ew_aload_n d_Ve_doColumnPathsLead_31 rfl ?_
  refine ew_getr (ci := 6) (f := 3) d_Ve_doColumnPathsLead_32 rfl rfl rfl tw_200 ?_
  refine ew_iload d_Ve_doColumnPathsLead_35 rfl ?_
  refine ew_iconst (v := nI 1) d_Ve_doColumnPathsLead_37 (by decide) ?_
  refine en_iadd d_Ve_doColumnPathsLead_38 ?_
  refine en_eq rfl (show _ = [.int (nI 6), .ref 22, .int (M 22 5)] from rfl) rfl ?_
  refine ew_iald (j := 6) d_Ve_doColumnPathsLead_39 rfl (rfl) (by decide) (by decide) ?_
  refine en_callS (As := [.int (M 22 5), .int (M 22 6)]) (st := []) (st1 := [.int (sp_mix (M 22 5) (M 22 6))]) d_Ve_doColumnPathsLead_40 k_Pf_columnLeaf tw_548 tw_373 rfl (Nat.le_of_ble_eq_true rfl) rfl (Nat.le_of_ble_eq_true rfl) rfl rfl (c_Pf_columnLeaf l g _ L M (M 22 5) (M 22 6)) rfl ?_
  refine en_istore (ls' := [.ref 43, .int (nI 0), .int (nI 0), .int (nI ((j + 0) % 32)), .int (nI 5), .int (sp_mix (M 22 5) (M 22 6))]) d_Ve_doColumnPathsLead_43 (Nat.le_of_ble_eq_true rfl) rfl ?_
  refine ew_bipush (v := nI 32) d_Ve_doColumnPathsLead_45 (by decide) ?_
  refine ew_iload_n d_Ve_doColumnPathsLead_47 rfl ?_
  refine ew_iload d_Ve_doColumnPathsLead_48 rfl ?_
  refine ew_aload_n d_Ve_doColumnPathsLead_50 rfl ?_
  refine ew_getr (ci := 6) (f := 3) d_Ve_doColumnPathsLead_51 rfl rfl rfl tw_200 ?_
  refine ew_iload d_Ve_doColumnPathsLead_54 rfl ?_
  refine ew_iconst (v := nI 2) d_Ve_doColumnPathsLead_56 (by decide) ?_
  refine en_iadd d_Ve_doColumnPathsLead_57 ?_
  refine en_eq rfl (show _ = [.int (nI 7), .ref 22, .int (sp_mix (M 22 5) (M 22 6)), .int (nI ((j + 0) % 32)), .int (nI 32)] from rfl) rfl ?_
  refine en_callS (As := [.int (nI 32), .int (nI ((j + 0) % 32)), .int (sp_mix (M 22 5) (M 22 6)), .ref 22, .int (nI 7)]) (st := []) (st1 := [.int (sp_ro (M 22) 6 (sp_mix (M 22 5) (M 22 6)) (32 + ((j + 0) % 32)) 7)]) d_Ve_doColumnPathsLead_58 k_Tr_rootOf tw_549 tw_550 rfl (Nat.le_of_ble_eq_true rfl) rfl (Nat.le_of_ble_eq_true rfl) rfl rfl (c_Tr_rootOf l g _ L M 32 ((j + 0) % 32) 7 6 (sp_mix (M 22 5) (M 22 6)) (by omega) (by omega) (by omega)) rfl ?_
  refine ew_aload_n d_Ve_doColumnPathsLead_61 rfl ?_
  refine ew_getr (ci := 6) (f := 3) d_Ve_doColumnPathsLead_62 rfl rfl rfl tw_200 ?_
  refine ew_iconst (v := nI 0) d_Ve_doColumnPathsLead_65 (by decide) ?_
  refine ew_iald (j := 0) d_Ve_doColumnPathsLead_66 rfl (rfl) (by decide) (by decide) ?_
  refine ew_icmp_eq (tgt := 72) d_Ve_doColumnPathsLead_67 (by decide) (fun h67 => ?_) (fun h67 => ?_)
  · refine en_inc (ls' := [.ref 43, .int (nI 0), .int (nI 1), .int (nI ((j + 0) % 32)), .int (nI 5), .int (sp_mix (M 22 5) (M 22 6))]) d_Ve_doColumnPathsLead_72 rfl rfl ?_
    refine ew_goto (tgt := 2) d_Ve_doColumnPathsLead_75 (by decide) ?_
    refine ew_iload_n d_Ve_doColumnPathsLead_2 rfl ?_
    refine ew_iconst (v := nI 4) d_Ve_doColumnPathsLead_3 (by decide) ?_
    refine en_icmp_ge (tgt := 78) d_Ve_doColumnPathsLead_4 (by decide) (by first | with_reducible assumption | with_reducible exact ep_lt _ | with_reducible exact sp_its_lt _ _ _ | with_reducible exact tb_l_rt _ | with_reducible exact tb_l_x _ | with_reducible exact tb_l_o0 _ | with_reducible exact tb_l_o1 _ | with_reducible exact tb_l_va _ | with_reducible exact tb_l_ll _ | with_reducible exact tb_l_cf _ | with_reducible exact tb_l_kf _ | with_reducible exact sp_ts_lt _ _ _ _ | with_reducible exact sp_w_lt _ _ | with_reducible exact sp_cs_lt _ _ _ _ _ | with_reducible exact sp_cb_lt _ _ _ _ _ | with_reducible exact sp_ch_lt _ | with_reducible exact sp_bf_lt _ _ | omega) (by first | with_reducible assumption | with_reducible exact ep_lt _ | with_reducible exact sp_its_lt _ _ _ | with_reducible exact tb_l_rt _ | with_reducible exact tb_l_x _ | with_reducible exact tb_l_o0 _ | with_reducible exact tb_l_o1 _ | with_reducible exact tb_l_va _ | with_reducible exact tb_l_ll _ | with_reducible exact tb_l_cf _ | with_reducible exact tb_l_kf _ | with_reducible exact sp_ts_lt _ _ _ _ | with_reducible exact sp_w_lt _ _ | with_reducible exact sp_cs_lt _ _ _ _ _ | with_reducible exact sp_cb_lt _ _ _ _ _ | with_reducible exact sp_ch_lt _ | with_reducible exact sp_bf_lt _ _ | omega) (fun h4_1 => by exact absurd h4_1 (by decide)) (fun h4_1 => ?_)
    refine ew_aload_n d_Ve_doColumnPathsLead_7 rfl ?_
    refine ew_iload_n d_Ve_doColumnPathsLead_8 rfl ?_
    refine en_callV (As := [.int (nI 0)]) (i := 43) (ci := 6) (st := []) (st1 := [.int (nI j)]) d_Ve_doColumnPathsLead_9 k_Ve_place rfl rfl tw_542 tw_543 tw_544 rfl (Nat.le_of_ble_eq_true rfl) rfl (Nat.le_of_ble_eq_true rfl) rfl rfl (c_Ve_place l g _ L M 0 j (by decide) (hj)) rfl ?_
    refine ew_iload_n d_Ve_doColumnPathsLead_12 rfl ?_
    refine en_callS (As := [.int (nI j), .int (nI 1)]) (st := []) (st1 := [.int (nI ((j + 4) % 32))]) d_Ve_doColumnPathsLead_13 k_Pf_columnIndex tw_546 tw_468 rfl (Nat.le_of_ble_eq_true rfl) rfl (Nat.le_of_ble_eq_true rfl) rfl rfl (c_Pf_columnIndex1 l g _ L M (hs) j (hj2)) rfl ?_
    refine en_istore_n (ls' := [.ref 43, .int (nI 0), .int (nI 1), .int (nI ((j + 4) % 32)), .int (nI 5), .int (sp_mix (M 22 5) (M 22 6))]) d_Ve_doColumnPathsLead_16 (Nat.le_of_ble_eq_true rfl) rfl ?_
    refine ew_iload_n d_Ve_doColumnPathsLead_17 rfl ?_
    refine ew_iload_n d_Ve_doColumnPathsLead_18 rfl ?_
    refine en_callS (As := [.int (nI 0), .int (nI 1)]) (st := []) (st1 := [.int (nI 12)]) d_Ve_doColumnPathsLead_19 k_Pf_columnStart tw_547 tw_473 rfl (Nat.le_of_ble_eq_true rfl) rfl (Nat.le_of_ble_eq_true rfl) rfl rfl (c_Pf_columnStart l g _ L M 0 1) rfl ?_
    refine en_istore (ls' := [.ref 43, .int (nI 0), .int (nI 1), .int (nI ((j + 4) % 32)), .int (nI 12), .int (sp_mix (M 22 5) (M 22 6))]) d_Ve_doColumnPathsLead_22 (Nat.le_of_ble_eq_true rfl) rfl ?_
    refine ew_aload_n d_Ve_doColumnPathsLead_24 rfl ?_
    refine ew_getr (ci := 6) (f := 3) d_Ve_doColumnPathsLead_25 rfl rfl rfl tw_200 ?_
    refine ew_iload d_Ve_doColumnPathsLead_28 rfl ?_
    refine ew_iald (j := 12) d_Ve_doColumnPathsLead_30 rfl (rfl) (by decide) (by decide) ?_
    refine ew_aload_n d_Ve_doColumnPathsLead_31 rfl ?_
    refine ew_getr (ci := 6) (f := 3) d_Ve_doColumnPathsLead_32 rfl rfl rfl tw_200 ?_
    refine ew_iload d_Ve_doColumnPathsLead_35 rfl ?_
    refine ew_iconst (v := nI 1) d_Ve_doColumnPathsLead_37 (by decide) ?_
    refine en_iadd d_Ve_doColumnPathsLead_38 ?_
    refine en_eq rfl (show _ = [.int (nI 13), .ref 22, .int (M 22 12)] from rfl) rfl ?_
    refine ew_iald (j := 13) d_Ve_doColumnPathsLead_39 rfl (rfl) (by decide) (by decide) ?_
    refine en_callS (As := [.int (M 22 12), .int (M 22 13)]) (st := []) (st1 := [.int (sp_mix (M 22 12) (M 22 13))]) d_Ve_doColumnPathsLead_40 k_Pf_columnLeaf tw_548 tw_373 rfl (Nat.le_of_ble_eq_true rfl) rfl (Nat.le_of_ble_eq_true rfl) rfl rfl (c_Pf_columnLeaf l g _ L M (M 22 12) (M 22 13)) rfl ?_
    refine en_istore (ls' := [.ref 43, .int (nI 0), .int (nI 1), .int (nI ((j + 4) % 32)), .int (nI 12), .int (sp_mix (M 22 12) (M 22 13))]) d_Ve_doColumnPathsLead_43 (Nat.le_of_ble_eq_true rfl) rfl ?_
    refine ew_bipush (v := nI 32) d_Ve_doColumnPathsLead_45 (by decide) ?_
    refine ew_iload_n d_Ve_doColumnPathsLead_47 rfl ?_
    refine ew_iload d_Ve_doColumnPathsLead_48 rfl ?_
    refine ew_aload_n d_Ve_doColumnPathsLead_50 rfl ?_
    refine ew_getr (ci := 6) (f := 3) d_Ve_doColumnPathsLead_51 rfl rfl rfl tw_200 ?_
    refine ew_iload d_Ve_doColumnPathsLead_54 rfl ?_
    refine ew_iconst (v := nI 2) d_Ve_doColumnPathsLead_56 (by decide) ?_
    refine en_iadd d_Ve_doColumnPathsLead_57 ?_
    refine en_eq rfl (show _ = [.int (nI 14), .ref 22, .int (sp_mix (M 22 12) (M 22 13)), .int (nI ((j + 4) % 32)), .int (nI 32)] from rfl) rfl ?_
    refine en_callS (As := [.int (nI 32), .int (nI ((j + 4) % 32)), .int (sp_mix (M 22 12) (M 22 13)), .ref 22, .int (nI 14)]) (st := []) (st1 := [.int (sp_ro (M 22) 6 (sp_mix (M 22 12) (M 22 13)) (32 + ((j + 4) % 32)) 14)]) d_Ve_doColumnPathsLead_58 k_Tr_rootOf tw_549 tw_550 rfl (Nat.le_of_ble_eq_true rfl) rfl (Nat.le_of_ble_eq_true rfl) rfl rfl (c_Tr_rootOf l g _ L M 32 ((j + 4) % 32) 14 6 (sp_mix (M 22 12) (M 22 13)) (by omega) (by omega) (by omega)) rfl ?_
    refine ew_aload_n d_Ve_doColumnPathsLead_61 rfl ?_
    refine ew_getr (ci := 6) (f := 3) d_Ve_doColumnPathsLead_62 rfl rfl rfl tw_200 ?_
    refine ew_iconst (v := nI 0) d_Ve_doColumnPathsLead_65 (by decide) ?_
    refine ew_iald (j := 0) d_Ve_doColumnPathsLead_66 rfl (rfl) (by decide) (by decide) ?_
    refine ew_icmp_eq (tgt := 72) d_Ve_doColumnPathsLead_67 (by decide) (fun h67_1 => ?_) (fun h67_1 => ?_)
    · refine en_inc (ls' := [.ref 43, .int (nI 0), .int (nI 2), .int (nI ((j + 4) % 32)), .int (nI 12), .int (sp_mix (M 22 12) (M 22 13))]) d_Ve_doColumnPathsLead_72 rfl rfl ?_
      refine ew_goto (tgt := 2) d_Ve_doColumnPathsLead_75 (by decide) ?_
      refine ew_iload_n d_Ve_doColumnPathsLead_2 rfl ?_
      refine ew_iconst (v := nI 4) d_Ve_doColumnPathsLead_3 (by decide) ?_
      refine en_icmp_ge (tgt := 78) d_Ve_doColumnPathsLead_4 (by decide) (by first | with_reducible assumption | with_reducible exact ep_lt _ | with_reducible exact sp_its_lt _ _ _ | with_reducible exact tb_l_rt _ | with_reducible exact tb_l_x _ | with_reducible exact tb_l_o0 _ | with_reducible exact tb_l_o1 _ | with_reducible exact tb_l_va _ | with_reducible exact tb_l_ll _ | with_reducible exact tb_l_cf _ | with_reducible exact tb_l_kf _ | with_reducible exact sp_ts_lt _ _ _ _ | with_reducible exact sp_w_lt _ _ | with_reducible exact sp_cs_lt _ _ _ _ _ | with_reducible exact sp_cb_lt _ _ _ _ _ | with_reducible exact sp_ch_lt _ | with_reducible exact sp_bf_lt _ _ | omega) (by first | with_reducible assumption | with_reducible exact ep_lt _ | with_reducible exact sp_its_lt _ _ _ | with_reducible exact tb_l_rt _ | with_reducible exact tb_l_x _ | with_reducible exact tb_l_o0 _ | with_reducible exact tb_l_o1 _ | with_reducible exact tb_l_va _ | with_reducible exact tb_l_ll _ | with_reducible exact tb_l_cf _ | with_reducible exact tb_l_kf _ | with_reducible exact sp_ts_lt _ _ _ _ | with_reducible exact sp_w_lt _ _ | with_reducible exact sp_cs_lt _ _ _ _ _ | with_reducible exact sp_cb_lt _ _ _ _ _ | with_reducible exact sp_ch_lt _ | with_reducible exact sp_bf_lt _ _ | omega) (fun h4_2 => by exact absurd h4_2 (by decide)) (fun h4_2 => ?_)
      refine ew_aload_n d_Ve_doColumnPathsLead_7 rfl ?_
      refine ew_iload_n d_Ve_doColumnPathsLead_8 rfl ?_
      refine en_callV (As := [.int (nI 0)]) (i := 43) (ci := 6) (st := []) (st1 := [.int (nI j)]) d_Ve_doColumnPathsLead_9 k_Ve_place rfl rfl tw_542 tw_543 tw_544 rfl (Nat.le_of_ble_eq_true rfl) rfl (Nat.le_of_ble_eq_true rfl) rfl rfl (c_Ve_place l g _ L M 0 j (by decide) (hj)) rfl ?_
      refine ew_iload_n d_Ve_doColumnPathsLead_12 rfl ?_
      refine en_callS (As := [.int (nI j), .int (nI 2)]) (st := []) (st1 := [.int (nI ((j + 16) % 32))]) d_Ve_doColumnPathsLead_13 k_Pf_columnIndex tw_546 tw_468 rfl (Nat.le_of_ble_eq_true rfl) rfl (Nat.le_of_ble_eq_true rfl) rfl rfl (c_Pf_columnIndex2 l g _ L M (hs) j (hj2)) rfl ?_
      refine en_istore_n (ls' := [.ref 43, .int (nI 0), .int (nI 2), .int (nI ((j + 16) % 32)), .int (nI 12), .int (sp_mix (M 22 12) (M 22 13))]) d_Ve_doColumnPathsLead_16 (Nat.le_of_ble_eq_true rfl) rfl ?_
      refine ew_iload_n d_Ve_doColumnPathsLead_17 rfl ?_
      refine ew_iload_n d_Ve_doColumnPathsLead_18 rfl ?_
      refine en_callS (As := [.int (nI 0), .int (nI 2)]) (st := []) (st1 := [.int (nI 19)]) d_Ve_doColumnPathsLead_19 k_Pf_columnStart tw_547 tw_473 rfl (Nat.le_of_ble_eq_true rfl) rfl (Nat.le_of_ble_eq_true rfl) rfl rfl (c_Pf_columnStart l g _ L M 0 2) rfl ?_
      refine en_istore (ls' := [.ref 43, .int (nI 0), .int (nI 2), .int (nI ((j + 16) % 32)), .int (nI 19), .int (sp_mix (M 22 12) (M 22 13))]) d_Ve_doColumnPathsLead_22 (Nat.le_of_ble_eq_true rfl) rfl ?_
      refine ew_aload_n d_Ve_doColumnPathsLead_24 rfl ?_
      refine ew_getr (ci := 6) (f := 3) d_Ve_doColumnPathsLead_25 rfl rfl rfl tw_200 ?_
      refine ew_iload d_Ve_doColumnPathsLead_28 rfl ?_
      refine ew_iald (j := 19) d_Ve_doColumnPathsLead_30 rfl (rfl) (by decide) (by decide) ?_
      refine ew_aload_n d_Ve_doColumnPathsLead_31 rfl ?_
      refine ew_getr (ci := 6) (f := 3) d_Ve_doColumnPathsLead_32 rfl rfl rfl tw_200 ?_
      refine ew_iload d_Ve_doColumnPathsLead_35 rfl ?_
      refine ew_iconst (v := nI 1) d_Ve_doColumnPathsLead_37 (by decide) ?_
      refine en_iadd d_Ve_doColumnPathsLead_38 ?_
      refine en_eq rfl (show _ = [.int (nI 20), .ref 22, .int (M 22 19)] from rfl) rfl ?_
      refine ew_iald (j := 20) d_Ve_doColumnPathsLead_39 rfl (rfl) (by decide) (by decide) ?_
      refine en_callS (As := [.int (M 22 19), .int (M 22 20)]) (st := []) (st1 := [.int (sp_mix (M 22 19) (M 22 20))]) d_Ve_doColumnPathsLead_40 k_Pf_columnLeaf tw_548 tw_373 rfl (Nat.le_of_ble_eq_true rfl) rfl (Nat.le_of_ble_eq_true rfl) rfl rfl (c_Pf_columnLeaf l g _ L M (M 22 19) (M 22 20)) rfl ?_
      refine en_istore (ls' := [.ref 43, .int (nI 0), .int (nI 2), .int (nI ((j + 16) % 32)), .int (nI 19), .int (sp_mix (M 22 19) (M 22 20))]) d_Ve_doColumnPathsLead_43 (Nat.le_of_ble_eq_true rfl) rfl ?_
      refine ew_bipush (v := nI 32) d_Ve_doColumnPathsLead_45 (by decide) ?_
      refine ew_iload_n d_Ve_doColumnPathsLead_47 rfl ?_
      refine ew_iload d_Ve_doColumnPathsLead_48 rfl ?_
      refine ew_aload_n d_Ve_doColumnPathsLead_50 rfl ?_
      refine ew_getr (ci := 6) (f := 3) d_Ve_doColumnPathsLead_51 rfl rfl rfl tw_200 ?_
      refine ew_iload d_Ve_doColumnPathsLead_54 rfl ?_
      refine ew_iconst (v := nI 2) d_Ve_doColumnPathsLead_56 (by decide) ?_
      refine en_iadd d_Ve_doColumnPathsLead_57 ?_
      refine en_eq rfl (show _ = [.int (nI 21), .ref 22, .int (sp_mix (M 22 19) (M 22 20)), .int (nI ((j + 16) % 32)), .int (nI 32)] from rfl) rfl ?_
      refine en_callS (As := [.int (nI 32), .int (nI ((j + 16) % 32)), .int (sp_mix (M 22 19) (M 22 20)), .ref 22, .int (nI 21)]) (st := []) (st1 := [.int (sp_ro (M 22) 6 (sp_mix (M 22 19) (M 22 20)) (32 + ((j + 16) % 32)) 21)]) d_Ve_doColumnPathsLead_58 k_Tr_rootOf tw_549 tw_550 rfl (Nat.le_of_ble_eq_true rfl) rfl (Nat.le_of_ble_eq_true rfl) rfl rfl (c_Tr_rootOf l g _ L M 32 ((j + 16) % 32) 21 6 (sp_mix (M 22 19) (M 22 20)) (by omega) (by omega) (by omega)) rfl ?_
      refine ew_aload_n d_Ve_doColumnPathsLead_61 rfl ?_
      refine ew_getr (ci := 6) (f := 3) d_Ve_doColumnPathsLead_62 rfl rfl rfl tw_200 ?_
      refine ew_iconst (v := nI 0) d_Ve_doColumnPathsLead_65 (by decide) ?_
      refine ew_iald (j := 0) d_Ve_doColumnPathsLead_66 rfl (rfl) (by decide) (by decide) ?_
      refine ew_icmp_eq (tgt := 72) d_Ve_doColumnPathsLead_67 (by decide) (fun h67_2 => ?_) (fun h67_2 => ?_)
      · refine en_inc (ls' := [.ref 43, .int (nI 0), .int (nI 3), .int (nI ((j + 16) % 32)), .int (nI 19), .int (sp_mix (M 22 19) (M 22 20))]) d_Ve_doColumnPathsLead_72 rfl rfl ?_
        refine ew_goto (tgt := 2) d_Ve_doColumnPathsLead_75 (by decide) ?_
        refine ew_iload_n d_Ve_doColumnPathsLead_2 rfl ?_
        refine ew_iconst (v := nI 4) d_Ve_doColumnPathsLead_3 (by decide) ?_
        refine en_icmp_ge (tgt := 78) d_Ve_doColumnPathsLead_4 (by decide) (by first | with_reducible assumption | with_reducible exact ep_lt _ | with_reducible exact sp_its_lt _ _ _ | with_reducible exact tb_l_rt _ | with_reducible exact tb_l_x _ | with_reducible exact tb_l_o0 _ | with_reducible exact tb_l_o1 _ | with_reducible exact tb_l_va _ | with_reducible exact tb_l_ll _ | with_reducible exact tb_l_cf _ | with_reducible exact tb_l_kf _ | with_reducible exact sp_ts_lt _ _ _ _ | with_reducible exact sp_w_lt _ _ | with_reducible exact sp_cs_lt _ _ _ _ _ | with_reducible exact sp_cb_lt _ _ _ _ _ | with_reducible exact sp_ch_lt _ | with_reducible exact sp_bf_lt _ _ | omega) (by first | with_reducible assumption | with_reducible exact ep_lt _ | with_reducible exact sp_its_lt _ _ _ | with_reducible exact tb_l_rt _ | with_reducible exact tb_l_x _ | with_reducible exact tb_l_o0 _ | with_reducible exact tb_l_o1 _ | with_reducible exact tb_l_va _ | with_reducible exact tb_l_ll _ | with_reducible exact tb_l_cf _ | with_reducible exact tb_l_kf _ | with_reducible exact sp_ts_lt _ _ _ _ | with_reducible exact sp_w_lt _ _ | with_reducible exact sp_cs_lt _ _ _ _ _ | with_reducible exact sp_cb_lt _ _ _ _ _ | with_reducible exact sp_ch_lt _ | with_reducible exact sp_bf_lt _ _ | omega) (fun h4_3 => by exact absurd h4_3 (by decide)) (fun h4_3 => ?_)
        refine ew_aload_n d_Ve_doColumnPathsLead_7 rfl ?_
        refine ew_iload_n d_Ve_doColumnPathsLead_8 rfl ?_
        refine en_callV (As := [.int (nI 0)]) (i := 43) (ci := 6) (st := []) (st1 := [.int (nI j)]) d_Ve_doColumnPathsLead_9 k_Ve_place rfl rfl tw_542 tw_543 tw_544 rfl (Nat.le_of_ble_eq_true rfl) rfl (Nat.le_of_ble_eq_true rfl) rfl rfl (c_Ve_place l g _ L M 0 j (by decide) (hj)) rfl ?_
        refine ew_iload_n d_Ve_doColumnPathsLead_12 rfl ?_
        refine en_callS (As := [.int (nI j), .int (nI 3)]) (st := []) (st1 := [.int (nI ((j + 20) % 32))]) d_Ve_doColumnPathsLead_13 k_Pf_columnIndex tw_546 tw_468 rfl (Nat.le_of_ble_eq_true rfl) rfl (Nat.le_of_ble_eq_true rfl) rfl rfl (c_Pf_columnIndex3 l g _ L M (hs) j (hj2)) rfl ?_
        refine en_istore_n (ls' := [.ref 43, .int (nI 0), .int (nI 3), .int (nI ((j + 20) % 32)), .int (nI 19), .int (sp_mix (M 22 19) (M 22 20))]) d_Ve_doColumnPathsLead_16 (Nat.le_of_ble_eq_true rfl) rfl ?_
        refine ew_iload_n d_Ve_doColumnPathsLead_17 rfl ?_
        refine ew_iload_n d_Ve_doColumnPathsLead_18 rfl ?_
        refine en_callS (As := [.int (nI 0), .int (nI 3)]) (st := []) (st1 := [.int (nI 26)]) d_Ve_doColumnPathsLead_19 k_Pf_columnStart tw_547 tw_473 rfl (Nat.le_of_ble_eq_true rfl) rfl (Nat.le_of_ble_eq_true rfl) rfl rfl (c_Pf_columnStart l g _ L M 0 3) rfl ?_
        refine en_istore (ls' := [.ref 43, .int (nI 0), .int (nI 3), .int (nI ((j + 20) % 32)), .int (nI 26), .int (sp_mix (M 22 19) (M 22 20))]) d_Ve_doColumnPathsLead_22 (Nat.le_of_ble_eq_true rfl) rfl ?_
        refine ew_aload_n d_Ve_doColumnPathsLead_24 rfl ?_
        refine ew_getr (ci := 6) (f := 3) d_Ve_doColumnPathsLead_25 rfl rfl rfl tw_200 ?_
        refine ew_iload d_Ve_doColumnPathsLead_28 rfl ?_
        refine ew_iald (j := 26) d_Ve_doColumnPathsLead_30 rfl (rfl) (by decide) (by decide) ?_
        refine ew_aload_n d_Ve_doColumnPathsLead_31 rfl ?_
        refine ew_getr (ci := 6) (f := 3) d_Ve_doColumnPathsLead_32 rfl rfl rfl tw_200 ?_
        refine ew_iload d_Ve_doColumnPathsLead_35 rfl ?_
        refine ew_iconst (v := nI 1) d_Ve_doColumnPathsLead_37 (by decide) ?_
        refine en_iadd d_Ve_doColumnPathsLead_38 ?_
        refine en_eq rfl (show _ = [.int (nI 27), .ref 22, .int (M 22 26)] from rfl) rfl ?_
        refine ew_iald (j := 27) d_Ve_doColumnPathsLead_39 rfl (rfl) (by decide) (by decide) ?_
        refine en_callS (As := [.int (M 22 26), .int (M 22 27)]) (st := []) (st1 := [.int (sp_mix (M 22 26) (M 22 27))]) d_Ve_doColumnPathsLead_40 k_Pf_columnLeaf tw_548 tw_373 rfl (Nat.le_of_ble_eq_true rfl) rfl (Nat.le_of_ble_eq_true rfl) rfl rfl (c_Pf_columnLeaf l g _ L M (M 22 26) (M 22 27)) rfl ?_
        refine en_istore (ls' := [.ref 43, .int (nI 0), .int (nI 3), .int (nI ((j + 20) % 32)), .int (nI 26), .int (sp_mix (M 22 26) (M 22 27))]) d_Ve_doColumnPathsLead_43 (Nat.le_of_ble_eq_true rfl) rfl ?_
        refine ew_bipush (v := nI 32) d_Ve_doColumnPathsLead_45 (by decide) ?_
        refine ew_iload_n d_Ve_doColumnPathsLead_47 rfl ?_
        refine ew_iload d_Ve_doColumnPathsLead_48 rfl ?_
        refine ew_aload_n d_Ve_doColumnPathsLead_50 rfl ?_
        refine ew_getr (ci := 6) (f := 3) d_Ve_doColumnPathsLead_51 rfl rfl rfl tw_200 ?_
        refine ew_iload d_Ve_doColumnPathsLead_54 rfl ?_
        refine ew_iconst (v := nI 2) d_Ve_doColumnPathsLead_56 (by decide) ?_
        refine en_iadd d_Ve_doColumnPathsLead_57 ?_
        refine en_eq rfl (show _ = [.int (nI 28), .ref 22, .int (sp_mix (M 22 26) (M 22 27)), .int (nI ((j + 20) % 32)), .int (nI 32)] from rfl) rfl ?_
        refine en_callS (As := [.int (nI 32), .int (nI ((j + 20) % 32)), .int (sp_mix (M 22 26) (M 22 27)), .ref 22, .int (nI 28)]) (st := []) (st1 := [.int (sp_ro (M 22) 6 (sp_mix (M 22 26) (M 22 27)) (32 + ((j + 20) % 32)) 28)]) d_Ve_doColumnPathsLead_58 k_Tr_rootOf tw_549 tw_550 rfl (Nat.le_of_ble_eq_true rfl) rfl (Nat.le_of_ble_eq_true rfl) rfl rfl (c_Tr_rootOf l g _ L M 32 ((j + 20) % 32) 28 6 (sp_mix (M 22 26) (M 22 27)) (by omega) (by omega) (by omega)) rfl ?_
        refine ew_aload_n d_Ve_doColumnPathsLead_61 rfl ?_
        refine ew_getr (ci := 6) (f := 3) d_Ve_doColumnPathsLead_62 rfl rfl rfl tw_200 ?_
        refine ew_iconst (v := nI 0) d_Ve_doColumnPathsLead_65 (by decide) ?_
        refine ew_iald (j := 0) d_Ve_doColumnPathsLead_66 rfl (rfl) (by decide) (by decide) ?_
        refine ew_icmp_eq (tgt := 72) d_Ve_doColumnPathsLead_67 (by decide) (fun h67_3 => ?_) (fun h67_3 => ?_)
        · refine en_inc (ls' := [.ref 43, .int (nI 0), .int (nI 4), .int (nI ((j + 20) % 32)), .int (nI 26), .int (sp_mix (M 22 26) (M 22 27))]) d_Ve_doColumnPathsLead_72 rfl rfl ?_
          refine ew_goto (tgt := 2) d_Ve_doColumnPathsLead_75 (by decide) ?_
          refine ew_iload_n d_Ve_doColumnPathsLead_2 rfl ?_
          refine ew_iconst (v := nI 4) d_Ve_doColumnPathsLead_3 (by decide) ?_
          refine en_icmp_ge (tgt := 78) d_Ve_doColumnPathsLead_4 (by decide) (by first | with_reducible assumption | with_reducible exact ep_lt _ | with_reducible exact sp_its_lt _ _ _ | with_reducible exact tb_l_rt _ | with_reducible exact tb_l_x _ | with_reducible exact tb_l_o0 _ | with_reducible exact tb_l_o1 _ | with_reducible exact tb_l_va _ | with_reducible exact tb_l_ll _ | with_reducible exact tb_l_cf _ | with_reducible exact tb_l_kf _ | with_reducible exact sp_ts_lt _ _ _ _ | with_reducible exact sp_w_lt _ _ | with_reducible exact sp_cs_lt _ _ _ _ _ | with_reducible exact sp_cb_lt _ _ _ _ _ | with_reducible exact sp_ch_lt _ | with_reducible exact sp_bf_lt _ _ | omega) (by first | with_reducible assumption | with_reducible exact ep_lt _ | with_reducible exact sp_its_lt _ _ _ | with_reducible exact tb_l_rt _ | with_reducible exact tb_l_x _ | with_reducible exact tb_l_o0 _ | with_reducible exact tb_l_o1 _ | with_reducible exact tb_l_va _ | with_reducible exact tb_l_ll _ | with_reducible exact tb_l_cf _ | with_reducible exact tb_l_kf _ | with_reducible exact sp_ts_lt _ _ _ _ | with_reducible exact sp_w_lt _ _ | with_reducible exact sp_cs_lt _ _ _ _ _ | with_reducible exact sp_cb_lt _ _ _ _ _ | with_reducible exact sp_ch_lt _ | with_reducible exact sp_bf_lt _ _ | omega) (fun h4_4 => ?_) (fun h4_4 => by exact absurd h4_4 (by decide))
          refine ew_iconst (v := nI 1) d_Ve_doColumnPathsLead_78 (by decide) ?_
          exact ew_zret d_Ve_doColumnPathsLead_79 rfl (by decide) (⟨by rw [show sp_vc0 (M 22) j = true from by (unfold sp_vc0; rw [show (decide (sp_ro (M 22) 6 (sp_mix (M 22 5) (M 22 6)) (32 + (j + 0) % 32) 7 = M 22 0)) = true from decide_eq_true h67, show (decide (sp_ro (M 22) 6 (sp_mix (M 22 12) (M 22 13)) (32 + (j + 4) % 32) 14 = M 22 0)) = true from decide_eq_true h67_1, show (decide (sp_ro (M 22) 6 (sp_mix (M 22 19) (M 22 20)) (32 + (j + 16) % 32) 21 = M 22 0)) = true from decide_eq_true h67_2, show (decide (sp_ro (M 22) 6 (sp_mix (M 22 26) (M 22 27)) (32 + (j + 20) % 32) 28 = M 22 0)) = true from decide_eq_true h67_3]; first | rfl | done)]; rfl, rfl, rfl⟩)
        · refine ew_iconst (v := nI 0) d_Ve_doColumnPathsLead_70 (by decide) ?_
          exact ew_zret d_Ve_doColumnPathsLead_71 rfl (by decide) (⟨by rw [show sp_vc0 (M 22) j = false from by (unfold sp_vc0; rw [show (decide (sp_ro (M 22) 6 (sp_mix (M 22 5) (M 22 6)) (32 + (j + 0) % 32) 7 = M 22 0)) = true from decide_eq_true h67, show (decide (sp_ro (M 22) 6 (sp_mix (M 22 12) (M 22 13)) (32 + (j + 4) % 32) 14 = M 22 0)) = true from decide_eq_true h67_1, show (decide (sp_ro (M 22) 6 (sp_mix (M 22 19) (M 22 20)) (32 + (j + 16) % 32) 21 = M 22 0)) = true from decide_eq_true h67_2, show (decide (sp_ro (M 22) 6 (sp_mix (M 22 26) (M 22 27)) (32 + (j + 20) % 32) 28 = M 22 0)) = false from decide_eq_false h67_3]; first | rfl | done)]; rfl, rfl, rfl⟩)
      · refine ew_iconst (v := nI 0) d_Ve_doColumnPathsLead_70 (by decide) ?_
        exact ew_zret d_Ve_doColumnPathsLead_71 rfl (by decide) (⟨by rw [show sp_vc0 (M 22) j = false from by (unfold sp_vc0; rw [show (decide (sp_ro (M 22) 6 (sp_mix (M 22 5) (M 22 6)) (32 + (j + 0) % 32) 7 = M 22 0)) = true from decide_eq_true h67, show (decide (sp_ro (M 22) 6 (sp_mix (M 22 12) (M 22 13)) (32 + (j + 4) % 32) 14 = M 22 0)) = true from decide_eq_true h67_1, show (decide (sp_ro (M 22) 6 (sp_mix (M 22 19) (M 22 20)) (32 + (j + 16) % 32) 21 = M 22 0)) = false from decide_eq_false h67_2]; first | rfl | done)]; rfl, rfl, rfl⟩)
    · refine ew_iconst (v := nI 0) d_Ve_doColumnPathsLead_70 (by decide) ?_
      exact ew_zret d_Ve_doColumnPathsLead_71 rfl (by decide) (⟨by rw [show sp_vc0 (M 22) j = false from by (unfold sp_vc0; rw [show (decide (sp_ro (M 22) 6 (sp_mix (M 22 5) (M 22 6)) (32 + (j + 0) % 32) 7 = M 22 0)) = true from decide_eq_true h67, show (decide (sp_ro (M 22) 6 (sp_mix (M 22 12) (M 22 13)) (32 + (j + 4) % 32) 14 = M 22 0)) = false from decide_eq_false h67_1]; first | rfl | done)]; rfl, rfl, rfl⟩)
  · refine ew_iconst (v := nI 0) d_Ve_doColumnPathsLead_70 (by decide) ?_
    exact ew_zret d_Ve_doColumnPathsLead_71 rfl (by decide) (⟨by rw [show sp_vc0 (M 22) j = false from by (unfold sp_vc0; rw [show (decide (sp_ro (M 22) 6 (sp_mix (M 22 5) (M 22 6)) (32 + (j + 0) % 32) 7 = M 22 0)) = false from decide_eq_false h67]; first | rfl | done)]; rfl, rfl, rfl⟩)
set_option maxRecDepth 100000 in
theorem c_Ve_doLayerPathsLead00 (l : Launch) (g : ew_G) (d L : Nat) (M : ew_M) (hs : sp_st M) (j : Nat) (hj : M 46 0 = nI j) (hj2 : j < 16) :
    Ew l g (d + 3) 0 0 m_Ve_doLayerPathsLead 0 [.ref 43, .int (nI 0), .int (nI 0), .retAddr 0, .retAddr 0, .retAddr 0, .retAddr 0, .retAddr 0] [] (ew_SH L) M (ew_q (some (.int (ew_b (sp_vl00 (M 22) j)))) (ew_SH L) M) := by
  refine ew_iload_n d_Ve_doLayerPathsLead_0 rfl ?_
  refine en_callS (As := [.int (nI 0)]) (st := []) (st1 := [.int (nI 32)]) d_Ve_doLayerPathsLead_1 k_Pf_layerSize tw_556 tw_162 rfl (Nat.le_of_ble_eq_true rfl) rfl (Nat.le_of_ble_eq_true rfl) rfl rfl (c_Pf_layerSize0 l g _ L M) rfl ?_
  refine en_istore_n (ls' := [.ref 43, .int (nI 0), .int (nI 0), .int (nI 32), .retAddr 0, .retAddr 0, .retAddr 0, .retAddr 0]) d_Ve_doLayerPathsLead_4 (Nat.le_of_ble_eq_true rfl) rfl ?_
  refine ew_iconst (v := nI 0) d_Ve_doLayerPathsLead_5 (by decide) ?_
  refine en_istore (ls' := [.ref 43, .int (nI 0), .int (nI 0), .int (nI 32), .int (nI 0), .retAddr 0, .retAddr 0, .retAddr 0]) d_Ve_doLayerPathsLead_6 (Nat.le_of_ble_eq_true rfl) rfl ?_
  refine ew_iload d_Ve_doLayerPathsLead_8 rfl ?_
  refine ew_iconst (v := nI 2) d_Ve_doLayerPathsLead_10 (by decide) ?_
  refine en_icmp_ge (tgt := 83) d_Ve_doLayerPathsLead_11 (by decide) (by first | with_reducible assumption | with_reducible exact ep_lt _ | with_reducible exact sp_its_lt _ _ _ | with_reducible exact tb_l_rt _ | with_reducible exact tb_l_x _ | with_reducible exact tb_l_o0 _ | with_reducible exact tb_l_o1 _ | with_reducible exact tb_l_va _ | with_reducible exact tb_l_ll _ | with_reducible exact tb_l_cf _ | with_reducible exact tb_l_kf _ | with_reducible exact sp_ts_lt _ _ _ _ | with_reducible exact sp_w_lt _ _ | with_reducible exact sp_cs_lt _ _ _ _ _ | with_reducible exact sp_cb_lt _ _ _ _ _ | with_reducible exact sp_ch_lt _ | with_reducible exact sp_bf_lt _ _ | omega) (by first | with_reducible assumption | with_reducible exact ep_lt _ | with_reducible exact sp_its_lt _ _ _ | with_reducible exact tb_l_rt _ | with_reducible exact tb_l_x _ | with_reducible exact tb_l_o0 _ | with_reducible exact tb_l_o1 _ | with_reducible exact tb_l_va _ | with_reducible exact tb_l_ll _ | with_reducible exact tb_l_cf _ | with_reducible exact tb_l_kf _ | with_reducible exact sp_ts_lt _ _ _ _ | with_reducible exact sp_w_lt _ _ | with_reducible exact sp_cs_lt _ _ _ _ _ | with_reducible exact sp_cb_lt _ _ _ _ _ | with_reducible exact sp_ch_lt _ | with_reducible exact sp_bf_lt _ _ | omega) (fun h11 => by exact absurd h11 (by decide)) (fun h11 => ?_)
  refine ew_aload_n d_Ve_doLayerPathsLead_14 rfl ?_
  refine ew_iload_n d_Ve_doLayerPathsLead_15 rfl ?_
  refine en_callV (As := [.int (nI 0)]) (i := 43) (ci := 6) (st := []) (st1 := [.int (nI j)]) d_Ve_doLayerPathsLead_16 k_Ve_place rfl rfl tw_542 tw_543 tw_544 rfl (Nat.le_of_ble_eq_true rfl) rfl (Nat.le_of_ble_eq_true rfl) rfl rfl (c_Ve_place l g _ L M 0 j (by decide) (hj)) rfl ?_
  refine ew_iload_n d_Ve_doLayerPathsLead_19 rfl ?_
  refine ew_iload d_Ve_doLayerPathsLead_20 rfl ?_
  refine en_callS (As := [.int (nI j), .int (nI 0), .int (nI 0)]) (st := []) (st1 := [.int (nI (j % 16 + 16 * 0))]) d_Ve_doLayerPathsLead_22 k_Pf_layerIndex tw_557 tw_484 rfl (Nat.le_of_ble_eq_true rfl) rfl (Nat.le_of_ble_eq_true rfl) rfl rfl (c_Pf_layerIndex0 l g _ L M j 0 (hj2)) rfl ?_
  refine en_istore (ls' := [.ref 43, .int (nI 0), .int (nI 0), .int (nI 32), .int (nI 0), .int (nI (j % 16 + 16 * 0)), .retAddr 0, .retAddr 0]) d_Ve_doLayerPathsLead_25 (Nat.le_of_ble_eq_true rfl) rfl ?_
  refine ew_iload_n d_Ve_doLayerPathsLead_27 rfl ?_
  refine ew_iload_n d_Ve_doLayerPathsLead_28 rfl ?_
  refine ew_iload d_Ve_doLayerPathsLead_29 rfl ?_
  refine en_callS (As := [.int (nI 0), .int (nI 0), .int (nI 0)]) (st := []) (st1 := [.int (nI 33)]) d_Ve_doLayerPathsLead_31 k_Pf_layerStart tw_558 tw_488 rfl (Nat.le_of_ble_eq_true rfl) rfl (Nat.le_of_ble_eq_true rfl) rfl rfl (c_Pf_layerStart0 l g _ L M (hs) 0 0) rfl ?_
  refine en_istore (ls' := [.ref 43, .int (nI 0), .int (nI 0), .int (nI 32), .int (nI 0), .int (nI (j % 16 + 16 * 0)), .int (nI 33), .retAddr 0]) d_Ve_doLayerPathsLead_34 (Nat.le_of_ble_eq_true rfl) rfl ?_
  refine ew_aload_n d_Ve_doLayerPathsLead_36 rfl ?_
  refine ew_getr (ci := 6) (f := 3) d_Ve_doLayerPathsLead_37 rfl rfl rfl tw_200 ?_
  refine ew_iload d_Ve_doLayerPathsLead_40 rfl ?_
  refine ew_iald (j := 33) d_Ve_doLayerPathsLead_42 rfl (rfl) (by decide) (by decide) ?_
  refine en_callS (As := [.int (M 22 33)]) (st := []) (st1 := [.int (sp_mix (M 22 33) (nI 12289))]) d_Ve_doLayerPathsLead_43 k_Pf_layerLeaf tw_559 tw_453 rfl (Nat.le_of_ble_eq_true rfl) rfl (Nat.le_of_ble_eq_true rfl) rfl rfl (c_Pf_layerLeaf l g _ L M (M 22 33)) rfl ?_
  refine en_istore (ls' := [.ref 43, .int (nI 0), .int (nI 0), .int (nI 32), .int (nI 0), .int (nI (j % 16 + 16 * 0)), .int (nI 33), .int (sp_mix (M 22 33) (nI 12289))]) d_Ve_doLayerPathsLead_46 (Nat.le_of_ble_eq_true rfl) rfl ?_
  refine ew_iload_n d_Ve_doLayerPathsLead_48 rfl ?_
  refine ew_iload d_Ve_doLayerPathsLead_49 rfl ?_
  refine ew_iload d_Ve_doLayerPathsLead_51 rfl ?_
  refine ew_aload_n d_Ve_doLayerPathsLead_53 rfl ?_
  refine ew_getr (ci := 6) (f := 3) d_Ve_doLayerPathsLead_54 rfl rfl rfl tw_200 ?_
  refine ew_iload d_Ve_doLayerPathsLead_57 rfl ?_
  refine ew_iconst (v := nI 1) d_Ve_doLayerPathsLead_59 (by decide) ?_
  refine en_iadd d_Ve_doLayerPathsLead_60 ?_
  refine en_eq rfl (show _ = [.int (nI 34), .ref 22, .int (sp_mix (M 22 33) (nI 12289)), .int (nI (j % 16 + 16 * 0)), .int (nI 32)] from rfl) rfl ?_
  refine en_callS (As := [.int (nI 32), .int (nI (j % 16 + 16 * 0)), .int (sp_mix (M 22 33) (nI 12289)), .ref 22, .int (nI 34)]) (st := []) (st1 := [.int (sp_ro (M 22) 6 (sp_mix (M 22 33) (nI 12289)) (32 + (j % 16 + 16 * 0)) 34)]) d_Ve_doLayerPathsLead_61 k_Tr_rootOf tw_549 tw_550 rfl (Nat.le_of_ble_eq_true rfl) rfl (Nat.le_of_ble_eq_true rfl) rfl rfl (c_Tr_rootOf l g _ L M 32 (j % 16 + 16 * 0) 34 6 (sp_mix (M 22 33) (nI 12289)) (by omega) (by omega) (by omega)) rfl ?_
  refine ew_aload_n d_Ve_doLayerPathsLead_64 rfl ?_
  refine ew_getr (ci := 6) (f := 3) d_Ve_doLayerPathsLead_65 rfl rfl rfl tw_200 ?_
  refine ew_iconst (v := nI 1) d_Ve_doLayerPathsLead_68 (by decide) ?_
  refine ew_iload_n d_Ve_doLayerPathsLead_69 rfl ?_
  refine en_iadd d_Ve_doLayerPathsLead_70 ?_
  refine en_eq rfl (show _ = [.int (nI 1), .ref 22, .int (sp_ro (M 22) 6 (sp_mix (M 22 33) (nI 12289)) (32 + (j % 16 + 16 * 0)) 34)] from rfl) rfl ?_
  refine ew_iald (j := 1) d_Ve_doLayerPathsLead_71 rfl (rfl) (by decide) (by decide) ?_
  refine ew_icmp_eq (tgt := 77) d_Ve_doLayerPathsLead_72 (by decide) (fun h72 => ?_) (fun h72 => ?_)
  · refine en_inc (ls' := [.ref 43, .int (nI 0), .int (nI 0), .int (nI 32), .int (nI 1), .int (nI (j % 16 + 16 * 0)), .int (nI 33), .int (sp_mix (M 22 33) (nI 12289))]) d_Ve_doLayerPathsLead_77 rfl rfl ?_
    refine ew_goto (tgt := 8) d_Ve_doLayerPathsLead_80 (by decide) ?_
    refine ew_iload d_Ve_doLayerPathsLead_8 rfl ?_
    refine ew_iconst (v := nI 2) d_Ve_doLayerPathsLead_10 (by decide) ?_
    refine en_icmp_ge (tgt := 83) d_Ve_doLayerPathsLead_11 (by decide) (by first | with_reducible assumption | with_reducible exact ep_lt _ | with_reducible exact sp_its_lt _ _ _ | with_reducible exact tb_l_rt _ | with_reducible exact tb_l_x _ | with_reducible exact tb_l_o0 _ | with_reducible exact tb_l_o1 _ | with_reducible exact tb_l_va _ | with_reducible exact tb_l_ll _ | with_reducible exact tb_l_cf _ | with_reducible exact tb_l_kf _ | with_reducible exact sp_ts_lt _ _ _ _ | with_reducible exact sp_w_lt _ _ | with_reducible exact sp_cs_lt _ _ _ _ _ | with_reducible exact sp_cb_lt _ _ _ _ _ | with_reducible exact sp_ch_lt _ | with_reducible exact sp_bf_lt _ _ | omega) (by first | with_reducible assumption | with_reducible exact ep_lt _ | with_reducible exact sp_its_lt _ _ _ | with_reducible exact tb_l_rt _ | with_reducible exact tb_l_x _ | with_reducible exact tb_l_o0 _ | with_reducible exact tb_l_o1 _ | with_reducible exact tb_l_va _ | with_reducible exact tb_l_ll _ | with_reducible exact tb_l_cf _ | with_reducible exact tb_l_kf _ | with_reducible exact sp_ts_lt _ _ _ _ | with_reducible exact sp_w_lt _ _ | with_reducible exact sp_cs_lt _ _ _ _ _ | with_reducible exact sp_cb_lt _ _ _ _ _ | with_reducible exact sp_ch_lt _ | with_reducible exact sp_bf_lt _ _ | omega) (fun h11_1 => by exact absurd h11_1 (by decide)) (fun h11_1 => ?_)
    refine ew_aload_n d_Ve_doLayerPathsLead_14 rfl ?_
    refine ew_iload_n d_Ve_doLayerPathsLead_15 rfl ?_
    refine en_callV (As := [.int (nI 0)]) (i := 43) (ci := 6) (st := []) (st1 := [.int (nI j)]) d_Ve_doLayerPathsLead_16 k_Ve_place rfl rfl tw_542 tw_543 tw_544 rfl (Nat.le_of_ble_eq_true rfl) rfl (Nat.le_of_ble_eq_true rfl) rfl rfl (c_Ve_place l g _ L M 0 j (by decide) (hj)) rfl ?_
    refine ew_iload_n d_Ve_doLayerPathsLead_19 rfl ?_
    refine ew_iload d_Ve_doLayerPathsLead_20 rfl ?_
    refine en_callS (As := [.int (nI j), .int (nI 0), .int (nI 1)]) (st := []) (st1 := [.int (nI (j % 16 + 16 * 1))]) d_Ve_doLayerPathsLead_22 k_Pf_layerIndex tw_557 tw_484 rfl (Nat.le_of_ble_eq_true rfl) rfl (Nat.le_of_ble_eq_true rfl) rfl rfl (c_Pf_layerIndex0 l g _ L M j 1 (hj2)) rfl ?_
    refine en_istore (ls' := [.ref 43, .int (nI 0), .int (nI 0), .int (nI 32), .int (nI 1), .int (nI (j % 16 + 16 * 1)), .int (nI 33), .int (sp_mix (M 22 33) (nI 12289))]) d_Ve_doLayerPathsLead_25 (Nat.le_of_ble_eq_true rfl) rfl ?_
    refine ew_iload_n d_Ve_doLayerPathsLead_27 rfl ?_
    refine ew_iload_n d_Ve_doLayerPathsLead_28 rfl ?_
    refine ew_iload d_Ve_doLayerPathsLead_29 rfl ?_
    refine en_callS (As := [.int (nI 0), .int (nI 0), .int (nI 1)]) (st := []) (st1 := [.int (nI 39)]) d_Ve_doLayerPathsLead_31 k_Pf_layerStart tw_558 tw_488 rfl (Nat.le_of_ble_eq_true rfl) rfl (Nat.le_of_ble_eq_true rfl) rfl rfl (c_Pf_layerStart0 l g _ L M (hs) 0 1) rfl ?_
    refine en_istore (ls' := [.ref 43, .int (nI 0), .int (nI 0), .int (nI 32), .int (nI 1), .int (nI (j % 16 + 16 * 1)), .int (nI 39), .int (sp_mix (M 22 33) (nI 12289))]) d_Ve_doLayerPathsLead_34 (Nat.le_of_ble_eq_true rfl) rfl ?_
    refine ew_aload_n d_Ve_doLayerPathsLead_36 rfl ?_
    refine ew_getr (ci := 6) (f := 3) d_Ve_doLayerPathsLead_37 rfl rfl rfl tw_200 ?_
    refine ew_iload d_Ve_doLayerPathsLead_40 rfl ?_
    refine ew_iald (j := 39) d_Ve_doLayerPathsLead_42 rfl (rfl) (by decide) (by decide) ?_
    refine en_callS (As := [.int (M 22 39)]) (st := []) (st1 := [.int (sp_mix (M 22 39) (nI 12289))]) d_Ve_doLayerPathsLead_43 k_Pf_layerLeaf tw_559 tw_453 rfl (Nat.le_of_ble_eq_true rfl) rfl (Nat.le_of_ble_eq_true rfl) rfl rfl (c_Pf_layerLeaf l g _ L M (M 22 39)) rfl ?_
    refine en_istore (ls' := [.ref 43, .int (nI 0), .int (nI 0), .int (nI 32), .int (nI 1), .int (nI (j % 16 + 16 * 1)), .int (nI 39), .int (sp_mix (M 22 39) (nI 12289))]) d_Ve_doLayerPathsLead_46 (Nat.le_of_ble_eq_true rfl) rfl ?_
    refine ew_iload_n d_Ve_doLayerPathsLead_48 rfl ?_
    refine ew_iload d_Ve_doLayerPathsLead_49 rfl ?_
    refine ew_iload d_Ve_doLayerPathsLead_51 rfl ?_
    refine ew_aload_n d_Ve_doLayerPathsLead_53 rfl ?_
    refine ew_getr (ci := 6) (f := 3) d_Ve_doLayerPathsLead_54 rfl rfl rfl tw_200 ?_
    refine ew_iload d_Ve_doLayerPathsLead_57 rfl ?_
    refine ew_iconst (v := nI 1) d_Ve_doLayerPathsLead_59 (by decide) ?_
    refine en_iadd d_Ve_doLayerPathsLead_60 ?_
    refine en_eq rfl (show _ = [.int (nI 40), .ref 22, .int (sp_mix (M 22 39) (nI 12289)), .int (nI (j % 16 + 16 * 1)), .int (nI 32)] from rfl) rfl ?_
    refine en_callS (As := [.int (nI 32), .int (nI (j % 16 + 16 * 1)), .int (sp_mix (M 22 39) (nI 12289)), .ref 22, .int (nI 40)]) (st := []) (st1 := [.int (sp_ro (M 22) 6 (sp_mix (M 22 39) (nI 12289)) (32 + (j % 16 + 16 * 1)) 40)]) d_Ve_doLayerPathsLead_61 k_Tr_rootOf tw_549 tw_550 rfl (Nat.le_of_ble_eq_true rfl) rfl (Nat.le_of_ble_eq_true rfl) rfl rfl (c_Tr_rootOf l g _ L M 32 (j % 16 + 16 * 1) 40 6 (sp_mix (M 22 39) (nI 12289)) (by omega) (by omega) (by omega)) rfl ?_
    refine ew_aload_n d_Ve_doLayerPathsLead_64 rfl ?_
    refine ew_getr (ci := 6) (f := 3) d_Ve_doLayerPathsLead_65 rfl rfl rfl tw_200 ?_
    refine ew_iconst (v := nI 1) d_Ve_doLayerPathsLead_68 (by decide) ?_
    refine ew_iload_n d_Ve_doLayerPathsLead_69 rfl ?_
    refine en_iadd d_Ve_doLayerPathsLead_70 ?_
    refine en_eq rfl (show _ = [.int (nI 1), .ref 22, .int (sp_ro (M 22) 6 (sp_mix (M 22 39) (nI 12289)) (32 + (j % 16 + 16 * 1)) 40)] from rfl) rfl ?_
    refine ew_iald (j := 1) d_Ve_doLayerPathsLead_71 rfl (rfl) (by decide) (by decide) ?_
    refine ew_icmp_eq (tgt := 77) d_Ve_doLayerPathsLead_72 (by decide) (fun h72_1 => ?_) (fun h72_1 => ?_)
    · refine en_inc (ls' := [.ref 43, .int (nI 0), .int (nI 0), .int (nI 32), .int (nI 2), .int (nI (j % 16 + 16 * 1)), .int (nI 39), .int (sp_mix (M 22 39) (nI 12289))]) d_Ve_doLayerPathsLead_77 rfl rfl ?_
      refine ew_goto (tgt := 8) d_Ve_doLayerPathsLead_80 (by decide) ?_
      refine ew_iload d_Ve_doLayerPathsLead_8 rfl ?_
      refine ew_iconst (v := nI 2) d_Ve_doLayerPathsLead_10 (by decide) ?_
      refine en_icmp_ge (tgt := 83) d_Ve_doLayerPathsLead_11 (by decide) (by first | with_reducible assumption | with_reducible exact ep_lt _ | with_reducible exact sp_its_lt _ _ _ | with_reducible exact tb_l_rt _ | with_reducible exact tb_l_x _ | with_reducible exact tb_l_o0 _ | with_reducible exact tb_l_o1 _ | with_reducible exact tb_l_va _ | with_reducible exact tb_l_ll _ | with_reducible exact tb_l_cf _ | with_reducible exact tb_l_kf _ | with_reducible exact sp_ts_lt _ _ _ _ | with_reducible exact sp_w_lt _ _ | with_reducible exact sp_cs_lt _ _ _ _ _ | with_reducible exact sp_cb_lt _ _ _ _ _ | with_reducible exact sp_ch_lt _ | with_reducible exact sp_bf_lt _ _ | omega) (by first | with_reducible assumption | with_reducible exact ep_lt _ | with_reducible exact sp_its_lt _ _ _ | with_reducible exact tb_l_rt _ | with_reducible exact tb_l_x _ | with_reducible exact tb_l_o0 _ | with_reducible exact tb_l_o1 _ | with_reducible exact tb_l_va _ | with_reducible exact tb_l_ll _ | with_reducible exact tb_l_cf _ | with_reducible exact tb_l_kf _ | with_reducible exact sp_ts_lt _ _ _ _ | with_reducible exact sp_w_lt _ _ | with_reducible exact sp_cs_lt _ _ _ _ _ | with_reducible exact sp_cb_lt _ _ _ _ _ | with_reducible exact sp_ch_lt _ | with_reducible exact sp_bf_lt _ _ | omega) (fun h11_2 => ?_) (fun h11_2 => by exact absurd h11_2 (by decide))
      refine ew_iconst (v := nI 1) d_Ve_doLayerPathsLead_83 (by decide) ?_
      exact ew_zret d_Ve_doLayerPathsLead_84 rfl (by decide) (⟨by rw [show sp_vl00 (M 22) j = true from by (unfold sp_vl00; rw [show (decide (sp_ro (M 22) 6 (sp_mix (M 22 33) (nI 12289)) (32 + (j % 16 + 16 * 0)) 34 = M 22 1)) = true from decide_eq_true h72, show (decide (sp_ro (M 22) 6 (sp_mix (M 22 39) (nI 12289)) (32 + (j % 16 + 16 * 1)) 40 = M 22 1)) = true from decide_eq_true h72_1]; first | rfl | done)]; rfl, rfl, rfl⟩)
    · refine ew_iconst (v := nI 0) d_Ve_doLayerPathsLead_75 (by decide) ?_
      exact ew_zret d_Ve_doLayerPathsLead_76 rfl (by decide) (⟨by rw [show sp_vl00 (M 22) j = false from by (unfold sp_vl00; rw [show (decide (sp_ro (M 22) 6 (sp_mix (M 22 33) (nI 12289)) (32 + (j % 16 + 16 * 0)) 34 = M 22 1)) = true from decide_eq_true h72, show (decide (sp_ro (M 22) 6 (sp_mix (M 22 39) (nI 12289)) (32 + (j % 16 + 16 * 1)) 40 = M 22 1)) = false from decide_eq_false h72_1]; first | rfl | done)]; rfl, rfl, rfl⟩)
  · refine ew_iconst (v := nI 0) d_Ve_doLayerPathsLead_75 (by decide) ?_
    exact ew_zret d_Ve_doLayerPathsLead_76 rfl (by decide) (⟨by rw [show sp_vl00 (M 22) j = false from by (unfold sp_vl00; rw [show (decide (sp_ro (M 22) 6 (sp_mix (M 22 33) (nI 12289)) (32 + (j % 16 + 16 * 0)) 34 = M 22 1)) = false from decide_eq_false h72]; first | rfl | done)]; rfl, rfl, rfl⟩)
set_option maxRecDepth 100000 in
theorem c_Ve_doLayerPathsLead01 (l : Launch) (g : ew_G) (d L : Nat) (M : ew_M) (hs : sp_st M) (j : Nat) (hj : M 46 0 = nI j) (hj2 : j < 16) :
    Ew l g (d + 3) 0 0 m_Ve_doLayerPathsLead 0 [.ref 43, .int (nI 0), .int (nI 1), .retAddr 0, .retAddr 0, .retAddr 0, .retAddr 0, .retAddr 0] [] (ew_SH L) M (ew_q (some (.int (ew_b (sp_vl01 (M 22) j)))) (ew_SH L) M) := by
  refine ew_iload_n d_Ve_doLayerPathsLead_0 rfl ?_
  refine en_callS (As := [.int (nI 1)]) (st := []) (st1 := [.int (nI 16)]) d_Ve_doLayerPathsLead_1 k_Pf_layerSize tw_556 tw_162 rfl (Nat.le_of_ble_eq_true rfl) rfl (Nat.le_of_ble_eq_true rfl) rfl rfl (c_Pf_layerSize1 l g _ L M) rfl ?_
  refine en_istore_n (ls' := [.ref 43, .int (nI 0), .int (nI 1), .int (nI 16), .retAddr 0, .retAddr 0, .retAddr 0, .retAddr 0]) d_Ve_doLayerPathsLead_4 (Nat.le_of_ble_eq_true rfl) rfl ?_
  refine ew_iconst (v := nI 0) d_Ve_doLayerPathsLead_5 (by decide) ?_
  refine en_istore (ls' := [.ref 43, .int (nI 0), .int (nI 1), .int (nI 16), .int (nI 0), .retAddr 0, .retAddr 0, .retAddr 0]) d_Ve_doLayerPathsLead_6 (Nat.le_of_ble_eq_true rfl) rfl ?_
  refine ew_iload d_Ve_doLayerPathsLead_8 rfl ?_
  refine ew_iconst (v := nI 2) d_Ve_doLayerPathsLead_10 (by decide) ?_
  refine en_icmp_ge (tgt := 83) d_Ve_doLayerPathsLead_11 (by decide) (by first | with_reducible assumption | with_reducible exact ep_lt _ | with_reducible exact sp_its_lt _ _ _ | with_reducible exact tb_l_rt _ | with_reducible exact tb_l_x _ | with_reducible exact tb_l_o0 _ | with_reducible exact tb_l_o1 _ | with_reducible exact tb_l_va _ | with_reducible exact tb_l_ll _ | with_reducible exact tb_l_cf _ | with_reducible exact tb_l_kf _ | with_reducible exact sp_ts_lt _ _ _ _ | with_reducible exact sp_w_lt _ _ | with_reducible exact sp_cs_lt _ _ _ _ _ | with_reducible exact sp_cb_lt _ _ _ _ _ | with_reducible exact sp_ch_lt _ | with_reducible exact sp_bf_lt _ _ | omega) (by first | with_reducible assumption | with_reducible exact ep_lt _ | with_reducible exact sp_its_lt _ _ _ | with_reducible exact tb_l_rt _ | with_reducible exact tb_l_x _ | with_reducible exact tb_l_o0 _ | with_reducible exact tb_l_o1 _ | with_reducible exact tb_l_va _ | with_reducible exact tb_l_ll _ | with_reducible exact tb_l_cf _ | with_reducible exact tb_l_kf _ | with_reducible exact sp_ts_lt _ _ _ _ | with_reducible exact sp_w_lt _ _ | with_reducible exact sp_cs_lt _ _ _ _ _ | with_reducible exact sp_cb_lt _ _ _ _ _ | with_reducible exact sp_ch_lt _ | with_reducible exact sp_bf_lt _ _ | omega) (fun h11 => by exact absurd h11 (by decide)) (fun h11 => ?_)
  refine ew_aload_n d_Ve_doLayerPathsLead_14 rfl ?_
  refine ew_iload_n d_Ve_doLayerPathsLead_15 rfl ?_
  refine en_callV (As := [.int (nI 0)]) (i := 43) (ci := 6) (st := []) (st1 := [.int (nI j)]) d_Ve_doLayerPathsLead_16 k_Ve_place rfl rfl tw_542 tw_543 tw_544 rfl (Nat.le_of_ble_eq_true rfl) rfl (Nat.le_of_ble_eq_true rfl) rfl rfl (c_Ve_place l g _ L M 0 j (by decide) (hj)) rfl ?_
  refine ew_iload_n d_Ve_doLayerPathsLead_19 rfl ?_
  refine ew_iload d_Ve_doLayerPathsLead_20 rfl ?_
  refine en_callS (As := [.int (nI j), .int (nI 1), .int (nI 0)]) (st := []) (st1 := [.int (nI (j % 8 + 8 * 0))]) d_Ve_doLayerPathsLead_22 k_Pf_layerIndex tw_557 tw_484 rfl (Nat.le_of_ble_eq_true rfl) rfl (Nat.le_of_ble_eq_true rfl) rfl rfl (c_Pf_layerIndex1 l g _ L M j 0 (hj2)) rfl ?_
  refine en_istore (ls' := [.ref 43, .int (nI 0), .int (nI 1), .int (nI 16), .int (nI 0), .int (nI (j % 8 + 8 * 0)), .retAddr 0, .retAddr 0]) d_Ve_doLayerPathsLead_25 (Nat.le_of_ble_eq_true rfl) rfl ?_
  refine ew_iload_n d_Ve_doLayerPathsLead_27 rfl ?_
  refine ew_iload_n d_Ve_doLayerPathsLead_28 rfl ?_
  refine ew_iload d_Ve_doLayerPathsLead_29 rfl ?_
  refine en_callS (As := [.int (nI 0), .int (nI 1), .int (nI 0)]) (st := []) (st1 := [.int (nI 45)]) d_Ve_doLayerPathsLead_31 k_Pf_layerStart tw_558 tw_488 rfl (Nat.le_of_ble_eq_true rfl) rfl (Nat.le_of_ble_eq_true rfl) rfl rfl (c_Pf_layerStart1 l g _ L M (hs) 0 0) rfl ?_
  refine en_istore (ls' := [.ref 43, .int (nI 0), .int (nI 1), .int (nI 16), .int (nI 0), .int (nI (j % 8 + 8 * 0)), .int (nI 45), .retAddr 0]) d_Ve_doLayerPathsLead_34 (Nat.le_of_ble_eq_true rfl) rfl ?_
  refine ew_aload_n d_Ve_doLayerPathsLead_36 rfl ?_
  refine ew_getr (ci := 6) (f := 3) d_Ve_doLayerPathsLead_37 rfl rfl rfl tw_200 ?_
  refine ew_iload d_Ve_doLayerPathsLead_40 rfl ?_
  refine ew_iald (j := 45) d_Ve_doLayerPathsLead_42 rfl (rfl) (by decide) (by decide) ?_
  refine en_callS (As := [.int (M 22 45)]) (st := []) (st1 := [.int (sp_mix (M 22 45) (nI 12289))]) d_Ve_doLayerPathsLead_43 k_Pf_layerLeaf tw_559 tw_453 rfl (Nat.le_of_ble_eq_true rfl) rfl (Nat.le_of_ble_eq_true rfl) rfl rfl (c_Pf_layerLeaf l g _ L M (M 22 45)) rfl ?_
  refine en_istore (ls' := [.ref 43, .int (nI 0), .int (nI 1), .int (nI 16), .int (nI 0), .int (nI (j % 8 + 8 * 0)), .int (nI 45), .int (sp_mix (M 22 45) (nI 12289))]) d_Ve_doLayerPathsLead_46 (Nat.le_of_ble_eq_true rfl) rfl ?_
  refine ew_iload_n d_Ve_doLayerPathsLead_48 rfl ?_
  refine ew_iload d_Ve_doLayerPathsLead_49 rfl ?_
  refine ew_iload d_Ve_doLayerPathsLead_51 rfl ?_
  refine ew_aload_n d_Ve_doLayerPathsLead_53 rfl ?_
  refine ew_getr (ci := 6) (f := 3) d_Ve_doLayerPathsLead_54 rfl rfl rfl tw_200 ?_
  refine ew_iload d_Ve_doLayerPathsLead_57 rfl ?_
  refine ew_iconst (v := nI 1) d_Ve_doLayerPathsLead_59 (by decide) ?_
  refine en_iadd d_Ve_doLayerPathsLead_60 ?_
  refine en_eq rfl (show _ = [.int (nI 46), .ref 22, .int (sp_mix (M 22 45) (nI 12289)), .int (nI (j % 8 + 8 * 0)), .int (nI 16)] from rfl) rfl ?_
  refine en_callS (As := [.int (nI 16), .int (nI (j % 8 + 8 * 0)), .int (sp_mix (M 22 45) (nI 12289)), .ref 22, .int (nI 46)]) (st := []) (st1 := [.int (sp_ro (M 22) 6 (sp_mix (M 22 45) (nI 12289)) (16 + (j % 8 + 8 * 0)) 46)]) d_Ve_doLayerPathsLead_61 k_Tr_rootOf tw_549 tw_550 rfl (Nat.le_of_ble_eq_true rfl) rfl (Nat.le_of_ble_eq_true rfl) rfl rfl (c_Tr_rootOf l g _ L M 16 (j % 8 + 8 * 0) 46 5 (sp_mix (M 22 45) (nI 12289)) (by omega) (by omega) (by omega)) rfl ?_
  refine ew_aload_n d_Ve_doLayerPathsLead_64 rfl ?_
  refine ew_getr (ci := 6) (f := 3) d_Ve_doLayerPathsLead_65 rfl rfl rfl tw_200 ?_
  refine ew_iconst (v := nI 1) d_Ve_doLayerPathsLead_68 (by decide) ?_
  refine ew_iload_n d_Ve_doLayerPathsLead_69 rfl ?_
  refine en_iadd d_Ve_doLayerPathsLead_70 ?_
  refine en_eq rfl (show _ = [.int (nI 2), .ref 22, .int (sp_ro (M 22) 6 (sp_mix (M 22 45) (nI 12289)) (16 + (j % 8 + 8 * 0)) 46)] from rfl) rfl ?_
  refine ew_iald (j := 2) d_Ve_doLayerPathsLead_71 rfl (rfl) (by decide) (by decide) ?_
  refine ew_icmp_eq (tgt := 77) d_Ve_doLayerPathsLead_72 (by decide) (fun h72 => ?_) (fun h72 => ?_)
  · refine en_inc (ls' := [.ref 43, .int (nI 0), .int (nI 1), .int (nI 16), .int (nI 1), .int (nI (j % 8 + 8 * 0)), .int (nI 45), .int (sp_mix (M 22 45) (nI 12289))]) d_Ve_doLayerPathsLead_77 rfl rfl ?_
    refine ew_goto (tgt := 8) d_Ve_doLayerPathsLead_80 (by decide) ?_
    refine ew_iload d_Ve_doLayerPathsLead_8 rfl ?_
    refine ew_iconst (v := nI 2) d_Ve_doLayerPathsLead_10 (by decide) ?_
    refine en_icmp_ge (tgt := 83) d_Ve_doLayerPathsLead_11 (by decide) (by first | with_reducible assumption | with_reducible exact ep_lt _ | with_reducible exact sp_its_lt _ _ _ | with_reducible exact tb_l_rt _ | with_reducible exact tb_l_x _ | with_reducible exact tb_l_o0 _ | with_reducible exact tb_l_o1 _ | with_reducible exact tb_l_va _ | with_reducible exact tb_l_ll _ | with_reducible exact tb_l_cf _ | with_reducible exact tb_l_kf _ | with_reducible exact sp_ts_lt _ _ _ _ | with_reducible exact sp_w_lt _ _ | with_reducible exact sp_cs_lt _ _ _ _ _ | with_reducible exact sp_cb_lt _ _ _ _ _ | with_reducible exact sp_ch_lt _ | with_reducible exact sp_bf_lt _ _ | omega) (by first | with_reducible assumption | with_reducible exact ep_lt _ | with_reducible exact sp_its_lt _ _ _ | with_reducible exact tb_l_rt _ | with_reducible exact tb_l_x _ | with_reducible exact tb_l_o0 _ | with_reducible exact tb_l_o1 _ | with_reducible exact tb_l_va _ | with_reducible exact tb_l_ll _ | with_reducible exact tb_l_cf _ | with_reducible exact tb_l_kf _ | with_reducible exact sp_ts_lt _ _ _ _ | with_reducible exact sp_w_lt _ _ | with_reducible exact sp_cs_lt _ _ _ _ _ | with_reducible exact sp_cb_lt _ _ _ _ _ | with_reducible exact sp_ch_lt _ | with_reducible exact sp_bf_lt _ _ | omega) (fun h11_1 => by exact absurd h11_1 (by decide)) (fun h11_1 => ?_)
    refine ew_aload_n d_Ve_doLayerPathsLead_14 rfl ?_
    refine ew_iload_n d_Ve_doLayerPathsLead_15 rfl ?_
    refine en_callV (As := [.int (nI 0)]) (i := 43) (ci := 6) (st := []) (st1 := [.int (nI j)]) d_Ve_doLayerPathsLead_16 k_Ve_place rfl rfl tw_542 tw_543 tw_544 rfl (Nat.le_of_ble_eq_true rfl) rfl (Nat.le_of_ble_eq_true rfl) rfl rfl (c_Ve_place l g _ L M 0 j (by decide) (hj)) rfl ?_
    refine ew_iload_n d_Ve_doLayerPathsLead_19 rfl ?_
    refine ew_iload d_Ve_doLayerPathsLead_20 rfl ?_
    refine en_callS (As := [.int (nI j), .int (nI 1), .int (nI 1)]) (st := []) (st1 := [.int (nI (j % 8 + 8 * 1))]) d_Ve_doLayerPathsLead_22 k_Pf_layerIndex tw_557 tw_484 rfl (Nat.le_of_ble_eq_true rfl) rfl (Nat.le_of_ble_eq_true rfl) rfl rfl (c_Pf_layerIndex1 l g _ L M j 1 (hj2)) rfl ?_
    refine en_istore (ls' := [.ref 43, .int (nI 0), .int (nI 1), .int (nI 16), .int (nI 1), .int (nI (j % 8 + 8 * 1)), .int (nI 45), .int (sp_mix (M 22 45) (nI 12289))]) d_Ve_doLayerPathsLead_25 (Nat.le_of_ble_eq_true rfl) rfl ?_
    refine ew_iload_n d_Ve_doLayerPathsLead_27 rfl ?_
    refine ew_iload_n d_Ve_doLayerPathsLead_28 rfl ?_
    refine ew_iload d_Ve_doLayerPathsLead_29 rfl ?_
    refine en_callS (As := [.int (nI 0), .int (nI 1), .int (nI 1)]) (st := []) (st1 := [.int (nI 50)]) d_Ve_doLayerPathsLead_31 k_Pf_layerStart tw_558 tw_488 rfl (Nat.le_of_ble_eq_true rfl) rfl (Nat.le_of_ble_eq_true rfl) rfl rfl (c_Pf_layerStart1 l g _ L M (hs) 0 1) rfl ?_
    refine en_istore (ls' := [.ref 43, .int (nI 0), .int (nI 1), .int (nI 16), .int (nI 1), .int (nI (j % 8 + 8 * 1)), .int (nI 50), .int (sp_mix (M 22 45) (nI 12289))]) d_Ve_doLayerPathsLead_34 (Nat.le_of_ble_eq_true rfl) rfl ?_
    refine ew_aload_n d_Ve_doLayerPathsLead_36 rfl ?_
    refine ew_getr (ci := 6) (f := 3) d_Ve_doLayerPathsLead_37 rfl rfl rfl tw_200 ?_
    refine ew_iload d_Ve_doLayerPathsLead_40 rfl ?_
    refine ew_iald (j := 50) d_Ve_doLayerPathsLead_42 rfl (rfl) (by decide) (by decide) ?_
    refine en_callS (As := [.int (M 22 50)]) (st := []) (st1 := [.int (sp_mix (M 22 50) (nI 12289))]) d_Ve_doLayerPathsLead_43 k_Pf_layerLeaf tw_559 tw_453 rfl (Nat.le_of_ble_eq_true rfl) rfl (Nat.le_of_ble_eq_true rfl) rfl rfl (c_Pf_layerLeaf l g _ L M (M 22 50)) rfl ?_
    refine en_istore (ls' := [.ref 43, .int (nI 0), .int (nI 1), .int (nI 16), .int (nI 1), .int (nI (j % 8 + 8 * 1)), .int (nI 50), .int (sp_mix (M 22 50) (nI 12289))]) d_Ve_doLayerPathsLead_46 (Nat.le_of_ble_eq_true rfl) rfl ?_
    refine ew_iload_n d_Ve_doLayerPathsLead_48 rfl ?_
    refine ew_iload d_Ve_doLayerPathsLead_49 rfl ?_
    refine ew_iload d_Ve_doLayerPathsLead_51 rfl ?_
    refine ew_aload_n d_Ve_doLayerPathsLead_53 rfl ?_
    refine ew_getr (ci := 6) (f := 3) d_Ve_doLayerPathsLead_54 rfl rfl rfl tw_200 ?_
    refine ew_iload d_Ve_doLayerPathsLead_57 rfl ?_
    refine ew_iconst (v := nI 1) d_Ve_doLayerPathsLead_59 (by decide) ?_
    refine en_iadd d_Ve_doLayerPathsLead_60 ?_
    refine en_eq rfl (show _ = [.int (nI 51), .ref 22, .int (sp_mix (M 22 50) (nI 12289)), .int (nI (j % 8 + 8 * 1)), .int (nI 16)] from rfl) rfl ?_
    refine en_callS (As := [.int (nI 16), .int (nI (j % 8 + 8 * 1)), .int (sp_mix (M 22 50) (nI 12289)), .ref 22, .int (nI 51)]) (st := []) (st1 := [.int (sp_ro (M 22) 6 (sp_mix (M 22 50) (nI 12289)) (16 + (j % 8 + 8 * 1)) 51)]) d_Ve_doLayerPathsLead_61 k_Tr_rootOf tw_549 tw_550 rfl (Nat.le_of_ble_eq_true rfl) rfl (Nat.le_of_ble_eq_true rfl) rfl rfl (c_Tr_rootOf l g _ L M 16 (j % 8 + 8 * 1) 51 5 (sp_mix (M 22 50) (nI 12289)) (by omega) (by omega) (by omega)) rfl ?_
    refine ew_aload_n d_Ve_doLayerPathsLead_64 rfl ?_
    refine ew_getr (ci := 6) (f := 3) d_Ve_doLayerPathsLead_65 rfl rfl rfl tw_200 ?_
    refine ew_iconst (v := nI 1) d_Ve_doLayerPathsLead_68 (by decide) ?_
    refine ew_iload_n d_Ve_doLayerPathsLead_69 rfl ?_
    refine en_iadd d_Ve_doLayerPathsLead_70 ?_
    refine en_eq rfl (show _ = [.int (nI 2), .ref 22, .int (sp_ro (M 22) 6 (sp_mix (M 22 50) (nI 12289)) (16 + (j % 8 + 8 * 1)) 51)] from rfl) rfl ?_
    refine ew_iald (j := 2) d_Ve_doLayerPathsLead_71 rfl (rfl) (by decide) (by decide) ?_
    refine ew_icmp_eq (tgt := 77) d_Ve_doLayerPathsLead_72 (by decide) (fun h72_1 => ?_) (fun h72_1 => ?_)
    · refine en_inc (ls' := [.ref 43, .int (nI 0), .int (nI 1), .int (nI 16), .int (nI 2), .int (nI (j % 8 + 8 * 1)), .int (nI 50), .int (sp_mix (M 22 50) (nI 12289))]) d_Ve_doLayerPathsLead_77 rfl rfl ?_
      refine ew_goto (tgt := 8) d_Ve_doLayerPathsLead_80 (by decide) ?_
      refine ew_iload d_Ve_doLayerPathsLead_8 rfl ?_
      refine ew_iconst (v := nI 2) d_Ve_doLayerPathsLead_10 (by decide) ?_
      refine en_icmp_ge (tgt := 83) d_Ve_doLayerPathsLead_11 (by decide) (by first | with_reducible assumption | with_reducible exact ep_lt _ | with_reducible exact sp_its_lt _ _ _ | with_reducible exact tb_l_rt _ | with_reducible exact tb_l_x _ | with_reducible exact tb_l_o0 _ | with_reducible exact tb_l_o1 _ | with_reducible exact tb_l_va _ | with_reducible exact tb_l_ll _ | with_reducible exact tb_l_cf _ | with_reducible exact tb_l_kf _ | with_reducible exact sp_ts_lt _ _ _ _ | with_reducible exact sp_w_lt _ _ | with_reducible exact sp_cs_lt _ _ _ _ _ | with_reducible exact sp_cb_lt _ _ _ _ _ | with_reducible exact sp_ch_lt _ | with_reducible exact sp_bf_lt _ _ | omega) (by first | with_reducible assumption | with_reducible exact ep_lt _ | with_reducible exact sp_its_lt _ _ _ | with_reducible exact tb_l_rt _ | with_reducible exact tb_l_x _ | with_reducible exact tb_l_o0 _ | with_reducible exact tb_l_o1 _ | with_reducible exact tb_l_va _ | with_reducible exact tb_l_ll _ | with_reducible exact tb_l_cf _ | with_reducible exact tb_l_kf _ | with_reducible exact sp_ts_lt _ _ _ _ | with_reducible exact sp_w_lt _ _ | with_reducible exact sp_cs_lt _ _ _ _ _ | with_reducible exact sp_cb_lt _ _ _ _ _ | with_reducible exact sp_ch_lt _ | with_reducible exact sp_bf_lt _ _ | omega) (fun h11_2 => ?_) (fun h11_2 => by exact absurd h11_2 (by decide))
      refine ew_iconst (v := nI 1) d_Ve_doLayerPathsLead_83 (by decide) ?_
      exact ew_zret d_Ve_doLayerPathsLead_84 rfl (by decide) (⟨by rw [show sp_vl01 (M 22) j = true from by (unfold sp_vl01; rw [show (decide (sp_ro (M 22) 6 (sp_mix (M 22 45) (nI 12289)) (16 + (j % 8 + 8 * 0)) 46 = M 22 2)) = true from decide_eq_true h72, show (decide (sp_ro (M 22) 6 (sp_mix (M 22 50) (nI 12289)) (16 + (j % 8 + 8 * 1)) 51 = M 22 2)) = true from decide_eq_true h72_1]; first | rfl | done)]; rfl, rfl, rfl⟩)
    · refine ew_iconst (v := nI 0) d_Ve_doLayerPathsLead_75 (by decide) ?_
      exact ew_zret d_Ve_doLayerPathsLead_76 rfl (by decide) (⟨by rw [show sp_vl01 (M 22) j = false from by (unfold sp_vl01; rw [show (decide (sp_ro (M 22) 6 (sp_mix (M 22 45) (nI 12289)) (16 + (j % 8 + 8 * 0)) 46 = M 22 2)) = true from decide_eq_true h72, show (decide (sp_ro (M 22) 6 (sp_mix (M 22 50) (nI 12289)) (16 + (j % 8 + 8 * 1)) 51 = M 22 2)) = false from decide_eq_false h72_1]; first | rfl | done)]; rfl, rfl, rfl⟩)
  · refine ew_iconst (v := nI 0) d_Ve_doLayerPathsLead_75 (by decide) ?_
    exact ew_zret d_Ve_doLayerPathsLead_76 rfl (by decide) (⟨by rw [show sp_vl01 (M 22) j = false from by (unfold sp_vl01; rw [show (decide (sp_ro (M 22) 6 (sp_mix (M 22 45) (nI 12289)) (16 + (j % 8 + 8 * 0)) 46 = M 22 2)) = false from decide_eq_false h72]; first | rfl | done)]; rfl, rfl, rfl⟩)
set_option maxRecDepth 100000 in
theorem c_Ve_doLayerPathsLead02 (l : Launch) (g : ew_G) (d L : Nat) (M : ew_M) (hs : sp_st M) (j : Nat) (hj : M 46 0 = nI j) (hj2 : j < 16) :
    Ew l g (d + 3) 0 0 m_Ve_doLayerPathsLead 0 [.ref 43, .int (nI 0), .int (nI 2), .retAddr 0, .retAddr 0, .retAddr 0, .retAddr 0, .retAddr 0] [] (ew_SH L) M (ew_q (some (.int (ew_b (sp_vl02 (M 22) j)))) (ew_SH L) M) := by
  refine ew_iload_n d_Ve_doLayerPathsLead_0 rfl ?_
  refine en_callS (As := [.int (nI 2)]) (st := []) (st1 := [.int (nI 8)]) d_Ve_doLayerPathsLead_1 k_Pf_layerSize tw_556 tw_162 rfl (Nat.le_of_ble_eq_true rfl) rfl (Nat.le_of_ble_eq_true rfl) rfl rfl (c_Pf_layerSize2 l g _ L M) rfl ?_
  refine en_istore_n (ls' := [.ref 43, .int (nI 0), .int (nI 2), .int (nI 8), .retAddr 0, .retAddr 0, .retAddr 0, .retAddr 0]) d_Ve_doLayerPathsLead_4 (Nat.le_of_ble_eq_true rfl) rfl ?_
  refine ew_iconst (v := nI 0) d_Ve_doLayerPathsLead_5 (by decide) ?_
  refine en_istore (ls' := [.ref 43, .int (nI 0), .int (nI 2), .int (nI 8), .int (nI 0), .retAddr 0, .retAddr 0, .retAddr 0]) d_Ve_doLayerPathsLead_6 (Nat.le_of_ble_eq_true rfl) rfl ?_
  refine ew_iload d_Ve_doLayerPathsLead_8 rfl ?_
  refine ew_iconst (v := nI 2) d_Ve_doLayerPathsLead_10 (by decide) ?_
  refine en_icmp_ge (tgt := 83) d_Ve_doLayerPathsLead_11 (by decide) (by first | with_reducible assumption | with_reducible exact ep_lt _ | with_reducible exact sp_its_lt _ _ _ | with_reducible exact tb_l_rt _ | with_reducible exact tb_l_x _ | with_reducible exact tb_l_o0 _ | with_reducible exact tb_l_o1 _ | with_reducible exact tb_l_va _ | with_reducible exact tb_l_ll _ | with_reducible exact tb_l_cf _ | with_reducible exact tb_l_kf _ | with_reducible exact sp_ts_lt _ _ _ _ | with_reducible exact sp_w_lt _ _ | with_reducible exact sp_cs_lt _ _ _ _ _ | with_reducible exact sp_cb_lt _ _ _ _ _ | with_reducible exact sp_ch_lt _ | with_reducible exact sp_bf_lt _ _ | omega) (by first | with_reducible assumption | with_reducible exact ep_lt _ | with_reducible exact sp_its_lt _ _ _ | with_reducible exact tb_l_rt _ | with_reducible exact tb_l_x _ | with_reducible exact tb_l_o0 _ | with_reducible exact tb_l_o1 _ | with_reducible exact tb_l_va _ | with_reducible exact tb_l_ll _ | with_reducible exact tb_l_cf _ | with_reducible exact tb_l_kf _ | with_reducible exact sp_ts_lt _ _ _ _ | with_reducible exact sp_w_lt _ _ | with_reducible exact sp_cs_lt _ _ _ _ _ | with_reducible exact sp_cb_lt _ _ _ _ _ | with_reducible exact sp_ch_lt _ | with_reducible exact sp_bf_lt _ _ | omega) (fun h11 => by exact absurd h11 (by decide)) (fun h11 => ?_)
  refine ew_aload_n d_Ve_doLayerPathsLead_14 rfl ?_
  refine ew_iload_n d_Ve_doLayerPathsLead_15 rfl ?_
  refine en_callV (As := [.int (nI 0)]) (i := 43) (ci := 6) (st := []) (st1 := [.int (nI j)]) d_Ve_doLayerPathsLead_16 k_Ve_place rfl rfl tw_542 tw_543 tw_544 rfl (Nat.le_of_ble_eq_true rfl) rfl (Nat.le_of_ble_eq_true rfl) rfl rfl (c_Ve_place l g _ L M 0 j (by decide) (hj)) rfl ?_
  refine ew_iload_n d_Ve_doLayerPathsLead_19 rfl ?_
  refine ew_iload d_Ve_doLayerPathsLead_20 rfl ?_
  refine en_callS (As := [.int (nI j), .int (nI 2), .int (nI 0)]) (st := []) (st1 := [.int (nI (j % 4 + 4 * 0))]) d_Ve_doLayerPathsLead_22 k_Pf_layerIndex tw_557 tw_484 rfl (Nat.le_of_ble_eq_true rfl) rfl (Nat.le_of_ble_eq_true rfl) rfl rfl (c_Pf_layerIndex2 l g _ L M j 0 (hj2)) rfl ?_
  refine en_istore (ls' := [.ref 43, .int (nI 0), .int (nI 2), .int (nI 8), .int (nI 0), .int (nI (j % 4 + 4 * 0)), .retAddr 0, .retAddr 0]) d_Ve_doLayerPathsLead_25 (Nat.le_of_ble_eq_true rfl) rfl ?_
  refine ew_iload_n d_Ve_doLayerPathsLead_27 rfl ?_
  refine ew_iload_n d_Ve_doLayerPathsLead_28 rfl ?_
  refine ew_iload d_Ve_doLayerPathsLead_29 rfl ?_
  refine en_callS (As := [.int (nI 0), .int (nI 2), .int (nI 0)]) (st := []) (st1 := [.int (nI 55)]) d_Ve_doLayerPathsLead_31 k_Pf_layerStart tw_558 tw_488 rfl (Nat.le_of_ble_eq_true rfl) rfl (Nat.le_of_ble_eq_true rfl) rfl rfl (c_Pf_layerStart2 l g _ L M (hs) 0 0) rfl ?_
  refine en_istore (ls' := [.ref 43, .int (nI 0), .int (nI 2), .int (nI 8), .int (nI 0), .int (nI (j % 4 + 4 * 0)), .int (nI 55), .retAddr 0]) d_Ve_doLayerPathsLead_34 (Nat.le_of_ble_eq_true rfl) rfl ?_
  refine ew_aload_n d_Ve_doLayerPathsLead_36 rfl ?_
  refine ew_getr (ci := 6) (f := 3) d_Ve_doLayerPathsLead_37 rfl rfl rfl tw_200 ?_
  refine ew_iload d_Ve_doLayerPathsLead_40 rfl ?_
  refine ew_iald (j := 55) d_Ve_doLayerPathsLead_42 rfl (rfl) (by decide) (by decide) ?_
  refine en_callS (As := [.int (M 22 55)]) (st := []) (st1 := [.int (sp_mix (M 22 55) (nI 12289))]) d_Ve_doLayerPathsLead_43 k_Pf_layerLeaf tw_559 tw_453 rfl (Nat.le_of_ble_eq_true rfl) rfl (Nat.le_of_ble_eq_true rfl) rfl rfl (c_Pf_layerLeaf l g _ L M (M 22 55)) rfl ?_
  refine en_istore (ls' := [.ref 43, .int (nI 0), .int (nI 2), .int (nI 8), .int (nI 0), .int (nI (j % 4 + 4 * 0)), .int (nI 55), .int (sp_mix (M 22 55) (nI 12289))]) d_Ve_doLayerPathsLead_46 (Nat.le_of_ble_eq_true rfl) rfl ?_
  refine ew_iload_n d_Ve_doLayerPathsLead_48 rfl ?_
  refine ew_iload d_Ve_doLayerPathsLead_49 rfl ?_
  refine ew_iload d_Ve_doLayerPathsLead_51 rfl ?_
  refine ew_aload_n d_Ve_doLayerPathsLead_53 rfl ?_
  refine ew_getr (ci := 6) (f := 3) d_Ve_doLayerPathsLead_54 rfl rfl rfl tw_200 ?_
  refine ew_iload d_Ve_doLayerPathsLead_57 rfl ?_
  refine ew_iconst (v := nI 1) d_Ve_doLayerPathsLead_59 (by decide) ?_
  refine en_iadd d_Ve_doLayerPathsLead_60 ?_
  refine en_eq rfl (show _ = [.int (nI 56), .ref 22, .int (sp_mix (M 22 55) (nI 12289)), .int (nI (j % 4 + 4 * 0)), .int (nI 8)] from rfl) rfl ?_
  refine en_callS (As := [.int (nI 8), .int (nI (j % 4 + 4 * 0)), .int (sp_mix (M 22 55) (nI 12289)), .ref 22, .int (nI 56)]) (st := []) (st1 := [.int (sp_ro (M 22) 6 (sp_mix (M 22 55) (nI 12289)) (8 + (j % 4 + 4 * 0)) 56)]) d_Ve_doLayerPathsLead_61 k_Tr_rootOf tw_549 tw_550 rfl (Nat.le_of_ble_eq_true rfl) rfl (Nat.le_of_ble_eq_true rfl) rfl rfl (c_Tr_rootOf l g _ L M 8 (j % 4 + 4 * 0) 56 4 (sp_mix (M 22 55) (nI 12289)) (by omega) (by omega) (by omega)) rfl ?_
  refine ew_aload_n d_Ve_doLayerPathsLead_64 rfl ?_
  refine ew_getr (ci := 6) (f := 3) d_Ve_doLayerPathsLead_65 rfl rfl rfl tw_200 ?_
  refine ew_iconst (v := nI 1) d_Ve_doLayerPathsLead_68 (by decide) ?_
  refine ew_iload_n d_Ve_doLayerPathsLead_69 rfl ?_
  refine en_iadd d_Ve_doLayerPathsLead_70 ?_
  refine en_eq rfl (show _ = [.int (nI 3), .ref 22, .int (sp_ro (M 22) 6 (sp_mix (M 22 55) (nI 12289)) (8 + (j % 4 + 4 * 0)) 56)] from rfl) rfl ?_
  refine ew_iald (j := 3) d_Ve_doLayerPathsLead_71 rfl (rfl) (by decide) (by decide) ?_
  refine ew_icmp_eq (tgt := 77) d_Ve_doLayerPathsLead_72 (by decide) (fun h72 => ?_) (fun h72 => ?_)
  · refine en_inc (ls' := [.ref 43, .int (nI 0), .int (nI 2), .int (nI 8), .int (nI 1), .int (nI (j % 4 + 4 * 0)), .int (nI 55), .int (sp_mix (M 22 55) (nI 12289))]) d_Ve_doLayerPathsLead_77 rfl rfl ?_
    refine ew_goto (tgt := 8) d_Ve_doLayerPathsLead_80 (by decide) ?_
    refine ew_iload d_Ve_doLayerPathsLead_8 rfl ?_
    refine ew_iconst (v := nI 2) d_Ve_doLayerPathsLead_10 (by decide) ?_
    refine en_icmp_ge (tgt := 83) d_Ve_doLayerPathsLead_11 (by decide) (by first | with_reducible assumption | with_reducible exact ep_lt _ | with_reducible exact sp_its_lt _ _ _ | with_reducible exact tb_l_rt _ | with_reducible exact tb_l_x _ | with_reducible exact tb_l_o0 _ | with_reducible exact tb_l_o1 _ | with_reducible exact tb_l_va _ | with_reducible exact tb_l_ll _ | with_reducible exact tb_l_cf _ | with_reducible exact tb_l_kf _ | with_reducible exact sp_ts_lt _ _ _ _ | with_reducible exact sp_w_lt _ _ | with_reducible exact sp_cs_lt _ _ _ _ _ | with_reducible exact sp_cb_lt _ _ _ _ _ | with_reducible exact sp_ch_lt _ | with_reducible exact sp_bf_lt _ _ | omega) (by first | with_reducible assumption | with_reducible exact ep_lt _ | with_reducible exact sp_its_lt _ _ _ | with_reducible exact tb_l_rt _ | with_reducible exact tb_l_x _ | with_reducible exact tb_l_o0 _ | with_reducible exact tb_l_o1 _ | with_reducible exact tb_l_va _ | with_reducible exact tb_l_ll _ | with_reducible exact tb_l_cf _ | with_reducible exact tb_l_kf _ | with_reducible exact sp_ts_lt _ _ _ _ | with_reducible exact sp_w_lt _ _ | with_reducible exact sp_cs_lt _ _ _ _ _ | with_reducible exact sp_cb_lt _ _ _ _ _ | with_reducible exact sp_ch_lt _ | with_reducible exact sp_bf_lt _ _ | omega) (fun h11_1 => by exact absurd h11_1 (by decide)) (fun h11_1 => ?_)
    refine ew_aload_n d_Ve_doLayerPathsLead_14 rfl ?_
    refine ew_iload_n d_Ve_doLayerPathsLead_15 rfl ?_
    refine en_callV (As := [.int (nI 0)]) (i := 43) (ci := 6) (st := []) (st1 := [.int (nI j)]) d_Ve_doLayerPathsLead_16 k_Ve_place rfl rfl tw_542 tw_543 tw_544 rfl (Nat.le_of_ble_eq_true rfl) rfl (Nat.le_of_ble_eq_true rfl) rfl rfl (c_Ve_place l g _ L M 0 j (by decide) (hj)) rfl ?_
    refine ew_iload_n d_Ve_doLayerPathsLead_19 rfl ?_
    refine ew_iload d_Ve_doLayerPathsLead_20 rfl ?_
    refine en_callS (As := [.int (nI j), .int (nI 2), .int (nI 1)]) (st := []) (st1 := [.int (nI (j % 4 + 4 * 1))]) d_Ve_doLayerPathsLead_22 k_Pf_layerIndex tw_557 tw_484 rfl (Nat.le_of_ble_eq_true rfl) rfl (Nat.le_of_ble_eq_true rfl) rfl rfl (c_Pf_layerIndex2 l g _ L M j 1 (hj2)) rfl ?_
    refine en_istore (ls' := [.ref 43, .int (nI 0), .int (nI 2), .int (nI 8), .int (nI 1), .int (nI (j % 4 + 4 * 1)), .int (nI 55), .int (sp_mix (M 22 55) (nI 12289))]) d_Ve_doLayerPathsLead_25 (Nat.le_of_ble_eq_true rfl) rfl ?_
    refine ew_iload_n d_Ve_doLayerPathsLead_27 rfl ?_
    refine ew_iload_n d_Ve_doLayerPathsLead_28 rfl ?_
    refine ew_iload d_Ve_doLayerPathsLead_29 rfl ?_
    refine en_callS (As := [.int (nI 0), .int (nI 2), .int (nI 1)]) (st := []) (st1 := [.int (nI 59)]) d_Ve_doLayerPathsLead_31 k_Pf_layerStart tw_558 tw_488 rfl (Nat.le_of_ble_eq_true rfl) rfl (Nat.le_of_ble_eq_true rfl) rfl rfl (c_Pf_layerStart2 l g _ L M (hs) 0 1) rfl ?_
    refine en_istore (ls' := [.ref 43, .int (nI 0), .int (nI 2), .int (nI 8), .int (nI 1), .int (nI (j % 4 + 4 * 1)), .int (nI 59), .int (sp_mix (M 22 55) (nI 12289))]) d_Ve_doLayerPathsLead_34 (Nat.le_of_ble_eq_true rfl) rfl ?_
    refine ew_aload_n d_Ve_doLayerPathsLead_36 rfl ?_
    refine ew_getr (ci := 6) (f := 3) d_Ve_doLayerPathsLead_37 rfl rfl rfl tw_200 ?_
    refine ew_iload d_Ve_doLayerPathsLead_40 rfl ?_
    refine ew_iald (j := 59) d_Ve_doLayerPathsLead_42 rfl (rfl) (by decide) (by decide) ?_
    refine en_callS (As := [.int (M 22 59)]) (st := []) (st1 := [.int (sp_mix (M 22 59) (nI 12289))]) d_Ve_doLayerPathsLead_43 k_Pf_layerLeaf tw_559 tw_453 rfl (Nat.le_of_ble_eq_true rfl) rfl (Nat.le_of_ble_eq_true rfl) rfl rfl (c_Pf_layerLeaf l g _ L M (M 22 59)) rfl ?_
    refine en_istore (ls' := [.ref 43, .int (nI 0), .int (nI 2), .int (nI 8), .int (nI 1), .int (nI (j % 4 + 4 * 1)), .int (nI 59), .int (sp_mix (M 22 59) (nI 12289))]) d_Ve_doLayerPathsLead_46 (Nat.le_of_ble_eq_true rfl) rfl ?_
    refine ew_iload_n d_Ve_doLayerPathsLead_48 rfl ?_
    refine ew_iload d_Ve_doLayerPathsLead_49 rfl ?_
    refine ew_iload d_Ve_doLayerPathsLead_51 rfl ?_
    refine ew_aload_n d_Ve_doLayerPathsLead_53 rfl ?_
    refine ew_getr (ci := 6) (f := 3) d_Ve_doLayerPathsLead_54 rfl rfl rfl tw_200 ?_
    refine ew_iload d_Ve_doLayerPathsLead_57 rfl ?_
    refine ew_iconst (v := nI 1) d_Ve_doLayerPathsLead_59 (by decide) ?_
    refine en_iadd d_Ve_doLayerPathsLead_60 ?_
    refine en_eq rfl (show _ = [.int (nI 60), .ref 22, .int (sp_mix (M 22 59) (nI 12289)), .int (nI (j % 4 + 4 * 1)), .int (nI 8)] from rfl) rfl ?_
    refine en_callS (As := [.int (nI 8), .int (nI (j % 4 + 4 * 1)), .int (sp_mix (M 22 59) (nI 12289)), .ref 22, .int (nI 60)]) (st := []) (st1 := [.int (sp_ro (M 22) 6 (sp_mix (M 22 59) (nI 12289)) (8 + (j % 4 + 4 * 1)) 60)]) d_Ve_doLayerPathsLead_61 k_Tr_rootOf tw_549 tw_550 rfl (Nat.le_of_ble_eq_true rfl) rfl (Nat.le_of_ble_eq_true rfl) rfl rfl (c_Tr_rootOf l g _ L M 8 (j % 4 + 4 * 1) 60 4 (sp_mix (M 22 59) (nI 12289)) (by omega) (by omega) (by omega)) rfl ?_
    refine ew_aload_n d_Ve_doLayerPathsLead_64 rfl ?_
    refine ew_getr (ci := 6) (f := 3) d_Ve_doLayerPathsLead_65 rfl rfl rfl tw_200 ?_
    refine ew_iconst (v := nI 1) d_Ve_doLayerPathsLead_68 (by decide) ?_
    refine ew_iload_n d_Ve_doLayerPathsLead_69 rfl ?_
    refine en_iadd d_Ve_doLayerPathsLead_70 ?_
    refine en_eq rfl (show _ = [.int (nI 3), .ref 22, .int (sp_ro (M 22) 6 (sp_mix (M 22 59) (nI 12289)) (8 + (j % 4 + 4 * 1)) 60)] from rfl) rfl ?_
    refine ew_iald (j := 3) d_Ve_doLayerPathsLead_71 rfl (rfl) (by decide) (by decide) ?_
    refine ew_icmp_eq (tgt := 77) d_Ve_doLayerPathsLead_72 (by decide) (fun h72_1 => ?_) (fun h72_1 => ?_)
    · refine en_inc (ls' := [.ref 43, .int (nI 0), .int (nI 2), .int (nI 8), .int (nI 2), .int (nI (j % 4 + 4 * 1)), .int (nI 59), .int (sp_mix (M 22 59) (nI 12289))]) d_Ve_doLayerPathsLead_77 rfl rfl ?_
      refine ew_goto (tgt := 8) d_Ve_doLayerPathsLead_80 (by decide) ?_
      refine ew_iload d_Ve_doLayerPathsLead_8 rfl ?_
      refine ew_iconst (v := nI 2) d_Ve_doLayerPathsLead_10 (by decide) ?_
      refine en_icmp_ge (tgt := 83) d_Ve_doLayerPathsLead_11 (by decide) (by first | with_reducible assumption | with_reducible exact ep_lt _ | with_reducible exact sp_its_lt _ _ _ | with_reducible exact tb_l_rt _ | with_reducible exact tb_l_x _ | with_reducible exact tb_l_o0 _ | with_reducible exact tb_l_o1 _ | with_reducible exact tb_l_va _ | with_reducible exact tb_l_ll _ | with_reducible exact tb_l_cf _ | with_reducible exact tb_l_kf _ | with_reducible exact sp_ts_lt _ _ _ _ | with_reducible exact sp_w_lt _ _ | with_reducible exact sp_cs_lt _ _ _ _ _ | with_reducible exact sp_cb_lt _ _ _ _ _ | with_reducible exact sp_ch_lt _ | with_reducible exact sp_bf_lt _ _ | omega) (by first | with_reducible assumption | with_reducible exact ep_lt _ | with_reducible exact sp_its_lt _ _ _ | with_reducible exact tb_l_rt _ | with_reducible exact tb_l_x _ | with_reducible exact tb_l_o0 _ | with_reducible exact tb_l_o1 _ | with_reducible exact tb_l_va _ | with_reducible exact tb_l_ll _ | with_reducible exact tb_l_cf _ | with_reducible exact tb_l_kf _ | with_reducible exact sp_ts_lt _ _ _ _ | with_reducible exact sp_w_lt _ _ | with_reducible exact sp_cs_lt _ _ _ _ _ | with_reducible exact sp_cb_lt _ _ _ _ _ | with_reducible exact sp_ch_lt _ | with_reducible exact sp_bf_lt _ _ | omega) (fun h11_2 => ?_) (fun h11_2 => by exact absurd h11_2 (by decide))
      refine ew_iconst (v := nI 1) d_Ve_doLayerPathsLead_83 (by decide) ?_
      exact ew_zret d_Ve_doLayerPathsLead_84 rfl (by decide) (⟨by rw [show sp_vl02 (M 22) j = true from by (unfold sp_vl02; rw [show (decide (sp_ro (M 22) 6 (sp_mix (M 22 55) (nI 12289)) (8 + (j % 4 + 4 * 0)) 56 = M 22 3)) = true from decide_eq_true h72, show (decide (sp_ro (M 22) 6 (sp_mix (M 22 59) (nI 12289)) (8 + (j % 4 + 4 * 1)) 60 = M 22 3)) = true from decide_eq_true h72_1]; first | rfl | done)]; rfl, rfl, rfl⟩)
    · refine ew_iconst (v := nI 0) d_Ve_doLayerPathsLead_75 (by decide) ?_
      exact ew_zret d_Ve_doLayerPathsLead_76 rfl (by decide) (⟨by rw [show sp_vl02 (M 22) j = false from by (unfold sp_vl02; rw [show (decide (sp_ro (M 22) 6 (sp_mix (M 22 55) (nI 12289)) (8 + (j % 4 + 4 * 0)) 56 = M 22 3)) = true from decide_eq_true h72, show (decide (sp_ro (M 22) 6 (sp_mix (M 22 59) (nI 12289)) (8 + (j % 4 + 4 * 1)) 60 = M 22 3)) = false from decide_eq_false h72_1]; first | rfl | done)]; rfl, rfl, rfl⟩)
  · refine ew_iconst (v := nI 0) d_Ve_doLayerPathsLead_75 (by decide) ?_
    exact ew_zret d_Ve_doLayerPathsLead_76 rfl (by decide) (⟨by rw [show sp_vl02 (M 22) j = false from by (unfold sp_vl02; rw [show (decide (sp_ro (M 22) 6 (sp_mix (M 22 55) (nI 12289)) (8 + (j % 4 + 4 * 0)) 56 = M 22 3)) = false from decide_eq_false h72]; first | rfl | done)]; rfl, rfl, rfl⟩)
set_option maxRecDepth 100000 in
theorem c_Ve_isComposed00 (l : Launch) (g : ew_G) (d L : Nat) (M : ew_M) (ρ : sp_R) (hr : sp_ru ρ M) (hT : sp_tab M) (hs : sp_st M) (h16 : M 16 0 = nI 1) (fn : Nat → Nat) (hfn : sp_fnok (M 22) fn) (A : Nat) (hA : M 44 1 = nI A) (hA2 : A < 12289) (j : Nat) (hj : M 46 0 = nI j) (hj2 : j < 16) :
    Ew l g (d + 3) 0 0 m_Ve_isComposed 0 [.ref 43, .int (nI 0), .int (nI 0), .retAddr 0, .retAddr 0, .retAddr 0] [] (ew_SH L) M (ew_q (some (.int (ew_b (sp_vo0 ρ fn j A 0)))) (ew_SH L) (sp_rd M 16 (nI (fn 5)) (nI (fn 6)) (nI (fn 12)) (nI (fn 13)))) := by
  refine ew_iload_n d_Ve_isComposed_0 rfl ?_
  refine ew_iconst (v := nI 2) d_Ve_isComposed_1 (by decide) ?_
  refine ew_iload_n d_Ve_isComposed_2 rfl ?_
  refine en_imul d_Ve_isComposed_3 ?_
  refine en_eq rfl (show _ = [.int (nI 0), .int (nI 0)] from rfl) rfl ?_
  refine en_callS (As := [.int (nI 0), .int (nI 0)]) (st := []) (st1 := [.int (nI 5)]) d_Ve_isComposed_4 k_Pf_columnStart tw_547 tw_473 rfl (Nat.le_of_ble_eq_true rfl) rfl (Nat.le_of_ble_eq_true rfl) rfl rfl (c_Pf_columnStart l g _ L M 0 0) rfl ?_
  refine en_istore_n (ls' := [.ref 43, .int (nI 0), .int (nI 0), .int (nI 5), .retAddr 0, .retAddr 0]) d_Ve_isComposed_7 (Nat.le_of_ble_eq_true rfl) rfl ?_
  refine ew_iload_n d_Ve_isComposed_8 rfl ?_
  refine ew_iconst (v := nI 2) d_Ve_isComposed_9 (by decide) ?_
  refine ew_iload_n d_Ve_isComposed_10 rfl ?_
  refine en_imul d_Ve_isComposed_11 ?_
  refine en_eq rfl (show _ = [.int (nI 0), .int (nI 0)] from rfl) rfl ?_
  refine ew_iconst (v := nI 1) d_Ve_isComposed_12 (by decide) ?_
  refine en_iadd d_Ve_isComposed_13 ?_
  refine en_eq rfl (show _ = [.int (nI 1), .int (nI 0)] from rfl) rfl ?_
  refine en_callS (As := [.int (nI 0), .int (nI 1)]) (st := []) (st1 := [.int (nI 12)]) d_Ve_isComposed_14 k_Pf_columnStart tw_547 tw_473 rfl (Nat.le_of_ble_eq_true rfl) rfl (Nat.le_of_ble_eq_true rfl) rfl rfl (c_Pf_columnStart l g _ L M 0 1) rfl ?_
  refine en_istore (ls' := [.ref 43, .int (nI 0), .int (nI 0), .int (nI 5), .int (nI 12), .retAddr 0]) d_Ve_isComposed_17 (Nat.le_of_ble_eq_true rfl) rfl ?_
  refine ew_aload_n d_Ve_isComposed_19 rfl ?_
  refine ew_getr (ci := 6) (f := 1) d_Ve_isComposed_20 rfl rfl rfl tw_198 ?_
  refine ew_aload_n d_Ve_isComposed_23 rfl ?_
  refine ew_getr (ci := 6) (f := 3) d_Ve_isComposed_24 rfl rfl rfl tw_200 ?_
  refine ew_iload_n d_Ve_isComposed_27 rfl ?_
  refine ew_iald (j := 5) d_Ve_isComposed_28 rfl (rfl) (by decide) (by decide) ?_
  refine en_eq (st' := [.int (nI (fn 5)), .ref 10]) rfl (by rw [show (M 22 5) = (nI (fn 5)) from (hfn 5 (by decide)).1]) rfl ?_
  refine ew_aload_n d_Ve_isComposed_29 rfl ?_
  refine ew_getr (ci := 6) (f := 3) d_Ve_isComposed_30 rfl rfl rfl tw_200 ?_
  refine ew_iload_n d_Ve_isComposed_33 rfl ?_
  refine ew_iconst (v := nI 1) d_Ve_isComposed_34 (by decide) ?_
  refine en_iadd d_Ve_isComposed_35 ?_
  refine en_eq rfl (show _ = [.int (nI 6), .ref 22, .int (nI (fn 5)), .ref 10] from rfl) rfl ?_
  refine ew_iald (j := 6) d_Ve_isComposed_36 rfl (rfl) (by decide) (by decide) ?_
  refine en_eq (st' := [.int (nI (fn 6)), .int (nI (fn 5)), .ref 10]) rfl (by rw [show (M 22 6) = (nI (fn 6)) from (hfn 6 (by decide)).1]) rfl ?_
  refine ew_aload_n d_Ve_isComposed_37 rfl ?_
  refine ew_getr (ci := 6) (f := 3) d_Ve_isComposed_38 rfl rfl rfl tw_200 ?_
  refine ew_iload d_Ve_isComposed_41 rfl ?_
  refine ew_iald (j := 12) d_Ve_isComposed_43 rfl (rfl) (by decide) (by decide) ?_
  refine en_eq (st' := [.int (nI (fn 12)), .int (nI (fn 6)), .int (nI (fn 5)), .ref 10]) rfl (by rw [show (M 22 12) = (nI (fn 12)) from (hfn 12 (by decide)).1]) rfl ?_
  refine ew_aload_n d_Ve_isComposed_44 rfl ?_
  refine ew_getr (ci := 6) (f := 3) d_Ve_isComposed_45 rfl rfl rfl tw_200 ?_
  refine ew_iload d_Ve_isComposed_48 rfl ?_
  refine ew_iconst (v := nI 1) d_Ve_isComposed_50 (by decide) ?_
  refine en_iadd d_Ve_isComposed_51 ?_
  refine en_eq rfl (show _ = [.int (nI 13), .ref 22, .int (nI (fn 12)), .int (nI (fn 6)), .int (nI (fn 5)), .ref 10] from rfl) rfl ?_
  refine ew_iald (j := 13) d_Ve_isComposed_52 rfl (rfl) (by decide) (by decide) ?_
  refine en_eq (st' := [.int (nI (fn 13)), .int (nI (fn 12)), .int (nI (fn 6)), .int (nI (fn 5)), .ref 10]) rfl (by rw [show (M 22 13) = (nI (fn 13)) from (hfn 13 (by decide)).1]) rfl ?_
  refine en_callV (As := [.int (nI (fn 5)), .int (nI (fn 6)), .int (nI (fn 12)), .int (nI (fn 13))]) (i := 10) (ci := 2) (st := []) (st1 := []) d_Ve_isComposed_53 k_Ru_read rfl rfl tw_564 tw_325 tw_326 rfl (Nat.le_of_ble_eq_true rfl) rfl (Nat.le_of_ble_eq_true rfl) rfl rfl (c_Ru_read l g _ L M (nI (fn 5)) (nI (fn 6)) (nI (fn 12)) (nI (fn 13))) rfl ?_
  refine ew_aload_n d_Ve_isComposed_56 rfl ?_
  refine ew_getr (ci := 6) (f := 1) d_Ve_isComposed_57 rfl rfl rfl tw_198 ?_
  refine ew_aload_n d_Ve_isComposed_60 rfl ?_
  refine ew_iload_n d_Ve_isComposed_61 rfl ?_
  refine en_callV (As := [.int (nI 0)]) (i := 43) (ci := 6) (st := [.ref 10]) (st1 := [.int (nI j), .ref 10]) d_Ve_isComposed_62 k_Ve_place rfl rfl tw_542 tw_543 tw_544 rfl (Nat.le_of_ble_eq_true rfl) rfl (Nat.le_of_ble_eq_true rfl) rfl rfl (c_Ve_place l g _ L (sp_rd M 16 (nI (fn 5)) (nI (fn 6)) (nI (fn 12)) (nI (fn 13))) 0 j (by decide) (by (rw [sp_rd_ne (by decide)]; exact hj))) rfl ?_
  refine ew_iconst (v := nI 0) d_Ve_isComposed_65 (by decide) ?_
  refine ew_iload_n d_Ve_isComposed_66 rfl ?_
  refine en_callS (As := [.int (nI j), .int (nI 0), .int (nI 0)]) (st := [.ref 10]) (st1 := [.int (nI (j % 16 + 16 * 0)), .ref 10]) d_Ve_isComposed_67 k_Pf_layerIndex tw_557 tw_484 rfl (Nat.le_of_ble_eq_true rfl) rfl (Nat.le_of_ble_eq_true rfl) rfl rfl (c_Pf_layerIndex0 l g _ L (sp_rd M 16 (nI (fn 5)) (nI (fn 6)) (nI (fn 12)) (nI (fn 13))) j 0 (hj2)) rfl ?_
  refine ew_aload_n d_Ve_isComposed_70 rfl ?_
  refine ew_getr (ci := 6) (f := 4) d_Ve_isComposed_71 rfl rfl rfl tw_201 ?_
  refine ew_getiN (ci := 7) (f := 1) d_Ve_isComposed_74 rfl rfl rfl tw_130 ?_
  refine en_eq (st' := [.int (nI A), .int (nI (j % 16 + 16 * 0)), .ref 10]) rfl (by rw [show ((sp_rd M 16 (nI (fn 5)) (nI (fn 6)) (nI (fn 12)) (nI (fn 13))) 44 1) = (nI A) from by (rw [sp_rd_ne (by decide)]; exact hA)]) rfl ?_
  refine en_callV (As := [.int (nI (j % 16 + 16 * 0)), .int (nI A)]) (i := 10) (ci := 2) (st := []) (st1 := [.int (nI (sp_com ρ (sp_le (fn 5) (fn 6) (fn 12) (fn 13)) (j % 16 + 16 * 0) A))]) d_Ve_isComposed_77 k_Ru_composition rfl rfl tw_565 tw_424 tw_425 rfl (Nat.le_of_ble_eq_true rfl) rfl (Nat.le_of_ble_eq_true rfl) rfl rfl (c_Ru_composition l g _ L (sp_rd M 16 (nI (fn 5)) (nI (fn 6)) (nI (fn 12)) (nI (fn 13))) ρ (sp_ru_of hr (sp_rd_ne (by decide)) (sp_rd_ne (by decide)) (sp_rd_ne (by decide)) (sp_rd_ne (by decide)) (sp_rd_ne (by decide))) (sp_le (fn 5) (fn 6) (fn 12) (fn 13)) (sp_rd_le h16 (hfn 5 (by decide)).2 (hfn 6 (by decide)).2 (hfn 12 (by decide)).2 (hfn 13 (by decide)).2) (sp_tab_of hT (sp_rd_ne (by decide)) (sp_rd_ne (by decide)) (sp_rd_ne (by decide)) (sp_rd_ne (by decide)) (sp_rd_ne (by decide))) (j % 16 + 16 * 0) A (by omega) hA2) rfl ?_
  refine en_istore (ls' := [.ref 43, .int (nI 0), .int (nI 0), .int (nI 5), .int (nI 12), .int (nI (sp_com ρ (sp_le (fn 5) (fn 6) (fn 12) (fn 13)) (j % 16 + 16 * 0) A))]) d_Ve_isComposed_80 (Nat.le_of_ble_eq_true rfl) rfl ?_
  refine ew_iload d_Ve_isComposed_82 rfl ?_
  refine ew_aload_n d_Ve_isComposed_84 rfl ?_
  refine ew_getr (ci := 6) (f := 3) d_Ve_isComposed_85 rfl rfl rfl tw_200 ?_
  refine ew_iload_n d_Ve_isComposed_88 rfl ?_
  refine ew_iconst (v := nI 0) d_Ve_isComposed_89 (by decide) ?_
  refine ew_iload_n d_Ve_isComposed_90 rfl ?_
  refine en_callS (As := [.int (nI 0), .int (nI 0), .int (nI 0)]) (st := [.ref 22, .int (nI (sp_com ρ (sp_le (fn 5) (fn 6) (fn 12) (fn 13)) (j % 16 + 16 * 0) A))]) (st1 := [.int (nI 33), .ref 22, .int (nI (sp_com ρ (sp_le (fn 5) (fn 6) (fn 12) (fn 13)) (j % 16 + 16 * 0) A))]) d_Ve_isComposed_91 k_Pf_layerStart tw_558 tw_488 rfl (Nat.le_of_ble_eq_true rfl) rfl (Nat.le_of_ble_eq_true rfl) rfl rfl (c_Pf_layerStart0 l g _ L (sp_rd M 16 (nI (fn 5)) (nI (fn 6)) (nI (fn 12)) (nI (fn 13))) (sp_st_of hs (sp_rd_ne (by decide)) (sp_rd_ne (by decide))) 0 0) rfl ?_
  refine ew_iald (j := 33) d_Ve_isComposed_94 rfl (rfl) (by decide) (by decide) ?_
  refine en_eq (st' := [.int (nI (fn 33)), .int (nI (sp_com ρ (sp_le (fn 5) (fn 6) (fn 12) (fn 13)) (j % 16 + 16 * 0) A))]) rfl (by rw [show ((sp_rd M 16 (nI (fn 5)) (nI (fn 6)) (nI (fn 12)) (nI (fn 13))) 22 33) = (nI (fn 33)) from by (rw [sp_rd_ne (by decide)]; exact (hfn 33 (by decide)).1)]) rfl ?_
  refine en_icmp_ne (tgt := 102) d_Ve_isComposed_95 (by decide) (by first | exact Nat.lt_trans (sp_com_lt _ _ _ _) (by decide) | exact Nat.lt_trans (hfn 33 (by decide)).2 (by decide)) (by first | exact Nat.lt_trans (sp_com_lt _ _ _ _) (by decide) | exact Nat.lt_trans (hfn 33 (by decide)).2 (by decide)) (fun h95 => ?_) (fun h95 => ?_)
  · refine ew_iconst (v := nI 0) d_Ve_isComposed_102 (by decide) ?_
    exact ew_zret d_Ve_isComposed_103 rfl (by decide) (⟨by rw [show sp_vo0 ρ fn j A 0 = false from decide_eq_false h95]; rfl, rfl, rfl⟩)
  · refine ew_iconst (v := nI 1) d_Ve_isComposed_98 (by decide) ?_
    refine ew_goto (tgt := 103) d_Ve_isComposed_99 (by decide) ?_
    exact ew_zret d_Ve_isComposed_103 rfl (by decide) (⟨by rw [show sp_vo0 ρ fn j A 0 = true from decide_eq_true h95]; rfl, rfl, rfl⟩)
set_option maxRecDepth 100000 in
theorem c_Ve_isComposed01 (l : Launch) (g : ew_G) (d L : Nat) (M : ew_M) (ρ : sp_R) (hr : sp_ru ρ M) (hT : sp_tab M) (hs : sp_st M) (h16 : M 16 0 = nI 1) (fn : Nat → Nat) (hfn : sp_fnok (M 22) fn) (A : Nat) (hA : M 44 1 = nI A) (hA2 : A < 12289) (j : Nat) (hj : M 46 0 = nI j) (hj2 : j < 16) :
    Ew l g (d + 3) 0 0 m_Ve_isComposed 0 [.ref 43, .int (nI 0), .int (nI 1), .retAddr 0, .retAddr 0, .retAddr 0] [] (ew_SH L) M (ew_q (some (.int (ew_b (sp_vo0 ρ fn j A 1)))) (ew_SH L) (sp_rd M 16 (nI (fn 19)) (nI (fn 20)) (nI (fn 26)) (nI (fn 27)))) := by
  refine ew_iload_n d_Ve_isComposed_0 rfl ?_
  refine ew_iconst (v := nI 2) d_Ve_isComposed_1 (by decide) ?_
  refine ew_iload_n d_Ve_isComposed_2 rfl ?_
  refine en_imul d_Ve_isComposed_3 ?_
  refine en_eq rfl (show _ = [.int (nI 2), .int (nI 0)] from rfl) rfl ?_
  refine en_callS (As := [.int (nI 0), .int (nI 2)]) (st := []) (st1 := [.int (nI 19)]) d_Ve_isComposed_4 k_Pf_columnStart tw_547 tw_473 rfl (Nat.le_of_ble_eq_true rfl) rfl (Nat.le_of_ble_eq_true rfl) rfl rfl (c_Pf_columnStart l g _ L M 0 2) rfl ?_
  refine en_istore_n (ls' := [.ref 43, .int (nI 0), .int (nI 1), .int (nI 19), .retAddr 0, .retAddr 0]) d_Ve_isComposed_7 (Nat.le_of_ble_eq_true rfl) rfl ?_
  refine ew_iload_n d_Ve_isComposed_8 rfl ?_
  refine ew_iconst (v := nI 2) d_Ve_isComposed_9 (by decide) ?_
  refine ew_iload_n d_Ve_isComposed_10 rfl ?_
  refine en_imul d_Ve_isComposed_11 ?_
  refine en_eq rfl (show _ = [.int (nI 2), .int (nI 0)] from rfl) rfl ?_
  refine ew_iconst (v := nI 1) d_Ve_isComposed_12 (by decide) ?_
  refine en_iadd d_Ve_isComposed_13 ?_
  refine en_eq rfl (show _ = [.int (nI 3), .int (nI 0)] from rfl) rfl ?_
  refine en_callS (As := [.int (nI 0), .int (nI 3)]) (st := []) (st1 := [.int (nI 26)]) d_Ve_isComposed_14 k_Pf_columnStart tw_547 tw_473 rfl (Nat.le_of_ble_eq_true rfl) rfl (Nat.le_of_ble_eq_true rfl) rfl rfl (c_Pf_columnStart l g _ L M 0 3) rfl ?_
  refine en_istore (ls' := [.ref 43, .int (nI 0), .int (nI 1), .int (nI 19), .int (nI 26), .retAddr 0]) d_Ve_isComposed_17 (Nat.le_of_ble_eq_true rfl) rfl ?_
  refine ew_aload_n d_Ve_isComposed_19 rfl ?_
  refine ew_getr (ci := 6) (f := 1) d_Ve_isComposed_20 rfl rfl rfl tw_198 ?_
  refine ew_aload_n d_Ve_isComposed_23 rfl ?_
  refine ew_getr (ci := 6) (f := 3) d_Ve_isComposed_24 rfl rfl rfl tw_200 ?_
  refine ew_iload_n d_Ve_isComposed_27 rfl ?_
  refine ew_iald (j := 19) d_Ve_isComposed_28 rfl (rfl) (by decide) (by decide) ?_
  refine en_eq (st' := [.int (nI (fn 19)), .ref 10]) rfl (by rw [show (M 22 19) = (nI (fn 19)) from (hfn 19 (by decide)).1]) rfl ?_
  refine ew_aload_n d_Ve_isComposed_29 rfl ?_
  refine ew_getr (ci := 6) (f := 3) d_Ve_isComposed_30 rfl rfl rfl tw_200 ?_
  refine ew_iload_n d_Ve_isComposed_33 rfl ?_
  refine ew_iconst (v := nI 1) d_Ve_isComposed_34 (by decide) ?_
  refine en_iadd d_Ve_isComposed_35 ?_
  refine en_eq rfl (show _ = [.int (nI 20), .ref 22, .int (nI (fn 19)), .ref 10] from rfl) rfl ?_
  refine ew_iald (j := 20) d_Ve_isComposed_36 rfl (rfl) (by decide) (by decide) ?_
  refine en_eq (st' := [.int (nI (fn 20)), .int (nI (fn 19)), .ref 10]) rfl (by rw [show (M 22 20) = (nI (fn 20)) from (hfn 20 (by decide)).1]) rfl ?_
  refine ew_aload_n d_Ve_isComposed_37 rfl ?_
  refine ew_getr (ci := 6) (f := 3) d_Ve_isComposed_38 rfl rfl rfl tw_200 ?_
  refine ew_iload d_Ve_isComposed_41 rfl ?_
  refine ew_iald (j := 26) d_Ve_isComposed_43 rfl (rfl) (by decide) (by decide) ?_
  refine en_eq (st' := [.int (nI (fn 26)), .int (nI (fn 20)), .int (nI (fn 19)), .ref 10]) rfl (by rw [show (M 22 26) = (nI (fn 26)) from (hfn 26 (by decide)).1]) rfl ?_
  refine ew_aload_n d_Ve_isComposed_44 rfl ?_
  refine ew_getr (ci := 6) (f := 3) d_Ve_isComposed_45 rfl rfl rfl tw_200 ?_
  refine ew_iload d_Ve_isComposed_48 rfl ?_
  refine ew_iconst (v := nI 1) d_Ve_isComposed_50 (by decide) ?_
  refine en_iadd d_Ve_isComposed_51 ?_
  refine en_eq rfl (show _ = [.int (nI 27), .ref 22, .int (nI (fn 26)), .int (nI (fn 20)), .int (nI (fn 19)), .ref 10] from rfl) rfl ?_
  refine ew_iald (j := 27) d_Ve_isComposed_52 rfl (rfl) (by decide) (by decide) ?_
  refine en_eq (st' := [.int (nI (fn 27)), .int (nI (fn 26)), .int (nI (fn 20)), .int (nI (fn 19)), .ref 10]) rfl (by rw [show (M 22 27) = (nI (fn 27)) from (hfn 27 (by decide)).1]) rfl ?_
  refine en_callV (As := [.int (nI (fn 19)), .int (nI (fn 20)), .int (nI (fn 26)), .int (nI (fn 27))]) (i := 10) (ci := 2) (st := []) (st1 := []) d_Ve_isComposed_53 k_Ru_read rfl rfl tw_564 tw_325 tw_326 rfl (Nat.le_of_ble_eq_true rfl) rfl (Nat.le_of_ble_eq_true rfl) rfl rfl (c_Ru_read l g _ L M (nI (fn 19)) (nI (fn 20)) (nI (fn 26)) (nI (fn 27))) rfl ?_
  refine ew_aload_n d_Ve_isComposed_56 rfl ?_
  refine ew_getr (ci := 6) (f := 1) d_Ve_isComposed_57 rfl rfl rfl tw_198 ?_
  refine ew_aload_n d_Ve_isComposed_60 rfl ?_
  refine ew_iload_n d_Ve_isComposed_61 rfl ?_
  refine en_callV (As := [.int (nI 0)]) (i := 43) (ci := 6) (st := [.ref 10]) (st1 := [.int (nI j), .ref 10]) d_Ve_isComposed_62 k_Ve_place rfl rfl tw_542 tw_543 tw_544 rfl (Nat.le_of_ble_eq_true rfl) rfl (Nat.le_of_ble_eq_true rfl) rfl rfl (c_Ve_place l g _ L (sp_rd M 16 (nI (fn 19)) (nI (fn 20)) (nI (fn 26)) (nI (fn 27))) 0 j (by decide) (by (rw [sp_rd_ne (by decide)]; exact hj))) rfl ?_
  refine ew_iconst (v := nI 0) d_Ve_isComposed_65 (by decide) ?_
  refine ew_iload_n d_Ve_isComposed_66 rfl ?_
  refine en_callS (As := [.int (nI j), .int (nI 0), .int (nI 1)]) (st := [.ref 10]) (st1 := [.int (nI (j % 16 + 16 * 1)), .ref 10]) d_Ve_isComposed_67 k_Pf_layerIndex tw_557 tw_484 rfl (Nat.le_of_ble_eq_true rfl) rfl (Nat.le_of_ble_eq_true rfl) rfl rfl (c_Pf_layerIndex0 l g _ L (sp_rd M 16 (nI (fn 19)) (nI (fn 20)) (nI (fn 26)) (nI (fn 27))) j 1 (hj2)) rfl ?_
  refine ew_aload_n d_Ve_isComposed_70 rfl ?_
  refine ew_getr (ci := 6) (f := 4) d_Ve_isComposed_71 rfl rfl rfl tw_201 ?_
  refine ew_getiN (ci := 7) (f := 1) d_Ve_isComposed_74 rfl rfl rfl tw_130 ?_
  refine en_eq (st' := [.int (nI A), .int (nI (j % 16 + 16 * 1)), .ref 10]) rfl (by rw [show ((sp_rd M 16 (nI (fn 19)) (nI (fn 20)) (nI (fn 26)) (nI (fn 27))) 44 1) = (nI A) from by (rw [sp_rd_ne (by decide)]; exact hA)]) rfl ?_
  refine en_callV (As := [.int (nI (j % 16 + 16 * 1)), .int (nI A)]) (i := 10) (ci := 2) (st := []) (st1 := [.int (nI (sp_com ρ (sp_le (fn 19) (fn 20) (fn 26) (fn 27)) (j % 16 + 16 * 1) A))]) d_Ve_isComposed_77 k_Ru_composition rfl rfl tw_565 tw_424 tw_425 rfl (Nat.le_of_ble_eq_true rfl) rfl (Nat.le_of_ble_eq_true rfl) rfl rfl (c_Ru_composition l g _ L (sp_rd M 16 (nI (fn 19)) (nI (fn 20)) (nI (fn 26)) (nI (fn 27))) ρ (sp_ru_of hr (sp_rd_ne (by decide)) (sp_rd_ne (by decide)) (sp_rd_ne (by decide)) (sp_rd_ne (by decide)) (sp_rd_ne (by decide))) (sp_le (fn 19) (fn 20) (fn 26) (fn 27)) (sp_rd_le h16 (hfn 19 (by decide)).2 (hfn 20 (by decide)).2 (hfn 26 (by decide)).2 (hfn 27 (by decide)).2) (sp_tab_of hT (sp_rd_ne (by decide)) (sp_rd_ne (by decide)) (sp_rd_ne (by decide)) (sp_rd_ne (by decide)) (sp_rd_ne (by decide))) (j % 16 + 16 * 1) A (by omega) hA2) rfl ?_
  refine en_istore (ls' := [.ref 43, .int (nI 0), .int (nI 1), .int (nI 19), .int (nI 26), .int (nI (sp_com ρ (sp_le (fn 19) (fn 20) (fn 26) (fn 27)) (j % 16 + 16 * 1) A))]) d_Ve_isComposed_80 (Nat.le_of_ble_eq_true rfl) rfl ?_
  refine ew_iload d_Ve_isComposed_82 rfl ?_
  refine ew_aload_n d_Ve_isComposed_84 rfl ?_
  refine ew_getr (ci := 6) (f := 3) d_Ve_isComposed_85 rfl rfl rfl tw_200 ?_
  refine ew_iload_n d_Ve_isComposed_88 rfl ?_
  refine ew_iconst (v := nI 0) d_Ve_isComposed_89 (by decide) ?_
  refine ew_iload_n d_Ve_isComposed_90 rfl ?_
  refine en_callS (As := [.int (nI 0), .int (nI 0), .int (nI 1)]) (st := [.ref 22, .int (nI (sp_com ρ (sp_le (fn 19) (fn 20) (fn 26) (fn 27)) (j % 16 + 16 * 1) A))]) (st1 := [.int (nI 39), .ref 22, .int (nI (sp_com ρ (sp_le (fn 19) (fn 20) (fn 26) (fn 27)) (j % 16 + 16 * 1) A))]) d_Ve_isComposed_91 k_Pf_layerStart tw_558 tw_488 rfl (Nat.le_of_ble_eq_true rfl) rfl (Nat.le_of_ble_eq_true rfl) rfl rfl (c_Pf_layerStart0 l g _ L (sp_rd M 16 (nI (fn 19)) (nI (fn 20)) (nI (fn 26)) (nI (fn 27))) (sp_st_of hs (sp_rd_ne (by decide)) (sp_rd_ne (by decide))) 0 1) rfl ?_
  refine ew_iald (j := 39) d_Ve_isComposed_94 rfl (rfl) (by decide) (by decide) ?_
  refine en_eq (st' := [.int (nI (fn 39)), .int (nI (sp_com ρ (sp_le (fn 19) (fn 20) (fn 26) (fn 27)) (j % 16 + 16 * 1) A))]) rfl (by rw [show ((sp_rd M 16 (nI (fn 19)) (nI (fn 20)) (nI (fn 26)) (nI (fn 27))) 22 39) = (nI (fn 39)) from by (rw [sp_rd_ne (by decide)]; exact (hfn 39 (by decide)).1)]) rfl ?_
  refine en_icmp_ne (tgt := 102) d_Ve_isComposed_95 (by decide) (by first | exact Nat.lt_trans (sp_com_lt _ _ _ _) (by decide) | exact Nat.lt_trans (hfn 39 (by decide)).2 (by decide)) (by first | exact Nat.lt_trans (sp_com_lt _ _ _ _) (by decide) | exact Nat.lt_trans (hfn 39 (by decide)).2 (by decide)) (fun h95 => ?_) (fun h95 => ?_)
  · refine ew_iconst (v := nI 0) d_Ve_isComposed_102 (by decide) ?_
    exact ew_zret d_Ve_isComposed_103 rfl (by decide) (⟨by rw [show sp_vo0 ρ fn j A 1 = false from decide_eq_false h95]; rfl, rfl, rfl⟩)
  · refine ew_iconst (v := nI 1) d_Ve_isComposed_98 (by decide) ?_
    refine ew_goto (tgt := 103) d_Ve_isComposed_99 (by decide) ?_
    exact ew_zret d_Ve_isComposed_103 rfl (by decide) (⟨by rw [show sp_vo0 ρ fn j A 1 = true from decide_eq_true h95]; rfl, rfl, rfl⟩)
set_option maxRecDepth 100000 in
theorem c_Ve_folded00 (l : Launch) (g : ew_G) (d L : Nat) (M : ew_M) (hT : sp_tab M) (hs : sp_st M) (fn : Nat → Nat) (hfn : sp_fnok (M 22) fn) (B : Nat) (hB : M 45 0 = nI B) (hB2 : B < 12289) (j : Nat) (hj : M 46 0 = nI j) (hj2 : j < 16) :
    Ew l g (d + 3) 0 0 m_Ve_folded 0 [.ref 43, .int (nI 0), .int (nI 0), .retAddr 0, .retAddr 0, .retAddr 0] [] (ew_SH L) M (ew_q (some (.int (nI (sp_vf00 fn j B)))) (ew_SH L) M) := by
  refine ew_aload_n d_Ve_folded_0 rfl ?_
  refine ew_getr (ci := 6) (f := 3) d_Ve_folded_1 rfl rfl rfl tw_200 ?_
  refine ew_iload_n d_Ve_folded_4 rfl ?_
  refine ew_iload_n d_Ve_folded_5 rfl ?_
  refine ew_iconst (v := nI 0) d_Ve_folded_6 (by decide) ?_
  refine en_callS (As := [.int (nI 0), .int (nI 0), .int (nI 0)]) (st := [.ref 22]) (st1 := [.int (nI 33), .ref 22]) d_Ve_folded_7 k_Pf_layerStart tw_558 tw_488 rfl (Nat.le_of_ble_eq_true rfl) rfl (Nat.le_of_ble_eq_true rfl) rfl rfl (c_Pf_layerStart0 l g _ L M (hs) 0 0) rfl ?_
  refine ew_iald (j := 33) d_Ve_folded_10 rfl (rfl) (by decide) (by decide) ?_
  refine en_eq (st' := [.int (nI (fn 33))]) rfl (by rw [show (M 22 33) = (nI (fn 33)) from (hfn 33 (by decide)).1]) rfl ?_
  refine en_istore_n (ls' := [.ref 43, .int (nI 0), .int (nI 0), .int (nI (fn 33)), .retAddr 0, .retAddr 0]) d_Ve_folded_11 (Nat.le_of_ble_eq_true rfl) rfl ?_
  refine ew_aload_n d_Ve_folded_12 rfl ?_
  refine ew_getr (ci := 6) (f := 3) d_Ve_folded_13 rfl rfl rfl tw_200 ?_
  refine ew_iload_n d_Ve_folded_16 rfl ?_
  refine ew_iload_n d_Ve_folded_17 rfl ?_
  refine ew_iconst (v := nI 1) d_Ve_folded_18 (by decide) ?_
  refine en_callS (As := [.int (nI 0), .int (nI 0), .int (nI 1)]) (st := [.ref 22]) (st1 := [.int (nI 39), .ref 22]) d_Ve_folded_19 k_Pf_layerStart tw_558 tw_488 rfl (Nat.le_of_ble_eq_true rfl) rfl (Nat.le_of_ble_eq_true rfl) rfl rfl (c_Pf_layerStart0 l g _ L M (hs) 0 1) rfl ?_
  refine ew_iald (j := 39) d_Ve_folded_22 rfl (rfl) (by decide) (by decide) ?_
  refine en_eq (st' := [.int (nI (fn 39))]) rfl (by rw [show (M 22 39) = (nI (fn 39)) from (hfn 39 (by decide)).1]) rfl ?_
  refine en_istore (ls' := [.ref 43, .int (nI 0), .int (nI 0), .int (nI (fn 33)), .int (nI (fn 39)), .retAddr 0]) d_Ve_folded_23 (Nat.le_of_ble_eq_true rfl) rfl ?_
  refine ew_aload_n d_Ve_folded_25 rfl ?_
  refine ew_iload_n d_Ve_folded_26 rfl ?_
  refine en_callV (As := [.int (nI 0)]) (i := 43) (ci := 6) (st := []) (st1 := [.int (nI j)]) d_Ve_folded_27 k_Ve_place rfl rfl tw_542 tw_543 tw_544 rfl (Nat.le_of_ble_eq_true rfl) rfl (Nat.le_of_ble_eq_true rfl) rfl rfl (c_Ve_place l g _ L M 0 j (by decide) (hj)) rfl ?_
  refine ew_iload_n d_Ve_folded_30 rfl ?_
  refine ew_iconst (v := nI 0) d_Ve_folded_31 (by decide) ?_
  refine en_callS (As := [.int (nI j), .int (nI 0), .int (nI 0)]) (st := []) (st1 := [.int (nI (j % 16 + 16 * 0))]) d_Ve_folded_32 k_Pf_layerIndex tw_557 tw_484 rfl (Nat.le_of_ble_eq_true rfl) rfl (Nat.le_of_ble_eq_true rfl) rfl rfl (c_Pf_layerIndex0 l g _ L M j 0 (hj2)) rfl ?_
  refine en_istore (ls' := [.ref 43, .int (nI 0), .int (nI 0), .int (nI (fn 33)), .int (nI (fn 39)), .int (nI (j % 16 + 16 * 0))]) d_Ve_folded_35 (Nat.le_of_ble_eq_true rfl) rfl ?_
  refine ew_aload_n d_Ve_folded_37 rfl ?_
  refine ew_getr (ci := 6) (f := 0) d_Ve_folded_38 rfl rfl rfl tw_197 ?_
  refine ew_iload_n d_Ve_folded_41 rfl ?_
  refine ew_iload d_Ve_folded_42 rfl ?_
  refine ew_iload_n d_Ve_folded_44 rfl ?_
  refine ew_iload d_Ve_folded_45 rfl ?_
  refine ew_aload_n d_Ve_folded_47 rfl ?_
  refine ew_getr (ci := 6) (f := 4) d_Ve_folded_48 rfl rfl rfl tw_201 ?_
  refine ew_getrN (ci := 7) (f := 2) d_Ve_folded_51 rfl rfl rfl tw_133 ?_
  refine ew_iload_n d_Ve_folded_54 rfl ?_
  refine ew_iald (j := 0) d_Ve_folded_55 rfl (rfl) (by decide) (by decide) ?_
  refine en_eq (st' := [.int (nI B), .int (nI (fn 39)), .int (nI (fn 33)), .int (nI (j % 16 + 16 * 0)), .int (nI 0), .ref 4]) rfl (by rw [show (M 45 0) = (nI B) from hB]) rfl ?_
  refine en_callV (As := [.int (nI 0), .int (nI (j % 16 + 16 * 0)), .int (nI (fn 33)), .int (nI (fn 39)), .int (nI B)]) (i := 4) (ci := 1) (st := []) (st1 := [.int (nI (sp_fo 1 (j % 16 + 16 * 0) (fn 33) (fn 39) B))]) d_Ve_folded_56 k_Pt_fold rfl rfl tw_570 tw_445 tw_446 rfl (Nat.le_of_ble_eq_true rfl) rfl (Nat.le_of_ble_eq_true rfl) rfl rfl (c_Pt_fold0 l g _ L M (hT) (j % 16 + 16 * 0) (fn 33) (fn 39) B (by first | with_reducible assumption | exact (hfn _ (by decide)).2 | omega) (by first | with_reducible assumption | exact (hfn _ (by decide)).2 | omega) (by first | with_reducible assumption | exact (hfn _ (by decide)).2 | omega) (by first | with_reducible assumption | exact (hfn _ (by decide)).2 | omega)) rfl ?_
  exact ew_iret d_Ve_folded_59 rfl (⟨rfl, rfl, rfl⟩)
set_option maxRecDepth 100000 in
theorem c_Ve_folded01 (l : Launch) (g : ew_G) (d L : Nat) (M : ew_M) (hT : sp_tab M) (hs : sp_st M) (fn : Nat → Nat) (hfn : sp_fnok (M 22) fn) (B : Nat) (hB : M 45 1 = nI B) (hB2 : B < 12289) (j : Nat) (hj : M 46 0 = nI j) (hj2 : j < 16) :
    Ew l g (d + 3) 0 0 m_Ve_folded 0 [.ref 43, .int (nI 0), .int (nI 1), .retAddr 0, .retAddr 0, .retAddr 0] [] (ew_SH L) M (ew_q (some (.int (nI (sp_vf01 fn j B)))) (ew_SH L) M) := by
  refine ew_aload_n d_Ve_folded_0 rfl ?_
  refine ew_getr (ci := 6) (f := 3) d_Ve_folded_1 rfl rfl rfl tw_200 ?_
  refine ew_iload_n d_Ve_folded_4 rfl ?_
  refine ew_iload_n d_Ve_folded_5 rfl ?_
  refine ew_iconst (v := nI 0) d_Ve_folded_6 (by decide) ?_
  refine en_callS (As := [.int (nI 0), .int (nI 1), .int (nI 0)]) (st := [.ref 22]) (st1 := [.int (nI 45), .ref 22]) d_Ve_folded_7 k_Pf_layerStart tw_558 tw_488 rfl (Nat.le_of_ble_eq_true rfl) rfl (Nat.le_of_ble_eq_true rfl) rfl rfl (c_Pf_layerStart1 l g _ L M (hs) 0 0) rfl ?_
  refine ew_iald (j := 45) d_Ve_folded_10 rfl (rfl) (by decide) (by decide) ?_
  refine en_eq (st' := [.int (nI (fn 45))]) rfl (by rw [show (M 22 45) = (nI (fn 45)) from (hfn 45 (by decide)).1]) rfl ?_
  refine en_istore_n (ls' := [.ref 43, .int (nI 0), .int (nI 1), .int (nI (fn 45)), .retAddr 0, .retAddr 0]) d_Ve_folded_11 (Nat.le_of_ble_eq_true rfl) rfl ?_
  refine ew_aload_n d_Ve_folded_12 rfl ?_
  refine ew_getr (ci := 6) (f := 3) d_Ve_folded_13 rfl rfl rfl tw_200 ?_
  refine ew_iload_n d_Ve_folded_16 rfl ?_
  refine ew_iload_n d_Ve_folded_17 rfl ?_
  refine ew_iconst (v := nI 1) d_Ve_folded_18 (by decide) ?_
  refine en_callS (As := [.int (nI 0), .int (nI 1), .int (nI 1)]) (st := [.ref 22]) (st1 := [.int (nI 50), .ref 22]) d_Ve_folded_19 k_Pf_layerStart tw_558 tw_488 rfl (Nat.le_of_ble_eq_true rfl) rfl (Nat.le_of_ble_eq_true rfl) rfl rfl (c_Pf_layerStart1 l g _ L M (hs) 0 1) rfl ?_
  refine ew_iald (j := 50) d_Ve_folded_22 rfl (rfl) (by decide) (by decide) ?_
  refine en_eq (st' := [.int (nI (fn 50))]) rfl (by rw [show (M 22 50) = (nI (fn 50)) from (hfn 50 (by decide)).1]) rfl ?_
  refine en_istore (ls' := [.ref 43, .int (nI 0), .int (nI 1), .int (nI (fn 45)), .int (nI (fn 50)), .retAddr 0]) d_Ve_folded_23 (Nat.le_of_ble_eq_true rfl) rfl ?_
  refine ew_aload_n d_Ve_folded_25 rfl ?_
  refine ew_iload_n d_Ve_folded_26 rfl ?_
  refine en_callV (As := [.int (nI 0)]) (i := 43) (ci := 6) (st := []) (st1 := [.int (nI j)]) d_Ve_folded_27 k_Ve_place rfl rfl tw_542 tw_543 tw_544 rfl (Nat.le_of_ble_eq_true rfl) rfl (Nat.le_of_ble_eq_true rfl) rfl rfl (c_Ve_place l g _ L M 0 j (by decide) (hj)) rfl ?_
  refine ew_iload_n d_Ve_folded_30 rfl ?_
  refine ew_iconst (v := nI 0) d_Ve_folded_31 (by decide) ?_
  refine en_callS (As := [.int (nI j), .int (nI 1), .int (nI 0)]) (st := []) (st1 := [.int (nI (j % 8 + 8 * 0))]) d_Ve_folded_32 k_Pf_layerIndex tw_557 tw_484 rfl (Nat.le_of_ble_eq_true rfl) rfl (Nat.le_of_ble_eq_true rfl) rfl rfl (c_Pf_layerIndex1 l g _ L M j 0 (hj2)) rfl ?_
  refine en_istore (ls' := [.ref 43, .int (nI 0), .int (nI 1), .int (nI (fn 45)), .int (nI (fn 50)), .int (nI (j % 8 + 8 * 0))]) d_Ve_folded_35 (Nat.le_of_ble_eq_true rfl) rfl ?_
  refine ew_aload_n d_Ve_folded_37 rfl ?_
  refine ew_getr (ci := 6) (f := 0) d_Ve_folded_38 rfl rfl rfl tw_197 ?_
  refine ew_iload_n d_Ve_folded_41 rfl ?_
  refine ew_iload d_Ve_folded_42 rfl ?_
  refine ew_iload_n d_Ve_folded_44 rfl ?_
  refine ew_iload d_Ve_folded_45 rfl ?_
  refine ew_aload_n d_Ve_folded_47 rfl ?_
  refine ew_getr (ci := 6) (f := 4) d_Ve_folded_48 rfl rfl rfl tw_201 ?_
  refine ew_getrN (ci := 7) (f := 2) d_Ve_folded_51 rfl rfl rfl tw_133 ?_
  refine ew_iload_n d_Ve_folded_54 rfl ?_
  refine ew_iald (j := 1) d_Ve_folded_55 rfl (rfl) (by decide) (by decide) ?_
  refine en_eq (st' := [.int (nI B), .int (nI (fn 50)), .int (nI (fn 45)), .int (nI (j % 8 + 8 * 0)), .int (nI 1), .ref 4]) rfl (by rw [show (M 45 1) = (nI B) from hB]) rfl ?_
  refine en_callV (As := [.int (nI 1), .int (nI (j % 8 + 8 * 0)), .int (nI (fn 45)), .int (nI (fn 50)), .int (nI B)]) (i := 4) (ci := 1) (st := []) (st1 := [.int (nI (sp_fo 2 (j % 8 + 8 * 0) (fn 45) (fn 50) B))]) d_Ve_folded_56 k_Pt_fold rfl rfl tw_570 tw_445 tw_446 rfl (Nat.le_of_ble_eq_true rfl) rfl (Nat.le_of_ble_eq_true rfl) rfl rfl (c_Pt_fold1 l g _ L M (hT) (j % 8 + 8 * 0) (fn 45) (fn 50) B (by first | with_reducible assumption | exact (hfn _ (by decide)).2 | omega) (by first | with_reducible assumption | exact (hfn _ (by decide)).2 | omega) (by first | with_reducible assumption | exact (hfn _ (by decide)).2 | omega) (by first | with_reducible assumption | exact (hfn _ (by decide)).2 | omega)) rfl ?_
  exact ew_iret d_Ve_folded_59 rfl (⟨rfl, rfl, rfl⟩)
set_option maxRecDepth 100000 in
theorem c_Ve_folded02 (l : Launch) (g : ew_G) (d L : Nat) (M : ew_M) (hT : sp_tab M) (hs : sp_st M) (fn : Nat → Nat) (hfn : sp_fnok (M 22) fn) (B : Nat) (hB : M 45 2 = nI B) (hB2 : B < 12289) (j : Nat) (hj : M 46 0 = nI j) (hj2 : j < 16) :
    Ew l g (d + 3) 0 0 m_Ve_folded 0 [.ref 43, .int (nI 0), .int (nI 2), .retAddr 0, .retAddr 0, .retAddr 0] [] (ew_SH L) M (ew_q (some (.int (nI (sp_vf02 fn j B)))) (ew_SH L) M) := by
  refine ew_aload_n d_Ve_folded_0 rfl ?_
  refine ew_getr (ci := 6) (f := 3) d_Ve_folded_1 rfl rfl rfl tw_200 ?_
  refine ew_iload_n d_Ve_folded_4 rfl ?_
  refine ew_iload_n d_Ve_folded_5 rfl ?_
  refine ew_iconst (v := nI 0) d_Ve_folded_6 (by decide) ?_
  refine en_callS (As := [.int (nI 0), .int (nI 2), .int (nI 0)]) (st := [.ref 22]) (st1 := [.int (nI 55), .ref 22]) d_Ve_folded_7 k_Pf_layerStart tw_558 tw_488 rfl (Nat.le_of_ble_eq_true rfl) rfl (Nat.le_of_ble_eq_true rfl) rfl rfl (c_Pf_layerStart2 l g _ L M (hs) 0 0) rfl ?_
  refine ew_iald (j := 55) d_Ve_folded_10 rfl (rfl) (by decide) (by decide) ?_
  refine en_eq (st' := [.int (nI (fn 55))]) rfl (by rw [show (M 22 55) = (nI (fn 55)) from (hfn 55 (by decide)).1]) rfl ?_
  refine en_istore_n (ls' := [.ref 43, .int (nI 0), .int (nI 2), .int (nI (fn 55)), .retAddr 0, .retAddr 0]) d_Ve_folded_11 (Nat.le_of_ble_eq_true rfl) rfl ?_
  refine ew_aload_n d_Ve_folded_12 rfl ?_
  refine ew_getr (ci := 6) (f := 3) d_Ve_folded_13 rfl rfl rfl tw_200 ?_
  refine ew_iload_n d_Ve_folded_16 rfl ?_
  refine ew_iload_n d_Ve_folded_17 rfl ?_
  refine ew_iconst (v := nI 1) d_Ve_folded_18 (by decide) ?_
  refine en_callS (As := [.int (nI 0), .int (nI 2), .int (nI 1)]) (st := [.ref 22]) (st1 := [.int (nI 59), .ref 22]) d_Ve_folded_19 k_Pf_layerStart tw_558 tw_488 rfl (Nat.le_of_ble_eq_true rfl) rfl (Nat.le_of_ble_eq_true rfl) rfl rfl (c_Pf_layerStart2 l g _ L M (hs) 0 1) rfl ?_
  refine ew_iald (j := 59) d_Ve_folded_22 rfl (rfl) (by decide) (by decide) ?_
  refine en_eq (st' := [.int (nI (fn 59))]) rfl (by rw [show (M 22 59) = (nI (fn 59)) from (hfn 59 (by decide)).1]) rfl ?_
  refine en_istore (ls' := [.ref 43, .int (nI 0), .int (nI 2), .int (nI (fn 55)), .int (nI (fn 59)), .retAddr 0]) d_Ve_folded_23 (Nat.le_of_ble_eq_true rfl) rfl ?_
  refine ew_aload_n d_Ve_folded_25 rfl ?_
  refine ew_iload_n d_Ve_folded_26 rfl ?_
  refine en_callV (As := [.int (nI 0)]) (i := 43) (ci := 6) (st := []) (st1 := [.int (nI j)]) d_Ve_folded_27 k_Ve_place rfl rfl tw_542 tw_543 tw_544 rfl (Nat.le_of_ble_eq_true rfl) rfl (Nat.le_of_ble_eq_true rfl) rfl rfl (c_Ve_place l g _ L M 0 j (by decide) (hj)) rfl ?_
  refine ew_iload_n d_Ve_folded_30 rfl ?_
  refine ew_iconst (v := nI 0) d_Ve_folded_31 (by decide) ?_
  refine en_callS (As := [.int (nI j), .int (nI 2), .int (nI 0)]) (st := []) (st1 := [.int (nI (j % 4 + 4 * 0))]) d_Ve_folded_32 k_Pf_layerIndex tw_557 tw_484 rfl (Nat.le_of_ble_eq_true rfl) rfl (Nat.le_of_ble_eq_true rfl) rfl rfl (c_Pf_layerIndex2 l g _ L M j 0 (hj2)) rfl ?_
  refine en_istore (ls' := [.ref 43, .int (nI 0), .int (nI 2), .int (nI (fn 55)), .int (nI (fn 59)), .int (nI (j % 4 + 4 * 0))]) d_Ve_folded_35 (Nat.le_of_ble_eq_true rfl) rfl ?_
  refine ew_aload_n d_Ve_folded_37 rfl ?_
  refine ew_getr (ci := 6) (f := 0) d_Ve_folded_38 rfl rfl rfl tw_197 ?_
  refine ew_iload_n d_Ve_folded_41 rfl ?_
  refine ew_iload d_Ve_folded_42 rfl ?_
  refine ew_iload_n d_Ve_folded_44 rfl ?_
  refine ew_iload d_Ve_folded_45 rfl ?_
  refine ew_aload_n d_Ve_folded_47 rfl ?_
  refine ew_getr (ci := 6) (f := 4) d_Ve_folded_48 rfl rfl rfl tw_201 ?_
  refine ew_getrN (ci := 7) (f := 2) d_Ve_folded_51 rfl rfl rfl tw_133 ?_
  refine ew_iload_n d_Ve_folded_54 rfl ?_
  refine ew_iald (j := 2) d_Ve_folded_55 rfl (rfl) (by decide) (by decide) ?_
  refine en_eq (st' := [.int (nI B), .int (nI (fn 59)), .int (nI (fn 55)), .int (nI (j % 4 + 4 * 0)), .int (nI 2), .ref 4]) rfl (by rw [show (M 45 2) = (nI B) from hB]) rfl ?_
  refine en_callV (As := [.int (nI 2), .int (nI (j % 4 + 4 * 0)), .int (nI (fn 55)), .int (nI (fn 59)), .int (nI B)]) (i := 4) (ci := 1) (st := []) (st1 := [.int (nI (sp_fo 4 (j % 4 + 4 * 0) (fn 55) (fn 59) B))]) d_Ve_folded_56 k_Pt_fold rfl rfl tw_570 tw_445 tw_446 rfl (Nat.le_of_ble_eq_true rfl) rfl (Nat.le_of_ble_eq_true rfl) rfl rfl (c_Pt_fold2 l g _ L M (hT) (j % 4 + 4 * 0) (fn 55) (fn 59) B (by first | with_reducible assumption | exact (hfn _ (by decide)).2 | omega) (by first | with_reducible assumption | exact (hfn _ (by decide)).2 | omega) (by first | with_reducible assumption | exact (hfn _ (by decide)).2 | omega) (by first | with_reducible assumption | exact (hfn _ (by decide)).2 | omega)) rfl ?_
  exact ew_iret d_Ve_folded_59 rfl (⟨rfl, rfl, rfl⟩)
theorem sp_vbp {M : ew_M} {fn : Nat → Nat} {i s q : Nat} (h : sp_fnok (M 22) fn) (h0 : i ∈ sp_ix) (h1 : i + s * 1 ∈ sp_ix) (hq : q < 2) : M 22 (i + s * q) = nI (fn (i + s * q)) := by
  rcases (show q = 0 ∨ q = 1 by omega) with rfl | rfl
  · exact (h i h0).1
  · exact (h (i + s * 1) h1).1
set_option maxRecDepth 100000 in
theorem c_Ve_valueBehind00 (l : Launch) (g : ew_G) (d L : Nat) (M : ew_M) (hs : sp_st M) (fn : Nat → Nat) (hfn : sp_fnok (M 22) fn) (j : Nat) (hj : M 46 0 = nI j) (hj2 : j < 16) :
    Ew l g (d + 1) 0 0 m_Ve_valueBehind 0 [.ref 43, .int (nI 0), .int (nI 0), .retAddr 0, .retAddr 0, .retAddr 0] [] (ew_SH L) M (ew_q (some (.int (nI (sp_vb00 fn j)))) (ew_SH L) M) := by
  refine ew_iload_n d_Ve_valueBehind_0 rfl ?_
  refine ew_iconst (v := nI 1) d_Ve_valueBehind_1 (by decide) ?_
  refine en_iadd d_Ve_valueBehind_2 ?_
  refine en_eq rfl (show _ = [.int (nI 1)] from rfl) rfl ?_
  refine en_istore_n (ls' := [.ref 43, .int (nI 0), .int (nI 0), .int (nI 1), .retAddr 0, .retAddr 0]) d_Ve_valueBehind_3 (Nat.le_of_ble_eq_true rfl) rfl ?_
  refine ew_iload_n d_Ve_valueBehind_4 rfl ?_
  refine en_callS (As := [.int (nI 1)]) (st := []) (st1 := [.int (nI 16)]) d_Ve_valueBehind_5 k_Pf_layerSize tw_556 tw_162 rfl (Nat.le_of_ble_eq_true rfl) rfl (Nat.le_of_ble_eq_true rfl) rfl rfl (c_Pf_layerSize1 l g _ L M) rfl ?_
  refine en_istore (ls' := [.ref 43, .int (nI 0), .int (nI 0), .int (nI 1), .int (nI 16), .retAddr 0]) d_Ve_valueBehind_8 (Nat.le_of_ble_eq_true rfl) rfl ?_
  refine ew_aload_n d_Ve_valueBehind_10 rfl ?_
  refine ew_iload_n d_Ve_valueBehind_11 rfl ?_
  refine en_callV (As := [.int (nI 0)]) (i := 43) (ci := 6) (st := []) (st1 := [.int (nI j)]) d_Ve_valueBehind_12 k_Ve_place rfl rfl tw_542 tw_543 tw_544 rfl (Nat.le_of_ble_eq_true rfl) rfl (Nat.le_of_ble_eq_true rfl) rfl rfl (c_Ve_place l g _ L M 0 j (by decide) (hj)) rfl ?_
  refine ew_iload d_Ve_valueBehind_15 rfl ?_
  refine en_irem d_Ve_valueBehind_17 (by omega) (by decide) (by decide) ?_
  refine ew_iload d_Ve_valueBehind_18 rfl ?_
  refine ew_iconst (v := nI 2) d_Ve_valueBehind_20 (by decide) ?_
  refine en_idiv d_Ve_valueBehind_21 (by first | with_reducible assumption | with_reducible exact ep_lt _ | with_reducible exact sp_its_lt _ _ _ | with_reducible exact tb_l_rt _ | with_reducible exact tb_l_x _ | with_reducible exact tb_l_o0 _ | with_reducible exact tb_l_o1 _ | with_reducible exact tb_l_va _ | with_reducible exact tb_l_ll _ | with_reducible exact tb_l_cf _ | with_reducible exact tb_l_kf _ | with_reducible exact sp_ts_lt _ _ _ _ | with_reducible exact sp_w_lt _ _ | with_reducible exact sp_cs_lt _ _ _ _ _ | with_reducible exact sp_cb_lt _ _ _ _ _ | with_reducible exact sp_ch_lt _ | with_reducible exact sp_bf_lt _ _ | omega) (by decide) (by decide) ?_
  refine en_eq rfl (show _ = [.int (nI 8), .int (nI (j % 16))] from rfl) rfl ?_
  refine en_idiv d_Ve_valueBehind_22 (by omega) (by decide) (by decide) ?_
  refine en_istore (ls' := [.ref 43, .int (nI 0), .int (nI 0), .int (nI 1), .int (nI 16), .int (nI ((j % 16) / 8))]) d_Ve_valueBehind_23 (Nat.le_of_ble_eq_true rfl) rfl ?_
  refine ew_aload_n d_Ve_valueBehind_25 rfl ?_
  refine ew_getr (ci := 6) (f := 3) d_Ve_valueBehind_26 rfl rfl rfl tw_200 ?_
  refine ew_iload_n d_Ve_valueBehind_29 rfl ?_
  refine ew_iload_n d_Ve_valueBehind_30 rfl ?_
  refine ew_iload d_Ve_valueBehind_31 rfl ?_
  refine en_callS (As := [.int (nI 0), .int (nI 1), .int (nI ((j % 16) / 8))]) (st := [.ref 22]) (st1 := [.int (nI (45 + 5 * ((j % 16) / 8))), .ref 22]) d_Ve_valueBehind_33 k_Pf_layerStart tw_558 tw_488 rfl (Nat.le_of_ble_eq_true rfl) rfl (Nat.le_of_ble_eq_true rfl) rfl rfl (c_Pf_layerStart1 l g _ L M hs 0 ((j % 16) / 8)) rfl ?_
  refine ew_iald (j := 45 + 5 * ((j % 16) / 8)) d_Ve_valueBehind_36 rfl (rfl) (by omega) (by decide) ?_
  refine en_eq (st' := [.int (nI (sp_vb00 fn j))]) rfl (by rw [show (M 22 (45 + 5 * ((j % 16) / 8))) = (nI (sp_vb00 fn j)) from sp_vbp (i := 45) (s := 5) (q := j % 16 / 8) hfn (by decide) (by decide) (by omega)]) rfl ?_
  exact ew_iret d_Ve_valueBehind_37 rfl (⟨rfl, rfl, rfl⟩)
set_option maxRecDepth 100000 in
theorem c_Ve_valueBehind01 (l : Launch) (g : ew_G) (d L : Nat) (M : ew_M) (hs : sp_st M) (fn : Nat → Nat) (hfn : sp_fnok (M 22) fn) (j : Nat) (hj : M 46 0 = nI j) (hj2 : j < 16) :
    Ew l g (d + 1) 0 0 m_Ve_valueBehind 0 [.ref 43, .int (nI 0), .int (nI 1), .retAddr 0, .retAddr 0, .retAddr 0] [] (ew_SH L) M (ew_q (some (.int (nI (sp_vb01 fn j)))) (ew_SH L) M) := by
  refine ew_iload_n d_Ve_valueBehind_0 rfl ?_
  refine ew_iconst (v := nI 1) d_Ve_valueBehind_1 (by decide) ?_
  refine en_iadd d_Ve_valueBehind_2 ?_
  refine en_eq rfl (show _ = [.int (nI 2)] from rfl) rfl ?_
  refine en_istore_n (ls' := [.ref 43, .int (nI 0), .int (nI 1), .int (nI 2), .retAddr 0, .retAddr 0]) d_Ve_valueBehind_3 (Nat.le_of_ble_eq_true rfl) rfl ?_
  refine ew_iload_n d_Ve_valueBehind_4 rfl ?_
  refine en_callS (As := [.int (nI 2)]) (st := []) (st1 := [.int (nI 8)]) d_Ve_valueBehind_5 k_Pf_layerSize tw_556 tw_162 rfl (Nat.le_of_ble_eq_true rfl) rfl (Nat.le_of_ble_eq_true rfl) rfl rfl (c_Pf_layerSize2 l g _ L M) rfl ?_
  refine en_istore (ls' := [.ref 43, .int (nI 0), .int (nI 1), .int (nI 2), .int (nI 8), .retAddr 0]) d_Ve_valueBehind_8 (Nat.le_of_ble_eq_true rfl) rfl ?_
  refine ew_aload_n d_Ve_valueBehind_10 rfl ?_
  refine ew_iload_n d_Ve_valueBehind_11 rfl ?_
  refine en_callV (As := [.int (nI 0)]) (i := 43) (ci := 6) (st := []) (st1 := [.int (nI j)]) d_Ve_valueBehind_12 k_Ve_place rfl rfl tw_542 tw_543 tw_544 rfl (Nat.le_of_ble_eq_true rfl) rfl (Nat.le_of_ble_eq_true rfl) rfl rfl (c_Ve_place l g _ L M 0 j (by decide) (hj)) rfl ?_
  refine ew_iload d_Ve_valueBehind_15 rfl ?_
  refine en_irem d_Ve_valueBehind_17 (by omega) (by decide) (by decide) ?_
  refine ew_iload d_Ve_valueBehind_18 rfl ?_
  refine ew_iconst (v := nI 2) d_Ve_valueBehind_20 (by decide) ?_
  refine en_idiv d_Ve_valueBehind_21 (by first | with_reducible assumption | with_reducible exact ep_lt _ | with_reducible exact sp_its_lt _ _ _ | with_reducible exact tb_l_rt _ | with_reducible exact tb_l_x _ | with_reducible exact tb_l_o0 _ | with_reducible exact tb_l_o1 _ | with_reducible exact tb_l_va _ | with_reducible exact tb_l_ll _ | with_reducible exact tb_l_cf _ | with_reducible exact tb_l_kf _ | with_reducible exact sp_ts_lt _ _ _ _ | with_reducible exact sp_w_lt _ _ | with_reducible exact sp_cs_lt _ _ _ _ _ | with_reducible exact sp_cb_lt _ _ _ _ _ | with_reducible exact sp_ch_lt _ | with_reducible exact sp_bf_lt _ _ | omega) (by decide) (by decide) ?_
  refine en_eq rfl (show _ = [.int (nI 4), .int (nI (j % 8))] from rfl) rfl ?_
  refine en_idiv d_Ve_valueBehind_22 (by omega) (by decide) (by decide) ?_
  refine en_istore (ls' := [.ref 43, .int (nI 0), .int (nI 1), .int (nI 2), .int (nI 8), .int (nI ((j % 8) / 4))]) d_Ve_valueBehind_23 (Nat.le_of_ble_eq_true rfl) rfl ?_
  refine ew_aload_n d_Ve_valueBehind_25 rfl ?_
  refine ew_getr (ci := 6) (f := 3) d_Ve_valueBehind_26 rfl rfl rfl tw_200 ?_
  refine ew_iload_n d_Ve_valueBehind_29 rfl ?_
  refine ew_iload_n d_Ve_valueBehind_30 rfl ?_
  refine ew_iload d_Ve_valueBehind_31 rfl ?_
  refine en_callS (As := [.int (nI 0), .int (nI 2), .int (nI ((j % 8) / 4))]) (st := [.ref 22]) (st1 := [.int (nI (55 + 4 * ((j % 8) / 4))), .ref 22]) d_Ve_valueBehind_33 k_Pf_layerStart tw_558 tw_488 rfl (Nat.le_of_ble_eq_true rfl) rfl (Nat.le_of_ble_eq_true rfl) rfl rfl (c_Pf_layerStart2 l g _ L M hs 0 ((j % 8) / 4)) rfl ?_
  refine ew_iald (j := 55 + 4 * ((j % 8) / 4)) d_Ve_valueBehind_36 rfl (rfl) (by omega) (by decide) ?_
  refine en_eq (st' := [.int (nI (sp_vb01 fn j))]) rfl (by rw [show (M 22 (55 + 4 * ((j % 8) / 4))) = (nI (sp_vb01 fn j)) from sp_vbp (i := 55) (s := 4) (q := j % 8 / 4) hfn (by decide) (by decide) (by omega)]) rfl ?_
  exact ew_iret d_Ve_valueBehind_37 rfl (⟨rfl, rfl, rfl⟩)
set_option maxRecDepth 100000 in
theorem c_Ve_doColumnPathsLead1 (l : Launch) (g : ew_G) (d L : Nat) (M : ew_M) (hs : sp_st M) (j : Nat) (hj : M 46 1 = nI j) (hj2 : j < 16) :
    Ew l g (d + 3) 0 0 m_Ve_doColumnPathsLead 0 [.ref 43, .int (nI 1), .retAddr 0, .retAddr 0, .retAddr 0, .retAddr 0] [] (ew_SH L) M (ew_q (some (.int (ew_b (sp_vc1 (M 22) j)))) (ew_SH L) M) := by
  refine ew_iconst (v := nI 0) d_Ve_doColumnPathsLead_0 (by decide) ?_
  refine en_istore_n (ls' := [.ref 43, .int (nI 1), .int (nI 0), .retAddr 0, .retAddr 0, .retAddr 0]) d_Ve_doColumnPathsLead_1 (Nat.le_of_ble_eq_true rfl) rfl ?_
  refine ew_iload_n d_Ve_doColumnPathsLead_2 rfl ?_
  refine ew_iconst (v := nI 4) d_Ve_doColumnPathsLead_3 (by decide) ?_
  refine en_icmp_ge (tgt := 78) d_Ve_doColumnPathsLead_4 (by decide) (by first | with_reducible assumption | with_reducible exact ep_lt _ | with_reducible exact sp_its_lt _ _ _ | with_reducible exact tb_l_rt _ | with_reducible exact tb_l_x _ | with_reducible exact tb_l_o0 _ | with_reducible exact tb_l_o1 _ | with_reducible exact tb_l_va _ | with_reducible exact tb_l_ll _ | with_reducible exact tb_l_cf _ | with_reducible exact tb_l_kf _ | with_reducible exact sp_ts_lt _ _ _ _ | with_reducible exact sp_w_lt _ _ | with_reducible exact sp_cs_lt _ _ _ _ _ | with_reducible exact sp_cb_lt _ _ _ _ _ | with_reducible exact sp_ch_lt _ | with_reducible exact sp_bf_lt _ _ | omega) (by first | with_reducible assumption | with_reducible exact ep_lt _ | with_reducible exact sp_its_lt _ _ _ | with_reducible exact tb_l_rt _ | with_reducible exact tb_l_x _ | with_reducible exact tb_l_o0 _ | with_reducible exact tb_l_o1 _ | with_reducible exact tb_l_va _ | with_reducible exact tb_l_ll _ | with_reducible exact tb_l_cf _ | with_reducible exact tb_l_kf _ | with_reducible exact sp_ts_lt _ _ _ _ | with_reducible exact sp_w_lt _ _ | with_reducible exact sp_cs_lt _ _ _ _ _ | with_reducible exact sp_cb_lt _ _ _ _ _ | with_reducible exact sp_ch_lt _ | with_reducible exact sp_bf_lt _ _ | omega) (fun h4 => by exact absurd h4 (by decide)) (fun h4 => ?_)
  refine ew_aload_n d_Ve_doColumnPathsLead_7 rfl ?_
  refine ew_iload_n d_Ve_doColumnPathsLead_8 rfl ?_
  refine en_callV (As := [.int (nI 1)]) (i := 43) (ci := 6) (st := []) (st1 := [.int (nI j)]) d_Ve_doColumnPathsLead_9 k_Ve_place rfl rfl tw_542 tw_543 tw_544 rfl (Nat.le_of_ble_eq_true rfl) rfl (Nat.le_of_ble_eq_true rfl) rfl rfl (c_Ve_place l g _ L M 1 j (by decide) (hj)) rfl ?_
  refine ew_iload_n d_Ve_doColumnPathsLead_12 rfl ?_
  refine en_callS (As := [.int (nI j), .int (nI 0)]) (st := []) (st1 := [.int (nI ((j + 0) % 32))]) d_Ve_doColumnPathsLead_13 k_Pf_columnIndex tw_546 tw_468 rfl (Nat.le_of_ble_eq_true rfl) rfl (Nat.le_of_ble_eq_true rfl) rfl rfl (c_Pf_columnIndex0 l g _ L M (hs) j (hj2)) rfl ?_
  refine en_istore_n (ls' := [.ref 43, .int (nI 1), .int (nI 0), .int (nI ((j + 0) % 32)), .retAddr 0, .retAddr 0]) d_Ve_doColumnPathsLead_16 (Nat.le_of_ble_eq_true rfl) rfl ?_
  refine ew_iload_n d_Ve_doColumnPathsLead_17 rfl ?_
  refine ew_iload_n d_Ve_doColumnPathsLead_18 rfl ?_
  refine en_callS (As := [.int (nI 1), .int (nI 0)]) (st := []) (st1 := [.int (nI 63)]) d_Ve_doColumnPathsLead_19 k_Pf_columnStart tw_547 tw_473 rfl (Nat.le_of_ble_eq_true rfl) rfl (Nat.le_of_ble_eq_true rfl) rfl rfl (c_Pf_columnStart l g _ L M 1 0) rfl ?_
  refine en_istore (ls' := [.ref 43, .int (nI 1), .int (nI 0), .int (nI ((j + 0) % 32)), .int (nI 63), .retAddr 0]) d_Ve_doColumnPathsLead_22 (Nat.le_of_ble_eq_true rfl) rfl ?_
  refine ew_aload_n d_Ve_doColumnPathsLead_24 rfl ?_
  refine ew_getr (ci := 6) (f := 3) d_Ve_doColumnPathsLead_25 rfl rfl rfl tw_200 ?_
  refine ew_iload d_Ve_doColumnPathsLead_28 rfl ?_
  refine ew_iald (j := 63) d_Ve_doColumnPathsLead_30 rfl (rfl) (by decide) (by decide) ?_
  refine ew_aload_n d_Ve_doColumnPathsLead_31 rfl ?_
  refine ew_getr (ci := 6) (f := 3) d_Ve_doColumnPathsLead_32 rfl rfl rfl tw_200 ?_
  refine ew_iload d_Ve_doColumnPathsLead_35 rfl ?_
  refine ew_iconst (v := nI 1) d_Ve_doColumnPathsLead_37 (by decide) ?_
  refine en_iadd d_Ve_doColumnPathsLead_38 ?_
  refine en_eq rfl (show _ = [.int (nI 64), .ref 22, .int (M 22 63)] from rfl) rfl ?_
  refine ew_iald (j := 64) d_Ve_doColumnPathsLead_39 rfl (rfl) (by decide) (by decide) ?_
  refine en_callS (As := [.int (M 22 63), .int (M 22 64)]) (st := []) (st1 := [.int (sp_mix (M 22 63) (M 22 64))]) d_Ve_doColumnPathsLead_40 k_Pf_columnLeaf tw_548 tw_373 rfl (Nat.le_of_ble_eq_true rfl) rfl (Nat.le_of_ble_eq_true rfl) rfl rfl (c_Pf_columnLeaf l g _ L M (M 22 63) (M 22 64)) rfl ?_
  refine en_istore (ls' := [.ref 43, .int (nI 1), .int (nI 0), .int (nI ((j + 0) % 32)), .int (nI 63), .int (sp_mix (M 22 63) (M 22 64))]) d_Ve_doColumnPathsLead_43 (Nat.le_of_ble_eq_true rfl) rfl ?_
  refine ew_bipush (v := nI 32) d_Ve_doColumnPathsLead_45 (by decide) ?_
  refine ew_iload_n d_Ve_doColumnPathsLead_47 rfl ?_
  refine ew_iload d_Ve_doColumnPathsLead_48 rfl ?_
  refine ew_aload_n d_Ve_doColumnPathsLead_50 rfl ?_
  refine ew_getr (ci := 6) (f := 3) d_Ve_doColumnPathsLead_51 rfl rfl rfl tw_200 ?_
  refine ew_iload d_Ve_doColumnPathsLead_54 rfl ?_
  refine ew_iconst (v := nI 2) d_Ve_doColumnPathsLead_56 (by decide) ?_
  refine en_iadd d_Ve_doColumnPathsLead_57 ?_
  refine en_eq rfl (show _ = [.int (nI 65), .ref 22, .int (sp_mix (M 22 63) (M 22 64)), .int (nI ((j + 0) % 32)), .int (nI 32)] from rfl) rfl ?_
  refine en_callS (As := [.int (nI 32), .int (nI ((j + 0) % 32)), .int (sp_mix (M 22 63) (M 22 64)), .ref 22, .int (nI 65)]) (st := []) (st1 := [.int (sp_ro (M 22) 6 (sp_mix (M 22 63) (M 22 64)) (32 + ((j + 0) % 32)) 65)]) d_Ve_doColumnPathsLead_58 k_Tr_rootOf tw_549 tw_550 rfl (Nat.le_of_ble_eq_true rfl) rfl (Nat.le_of_ble_eq_true rfl) rfl rfl (c_Tr_rootOf l g _ L M 32 ((j + 0) % 32) 65 6 (sp_mix (M 22 63) (M 22 64)) (by omega) (by omega) (by omega)) rfl ?_
  refine ew_aload_n d_Ve_doColumnPathsLead_61 rfl ?_
  refine ew_getr (ci := 6) (f := 3) d_Ve_doColumnPathsLead_62 rfl rfl rfl tw_200 ?_
  refine ew_iconst (v := nI 0) d_Ve_doColumnPathsLead_65 (by decide) ?_
  refine ew_iald (j := 0) d_Ve_doColumnPathsLead_66 rfl (rfl) (by decide) (by decide) ?_
  refine ew_icmp_eq (tgt := 72) d_Ve_doColumnPathsLead_67 (by decide) (fun h67 => ?_) (fun h67 => ?_)
  · refine en_inc (ls' := [.ref 43, .int (nI 1), .int (nI 1), .int (nI ((j + 0) % 32)), .int (nI 63), .int (sp_mix (M 22 63) (M 22 64))]) d_Ve_doColumnPathsLead_72 rfl rfl ?_
    refine ew_goto (tgt := 2) d_Ve_doColumnPathsLead_75 (by decide) ?_
    refine ew_iload_n d_Ve_doColumnPathsLead_2 rfl ?_
    refine ew_iconst (v := nI 4) d_Ve_doColumnPathsLead_3 (by decide) ?_
    refine en_icmp_ge (tgt := 78) d_Ve_doColumnPathsLead_4 (by decide) (by first | with_reducible assumption | with_reducible exact ep_lt _ | with_reducible exact sp_its_lt _ _ _ | with_reducible exact tb_l_rt _ | with_reducible exact tb_l_x _ | with_reducible exact tb_l_o0 _ | with_reducible exact tb_l_o1 _ | with_reducible exact tb_l_va _ | with_reducible exact tb_l_ll _ | with_reducible exact tb_l_cf _ | with_reducible exact tb_l_kf _ | with_reducible exact sp_ts_lt _ _ _ _ | with_reducible exact sp_w_lt _ _ | with_reducible exact sp_cs_lt _ _ _ _ _ | with_reducible exact sp_cb_lt _ _ _ _ _ | with_reducible exact sp_ch_lt _ | with_reducible exact sp_bf_lt _ _ | omega) (by first | with_reducible assumption | with_reducible exact ep_lt _ | with_reducible exact sp_its_lt _ _ _ | with_reducible exact tb_l_rt _ | with_reducible exact tb_l_x _ | with_reducible exact tb_l_o0 _ | with_reducible exact tb_l_o1 _ | with_reducible exact tb_l_va _ | with_reducible exact tb_l_ll _ | with_reducible exact tb_l_cf _ | with_reducible exact tb_l_kf _ | with_reducible exact sp_ts_lt _ _ _ _ | with_reducible exact sp_w_lt _ _ | with_reducible exact sp_cs_lt _ _ _ _ _ | with_reducible exact sp_cb_lt _ _ _ _ _ | with_reducible exact sp_ch_lt _ | with_reducible exact sp_bf_lt _ _ | omega) (fun h4_1 => by exact absurd h4_1 (by decide)) (fun h4_1 => ?_)
    refine ew_aload_n d_Ve_doColumnPathsLead_7 rfl ?_
    refine ew_iload_n d_Ve_doColumnPathsLead_8 rfl ?_
    refine en_callV (As := [.int (nI 1)]) (i := 43) (ci := 6) (st := []) (st1 := [.int (nI j)]) d_Ve_doColumnPathsLead_9 k_Ve_place rfl rfl tw_542 tw_543 tw_544 rfl (Nat.le_of_ble_eq_true rfl) rfl (Nat.le_of_ble_eq_true rfl) rfl rfl (c_Ve_place l g _ L M 1 j (by decide) (hj)) rfl ?_
    refine ew_iload_n d_Ve_doColumnPathsLead_12 rfl ?_
    refine en_callS (As := [.int (nI j), .int (nI 1)]) (st := []) (st1 := [.int (nI ((j + 4) % 32))]) d_Ve_doColumnPathsLead_13 k_Pf_columnIndex tw_546 tw_468 rfl (Nat.le_of_ble_eq_true rfl) rfl (Nat.le_of_ble_eq_true rfl) rfl rfl (c_Pf_columnIndex1 l g _ L M (hs) j (hj2)) rfl ?_
    refine en_istore_n (ls' := [.ref 43, .int (nI 1), .int (nI 1), .int (nI ((j + 4) % 32)), .int (nI 63), .int (sp_mix (M 22 63) (M 22 64))]) d_Ve_doColumnPathsLead_16 (Nat.le_of_ble_eq_true rfl) rfl ?_
    refine ew_iload_n d_Ve_doColumnPathsLead_17 rfl ?_
    refine ew_iload_n d_Ve_doColumnPathsLead_18 rfl ?_
    refine en_callS (As := [.int (nI 1), .int (nI 1)]) (st := []) (st1 := [.int (nI 70)]) d_Ve_doColumnPathsLead_19 k_Pf_columnStart tw_547 tw_473 rfl (Nat.le_of_ble_eq_true rfl) rfl (Nat.le_of_ble_eq_true rfl) rfl rfl (c_Pf_columnStart l g _ L M 1 1) rfl ?_
    refine en_istore (ls' := [.ref 43, .int (nI 1), .int (nI 1), .int (nI ((j + 4) % 32)), .int (nI 70), .int (sp_mix (M 22 63) (M 22 64))]) d_Ve_doColumnPathsLead_22 (Nat.le_of_ble_eq_true rfl) rfl ?_
    refine ew_aload_n d_Ve_doColumnPathsLead_24 rfl ?_
    refine ew_getr (ci := 6) (f := 3) d_Ve_doColumnPathsLead_25 rfl rfl rfl tw_200 ?_
    refine ew_iload d_Ve_doColumnPathsLead_28 rfl ?_
    refine ew_iald (j := 70) d_Ve_doColumnPathsLead_30 rfl (rfl) (by decide) (by decide) ?_
    refine ew_aload_n d_Ve_doColumnPathsLead_31 rfl ?_
    refine ew_getr (ci := 6) (f := 3) d_Ve_doColumnPathsLead_32 rfl rfl rfl tw_200 ?_
    refine ew_iload d_Ve_doColumnPathsLead_35 rfl ?_
    refine ew_iconst (v := nI 1) d_Ve_doColumnPathsLead_37 (by decide) ?_
    refine en_iadd d_Ve_doColumnPathsLead_38 ?_
    refine en_eq rfl (show _ = [.int (nI 71), .ref 22, .int (M 22 70)] from rfl) rfl ?_
    refine ew_iald (j := 71) d_Ve_doColumnPathsLead_39 rfl (rfl) (by decide) (by decide) ?_
    refine en_callS (As := [.int (M 22 70), .int (M 22 71)]) (st := []) (st1 := [.int (sp_mix (M 22 70) (M 22 71))]) d_Ve_doColumnPathsLead_40 k_Pf_columnLeaf tw_548 tw_373 rfl (Nat.le_of_ble_eq_true rfl) rfl (Nat.le_of_ble_eq_true rfl) rfl rfl (c_Pf_columnLeaf l g _ L M (M 22 70) (M 22 71)) rfl ?_
    refine en_istore (ls' := [.ref 43, .int (nI 1), .int (nI 1), .int (nI ((j + 4) % 32)), .int (nI 70), .int (sp_mix (M 22 70) (M 22 71))]) d_Ve_doColumnPathsLead_43 (Nat.le_of_ble_eq_true rfl) rfl ?_
    refine ew_bipush (v := nI 32) d_Ve_doColumnPathsLead_45 (by decide) ?_
    refine ew_iload_n d_Ve_doColumnPathsLead_47 rfl ?_
    refine ew_iload d_Ve_doColumnPathsLead_48 rfl ?_
    refine ew_aload_n d_Ve_doColumnPathsLead_50 rfl ?_
    refine ew_getr (ci := 6) (f := 3) d_Ve_doColumnPathsLead_51 rfl rfl rfl tw_200 ?_
    refine ew_iload d_Ve_doColumnPathsLead_54 rfl ?_
    refine ew_iconst (v := nI 2) d_Ve_doColumnPathsLead_56 (by decide) ?_
    refine en_iadd d_Ve_doColumnPathsLead_57 ?_
    refine en_eq rfl (show _ = [.int (nI 72), .ref 22, .int (sp_mix (M 22 70) (M 22 71)), .int (nI ((j + 4) % 32)), .int (nI 32)] from rfl) rfl ?_
    refine en_callS (As := [.int (nI 32), .int (nI ((j + 4) % 32)), .int (sp_mix (M 22 70) (M 22 71)), .ref 22, .int (nI 72)]) (st := []) (st1 := [.int (sp_ro (M 22) 6 (sp_mix (M 22 70) (M 22 71)) (32 + ((j + 4) % 32)) 72)]) d_Ve_doColumnPathsLead_58 k_Tr_rootOf tw_549 tw_550 rfl (Nat.le_of_ble_eq_true rfl) rfl (Nat.le_of_ble_eq_true rfl) rfl rfl (c_Tr_rootOf l g _ L M 32 ((j + 4) % 32) 72 6 (sp_mix (M 22 70) (M 22 71)) (by omega) (by omega) (by omega)) rfl ?_
    refine ew_aload_n d_Ve_doColumnPathsLead_61 rfl ?_
    refine ew_getr (ci := 6) (f := 3) d_Ve_doColumnPathsLead_62 rfl rfl rfl tw_200 ?_
    refine ew_iconst (v := nI 0) d_Ve_doColumnPathsLead_65 (by decide) ?_
    refine ew_iald (j := 0) d_Ve_doColumnPathsLead_66 rfl (rfl) (by decide) (by decide) ?_
    refine ew_icmp_eq (tgt := 72) d_Ve_doColumnPathsLead_67 (by decide) (fun h67_1 => ?_) (fun h67_1 => ?_)
    · refine en_inc (ls' := [.ref 43, .int (nI 1), .int (nI 2), .int (nI ((j + 4) % 32)), .int (nI 70), .int (sp_mix (M 22 70) (M 22 71))]) d_Ve_doColumnPathsLead_72 rfl rfl ?_
      refine ew_goto (tgt := 2) d_Ve_doColumnPathsLead_75 (by decide) ?_
      refine ew_iload_n d_Ve_doColumnPathsLead_2 rfl ?_
      refine ew_iconst (v := nI 4) d_Ve_doColumnPathsLead_3 (by decide) ?_
      refine en_icmp_ge (tgt := 78) d_Ve_doColumnPathsLead_4 (by decide) (by first | with_reducible assumption | with_reducible exact ep_lt _ | with_reducible exact sp_its_lt _ _ _ | with_reducible exact tb_l_rt _ | with_reducible exact tb_l_x _ | with_reducible exact tb_l_o0 _ | with_reducible exact tb_l_o1 _ | with_reducible exact tb_l_va _ | with_reducible exact tb_l_ll _ | with_reducible exact tb_l_cf _ | with_reducible exact tb_l_kf _ | with_reducible exact sp_ts_lt _ _ _ _ | with_reducible exact sp_w_lt _ _ | with_reducible exact sp_cs_lt _ _ _ _ _ | with_reducible exact sp_cb_lt _ _ _ _ _ | with_reducible exact sp_ch_lt _ | with_reducible exact sp_bf_lt _ _ | omega) (by first | with_reducible assumption | with_reducible exact ep_lt _ | with_reducible exact sp_its_lt _ _ _ | with_reducible exact tb_l_rt _ | with_reducible exact tb_l_x _ | with_reducible exact tb_l_o0 _ | with_reducible exact tb_l_o1 _ | with_reducible exact tb_l_va _ | with_reducible exact tb_l_ll _ | with_reducible exact tb_l_cf _ | with_reducible exact tb_l_kf _ | with_reducible exact sp_ts_lt _ _ _ _ | with_reducible exact sp_w_lt _ _ | with_reducible exact sp_cs_lt _ _ _ _ _ | with_reducible exact sp_cb_lt _ _ _ _ _ | with_reducible exact sp_ch_lt _ | with_reducible exact sp_bf_lt _ _ | omega) (fun h4_2 => by exact absurd h4_2 (by decide)) (fun h4_2 => ?_)
      refine ew_aload_n d_Ve_doColumnPathsLead_7 rfl ?_
      refine ew_iload_n d_Ve_doColumnPathsLead_8 rfl ?_
      refine en_callV (As := [.int (nI 1)]) (i := 43) (ci := 6) (st := []) (st1 := [.int (nI j)]) d_Ve_doColumnPathsLead_9 k_Ve_place rfl rfl tw_542 tw_543 tw_544 rfl (Nat.le_of_ble_eq_true rfl) rfl (Nat.le_of_ble_eq_true rfl) rfl rfl (c_Ve_place l g _ L M 1 j (by decide) (hj)) rfl ?_
      refine ew_iload_n d_Ve_doColumnPathsLead_12 rfl ?_
      refine en_callS (As := [.int (nI j), .int (nI 2)]) (st := []) (st1 := [.int (nI ((j + 16) % 32))]) d_Ve_doColumnPathsLead_13 k_Pf_columnIndex tw_546 tw_468 rfl (Nat.le_of_ble_eq_true rfl) rfl (Nat.le_of_ble_eq_true rfl) rfl rfl (c_Pf_columnIndex2 l g _ L M (hs) j (hj2)) rfl ?_
      refine en_istore_n (ls' := [.ref 43, .int (nI 1), .int (nI 2), .int (nI ((j + 16) % 32)), .int (nI 70), .int (sp_mix (M 22 70) (M 22 71))]) d_Ve_doColumnPathsLead_16 (Nat.le_of_ble_eq_true rfl) rfl ?_
      refine ew_iload_n d_Ve_doColumnPathsLead_17 rfl ?_
      refine ew_iload_n d_Ve_doColumnPathsLead_18 rfl ?_
      refine en_callS (As := [.int (nI 1), .int (nI 2)]) (st := []) (st1 := [.int (nI 77)]) d_Ve_doColumnPathsLead_19 k_Pf_columnStart tw_547 tw_473 rfl (Nat.le_of_ble_eq_true rfl) rfl (Nat.le_of_ble_eq_true rfl) rfl rfl (c_Pf_columnStart l g _ L M 1 2) rfl ?_
      refine en_istore (ls' := [.ref 43, .int (nI 1), .int (nI 2), .int (nI ((j + 16) % 32)), .int (nI 77), .int (sp_mix (M 22 70) (M 22 71))]) d_Ve_doColumnPathsLead_22 (Nat.le_of_ble_eq_true rfl) rfl ?_
      refine ew_aload_n d_Ve_doColumnPathsLead_24 rfl ?_
      refine ew_getr (ci := 6) (f := 3) d_Ve_doColumnPathsLead_25 rfl rfl rfl tw_200 ?_
      refine ew_iload d_Ve_doColumnPathsLead_28 rfl ?_
      refine ew_iald (j := 77) d_Ve_doColumnPathsLead_30 rfl (rfl) (by decide) (by decide) ?_
      refine ew_aload_n d_Ve_doColumnPathsLead_31 rfl ?_
      refine ew_getr (ci := 6) (f := 3) d_Ve_doColumnPathsLead_32 rfl rfl rfl tw_200 ?_
      refine ew_iload d_Ve_doColumnPathsLead_35 rfl ?_
      refine ew_iconst (v := nI 1) d_Ve_doColumnPathsLead_37 (by decide) ?_
      refine en_iadd d_Ve_doColumnPathsLead_38 ?_
      refine en_eq rfl (show _ = [.int (nI 78), .ref 22, .int (M 22 77)] from rfl) rfl ?_
      refine ew_iald (j := 78) d_Ve_doColumnPathsLead_39 rfl (rfl) (by decide) (by decide) ?_
      refine en_callS (As := [.int (M 22 77), .int (M 22 78)]) (st := []) (st1 := [.int (sp_mix (M 22 77) (M 22 78))]) d_Ve_doColumnPathsLead_40 k_Pf_columnLeaf tw_548 tw_373 rfl (Nat.le_of_ble_eq_true rfl) rfl (Nat.le_of_ble_eq_true rfl) rfl rfl (c_Pf_columnLeaf l g _ L M (M 22 77) (M 22 78)) rfl ?_
      refine en_istore (ls' := [.ref 43, .int (nI 1), .int (nI 2), .int (nI ((j + 16) % 32)), .int (nI 77), .int (sp_mix (M 22 77) (M 22 78))]) d_Ve_doColumnPathsLead_43 (Nat.le_of_ble_eq_true rfl) rfl ?_
      refine ew_bipush (v := nI 32) d_Ve_doColumnPathsLead_45 (by decide) ?_
      refine ew_iload_n d_Ve_doColumnPathsLead_47 rfl ?_
      refine ew_iload d_Ve_doColumnPathsLead_48 rfl ?_
      refine ew_aload_n d_Ve_doColumnPathsLead_50 rfl ?_
      refine ew_getr (ci := 6) (f := 3) d_Ve_doColumnPathsLead_51 rfl rfl rfl tw_200 ?_
      refine ew_iload d_Ve_doColumnPathsLead_54 rfl ?_
      refine ew_iconst (v := nI 2) d_Ve_doColumnPathsLead_56 (by decide) ?_
      refine en_iadd d_Ve_doColumnPathsLead_57 ?_
      refine en_eq rfl (show _ = [.int (nI 79), .ref 22, .int (sp_mix (M 22 77) (M 22 78)), .int (nI ((j + 16) % 32)), .int (nI 32)] from rfl) rfl ?_
      refine en_callS (As := [.int (nI 32), .int (nI ((j + 16) % 32)), .int (sp_mix (M 22 77) (M 22 78)), .ref 22, .int (nI 79)]) (st := []) (st1 := [.int (sp_ro (M 22) 6 (sp_mix (M 22 77) (M 22 78)) (32 + ((j + 16) % 32)) 79)]) d_Ve_doColumnPathsLead_58 k_Tr_rootOf tw_549 tw_550 rfl (Nat.le_of_ble_eq_true rfl) rfl (Nat.le_of_ble_eq_true rfl) rfl rfl (c_Tr_rootOf l g _ L M 32 ((j + 16) % 32) 79 6 (sp_mix (M 22 77) (M 22 78)) (by omega) (by omega) (by omega)) rfl ?_
      refine ew_aload_n d_Ve_doColumnPathsLead_61 rfl ?_
      refine ew_getr (ci := 6) (f := 3) d_Ve_doColumnPathsLead_62 rfl rfl rfl tw_200 ?_
      refine ew_iconst (v := nI 0) d_Ve_doColumnPathsLead_65 (by decide) ?_
      refine ew_iald (j := 0) d_Ve_doColumnPathsLead_66 rfl (rfl) (by decide) (by decide) ?_
      refine ew_icmp_eq (tgt := 72) d_Ve_doColumnPathsLead_67 (by decide) (fun h67_2 => ?_) (fun h67_2 => ?_)
      · refine en_inc (ls' := [.ref 43, .int (nI 1), .int (nI 3), .int (nI ((j + 16) % 32)), .int (nI 77), .int (sp_mix (M 22 77) (M 22 78))]) d_Ve_doColumnPathsLead_72 rfl rfl ?_
        refine ew_goto (tgt := 2) d_Ve_doColumnPathsLead_75 (by decide) ?_
        refine ew_iload_n d_Ve_doColumnPathsLead_2 rfl ?_
        refine ew_iconst (v := nI 4) d_Ve_doColumnPathsLead_3 (by decide) ?_
        refine en_icmp_ge (tgt := 78) d_Ve_doColumnPathsLead_4 (by decide) (by first | with_reducible assumption | with_reducible exact ep_lt _ | with_reducible exact sp_its_lt _ _ _ | with_reducible exact tb_l_rt _ | with_reducible exact tb_l_x _ | with_reducible exact tb_l_o0 _ | with_reducible exact tb_l_o1 _ | with_reducible exact tb_l_va _ | with_reducible exact tb_l_ll _ | with_reducible exact tb_l_cf _ | with_reducible exact tb_l_kf _ | with_reducible exact sp_ts_lt _ _ _ _ | with_reducible exact sp_w_lt _ _ | with_reducible exact sp_cs_lt _ _ _ _ _ | with_reducible exact sp_cb_lt _ _ _ _ _ | with_reducible exact sp_ch_lt _ | with_reducible exact sp_bf_lt _ _ | omega) (by first | with_reducible assumption | with_reducible exact ep_lt _ | with_reducible exact sp_its_lt _ _ _ | with_reducible exact tb_l_rt _ | with_reducible exact tb_l_x _ | with_reducible exact tb_l_o0 _ | with_reducible exact tb_l_o1 _ | with_reducible exact tb_l_va _ | with_reducible exact tb_l_ll _ | with_reducible exact tb_l_cf _ | with_reducible exact tb_l_kf _ | with_reducible exact sp_ts_lt _ _ _ _ | with_reducible exact sp_w_lt _ _ | with_reducible exact sp_cs_lt _ _ _ _ _ | with_reducible exact sp_cb_lt _ _ _ _ _ | with_reducible exact sp_ch_lt _ | with_reducible exact sp_bf_lt _ _ | omega) (fun h4_3 => by exact absurd h4_3 (by decide)) (fun h4_3 => ?_)
        refine ew_aload_n d_Ve_doColumnPathsLead_7 rfl ?_
        refine ew_iload_n d_Ve_doColumnPathsLead_8 rfl ?_
        refine en_callV (As := [.int (nI 1)]) (i := 43) (ci := 6) (st := []) (st1 := [.int (nI j)]) d_Ve_doColumnPathsLead_9 k_Ve_place rfl rfl tw_542 tw_543 tw_544 rfl (Nat.le_of_ble_eq_true rfl) rfl (Nat.le_of_ble_eq_true rfl) rfl rfl (c_Ve_place l g _ L M 1 j (by decide) (hj)) rfl ?_
        refine ew_iload_n d_Ve_doColumnPathsLead_12 rfl ?_
        refine en_callS (As := [.int (nI j), .int (nI 3)]) (st := []) (st1 := [.int (nI ((j + 20) % 32))]) d_Ve_doColumnPathsLead_13 k_Pf_columnIndex tw_546 tw_468 rfl (Nat.le_of_ble_eq_true rfl) rfl (Nat.le_of_ble_eq_true rfl) rfl rfl (c_Pf_columnIndex3 l g _ L M (hs) j (hj2)) rfl ?_
        refine en_istore_n (ls' := [.ref 43, .int (nI 1), .int (nI 3), .int (nI ((j + 20) % 32)), .int (nI 77), .int (sp_mix (M 22 77) (M 22 78))]) d_Ve_doColumnPathsLead_16 (Nat.le_of_ble_eq_true rfl) rfl ?_
        refine ew_iload_n d_Ve_doColumnPathsLead_17 rfl ?_
        refine ew_iload_n d_Ve_doColumnPathsLead_18 rfl ?_
        refine en_callS (As := [.int (nI 1), .int (nI 3)]) (st := []) (st1 := [.int (nI 84)]) d_Ve_doColumnPathsLead_19 k_Pf_columnStart tw_547 tw_473 rfl (Nat.le_of_ble_eq_true rfl) rfl (Nat.le_of_ble_eq_true rfl) rfl rfl (c_Pf_columnStart l g _ L M 1 3) rfl ?_
        refine en_istore (ls' := [.ref 43, .int (nI 1), .int (nI 3), .int (nI ((j + 20) % 32)), .int (nI 84), .int (sp_mix (M 22 77) (M 22 78))]) d_Ve_doColumnPathsLead_22 (Nat.le_of_ble_eq_true rfl) rfl ?_
        refine ew_aload_n d_Ve_doColumnPathsLead_24 rfl ?_
        refine ew_getr (ci := 6) (f := 3) d_Ve_doColumnPathsLead_25 rfl rfl rfl tw_200 ?_
        refine ew_iload d_Ve_doColumnPathsLead_28 rfl ?_
        refine ew_iald (j := 84) d_Ve_doColumnPathsLead_30 rfl (rfl) (by decide) (by decide) ?_
        refine ew_aload_n d_Ve_doColumnPathsLead_31 rfl ?_
        refine ew_getr (ci := 6) (f := 3) d_Ve_doColumnPathsLead_32 rfl rfl rfl tw_200 ?_
        refine ew_iload d_Ve_doColumnPathsLead_35 rfl ?_
        refine ew_iconst (v := nI 1) d_Ve_doColumnPathsLead_37 (by decide) ?_
        refine en_iadd d_Ve_doColumnPathsLead_38 ?_
        refine en_eq rfl (show _ = [.int (nI 85), .ref 22, .int (M 22 84)] from rfl) rfl ?_
        refine ew_iald (j := 85) d_Ve_doColumnPathsLead_39 rfl (rfl) (by decide) (by decide) ?_
        refine en_callS (As := [.int (M 22 84), .int (M 22 85)]) (st := []) (st1 := [.int (sp_mix (M 22 84) (M 22 85))]) d_Ve_doColumnPathsLead_40 k_Pf_columnLeaf tw_548 tw_373 rfl (Nat.le_of_ble_eq_true rfl) rfl (Nat.le_of_ble_eq_true rfl) rfl rfl (c_Pf_columnLeaf l g _ L M (M 22 84) (M 22 85)) rfl ?_
        refine en_istore (ls' := [.ref 43, .int (nI 1), .int (nI 3), .int (nI ((j + 20) % 32)), .int (nI 84), .int (sp_mix (M 22 84) (M 22 85))]) d_Ve_doColumnPathsLead_43 (Nat.le_of_ble_eq_true rfl) rfl ?_
        refine ew_bipush (v := nI 32) d_Ve_doColumnPathsLead_45 (by decide) ?_
        refine ew_iload_n d_Ve_doColumnPathsLead_47 rfl ?_
        refine ew_iload d_Ve_doColumnPathsLead_48 rfl ?_
        refine ew_aload_n d_Ve_doColumnPathsLead_50 rfl ?_
        refine ew_getr (ci := 6) (f := 3) d_Ve_doColumnPathsLead_51 rfl rfl rfl tw_200 ?_
        refine ew_iload d_Ve_doColumnPathsLead_54 rfl ?_
        refine ew_iconst (v := nI 2) d_Ve_doColumnPathsLead_56 (by decide) ?_
        refine en_iadd d_Ve_doColumnPathsLead_57 ?_
        refine en_eq rfl (show _ = [.int (nI 86), .ref 22, .int (sp_mix (M 22 84) (M 22 85)), .int (nI ((j + 20) % 32)), .int (nI 32)] from rfl) rfl ?_
        refine en_callS (As := [.int (nI 32), .int (nI ((j + 20) % 32)), .int (sp_mix (M 22 84) (M 22 85)), .ref 22, .int (nI 86)]) (st := []) (st1 := [.int (sp_ro (M 22) 6 (sp_mix (M 22 84) (M 22 85)) (32 + ((j + 20) % 32)) 86)]) d_Ve_doColumnPathsLead_58 k_Tr_rootOf tw_549 tw_550 rfl (Nat.le_of_ble_eq_true rfl) rfl (Nat.le_of_ble_eq_true rfl) rfl rfl (c_Tr_rootOf l g _ L M 32 ((j + 20) % 32) 86 6 (sp_mix (M 22 84) (M 22 85)) (by omega) (by omega) (by omega)) rfl ?_
        refine ew_aload_n d_Ve_doColumnPathsLead_61 rfl ?_
        refine ew_getr (ci := 6) (f := 3) d_Ve_doColumnPathsLead_62 rfl rfl rfl tw_200 ?_
        refine ew_iconst (v := nI 0) d_Ve_doColumnPathsLead_65 (by decide) ?_
        refine ew_iald (j := 0) d_Ve_doColumnPathsLead_66 rfl (rfl) (by decide) (by decide) ?_
        refine ew_icmp_eq (tgt := 72) d_Ve_doColumnPathsLead_67 (by decide) (fun h67_3 => ?_) (fun h67_3 => ?_)
        · refine en_inc (ls' := [.ref 43, .int (nI 1), .int (nI 4), .int (nI ((j + 20) % 32)), .int (nI 84), .int (sp_mix (M 22 84) (M 22 85))]) d_Ve_doColumnPathsLead_72 rfl rfl ?_
          refine ew_goto (tgt := 2) d_Ve_doColumnPathsLead_75 (by decide) ?_
          refine ew_iload_n d_Ve_doColumnPathsLead_2 rfl ?_
          refine ew_iconst (v := nI 4) d_Ve_doColumnPathsLead_3 (by decide) ?_
          refine en_icmp_ge (tgt := 78) d_Ve_doColumnPathsLead_4 (by decide) (by first | with_reducible assumption | with_reducible exact ep_lt _ | with_reducible exact sp_its_lt _ _ _ | with_reducible exact tb_l_rt _ | with_reducible exact tb_l_x _ | with_reducible exact tb_l_o0 _ | with_reducible exact tb_l_o1 _ | with_reducible exact tb_l_va _ | with_reducible exact tb_l_ll _ | with_reducible exact tb_l_cf _ | with_reducible exact tb_l_kf _ | with_reducible exact sp_ts_lt _ _ _ _ | with_reducible exact sp_w_lt _ _ | with_reducible exact sp_cs_lt _ _ _ _ _ | with_reducible exact sp_cb_lt _ _ _ _ _ | with_reducible exact sp_ch_lt _ | with_reducible exact sp_bf_lt _ _ | omega) (by first | with_reducible assumption | with_reducible exact ep_lt _ | with_reducible exact sp_its_lt _ _ _ | with_reducible exact tb_l_rt _ | with_reducible exact tb_l_x _ | with_reducible exact tb_l_o0 _ | with_reducible exact tb_l_o1 _ | with_reducible exact tb_l_va _ | with_reducible exact tb_l_ll _ | with_reducible exact tb_l_cf _ | with_reducible exact tb_l_kf _ | with_reducible exact sp_ts_lt _ _ _ _ | with_reducible exact sp_w_lt _ _ | with_reducible exact sp_cs_lt _ _ _ _ _ | with_reducible exact sp_cb_lt _ _ _ _ _ | with_reducible exact sp_ch_lt _ | with_reducible exact sp_bf_lt _ _ | omega) (fun h4_4 => ?_) (fun h4_4 => by exact absurd h4_4 (by decide))
          refine ew_iconst (v := nI 1) d_Ve_doColumnPathsLead_78 (by decide) ?_
          exact ew_zret d_Ve_doColumnPathsLead_79 rfl (by decide) (⟨by rw [show sp_vc1 (M 22) j = true from by (unfold sp_vc1; rw [show (decide (sp_ro (M 22) 6 (sp_mix (M 22 63) (M 22 64)) (32 + (j + 0) % 32) 65 = M 22 0)) = true from decide_eq_true h67, show (decide (sp_ro (M 22) 6 (sp_mix (M 22 70) (M 22 71)) (32 + (j + 4) % 32) 72 = M 22 0)) = true from decide_eq_true h67_1, show (decide (sp_ro (M 22) 6 (sp_mix (M 22 77) (M 22 78)) (32 + (j + 16) % 32) 79 = M 22 0)) = true from decide_eq_true h67_2, show (decide (sp_ro (M 22) 6 (sp_mix (M 22 84) (M 22 85)) (32 + (j + 20) % 32) 86 = M 22 0)) = true from decide_eq_true h67_3]; first | rfl | done)]; rfl, rfl, rfl⟩)
        · refine ew_iconst (v := nI 0) d_Ve_doColumnPathsLead_70 (by decide) ?_
          exact ew_zret d_Ve_doColumnPathsLead_71 rfl (by decide) (⟨by rw [show sp_vc1 (M 22) j = false from by (unfold sp_vc1; rw [show (decide (sp_ro (M 22) 6 (sp_mix (M 22 63) (M 22 64)) (32 + (j + 0) % 32) 65 = M 22 0)) = true from decide_eq_true h67, show (decide (sp_ro (M 22) 6 (sp_mix (M 22 70) (M 22 71)) (32 + (j + 4) % 32) 72 = M 22 0)) = true from decide_eq_true h67_1, show (decide (sp_ro (M 22) 6 (sp_mix (M 22 77) (M 22 78)) (32 + (j + 16) % 32) 79 = M 22 0)) = true from decide_eq_true h67_2, show (decide (sp_ro (M 22) 6 (sp_mix (M 22 84) (M 22 85)) (32 + (j + 20) % 32) 86 = M 22 0)) = false from decide_eq_false h67_3]; first | rfl | done)]; rfl, rfl, rfl⟩)
      · refine ew_iconst (v := nI 0) d_Ve_doColumnPathsLead_70 (by decide) ?_
        exact ew_zret d_Ve_doColumnPathsLead_71 rfl (by decide) (⟨by rw [show sp_vc1 (M 22) j = false from by (unfold sp_vc1; rw [show (decide (sp_ro (M 22) 6 (sp_mix (M 22 63) (M 22 64)) (32 + (j + 0) % 32) 65 = M 22 0)) = true from decide_eq_true h67, show (decide (sp_ro (M 22) 6 (sp_mix (M 22 70) (M 22 71)) (32 + (j + 4) % 32) 72 = M 22 0)) = true from decide_eq_true h67_1, show (decide (sp_ro (M 22) 6 (sp_mix (M 22 77) (M 22 78)) (32 + (j + 16) % 32) 79 = M 22 0)) = false from decide_eq_false h67_2]; first | rfl | done)]; rfl, rfl, rfl⟩)
    · refine ew_iconst (v := nI 0) d_Ve_doColumnPathsLead_70 (by decide) ?_
      exact ew_zret d_Ve_doColumnPathsLead_71 rfl (by decide) (⟨by rw [show sp_vc1 (M 22) j = false from by (unfold sp_vc1; rw [show (decide (sp_ro (M 22) 6 (sp_mix (M 22 63) (M 22 64)) (32 + (j + 0) % 32) 65 = M 22 0)) = true from decide_eq_true h67, show (decide (sp_ro (M 22) 6 (sp_mix (M 22 70) (M 22 71)) (32 + (j + 4) % 32) 72 = M 22 0)) = false from decide_eq_false h67_1]; first | rfl | done)]; rfl, rfl, rfl⟩)
  · refine ew_iconst (v := nI 0) d_Ve_doColumnPathsLead_70 (by decide) ?_
    exact ew_zret d_Ve_doColumnPathsLead_71 rfl (by decide) (⟨by rw [show sp_vc1 (M 22) j = false from by (unfold sp_vc1; rw [show (decide (sp_ro (M 22) 6 (sp_mix (M 22 63) (M 22 64)) (32 + (j + 0) % 32) 65 = M 22 0)) = false from decide_eq_false h67]; first | rfl | done)]; rfl, rfl, rfl⟩)
set_option maxRecDepth 100000 in
theorem c_Ve_doLayerPathsLead10 (l : Launch) (g : ew_G) (d L : Nat) (M : ew_M) (hs : sp_st M) (j : Nat) (hj : M 46 1 = nI j) (hj2 : j < 16) :
    Ew l g (d + 3) 0 0 m_Ve_doLayerPathsLead 0 [.ref 43, .int (nI 1), .int (nI 0), .retAddr 0, .retAddr 0, .retAddr 0, .retAddr 0, .retAddr 0] [] (ew_SH L) M (ew_q (some (.int (ew_b (sp_vl10 (M 22) j)))) (ew_SH L) M) := by
  refine ew_iload_n d_Ve_doLayerPathsLead_0 rfl ?_
  refine en_callS (As := [.int (nI 0)]) (st := []) (st1 := [.int (nI 32)]) d_Ve_doLayerPathsLead_1 k_Pf_layerSize tw_556 tw_162 rfl (Nat.le_of_ble_eq_true rfl) rfl (Nat.le_of_ble_eq_true rfl) rfl rfl (c_Pf_layerSize0 l g _ L M) rfl ?_
  refine en_istore_n (ls' := [.ref 43, .int (nI 1), .int (nI 0), .int (nI 32), .retAddr 0, .retAddr 0, .retAddr 0, .retAddr 0]) d_Ve_doLayerPathsLead_4 (Nat.le_of_ble_eq_true rfl) rfl ?_
  refine ew_iconst (v := nI 0) d_Ve_doLayerPathsLead_5 (by decide) ?_
  refine en_istore (ls' := [.ref 43, .int (nI 1), .int (nI 0), .int (nI 32), .int (nI 0), .retAddr 0, .retAddr 0, .retAddr 0]) d_Ve_doLayerPathsLead_6 (Nat.le_of_ble_eq_true rfl) rfl ?_
  refine ew_iload d_Ve_doLayerPathsLead_8 rfl ?_
  refine ew_iconst (v := nI 2) d_Ve_doLayerPathsLead_10 (by decide) ?_
  refine en_icmp_ge (tgt := 83) d_Ve_doLayerPathsLead_11 (by decide) (by first | with_reducible assumption | with_reducible exact ep_lt _ | with_reducible exact sp_its_lt _ _ _ | with_reducible exact tb_l_rt _ | with_reducible exact tb_l_x _ | with_reducible exact tb_l_o0 _ | with_reducible exact tb_l_o1 _ | with_reducible exact tb_l_va _ | with_reducible exact tb_l_ll _ | with_reducible exact tb_l_cf _ | with_reducible exact tb_l_kf _ | with_reducible exact sp_ts_lt _ _ _ _ | with_reducible exact sp_w_lt _ _ | with_reducible exact sp_cs_lt _ _ _ _ _ | with_reducible exact sp_cb_lt _ _ _ _ _ | with_reducible exact sp_ch_lt _ | with_reducible exact sp_bf_lt _ _ | omega) (by first | with_reducible assumption | with_reducible exact ep_lt _ | with_reducible exact sp_its_lt _ _ _ | with_reducible exact tb_l_rt _ | with_reducible exact tb_l_x _ | with_reducible exact tb_l_o0 _ | with_reducible exact tb_l_o1 _ | with_reducible exact tb_l_va _ | with_reducible exact tb_l_ll _ | with_reducible exact tb_l_cf _ | with_reducible exact tb_l_kf _ | with_reducible exact sp_ts_lt _ _ _ _ | with_reducible exact sp_w_lt _ _ | with_reducible exact sp_cs_lt _ _ _ _ _ | with_reducible exact sp_cb_lt _ _ _ _ _ | with_reducible exact sp_ch_lt _ | with_reducible exact sp_bf_lt _ _ | omega) (fun h11 => by exact absurd h11 (by decide)) (fun h11 => ?_)
  refine ew_aload_n d_Ve_doLayerPathsLead_14 rfl ?_
  refine ew_iload_n d_Ve_doLayerPathsLead_15 rfl ?_
  refine en_callV (As := [.int (nI 1)]) (i := 43) (ci := 6) (st := []) (st1 := [.int (nI j)]) d_Ve_doLayerPathsLead_16 k_Ve_place rfl rfl tw_542 tw_543 tw_544 rfl (Nat.le_of_ble_eq_true rfl) rfl (Nat.le_of_ble_eq_true rfl) rfl rfl (c_Ve_place l g _ L M 1 j (by decide) (hj)) rfl ?_
  refine ew_iload_n d_Ve_doLayerPathsLead_19 rfl ?_
  refine ew_iload d_Ve_doLayerPathsLead_20 rfl ?_
  refine en_callS (As := [.int (nI j), .int (nI 0), .int (nI 0)]) (st := []) (st1 := [.int (nI (j % 16 + 16 * 0))]) d_Ve_doLayerPathsLead_22 k_Pf_layerIndex tw_557 tw_484 rfl (Nat.le_of_ble_eq_true rfl) rfl (Nat.le_of_ble_eq_true rfl) rfl rfl (c_Pf_layerIndex0 l g _ L M j 0 (hj2)) rfl ?_
  refine en_istore (ls' := [.ref 43, .int (nI 1), .int (nI 0), .int (nI 32), .int (nI 0), .int (nI (j % 16 + 16 * 0)), .retAddr 0, .retAddr 0]) d_Ve_doLayerPathsLead_25 (Nat.le_of_ble_eq_true rfl) rfl ?_
  refine ew_iload_n d_Ve_doLayerPathsLead_27 rfl ?_
  refine ew_iload_n d_Ve_doLayerPathsLead_28 rfl ?_
  refine ew_iload d_Ve_doLayerPathsLead_29 rfl ?_
  refine en_callS (As := [.int (nI 1), .int (nI 0), .int (nI 0)]) (st := []) (st1 := [.int (nI 91)]) d_Ve_doLayerPathsLead_31 k_Pf_layerStart tw_558 tw_488 rfl (Nat.le_of_ble_eq_true rfl) rfl (Nat.le_of_ble_eq_true rfl) rfl rfl (c_Pf_layerStart0 l g _ L M (hs) 1 0) rfl ?_
  refine en_istore (ls' := [.ref 43, .int (nI 1), .int (nI 0), .int (nI 32), .int (nI 0), .int (nI (j % 16 + 16 * 0)), .int (nI 91), .retAddr 0]) d_Ve_doLayerPathsLead_34 (Nat.le_of_ble_eq_true rfl) rfl ?_
  refine ew_aload_n d_Ve_doLayerPathsLead_36 rfl ?_
  refine ew_getr (ci := 6) (f := 3) d_Ve_doLayerPathsLead_37 rfl rfl rfl tw_200 ?_
  refine ew_iload d_Ve_doLayerPathsLead_40 rfl ?_
  refine ew_iald (j := 91) d_Ve_doLayerPathsLead_42 rfl (rfl) (by decide) (by decide) ?_
  refine en_callS (As := [.int (M 22 91)]) (st := []) (st1 := [.int (sp_mix (M 22 91) (nI 12289))]) d_Ve_doLayerPathsLead_43 k_Pf_layerLeaf tw_559 tw_453 rfl (Nat.le_of_ble_eq_true rfl) rfl (Nat.le_of_ble_eq_true rfl) rfl rfl (c_Pf_layerLeaf l g _ L M (M 22 91)) rfl ?_
  refine en_istore (ls' := [.ref 43, .int (nI 1), .int (nI 0), .int (nI 32), .int (nI 0), .int (nI (j % 16 + 16 * 0)), .int (nI 91), .int (sp_mix (M 22 91) (nI 12289))]) d_Ve_doLayerPathsLead_46 (Nat.le_of_ble_eq_true rfl) rfl ?_
  refine ew_iload_n d_Ve_doLayerPathsLead_48 rfl ?_
  refine ew_iload d_Ve_doLayerPathsLead_49 rfl ?_
  refine ew_iload d_Ve_doLayerPathsLead_51 rfl ?_
  refine ew_aload_n d_Ve_doLayerPathsLead_53 rfl ?_
  refine ew_getr (ci := 6) (f := 3) d_Ve_doLayerPathsLead_54 rfl rfl rfl tw_200 ?_
  refine ew_iload d_Ve_doLayerPathsLead_57 rfl ?_
  refine ew_iconst (v := nI 1) d_Ve_doLayerPathsLead_59 (by decide) ?_
  refine en_iadd d_Ve_doLayerPathsLead_60 ?_
  refine en_eq rfl (show _ = [.int (nI 92), .ref 22, .int (sp_mix (M 22 91) (nI 12289)), .int (nI (j % 16 + 16 * 0)), .int (nI 32)] from rfl) rfl ?_
  refine en_callS (As := [.int (nI 32), .int (nI (j % 16 + 16 * 0)), .int (sp_mix (M 22 91) (nI 12289)), .ref 22, .int (nI 92)]) (st := []) (st1 := [.int (sp_ro (M 22) 6 (sp_mix (M 22 91) (nI 12289)) (32 + (j % 16 + 16 * 0)) 92)]) d_Ve_doLayerPathsLead_61 k_Tr_rootOf tw_549 tw_550 rfl (Nat.le_of_ble_eq_true rfl) rfl (Nat.le_of_ble_eq_true rfl) rfl rfl (c_Tr_rootOf l g _ L M 32 (j % 16 + 16 * 0) 92 6 (sp_mix (M 22 91) (nI 12289)) (by omega) (by omega) (by omega)) rfl ?_
  refine ew_aload_n d_Ve_doLayerPathsLead_64 rfl ?_
  refine ew_getr (ci := 6) (f := 3) d_Ve_doLayerPathsLead_65 rfl rfl rfl tw_200 ?_
  refine ew_iconst (v := nI 1) d_Ve_doLayerPathsLead_68 (by decide) ?_
  refine ew_iload_n d_Ve_doLayerPathsLead_69 rfl ?_
  refine en_iadd d_Ve_doLayerPathsLead_70 ?_
  refine en_eq rfl (show _ = [.int (nI 1), .ref 22, .int (sp_ro (M 22) 6 (sp_mix (M 22 91) (nI 12289)) (32 + (j % 16 + 16 * 0)) 92)] from rfl) rfl ?_
  refine ew_iald (j := 1) d_Ve_doLayerPathsLead_71 rfl (rfl) (by decide) (by decide) ?_
  refine ew_icmp_eq (tgt := 77) d_Ve_doLayerPathsLead_72 (by decide) (fun h72 => ?_) (fun h72 => ?_)
  · refine en_inc (ls' := [.ref 43, .int (nI 1), .int (nI 0), .int (nI 32), .int (nI 1), .int (nI (j % 16 + 16 * 0)), .int (nI 91), .int (sp_mix (M 22 91) (nI 12289))]) d_Ve_doLayerPathsLead_77 rfl rfl ?_
    refine ew_goto (tgt := 8) d_Ve_doLayerPathsLead_80 (by decide) ?_
    refine ew_iload d_Ve_doLayerPathsLead_8 rfl ?_
    refine ew_iconst (v := nI 2) d_Ve_doLayerPathsLead_10 (by decide) ?_
    refine en_icmp_ge (tgt := 83) d_Ve_doLayerPathsLead_11 (by decide) (by first | with_reducible assumption | with_reducible exact ep_lt _ | with_reducible exact sp_its_lt _ _ _ | with_reducible exact tb_l_rt _ | with_reducible exact tb_l_x _ | with_reducible exact tb_l_o0 _ | with_reducible exact tb_l_o1 _ | with_reducible exact tb_l_va _ | with_reducible exact tb_l_ll _ | with_reducible exact tb_l_cf _ | with_reducible exact tb_l_kf _ | with_reducible exact sp_ts_lt _ _ _ _ | with_reducible exact sp_w_lt _ _ | with_reducible exact sp_cs_lt _ _ _ _ _ | with_reducible exact sp_cb_lt _ _ _ _ _ | with_reducible exact sp_ch_lt _ | with_reducible exact sp_bf_lt _ _ | omega) (by first | with_reducible assumption | with_reducible exact ep_lt _ | with_reducible exact sp_its_lt _ _ _ | with_reducible exact tb_l_rt _ | with_reducible exact tb_l_x _ | with_reducible exact tb_l_o0 _ | with_reducible exact tb_l_o1 _ | with_reducible exact tb_l_va _ | with_reducible exact tb_l_ll _ | with_reducible exact tb_l_cf _ | with_reducible exact tb_l_kf _ | with_reducible exact sp_ts_lt _ _ _ _ | with_reducible exact sp_w_lt _ _ | with_reducible exact sp_cs_lt _ _ _ _ _ | with_reducible exact sp_cb_lt _ _ _ _ _ | with_reducible exact sp_ch_lt _ | with_reducible exact sp_bf_lt _ _ | omega) (fun h11_1 => by exact absurd h11_1 (by decide)) (fun h11_1 => ?_)
    refine ew_aload_n d_Ve_doLayerPathsLead_14 rfl ?_
    refine ew_iload_n d_Ve_doLayerPathsLead_15 rfl ?_
    refine en_callV (As := [.int (nI 1)]) (i := 43) (ci := 6) (st := []) (st1 := [.int (nI j)]) d_Ve_doLayerPathsLead_16 k_Ve_place rfl rfl tw_542 tw_543 tw_544 rfl (Nat.le_of_ble_eq_true rfl) rfl (Nat.le_of_ble_eq_true rfl) rfl rfl (c_Ve_place l g _ L M 1 j (by decide) (hj)) rfl ?_
    refine ew_iload_n d_Ve_doLayerPathsLead_19 rfl ?_
    refine ew_iload d_Ve_doLayerPathsLead_20 rfl ?_
    refine en_callS (As := [.int (nI j), .int (nI 0), .int (nI 1)]) (st := []) (st1 := [.int (nI (j % 16 + 16 * 1))]) d_Ve_doLayerPathsLead_22 k_Pf_layerIndex tw_557 tw_484 rfl (Nat.le_of_ble_eq_true rfl) rfl (Nat.le_of_ble_eq_true rfl) rfl rfl (c_Pf_layerIndex0 l g _ L M j 1 (hj2)) rfl ?_
    refine en_istore (ls' := [.ref 43, .int (nI 1), .int (nI 0), .int (nI 32), .int (nI 1), .int (nI (j % 16 + 16 * 1)), .int (nI 91), .int (sp_mix (M 22 91) (nI 12289))]) d_Ve_doLayerPathsLead_25 (Nat.le_of_ble_eq_true rfl) rfl ?_
    refine ew_iload_n d_Ve_doLayerPathsLead_27 rfl ?_
    refine ew_iload_n d_Ve_doLayerPathsLead_28 rfl ?_
    refine ew_iload d_Ve_doLayerPathsLead_29 rfl ?_
    refine en_callS (As := [.int (nI 1), .int (nI 0), .int (nI 1)]) (st := []) (st1 := [.int (nI 97)]) d_Ve_doLayerPathsLead_31 k_Pf_layerStart tw_558 tw_488 rfl (Nat.le_of_ble_eq_true rfl) rfl (Nat.le_of_ble_eq_true rfl) rfl rfl (c_Pf_layerStart0 l g _ L M (hs) 1 1) rfl ?_
    refine en_istore (ls' := [.ref 43, .int (nI 1), .int (nI 0), .int (nI 32), .int (nI 1), .int (nI (j % 16 + 16 * 1)), .int (nI 97), .int (sp_mix (M 22 91) (nI 12289))]) d_Ve_doLayerPathsLead_34 (Nat.le_of_ble_eq_true rfl) rfl ?_
    refine ew_aload_n d_Ve_doLayerPathsLead_36 rfl ?_
    refine ew_getr (ci := 6) (f := 3) d_Ve_doLayerPathsLead_37 rfl rfl rfl tw_200 ?_
    refine ew_iload d_Ve_doLayerPathsLead_40 rfl ?_
    refine ew_iald (j := 97) d_Ve_doLayerPathsLead_42 rfl (rfl) (by decide) (by decide) ?_
    refine en_callS (As := [.int (M 22 97)]) (st := []) (st1 := [.int (sp_mix (M 22 97) (nI 12289))]) d_Ve_doLayerPathsLead_43 k_Pf_layerLeaf tw_559 tw_453 rfl (Nat.le_of_ble_eq_true rfl) rfl (Nat.le_of_ble_eq_true rfl) rfl rfl (c_Pf_layerLeaf l g _ L M (M 22 97)) rfl ?_
    refine en_istore (ls' := [.ref 43, .int (nI 1), .int (nI 0), .int (nI 32), .int (nI 1), .int (nI (j % 16 + 16 * 1)), .int (nI 97), .int (sp_mix (M 22 97) (nI 12289))]) d_Ve_doLayerPathsLead_46 (Nat.le_of_ble_eq_true rfl) rfl ?_
    refine ew_iload_n d_Ve_doLayerPathsLead_48 rfl ?_
    refine ew_iload d_Ve_doLayerPathsLead_49 rfl ?_
    refine ew_iload d_Ve_doLayerPathsLead_51 rfl ?_
    refine ew_aload_n d_Ve_doLayerPathsLead_53 rfl ?_
    refine ew_getr (ci := 6) (f := 3) d_Ve_doLayerPathsLead_54 rfl rfl rfl tw_200 ?_
    refine ew_iload d_Ve_doLayerPathsLead_57 rfl ?_
    refine ew_iconst (v := nI 1) d_Ve_doLayerPathsLead_59 (by decide) ?_
    refine en_iadd d_Ve_doLayerPathsLead_60 ?_
    refine en_eq rfl (show _ = [.int (nI 98), .ref 22, .int (sp_mix (M 22 97) (nI 12289)), .int (nI (j % 16 + 16 * 1)), .int (nI 32)] from rfl) rfl ?_
    refine en_callS (As := [.int (nI 32), .int (nI (j % 16 + 16 * 1)), .int (sp_mix (M 22 97) (nI 12289)), .ref 22, .int (nI 98)]) (st := []) (st1 := [.int (sp_ro (M 22) 6 (sp_mix (M 22 97) (nI 12289)) (32 + (j % 16 + 16 * 1)) 98)]) d_Ve_doLayerPathsLead_61 k_Tr_rootOf tw_549 tw_550 rfl (Nat.le_of_ble_eq_true rfl) rfl (Nat.le_of_ble_eq_true rfl) rfl rfl (c_Tr_rootOf l g _ L M 32 (j % 16 + 16 * 1) 98 6 (sp_mix (M 22 97) (nI 12289)) (by omega) (by omega) (by omega)) rfl ?_
    refine ew_aload_n d_Ve_doLayerPathsLead_64 rfl ?_
    refine ew_getr (ci := 6) (f := 3) d_Ve_doLayerPathsLead_65 rfl rfl rfl tw_200 ?_
    refine ew_iconst (v := nI 1) d_Ve_doLayerPathsLead_68 (by decide) ?_
    refine ew_iload_n d_Ve_doLayerPathsLead_69 rfl ?_
    refine en_iadd d_Ve_doLayerPathsLead_70 ?_
    refine en_eq rfl (show _ = [.int (nI 1), .ref 22, .int (sp_ro (M 22) 6 (sp_mix (M 22 97) (nI 12289)) (32 + (j % 16 + 16 * 1)) 98)] from rfl) rfl ?_
    refine ew_iald (j := 1) d_Ve_doLayerPathsLead_71 rfl (rfl) (by decide) (by decide) ?_
    refine ew_icmp_eq (tgt := 77) d_Ve_doLayerPathsLead_72 (by decide) (fun h72_1 => ?_) (fun h72_1 => ?_)
    · refine en_inc (ls' := [.ref 43, .int (nI 1), .int (nI 0), .int (nI 32), .int (nI 2), .int (nI (j % 16 + 16 * 1)), .int (nI 97), .int (sp_mix (M 22 97) (nI 12289))]) d_Ve_doLayerPathsLead_77 rfl rfl ?_
      refine ew_goto (tgt := 8) d_Ve_doLayerPathsLead_80 (by decide) ?_
      refine ew_iload d_Ve_doLayerPathsLead_8 rfl ?_
      refine ew_iconst (v := nI 2) d_Ve_doLayerPathsLead_10 (by decide) ?_
      refine en_icmp_ge (tgt := 83) d_Ve_doLayerPathsLead_11 (by decide) (by first | with_reducible assumption | with_reducible exact ep_lt _ | with_reducible exact sp_its_lt _ _ _ | with_reducible exact tb_l_rt _ | with_reducible exact tb_l_x _ | with_reducible exact tb_l_o0 _ | with_reducible exact tb_l_o1 _ | with_reducible exact tb_l_va _ | with_reducible exact tb_l_ll _ | with_reducible exact tb_l_cf _ | with_reducible exact tb_l_kf _ | with_reducible exact sp_ts_lt _ _ _ _ | with_reducible exact sp_w_lt _ _ | with_reducible exact sp_cs_lt _ _ _ _ _ | with_reducible exact sp_cb_lt _ _ _ _ _ | with_reducible exact sp_ch_lt _ | with_reducible exact sp_bf_lt _ _ | omega) (by first | with_reducible assumption | with_reducible exact ep_lt _ | with_reducible exact sp_its_lt _ _ _ | with_reducible exact tb_l_rt _ | with_reducible exact tb_l_x _ | with_reducible exact tb_l_o0 _ | with_reducible exact tb_l_o1 _ | with_reducible exact tb_l_va _ | with_reducible exact tb_l_ll _ | with_reducible exact tb_l_cf _ | with_reducible exact tb_l_kf _ | with_reducible exact sp_ts_lt _ _ _ _ | with_reducible exact sp_w_lt _ _ | with_reducible exact sp_cs_lt _ _ _ _ _ | with_reducible exact sp_cb_lt _ _ _ _ _ | with_reducible exact sp_ch_lt _ | with_reducible exact sp_bf_lt _ _ | omega) (fun h11_2 => ?_) (fun h11_2 => by exact absurd h11_2 (by decide))
      refine ew_iconst (v := nI 1) d_Ve_doLayerPathsLead_83 (by decide) ?_
      exact ew_zret d_Ve_doLayerPathsLead_84 rfl (by decide) (⟨by rw [show sp_vl10 (M 22) j = true from by (unfold sp_vl10; rw [show (decide (sp_ro (M 22) 6 (sp_mix (M 22 91) (nI 12289)) (32 + (j % 16 + 16 * 0)) 92 = M 22 1)) = true from decide_eq_true h72, show (decide (sp_ro (M 22) 6 (sp_mix (M 22 97) (nI 12289)) (32 + (j % 16 + 16 * 1)) 98 = M 22 1)) = true from decide_eq_true h72_1]; first | rfl | done)]; rfl, rfl, rfl⟩)
    · refine ew_iconst (v := nI 0) d_Ve_doLayerPathsLead_75 (by decide) ?_
      exact ew_zret d_Ve_doLayerPathsLead_76 rfl (by decide) (⟨by rw [show sp_vl10 (M 22) j = false from by (unfold sp_vl10; rw [show (decide (sp_ro (M 22) 6 (sp_mix (M 22 91) (nI 12289)) (32 + (j % 16 + 16 * 0)) 92 = M 22 1)) = true from decide_eq_true h72, show (decide (sp_ro (M 22) 6 (sp_mix (M 22 97) (nI 12289)) (32 + (j % 16 + 16 * 1)) 98 = M 22 1)) = false from decide_eq_false h72_1]; first | rfl | done)]; rfl, rfl, rfl⟩)
  · refine ew_iconst (v := nI 0) d_Ve_doLayerPathsLead_75 (by decide) ?_
    exact ew_zret d_Ve_doLayerPathsLead_76 rfl (by decide) (⟨by rw [show sp_vl10 (M 22) j = false from by (unfold sp_vl10; rw [show (decide (sp_ro (M 22) 6 (sp_mix (M 22 91) (nI 12289)) (32 + (j % 16 + 16 * 0)) 92 = M 22 1)) = false from decide_eq_false h72]; first | rfl | done)]; rfl, rfl, rfl⟩)
set_option maxRecDepth 100000 in
theorem c_Ve_doLayerPathsLead11 (l : Launch) (g : ew_G) (d L : Nat) (M : ew_M) (hs : sp_st M) (j : Nat) (hj : M 46 1 = nI j) (hj2 : j < 16) :
    Ew l g (d + 3) 0 0 m_Ve_doLayerPathsLead 0 [.ref 43, .int (nI 1), .int (nI 1), .retAddr 0, .retAddr 0, .retAddr 0, .retAddr 0, .retAddr 0] [] (ew_SH L) M (ew_q (some (.int (ew_b (sp_vl11 (M 22) j)))) (ew_SH L) M) := by
  refine ew_iload_n d_Ve_doLayerPathsLead_0 rfl ?_
  refine en_callS (As := [.int (nI 1)]) (st := []) (st1 := [.int (nI 16)]) d_Ve_doLayerPathsLead_1 k_Pf_layerSize tw_556 tw_162 rfl (Nat.le_of_ble_eq_true rfl) rfl (Nat.le_of_ble_eq_true rfl) rfl rfl (c_Pf_layerSize1 l g _ L M) rfl ?_
  refine en_istore_n (ls' := [.ref 43, .int (nI 1), .int (nI 1), .int (nI 16), .retAddr 0, .retAddr 0, .retAddr 0, .retAddr 0]) d_Ve_doLayerPathsLead_4 (Nat.le_of_ble_eq_true rfl) rfl ?_
  refine ew_iconst (v := nI 0) d_Ve_doLayerPathsLead_5 (by decide) ?_
  refine en_istore (ls' := [.ref 43, .int (nI 1), .int (nI 1), .int (nI 16), .int (nI 0), .retAddr 0, .retAddr 0, .retAddr 0]) d_Ve_doLayerPathsLead_6 (Nat.le_of_ble_eq_true rfl) rfl ?_
  refine ew_iload d_Ve_doLayerPathsLead_8 rfl ?_
  refine ew_iconst (v := nI 2) d_Ve_doLayerPathsLead_10 (by decide) ?_
  refine en_icmp_ge (tgt := 83) d_Ve_doLayerPathsLead_11 (by decide) (by first | with_reducible assumption | with_reducible exact ep_lt _ | with_reducible exact sp_its_lt _ _ _ | with_reducible exact tb_l_rt _ | with_reducible exact tb_l_x _ | with_reducible exact tb_l_o0 _ | with_reducible exact tb_l_o1 _ | with_reducible exact tb_l_va _ | with_reducible exact tb_l_ll _ | with_reducible exact tb_l_cf _ | with_reducible exact tb_l_kf _ | with_reducible exact sp_ts_lt _ _ _ _ | with_reducible exact sp_w_lt _ _ | with_reducible exact sp_cs_lt _ _ _ _ _ | with_reducible exact sp_cb_lt _ _ _ _ _ | with_reducible exact sp_ch_lt _ | with_reducible exact sp_bf_lt _ _ | omega) (by first | with_reducible assumption | with_reducible exact ep_lt _ | with_reducible exact sp_its_lt _ _ _ | with_reducible exact tb_l_rt _ | with_reducible exact tb_l_x _ | with_reducible exact tb_l_o0 _ | with_reducible exact tb_l_o1 _ | with_reducible exact tb_l_va _ | with_reducible exact tb_l_ll _ | with_reducible exact tb_l_cf _ | with_reducible exact tb_l_kf _ | with_reducible exact sp_ts_lt _ _ _ _ | with_reducible exact sp_w_lt _ _ | with_reducible exact sp_cs_lt _ _ _ _ _ | with_reducible exact sp_cb_lt _ _ _ _ _ | with_reducible exact sp_ch_lt _ | with_reducible exact sp_bf_lt _ _ | omega) (fun h11 => by exact absurd h11 (by decide)) (fun h11 => ?_)
  refine ew_aload_n d_Ve_doLayerPathsLead_14 rfl ?_
  refine ew_iload_n d_Ve_doLayerPathsLead_15 rfl ?_
  refine en_callV (As := [.int (nI 1)]) (i := 43) (ci := 6) (st := []) (st1 := [.int (nI j)]) d_Ve_doLayerPathsLead_16 k_Ve_place rfl rfl tw_542 tw_543 tw_544 rfl (Nat.le_of_ble_eq_true rfl) rfl (Nat.le_of_ble_eq_true rfl) rfl rfl (c_Ve_place l g _ L M 1 j (by decide) (hj)) rfl ?_
  refine ew_iload_n d_Ve_doLayerPathsLead_19 rfl ?_
  refine ew_iload d_Ve_doLayerPathsLead_20 rfl ?_
  refine en_callS (As := [.int (nI j), .int (nI 1), .int (nI 0)]) (st := []) (st1 := [.int (nI (j % 8 + 8 * 0))]) d_Ve_doLayerPathsLead_22 k_Pf_layerIndex tw_557 tw_484 rfl (Nat.le_of_ble_eq_true rfl) rfl (Nat.le_of_ble_eq_true rfl) rfl rfl (c_Pf_layerIndex1 l g _ L M j 0 (hj2)) rfl ?_
  refine en_istore (ls' := [.ref 43, .int (nI 1), .int (nI 1), .int (nI 16), .int (nI 0), .int (nI (j % 8 + 8 * 0)), .retAddr 0, .retAddr 0]) d_Ve_doLayerPathsLead_25 (Nat.le_of_ble_eq_true rfl) rfl ?_
  refine ew_iload_n d_Ve_doLayerPathsLead_27 rfl ?_
  refine ew_iload_n d_Ve_doLayerPathsLead_28 rfl ?_
  refine ew_iload d_Ve_doLayerPathsLead_29 rfl ?_
  refine en_callS (As := [.int (nI 1), .int (nI 1), .int (nI 0)]) (st := []) (st1 := [.int (nI 103)]) d_Ve_doLayerPathsLead_31 k_Pf_layerStart tw_558 tw_488 rfl (Nat.le_of_ble_eq_true rfl) rfl (Nat.le_of_ble_eq_true rfl) rfl rfl (c_Pf_layerStart1 l g _ L M (hs) 1 0) rfl ?_
  refine en_istore (ls' := [.ref 43, .int (nI 1), .int (nI 1), .int (nI 16), .int (nI 0), .int (nI (j % 8 + 8 * 0)), .int (nI 103), .retAddr 0]) d_Ve_doLayerPathsLead_34 (Nat.le_of_ble_eq_true rfl) rfl ?_
  refine ew_aload_n d_Ve_doLayerPathsLead_36 rfl ?_
  refine ew_getr (ci := 6) (f := 3) d_Ve_doLayerPathsLead_37 rfl rfl rfl tw_200 ?_
  refine ew_iload d_Ve_doLayerPathsLead_40 rfl ?_
  refine ew_iald (j := 103) d_Ve_doLayerPathsLead_42 rfl (rfl) (by decide) (by decide) ?_
  refine en_callS (As := [.int (M 22 103)]) (st := []) (st1 := [.int (sp_mix (M 22 103) (nI 12289))]) d_Ve_doLayerPathsLead_43 k_Pf_layerLeaf tw_559 tw_453 rfl (Nat.le_of_ble_eq_true rfl) rfl (Nat.le_of_ble_eq_true rfl) rfl rfl (c_Pf_layerLeaf l g _ L M (M 22 103)) rfl ?_
  refine en_istore (ls' := [.ref 43, .int (nI 1), .int (nI 1), .int (nI 16), .int (nI 0), .int (nI (j % 8 + 8 * 0)), .int (nI 103), .int (sp_mix (M 22 103) (nI 12289))]) d_Ve_doLayerPathsLead_46 (Nat.le_of_ble_eq_true rfl) rfl ?_
  refine ew_iload_n d_Ve_doLayerPathsLead_48 rfl ?_
  refine ew_iload d_Ve_doLayerPathsLead_49 rfl ?_
  refine ew_iload d_Ve_doLayerPathsLead_51 rfl ?_
  refine ew_aload_n d_Ve_doLayerPathsLead_53 rfl ?_
  refine ew_getr (ci := 6) (f := 3) d_Ve_doLayerPathsLead_54 rfl rfl rfl tw_200 ?_
  refine ew_iload d_Ve_doLayerPathsLead_57 rfl ?_
  refine ew_iconst (v := nI 1) d_Ve_doLayerPathsLead_59 (by decide) ?_
  refine en_iadd d_Ve_doLayerPathsLead_60 ?_
  refine en_eq rfl (show _ = [.int (nI 104), .ref 22, .int (sp_mix (M 22 103) (nI 12289)), .int (nI (j % 8 + 8 * 0)), .int (nI 16)] from rfl) rfl ?_
  refine en_callS (As := [.int (nI 16), .int (nI (j % 8 + 8 * 0)), .int (sp_mix (M 22 103) (nI 12289)), .ref 22, .int (nI 104)]) (st := []) (st1 := [.int (sp_ro (M 22) 6 (sp_mix (M 22 103) (nI 12289)) (16 + (j % 8 + 8 * 0)) 104)]) d_Ve_doLayerPathsLead_61 k_Tr_rootOf tw_549 tw_550 rfl (Nat.le_of_ble_eq_true rfl) rfl (Nat.le_of_ble_eq_true rfl) rfl rfl (c_Tr_rootOf l g _ L M 16 (j % 8 + 8 * 0) 104 5 (sp_mix (M 22 103) (nI 12289)) (by omega) (by omega) (by omega)) rfl ?_
  refine ew_aload_n d_Ve_doLayerPathsLead_64 rfl ?_
  refine ew_getr (ci := 6) (f := 3) d_Ve_doLayerPathsLead_65 rfl rfl rfl tw_200 ?_
  refine ew_iconst (v := nI 1) d_Ve_doLayerPathsLead_68 (by decide) ?_
  refine ew_iload_n d_Ve_doLayerPathsLead_69 rfl ?_
  refine en_iadd d_Ve_doLayerPathsLead_70 ?_
  refine en_eq rfl (show _ = [.int (nI 2), .ref 22, .int (sp_ro (M 22) 6 (sp_mix (M 22 103) (nI 12289)) (16 + (j % 8 + 8 * 0)) 104)] from rfl) rfl ?_
  refine ew_iald (j := 2) d_Ve_doLayerPathsLead_71 rfl (rfl) (by decide) (by decide) ?_
  refine ew_icmp_eq (tgt := 77) d_Ve_doLayerPathsLead_72 (by decide) (fun h72 => ?_) (fun h72 => ?_)
  · refine en_inc (ls' := [.ref 43, .int (nI 1), .int (nI 1), .int (nI 16), .int (nI 1), .int (nI (j % 8 + 8 * 0)), .int (nI 103), .int (sp_mix (M 22 103) (nI 12289))]) d_Ve_doLayerPathsLead_77 rfl rfl ?_
    refine ew_goto (tgt := 8) d_Ve_doLayerPathsLead_80 (by decide) ?_
    refine ew_iload d_Ve_doLayerPathsLead_8 rfl ?_
    refine ew_iconst (v := nI 2) d_Ve_doLayerPathsLead_10 (by decide) ?_
    refine en_icmp_ge (tgt := 83) d_Ve_doLayerPathsLead_11 (by decide) (by first | with_reducible assumption | with_reducible exact ep_lt _ | with_reducible exact sp_its_lt _ _ _ | with_reducible exact tb_l_rt _ | with_reducible exact tb_l_x _ | with_reducible exact tb_l_o0 _ | with_reducible exact tb_l_o1 _ | with_reducible exact tb_l_va _ | with_reducible exact tb_l_ll _ | with_reducible exact tb_l_cf _ | with_reducible exact tb_l_kf _ | with_reducible exact sp_ts_lt _ _ _ _ | with_reducible exact sp_w_lt _ _ | with_reducible exact sp_cs_lt _ _ _ _ _ | with_reducible exact sp_cb_lt _ _ _ _ _ | with_reducible exact sp_ch_lt _ | with_reducible exact sp_bf_lt _ _ | omega) (by first | with_reducible assumption | with_reducible exact ep_lt _ | with_reducible exact sp_its_lt _ _ _ | with_reducible exact tb_l_rt _ | with_reducible exact tb_l_x _ | with_reducible exact tb_l_o0 _ | with_reducible exact tb_l_o1 _ | with_reducible exact tb_l_va _ | with_reducible exact tb_l_ll _ | with_reducible exact tb_l_cf _ | with_reducible exact tb_l_kf _ | with_reducible exact sp_ts_lt _ _ _ _ | with_reducible exact sp_w_lt _ _ | with_reducible exact sp_cs_lt _ _ _ _ _ | with_reducible exact sp_cb_lt _ _ _ _ _ | with_reducible exact sp_ch_lt _ | with_reducible exact sp_bf_lt _ _ | omega) (fun h11_1 => by exact absurd h11_1 (by decide)) (fun h11_1 => ?_)
    refine ew_aload_n d_Ve_doLayerPathsLead_14 rfl ?_
    refine ew_iload_n d_Ve_doLayerPathsLead_15 rfl ?_
    refine en_callV (As := [.int (nI 1)]) (i := 43) (ci := 6) (st := []) (st1 := [.int (nI j)]) d_Ve_doLayerPathsLead_16 k_Ve_place rfl rfl tw_542 tw_543 tw_544 rfl (Nat.le_of_ble_eq_true rfl) rfl (Nat.le_of_ble_eq_true rfl) rfl rfl (c_Ve_place l g _ L M 1 j (by decide) (hj)) rfl ?_
    refine ew_iload_n d_Ve_doLayerPathsLead_19 rfl ?_
    refine ew_iload d_Ve_doLayerPathsLead_20 rfl ?_
    refine en_callS (As := [.int (nI j), .int (nI 1), .int (nI 1)]) (st := []) (st1 := [.int (nI (j % 8 + 8 * 1))]) d_Ve_doLayerPathsLead_22 k_Pf_layerIndex tw_557 tw_484 rfl (Nat.le_of_ble_eq_true rfl) rfl (Nat.le_of_ble_eq_true rfl) rfl rfl (c_Pf_layerIndex1 l g _ L M j 1 (hj2)) rfl ?_
    refine en_istore (ls' := [.ref 43, .int (nI 1), .int (nI 1), .int (nI 16), .int (nI 1), .int (nI (j % 8 + 8 * 1)), .int (nI 103), .int (sp_mix (M 22 103) (nI 12289))]) d_Ve_doLayerPathsLead_25 (Nat.le_of_ble_eq_true rfl) rfl ?_
    refine ew_iload_n d_Ve_doLayerPathsLead_27 rfl ?_
    refine ew_iload_n d_Ve_doLayerPathsLead_28 rfl ?_
    refine ew_iload d_Ve_doLayerPathsLead_29 rfl ?_
    refine en_callS (As := [.int (nI 1), .int (nI 1), .int (nI 1)]) (st := []) (st1 := [.int (nI 108)]) d_Ve_doLayerPathsLead_31 k_Pf_layerStart tw_558 tw_488 rfl (Nat.le_of_ble_eq_true rfl) rfl (Nat.le_of_ble_eq_true rfl) rfl rfl (c_Pf_layerStart1 l g _ L M (hs) 1 1) rfl ?_
    refine en_istore (ls' := [.ref 43, .int (nI 1), .int (nI 1), .int (nI 16), .int (nI 1), .int (nI (j % 8 + 8 * 1)), .int (nI 108), .int (sp_mix (M 22 103) (nI 12289))]) d_Ve_doLayerPathsLead_34 (Nat.le_of_ble_eq_true rfl) rfl ?_
    refine ew_aload_n d_Ve_doLayerPathsLead_36 rfl ?_
    refine ew_getr (ci := 6) (f := 3) d_Ve_doLayerPathsLead_37 rfl rfl rfl tw_200 ?_
    refine ew_iload d_Ve_doLayerPathsLead_40 rfl ?_
    refine ew_iald (j := 108) d_Ve_doLayerPathsLead_42 rfl (rfl) (by decide) (by decide) ?_
    refine en_callS (As := [.int (M 22 108)]) (st := []) (st1 := [.int (sp_mix (M 22 108) (nI 12289))]) d_Ve_doLayerPathsLead_43 k_Pf_layerLeaf tw_559 tw_453 rfl (Nat.le_of_ble_eq_true rfl) rfl (Nat.le_of_ble_eq_true rfl) rfl rfl (c_Pf_layerLeaf l g _ L M (M 22 108)) rfl ?_
    refine en_istore (ls' := [.ref 43, .int (nI 1), .int (nI 1), .int (nI 16), .int (nI 1), .int (nI (j % 8 + 8 * 1)), .int (nI 108), .int (sp_mix (M 22 108) (nI 12289))]) d_Ve_doLayerPathsLead_46 (Nat.le_of_ble_eq_true rfl) rfl ?_
    refine ew_iload_n d_Ve_doLayerPathsLead_48 rfl ?_
    refine ew_iload d_Ve_doLayerPathsLead_49 rfl ?_
    refine ew_iload d_Ve_doLayerPathsLead_51 rfl ?_
    refine ew_aload_n d_Ve_doLayerPathsLead_53 rfl ?_
    refine ew_getr (ci := 6) (f := 3) d_Ve_doLayerPathsLead_54 rfl rfl rfl tw_200 ?_
    refine ew_iload d_Ve_doLayerPathsLead_57 rfl ?_
    refine ew_iconst (v := nI 1) d_Ve_doLayerPathsLead_59 (by decide) ?_
    refine en_iadd d_Ve_doLayerPathsLead_60 ?_
    refine en_eq rfl (show _ = [.int (nI 109), .ref 22, .int (sp_mix (M 22 108) (nI 12289)), .int (nI (j % 8 + 8 * 1)), .int (nI 16)] from rfl) rfl ?_
    refine en_callS (As := [.int (nI 16), .int (nI (j % 8 + 8 * 1)), .int (sp_mix (M 22 108) (nI 12289)), .ref 22, .int (nI 109)]) (st := []) (st1 := [.int (sp_ro (M 22) 6 (sp_mix (M 22 108) (nI 12289)) (16 + (j % 8 + 8 * 1)) 109)]) d_Ve_doLayerPathsLead_61 k_Tr_rootOf tw_549 tw_550 rfl (Nat.le_of_ble_eq_true rfl) rfl (Nat.le_of_ble_eq_true rfl) rfl rfl (c_Tr_rootOf l g _ L M 16 (j % 8 + 8 * 1) 109 5 (sp_mix (M 22 108) (nI 12289)) (by omega) (by omega) (by omega)) rfl ?_
    refine ew_aload_n d_Ve_doLayerPathsLead_64 rfl ?_
    refine ew_getr (ci := 6) (f := 3) d_Ve_doLayerPathsLead_65 rfl rfl rfl tw_200 ?_
    refine ew_iconst (v := nI 1) d_Ve_doLayerPathsLead_68 (by decide) ?_
    refine ew_iload_n d_Ve_doLayerPathsLead_69 rfl ?_
    refine en_iadd d_Ve_doLayerPathsLead_70 ?_
    refine en_eq rfl (show _ = [.int (nI 2), .ref 22, .int (sp_ro (M 22) 6 (sp_mix (M 22 108) (nI 12289)) (16 + (j % 8 + 8 * 1)) 109)] from rfl) rfl ?_
    refine ew_iald (j := 2) d_Ve_doLayerPathsLead_71 rfl (rfl) (by decide) (by decide) ?_
    refine ew_icmp_eq (tgt := 77) d_Ve_doLayerPathsLead_72 (by decide) (fun h72_1 => ?_) (fun h72_1 => ?_)
    · refine en_inc (ls' := [.ref 43, .int (nI 1), .int (nI 1), .int (nI 16), .int (nI 2), .int (nI (j % 8 + 8 * 1)), .int (nI 108), .int (sp_mix (M 22 108) (nI 12289))]) d_Ve_doLayerPathsLead_77 rfl rfl ?_
      refine ew_goto (tgt := 8) d_Ve_doLayerPathsLead_80 (by decide) ?_
      refine ew_iload d_Ve_doLayerPathsLead_8 rfl ?_
      refine ew_iconst (v := nI 2) d_Ve_doLayerPathsLead_10 (by decide) ?_
      refine en_icmp_ge (tgt := 83) d_Ve_doLayerPathsLead_11 (by decide) (by first | with_reducible assumption | with_reducible exact ep_lt _ | with_reducible exact sp_its_lt _ _ _ | with_reducible exact tb_l_rt _ | with_reducible exact tb_l_x _ | with_reducible exact tb_l_o0 _ | with_reducible exact tb_l_o1 _ | with_reducible exact tb_l_va _ | with_reducible exact tb_l_ll _ | with_reducible exact tb_l_cf _ | with_reducible exact tb_l_kf _ | with_reducible exact sp_ts_lt _ _ _ _ | with_reducible exact sp_w_lt _ _ | with_reducible exact sp_cs_lt _ _ _ _ _ | with_reducible exact sp_cb_lt _ _ _ _ _ | with_reducible exact sp_ch_lt _ | with_reducible exact sp_bf_lt _ _ | omega) (by first | with_reducible assumption | with_reducible exact ep_lt _ | with_reducible exact sp_its_lt _ _ _ | with_reducible exact tb_l_rt _ | with_reducible exact tb_l_x _ | with_reducible exact tb_l_o0 _ | with_reducible exact tb_l_o1 _ | with_reducible exact tb_l_va _ | with_reducible exact tb_l_ll _ | with_reducible exact tb_l_cf _ | with_reducible exact tb_l_kf _ | with_reducible exact sp_ts_lt _ _ _ _ | with_reducible exact sp_w_lt _ _ | with_reducible exact sp_cs_lt _ _ _ _ _ | with_reducible exact sp_cb_lt _ _ _ _ _ | with_reducible exact sp_ch_lt _ | with_reducible exact sp_bf_lt _ _ | omega) (fun h11_2 => ?_) (fun h11_2 => by exact absurd h11_2 (by decide))
      refine ew_iconst (v := nI 1) d_Ve_doLayerPathsLead_83 (by decide) ?_
      exact ew_zret d_Ve_doLayerPathsLead_84 rfl (by decide) (⟨by rw [show sp_vl11 (M 22) j = true from by (unfold sp_vl11; rw [show (decide (sp_ro (M 22) 6 (sp_mix (M 22 103) (nI 12289)) (16 + (j % 8 + 8 * 0)) 104 = M 22 2)) = true from decide_eq_true h72, show (decide (sp_ro (M 22) 6 (sp_mix (M 22 108) (nI 12289)) (16 + (j % 8 + 8 * 1)) 109 = M 22 2)) = true from decide_eq_true h72_1]; first | rfl | done)]; rfl, rfl, rfl⟩)
    · refine ew_iconst (v := nI 0) d_Ve_doLayerPathsLead_75 (by decide) ?_
      exact ew_zret d_Ve_doLayerPathsLead_76 rfl (by decide) (⟨by rw [show sp_vl11 (M 22) j = false from by (unfold sp_vl11; rw [show (decide (sp_ro (M 22) 6 (sp_mix (M 22 103) (nI 12289)) (16 + (j % 8 + 8 * 0)) 104 = M 22 2)) = true from decide_eq_true h72, show (decide (sp_ro (M 22) 6 (sp_mix (M 22 108) (nI 12289)) (16 + (j % 8 + 8 * 1)) 109 = M 22 2)) = false from decide_eq_false h72_1]; first | rfl | done)]; rfl, rfl, rfl⟩)
  · refine ew_iconst (v := nI 0) d_Ve_doLayerPathsLead_75 (by decide) ?_
    exact ew_zret d_Ve_doLayerPathsLead_76 rfl (by decide) (⟨by rw [show sp_vl11 (M 22) j = false from by (unfold sp_vl11; rw [show (decide (sp_ro (M 22) 6 (sp_mix (M 22 103) (nI 12289)) (16 + (j % 8 + 8 * 0)) 104 = M 22 2)) = false from decide_eq_false h72]; first | rfl | done)]; rfl, rfl, rfl⟩)
set_option maxRecDepth 100000 in
theorem c_Ve_doLayerPathsLead12 (l : Launch) (g : ew_G) (d L : Nat) (M : ew_M) (hs : sp_st M) (j : Nat) (hj : M 46 1 = nI j) (hj2 : j < 16) :
    Ew l g (d + 3) 0 0 m_Ve_doLayerPathsLead 0 [.ref 43, .int (nI 1), .int (nI 2), .retAddr 0, .retAddr 0, .retAddr 0, .retAddr 0, .retAddr 0] [] (ew_SH L) M (ew_q (some (.int (ew_b (sp_vl12 (M 22) j)))) (ew_SH L) M) := by
  refine ew_iload_n d_Ve_doLayerPathsLead_0 rfl ?_
  refine en_callS (As := [.int (nI 2)]) (st := []) (st1 := [.int (nI 8)]) d_Ve_doLayerPathsLead_1 k_Pf_layerSize tw_556 tw_162 rfl (Nat.le_of_ble_eq_true rfl) rfl (Nat.le_of_ble_eq_true rfl) rfl rfl (c_Pf_layerSize2 l g _ L M) rfl ?_
  refine en_istore_n (ls' := [.ref 43, .int (nI 1), .int (nI 2), .int (nI 8), .retAddr 0, .retAddr 0, .retAddr 0, .retAddr 0]) d_Ve_doLayerPathsLead_4 (Nat.le_of_ble_eq_true rfl) rfl ?_
  refine ew_iconst (v := nI 0) d_Ve_doLayerPathsLead_5 (by decide) ?_
  refine en_istore (ls' := [.ref 43, .int (nI 1), .int (nI 2), .int (nI 8), .int (nI 0), .retAddr 0, .retAddr 0, .retAddr 0]) d_Ve_doLayerPathsLead_6 (Nat.le_of_ble_eq_true rfl) rfl ?_
  refine ew_iload d_Ve_doLayerPathsLead_8 rfl ?_
  refine ew_iconst (v := nI 2) d_Ve_doLayerPathsLead_10 (by decide) ?_
  refine en_icmp_ge (tgt := 83) d_Ve_doLayerPathsLead_11 (by decide) (by first | with_reducible assumption | with_reducible exact ep_lt _ | with_reducible exact sp_its_lt _ _ _ | with_reducible exact tb_l_rt _ | with_reducible exact tb_l_x _ | with_reducible exact tb_l_o0 _ | with_reducible exact tb_l_o1 _ | with_reducible exact tb_l_va _ | with_reducible exact tb_l_ll _ | with_reducible exact tb_l_cf _ | with_reducible exact tb_l_kf _ | with_reducible exact sp_ts_lt _ _ _ _ | with_reducible exact sp_w_lt _ _ | with_reducible exact sp_cs_lt _ _ _ _ _ | with_reducible exact sp_cb_lt _ _ _ _ _ | with_reducible exact sp_ch_lt _ | with_reducible exact sp_bf_lt _ _ | omega) (by first | with_reducible assumption | with_reducible exact ep_lt _ | with_reducible exact sp_its_lt _ _ _ | with_reducible exact tb_l_rt _ | with_reducible exact tb_l_x _ | with_reducible exact tb_l_o0 _ | with_reducible exact tb_l_o1 _ | with_reducible exact tb_l_va _ | with_reducible exact tb_l_ll _ | with_reducible exact tb_l_cf _ | with_reducible exact tb_l_kf _ | with_reducible exact sp_ts_lt _ _ _ _ | with_reducible exact sp_w_lt _ _ | with_reducible exact sp_cs_lt _ _ _ _ _ | with_reducible exact sp_cb_lt _ _ _ _ _ | with_reducible exact sp_ch_lt _ | with_reducible exact sp_bf_lt _ _ | omega) (fun h11 => by exact absurd h11 (by decide)) (fun h11 => ?_)
  refine ew_aload_n d_Ve_doLayerPathsLead_14 rfl ?_
  refine ew_iload_n d_Ve_doLayerPathsLead_15 rfl ?_
  refine en_callV (As := [.int (nI 1)]) (i := 43) (ci := 6) (st := []) (st1 := [.int (nI j)]) d_Ve_doLayerPathsLead_16 k_Ve_place rfl rfl tw_542 tw_543 tw_544 rfl (Nat.le_of_ble_eq_true rfl) rfl (Nat.le_of_ble_eq_true rfl) rfl rfl (c_Ve_place l g _ L M 1 j (by decide) (hj)) rfl ?_
  refine ew_iload_n d_Ve_doLayerPathsLead_19 rfl ?_
  refine ew_iload d_Ve_doLayerPathsLead_20 rfl ?_
  refine en_callS (As := [.int (nI j), .int (nI 2), .int (nI 0)]) (st := []) (st1 := [.int (nI (j % 4 + 4 * 0))]) d_Ve_doLayerPathsLead_22 k_Pf_layerIndex tw_557 tw_484 rfl (Nat.le_of_ble_eq_true rfl) rfl (Nat.le_of_ble_eq_true rfl) rfl rfl (c_Pf_layerIndex2 l g _ L M j 0 (hj2)) rfl ?_
  refine en_istore (ls' := [.ref 43, .int (nI 1), .int (nI 2), .int (nI 8), .int (nI 0), .int (nI (j % 4 + 4 * 0)), .retAddr 0, .retAddr 0]) d_Ve_doLayerPathsLead_25 (Nat.le_of_ble_eq_true rfl) rfl ?_
  refine ew_iload_n d_Ve_doLayerPathsLead_27 rfl ?_
  refine ew_iload_n d_Ve_doLayerPathsLead_28 rfl ?_
  refine ew_iload d_Ve_doLayerPathsLead_29 rfl ?_
  refine en_callS (As := [.int (nI 1), .int (nI 2), .int (nI 0)]) (st := []) (st1 := [.int (nI 113)]) d_Ve_doLayerPathsLead_31 k_Pf_layerStart tw_558 tw_488 rfl (Nat.le_of_ble_eq_true rfl) rfl (Nat.le_of_ble_eq_true rfl) rfl rfl (c_Pf_layerStart2 l g _ L M (hs) 1 0) rfl ?_
  refine en_istore (ls' := [.ref 43, .int (nI 1), .int (nI 2), .int (nI 8), .int (nI 0), .int (nI (j % 4 + 4 * 0)), .int (nI 113), .retAddr 0]) d_Ve_doLayerPathsLead_34 (Nat.le_of_ble_eq_true rfl) rfl ?_
  refine ew_aload_n d_Ve_doLayerPathsLead_36 rfl ?_
  refine ew_getr (ci := 6) (f := 3) d_Ve_doLayerPathsLead_37 rfl rfl rfl tw_200 ?_
  refine ew_iload d_Ve_doLayerPathsLead_40 rfl ?_
  refine ew_iald (j := 113) d_Ve_doLayerPathsLead_42 rfl (rfl) (by decide) (by decide) ?_
  refine en_callS (As := [.int (M 22 113)]) (st := []) (st1 := [.int (sp_mix (M 22 113) (nI 12289))]) d_Ve_doLayerPathsLead_43 k_Pf_layerLeaf tw_559 tw_453 rfl (Nat.le_of_ble_eq_true rfl) rfl (Nat.le_of_ble_eq_true rfl) rfl rfl (c_Pf_layerLeaf l g _ L M (M 22 113)) rfl ?_
  refine en_istore (ls' := [.ref 43, .int (nI 1), .int (nI 2), .int (nI 8), .int (nI 0), .int (nI (j % 4 + 4 * 0)), .int (nI 113), .int (sp_mix (M 22 113) (nI 12289))]) d_Ve_doLayerPathsLead_46 (Nat.le_of_ble_eq_true rfl) rfl ?_
  refine ew_iload_n d_Ve_doLayerPathsLead_48 rfl ?_
  refine ew_iload d_Ve_doLayerPathsLead_49 rfl ?_
  refine ew_iload d_Ve_doLayerPathsLead_51 rfl ?_
  refine ew_aload_n d_Ve_doLayerPathsLead_53 rfl ?_
  refine ew_getr (ci := 6) (f := 3) d_Ve_doLayerPathsLead_54 rfl rfl rfl tw_200 ?_
  refine ew_iload d_Ve_doLayerPathsLead_57 rfl ?_
  refine ew_iconst (v := nI 1) d_Ve_doLayerPathsLead_59 (by decide) ?_
  refine en_iadd d_Ve_doLayerPathsLead_60 ?_
  refine en_eq rfl (show _ = [.int (nI 114), .ref 22, .int (sp_mix (M 22 113) (nI 12289)), .int (nI (j % 4 + 4 * 0)), .int (nI 8)] from rfl) rfl ?_
  refine en_callS (As := [.int (nI 8), .int (nI (j % 4 + 4 * 0)), .int (sp_mix (M 22 113) (nI 12289)), .ref 22, .int (nI 114)]) (st := []) (st1 := [.int (sp_ro (M 22) 6 (sp_mix (M 22 113) (nI 12289)) (8 + (j % 4 + 4 * 0)) 114)]) d_Ve_doLayerPathsLead_61 k_Tr_rootOf tw_549 tw_550 rfl (Nat.le_of_ble_eq_true rfl) rfl (Nat.le_of_ble_eq_true rfl) rfl rfl (c_Tr_rootOf l g _ L M 8 (j % 4 + 4 * 0) 114 4 (sp_mix (M 22 113) (nI 12289)) (by omega) (by omega) (by omega)) rfl ?_
  refine ew_aload_n d_Ve_doLayerPathsLead_64 rfl ?_
  refine ew_getr (ci := 6) (f := 3) d_Ve_doLayerPathsLead_65 rfl rfl rfl tw_200 ?_
  refine ew_iconst (v := nI 1) d_Ve_doLayerPathsLead_68 (by decide) ?_
  refine ew_iload_n d_Ve_doLayerPathsLead_69 rfl ?_
  refine en_iadd d_Ve_doLayerPathsLead_70 ?_
  refine en_eq rfl (show _ = [.int (nI 3), .ref 22, .int (sp_ro (M 22) 6 (sp_mix (M 22 113) (nI 12289)) (8 + (j % 4 + 4 * 0)) 114)] from rfl) rfl ?_
  refine ew_iald (j := 3) d_Ve_doLayerPathsLead_71 rfl (rfl) (by decide) (by decide) ?_
  refine ew_icmp_eq (tgt := 77) d_Ve_doLayerPathsLead_72 (by decide) (fun h72 => ?_) (fun h72 => ?_)
  · refine en_inc (ls' := [.ref 43, .int (nI 1), .int (nI 2), .int (nI 8), .int (nI 1), .int (nI (j % 4 + 4 * 0)), .int (nI 113), .int (sp_mix (M 22 113) (nI 12289))]) d_Ve_doLayerPathsLead_77 rfl rfl ?_
    refine ew_goto (tgt := 8) d_Ve_doLayerPathsLead_80 (by decide) ?_
    refine ew_iload d_Ve_doLayerPathsLead_8 rfl ?_
    refine ew_iconst (v := nI 2) d_Ve_doLayerPathsLead_10 (by decide) ?_
    refine en_icmp_ge (tgt := 83) d_Ve_doLayerPathsLead_11 (by decide) (by first | with_reducible assumption | with_reducible exact ep_lt _ | with_reducible exact sp_its_lt _ _ _ | with_reducible exact tb_l_rt _ | with_reducible exact tb_l_x _ | with_reducible exact tb_l_o0 _ | with_reducible exact tb_l_o1 _ | with_reducible exact tb_l_va _ | with_reducible exact tb_l_ll _ | with_reducible exact tb_l_cf _ | with_reducible exact tb_l_kf _ | with_reducible exact sp_ts_lt _ _ _ _ | with_reducible exact sp_w_lt _ _ | with_reducible exact sp_cs_lt _ _ _ _ _ | with_reducible exact sp_cb_lt _ _ _ _ _ | with_reducible exact sp_ch_lt _ | with_reducible exact sp_bf_lt _ _ | omega) (by first | with_reducible assumption | with_reducible exact ep_lt _ | with_reducible exact sp_its_lt _ _ _ | with_reducible exact tb_l_rt _ | with_reducible exact tb_l_x _ | with_reducible exact tb_l_o0 _ | with_reducible exact tb_l_o1 _ | with_reducible exact tb_l_va _ | with_reducible exact tb_l_ll _ | with_reducible exact tb_l_cf _ | with_reducible exact tb_l_kf _ | with_reducible exact sp_ts_lt _ _ _ _ | with_reducible exact sp_w_lt _ _ | with_reducible exact sp_cs_lt _ _ _ _ _ | with_reducible exact sp_cb_lt _ _ _ _ _ | with_reducible exact sp_ch_lt _ | with_reducible exact sp_bf_lt _ _ | omega) (fun h11_1 => by exact absurd h11_1 (by decide)) (fun h11_1 => ?_)
    refine ew_aload_n d_Ve_doLayerPathsLead_14 rfl ?_
    refine ew_iload_n d_Ve_doLayerPathsLead_15 rfl ?_
    refine en_callV (As := [.int (nI 1)]) (i := 43) (ci := 6) (st := []) (st1 := [.int (nI j)]) d_Ve_doLayerPathsLead_16 k_Ve_place rfl rfl tw_542 tw_543 tw_544 rfl (Nat.le_of_ble_eq_true rfl) rfl (Nat.le_of_ble_eq_true rfl) rfl rfl (c_Ve_place l g _ L M 1 j (by decide) (hj)) rfl ?_
    refine ew_iload_n d_Ve_doLayerPathsLead_19 rfl ?_
    refine ew_iload d_Ve_doLayerPathsLead_20 rfl ?_
    refine en_callS (As := [.int (nI j), .int (nI 2), .int (nI 1)]) (st := []) (st1 := [.int (nI (j % 4 + 4 * 1))]) d_Ve_doLayerPathsLead_22 k_Pf_layerIndex tw_557 tw_484 rfl (Nat.le_of_ble_eq_true rfl) rfl (Nat.le_of_ble_eq_true rfl) rfl rfl (c_Pf_layerIndex2 l g _ L M j 1 (hj2)) rfl ?_
    refine en_istore (ls' := [.ref 43, .int (nI 1), .int (nI 2), .int (nI 8), .int (nI 1), .int (nI (j % 4 + 4 * 1)), .int (nI 113), .int (sp_mix (M 22 113) (nI 12289))]) d_Ve_doLayerPathsLead_25 (Nat.le_of_ble_eq_true rfl) rfl ?_
    refine ew_iload_n d_Ve_doLayerPathsLead_27 rfl ?_
    refine ew_iload_n d_Ve_doLayerPathsLead_28 rfl ?_
    refine ew_iload d_Ve_doLayerPathsLead_29 rfl ?_
    refine en_callS (As := [.int (nI 1), .int (nI 2), .int (nI 1)]) (st := []) (st1 := [.int (nI 117)]) d_Ve_doLayerPathsLead_31 k_Pf_layerStart tw_558 tw_488 rfl (Nat.le_of_ble_eq_true rfl) rfl (Nat.le_of_ble_eq_true rfl) rfl rfl (c_Pf_layerStart2 l g _ L M (hs) 1 1) rfl ?_
    refine en_istore (ls' := [.ref 43, .int (nI 1), .int (nI 2), .int (nI 8), .int (nI 1), .int (nI (j % 4 + 4 * 1)), .int (nI 117), .int (sp_mix (M 22 113) (nI 12289))]) d_Ve_doLayerPathsLead_34 (Nat.le_of_ble_eq_true rfl) rfl ?_
    refine ew_aload_n d_Ve_doLayerPathsLead_36 rfl ?_
    refine ew_getr (ci := 6) (f := 3) d_Ve_doLayerPathsLead_37 rfl rfl rfl tw_200 ?_
    refine ew_iload d_Ve_doLayerPathsLead_40 rfl ?_
    refine ew_iald (j := 117) d_Ve_doLayerPathsLead_42 rfl (rfl) (by decide) (by decide) ?_
    refine en_callS (As := [.int (M 22 117)]) (st := []) (st1 := [.int (sp_mix (M 22 117) (nI 12289))]) d_Ve_doLayerPathsLead_43 k_Pf_layerLeaf tw_559 tw_453 rfl (Nat.le_of_ble_eq_true rfl) rfl (Nat.le_of_ble_eq_true rfl) rfl rfl (c_Pf_layerLeaf l g _ L M (M 22 117)) rfl ?_
    refine en_istore (ls' := [.ref 43, .int (nI 1), .int (nI 2), .int (nI 8), .int (nI 1), .int (nI (j % 4 + 4 * 1)), .int (nI 117), .int (sp_mix (M 22 117) (nI 12289))]) d_Ve_doLayerPathsLead_46 (Nat.le_of_ble_eq_true rfl) rfl ?_
    refine ew_iload_n d_Ve_doLayerPathsLead_48 rfl ?_
    refine ew_iload d_Ve_doLayerPathsLead_49 rfl ?_
    refine ew_iload d_Ve_doLayerPathsLead_51 rfl ?_
    refine ew_aload_n d_Ve_doLayerPathsLead_53 rfl ?_
    refine ew_getr (ci := 6) (f := 3) d_Ve_doLayerPathsLead_54 rfl rfl rfl tw_200 ?_
    refine ew_iload d_Ve_doLayerPathsLead_57 rfl ?_
    refine ew_iconst (v := nI 1) d_Ve_doLayerPathsLead_59 (by decide) ?_
    refine en_iadd d_Ve_doLayerPathsLead_60 ?_
    refine en_eq rfl (show _ = [.int (nI 118), .ref 22, .int (sp_mix (M 22 117) (nI 12289)), .int (nI (j % 4 + 4 * 1)), .int (nI 8)] from rfl) rfl ?_
    refine en_callS (As := [.int (nI 8), .int (nI (j % 4 + 4 * 1)), .int (sp_mix (M 22 117) (nI 12289)), .ref 22, .int (nI 118)]) (st := []) (st1 := [.int (sp_ro (M 22) 6 (sp_mix (M 22 117) (nI 12289)) (8 + (j % 4 + 4 * 1)) 118)]) d_Ve_doLayerPathsLead_61 k_Tr_rootOf tw_549 tw_550 rfl (Nat.le_of_ble_eq_true rfl) rfl (Nat.le_of_ble_eq_true rfl) rfl rfl (c_Tr_rootOf l g _ L M 8 (j % 4 + 4 * 1) 118 4 (sp_mix (M 22 117) (nI 12289)) (by omega) (by omega) (by omega)) rfl ?_
    refine ew_aload_n d_Ve_doLayerPathsLead_64 rfl ?_
    refine ew_getr (ci := 6) (f := 3) d_Ve_doLayerPathsLead_65 rfl rfl rfl tw_200 ?_
    refine ew_iconst (v := nI 1) d_Ve_doLayerPathsLead_68 (by decide) ?_
    refine ew_iload_n d_Ve_doLayerPathsLead_69 rfl ?_
    refine en_iadd d_Ve_doLayerPathsLead_70 ?_
    refine en_eq rfl (show _ = [.int (nI 3), .ref 22, .int (sp_ro (M 22) 6 (sp_mix (M 22 117) (nI 12289)) (8 + (j % 4 + 4 * 1)) 118)] from rfl) rfl ?_
    refine ew_iald (j := 3) d_Ve_doLayerPathsLead_71 rfl (rfl) (by decide) (by decide) ?_
    refine ew_icmp_eq (tgt := 77) d_Ve_doLayerPathsLead_72 (by decide) (fun h72_1 => ?_) (fun h72_1 => ?_)
    · refine en_inc (ls' := [.ref 43, .int (nI 1), .int (nI 2), .int (nI 8), .int (nI 2), .int (nI (j % 4 + 4 * 1)), .int (nI 117), .int (sp_mix (M 22 117) (nI 12289))]) d_Ve_doLayerPathsLead_77 rfl rfl ?_
      refine ew_goto (tgt := 8) d_Ve_doLayerPathsLead_80 (by decide) ?_
      refine ew_iload d_Ve_doLayerPathsLead_8 rfl ?_
      refine ew_iconst (v := nI 2) d_Ve_doLayerPathsLead_10 (by decide) ?_
      refine en_icmp_ge (tgt := 83) d_Ve_doLayerPathsLead_11 (by decide) (by first | with_reducible assumption | with_reducible exact ep_lt _ | with_reducible exact sp_its_lt _ _ _ | with_reducible exact tb_l_rt _ | with_reducible exact tb_l_x _ | with_reducible exact tb_l_o0 _ | with_reducible exact tb_l_o1 _ | with_reducible exact tb_l_va _ | with_reducible exact tb_l_ll _ | with_reducible exact tb_l_cf _ | with_reducible exact tb_l_kf _ | with_reducible exact sp_ts_lt _ _ _ _ | with_reducible exact sp_w_lt _ _ | with_reducible exact sp_cs_lt _ _ _ _ _ | with_reducible exact sp_cb_lt _ _ _ _ _ | with_reducible exact sp_ch_lt _ | with_reducible exact sp_bf_lt _ _ | omega) (by first | with_reducible assumption | with_reducible exact ep_lt _ | with_reducible exact sp_its_lt _ _ _ | with_reducible exact tb_l_rt _ | with_reducible exact tb_l_x _ | with_reducible exact tb_l_o0 _ | with_reducible exact tb_l_o1 _ | with_reducible exact tb_l_va _ | with_reducible exact tb_l_ll _ | with_reducible exact tb_l_cf _ | with_reducible exact tb_l_kf _ | with_reducible exact sp_ts_lt _ _ _ _ | with_reducible exact sp_w_lt _ _ | with_reducible exact sp_cs_lt _ _ _ _ _ | with_reducible exact sp_cb_lt _ _ _ _ _ | with_reducible exact sp_ch_lt _ | with_reducible exact sp_bf_lt _ _ | omega) (fun h11_2 => ?_) (fun h11_2 => by exact absurd h11_2 (by decide))
      refine ew_iconst (v := nI 1) d_Ve_doLayerPathsLead_83 (by decide) ?_
      exact ew_zret d_Ve_doLayerPathsLead_84 rfl (by decide) (⟨by rw [show sp_vl12 (M 22) j = true from by (unfold sp_vl12; rw [show (decide (sp_ro (M 22) 6 (sp_mix (M 22 113) (nI 12289)) (8 + (j % 4 + 4 * 0)) 114 = M 22 3)) = true from decide_eq_true h72, show (decide (sp_ro (M 22) 6 (sp_mix (M 22 117) (nI 12289)) (8 + (j % 4 + 4 * 1)) 118 = M 22 3)) = true from decide_eq_true h72_1]; first | rfl | done)]; rfl, rfl, rfl⟩)
    · refine ew_iconst (v := nI 0) d_Ve_doLayerPathsLead_75 (by decide) ?_
      exact ew_zret d_Ve_doLayerPathsLead_76 rfl (by decide) (⟨by rw [show sp_vl12 (M 22) j = false from by (unfold sp_vl12; rw [show (decide (sp_ro (M 22) 6 (sp_mix (M 22 113) (nI 12289)) (8 + (j % 4 + 4 * 0)) 114 = M 22 3)) = true from decide_eq_true h72, show (decide (sp_ro (M 22) 6 (sp_mix (M 22 117) (nI 12289)) (8 + (j % 4 + 4 * 1)) 118 = M 22 3)) = false from decide_eq_false h72_1]; first | rfl | done)]; rfl, rfl, rfl⟩)
  · refine ew_iconst (v := nI 0) d_Ve_doLayerPathsLead_75 (by decide) ?_
    exact ew_zret d_Ve_doLayerPathsLead_76 rfl (by decide) (⟨by rw [show sp_vl12 (M 22) j = false from by (unfold sp_vl12; rw [show (decide (sp_ro (M 22) 6 (sp_mix (M 22 113) (nI 12289)) (8 + (j % 4 + 4 * 0)) 114 = M 22 3)) = false from decide_eq_false h72]; first | rfl | done)]; rfl, rfl, rfl⟩)
set_option maxRecDepth 100000 in
theorem c_Ve_isComposed10 (l : Launch) (g : ew_G) (d L : Nat) (M : ew_M) (ρ : sp_R) (hr : sp_ru ρ M) (hT : sp_tab M) (hs : sp_st M) (h16 : M 16 0 = nI 1) (fn : Nat → Nat) (hfn : sp_fnok (M 22) fn) (A : Nat) (hA : M 44 1 = nI A) (hA2 : A < 12289) (j : Nat) (hj : M 46 1 = nI j) (hj2 : j < 16) :
    Ew l g (d + 3) 0 0 m_Ve_isComposed 0 [.ref 43, .int (nI 1), .int (nI 0), .retAddr 0, .retAddr 0, .retAddr 0] [] (ew_SH L) M (ew_q (some (.int (ew_b (sp_vo1 ρ fn j A 0)))) (ew_SH L) (sp_rd M 16 (nI (fn 63)) (nI (fn 64)) (nI (fn 70)) (nI (fn 71)))) := by
  refine ew_iload_n d_Ve_isComposed_0 rfl ?_
  refine ew_iconst (v := nI 2) d_Ve_isComposed_1 (by decide) ?_
  refine ew_iload_n d_Ve_isComposed_2 rfl ?_
  refine en_imul d_Ve_isComposed_3 ?_
  refine en_eq rfl (show _ = [.int (nI 0), .int (nI 1)] from rfl) rfl ?_
  refine en_callS (As := [.int (nI 1), .int (nI 0)]) (st := []) (st1 := [.int (nI 63)]) d_Ve_isComposed_4 k_Pf_columnStart tw_547 tw_473 rfl (Nat.le_of_ble_eq_true rfl) rfl (Nat.le_of_ble_eq_true rfl) rfl rfl (c_Pf_columnStart l g _ L M 1 0) rfl ?_
  refine en_istore_n (ls' := [.ref 43, .int (nI 1), .int (nI 0), .int (nI 63), .retAddr 0, .retAddr 0]) d_Ve_isComposed_7 (Nat.le_of_ble_eq_true rfl) rfl ?_
  refine ew_iload_n d_Ve_isComposed_8 rfl ?_
  refine ew_iconst (v := nI 2) d_Ve_isComposed_9 (by decide) ?_
  refine ew_iload_n d_Ve_isComposed_10 rfl ?_
  refine en_imul d_Ve_isComposed_11 ?_
  refine en_eq rfl (show _ = [.int (nI 0), .int (nI 1)] from rfl) rfl ?_
  refine ew_iconst (v := nI 1) d_Ve_isComposed_12 (by decide) ?_
  refine en_iadd d_Ve_isComposed_13 ?_
  refine en_eq rfl (show _ = [.int (nI 1), .int (nI 1)] from rfl) rfl ?_
  refine en_callS (As := [.int (nI 1), .int (nI 1)]) (st := []) (st1 := [.int (nI 70)]) d_Ve_isComposed_14 k_Pf_columnStart tw_547 tw_473 rfl (Nat.le_of_ble_eq_true rfl) rfl (Nat.le_of_ble_eq_true rfl) rfl rfl (c_Pf_columnStart l g _ L M 1 1) rfl ?_
  refine en_istore (ls' := [.ref 43, .int (nI 1), .int (nI 0), .int (nI 63), .int (nI 70), .retAddr 0]) d_Ve_isComposed_17 (Nat.le_of_ble_eq_true rfl) rfl ?_
  refine ew_aload_n d_Ve_isComposed_19 rfl ?_
  refine ew_getr (ci := 6) (f := 1) d_Ve_isComposed_20 rfl rfl rfl tw_198 ?_
  refine ew_aload_n d_Ve_isComposed_23 rfl ?_
  refine ew_getr (ci := 6) (f := 3) d_Ve_isComposed_24 rfl rfl rfl tw_200 ?_
  refine ew_iload_n d_Ve_isComposed_27 rfl ?_
  refine ew_iald (j := 63) d_Ve_isComposed_28 rfl (rfl) (by decide) (by decide) ?_
  refine en_eq (st' := [.int (nI (fn 63)), .ref 10]) rfl (by rw [show (M 22 63) = (nI (fn 63)) from (hfn 63 (by decide)).1]) rfl ?_
  refine ew_aload_n d_Ve_isComposed_29 rfl ?_
  refine ew_getr (ci := 6) (f := 3) d_Ve_isComposed_30 rfl rfl rfl tw_200 ?_
  refine ew_iload_n d_Ve_isComposed_33 rfl ?_
  refine ew_iconst (v := nI 1) d_Ve_isComposed_34 (by decide) ?_
  refine en_iadd d_Ve_isComposed_35 ?_
  refine en_eq rfl (show _ = [.int (nI 64), .ref 22, .int (nI (fn 63)), .ref 10] from rfl) rfl ?_
  refine ew_iald (j := 64) d_Ve_isComposed_36 rfl (rfl) (by decide) (by decide) ?_
  refine en_eq (st' := [.int (nI (fn 64)), .int (nI (fn 63)), .ref 10]) rfl (by rw [show (M 22 64) = (nI (fn 64)) from (hfn 64 (by decide)).1]) rfl ?_
  refine ew_aload_n d_Ve_isComposed_37 rfl ?_
  refine ew_getr (ci := 6) (f := 3) d_Ve_isComposed_38 rfl rfl rfl tw_200 ?_
  refine ew_iload d_Ve_isComposed_41 rfl ?_
  refine ew_iald (j := 70) d_Ve_isComposed_43 rfl (rfl) (by decide) (by decide) ?_
  refine en_eq (st' := [.int (nI (fn 70)), .int (nI (fn 64)), .int (nI (fn 63)), .ref 10]) rfl (by rw [show (M 22 70) = (nI (fn 70)) from (hfn 70 (by decide)).1]) rfl ?_
  refine ew_aload_n d_Ve_isComposed_44 rfl ?_
  refine ew_getr (ci := 6) (f := 3) d_Ve_isComposed_45 rfl rfl rfl tw_200 ?_
  refine ew_iload d_Ve_isComposed_48 rfl ?_
  refine ew_iconst (v := nI 1) d_Ve_isComposed_50 (by decide) ?_
  refine en_iadd d_Ve_isComposed_51 ?_
  refine en_eq rfl (show _ = [.int (nI 71), .ref 22, .int (nI (fn 70)), .int (nI (fn 64)), .int (nI (fn 63)), .ref 10] from rfl) rfl ?_
  refine ew_iald (j := 71) d_Ve_isComposed_52 rfl (rfl) (by decide) (by decide) ?_
  refine en_eq (st' := [.int (nI (fn 71)), .int (nI (fn 70)), .int (nI (fn 64)), .int (nI (fn 63)), .ref 10]) rfl (by rw [show (M 22 71) = (nI (fn 71)) from (hfn 71 (by decide)).1]) rfl ?_
  refine en_callV (As := [.int (nI (fn 63)), .int (nI (fn 64)), .int (nI (fn 70)), .int (nI (fn 71))]) (i := 10) (ci := 2) (st := []) (st1 := []) d_Ve_isComposed_53 k_Ru_read rfl rfl tw_564 tw_325 tw_326 rfl (Nat.le_of_ble_eq_true rfl) rfl (Nat.le_of_ble_eq_true rfl) rfl rfl (c_Ru_read l g _ L M (nI (fn 63)) (nI (fn 64)) (nI (fn 70)) (nI (fn 71))) rfl ?_
  refine ew_aload_n d_Ve_isComposed_56 rfl ?_
  refine ew_getr (ci := 6) (f := 1) d_Ve_isComposed_57 rfl rfl rfl tw_198 ?_
  refine ew_aload_n d_Ve_isComposed_60 rfl ?_
  refine ew_iload_n d_Ve_isComposed_61 rfl ?_
  refine en_callV (As := [.int (nI 1)]) (i := 43) (ci := 6) (st := [.ref 10]) (st1 := [.int (nI j), .ref 10]) d_Ve_isComposed_62 k_Ve_place rfl rfl tw_542 tw_543 tw_544 rfl (Nat.le_of_ble_eq_true rfl) rfl (Nat.le_of_ble_eq_true rfl) rfl rfl (c_Ve_place l g _ L (sp_rd M 16 (nI (fn 63)) (nI (fn 64)) (nI (fn 70)) (nI (fn 71))) 1 j (by decide) (by (rw [sp_rd_ne (by decide)]; exact hj))) rfl ?_
  refine ew_iconst (v := nI 0) d_Ve_isComposed_65 (by decide) ?_
  refine ew_iload_n d_Ve_isComposed_66 rfl ?_
  refine en_callS (As := [.int (nI j), .int (nI 0), .int (nI 0)]) (st := [.ref 10]) (st1 := [.int (nI (j % 16 + 16 * 0)), .ref 10]) d_Ve_isComposed_67 k_Pf_layerIndex tw_557 tw_484 rfl (Nat.le_of_ble_eq_true rfl) rfl (Nat.le_of_ble_eq_true rfl) rfl rfl (c_Pf_layerIndex0 l g _ L (sp_rd M 16 (nI (fn 63)) (nI (fn 64)) (nI (fn 70)) (nI (fn 71))) j 0 (hj2)) rfl ?_
  refine ew_aload_n d_Ve_isComposed_70 rfl ?_
  refine ew_getr (ci := 6) (f := 4) d_Ve_isComposed_71 rfl rfl rfl tw_201 ?_
  refine ew_getiN (ci := 7) (f := 1) d_Ve_isComposed_74 rfl rfl rfl tw_130 ?_
  refine en_eq (st' := [.int (nI A), .int (nI (j % 16 + 16 * 0)), .ref 10]) rfl (by rw [show ((sp_rd M 16 (nI (fn 63)) (nI (fn 64)) (nI (fn 70)) (nI (fn 71))) 44 1) = (nI A) from by (rw [sp_rd_ne (by decide)]; exact hA)]) rfl ?_
  refine en_callV (As := [.int (nI (j % 16 + 16 * 0)), .int (nI A)]) (i := 10) (ci := 2) (st := []) (st1 := [.int (nI (sp_com ρ (sp_le (fn 63) (fn 64) (fn 70) (fn 71)) (j % 16 + 16 * 0) A))]) d_Ve_isComposed_77 k_Ru_composition rfl rfl tw_565 tw_424 tw_425 rfl (Nat.le_of_ble_eq_true rfl) rfl (Nat.le_of_ble_eq_true rfl) rfl rfl (c_Ru_composition l g _ L (sp_rd M 16 (nI (fn 63)) (nI (fn 64)) (nI (fn 70)) (nI (fn 71))) ρ (sp_ru_of hr (sp_rd_ne (by decide)) (sp_rd_ne (by decide)) (sp_rd_ne (by decide)) (sp_rd_ne (by decide)) (sp_rd_ne (by decide))) (sp_le (fn 63) (fn 64) (fn 70) (fn 71)) (sp_rd_le h16 (hfn 63 (by decide)).2 (hfn 64 (by decide)).2 (hfn 70 (by decide)).2 (hfn 71 (by decide)).2) (sp_tab_of hT (sp_rd_ne (by decide)) (sp_rd_ne (by decide)) (sp_rd_ne (by decide)) (sp_rd_ne (by decide)) (sp_rd_ne (by decide))) (j % 16 + 16 * 0) A (by omega) hA2) rfl ?_
  refine en_istore (ls' := [.ref 43, .int (nI 1), .int (nI 0), .int (nI 63), .int (nI 70), .int (nI (sp_com ρ (sp_le (fn 63) (fn 64) (fn 70) (fn 71)) (j % 16 + 16 * 0) A))]) d_Ve_isComposed_80 (Nat.le_of_ble_eq_true rfl) rfl ?_
  refine ew_iload d_Ve_isComposed_82 rfl ?_
  refine ew_aload_n d_Ve_isComposed_84 rfl ?_
  refine ew_getr (ci := 6) (f := 3) d_Ve_isComposed_85 rfl rfl rfl tw_200 ?_
  refine ew_iload_n d_Ve_isComposed_88 rfl ?_
  refine ew_iconst (v := nI 0) d_Ve_isComposed_89 (by decide) ?_
  refine ew_iload_n d_Ve_isComposed_90 rfl ?_
  refine en_callS (As := [.int (nI 1), .int (nI 0), .int (nI 0)]) (st := [.ref 22, .int (nI (sp_com ρ (sp_le (fn 63) (fn 64) (fn 70) (fn 71)) (j % 16 + 16 * 0) A))]) (st1 := [.int (nI 91), .ref 22, .int (nI (sp_com ρ (sp_le (fn 63) (fn 64) (fn 70) (fn 71)) (j % 16 + 16 * 0) A))]) d_Ve_isComposed_91 k_Pf_layerStart tw_558 tw_488 rfl (Nat.le_of_ble_eq_true rfl) rfl (Nat.le_of_ble_eq_true rfl) rfl rfl (c_Pf_layerStart0 l g _ L (sp_rd M 16 (nI (fn 63)) (nI (fn 64)) (nI (fn 70)) (nI (fn 71))) (sp_st_of hs (sp_rd_ne (by decide)) (sp_rd_ne (by decide))) 1 0) rfl ?_
  refine ew_iald (j := 91) d_Ve_isComposed_94 rfl (rfl) (by decide) (by decide) ?_
  refine en_eq (st' := [.int (nI (fn 91)), .int (nI (sp_com ρ (sp_le (fn 63) (fn 64) (fn 70) (fn 71)) (j % 16 + 16 * 0) A))]) rfl (by rw [show ((sp_rd M 16 (nI (fn 63)) (nI (fn 64)) (nI (fn 70)) (nI (fn 71))) 22 91) = (nI (fn 91)) from by (rw [sp_rd_ne (by decide)]; exact (hfn 91 (by decide)).1)]) rfl ?_
  refine en_icmp_ne (tgt := 102) d_Ve_isComposed_95 (by decide) (by first | exact Nat.lt_trans (sp_com_lt _ _ _ _) (by decide) | exact Nat.lt_trans (hfn 91 (by decide)).2 (by decide)) (by first | exact Nat.lt_trans (sp_com_lt _ _ _ _) (by decide) | exact Nat.lt_trans (hfn 91 (by decide)).2 (by decide)) (fun h95 => ?_) (fun h95 => ?_)
  · refine ew_iconst (v := nI 0) d_Ve_isComposed_102 (by decide) ?_
    exact ew_zret d_Ve_isComposed_103 rfl (by decide) (⟨by rw [show sp_vo1 ρ fn j A 0 = false from decide_eq_false h95]; rfl, rfl, rfl⟩)
  · refine ew_iconst (v := nI 1) d_Ve_isComposed_98 (by decide) ?_
    refine ew_goto (tgt := 103) d_Ve_isComposed_99 (by decide) ?_
    exact ew_zret d_Ve_isComposed_103 rfl (by decide) (⟨by rw [show sp_vo1 ρ fn j A 0 = true from decide_eq_true h95]; rfl, rfl, rfl⟩)
set_option maxRecDepth 100000 in
theorem c_Ve_isComposed11 (l : Launch) (g : ew_G) (d L : Nat) (M : ew_M) (ρ : sp_R) (hr : sp_ru ρ M) (hT : sp_tab M) (hs : sp_st M) (h16 : M 16 0 = nI 1) (fn : Nat → Nat) (hfn : sp_fnok (M 22) fn) (A : Nat) (hA : M 44 1 = nI A) (hA2 : A < 12289) (j : Nat) (hj : M 46 1 = nI j) (hj2 : j < 16) :
    Ew l g (d + 3) 0 0 m_Ve_isComposed 0 [.ref 43, .int (nI 1), .int (nI 1), .retAddr 0, .retAddr 0, .retAddr 0] [] (ew_SH L) M (ew_q (some (.int (ew_b (sp_vo1 ρ fn j A 1)))) (ew_SH L) (sp_rd M 16 (nI (fn 77)) (nI (fn 78)) (nI (fn 84)) (nI (fn 85)))) := by
  refine ew_iload_n d_Ve_isComposed_0 rfl ?_
  refine ew_iconst (v := nI 2) d_Ve_isComposed_1 (by decide) ?_
  refine ew_iload_n d_Ve_isComposed_2 rfl ?_
  refine en_imul d_Ve_isComposed_3 ?_
  refine en_eq rfl (show _ = [.int (nI 2), .int (nI 1)] from rfl) rfl ?_
  refine en_callS (As := [.int (nI 1), .int (nI 2)]) (st := []) (st1 := [.int (nI 77)]) d_Ve_isComposed_4 k_Pf_columnStart tw_547 tw_473 rfl (Nat.le_of_ble_eq_true rfl) rfl (Nat.le_of_ble_eq_true rfl) rfl rfl (c_Pf_columnStart l g _ L M 1 2) rfl ?_
  refine en_istore_n (ls' := [.ref 43, .int (nI 1), .int (nI 1), .int (nI 77), .retAddr 0, .retAddr 0]) d_Ve_isComposed_7 (Nat.le_of_ble_eq_true rfl) rfl ?_
  refine ew_iload_n d_Ve_isComposed_8 rfl ?_
  refine ew_iconst (v := nI 2) d_Ve_isComposed_9 (by decide) ?_
  refine ew_iload_n d_Ve_isComposed_10 rfl ?_
  refine en_imul d_Ve_isComposed_11 ?_
  refine en_eq rfl (show _ = [.int (nI 2), .int (nI 1)] from rfl) rfl ?_
  refine ew_iconst (v := nI 1) d_Ve_isComposed_12 (by decide) ?_
  refine en_iadd d_Ve_isComposed_13 ?_
  refine en_eq rfl (show _ = [.int (nI 3), .int (nI 1)] from rfl) rfl ?_
  refine en_callS (As := [.int (nI 1), .int (nI 3)]) (st := []) (st1 := [.int (nI 84)]) d_Ve_isComposed_14 k_Pf_columnStart tw_547 tw_473 rfl (Nat.le_of_ble_eq_true rfl) rfl (Nat.le_of_ble_eq_true rfl) rfl rfl (c_Pf_columnStart l g _ L M 1 3) rfl ?_
  refine en_istore (ls' := [.ref 43, .int (nI 1), .int (nI 1), .int (nI 77), .int (nI 84), .retAddr 0]) d_Ve_isComposed_17 (Nat.le_of_ble_eq_true rfl) rfl ?_
  refine ew_aload_n d_Ve_isComposed_19 rfl ?_
  refine ew_getr (ci := 6) (f := 1) d_Ve_isComposed_20 rfl rfl rfl tw_198 ?_
  refine ew_aload_n d_Ve_isComposed_23 rfl ?_
  refine ew_getr (ci := 6) (f := 3) d_Ve_isComposed_24 rfl rfl rfl tw_200 ?_
  refine ew_iload_n d_Ve_isComposed_27 rfl ?_
  refine ew_iald (j := 77) d_Ve_isComposed_28 rfl (rfl) (by decide) (by decide) ?_
  refine en_eq (st' := [.int (nI (fn 77)), .ref 10]) rfl (by rw [show (M 22 77) = (nI (fn 77)) from (hfn 77 (by decide)).1]) rfl ?_
  refine ew_aload_n d_Ve_isComposed_29 rfl ?_
  refine ew_getr (ci := 6) (f := 3) d_Ve_isComposed_30 rfl rfl rfl tw_200 ?_
  refine ew_iload_n d_Ve_isComposed_33 rfl ?_
  refine ew_iconst (v := nI 1) d_Ve_isComposed_34 (by decide) ?_
  refine en_iadd d_Ve_isComposed_35 ?_
  refine en_eq rfl (show _ = [.int (nI 78), .ref 22, .int (nI (fn 77)), .ref 10] from rfl) rfl ?_
  refine ew_iald (j := 78) d_Ve_isComposed_36 rfl (rfl) (by decide) (by decide) ?_
  refine en_eq (st' := [.int (nI (fn 78)), .int (nI (fn 77)), .ref 10]) rfl (by rw [show (M 22 78) = (nI (fn 78)) from (hfn 78 (by decide)).1]) rfl ?_
  refine ew_aload_n d_Ve_isComposed_37 rfl ?_
  refine ew_getr (ci := 6) (f := 3) d_Ve_isComposed_38 rfl rfl rfl tw_200 ?_
  refine ew_iload d_Ve_isComposed_41 rfl ?_
  refine ew_iald (j := 84) d_Ve_isComposed_43 rfl (rfl) (by decide) (by decide) ?_
  refine en_eq (st' := [.int (nI (fn 84)), .int (nI (fn 78)), .int (nI (fn 77)), .ref 10]) rfl (by rw [show (M 22 84) = (nI (fn 84)) from (hfn 84 (by decide)).1]) rfl ?_
  refine ew_aload_n d_Ve_isComposed_44 rfl ?_
  refine ew_getr (ci := 6) (f := 3) d_Ve_isComposed_45 rfl rfl rfl tw_200 ?_
  refine ew_iload d_Ve_isComposed_48 rfl ?_
  refine ew_iconst (v := nI 1) d_Ve_isComposed_50 (by decide) ?_
  refine en_iadd d_Ve_isComposed_51 ?_
  refine en_eq rfl (show _ = [.int (nI 85), .ref 22, .int (nI (fn 84)), .int (nI (fn 78)), .int (nI (fn 77)), .ref 10] from rfl) rfl ?_
  refine ew_iald (j := 85) d_Ve_isComposed_52 rfl (rfl) (by decide) (by decide) ?_
  refine en_eq (st' := [.int (nI (fn 85)), .int (nI (fn 84)), .int (nI (fn 78)), .int (nI (fn 77)), .ref 10]) rfl (by rw [show (M 22 85) = (nI (fn 85)) from (hfn 85 (by decide)).1]) rfl ?_
  refine en_callV (As := [.int (nI (fn 77)), .int (nI (fn 78)), .int (nI (fn 84)), .int (nI (fn 85))]) (i := 10) (ci := 2) (st := []) (st1 := []) d_Ve_isComposed_53 k_Ru_read rfl rfl tw_564 tw_325 tw_326 rfl (Nat.le_of_ble_eq_true rfl) rfl (Nat.le_of_ble_eq_true rfl) rfl rfl (c_Ru_read l g _ L M (nI (fn 77)) (nI (fn 78)) (nI (fn 84)) (nI (fn 85))) rfl ?_
  refine ew_aload_n d_Ve_isComposed_56 rfl ?_
  refine ew_getr (ci := 6) (f := 1) d_Ve_isComposed_57 rfl rfl rfl tw_198 ?_
  refine ew_aload_n d_Ve_isComposed_60 rfl ?_
  refine ew_iload_n d_Ve_isComposed_61 rfl ?_
  refine en_callV (As := [.int (nI 1)]) (i := 43) (ci := 6) (st := [.ref 10]) (st1 := [.int (nI j), .ref 10]) d_Ve_isComposed_62 k_Ve_place rfl rfl tw_542 tw_543 tw_544 rfl (Nat.le_of_ble_eq_true rfl) rfl (Nat.le_of_ble_eq_true rfl) rfl rfl (c_Ve_place l g _ L (sp_rd M 16 (nI (fn 77)) (nI (fn 78)) (nI (fn 84)) (nI (fn 85))) 1 j (by decide) (by (rw [sp_rd_ne (by decide)]; exact hj))) rfl ?_
  refine ew_iconst (v := nI 0) d_Ve_isComposed_65 (by decide) ?_
  refine ew_iload_n d_Ve_isComposed_66 rfl ?_
  refine en_callS (As := [.int (nI j), .int (nI 0), .int (nI 1)]) (st := [.ref 10]) (st1 := [.int (nI (j % 16 + 16 * 1)), .ref 10]) d_Ve_isComposed_67 k_Pf_layerIndex tw_557 tw_484 rfl (Nat.le_of_ble_eq_true rfl) rfl (Nat.le_of_ble_eq_true rfl) rfl rfl (c_Pf_layerIndex0 l g _ L (sp_rd M 16 (nI (fn 77)) (nI (fn 78)) (nI (fn 84)) (nI (fn 85))) j 1 (hj2)) rfl ?_
  refine ew_aload_n d_Ve_isComposed_70 rfl ?_
  refine ew_getr (ci := 6) (f := 4) d_Ve_isComposed_71 rfl rfl rfl tw_201 ?_
  refine ew_getiN (ci := 7) (f := 1) d_Ve_isComposed_74 rfl rfl rfl tw_130 ?_
  refine en_eq (st' := [.int (nI A), .int (nI (j % 16 + 16 * 1)), .ref 10]) rfl (by rw [show ((sp_rd M 16 (nI (fn 77)) (nI (fn 78)) (nI (fn 84)) (nI (fn 85))) 44 1) = (nI A) from by (rw [sp_rd_ne (by decide)]; exact hA)]) rfl ?_
  refine en_callV (As := [.int (nI (j % 16 + 16 * 1)), .int (nI A)]) (i := 10) (ci := 2) (st := []) (st1 := [.int (nI (sp_com ρ (sp_le (fn 77) (fn 78) (fn 84) (fn 85)) (j % 16 + 16 * 1) A))]) d_Ve_isComposed_77 k_Ru_composition rfl rfl tw_565 tw_424 tw_425 rfl (Nat.le_of_ble_eq_true rfl) rfl (Nat.le_of_ble_eq_true rfl) rfl rfl (c_Ru_composition l g _ L (sp_rd M 16 (nI (fn 77)) (nI (fn 78)) (nI (fn 84)) (nI (fn 85))) ρ (sp_ru_of hr (sp_rd_ne (by decide)) (sp_rd_ne (by decide)) (sp_rd_ne (by decide)) (sp_rd_ne (by decide)) (sp_rd_ne (by decide))) (sp_le (fn 77) (fn 78) (fn 84) (fn 85)) (sp_rd_le h16 (hfn 77 (by decide)).2 (hfn 78 (by decide)).2 (hfn 84 (by decide)).2 (hfn 85 (by decide)).2) (sp_tab_of hT (sp_rd_ne (by decide)) (sp_rd_ne (by decide)) (sp_rd_ne (by decide)) (sp_rd_ne (by decide)) (sp_rd_ne (by decide))) (j % 16 + 16 * 1) A (by omega) hA2) rfl ?_
  refine en_istore (ls' := [.ref 43, .int (nI 1), .int (nI 1), .int (nI 77), .int (nI 84), .int (nI (sp_com ρ (sp_le (fn 77) (fn 78) (fn 84) (fn 85)) (j % 16 + 16 * 1) A))]) d_Ve_isComposed_80 (Nat.le_of_ble_eq_true rfl) rfl ?_
  refine ew_iload d_Ve_isComposed_82 rfl ?_
  refine ew_aload_n d_Ve_isComposed_84 rfl ?_
  refine ew_getr (ci := 6) (f := 3) d_Ve_isComposed_85 rfl rfl rfl tw_200 ?_
  refine ew_iload_n d_Ve_isComposed_88 rfl ?_
  refine ew_iconst (v := nI 0) d_Ve_isComposed_89 (by decide) ?_
  refine ew_iload_n d_Ve_isComposed_90 rfl ?_
  refine en_callS (As := [.int (nI 1), .int (nI 0), .int (nI 1)]) (st := [.ref 22, .int (nI (sp_com ρ (sp_le (fn 77) (fn 78) (fn 84) (fn 85)) (j % 16 + 16 * 1) A))]) (st1 := [.int (nI 97), .ref 22, .int (nI (sp_com ρ (sp_le (fn 77) (fn 78) (fn 84) (fn 85)) (j % 16 + 16 * 1) A))]) d_Ve_isComposed_91 k_Pf_layerStart tw_558 tw_488 rfl (Nat.le_of_ble_eq_true rfl) rfl (Nat.le_of_ble_eq_true rfl) rfl rfl (c_Pf_layerStart0 l g _ L (sp_rd M 16 (nI (fn 77)) (nI (fn 78)) (nI (fn 84)) (nI (fn 85))) (sp_st_of hs (sp_rd_ne (by decide)) (sp_rd_ne (by decide))) 1 1) rfl ?_
  refine ew_iald (j := 97) d_Ve_isComposed_94 rfl (rfl) (by decide) (by decide) ?_
  refine en_eq (st' := [.int (nI (fn 97)), .int (nI (sp_com ρ (sp_le (fn 77) (fn 78) (fn 84) (fn 85)) (j % 16 + 16 * 1) A))]) rfl (by rw [show ((sp_rd M 16 (nI (fn 77)) (nI (fn 78)) (nI (fn 84)) (nI (fn 85))) 22 97) = (nI (fn 97)) from by (rw [sp_rd_ne (by decide)]; exact (hfn 97 (by decide)).1)]) rfl ?_
  refine en_icmp_ne (tgt := 102) d_Ve_isComposed_95 (by decide) (by first | exact Nat.lt_trans (sp_com_lt _ _ _ _) (by decide) | exact Nat.lt_trans (hfn 97 (by decide)).2 (by decide)) (by first | exact Nat.lt_trans (sp_com_lt _ _ _ _) (by decide) | exact Nat.lt_trans (hfn 97 (by decide)).2 (by decide)) (fun h95 => ?_) (fun h95 => ?_)
  · refine ew_iconst (v := nI 0) d_Ve_isComposed_102 (by decide) ?_
    exact ew_zret d_Ve_isComposed_103 rfl (by decide) (⟨by rw [show sp_vo1 ρ fn j A 1 = false from decide_eq_false h95]; rfl, rfl, rfl⟩)
  · refine ew_iconst (v := nI 1) d_Ve_isComposed_98 (by decide) ?_
    refine ew_goto (tgt := 103) d_Ve_isComposed_99 (by decide) ?_
    exact ew_zret d_Ve_isComposed_103 rfl (by decide) (⟨by rw [show sp_vo1 ρ fn j A 1 = true from decide_eq_true h95]; rfl, rfl, rfl⟩)
set_option maxRecDepth 100000 in
theorem c_Ve_folded10 (l : Launch) (g : ew_G) (d L : Nat) (M : ew_M) (hT : sp_tab M) (hs : sp_st M) (fn : Nat → Nat) (hfn : sp_fnok (M 22) fn) (B : Nat) (hB : M 45 0 = nI B) (hB2 : B < 12289) (j : Nat) (hj : M 46 1 = nI j) (hj2 : j < 16) :
    Ew l g (d + 3) 0 0 m_Ve_folded 0 [.ref 43, .int (nI 1), .int (nI 0), .retAddr 0, .retAddr 0, .retAddr 0] [] (ew_SH L) M (ew_q (some (.int (nI (sp_vf10 fn j B)))) (ew_SH L) M) := by
  refine ew_aload_n d_Ve_folded_0 rfl ?_
  refine ew_getr (ci := 6) (f := 3) d_Ve_folded_1 rfl rfl rfl tw_200 ?_
  refine ew_iload_n d_Ve_folded_4 rfl ?_
  refine ew_iload_n d_Ve_folded_5 rfl ?_
  refine ew_iconst (v := nI 0) d_Ve_folded_6 (by decide) ?_
  refine en_callS (As := [.int (nI 1), .int (nI 0), .int (nI 0)]) (st := [.ref 22]) (st1 := [.int (nI 91), .ref 22]) d_Ve_folded_7 k_Pf_layerStart tw_558 tw_488 rfl (Nat.le_of_ble_eq_true rfl) rfl (Nat.le_of_ble_eq_true rfl) rfl rfl (c_Pf_layerStart0 l g _ L M (hs) 1 0) rfl ?_
  refine ew_iald (j := 91) d_Ve_folded_10 rfl (rfl) (by decide) (by decide) ?_
  refine en_eq (st' := [.int (nI (fn 91))]) rfl (by rw [show (M 22 91) = (nI (fn 91)) from (hfn 91 (by decide)).1]) rfl ?_
  refine en_istore_n (ls' := [.ref 43, .int (nI 1), .int (nI 0), .int (nI (fn 91)), .retAddr 0, .retAddr 0]) d_Ve_folded_11 (Nat.le_of_ble_eq_true rfl) rfl ?_
  refine ew_aload_n d_Ve_folded_12 rfl ?_
  refine ew_getr (ci := 6) (f := 3) d_Ve_folded_13 rfl rfl rfl tw_200 ?_
  refine ew_iload_n d_Ve_folded_16 rfl ?_
  refine ew_iload_n d_Ve_folded_17 rfl ?_
  refine ew_iconst (v := nI 1) d_Ve_folded_18 (by decide) ?_
  refine en_callS (As := [.int (nI 1), .int (nI 0), .int (nI 1)]) (st := [.ref 22]) (st1 := [.int (nI 97), .ref 22]) d_Ve_folded_19 k_Pf_layerStart tw_558 tw_488 rfl (Nat.le_of_ble_eq_true rfl) rfl (Nat.le_of_ble_eq_true rfl) rfl rfl (c_Pf_layerStart0 l g _ L M (hs) 1 1) rfl ?_
  refine ew_iald (j := 97) d_Ve_folded_22 rfl (rfl) (by decide) (by decide) ?_
  refine en_eq (st' := [.int (nI (fn 97))]) rfl (by rw [show (M 22 97) = (nI (fn 97)) from (hfn 97 (by decide)).1]) rfl ?_
  refine en_istore (ls' := [.ref 43, .int (nI 1), .int (nI 0), .int (nI (fn 91)), .int (nI (fn 97)), .retAddr 0]) d_Ve_folded_23 (Nat.le_of_ble_eq_true rfl) rfl ?_
  refine ew_aload_n d_Ve_folded_25 rfl ?_
  refine ew_iload_n d_Ve_folded_26 rfl ?_
  refine en_callV (As := [.int (nI 1)]) (i := 43) (ci := 6) (st := []) (st1 := [.int (nI j)]) d_Ve_folded_27 k_Ve_place rfl rfl tw_542 tw_543 tw_544 rfl (Nat.le_of_ble_eq_true rfl) rfl (Nat.le_of_ble_eq_true rfl) rfl rfl (c_Ve_place l g _ L M 1 j (by decide) (hj)) rfl ?_
  refine ew_iload_n d_Ve_folded_30 rfl ?_
  refine ew_iconst (v := nI 0) d_Ve_folded_31 (by decide) ?_
  refine en_callS (As := [.int (nI j), .int (nI 0), .int (nI 0)]) (st := []) (st1 := [.int (nI (j % 16 + 16 * 0))]) d_Ve_folded_32 k_Pf_layerIndex tw_557 tw_484 rfl (Nat.le_of_ble_eq_true rfl) rfl (Nat.le_of_ble_eq_true rfl) rfl rfl (c_Pf_layerIndex0 l g _ L M j 0 (hj2)) rfl ?_
  refine en_istore (ls' := [.ref 43, .int (nI 1), .int (nI 0), .int (nI (fn 91)), .int (nI (fn 97)), .int (nI (j % 16 + 16 * 0))]) d_Ve_folded_35 (Nat.le_of_ble_eq_true rfl) rfl ?_
  refine ew_aload_n d_Ve_folded_37 rfl ?_
  refine ew_getr (ci := 6) (f := 0) d_Ve_folded_38 rfl rfl rfl tw_197 ?_
  refine ew_iload_n d_Ve_folded_41 rfl ?_
  refine ew_iload d_Ve_folded_42 rfl ?_
  refine ew_iload_n d_Ve_folded_44 rfl ?_
  refine ew_iload d_Ve_folded_45 rfl ?_
  refine ew_aload_n d_Ve_folded_47 rfl ?_
  refine ew_getr (ci := 6) (f := 4) d_Ve_folded_48 rfl rfl rfl tw_201 ?_
  refine ew_getrN (ci := 7) (f := 2) d_Ve_folded_51 rfl rfl rfl tw_133 ?_
  refine ew_iload_n d_Ve_folded_54 rfl ?_
  refine ew_iald (j := 0) d_Ve_folded_55 rfl (rfl) (by decide) (by decide) ?_
  refine en_eq (st' := [.int (nI B), .int (nI (fn 97)), .int (nI (fn 91)), .int (nI (j % 16 + 16 * 0)), .int (nI 0), .ref 4]) rfl (by rw [show (M 45 0) = (nI B) from hB]) rfl ?_
  refine en_callV (As := [.int (nI 0), .int (nI (j % 16 + 16 * 0)), .int (nI (fn 91)), .int (nI (fn 97)), .int (nI B)]) (i := 4) (ci := 1) (st := []) (st1 := [.int (nI (sp_fo 1 (j % 16 + 16 * 0) (fn 91) (fn 97) B))]) d_Ve_folded_56 k_Pt_fold rfl rfl tw_570 tw_445 tw_446 rfl (Nat.le_of_ble_eq_true rfl) rfl (Nat.le_of_ble_eq_true rfl) rfl rfl (c_Pt_fold0 l g _ L M (hT) (j % 16 + 16 * 0) (fn 91) (fn 97) B (by first | with_reducible assumption | exact (hfn _ (by decide)).2 | omega) (by first | with_reducible assumption | exact (hfn _ (by decide)).2 | omega) (by first | with_reducible assumption | exact (hfn _ (by decide)).2 | omega) (by first | with_reducible assumption | exact (hfn _ (by decide)).2 | omega)) rfl ?_
  exact ew_iret d_Ve_folded_59 rfl (⟨rfl, rfl, rfl⟩)
set_option maxRecDepth 100000 in
theorem c_Ve_folded11 (l : Launch) (g : ew_G) (d L : Nat) (M : ew_M) (hT : sp_tab M) (hs : sp_st M) (fn : Nat → Nat) (hfn : sp_fnok (M 22) fn) (B : Nat) (hB : M 45 1 = nI B) (hB2 : B < 12289) (j : Nat) (hj : M 46 1 = nI j) (hj2 : j < 16) :
    Ew l g (d + 3) 0 0 m_Ve_folded 0 [.ref 43, .int (nI 1), .int (nI 1), .retAddr 0, .retAddr 0, .retAddr 0] [] (ew_SH L) M (ew_q (some (.int (nI (sp_vf11 fn j B)))) (ew_SH L) M) := by
  refine ew_aload_n d_Ve_folded_0 rfl ?_
  refine ew_getr (ci := 6) (f := 3) d_Ve_folded_1 rfl rfl rfl tw_200 ?_
  refine ew_iload_n d_Ve_folded_4 rfl ?_
  refine ew_iload_n d_Ve_folded_5 rfl ?_
  refine ew_iconst (v := nI 0) d_Ve_folded_6 (by decide) ?_
  refine en_callS (As := [.int (nI 1), .int (nI 1), .int (nI 0)]) (st := [.ref 22]) (st1 := [.int (nI 103), .ref 22]) d_Ve_folded_7 k_Pf_layerStart tw_558 tw_488 rfl (Nat.le_of_ble_eq_true rfl) rfl (Nat.le_of_ble_eq_true rfl) rfl rfl (c_Pf_layerStart1 l g _ L M (hs) 1 0) rfl ?_
  refine ew_iald (j := 103) d_Ve_folded_10 rfl (rfl) (by decide) (by decide) ?_
  refine en_eq (st' := [.int (nI (fn 103))]) rfl (by rw [show (M 22 103) = (nI (fn 103)) from (hfn 103 (by decide)).1]) rfl ?_
  refine en_istore_n (ls' := [.ref 43, .int (nI 1), .int (nI 1), .int (nI (fn 103)), .retAddr 0, .retAddr 0]) d_Ve_folded_11 (Nat.le_of_ble_eq_true rfl) rfl ?_
  refine ew_aload_n d_Ve_folded_12 rfl ?_
  refine ew_getr (ci := 6) (f := 3) d_Ve_folded_13 rfl rfl rfl tw_200 ?_
  refine ew_iload_n d_Ve_folded_16 rfl ?_
  refine ew_iload_n d_Ve_folded_17 rfl ?_
  refine ew_iconst (v := nI 1) d_Ve_folded_18 (by decide) ?_
  refine en_callS (As := [.int (nI 1), .int (nI 1), .int (nI 1)]) (st := [.ref 22]) (st1 := [.int (nI 108), .ref 22]) d_Ve_folded_19 k_Pf_layerStart tw_558 tw_488 rfl (Nat.le_of_ble_eq_true rfl) rfl (Nat.le_of_ble_eq_true rfl) rfl rfl (c_Pf_layerStart1 l g _ L M (hs) 1 1) rfl ?_
  refine ew_iald (j := 108) d_Ve_folded_22 rfl (rfl) (by decide) (by decide) ?_
  refine en_eq (st' := [.int (nI (fn 108))]) rfl (by rw [show (M 22 108) = (nI (fn 108)) from (hfn 108 (by decide)).1]) rfl ?_
  refine en_istore (ls' := [.ref 43, .int (nI 1), .int (nI 1), .int (nI (fn 103)), .int (nI (fn 108)), .retAddr 0]) d_Ve_folded_23 (Nat.le_of_ble_eq_true rfl) rfl ?_
  refine ew_aload_n d_Ve_folded_25 rfl ?_
  refine ew_iload_n d_Ve_folded_26 rfl ?_
  refine en_callV (As := [.int (nI 1)]) (i := 43) (ci := 6) (st := []) (st1 := [.int (nI j)]) d_Ve_folded_27 k_Ve_place rfl rfl tw_542 tw_543 tw_544 rfl (Nat.le_of_ble_eq_true rfl) rfl (Nat.le_of_ble_eq_true rfl) rfl rfl (c_Ve_place l g _ L M 1 j (by decide) (hj)) rfl ?_
  refine ew_iload_n d_Ve_folded_30 rfl ?_
  refine ew_iconst (v := nI 0) d_Ve_folded_31 (by decide) ?_
  refine en_callS (As := [.int (nI j), .int (nI 1), .int (nI 0)]) (st := []) (st1 := [.int (nI (j % 8 + 8 * 0))]) d_Ve_folded_32 k_Pf_layerIndex tw_557 tw_484 rfl (Nat.le_of_ble_eq_true rfl) rfl (Nat.le_of_ble_eq_true rfl) rfl rfl (c_Pf_layerIndex1 l g _ L M j 0 (hj2)) rfl ?_
  refine en_istore (ls' := [.ref 43, .int (nI 1), .int (nI 1), .int (nI (fn 103)), .int (nI (fn 108)), .int (nI (j % 8 + 8 * 0))]) d_Ve_folded_35 (Nat.le_of_ble_eq_true rfl) rfl ?_
  refine ew_aload_n d_Ve_folded_37 rfl ?_
  refine ew_getr (ci := 6) (f := 0) d_Ve_folded_38 rfl rfl rfl tw_197 ?_
  refine ew_iload_n d_Ve_folded_41 rfl ?_
  refine ew_iload d_Ve_folded_42 rfl ?_
  refine ew_iload_n d_Ve_folded_44 rfl ?_
  refine ew_iload d_Ve_folded_45 rfl ?_
  refine ew_aload_n d_Ve_folded_47 rfl ?_
  refine ew_getr (ci := 6) (f := 4) d_Ve_folded_48 rfl rfl rfl tw_201 ?_
  refine ew_getrN (ci := 7) (f := 2) d_Ve_folded_51 rfl rfl rfl tw_133 ?_
  refine ew_iload_n d_Ve_folded_54 rfl ?_
  refine ew_iald (j := 1) d_Ve_folded_55 rfl (rfl) (by decide) (by decide) ?_
  refine en_eq (st' := [.int (nI B), .int (nI (fn 108)), .int (nI (fn 103)), .int (nI (j % 8 + 8 * 0)), .int (nI 1), .ref 4]) rfl (by rw [show (M 45 1) = (nI B) from hB]) rfl ?_
  refine en_callV (As := [.int (nI 1), .int (nI (j % 8 + 8 * 0)), .int (nI (fn 103)), .int (nI (fn 108)), .int (nI B)]) (i := 4) (ci := 1) (st := []) (st1 := [.int (nI (sp_fo 2 (j % 8 + 8 * 0) (fn 103) (fn 108) B))]) d_Ve_folded_56 k_Pt_fold rfl rfl tw_570 tw_445 tw_446 rfl (Nat.le_of_ble_eq_true rfl) rfl (Nat.le_of_ble_eq_true rfl) rfl rfl (c_Pt_fold1 l g _ L M (hT) (j % 8 + 8 * 0) (fn 103) (fn 108) B (by first | with_reducible assumption | exact (hfn _ (by decide)).2 | omega) (by first | with_reducible assumption | exact (hfn _ (by decide)).2 | omega) (by first | with_reducible assumption | exact (hfn _ (by decide)).2 | omega) (by first | with_reducible assumption | exact (hfn _ (by decide)).2 | omega)) rfl ?_
  exact ew_iret d_Ve_folded_59 rfl (⟨rfl, rfl, rfl⟩)
set_option maxRecDepth 100000 in
theorem c_Ve_folded12 (l : Launch) (g : ew_G) (d L : Nat) (M : ew_M) (hT : sp_tab M) (hs : sp_st M) (fn : Nat → Nat) (hfn : sp_fnok (M 22) fn) (B : Nat) (hB : M 45 2 = nI B) (hB2 : B < 12289) (j : Nat) (hj : M 46 1 = nI j) (hj2 : j < 16) :
    Ew l g (d + 3) 0 0 m_Ve_folded 0 [.ref 43, .int (nI 1), .int (nI 2), .retAddr 0, .retAddr 0, .retAddr 0] [] (ew_SH L) M (ew_q (some (.int (nI (sp_vf12 fn j B)))) (ew_SH L) M) := by
  refine ew_aload_n d_Ve_folded_0 rfl ?_
  refine ew_getr (ci := 6) (f := 3) d_Ve_folded_1 rfl rfl rfl tw_200 ?_
  refine ew_iload_n d_Ve_folded_4 rfl ?_
  refine ew_iload_n d_Ve_folded_5 rfl ?_
  refine ew_iconst (v := nI 0) d_Ve_folded_6 (by decide) ?_
  refine en_callS (As := [.int (nI 1), .int (nI 2), .int (nI 0)]) (st := [.ref 22]) (st1 := [.int (nI 113), .ref 22]) d_Ve_folded_7 k_Pf_layerStart tw_558 tw_488 rfl (Nat.le_of_ble_eq_true rfl) rfl (Nat.le_of_ble_eq_true rfl) rfl rfl (c_Pf_layerStart2 l g _ L M (hs) 1 0) rfl ?_
  refine ew_iald (j := 113) d_Ve_folded_10 rfl (rfl) (by decide) (by decide) ?_
  refine en_eq (st' := [.int (nI (fn 113))]) rfl (by rw [show (M 22 113) = (nI (fn 113)) from (hfn 113 (by decide)).1]) rfl ?_
  refine en_istore_n (ls' := [.ref 43, .int (nI 1), .int (nI 2), .int (nI (fn 113)), .retAddr 0, .retAddr 0]) d_Ve_folded_11 (Nat.le_of_ble_eq_true rfl) rfl ?_
  refine ew_aload_n d_Ve_folded_12 rfl ?_
  refine ew_getr (ci := 6) (f := 3) d_Ve_folded_13 rfl rfl rfl tw_200 ?_
  refine ew_iload_n d_Ve_folded_16 rfl ?_
  refine ew_iload_n d_Ve_folded_17 rfl ?_
  refine ew_iconst (v := nI 1) d_Ve_folded_18 (by decide) ?_
  refine en_callS (As := [.int (nI 1), .int (nI 2), .int (nI 1)]) (st := [.ref 22]) (st1 := [.int (nI 117), .ref 22]) d_Ve_folded_19 k_Pf_layerStart tw_558 tw_488 rfl (Nat.le_of_ble_eq_true rfl) rfl (Nat.le_of_ble_eq_true rfl) rfl rfl (c_Pf_layerStart2 l g _ L M (hs) 1 1) rfl ?_
  refine ew_iald (j := 117) d_Ve_folded_22 rfl (rfl) (by decide) (by decide) ?_
  refine en_eq (st' := [.int (nI (fn 117))]) rfl (by rw [show (M 22 117) = (nI (fn 117)) from (hfn 117 (by decide)).1]) rfl ?_
  refine en_istore (ls' := [.ref 43, .int (nI 1), .int (nI 2), .int (nI (fn 113)), .int (nI (fn 117)), .retAddr 0]) d_Ve_folded_23 (Nat.le_of_ble_eq_true rfl) rfl ?_
  refine ew_aload_n d_Ve_folded_25 rfl ?_
  refine ew_iload_n d_Ve_folded_26 rfl ?_
  refine en_callV (As := [.int (nI 1)]) (i := 43) (ci := 6) (st := []) (st1 := [.int (nI j)]) d_Ve_folded_27 k_Ve_place rfl rfl tw_542 tw_543 tw_544 rfl (Nat.le_of_ble_eq_true rfl) rfl (Nat.le_of_ble_eq_true rfl) rfl rfl (c_Ve_place l g _ L M 1 j (by decide) (hj)) rfl ?_
  refine ew_iload_n d_Ve_folded_30 rfl ?_
  refine ew_iconst (v := nI 0) d_Ve_folded_31 (by decide) ?_
  refine en_callS (As := [.int (nI j), .int (nI 2), .int (nI 0)]) (st := []) (st1 := [.int (nI (j % 4 + 4 * 0))]) d_Ve_folded_32 k_Pf_layerIndex tw_557 tw_484 rfl (Nat.le_of_ble_eq_true rfl) rfl (Nat.le_of_ble_eq_true rfl) rfl rfl (c_Pf_layerIndex2 l g _ L M j 0 (hj2)) rfl ?_
  refine en_istore (ls' := [.ref 43, .int (nI 1), .int (nI 2), .int (nI (fn 113)), .int (nI (fn 117)), .int (nI (j % 4 + 4 * 0))]) d_Ve_folded_35 (Nat.le_of_ble_eq_true rfl) rfl ?_
  refine ew_aload_n d_Ve_folded_37 rfl ?_
  refine ew_getr (ci := 6) (f := 0) d_Ve_folded_38 rfl rfl rfl tw_197 ?_
  refine ew_iload_n d_Ve_folded_41 rfl ?_
  refine ew_iload d_Ve_folded_42 rfl ?_
  refine ew_iload_n d_Ve_folded_44 rfl ?_
  refine ew_iload d_Ve_folded_45 rfl ?_
  refine ew_aload_n d_Ve_folded_47 rfl ?_
  refine ew_getr (ci := 6) (f := 4) d_Ve_folded_48 rfl rfl rfl tw_201 ?_
  refine ew_getrN (ci := 7) (f := 2) d_Ve_folded_51 rfl rfl rfl tw_133 ?_
  refine ew_iload_n d_Ve_folded_54 rfl ?_
  refine ew_iald (j := 2) d_Ve_folded_55 rfl (rfl) (by decide) (by decide) ?_
  refine en_eq (st' := [.int (nI B), .int (nI (fn 117)), .int (nI (fn 113)), .int (nI (j % 4 + 4 * 0)), .int (nI 2), .ref 4]) rfl (by rw [show (M 45 2) = (nI B) from hB]) rfl ?_
  refine en_callV (As := [.int (nI 2), .int (nI (j % 4 + 4 * 0)), .int (nI (fn 113)), .int (nI (fn 117)), .int (nI B)]) (i := 4) (ci := 1) (st := []) (st1 := [.int (nI (sp_fo 4 (j % 4 + 4 * 0) (fn 113) (fn 117) B))]) d_Ve_folded_56 k_Pt_fold rfl rfl tw_570 tw_445 tw_446 rfl (Nat.le_of_ble_eq_true rfl) rfl (Nat.le_of_ble_eq_true rfl) rfl rfl (c_Pt_fold2 l g _ L M (hT) (j % 4 + 4 * 0) (fn 113) (fn 117) B (by first | with_reducible assumption | exact (hfn _ (by decide)).2 | omega) (by first | with_reducible assumption | exact (hfn _ (by decide)).2 | omega) (by first | with_reducible assumption | exact (hfn _ (by decide)).2 | omega) (by first | with_reducible assumption | exact (hfn _ (by decide)).2 | omega)) rfl ?_
  exact ew_iret d_Ve_folded_59 rfl (⟨rfl, rfl, rfl⟩)
set_option maxRecDepth 100000 in
theorem c_Ve_valueBehind10 (l : Launch) (g : ew_G) (d L : Nat) (M : ew_M) (hs : sp_st M) (fn : Nat → Nat) (hfn : sp_fnok (M 22) fn) (j : Nat) (hj : M 46 1 = nI j) (hj2 : j < 16) :
    Ew l g (d + 1) 0 0 m_Ve_valueBehind 0 [.ref 43, .int (nI 1), .int (nI 0), .retAddr 0, .retAddr 0, .retAddr 0] [] (ew_SH L) M (ew_q (some (.int (nI (sp_vb10 fn j)))) (ew_SH L) M) := by
  refine ew_iload_n d_Ve_valueBehind_0 rfl ?_
  refine ew_iconst (v := nI 1) d_Ve_valueBehind_1 (by decide) ?_
  refine en_iadd d_Ve_valueBehind_2 ?_
  refine en_eq rfl (show _ = [.int (nI 1)] from rfl) rfl ?_
  refine en_istore_n (ls' := [.ref 43, .int (nI 1), .int (nI 0), .int (nI 1), .retAddr 0, .retAddr 0]) d_Ve_valueBehind_3 (Nat.le_of_ble_eq_true rfl) rfl ?_
  refine ew_iload_n d_Ve_valueBehind_4 rfl ?_
  refine en_callS (As := [.int (nI 1)]) (st := []) (st1 := [.int (nI 16)]) d_Ve_valueBehind_5 k_Pf_layerSize tw_556 tw_162 rfl (Nat.le_of_ble_eq_true rfl) rfl (Nat.le_of_ble_eq_true rfl) rfl rfl (c_Pf_layerSize1 l g _ L M) rfl ?_
  refine en_istore (ls' := [.ref 43, .int (nI 1), .int (nI 0), .int (nI 1), .int (nI 16), .retAddr 0]) d_Ve_valueBehind_8 (Nat.le_of_ble_eq_true rfl) rfl ?_
  refine ew_aload_n d_Ve_valueBehind_10 rfl ?_
  refine ew_iload_n d_Ve_valueBehind_11 rfl ?_
  refine en_callV (As := [.int (nI 1)]) (i := 43) (ci := 6) (st := []) (st1 := [.int (nI j)]) d_Ve_valueBehind_12 k_Ve_place rfl rfl tw_542 tw_543 tw_544 rfl (Nat.le_of_ble_eq_true rfl) rfl (Nat.le_of_ble_eq_true rfl) rfl rfl (c_Ve_place l g _ L M 1 j (by decide) (hj)) rfl ?_
  refine ew_iload d_Ve_valueBehind_15 rfl ?_
  refine en_irem d_Ve_valueBehind_17 (by omega) (by decide) (by decide) ?_
  refine ew_iload d_Ve_valueBehind_18 rfl ?_
  refine ew_iconst (v := nI 2) d_Ve_valueBehind_20 (by decide) ?_
  refine en_idiv d_Ve_valueBehind_21 (by first | with_reducible assumption | with_reducible exact ep_lt _ | with_reducible exact sp_its_lt _ _ _ | with_reducible exact tb_l_rt _ | with_reducible exact tb_l_x _ | with_reducible exact tb_l_o0 _ | with_reducible exact tb_l_o1 _ | with_reducible exact tb_l_va _ | with_reducible exact tb_l_ll _ | with_reducible exact tb_l_cf _ | with_reducible exact tb_l_kf _ | with_reducible exact sp_ts_lt _ _ _ _ | with_reducible exact sp_w_lt _ _ | with_reducible exact sp_cs_lt _ _ _ _ _ | with_reducible exact sp_cb_lt _ _ _ _ _ | with_reducible exact sp_ch_lt _ | with_reducible exact sp_bf_lt _ _ | omega) (by decide) (by decide) ?_
  refine en_eq rfl (show _ = [.int (nI 8), .int (nI (j % 16))] from rfl) rfl ?_
  refine en_idiv d_Ve_valueBehind_22 (by omega) (by decide) (by decide) ?_
  refine en_istore (ls' := [.ref 43, .int (nI 1), .int (nI 0), .int (nI 1), .int (nI 16), .int (nI ((j % 16) / 8))]) d_Ve_valueBehind_23 (Nat.le_of_ble_eq_true rfl) rfl ?_
  refine ew_aload_n d_Ve_valueBehind_25 rfl ?_
  refine ew_getr (ci := 6) (f := 3) d_Ve_valueBehind_26 rfl rfl rfl tw_200 ?_
  refine ew_iload_n d_Ve_valueBehind_29 rfl ?_
  refine ew_iload_n d_Ve_valueBehind_30 rfl ?_
  refine ew_iload d_Ve_valueBehind_31 rfl ?_
  refine en_callS (As := [.int (nI 1), .int (nI 1), .int (nI ((j % 16) / 8))]) (st := [.ref 22]) (st1 := [.int (nI (103 + 5 * ((j % 16) / 8))), .ref 22]) d_Ve_valueBehind_33 k_Pf_layerStart tw_558 tw_488 rfl (Nat.le_of_ble_eq_true rfl) rfl (Nat.le_of_ble_eq_true rfl) rfl rfl (c_Pf_layerStart1 l g _ L M hs 1 ((j % 16) / 8)) rfl ?_
  refine ew_iald (j := 103 + 5 * ((j % 16) / 8)) d_Ve_valueBehind_36 rfl (rfl) (by omega) (by decide) ?_
  refine en_eq (st' := [.int (nI (sp_vb10 fn j))]) rfl (by rw [show (M 22 (103 + 5 * ((j % 16) / 8))) = (nI (sp_vb10 fn j)) from sp_vbp (i := 103) (s := 5) (q := j % 16 / 8) hfn (by decide) (by decide) (by omega)]) rfl ?_
  exact ew_iret d_Ve_valueBehind_37 rfl (⟨rfl, rfl, rfl⟩)
set_option maxRecDepth 100000 in
theorem c_Ve_valueBehind11 (l : Launch) (g : ew_G) (d L : Nat) (M : ew_M) (hs : sp_st M) (fn : Nat → Nat) (hfn : sp_fnok (M 22) fn) (j : Nat) (hj : M 46 1 = nI j) (hj2 : j < 16) :
    Ew l g (d + 1) 0 0 m_Ve_valueBehind 0 [.ref 43, .int (nI 1), .int (nI 1), .retAddr 0, .retAddr 0, .retAddr 0] [] (ew_SH L) M (ew_q (some (.int (nI (sp_vb11 fn j)))) (ew_SH L) M) := by
  refine ew_iload_n d_Ve_valueBehind_0 rfl ?_
  refine ew_iconst (v := nI 1) d_Ve_valueBehind_1 (by decide) ?_
  refine en_iadd d_Ve_valueBehind_2 ?_
  refine en_eq rfl (show _ = [.int (nI 2)] from rfl) rfl ?_
  refine en_istore_n (ls' := [.ref 43, .int (nI 1), .int (nI 1), .int (nI 2), .retAddr 0, .retAddr 0]) d_Ve_valueBehind_3 (Nat.le_of_ble_eq_true rfl) rfl ?_
  refine ew_iload_n d_Ve_valueBehind_4 rfl ?_
  refine en_callS (As := [.int (nI 2)]) (st := []) (st1 := [.int (nI 8)]) d_Ve_valueBehind_5 k_Pf_layerSize tw_556 tw_162 rfl (Nat.le_of_ble_eq_true rfl) rfl (Nat.le_of_ble_eq_true rfl) rfl rfl (c_Pf_layerSize2 l g _ L M) rfl ?_
  refine en_istore (ls' := [.ref 43, .int (nI 1), .int (nI 1), .int (nI 2), .int (nI 8), .retAddr 0]) d_Ve_valueBehind_8 (Nat.le_of_ble_eq_true rfl) rfl ?_
  refine ew_aload_n d_Ve_valueBehind_10 rfl ?_
  refine ew_iload_n d_Ve_valueBehind_11 rfl ?_
  refine en_callV (As := [.int (nI 1)]) (i := 43) (ci := 6) (st := []) (st1 := [.int (nI j)]) d_Ve_valueBehind_12 k_Ve_place rfl rfl tw_542 tw_543 tw_544 rfl (Nat.le_of_ble_eq_true rfl) rfl (Nat.le_of_ble_eq_true rfl) rfl rfl (c_Ve_place l g _ L M 1 j (by decide) (hj)) rfl ?_
  refine ew_iload d_Ve_valueBehind_15 rfl ?_
  refine en_irem d_Ve_valueBehind_17 (by omega) (by decide) (by decide) ?_
  refine ew_iload d_Ve_valueBehind_18 rfl ?_
  refine ew_iconst (v := nI 2) d_Ve_valueBehind_20 (by decide) ?_
  refine en_idiv d_Ve_valueBehind_21 (by first | with_reducible assumption | with_reducible exact ep_lt _ | with_reducible exact sp_its_lt _ _ _ | with_reducible exact tb_l_rt _ | with_reducible exact tb_l_x _ | with_reducible exact tb_l_o0 _ | with_reducible exact tb_l_o1 _ | with_reducible exact tb_l_va _ | with_reducible exact tb_l_ll _ | with_reducible exact tb_l_cf _ | with_reducible exact tb_l_kf _ | with_reducible exact sp_ts_lt _ _ _ _ | with_reducible exact sp_w_lt _ _ | with_reducible exact sp_cs_lt _ _ _ _ _ | with_reducible exact sp_cb_lt _ _ _ _ _ | with_reducible exact sp_ch_lt _ | with_reducible exact sp_bf_lt _ _ | omega) (by decide) (by decide) ?_
  refine en_eq rfl (show _ = [.int (nI 4), .int (nI (j % 8))] from rfl) rfl ?_
  refine en_idiv d_Ve_valueBehind_22 (by omega) (by decide) (by decide) ?_
  refine en_istore (ls' := [.ref 43, .int (nI 1), .int (nI 1), .int (nI 2), .int (nI 8), .int (nI ((j % 8) / 4))]) d_Ve_valueBehind_23 (Nat.le_of_ble_eq_true rfl) rfl ?_
  refine ew_aload_n d_Ve_valueBehind_25 rfl ?_
  refine ew_getr (ci := 6) (f := 3) d_Ve_valueBehind_26 rfl rfl rfl tw_200 ?_
  refine ew_iload_n d_Ve_valueBehind_29 rfl ?_
  refine ew_iload_n d_Ve_valueBehind_30 rfl ?_
  refine ew_iload d_Ve_valueBehind_31 rfl ?_
  refine en_callS (As := [.int (nI 1), .int (nI 2), .int (nI ((j % 8) / 4))]) (st := [.ref 22]) (st1 := [.int (nI (113 + 4 * ((j % 8) / 4))), .ref 22]) d_Ve_valueBehind_33 k_Pf_layerStart tw_558 tw_488 rfl (Nat.le_of_ble_eq_true rfl) rfl (Nat.le_of_ble_eq_true rfl) rfl rfl (c_Pf_layerStart2 l g _ L M hs 1 ((j % 8) / 4)) rfl ?_
  refine ew_iald (j := 113 + 4 * ((j % 8) / 4)) d_Ve_valueBehind_36 rfl (rfl) (by omega) (by decide) ?_
  refine en_eq (st' := [.int (nI (sp_vb11 fn j))]) rfl (by rw [show (M 22 (113 + 4 * ((j % 8) / 4))) = (nI (sp_vb11 fn j)) from sp_vbp (i := 113) (s := 4) (q := j % 8 / 4) hfn (by decide) (by decide) (by omega)]) rfl ?_
  exact ew_iret d_Ve_valueBehind_37 rfl (⟨rfl, rfl, rfl⟩)
set_option maxRecDepth 100000 in
theorem c_Ve_doColumnPathsLead2 (l : Launch) (g : ew_G) (d L : Nat) (M : ew_M) (hs : sp_st M) (j : Nat) (hj : M 46 2 = nI j) (hj2 : j < 16) :
    Ew l g (d + 3) 0 0 m_Ve_doColumnPathsLead 0 [.ref 43, .int (nI 2), .retAddr 0, .retAddr 0, .retAddr 0, .retAddr 0] [] (ew_SH L) M (ew_q (some (.int (ew_b (sp_vc2 (M 22) j)))) (ew_SH L) M) := by
  refine ew_iconst (v := nI 0) d_Ve_doColumnPathsLead_0 (by decide) ?_
  refine en_istore_n (ls' := [.ref 43, .int (nI 2), .int (nI 0), .retAddr 0, .retAddr 0, .retAddr 0]) d_Ve_doColumnPathsLead_1 (Nat.le_of_ble_eq_true rfl) rfl ?_
  refine ew_iload_n d_Ve_doColumnPathsLead_2 rfl ?_
  refine ew_iconst (v := nI 4) d_Ve_doColumnPathsLead_3 (by decide) ?_
  refine en_icmp_ge (tgt := 78) d_Ve_doColumnPathsLead_4 (by decide) (by first | with_reducible assumption | with_reducible exact ep_lt _ | with_reducible exact sp_its_lt _ _ _ | with_reducible exact tb_l_rt _ | with_reducible exact tb_l_x _ | with_reducible exact tb_l_o0 _ | with_reducible exact tb_l_o1 _ | with_reducible exact tb_l_va _ | with_reducible exact tb_l_ll _ | with_reducible exact tb_l_cf _ | with_reducible exact tb_l_kf _ | with_reducible exact sp_ts_lt _ _ _ _ | with_reducible exact sp_w_lt _ _ | with_reducible exact sp_cs_lt _ _ _ _ _ | with_reducible exact sp_cb_lt _ _ _ _ _ | with_reducible exact sp_ch_lt _ | with_reducible exact sp_bf_lt _ _ | omega) (by first | with_reducible assumption | with_reducible exact ep_lt _ | with_reducible exact sp_its_lt _ _ _ | with_reducible exact tb_l_rt _ | with_reducible exact tb_l_x _ | with_reducible exact tb_l_o0 _ | with_reducible exact tb_l_o1 _ | with_reducible exact tb_l_va _ | with_reducible exact tb_l_ll _ | with_reducible exact tb_l_cf _ | with_reducible exact tb_l_kf _ | with_reducible exact sp_ts_lt _ _ _ _ | with_reducible exact sp_w_lt _ _ | with_reducible exact sp_cs_lt _ _ _ _ _ | with_reducible exact sp_cb_lt _ _ _ _ _ | with_reducible exact sp_ch_lt _ | with_reducible exact sp_bf_lt _ _ | omega) (fun h4 => by exact absurd h4 (by decide)) (fun h4 => ?_)
  refine ew_aload_n d_Ve_doColumnPathsLead_7 rfl ?_
  refine ew_iload_n d_Ve_doColumnPathsLead_8 rfl ?_
  refine en_callV (As := [.int (nI 2)]) (i := 43) (ci := 6) (st := []) (st1 := [.int (nI j)]) d_Ve_doColumnPathsLead_9 k_Ve_place rfl rfl tw_542 tw_543 tw_544 rfl (Nat.le_of_ble_eq_true rfl) rfl (Nat.le_of_ble_eq_true rfl) rfl rfl (c_Ve_place l g _ L M 2 j (by decide) (hj)) rfl ?_
  refine ew_iload_n d_Ve_doColumnPathsLead_12 rfl ?_
  refine en_callS (As := [.int (nI j), .int (nI 0)]) (st := []) (st1 := [.int (nI ((j + 0) % 32))]) d_Ve_doColumnPathsLead_13 k_Pf_columnIndex tw_546 tw_468 rfl (Nat.le_of_ble_eq_true rfl) rfl (Nat.le_of_ble_eq_true rfl) rfl rfl (c_Pf_columnIndex0 l g _ L M (hs) j (hj2)) rfl ?_
  refine en_istore_n (ls' := [.ref 43, .int (nI 2), .int (nI 0), .int (nI ((j + 0) % 32)), .retAddr 0, .retAddr 0]) d_Ve_doColumnPathsLead_16 (Nat.le_of_ble_eq_true rfl) rfl ?_
  refine ew_iload_n d_Ve_doColumnPathsLead_17 rfl ?_
  refine ew_iload_n d_Ve_doColumnPathsLead_18 rfl ?_
  refine en_callS (As := [.int (nI 2), .int (nI 0)]) (st := []) (st1 := [.int (nI 121)]) d_Ve_doColumnPathsLead_19 k_Pf_columnStart tw_547 tw_473 rfl (Nat.le_of_ble_eq_true rfl) rfl (Nat.le_of_ble_eq_true rfl) rfl rfl (c_Pf_columnStart l g _ L M 2 0) rfl ?_
  refine en_istore (ls' := [.ref 43, .int (nI 2), .int (nI 0), .int (nI ((j + 0) % 32)), .int (nI 121), .retAddr 0]) d_Ve_doColumnPathsLead_22 (Nat.le_of_ble_eq_true rfl) rfl ?_
  refine ew_aload_n d_Ve_doColumnPathsLead_24 rfl ?_
  refine ew_getr (ci := 6) (f := 3) d_Ve_doColumnPathsLead_25 rfl rfl rfl tw_200 ?_
  refine ew_iload d_Ve_doColumnPathsLead_28 rfl ?_
  refine ew_iald (j := 121) d_Ve_doColumnPathsLead_30 rfl (rfl) (by decide) (by decide) ?_
  refine ew_aload_n d_Ve_doColumnPathsLead_31 rfl ?_
  refine ew_getr (ci := 6) (f := 3) d_Ve_doColumnPathsLead_32 rfl rfl rfl tw_200 ?_
  refine ew_iload d_Ve_doColumnPathsLead_35 rfl ?_
  refine ew_iconst (v := nI 1) d_Ve_doColumnPathsLead_37 (by decide) ?_
  refine en_iadd d_Ve_doColumnPathsLead_38 ?_
  refine en_eq rfl (show _ = [.int (nI 122), .ref 22, .int (M 22 121)] from rfl) rfl ?_
  refine ew_iald (j := 122) d_Ve_doColumnPathsLead_39 rfl (rfl) (by decide) (by decide) ?_
  refine en_callS (As := [.int (M 22 121), .int (M 22 122)]) (st := []) (st1 := [.int (sp_mix (M 22 121) (M 22 122))]) d_Ve_doColumnPathsLead_40 k_Pf_columnLeaf tw_548 tw_373 rfl (Nat.le_of_ble_eq_true rfl) rfl (Nat.le_of_ble_eq_true rfl) rfl rfl (c_Pf_columnLeaf l g _ L M (M 22 121) (M 22 122)) rfl ?_
  refine en_istore (ls' := [.ref 43, .int (nI 2), .int (nI 0), .int (nI ((j + 0) % 32)), .int (nI 121), .int (sp_mix (M 22 121) (M 22 122))]) d_Ve_doColumnPathsLead_43 (Nat.le_of_ble_eq_true rfl) rfl ?_
  refine ew_bipush (v := nI 32) d_Ve_doColumnPathsLead_45 (by decide) ?_
  refine ew_iload_n d_Ve_doColumnPathsLead_47 rfl ?_
  refine ew_iload d_Ve_doColumnPathsLead_48 rfl ?_
  refine ew_aload_n d_Ve_doColumnPathsLead_50 rfl ?_
  refine ew_getr (ci := 6) (f := 3) d_Ve_doColumnPathsLead_51 rfl rfl rfl tw_200 ?_
  refine ew_iload d_Ve_doColumnPathsLead_54 rfl ?_
  refine ew_iconst (v := nI 2) d_Ve_doColumnPathsLead_56 (by decide) ?_
  refine en_iadd d_Ve_doColumnPathsLead_57 ?_
  refine en_eq rfl (show _ = [.int (nI 123), .ref 22, .int (sp_mix (M 22 121) (M 22 122)), .int (nI ((j + 0) % 32)), .int (nI 32)] from rfl) rfl ?_
  refine en_callS (As := [.int (nI 32), .int (nI ((j + 0) % 32)), .int (sp_mix (M 22 121) (M 22 122)), .ref 22, .int (nI 123)]) (st := []) (st1 := [.int (sp_ro (M 22) 6 (sp_mix (M 22 121) (M 22 122)) (32 + ((j + 0) % 32)) 123)]) d_Ve_doColumnPathsLead_58 k_Tr_rootOf tw_549 tw_550 rfl (Nat.le_of_ble_eq_true rfl) rfl (Nat.le_of_ble_eq_true rfl) rfl rfl (c_Tr_rootOf l g _ L M 32 ((j + 0) % 32) 123 6 (sp_mix (M 22 121) (M 22 122)) (by omega) (by omega) (by omega)) rfl ?_
  refine ew_aload_n d_Ve_doColumnPathsLead_61 rfl ?_
  refine ew_getr (ci := 6) (f := 3) d_Ve_doColumnPathsLead_62 rfl rfl rfl tw_200 ?_
  refine ew_iconst (v := nI 0) d_Ve_doColumnPathsLead_65 (by decide) ?_
  refine ew_iald (j := 0) d_Ve_doColumnPathsLead_66 rfl (rfl) (by decide) (by decide) ?_
  refine ew_icmp_eq (tgt := 72) d_Ve_doColumnPathsLead_67 (by decide) (fun h67 => ?_) (fun h67 => ?_)
  · refine en_inc (ls' := [.ref 43, .int (nI 2), .int (nI 1), .int (nI ((j + 0) % 32)), .int (nI 121), .int (sp_mix (M 22 121) (M 22 122))]) d_Ve_doColumnPathsLead_72 rfl rfl ?_
    refine ew_goto (tgt := 2) d_Ve_doColumnPathsLead_75 (by decide) ?_
    refine ew_iload_n d_Ve_doColumnPathsLead_2 rfl ?_
    refine ew_iconst (v := nI 4) d_Ve_doColumnPathsLead_3 (by decide) ?_
    refine en_icmp_ge (tgt := 78) d_Ve_doColumnPathsLead_4 (by decide) (by first | with_reducible assumption | with_reducible exact ep_lt _ | with_reducible exact sp_its_lt _ _ _ | with_reducible exact tb_l_rt _ | with_reducible exact tb_l_x _ | with_reducible exact tb_l_o0 _ | with_reducible exact tb_l_o1 _ | with_reducible exact tb_l_va _ | with_reducible exact tb_l_ll _ | with_reducible exact tb_l_cf _ | with_reducible exact tb_l_kf _ | with_reducible exact sp_ts_lt _ _ _ _ | with_reducible exact sp_w_lt _ _ | with_reducible exact sp_cs_lt _ _ _ _ _ | with_reducible exact sp_cb_lt _ _ _ _ _ | with_reducible exact sp_ch_lt _ | with_reducible exact sp_bf_lt _ _ | omega) (by first | with_reducible assumption | with_reducible exact ep_lt _ | with_reducible exact sp_its_lt _ _ _ | with_reducible exact tb_l_rt _ | with_reducible exact tb_l_x _ | with_reducible exact tb_l_o0 _ | with_reducible exact tb_l_o1 _ | with_reducible exact tb_l_va _ | with_reducible exact tb_l_ll _ | with_reducible exact tb_l_cf _ | with_reducible exact tb_l_kf _ | with_reducible exact sp_ts_lt _ _ _ _ | with_reducible exact sp_w_lt _ _ | with_reducible exact sp_cs_lt _ _ _ _ _ | with_reducible exact sp_cb_lt _ _ _ _ _ | with_reducible exact sp_ch_lt _ | with_reducible exact sp_bf_lt _ _ | omega) (fun h4_1 => by exact absurd h4_1 (by decide)) (fun h4_1 => ?_)
    refine ew_aload_n d_Ve_doColumnPathsLead_7 rfl ?_
    refine ew_iload_n d_Ve_doColumnPathsLead_8 rfl ?_
    refine en_callV (As := [.int (nI 2)]) (i := 43) (ci := 6) (st := []) (st1 := [.int (nI j)]) d_Ve_doColumnPathsLead_9 k_Ve_place rfl rfl tw_542 tw_543 tw_544 rfl (Nat.le_of_ble_eq_true rfl) rfl (Nat.le_of_ble_eq_true rfl) rfl rfl (c_Ve_place l g _ L M 2 j (by decide) (hj)) rfl ?_
    refine ew_iload_n d_Ve_doColumnPathsLead_12 rfl ?_
    refine en_callS (As := [.int (nI j), .int (nI 1)]) (st := []) (st1 := [.int (nI ((j + 4) % 32))]) d_Ve_doColumnPathsLead_13 k_Pf_columnIndex tw_546 tw_468 rfl (Nat.le_of_ble_eq_true rfl) rfl (Nat.le_of_ble_eq_true rfl) rfl rfl (c_Pf_columnIndex1 l g _ L M (hs) j (hj2)) rfl ?_
    refine en_istore_n (ls' := [.ref 43, .int (nI 2), .int (nI 1), .int (nI ((j + 4) % 32)), .int (nI 121), .int (sp_mix (M 22 121) (M 22 122))]) d_Ve_doColumnPathsLead_16 (Nat.le_of_ble_eq_true rfl) rfl ?_
    refine ew_iload_n d_Ve_doColumnPathsLead_17 rfl ?_
    refine ew_iload_n d_Ve_doColumnPathsLead_18 rfl ?_
    refine en_callS (As := [.int (nI 2), .int (nI 1)]) (st := []) (st1 := [.int (nI 128)]) d_Ve_doColumnPathsLead_19 k_Pf_columnStart tw_547 tw_473 rfl (Nat.le_of_ble_eq_true rfl) rfl (Nat.le_of_ble_eq_true rfl) rfl rfl (c_Pf_columnStart l g _ L M 2 1) rfl ?_
    refine en_istore (ls' := [.ref 43, .int (nI 2), .int (nI 1), .int (nI ((j + 4) % 32)), .int (nI 128), .int (sp_mix (M 22 121) (M 22 122))]) d_Ve_doColumnPathsLead_22 (Nat.le_of_ble_eq_true rfl) rfl ?_
    refine ew_aload_n d_Ve_doColumnPathsLead_24 rfl ?_
    refine ew_getr (ci := 6) (f := 3) d_Ve_doColumnPathsLead_25 rfl rfl rfl tw_200 ?_
    refine ew_iload d_Ve_doColumnPathsLead_28 rfl ?_
    refine ew_iald (j := 128) d_Ve_doColumnPathsLead_30 rfl (rfl) (by decide) (by decide) ?_
    refine ew_aload_n d_Ve_doColumnPathsLead_31 rfl ?_
    refine ew_getr (ci := 6) (f := 3) d_Ve_doColumnPathsLead_32 rfl rfl rfl tw_200 ?_
    refine ew_iload d_Ve_doColumnPathsLead_35 rfl ?_
    refine ew_iconst (v := nI 1) d_Ve_doColumnPathsLead_37 (by decide) ?_
    refine en_iadd d_Ve_doColumnPathsLead_38 ?_
    refine en_eq rfl (show _ = [.int (nI 129), .ref 22, .int (M 22 128)] from rfl) rfl ?_
    refine ew_iald (j := 129) d_Ve_doColumnPathsLead_39 rfl (rfl) (by decide) (by decide) ?_
    refine en_callS (As := [.int (M 22 128), .int (M 22 129)]) (st := []) (st1 := [.int (sp_mix (M 22 128) (M 22 129))]) d_Ve_doColumnPathsLead_40 k_Pf_columnLeaf tw_548 tw_373 rfl (Nat.le_of_ble_eq_true rfl) rfl (Nat.le_of_ble_eq_true rfl) rfl rfl (c_Pf_columnLeaf l g _ L M (M 22 128) (M 22 129)) rfl ?_
    refine en_istore (ls' := [.ref 43, .int (nI 2), .int (nI 1), .int (nI ((j + 4) % 32)), .int (nI 128), .int (sp_mix (M 22 128) (M 22 129))]) d_Ve_doColumnPathsLead_43 (Nat.le_of_ble_eq_true rfl) rfl ?_
    refine ew_bipush (v := nI 32) d_Ve_doColumnPathsLead_45 (by decide) ?_
    refine ew_iload_n d_Ve_doColumnPathsLead_47 rfl ?_
    refine ew_iload d_Ve_doColumnPathsLead_48 rfl ?_
    refine ew_aload_n d_Ve_doColumnPathsLead_50 rfl ?_
    refine ew_getr (ci := 6) (f := 3) d_Ve_doColumnPathsLead_51 rfl rfl rfl tw_200 ?_
    refine ew_iload d_Ve_doColumnPathsLead_54 rfl ?_
    refine ew_iconst (v := nI 2) d_Ve_doColumnPathsLead_56 (by decide) ?_
    refine en_iadd d_Ve_doColumnPathsLead_57 ?_
    refine en_eq rfl (show _ = [.int (nI 130), .ref 22, .int (sp_mix (M 22 128) (M 22 129)), .int (nI ((j + 4) % 32)), .int (nI 32)] from rfl) rfl ?_
    refine en_callS (As := [.int (nI 32), .int (nI ((j + 4) % 32)), .int (sp_mix (M 22 128) (M 22 129)), .ref 22, .int (nI 130)]) (st := []) (st1 := [.int (sp_ro (M 22) 6 (sp_mix (M 22 128) (M 22 129)) (32 + ((j + 4) % 32)) 130)]) d_Ve_doColumnPathsLead_58 k_Tr_rootOf tw_549 tw_550 rfl (Nat.le_of_ble_eq_true rfl) rfl (Nat.le_of_ble_eq_true rfl) rfl rfl (c_Tr_rootOf l g _ L M 32 ((j + 4) % 32) 130 6 (sp_mix (M 22 128) (M 22 129)) (by omega) (by omega) (by omega)) rfl ?_
    refine ew_aload_n d_Ve_doColumnPathsLead_61 rfl ?_
    refine ew_getr (ci := 6) (f := 3) d_Ve_doColumnPathsLead_62 rfl rfl rfl tw_200 ?_
    refine ew_iconst (v := nI 0) d_Ve_doColumnPathsLead_65 (by decide) ?_
    refine ew_iald (j := 0) d_Ve_doColumnPathsLead_66 rfl (rfl) (by decide) (by decide) ?_
    refine ew_icmp_eq (tgt := 72) d_Ve_doColumnPathsLead_67 (by decide) (fun h67_1 => ?_) (fun h67_1 => ?_)
    · refine en_inc (ls' := [.ref 43, .int (nI 2), .int (nI 2), .int (nI ((j + 4) % 32)), .int (nI 128), .int (sp_mix (M 22 128) (M 22 129))]) d_Ve_doColumnPathsLead_72 rfl rfl ?_
      refine ew_goto (tgt := 2) d_Ve_doColumnPathsLead_75 (by decide) ?_
      refine ew_iload_n d_Ve_doColumnPathsLead_2 rfl ?_
      refine ew_iconst (v := nI 4) d_Ve_doColumnPathsLead_3 (by decide) ?_
      refine en_icmp_ge (tgt := 78) d_Ve_doColumnPathsLead_4 (by decide) (by first | with_reducible assumption | with_reducible exact ep_lt _ | with_reducible exact sp_its_lt _ _ _ | with_reducible exact tb_l_rt _ | with_reducible exact tb_l_x _ | with_reducible exact tb_l_o0 _ | with_reducible exact tb_l_o1 _ | with_reducible exact tb_l_va _ | with_reducible exact tb_l_ll _ | with_reducible exact tb_l_cf _ | with_reducible exact tb_l_kf _ | with_reducible exact sp_ts_lt _ _ _ _ | with_reducible exact sp_w_lt _ _ | with_reducible exact sp_cs_lt _ _ _ _ _ | with_reducible exact sp_cb_lt _ _ _ _ _ | with_reducible exact sp_ch_lt _ | with_reducible exact sp_bf_lt _ _ | omega) (by first | with_reducible assumption | with_reducible exact ep_lt _ | with_reducible exact sp_its_lt _ _ _ | with_reducible exact tb_l_rt _ | with_reducible exact tb_l_x _ | with_reducible exact tb_l_o0 _ | with_reducible exact tb_l_o1 _ | with_reducible exact tb_l_va _ | with_reducible exact tb_l_ll _ | with_reducible exact tb_l_cf _ | with_reducible exact tb_l_kf _ | with_reducible exact sp_ts_lt _ _ _ _ | with_reducible exact sp_w_lt _ _ | with_reducible exact sp_cs_lt _ _ _ _ _ | with_reducible exact sp_cb_lt _ _ _ _ _ | with_reducible exact sp_ch_lt _ | with_reducible exact sp_bf_lt _ _ | omega) (fun h4_2 => by exact absurd h4_2 (by decide)) (fun h4_2 => ?_)
      refine ew_aload_n d_Ve_doColumnPathsLead_7 rfl ?_
      refine ew_iload_n d_Ve_doColumnPathsLead_8 rfl ?_
      refine en_callV (As := [.int (nI 2)]) (i := 43) (ci := 6) (st := []) (st1 := [.int (nI j)]) d_Ve_doColumnPathsLead_9 k_Ve_place rfl rfl tw_542 tw_543 tw_544 rfl (Nat.le_of_ble_eq_true rfl) rfl (Nat.le_of_ble_eq_true rfl) rfl rfl (c_Ve_place l g _ L M 2 j (by decide) (hj)) rfl ?_
      refine ew_iload_n d_Ve_doColumnPathsLead_12 rfl ?_
      refine en_callS (As := [.int (nI j), .int (nI 2)]) (st := []) (st1 := [.int (nI ((j + 16) % 32))]) d_Ve_doColumnPathsLead_13 k_Pf_columnIndex tw_546 tw_468 rfl (Nat.le_of_ble_eq_true rfl) rfl (Nat.le_of_ble_eq_true rfl) rfl rfl (c_Pf_columnIndex2 l g _ L M (hs) j (hj2)) rfl ?_
      refine en_istore_n (ls' := [.ref 43, .int (nI 2), .int (nI 2), .int (nI ((j + 16) % 32)), .int (nI 128), .int (sp_mix (M 22 128) (M 22 129))]) d_Ve_doColumnPathsLead_16 (Nat.le_of_ble_eq_true rfl) rfl ?_
      refine ew_iload_n d_Ve_doColumnPathsLead_17 rfl ?_
      refine ew_iload_n d_Ve_doColumnPathsLead_18 rfl ?_
      refine en_callS (As := [.int (nI 2), .int (nI 2)]) (st := []) (st1 := [.int (nI 135)]) d_Ve_doColumnPathsLead_19 k_Pf_columnStart tw_547 tw_473 rfl (Nat.le_of_ble_eq_true rfl) rfl (Nat.le_of_ble_eq_true rfl) rfl rfl (c_Pf_columnStart l g _ L M 2 2) rfl ?_
      refine en_istore (ls' := [.ref 43, .int (nI 2), .int (nI 2), .int (nI ((j + 16) % 32)), .int (nI 135), .int (sp_mix (M 22 128) (M 22 129))]) d_Ve_doColumnPathsLead_22 (Nat.le_of_ble_eq_true rfl) rfl ?_
      refine ew_aload_n d_Ve_doColumnPathsLead_24 rfl ?_
      refine ew_getr (ci := 6) (f := 3) d_Ve_doColumnPathsLead_25 rfl rfl rfl tw_200 ?_
      refine ew_iload d_Ve_doColumnPathsLead_28 rfl ?_
      refine ew_iald (j := 135) d_Ve_doColumnPathsLead_30 rfl (rfl) (by decide) (by decide) ?_
      refine ew_aload_n d_Ve_doColumnPathsLead_31 rfl ?_
      refine ew_getr (ci := 6) (f := 3) d_Ve_doColumnPathsLead_32 rfl rfl rfl tw_200 ?_
      refine ew_iload d_Ve_doColumnPathsLead_35 rfl ?_
      refine ew_iconst (v := nI 1) d_Ve_doColumnPathsLead_37 (by decide) ?_
      refine en_iadd d_Ve_doColumnPathsLead_38 ?_
      refine en_eq rfl (show _ = [.int (nI 136), .ref 22, .int (M 22 135)] from rfl) rfl ?_
      refine ew_iald (j := 136) d_Ve_doColumnPathsLead_39 rfl (rfl) (by decide) (by decide) ?_
      refine en_callS (As := [.int (M 22 135), .int (M 22 136)]) (st := []) (st1 := [.int (sp_mix (M 22 135) (M 22 136))]) d_Ve_doColumnPathsLead_40 k_Pf_columnLeaf tw_548 tw_373 rfl (Nat.le_of_ble_eq_true rfl) rfl (Nat.le_of_ble_eq_true rfl) rfl rfl (c_Pf_columnLeaf l g _ L M (M 22 135) (M 22 136)) rfl ?_
      refine en_istore (ls' := [.ref 43, .int (nI 2), .int (nI 2), .int (nI ((j + 16) % 32)), .int (nI 135), .int (sp_mix (M 22 135) (M 22 136))]) d_Ve_doColumnPathsLead_43 (Nat.le_of_ble_eq_true rfl) rfl ?_
      refine ew_bipush (v := nI 32) d_Ve_doColumnPathsLead_45 (by decide) ?_
      refine ew_iload_n d_Ve_doColumnPathsLead_47 rfl ?_
      refine ew_iload d_Ve_doColumnPathsLead_48 rfl ?_
      refine ew_aload_n d_Ve_doColumnPathsLead_50 rfl ?_
      refine ew_getr (ci := 6) (f := 3) d_Ve_doColumnPathsLead_51 rfl rfl rfl tw_200 ?_
      refine ew_iload d_Ve_doColumnPathsLead_54 rfl ?_
      refine ew_iconst (v := nI 2) d_Ve_doColumnPathsLead_56 (by decide) ?_
      refine en_iadd d_Ve_doColumnPathsLead_57 ?_
      refine en_eq rfl (show _ = [.int (nI 137), .ref 22, .int (sp_mix (M 22 135) (M 22 136)), .int (nI ((j + 16) % 32)), .int (nI 32)] from rfl) rfl ?_
      refine en_callS (As := [.int (nI 32), .int (nI ((j + 16) % 32)), .int (sp_mix (M 22 135) (M 22 136)), .ref 22, .int (nI 137)]) (st := []) (st1 := [.int (sp_ro (M 22) 6 (sp_mix (M 22 135) (M 22 136)) (32 + ((j + 16) % 32)) 137)]) d_Ve_doColumnPathsLead_58 k_Tr_rootOf tw_549 tw_550 rfl (Nat.le_of_ble_eq_true rfl) rfl (Nat.le_of_ble_eq_true rfl) rfl rfl (c_Tr_rootOf l g _ L M 32 ((j + 16) % 32) 137 6 (sp_mix (M 22 135) (M 22 136)) (by omega) (by omega) (by omega)) rfl ?_
      refine ew_aload_n d_Ve_doColumnPathsLead_61 rfl ?_
      refine ew_getr (ci := 6) (f := 3) d_Ve_doColumnPathsLead_62 rfl rfl rfl tw_200 ?_
      refine ew_iconst (v := nI 0) d_Ve_doColumnPathsLead_65 (by decide) ?_
      refine ew_iald (j := 0) d_Ve_doColumnPathsLead_66 rfl (rfl) (by decide) (by decide) ?_
      refine ew_icmp_eq (tgt := 72) d_Ve_doColumnPathsLead_67 (by decide) (fun h67_2 => ?_) (fun h67_2 => ?_)
      · refine en_inc (ls' := [.ref 43, .int (nI 2), .int (nI 3), .int (nI ((j + 16) % 32)), .int (nI 135), .int (sp_mix (M 22 135) (M 22 136))]) d_Ve_doColumnPathsLead_72 rfl rfl ?_
        refine ew_goto (tgt := 2) d_Ve_doColumnPathsLead_75 (by decide) ?_
        refine ew_iload_n d_Ve_doColumnPathsLead_2 rfl ?_
        refine ew_iconst (v := nI 4) d_Ve_doColumnPathsLead_3 (by decide) ?_
        refine en_icmp_ge (tgt := 78) d_Ve_doColumnPathsLead_4 (by decide) (by first | with_reducible assumption | with_reducible exact ep_lt _ | with_reducible exact sp_its_lt _ _ _ | with_reducible exact tb_l_rt _ | with_reducible exact tb_l_x _ | with_reducible exact tb_l_o0 _ | with_reducible exact tb_l_o1 _ | with_reducible exact tb_l_va _ | with_reducible exact tb_l_ll _ | with_reducible exact tb_l_cf _ | with_reducible exact tb_l_kf _ | with_reducible exact sp_ts_lt _ _ _ _ | with_reducible exact sp_w_lt _ _ | with_reducible exact sp_cs_lt _ _ _ _ _ | with_reducible exact sp_cb_lt _ _ _ _ _ | with_reducible exact sp_ch_lt _ | with_reducible exact sp_bf_lt _ _ | omega) (by first | with_reducible assumption | with_reducible exact ep_lt _ | with_reducible exact sp_its_lt _ _ _ | with_reducible exact tb_l_rt _ | with_reducible exact tb_l_x _ | with_reducible exact tb_l_o0 _ | with_reducible exact tb_l_o1 _ | with_reducible exact tb_l_va _ | with_reducible exact tb_l_ll _ | with_reducible exact tb_l_cf _ | with_reducible exact tb_l_kf _ | with_reducible exact sp_ts_lt _ _ _ _ | with_reducible exact sp_w_lt _ _ | with_reducible exact sp_cs_lt _ _ _ _ _ | with_reducible exact sp_cb_lt _ _ _ _ _ | with_reducible exact sp_ch_lt _ | with_reducible exact sp_bf_lt _ _ | omega) (fun h4_3 => by exact absurd h4_3 (by decide)) (fun h4_3 => ?_)
        refine ew_aload_n d_Ve_doColumnPathsLead_7 rfl ?_
        refine ew_iload_n d_Ve_doColumnPathsLead_8 rfl ?_
        refine en_callV (As := [.int (nI 2)]) (i := 43) (ci := 6) (st := []) (st1 := [.int (nI j)]) d_Ve_doColumnPathsLead_9 k_Ve_place rfl rfl tw_542 tw_543 tw_544 rfl (Nat.le_of_ble_eq_true rfl) rfl (Nat.le_of_ble_eq_true rfl) rfl rfl (c_Ve_place l g _ L M 2 j (by decide) (hj)) rfl ?_
        refine ew_iload_n d_Ve_doColumnPathsLead_12 rfl ?_
        refine en_callS (As := [.int (nI j), .int (nI 3)]) (st := []) (st1 := [.int (nI ((j + 20) % 32))]) d_Ve_doColumnPathsLead_13 k_Pf_columnIndex tw_546 tw_468 rfl (Nat.le_of_ble_eq_true rfl) rfl (Nat.le_of_ble_eq_true rfl) rfl rfl (c_Pf_columnIndex3 l g _ L M (hs) j (hj2)) rfl ?_
        refine en_istore_n (ls' := [.ref 43, .int (nI 2), .int (nI 3), .int (nI ((j + 20) % 32)), .int (nI 135), .int (sp_mix (M 22 135) (M 22 136))]) d_Ve_doColumnPathsLead_16 (Nat.le_of_ble_eq_true rfl) rfl ?_
        refine ew_iload_n d_Ve_doColumnPathsLead_17 rfl ?_
        refine ew_iload_n d_Ve_doColumnPathsLead_18 rfl ?_
        refine en_callS (As := [.int (nI 2), .int (nI 3)]) (st := []) (st1 := [.int (nI 142)]) d_Ve_doColumnPathsLead_19 k_Pf_columnStart tw_547 tw_473 rfl (Nat.le_of_ble_eq_true rfl) rfl (Nat.le_of_ble_eq_true rfl) rfl rfl (c_Pf_columnStart l g _ L M 2 3) rfl ?_
        refine en_istore (ls' := [.ref 43, .int (nI 2), .int (nI 3), .int (nI ((j + 20) % 32)), .int (nI 142), .int (sp_mix (M 22 135) (M 22 136))]) d_Ve_doColumnPathsLead_22 (Nat.le_of_ble_eq_true rfl) rfl ?_
        refine ew_aload_n d_Ve_doColumnPathsLead_24 rfl ?_
        refine ew_getr (ci := 6) (f := 3) d_Ve_doColumnPathsLead_25 rfl rfl rfl tw_200 ?_
        refine ew_iload d_Ve_doColumnPathsLead_28 rfl ?_
        refine ew_iald (j := 142) d_Ve_doColumnPathsLead_30 rfl (rfl) (by decide) (by decide) ?_
        refine ew_aload_n d_Ve_doColumnPathsLead_31 rfl ?_
        refine ew_getr (ci := 6) (f := 3) d_Ve_doColumnPathsLead_32 rfl rfl rfl tw_200 ?_
        refine ew_iload d_Ve_doColumnPathsLead_35 rfl ?_
        refine ew_iconst (v := nI 1) d_Ve_doColumnPathsLead_37 (by decide) ?_
        refine en_iadd d_Ve_doColumnPathsLead_38 ?_
        refine en_eq rfl (show _ = [.int (nI 143), .ref 22, .int (M 22 142)] from rfl) rfl ?_
        refine ew_iald (j := 143) d_Ve_doColumnPathsLead_39 rfl (rfl) (by decide) (by decide) ?_
        refine en_callS (As := [.int (M 22 142), .int (M 22 143)]) (st := []) (st1 := [.int (sp_mix (M 22 142) (M 22 143))]) d_Ve_doColumnPathsLead_40 k_Pf_columnLeaf tw_548 tw_373 rfl (Nat.le_of_ble_eq_true rfl) rfl (Nat.le_of_ble_eq_true rfl) rfl rfl (c_Pf_columnLeaf l g _ L M (M 22 142) (M 22 143)) rfl ?_
        refine en_istore (ls' := [.ref 43, .int (nI 2), .int (nI 3), .int (nI ((j + 20) % 32)), .int (nI 142), .int (sp_mix (M 22 142) (M 22 143))]) d_Ve_doColumnPathsLead_43 (Nat.le_of_ble_eq_true rfl) rfl ?_
        refine ew_bipush (v := nI 32) d_Ve_doColumnPathsLead_45 (by decide) ?_
        refine ew_iload_n d_Ve_doColumnPathsLead_47 rfl ?_
        refine ew_iload d_Ve_doColumnPathsLead_48 rfl ?_
        refine ew_aload_n d_Ve_doColumnPathsLead_50 rfl ?_
        refine ew_getr (ci := 6) (f := 3) d_Ve_doColumnPathsLead_51 rfl rfl rfl tw_200 ?_
        refine ew_iload d_Ve_doColumnPathsLead_54 rfl ?_
        refine ew_iconst (v := nI 2) d_Ve_doColumnPathsLead_56 (by decide) ?_
        refine en_iadd d_Ve_doColumnPathsLead_57 ?_
        refine en_eq rfl (show _ = [.int (nI 144), .ref 22, .int (sp_mix (M 22 142) (M 22 143)), .int (nI ((j + 20) % 32)), .int (nI 32)] from rfl) rfl ?_
        refine en_callS (As := [.int (nI 32), .int (nI ((j + 20) % 32)), .int (sp_mix (M 22 142) (M 22 143)), .ref 22, .int (nI 144)]) (st := []) (st1 := [.int (sp_ro (M 22) 6 (sp_mix (M 22 142) (M 22 143)) (32 + ((j + 20) % 32)) 144)]) d_Ve_doColumnPathsLead_58 k_Tr_rootOf tw_549 tw_550 rfl (Nat.le_of_ble_eq_true rfl) rfl (Nat.le_of_ble_eq_true rfl) rfl rfl (c_Tr_rootOf l g _ L M 32 ((j + 20) % 32) 144 6 (sp_mix (M 22 142) (M 22 143)) (by omega) (by omega) (by omega)) rfl ?_
        refine ew_aload_n d_Ve_doColumnPathsLead_61 rfl ?_
        refine ew_getr (ci := 6) (f := 3) d_Ve_doColumnPathsLead_62 rfl rfl rfl tw_200 ?_
        refine ew_iconst (v := nI 0) d_Ve_doColumnPathsLead_65 (by decide) ?_
        refine ew_iald (j := 0) d_Ve_doColumnPathsLead_66 rfl (rfl) (by decide) (by decide) ?_
        refine ew_icmp_eq (tgt := 72) d_Ve_doColumnPathsLead_67 (by decide) (fun h67_3 => ?_) (fun h67_3 => ?_)
        · refine en_inc (ls' := [.ref 43, .int (nI 2), .int (nI 4), .int (nI ((j + 20) % 32)), .int (nI 142), .int (sp_mix (M 22 142) (M 22 143))]) d_Ve_doColumnPathsLead_72 rfl rfl ?_
          refine ew_goto (tgt := 2) d_Ve_doColumnPathsLead_75 (by decide) ?_
          refine ew_iload_n d_Ve_doColumnPathsLead_2 rfl ?_
          refine ew_iconst (v := nI 4) d_Ve_doColumnPathsLead_3 (by decide) ?_
          refine en_icmp_ge (tgt := 78) d_Ve_doColumnPathsLead_4 (by decide) (by first | with_reducible assumption | with_reducible exact ep_lt _ | with_reducible exact sp_its_lt _ _ _ | with_reducible exact tb_l_rt _ | with_reducible exact tb_l_x _ | with_reducible exact tb_l_o0 _ | with_reducible exact tb_l_o1 _ | with_reducible exact tb_l_va _ | with_reducible exact tb_l_ll _ | with_reducible exact tb_l_cf _ | with_reducible exact tb_l_kf _ | with_reducible exact sp_ts_lt _ _ _ _ | with_reducible exact sp_w_lt _ _ | with_reducible exact sp_cs_lt _ _ _ _ _ | with_reducible exact sp_cb_lt _ _ _ _ _ | with_reducible exact sp_ch_lt _ | with_reducible exact sp_bf_lt _ _ | omega) (by first | with_reducible assumption | with_reducible exact ep_lt _ | with_reducible exact sp_its_lt _ _ _ | with_reducible exact tb_l_rt _ | with_reducible exact tb_l_x _ | with_reducible exact tb_l_o0 _ | with_reducible exact tb_l_o1 _ | with_reducible exact tb_l_va _ | with_reducible exact tb_l_ll _ | with_reducible exact tb_l_cf _ | with_reducible exact tb_l_kf _ | with_reducible exact sp_ts_lt _ _ _ _ | with_reducible exact sp_w_lt _ _ | with_reducible exact sp_cs_lt _ _ _ _ _ | with_reducible exact sp_cb_lt _ _ _ _ _ | with_reducible exact sp_ch_lt _ | with_reducible exact sp_bf_lt _ _ | omega) (fun h4_4 => ?_) (fun h4_4 => by exact absurd h4_4 (by decide))
          refine ew_iconst (v := nI 1) d_Ve_doColumnPathsLead_78 (by decide) ?_
          exact ew_zret d_Ve_doColumnPathsLead_79 rfl (by decide) (⟨by rw [show sp_vc2 (M 22) j = true from by (unfold sp_vc2; rw [show (decide (sp_ro (M 22) 6 (sp_mix (M 22 121) (M 22 122)) (32 + (j + 0) % 32) 123 = M 22 0)) = true from decide_eq_true h67, show (decide (sp_ro (M 22) 6 (sp_mix (M 22 128) (M 22 129)) (32 + (j + 4) % 32) 130 = M 22 0)) = true from decide_eq_true h67_1, show (decide (sp_ro (M 22) 6 (sp_mix (M 22 135) (M 22 136)) (32 + (j + 16) % 32) 137 = M 22 0)) = true from decide_eq_true h67_2, show (decide (sp_ro (M 22) 6 (sp_mix (M 22 142) (M 22 143)) (32 + (j + 20) % 32) 144 = M 22 0)) = true from decide_eq_true h67_3]; first | rfl | done)]; rfl, rfl, rfl⟩)
        · refine ew_iconst (v := nI 0) d_Ve_doColumnPathsLead_70 (by decide) ?_
          exact ew_zret d_Ve_doColumnPathsLead_71 rfl (by decide) (⟨by rw [show sp_vc2 (M 22) j = false from by (unfold sp_vc2; rw [show (decide (sp_ro (M 22) 6 (sp_mix (M 22 121) (M 22 122)) (32 + (j + 0) % 32) 123 = M 22 0)) = true from decide_eq_true h67, show (decide (sp_ro (M 22) 6 (sp_mix (M 22 128) (M 22 129)) (32 + (j + 4) % 32) 130 = M 22 0)) = true from decide_eq_true h67_1, show (decide (sp_ro (M 22) 6 (sp_mix (M 22 135) (M 22 136)) (32 + (j + 16) % 32) 137 = M 22 0)) = true from decide_eq_true h67_2, show (decide (sp_ro (M 22) 6 (sp_mix (M 22 142) (M 22 143)) (32 + (j + 20) % 32) 144 = M 22 0)) = false from decide_eq_false h67_3]; first | rfl | done)]; rfl, rfl, rfl⟩)
      · refine ew_iconst (v := nI 0) d_Ve_doColumnPathsLead_70 (by decide) ?_
        exact ew_zret d_Ve_doColumnPathsLead_71 rfl (by decide) (⟨by rw [show sp_vc2 (M 22) j = false from by (unfold sp_vc2; rw [show (decide (sp_ro (M 22) 6 (sp_mix (M 22 121) (M 22 122)) (32 + (j + 0) % 32) 123 = M 22 0)) = true from decide_eq_true h67, show (decide (sp_ro (M 22) 6 (sp_mix (M 22 128) (M 22 129)) (32 + (j + 4) % 32) 130 = M 22 0)) = true from decide_eq_true h67_1, show (decide (sp_ro (M 22) 6 (sp_mix (M 22 135) (M 22 136)) (32 + (j + 16) % 32) 137 = M 22 0)) = false from decide_eq_false h67_2]; first | rfl | done)]; rfl, rfl, rfl⟩)
    · refine ew_iconst (v := nI 0) d_Ve_doColumnPathsLead_70 (by decide) ?_
      exact ew_zret d_Ve_doColumnPathsLead_71 rfl (by decide) (⟨by rw [show sp_vc2 (M 22) j = false from by (unfold sp_vc2; rw [show (decide (sp_ro (M 22) 6 (sp_mix (M 22 121) (M 22 122)) (32 + (j + 0) % 32) 123 = M 22 0)) = true from decide_eq_true h67, show (decide (sp_ro (M 22) 6 (sp_mix (M 22 128) (M 22 129)) (32 + (j + 4) % 32) 130 = M 22 0)) = false from decide_eq_false h67_1]; first | rfl | done)]; rfl, rfl, rfl⟩)
  · refine ew_iconst (v := nI 0) d_Ve_doColumnPathsLead_70 (by decide) ?_
    exact ew_zret d_Ve_doColumnPathsLead_71 rfl (by decide) (⟨by rw [show sp_vc2 (M 22) j = false from by (unfold sp_vc2; rw [show (decide (sp_ro (M 22) 6 (sp_mix (M 22 121) (M 22 122)) (32 + (j + 0) % 32) 123 = M 22 0)) = false from decide_eq_false h67]; first | rfl | done)]; rfl, rfl, rfl⟩)
set_option maxRecDepth 100000 in
theorem c_Ve_doLayerPathsLead20 (l : Launch) (g : ew_G) (d L : Nat) (M : ew_M) (hs : sp_st M) (j : Nat) (hj : M 46 2 = nI j) (hj2 : j < 16) :
    Ew l g (d + 3) 0 0 m_Ve_doLayerPathsLead 0 [.ref 43, .int (nI 2), .int (nI 0), .retAddr 0, .retAddr 0, .retAddr 0, .retAddr 0, .retAddr 0] [] (ew_SH L) M (ew_q (some (.int (ew_b (sp_vl20 (M 22) j)))) (ew_SH L) M) := by
  refine ew_iload_n d_Ve_doLayerPathsLead_0 rfl ?_
  refine en_callS (As := [.int (nI 0)]) (st := []) (st1 := [.int (nI 32)]) d_Ve_doLayerPathsLead_1 k_Pf_layerSize tw_556 tw_162 rfl (Nat.le_of_ble_eq_true rfl) rfl (Nat.le_of_ble_eq_true rfl) rfl rfl (c_Pf_layerSize0 l g _ L M) rfl ?_
  refine en_istore_n (ls' := [.ref 43, .int (nI 2), .int (nI 0), .int (nI 32), .retAddr 0, .retAddr 0, .retAddr 0, .retAddr 0]) d_Ve_doLayerPathsLead_4 (Nat.le_of_ble_eq_true rfl) rfl ?_
  refine ew_iconst (v := nI 0) d_Ve_doLayerPathsLead_5 (by decide) ?_
  refine en_istore (ls' := [.ref 43, .int (nI 2), .int (nI 0), .int (nI 32), .int (nI 0), .retAddr 0, .retAddr 0, .retAddr 0]) d_Ve_doLayerPathsLead_6 (Nat.le_of_ble_eq_true rfl) rfl ?_
  refine ew_iload d_Ve_doLayerPathsLead_8 rfl ?_
  refine ew_iconst (v := nI 2) d_Ve_doLayerPathsLead_10 (by decide) ?_
  refine en_icmp_ge (tgt := 83) d_Ve_doLayerPathsLead_11 (by decide) (by first | with_reducible assumption | with_reducible exact ep_lt _ | with_reducible exact sp_its_lt _ _ _ | with_reducible exact tb_l_rt _ | with_reducible exact tb_l_x _ | with_reducible exact tb_l_o0 _ | with_reducible exact tb_l_o1 _ | with_reducible exact tb_l_va _ | with_reducible exact tb_l_ll _ | with_reducible exact tb_l_cf _ | with_reducible exact tb_l_kf _ | with_reducible exact sp_ts_lt _ _ _ _ | with_reducible exact sp_w_lt _ _ | with_reducible exact sp_cs_lt _ _ _ _ _ | with_reducible exact sp_cb_lt _ _ _ _ _ | with_reducible exact sp_ch_lt _ | with_reducible exact sp_bf_lt _ _ | omega) (by first | with_reducible assumption | with_reducible exact ep_lt _ | with_reducible exact sp_its_lt _ _ _ | with_reducible exact tb_l_rt _ | with_reducible exact tb_l_x _ | with_reducible exact tb_l_o0 _ | with_reducible exact tb_l_o1 _ | with_reducible exact tb_l_va _ | with_reducible exact tb_l_ll _ | with_reducible exact tb_l_cf _ | with_reducible exact tb_l_kf _ | with_reducible exact sp_ts_lt _ _ _ _ | with_reducible exact sp_w_lt _ _ | with_reducible exact sp_cs_lt _ _ _ _ _ | with_reducible exact sp_cb_lt _ _ _ _ _ | with_reducible exact sp_ch_lt _ | with_reducible exact sp_bf_lt _ _ | omega) (fun h11 => by exact absurd h11 (by decide)) (fun h11 => ?_)
  refine ew_aload_n d_Ve_doLayerPathsLead_14 rfl ?_
  refine ew_iload_n d_Ve_doLayerPathsLead_15 rfl ?_
  refine en_callV (As := [.int (nI 2)]) (i := 43) (ci := 6) (st := []) (st1 := [.int (nI j)]) d_Ve_doLayerPathsLead_16 k_Ve_place rfl rfl tw_542 tw_543 tw_544 rfl (Nat.le_of_ble_eq_true rfl) rfl (Nat.le_of_ble_eq_true rfl) rfl rfl (c_Ve_place l g _ L M 2 j (by decide) (hj)) rfl ?_
  refine ew_iload_n d_Ve_doLayerPathsLead_19 rfl ?_
  refine ew_iload d_Ve_doLayerPathsLead_20 rfl ?_
  refine en_callS (As := [.int (nI j), .int (nI 0), .int (nI 0)]) (st := []) (st1 := [.int (nI (j % 16 + 16 * 0))]) d_Ve_doLayerPathsLead_22 k_Pf_layerIndex tw_557 tw_484 rfl (Nat.le_of_ble_eq_true rfl) rfl (Nat.le_of_ble_eq_true rfl) rfl rfl (c_Pf_layerIndex0 l g _ L M j 0 (hj2)) rfl ?_
  refine en_istore (ls' := [.ref 43, .int (nI 2), .int (nI 0), .int (nI 32), .int (nI 0), .int (nI (j % 16 + 16 * 0)), .retAddr 0, .retAddr 0]) d_Ve_doLayerPathsLead_25 (Nat.le_of_ble_eq_true rfl) rfl ?_
  refine ew_iload_n d_Ve_doLayerPathsLead_27 rfl ?_
  refine ew_iload_n d_Ve_doLayerPathsLead_28 rfl ?_
  refine ew_iload d_Ve_doLayerPathsLead_29 rfl ?_
  refine en_callS (As := [.int (nI 2), .int (nI 0), .int (nI 0)]) (st := []) (st1 := [.int (nI 149)]) d_Ve_doLayerPathsLead_31 k_Pf_layerStart tw_558 tw_488 rfl (Nat.le_of_ble_eq_true rfl) rfl (Nat.le_of_ble_eq_true rfl) rfl rfl (c_Pf_layerStart0 l g _ L M (hs) 2 0) rfl ?_
  refine en_istore (ls' := [.ref 43, .int (nI 2), .int (nI 0), .int (nI 32), .int (nI 0), .int (nI (j % 16 + 16 * 0)), .int (nI 149), .retAddr 0]) d_Ve_doLayerPathsLead_34 (Nat.le_of_ble_eq_true rfl) rfl ?_
  refine ew_aload_n d_Ve_doLayerPathsLead_36 rfl ?_
  refine ew_getr (ci := 6) (f := 3) d_Ve_doLayerPathsLead_37 rfl rfl rfl tw_200 ?_
  refine ew_iload d_Ve_doLayerPathsLead_40 rfl ?_
  refine ew_iald (j := 149) d_Ve_doLayerPathsLead_42 rfl (rfl) (by decide) (by decide) ?_
  refine en_callS (As := [.int (M 22 149)]) (st := []) (st1 := [.int (sp_mix (M 22 149) (nI 12289))]) d_Ve_doLayerPathsLead_43 k_Pf_layerLeaf tw_559 tw_453 rfl (Nat.le_of_ble_eq_true rfl) rfl (Nat.le_of_ble_eq_true rfl) rfl rfl (c_Pf_layerLeaf l g _ L M (M 22 149)) rfl ?_
  refine en_istore (ls' := [.ref 43, .int (nI 2), .int (nI 0), .int (nI 32), .int (nI 0), .int (nI (j % 16 + 16 * 0)), .int (nI 149), .int (sp_mix (M 22 149) (nI 12289))]) d_Ve_doLayerPathsLead_46 (Nat.le_of_ble_eq_true rfl) rfl ?_
  refine ew_iload_n d_Ve_doLayerPathsLead_48 rfl ?_
  refine ew_iload d_Ve_doLayerPathsLead_49 rfl ?_
  refine ew_iload d_Ve_doLayerPathsLead_51 rfl ?_
  refine ew_aload_n d_Ve_doLayerPathsLead_53 rfl ?_
  refine ew_getr (ci := 6) (f := 3) d_Ve_doLayerPathsLead_54 rfl rfl rfl tw_200 ?_
  refine ew_iload d_Ve_doLayerPathsLead_57 rfl ?_
  refine ew_iconst (v := nI 1) d_Ve_doLayerPathsLead_59 (by decide) ?_
  refine en_iadd d_Ve_doLayerPathsLead_60 ?_
  refine en_eq rfl (show _ = [.int (nI 150), .ref 22, .int (sp_mix (M 22 149) (nI 12289)), .int (nI (j % 16 + 16 * 0)), .int (nI 32)] from rfl) rfl ?_
  refine en_callS (As := [.int (nI 32), .int (nI (j % 16 + 16 * 0)), .int (sp_mix (M 22 149) (nI 12289)), .ref 22, .int (nI 150)]) (st := []) (st1 := [.int (sp_ro (M 22) 6 (sp_mix (M 22 149) (nI 12289)) (32 + (j % 16 + 16 * 0)) 150)]) d_Ve_doLayerPathsLead_61 k_Tr_rootOf tw_549 tw_550 rfl (Nat.le_of_ble_eq_true rfl) rfl (Nat.le_of_ble_eq_true rfl) rfl rfl (c_Tr_rootOf l g _ L M 32 (j % 16 + 16 * 0) 150 6 (sp_mix (M 22 149) (nI 12289)) (by omega) (by omega) (by omega)) rfl ?_
  refine ew_aload_n d_Ve_doLayerPathsLead_64 rfl ?_
  refine ew_getr (ci := 6) (f := 3) d_Ve_doLayerPathsLead_65 rfl rfl rfl tw_200 ?_
  refine ew_iconst (v := nI 1) d_Ve_doLayerPathsLead_68 (by decide) ?_
  refine ew_iload_n d_Ve_doLayerPathsLead_69 rfl ?_
  refine en_iadd d_Ve_doLayerPathsLead_70 ?_
  refine en_eq rfl (show _ = [.int (nI 1), .ref 22, .int (sp_ro (M 22) 6 (sp_mix (M 22 149) (nI 12289)) (32 + (j % 16 + 16 * 0)) 150)] from rfl) rfl ?_
  refine ew_iald (j := 1) d_Ve_doLayerPathsLead_71 rfl (rfl) (by decide) (by decide) ?_
  refine ew_icmp_eq (tgt := 77) d_Ve_doLayerPathsLead_72 (by decide) (fun h72 => ?_) (fun h72 => ?_)
  · refine en_inc (ls' := [.ref 43, .int (nI 2), .int (nI 0), .int (nI 32), .int (nI 1), .int (nI (j % 16 + 16 * 0)), .int (nI 149), .int (sp_mix (M 22 149) (nI 12289))]) d_Ve_doLayerPathsLead_77 rfl rfl ?_
    refine ew_goto (tgt := 8) d_Ve_doLayerPathsLead_80 (by decide) ?_
    refine ew_iload d_Ve_doLayerPathsLead_8 rfl ?_
    refine ew_iconst (v := nI 2) d_Ve_doLayerPathsLead_10 (by decide) ?_
    refine en_icmp_ge (tgt := 83) d_Ve_doLayerPathsLead_11 (by decide) (by first | with_reducible assumption | with_reducible exact ep_lt _ | with_reducible exact sp_its_lt _ _ _ | with_reducible exact tb_l_rt _ | with_reducible exact tb_l_x _ | with_reducible exact tb_l_o0 _ | with_reducible exact tb_l_o1 _ | with_reducible exact tb_l_va _ | with_reducible exact tb_l_ll _ | with_reducible exact tb_l_cf _ | with_reducible exact tb_l_kf _ | with_reducible exact sp_ts_lt _ _ _ _ | with_reducible exact sp_w_lt _ _ | with_reducible exact sp_cs_lt _ _ _ _ _ | with_reducible exact sp_cb_lt _ _ _ _ _ | with_reducible exact sp_ch_lt _ | with_reducible exact sp_bf_lt _ _ | omega) (by first | with_reducible assumption | with_reducible exact ep_lt _ | with_reducible exact sp_its_lt _ _ _ | with_reducible exact tb_l_rt _ | with_reducible exact tb_l_x _ | with_reducible exact tb_l_o0 _ | with_reducible exact tb_l_o1 _ | with_reducible exact tb_l_va _ | with_reducible exact tb_l_ll _ | with_reducible exact tb_l_cf _ | with_reducible exact tb_l_kf _ | with_reducible exact sp_ts_lt _ _ _ _ | with_reducible exact sp_w_lt _ _ | with_reducible exact sp_cs_lt _ _ _ _ _ | with_reducible exact sp_cb_lt _ _ _ _ _ | with_reducible exact sp_ch_lt _ | with_reducible exact sp_bf_lt _ _ | omega) (fun h11_1 => by exact absurd h11_1 (by decide)) (fun h11_1 => ?_)
    refine ew_aload_n d_Ve_doLayerPathsLead_14 rfl ?_
    refine ew_iload_n d_Ve_doLayerPathsLead_15 rfl ?_
    refine en_callV (As := [.int (nI 2)]) (i := 43) (ci := 6) (st := []) (st1 := [.int (nI j)]) d_Ve_doLayerPathsLead_16 k_Ve_place rfl rfl tw_542 tw_543 tw_544 rfl (Nat.le_of_ble_eq_true rfl) rfl (Nat.le_of_ble_eq_true rfl) rfl rfl (c_Ve_place l g _ L M 2 j (by decide) (hj)) rfl ?_
    refine ew_iload_n d_Ve_doLayerPathsLead_19 rfl ?_
    refine ew_iload d_Ve_doLayerPathsLead_20 rfl ?_
    refine en_callS (As := [.int (nI j), .int (nI 0), .int (nI 1)]) (st := []) (st1 := [.int (nI (j % 16 + 16 * 1))]) d_Ve_doLayerPathsLead_22 k_Pf_layerIndex tw_557 tw_484 rfl (Nat.le_of_ble_eq_true rfl) rfl (Nat.le_of_ble_eq_true rfl) rfl rfl (c_Pf_layerIndex0 l g _ L M j 1 (hj2)) rfl ?_
    refine en_istore (ls' := [.ref 43, .int (nI 2), .int (nI 0), .int (nI 32), .int (nI 1), .int (nI (j % 16 + 16 * 1)), .int (nI 149), .int (sp_mix (M 22 149) (nI 12289))]) d_Ve_doLayerPathsLead_25 (Nat.le_of_ble_eq_true rfl) rfl ?_
    refine ew_iload_n d_Ve_doLayerPathsLead_27 rfl ?_
    refine ew_iload_n d_Ve_doLayerPathsLead_28 rfl ?_
    refine ew_iload d_Ve_doLayerPathsLead_29 rfl ?_
    refine en_callS (As := [.int (nI 2), .int (nI 0), .int (nI 1)]) (st := []) (st1 := [.int (nI 155)]) d_Ve_doLayerPathsLead_31 k_Pf_layerStart tw_558 tw_488 rfl (Nat.le_of_ble_eq_true rfl) rfl (Nat.le_of_ble_eq_true rfl) rfl rfl (c_Pf_layerStart0 l g _ L M (hs) 2 1) rfl ?_
    refine en_istore (ls' := [.ref 43, .int (nI 2), .int (nI 0), .int (nI 32), .int (nI 1), .int (nI (j % 16 + 16 * 1)), .int (nI 155), .int (sp_mix (M 22 149) (nI 12289))]) d_Ve_doLayerPathsLead_34 (Nat.le_of_ble_eq_true rfl) rfl ?_
    refine ew_aload_n d_Ve_doLayerPathsLead_36 rfl ?_
    refine ew_getr (ci := 6) (f := 3) d_Ve_doLayerPathsLead_37 rfl rfl rfl tw_200 ?_
    refine ew_iload d_Ve_doLayerPathsLead_40 rfl ?_
    refine ew_iald (j := 155) d_Ve_doLayerPathsLead_42 rfl (rfl) (by decide) (by decide) ?_
    refine en_callS (As := [.int (M 22 155)]) (st := []) (st1 := [.int (sp_mix (M 22 155) (nI 12289))]) d_Ve_doLayerPathsLead_43 k_Pf_layerLeaf tw_559 tw_453 rfl (Nat.le_of_ble_eq_true rfl) rfl (Nat.le_of_ble_eq_true rfl) rfl rfl (c_Pf_layerLeaf l g _ L M (M 22 155)) rfl ?_
    refine en_istore (ls' := [.ref 43, .int (nI 2), .int (nI 0), .int (nI 32), .int (nI 1), .int (nI (j % 16 + 16 * 1)), .int (nI 155), .int (sp_mix (M 22 155) (nI 12289))]) d_Ve_doLayerPathsLead_46 (Nat.le_of_ble_eq_true rfl) rfl ?_
    refine ew_iload_n d_Ve_doLayerPathsLead_48 rfl ?_
    refine ew_iload d_Ve_doLayerPathsLead_49 rfl ?_
    refine ew_iload d_Ve_doLayerPathsLead_51 rfl ?_
    refine ew_aload_n d_Ve_doLayerPathsLead_53 rfl ?_
    refine ew_getr (ci := 6) (f := 3) d_Ve_doLayerPathsLead_54 rfl rfl rfl tw_200 ?_
    refine ew_iload d_Ve_doLayerPathsLead_57 rfl ?_
    refine ew_iconst (v := nI 1) d_Ve_doLayerPathsLead_59 (by decide) ?_
    refine en_iadd d_Ve_doLayerPathsLead_60 ?_
    refine en_eq rfl (show _ = [.int (nI 156), .ref 22, .int (sp_mix (M 22 155) (nI 12289)), .int (nI (j % 16 + 16 * 1)), .int (nI 32)] from rfl) rfl ?_
    refine en_callS (As := [.int (nI 32), .int (nI (j % 16 + 16 * 1)), .int (sp_mix (M 22 155) (nI 12289)), .ref 22, .int (nI 156)]) (st := []) (st1 := [.int (sp_ro (M 22) 6 (sp_mix (M 22 155) (nI 12289)) (32 + (j % 16 + 16 * 1)) 156)]) d_Ve_doLayerPathsLead_61 k_Tr_rootOf tw_549 tw_550 rfl (Nat.le_of_ble_eq_true rfl) rfl (Nat.le_of_ble_eq_true rfl) rfl rfl (c_Tr_rootOf l g _ L M 32 (j % 16 + 16 * 1) 156 6 (sp_mix (M 22 155) (nI 12289)) (by omega) (by omega) (by omega)) rfl ?_
    refine ew_aload_n d_Ve_doLayerPathsLead_64 rfl ?_
    refine ew_getr (ci := 6) (f := 3) d_Ve_doLayerPathsLead_65 rfl rfl rfl tw_200 ?_
    refine ew_iconst (v := nI 1) d_Ve_doLayerPathsLead_68 (by decide) ?_
    refine ew_iload_n d_Ve_doLayerPathsLead_69 rfl ?_
    refine en_iadd d_Ve_doLayerPathsLead_70 ?_
    refine en_eq rfl (show _ = [.int (nI 1), .ref 22, .int (sp_ro (M 22) 6 (sp_mix (M 22 155) (nI 12289)) (32 + (j % 16 + 16 * 1)) 156)] from rfl) rfl ?_
    refine ew_iald (j := 1) d_Ve_doLayerPathsLead_71 rfl (rfl) (by decide) (by decide) ?_
    refine ew_icmp_eq (tgt := 77) d_Ve_doLayerPathsLead_72 (by decide) (fun h72_1 => ?_) (fun h72_1 => ?_)
    · refine en_inc (ls' := [.ref 43, .int (nI 2), .int (nI 0), .int (nI 32), .int (nI 2), .int (nI (j % 16 + 16 * 1)), .int (nI 155), .int (sp_mix (M 22 155) (nI 12289))]) d_Ve_doLayerPathsLead_77 rfl rfl ?_
      refine ew_goto (tgt := 8) d_Ve_doLayerPathsLead_80 (by decide) ?_
      refine ew_iload d_Ve_doLayerPathsLead_8 rfl ?_
      refine ew_iconst (v := nI 2) d_Ve_doLayerPathsLead_10 (by decide) ?_
      refine en_icmp_ge (tgt := 83) d_Ve_doLayerPathsLead_11 (by decide) (by first | with_reducible assumption | with_reducible exact ep_lt _ | with_reducible exact sp_its_lt _ _ _ | with_reducible exact tb_l_rt _ | with_reducible exact tb_l_x _ | with_reducible exact tb_l_o0 _ | with_reducible exact tb_l_o1 _ | with_reducible exact tb_l_va _ | with_reducible exact tb_l_ll _ | with_reducible exact tb_l_cf _ | with_reducible exact tb_l_kf _ | with_reducible exact sp_ts_lt _ _ _ _ | with_reducible exact sp_w_lt _ _ | with_reducible exact sp_cs_lt _ _ _ _ _ | with_reducible exact sp_cb_lt _ _ _ _ _ | with_reducible exact sp_ch_lt _ | with_reducible exact sp_bf_lt _ _ | omega) (by first | with_reducible assumption | with_reducible exact ep_lt _ | with_reducible exact sp_its_lt _ _ _ | with_reducible exact tb_l_rt _ | with_reducible exact tb_l_x _ | with_reducible exact tb_l_o0 _ | with_reducible exact tb_l_o1 _ | with_reducible exact tb_l_va _ | with_reducible exact tb_l_ll _ | with_reducible exact tb_l_cf _ | with_reducible exact tb_l_kf _ | with_reducible exact sp_ts_lt _ _ _ _ | with_reducible exact sp_w_lt _ _ | with_reducible exact sp_cs_lt _ _ _ _ _ | with_reducible exact sp_cb_lt _ _ _ _ _ | with_reducible exact sp_ch_lt _ | with_reducible exact sp_bf_lt _ _ | omega) (fun h11_2 => ?_) (fun h11_2 => by exact absurd h11_2 (by decide))
      refine ew_iconst (v := nI 1) d_Ve_doLayerPathsLead_83 (by decide) ?_
      exact ew_zret d_Ve_doLayerPathsLead_84 rfl (by decide) (⟨by rw [show sp_vl20 (M 22) j = true from by (unfold sp_vl20; rw [show (decide (sp_ro (M 22) 6 (sp_mix (M 22 149) (nI 12289)) (32 + (j % 16 + 16 * 0)) 150 = M 22 1)) = true from decide_eq_true h72, show (decide (sp_ro (M 22) 6 (sp_mix (M 22 155) (nI 12289)) (32 + (j % 16 + 16 * 1)) 156 = M 22 1)) = true from decide_eq_true h72_1]; first | rfl | done)]; rfl, rfl, rfl⟩)
    · refine ew_iconst (v := nI 0) d_Ve_doLayerPathsLead_75 (by decide) ?_
      exact ew_zret d_Ve_doLayerPathsLead_76 rfl (by decide) (⟨by rw [show sp_vl20 (M 22) j = false from by (unfold sp_vl20; rw [show (decide (sp_ro (M 22) 6 (sp_mix (M 22 149) (nI 12289)) (32 + (j % 16 + 16 * 0)) 150 = M 22 1)) = true from decide_eq_true h72, show (decide (sp_ro (M 22) 6 (sp_mix (M 22 155) (nI 12289)) (32 + (j % 16 + 16 * 1)) 156 = M 22 1)) = false from decide_eq_false h72_1]; first | rfl | done)]; rfl, rfl, rfl⟩)
  · refine ew_iconst (v := nI 0) d_Ve_doLayerPathsLead_75 (by decide) ?_
    exact ew_zret d_Ve_doLayerPathsLead_76 rfl (by decide) (⟨by rw [show sp_vl20 (M 22) j = false from by (unfold sp_vl20; rw [show (decide (sp_ro (M 22) 6 (sp_mix (M 22 149) (nI 12289)) (32 + (j % 16 + 16 * 0)) 150 = M 22 1)) = false from decide_eq_false h72]; first | rfl | done)]; rfl, rfl, rfl⟩)
set_option maxRecDepth 100000 in
theorem c_Ve_doLayerPathsLead21 (l : Launch) (g : ew_G) (d L : Nat) (M : ew_M) (hs : sp_st M) (j : Nat) (hj : M 46 2 = nI j) (hj2 : j < 16) :
    Ew l g (d + 3) 0 0 m_Ve_doLayerPathsLead 0 [.ref 43, .int (nI 2), .int (nI 1), .retAddr 0, .retAddr 0, .retAddr 0, .retAddr 0, .retAddr 0] [] (ew_SH L) M (ew_q (some (.int (ew_b (sp_vl21 (M 22) j)))) (ew_SH L) M) := by
  refine ew_iload_n d_Ve_doLayerPathsLead_0 rfl ?_
  refine en_callS (As := [.int (nI 1)]) (st := []) (st1 := [.int (nI 16)]) d_Ve_doLayerPathsLead_1 k_Pf_layerSize tw_556 tw_162 rfl (Nat.le_of_ble_eq_true rfl) rfl (Nat.le_of_ble_eq_true rfl) rfl rfl (c_Pf_layerSize1 l g _ L M) rfl ?_
  refine en_istore_n (ls' := [.ref 43, .int (nI 2), .int (nI 1), .int (nI 16), .retAddr 0, .retAddr 0, .retAddr 0, .retAddr 0]) d_Ve_doLayerPathsLead_4 (Nat.le_of_ble_eq_true rfl) rfl ?_
  refine ew_iconst (v := nI 0) d_Ve_doLayerPathsLead_5 (by decide) ?_
  refine en_istore (ls' := [.ref 43, .int (nI 2), .int (nI 1), .int (nI 16), .int (nI 0), .retAddr 0, .retAddr 0, .retAddr 0]) d_Ve_doLayerPathsLead_6 (Nat.le_of_ble_eq_true rfl) rfl ?_
  refine ew_iload d_Ve_doLayerPathsLead_8 rfl ?_
  refine ew_iconst (v := nI 2) d_Ve_doLayerPathsLead_10 (by decide) ?_
  refine en_icmp_ge (tgt := 83) d_Ve_doLayerPathsLead_11 (by decide) (by first | with_reducible assumption | with_reducible exact ep_lt _ | with_reducible exact sp_its_lt _ _ _ | with_reducible exact tb_l_rt _ | with_reducible exact tb_l_x _ | with_reducible exact tb_l_o0 _ | with_reducible exact tb_l_o1 _ | with_reducible exact tb_l_va _ | with_reducible exact tb_l_ll _ | with_reducible exact tb_l_cf _ | with_reducible exact tb_l_kf _ | with_reducible exact sp_ts_lt _ _ _ _ | with_reducible exact sp_w_lt _ _ | with_reducible exact sp_cs_lt _ _ _ _ _ | with_reducible exact sp_cb_lt _ _ _ _ _ | with_reducible exact sp_ch_lt _ | with_reducible exact sp_bf_lt _ _ | omega) (by first | with_reducible assumption | with_reducible exact ep_lt _ | with_reducible exact sp_its_lt _ _ _ | with_reducible exact tb_l_rt _ | with_reducible exact tb_l_x _ | with_reducible exact tb_l_o0 _ | with_reducible exact tb_l_o1 _ | with_reducible exact tb_l_va _ | with_reducible exact tb_l_ll _ | with_reducible exact tb_l_cf _ | with_reducible exact tb_l_kf _ | with_reducible exact sp_ts_lt _ _ _ _ | with_reducible exact sp_w_lt _ _ | with_reducible exact sp_cs_lt _ _ _ _ _ | with_reducible exact sp_cb_lt _ _ _ _ _ | with_reducible exact sp_ch_lt _ | with_reducible exact sp_bf_lt _ _ | omega) (fun h11 => by exact absurd h11 (by decide)) (fun h11 => ?_)
  refine ew_aload_n d_Ve_doLayerPathsLead_14 rfl ?_
  refine ew_iload_n d_Ve_doLayerPathsLead_15 rfl ?_
  refine en_callV (As := [.int (nI 2)]) (i := 43) (ci := 6) (st := []) (st1 := [.int (nI j)]) d_Ve_doLayerPathsLead_16 k_Ve_place rfl rfl tw_542 tw_543 tw_544 rfl (Nat.le_of_ble_eq_true rfl) rfl (Nat.le_of_ble_eq_true rfl) rfl rfl (c_Ve_place l g _ L M 2 j (by decide) (hj)) rfl ?_
  refine ew_iload_n d_Ve_doLayerPathsLead_19 rfl ?_
  refine ew_iload d_Ve_doLayerPathsLead_20 rfl ?_
  refine en_callS (As := [.int (nI j), .int (nI 1), .int (nI 0)]) (st := []) (st1 := [.int (nI (j % 8 + 8 * 0))]) d_Ve_doLayerPathsLead_22 k_Pf_layerIndex tw_557 tw_484 rfl (Nat.le_of_ble_eq_true rfl) rfl (Nat.le_of_ble_eq_true rfl) rfl rfl (c_Pf_layerIndex1 l g _ L M j 0 (hj2)) rfl ?_
  refine en_istore (ls' := [.ref 43, .int (nI 2), .int (nI 1), .int (nI 16), .int (nI 0), .int (nI (j % 8 + 8 * 0)), .retAddr 0, .retAddr 0]) d_Ve_doLayerPathsLead_25 (Nat.le_of_ble_eq_true rfl) rfl ?_
  refine ew_iload_n d_Ve_doLayerPathsLead_27 rfl ?_
  refine ew_iload_n d_Ve_doLayerPathsLead_28 rfl ?_
  refine ew_iload d_Ve_doLayerPathsLead_29 rfl ?_
  refine en_callS (As := [.int (nI 2), .int (nI 1), .int (nI 0)]) (st := []) (st1 := [.int (nI 161)]) d_Ve_doLayerPathsLead_31 k_Pf_layerStart tw_558 tw_488 rfl (Nat.le_of_ble_eq_true rfl) rfl (Nat.le_of_ble_eq_true rfl) rfl rfl (c_Pf_layerStart1 l g _ L M (hs) 2 0) rfl ?_
  refine en_istore (ls' := [.ref 43, .int (nI 2), .int (nI 1), .int (nI 16), .int (nI 0), .int (nI (j % 8 + 8 * 0)), .int (nI 161), .retAddr 0]) d_Ve_doLayerPathsLead_34 (Nat.le_of_ble_eq_true rfl) rfl ?_
  refine ew_aload_n d_Ve_doLayerPathsLead_36 rfl ?_
  refine ew_getr (ci := 6) (f := 3) d_Ve_doLayerPathsLead_37 rfl rfl rfl tw_200 ?_
  refine ew_iload d_Ve_doLayerPathsLead_40 rfl ?_
  refine ew_iald (j := 161) d_Ve_doLayerPathsLead_42 rfl (rfl) (by decide) (by decide) ?_
  refine en_callS (As := [.int (M 22 161)]) (st := []) (st1 := [.int (sp_mix (M 22 161) (nI 12289))]) d_Ve_doLayerPathsLead_43 k_Pf_layerLeaf tw_559 tw_453 rfl (Nat.le_of_ble_eq_true rfl) rfl (Nat.le_of_ble_eq_true rfl) rfl rfl (c_Pf_layerLeaf l g _ L M (M 22 161)) rfl ?_
  refine en_istore (ls' := [.ref 43, .int (nI 2), .int (nI 1), .int (nI 16), .int (nI 0), .int (nI (j % 8 + 8 * 0)), .int (nI 161), .int (sp_mix (M 22 161) (nI 12289))]) d_Ve_doLayerPathsLead_46 (Nat.le_of_ble_eq_true rfl) rfl ?_
  refine ew_iload_n d_Ve_doLayerPathsLead_48 rfl ?_
  refine ew_iload d_Ve_doLayerPathsLead_49 rfl ?_
  refine ew_iload d_Ve_doLayerPathsLead_51 rfl ?_
  refine ew_aload_n d_Ve_doLayerPathsLead_53 rfl ?_
  refine ew_getr (ci := 6) (f := 3) d_Ve_doLayerPathsLead_54 rfl rfl rfl tw_200 ?_
  refine ew_iload d_Ve_doLayerPathsLead_57 rfl ?_
  refine ew_iconst (v := nI 1) d_Ve_doLayerPathsLead_59 (by decide) ?_
  refine en_iadd d_Ve_doLayerPathsLead_60 ?_
  refine en_eq rfl (show _ = [.int (nI 162), .ref 22, .int (sp_mix (M 22 161) (nI 12289)), .int (nI (j % 8 + 8 * 0)), .int (nI 16)] from rfl) rfl ?_
  refine en_callS (As := [.int (nI 16), .int (nI (j % 8 + 8 * 0)), .int (sp_mix (M 22 161) (nI 12289)), .ref 22, .int (nI 162)]) (st := []) (st1 := [.int (sp_ro (M 22) 6 (sp_mix (M 22 161) (nI 12289)) (16 + (j % 8 + 8 * 0)) 162)]) d_Ve_doLayerPathsLead_61 k_Tr_rootOf tw_549 tw_550 rfl (Nat.le_of_ble_eq_true rfl) rfl (Nat.le_of_ble_eq_true rfl) rfl rfl (c_Tr_rootOf l g _ L M 16 (j % 8 + 8 * 0) 162 5 (sp_mix (M 22 161) (nI 12289)) (by omega) (by omega) (by omega)) rfl ?_
  refine ew_aload_n d_Ve_doLayerPathsLead_64 rfl ?_
  refine ew_getr (ci := 6) (f := 3) d_Ve_doLayerPathsLead_65 rfl rfl rfl tw_200 ?_
  refine ew_iconst (v := nI 1) d_Ve_doLayerPathsLead_68 (by decide) ?_
  refine ew_iload_n d_Ve_doLayerPathsLead_69 rfl ?_
  refine en_iadd d_Ve_doLayerPathsLead_70 ?_
  refine en_eq rfl (show _ = [.int (nI 2), .ref 22, .int (sp_ro (M 22) 6 (sp_mix (M 22 161) (nI 12289)) (16 + (j % 8 + 8 * 0)) 162)] from rfl) rfl ?_
  refine ew_iald (j := 2) d_Ve_doLayerPathsLead_71 rfl (rfl) (by decide) (by decide) ?_
  refine ew_icmp_eq (tgt := 77) d_Ve_doLayerPathsLead_72 (by decide) (fun h72 => ?_) (fun h72 => ?_)
  · refine en_inc (ls' := [.ref 43, .int (nI 2), .int (nI 1), .int (nI 16), .int (nI 1), .int (nI (j % 8 + 8 * 0)), .int (nI 161), .int (sp_mix (M 22 161) (nI 12289))]) d_Ve_doLayerPathsLead_77 rfl rfl ?_
    refine ew_goto (tgt := 8) d_Ve_doLayerPathsLead_80 (by decide) ?_
    refine ew_iload d_Ve_doLayerPathsLead_8 rfl ?_
    refine ew_iconst (v := nI 2) d_Ve_doLayerPathsLead_10 (by decide) ?_
    refine en_icmp_ge (tgt := 83) d_Ve_doLayerPathsLead_11 (by decide) (by first | with_reducible assumption | with_reducible exact ep_lt _ | with_reducible exact sp_its_lt _ _ _ | with_reducible exact tb_l_rt _ | with_reducible exact tb_l_x _ | with_reducible exact tb_l_o0 _ | with_reducible exact tb_l_o1 _ | with_reducible exact tb_l_va _ | with_reducible exact tb_l_ll _ | with_reducible exact tb_l_cf _ | with_reducible exact tb_l_kf _ | with_reducible exact sp_ts_lt _ _ _ _ | with_reducible exact sp_w_lt _ _ | with_reducible exact sp_cs_lt _ _ _ _ _ | with_reducible exact sp_cb_lt _ _ _ _ _ | with_reducible exact sp_ch_lt _ | with_reducible exact sp_bf_lt _ _ | omega) (by first | with_reducible assumption | with_reducible exact ep_lt _ | with_reducible exact sp_its_lt _ _ _ | with_reducible exact tb_l_rt _ | with_reducible exact tb_l_x _ | with_reducible exact tb_l_o0 _ | with_reducible exact tb_l_o1 _ | with_reducible exact tb_l_va _ | with_reducible exact tb_l_ll _ | with_reducible exact tb_l_cf _ | with_reducible exact tb_l_kf _ | with_reducible exact sp_ts_lt _ _ _ _ | with_reducible exact sp_w_lt _ _ | with_reducible exact sp_cs_lt _ _ _ _ _ | with_reducible exact sp_cb_lt _ _ _ _ _ | with_reducible exact sp_ch_lt _ | with_reducible exact sp_bf_lt _ _ | omega) (fun h11_1 => by exact absurd h11_1 (by decide)) (fun h11_1 => ?_)
    refine ew_aload_n d_Ve_doLayerPathsLead_14 rfl ?_
    refine ew_iload_n d_Ve_doLayerPathsLead_15 rfl ?_
    refine en_callV (As := [.int (nI 2)]) (i := 43) (ci := 6) (st := []) (st1 := [.int (nI j)]) d_Ve_doLayerPathsLead_16 k_Ve_place rfl rfl tw_542 tw_543 tw_544 rfl (Nat.le_of_ble_eq_true rfl) rfl (Nat.le_of_ble_eq_true rfl) rfl rfl (c_Ve_place l g _ L M 2 j (by decide) (hj)) rfl ?_
    refine ew_iload_n d_Ve_doLayerPathsLead_19 rfl ?_
    refine ew_iload d_Ve_doLayerPathsLead_20 rfl ?_
    refine en_callS (As := [.int (nI j), .int (nI 1), .int (nI 1)]) (st := []) (st1 := [.int (nI (j % 8 + 8 * 1))]) d_Ve_doLayerPathsLead_22 k_Pf_layerIndex tw_557 tw_484 rfl (Nat.le_of_ble_eq_true rfl) rfl (Nat.le_of_ble_eq_true rfl) rfl rfl (c_Pf_layerIndex1 l g _ L M j 1 (hj2)) rfl ?_
    refine en_istore (ls' := [.ref 43, .int (nI 2), .int (nI 1), .int (nI 16), .int (nI 1), .int (nI (j % 8 + 8 * 1)), .int (nI 161), .int (sp_mix (M 22 161) (nI 12289))]) d_Ve_doLayerPathsLead_25 (Nat.le_of_ble_eq_true rfl) rfl ?_
    refine ew_iload_n d_Ve_doLayerPathsLead_27 rfl ?_
    refine ew_iload_n d_Ve_doLayerPathsLead_28 rfl ?_
    refine ew_iload d_Ve_doLayerPathsLead_29 rfl ?_
    refine en_callS (As := [.int (nI 2), .int (nI 1), .int (nI 1)]) (st := []) (st1 := [.int (nI 166)]) d_Ve_doLayerPathsLead_31 k_Pf_layerStart tw_558 tw_488 rfl (Nat.le_of_ble_eq_true rfl) rfl (Nat.le_of_ble_eq_true rfl) rfl rfl (c_Pf_layerStart1 l g _ L M (hs) 2 1) rfl ?_
    refine en_istore (ls' := [.ref 43, .int (nI 2), .int (nI 1), .int (nI 16), .int (nI 1), .int (nI (j % 8 + 8 * 1)), .int (nI 166), .int (sp_mix (M 22 161) (nI 12289))]) d_Ve_doLayerPathsLead_34 (Nat.le_of_ble_eq_true rfl) rfl ?_
    refine ew_aload_n d_Ve_doLayerPathsLead_36 rfl ?_
    refine ew_getr (ci := 6) (f := 3) d_Ve_doLayerPathsLead_37 rfl rfl rfl tw_200 ?_
    refine ew_iload d_Ve_doLayerPathsLead_40 rfl ?_
    refine ew_iald (j := 166) d_Ve_doLayerPathsLead_42 rfl (rfl) (by decide) (by decide) ?_
    refine en_callS (As := [.int (M 22 166)]) (st := []) (st1 := [.int (sp_mix (M 22 166) (nI 12289))]) d_Ve_doLayerPathsLead_43 k_Pf_layerLeaf tw_559 tw_453 rfl (Nat.le_of_ble_eq_true rfl) rfl (Nat.le_of_ble_eq_true rfl) rfl rfl (c_Pf_layerLeaf l g _ L M (M 22 166)) rfl ?_
    refine en_istore (ls' := [.ref 43, .int (nI 2), .int (nI 1), .int (nI 16), .int (nI 1), .int (nI (j % 8 + 8 * 1)), .int (nI 166), .int (sp_mix (M 22 166) (nI 12289))]) d_Ve_doLayerPathsLead_46 (Nat.le_of_ble_eq_true rfl) rfl ?_
    refine ew_iload_n d_Ve_doLayerPathsLead_48 rfl ?_
    refine ew_iload d_Ve_doLayerPathsLead_49 rfl ?_
    refine ew_iload d_Ve_doLayerPathsLead_51 rfl ?_
    refine ew_aload_n d_Ve_doLayerPathsLead_53 rfl ?_
    refine ew_getr (ci := 6) (f := 3) d_Ve_doLayerPathsLead_54 rfl rfl rfl tw_200 ?_
    refine ew_iload d_Ve_doLayerPathsLead_57 rfl ?_
    refine ew_iconst (v := nI 1) d_Ve_doLayerPathsLead_59 (by decide) ?_
    refine en_iadd d_Ve_doLayerPathsLead_60 ?_
    refine en_eq rfl (show _ = [.int (nI 167), .ref 22, .int (sp_mix (M 22 166) (nI 12289)), .int (nI (j % 8 + 8 * 1)), .int (nI 16)] from rfl) rfl ?_
    refine en_callS (As := [.int (nI 16), .int (nI (j % 8 + 8 * 1)), .int (sp_mix (M 22 166) (nI 12289)), .ref 22, .int (nI 167)]) (st := []) (st1 := [.int (sp_ro (M 22) 6 (sp_mix (M 22 166) (nI 12289)) (16 + (j % 8 + 8 * 1)) 167)]) d_Ve_doLayerPathsLead_61 k_Tr_rootOf tw_549 tw_550 rfl (Nat.le_of_ble_eq_true rfl) rfl (Nat.le_of_ble_eq_true rfl) rfl rfl (c_Tr_rootOf l g _ L M 16 (j % 8 + 8 * 1) 167 5 (sp_mix (M 22 166) (nI 12289)) (by omega) (by omega) (by omega)) rfl ?_
    refine ew_aload_n d_Ve_doLayerPathsLead_64 rfl ?_
    refine ew_getr (ci := 6) (f := 3) d_Ve_doLayerPathsLead_65 rfl rfl rfl tw_200 ?_
    refine ew_iconst (v := nI 1) d_Ve_doLayerPathsLead_68 (by decide) ?_
    refine ew_iload_n d_Ve_doLayerPathsLead_69 rfl ?_
    refine en_iadd d_Ve_doLayerPathsLead_70 ?_
    refine en_eq rfl (show _ = [.int (nI 2), .ref 22, .int (sp_ro (M 22) 6 (sp_mix (M 22 166) (nI 12289)) (16 + (j % 8 + 8 * 1)) 167)] from rfl) rfl ?_
    refine ew_iald (j := 2) d_Ve_doLayerPathsLead_71 rfl (rfl) (by decide) (by decide) ?_
    refine ew_icmp_eq (tgt := 77) d_Ve_doLayerPathsLead_72 (by decide) (fun h72_1 => ?_) (fun h72_1 => ?_)
    · refine en_inc (ls' := [.ref 43, .int (nI 2), .int (nI 1), .int (nI 16), .int (nI 2), .int (nI (j % 8 + 8 * 1)), .int (nI 166), .int (sp_mix (M 22 166) (nI 12289))]) d_Ve_doLayerPathsLead_77 rfl rfl ?_
      refine ew_goto (tgt := 8) d_Ve_doLayerPathsLead_80 (by decide) ?_
      refine ew_iload d_Ve_doLayerPathsLead_8 rfl ?_
      refine ew_iconst (v := nI 2) d_Ve_doLayerPathsLead_10 (by decide) ?_
      refine en_icmp_ge (tgt := 83) d_Ve_doLayerPathsLead_11 (by decide) (by first | with_reducible assumption | with_reducible exact ep_lt _ | with_reducible exact sp_its_lt _ _ _ | with_reducible exact tb_l_rt _ | with_reducible exact tb_l_x _ | with_reducible exact tb_l_o0 _ | with_reducible exact tb_l_o1 _ | with_reducible exact tb_l_va _ | with_reducible exact tb_l_ll _ | with_reducible exact tb_l_cf _ | with_reducible exact tb_l_kf _ | with_reducible exact sp_ts_lt _ _ _ _ | with_reducible exact sp_w_lt _ _ | with_reducible exact sp_cs_lt _ _ _ _ _ | with_reducible exact sp_cb_lt _ _ _ _ _ | with_reducible exact sp_ch_lt _ | with_reducible exact sp_bf_lt _ _ | omega) (by first | with_reducible assumption | with_reducible exact ep_lt _ | with_reducible exact sp_its_lt _ _ _ | with_reducible exact tb_l_rt _ | with_reducible exact tb_l_x _ | with_reducible exact tb_l_o0 _ | with_reducible exact tb_l_o1 _ | with_reducible exact tb_l_va _ | with_reducible exact tb_l_ll _ | with_reducible exact tb_l_cf _ | with_reducible exact tb_l_kf _ | with_reducible exact sp_ts_lt _ _ _ _ | with_reducible exact sp_w_lt _ _ | with_reducible exact sp_cs_lt _ _ _ _ _ | with_reducible exact sp_cb_lt _ _ _ _ _ | with_reducible exact sp_ch_lt _ | with_reducible exact sp_bf_lt _ _ | omega) (fun h11_2 => ?_) (fun h11_2 => by exact absurd h11_2 (by decide))
      refine ew_iconst (v := nI 1) d_Ve_doLayerPathsLead_83 (by decide) ?_
      exact ew_zret d_Ve_doLayerPathsLead_84 rfl (by decide) (⟨by rw [show sp_vl21 (M 22) j = true from by (unfold sp_vl21; rw [show (decide (sp_ro (M 22) 6 (sp_mix (M 22 161) (nI 12289)) (16 + (j % 8 + 8 * 0)) 162 = M 22 2)) = true from decide_eq_true h72, show (decide (sp_ro (M 22) 6 (sp_mix (M 22 166) (nI 12289)) (16 + (j % 8 + 8 * 1)) 167 = M 22 2)) = true from decide_eq_true h72_1]; first | rfl | done)]; rfl, rfl, rfl⟩)
    · refine ew_iconst (v := nI 0) d_Ve_doLayerPathsLead_75 (by decide) ?_
      exact ew_zret d_Ve_doLayerPathsLead_76 rfl (by decide) (⟨by rw [show sp_vl21 (M 22) j = false from by (unfold sp_vl21; rw [show (decide (sp_ro (M 22) 6 (sp_mix (M 22 161) (nI 12289)) (16 + (j % 8 + 8 * 0)) 162 = M 22 2)) = true from decide_eq_true h72, show (decide (sp_ro (M 22) 6 (sp_mix (M 22 166) (nI 12289)) (16 + (j % 8 + 8 * 1)) 167 = M 22 2)) = false from decide_eq_false h72_1]; first | rfl | done)]; rfl, rfl, rfl⟩)
  · refine ew_iconst (v := nI 0) d_Ve_doLayerPathsLead_75 (by decide) ?_
    exact ew_zret d_Ve_doLayerPathsLead_76 rfl (by decide) (⟨by rw [show sp_vl21 (M 22) j = false from by (unfold sp_vl21; rw [show (decide (sp_ro (M 22) 6 (sp_mix (M 22 161) (nI 12289)) (16 + (j % 8 + 8 * 0)) 162 = M 22 2)) = false from decide_eq_false h72]; first | rfl | done)]; rfl, rfl, rfl⟩)
set_option maxRecDepth 100000 in
theorem c_Ve_doLayerPathsLead22 (l : Launch) (g : ew_G) (d L : Nat) (M : ew_M) (hs : sp_st M) (j : Nat) (hj : M 46 2 = nI j) (hj2 : j < 16) :
    Ew l g (d + 3) 0 0 m_Ve_doLayerPathsLead 0 [.ref 43, .int (nI 2), .int (nI 2), .retAddr 0, .retAddr 0, .retAddr 0, .retAddr 0, .retAddr 0] [] (ew_SH L) M (ew_q (some (.int (ew_b (sp_vl22 (M 22) j)))) (ew_SH L) M) := by
  refine ew_iload_n d_Ve_doLayerPathsLead_0 rfl ?_
  refine en_callS (As := [.int (nI 2)]) (st := []) (st1 := [.int (nI 8)]) d_Ve_doLayerPathsLead_1 k_Pf_layerSize tw_556 tw_162 rfl (Nat.le_of_ble_eq_true rfl) rfl (Nat.le_of_ble_eq_true rfl) rfl rfl (c_Pf_layerSize2 l g _ L M) rfl ?_
  refine en_istore_n (ls' := [.ref 43, .int (nI 2), .int (nI 2), .int (nI 8), .retAddr 0, .retAddr 0, .retAddr 0, .retAddr 0]) d_Ve_doLayerPathsLead_4 (Nat.le_of_ble_eq_true rfl) rfl ?_
  refine ew_iconst (v := nI 0) d_Ve_doLayerPathsLead_5 (by decide) ?_
  refine en_istore (ls' := [.ref 43, .int (nI 2), .int (nI 2), .int (nI 8), .int (nI 0), .retAddr 0, .retAddr 0, .retAddr 0]) d_Ve_doLayerPathsLead_6 (Nat.le_of_ble_eq_true rfl) rfl ?_
  refine ew_iload d_Ve_doLayerPathsLead_8 rfl ?_
  refine ew_iconst (v := nI 2) d_Ve_doLayerPathsLead_10 (by decide) ?_
  refine en_icmp_ge (tgt := 83) d_Ve_doLayerPathsLead_11 (by decide) (by first | with_reducible assumption | with_reducible exact ep_lt _ | with_reducible exact sp_its_lt _ _ _ | with_reducible exact tb_l_rt _ | with_reducible exact tb_l_x _ | with_reducible exact tb_l_o0 _ | with_reducible exact tb_l_o1 _ | with_reducible exact tb_l_va _ | with_reducible exact tb_l_ll _ | with_reducible exact tb_l_cf _ | with_reducible exact tb_l_kf _ | with_reducible exact sp_ts_lt _ _ _ _ | with_reducible exact sp_w_lt _ _ | with_reducible exact sp_cs_lt _ _ _ _ _ | with_reducible exact sp_cb_lt _ _ _ _ _ | with_reducible exact sp_ch_lt _ | with_reducible exact sp_bf_lt _ _ | omega) (by first | with_reducible assumption | with_reducible exact ep_lt _ | with_reducible exact sp_its_lt _ _ _ | with_reducible exact tb_l_rt _ | with_reducible exact tb_l_x _ | with_reducible exact tb_l_o0 _ | with_reducible exact tb_l_o1 _ | with_reducible exact tb_l_va _ | with_reducible exact tb_l_ll _ | with_reducible exact tb_l_cf _ | with_reducible exact tb_l_kf _ | with_reducible exact sp_ts_lt _ _ _ _ | with_reducible exact sp_w_lt _ _ | with_reducible exact sp_cs_lt _ _ _ _ _ | with_reducible exact sp_cb_lt _ _ _ _ _ | with_reducible exact sp_ch_lt _ | with_reducible exact sp_bf_lt _ _ | omega) (fun h11 => by exact absurd h11 (by decide)) (fun h11 => ?_)
  refine ew_aload_n d_Ve_doLayerPathsLead_14 rfl ?_
  refine ew_iload_n d_Ve_doLayerPathsLead_15 rfl ?_
  refine en_callV (As := [.int (nI 2)]) (i := 43) (ci := 6) (st := []) (st1 := [.int (nI j)]) d_Ve_doLayerPathsLead_16 k_Ve_place rfl rfl tw_542 tw_543 tw_544 rfl (Nat.le_of_ble_eq_true rfl) rfl (Nat.le_of_ble_eq_true rfl) rfl rfl (c_Ve_place l g _ L M 2 j (by decide) (hj)) rfl ?_
  refine ew_iload_n d_Ve_doLayerPathsLead_19 rfl ?_
  refine ew_iload d_Ve_doLayerPathsLead_20 rfl ?_
  refine en_callS (As := [.int (nI j), .int (nI 2), .int (nI 0)]) (st := []) (st1 := [.int (nI (j % 4 + 4 * 0))]) d_Ve_doLayerPathsLead_22 k_Pf_layerIndex tw_557 tw_484 rfl (Nat.le_of_ble_eq_true rfl) rfl (Nat.le_of_ble_eq_true rfl) rfl rfl (c_Pf_layerIndex2 l g _ L M j 0 (hj2)) rfl ?_
  refine en_istore (ls' := [.ref 43, .int (nI 2), .int (nI 2), .int (nI 8), .int (nI 0), .int (nI (j % 4 + 4 * 0)), .retAddr 0, .retAddr 0]) d_Ve_doLayerPathsLead_25 (Nat.le_of_ble_eq_true rfl) rfl ?_
  refine ew_iload_n d_Ve_doLayerPathsLead_27 rfl ?_
  refine ew_iload_n d_Ve_doLayerPathsLead_28 rfl ?_
  refine ew_iload d_Ve_doLayerPathsLead_29 rfl ?_
  refine en_callS (As := [.int (nI 2), .int (nI 2), .int (nI 0)]) (st := []) (st1 := [.int (nI 171)]) d_Ve_doLayerPathsLead_31 k_Pf_layerStart tw_558 tw_488 rfl (Nat.le_of_ble_eq_true rfl) rfl (Nat.le_of_ble_eq_true rfl) rfl rfl (c_Pf_layerStart2 l g _ L M (hs) 2 0) rfl ?_
  refine en_istore (ls' := [.ref 43, .int (nI 2), .int (nI 2), .int (nI 8), .int (nI 0), .int (nI (j % 4 + 4 * 0)), .int (nI 171), .retAddr 0]) d_Ve_doLayerPathsLead_34 (Nat.le_of_ble_eq_true rfl) rfl ?_
  refine ew_aload_n d_Ve_doLayerPathsLead_36 rfl ?_
  refine ew_getr (ci := 6) (f := 3) d_Ve_doLayerPathsLead_37 rfl rfl rfl tw_200 ?_
  refine ew_iload d_Ve_doLayerPathsLead_40 rfl ?_
  refine ew_iald (j := 171) d_Ve_doLayerPathsLead_42 rfl (rfl) (by decide) (by decide) ?_
  refine en_callS (As := [.int (M 22 171)]) (st := []) (st1 := [.int (sp_mix (M 22 171) (nI 12289))]) d_Ve_doLayerPathsLead_43 k_Pf_layerLeaf tw_559 tw_453 rfl (Nat.le_of_ble_eq_true rfl) rfl (Nat.le_of_ble_eq_true rfl) rfl rfl (c_Pf_layerLeaf l g _ L M (M 22 171)) rfl ?_
  refine en_istore (ls' := [.ref 43, .int (nI 2), .int (nI 2), .int (nI 8), .int (nI 0), .int (nI (j % 4 + 4 * 0)), .int (nI 171), .int (sp_mix (M 22 171) (nI 12289))]) d_Ve_doLayerPathsLead_46 (Nat.le_of_ble_eq_true rfl) rfl ?_
  refine ew_iload_n d_Ve_doLayerPathsLead_48 rfl ?_
  refine ew_iload d_Ve_doLayerPathsLead_49 rfl ?_
  refine ew_iload d_Ve_doLayerPathsLead_51 rfl ?_
  refine ew_aload_n d_Ve_doLayerPathsLead_53 rfl ?_
  refine ew_getr (ci := 6) (f := 3) d_Ve_doLayerPathsLead_54 rfl rfl rfl tw_200 ?_
  refine ew_iload d_Ve_doLayerPathsLead_57 rfl ?_
  refine ew_iconst (v := nI 1) d_Ve_doLayerPathsLead_59 (by decide) ?_
  refine en_iadd d_Ve_doLayerPathsLead_60 ?_
  refine en_eq rfl (show _ = [.int (nI 172), .ref 22, .int (sp_mix (M 22 171) (nI 12289)), .int (nI (j % 4 + 4 * 0)), .int (nI 8)] from rfl) rfl ?_
  refine en_callS (As := [.int (nI 8), .int (nI (j % 4 + 4 * 0)), .int (sp_mix (M 22 171) (nI 12289)), .ref 22, .int (nI 172)]) (st := []) (st1 := [.int (sp_ro (M 22) 6 (sp_mix (M 22 171) (nI 12289)) (8 + (j % 4 + 4 * 0)) 172)]) d_Ve_doLayerPathsLead_61 k_Tr_rootOf tw_549 tw_550 rfl (Nat.le_of_ble_eq_true rfl) rfl (Nat.le_of_ble_eq_true rfl) rfl rfl (c_Tr_rootOf l g _ L M 8 (j % 4 + 4 * 0) 172 4 (sp_mix (M 22 171) (nI 12289)) (by omega) (by omega) (by omega)) rfl ?_
  refine ew_aload_n d_Ve_doLayerPathsLead_64 rfl ?_
  refine ew_getr (ci := 6) (f := 3) d_Ve_doLayerPathsLead_65 rfl rfl rfl tw_200 ?_
  refine ew_iconst (v := nI 1) d_Ve_doLayerPathsLead_68 (by decide) ?_
  refine ew_iload_n d_Ve_doLayerPathsLead_69 rfl ?_
  refine en_iadd d_Ve_doLayerPathsLead_70 ?_
  refine en_eq rfl (show _ = [.int (nI 3), .ref 22, .int (sp_ro (M 22) 6 (sp_mix (M 22 171) (nI 12289)) (8 + (j % 4 + 4 * 0)) 172)] from rfl) rfl ?_
  refine ew_iald (j := 3) d_Ve_doLayerPathsLead_71 rfl (rfl) (by decide) (by decide) ?_
  refine ew_icmp_eq (tgt := 77) d_Ve_doLayerPathsLead_72 (by decide) (fun h72 => ?_) (fun h72 => ?_)
  · refine en_inc (ls' := [.ref 43, .int (nI 2), .int (nI 2), .int (nI 8), .int (nI 1), .int (nI (j % 4 + 4 * 0)), .int (nI 171), .int (sp_mix (M 22 171) (nI 12289))]) d_Ve_doLayerPathsLead_77 rfl rfl ?_
    refine ew_goto (tgt := 8) d_Ve_doLayerPathsLead_80 (by decide) ?_
    refine ew_iload d_Ve_doLayerPathsLead_8 rfl ?_
    refine ew_iconst (v := nI 2) d_Ve_doLayerPathsLead_10 (by decide) ?_
    refine en_icmp_ge (tgt := 83) d_Ve_doLayerPathsLead_11 (by decide) (by first | with_reducible assumption | with_reducible exact ep_lt _ | with_reducible exact sp_its_lt _ _ _ | with_reducible exact tb_l_rt _ | with_reducible exact tb_l_x _ | with_reducible exact tb_l_o0 _ | with_reducible exact tb_l_o1 _ | with_reducible exact tb_l_va _ | with_reducible exact tb_l_ll _ | with_reducible exact tb_l_cf _ | with_reducible exact tb_l_kf _ | with_reducible exact sp_ts_lt _ _ _ _ | with_reducible exact sp_w_lt _ _ | with_reducible exact sp_cs_lt _ _ _ _ _ | with_reducible exact sp_cb_lt _ _ _ _ _ | with_reducible exact sp_ch_lt _ | with_reducible exact sp_bf_lt _ _ | omega) (by first | with_reducible assumption | with_reducible exact ep_lt _ | with_reducible exact sp_its_lt _ _ _ | with_reducible exact tb_l_rt _ | with_reducible exact tb_l_x _ | with_reducible exact tb_l_o0 _ | with_reducible exact tb_l_o1 _ | with_reducible exact tb_l_va _ | with_reducible exact tb_l_ll _ | with_reducible exact tb_l_cf _ | with_reducible exact tb_l_kf _ | with_reducible exact sp_ts_lt _ _ _ _ | with_reducible exact sp_w_lt _ _ | with_reducible exact sp_cs_lt _ _ _ _ _ | with_reducible exact sp_cb_lt _ _ _ _ _ | with_reducible exact sp_ch_lt _ | with_reducible exact sp_bf_lt _ _ | omega) (fun h11_1 => by exact absurd h11_1 (by decide)) (fun h11_1 => ?_)
    refine ew_aload_n d_Ve_doLayerPathsLead_14 rfl ?_
    refine ew_iload_n d_Ve_doLayerPathsLead_15 rfl ?_
    refine en_callV (As := [.int (nI 2)]) (i := 43) (ci := 6) (st := []) (st1 := [.int (nI j)]) d_Ve_doLayerPathsLead_16 k_Ve_place rfl rfl tw_542 tw_543 tw_544 rfl (Nat.le_of_ble_eq_true rfl) rfl (Nat.le_of_ble_eq_true rfl) rfl rfl (c_Ve_place l g _ L M 2 j (by decide) (hj)) rfl ?_
    refine ew_iload_n d_Ve_doLayerPathsLead_19 rfl ?_
    refine ew_iload d_Ve_doLayerPathsLead_20 rfl ?_
    refine en_callS (As := [.int (nI j), .int (nI 2), .int (nI 1)]) (st := []) (st1 := [.int (nI (j % 4 + 4 * 1))]) d_Ve_doLayerPathsLead_22 k_Pf_layerIndex tw_557 tw_484 rfl (Nat.le_of_ble_eq_true rfl) rfl (Nat.le_of_ble_eq_true rfl) rfl rfl (c_Pf_layerIndex2 l g _ L M j 1 (hj2)) rfl ?_
    refine en_istore (ls' := [.ref 43, .int (nI 2), .int (nI 2), .int (nI 8), .int (nI 1), .int (nI (j % 4 + 4 * 1)), .int (nI 171), .int (sp_mix (M 22 171) (nI 12289))]) d_Ve_doLayerPathsLead_25 (Nat.le_of_ble_eq_true rfl) rfl ?_
    refine ew_iload_n d_Ve_doLayerPathsLead_27 rfl ?_
    refine ew_iload_n d_Ve_doLayerPathsLead_28 rfl ?_
    refine ew_iload d_Ve_doLayerPathsLead_29 rfl ?_
    refine en_callS (As := [.int (nI 2), .int (nI 2), .int (nI 1)]) (st := []) (st1 := [.int (nI 175)]) d_Ve_doLayerPathsLead_31 k_Pf_layerStart tw_558 tw_488 rfl (Nat.le_of_ble_eq_true rfl) rfl (Nat.le_of_ble_eq_true rfl) rfl rfl (c_Pf_layerStart2 l g _ L M (hs) 2 1) rfl ?_
    refine en_istore (ls' := [.ref 43, .int (nI 2), .int (nI 2), .int (nI 8), .int (nI 1), .int (nI (j % 4 + 4 * 1)), .int (nI 175), .int (sp_mix (M 22 171) (nI 12289))]) d_Ve_doLayerPathsLead_34 (Nat.le_of_ble_eq_true rfl) rfl ?_
    refine ew_aload_n d_Ve_doLayerPathsLead_36 rfl ?_
    refine ew_getr (ci := 6) (f := 3) d_Ve_doLayerPathsLead_37 rfl rfl rfl tw_200 ?_
    refine ew_iload d_Ve_doLayerPathsLead_40 rfl ?_
    refine ew_iald (j := 175) d_Ve_doLayerPathsLead_42 rfl (rfl) (by decide) (by decide) ?_
    refine en_callS (As := [.int (M 22 175)]) (st := []) (st1 := [.int (sp_mix (M 22 175) (nI 12289))]) d_Ve_doLayerPathsLead_43 k_Pf_layerLeaf tw_559 tw_453 rfl (Nat.le_of_ble_eq_true rfl) rfl (Nat.le_of_ble_eq_true rfl) rfl rfl (c_Pf_layerLeaf l g _ L M (M 22 175)) rfl ?_
    refine en_istore (ls' := [.ref 43, .int (nI 2), .int (nI 2), .int (nI 8), .int (nI 1), .int (nI (j % 4 + 4 * 1)), .int (nI 175), .int (sp_mix (M 22 175) (nI 12289))]) d_Ve_doLayerPathsLead_46 (Nat.le_of_ble_eq_true rfl) rfl ?_
    refine ew_iload_n d_Ve_doLayerPathsLead_48 rfl ?_
    refine ew_iload d_Ve_doLayerPathsLead_49 rfl ?_
    refine ew_iload d_Ve_doLayerPathsLead_51 rfl ?_
    refine ew_aload_n d_Ve_doLayerPathsLead_53 rfl ?_
    refine ew_getr (ci := 6) (f := 3) d_Ve_doLayerPathsLead_54 rfl rfl rfl tw_200 ?_
    refine ew_iload d_Ve_doLayerPathsLead_57 rfl ?_
    refine ew_iconst (v := nI 1) d_Ve_doLayerPathsLead_59 (by decide) ?_
    refine en_iadd d_Ve_doLayerPathsLead_60 ?_
    refine en_eq rfl (show _ = [.int (nI 176), .ref 22, .int (sp_mix (M 22 175) (nI 12289)), .int (nI (j % 4 + 4 * 1)), .int (nI 8)] from rfl) rfl ?_
    refine en_callS (As := [.int (nI 8), .int (nI (j % 4 + 4 * 1)), .int (sp_mix (M 22 175) (nI 12289)), .ref 22, .int (nI 176)]) (st := []) (st1 := [.int (sp_ro (M 22) 6 (sp_mix (M 22 175) (nI 12289)) (8 + (j % 4 + 4 * 1)) 176)]) d_Ve_doLayerPathsLead_61 k_Tr_rootOf tw_549 tw_550 rfl (Nat.le_of_ble_eq_true rfl) rfl (Nat.le_of_ble_eq_true rfl) rfl rfl (c_Tr_rootOf l g _ L M 8 (j % 4 + 4 * 1) 176 4 (sp_mix (M 22 175) (nI 12289)) (by omega) (by omega) (by omega)) rfl ?_
    refine ew_aload_n d_Ve_doLayerPathsLead_64 rfl ?_
    refine ew_getr (ci := 6) (f := 3) d_Ve_doLayerPathsLead_65 rfl rfl rfl tw_200 ?_
    refine ew_iconst (v := nI 1) d_Ve_doLayerPathsLead_68 (by decide) ?_
    refine ew_iload_n d_Ve_doLayerPathsLead_69 rfl ?_
    refine en_iadd d_Ve_doLayerPathsLead_70 ?_
    refine en_eq rfl (show _ = [.int (nI 3), .ref 22, .int (sp_ro (M 22) 6 (sp_mix (M 22 175) (nI 12289)) (8 + (j % 4 + 4 * 1)) 176)] from rfl) rfl ?_
    refine ew_iald (j := 3) d_Ve_doLayerPathsLead_71 rfl (rfl) (by decide) (by decide) ?_
    refine ew_icmp_eq (tgt := 77) d_Ve_doLayerPathsLead_72 (by decide) (fun h72_1 => ?_) (fun h72_1 => ?_)
    · refine en_inc (ls' := [.ref 43, .int (nI 2), .int (nI 2), .int (nI 8), .int (nI 2), .int (nI (j % 4 + 4 * 1)), .int (nI 175), .int (sp_mix (M 22 175) (nI 12289))]) d_Ve_doLayerPathsLead_77 rfl rfl ?_
      refine ew_goto (tgt := 8) d_Ve_doLayerPathsLead_80 (by decide) ?_
      refine ew_iload d_Ve_doLayerPathsLead_8 rfl ?_
      refine ew_iconst (v := nI 2) d_Ve_doLayerPathsLead_10 (by decide) ?_
      refine en_icmp_ge (tgt := 83) d_Ve_doLayerPathsLead_11 (by decide) (by first | with_reducible assumption | with_reducible exact ep_lt _ | with_reducible exact sp_its_lt _ _ _ | with_reducible exact tb_l_rt _ | with_reducible exact tb_l_x _ | with_reducible exact tb_l_o0 _ | with_reducible exact tb_l_o1 _ | with_reducible exact tb_l_va _ | with_reducible exact tb_l_ll _ | with_reducible exact tb_l_cf _ | with_reducible exact tb_l_kf _ | with_reducible exact sp_ts_lt _ _ _ _ | with_reducible exact sp_w_lt _ _ | with_reducible exact sp_cs_lt _ _ _ _ _ | with_reducible exact sp_cb_lt _ _ _ _ _ | with_reducible exact sp_ch_lt _ | with_reducible exact sp_bf_lt _ _ | omega) (by first | with_reducible assumption | with_reducible exact ep_lt _ | with_reducible exact sp_its_lt _ _ _ | with_reducible exact tb_l_rt _ | with_reducible exact tb_l_x _ | with_reducible exact tb_l_o0 _ | with_reducible exact tb_l_o1 _ | with_reducible exact tb_l_va _ | with_reducible exact tb_l_ll _ | with_reducible exact tb_l_cf _ | with_reducible exact tb_l_kf _ | with_reducible exact sp_ts_lt _ _ _ _ | with_reducible exact sp_w_lt _ _ | with_reducible exact sp_cs_lt _ _ _ _ _ | with_reducible exact sp_cb_lt _ _ _ _ _ | with_reducible exact sp_ch_lt _ | with_reducible exact sp_bf_lt _ _ | omega) (fun h11_2 => ?_) (fun h11_2 => by exact absurd h11_2 (by decide))
      refine ew_iconst (v := nI 1) d_Ve_doLayerPathsLead_83 (by decide) ?_
      exact ew_zret d_Ve_doLayerPathsLead_84 rfl (by decide) (⟨by rw [show sp_vl22 (M 22) j = true from by (unfold sp_vl22; rw [show (decide (sp_ro (M 22) 6 (sp_mix (M 22 171) (nI 12289)) (8 + (j % 4 + 4 * 0)) 172 = M 22 3)) = true from decide_eq_true h72, show (decide (sp_ro (M 22) 6 (sp_mix (M 22 175) (nI 12289)) (8 + (j % 4 + 4 * 1)) 176 = M 22 3)) = true from decide_eq_true h72_1]; first | rfl | done)]; rfl, rfl, rfl⟩)
    · refine ew_iconst (v := nI 0) d_Ve_doLayerPathsLead_75 (by decide) ?_
      exact ew_zret d_Ve_doLayerPathsLead_76 rfl (by decide) (⟨by rw [show sp_vl22 (M 22) j = false from by (unfold sp_vl22; rw [show (decide (sp_ro (M 22) 6 (sp_mix (M 22 171) (nI 12289)) (8 + (j % 4 + 4 * 0)) 172 = M 22 3)) = true from decide_eq_true h72, show (decide (sp_ro (M 22) 6 (sp_mix (M 22 175) (nI 12289)) (8 + (j % 4 + 4 * 1)) 176 = M 22 3)) = false from decide_eq_false h72_1]; first | rfl | done)]; rfl, rfl, rfl⟩)
  · refine ew_iconst (v := nI 0) d_Ve_doLayerPathsLead_75 (by decide) ?_
    exact ew_zret d_Ve_doLayerPathsLead_76 rfl (by decide) (⟨by rw [show sp_vl22 (M 22) j = false from by (unfold sp_vl22; rw [show (decide (sp_ro (M 22) 6 (sp_mix (M 22 171) (nI 12289)) (8 + (j % 4 + 4 * 0)) 172 = M 22 3)) = false from decide_eq_false h72]; first | rfl | done)]; rfl, rfl, rfl⟩)
set_option maxRecDepth 100000 in
theorem c_Ve_isComposed20 (l : Launch) (g : ew_G) (d L : Nat) (M : ew_M) (ρ : sp_R) (hr : sp_ru ρ M) (hT : sp_tab M) (hs : sp_st M) (h16 : M 16 0 = nI 1) (fn : Nat → Nat) (hfn : sp_fnok (M 22) fn) (A : Nat) (hA : M 44 1 = nI A) (hA2 : A < 12289) (j : Nat) (hj : M 46 2 = nI j) (hj2 : j < 16) :
    Ew l g (d + 3) 0 0 m_Ve_isComposed 0 [.ref 43, .int (nI 2), .int (nI 0), .retAddr 0, .retAddr 0, .retAddr 0] [] (ew_SH L) M (ew_q (some (.int (ew_b (sp_vo2 ρ fn j A 0)))) (ew_SH L) (sp_rd M 16 (nI (fn 121)) (nI (fn 122)) (nI (fn 128)) (nI (fn 129)))) := by
  refine ew_iload_n d_Ve_isComposed_0 rfl ?_
  refine ew_iconst (v := nI 2) d_Ve_isComposed_1 (by decide) ?_
  refine ew_iload_n d_Ve_isComposed_2 rfl ?_
  refine en_imul d_Ve_isComposed_3 ?_
  refine en_eq rfl (show _ = [.int (nI 0), .int (nI 2)] from rfl) rfl ?_
  refine en_callS (As := [.int (nI 2), .int (nI 0)]) (st := []) (st1 := [.int (nI 121)]) d_Ve_isComposed_4 k_Pf_columnStart tw_547 tw_473 rfl (Nat.le_of_ble_eq_true rfl) rfl (Nat.le_of_ble_eq_true rfl) rfl rfl (c_Pf_columnStart l g _ L M 2 0) rfl ?_
  refine en_istore_n (ls' := [.ref 43, .int (nI 2), .int (nI 0), .int (nI 121), .retAddr 0, .retAddr 0]) d_Ve_isComposed_7 (Nat.le_of_ble_eq_true rfl) rfl ?_
  refine ew_iload_n d_Ve_isComposed_8 rfl ?_
  refine ew_iconst (v := nI 2) d_Ve_isComposed_9 (by decide) ?_
  refine ew_iload_n d_Ve_isComposed_10 rfl ?_
  refine en_imul d_Ve_isComposed_11 ?_
  refine en_eq rfl (show _ = [.int (nI 0), .int (nI 2)] from rfl) rfl ?_
  refine ew_iconst (v := nI 1) d_Ve_isComposed_12 (by decide) ?_
  refine en_iadd d_Ve_isComposed_13 ?_
  refine en_eq rfl (show _ = [.int (nI 1), .int (nI 2)] from rfl) rfl ?_
  refine en_callS (As := [.int (nI 2), .int (nI 1)]) (st := []) (st1 := [.int (nI 128)]) d_Ve_isComposed_14 k_Pf_columnStart tw_547 tw_473 rfl (Nat.le_of_ble_eq_true rfl) rfl (Nat.le_of_ble_eq_true rfl) rfl rfl (c_Pf_columnStart l g _ L M 2 1) rfl ?_
  refine en_istore (ls' := [.ref 43, .int (nI 2), .int (nI 0), .int (nI 121), .int (nI 128), .retAddr 0]) d_Ve_isComposed_17 (Nat.le_of_ble_eq_true rfl) rfl ?_
  refine ew_aload_n d_Ve_isComposed_19 rfl ?_
  refine ew_getr (ci := 6) (f := 1) d_Ve_isComposed_20 rfl rfl rfl tw_198 ?_
  refine ew_aload_n d_Ve_isComposed_23 rfl ?_
  refine ew_getr (ci := 6) (f := 3) d_Ve_isComposed_24 rfl rfl rfl tw_200 ?_
  refine ew_iload_n d_Ve_isComposed_27 rfl ?_
  refine ew_iald (j := 121) d_Ve_isComposed_28 rfl (rfl) (by decide) (by decide) ?_
  refine en_eq (st' := [.int (nI (fn 121)), .ref 10]) rfl (by rw [show (M 22 121) = (nI (fn 121)) from (hfn 121 (by decide)).1]) rfl ?_
  refine ew_aload_n d_Ve_isComposed_29 rfl ?_
  refine ew_getr (ci := 6) (f := 3) d_Ve_isComposed_30 rfl rfl rfl tw_200 ?_
  refine ew_iload_n d_Ve_isComposed_33 rfl ?_
  refine ew_iconst (v := nI 1) d_Ve_isComposed_34 (by decide) ?_
  refine en_iadd d_Ve_isComposed_35 ?_
  refine en_eq rfl (show _ = [.int (nI 122), .ref 22, .int (nI (fn 121)), .ref 10] from rfl) rfl ?_
  refine ew_iald (j := 122) d_Ve_isComposed_36 rfl (rfl) (by decide) (by decide) ?_
  refine en_eq (st' := [.int (nI (fn 122)), .int (nI (fn 121)), .ref 10]) rfl (by rw [show (M 22 122) = (nI (fn 122)) from (hfn 122 (by decide)).1]) rfl ?_
  refine ew_aload_n d_Ve_isComposed_37 rfl ?_
  refine ew_getr (ci := 6) (f := 3) d_Ve_isComposed_38 rfl rfl rfl tw_200 ?_
  refine ew_iload d_Ve_isComposed_41 rfl ?_
  refine ew_iald (j := 128) d_Ve_isComposed_43 rfl (rfl) (by decide) (by decide) ?_
  refine en_eq (st' := [.int (nI (fn 128)), .int (nI (fn 122)), .int (nI (fn 121)), .ref 10]) rfl (by rw [show (M 22 128) = (nI (fn 128)) from (hfn 128 (by decide)).1]) rfl ?_
  refine ew_aload_n d_Ve_isComposed_44 rfl ?_
  refine ew_getr (ci := 6) (f := 3) d_Ve_isComposed_45 rfl rfl rfl tw_200 ?_
  refine ew_iload d_Ve_isComposed_48 rfl ?_
  refine ew_iconst (v := nI 1) d_Ve_isComposed_50 (by decide) ?_
  refine en_iadd d_Ve_isComposed_51 ?_
  refine en_eq rfl (show _ = [.int (nI 129), .ref 22, .int (nI (fn 128)), .int (nI (fn 122)), .int (nI (fn 121)), .ref 10] from rfl) rfl ?_
  refine ew_iald (j := 129) d_Ve_isComposed_52 rfl (rfl) (by decide) (by decide) ?_
  refine en_eq (st' := [.int (nI (fn 129)), .int (nI (fn 128)), .int (nI (fn 122)), .int (nI (fn 121)), .ref 10]) rfl (by rw [show (M 22 129) = (nI (fn 129)) from (hfn 129 (by decide)).1]) rfl ?_
  refine en_callV (As := [.int (nI (fn 121)), .int (nI (fn 122)), .int (nI (fn 128)), .int (nI (fn 129))]) (i := 10) (ci := 2) (st := []) (st1 := []) d_Ve_isComposed_53 k_Ru_read rfl rfl tw_564 tw_325 tw_326 rfl (Nat.le_of_ble_eq_true rfl) rfl (Nat.le_of_ble_eq_true rfl) rfl rfl (c_Ru_read l g _ L M (nI (fn 121)) (nI (fn 122)) (nI (fn 128)) (nI (fn 129))) rfl ?_
  refine ew_aload_n d_Ve_isComposed_56 rfl ?_
  refine ew_getr (ci := 6) (f := 1) d_Ve_isComposed_57 rfl rfl rfl tw_198 ?_
  refine ew_aload_n d_Ve_isComposed_60 rfl ?_
  refine ew_iload_n d_Ve_isComposed_61 rfl ?_
  refine en_callV (As := [.int (nI 2)]) (i := 43) (ci := 6) (st := [.ref 10]) (st1 := [.int (nI j), .ref 10]) d_Ve_isComposed_62 k_Ve_place rfl rfl tw_542 tw_543 tw_544 rfl (Nat.le_of_ble_eq_true rfl) rfl (Nat.le_of_ble_eq_true rfl) rfl rfl (c_Ve_place l g _ L (sp_rd M 16 (nI (fn 121)) (nI (fn 122)) (nI (fn 128)) (nI (fn 129))) 2 j (by decide) (by (rw [sp_rd_ne (by decide)]; exact hj))) rfl ?_
  refine ew_iconst (v := nI 0) d_Ve_isComposed_65 (by decide) ?_
  refine ew_iload_n d_Ve_isComposed_66 rfl ?_
  refine en_callS (As := [.int (nI j), .int (nI 0), .int (nI 0)]) (st := [.ref 10]) (st1 := [.int (nI (j % 16 + 16 * 0)), .ref 10]) d_Ve_isComposed_67 k_Pf_layerIndex tw_557 tw_484 rfl (Nat.le_of_ble_eq_true rfl) rfl (Nat.le_of_ble_eq_true rfl) rfl rfl (c_Pf_layerIndex0 l g _ L (sp_rd M 16 (nI (fn 121)) (nI (fn 122)) (nI (fn 128)) (nI (fn 129))) j 0 (hj2)) rfl ?_
  refine ew_aload_n d_Ve_isComposed_70 rfl ?_
  refine ew_getr (ci := 6) (f := 4) d_Ve_isComposed_71 rfl rfl rfl tw_201 ?_
  refine ew_getiN (ci := 7) (f := 1) d_Ve_isComposed_74 rfl rfl rfl tw_130 ?_
  refine en_eq (st' := [.int (nI A), .int (nI (j % 16 + 16 * 0)), .ref 10]) rfl (by rw [show ((sp_rd M 16 (nI (fn 121)) (nI (fn 122)) (nI (fn 128)) (nI (fn 129))) 44 1) = (nI A) from by (rw [sp_rd_ne (by decide)]; exact hA)]) rfl ?_
  refine en_callV (As := [.int (nI (j % 16 + 16 * 0)), .int (nI A)]) (i := 10) (ci := 2) (st := []) (st1 := [.int (nI (sp_com ρ (sp_le (fn 121) (fn 122) (fn 128) (fn 129)) (j % 16 + 16 * 0) A))]) d_Ve_isComposed_77 k_Ru_composition rfl rfl tw_565 tw_424 tw_425 rfl (Nat.le_of_ble_eq_true rfl) rfl (Nat.le_of_ble_eq_true rfl) rfl rfl (c_Ru_composition l g _ L (sp_rd M 16 (nI (fn 121)) (nI (fn 122)) (nI (fn 128)) (nI (fn 129))) ρ (sp_ru_of hr (sp_rd_ne (by decide)) (sp_rd_ne (by decide)) (sp_rd_ne (by decide)) (sp_rd_ne (by decide)) (sp_rd_ne (by decide))) (sp_le (fn 121) (fn 122) (fn 128) (fn 129)) (sp_rd_le h16 (hfn 121 (by decide)).2 (hfn 122 (by decide)).2 (hfn 128 (by decide)).2 (hfn 129 (by decide)).2) (sp_tab_of hT (sp_rd_ne (by decide)) (sp_rd_ne (by decide)) (sp_rd_ne (by decide)) (sp_rd_ne (by decide)) (sp_rd_ne (by decide))) (j % 16 + 16 * 0) A (by omega) hA2) rfl ?_
  refine en_istore (ls' := [.ref 43, .int (nI 2), .int (nI 0), .int (nI 121), .int (nI 128), .int (nI (sp_com ρ (sp_le (fn 121) (fn 122) (fn 128) (fn 129)) (j % 16 + 16 * 0) A))]) d_Ve_isComposed_80 (Nat.le_of_ble_eq_true rfl) rfl ?_
  refine ew_iload d_Ve_isComposed_82 rfl ?_
  refine ew_aload_n d_Ve_isComposed_84 rfl ?_
  refine ew_getr (ci := 6) (f := 3) d_Ve_isComposed_85 rfl rfl rfl tw_200 ?_
  refine ew_iload_n d_Ve_isComposed_88 rfl ?_
  refine ew_iconst (v := nI 0) d_Ve_isComposed_89 (by decide) ?_
  refine ew_iload_n d_Ve_isComposed_90 rfl ?_
  refine en_callS (As := [.int (nI 2), .int (nI 0), .int (nI 0)]) (st := [.ref 22, .int (nI (sp_com ρ (sp_le (fn 121) (fn 122) (fn 128) (fn 129)) (j % 16 + 16 * 0) A))]) (st1 := [.int (nI 149), .ref 22, .int (nI (sp_com ρ (sp_le (fn 121) (fn 122) (fn 128) (fn 129)) (j % 16 + 16 * 0) A))]) d_Ve_isComposed_91 k_Pf_layerStart tw_558 tw_488 rfl (Nat.le_of_ble_eq_true rfl) rfl (Nat.le_of_ble_eq_true rfl) rfl rfl (c_Pf_layerStart0 l g _ L (sp_rd M 16 (nI (fn 121)) (nI (fn 122)) (nI (fn 128)) (nI (fn 129))) (sp_st_of hs (sp_rd_ne (by decide)) (sp_rd_ne (by decide))) 2 0) rfl ?_
  refine ew_iald (j := 149) d_Ve_isComposed_94 rfl (rfl) (by decide) (by decide) ?_
  refine en_eq (st' := [.int (nI (fn 149)), .int (nI (sp_com ρ (sp_le (fn 121) (fn 122) (fn 128) (fn 129)) (j % 16 + 16 * 0) A))]) rfl (by rw [show ((sp_rd M 16 (nI (fn 121)) (nI (fn 122)) (nI (fn 128)) (nI (fn 129))) 22 149) = (nI (fn 149)) from by (rw [sp_rd_ne (by decide)]; exact (hfn 149 (by decide)).1)]) rfl ?_
  refine en_icmp_ne (tgt := 102) d_Ve_isComposed_95 (by decide) (by first | exact Nat.lt_trans (sp_com_lt _ _ _ _) (by decide) | exact Nat.lt_trans (hfn 149 (by decide)).2 (by decide)) (by first | exact Nat.lt_trans (sp_com_lt _ _ _ _) (by decide) | exact Nat.lt_trans (hfn 149 (by decide)).2 (by decide)) (fun h95 => ?_) (fun h95 => ?_)
  · refine ew_iconst (v := nI 0) d_Ve_isComposed_102 (by decide) ?_
    exact ew_zret d_Ve_isComposed_103 rfl (by decide) (⟨by rw [show sp_vo2 ρ fn j A 0 = false from decide_eq_false h95]; rfl, rfl, rfl⟩)
  · refine ew_iconst (v := nI 1) d_Ve_isComposed_98 (by decide) ?_
    refine ew_goto (tgt := 103) d_Ve_isComposed_99 (by decide) ?_
    exact ew_zret d_Ve_isComposed_103 rfl (by decide) (⟨by rw [show sp_vo2 ρ fn j A 0 = true from decide_eq_true h95]; rfl, rfl, rfl⟩)
set_option maxRecDepth 100000 in
theorem c_Ve_isComposed21 (l : Launch) (g : ew_G) (d L : Nat) (M : ew_M) (ρ : sp_R) (hr : sp_ru ρ M) (hT : sp_tab M) (hs : sp_st M) (h16 : M 16 0 = nI 1) (fn : Nat → Nat) (hfn : sp_fnok (M 22) fn) (A : Nat) (hA : M 44 1 = nI A) (hA2 : A < 12289) (j : Nat) (hj : M 46 2 = nI j) (hj2 : j < 16) :
    Ew l g (d + 3) 0 0 m_Ve_isComposed 0 [.ref 43, .int (nI 2), .int (nI 1), .retAddr 0, .retAddr 0, .retAddr 0] [] (ew_SH L) M (ew_q (some (.int (ew_b (sp_vo2 ρ fn j A 1)))) (ew_SH L) (sp_rd M 16 (nI (fn 135)) (nI (fn 136)) (nI (fn 142)) (nI (fn 143)))) := by
  refine ew_iload_n d_Ve_isComposed_0 rfl ?_
  refine ew_iconst (v := nI 2) d_Ve_isComposed_1 (by decide) ?_
  refine ew_iload_n d_Ve_isComposed_2 rfl ?_
  refine en_imul d_Ve_isComposed_3 ?_
  refine en_eq rfl (show _ = [.int (nI 2), .int (nI 2)] from rfl) rfl ?_
  refine en_callS (As := [.int (nI 2), .int (nI 2)]) (st := []) (st1 := [.int (nI 135)]) d_Ve_isComposed_4 k_Pf_columnStart tw_547 tw_473 rfl (Nat.le_of_ble_eq_true rfl) rfl (Nat.le_of_ble_eq_true rfl) rfl rfl (c_Pf_columnStart l g _ L M 2 2) rfl ?_
  refine en_istore_n (ls' := [.ref 43, .int (nI 2), .int (nI 1), .int (nI 135), .retAddr 0, .retAddr 0]) d_Ve_isComposed_7 (Nat.le_of_ble_eq_true rfl) rfl ?_
  refine ew_iload_n d_Ve_isComposed_8 rfl ?_
  refine ew_iconst (v := nI 2) d_Ve_isComposed_9 (by decide) ?_
  refine ew_iload_n d_Ve_isComposed_10 rfl ?_
  refine en_imul d_Ve_isComposed_11 ?_
  refine en_eq rfl (show _ = [.int (nI 2), .int (nI 2)] from rfl) rfl ?_
  refine ew_iconst (v := nI 1) d_Ve_isComposed_12 (by decide) ?_
  refine en_iadd d_Ve_isComposed_13 ?_
  refine en_eq rfl (show _ = [.int (nI 3), .int (nI 2)] from rfl) rfl ?_
  refine en_callS (As := [.int (nI 2), .int (nI 3)]) (st := []) (st1 := [.int (nI 142)]) d_Ve_isComposed_14 k_Pf_columnStart tw_547 tw_473 rfl (Nat.le_of_ble_eq_true rfl) rfl (Nat.le_of_ble_eq_true rfl) rfl rfl (c_Pf_columnStart l g _ L M 2 3) rfl ?_
  refine en_istore (ls' := [.ref 43, .int (nI 2), .int (nI 1), .int (nI 135), .int (nI 142), .retAddr 0]) d_Ve_isComposed_17 (Nat.le_of_ble_eq_true rfl) rfl ?_
  refine ew_aload_n d_Ve_isComposed_19 rfl ?_
  refine ew_getr (ci := 6) (f := 1) d_Ve_isComposed_20 rfl rfl rfl tw_198 ?_
  refine ew_aload_n d_Ve_isComposed_23 rfl ?_
  refine ew_getr (ci := 6) (f := 3) d_Ve_isComposed_24 rfl rfl rfl tw_200 ?_
  refine ew_iload_n d_Ve_isComposed_27 rfl ?_
  refine ew_iald (j := 135) d_Ve_isComposed_28 rfl (rfl) (by decide) (by decide) ?_
  refine en_eq (st' := [.int (nI (fn 135)), .ref 10]) rfl (by rw [show (M 22 135) = (nI (fn 135)) from (hfn 135 (by decide)).1]) rfl ?_
  refine ew_aload_n d_Ve_isComposed_29 rfl ?_
  refine ew_getr (ci := 6) (f := 3) d_Ve_isComposed_30 rfl rfl rfl tw_200 ?_
  refine ew_iload_n d_Ve_isComposed_33 rfl ?_
  refine ew_iconst (v := nI 1) d_Ve_isComposed_34 (by decide) ?_
  refine en_iadd d_Ve_isComposed_35 ?_
  refine en_eq rfl (show _ = [.int (nI 136), .ref 22, .int (nI (fn 135)), .ref 10] from rfl) rfl ?_
  refine ew_iald (j := 136) d_Ve_isComposed_36 rfl (rfl) (by decide) (by decide) ?_
  refine en_eq (st' := [.int (nI (fn 136)), .int (nI (fn 135)), .ref 10]) rfl (by rw [show (M 22 136) = (nI (fn 136)) from (hfn 136 (by decide)).1]) rfl ?_
  refine ew_aload_n d_Ve_isComposed_37 rfl ?_
  refine ew_getr (ci := 6) (f := 3) d_Ve_isComposed_38 rfl rfl rfl tw_200 ?_
  refine ew_iload d_Ve_isComposed_41 rfl ?_
  refine ew_iald (j := 142) d_Ve_isComposed_43 rfl (rfl) (by decide) (by decide) ?_
  refine en_eq (st' := [.int (nI (fn 142)), .int (nI (fn 136)), .int (nI (fn 135)), .ref 10]) rfl (by rw [show (M 22 142) = (nI (fn 142)) from (hfn 142 (by decide)).1]) rfl ?_
  refine ew_aload_n d_Ve_isComposed_44 rfl ?_
  refine ew_getr (ci := 6) (f := 3) d_Ve_isComposed_45 rfl rfl rfl tw_200 ?_
  refine ew_iload d_Ve_isComposed_48 rfl ?_
  refine ew_iconst (v := nI 1) d_Ve_isComposed_50 (by decide) ?_
  refine en_iadd d_Ve_isComposed_51 ?_
  refine en_eq rfl (show _ = [.int (nI 143), .ref 22, .int (nI (fn 142)), .int (nI (fn 136)), .int (nI (fn 135)), .ref 10] from rfl) rfl ?_
  refine ew_iald (j := 143) d_Ve_isComposed_52 rfl (rfl) (by decide) (by decide) ?_
  refine en_eq (st' := [.int (nI (fn 143)), .int (nI (fn 142)), .int (nI (fn 136)), .int (nI (fn 135)), .ref 10]) rfl (by rw [show (M 22 143) = (nI (fn 143)) from (hfn 143 (by decide)).1]) rfl ?_
  refine en_callV (As := [.int (nI (fn 135)), .int (nI (fn 136)), .int (nI (fn 142)), .int (nI (fn 143))]) (i := 10) (ci := 2) (st := []) (st1 := []) d_Ve_isComposed_53 k_Ru_read rfl rfl tw_564 tw_325 tw_326 rfl (Nat.le_of_ble_eq_true rfl) rfl (Nat.le_of_ble_eq_true rfl) rfl rfl (c_Ru_read l g _ L M (nI (fn 135)) (nI (fn 136)) (nI (fn 142)) (nI (fn 143))) rfl ?_
  refine ew_aload_n d_Ve_isComposed_56 rfl ?_
  refine ew_getr (ci := 6) (f := 1) d_Ve_isComposed_57 rfl rfl rfl tw_198 ?_
  refine ew_aload_n d_Ve_isComposed_60 rfl ?_
  refine ew_iload_n d_Ve_isComposed_61 rfl ?_
  refine en_callV (As := [.int (nI 2)]) (i := 43) (ci := 6) (st := [.ref 10]) (st1 := [.int (nI j), .ref 10]) d_Ve_isComposed_62 k_Ve_place rfl rfl tw_542 tw_543 tw_544 rfl (Nat.le_of_ble_eq_true rfl) rfl (Nat.le_of_ble_eq_true rfl) rfl rfl (c_Ve_place l g _ L (sp_rd M 16 (nI (fn 135)) (nI (fn 136)) (nI (fn 142)) (nI (fn 143))) 2 j (by decide) (by (rw [sp_rd_ne (by decide)]; exact hj))) rfl ?_
  refine ew_iconst (v := nI 0) d_Ve_isComposed_65 (by decide) ?_
  refine ew_iload_n d_Ve_isComposed_66 rfl ?_
  refine en_callS (As := [.int (nI j), .int (nI 0), .int (nI 1)]) (st := [.ref 10]) (st1 := [.int (nI (j % 16 + 16 * 1)), .ref 10]) d_Ve_isComposed_67 k_Pf_layerIndex tw_557 tw_484 rfl (Nat.le_of_ble_eq_true rfl) rfl (Nat.le_of_ble_eq_true rfl) rfl rfl (c_Pf_layerIndex0 l g _ L (sp_rd M 16 (nI (fn 135)) (nI (fn 136)) (nI (fn 142)) (nI (fn 143))) j 1 (hj2)) rfl ?_
  refine ew_aload_n d_Ve_isComposed_70 rfl ?_
  refine ew_getr (ci := 6) (f := 4) d_Ve_isComposed_71 rfl rfl rfl tw_201 ?_
  refine ew_getiN (ci := 7) (f := 1) d_Ve_isComposed_74 rfl rfl rfl tw_130 ?_
  refine en_eq (st' := [.int (nI A), .int (nI (j % 16 + 16 * 1)), .ref 10]) rfl (by rw [show ((sp_rd M 16 (nI (fn 135)) (nI (fn 136)) (nI (fn 142)) (nI (fn 143))) 44 1) = (nI A) from by (rw [sp_rd_ne (by decide)]; exact hA)]) rfl ?_
  refine en_callV (As := [.int (nI (j % 16 + 16 * 1)), .int (nI A)]) (i := 10) (ci := 2) (st := []) (st1 := [.int (nI (sp_com ρ (sp_le (fn 135) (fn 136) (fn 142) (fn 143)) (j % 16 + 16 * 1) A))]) d_Ve_isComposed_77 k_Ru_composition rfl rfl tw_565 tw_424 tw_425 rfl (Nat.le_of_ble_eq_true rfl) rfl (Nat.le_of_ble_eq_true rfl) rfl rfl (c_Ru_composition l g _ L (sp_rd M 16 (nI (fn 135)) (nI (fn 136)) (nI (fn 142)) (nI (fn 143))) ρ (sp_ru_of hr (sp_rd_ne (by decide)) (sp_rd_ne (by decide)) (sp_rd_ne (by decide)) (sp_rd_ne (by decide)) (sp_rd_ne (by decide))) (sp_le (fn 135) (fn 136) (fn 142) (fn 143)) (sp_rd_le h16 (hfn 135 (by decide)).2 (hfn 136 (by decide)).2 (hfn 142 (by decide)).2 (hfn 143 (by decide)).2) (sp_tab_of hT (sp_rd_ne (by decide)) (sp_rd_ne (by decide)) (sp_rd_ne (by decide)) (sp_rd_ne (by decide)) (sp_rd_ne (by decide))) (j % 16 + 16 * 1) A (by omega) hA2) rfl ?_
  refine en_istore (ls' := [.ref 43, .int (nI 2), .int (nI 1), .int (nI 135), .int (nI 142), .int (nI (sp_com ρ (sp_le (fn 135) (fn 136) (fn 142) (fn 143)) (j % 16 + 16 * 1) A))]) d_Ve_isComposed_80 (Nat.le_of_ble_eq_true rfl) rfl ?_
  refine ew_iload d_Ve_isComposed_82 rfl ?_
  refine ew_aload_n d_Ve_isComposed_84 rfl ?_
  refine ew_getr (ci := 6) (f := 3) d_Ve_isComposed_85 rfl rfl rfl tw_200 ?_
  refine ew_iload_n d_Ve_isComposed_88 rfl ?_
  refine ew_iconst (v := nI 0) d_Ve_isComposed_89 (by decide) ?_
  refine ew_iload_n d_Ve_isComposed_90 rfl ?_
  refine en_callS (As := [.int (nI 2), .int (nI 0), .int (nI 1)]) (st := [.ref 22, .int (nI (sp_com ρ (sp_le (fn 135) (fn 136) (fn 142) (fn 143)) (j % 16 + 16 * 1) A))]) (st1 := [.int (nI 155), .ref 22, .int (nI (sp_com ρ (sp_le (fn 135) (fn 136) (fn 142) (fn 143)) (j % 16 + 16 * 1) A))]) d_Ve_isComposed_91 k_Pf_layerStart tw_558 tw_488 rfl (Nat.le_of_ble_eq_true rfl) rfl (Nat.le_of_ble_eq_true rfl) rfl rfl (c_Pf_layerStart0 l g _ L (sp_rd M 16 (nI (fn 135)) (nI (fn 136)) (nI (fn 142)) (nI (fn 143))) (sp_st_of hs (sp_rd_ne (by decide)) (sp_rd_ne (by decide))) 2 1) rfl ?_
  refine ew_iald (j := 155) d_Ve_isComposed_94 rfl (rfl) (by decide) (by decide) ?_
  refine en_eq (st' := [.int (nI (fn 155)), .int (nI (sp_com ρ (sp_le (fn 135) (fn 136) (fn 142) (fn 143)) (j % 16 + 16 * 1) A))]) rfl (by rw [show ((sp_rd M 16 (nI (fn 135)) (nI (fn 136)) (nI (fn 142)) (nI (fn 143))) 22 155) = (nI (fn 155)) from by (rw [sp_rd_ne (by decide)]; exact (hfn 155 (by decide)).1)]) rfl ?_
  refine en_icmp_ne (tgt := 102) d_Ve_isComposed_95 (by decide) (by first | exact Nat.lt_trans (sp_com_lt _ _ _ _) (by decide) | exact Nat.lt_trans (hfn 155 (by decide)).2 (by decide)) (by first | exact Nat.lt_trans (sp_com_lt _ _ _ _) (by decide) | exact Nat.lt_trans (hfn 155 (by decide)).2 (by decide)) (fun h95 => ?_) (fun h95 => ?_)
  · refine ew_iconst (v := nI 0) d_Ve_isComposed_102 (by decide) ?_
    exact ew_zret d_Ve_isComposed_103 rfl (by decide) (⟨by rw [show sp_vo2 ρ fn j A 1 = false from decide_eq_false h95]; rfl, rfl, rfl⟩)
  · refine ew_iconst (v := nI 1) d_Ve_isComposed_98 (by decide) ?_
    refine ew_goto (tgt := 103) d_Ve_isComposed_99 (by decide) ?_
    exact ew_zret d_Ve_isComposed_103 rfl (by decide) (⟨by rw [show sp_vo2 ρ fn j A 1 = true from decide_eq_true h95]; rfl, rfl, rfl⟩)
set_option maxRecDepth 100000 in
theorem c_Ve_folded20 (l : Launch) (g : ew_G) (d L : Nat) (M : ew_M) (hT : sp_tab M) (hs : sp_st M) (fn : Nat → Nat) (hfn : sp_fnok (M 22) fn) (B : Nat) (hB : M 45 0 = nI B) (hB2 : B < 12289) (j : Nat) (hj : M 46 2 = nI j) (hj2 : j < 16) :
    Ew l g (d + 3) 0 0 m_Ve_folded 0 [.ref 43, .int (nI 2), .int (nI 0), .retAddr 0, .retAddr 0, .retAddr 0] [] (ew_SH L) M (ew_q (some (.int (nI (sp_vf20 fn j B)))) (ew_SH L) M) := by
  refine ew_aload_n d_Ve_folded_0 rfl ?_
  refine ew_getr (ci := 6) (f := 3) d_Ve_folded_1 rfl rfl rfl tw_200 ?_
  refine ew_iload_n d_Ve_folded_4 rfl ?_
  refine ew_iload_n d_Ve_folded_5 rfl ?_
  refine ew_iconst (v := nI 0) d_Ve_folded_6 (by decide) ?_
  refine en_callS (As := [.int (nI 2), .int (nI 0), .int (nI 0)]) (st := [.ref 22]) (st1 := [.int (nI 149), .ref 22]) d_Ve_folded_7 k_Pf_layerStart tw_558 tw_488 rfl (Nat.le_of_ble_eq_true rfl) rfl (Nat.le_of_ble_eq_true rfl) rfl rfl (c_Pf_layerStart0 l g _ L M (hs) 2 0) rfl ?_
  refine ew_iald (j := 149) d_Ve_folded_10 rfl (rfl) (by decide) (by decide) ?_
  refine en_eq (st' := [.int (nI (fn 149))]) rfl (by rw [show (M 22 149) = (nI (fn 149)) from (hfn 149 (by decide)).1]) rfl ?_
  refine en_istore_n (ls' := [.ref 43, .int (nI 2), .int (nI 0), .int (nI (fn 149)), .retAddr 0, .retAddr 0]) d_Ve_folded_11 (Nat.le_of_ble_eq_true rfl) rfl ?_
  refine ew_aload_n d_Ve_folded_12 rfl ?_
  refine ew_getr (ci := 6) (f := 3) d_Ve_folded_13 rfl rfl rfl tw_200 ?_
  refine ew_iload_n d_Ve_folded_16 rfl ?_
  refine ew_iload_n d_Ve_folded_17 rfl ?_
  refine ew_iconst (v := nI 1) d_Ve_folded_18 (by decide) ?_
  refine en_callS (As := [.int (nI 2), .int (nI 0), .int (nI 1)]) (st := [.ref 22]) (st1 := [.int (nI 155), .ref 22]) d_Ve_folded_19 k_Pf_layerStart tw_558 tw_488 rfl (Nat.le_of_ble_eq_true rfl) rfl (Nat.le_of_ble_eq_true rfl) rfl rfl (c_Pf_layerStart0 l g _ L M (hs) 2 1) rfl ?_
  refine ew_iald (j := 155) d_Ve_folded_22 rfl (rfl) (by decide) (by decide) ?_
  refine en_eq (st' := [.int (nI (fn 155))]) rfl (by rw [show (M 22 155) = (nI (fn 155)) from (hfn 155 (by decide)).1]) rfl ?_
  refine en_istore (ls' := [.ref 43, .int (nI 2), .int (nI 0), .int (nI (fn 149)), .int (nI (fn 155)), .retAddr 0]) d_Ve_folded_23 (Nat.le_of_ble_eq_true rfl) rfl ?_
  refine ew_aload_n d_Ve_folded_25 rfl ?_
  refine ew_iload_n d_Ve_folded_26 rfl ?_
  refine en_callV (As := [.int (nI 2)]) (i := 43) (ci := 6) (st := []) (st1 := [.int (nI j)]) d_Ve_folded_27 k_Ve_place rfl rfl tw_542 tw_543 tw_544 rfl (Nat.le_of_ble_eq_true rfl) rfl (Nat.le_of_ble_eq_true rfl) rfl rfl (c_Ve_place l g _ L M 2 j (by decide) (hj)) rfl ?_
  refine ew_iload_n d_Ve_folded_30 rfl ?_
  refine ew_iconst (v := nI 0) d_Ve_folded_31 (by decide) ?_
  refine en_callS (As := [.int (nI j), .int (nI 0), .int (nI 0)]) (st := []) (st1 := [.int (nI (j % 16 + 16 * 0))]) d_Ve_folded_32 k_Pf_layerIndex tw_557 tw_484 rfl (Nat.le_of_ble_eq_true rfl) rfl (Nat.le_of_ble_eq_true rfl) rfl rfl (c_Pf_layerIndex0 l g _ L M j 0 (hj2)) rfl ?_
  refine en_istore (ls' := [.ref 43, .int (nI 2), .int (nI 0), .int (nI (fn 149)), .int (nI (fn 155)), .int (nI (j % 16 + 16 * 0))]) d_Ve_folded_35 (Nat.le_of_ble_eq_true rfl) rfl ?_
  refine ew_aload_n d_Ve_folded_37 rfl ?_
  refine ew_getr (ci := 6) (f := 0) d_Ve_folded_38 rfl rfl rfl tw_197 ?_
  refine ew_iload_n d_Ve_folded_41 rfl ?_
  refine ew_iload d_Ve_folded_42 rfl ?_
  refine ew_iload_n d_Ve_folded_44 rfl ?_
  refine ew_iload d_Ve_folded_45 rfl ?_
  refine ew_aload_n d_Ve_folded_47 rfl ?_
  refine ew_getr (ci := 6) (f := 4) d_Ve_folded_48 rfl rfl rfl tw_201 ?_
  refine ew_getrN (ci := 7) (f := 2) d_Ve_folded_51 rfl rfl rfl tw_133 ?_
  refine ew_iload_n d_Ve_folded_54 rfl ?_
  refine ew_iald (j := 0) d_Ve_folded_55 rfl (rfl) (by decide) (by decide) ?_
  refine en_eq (st' := [.int (nI B), .int (nI (fn 155)), .int (nI (fn 149)), .int (nI (j % 16 + 16 * 0)), .int (nI 0), .ref 4]) rfl (by rw [show (M 45 0) = (nI B) from hB]) rfl ?_
  refine en_callV (As := [.int (nI 0), .int (nI (j % 16 + 16 * 0)), .int (nI (fn 149)), .int (nI (fn 155)), .int (nI B)]) (i := 4) (ci := 1) (st := []) (st1 := [.int (nI (sp_fo 1 (j % 16 + 16 * 0) (fn 149) (fn 155) B))]) d_Ve_folded_56 k_Pt_fold rfl rfl tw_570 tw_445 tw_446 rfl (Nat.le_of_ble_eq_true rfl) rfl (Nat.le_of_ble_eq_true rfl) rfl rfl (c_Pt_fold0 l g _ L M (hT) (j % 16 + 16 * 0) (fn 149) (fn 155) B (by first | with_reducible assumption | exact (hfn _ (by decide)).2 | omega) (by first | with_reducible assumption | exact (hfn _ (by decide)).2 | omega) (by first | with_reducible assumption | exact (hfn _ (by decide)).2 | omega) (by first | with_reducible assumption | exact (hfn _ (by decide)).2 | omega)) rfl ?_
  exact ew_iret d_Ve_folded_59 rfl (⟨rfl, rfl, rfl⟩)
set_option maxRecDepth 100000 in
theorem c_Ve_folded21 (l : Launch) (g : ew_G) (d L : Nat) (M : ew_M) (hT : sp_tab M) (hs : sp_st M) (fn : Nat → Nat) (hfn : sp_fnok (M 22) fn) (B : Nat) (hB : M 45 1 = nI B) (hB2 : B < 12289) (j : Nat) (hj : M 46 2 = nI j) (hj2 : j < 16) :
    Ew l g (d + 3) 0 0 m_Ve_folded 0 [.ref 43, .int (nI 2), .int (nI 1), .retAddr 0, .retAddr 0, .retAddr 0] [] (ew_SH L) M (ew_q (some (.int (nI (sp_vf21 fn j B)))) (ew_SH L) M) := by
  refine ew_aload_n d_Ve_folded_0 rfl ?_
  refine ew_getr (ci := 6) (f := 3) d_Ve_folded_1 rfl rfl rfl tw_200 ?_
  refine ew_iload_n d_Ve_folded_4 rfl ?_
  refine ew_iload_n d_Ve_folded_5 rfl ?_
  refine ew_iconst (v := nI 0) d_Ve_folded_6 (by decide) ?_
  refine en_callS (As := [.int (nI 2), .int (nI 1), .int (nI 0)]) (st := [.ref 22]) (st1 := [.int (nI 161), .ref 22]) d_Ve_folded_7 k_Pf_layerStart tw_558 tw_488 rfl (Nat.le_of_ble_eq_true rfl) rfl (Nat.le_of_ble_eq_true rfl) rfl rfl (c_Pf_layerStart1 l g _ L M (hs) 2 0) rfl ?_
  refine ew_iald (j := 161) d_Ve_folded_10 rfl (rfl) (by decide) (by decide) ?_
  refine en_eq (st' := [.int (nI (fn 161))]) rfl (by rw [show (M 22 161) = (nI (fn 161)) from (hfn 161 (by decide)).1]) rfl ?_
  refine en_istore_n (ls' := [.ref 43, .int (nI 2), .int (nI 1), .int (nI (fn 161)), .retAddr 0, .retAddr 0]) d_Ve_folded_11 (Nat.le_of_ble_eq_true rfl) rfl ?_
  refine ew_aload_n d_Ve_folded_12 rfl ?_
  refine ew_getr (ci := 6) (f := 3) d_Ve_folded_13 rfl rfl rfl tw_200 ?_
  refine ew_iload_n d_Ve_folded_16 rfl ?_
  refine ew_iload_n d_Ve_folded_17 rfl ?_
  refine ew_iconst (v := nI 1) d_Ve_folded_18 (by decide) ?_
  refine en_callS (As := [.int (nI 2), .int (nI 1), .int (nI 1)]) (st := [.ref 22]) (st1 := [.int (nI 166), .ref 22]) d_Ve_folded_19 k_Pf_layerStart tw_558 tw_488 rfl (Nat.le_of_ble_eq_true rfl) rfl (Nat.le_of_ble_eq_true rfl) rfl rfl (c_Pf_layerStart1 l g _ L M (hs) 2 1) rfl ?_
  refine ew_iald (j := 166) d_Ve_folded_22 rfl (rfl) (by decide) (by decide) ?_
  refine en_eq (st' := [.int (nI (fn 166))]) rfl (by rw [show (M 22 166) = (nI (fn 166)) from (hfn 166 (by decide)).1]) rfl ?_
  refine en_istore (ls' := [.ref 43, .int (nI 2), .int (nI 1), .int (nI (fn 161)), .int (nI (fn 166)), .retAddr 0]) d_Ve_folded_23 (Nat.le_of_ble_eq_true rfl) rfl ?_
  refine ew_aload_n d_Ve_folded_25 rfl ?_
  refine ew_iload_n d_Ve_folded_26 rfl ?_
  refine en_callV (As := [.int (nI 2)]) (i := 43) (ci := 6) (st := []) (st1 := [.int (nI j)]) d_Ve_folded_27 k_Ve_place rfl rfl tw_542 tw_543 tw_544 rfl (Nat.le_of_ble_eq_true rfl) rfl (Nat.le_of_ble_eq_true rfl) rfl rfl (c_Ve_place l g _ L M 2 j (by decide) (hj)) rfl ?_
  refine ew_iload_n d_Ve_folded_30 rfl ?_
  refine ew_iconst (v := nI 0) d_Ve_folded_31 (by decide) ?_
  refine en_callS (As := [.int (nI j), .int (nI 1), .int (nI 0)]) (st := []) (st1 := [.int (nI (j % 8 + 8 * 0))]) d_Ve_folded_32 k_Pf_layerIndex tw_557 tw_484 rfl (Nat.le_of_ble_eq_true rfl) rfl (Nat.le_of_ble_eq_true rfl) rfl rfl (c_Pf_layerIndex1 l g _ L M j 0 (hj2)) rfl ?_
  refine en_istore (ls' := [.ref 43, .int (nI 2), .int (nI 1), .int (nI (fn 161)), .int (nI (fn 166)), .int (nI (j % 8 + 8 * 0))]) d_Ve_folded_35 (Nat.le_of_ble_eq_true rfl) rfl ?_
  refine ew_aload_n d_Ve_folded_37 rfl ?_
  refine ew_getr (ci := 6) (f := 0) d_Ve_folded_38 rfl rfl rfl tw_197 ?_
  refine ew_iload_n d_Ve_folded_41 rfl ?_
  refine ew_iload d_Ve_folded_42 rfl ?_
  refine ew_iload_n d_Ve_folded_44 rfl ?_
  refine ew_iload d_Ve_folded_45 rfl ?_
  refine ew_aload_n d_Ve_folded_47 rfl ?_
  refine ew_getr (ci := 6) (f := 4) d_Ve_folded_48 rfl rfl rfl tw_201 ?_
  refine ew_getrN (ci := 7) (f := 2) d_Ve_folded_51 rfl rfl rfl tw_133 ?_
  refine ew_iload_n d_Ve_folded_54 rfl ?_
  refine ew_iald (j := 1) d_Ve_folded_55 rfl (rfl) (by decide) (by decide) ?_
  refine en_eq (st' := [.int (nI B), .int (nI (fn 166)), .int (nI (fn 161)), .int (nI (j % 8 + 8 * 0)), .int (nI 1), .ref 4]) rfl (by rw [show (M 45 1) = (nI B) from hB]) rfl ?_
  refine en_callV (As := [.int (nI 1), .int (nI (j % 8 + 8 * 0)), .int (nI (fn 161)), .int (nI (fn 166)), .int (nI B)]) (i := 4) (ci := 1) (st := []) (st1 := [.int (nI (sp_fo 2 (j % 8 + 8 * 0) (fn 161) (fn 166) B))]) d_Ve_folded_56 k_Pt_fold rfl rfl tw_570 tw_445 tw_446 rfl (Nat.le_of_ble_eq_true rfl) rfl (Nat.le_of_ble_eq_true rfl) rfl rfl (c_Pt_fold1 l g _ L M (hT) (j % 8 + 8 * 0) (fn 161) (fn 166) B (by first | with_reducible assumption | exact (hfn _ (by decide)).2 | omega) (by first | with_reducible assumption | exact (hfn _ (by decide)).2 | omega) (by first | with_reducible assumption | exact (hfn _ (by decide)).2 | omega) (by first | with_reducible assumption | exact (hfn _ (by decide)).2 | omega)) rfl ?_
  exact ew_iret d_Ve_folded_59 rfl (⟨rfl, rfl, rfl⟩)
set_option maxRecDepth 100000 in
theorem c_Ve_folded22 (l : Launch) (g : ew_G) (d L : Nat) (M : ew_M) (hT : sp_tab M) (hs : sp_st M) (fn : Nat → Nat) (hfn : sp_fnok (M 22) fn) (B : Nat) (hB : M 45 2 = nI B) (hB2 : B < 12289) (j : Nat) (hj : M 46 2 = nI j) (hj2 : j < 16) :
    Ew l g (d + 3) 0 0 m_Ve_folded 0 [.ref 43, .int (nI 2), .int (nI 2), .retAddr 0, .retAddr 0, .retAddr 0] [] (ew_SH L) M (ew_q (some (.int (nI (sp_vf22 fn j B)))) (ew_SH L) M) := by
  refine ew_aload_n d_Ve_folded_0 rfl ?_
  refine ew_getr (ci := 6) (f := 3) d_Ve_folded_1 rfl rfl rfl tw_200 ?_
  refine ew_iload_n d_Ve_folded_4 rfl ?_
  refine ew_iload_n d_Ve_folded_5 rfl ?_
  refine ew_iconst (v := nI 0) d_Ve_folded_6 (by decide) ?_
  refine en_callS (As := [.int (nI 2), .int (nI 2), .int (nI 0)]) (st := [.ref 22]) (st1 := [.int (nI 171), .ref 22]) d_Ve_folded_7 k_Pf_layerStart tw_558 tw_488 rfl (Nat.le_of_ble_eq_true rfl) rfl (Nat.le_of_ble_eq_true rfl) rfl rfl (c_Pf_layerStart2 l g _ L M (hs) 2 0) rfl ?_
  refine ew_iald (j := 171) d_Ve_folded_10 rfl (rfl) (by decide) (by decide) ?_
  refine en_eq (st' := [.int (nI (fn 171))]) rfl (by rw [show (M 22 171) = (nI (fn 171)) from (hfn 171 (by decide)).1]) rfl ?_
  refine en_istore_n (ls' := [.ref 43, .int (nI 2), .int (nI 2), .int (nI (fn 171)), .retAddr 0, .retAddr 0]) d_Ve_folded_11 (Nat.le_of_ble_eq_true rfl) rfl ?_
  refine ew_aload_n d_Ve_folded_12 rfl ?_
  refine ew_getr (ci := 6) (f := 3) d_Ve_folded_13 rfl rfl rfl tw_200 ?_
  refine ew_iload_n d_Ve_folded_16 rfl ?_
  refine ew_iload_n d_Ve_folded_17 rfl ?_
  refine ew_iconst (v := nI 1) d_Ve_folded_18 (by decide) ?_
  refine en_callS (As := [.int (nI 2), .int (nI 2), .int (nI 1)]) (st := [.ref 22]) (st1 := [.int (nI 175), .ref 22]) d_Ve_folded_19 k_Pf_layerStart tw_558 tw_488 rfl (Nat.le_of_ble_eq_true rfl) rfl (Nat.le_of_ble_eq_true rfl) rfl rfl (c_Pf_layerStart2 l g _ L M (hs) 2 1) rfl ?_
  refine ew_iald (j := 175) d_Ve_folded_22 rfl (rfl) (by decide) (by decide) ?_
  refine en_eq (st' := [.int (nI (fn 175))]) rfl (by rw [show (M 22 175) = (nI (fn 175)) from (hfn 175 (by decide)).1]) rfl ?_
  refine en_istore (ls' := [.ref 43, .int (nI 2), .int (nI 2), .int (nI (fn 171)), .int (nI (fn 175)), .retAddr 0]) d_Ve_folded_23 (Nat.le_of_ble_eq_true rfl) rfl ?_
  refine ew_aload_n d_Ve_folded_25 rfl ?_
  refine ew_iload_n d_Ve_folded_26 rfl ?_
  refine en_callV (As := [.int (nI 2)]) (i := 43) (ci := 6) (st := []) (st1 := [.int (nI j)]) d_Ve_folded_27 k_Ve_place rfl rfl tw_542 tw_543 tw_544 rfl (Nat.le_of_ble_eq_true rfl) rfl (Nat.le_of_ble_eq_true rfl) rfl rfl (c_Ve_place l g _ L M 2 j (by decide) (hj)) rfl ?_
  refine ew_iload_n d_Ve_folded_30 rfl ?_
  refine ew_iconst (v := nI 0) d_Ve_folded_31 (by decide) ?_
  refine en_callS (As := [.int (nI j), .int (nI 2), .int (nI 0)]) (st := []) (st1 := [.int (nI (j % 4 + 4 * 0))]) d_Ve_folded_32 k_Pf_layerIndex tw_557 tw_484 rfl (Nat.le_of_ble_eq_true rfl) rfl (Nat.le_of_ble_eq_true rfl) rfl rfl (c_Pf_layerIndex2 l g _ L M j 0 (hj2)) rfl ?_
  refine en_istore (ls' := [.ref 43, .int (nI 2), .int (nI 2), .int (nI (fn 171)), .int (nI (fn 175)), .int (nI (j % 4 + 4 * 0))]) d_Ve_folded_35 (Nat.le_of_ble_eq_true rfl) rfl ?_
  refine ew_aload_n d_Ve_folded_37 rfl ?_
  refine ew_getr (ci := 6) (f := 0) d_Ve_folded_38 rfl rfl rfl tw_197 ?_
  refine ew_iload_n d_Ve_folded_41 rfl ?_
  refine ew_iload d_Ve_folded_42 rfl ?_
  refine ew_iload_n d_Ve_folded_44 rfl ?_
  refine ew_iload d_Ve_folded_45 rfl ?_
  refine ew_aload_n d_Ve_folded_47 rfl ?_
  refine ew_getr (ci := 6) (f := 4) d_Ve_folded_48 rfl rfl rfl tw_201 ?_
  refine ew_getrN (ci := 7) (f := 2) d_Ve_folded_51 rfl rfl rfl tw_133 ?_
  refine ew_iload_n d_Ve_folded_54 rfl ?_
  refine ew_iald (j := 2) d_Ve_folded_55 rfl (rfl) (by decide) (by decide) ?_
  refine en_eq (st' := [.int (nI B), .int (nI (fn 175)), .int (nI (fn 171)), .int (nI (j % 4 + 4 * 0)), .int (nI 2), .ref 4]) rfl (by rw [show (M 45 2) = (nI B) from hB]) rfl ?_
  refine en_callV (As := [.int (nI 2), .int (nI (j % 4 + 4 * 0)), .int (nI (fn 171)), .int (nI (fn 175)), .int (nI B)]) (i := 4) (ci := 1) (st := []) (st1 := [.int (nI (sp_fo 4 (j % 4 + 4 * 0) (fn 171) (fn 175) B))]) d_Ve_folded_56 k_Pt_fold rfl rfl tw_570 tw_445 tw_446 rfl (Nat.le_of_ble_eq_true rfl) rfl (Nat.le_of_ble_eq_true rfl) rfl rfl (c_Pt_fold2 l g _ L M (hT) (j % 4 + 4 * 0) (fn 171) (fn 175) B (by first | with_reducible assumption | exact (hfn _ (by decide)).2 | omega) (by first | with_reducible assumption | exact (hfn _ (by decide)).2 | omega) (by first | with_reducible assumption | exact (hfn _ (by decide)).2 | omega) (by first | with_reducible assumption | exact (hfn _ (by decide)).2 | omega)) rfl ?_
  exact ew_iret d_Ve_folded_59 rfl (⟨rfl, rfl, rfl⟩)
set_option maxRecDepth 100000 in
theorem c_Ve_valueBehind20 (l : Launch) (g : ew_G) (d L : Nat) (M : ew_M) (hs : sp_st M) (fn : Nat → Nat) (hfn : sp_fnok (M 22) fn) (j : Nat) (hj : M 46 2 = nI j) (hj2 : j < 16) :
    Ew l g (d + 1) 0 0 m_Ve_valueBehind 0 [.ref 43, .int (nI 2), .int (nI 0), .retAddr 0, .retAddr 0, .retAddr 0] [] (ew_SH L) M (ew_q (some (.int (nI (sp_vb20 fn j)))) (ew_SH L) M) := by
  refine ew_iload_n d_Ve_valueBehind_0 rfl ?_
  refine ew_iconst (v := nI 1) d_Ve_valueBehind_1 (by decide) ?_
  refine en_iadd d_Ve_valueBehind_2 ?_
  refine en_eq rfl (show _ = [.int (nI 1)] from rfl) rfl ?_
  refine en_istore_n (ls' := [.ref 43, .int (nI 2), .int (nI 0), .int (nI 1), .retAddr 0, .retAddr 0]) d_Ve_valueBehind_3 (Nat.le_of_ble_eq_true rfl) rfl ?_
  refine ew_iload_n d_Ve_valueBehind_4 rfl ?_
  refine en_callS (As := [.int (nI 1)]) (st := []) (st1 := [.int (nI 16)]) d_Ve_valueBehind_5 k_Pf_layerSize tw_556 tw_162 rfl (Nat.le_of_ble_eq_true rfl) rfl (Nat.le_of_ble_eq_true rfl) rfl rfl (c_Pf_layerSize1 l g _ L M) rfl ?_
  refine en_istore (ls' := [.ref 43, .int (nI 2), .int (nI 0), .int (nI 1), .int (nI 16), .retAddr 0]) d_Ve_valueBehind_8 (Nat.le_of_ble_eq_true rfl) rfl ?_
  refine ew_aload_n d_Ve_valueBehind_10 rfl ?_
  refine ew_iload_n d_Ve_valueBehind_11 rfl ?_
  refine en_callV (As := [.int (nI 2)]) (i := 43) (ci := 6) (st := []) (st1 := [.int (nI j)]) d_Ve_valueBehind_12 k_Ve_place rfl rfl tw_542 tw_543 tw_544 rfl (Nat.le_of_ble_eq_true rfl) rfl (Nat.le_of_ble_eq_true rfl) rfl rfl (c_Ve_place l g _ L M 2 j (by decide) (hj)) rfl ?_
  refine ew_iload d_Ve_valueBehind_15 rfl ?_
  refine en_irem d_Ve_valueBehind_17 (by omega) (by decide) (by decide) ?_
  refine ew_iload d_Ve_valueBehind_18 rfl ?_
  refine ew_iconst (v := nI 2) d_Ve_valueBehind_20 (by decide) ?_
  refine en_idiv d_Ve_valueBehind_21 (by first | with_reducible assumption | with_reducible exact ep_lt _ | with_reducible exact sp_its_lt _ _ _ | with_reducible exact tb_l_rt _ | with_reducible exact tb_l_x _ | with_reducible exact tb_l_o0 _ | with_reducible exact tb_l_o1 _ | with_reducible exact tb_l_va _ | with_reducible exact tb_l_ll _ | with_reducible exact tb_l_cf _ | with_reducible exact tb_l_kf _ | with_reducible exact sp_ts_lt _ _ _ _ | with_reducible exact sp_w_lt _ _ | with_reducible exact sp_cs_lt _ _ _ _ _ | with_reducible exact sp_cb_lt _ _ _ _ _ | with_reducible exact sp_ch_lt _ | with_reducible exact sp_bf_lt _ _ | omega) (by decide) (by decide) ?_
  refine en_eq rfl (show _ = [.int (nI 8), .int (nI (j % 16))] from rfl) rfl ?_
  refine en_idiv d_Ve_valueBehind_22 (by omega) (by decide) (by decide) ?_
  refine en_istore (ls' := [.ref 43, .int (nI 2), .int (nI 0), .int (nI 1), .int (nI 16), .int (nI ((j % 16) / 8))]) d_Ve_valueBehind_23 (Nat.le_of_ble_eq_true rfl) rfl ?_
  refine ew_aload_n d_Ve_valueBehind_25 rfl ?_
  refine ew_getr (ci := 6) (f := 3) d_Ve_valueBehind_26 rfl rfl rfl tw_200 ?_
  refine ew_iload_n d_Ve_valueBehind_29 rfl ?_
  refine ew_iload_n d_Ve_valueBehind_30 rfl ?_
  refine ew_iload d_Ve_valueBehind_31 rfl ?_
  refine en_callS (As := [.int (nI 2), .int (nI 1), .int (nI ((j % 16) / 8))]) (st := [.ref 22]) (st1 := [.int (nI (161 + 5 * ((j % 16) / 8))), .ref 22]) d_Ve_valueBehind_33 k_Pf_layerStart tw_558 tw_488 rfl (Nat.le_of_ble_eq_true rfl) rfl (Nat.le_of_ble_eq_true rfl) rfl rfl (c_Pf_layerStart1 l g _ L M hs 2 ((j % 16) / 8)) rfl ?_
  refine ew_iald (j := 161 + 5 * ((j % 16) / 8)) d_Ve_valueBehind_36 rfl (rfl) (by omega) (by decide) ?_
  refine en_eq (st' := [.int (nI (sp_vb20 fn j))]) rfl (by rw [show (M 22 (161 + 5 * ((j % 16) / 8))) = (nI (sp_vb20 fn j)) from sp_vbp (i := 161) (s := 5) (q := j % 16 / 8) hfn (by decide) (by decide) (by omega)]) rfl ?_
  exact ew_iret d_Ve_valueBehind_37 rfl (⟨rfl, rfl, rfl⟩)
set_option maxRecDepth 100000 in
theorem c_Ve_valueBehind21 (l : Launch) (g : ew_G) (d L : Nat) (M : ew_M) (hs : sp_st M) (fn : Nat → Nat) (hfn : sp_fnok (M 22) fn) (j : Nat) (hj : M 46 2 = nI j) (hj2 : j < 16) :
    Ew l g (d + 1) 0 0 m_Ve_valueBehind 0 [.ref 43, .int (nI 2), .int (nI 1), .retAddr 0, .retAddr 0, .retAddr 0] [] (ew_SH L) M (ew_q (some (.int (nI (sp_vb21 fn j)))) (ew_SH L) M) := by
  refine ew_iload_n d_Ve_valueBehind_0 rfl ?_
  refine ew_iconst (v := nI 1) d_Ve_valueBehind_1 (by decide) ?_
  refine en_iadd d_Ve_valueBehind_2 ?_
  refine en_eq rfl (show _ = [.int (nI 2)] from rfl) rfl ?_
  refine en_istore_n (ls' := [.ref 43, .int (nI 2), .int (nI 1), .int (nI 2), .retAddr 0, .retAddr 0]) d_Ve_valueBehind_3 (Nat.le_of_ble_eq_true rfl) rfl ?_
  refine ew_iload_n d_Ve_valueBehind_4 rfl ?_
  refine en_callS (As := [.int (nI 2)]) (st := []) (st1 := [.int (nI 8)]) d_Ve_valueBehind_5 k_Pf_layerSize tw_556 tw_162 rfl (Nat.le_of_ble_eq_true rfl) rfl (Nat.le_of_ble_eq_true rfl) rfl rfl (c_Pf_layerSize2 l g _ L M) rfl ?_
  refine en_istore (ls' := [.ref 43, .int (nI 2), .int (nI 1), .int (nI 2), .int (nI 8), .retAddr 0]) d_Ve_valueBehind_8 (Nat.le_of_ble_eq_true rfl) rfl ?_
  refine ew_aload_n d_Ve_valueBehind_10 rfl ?_
  refine ew_iload_n d_Ve_valueBehind_11 rfl ?_
  refine en_callV (As := [.int (nI 2)]) (i := 43) (ci := 6) (st := []) (st1 := [.int (nI j)]) d_Ve_valueBehind_12 k_Ve_place rfl rfl tw_542 tw_543 tw_544 rfl (Nat.le_of_ble_eq_true rfl) rfl (Nat.le_of_ble_eq_true rfl) rfl rfl (c_Ve_place l g _ L M 2 j (by decide) (hj)) rfl ?_
  refine ew_iload d_Ve_valueBehind_15 rfl ?_
  refine en_irem d_Ve_valueBehind_17 (by omega) (by decide) (by decide) ?_
  refine ew_iload d_Ve_valueBehind_18 rfl ?_
  refine ew_iconst (v := nI 2) d_Ve_valueBehind_20 (by decide) ?_
  refine en_idiv d_Ve_valueBehind_21 (by first | with_reducible assumption | with_reducible exact ep_lt _ | with_reducible exact sp_its_lt _ _ _ | with_reducible exact tb_l_rt _ | with_reducible exact tb_l_x _ | with_reducible exact tb_l_o0 _ | with_reducible exact tb_l_o1 _ | with_reducible exact tb_l_va _ | with_reducible exact tb_l_ll _ | with_reducible exact tb_l_cf _ | with_reducible exact tb_l_kf _ | with_reducible exact sp_ts_lt _ _ _ _ | with_reducible exact sp_w_lt _ _ | with_reducible exact sp_cs_lt _ _ _ _ _ | with_reducible exact sp_cb_lt _ _ _ _ _ | with_reducible exact sp_ch_lt _ | with_reducible exact sp_bf_lt _ _ | omega) (by decide) (by decide) ?_
  refine en_eq rfl (show _ = [.int (nI 4), .int (nI (j % 8))] from rfl) rfl ?_
  refine en_idiv d_Ve_valueBehind_22 (by omega) (by decide) (by decide) ?_
  refine en_istore (ls' := [.ref 43, .int (nI 2), .int (nI 1), .int (nI 2), .int (nI 8), .int (nI ((j % 8) / 4))]) d_Ve_valueBehind_23 (Nat.le_of_ble_eq_true rfl) rfl ?_
  refine ew_aload_n d_Ve_valueBehind_25 rfl ?_
  refine ew_getr (ci := 6) (f := 3) d_Ve_valueBehind_26 rfl rfl rfl tw_200 ?_
  refine ew_iload_n d_Ve_valueBehind_29 rfl ?_
  refine ew_iload_n d_Ve_valueBehind_30 rfl ?_
  refine ew_iload d_Ve_valueBehind_31 rfl ?_
  refine en_callS (As := [.int (nI 2), .int (nI 2), .int (nI ((j % 8) / 4))]) (st := [.ref 22]) (st1 := [.int (nI (171 + 4 * ((j % 8) / 4))), .ref 22]) d_Ve_valueBehind_33 k_Pf_layerStart tw_558 tw_488 rfl (Nat.le_of_ble_eq_true rfl) rfl (Nat.le_of_ble_eq_true rfl) rfl rfl (c_Pf_layerStart2 l g _ L M hs 2 ((j % 8) / 4)) rfl ?_
  refine ew_iald (j := 171 + 4 * ((j % 8) / 4)) d_Ve_valueBehind_36 rfl (rfl) (by omega) (by decide) ?_
  refine en_eq (st' := [.int (nI (sp_vb21 fn j))]) rfl (by rw [show (M 22 (171 + 4 * ((j % 8) / 4))) = (nI (sp_vb21 fn j)) from sp_vbp (i := 171) (s := 4) (q := j % 8 / 4) hfn (by decide) (by decide) (by omega)]) rfl ?_
  exact ew_iret d_Ve_valueBehind_37 rfl (⟨rfl, rfl, rfl⟩)
