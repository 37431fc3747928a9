set_option maxRecDepth 100000 in
theorem c_P_isInProof (l : Launch) (g : ew_G) (d L : Nat) (M : ew_M) (pm : Bool) (hp : M 3 6 = ew_b pm) (i : Int32) :
    Ew l g d 0 0 m_P_isInProof 0 [.ref 3, .int i] [] (ew_SH L) M (ew_q (some (.int (ew_b (pm && sp_in i 179)))) (ew_SH L) M) := by
  refine ew_aload_n d_P_isInProof_0 rfl ?_
  refine ew_geti (ci := 0) (f := 6) d_P_isInProof_1 rfl rfl rfl tw_219 ?_
  refine en_eq (st' := [.int (ew_b pm)]) rfl (by rw [show (M 3 6) = (ew_b pm) from hp]) rfl ?_
  refine en_b_eq (tgt := 22) d_P_isInProof_4 (by decide) (fun h4 => ?_) (fun h4 => ?_)
  · refine ew_iconst (v := nI 0) d_P_isInProof_22 (by decide) ?_
    exact ew_zret d_P_isInProof_23 rfl (by decide) (⟨by first | (rw [h4]; rfl) | (rw [h4, sp_in_1 h8]; rfl) | (rw [h4, sp_in_2 h15]; rfl), rfl, rfl⟩)
  · refine ew_iload_n d_P_isInProof_7 rfl ?_
    refine ew_if_lt (tgt := 22) d_P_isInProof_8 (by decide) (fun h8 => ?_) (fun h8 => ?_)
    · refine ew_iconst (v := nI 0) d_P_isInProof_22 (by decide) ?_
      exact ew_zret d_P_isInProof_23 rfl (by decide) (⟨by first | (rw [h4]; rfl) | (rw [h4, sp_in_1 h8]; rfl) | (rw [h4, sp_in_2 h15]; rfl), rfl, rfl⟩)
    · refine ew_iload_n d_P_isInProof_11 rfl ?_
      refine ew_sipush (v := nI 179) d_P_isInProof_12 (by decide) ?_
      refine ew_icmp_ge (tgt := 22) d_P_isInProof_15 (by decide) (fun h15 => ?_) (fun h15 => ?_)
      · refine ew_iconst (v := nI 0) d_P_isInProof_22 (by decide) ?_
        exact ew_zret d_P_isInProof_23 rfl (by decide) (⟨by first | (rw [h4]; rfl) | (rw [h4, sp_in_1 h8]; rfl) | (rw [h4, sp_in_2 h15]; rfl), rfl, rfl⟩)
      · refine ew_iconst (v := nI 1) d_P_isInProof_18 (by decide) ?_
        refine ew_goto (tgt := 23) d_P_isInProof_19 (by decide) ?_
        exact ew_zret d_P_isInProof_23 rfl (by decide) (⟨by rw [h4, sp_in_t h8 h15]; rfl, rfl, rfl⟩)
set_option maxRecDepth 100000 in
theorem c_P_proofB (l : Launch) (g : ew_G) (d L : Nat) (M : ew_M) (pm : Bool) (hp : M 3 6 = ew_b pm) (i : Int32) (h : (pm && sp_in i 179) = false) :
    Ew l g (d + 1) 0 0 m_P_proof 0 [.ref 3, .int i] [] (ew_SH L) M (ew_q (some (.int (nI 0))) (ew_SH L) M) := by
  refine ew_aload_n d_P_proof_0 rfl ?_
  refine ew_iload_n d_P_proof_1 rfl ?_
  refine en_callV (As := [.int i]) (i := 3) (ci := 0) (st := []) (st1 := [.int (ew_b (pm && sp_in i 179))]) d_P_proof_2 k_P_isInProof rfl rfl tw_496 tw_498 tp_17 rfl (Nat.le_of_ble_eq_true rfl) rfl (Nat.le_of_ble_eq_true rfl) rfl rfl (c_P_isInProof l g _ L M pm hp i) rfl ?_
  refine en_b_eq (tgt := 20) d_P_proof_5 (by decide) (fun h5 => ?_) (fun h5 => by exact absurd h (by rw [h5]; decide))
  refine ew_iconst (v := nI 0) d_P_proof_20 (by decide) ?_
  exact ew_iret d_P_proof_21 rfl (⟨rfl, rfl, rfl⟩)
set_option maxRecDepth 100000 in
theorem c_P_proof (l : Launch) (g : ew_G) (d L : Nat) (M : ew_M) (hp : M 3 6 = ew_b true) (i : Nat) (hi : i < 179) :
    Ew l g (d + 1) 0 0 m_P_proof 0 [.ref 3, .int (nI i)] [] (ew_SH L) M (ew_q (some (.int (M 22 i))) (ew_SH L) M) := by
  refine ew_aload_n d_P_proof_0 rfl ?_
  refine ew_iload_n d_P_proof_1 rfl ?_
  refine en_callV (As := [.int (nI i)]) (i := 3) (ci := 0) (st := []) (st1 := [.int (ew_b (true && sp_in (nI i) 179))]) d_P_proof_2 k_P_isInProof rfl rfl tw_496 tw_498 tp_17 rfl (Nat.le_of_ble_eq_true rfl) rfl (Nat.le_of_ble_eq_true rfl) rfl rfl (c_P_isInProof l g _ L M true hp (nI i)) rfl ?_
  refine en_b_eq (tgt := 20) d_P_proof_5 (by decide) (fun h5 => by exact absurd h5 (by rw [sp_in_nI (by decide) hi]; decide)) (fun h5 => ?_)
  refine ew_aload_n d_P_proof_8 rfl ?_
  refine ew_getr (ci := 0) (f := 3) d_P_proof_9 rfl rfl rfl tw_216 ?_
  refine ew_getrN (ci := 4) (f := 0) d_P_proof_12 rfl rfl rfl tw_111 ?_
  refine ew_iload_n d_P_proof_15 rfl ?_
  refine ew_iald (j := i) d_P_proof_16 rfl (rfl) (by first | with_reducible assumption | with_reducible exact ep_lt _ | with_reducible exact sp_its_lt _ _ _ | with_reducible exact tb_l_rt _ | with_reducible exact tb_l_x _ | with_reducible exact tb_l_o0 _ | with_reducible exact tb_l_o1 _ | with_reducible exact tb_l_va _ | with_reducible exact tb_l_ll _ | with_reducible exact tb_l_cf _ | with_reducible exact tb_l_kf _ | with_reducible exact sp_ts_lt _ _ _ _ | with_reducible exact sp_w_lt _ _ | with_reducible exact sp_cs_lt _ _ _ _ _ | with_reducible exact sp_cb_lt _ _ _ _ _ | with_reducible exact sp_ch_lt _ | with_reducible exact sp_bf_lt _ _ | omega) (by decide) ?_
  refine ew_goto (tgt := 21) d_P_proof_17 (by decide) ?_
  exact ew_iret d_P_proof_21 rfl (⟨rfl, rfl, rfl⟩)
set_option maxRecDepth 100000 in
theorem c_P_alterB (l : Launch) (g : ew_G) (d L : Nat) (M : ew_M) (pm : Bool) (hp : M 3 6 = ew_b pm) (i v : Int32) (h : (pm && sp_in i 179) = false) :
    Ew l g (d + 1) 0 0 m_P_alter 0 [.ref 3, .int i, .int v] [] (ew_SH L) M (ew_q (some (.int (nI 0))) (ew_SH L) M) := by
  refine ew_aload_n d_P_alter_0 rfl ?_
  refine ew_iload_n d_P_alter_1 rfl ?_
  refine en_callV (As := [.int i]) (i := 3) (ci := 0) (st := []) (st1 := [.int (ew_b (pm && sp_in i 179))]) d_P_alter_2 k_P_isInProof rfl rfl tw_496 tw_498 tp_17 rfl (Nat.le_of_ble_eq_true rfl) rfl (Nat.le_of_ble_eq_true rfl) rfl rfl (c_P_isInProof l g _ L M pm hp i) rfl ?_
  refine en_b_ne (tgt := 10) d_P_alter_5 (by decide) (fun h5 => by exact absurd h (by rw [h5]; decide)) (fun h5 => ?_)
  refine ew_iconst (v := nI 0) d_P_alter_8 (by decide) ?_
  exact ew_zret d_P_alter_9 rfl (by decide) (⟨rfl, rfl, rfl⟩)
set_option maxRecDepth 100000 in
theorem c_P_alter (l : Launch) (g : ew_G) (d L : Nat) (M : ew_M) (hp : M 3 6 = ew_b true) (i : Nat) (v : Int32) (hi : i < 179) :
    Ew l g (d + 1) 0 0 m_P_alter 0 [.ref 3, .int (nI i), .int v] [] (ew_SH L) M (ew_q (some (.int (nI 1))) (ew_SH L) (ew_w M 22 i v)) := by
  refine ew_aload_n d_P_alter_0 rfl ?_
  refine ew_iload_n d_P_alter_1 rfl ?_
  refine en_callV (As := [.int (nI i)]) (i := 3) (ci := 0) (st := []) (st1 := [.int (ew_b (true && sp_in (nI i) 179))]) d_P_alter_2 k_P_isInProof rfl rfl tw_496 tw_498 tp_17 rfl (Nat.le_of_ble_eq_true rfl) rfl (Nat.le_of_ble_eq_true rfl) rfl rfl (c_P_isInProof l g _ L M true hp (nI i)) rfl ?_
  refine en_b_ne (tgt := 10) d_P_alter_5 (by decide) (fun h5 => ?_) (fun h5 => by exact absurd h5 (by rw [sp_in_nI (by decide) hi]; decide))
  refine ew_aload_n d_P_alter_10 rfl ?_
  refine ew_getr (ci := 0) (f := 3) d_P_alter_11 rfl rfl rfl tw_216 ?_
  refine ew_getrN (ci := 4) (f := 0) d_P_alter_14 rfl rfl rfl tw_111 ?_
  refine ew_iload_n d_P_alter_17 rfl ?_
  refine ew_iload_n d_P_alter_18 rfl ?_
  refine ew_iast (j := i) d_P_alter_19 rfl (by decide) (rfl) (by first | with_reducible assumption | with_reducible exact ep_lt _ | with_reducible exact sp_its_lt _ _ _ | with_reducible exact tb_l_rt _ | with_reducible exact tb_l_x _ | with_reducible exact tb_l_o0 _ | with_reducible exact tb_l_o1 _ | with_reducible exact tb_l_va _ | with_reducible exact tb_l_ll _ | with_reducible exact tb_l_cf _ | with_reducible exact tb_l_kf _ | with_reducible exact sp_ts_lt _ _ _ _ | with_reducible exact sp_w_lt _ _ | with_reducible exact sp_cs_lt _ _ _ _ _ | with_reducible exact sp_cb_lt _ _ _ _ _ | with_reducible exact sp_ch_lt _ | with_reducible exact sp_bf_lt _ _ | omega) (by decide) ?_
  refine ew_iconst (v := nI 1) d_P_alter_20 (by decide) ?_
  exact ew_zret d_P_alter_21 rfl (by decide) (⟨rfl, rfl, rfl⟩)
set_option maxRecDepth 100000 in
theorem c_P_positionB (l : Launch) (g : ew_G) (d L : Nat) (M : ew_M) (km : Bool) (hk : M 3 7 = ew_b km) (i : Int32) (h : (km && sp_in i 3) = false) :
    Ew l g (d + 1) 0 0 m_P_position 0 [.ref 3, .int i] [] (ew_SH L) M (ew_q (some (.int (-2))) (ew_SH L) M) := by
  refine ew_aload_n d_P_position_0 rfl ?_
  refine ew_geti (ci := 0) (f := 7) d_P_position_1 rfl rfl rfl tw_220 ?_
  refine en_eq (st' := [.int (ew_b km)]) rfl (by rw [show (M 3 7) = (ew_b km) from hk]) rfl ?_
  refine en_b_eq (tgt := 16) d_P_position_4 (by decide) (fun h4 => ?_) (fun h4 => ?_)
  · refine ew_bipush (v := -2) d_P_position_16 (by decide) ?_
    exact ew_iret d_P_position_18 rfl (⟨rfl, rfl, rfl⟩)
  · refine ew_iload_n d_P_position_7 rfl ?_
    refine ew_if_lt (tgt := 16) d_P_position_8 (by decide) (fun h8 => ?_) (fun h8 => ?_)
    · refine ew_bipush (v := -2) d_P_position_16 (by decide) ?_
      exact ew_iret d_P_position_18 rfl (⟨rfl, rfl, rfl⟩)
    · refine ew_iload_n d_P_position_11 rfl ?_
      refine ew_iconst (v := nI 3) d_P_position_12 (by decide) ?_
      refine ew_icmp_lt (tgt := 19) d_P_position_13 (by decide) (fun h13 => ?_) (fun h13 => ?_)
      · exact absurd h (by rw [h4, sp_in_t h8 (Int32.not_le.mpr h13)]; decide)
      · refine ew_bipush (v := -2) d_P_position_16 (by decide) ?_
        exact ew_iret d_P_position_18 rfl (⟨rfl, rfl, rfl⟩)
set_option maxRecDepth 100000 in
theorem c_P_position (l : Launch) (g : ew_G) (d L : Nat) (M : ew_M) (hk : M 3 7 = ew_b true) (i j : Nat) (hi : i < 3) (hj : M 46 i = nI j) :
    Ew l g (d + 1) 0 0 m_P_position 0 [.ref 3, .int (nI i)] [] (ew_SH L) M (ew_q (some (.int (nI j))) (ew_SH L) M) := by
  refine ew_aload_n d_P_position_0 rfl ?_
  refine ew_geti (ci := 0) (f := 7) d_P_position_1 rfl rfl rfl tw_220 ?_
  refine en_eq (st' := [.int (ew_b true)]) rfl (by rw [show (M 3 7) = (ew_b true) from hk]) rfl ?_
  refine en_b_eq (tgt := 16) d_P_position_4 (by decide) (fun h4 => by exact absurd h4 (by decide)) (fun h4 => ?_)
  refine ew_iload_n d_P_position_7 rfl ?_
  refine en_if_lt (tgt := 16) d_P_position_8 (by decide) (by omega) ?_
  refine ew_iload_n d_P_position_11 rfl ?_
  refine ew_iconst (v := nI 3) d_P_position_12 (by decide) ?_
  refine en_icmp_lt (tgt := 19) d_P_position_13 (by decide) (by omega) (by omega) (fun h13 => ?_) (fun h13 => by exact absurd h13 (by omega))
  refine ew_aload_n d_P_position_19 rfl ?_
  refine ew_getr (ci := 0) (f := 5) d_P_position_20 rfl rfl rfl tw_218 ?_
  refine ew_iload_n d_P_position_23 rfl ?_
  refine en_callV (As := [.int (nI i)]) (i := 43) (ci := 6) (st := []) (st1 := [.int (nI j)]) d_P_position_24 k_Ve_place rfl rfl tw_579 tw_543 tw_544 rfl (Nat.le_of_ble_eq_true rfl) rfl (Nat.le_of_ble_eq_true rfl) rfl rfl (c_Ve_place l g _ L M i j hi hj) rfl ?_
  exact ew_iret d_P_position_27 rfl (⟨rfl, rfl, rfl⟩)
set_option maxRecDepth 100000 in
theorem c_P_proveN (l : Launch) (g : ew_G) (d L : Nat) (M : ew_M) (ρ : sp_R) (hr : sp_ru ρ M) (h : sp_cc ρ + r_bn ρ = 0) :
    Ew l g (d + 2) 0 0 m_P_prove 0 [.ref 3, .retAddr 0] [] (ew_SH L) M (ew_q (some (.int (-1))) (ew_SH L) M) := by
  refine ew_aload_n d_P_prove_0 rfl ?_
  refine ew_getr (ci := 0) (f := 1) d_P_prove_1 rfl rfl rfl tw_214 ?_
  refine en_callV (As := []) (i := 10) (ci := 2) (st := []) (st1 := [.int (ew_b (decide (sp_cc ρ + r_bn ρ = 0)))]) d_P_prove_4 k_Ru_areNone rfl rfl tw_354 tw_355 tw_356 rfl (Nat.le_of_ble_eq_true rfl) rfl (Nat.le_of_ble_eq_true rfl) rfl rfl (c_Ru_areNone l g _ L M ρ (hr)) rfl ?_
  refine en_b_eq (tgt := 12) d_P_prove_7 (by decide) (fun h7 => by exact absurd (decide_eq_true h) (by rw [h7]; decide)) (fun h7 => ?_)
  refine ew_iconst (v := -1) d_P_prove_10 (by decide) ?_
  exact ew_iret d_P_prove_11 rfl (⟨rfl, rfl, rfl⟩)
set_option maxRecDepth 100000 in
theorem c_P_proveW (l : Launch) (g : ew_G) (d L : Nat) (M : ew_M) (ρ : sp_R) (hr : sp_ru ρ M) (ce : Nat → Nat → Nat) (hc : sp_ce ce M) (h16 : M 16 0 = nI 1) (h : sp_cc ρ + r_bn ρ ≠ 0) (hw : sp_wrong ρ ce ≠ -2) :
    Ew l g (d + 5) 0 0 m_P_prove 0 [.ref 3, .retAddr 0] [] (ew_SH L) M (sp_fr L M (-10 - sp_wrong ρ ce)) := by
  refine ew_aload_n d_P_prove_0 rfl ?_
  refine ew_getr (ci := 0) (f := 1) d_P_prove_1 rfl rfl rfl tw_214 ?_
  refine en_callV (As := []) (i := 10) (ci := 2) (st := []) (st1 := [.int (ew_b (decide (sp_cc ρ + r_bn ρ = 0)))]) d_P_prove_4 k_Ru_areNone rfl rfl tw_354 tw_355 tw_356 rfl (Nat.le_of_ble_eq_true rfl) rfl (Nat.le_of_ble_eq_true rfl) rfl rfl (c_Ru_areNone l g _ L M ρ (hr)) rfl ?_
  refine en_b_eq (tgt := 12) d_P_prove_7 (by decide) (fun h7 => ?_) (fun h7 => by exact absurd (decide_eq_false h) (by rw [h7]; decide))
  refine ew_aload_n d_P_prove_12 rfl ?_
  refine en_callVq (As := []) (i := 3) (ci := 0) (st := []) d_P_prove_13 k_P_wrong rfl rfl tw_362 tw_312 tw_313 rfl (Nat.le_of_ble_eq_true rfl) rfl (Nat.le_of_ble_eq_true rfl) rfl rfl (c_P_wrong l g _ L M ρ hr ce hc h16) ?_
  rintro _ _ M1 ⟨rfl, rfl, a1, a2⟩
  show Ew l g _ _ _ m_P_prove 16 [.ref 3, .retAddr 0] [.int (sp_wrong ρ ce)] (ew_SH L) M1 _
  refine en_istore_n (ls' := [.ref 3, .int (sp_wrong ρ ce)]) d_P_prove_16 (Nat.le_of_ble_eq_true rfl) rfl ?_
  refine ew_iload_n d_P_prove_17 rfl ?_
  refine ew_bipush (v := -2) d_P_prove_18 (by decide) ?_
  refine ew_icmp_eq (tgt := 28) d_P_prove_20 (by decide) (fun h20 => by exact absurd h20 hw) (fun h20 => ?_)
  refine ew_bipush (v := -10) d_P_prove_23 (by decide) ?_
  refine ew_iload_n d_P_prove_25 rfl ?_
  refine ew_isub d_P_prove_26 ?_
  exact ew_iret d_P_prove_27 rfl (⟨rfl, rfl, a1, a2⟩)
def sp_prq (ρ : sp_R) (ce : Nat → Nat → Nat) (L : Nat) (M : ew_M) : Option Value → List ew_S → ew_M → Prop := fun v sh' M' => sh' = ew_SH L ∧ v = some (.int (nI 0)) ∧ (∀ q, q ≠ 3 → q ∉ sp_wset → M' q = M q) ∧ M' 3 6 = ew_b true ∧ M' 3 7 = M 3 7 ∧ M' 16 0 = nI 1 ∧ sp_pf ρ ce (M 22) (M' 22)
set_option maxRecDepth 100000 in
theorem c_P_prove (l : Launch) (g : ew_G) (d L : Nat) (M : ew_M) (ρ : sp_R) (hr : sp_ru ρ M) (ce : Nat → Nat → Nat) (hc : sp_ce ce M) (h16 : M 16 0 = nI 1) (h : sp_cc ρ + r_bn ρ ≠ 0) (hT : sp_tab M) (hs : sp_st M) (hz34 : M 34 0 = nI 32) (hz37 : M 37 0 = nI 32) (hz39 : M 39 0 = nI 16) (hz41 : M 41 0 = nI 8) (hw : sp_wrong ρ ce = -2) :
    Ew l g (d + 7) 0 0 m_P_prove 0 [.ref 3, .retAddr 0] [] (ew_SH L) M (sp_prq ρ ce L M) := by
  refine ew_aload_n d_P_prove_0 rfl ?_
  refine ew_getr (ci := 0) (f := 1) d_P_prove_1 rfl rfl rfl tw_214 ?_
  refine en_callV (As := []) (i := 10) (ci := 2) (st := []) (st1 := [.int (ew_b (decide (sp_cc ρ + r_bn ρ = 0)))]) d_P_prove_4 k_Ru_areNone rfl rfl tw_354 tw_355 tw_356 rfl (Nat.le_of_ble_eq_true rfl) rfl (Nat.le_of_ble_eq_true rfl) rfl rfl (c_Ru_areNone l g _ L M ρ (hr)) rfl ?_
  refine en_b_eq (tgt := 12) d_P_prove_7 (by decide) (fun h7 => ?_) (fun h7 => by exact absurd (decide_eq_false h) (by rw [h7]; decide))
  refine ew_aload_n d_P_prove_12 rfl ?_
  refine en_callVq (As := []) (i := 3) (ci := 0) (st := []) d_P_prove_13 k_P_wrong rfl rfl tw_362 tw_312 tw_313 rfl (Nat.le_of_ble_eq_true rfl) rfl (Nat.le_of_ble_eq_true rfl) rfl rfl (c_P_wrong l g _ L M ρ hr ce hc h16) ?_
  rintro _ _ M1 ⟨rfl, rfl, a1, a2⟩
  show Ew l g _ _ _ m_P_prove 16 [.ref 3, .retAddr 0] [.int (sp_wrong ρ ce)] (ew_SH L) M1 _
  refine en_istore_n (ls' := [.ref 3, .int (sp_wrong ρ ce)]) d_P_prove_16 (Nat.le_of_ble_eq_true rfl) rfl ?_
  refine ew_iload_n d_P_prove_17 rfl ?_
  refine ew_bipush (v := -2) d_P_prove_18 (by decide) ?_
  refine ew_icmp_eq (tgt := 28) d_P_prove_20 (by decide) (fun h20 => ?_) (fun h20 => by exact absurd hw h20)
  refine ew_aload_n d_P_prove_28 rfl ?_
  refine ew_getr (ci := 0) (f := 4) d_P_prove_29 rfl rfl rfl tw_217 ?_
  refine ew_aload_n d_P_prove_32 rfl ?_
  refine ew_getr (ci := 0) (f := 3) d_P_prove_33 rfl rfl rfl tw_216 ?_
  refine en_callVq (As := [.ref 21]) (i := 23) (ci := 5) (st := []) d_P_prove_36 k_Pr_writeTo rfl rfl tw_363 tw_364 tw_365 rfl (Nat.le_of_ble_eq_true rfl) rfl (Nat.le_of_ble_eq_true rfl) rfl rfl (c_Pr_writeTo l g _ L M1 ρ (sp_ru_of hr (a1 10 (by decide)) (a1 11 (by decide)) (a1 13 (by decide)) (a1 14 (by decide)) (a1 15 (by decide))) (sp_tab_of hT (a1 5 (by decide)) (a1 6 (by decide)) (a1 7 (by decide)) (a1 8 (by decide)) (a1 9 (by decide))) (sp_st_of hs (a1 1 (by decide)) (a1 2 (by decide))) a2 ce (sp_ce_of hc (a1 19 (by decide)) (a1 20 (by decide))) (by rw [a1 34 (by decide)]; exact hz34) (by rw [a1 37 (by decide)]; exact hz37) (by rw [a1 39 (by decide)]; exact hz39) (by rw [a1 41 (by decide)]; exact hz41)) ?_
  rintro _ _ M2 ⟨rfl, rfl, b1, b2, b3⟩
  show Ew l g _ _ _ m_P_prove 39 [.ref 3, .int (sp_wrong ρ ce)] [] (ew_SH L) M2 _
  refine ew_aload_n d_P_prove_39 rfl ?_
  refine ew_iconst (v := nI 1) d_P_prove_40 (by decide) ?_
  refine ew_puti (ci := 0) (f := 6) (ty := .boolean) d_P_prove_41 rfl (by decide) rfl rfl rfl (by decide +kernel) (by decide) rfl tw_219 ?_
  refine ew_iconst (v := nI 0) d_P_prove_44 (by decide) ?_
  exact ew_iret d_P_prove_45 rfl (⟨rfl, rfl, fun q h3 hq => by rw [ew_w_ne h3, b1 q hq]; exact a1 q (fun e => hq (by rw [e]; decide)), ew_w_at, by rw [ew_w_j (by decide), b1 3 (by decide), a1 3 (by decide)], by rw [ew_w_ne (by decide)]; exact b2, by rw [ew_w_ne (by decide), ← a1 22 (by decide)]; exact b3⟩)
set_option maxRecDepth 100000 in
theorem c_P_verifyN (l : Launch) (g : ew_G) (d L : Nat) (M : ew_M) (hp : M 3 6 = ew_b false) :
    Ew l g (d + 2) 0 0 m_P_verify 0 [.ref 3, .retAddr 0] [] (ew_SH L) M (ew_q (some (.int (-2))) (ew_SH L) (ew_w M 3 7 (nI 0))) := by
  refine ew_aload_n d_P_verify_0 rfl ?_
  refine ew_iconst (v := nI 0) d_P_verify_1 (by decide) ?_
  refine ew_puti (ci := 0) (f := 7) (ty := .boolean) d_P_verify_2 rfl (by decide) rfl rfl rfl (by decide +kernel) (by decide) rfl tw_220 ?_
  refine ew_aload_n d_P_verify_5 rfl ?_
  refine ew_geti (ci := 0) (f := 6) d_P_verify_6 rfl rfl rfl tw_219 ?_
  refine en_eq (st' := [.int (ew_b false)]) rfl (by rw [show ((ew_w M 3 7 (nI 0)) 3 6) = (ew_b false) from by (rw [ew_w_j (by decide)]; exact hp)]) rfl ?_
  refine en_b_ne (tgt := 15) d_P_verify_9 (by decide) (fun h9 => by exact absurd h9 (by decide)) (fun h9 => ?_)
  refine ew_bipush (v := -2) d_P_verify_12 (by decide) ?_
  exact ew_iret d_P_verify_14 rfl (⟨rfl, rfl, rfl⟩)
set_option maxRecDepth 100000 in
theorem c_P_verifyE (l : Launch) (g : ew_G) (d L : Nat) (M : ew_M) (hp : M 3 6 = ew_b true) (ρ : sp_R) (hr : sp_ru ρ M) (h : sp_cc ρ + r_bn ρ = 0) :
    Ew l g (d + 2) 0 0 m_P_verify 0 [.ref 3, .retAddr 0] [] (ew_SH L) M (ew_q (some (.int (-1))) (ew_SH L) (ew_w M 3 7 (nI 0))) := by
  refine ew_aload_n d_P_verify_0 rfl ?_
  refine ew_iconst (v := nI 0) d_P_verify_1 (by decide) ?_
  refine ew_puti (ci := 0) (f := 7) (ty := .boolean) d_P_verify_2 rfl (by decide) rfl rfl rfl (by decide +kernel) (by decide) rfl tw_220 ?_
  refine ew_aload_n d_P_verify_5 rfl ?_
  refine ew_geti (ci := 0) (f := 6) d_P_verify_6 rfl rfl rfl tw_219 ?_
  refine en_eq (st' := [.int (ew_b true)]) rfl (by rw [show ((ew_w M 3 7 (nI 0)) 3 6) = (ew_b true) from by (rw [ew_w_j (by decide)]; exact hp)]) rfl ?_
  refine en_b_ne (tgt := 15) d_P_verify_9 (by decide) (fun h9 => ?_) (fun h9 => by exact absurd h9 (by decide))
  refine ew_aload_n d_P_verify_15 rfl ?_
  refine ew_getr (ci := 0) (f := 1) d_P_verify_16 rfl rfl rfl tw_214 ?_
  refine en_callV (As := []) (i := 10) (ci := 2) (st := []) (st1 := [.int (ew_b (decide (sp_cc ρ + r_bn ρ = 0)))]) d_P_verify_19 k_Ru_areNone rfl rfl tw_354 tw_355 tw_356 rfl (Nat.le_of_ble_eq_true rfl) rfl (Nat.le_of_ble_eq_true rfl) rfl rfl (c_Ru_areNone l g _ L (ew_w M 3 7 (nI 0)) ρ (sp_ru_of hr (ew_w_ne (by decide)) (ew_w_ne (by decide)) (ew_w_ne (by decide)) (ew_w_ne (by decide)) (ew_w_ne (by decide)))) rfl ?_
  refine en_b_eq (tgt := 27) d_P_verify_22 (by decide) (fun h22 => by exact absurd (decide_eq_true h) (by rw [h22]; decide)) (fun h22 => ?_)
  refine ew_iconst (v := -1) d_P_verify_25 (by decide) ?_
  exact ew_iret d_P_verify_26 rfl (⟨rfl, rfl, rfl⟩)
def sp_vyq (ρ : sp_R) (L : Nat) (M : ew_M) : Option Value → List ew_S → ew_M → Prop := fun v sh' M' => sh' = ew_SH L ∧ v = some (.int (nI (sp_vcd ρ (M 22)))) ∧ (∀ q, q ≠ 3 → q ≠ 16 → q ≠ 44 → q ≠ 45 → q ≠ 46 → M' q = M q) ∧ M' 3 6 = M 3 6 ∧ M' 3 7 = ew_b (decide (sp_vcd ρ (M 22) ≠ 1)) ∧ M' 16 0 = nI 1 ∧ (sp_nB (M 22) = true → M' 46 0 = nI (sp_jv ρ (M 22) 0) ∧ M' 46 1 = nI (sp_jv ρ (M 22) 1) ∧ M' 46 2 = nI (sp_jv ρ (M 22) 2))
theorem sp_vcd_le (ρ : sp_R) (f : Nat → Int32) : sp_vcd ρ f ≤ 9 := sp_ite (by decide) (sp_ite sp_code_le.1 (sp_ite sp_code_le.2.1 sp_code_le.2.2))
set_option maxRecDepth 100000 in
theorem c_P_verify (l : Launch) (g : ew_G) (d L : Nat) (M : ew_M) (hp : M 3 6 = ew_b true) (ρ : sp_R) (hr : sp_ru ρ M) (hT : sp_tab M) (hs : sp_st M) (h16 : M 16 0 = nI 1) (h : sp_cc ρ + r_bn ρ ≠ 0) :
    Ew l g (d + 8) 0 0 m_P_verify 0 [.ref 3, .retAddr 0] [] (ew_SH L) M (sp_vyq ρ L M) := by
  refine ew_aload_n d_P_verify_0 rfl ?_
  refine ew_iconst (v := nI 0) d_P_verify_1 (by decide) ?_
  refine ew_puti (ci := 0) (f := 7) (ty := .boolean) d_P_verify_2 rfl (by decide) rfl rfl rfl (by decide +kernel) (by decide) rfl tw_220 ?_
  refine ew_aload_n d_P_verify_5 rfl ?_
  refine ew_geti (ci := 0) (f := 6) d_P_verify_6 rfl rfl rfl tw_219 ?_
  refine en_eq (st' := [.int (ew_b true)]) rfl (by rw [show ((ew_w M 3 7 (nI 0)) 3 6) = (ew_b true) from by (rw [ew_w_j (by decide)]; exact hp)]) rfl ?_
  refine en_b_ne (tgt := 15) d_P_verify_9 (by decide) (fun h9 => ?_) (fun h9 => by exact absurd h9 (by decide))
  refine ew_aload_n d_P_verify_15 rfl ?_
  refine ew_getr (ci := 0) (f := 1) d_P_verify_16 rfl rfl rfl tw_214 ?_
  refine en_callV (As := []) (i := 10) (ci := 2) (st := []) (st1 := [.int (ew_b (decide (sp_cc ρ + r_bn ρ = 0)))]) d_P_verify_19 k_Ru_areNone rfl rfl tw_354 tw_355 tw_356 rfl (Nat.le_of_ble_eq_true rfl) rfl (Nat.le_of_ble_eq_true rfl) rfl rfl (c_Ru_areNone l g _ L (ew_w M 3 7 (nI 0)) ρ (sp_ru_of hr (ew_w_ne (by decide)) (ew_w_ne (by decide)) (ew_w_ne (by decide)) (ew_w_ne (by decide)) (ew_w_ne (by decide)))) rfl ?_
  refine en_b_eq (tgt := 27) d_P_verify_22 (by decide) (fun h22 => ?_) (fun h22 => by exact absurd (decide_eq_false h) (by rw [h22]; decide))
  refine ew_aload_n d_P_verify_27 rfl ?_
  refine ew_getr (ci := 0) (f := 5) d_P_verify_28 rfl rfl rfl tw_218 ?_
  refine en_callVq (As := []) (i := 43) (ci := 6) (st := []) d_P_verify_31 k_Ve_code rfl rfl tw_508 tw_509 tw_510 rfl (Nat.le_of_ble_eq_true rfl) rfl (Nat.le_of_ble_eq_true rfl) rfl rfl ((by have z := c_Ve_code l g d L (ew_w M 3 7 (nI 0)) ρ (sp_ru_of hr (ew_w_ne (by decide)) (ew_w_ne (by decide)) (ew_w_ne (by decide)) (ew_w_ne (by decide)) (ew_w_ne (by decide))) (sp_tab_of hT (ew_w_ne (by decide)) (ew_w_ne (by decide)) (ew_w_ne (by decide)) (ew_w_ne (by decide)) (ew_w_ne (by decide))) (sp_st_of hs (ew_w_ne (by decide)) (ew_w_ne (by decide))) (by rw [ew_w_ne (by decide)]; exact h16); unfold sp_veq at z; rw [ew_w_ne (by decide)] at z; exact z)) ?_
  rintro _ _ M1 ⟨rfl, rfl, a1, a2, a3⟩
  show Ew l g _ _ _ m_P_verify 34 [.ref 3, .retAddr 0] [.int (nI (sp_vcd ρ (M 22)))] (ew_SH L) M1 _
  refine en_istore_n (ls' := [.ref 3, .int (nI (sp_vcd ρ (M 22)))]) d_P_verify_34 (Nat.le_of_ble_eq_true rfl) rfl ?_
  refine ew_aload_n d_P_verify_35 rfl ?_
  refine ew_iload_n d_P_verify_36 rfl ?_
  refine ew_iconst (v := nI 1) d_P_verify_37 (by decide) ?_
  refine en_icmp_eq (tgt := 45) d_P_verify_38 (by decide) (by first | decide | (have := sp_vcd_le ρ (M 22); omega)) (by first | decide | (have := sp_vcd_le ρ (M 22); omega)) (fun h38 => ?_) (fun h38 => ?_)
  · refine ew_iconst (v := nI 0) d_P_verify_45 (by decide) ?_
    refine ew_puti (ci := 0) (f := 7) (ty := .boolean) d_P_verify_46 rfl (by decide) rfl rfl rfl (by decide +kernel) (by decide) rfl tw_220 ?_
    refine ew_iload_n d_P_verify_49 rfl ?_
    exact ew_iret d_P_verify_50 rfl (⟨rfl, rfl, fun q h3 g16 g44 g45 g46 => by rw [ew_w_ne h3, a1 q g16 g44 g45 g46, ew_w_ne h3], by rw [ew_w_j (by decide), a1 3 (by decide) (by decide) (by decide) (by decide), ew_w_j (by decide)], by rw [show decide (sp_vcd ρ (M 22) ≠ 1) = false from decide_eq_false (fun q => q h38)]; exact ew_w_at, by rw [ew_w_ne (by decide)]; exact a2, fun q => by rw [ew_w_ne (by decide)]; exact a3 q⟩)
  · refine ew_iconst (v := nI 1) d_P_verify_41 (by decide) ?_
    refine ew_goto (tgt := 46) d_P_verify_42 (by decide) ?_
    refine ew_puti (ci := 0) (f := 7) (ty := .boolean) d_P_verify_46 rfl (by decide) rfl rfl rfl (by decide +kernel) (by decide) rfl tw_220 ?_
    refine ew_iload_n d_P_verify_49 rfl ?_
    exact ew_iret d_P_verify_50 rfl (⟨rfl, rfl, fun q h3 g16 g44 g45 g46 => by rw [ew_w_ne h3, a1 q g16 g44 g45 g46, ew_w_ne h3], by rw [ew_w_j (by decide), a1 3 (by decide) (by decide) (by decide) (by decide), ew_w_j (by decide)], by rw [show decide (sp_vcd ρ (M 22) ≠ 1) = true from decide_eq_true h38]; exact ew_w_at, by rw [ew_w_ne (by decide)]; exact a2, fun q => by rw [ew_w_ne (by decide)]; exact a3 q⟩)
