theorem ep_ad {x y : Nat} (hx : x < 12289) : x + y % 12289 < 2 ^ 31 := by
  have := ep_lt y
  omega
def sp_rl (M : ew_M) (a b c d : Int32) : ew_M := sp_rd (ew_w M 64 0 (nI 1)) 64 a b c d
theorem sp_rl_ne {M : ew_M} {q : Nat} {a b c d : Int32} (h : q ≠ 64) : sp_rl M a b c d q = M q := by
  unfold sp_rl
  rw [sp_rd_ne h, ew_w_ne h]
theorem sp_rl_le {M : ew_M} {a b c d : Nat} (ha : a < 12289) (hb : b < 12289) (hc : c < 12289) (hd : d < 12289) : sp_hle (sp_le a b c d) (sp_rl M (nI a) (nI b) (nI c) (nI d) 64) := sp_rd_le ew_w_at ha hb hc hd
theorem sp_rm_rl {ρ : sp_R} {M : ew_M} {a b c d : Int32} (h : sp_rm ρ M) : sp_rm ρ (sp_rl M a b c d) := sp_rm_of h (sp_rl_ne (by decide)) (sp_rl_ne (by decide)) (sp_rl_ne (by decide)) (sp_rl_ne (by decide)) (by rw [sp_rl_ne (by decide)]) (sp_rl_ne (by decide)) (sp_rl_ne (by decide)) (sp_rl_ne (by decide))
theorem sp_cm0 {ce : Nat → Nat → Nat} {M : ew_M} {r : Nat} (h : sp_cm ce M) (h8 : r < 8) : M 48 r = nI (ce 0 r) := by
  have z := (h 0 r (by decide) h8).1
  rwa [Nat.mul_zero, Nat.zero_add] at z
theorem sp_cm1 {ce : Nat → Nat → Nat} {M : ew_M} {r : Nat} (h : sp_cm ce M) (h8 : r < 8) : M 48 (8 + r) = nI (ce 1 r) := by
  have z := (h 1 r (by decide) h8).1
  rwa [Nat.mul_one] at z
theorem sp_cm9 {ce : Nat → Nat → Nat} {M : ew_M} {r : Nat} (h : sp_cm ce M) (h8 : r + 1 < 8) : M 48 (9 + r) = nI (ce 1 (r + 1)) := by
  have z := (h 1 (r + 1) (by decide) h8).1
  rwa [show 8 * 1 + (r + 1) = 9 + r by omega] at z
/-- an end that leaves all but the row of letters -/
def sp_mq (L : Nat) (M : ew_M) (x : Int32) : Option Value → List ew_S → ew_M → Prop := fun v sh' M' => sh' = ew_SH L ∧ v = some (.int x) ∧ ∀ q, q ≠ 64 → M' q = M q
set_option maxRecDepth 100000 in
theorem c_Mo_valueAt (l : Launch) (g : ew_G) (d L : Nat) (M : ew_M) (hR : sp_rts M) (ce : Nat → Nat → Nat) (hc : sp_cm ce M) (c pt : Nat) (hc2 : c < 2) (hpt : pt < 12289) :
    Ew l g (d + 2) 0 0 m_Mo_valueAt 0 [.ref 47, .int (nI c), .int (nI pt), .retAddr 0, .retAddr 0, .retAddr 0, .retAddr 0, .retAddr 0] [] (ew_SH L) M (ew_q (some (.int (nI (sp_va (ce c) pt 8)))) (ew_SH L) M) := by
  refine ew_iconst (v := nI 0) d_Mo_valueAt_0 (by decide) ?_
  refine en_istore_n (ls' := [.ref 47, .int (nI c), .int (nI pt), .int (nI 0), .retAddr 0, .retAddr 0, .retAddr 0, .retAddr 0]) d_Mo_valueAt_1 (Nat.le_of_ble_eq_true rfl) rfl ?_
  refine ew_iconst (v := nI 0) d_Mo_valueAt_2 (by decide) ?_
  refine en_istore (ls' := [.ref 47, .int (nI c), .int (nI pt), .int (nI 0), .int (nI 0), .retAddr 0, .retAddr 0, .retAddr 0]) d_Mo_valueAt_3 (Nat.le_of_ble_eq_true rfl) rfl ?_
  exact lp_Mo_valueAt l g d L M hR ce hc c pt hc2 hpt 9 0 (by omega) (by omega)
theorem sp_va_p {ce : Nat → Nat → Nat} {M : ew_M} (hc : sp_cm ce M) {c i : Nat} (hc2 : c < 2) (hi : i < 32) : nI (sp_va (ce c) (tb_x i) 8) = nI (sp_p ce c i) := congrArg nI (sp_va_it hi (fun t ht => (hc c t hc2 ht).2))
set_option maxRecDepth 100000 in
theorem c_Mo_at (l : Launch) (g : ew_G) (d L : Nat) (M : ew_M) (hR : sp_rts M) (ce : Nat → Nat → Nat) (hc : sp_cm ce M) (c i : Nat) (hc2 : c < 2) (hi : i < 32) :
    Ew l g (d + 3) 0 0 m_Mo_at 0 [.ref 47, .int (nI c), .int (nI i)] [] (ew_SH L) M (ew_q (some (.int (nI (sp_p ce c i)))) (ew_SH L) M) := by
  refine ew_iload_n d_Mo_at_0 rfl ?_
  refine en_callS (As := [.int (nI c)]) (st := []) (st1 := [.int (ew_b (sp_in (nI c) 2))]) d_Mo_at_1 k_Mo_isColumn tw_668 tw_669 rfl (Nat.le_of_ble_eq_true rfl) rfl (Nat.le_of_ble_eq_true rfl) rfl rfl (c_Mo_isColumn l g _ (ew_SH L) M (nI c)) rfl ?_
  refine en_b_eq (tgt := 30) d_Mo_at_4 (by decide) (fun h4 => by exact absurd h4 (by rw [sp_in_nI (by decide) hc2]; decide)) (fun h4 => ?_)
  refine ew_iload_n d_Mo_at_7 rfl ?_
  refine en_if_lt (tgt := 30) d_Mo_at_8 (by decide) (by first | with_reducible assumption | with_reducible exact ep_lt _ | with_reducible exact sp_its_lt _ _ _ | with_reducible exact tb_l_rt _ | with_reducible exact tb_l_x _ | with_reducible exact tb_l_o0 _ | with_reducible exact tb_l_o1 _ | with_reducible exact tb_l_va _ | with_reducible exact tb_l_ll _ | with_reducible exact tb_l_cf _ | with_reducible exact tb_l_kf _ | with_reducible exact sp_ts_lt _ _ _ _ | with_reducible exact sp_w_lt _ _ | with_reducible exact sp_cs_lt _ _ _ _ _ | with_reducible exact sp_cb_lt _ _ _ _ _ | with_reducible exact sp_ch_lt _ | with_reducible exact sp_bf_lt _ _ | with_reducible exact sp_va_lt _ _ _ | with_reducible exact sp_be_lt _ _ | with_reducible exact sp_p_lt _ _ _ | with_reducible exact sp_com_lt _ _ _ _ | with_reducible exact sp_fo_lt _ _ _ _ _ | omega) ?_
  refine ew_iload_n d_Mo_at_11 rfl ?_
  refine ew_bipush (v := nI 32) d_Mo_at_12 (by decide) ?_
  refine en_icmp_ge (tgt := 30) d_Mo_at_14 (by decide) (by first | with_reducible assumption | with_reducible exact ep_lt _ | with_reducible exact sp_its_lt _ _ _ | with_reducible exact tb_l_rt _ | with_reducible exact tb_l_x _ | with_reducible exact tb_l_o0 _ | with_reducible exact tb_l_o1 _ | with_reducible exact tb_l_va _ | with_reducible exact tb_l_ll _ | with_reducible exact tb_l_cf _ | with_reducible exact tb_l_kf _ | with_reducible exact sp_ts_lt _ _ _ _ | with_reducible exact sp_w_lt _ _ | with_reducible exact sp_cs_lt _ _ _ _ _ | with_reducible exact sp_cb_lt _ _ _ _ _ | with_reducible exact sp_ch_lt _ | with_reducible exact sp_bf_lt _ _ | with_reducible exact sp_va_lt _ _ _ | with_reducible exact sp_be_lt _ _ | with_reducible exact sp_p_lt _ _ _ | with_reducible exact sp_com_lt _ _ _ _ | with_reducible exact sp_fo_lt _ _ _ _ _ | omega) (by first | with_reducible assumption | with_reducible exact ep_lt _ | with_reducible exact sp_its_lt _ _ _ | with_reducible exact tb_l_rt _ | with_reducible exact tb_l_x _ | with_reducible exact tb_l_o0 _ | with_reducible exact tb_l_o1 _ | with_reducible exact tb_l_va _ | with_reducible exact tb_l_ll _ | with_reducible exact tb_l_cf _ | with_reducible exact tb_l_kf _ | with_reducible exact sp_ts_lt _ _ _ _ | with_reducible exact sp_w_lt _ _ | with_reducible exact sp_cs_lt _ _ _ _ _ | with_reducible exact sp_cb_lt _ _ _ _ _ | with_reducible exact sp_ch_lt _ | with_reducible exact sp_bf_lt _ _ | with_reducible exact sp_va_lt _ _ _ | with_reducible exact sp_be_lt _ _ | with_reducible exact sp_p_lt _ _ _ | with_reducible exact sp_com_lt _ _ _ _ | with_reducible exact sp_fo_lt _ _ _ _ _ | omega) (fun h14 => by exact absurd h14 (by omega)) (fun h14 => ?_)
  refine ew_aload_n d_Mo_at_17 rfl ?_
  refine ew_iload_n d_Mo_at_18 rfl ?_
  refine ew_aload_n d_Mo_at_19 rfl ?_
  refine ew_iload_n d_Mo_at_20 rfl ?_
  refine en_callV (As := [.int (nI i)]) (i := 47) (ci := 9) (st := [.int (nI c), .ref 47]) (st1 := [.int (nI (tb_x i)), .int (nI c), .ref 47]) d_Mo_at_21 k_Mo_x rfl rfl tw_697 tw_699 tp_27 rfl (Nat.le_of_ble_eq_true rfl) rfl (Nat.le_of_ble_eq_true rfl) rfl rfl (c_Mo_x l g _ L M (hR) i (by first | with_reducible assumption | with_reducible exact ep_lt _ | with_reducible exact sp_its_lt _ _ _ | with_reducible exact tb_l_rt _ | with_reducible exact tb_l_x _ | with_reducible exact tb_l_o0 _ | with_reducible exact tb_l_o1 _ | with_reducible exact tb_l_va _ | with_reducible exact tb_l_ll _ | with_reducible exact tb_l_cf _ | with_reducible exact tb_l_kf _ | with_reducible exact sp_ts_lt _ _ _ _ | with_reducible exact sp_w_lt _ _ | with_reducible exact sp_cs_lt _ _ _ _ _ | with_reducible exact sp_cb_lt _ _ _ _ _ | with_reducible exact sp_ch_lt _ | with_reducible exact sp_bf_lt _ _ | with_reducible exact sp_va_lt _ _ _ | with_reducible exact sp_be_lt _ _ | with_reducible exact sp_p_lt _ _ _ | with_reducible exact sp_com_lt _ _ _ _ | with_reducible exact sp_fo_lt _ _ _ _ _ | omega)) rfl ?_
  refine en_callV (As := [.int (nI c), .int (nI (tb_x i))]) (i := 47) (ci := 9) (st := []) (st1 := [.int (nI (sp_va (ce c) (tb_x i) 8))]) d_Mo_at_24 k_Mo_valueAt rfl rfl tw_705 tw_707 tp_29 rfl (Nat.le_of_ble_eq_true rfl) rfl (Nat.le_of_ble_eq_true rfl) rfl rfl (c_Mo_valueAt l g _ L M (hR) ce (hc) c (tb_x i) (hc2) (ep_lt _)) rfl ?_
  refine en_eq (st' := [.int (nI (sp_p ce c i))]) rfl (by rw [show (nI (sp_va (ce c) (tb_x i) 8)) = (nI (sp_p ce c i)) from sp_va_p hc hc2 hi]) rfl ?_
  refine ew_goto (tgt := 31) d_Mo_at_27 (by decide) ?_
  exact ew_iret d_Mo_at_31 rfl (⟨rfl, rfl, rfl⟩)
set_option maxRecDepth 100000 in
theorem c_Mo_atB (l : Launch) (g : ew_G) (d L : Nat) (M : ew_M) (c i : Int32) (h : (sp_in c 2 && sp_in i 32) = false) :
    Ew l g (d + 3) 0 0 m_Mo_at 0 [.ref 47, .int c, .int i] [] (ew_SH L) M (ew_q (some (.int (-1))) (ew_SH L) M) := by
  refine ew_iload_n d_Mo_at_0 rfl ?_
  refine en_callS (As := [.int c]) (st := []) (st1 := [.int (ew_b (sp_in c 2))]) d_Mo_at_1 k_Mo_isColumn tw_668 tw_669 rfl (Nat.le_of_ble_eq_true rfl) rfl (Nat.le_of_ble_eq_true rfl) rfl rfl (c_Mo_isColumn l g _ (ew_SH L) M c) rfl ?_
  refine en_b_eq (tgt := 30) d_Mo_at_4 (by decide) (fun h4 => ?_) (fun h4 => ?_)
  · refine ew_iconst (v := -1) d_Mo_at_30 (by decide) ?_
    exact ew_iret d_Mo_at_31 rfl (⟨rfl, rfl, rfl⟩)
  · refine ew_iload_n d_Mo_at_7 rfl ?_
    refine ew_if_lt (tgt := 30) d_Mo_at_8 (by decide) (fun h8 => ?_) (fun h8 => ?_)
    · refine ew_iconst (v := -1) d_Mo_at_30 (by decide) ?_
      exact ew_iret d_Mo_at_31 rfl (⟨rfl, rfl, rfl⟩)
    · refine ew_iload_n d_Mo_at_11 rfl ?_
      refine ew_bipush (v := nI 32) d_Mo_at_12 (by decide) ?_
      refine ew_icmp_ge (tgt := 30) d_Mo_at_14 (by decide) (fun h14 => ?_) (fun h14 => ?_)
      · refine ew_iconst (v := -1) d_Mo_at_30 (by decide) ?_
        exact ew_iret d_Mo_at_31 rfl (⟨rfl, rfl, rfl⟩)
      · exact absurd h (by rw [h4, sp_in_t h8 h14]; decide)
set_option maxRecDepth 100000 in
theorem c_Mo_constraints (l : Launch) (g : ew_G) (d L : Nat) (M : ew_M) (ρ : sp_R) (hr : sp_rm ρ M) :
    Ew l g d 0 0 m_Mo_constraints 0 [.ref 47] [] (ew_SH L) M (ew_q (some (.int (nI (sp_cc ρ)))) (ew_SH L) M) := by
  refine ew_aload_n d_Mo_constraints_0 rfl ?_
  refine ew_getr (ci := 9) (f := 1) d_Mo_constraints_1 rfl rfl rfl tw_593 ?_
  refine ew_iconst (v := nI 1) d_Mo_constraints_4 (by decide) ?_
  refine ew_iald (j := 1) d_Mo_constraints_5 rfl (rfl) (by decide) (by decide) ?_
  refine en_eq (st' := [.int (nI (r_cn ρ 1))]) rfl (by rw [show (M 49 1) = (nI (r_cn ρ 1)) from hr.2.1 1 (by decide)]) rfl ?_
  refine en_if_le (tgt := 13) d_Mo_constraints_6 (by decide) (by have := hr.1.1 0 (by decide); have := hr.1.1 1 (by decide); omega) (fun h6 => ?_) (fun h6 => ?_)
  · refine ew_aload_n d_Mo_constraints_13 rfl ?_
    refine ew_getr (ci := 9) (f := 1) d_Mo_constraints_14 rfl rfl rfl tw_593 ?_
    refine ew_iconst (v := nI 0) d_Mo_constraints_17 (by decide) ?_
    refine ew_iald (j := 0) d_Mo_constraints_18 rfl (rfl) (by decide) (by decide) ?_
    refine en_eq (st' := [.int (nI (r_cn ρ 0))]) rfl (by rw [show (M 49 0) = (nI (r_cn ρ 0)) from hr.2.1 0 (by decide)]) rfl ?_
    refine en_if_le (tgt := 26) d_Mo_constraints_19 (by decide) (by have := hr.1.1 0 (by decide); have := hr.1.1 1 (by decide); omega) (fun h19 => ?_) (fun h19 => ?_)
    · refine ew_iconst (v := nI 0) d_Mo_constraints_26 (by decide) ?_
      exact ew_iret d_Mo_constraints_27 rfl (⟨by rw [show sp_cc ρ = 0 from by unfold sp_cc; rw [if_neg (by omega)]; first | exact if_pos h19 | exact if_neg (by omega)], rfl, rfl⟩)
    · refine ew_iconst (v := nI 1) d_Mo_constraints_22 (by decide) ?_
      refine ew_goto (tgt := 27) d_Mo_constraints_23 (by decide) ?_
      exact ew_iret d_Mo_constraints_27 rfl (⟨by rw [show sp_cc ρ = 1 from by unfold sp_cc; rw [if_neg (by omega)]; first | exact if_pos h19 | exact if_neg (by omega)], rfl, rfl⟩)
  · refine ew_iconst (v := nI 2) d_Mo_constraints_9 (by decide) ?_
    refine ew_goto (tgt := 27) d_Mo_constraints_10 (by decide) ?_
    exact ew_iret d_Mo_constraints_27 rfl (⟨by rw [show sp_cc ρ = 2 from if_pos h6], rfl, rfl⟩)
set_option maxRecDepth 100000 in
theorem lp_Mo_summed (l : Launch) (g : ew_G) (d L : Nat) (M : ew_M) (ρ : sp_R) (hr : sp_rm ρ M) (le : Nat → Nat) (hl : sp_hle le (M 64)) (c : Nat) (hc2 : c < 2) : ∀ (fu t : Nat), r_cn ρ c - t < fu → t ≤ r_cn ρ c → Ew l g (d + 1) 0 0 m_Mo_summed 7 [.ref 47, .int (nI c), .int (nI (sp_ts ρ c le t)), .int (nI (6 * c + t))] [] (ew_SH L) M (ew_q (some (.int (nI (sp_ts ρ c le (r_cn ρ c))))) (ew_SH L) M) := by
  intro fu
  induction fu with
  | zero =>
    intro t  hn
    exact absurd hn (Nat.not_lt_zero _)
  | succ fu ih =>
    intro t  hn hle
    refine ew_iload_n d_Mo_summed_7 rfl ?_
    refine ew_bipush (v := nI 6) d_Mo_summed_8 (by decide) ?_
    refine ew_iload_n d_Mo_summed_10 rfl ?_
    refine en_imul d_Mo_summed_11 ?_
    refine ew_aload_n d_Mo_summed_12 rfl ?_
    refine ew_getr (ci := 9) (f := 1) d_Mo_summed_13 rfl rfl rfl tw_593 ?_
    refine ew_iload_n d_Mo_summed_16 rfl ?_
    refine ew_iald (j := c) d_Mo_summed_17 rfl (rfl) (hc2) (by decide) ?_
    refine en_eq (st' := [.int (nI (r_cn ρ c)), .int (nI (6 * c)), .int (nI (6 * c + t))]) rfl (by rw [show (M 49 c) = (nI (r_cn ρ c)) from hr.2.1 c hc2]) rfl ?_
    refine en_iadd d_Mo_summed_18 ?_
    refine en_icmp_ge (tgt := 68) d_Mo_summed_19 (by decide) (by have := hr.1.1 c hc2; omega) (by have := hr.1.1 c hc2; omega) (fun h19 => ?_) (fun h19 => ?_)
    · have et : t = r_cn ρ c := by omega
      refine ew_iload_n d_Mo_summed_68 rfl ?_
      exact ew_iret d_Mo_summed_69 rfl (⟨by rw [et], rfl, rfl⟩)
    · have ht : t < r_cn ρ c := by omega
      refine ew_iload_n d_Mo_summed_22 rfl ?_
      refine ew_aload_n d_Mo_summed_23 rfl ?_
      refine ew_getr (ci := 9) (f := 2) d_Mo_summed_24 rfl rfl rfl tw_594 ?_
      refine ew_iload_n d_Mo_summed_27 rfl ?_
      refine ew_iald (j := 6 * c + t) d_Mo_summed_28 rfl (rfl) (by have := hr.1.1 c hc2; omega) (by decide) ?_
      refine en_eq (st' := [.int (nI (r_tk ρ c t)), .int (nI (sp_ts ρ c le t))]) rfl (by rw [show (M 50 (6 * c + t)) = (nI (r_tk ρ c t)) from (hr.2.2.1 c t hc2 ht).1]) rfl ?_
      refine ew_aload_n d_Mo_summed_29 rfl ?_
      refine ew_getr (ci := 9) (f := 23) d_Mo_summed_30 rfl rfl rfl tw_614 ?_
      refine ew_aload_n d_Mo_summed_33 rfl ?_
      refine ew_getr (ci := 9) (f := 3) d_Mo_summed_34 rfl rfl rfl tw_595 ?_
      refine ew_iload_n d_Mo_summed_37 rfl ?_
      refine ew_iald (j := 6 * c + t) d_Mo_summed_38 rfl (rfl) (by have := hr.1.1 c hc2; omega) (by decide) ?_
      refine en_eq (st' := [.int (nI (r_tu ρ c t)), .ref 64, .int (nI (r_tk ρ c t)), .int (nI (sp_ts ρ c le t))]) rfl (by rw [show (M 51 (6 * c + t)) = (nI (r_tu ρ c t)) from (hr.2.2.1 c t hc2 ht).2.1]) rfl ?_
      refine ew_iald (j := r_tu ρ c t) d_Mo_summed_39 rfl (rfl) ((hr.1.2.1 c t hc2 ht).2.1) (by decide) ?_
      refine en_eq (st' := [.int (nI (le (r_tu ρ c t))), .int (nI (r_tk ρ c t)), .int (nI (sp_ts ρ c le t))]) rfl (by rw [show (M 64 (r_tu ρ c t)) = (nI (le (r_tu ρ c t))) from (hl _ (hr.1.2.1 c t hc2 ht).2.1).1]) rfl ?_
      refine ew_aload_n d_Mo_summed_40 rfl ?_
      refine ew_getr (ci := 9) (f := 23) d_Mo_summed_41 rfl rfl rfl tw_614 ?_
      refine ew_aload_n d_Mo_summed_44 rfl ?_
      refine ew_getr (ci := 9) (f := 4) d_Mo_summed_45 rfl rfl rfl tw_596 ?_
      refine ew_iload_n d_Mo_summed_48 rfl ?_
      refine ew_iald (j := 6 * c + t) d_Mo_summed_49 rfl (rfl) (by have := hr.1.1 c hc2; omega) (by decide) ?_
      refine en_eq (st' := [.int (nI (r_tv ρ c t)), .ref 64, .int (nI (le (r_tu ρ c t))), .int (nI (r_tk ρ c t)), .int (nI (sp_ts ρ c le t))]) rfl (by rw [show (M 52 (6 * c + t)) = (nI (r_tv ρ c t)) from (hr.2.2.1 c t hc2 ht).2.2]) rfl ?_
      refine ew_iald (j := r_tv ρ c t) d_Mo_summed_50 rfl (rfl) ((hr.1.2.1 c t hc2 ht).2.2) (by decide) ?_
      refine en_eq (st' := [.int (nI (le (r_tv ρ c t))), .int (nI (le (r_tu ρ c t))), .int (nI (r_tk ρ c t)), .int (nI (sp_ts ρ c le t))]) rfl (by rw [show (M 64 (r_tv ρ c t)) = (nI (le (r_tv ρ c t))) from (hl _ (hr.1.2.1 c t hc2 ht).2.2).1]) rfl ?_
      refine en_callS (As := [.int (nI (le (r_tu ρ c t))), .int (nI (le (r_tv ρ c t)))]) (st := [.int (nI (r_tk ρ c t)), .int (nI (sp_ts ρ c le t))]) (st1 := [.int (nI ((le (r_tu ρ c t)) * (le (r_tv ρ c t)) % 12289)), .int (nI (r_tk ρ c t)), .int (nI (sp_ts ρ c le t))]) d_Mo_summed_51 k_Mo_times tw_589 tw_590 rfl (Nat.le_of_ble_eq_true rfl) rfl (Nat.le_of_ble_eq_true rfl) rfl rfl (c_Mo_times l g _ (ew_SH L) M (le (r_tu ρ c t)) (le (r_tv ρ c t)) (by first | exact (hl _ (hr.1.2.1 c t hc2 ht).2.1).2 | exact (hl _ (hr.1.2.1 c t hc2 ht).2.2).2) (by first | exact (hl _ (hr.1.2.1 c t hc2 ht).2.1).2 | exact (hl _ (hr.1.2.1 c t hc2 ht).2.2).2)) rfl ?_
      refine en_callS (As := [.int (nI (r_tk ρ c t)), .int (nI ((le (r_tu ρ c t)) * (le (r_tv ρ c t)) % 12289))]) (st := [.int (nI (sp_ts ρ c le t))]) (st1 := [.int (nI ((r_tk ρ c t) * ((le (r_tu ρ c t)) * (le (r_tv ρ c t)) % 12289) % 12289)), .int (nI (sp_ts ρ c le t))]) d_Mo_summed_54 k_Mo_times tw_589 tw_590 rfl (Nat.le_of_ble_eq_true rfl) rfl (Nat.le_of_ble_eq_true rfl) rfl rfl (c_Mo_times l g _ (ew_SH L) M (r_tk ρ c t) ((le (r_tu ρ c t)) * (le (r_tv ρ c t)) % 12289) (by first | with_reducible exact ep_lt _ | exact (hr.1.2.1 c t hc2 ht).1) (by first | with_reducible exact ep_lt _ | exact (hr.1.2.1 c t hc2 ht).1)) rfl ?_
      refine en_iadd d_Mo_summed_57 ?_
      refine en_callS (As := [.int (nI ((sp_ts ρ c le t) + ((r_tk ρ c t) * ((le (r_tu ρ c t)) * (le (r_tv ρ c t)) % 12289) % 12289)))]) (st := []) (st1 := [.int (nI (((sp_ts ρ c le t) + ((r_tk ρ c t) * ((le (r_tu ρ c t)) * (le (r_tv ρ c t)) % 12289) % 12289)) % 12289))]) d_Mo_summed_58 k_Mo_mod tw_713 tw_714 rfl (Nat.le_of_ble_eq_true rfl) rfl (Nat.le_of_ble_eq_true rfl) rfl rfl (c_Mo_mod l g _ (ew_SH L) M ((sp_ts ρ c le t) + ((r_tk ρ c t) * ((le (r_tu ρ c t)) * (le (r_tv ρ c t)) % 12289) % 12289)) (ep_ad (sp_ts_lt _ _ _ _))) rfl ?_
      refine en_istore_n (ls' := [.ref 47, .int (nI c), .int (nI (((sp_ts ρ c le t) + ((r_tk ρ c t) * ((le (r_tu ρ c t)) * (le (r_tv ρ c t)) % 12289) % 12289)) % 12289)), .int (nI (6 * c + t))]) d_Mo_summed_61 (Nat.le_of_ble_eq_true rfl) rfl ?_
      refine en_inc (ls' := [.ref 47, .int (nI c), .int (nI (((sp_ts ρ c le t) + ((r_tk ρ c t) * ((le (r_tu ρ c t)) * (le (r_tv ρ c t)) % 12289) % 12289)) % 12289)), .int (nI ((6 * c + t) + 1))]) d_Mo_summed_62 rfl rfl ?_
      refine ew_goto (tgt := 7) d_Mo_summed_65 (by decide) ?_
      exact ih (t + 1) (by omega) (by omega)
set_option maxRecDepth 100000 in
theorem c_Mo_summed (l : Launch) (g : ew_G) (d L : Nat) (M : ew_M) (ρ : sp_R) (hr : sp_rm ρ M) (le : Nat → Nat) (hl : sp_hle le (M 64)) (c : Nat) (hc2 : c < 2) :
    Ew l g (d + 1) 0 0 m_Mo_summed 0 [.ref 47, .int (nI c), .retAddr 0, .retAddr 0] [] (ew_SH L) M (ew_q (some (.int (nI (sp_ts ρ c le (r_cn ρ c))))) (ew_SH L) M) := by
  refine ew_iconst (v := nI 0) d_Mo_summed_0 (by decide) ?_
  refine en_istore_n (ls' := [.ref 47, .int (nI c), .int (nI 0), .retAddr 0]) d_Mo_summed_1 (Nat.le_of_ble_eq_true rfl) rfl ?_
  refine ew_bipush (v := nI 6) d_Mo_summed_2 (by decide) ?_
  refine ew_iload_n d_Mo_summed_4 rfl ?_
  refine en_imul d_Mo_summed_5 ?_
  refine en_istore_n (ls' := [.ref 47, .int (nI c), .int (nI 0), .int (nI (6 * c))]) d_Mo_summed_6 (Nat.le_of_ble_eq_true rfl) rfl ?_
  exact lp_Mo_summed l g d L M ρ hr le hl c hc2 (r_cn ρ c + 1) 0 (by omega) (by omega)
set_option maxRecDepth 100000 in
theorem c_Mo_letters (l : Launch) (g : ew_G) (d L : Nat) (M : ew_M) (a b c e : Int32) :
    Ew l g d 0 0 m_Mo_letters 0 [.ref 47, .int a, .int b, .int c, .int e] [] (ew_SH L) M (ew_q (none) (ew_SH L) (sp_rl M a b c e)) := by
  refine ew_aload_n d_Mo_letters_0 rfl ?_
  refine ew_getr (ci := 9) (f := 23) d_Mo_letters_1 rfl rfl rfl tw_614 ?_
  refine ew_iconst (v := nI 0) d_Mo_letters_4 (by decide) ?_
  refine ew_iconst (v := nI 1) d_Mo_letters_5 (by decide) ?_
  refine ew_iast (j := 0) d_Mo_letters_6 rfl (by decide) (rfl) (by decide) (by decide) ?_
  refine ew_aload_n d_Mo_letters_7 rfl ?_
  refine ew_getr (ci := 9) (f := 23) d_Mo_letters_8 rfl rfl rfl tw_614 ?_
  refine ew_iconst (v := nI 1) d_Mo_letters_11 (by decide) ?_
  refine ew_iload_n d_Mo_letters_12 rfl ?_
  refine ew_iast (j := 1) d_Mo_letters_13 rfl (by decide) (rfl) (by decide) (by decide) ?_
  refine ew_aload_n d_Mo_letters_14 rfl ?_
  refine ew_getr (ci := 9) (f := 23) d_Mo_letters_15 rfl rfl rfl tw_614 ?_
  refine ew_iconst (v := nI 2) d_Mo_letters_18 (by decide) ?_
  refine ew_iload_n d_Mo_letters_19 rfl ?_
  refine ew_iast (j := 2) d_Mo_letters_20 rfl (by decide) (rfl) (by decide) (by decide) ?_
  refine ew_aload_n d_Mo_letters_21 rfl ?_
  refine ew_getr (ci := 9) (f := 23) d_Mo_letters_22 rfl rfl rfl tw_614 ?_
  refine ew_iconst (v := nI 3) d_Mo_letters_25 (by decide) ?_
  refine ew_iload_n d_Mo_letters_26 rfl ?_
  refine ew_iast (j := 3) d_Mo_letters_27 rfl (by decide) (rfl) (by decide) (by decide) ?_
  refine ew_aload_n d_Mo_letters_28 rfl ?_
  refine ew_getr (ci := 9) (f := 23) d_Mo_letters_29 rfl rfl rfl tw_614 ?_
  refine ew_iconst (v := nI 4) d_Mo_letters_32 (by decide) ?_
  refine ew_iload d_Mo_letters_33 rfl ?_
  refine ew_iast (j := 4) d_Mo_letters_35 rfl (by decide) (rfl) (by decide) (by decide) ?_
  exact ew_ret d_Mo_letters_36 rfl (⟨rfl, rfl, rfl⟩)
def sp_rlr (M : ew_M) (ce : Nat → Nat → Nat) (r : Nat) : ew_M := sp_rl M (nI (ce 0 r)) (nI (ce 1 r)) (nI (ce 0 (r + 1))) (nI (ce 1 (r + 1)))
set_option maxRecDepth 100000 in
theorem lp_Mo_isWrong (l : Launch) (g : ew_G) (d L : Nat) (M : ew_M) (ρ : sp_R) (hr : sp_rm ρ M) (ce : Nat → Nat → Nat) (hc : sp_cm ce M) (r : Nat) (h8 : r < 8) (b0 : Bool) (Q : Option Value → List ew_S → ew_M → Prop) (K : Q (some (.int (ew_b (b0 || sp_ba ρ ce r (r_bn ρ))))) (ew_SH L) M) : ∀ (fu b : Nat), r_bn ρ - b < fu → b ≤ r_bn ρ → Ew l g (d + 2) 0 0 m_Mo_isWrong 68 [.ref 47, .int (nI r), .int (ew_b (b0 || sp_ba ρ ce r b)), .int (nI b)] [] (ew_SH L) M Q := by
  intro fu
  induction fu with
  | zero =>
    intro b  hn
    exact absurd hn (Nat.not_lt_zero _)
  | succ fu ih =>
    intro b  hn hle
    refine ew_iload_n d_Mo_isWrong_68 rfl ?_
    refine ew_aload_n d_Mo_isWrong_69 rfl ?_
    refine ew_geti (ci := 9) (f := 5) d_Mo_isWrong_70 rfl rfl rfl tw_597 ?_
    refine en_eq (st' := [.int (nI (r_bn ρ)), .int (nI b)]) rfl (by rw [show (M 47 5) = (nI (r_bn ρ)) from hr.2.2.2.1]) rfl ?_
    refine en_icmp_ge (tgt := 127) d_Mo_isWrong_73 (by decide) (by have := hr.1.2.2.1; omega) (by have := hr.1.2.2.1; omega) (fun h73 => ?_) (fun h73 => ?_)
    · have eb : b = r_bn ρ := by omega
      subst eb
      refine ew_iload_n d_Mo_isWrong_127 rfl ?_
      exact ew_zret d_Mo_isWrong_128 rfl (ew_b01 _) K
    · refine ew_iload_n d_Mo_isWrong_76 rfl ?_
      refine en_b_ne (tgt := 115) d_Mo_isWrong_77 (by decide) (fun h77 => ?_) (fun h77 => ?_)
      · refine ew_iconst (v := nI 1) d_Mo_isWrong_115 (by decide) ?_
        refine ew_goto (tgt := 120) d_Mo_isWrong_116 (by decide) ?_
        refine en_istore_n (ls' := [.ref 47, .int (nI r), .int (nI 1), .int (nI b)]) d_Mo_isWrong_120 (Nat.le_of_ble_eq_true rfl) rfl ?_
        refine en_inc (ls' := [.ref 47, .int (nI r), .int (nI 1), .int (nI (b + 1))]) d_Mo_isWrong_121 rfl rfl ?_
        refine ew_goto (tgt := 68) d_Mo_isWrong_124 (by decide) ?_
        refine en_eq (ls' := [.ref 47, .int (nI r), .int (ew_b (b0 || sp_ba ρ ce r (b + 1))), .int (nI (b + 1))]) (by rw [show (b0 || sp_ba ρ ce r (b + 1)) = true from (show (b0 || (sp_ba ρ ce r b || _)) = true from by (rw [← Bool.or_assoc, h77]; first | rfl | (rw [show decide (r_br ρ b = r ∧ ce (r_bc ρ b) r ≠ r_bv ρ b) = true from decide_eq_true ⟨h87, h112⟩]; rfl)))]; rfl) rfl rfl ?_
        exact ih (b + 1) (by omega) (by omega)
      · refine ew_aload_n d_Mo_isWrong_80 rfl ?_
        refine ew_getr (ci := 9) (f := 7) d_Mo_isWrong_81 rfl rfl rfl tw_599 ?_
        refine ew_iload_n d_Mo_isWrong_84 rfl ?_
        refine ew_iald (j := b) d_Mo_isWrong_85 rfl (rfl) (by have := hr.1.2.2.1; omega) (by decide) ?_
        refine en_eq (st' := [.int (nI (r_br ρ b))]) rfl (by rw [show (M 54 b) = (nI (r_br ρ b)) from (hr.2.2.2.2 b h73).2.1]) rfl ?_
        refine ew_iload_n d_Mo_isWrong_86 rfl ?_
        refine en_icmp_ne (tgt := 119) d_Mo_isWrong_87 (by decide) (by have := (hr.1.2.2.2 b h73).2.1; omega) (by have := (hr.1.2.2.2 b h73).2.1; omega) (fun h87 => ?_) (fun h87 => ?_)
        · refine ew_iconst (v := nI 0) d_Mo_isWrong_119 (by decide) ?_
          refine en_istore_n (ls' := [.ref 47, .int (nI r), .int (nI 0), .int (nI b)]) d_Mo_isWrong_120 (Nat.le_of_ble_eq_true rfl) rfl ?_
          refine en_inc (ls' := [.ref 47, .int (nI r), .int (nI 0), .int (nI (b + 1))]) d_Mo_isWrong_121 rfl rfl ?_
          refine ew_goto (tgt := 68) d_Mo_isWrong_124 (by decide) ?_
          refine en_eq (ls' := [.ref 47, .int (nI r), .int (ew_b (b0 || sp_ba ρ ce r (b + 1))), .int (nI (b + 1))]) (by rw [show (b0 || sp_ba ρ ce r (b + 1)) = false from (show (b0 || (sp_ba ρ ce r b || _)) = false from by (rw [← Bool.or_assoc, h77, show decide (r_br ρ b = r ∧ ce (r_bc ρ b) r ≠ r_bv ρ b) = false from decide_eq_false (by first | exact fun q => h87 q.1 | exact fun q => q.2 h112)]; rfl))]; rfl) rfl rfl ?_
          exact ih (b + 1) (by omega) (by omega)
        · refine ew_aload_n d_Mo_isWrong_90 rfl ?_
          refine ew_getr (ci := 9) (f := 0) d_Mo_isWrong_91 rfl rfl rfl tw_592 ?_
          refine ew_bipush (v := nI 8) d_Mo_isWrong_94 (by decide) ?_
          refine ew_aload_n d_Mo_isWrong_96 rfl ?_
          refine ew_getr (ci := 9) (f := 6) d_Mo_isWrong_97 rfl rfl rfl tw_598 ?_
          refine ew_iload_n d_Mo_isWrong_100 rfl ?_
          refine ew_iald (j := b) d_Mo_isWrong_101 rfl (rfl) (by have := hr.1.2.2.1; omega) (by decide) ?_
          refine en_eq (st' := [.int (nI (r_bc ρ b)), .int (nI 8), .ref 48]) rfl (by rw [show (M 53 b) = (nI (r_bc ρ b)) from (hr.2.2.2.2 b h73).1]) rfl ?_
          refine en_imul d_Mo_isWrong_102 ?_
          refine ew_iload_n d_Mo_isWrong_103 rfl ?_
          refine en_iadd d_Mo_isWrong_104 ?_
          refine ew_iald (j := (8 * (r_bc ρ b)) + r) d_Mo_isWrong_105 rfl (rfl) (by have := (hr.1.2.2.2 b h73).1; omega) (by decide) ?_
          refine en_eq (st' := [.int (nI (ce (r_bc ρ b) r))]) rfl (by rw [show (M 48 ((8 * (r_bc ρ b)) + r)) = (nI (ce (r_bc ρ b) r)) from (hc _ r (hr.1.2.2.2 b h73).1 h8).1]) rfl ?_
          refine ew_aload_n d_Mo_isWrong_106 rfl ?_
          refine ew_getr (ci := 9) (f := 8) d_Mo_isWrong_107 rfl rfl rfl tw_600 ?_
          refine ew_iload_n d_Mo_isWrong_110 rfl ?_
          refine ew_iald (j := b) d_Mo_isWrong_111 rfl (rfl) (by have := hr.1.2.2.1; omega) (by decide) ?_
          refine en_eq (st' := [.int (nI (r_bv ρ b)), .int (nI (ce (r_bc ρ b) r))]) rfl (by rw [show (M 55 b) = (nI (r_bv ρ b)) from (hr.2.2.2.2 b h73).2.2]) rfl ?_
          refine en_icmp_eq (tgt := 119) d_Mo_isWrong_112 (by decide) (by first | exact Nat.lt_trans (hr.1.2.2.2 b h73).2.2 (by decide) | exact Nat.lt_trans (hc _ r (hr.1.2.2.2 b h73).1 h8).2 (by decide)) (by first | exact Nat.lt_trans (hr.1.2.2.2 b h73).2.2 (by decide) | exact Nat.lt_trans (hc _ r (hr.1.2.2.2 b h73).1 h8).2 (by decide)) (fun h112 => ?_) (fun h112 => ?_)
          · refine ew_iconst (v := nI 0) d_Mo_isWrong_119 (by decide) ?_
            refine en_istore_n (ls' := [.ref 47, .int (nI r), .int (nI 0), .int (nI b)]) d_Mo_isWrong_120 (Nat.le_of_ble_eq_true rfl) rfl ?_
            refine en_inc (ls' := [.ref 47, .int (nI r), .int (nI 0), .int (nI (b + 1))]) d_Mo_isWrong_121 rfl rfl ?_
            refine ew_goto (tgt := 68) d_Mo_isWrong_124 (by decide) ?_
            refine en_eq (ls' := [.ref 47, .int (nI r), .int (ew_b (b0 || sp_ba ρ ce r (b + 1))), .int (nI (b + 1))]) (by rw [show (b0 || sp_ba ρ ce r (b + 1)) = false from (show (b0 || (sp_ba ρ ce r b || _)) = false from by (rw [← Bool.or_assoc, h77, show decide (r_br ρ b = r ∧ ce (r_bc ρ b) r ≠ r_bv ρ b) = false from decide_eq_false (by first | exact fun q => h87 q.1 | exact fun q => q.2 h112)]; rfl))]; rfl) rfl rfl ?_
            exact ih (b + 1) (by omega) (by omega)
          · refine ew_iconst (v := nI 1) d_Mo_isWrong_115 (by decide) ?_
            refine ew_goto (tgt := 120) d_Mo_isWrong_116 (by decide) ?_
            refine en_istore_n (ls' := [.ref 47, .int (nI r), .int (nI 1), .int (nI b)]) d_Mo_isWrong_120 (Nat.le_of_ble_eq_true rfl) rfl ?_
            refine en_inc (ls' := [.ref 47, .int (nI r), .int (nI 1), .int (nI (b + 1))]) d_Mo_isWrong_121 rfl rfl ?_
            refine ew_goto (tgt := 68) d_Mo_isWrong_124 (by decide) ?_
            refine en_eq (ls' := [.ref 47, .int (nI r), .int (ew_b (b0 || sp_ba ρ ce r (b + 1))), .int (nI (b + 1))]) (by rw [show (b0 || sp_ba ρ ce r (b + 1)) = true from (show (b0 || (sp_ba ρ ce r b || _)) = true from by (rw [← Bool.or_assoc, h77]; first | rfl | (rw [show decide (r_br ρ b = r ∧ ce (r_bc ρ b) r ≠ r_bv ρ b) = true from decide_eq_true ⟨h87, h112⟩]; rfl)))]; rfl) rfl rfl ?_
            exact ih (b + 1) (by omega) (by omega)
set_option maxRecDepth 100000 in
theorem c_Mo_isWrong (l : Launch) (g : ew_G) (d L : Nat) (M : ew_M) (ρ : sp_R) (hr : sp_rm ρ M) (ce : Nat → Nat → Nat) (hc : sp_cm ce M) (r : Nat) (h8 : r < 8) :
    Ew l g (d + 2) 0 0 m_Mo_isWrong 0 [.ref 47, .int (nI r), .retAddr 0, .retAddr 0] [] (ew_SH L) M (sp_mq L M (ew_b (sp_wr ρ ce r))) := by
  refine ew_iconst (v := nI 0) d_Mo_isWrong_0 (by decide) ?_
  refine en_istore_n (ls' := [.ref 47, .int (nI r), .int (nI 0), .retAddr 0]) d_Mo_isWrong_1 (Nat.le_of_ble_eq_true rfl) rfl ?_
  refine ew_iload_n d_Mo_isWrong_2 rfl ?_
  refine ew_bipush (v := nI 7) d_Mo_isWrong_3 (by decide) ?_
  refine en_icmp_ge (tgt := 66) d_Mo_isWrong_5 (by decide) (by omega) (by omega) (fun h5 => ?_) (fun h5 => ?_)
  · refine ew_iconst (v := nI 0) d_Mo_isWrong_66 (by decide) ?_
    refine en_istore_n (ls' := [.ref 47, .int (nI r), .int (nI 0), .int (nI 0)]) d_Mo_isWrong_67 (Nat.le_of_ble_eq_true rfl) rfl ?_
    refine lp_Mo_isWrong l g d L M ρ hr ce hc r h8 false _ ?_ (r_bn ρ + 1) 0 (by omega) (by omega)
    exact ⟨rfl, by rw [show sp_wr ρ ce r = (false || sp_ba ρ ce r (r_bn ρ)) from by unfold sp_wr; rw [show decide (r < 7) = false from decide_eq_false (by omega)]; rfl], fun q hq => rfl⟩
  · refine ew_aload_n d_Mo_isWrong_8 rfl ?_
    refine ew_aload_n d_Mo_isWrong_9 rfl ?_
    refine ew_getr (ci := 9) (f := 0) d_Mo_isWrong_10 rfl rfl rfl tw_592 ?_
    refine ew_iload_n d_Mo_isWrong_13 rfl ?_
    refine ew_iald (j := r) d_Mo_isWrong_14 rfl (rfl) (by omega) (by decide) ?_
    refine en_eq (st' := [.int (nI (ce 0 r)), .ref 47]) rfl (by rw [show (M 48 r) = (nI (ce 0 r)) from sp_cm0 hc h8]) rfl ?_
    refine ew_aload_n d_Mo_isWrong_15 rfl ?_
    refine ew_getr (ci := 9) (f := 0) d_Mo_isWrong_16 rfl rfl rfl tw_592 ?_
    refine ew_bipush (v := nI 8) d_Mo_isWrong_19 (by decide) ?_
    refine ew_iload_n d_Mo_isWrong_21 rfl ?_
    refine en_iadd d_Mo_isWrong_22 ?_
    refine ew_iald (j := 8 + r) d_Mo_isWrong_23 rfl (rfl) (by omega) (by decide) ?_
    refine en_eq (st' := [.int (nI (ce 1 r)), .int (nI (ce 0 r)), .ref 47]) rfl (by rw [show (M 48 (8 + r)) = (nI (ce 1 r)) from sp_cm1 hc h8]) rfl ?_
    refine ew_aload_n d_Mo_isWrong_24 rfl ?_
    refine ew_getr (ci := 9) (f := 0) d_Mo_isWrong_25 rfl rfl rfl tw_592 ?_
    refine ew_iload_n d_Mo_isWrong_28 rfl ?_
    refine ew_iconst (v := nI 1) d_Mo_isWrong_29 (by decide) ?_
    refine en_iadd d_Mo_isWrong_30 ?_
    refine ew_iald (j := r + 1) d_Mo_isWrong_31 rfl (rfl) (by omega) (by decide) ?_
    refine en_eq (st' := [.int (nI (ce 0 (r + 1))), .int (nI (ce 1 r)), .int (nI (ce 0 r)), .ref 47]) rfl (by rw [show (M 48 (r + 1)) = (nI (ce 0 (r + 1))) from sp_cm0 hc (by omega)]) rfl ?_
    refine ew_aload_n d_Mo_isWrong_32 rfl ?_
    refine ew_getr (ci := 9) (f := 0) d_Mo_isWrong_33 rfl rfl rfl tw_592 ?_
    refine ew_bipush (v := nI 9) d_Mo_isWrong_36 (by decide) ?_
    refine ew_iload_n d_Mo_isWrong_38 rfl ?_
    refine en_iadd d_Mo_isWrong_39 ?_
    refine ew_iald (j := 9 + r) d_Mo_isWrong_40 rfl (rfl) (by omega) (by decide) ?_
    refine en_eq (st' := [.int (nI (ce 1 (r + 1))), .int (nI (ce 0 (r + 1))), .int (nI (ce 1 r)), .int (nI (ce 0 r)), .ref 47]) rfl (by rw [show (M 48 (9 + r)) = (nI (ce 1 (r + 1))) from sp_cm9 hc (by omega)]) rfl ?_
    refine en_callV (As := [.int (nI (ce 0 r)), .int (nI (ce 1 r)), .int (nI (ce 0 (r + 1))), .int (nI (ce 1 (r + 1)))]) (i := 47) (ci := 9) (st := []) (st1 := []) d_Mo_isWrong_41 k_Mo_letters rfl rfl tw_727 tw_729 tp_32 rfl (Nat.le_of_ble_eq_true rfl) rfl (Nat.le_of_ble_eq_true rfl) rfl rfl (c_Mo_letters l g _ L M (nI (ce 0 r)) (nI (ce 1 r)) (nI (ce 0 (r + 1))) (nI (ce 1 (r + 1)))) rfl ?_
    refine en_eq (M' := sp_rlr M ce r) rfl rfl (rfl) ?_
    refine ew_aload_n d_Mo_isWrong_44 rfl ?_
    refine ew_iconst (v := nI 0) d_Mo_isWrong_45 (by decide) ?_
    refine en_callV (As := [.int (nI 0)]) (i := 47) (ci := 9) (st := []) (st1 := [.int (nI (sp_ts ρ 0 (sp_row ce r) (r_cn ρ 0)))]) d_Mo_isWrong_46 k_Mo_summed rfl rfl tw_731 tw_733 tp_33 rfl (Nat.le_of_ble_eq_true rfl) rfl (Nat.le_of_ble_eq_true rfl) rfl rfl (c_Mo_summed l g _ L (sp_rlr M ce r) ρ (sp_rm_rl hr) (sp_row ce r) (sp_rl_le (hc _ _ (by decide) (by omega)).2 (hc _ _ (by decide) (by omega)).2 (hc _ _ (by decide) (by omega)).2 (hc _ _ (by decide) (by omega)).2) 0 (by decide)) rfl ?_
    refine en_if_ne (tgt := 60) d_Mo_isWrong_49 (by decide) (Nat.lt_trans (sp_ts_lt _ _ _ _) (by decide)) (fun h49 => ?_) (fun h49 => ?_)
    · refine ew_iconst (v := nI 1) d_Mo_isWrong_60 (by decide) ?_
      refine ew_goto (tgt := 65) d_Mo_isWrong_61 (by decide) ?_
      refine en_istore_n (ls' := [.ref 47, .int (nI r), .int (nI 1), .retAddr 0]) d_Mo_isWrong_65 (Nat.le_of_ble_eq_true rfl) rfl ?_
      refine ew_iconst (v := nI 0) d_Mo_isWrong_66 (by decide) ?_
      refine en_istore_n (ls' := [.ref 47, .int (nI r), .int (nI 1), .int (nI 0)]) d_Mo_isWrong_67 (Nat.le_of_ble_eq_true rfl) rfl ?_
      refine lp_Mo_isWrong l g d L (sp_rlr M ce r) ρ (sp_rm_rl hr) ce (sp_cm_of hc (sp_rl_ne (by decide))) r h8 true _ ?_ (r_bn ρ + 1) 0 (by omega) (by omega)
      exact ⟨rfl, by rw [show sp_wr ρ ce r = (true || sp_ba ρ ce r (r_bn ρ)) from by unfold sp_wr; rw [show decide (r < 7) = true from decide_eq_true h5, show sp_sb ρ ce r = true from decide_eq_true (by first | exact Or.inl h49 | exact Or.inr h57)]; rfl], fun q hq => sp_rl_ne hq⟩
    · refine ew_aload_n d_Mo_isWrong_52 rfl ?_
      refine ew_iconst (v := nI 1) d_Mo_isWrong_53 (by decide) ?_
      refine en_callV (As := [.int (nI 1)]) (i := 47) (ci := 9) (st := []) (st1 := [.int (nI (sp_ts ρ 1 (sp_row ce r) (r_cn ρ 1)))]) d_Mo_isWrong_54 k_Mo_summed rfl rfl tw_731 tw_733 tp_33 rfl (Nat.le_of_ble_eq_true rfl) rfl (Nat.le_of_ble_eq_true rfl) rfl rfl (c_Mo_summed l g _ L (sp_rlr M ce r) ρ (sp_rm_rl hr) (sp_row ce r) (sp_rl_le (hc _ _ (by decide) (by omega)).2 (hc _ _ (by decide) (by omega)).2 (hc _ _ (by decide) (by omega)).2 (hc _ _ (by decide) (by omega)).2) 1 (by decide)) rfl ?_
      refine en_if_eq (tgt := 64) d_Mo_isWrong_57 (by decide) (Nat.lt_trans (sp_ts_lt _ _ _ _) (by decide)) (fun h57 => ?_) (fun h57 => ?_)
      · refine ew_iconst (v := nI 0) d_Mo_isWrong_64 (by decide) ?_
        refine en_istore_n (ls' := [.ref 47, .int (nI r), .int (nI 0), .retAddr 0]) d_Mo_isWrong_65 (Nat.le_of_ble_eq_true rfl) rfl ?_
        refine ew_iconst (v := nI 0) d_Mo_isWrong_66 (by decide) ?_
        refine en_istore_n (ls' := [.ref 47, .int (nI r), .int (nI 0), .int (nI 0)]) d_Mo_isWrong_67 (Nat.le_of_ble_eq_true rfl) rfl ?_
        refine lp_Mo_isWrong l g d L (sp_rlr M ce r) ρ (sp_rm_rl hr) ce (sp_cm_of hc (sp_rl_ne (by decide))) r h8 false _ ?_ (r_bn ρ + 1) 0 (by omega) (by omega)
        exact ⟨rfl, by rw [show sp_wr ρ ce r = (false || sp_ba ρ ce r (r_bn ρ)) from by unfold sp_wr; rw [show decide (r < 7) = true from decide_eq_true h5, show sp_sb ρ ce r = false from decide_eq_false (by rintro (q | q); exact q h49; exact q h57)]; rfl], fun q hq => sp_rl_ne hq⟩
      · refine ew_iconst (v := nI 1) d_Mo_isWrong_60 (by decide) ?_
        refine ew_goto (tgt := 65) d_Mo_isWrong_61 (by decide) ?_
        refine en_istore_n (ls' := [.ref 47, .int (nI r), .int (nI 1), .retAddr 0]) d_Mo_isWrong_65 (Nat.le_of_ble_eq_true rfl) rfl ?_
        refine ew_iconst (v := nI 0) d_Mo_isWrong_66 (by decide) ?_
        refine en_istore_n (ls' := [.ref 47, .int (nI r), .int (nI 1), .int (nI 0)]) d_Mo_isWrong_67 (Nat.le_of_ble_eq_true rfl) rfl ?_
        refine lp_Mo_isWrong l g d L (sp_rlr M ce r) ρ (sp_rm_rl hr) ce (sp_cm_of hc (sp_rl_ne (by decide))) r h8 true _ ?_ (r_bn ρ + 1) 0 (by omega) (by omega)
        exact ⟨rfl, by rw [show sp_wr ρ ce r = (true || sp_ba ρ ce r (r_bn ρ)) from by unfold sp_wr; rw [show decide (r < 7) = true from decide_eq_true h5, show sp_sb ρ ce r = true from decide_eq_true (by first | exact Or.inl h49 | exact Or.inr h57)]; rfl], fun q hq => sp_rl_ne hq⟩
set_option maxRecDepth 100000 in
theorem lp_Mo_wrong (l : Launch) (g : ew_G) (d L : Nat) (M0 : ew_M) (ρ : sp_R) (hr : sp_rm ρ M0) (ce : Nat → Nat → Nat) (hc : sp_cm ce M0) : ∀ (fu r : Nat) (M : ew_M), 8 - r < fu → r ≤ 8 → (∀ q, q ≠ 64 → M q = M0 q) → Ew l g (d + 3) 0 0 m_Mo_wrong 2 [.ref 47, .int (nI r)] [] (ew_SH L) M (sp_mq L M0 (sp_wg ρ ce (8 - r) r)) := by
  intro fu
  induction fu with
  | zero =>
    intro r M hn
    exact absurd hn (Nat.not_lt_zero _)
  | succ fu ih =>
    intro r M hn hle hI
    refine ew_iload_n d_Mo_wrong_2 rfl ?_
    refine ew_bipush (v := nI 8) d_Mo_wrong_3 (by decide) ?_
    refine en_icmp_ge (tgt := 24) d_Mo_wrong_5 (by decide) (by omega) (by omega) (fun h5 => ?_) (fun h5 => ?_)
    · refine ew_bipush (v := -2) d_Mo_wrong_24 (by decide) ?_
      exact ew_iret d_Mo_wrong_26 rfl (⟨rfl, by rw [show 8 - r = 0 by omega]; rfl, hI⟩)
    · refine ew_aload_n d_Mo_wrong_8 rfl ?_
      refine ew_iload_n d_Mo_wrong_9 rfl ?_
      refine en_callVq (As := [.int (nI r)]) (i := 47) (ci := 9) (st := []) d_Mo_wrong_10 k_Mo_isWrong rfl rfl tw_723 tw_725 tp_31 rfl (Nat.le_of_ble_eq_true rfl) rfl (Nat.le_of_ble_eq_true rfl) rfl rfl (c_Mo_isWrong l g _ L M ρ (sp_rm_of hr (hI 49 (by decide)) (hI 50 (by decide)) (hI 51 (by decide)) (hI 52 (by decide)) (by rw [hI 47 (by decide)]) (hI 53 (by decide)) (hI 54 (by decide)) (hI 55 (by decide))) ce (sp_cm_of hc (hI 48 (by decide))) r h5) ?_
      rintro _ _ M1 ⟨rfl, rfl, a1⟩
      show Ew l g _ _ _ m_Mo_wrong 13 [.ref 47, .int (nI r)] [.int (ew_b (sp_wr ρ ce r))] (ew_SH L) M1 _
      refine en_b_eq (tgt := 18) d_Mo_wrong_13 (by decide) (fun h13 => ?_) (fun h13 => ?_)
      · refine en_inc (ls' := [.ref 47, .int (nI (r + 1))]) d_Mo_wrong_18 rfl rfl ?_
        refine ew_goto (tgt := 2) d_Mo_wrong_21 (by decide) ?_
        rw [show 8 - r = (8 - (r + 1)) + 1 by omega, sp_wg, if_neg (by rw [h13]; decide)]
        exact ih (r + 1) M1 (by omega) (by omega) (fun q hq => (a1 q hq).trans (hI q hq))
      · refine ew_iload_n d_Mo_wrong_16 rfl ?_
        exact ew_iret d_Mo_wrong_17 rfl (⟨rfl, by rw [show 8 - r = (8 - (r + 1)) + 1 by omega, sp_wg, if_pos h13], fun q hq => (a1 q hq).trans (hI q hq)⟩)
set_option maxRecDepth 100000 in
theorem c_Mo_wrong (l : Launch) (g : ew_G) (d L : Nat) (M : ew_M) (ρ : sp_R) (hr : sp_rm ρ M) (ce : Nat → Nat → Nat) (hc : sp_cm ce M) :
    Ew l g (d + 3) 0 0 m_Mo_wrong 0 [.ref 47, .retAddr 0] [] (ew_SH L) M (sp_mq L M (sp_wrong ρ ce)) := by
  refine ew_iconst (v := nI 0) d_Mo_wrong_0 (by decide) ?_
  refine en_istore_n (ls' := [.ref 47, .int (nI 0)]) d_Mo_wrong_1 (Nat.le_of_ble_eq_true rfl) rfl ?_
  exact lp_Mo_wrong l g d L M ρ hr ce hc 9 0 M (by omega) (by omega) (fun _ _ => rfl)
