def sp_tl (ρ : sp_R) (c : Nat) (t : Int32) : Nat → Int32
  | 0 => t
  | n + 1 => sp_mix (sp_mix (sp_mix (sp_tl ρ c t n) (nI (r_tk ρ c n))) (nI (r_tu ρ c n))) (nI (r_tv ρ c n))
def sp_tbd (ρ : sp_R) (t : Int32) : Nat → Int32
  | 0 => t
  | n + 1 => sp_mix (sp_mix (sp_mix (sp_tbd ρ t n) (nI (r_bc ρ n))) (nI (r_br ρ n))) (nI (r_bv ρ n))
def sp_tc (ρ : sp_R) (t : Int32) : Nat → Int32
  | 0 => t
  | c + 1 => sp_tl ρ c (sp_mix (sp_tc ρ t c) (nI (r_cn ρ c))) (r_cn ρ c)
def sp_tR (ρ : sp_R) (t : Int32) : Int32 := sp_tbd ρ (sp_mix (sp_tc ρ (sp_mix t (nI (sp_cc ρ))) (sp_cc ρ)) (nI (r_bn ρ))) (r_bn ρ)
theorem sp_tp_tl {ρ : sp_R} {c : Nat} {f : Nat → Int32} {t : Int32} : ∀ {n : Nat}, (∀ j, j < n → f (3 * j) = nI (r_tk ρ c j) ∧ f (3 * j + 1) = nI (r_tu ρ c j) ∧ f (3 * j + 2) = nI (r_tv ρ c j)) → sp_tp f t (3 * n) = sp_tl ρ c t n
  | 0, _ => rfl
  | n + 1, h => by
    have ih := sp_tp_tl (t := t) (n := n) (fun j hj => h j (by omega))
    obtain ⟨h1, h2, h3⟩ := h n (by omega)
    show sp_mix (sp_mix (sp_mix (sp_tp f t (3 * n)) (f (3 * n))) (f (3 * n + 1))) (f (3 * n + 2)) = _
    rw [ih, h1, h2, h3]
    rfl
theorem sp_tp_tb {ρ : sp_R} {f : Nat → Int32} {t : Int32} : ∀ {n : Nat}, (∀ j, j < n → f (3 * j) = nI (r_bc ρ j) ∧ f (3 * j + 1) = nI (r_br ρ j) ∧ f (3 * j + 2) = nI (r_bv ρ j)) → sp_tp f t (3 * n) = sp_tbd ρ t n
  | 0, _ => rfl
  | n + 1, h => by
    have ih := sp_tp_tb (t := t) (n := n) (fun j hj => h j (by omega))
    obtain ⟨h1, h2, h3⟩ := h n (by omega)
    show sp_mix (sp_mix (sp_mix (sp_tp f t (3 * n)) (f (3 * n))) (f (3 * n + 1))) (f (3 * n + 2)) = _
    rw [ih, h1, h2, h3]
    rfl
theorem sp_ru_of {ρ : sp_R} {M M' : ew_M} (h : sp_ru ρ M) (h10 : M' 10 = M 10) (h11 : M' 11 = M 11) (h13 : M' 13 = M 13) (h14 : M' 14 = M 14) (h15 : M' 15 = M 15) : sp_ru ρ M' := by
  unfold sp_ru at h ⊢
  rw [h10, h11, h13, h14, h15]
  exact h
theorem sp_ru_w {ρ : sp_R} {M : ew_M} {T j : Nat} {x : Int32} (h : sp_ru ρ M) (hT : 16 ≤ T) : sp_ru ρ (ew_w M T j x) := sp_ru_of h (ew_w_ne (by omega)) (ew_w_ne (by omega)) (ew_w_ne (by omega)) (ew_w_ne (by omega)) (ew_w_ne (by omega))
theorem sp_tab_of {M M' : ew_M} (h : sp_tab M) (h5 : M' 5 = M 5) (h6 : M' 6 = M 6) (h7 : M' 7 = M 7) (h8 : M' 8 = M 8) (h9 : M' 9 = M 9) : sp_tab M' := by
  unfold sp_tab at h ⊢
  rw [h5, h6, h7, h8, h9]
  exact h
theorem sp_tab_w {M : ew_M} {T j : Nat} {x : Int32} (h : sp_tab M) (hT : 10 ≤ T) : sp_tab (ew_w M T j x) := sp_tab_of h (ew_w_ne (by omega)) (ew_w_ne (by omega)) (ew_w_ne (by omega)) (ew_w_ne (by omega)) (ew_w_ne (by omega))
set_option maxRecDepth 100000 in
theorem lp_Ru_tellParts13_24 (l : Launch) (g : ew_G) (d L : Nat) (M : ew_M) (t : Int32) (n : Nat) (hb : 3 * n ≤ 18) : ∀ (fu i : Nat), 3 * n - i < fu → i ≤ 3 * n → Ew l g (d + 3) 0 0 m_Ru_tellParts 7 [.ref 24, .ref 13, .int (nI n), .int (nI i)] [] (ew_SH L) (ew_w M 24 0 (sp_tp (M 13) t i)) (ew_q none (ew_SH L) (ew_w M 24 0 (sp_tp (M 13) t (3 * n)))) := by
  intro fu
  induction fu with
  | zero =>
    intro i  hn
    exact absurd hn (Nat.not_lt_zero _)
  | succ fu ih =>
    intro i  hn hle
    refine ew_iload_n d_Ru_tellParts_7 rfl ?_
    refine ew_iconst (v := nI 3) d_Ru_tellParts_8 (by decide) ?_
    refine ew_iload_n d_Ru_tellParts_9 rfl ?_
    refine en_imul d_Ru_tellParts_10 ?_
    refine en_icmp_ge (tgt := 27) d_Ru_tellParts_11 (by decide) (by omega) (by omega) (fun h11 => ?_) (fun h11 => ?_)
    · obtain rfl : i = 3 * n := by omega
      exact ew_ret d_Ru_tellParts_27 rfl (⟨rfl, rfl, rfl⟩)
    · refine ew_aload_n d_Ru_tellParts_14 rfl ?_
      refine ew_aload_n d_Ru_tellParts_15 rfl ?_
      refine ew_iload_n d_Ru_tellParts_16 rfl ?_
      refine ew_iald (j := i) d_Ru_tellParts_17 rfl (rfl) (by omega) (by decide) ?_
      refine en_eq (st' := [.int (M 13 i), .ref 24]) rfl (by rw [show ((ew_w M 24 0 (sp_tp (M 13) t i)) 13 i) = (M 13 i) from by rw [ew_w_ne (by decide)]]) rfl ?_
      refine en_callV (As := [.int (M 13 i)]) (i := 24) (ci := 7) (st := []) (st1 := []) d_Ru_tellParts_18 k_Tk_tell rfl rfl tw_397 tw_398 tw_399 rfl (Nat.le_of_ble_eq_true rfl) rfl (Nat.le_of_ble_eq_true rfl) rfl rfl (c_Tk_tell_24 l g _ L (ew_w M 24 0 (sp_tp (M 13) t i)) (M 13 i)) rfl ?_
      refine en_eq (M' := ew_w M 24 0 (sp_tp (M 13) t (i + 1))) rfl rfl (by rw [ew_ww, ew_w_at]; rfl) ?_
      refine en_inc (ls' := [.ref 24, .ref 13, .int (nI n), .int (nI (i + 1))]) d_Ru_tellParts_21 rfl rfl ?_
      refine ew_goto (tgt := 7) d_Ru_tellParts_24 (by decide) ?_
      exact ih (i + 1) (by omega) (by omega)
set_option maxRecDepth 100000 in
theorem c_Ru_tellParts13_24 (l : Launch) (g : ew_G) (d L : Nat) (M : ew_M) (n : Nat) (hb : 3 * n ≤ 18) :
    Ew l g (d + 3) 0 0 m_Ru_tellParts 0 [.ref 24, .ref 13, .int (nI n), .retAddr 0] [] (ew_SH L) M (ew_q (none) (ew_SH L) (ew_w M 24 0 (sp_tp (M 13) (sp_mix (M 24 0) (nI n)) (3 * n)))) := by
  refine ew_aload_n d_Ru_tellParts_0 rfl ?_
  refine ew_iload_n d_Ru_tellParts_1 rfl ?_
  refine en_callV (As := [.int (nI n)]) (i := 24) (ci := 7) (st := []) (st1 := []) d_Ru_tellParts_2 k_Tk_tell rfl rfl tw_397 tw_398 tw_399 rfl (Nat.le_of_ble_eq_true rfl) rfl (Nat.le_of_ble_eq_true rfl) rfl rfl (c_Tk_tell_24 l g _ L M (nI n)) rfl ?_
  refine ew_iconst (v := nI 0) d_Ru_tellParts_5 (by decide) ?_
  refine en_istore_n (ls' := [.ref 24, .ref 13, .int (nI n), .int (nI 0)]) d_Ru_tellParts_6 (Nat.le_of_ble_eq_true rfl) rfl ?_
  exact lp_Ru_tellParts13_24 l g d L M (sp_mix (M 24 0) (nI n)) n hb (3 * n + 1) 0 (by omega) (by omega)
set_option maxRecDepth 100000 in
theorem lp_Ru_tellParts14_24 (l : Launch) (g : ew_G) (d L : Nat) (M : ew_M) (t : Int32) (n : Nat) (hb : 3 * n ≤ 18) : ∀ (fu i : Nat), 3 * n - i < fu → i ≤ 3 * n → Ew l g (d + 3) 0 0 m_Ru_tellParts 7 [.ref 24, .ref 14, .int (nI n), .int (nI i)] [] (ew_SH L) (ew_w M 24 0 (sp_tp (M 14) t i)) (ew_q none (ew_SH L) (ew_w M 24 0 (sp_tp (M 14) t (3 * n)))) := by
  intro fu
  induction fu with
  | zero =>
    intro i  hn
    exact absurd hn (Nat.not_lt_zero _)
  | succ fu ih =>
    intro i  hn hle
    refine ew_iload_n d_Ru_tellParts_7 rfl ?_
    refine ew_iconst (v := nI 3) d_Ru_tellParts_8 (by decide) ?_
    refine ew_iload_n d_Ru_tellParts_9 rfl ?_
    refine en_imul d_Ru_tellParts_10 ?_
    refine en_icmp_ge (tgt := 27) d_Ru_tellParts_11 (by decide) (by omega) (by omega) (fun h11 => ?_) (fun h11 => ?_)
    · obtain rfl : i = 3 * n := by omega
      exact ew_ret d_Ru_tellParts_27 rfl (⟨rfl, rfl, rfl⟩)
    · refine ew_aload_n d_Ru_tellParts_14 rfl ?_
      refine ew_aload_n d_Ru_tellParts_15 rfl ?_
      refine ew_iload_n d_Ru_tellParts_16 rfl ?_
      refine ew_iald (j := i) d_Ru_tellParts_17 rfl (rfl) (by omega) (by decide) ?_
      refine en_eq (st' := [.int (M 14 i), .ref 24]) rfl (by rw [show ((ew_w M 24 0 (sp_tp (M 14) t i)) 14 i) = (M 14 i) from by rw [ew_w_ne (by decide)]]) rfl ?_
      refine en_callV (As := [.int (M 14 i)]) (i := 24) (ci := 7) (st := []) (st1 := []) d_Ru_tellParts_18 k_Tk_tell rfl rfl tw_397 tw_398 tw_399 rfl (Nat.le_of_ble_eq_true rfl) rfl (Nat.le_of_ble_eq_true rfl) rfl rfl (c_Tk_tell_24 l g _ L (ew_w M 24 0 (sp_tp (M 14) t i)) (M 14 i)) rfl ?_
      refine en_eq (M' := ew_w M 24 0 (sp_tp (M 14) t (i + 1))) rfl rfl (by rw [ew_ww, ew_w_at]; rfl) ?_
      refine en_inc (ls' := [.ref 24, .ref 14, .int (nI n), .int (nI (i + 1))]) d_Ru_tellParts_21 rfl rfl ?_
      refine ew_goto (tgt := 7) d_Ru_tellParts_24 (by decide) ?_
      exact ih (i + 1) (by omega) (by omega)
set_option maxRecDepth 100000 in
theorem c_Ru_tellParts14_24 (l : Launch) (g : ew_G) (d L : Nat) (M : ew_M) (n : Nat) (hb : 3 * n ≤ 18) :
    Ew l g (d + 3) 0 0 m_Ru_tellParts 0 [.ref 24, .ref 14, .int (nI n), .retAddr 0] [] (ew_SH L) M (ew_q (none) (ew_SH L) (ew_w M 24 0 (sp_tp (M 14) (sp_mix (M 24 0) (nI n)) (3 * n)))) := by
  refine ew_aload_n d_Ru_tellParts_0 rfl ?_
  refine ew_iload_n d_Ru_tellParts_1 rfl ?_
  refine en_callV (As := [.int (nI n)]) (i := 24) (ci := 7) (st := []) (st1 := []) d_Ru_tellParts_2 k_Tk_tell rfl rfl tw_397 tw_398 tw_399 rfl (Nat.le_of_ble_eq_true rfl) rfl (Nat.le_of_ble_eq_true rfl) rfl rfl (c_Tk_tell_24 l g _ L M (nI n)) rfl ?_
  refine ew_iconst (v := nI 0) d_Ru_tellParts_5 (by decide) ?_
  refine en_istore_n (ls' := [.ref 24, .ref 14, .int (nI n), .int (nI 0)]) d_Ru_tellParts_6 (Nat.le_of_ble_eq_true rfl) rfl ?_
  exact lp_Ru_tellParts14_24 l g d L M (sp_mix (M 24 0) (nI n)) n hb (3 * n + 1) 0 (by omega) (by omega)
set_option maxRecDepth 100000 in
theorem lp_Ru_tellParts15_24 (l : Launch) (g : ew_G) (d L : Nat) (M : ew_M) (t : Int32) (n : Nat) (hb : 3 * n ≤ 12) : ∀ (fu i : Nat), 3 * n - i < fu → i ≤ 3 * n → Ew l g (d + 3) 0 0 m_Ru_tellParts 7 [.ref 24, .ref 15, .int (nI n), .int (nI i)] [] (ew_SH L) (ew_w M 24 0 (sp_tp (M 15) t i)) (ew_q none (ew_SH L) (ew_w M 24 0 (sp_tp (M 15) t (3 * n)))) := by
  intro fu
  induction fu with
  | zero =>
    intro i  hn
    exact absurd hn (Nat.not_lt_zero _)
  | succ fu ih =>
    intro i  hn hle
    refine ew_iload_n d_Ru_tellParts_7 rfl ?_
    refine ew_iconst (v := nI 3) d_Ru_tellParts_8 (by decide) ?_
    refine ew_iload_n d_Ru_tellParts_9 rfl ?_
    refine en_imul d_Ru_tellParts_10 ?_
    refine en_icmp_ge (tgt := 27) d_Ru_tellParts_11 (by decide) (by omega) (by omega) (fun h11 => ?_) (fun h11 => ?_)
    · obtain rfl : i = 3 * n := by omega
      exact ew_ret d_Ru_tellParts_27 rfl (⟨rfl, rfl, rfl⟩)
    · refine ew_aload_n d_Ru_tellParts_14 rfl ?_
      refine ew_aload_n d_Ru_tellParts_15 rfl ?_
      refine ew_iload_n d_Ru_tellParts_16 rfl ?_
      refine ew_iald (j := i) d_Ru_tellParts_17 rfl (rfl) (by omega) (by decide) ?_
      refine en_eq (st' := [.int (M 15 i), .ref 24]) rfl (by rw [show ((ew_w M 24 0 (sp_tp (M 15) t i)) 15 i) = (M 15 i) from by rw [ew_w_ne (by decide)]]) rfl ?_
      refine en_callV (As := [.int (M 15 i)]) (i := 24) (ci := 7) (st := []) (st1 := []) d_Ru_tellParts_18 k_Tk_tell rfl rfl tw_397 tw_398 tw_399 rfl (Nat.le_of_ble_eq_true rfl) rfl (Nat.le_of_ble_eq_true rfl) rfl rfl (c_Tk_tell_24 l g _ L (ew_w M 24 0 (sp_tp (M 15) t i)) (M 15 i)) rfl ?_
      refine en_eq (M' := ew_w M 24 0 (sp_tp (M 15) t (i + 1))) rfl rfl (by rw [ew_ww, ew_w_at]; rfl) ?_
      refine en_inc (ls' := [.ref 24, .ref 15, .int (nI n), .int (nI (i + 1))]) d_Ru_tellParts_21 rfl rfl ?_
      refine ew_goto (tgt := 7) d_Ru_tellParts_24 (by decide) ?_
      exact ih (i + 1) (by omega) (by omega)
set_option maxRecDepth 100000 in
theorem c_Ru_tellParts15_24 (l : Launch) (g : ew_G) (d L : Nat) (M : ew_M) (n : Nat) (hb : 3 * n ≤ 12) :
    Ew l g (d + 3) 0 0 m_Ru_tellParts 0 [.ref 24, .ref 15, .int (nI n), .retAddr 0] [] (ew_SH L) M (ew_q (none) (ew_SH L) (ew_w M 24 0 (sp_tp (M 15) (sp_mix (M 24 0) (nI n)) (3 * n)))) := by
  refine ew_aload_n d_Ru_tellParts_0 rfl ?_
  refine ew_iload_n d_Ru_tellParts_1 rfl ?_
  refine en_callV (As := [.int (nI n)]) (i := 24) (ci := 7) (st := []) (st1 := []) d_Ru_tellParts_2 k_Tk_tell rfl rfl tw_397 tw_398 tw_399 rfl (Nat.le_of_ble_eq_true rfl) rfl (Nat.le_of_ble_eq_true rfl) rfl rfl (c_Tk_tell_24 l g _ L M (nI n)) rfl ?_
  refine ew_iconst (v := nI 0) d_Ru_tellParts_5 (by decide) ?_
  refine en_istore_n (ls' := [.ref 24, .ref 15, .int (nI n), .int (nI 0)]) d_Ru_tellParts_6 (Nat.le_of_ble_eq_true rfl) rfl ?_
  exact lp_Ru_tellParts15_24 l g d L M (sp_mix (M 24 0) (nI n)) n hb (3 * n + 1) 0 (by omega) (by omega)
set_option maxRecDepth 100000 in
theorem c_Ru_tellTo0_24 (l : Launch) (g : ew_G) (d L : Nat) (M : ew_M) (ρ : sp_R) (hr : sp_ru ρ M) (hk : sp_cc ρ = 0) :
    Ew l g (d + 4) 0 0 m_Ru_tellTo 0 [.ref 10, .ref 24, .retAddr 0, .retAddr 0] [] (ew_SH L) M (ew_q (none) (ew_SH L) (ew_w M 24 0 (sp_tR ρ (M 24 0)))) := by
  refine ew_aload_n d_Ru_tellTo_0 rfl ?_
  refine en_callV (As := []) (i := 10) (ci := 2) (st := []) (st1 := [.int (nI (sp_cc ρ))]) d_Ru_tellTo_1 k_Ru_constraintCount rfl rfl tw_358 tw_360 tp_7 rfl (Nat.le_of_ble_eq_true rfl) rfl (Nat.le_of_ble_eq_true rfl) rfl rfl (c_Ru_constraintCount l g _ L M ρ (hr)) rfl ?_
  refine en_eq (st' := [.int (nI 0)]) rfl (by rw [show (nI (sp_cc ρ)) = (nI 0) from by rw [hk]]) rfl ?_
  refine en_istore_n (ls' := [.ref 10, .ref 24, .int (nI 0), .retAddr 0]) d_Ru_tellTo_4 (Nat.le_of_ble_eq_true rfl) rfl ?_
  refine ew_aload_n d_Ru_tellTo_5 rfl ?_
  refine ew_iload_n d_Ru_tellTo_6 rfl ?_
  refine en_callV (As := [.int (nI 0)]) (i := 24) (ci := 7) (st := []) (st1 := []) d_Ru_tellTo_7 k_Tk_tell rfl rfl tw_397 tw_398 tw_399 rfl (Nat.le_of_ble_eq_true rfl) rfl (Nat.le_of_ble_eq_true rfl) rfl rfl (c_Tk_tell_24 l g _ L M (nI 0)) rfl ?_
  refine en_eq (M' := ew_w M 24 0 (sp_tc ρ (sp_mix (M 24 0) (nI (sp_cc ρ))) 0)) rfl rfl (by rw [hk]; rfl) ?_
  refine ew_iconst (v := nI 0) d_Ru_tellTo_10 (by decide) ?_
  refine en_istore_n (ls' := [.ref 10, .ref 24, .int (nI 0), .int (nI 0)]) d_Ru_tellTo_11 (Nat.le_of_ble_eq_true rfl) rfl ?_
  refine ew_iload_n d_Ru_tellTo_12 rfl ?_
  refine ew_iload_n d_Ru_tellTo_13 rfl ?_
  refine en_icmp_ge (tgt := 39) d_Ru_tellTo_14 (by decide) (by decide) (by decide) (fun h14 => ?_) (fun h14 => by exact absurd h14 (by decide))
  refine ew_aload_n d_Ru_tellTo_39 rfl ?_
  refine ew_aload_n d_Ru_tellTo_40 rfl ?_
  refine ew_getr (ci := 2) (f := 3) d_Ru_tellTo_41 rfl rfl rfl tw_72 ?_
  refine ew_aload_n d_Ru_tellTo_44 rfl ?_
  refine ew_geti (ci := 2) (f := 4) d_Ru_tellTo_45 rfl rfl rfl tw_73 ?_
  refine en_eq (st' := [.int (nI (r_bn ρ)), .ref 15, .ref 24]) rfl (by rw [show ((ew_w M 24 0 (sp_tc ρ (sp_mix (M 24 0) (nI (sp_cc ρ))) 0)) 10 4) = (nI (r_bn ρ)) from by rw [ew_w_ne (by decide)]; exact hr.2.2.2.2.1]) rfl ?_
  refine en_callS (As := [.ref 24, .ref 15, .int (nI (r_bn ρ))]) (st := []) (st1 := []) d_Ru_tellTo_48 k_Ru_tellParts tw_402 tw_403 rfl (Nat.le_of_ble_eq_true rfl) rfl (Nat.le_of_ble_eq_true rfl) rfl rfl (c_Ru_tellParts15_24 l g _ L (ew_w M 24 0 (sp_tc ρ (sp_mix (M 24 0) (nI (sp_cc ρ))) 0)) (r_bn ρ) (by have := hr.1.2.2.1; omega)) rfl ?_
  refine en_eq (M' := ew_w M 24 0 (sp_tR ρ (M 24 0))) rfl rfl (by rw [ew_ww, ew_w_ne (by decide), ew_w_at, sp_tp_tb (ρ := ρ) hr.2.2.2.2.2]; unfold sp_tR; rw [hk]) ?_
  exact ew_ret d_Ru_tellTo_51 rfl (⟨rfl, rfl, rfl⟩)
set_option maxRecDepth 100000 in
theorem c_Ru_tellTo1_24 (l : Launch) (g : ew_G) (d L : Nat) (M : ew_M) (ρ : sp_R) (hr : sp_ru ρ M) (hk : sp_cc ρ = 1) :
    Ew l g (d + 4) 0 0 m_Ru_tellTo 0 [.ref 10, .ref 24, .retAddr 0, .retAddr 0] [] (ew_SH L) M (ew_q (none) (ew_SH L) (ew_w M 24 0 (sp_tR ρ (M 24 0)))) := by
  refine ew_aload_n d_Ru_tellTo_0 rfl ?_
  refine en_callV (As := []) (i := 10) (ci := 2) (st := []) (st1 := [.int (nI (sp_cc ρ))]) d_Ru_tellTo_1 k_Ru_constraintCount rfl rfl tw_358 tw_360 tp_7 rfl (Nat.le_of_ble_eq_true rfl) rfl (Nat.le_of_ble_eq_true rfl) rfl rfl (c_Ru_constraintCount l g _ L M ρ (hr)) rfl ?_
  refine en_eq (st' := [.int (nI 1)]) rfl (by rw [show (nI (sp_cc ρ)) = (nI 1) from by rw [hk]]) rfl ?_
  refine en_istore_n (ls' := [.ref 10, .ref 24, .int (nI 1), .retAddr 0]) d_Ru_tellTo_4 (Nat.le_of_ble_eq_true rfl) rfl ?_
  refine ew_aload_n d_Ru_tellTo_5 rfl ?_
  refine ew_iload_n d_Ru_tellTo_6 rfl ?_
  refine en_callV (As := [.int (nI 1)]) (i := 24) (ci := 7) (st := []) (st1 := []) d_Ru_tellTo_7 k_Tk_tell rfl rfl tw_397 tw_398 tw_399 rfl (Nat.le_of_ble_eq_true rfl) rfl (Nat.le_of_ble_eq_true rfl) rfl rfl (c_Tk_tell_24 l g _ L M (nI 1)) rfl ?_
  refine en_eq (M' := ew_w M 24 0 (sp_tc ρ (sp_mix (M 24 0) (nI (sp_cc ρ))) 0)) rfl rfl (by rw [hk]; rfl) ?_
  refine ew_iconst (v := nI 0) d_Ru_tellTo_10 (by decide) ?_
  refine en_istore_n (ls' := [.ref 10, .ref 24, .int (nI 1), .int (nI 0)]) d_Ru_tellTo_11 (Nat.le_of_ble_eq_true rfl) rfl ?_
  refine ew_iload_n d_Ru_tellTo_12 rfl ?_
  refine ew_iload_n d_Ru_tellTo_13 rfl ?_
  refine en_icmp_ge (tgt := 39) d_Ru_tellTo_14 (by decide) (by decide) (by decide) (fun h14 => by exact absurd h14 (by decide)) (fun h14 => ?_)
  refine ew_aload_n d_Ru_tellTo_17 rfl ?_
  refine ew_aload_n d_Ru_tellTo_18 rfl ?_
  refine ew_getr (ci := 2) (f := 2) d_Ru_tellTo_19 rfl rfl rfl tw_71 ?_
  refine ew_iload_n d_Ru_tellTo_22 rfl ?_
  refine ew_aald (j := 0) d_Ru_tellTo_23 rfl (by decide) rfl rfl (by decide) ?_
  refine ew_aload_n d_Ru_tellTo_24 rfl ?_
  refine ew_getr (ci := 2) (f := 1) d_Ru_tellTo_25 rfl rfl rfl tw_70 ?_
  refine ew_iload_n d_Ru_tellTo_28 rfl ?_
  refine ew_iald (j := 0) d_Ru_tellTo_29 rfl (rfl) (by decide) (by decide) ?_
  refine en_eq (st' := [.int (nI (r_cn ρ 0)), .ref 13, .ref 24]) rfl (by rw [show ((ew_w M 24 0 (sp_tc ρ (sp_mix (M 24 0) (nI (sp_cc ρ))) 0)) 11 0) = (nI (r_cn ρ 0)) from by rw [ew_w_ne (by decide)]; exact hr.2.1 0 (by decide)]) rfl ?_
  refine en_callS (As := [.ref 24, .ref 13, .int (nI (r_cn ρ 0))]) (st := []) (st1 := []) d_Ru_tellTo_30 k_Ru_tellParts tw_402 tw_403 rfl (Nat.le_of_ble_eq_true rfl) rfl (Nat.le_of_ble_eq_true rfl) rfl rfl (c_Ru_tellParts13_24 l g _ L (ew_w M 24 0 (sp_tc ρ (sp_mix (M 24 0) (nI (sp_cc ρ))) 0)) (r_cn ρ 0) (by have := hr.1.1 0 (by decide); have := hr.1.1 1 (by decide); omega)) rfl ?_
  refine en_eq (M' := ew_w M 24 0 (sp_tc ρ (sp_mix (M 24 0) (nI (sp_cc ρ))) 1)) rfl rfl (by rw [ew_ww, ew_w_ne (by decide), ew_w_at, sp_tp_tl (ρ := ρ) (c := 0) (hr.2.2.1)]; rfl) ?_
  refine en_inc (ls' := [.ref 10, .ref 24, .int (nI 1), .int (nI 1)]) d_Ru_tellTo_33 rfl rfl ?_
  refine ew_goto (tgt := 12) d_Ru_tellTo_36 (by decide) ?_
  refine ew_iload_n d_Ru_tellTo_12 rfl ?_
  refine ew_iload_n d_Ru_tellTo_13 rfl ?_
  refine en_icmp_ge (tgt := 39) d_Ru_tellTo_14 (by decide) (by decide) (by decide) (fun h14 => ?_) (fun h14 => by exact absurd h14 (by decide))
  refine ew_aload_n d_Ru_tellTo_39 rfl ?_
  refine ew_aload_n d_Ru_tellTo_40 rfl ?_
  refine ew_getr (ci := 2) (f := 3) d_Ru_tellTo_41 rfl rfl rfl tw_72 ?_
  refine ew_aload_n d_Ru_tellTo_44 rfl ?_
  refine ew_geti (ci := 2) (f := 4) d_Ru_tellTo_45 rfl rfl rfl tw_73 ?_
  refine en_eq (st' := [.int (nI (r_bn ρ)), .ref 15, .ref 24]) rfl (by rw [show ((ew_w M 24 0 (sp_tc ρ (sp_mix (M 24 0) (nI (sp_cc ρ))) 1)) 10 4) = (nI (r_bn ρ)) from by rw [ew_w_ne (by decide)]; exact hr.2.2.2.2.1]) rfl ?_
  refine en_callS (As := [.ref 24, .ref 15, .int (nI (r_bn ρ))]) (st := []) (st1 := []) d_Ru_tellTo_48 k_Ru_tellParts tw_402 tw_403 rfl (Nat.le_of_ble_eq_true rfl) rfl (Nat.le_of_ble_eq_true rfl) rfl rfl (c_Ru_tellParts15_24 l g _ L (ew_w M 24 0 (sp_tc ρ (sp_mix (M 24 0) (nI (sp_cc ρ))) 1)) (r_bn ρ) (by have := hr.1.2.2.1; omega)) rfl ?_
  refine en_eq (M' := ew_w M 24 0 (sp_tR ρ (M 24 0))) rfl rfl (by rw [ew_ww, ew_w_ne (by decide), ew_w_at, sp_tp_tb (ρ := ρ) hr.2.2.2.2.2]; unfold sp_tR; rw [hk]) ?_
  exact ew_ret d_Ru_tellTo_51 rfl (⟨rfl, rfl, rfl⟩)
set_option maxRecDepth 100000 in
theorem c_Ru_tellTo2_24 (l : Launch) (g : ew_G) (d L : Nat) (M : ew_M) (ρ : sp_R) (hr : sp_ru ρ M) (hk : sp_cc ρ = 2) :
    Ew l g (d + 4) 0 0 m_Ru_tellTo 0 [.ref 10, .ref 24, .retAddr 0, .retAddr 0] [] (ew_SH L) M (ew_q (none) (ew_SH L) (ew_w M 24 0 (sp_tR ρ (M 24 0)))) := by
  refine ew_aload_n d_Ru_tellTo_0 rfl ?_
  refine en_callV (As := []) (i := 10) (ci := 2) (st := []) (st1 := [.int (nI (sp_cc ρ))]) d_Ru_tellTo_1 k_Ru_constraintCount rfl rfl tw_358 tw_360 tp_7 rfl (Nat.le_of_ble_eq_true rfl) rfl (Nat.le_of_ble_eq_true rfl) rfl rfl (c_Ru_constraintCount l g _ L M ρ (hr)) rfl ?_
  refine en_eq (st' := [.int (nI 2)]) rfl (by rw [show (nI (sp_cc ρ)) = (nI 2) from by rw [hk]]) rfl ?_
  refine en_istore_n (ls' := [.ref 10, .ref 24, .int (nI 2), .retAddr 0]) d_Ru_tellTo_4 (Nat.le_of_ble_eq_true rfl) rfl ?_
  refine ew_aload_n d_Ru_tellTo_5 rfl ?_
  refine ew_iload_n d_Ru_tellTo_6 rfl ?_
  refine en_callV (As := [.int (nI 2)]) (i := 24) (ci := 7) (st := []) (st1 := []) d_Ru_tellTo_7 k_Tk_tell rfl rfl tw_397 tw_398 tw_399 rfl (Nat.le_of_ble_eq_true rfl) rfl (Nat.le_of_ble_eq_true rfl) rfl rfl (c_Tk_tell_24 l g _ L M (nI 2)) rfl ?_
  refine en_eq (M' := ew_w M 24 0 (sp_tc ρ (sp_mix (M 24 0) (nI (sp_cc ρ))) 0)) rfl rfl (by rw [hk]; rfl) ?_
  refine ew_iconst (v := nI 0) d_Ru_tellTo_10 (by decide) ?_
  refine en_istore_n (ls' := [.ref 10, .ref 24, .int (nI 2), .int (nI 0)]) d_Ru_tellTo_11 (Nat.le_of_ble_eq_true rfl) rfl ?_
  refine ew_iload_n d_Ru_tellTo_12 rfl ?_
  refine ew_iload_n d_Ru_tellTo_13 rfl ?_
  refine en_icmp_ge (tgt := 39) d_Ru_tellTo_14 (by decide) (by decide) (by decide) (fun h14 => by exact absurd h14 (by decide)) (fun h14 => ?_)
  refine ew_aload_n d_Ru_tellTo_17 rfl ?_
  refine ew_aload_n d_Ru_tellTo_18 rfl ?_
  refine ew_getr (ci := 2) (f := 2) d_Ru_tellTo_19 rfl rfl rfl tw_71 ?_
  refine ew_iload_n d_Ru_tellTo_22 rfl ?_
  refine ew_aald (j := 0) d_Ru_tellTo_23 rfl (by decide) rfl rfl (by decide) ?_
  refine ew_aload_n d_Ru_tellTo_24 rfl ?_
  refine ew_getr (ci := 2) (f := 1) d_Ru_tellTo_25 rfl rfl rfl tw_70 ?_
  refine ew_iload_n d_Ru_tellTo_28 rfl ?_
  refine ew_iald (j := 0) d_Ru_tellTo_29 rfl (rfl) (by decide) (by decide) ?_
  refine en_eq (st' := [.int (nI (r_cn ρ 0)), .ref 13, .ref 24]) rfl (by rw [show ((ew_w M 24 0 (sp_tc ρ (sp_mix (M 24 0) (nI (sp_cc ρ))) 0)) 11 0) = (nI (r_cn ρ 0)) from by rw [ew_w_ne (by decide)]; exact hr.2.1 0 (by decide)]) rfl ?_
  refine en_callS (As := [.ref 24, .ref 13, .int (nI (r_cn ρ 0))]) (st := []) (st1 := []) d_Ru_tellTo_30 k_Ru_tellParts tw_402 tw_403 rfl (Nat.le_of_ble_eq_true rfl) rfl (Nat.le_of_ble_eq_true rfl) rfl rfl (c_Ru_tellParts13_24 l g _ L (ew_w M 24 0 (sp_tc ρ (sp_mix (M 24 0) (nI (sp_cc ρ))) 0)) (r_cn ρ 0) (by have := hr.1.1 0 (by decide); have := hr.1.1 1 (by decide); omega)) rfl ?_
  refine en_eq (M' := ew_w M 24 0 (sp_tc ρ (sp_mix (M 24 0) (nI (sp_cc ρ))) 1)) rfl rfl (by rw [ew_ww, ew_w_ne (by decide), ew_w_at, sp_tp_tl (ρ := ρ) (c := 0) (hr.2.2.1)]; rfl) ?_
  refine en_inc (ls' := [.ref 10, .ref 24, .int (nI 2), .int (nI 1)]) d_Ru_tellTo_33 rfl rfl ?_
  refine ew_goto (tgt := 12) d_Ru_tellTo_36 (by decide) ?_
  refine ew_iload_n d_Ru_tellTo_12 rfl ?_
  refine ew_iload_n d_Ru_tellTo_13 rfl ?_
  refine en_icmp_ge (tgt := 39) d_Ru_tellTo_14 (by decide) (by decide) (by decide) (fun h14 => by exact absurd h14 (by decide)) (fun h14 => ?_)
  refine ew_aload_n d_Ru_tellTo_17 rfl ?_
  refine ew_aload_n d_Ru_tellTo_18 rfl ?_
  refine ew_getr (ci := 2) (f := 2) d_Ru_tellTo_19 rfl rfl rfl tw_71 ?_
  refine ew_iload_n d_Ru_tellTo_22 rfl ?_
  refine ew_aald (j := 1) d_Ru_tellTo_23 rfl (by decide) rfl rfl (by decide) ?_
  refine ew_aload_n d_Ru_tellTo_24 rfl ?_
  refine ew_getr (ci := 2) (f := 1) d_Ru_tellTo_25 rfl rfl rfl tw_70 ?_
  refine ew_iload_n d_Ru_tellTo_28 rfl ?_
  refine ew_iald (j := 1) d_Ru_tellTo_29 rfl (rfl) (by decide) (by decide) ?_
  refine en_eq (st' := [.int (nI (r_cn ρ 1)), .ref 14, .ref 24]) rfl (by rw [show ((ew_w M 24 0 (sp_tc ρ (sp_mix (M 24 0) (nI (sp_cc ρ))) 1)) 11 1) = (nI (r_cn ρ 1)) from by rw [ew_w_ne (by decide)]; exact hr.2.1 1 (by decide)]) rfl ?_
  refine en_callS (As := [.ref 24, .ref 14, .int (nI (r_cn ρ 1))]) (st := []) (st1 := []) d_Ru_tellTo_30 k_Ru_tellParts tw_402 tw_403 rfl (Nat.le_of_ble_eq_true rfl) rfl (Nat.le_of_ble_eq_true rfl) rfl rfl (c_Ru_tellParts14_24 l g _ L (ew_w M 24 0 (sp_tc ρ (sp_mix (M 24 0) (nI (sp_cc ρ))) 1)) (r_cn ρ 1) (by have := hr.1.1 0 (by decide); have := hr.1.1 1 (by decide); omega)) rfl ?_
  refine en_eq (M' := ew_w M 24 0 (sp_tc ρ (sp_mix (M 24 0) (nI (sp_cc ρ))) 2)) rfl rfl (by rw [ew_ww, ew_w_ne (by decide), ew_w_at, sp_tp_tl (ρ := ρ) (c := 1) (hr.2.2.2.1)]; rfl) ?_
  refine en_inc (ls' := [.ref 10, .ref 24, .int (nI 2), .int (nI 2)]) d_Ru_tellTo_33 rfl rfl ?_
  refine ew_goto (tgt := 12) d_Ru_tellTo_36 (by decide) ?_
  refine ew_iload_n d_Ru_tellTo_12 rfl ?_
  refine ew_iload_n d_Ru_tellTo_13 rfl ?_
  refine en_icmp_ge (tgt := 39) d_Ru_tellTo_14 (by decide) (by decide) (by decide) (fun h14 => ?_) (fun h14 => by exact absurd h14 (by decide))
  refine ew_aload_n d_Ru_tellTo_39 rfl ?_
  refine ew_aload_n d_Ru_tellTo_40 rfl ?_
  refine ew_getr (ci := 2) (f := 3) d_Ru_tellTo_41 rfl rfl rfl tw_72 ?_
  refine ew_aload_n d_Ru_tellTo_44 rfl ?_
  refine ew_geti (ci := 2) (f := 4) d_Ru_tellTo_45 rfl rfl rfl tw_73 ?_
  refine en_eq (st' := [.int (nI (r_bn ρ)), .ref 15, .ref 24]) rfl (by rw [show ((ew_w M 24 0 (sp_tc ρ (sp_mix (M 24 0) (nI (sp_cc ρ))) 2)) 10 4) = (nI (r_bn ρ)) from by rw [ew_w_ne (by decide)]; exact hr.2.2.2.2.1]) rfl ?_
  refine en_callS (As := [.ref 24, .ref 15, .int (nI (r_bn ρ))]) (st := []) (st1 := []) d_Ru_tellTo_48 k_Ru_tellParts tw_402 tw_403 rfl (Nat.le_of_ble_eq_true rfl) rfl (Nat.le_of_ble_eq_true rfl) rfl rfl (c_Ru_tellParts15_24 l g _ L (ew_w M 24 0 (sp_tc ρ (sp_mix (M 24 0) (nI (sp_cc ρ))) 2)) (r_bn ρ) (by have := hr.1.2.2.1; omega)) rfl ?_
  refine en_eq (M' := ew_w M 24 0 (sp_tR ρ (M 24 0))) rfl rfl (by rw [ew_ww, ew_w_ne (by decide), ew_w_at, sp_tp_tb (ρ := ρ) hr.2.2.2.2.2]; unfold sp_tR; rw [hk]) ?_
  exact ew_ret d_Ru_tellTo_51 rfl (⟨rfl, rfl, rfl⟩)
theorem c_Ru_tellTo_24 (l : Launch) (g : ew_G) (d L : Nat) (M : ew_M) (ρ : sp_R) (hr : sp_ru ρ M) : Ew l g (d + 4) 0 0 m_Ru_tellTo 0 [.ref 10, .ref 24, .retAddr 0, .retAddr 0] [] (ew_SH L) M (ew_q none (ew_SH L) (ew_w M 24 0 (sp_tR ρ (M 24 0)))) := by
  have h := sp_cc_le ρ
  rcases (show sp_cc ρ = 0 ∨ sp_cc ρ = 1 ∨ sp_cc ρ = 2 by omega) with hk | hk | hk
  · exact c_Ru_tellTo0_24 l g d L M ρ hr hk
  · exact c_Ru_tellTo1_24 l g d L M ρ hr hk
  · exact c_Ru_tellTo2_24 l g d L M ρ hr hk
set_option maxRecDepth 100000 in
theorem c_Tk_begin_24 (l : Launch) (g : ew_G) (d L : Nat) (M : ew_M) (ρ : sp_R) (hr : sp_ru ρ M) (x : Int32) :
    Ew l g (d + 5) 0 0 m_Tk_begin 0 [.ref 24, .ref 10, .int x] [] (ew_SH L) M (ew_q (none) (ew_SH L) (ew_w (ew_w M 24 0 (sp_mix (sp_mix (sp_tR ρ (nI 1)) x) (-7))) 24 1 (nI (sp_ch (sp_mix (sp_mix (sp_tR ρ (nI 1)) x) (-7)))))) := by
  refine ew_aload_n d_Tk_begin_0 rfl ?_
  refine ew_iconst (v := nI 1) d_Tk_begin_1 (by decide) ?_
  refine ew_puti (ci := 7) (f := 0) (ty := .int) d_Tk_begin_2 rfl (by decide) rfl rfl rfl (by decide +kernel) rfl rfl tw_127 ?_
  refine ew_aload_n d_Tk_begin_5 rfl ?_
  refine ew_aload_n d_Tk_begin_6 rfl ?_
  refine en_callV (As := [.ref 24]) (i := 10) (ci := 2) (st := []) (st1 := []) d_Tk_begin_7 k_Ru_tellTo rfl rfl tw_393 tw_394 tw_395 rfl (Nat.le_of_ble_eq_true rfl) rfl (Nat.le_of_ble_eq_true rfl) rfl rfl (c_Ru_tellTo_24 l g _ L (ew_w M 24 0 (nI 1)) ρ (sp_ru_w hr (by decide))) rfl ?_
  refine en_eq (M' := ew_w M 24 0 (sp_tR ρ (nI 1))) rfl rfl (by rw [ew_ww, ew_w_at]) ?_
  refine ew_aload_n d_Tk_begin_10 rfl ?_
  refine ew_iload_n d_Tk_begin_11 rfl ?_
  refine en_callV (As := [.int x]) (i := 24) (ci := 7) (st := []) (st1 := []) d_Tk_begin_12 k_Tk_tell rfl rfl tw_405 tw_398 tw_399 rfl (Nat.le_of_ble_eq_true rfl) rfl (Nat.le_of_ble_eq_true rfl) rfl rfl (c_Tk_tell_24 l g _ L (ew_w M 24 0 (sp_tR ρ (nI 1))) x) rfl ?_
  refine en_eq (M' := ew_w M 24 0 (sp_mix (sp_tR ρ (nI 1)) x)) rfl rfl (by rw [ew_ww, ew_w_at]) ?_
  refine ew_aload_n d_Tk_begin_15 rfl ?_
  refine ew_aload_n d_Tk_begin_16 rfl ?_
  refine en_callV (As := []) (i := 24) (ci := 7) (st := [.ref 24]) (st1 := [.int (nI (sp_ch (sp_mix ((ew_w M 24 0 (sp_mix (sp_tR ρ (nI 1)) x)) 24 0) (-7)))), .ref 24]) d_Tk_begin_17 k_Tk_challenge rfl rfl tw_406 tw_408 tp_9 rfl (Nat.le_of_ble_eq_true rfl) rfl (Nat.le_of_ble_eq_true rfl) rfl rfl (c_Tk_challenge_24 l g _ L (ew_w M 24 0 (sp_mix (sp_tR ρ (nI 1)) x))) rfl ?_
  refine en_eq (st' := [.int (nI (sp_ch (sp_mix (sp_mix (sp_tR ρ (nI 1)) x) (-7)))), .ref 24]) rfl (by rw [show (nI (sp_ch (sp_mix ((ew_w M 24 0 (sp_mix (sp_tR ρ (nI 1)) x)) 24 0) (-7)))) = (nI (sp_ch (sp_mix (sp_mix (sp_tR ρ (nI 1)) x) (-7)))) from by rw [ew_w_at]]) rfl ?_
  refine en_eq (M' := ew_w M 24 0 (sp_mix (sp_mix (sp_tR ρ (nI 1)) x) (-7))) rfl rfl (by rw [ew_ww, ew_w_at]) ?_
  refine ew_puti (ci := 7) (f := 1) (ty := .int) d_Tk_begin_20 rfl (by decide) rfl rfl rfl (by decide +kernel) rfl rfl tw_129 ?_
  exact ew_ret d_Tk_begin_23 rfl (⟨rfl, rfl, rfl⟩)
set_option maxRecDepth 100000 in
theorem lp_Ru_tellParts13_44 (l : Launch) (g : ew_G) (d L : Nat) (M : ew_M) (t : Int32) (n : Nat) (hb : 3 * n ≤ 18) : ∀ (fu i : Nat), 3 * n - i < fu → i ≤ 3 * n → Ew l g (d + 3) 0 0 m_Ru_tellParts 7 [.ref 44, .ref 13, .int (nI n), .int (nI i)] [] (ew_SH L) (ew_w M 44 0 (sp_tp (M 13) t i)) (ew_q none (ew_SH L) (ew_w M 44 0 (sp_tp (M 13) t (3 * n)))) := by
  intro fu
  induction fu with
  | zero =>
    intro i  hn
    exact absurd hn (Nat.not_lt_zero _)
  | succ fu ih =>
    intro i  hn hle
    refine ew_iload_n d_Ru_tellParts_7 rfl ?_
    refine ew_iconst (v := nI 3) d_Ru_tellParts_8 (by decide) ?_
    refine ew_iload_n d_Ru_tellParts_9 rfl ?_
    refine en_imul d_Ru_tellParts_10 ?_
    refine en_icmp_ge (tgt := 27) d_Ru_tellParts_11 (by decide) (by omega) (by omega) (fun h11 => ?_) (fun h11 => ?_)
    · obtain rfl : i = 3 * n := by omega
      exact ew_ret d_Ru_tellParts_27 rfl (⟨rfl, rfl, rfl⟩)
    · refine ew_aload_n d_Ru_tellParts_14 rfl ?_
      refine ew_aload_n d_Ru_tellParts_15 rfl ?_
      refine ew_iload_n d_Ru_tellParts_16 rfl ?_
      refine ew_iald (j := i) d_Ru_tellParts_17 rfl (rfl) (by omega) (by decide) ?_
      refine en_eq (st' := [.int (M 13 i), .ref 44]) rfl (by rw [show ((ew_w M 44 0 (sp_tp (M 13) t i)) 13 i) = (M 13 i) from by rw [ew_w_ne (by decide)]]) rfl ?_
      refine en_callV (As := [.int (M 13 i)]) (i := 44) (ci := 7) (st := []) (st1 := []) d_Ru_tellParts_18 k_Tk_tell rfl rfl tw_397 tw_398 tw_399 rfl (Nat.le_of_ble_eq_true rfl) rfl (Nat.le_of_ble_eq_true rfl) rfl rfl (c_Tk_tell_44 l g _ L (ew_w M 44 0 (sp_tp (M 13) t i)) (M 13 i)) rfl ?_
      refine en_eq (M' := ew_w M 44 0 (sp_tp (M 13) t (i + 1))) rfl rfl (by rw [ew_ww, ew_w_at]; rfl) ?_
      refine en_inc (ls' := [.ref 44, .ref 13, .int (nI n), .int (nI (i + 1))]) d_Ru_tellParts_21 rfl rfl ?_
      refine ew_goto (tgt := 7) d_Ru_tellParts_24 (by decide) ?_
      exact ih (i + 1) (by omega) (by omega)
set_option maxRecDepth 100000 in
theorem c_Ru_tellParts13_44 (l : Launch) (g : ew_G) (d L : Nat) (M : ew_M) (n : Nat) (hb : 3 * n ≤ 18) :
    Ew l g (d + 3) 0 0 m_Ru_tellParts 0 [.ref 44, .ref 13, .int (nI n), .retAddr 0] [] (ew_SH L) M (ew_q (none) (ew_SH L) (ew_w M 44 0 (sp_tp (M 13) (sp_mix (M 44 0) (nI n)) (3 * n)))) := by
  refine ew_aload_n d_Ru_tellParts_0 rfl ?_
  refine ew_iload_n d_Ru_tellParts_1 rfl ?_
  refine en_callV (As := [.int (nI n)]) (i := 44) (ci := 7) (st := []) (st1 := []) d_Ru_tellParts_2 k_Tk_tell rfl rfl tw_397 tw_398 tw_399 rfl (Nat.le_of_ble_eq_true rfl) rfl (Nat.le_of_ble_eq_true rfl) rfl rfl (c_Tk_tell_44 l g _ L M (nI n)) rfl ?_
  refine ew_iconst (v := nI 0) d_Ru_tellParts_5 (by decide) ?_
  refine en_istore_n (ls' := [.ref 44, .ref 13, .int (nI n), .int (nI 0)]) d_Ru_tellParts_6 (Nat.le_of_ble_eq_true rfl) rfl ?_
  exact lp_Ru_tellParts13_44 l g d L M (sp_mix (M 44 0) (nI n)) n hb (3 * n + 1) 0 (by omega) (by omega)
set_option maxRecDepth 100000 in
theorem lp_Ru_tellParts14_44 (l : Launch) (g : ew_G) (d L : Nat) (M : ew_M) (t : Int32) (n : Nat) (hb : 3 * n ≤ 18) : ∀ (fu i : Nat), 3 * n - i < fu → i ≤ 3 * n → Ew l g (d + 3) 0 0 m_Ru_tellParts 7 [.ref 44, .ref 14, .int (nI n), .int (nI i)] [] (ew_SH L) (ew_w M 44 0 (sp_tp (M 14) t i)) (ew_q none (ew_SH L) (ew_w M 44 0 (sp_tp (M 14) t (3 * n)))) := by
  intro fu
  induction fu with
  | zero =>
    intro i  hn
    exact absurd hn (Nat.not_lt_zero _)
  | succ fu ih =>
    intro i  hn hle
    refine ew_iload_n d_Ru_tellParts_7 rfl ?_
    refine ew_iconst (v := nI 3) d_Ru_tellParts_8 (by decide) ?_
    refine ew_iload_n d_Ru_tellParts_9 rfl ?_
    refine en_imul d_Ru_tellParts_10 ?_
    refine en_icmp_ge (tgt := 27) d_Ru_tellParts_11 (by decide) (by omega) (by omega) (fun h11 => ?_) (fun h11 => ?_)
    · obtain rfl : i = 3 * n := by omega
      exact ew_ret d_Ru_tellParts_27 rfl (⟨rfl, rfl, rfl⟩)
    · refine ew_aload_n d_Ru_tellParts_14 rfl ?_
      refine ew_aload_n d_Ru_tellParts_15 rfl ?_
      refine ew_iload_n d_Ru_tellParts_16 rfl ?_
      refine ew_iald (j := i) d_Ru_tellParts_17 rfl (rfl) (by omega) (by decide) ?_
      refine en_eq (st' := [.int (M 14 i), .ref 44]) rfl (by rw [show ((ew_w M 44 0 (sp_tp (M 14) t i)) 14 i) = (M 14 i) from by rw [ew_w_ne (by decide)]]) rfl ?_
      refine en_callV (As := [.int (M 14 i)]) (i := 44) (ci := 7) (st := []) (st1 := []) d_Ru_tellParts_18 k_Tk_tell rfl rfl tw_397 tw_398 tw_399 rfl (Nat.le_of_ble_eq_true rfl) rfl (Nat.le_of_ble_eq_true rfl) rfl rfl (c_Tk_tell_44 l g _ L (ew_w M 44 0 (sp_tp (M 14) t i)) (M 14 i)) rfl ?_
      refine en_eq (M' := ew_w M 44 0 (sp_tp (M 14) t (i + 1))) rfl rfl (by rw [ew_ww, ew_w_at]; rfl) ?_
      refine en_inc (ls' := [.ref 44, .ref 14, .int (nI n), .int (nI (i + 1))]) d_Ru_tellParts_21 rfl rfl ?_
      refine ew_goto (tgt := 7) d_Ru_tellParts_24 (by decide) ?_
      exact ih (i + 1) (by omega) (by omega)
set_option maxRecDepth 100000 in
theorem c_Ru_tellParts14_44 (l : Launch) (g : ew_G) (d L : Nat) (M : ew_M) (n : Nat) (hb : 3 * n ≤ 18) :
    Ew l g (d + 3) 0 0 m_Ru_tellParts 0 [.ref 44, .ref 14, .int (nI n), .retAddr 0] [] (ew_SH L) M (ew_q (none) (ew_SH L) (ew_w M 44 0 (sp_tp (M 14) (sp_mix (M 44 0) (nI n)) (3 * n)))) := by
  refine ew_aload_n d_Ru_tellParts_0 rfl ?_
  refine ew_iload_n d_Ru_tellParts_1 rfl ?_
  refine en_callV (As := [.int (nI n)]) (i := 44) (ci := 7) (st := []) (st1 := []) d_Ru_tellParts_2 k_Tk_tell rfl rfl tw_397 tw_398 tw_399 rfl (Nat.le_of_ble_eq_true rfl) rfl (Nat.le_of_ble_eq_true rfl) rfl rfl (c_Tk_tell_44 l g _ L M (nI n)) rfl ?_
  refine ew_iconst (v := nI 0) d_Ru_tellParts_5 (by decide) ?_
  refine en_istore_n (ls' := [.ref 44, .ref 14, .int (nI n), .int (nI 0)]) d_Ru_tellParts_6 (Nat.le_of_ble_eq_true rfl) rfl ?_
  exact lp_Ru_tellParts14_44 l g d L M (sp_mix (M 44 0) (nI n)) n hb (3 * n + 1) 0 (by omega) (by omega)
set_option maxRecDepth 100000 in
theorem lp_Ru_tellParts15_44 (l : Launch) (g : ew_G) (d L : Nat) (M : ew_M) (t : Int32) (n : Nat) (hb : 3 * n ≤ 12) : ∀ (fu i : Nat), 3 * n - i < fu → i ≤ 3 * n → Ew l g (d + 3) 0 0 m_Ru_tellParts 7 [.ref 44, .ref 15, .int (nI n), .int (nI i)] [] (ew_SH L) (ew_w M 44 0 (sp_tp (M 15) t i)) (ew_q none (ew_SH L) (ew_w M 44 0 (sp_tp (M 15) t (3 * n)))) := by
  intro fu
  induction fu with
  | zero =>
    intro i  hn
    exact absurd hn (Nat.not_lt_zero _)
  | succ fu ih =>
    intro i  hn hle
    refine ew_iload_n d_Ru_tellParts_7 rfl ?_
    refine ew_iconst (v := nI 3) d_Ru_tellParts_8 (by decide) ?_
    refine ew_iload_n d_Ru_tellParts_9 rfl ?_
    refine en_imul d_Ru_tellParts_10 ?_
    refine en_icmp_ge (tgt := 27) d_Ru_tellParts_11 (by decide) (by omega) (by omega) (fun h11 => ?_) (fun h11 => ?_)
    · obtain rfl : i = 3 * n := by omega
      exact ew_ret d_Ru_tellParts_27 rfl (⟨rfl, rfl, rfl⟩)
    · refine ew_aload_n d_Ru_tellParts_14 rfl ?_
      refine ew_aload_n d_Ru_tellParts_15 rfl ?_
      refine ew_iload_n d_Ru_tellParts_16 rfl ?_
      refine ew_iald (j := i) d_Ru_tellParts_17 rfl (rfl) (by omega) (by decide) ?_
      refine en_eq (st' := [.int (M 15 i), .ref 44]) rfl (by rw [show ((ew_w M 44 0 (sp_tp (M 15) t i)) 15 i) = (M 15 i) from by rw [ew_w_ne (by decide)]]) rfl ?_
      refine en_callV (As := [.int (M 15 i)]) (i := 44) (ci := 7) (st := []) (st1 := []) d_Ru_tellParts_18 k_Tk_tell rfl rfl tw_397 tw_398 tw_399 rfl (Nat.le_of_ble_eq_true rfl) rfl (Nat.le_of_ble_eq_true rfl) rfl rfl (c_Tk_tell_44 l g _ L (ew_w M 44 0 (sp_tp (M 15) t i)) (M 15 i)) rfl ?_
      refine en_eq (M' := ew_w M 44 0 (sp_tp (M 15) t (i + 1))) rfl rfl (by rw [ew_ww, ew_w_at]; rfl) ?_
      refine en_inc (ls' := [.ref 44, .ref 15, .int (nI n), .int (nI (i + 1))]) d_Ru_tellParts_21 rfl rfl ?_
      refine ew_goto (tgt := 7) d_Ru_tellParts_24 (by decide) ?_
      exact ih (i + 1) (by omega) (by omega)
set_option maxRecDepth 100000 in
theorem c_Ru_tellParts15_44 (l : Launch) (g : ew_G) (d L : Nat) (M : ew_M) (n : Nat) (hb : 3 * n ≤ 12) :
    Ew l g (d + 3) 0 0 m_Ru_tellParts 0 [.ref 44, .ref 15, .int (nI n), .retAddr 0] [] (ew_SH L) M (ew_q (none) (ew_SH L) (ew_w M 44 0 (sp_tp (M 15) (sp_mix (M 44 0) (nI n)) (3 * n)))) := by
  refine ew_aload_n d_Ru_tellParts_0 rfl ?_
  refine ew_iload_n d_Ru_tellParts_1 rfl ?_
  refine en_callV (As := [.int (nI n)]) (i := 44) (ci := 7) (st := []) (st1 := []) d_Ru_tellParts_2 k_Tk_tell rfl rfl tw_397 tw_398 tw_399 rfl (Nat.le_of_ble_eq_true rfl) rfl (Nat.le_of_ble_eq_true rfl) rfl rfl (c_Tk_tell_44 l g _ L M (nI n)) rfl ?_
  refine ew_iconst (v := nI 0) d_Ru_tellParts_5 (by decide) ?_
  refine en_istore_n (ls' := [.ref 44, .ref 15, .int (nI n), .int (nI 0)]) d_Ru_tellParts_6 (Nat.le_of_ble_eq_true rfl) rfl ?_
  exact lp_Ru_tellParts15_44 l g d L M (sp_mix (M 44 0) (nI n)) n hb (3 * n + 1) 0 (by omega) (by omega)
set_option maxRecDepth 100000 in
theorem c_Ru_tellTo0_44 (l : Launch) (g : ew_G) (d L : Nat) (M : ew_M) (ρ : sp_R) (hr : sp_ru ρ M) (hk : sp_cc ρ = 0) :
    Ew l g (d + 4) 0 0 m_Ru_tellTo 0 [.ref 10, .ref 44, .retAddr 0, .retAddr 0] [] (ew_SH L) M (ew_q (none) (ew_SH L) (ew_w M 44 0 (sp_tR ρ (M 44 0)))) := by
  refine ew_aload_n d_Ru_tellTo_0 rfl ?_
  refine en_callV (As := []) (i := 10) (ci := 2) (st := []) (st1 := [.int (nI (sp_cc ρ))]) d_Ru_tellTo_1 k_Ru_constraintCount rfl rfl tw_358 tw_360 tp_7 rfl (Nat.le_of_ble_eq_true rfl) rfl (Nat.le_of_ble_eq_true rfl) rfl rfl (c_Ru_constraintCount l g _ L M ρ (hr)) rfl ?_
  refine en_eq (st' := [.int (nI 0)]) rfl (by rw [show (nI (sp_cc ρ)) = (nI 0) from by rw [hk]]) rfl ?_
  refine en_istore_n (ls' := [.ref 10, .ref 44, .int (nI 0), .retAddr 0]) d_Ru_tellTo_4 (Nat.le_of_ble_eq_true rfl) rfl ?_
  refine ew_aload_n d_Ru_tellTo_5 rfl ?_
  refine ew_iload_n d_Ru_tellTo_6 rfl ?_
  refine en_callV (As := [.int (nI 0)]) (i := 44) (ci := 7) (st := []) (st1 := []) d_Ru_tellTo_7 k_Tk_tell rfl rfl tw_397 tw_398 tw_399 rfl (Nat.le_of_ble_eq_true rfl) rfl (Nat.le_of_ble_eq_true rfl) rfl rfl (c_Tk_tell_44 l g _ L M (nI 0)) rfl ?_
  refine en_eq (M' := ew_w M 44 0 (sp_tc ρ (sp_mix (M 44 0) (nI (sp_cc ρ))) 0)) rfl rfl (by rw [hk]; rfl) ?_
  refine ew_iconst (v := nI 0) d_Ru_tellTo_10 (by decide) ?_
  refine en_istore_n (ls' := [.ref 10, .ref 44, .int (nI 0), .int (nI 0)]) d_Ru_tellTo_11 (Nat.le_of_ble_eq_true rfl) rfl ?_
  refine ew_iload_n d_Ru_tellTo_12 rfl ?_
  refine ew_iload_n d_Ru_tellTo_13 rfl ?_
  refine en_icmp_ge (tgt := 39) d_Ru_tellTo_14 (by decide) (by decide) (by decide) (fun h14 => ?_) (fun h14 => by exact absurd h14 (by decide))
  refine ew_aload_n d_Ru_tellTo_39 rfl ?_
  refine ew_aload_n d_Ru_tellTo_40 rfl ?_
  refine ew_getr (ci := 2) (f := 3) d_Ru_tellTo_41 rfl rfl rfl tw_72 ?_
  refine ew_aload_n d_Ru_tellTo_44 rfl ?_
  refine ew_geti (ci := 2) (f := 4) d_Ru_tellTo_45 rfl rfl rfl tw_73 ?_
  refine en_eq (st' := [.int (nI (r_bn ρ)), .ref 15, .ref 44]) rfl (by rw [show ((ew_w M 44 0 (sp_tc ρ (sp_mix (M 44 0) (nI (sp_cc ρ))) 0)) 10 4) = (nI (r_bn ρ)) from by rw [ew_w_ne (by decide)]; exact hr.2.2.2.2.1]) rfl ?_
  refine en_callS (As := [.ref 44, .ref 15, .int (nI (r_bn ρ))]) (st := []) (st1 := []) d_Ru_tellTo_48 k_Ru_tellParts tw_402 tw_403 rfl (Nat.le_of_ble_eq_true rfl) rfl (Nat.le_of_ble_eq_true rfl) rfl rfl (c_Ru_tellParts15_44 l g _ L (ew_w M 44 0 (sp_tc ρ (sp_mix (M 44 0) (nI (sp_cc ρ))) 0)) (r_bn ρ) (by have := hr.1.2.2.1; omega)) rfl ?_
  refine en_eq (M' := ew_w M 44 0 (sp_tR ρ (M 44 0))) rfl rfl (by rw [ew_ww, ew_w_ne (by decide), ew_w_at, sp_tp_tb (ρ := ρ) hr.2.2.2.2.2]; unfold sp_tR; rw [hk]) ?_
  exact ew_ret d_Ru_tellTo_51 rfl (⟨rfl, rfl, rfl⟩)
set_option maxRecDepth 100000 in
theorem c_Ru_tellTo1_44 (l : Launch) (g : ew_G) (d L : Nat) (M : ew_M) (ρ : sp_R) (hr : sp_ru ρ M) (hk : sp_cc ρ = 1) :
    Ew l g (d + 4) 0 0 m_Ru_tellTo 0 [.ref 10, .ref 44, .retAddr 0, .retAddr 0] [] (ew_SH L) M (ew_q (none) (ew_SH L) (ew_w M 44 0 (sp_tR ρ (M 44 0)))) := by
  refine ew_aload_n d_Ru_tellTo_0 rfl ?_
  refine en_callV (As := []) (i := 10) (ci := 2) (st := []) (st1 := [.int (nI (sp_cc ρ))]) d_Ru_tellTo_1 k_Ru_constraintCount rfl rfl tw_358 tw_360 tp_7 rfl (Nat.le_of_ble_eq_true rfl) rfl (Nat.le_of_ble_eq_true rfl) rfl rfl (c_Ru_constraintCount l g _ L M ρ (hr)) rfl ?_
  refine en_eq (st' := [.int (nI 1)]) rfl (by rw [show (nI (sp_cc ρ)) = (nI 1) from by rw [hk]]) rfl ?_
  refine en_istore_n (ls' := [.ref 10, .ref 44, .int (nI 1), .retAddr 0]) d_Ru_tellTo_4 (Nat.le_of_ble_eq_true rfl) rfl ?_
  refine ew_aload_n d_Ru_tellTo_5 rfl ?_
  refine ew_iload_n d_Ru_tellTo_6 rfl ?_
  refine en_callV (As := [.int (nI 1)]) (i := 44) (ci := 7) (st := []) (st1 := []) d_Ru_tellTo_7 k_Tk_tell rfl rfl tw_397 tw_398 tw_399 rfl (Nat.le_of_ble_eq_true rfl) rfl (Nat.le_of_ble_eq_true rfl) rfl rfl (c_Tk_tell_44 l g _ L M (nI 1)) rfl ?_
  refine en_eq (M' := ew_w M 44 0 (sp_tc ρ (sp_mix (M 44 0) (nI (sp_cc ρ))) 0)) rfl rfl (by rw [hk]; rfl) ?_
  refine ew_iconst (v := nI 0) d_Ru_tellTo_10 (by decide) ?_
  refine en_istore_n (ls' := [.ref 10, .ref 44, .int (nI 1), .int (nI 0)]) d_Ru_tellTo_11 (Nat.le_of_ble_eq_true rfl) rfl ?_
  refine ew_iload_n d_Ru_tellTo_12 rfl ?_
  refine ew_iload_n d_Ru_tellTo_13 rfl ?_
  refine en_icmp_ge (tgt := 39) d_Ru_tellTo_14 (by decide) (by decide) (by decide) (fun h14 => by exact absurd h14 (by decide)) (fun h14 => ?_)
  refine ew_aload_n d_Ru_tellTo_17 rfl ?_
  refine ew_aload_n d_Ru_tellTo_18 rfl ?_
  refine ew_getr (ci := 2) (f := 2) d_Ru_tellTo_19 rfl rfl rfl tw_71 ?_
  refine ew_iload_n d_Ru_tellTo_22 rfl ?_
  refine ew_aald (j := 0) d_Ru_tellTo_23 rfl (by decide) rfl rfl (by decide) ?_
  refine ew_aload_n d_Ru_tellTo_24 rfl ?_
  refine ew_getr (ci := 2) (f := 1) d_Ru_tellTo_25 rfl rfl rfl tw_70 ?_
  refine ew_iload_n d_Ru_tellTo_28 rfl ?_
  refine ew_iald (j := 0) d_Ru_tellTo_29 rfl (rfl) (by decide) (by decide) ?_
  refine en_eq (st' := [.int (nI (r_cn ρ 0)), .ref 13, .ref 44]) rfl (by rw [show ((ew_w M 44 0 (sp_tc ρ (sp_mix (M 44 0) (nI (sp_cc ρ))) 0)) 11 0) = (nI (r_cn ρ 0)) from by rw [ew_w_ne (by decide)]; exact hr.2.1 0 (by decide)]) rfl ?_
  refine en_callS (As := [.ref 44, .ref 13, .int (nI (r_cn ρ 0))]) (st := []) (st1 := []) d_Ru_tellTo_30 k_Ru_tellParts tw_402 tw_403 rfl (Nat.le_of_ble_eq_true rfl) rfl (Nat.le_of_ble_eq_true rfl) rfl rfl (c_Ru_tellParts13_44 l g _ L (ew_w M 44 0 (sp_tc ρ (sp_mix (M 44 0) (nI (sp_cc ρ))) 0)) (r_cn ρ 0) (by have := hr.1.1 0 (by decide); have := hr.1.1 1 (by decide); omega)) rfl ?_
  refine en_eq (M' := ew_w M 44 0 (sp_tc ρ (sp_mix (M 44 0) (nI (sp_cc ρ))) 1)) rfl rfl (by rw [ew_ww, ew_w_ne (by decide), ew_w_at, sp_tp_tl (ρ := ρ) (c := 0) (hr.2.2.1)]; rfl) ?_
  refine en_inc (ls' := [.ref 10, .ref 44, .int (nI 1), .int (nI 1)]) d_Ru_tellTo_33 rfl rfl ?_
  refine ew_goto (tgt := 12) d_Ru_tellTo_36 (by decide) ?_
  refine ew_iload_n d_Ru_tellTo_12 rfl ?_
  refine ew_iload_n d_Ru_tellTo_13 rfl ?_
  refine en_icmp_ge (tgt := 39) d_Ru_tellTo_14 (by decide) (by decide) (by decide) (fun h14 => ?_) (fun h14 => by exact absurd h14 (by decide))
  refine ew_aload_n d_Ru_tellTo_39 rfl ?_
  refine ew_aload_n d_Ru_tellTo_40 rfl ?_
  refine ew_getr (ci := 2) (f := 3) d_Ru_tellTo_41 rfl rfl rfl tw_72 ?_
  refine ew_aload_n d_Ru_tellTo_44 rfl ?_
  refine ew_geti (ci := 2) (f := 4) d_Ru_tellTo_45 rfl rfl rfl tw_73 ?_
  refine en_eq (st' := [.int (nI (r_bn ρ)), .ref 15, .ref 44]) rfl (by rw [show ((ew_w M 44 0 (sp_tc ρ (sp_mix (M 44 0) (nI (sp_cc ρ))) 1)) 10 4) = (nI (r_bn ρ)) from by rw [ew_w_ne (by decide)]; exact hr.2.2.2.2.1]) rfl ?_
  refine en_callS (As := [.ref 44, .ref 15, .int (nI (r_bn ρ))]) (st := []) (st1 := []) d_Ru_tellTo_48 k_Ru_tellParts tw_402 tw_403 rfl (Nat.le_of_ble_eq_true rfl) rfl (Nat.le_of_ble_eq_true rfl) rfl rfl (c_Ru_tellParts15_44 l g _ L (ew_w M 44 0 (sp_tc ρ (sp_mix (M 44 0) (nI (sp_cc ρ))) 1)) (r_bn ρ) (by have := hr.1.2.2.1; omega)) rfl ?_
  refine en_eq (M' := ew_w M 44 0 (sp_tR ρ (M 44 0))) rfl rfl (by rw [ew_ww, ew_w_ne (by decide), ew_w_at, sp_tp_tb (ρ := ρ) hr.2.2.2.2.2]; unfold sp_tR; rw [hk]) ?_
  exact ew_ret d_Ru_tellTo_51 rfl (⟨rfl, rfl, rfl⟩)
set_option maxRecDepth 100000 in
theorem c_Ru_tellTo2_44 (l : Launch) (g : ew_G) (d L : Nat) (M : ew_M) (ρ : sp_R) (hr : sp_ru ρ M) (hk : sp_cc ρ = 2) :
    Ew l g (d + 4) 0 0 m_Ru_tellTo 0 [.ref 10, .ref 44, .retAddr 0, .retAddr 0] [] (ew_SH L) M (ew_q (none) (ew_SH L) (ew_w M 44 0 (sp_tR ρ (M 44 0)))) := by
  refine ew_aload_n d_Ru_tellTo_0 rfl ?_
  refine en_callV (As := []) (i := 10) (ci := 2) (st := []) (st1 := [.int (nI (sp_cc ρ))]) d_Ru_tellTo_1 k_Ru_constraintCount rfl rfl tw_358 tw_360 tp_7 rfl (Nat.le_of_ble_eq_true rfl) rfl (Nat.le_of_ble_eq_true rfl) rfl rfl (c_Ru_constraintCount l g _ L M ρ (hr)) rfl ?_
  refine en_eq (st' := [.int (nI 2)]) rfl (by rw [show (nI (sp_cc ρ)) = (nI 2) from by rw [hk]]) rfl ?_
  refine en_istore_n (ls' := [.ref 10, .ref 44, .int (nI 2), .retAddr 0]) d_Ru_tellTo_4 (Nat.le_of_ble_eq_true rfl) rfl ?_
  refine ew_aload_n d_Ru_tellTo_5 rfl ?_
  refine ew_iload_n d_Ru_tellTo_6 rfl ?_
  refine en_callV (As := [.int (nI 2)]) (i := 44) (ci := 7) (st := []) (st1 := []) d_Ru_tellTo_7 k_Tk_tell rfl rfl tw_397 tw_398 tw_399 rfl (Nat.le_of_ble_eq_true rfl) rfl (Nat.le_of_ble_eq_true rfl) rfl rfl (c_Tk_tell_44 l g _ L M (nI 2)) rfl ?_
  refine en_eq (M' := ew_w M 44 0 (sp_tc ρ (sp_mix (M 44 0) (nI (sp_cc ρ))) 0)) rfl rfl (by rw [hk]; rfl) ?_
  refine ew_iconst (v := nI 0) d_Ru_tellTo_10 (by decide) ?_
  refine en_istore_n (ls' := [.ref 10, .ref 44, .int (nI 2), .int (nI 0)]) d_Ru_tellTo_11 (Nat.le_of_ble_eq_true rfl) rfl ?_
  refine ew_iload_n d_Ru_tellTo_12 rfl ?_
  refine ew_iload_n d_Ru_tellTo_13 rfl ?_
  refine en_icmp_ge (tgt := 39) d_Ru_tellTo_14 (by decide) (by decide) (by decide) (fun h14 => by exact absurd h14 (by decide)) (fun h14 => ?_)
  refine ew_aload_n d_Ru_tellTo_17 rfl ?_
  refine ew_aload_n d_Ru_tellTo_18 rfl ?_
  refine ew_getr (ci := 2) (f := 2) d_Ru_tellTo_19 rfl rfl rfl tw_71 ?_
  refine ew_iload_n d_Ru_tellTo_22 rfl ?_
  refine ew_aald (j := 0) d_Ru_tellTo_23 rfl (by decide) rfl rfl (by decide) ?_
  refine ew_aload_n d_Ru_tellTo_24 rfl ?_
  refine ew_getr (ci := 2) (f := 1) d_Ru_tellTo_25 rfl rfl rfl tw_70 ?_
  refine ew_iload_n d_Ru_tellTo_28 rfl ?_
  refine ew_iald (j := 0) d_Ru_tellTo_29 rfl (rfl) (by decide) (by decide) ?_
  refine en_eq (st' := [.int (nI (r_cn ρ 0)), .ref 13, .ref 44]) rfl (by rw [show ((ew_w M 44 0 (sp_tc ρ (sp_mix (M 44 0) (nI (sp_cc ρ))) 0)) 11 0) = (nI (r_cn ρ 0)) from by rw [ew_w_ne (by decide)]; exact hr.2.1 0 (by decide)]) rfl ?_
  refine en_callS (As := [.ref 44, .ref 13, .int (nI (r_cn ρ 0))]) (st := []) (st1 := []) d_Ru_tellTo_30 k_Ru_tellParts tw_402 tw_403 rfl (Nat.le_of_ble_eq_true rfl) rfl (Nat.le_of_ble_eq_true rfl) rfl rfl (c_Ru_tellParts13_44 l g _ L (ew_w M 44 0 (sp_tc ρ (sp_mix (M 44 0) (nI (sp_cc ρ))) 0)) (r_cn ρ 0) (by have := hr.1.1 0 (by decide); have := hr.1.1 1 (by decide); omega)) rfl ?_
  refine en_eq (M' := ew_w M 44 0 (sp_tc ρ (sp_mix (M 44 0) (nI (sp_cc ρ))) 1)) rfl rfl (by rw [ew_ww, ew_w_ne (by decide), ew_w_at, sp_tp_tl (ρ := ρ) (c := 0) (hr.2.2.1)]; rfl) ?_
  refine en_inc (ls' := [.ref 10, .ref 44, .int (nI 2), .int (nI 1)]) d_Ru_tellTo_33 rfl rfl ?_
  refine ew_goto (tgt := 12) d_Ru_tellTo_36 (by decide) ?_
  refine ew_iload_n d_Ru_tellTo_12 rfl ?_
  refine ew_iload_n d_Ru_tellTo_13 rfl ?_
  refine en_icmp_ge (tgt := 39) d_Ru_tellTo_14 (by decide) (by decide) (by decide) (fun h14 => by exact absurd h14 (by decide)) (fun h14 => ?_)
  refine ew_aload_n d_Ru_tellTo_17 rfl ?_
  refine ew_aload_n d_Ru_tellTo_18 rfl ?_
  refine ew_getr (ci := 2) (f := 2) d_Ru_tellTo_19 rfl rfl rfl tw_71 ?_
  refine ew_iload_n d_Ru_tellTo_22 rfl ?_
  refine ew_aald (j := 1) d_Ru_tellTo_23 rfl (by decide) rfl rfl (by decide) ?_
  refine ew_aload_n d_Ru_tellTo_24 rfl ?_
  refine ew_getr (ci := 2) (f := 1) d_Ru_tellTo_25 rfl rfl rfl tw_70 ?_
  refine ew_iload_n d_Ru_tellTo_28 rfl ?_
  refine ew_iald (j := 1) d_Ru_tellTo_29 rfl (rfl) (by decide) (by decide) ?_
  refine en_eq (st' := [.int (nI (r_cn ρ 1)), .ref 14, .ref 44]) rfl (by rw [show ((ew_w M 44 0 (sp_tc ρ (sp_mix (M 44 0) (nI (sp_cc ρ))) 1)) 11 1) = (nI (r_cn ρ 1)) from by rw [ew_w_ne (by decide)]; exact hr.2.1 1 (by decide)]) rfl ?_
  refine en_callS (As := [.ref 44, .ref 14, .int (nI (r_cn ρ 1))]) (st := []) (st1 := []) d_Ru_tellTo_30 k_Ru_tellParts tw_402 tw_403 rfl (Nat.le_of_ble_eq_true rfl) rfl (Nat.le_of_ble_eq_true rfl) rfl rfl (c_Ru_tellParts14_44 l g _ L (ew_w M 44 0 (sp_tc ρ (sp_mix (M 44 0) (nI (sp_cc ρ))) 1)) (r_cn ρ 1) (by have := hr.1.1 0 (by decide); have := hr.1.1 1 (by decide); omega)) rfl ?_
  refine en_eq (M' := ew_w M 44 0 (sp_tc ρ (sp_mix (M 44 0) (nI (sp_cc ρ))) 2)) rfl rfl (by rw [ew_ww, ew_w_ne (by decide), ew_w_at, sp_tp_tl (ρ := ρ) (c := 1) (hr.2.2.2.1)]; rfl) ?_
  refine en_inc (ls' := [.ref 10, .ref 44, .int (nI 2), .int (nI 2)]) d_Ru_tellTo_33 rfl rfl ?_
  refine ew_goto (tgt := 12) d_Ru_tellTo_36 (by decide) ?_
  refine ew_iload_n d_Ru_tellTo_12 rfl ?_
  refine ew_iload_n d_Ru_tellTo_13 rfl ?_
  refine en_icmp_ge (tgt := 39) d_Ru_tellTo_14 (by decide) (by decide) (by decide) (fun h14 => ?_) (fun h14 => by exact absurd h14 (by decide))
  refine ew_aload_n d_Ru_tellTo_39 rfl ?_
  refine ew_aload_n d_Ru_tellTo_40 rfl ?_
  refine ew_getr (ci := 2) (f := 3) d_Ru_tellTo_41 rfl rfl rfl tw_72 ?_
  refine ew_aload_n d_Ru_tellTo_44 rfl ?_
  refine ew_geti (ci := 2) (f := 4) d_Ru_tellTo_45 rfl rfl rfl tw_73 ?_
  refine en_eq (st' := [.int (nI (r_bn ρ)), .ref 15, .ref 44]) rfl (by rw [show ((ew_w M 44 0 (sp_tc ρ (sp_mix (M 44 0) (nI (sp_cc ρ))) 2)) 10 4) = (nI (r_bn ρ)) from by rw [ew_w_ne (by decide)]; exact hr.2.2.2.2.1]) rfl ?_
  refine en_callS (As := [.ref 44, .ref 15, .int (nI (r_bn ρ))]) (st := []) (st1 := []) d_Ru_tellTo_48 k_Ru_tellParts tw_402 tw_403 rfl (Nat.le_of_ble_eq_true rfl) rfl (Nat.le_of_ble_eq_true rfl) rfl rfl (c_Ru_tellParts15_44 l g _ L (ew_w M 44 0 (sp_tc ρ (sp_mix (M 44 0) (nI (sp_cc ρ))) 2)) (r_bn ρ) (by have := hr.1.2.2.1; omega)) rfl ?_
  refine en_eq (M' := ew_w M 44 0 (sp_tR ρ (M 44 0))) rfl rfl (by rw [ew_ww, ew_w_ne (by decide), ew_w_at, sp_tp_tb (ρ := ρ) hr.2.2.2.2.2]; unfold sp_tR; rw [hk]) ?_
  exact ew_ret d_Ru_tellTo_51 rfl (⟨rfl, rfl, rfl⟩)
theorem c_Ru_tellTo_44 (l : Launch) (g : ew_G) (d L : Nat) (M : ew_M) (ρ : sp_R) (hr : sp_ru ρ M) : Ew l g (d + 4) 0 0 m_Ru_tellTo 0 [.ref 10, .ref 44, .retAddr 0, .retAddr 0] [] (ew_SH L) M (ew_q none (ew_SH L) (ew_w M 44 0 (sp_tR ρ (M 44 0)))) := by
  have h := sp_cc_le ρ
  rcases (show sp_cc ρ = 0 ∨ sp_cc ρ = 1 ∨ sp_cc ρ = 2 by omega) with hk | hk | hk
  · exact c_Ru_tellTo0_44 l g d L M ρ hr hk
  · exact c_Ru_tellTo1_44 l g d L M ρ hr hk
  · exact c_Ru_tellTo2_44 l g d L M ρ hr hk
set_option maxRecDepth 100000 in
theorem c_Tk_begin_44 (l : Launch) (g : ew_G) (d L : Nat) (M : ew_M) (ρ : sp_R) (hr : sp_ru ρ M) (x : Int32) :
    Ew l g (d + 5) 0 0 m_Tk_begin 0 [.ref 44, .ref 10, .int x] [] (ew_SH L) M (ew_q (none) (ew_SH L) (ew_w (ew_w M 44 0 (sp_mix (sp_mix (sp_tR ρ (nI 1)) x) (-7))) 44 1 (nI (sp_ch (sp_mix (sp_mix (sp_tR ρ (nI 1)) x) (-7)))))) := by
  refine ew_aload_n d_Tk_begin_0 rfl ?_
  refine ew_iconst (v := nI 1) d_Tk_begin_1 (by decide) ?_
  refine ew_puti (ci := 7) (f := 0) (ty := .int) d_Tk_begin_2 rfl (by decide) rfl rfl rfl (by decide +kernel) rfl rfl tw_127 ?_
  refine ew_aload_n d_Tk_begin_5 rfl ?_
  refine ew_aload_n d_Tk_begin_6 rfl ?_
  refine en_callV (As := [.ref 44]) (i := 10) (ci := 2) (st := []) (st1 := []) d_Tk_begin_7 k_Ru_tellTo rfl rfl tw_393 tw_394 tw_395 rfl (Nat.le_of_ble_eq_true rfl) rfl (Nat.le_of_ble_eq_true rfl) rfl rfl (c_Ru_tellTo_44 l g _ L (ew_w M 44 0 (nI 1)) ρ (sp_ru_w hr (by decide))) rfl ?_
  refine en_eq (M' := ew_w M 44 0 (sp_tR ρ (nI 1))) rfl rfl (by rw [ew_ww, ew_w_at]) ?_
  refine ew_aload_n d_Tk_begin_10 rfl ?_
  refine ew_iload_n d_Tk_begin_11 rfl ?_
  refine en_callV (As := [.int x]) (i := 44) (ci := 7) (st := []) (st1 := []) d_Tk_begin_12 k_Tk_tell rfl rfl tw_405 tw_398 tw_399 rfl (Nat.le_of_ble_eq_true rfl) rfl (Nat.le_of_ble_eq_true rfl) rfl rfl (c_Tk_tell_44 l g _ L (ew_w M 44 0 (sp_tR ρ (nI 1))) x) rfl ?_
  refine en_eq (M' := ew_w M 44 0 (sp_mix (sp_tR ρ (nI 1)) x)) rfl rfl (by rw [ew_ww, ew_w_at]) ?_
  refine ew_aload_n d_Tk_begin_15 rfl ?_
  refine ew_aload_n d_Tk_begin_16 rfl ?_
  refine en_callV (As := []) (i := 44) (ci := 7) (st := [.ref 44]) (st1 := [.int (nI (sp_ch (sp_mix ((ew_w M 44 0 (sp_mix (sp_tR ρ (nI 1)) x)) 44 0) (-7)))), .ref 44]) d_Tk_begin_17 k_Tk_challenge rfl rfl tw_406 tw_408 tp_9 rfl (Nat.le_of_ble_eq_true rfl) rfl (Nat.le_of_ble_eq_true rfl) rfl rfl (c_Tk_challenge_44 l g _ L (ew_w M 44 0 (sp_mix (sp_tR ρ (nI 1)) x))) rfl ?_
  refine en_eq (st' := [.int (nI (sp_ch (sp_mix (sp_mix (sp_tR ρ (nI 1)) x) (-7)))), .ref 44]) rfl (by rw [show (nI (sp_ch (sp_mix ((ew_w M 44 0 (sp_mix (sp_tR ρ (nI 1)) x)) 44 0) (-7)))) = (nI (sp_ch (sp_mix (sp_mix (sp_tR ρ (nI 1)) x) (-7)))) from by rw [ew_w_at]]) rfl ?_
  refine en_eq (M' := ew_w M 44 0 (sp_mix (sp_mix (sp_tR ρ (nI 1)) x) (-7))) rfl rfl (by rw [ew_ww, ew_w_at]) ?_
  refine ew_puti (ci := 7) (f := 1) (ty := .int) d_Tk_begin_20 rfl (by decide) rfl rfl rfl (by decide +kernel) rfl rfl tw_129 ?_
  exact ew_ret d_Tk_begin_23 rfl (⟨rfl, rfl, rfl⟩)
def sp_ce (ce : Nat → Nat → Nat) (M : ew_M) : Prop := (∀ r, r < 8 → M 19 r = nI (ce 0 r) ∧ ce 0 r < 12289) ∧ ∀ r, r < 8 → M 20 r = nI (ce 1 r) ∧ ce 1 r < 12289
def sp_row (ce : Nat → Nat → Nat) (r : Nat) : Nat → Nat := sp_le (ce 0 r) (ce 1 r) (ce 0 (r + 1)) (ce 1 (r + 1))
def sp_sb (ρ : sp_R) (ce : Nat → Nat → Nat) (r : Nat) : Bool := decide (sp_ts ρ 0 (sp_row ce r) (r_cn ρ 0) ≠ 0 ∨ sp_ts ρ 1 (sp_row ce r) (r_cn ρ 1) ≠ 0)
def sp_ba (ρ : sp_R) (ce : Nat → Nat → Nat) (r : Nat) : Nat → Bool
  | 0 => false
  | b + 1 => sp_ba ρ ce r b || decide (r_br ρ b = r ∧ ce (r_bc ρ b) r ≠ r_bv ρ b)
theorem sp_ba_mono {ρ : sp_R} {ce : Nat → Nat → Nat} {r b : Nat} (h : sp_ba ρ ce r b = true) : ∀ n, sp_ba ρ ce r (b + n) = true
  | 0 => h
  | n + 1 => by
    show (sp_ba ρ ce r (b + n) || _) = true
    rw [sp_ba_mono h n]
    rfl
def sp_wr (ρ : sp_R) (ce : Nat → Nat → Nat) (r : Nat) : Bool := (decide (r < 7) && sp_sb ρ ce r) || sp_ba ρ ce r (r_bn ρ)
theorem c_Ta_getc (l : Launch) (g : ew_G) (d L : Nat) (M : ew_M) (ce : Nat → Nat → Nat) (hc : sp_ce ce M) (c r : Nat) (h1 : c < 2) (h2 : r < 8) : Ew l g d 0 0 m_Ta_get 0 [.ref 17, .int (nI c), .int (nI r)] [] (ew_SH L) M (ew_q (some (.int (nI (ce c r)))) (ew_SH L) M) := by
  rcases (show c = 0 ∨ c = 1 by omega) with rfl | rfl
  · rw [← (hc.1 r h2).1]
    exact c_Ta_get0 l g d L M r h2
  · rw [← (hc.2 r h2).1]
    exact c_Ta_get1 l g d L M r h2
theorem sp_ce_lt {ce : Nat → Nat → Nat} {M : ew_M} (hc : sp_ce ce M) {c r : Nat} (h1 : c < 2) (h2 : r < 8) : ce c r < 12289 := by
  rcases (show c = 0 ∨ c = 1 by omega) with rfl | rfl
  · exact (hc.1 r h2).2
  · exact (hc.2 r h2).2
theorem sp_ce_of {ce : Nat → Nat → Nat} {M M' : ew_M} (h : sp_ce ce M) (h1 : M' 19 = M 19) (h2 : M' 20 = M 20) : sp_ce ce M' := by
  unfold sp_ce at h ⊢
  rw [h1, h2]
  exact h
def sp_rdr (M : ew_M) (k : Nat) (ce : Nat → Nat → Nat) (r : Nat) : ew_M := sp_rd M k (nI (ce 0 r)) (nI (ce 1 r)) (nI (ce 0 (r + 1))) (nI (ce 1 (r + 1)))
set_option maxRecDepth 100000 in
theorem c_Ru_isStepBroken (l : Launch) (g : ew_G) (d L : Nat) (M : ew_M) (ρ : sp_R) (hr : sp_ru ρ M) (ce : Nat → Nat → Nat) (hc : sp_ce ce M) (h0 : M 16 0 = nI 1) (r : Nat) (h7 : r < 7) :
    Ew l g (d + 2) 0 0 m_Ru_isStepBroken 0 [.ref 10, .ref 17, .int (nI r), .retAddr 0] [] (ew_SH L) M (ew_q (some (.int (ew_b (sp_sb ρ ce r)))) (ew_SH L) (sp_rdr M 16 ce r)) := by
  refine ew_aload_n d_Ru_isStepBroken_0 rfl ?_
  refine ew_aload_n d_Ru_isStepBroken_1 rfl ?_
  refine ew_iconst (v := nI 0) d_Ru_isStepBroken_2 (by decide) ?_
  refine ew_iload_n d_Ru_isStepBroken_3 rfl ?_
  refine en_callV (As := [.int (nI 0), .int (nI r)]) (i := 17) (ci := 3) (st := [.ref 10]) (st1 := [.int (nI (ce 0 r)), .ref 10]) d_Ru_isStepBroken_4 k_Ta_get rfl rfl tw_323 tw_290 tw_291 rfl (Nat.le_of_ble_eq_true rfl) rfl (Nat.le_of_ble_eq_true rfl) rfl rfl (c_Ta_getc l g _ L M ce (hc) 0 r (by omega) (by omega)) rfl ?_
  refine ew_aload_n d_Ru_isStepBroken_7 rfl ?_
  refine ew_iconst (v := nI 1) d_Ru_isStepBroken_8 (by decide) ?_
  refine ew_iload_n d_Ru_isStepBroken_9 rfl ?_
  refine en_callV (As := [.int (nI 1), .int (nI r)]) (i := 17) (ci := 3) (st := [.int (nI (ce 0 r)), .ref 10]) (st1 := [.int (nI (ce 1 r)), .int (nI (ce 0 r)), .ref 10]) d_Ru_isStepBroken_10 k_Ta_get rfl rfl tw_323 tw_290 tw_291 rfl (Nat.le_of_ble_eq_true rfl) rfl (Nat.le_of_ble_eq_true rfl) rfl rfl (c_Ta_getc l g _ L M ce (hc) 1 r (by omega) (by omega)) rfl ?_
  refine ew_aload_n d_Ru_isStepBroken_13 rfl ?_
  refine ew_iconst (v := nI 0) d_Ru_isStepBroken_14 (by decide) ?_
  refine ew_iload_n d_Ru_isStepBroken_15 rfl ?_
  refine ew_iconst (v := nI 1) d_Ru_isStepBroken_16 (by decide) ?_
  refine en_iadd d_Ru_isStepBroken_17 ?_
  refine en_callV (As := [.int (nI 0), .int (nI (r + 1))]) (i := 17) (ci := 3) (st := [.int (nI (ce 1 r)), .int (nI (ce 0 r)), .ref 10]) (st1 := [.int (nI (ce 0 (r + 1))), .int (nI (ce 1 r)), .int (nI (ce 0 r)), .ref 10]) d_Ru_isStepBroken_18 k_Ta_get rfl rfl tw_323 tw_290 tw_291 rfl (Nat.le_of_ble_eq_true rfl) rfl (Nat.le_of_ble_eq_true rfl) rfl rfl (c_Ta_getc l g _ L M ce (hc) 0 (r + 1) (by omega) (by omega)) rfl ?_
  refine ew_aload_n d_Ru_isStepBroken_21 rfl ?_
  refine ew_iconst (v := nI 1) d_Ru_isStepBroken_22 (by decide) ?_
  refine ew_iload_n d_Ru_isStepBroken_23 rfl ?_
  refine ew_iconst (v := nI 1) d_Ru_isStepBroken_24 (by decide) ?_
  refine en_iadd d_Ru_isStepBroken_25 ?_
  refine en_callV (As := [.int (nI 1), .int (nI (r + 1))]) (i := 17) (ci := 3) (st := [.int (nI (ce 0 (r + 1))), .int (nI (ce 1 r)), .int (nI (ce 0 r)), .ref 10]) (st1 := [.int (nI (ce 1 (r + 1))), .int (nI (ce 0 (r + 1))), .int (nI (ce 1 r)), .int (nI (ce 0 r)), .ref 10]) d_Ru_isStepBroken_26 k_Ta_get rfl rfl tw_323 tw_290 tw_291 rfl (Nat.le_of_ble_eq_true rfl) rfl (Nat.le_of_ble_eq_true rfl) rfl rfl (c_Ta_getc l g _ L M ce (hc) 1 (r + 1) (by omega) (by omega)) rfl ?_
  refine en_callV (As := [.int (nI (ce 0 r)), .int (nI (ce 1 r)), .int (nI (ce 0 (r + 1))), .int (nI (ce 1 (r + 1)))]) (i := 10) (ci := 2) (st := []) (st1 := []) d_Ru_isStepBroken_29 k_Ru_read rfl rfl tw_324 tw_325 tw_326 rfl (Nat.le_of_ble_eq_true rfl) rfl (Nat.le_of_ble_eq_true rfl) rfl rfl (c_Ru_read l g _ L M (nI (ce 0 r)) (nI (ce 1 r)) (nI (ce 0 (r + 1))) (nI (ce 1 (r + 1)))) rfl ?_
  refine en_eq (M' := sp_rdr M 16 ce r) rfl rfl (rfl) ?_
  refine ew_iconst (v := nI 0) d_Ru_isStepBroken_32 (by decide) ?_
  refine en_istore_n (ls' := [.ref 10, .ref 17, .int (nI r), .int (nI 0)]) d_Ru_isStepBroken_33 (Nat.le_of_ble_eq_true rfl) rfl ?_
  refine ew_iload_n d_Ru_isStepBroken_34 rfl ?_
  refine ew_iconst (v := nI 2) d_Ru_isStepBroken_35 (by decide) ?_
  refine en_icmp_ge (tgt := 55) d_Ru_isStepBroken_36 (by decide) (by decide) (by decide) (fun h36 => by exact absurd h36 (by decide)) (fun h36 => ?_)
  refine ew_aload_n d_Ru_isStepBroken_39 rfl ?_
  refine ew_iload_n d_Ru_isStepBroken_40 rfl ?_
  refine en_callV (As := [.int (nI 0)]) (i := 10) (ci := 2) (st := []) (st1 := [.int (nI (sp_ts ρ 0 (sp_row ce r) (r_cn ρ 0)))]) d_Ru_isStepBroken_41 k_Ru_termSum rfl rfl tw_328 tw_330 tp_2 rfl (Nat.le_of_ble_eq_true rfl) rfl (Nat.le_of_ble_eq_true rfl) rfl rfl (c_Ru_termSum0 l g _ L (sp_rdr M 16 ce r) ρ (sp_ru_of hr (sp_rd_ne (by decide)) (sp_rd_ne (by decide)) (sp_rd_ne (by decide)) (sp_rd_ne (by decide)) (sp_rd_ne (by decide))) (sp_row ce r) (sp_rd_le h0 (sp_ce_lt hc (by decide) (by omega)) (sp_ce_lt hc (by decide) (by omega)) (sp_ce_lt hc (by decide) (by omega)) (sp_ce_lt hc (by decide) (by omega)))) rfl ?_
  refine en_if_eq (tgt := 49) d_Ru_isStepBroken_44 (by decide) (Nat.lt_trans (sp_ts_lt _ _ _ _) (by decide)) (fun h44 => ?_) (fun h44 => ?_)
  · have h44a := h44
    refine en_inc (ls' := [.ref 10, .ref 17, .int (nI r), .int (nI 1)]) d_Ru_isStepBroken_49 rfl rfl ?_
    refine ew_goto (tgt := 34) d_Ru_isStepBroken_52 (by decide) ?_
    refine ew_iload_n d_Ru_isStepBroken_34 rfl ?_
    refine ew_iconst (v := nI 2) d_Ru_isStepBroken_35 (by decide) ?_
    refine en_icmp_ge (tgt := 55) d_Ru_isStepBroken_36 (by decide) (by decide) (by decide) (fun h36 => by exact absurd h36 (by decide)) (fun h36 => ?_)
    refine ew_aload_n d_Ru_isStepBroken_39 rfl ?_
    refine ew_iload_n d_Ru_isStepBroken_40 rfl ?_
    refine en_callV (As := [.int (nI 1)]) (i := 10) (ci := 2) (st := []) (st1 := [.int (nI (sp_ts ρ 1 (sp_row ce r) (r_cn ρ 1)))]) d_Ru_isStepBroken_41 k_Ru_termSum rfl rfl tw_328 tw_330 tp_2 rfl (Nat.le_of_ble_eq_true rfl) rfl (Nat.le_of_ble_eq_true rfl) rfl rfl (c_Ru_termSum1 l g _ L (sp_rdr M 16 ce r) ρ (sp_ru_of hr (sp_rd_ne (by decide)) (sp_rd_ne (by decide)) (sp_rd_ne (by decide)) (sp_rd_ne (by decide)) (sp_rd_ne (by decide))) (sp_row ce r) (sp_rd_le h0 (sp_ce_lt hc (by decide) (by omega)) (sp_ce_lt hc (by decide) (by omega)) (sp_ce_lt hc (by decide) (by omega)) (sp_ce_lt hc (by decide) (by omega)))) rfl ?_
    refine en_if_eq (tgt := 49) d_Ru_isStepBroken_44 (by decide) (Nat.lt_trans (sp_ts_lt _ _ _ _) (by decide)) (fun h44 => ?_) (fun h44 => ?_)
    · have h44a := h44
      refine en_inc (ls' := [.ref 10, .ref 17, .int (nI r), .int (nI 2)]) d_Ru_isStepBroken_49 rfl rfl ?_
      refine ew_goto (tgt := 34) d_Ru_isStepBroken_52 (by decide) ?_
      refine ew_iload_n d_Ru_isStepBroken_34 rfl ?_
      refine ew_iconst (v := nI 2) d_Ru_isStepBroken_35 (by decide) ?_
      refine en_icmp_ge (tgt := 55) d_Ru_isStepBroken_36 (by decide) (by decide) (by decide) (fun h36 => ?_) (fun h36 => by exact absurd h36 (by decide))
      refine ew_iconst (v := nI 0) d_Ru_isStepBroken_55 (by decide) ?_
      exact ew_zret d_Ru_isStepBroken_56 rfl (by decide) (⟨by rw [show sp_sb ρ ce r = false from decide_eq_false (by rintro (q | q) <;> (apply q; assumption))]; rfl, rfl, rfl⟩)
    · refine ew_iconst (v := nI 1) d_Ru_isStepBroken_47 (by decide) ?_
      exact ew_zret d_Ru_isStepBroken_48 rfl (by decide) (⟨by rw [show sp_sb ρ ce r = true from decide_eq_true (by first | exact Or.inl h44 | exact Or.inr h44)]; rfl, rfl, rfl⟩)
  · refine ew_iconst (v := nI 1) d_Ru_isStepBroken_47 (by decide) ?_
    exact ew_zret d_Ru_isStepBroken_48 rfl (by decide) (⟨by rw [show sp_sb ρ ce r = true from decide_eq_true (by first | exact Or.inl h44 | exact Or.inr h44)]; rfl, rfl, rfl⟩)
set_option maxRecDepth 100000 in
theorem lp_Ru_isBoundBroken (l : Launch) (g : ew_G) (d L : Nat) (M : ew_M) (ρ : sp_R) (hr : sp_ru ρ M) (ce : Nat → Nat → Nat) (hc : sp_ce ce M) (r : Nat) (h8 : r < 8) : ∀ (fu b : Nat), r_bn ρ - b < fu → b ≤ r_bn ρ → sp_ba ρ ce r b = false → Ew l g (d + 1) 0 0 m_Ru_isBoundBroken 2 [.ref 10, .ref 17, .int (nI r), .int (nI b)] [] (ew_SH L) M (ew_q (some (.int (ew_b (sp_ba ρ ce r (r_bn ρ))))) (ew_SH L) M) := by
  intro fu
  induction fu with
  | zero =>
    intro b  hn
    exact absurd hn (Nat.not_lt_zero _)
  | succ fu ih =>
    intro b  hn hle hz
    refine ew_iload_n d_Ru_isBoundBroken_2 rfl ?_
    refine ew_aload_n d_Ru_isBoundBroken_3 rfl ?_
    refine ew_geti (ci := 2) (f := 4) d_Ru_isBoundBroken_4 rfl rfl rfl tw_73 ?_
    refine en_eq (st' := [.int (nI (r_bn ρ)), .int (nI b)]) rfl (by rw [show (M 10 4) = (nI (r_bn ρ)) from hr.2.2.2.2.1]) rfl ?_
    refine en_icmp_ge (tgt := 45) d_Ru_isBoundBroken_7 (by decide) (by have := hr.1.2.2.1; omega) (by have := hr.1.2.2.1; omega) (fun h7 => ?_) (fun h7 => ?_)
    · refine ew_iconst (v := nI 0) d_Ru_isBoundBroken_45 (by decide) ?_
      exact ew_zret d_Ru_isBoundBroken_46 rfl (by decide) (⟨by rw [show r_bn ρ = b by omega, hz]; rfl, rfl, rfl⟩)
    · refine ew_aload_n d_Ru_isBoundBroken_10 rfl ?_
      refine ew_iload_n d_Ru_isBoundBroken_11 rfl ?_
      refine en_callV (As := [.int (nI b)]) (i := 10) (ci := 2) (st := []) (st1 := [.int (nI (r_br ρ b))]) d_Ru_isBoundBroken_12 k_Ru_boundRow rfl rfl tw_338 tw_340 tp_4 rfl (Nat.le_of_ble_eq_true rfl) rfl (Nat.le_of_ble_eq_true rfl) rfl rfl (c_Ru_boundRow l g _ L M ρ (hr) b (by first | with_reducible assumption | with_reducible exact ep_lt _ | with_reducible exact sp_its_lt _ _ _ | with_reducible exact tb_l_rt _ | with_reducible exact tb_l_x _ | with_reducible exact tb_l_o0 _ | with_reducible exact tb_l_o1 _ | with_reducible exact tb_l_va _ | with_reducible exact tb_l_ll _ | with_reducible exact tb_l_cf _ | with_reducible exact tb_l_kf _ | with_reducible exact sp_ts_lt _ _ _ _ | with_reducible exact sp_w_lt _ _ | with_reducible exact sp_cs_lt _ _ _ _ _ | with_reducible exact sp_cb_lt _ _ _ _ _ | with_reducible exact sp_ch_lt _ | with_reducible exact sp_bf_lt _ _ | omega)) rfl ?_
      refine ew_iload_n d_Ru_isBoundBroken_15 rfl ?_
      refine en_icmp_ne (tgt := 39) d_Ru_isBoundBroken_16 (by decide) (by have := (hr.1.2.2.2 b h7).2.1; omega) (by have := (hr.1.2.2.2 b h7).2.1; omega) (fun h16 => ?_) (fun h16 => ?_)
      · refine en_inc (ls' := [.ref 10, .ref 17, .int (nI r), .int (nI (b + 1))]) d_Ru_isBoundBroken_39 rfl rfl ?_
        refine ew_goto (tgt := 2) d_Ru_isBoundBroken_42 (by decide) ?_
        refine ih (b + 1) (by omega) (by omega) ?_
        show (sp_ba ρ ce r b || _) = false
        rw [hz, show decide (r_br ρ b = r ∧ ce (r_bc ρ b) r ≠ r_bv ρ b) = false from decide_eq_false (by first | exact fun q => h16 q.1 | exact fun q => q.2 h34)]
        rfl
      · refine ew_aload_n d_Ru_isBoundBroken_19 rfl ?_
        refine ew_aload_n d_Ru_isBoundBroken_20 rfl ?_
        refine ew_iload_n d_Ru_isBoundBroken_21 rfl ?_
        refine en_callV (As := [.int (nI b)]) (i := 10) (ci := 2) (st := [.ref 17]) (st1 := [.int (nI (r_bc ρ b)), .ref 17]) d_Ru_isBoundBroken_22 k_Ru_boundColumn rfl rfl tw_342 tw_344 tp_5 rfl (Nat.le_of_ble_eq_true rfl) rfl (Nat.le_of_ble_eq_true rfl) rfl rfl (c_Ru_boundColumn l g _ L M ρ (hr) b (by first | with_reducible assumption | with_reducible exact ep_lt _ | with_reducible exact sp_its_lt _ _ _ | with_reducible exact tb_l_rt _ | with_reducible exact tb_l_x _ | with_reducible exact tb_l_o0 _ | with_reducible exact tb_l_o1 _ | with_reducible exact tb_l_va _ | with_reducible exact tb_l_ll _ | with_reducible exact tb_l_cf _ | with_reducible exact tb_l_kf _ | with_reducible exact sp_ts_lt _ _ _ _ | with_reducible exact sp_w_lt _ _ | with_reducible exact sp_cs_lt _ _ _ _ _ | with_reducible exact sp_cb_lt _ _ _ _ _ | with_reducible exact sp_ch_lt _ | with_reducible exact sp_bf_lt _ _ | omega)) rfl ?_
        refine ew_iload_n d_Ru_isBoundBroken_25 rfl ?_
        refine en_callV (As := [.int (nI (r_bc ρ b)), .int (nI r)]) (i := 17) (ci := 3) (st := []) (st1 := [.int (nI (ce (r_bc ρ b) r))]) d_Ru_isBoundBroken_26 k_Ta_get rfl rfl tw_323 tw_290 tw_291 rfl (Nat.le_of_ble_eq_true rfl) rfl (Nat.le_of_ble_eq_true rfl) rfl rfl (c_Ta_getc l g _ L M ce (hc) (r_bc ρ b) r ((hr.1.2.2.2 b h7).1) (by omega)) rfl ?_
        refine ew_aload_n d_Ru_isBoundBroken_29 rfl ?_
        refine ew_iload_n d_Ru_isBoundBroken_30 rfl ?_
        refine en_callV (As := [.int (nI b)]) (i := 10) (ci := 2) (st := [.int (nI (ce (r_bc ρ b) r))]) (st1 := [.int (nI (r_bv ρ b)), .int (nI (ce (r_bc ρ b) r))]) d_Ru_isBoundBroken_31 k_Ru_boundValue rfl rfl tw_346 tw_348 tp_6 rfl (Nat.le_of_ble_eq_true rfl) rfl (Nat.le_of_ble_eq_true rfl) rfl rfl (c_Ru_boundValue l g _ L M ρ (hr) b (by first | with_reducible assumption | with_reducible exact ep_lt _ | with_reducible exact sp_its_lt _ _ _ | with_reducible exact tb_l_rt _ | with_reducible exact tb_l_x _ | with_reducible exact tb_l_o0 _ | with_reducible exact tb_l_o1 _ | with_reducible exact tb_l_va _ | with_reducible exact tb_l_ll _ | with_reducible exact tb_l_cf _ | with_reducible exact tb_l_kf _ | with_reducible exact sp_ts_lt _ _ _ _ | with_reducible exact sp_w_lt _ _ | with_reducible exact sp_cs_lt _ _ _ _ _ | with_reducible exact sp_cb_lt _ _ _ _ _ | with_reducible exact sp_ch_lt _ | with_reducible exact sp_bf_lt _ _ | omega)) rfl ?_
        refine en_icmp_eq (tgt := 39) d_Ru_isBoundBroken_34 (by decide) (by first | exact Nat.lt_trans (hr.1.2.2.2 b h7).2.2 (by decide) | exact Nat.lt_trans (sp_ce_lt hc (hr.1.2.2.2 b h7).1 h8) (by decide)) (by first | exact Nat.lt_trans (hr.1.2.2.2 b h7).2.2 (by decide) | exact Nat.lt_trans (sp_ce_lt hc (hr.1.2.2.2 b h7).1 h8) (by decide)) (fun h34 => ?_) (fun h34 => ?_)
        · refine en_inc (ls' := [.ref 10, .ref 17, .int (nI r), .int (nI (b + 1))]) d_Ru_isBoundBroken_39 rfl rfl ?_
          refine ew_goto (tgt := 2) d_Ru_isBoundBroken_42 (by decide) ?_
          refine ih (b + 1) (by omega) (by omega) ?_
          show (sp_ba ρ ce r b || _) = false
          rw [hz, show decide (r_br ρ b = r ∧ ce (r_bc ρ b) r ≠ r_bv ρ b) = false from decide_eq_false (by first | exact fun q => h16 q.1 | exact fun q => q.2 h34)]
          rfl
        · refine ew_iconst (v := nI 1) d_Ru_isBoundBroken_37 (by decide) ?_
          exact ew_zret d_Ru_isBoundBroken_38 rfl (by decide) (⟨by rw [show sp_ba ρ ce r (r_bn ρ) = true from by (rw [show r_bn ρ = (b + 1) + (r_bn ρ - (b + 1)) by omega]; exact sp_ba_mono (by show (sp_ba ρ ce r b || _) = true; rw [show decide (r_br ρ b = r ∧ ce (r_bc ρ b) r ≠ r_bv ρ b) = true from decide_eq_true ⟨h16, h34⟩, Bool.or_true]) _)]; rfl, rfl, rfl⟩)
set_option maxRecDepth 100000 in
theorem c_Ru_isBoundBroken (l : Launch) (g : ew_G) (d L : Nat) (M : ew_M) (ρ : sp_R) (hr : sp_ru ρ M) (ce : Nat → Nat → Nat) (hc : sp_ce ce M) (r : Nat) (h8 : r < 8) :
    Ew l g (d + 1) 0 0 m_Ru_isBoundBroken 0 [.ref 10, .ref 17, .int (nI r), .retAddr 0] [] (ew_SH L) M (ew_q (some (.int (ew_b (sp_ba ρ ce r (r_bn ρ))))) (ew_SH L) M) := by
  refine ew_iconst (v := nI 0) d_Ru_isBoundBroken_0 (by decide) ?_
  refine en_istore_n (ls' := [.ref 10, .ref 17, .int (nI r), .int (nI 0)]) d_Ru_isBoundBroken_1 (Nat.le_of_ble_eq_true rfl) rfl ?_
  exact lp_Ru_isBoundBroken l g d L M ρ hr ce hc r h8 (r_bn ρ + 1) 0 (by omega) (by omega) rfl
