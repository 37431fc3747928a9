def up1 (f : Nat → Nat) (i x : Nat) : Nat → Nat := fun j => if j = i then x else f j
def up2 (f : Nat → Nat → Nat) (i j x : Nat) : Nat → Nat → Nat := fun a b => if a = i ∧ b = j then x else f a b
def sp_addT (ρ : sp_R) (c k u v : Nat) : sp_R := (up1 (r_cn ρ) c (r_cn ρ c + 1), up2 (r_tk ρ) c (r_cn ρ c) k, up2 (r_tu ρ) c (r_cn ρ c) u, up2 (r_tv ρ) c (r_cn ρ c) v, r_bn ρ, r_bc ρ, r_br ρ, r_bv ρ)
def sp_addB (ρ : sp_R) (c r v : Nat) : sp_R := (r_cn ρ, r_tk ρ, r_tu ρ, r_tv ρ, r_bn ρ + 1, up1 (r_bc ρ) (r_bn ρ) c, up1 (r_br ρ) (r_bn ρ) r, up1 (r_bv ρ) (r_bn ρ) v)
def sp_clr (ρ : sp_R) : sp_R := (fun _ => 0, r_tk ρ, r_tu ρ, r_tv ρ, 0, r_bc ρ, r_br ρ, r_bv ρ)
theorem sp_okR_addT {ρ : sp_R} (h : sp_okR ρ) {c k u v : Nat} (hc : c < 2) (hn : r_cn ρ c < 6) (hk : k < 12289) (hu : u < 5) (hv : v < 5) : sp_okR (sp_addT ρ c k u v) := by
  obtain ⟨h1, h2, h3, h4⟩ := h
  refine ⟨fun a ha => ?_, fun a t ha ht => ?_, h3, h4⟩
  · show up1 (r_cn ρ) c (r_cn ρ c + 1) a ≤ 6
    unfold up1
    split
    · omega
    · exact h1 a ha
  · show up2 (r_tk ρ) c (r_cn ρ c) k a t < 12289 ∧ up2 (r_tu ρ) c (r_cn ρ c) u a t < 5 ∧ up2 (r_tv ρ) c (r_cn ρ c) v a t < 5
    have ht' : t < up1 (r_cn ρ) c (r_cn ρ c + 1) a := ht
    unfold up2
    by_cases e : a = c ∧ t = r_cn ρ c
    · rw [if_pos e, if_pos e, if_pos e]
      exact ⟨hk, hu, hv⟩
    · rw [if_neg e, if_neg e, if_neg e]
      refine h2 a t ha ?_
      unfold up1 at ht'
      split at ht'
      · rename_i ea
        subst ea
        have : t ≠ r_cn ρ a := fun q => e ⟨rfl, q⟩
        omega
      · exact ht'
theorem sp_okR_addB {ρ : sp_R} (h : sp_okR ρ) {c r v : Nat} (hc : c < 2) (hn : r_bn ρ < 4) (hr : r < 8) (hv : v < 12289) : sp_okR (sp_addB ρ c r v) := by
  obtain ⟨h1, h2, h3, h4⟩ := h
  refine ⟨h1, h2, ?_, fun b hb => ?_⟩
  · show r_bn ρ + 1 ≤ 4
    omega
  · show up1 (r_bc ρ) (r_bn ρ) c b < 2 ∧ up1 (r_br ρ) (r_bn ρ) r b < 8 ∧ up1 (r_bv ρ) (r_bn ρ) v b < 12289
    have hb' : b < r_bn ρ + 1 := hb
    unfold up1
    by_cases e : b = r_bn ρ
    · rw [if_pos e, if_pos e, if_pos e]
      exact ⟨hc, hr, hv⟩
    · rw [if_neg e, if_neg e, if_neg e]
      exact h4 b (by omega)
theorem sp_okR_clr {ρ : sp_R} : sp_okR (sp_clr ρ) := ⟨fun _ _ => Nat.zero_le _, fun _ t _ ht => absurd ht (Nat.not_lt_zero _), Nat.zero_le _, fun b hb => absurd hb (Nat.not_lt_zero _)⟩
set_option maxRecDepth 100000 in
theorem c_Ru_addTermF0 (l : Launch) (g : ew_G) (d L : Nat) (M : ew_M) (ρ : sp_R) (hr : sp_ru ρ M) (h6 : r_cn ρ 0 = 6) (k u v : Nat) :
    Ew l g (d + 1) 0 0 m_Ru_addTerm 0 [.ref 10, .int (nI 0), .int (nI k), .int (nI u), .int (nI v)] [] (ew_SH L) M (ew_q (some (.int (-3))) (ew_SH L) M) := by
  refine ew_aload_n d_Ru_addTerm_0 rfl ?_
  refine ew_getr (ci := 2) (f := 1) d_Ru_addTerm_1 rfl rfl rfl tw_70 ?_
  refine ew_iload_n d_Ru_addTerm_4 rfl ?_
  refine ew_iald (j := 0) d_Ru_addTerm_5 rfl (rfl) (by decide) (by decide) ?_
  refine en_eq (st' := [.int (nI (r_cn ρ 0))]) rfl (by rw [show (M 11 0) = (nI (r_cn ρ 0)) from hr.2.1 0 (by decide)]) rfl ?_
  refine ew_bipush (v := nI 6) d_Ru_addTerm_6 (by decide) ?_
  refine en_icmp_lt (tgt := 14) d_Ru_addTerm_8 (by decide) (by omega) (by omega) (fun h8 => by exact absurd h8 (by omega)) (fun h8 => ?_)
  refine ew_bipush (v := -3) d_Ru_addTerm_11 (by decide) ?_
  exact ew_iret d_Ru_addTerm_13 rfl (⟨rfl, rfl, rfl⟩)
set_option maxRecDepth 100000 in
theorem c_Ru_addTerm0 (l : Launch) (g : ew_G) (d L : Nat) (M : ew_M) (ρ : sp_R) (hr : sp_ru ρ M) (h6 : r_cn ρ 0 < 6) (k u v : Nat) :
    Ew l g (d + 1) 0 0 m_Ru_addTerm 0 [.ref 10, .int (nI 0), .int (nI k), .int (nI u), .int (nI v)] [] (ew_SH L) M (ew_q (some (.int (nI (r_cn ρ 0 + 1)))) (ew_SH L) (ew_w (ew_w (ew_w (ew_w M 13 (3 * r_cn ρ 0) (nI k)) 13 (3 * r_cn ρ 0 + 1) (nI u)) 13 (3 * r_cn ρ 0 + 2) (nI v)) 11 0 (nI (r_cn ρ 0 + 1)))) := by
  refine ew_aload_n d_Ru_addTerm_0 rfl ?_
  refine ew_getr (ci := 2) (f := 1) d_Ru_addTerm_1 rfl rfl rfl tw_70 ?_
  refine ew_iload_n d_Ru_addTerm_4 rfl ?_
  refine ew_iald (j := 0) d_Ru_addTerm_5 rfl (rfl) (by decide) (by decide) ?_
  refine en_eq (st' := [.int (nI (r_cn ρ 0))]) rfl (by rw [show (M 11 0) = (nI (r_cn ρ 0)) from hr.2.1 0 (by decide)]) rfl ?_
  refine ew_bipush (v := nI 6) d_Ru_addTerm_6 (by decide) ?_
  refine en_icmp_lt (tgt := 14) d_Ru_addTerm_8 (by decide) (by omega) (by omega) (fun h8 => ?_) (fun h8 => by exact absurd h8 (by omega))
  refine ew_aload_n d_Ru_addTerm_14 rfl ?_
  refine ew_getr (ci := 2) (f := 2) d_Ru_addTerm_15 rfl rfl rfl tw_71 ?_
  refine ew_iload_n d_Ru_addTerm_18 rfl ?_
  refine ew_aald (j := 0) d_Ru_addTerm_19 rfl (by decide) rfl rfl (by decide) ?_
  refine ew_aload_n d_Ru_addTerm_20 rfl ?_
  refine ew_getr (ci := 2) (f := 1) d_Ru_addTerm_21 rfl rfl rfl tw_70 ?_
  refine ew_iload_n d_Ru_addTerm_24 rfl ?_
  refine ew_iald (j := 0) d_Ru_addTerm_25 rfl (rfl) (by decide) (by decide) ?_
  refine en_eq (st' := [.int (nI (r_cn ρ 0)), .ref 13]) rfl (by rw [show (M 11 0) = (nI (r_cn ρ 0)) from hr.2.1 0 (by decide)]) rfl ?_
  refine ew_iload_n d_Ru_addTerm_26 rfl ?_
  refine ew_iload_n d_Ru_addTerm_27 rfl ?_
  refine ew_iload d_Ru_addTerm_28 rfl ?_
  refine en_callS (As := [.ref 13, .int (nI (r_cn ρ 0)), .int (nI k), .int (nI u), .int (nI v)]) (st := []) (st1 := []) d_Ru_addTerm_30 k_Ru_write tw_255 tw_256 rfl (Nat.le_of_ble_eq_true rfl) rfl (Nat.le_of_ble_eq_true rfl) rfl rfl (c_Ru_write13 l g _ L M (r_cn ρ 0) (nI k) (nI u) (nI v) (by omega)) rfl ?_
  refine ew_aload_n d_Ru_addTerm_33 rfl ?_
  refine ew_getr (ci := 2) (f := 1) d_Ru_addTerm_34 rfl rfl rfl tw_70 ?_
  refine ew_iload_n d_Ru_addTerm_37 rfl ?_
  refine ew_dup2 d_Ru_addTerm_38 ?_
  refine ew_iald (j := 0) d_Ru_addTerm_39 rfl (rfl) (by decide) (by decide) ?_
  refine en_eq (st' := [.int (nI (r_cn ρ 0)), .int (nI 0), .ref 11]) rfl (by rw [show ((ew_w (ew_w (ew_w M 13 (3 * (r_cn ρ 0)) (nI k)) 13 (3 * (r_cn ρ 0) + 1) (nI u)) 13 (3 * (r_cn ρ 0) + 2) (nI v)) 11 0) = (nI (r_cn ρ 0)) from by (rw [ew_w_ne (by decide), ew_w_ne (by decide), ew_w_ne (by decide)]; exact hr.2.1 0 (by decide))]) rfl ?_
  refine ew_iconst (v := nI 1) d_Ru_addTerm_40 (by decide) ?_
  refine en_iadd d_Ru_addTerm_41 ?_
  refine ew_iast (j := 0) d_Ru_addTerm_42 rfl (by decide) (rfl) (by decide) (by decide) ?_
  refine ew_aload_n d_Ru_addTerm_43 rfl ?_
  refine ew_getr (ci := 2) (f := 1) d_Ru_addTerm_44 rfl rfl rfl tw_70 ?_
  refine ew_iload_n d_Ru_addTerm_47 rfl ?_
  refine ew_iald (j := 0) d_Ru_addTerm_48 rfl (rfl) (by decide) (by decide) ?_
  refine en_eq (st' := [.int (nI (r_cn ρ 0 + 1))]) rfl (by rw [show ((ew_w (ew_w (ew_w (ew_w M 13 (3 * (r_cn ρ 0)) (nI k)) 13 (3 * (r_cn ρ 0) + 1) (nI u)) 13 (3 * (r_cn ρ 0) + 2) (nI v)) 11 0 (nI ((r_cn ρ 0) + 1))) 11 0) = (nI (r_cn ρ 0 + 1)) from ew_w_at]) rfl ?_
  exact ew_iret d_Ru_addTerm_49 rfl (⟨rfl, rfl, rfl⟩)
theorem sp_ru_addT0 {ρ : sp_R} {M : ew_M} (h : sp_ru ρ M) {k u v : Nat} (hn : r_cn ρ 0 < 6) (hk : k < 12289) (hu : u < 5) (hv : v < 5) : sp_ru (sp_addT ρ 0 k u v) (ew_w (ew_w (ew_w (ew_w M 13 (3 * r_cn ρ 0) (nI k)) 13 (3 * r_cn ρ 0 + 1) (nI u)) 13 (3 * r_cn ρ 0 + 2) (nI v)) 11 0 (nI (r_cn ρ 0 + 1))) := by
  obtain ⟨h0, h1, h2, h3, h4, h5⟩ := h
  refine ⟨sp_okR_addT h0 (by decide) hn hk hu hv, fun a ha => ?_, fun t ht => ?_, fun t ht => ?_, ?_, fun b hb => ?_⟩
  · show _ = nI (up1 (r_cn ρ) 0 (r_cn ρ 0 + 1) a)
    unfold up1
    by_cases e : a = 0
    · rw [if_pos e, e]
      exact ew_w_at
    · rw [if_neg e, ew_w_j e, ew_w_ne (by decide), ew_w_ne (by decide), ew_w_ne (by decide)]
      exact h1 a ha
  · show _ = nI (up2 (r_tk ρ) 0 (r_cn ρ 0) k 0 t) ∧ _ = nI (up2 (r_tu ρ) 0 (r_cn ρ 0) u 0 t) ∧ _ = nI (up2 (r_tv ρ) 0 (r_cn ρ 0) v 0 t)
    have ht' : t < r_cn ρ 0 + 1 := ht
    rw [ew_w_ne (by decide)]
    unfold up2
    by_cases e : t = r_cn ρ 0
    · subst e
      rw [if_pos ⟨rfl, rfl⟩, if_pos ⟨rfl, rfl⟩, if_pos ⟨rfl, rfl⟩]
      refine ⟨?_, ?_, ew_w_at⟩
      · rw [ew_w_j (by omega), ew_w_j (by omega)]
        exact ew_w_at
      · rw [ew_w_j (by omega)]
        exact ew_w_at
    · rw [if_neg (fun q => e q.2), if_neg (fun q => e q.2), if_neg (fun q => e q.2)]
      rw [ew_w_j (by omega), ew_w_j (by omega), ew_w_j (by omega), ew_w_j (by omega), ew_w_j (by omega), ew_w_j (by omega), ew_w_j (by omega), ew_w_j (by omega), ew_w_j (by omega)]
      exact h2 t (by omega)
  · show _ = nI (up2 (r_tk ρ) 0 (r_cn ρ 0) k 1 t) ∧ _ = nI (up2 (r_tu ρ) 0 (r_cn ρ 0) u 1 t) ∧ _ = nI (up2 (r_tv ρ) 0 (r_cn ρ 0) v 1 t)
    have ht' : t < up1 (r_cn ρ) 0 (r_cn ρ 0 + 1) 1 := ht
    rw [ew_w_ne (by decide), ew_w_ne (by decide), ew_w_ne (by decide), ew_w_ne (by decide)]
    unfold up2
    rw [if_neg (fun q => absurd q.1 (by decide)), if_neg (fun q => absurd q.1 (by decide)), if_neg (fun q => absurd q.1 (by decide))]
    exact h3 t ht'
  · rw [ew_w_ne (by decide), ew_w_ne (by decide), ew_w_ne (by decide), ew_w_ne (by decide)]
    exact h4
  · rw [ew_w_ne (by decide), ew_w_ne (by decide), ew_w_ne (by decide), ew_w_ne (by decide)]
    exact h5 b hb
set_option maxRecDepth 100000 in
theorem c_Ru_addTermF1 (l : Launch) (g : ew_G) (d L : Nat) (M : ew_M) (ρ : sp_R) (hr : sp_ru ρ M) (h6 : r_cn ρ 1 = 6) (k u v : Nat) :
    Ew l g (d + 1) 0 0 m_Ru_addTerm 0 [.ref 10, .int (nI 1), .int (nI k), .int (nI u), .int (nI v)] [] (ew_SH L) M (ew_q (some (.int (-3))) (ew_SH L) M) := by
  refine ew_aload_n d_Ru_addTerm_0 rfl ?_
  refine ew_getr (ci := 2) (f := 1) d_Ru_addTerm_1 rfl rfl rfl tw_70 ?_
  refine ew_iload_n d_Ru_addTerm_4 rfl ?_
  refine ew_iald (j := 1) d_Ru_addTerm_5 rfl (rfl) (by decide) (by decide) ?_
  refine en_eq (st' := [.int (nI (r_cn ρ 1))]) rfl (by rw [show (M 11 1) = (nI (r_cn ρ 1)) from hr.2.1 1 (by decide)]) rfl ?_
  refine ew_bipush (v := nI 6) d_Ru_addTerm_6 (by decide) ?_
  refine en_icmp_lt (tgt := 14) d_Ru_addTerm_8 (by decide) (by omega) (by omega) (fun h8 => by exact absurd h8 (by omega)) (fun h8 => ?_)
  refine ew_bipush (v := -3) d_Ru_addTerm_11 (by decide) ?_
  exact ew_iret d_Ru_addTerm_13 rfl (⟨rfl, rfl, rfl⟩)
set_option maxRecDepth 100000 in
theorem c_Ru_addTerm1 (l : Launch) (g : ew_G) (d L : Nat) (M : ew_M) (ρ : sp_R) (hr : sp_ru ρ M) (h6 : r_cn ρ 1 < 6) (k u v : Nat) :
    Ew l g (d + 1) 0 0 m_Ru_addTerm 0 [.ref 10, .int (nI 1), .int (nI k), .int (nI u), .int (nI v)] [] (ew_SH L) M (ew_q (some (.int (nI (r_cn ρ 1 + 1)))) (ew_SH L) (ew_w (ew_w (ew_w (ew_w M 14 (3 * r_cn ρ 1) (nI k)) 14 (3 * r_cn ρ 1 + 1) (nI u)) 14 (3 * r_cn ρ 1 + 2) (nI v)) 11 1 (nI (r_cn ρ 1 + 1)))) := by
  refine ew_aload_n d_Ru_addTerm_0 rfl ?_
  refine ew_getr (ci := 2) (f := 1) d_Ru_addTerm_1 rfl rfl rfl tw_70 ?_
  refine ew_iload_n d_Ru_addTerm_4 rfl ?_
  refine ew_iald (j := 1) d_Ru_addTerm_5 rfl (rfl) (by decide) (by decide) ?_
  refine en_eq (st' := [.int (nI (r_cn ρ 1))]) rfl (by rw [show (M 11 1) = (nI (r_cn ρ 1)) from hr.2.1 1 (by decide)]) rfl ?_
  refine ew_bipush (v := nI 6) d_Ru_addTerm_6 (by decide) ?_
  refine en_icmp_lt (tgt := 14) d_Ru_addTerm_8 (by decide) (by omega) (by omega) (fun h8 => ?_) (fun h8 => by exact absurd h8 (by omega))
  refine ew_aload_n d_Ru_addTerm_14 rfl ?_
  refine ew_getr (ci := 2) (f := 2) d_Ru_addTerm_15 rfl rfl rfl tw_71 ?_
  refine ew_iload_n d_Ru_addTerm_18 rfl ?_
  refine ew_aald (j := 1) d_Ru_addTerm_19 rfl (by decide) rfl rfl (by decide) ?_
  refine ew_aload_n d_Ru_addTerm_20 rfl ?_
  refine ew_getr (ci := 2) (f := 1) d_Ru_addTerm_21 rfl rfl rfl tw_70 ?_
  refine ew_iload_n d_Ru_addTerm_24 rfl ?_
  refine ew_iald (j := 1) d_Ru_addTerm_25 rfl (rfl) (by decide) (by decide) ?_
  refine en_eq (st' := [.int (nI (r_cn ρ 1)), .ref 14]) rfl (by rw [show (M 11 1) = (nI (r_cn ρ 1)) from hr.2.1 1 (by decide)]) rfl ?_
  refine ew_iload_n d_Ru_addTerm_26 rfl ?_
  refine ew_iload_n d_Ru_addTerm_27 rfl ?_
  refine ew_iload d_Ru_addTerm_28 rfl ?_
  refine en_callS (As := [.ref 14, .int (nI (r_cn ρ 1)), .int (nI k), .int (nI u), .int (nI v)]) (st := []) (st1 := []) d_Ru_addTerm_30 k_Ru_write tw_255 tw_256 rfl (Nat.le_of_ble_eq_true rfl) rfl (Nat.le_of_ble_eq_true rfl) rfl rfl (c_Ru_write14 l g _ L M (r_cn ρ 1) (nI k) (nI u) (nI v) (by omega)) rfl ?_
  refine ew_aload_n d_Ru_addTerm_33 rfl ?_
  refine ew_getr (ci := 2) (f := 1) d_Ru_addTerm_34 rfl rfl rfl tw_70 ?_
  refine ew_iload_n d_Ru_addTerm_37 rfl ?_
  refine ew_dup2 d_Ru_addTerm_38 ?_
  refine ew_iald (j := 1) d_Ru_addTerm_39 rfl (rfl) (by decide) (by decide) ?_
  refine en_eq (st' := [.int (nI (r_cn ρ 1)), .int (nI 1), .ref 11]) rfl (by rw [show ((ew_w (ew_w (ew_w M 14 (3 * (r_cn ρ 1)) (nI k)) 14 (3 * (r_cn ρ 1) + 1) (nI u)) 14 (3 * (r_cn ρ 1) + 2) (nI v)) 11 1) = (nI (r_cn ρ 1)) from by (rw [ew_w_ne (by decide), ew_w_ne (by decide), ew_w_ne (by decide)]; exact hr.2.1 1 (by decide))]) rfl ?_
  refine ew_iconst (v := nI 1) d_Ru_addTerm_40 (by decide) ?_
  refine en_iadd d_Ru_addTerm_41 ?_
  refine ew_iast (j := 1) d_Ru_addTerm_42 rfl (by decide) (rfl) (by decide) (by decide) ?_
  refine ew_aload_n d_Ru_addTerm_43 rfl ?_
  refine ew_getr (ci := 2) (f := 1) d_Ru_addTerm_44 rfl rfl rfl tw_70 ?_
  refine ew_iload_n d_Ru_addTerm_47 rfl ?_
  refine ew_iald (j := 1) d_Ru_addTerm_48 rfl (rfl) (by decide) (by decide) ?_
  refine en_eq (st' := [.int (nI (r_cn ρ 1 + 1))]) rfl (by rw [show ((ew_w (ew_w (ew_w (ew_w M 14 (3 * (r_cn ρ 1)) (nI k)) 14 (3 * (r_cn ρ 1) + 1) (nI u)) 14 (3 * (r_cn ρ 1) + 2) (nI v)) 11 1 (nI ((r_cn ρ 1) + 1))) 11 1) = (nI (r_cn ρ 1 + 1)) from ew_w_at]) rfl ?_
  exact ew_iret d_Ru_addTerm_49 rfl (⟨rfl, rfl, rfl⟩)
theorem sp_ru_addT1 {ρ : sp_R} {M : ew_M} (h : sp_ru ρ M) {k u v : Nat} (hn : r_cn ρ 1 < 6) (hk : k < 12289) (hu : u < 5) (hv : v < 5) : sp_ru (sp_addT ρ 1 k u v) (ew_w (ew_w (ew_w (ew_w M 14 (3 * r_cn ρ 1) (nI k)) 14 (3 * r_cn ρ 1 + 1) (nI u)) 14 (3 * r_cn ρ 1 + 2) (nI v)) 11 1 (nI (r_cn ρ 1 + 1))) := by
  obtain ⟨h0, h1, h2, h3, h4, h5⟩ := h
  refine ⟨sp_okR_addT h0 (by decide) hn hk hu hv, fun a ha => ?_, fun t ht => ?_, fun t ht => ?_, ?_, fun b hb => ?_⟩
  · show _ = nI (up1 (r_cn ρ) 1 (r_cn ρ 1 + 1) a)
    unfold up1
    by_cases e : a = 1
    · rw [if_pos e, e]
      exact ew_w_at
    · rw [if_neg e, ew_w_j e, ew_w_ne (by decide), ew_w_ne (by decide), ew_w_ne (by decide)]
      exact h1 a ha
  · show _ = nI (up2 (r_tk ρ) 1 (r_cn ρ 1) k 0 t) ∧ _ = nI (up2 (r_tu ρ) 1 (r_cn ρ 1) u 0 t) ∧ _ = nI (up2 (r_tv ρ) 1 (r_cn ρ 1) v 0 t)
    have ht' : t < up1 (r_cn ρ) 1 (r_cn ρ 1 + 1) 0 := ht
    rw [ew_w_ne (by decide), ew_w_ne (by decide), ew_w_ne (by decide), ew_w_ne (by decide)]
    unfold up2
    rw [if_neg (fun q => absurd q.1 (by decide)), if_neg (fun q => absurd q.1 (by decide)), if_neg (fun q => absurd q.1 (by decide))]
    exact h2 t ht'
  · show _ = nI (up2 (r_tk ρ) 1 (r_cn ρ 1) k 1 t) ∧ _ = nI (up2 (r_tu ρ) 1 (r_cn ρ 1) u 1 t) ∧ _ = nI (up2 (r_tv ρ) 1 (r_cn ρ 1) v 1 t)
    have ht' : t < r_cn ρ 1 + 1 := ht
    rw [ew_w_ne (by decide)]
    unfold up2
    by_cases e : t = r_cn ρ 1
    · subst e
      rw [if_pos ⟨rfl, rfl⟩, if_pos ⟨rfl, rfl⟩, if_pos ⟨rfl, rfl⟩]
      refine ⟨?_, ?_, ew_w_at⟩
      · rw [ew_w_j (by omega), ew_w_j (by omega)]
        exact ew_w_at
      · rw [ew_w_j (by omega)]
        exact ew_w_at
    · rw [if_neg (fun q => e q.2), if_neg (fun q => e q.2), if_neg (fun q => e q.2)]
      rw [ew_w_j (by omega), ew_w_j (by omega), ew_w_j (by omega), ew_w_j (by omega), ew_w_j (by omega), ew_w_j (by omega), ew_w_j (by omega), ew_w_j (by omega), ew_w_j (by omega)]
      exact h3 t (by omega)
  · rw [ew_w_ne (by decide), ew_w_ne (by decide), ew_w_ne (by decide), ew_w_ne (by decide)]
    exact h4
  · rw [ew_w_ne (by decide), ew_w_ne (by decide), ew_w_ne (by decide), ew_w_ne (by decide)]
    exact h5 b hb
set_option maxRecDepth 100000 in
theorem c_Ru_addBoundF (l : Launch) (g : ew_G) (d L : Nat) (M : ew_M) (ρ : sp_R) (hr : sp_ru ρ M) (h4 : r_bn ρ = 4) (c r v : Nat) :
    Ew l g (d + 1) 0 0 m_Ru_addBound 0 [.ref 10, .int (nI c), .int (nI r), .int (nI v)] [] (ew_SH L) M (ew_q (some (.int (-3))) (ew_SH L) M) := by
  refine ew_aload_n d_Ru_addBound_0 rfl ?_
  refine ew_geti (ci := 2) (f := 4) d_Ru_addBound_1 rfl rfl rfl tw_73 ?_
  refine en_eq (st' := [.int (nI (r_bn ρ))]) rfl (by rw [show (M 10 4) = (nI (r_bn ρ)) from hr.2.2.2.2.1]) rfl ?_
  refine ew_iconst (v := nI 4) d_Ru_addBound_4 (by decide) ?_
  refine en_icmp_lt (tgt := 11) d_Ru_addBound_5 (by decide) (by omega) (by omega) (fun h5 => by exact absurd h5 (by omega)) (fun h5 => ?_)
  refine ew_bipush (v := -3) d_Ru_addBound_8 (by decide) ?_
  exact ew_iret d_Ru_addBound_10 rfl (⟨rfl, rfl, rfl⟩)
set_option maxRecDepth 100000 in
theorem c_Ru_addBound (l : Launch) (g : ew_G) (d L : Nat) (M : ew_M) (ρ : sp_R) (hr : sp_ru ρ M) (h4 : r_bn ρ < 4) (c r v : Nat) :
    Ew l g (d + 1) 0 0 m_Ru_addBound 0 [.ref 10, .int (nI c), .int (nI r), .int (nI v)] [] (ew_SH L) M (ew_q (some (.int (nI (r_bn ρ + 1)))) (ew_SH L) (ew_w (ew_w (ew_w (ew_w M 15 (3 * r_bn ρ) (nI c)) 15 (3 * r_bn ρ + 1) (nI r)) 15 (3 * r_bn ρ + 2) (nI v)) 10 4 (nI (r_bn ρ + 1)))) := by
  refine ew_aload_n d_Ru_addBound_0 rfl ?_
  refine ew_geti (ci := 2) (f := 4) d_Ru_addBound_1 rfl rfl rfl tw_73 ?_
  refine en_eq (st' := [.int (nI (r_bn ρ))]) rfl (by rw [show (M 10 4) = (nI (r_bn ρ)) from hr.2.2.2.2.1]) rfl ?_
  refine ew_iconst (v := nI 4) d_Ru_addBound_4 (by decide) ?_
  refine en_icmp_lt (tgt := 11) d_Ru_addBound_5 (by decide) (by omega) (by omega) (fun h5 => ?_) (fun h5 => by exact absurd h5 (by omega))
  refine ew_aload_n d_Ru_addBound_11 rfl ?_
  refine ew_getr (ci := 2) (f := 3) d_Ru_addBound_12 rfl rfl rfl tw_72 ?_
  refine ew_aload_n d_Ru_addBound_15 rfl ?_
  refine ew_geti (ci := 2) (f := 4) d_Ru_addBound_16 rfl rfl rfl tw_73 ?_
  refine en_eq (st' := [.int (nI (r_bn ρ)), .ref 15]) rfl (by rw [show (M 10 4) = (nI (r_bn ρ)) from hr.2.2.2.2.1]) rfl ?_
  refine ew_iload_n d_Ru_addBound_19 rfl ?_
  refine ew_iload_n d_Ru_addBound_20 rfl ?_
  refine ew_iload_n d_Ru_addBound_21 rfl ?_
  refine en_callS (As := [.ref 15, .int (nI (r_bn ρ)), .int (nI c), .int (nI r), .int (nI v)]) (st := []) (st1 := []) d_Ru_addBound_22 k_Ru_write tw_255 tw_256 rfl (Nat.le_of_ble_eq_true rfl) rfl (Nat.le_of_ble_eq_true rfl) rfl rfl (c_Ru_write15 l g _ L M (r_bn ρ) (nI c) (nI r) (nI v) (by omega)) rfl ?_
  refine ew_aload_n d_Ru_addBound_25 rfl ?_
  refine ew_dupr d_Ru_addBound_26 ?_
  refine ew_geti (ci := 2) (f := 4) d_Ru_addBound_27 rfl rfl rfl tw_73 ?_
  refine en_eq (st' := [.int (nI (r_bn ρ)), .ref 10]) rfl (by rw [show ((ew_w (ew_w (ew_w M 15 (3 * (r_bn ρ)) (nI c)) 15 (3 * (r_bn ρ) + 1) (nI r)) 15 (3 * (r_bn ρ) + 2) (nI v)) 10 4) = (nI (r_bn ρ)) from by (rw [ew_w_ne (by decide), ew_w_ne (by decide), ew_w_ne (by decide)]; exact hr.2.2.2.2.1)]) rfl ?_
  refine ew_iconst (v := nI 1) d_Ru_addBound_30 (by decide) ?_
  refine en_iadd d_Ru_addBound_31 ?_
  refine ew_puti (ci := 2) (f := 4) (ty := .int) d_Ru_addBound_32 rfl (by decide) rfl rfl rfl (by decide +kernel) rfl rfl tw_73 ?_
  refine ew_aload_n d_Ru_addBound_35 rfl ?_
  refine ew_geti (ci := 2) (f := 4) d_Ru_addBound_36 rfl rfl rfl tw_73 ?_
  refine en_eq (st' := [.int (nI (r_bn ρ + 1))]) rfl (by rw [show ((ew_w (ew_w (ew_w (ew_w M 15 (3 * (r_bn ρ)) (nI c)) 15 (3 * (r_bn ρ) + 1) (nI r)) 15 (3 * (r_bn ρ) + 2) (nI v)) 10 4 (nI ((r_bn ρ) + 1))) 10 4) = (nI (r_bn ρ + 1)) from ew_w_at]) rfl ?_
  exact ew_iret d_Ru_addBound_39 rfl (⟨rfl, rfl, rfl⟩)
theorem sp_ru_addB {ρ : sp_R} {M : ew_M} (h : sp_ru ρ M) {c r v : Nat} (hc : c < 2) (hn : r_bn ρ < 4) (hr : r < 8) (hv : v < 12289) : sp_ru (sp_addB ρ c r v) (ew_w (ew_w (ew_w (ew_w M 15 (3 * r_bn ρ) (nI c)) 15 (3 * r_bn ρ + 1) (nI r)) 15 (3 * r_bn ρ + 2) (nI v)) 10 4 (nI (r_bn ρ + 1))) := by
  obtain ⟨h0, h1, h2, h3, h4, h5⟩ := h
  refine ⟨sp_okR_addB h0 hc hn hr hv, fun a ha => ?_, fun t ht => ?_, fun t ht => ?_, ew_w_at, fun b hb => ?_⟩
  · rw [ew_w_ne (by decide), ew_w_ne (by decide), ew_w_ne (by decide), ew_w_ne (by decide)]
    exact h1 a ha
  · rw [ew_w_ne (by decide), ew_w_ne (by decide), ew_w_ne (by decide), ew_w_ne (by decide)]
    exact h2 t ht
  · rw [ew_w_ne (by decide), ew_w_ne (by decide), ew_w_ne (by decide), ew_w_ne (by decide)]
    exact h3 t ht
  · show _ = nI (up1 (r_bc ρ) (r_bn ρ) c b) ∧ _ = nI (up1 (r_br ρ) (r_bn ρ) r b) ∧ _ = nI (up1 (r_bv ρ) (r_bn ρ) v b)
    have hb' : b < r_bn ρ + 1 := hb
    rw [ew_w_ne (by decide)]
    unfold up1
    by_cases e : b = r_bn ρ
    · subst e
      rw [if_pos rfl, if_pos rfl, if_pos rfl]
      refine ⟨?_, ?_, ew_w_at⟩
      · rw [ew_w_j (by omega), ew_w_j (by omega)]
        exact ew_w_at
      · rw [ew_w_j (by omega)]
        exact ew_w_at
    · rw [if_neg e, if_neg e, if_neg e]
      rw [ew_w_j (by omega), ew_w_j (by omega), ew_w_j (by omega), ew_w_j (by omega), ew_w_j (by omega), ew_w_j (by omega), ew_w_j (by omega), ew_w_j (by omega), ew_w_j (by omega)]
      exact h5 b (by omega)
theorem sp_ru_clr {ρ : sp_R} {M : ew_M} : sp_ru (sp_clr ρ) (ew_w (ew_w (ew_w M 11 0 (nI 0)) 11 1 (nI 0)) 10 4 (nI 0)) := by
  refine ⟨sp_okR_clr, fun a ha => ?_, fun t ht => absurd ht (Nat.not_lt_zero _), fun t ht => absurd ht (Nat.not_lt_zero _), ew_w_at, fun b hb => absurd hb (Nat.not_lt_zero _)⟩
  rw [ew_w_ne (by decide)]
  rcases (show a = 0 ∨ a = 1 by omega) with rfl | rfl
  · rw [ew_w_j (by decide)]
    exact ew_w_at
  · exact ew_w_at
set_option maxRecDepth 100000 in
theorem c_P_termB (l : Launch) (g : ew_G) (d L : Nat) (M : ew_M) (c k u v : Int32) (h : (sp_in c 2 && (sp_in k 12289 && (sp_in u 5 && sp_in v 5))) = false) :
    Ew l g (d + 2) 0 0 m_P_term 0 [.ref 3, .int c, .int k, .int u, .int v] [] (ew_SH L) M (ew_q (some (.int (-1))) (ew_SH L) M) := by
  refine ew_iload_n d_P_term_0 rfl ?_
  refine en_callS (As := [.int c]) (st := []) (st1 := [.int (ew_b (sp_in c 2))]) d_P_term_1 k_P_isColumn tw_242 tw_243 rfl (Nat.le_of_ble_eq_true rfl) rfl (Nat.le_of_ble_eq_true rfl) rfl rfl (c_P_isColumn l g _ (ew_SH L) M c) rfl ?_
  refine en_b_eq (tgt := 29) d_P_term_4 (by decide) (fun h4 => ?_) (fun h4 => ?_)
  · refine ew_iconst (v := -1) d_P_term_29 (by decide) ?_
    exact ew_iret d_P_term_30 rfl (⟨rfl, rfl, rfl⟩)
  · refine ew_iload_n d_P_term_7 rfl ?_
    refine en_callS (As := [.int k]) (st := []) (st1 := [.int (ew_b (sp_in k 12289))]) d_P_term_8 k_Fi_holds tw_245 tw_246 rfl (Nat.le_of_ble_eq_true rfl) rfl (Nat.le_of_ble_eq_true rfl) rfl rfl (c_Fi_holds l g _ (ew_SH L) M k) rfl ?_
    refine en_b_eq (tgt := 29) d_P_term_11 (by decide) (fun h11 => ?_) (fun h11 => ?_)
    · refine ew_iconst (v := -1) d_P_term_29 (by decide) ?_
      exact ew_iret d_P_term_30 rfl (⟨rfl, rfl, rfl⟩)
    · refine ew_iload_n d_P_term_14 rfl ?_
      refine en_callS (As := [.int u]) (st := []) (st1 := [.int (ew_b (sp_in u 5))]) d_P_term_15 k_P_isLetter tw_248 tw_249 rfl (Nat.le_of_ble_eq_true rfl) rfl (Nat.le_of_ble_eq_true rfl) rfl rfl (c_P_isLetter l g _ (ew_SH L) M u) rfl ?_
      refine en_b_eq (tgt := 29) d_P_term_18 (by decide) (fun h18 => ?_) (fun h18 => ?_)
      · refine ew_iconst (v := -1) d_P_term_29 (by decide) ?_
        exact ew_iret d_P_term_30 rfl (⟨rfl, rfl, rfl⟩)
      · refine ew_iload d_P_term_21 rfl ?_
        refine en_callS (As := [.int v]) (st := []) (st1 := [.int (ew_b (sp_in v 5))]) d_P_term_23 k_P_isLetter tw_248 tw_249 rfl (Nat.le_of_ble_eq_true rfl) rfl (Nat.le_of_ble_eq_true rfl) rfl rfl (c_P_isLetter l g _ (ew_SH L) M v) rfl ?_
        refine en_b_ne (tgt := 31) d_P_term_26 (by decide) (fun h26 => ?_) (fun h26 => ?_)
        · exact absurd h (by rw [h4, h11, h18, h26]; decide)
        · refine ew_iconst (v := -1) d_P_term_29 (by decide) ?_
          exact ew_iret d_P_term_30 rfl (⟨rfl, rfl, rfl⟩)
set_option maxRecDepth 100000 in
theorem c_P_termF0 (l : Launch) (g : ew_G) (d L : Nat) (M : ew_M) (ρ : sp_R) (hr : sp_ru ρ M) (h6 : r_cn ρ 0 = 6) (k u v : Nat) (hk : k < 12289) (hu : u < 5) (hv : v < 5) :
    Ew l g (d + 2) 0 0 m_P_term 0 [.ref 3, .int (nI 0), .int (nI k), .int (nI u), .int (nI v)] [] (ew_SH L) M (ew_q (some (.int (-3))) (ew_SH L) M) := by
  refine ew_iload_n d_P_term_0 rfl ?_
  refine en_callS (As := [.int (nI 0)]) (st := []) (st1 := [.int (ew_b (sp_in (nI 0) 2))]) d_P_term_1 k_P_isColumn tw_242 tw_243 rfl (Nat.le_of_ble_eq_true rfl) rfl (Nat.le_of_ble_eq_true rfl) rfl rfl (c_P_isColumn l g _ (ew_SH L) M (nI 0)) rfl ?_
  refine en_b_eq (tgt := 29) d_P_term_4 (by decide) (fun h4 => by exact absurd h4 (by rw [sp_in_nI (by decide) (by first | decide | assumption)]; decide)) (fun h4 => ?_)
  refine ew_iload_n d_P_term_7 rfl ?_
  refine en_callS (As := [.int (nI k)]) (st := []) (st1 := [.int (ew_b (sp_in (nI k) 12289))]) d_P_term_8 k_Fi_holds tw_245 tw_246 rfl (Nat.le_of_ble_eq_true rfl) rfl (Nat.le_of_ble_eq_true rfl) rfl rfl (c_Fi_holds l g _ (ew_SH L) M (nI k)) rfl ?_
  refine en_b_eq (tgt := 29) d_P_term_11 (by decide) (fun h11 => by exact absurd h11 (by rw [sp_in_nI (by decide) (by first | decide | assumption)]; decide)) (fun h11 => ?_)
  refine ew_iload_n d_P_term_14 rfl ?_
  refine en_callS (As := [.int (nI u)]) (st := []) (st1 := [.int (ew_b (sp_in (nI u) 5))]) d_P_term_15 k_P_isLetter tw_248 tw_249 rfl (Nat.le_of_ble_eq_true rfl) rfl (Nat.le_of_ble_eq_true rfl) rfl rfl (c_P_isLetter l g _ (ew_SH L) M (nI u)) rfl ?_
  refine en_b_eq (tgt := 29) d_P_term_18 (by decide) (fun h18 => by exact absurd h18 (by rw [sp_in_nI (by decide) (by first | decide | assumption)]; decide)) (fun h18 => ?_)
  refine ew_iload d_P_term_21 rfl ?_
  refine en_callS (As := [.int (nI v)]) (st := []) (st1 := [.int (ew_b (sp_in (nI v) 5))]) d_P_term_23 k_P_isLetter tw_248 tw_249 rfl (Nat.le_of_ble_eq_true rfl) rfl (Nat.le_of_ble_eq_true rfl) rfl rfl (c_P_isLetter l g _ (ew_SH L) M (nI v)) rfl ?_
  refine en_b_ne (tgt := 31) d_P_term_26 (by decide) (fun h26 => ?_) (fun h26 => by exact absurd h26 (by rw [sp_in_nI (by decide) (by first | decide | assumption)]; decide))
  refine ew_aload_n d_P_term_31 rfl ?_
  refine ew_getr (ci := 0) (f := 1) d_P_term_32 rfl rfl rfl tw_214 ?_
  refine ew_iload_n d_P_term_35 rfl ?_
  refine ew_iload_n d_P_term_36 rfl ?_
  refine ew_iload_n d_P_term_37 rfl ?_
  refine ew_iload d_P_term_38 rfl ?_
  refine en_callV (As := [.int (nI 0), .int (nI k), .int (nI u), .int (nI v)]) (i := 10) (ci := 2) (st := []) (st1 := [.int (-3)]) d_P_term_40 k_Ru_addTerm rfl rfl tw_251 tw_252 tw_253 rfl (Nat.le_of_ble_eq_true rfl) rfl (Nat.le_of_ble_eq_true rfl) rfl rfl (c_Ru_addTermF0 l g _ L M ρ hr h6 k u v) rfl ?_
  exact ew_iret d_P_term_43 rfl (⟨rfl, rfl, rfl⟩)
set_option maxRecDepth 100000 in
theorem c_P_term0 (l : Launch) (g : ew_G) (d L : Nat) (M : ew_M) (ρ : sp_R) (hr : sp_ru ρ M) (h6 : r_cn ρ 0 < 6) (k u v : Nat) (hk : k < 12289) (hu : u < 5) (hv : v < 5) :
    Ew l g (d + 2) 0 0 m_P_term 0 [.ref 3, .int (nI 0), .int (nI k), .int (nI u), .int (nI v)] [] (ew_SH L) M (ew_q (some (.int (nI (r_cn ρ 0 + 1)))) (ew_SH L) (ew_w (ew_w (ew_w (ew_w M 13 (3 * r_cn ρ 0) (nI k)) 13 (3 * r_cn ρ 0 + 1) (nI u)) 13 (3 * r_cn ρ 0 + 2) (nI v)) 11 0 (nI (r_cn ρ 0 + 1)))) := by
  refine ew_iload_n d_P_term_0 rfl ?_
  refine en_callS (As := [.int (nI 0)]) (st := []) (st1 := [.int (ew_b (sp_in (nI 0) 2))]) d_P_term_1 k_P_isColumn tw_242 tw_243 rfl (Nat.le_of_ble_eq_true rfl) rfl (Nat.le_of_ble_eq_true rfl) rfl rfl (c_P_isColumn l g _ (ew_SH L) M (nI 0)) rfl ?_
  refine en_b_eq (tgt := 29) d_P_term_4 (by decide) (fun h4 => by exact absurd h4 (by rw [sp_in_nI (by decide) (by first | decide | assumption)]; decide)) (fun h4 => ?_)
  refine ew_iload_n d_P_term_7 rfl ?_
  refine en_callS (As := [.int (nI k)]) (st := []) (st1 := [.int (ew_b (sp_in (nI k) 12289))]) d_P_term_8 k_Fi_holds tw_245 tw_246 rfl (Nat.le_of_ble_eq_true rfl) rfl (Nat.le_of_ble_eq_true rfl) rfl rfl (c_Fi_holds l g _ (ew_SH L) M (nI k)) rfl ?_
  refine en_b_eq (tgt := 29) d_P_term_11 (by decide) (fun h11 => by exact absurd h11 (by rw [sp_in_nI (by decide) (by first | decide | assumption)]; decide)) (fun h11 => ?_)
  refine ew_iload_n d_P_term_14 rfl ?_
  refine en_callS (As := [.int (nI u)]) (st := []) (st1 := [.int (ew_b (sp_in (nI u) 5))]) d_P_term_15 k_P_isLetter tw_248 tw_249 rfl (Nat.le_of_ble_eq_true rfl) rfl (Nat.le_of_ble_eq_true rfl) rfl rfl (c_P_isLetter l g _ (ew_SH L) M (nI u)) rfl ?_
  refine en_b_eq (tgt := 29) d_P_term_18 (by decide) (fun h18 => by exact absurd h18 (by rw [sp_in_nI (by decide) (by first | decide | assumption)]; decide)) (fun h18 => ?_)
  refine ew_iload d_P_term_21 rfl ?_
  refine en_callS (As := [.int (nI v)]) (st := []) (st1 := [.int (ew_b (sp_in (nI v) 5))]) d_P_term_23 k_P_isLetter tw_248 tw_249 rfl (Nat.le_of_ble_eq_true rfl) rfl (Nat.le_of_ble_eq_true rfl) rfl rfl (c_P_isLetter l g _ (ew_SH L) M (nI v)) rfl ?_
  refine en_b_ne (tgt := 31) d_P_term_26 (by decide) (fun h26 => ?_) (fun h26 => by exact absurd h26 (by rw [sp_in_nI (by decide) (by first | decide | assumption)]; decide))
  refine ew_aload_n d_P_term_31 rfl ?_
  refine ew_getr (ci := 0) (f := 1) d_P_term_32 rfl rfl rfl tw_214 ?_
  refine ew_iload_n d_P_term_35 rfl ?_
  refine ew_iload_n d_P_term_36 rfl ?_
  refine ew_iload_n d_P_term_37 rfl ?_
  refine ew_iload d_P_term_38 rfl ?_
  refine en_callV (As := [.int (nI 0), .int (nI k), .int (nI u), .int (nI v)]) (i := 10) (ci := 2) (st := []) (st1 := [.int (nI (r_cn ρ 0 + 1))]) d_P_term_40 k_Ru_addTerm rfl rfl tw_251 tw_252 tw_253 rfl (Nat.le_of_ble_eq_true rfl) rfl (Nat.le_of_ble_eq_true rfl) rfl rfl (c_Ru_addTerm0 l g _ L M ρ hr h6 k u v) rfl ?_
  exact ew_iret d_P_term_43 rfl (⟨rfl, rfl, rfl⟩)
set_option maxRecDepth 100000 in
theorem c_P_termF1 (l : Launch) (g : ew_G) (d L : Nat) (M : ew_M) (ρ : sp_R) (hr : sp_ru ρ M) (h6 : r_cn ρ 1 = 6) (k u v : Nat) (hk : k < 12289) (hu : u < 5) (hv : v < 5) :
    Ew l g (d + 2) 0 0 m_P_term 0 [.ref 3, .int (nI 1), .int (nI k), .int (nI u), .int (nI v)] [] (ew_SH L) M (ew_q (some (.int (-3))) (ew_SH L) M) := by
  refine ew_iload_n d_P_term_0 rfl ?_
  refine en_callS (As := [.int (nI 1)]) (st := []) (st1 := [.int (ew_b (sp_in (nI 1) 2))]) d_P_term_1 k_P_isColumn tw_242 tw_243 rfl (Nat.le_of_ble_eq_true rfl) rfl (Nat.le_of_ble_eq_true rfl) rfl rfl (c_P_isColumn l g _ (ew_SH L) M (nI 1)) rfl ?_
  refine en_b_eq (tgt := 29) d_P_term_4 (by decide) (fun h4 => by exact absurd h4 (by rw [sp_in_nI (by decide) (by first | decide | assumption)]; decide)) (fun h4 => ?_)
  refine ew_iload_n d_P_term_7 rfl ?_
  refine en_callS (As := [.int (nI k)]) (st := []) (st1 := [.int (ew_b (sp_in (nI k) 12289))]) d_P_term_8 k_Fi_holds tw_245 tw_246 rfl (Nat.le_of_ble_eq_true rfl) rfl (Nat.le_of_ble_eq_true rfl) rfl rfl (c_Fi_holds l g _ (ew_SH L) M (nI k)) rfl ?_
  refine en_b_eq (tgt := 29) d_P_term_11 (by decide) (fun h11 => by exact absurd h11 (by rw [sp_in_nI (by decide) (by first | decide | assumption)]; decide)) (fun h11 => ?_)
  refine ew_iload_n d_P_term_14 rfl ?_
  refine en_callS (As := [.int (nI u)]) (st := []) (st1 := [.int (ew_b (sp_in (nI u) 5))]) d_P_term_15 k_P_isLetter tw_248 tw_249 rfl (Nat.le_of_ble_eq_true rfl) rfl (Nat.le_of_ble_eq_true rfl) rfl rfl (c_P_isLetter l g _ (ew_SH L) M (nI u)) rfl ?_
  refine en_b_eq (tgt := 29) d_P_term_18 (by decide) (fun h18 => by exact absurd h18 (by rw [sp_in_nI (by decide) (by first | decide | assumption)]; decide)) (fun h18 => ?_)
  refine ew_iload d_P_term_21 rfl ?_
  refine en_callS (As := [.int (nI v)]) (st := []) (st1 := [.int (ew_b (sp_in (nI v) 5))]) d_P_term_23 k_P_isLetter tw_248 tw_249 rfl (Nat.le_of_ble_eq_true rfl) rfl (Nat.le_of_ble_eq_true rfl) rfl rfl (c_P_isLetter l g _ (ew_SH L) M (nI v)) rfl ?_
  refine en_b_ne (tgt := 31) d_P_term_26 (by decide) (fun h26 => ?_) (fun h26 => by exact absurd h26 (by rw [sp_in_nI (by decide) (by first | decide | assumption)]; decide))
  refine ew_aload_n d_P_term_31 rfl ?_
  refine ew_getr (ci := 0) (f := 1) d_P_term_32 rfl rfl rfl tw_214 ?_
  refine ew_iload_n d_P_term_35 rfl ?_
  refine ew_iload_n d_P_term_36 rfl ?_
  refine ew_iload_n d_P_term_37 rfl ?_
  refine ew_iload d_P_term_38 rfl ?_
  refine en_callV (As := [.int (nI 1), .int (nI k), .int (nI u), .int (nI v)]) (i := 10) (ci := 2) (st := []) (st1 := [.int (-3)]) d_P_term_40 k_Ru_addTerm rfl rfl tw_251 tw_252 tw_253 rfl (Nat.le_of_ble_eq_true rfl) rfl (Nat.le_of_ble_eq_true rfl) rfl rfl (c_Ru_addTermF1 l g _ L M ρ hr h6 k u v) rfl ?_
  exact ew_iret d_P_term_43 rfl (⟨rfl, rfl, rfl⟩)
set_option maxRecDepth 100000 in
theorem c_P_term1 (l : Launch) (g : ew_G) (d L : Nat) (M : ew_M) (ρ : sp_R) (hr : sp_ru ρ M) (h6 : r_cn ρ 1 < 6) (k u v : Nat) (hk : k < 12289) (hu : u < 5) (hv : v < 5) :
    Ew l g (d + 2) 0 0 m_P_term 0 [.ref 3, .int (nI 1), .int (nI k), .int (nI u), .int (nI v)] [] (ew_SH L) M (ew_q (some (.int (nI (r_cn ρ 1 + 1)))) (ew_SH L) (ew_w (ew_w (ew_w (ew_w M 14 (3 * r_cn ρ 1) (nI k)) 14 (3 * r_cn ρ 1 + 1) (nI u)) 14 (3 * r_cn ρ 1 + 2) (nI v)) 11 1 (nI (r_cn ρ 1 + 1)))) := by
  refine ew_iload_n d_P_term_0 rfl ?_
  refine en_callS (As := [.int (nI 1)]) (st := []) (st1 := [.int (ew_b (sp_in (nI 1) 2))]) d_P_term_1 k_P_isColumn tw_242 tw_243 rfl (Nat.le_of_ble_eq_true rfl) rfl (Nat.le_of_ble_eq_true rfl) rfl rfl (c_P_isColumn l g _ (ew_SH L) M (nI 1)) rfl ?_
  refine en_b_eq (tgt := 29) d_P_term_4 (by decide) (fun h4 => by exact absurd h4 (by rw [sp_in_nI (by decide) (by first | decide | assumption)]; decide)) (fun h4 => ?_)
  refine ew_iload_n d_P_term_7 rfl ?_
  refine en_callS (As := [.int (nI k)]) (st := []) (st1 := [.int (ew_b (sp_in (nI k) 12289))]) d_P_term_8 k_Fi_holds tw_245 tw_246 rfl (Nat.le_of_ble_eq_true rfl) rfl (Nat.le_of_ble_eq_true rfl) rfl rfl (c_Fi_holds l g _ (ew_SH L) M (nI k)) rfl ?_
  refine en_b_eq (tgt := 29) d_P_term_11 (by decide) (fun h11 => by exact absurd h11 (by rw [sp_in_nI (by decide) (by first | decide | assumption)]; decide)) (fun h11 => ?_)
  refine ew_iload_n d_P_term_14 rfl ?_
  refine en_callS (As := [.int (nI u)]) (st := []) (st1 := [.int (ew_b (sp_in (nI u) 5))]) d_P_term_15 k_P_isLetter tw_248 tw_249 rfl (Nat.le_of_ble_eq_true rfl) rfl (Nat.le_of_ble_eq_true rfl) rfl rfl (c_P_isLetter l g _ (ew_SH L) M (nI u)) rfl ?_
  refine en_b_eq (tgt := 29) d_P_term_18 (by decide) (fun h18 => by exact absurd h18 (by rw [sp_in_nI (by decide) (by first | decide | assumption)]; decide)) (fun h18 => ?_)
  refine ew_iload d_P_term_21 rfl ?_
  refine en_callS (As := [.int (nI v)]) (st := []) (st1 := [.int (ew_b (sp_in (nI v) 5))]) d_P_term_23 k_P_isLetter tw_248 tw_249 rfl (Nat.le_of_ble_eq_true rfl) rfl (Nat.le_of_ble_eq_true rfl) rfl rfl (c_P_isLetter l g _ (ew_SH L) M (nI v)) rfl ?_
  refine en_b_ne (tgt := 31) d_P_term_26 (by decide) (fun h26 => ?_) (fun h26 => by exact absurd h26 (by rw [sp_in_nI (by decide) (by first | decide | assumption)]; decide))
  refine ew_aload_n d_P_term_31 rfl ?_
  refine ew_getr (ci := 0) (f := 1) d_P_term_32 rfl rfl rfl tw_214 ?_
  refine ew_iload_n d_P_term_35 rfl ?_
  refine ew_iload_n d_P_term_36 rfl ?_
  refine ew_iload_n d_P_term_37 rfl ?_
  refine ew_iload d_P_term_38 rfl ?_
  refine en_callV (As := [.int (nI 1), .int (nI k), .int (nI u), .int (nI v)]) (i := 10) (ci := 2) (st := []) (st1 := [.int (nI (r_cn ρ 1 + 1))]) d_P_term_40 k_Ru_addTerm rfl rfl tw_251 tw_252 tw_253 rfl (Nat.le_of_ble_eq_true rfl) rfl (Nat.le_of_ble_eq_true rfl) rfl rfl (c_Ru_addTerm1 l g _ L M ρ hr h6 k u v) rfl ?_
  exact ew_iret d_P_term_43 rfl (⟨rfl, rfl, rfl⟩)
set_option maxRecDepth 100000 in
theorem c_P_isCell (l : Launch) (g : ew_G) (d L : Nat) (M : ew_M) (c r : Int32) :
    Ew l g (d + 1) 0 0 m_P_isCell 0 [.int c, .int r] [] (ew_SH L) M (ew_q (some (.int (ew_b (sp_in c 2 && sp_in r 8)))) (ew_SH L) M) := by
  refine ew_iload_n d_P_isCell_0 rfl ?_
  refine en_callS (As := [.int c]) (st := []) (st1 := [.int (ew_b (sp_in c 2))]) d_P_isCell_1 k_P_isColumn tw_242 tw_243 rfl (Nat.le_of_ble_eq_true rfl) rfl (Nat.le_of_ble_eq_true rfl) rfl rfl (c_P_isColumn l g _ (ew_SH L) M c) rfl ?_
  refine en_b_eq (tgt := 21) d_P_isCell_4 (by decide) (fun h4 => ?_) (fun h4 => ?_)
  · refine ew_iconst (v := nI 0) d_P_isCell_21 (by decide) ?_
    exact ew_zret d_P_isCell_22 rfl (by decide) (⟨by first | (rw [h4]; rfl) | (rw [h4, sp_in_1 h8]; rfl) | (rw [h4, sp_in_2 h14]; rfl), rfl, rfl⟩)
  · refine ew_iload_n d_P_isCell_7 rfl ?_
    refine ew_if_lt (tgt := 21) d_P_isCell_8 (by decide) (fun h8 => ?_) (fun h8 => ?_)
    · refine ew_iconst (v := nI 0) d_P_isCell_21 (by decide) ?_
      exact ew_zret d_P_isCell_22 rfl (by decide) (⟨by first | (rw [h4]; rfl) | (rw [h4, sp_in_1 h8]; rfl) | (rw [h4, sp_in_2 h14]; rfl), rfl, rfl⟩)
    · refine ew_iload_n d_P_isCell_11 rfl ?_
      refine ew_bipush (v := nI 8) d_P_isCell_12 (by decide) ?_
      refine ew_icmp_ge (tgt := 21) d_P_isCell_14 (by decide) (fun h14 => ?_) (fun h14 => ?_)
      · refine ew_iconst (v := nI 0) d_P_isCell_21 (by decide) ?_
        exact ew_zret d_P_isCell_22 rfl (by decide) (⟨by first | (rw [h4]; rfl) | (rw [h4, sp_in_1 h8]; rfl) | (rw [h4, sp_in_2 h14]; rfl), rfl, rfl⟩)
      · refine ew_iconst (v := nI 1) d_P_isCell_17 (by decide) ?_
        refine ew_goto (tgt := 22) d_P_isCell_18 (by decide) ?_
        exact ew_zret d_P_isCell_22 rfl (by decide) (⟨by rw [h4, sp_in_t h8 h14]; rfl, rfl, rfl⟩)
set_option maxRecDepth 100000 in
theorem c_P_boundB (l : Launch) (g : ew_G) (d L : Nat) (M : ew_M) (c r v : Int32) (h : ((sp_in c 2 && sp_in r 8) && sp_in v 12289) = false) :
    Ew l g (d + 2) 0 0 m_P_bound 0 [.ref 3, .int c, .int r, .int v] [] (ew_SH L) M (ew_q (some (.int (-1))) (ew_SH L) M) := by
  refine ew_iload_n d_P_bound_0 rfl ?_
  refine ew_iload_n d_P_bound_1 rfl ?_
  refine en_callS (As := [.int c, .int r]) (st := []) (st1 := [.int (ew_b (sp_in c 2 && sp_in r 8))]) d_P_bound_2 k_P_isCell tw_262 tw_263 rfl (Nat.le_of_ble_eq_true rfl) rfl (Nat.le_of_ble_eq_true rfl) rfl rfl (c_P_isCell l g _ L M c r) rfl ?_
  refine en_b_eq (tgt := 15) d_P_bound_5 (by decide) (fun h5 => ?_) (fun h5 => ?_)
  · refine ew_iconst (v := -1) d_P_bound_15 (by decide) ?_
    exact ew_iret d_P_bound_16 rfl (⟨rfl, rfl, rfl⟩)
  · refine ew_iload_n d_P_bound_8 rfl ?_
    refine en_callS (As := [.int v]) (st := []) (st1 := [.int (ew_b (sp_in v 12289))]) d_P_bound_9 k_Fi_holds tw_245 tw_246 rfl (Nat.le_of_ble_eq_true rfl) rfl (Nat.le_of_ble_eq_true rfl) rfl rfl (c_Fi_holds l g _ (ew_SH L) M v) rfl ?_
    refine en_b_ne (tgt := 17) d_P_bound_12 (by decide) (fun h12 => ?_) (fun h12 => ?_)
    · exact absurd h (by rw [h5, h12]; decide)
    · refine ew_iconst (v := -1) d_P_bound_15 (by decide) ?_
      exact ew_iret d_P_bound_16 rfl (⟨rfl, rfl, rfl⟩)
set_option maxRecDepth 100000 in
theorem c_P_setB (l : Launch) (g : ew_G) (d L : Nat) (M : ew_M) (c r v : Int32) (h : ((sp_in c 2 && sp_in r 8) && sp_in v 12289) = false) :
    Ew l g (d + 2) 0 0 m_P_set 0 [.ref 3, .int c, .int r, .int v] [] (ew_SH L) M (ew_q (some (.int (nI 0))) (ew_SH L) M) := by
  refine ew_iload_n d_P_set_0 rfl ?_
  refine ew_iload_n d_P_set_1 rfl ?_
  refine en_callS (As := [.int c, .int r]) (st := []) (st1 := [.int (ew_b (sp_in c 2 && sp_in r 8))]) d_P_set_2 k_P_isCell tw_262 tw_263 rfl (Nat.le_of_ble_eq_true rfl) rfl (Nat.le_of_ble_eq_true rfl) rfl rfl (c_P_isCell l g _ L M c r) rfl ?_
  refine en_b_eq (tgt := 15) d_P_set_5 (by decide) (fun h5 => ?_) (fun h5 => ?_)
  · refine ew_iconst (v := nI 0) d_P_set_15 (by decide) ?_
    exact ew_zret d_P_set_16 rfl (by decide) (⟨rfl, rfl, rfl⟩)
  · refine ew_iload_n d_P_set_8 rfl ?_
    refine en_callS (As := [.int v]) (st := []) (st1 := [.int (ew_b (sp_in v 12289))]) d_P_set_9 k_Fi_holds tw_245 tw_246 rfl (Nat.le_of_ble_eq_true rfl) rfl (Nat.le_of_ble_eq_true rfl) rfl rfl (c_Fi_holds l g _ (ew_SH L) M v) rfl ?_
    refine en_b_ne (tgt := 17) d_P_set_12 (by decide) (fun h12 => ?_) (fun h12 => ?_)
    · exact absurd h (by rw [h5, h12]; decide)
    · refine ew_iconst (v := nI 0) d_P_set_15 (by decide) ?_
      exact ew_zret d_P_set_16 rfl (by decide) (⟨rfl, rfl, rfl⟩)
set_option maxRecDepth 100000 in
theorem c_P_boundF (l : Launch) (g : ew_G) (d L : Nat) (M : ew_M) (ρ : sp_R) (hr : sp_ru ρ M) (h4 : r_bn ρ = 4) (c r v : Nat) (hc : c < 2) (hr8 : r < 8) (hv : v < 12289) :
    Ew l g (d + 2) 0 0 m_P_bound 0 [.ref 3, .int (nI c), .int (nI r), .int (nI v)] [] (ew_SH L) M (ew_q (some (.int (-3))) (ew_SH L) M) := by
  refine ew_iload_n d_P_bound_0 rfl ?_
  refine ew_iload_n d_P_bound_1 rfl ?_
  refine en_callS (As := [.int (nI c), .int (nI r)]) (st := []) (st1 := [.int (ew_b (sp_in (nI c) 2 && sp_in (nI r) 8))]) d_P_bound_2 k_P_isCell tw_262 tw_263 rfl (Nat.le_of_ble_eq_true rfl) rfl (Nat.le_of_ble_eq_true rfl) rfl rfl (c_P_isCell l g _ L M (nI c) (nI r)) rfl ?_
  refine en_b_eq (tgt := 15) d_P_bound_5 (by decide) (fun h5 => by exact absurd h5 (by rw [sp_in_nI (by decide) hc, sp_in_nI (by decide) hr8]; decide)) (fun h5 => ?_)
  refine ew_iload_n d_P_bound_8 rfl ?_
  refine en_callS (As := [.int (nI v)]) (st := []) (st1 := [.int (ew_b (sp_in (nI v) 12289))]) d_P_bound_9 k_Fi_holds tw_245 tw_246 rfl (Nat.le_of_ble_eq_true rfl) rfl (Nat.le_of_ble_eq_true rfl) rfl rfl (c_Fi_holds l g _ (ew_SH L) M (nI v)) rfl ?_
  refine en_b_ne (tgt := 17) d_P_bound_12 (by decide) (fun h12 => ?_) (fun h12 => by exact absurd h12 (by rw [sp_in_nI (by decide) hv]; decide))
  refine ew_aload_n d_P_bound_17 rfl ?_
  refine ew_getr (ci := 0) (f := 1) d_P_bound_18 rfl rfl rfl tw_214 ?_
  refine ew_iload_n d_P_bound_21 rfl ?_
  refine ew_iload_n d_P_bound_22 rfl ?_
  refine ew_iload_n d_P_bound_23 rfl ?_
  refine en_callV (As := [.int (nI c), .int (nI r), .int (nI v)]) (i := 10) (ci := 2) (st := []) (st1 := [.int (-3)]) d_P_bound_24 k_Ru_addBound rfl rfl tw_265 tw_266 tw_267 rfl (Nat.le_of_ble_eq_true rfl) rfl (Nat.le_of_ble_eq_true rfl) rfl rfl (c_Ru_addBoundF l g _ L M ρ hr h4 c r v) rfl ?_
  exact ew_iret d_P_bound_27 rfl (⟨rfl, rfl, rfl⟩)
set_option maxRecDepth 100000 in
theorem c_P_bound (l : Launch) (g : ew_G) (d L : Nat) (M : ew_M) (ρ : sp_R) (hr : sp_ru ρ M) (h4 : r_bn ρ < 4) (c r v : Nat) (hc : c < 2) (hr8 : r < 8) (hv : v < 12289) :
    Ew l g (d + 2) 0 0 m_P_bound 0 [.ref 3, .int (nI c), .int (nI r), .int (nI v)] [] (ew_SH L) M (ew_q (some (.int (nI (r_bn ρ + 1)))) (ew_SH L) (ew_w (ew_w (ew_w (ew_w M 15 (3 * r_bn ρ) (nI c)) 15 (3 * r_bn ρ + 1) (nI r)) 15 (3 * r_bn ρ + 2) (nI v)) 10 4 (nI (r_bn ρ + 1)))) := by
  refine ew_iload_n d_P_bound_0 rfl ?_
  refine ew_iload_n d_P_bound_1 rfl ?_
  refine en_callS (As := [.int (nI c), .int (nI r)]) (st := []) (st1 := [.int (ew_b (sp_in (nI c) 2 && sp_in (nI r) 8))]) d_P_bound_2 k_P_isCell tw_262 tw_263 rfl (Nat.le_of_ble_eq_true rfl) rfl (Nat.le_of_ble_eq_true rfl) rfl rfl (c_P_isCell l g _ L M (nI c) (nI r)) rfl ?_
  refine en_b_eq (tgt := 15) d_P_bound_5 (by decide) (fun h5 => by exact absurd h5 (by rw [sp_in_nI (by decide) hc, sp_in_nI (by decide) hr8]; decide)) (fun h5 => ?_)
  refine ew_iload_n d_P_bound_8 rfl ?_
  refine en_callS (As := [.int (nI v)]) (st := []) (st1 := [.int (ew_b (sp_in (nI v) 12289))]) d_P_bound_9 k_Fi_holds tw_245 tw_246 rfl (Nat.le_of_ble_eq_true rfl) rfl (Nat.le_of_ble_eq_true rfl) rfl rfl (c_Fi_holds l g _ (ew_SH L) M (nI v)) rfl ?_
  refine en_b_ne (tgt := 17) d_P_bound_12 (by decide) (fun h12 => ?_) (fun h12 => by exact absurd h12 (by rw [sp_in_nI (by decide) hv]; decide))
  refine ew_aload_n d_P_bound_17 rfl ?_
  refine ew_getr (ci := 0) (f := 1) d_P_bound_18 rfl rfl rfl tw_214 ?_
  refine ew_iload_n d_P_bound_21 rfl ?_
  refine ew_iload_n d_P_bound_22 rfl ?_
  refine ew_iload_n d_P_bound_23 rfl ?_
  refine en_callV (As := [.int (nI c), .int (nI r), .int (nI v)]) (i := 10) (ci := 2) (st := []) (st1 := [.int (nI (r_bn ρ + 1))]) d_P_bound_24 k_Ru_addBound rfl rfl tw_265 tw_266 tw_267 rfl (Nat.le_of_ble_eq_true rfl) rfl (Nat.le_of_ble_eq_true rfl) rfl rfl (c_Ru_addBound l g _ L M ρ hr h4 c r v) rfl ?_
  exact ew_iret d_P_bound_27 rfl (⟨rfl, rfl, rfl⟩)
set_option maxRecDepth 100000 in
theorem c_P_clear (l : Launch) (g : ew_G) (d L : Nat) (M : ew_M)  :
    Ew l g (d + 1) 0 0 m_P_clear 0 [.ref 3] [] (ew_SH L) M (ew_q (none) (ew_SH L) (ew_w (ew_w (ew_w M 11 0 (nI 0)) 11 1 (nI 0)) 10 4 (nI 0))) := by
  refine ew_aload_n d_P_clear_0 rfl ?_
  refine ew_getr (ci := 0) (f := 1) d_P_clear_1 rfl rfl rfl tw_214 ?_
  refine en_callV (As := []) (i := 10) (ci := 2) (st := []) (st1 := []) d_P_clear_4 k_Ru_dropAll rfl rfl tw_273 tw_274 tw_275 rfl (Nat.le_of_ble_eq_true rfl) rfl (Nat.le_of_ble_eq_true rfl) rfl rfl (c_Ru_dropAll l g _ L M) rfl ?_
  exact ew_ret d_P_clear_7 rfl (⟨rfl, rfl, rfl⟩)
set_option maxRecDepth 100000 in
theorem c_P_set0 (l : Launch) (g : ew_G) (d L : Nat) (M : ew_M) (r v : Nat) (hr8 : r < 8) (hv : v < 12289) :
    Ew l g (d + 2) 0 0 m_P_set 0 [.ref 3, .int (nI 0), .int (nI r), .int (nI v)] [] (ew_SH L) M (ew_q (some (.int (nI 1))) (ew_SH L) (ew_w M 19 r (nI v))) := by
  refine ew_iload_n d_P_set_0 rfl ?_
  refine ew_iload_n d_P_set_1 rfl ?_
  refine en_callS (As := [.int (nI 0), .int (nI r)]) (st := []) (st1 := [.int (ew_b (sp_in (nI 0) 2 && sp_in (nI r) 8))]) d_P_set_2 k_P_isCell tw_262 tw_263 rfl (Nat.le_of_ble_eq_true rfl) rfl (Nat.le_of_ble_eq_true rfl) rfl rfl (c_P_isCell l g _ L M (nI 0) (nI r)) rfl ?_
  refine en_b_eq (tgt := 15) d_P_set_5 (by decide) (fun h5 => by exact absurd h5 (by rw [sp_in_nI (by decide) (by decide), sp_in_nI (by decide) hr8]; decide)) (fun h5 => ?_)
  refine ew_iload_n d_P_set_8 rfl ?_
  refine en_callS (As := [.int (nI v)]) (st := []) (st1 := [.int (ew_b (sp_in (nI v) 12289))]) d_P_set_9 k_Fi_holds tw_245 tw_246 rfl (Nat.le_of_ble_eq_true rfl) rfl (Nat.le_of_ble_eq_true rfl) rfl rfl (c_Fi_holds l g _ (ew_SH L) M (nI v)) rfl ?_
  refine en_b_ne (tgt := 17) d_P_set_12 (by decide) (fun h12 => ?_) (fun h12 => by exact absurd h12 (by rw [sp_in_nI (by decide) hv]; decide))
  refine ew_aload_n d_P_set_17 rfl ?_
  refine ew_getr (ci := 0) (f := 2) d_P_set_18 rfl rfl rfl tw_215 ?_
  refine ew_iload_n d_P_set_21 rfl ?_
  refine ew_iload_n d_P_set_22 rfl ?_
  refine ew_iload_n d_P_set_23 rfl ?_
  refine en_callV (As := [.int (nI 0), .int (nI r), .int (nI v)]) (i := 17) (ci := 3) (st := []) (st1 := []) d_P_set_24 k_Ta_put rfl rfl tw_281 tw_282 tw_283 rfl (Nat.le_of_ble_eq_true rfl) rfl (Nat.le_of_ble_eq_true rfl) rfl rfl (c_Ta_put0 l g _ L M r (nI v) (by first | with_reducible assumption | with_reducible exact ep_lt _ | with_reducible exact sp_its_lt _ _ _ | with_reducible exact tb_l_rt _ | with_reducible exact tb_l_x _ | with_reducible exact tb_l_o0 _ | with_reducible exact tb_l_o1 _ | with_reducible exact tb_l_va _ | with_reducible exact tb_l_ll _ | with_reducible exact tb_l_cf _ | with_reducible exact tb_l_kf _ | with_reducible exact sp_ts_lt _ _ _ _ | with_reducible exact sp_w_lt _ _ | with_reducible exact sp_cs_lt _ _ _ _ _ | with_reducible exact sp_cb_lt _ _ _ _ _ | with_reducible exact sp_ch_lt _ | with_reducible exact sp_bf_lt _ _ | omega)) rfl ?_
  refine ew_iconst (v := nI 1) d_P_set_27 (by decide) ?_
  exact ew_zret d_P_set_28 rfl (by decide) (⟨rfl, rfl, rfl⟩)
set_option maxRecDepth 100000 in
theorem c_P_set1 (l : Launch) (g : ew_G) (d L : Nat) (M : ew_M) (r v : Nat) (hr8 : r < 8) (hv : v < 12289) :
    Ew l g (d + 2) 0 0 m_P_set 0 [.ref 3, .int (nI 1), .int (nI r), .int (nI v)] [] (ew_SH L) M (ew_q (some (.int (nI 1))) (ew_SH L) (ew_w M 20 r (nI v))) := by
  refine ew_iload_n d_P_set_0 rfl ?_
  refine ew_iload_n d_P_set_1 rfl ?_
  refine en_callS (As := [.int (nI 1), .int (nI r)]) (st := []) (st1 := [.int (ew_b (sp_in (nI 1) 2 && sp_in (nI r) 8))]) d_P_set_2 k_P_isCell tw_262 tw_263 rfl (Nat.le_of_ble_eq_true rfl) rfl (Nat.le_of_ble_eq_true rfl) rfl rfl (c_P_isCell l g _ L M (nI 1) (nI r)) rfl ?_
  refine en_b_eq (tgt := 15) d_P_set_5 (by decide) (fun h5 => by exact absurd h5 (by rw [sp_in_nI (by decide) (by decide), sp_in_nI (by decide) hr8]; decide)) (fun h5 => ?_)
  refine ew_iload_n d_P_set_8 rfl ?_
  refine en_callS (As := [.int (nI v)]) (st := []) (st1 := [.int (ew_b (sp_in (nI v) 12289))]) d_P_set_9 k_Fi_holds tw_245 tw_246 rfl (Nat.le_of_ble_eq_true rfl) rfl (Nat.le_of_ble_eq_true rfl) rfl rfl (c_Fi_holds l g _ (ew_SH L) M (nI v)) rfl ?_
  refine en_b_ne (tgt := 17) d_P_set_12 (by decide) (fun h12 => ?_) (fun h12 => by exact absurd h12 (by rw [sp_in_nI (by decide) hv]; decide))
  refine ew_aload_n d_P_set_17 rfl ?_
  refine ew_getr (ci := 0) (f := 2) d_P_set_18 rfl rfl rfl tw_215 ?_
  refine ew_iload_n d_P_set_21 rfl ?_
  refine ew_iload_n d_P_set_22 rfl ?_
  refine ew_iload_n d_P_set_23 rfl ?_
  refine en_callV (As := [.int (nI 1), .int (nI r), .int (nI v)]) (i := 17) (ci := 3) (st := []) (st1 := []) d_P_set_24 k_Ta_put rfl rfl tw_281 tw_282 tw_283 rfl (Nat.le_of_ble_eq_true rfl) rfl (Nat.le_of_ble_eq_true rfl) rfl rfl (c_Ta_put1 l g _ L M r (nI v) (by first | with_reducible assumption | with_reducible exact ep_lt _ | with_reducible exact sp_its_lt _ _ _ | with_reducible exact tb_l_rt _ | with_reducible exact tb_l_x _ | with_reducible exact tb_l_o0 _ | with_reducible exact tb_l_o1 _ | with_reducible exact tb_l_va _ | with_reducible exact tb_l_ll _ | with_reducible exact tb_l_cf _ | with_reducible exact tb_l_kf _ | with_reducible exact sp_ts_lt _ _ _ _ | with_reducible exact sp_w_lt _ _ | with_reducible exact sp_cs_lt _ _ _ _ _ | with_reducible exact sp_cb_lt _ _ _ _ _ | with_reducible exact sp_ch_lt _ | with_reducible exact sp_bf_lt _ _ | omega)) rfl ?_
  refine ew_iconst (v := nI 1) d_P_set_27 (by decide) ?_
  exact ew_zret d_P_set_28 rfl (by decide) (⟨rfl, rfl, rfl⟩)
set_option maxRecDepth 100000 in
theorem c_P_cellB (l : Launch) (g : ew_G) (d L : Nat) (M : ew_M) (c r : Int32) (h : (sp_in c 2 && sp_in r 8) = false) :
    Ew l g (d + 2) 0 0 m_P_cell 0 [.ref 3, .int c, .int r] [] (ew_SH L) M (ew_q (some (.int (-1))) (ew_SH L) M) := by
  refine ew_iload_n d_P_cell_0 rfl ?_
  refine ew_iload_n d_P_cell_1 rfl ?_
  refine en_callS (As := [.int c, .int r]) (st := []) (st1 := [.int (ew_b (sp_in c 2 && sp_in r 8))]) d_P_cell_2 k_P_isCell tw_262 tw_263 rfl (Nat.le_of_ble_eq_true rfl) rfl (Nat.le_of_ble_eq_true rfl) rfl rfl (c_P_isCell l g _ L M c r) rfl ?_
  refine en_b_eq (tgt := 20) d_P_cell_5 (by decide) (fun h5 => ?_) (fun h5 => by exact absurd h (by rw [h5]; decide))
  refine ew_iconst (v := -1) d_P_cell_20 (by decide) ?_
  exact ew_iret d_P_cell_21 rfl (⟨rfl, rfl, rfl⟩)
set_option maxRecDepth 100000 in
theorem c_P_cell (l : Launch) (g : ew_G) (d L : Nat) (M : ew_M) (ce : Nat → Nat → Nat) (hce : sp_ce ce M) (c r : Nat) (hc : c < 2) (hr8 : r < 8) :
    Ew l g (d + 2) 0 0 m_P_cell 0 [.ref 3, .int (nI c), .int (nI r)] [] (ew_SH L) M (ew_q (some (.int (nI (ce c r)))) (ew_SH L) M) := by
  refine ew_iload_n d_P_cell_0 rfl ?_
  refine ew_iload_n d_P_cell_1 rfl ?_
  refine en_callS (As := [.int (nI c), .int (nI r)]) (st := []) (st1 := [.int (ew_b (sp_in (nI c) 2 && sp_in (nI r) 8))]) d_P_cell_2 k_P_isCell tw_262 tw_263 rfl (Nat.le_of_ble_eq_true rfl) rfl (Nat.le_of_ble_eq_true rfl) rfl rfl (c_P_isCell l g _ L M (nI c) (nI r)) rfl ?_
  refine en_b_eq (tgt := 20) d_P_cell_5 (by decide) (fun h5 => by exact absurd h5 (by rw [sp_in_nI (by decide) hc, sp_in_nI (by decide) hr8]; decide)) (fun h5 => ?_)
  refine ew_aload_n d_P_cell_8 rfl ?_
  refine ew_getr (ci := 0) (f := 2) d_P_cell_9 rfl rfl rfl tw_215 ?_
  refine ew_iload_n d_P_cell_12 rfl ?_
  refine ew_iload_n d_P_cell_13 rfl ?_
  refine en_callV (As := [.int (nI c), .int (nI r)]) (i := 17) (ci := 3) (st := []) (st1 := [.int (nI (ce c r))]) d_P_cell_14 k_Ta_get rfl rfl tw_289 tw_290 tw_291 rfl (Nat.le_of_ble_eq_true rfl) rfl (Nat.le_of_ble_eq_true rfl) rfl rfl (c_Ta_getc l g _ L M ce hce c r hc hr8) rfl ?_
  refine ew_goto (tgt := 21) d_P_cell_17 (by decide) ?_
  exact ew_iret d_P_cell_21 rfl (⟨rfl, rfl, rfl⟩)
set_option maxRecDepth 100000 in
theorem c_P_atB (l : Launch) (g : ew_G) (d L : Nat) (M : ew_M) (c i : Int32) (h : (sp_in c 2 && sp_in i 32) = false) :
    Ew l g (d + 2) 0 0 m_P_at 0 [.ref 3, .int c, .int i] [] (ew_SH L) M (ew_q (some (.int (-1))) (ew_SH L) M) := by
  refine ew_iload_n d_P_at_0 rfl ?_
  refine en_callS (As := [.int c]) (st := []) (st1 := [.int (ew_b (sp_in c 2))]) d_P_at_1 k_P_isColumn tw_242 tw_243 rfl (Nat.le_of_ble_eq_true rfl) rfl (Nat.le_of_ble_eq_true rfl) rfl rfl (c_P_isColumn l g _ (ew_SH L) M c) rfl ?_
  refine en_b_eq (tgt := 17) d_P_at_4 (by decide) (fun h4 => ?_) (fun h4 => ?_)
  · refine ew_iconst (v := -1) d_P_at_17 (by decide) ?_
    exact ew_iret d_P_at_18 rfl (⟨rfl, rfl, rfl⟩)
  · refine ew_iload_n d_P_at_7 rfl ?_
    refine ew_if_lt (tgt := 17) d_P_at_8 (by decide) (fun h8 => ?_) (fun h8 => ?_)
    · refine ew_iconst (v := -1) d_P_at_17 (by decide) ?_
      exact ew_iret d_P_at_18 rfl (⟨rfl, rfl, rfl⟩)
    · refine ew_iload_n d_P_at_11 rfl ?_
      refine ew_bipush (v := nI 32) d_P_at_12 (by decide) ?_
      refine ew_icmp_lt (tgt := 19) d_P_at_14 (by decide) (fun h14 => ?_) (fun h14 => ?_)
      · exact absurd h (by rw [h4, sp_in_t h8 (Int32.not_le.mpr h14)]; decide)
      · refine ew_iconst (v := -1) d_P_at_17 (by decide) ?_
        exact ew_iret d_P_at_18 rfl (⟨rfl, rfl, rfl⟩)
set_option maxRecDepth 100000 in
theorem c_P_at0 (l : Launch) (g : ew_G) (d L : Nat) (M : ew_M) (hT : sp_tab M) (ce : Nat → Nat → Nat) (hce : sp_ce ce M) (i : Nat) (hi : i < 32) :
    Ew l g (d + 3) 0 0 m_P_at 0 [.ref 3, .int (nI 0), .int (nI i)] [] (ew_SH L) M (ew_q (some (.int (nI (sp_p ce 0 i)))) (ew_SH L) M) := by
  refine ew_iload_n d_P_at_0 rfl ?_
  refine en_callS (As := [.int (nI 0)]) (st := []) (st1 := [.int (ew_b (sp_in (nI 0) 2))]) d_P_at_1 k_P_isColumn tw_242 tw_243 rfl (Nat.le_of_ble_eq_true rfl) rfl (Nat.le_of_ble_eq_true rfl) rfl rfl (c_P_isColumn l g _ (ew_SH L) M (nI 0)) rfl ?_
  refine en_b_eq (tgt := 17) d_P_at_4 (by decide) (fun h4 => by exact absurd h4 (by rw [sp_in_nI (by decide) (by decide)]; decide)) (fun h4 => ?_)
  refine ew_iload_n d_P_at_7 rfl ?_
  refine en_if_lt (tgt := 17) d_P_at_8 (by decide) (by omega) ?_
  refine ew_iload_n d_P_at_11 rfl ?_
  refine ew_bipush (v := nI 32) d_P_at_12 (by decide) ?_
  refine en_icmp_lt (tgt := 19) d_P_at_14 (by decide) (by omega) (by omega) (fun h14 => ?_) (fun h14 => by exact absurd h14 (by omega))
  refine ew_aload_n d_P_at_19 rfl ?_
  refine ew_getr (ci := 0) (f := 2) d_P_at_20 rfl rfl rfl tw_215 ?_
  refine ew_iload_n d_P_at_23 rfl ?_
  refine ew_iload_n d_P_at_24 rfl ?_
  refine en_callV (As := [.int (nI 0), .int (nI i)]) (i := 17) (ci := 3) (st := []) (st1 := [.int (nI (sp_p ce 0 i))]) d_P_at_25 k_Ta_polynomial rfl rfl tw_297 tw_298 tw_299 rfl (Nat.le_of_ble_eq_true rfl) rfl (Nat.le_of_ble_eq_true rfl) rfl rfl (c_Ta_polynomial0 l g _ L M hT (ce 0) hce.1 i hi) rfl ?_
  exact ew_iret d_P_at_28 rfl (⟨rfl, rfl, rfl⟩)
set_option maxRecDepth 100000 in
theorem c_P_at1 (l : Launch) (g : ew_G) (d L : Nat) (M : ew_M) (hT : sp_tab M) (ce : Nat → Nat → Nat) (hce : sp_ce ce M) (i : Nat) (hi : i < 32) :
    Ew l g (d + 3) 0 0 m_P_at 0 [.ref 3, .int (nI 1), .int (nI i)] [] (ew_SH L) M (ew_q (some (.int (nI (sp_p ce 1 i)))) (ew_SH L) M) := by
  refine ew_iload_n d_P_at_0 rfl ?_
  refine en_callS (As := [.int (nI 1)]) (st := []) (st1 := [.int (ew_b (sp_in (nI 1) 2))]) d_P_at_1 k_P_isColumn tw_242 tw_243 rfl (Nat.le_of_ble_eq_true rfl) rfl (Nat.le_of_ble_eq_true rfl) rfl rfl (c_P_isColumn l g _ (ew_SH L) M (nI 1)) rfl ?_
  refine en_b_eq (tgt := 17) d_P_at_4 (by decide) (fun h4 => by exact absurd h4 (by rw [sp_in_nI (by decide) (by decide)]; decide)) (fun h4 => ?_)
  refine ew_iload_n d_P_at_7 rfl ?_
  refine en_if_lt (tgt := 17) d_P_at_8 (by decide) (by omega) ?_
  refine ew_iload_n d_P_at_11 rfl ?_
  refine ew_bipush (v := nI 32) d_P_at_12 (by decide) ?_
  refine en_icmp_lt (tgt := 19) d_P_at_14 (by decide) (by omega) (by omega) (fun h14 => ?_) (fun h14 => by exact absurd h14 (by omega))
  refine ew_aload_n d_P_at_19 rfl ?_
  refine ew_getr (ci := 0) (f := 2) d_P_at_20 rfl rfl rfl tw_215 ?_
  refine ew_iload_n d_P_at_23 rfl ?_
  refine ew_iload_n d_P_at_24 rfl ?_
  refine en_callV (As := [.int (nI 1), .int (nI i)]) (i := 17) (ci := 3) (st := []) (st1 := [.int (nI (sp_p ce 1 i))]) d_P_at_25 k_Ta_polynomial rfl rfl tw_297 tw_298 tw_299 rfl (Nat.le_of_ble_eq_true rfl) rfl (Nat.le_of_ble_eq_true rfl) rfl rfl (c_Ta_polynomial1 l g _ L M hT (ce 1) hce.2 i hi) rfl ?_
  exact ew_iret d_P_at_28 rfl (⟨rfl, rfl, rfl⟩)
def sp_fr (L : Nat) (M : ew_M) (r : Int32) : Option Value → List ew_S → ew_M → Prop := fun v sh' M' => sh' = ew_SH L ∧ v = some (.int r) ∧ (∀ q, q ≠ 16 → M' q = M q) ∧ M' 16 0 = nI 1
def sp_wg (ρ : sp_R) (ce : Nat → Nat → Nat) : Nat → Nat → Int32
  | 0, _ => -2
  | n + 1, r => if sp_wr ρ ce r = true then nI r else sp_wg ρ ce n (r + 1)
def sp_wrong (ρ : sp_R) (ce : Nat → Nat → Nat) : Int32 := sp_wg ρ ce 8 0
set_option maxRecDepth 100000 in
theorem c_Ru_areBrokenIn (l : Launch) (g : ew_G) (d L : Nat) (M : ew_M) (ρ : sp_R) (hr : sp_ru ρ M) (ce : Nat → Nat → Nat) (hc : sp_ce ce M) (h16 : M 16 0 = nI 1) (r : Nat) (h8 : r < 8) :
    Ew l g (d + 3) 0 0 m_Ru_areBrokenIn 0 [.ref 10, .ref 17, .int (nI r)] [] (ew_SH L) M (sp_fr L M (ew_b (sp_wr ρ ce r))) := by
  refine ew_iload_n d_Ru_areBrokenIn_0 rfl ?_
  refine ew_bipush (v := nI 7) d_Ru_areBrokenIn_1 (by decide) ?_
  refine en_icmp_ge (tgt := 15) d_Ru_areBrokenIn_3 (by decide) (by omega) (by omega) (fun h3 => ?_) (fun h3 => ?_)
  · refine ew_aload_n d_Ru_areBrokenIn_15 rfl ?_
    refine ew_aload_n d_Ru_areBrokenIn_16 rfl ?_
    refine ew_iload_n d_Ru_areBrokenIn_17 rfl ?_
    refine en_callV (As := [.ref 17, .int (nI r)]) (i := 10) (ci := 2) (st := []) (st1 := [.int (ew_b (sp_ba ρ ce r (r_bn ρ)))]) d_Ru_areBrokenIn_18 k_Ru_isBoundBroken rfl rfl tw_334 tw_336 tp_3 rfl (Nat.le_of_ble_eq_true rfl) rfl (Nat.le_of_ble_eq_true rfl) rfl rfl (c_Ru_isBoundBroken l g _ L M ρ hr ce hc r h8) rfl ?_
    refine en_b_eq (tgt := 28) d_Ru_areBrokenIn_21 (by decide) (fun h21 => ?_) (fun h21 => ?_)
    · refine ew_iconst (v := nI 0) d_Ru_areBrokenIn_28 (by decide) ?_
      exact ew_zret d_Ru_areBrokenIn_29 rfl (by decide) (⟨rfl, by rw [show sp_wr ρ ce r = false from by (unfold sp_wr; first | (rw [decide_eq_true h3, h12, h21]; rfl) | (rw [decide_eq_true h3, h12]; rfl) | (rw [decide_eq_false (by omega), h21]; rfl))]; rfl, fun q hq => rfl, h16⟩)
    · refine ew_iconst (v := nI 1) d_Ru_areBrokenIn_24 (by decide) ?_
      refine ew_goto (tgt := 29) d_Ru_areBrokenIn_25 (by decide) ?_
      exact ew_zret d_Ru_areBrokenIn_29 rfl (by decide) (⟨rfl, by rw [show sp_wr ρ ce r = true from by (unfold sp_wr; first | (rw [decide_eq_true h3, h12, h21]; rfl) | (rw [decide_eq_true h3, h12]; rfl) | (rw [decide_eq_false (by omega), h21]; rfl))]; rfl, fun q hq => rfl, h16⟩)
  · refine ew_aload_n d_Ru_areBrokenIn_6 rfl ?_
    refine ew_aload_n d_Ru_areBrokenIn_7 rfl ?_
    refine ew_iload_n d_Ru_areBrokenIn_8 rfl ?_
    refine en_callV (As := [.ref 17, .int (nI r)]) (i := 10) (ci := 2) (st := []) (st1 := [.int (ew_b (sp_sb ρ ce r))]) d_Ru_areBrokenIn_9 k_Ru_isStepBroken rfl rfl tw_319 tw_321 tp_1 rfl (Nat.le_of_ble_eq_true rfl) rfl (Nat.le_of_ble_eq_true rfl) rfl rfl (c_Ru_isStepBroken l g _ L M ρ hr ce hc h16 r h3) rfl ?_
    refine en_b_ne (tgt := 24) d_Ru_areBrokenIn_12 (by decide) (fun h12 => ?_) (fun h12 => ?_)
    · refine ew_iconst (v := nI 1) d_Ru_areBrokenIn_24 (by decide) ?_
      refine ew_goto (tgt := 29) d_Ru_areBrokenIn_25 (by decide) ?_
      exact ew_zret d_Ru_areBrokenIn_29 rfl (by decide) (⟨rfl, by rw [show sp_wr ρ ce r = true from by (unfold sp_wr; first | (rw [decide_eq_true h3, h12, h21]; rfl) | (rw [decide_eq_true h3, h12]; rfl) | (rw [decide_eq_false (by omega), h21]; rfl))]; rfl, fun q hq => sp_rd_ne hq, by rw [sp_rdr, sp_rd_0]; exact h16⟩)
    · refine ew_aload_n d_Ru_areBrokenIn_15 rfl ?_
      refine ew_aload_n d_Ru_areBrokenIn_16 rfl ?_
      refine ew_iload_n d_Ru_areBrokenIn_17 rfl ?_
      refine en_callV (As := [.ref 17, .int (nI r)]) (i := 10) (ci := 2) (st := []) (st1 := [.int (ew_b (sp_ba ρ ce r (r_bn ρ)))]) d_Ru_areBrokenIn_18 k_Ru_isBoundBroken rfl rfl tw_334 tw_336 tp_3 rfl (Nat.le_of_ble_eq_true rfl) rfl (Nat.le_of_ble_eq_true rfl) rfl rfl (c_Ru_isBoundBroken l g _ L (sp_rdr M 16 ce r) ρ (sp_ru_of hr (sp_rd_ne (by decide)) (sp_rd_ne (by decide)) (sp_rd_ne (by decide)) (sp_rd_ne (by decide)) (sp_rd_ne (by decide))) ce (sp_ce_of hc (sp_rd_ne (by decide)) (sp_rd_ne (by decide))) r h8) rfl ?_
      refine en_b_eq (tgt := 28) d_Ru_areBrokenIn_21 (by decide) (fun h21 => ?_) (fun h21 => ?_)
      · refine ew_iconst (v := nI 0) d_Ru_areBrokenIn_28 (by decide) ?_
        exact ew_zret d_Ru_areBrokenIn_29 rfl (by decide) (⟨rfl, by rw [show sp_wr ρ ce r = false from by (unfold sp_wr; first | (rw [decide_eq_true h3, h12, h21]; rfl) | (rw [decide_eq_true h3, h12]; rfl) | (rw [decide_eq_false (by omega), h21]; rfl))]; rfl, fun q hq => sp_rd_ne hq, by rw [sp_rdr, sp_rd_0]; exact h16⟩)
      · refine ew_iconst (v := nI 1) d_Ru_areBrokenIn_24 (by decide) ?_
        refine ew_goto (tgt := 29) d_Ru_areBrokenIn_25 (by decide) ?_
        exact ew_zret d_Ru_areBrokenIn_29 rfl (by decide) (⟨rfl, by rw [show sp_wr ρ ce r = true from by (unfold sp_wr; first | (rw [decide_eq_true h3, h12, h21]; rfl) | (rw [decide_eq_true h3, h12]; rfl) | (rw [decide_eq_false (by omega), h21]; rfl))]; rfl, fun q hq => sp_rd_ne hq, by rw [sp_rdr, sp_rd_0]; exact h16⟩)
set_option maxRecDepth 100000 in
theorem lp_P_wrong (l : Launch) (g : ew_G) (d L : Nat) (M0 : ew_M) (ρ : sp_R) (hr : sp_ru ρ M0) (ce : Nat → Nat → Nat) (hc : sp_ce ce M0) : ∀ (fu r : Nat) (M : ew_M), 8 - r < fu → r ≤ 8 → ((∀ q, q ≠ 16 → M q = M0 q) ∧ M 16 0 = nI 1) → Ew l g (d + 4) 0 0 m_P_wrong 2 [.ref 3, .int (nI r)] [] (ew_SH L) M (sp_fr L M0 (sp_wg ρ ce (8 - r) r)) := by
  intro fu
  induction fu with
  | zero =>
    intro r M hn
    exact absurd hn (Nat.not_lt_zero _)
  | succ fu ih =>
    intro r M hn hle hI
    refine ew_iload_n d_P_wrong_2 rfl ?_
    refine ew_bipush (v := nI 8) d_P_wrong_3 (by decide) ?_
    refine en_icmp_ge (tgt := 31) d_P_wrong_5 (by decide) (by omega) (by omega) (fun h5 => ?_) (fun h5 => ?_)
    · refine ew_bipush (v := -2) d_P_wrong_31 (by decide) ?_
      exact ew_iret d_P_wrong_33 rfl (⟨rfl, by rw [show 8 - r = 0 by omega]; rfl, hI.1, hI.2⟩)
    · refine ew_aload_n d_P_wrong_8 rfl ?_
      refine ew_getr (ci := 0) (f := 1) d_P_wrong_9 rfl rfl rfl tw_214 ?_
      refine ew_aload_n d_P_wrong_12 rfl ?_
      refine ew_getr (ci := 0) (f := 2) d_P_wrong_13 rfl rfl rfl tw_215 ?_
      refine ew_iload_n d_P_wrong_16 rfl ?_
      refine en_callVq (As := [.ref 17, .int (nI r)]) (i := 10) (ci := 2) (st := []) d_P_wrong_17 k_Ru_areBrokenIn rfl rfl tw_315 tw_316 tw_317 rfl (Nat.le_of_ble_eq_true rfl) rfl (Nat.le_of_ble_eq_true rfl) rfl rfl (c_Ru_areBrokenIn l g _ L M ρ (sp_ru_of hr (hI.1 10 (by decide)) (hI.1 11 (by decide)) (hI.1 13 (by decide)) (hI.1 14 (by decide)) (hI.1 15 (by decide))) ce (sp_ce_of hc (hI.1 19 (by decide)) (hI.1 20 (by decide))) hI.2 r (by omega)) ?_
      rintro _ _ M1 ⟨rfl, rfl, a1, a2⟩
      show Ew l g _ _ _ m_P_wrong 20 [.ref 3, .int (nI r)] [.int (ew_b (sp_wr ρ ce r))] (ew_SH L) M1 _
      refine en_b_eq (tgt := 25) d_P_wrong_20 (by decide) (fun h20 => ?_) (fun h20 => ?_)
      · refine en_inc (ls' := [.ref 3, .int (nI (r + 1))]) d_P_wrong_25 rfl rfl ?_
        refine ew_goto (tgt := 2) d_P_wrong_28 (by decide) ?_
        rw [show 8 - r = (8 - (r + 1)) + 1 by omega, sp_wg, if_neg (by rw [h20]; decide)]
        exact ih (r + 1) M1 (by omega) (by omega) ⟨fun q hq => (a1 q hq).trans (hI.1 q hq), a2⟩
      · refine ew_iload_n d_P_wrong_23 rfl ?_
        exact ew_iret d_P_wrong_24 rfl (⟨rfl, by rw [show 8 - r = (8 - (r + 1)) + 1 by omega, sp_wg, if_pos h20], fun q hq => (a1 q hq).trans (hI.1 q hq), a2⟩)
set_option maxRecDepth 100000 in
theorem c_P_wrong (l : Launch) (g : ew_G) (d L : Nat) (M : ew_M) (ρ : sp_R) (hr : sp_ru ρ M) (ce : Nat → Nat → Nat) (hc : sp_ce ce M) (h16 : M 16 0 = nI 1) :
    Ew l g (d + 4) 0 0 m_P_wrong 0 [.ref 3, .retAddr 0] [] (ew_SH L) M (sp_fr L M (sp_wrong ρ ce)) := by
  refine ew_iconst (v := nI 0) d_P_wrong_0 (by decide) ?_
  refine en_istore_n (ls' := [.ref 3, .int (nI 0)]) d_P_wrong_1 (Nat.le_of_ble_eq_true rfl) rfl ?_
  exact lp_P_wrong l g d L M ρ hr ce hc 9 0 M (by omega) (by omega) ⟨fun _ _ => rfl, h16⟩
