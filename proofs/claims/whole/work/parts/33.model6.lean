def sp_ppi (ce : Nat → Nat → Nat) (M0 : ew_M) (n : Nat) (M : ew_M) : Prop := (∀ q, q ≠ 61 → M q = M0 q) ∧ ∀ j, j < n → M 61 j = nI (sp_p ce (j / 32) (j % 32))
theorem sp_ppi_s {ce : Nat → Nat → Nat} {M0 M : ew_M} {n c i : Nat} (h : sp_ppi ce M0 n M) (h1 : n / 32 = c) (h2 : n % 32 = i) : sp_ppi ce M0 (n + 1) (ew_w M 61 n (nI (sp_p ce c i))) := by
  refine ⟨fun q hq => (ew_w_ne hq).trans (h.1 q hq), fun j hj => ?_⟩
  by_cases e : j = n
  · subst e
    rw [h1, h2]
    exact ew_w_at
  · exact (ew_w_j e).trans (h.2 j (by omega))
theorem sp_pq0 {ce : Nat → Nat → Nat} {f : Nat → Int32} {i : Nat} (h : ∀ j, j < 64 → f j = nI (sp_p ce (j / 32) (j % 32))) (hi : i < 32) : f i = nI (sp_p ce 0 i) := by
  have z := h i (by omega)
  rwa [show i / 32 = 0 by omega, show i % 32 = i by omega] at z
theorem sp_pq1 {ce : Nat → Nat → Nat} {f : Nat → Int32} {i : Nat} (h : ∀ j, j < 64 → f j = nI (sp_p ce (j / 32) (j % 32))) (hi : i < 32) : f (32 + i) = nI (sp_p ce 1 i) := by
  have z := h (32 + i) (by omega)
  rwa [show (32 + i) / 32 = 1 by omega, show (32 + i) % 32 = i by omega] at z
set_option maxRecDepth 100000 in
theorem lp_Mo_prP0 (l : Launch) (g : ew_G) (d L : Nat) (M0 : ew_M) (hR : sp_rts M0) (ce : Nat → Nat → Nat) (hc : sp_cm ce M0) (Q : Option Value → List ew_S → ew_M → Prop) (K : ∀ M : ew_M, sp_ppi ce M0 (0 + 32) M → Ew l g (d + 4) 0 0 m_Mo_prove 70 [.ref 47, .retAddr 0, .int (nI 0), .int (nI 32)] [] (ew_SH L) M Q) : ∀ (fu i : Nat) (M : ew_M), 32 - i < fu → i ≤ 32 → sp_ppi ce M0 (0 + i) M → Ew l g (d + 4) 0 0 m_Mo_prove 37 [.ref 47, .retAddr 0, .int (nI 0), .int (nI i)] [] (ew_SH L) M Q := by
  intro fu
  induction fu with
  | zero =>
    intro i M hn
    exact absurd hn (Nat.not_lt_zero _)
  | succ fu ih =>
    intro i M hn hle hI
    refine ew_iload_n d_Mo_prove_37 rfl ?_
    refine ew_bipush (v := nI 32) d_Mo_prove_38 (by decide) ?_
    refine en_icmp_ge (tgt := 70) d_Mo_prove_40 (by decide) (by omega) (by omega) (fun h40 => ?_) (fun h40 => ?_)
    · obtain rfl : i = 32 := by omega
      exact K M hI
    · refine ew_aload_n d_Mo_prove_43 rfl ?_
      refine ew_getr (ci := 9) (f := 20) d_Mo_prove_44 rfl rfl rfl tw_611 ?_
      refine ew_bipush (v := nI 32) d_Mo_prove_47 (by decide) ?_
      refine ew_iload_n d_Mo_prove_49 rfl ?_
      refine en_imul d_Mo_prove_50 ?_
      refine en_eq rfl (show _ = [.int (nI 0), .ref 61] from rfl) rfl ?_
      refine ew_iload_n d_Mo_prove_51 rfl ?_
      refine en_iadd d_Mo_prove_52 ?_
      refine ew_aload_n d_Mo_prove_53 rfl ?_
      refine ew_iload_n d_Mo_prove_54 rfl ?_
      refine ew_aload_n d_Mo_prove_55 rfl ?_
      refine ew_iload_n d_Mo_prove_56 rfl ?_
      refine en_callV (As := [.int (nI i)]) (i := 47) (ci := 9) (st := [.int (nI 0), .ref 47, .int (nI (0 + i)), .ref 61]) (st1 := [.int (nI (tb_x i)), .int (nI 0), .ref 47, .int (nI (0 + i)), .ref 61]) d_Mo_prove_57 k_Mo_x rfl rfl tw_697 tw_699 tp_27 rfl (Nat.le_of_ble_eq_true rfl) rfl (Nat.le_of_ble_eq_true rfl) rfl rfl (c_Mo_x l g _ L M (sp_rts_of hR (hI.1 60 (by decide))) i (by omega)) rfl ?_
      refine en_callV (As := [.int (nI 0), .int (nI (tb_x i))]) (i := 47) (ci := 9) (st := [.int (nI (0 + i)), .ref 61]) (st1 := [.int (nI (sp_va (ce 0) (tb_x i) 8)), .int (nI (0 + i)), .ref 61]) d_Mo_prove_60 k_Mo_valueAt rfl rfl tw_705 tw_707 tp_29 rfl (Nat.le_of_ble_eq_true rfl) rfl (Nat.le_of_ble_eq_true rfl) rfl rfl (c_Mo_valueAt l g _ L M (sp_rts_of hR (hI.1 60 (by decide))) ce (sp_cm_of hc (hI.1 48 (by decide))) 0 (tb_x i) (by decide) (ep_lt _)) rfl ?_
      refine en_eq (st' := [.int (nI (sp_p ce 0 i)), .int (nI (0 + i)), .ref 61]) rfl (by rw [show (nI (sp_va (ce 0) (tb_x i) 8)) = (nI (sp_p ce 0 i)) from sp_va_p hc (by decide) h40]) rfl ?_
      refine ew_iast (j := 0 + i) d_Mo_prove_63 rfl (by decide) (rfl) (by omega) (by decide) ?_
      refine en_inc (ls' := [.ref 47, .retAddr 0, .int (nI 0), .int (nI (i + 1))]) d_Mo_prove_64 rfl rfl ?_
      refine ew_goto (tgt := 37) d_Mo_prove_67 (by decide) ?_
      exact ih (i + 1) _ (by omega) (by omega) (sp_ppi_s (n := 0 + i) hI (by omega) (by omega))
set_option maxRecDepth 100000 in
theorem lp_Mo_prP1 (l : Launch) (g : ew_G) (d L : Nat) (M0 : ew_M) (hR : sp_rts M0) (ce : Nat → Nat → Nat) (hc : sp_cm ce M0) (Q : Option Value → List ew_S → ew_M → Prop) (K : ∀ M : ew_M, sp_ppi ce M0 (32 + 32) M → Ew l g (d + 4) 0 0 m_Mo_prove 70 [.ref 47, .retAddr 0, .int (nI 1), .int (nI 32)] [] (ew_SH L) M Q) : ∀ (fu i : Nat) (M : ew_M), 32 - i < fu → i ≤ 32 → sp_ppi ce M0 (32 + i) M → Ew l g (d + 4) 0 0 m_Mo_prove 37 [.ref 47, .retAddr 0, .int (nI 1), .int (nI i)] [] (ew_SH L) M Q := by
  intro fu
  induction fu with
  | zero =>
    intro i M hn
    exact absurd hn (Nat.not_lt_zero _)
  | succ fu ih =>
    intro i M hn hle hI
    refine ew_iload_n d_Mo_prove_37 rfl ?_
    refine ew_bipush (v := nI 32) d_Mo_prove_38 (by decide) ?_
    refine en_icmp_ge (tgt := 70) d_Mo_prove_40 (by decide) (by omega) (by omega) (fun h40 => ?_) (fun h40 => ?_)
    · obtain rfl : i = 32 := by omega
      exact K M hI
    · refine ew_aload_n d_Mo_prove_43 rfl ?_
      refine ew_getr (ci := 9) (f := 20) d_Mo_prove_44 rfl rfl rfl tw_611 ?_
      refine ew_bipush (v := nI 32) d_Mo_prove_47 (by decide) ?_
      refine ew_iload_n d_Mo_prove_49 rfl ?_
      refine en_imul d_Mo_prove_50 ?_
      refine en_eq rfl (show _ = [.int (nI 32), .ref 61] from rfl) rfl ?_
      refine ew_iload_n d_Mo_prove_51 rfl ?_
      refine en_iadd d_Mo_prove_52 ?_
      refine ew_aload_n d_Mo_prove_53 rfl ?_
      refine ew_iload_n d_Mo_prove_54 rfl ?_
      refine ew_aload_n d_Mo_prove_55 rfl ?_
      refine ew_iload_n d_Mo_prove_56 rfl ?_
      refine en_callV (As := [.int (nI i)]) (i := 47) (ci := 9) (st := [.int (nI 1), .ref 47, .int (nI (32 + i)), .ref 61]) (st1 := [.int (nI (tb_x i)), .int (nI 1), .ref 47, .int (nI (32 + i)), .ref 61]) d_Mo_prove_57 k_Mo_x rfl rfl tw_697 tw_699 tp_27 rfl (Nat.le_of_ble_eq_true rfl) rfl (Nat.le_of_ble_eq_true rfl) rfl rfl (c_Mo_x l g _ L M (sp_rts_of hR (hI.1 60 (by decide))) i (by omega)) rfl ?_
      refine en_callV (As := [.int (nI 1), .int (nI (tb_x i))]) (i := 47) (ci := 9) (st := [.int (nI (32 + i)), .ref 61]) (st1 := [.int (nI (sp_va (ce 1) (tb_x i) 8)), .int (nI (32 + i)), .ref 61]) d_Mo_prove_60 k_Mo_valueAt rfl rfl tw_705 tw_707 tp_29 rfl (Nat.le_of_ble_eq_true rfl) rfl (Nat.le_of_ble_eq_true rfl) rfl rfl (c_Mo_valueAt l g _ L M (sp_rts_of hR (hI.1 60 (by decide))) ce (sp_cm_of hc (hI.1 48 (by decide))) 1 (tb_x i) (by decide) (ep_lt _)) rfl ?_
      refine en_eq (st' := [.int (nI (sp_p ce 1 i)), .int (nI (32 + i)), .ref 61]) rfl (by rw [show (nI (sp_va (ce 1) (tb_x i) 8)) = (nI (sp_p ce 1 i)) from sp_va_p hc (by decide) h40]) rfl ?_
      refine ew_iast (j := 32 + i) d_Mo_prove_63 rfl (by decide) (rfl) (by omega) (by decide) ?_
      refine en_inc (ls' := [.ref 47, .retAddr 0, .int (nI 1), .int (nI (i + 1))]) d_Mo_prove_64 rfl rfl ?_
      refine ew_goto (tgt := 37) d_Mo_prove_67 (by decide) ?_
      exact ih (i + 1) _ (by omega) (by omega) (sp_ppi_s (n := 32 + i) hI (by omega) (by omega))
set_option maxRecDepth 100000 in
theorem sg_Mo_prP (l : Launch) (g : ew_G) (d L : Nat) (M0 : ew_M) (hR : sp_rts M0) (ce : Nat → Nat → Nat) (hc : sp_cm ce M0) (Q : Option Value → List ew_S → ew_M → Prop) (K : ∀ M : ew_M, sp_ppi ce M0 64 M → Ew l g (d + 4) 0 0 m_Mo_prove 76 [.ref 47, .retAddr 0, .retAddr 0, .retAddr 0] [] (ew_SH L) M Q) :
    Ew l g (d + 4) 0 0 m_Mo_prove 30 [.ref 47, .retAddr 0, .int (nI 0), .retAddr 0] [] (ew_SH L) M0 Q := by
  refine ew_iload_n d_Mo_prove_30 rfl ?_
  refine ew_iconst (v := nI 2) d_Mo_prove_31 (by decide) ?_
  refine en_icmp_ge (tgt := 76) d_Mo_prove_32 (by decide) (by decide) (by decide) (fun h32 => by exact absurd h32 (by decide)) (fun h32 => ?_)
  refine ew_iconst (v := nI 0) d_Mo_prove_35 (by decide) ?_
  refine en_istore_n (ls' := [.ref 47, .retAddr 0, .int (nI 0), .int (nI 0)]) d_Mo_prove_36 (Nat.le_of_ble_eq_true rfl) rfl ?_
  refine lp_Mo_prP0 l g d L M0 hR ce hc Q (fun M1 h1 => ?_) 33 0 M0 (by omega) (by omega) ⟨fun _ _ => rfl, fun j hj => absurd hj (by omega)⟩
  refine en_inc (ls' := [.ref 47, .retAddr 0, .int (nI 1), .int (nI 32)]) d_Mo_prove_70 rfl rfl ?_
  refine ew_goto (tgt := 30) d_Mo_prove_73 (by decide) ?_
  refine ew_iload_n d_Mo_prove_30 rfl ?_
  refine ew_iconst (v := nI 2) d_Mo_prove_31 (by decide) ?_
  refine en_icmp_ge (tgt := 76) d_Mo_prove_32 (by decide) (by decide) (by decide) (fun h32 => by exact absurd h32 (by decide)) (fun h32 => ?_)
  refine ew_iconst (v := nI 0) d_Mo_prove_35 (by decide) ?_
  refine en_istore_n (ls' := [.ref 47, .retAddr 0, .int (nI 1), .int (nI 0)]) d_Mo_prove_36 (Nat.le_of_ble_eq_true rfl) rfl ?_
  refine lp_Mo_prP1 l g d L M0 hR ce hc Q (fun M2 h2 => ?_) 33 0 M1 (by omega) (by omega) h1
  refine en_inc (ls' := [.ref 47, .retAddr 0, .int (nI 2), .int (nI 32)]) d_Mo_prove_70 rfl rfl ?_
  refine ew_goto (tgt := 30) d_Mo_prove_73 (by decide) ?_
  refine ew_iload_n d_Mo_prove_30 rfl ?_
  refine ew_iconst (v := nI 2) d_Mo_prove_31 (by decide) ?_
  refine en_icmp_ge (tgt := 76) d_Mo_prove_32 (by decide) (by decide) (by decide) (fun h32 => ?_) (fun h32 => by exact absurd h32 (by decide))
  refine en_drop (ls' := [.ref 47, .retAddr 0, .retAddr 0, .retAddr 0]) ⟨Or.inl rfl, Or.inl rfl, Or.inr rfl, Or.inr rfl, trivial⟩ ?_
  exact K M2 h2
def sp_F0 (M0 M : ew_M) : Prop := (∀ q, q ∉ [47, 56, 57, 58, 61, 62, 63, 64] → M q = M0 q) ∧ ∀ j, j ∉ [9, 11, 12, 14] → M 47 j = M0 47 j
theorem sp_F0_rts {M0 M : ew_M} (h : sp_F0 M0 M) (hR : sp_rts M0) : sp_rts M := sp_rts_of hR (h.1 60 (by decide))
theorem sp_F0_rm {M0 M : ew_M} {ρ : sp_R} (h : sp_F0 M0 M) (hr : sp_rm ρ M0) : sp_rm ρ M := sp_rm_of hr (h.1 49 (by decide)) (h.1 50 (by decide)) (h.1 51 (by decide)) (h.1 52 (by decide)) (h.2 5 (by decide)) (h.1 53 (by decide)) (h.1 54 (by decide)) (h.1 55 (by decide))
theorem sp_F0_w {M0 M : ew_M} {q j : Nat} {x : Int32} (h : sp_F0 M0 M) (hq : q ∈ [47, 56, 57, 58, 61, 62, 63, 64]) (hj : q ≠ 47 ∨ j ∈ [9, 11, 12, 14]) : sp_F0 M0 (ew_w M q j x) := by
  refine ⟨fun r hr => (ew_w_ne (show r ≠ q from fun e => hr (e ▸ hq))).trans (h.1 r hr), fun i hi => ?_⟩
  rcases hj with e | e
  · rw [ew_w_ne (fun z => e z.symm)]
    exact h.2 i hi
  · by_cases z : q = 47
    · subst z
      exact (ew_w_j (show i ≠ j from fun z => hi (z ▸ e))).trans (h.2 i hi)
    · rw [ew_w_ne (fun y => z y.symm)]
      exact h.2 i hi
theorem sp_F0_m {M0 M M' : ew_M} {S : List Nat} (h : sp_F0 M0 M) (hS : ∀ q, q ∈ S → q ∈ [47, 56, 57, 58, 61, 62, 63, 64]) (h47 : 47 ∉ S) (h' : ∀ q, q ∉ S → M' q = M q) : sp_F0 M0 M' := ⟨fun r hr => (h' r (fun z => hr (hS r z))).trans (h.1 r hr), fun j hj => by rw [h' 47 h47]; exact h.2 j hj⟩
def sp_FA (ρ : sp_R) (ce : Nat → Nat → Nat) (M0 : ew_M) (n0 : Nat → Int32) (M : ew_M) : Prop := sp_F0 M0 M ∧ (∀ j, j < 64 → M 61 j = nI (sp_p ce (j / 32) (j % 32))) ∧ sp_tree n0 32 (fun t => sp_mix (nI (sp_p ce 0 t)) (nI (sp_p ce 1 t))) ∧ (∀ m, m < 64 → M 63 (0 + m) = n0 m) ∧ M 47 12 = sp_t0 ρ (n0 1) ∧ M 56 = upd (M0 56) 0 (n0 1) ∧ M 47 14 = nI (sp_ch (sp_t0 ρ (n0 1)))
def sp_FB0 (ρ : sp_R) (ce : Nat → Nat → Nat) (M0 : ew_M) (n0 : Nat → Int32) (M : ew_M) : Prop := sp_F0 M0 M ∧ (∀ j, j < 64 → M 61 j = nI (sp_p ce (j / 32) (j % 32))) ∧ sp_tree n0 32 (fun t => sp_mix (nI (sp_p ce 0 t)) (nI (sp_p ce 1 t))) ∧ (∀ m, m < 64 → M 63 (0 + m) = n0 m) ∧ M 47 12 = sp_t0 ρ (n0 1) ∧ M 56 = upd (M0 56) 0 (n0 1) ∧ (∀ t, t < 32 → M 62 (0 + t) = nI (sp_v0 ρ ce (n0 1) t))
def sp_FB1 (ρ : sp_R) (ce : Nat → Nat → Nat) (M0 : ew_M) (n0 n1 : Nat → Int32) (M : ew_M) : Prop := sp_F0 M0 M ∧ (∀ j, j < 64 → M 61 j = nI (sp_p ce (j / 32) (j % 32))) ∧ sp_tree n0 32 (fun t => sp_mix (nI (sp_p ce 0 t)) (nI (sp_p ce 1 t))) ∧ sp_tree n1 32 (fun t => sp_mix (nI (sp_v0 ρ ce (n0 1) t)) (nI 12289)) ∧ (∀ m, m < 64 → M 63 (0 + m) = n0 m) ∧ (∀ m, m < 64 → M 63 (64 + m) = n1 m) ∧ M 47 12 = sp_tn (sp_t0 ρ (n0 1)) (n1 1) ∧ M 56 = upd (upd (M0 56) 0 (n0 1)) 1 (n1 1) ∧ (∀ t, t < 32 → M 62 (0 + t) = nI (sp_v0 ρ ce (n0 1) t)) ∧ (∀ t, t < 16 → M 62 (32 + t) = nI (sp_v1 ρ ce (n0 1) (n1 1) t))
def sp_FB2 (ρ : sp_R) (ce : Nat → Nat → Nat) (M0 : ew_M) (n0 n1 n2 : Nat → Int32) (M : ew_M) : Prop := sp_F0 M0 M ∧ (∀ j, j < 64 → M 61 j = nI (sp_p ce (j / 32) (j % 32))) ∧ sp_tree n0 32 (fun t => sp_mix (nI (sp_p ce 0 t)) (nI (sp_p ce 1 t))) ∧ sp_tree n1 32 (fun t => sp_mix (nI (sp_v0 ρ ce (n0 1) t)) (nI 12289)) ∧ sp_tree n2 16 (fun t => sp_mix (nI (sp_v1 ρ ce (n0 1) (n1 1) t)) (nI 12289)) ∧ (∀ m, m < 64 → M 63 (0 + m) = n0 m) ∧ (∀ m, m < 64 → M 63 (64 + m) = n1 m) ∧ (∀ m, m < 32 → M 63 (128 + m) = n2 m) ∧ M 47 12 = sp_tn (sp_tn (sp_t0 ρ (n0 1)) (n1 1)) (n2 1) ∧ M 56 = upd (upd (upd (M0 56) 0 (n0 1)) 1 (n1 1)) 2 (n2 1) ∧ (∀ t, t < 32 → M 62 (0 + t) = nI (sp_v0 ρ ce (n0 1) t)) ∧ (∀ t, t < 16 → M 62 (32 + t) = nI (sp_v1 ρ ce (n0 1) (n1 1) t)) ∧ (∀ t, t < 8 → M 62 (48 + t) = nI (sp_v2 ρ ce (n0 1) (n1 1) (n2 1) t))
def sp_FB3 (ρ : sp_R) (ce : Nat → Nat → Nat) (M0 : ew_M) (n0 n1 n2 n3 : Nat → Int32) (M : ew_M) : Prop := sp_F0 M0 M ∧ (∀ j, j < 64 → M 61 j = nI (sp_p ce (j / 32) (j % 32))) ∧ sp_tree n0 32 (fun t => sp_mix (nI (sp_p ce 0 t)) (nI (sp_p ce 1 t))) ∧ sp_tree n1 32 (fun t => sp_mix (nI (sp_v0 ρ ce (n0 1) t)) (nI 12289)) ∧ sp_tree n2 16 (fun t => sp_mix (nI (sp_v1 ρ ce (n0 1) (n1 1) t)) (nI 12289)) ∧ sp_tree n3 8 (fun t => sp_mix (nI (sp_v2 ρ ce (n0 1) (n1 1) (n2 1) t)) (nI 12289)) ∧ (∀ m, m < 64 → M 63 (0 + m) = n0 m) ∧ (∀ m, m < 64 → M 63 (64 + m) = n1 m) ∧ (∀ m, m < 32 → M 63 (128 + m) = n2 m) ∧ (∀ m, m < 16 → M 63 (160 + m) = n3 m) ∧ M 47 12 = sp_tn (sp_tn (sp_tn (sp_t0 ρ (n0 1)) (n1 1)) (n2 1)) (n3 1) ∧ M 56 = upd (upd (upd (upd (M0 56) 0 (n0 1)) 1 (n1 1)) 2 (n2 1)) 3 (n3 1) ∧ (∀ t, t < 32 → M 62 (0 + t) = nI (sp_v0 ρ ce (n0 1) t)) ∧ (∀ t, t < 16 → M 62 (32 + t) = nI (sp_v1 ρ ce (n0 1) (n1 1) t)) ∧ (∀ t, t < 8 → M 62 (48 + t) = nI (sp_v2 ρ ce (n0 1) (n1 1) (n2 1) t)) ∧ M 62 56 = nI (sp_v3 ρ ce (n0 1) (n1 1) (n2 1) (n3 1))
set_option maxRecDepth 100000 in
theorem sg_Mo_prA (l : Launch) (g : ew_G) (d L : Nat) (M0 Mw M1 : ew_M) (ρ : sp_R) (ce : Nat → Nat → Nat) (hr : sp_rm ρ M0) (hR : sp_rts M0) (hF : sp_F0 M0 M1) (h1 : sp_ppi ce Mw 64 M1) (hM : Mw 56 = M0 56) (Q : Option Value → List ew_S → ew_M → Prop) (K : ∀ (n0 : Nat → Int32) (M : ew_M), sp_FA ρ ce M0 n0 M → Ew l g (d + 4) 0 0 m_Mo_prove 111 [.ref 47, .retAddr 0, .int (nI 0), .retAddr 0] [] (ew_SH L) M Q) :
    Ew l g (d + 4) 0 0 m_Mo_prove 76 [.ref 47, .retAddr 0, .retAddr 0, .retAddr 0] [] (ew_SH L) M1 Q := by
  refine ew_aload_n d_Mo_prove_76 rfl ?_
  refine en_callV (As := []) (i := 47) (ci := 9) (st := []) (st1 := []) d_Mo_prove_77 k_Mo_tellRules rfl rfl tw_744 tw_746 tp_35 rfl (Nat.le_of_ble_eq_true rfl) rfl (Nat.le_of_ble_eq_true rfl) rfl rfl (c_Mo_tellRules l g _ L M1 ρ (sp_F0_rm hF hr)) rfl ?_
  refine ew_aload_n d_Mo_prove_80 rfl ?_
  refine ew_getr (ci := 9) (f := 10) d_Mo_prove_81 rfl rfl rfl tw_602 ?_
  refine ew_iconst (v := nI 0) d_Mo_prove_84 (by decide) ?_
  refine ew_aload_n d_Mo_prove_85 rfl ?_
  refine ew_iconst (v := nI 0) d_Mo_prove_86 (by decide) ?_
  refine en_callVq (As := [.int (nI 0)]) (i := 47) (ci := 9) (st := [.int (nI 0), .ref 56]) d_Mo_prove_87 k_Mo_grow rfl rfl tw_757 tw_759 tp_37 rfl (Nat.le_of_ble_eq_true rfl) rfl (Nat.le_of_ble_eq_true rfl) rfl rfl (c_Mo_grow0 l g _ L (ew_w M1 47 12 (sp_tR ρ (nI 1)))) ?_
  rintro _ _ M2 ⟨rfl, rfl, g1, g2, g3⟩
  show Ew l g _ _ _ m_Mo_prove 90 [.ref 47, .retAddr 0, .retAddr 0, .retAddr 0] [.int (M2 63 1), .int (nI 0), .ref 56] (ew_SH L) M2 _
  refine ew_iast (j := 0) d_Mo_prove_90 rfl (by decide) (rfl) (by decide) (by decide) ?_
  refine ew_aload_n d_Mo_prove_91 rfl ?_
  refine ew_aload_n d_Mo_prove_92 rfl ?_
  refine ew_getr (ci := 9) (f := 10) d_Mo_prove_93 rfl rfl rfl tw_602 ?_
  refine ew_iconst (v := nI 0) d_Mo_prove_96 (by decide) ?_
  refine ew_iald (j := 0) d_Mo_prove_97 rfl (rfl) (by decide) (by decide) ?_
  refine en_eq (st' := [.int (M2 63 1), .ref 47]) rfl (by rw [show ((ew_w M2 56 0 (M2 63 1)) 56 0) = (M2 63 1) from ew_w_at]) rfl ?_
  refine en_callV (As := [.int (M2 63 1)]) (i := 47) (ci := 9) (st := []) (st1 := []) d_Mo_prove_98 k_Mo_tell rfl rfl tw_748 tw_750 tp_36 rfl (Nat.le_of_ble_eq_true rfl) rfl (Nat.le_of_ble_eq_true rfl) rfl rfl (c_Mo_tell l g _ L (ew_w M2 56 0 (M2 63 1)) (M2 63 1)) rfl ?_
  refine en_eq (M' := ew_w (ew_w M2 56 0 (M2 63 1)) 47 12 (sp_mix (sp_tR ρ (nI 1)) (M2 63 1))) rfl rfl (by rw [show (ew_w M2 56 0 (M2 63 1)) 47 12 = sp_tR ρ (nI 1) from by rw [ew_w_ne (by decide), g1 47 (by decide)]; exact ew_w_at]) ?_
  refine ew_aload_n d_Mo_prove_101 rfl ?_
  refine ew_aload_n d_Mo_prove_102 rfl ?_
  refine en_callV (As := []) (i := 47) (ci := 9) (st := [.ref 47]) (st1 := [.int (nI (sp_ch (sp_mix (sp_mix (sp_tR ρ (nI 1)) (M2 63 1)) (-7)))), .ref 47]) d_Mo_prove_103 k_Mo_challenge rfl rfl tw_770 tw_772 tp_38 rfl (Nat.le_of_ble_eq_true rfl) rfl (Nat.le_of_ble_eq_true rfl) rfl rfl (c_Mo_challengew l g _ L (ew_w M2 56 0 (M2 63 1)) (sp_mix (sp_tR ρ (nI 1)) (M2 63 1))) rfl ?_
  refine ew_puti (ci := 9) (f := 14) (ty := .int) d_Mo_prove_106 rfl (by decide) rfl rfl rfl (by decide +kernel) rfl rfl tw_605 ?_
  refine ew_iconst (v := nI 0) d_Mo_prove_109 (by decide) ?_
  refine en_istore_n (ls' := [.ref 47, .retAddr 0, .int (nI 0), .retAddr 0]) d_Mo_prove_110 (Nat.le_of_ble_eq_true rfl) rfl ?_
  refine K (fun m => M2 63 (0 + m)) _ ⟨sp_F0_w (sp_F0_w (sp_F0_w (sp_F0_m (S := [63]) (sp_F0_w hF (by decide) (Or.inr (by decide))) (by decide) (by decide) (fun q hq => g1 q (fun e => hq (by rw [e]; decide)))) (by decide) (Or.inl (by decide))) (by decide) (Or.inr (by decide))) (by decide) (Or.inr (by decide)), fun j hj => ?_, sp_tree_c g3 (fun t ht => by show sp_mix (ew_w M1 47 12 _ 61 t) (ew_w M1 47 12 _ 61 (32 + t)) = _; rw [ew_w_ne (by decide), sp_pq0 h1.2 ht, sp_pq1 h1.2 ht]), fun m hm => ?_, ?_, ?_, ?_⟩
  · rw [ew_w_ne (by decide), ew_w_ne (by decide), ew_w_ne (by decide), g1 61 (by decide), ew_w_ne (by decide)]
    exact h1.2 j hj
  · rw [ew_w_ne (by decide), ew_w_ne (by decide), ew_w_ne (by decide)]
  · rw [ew_w_j (by decide)]
    exact ew_w_at
  · rw [ew_w_ne (by decide), ew_w_ne (by decide), ew_w_self, g1 56 (by decide), ew_w_ne (by decide), h1.1 56 (by decide), hM]
  · exact ew_w_at
def sp_ci (ρ : sp_R) (ce : Nat → Nat → Nat) (A : Nat) (M0 : ew_M) (i : Nat) (M : ew_M) : Prop := (∀ q, q ∉ [62, 64] → M q = M0 q) ∧ ∀ t, t < i → M 62 t = nI (sp_y0 ρ ce A t)
theorem sp_ci_s {ρ : sp_R} {ce : Nat → Nat → Nat} {A : Nat} {M0 M : ew_M} {i : Nat} {a b c e : Int32} (h : sp_ci ρ ce A M0 i M) : sp_ci ρ ce A M0 (i + 1) (ew_w (sp_rl M a b c e) 62 i (nI (sp_y0 ρ ce A i))) := by
  refine ⟨fun q hq => ?_, fun t ht => ?_⟩
  · rw [ew_w_ne (show q ≠ 62 from fun e => hq (by rw [e]; decide)), sp_rl_ne (show q ≠ 64 from fun e => hq (by rw [e]; decide))]
    exact h.1 q hq
  · by_cases e : t = i
    · subst e
      exact ew_w_at
    · rw [ew_w_j e, sp_rl_ne (by decide)]
      exact h.2 t (by omega)
set_option maxRecDepth 100000 in
theorem lp_Mo_prC (l : Launch) (g : ew_G) (d L : Nat) (M0 : ew_M) (ρ : sp_R) (hr : sp_rm ρ M0) (hR : sp_rts M0) (ce : Nat → Nat → Nat) (pp : ∀ j, j < 64 → M0 61 j = nI (sp_p ce (j / 32) (j % 32))) (A : Nat) (hA : A < 12289) (hA0 : M0 47 14 = nI A) (Q : Option Value → List ew_S → ew_M → Prop) (K : ∀ (M : ew_M), sp_ci ρ ce A M0 32 M → Ew l g (d + 4) 0 0 m_Mo_prove 178 [.ref 47, .retAddr 0, .int (nI 32), .retAddr 0] [] (ew_SH L) M Q) : ∀ (fu i : Nat) (M : ew_M), 32 - i < fu → i ≤ 32 → sp_ci ρ ce A M0 i M → Ew l g (d + 4) 0 0 m_Mo_prove 111 [.ref 47, .retAddr 0, .int (nI i), .retAddr 0] [] (ew_SH L) M Q := by
  intro fu
  induction fu with
  | zero =>
    intro i M hn
    exact absurd hn (Nat.not_lt_zero _)
  | succ fu ih =>
    intro i M hn hle hI
    refine ew_iload_n d_Mo_prove_111 rfl ?_
    refine ew_bipush (v := nI 32) d_Mo_prove_112 (by decide) ?_
    refine en_icmp_ge (tgt := 178) d_Mo_prove_114 (by decide) (by omega) (by omega) (fun h114 => ?_) (fun h114 => ?_)
    · obtain rfl : i = 32 := by omega
      exact K M hI
    · refine ew_aload_n d_Mo_prove_117 rfl ?_
      refine ew_aload_n d_Mo_prove_118 rfl ?_
      refine ew_getr (ci := 9) (f := 20) d_Mo_prove_119 rfl rfl rfl tw_611 ?_
      refine ew_iload_n d_Mo_prove_122 rfl ?_
      refine ew_iald (j := i) d_Mo_prove_123 rfl (rfl) (by omega) (by decide) ?_
      refine en_eq (st' := [.int (nI (sp_p ce 0 i)), .ref 47]) rfl (by rw [show (M 61 i) = (nI (sp_p ce 0 i)) from sp_pq0 (fun j hj => by rw [hI.1 61 (by decide)]; exact pp j hj) h114]) rfl ?_
      refine ew_aload_n d_Mo_prove_124 rfl ?_
      refine ew_getr (ci := 9) (f := 20) d_Mo_prove_125 rfl rfl rfl tw_611 ?_
      refine ew_bipush (v := nI 32) d_Mo_prove_128 (by decide) ?_
      refine ew_iload_n d_Mo_prove_130 rfl ?_
      refine en_iadd d_Mo_prove_131 ?_
      refine ew_iald (j := 32 + i) d_Mo_prove_132 rfl (rfl) (by omega) (by decide) ?_
      refine en_eq (st' := [.int (nI (sp_p ce 1 i)), .int (nI (sp_p ce 0 i)), .ref 47]) rfl (by rw [show (M 61 (32 + i)) = (nI (sp_p ce 1 i)) from sp_pq1 (fun j hj => by rw [hI.1 61 (by decide)]; exact pp j hj) h114]) rfl ?_
      refine ew_aload_n d_Mo_prove_133 rfl ?_
      refine ew_getr (ci := 9) (f := 20) d_Mo_prove_134 rfl rfl rfl tw_611 ?_
      refine ew_iload_n d_Mo_prove_137 rfl ?_
      refine ew_iconst (v := nI 4) d_Mo_prove_138 (by decide) ?_
      refine en_iadd d_Mo_prove_139 ?_
      refine ew_bipush (v := nI 32) d_Mo_prove_140 (by decide) ?_
      refine en_irem d_Mo_prove_142 (by omega) (by decide) (by decide) ?_
      refine ew_iald (j := (i + 4) % 32) d_Mo_prove_143 rfl (rfl) (by omega) (by decide) ?_
      refine en_eq (st' := [.int (nI (sp_p ce 0 ((i + 4) % 32))), .int (nI (sp_p ce 1 i)), .int (nI (sp_p ce 0 i)), .ref 47]) rfl (by rw [show (M 61 ((i + 4) % 32)) = (nI (sp_p ce 0 ((i + 4) % 32))) from sp_pq0 (fun j hj => by rw [hI.1 61 (by decide)]; exact pp j hj) (by omega)]) rfl ?_
      refine ew_aload_n d_Mo_prove_144 rfl ?_
      refine ew_getr (ci := 9) (f := 20) d_Mo_prove_145 rfl rfl rfl tw_611 ?_
      refine ew_bipush (v := nI 32) d_Mo_prove_148 (by decide) ?_
      refine ew_iload_n d_Mo_prove_150 rfl ?_
      refine ew_iconst (v := nI 4) d_Mo_prove_151 (by decide) ?_
      refine en_iadd d_Mo_prove_152 ?_
      refine ew_bipush (v := nI 32) d_Mo_prove_153 (by decide) ?_
      refine en_irem d_Mo_prove_155 (by omega) (by decide) (by decide) ?_
      refine en_iadd d_Mo_prove_156 ?_
      refine ew_iald (j := 32 + ((i + 4) % 32)) d_Mo_prove_157 rfl (rfl) (by omega) (by decide) ?_
      refine en_eq (st' := [.int (nI (sp_p ce 1 ((i + 4) % 32))), .int (nI (sp_p ce 0 ((i + 4) % 32))), .int (nI (sp_p ce 1 i)), .int (nI (sp_p ce 0 i)), .ref 47]) rfl (by rw [show (M 61 (32 + ((i + 4) % 32))) = (nI (sp_p ce 1 ((i + 4) % 32))) from sp_pq1 (fun j hj => by rw [hI.1 61 (by decide)]; exact pp j hj) (by omega)]) rfl ?_
      refine en_callV (As := [.int (nI (sp_p ce 0 i)), .int (nI (sp_p ce 1 i)), .int (nI (sp_p ce 0 ((i + 4) % 32))), .int (nI (sp_p ce 1 ((i + 4) % 32)))]) (i := 47) (ci := 9) (st := []) (st1 := []) d_Mo_prove_158 k_Mo_letters rfl rfl tw_727 tw_729 tp_32 rfl (Nat.le_of_ble_eq_true rfl) rfl (Nat.le_of_ble_eq_true rfl) rfl rfl (c_Mo_letters l g _ L M (nI (sp_p ce 0 i)) (nI (sp_p ce 1 i)) (nI (sp_p ce 0 ((i + 4) % 32))) (nI (sp_p ce 1 ((i + 4) % 32)))) rfl ?_
      refine ew_aload_n d_Mo_prove_161 rfl ?_
      refine ew_getr (ci := 9) (f := 21) d_Mo_prove_162 rfl rfl rfl tw_612 ?_
      refine ew_iload_n d_Mo_prove_165 rfl ?_
      refine ew_aload_n d_Mo_prove_166 rfl ?_
      refine ew_iload_n d_Mo_prove_167 rfl ?_
      refine en_callV (As := [.int (nI i)]) (i := 47) (ci := 9) (st := [.int (nI i), .ref 62]) (st1 := [.int (nI (sp_y0 ρ ce A i)), .int (nI i), .ref 62]) d_Mo_prove_168 k_Mo_composition rfl rfl tw_775 tw_777 tp_39 rfl (Nat.le_of_ble_eq_true rfl) rfl (Nat.le_of_ble_eq_true rfl) rfl rfl (c_Mo_composition l g _ L (sp_rl M (nI (sp_p ce 0 i)) (nI (sp_p ce 1 i)) (nI (sp_p ce 0 ((i + 4) % 32))) (nI (sp_p ce 1 ((i + 4) % 32)))) ρ (sp_rm_rl (sp_rm_of hr (hI.1 49 (by decide)) (hI.1 50 (by decide)) (hI.1 51 (by decide)) (hI.1 52 (by decide)) (by rw [hI.1 47 (by decide)]) (hI.1 53 (by decide)) (hI.1 54 (by decide)) (hI.1 55 (by decide)))) (sp_l0 ce i) (sp_rl_le (sp_p_lt _ _ _) (sp_p_lt _ _ _) (sp_p_lt _ _ _) (sp_p_lt _ _ _)) (sp_rts_of hR (by rw [sp_rl_ne (by decide)]; exact hI.1 60 (by decide))) i A h114 hA (by rw [sp_rl_ne (by decide), hI.1 47 (by decide)]; exact hA0)) rfl ?_
      refine ew_iast (j := i) d_Mo_prove_171 rfl (by decide) (rfl) (by omega) (by decide) ?_
      refine en_inc (ls' := [.ref 47, .retAddr 0, .int (nI (i + 1)), .retAddr 0]) d_Mo_prove_172 rfl rfl ?_
      refine ew_goto (tgt := 111) d_Mo_prove_175 (by decide) ?_
      exact ih (i + 1) _ (by omega) (by omega) (sp_ci_s hI)
theorem sp_FA_FB {ρ : sp_R} {ce : Nat → Nat → Nat} {M0 : ew_M} {n0 : Nat → Int32} {M M' : ew_M} (h : sp_FA ρ ce M0 n0 M) (h' : sp_ci ρ ce (sp_ch (sp_t0 ρ (n0 1))) M 32 M') : sp_FB0 ρ ce M0 n0 M' := by
  obtain ⟨fr, pp, tr0, nd0, tk, rq, mx⟩ := h
  refine ⟨sp_F0_m (S := [62, 64]) fr (by decide) (by decide) h'.1, fun j hj => ?_, tr0, fun m hm => ?_, ?_, ?_, fun t ht => ?_⟩
  · rw [h'.1 61 (by decide)]
    exact pp j hj
  · rw [h'.1 63 (by decide)]
    exact nd0 m hm
  · rw [h'.1 47 (by decide)]
    exact tk
  · rw [h'.1 56 (by decide)]
    exact rq
  · rw [Nat.zero_add]
    exact h'.2 t ht
set_option maxRecDepth 100000 in
theorem sg_Mo_prL0 (l : Launch) (g : ew_G) (d L : Nat) (M0 M : ew_M) (ρ : sp_R) (ce : Nat → Nat → Nat) (hr : sp_rm ρ M0) (hR : sp_rts M0) (n0 : Nat → Int32) (hF : sp_FB0 ρ ce M0 n0 M) (Q : Option Value → List ew_S → ew_M → Prop) (K : ∀ (n1 : Nat → Int32) (M : ew_M), sp_FB1 ρ ce M0 n0 n1 M → Ew l g (d + 4) 0 0 m_Mo_prove 180 [.ref 47, .retAddr 0, .int (nI 1), .retAddr 0] [] (ew_SH L) M Q) :
    Ew l g (d + 4) 0 0 m_Mo_prove 180 [.ref 47, .retAddr 0, .int (nI 0), .retAddr 0] [] (ew_SH L) M Q := by
  obtain ⟨fr, pp, tr0, nd0, tk, rq, ly0⟩ := hF
  refine ew_iload_n d_Mo_prove_180 rfl ?_
  refine ew_iconst (v := nI 3) d_Mo_prove_181 (by decide) ?_
  refine en_icmp_ge (tgt := 233) d_Mo_prove_182 (by decide) (by decide) (by decide) (fun h182 => by exact absurd h182 (by decide)) (fun h182 => ?_)
  refine ew_aload_n d_Mo_prove_185 rfl ?_
  refine ew_getr (ci := 9) (f := 10) d_Mo_prove_186 rfl rfl rfl tw_602 ?_
  refine ew_iload_n d_Mo_prove_189 rfl ?_
  refine ew_iconst (v := nI 1) d_Mo_prove_190 (by decide) ?_
  refine en_iadd d_Mo_prove_191 ?_
  refine en_eq rfl (show _ = [.int (nI 1), .ref 56] from rfl) rfl ?_
  refine ew_aload_n d_Mo_prove_192 rfl ?_
  refine ew_iload_n d_Mo_prove_193 rfl ?_
  refine ew_iconst (v := nI 1) d_Mo_prove_194 (by decide) ?_
  refine en_iadd d_Mo_prove_195 ?_
  refine en_eq rfl (show _ = [.int (nI 1), .ref 47, .int (nI 1), .ref 56] from rfl) rfl ?_
  refine en_callVq (As := [.int (nI 1)]) (i := 47) (ci := 9) (st := [.int (nI 1), .ref 56]) d_Mo_prove_196 k_Mo_grow rfl rfl tw_757 tw_759 tp_37 rfl (Nat.le_of_ble_eq_true rfl) rfl (Nat.le_of_ble_eq_true rfl) rfl rfl (c_Mo_grow1 l g _ L M) ?_
  rintro _ _ M1 ⟨rfl, rfl, g1, g2, g3⟩
  show Ew l g _ _ _ m_Mo_prove 199 [.ref 47, .retAddr 0, .int (nI 0), .retAddr 0] [.int (M1 63 65), .int (nI 1), .ref 56] (ew_SH L) M1 _
  refine ew_iast (j := 1) d_Mo_prove_199 rfl (by decide) (rfl) (by decide) (by decide) ?_
  refine ew_aload_n d_Mo_prove_200 rfl ?_
  refine ew_aload_n d_Mo_prove_201 rfl ?_
  refine ew_getr (ci := 9) (f := 10) d_Mo_prove_202 rfl rfl rfl tw_602 ?_
  refine ew_iload_n d_Mo_prove_205 rfl ?_
  refine ew_iconst (v := nI 1) d_Mo_prove_206 (by decide) ?_
  refine en_iadd d_Mo_prove_207 ?_
  refine en_eq rfl (show _ = [.int (nI 1), .ref 56, .ref 47] from rfl) rfl ?_
  refine ew_iald (j := 1) d_Mo_prove_208 rfl (rfl) (by decide) (by decide) ?_
  refine en_eq (st' := [.int (M1 63 65), .ref 47]) rfl (by rw [show ((ew_w M1 56 1 (M1 63 65)) 56 1) = (M1 63 65) from ew_w_at]) rfl ?_
  refine en_callV (As := [.int (M1 63 65)]) (i := 47) (ci := 9) (st := []) (st1 := []) d_Mo_prove_209 k_Mo_tell rfl rfl tw_748 tw_750 tp_36 rfl (Nat.le_of_ble_eq_true rfl) rfl (Nat.le_of_ble_eq_true rfl) rfl rfl (c_Mo_tell l g _ L (ew_w M1 56 1 (M1 63 65)) (M1 63 65)) rfl ?_
  refine en_eq (M' := ew_w (ew_w M1 56 1 (M1 63 65)) 47 12 (sp_mix (sp_t0 ρ (n0 1)) (M1 63 65))) rfl rfl (by rw [show (ew_w M1 56 1 (M1 63 65)) 47 12 = sp_t0 ρ (n0 1) from by rw [ew_w_ne (by decide), g1 47 (by decide)]; exact tk]) ?_
  refine ew_aload_n d_Mo_prove_212 rfl ?_
  refine ew_getr (ci := 9) (f := 15) d_Mo_prove_213 rfl rfl rfl tw_606 ?_
  refine ew_iload_n d_Mo_prove_216 rfl ?_
  refine ew_aload_n d_Mo_prove_217 rfl ?_
  refine en_callV (As := []) (i := 47) (ci := 9) (st := [.int (nI 0), .ref 57]) (st1 := [.int (nI (sp_ch (sp_mix (sp_mix (sp_t0 ρ (n0 1)) (M1 63 65)) (-7)))), .int (nI 0), .ref 57]) d_Mo_prove_218 k_Mo_challenge rfl rfl tw_770 tw_772 tp_38 rfl (Nat.le_of_ble_eq_true rfl) rfl (Nat.le_of_ble_eq_true rfl) rfl rfl (c_Mo_challengew l g _ L (ew_w M1 56 1 (M1 63 65)) (sp_mix (sp_t0 ρ (n0 1)) (M1 63 65))) rfl ?_
  refine ew_iast (j := 0) d_Mo_prove_221 rfl (by decide) (rfl) (by decide) (by decide) ?_
  refine ew_aload_n d_Mo_prove_222 rfl ?_
  refine ew_iload_n d_Mo_prove_223 rfl ?_
  refine en_callVq (As := [.int (nI 0)]) (i := 47) (ci := 9) (st := []) d_Mo_prove_224 k_Mo_nextLayer rfl rfl tw_779 tw_781 tp_40 rfl (Nat.le_of_ble_eq_true rfl) rfl (Nat.le_of_ble_eq_true rfl) rfl rfl (c_Mo_nextLayer0 l g _ L (ew_w (ew_w (ew_w M1 56 1 (M1 63 65)) 47 12 (sp_mix (sp_mix (sp_t0 ρ (n0 1)) (M1 63 65)) (-7))) 57 0 (nI (sp_ch (sp_mix (sp_mix (sp_t0 ρ (n0 1)) (M1 63 65)) (-7))))) (sp_rts_of hR (by rw [ew_w_ne (by decide), ew_w_ne (by decide), ew_w_ne (by decide), g1 60 (by decide)]; exact fr.1 60 (by decide))) (sp_v0 ρ ce (n0 1)) (sp_ch (sp_mix (sp_mix (sp_t0 ρ (n0 1)) (M1 63 65)) (-7))) (fun t ht => ⟨by rw [ew_w_ne (by decide), ew_w_ne (by decide), ew_w_ne (by decide), g1 62 (by decide)]; exact ly0 t ht, sp_com_lt _ _ _ _⟩) (sp_ch_lt _) ew_w_at) ?_
  rintro _ _ M2 ⟨rfl, rfl, c1, c2, c3⟩
  show Ew l g _ _ _ m_Mo_prove 227 [.ref 47, .retAddr 0, .int (nI 0), .retAddr 0] [] (ew_SH L) M2 _
  refine en_inc (ls' := [.ref 47, .retAddr 0, .int (nI 1), .retAddr 0]) d_Mo_prove_227 rfl rfl ?_
  refine ew_goto (tgt := 180) d_Mo_prove_230 (by decide) ?_
  exact K (fun m => M1 63 (64 + m)) M2 ⟨sp_F0_m (S := [62]) (sp_F0_w (sp_F0_w (sp_F0_w (sp_F0_m (S := [63]) fr (by decide) (by decide) (fun q hq => g1 q (fun e => hq (by rw [e]; decide)))) (by decide) (Or.inl (by decide))) (by decide) (Or.inr (by decide))) (by decide) (Or.inl (by decide))) (by decide) (by decide) (fun q hq => c1 q (fun e => hq (by rw [e]; decide))), fun j hj => by rw [c1 61 (by decide), ew_w_ne (by decide), ew_w_ne (by decide), ew_w_ne (by decide), g1 61 (by decide)]; exact pp j hj, tr0, sp_tree_c g3 (fun t ht => by show sp_mix (M 62 (0 + t)) _ = _; rw [ly0 t (by omega)]), fun m hm => by rw [c1 63 (by decide), ew_w_ne (by decide), ew_w_ne (by decide), ew_w_ne (by decide), g2 _ (by omega)]; exact nd0 m hm, fun m hm => by rw [c1 63 (by decide), ew_w_ne (by decide), ew_w_ne (by decide), ew_w_ne (by decide)], by rw [c1 47 (by decide), ew_w_ne (by decide), ew_w_at]; rfl, by rw [c1 56 (by decide), ew_w_ne (by decide), ew_w_ne (by decide), ew_w_self, g1 56 (by decide), rq], fun t ht => by rw [c2 _ (by omega), ew_w_ne (by decide), ew_w_ne (by decide), ew_w_ne (by decide), g1 62 (by decide)]; exact ly0 t ht, fun t ht => c3 t ht⟩
set_option maxRecDepth 100000 in
theorem sg_Mo_prL1 (l : Launch) (g : ew_G) (d L : Nat) (M0 M : ew_M) (ρ : sp_R) (ce : Nat → Nat → Nat) (hr : sp_rm ρ M0) (hR : sp_rts M0) (n0 n1 : Nat → Int32) (hF : sp_FB1 ρ ce M0 n0 n1 M) (Q : Option Value → List ew_S → ew_M → Prop) (K : ∀ (n2 : Nat → Int32) (M : ew_M), sp_FB2 ρ ce M0 n0 n1 n2 M → Ew l g (d + 4) 0 0 m_Mo_prove 180 [.ref 47, .retAddr 0, .int (nI 2), .retAddr 0] [] (ew_SH L) M Q) :
    Ew l g (d + 4) 0 0 m_Mo_prove 180 [.ref 47, .retAddr 0, .int (nI 1), .retAddr 0] [] (ew_SH L) M Q := by
  obtain ⟨fr, pp, tr0, tr1, nd0, nd1, tk, rq, ly0, ly1⟩ := hF
  refine ew_iload_n d_Mo_prove_180 rfl ?_
  refine ew_iconst (v := nI 3) d_Mo_prove_181 (by decide) ?_
  refine en_icmp_ge (tgt := 233) d_Mo_prove_182 (by decide) (by decide) (by decide) (fun h182 => by exact absurd h182 (by decide)) (fun h182 => ?_)
  refine ew_aload_n d_Mo_prove_185 rfl ?_
  refine ew_getr (ci := 9) (f := 10) d_Mo_prove_186 rfl rfl rfl tw_602 ?_
  refine ew_iload_n d_Mo_prove_189 rfl ?_
  refine ew_iconst (v := nI 1) d_Mo_prove_190 (by decide) ?_
  refine en_iadd d_Mo_prove_191 ?_
  refine en_eq rfl (show _ = [.int (nI 2), .ref 56] from rfl) rfl ?_
  refine ew_aload_n d_Mo_prove_192 rfl ?_
  refine ew_iload_n d_Mo_prove_193 rfl ?_
  refine ew_iconst (v := nI 1) d_Mo_prove_194 (by decide) ?_
  refine en_iadd d_Mo_prove_195 ?_
  refine en_eq rfl (show _ = [.int (nI 2), .ref 47, .int (nI 2), .ref 56] from rfl) rfl ?_
  refine en_callVq (As := [.int (nI 2)]) (i := 47) (ci := 9) (st := [.int (nI 2), .ref 56]) d_Mo_prove_196 k_Mo_grow rfl rfl tw_757 tw_759 tp_37 rfl (Nat.le_of_ble_eq_true rfl) rfl (Nat.le_of_ble_eq_true rfl) rfl rfl (c_Mo_grow2 l g _ L M) ?_
  rintro _ _ M1 ⟨rfl, rfl, g1, g2, g3⟩
  show Ew l g _ _ _ m_Mo_prove 199 [.ref 47, .retAddr 0, .int (nI 1), .retAddr 0] [.int (M1 63 129), .int (nI 2), .ref 56] (ew_SH L) M1 _
  refine ew_iast (j := 2) d_Mo_prove_199 rfl (by decide) (rfl) (by decide) (by decide) ?_
  refine ew_aload_n d_Mo_prove_200 rfl ?_
  refine ew_aload_n d_Mo_prove_201 rfl ?_
  refine ew_getr (ci := 9) (f := 10) d_Mo_prove_202 rfl rfl rfl tw_602 ?_
  refine ew_iload_n d_Mo_prove_205 rfl ?_
  refine ew_iconst (v := nI 1) d_Mo_prove_206 (by decide) ?_
  refine en_iadd d_Mo_prove_207 ?_
  refine en_eq rfl (show _ = [.int (nI 2), .ref 56, .ref 47] from rfl) rfl ?_
  refine ew_iald (j := 2) d_Mo_prove_208 rfl (rfl) (by decide) (by decide) ?_
  refine en_eq (st' := [.int (M1 63 129), .ref 47]) rfl (by rw [show ((ew_w M1 56 2 (M1 63 129)) 56 2) = (M1 63 129) from ew_w_at]) rfl ?_
  refine en_callV (As := [.int (M1 63 129)]) (i := 47) (ci := 9) (st := []) (st1 := []) d_Mo_prove_209 k_Mo_tell rfl rfl tw_748 tw_750 tp_36 rfl (Nat.le_of_ble_eq_true rfl) rfl (Nat.le_of_ble_eq_true rfl) rfl rfl (c_Mo_tell l g _ L (ew_w M1 56 2 (M1 63 129)) (M1 63 129)) rfl ?_
  refine en_eq (M' := ew_w (ew_w M1 56 2 (M1 63 129)) 47 12 (sp_mix (sp_tn (sp_t0 ρ (n0 1)) (n1 1)) (M1 63 129))) rfl rfl (by rw [show (ew_w M1 56 2 (M1 63 129)) 47 12 = sp_tn (sp_t0 ρ (n0 1)) (n1 1) from by rw [ew_w_ne (by decide), g1 47 (by decide)]; exact tk]) ?_
  refine ew_aload_n d_Mo_prove_212 rfl ?_
  refine ew_getr (ci := 9) (f := 15) d_Mo_prove_213 rfl rfl rfl tw_606 ?_
  refine ew_iload_n d_Mo_prove_216 rfl ?_
  refine ew_aload_n d_Mo_prove_217 rfl ?_
  refine en_callV (As := []) (i := 47) (ci := 9) (st := [.int (nI 1), .ref 57]) (st1 := [.int (nI (sp_ch (sp_mix (sp_mix (sp_tn (sp_t0 ρ (n0 1)) (n1 1)) (M1 63 129)) (-7)))), .int (nI 1), .ref 57]) d_Mo_prove_218 k_Mo_challenge rfl rfl tw_770 tw_772 tp_38 rfl (Nat.le_of_ble_eq_true rfl) rfl (Nat.le_of_ble_eq_true rfl) rfl rfl (c_Mo_challengew l g _ L (ew_w M1 56 2 (M1 63 129)) (sp_mix (sp_tn (sp_t0 ρ (n0 1)) (n1 1)) (M1 63 129))) rfl ?_
  refine ew_iast (j := 1) d_Mo_prove_221 rfl (by decide) (rfl) (by decide) (by decide) ?_
  refine ew_aload_n d_Mo_prove_222 rfl ?_
  refine ew_iload_n d_Mo_prove_223 rfl ?_
  refine en_callVq (As := [.int (nI 1)]) (i := 47) (ci := 9) (st := []) d_Mo_prove_224 k_Mo_nextLayer rfl rfl tw_779 tw_781 tp_40 rfl (Nat.le_of_ble_eq_true rfl) rfl (Nat.le_of_ble_eq_true rfl) rfl rfl (c_Mo_nextLayer1 l g _ L (ew_w (ew_w (ew_w M1 56 2 (M1 63 129)) 47 12 (sp_mix (sp_mix (sp_tn (sp_t0 ρ (n0 1)) (n1 1)) (M1 63 129)) (-7))) 57 1 (nI (sp_ch (sp_mix (sp_mix (sp_tn (sp_t0 ρ (n0 1)) (n1 1)) (M1 63 129)) (-7))))) (sp_rts_of hR (by rw [ew_w_ne (by decide), ew_w_ne (by decide), ew_w_ne (by decide), g1 60 (by decide)]; exact fr.1 60 (by decide))) (sp_v1 ρ ce (n0 1) (n1 1)) (sp_ch (sp_mix (sp_mix (sp_tn (sp_t0 ρ (n0 1)) (n1 1)) (M1 63 129)) (-7))) (fun t ht => ⟨by rw [ew_w_ne (by decide), ew_w_ne (by decide), ew_w_ne (by decide), g1 62 (by decide)]; exact ly1 t ht, sp_fo_lt _ _ _ _ _⟩) (sp_ch_lt _) ew_w_at) ?_
  rintro _ _ M2 ⟨rfl, rfl, c1, c2, c3⟩
  show Ew l g _ _ _ m_Mo_prove 227 [.ref 47, .retAddr 0, .int (nI 1), .retAddr 0] [] (ew_SH L) M2 _
  refine en_inc (ls' := [.ref 47, .retAddr 0, .int (nI 2), .retAddr 0]) d_Mo_prove_227 rfl rfl ?_
  refine ew_goto (tgt := 180) d_Mo_prove_230 (by decide) ?_
  exact K (fun m => M1 63 (128 + m)) M2 ⟨sp_F0_m (S := [62]) (sp_F0_w (sp_F0_w (sp_F0_w (sp_F0_m (S := [63]) fr (by decide) (by decide) (fun q hq => g1 q (fun e => hq (by rw [e]; decide)))) (by decide) (Or.inl (by decide))) (by decide) (Or.inr (by decide))) (by decide) (Or.inl (by decide))) (by decide) (by decide) (fun q hq => c1 q (fun e => hq (by rw [e]; decide))), fun j hj => by rw [c1 61 (by decide), ew_w_ne (by decide), ew_w_ne (by decide), ew_w_ne (by decide), g1 61 (by decide)]; exact pp j hj, tr0, tr1, sp_tree_c g3 (fun t ht => by show sp_mix (M 62 (32 + t)) _ = _; rw [ly1 t (by omega)]), fun m hm => by rw [c1 63 (by decide), ew_w_ne (by decide), ew_w_ne (by decide), ew_w_ne (by decide), g2 _ (by omega)]; exact nd0 m hm, fun m hm => by rw [c1 63 (by decide), ew_w_ne (by decide), ew_w_ne (by decide), ew_w_ne (by decide), g2 _ (by omega)]; exact nd1 m hm, fun m hm => by rw [c1 63 (by decide), ew_w_ne (by decide), ew_w_ne (by decide), ew_w_ne (by decide)], by rw [c1 47 (by decide), ew_w_ne (by decide), ew_w_at]; rfl, by rw [c1 56 (by decide), ew_w_ne (by decide), ew_w_ne (by decide), ew_w_self, g1 56 (by decide), rq], fun t ht => by rw [c2 _ (by omega), ew_w_ne (by decide), ew_w_ne (by decide), ew_w_ne (by decide), g1 62 (by decide)]; exact ly0 t ht, fun t ht => by rw [c2 _ (by omega), ew_w_ne (by decide), ew_w_ne (by decide), ew_w_ne (by decide), g1 62 (by decide)]; exact ly1 t ht, fun t ht => c3 t ht⟩
set_option maxRecDepth 100000 in
theorem sg_Mo_prL2 (l : Launch) (g : ew_G) (d L : Nat) (M0 M : ew_M) (ρ : sp_R) (ce : Nat → Nat → Nat) (hr : sp_rm ρ M0) (hR : sp_rts M0) (n0 n1 n2 : Nat → Int32) (hF : sp_FB2 ρ ce M0 n0 n1 n2 M) (Q : Option Value → List ew_S → ew_M → Prop) (K : ∀ (n3 : Nat → Int32) (M : ew_M), sp_FB3 ρ ce M0 n0 n1 n2 n3 M → Ew l g (d + 4) 0 0 m_Mo_prove 180 [.ref 47, .retAddr 0, .int (nI 3), .retAddr 0] [] (ew_SH L) M Q) :
    Ew l g (d + 4) 0 0 m_Mo_prove 180 [.ref 47, .retAddr 0, .int (nI 2), .retAddr 0] [] (ew_SH L) M Q := by
  obtain ⟨fr, pp, tr0, tr1, tr2, nd0, nd1, nd2, tk, rq, ly0, ly1, ly2⟩ := hF
  refine ew_iload_n d_Mo_prove_180 rfl ?_
  refine ew_iconst (v := nI 3) d_Mo_prove_181 (by decide) ?_
  refine en_icmp_ge (tgt := 233) d_Mo_prove_182 (by decide) (by decide) (by decide) (fun h182 => by exact absurd h182 (by decide)) (fun h182 => ?_)
  refine ew_aload_n d_Mo_prove_185 rfl ?_
  refine ew_getr (ci := 9) (f := 10) d_Mo_prove_186 rfl rfl rfl tw_602 ?_
  refine ew_iload_n d_Mo_prove_189 rfl ?_
  refine ew_iconst (v := nI 1) d_Mo_prove_190 (by decide) ?_
  refine en_iadd d_Mo_prove_191 ?_
  refine en_eq rfl (show _ = [.int (nI 3), .ref 56] from rfl) rfl ?_
  refine ew_aload_n d_Mo_prove_192 rfl ?_
  refine ew_iload_n d_Mo_prove_193 rfl ?_
  refine ew_iconst (v := nI 1) d_Mo_prove_194 (by decide) ?_
  refine en_iadd d_Mo_prove_195 ?_
  refine en_eq rfl (show _ = [.int (nI 3), .ref 47, .int (nI 3), .ref 56] from rfl) rfl ?_
  refine en_callVq (As := [.int (nI 3)]) (i := 47) (ci := 9) (st := [.int (nI 3), .ref 56]) d_Mo_prove_196 k_Mo_grow rfl rfl tw_757 tw_759 tp_37 rfl (Nat.le_of_ble_eq_true rfl) rfl (Nat.le_of_ble_eq_true rfl) rfl rfl (c_Mo_grow3 l g _ L M) ?_
  rintro _ _ M1 ⟨rfl, rfl, g1, g2, g3⟩
  show Ew l g _ _ _ m_Mo_prove 199 [.ref 47, .retAddr 0, .int (nI 2), .retAddr 0] [.int (M1 63 161), .int (nI 3), .ref 56] (ew_SH L) M1 _
  refine ew_iast (j := 3) d_Mo_prove_199 rfl (by decide) (rfl) (by decide) (by decide) ?_
  refine ew_aload_n d_Mo_prove_200 rfl ?_
  refine ew_aload_n d_Mo_prove_201 rfl ?_
  refine ew_getr (ci := 9) (f := 10) d_Mo_prove_202 rfl rfl rfl tw_602 ?_
  refine ew_iload_n d_Mo_prove_205 rfl ?_
  refine ew_iconst (v := nI 1) d_Mo_prove_206 (by decide) ?_
  refine en_iadd d_Mo_prove_207 ?_
  refine en_eq rfl (show _ = [.int (nI 3), .ref 56, .ref 47] from rfl) rfl ?_
  refine ew_iald (j := 3) d_Mo_prove_208 rfl (rfl) (by decide) (by decide) ?_
  refine en_eq (st' := [.int (M1 63 161), .ref 47]) rfl (by rw [show ((ew_w M1 56 3 (M1 63 161)) 56 3) = (M1 63 161) from ew_w_at]) rfl ?_
  refine en_callV (As := [.int (M1 63 161)]) (i := 47) (ci := 9) (st := []) (st1 := []) d_Mo_prove_209 k_Mo_tell rfl rfl tw_748 tw_750 tp_36 rfl (Nat.le_of_ble_eq_true rfl) rfl (Nat.le_of_ble_eq_true rfl) rfl rfl (c_Mo_tell l g _ L (ew_w M1 56 3 (M1 63 161)) (M1 63 161)) rfl ?_
  refine en_eq (M' := ew_w (ew_w M1 56 3 (M1 63 161)) 47 12 (sp_mix (sp_tn (sp_tn (sp_t0 ρ (n0 1)) (n1 1)) (n2 1)) (M1 63 161))) rfl rfl (by rw [show (ew_w M1 56 3 (M1 63 161)) 47 12 = sp_tn (sp_tn (sp_t0 ρ (n0 1)) (n1 1)) (n2 1) from by rw [ew_w_ne (by decide), g1 47 (by decide)]; exact tk]) ?_
  refine ew_aload_n d_Mo_prove_212 rfl ?_
  refine ew_getr (ci := 9) (f := 15) d_Mo_prove_213 rfl rfl rfl tw_606 ?_
  refine ew_iload_n d_Mo_prove_216 rfl ?_
  refine ew_aload_n d_Mo_prove_217 rfl ?_
  refine en_callV (As := []) (i := 47) (ci := 9) (st := [.int (nI 2), .ref 57]) (st1 := [.int (nI (sp_ch (sp_mix (sp_mix (sp_tn (sp_tn (sp_t0 ρ (n0 1)) (n1 1)) (n2 1)) (M1 63 161)) (-7)))), .int (nI 2), .ref 57]) d_Mo_prove_218 k_Mo_challenge rfl rfl tw_770 tw_772 tp_38 rfl (Nat.le_of_ble_eq_true rfl) rfl (Nat.le_of_ble_eq_true rfl) rfl rfl (c_Mo_challengew l g _ L (ew_w M1 56 3 (M1 63 161)) (sp_mix (sp_tn (sp_tn (sp_t0 ρ (n0 1)) (n1 1)) (n2 1)) (M1 63 161))) rfl ?_
  refine ew_iast (j := 2) d_Mo_prove_221 rfl (by decide) (rfl) (by decide) (by decide) ?_
  refine ew_aload_n d_Mo_prove_222 rfl ?_
  refine ew_iload_n d_Mo_prove_223 rfl ?_
  refine en_callVq (As := [.int (nI 2)]) (i := 47) (ci := 9) (st := []) d_Mo_prove_224 k_Mo_nextLayer rfl rfl tw_779 tw_781 tp_40 rfl (Nat.le_of_ble_eq_true rfl) rfl (Nat.le_of_ble_eq_true rfl) rfl rfl (c_Mo_nextLayer2 l g _ L (ew_w (ew_w (ew_w M1 56 3 (M1 63 161)) 47 12 (sp_mix (sp_mix (sp_tn (sp_tn (sp_t0 ρ (n0 1)) (n1 1)) (n2 1)) (M1 63 161)) (-7))) 57 2 (nI (sp_ch (sp_mix (sp_mix (sp_tn (sp_tn (sp_t0 ρ (n0 1)) (n1 1)) (n2 1)) (M1 63 161)) (-7))))) (sp_rts_of hR (by rw [ew_w_ne (by decide), ew_w_ne (by decide), ew_w_ne (by decide), g1 60 (by decide)]; exact fr.1 60 (by decide))) (sp_v2 ρ ce (n0 1) (n1 1) (n2 1)) (sp_ch (sp_mix (sp_mix (sp_tn (sp_tn (sp_t0 ρ (n0 1)) (n1 1)) (n2 1)) (M1 63 161)) (-7))) (fun t ht => ⟨by rw [ew_w_ne (by decide), ew_w_ne (by decide), ew_w_ne (by decide), g1 62 (by decide)]; exact ly2 t ht, sp_fo_lt _ _ _ _ _⟩) (sp_ch_lt _) ew_w_at) ?_
  rintro _ _ M2 ⟨rfl, rfl, c1, c2, c3⟩
  show Ew l g _ _ _ m_Mo_prove 227 [.ref 47, .retAddr 0, .int (nI 2), .retAddr 0] [] (ew_SH L) M2 _
  refine en_inc (ls' := [.ref 47, .retAddr 0, .int (nI 3), .retAddr 0]) d_Mo_prove_227 rfl rfl ?_
  refine ew_goto (tgt := 180) d_Mo_prove_230 (by decide) ?_
  exact K (fun m => M1 63 (160 + m)) M2 ⟨sp_F0_m (S := [62]) (sp_F0_w (sp_F0_w (sp_F0_w (sp_F0_m (S := [63]) fr (by decide) (by decide) (fun q hq => g1 q (fun e => hq (by rw [e]; decide)))) (by decide) (Or.inl (by decide))) (by decide) (Or.inr (by decide))) (by decide) (Or.inl (by decide))) (by decide) (by decide) (fun q hq => c1 q (fun e => hq (by rw [e]; decide))), fun j hj => by rw [c1 61 (by decide), ew_w_ne (by decide), ew_w_ne (by decide), ew_w_ne (by decide), g1 61 (by decide)]; exact pp j hj, tr0, tr1, tr2, sp_tree_c g3 (fun t ht => by show sp_mix (M 62 (48 + t)) _ = _; rw [ly2 t (by omega)]), fun m hm => by rw [c1 63 (by decide), ew_w_ne (by decide), ew_w_ne (by decide), ew_w_ne (by decide), g2 _ (by omega)]; exact nd0 m hm, fun m hm => by rw [c1 63 (by decide), ew_w_ne (by decide), ew_w_ne (by decide), ew_w_ne (by decide), g2 _ (by omega)]; exact nd1 m hm, fun m hm => by rw [c1 63 (by decide), ew_w_ne (by decide), ew_w_ne (by decide), ew_w_ne (by decide), g2 _ (by omega)]; exact nd2 m hm, fun m hm => by rw [c1 63 (by decide), ew_w_ne (by decide), ew_w_ne (by decide), ew_w_ne (by decide)], by rw [c1 47 (by decide), ew_w_ne (by decide), ew_w_at]; rfl, by rw [c1 56 (by decide), ew_w_ne (by decide), ew_w_ne (by decide), ew_w_self, g1 56 (by decide), rq], fun t ht => by rw [c2 _ (by omega), ew_w_ne (by decide), ew_w_ne (by decide), ew_w_ne (by decide), g1 62 (by decide)]; exact ly0 t ht, fun t ht => by rw [c2 _ (by omega), ew_w_ne (by decide), ew_w_ne (by decide), ew_w_ne (by decide), g1 62 (by decide)]; exact ly1 t ht, fun t ht => by rw [c2 _ (by omega), ew_w_ne (by decide), ew_w_ne (by decide), ew_w_ne (by decide), g1 62 (by decide)]; exact ly2 t ht, c3 0 (by decide)⟩
