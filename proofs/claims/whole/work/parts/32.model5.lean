set_option maxRecDepth 100000 in
theorem c_Mo_treeFrom0 (l : Launch) (g : ew_G) (d L : Nat) (M : ew_M)  :
    Ew l g d 0 0 m_Mo_treeFrom 0 [.int (nI 0)] [] (ew_SH L) M (ew_q (some (.int (nI 0))) (ew_SH L) M) := by
  refine ew_iload_n d_Mo_treeFrom_0 rfl ?_
  refine en_if_ne (tgt := 8) d_Mo_treeFrom_1 (by decide) (by decide) (fun h1 => by exact absurd h1 (by decide)) (fun h1 => ?_)
  refine ew_iconst (v := nI 0) d_Mo_treeFrom_4 (by decide) ?_
  refine ew_goto (tgt := 32) d_Mo_treeFrom_5 (by decide) ?_
  exact ew_iret d_Mo_treeFrom_32 rfl (⟨rfl, rfl, rfl⟩)
set_option maxRecDepth 100000 in
theorem c_Mo_treeFrom1 (l : Launch) (g : ew_G) (d L : Nat) (M : ew_M)  :
    Ew l g d 0 0 m_Mo_treeFrom 0 [.int (nI 1)] [] (ew_SH L) M (ew_q (some (.int (nI 64))) (ew_SH L) M) := by
  refine ew_iload_n d_Mo_treeFrom_0 rfl ?_
  refine en_if_ne (tgt := 8) d_Mo_treeFrom_1 (by decide) (by decide) (fun h1 => ?_) (fun h1 => by exact absurd h1 (by decide))
  refine ew_iload_n d_Mo_treeFrom_8 rfl ?_
  refine ew_iconst (v := nI 1) d_Mo_treeFrom_9 (by decide) ?_
  refine en_icmp_ne (tgt := 18) d_Mo_treeFrom_10 (by decide) (by decide) (by decide) (fun h10 => by exact absurd h10 (by decide)) (fun h10 => ?_)
  refine ew_bipush (v := nI 64) d_Mo_treeFrom_13 (by decide) ?_
  refine ew_goto (tgt := 32) d_Mo_treeFrom_15 (by decide) ?_
  exact ew_iret d_Mo_treeFrom_32 rfl (⟨rfl, rfl, rfl⟩)
set_option maxRecDepth 100000 in
theorem c_Mo_treeFrom2 (l : Launch) (g : ew_G) (d L : Nat) (M : ew_M)  :
    Ew l g d 0 0 m_Mo_treeFrom 0 [.int (nI 2)] [] (ew_SH L) M (ew_q (some (.int (nI 128))) (ew_SH L) M) := by
  refine ew_iload_n d_Mo_treeFrom_0 rfl ?_
  refine en_if_ne (tgt := 8) d_Mo_treeFrom_1 (by decide) (by decide) (fun h1 => ?_) (fun h1 => by exact absurd h1 (by decide))
  refine ew_iload_n d_Mo_treeFrom_8 rfl ?_
  refine ew_iconst (v := nI 1) d_Mo_treeFrom_9 (by decide) ?_
  refine en_icmp_ne (tgt := 18) d_Mo_treeFrom_10 (by decide) (by decide) (by decide) (fun h10 => ?_) (fun h10 => by exact absurd h10 (by decide))
  refine ew_iload_n d_Mo_treeFrom_18 rfl ?_
  refine ew_iconst (v := nI 2) d_Mo_treeFrom_19 (by decide) ?_
  refine en_icmp_ne (tgt := 29) d_Mo_treeFrom_20 (by decide) (by decide) (by decide) (fun h20 => by exact absurd h20 (by decide)) (fun h20 => ?_)
  refine ew_sipush (v := nI 128) d_Mo_treeFrom_23 (by decide) ?_
  refine ew_goto (tgt := 32) d_Mo_treeFrom_26 (by decide) ?_
  exact ew_iret d_Mo_treeFrom_32 rfl (⟨rfl, rfl, rfl⟩)
set_option maxRecDepth 100000 in
theorem c_Mo_treeFrom3 (l : Launch) (g : ew_G) (d L : Nat) (M : ew_M)  :
    Ew l g d 0 0 m_Mo_treeFrom 0 [.int (nI 3)] [] (ew_SH L) M (ew_q (some (.int (nI 160))) (ew_SH L) M) := by
  refine ew_iload_n d_Mo_treeFrom_0 rfl ?_
  refine en_if_ne (tgt := 8) d_Mo_treeFrom_1 (by decide) (by decide) (fun h1 => ?_) (fun h1 => by exact absurd h1 (by decide))
  refine ew_iload_n d_Mo_treeFrom_8 rfl ?_
  refine ew_iconst (v := nI 1) d_Mo_treeFrom_9 (by decide) ?_
  refine en_icmp_ne (tgt := 18) d_Mo_treeFrom_10 (by decide) (by decide) (by decide) (fun h10 => ?_) (fun h10 => by exact absurd h10 (by decide))
  refine ew_iload_n d_Mo_treeFrom_18 rfl ?_
  refine ew_iconst (v := nI 2) d_Mo_treeFrom_19 (by decide) ?_
  refine en_icmp_ne (tgt := 29) d_Mo_treeFrom_20 (by decide) (by decide) (by decide) (fun h20 => ?_) (fun h20 => by exact absurd h20 (by decide))
  refine ew_sipush (v := nI 160) d_Mo_treeFrom_29 (by decide) ?_
  exact ew_iret d_Mo_treeFrom_32 rfl (⟨rfl, rfl, rfl⟩)
set_option maxRecDepth 100000 in
theorem c_Mo_leavesOf0 (l : Launch) (g : ew_G) (d L : Nat) (M : ew_M)  :
    Ew l g d 0 0 m_Mo_leavesOf 0 [.int (nI 0)] [] (ew_SH L) M (ew_q (some (.int (nI 32))) (ew_SH L) M) := by
  refine ew_iload_n d_Mo_leavesOf_0 rfl ?_
  refine ew_iconst (v := nI 2) d_Mo_leavesOf_1 (by decide) ?_
  refine en_icmp_ge (tgt := 10) d_Mo_leavesOf_2 (by decide) (by decide) (by decide) (fun h2 => by exact absurd h2 (by decide)) (fun h2 => ?_)
  refine ew_bipush (v := nI 32) d_Mo_leavesOf_5 (by decide) ?_
  refine ew_goto (tgt := 22) d_Mo_leavesOf_7 (by decide) ?_
  exact ew_iret d_Mo_leavesOf_22 rfl (⟨rfl, rfl, rfl⟩)
set_option maxRecDepth 100000 in
theorem c_Mo_leavesOf1 (l : Launch) (g : ew_G) (d L : Nat) (M : ew_M)  :
    Ew l g d 0 0 m_Mo_leavesOf 0 [.int (nI 1)] [] (ew_SH L) M (ew_q (some (.int (nI 32))) (ew_SH L) M) := by
  refine ew_iload_n d_Mo_leavesOf_0 rfl ?_
  refine ew_iconst (v := nI 2) d_Mo_leavesOf_1 (by decide) ?_
  refine en_icmp_ge (tgt := 10) d_Mo_leavesOf_2 (by decide) (by decide) (by decide) (fun h2 => by exact absurd h2 (by decide)) (fun h2 => ?_)
  refine ew_bipush (v := nI 32) d_Mo_leavesOf_5 (by decide) ?_
  refine ew_goto (tgt := 22) d_Mo_leavesOf_7 (by decide) ?_
  exact ew_iret d_Mo_leavesOf_22 rfl (⟨rfl, rfl, rfl⟩)
set_option maxRecDepth 100000 in
theorem c_Mo_leavesOf2 (l : Launch) (g : ew_G) (d L : Nat) (M : ew_M)  :
    Ew l g d 0 0 m_Mo_leavesOf 0 [.int (nI 2)] [] (ew_SH L) M (ew_q (some (.int (nI 16))) (ew_SH L) M) := by
  refine ew_iload_n d_Mo_leavesOf_0 rfl ?_
  refine ew_iconst (v := nI 2) d_Mo_leavesOf_1 (by decide) ?_
  refine en_icmp_ge (tgt := 10) d_Mo_leavesOf_2 (by decide) (by decide) (by decide) (fun h2 => ?_) (fun h2 => by exact absurd h2 (by decide))
  refine ew_iload_n d_Mo_leavesOf_10 rfl ?_
  refine ew_iconst (v := nI 2) d_Mo_leavesOf_11 (by decide) ?_
  refine en_icmp_ne (tgt := 20) d_Mo_leavesOf_12 (by decide) (by decide) (by decide) (fun h12 => by exact absurd h12 (by decide)) (fun h12 => ?_)
  refine ew_bipush (v := nI 16) d_Mo_leavesOf_15 (by decide) ?_
  refine ew_goto (tgt := 22) d_Mo_leavesOf_17 (by decide) ?_
  exact ew_iret d_Mo_leavesOf_22 rfl (⟨rfl, rfl, rfl⟩)
set_option maxRecDepth 100000 in
theorem c_Mo_leavesOf3 (l : Launch) (g : ew_G) (d L : Nat) (M : ew_M)  :
    Ew l g d 0 0 m_Mo_leavesOf 0 [.int (nI 3)] [] (ew_SH L) M (ew_q (some (.int (nI 8))) (ew_SH L) M) := by
  refine ew_iload_n d_Mo_leavesOf_0 rfl ?_
  refine ew_iconst (v := nI 2) d_Mo_leavesOf_1 (by decide) ?_
  refine en_icmp_ge (tgt := 10) d_Mo_leavesOf_2 (by decide) (by decide) (by decide) (fun h2 => ?_) (fun h2 => by exact absurd h2 (by decide))
  refine ew_iload_n d_Mo_leavesOf_10 rfl ?_
  refine ew_iconst (v := nI 2) d_Mo_leavesOf_11 (by decide) ?_
  refine en_icmp_ne (tgt := 20) d_Mo_leavesOf_12 (by decide) (by decide) (by decide) (fun h12 => ?_) (fun h12 => by exact absurd h12 (by decide))
  refine ew_bipush (v := nI 8) d_Mo_leavesOf_20 (by decide) ?_
  exact ew_iret d_Mo_leavesOf_22 rfl (⟨rfl, rfl, rfl⟩)
set_option maxRecDepth 100000 in
theorem c_Mo_layerFrom0 (l : Launch) (g : ew_G) (d L : Nat) (M : ew_M)  :
    Ew l g d 0 0 m_Mo_layerFrom 0 [.int (nI 0)] [] (ew_SH L) M (ew_q (some (.int (nI 0))) (ew_SH L) M) := by
  refine ew_iload_n d_Mo_layerFrom_0 rfl ?_
  refine en_if_ne (tgt := 8) d_Mo_layerFrom_1 (by decide) (by decide) (fun h1 => by exact absurd h1 (by decide)) (fun h1 => ?_)
  refine ew_iconst (v := nI 0) d_Mo_layerFrom_4 (by decide) ?_
  refine ew_goto (tgt := 30) d_Mo_layerFrom_5 (by decide) ?_
  exact ew_iret d_Mo_layerFrom_30 rfl (⟨rfl, rfl, rfl⟩)
set_option maxRecDepth 100000 in
theorem c_Mo_layerFrom1 (l : Launch) (g : ew_G) (d L : Nat) (M : ew_M)  :
    Ew l g d 0 0 m_Mo_layerFrom 0 [.int (nI 1)] [] (ew_SH L) M (ew_q (some (.int (nI 32))) (ew_SH L) M) := by
  refine ew_iload_n d_Mo_layerFrom_0 rfl ?_
  refine en_if_ne (tgt := 8) d_Mo_layerFrom_1 (by decide) (by decide) (fun h1 => ?_) (fun h1 => by exact absurd h1 (by decide))
  refine ew_iload_n d_Mo_layerFrom_8 rfl ?_
  refine ew_iconst (v := nI 1) d_Mo_layerFrom_9 (by decide) ?_
  refine en_icmp_ne (tgt := 18) d_Mo_layerFrom_10 (by decide) (by decide) (by decide) (fun h10 => by exact absurd h10 (by decide)) (fun h10 => ?_)
  refine ew_bipush (v := nI 32) d_Mo_layerFrom_13 (by decide) ?_
  refine ew_goto (tgt := 30) d_Mo_layerFrom_15 (by decide) ?_
  exact ew_iret d_Mo_layerFrom_30 rfl (⟨rfl, rfl, rfl⟩)
set_option maxRecDepth 100000 in
theorem c_Mo_layerFrom2 (l : Launch) (g : ew_G) (d L : Nat) (M : ew_M)  :
    Ew l g d 0 0 m_Mo_layerFrom 0 [.int (nI 2)] [] (ew_SH L) M (ew_q (some (.int (nI 48))) (ew_SH L) M) := by
  refine ew_iload_n d_Mo_layerFrom_0 rfl ?_
  refine en_if_ne (tgt := 8) d_Mo_layerFrom_1 (by decide) (by decide) (fun h1 => ?_) (fun h1 => by exact absurd h1 (by decide))
  refine ew_iload_n d_Mo_layerFrom_8 rfl ?_
  refine ew_iconst (v := nI 1) d_Mo_layerFrom_9 (by decide) ?_
  refine en_icmp_ne (tgt := 18) d_Mo_layerFrom_10 (by decide) (by decide) (by decide) (fun h10 => ?_) (fun h10 => by exact absurd h10 (by decide))
  refine ew_iload_n d_Mo_layerFrom_18 rfl ?_
  refine ew_iconst (v := nI 2) d_Mo_layerFrom_19 (by decide) ?_
  refine en_icmp_ne (tgt := 28) d_Mo_layerFrom_20 (by decide) (by decide) (by decide) (fun h20 => by exact absurd h20 (by decide)) (fun h20 => ?_)
  refine ew_bipush (v := nI 48) d_Mo_layerFrom_23 (by decide) ?_
  refine ew_goto (tgt := 30) d_Mo_layerFrom_25 (by decide) ?_
  exact ew_iret d_Mo_layerFrom_30 rfl (⟨rfl, rfl, rfl⟩)
set_option maxRecDepth 100000 in
theorem c_Mo_layerFrom3 (l : Launch) (g : ew_G) (d L : Nat) (M : ew_M)  :
    Ew l g d 0 0 m_Mo_layerFrom 0 [.int (nI 3)] [] (ew_SH L) M (ew_q (some (.int (nI 56))) (ew_SH L) M) := by
  refine ew_iload_n d_Mo_layerFrom_0 rfl ?_
  refine en_if_ne (tgt := 8) d_Mo_layerFrom_1 (by decide) (by decide) (fun h1 => ?_) (fun h1 => by exact absurd h1 (by decide))
  refine ew_iload_n d_Mo_layerFrom_8 rfl ?_
  refine ew_iconst (v := nI 1) d_Mo_layerFrom_9 (by decide) ?_
  refine en_icmp_ne (tgt := 18) d_Mo_layerFrom_10 (by decide) (by decide) (by decide) (fun h10 => ?_) (fun h10 => by exact absurd h10 (by decide))
  refine ew_iload_n d_Mo_layerFrom_18 rfl ?_
  refine ew_iconst (v := nI 2) d_Mo_layerFrom_19 (by decide) ?_
  refine en_icmp_ne (tgt := 28) d_Mo_layerFrom_20 (by decide) (by decide) (by decide) (fun h20 => ?_) (fun h20 => by exact absurd h20 (by decide))
  refine ew_bipush (v := nI 56) d_Mo_layerFrom_28 (by decide) ?_
  exact ew_iret d_Mo_layerFrom_30 rfl (⟨rfl, rfl, rfl⟩)
def sp_gi (F n : Nat) (lf : Nat → Int32) (M0 : ew_M) (k : Nat) (M : ew_M) : Prop := (∀ q, q ≠ 63 → M q = M0 q) ∧ (∀ j, (j < F ∨ F + 2 * n ≤ j) → M 63 j = M0 63 j) ∧ (∀ i, i < n → M 63 (F + n + i) = lf i) ∧ ∀ m, k < m → m < n → M 63 (F + m) = sp_mix (M 63 (F + 2 * m)) (M 63 (F + 2 * m + 1))
def sp_gl (F n : Nat) (lf : Nat → Int32) (M0 : ew_M) (i : Nat) (M : ew_M) : Prop := (∀ q, q ≠ 63 → M q = M0 q) ∧ (∀ j, (j < F ∨ F + 2 * n ≤ j) → M 63 j = M0 63 j) ∧ ∀ t, t < i → M 63 (F + n + t) = lf t
def sp_gq (F n : Nat) (lf : Nat → Int32) (L : Nat) (M0 : ew_M) : Option Value → List ew_S → ew_M → Prop := fun v sh' M' => sh' = ew_SH L ∧ v = some (.int (M' 63 (F + 1))) ∧ (∀ q, q ≠ 63 → M' q = M0 q) ∧ (∀ j, (j < F ∨ F + 2 * n ≤ j) → M' 63 j = M0 63 j) ∧ sp_tree (fun m => M' 63 (F + m)) n lf
theorem sp_gl_s {F n i : Nat} {lf : Nat → Int32} {M0 M : ew_M} {x : Int32} (h : sp_gl F n lf M0 i M) (hi : i < n) (hx : x = lf i) : sp_gl F n lf M0 (i + 1) (ew_w M 63 (F + n + i) x) := by
  obtain ⟨h1, h2, h3⟩ := h
  refine ⟨fun q hq => (ew_w_ne hq).trans (h1 q hq), fun j hj => (ew_w_j (by omega)).trans (h2 j hj), fun t ht => ?_⟩
  by_cases e : t = i
  · subst e
    exact ew_w_at.trans hx
  · exact (ew_w_j (by omega)).trans (h3 t (by omega))
theorem sp_gi_s {F n k : Nat} {lf : Nat → Int32} {M0 M : ew_M} (h : sp_gi F n lf M0 k M) (h0 : 0 < k) (hk : k < n) : sp_gi F n lf M0 (k - 1) (ew_w M 63 (F + k) (sp_mix (M 63 (F + 2 * k)) (M 63 (F + 2 * k + 1)))) := by
  obtain ⟨h1, h2, h3, h4⟩ := h
  refine ⟨fun q hq => (ew_w_ne hq).trans (h1 q hq), fun j hj => (ew_w_j (by omega)).trans (h2 j hj), fun t ht => (ew_w_j (by omega)).trans (h3 t ht), fun m hm hn => ?_⟩
  rw [ew_w_j (r := F + 2 * m) (by omega), ew_w_j (r := F + 2 * m + 1) (by omega)]
  by_cases e : m = k
  · subst e
    exact ew_w_at
  · exact (ew_w_j (by omega)).trans (h4 m (by omega) hn)
theorem sp_gi_e {F n L : Nat} {lf : Nat → Int32} {M0 M : ew_M} {v : Value} (h : sp_gi F n lf M0 0 M) (hv : v = .int (M 63 (F + 1))) : sp_gq F n lf L M0 (some v) (ew_SH L) M := ⟨rfl, by rw [hv], h.1, h.2.1, fun i hi => by show M 63 (F + (n + i)) = lf i; rw [← Nat.add_assoc]; exact h.2.2.1 i hi, fun m h1 h2 => h.2.2.2 m (by omega) h2⟩
set_option maxRecDepth 100000 in
theorem lp_Mo_growT0 (l : Launch) (g : ew_G) (d L : Nat) (M0 : ew_M)  : ∀ (fu j : Nat) (M : ew_M), 31 - j < fu → j ≤ 31 → sp_gi 0 32 (fun i => sp_mix (M0 61 i) (M0 61 (32 + i))) M0 (31 - j) M → Ew l g (d + 1) 0 0 m_Mo_grow 88 [.ref 47, .int (nI 0), .int (nI 0), .int (nI 32), .int (nI (31 - j))] [] (ew_SH L) M (sp_gq 0 32 (fun i => sp_mix (M0 61 i) (M0 61 (32 + i))) L M0) := by
  intro fu
  induction fu with
  | zero =>
    intro j M hn
    exact absurd hn (Nat.not_lt_zero _)
  | succ fu ih =>
    intro j M hn hle hI
    refine ew_iload d_Mo_grow_88 rfl ?_
    refine en_if_le (tgt := 135) d_Mo_grow_90 (by decide) (by omega) (fun h90 => ?_) (fun h90 => ?_)
    · rw [h90] at hI
      refine ew_aload_n d_Mo_grow_135 rfl ?_
      refine ew_getr (ci := 9) (f := 22) d_Mo_grow_136 rfl rfl rfl tw_613 ?_
      refine ew_iload_n d_Mo_grow_139 rfl ?_
      refine ew_iconst (v := nI 1) d_Mo_grow_140 (by decide) ?_
      refine en_iadd d_Mo_grow_141 ?_
      refine en_eq rfl (show _ = [.int (nI 1), .ref 63] from rfl) rfl ?_
      refine ew_iald (j := 1) d_Mo_grow_142 rfl (rfl) (by decide) (by decide) ?_
      exact ew_iret d_Mo_grow_143 rfl (sp_gi_e hI rfl)
    · refine ew_aload_n d_Mo_grow_93 rfl ?_
      refine ew_getr (ci := 9) (f := 22) d_Mo_grow_94 rfl rfl rfl tw_613 ?_
      refine ew_iload_n d_Mo_grow_97 rfl ?_
      refine ew_iload d_Mo_grow_98 rfl ?_
      refine en_iadd d_Mo_grow_100 ?_
      refine ew_aload_n d_Mo_grow_101 rfl ?_
      refine ew_getr (ci := 9) (f := 22) d_Mo_grow_102 rfl rfl rfl tw_613 ?_
      refine ew_iload_n d_Mo_grow_105 rfl ?_
      refine ew_iconst (v := nI 2) d_Mo_grow_106 (by decide) ?_
      refine ew_iload d_Mo_grow_107 rfl ?_
      refine en_imul d_Mo_grow_109 ?_
      refine en_iadd d_Mo_grow_110 ?_
      refine ew_iald (j := 0 + (2 * (31 - j))) d_Mo_grow_111 rfl (rfl) (by omega) (by decide) ?_
      refine ew_aload_n d_Mo_grow_112 rfl ?_
      refine ew_getr (ci := 9) (f := 22) d_Mo_grow_113 rfl rfl rfl tw_613 ?_
      refine ew_iload_n d_Mo_grow_116 rfl ?_
      refine ew_iconst (v := nI 2) d_Mo_grow_117 (by decide) ?_
      refine ew_iload d_Mo_grow_118 rfl ?_
      refine en_imul d_Mo_grow_120 ?_
      refine en_iadd d_Mo_grow_121 ?_
      refine ew_iconst (v := nI 1) d_Mo_grow_122 (by decide) ?_
      refine en_iadd d_Mo_grow_123 ?_
      refine ew_iald (j := (0 + (2 * (31 - j))) + 1) d_Mo_grow_124 rfl (rfl) (by omega) (by decide) ?_
      refine en_callS (As := [.int (M 63 (0 + (2 * (31 - j)))), .int (M 63 ((0 + (2 * (31 - j))) + 1))]) (st := [.int (nI (0 + (31 - j))), .ref 63]) (st1 := [.int (sp_mix (M 63 (0 + (2 * (31 - j)))) (M 63 ((0 + (2 * (31 - j))) + 1))), .int (nI (0 + (31 - j))), .ref 63]) d_Mo_grow_125 k_Mo_mix tw_752 tw_753 rfl (Nat.le_of_ble_eq_true rfl) rfl (Nat.le_of_ble_eq_true rfl) rfl rfl (c_Mo_mix l g _ (ew_SH L) M (M 63 (0 + (2 * (31 - j)))) (M 63 ((0 + (2 * (31 - j))) + 1))) rfl ?_
      refine ew_iast (j := 0 + (31 - j)) d_Mo_grow_128 rfl (by decide) (rfl) (by omega) (by decide) ?_
      refine en_dec (ls' := [.ref 47, .int (nI 0), .int (nI 0), .int (nI 32), .int (nI ((31 - j) - 1))]) d_Mo_grow_129 (by omega) rfl rfl ?_
      refine ew_goto (tgt := 88) d_Mo_grow_132 (by decide) ?_
      refine en_eq (ls' := [.ref 47, .int (nI 0), .int (nI 0), .int (nI 32), .int (nI (31 - (j + 1)))]) (by rw [show 31 - j - 1 = 31 - (j + 1) by omega]) rfl rfl ?_
      exact ih (j + 1) _ (by omega) (by omega) (by have z := sp_gi_s hI (by omega) (by omega); rw [show 31 - j - 1 = 31 - (j + 1) by omega] at z; exact z)
set_option maxRecDepth 100000 in
theorem lp_Mo_growL0 (l : Launch) (g : ew_G) (d L : Nat) (M0 : ew_M)  : ∀ (fu i : Nat) (M : ew_M), 32 - i < fu → i ≤ 32 → sp_gl 0 32 (fun i => sp_mix (M0 61 i) (M0 61 (32 + i))) M0 i M → Ew l g (d + 1) 0 0 m_Mo_grow 13 [.ref 47, .int (nI 0), .int (nI 0), .int (nI 32), .int (nI i)] [] (ew_SH L) M (sp_gq 0 32 (fun i => sp_mix (M0 61 i) (M0 61 (32 + i))) L M0) := by
  intro fu
  induction fu with
  | zero =>
    intro i M hn
    exact absurd hn (Nat.not_lt_zero _)
  | succ fu ih =>
    intro i M hn hle hI
    refine ew_iload d_Mo_grow_13 rfl ?_
    refine ew_iload_n d_Mo_grow_15 rfl ?_
    refine en_icmp_ge (tgt := 83) d_Mo_grow_16 (by decide) (by omega) (by omega) (fun h16 => ?_) (fun h16 => ?_)
    · obtain rfl : i = 32 := by omega
      refine ew_iload_n d_Mo_grow_83 rfl ?_
      refine ew_iconst (v := nI 1) d_Mo_grow_84 (by decide) ?_
      refine en_isub d_Mo_grow_85 (by first | with_reducible assumption | with_reducible exact ep_lt _ | with_reducible exact sp_its_lt _ _ _ | with_reducible exact tb_l_rt _ | with_reducible exact tb_l_x _ | with_reducible exact tb_l_o0 _ | with_reducible exact tb_l_o1 _ | with_reducible exact tb_l_va _ | with_reducible exact tb_l_ll _ | with_reducible exact tb_l_cf _ | with_reducible exact tb_l_kf _ | with_reducible exact sp_ts_lt _ _ _ _ | with_reducible exact sp_w_lt _ _ | with_reducible exact sp_cs_lt _ _ _ _ _ | with_reducible exact sp_cb_lt _ _ _ _ _ | with_reducible exact sp_ch_lt _ | with_reducible exact sp_bf_lt _ _ | with_reducible exact sp_va_lt _ _ _ | with_reducible exact sp_be_lt _ _ | with_reducible exact sp_p_lt _ _ _ | with_reducible exact sp_com_lt _ _ _ _ | with_reducible exact sp_fo_lt _ _ _ _ _ | omega) ?_
      refine en_eq rfl (show _ = [.int (nI 31)] from rfl) rfl ?_
      refine en_istore (ls' := [.ref 47, .int (nI 0), .int (nI 0), .int (nI 32), .int (nI 31)]) d_Mo_grow_86 (Nat.le_of_ble_eq_true rfl) rfl ?_
      exact lp_Mo_growT0 l g d L M0 32 0 M (by omega) (by omega) ⟨hI.1, hI.2.1, hI.2.2, fun m h1 h2 => absurd h1 (by omega)⟩
    · refine ew_aload_n d_Mo_grow_19 rfl ?_
      refine ew_getr (ci := 9) (f := 22) d_Mo_grow_20 rfl rfl rfl tw_613 ?_
      refine ew_iload_n d_Mo_grow_23 rfl ?_
      refine ew_iload_n d_Mo_grow_24 rfl ?_
      refine en_iadd d_Mo_grow_25 ?_
      refine en_eq rfl (show _ = [.int (nI 32), .ref 63] from rfl) rfl ?_
      refine ew_iload d_Mo_grow_26 rfl ?_
      refine en_iadd d_Mo_grow_28 ?_
      refine ew_iload_n d_Mo_grow_29 rfl ?_
      refine en_if_ne (tgt := 56) d_Mo_grow_30 (by decide) (by first | with_reducible assumption | with_reducible exact ep_lt _ | with_reducible exact sp_its_lt _ _ _ | with_reducible exact tb_l_rt _ | with_reducible exact tb_l_x _ | with_reducible exact tb_l_o0 _ | with_reducible exact tb_l_o1 _ | with_reducible exact tb_l_va _ | with_reducible exact tb_l_ll _ | with_reducible exact tb_l_cf _ | with_reducible exact tb_l_kf _ | with_reducible exact sp_ts_lt _ _ _ _ | with_reducible exact sp_w_lt _ _ | with_reducible exact sp_cs_lt _ _ _ _ _ | with_reducible exact sp_cb_lt _ _ _ _ _ | with_reducible exact sp_ch_lt _ | with_reducible exact sp_bf_lt _ _ | with_reducible exact sp_va_lt _ _ _ | with_reducible exact sp_be_lt _ _ | with_reducible exact sp_p_lt _ _ _ | with_reducible exact sp_com_lt _ _ _ _ | with_reducible exact sp_fo_lt _ _ _ _ _ | omega) (fun h30 => by exact absurd h30 (by decide)) (fun h30 => ?_)
      refine ew_aload_n d_Mo_grow_33 rfl ?_
      refine ew_getr (ci := 9) (f := 20) d_Mo_grow_34 rfl rfl rfl tw_611 ?_
      refine ew_iload d_Mo_grow_37 rfl ?_
      refine ew_iald (j := i) d_Mo_grow_39 rfl (rfl) (by omega) (by decide) ?_
      refine en_eq (st' := [.int (M0 61 i), .int (nI (32 + i)), .ref 63]) rfl (by rw [show (M 61 i) = (M0 61 i) from by rw [hI.1 61 (by decide)]]) rfl ?_
      refine ew_aload_n d_Mo_grow_40 rfl ?_
      refine ew_getr (ci := 9) (f := 20) d_Mo_grow_41 rfl rfl rfl tw_611 ?_
      refine ew_bipush (v := nI 32) d_Mo_grow_44 (by decide) ?_
      refine ew_iload d_Mo_grow_46 rfl ?_
      refine en_iadd d_Mo_grow_48 ?_
      refine ew_iald (j := 32 + i) d_Mo_grow_49 rfl (rfl) (by omega) (by decide) ?_
      refine en_eq (st' := [.int (M0 61 (32 + i)), .int (M0 61 i), .int (nI (32 + i)), .ref 63]) rfl (by rw [show (M 61 (32 + i)) = (M0 61 (32 + i)) from by rw [hI.1 61 (by decide)]]) rfl ?_
      refine en_callS (As := [.int (M0 61 i), .int (M0 61 (32 + i))]) (st := [.int (nI (32 + i)), .ref 63]) (st1 := [.int (sp_mix (M0 61 i) (M0 61 (32 + i))), .int (nI (32 + i)), .ref 63]) d_Mo_grow_50 k_Mo_mix tw_752 tw_753 rfl (Nat.le_of_ble_eq_true rfl) rfl (Nat.le_of_ble_eq_true rfl) rfl rfl (c_Mo_mix l g _ (ew_SH L) M (M0 61 i) (M0 61 (32 + i))) rfl ?_
      refine ew_goto (tgt := 76) d_Mo_grow_53 (by decide) ?_
      refine ew_iast (j := 32 + i) d_Mo_grow_76 rfl (by decide) (rfl) (by omega) (by decide) ?_
      refine en_inc (ls' := [.ref 47, .int (nI 0), .int (nI 0), .int (nI 32), .int (nI (i + 1))]) d_Mo_grow_77 rfl rfl ?_
      refine ew_goto (tgt := 13) d_Mo_grow_80 (by decide) ?_
      exact ih (i + 1) _ (by omega) (by omega) (sp_gl_s hI h16 rfl)
set_option maxRecDepth 100000 in
theorem c_Mo_grow0 (l : Launch) (g : ew_G) (d L : Nat) (M : ew_M)  :
    Ew l g (d + 1) 0 0 m_Mo_grow 0 [.ref 47, .int (nI 0), .retAddr 0, .retAddr 0, .retAddr 0] [] (ew_SH L) M (sp_gq 0 32 (fun i => sp_mix (M 61 i) (M 61 (32 + i))) L M) := by
  refine ew_iload_n d_Mo_grow_0 rfl ?_
  refine en_callS (As := [.int (nI 0)]) (st := []) (st1 := [.int (nI 0)]) d_Mo_grow_1 k_Mo_treeFrom tw_761 tw_762 rfl (Nat.le_of_ble_eq_true rfl) rfl (Nat.le_of_ble_eq_true rfl) rfl rfl (c_Mo_treeFrom0 l g _ L M) rfl ?_
  refine en_istore_n (ls' := [.ref 47, .int (nI 0), .int (nI 0), .retAddr 0, .retAddr 0]) d_Mo_grow_4 (Nat.le_of_ble_eq_true rfl) rfl ?_
  refine ew_iload_n d_Mo_grow_5 rfl ?_
  refine en_callS (As := [.int (nI 0)]) (st := []) (st1 := [.int (nI 32)]) d_Mo_grow_6 k_Mo_leavesOf tw_764 tw_765 rfl (Nat.le_of_ble_eq_true rfl) rfl (Nat.le_of_ble_eq_true rfl) rfl rfl (c_Mo_leavesOf0 l g _ L M) rfl ?_
  refine en_istore_n (ls' := [.ref 47, .int (nI 0), .int (nI 0), .int (nI 32), .retAddr 0]) d_Mo_grow_9 (Nat.le_of_ble_eq_true rfl) rfl ?_
  refine ew_iconst (v := nI 0) d_Mo_grow_10 (by decide) ?_
  refine en_istore (ls' := [.ref 47, .int (nI 0), .int (nI 0), .int (nI 32), .int (nI 0)]) d_Mo_grow_11 (Nat.le_of_ble_eq_true rfl) rfl ?_
  exact lp_Mo_growL0 l g d L M 33 0 M (by omega) (by omega) ⟨fun _ _ => rfl, fun _ _ => rfl, fun i hi => absurd hi (Nat.not_lt_zero _)⟩
set_option maxRecDepth 100000 in
theorem lp_Mo_growT1 (l : Launch) (g : ew_G) (d L : Nat) (M0 : ew_M)  : ∀ (fu j : Nat) (M : ew_M), 31 - j < fu → j ≤ 31 → sp_gi 64 32 (fun i => sp_mix (M0 62 (0 + i)) (nI 12289)) M0 (31 - j) M → Ew l g (d + 1) 0 0 m_Mo_grow 88 [.ref 47, .int (nI 1), .int (nI 64), .int (nI 32), .int (nI (31 - j))] [] (ew_SH L) M (sp_gq 64 32 (fun i => sp_mix (M0 62 (0 + i)) (nI 12289)) L M0) := by
  intro fu
  induction fu with
  | zero =>
    intro j M hn
    exact absurd hn (Nat.not_lt_zero _)
  | succ fu ih =>
    intro j M hn hle hI
    refine ew_iload d_Mo_grow_88 rfl ?_
    refine en_if_le (tgt := 135) d_Mo_grow_90 (by decide) (by omega) (fun h90 => ?_) (fun h90 => ?_)
    · rw [h90] at hI
      refine ew_aload_n d_Mo_grow_135 rfl ?_
      refine ew_getr (ci := 9) (f := 22) d_Mo_grow_136 rfl rfl rfl tw_613 ?_
      refine ew_iload_n d_Mo_grow_139 rfl ?_
      refine ew_iconst (v := nI 1) d_Mo_grow_140 (by decide) ?_
      refine en_iadd d_Mo_grow_141 ?_
      refine en_eq rfl (show _ = [.int (nI 65), .ref 63] from rfl) rfl ?_
      refine ew_iald (j := 65) d_Mo_grow_142 rfl (rfl) (by decide) (by decide) ?_
      exact ew_iret d_Mo_grow_143 rfl (sp_gi_e hI rfl)
    · refine ew_aload_n d_Mo_grow_93 rfl ?_
      refine ew_getr (ci := 9) (f := 22) d_Mo_grow_94 rfl rfl rfl tw_613 ?_
      refine ew_iload_n d_Mo_grow_97 rfl ?_
      refine ew_iload d_Mo_grow_98 rfl ?_
      refine en_iadd d_Mo_grow_100 ?_
      refine ew_aload_n d_Mo_grow_101 rfl ?_
      refine ew_getr (ci := 9) (f := 22) d_Mo_grow_102 rfl rfl rfl tw_613 ?_
      refine ew_iload_n d_Mo_grow_105 rfl ?_
      refine ew_iconst (v := nI 2) d_Mo_grow_106 (by decide) ?_
      refine ew_iload d_Mo_grow_107 rfl ?_
      refine en_imul d_Mo_grow_109 ?_
      refine en_iadd d_Mo_grow_110 ?_
      refine ew_iald (j := 64 + (2 * (31 - j))) d_Mo_grow_111 rfl (rfl) (by omega) (by decide) ?_
      refine ew_aload_n d_Mo_grow_112 rfl ?_
      refine ew_getr (ci := 9) (f := 22) d_Mo_grow_113 rfl rfl rfl tw_613 ?_
      refine ew_iload_n d_Mo_grow_116 rfl ?_
      refine ew_iconst (v := nI 2) d_Mo_grow_117 (by decide) ?_
      refine ew_iload d_Mo_grow_118 rfl ?_
      refine en_imul d_Mo_grow_120 ?_
      refine en_iadd d_Mo_grow_121 ?_
      refine ew_iconst (v := nI 1) d_Mo_grow_122 (by decide) ?_
      refine en_iadd d_Mo_grow_123 ?_
      refine ew_iald (j := (64 + (2 * (31 - j))) + 1) d_Mo_grow_124 rfl (rfl) (by omega) (by decide) ?_
      refine en_callS (As := [.int (M 63 (64 + (2 * (31 - j)))), .int (M 63 ((64 + (2 * (31 - j))) + 1))]) (st := [.int (nI (64 + (31 - j))), .ref 63]) (st1 := [.int (sp_mix (M 63 (64 + (2 * (31 - j)))) (M 63 ((64 + (2 * (31 - j))) + 1))), .int (nI (64 + (31 - j))), .ref 63]) d_Mo_grow_125 k_Mo_mix tw_752 tw_753 rfl (Nat.le_of_ble_eq_true rfl) rfl (Nat.le_of_ble_eq_true rfl) rfl rfl (c_Mo_mix l g _ (ew_SH L) M (M 63 (64 + (2 * (31 - j)))) (M 63 ((64 + (2 * (31 - j))) + 1))) rfl ?_
      refine ew_iast (j := 64 + (31 - j)) d_Mo_grow_128 rfl (by decide) (rfl) (by omega) (by decide) ?_
      refine en_dec (ls' := [.ref 47, .int (nI 1), .int (nI 64), .int (nI 32), .int (nI ((31 - j) - 1))]) d_Mo_grow_129 (by omega) rfl rfl ?_
      refine ew_goto (tgt := 88) d_Mo_grow_132 (by decide) ?_
      refine en_eq (ls' := [.ref 47, .int (nI 1), .int (nI 64), .int (nI 32), .int (nI (31 - (j + 1)))]) (by rw [show 31 - j - 1 = 31 - (j + 1) by omega]) rfl rfl ?_
      exact ih (j + 1) _ (by omega) (by omega) (by have z := sp_gi_s hI (by omega) (by omega); rw [show 31 - j - 1 = 31 - (j + 1) by omega] at z; exact z)
set_option maxRecDepth 100000 in
theorem lp_Mo_growL1 (l : Launch) (g : ew_G) (d L : Nat) (M0 : ew_M)  : ∀ (fu i : Nat) (M : ew_M), 32 - i < fu → i ≤ 32 → sp_gl 64 32 (fun i => sp_mix (M0 62 (0 + i)) (nI 12289)) M0 i M → Ew l g (d + 1) 0 0 m_Mo_grow 13 [.ref 47, .int (nI 1), .int (nI 64), .int (nI 32), .int (nI i)] [] (ew_SH L) M (sp_gq 64 32 (fun i => sp_mix (M0 62 (0 + i)) (nI 12289)) L M0) := by
  intro fu
  induction fu with
  | zero =>
    intro i M hn
    exact absurd hn (Nat.not_lt_zero _)
  | succ fu ih =>
    intro i M hn hle hI
    refine ew_iload d_Mo_grow_13 rfl ?_
    refine ew_iload_n d_Mo_grow_15 rfl ?_
    refine en_icmp_ge (tgt := 83) d_Mo_grow_16 (by decide) (by omega) (by omega) (fun h16 => ?_) (fun h16 => ?_)
    · obtain rfl : i = 32 := by omega
      refine ew_iload_n d_Mo_grow_83 rfl ?_
      refine ew_iconst (v := nI 1) d_Mo_grow_84 (by decide) ?_
      refine en_isub d_Mo_grow_85 (by first | with_reducible assumption | with_reducible exact ep_lt _ | with_reducible exact sp_its_lt _ _ _ | with_reducible exact tb_l_rt _ | with_reducible exact tb_l_x _ | with_reducible exact tb_l_o0 _ | with_reducible exact tb_l_o1 _ | with_reducible exact tb_l_va _ | with_reducible exact tb_l_ll _ | with_reducible exact tb_l_cf _ | with_reducible exact tb_l_kf _ | with_reducible exact sp_ts_lt _ _ _ _ | with_reducible exact sp_w_lt _ _ | with_reducible exact sp_cs_lt _ _ _ _ _ | with_reducible exact sp_cb_lt _ _ _ _ _ | with_reducible exact sp_ch_lt _ | with_reducible exact sp_bf_lt _ _ | with_reducible exact sp_va_lt _ _ _ | with_reducible exact sp_be_lt _ _ | with_reducible exact sp_p_lt _ _ _ | with_reducible exact sp_com_lt _ _ _ _ | with_reducible exact sp_fo_lt _ _ _ _ _ | omega) ?_
      refine en_eq rfl (show _ = [.int (nI 31)] from rfl) rfl ?_
      refine en_istore (ls' := [.ref 47, .int (nI 1), .int (nI 64), .int (nI 32), .int (nI 31)]) d_Mo_grow_86 (Nat.le_of_ble_eq_true rfl) rfl ?_
      exact lp_Mo_growT1 l g d L M0 32 0 M (by omega) (by omega) ⟨hI.1, hI.2.1, hI.2.2, fun m h1 h2 => absurd h1 (by omega)⟩
    · refine ew_aload_n d_Mo_grow_19 rfl ?_
      refine ew_getr (ci := 9) (f := 22) d_Mo_grow_20 rfl rfl rfl tw_613 ?_
      refine ew_iload_n d_Mo_grow_23 rfl ?_
      refine ew_iload_n d_Mo_grow_24 rfl ?_
      refine en_iadd d_Mo_grow_25 ?_
      refine en_eq rfl (show _ = [.int (nI 96), .ref 63] from rfl) rfl ?_
      refine ew_iload d_Mo_grow_26 rfl ?_
      refine en_iadd d_Mo_grow_28 ?_
      refine ew_iload_n d_Mo_grow_29 rfl ?_
      refine en_if_ne (tgt := 56) d_Mo_grow_30 (by decide) (by first | with_reducible assumption | with_reducible exact ep_lt _ | with_reducible exact sp_its_lt _ _ _ | with_reducible exact tb_l_rt _ | with_reducible exact tb_l_x _ | with_reducible exact tb_l_o0 _ | with_reducible exact tb_l_o1 _ | with_reducible exact tb_l_va _ | with_reducible exact tb_l_ll _ | with_reducible exact tb_l_cf _ | with_reducible exact tb_l_kf _ | with_reducible exact sp_ts_lt _ _ _ _ | with_reducible exact sp_w_lt _ _ | with_reducible exact sp_cs_lt _ _ _ _ _ | with_reducible exact sp_cb_lt _ _ _ _ _ | with_reducible exact sp_ch_lt _ | with_reducible exact sp_bf_lt _ _ | with_reducible exact sp_va_lt _ _ _ | with_reducible exact sp_be_lt _ _ | with_reducible exact sp_p_lt _ _ _ | with_reducible exact sp_com_lt _ _ _ _ | with_reducible exact sp_fo_lt _ _ _ _ _ | omega) (fun h30 => ?_) (fun h30 => by exact absurd h30 (by decide))
      refine ew_aload_n d_Mo_grow_56 rfl ?_
      refine ew_getr (ci := 9) (f := 21) d_Mo_grow_57 rfl rfl rfl tw_612 ?_
      refine ew_iload_n d_Mo_grow_60 rfl ?_
      refine ew_iconst (v := nI 1) d_Mo_grow_61 (by decide) ?_
      refine en_isub d_Mo_grow_62 (by first | with_reducible assumption | with_reducible exact ep_lt _ | with_reducible exact sp_its_lt _ _ _ | with_reducible exact tb_l_rt _ | with_reducible exact tb_l_x _ | with_reducible exact tb_l_o0 _ | with_reducible exact tb_l_o1 _ | with_reducible exact tb_l_va _ | with_reducible exact tb_l_ll _ | with_reducible exact tb_l_cf _ | with_reducible exact tb_l_kf _ | with_reducible exact sp_ts_lt _ _ _ _ | with_reducible exact sp_w_lt _ _ | with_reducible exact sp_cs_lt _ _ _ _ _ | with_reducible exact sp_cb_lt _ _ _ _ _ | with_reducible exact sp_ch_lt _ | with_reducible exact sp_bf_lt _ _ | with_reducible exact sp_va_lt _ _ _ | with_reducible exact sp_be_lt _ _ | with_reducible exact sp_p_lt _ _ _ | with_reducible exact sp_com_lt _ _ _ _ | with_reducible exact sp_fo_lt _ _ _ _ _ | omega) ?_
      refine en_eq rfl (show _ = [.int (nI 0), .ref 62, .int (nI (96 + i)), .ref 63] from rfl) rfl ?_
      refine en_callS (As := [.int (nI 0)]) (st := [.ref 62, .int (nI (96 + i)), .ref 63]) (st1 := [.int (nI 0), .ref 62, .int (nI (96 + i)), .ref 63]) d_Mo_grow_63 k_Mo_layerFrom tw_767 tw_768 rfl (Nat.le_of_ble_eq_true rfl) rfl (Nat.le_of_ble_eq_true rfl) rfl rfl (c_Mo_layerFrom0 l g _ L M) rfl ?_
      refine ew_iload d_Mo_grow_66 rfl ?_
      refine en_iadd d_Mo_grow_68 ?_
      refine ew_iald (j := 0 + i) d_Mo_grow_69 rfl (rfl) (by omega) (by decide) ?_
      refine en_eq (st' := [.int (M0 62 (0 + i)), .int (nI (96 + i)), .ref 63]) rfl (by rw [show (M 62 (0 + i)) = (M0 62 (0 + i)) from by rw [hI.1 62 (by decide)]]) rfl ?_
      refine ew_sipush (v := nI 12289) d_Mo_grow_70 (by decide) ?_
      refine en_callS (As := [.int (M0 62 (0 + i)), .int (nI 12289)]) (st := [.int (nI (96 + i)), .ref 63]) (st1 := [.int (sp_mix (M0 62 (0 + i)) (nI 12289)), .int (nI (96 + i)), .ref 63]) d_Mo_grow_73 k_Mo_mix tw_752 tw_753 rfl (Nat.le_of_ble_eq_true rfl) rfl (Nat.le_of_ble_eq_true rfl) rfl rfl (c_Mo_mix l g _ (ew_SH L) M (M0 62 (0 + i)) (nI 12289)) rfl ?_
      refine ew_iast (j := 96 + i) d_Mo_grow_76 rfl (by decide) (rfl) (by omega) (by decide) ?_
      refine en_inc (ls' := [.ref 47, .int (nI 1), .int (nI 64), .int (nI 32), .int (nI (i + 1))]) d_Mo_grow_77 rfl rfl ?_
      refine ew_goto (tgt := 13) d_Mo_grow_80 (by decide) ?_
      exact ih (i + 1) _ (by omega) (by omega) (sp_gl_s hI h16 rfl)
set_option maxRecDepth 100000 in
theorem c_Mo_grow1 (l : Launch) (g : ew_G) (d L : Nat) (M : ew_M)  :
    Ew l g (d + 1) 0 0 m_Mo_grow 0 [.ref 47, .int (nI 1), .retAddr 0, .retAddr 0, .retAddr 0] [] (ew_SH L) M (sp_gq 64 32 (fun i => sp_mix (M 62 (0 + i)) (nI 12289)) L M) := by
  refine ew_iload_n d_Mo_grow_0 rfl ?_
  refine en_callS (As := [.int (nI 1)]) (st := []) (st1 := [.int (nI 64)]) d_Mo_grow_1 k_Mo_treeFrom tw_761 tw_762 rfl (Nat.le_of_ble_eq_true rfl) rfl (Nat.le_of_ble_eq_true rfl) rfl rfl (c_Mo_treeFrom1 l g _ L M) rfl ?_
  refine en_istore_n (ls' := [.ref 47, .int (nI 1), .int (nI 64), .retAddr 0, .retAddr 0]) d_Mo_grow_4 (Nat.le_of_ble_eq_true rfl) rfl ?_
  refine ew_iload_n d_Mo_grow_5 rfl ?_
  refine en_callS (As := [.int (nI 1)]) (st := []) (st1 := [.int (nI 32)]) d_Mo_grow_6 k_Mo_leavesOf tw_764 tw_765 rfl (Nat.le_of_ble_eq_true rfl) rfl (Nat.le_of_ble_eq_true rfl) rfl rfl (c_Mo_leavesOf1 l g _ L M) rfl ?_
  refine en_istore_n (ls' := [.ref 47, .int (nI 1), .int (nI 64), .int (nI 32), .retAddr 0]) d_Mo_grow_9 (Nat.le_of_ble_eq_true rfl) rfl ?_
  refine ew_iconst (v := nI 0) d_Mo_grow_10 (by decide) ?_
  refine en_istore (ls' := [.ref 47, .int (nI 1), .int (nI 64), .int (nI 32), .int (nI 0)]) d_Mo_grow_11 (Nat.le_of_ble_eq_true rfl) rfl ?_
  exact lp_Mo_growL1 l g d L M 33 0 M (by omega) (by omega) ⟨fun _ _ => rfl, fun _ _ => rfl, fun i hi => absurd hi (Nat.not_lt_zero _)⟩
set_option maxRecDepth 100000 in
theorem lp_Mo_growT2 (l : Launch) (g : ew_G) (d L : Nat) (M0 : ew_M)  : ∀ (fu j : Nat) (M : ew_M), 15 - j < fu → j ≤ 15 → sp_gi 128 16 (fun i => sp_mix (M0 62 (32 + i)) (nI 12289)) M0 (15 - j) M → Ew l g (d + 1) 0 0 m_Mo_grow 88 [.ref 47, .int (nI 2), .int (nI 128), .int (nI 16), .int (nI (15 - j))] [] (ew_SH L) M (sp_gq 128 16 (fun i => sp_mix (M0 62 (32 + i)) (nI 12289)) L M0) := by
  intro fu
  induction fu with
  | zero =>
    intro j M hn
    exact absurd hn (Nat.not_lt_zero _)
  | succ fu ih =>
    intro j M hn hle hI
    refine ew_iload d_Mo_grow_88 rfl ?_
    refine en_if_le (tgt := 135) d_Mo_grow_90 (by decide) (by omega) (fun h90 => ?_) (fun h90 => ?_)
    · rw [h90] at hI
      refine ew_aload_n d_Mo_grow_135 rfl ?_
      refine ew_getr (ci := 9) (f := 22) d_Mo_grow_136 rfl rfl rfl tw_613 ?_
      refine ew_iload_n d_Mo_grow_139 rfl ?_
      refine ew_iconst (v := nI 1) d_Mo_grow_140 (by decide) ?_
      refine en_iadd d_Mo_grow_141 ?_
      refine en_eq rfl (show _ = [.int (nI 129), .ref 63] from rfl) rfl ?_
      refine ew_iald (j := 129) d_Mo_grow_142 rfl (rfl) (by decide) (by decide) ?_
      exact ew_iret d_Mo_grow_143 rfl (sp_gi_e hI rfl)
    · refine ew_aload_n d_Mo_grow_93 rfl ?_
      refine ew_getr (ci := 9) (f := 22) d_Mo_grow_94 rfl rfl rfl tw_613 ?_
      refine ew_iload_n d_Mo_grow_97 rfl ?_
      refine ew_iload d_Mo_grow_98 rfl ?_
      refine en_iadd d_Mo_grow_100 ?_
      refine ew_aload_n d_Mo_grow_101 rfl ?_
      refine ew_getr (ci := 9) (f := 22) d_Mo_grow_102 rfl rfl rfl tw_613 ?_
      refine ew_iload_n d_Mo_grow_105 rfl ?_
      refine ew_iconst (v := nI 2) d_Mo_grow_106 (by decide) ?_
      refine ew_iload d_Mo_grow_107 rfl ?_
      refine en_imul d_Mo_grow_109 ?_
      refine en_iadd d_Mo_grow_110 ?_
      refine ew_iald (j := 128 + (2 * (15 - j))) d_Mo_grow_111 rfl (rfl) (by omega) (by decide) ?_
      refine ew_aload_n d_Mo_grow_112 rfl ?_
      refine ew_getr (ci := 9) (f := 22) d_Mo_grow_113 rfl rfl rfl tw_613 ?_
      refine ew_iload_n d_Mo_grow_116 rfl ?_
      refine ew_iconst (v := nI 2) d_Mo_grow_117 (by decide) ?_
      refine ew_iload d_Mo_grow_118 rfl ?_
      refine en_imul d_Mo_grow_120 ?_
      refine en_iadd d_Mo_grow_121 ?_
      refine ew_iconst (v := nI 1) d_Mo_grow_122 (by decide) ?_
      refine en_iadd d_Mo_grow_123 ?_
      refine ew_iald (j := (128 + (2 * (15 - j))) + 1) d_Mo_grow_124 rfl (rfl) (by omega) (by decide) ?_
      refine en_callS (As := [.int (M 63 (128 + (2 * (15 - j)))), .int (M 63 ((128 + (2 * (15 - j))) + 1))]) (st := [.int (nI (128 + (15 - j))), .ref 63]) (st1 := [.int (sp_mix (M 63 (128 + (2 * (15 - j)))) (M 63 ((128 + (2 * (15 - j))) + 1))), .int (nI (128 + (15 - j))), .ref 63]) d_Mo_grow_125 k_Mo_mix tw_752 tw_753 rfl (Nat.le_of_ble_eq_true rfl) rfl (Nat.le_of_ble_eq_true rfl) rfl rfl (c_Mo_mix l g _ (ew_SH L) M (M 63 (128 + (2 * (15 - j)))) (M 63 ((128 + (2 * (15 - j))) + 1))) rfl ?_
      refine ew_iast (j := 128 + (15 - j)) d_Mo_grow_128 rfl (by decide) (rfl) (by omega) (by decide) ?_
      refine en_dec (ls' := [.ref 47, .int (nI 2), .int (nI 128), .int (nI 16), .int (nI ((15 - j) - 1))]) d_Mo_grow_129 (by omega) rfl rfl ?_
      refine ew_goto (tgt := 88) d_Mo_grow_132 (by decide) ?_
      refine en_eq (ls' := [.ref 47, .int (nI 2), .int (nI 128), .int (nI 16), .int (nI (15 - (j + 1)))]) (by rw [show 15 - j - 1 = 15 - (j + 1) by omega]) rfl rfl ?_
      exact ih (j + 1) _ (by omega) (by omega) (by have z := sp_gi_s hI (by omega) (by omega); rw [show 15 - j - 1 = 15 - (j + 1) by omega] at z; exact z)
set_option maxRecDepth 100000 in
theorem lp_Mo_growL2 (l : Launch) (g : ew_G) (d L : Nat) (M0 : ew_M)  : ∀ (fu i : Nat) (M : ew_M), 16 - i < fu → i ≤ 16 → sp_gl 128 16 (fun i => sp_mix (M0 62 (32 + i)) (nI 12289)) M0 i M → Ew l g (d + 1) 0 0 m_Mo_grow 13 [.ref 47, .int (nI 2), .int (nI 128), .int (nI 16), .int (nI i)] [] (ew_SH L) M (sp_gq 128 16 (fun i => sp_mix (M0 62 (32 + i)) (nI 12289)) L M0) := by
  intro fu
  induction fu with
  | zero =>
    intro i M hn
    exact absurd hn (Nat.not_lt_zero _)
  | succ fu ih =>
    intro i M hn hle hI
    refine ew_iload d_Mo_grow_13 rfl ?_
    refine ew_iload_n d_Mo_grow_15 rfl ?_
    refine en_icmp_ge (tgt := 83) d_Mo_grow_16 (by decide) (by omega) (by omega) (fun h16 => ?_) (fun h16 => ?_)
    · obtain rfl : i = 16 := by omega
      refine ew_iload_n d_Mo_grow_83 rfl ?_
      refine ew_iconst (v := nI 1) d_Mo_grow_84 (by decide) ?_
      refine en_isub d_Mo_grow_85 (by first | with_reducible assumption | with_reducible exact ep_lt _ | with_reducible exact sp_its_lt _ _ _ | with_reducible exact tb_l_rt _ | with_reducible exact tb_l_x _ | with_reducible exact tb_l_o0 _ | with_reducible exact tb_l_o1 _ | with_reducible exact tb_l_va _ | with_reducible exact tb_l_ll _ | with_reducible exact tb_l_cf _ | with_reducible exact tb_l_kf _ | with_reducible exact sp_ts_lt _ _ _ _ | with_reducible exact sp_w_lt _ _ | with_reducible exact sp_cs_lt _ _ _ _ _ | with_reducible exact sp_cb_lt _ _ _ _ _ | with_reducible exact sp_ch_lt _ | with_reducible exact sp_bf_lt _ _ | with_reducible exact sp_va_lt _ _ _ | with_reducible exact sp_be_lt _ _ | with_reducible exact sp_p_lt _ _ _ | with_reducible exact sp_com_lt _ _ _ _ | with_reducible exact sp_fo_lt _ _ _ _ _ | omega) ?_
      refine en_eq rfl (show _ = [.int (nI 15)] from rfl) rfl ?_
      refine en_istore (ls' := [.ref 47, .int (nI 2), .int (nI 128), .int (nI 16), .int (nI 15)]) d_Mo_grow_86 (Nat.le_of_ble_eq_true rfl) rfl ?_
      exact lp_Mo_growT2 l g d L M0 16 0 M (by omega) (by omega) ⟨hI.1, hI.2.1, hI.2.2, fun m h1 h2 => absurd h1 (by omega)⟩
    · refine ew_aload_n d_Mo_grow_19 rfl ?_
      refine ew_getr (ci := 9) (f := 22) d_Mo_grow_20 rfl rfl rfl tw_613 ?_
      refine ew_iload_n d_Mo_grow_23 rfl ?_
      refine ew_iload_n d_Mo_grow_24 rfl ?_
      refine en_iadd d_Mo_grow_25 ?_
      refine en_eq rfl (show _ = [.int (nI 144), .ref 63] from rfl) rfl ?_
      refine ew_iload d_Mo_grow_26 rfl ?_
      refine en_iadd d_Mo_grow_28 ?_
      refine ew_iload_n d_Mo_grow_29 rfl ?_
      refine en_if_ne (tgt := 56) d_Mo_grow_30 (by decide) (by first | with_reducible assumption | with_reducible exact ep_lt _ | with_reducible exact sp_its_lt _ _ _ | with_reducible exact tb_l_rt _ | with_reducible exact tb_l_x _ | with_reducible exact tb_l_o0 _ | with_reducible exact tb_l_o1 _ | with_reducible exact tb_l_va _ | with_reducible exact tb_l_ll _ | with_reducible exact tb_l_cf _ | with_reducible exact tb_l_kf _ | with_reducible exact sp_ts_lt _ _ _ _ | with_reducible exact sp_w_lt _ _ | with_reducible exact sp_cs_lt _ _ _ _ _ | with_reducible exact sp_cb_lt _ _ _ _ _ | with_reducible exact sp_ch_lt _ | with_reducible exact sp_bf_lt _ _ | with_reducible exact sp_va_lt _ _ _ | with_reducible exact sp_be_lt _ _ | with_reducible exact sp_p_lt _ _ _ | with_reducible exact sp_com_lt _ _ _ _ | with_reducible exact sp_fo_lt _ _ _ _ _ | omega) (fun h30 => ?_) (fun h30 => by exact absurd h30 (by decide))
      refine ew_aload_n d_Mo_grow_56 rfl ?_
      refine ew_getr (ci := 9) (f := 21) d_Mo_grow_57 rfl rfl rfl tw_612 ?_
      refine ew_iload_n d_Mo_grow_60 rfl ?_
      refine ew_iconst (v := nI 1) d_Mo_grow_61 (by decide) ?_
      refine en_isub d_Mo_grow_62 (by first | with_reducible assumption | with_reducible exact ep_lt _ | with_reducible exact sp_its_lt _ _ _ | with_reducible exact tb_l_rt _ | with_reducible exact tb_l_x _ | with_reducible exact tb_l_o0 _ | with_reducible exact tb_l_o1 _ | with_reducible exact tb_l_va _ | with_reducible exact tb_l_ll _ | with_reducible exact tb_l_cf _ | with_reducible exact tb_l_kf _ | with_reducible exact sp_ts_lt _ _ _ _ | with_reducible exact sp_w_lt _ _ | with_reducible exact sp_cs_lt _ _ _ _ _ | with_reducible exact sp_cb_lt _ _ _ _ _ | with_reducible exact sp_ch_lt _ | with_reducible exact sp_bf_lt _ _ | with_reducible exact sp_va_lt _ _ _ | with_reducible exact sp_be_lt _ _ | with_reducible exact sp_p_lt _ _ _ | with_reducible exact sp_com_lt _ _ _ _ | with_reducible exact sp_fo_lt _ _ _ _ _ | omega) ?_
      refine en_eq rfl (show _ = [.int (nI 1), .ref 62, .int (nI (144 + i)), .ref 63] from rfl) rfl ?_
      refine en_callS (As := [.int (nI 1)]) (st := [.ref 62, .int (nI (144 + i)), .ref 63]) (st1 := [.int (nI 32), .ref 62, .int (nI (144 + i)), .ref 63]) d_Mo_grow_63 k_Mo_layerFrom tw_767 tw_768 rfl (Nat.le_of_ble_eq_true rfl) rfl (Nat.le_of_ble_eq_true rfl) rfl rfl (c_Mo_layerFrom1 l g _ L M) rfl ?_
      refine ew_iload d_Mo_grow_66 rfl ?_
      refine en_iadd d_Mo_grow_68 ?_
      refine ew_iald (j := 32 + i) d_Mo_grow_69 rfl (rfl) (by omega) (by decide) ?_
      refine en_eq (st' := [.int (M0 62 (32 + i)), .int (nI (144 + i)), .ref 63]) rfl (by rw [show (M 62 (32 + i)) = (M0 62 (32 + i)) from by rw [hI.1 62 (by decide)]]) rfl ?_
      refine ew_sipush (v := nI 12289) d_Mo_grow_70 (by decide) ?_
      refine en_callS (As := [.int (M0 62 (32 + i)), .int (nI 12289)]) (st := [.int (nI (144 + i)), .ref 63]) (st1 := [.int (sp_mix (M0 62 (32 + i)) (nI 12289)), .int (nI (144 + i)), .ref 63]) d_Mo_grow_73 k_Mo_mix tw_752 tw_753 rfl (Nat.le_of_ble_eq_true rfl) rfl (Nat.le_of_ble_eq_true rfl) rfl rfl (c_Mo_mix l g _ (ew_SH L) M (M0 62 (32 + i)) (nI 12289)) rfl ?_
      refine ew_iast (j := 144 + i) d_Mo_grow_76 rfl (by decide) (rfl) (by omega) (by decide) ?_
      refine en_inc (ls' := [.ref 47, .int (nI 2), .int (nI 128), .int (nI 16), .int (nI (i + 1))]) d_Mo_grow_77 rfl rfl ?_
      refine ew_goto (tgt := 13) d_Mo_grow_80 (by decide) ?_
      exact ih (i + 1) _ (by omega) (by omega) (sp_gl_s hI h16 rfl)
set_option maxRecDepth 100000 in
theorem c_Mo_grow2 (l : Launch) (g : ew_G) (d L : Nat) (M : ew_M)  :
    Ew l g (d + 1) 0 0 m_Mo_grow 0 [.ref 47, .int (nI 2), .retAddr 0, .retAddr 0, .retAddr 0] [] (ew_SH L) M (sp_gq 128 16 (fun i => sp_mix (M 62 (32 + i)) (nI 12289)) L M) := by
  refine ew_iload_n d_Mo_grow_0 rfl ?_
  refine en_callS (As := [.int (nI 2)]) (st := []) (st1 := [.int (nI 128)]) d_Mo_grow_1 k_Mo_treeFrom tw_761 tw_762 rfl (Nat.le_of_ble_eq_true rfl) rfl (Nat.le_of_ble_eq_true rfl) rfl rfl (c_Mo_treeFrom2 l g _ L M) rfl ?_
  refine en_istore_n (ls' := [.ref 47, .int (nI 2), .int (nI 128), .retAddr 0, .retAddr 0]) d_Mo_grow_4 (Nat.le_of_ble_eq_true rfl) rfl ?_
  refine ew_iload_n d_Mo_grow_5 rfl ?_
  refine en_callS (As := [.int (nI 2)]) (st := []) (st1 := [.int (nI 16)]) d_Mo_grow_6 k_Mo_leavesOf tw_764 tw_765 rfl (Nat.le_of_ble_eq_true rfl) rfl (Nat.le_of_ble_eq_true rfl) rfl rfl (c_Mo_leavesOf2 l g _ L M) rfl ?_
  refine en_istore_n (ls' := [.ref 47, .int (nI 2), .int (nI 128), .int (nI 16), .retAddr 0]) d_Mo_grow_9 (Nat.le_of_ble_eq_true rfl) rfl ?_
  refine ew_iconst (v := nI 0) d_Mo_grow_10 (by decide) ?_
  refine en_istore (ls' := [.ref 47, .int (nI 2), .int (nI 128), .int (nI 16), .int (nI 0)]) d_Mo_grow_11 (Nat.le_of_ble_eq_true rfl) rfl ?_
  exact lp_Mo_growL2 l g d L M 17 0 M (by omega) (by omega) ⟨fun _ _ => rfl, fun _ _ => rfl, fun i hi => absurd hi (Nat.not_lt_zero _)⟩
set_option maxRecDepth 100000 in
theorem lp_Mo_growT3 (l : Launch) (g : ew_G) (d L : Nat) (M0 : ew_M)  : ∀ (fu j : Nat) (M : ew_M), 7 - j < fu → j ≤ 7 → sp_gi 160 8 (fun i => sp_mix (M0 62 (48 + i)) (nI 12289)) M0 (7 - j) M → Ew l g (d + 1) 0 0 m_Mo_grow 88 [.ref 47, .int (nI 3), .int (nI 160), .int (nI 8), .int (nI (7 - j))] [] (ew_SH L) M (sp_gq 160 8 (fun i => sp_mix (M0 62 (48 + i)) (nI 12289)) L M0) := by
  intro fu
  induction fu with
  | zero =>
    intro j M hn
    exact absurd hn (Nat.not_lt_zero _)
  | succ fu ih =>
    intro j M hn hle hI
    refine ew_iload d_Mo_grow_88 rfl ?_
    refine en_if_le (tgt := 135) d_Mo_grow_90 (by decide) (by omega) (fun h90 => ?_) (fun h90 => ?_)
    · rw [h90] at hI
      refine ew_aload_n d_Mo_grow_135 rfl ?_
      refine ew_getr (ci := 9) (f := 22) d_Mo_grow_136 rfl rfl rfl tw_613 ?_
      refine ew_iload_n d_Mo_grow_139 rfl ?_
      refine ew_iconst (v := nI 1) d_Mo_grow_140 (by decide) ?_
      refine en_iadd d_Mo_grow_141 ?_
      refine en_eq rfl (show _ = [.int (nI 161), .ref 63] from rfl) rfl ?_
      refine ew_iald (j := 161) d_Mo_grow_142 rfl (rfl) (by decide) (by decide) ?_
      exact ew_iret d_Mo_grow_143 rfl (sp_gi_e hI rfl)
    · refine ew_aload_n d_Mo_grow_93 rfl ?_
      refine ew_getr (ci := 9) (f := 22) d_Mo_grow_94 rfl rfl rfl tw_613 ?_
      refine ew_iload_n d_Mo_grow_97 rfl ?_
      refine ew_iload d_Mo_grow_98 rfl ?_
      refine en_iadd d_Mo_grow_100 ?_
      refine ew_aload_n d_Mo_grow_101 rfl ?_
      refine ew_getr (ci := 9) (f := 22) d_Mo_grow_102 rfl rfl rfl tw_613 ?_
      refine ew_iload_n d_Mo_grow_105 rfl ?_
      refine ew_iconst (v := nI 2) d_Mo_grow_106 (by decide) ?_
      refine ew_iload d_Mo_grow_107 rfl ?_
      refine en_imul d_Mo_grow_109 ?_
      refine en_iadd d_Mo_grow_110 ?_
      refine ew_iald (j := 160 + (2 * (7 - j))) d_Mo_grow_111 rfl (rfl) (by omega) (by decide) ?_
      refine ew_aload_n d_Mo_grow_112 rfl ?_
      refine ew_getr (ci := 9) (f := 22) d_Mo_grow_113 rfl rfl rfl tw_613 ?_
      refine ew_iload_n d_Mo_grow_116 rfl ?_
      refine ew_iconst (v := nI 2) d_Mo_grow_117 (by decide) ?_
      refine ew_iload d_Mo_grow_118 rfl ?_
      refine en_imul d_Mo_grow_120 ?_
      refine en_iadd d_Mo_grow_121 ?_
      refine ew_iconst (v := nI 1) d_Mo_grow_122 (by decide) ?_
      refine en_iadd d_Mo_grow_123 ?_
      refine ew_iald (j := (160 + (2 * (7 - j))) + 1) d_Mo_grow_124 rfl (rfl) (by omega) (by decide) ?_
      refine en_callS (As := [.int (M 63 (160 + (2 * (7 - j)))), .int (M 63 ((160 + (2 * (7 - j))) + 1))]) (st := [.int (nI (160 + (7 - j))), .ref 63]) (st1 := [.int (sp_mix (M 63 (160 + (2 * (7 - j)))) (M 63 ((160 + (2 * (7 - j))) + 1))), .int (nI (160 + (7 - j))), .ref 63]) d_Mo_grow_125 k_Mo_mix tw_752 tw_753 rfl (Nat.le_of_ble_eq_true rfl) rfl (Nat.le_of_ble_eq_true rfl) rfl rfl (c_Mo_mix l g _ (ew_SH L) M (M 63 (160 + (2 * (7 - j)))) (M 63 ((160 + (2 * (7 - j))) + 1))) rfl ?_
      refine ew_iast (j := 160 + (7 - j)) d_Mo_grow_128 rfl (by decide) (rfl) (by omega) (by decide) ?_
      refine en_dec (ls' := [.ref 47, .int (nI 3), .int (nI 160), .int (nI 8), .int (nI ((7 - j) - 1))]) d_Mo_grow_129 (by omega) rfl rfl ?_
      refine ew_goto (tgt := 88) d_Mo_grow_132 (by decide) ?_
      refine en_eq (ls' := [.ref 47, .int (nI 3), .int (nI 160), .int (nI 8), .int (nI (7 - (j + 1)))]) (by rw [show 7 - j - 1 = 7 - (j + 1) by omega]) rfl rfl ?_
      exact ih (j + 1) _ (by omega) (by omega) (by have z := sp_gi_s hI (by omega) (by omega); rw [show 7 - j - 1 = 7 - (j + 1) by omega] at z; exact z)
set_option maxRecDepth 100000 in
theorem lp_Mo_growL3 (l : Launch) (g : ew_G) (d L : Nat) (M0 : ew_M)  : ∀ (fu i : Nat) (M : ew_M), 8 - i < fu → i ≤ 8 → sp_gl 160 8 (fun i => sp_mix (M0 62 (48 + i)) (nI 12289)) M0 i M → Ew l g (d + 1) 0 0 m_Mo_grow 13 [.ref 47, .int (nI 3), .int (nI 160), .int (nI 8), .int (nI i)] [] (ew_SH L) M (sp_gq 160 8 (fun i => sp_mix (M0 62 (48 + i)) (nI 12289)) L M0) := by
  intro fu
  induction fu with
  | zero =>
    intro i M hn
    exact absurd hn (Nat.not_lt_zero _)
  | succ fu ih =>
    intro i M hn hle hI
    refine ew_iload d_Mo_grow_13 rfl ?_
    refine ew_iload_n d_Mo_grow_15 rfl ?_
    refine en_icmp_ge (tgt := 83) d_Mo_grow_16 (by decide) (by omega) (by omega) (fun h16 => ?_) (fun h16 => ?_)
    · obtain rfl : i = 8 := by omega
      refine ew_iload_n d_Mo_grow_83 rfl ?_
      refine ew_iconst (v := nI 1) d_Mo_grow_84 (by decide) ?_
      refine en_isub d_Mo_grow_85 (by first | with_reducible assumption | with_reducible exact ep_lt _ | with_reducible exact sp_its_lt _ _ _ | with_reducible exact tb_l_rt _ | with_reducible exact tb_l_x _ | with_reducible exact tb_l_o0 _ | with_reducible exact tb_l_o1 _ | with_reducible exact tb_l_va _ | with_reducible exact tb_l_ll _ | with_reducible exact tb_l_cf _ | with_reducible exact tb_l_kf _ | with_reducible exact sp_ts_lt _ _ _ _ | with_reducible exact sp_w_lt _ _ | with_reducible exact sp_cs_lt _ _ _ _ _ | with_reducible exact sp_cb_lt _ _ _ _ _ | with_reducible exact sp_ch_lt _ | with_reducible exact sp_bf_lt _ _ | with_reducible exact sp_va_lt _ _ _ | with_reducible exact sp_be_lt _ _ | with_reducible exact sp_p_lt _ _ _ | with_reducible exact sp_com_lt _ _ _ _ | with_reducible exact sp_fo_lt _ _ _ _ _ | omega) ?_
      refine en_eq rfl (show _ = [.int (nI 7)] from rfl) rfl ?_
      refine en_istore (ls' := [.ref 47, .int (nI 3), .int (nI 160), .int (nI 8), .int (nI 7)]) d_Mo_grow_86 (Nat.le_of_ble_eq_true rfl) rfl ?_
      exact lp_Mo_growT3 l g d L M0 8 0 M (by omega) (by omega) ⟨hI.1, hI.2.1, hI.2.2, fun m h1 h2 => absurd h1 (by omega)⟩
    · refine ew_aload_n d_Mo_grow_19 rfl ?_
      refine ew_getr (ci := 9) (f := 22) d_Mo_grow_20 rfl rfl rfl tw_613 ?_
      refine ew_iload_n d_Mo_grow_23 rfl ?_
      refine ew_iload_n d_Mo_grow_24 rfl ?_
      refine en_iadd d_Mo_grow_25 ?_
      refine en_eq rfl (show _ = [.int (nI 168), .ref 63] from rfl) rfl ?_
      refine ew_iload d_Mo_grow_26 rfl ?_
      refine en_iadd d_Mo_grow_28 ?_
      refine ew_iload_n d_Mo_grow_29 rfl ?_
      refine en_if_ne (tgt := 56) d_Mo_grow_30 (by decide) (by first | with_reducible assumption | with_reducible exact ep_lt _ | with_reducible exact sp_its_lt _ _ _ | with_reducible exact tb_l_rt _ | with_reducible exact tb_l_x _ | with_reducible exact tb_l_o0 _ | with_reducible exact tb_l_o1 _ | with_reducible exact tb_l_va _ | with_reducible exact tb_l_ll _ | with_reducible exact tb_l_cf _ | with_reducible exact tb_l_kf _ | with_reducible exact sp_ts_lt _ _ _ _ | with_reducible exact sp_w_lt _ _ | with_reducible exact sp_cs_lt _ _ _ _ _ | with_reducible exact sp_cb_lt _ _ _ _ _ | with_reducible exact sp_ch_lt _ | with_reducible exact sp_bf_lt _ _ | with_reducible exact sp_va_lt _ _ _ | with_reducible exact sp_be_lt _ _ | with_reducible exact sp_p_lt _ _ _ | with_reducible exact sp_com_lt _ _ _ _ | with_reducible exact sp_fo_lt _ _ _ _ _ | omega) (fun h30 => ?_) (fun h30 => by exact absurd h30 (by decide))
      refine ew_aload_n d_Mo_grow_56 rfl ?_
      refine ew_getr (ci := 9) (f := 21) d_Mo_grow_57 rfl rfl rfl tw_612 ?_
      refine ew_iload_n d_Mo_grow_60 rfl ?_
      refine ew_iconst (v := nI 1) d_Mo_grow_61 (by decide) ?_
      refine en_isub d_Mo_grow_62 (by first | with_reducible assumption | with_reducible exact ep_lt _ | with_reducible exact sp_its_lt _ _ _ | with_reducible exact tb_l_rt _ | with_reducible exact tb_l_x _ | with_reducible exact tb_l_o0 _ | with_reducible exact tb_l_o1 _ | with_reducible exact tb_l_va _ | with_reducible exact tb_l_ll _ | with_reducible exact tb_l_cf _ | with_reducible exact tb_l_kf _ | with_reducible exact sp_ts_lt _ _ _ _ | with_reducible exact sp_w_lt _ _ | with_reducible exact sp_cs_lt _ _ _ _ _ | with_reducible exact sp_cb_lt _ _ _ _ _ | with_reducible exact sp_ch_lt _ | with_reducible exact sp_bf_lt _ _ | with_reducible exact sp_va_lt _ _ _ | with_reducible exact sp_be_lt _ _ | with_reducible exact sp_p_lt _ _ _ | with_reducible exact sp_com_lt _ _ _ _ | with_reducible exact sp_fo_lt _ _ _ _ _ | omega) ?_
      refine en_eq rfl (show _ = [.int (nI 2), .ref 62, .int (nI (168 + i)), .ref 63] from rfl) rfl ?_
      refine en_callS (As := [.int (nI 2)]) (st := [.ref 62, .int (nI (168 + i)), .ref 63]) (st1 := [.int (nI 48), .ref 62, .int (nI (168 + i)), .ref 63]) d_Mo_grow_63 k_Mo_layerFrom tw_767 tw_768 rfl (Nat.le_of_ble_eq_true rfl) rfl (Nat.le_of_ble_eq_true rfl) rfl rfl (c_Mo_layerFrom2 l g _ L M) rfl ?_
      refine ew_iload d_Mo_grow_66 rfl ?_
      refine en_iadd d_Mo_grow_68 ?_
      refine ew_iald (j := 48 + i) d_Mo_grow_69 rfl (rfl) (by omega) (by decide) ?_
      refine en_eq (st' := [.int (M0 62 (48 + i)), .int (nI (168 + i)), .ref 63]) rfl (by rw [show (M 62 (48 + i)) = (M0 62 (48 + i)) from by rw [hI.1 62 (by decide)]]) rfl ?_
      refine ew_sipush (v := nI 12289) d_Mo_grow_70 (by decide) ?_
      refine en_callS (As := [.int (M0 62 (48 + i)), .int (nI 12289)]) (st := [.int (nI (168 + i)), .ref 63]) (st1 := [.int (sp_mix (M0 62 (48 + i)) (nI 12289)), .int (nI (168 + i)), .ref 63]) d_Mo_grow_73 k_Mo_mix tw_752 tw_753 rfl (Nat.le_of_ble_eq_true rfl) rfl (Nat.le_of_ble_eq_true rfl) rfl rfl (c_Mo_mix l g _ (ew_SH L) M (M0 62 (48 + i)) (nI 12289)) rfl ?_
      refine ew_iast (j := 168 + i) d_Mo_grow_76 rfl (by decide) (rfl) (by omega) (by decide) ?_
      refine en_inc (ls' := [.ref 47, .int (nI 3), .int (nI 160), .int (nI 8), .int (nI (i + 1))]) d_Mo_grow_77 rfl rfl ?_
      refine ew_goto (tgt := 13) d_Mo_grow_80 (by decide) ?_
      exact ih (i + 1) _ (by omega) (by omega) (sp_gl_s hI h16 rfl)
set_option maxRecDepth 100000 in
theorem c_Mo_grow3 (l : Launch) (g : ew_G) (d L : Nat) (M : ew_M)  :
    Ew l g (d + 1) 0 0 m_Mo_grow 0 [.ref 47, .int (nI 3), .retAddr 0, .retAddr 0, .retAddr 0] [] (ew_SH L) M (sp_gq 160 8 (fun i => sp_mix (M 62 (48 + i)) (nI 12289)) L M) := by
  refine ew_iload_n d_Mo_grow_0 rfl ?_
  refine en_callS (As := [.int (nI 3)]) (st := []) (st1 := [.int (nI 160)]) d_Mo_grow_1 k_Mo_treeFrom tw_761 tw_762 rfl (Nat.le_of_ble_eq_true rfl) rfl (Nat.le_of_ble_eq_true rfl) rfl rfl (c_Mo_treeFrom3 l g _ L M) rfl ?_
  refine en_istore_n (ls' := [.ref 47, .int (nI 3), .int (nI 160), .retAddr 0, .retAddr 0]) d_Mo_grow_4 (Nat.le_of_ble_eq_true rfl) rfl ?_
  refine ew_iload_n d_Mo_grow_5 rfl ?_
  refine en_callS (As := [.int (nI 3)]) (st := []) (st1 := [.int (nI 8)]) d_Mo_grow_6 k_Mo_leavesOf tw_764 tw_765 rfl (Nat.le_of_ble_eq_true rfl) rfl (Nat.le_of_ble_eq_true rfl) rfl rfl (c_Mo_leavesOf3 l g _ L M) rfl ?_
  refine en_istore_n (ls' := [.ref 47, .int (nI 3), .int (nI 160), .int (nI 8), .retAddr 0]) d_Mo_grow_9 (Nat.le_of_ble_eq_true rfl) rfl ?_
  refine ew_iconst (v := nI 0) d_Mo_grow_10 (by decide) ?_
  refine en_istore (ls' := [.ref 47, .int (nI 3), .int (nI 160), .int (nI 8), .int (nI 0)]) d_Mo_grow_11 (Nat.le_of_ble_eq_true rfl) rfl ?_
  exact lp_Mo_growL3 l g d L M 9 0 M (by omega) (by omega) ⟨fun _ _ => rfl, fun _ _ => rfl, fun i hi => absurd hi (Nat.not_lt_zero _)⟩
def sp_wm (M : ew_M) (f : Nat → Int32) (w : Nat) : ew_M := ew_w (ew_up M 56 f) 47 11 (nI w)
theorem sp_wm_ne {M : ew_M} {f : Nat → Int32} {w q : Nat} (h : q ≠ 47) (h2 : q ≠ 56) : sp_wm M f w q = M q := (ew_w_ne h).trans (ew_up_ne h2)
theorem sp_wm_56 {M : ew_M} {f : Nat → Int32} {w : Nat} : sp_wm M f w 56 = f := (ew_w_ne (by decide)).trans ew_up_self
theorem sp_wm_47 {M : ew_M} {f : Nat → Int32} {w j : Nat} (h : j ≠ 11) : sp_wm M f w 47 j = M 47 j := (ew_w_j h).trans (by rw [ew_up_ne (by decide)])
theorem sp_wm_id {M : ew_M} {w : Nat} (h : M 47 11 = nI w) : sp_wm M (M 56) w = M := by
  unfold sp_wm
  rw [ew_up_id, ← h]
  funext q j
  by_cases e : q = 47
  · subst e
    by_cases e2 : j = 11
    · subst e2
      exact ew_w_at
    · exact ew_w_j e2
  · rw [ew_w_ne e]
theorem sp_wm_s {M : ew_M} {f : Nat → Int32} {w : Nat} {x : Int32} : ew_w (ew_w (sp_wm M f w) 56 w x) 47 11 (nI (w + 1)) = sp_wm M (upd f w x) (w + 1) := by
  funext q j
  unfold sp_wm
  by_cases e : q = 47
  · subst e
    by_cases e2 : j = 11
    · subst e2
      rw [ew_w_at, ew_w_at]
    · rw [ew_w_j e2, ew_w_ne (by decide), ew_w_j e2, ew_w_j e2, ew_up_ne (by decide), ew_up_ne (by decide)]
  · by_cases e3 : q = 56
    · subst e3
      rw [ew_w_ne (by decide), ew_w_self, ew_w_ne (by decide), ew_up_self, ew_w_ne (by decide), ew_up_self]
    · rw [ew_w_ne e, ew_w_ne e3, ew_w_ne e, ew_w_ne e, ew_up_ne e3, ew_up_ne e3]
set_option maxRecDepth 100000 in
theorem c_Mo_writew (l : Launch) (g : ew_G) (d L : Nat) (M : ew_M) (f : Nat → Int32) (k : Nat) (hk : k < 179) (x : Int32) :
    Ew l g d 0 0 m_Mo_write 0 [.ref 47, .int x] [] (ew_SH L) (sp_wm M f k) (ew_q (none) (ew_SH L) (sp_wm M (upd f k x) (k + 1))) := by
  refine ew_aload_n d_Mo_write_0 rfl ?_
  refine ew_getr (ci := 9) (f := 10) d_Mo_write_1 rfl rfl rfl tw_602 ?_
  refine ew_aload_n d_Mo_write_4 rfl ?_
  refine ew_geti (ci := 9) (f := 11) d_Mo_write_5 rfl rfl rfl tw_603 ?_
  refine en_eq (st' := [.int (nI k), .ref 56]) rfl (by rw [show ((sp_wm M f k) 47 11) = (nI k) from ew_w_at]) rfl ?_
  refine ew_iload_n d_Mo_write_8 rfl ?_
  refine ew_iast (j := k) d_Mo_write_9 rfl (by decide) (rfl) (hk) (by decide) ?_
  refine ew_aload_n d_Mo_write_10 rfl ?_
  refine ew_dupr d_Mo_write_11 ?_
  refine ew_geti (ci := 9) (f := 11) d_Mo_write_12 rfl rfl rfl tw_603 ?_
  refine en_eq (st' := [.int (nI k), .ref 47]) rfl (by rw [show ((ew_w (sp_wm M f k) 56 k x) 47 11) = (nI k) from by rw [ew_w_ne (by decide)]; exact ew_w_at]) rfl ?_
  refine ew_iconst (v := nI 1) d_Mo_write_15 (by decide) ?_
  refine en_iadd d_Mo_write_16 ?_
  refine ew_puti (ci := 9) (f := 11) (ty := .int) d_Mo_write_17 rfl (by decide) rfl rfl rfl (by decide +kernel) rfl rfl tw_603 ?_
  exact ew_ret d_Mo_write_20 rfl (⟨rfl, rfl, sp_wm_s⟩)
set_option maxRecDepth 100000 in
theorem lp_Mo_writePath0 (l : Launch) (g : ew_G) (d L : Nat) (M : ew_M) : ∀ (e u : Nat) (f : Nat → Int32) (to n : Nat), 2 ^ e ≤ n → n < 2 ^ (e + 1) → n < 64 → e < u → to + e ≤ 179 → Ew l g (d + 1) 0 0 m_Mo_writePath 7 [.ref 47, .int (nI 0), .retAddr 0, .int (nI n)] [] (ew_SH L) (sp_wm M f to) (ew_q none (ew_SH L) (sp_wm M (sp_pa (fun m => M 63 (0 + m)) u f to n) (to + e))) := by
  intro e
  induction e with
  | zero =>
    intro u f to n h1 h2 h5 h4 h3
    have hn : n = 1 := by omega
    subst hn
    rw [sp_pa_1 (Nat.le_refl 1), Nat.add_zero]
    refine ew_iload_n d_Mo_writePath_7 rfl ?_
    refine ew_iconst (v := nI 1) d_Mo_writePath_8 (by decide) ?_
    refine en_icmp_le (tgt := 36) d_Mo_writePath_9 (by decide) (by decide) (by decide) (fun h9 => ?_) (fun h9 => by exact absurd h9 (by decide))
    exact ew_ret d_Mo_writePath_36 rfl (⟨rfl, rfl, rfl⟩)
  | succ e ih =>
    intro u f to n h1 h2 h5 h4 h3
    refine ew_iload_n d_Mo_writePath_7 rfl ?_
    refine ew_iconst (v := nI 1) d_Mo_writePath_8 (by decide) ?_
    refine en_icmp_le (tgt := 36) d_Mo_writePath_9 (by decide) (by omega) (by omega) (fun h9 => by exact absurd h9 (by rw [Nat.pow_succ] at h1; have := Nat.one_le_two_pow (n := e); omega)) (fun h9 => ?_)
    refine ew_aload_n d_Mo_writePath_12 rfl ?_
    refine ew_aload_n d_Mo_writePath_13 rfl ?_
    refine ew_getr (ci := 9) (f := 22) d_Mo_writePath_14 rfl rfl rfl tw_613 ?_
    refine ew_iload_n d_Mo_writePath_17 rfl ?_
    refine en_callS (As := [.int (nI 0)]) (st := [.ref 63, .ref 47]) (st1 := [.int (nI 0), .ref 63, .ref 47]) d_Mo_writePath_18 k_Mo_treeFrom tw_761 tw_762 rfl (Nat.le_of_ble_eq_true rfl) rfl (Nat.le_of_ble_eq_true rfl) rfl rfl (c_Mo_treeFrom0 l g _ L (sp_wm M f to)) rfl ?_
    refine ew_iload_n d_Mo_writePath_21 rfl ?_
    refine ew_iconst (v := nI 1) d_Mo_writePath_22 (by decide) ?_
    refine ew_ixor d_Mo_writePath_23 ?_
    refine en_eq (st' := [.int (nI (n ^^^ 1)), .int (nI 0), .ref 63, .ref 47]) rfl (by rw [show ((nI n) ^^^ (nI 1)) = (nI (n ^^^ 1)) from nx_x n 1]) rfl ?_
    refine en_iadd d_Mo_writePath_24 ?_
    refine ew_iald (j := 0 + (n ^^^ 1)) d_Mo_writePath_25 rfl (rfl) (by have := nx_lt (u := 5) (n := n) (by omega); omega) (by decide) ?_
    refine en_eq (st' := [.int (M 63 (0 + (n ^^^ 1))), .ref 47]) rfl (by rw [show ((sp_wm M f to) 63 (0 + (n ^^^ 1))) = (M 63 (0 + (n ^^^ 1))) from by rw [sp_wm_ne (by decide) (by decide)]]) rfl ?_
    refine en_callV (As := [.int (M 63 (0 + (n ^^^ 1)))]) (i := 47) (ci := 9) (st := []) (st1 := []) d_Mo_writePath_26 k_Mo_write rfl rfl tw_795 tw_797 tp_44 rfl (Nat.le_of_ble_eq_true rfl) rfl (Nat.le_of_ble_eq_true rfl) rfl rfl (c_Mo_writew l g _ L M f to (by omega) (M 63 (0 + (n ^^^ 1)))) rfl ?_
    refine ew_iload_n d_Mo_writePath_29 rfl ?_
    refine ew_iconst (v := nI 2) d_Mo_writePath_30 (by decide) ?_
    refine en_idiv d_Mo_writePath_31 (by omega) (by decide) (by decide) ?_
    refine en_istore_n (ls' := [.ref 47, .int (nI 0), .retAddr 0, .int (nI (n / 2))]) d_Mo_writePath_32 (Nat.le_of_ble_eq_true rfl) rfl ?_
    refine ew_goto (tgt := 7) d_Mo_writePath_33 (by decide) ?_
    obtain ⟨v, rfl⟩ : ∃ v, u = v + 1 := ⟨u - 1, by omega⟩
    rw [sp_pa_2 (by omega), show to + (e + 1) = (to + 1) + e by omega]
    exact ih v _ (to + 1) (n / 2) (by rw [Nat.pow_succ] at h1; omega) (by rw [Nat.pow_succ] at h2; omega) (by omega) (by omega) (by omega)
set_option maxRecDepth 100000 in
theorem c_Mo_writePath0 (l : Launch) (g : ew_G) (d L : Nat) (M : ew_M) (f : Nat → Int32) (k i : Nat) (hi : i < 32) (hk : k + 5 ≤ 179) :
    Ew l g (d + 1) 0 0 m_Mo_writePath 0 [.ref 47, .int (nI 0), .int (nI i), .retAddr 0] [] (ew_SH L) (sp_wm M f k) (ew_q (none) (ew_SH L) (sp_wm M (sp_pa (fun m => M 63 (0 + m)) 6 f k (32 + i)) (k + 5))) := by
  refine ew_iload_n d_Mo_writePath_0 rfl ?_
  refine en_callS (As := [.int (nI 0)]) (st := []) (st1 := [.int (nI 32)]) d_Mo_writePath_1 k_Mo_leavesOf tw_764 tw_765 rfl (Nat.le_of_ble_eq_true rfl) rfl (Nat.le_of_ble_eq_true rfl) rfl rfl (c_Mo_leavesOf0 l g _ L (sp_wm M f k)) rfl ?_
  refine ew_iload_n d_Mo_writePath_4 rfl ?_
  refine en_iadd d_Mo_writePath_5 ?_
  refine en_istore_n (ls' := [.ref 47, .int (nI 0), .int (nI i), .int (nI (32 + i))]) d_Mo_writePath_6 (Nat.le_of_ble_eq_true rfl) rfl ?_
  refine en_drop (ls' := [.ref 47, .int (nI 0), .retAddr 0, .int (nI (32 + i))]) ⟨Or.inl rfl, Or.inl rfl, Or.inr rfl, Or.inl rfl, trivial⟩ ?_
  exact lp_Mo_writePath0 l g d L M 5 6 f k (32 + i) (by omega) (by omega) (by omega) (by omega) hk
set_option maxRecDepth 100000 in
theorem lp_Mo_writePath1 (l : Launch) (g : ew_G) (d L : Nat) (M : ew_M) : ∀ (e u : Nat) (f : Nat → Int32) (to n : Nat), 2 ^ e ≤ n → n < 2 ^ (e + 1) → n < 64 → e < u → to + e ≤ 179 → Ew l g (d + 1) 0 0 m_Mo_writePath 7 [.ref 47, .int (nI 1), .retAddr 0, .int (nI n)] [] (ew_SH L) (sp_wm M f to) (ew_q none (ew_SH L) (sp_wm M (sp_pa (fun m => M 63 (64 + m)) u f to n) (to + e))) := by
  intro e
  induction e with
  | zero =>
    intro u f to n h1 h2 h5 h4 h3
    have hn : n = 1 := by omega
    subst hn
    rw [sp_pa_1 (Nat.le_refl 1), Nat.add_zero]
    refine ew_iload_n d_Mo_writePath_7 rfl ?_
    refine ew_iconst (v := nI 1) d_Mo_writePath_8 (by decide) ?_
    refine en_icmp_le (tgt := 36) d_Mo_writePath_9 (by decide) (by decide) (by decide) (fun h9 => ?_) (fun h9 => by exact absurd h9 (by decide))
    exact ew_ret d_Mo_writePath_36 rfl (⟨rfl, rfl, rfl⟩)
  | succ e ih =>
    intro u f to n h1 h2 h5 h4 h3
    refine ew_iload_n d_Mo_writePath_7 rfl ?_
    refine ew_iconst (v := nI 1) d_Mo_writePath_8 (by decide) ?_
    refine en_icmp_le (tgt := 36) d_Mo_writePath_9 (by decide) (by omega) (by omega) (fun h9 => by exact absurd h9 (by rw [Nat.pow_succ] at h1; have := Nat.one_le_two_pow (n := e); omega)) (fun h9 => ?_)
    refine ew_aload_n d_Mo_writePath_12 rfl ?_
    refine ew_aload_n d_Mo_writePath_13 rfl ?_
    refine ew_getr (ci := 9) (f := 22) d_Mo_writePath_14 rfl rfl rfl tw_613 ?_
    refine ew_iload_n d_Mo_writePath_17 rfl ?_
    refine en_callS (As := [.int (nI 1)]) (st := [.ref 63, .ref 47]) (st1 := [.int (nI 64), .ref 63, .ref 47]) d_Mo_writePath_18 k_Mo_treeFrom tw_761 tw_762 rfl (Nat.le_of_ble_eq_true rfl) rfl (Nat.le_of_ble_eq_true rfl) rfl rfl (c_Mo_treeFrom1 l g _ L (sp_wm M f to)) rfl ?_
    refine ew_iload_n d_Mo_writePath_21 rfl ?_
    refine ew_iconst (v := nI 1) d_Mo_writePath_22 (by decide) ?_
    refine ew_ixor d_Mo_writePath_23 ?_
    refine en_eq (st' := [.int (nI (n ^^^ 1)), .int (nI 64), .ref 63, .ref 47]) rfl (by rw [show ((nI n) ^^^ (nI 1)) = (nI (n ^^^ 1)) from nx_x n 1]) rfl ?_
    refine en_iadd d_Mo_writePath_24 ?_
    refine ew_iald (j := 64 + (n ^^^ 1)) d_Mo_writePath_25 rfl (rfl) (by have := nx_lt (u := 5) (n := n) (by omega); omega) (by decide) ?_
    refine en_eq (st' := [.int (M 63 (64 + (n ^^^ 1))), .ref 47]) rfl (by rw [show ((sp_wm M f to) 63 (64 + (n ^^^ 1))) = (M 63 (64 + (n ^^^ 1))) from by rw [sp_wm_ne (by decide) (by decide)]]) rfl ?_
    refine en_callV (As := [.int (M 63 (64 + (n ^^^ 1)))]) (i := 47) (ci := 9) (st := []) (st1 := []) d_Mo_writePath_26 k_Mo_write rfl rfl tw_795 tw_797 tp_44 rfl (Nat.le_of_ble_eq_true rfl) rfl (Nat.le_of_ble_eq_true rfl) rfl rfl (c_Mo_writew l g _ L M f to (by omega) (M 63 (64 + (n ^^^ 1)))) rfl ?_
    refine ew_iload_n d_Mo_writePath_29 rfl ?_
    refine ew_iconst (v := nI 2) d_Mo_writePath_30 (by decide) ?_
    refine en_idiv d_Mo_writePath_31 (by omega) (by decide) (by decide) ?_
    refine en_istore_n (ls' := [.ref 47, .int (nI 1), .retAddr 0, .int (nI (n / 2))]) d_Mo_writePath_32 (Nat.le_of_ble_eq_true rfl) rfl ?_
    refine ew_goto (tgt := 7) d_Mo_writePath_33 (by decide) ?_
    obtain ⟨v, rfl⟩ : ∃ v, u = v + 1 := ⟨u - 1, by omega⟩
    rw [sp_pa_2 (by omega), show to + (e + 1) = (to + 1) + e by omega]
    exact ih v _ (to + 1) (n / 2) (by rw [Nat.pow_succ] at h1; omega) (by rw [Nat.pow_succ] at h2; omega) (by omega) (by omega) (by omega)
set_option maxRecDepth 100000 in
theorem c_Mo_writePath1 (l : Launch) (g : ew_G) (d L : Nat) (M : ew_M) (f : Nat → Int32) (k i : Nat) (hi : i < 32) (hk : k + 5 ≤ 179) :
    Ew l g (d + 1) 0 0 m_Mo_writePath 0 [.ref 47, .int (nI 1), .int (nI i), .retAddr 0] [] (ew_SH L) (sp_wm M f k) (ew_q (none) (ew_SH L) (sp_wm M (sp_pa (fun m => M 63 (64 + m)) 6 f k (32 + i)) (k + 5))) := by
  refine ew_iload_n d_Mo_writePath_0 rfl ?_
  refine en_callS (As := [.int (nI 1)]) (st := []) (st1 := [.int (nI 32)]) d_Mo_writePath_1 k_Mo_leavesOf tw_764 tw_765 rfl (Nat.le_of_ble_eq_true rfl) rfl (Nat.le_of_ble_eq_true rfl) rfl rfl (c_Mo_leavesOf1 l g _ L (sp_wm M f k)) rfl ?_
  refine ew_iload_n d_Mo_writePath_4 rfl ?_
  refine en_iadd d_Mo_writePath_5 ?_
  refine en_istore_n (ls' := [.ref 47, .int (nI 1), .int (nI i), .int (nI (32 + i))]) d_Mo_writePath_6 (Nat.le_of_ble_eq_true rfl) rfl ?_
  refine en_drop (ls' := [.ref 47, .int (nI 1), .retAddr 0, .int (nI (32 + i))]) ⟨Or.inl rfl, Or.inl rfl, Or.inr rfl, Or.inl rfl, trivial⟩ ?_
  exact lp_Mo_writePath1 l g d L M 5 6 f k (32 + i) (by omega) (by omega) (by omega) (by omega) hk
set_option maxRecDepth 100000 in
theorem lp_Mo_writePath2 (l : Launch) (g : ew_G) (d L : Nat) (M : ew_M) : ∀ (e u : Nat) (f : Nat → Int32) (to n : Nat), 2 ^ e ≤ n → n < 2 ^ (e + 1) → n < 32 → e < u → to + e ≤ 179 → Ew l g (d + 1) 0 0 m_Mo_writePath 7 [.ref 47, .int (nI 2), .retAddr 0, .int (nI n)] [] (ew_SH L) (sp_wm M f to) (ew_q none (ew_SH L) (sp_wm M (sp_pa (fun m => M 63 (128 + m)) u f to n) (to + e))) := by
  intro e
  induction e with
  | zero =>
    intro u f to n h1 h2 h5 h4 h3
    have hn : n = 1 := by omega
    subst hn
    rw [sp_pa_1 (Nat.le_refl 1), Nat.add_zero]
    refine ew_iload_n d_Mo_writePath_7 rfl ?_
    refine ew_iconst (v := nI 1) d_Mo_writePath_8 (by decide) ?_
    refine en_icmp_le (tgt := 36) d_Mo_writePath_9 (by decide) (by decide) (by decide) (fun h9 => ?_) (fun h9 => by exact absurd h9 (by decide))
    exact ew_ret d_Mo_writePath_36 rfl (⟨rfl, rfl, rfl⟩)
  | succ e ih =>
    intro u f to n h1 h2 h5 h4 h3
    refine ew_iload_n d_Mo_writePath_7 rfl ?_
    refine ew_iconst (v := nI 1) d_Mo_writePath_8 (by decide) ?_
    refine en_icmp_le (tgt := 36) d_Mo_writePath_9 (by decide) (by omega) (by omega) (fun h9 => by exact absurd h9 (by rw [Nat.pow_succ] at h1; have := Nat.one_le_two_pow (n := e); omega)) (fun h9 => ?_)
    refine ew_aload_n d_Mo_writePath_12 rfl ?_
    refine ew_aload_n d_Mo_writePath_13 rfl ?_
    refine ew_getr (ci := 9) (f := 22) d_Mo_writePath_14 rfl rfl rfl tw_613 ?_
    refine ew_iload_n d_Mo_writePath_17 rfl ?_
    refine en_callS (As := [.int (nI 2)]) (st := [.ref 63, .ref 47]) (st1 := [.int (nI 128), .ref 63, .ref 47]) d_Mo_writePath_18 k_Mo_treeFrom tw_761 tw_762 rfl (Nat.le_of_ble_eq_true rfl) rfl (Nat.le_of_ble_eq_true rfl) rfl rfl (c_Mo_treeFrom2 l g _ L (sp_wm M f to)) rfl ?_
    refine ew_iload_n d_Mo_writePath_21 rfl ?_
    refine ew_iconst (v := nI 1) d_Mo_writePath_22 (by decide) ?_
    refine ew_ixor d_Mo_writePath_23 ?_
    refine en_eq (st' := [.int (nI (n ^^^ 1)), .int (nI 128), .ref 63, .ref 47]) rfl (by rw [show ((nI n) ^^^ (nI 1)) = (nI (n ^^^ 1)) from nx_x n 1]) rfl ?_
    refine en_iadd d_Mo_writePath_24 ?_
    refine ew_iald (j := 128 + (n ^^^ 1)) d_Mo_writePath_25 rfl (rfl) (by have := nx_lt (u := 4) (n := n) (by omega); omega) (by decide) ?_
    refine en_eq (st' := [.int (M 63 (128 + (n ^^^ 1))), .ref 47]) rfl (by rw [show ((sp_wm M f to) 63 (128 + (n ^^^ 1))) = (M 63 (128 + (n ^^^ 1))) from by rw [sp_wm_ne (by decide) (by decide)]]) rfl ?_
    refine en_callV (As := [.int (M 63 (128 + (n ^^^ 1)))]) (i := 47) (ci := 9) (st := []) (st1 := []) d_Mo_writePath_26 k_Mo_write rfl rfl tw_795 tw_797 tp_44 rfl (Nat.le_of_ble_eq_true rfl) rfl (Nat.le_of_ble_eq_true rfl) rfl rfl (c_Mo_writew l g _ L M f to (by omega) (M 63 (128 + (n ^^^ 1)))) rfl ?_
    refine ew_iload_n d_Mo_writePath_29 rfl ?_
    refine ew_iconst (v := nI 2) d_Mo_writePath_30 (by decide) ?_
    refine en_idiv d_Mo_writePath_31 (by omega) (by decide) (by decide) ?_
    refine en_istore_n (ls' := [.ref 47, .int (nI 2), .retAddr 0, .int (nI (n / 2))]) d_Mo_writePath_32 (Nat.le_of_ble_eq_true rfl) rfl ?_
    refine ew_goto (tgt := 7) d_Mo_writePath_33 (by decide) ?_
    obtain ⟨v, rfl⟩ : ∃ v, u = v + 1 := ⟨u - 1, by omega⟩
    rw [sp_pa_2 (by omega), show to + (e + 1) = (to + 1) + e by omega]
    exact ih v _ (to + 1) (n / 2) (by rw [Nat.pow_succ] at h1; omega) (by rw [Nat.pow_succ] at h2; omega) (by omega) (by omega) (by omega)
set_option maxRecDepth 100000 in
theorem c_Mo_writePath2 (l : Launch) (g : ew_G) (d L : Nat) (M : ew_M) (f : Nat → Int32) (k i : Nat) (hi : i < 16) (hk : k + 4 ≤ 179) :
    Ew l g (d + 1) 0 0 m_Mo_writePath 0 [.ref 47, .int (nI 2), .int (nI i), .retAddr 0] [] (ew_SH L) (sp_wm M f k) (ew_q (none) (ew_SH L) (sp_wm M (sp_pa (fun m => M 63 (128 + m)) 6 f k (16 + i)) (k + 4))) := by
  refine ew_iload_n d_Mo_writePath_0 rfl ?_
  refine en_callS (As := [.int (nI 2)]) (st := []) (st1 := [.int (nI 16)]) d_Mo_writePath_1 k_Mo_leavesOf tw_764 tw_765 rfl (Nat.le_of_ble_eq_true rfl) rfl (Nat.le_of_ble_eq_true rfl) rfl rfl (c_Mo_leavesOf2 l g _ L (sp_wm M f k)) rfl ?_
  refine ew_iload_n d_Mo_writePath_4 rfl ?_
  refine en_iadd d_Mo_writePath_5 ?_
  refine en_istore_n (ls' := [.ref 47, .int (nI 2), .int (nI i), .int (nI (16 + i))]) d_Mo_writePath_6 (Nat.le_of_ble_eq_true rfl) rfl ?_
  refine en_drop (ls' := [.ref 47, .int (nI 2), .retAddr 0, .int (nI (16 + i))]) ⟨Or.inl rfl, Or.inl rfl, Or.inr rfl, Or.inl rfl, trivial⟩ ?_
  exact lp_Mo_writePath2 l g d L M 4 6 f k (16 + i) (by omega) (by omega) (by omega) (by omega) hk
set_option maxRecDepth 100000 in
theorem lp_Mo_writePath3 (l : Launch) (g : ew_G) (d L : Nat) (M : ew_M) : ∀ (e u : Nat) (f : Nat → Int32) (to n : Nat), 2 ^ e ≤ n → n < 2 ^ (e + 1) → n < 16 → e < u → to + e ≤ 179 → Ew l g (d + 1) 0 0 m_Mo_writePath 7 [.ref 47, .int (nI 3), .retAddr 0, .int (nI n)] [] (ew_SH L) (sp_wm M f to) (ew_q none (ew_SH L) (sp_wm M (sp_pa (fun m => M 63 (160 + m)) u f to n) (to + e))) := by
  intro e
  induction e with
  | zero =>
    intro u f to n h1 h2 h5 h4 h3
    have hn : n = 1 := by omega
    subst hn
    rw [sp_pa_1 (Nat.le_refl 1), Nat.add_zero]
    refine ew_iload_n d_Mo_writePath_7 rfl ?_
    refine ew_iconst (v := nI 1) d_Mo_writePath_8 (by decide) ?_
    refine en_icmp_le (tgt := 36) d_Mo_writePath_9 (by decide) (by decide) (by decide) (fun h9 => ?_) (fun h9 => by exact absurd h9 (by decide))
    exact ew_ret d_Mo_writePath_36 rfl (⟨rfl, rfl, rfl⟩)
  | succ e ih =>
    intro u f to n h1 h2 h5 h4 h3
    refine ew_iload_n d_Mo_writePath_7 rfl ?_
    refine ew_iconst (v := nI 1) d_Mo_writePath_8 (by decide) ?_
    refine en_icmp_le (tgt := 36) d_Mo_writePath_9 (by decide) (by omega) (by omega) (fun h9 => by exact absurd h9 (by rw [Nat.pow_succ] at h1; have := Nat.one_le_two_pow (n := e); omega)) (fun h9 => ?_)
    refine ew_aload_n d_Mo_writePath_12 rfl ?_
    refine ew_aload_n d_Mo_writePath_13 rfl ?_
    refine ew_getr (ci := 9) (f := 22) d_Mo_writePath_14 rfl rfl rfl tw_613 ?_
    refine ew_iload_n d_Mo_writePath_17 rfl ?_
    refine en_callS (As := [.int (nI 3)]) (st := [.ref 63, .ref 47]) (st1 := [.int (nI 160), .ref 63, .ref 47]) d_Mo_writePath_18 k_Mo_treeFrom tw_761 tw_762 rfl (Nat.le_of_ble_eq_true rfl) rfl (Nat.le_of_ble_eq_true rfl) rfl rfl (c_Mo_treeFrom3 l g _ L (sp_wm M f to)) rfl ?_
    refine ew_iload_n d_Mo_writePath_21 rfl ?_
    refine ew_iconst (v := nI 1) d_Mo_writePath_22 (by decide) ?_
    refine ew_ixor d_Mo_writePath_23 ?_
    refine en_eq (st' := [.int (nI (n ^^^ 1)), .int (nI 160), .ref 63, .ref 47]) rfl (by rw [show ((nI n) ^^^ (nI 1)) = (nI (n ^^^ 1)) from nx_x n 1]) rfl ?_
    refine en_iadd d_Mo_writePath_24 ?_
    refine ew_iald (j := 160 + (n ^^^ 1)) d_Mo_writePath_25 rfl (rfl) (by have := nx_lt (u := 3) (n := n) (by omega); omega) (by decide) ?_
    refine en_eq (st' := [.int (M 63 (160 + (n ^^^ 1))), .ref 47]) rfl (by rw [show ((sp_wm M f to) 63 (160 + (n ^^^ 1))) = (M 63 (160 + (n ^^^ 1))) from by rw [sp_wm_ne (by decide) (by decide)]]) rfl ?_
    refine en_callV (As := [.int (M 63 (160 + (n ^^^ 1)))]) (i := 47) (ci := 9) (st := []) (st1 := []) d_Mo_writePath_26 k_Mo_write rfl rfl tw_795 tw_797 tp_44 rfl (Nat.le_of_ble_eq_true rfl) rfl (Nat.le_of_ble_eq_true rfl) rfl rfl (c_Mo_writew l g _ L M f to (by omega) (M 63 (160 + (n ^^^ 1)))) rfl ?_
    refine ew_iload_n d_Mo_writePath_29 rfl ?_
    refine ew_iconst (v := nI 2) d_Mo_writePath_30 (by decide) ?_
    refine en_idiv d_Mo_writePath_31 (by omega) (by decide) (by decide) ?_
    refine en_istore_n (ls' := [.ref 47, .int (nI 3), .retAddr 0, .int (nI (n / 2))]) d_Mo_writePath_32 (Nat.le_of_ble_eq_true rfl) rfl ?_
    refine ew_goto (tgt := 7) d_Mo_writePath_33 (by decide) ?_
    obtain ⟨v, rfl⟩ : ∃ v, u = v + 1 := ⟨u - 1, by omega⟩
    rw [sp_pa_2 (by omega), show to + (e + 1) = (to + 1) + e by omega]
    exact ih v _ (to + 1) (n / 2) (by rw [Nat.pow_succ] at h1; omega) (by rw [Nat.pow_succ] at h2; omega) (by omega) (by omega) (by omega)
set_option maxRecDepth 100000 in
theorem c_Mo_writePath3 (l : Launch) (g : ew_G) (d L : Nat) (M : ew_M) (f : Nat → Int32) (k i : Nat) (hi : i < 8) (hk : k + 3 ≤ 179) :
    Ew l g (d + 1) 0 0 m_Mo_writePath 0 [.ref 47, .int (nI 3), .int (nI i), .retAddr 0] [] (ew_SH L) (sp_wm M f k) (ew_q (none) (ew_SH L) (sp_wm M (sp_pa (fun m => M 63 (160 + m)) 6 f k (8 + i)) (k + 3))) := by
  refine ew_iload_n d_Mo_writePath_0 rfl ?_
  refine en_callS (As := [.int (nI 3)]) (st := []) (st1 := [.int (nI 8)]) d_Mo_writePath_1 k_Mo_leavesOf tw_764 tw_765 rfl (Nat.le_of_ble_eq_true rfl) rfl (Nat.le_of_ble_eq_true rfl) rfl rfl (c_Mo_leavesOf3 l g _ L (sp_wm M f k)) rfl ?_
  refine ew_iload_n d_Mo_writePath_4 rfl ?_
  refine en_iadd d_Mo_writePath_5 ?_
  refine en_istore_n (ls' := [.ref 47, .int (nI 3), .int (nI i), .int (nI (8 + i))]) d_Mo_writePath_6 (Nat.le_of_ble_eq_true rfl) rfl ?_
  refine en_drop (ls' := [.ref 47, .int (nI 3), .retAddr 0, .int (nI (8 + i))]) ⟨Or.inl rfl, Or.inl rfl, Or.inr rfl, Or.inl rfl, trivial⟩ ?_
  exact lp_Mo_writePath3 l g d L M 3 6 f k (8 + i) (by omega) (by omega) (by omega) (by omega) hk
set_option maxRecDepth 100000 in
theorem c_Mo_writeOpening (l : Launch) (g : ew_G) (d L : Nat) (M : ew_M) (f : Nat → Int32) (k j : Nat) (hj : j < 16) (hk : k < 3) :
    Ew l g (d + 2) 0 0 m_Mo_writeOpening 0 [.ref 47, .int (nI j), .retAddr 0, .retAddr 0, .retAddr 0, .retAddr 0] [] (ew_SH L) (sp_wm M f (5 + 58 * k)) (ew_q (none) (ew_SH L) (sp_wm M (sp_ol (fun i => M 62 (0 + i)) (fun m => M 63 (64 + m)) (fun i => M 62 (32 + i)) (fun m => M 63 (128 + m)) (fun i => M 62 (48 + i)) (fun m => M 63 (160 + m)) (sp_oc (fun i => M 61 i) (fun i => M 61 (32 + i)) (fun m => M 63 (0 + m)) f k j) k j) (5 + 58 * (k + 1)))) := by
  refine en_eq (M' := sp_wm M f (5 + 58 * k + 7 * 0)) rfl rfl rfl ?_
  refine ew_iconst (v := nI 0) d_Mo_writeOpening_0 (by decide) ?_
  refine en_istore_n (ls' := [.ref 47, .int (nI j), .int (nI 0), .retAddr 0, .retAddr 0, .retAddr 0]) d_Mo_writeOpening_1 (Nat.le_of_ble_eq_true rfl) rfl ?_
  refine ew_iload_n d_Mo_writeOpening_2 rfl ?_
  refine ew_iconst (v := nI 4) d_Mo_writeOpening_3 (by decide) ?_
  refine en_icmp_ge (tgt := 60) d_Mo_writeOpening_4 (by decide) (by first | with_reducible assumption | with_reducible exact ep_lt _ | with_reducible exact sp_its_lt _ _ _ | with_reducible exact tb_l_rt _ | with_reducible exact tb_l_x _ | with_reducible exact tb_l_o0 _ | with_reducible exact tb_l_o1 _ | with_reducible exact tb_l_va _ | with_reducible exact tb_l_ll _ | with_reducible exact tb_l_cf _ | with_reducible exact tb_l_kf _ | with_reducible exact sp_ts_lt _ _ _ _ | with_reducible exact sp_w_lt _ _ | with_reducible exact sp_cs_lt _ _ _ _ _ | with_reducible exact sp_cb_lt _ _ _ _ _ | with_reducible exact sp_ch_lt _ | with_reducible exact sp_bf_lt _ _ | with_reducible exact sp_va_lt _ _ _ | with_reducible exact sp_be_lt _ _ | with_reducible exact sp_p_lt _ _ _ | with_reducible exact sp_com_lt _ _ _ _ | with_reducible exact sp_fo_lt _ _ _ _ _ | omega) (by first | with_reducible assumption | with_reducible exact ep_lt _ | with_reducible exact sp_its_lt _ _ _ | with_reducible exact tb_l_rt _ | with_reducible exact tb_l_x _ | with_reducible exact tb_l_o0 _ | with_reducible exact tb_l_o1 _ | with_reducible exact tb_l_va _ | with_reducible exact tb_l_ll _ | with_reducible exact tb_l_cf _ | with_reducible exact tb_l_kf _ | with_reducible exact sp_ts_lt _ _ _ _ | with_reducible exact sp_w_lt _ _ | with_reducible exact sp_cs_lt _ _ _ _ _ | with_reducible exact sp_cb_lt _ _ _ _ _ | with_reducible exact sp_ch_lt _ | with_reducible exact sp_bf_lt _ _ | with_reducible exact sp_va_lt _ _ _ | with_reducible exact sp_be_lt _ _ | with_reducible exact sp_p_lt _ _ _ | with_reducible exact sp_com_lt _ _ _ _ | with_reducible exact sp_fo_lt _ _ _ _ _ | omega) (fun h4 => by exact absurd h4 (by decide)) (fun h4 => ?_)
  refine ew_iload_n d_Mo_writeOpening_7 rfl ?_
  refine ew_iload_n d_Mo_writeOpening_8 rfl ?_
  refine ew_iconst (v := nI 2) d_Mo_writeOpening_9 (by decide) ?_
  refine en_irem d_Mo_writeOpening_10 (by first | with_reducible assumption | with_reducible exact ep_lt _ | with_reducible exact sp_its_lt _ _ _ | with_reducible exact tb_l_rt _ | with_reducible exact tb_l_x _ | with_reducible exact tb_l_o0 _ | with_reducible exact tb_l_o1 _ | with_reducible exact tb_l_va _ | with_reducible exact tb_l_ll _ | with_reducible exact tb_l_cf _ | with_reducible exact tb_l_kf _ | with_reducible exact sp_ts_lt _ _ _ _ | with_reducible exact sp_w_lt _ _ | with_reducible exact sp_cs_lt _ _ _ _ _ | with_reducible exact sp_cb_lt _ _ _ _ _ | with_reducible exact sp_ch_lt _ | with_reducible exact sp_bf_lt _ _ | with_reducible exact sp_va_lt _ _ _ | with_reducible exact sp_be_lt _ _ | with_reducible exact sp_p_lt _ _ _ | with_reducible exact sp_com_lt _ _ _ _ | with_reducible exact sp_fo_lt _ _ _ _ _ | omega) (by decide) (by decide) ?_
  refine en_eq rfl (show _ = [.int (nI 0), .int (nI j)] from rfl) rfl ?_
  refine ew_iconst (v := nI 4) d_Mo_writeOpening_11 (by decide) ?_
  refine en_imul d_Mo_writeOpening_12 ?_
  refine en_eq rfl (show _ = [.int (nI 0), .int (nI j)] from rfl) rfl ?_
  refine en_iadd d_Mo_writeOpening_13 ?_
  refine ew_iload_n d_Mo_writeOpening_14 rfl ?_
  refine ew_iconst (v := nI 2) d_Mo_writeOpening_15 (by decide) ?_
  refine en_idiv d_Mo_writeOpening_16 (by first | with_reducible assumption | with_reducible exact ep_lt _ | with_reducible exact sp_its_lt _ _ _ | with_reducible exact tb_l_rt _ | with_reducible exact tb_l_x _ | with_reducible exact tb_l_o0 _ | with_reducible exact tb_l_o1 _ | with_reducible exact tb_l_va _ | with_reducible exact tb_l_ll _ | with_reducible exact tb_l_cf _ | with_reducible exact tb_l_kf _ | with_reducible exact sp_ts_lt _ _ _ _ | with_reducible exact sp_w_lt _ _ | with_reducible exact sp_cs_lt _ _ _ _ _ | with_reducible exact sp_cb_lt _ _ _ _ _ | with_reducible exact sp_ch_lt _ | with_reducible exact sp_bf_lt _ _ | with_reducible exact sp_va_lt _ _ _ | with_reducible exact sp_be_lt _ _ | with_reducible exact sp_p_lt _ _ _ | with_reducible exact sp_com_lt _ _ _ _ | with_reducible exact sp_fo_lt _ _ _ _ _ | omega) (by decide) (by decide) ?_
  refine en_eq rfl (show _ = [.int (nI 0), .int (nI (j + 0))] from rfl) rfl ?_
  refine ew_bipush (v := nI 16) d_Mo_writeOpening_17 (by decide) ?_
  refine en_imul d_Mo_writeOpening_19 ?_
  refine en_eq rfl (show _ = [.int (nI 0), .int (nI (j + 0))] from rfl) rfl ?_
  refine en_iadd d_Mo_writeOpening_20 ?_
  refine ew_bipush (v := nI 32) d_Mo_writeOpening_21 (by decide) ?_
  refine en_irem d_Mo_writeOpening_23 (by omega) (by decide) (by decide) ?_
  refine en_eq (st' := [.int (nI ((j + 0) % 32))]) rfl (by rw [show (nI (((j + 0) + 0) % 32)) = (nI ((j + 0) % 32)) from congrArg nI (by omega)]) rfl ?_
  refine en_istore_n (ls' := [.ref 47, .int (nI j), .int (nI 0), .int (nI ((j + 0) % 32)), .retAddr 0, .retAddr 0]) d_Mo_writeOpening_24 (Nat.le_of_ble_eq_true rfl) rfl ?_
  refine ew_aload_n d_Mo_writeOpening_25 rfl ?_
  refine ew_aload_n d_Mo_writeOpening_26 rfl ?_
  refine ew_getr (ci := 9) (f := 20) d_Mo_writeOpening_27 rfl rfl rfl tw_611 ?_
  refine ew_iload_n d_Mo_writeOpening_30 rfl ?_
  refine ew_iald (j := (j + 0) % 32) d_Mo_writeOpening_31 rfl (rfl) (by omega) (by decide) ?_
  refine en_eq (st' := [.int (M 61 ((j + 0) % 32)), .ref 47]) rfl (by rw [show ((sp_wm M f (5 + 58 * k + 7 * 0)) 61 ((j + 0) % 32)) = (M 61 ((j + 0) % 32)) from by rw [sp_wm_ne (by decide) (by decide)]]) rfl ?_
  refine en_callV (As := [.int (M 61 ((j + 0) % 32))]) (i := 47) (ci := 9) (st := []) (st1 := []) d_Mo_writeOpening_32 k_Mo_write rfl rfl tw_795 tw_797 tp_44 rfl (Nat.le_of_ble_eq_true rfl) rfl (Nat.le_of_ble_eq_true rfl) rfl rfl (c_Mo_writew l g _ L M f (5 + 58 * k + 7 * 0) (by omega) (M 61 ((j + 0) % 32))) rfl ?_
  refine ew_aload_n d_Mo_writeOpening_35 rfl ?_
  refine ew_aload_n d_Mo_writeOpening_36 rfl ?_
  refine ew_getr (ci := 9) (f := 20) d_Mo_writeOpening_37 rfl rfl rfl tw_611 ?_
  refine ew_bipush (v := nI 32) d_Mo_writeOpening_40 (by decide) ?_
  refine ew_iload_n d_Mo_writeOpening_42 rfl ?_
  refine en_iadd d_Mo_writeOpening_43 ?_
  refine ew_iald (j := 32 + ((j + 0) % 32)) d_Mo_writeOpening_44 rfl (rfl) (by omega) (by decide) ?_
  refine en_eq (st' := [.int (M 61 (32 + ((j + 0) % 32))), .ref 47]) rfl (by rw [show ((sp_wm M (upd f (5 + 58 * k + 7 * 0) (M 61 ((j + 0) % 32))) ((5 + 58 * k + 7 * 0) + 1)) 61 (32 + ((j + 0) % 32))) = (M 61 (32 + ((j + 0) % 32))) from by rw [sp_wm_ne (by decide) (by decide)]]) rfl ?_
  refine en_callV (As := [.int (M 61 (32 + ((j + 0) % 32)))]) (i := 47) (ci := 9) (st := []) (st1 := []) d_Mo_writeOpening_45 k_Mo_write rfl rfl tw_795 tw_797 tp_44 rfl (Nat.le_of_ble_eq_true rfl) rfl (Nat.le_of_ble_eq_true rfl) rfl rfl (c_Mo_writew l g _ L M (upd f (5 + 58 * k + 7 * 0) (M 61 ((j + 0) % 32))) ((5 + 58 * k + 7 * 0) + 1) (by omega) (M 61 (32 + ((j + 0) % 32)))) rfl ?_
  refine ew_aload_n d_Mo_writeOpening_48 rfl ?_
  refine ew_iconst (v := nI 0) d_Mo_writeOpening_49 (by decide) ?_
  refine ew_iload_n d_Mo_writeOpening_50 rfl ?_
  refine en_callV (As := [.int (nI 0), .int (nI ((j + 0) % 32))]) (i := 47) (ci := 9) (st := []) (st1 := []) d_Mo_writeOpening_51 k_Mo_writePath rfl rfl tw_799 tw_801 tp_45 rfl (Nat.le_of_ble_eq_true rfl) rfl (Nat.le_of_ble_eq_true rfl) rfl rfl (c_Mo_writePath0 l g _ L M (upd (upd f (5 + 58 * k + 7 * 0) (M 61 ((j + 0) % 32))) ((5 + 58 * k + 7 * 0) + 1) (M 61 (32 + ((j + 0) % 32)))) (((5 + 58 * k + 7 * 0) + 1) + 1) ((j + 0) % 32) (by omega) (by omega)) rfl ?_
  refine en_eq (M' := sp_wm M (sp_o1 (fun i => M 61 i) (fun i => M 61 (32 + i)) (fun m => M 63 (0 + m)) f (5 + 58 * k + 7 * 0) ((j + 0) % 32)) (5 + 58 * k + 7 * 1)) rfl rfl (congrArg (sp_wm M _) (by omega)) ?_
  refine en_inc (ls' := [.ref 47, .int (nI j), .int (nI 1), .int (nI ((j + 0) % 32)), .retAddr 0, .retAddr 0]) d_Mo_writeOpening_54 rfl rfl ?_
  refine ew_goto (tgt := 2) d_Mo_writeOpening_57 (by decide) ?_
  refine ew_iload_n d_Mo_writeOpening_2 rfl ?_
  refine ew_iconst (v := nI 4) d_Mo_writeOpening_3 (by decide) ?_
  refine en_icmp_ge (tgt := 60) d_Mo_writeOpening_4 (by decide) (by first | with_reducible assumption | with_reducible exact ep_lt _ | with_reducible exact sp_its_lt _ _ _ | with_reducible exact tb_l_rt _ | with_reducible exact tb_l_x _ | with_reducible exact tb_l_o0 _ | with_reducible exact tb_l_o1 _ | with_reducible exact tb_l_va _ | with_reducible exact tb_l_ll _ | with_reducible exact tb_l_cf _ | with_reducible exact tb_l_kf _ | with_reducible exact sp_ts_lt _ _ _ _ | with_reducible exact sp_w_lt _ _ | with_reducible exact sp_cs_lt _ _ _ _ _ | with_reducible exact sp_cb_lt _ _ _ _ _ | with_reducible exact sp_ch_lt _ | with_reducible exact sp_bf_lt _ _ | with_reducible exact sp_va_lt _ _ _ | with_reducible exact sp_be_lt _ _ | with_reducible exact sp_p_lt _ _ _ | with_reducible exact sp_com_lt _ _ _ _ | with_reducible exact sp_fo_lt _ _ _ _ _ | omega) (by first | with_reducible assumption | with_reducible exact ep_lt _ | with_reducible exact sp_its_lt _ _ _ | with_reducible exact tb_l_rt _ | with_reducible exact tb_l_x _ | with_reducible exact tb_l_o0 _ | with_reducible exact tb_l_o1 _ | with_reducible exact tb_l_va _ | with_reducible exact tb_l_ll _ | with_reducible exact tb_l_cf _ | with_reducible exact tb_l_kf _ | with_reducible exact sp_ts_lt _ _ _ _ | with_reducible exact sp_w_lt _ _ | with_reducible exact sp_cs_lt _ _ _ _ _ | with_reducible exact sp_cb_lt _ _ _ _ _ | with_reducible exact sp_ch_lt _ | with_reducible exact sp_bf_lt _ _ | with_reducible exact sp_va_lt _ _ _ | with_reducible exact sp_be_lt _ _ | with_reducible exact sp_p_lt _ _ _ | with_reducible exact sp_com_lt _ _ _ _ | with_reducible exact sp_fo_lt _ _ _ _ _ | omega) (fun h4 => by exact absurd h4 (by decide)) (fun h4 => ?_)
  refine ew_iload_n d_Mo_writeOpening_7 rfl ?_
  refine ew_iload_n d_Mo_writeOpening_8 rfl ?_
  refine ew_iconst (v := nI 2) d_Mo_writeOpening_9 (by decide) ?_
  refine en_irem d_Mo_writeOpening_10 (by first | with_reducible assumption | with_reducible exact ep_lt _ | with_reducible exact sp_its_lt _ _ _ | with_reducible exact tb_l_rt _ | with_reducible exact tb_l_x _ | with_reducible exact tb_l_o0 _ | with_reducible exact tb_l_o1 _ | with_reducible exact tb_l_va _ | with_reducible exact tb_l_ll _ | with_reducible exact tb_l_cf _ | with_reducible exact tb_l_kf _ | with_reducible exact sp_ts_lt _ _ _ _ | with_reducible exact sp_w_lt _ _ | with_reducible exact sp_cs_lt _ _ _ _ _ | with_reducible exact sp_cb_lt _ _ _ _ _ | with_reducible exact sp_ch_lt _ | with_reducible exact sp_bf_lt _ _ | with_reducible exact sp_va_lt _ _ _ | with_reducible exact sp_be_lt _ _ | with_reducible exact sp_p_lt _ _ _ | with_reducible exact sp_com_lt _ _ _ _ | with_reducible exact sp_fo_lt _ _ _ _ _ | omega) (by decide) (by decide) ?_
  refine en_eq rfl (show _ = [.int (nI 1), .int (nI j)] from rfl) rfl ?_
  refine ew_iconst (v := nI 4) d_Mo_writeOpening_11 (by decide) ?_
  refine en_imul d_Mo_writeOpening_12 ?_
  refine en_eq rfl (show _ = [.int (nI 4), .int (nI j)] from rfl) rfl ?_
  refine en_iadd d_Mo_writeOpening_13 ?_
  refine ew_iload_n d_Mo_writeOpening_14 rfl ?_
  refine ew_iconst (v := nI 2) d_Mo_writeOpening_15 (by decide) ?_
  refine en_idiv d_Mo_writeOpening_16 (by first | with_reducible assumption | with_reducible exact ep_lt _ | with_reducible exact sp_its_lt _ _ _ | with_reducible exact tb_l_rt _ | with_reducible exact tb_l_x _ | with_reducible exact tb_l_o0 _ | with_reducible exact tb_l_o1 _ | with_reducible exact tb_l_va _ | with_reducible exact tb_l_ll _ | with_reducible exact tb_l_cf _ | with_reducible exact tb_l_kf _ | with_reducible exact sp_ts_lt _ _ _ _ | with_reducible exact sp_w_lt _ _ | with_reducible exact sp_cs_lt _ _ _ _ _ | with_reducible exact sp_cb_lt _ _ _ _ _ | with_reducible exact sp_ch_lt _ | with_reducible exact sp_bf_lt _ _ | with_reducible exact sp_va_lt _ _ _ | with_reducible exact sp_be_lt _ _ | with_reducible exact sp_p_lt _ _ _ | with_reducible exact sp_com_lt _ _ _ _ | with_reducible exact sp_fo_lt _ _ _ _ _ | omega) (by decide) (by decide) ?_
  refine en_eq rfl (show _ = [.int (nI 0), .int (nI (j + 4))] from rfl) rfl ?_
  refine ew_bipush (v := nI 16) d_Mo_writeOpening_17 (by decide) ?_
  refine en_imul d_Mo_writeOpening_19 ?_
  refine en_eq rfl (show _ = [.int (nI 0), .int (nI (j + 4))] from rfl) rfl ?_
  refine en_iadd d_Mo_writeOpening_20 ?_
  refine ew_bipush (v := nI 32) d_Mo_writeOpening_21 (by decide) ?_
  refine en_irem d_Mo_writeOpening_23 (by omega) (by decide) (by decide) ?_
  refine en_eq (st' := [.int (nI ((j + 4) % 32))]) rfl (by rw [show (nI (((j + 4) + 0) % 32)) = (nI ((j + 4) % 32)) from congrArg nI (by omega)]) rfl ?_
  refine en_istore_n (ls' := [.ref 47, .int (nI j), .int (nI 1), .int (nI ((j + 4) % 32)), .retAddr 0, .retAddr 0]) d_Mo_writeOpening_24 (Nat.le_of_ble_eq_true rfl) rfl ?_
  refine ew_aload_n d_Mo_writeOpening_25 rfl ?_
  refine ew_aload_n d_Mo_writeOpening_26 rfl ?_
  refine ew_getr (ci := 9) (f := 20) d_Mo_writeOpening_27 rfl rfl rfl tw_611 ?_
  refine ew_iload_n d_Mo_writeOpening_30 rfl ?_
  refine ew_iald (j := (j + 4) % 32) d_Mo_writeOpening_31 rfl (rfl) (by omega) (by decide) ?_
  refine en_eq (st' := [.int (M 61 ((j + 4) % 32)), .ref 47]) rfl (by rw [show ((sp_wm M (sp_o1 (fun i => M 61 i) (fun i => M 61 (32 + i)) (fun m => M 63 (0 + m)) f (5 + 58 * k + 7 * 0) ((j + 0) % 32)) (5 + 58 * k + 7 * 1)) 61 ((j + 4) % 32)) = (M 61 ((j + 4) % 32)) from by rw [sp_wm_ne (by decide) (by decide)]]) rfl ?_
  refine en_callV (As := [.int (M 61 ((j + 4) % 32))]) (i := 47) (ci := 9) (st := []) (st1 := []) d_Mo_writeOpening_32 k_Mo_write rfl rfl tw_795 tw_797 tp_44 rfl (Nat.le_of_ble_eq_true rfl) rfl (Nat.le_of_ble_eq_true rfl) rfl rfl (c_Mo_writew l g _ L M (sp_o1 (fun i => M 61 i) (fun i => M 61 (32 + i)) (fun m => M 63 (0 + m)) f (5 + 58 * k + 7 * 0) ((j + 0) % 32)) (5 + 58 * k + 7 * 1) (by omega) (M 61 ((j + 4) % 32))) rfl ?_
  refine ew_aload_n d_Mo_writeOpening_35 rfl ?_
  refine ew_aload_n d_Mo_writeOpening_36 rfl ?_
  refine ew_getr (ci := 9) (f := 20) d_Mo_writeOpening_37 rfl rfl rfl tw_611 ?_
  refine ew_bipush (v := nI 32) d_Mo_writeOpening_40 (by decide) ?_
  refine ew_iload_n d_Mo_writeOpening_42 rfl ?_
  refine en_iadd d_Mo_writeOpening_43 ?_
  refine ew_iald (j := 32 + ((j + 4) % 32)) d_Mo_writeOpening_44 rfl (rfl) (by omega) (by decide) ?_
  refine en_eq (st' := [.int (M 61 (32 + ((j + 4) % 32))), .ref 47]) rfl (by rw [show ((sp_wm M (upd (sp_o1 (fun i => M 61 i) (fun i => M 61 (32 + i)) (fun m => M 63 (0 + m)) f (5 + 58 * k + 7 * 0) ((j + 0) % 32)) (5 + 58 * k + 7 * 1) (M 61 ((j + 4) % 32))) ((5 + 58 * k + 7 * 1) + 1)) 61 (32 + ((j + 4) % 32))) = (M 61 (32 + ((j + 4) % 32))) from by rw [sp_wm_ne (by decide) (by decide)]]) rfl ?_
  refine en_callV (As := [.int (M 61 (32 + ((j + 4) % 32)))]) (i := 47) (ci := 9) (st := []) (st1 := []) d_Mo_writeOpening_45 k_Mo_write rfl rfl tw_795 tw_797 tp_44 rfl (Nat.le_of_ble_eq_true rfl) rfl (Nat.le_of_ble_eq_true rfl) rfl rfl (c_Mo_writew l g _ L M (upd (sp_o1 (fun i => M 61 i) (fun i => M 61 (32 + i)) (fun m => M 63 (0 + m)) f (5 + 58 * k + 7 * 0) ((j + 0) % 32)) (5 + 58 * k + 7 * 1) (M 61 ((j + 4) % 32))) ((5 + 58 * k + 7 * 1) + 1) (by omega) (M 61 (32 + ((j + 4) % 32)))) rfl ?_
  refine ew_aload_n d_Mo_writeOpening_48 rfl ?_
  refine ew_iconst (v := nI 0) d_Mo_writeOpening_49 (by decide) ?_
  refine ew_iload_n d_Mo_writeOpening_50 rfl ?_
  refine en_callV (As := [.int (nI 0), .int (nI ((j + 4) % 32))]) (i := 47) (ci := 9) (st := []) (st1 := []) d_Mo_writeOpening_51 k_Mo_writePath rfl rfl tw_799 tw_801 tp_45 rfl (Nat.le_of_ble_eq_true rfl) rfl (Nat.le_of_ble_eq_true rfl) rfl rfl (c_Mo_writePath0 l g _ L M (upd (upd (sp_o1 (fun i => M 61 i) (fun i => M 61 (32 + i)) (fun m => M 63 (0 + m)) f (5 + 58 * k + 7 * 0) ((j + 0) % 32)) (5 + 58 * k + 7 * 1) (M 61 ((j + 4) % 32))) ((5 + 58 * k + 7 * 1) + 1) (M 61 (32 + ((j + 4) % 32)))) (((5 + 58 * k + 7 * 1) + 1) + 1) ((j + 4) % 32) (by omega) (by omega)) rfl ?_
  refine en_eq (M' := sp_wm M (sp_o1 (fun i => M 61 i) (fun i => M 61 (32 + i)) (fun m => M 63 (0 + m)) (sp_o1 (fun i => M 61 i) (fun i => M 61 (32 + i)) (fun m => M 63 (0 + m)) f (5 + 58 * k + 7 * 0) ((j + 0) % 32)) (5 + 58 * k + 7 * 1) ((j + 4) % 32)) (5 + 58 * k + 7 * 2)) rfl rfl (congrArg (sp_wm M _) (by omega)) ?_
  refine en_inc (ls' := [.ref 47, .int (nI j), .int (nI 2), .int (nI ((j + 4) % 32)), .retAddr 0, .retAddr 0]) d_Mo_writeOpening_54 rfl rfl ?_
  refine ew_goto (tgt := 2) d_Mo_writeOpening_57 (by decide) ?_
  refine ew_iload_n d_Mo_writeOpening_2 rfl ?_
  refine ew_iconst (v := nI 4) d_Mo_writeOpening_3 (by decide) ?_
  refine en_icmp_ge (tgt := 60) d_Mo_writeOpening_4 (by decide) (by first | with_reducible assumption | with_reducible exact ep_lt _ | with_reducible exact sp_its_lt _ _ _ | with_reducible exact tb_l_rt _ | with_reducible exact tb_l_x _ | with_reducible exact tb_l_o0 _ | with_reducible exact tb_l_o1 _ | with_reducible exact tb_l_va _ | with_reducible exact tb_l_ll _ | with_reducible exact tb_l_cf _ | with_reducible exact tb_l_kf _ | with_reducible exact sp_ts_lt _ _ _ _ | with_reducible exact sp_w_lt _ _ | with_reducible exact sp_cs_lt _ _ _ _ _ | with_reducible exact sp_cb_lt _ _ _ _ _ | with_reducible exact sp_ch_lt _ | with_reducible exact sp_bf_lt _ _ | with_reducible exact sp_va_lt _ _ _ | with_reducible exact sp_be_lt _ _ | with_reducible exact sp_p_lt _ _ _ | with_reducible exact sp_com_lt _ _ _ _ | with_reducible exact sp_fo_lt _ _ _ _ _ | omega) (by first | with_reducible assumption | with_reducible exact ep_lt _ | with_reducible exact sp_its_lt _ _ _ | with_reducible exact tb_l_rt _ | with_reducible exact tb_l_x _ | with_reducible exact tb_l_o0 _ | with_reducible exact tb_l_o1 _ | with_reducible exact tb_l_va _ | with_reducible exact tb_l_ll _ | with_reducible exact tb_l_cf _ | with_reducible exact tb_l_kf _ | with_reducible exact sp_ts_lt _ _ _ _ | with_reducible exact sp_w_lt _ _ | with_reducible exact sp_cs_lt _ _ _ _ _ | with_reducible exact sp_cb_lt _ _ _ _ _ | with_reducible exact sp_ch_lt _ | with_reducible exact sp_bf_lt _ _ | with_reducible exact sp_va_lt _ _ _ | with_reducible exact sp_be_lt _ _ | with_reducible exact sp_p_lt _ _ _ | with_reducible exact sp_com_lt _ _ _ _ | with_reducible exact sp_fo_lt _ _ _ _ _ | omega) (fun h4 => by exact absurd h4 (by decide)) (fun h4 => ?_)
  refine ew_iload_n d_Mo_writeOpening_7 rfl ?_
  refine ew_iload_n d_Mo_writeOpening_8 rfl ?_
  refine ew_iconst (v := nI 2) d_Mo_writeOpening_9 (by decide) ?_
  refine en_irem d_Mo_writeOpening_10 (by first | with_reducible assumption | with_reducible exact ep_lt _ | with_reducible exact sp_its_lt _ _ _ | with_reducible exact tb_l_rt _ | with_reducible exact tb_l_x _ | with_reducible exact tb_l_o0 _ | with_reducible exact tb_l_o1 _ | with_reducible exact tb_l_va _ | with_reducible exact tb_l_ll _ | with_reducible exact tb_l_cf _ | with_reducible exact tb_l_kf _ | with_reducible exact sp_ts_lt _ _ _ _ | with_reducible exact sp_w_lt _ _ | with_reducible exact sp_cs_lt _ _ _ _ _ | with_reducible exact sp_cb_lt _ _ _ _ _ | with_reducible exact sp_ch_lt _ | with_reducible exact sp_bf_lt _ _ | with_reducible exact sp_va_lt _ _ _ | with_reducible exact sp_be_lt _ _ | with_reducible exact sp_p_lt _ _ _ | with_reducible exact sp_com_lt _ _ _ _ | with_reducible exact sp_fo_lt _ _ _ _ _ | omega) (by decide) (by decide) ?_
  refine en_eq rfl (show _ = [.int (nI 0), .int (nI j)] from rfl) rfl ?_
  refine ew_iconst (v := nI 4) d_Mo_writeOpening_11 (by decide) ?_
  refine en_imul d_Mo_writeOpening_12 ?_
  refine en_eq rfl (show _ = [.int (nI 0), .int (nI j)] from rfl) rfl ?_
  refine en_iadd d_Mo_writeOpening_13 ?_
  refine ew_iload_n d_Mo_writeOpening_14 rfl ?_
  refine ew_iconst (v := nI 2) d_Mo_writeOpening_15 (by decide) ?_
  refine en_idiv d_Mo_writeOpening_16 (by first | with_reducible assumption | with_reducible exact ep_lt _ | with_reducible exact sp_its_lt _ _ _ | with_reducible exact tb_l_rt _ | with_reducible exact tb_l_x _ | with_reducible exact tb_l_o0 _ | with_reducible exact tb_l_o1 _ | with_reducible exact tb_l_va _ | with_reducible exact tb_l_ll _ | with_reducible exact tb_l_cf _ | with_reducible exact tb_l_kf _ | with_reducible exact sp_ts_lt _ _ _ _ | with_reducible exact sp_w_lt _ _ | with_reducible exact sp_cs_lt _ _ _ _ _ | with_reducible exact sp_cb_lt _ _ _ _ _ | with_reducible exact sp_ch_lt _ | with_reducible exact sp_bf_lt _ _ | with_reducible exact sp_va_lt _ _ _ | with_reducible exact sp_be_lt _ _ | with_reducible exact sp_p_lt _ _ _ | with_reducible exact sp_com_lt _ _ _ _ | with_reducible exact sp_fo_lt _ _ _ _ _ | omega) (by decide) (by decide) ?_
  refine en_eq rfl (show _ = [.int (nI 1), .int (nI (j + 0))] from rfl) rfl ?_
  refine ew_bipush (v := nI 16) d_Mo_writeOpening_17 (by decide) ?_
  refine en_imul d_Mo_writeOpening_19 ?_
  refine en_eq rfl (show _ = [.int (nI 16), .int (nI (j + 0))] from rfl) rfl ?_
  refine en_iadd d_Mo_writeOpening_20 ?_
  refine ew_bipush (v := nI 32) d_Mo_writeOpening_21 (by decide) ?_
  refine en_irem d_Mo_writeOpening_23 (by omega) (by decide) (by decide) ?_
  refine en_eq (st' := [.int (nI ((j + 16) % 32))]) rfl (by rw [show (nI (((j + 0) + 16) % 32)) = (nI ((j + 16) % 32)) from congrArg nI (by omega)]) rfl ?_
  refine en_istore_n (ls' := [.ref 47, .int (nI j), .int (nI 2), .int (nI ((j + 16) % 32)), .retAddr 0, .retAddr 0]) d_Mo_writeOpening_24 (Nat.le_of_ble_eq_true rfl) rfl ?_
  refine ew_aload_n d_Mo_writeOpening_25 rfl ?_
  refine ew_aload_n d_Mo_writeOpening_26 rfl ?_
  refine ew_getr (ci := 9) (f := 20) d_Mo_writeOpening_27 rfl rfl rfl tw_611 ?_
  refine ew_iload_n d_Mo_writeOpening_30 rfl ?_
  refine ew_iald (j := (j + 16) % 32) d_Mo_writeOpening_31 rfl (rfl) (by omega) (by decide) ?_
  refine en_eq (st' := [.int (M 61 ((j + 16) % 32)), .ref 47]) rfl (by rw [show ((sp_wm M (sp_o1 (fun i => M 61 i) (fun i => M 61 (32 + i)) (fun m => M 63 (0 + m)) (sp_o1 (fun i => M 61 i) (fun i => M 61 (32 + i)) (fun m => M 63 (0 + m)) f (5 + 58 * k + 7 * 0) ((j + 0) % 32)) (5 + 58 * k + 7 * 1) ((j + 4) % 32)) (5 + 58 * k + 7 * 2)) 61 ((j + 16) % 32)) = (M 61 ((j + 16) % 32)) from by rw [sp_wm_ne (by decide) (by decide)]]) rfl ?_
  refine en_callV (As := [.int (M 61 ((j + 16) % 32))]) (i := 47) (ci := 9) (st := []) (st1 := []) d_Mo_writeOpening_32 k_Mo_write rfl rfl tw_795 tw_797 tp_44 rfl (Nat.le_of_ble_eq_true rfl) rfl (Nat.le_of_ble_eq_true rfl) rfl rfl (c_Mo_writew l g _ L M (sp_o1 (fun i => M 61 i) (fun i => M 61 (32 + i)) (fun m => M 63 (0 + m)) (sp_o1 (fun i => M 61 i) (fun i => M 61 (32 + i)) (fun m => M 63 (0 + m)) f (5 + 58 * k + 7 * 0) ((j + 0) % 32)) (5 + 58 * k + 7 * 1) ((j + 4) % 32)) (5 + 58 * k + 7 * 2) (by omega) (M 61 ((j + 16) % 32))) rfl ?_
  refine ew_aload_n d_Mo_writeOpening_35 rfl ?_
  refine ew_aload_n d_Mo_writeOpening_36 rfl ?_
  refine ew_getr (ci := 9) (f := 20) d_Mo_writeOpening_37 rfl rfl rfl tw_611 ?_
  refine ew_bipush (v := nI 32) d_Mo_writeOpening_40 (by decide) ?_
  refine ew_iload_n d_Mo_writeOpening_42 rfl ?_
  refine en_iadd d_Mo_writeOpening_43 ?_
  refine ew_iald (j := 32 + ((j + 16) % 32)) d_Mo_writeOpening_44 rfl (rfl) (by omega) (by decide) ?_
  refine en_eq (st' := [.int (M 61 (32 + ((j + 16) % 32))), .ref 47]) rfl (by rw [show ((sp_wm M (upd (sp_o1 (fun i => M 61 i) (fun i => M 61 (32 + i)) (fun m => M 63 (0 + m)) (sp_o1 (fun i => M 61 i) (fun i => M 61 (32 + i)) (fun m => M 63 (0 + m)) f (5 + 58 * k + 7 * 0) ((j + 0) % 32)) (5 + 58 * k + 7 * 1) ((j + 4) % 32)) (5 + 58 * k + 7 * 2) (M 61 ((j + 16) % 32))) ((5 + 58 * k + 7 * 2) + 1)) 61 (32 + ((j + 16) % 32))) = (M 61 (32 + ((j + 16) % 32))) from by rw [sp_wm_ne (by decide) (by decide)]]) rfl ?_
  refine en_callV (As := [.int (M 61 (32 + ((j + 16) % 32)))]) (i := 47) (ci := 9) (st := []) (st1 := []) d_Mo_writeOpening_45 k_Mo_write rfl rfl tw_795 tw_797 tp_44 rfl (Nat.le_of_ble_eq_true rfl) rfl (Nat.le_of_ble_eq_true rfl) rfl rfl (c_Mo_writew l g _ L M (upd (sp_o1 (fun i => M 61 i) (fun i => M 61 (32 + i)) (fun m => M 63 (0 + m)) (sp_o1 (fun i => M 61 i) (fun i => M 61 (32 + i)) (fun m => M 63 (0 + m)) f (5 + 58 * k + 7 * 0) ((j + 0) % 32)) (5 + 58 * k + 7 * 1) ((j + 4) % 32)) (5 + 58 * k + 7 * 2) (M 61 ((j + 16) % 32))) ((5 + 58 * k + 7 * 2) + 1) (by omega) (M 61 (32 + ((j + 16) % 32)))) rfl ?_
  refine ew_aload_n d_Mo_writeOpening_48 rfl ?_
  refine ew_iconst (v := nI 0) d_Mo_writeOpening_49 (by decide) ?_
  refine ew_iload_n d_Mo_writeOpening_50 rfl ?_
  refine en_callV (As := [.int (nI 0), .int (nI ((j + 16) % 32))]) (i := 47) (ci := 9) (st := []) (st1 := []) d_Mo_writeOpening_51 k_Mo_writePath rfl rfl tw_799 tw_801 tp_45 rfl (Nat.le_of_ble_eq_true rfl) rfl (Nat.le_of_ble_eq_true rfl) rfl rfl (c_Mo_writePath0 l g _ L M (upd (upd (sp_o1 (fun i => M 61 i) (fun i => M 61 (32 + i)) (fun m => M 63 (0 + m)) (sp_o1 (fun i => M 61 i) (fun i => M 61 (32 + i)) (fun m => M 63 (0 + m)) f (5 + 58 * k + 7 * 0) ((j + 0) % 32)) (5 + 58 * k + 7 * 1) ((j + 4) % 32)) (5 + 58 * k + 7 * 2) (M 61 ((j + 16) % 32))) ((5 + 58 * k + 7 * 2) + 1) (M 61 (32 + ((j + 16) % 32)))) (((5 + 58 * k + 7 * 2) + 1) + 1) ((j + 16) % 32) (by omega) (by omega)) rfl ?_
  refine en_eq (M' := sp_wm M (sp_o1 (fun i => M 61 i) (fun i => M 61 (32 + i)) (fun m => M 63 (0 + m)) (sp_o1 (fun i => M 61 i) (fun i => M 61 (32 + i)) (fun m => M 63 (0 + m)) (sp_o1 (fun i => M 61 i) (fun i => M 61 (32 + i)) (fun m => M 63 (0 + m)) f (5 + 58 * k + 7 * 0) ((j + 0) % 32)) (5 + 58 * k + 7 * 1) ((j + 4) % 32)) (5 + 58 * k + 7 * 2) ((j + 16) % 32)) (5 + 58 * k + 7 * 3)) rfl rfl (congrArg (sp_wm M _) (by omega)) ?_
  refine en_inc (ls' := [.ref 47, .int (nI j), .int (nI 3), .int (nI ((j + 16) % 32)), .retAddr 0, .retAddr 0]) d_Mo_writeOpening_54 rfl rfl ?_
  refine ew_goto (tgt := 2) d_Mo_writeOpening_57 (by decide) ?_
  refine ew_iload_n d_Mo_writeOpening_2 rfl ?_
  refine ew_iconst (v := nI 4) d_Mo_writeOpening_3 (by decide) ?_
  refine en_icmp_ge (tgt := 60) d_Mo_writeOpening_4 (by decide) (by first | with_reducible assumption | with_reducible exact ep_lt _ | with_reducible exact sp_its_lt _ _ _ | with_reducible exact tb_l_rt _ | with_reducible exact tb_l_x _ | with_reducible exact tb_l_o0 _ | with_reducible exact tb_l_o1 _ | with_reducible exact tb_l_va _ | with_reducible exact tb_l_ll _ | with_reducible exact tb_l_cf _ | with_reducible exact tb_l_kf _ | with_reducible exact sp_ts_lt _ _ _ _ | with_reducible exact sp_w_lt _ _ | with_reducible exact sp_cs_lt _ _ _ _ _ | with_reducible exact sp_cb_lt _ _ _ _ _ | with_reducible exact sp_ch_lt _ | with_reducible exact sp_bf_lt _ _ | with_reducible exact sp_va_lt _ _ _ | with_reducible exact sp_be_lt _ _ | with_reducible exact sp_p_lt _ _ _ | with_reducible exact sp_com_lt _ _ _ _ | with_reducible exact sp_fo_lt _ _ _ _ _ | omega) (by first | with_reducible assumption | with_reducible exact ep_lt _ | with_reducible exact sp_its_lt _ _ _ | with_reducible exact tb_l_rt _ | with_reducible exact tb_l_x _ | with_reducible exact tb_l_o0 _ | with_reducible exact tb_l_o1 _ | with_reducible exact tb_l_va _ | with_reducible exact tb_l_ll _ | with_reducible exact tb_l_cf _ | with_reducible exact tb_l_kf _ | with_reducible exact sp_ts_lt _ _ _ _ | with_reducible exact sp_w_lt _ _ | with_reducible exact sp_cs_lt _ _ _ _ _ | with_reducible exact sp_cb_lt _ _ _ _ _ | with_reducible exact sp_ch_lt _ | with_reducible exact sp_bf_lt _ _ | with_reducible exact sp_va_lt _ _ _ | with_reducible exact sp_be_lt _ _ | with_reducible exact sp_p_lt _ _ _ | with_reducible exact sp_com_lt _ _ _ _ | with_reducible exact sp_fo_lt _ _ _ _ _ | omega) (fun h4 => by exact absurd h4 (by decide)) (fun h4 => ?_)
  refine ew_iload_n d_Mo_writeOpening_7 rfl ?_
  refine ew_iload_n d_Mo_writeOpening_8 rfl ?_
  refine ew_iconst (v := nI 2) d_Mo_writeOpening_9 (by decide) ?_
  refine en_irem d_Mo_writeOpening_10 (by first | with_reducible assumption | with_reducible exact ep_lt _ | with_reducible exact sp_its_lt _ _ _ | with_reducible exact tb_l_rt _ | with_reducible exact tb_l_x _ | with_reducible exact tb_l_o0 _ | with_reducible exact tb_l_o1 _ | with_reducible exact tb_l_va _ | with_reducible exact tb_l_ll _ | with_reducible exact tb_l_cf _ | with_reducible exact tb_l_kf _ | with_reducible exact sp_ts_lt _ _ _ _ | with_reducible exact sp_w_lt _ _ | with_reducible exact sp_cs_lt _ _ _ _ _ | with_reducible exact sp_cb_lt _ _ _ _ _ | with_reducible exact sp_ch_lt _ | with_reducible exact sp_bf_lt _ _ | with_reducible exact sp_va_lt _ _ _ | with_reducible exact sp_be_lt _ _ | with_reducible exact sp_p_lt _ _ _ | with_reducible exact sp_com_lt _ _ _ _ | with_reducible exact sp_fo_lt _ _ _ _ _ | omega) (by decide) (by decide) ?_
  refine en_eq rfl (show _ = [.int (nI 1), .int (nI j)] from rfl) rfl ?_
  refine ew_iconst (v := nI 4) d_Mo_writeOpening_11 (by decide) ?_
  refine en_imul d_Mo_writeOpening_12 ?_
  refine en_eq rfl (show _ = [.int (nI 4), .int (nI j)] from rfl) rfl ?_
  refine en_iadd d_Mo_writeOpening_13 ?_
  refine ew_iload_n d_Mo_writeOpening_14 rfl ?_
  refine ew_iconst (v := nI 2) d_Mo_writeOpening_15 (by decide) ?_
  refine en_idiv d_Mo_writeOpening_16 (by first | with_reducible assumption | with_reducible exact ep_lt _ | with_reducible exact sp_its_lt _ _ _ | with_reducible exact tb_l_rt _ | with_reducible exact tb_l_x _ | with_reducible exact tb_l_o0 _ | with_reducible exact tb_l_o1 _ | with_reducible exact tb_l_va _ | with_reducible exact tb_l_ll _ | with_reducible exact tb_l_cf _ | with_reducible exact tb_l_kf _ | with_reducible exact sp_ts_lt _ _ _ _ | with_reducible exact sp_w_lt _ _ | with_reducible exact sp_cs_lt _ _ _ _ _ | with_reducible exact sp_cb_lt _ _ _ _ _ | with_reducible exact sp_ch_lt _ | with_reducible exact sp_bf_lt _ _ | with_reducible exact sp_va_lt _ _ _ | with_reducible exact sp_be_lt _ _ | with_reducible exact sp_p_lt _ _ _ | with_reducible exact sp_com_lt _ _ _ _ | with_reducible exact sp_fo_lt _ _ _ _ _ | omega) (by decide) (by decide) ?_
  refine en_eq rfl (show _ = [.int (nI 1), .int (nI (j + 4))] from rfl) rfl ?_
  refine ew_bipush (v := nI 16) d_Mo_writeOpening_17 (by decide) ?_
  refine en_imul d_Mo_writeOpening_19 ?_
  refine en_eq rfl (show _ = [.int (nI 16), .int (nI (j + 4))] from rfl) rfl ?_
  refine en_iadd d_Mo_writeOpening_20 ?_
  refine ew_bipush (v := nI 32) d_Mo_writeOpening_21 (by decide) ?_
  refine en_irem d_Mo_writeOpening_23 (by omega) (by decide) (by decide) ?_
  refine en_eq (st' := [.int (nI ((j + 20) % 32))]) rfl (by rw [show (nI (((j + 4) + 16) % 32)) = (nI ((j + 20) % 32)) from congrArg nI (by omega)]) rfl ?_
  refine en_istore_n (ls' := [.ref 47, .int (nI j), .int (nI 3), .int (nI ((j + 20) % 32)), .retAddr 0, .retAddr 0]) d_Mo_writeOpening_24 (Nat.le_of_ble_eq_true rfl) rfl ?_
  refine ew_aload_n d_Mo_writeOpening_25 rfl ?_
  refine ew_aload_n d_Mo_writeOpening_26 rfl ?_
  refine ew_getr (ci := 9) (f := 20) d_Mo_writeOpening_27 rfl rfl rfl tw_611 ?_
  refine ew_iload_n d_Mo_writeOpening_30 rfl ?_
  refine ew_iald (j := (j + 20) % 32) d_Mo_writeOpening_31 rfl (rfl) (by omega) (by decide) ?_
  refine en_eq (st' := [.int (M 61 ((j + 20) % 32)), .ref 47]) rfl (by rw [show ((sp_wm M (sp_o1 (fun i => M 61 i) (fun i => M 61 (32 + i)) (fun m => M 63 (0 + m)) (sp_o1 (fun i => M 61 i) (fun i => M 61 (32 + i)) (fun m => M 63 (0 + m)) (sp_o1 (fun i => M 61 i) (fun i => M 61 (32 + i)) (fun m => M 63 (0 + m)) f (5 + 58 * k + 7 * 0) ((j + 0) % 32)) (5 + 58 * k + 7 * 1) ((j + 4) % 32)) (5 + 58 * k + 7 * 2) ((j + 16) % 32)) (5 + 58 * k + 7 * 3)) 61 ((j + 20) % 32)) = (M 61 ((j + 20) % 32)) from by rw [sp_wm_ne (by decide) (by decide)]]) rfl ?_
  refine en_callV (As := [.int (M 61 ((j + 20) % 32))]) (i := 47) (ci := 9) (st := []) (st1 := []) d_Mo_writeOpening_32 k_Mo_write rfl rfl tw_795 tw_797 tp_44 rfl (Nat.le_of_ble_eq_true rfl) rfl (Nat.le_of_ble_eq_true rfl) rfl rfl (c_Mo_writew l g _ L M (sp_o1 (fun i => M 61 i) (fun i => M 61 (32 + i)) (fun m => M 63 (0 + m)) (sp_o1 (fun i => M 61 i) (fun i => M 61 (32 + i)) (fun m => M 63 (0 + m)) (sp_o1 (fun i => M 61 i) (fun i => M 61 (32 + i)) (fun m => M 63 (0 + m)) f (5 + 58 * k + 7 * 0) ((j + 0) % 32)) (5 + 58 * k + 7 * 1) ((j + 4) % 32)) (5 + 58 * k + 7 * 2) ((j + 16) % 32)) (5 + 58 * k + 7 * 3) (by omega) (M 61 ((j + 20) % 32))) rfl ?_
  refine ew_aload_n d_Mo_writeOpening_35 rfl ?_
  refine ew_aload_n d_Mo_writeOpening_36 rfl ?_
  refine ew_getr (ci := 9) (f := 20) d_Mo_writeOpening_37 rfl rfl rfl tw_611 ?_
  refine ew_bipush (v := nI 32) d_Mo_writeOpening_40 (by decide) ?_
  refine ew_iload_n d_Mo_writeOpening_42 rfl ?_
  refine en_iadd d_Mo_writeOpening_43 ?_
  refine ew_iald (j := 32 + ((j + 20) % 32)) d_Mo_writeOpening_44 rfl (rfl) (by omega) (by decide) ?_
  refine en_eq (st' := [.int (M 61 (32 + ((j + 20) % 32))), .ref 47]) rfl (by rw [show ((sp_wm M (upd (sp_o1 (fun i => M 61 i) (fun i => M 61 (32 + i)) (fun m => M 63 (0 + m)) (sp_o1 (fun i => M 61 i) (fun i => M 61 (32 + i)) (fun m => M 63 (0 + m)) (sp_o1 (fun i => M 61 i) (fun i => M 61 (32 + i)) (fun m => M 63 (0 + m)) f (5 + 58 * k + 7 * 0) ((j + 0) % 32)) (5 + 58 * k + 7 * 1) ((j + 4) % 32)) (5 + 58 * k + 7 * 2) ((j + 16) % 32)) (5 + 58 * k + 7 * 3) (M 61 ((j + 20) % 32))) ((5 + 58 * k + 7 * 3) + 1)) 61 (32 + ((j + 20) % 32))) = (M 61 (32 + ((j + 20) % 32))) from by rw [sp_wm_ne (by decide) (by decide)]]) rfl ?_
  refine en_callV (As := [.int (M 61 (32 + ((j + 20) % 32)))]) (i := 47) (ci := 9) (st := []) (st1 := []) d_Mo_writeOpening_45 k_Mo_write rfl rfl tw_795 tw_797 tp_44 rfl (Nat.le_of_ble_eq_true rfl) rfl (Nat.le_of_ble_eq_true rfl) rfl rfl (c_Mo_writew l g _ L M (upd (sp_o1 (fun i => M 61 i) (fun i => M 61 (32 + i)) (fun m => M 63 (0 + m)) (sp_o1 (fun i => M 61 i) (fun i => M 61 (32 + i)) (fun m => M 63 (0 + m)) (sp_o1 (fun i => M 61 i) (fun i => M 61 (32 + i)) (fun m => M 63 (0 + m)) f (5 + 58 * k + 7 * 0) ((j + 0) % 32)) (5 + 58 * k + 7 * 1) ((j + 4) % 32)) (5 + 58 * k + 7 * 2) ((j + 16) % 32)) (5 + 58 * k + 7 * 3) (M 61 ((j + 20) % 32))) ((5 + 58 * k + 7 * 3) + 1) (by omega) (M 61 (32 + ((j + 20) % 32)))) rfl ?_
  refine ew_aload_n d_Mo_writeOpening_48 rfl ?_
  refine ew_iconst (v := nI 0) d_Mo_writeOpening_49 (by decide) ?_
  refine ew_iload_n d_Mo_writeOpening_50 rfl ?_
  refine en_callV (As := [.int (nI 0), .int (nI ((j + 20) % 32))]) (i := 47) (ci := 9) (st := []) (st1 := []) d_Mo_writeOpening_51 k_Mo_writePath rfl rfl tw_799 tw_801 tp_45 rfl (Nat.le_of_ble_eq_true rfl) rfl (Nat.le_of_ble_eq_true rfl) rfl rfl (c_Mo_writePath0 l g _ L M (upd (upd (sp_o1 (fun i => M 61 i) (fun i => M 61 (32 + i)) (fun m => M 63 (0 + m)) (sp_o1 (fun i => M 61 i) (fun i => M 61 (32 + i)) (fun m => M 63 (0 + m)) (sp_o1 (fun i => M 61 i) (fun i => M 61 (32 + i)) (fun m => M 63 (0 + m)) f (5 + 58 * k + 7 * 0) ((j + 0) % 32)) (5 + 58 * k + 7 * 1) ((j + 4) % 32)) (5 + 58 * k + 7 * 2) ((j + 16) % 32)) (5 + 58 * k + 7 * 3) (M 61 ((j + 20) % 32))) ((5 + 58 * k + 7 * 3) + 1) (M 61 (32 + ((j + 20) % 32)))) (((5 + 58 * k + 7 * 3) + 1) + 1) ((j + 20) % 32) (by omega) (by omega)) rfl ?_
  refine en_eq (M' := sp_wm M (sp_o1 (fun i => M 61 i) (fun i => M 61 (32 + i)) (fun m => M 63 (0 + m)) (sp_o1 (fun i => M 61 i) (fun i => M 61 (32 + i)) (fun m => M 63 (0 + m)) (sp_o1 (fun i => M 61 i) (fun i => M 61 (32 + i)) (fun m => M 63 (0 + m)) (sp_o1 (fun i => M 61 i) (fun i => M 61 (32 + i)) (fun m => M 63 (0 + m)) f (5 + 58 * k + 7 * 0) ((j + 0) % 32)) (5 + 58 * k + 7 * 1) ((j + 4) % 32)) (5 + 58 * k + 7 * 2) ((j + 16) % 32)) (5 + 58 * k + 7 * 3) ((j + 20) % 32)) (5 + 58 * k + 28 + 6 * 0)) rfl rfl (congrArg (sp_wm M _) (by omega)) ?_
  refine en_inc (ls' := [.ref 47, .int (nI j), .int (nI 4), .int (nI ((j + 20) % 32)), .retAddr 0, .retAddr 0]) d_Mo_writeOpening_54 rfl rfl ?_
  refine ew_goto (tgt := 2) d_Mo_writeOpening_57 (by decide) ?_
  refine ew_iload_n d_Mo_writeOpening_2 rfl ?_
  refine ew_iconst (v := nI 4) d_Mo_writeOpening_3 (by decide) ?_
  refine en_icmp_ge (tgt := 60) d_Mo_writeOpening_4 (by decide) (by first | with_reducible assumption | with_reducible exact ep_lt _ | with_reducible exact sp_its_lt _ _ _ | with_reducible exact tb_l_rt _ | with_reducible exact tb_l_x _ | with_reducible exact tb_l_o0 _ | with_reducible exact tb_l_o1 _ | with_reducible exact tb_l_va _ | with_reducible exact tb_l_ll _ | with_reducible exact tb_l_cf _ | with_reducible exact tb_l_kf _ | with_reducible exact sp_ts_lt _ _ _ _ | with_reducible exact sp_w_lt _ _ | with_reducible exact sp_cs_lt _ _ _ _ _ | with_reducible exact sp_cb_lt _ _ _ _ _ | with_reducible exact sp_ch_lt _ | with_reducible exact sp_bf_lt _ _ | with_reducible exact sp_va_lt _ _ _ | with_reducible exact sp_be_lt _ _ | with_reducible exact sp_p_lt _ _ _ | with_reducible exact sp_com_lt _ _ _ _ | with_reducible exact sp_fo_lt _ _ _ _ _ | omega) (by first | with_reducible assumption | with_reducible exact ep_lt _ | with_reducible exact sp_its_lt _ _ _ | with_reducible exact tb_l_rt _ | with_reducible exact tb_l_x _ | with_reducible exact tb_l_o0 _ | with_reducible exact tb_l_o1 _ | with_reducible exact tb_l_va _ | with_reducible exact tb_l_ll _ | with_reducible exact tb_l_cf _ | with_reducible exact tb_l_kf _ | with_reducible exact sp_ts_lt _ _ _ _ | with_reducible exact sp_w_lt _ _ | with_reducible exact sp_cs_lt _ _ _ _ _ | with_reducible exact sp_cb_lt _ _ _ _ _ | with_reducible exact sp_ch_lt _ | with_reducible exact sp_bf_lt _ _ | with_reducible exact sp_va_lt _ _ _ | with_reducible exact sp_be_lt _ _ | with_reducible exact sp_p_lt _ _ _ | with_reducible exact sp_com_lt _ _ _ _ | with_reducible exact sp_fo_lt _ _ _ _ _ | omega) (fun h4 => ?_) (fun h4 => by exact absurd h4 (by decide))
  refine ew_iconst (v := nI 0) d_Mo_writeOpening_60 (by decide) ?_
  refine en_istore_n (ls' := [.ref 47, .int (nI j), .int (nI 0), .int (nI ((j + 20) % 32)), .retAddr 0, .retAddr 0]) d_Mo_writeOpening_61 (Nat.le_of_ble_eq_true rfl) rfl ?_
  refine ew_iload_n d_Mo_writeOpening_62 rfl ?_
  refine ew_iconst (v := nI 3) d_Mo_writeOpening_63 (by decide) ?_
  refine en_icmp_ge (tgt := 128) d_Mo_writeOpening_64 (by decide) (by first | with_reducible assumption | with_reducible exact ep_lt _ | with_reducible exact sp_its_lt _ _ _ | with_reducible exact tb_l_rt _ | with_reducible exact tb_l_x _ | with_reducible exact tb_l_o0 _ | with_reducible exact tb_l_o1 _ | with_reducible exact tb_l_va _ | with_reducible exact tb_l_ll _ | with_reducible exact tb_l_cf _ | with_reducible exact tb_l_kf _ | with_reducible exact sp_ts_lt _ _ _ _ | with_reducible exact sp_w_lt _ _ | with_reducible exact sp_cs_lt _ _ _ _ _ | with_reducible exact sp_cb_lt _ _ _ _ _ | with_reducible exact sp_ch_lt _ | with_reducible exact sp_bf_lt _ _ | with_reducible exact sp_va_lt _ _ _ | with_reducible exact sp_be_lt _ _ | with_reducible exact sp_p_lt _ _ _ | with_reducible exact sp_com_lt _ _ _ _ | with_reducible exact sp_fo_lt _ _ _ _ _ | omega) (by first | with_reducible assumption | with_reducible exact ep_lt _ | with_reducible exact sp_its_lt _ _ _ | with_reducible exact tb_l_rt _ | with_reducible exact tb_l_x _ | with_reducible exact tb_l_o0 _ | with_reducible exact tb_l_o1 _ | with_reducible exact tb_l_va _ | with_reducible exact tb_l_ll _ | with_reducible exact tb_l_cf _ | with_reducible exact tb_l_kf _ | with_reducible exact sp_ts_lt _ _ _ _ | with_reducible exact sp_w_lt _ _ | with_reducible exact sp_cs_lt _ _ _ _ _ | with_reducible exact sp_cb_lt _ _ _ _ _ | with_reducible exact sp_ch_lt _ | with_reducible exact sp_bf_lt _ _ | with_reducible exact sp_va_lt _ _ _ | with_reducible exact sp_be_lt _ _ | with_reducible exact sp_p_lt _ _ _ | with_reducible exact sp_com_lt _ _ _ _ | with_reducible exact sp_fo_lt _ _ _ _ _ | omega) (fun h64 => by exact absurd h64 (by decide)) (fun h64 => ?_)
  refine ew_bipush (v := nI 16) d_Mo_writeOpening_67 (by decide) ?_
  refine ew_iload_n d_Mo_writeOpening_69 rfl ?_
  refine ew_ishr d_Mo_writeOpening_70 ?_
  refine en_eq (st' := [.int (nI 16)]) rfl (by rw [show ((nI 16) >>> ((nI 0) &&& 31)) = (nI 16) from by decide]) rfl ?_
  refine en_istore_n (ls' := [.ref 47, .int (nI j), .int (nI 0), .int (nI 16), .retAddr 0, .retAddr 0]) d_Mo_writeOpening_71 (Nat.le_of_ble_eq_true rfl) rfl ?_
  refine ew_iconst (v := nI 0) d_Mo_writeOpening_72 (by decide) ?_
  refine en_istore (ls' := [.ref 47, .int (nI j), .int (nI 0), .int (nI 16), .int (nI 0), .retAddr 0]) d_Mo_writeOpening_73 (Nat.le_of_ble_eq_true rfl) rfl ?_
  refine ew_iload d_Mo_writeOpening_75 rfl ?_
  refine ew_iconst (v := nI 2) d_Mo_writeOpening_77 (by decide) ?_
  refine en_icmp_ge (tgt := 122) d_Mo_writeOpening_78 (by decide) (by first | with_reducible assumption | with_reducible exact ep_lt _ | with_reducible exact sp_its_lt _ _ _ | with_reducible exact tb_l_rt _ | with_reducible exact tb_l_x _ | with_reducible exact tb_l_o0 _ | with_reducible exact tb_l_o1 _ | with_reducible exact tb_l_va _ | with_reducible exact tb_l_ll _ | with_reducible exact tb_l_cf _ | with_reducible exact tb_l_kf _ | with_reducible exact sp_ts_lt _ _ _ _ | with_reducible exact sp_w_lt _ _ | with_reducible exact sp_cs_lt _ _ _ _ _ | with_reducible exact sp_cb_lt _ _ _ _ _ | with_reducible exact sp_ch_lt _ | with_reducible exact sp_bf_lt _ _ | with_reducible exact sp_va_lt _ _ _ | with_reducible exact sp_be_lt _ _ | with_reducible exact sp_p_lt _ _ _ | with_reducible exact sp_com_lt _ _ _ _ | with_reducible exact sp_fo_lt _ _ _ _ _ | omega) (by first | with_reducible assumption | with_reducible exact ep_lt _ | with_reducible exact sp_its_lt _ _ _ | with_reducible exact tb_l_rt _ | with_reducible exact tb_l_x _ | with_reducible exact tb_l_o0 _ | with_reducible exact tb_l_o1 _ | with_reducible exact tb_l_va _ | with_reducible exact tb_l_ll _ | with_reducible exact tb_l_cf _ | with_reducible exact tb_l_kf _ | with_reducible exact sp_ts_lt _ _ _ _ | with_reducible exact sp_w_lt _ _ | with_reducible exact sp_cs_lt _ _ _ _ _ | with_reducible exact sp_cb_lt _ _ _ _ _ | with_reducible exact sp_ch_lt _ | with_reducible exact sp_bf_lt _ _ | with_reducible exact sp_va_lt _ _ _ | with_reducible exact sp_be_lt _ _ | with_reducible exact sp_p_lt _ _ _ | with_reducible exact sp_com_lt _ _ _ _ | with_reducible exact sp_fo_lt _ _ _ _ _ | omega) (fun h78 => by exact absurd h78 (by decide)) (fun h78 => ?_)
  refine ew_iload_n d_Mo_writeOpening_81 rfl ?_
  refine ew_iload_n d_Mo_writeOpening_82 rfl ?_
  refine en_irem d_Mo_writeOpening_83 (by omega) (by decide) (by decide) ?_
  refine ew_iload d_Mo_writeOpening_84 rfl ?_
  refine ew_iload_n d_Mo_writeOpening_86 rfl ?_
  refine en_imul d_Mo_writeOpening_87 ?_
  refine en_eq rfl (show _ = [.int (nI 0), .int (nI (j % 16))] from rfl) rfl ?_
  refine en_iadd d_Mo_writeOpening_88 ?_
  refine en_eq (st' := [.int (nI (j % 16 + 16 * 0))]) rfl (by rw [show (nI ((j % 16) + 0)) = (nI (j % 16 + 16 * 0)) from rfl]) rfl ?_
  refine en_istore (ls' := [.ref 47, .int (nI j), .int (nI 0), .int (nI 16), .int (nI 0), .int (nI (j % 16 + 16 * 0))]) d_Mo_writeOpening_89 (Nat.le_of_ble_eq_true rfl) rfl ?_
  refine ew_aload_n d_Mo_writeOpening_91 rfl ?_
  refine ew_aload_n d_Mo_writeOpening_92 rfl ?_
  refine ew_getr (ci := 9) (f := 21) d_Mo_writeOpening_93 rfl rfl rfl tw_612 ?_
  refine ew_iload_n d_Mo_writeOpening_96 rfl ?_
  refine en_callS (As := [.int (nI 0)]) (st := [.ref 62, .ref 47]) (st1 := [.int (nI 0), .ref 62, .ref 47]) d_Mo_writeOpening_97 k_Mo_layerFrom tw_767 tw_768 rfl (Nat.le_of_ble_eq_true rfl) rfl (Nat.le_of_ble_eq_true rfl) rfl rfl (c_Mo_layerFrom0 l g _ L (sp_wm M (sp_o1 (fun i => M 61 i) (fun i => M 61 (32 + i)) (fun m => M 63 (0 + m)) (sp_o1 (fun i => M 61 i) (fun i => M 61 (32 + i)) (fun m => M 63 (0 + m)) (sp_o1 (fun i => M 61 i) (fun i => M 61 (32 + i)) (fun m => M 63 (0 + m)) (sp_o1 (fun i => M 61 i) (fun i => M 61 (32 + i)) (fun m => M 63 (0 + m)) f (5 + 58 * k + 7 * 0) ((j + 0) % 32)) (5 + 58 * k + 7 * 1) ((j + 4) % 32)) (5 + 58 * k + 7 * 2) ((j + 16) % 32)) (5 + 58 * k + 7 * 3) ((j + 20) % 32)) (5 + 58 * k + 28 + 6 * 0))) rfl ?_
  refine ew_iload d_Mo_writeOpening_100 rfl ?_
  refine en_iadd d_Mo_writeOpening_102 ?_
  refine ew_iald (j := 0 + (j % 16 + 16 * 0)) d_Mo_writeOpening_103 rfl (rfl) (by omega) (by decide) ?_
  refine en_eq (st' := [.int (M 62 (0 + (j % 16 + 16 * 0))), .ref 47]) rfl (by rw [show ((sp_wm M (sp_o1 (fun i => M 61 i) (fun i => M 61 (32 + i)) (fun m => M 63 (0 + m)) (sp_o1 (fun i => M 61 i) (fun i => M 61 (32 + i)) (fun m => M 63 (0 + m)) (sp_o1 (fun i => M 61 i) (fun i => M 61 (32 + i)) (fun m => M 63 (0 + m)) (sp_o1 (fun i => M 61 i) (fun i => M 61 (32 + i)) (fun m => M 63 (0 + m)) f (5 + 58 * k + 7 * 0) ((j + 0) % 32)) (5 + 58 * k + 7 * 1) ((j + 4) % 32)) (5 + 58 * k + 7 * 2) ((j + 16) % 32)) (5 + 58 * k + 7 * 3) ((j + 20) % 32)) (5 + 58 * k + 28 + 6 * 0)) 62 (0 + (j % 16 + 16 * 0))) = (M 62 (0 + (j % 16 + 16 * 0))) from by rw [sp_wm_ne (by decide) (by decide)]]) rfl ?_
  refine en_callV (As := [.int (M 62 (0 + (j % 16 + 16 * 0)))]) (i := 47) (ci := 9) (st := []) (st1 := []) d_Mo_writeOpening_104 k_Mo_write rfl rfl tw_795 tw_797 tp_44 rfl (Nat.le_of_ble_eq_true rfl) rfl (Nat.le_of_ble_eq_true rfl) rfl rfl (c_Mo_writew l g _ L M (sp_o1 (fun i => M 61 i) (fun i => M 61 (32 + i)) (fun m => M 63 (0 + m)) (sp_o1 (fun i => M 61 i) (fun i => M 61 (32 + i)) (fun m => M 63 (0 + m)) (sp_o1 (fun i => M 61 i) (fun i => M 61 (32 + i)) (fun m => M 63 (0 + m)) (sp_o1 (fun i => M 61 i) (fun i => M 61 (32 + i)) (fun m => M 63 (0 + m)) f (5 + 58 * k + 7 * 0) ((j + 0) % 32)) (5 + 58 * k + 7 * 1) ((j + 4) % 32)) (5 + 58 * k + 7 * 2) ((j + 16) % 32)) (5 + 58 * k + 7 * 3) ((j + 20) % 32)) (5 + 58 * k + 28 + 6 * 0) (by omega) (M 62 (0 + (j % 16 + 16 * 0)))) rfl ?_
  refine ew_aload_n d_Mo_writeOpening_107 rfl ?_
  refine ew_iload_n d_Mo_writeOpening_108 rfl ?_
  refine ew_iconst (v := nI 1) d_Mo_writeOpening_109 (by decide) ?_
  refine en_iadd d_Mo_writeOpening_110 ?_
  refine en_eq rfl (show _ = [.int (nI 1), .ref 47] from rfl) rfl ?_
  refine ew_iload d_Mo_writeOpening_111 rfl ?_
  refine en_callV (As := [.int (nI 1), .int (nI (j % 16 + 16 * 0))]) (i := 47) (ci := 9) (st := []) (st1 := []) d_Mo_writeOpening_113 k_Mo_writePath rfl rfl tw_799 tw_801 tp_45 rfl (Nat.le_of_ble_eq_true rfl) rfl (Nat.le_of_ble_eq_true rfl) rfl rfl (c_Mo_writePath1 l g _ L M (upd (sp_o1 (fun i => M 61 i) (fun i => M 61 (32 + i)) (fun m => M 63 (0 + m)) (sp_o1 (fun i => M 61 i) (fun i => M 61 (32 + i)) (fun m => M 63 (0 + m)) (sp_o1 (fun i => M 61 i) (fun i => M 61 (32 + i)) (fun m => M 63 (0 + m)) (sp_o1 (fun i => M 61 i) (fun i => M 61 (32 + i)) (fun m => M 63 (0 + m)) f (5 + 58 * k + 7 * 0) ((j + 0) % 32)) (5 + 58 * k + 7 * 1) ((j + 4) % 32)) (5 + 58 * k + 7 * 2) ((j + 16) % 32)) (5 + 58 * k + 7 * 3) ((j + 20) % 32)) (5 + 58 * k + 28 + 6 * 0) (M 62 (0 + (j % 16 + 16 * 0)))) ((5 + 58 * k + 28 + 6 * 0) + 1) (j % 16 + 16 * 0) (by omega) (by omega)) rfl ?_
  refine en_eq (M' := sp_wm M (sp_o2 (fun i => M 62 (0 + i)) (fun m => M 63 (64 + m)) 32 (sp_o1 (fun i => M 61 i) (fun i => M 61 (32 + i)) (fun m => M 63 (0 + m)) (sp_o1 (fun i => M 61 i) (fun i => M 61 (32 + i)) (fun m => M 63 (0 + m)) (sp_o1 (fun i => M 61 i) (fun i => M 61 (32 + i)) (fun m => M 63 (0 + m)) (sp_o1 (fun i => M 61 i) (fun i => M 61 (32 + i)) (fun m => M 63 (0 + m)) f (5 + 58 * k + 7 * 0) ((j + 0) % 32)) (5 + 58 * k + 7 * 1) ((j + 4) % 32)) (5 + 58 * k + 7 * 2) ((j + 16) % 32)) (5 + 58 * k + 7 * 3) ((j + 20) % 32)) (5 + 58 * k + 28 + 6 * 0) (j % 16 + 16 * 0)) (5 + 58 * k + 28 + 6 * 1)) rfl rfl (congrArg (sp_wm M _) (by omega)) ?_
  refine en_inc (ls' := [.ref 47, .int (nI j), .int (nI 0), .int (nI 16), .int (nI 1), .int (nI (j % 16 + 16 * 0))]) d_Mo_writeOpening_116 rfl rfl ?_
  refine ew_goto (tgt := 75) d_Mo_writeOpening_119 (by decide) ?_
  refine ew_iload d_Mo_writeOpening_75 rfl ?_
  refine ew_iconst (v := nI 2) d_Mo_writeOpening_77 (by decide) ?_
  refine en_icmp_ge (tgt := 122) d_Mo_writeOpening_78 (by decide) (by first | with_reducible assumption | with_reducible exact ep_lt _ | with_reducible exact sp_its_lt _ _ _ | with_reducible exact tb_l_rt _ | with_reducible exact tb_l_x _ | with_reducible exact tb_l_o0 _ | with_reducible exact tb_l_o1 _ | with_reducible exact tb_l_va _ | with_reducible exact tb_l_ll _ | with_reducible exact tb_l_cf _ | with_reducible exact tb_l_kf _ | with_reducible exact sp_ts_lt _ _ _ _ | with_reducible exact sp_w_lt _ _ | with_reducible exact sp_cs_lt _ _ _ _ _ | with_reducible exact sp_cb_lt _ _ _ _ _ | with_reducible exact sp_ch_lt _ | with_reducible exact sp_bf_lt _ _ | with_reducible exact sp_va_lt _ _ _ | with_reducible exact sp_be_lt _ _ | with_reducible exact sp_p_lt _ _ _ | with_reducible exact sp_com_lt _ _ _ _ | with_reducible exact sp_fo_lt _ _ _ _ _ | omega) (by first | with_reducible assumption | with_reducible exact ep_lt _ | with_reducible exact sp_its_lt _ _ _ | with_reducible exact tb_l_rt _ | with_reducible exact tb_l_x _ | with_reducible exact tb_l_o0 _ | with_reducible exact tb_l_o1 _ | with_reducible exact tb_l_va _ | with_reducible exact tb_l_ll _ | with_reducible exact tb_l_cf _ | with_reducible exact tb_l_kf _ | with_reducible exact sp_ts_lt _ _ _ _ | with_reducible exact sp_w_lt _ _ | with_reducible exact sp_cs_lt _ _ _ _ _ | with_reducible exact sp_cb_lt _ _ _ _ _ | with_reducible exact sp_ch_lt _ | with_reducible exact sp_bf_lt _ _ | with_reducible exact sp_va_lt _ _ _ | with_reducible exact sp_be_lt _ _ | with_reducible exact sp_p_lt _ _ _ | with_reducible exact sp_com_lt _ _ _ _ | with_reducible exact sp_fo_lt _ _ _ _ _ | omega) (fun h78 => by exact absurd h78 (by decide)) (fun h78 => ?_)
  refine ew_iload_n d_Mo_writeOpening_81 rfl ?_
  refine ew_iload_n d_Mo_writeOpening_82 rfl ?_
  refine en_irem d_Mo_writeOpening_83 (by omega) (by decide) (by decide) ?_
  refine ew_iload d_Mo_writeOpening_84 rfl ?_
  refine ew_iload_n d_Mo_writeOpening_86 rfl ?_
  refine en_imul d_Mo_writeOpening_87 ?_
  refine en_eq rfl (show _ = [.int (nI 16), .int (nI (j % 16))] from rfl) rfl ?_
  refine en_iadd d_Mo_writeOpening_88 ?_
  refine en_eq (st' := [.int (nI (j % 16 + 16 * 1))]) rfl (by rw [show (nI ((j % 16) + 16)) = (nI (j % 16 + 16 * 1)) from rfl]) rfl ?_
  refine en_istore (ls' := [.ref 47, .int (nI j), .int (nI 0), .int (nI 16), .int (nI 1), .int (nI (j % 16 + 16 * 1))]) d_Mo_writeOpening_89 (Nat.le_of_ble_eq_true rfl) rfl ?_
  refine ew_aload_n d_Mo_writeOpening_91 rfl ?_
  refine ew_aload_n d_Mo_writeOpening_92 rfl ?_
  refine ew_getr (ci := 9) (f := 21) d_Mo_writeOpening_93 rfl rfl rfl tw_612 ?_
  refine ew_iload_n d_Mo_writeOpening_96 rfl ?_
  refine en_callS (As := [.int (nI 0)]) (st := [.ref 62, .ref 47]) (st1 := [.int (nI 0), .ref 62, .ref 47]) d_Mo_writeOpening_97 k_Mo_layerFrom tw_767 tw_768 rfl (Nat.le_of_ble_eq_true rfl) rfl (Nat.le_of_ble_eq_true rfl) rfl rfl (c_Mo_layerFrom0 l g _ L (sp_wm M (sp_o2 (fun i => M 62 (0 + i)) (fun m => M 63 (64 + m)) 32 (sp_o1 (fun i => M 61 i) (fun i => M 61 (32 + i)) (fun m => M 63 (0 + m)) (sp_o1 (fun i => M 61 i) (fun i => M 61 (32 + i)) (fun m => M 63 (0 + m)) (sp_o1 (fun i => M 61 i) (fun i => M 61 (32 + i)) (fun m => M 63 (0 + m)) (sp_o1 (fun i => M 61 i) (fun i => M 61 (32 + i)) (fun m => M 63 (0 + m)) f (5 + 58 * k + 7 * 0) ((j + 0) % 32)) (5 + 58 * k + 7 * 1) ((j + 4) % 32)) (5 + 58 * k + 7 * 2) ((j + 16) % 32)) (5 + 58 * k + 7 * 3) ((j + 20) % 32)) (5 + 58 * k + 28 + 6 * 0) (j % 16 + 16 * 0)) (5 + 58 * k + 28 + 6 * 1))) rfl ?_
  refine ew_iload d_Mo_writeOpening_100 rfl ?_
  refine en_iadd d_Mo_writeOpening_102 ?_
  refine ew_iald (j := 0 + (j % 16 + 16 * 1)) d_Mo_writeOpening_103 rfl (rfl) (by omega) (by decide) ?_
  refine en_eq (st' := [.int (M 62 (0 + (j % 16 + 16 * 1))), .ref 47]) rfl (by rw [show ((sp_wm M (sp_o2 (fun i => M 62 (0 + i)) (fun m => M 63 (64 + m)) 32 (sp_o1 (fun i => M 61 i) (fun i => M 61 (32 + i)) (fun m => M 63 (0 + m)) (sp_o1 (fun i => M 61 i) (fun i => M 61 (32 + i)) (fun m => M 63 (0 + m)) (sp_o1 (fun i => M 61 i) (fun i => M 61 (32 + i)) (fun m => M 63 (0 + m)) (sp_o1 (fun i => M 61 i) (fun i => M 61 (32 + i)) (fun m => M 63 (0 + m)) f (5 + 58 * k + 7 * 0) ((j + 0) % 32)) (5 + 58 * k + 7 * 1) ((j + 4) % 32)) (5 + 58 * k + 7 * 2) ((j + 16) % 32)) (5 + 58 * k + 7 * 3) ((j + 20) % 32)) (5 + 58 * k + 28 + 6 * 0) (j % 16 + 16 * 0)) (5 + 58 * k + 28 + 6 * 1)) 62 (0 + (j % 16 + 16 * 1))) = (M 62 (0 + (j % 16 + 16 * 1))) from by rw [sp_wm_ne (by decide) (by decide)]]) rfl ?_
  refine en_callV (As := [.int (M 62 (0 + (j % 16 + 16 * 1)))]) (i := 47) (ci := 9) (st := []) (st1 := []) d_Mo_writeOpening_104 k_Mo_write rfl rfl tw_795 tw_797 tp_44 rfl (Nat.le_of_ble_eq_true rfl) rfl (Nat.le_of_ble_eq_true rfl) rfl rfl (c_Mo_writew l g _ L M (sp_o2 (fun i => M 62 (0 + i)) (fun m => M 63 (64 + m)) 32 (sp_o1 (fun i => M 61 i) (fun i => M 61 (32 + i)) (fun m => M 63 (0 + m)) (sp_o1 (fun i => M 61 i) (fun i => M 61 (32 + i)) (fun m => M 63 (0 + m)) (sp_o1 (fun i => M 61 i) (fun i => M 61 (32 + i)) (fun m => M 63 (0 + m)) (sp_o1 (fun i => M 61 i) (fun i => M 61 (32 + i)) (fun m => M 63 (0 + m)) f (5 + 58 * k + 7 * 0) ((j + 0) % 32)) (5 + 58 * k + 7 * 1) ((j + 4) % 32)) (5 + 58 * k + 7 * 2) ((j + 16) % 32)) (5 + 58 * k + 7 * 3) ((j + 20) % 32)) (5 + 58 * k + 28 + 6 * 0) (j % 16 + 16 * 0)) (5 + 58 * k + 28 + 6 * 1) (by omega) (M 62 (0 + (j % 16 + 16 * 1)))) rfl ?_
  refine ew_aload_n d_Mo_writeOpening_107 rfl ?_
  refine ew_iload_n d_Mo_writeOpening_108 rfl ?_
  refine ew_iconst (v := nI 1) d_Mo_writeOpening_109 (by decide) ?_
  refine en_iadd d_Mo_writeOpening_110 ?_
  refine en_eq rfl (show _ = [.int (nI 1), .ref 47] from rfl) rfl ?_
  refine ew_iload d_Mo_writeOpening_111 rfl ?_
  refine en_callV (As := [.int (nI 1), .int (nI (j % 16 + 16 * 1))]) (i := 47) (ci := 9) (st := []) (st1 := []) d_Mo_writeOpening_113 k_Mo_writePath rfl rfl tw_799 tw_801 tp_45 rfl (Nat.le_of_ble_eq_true rfl) rfl (Nat.le_of_ble_eq_true rfl) rfl rfl (c_Mo_writePath1 l g _ L M (upd (sp_o2 (fun i => M 62 (0 + i)) (fun m => M 63 (64 + m)) 32 (sp_o1 (fun i => M 61 i) (fun i => M 61 (32 + i)) (fun m => M 63 (0 + m)) (sp_o1 (fun i => M 61 i) (fun i => M 61 (32 + i)) (fun m => M 63 (0 + m)) (sp_o1 (fun i => M 61 i) (fun i => M 61 (32 + i)) (fun m => M 63 (0 + m)) (sp_o1 (fun i => M 61 i) (fun i => M 61 (32 + i)) (fun m => M 63 (0 + m)) f (5 + 58 * k + 7 * 0) ((j + 0) % 32)) (5 + 58 * k + 7 * 1) ((j + 4) % 32)) (5 + 58 * k + 7 * 2) ((j + 16) % 32)) (5 + 58 * k + 7 * 3) ((j + 20) % 32)) (5 + 58 * k + 28 + 6 * 0) (j % 16 + 16 * 0)) (5 + 58 * k + 28 + 6 * 1) (M 62 (0 + (j % 16 + 16 * 1)))) ((5 + 58 * k + 28 + 6 * 1) + 1) (j % 16 + 16 * 1) (by omega) (by omega)) rfl ?_
  refine en_eq (M' := sp_wm M (sp_o2 (fun i => M 62 (0 + i)) (fun m => M 63 (64 + m)) 32 (sp_o2 (fun i => M 62 (0 + i)) (fun m => M 63 (64 + m)) 32 (sp_o1 (fun i => M 61 i) (fun i => M 61 (32 + i)) (fun m => M 63 (0 + m)) (sp_o1 (fun i => M 61 i) (fun i => M 61 (32 + i)) (fun m => M 63 (0 + m)) (sp_o1 (fun i => M 61 i) (fun i => M 61 (32 + i)) (fun m => M 63 (0 + m)) (sp_o1 (fun i => M 61 i) (fun i => M 61 (32 + i)) (fun m => M 63 (0 + m)) f (5 + 58 * k + 7 * 0) ((j + 0) % 32)) (5 + 58 * k + 7 * 1) ((j + 4) % 32)) (5 + 58 * k + 7 * 2) ((j + 16) % 32)) (5 + 58 * k + 7 * 3) ((j + 20) % 32)) (5 + 58 * k + 28 + 6 * 0) (j % 16 + 16 * 0)) (5 + 58 * k + 28 + 6 * 1) (j % 16 + 16 * 1)) (5 + 58 * k + 40 + 5 * 0)) rfl rfl (congrArg (sp_wm M _) (by omega)) ?_
  refine en_inc (ls' := [.ref 47, .int (nI j), .int (nI 0), .int (nI 16), .int (nI 2), .int (nI (j % 16 + 16 * 1))]) d_Mo_writeOpening_116 rfl rfl ?_
  refine ew_goto (tgt := 75) d_Mo_writeOpening_119 (by decide) ?_
  refine ew_iload d_Mo_writeOpening_75 rfl ?_
  refine ew_iconst (v := nI 2) d_Mo_writeOpening_77 (by decide) ?_
  refine en_icmp_ge (tgt := 122) d_Mo_writeOpening_78 (by decide) (by first | with_reducible assumption | with_reducible exact ep_lt _ | with_reducible exact sp_its_lt _ _ _ | with_reducible exact tb_l_rt _ | with_reducible exact tb_l_x _ | with_reducible exact tb_l_o0 _ | with_reducible exact tb_l_o1 _ | with_reducible exact tb_l_va _ | with_reducible exact tb_l_ll _ | with_reducible exact tb_l_cf _ | with_reducible exact tb_l_kf _ | with_reducible exact sp_ts_lt _ _ _ _ | with_reducible exact sp_w_lt _ _ | with_reducible exact sp_cs_lt _ _ _ _ _ | with_reducible exact sp_cb_lt _ _ _ _ _ | with_reducible exact sp_ch_lt _ | with_reducible exact sp_bf_lt _ _ | with_reducible exact sp_va_lt _ _ _ | with_reducible exact sp_be_lt _ _ | with_reducible exact sp_p_lt _ _ _ | with_reducible exact sp_com_lt _ _ _ _ | with_reducible exact sp_fo_lt _ _ _ _ _ | omega) (by first | with_reducible assumption | with_reducible exact ep_lt _ | with_reducible exact sp_its_lt _ _ _ | with_reducible exact tb_l_rt _ | with_reducible exact tb_l_x _ | with_reducible exact tb_l_o0 _ | with_reducible exact tb_l_o1 _ | with_reducible exact tb_l_va _ | with_reducible exact tb_l_ll _ | with_reducible exact tb_l_cf _ | with_reducible exact tb_l_kf _ | with_reducible exact sp_ts_lt _ _ _ _ | with_reducible exact sp_w_lt _ _ | with_reducible exact sp_cs_lt _ _ _ _ _ | with_reducible exact sp_cb_lt _ _ _ _ _ | with_reducible exact sp_ch_lt _ | with_reducible exact sp_bf_lt _ _ | with_reducible exact sp_va_lt _ _ _ | with_reducible exact sp_be_lt _ _ | with_reducible exact sp_p_lt _ _ _ | with_reducible exact sp_com_lt _ _ _ _ | with_reducible exact sp_fo_lt _ _ _ _ _ | omega) (fun h78 => ?_) (fun h78 => by exact absurd h78 (by decide))
  refine en_inc (ls' := [.ref 47, .int (nI j), .int (nI 1), .int (nI 16), .int (nI 2), .int (nI (j % 16 + 16 * 1))]) d_Mo_writeOpening_122 rfl rfl ?_
  refine ew_goto (tgt := 62) d_Mo_writeOpening_125 (by decide) ?_
  refine ew_iload_n d_Mo_writeOpening_62 rfl ?_
  refine ew_iconst (v := nI 3) d_Mo_writeOpening_63 (by decide) ?_
  refine en_icmp_ge (tgt := 128) d_Mo_writeOpening_64 (by decide) (by first | with_reducible assumption | with_reducible exact ep_lt _ | with_reducible exact sp_its_lt _ _ _ | with_reducible exact tb_l_rt _ | with_reducible exact tb_l_x _ | with_reducible exact tb_l_o0 _ | with_reducible exact tb_l_o1 _ | with_reducible exact tb_l_va _ | with_reducible exact tb_l_ll _ | with_reducible exact tb_l_cf _ | with_reducible exact tb_l_kf _ | with_reducible exact sp_ts_lt _ _ _ _ | with_reducible exact sp_w_lt _ _ | with_reducible exact sp_cs_lt _ _ _ _ _ | with_reducible exact sp_cb_lt _ _ _ _ _ | with_reducible exact sp_ch_lt _ | with_reducible exact sp_bf_lt _ _ | with_reducible exact sp_va_lt _ _ _ | with_reducible exact sp_be_lt _ _ | with_reducible exact sp_p_lt _ _ _ | with_reducible exact sp_com_lt _ _ _ _ | with_reducible exact sp_fo_lt _ _ _ _ _ | omega) (by first | with_reducible assumption | with_reducible exact ep_lt _ | with_reducible exact sp_its_lt _ _ _ | with_reducible exact tb_l_rt _ | with_reducible exact tb_l_x _ | with_reducible exact tb_l_o0 _ | with_reducible exact tb_l_o1 _ | with_reducible exact tb_l_va _ | with_reducible exact tb_l_ll _ | with_reducible exact tb_l_cf _ | with_reducible exact tb_l_kf _ | with_reducible exact sp_ts_lt _ _ _ _ | with_reducible exact sp_w_lt _ _ | with_reducible exact sp_cs_lt _ _ _ _ _ | with_reducible exact sp_cb_lt _ _ _ _ _ | with_reducible exact sp_ch_lt _ | with_reducible exact sp_bf_lt _ _ | with_reducible exact sp_va_lt _ _ _ | with_reducible exact sp_be_lt _ _ | with_reducible exact sp_p_lt _ _ _ | with_reducible exact sp_com_lt _ _ _ _ | with_reducible exact sp_fo_lt _ _ _ _ _ | omega) (fun h64 => by exact absurd h64 (by decide)) (fun h64 => ?_)
  refine ew_bipush (v := nI 16) d_Mo_writeOpening_67 (by decide) ?_
  refine ew_iload_n d_Mo_writeOpening_69 rfl ?_
  refine ew_ishr d_Mo_writeOpening_70 ?_
  refine en_eq (st' := [.int (nI 8)]) rfl (by rw [show ((nI 16) >>> ((nI 1) &&& 31)) = (nI 8) from by decide]) rfl ?_
  refine en_istore_n (ls' := [.ref 47, .int (nI j), .int (nI 1), .int (nI 8), .int (nI 2), .int (nI (j % 16 + 16 * 1))]) d_Mo_writeOpening_71 (Nat.le_of_ble_eq_true rfl) rfl ?_
  refine ew_iconst (v := nI 0) d_Mo_writeOpening_72 (by decide) ?_
  refine en_istore (ls' := [.ref 47, .int (nI j), .int (nI 1), .int (nI 8), .int (nI 0), .int (nI (j % 16 + 16 * 1))]) d_Mo_writeOpening_73 (Nat.le_of_ble_eq_true rfl) rfl ?_
  refine ew_iload d_Mo_writeOpening_75 rfl ?_
  refine ew_iconst (v := nI 2) d_Mo_writeOpening_77 (by decide) ?_
  refine en_icmp_ge (tgt := 122) d_Mo_writeOpening_78 (by decide) (by first | with_reducible assumption | with_reducible exact ep_lt _ | with_reducible exact sp_its_lt _ _ _ | with_reducible exact tb_l_rt _ | with_reducible exact tb_l_x _ | with_reducible exact tb_l_o0 _ | with_reducible exact tb_l_o1 _ | with_reducible exact tb_l_va _ | with_reducible exact tb_l_ll _ | with_reducible exact tb_l_cf _ | with_reducible exact tb_l_kf _ | with_reducible exact sp_ts_lt _ _ _ _ | with_reducible exact sp_w_lt _ _ | with_reducible exact sp_cs_lt _ _ _ _ _ | with_reducible exact sp_cb_lt _ _ _ _ _ | with_reducible exact sp_ch_lt _ | with_reducible exact sp_bf_lt _ _ | with_reducible exact sp_va_lt _ _ _ | with_reducible exact sp_be_lt _ _ | with_reducible exact sp_p_lt _ _ _ | with_reducible exact sp_com_lt _ _ _ _ | with_reducible exact sp_fo_lt _ _ _ _ _ | omega) (by first | with_reducible assumption | with_reducible exact ep_lt _ | with_reducible exact sp_its_lt _ _ _ | with_reducible exact tb_l_rt _ | with_reducible exact tb_l_x _ | with_reducible exact tb_l_o0 _ | with_reducible exact tb_l_o1 _ | with_reducible exact tb_l_va _ | with_reducible exact tb_l_ll _ | with_reducible exact tb_l_cf _ | with_reducible exact tb_l_kf _ | with_reducible exact sp_ts_lt _ _ _ _ | with_reducible exact sp_w_lt _ _ | with_reducible exact sp_cs_lt _ _ _ _ _ | with_reducible exact sp_cb_lt _ _ _ _ _ | with_reducible exact sp_ch_lt _ | with_reducible exact sp_bf_lt _ _ | with_reducible exact sp_va_lt _ _ _ | with_reducible exact sp_be_lt _ _ | with_reducible exact sp_p_lt _ _ _ | with_reducible exact sp_com_lt _ _ _ _ | with_reducible exact sp_fo_lt _ _ _ _ _ | omega) (fun h78 => by exact absurd h78 (by decide)) (fun h78 => ?_)
  refine ew_iload_n d_Mo_writeOpening_81 rfl ?_
  refine ew_iload_n d_Mo_writeOpening_82 rfl ?_
  refine en_irem d_Mo_writeOpening_83 (by omega) (by decide) (by decide) ?_
  refine ew_iload d_Mo_writeOpening_84 rfl ?_
  refine ew_iload_n d_Mo_writeOpening_86 rfl ?_
  refine en_imul d_Mo_writeOpening_87 ?_
  refine en_eq rfl (show _ = [.int (nI 0), .int (nI (j % 8))] from rfl) rfl ?_
  refine en_iadd d_Mo_writeOpening_88 ?_
  refine en_eq (st' := [.int (nI (j % 8 + 8 * 0))]) rfl (by rw [show (nI ((j % 8) + 0)) = (nI (j % 8 + 8 * 0)) from rfl]) rfl ?_
  refine en_istore (ls' := [.ref 47, .int (nI j), .int (nI 1), .int (nI 8), .int (nI 0), .int (nI (j % 8 + 8 * 0))]) d_Mo_writeOpening_89 (Nat.le_of_ble_eq_true rfl) rfl ?_
  refine ew_aload_n d_Mo_writeOpening_91 rfl ?_
  refine ew_aload_n d_Mo_writeOpening_92 rfl ?_
  refine ew_getr (ci := 9) (f := 21) d_Mo_writeOpening_93 rfl rfl rfl tw_612 ?_
  refine ew_iload_n d_Mo_writeOpening_96 rfl ?_
  refine en_callS (As := [.int (nI 1)]) (st := [.ref 62, .ref 47]) (st1 := [.int (nI 32), .ref 62, .ref 47]) d_Mo_writeOpening_97 k_Mo_layerFrom tw_767 tw_768 rfl (Nat.le_of_ble_eq_true rfl) rfl (Nat.le_of_ble_eq_true rfl) rfl rfl (c_Mo_layerFrom1 l g _ L (sp_wm M (sp_o2 (fun i => M 62 (0 + i)) (fun m => M 63 (64 + m)) 32 (sp_o2 (fun i => M 62 (0 + i)) (fun m => M 63 (64 + m)) 32 (sp_o1 (fun i => M 61 i) (fun i => M 61 (32 + i)) (fun m => M 63 (0 + m)) (sp_o1 (fun i => M 61 i) (fun i => M 61 (32 + i)) (fun m => M 63 (0 + m)) (sp_o1 (fun i => M 61 i) (fun i => M 61 (32 + i)) (fun m => M 63 (0 + m)) (sp_o1 (fun i => M 61 i) (fun i => M 61 (32 + i)) (fun m => M 63 (0 + m)) f (5 + 58 * k + 7 * 0) ((j + 0) % 32)) (5 + 58 * k + 7 * 1) ((j + 4) % 32)) (5 + 58 * k + 7 * 2) ((j + 16) % 32)) (5 + 58 * k + 7 * 3) ((j + 20) % 32)) (5 + 58 * k + 28 + 6 * 0) (j % 16 + 16 * 0)) (5 + 58 * k + 28 + 6 * 1) (j % 16 + 16 * 1)) (5 + 58 * k + 40 + 5 * 0))) rfl ?_
  refine ew_iload d_Mo_writeOpening_100 rfl ?_
  refine en_iadd d_Mo_writeOpening_102 ?_
  refine ew_iald (j := 32 + (j % 8 + 8 * 0)) d_Mo_writeOpening_103 rfl (rfl) (by omega) (by decide) ?_
  refine en_eq (st' := [.int (M 62 (32 + (j % 8 + 8 * 0))), .ref 47]) rfl (by rw [show ((sp_wm M (sp_o2 (fun i => M 62 (0 + i)) (fun m => M 63 (64 + m)) 32 (sp_o2 (fun i => M 62 (0 + i)) (fun m => M 63 (64 + m)) 32 (sp_o1 (fun i => M 61 i) (fun i => M 61 (32 + i)) (fun m => M 63 (0 + m)) (sp_o1 (fun i => M 61 i) (fun i => M 61 (32 + i)) (fun m => M 63 (0 + m)) (sp_o1 (fun i => M 61 i) (fun i => M 61 (32 + i)) (fun m => M 63 (0 + m)) (sp_o1 (fun i => M 61 i) (fun i => M 61 (32 + i)) (fun m => M 63 (0 + m)) f (5 + 58 * k + 7 * 0) ((j + 0) % 32)) (5 + 58 * k + 7 * 1) ((j + 4) % 32)) (5 + 58 * k + 7 * 2) ((j + 16) % 32)) (5 + 58 * k + 7 * 3) ((j + 20) % 32)) (5 + 58 * k + 28 + 6 * 0) (j % 16 + 16 * 0)) (5 + 58 * k + 28 + 6 * 1) (j % 16 + 16 * 1)) (5 + 58 * k + 40 + 5 * 0)) 62 (32 + (j % 8 + 8 * 0))) = (M 62 (32 + (j % 8 + 8 * 0))) from by rw [sp_wm_ne (by decide) (by decide)]]) rfl ?_
  refine en_callV (As := [.int (M 62 (32 + (j % 8 + 8 * 0)))]) (i := 47) (ci := 9) (st := []) (st1 := []) d_Mo_writeOpening_104 k_Mo_write rfl rfl tw_795 tw_797 tp_44 rfl (Nat.le_of_ble_eq_true rfl) rfl (Nat.le_of_ble_eq_true rfl) rfl rfl (c_Mo_writew l g _ L M (sp_o2 (fun i => M 62 (0 + i)) (fun m => M 63 (64 + m)) 32 (sp_o2 (fun i => M 62 (0 + i)) (fun m => M 63 (64 + m)) 32 (sp_o1 (fun i => M 61 i) (fun i => M 61 (32 + i)) (fun m => M 63 (0 + m)) (sp_o1 (fun i => M 61 i) (fun i => M 61 (32 + i)) (fun m => M 63 (0 + m)) (sp_o1 (fun i => M 61 i) (fun i => M 61 (32 + i)) (fun m => M 63 (0 + m)) (sp_o1 (fun i => M 61 i) (fun i => M 61 (32 + i)) (fun m => M 63 (0 + m)) f (5 + 58 * k + 7 * 0) ((j + 0) % 32)) (5 + 58 * k + 7 * 1) ((j + 4) % 32)) (5 + 58 * k + 7 * 2) ((j + 16) % 32)) (5 + 58 * k + 7 * 3) ((j + 20) % 32)) (5 + 58 * k + 28 + 6 * 0) (j % 16 + 16 * 0)) (5 + 58 * k + 28 + 6 * 1) (j % 16 + 16 * 1)) (5 + 58 * k + 40 + 5 * 0) (by omega) (M 62 (32 + (j % 8 + 8 * 0)))) rfl ?_
  refine ew_aload_n d_Mo_writeOpening_107 rfl ?_
  refine ew_iload_n d_Mo_writeOpening_108 rfl ?_
  refine ew_iconst (v := nI 1) d_Mo_writeOpening_109 (by decide) ?_
  refine en_iadd d_Mo_writeOpening_110 ?_
  refine en_eq rfl (show _ = [.int (nI 2), .ref 47] from rfl) rfl ?_
  refine ew_iload d_Mo_writeOpening_111 rfl ?_
  refine en_callV (As := [.int (nI 2), .int (nI (j % 8 + 8 * 0))]) (i := 47) (ci := 9) (st := []) (st1 := []) d_Mo_writeOpening_113 k_Mo_writePath rfl rfl tw_799 tw_801 tp_45 rfl (Nat.le_of_ble_eq_true rfl) rfl (Nat.le_of_ble_eq_true rfl) rfl rfl (c_Mo_writePath2 l g _ L M (upd (sp_o2 (fun i => M 62 (0 + i)) (fun m => M 63 (64 + m)) 32 (sp_o2 (fun i => M 62 (0 + i)) (fun m => M 63 (64 + m)) 32 (sp_o1 (fun i => M 61 i) (fun i => M 61 (32 + i)) (fun m => M 63 (0 + m)) (sp_o1 (fun i => M 61 i) (fun i => M 61 (32 + i)) (fun m => M 63 (0 + m)) (sp_o1 (fun i => M 61 i) (fun i => M 61 (32 + i)) (fun m => M 63 (0 + m)) (sp_o1 (fun i => M 61 i) (fun i => M 61 (32 + i)) (fun m => M 63 (0 + m)) f (5 + 58 * k + 7 * 0) ((j + 0) % 32)) (5 + 58 * k + 7 * 1) ((j + 4) % 32)) (5 + 58 * k + 7 * 2) ((j + 16) % 32)) (5 + 58 * k + 7 * 3) ((j + 20) % 32)) (5 + 58 * k + 28 + 6 * 0) (j % 16 + 16 * 0)) (5 + 58 * k + 28 + 6 * 1) (j % 16 + 16 * 1)) (5 + 58 * k + 40 + 5 * 0) (M 62 (32 + (j % 8 + 8 * 0)))) ((5 + 58 * k + 40 + 5 * 0) + 1) (j % 8 + 8 * 0) (by omega) (by omega)) rfl ?_
  refine en_eq (M' := sp_wm M (sp_o2 (fun i => M 62 (32 + i)) (fun m => M 63 (128 + m)) 16 (sp_o2 (fun i => M 62 (0 + i)) (fun m => M 63 (64 + m)) 32 (sp_o2 (fun i => M 62 (0 + i)) (fun m => M 63 (64 + m)) 32 (sp_o1 (fun i => M 61 i) (fun i => M 61 (32 + i)) (fun m => M 63 (0 + m)) (sp_o1 (fun i => M 61 i) (fun i => M 61 (32 + i)) (fun m => M 63 (0 + m)) (sp_o1 (fun i => M 61 i) (fun i => M 61 (32 + i)) (fun m => M 63 (0 + m)) (sp_o1 (fun i => M 61 i) (fun i => M 61 (32 + i)) (fun m => M 63 (0 + m)) f (5 + 58 * k + 7 * 0) ((j + 0) % 32)) (5 + 58 * k + 7 * 1) ((j + 4) % 32)) (5 + 58 * k + 7 * 2) ((j + 16) % 32)) (5 + 58 * k + 7 * 3) ((j + 20) % 32)) (5 + 58 * k + 28 + 6 * 0) (j % 16 + 16 * 0)) (5 + 58 * k + 28 + 6 * 1) (j % 16 + 16 * 1)) (5 + 58 * k + 40 + 5 * 0) (j % 8 + 8 * 0)) (5 + 58 * k + 40 + 5 * 1)) rfl rfl (congrArg (sp_wm M _) (by omega)) ?_
  refine en_inc (ls' := [.ref 47, .int (nI j), .int (nI 1), .int (nI 8), .int (nI 1), .int (nI (j % 8 + 8 * 0))]) d_Mo_writeOpening_116 rfl rfl ?_
  refine ew_goto (tgt := 75) d_Mo_writeOpening_119 (by decide) ?_
  refine ew_iload d_Mo_writeOpening_75 rfl ?_
  refine ew_iconst (v := nI 2) d_Mo_writeOpening_77 (by decide) ?_
  refine en_icmp_ge (tgt := 122) d_Mo_writeOpening_78 (by decide) (by first | with_reducible assumption | with_reducible exact ep_lt _ | with_reducible exact sp_its_lt _ _ _ | with_reducible exact tb_l_rt _ | with_reducible exact tb_l_x _ | with_reducible exact tb_l_o0 _ | with_reducible exact tb_l_o1 _ | with_reducible exact tb_l_va _ | with_reducible exact tb_l_ll _ | with_reducible exact tb_l_cf _ | with_reducible exact tb_l_kf _ | with_reducible exact sp_ts_lt _ _ _ _ | with_reducible exact sp_w_lt _ _ | with_reducible exact sp_cs_lt _ _ _ _ _ | with_reducible exact sp_cb_lt _ _ _ _ _ | with_reducible exact sp_ch_lt _ | with_reducible exact sp_bf_lt _ _ | with_reducible exact sp_va_lt _ _ _ | with_reducible exact sp_be_lt _ _ | with_reducible exact sp_p_lt _ _ _ | with_reducible exact sp_com_lt _ _ _ _ | with_reducible exact sp_fo_lt _ _ _ _ _ | omega) (by first | with_reducible assumption | with_reducible exact ep_lt _ | with_reducible exact sp_its_lt _ _ _ | with_reducible exact tb_l_rt _ | with_reducible exact tb_l_x _ | with_reducible exact tb_l_o0 _ | with_reducible exact tb_l_o1 _ | with_reducible exact tb_l_va _ | with_reducible exact tb_l_ll _ | with_reducible exact tb_l_cf _ | with_reducible exact tb_l_kf _ | with_reducible exact sp_ts_lt _ _ _ _ | with_reducible exact sp_w_lt _ _ | with_reducible exact sp_cs_lt _ _ _ _ _ | with_reducible exact sp_cb_lt _ _ _ _ _ | with_reducible exact sp_ch_lt _ | with_reducible exact sp_bf_lt _ _ | with_reducible exact sp_va_lt _ _ _ | with_reducible exact sp_be_lt _ _ | with_reducible exact sp_p_lt _ _ _ | with_reducible exact sp_com_lt _ _ _ _ | with_reducible exact sp_fo_lt _ _ _ _ _ | omega) (fun h78 => by exact absurd h78 (by decide)) (fun h78 => ?_)
  refine ew_iload_n d_Mo_writeOpening_81 rfl ?_
  refine ew_iload_n d_Mo_writeOpening_82 rfl ?_
  refine en_irem d_Mo_writeOpening_83 (by omega) (by decide) (by decide) ?_
  refine ew_iload d_Mo_writeOpening_84 rfl ?_
  refine ew_iload_n d_Mo_writeOpening_86 rfl ?_
  refine en_imul d_Mo_writeOpening_87 ?_
  refine en_eq rfl (show _ = [.int (nI 8), .int (nI (j % 8))] from rfl) rfl ?_
  refine en_iadd d_Mo_writeOpening_88 ?_
  refine en_eq (st' := [.int (nI (j % 8 + 8 * 1))]) rfl (by rw [show (nI ((j % 8) + 8)) = (nI (j % 8 + 8 * 1)) from rfl]) rfl ?_
  refine en_istore (ls' := [.ref 47, .int (nI j), .int (nI 1), .int (nI 8), .int (nI 1), .int (nI (j % 8 + 8 * 1))]) d_Mo_writeOpening_89 (Nat.le_of_ble_eq_true rfl) rfl ?_
  refine ew_aload_n d_Mo_writeOpening_91 rfl ?_
  refine ew_aload_n d_Mo_writeOpening_92 rfl ?_
  refine ew_getr (ci := 9) (f := 21) d_Mo_writeOpening_93 rfl rfl rfl tw_612 ?_
  refine ew_iload_n d_Mo_writeOpening_96 rfl ?_
  refine en_callS (As := [.int (nI 1)]) (st := [.ref 62, .ref 47]) (st1 := [.int (nI 32), .ref 62, .ref 47]) d_Mo_writeOpening_97 k_Mo_layerFrom tw_767 tw_768 rfl (Nat.le_of_ble_eq_true rfl) rfl (Nat.le_of_ble_eq_true rfl) rfl rfl (c_Mo_layerFrom1 l g _ L (sp_wm M (sp_o2 (fun i => M 62 (32 + i)) (fun m => M 63 (128 + m)) 16 (sp_o2 (fun i => M 62 (0 + i)) (fun m => M 63 (64 + m)) 32 (sp_o2 (fun i => M 62 (0 + i)) (fun m => M 63 (64 + m)) 32 (sp_o1 (fun i => M 61 i) (fun i => M 61 (32 + i)) (fun m => M 63 (0 + m)) (sp_o1 (fun i => M 61 i) (fun i => M 61 (32 + i)) (fun m => M 63 (0 + m)) (sp_o1 (fun i => M 61 i) (fun i => M 61 (32 + i)) (fun m => M 63 (0 + m)) (sp_o1 (fun i => M 61 i) (fun i => M 61 (32 + i)) (fun m => M 63 (0 + m)) f (5 + 58 * k + 7 * 0) ((j + 0) % 32)) (5 + 58 * k + 7 * 1) ((j + 4) % 32)) (5 + 58 * k + 7 * 2) ((j + 16) % 32)) (5 + 58 * k + 7 * 3) ((j + 20) % 32)) (5 + 58 * k + 28 + 6 * 0) (j % 16 + 16 * 0)) (5 + 58 * k + 28 + 6 * 1) (j % 16 + 16 * 1)) (5 + 58 * k + 40 + 5 * 0) (j % 8 + 8 * 0)) (5 + 58 * k + 40 + 5 * 1))) rfl ?_
  refine ew_iload d_Mo_writeOpening_100 rfl ?_
  refine en_iadd d_Mo_writeOpening_102 ?_
  refine ew_iald (j := 32 + (j % 8 + 8 * 1)) d_Mo_writeOpening_103 rfl (rfl) (by omega) (by decide) ?_
  refine en_eq (st' := [.int (M 62 (32 + (j % 8 + 8 * 1))), .ref 47]) rfl (by rw [show ((sp_wm M (sp_o2 (fun i => M 62 (32 + i)) (fun m => M 63 (128 + m)) 16 (sp_o2 (fun i => M 62 (0 + i)) (fun m => M 63 (64 + m)) 32 (sp_o2 (fun i => M 62 (0 + i)) (fun m => M 63 (64 + m)) 32 (sp_o1 (fun i => M 61 i) (fun i => M 61 (32 + i)) (fun m => M 63 (0 + m)) (sp_o1 (fun i => M 61 i) (fun i => M 61 (32 + i)) (fun m => M 63 (0 + m)) (sp_o1 (fun i => M 61 i) (fun i => M 61 (32 + i)) (fun m => M 63 (0 + m)) (sp_o1 (fun i => M 61 i) (fun i => M 61 (32 + i)) (fun m => M 63 (0 + m)) f (5 + 58 * k + 7 * 0) ((j + 0) % 32)) (5 + 58 * k + 7 * 1) ((j + 4) % 32)) (5 + 58 * k + 7 * 2) ((j + 16) % 32)) (5 + 58 * k + 7 * 3) ((j + 20) % 32)) (5 + 58 * k + 28 + 6 * 0) (j % 16 + 16 * 0)) (5 + 58 * k + 28 + 6 * 1) (j % 16 + 16 * 1)) (5 + 58 * k + 40 + 5 * 0) (j % 8 + 8 * 0)) (5 + 58 * k + 40 + 5 * 1)) 62 (32 + (j % 8 + 8 * 1))) = (M 62 (32 + (j % 8 + 8 * 1))) from by rw [sp_wm_ne (by decide) (by decide)]]) rfl ?_
  refine en_callV (As := [.int (M 62 (32 + (j % 8 + 8 * 1)))]) (i := 47) (ci := 9) (st := []) (st1 := []) d_Mo_writeOpening_104 k_Mo_write rfl rfl tw_795 tw_797 tp_44 rfl (Nat.le_of_ble_eq_true rfl) rfl (Nat.le_of_ble_eq_true rfl) rfl rfl (c_Mo_writew l g _ L M (sp_o2 (fun i => M 62 (32 + i)) (fun m => M 63 (128 + m)) 16 (sp_o2 (fun i => M 62 (0 + i)) (fun m => M 63 (64 + m)) 32 (sp_o2 (fun i => M 62 (0 + i)) (fun m => M 63 (64 + m)) 32 (sp_o1 (fun i => M 61 i) (fun i => M 61 (32 + i)) (fun m => M 63 (0 + m)) (sp_o1 (fun i => M 61 i) (fun i => M 61 (32 + i)) (fun m => M 63 (0 + m)) (sp_o1 (fun i => M 61 i) (fun i => M 61 (32 + i)) (fun m => M 63 (0 + m)) (sp_o1 (fun i => M 61 i) (fun i => M 61 (32 + i)) (fun m => M 63 (0 + m)) f (5 + 58 * k + 7 * 0) ((j + 0) % 32)) (5 + 58 * k + 7 * 1) ((j + 4) % 32)) (5 + 58 * k + 7 * 2) ((j + 16) % 32)) (5 + 58 * k + 7 * 3) ((j + 20) % 32)) (5 + 58 * k + 28 + 6 * 0) (j % 16 + 16 * 0)) (5 + 58 * k + 28 + 6 * 1) (j % 16 + 16 * 1)) (5 + 58 * k + 40 + 5 * 0) (j % 8 + 8 * 0)) (5 + 58 * k + 40 + 5 * 1) (by omega) (M 62 (32 + (j % 8 + 8 * 1)))) rfl ?_
  refine ew_aload_n d_Mo_writeOpening_107 rfl ?_
  refine ew_iload_n d_Mo_writeOpening_108 rfl ?_
  refine ew_iconst (v := nI 1) d_Mo_writeOpening_109 (by decide) ?_
  refine en_iadd d_Mo_writeOpening_110 ?_
  refine en_eq rfl (show _ = [.int (nI 2), .ref 47] from rfl) rfl ?_
  refine ew_iload d_Mo_writeOpening_111 rfl ?_
  refine en_callV (As := [.int (nI 2), .int (nI (j % 8 + 8 * 1))]) (i := 47) (ci := 9) (st := []) (st1 := []) d_Mo_writeOpening_113 k_Mo_writePath rfl rfl tw_799 tw_801 tp_45 rfl (Nat.le_of_ble_eq_true rfl) rfl (Nat.le_of_ble_eq_true rfl) rfl rfl (c_Mo_writePath2 l g _ L M (upd (sp_o2 (fun i => M 62 (32 + i)) (fun m => M 63 (128 + m)) 16 (sp_o2 (fun i => M 62 (0 + i)) (fun m => M 63 (64 + m)) 32 (sp_o2 (fun i => M 62 (0 + i)) (fun m => M 63 (64 + m)) 32 (sp_o1 (fun i => M 61 i) (fun i => M 61 (32 + i)) (fun m => M 63 (0 + m)) (sp_o1 (fun i => M 61 i) (fun i => M 61 (32 + i)) (fun m => M 63 (0 + m)) (sp_o1 (fun i => M 61 i) (fun i => M 61 (32 + i)) (fun m => M 63 (0 + m)) (sp_o1 (fun i => M 61 i) (fun i => M 61 (32 + i)) (fun m => M 63 (0 + m)) f (5 + 58 * k + 7 * 0) ((j + 0) % 32)) (5 + 58 * k + 7 * 1) ((j + 4) % 32)) (5 + 58 * k + 7 * 2) ((j + 16) % 32)) (5 + 58 * k + 7 * 3) ((j + 20) % 32)) (5 + 58 * k + 28 + 6 * 0) (j % 16 + 16 * 0)) (5 + 58 * k + 28 + 6 * 1) (j % 16 + 16 * 1)) (5 + 58 * k + 40 + 5 * 0) (j % 8 + 8 * 0)) (5 + 58 * k + 40 + 5 * 1) (M 62 (32 + (j % 8 + 8 * 1)))) ((5 + 58 * k + 40 + 5 * 1) + 1) (j % 8 + 8 * 1) (by omega) (by omega)) rfl ?_
  refine en_eq (M' := sp_wm M (sp_o2 (fun i => M 62 (32 + i)) (fun m => M 63 (128 + m)) 16 (sp_o2 (fun i => M 62 (32 + i)) (fun m => M 63 (128 + m)) 16 (sp_o2 (fun i => M 62 (0 + i)) (fun m => M 63 (64 + m)) 32 (sp_o2 (fun i => M 62 (0 + i)) (fun m => M 63 (64 + m)) 32 (sp_o1 (fun i => M 61 i) (fun i => M 61 (32 + i)) (fun m => M 63 (0 + m)) (sp_o1 (fun i => M 61 i) (fun i => M 61 (32 + i)) (fun m => M 63 (0 + m)) (sp_o1 (fun i => M 61 i) (fun i => M 61 (32 + i)) (fun m => M 63 (0 + m)) (sp_o1 (fun i => M 61 i) (fun i => M 61 (32 + i)) (fun m => M 63 (0 + m)) f (5 + 58 * k + 7 * 0) ((j + 0) % 32)) (5 + 58 * k + 7 * 1) ((j + 4) % 32)) (5 + 58 * k + 7 * 2) ((j + 16) % 32)) (5 + 58 * k + 7 * 3) ((j + 20) % 32)) (5 + 58 * k + 28 + 6 * 0) (j % 16 + 16 * 0)) (5 + 58 * k + 28 + 6 * 1) (j % 16 + 16 * 1)) (5 + 58 * k + 40 + 5 * 0) (j % 8 + 8 * 0)) (5 + 58 * k + 40 + 5 * 1) (j % 8 + 8 * 1)) (5 + 58 * k + 50 + 4 * 0)) rfl rfl (congrArg (sp_wm M _) (by omega)) ?_
  refine en_inc (ls' := [.ref 47, .int (nI j), .int (nI 1), .int (nI 8), .int (nI 2), .int (nI (j % 8 + 8 * 1))]) d_Mo_writeOpening_116 rfl rfl ?_
  refine ew_goto (tgt := 75) d_Mo_writeOpening_119 (by decide) ?_
  refine ew_iload d_Mo_writeOpening_75 rfl ?_
  refine ew_iconst (v := nI 2) d_Mo_writeOpening_77 (by decide) ?_
  refine en_icmp_ge (tgt := 122) d_Mo_writeOpening_78 (by decide) (by first | with_reducible assumption | with_reducible exact ep_lt _ | with_reducible exact sp_its_lt _ _ _ | with_reducible exact tb_l_rt _ | with_reducible exact tb_l_x _ | with_reducible exact tb_l_o0 _ | with_reducible exact tb_l_o1 _ | with_reducible exact tb_l_va _ | with_reducible exact tb_l_ll _ | with_reducible exact tb_l_cf _ | with_reducible exact tb_l_kf _ | with_reducible exact sp_ts_lt _ _ _ _ | with_reducible exact sp_w_lt _ _ | with_reducible exact sp_cs_lt _ _ _ _ _ | with_reducible exact sp_cb_lt _ _ _ _ _ | with_reducible exact sp_ch_lt _ | with_reducible exact sp_bf_lt _ _ | with_reducible exact sp_va_lt _ _ _ | with_reducible exact sp_be_lt _ _ | with_reducible exact sp_p_lt _ _ _ | with_reducible exact sp_com_lt _ _ _ _ | with_reducible exact sp_fo_lt _ _ _ _ _ | omega) (by first | with_reducible assumption | with_reducible exact ep_lt _ | with_reducible exact sp_its_lt _ _ _ | with_reducible exact tb_l_rt _ | with_reducible exact tb_l_x _ | with_reducible exact tb_l_o0 _ | with_reducible exact tb_l_o1 _ | with_reducible exact tb_l_va _ | with_reducible exact tb_l_ll _ | with_reducible exact tb_l_cf _ | with_reducible exact tb_l_kf _ | with_reducible exact sp_ts_lt _ _ _ _ | with_reducible exact sp_w_lt _ _ | with_reducible exact sp_cs_lt _ _ _ _ _ | with_reducible exact sp_cb_lt _ _ _ _ _ | with_reducible exact sp_ch_lt _ | with_reducible exact sp_bf_lt _ _ | with_reducible exact sp_va_lt _ _ _ | with_reducible exact sp_be_lt _ _ | with_reducible exact sp_p_lt _ _ _ | with_reducible exact sp_com_lt _ _ _ _ | with_reducible exact sp_fo_lt _ _ _ _ _ | omega) (fun h78 => ?_) (fun h78 => by exact absurd h78 (by decide))
  refine en_inc (ls' := [.ref 47, .int (nI j), .int (nI 2), .int (nI 8), .int (nI 2), .int (nI (j % 8 + 8 * 1))]) d_Mo_writeOpening_122 rfl rfl ?_
  refine ew_goto (tgt := 62) d_Mo_writeOpening_125 (by decide) ?_
  refine ew_iload_n d_Mo_writeOpening_62 rfl ?_
  refine ew_iconst (v := nI 3) d_Mo_writeOpening_63 (by decide) ?_
  refine en_icmp_ge (tgt := 128) d_Mo_writeOpening_64 (by decide) (by first | with_reducible assumption | with_reducible exact ep_lt _ | with_reducible exact sp_its_lt _ _ _ | with_reducible exact tb_l_rt _ | with_reducible exact tb_l_x _ | with_reducible exact tb_l_o0 _ | with_reducible exact tb_l_o1 _ | with_reducible exact tb_l_va _ | with_reducible exact tb_l_ll _ | with_reducible exact tb_l_cf _ | with_reducible exact tb_l_kf _ | with_reducible exact sp_ts_lt _ _ _ _ | with_reducible exact sp_w_lt _ _ | with_reducible exact sp_cs_lt _ _ _ _ _ | with_reducible exact sp_cb_lt _ _ _ _ _ | with_reducible exact sp_ch_lt _ | with_reducible exact sp_bf_lt _ _ | with_reducible exact sp_va_lt _ _ _ | with_reducible exact sp_be_lt _ _ | with_reducible exact sp_p_lt _ _ _ | with_reducible exact sp_com_lt _ _ _ _ | with_reducible exact sp_fo_lt _ _ _ _ _ | omega) (by first | with_reducible assumption | with_reducible exact ep_lt _ | with_reducible exact sp_its_lt _ _ _ | with_reducible exact tb_l_rt _ | with_reducible exact tb_l_x _ | with_reducible exact tb_l_o0 _ | with_reducible exact tb_l_o1 _ | with_reducible exact tb_l_va _ | with_reducible exact tb_l_ll _ | with_reducible exact tb_l_cf _ | with_reducible exact tb_l_kf _ | with_reducible exact sp_ts_lt _ _ _ _ | with_reducible exact sp_w_lt _ _ | with_reducible exact sp_cs_lt _ _ _ _ _ | with_reducible exact sp_cb_lt _ _ _ _ _ | with_reducible exact sp_ch_lt _ | with_reducible exact sp_bf_lt _ _ | with_reducible exact sp_va_lt _ _ _ | with_reducible exact sp_be_lt _ _ | with_reducible exact sp_p_lt _ _ _ | with_reducible exact sp_com_lt _ _ _ _ | with_reducible exact sp_fo_lt _ _ _ _ _ | omega) (fun h64 => by exact absurd h64 (by decide)) (fun h64 => ?_)
  refine ew_bipush (v := nI 16) d_Mo_writeOpening_67 (by decide) ?_
  refine ew_iload_n d_Mo_writeOpening_69 rfl ?_
  refine ew_ishr d_Mo_writeOpening_70 ?_
  refine en_eq (st' := [.int (nI 4)]) rfl (by rw [show ((nI 16) >>> ((nI 2) &&& 31)) = (nI 4) from by decide]) rfl ?_
  refine en_istore_n (ls' := [.ref 47, .int (nI j), .int (nI 2), .int (nI 4), .int (nI 2), .int (nI (j % 8 + 8 * 1))]) d_Mo_writeOpening_71 (Nat.le_of_ble_eq_true rfl) rfl ?_
  refine ew_iconst (v := nI 0) d_Mo_writeOpening_72 (by decide) ?_
  refine en_istore (ls' := [.ref 47, .int (nI j), .int (nI 2), .int (nI 4), .int (nI 0), .int (nI (j % 8 + 8 * 1))]) d_Mo_writeOpening_73 (Nat.le_of_ble_eq_true rfl) rfl ?_
  refine ew_iload d_Mo_writeOpening_75 rfl ?_
  refine ew_iconst (v := nI 2) d_Mo_writeOpening_77 (by decide) ?_
  refine en_icmp_ge (tgt := 122) d_Mo_writeOpening_78 (by decide) (by first | with_reducible assumption | with_reducible exact ep_lt _ | with_reducible exact sp_its_lt _ _ _ | with_reducible exact tb_l_rt _ | with_reducible exact tb_l_x _ | with_reducible exact tb_l_o0 _ | with_reducible exact tb_l_o1 _ | with_reducible exact tb_l_va _ | with_reducible exact tb_l_ll _ | with_reducible exact tb_l_cf _ | with_reducible exact tb_l_kf _ | with_reducible exact sp_ts_lt _ _ _ _ | with_reducible exact sp_w_lt _ _ | with_reducible exact sp_cs_lt _ _ _ _ _ | with_reducible exact sp_cb_lt _ _ _ _ _ | with_reducible exact sp_ch_lt _ | with_reducible exact sp_bf_lt _ _ | with_reducible exact sp_va_lt _ _ _ | with_reducible exact sp_be_lt _ _ | with_reducible exact sp_p_lt _ _ _ | with_reducible exact sp_com_lt _ _ _ _ | with_reducible exact sp_fo_lt _ _ _ _ _ | omega) (by first | with_reducible assumption | with_reducible exact ep_lt _ | with_reducible exact sp_its_lt _ _ _ | with_reducible exact tb_l_rt _ | with_reducible exact tb_l_x _ | with_reducible exact tb_l_o0 _ | with_reducible exact tb_l_o1 _ | with_reducible exact tb_l_va _ | with_reducible exact tb_l_ll _ | with_reducible exact tb_l_cf _ | with_reducible exact tb_l_kf _ | with_reducible exact sp_ts_lt _ _ _ _ | with_reducible exact sp_w_lt _ _ | with_reducible exact sp_cs_lt _ _ _ _ _ | with_reducible exact sp_cb_lt _ _ _ _ _ | with_reducible exact sp_ch_lt _ | with_reducible exact sp_bf_lt _ _ | with_reducible exact sp_va_lt _ _ _ | with_reducible exact sp_be_lt _ _ | with_reducible exact sp_p_lt _ _ _ | with_reducible exact sp_com_lt _ _ _ _ | with_reducible exact sp_fo_lt _ _ _ _ _ | omega) (fun h78 => by exact absurd h78 (by decide)) (fun h78 => ?_)
  refine ew_iload_n d_Mo_writeOpening_81 rfl ?_
  refine ew_iload_n d_Mo_writeOpening_82 rfl ?_
  refine en_irem d_Mo_writeOpening_83 (by omega) (by decide) (by decide) ?_
  refine ew_iload d_Mo_writeOpening_84 rfl ?_
  refine ew_iload_n d_Mo_writeOpening_86 rfl ?_
  refine en_imul d_Mo_writeOpening_87 ?_
  refine en_eq rfl (show _ = [.int (nI 0), .int (nI (j % 4))] from rfl) rfl ?_
  refine en_iadd d_Mo_writeOpening_88 ?_
  refine en_eq (st' := [.int (nI (j % 4 + 4 * 0))]) rfl (by rw [show (nI ((j % 4) + 0)) = (nI (j % 4 + 4 * 0)) from rfl]) rfl ?_
  refine en_istore (ls' := [.ref 47, .int (nI j), .int (nI 2), .int (nI 4), .int (nI 0), .int (nI (j % 4 + 4 * 0))]) d_Mo_writeOpening_89 (Nat.le_of_ble_eq_true rfl) rfl ?_
  refine ew_aload_n d_Mo_writeOpening_91 rfl ?_
  refine ew_aload_n d_Mo_writeOpening_92 rfl ?_
  refine ew_getr (ci := 9) (f := 21) d_Mo_writeOpening_93 rfl rfl rfl tw_612 ?_
  refine ew_iload_n d_Mo_writeOpening_96 rfl ?_
  refine en_callS (As := [.int (nI 2)]) (st := [.ref 62, .ref 47]) (st1 := [.int (nI 48), .ref 62, .ref 47]) d_Mo_writeOpening_97 k_Mo_layerFrom tw_767 tw_768 rfl (Nat.le_of_ble_eq_true rfl) rfl (Nat.le_of_ble_eq_true rfl) rfl rfl (c_Mo_layerFrom2 l g _ L (sp_wm M (sp_o2 (fun i => M 62 (32 + i)) (fun m => M 63 (128 + m)) 16 (sp_o2 (fun i => M 62 (32 + i)) (fun m => M 63 (128 + m)) 16 (sp_o2 (fun i => M 62 (0 + i)) (fun m => M 63 (64 + m)) 32 (sp_o2 (fun i => M 62 (0 + i)) (fun m => M 63 (64 + m)) 32 (sp_o1 (fun i => M 61 i) (fun i => M 61 (32 + i)) (fun m => M 63 (0 + m)) (sp_o1 (fun i => M 61 i) (fun i => M 61 (32 + i)) (fun m => M 63 (0 + m)) (sp_o1 (fun i => M 61 i) (fun i => M 61 (32 + i)) (fun m => M 63 (0 + m)) (sp_o1 (fun i => M 61 i) (fun i => M 61 (32 + i)) (fun m => M 63 (0 + m)) f (5 + 58 * k + 7 * 0) ((j + 0) % 32)) (5 + 58 * k + 7 * 1) ((j + 4) % 32)) (5 + 58 * k + 7 * 2) ((j + 16) % 32)) (5 + 58 * k + 7 * 3) ((j + 20) % 32)) (5 + 58 * k + 28 + 6 * 0) (j % 16 + 16 * 0)) (5 + 58 * k + 28 + 6 * 1) (j % 16 + 16 * 1)) (5 + 58 * k + 40 + 5 * 0) (j % 8 + 8 * 0)) (5 + 58 * k + 40 + 5 * 1) (j % 8 + 8 * 1)) (5 + 58 * k + 50 + 4 * 0))) rfl ?_
  refine ew_iload d_Mo_writeOpening_100 rfl ?_
  refine en_iadd d_Mo_writeOpening_102 ?_
  refine ew_iald (j := 48 + (j % 4 + 4 * 0)) d_Mo_writeOpening_103 rfl (rfl) (by omega) (by decide) ?_
  refine en_eq (st' := [.int (M 62 (48 + (j % 4 + 4 * 0))), .ref 47]) rfl (by rw [show ((sp_wm M (sp_o2 (fun i => M 62 (32 + i)) (fun m => M 63 (128 + m)) 16 (sp_o2 (fun i => M 62 (32 + i)) (fun m => M 63 (128 + m)) 16 (sp_o2 (fun i => M 62 (0 + i)) (fun m => M 63 (64 + m)) 32 (sp_o2 (fun i => M 62 (0 + i)) (fun m => M 63 (64 + m)) 32 (sp_o1 (fun i => M 61 i) (fun i => M 61 (32 + i)) (fun m => M 63 (0 + m)) (sp_o1 (fun i => M 61 i) (fun i => M 61 (32 + i)) (fun m => M 63 (0 + m)) (sp_o1 (fun i => M 61 i) (fun i => M 61 (32 + i)) (fun m => M 63 (0 + m)) (sp_o1 (fun i => M 61 i) (fun i => M 61 (32 + i)) (fun m => M 63 (0 + m)) f (5 + 58 * k + 7 * 0) ((j + 0) % 32)) (5 + 58 * k + 7 * 1) ((j + 4) % 32)) (5 + 58 * k + 7 * 2) ((j + 16) % 32)) (5 + 58 * k + 7 * 3) ((j + 20) % 32)) (5 + 58 * k + 28 + 6 * 0) (j % 16 + 16 * 0)) (5 + 58 * k + 28 + 6 * 1) (j % 16 + 16 * 1)) (5 + 58 * k + 40 + 5 * 0) (j % 8 + 8 * 0)) (5 + 58 * k + 40 + 5 * 1) (j % 8 + 8 * 1)) (5 + 58 * k + 50 + 4 * 0)) 62 (48 + (j % 4 + 4 * 0))) = (M 62 (48 + (j % 4 + 4 * 0))) from by rw [sp_wm_ne (by decide) (by decide)]]) rfl ?_
  refine en_callV (As := [.int (M 62 (48 + (j % 4 + 4 * 0)))]) (i := 47) (ci := 9) (st := []) (st1 := []) d_Mo_writeOpening_104 k_Mo_write rfl rfl tw_795 tw_797 tp_44 rfl (Nat.le_of_ble_eq_true rfl) rfl (Nat.le_of_ble_eq_true rfl) rfl rfl (c_Mo_writew l g _ L M (sp_o2 (fun i => M 62 (32 + i)) (fun m => M 63 (128 + m)) 16 (sp_o2 (fun i => M 62 (32 + i)) (fun m => M 63 (128 + m)) 16 (sp_o2 (fun i => M 62 (0 + i)) (fun m => M 63 (64 + m)) 32 (sp_o2 (fun i => M 62 (0 + i)) (fun m => M 63 (64 + m)) 32 (sp_o1 (fun i => M 61 i) (fun i => M 61 (32 + i)) (fun m => M 63 (0 + m)) (sp_o1 (fun i => M 61 i) (fun i => M 61 (32 + i)) (fun m => M 63 (0 + m)) (sp_o1 (fun i => M 61 i) (fun i => M 61 (32 + i)) (fun m => M 63 (0 + m)) (sp_o1 (fun i => M 61 i) (fun i => M 61 (32 + i)) (fun m => M 63 (0 + m)) f (5 + 58 * k + 7 * 0) ((j + 0) % 32)) (5 + 58 * k + 7 * 1) ((j + 4) % 32)) (5 + 58 * k + 7 * 2) ((j + 16) % 32)) (5 + 58 * k + 7 * 3) ((j + 20) % 32)) (5 + 58 * k + 28 + 6 * 0) (j % 16 + 16 * 0)) (5 + 58 * k + 28 + 6 * 1) (j % 16 + 16 * 1)) (5 + 58 * k + 40 + 5 * 0) (j % 8 + 8 * 0)) (5 + 58 * k + 40 + 5 * 1) (j % 8 + 8 * 1)) (5 + 58 * k + 50 + 4 * 0) (by omega) (M 62 (48 + (j % 4 + 4 * 0)))) rfl ?_
  refine ew_aload_n d_Mo_writeOpening_107 rfl ?_
  refine ew_iload_n d_Mo_writeOpening_108 rfl ?_
  refine ew_iconst (v := nI 1) d_Mo_writeOpening_109 (by decide) ?_
  refine en_iadd d_Mo_writeOpening_110 ?_
  refine en_eq rfl (show _ = [.int (nI 3), .ref 47] from rfl) rfl ?_
  refine ew_iload d_Mo_writeOpening_111 rfl ?_
  refine en_callV (As := [.int (nI 3), .int (nI (j % 4 + 4 * 0))]) (i := 47) (ci := 9) (st := []) (st1 := []) d_Mo_writeOpening_113 k_Mo_writePath rfl rfl tw_799 tw_801 tp_45 rfl (Nat.le_of_ble_eq_true rfl) rfl (Nat.le_of_ble_eq_true rfl) rfl rfl (c_Mo_writePath3 l g _ L M (upd (sp_o2 (fun i => M 62 (32 + i)) (fun m => M 63 (128 + m)) 16 (sp_o2 (fun i => M 62 (32 + i)) (fun m => M 63 (128 + m)) 16 (sp_o2 (fun i => M 62 (0 + i)) (fun m => M 63 (64 + m)) 32 (sp_o2 (fun i => M 62 (0 + i)) (fun m => M 63 (64 + m)) 32 (sp_o1 (fun i => M 61 i) (fun i => M 61 (32 + i)) (fun m => M 63 (0 + m)) (sp_o1 (fun i => M 61 i) (fun i => M 61 (32 + i)) (fun m => M 63 (0 + m)) (sp_o1 (fun i => M 61 i) (fun i => M 61 (32 + i)) (fun m => M 63 (0 + m)) (sp_o1 (fun i => M 61 i) (fun i => M 61 (32 + i)) (fun m => M 63 (0 + m)) f (5 + 58 * k + 7 * 0) ((j + 0) % 32)) (5 + 58 * k + 7 * 1) ((j + 4) % 32)) (5 + 58 * k + 7 * 2) ((j + 16) % 32)) (5 + 58 * k + 7 * 3) ((j + 20) % 32)) (5 + 58 * k + 28 + 6 * 0) (j % 16 + 16 * 0)) (5 + 58 * k + 28 + 6 * 1) (j % 16 + 16 * 1)) (5 + 58 * k + 40 + 5 * 0) (j % 8 + 8 * 0)) (5 + 58 * k + 40 + 5 * 1) (j % 8 + 8 * 1)) (5 + 58 * k + 50 + 4 * 0) (M 62 (48 + (j % 4 + 4 * 0)))) ((5 + 58 * k + 50 + 4 * 0) + 1) (j % 4 + 4 * 0) (by omega) (by omega)) rfl ?_
  refine en_eq (M' := sp_wm M (sp_o2 (fun i => M 62 (48 + i)) (fun m => M 63 (160 + m)) 8 (sp_o2 (fun i => M 62 (32 + i)) (fun m => M 63 (128 + m)) 16 (sp_o2 (fun i => M 62 (32 + i)) (fun m => M 63 (128 + m)) 16 (sp_o2 (fun i => M 62 (0 + i)) (fun m => M 63 (64 + m)) 32 (sp_o2 (fun i => M 62 (0 + i)) (fun m => M 63 (64 + m)) 32 (sp_o1 (fun i => M 61 i) (fun i => M 61 (32 + i)) (fun m => M 63 (0 + m)) (sp_o1 (fun i => M 61 i) (fun i => M 61 (32 + i)) (fun m => M 63 (0 + m)) (sp_o1 (fun i => M 61 i) (fun i => M 61 (32 + i)) (fun m => M 63 (0 + m)) (sp_o1 (fun i => M 61 i) (fun i => M 61 (32 + i)) (fun m => M 63 (0 + m)) f (5 + 58 * k + 7 * 0) ((j + 0) % 32)) (5 + 58 * k + 7 * 1) ((j + 4) % 32)) (5 + 58 * k + 7 * 2) ((j + 16) % 32)) (5 + 58 * k + 7 * 3) ((j + 20) % 32)) (5 + 58 * k + 28 + 6 * 0) (j % 16 + 16 * 0)) (5 + 58 * k + 28 + 6 * 1) (j % 16 + 16 * 1)) (5 + 58 * k + 40 + 5 * 0) (j % 8 + 8 * 0)) (5 + 58 * k + 40 + 5 * 1) (j % 8 + 8 * 1)) (5 + 58 * k + 50 + 4 * 0) (j % 4 + 4 * 0)) (5 + 58 * k + 50 + 4 * 1)) rfl rfl (congrArg (sp_wm M _) (by omega)) ?_
  refine en_inc (ls' := [.ref 47, .int (nI j), .int (nI 2), .int (nI 4), .int (nI 1), .int (nI (j % 4 + 4 * 0))]) d_Mo_writeOpening_116 rfl rfl ?_
  refine ew_goto (tgt := 75) d_Mo_writeOpening_119 (by decide) ?_
  refine ew_iload d_Mo_writeOpening_75 rfl ?_
  refine ew_iconst (v := nI 2) d_Mo_writeOpening_77 (by decide) ?_
  refine en_icmp_ge (tgt := 122) d_Mo_writeOpening_78 (by decide) (by first | with_reducible assumption | with_reducible exact ep_lt _ | with_reducible exact sp_its_lt _ _ _ | with_reducible exact tb_l_rt _ | with_reducible exact tb_l_x _ | with_reducible exact tb_l_o0 _ | with_reducible exact tb_l_o1 _ | with_reducible exact tb_l_va _ | with_reducible exact tb_l_ll _ | with_reducible exact tb_l_cf _ | with_reducible exact tb_l_kf _ | with_reducible exact sp_ts_lt _ _ _ _ | with_reducible exact sp_w_lt _ _ | with_reducible exact sp_cs_lt _ _ _ _ _ | with_reducible exact sp_cb_lt _ _ _ _ _ | with_reducible exact sp_ch_lt _ | with_reducible exact sp_bf_lt _ _ | with_reducible exact sp_va_lt _ _ _ | with_reducible exact sp_be_lt _ _ | with_reducible exact sp_p_lt _ _ _ | with_reducible exact sp_com_lt _ _ _ _ | with_reducible exact sp_fo_lt _ _ _ _ _ | omega) (by first | with_reducible assumption | with_reducible exact ep_lt _ | with_reducible exact sp_its_lt _ _ _ | with_reducible exact tb_l_rt _ | with_reducible exact tb_l_x _ | with_reducible exact tb_l_o0 _ | with_reducible exact tb_l_o1 _ | with_reducible exact tb_l_va _ | with_reducible exact tb_l_ll _ | with_reducible exact tb_l_cf _ | with_reducible exact tb_l_kf _ | with_reducible exact sp_ts_lt _ _ _ _ | with_reducible exact sp_w_lt _ _ | with_reducible exact sp_cs_lt _ _ _ _ _ | with_reducible exact sp_cb_lt _ _ _ _ _ | with_reducible exact sp_ch_lt _ | with_reducible exact sp_bf_lt _ _ | with_reducible exact sp_va_lt _ _ _ | with_reducible exact sp_be_lt _ _ | with_reducible exact sp_p_lt _ _ _ | with_reducible exact sp_com_lt _ _ _ _ | with_reducible exact sp_fo_lt _ _ _ _ _ | omega) (fun h78 => by exact absurd h78 (by decide)) (fun h78 => ?_)
  refine ew_iload_n d_Mo_writeOpening_81 rfl ?_
  refine ew_iload_n d_Mo_writeOpening_82 rfl ?_
  refine en_irem d_Mo_writeOpening_83 (by omega) (by decide) (by decide) ?_
  refine ew_iload d_Mo_writeOpening_84 rfl ?_
  refine ew_iload_n d_Mo_writeOpening_86 rfl ?_
  refine en_imul d_Mo_writeOpening_87 ?_
  refine en_eq rfl (show _ = [.int (nI 4), .int (nI (j % 4))] from rfl) rfl ?_
  refine en_iadd d_Mo_writeOpening_88 ?_
  refine en_eq (st' := [.int (nI (j % 4 + 4 * 1))]) rfl (by rw [show (nI ((j % 4) + 4)) = (nI (j % 4 + 4 * 1)) from rfl]) rfl ?_
  refine en_istore (ls' := [.ref 47, .int (nI j), .int (nI 2), .int (nI 4), .int (nI 1), .int (nI (j % 4 + 4 * 1))]) d_Mo_writeOpening_89 (Nat.le_of_ble_eq_true rfl) rfl ?_
  refine ew_aload_n d_Mo_writeOpening_91 rfl ?_
  refine ew_aload_n d_Mo_writeOpening_92 rfl ?_
  refine ew_getr (ci := 9) (f := 21) d_Mo_writeOpening_93 rfl rfl rfl tw_612 ?_
  refine ew_iload_n d_Mo_writeOpening_96 rfl ?_
  refine en_callS (As := [.int (nI 2)]) (st := [.ref 62, .ref 47]) (st1 := [.int (nI 48), .ref 62, .ref 47]) d_Mo_writeOpening_97 k_Mo_layerFrom tw_767 tw_768 rfl (Nat.le_of_ble_eq_true rfl) rfl (Nat.le_of_ble_eq_true rfl) rfl rfl (c_Mo_layerFrom2 l g _ L (sp_wm M (sp_o2 (fun i => M 62 (48 + i)) (fun m => M 63 (160 + m)) 8 (sp_o2 (fun i => M 62 (32 + i)) (fun m => M 63 (128 + m)) 16 (sp_o2 (fun i => M 62 (32 + i)) (fun m => M 63 (128 + m)) 16 (sp_o2 (fun i => M 62 (0 + i)) (fun m => M 63 (64 + m)) 32 (sp_o2 (fun i => M 62 (0 + i)) (fun m => M 63 (64 + m)) 32 (sp_o1 (fun i => M 61 i) (fun i => M 61 (32 + i)) (fun m => M 63 (0 + m)) (sp_o1 (fun i => M 61 i) (fun i => M 61 (32 + i)) (fun m => M 63 (0 + m)) (sp_o1 (fun i => M 61 i) (fun i => M 61 (32 + i)) (fun m => M 63 (0 + m)) (sp_o1 (fun i => M 61 i) (fun i => M 61 (32 + i)) (fun m => M 63 (0 + m)) f (5 + 58 * k + 7 * 0) ((j + 0) % 32)) (5 + 58 * k + 7 * 1) ((j + 4) % 32)) (5 + 58 * k + 7 * 2) ((j + 16) % 32)) (5 + 58 * k + 7 * 3) ((j + 20) % 32)) (5 + 58 * k + 28 + 6 * 0) (j % 16 + 16 * 0)) (5 + 58 * k + 28 + 6 * 1) (j % 16 + 16 * 1)) (5 + 58 * k + 40 + 5 * 0) (j % 8 + 8 * 0)) (5 + 58 * k + 40 + 5 * 1) (j % 8 + 8 * 1)) (5 + 58 * k + 50 + 4 * 0) (j % 4 + 4 * 0)) (5 + 58 * k + 50 + 4 * 1))) rfl ?_
  refine ew_iload d_Mo_writeOpening_100 rfl ?_
  refine en_iadd d_Mo_writeOpening_102 ?_
  refine ew_iald (j := 48 + (j % 4 + 4 * 1)) d_Mo_writeOpening_103 rfl (rfl) (by omega) (by decide) ?_
  refine en_eq (st' := [.int (M 62 (48 + (j % 4 + 4 * 1))), .ref 47]) rfl (by rw [show ((sp_wm M (sp_o2 (fun i => M 62 (48 + i)) (fun m => M 63 (160 + m)) 8 (sp_o2 (fun i => M 62 (32 + i)) (fun m => M 63 (128 + m)) 16 (sp_o2 (fun i => M 62 (32 + i)) (fun m => M 63 (128 + m)) 16 (sp_o2 (fun i => M 62 (0 + i)) (fun m => M 63 (64 + m)) 32 (sp_o2 (fun i => M 62 (0 + i)) (fun m => M 63 (64 + m)) 32 (sp_o1 (fun i => M 61 i) (fun i => M 61 (32 + i)) (fun m => M 63 (0 + m)) (sp_o1 (fun i => M 61 i) (fun i => M 61 (32 + i)) (fun m => M 63 (0 + m)) (sp_o1 (fun i => M 61 i) (fun i => M 61 (32 + i)) (fun m => M 63 (0 + m)) (sp_o1 (fun i => M 61 i) (fun i => M 61 (32 + i)) (fun m => M 63 (0 + m)) f (5 + 58 * k + 7 * 0) ((j + 0) % 32)) (5 + 58 * k + 7 * 1) ((j + 4) % 32)) (5 + 58 * k + 7 * 2) ((j + 16) % 32)) (5 + 58 * k + 7 * 3) ((j + 20) % 32)) (5 + 58 * k + 28 + 6 * 0) (j % 16 + 16 * 0)) (5 + 58 * k + 28 + 6 * 1) (j % 16 + 16 * 1)) (5 + 58 * k + 40 + 5 * 0) (j % 8 + 8 * 0)) (5 + 58 * k + 40 + 5 * 1) (j % 8 + 8 * 1)) (5 + 58 * k + 50 + 4 * 0) (j % 4 + 4 * 0)) (5 + 58 * k + 50 + 4 * 1)) 62 (48 + (j % 4 + 4 * 1))) = (M 62 (48 + (j % 4 + 4 * 1))) from by rw [sp_wm_ne (by decide) (by decide)]]) rfl ?_
  refine en_callV (As := [.int (M 62 (48 + (j % 4 + 4 * 1)))]) (i := 47) (ci := 9) (st := []) (st1 := []) d_Mo_writeOpening_104 k_Mo_write rfl rfl tw_795 tw_797 tp_44 rfl (Nat.le_of_ble_eq_true rfl) rfl (Nat.le_of_ble_eq_true rfl) rfl rfl (c_Mo_writew l g _ L M (sp_o2 (fun i => M 62 (48 + i)) (fun m => M 63 (160 + m)) 8 (sp_o2 (fun i => M 62 (32 + i)) (fun m => M 63 (128 + m)) 16 (sp_o2 (fun i => M 62 (32 + i)) (fun m => M 63 (128 + m)) 16 (sp_o2 (fun i => M 62 (0 + i)) (fun m => M 63 (64 + m)) 32 (sp_o2 (fun i => M 62 (0 + i)) (fun m => M 63 (64 + m)) 32 (sp_o1 (fun i => M 61 i) (fun i => M 61 (32 + i)) (fun m => M 63 (0 + m)) (sp_o1 (fun i => M 61 i) (fun i => M 61 (32 + i)) (fun m => M 63 (0 + m)) (sp_o1 (fun i => M 61 i) (fun i => M 61 (32 + i)) (fun m => M 63 (0 + m)) (sp_o1 (fun i => M 61 i) (fun i => M 61 (32 + i)) (fun m => M 63 (0 + m)) f (5 + 58 * k + 7 * 0) ((j + 0) % 32)) (5 + 58 * k + 7 * 1) ((j + 4) % 32)) (5 + 58 * k + 7 * 2) ((j + 16) % 32)) (5 + 58 * k + 7 * 3) ((j + 20) % 32)) (5 + 58 * k + 28 + 6 * 0) (j % 16 + 16 * 0)) (5 + 58 * k + 28 + 6 * 1) (j % 16 + 16 * 1)) (5 + 58 * k + 40 + 5 * 0) (j % 8 + 8 * 0)) (5 + 58 * k + 40 + 5 * 1) (j % 8 + 8 * 1)) (5 + 58 * k + 50 + 4 * 0) (j % 4 + 4 * 0)) (5 + 58 * k + 50 + 4 * 1) (by omega) (M 62 (48 + (j % 4 + 4 * 1)))) rfl ?_
  refine ew_aload_n d_Mo_writeOpening_107 rfl ?_
  refine ew_iload_n d_Mo_writeOpening_108 rfl ?_
  refine ew_iconst (v := nI 1) d_Mo_writeOpening_109 (by decide) ?_
  refine en_iadd d_Mo_writeOpening_110 ?_
  refine en_eq rfl (show _ = [.int (nI 3), .ref 47] from rfl) rfl ?_
  refine ew_iload d_Mo_writeOpening_111 rfl ?_
  refine en_callV (As := [.int (nI 3), .int (nI (j % 4 + 4 * 1))]) (i := 47) (ci := 9) (st := []) (st1 := []) d_Mo_writeOpening_113 k_Mo_writePath rfl rfl tw_799 tw_801 tp_45 rfl (Nat.le_of_ble_eq_true rfl) rfl (Nat.le_of_ble_eq_true rfl) rfl rfl (c_Mo_writePath3 l g _ L M (upd (sp_o2 (fun i => M 62 (48 + i)) (fun m => M 63 (160 + m)) 8 (sp_o2 (fun i => M 62 (32 + i)) (fun m => M 63 (128 + m)) 16 (sp_o2 (fun i => M 62 (32 + i)) (fun m => M 63 (128 + m)) 16 (sp_o2 (fun i => M 62 (0 + i)) (fun m => M 63 (64 + m)) 32 (sp_o2 (fun i => M 62 (0 + i)) (fun m => M 63 (64 + m)) 32 (sp_o1 (fun i => M 61 i) (fun i => M 61 (32 + i)) (fun m => M 63 (0 + m)) (sp_o1 (fun i => M 61 i) (fun i => M 61 (32 + i)) (fun m => M 63 (0 + m)) (sp_o1 (fun i => M 61 i) (fun i => M 61 (32 + i)) (fun m => M 63 (0 + m)) (sp_o1 (fun i => M 61 i) (fun i => M 61 (32 + i)) (fun m => M 63 (0 + m)) f (5 + 58 * k + 7 * 0) ((j + 0) % 32)) (5 + 58 * k + 7 * 1) ((j + 4) % 32)) (5 + 58 * k + 7 * 2) ((j + 16) % 32)) (5 + 58 * k + 7 * 3) ((j + 20) % 32)) (5 + 58 * k + 28 + 6 * 0) (j % 16 + 16 * 0)) (5 + 58 * k + 28 + 6 * 1) (j % 16 + 16 * 1)) (5 + 58 * k + 40 + 5 * 0) (j % 8 + 8 * 0)) (5 + 58 * k + 40 + 5 * 1) (j % 8 + 8 * 1)) (5 + 58 * k + 50 + 4 * 0) (j % 4 + 4 * 0)) (5 + 58 * k + 50 + 4 * 1) (M 62 (48 + (j % 4 + 4 * 1)))) ((5 + 58 * k + 50 + 4 * 1) + 1) (j % 4 + 4 * 1) (by omega) (by omega)) rfl ?_
  refine en_eq (M' := sp_wm M (sp_o2 (fun i => M 62 (48 + i)) (fun m => M 63 (160 + m)) 8 (sp_o2 (fun i => M 62 (48 + i)) (fun m => M 63 (160 + m)) 8 (sp_o2 (fun i => M 62 (32 + i)) (fun m => M 63 (128 + m)) 16 (sp_o2 (fun i => M 62 (32 + i)) (fun m => M 63 (128 + m)) 16 (sp_o2 (fun i => M 62 (0 + i)) (fun m => M 63 (64 + m)) 32 (sp_o2 (fun i => M 62 (0 + i)) (fun m => M 63 (64 + m)) 32 (sp_o1 (fun i => M 61 i) (fun i => M 61 (32 + i)) (fun m => M 63 (0 + m)) (sp_o1 (fun i => M 61 i) (fun i => M 61 (32 + i)) (fun m => M 63 (0 + m)) (sp_o1 (fun i => M 61 i) (fun i => M 61 (32 + i)) (fun m => M 63 (0 + m)) (sp_o1 (fun i => M 61 i) (fun i => M 61 (32 + i)) (fun m => M 63 (0 + m)) f (5 + 58 * k + 7 * 0) ((j + 0) % 32)) (5 + 58 * k + 7 * 1) ((j + 4) % 32)) (5 + 58 * k + 7 * 2) ((j + 16) % 32)) (5 + 58 * k + 7 * 3) ((j + 20) % 32)) (5 + 58 * k + 28 + 6 * 0) (j % 16 + 16 * 0)) (5 + 58 * k + 28 + 6 * 1) (j % 16 + 16 * 1)) (5 + 58 * k + 40 + 5 * 0) (j % 8 + 8 * 0)) (5 + 58 * k + 40 + 5 * 1) (j % 8 + 8 * 1)) (5 + 58 * k + 50 + 4 * 0) (j % 4 + 4 * 0)) (5 + 58 * k + 50 + 4 * 1) (j % 4 + 4 * 1)) (5 + 58 * (k + 1))) rfl rfl (congrArg (sp_wm M _) (by omega)) ?_
  refine en_inc (ls' := [.ref 47, .int (nI j), .int (nI 2), .int (nI 4), .int (nI 2), .int (nI (j % 4 + 4 * 1))]) d_Mo_writeOpening_116 rfl rfl ?_
  refine ew_goto (tgt := 75) d_Mo_writeOpening_119 (by decide) ?_
  refine ew_iload d_Mo_writeOpening_75 rfl ?_
  refine ew_iconst (v := nI 2) d_Mo_writeOpening_77 (by decide) ?_
  refine en_icmp_ge (tgt := 122) d_Mo_writeOpening_78 (by decide) (by first | with_reducible assumption | with_reducible exact ep_lt _ | with_reducible exact sp_its_lt _ _ _ | with_reducible exact tb_l_rt _ | with_reducible exact tb_l_x _ | with_reducible exact tb_l_o0 _ | with_reducible exact tb_l_o1 _ | with_reducible exact tb_l_va _ | with_reducible exact tb_l_ll _ | with_reducible exact tb_l_cf _ | with_reducible exact tb_l_kf _ | with_reducible exact sp_ts_lt _ _ _ _ | with_reducible exact sp_w_lt _ _ | with_reducible exact sp_cs_lt _ _ _ _ _ | with_reducible exact sp_cb_lt _ _ _ _ _ | with_reducible exact sp_ch_lt _ | with_reducible exact sp_bf_lt _ _ | with_reducible exact sp_va_lt _ _ _ | with_reducible exact sp_be_lt _ _ | with_reducible exact sp_p_lt _ _ _ | with_reducible exact sp_com_lt _ _ _ _ | with_reducible exact sp_fo_lt _ _ _ _ _ | omega) (by first | with_reducible assumption | with_reducible exact ep_lt _ | with_reducible exact sp_its_lt _ _ _ | with_reducible exact tb_l_rt _ | with_reducible exact tb_l_x _ | with_reducible exact tb_l_o0 _ | with_reducible exact tb_l_o1 _ | with_reducible exact tb_l_va _ | with_reducible exact tb_l_ll _ | with_reducible exact tb_l_cf _ | with_reducible exact tb_l_kf _ | with_reducible exact sp_ts_lt _ _ _ _ | with_reducible exact sp_w_lt _ _ | with_reducible exact sp_cs_lt _ _ _ _ _ | with_reducible exact sp_cb_lt _ _ _ _ _ | with_reducible exact sp_ch_lt _ | with_reducible exact sp_bf_lt _ _ | with_reducible exact sp_va_lt _ _ _ | with_reducible exact sp_be_lt _ _ | with_reducible exact sp_p_lt _ _ _ | with_reducible exact sp_com_lt _ _ _ _ | with_reducible exact sp_fo_lt _ _ _ _ _ | omega) (fun h78 => ?_) (fun h78 => by exact absurd h78 (by decide))
  refine en_inc (ls' := [.ref 47, .int (nI j), .int (nI 3), .int (nI 4), .int (nI 2), .int (nI (j % 4 + 4 * 1))]) d_Mo_writeOpening_122 rfl rfl ?_
  refine ew_goto (tgt := 62) d_Mo_writeOpening_125 (by decide) ?_
  refine ew_iload_n d_Mo_writeOpening_62 rfl ?_
  refine ew_iconst (v := nI 3) d_Mo_writeOpening_63 (by decide) ?_
  refine en_icmp_ge (tgt := 128) d_Mo_writeOpening_64 (by decide) (by first | with_reducible assumption | with_reducible exact ep_lt _ | with_reducible exact sp_its_lt _ _ _ | with_reducible exact tb_l_rt _ | with_reducible exact tb_l_x _ | with_reducible exact tb_l_o0 _ | with_reducible exact tb_l_o1 _ | with_reducible exact tb_l_va _ | with_reducible exact tb_l_ll _ | with_reducible exact tb_l_cf _ | with_reducible exact tb_l_kf _ | with_reducible exact sp_ts_lt _ _ _ _ | with_reducible exact sp_w_lt _ _ | with_reducible exact sp_cs_lt _ _ _ _ _ | with_reducible exact sp_cb_lt _ _ _ _ _ | with_reducible exact sp_ch_lt _ | with_reducible exact sp_bf_lt _ _ | with_reducible exact sp_va_lt _ _ _ | with_reducible exact sp_be_lt _ _ | with_reducible exact sp_p_lt _ _ _ | with_reducible exact sp_com_lt _ _ _ _ | with_reducible exact sp_fo_lt _ _ _ _ _ | omega) (by first | with_reducible assumption | with_reducible exact ep_lt _ | with_reducible exact sp_its_lt _ _ _ | with_reducible exact tb_l_rt _ | with_reducible exact tb_l_x _ | with_reducible exact tb_l_o0 _ | with_reducible exact tb_l_o1 _ | with_reducible exact tb_l_va _ | with_reducible exact tb_l_ll _ | with_reducible exact tb_l_cf _ | with_reducible exact tb_l_kf _ | with_reducible exact sp_ts_lt _ _ _ _ | with_reducible exact sp_w_lt _ _ | with_reducible exact sp_cs_lt _ _ _ _ _ | with_reducible exact sp_cb_lt _ _ _ _ _ | with_reducible exact sp_ch_lt _ | with_reducible exact sp_bf_lt _ _ | with_reducible exact sp_va_lt _ _ _ | with_reducible exact sp_be_lt _ _ | with_reducible exact sp_p_lt _ _ _ | with_reducible exact sp_com_lt _ _ _ _ | with_reducible exact sp_fo_lt _ _ _ _ _ | omega) (fun h64 => ?_) (fun h64 => by exact absurd h64 (by decide))
  exact ew_ret d_Mo_writeOpening_128 rfl (⟨rfl, rfl, rfl⟩)
def sp_ni0 (f : Nat → Nat) (B : Nat) (M0 : ew_M) (i : Nat) (M : ew_M) : Prop := (∀ q, q ≠ 62 → M q = M0 q) ∧ (∀ j, j < 32 → M 62 j = M0 62 j) ∧ ∀ t, t < i → M 62 (32 + t) = nI (sp_fo 1 t (f t) (f (t + 16)) B)
theorem sp_ni0_s {f : Nat → Nat} {B : Nat} {M0 M : ew_M} {i : Nat} (h : sp_ni0 f B M0 i M) : sp_ni0 f B M0 (i + 1) (ew_w M 62 (32 + i) (nI (sp_fo 1 i (f i) (f (i + 16)) B))) := by
  obtain ⟨h1, h2, h3⟩ := h
  refine ⟨fun q hq => (ew_w_ne hq).trans (h1 q hq), fun j hj => (ew_w_j (by omega)).trans (h2 j hj), fun t ht => ?_⟩
  by_cases e : t = i
  · subst e
    exact ew_w_at
  · exact (ew_w_j (by omega)).trans (h3 t (by omega))
def sp_nq0 (f : Nat → Nat) (B L : Nat) (M0 : ew_M) : Option Value → List ew_S → ew_M → Prop := fun v sh' M' => sh' = ew_SH L ∧ v = none ∧ sp_ni0 f B M0 16 M'
set_option maxRecDepth 100000 in
theorem lp_Mo_nextLayer0 (l : Launch) (g : ew_G) (d L : Nat) (M0 : ew_M) (hR : sp_rts M0) (f : Nat → Nat) (B : Nat) (hf : ∀ t, t < 32 → M0 62 (0 + t) = nI (f t) ∧ f t < 12289) (hB : B < 12289) (hB0 : M0 57 0 = nI B) : ∀ (fu i : Nat) (M : ew_M), 16 - i < fu → i ≤ 16 → sp_ni0 f B M0 i M → Ew l g (d + 3) 0 0 m_Mo_nextLayer 13 [.ref 47, .int (nI 0), .int (nI 16), .int (nI 0), .int (nI i)] [] (ew_SH L) M (sp_nq0 f B L M0) := by
  intro fu
  induction fu with
  | zero =>
    intro i M hn
    exact absurd hn (Nat.not_lt_zero _)
  | succ fu ih =>
    intro i M hn hle hI
    refine ew_iload d_Mo_nextLayer_13 rfl ?_
    refine ew_iload_n d_Mo_nextLayer_15 rfl ?_
    refine en_icmp_ge (tgt := 66) d_Mo_nextLayer_16 (by decide) (by omega) (by omega) (fun h16 => ?_) (fun h16 => ?_)
    · obtain rfl : i = 16 := by omega
      exact ew_ret d_Mo_nextLayer_66 rfl (⟨rfl, rfl, hI⟩)
    · refine ew_aload_n d_Mo_nextLayer_19 rfl ?_
      refine ew_getr (ci := 9) (f := 21) d_Mo_nextLayer_20 rfl rfl rfl tw_612 ?_
      refine ew_iload_n d_Mo_nextLayer_23 rfl ?_
      refine ew_iconst (v := nI 1) d_Mo_nextLayer_24 (by decide) ?_
      refine en_iadd d_Mo_nextLayer_25 ?_
      refine en_eq rfl (show _ = [.int (nI 1), .ref 62] from rfl) rfl ?_
      refine en_callS (As := [.int (nI 1)]) (st := [.ref 62]) (st1 := [.int (nI 32), .ref 62]) d_Mo_nextLayer_26 k_Mo_layerFrom tw_767 tw_768 rfl (Nat.le_of_ble_eq_true rfl) rfl (Nat.le_of_ble_eq_true rfl) rfl rfl (c_Mo_layerFrom1 l g _ L M) rfl ?_
      refine ew_iload d_Mo_nextLayer_29 rfl ?_
      refine en_iadd d_Mo_nextLayer_31 ?_
      refine ew_aload_n d_Mo_nextLayer_32 rfl ?_
      refine ew_iload_n d_Mo_nextLayer_33 rfl ?_
      refine ew_iload d_Mo_nextLayer_34 rfl ?_
      refine ew_aload_n d_Mo_nextLayer_36 rfl ?_
      refine ew_getr (ci := 9) (f := 21) d_Mo_nextLayer_37 rfl rfl rfl tw_612 ?_
      refine ew_iload_n d_Mo_nextLayer_40 rfl ?_
      refine ew_iload d_Mo_nextLayer_41 rfl ?_
      refine en_iadd d_Mo_nextLayer_43 ?_
      refine ew_iald (j := 0 + i) d_Mo_nextLayer_44 rfl (rfl) (by omega) (by decide) ?_
      refine en_eq (st' := [.int (nI (f i)), .int (nI i), .int (nI 0), .ref 47, .int (nI (32 + i)), .ref 62]) rfl (by rw [show (M 62 (0 + i)) = (nI (f i)) from by rw [hI.2.1 _ (by omega)]; exact (hf i (by omega)).1]) rfl ?_
      refine ew_aload_n d_Mo_nextLayer_45 rfl ?_
      refine ew_getr (ci := 9) (f := 21) d_Mo_nextLayer_46 rfl rfl rfl tw_612 ?_
      refine ew_iload_n d_Mo_nextLayer_49 rfl ?_
      refine ew_iload_n d_Mo_nextLayer_50 rfl ?_
      refine en_iadd d_Mo_nextLayer_51 ?_
      refine en_eq rfl (show _ = [.int (nI 16), .ref 62, .int (nI (f i)), .int (nI i), .int (nI 0), .ref 47, .int (nI (32 + i)), .ref 62] from rfl) rfl ?_
      refine ew_iload d_Mo_nextLayer_52 rfl ?_
      refine en_iadd d_Mo_nextLayer_54 ?_
      refine ew_iald (j := 16 + i) d_Mo_nextLayer_55 rfl (rfl) (by omega) (by decide) ?_
      refine en_eq (st' := [.int (nI (f (i + 16))), .int (nI (f i)), .int (nI i), .int (nI 0), .ref 47, .int (nI (32 + i)), .ref 62]) rfl (by rw [show (M 62 (16 + i)) = (nI (f (i + 16))) from by rw [hI.2.1 _ (by omega), show 16 + i = 0 + (i + 16) by omega]; exact (hf (i + 16) (by omega)).1]) rfl ?_
      refine en_callV (As := [.int (nI 0), .int (nI i), .int (nI (f i)), .int (nI (f (i + 16)))]) (i := 47) (ci := 9) (st := [.int (nI (32 + i)), .ref 62]) (st1 := [.int (nI (sp_fo 1 i (f i) (f (i + 16)) B)), .int (nI (32 + i)), .ref 62]) d_Mo_nextLayer_56 k_Mo_folded rfl rfl tw_783 tw_785 tp_41 rfl (Nat.le_of_ble_eq_true rfl) rfl (Nat.le_of_ble_eq_true rfl) rfl rfl (c_Mo_folded0 l g _ L M (sp_rts_of hR (hI.1 60 (by decide))) i (f i) (f (i + 16)) B (by omega) ((hf i (by omega)).2) ((hf (i + 16) (by omega)).2) (hB) (by rw [hI.1 57 (by decide)]; exact hB0)) rfl ?_
      refine ew_iast (j := 32 + i) d_Mo_nextLayer_59 rfl (by decide) (rfl) (by omega) (by decide) ?_
      refine en_inc (ls' := [.ref 47, .int (nI 0), .int (nI 16), .int (nI 0), .int (nI (i + 1))]) d_Mo_nextLayer_60 rfl rfl ?_
      refine ew_goto (tgt := 13) d_Mo_nextLayer_63 (by decide) ?_
      exact ih (i + 1) _ (by omega) (by omega) (sp_ni0_s hI)
set_option maxRecDepth 100000 in
theorem c_Mo_nextLayer0 (l : Launch) (g : ew_G) (d L : Nat) (M : ew_M) (hR : sp_rts M) (f : Nat → Nat) (B : Nat) (hf : ∀ t, t < 32 → M 62 (0 + t) = nI (f t) ∧ f t < 12289) (hB : B < 12289) (hB0 : M 57 0 = nI B) :
    Ew l g (d + 3) 0 0 m_Mo_nextLayer 0 [.ref 47, .int (nI 0), .retAddr 0, .retAddr 0, .retAddr 0] [] (ew_SH L) M (sp_nq0 f B L M) := by
  refine ew_bipush (v := nI 16) d_Mo_nextLayer_0 (by decide) ?_
  refine ew_iload_n d_Mo_nextLayer_2 rfl ?_
  refine ew_ishr d_Mo_nextLayer_3 ?_
  refine en_eq (st' := [.int (nI 16)]) rfl (by rw [show ((nI 16) >>> ((nI 0) &&& 31)) = (nI 16) from by decide]) rfl ?_
  refine en_istore_n (ls' := [.ref 47, .int (nI 0), .int (nI 16), .retAddr 0, .retAddr 0]) d_Mo_nextLayer_4 (Nat.le_of_ble_eq_true rfl) rfl ?_
  refine ew_iload_n d_Mo_nextLayer_5 rfl ?_
  refine en_callS (As := [.int (nI 0)]) (st := []) (st1 := [.int (nI 0)]) d_Mo_nextLayer_6 k_Mo_layerFrom tw_767 tw_768 rfl (Nat.le_of_ble_eq_true rfl) rfl (Nat.le_of_ble_eq_true rfl) rfl rfl (c_Mo_layerFrom0 l g _ L M) rfl ?_
  refine en_istore_n (ls' := [.ref 47, .int (nI 0), .int (nI 16), .int (nI 0), .retAddr 0]) d_Mo_nextLayer_9 (Nat.le_of_ble_eq_true rfl) rfl ?_
  refine ew_iconst (v := nI 0) d_Mo_nextLayer_10 (by decide) ?_
  refine en_istore (ls' := [.ref 47, .int (nI 0), .int (nI 16), .int (nI 0), .int (nI 0)]) d_Mo_nextLayer_11 (Nat.le_of_ble_eq_true rfl) rfl ?_
  exact lp_Mo_nextLayer0 l g d L M hR f B hf hB hB0 17 0 M (by omega) (by omega) ⟨fun _ _ => rfl, fun _ _ => rfl, fun t ht => absurd ht (Nat.not_lt_zero _)⟩
def sp_ni1 (f : Nat → Nat) (B : Nat) (M0 : ew_M) (i : Nat) (M : ew_M) : Prop := (∀ q, q ≠ 62 → M q = M0 q) ∧ (∀ j, j < 48 → M 62 j = M0 62 j) ∧ ∀ t, t < i → M 62 (48 + t) = nI (sp_fo 2 t (f t) (f (t + 8)) B)
theorem sp_ni1_s {f : Nat → Nat} {B : Nat} {M0 M : ew_M} {i : Nat} (h : sp_ni1 f B M0 i M) : sp_ni1 f B M0 (i + 1) (ew_w M 62 (48 + i) (nI (sp_fo 2 i (f i) (f (i + 8)) B))) := by
  obtain ⟨h1, h2, h3⟩ := h
  refine ⟨fun q hq => (ew_w_ne hq).trans (h1 q hq), fun j hj => (ew_w_j (by omega)).trans (h2 j hj), fun t ht => ?_⟩
  by_cases e : t = i
  · subst e
    exact ew_w_at
  · exact (ew_w_j (by omega)).trans (h3 t (by omega))
def sp_nq1 (f : Nat → Nat) (B L : Nat) (M0 : ew_M) : Option Value → List ew_S → ew_M → Prop := fun v sh' M' => sh' = ew_SH L ∧ v = none ∧ sp_ni1 f B M0 8 M'
set_option maxRecDepth 100000 in
theorem lp_Mo_nextLayer1 (l : Launch) (g : ew_G) (d L : Nat) (M0 : ew_M) (hR : sp_rts M0) (f : Nat → Nat) (B : Nat) (hf : ∀ t, t < 16 → M0 62 (32 + t) = nI (f t) ∧ f t < 12289) (hB : B < 12289) (hB0 : M0 57 1 = nI B) : ∀ (fu i : Nat) (M : ew_M), 8 - i < fu → i ≤ 8 → sp_ni1 f B M0 i M → Ew l g (d + 3) 0 0 m_Mo_nextLayer 13 [.ref 47, .int (nI 1), .int (nI 8), .int (nI 32), .int (nI i)] [] (ew_SH L) M (sp_nq1 f B L M0) := by
  intro fu
  induction fu with
  | zero =>
    intro i M hn
    exact absurd hn (Nat.not_lt_zero _)
  | succ fu ih =>
    intro i M hn hle hI
    refine ew_iload d_Mo_nextLayer_13 rfl ?_
    refine ew_iload_n d_Mo_nextLayer_15 rfl ?_
    refine en_icmp_ge (tgt := 66) d_Mo_nextLayer_16 (by decide) (by omega) (by omega) (fun h16 => ?_) (fun h16 => ?_)
    · obtain rfl : i = 8 := by omega
      exact ew_ret d_Mo_nextLayer_66 rfl (⟨rfl, rfl, hI⟩)
    · refine ew_aload_n d_Mo_nextLayer_19 rfl ?_
      refine ew_getr (ci := 9) (f := 21) d_Mo_nextLayer_20 rfl rfl rfl tw_612 ?_
      refine ew_iload_n d_Mo_nextLayer_23 rfl ?_
      refine ew_iconst (v := nI 1) d_Mo_nextLayer_24 (by decide) ?_
      refine en_iadd d_Mo_nextLayer_25 ?_
      refine en_eq rfl (show _ = [.int (nI 2), .ref 62] from rfl) rfl ?_
      refine en_callS (As := [.int (nI 2)]) (st := [.ref 62]) (st1 := [.int (nI 48), .ref 62]) d_Mo_nextLayer_26 k_Mo_layerFrom tw_767 tw_768 rfl (Nat.le_of_ble_eq_true rfl) rfl (Nat.le_of_ble_eq_true rfl) rfl rfl (c_Mo_layerFrom2 l g _ L M) rfl ?_
      refine ew_iload d_Mo_nextLayer_29 rfl ?_
      refine en_iadd d_Mo_nextLayer_31 ?_
      refine ew_aload_n d_Mo_nextLayer_32 rfl ?_
      refine ew_iload_n d_Mo_nextLayer_33 rfl ?_
      refine ew_iload d_Mo_nextLayer_34 rfl ?_
      refine ew_aload_n d_Mo_nextLayer_36 rfl ?_
      refine ew_getr (ci := 9) (f := 21) d_Mo_nextLayer_37 rfl rfl rfl tw_612 ?_
      refine ew_iload_n d_Mo_nextLayer_40 rfl ?_
      refine ew_iload d_Mo_nextLayer_41 rfl ?_
      refine en_iadd d_Mo_nextLayer_43 ?_
      refine ew_iald (j := 32 + i) d_Mo_nextLayer_44 rfl (rfl) (by omega) (by decide) ?_
      refine en_eq (st' := [.int (nI (f i)), .int (nI i), .int (nI 1), .ref 47, .int (nI (48 + i)), .ref 62]) rfl (by rw [show (M 62 (32 + i)) = (nI (f i)) from by rw [hI.2.1 _ (by omega)]; exact (hf i (by omega)).1]) rfl ?_
      refine ew_aload_n d_Mo_nextLayer_45 rfl ?_
      refine ew_getr (ci := 9) (f := 21) d_Mo_nextLayer_46 rfl rfl rfl tw_612 ?_
      refine ew_iload_n d_Mo_nextLayer_49 rfl ?_
      refine ew_iload_n d_Mo_nextLayer_50 rfl ?_
      refine en_iadd d_Mo_nextLayer_51 ?_
      refine en_eq rfl (show _ = [.int (nI 40), .ref 62, .int (nI (f i)), .int (nI i), .int (nI 1), .ref 47, .int (nI (48 + i)), .ref 62] from rfl) rfl ?_
      refine ew_iload d_Mo_nextLayer_52 rfl ?_
      refine en_iadd d_Mo_nextLayer_54 ?_
      refine ew_iald (j := 40 + i) d_Mo_nextLayer_55 rfl (rfl) (by omega) (by decide) ?_
      refine en_eq (st' := [.int (nI (f (i + 8))), .int (nI (f i)), .int (nI i), .int (nI 1), .ref 47, .int (nI (48 + i)), .ref 62]) rfl (by rw [show (M 62 (40 + i)) = (nI (f (i + 8))) from by rw [hI.2.1 _ (by omega), show 40 + i = 32 + (i + 8) by omega]; exact (hf (i + 8) (by omega)).1]) rfl ?_
      refine en_callV (As := [.int (nI 1), .int (nI i), .int (nI (f i)), .int (nI (f (i + 8)))]) (i := 47) (ci := 9) (st := [.int (nI (48 + i)), .ref 62]) (st1 := [.int (nI (sp_fo 2 i (f i) (f (i + 8)) B)), .int (nI (48 + i)), .ref 62]) d_Mo_nextLayer_56 k_Mo_folded rfl rfl tw_783 tw_785 tp_41 rfl (Nat.le_of_ble_eq_true rfl) rfl (Nat.le_of_ble_eq_true rfl) rfl rfl (c_Mo_folded1 l g _ L M (sp_rts_of hR (hI.1 60 (by decide))) i (f i) (f (i + 8)) B (by omega) ((hf i (by omega)).2) ((hf (i + 8) (by omega)).2) (hB) (by rw [hI.1 57 (by decide)]; exact hB0)) rfl ?_
      refine ew_iast (j := 48 + i) d_Mo_nextLayer_59 rfl (by decide) (rfl) (by omega) (by decide) ?_
      refine en_inc (ls' := [.ref 47, .int (nI 1), .int (nI 8), .int (nI 32), .int (nI (i + 1))]) d_Mo_nextLayer_60 rfl rfl ?_
      refine ew_goto (tgt := 13) d_Mo_nextLayer_63 (by decide) ?_
      exact ih (i + 1) _ (by omega) (by omega) (sp_ni1_s hI)
set_option maxRecDepth 100000 in
theorem c_Mo_nextLayer1 (l : Launch) (g : ew_G) (d L : Nat) (M : ew_M) (hR : sp_rts M) (f : Nat → Nat) (B : Nat) (hf : ∀ t, t < 16 → M 62 (32 + t) = nI (f t) ∧ f t < 12289) (hB : B < 12289) (hB0 : M 57 1 = nI B) :
    Ew l g (d + 3) 0 0 m_Mo_nextLayer 0 [.ref 47, .int (nI 1), .retAddr 0, .retAddr 0, .retAddr 0] [] (ew_SH L) M (sp_nq1 f B L M) := by
  refine ew_bipush (v := nI 16) d_Mo_nextLayer_0 (by decide) ?_
  refine ew_iload_n d_Mo_nextLayer_2 rfl ?_
  refine ew_ishr d_Mo_nextLayer_3 ?_
  refine en_eq (st' := [.int (nI 8)]) rfl (by rw [show ((nI 16) >>> ((nI 1) &&& 31)) = (nI 8) from by decide]) rfl ?_
  refine en_istore_n (ls' := [.ref 47, .int (nI 1), .int (nI 8), .retAddr 0, .retAddr 0]) d_Mo_nextLayer_4 (Nat.le_of_ble_eq_true rfl) rfl ?_
  refine ew_iload_n d_Mo_nextLayer_5 rfl ?_
  refine en_callS (As := [.int (nI 1)]) (st := []) (st1 := [.int (nI 32)]) d_Mo_nextLayer_6 k_Mo_layerFrom tw_767 tw_768 rfl (Nat.le_of_ble_eq_true rfl) rfl (Nat.le_of_ble_eq_true rfl) rfl rfl (c_Mo_layerFrom1 l g _ L M) rfl ?_
  refine en_istore_n (ls' := [.ref 47, .int (nI 1), .int (nI 8), .int (nI 32), .retAddr 0]) d_Mo_nextLayer_9 (Nat.le_of_ble_eq_true rfl) rfl ?_
  refine ew_iconst (v := nI 0) d_Mo_nextLayer_10 (by decide) ?_
  refine en_istore (ls' := [.ref 47, .int (nI 1), .int (nI 8), .int (nI 32), .int (nI 0)]) d_Mo_nextLayer_11 (Nat.le_of_ble_eq_true rfl) rfl ?_
  exact lp_Mo_nextLayer1 l g d L M hR f B hf hB hB0 9 0 M (by omega) (by omega) ⟨fun _ _ => rfl, fun _ _ => rfl, fun t ht => absurd ht (Nat.not_lt_zero _)⟩
def sp_ni2 (f : Nat → Nat) (B : Nat) (M0 : ew_M) (i : Nat) (M : ew_M) : Prop := (∀ q, q ≠ 62 → M q = M0 q) ∧ (∀ j, j < 56 → M 62 j = M0 62 j) ∧ ∀ t, t < i → M 62 (56 + t) = nI (sp_fo 4 t (f t) (f (t + 4)) B)
theorem sp_ni2_s {f : Nat → Nat} {B : Nat} {M0 M : ew_M} {i : Nat} (h : sp_ni2 f B M0 i M) : sp_ni2 f B M0 (i + 1) (ew_w M 62 (56 + i) (nI (sp_fo 4 i (f i) (f (i + 4)) B))) := by
  obtain ⟨h1, h2, h3⟩ := h
  refine ⟨fun q hq => (ew_w_ne hq).trans (h1 q hq), fun j hj => (ew_w_j (by omega)).trans (h2 j hj), fun t ht => ?_⟩
  by_cases e : t = i
  · subst e
    exact ew_w_at
  · exact (ew_w_j (by omega)).trans (h3 t (by omega))
def sp_nq2 (f : Nat → Nat) (B L : Nat) (M0 : ew_M) : Option Value → List ew_S → ew_M → Prop := fun v sh' M' => sh' = ew_SH L ∧ v = none ∧ sp_ni2 f B M0 4 M'
set_option maxRecDepth 100000 in
theorem lp_Mo_nextLayer2 (l : Launch) (g : ew_G) (d L : Nat) (M0 : ew_M) (hR : sp_rts M0) (f : Nat → Nat) (B : Nat) (hf : ∀ t, t < 8 → M0 62 (48 + t) = nI (f t) ∧ f t < 12289) (hB : B < 12289) (hB0 : M0 57 2 = nI B) : ∀ (fu i : Nat) (M : ew_M), 4 - i < fu → i ≤ 4 → sp_ni2 f B M0 i M → Ew l g (d + 3) 0 0 m_Mo_nextLayer 13 [.ref 47, .int (nI 2), .int (nI 4), .int (nI 48), .int (nI i)] [] (ew_SH L) M (sp_nq2 f B L M0) := by
  intro fu
  induction fu with
  | zero =>
    intro i M hn
    exact absurd hn (Nat.not_lt_zero _)
  | succ fu ih =>
    intro i M hn hle hI
    refine ew_iload d_Mo_nextLayer_13 rfl ?_
    refine ew_iload_n d_Mo_nextLayer_15 rfl ?_
    refine en_icmp_ge (tgt := 66) d_Mo_nextLayer_16 (by decide) (by omega) (by omega) (fun h16 => ?_) (fun h16 => ?_)
    · obtain rfl : i = 4 := by omega
      exact ew_ret d_Mo_nextLayer_66 rfl (⟨rfl, rfl, hI⟩)
    · refine ew_aload_n d_Mo_nextLayer_19 rfl ?_
      refine ew_getr (ci := 9) (f := 21) d_Mo_nextLayer_20 rfl rfl rfl tw_612 ?_
      refine ew_iload_n d_Mo_nextLayer_23 rfl ?_
      refine ew_iconst (v := nI 1) d_Mo_nextLayer_24 (by decide) ?_
      refine en_iadd d_Mo_nextLayer_25 ?_
      refine en_eq rfl (show _ = [.int (nI 3), .ref 62] from rfl) rfl ?_
      refine en_callS (As := [.int (nI 3)]) (st := [.ref 62]) (st1 := [.int (nI 56), .ref 62]) d_Mo_nextLayer_26 k_Mo_layerFrom tw_767 tw_768 rfl (Nat.le_of_ble_eq_true rfl) rfl (Nat.le_of_ble_eq_true rfl) rfl rfl (c_Mo_layerFrom3 l g _ L M) rfl ?_
      refine ew_iload d_Mo_nextLayer_29 rfl ?_
      refine en_iadd d_Mo_nextLayer_31 ?_
      refine ew_aload_n d_Mo_nextLayer_32 rfl ?_
      refine ew_iload_n d_Mo_nextLayer_33 rfl ?_
      refine ew_iload d_Mo_nextLayer_34 rfl ?_
      refine ew_aload_n d_Mo_nextLayer_36 rfl ?_
      refine ew_getr (ci := 9) (f := 21) d_Mo_nextLayer_37 rfl rfl rfl tw_612 ?_
      refine ew_iload_n d_Mo_nextLayer_40 rfl ?_
      refine ew_iload d_Mo_nextLayer_41 rfl ?_
      refine en_iadd d_Mo_nextLayer_43 ?_
      refine ew_iald (j := 48 + i) d_Mo_nextLayer_44 rfl (rfl) (by omega) (by decide) ?_
      refine en_eq (st' := [.int (nI (f i)), .int (nI i), .int (nI 2), .ref 47, .int (nI (56 + i)), .ref 62]) rfl (by rw [show (M 62 (48 + i)) = (nI (f i)) from by rw [hI.2.1 _ (by omega)]; exact (hf i (by omega)).1]) rfl ?_
      refine ew_aload_n d_Mo_nextLayer_45 rfl ?_
      refine ew_getr (ci := 9) (f := 21) d_Mo_nextLayer_46 rfl rfl rfl tw_612 ?_
      refine ew_iload_n d_Mo_nextLayer_49 rfl ?_
      refine ew_iload_n d_Mo_nextLayer_50 rfl ?_
      refine en_iadd d_Mo_nextLayer_51 ?_
      refine en_eq rfl (show _ = [.int (nI 52), .ref 62, .int (nI (f i)), .int (nI i), .int (nI 2), .ref 47, .int (nI (56 + i)), .ref 62] from rfl) rfl ?_
      refine ew_iload d_Mo_nextLayer_52 rfl ?_
      refine en_iadd d_Mo_nextLayer_54 ?_
      refine ew_iald (j := 52 + i) d_Mo_nextLayer_55 rfl (rfl) (by omega) (by decide) ?_
      refine en_eq (st' := [.int (nI (f (i + 4))), .int (nI (f i)), .int (nI i), .int (nI 2), .ref 47, .int (nI (56 + i)), .ref 62]) rfl (by rw [show (M 62 (52 + i)) = (nI (f (i + 4))) from by rw [hI.2.1 _ (by omega), show 52 + i = 48 + (i + 4) by omega]; exact (hf (i + 4) (by omega)).1]) rfl ?_
      refine en_callV (As := [.int (nI 2), .int (nI i), .int (nI (f i)), .int (nI (f (i + 4)))]) (i := 47) (ci := 9) (st := [.int (nI (56 + i)), .ref 62]) (st1 := [.int (nI (sp_fo 4 i (f i) (f (i + 4)) B)), .int (nI (56 + i)), .ref 62]) d_Mo_nextLayer_56 k_Mo_folded rfl rfl tw_783 tw_785 tp_41 rfl (Nat.le_of_ble_eq_true rfl) rfl (Nat.le_of_ble_eq_true rfl) rfl rfl (c_Mo_folded2 l g _ L M (sp_rts_of hR (hI.1 60 (by decide))) i (f i) (f (i + 4)) B (by omega) ((hf i (by omega)).2) ((hf (i + 4) (by omega)).2) (hB) (by rw [hI.1 57 (by decide)]; exact hB0)) rfl ?_
      refine ew_iast (j := 56 + i) d_Mo_nextLayer_59 rfl (by decide) (rfl) (by omega) (by decide) ?_
      refine en_inc (ls' := [.ref 47, .int (nI 2), .int (nI 4), .int (nI 48), .int (nI (i + 1))]) d_Mo_nextLayer_60 rfl rfl ?_
      refine ew_goto (tgt := 13) d_Mo_nextLayer_63 (by decide) ?_
      exact ih (i + 1) _ (by omega) (by omega) (sp_ni2_s hI)
set_option maxRecDepth 100000 in
theorem c_Mo_nextLayer2 (l : Launch) (g : ew_G) (d L : Nat) (M : ew_M) (hR : sp_rts M) (f : Nat → Nat) (B : Nat) (hf : ∀ t, t < 8 → M 62 (48 + t) = nI (f t) ∧ f t < 12289) (hB : B < 12289) (hB0 : M 57 2 = nI B) :
    Ew l g (d + 3) 0 0 m_Mo_nextLayer 0 [.ref 47, .int (nI 2), .retAddr 0, .retAddr 0, .retAddr 0] [] (ew_SH L) M (sp_nq2 f B L M) := by
  refine ew_bipush (v := nI 16) d_Mo_nextLayer_0 (by decide) ?_
  refine ew_iload_n d_Mo_nextLayer_2 rfl ?_
  refine ew_ishr d_Mo_nextLayer_3 ?_
  refine en_eq (st' := [.int (nI 4)]) rfl (by rw [show ((nI 16) >>> ((nI 2) &&& 31)) = (nI 4) from by decide]) rfl ?_
  refine en_istore_n (ls' := [.ref 47, .int (nI 2), .int (nI 4), .retAddr 0, .retAddr 0]) d_Mo_nextLayer_4 (Nat.le_of_ble_eq_true rfl) rfl ?_
  refine ew_iload_n d_Mo_nextLayer_5 rfl ?_
  refine en_callS (As := [.int (nI 2)]) (st := []) (st1 := [.int (nI 48)]) d_Mo_nextLayer_6 k_Mo_layerFrom tw_767 tw_768 rfl (Nat.le_of_ble_eq_true rfl) rfl (Nat.le_of_ble_eq_true rfl) rfl rfl (c_Mo_layerFrom2 l g _ L M) rfl ?_
  refine en_istore_n (ls' := [.ref 47, .int (nI 2), .int (nI 4), .int (nI 48), .retAddr 0]) d_Mo_nextLayer_9 (Nat.le_of_ble_eq_true rfl) rfl ?_
  refine ew_iconst (v := nI 0) d_Mo_nextLayer_10 (by decide) ?_
  refine en_istore (ls' := [.ref 47, .int (nI 2), .int (nI 4), .int (nI 48), .int (nI 0)]) d_Mo_nextLayer_11 (Nat.le_of_ble_eq_true rfl) rfl ?_
  exact lp_Mo_nextLayer2 l g d L M hR f B hf hB hB0 5 0 M (by omega) (by omega) ⟨fun _ _ => rfl, fun _ _ => rfl, fun t ht => absurd ht (Nat.not_lt_zero _)⟩
