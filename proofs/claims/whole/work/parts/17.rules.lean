abbrev sp_R : Type := (Nat → Nat) × (Nat → Nat → Nat) × (Nat → Nat → Nat) × (Nat → Nat → Nat) × Nat × (Nat → Nat) × (Nat → Nat) × (Nat → Nat)
def r_cn (ρ : sp_R) : Nat → Nat := ρ.1
def r_tk (ρ : sp_R) : Nat → Nat → Nat := ρ.2.1
def r_tu (ρ : sp_R) : Nat → Nat → Nat := ρ.2.2.1
def r_tv (ρ : sp_R) : Nat → Nat → Nat := ρ.2.2.2.1
def r_bn (ρ : sp_R) : Nat := ρ.2.2.2.2.1
def r_bc (ρ : sp_R) : Nat → Nat := ρ.2.2.2.2.2.1
def r_br (ρ : sp_R) : Nat → Nat := ρ.2.2.2.2.2.2.1
def r_bv (ρ : sp_R) : Nat → Nat := ρ.2.2.2.2.2.2.2
def sp_okR (ρ : sp_R) : Prop := (∀ c, c < 2 → r_cn ρ c ≤ 6) ∧ (∀ c t, c < 2 → t < r_cn ρ c → r_tk ρ c t < 12289 ∧ r_tu ρ c t < 5 ∧ r_tv ρ c t < 5) ∧ r_bn ρ ≤ 4 ∧ ∀ b, b < r_bn ρ → r_bc ρ b < 2 ∧ r_br ρ b < 8 ∧ r_bv ρ b < 12289
/-- the rules as the class has them -/
def sp_ru (ρ : sp_R) (M : ew_M) : Prop := sp_okR ρ ∧ (∀ c, c < 2 → M 11 c = nI (r_cn ρ c)) ∧ (∀ t, t < r_cn ρ 0 → M 13 (3 * t) = nI (r_tk ρ 0 t) ∧ M 13 (3 * t + 1) = nI (r_tu ρ 0 t) ∧ M 13 (3 * t + 2) = nI (r_tv ρ 0 t)) ∧ (∀ t, t < r_cn ρ 1 → M 14 (3 * t) = nI (r_tk ρ 1 t) ∧ M 14 (3 * t + 1) = nI (r_tu ρ 1 t) ∧ M 14 (3 * t + 2) = nI (r_tv ρ 1 t)) ∧ M 10 4 = nI (r_bn ρ) ∧ ∀ b, b < r_bn ρ → M 15 (3 * b) = nI (r_bc ρ b) ∧ M 15 (3 * b + 1) = nI (r_br ρ b) ∧ M 15 (3 * b + 2) = nI (r_bv ρ b)
/-- the rules as the reference has them -/
def sp_rm (ρ : sp_R) (M : ew_M) : Prop := sp_okR ρ ∧ (∀ c, c < 2 → M 49 c = nI (r_cn ρ c)) ∧ (∀ c t, c < 2 → t < r_cn ρ c → M 50 (6 * c + t) = nI (r_tk ρ c t) ∧ M 51 (6 * c + t) = nI (r_tu ρ c t) ∧ M 52 (6 * c + t) = nI (r_tv ρ c t)) ∧ M 47 5 = nI (r_bn ρ) ∧ ∀ b, b < r_bn ρ → M 53 b = nI (r_bc ρ b) ∧ M 54 b = nI (r_br ρ b) ∧ M 55 b = nI (r_bv ρ b)
def sp_cc (ρ : sp_R) : Nat := if 0 < r_cn ρ 1 then 2 else if 0 < r_cn ρ 0 then 1 else 0
def sp_ts (ρ : sp_R) (c : Nat) (le : Nat → Nat) : Nat → Nat
  | 0 => 0
  | t + 1 => (sp_ts ρ c le t + r_tk ρ c t * (le (r_tu ρ c t) * le (r_tv ρ c t) % 12289) % 12289) % 12289
theorem sp_ts_lt (ρ : sp_R) (c : Nat) (le : Nat → Nat) : ∀ t : Nat, sp_ts ρ c le t < 12289
  | 0 => Nat.zero_lt_succ _
  | t + 1 => ep_lt _
def sp_w (A : Nat) : Nat → Nat
  | 0 => 1
  | j + 1 => sp_w A j * A % 12289
theorem sp_w_lt (A : Nat) : ∀ j : Nat, sp_w A j < 12289
  | 0 => Nat.succ_lt_succ (Nat.zero_lt_succ _)
  | j + 1 => ep_lt _
def sp_cs (ρ : sp_R) (le : Nat → Nat) (i A : Nat) : Nat → Nat
  | 0 => 0
  | c + 1 => (sp_cs ρ le i A c + sp_w A c * (sp_ts ρ c le (r_cn ρ c) * tb_cf i % 12289) % 12289) % 12289
theorem sp_cs_lt (ρ : sp_R) (le : Nat → Nat) (i A : Nat) : ∀ c : Nat, sp_cs ρ le i A c < 12289
  | 0 => Nat.zero_lt_succ _
  | c + 1 => ep_lt _
def sp_cb (ρ : sp_R) (le : Nat → Nat) (i A : Nat) : Nat → Nat
  | 0 => sp_cs ρ le i A (sp_cc ρ)
  | b + 1 => (sp_cb ρ le i A b + sp_w A (sp_cc ρ + b) * (((le (1 + r_bc ρ b) + 12289 - r_bv ρ b) % 12289) * sp_bf i (r_br ρ b) % 12289) % 12289) % 12289
theorem sp_cb_lt (ρ : sp_R) (le : Nat → Nat) (i A : Nat) : ∀ b : Nat, sp_cb ρ le i A b < 12289
  | 0 => sp_cs_lt _ _ _ _ _
  | b + 1 => ep_lt _
def sp_com (ρ : sp_R) (le : Nat → Nat) (i A : Nat) : Nat := sp_cb ρ le i A (r_bn ρ)
def sp_le (a b c d : Nat) : Nat → Nat := fun j => match j with
  | 0 => 1
  | 1 => a
  | 2 => b
  | 3 => c
  | _ => d
def sp_hle (le : Nat → Nat) (f : Nat → Int32) : Prop := ∀ j, j < 5 → f j = nI (le j) ∧ le j < 12289
def sp_rd (M : ew_M) (k : Nat) (a b c d : Int32) : ew_M := ew_w (ew_w (ew_w (ew_w M k 1 a) k 2 b) k 3 c) k 4 d
theorem sp_rd_ne {M : ew_M} {k q : Nat} {a b c d : Int32} (h : q ≠ k) : sp_rd M k a b c d q = M q := by
  unfold sp_rd
  rw [ew_w_ne h, ew_w_ne h, ew_w_ne h, ew_w_ne h]
theorem sp_rd_le {M : ew_M} {k a b c d : Nat} (h0 : M k 0 = nI 1) (ha : a < 12289) (hb : b < 12289) (hc : c < 12289) (hd : d < 12289) : sp_hle (sp_le a b c d) (sp_rd M k (nI a) (nI b) (nI c) (nI d) k) := by
  intro j hj
  unfold sp_rd
  rw [ew_w_self, ew_w_self, ew_w_self, ew_w_self]
  rcases (show j = 0 ∨ j = 1 ∨ j = 2 ∨ j = 3 ∨ j = 4 by omega) with rfl | rfl | rfl | rfl | rfl
  · exact ⟨by simp [upd, h0, sp_le], by show (1 : Nat) < 12289; decide⟩
  · exact ⟨by simp [upd, sp_le], ha⟩
  · exact ⟨by simp [upd, sp_le], hb⟩
  · exact ⟨by simp [upd, sp_le], hc⟩
  · exact ⟨by simp [upd, sp_le], hd⟩
theorem sp_rd_0 {M : ew_M} {k : Nat} {a b c d : Int32} : sp_rd M k a b c d k 0 = M k 0 := by
  unfold sp_rd
  rw [ew_w_self, ew_w_self, ew_w_self, ew_w_self]
  simp [upd]
def sp_tp (f : Nat → Int32) (t : Int32) : Nat → Int32
  | 0 => t
  | i + 1 => sp_mix (sp_tp f t i) (f i)
theorem ew_ww {M : ew_M} {i j : Nat} {x y : Int32} : ew_w (ew_w M i j x) i j y = ew_w M i j y := by
  funext q r
  unfold ew_w ew_up
  by_cases h : q = i
  · subst h
    simp only [if_true]
    unfold upd
    by_cases hr : r = j <;> simp [hr]
  · simp [h]
theorem ew_w_at {M : ew_M} {i j : Nat} {x : Int32} : ew_w M i j x i j = x := by
  rw [ew_w_self]
  simp [upd]
theorem ew_w_j {M : ew_M} {i j r : Nat} {x : Int32} (h : r ≠ j) : ew_w M i j x i r = M i r := by
  rw [ew_w_self]
  simp [upd, h]
def sp_ch (t : Int32) : Nat := t.toBitVec.toNat % 2 ^ 31 % 12289
def sp_po (t : Int32) : Nat := t.toBitVec.toNat % 2 ^ 31 % 16
theorem sp_ch_lt (t : Int32) : sp_ch t < 12289 := ep_lt _
theorem sp_po_lt (t : Int32) : sp_po t < 16 := Nat.mod_lt _ (by decide)
theorem sp_dr (t : Int32) {n : Nat} (h0 : 0 < n) (hn : n < 2 ^ 31) : (t &&& nI 2147483647) - (t &&& nI 2147483647) / nI n * nI n = nI (t.toBitVec.toNat % 2 ^ 31 % n) := by
  rw [pk_and t 31 (by decide), pk_rem (Nat.mod_lt _ (by decide)) h0 hn]
theorem sp_bf_lt (i r : Nat) : sp_bf i r < 12289 := ep_lt _
set_option maxRecDepth 100000 in
theorem c_Ru_boundColumn (l : Launch) (g : ew_G) (d L : Nat) (M : ew_M) (ρ : sp_R) (hr : sp_ru ρ M) (b : Nat) (hb : b < r_bn ρ) :
    Ew l g d 0 0 m_Ru_boundColumn 0 [.ref 10, .int (nI b)] [] (ew_SH L) M (ew_q (some (.int (nI (r_bc ρ b)))) (ew_SH L) M) := by
  refine ew_aload_n d_Ru_boundColumn_0 rfl ?_
  refine ew_getr (ci := 2) (f := 3) d_Ru_boundColumn_1 rfl rfl rfl tw_72 ?_
  refine ew_iconst (v := nI 3) d_Ru_boundColumn_4 (by decide) ?_
  refine ew_iload_n d_Ru_boundColumn_5 rfl ?_
  refine en_imul d_Ru_boundColumn_6 ?_
  refine ew_iald (j := 3 * b) d_Ru_boundColumn_7 rfl (rfl) (by have := hr.1.2.2.1; omega) (by decide) ?_
  refine en_eq (st' := [.int (nI (r_bc ρ b))]) rfl (by rw [show (M 15 (3 * b)) = (nI (r_bc ρ b)) from (hr.2.2.2.2.2 b hb).1]) rfl ?_
  exact ew_iret d_Ru_boundColumn_8 rfl (⟨rfl, rfl, rfl⟩)
set_option maxRecDepth 100000 in
theorem c_Ru_boundRow (l : Launch) (g : ew_G) (d L : Nat) (M : ew_M) (ρ : sp_R) (hr : sp_ru ρ M) (b : Nat) (hb : b < r_bn ρ) :
    Ew l g d 0 0 m_Ru_boundRow 0 [.ref 10, .int (nI b)] [] (ew_SH L) M (ew_q (some (.int (nI (r_br ρ b)))) (ew_SH L) M) := by
  refine ew_aload_n d_Ru_boundRow_0 rfl ?_
  refine ew_getr (ci := 2) (f := 3) d_Ru_boundRow_1 rfl rfl rfl tw_72 ?_
  refine ew_iconst (v := nI 3) d_Ru_boundRow_4 (by decide) ?_
  refine ew_iload_n d_Ru_boundRow_5 rfl ?_
  refine en_imul d_Ru_boundRow_6 ?_
  refine ew_iconst (v := nI 1) d_Ru_boundRow_7 (by decide) ?_
  refine en_iadd d_Ru_boundRow_8 ?_
  refine ew_iald (j := (3 * b) + 1) d_Ru_boundRow_9 rfl (rfl) (by have := hr.1.2.2.1; omega) (by decide) ?_
  refine en_eq (st' := [.int (nI (r_br ρ b))]) rfl (by rw [show (M 15 ((3 * b) + 1)) = (nI (r_br ρ b)) from (hr.2.2.2.2.2 b hb).2.1]) rfl ?_
  exact ew_iret d_Ru_boundRow_10 rfl (⟨rfl, rfl, rfl⟩)
set_option maxRecDepth 100000 in
theorem c_Ru_boundValue (l : Launch) (g : ew_G) (d L : Nat) (M : ew_M) (ρ : sp_R) (hr : sp_ru ρ M) (b : Nat) (hb : b < r_bn ρ) :
    Ew l g d 0 0 m_Ru_boundValue 0 [.ref 10, .int (nI b)] [] (ew_SH L) M (ew_q (some (.int (nI (r_bv ρ b)))) (ew_SH L) M) := by
  refine ew_aload_n d_Ru_boundValue_0 rfl ?_
  refine ew_getr (ci := 2) (f := 3) d_Ru_boundValue_1 rfl rfl rfl tw_72 ?_
  refine ew_iconst (v := nI 3) d_Ru_boundValue_4 (by decide) ?_
  refine ew_iload_n d_Ru_boundValue_5 rfl ?_
  refine en_imul d_Ru_boundValue_6 ?_
  refine ew_iconst (v := nI 2) d_Ru_boundValue_7 (by decide) ?_
  refine en_iadd d_Ru_boundValue_8 ?_
  refine ew_iald (j := (3 * b) + 2) d_Ru_boundValue_9 rfl (rfl) (by have := hr.1.2.2.1; omega) (by decide) ?_
  refine en_eq (st' := [.int (nI (r_bv ρ b))]) rfl (by rw [show (M 15 ((3 * b) + 2)) = (nI (r_bv ρ b)) from (hr.2.2.2.2.2 b hb).2.2]) rfl ?_
  exact ew_iret d_Ru_boundValue_10 rfl (⟨rfl, rfl, rfl⟩)
set_option maxRecDepth 100000 in
theorem c_Ru_read (l : Launch) (g : ew_G) (d L : Nat) (M : ew_M) (a b c e : Int32) :
    Ew l g d 0 0 m_Ru_read 0 [.ref 10, .int a, .int b, .int c, .int e] [] (ew_SH L) M (ew_q (none) (ew_SH L) (sp_rd M 16 a b c e)) := by
  refine ew_aload_n d_Ru_read_0 rfl ?_
  refine ew_getr (ci := 2) (f := 5) d_Ru_read_1 rfl rfl rfl tw_74 ?_
  refine ew_iconst (v := nI 1) d_Ru_read_4 (by decide) ?_
  refine ew_iload_n d_Ru_read_5 rfl ?_
  refine ew_iast (j := 1) d_Ru_read_6 rfl (by decide) (rfl) (by decide) (by decide) ?_
  refine ew_aload_n d_Ru_read_7 rfl ?_
  refine ew_getr (ci := 2) (f := 5) d_Ru_read_8 rfl rfl rfl tw_74 ?_
  refine ew_iconst (v := nI 2) d_Ru_read_11 (by decide) ?_
  refine ew_iload_n d_Ru_read_12 rfl ?_
  refine ew_iast (j := 2) d_Ru_read_13 rfl (by decide) (rfl) (by decide) (by decide) ?_
  refine ew_aload_n d_Ru_read_14 rfl ?_
  refine ew_getr (ci := 2) (f := 5) d_Ru_read_15 rfl rfl rfl tw_74 ?_
  refine ew_iconst (v := nI 3) d_Ru_read_18 (by decide) ?_
  refine ew_iload_n d_Ru_read_19 rfl ?_
  refine ew_iast (j := 3) d_Ru_read_20 rfl (by decide) (rfl) (by decide) (by decide) ?_
  refine ew_aload_n d_Ru_read_21 rfl ?_
  refine ew_getr (ci := 2) (f := 5) d_Ru_read_22 rfl rfl rfl tw_74 ?_
  refine ew_iconst (v := nI 4) d_Ru_read_25 (by decide) ?_
  refine ew_iload d_Ru_read_26 rfl ?_
  refine ew_iast (j := 4) d_Ru_read_28 rfl (by decide) (rfl) (by decide) (by decide) ?_
  exact ew_ret d_Ru_read_29 rfl (⟨rfl, rfl, rfl⟩)
set_option maxRecDepth 100000 in
theorem c_Ru_constraintCount (l : Launch) (g : ew_G) (d L : Nat) (M : ew_M) (ρ : sp_R) (hr : sp_ru ρ M) :
    Ew l g d 0 0 m_Ru_constraintCount 0 [.ref 10] [] (ew_SH L) M (ew_q (some (.int (nI (sp_cc ρ)))) (ew_SH L) M) := by
  refine ew_aload_n d_Ru_constraintCount_0 rfl ?_
  refine ew_getr (ci := 2) (f := 1) d_Ru_constraintCount_1 rfl rfl rfl tw_70 ?_
  refine ew_iconst (v := nI 1) d_Ru_constraintCount_4 (by decide) ?_
  refine ew_iald (j := 1) d_Ru_constraintCount_5 rfl (rfl) (by decide) (by decide) ?_
  refine en_eq (st' := [.int (nI (r_cn ρ 1))]) rfl (by rw [show (M 11 1) = (nI (r_cn ρ 1)) from hr.2.1 1 (by decide)]) rfl ?_
  refine en_if_le (tgt := 11) d_Ru_constraintCount_6 (by decide) (by have := hr.1.1 0 (by decide); have := hr.1.1 1 (by decide); omega) (fun h6 => ?_) (fun h6 => ?_)
  · refine ew_aload_n d_Ru_constraintCount_11 rfl ?_
    refine ew_getr (ci := 2) (f := 1) d_Ru_constraintCount_12 rfl rfl rfl tw_70 ?_
    refine ew_iconst (v := nI 0) d_Ru_constraintCount_15 (by decide) ?_
    refine ew_iald (j := 0) d_Ru_constraintCount_16 rfl (rfl) (by decide) (by decide) ?_
    refine en_eq (st' := [.int (nI (r_cn ρ 0))]) rfl (by rw [show (M 11 0) = (nI (r_cn ρ 0)) from hr.2.1 0 (by decide)]) rfl ?_
    refine en_if_le (tgt := 24) d_Ru_constraintCount_17 (by decide) (by have := hr.1.1 0 (by decide); have := hr.1.1 1 (by decide); omega) (fun h17 => ?_) (fun h17 => ?_)
    · refine ew_iconst (v := nI 0) d_Ru_constraintCount_24 (by decide) ?_
      exact ew_iret d_Ru_constraintCount_25 rfl (⟨by rw [show sp_cc ρ = 0 by unfold sp_cc; rw [if_neg (by omega)]; first | exact if_pos h17 | exact if_neg (by omega)], rfl, rfl⟩)
    · refine ew_iconst (v := nI 1) d_Ru_constraintCount_20 (by decide) ?_
      refine ew_goto (tgt := 25) d_Ru_constraintCount_21 (by decide) ?_
      exact ew_iret d_Ru_constraintCount_25 rfl (⟨by rw [show sp_cc ρ = 1 by unfold sp_cc; rw [if_neg (by omega)]; first | exact if_pos h17 | exact if_neg (by omega)], rfl, rfl⟩)
  · refine ew_iconst (v := nI 2) d_Ru_constraintCount_9 (by decide) ?_
    exact ew_iret d_Ru_constraintCount_10 rfl (⟨by rw [show sp_cc ρ = 2 from if_pos h6], rfl, rfl⟩)
theorem sp_cc_le (ρ : sp_R) : sp_cc ρ ≤ 2 := by
  unfold sp_cc
  split
  · exact Nat.le_refl _
  · split <;> decide
set_option maxRecDepth 100000 in
theorem c_Ru_areNone (l : Launch) (g : ew_G) (d L : Nat) (M : ew_M) (ρ : sp_R) (hr : sp_ru ρ M) :
    Ew l g (d + 1) 0 0 m_Ru_areNone 0 [.ref 10] [] (ew_SH L) M (ew_q (some (.int (ew_b (decide (sp_cc ρ + r_bn ρ = 0))))) (ew_SH L) M) := by
  refine ew_aload_n d_Ru_areNone_0 rfl ?_
  refine en_callV (As := []) (i := 10) (ci := 2) (st := []) (st1 := [.int (nI (sp_cc ρ))]) d_Ru_areNone_1 k_Ru_constraintCount rfl rfl tw_358 tw_360 tp_7 rfl (Nat.le_of_ble_eq_true rfl) rfl (Nat.le_of_ble_eq_true rfl) rfl rfl (c_Ru_constraintCount l g _ L M ρ (hr)) rfl ?_
  refine en_if_ne (tgt := 18) d_Ru_areNone_4 (by decide) (by have := sp_cc_le ρ; have := hr.1.2.2.1; omega) (fun h4 => ?_) (fun h4 => ?_)
  · refine ew_iconst (v := nI 0) d_Ru_areNone_18 (by decide) ?_
    exact ew_zret d_Ru_areNone_19 rfl (by decide) (⟨by rw [show decide (sp_cc ρ + r_bn ρ = 0) = false from decide_eq_false (by omega)]; rfl, rfl, rfl⟩)
  · refine ew_aload_n d_Ru_areNone_7 rfl ?_
    refine ew_geti (ci := 2) (f := 4) d_Ru_areNone_8 rfl rfl rfl tw_73 ?_
    refine en_eq (st' := [.int (nI (r_bn ρ))]) rfl (by rw [show (M 10 4) = (nI (r_bn ρ)) from hr.2.2.2.2.1]) rfl ?_
    refine en_if_ne (tgt := 18) d_Ru_areNone_11 (by decide) (by have := sp_cc_le ρ; have := hr.1.2.2.1; omega) (fun h11 => ?_) (fun h11 => ?_)
    · refine ew_iconst (v := nI 0) d_Ru_areNone_18 (by decide) ?_
      exact ew_zret d_Ru_areNone_19 rfl (by decide) (⟨by rw [show decide (sp_cc ρ + r_bn ρ = 0) = false from decide_eq_false (by omega)]; rfl, rfl, rfl⟩)
    · refine ew_iconst (v := nI 1) d_Ru_areNone_14 (by decide) ?_
      refine ew_goto (tgt := 19) d_Ru_areNone_15 (by decide) ?_
      exact ew_zret d_Ru_areNone_19 rfl (by decide) (⟨by rw [show decide (sp_cc ρ + r_bn ρ = 0) = true from decide_eq_true (by omega)]; rfl, rfl, rfl⟩)
set_option maxRecDepth 100000 in
theorem c_Ru_dropAll (l : Launch) (g : ew_G) (d L : Nat) (M : ew_M)  :
    Ew l g d 0 0 m_Ru_dropAll 0 [.ref 10] [] (ew_SH L) M (ew_q (none) (ew_SH L) (ew_w (ew_w (ew_w M 11 0 (nI 0)) 11 1 (nI 0)) 10 4 (nI 0))) := by
  refine ew_aload_n d_Ru_dropAll_0 rfl ?_
  refine ew_getr (ci := 2) (f := 1) d_Ru_dropAll_1 rfl rfl rfl tw_70 ?_
  refine ew_iconst (v := nI 0) d_Ru_dropAll_4 (by decide) ?_
  refine ew_iconst (v := nI 0) d_Ru_dropAll_5 (by decide) ?_
  refine ew_iast (j := 0) d_Ru_dropAll_6 rfl (by decide) (rfl) (by decide) (by decide) ?_
  refine ew_aload_n d_Ru_dropAll_7 rfl ?_
  refine ew_getr (ci := 2) (f := 1) d_Ru_dropAll_8 rfl rfl rfl tw_70 ?_
  refine ew_iconst (v := nI 1) d_Ru_dropAll_11 (by decide) ?_
  refine ew_iconst (v := nI 0) d_Ru_dropAll_12 (by decide) ?_
  refine ew_iast (j := 1) d_Ru_dropAll_13 rfl (by decide) (rfl) (by decide) (by decide) ?_
  refine ew_aload_n d_Ru_dropAll_14 rfl ?_
  refine ew_iconst (v := nI 0) d_Ru_dropAll_15 (by decide) ?_
  refine ew_puti (ci := 2) (f := 4) (ty := .int) d_Ru_dropAll_16 rfl (by decide) rfl rfl rfl (by decide +kernel) rfl rfl tw_73 ?_
  exact ew_ret d_Ru_dropAll_19 rfl (⟨rfl, rfl, rfl⟩)
set_option maxRecDepth 100000 in
theorem c_Ru_write13 (l : Launch) (g : ew_G) (d L : Nat) (M : ew_M) (i : Nat) (x y z : Int32) (hi : 3 * i + 2 < 18) :
    Ew l g d 0 0 m_Ru_write 0 [.ref 13, .int (nI i), .int x, .int y, .int z] [] (ew_SH L) M (ew_q (none) (ew_SH L) (ew_w (ew_w (ew_w M 13 (3 * i) x) 13 (3 * i + 1) y) 13 (3 * i + 2) z)) := by
  refine ew_aload_n d_Ru_write_0 rfl ?_
  refine ew_iconst (v := nI 3) d_Ru_write_1 (by decide) ?_
  refine ew_iload_n d_Ru_write_2 rfl ?_
  refine en_imul d_Ru_write_3 ?_
  refine ew_iload_n d_Ru_write_4 rfl ?_
  refine ew_iast (j := 3 * i) d_Ru_write_5 rfl (by decide) (rfl) (by omega) (by decide) ?_
  refine ew_aload_n d_Ru_write_6 rfl ?_
  refine ew_iconst (v := nI 3) d_Ru_write_7 (by decide) ?_
  refine ew_iload_n d_Ru_write_8 rfl ?_
  refine en_imul d_Ru_write_9 ?_
  refine ew_iconst (v := nI 1) d_Ru_write_10 (by decide) ?_
  refine en_iadd d_Ru_write_11 ?_
  refine ew_iload_n d_Ru_write_12 rfl ?_
  refine ew_iast (j := (3 * i) + 1) d_Ru_write_13 rfl (by decide) (rfl) (by omega) (by decide) ?_
  refine ew_aload_n d_Ru_write_14 rfl ?_
  refine ew_iconst (v := nI 3) d_Ru_write_15 (by decide) ?_
  refine ew_iload_n d_Ru_write_16 rfl ?_
  refine en_imul d_Ru_write_17 ?_
  refine ew_iconst (v := nI 2) d_Ru_write_18 (by decide) ?_
  refine en_iadd d_Ru_write_19 ?_
  refine ew_iload d_Ru_write_20 rfl ?_
  refine ew_iast (j := (3 * i) + 2) d_Ru_write_22 rfl (by decide) (rfl) (by omega) (by decide) ?_
  exact ew_ret d_Ru_write_23 rfl (⟨rfl, rfl, rfl⟩)
set_option maxRecDepth 100000 in
theorem c_Ru_write14 (l : Launch) (g : ew_G) (d L : Nat) (M : ew_M) (i : Nat) (x y z : Int32) (hi : 3 * i + 2 < 18) :
    Ew l g d 0 0 m_Ru_write 0 [.ref 14, .int (nI i), .int x, .int y, .int z] [] (ew_SH L) M (ew_q (none) (ew_SH L) (ew_w (ew_w (ew_w M 14 (3 * i) x) 14 (3 * i + 1) y) 14 (3 * i + 2) z)) := by
  refine ew_aload_n d_Ru_write_0 rfl ?_
  refine ew_iconst (v := nI 3) d_Ru_write_1 (by decide) ?_
  refine ew_iload_n d_Ru_write_2 rfl ?_
  refine en_imul d_Ru_write_3 ?_
  refine ew_iload_n d_Ru_write_4 rfl ?_
  refine ew_iast (j := 3 * i) d_Ru_write_5 rfl (by decide) (rfl) (by omega) (by decide) ?_
  refine ew_aload_n d_Ru_write_6 rfl ?_
  refine ew_iconst (v := nI 3) d_Ru_write_7 (by decide) ?_
  refine ew_iload_n d_Ru_write_8 rfl ?_
  refine en_imul d_Ru_write_9 ?_
  refine ew_iconst (v := nI 1) d_Ru_write_10 (by decide) ?_
  refine en_iadd d_Ru_write_11 ?_
  refine ew_iload_n d_Ru_write_12 rfl ?_
  refine ew_iast (j := (3 * i) + 1) d_Ru_write_13 rfl (by decide) (rfl) (by omega) (by decide) ?_
  refine ew_aload_n d_Ru_write_14 rfl ?_
  refine ew_iconst (v := nI 3) d_Ru_write_15 (by decide) ?_
  refine ew_iload_n d_Ru_write_16 rfl ?_
  refine en_imul d_Ru_write_17 ?_
  refine ew_iconst (v := nI 2) d_Ru_write_18 (by decide) ?_
  refine en_iadd d_Ru_write_19 ?_
  refine ew_iload d_Ru_write_20 rfl ?_
  refine ew_iast (j := (3 * i) + 2) d_Ru_write_22 rfl (by decide) (rfl) (by omega) (by decide) ?_
  exact ew_ret d_Ru_write_23 rfl (⟨rfl, rfl, rfl⟩)
set_option maxRecDepth 100000 in
theorem c_Ru_write15 (l : Launch) (g : ew_G) (d L : Nat) (M : ew_M) (i : Nat) (x y z : Int32) (hi : 3 * i + 2 < 12) :
    Ew l g d 0 0 m_Ru_write 0 [.ref 15, .int (nI i), .int x, .int y, .int z] [] (ew_SH L) M (ew_q (none) (ew_SH L) (ew_w (ew_w (ew_w M 15 (3 * i) x) 15 (3 * i + 1) y) 15 (3 * i + 2) z)) := by
  refine ew_aload_n d_Ru_write_0 rfl ?_
  refine ew_iconst (v := nI 3) d_Ru_write_1 (by decide) ?_
  refine ew_iload_n d_Ru_write_2 rfl ?_
  refine en_imul d_Ru_write_3 ?_
  refine ew_iload_n d_Ru_write_4 rfl ?_
  refine ew_iast (j := 3 * i) d_Ru_write_5 rfl (by decide) (rfl) (by omega) (by decide) ?_
  refine ew_aload_n d_Ru_write_6 rfl ?_
  refine ew_iconst (v := nI 3) d_Ru_write_7 (by decide) ?_
  refine ew_iload_n d_Ru_write_8 rfl ?_
  refine en_imul d_Ru_write_9 ?_
  refine ew_iconst (v := nI 1) d_Ru_write_10 (by decide) ?_
  refine en_iadd d_Ru_write_11 ?_
  refine ew_iload_n d_Ru_write_12 rfl ?_
  refine ew_iast (j := (3 * i) + 1) d_Ru_write_13 rfl (by decide) (rfl) (by omega) (by decide) ?_
  refine ew_aload_n d_Ru_write_14 rfl ?_
  refine ew_iconst (v := nI 3) d_Ru_write_15 (by decide) ?_
  refine ew_iload_n d_Ru_write_16 rfl ?_
  refine en_imul d_Ru_write_17 ?_
  refine ew_iconst (v := nI 2) d_Ru_write_18 (by decide) ?_
  refine en_iadd d_Ru_write_19 ?_
  refine ew_iload d_Ru_write_20 rfl ?_
  refine ew_iast (j := (3 * i) + 2) d_Ru_write_22 rfl (by decide) (rfl) (by omega) (by decide) ?_
  exact ew_ret d_Ru_write_23 rfl (⟨rfl, rfl, rfl⟩)
set_option maxRecDepth 100000 in
theorem lp_Ru_termSum0 (l : Launch) (g : ew_G) (d L : Nat) (M : ew_M) (ρ : sp_R) (hr : sp_ru ρ M) (le : Nat → Nat) (hl : sp_hle le (M 16)) : ∀ (fu t : Nat), r_cn ρ 0 - t < fu → t ≤ r_cn ρ 0 → Ew l g (d + 1) 0 0 m_Ru_termSum 12 [.ref 10, .int (nI 0), .ref 13, .int (nI (sp_ts ρ 0 le t)), .int (nI t), .retAddr 0, .retAddr 0] [] (ew_SH L) M (ew_q (some (.int (nI (sp_ts ρ 0 le (r_cn ρ 0))))) (ew_SH L) M) := by
  intro fu
  induction fu with
  | zero =>
    intro t  hn
    exact absurd hn (Nat.not_lt_zero _)
  | succ fu ih =>
    intro t  hn hle
    refine ew_iload d_Ru_termSum_12 rfl ?_
    refine ew_aload_n d_Ru_termSum_14 rfl ?_
    refine ew_getr (ci := 2) (f := 1) d_Ru_termSum_15 rfl rfl rfl tw_70 ?_
    refine ew_iload_n d_Ru_termSum_18 rfl ?_
    refine ew_iald (j := 0) d_Ru_termSum_19 rfl (rfl) (by decide) (by decide) ?_
    refine en_eq (st' := [.int (nI (r_cn ρ 0)), .int (nI t)]) rfl (by rw [show (M 11 0) = (nI (r_cn ρ 0)) from hr.2.1 0 (by decide)]) rfl ?_
    refine en_icmp_ge (tgt := 80) d_Ru_termSum_20 (by decide) (by have := hr.1.1 0 (by decide); omega) (by have := hr.1.1 0 (by decide); omega) (fun h20 => ?_) (fun h20 => ?_)
    · have et : t = r_cn ρ 0 := by omega
      refine ew_iload_n d_Ru_termSum_80 rfl ?_
      exact ew_iret d_Ru_termSum_81 rfl (⟨by rw [et], rfl, rfl⟩)
    · refine ew_aload_n d_Ru_termSum_23 rfl ?_
      refine ew_getr (ci := 2) (f := 5) d_Ru_termSum_24 rfl rfl rfl tw_74 ?_
      refine ew_aload_n d_Ru_termSum_27 rfl ?_
      refine ew_iconst (v := nI 3) d_Ru_termSum_28 (by decide) ?_
      refine ew_iload d_Ru_termSum_29 rfl ?_
      refine en_imul d_Ru_termSum_31 ?_
      refine ew_iconst (v := nI 1) d_Ru_termSum_32 (by decide) ?_
      refine en_iadd d_Ru_termSum_33 ?_
      refine ew_iald (j := (3 * t) + 1) d_Ru_termSum_34 rfl (rfl) (by have := hr.1.1 0 (by decide); omega) (by decide) ?_
      refine en_eq (st' := [.int (nI (r_tu ρ 0 t)), .ref 16]) rfl (by rw [show (M 13 ((3 * t) + 1)) = (nI (r_tu ρ 0 t)) from (hr.2.2.1 t h20).2.1]) rfl ?_
      refine ew_iald (j := r_tu ρ 0 t) d_Ru_termSum_35 rfl (rfl) ((hr.1.2.1 0 t (by decide) h20).2.1) (by decide) ?_
      refine en_eq (st' := [.int (nI (le (r_tu ρ 0 t)))]) rfl (by rw [show (M 16 (r_tu ρ 0 t)) = (nI (le (r_tu ρ 0 t))) from (hl _ (hr.1.2.1 0 t (by decide) h20).2.1).1]) rfl ?_
      refine en_istore (ls' := [.ref 10, .int (nI 0), .ref 13, .int (nI (sp_ts ρ 0 le t)), .int (nI t), .int (nI (le (r_tu ρ 0 t))), .retAddr 0]) d_Ru_termSum_36 (Nat.le_of_ble_eq_true rfl) rfl ?_
      refine ew_aload_n d_Ru_termSum_38 rfl ?_
      refine ew_getr (ci := 2) (f := 5) d_Ru_termSum_39 rfl rfl rfl tw_74 ?_
      refine ew_aload_n d_Ru_termSum_42 rfl ?_
      refine ew_iconst (v := nI 3) d_Ru_termSum_43 (by decide) ?_
      refine ew_iload d_Ru_termSum_44 rfl ?_
      refine en_imul d_Ru_termSum_46 ?_
      refine ew_iconst (v := nI 2) d_Ru_termSum_47 (by decide) ?_
      refine en_iadd d_Ru_termSum_48 ?_
      refine ew_iald (j := (3 * t) + 2) d_Ru_termSum_49 rfl (rfl) (by have := hr.1.1 0 (by decide); omega) (by decide) ?_
      refine en_eq (st' := [.int (nI (r_tv ρ 0 t)), .ref 16]) rfl (by rw [show (M 13 ((3 * t) + 2)) = (nI (r_tv ρ 0 t)) from (hr.2.2.1 t h20).2.2]) rfl ?_
      refine ew_iald (j := r_tv ρ 0 t) d_Ru_termSum_50 rfl (rfl) ((hr.1.2.1 0 t (by decide) h20).2.2) (by decide) ?_
      refine en_eq (st' := [.int (nI (le (r_tv ρ 0 t)))]) rfl (by rw [show (M 16 (r_tv ρ 0 t)) = (nI (le (r_tv ρ 0 t))) from (hl _ (hr.1.2.1 0 t (by decide) h20).2.2).1]) rfl ?_
      refine en_istore (ls' := [.ref 10, .int (nI 0), .ref 13, .int (nI (sp_ts ρ 0 le t)), .int (nI t), .int (nI (le (r_tu ρ 0 t))), .int (nI (le (r_tv ρ 0 t)))]) d_Ru_termSum_51 (Nat.le_of_ble_eq_true rfl) rfl ?_
      refine ew_iload_n d_Ru_termSum_53 rfl ?_
      refine ew_aload_n d_Ru_termSum_54 rfl ?_
      refine ew_iconst (v := nI 3) d_Ru_termSum_55 (by decide) ?_
      refine ew_iload d_Ru_termSum_56 rfl ?_
      refine en_imul d_Ru_termSum_58 ?_
      refine ew_iald (j := 3 * t) d_Ru_termSum_59 rfl (rfl) (by have := hr.1.1 0 (by decide); omega) (by decide) ?_
      refine en_eq (st' := [.int (nI (r_tk ρ 0 t)), .int (nI (sp_ts ρ 0 le t))]) rfl (by rw [show (M 13 (3 * t)) = (nI (r_tk ρ 0 t)) from (hr.2.2.1 t h20).1]) rfl ?_
      refine ew_iload d_Ru_termSum_60 rfl ?_
      refine ew_iload d_Ru_termSum_62 rfl ?_
      refine en_callS (As := [.int (nI (le (r_tu ρ 0 t))), .int (nI (le (r_tv ρ 0 t)))]) (st := [.int (nI (r_tk ρ 0 t)), .int (nI (sp_ts ρ 0 le t))]) (st1 := [.int (nI ((le (r_tu ρ 0 t)) * (le (r_tv ρ 0 t)) % 12289)), .int (nI (r_tk ρ 0 t)), .int (nI (sp_ts ρ 0 le t))]) d_Ru_termSum_64 k_Fi_times tw_332 tw_30 rfl (Nat.le_of_ble_eq_true rfl) rfl (Nat.le_of_ble_eq_true rfl) rfl rfl (c_Fi_times l g _ (ew_SH L) M (le (r_tu ρ 0 t)) (le (r_tv ρ 0 t)) (by first | exact (hl _ (hr.1.2.1 0 t (by decide) h20).2.1).2 | exact (hl _ (hr.1.2.1 0 t (by decide) h20).2.2).2) (by first | exact (hl _ (hr.1.2.1 0 t (by decide) h20).2.1).2 | exact (hl _ (hr.1.2.1 0 t (by decide) h20).2.2).2)) rfl ?_
      refine en_callS (As := [.int (nI (r_tk ρ 0 t)), .int (nI ((le (r_tu ρ 0 t)) * (le (r_tv ρ 0 t)) % 12289))]) (st := [.int (nI (sp_ts ρ 0 le t))]) (st1 := [.int (nI ((r_tk ρ 0 t) * ((le (r_tu ρ 0 t)) * (le (r_tv ρ 0 t)) % 12289) % 12289)), .int (nI (sp_ts ρ 0 le t))]) d_Ru_termSum_67 k_Fi_times tw_332 tw_30 rfl (Nat.le_of_ble_eq_true rfl) rfl (Nat.le_of_ble_eq_true rfl) rfl rfl (c_Fi_times l g _ (ew_SH L) M (r_tk ρ 0 t) ((le (r_tu ρ 0 t)) * (le (r_tv ρ 0 t)) % 12289) (by first | with_reducible exact ep_lt _ | exact (hr.1.2.1 0 t (by decide) h20).1) (by first | with_reducible exact ep_lt _ | exact (hr.1.2.1 0 t (by decide) h20).1)) rfl ?_
      refine en_callS (As := [.int (nI (sp_ts ρ 0 le t)), .int (nI ((r_tk ρ 0 t) * ((le (r_tu ρ 0 t)) * (le (r_tv ρ 0 t)) % 12289) % 12289))]) (st := []) (st1 := [.int (nI (((sp_ts ρ 0 le t) + ((r_tk ρ 0 t) * ((le (r_tu ρ 0 t)) * (le (r_tv ρ 0 t)) % 12289) % 12289)) % 12289))]) d_Ru_termSum_70 k_Fi_plus tw_333 tw_309 rfl (Nat.le_of_ble_eq_true rfl) rfl (Nat.le_of_ble_eq_true rfl) rfl rfl (c_Fi_plus l g _ (ew_SH L) M (sp_ts ρ 0 le t) ((r_tk ρ 0 t) * ((le (r_tu ρ 0 t)) * (le (r_tv ρ 0 t)) % 12289) % 12289) (by first | with_reducible assumption | with_reducible exact ep_lt _ | with_reducible exact sp_its_lt _ _ _ | with_reducible exact tb_l_rt _ | with_reducible exact tb_l_x _ | with_reducible exact tb_l_o0 _ | with_reducible exact tb_l_o1 _ | with_reducible exact tb_l_va _ | with_reducible exact tb_l_ll _ | with_reducible exact tb_l_cf _ | with_reducible exact tb_l_kf _ | with_reducible exact sp_ts_lt _ _ _ _ | with_reducible exact sp_w_lt _ _ | with_reducible exact sp_cs_lt _ _ _ _ _ | with_reducible exact sp_cb_lt _ _ _ _ _ | with_reducible exact sp_ch_lt _ | with_reducible exact sp_bf_lt _ _ | omega) (by first | with_reducible assumption | with_reducible exact ep_lt _ | with_reducible exact sp_its_lt _ _ _ | with_reducible exact tb_l_rt _ | with_reducible exact tb_l_x _ | with_reducible exact tb_l_o0 _ | with_reducible exact tb_l_o1 _ | with_reducible exact tb_l_va _ | with_reducible exact tb_l_ll _ | with_reducible exact tb_l_cf _ | with_reducible exact tb_l_kf _ | with_reducible exact sp_ts_lt _ _ _ _ | with_reducible exact sp_w_lt _ _ | with_reducible exact sp_cs_lt _ _ _ _ _ | with_reducible exact sp_cb_lt _ _ _ _ _ | with_reducible exact sp_ch_lt _ | with_reducible exact sp_bf_lt _ _ | omega)) rfl ?_
      refine en_istore_n (ls' := [.ref 10, .int (nI 0), .ref 13, .int (nI (((sp_ts ρ 0 le t) + ((r_tk ρ 0 t) * ((le (r_tu ρ 0 t)) * (le (r_tv ρ 0 t)) % 12289) % 12289)) % 12289)), .int (nI t), .int (nI (le (r_tu ρ 0 t))), .int (nI (le (r_tv ρ 0 t)))]) d_Ru_termSum_73 (Nat.le_of_ble_eq_true rfl) rfl ?_
      refine en_inc (ls' := [.ref 10, .int (nI 0), .ref 13, .int (nI (((sp_ts ρ 0 le t) + ((r_tk ρ 0 t) * ((le (r_tu ρ 0 t)) * (le (r_tv ρ 0 t)) % 12289) % 12289)) % 12289)), .int (nI (t + 1)), .int (nI (le (r_tu ρ 0 t))), .int (nI (le (r_tv ρ 0 t)))]) d_Ru_termSum_74 rfl rfl ?_
      refine ew_goto (tgt := 12) d_Ru_termSum_77 (by decide) ?_
      refine en_drop (ls' := [.ref 10, .int (nI 0), .ref 13, .int (nI (((sp_ts ρ 0 le t) + ((r_tk ρ 0 t) * ((le (r_tu ρ 0 t)) * (le (r_tv ρ 0 t)) % 12289) % 12289)) % 12289)), .int (nI (t + 1)), .retAddr 0, .retAddr 0]) ⟨Or.inl rfl, Or.inl rfl, Or.inl rfl, Or.inl rfl, Or.inl rfl, Or.inr rfl, Or.inr rfl, trivial⟩ ?_
      exact ih (t + 1) (by omega) (by omega)
set_option maxRecDepth 100000 in
theorem lp_Ru_termSum1 (l : Launch) (g : ew_G) (d L : Nat) (M : ew_M) (ρ : sp_R) (hr : sp_ru ρ M) (le : Nat → Nat) (hl : sp_hle le (M 16)) : ∀ (fu t : Nat), r_cn ρ 1 - t < fu → t ≤ r_cn ρ 1 → Ew l g (d + 1) 0 0 m_Ru_termSum 12 [.ref 10, .int (nI 1), .ref 14, .int (nI (sp_ts ρ 1 le t)), .int (nI t), .retAddr 0, .retAddr 0] [] (ew_SH L) M (ew_q (some (.int (nI (sp_ts ρ 1 le (r_cn ρ 1))))) (ew_SH L) M) := by
  intro fu
  induction fu with
  | zero =>
    intro t  hn
    exact absurd hn (Nat.not_lt_zero _)
  | succ fu ih =>
    intro t  hn hle
    refine ew_iload d_Ru_termSum_12 rfl ?_
    refine ew_aload_n d_Ru_termSum_14 rfl ?_
    refine ew_getr (ci := 2) (f := 1) d_Ru_termSum_15 rfl rfl rfl tw_70 ?_
    refine ew_iload_n d_Ru_termSum_18 rfl ?_
    refine ew_iald (j := 1) d_Ru_termSum_19 rfl (rfl) (by decide) (by decide) ?_
    refine en_eq (st' := [.int (nI (r_cn ρ 1)), .int (nI t)]) rfl (by rw [show (M 11 1) = (nI (r_cn ρ 1)) from hr.2.1 1 (by decide)]) rfl ?_
    refine en_icmp_ge (tgt := 80) d_Ru_termSum_20 (by decide) (by have := hr.1.1 1 (by decide); omega) (by have := hr.1.1 1 (by decide); omega) (fun h20 => ?_) (fun h20 => ?_)
    · have et : t = r_cn ρ 1 := by omega
      refine ew_iload_n d_Ru_termSum_80 rfl ?_
      exact ew_iret d_Ru_termSum_81 rfl (⟨by rw [et], rfl, rfl⟩)
    · refine ew_aload_n d_Ru_termSum_23 rfl ?_
      refine ew_getr (ci := 2) (f := 5) d_Ru_termSum_24 rfl rfl rfl tw_74 ?_
      refine ew_aload_n d_Ru_termSum_27 rfl ?_
      refine ew_iconst (v := nI 3) d_Ru_termSum_28 (by decide) ?_
      refine ew_iload d_Ru_termSum_29 rfl ?_
      refine en_imul d_Ru_termSum_31 ?_
      refine ew_iconst (v := nI 1) d_Ru_termSum_32 (by decide) ?_
      refine en_iadd d_Ru_termSum_33 ?_
      refine ew_iald (j := (3 * t) + 1) d_Ru_termSum_34 rfl (rfl) (by have := hr.1.1 1 (by decide); omega) (by decide) ?_
      refine en_eq (st' := [.int (nI (r_tu ρ 1 t)), .ref 16]) rfl (by rw [show (M 14 ((3 * t) + 1)) = (nI (r_tu ρ 1 t)) from (hr.2.2.2.1 t h20).2.1]) rfl ?_
      refine ew_iald (j := r_tu ρ 1 t) d_Ru_termSum_35 rfl (rfl) ((hr.1.2.1 1 t (by decide) h20).2.1) (by decide) ?_
      refine en_eq (st' := [.int (nI (le (r_tu ρ 1 t)))]) rfl (by rw [show (M 16 (r_tu ρ 1 t)) = (nI (le (r_tu ρ 1 t))) from (hl _ (hr.1.2.1 1 t (by decide) h20).2.1).1]) rfl ?_
      refine en_istore (ls' := [.ref 10, .int (nI 1), .ref 14, .int (nI (sp_ts ρ 1 le t)), .int (nI t), .int (nI (le (r_tu ρ 1 t))), .retAddr 0]) d_Ru_termSum_36 (Nat.le_of_ble_eq_true rfl) rfl ?_
      refine ew_aload_n d_Ru_termSum_38 rfl ?_
      refine ew_getr (ci := 2) (f := 5) d_Ru_termSum_39 rfl rfl rfl tw_74 ?_
      refine ew_aload_n d_Ru_termSum_42 rfl ?_
      refine ew_iconst (v := nI 3) d_Ru_termSum_43 (by decide) ?_
      refine ew_iload d_Ru_termSum_44 rfl ?_
      refine en_imul d_Ru_termSum_46 ?_
      refine ew_iconst (v := nI 2) d_Ru_termSum_47 (by decide) ?_
      refine en_iadd d_Ru_termSum_48 ?_
      refine ew_iald (j := (3 * t) + 2) d_Ru_termSum_49 rfl (rfl) (by have := hr.1.1 1 (by decide); omega) (by decide) ?_
      refine en_eq (st' := [.int (nI (r_tv ρ 1 t)), .ref 16]) rfl (by rw [show (M 14 ((3 * t) + 2)) = (nI (r_tv ρ 1 t)) from (hr.2.2.2.1 t h20).2.2]) rfl ?_
      refine ew_iald (j := r_tv ρ 1 t) d_Ru_termSum_50 rfl (rfl) ((hr.1.2.1 1 t (by decide) h20).2.2) (by decide) ?_
      refine en_eq (st' := [.int (nI (le (r_tv ρ 1 t)))]) rfl (by rw [show (M 16 (r_tv ρ 1 t)) = (nI (le (r_tv ρ 1 t))) from (hl _ (hr.1.2.1 1 t (by decide) h20).2.2).1]) rfl ?_
      refine en_istore (ls' := [.ref 10, .int (nI 1), .ref 14, .int (nI (sp_ts ρ 1 le t)), .int (nI t), .int (nI (le (r_tu ρ 1 t))), .int (nI (le (r_tv ρ 1 t)))]) d_Ru_termSum_51 (Nat.le_of_ble_eq_true rfl) rfl ?_
      refine ew_iload_n d_Ru_termSum_53 rfl ?_
      refine ew_aload_n d_Ru_termSum_54 rfl ?_
      refine ew_iconst (v := nI 3) d_Ru_termSum_55 (by decide) ?_
      refine ew_iload d_Ru_termSum_56 rfl ?_
      refine en_imul d_Ru_termSum_58 ?_
      refine ew_iald (j := 3 * t) d_Ru_termSum_59 rfl (rfl) (by have := hr.1.1 1 (by decide); omega) (by decide) ?_
      refine en_eq (st' := [.int (nI (r_tk ρ 1 t)), .int (nI (sp_ts ρ 1 le t))]) rfl (by rw [show (M 14 (3 * t)) = (nI (r_tk ρ 1 t)) from (hr.2.2.2.1 t h20).1]) rfl ?_
      refine ew_iload d_Ru_termSum_60 rfl ?_
      refine ew_iload d_Ru_termSum_62 rfl ?_
      refine en_callS (As := [.int (nI (le (r_tu ρ 1 t))), .int (nI (le (r_tv ρ 1 t)))]) (st := [.int (nI (r_tk ρ 1 t)), .int (nI (sp_ts ρ 1 le t))]) (st1 := [.int (nI ((le (r_tu ρ 1 t)) * (le (r_tv ρ 1 t)) % 12289)), .int (nI (r_tk ρ 1 t)), .int (nI (sp_ts ρ 1 le t))]) d_Ru_termSum_64 k_Fi_times tw_332 tw_30 rfl (Nat.le_of_ble_eq_true rfl) rfl (Nat.le_of_ble_eq_true rfl) rfl rfl (c_Fi_times l g _ (ew_SH L) M (le (r_tu ρ 1 t)) (le (r_tv ρ 1 t)) (by first | exact (hl _ (hr.1.2.1 1 t (by decide) h20).2.1).2 | exact (hl _ (hr.1.2.1 1 t (by decide) h20).2.2).2) (by first | exact (hl _ (hr.1.2.1 1 t (by decide) h20).2.1).2 | exact (hl _ (hr.1.2.1 1 t (by decide) h20).2.2).2)) rfl ?_
      refine en_callS (As := [.int (nI (r_tk ρ 1 t)), .int (nI ((le (r_tu ρ 1 t)) * (le (r_tv ρ 1 t)) % 12289))]) (st := [.int (nI (sp_ts ρ 1 le t))]) (st1 := [.int (nI ((r_tk ρ 1 t) * ((le (r_tu ρ 1 t)) * (le (r_tv ρ 1 t)) % 12289) % 12289)), .int (nI (sp_ts ρ 1 le t))]) d_Ru_termSum_67 k_Fi_times tw_332 tw_30 rfl (Nat.le_of_ble_eq_true rfl) rfl (Nat.le_of_ble_eq_true rfl) rfl rfl (c_Fi_times l g _ (ew_SH L) M (r_tk ρ 1 t) ((le (r_tu ρ 1 t)) * (le (r_tv ρ 1 t)) % 12289) (by first | with_reducible exact ep_lt _ | exact (hr.1.2.1 1 t (by decide) h20).1) (by first | with_reducible exact ep_lt _ | exact (hr.1.2.1 1 t (by decide) h20).1)) rfl ?_
      refine en_callS (As := [.int (nI (sp_ts ρ 1 le t)), .int (nI ((r_tk ρ 1 t) * ((le (r_tu ρ 1 t)) * (le (r_tv ρ 1 t)) % 12289) % 12289))]) (st := []) (st1 := [.int (nI (((sp_ts ρ 1 le t) + ((r_tk ρ 1 t) * ((le (r_tu ρ 1 t)) * (le (r_tv ρ 1 t)) % 12289) % 12289)) % 12289))]) d_Ru_termSum_70 k_Fi_plus tw_333 tw_309 rfl (Nat.le_of_ble_eq_true rfl) rfl (Nat.le_of_ble_eq_true rfl) rfl rfl (c_Fi_plus l g _ (ew_SH L) M (sp_ts ρ 1 le t) ((r_tk ρ 1 t) * ((le (r_tu ρ 1 t)) * (le (r_tv ρ 1 t)) % 12289) % 12289) (by first | with_reducible assumption | with_reducible exact ep_lt _ | with_reducible exact sp_its_lt _ _ _ | with_reducible exact tb_l_rt _ | with_reducible exact tb_l_x _ | with_reducible exact tb_l_o0 _ | with_reducible exact tb_l_o1 _ | with_reducible exact tb_l_va _ | with_reducible exact tb_l_ll _ | with_reducible exact tb_l_cf _ | with_reducible exact tb_l_kf _ | with_reducible exact sp_ts_lt _ _ _ _ | with_reducible exact sp_w_lt _ _ | with_reducible exact sp_cs_lt _ _ _ _ _ | with_reducible exact sp_cb_lt _ _ _ _ _ | with_reducible exact sp_ch_lt _ | with_reducible exact sp_bf_lt _ _ | omega) (by first | with_reducible assumption | with_reducible exact ep_lt _ | with_reducible exact sp_its_lt _ _ _ | with_reducible exact tb_l_rt _ | with_reducible exact tb_l_x _ | with_reducible exact tb_l_o0 _ | with_reducible exact tb_l_o1 _ | with_reducible exact tb_l_va _ | with_reducible exact tb_l_ll _ | with_reducible exact tb_l_cf _ | with_reducible exact tb_l_kf _ | with_reducible exact sp_ts_lt _ _ _ _ | with_reducible exact sp_w_lt _ _ | with_reducible exact sp_cs_lt _ _ _ _ _ | with_reducible exact sp_cb_lt _ _ _ _ _ | with_reducible exact sp_ch_lt _ | with_reducible exact sp_bf_lt _ _ | omega)) rfl ?_
      refine en_istore_n (ls' := [.ref 10, .int (nI 1), .ref 14, .int (nI (((sp_ts ρ 1 le t) + ((r_tk ρ 1 t) * ((le (r_tu ρ 1 t)) * (le (r_tv ρ 1 t)) % 12289) % 12289)) % 12289)), .int (nI t), .int (nI (le (r_tu ρ 1 t))), .int (nI (le (r_tv ρ 1 t)))]) d_Ru_termSum_73 (Nat.le_of_ble_eq_true rfl) rfl ?_
      refine en_inc (ls' := [.ref 10, .int (nI 1), .ref 14, .int (nI (((sp_ts ρ 1 le t) + ((r_tk ρ 1 t) * ((le (r_tu ρ 1 t)) * (le (r_tv ρ 1 t)) % 12289) % 12289)) % 12289)), .int (nI (t + 1)), .int (nI (le (r_tu ρ 1 t))), .int (nI (le (r_tv ρ 1 t)))]) d_Ru_termSum_74 rfl rfl ?_
      refine ew_goto (tgt := 12) d_Ru_termSum_77 (by decide) ?_
      refine en_drop (ls' := [.ref 10, .int (nI 1), .ref 14, .int (nI (((sp_ts ρ 1 le t) + ((r_tk ρ 1 t) * ((le (r_tu ρ 1 t)) * (le (r_tv ρ 1 t)) % 12289) % 12289)) % 12289)), .int (nI (t + 1)), .retAddr 0, .retAddr 0]) ⟨Or.inl rfl, Or.inl rfl, Or.inl rfl, Or.inl rfl, Or.inl rfl, Or.inr rfl, Or.inr rfl, trivial⟩ ?_
      exact ih (t + 1) (by omega) (by omega)
