theorem nx_x (a b : Nat) : nI a ^^^ nI b = nI (a ^^^ b) := by
  apply Int32.toBitVec_inj.mp
  show (nI a).toBitVec ^^^ (nI b).toBitVec = (nI (a ^^^ b)).toBitVec
  show BitVec.ofNat 32 a ^^^ BitVec.ofNat 32 b = BitVec.ofNat 32 (a ^^^ b)
  apply BitVec.eq_of_toNat_eq
  rw [BitVec.toNat_xor, BitVec.toNat_ofNat, BitVec.toNat_ofNat, BitVec.toNat_ofNat, Nat.xor_mod_two_pow]
theorem nx_lt {n u : Nat} (h : n < 2 ^ (u + 1)) : n ^^^ 1 < 2 ^ (u + 1) := Nat.xor_lt_two_pow h (by have : 2 ^ (u + 1) = 2 * 2 ^ u := Nat.pow_succ'; have := Nat.one_le_two_pow (n := u); omega)
theorem nx_pos {n : Nat} (h : n ≠ 1) : 1 ≤ n ^^^ 1 := by
  rcases Nat.eq_zero_or_pos (n ^^^ 1) with e | e
  · have h2 : (n ^^^ 1) ^^^ 1 = n := by rw [Nat.xor_assoc, Nat.xor_self, Nat.xor_zero]
    rw [e, Nat.zero_xor] at h2
    exact absurd h2.symm h
  · exact e
theorem sp_two {n v : Nat} (h : 1 < n) (h4 : n < 2 ^ v) : ∃ w, v = w + 2 := by
  match v, h4 with
  | 0, h4 => exact absurd h4 (by omega)
  | 1, h4 => exact absurd h4 (by omega)
  | w + 2, _ => exact ⟨w, rfl⟩
theorem ew_w_up {M : ew_M} {i j : Nat} {f : Nat → Int32} {x : Int32} : ew_w (ew_up M i f) i j x = ew_up M i (upd f j x) := by
  funext q
  unfold ew_w
  rw [ew_up_self]
  unfold ew_up
  by_cases h : q = i
  · simp [h]
  · simp [h]
theorem ew_up_id {M : ew_M} {i : Nat} : ew_up M i (M i) = M := by
  funext q
  unfold ew_up
  by_cases h : q = i
  · simp [h]
  · simp [h]
def sp_gr (f : Nat → Int32) (c : Nat) : Nat → (Nat → Int32)
  | 0 => f
  | j + 1 => upd (sp_gr f c j) (c - 1 - j) (sp_mix (sp_gr f c j (2 * (c - 1 - j))) (sp_gr f c j (2 * (c - 1 - j) + 1)))
def sp_tree (r : Nat → Int32) (c : Nat) (lf : Nat → Int32) : Prop := (∀ i, i < c → r (c + i) = lf i) ∧ ∀ n, 1 ≤ n → n < c → r n = sp_mix (r (2 * n)) (r (2 * n + 1))
theorem sp_tree_eq {r q : Nat → Int32} {c : Nat} {lf lg : Nat → Int32} (h : sp_tree r c lf) (h' : sp_tree q c lg) (he : ∀ i, i < c → lf i = lg i) : ∀ (u n : Nat), 2 * c ≤ n + u → 1 ≤ n → n < 2 * c → r n = q n
  | 0, n, h1, h2, h3 => by omega
  | u + 1, n, h1, h2, h3 => by
    by_cases hn : n < c
    · rw [h.2 n h2 hn, h'.2 n h2 hn, sp_tree_eq h h' he u (2 * n) (by omega) (by omega) (by omega), sp_tree_eq h h' he u (2 * n + 1) (by omega) (by omega) (by omega)]
    · have e : n = c + (n - c) := by omega
      rw [e, h.1 (n - c) (by omega), h'.1 (n - c) (by omega)]
      exact he _ (by omega)
theorem sp_gr_hi (f : Nat → Int32) (c : Nat) : ∀ (j n : Nat), j < c → c - j ≤ n → (c ≤ n → sp_gr f c j n = f n) ∧ (n < c → sp_gr f c j n = sp_mix (sp_gr f c j (2 * n)) (sp_gr f c j (2 * n + 1)))
  | 0, n, h1, h2 => ⟨fun _ => rfl, fun h => by omega⟩
  | j + 1, n, h1, h2 => by
    have ih := fun n h => sp_gr_hi f c j n (by omega) h
    refine ⟨fun h => ?_, fun h => ?_⟩
    · show upd (sp_gr f c j) (c - 1 - j) _ n = _
      have e : n ≠ c - 1 - j := by omega
      simp only [upd, e, if_false]
      exact (ih n (by omega)).1 h
    · have k : ∀ m, c - 1 - j < m → sp_gr f c (j + 1) m = sp_gr f c j m := fun m hm => by
        show upd (sp_gr f c j) (c - 1 - j) _ m = _
        have e : m ≠ c - 1 - j := by omega
        simp only [upd, e, if_false]
      rw [k (2 * n) (by omega), k (2 * n + 1) (by omega)]
      by_cases e : n = c - 1 - j
      · subst e
        show upd (sp_gr f c j) (c - 1 - j) _ (c - 1 - j) = _
        simp only [upd, if_true]
      · rw [k n (by omega)]
        exact (ih n (by omega)).2 h
theorem sp_gr_tree (f : Nat → Int32) {c : Nat} (hc : 0 < c) : sp_tree (sp_gr f c (c - 1)) c (fun i => f (c + i)) := ⟨fun i hi => (sp_gr_hi f c (c - 1) (c + i) (by omega) (by omega)).1 (by omega), fun n h1 h2 => (sp_gr_hi f c (c - 1) n (by omega) (by omega)).2 h2⟩
/-- the path of a node, written from a place on -/
def sp_pa (nd : Nat → Int32) : Nat → (Nat → Int32) → Nat → Nat → (Nat → Int32)
  | 0, f, _, _ => f
  | u + 1, f, to, n => if n ≤ 1 then f else sp_pa nd u (upd f to (nd (n ^^^ 1))) (to + 1) (n / 2)
theorem sp_pa_1 {nd : Nat → Int32} {u to n : Nat} {f : Nat → Int32} (h : n ≤ 1) : sp_pa nd u f to n = f := by
  cases u with
  | zero => rfl
  | succ u => exact if_pos h
theorem sp_pa_2 {nd : Nat → Int32} {u to n : Nat} {f : Nat → Int32} (h : ¬ n ≤ 1) : sp_pa nd (u + 1) f to n = sp_pa nd u (upd f to (nd (n ^^^ 1))) (to + 1) (n / 2) := if_neg h
/-- the root that a path leads to -/
def sp_ro (f : Nat → Int32) : Nat → Int32 → Nat → Nat → Int32
  | 0, v, _, _ => v
  | u + 1, v, n, p => if n ≤ 1 then v else sp_ro f u (if n % 2 = 0 then sp_mix v (f p) else sp_mix (f p) v) (n / 2) (p + 1)
theorem sp_ro_1 {f : Nat → Int32} {u p n : Nat} {v : Int32} (h : n ≤ 1) : sp_ro f u v n p = v := by
  cases u with
  | zero => rfl
  | succ u => exact if_pos h
theorem sp_ro_2 {f : Nat → Int32} {u p n : Nat} {v : Int32} (h : ¬ n ≤ 1) : sp_ro f (u + 1) v n p = sp_ro f u (if n % 2 = 0 then sp_mix v (f p) else sp_mix (f p) v) (n / 2) (p + 1) := if_neg h
set_option maxRecDepth 100000 in
theorem c_Tr_plant34 (l : Launch) (g : ew_G) (d L : Nat) (M : ew_M) (hz : M 34 0 = nI 32) (i : Nat) (x : Int32) (hi : i < 32) :
    Ew l g d 0 0 m_Tr_plant 0 [.ref 34, .int (nI i), .int x] [] (ew_SH L) M (ew_q (none) (ew_SH L) (ew_w M 35 (32 + i) x)) := by
  refine ew_aload_n d_Tr_plant_0 rfl ?_
  refine ew_getr (ci := 8) (f := 1) d_Tr_plant_1 rfl rfl rfl tw_154 ?_
  refine ew_aload_n d_Tr_plant_4 rfl ?_
  refine ew_geti (ci := 8) (f := 0) d_Tr_plant_5 rfl rfl rfl tw_153 ?_
  refine en_eq (st' := [.int (nI 32), .ref 35]) rfl (by rw [show (M 34 0) = (nI 32) from hz]) rfl ?_
  refine ew_iload_n d_Tr_plant_8 rfl ?_
  refine en_iadd d_Tr_plant_9 ?_
  refine ew_iload_n d_Tr_plant_10 rfl ?_
  refine ew_iast (j := 32 + i) d_Tr_plant_11 rfl (by decide) (rfl) (by first | with_reducible assumption | with_reducible exact ep_lt _ | with_reducible exact sp_its_lt _ _ _ | with_reducible exact tb_l_rt _ | with_reducible exact tb_l_x _ | with_reducible exact tb_l_o0 _ | with_reducible exact tb_l_o1 _ | with_reducible exact tb_l_va _ | with_reducible exact tb_l_ll _ | with_reducible exact tb_l_cf _ | with_reducible exact tb_l_kf _ | with_reducible exact sp_ts_lt _ _ _ _ | with_reducible exact sp_w_lt _ _ | with_reducible exact sp_cs_lt _ _ _ _ _ | with_reducible exact sp_cb_lt _ _ _ _ _ | with_reducible exact sp_ch_lt _ | with_reducible exact sp_bf_lt _ _ | omega) (by decide) ?_
  exact ew_ret d_Tr_plant_12 rfl (⟨rfl, rfl, rfl⟩)
set_option maxRecDepth 100000 in
theorem lp_Tr_grow34 (l : Launch) (g : ew_G) (d L : Nat) (M : ew_M)  : ∀ (fu j : Nat), 31 - j < fu → j ≤ 31 → Ew l g (d + 2) 0 0 m_Tr_grow 7 [.ref 34, .int (nI (32 - 1 - j))] [] (ew_SH L) (ew_up M 35 (sp_gr (M 35) 32 j)) (ew_q (some (.int (sp_gr (M 35) 32 31 1))) (ew_SH L) (ew_up M 35 (sp_gr (M 35) 32 31))) := by
  intro fu
  induction fu with
  | zero =>
    intro j  hn
    exact absurd hn (Nat.not_lt_zero _)
  | succ fu ih =>
    intro j  hn hle
    refine ew_iload_n d_Tr_grow_7 rfl ?_
    refine ew_iconst (v := nI 1) d_Tr_grow_8 (by decide) ?_
    refine en_icmp_lt (tgt := 45) d_Tr_grow_9 (by decide) (by omega) (by omega) (fun h9 => ?_) (fun h9 => ?_)
    · obtain rfl : j = 31 := by omega
      refine ew_aload_n d_Tr_grow_45 rfl ?_
      refine ew_getr (ci := 8) (f := 1) d_Tr_grow_46 rfl rfl rfl tw_154 ?_
      refine ew_iconst (v := nI 1) d_Tr_grow_49 (by decide) ?_
      refine ew_iald (j := 1) d_Tr_grow_50 rfl (rfl) (by decide) (by decide) ?_
      refine en_eq (st' := [.int (sp_gr (M 35) 32 31 1)]) rfl (by rw [show ((ew_up M 35 (sp_gr (M 35) 32 31)) 35 1) = (sp_gr (M 35) 32 31 1) from by rw [ew_up_self]]) rfl ?_
      exact ew_iret d_Tr_grow_51 rfl (⟨rfl, rfl, rfl⟩)
    · refine ew_aload_n d_Tr_grow_12 rfl ?_
      refine ew_getr (ci := 8) (f := 1) d_Tr_grow_13 rfl rfl rfl tw_154 ?_
      refine ew_iload_n d_Tr_grow_16 rfl ?_
      refine ew_aload_n d_Tr_grow_17 rfl ?_
      refine ew_getr (ci := 8) (f := 1) d_Tr_grow_18 rfl rfl rfl tw_154 ?_
      refine ew_iconst (v := nI 2) d_Tr_grow_21 (by decide) ?_
      refine ew_iload_n d_Tr_grow_22 rfl ?_
      refine en_imul d_Tr_grow_23 ?_
      refine ew_iald (j := 2 * (32 - 1 - j)) d_Tr_grow_24 rfl (rfl) (by omega) (by decide) ?_
      refine en_eq (st' := [.int (sp_gr (M 35) 32 j (2 * (32 - 1 - j))), .int (nI (32 - 1 - j)), .ref 35]) rfl (by rw [show ((ew_up M 35 (sp_gr (M 35) 32 j)) 35 (2 * (32 - 1 - j))) = (sp_gr (M 35) 32 j (2 * (32 - 1 - j))) from by rw [ew_up_self]]) rfl ?_
      refine ew_aload_n d_Tr_grow_25 rfl ?_
      refine ew_getr (ci := 8) (f := 1) d_Tr_grow_26 rfl rfl rfl tw_154 ?_
      refine ew_iconst (v := nI 2) d_Tr_grow_29 (by decide) ?_
      refine ew_iload_n d_Tr_grow_30 rfl ?_
      refine en_imul d_Tr_grow_31 ?_
      refine ew_iconst (v := nI 1) d_Tr_grow_32 (by decide) ?_
      refine en_iadd d_Tr_grow_33 ?_
      refine ew_iald (j := (2 * (32 - 1 - j)) + 1) d_Tr_grow_34 rfl (rfl) (by omega) (by decide) ?_
      refine en_eq (st' := [.int (sp_gr (M 35) 32 j (2 * (32 - 1 - j) + 1)), .int (sp_gr (M 35) 32 j (2 * (32 - 1 - j))), .int (nI (32 - 1 - j)), .ref 35]) rfl (by rw [show ((ew_up M 35 (sp_gr (M 35) 32 j)) 35 ((2 * (32 - 1 - j)) + 1)) = (sp_gr (M 35) 32 j (2 * (32 - 1 - j) + 1)) from by rw [ew_up_self]]) rfl ?_
      refine en_callSN (As := [.int (sp_gr (M 35) 32 j (2 * (32 - 1 - j))), .int (sp_gr (M 35) 32 j (2 * (32 - 1 - j) + 1))]) (st := [.int (nI (32 - 1 - j)), .ref 35]) (st1 := [.int (sp_mix (sp_gr (M 35) 32 j (2 * (32 - 1 - j))) (sp_gr (M 35) 32 j (2 * (32 - 1 - j) + 1))), .int (nI (32 - 1 - j)), .ref 35]) d_Tr_grow_35 k_P_mix tw_388 tw_376 rfl (Nat.le_of_ble_eq_true rfl) rfl (Nat.le_of_ble_eq_true rfl) rfl rfl (c_P_mix l g _ (ew_SH L) (ew_up M 35 (sp_gr (M 35) 32 j)) (sp_gr (M 35) 32 j (2 * (32 - 1 - j))) (sp_gr (M 35) 32 j (2 * (32 - 1 - j) + 1))) rfl ?_
      refine ew_iast (j := 32 - 1 - j) d_Tr_grow_38 rfl (by decide) (rfl) (by omega) (by decide) ?_
      refine en_eq (M' := ew_up M 35 (sp_gr (M 35) 32 (j + 1))) rfl rfl (by rw [ew_w_up]; rfl) ?_
      refine en_dec (ls' := [.ref 34, .int (nI ((32 - 1 - j) - 1))]) d_Tr_grow_39 (by omega) rfl rfl ?_
      refine ew_goto (tgt := 7) d_Tr_grow_42 (by decide) ?_
      refine en_eq (ls' := [.ref 34, .int (nI (32 - 1 - (j + 1)))]) (by rw [show 32 - 1 - j - 1 = 32 - 1 - (j + 1) by omega]) rfl rfl ?_
      exact ih (j + 1) (by omega) (by omega)
set_option maxRecDepth 100000 in
theorem c_Tr_grow34 (l : Launch) (g : ew_G) (d L : Nat) (M : ew_M) (hz : M 34 0 = nI 32) :
    Ew l g (d + 2) 0 0 m_Tr_grow 0 [.ref 34, .retAddr 0] [] (ew_SH L) M (ew_q (some (.int (sp_gr (M 35) 32 31 1))) (ew_SH L) (ew_up M 35 (sp_gr (M 35) 32 31))) := by
  refine ew_aload_n d_Tr_grow_0 rfl ?_
  refine ew_geti (ci := 8) (f := 0) d_Tr_grow_1 rfl rfl rfl tw_153 ?_
  refine en_eq (st' := [.int (nI 32)]) rfl (by rw [show (M 34 0) = (nI 32) from hz]) rfl ?_
  refine ew_iconst (v := nI 1) d_Tr_grow_4 (by decide) ?_
  refine en_isub d_Tr_grow_5 (by first | with_reducible assumption | with_reducible exact ep_lt _ | with_reducible exact sp_its_lt _ _ _ | with_reducible exact tb_l_rt _ | with_reducible exact tb_l_x _ | with_reducible exact tb_l_o0 _ | with_reducible exact tb_l_o1 _ | with_reducible exact tb_l_va _ | with_reducible exact tb_l_ll _ | with_reducible exact tb_l_cf _ | with_reducible exact tb_l_kf _ | with_reducible exact sp_ts_lt _ _ _ _ | with_reducible exact sp_w_lt _ _ | with_reducible exact sp_cs_lt _ _ _ _ _ | with_reducible exact sp_cb_lt _ _ _ _ _ | with_reducible exact sp_ch_lt _ | with_reducible exact sp_bf_lt _ _ | omega) ?_
  refine en_eq rfl (show _ = [.int (nI 31)] from rfl) rfl ?_
  refine en_istore_n (ls' := [.ref 34, .int (nI 31)]) d_Tr_grow_6 (Nat.le_of_ble_eq_true rfl) rfl ?_
  refine en_eq (M' := ew_up M 35 (sp_gr (M 35) 32 0)) rfl rfl (ew_up_id).symm ?_
  exact lp_Tr_grow34 l g d L M 32 0 (by omega) (by omega)
set_option maxRecDepth 100000 in
theorem lp_Tr_copyPath34 (l : Launch) (g : ew_G) (d L : Nat) (M : ew_M) : ∀ (u : Nat) (f : Nat → Int32) (to n v : Nat), n < 2 ^ u → n < 64 → n < 2 ^ v → to + v ≤ 180 → Ew l g d 0 0 m_Tr_copyPath 11 [.ref 34, .retAddr 0, .ref 22, .retAddr 0, .int (nI to), .int (nI n)] [] (ew_SH L) (ew_up M 22 f) (ew_q none (ew_SH L) (ew_up M 22 (sp_pa (M 35) u f to n))) := by
  intro u
  induction u with
  | zero =>
    intro f to n v h1 h2 h4 h3
    have hn : n = 0 := by omega
    subst hn
    refine ew_iload d_Tr_copyPath_11 rfl ?_
    refine ew_iconst (v := nI 1) d_Tr_copyPath_13 (by decide) ?_
    refine en_icmp_le (tgt := 42) d_Tr_copyPath_14 (by decide) (by omega) (by omega) (fun h14 => ?_) (fun h14 => by exact absurd h14 (by decide))
    exact ew_ret d_Tr_copyPath_42 rfl (⟨rfl, rfl, rfl⟩)
  | succ u ih =>
    intro f to n v h1 h2 h4 h3
    refine ew_iload d_Tr_copyPath_11 rfl ?_
    refine ew_iconst (v := nI 1) d_Tr_copyPath_13 (by decide) ?_
    refine en_icmp_le (tgt := 42) d_Tr_copyPath_14 (by decide) (by omega) (by omega) (fun h14 => ?_) (fun h14 => ?_)
    · exact ew_ret d_Tr_copyPath_42 rfl (⟨rfl, rfl, by rw [sp_pa_1 (by omega)]⟩)
    · obtain ⟨w, rfl⟩ : ∃ w, v = w + 2 := sp_two h14 h4
      refine ew_aload_n d_Tr_copyPath_17 rfl ?_
      refine ew_iload d_Tr_copyPath_18 rfl ?_
      refine ew_aload_n d_Tr_copyPath_20 rfl ?_
      refine ew_getr (ci := 8) (f := 1) d_Tr_copyPath_21 rfl rfl rfl tw_154 ?_
      refine ew_iload d_Tr_copyPath_24 rfl ?_
      refine ew_iconst (v := nI 1) d_Tr_copyPath_26 (by decide) ?_
      refine ew_ixor d_Tr_copyPath_27 ?_
      refine en_eq (st' := [.int (nI (n ^^^ 1)), .ref 35, .int (nI to), .ref 22]) rfl (by rw [show ((nI n) ^^^ (nI 1)) = (nI (n ^^^ 1)) from nx_x n 1]) rfl ?_
      refine ew_iald (j := n ^^^ 1) d_Tr_copyPath_28 rfl (rfl) (by have := nx_lt (u := 5) (n := n) (by omega); omega) (by decide) ?_
      refine en_eq (st' := [.int (M 35 (n ^^^ 1)), .int (nI to), .ref 22]) rfl (by rw [show ((ew_up M 22 f) 35 (n ^^^ 1)) = (M 35 (n ^^^ 1)) from by rw [ew_up_ne (by decide)]]) rfl ?_
      refine ew_iast (j := to) d_Tr_copyPath_29 rfl (by decide) (rfl) (by omega) (by decide) ?_
      refine en_eq (M' := ew_up M 22 (upd f to (M 35 (n ^^^ 1)))) rfl rfl (ew_w_up) ?_
      refine en_inc (ls' := [.ref 34, .retAddr 0, .ref 22, .retAddr 0, .int (nI (to + 1)), .int (nI n)]) d_Tr_copyPath_30 rfl rfl ?_
      refine ew_iload d_Tr_copyPath_33 rfl ?_
      refine ew_iconst (v := nI 2) d_Tr_copyPath_35 (by decide) ?_
      refine en_idiv d_Tr_copyPath_36 (by omega) (by decide) (by decide) ?_
      refine en_istore (ls' := [.ref 34, .retAddr 0, .ref 22, .retAddr 0, .int (nI (to + 1)), .int (nI (n / 2))]) d_Tr_copyPath_37 (Nat.le_of_ble_eq_true rfl) rfl ?_
      refine ew_goto (tgt := 11) d_Tr_copyPath_39 (by decide) ?_
      rw [sp_pa_2 (by omega)]
      exact ih (upd f to (M 35 (n ^^^ 1))) (to + 1) (n / 2) (w + 1) (by rw [Nat.pow_succ] at h1; omega) (by omega) (by rw [Nat.pow_succ] at h4; omega) (by omega)
set_option maxRecDepth 100000 in
theorem c_Tr_copyPath34 (l : Launch) (g : ew_G) (d L : Nat) (M : ew_M) (hz : M 34 0 = nI 32) (i p : Nat) (hi : i < 32) (hp : p + 6 ≤ 180) :
    Ew l g d 0 0 m_Tr_copyPath 0 [.ref 34, .int (nI i), .ref 22, .int (nI p), .retAddr 0, .retAddr 0] [] (ew_SH L) M (ew_q (none) (ew_SH L) (ew_up M 22 (sp_pa (M 35) 6 (M 22) p (32 + i)))) := by
  refine ew_iload_n d_Tr_copyPath_0 rfl ?_
  refine en_istore (ls' := [.ref 34, .int (nI i), .ref 22, .int (nI p), .int (nI p), .retAddr 0]) d_Tr_copyPath_1 (Nat.le_of_ble_eq_true rfl) rfl ?_
  refine ew_aload_n d_Tr_copyPath_3 rfl ?_
  refine ew_geti (ci := 8) (f := 0) d_Tr_copyPath_4 rfl rfl rfl tw_153 ?_
  refine en_eq (st' := [.int (nI 32)]) rfl (by rw [show (M 34 0) = (nI 32) from hz]) rfl ?_
  refine ew_iload_n d_Tr_copyPath_7 rfl ?_
  refine en_iadd d_Tr_copyPath_8 ?_
  refine en_istore (ls' := [.ref 34, .int (nI i), .ref 22, .int (nI p), .int (nI p), .int (nI (32 + i))]) d_Tr_copyPath_9 (Nat.le_of_ble_eq_true rfl) rfl ?_
  refine en_drop (ls' := [.ref 34, .retAddr 0, .ref 22, .retAddr 0, .int (nI p), .int (nI (32 + i))]) ⟨Or.inl rfl, Or.inr rfl, Or.inl rfl, Or.inr rfl, Or.inl rfl, Or.inl rfl, trivial⟩ ?_
  refine en_eq (M' := ew_up M 22 (M 22)) rfl rfl (ew_up_id).symm ?_
  exact lp_Tr_copyPath34 l g d L M 6 (M 22) p (32 + i) 6 (by omega) (by omega) (by omega) (by omega)
set_option maxRecDepth 100000 in
theorem c_Tr_plant37 (l : Launch) (g : ew_G) (d L : Nat) (M : ew_M) (hz : M 37 0 = nI 32) (i : Nat) (x : Int32) (hi : i < 32) :
    Ew l g d 0 0 m_Tr_plant 0 [.ref 37, .int (nI i), .int x] [] (ew_SH L) M (ew_q (none) (ew_SH L) (ew_w M 38 (32 + i) x)) := by
  refine ew_aload_n d_Tr_plant_0 rfl ?_
  refine ew_getr (ci := 8) (f := 1) d_Tr_plant_1 rfl rfl rfl tw_154 ?_
  refine ew_aload_n d_Tr_plant_4 rfl ?_
  refine ew_geti (ci := 8) (f := 0) d_Tr_plant_5 rfl rfl rfl tw_153 ?_
  refine en_eq (st' := [.int (nI 32), .ref 38]) rfl (by rw [show (M 37 0) = (nI 32) from hz]) rfl ?_
  refine ew_iload_n d_Tr_plant_8 rfl ?_
  refine en_iadd d_Tr_plant_9 ?_
  refine ew_iload_n d_Tr_plant_10 rfl ?_
  refine ew_iast (j := 32 + i) d_Tr_plant_11 rfl (by decide) (rfl) (by first | with_reducible assumption | with_reducible exact ep_lt _ | with_reducible exact sp_its_lt _ _ _ | with_reducible exact tb_l_rt _ | with_reducible exact tb_l_x _ | with_reducible exact tb_l_o0 _ | with_reducible exact tb_l_o1 _ | with_reducible exact tb_l_va _ | with_reducible exact tb_l_ll _ | with_reducible exact tb_l_cf _ | with_reducible exact tb_l_kf _ | with_reducible exact sp_ts_lt _ _ _ _ | with_reducible exact sp_w_lt _ _ | with_reducible exact sp_cs_lt _ _ _ _ _ | with_reducible exact sp_cb_lt _ _ _ _ _ | with_reducible exact sp_ch_lt _ | with_reducible exact sp_bf_lt _ _ | omega) (by decide) ?_
  exact ew_ret d_Tr_plant_12 rfl (⟨rfl, rfl, rfl⟩)
set_option maxRecDepth 100000 in
theorem lp_Tr_grow37 (l : Launch) (g : ew_G) (d L : Nat) (M : ew_M)  : ∀ (fu j : Nat), 31 - j < fu → j ≤ 31 → Ew l g (d + 2) 0 0 m_Tr_grow 7 [.ref 37, .int (nI (32 - 1 - j))] [] (ew_SH L) (ew_up M 38 (sp_gr (M 38) 32 j)) (ew_q (some (.int (sp_gr (M 38) 32 31 1))) (ew_SH L) (ew_up M 38 (sp_gr (M 38) 32 31))) := by
  intro fu
  induction fu with
  | zero =>
    intro j  hn
    exact absurd hn (Nat.not_lt_zero _)
  | succ fu ih =>
    intro j  hn hle
    refine ew_iload_n d_Tr_grow_7 rfl ?_
    refine ew_iconst (v := nI 1) d_Tr_grow_8 (by decide) ?_
    refine en_icmp_lt (tgt := 45) d_Tr_grow_9 (by decide) (by omega) (by omega) (fun h9 => ?_) (fun h9 => ?_)
    · obtain rfl : j = 31 := by omega
      refine ew_aload_n d_Tr_grow_45 rfl ?_
      refine ew_getr (ci := 8) (f := 1) d_Tr_grow_46 rfl rfl rfl tw_154 ?_
      refine ew_iconst (v := nI 1) d_Tr_grow_49 (by decide) ?_
      refine ew_iald (j := 1) d_Tr_grow_50 rfl (rfl) (by decide) (by decide) ?_
      refine en_eq (st' := [.int (sp_gr (M 38) 32 31 1)]) rfl (by rw [show ((ew_up M 38 (sp_gr (M 38) 32 31)) 38 1) = (sp_gr (M 38) 32 31 1) from by rw [ew_up_self]]) rfl ?_
      exact ew_iret d_Tr_grow_51 rfl (⟨rfl, rfl, rfl⟩)
    · refine ew_aload_n d_Tr_grow_12 rfl ?_
      refine ew_getr (ci := 8) (f := 1) d_Tr_grow_13 rfl rfl rfl tw_154 ?_
      refine ew_iload_n d_Tr_grow_16 rfl ?_
      refine ew_aload_n d_Tr_grow_17 rfl ?_
      refine ew_getr (ci := 8) (f := 1) d_Tr_grow_18 rfl rfl rfl tw_154 ?_
      refine ew_iconst (v := nI 2) d_Tr_grow_21 (by decide) ?_
      refine ew_iload_n d_Tr_grow_22 rfl ?_
      refine en_imul d_Tr_grow_23 ?_
      refine ew_iald (j := 2 * (32 - 1 - j)) d_Tr_grow_24 rfl (rfl) (by omega) (by decide) ?_
      refine en_eq (st' := [.int (sp_gr (M 38) 32 j (2 * (32 - 1 - j))), .int (nI (32 - 1 - j)), .ref 38]) rfl (by rw [show ((ew_up M 38 (sp_gr (M 38) 32 j)) 38 (2 * (32 - 1 - j))) = (sp_gr (M 38) 32 j (2 * (32 - 1 - j))) from by rw [ew_up_self]]) rfl ?_
      refine ew_aload_n d_Tr_grow_25 rfl ?_
      refine ew_getr (ci := 8) (f := 1) d_Tr_grow_26 rfl rfl rfl tw_154 ?_
      refine ew_iconst (v := nI 2) d_Tr_grow_29 (by decide) ?_
      refine ew_iload_n d_Tr_grow_30 rfl ?_
      refine en_imul d_Tr_grow_31 ?_
      refine ew_iconst (v := nI 1) d_Tr_grow_32 (by decide) ?_
      refine en_iadd d_Tr_grow_33 ?_
      refine ew_iald (j := (2 * (32 - 1 - j)) + 1) d_Tr_grow_34 rfl (rfl) (by omega) (by decide) ?_
      refine en_eq (st' := [.int (sp_gr (M 38) 32 j (2 * (32 - 1 - j) + 1)), .int (sp_gr (M 38) 32 j (2 * (32 - 1 - j))), .int (nI (32 - 1 - j)), .ref 38]) rfl (by rw [show ((ew_up M 38 (sp_gr (M 38) 32 j)) 38 ((2 * (32 - 1 - j)) + 1)) = (sp_gr (M 38) 32 j (2 * (32 - 1 - j) + 1)) from by rw [ew_up_self]]) rfl ?_
      refine en_callSN (As := [.int (sp_gr (M 38) 32 j (2 * (32 - 1 - j))), .int (sp_gr (M 38) 32 j (2 * (32 - 1 - j) + 1))]) (st := [.int (nI (32 - 1 - j)), .ref 38]) (st1 := [.int (sp_mix (sp_gr (M 38) 32 j (2 * (32 - 1 - j))) (sp_gr (M 38) 32 j (2 * (32 - 1 - j) + 1))), .int (nI (32 - 1 - j)), .ref 38]) d_Tr_grow_35 k_P_mix tw_388 tw_376 rfl (Nat.le_of_ble_eq_true rfl) rfl (Nat.le_of_ble_eq_true rfl) rfl rfl (c_P_mix l g _ (ew_SH L) (ew_up M 38 (sp_gr (M 38) 32 j)) (sp_gr (M 38) 32 j (2 * (32 - 1 - j))) (sp_gr (M 38) 32 j (2 * (32 - 1 - j) + 1))) rfl ?_
      refine ew_iast (j := 32 - 1 - j) d_Tr_grow_38 rfl (by decide) (rfl) (by omega) (by decide) ?_
      refine en_eq (M' := ew_up M 38 (sp_gr (M 38) 32 (j + 1))) rfl rfl (by rw [ew_w_up]; rfl) ?_
      refine en_dec (ls' := [.ref 37, .int (nI ((32 - 1 - j) - 1))]) d_Tr_grow_39 (by omega) rfl rfl ?_
      refine ew_goto (tgt := 7) d_Tr_grow_42 (by decide) ?_
      refine en_eq (ls' := [.ref 37, .int (nI (32 - 1 - (j + 1)))]) (by rw [show 32 - 1 - j - 1 = 32 - 1 - (j + 1) by omega]) rfl rfl ?_
      exact ih (j + 1) (by omega) (by omega)
set_option maxRecDepth 100000 in
theorem c_Tr_grow37 (l : Launch) (g : ew_G) (d L : Nat) (M : ew_M) (hz : M 37 0 = nI 32) :
    Ew l g (d + 2) 0 0 m_Tr_grow 0 [.ref 37, .retAddr 0] [] (ew_SH L) M (ew_q (some (.int (sp_gr (M 38) 32 31 1))) (ew_SH L) (ew_up M 38 (sp_gr (M 38) 32 31))) := by
  refine ew_aload_n d_Tr_grow_0 rfl ?_
  refine ew_geti (ci := 8) (f := 0) d_Tr_grow_1 rfl rfl rfl tw_153 ?_
  refine en_eq (st' := [.int (nI 32)]) rfl (by rw [show (M 37 0) = (nI 32) from hz]) rfl ?_
  refine ew_iconst (v := nI 1) d_Tr_grow_4 (by decide) ?_
  refine en_isub d_Tr_grow_5 (by first | with_reducible assumption | with_reducible exact ep_lt _ | with_reducible exact sp_its_lt _ _ _ | with_reducible exact tb_l_rt _ | with_reducible exact tb_l_x _ | with_reducible exact tb_l_o0 _ | with_reducible exact tb_l_o1 _ | with_reducible exact tb_l_va _ | with_reducible exact tb_l_ll _ | with_reducible exact tb_l_cf _ | with_reducible exact tb_l_kf _ | with_reducible exact sp_ts_lt _ _ _ _ | with_reducible exact sp_w_lt _ _ | with_reducible exact sp_cs_lt _ _ _ _ _ | with_reducible exact sp_cb_lt _ _ _ _ _ | with_reducible exact sp_ch_lt _ | with_reducible exact sp_bf_lt _ _ | omega) ?_
  refine en_eq rfl (show _ = [.int (nI 31)] from rfl) rfl ?_
  refine en_istore_n (ls' := [.ref 37, .int (nI 31)]) d_Tr_grow_6 (Nat.le_of_ble_eq_true rfl) rfl ?_
  refine en_eq (M' := ew_up M 38 (sp_gr (M 38) 32 0)) rfl rfl (ew_up_id).symm ?_
  exact lp_Tr_grow37 l g d L M 32 0 (by omega) (by omega)
set_option maxRecDepth 100000 in
theorem lp_Tr_copyPath37 (l : Launch) (g : ew_G) (d L : Nat) (M : ew_M) : ∀ (u : Nat) (f : Nat → Int32) (to n v : Nat), n < 2 ^ u → n < 64 → n < 2 ^ v → to + v ≤ 180 → Ew l g d 0 0 m_Tr_copyPath 11 [.ref 37, .retAddr 0, .ref 22, .retAddr 0, .int (nI to), .int (nI n)] [] (ew_SH L) (ew_up M 22 f) (ew_q none (ew_SH L) (ew_up M 22 (sp_pa (M 38) u f to n))) := by
  intro u
  induction u with
  | zero =>
    intro f to n v h1 h2 h4 h3
    have hn : n = 0 := by omega
    subst hn
    refine ew_iload d_Tr_copyPath_11 rfl ?_
    refine ew_iconst (v := nI 1) d_Tr_copyPath_13 (by decide) ?_
    refine en_icmp_le (tgt := 42) d_Tr_copyPath_14 (by decide) (by omega) (by omega) (fun h14 => ?_) (fun h14 => by exact absurd h14 (by decide))
    exact ew_ret d_Tr_copyPath_42 rfl (⟨rfl, rfl, rfl⟩)
  | succ u ih =>
    intro f to n v h1 h2 h4 h3
    refine ew_iload d_Tr_copyPath_11 rfl ?_
    refine ew_iconst (v := nI 1) d_Tr_copyPath_13 (by decide) ?_
    refine en_icmp_le (tgt := 42) d_Tr_copyPath_14 (by decide) (by omega) (by omega) (fun h14 => ?_) (fun h14 => ?_)
    · exact ew_ret d_Tr_copyPath_42 rfl (⟨rfl, rfl, by rw [sp_pa_1 (by omega)]⟩)
    · obtain ⟨w, rfl⟩ : ∃ w, v = w + 2 := sp_two h14 h4
      refine ew_aload_n d_Tr_copyPath_17 rfl ?_
      refine ew_iload d_Tr_copyPath_18 rfl ?_
      refine ew_aload_n d_Tr_copyPath_20 rfl ?_
      refine ew_getr (ci := 8) (f := 1) d_Tr_copyPath_21 rfl rfl rfl tw_154 ?_
      refine ew_iload d_Tr_copyPath_24 rfl ?_
      refine ew_iconst (v := nI 1) d_Tr_copyPath_26 (by decide) ?_
      refine ew_ixor d_Tr_copyPath_27 ?_
      refine en_eq (st' := [.int (nI (n ^^^ 1)), .ref 38, .int (nI to), .ref 22]) rfl (by rw [show ((nI n) ^^^ (nI 1)) = (nI (n ^^^ 1)) from nx_x n 1]) rfl ?_
      refine ew_iald (j := n ^^^ 1) d_Tr_copyPath_28 rfl (rfl) (by have := nx_lt (u := 5) (n := n) (by omega); omega) (by decide) ?_
      refine en_eq (st' := [.int (M 38 (n ^^^ 1)), .int (nI to), .ref 22]) rfl (by rw [show ((ew_up M 22 f) 38 (n ^^^ 1)) = (M 38 (n ^^^ 1)) from by rw [ew_up_ne (by decide)]]) rfl ?_
      refine ew_iast (j := to) d_Tr_copyPath_29 rfl (by decide) (rfl) (by omega) (by decide) ?_
      refine en_eq (M' := ew_up M 22 (upd f to (M 38 (n ^^^ 1)))) rfl rfl (ew_w_up) ?_
      refine en_inc (ls' := [.ref 37, .retAddr 0, .ref 22, .retAddr 0, .int (nI (to + 1)), .int (nI n)]) d_Tr_copyPath_30 rfl rfl ?_
      refine ew_iload d_Tr_copyPath_33 rfl ?_
      refine ew_iconst (v := nI 2) d_Tr_copyPath_35 (by decide) ?_
      refine en_idiv d_Tr_copyPath_36 (by omega) (by decide) (by decide) ?_
      refine en_istore (ls' := [.ref 37, .retAddr 0, .ref 22, .retAddr 0, .int (nI (to + 1)), .int (nI (n / 2))]) d_Tr_copyPath_37 (Nat.le_of_ble_eq_true rfl) rfl ?_
      refine ew_goto (tgt := 11) d_Tr_copyPath_39 (by decide) ?_
      rw [sp_pa_2 (by omega)]
      exact ih (upd f to (M 38 (n ^^^ 1))) (to + 1) (n / 2) (w + 1) (by rw [Nat.pow_succ] at h1; omega) (by omega) (by rw [Nat.pow_succ] at h4; omega) (by omega)
set_option maxRecDepth 100000 in
theorem c_Tr_copyPath37 (l : Launch) (g : ew_G) (d L : Nat) (M : ew_M) (hz : M 37 0 = nI 32) (i p : Nat) (hi : i < 32) (hp : p + 6 ≤ 180) :
    Ew l g d 0 0 m_Tr_copyPath 0 [.ref 37, .int (nI i), .ref 22, .int (nI p), .retAddr 0, .retAddr 0] [] (ew_SH L) M (ew_q (none) (ew_SH L) (ew_up M 22 (sp_pa (M 38) 6 (M 22) p (32 + i)))) := by
  refine ew_iload_n d_Tr_copyPath_0 rfl ?_
  refine en_istore (ls' := [.ref 37, .int (nI i), .ref 22, .int (nI p), .int (nI p), .retAddr 0]) d_Tr_copyPath_1 (Nat.le_of_ble_eq_true rfl) rfl ?_
  refine ew_aload_n d_Tr_copyPath_3 rfl ?_
  refine ew_geti (ci := 8) (f := 0) d_Tr_copyPath_4 rfl rfl rfl tw_153 ?_
  refine en_eq (st' := [.int (nI 32)]) rfl (by rw [show (M 37 0) = (nI 32) from hz]) rfl ?_
  refine ew_iload_n d_Tr_copyPath_7 rfl ?_
  refine en_iadd d_Tr_copyPath_8 ?_
  refine en_istore (ls' := [.ref 37, .int (nI i), .ref 22, .int (nI p), .int (nI p), .int (nI (32 + i))]) d_Tr_copyPath_9 (Nat.le_of_ble_eq_true rfl) rfl ?_
  refine en_drop (ls' := [.ref 37, .retAddr 0, .ref 22, .retAddr 0, .int (nI p), .int (nI (32 + i))]) ⟨Or.inl rfl, Or.inr rfl, Or.inl rfl, Or.inr rfl, Or.inl rfl, Or.inl rfl, trivial⟩ ?_
  refine en_eq (M' := ew_up M 22 (M 22)) rfl rfl (ew_up_id).symm ?_
  exact lp_Tr_copyPath37 l g d L M 6 (M 22) p (32 + i) 6 (by omega) (by omega) (by omega) (by omega)
set_option maxRecDepth 100000 in
theorem c_Tr_plant39 (l : Launch) (g : ew_G) (d L : Nat) (M : ew_M) (hz : M 39 0 = nI 16) (i : Nat) (x : Int32) (hi : i < 16) :
    Ew l g d 0 0 m_Tr_plant 0 [.ref 39, .int (nI i), .int x] [] (ew_SH L) M (ew_q (none) (ew_SH L) (ew_w M 40 (16 + i) x)) := by
  refine ew_aload_n d_Tr_plant_0 rfl ?_
  refine ew_getr (ci := 8) (f := 1) d_Tr_plant_1 rfl rfl rfl tw_154 ?_
  refine ew_aload_n d_Tr_plant_4 rfl ?_
  refine ew_geti (ci := 8) (f := 0) d_Tr_plant_5 rfl rfl rfl tw_153 ?_
  refine en_eq (st' := [.int (nI 16), .ref 40]) rfl (by rw [show (M 39 0) = (nI 16) from hz]) rfl ?_
  refine ew_iload_n d_Tr_plant_8 rfl ?_
  refine en_iadd d_Tr_plant_9 ?_
  refine ew_iload_n d_Tr_plant_10 rfl ?_
  refine ew_iast (j := 16 + i) d_Tr_plant_11 rfl (by decide) (rfl) (by first | with_reducible assumption | with_reducible exact ep_lt _ | with_reducible exact sp_its_lt _ _ _ | with_reducible exact tb_l_rt _ | with_reducible exact tb_l_x _ | with_reducible exact tb_l_o0 _ | with_reducible exact tb_l_o1 _ | with_reducible exact tb_l_va _ | with_reducible exact tb_l_ll _ | with_reducible exact tb_l_cf _ | with_reducible exact tb_l_kf _ | with_reducible exact sp_ts_lt _ _ _ _ | with_reducible exact sp_w_lt _ _ | with_reducible exact sp_cs_lt _ _ _ _ _ | with_reducible exact sp_cb_lt _ _ _ _ _ | with_reducible exact sp_ch_lt _ | with_reducible exact sp_bf_lt _ _ | omega) (by decide) ?_
  exact ew_ret d_Tr_plant_12 rfl (⟨rfl, rfl, rfl⟩)
set_option maxRecDepth 100000 in
theorem lp_Tr_grow39 (l : Launch) (g : ew_G) (d L : Nat) (M : ew_M)  : ∀ (fu j : Nat), 15 - j < fu → j ≤ 15 → Ew l g (d + 2) 0 0 m_Tr_grow 7 [.ref 39, .int (nI (16 - 1 - j))] [] (ew_SH L) (ew_up M 40 (sp_gr (M 40) 16 j)) (ew_q (some (.int (sp_gr (M 40) 16 15 1))) (ew_SH L) (ew_up M 40 (sp_gr (M 40) 16 15))) := by
  intro fu
  induction fu with
  | zero =>
    intro j  hn
    exact absurd hn (Nat.not_lt_zero _)
  | succ fu ih =>
    intro j  hn hle
    refine ew_iload_n d_Tr_grow_7 rfl ?_
    refine ew_iconst (v := nI 1) d_Tr_grow_8 (by decide) ?_
    refine en_icmp_lt (tgt := 45) d_Tr_grow_9 (by decide) (by omega) (by omega) (fun h9 => ?_) (fun h9 => ?_)
    · obtain rfl : j = 15 := by omega
      refine ew_aload_n d_Tr_grow_45 rfl ?_
      refine ew_getr (ci := 8) (f := 1) d_Tr_grow_46 rfl rfl rfl tw_154 ?_
      refine ew_iconst (v := nI 1) d_Tr_grow_49 (by decide) ?_
      refine ew_iald (j := 1) d_Tr_grow_50 rfl (rfl) (by decide) (by decide) ?_
      refine en_eq (st' := [.int (sp_gr (M 40) 16 15 1)]) rfl (by rw [show ((ew_up M 40 (sp_gr (M 40) 16 15)) 40 1) = (sp_gr (M 40) 16 15 1) from by rw [ew_up_self]]) rfl ?_
      exact ew_iret d_Tr_grow_51 rfl (⟨rfl, rfl, rfl⟩)
    · refine ew_aload_n d_Tr_grow_12 rfl ?_
      refine ew_getr (ci := 8) (f := 1) d_Tr_grow_13 rfl rfl rfl tw_154 ?_
      refine ew_iload_n d_Tr_grow_16 rfl ?_
      refine ew_aload_n d_Tr_grow_17 rfl ?_
      refine ew_getr (ci := 8) (f := 1) d_Tr_grow_18 rfl rfl rfl tw_154 ?_
      refine ew_iconst (v := nI 2) d_Tr_grow_21 (by decide) ?_
      refine ew_iload_n d_Tr_grow_22 rfl ?_
      refine en_imul d_Tr_grow_23 ?_
      refine ew_iald (j := 2 * (16 - 1 - j)) d_Tr_grow_24 rfl (rfl) (by omega) (by decide) ?_
      refine en_eq (st' := [.int (sp_gr (M 40) 16 j (2 * (16 - 1 - j))), .int (nI (16 - 1 - j)), .ref 40]) rfl (by rw [show ((ew_up M 40 (sp_gr (M 40) 16 j)) 40 (2 * (16 - 1 - j))) = (sp_gr (M 40) 16 j (2 * (16 - 1 - j))) from by rw [ew_up_self]]) rfl ?_
      refine ew_aload_n d_Tr_grow_25 rfl ?_
      refine ew_getr (ci := 8) (f := 1) d_Tr_grow_26 rfl rfl rfl tw_154 ?_
      refine ew_iconst (v := nI 2) d_Tr_grow_29 (by decide) ?_
      refine ew_iload_n d_Tr_grow_30 rfl ?_
      refine en_imul d_Tr_grow_31 ?_
      refine ew_iconst (v := nI 1) d_Tr_grow_32 (by decide) ?_
      refine en_iadd d_Tr_grow_33 ?_
      refine ew_iald (j := (2 * (16 - 1 - j)) + 1) d_Tr_grow_34 rfl (rfl) (by omega) (by decide) ?_
      refine en_eq (st' := [.int (sp_gr (M 40) 16 j (2 * (16 - 1 - j) + 1)), .int (sp_gr (M 40) 16 j (2 * (16 - 1 - j))), .int (nI (16 - 1 - j)), .ref 40]) rfl (by rw [show ((ew_up M 40 (sp_gr (M 40) 16 j)) 40 ((2 * (16 - 1 - j)) + 1)) = (sp_gr (M 40) 16 j (2 * (16 - 1 - j) + 1)) from by rw [ew_up_self]]) rfl ?_
      refine en_callSN (As := [.int (sp_gr (M 40) 16 j (2 * (16 - 1 - j))), .int (sp_gr (M 40) 16 j (2 * (16 - 1 - j) + 1))]) (st := [.int (nI (16 - 1 - j)), .ref 40]) (st1 := [.int (sp_mix (sp_gr (M 40) 16 j (2 * (16 - 1 - j))) (sp_gr (M 40) 16 j (2 * (16 - 1 - j) + 1))), .int (nI (16 - 1 - j)), .ref 40]) d_Tr_grow_35 k_P_mix tw_388 tw_376 rfl (Nat.le_of_ble_eq_true rfl) rfl (Nat.le_of_ble_eq_true rfl) rfl rfl (c_P_mix l g _ (ew_SH L) (ew_up M 40 (sp_gr (M 40) 16 j)) (sp_gr (M 40) 16 j (2 * (16 - 1 - j))) (sp_gr (M 40) 16 j (2 * (16 - 1 - j) + 1))) rfl ?_
      refine ew_iast (j := 16 - 1 - j) d_Tr_grow_38 rfl (by decide) (rfl) (by omega) (by decide) ?_
      refine en_eq (M' := ew_up M 40 (sp_gr (M 40) 16 (j + 1))) rfl rfl (by rw [ew_w_up]; rfl) ?_
      refine en_dec (ls' := [.ref 39, .int (nI ((16 - 1 - j) - 1))]) d_Tr_grow_39 (by omega) rfl rfl ?_
      refine ew_goto (tgt := 7) d_Tr_grow_42 (by decide) ?_
      refine en_eq (ls' := [.ref 39, .int (nI (16 - 1 - (j + 1)))]) (by rw [show 16 - 1 - j - 1 = 16 - 1 - (j + 1) by omega]) rfl rfl ?_
      exact ih (j + 1) (by omega) (by omega)
set_option maxRecDepth 100000 in
theorem c_Tr_grow39 (l : Launch) (g : ew_G) (d L : Nat) (M : ew_M) (hz : M 39 0 = nI 16) :
    Ew l g (d + 2) 0 0 m_Tr_grow 0 [.ref 39, .retAddr 0] [] (ew_SH L) M (ew_q (some (.int (sp_gr (M 40) 16 15 1))) (ew_SH L) (ew_up M 40 (sp_gr (M 40) 16 15))) := by
  refine ew_aload_n d_Tr_grow_0 rfl ?_
  refine ew_geti (ci := 8) (f := 0) d_Tr_grow_1 rfl rfl rfl tw_153 ?_
  refine en_eq (st' := [.int (nI 16)]) rfl (by rw [show (M 39 0) = (nI 16) from hz]) rfl ?_
  refine ew_iconst (v := nI 1) d_Tr_grow_4 (by decide) ?_
  refine en_isub d_Tr_grow_5 (by first | with_reducible assumption | with_reducible exact ep_lt _ | with_reducible exact sp_its_lt _ _ _ | with_reducible exact tb_l_rt _ | with_reducible exact tb_l_x _ | with_reducible exact tb_l_o0 _ | with_reducible exact tb_l_o1 _ | with_reducible exact tb_l_va _ | with_reducible exact tb_l_ll _ | with_reducible exact tb_l_cf _ | with_reducible exact tb_l_kf _ | with_reducible exact sp_ts_lt _ _ _ _ | with_reducible exact sp_w_lt _ _ | with_reducible exact sp_cs_lt _ _ _ _ _ | with_reducible exact sp_cb_lt _ _ _ _ _ | with_reducible exact sp_ch_lt _ | with_reducible exact sp_bf_lt _ _ | omega) ?_
  refine en_eq rfl (show _ = [.int (nI 15)] from rfl) rfl ?_
  refine en_istore_n (ls' := [.ref 39, .int (nI 15)]) d_Tr_grow_6 (Nat.le_of_ble_eq_true rfl) rfl ?_
  refine en_eq (M' := ew_up M 40 (sp_gr (M 40) 16 0)) rfl rfl (ew_up_id).symm ?_
  exact lp_Tr_grow39 l g d L M 16 0 (by omega) (by omega)
set_option maxRecDepth 100000 in
theorem lp_Tr_copyPath39 (l : Launch) (g : ew_G) (d L : Nat) (M : ew_M) : ∀ (u : Nat) (f : Nat → Int32) (to n v : Nat), n < 2 ^ u → n < 32 → n < 2 ^ v → to + v ≤ 180 → Ew l g d 0 0 m_Tr_copyPath 11 [.ref 39, .retAddr 0, .ref 22, .retAddr 0, .int (nI to), .int (nI n)] [] (ew_SH L) (ew_up M 22 f) (ew_q none (ew_SH L) (ew_up M 22 (sp_pa (M 40) u f to n))) := by
  intro u
  induction u with
  | zero =>
    intro f to n v h1 h2 h4 h3
    have hn : n = 0 := by omega
    subst hn
    refine ew_iload d_Tr_copyPath_11 rfl ?_
    refine ew_iconst (v := nI 1) d_Tr_copyPath_13 (by decide) ?_
    refine en_icmp_le (tgt := 42) d_Tr_copyPath_14 (by decide) (by omega) (by omega) (fun h14 => ?_) (fun h14 => by exact absurd h14 (by decide))
    exact ew_ret d_Tr_copyPath_42 rfl (⟨rfl, rfl, rfl⟩)
  | succ u ih =>
    intro f to n v h1 h2 h4 h3
    refine ew_iload d_Tr_copyPath_11 rfl ?_
    refine ew_iconst (v := nI 1) d_Tr_copyPath_13 (by decide) ?_
    refine en_icmp_le (tgt := 42) d_Tr_copyPath_14 (by decide) (by omega) (by omega) (fun h14 => ?_) (fun h14 => ?_)
    · exact ew_ret d_Tr_copyPath_42 rfl (⟨rfl, rfl, by rw [sp_pa_1 (by omega)]⟩)
    · obtain ⟨w, rfl⟩ : ∃ w, v = w + 2 := sp_two h14 h4
      refine ew_aload_n d_Tr_copyPath_17 rfl ?_
      refine ew_iload d_Tr_copyPath_18 rfl ?_
      refine ew_aload_n d_Tr_copyPath_20 rfl ?_
      refine ew_getr (ci := 8) (f := 1) d_Tr_copyPath_21 rfl rfl rfl tw_154 ?_
      refine ew_iload d_Tr_copyPath_24 rfl ?_
      refine ew_iconst (v := nI 1) d_Tr_copyPath_26 (by decide) ?_
      refine ew_ixor d_Tr_copyPath_27 ?_
      refine en_eq (st' := [.int (nI (n ^^^ 1)), .ref 40, .int (nI to), .ref 22]) rfl (by rw [show ((nI n) ^^^ (nI 1)) = (nI (n ^^^ 1)) from nx_x n 1]) rfl ?_
      refine ew_iald (j := n ^^^ 1) d_Tr_copyPath_28 rfl (rfl) (by have := nx_lt (u := 4) (n := n) (by omega); omega) (by decide) ?_
      refine en_eq (st' := [.int (M 40 (n ^^^ 1)), .int (nI to), .ref 22]) rfl (by rw [show ((ew_up M 22 f) 40 (n ^^^ 1)) = (M 40 (n ^^^ 1)) from by rw [ew_up_ne (by decide)]]) rfl ?_
      refine ew_iast (j := to) d_Tr_copyPath_29 rfl (by decide) (rfl) (by omega) (by decide) ?_
      refine en_eq (M' := ew_up M 22 (upd f to (M 40 (n ^^^ 1)))) rfl rfl (ew_w_up) ?_
      refine en_inc (ls' := [.ref 39, .retAddr 0, .ref 22, .retAddr 0, .int (nI (to + 1)), .int (nI n)]) d_Tr_copyPath_30 rfl rfl ?_
      refine ew_iload d_Tr_copyPath_33 rfl ?_
      refine ew_iconst (v := nI 2) d_Tr_copyPath_35 (by decide) ?_
      refine en_idiv d_Tr_copyPath_36 (by omega) (by decide) (by decide) ?_
      refine en_istore (ls' := [.ref 39, .retAddr 0, .ref 22, .retAddr 0, .int (nI (to + 1)), .int (nI (n / 2))]) d_Tr_copyPath_37 (Nat.le_of_ble_eq_true rfl) rfl ?_
      refine ew_goto (tgt := 11) d_Tr_copyPath_39 (by decide) ?_
      rw [sp_pa_2 (by omega)]
      exact ih (upd f to (M 40 (n ^^^ 1))) (to + 1) (n / 2) (w + 1) (by rw [Nat.pow_succ] at h1; omega) (by omega) (by rw [Nat.pow_succ] at h4; omega) (by omega)
set_option maxRecDepth 100000 in
theorem c_Tr_copyPath39 (l : Launch) (g : ew_G) (d L : Nat) (M : ew_M) (hz : M 39 0 = nI 16) (i p : Nat) (hi : i < 16) (hp : p + 5 ≤ 180) :
    Ew l g d 0 0 m_Tr_copyPath 0 [.ref 39, .int (nI i), .ref 22, .int (nI p), .retAddr 0, .retAddr 0] [] (ew_SH L) M (ew_q (none) (ew_SH L) (ew_up M 22 (sp_pa (M 40) 6 (M 22) p (16 + i)))) := by
  refine ew_iload_n d_Tr_copyPath_0 rfl ?_
  refine en_istore (ls' := [.ref 39, .int (nI i), .ref 22, .int (nI p), .int (nI p), .retAddr 0]) d_Tr_copyPath_1 (Nat.le_of_ble_eq_true rfl) rfl ?_
  refine ew_aload_n d_Tr_copyPath_3 rfl ?_
  refine ew_geti (ci := 8) (f := 0) d_Tr_copyPath_4 rfl rfl rfl tw_153 ?_
  refine en_eq (st' := [.int (nI 16)]) rfl (by rw [show (M 39 0) = (nI 16) from hz]) rfl ?_
  refine ew_iload_n d_Tr_copyPath_7 rfl ?_
  refine en_iadd d_Tr_copyPath_8 ?_
  refine en_istore (ls' := [.ref 39, .int (nI i), .ref 22, .int (nI p), .int (nI p), .int (nI (16 + i))]) d_Tr_copyPath_9 (Nat.le_of_ble_eq_true rfl) rfl ?_
  refine en_drop (ls' := [.ref 39, .retAddr 0, .ref 22, .retAddr 0, .int (nI p), .int (nI (16 + i))]) ⟨Or.inl rfl, Or.inr rfl, Or.inl rfl, Or.inr rfl, Or.inl rfl, Or.inl rfl, trivial⟩ ?_
  refine en_eq (M' := ew_up M 22 (M 22)) rfl rfl (ew_up_id).symm ?_
  exact lp_Tr_copyPath39 l g d L M 6 (M 22) p (16 + i) 5 (by omega) (by omega) (by omega) (by omega)
set_option maxRecDepth 100000 in
theorem c_Tr_plant41 (l : Launch) (g : ew_G) (d L : Nat) (M : ew_M) (hz : M 41 0 = nI 8) (i : Nat) (x : Int32) (hi : i < 8) :
    Ew l g d 0 0 m_Tr_plant 0 [.ref 41, .int (nI i), .int x] [] (ew_SH L) M (ew_q (none) (ew_SH L) (ew_w M 42 (8 + i) x)) := by
  refine ew_aload_n d_Tr_plant_0 rfl ?_
  refine ew_getr (ci := 8) (f := 1) d_Tr_plant_1 rfl rfl rfl tw_154 ?_
  refine ew_aload_n d_Tr_plant_4 rfl ?_
  refine ew_geti (ci := 8) (f := 0) d_Tr_plant_5 rfl rfl rfl tw_153 ?_
  refine en_eq (st' := [.int (nI 8), .ref 42]) rfl (by rw [show (M 41 0) = (nI 8) from hz]) rfl ?_
  refine ew_iload_n d_Tr_plant_8 rfl ?_
  refine en_iadd d_Tr_plant_9 ?_
  refine ew_iload_n d_Tr_plant_10 rfl ?_
  refine ew_iast (j := 8 + i) d_Tr_plant_11 rfl (by decide) (rfl) (by first | with_reducible assumption | with_reducible exact ep_lt _ | with_reducible exact sp_its_lt _ _ _ | with_reducible exact tb_l_rt _ | with_reducible exact tb_l_x _ | with_reducible exact tb_l_o0 _ | with_reducible exact tb_l_o1 _ | with_reducible exact tb_l_va _ | with_reducible exact tb_l_ll _ | with_reducible exact tb_l_cf _ | with_reducible exact tb_l_kf _ | with_reducible exact sp_ts_lt _ _ _ _ | with_reducible exact sp_w_lt _ _ | with_reducible exact sp_cs_lt _ _ _ _ _ | with_reducible exact sp_cb_lt _ _ _ _ _ | with_reducible exact sp_ch_lt _ | with_reducible exact sp_bf_lt _ _ | omega) (by decide) ?_
  exact ew_ret d_Tr_plant_12 rfl (⟨rfl, rfl, rfl⟩)
set_option maxRecDepth 100000 in
theorem lp_Tr_grow41 (l : Launch) (g : ew_G) (d L : Nat) (M : ew_M)  : ∀ (fu j : Nat), 7 - j < fu → j ≤ 7 → Ew l g (d + 2) 0 0 m_Tr_grow 7 [.ref 41, .int (nI (8 - 1 - j))] [] (ew_SH L) (ew_up M 42 (sp_gr (M 42) 8 j)) (ew_q (some (.int (sp_gr (M 42) 8 7 1))) (ew_SH L) (ew_up M 42 (sp_gr (M 42) 8 7))) := by
  intro fu
  induction fu with
  | zero =>
    intro j  hn
    exact absurd hn (Nat.not_lt_zero _)
  | succ fu ih =>
    intro j  hn hle
    refine ew_iload_n d_Tr_grow_7 rfl ?_
    refine ew_iconst (v := nI 1) d_Tr_grow_8 (by decide) ?_
    refine en_icmp_lt (tgt := 45) d_Tr_grow_9 (by decide) (by omega) (by omega) (fun h9 => ?_) (fun h9 => ?_)
    · obtain rfl : j = 7 := by omega
      refine ew_aload_n d_Tr_grow_45 rfl ?_
      refine ew_getr (ci := 8) (f := 1) d_Tr_grow_46 rfl rfl rfl tw_154 ?_
      refine ew_iconst (v := nI 1) d_Tr_grow_49 (by decide) ?_
      refine ew_iald (j := 1) d_Tr_grow_50 rfl (rfl) (by decide) (by decide) ?_
      refine en_eq (st' := [.int (sp_gr (M 42) 8 7 1)]) rfl (by rw [show ((ew_up M 42 (sp_gr (M 42) 8 7)) 42 1) = (sp_gr (M 42) 8 7 1) from by rw [ew_up_self]]) rfl ?_
      exact ew_iret d_Tr_grow_51 rfl (⟨rfl, rfl, rfl⟩)
    · refine ew_aload_n d_Tr_grow_12 rfl ?_
      refine ew_getr (ci := 8) (f := 1) d_Tr_grow_13 rfl rfl rfl tw_154 ?_
      refine ew_iload_n d_Tr_grow_16 rfl ?_
      refine ew_aload_n d_Tr_grow_17 rfl ?_
      refine ew_getr (ci := 8) (f := 1) d_Tr_grow_18 rfl rfl rfl tw_154 ?_
      refine ew_iconst (v := nI 2) d_Tr_grow_21 (by decide) ?_
      refine ew_iload_n d_Tr_grow_22 rfl ?_
      refine en_imul d_Tr_grow_23 ?_
      refine ew_iald (j := 2 * (8 - 1 - j)) d_Tr_grow_24 rfl (rfl) (by omega) (by decide) ?_
      refine en_eq (st' := [.int (sp_gr (M 42) 8 j (2 * (8 - 1 - j))), .int (nI (8 - 1 - j)), .ref 42]) rfl (by rw [show ((ew_up M 42 (sp_gr (M 42) 8 j)) 42 (2 * (8 - 1 - j))) = (sp_gr (M 42) 8 j (2 * (8 - 1 - j))) from by rw [ew_up_self]]) rfl ?_
      refine ew_aload_n d_Tr_grow_25 rfl ?_
      refine ew_getr (ci := 8) (f := 1) d_Tr_grow_26 rfl rfl rfl tw_154 ?_
      refine ew_iconst (v := nI 2) d_Tr_grow_29 (by decide) ?_
      refine ew_iload_n d_Tr_grow_30 rfl ?_
      refine en_imul d_Tr_grow_31 ?_
      refine ew_iconst (v := nI 1) d_Tr_grow_32 (by decide) ?_
      refine en_iadd d_Tr_grow_33 ?_
      refine ew_iald (j := (2 * (8 - 1 - j)) + 1) d_Tr_grow_34 rfl (rfl) (by omega) (by decide) ?_
      refine en_eq (st' := [.int (sp_gr (M 42) 8 j (2 * (8 - 1 - j) + 1)), .int (sp_gr (M 42) 8 j (2 * (8 - 1 - j))), .int (nI (8 - 1 - j)), .ref 42]) rfl (by rw [show ((ew_up M 42 (sp_gr (M 42) 8 j)) 42 ((2 * (8 - 1 - j)) + 1)) = (sp_gr (M 42) 8 j (2 * (8 - 1 - j) + 1)) from by rw [ew_up_self]]) rfl ?_
      refine en_callSN (As := [.int (sp_gr (M 42) 8 j (2 * (8 - 1 - j))), .int (sp_gr (M 42) 8 j (2 * (8 - 1 - j) + 1))]) (st := [.int (nI (8 - 1 - j)), .ref 42]) (st1 := [.int (sp_mix (sp_gr (M 42) 8 j (2 * (8 - 1 - j))) (sp_gr (M 42) 8 j (2 * (8 - 1 - j) + 1))), .int (nI (8 - 1 - j)), .ref 42]) d_Tr_grow_35 k_P_mix tw_388 tw_376 rfl (Nat.le_of_ble_eq_true rfl) rfl (Nat.le_of_ble_eq_true rfl) rfl rfl (c_P_mix l g _ (ew_SH L) (ew_up M 42 (sp_gr (M 42) 8 j)) (sp_gr (M 42) 8 j (2 * (8 - 1 - j))) (sp_gr (M 42) 8 j (2 * (8 - 1 - j) + 1))) rfl ?_
      refine ew_iast (j := 8 - 1 - j) d_Tr_grow_38 rfl (by decide) (rfl) (by omega) (by decide) ?_
      refine en_eq (M' := ew_up M 42 (sp_gr (M 42) 8 (j + 1))) rfl rfl (by rw [ew_w_up]; rfl) ?_
      refine en_dec (ls' := [.ref 41, .int (nI ((8 - 1 - j) - 1))]) d_Tr_grow_39 (by omega) rfl rfl ?_
      refine ew_goto (tgt := 7) d_Tr_grow_42 (by decide) ?_
      refine en_eq (ls' := [.ref 41, .int (nI (8 - 1 - (j + 1)))]) (by rw [show 8 - 1 - j - 1 = 8 - 1 - (j + 1) by omega]) rfl rfl ?_
      exact ih (j + 1) (by omega) (by omega)
set_option maxRecDepth 100000 in
theorem c_Tr_grow41 (l : Launch) (g : ew_G) (d L : Nat) (M : ew_M) (hz : M 41 0 = nI 8) :
    Ew l g (d + 2) 0 0 m_Tr_grow 0 [.ref 41, .retAddr 0] [] (ew_SH L) M (ew_q (some (.int (sp_gr (M 42) 8 7 1))) (ew_SH L) (ew_up M 42 (sp_gr (M 42) 8 7))) := by
  refine ew_aload_n d_Tr_grow_0 rfl ?_
  refine ew_geti (ci := 8) (f := 0) d_Tr_grow_1 rfl rfl rfl tw_153 ?_
  refine en_eq (st' := [.int (nI 8)]) rfl (by rw [show (M 41 0) = (nI 8) from hz]) rfl ?_
  refine ew_iconst (v := nI 1) d_Tr_grow_4 (by decide) ?_
  refine en_isub d_Tr_grow_5 (by first | with_reducible assumption | with_reducible exact ep_lt _ | with_reducible exact sp_its_lt _ _ _ | with_reducible exact tb_l_rt _ | with_reducible exact tb_l_x _ | with_reducible exact tb_l_o0 _ | with_reducible exact tb_l_o1 _ | with_reducible exact tb_l_va _ | with_reducible exact tb_l_ll _ | with_reducible exact tb_l_cf _ | with_reducible exact tb_l_kf _ | with_reducible exact sp_ts_lt _ _ _ _ | with_reducible exact sp_w_lt _ _ | with_reducible exact sp_cs_lt _ _ _ _ _ | with_reducible exact sp_cb_lt _ _ _ _ _ | with_reducible exact sp_ch_lt _ | with_reducible exact sp_bf_lt _ _ | omega) ?_
  refine en_eq rfl (show _ = [.int (nI 7)] from rfl) rfl ?_
  refine en_istore_n (ls' := [.ref 41, .int (nI 7)]) d_Tr_grow_6 (Nat.le_of_ble_eq_true rfl) rfl ?_
  refine en_eq (M' := ew_up M 42 (sp_gr (M 42) 8 0)) rfl rfl (ew_up_id).symm ?_
  exact lp_Tr_grow41 l g d L M 8 0 (by omega) (by omega)
set_option maxRecDepth 100000 in
theorem lp_Tr_copyPath41 (l : Launch) (g : ew_G) (d L : Nat) (M : ew_M) : ∀ (u : Nat) (f : Nat → Int32) (to n v : Nat), n < 2 ^ u → n < 16 → n < 2 ^ v → to + v ≤ 180 → Ew l g d 0 0 m_Tr_copyPath 11 [.ref 41, .retAddr 0, .ref 22, .retAddr 0, .int (nI to), .int (nI n)] [] (ew_SH L) (ew_up M 22 f) (ew_q none (ew_SH L) (ew_up M 22 (sp_pa (M 42) u f to n))) := by
  intro u
  induction u with
  | zero =>
    intro f to n v h1 h2 h4 h3
    have hn : n = 0 := by omega
    subst hn
    refine ew_iload d_Tr_copyPath_11 rfl ?_
    refine ew_iconst (v := nI 1) d_Tr_copyPath_13 (by decide) ?_
    refine en_icmp_le (tgt := 42) d_Tr_copyPath_14 (by decide) (by omega) (by omega) (fun h14 => ?_) (fun h14 => by exact absurd h14 (by decide))
    exact ew_ret d_Tr_copyPath_42 rfl (⟨rfl, rfl, rfl⟩)
  | succ u ih =>
    intro f to n v h1 h2 h4 h3
    refine ew_iload d_Tr_copyPath_11 rfl ?_
    refine ew_iconst (v := nI 1) d_Tr_copyPath_13 (by decide) ?_
    refine en_icmp_le (tgt := 42) d_Tr_copyPath_14 (by decide) (by omega) (by omega) (fun h14 => ?_) (fun h14 => ?_)
    · exact ew_ret d_Tr_copyPath_42 rfl (⟨rfl, rfl, by rw [sp_pa_1 (by omega)]⟩)
    · obtain ⟨w, rfl⟩ : ∃ w, v = w + 2 := sp_two h14 h4
      refine ew_aload_n d_Tr_copyPath_17 rfl ?_
      refine ew_iload d_Tr_copyPath_18 rfl ?_
      refine ew_aload_n d_Tr_copyPath_20 rfl ?_
      refine ew_getr (ci := 8) (f := 1) d_Tr_copyPath_21 rfl rfl rfl tw_154 ?_
      refine ew_iload d_Tr_copyPath_24 rfl ?_
      refine ew_iconst (v := nI 1) d_Tr_copyPath_26 (by decide) ?_
      refine ew_ixor d_Tr_copyPath_27 ?_
      refine en_eq (st' := [.int (nI (n ^^^ 1)), .ref 42, .int (nI to), .ref 22]) rfl (by rw [show ((nI n) ^^^ (nI 1)) = (nI (n ^^^ 1)) from nx_x n 1]) rfl ?_
      refine ew_iald (j := n ^^^ 1) d_Tr_copyPath_28 rfl (rfl) (by have := nx_lt (u := 3) (n := n) (by omega); omega) (by decide) ?_
      refine en_eq (st' := [.int (M 42 (n ^^^ 1)), .int (nI to), .ref 22]) rfl (by rw [show ((ew_up M 22 f) 42 (n ^^^ 1)) = (M 42 (n ^^^ 1)) from by rw [ew_up_ne (by decide)]]) rfl ?_
      refine ew_iast (j := to) d_Tr_copyPath_29 rfl (by decide) (rfl) (by omega) (by decide) ?_
      refine en_eq (M' := ew_up M 22 (upd f to (M 42 (n ^^^ 1)))) rfl rfl (ew_w_up) ?_
      refine en_inc (ls' := [.ref 41, .retAddr 0, .ref 22, .retAddr 0, .int (nI (to + 1)), .int (nI n)]) d_Tr_copyPath_30 rfl rfl ?_
      refine ew_iload d_Tr_copyPath_33 rfl ?_
      refine ew_iconst (v := nI 2) d_Tr_copyPath_35 (by decide) ?_
      refine en_idiv d_Tr_copyPath_36 (by omega) (by decide) (by decide) ?_
      refine en_istore (ls' := [.ref 41, .retAddr 0, .ref 22, .retAddr 0, .int (nI (to + 1)), .int (nI (n / 2))]) d_Tr_copyPath_37 (Nat.le_of_ble_eq_true rfl) rfl ?_
      refine ew_goto (tgt := 11) d_Tr_copyPath_39 (by decide) ?_
      rw [sp_pa_2 (by omega)]
      exact ih (upd f to (M 42 (n ^^^ 1))) (to + 1) (n / 2) (w + 1) (by rw [Nat.pow_succ] at h1; omega) (by omega) (by rw [Nat.pow_succ] at h4; omega) (by omega)
set_option maxRecDepth 100000 in
theorem c_Tr_copyPath41 (l : Launch) (g : ew_G) (d L : Nat) (M : ew_M) (hz : M 41 0 = nI 8) (i p : Nat) (hi : i < 8) (hp : p + 4 ≤ 180) :
    Ew l g d 0 0 m_Tr_copyPath 0 [.ref 41, .int (nI i), .ref 22, .int (nI p), .retAddr 0, .retAddr 0] [] (ew_SH L) M (ew_q (none) (ew_SH L) (ew_up M 22 (sp_pa (M 42) 6 (M 22) p (8 + i)))) := by
  refine ew_iload_n d_Tr_copyPath_0 rfl ?_
  refine en_istore (ls' := [.ref 41, .int (nI i), .ref 22, .int (nI p), .int (nI p), .retAddr 0]) d_Tr_copyPath_1 (Nat.le_of_ble_eq_true rfl) rfl ?_
  refine ew_aload_n d_Tr_copyPath_3 rfl ?_
  refine ew_geti (ci := 8) (f := 0) d_Tr_copyPath_4 rfl rfl rfl tw_153 ?_
  refine en_eq (st' := [.int (nI 8)]) rfl (by rw [show (M 41 0) = (nI 8) from hz]) rfl ?_
  refine ew_iload_n d_Tr_copyPath_7 rfl ?_
  refine en_iadd d_Tr_copyPath_8 ?_
  refine en_istore (ls' := [.ref 41, .int (nI i), .ref 22, .int (nI p), .int (nI p), .int (nI (8 + i))]) d_Tr_copyPath_9 (Nat.le_of_ble_eq_true rfl) rfl ?_
  refine en_drop (ls' := [.ref 41, .retAddr 0, .ref 22, .retAddr 0, .int (nI p), .int (nI (8 + i))]) ⟨Or.inl rfl, Or.inr rfl, Or.inl rfl, Or.inr rfl, Or.inl rfl, Or.inl rfl, trivial⟩ ?_
  refine en_eq (M' := ew_up M 22 (M 22)) rfl rfl (ew_up_id).symm ?_
  exact lp_Tr_copyPath41 l g d L M 6 (M 22) p (8 + i) 4 (by omega) (by omega) (by omega) (by omega)
set_option maxRecDepth 100000 in
theorem lp_Tr_rootOf (l : Launch) (g : ew_G) (d L : Nat) (M : ew_M) : ∀ (u : Nat) (v : Int32) (n p z : Nat), n < 2 ^ u → n < 64 → n < 2 ^ z → p + z ≤ 180 → Ew l g (d + 2) 0 0 m_Tr_rootOf 12 [.retAddr 0, .retAddr 0, .retAddr 0, .ref 22, .retAddr 0, .int v, .int (nI p), .int (nI n)] [] (ew_SH L) M (ew_q (some (.int (sp_ro (M 22) u v n p))) (ew_SH L) M) := by
  intro u
  induction u with
  | zero =>
    intro v n p z h1 h2 h4 h3
    have hn : n = 0 := by omega
    subst hn
    refine ew_iload d_Tr_rootOf_12 rfl ?_
    refine ew_iconst (v := nI 1) d_Tr_rootOf_14 (by decide) ?_
    refine en_icmp_le (tgt := 60) d_Tr_rootOf_15 (by decide) (by omega) (by omega) (fun h15 => ?_) (fun h15 => by exact absurd h15 (by decide))
    refine ew_iload d_Tr_rootOf_60 rfl ?_
    exact ew_iret d_Tr_rootOf_62 rfl (⟨rfl, rfl, rfl⟩)
  | succ u ih =>
    intro v n p z h1 h2 h4 h3
    refine ew_iload d_Tr_rootOf_12 rfl ?_
    refine ew_iconst (v := nI 1) d_Tr_rootOf_14 (by decide) ?_
    refine en_icmp_le (tgt := 60) d_Tr_rootOf_15 (by decide) (by omega) (by omega) (fun h15 => ?_) (fun h15 => ?_)
    · refine ew_iload d_Tr_rootOf_60 rfl ?_
      exact ew_iret d_Tr_rootOf_62 rfl (⟨by rw [sp_ro_1 (by omega)], rfl, rfl⟩)
    · obtain ⟨w, rfl⟩ : ∃ w, z = w + 2 := sp_two h15 h4
      refine ew_iload d_Tr_rootOf_18 rfl ?_
      refine ew_iconst (v := nI 2) d_Tr_rootOf_20 (by decide) ?_
      refine en_irem d_Tr_rootOf_21 (by omega) (by decide) (by decide) ?_
      refine en_if_ne (tgt := 37) d_Tr_rootOf_22 (by decide) (by omega) (fun h22 => ?_) (fun h22 => ?_)
      · refine ew_aload_n d_Tr_rootOf_37 rfl ?_
        refine ew_iload d_Tr_rootOf_38 rfl ?_
        refine ew_iald (j := p) d_Tr_rootOf_40 rfl (rfl) (by omega) (by decide) ?_
        refine ew_iload d_Tr_rootOf_41 rfl ?_
        refine en_callSN (As := [.int (M 22 p), .int v]) (st := []) (st1 := [.int (sp_mix (M 22 p) v)]) d_Tr_rootOf_43 k_P_mix tw_388 tw_376 rfl (Nat.le_of_ble_eq_true rfl) rfl (Nat.le_of_ble_eq_true rfl) rfl rfl (c_P_mix l g _ (ew_SH L) M (M 22 p) v) rfl ?_
        refine en_istore (ls' := [.retAddr 0, .retAddr 0, .retAddr 0, .ref 22, .retAddr 0, .int (sp_mix (M 22 p) v), .int (nI p), .int (nI n)]) d_Tr_rootOf_46 (Nat.le_of_ble_eq_true rfl) rfl ?_
        refine en_inc (ls' := [.retAddr 0, .retAddr 0, .retAddr 0, .ref 22, .retAddr 0, .int (sp_mix (M 22 p) v), .int (nI (p + 1)), .int (nI n)]) d_Tr_rootOf_48 rfl rfl ?_
        refine ew_iload d_Tr_rootOf_51 rfl ?_
        refine ew_iconst (v := nI 2) d_Tr_rootOf_53 (by decide) ?_
        refine en_idiv d_Tr_rootOf_54 (by omega) (by decide) (by decide) ?_
        refine en_istore (ls' := [.retAddr 0, .retAddr 0, .retAddr 0, .ref 22, .retAddr 0, .int (sp_mix (M 22 p) v), .int (nI (p + 1)), .int (nI (n / 2))]) d_Tr_rootOf_55 (Nat.le_of_ble_eq_true rfl) rfl ?_
        refine ew_goto (tgt := 12) d_Tr_rootOf_57 (by decide) ?_
        rw [sp_ro_2 (by omega), if_neg h22]
        exact ih _ (n / 2) (p + 1) (w + 1) (by rw [Nat.pow_succ] at h1; omega) (by omega) (by rw [Nat.pow_succ] at h4; omega) (by omega)
      · refine ew_iload d_Tr_rootOf_25 rfl ?_
        refine ew_aload_n d_Tr_rootOf_27 rfl ?_
        refine ew_iload d_Tr_rootOf_28 rfl ?_
        refine ew_iald (j := p) d_Tr_rootOf_30 rfl (rfl) (by omega) (by decide) ?_
        refine en_callSN (As := [.int v, .int (M 22 p)]) (st := []) (st1 := [.int (sp_mix v (M 22 p))]) d_Tr_rootOf_31 k_P_mix tw_388 tw_376 rfl (Nat.le_of_ble_eq_true rfl) rfl (Nat.le_of_ble_eq_true rfl) rfl rfl (c_P_mix l g _ (ew_SH L) M v (M 22 p)) rfl ?_
        refine ew_goto (tgt := 46) d_Tr_rootOf_34 (by decide) ?_
        refine en_istore (ls' := [.retAddr 0, .retAddr 0, .retAddr 0, .ref 22, .retAddr 0, .int (sp_mix v (M 22 p)), .int (nI p), .int (nI n)]) d_Tr_rootOf_46 (Nat.le_of_ble_eq_true rfl) rfl ?_
        refine en_inc (ls' := [.retAddr 0, .retAddr 0, .retAddr 0, .ref 22, .retAddr 0, .int (sp_mix v (M 22 p)), .int (nI (p + 1)), .int (nI n)]) d_Tr_rootOf_48 rfl rfl ?_
        refine ew_iload d_Tr_rootOf_51 rfl ?_
        refine ew_iconst (v := nI 2) d_Tr_rootOf_53 (by decide) ?_
        refine en_idiv d_Tr_rootOf_54 (by omega) (by decide) (by decide) ?_
        refine en_istore (ls' := [.retAddr 0, .retAddr 0, .retAddr 0, .ref 22, .retAddr 0, .int (sp_mix v (M 22 p)), .int (nI (p + 1)), .int (nI (n / 2))]) d_Tr_rootOf_55 (Nat.le_of_ble_eq_true rfl) rfl ?_
        refine ew_goto (tgt := 12) d_Tr_rootOf_57 (by decide) ?_
        rw [sp_ro_2 (by omega), if_pos h22]
        exact ih _ (n / 2) (p + 1) (w + 1) (by rw [Nat.pow_succ] at h1; omega) (by omega) (by rw [Nat.pow_succ] at h4; omega) (by omega)
set_option maxRecDepth 100000 in
theorem c_Tr_rootOf (l : Launch) (g : ew_G) (d L : Nat) (M : ew_M) (c i p z : Nat) (v : Int32) (hc : c + i < 64) (hz : c + i < 2 ^ z) (hp : p + z ≤ 180) :
    Ew l g (d + 2) 0 0 m_Tr_rootOf 0 [.int (nI c), .int (nI i), .int v, .ref 22, .int (nI p), .retAddr 0, .retAddr 0, .retAddr 0] [] (ew_SH L) M (ew_q (some (.int (sp_ro (M 22) 6 v (c + i) p))) (ew_SH L) M) := by
  refine ew_iload_n d_Tr_rootOf_0 rfl ?_
  refine en_istore (ls' := [.int (nI c), .int (nI i), .int v, .ref 22, .int (nI p), .int v, .retAddr 0, .retAddr 0]) d_Tr_rootOf_1 (Nat.le_of_ble_eq_true rfl) rfl ?_
  refine ew_iload d_Tr_rootOf_3 rfl ?_
  refine en_istore (ls' := [.int (nI c), .int (nI i), .int v, .ref 22, .int (nI p), .int v, .int (nI p), .retAddr 0]) d_Tr_rootOf_5 (Nat.le_of_ble_eq_true rfl) rfl ?_
  refine ew_iload_n d_Tr_rootOf_7 rfl ?_
  refine ew_iload_n d_Tr_rootOf_8 rfl ?_
  refine en_iadd d_Tr_rootOf_9 ?_
  refine en_istore (ls' := [.int (nI c), .int (nI i), .int v, .ref 22, .int (nI p), .int v, .int (nI p), .int (nI (c + i))]) d_Tr_rootOf_10 (Nat.le_of_ble_eq_true rfl) rfl ?_
  refine en_drop (ls' := [.retAddr 0, .retAddr 0, .retAddr 0, .ref 22, .retAddr 0, .int v, .int (nI p), .int (nI (c + i))]) ⟨Or.inr rfl, Or.inr rfl, Or.inr rfl, Or.inl rfl, Or.inr rfl, Or.inl rfl, Or.inl rfl, Or.inl rfl, trivial⟩ ?_
  exact lp_Tr_rootOf l g d L M 6 v (c + i) p z (by omega) (by omega) hz hp
