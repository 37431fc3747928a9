def ew_SH (L : Nat) : List ew_S := [.inl L, .inl 4, .inl 3, .inr (.inr (0, [some (some 4), some (some 10), some (some 17), some (some 21), some (some 23), some (some 43), none, none])), .inr (.inr (1, [some (some 5), some (some 6), some (some 7), some (some 8), some (some 9)])), .inl 32, .inl 32, .inl 32, .inl 32, .inl 32, .inr (.inr (2, [some (some 4), some (some 11), some (some 12), some (some 15), none, some (some 16)])), .inl 2, .inr (.inl (0, [some 13, some 14])), .inl 18, .inl 18, .inl 12, .inl 5, .inr (.inr (3, [some (some 4), some (some 18)])), .inr (.inl (0, [some 19, some 20])), .inl 8, .inl 8, .inr (.inr (4, [some (some 22)])), .inl 179, .inr (.inr (5, [some (some 4), some (some 10), some (some 17), some (some 24), some (some 27), some (some 30), some (some 34), some (some 36)])), .inr (.inr (7, [none, none, some (some 25), some (some 26)])), .inl 3, .inl 3, .inr (.inl (0, [some 28, some 29])), .inl 32, .inl 32, .inr (.inl (0, [some 31, some 32, some 33])), .inl 32, .inl 32, .inl 32, .inr (.inr (8, [none, some (some 35)])), .inl 64, .inr (.inl (1, [some 37, some 39, some 41])), .inr (.inr (8, [none, some (some 38)])), .inl 64, .inr (.inr (8, [none, some (some 40)])), .inl 32, .inr (.inr (8, [none, some (some 42)])), .inl 16, .inr (.inr (6, [some (some 4), some (some 10), some (some 21), some (some 22), some (some 44)])), .inr (.inr (7, [none, none, some (some 45), some (some 46)])), .inl 3, .inl 3, .inr (.inr (9, [some (some 48), some (some 49), some (some 50), some (some 51), some (some 52), none, some (some 53), some (some 54), some (some 55), none, some (some 56), none, none, none, none, some (some 57), some (some 58), some (some 59), none, some (some 60), some (some 61), some (some 62), some (some 63), some (some 64)])), .inl 16, .inl 2, .inl 12, .inl 12, .inl 12, .inl 4, .inl 4, .inl 4, .inl 179, .inl 3, .inl 3, .inl 3, .inl 32, .inl 64, .inl 60, .inl 176, .inl 5]
theorem ep_mul {x y : Nat} (hx : x < 12289) (hy : y < 12289) : x * y < 2 ^ 31 := by
  have h : x * y ≤ 12288 * 12288 := Nat.mul_le_mul (by omega) (by omega)
  omega
theorem ep_lt (x : Nat) : x % 12289 < 12289 := Nat.mod_lt _ (by decide)
theorem ep_sub {x y : Nat} (hy : y < 12289) : nI x - nI y + nI 12289 = nI (x + 12289 - y) := by
  have h : nI x + nI 12289 - nI y = nI (x + 12289 - y) := by rw [nI_add, pk_sub (by omega)]
  rw [← h, Int32.sub_eq_add_neg, Int32.sub_eq_add_neg, Int32.add_assoc, Int32.add_assoc, Int32.add_comm (-nI y)]
/-- a truth value: 0 .. n - 1 -/
def sp_in (x : Int32) (n : Nat) : Bool := decide (¬ x < 0 ∧ ¬ nI n ≤ x)
theorem sp_in_t {x : Int32} {n : Nat} (h : ¬ x < 0) (h2 : ¬ nI n ≤ x) : sp_in x n = true := decide_eq_true ⟨h, h2⟩
theorem sp_in_1 {x : Int32} {n : Nat} (h : x < 0) : sp_in x n = false := decide_eq_false (fun q => q.1 h)
theorem sp_in_2 {x : Int32} {n : Nat} (h : nI n ≤ x) : sp_in x n = false := decide_eq_false (fun q => q.2 h)
theorem sp_in_of {x : Int32} {n : Nat} (hn : n < 2 ^ 31) (h : sp_in x n = true) : ∃ j : Nat, j < n ∧ x = nI j := by
  obtain ⟨h1, h2⟩ := of_decide_eq_true h
  rcases pk_ix x hn with q | q | q
  · exact absurd q h1
  · exact absurd q h2
  · exact q
theorem sp_in_nI {j n : Nat} (hn : n < 2 ^ 31) (h : j < n) : sp_in (nI j) n = true := sp_in_t (nI_pos (by omega)) (nI_ge h hn)
/-- MIX -/
def sp_stir (m n : Int32) : Int32 := ((m ^^^ n) * (nI 16777619)) ^^^ (((m ^^^ n) * (nI 16777619)).toUInt32 >>> ((nI 15).toUInt32 &&& Int32.toUInt32 31)).toInt32
def sp_mix (x y : Int32) : Int32 := sp_stir (sp_stir (nI 40503) x) y
theorem pw_even {r q e : Nat} (h : ¬ e % 2 = 1) : r * q ^ e % 12289 = r * (q * q % 12289) ^ (e / 2) % 12289 := by
  obtain ⟨f, hf⟩ : ∃ f, e = 2 * f := ⟨e / 2, by omega⟩
  subst hf
  rw [Nat.mul_div_cancel_left f (by decide), Nat.pow_mul]
  have h1 : (q ^ 2) ^ f % 12289 = (q * q % 12289) ^ f % 12289 := by rw [Nat.pow_mod, Nat.pow_two]
  rw [Nat.mul_mod, h1, ← Nat.mul_mod]
theorem pw_odd {r q e : Nat} (h : e % 2 = 1) : r * q ^ e % 12289 = (r * q % 12289) * (q * q % 12289) ^ (e / 2) % 12289 := by
  obtain ⟨f, hf⟩ : ∃ f, e = 2 * f + 1 := ⟨e / 2, by omega⟩
  have hd : e / 2 = f := by omega
  have e1 : r * q ^ e = r * q * q ^ (2 * f) := by rw [hf, Nat.pow_succ, Nat.mul_comm (q ^ (2 * f)) q, Nat.mul_assoc]
  have e2 : ¬ (2 * f) % 2 = 1 := by omega
  rw [hd, e1, pw_even e2, show 2 * f / 2 = f by omega]
  conv => rhs; rw [Nat.mul_mod, Nat.mod_mod]
  rw [Nat.mul_mod]
set_option maxRecDepth 100000 in
theorem c_Fi_times (l : Launch) (g : ew_G) (d : Nat) (sh : List ew_S) (M : ew_M) (x y : Nat) (hx : x < 12289) (hy : y < 12289) :
    Ew l g d 0 0 m_Fi_times 0 [.int (nI x), .int (nI y)] [] sh M (ew_q (some (.int (nI (x * y % 12289)))) sh M) := by
  refine ew_iload_n d_Fi_times_0 rfl ?_
  refine ew_iload_n d_Fi_times_1 rfl ?_
  refine en_imul d_Fi_times_2 ?_
  refine ew_sipush (v := nI 12289) d_Fi_times_3 (by decide) ?_
  refine en_irem d_Fi_times_6 (ep_mul hx hy) (by decide) (by decide) ?_
  exact ew_iret d_Fi_times_7 rfl (⟨rfl, rfl, rfl⟩)
set_option maxRecDepth 100000 in
theorem c_Mo_times (l : Launch) (g : ew_G) (d : Nat) (sh : List ew_S) (M : ew_M) (x y : Nat) (hx : x < 12289) (hy : y < 12289) :
    Ew l g d 0 0 m_Mo_times 0 [.int (nI x), .int (nI y)] [] sh M (ew_q (some (.int (nI (x * y % 12289)))) sh M) := by
  refine ew_iload_n d_Mo_times_0 rfl ?_
  refine ew_iload_n d_Mo_times_1 rfl ?_
  refine en_imul d_Mo_times_2 ?_
  refine ew_sipush (v := nI 12289) d_Mo_times_3 (by decide) ?_
  refine en_irem d_Mo_times_6 (ep_mul hx hy) (by decide) (by decide) ?_
  exact ew_iret d_Mo_times_7 rfl (⟨rfl, rfl, rfl⟩)
set_option maxRecDepth 100000 in
theorem c_Fi_plus (l : Launch) (g : ew_G) (d : Nat) (sh : List ew_S) (M : ew_M) (x y : Nat) (hx : x < 12289) (hy : y < 12289) :
    Ew l g d 0 0 m_Fi_plus 0 [.int (nI x), .int (nI y)] [] sh M (ew_q (some (.int (nI ((x + y) % 12289)))) sh M) := by
  refine ew_iload_n d_Fi_plus_0 rfl ?_
  refine ew_iload_n d_Fi_plus_1 rfl ?_
  refine en_iadd d_Fi_plus_2 ?_
  refine ew_sipush (v := nI 12289) d_Fi_plus_3 (by decide) ?_
  refine en_irem d_Fi_plus_6 (by omega) (by decide) (by decide) ?_
  exact ew_iret d_Fi_plus_7 rfl (⟨rfl, rfl, rfl⟩)
set_option maxRecDepth 100000 in
theorem c_Fi_minus (l : Launch) (g : ew_G) (d : Nat) (sh : List ew_S) (M : ew_M) (x y : Nat) (hx : x < 12289) (hy : y < 12289) :
    Ew l g d 0 0 m_Fi_minus 0 [.int (nI x), .int (nI y)] [] sh M (ew_q (some (.int (nI ((x + 12289 - y) % 12289)))) sh M) := by
  refine ew_iload_n d_Fi_minus_0 rfl ?_
  refine ew_iload_n d_Fi_minus_1 rfl ?_
  refine ew_isub d_Fi_minus_2 ?_
  refine ew_sipush (v := nI 12289) d_Fi_minus_3 (by decide) ?_
  refine ew_iadd d_Fi_minus_6 ?_
  refine en_eq (st' := [.int (nI (x + 12289 - y))]) rfl (by rw [show (((nI x) - (nI y)) + (nI 12289)) = (nI (x + 12289 - y)) from ep_sub hy]) rfl ?_
  refine ew_sipush (v := nI 12289) d_Fi_minus_7 (by decide) ?_
  refine en_irem d_Fi_minus_10 (by omega) (by decide) (by decide) ?_
  exact ew_iret d_Fi_minus_11 rfl (⟨rfl, rfl, rfl⟩)
set_option maxRecDepth 100000 in
theorem c_Fi_holds (l : Launch) (g : ew_G) (d : Nat) (sh : List ew_S) (M : ew_M) (x : Int32) :
    Ew l g d 0 0 m_Fi_holds 0 [.int x] [] sh M (ew_q (some (.int (ew_b (sp_in x 12289)))) sh M) := by
  refine ew_iload_n d_Fi_holds_0 rfl ?_
  refine ew_if_lt (tgt := 15) d_Fi_holds_1 (by decide) (fun h1 => ?_) (fun h1 => ?_)
  · refine ew_iconst (v := nI 0) d_Fi_holds_15 (by decide) ?_
    exact ew_zret d_Fi_holds_16 rfl (by decide) (⟨by first | rw [sp_in_1 h1]; rfl | rw [sp_in_2 h8]; rfl, rfl, rfl⟩)
  · refine ew_iload_n d_Fi_holds_4 rfl ?_
    refine ew_sipush (v := nI 12289) d_Fi_holds_5 (by decide) ?_
    refine ew_icmp_ge (tgt := 15) d_Fi_holds_8 (by decide) (fun h8 => ?_) (fun h8 => ?_)
    · refine ew_iconst (v := nI 0) d_Fi_holds_15 (by decide) ?_
      exact ew_zret d_Fi_holds_16 rfl (by decide) (⟨by first | rw [sp_in_1 h1]; rfl | rw [sp_in_2 h8]; rfl, rfl, rfl⟩)
    · refine ew_iconst (v := nI 1) d_Fi_holds_11 (by decide) ?_
      refine ew_goto (tgt := 16) d_Fi_holds_12 (by decide) ?_
      exact ew_zret d_Fi_holds_16 rfl (by decide) (⟨by rw [sp_in_t h1 h8]; rfl, rfl, rfl⟩)
set_option maxRecDepth 100000 in
theorem c_Mo_isNumber (l : Launch) (g : ew_G) (d : Nat) (sh : List ew_S) (M : ew_M) (x : Int32) :
    Ew l g d 0 0 m_Mo_isNumber 0 [.int x] [] sh M (ew_q (some (.int (ew_b (sp_in x 12289)))) sh M) := by
  refine ew_iload_n d_Mo_isNumber_0 rfl ?_
  refine ew_if_lt (tgt := 15) d_Mo_isNumber_1 (by decide) (fun h1 => ?_) (fun h1 => ?_)
  · refine ew_iconst (v := nI 0) d_Mo_isNumber_15 (by decide) ?_
    exact ew_zret d_Mo_isNumber_16 rfl (by decide) (⟨by first | rw [sp_in_1 h1]; rfl | rw [sp_in_2 h8]; rfl, rfl, rfl⟩)
  · refine ew_iload_n d_Mo_isNumber_4 rfl ?_
    refine ew_sipush (v := nI 12289) d_Mo_isNumber_5 (by decide) ?_
    refine ew_icmp_ge (tgt := 15) d_Mo_isNumber_8 (by decide) (fun h8 => ?_) (fun h8 => ?_)
    · refine ew_iconst (v := nI 0) d_Mo_isNumber_15 (by decide) ?_
      exact ew_zret d_Mo_isNumber_16 rfl (by decide) (⟨by first | rw [sp_in_1 h1]; rfl | rw [sp_in_2 h8]; rfl, rfl, rfl⟩)
    · refine ew_iconst (v := nI 1) d_Mo_isNumber_11 (by decide) ?_
      refine ew_goto (tgt := 16) d_Mo_isNumber_12 (by decide) ?_
      exact ew_zret d_Mo_isNumber_16 rfl (by decide) (⟨by rw [sp_in_t h1 h8]; rfl, rfl, rfl⟩)
set_option maxRecDepth 100000 in
theorem c_Mo_isRow (l : Launch) (g : ew_G) (d : Nat) (sh : List ew_S) (M : ew_M) (x : Int32) :
    Ew l g d 0 0 m_Mo_isRow 0 [.int x] [] sh M (ew_q (some (.int (ew_b (sp_in x 8)))) sh M) := by
  refine ew_iload_n d_Mo_isRow_0 rfl ?_
  refine ew_if_lt (tgt := 14) d_Mo_isRow_1 (by decide) (fun h1 => ?_) (fun h1 => ?_)
  · refine ew_iconst (v := nI 0) d_Mo_isRow_14 (by decide) ?_
    exact ew_zret d_Mo_isRow_15 rfl (by decide) (⟨by first | rw [sp_in_1 h1]; rfl | rw [sp_in_2 h7]; rfl, rfl, rfl⟩)
  · refine ew_iload_n d_Mo_isRow_4 rfl ?_
    refine ew_bipush (v := nI 8) d_Mo_isRow_5 (by decide) ?_
    refine ew_icmp_ge (tgt := 14) d_Mo_isRow_7 (by decide) (fun h7 => ?_) (fun h7 => ?_)
    · refine ew_iconst (v := nI 0) d_Mo_isRow_14 (by decide) ?_
      exact ew_zret d_Mo_isRow_15 rfl (by decide) (⟨by first | rw [sp_in_1 h1]; rfl | rw [sp_in_2 h7]; rfl, rfl, rfl⟩)
    · refine ew_iconst (v := nI 1) d_Mo_isRow_10 (by decide) ?_
      refine ew_goto (tgt := 15) d_Mo_isRow_11 (by decide) ?_
      exact ew_zret d_Mo_isRow_15 rfl (by decide) (⟨by rw [sp_in_t h1 h7]; rfl, rfl, rfl⟩)
set_option maxRecDepth 100000 in
theorem lp_Fi_power (l : Launch) (g : ew_G) (d : Nat) (sh : List ew_S) (M : ew_M) : ∀ (n x y r q e : Nat), e < n → r < 12289 → q < 12289 → e < 2 ^ 31 → Ew l g (d + 1) 0 0 m_Fi_power 7 [.int (nI x), .int (nI y), .int (nI r), .int (nI q), .int (nI e)] [] sh M (ew_q (some (.int (nI (r * q ^ e % 12289)))) sh M) := by
  intro n
  induction n with
  | zero =>
    intro x y r q e h
    exact absurd h (Nat.not_lt_zero _)
  | succ n ih =>
    intro x y r q e he hr hq hb
    refine ew_iload d_Fi_power_7 rfl ?_
    refine en_if_le (tgt := 41) d_Fi_power_9 (by decide) (by omega) (fun h9 => ?_) (fun h9 => ?_)
    · refine ew_iload_n d_Fi_power_41 rfl ?_
      exact ew_iret d_Fi_power_42 rfl (⟨by rw [h9, Nat.pow_zero, Nat.mul_one, Nat.mod_eq_of_lt hr], rfl, rfl⟩)
    · refine ew_iload d_Fi_power_12 rfl ?_
      refine ew_iconst (v := nI 2) d_Fi_power_14 (by decide) ?_
      refine en_irem d_Fi_power_15 (by omega) (by decide) (by decide) ?_
      refine ew_iconst (v := nI 1) d_Fi_power_16 (by decide) ?_
      refine en_icmp_ne (tgt := 26) d_Fi_power_17 (by decide) (by omega) (by omega) (fun h17 => ?_) (fun h17 => ?_)
      · refine ew_iload_n d_Fi_power_26 rfl ?_
        refine ew_iload_n d_Fi_power_27 rfl ?_
        refine en_callS (As := [.int (nI q), .int (nI q)]) (st := []) (st1 := [.int (nI (q * q % 12289))]) d_Fi_power_28 k_Fi_times tw_29 tw_30 rfl (Nat.le_of_ble_eq_true rfl) rfl (Nat.le_of_ble_eq_true rfl) rfl rfl (c_Fi_times l g _ sh M q q (by assumption) (by assumption)) rfl ?_
        refine en_istore_n (ls' := [.int (nI x), .int (nI y), .int (nI r), .int (nI (q * q % 12289)), .int (nI e)]) d_Fi_power_31 (Nat.le_of_ble_eq_true rfl) rfl ?_
        refine ew_iload d_Fi_power_32 rfl ?_
        refine ew_iconst (v := nI 2) d_Fi_power_34 (by decide) ?_
        refine en_idiv d_Fi_power_35 (by omega) (by decide) (by decide) ?_
        refine en_istore (ls' := [.int (nI x), .int (nI y), .int (nI r), .int (nI (q * q % 12289)), .int (nI (e / 2))]) d_Fi_power_36 (Nat.le_of_ble_eq_true rfl) rfl ?_
        refine ew_goto (tgt := 7) d_Fi_power_38 (by decide) ?_
        rw [pw_even h17]
        exact ih x y r (q * q % 12289) (e / 2) (by omega) hr (ep_lt _) (by omega)
      · refine ew_iload_n d_Fi_power_20 rfl ?_
        refine ew_iload_n d_Fi_power_21 rfl ?_
        refine en_callS (As := [.int (nI r), .int (nI q)]) (st := []) (st1 := [.int (nI (r * q % 12289))]) d_Fi_power_22 k_Fi_times tw_29 tw_30 rfl (Nat.le_of_ble_eq_true rfl) rfl (Nat.le_of_ble_eq_true rfl) rfl rfl (c_Fi_times l g _ sh M r q (by assumption) (by assumption)) rfl ?_
        refine en_istore_n (ls' := [.int (nI x), .int (nI y), .int (nI (r * q % 12289)), .int (nI q), .int (nI e)]) d_Fi_power_25 (Nat.le_of_ble_eq_true rfl) rfl ?_
        refine ew_iload_n d_Fi_power_26 rfl ?_
        refine ew_iload_n d_Fi_power_27 rfl ?_
        refine en_callS (As := [.int (nI q), .int (nI q)]) (st := []) (st1 := [.int (nI (q * q % 12289))]) d_Fi_power_28 k_Fi_times tw_29 tw_30 rfl (Nat.le_of_ble_eq_true rfl) rfl (Nat.le_of_ble_eq_true rfl) rfl rfl (c_Fi_times l g _ sh M q q (by assumption) (by assumption)) rfl ?_
        refine en_istore_n (ls' := [.int (nI x), .int (nI y), .int (nI (r * q % 12289)), .int (nI (q * q % 12289)), .int (nI e)]) d_Fi_power_31 (Nat.le_of_ble_eq_true rfl) rfl ?_
        refine ew_iload d_Fi_power_32 rfl ?_
        refine ew_iconst (v := nI 2) d_Fi_power_34 (by decide) ?_
        refine en_idiv d_Fi_power_35 (by omega) (by decide) (by decide) ?_
        refine en_istore (ls' := [.int (nI x), .int (nI y), .int (nI (r * q % 12289)), .int (nI (q * q % 12289)), .int (nI (e / 2))]) d_Fi_power_36 (Nat.le_of_ble_eq_true rfl) rfl ?_
        refine ew_goto (tgt := 7) d_Fi_power_38 (by decide) ?_
        rw [pw_odd h17]
        exact ih x y (r * q % 12289) (q * q % 12289) (e / 2) (by omega) (ep_lt _) (ep_lt _) (by omega)
set_option maxRecDepth 100000 in
theorem lp_Mo_inverse (l : Launch) (g : ew_G) (d : Nat) (sh : List ew_S) (M : ew_M) : ∀ (n x r q e : Nat), e < n → r < 12289 → q < 12289 → e < 2 ^ 31 → Ew l g (d + 1) 0 0 m_Mo_inverse 8 [.int (nI x), .int (nI r), .int (nI q), .int (nI e)] [] sh M (ew_q (some (.int (nI (r * q ^ e % 12289)))) sh M) := by
  intro n
  induction n with
  | zero =>
    intro x r q e h
    exact absurd h (Nat.not_lt_zero _)
  | succ n ih =>
    intro x r q e he hr hq hb
    refine ew_iload_n d_Mo_inverse_8 rfl ?_
    refine en_if_le (tgt := 38) d_Mo_inverse_9 (by decide) (by omega) (fun h9 => ?_) (fun h9 => ?_)
    · refine ew_iload_n d_Mo_inverse_38 rfl ?_
      exact ew_iret d_Mo_inverse_39 rfl (⟨by rw [h9, Nat.pow_zero, Nat.mul_one, Nat.mod_eq_of_lt hr], rfl, rfl⟩)
    · refine ew_iload_n d_Mo_inverse_12 rfl ?_
      refine ew_iconst (v := nI 2) d_Mo_inverse_13 (by decide) ?_
      refine en_irem d_Mo_inverse_14 (by omega) (by decide) (by decide) ?_
      refine ew_iconst (v := nI 1) d_Mo_inverse_15 (by decide) ?_
      refine en_icmp_ne (tgt := 25) d_Mo_inverse_16 (by decide) (by omega) (by omega) (fun h16 => ?_) (fun h16 => ?_)
      · refine ew_iload_n d_Mo_inverse_25 rfl ?_
        refine ew_iload_n d_Mo_inverse_26 rfl ?_
        refine en_callS (As := [.int (nI q), .int (nI q)]) (st := []) (st1 := [.int (nI (q * q % 12289))]) d_Mo_inverse_27 k_Mo_times tw_589 tw_590 rfl (Nat.le_of_ble_eq_true rfl) rfl (Nat.le_of_ble_eq_true rfl) rfl rfl (c_Mo_times l g _ sh M q q (by assumption) (by assumption)) rfl ?_
        refine en_istore_n (ls' := [.int (nI x), .int (nI r), .int (nI (q * q % 12289)), .int (nI e)]) d_Mo_inverse_30 (Nat.le_of_ble_eq_true rfl) rfl ?_
        refine ew_iload_n d_Mo_inverse_31 rfl ?_
        refine ew_iconst (v := nI 2) d_Mo_inverse_32 (by decide) ?_
        refine en_idiv d_Mo_inverse_33 (by omega) (by decide) (by decide) ?_
        refine en_istore_n (ls' := [.int (nI x), .int (nI r), .int (nI (q * q % 12289)), .int (nI (e / 2))]) d_Mo_inverse_34 (Nat.le_of_ble_eq_true rfl) rfl ?_
        refine ew_goto (tgt := 8) d_Mo_inverse_35 (by decide) ?_
        rw [pw_even h16]
        exact ih x r (q * q % 12289) (e / 2) (by omega) hr (ep_lt _) (by omega)
      · refine ew_iload_n d_Mo_inverse_19 rfl ?_
        refine ew_iload_n d_Mo_inverse_20 rfl ?_
        refine en_callS (As := [.int (nI r), .int (nI q)]) (st := []) (st1 := [.int (nI (r * q % 12289))]) d_Mo_inverse_21 k_Mo_times tw_589 tw_590 rfl (Nat.le_of_ble_eq_true rfl) rfl (Nat.le_of_ble_eq_true rfl) rfl rfl (c_Mo_times l g _ sh M r q (by assumption) (by assumption)) rfl ?_
        refine en_istore_n (ls' := [.int (nI x), .int (nI (r * q % 12289)), .int (nI q), .int (nI e)]) d_Mo_inverse_24 (Nat.le_of_ble_eq_true rfl) rfl ?_
        refine ew_iload_n d_Mo_inverse_25 rfl ?_
        refine ew_iload_n d_Mo_inverse_26 rfl ?_
        refine en_callS (As := [.int (nI q), .int (nI q)]) (st := []) (st1 := [.int (nI (q * q % 12289))]) d_Mo_inverse_27 k_Mo_times tw_589 tw_590 rfl (Nat.le_of_ble_eq_true rfl) rfl (Nat.le_of_ble_eq_true rfl) rfl rfl (c_Mo_times l g _ sh M q q (by assumption) (by assumption)) rfl ?_
        refine en_istore_n (ls' := [.int (nI x), .int (nI (r * q % 12289)), .int (nI (q * q % 12289)), .int (nI e)]) d_Mo_inverse_30 (Nat.le_of_ble_eq_true rfl) rfl ?_
        refine ew_iload_n d_Mo_inverse_31 rfl ?_
        refine ew_iconst (v := nI 2) d_Mo_inverse_32 (by decide) ?_
        refine en_idiv d_Mo_inverse_33 (by omega) (by decide) (by decide) ?_
        refine en_istore_n (ls' := [.int (nI x), .int (nI (r * q % 12289)), .int (nI (q * q % 12289)), .int (nI (e / 2))]) d_Mo_inverse_34 (Nat.le_of_ble_eq_true rfl) rfl ?_
        refine ew_goto (tgt := 8) d_Mo_inverse_35 (by decide) ?_
        rw [pw_odd h16]
        exact ih x (r * q % 12289) (q * q % 12289) (e / 2) (by omega) (ep_lt _) (ep_lt _) (by omega)
set_option maxRecDepth 100000 in
theorem c_Fi_power (l : Launch) (g : ew_G) (d : Nat) (sh : List ew_S) (M : ew_M) (x e : Nat) (hx : x < 12289) (he : e < 2 ^ 31) :
    Ew l g (d + 1) 0 0 m_Fi_power 0 [.int (nI x), .int (nI e), .retAddr 0, .retAddr 0, .retAddr 0] [] sh M (ew_q (some (.int (nI (x ^ e % 12289)))) sh M) := by
  refine ew_iconst (v := nI 1) d_Fi_power_0 (by decide) ?_
  refine en_istore_n (ls' := [.int (nI x), .int (nI e), .int (nI 1), .retAddr 0, .retAddr 0]) d_Fi_power_1 (Nat.le_of_ble_eq_true rfl) rfl ?_
  refine ew_iload_n d_Fi_power_2 rfl ?_
  refine en_istore_n (ls' := [.int (nI x), .int (nI e), .int (nI 1), .int (nI x), .retAddr 0]) d_Fi_power_3 (Nat.le_of_ble_eq_true rfl) rfl ?_
  refine ew_iload_n d_Fi_power_4 rfl ?_
  refine en_istore (ls' := [.int (nI x), .int (nI e), .int (nI 1), .int (nI x), .int (nI e)]) d_Fi_power_5 (Nat.le_of_ble_eq_true rfl) rfl ?_
  rw [show x ^ e % 12289 = 1 * x ^ e % 12289 by rw [Nat.one_mul]]
  exact lp_Fi_power l g d sh M (e + 1) x e 1 x e (by omega) (by decide) hx he
set_option maxRecDepth 100000 in
theorem c_Fi_inverse (l : Launch) (g : ew_G) (d : Nat) (sh : List ew_S) (M : ew_M) (x : Nat) (hx : x < 12289) :
    Ew l g (d + 2) 0 0 m_Fi_inverse 0 [.int (nI x)] [] sh M (ew_q (some (.int (nI (x ^ 12287 % 12289)))) sh M) := by
  refine ew_iload_n d_Fi_inverse_0 rfl ?_
  refine ew_sipush (v := nI 12287) d_Fi_inverse_1 (by decide) ?_
  refine en_callS (As := [.int (nI x), .int (nI 12287)]) (st := []) (st1 := [.int (nI (x ^ 12287 % 12289))]) d_Fi_inverse_4 k_Fi_power tw_36 tw_27 rfl (Nat.le_of_ble_eq_true rfl) rfl (Nat.le_of_ble_eq_true rfl) rfl rfl (c_Fi_power l g _ sh M x 12287 (hx) (by decide)) rfl ?_
  exact ew_iret d_Fi_inverse_7 rfl (⟨rfl, rfl, rfl⟩)
set_option maxRecDepth 100000 in
theorem c_Mo_inverse (l : Launch) (g : ew_G) (d : Nat) (sh : List ew_S) (M : ew_M) (x : Nat) (hx : x < 12289) :
    Ew l g (d + 1) 0 0 m_Mo_inverse 0 [.int (nI x), .retAddr 0, .retAddr 0, .retAddr 0] [] sh M (ew_q (some (.int (nI (x ^ 12287 % 12289)))) sh M) := by
  refine ew_iconst (v := nI 1) d_Mo_inverse_0 (by decide) ?_
  refine en_istore_n (ls' := [.int (nI x), .int (nI 1), .retAddr 0, .retAddr 0]) d_Mo_inverse_1 (Nat.le_of_ble_eq_true rfl) rfl ?_
  refine ew_iload_n d_Mo_inverse_2 rfl ?_
  refine en_istore_n (ls' := [.int (nI x), .int (nI 1), .int (nI x), .retAddr 0]) d_Mo_inverse_3 (Nat.le_of_ble_eq_true rfl) rfl ?_
  refine ew_sipush (v := nI 12287) d_Mo_inverse_4 (by decide) ?_
  refine en_istore_n (ls' := [.int (nI x), .int (nI 1), .int (nI x), .int (nI 12287)]) d_Mo_inverse_7 (Nat.le_of_ble_eq_true rfl) rfl ?_
  rw [show x ^ 12287 % 12289 = 1 * x ^ 12287 % 12289 by rw [Nat.one_mul]]
  exact lp_Mo_inverse l g d sh M 12288 x 1 x 12287 (by decide) (by decide) hx (by decide)
set_option maxRecDepth 100000 in
theorem lp_Mo_power (l : Launch) (g : ew_G) (d : Nat) (sh : List ew_S) (M : ew_M) : ∀ (n x e i r : Nat), e < i + n → i ≤ e → x < 12289 → e < 2 ^ 31 → r = x ^ i % 12289 → Ew l g (d + 1) 0 0 m_Mo_power 4 [.int (nI x), .int (nI e), .int (nI r), .int (nI i)] [] sh M (ew_q (some (.int (nI (x ^ e % 12289)))) sh M) := by
  intro n
  induction n with
  | zero =>
    intro x e i r h h2
    exact absurd h (by omega)
  | succ n ih =>
    intro x e i r he hi hx hb hr
    refine ew_iload_n d_Mo_power_4 rfl ?_
    refine ew_iload_n d_Mo_power_5 rfl ?_
    refine en_icmp_ge (tgt := 21) d_Mo_power_6 (by decide) (by omega) (by omega) (fun h6 => ?_) (fun h6 => ?_)
    · refine ew_iload_n d_Mo_power_21 rfl ?_
      exact ew_iret d_Mo_power_22 rfl (⟨by rw [hr, show i = e by omega], rfl, rfl⟩)
    · refine ew_iload_n d_Mo_power_9 rfl ?_
      refine ew_iload_n d_Mo_power_10 rfl ?_
      refine en_callS (As := [.int (nI r), .int (nI x)]) (st := []) (st1 := [.int (nI (r * x % 12289))]) d_Mo_power_11 k_Mo_times tw_589 tw_590 rfl (Nat.le_of_ble_eq_true rfl) rfl (Nat.le_of_ble_eq_true rfl) rfl rfl (c_Mo_times l g _ sh M r x (by first | assumption | (rw [hr]; exact ep_lt _)) (by first | assumption | (rw [hr]; exact ep_lt _))) rfl ?_
      refine en_istore_n (ls' := [.int (nI x), .int (nI e), .int (nI (r * x % 12289)), .int (nI i)]) d_Mo_power_14 (Nat.le_of_ble_eq_true rfl) rfl ?_
      refine en_inc (ls' := [.int (nI x), .int (nI e), .int (nI (r * x % 12289)), .int (nI (i + 1))]) d_Mo_power_15 rfl rfl ?_
      refine ew_goto (tgt := 4) d_Mo_power_18 (by decide) ?_
      rw [show r * x % 12289 = x ^ (i + 1) % 12289 by rw [hr, Nat.pow_succ, Nat.mod_mul_mod]]
      exact ih x e (i + 1) _ (by omega) (by omega) hx hb rfl
set_option maxRecDepth 100000 in
theorem c_Mo_power (l : Launch) (g : ew_G) (d : Nat) (sh : List ew_S) (M : ew_M) (x e : Nat) (hx : x < 12289) (he : e < 2 ^ 31) :
    Ew l g (d + 1) 0 0 m_Mo_power 0 [.int (nI x), .int (nI e), .retAddr 0, .retAddr 0] [] sh M (ew_q (some (.int (nI (x ^ e % 12289)))) sh M) := by
  refine ew_iconst (v := nI 1) d_Mo_power_0 (by decide) ?_
  refine en_istore_n (ls' := [.int (nI x), .int (nI e), .int (nI 1), .retAddr 0]) d_Mo_power_1 (Nat.le_of_ble_eq_true rfl) rfl ?_
  refine ew_iconst (v := nI 0) d_Mo_power_2 (by decide) ?_
  refine en_istore_n (ls' := [.int (nI x), .int (nI e), .int (nI 1), .int (nI 0)]) d_Mo_power_3 (Nat.le_of_ble_eq_true rfl) rfl ?_
  exact lp_Mo_power l g d sh M (e + 1) x e 0 1 (by omega) (by omega) hx he (by rw [Nat.pow_zero])
set_option maxRecDepth 100000 in
theorem c_Mo_mod (l : Launch) (g : ew_G) (d : Nat) (sh : List ew_S) (M : ew_M) (x : Nat) (hx : x < 2 ^ 31) :
    Ew l g d 0 0 m_Mo_mod 0 [.int (nI x), .retAddr 0] [] sh M (ew_q (some (.int (nI (x % 12289)))) sh M) := by
  refine ew_iload_n d_Mo_mod_0 rfl ?_
  refine ew_sipush (v := nI 12289) d_Mo_mod_1 (by decide) ?_
  refine en_irem d_Mo_mod_4 (by omega) (by decide) (by decide) ?_
  refine en_istore_n (ls' := [.int (nI x), .int (nI (x % 12289))]) d_Mo_mod_5 (Nat.le_of_ble_eq_true rfl) rfl ?_
  refine ew_iload_n d_Mo_mod_6 rfl ?_
  refine en_if_ge (tgt := 18) d_Mo_mod_7 (by decide) (by omega) ?_
  refine ew_iload_n d_Mo_mod_18 rfl ?_
  exact ew_iret d_Mo_mod_19 rfl (⟨rfl, rfl, rfl⟩)
theorem ep_rem {x y : Nat} (hx : x < 12289) (hy : y < 12289) : (nI x - nI y) - (nI x - nI y) / nI 12289 * nI 12289 = nI x - nI y := by
  have h1 : (nI x - nI y).toInt = (x : Int) - y := pk_sub_toInt (by omega) (by omega)
  have h2 : (nI 12289).toInt = 12289 := rfl
  have h3 : (nI x - nI y) / nI 12289 = 0 := by
    apply Int32.toInt_inj.mp
    rw [Int32.toInt_div, h1, h2]
    have : ((x : Int) - y).tdiv 12289 = 0 := by
      rcases (show ((x : Int) - y) < 0 ∨ 0 ≤ ((x : Int) - y) by omega) with q | q
      · have h4 : ((x : Int) - y) = -(((y - x : Nat) : Int)) := by omega
        rw [h4, Int.neg_tdiv, Int.tdiv_eq_zero_of_lt (by omega) (by omega)]
        rfl
      · exact Int.tdiv_eq_zero_of_lt q (by omega)
    rw [this]
    rfl
  rw [h3, Int32.zero_mul, Int32.sub_zero]
theorem ep_modN {x y : Nat} (hx : x < 12289) (hy : y < 12289) (h : y ≤ x) : (x + 12289 - y) % 12289 = x - y := by
  rw [show x + 12289 - y = (x - y) + 12289 by omega, Nat.add_mod_right, Nat.mod_eq_of_lt (by omega)]
theorem ep_modM {x y : Nat} (hx : x < 12289) (hy : y < 12289) (h : x < y) : (x + 12289 - y) % 12289 = x + 12289 - y := Nat.mod_eq_of_lt (by omega)
theorem ep_lt0 {x y : Nat} (hx : x < 12289) (hy : y < 12289) : nI x - nI y < 0 ↔ x < y := by
  rw [Int32.lt_iff_toInt_lt, pk_sub_toInt (by omega) (by omega), Int32.toInt_zero]
  omega
set_option maxRecDepth 100000 in
theorem c_Mo_modS (l : Launch) (g : ew_G) (d : Nat) (sh : List ew_S) (M : ew_M) (x y : Nat) (hx : x < 12289) (hy : y < 12289) :
    Ew l g d 0 0 m_Mo_mod 0 [.int (nI x - nI y), .retAddr 0] [] sh M (ew_q (some (.int (nI ((x + 12289 - y) % 12289)))) sh M) := by
  refine ew_iload_n d_Mo_mod_0 rfl ?_
  refine ew_sipush (v := nI 12289) d_Mo_mod_1 (by decide) ?_
  refine ew_irem d_Mo_mod_4 (by decide) ?_
  refine en_eq (st' := [.int (nI x - nI y)]) rfl (by rw [show ((nI x - nI y) - (nI x - nI y) / (nI 12289) * (nI 12289)) = (nI x - nI y) from ep_rem hx hy]) rfl ?_
  refine en_istore_n (ls' := [.int (nI x - nI y), .int (nI x - nI y)]) d_Mo_mod_5 (Nat.le_of_ble_eq_true rfl) rfl ?_
  refine ew_iload_n d_Mo_mod_6 rfl ?_
  refine ew_if_ge (tgt := 18) d_Mo_mod_7 (by decide) (fun h7 => ?_) (fun h7 => ?_)
  · refine ew_iload_n d_Mo_mod_18 rfl ?_
    exact ew_iret d_Mo_mod_19 rfl (⟨by rw [ep_modN hx hy (Nat.le_of_not_lt fun q => absurd ((ep_lt0 hx hy).mpr q) (Int32.not_lt.mpr h7)), ← pk_sub (Nat.le_of_not_lt fun q => absurd ((ep_lt0 hx hy).mpr q) (Int32.not_lt.mpr h7))], rfl, rfl⟩)
  · refine ew_iload_n d_Mo_mod_10 rfl ?_
    refine ew_sipush (v := nI 12289) d_Mo_mod_11 (by decide) ?_
    refine ew_iadd d_Mo_mod_14 ?_
    refine en_eq (st' := [.int (nI (x + 12289 - y))]) rfl (by rw [show ((nI x - nI y) + (nI 12289)) = (nI (x + 12289 - y)) from ep_sub hy]) rfl ?_
    refine ew_goto (tgt := 19) d_Mo_mod_15 (by decide) ?_
    exact ew_iret d_Mo_mod_19 rfl (⟨by rw [ep_modM hx hy ((ep_lt0 hx hy).mp (Int32.not_le.mp h7))], rfl, rfl⟩)
set_option maxRecDepth 100000 in
theorem c_P_mix (l : Launch) (g : ew_G) (d : Nat) (sh : List ew_S) (M : ew_M) (x y : Int32) :
    Ew l g (d + 1) 0 0 m_P_mix 0 [.int x, .int y, .retAddr 0] [] sh M (ew_q (some (.int (sp_mix x y))) sh M) := by
  refine ew_ldc (v := 40503) d_P_mix_0 tw_378 ?_
  refine en_eq rfl (show _ = [.int (nI 40503)] from rfl) rfl ?_
  refine ew_iload_n d_P_mix_2 rfl ?_
  refine ew_ixor d_P_mix_3 ?_
  refine ew_ldc (v := 16777619) d_P_mix_4 tw_379 ?_
  refine en_eq rfl (show _ = [.int (nI 16777619), .int ((nI 40503) ^^^ x)] from rfl) rfl ?_
  refine ew_imul d_P_mix_6 ?_
  refine en_istore_n (ls' := [.int x, .int y, .int (((nI 40503) ^^^ x) * (nI 16777619))]) d_P_mix_7 (Nat.le_of_ble_eq_true rfl) rfl ?_
  refine ew_iload_n d_P_mix_8 rfl ?_
  refine ew_iload_n d_P_mix_9 rfl ?_
  refine ew_bipush (v := nI 15) d_P_mix_10 (by decide) ?_
  refine ew_iushr d_P_mix_12 ?_
  refine ew_ixor d_P_mix_13 ?_
  refine en_istore_n (ls' := [.int x, .int y, .int ((((nI 40503) ^^^ x) * (nI 16777619)) ^^^ (((((nI 40503) ^^^ x) * (nI 16777619)).toUInt32 >>> ((nI 15).toUInt32 &&& Int32.toUInt32 31)).toInt32))]) d_P_mix_14 (Nat.le_of_ble_eq_true rfl) rfl ?_
  refine ew_iload_n d_P_mix_15 rfl ?_
  refine ew_iload_n d_P_mix_16 rfl ?_
  refine ew_ixor d_P_mix_17 ?_
  refine ew_ldc (v := 16777619) d_P_mix_18 tw_379 ?_
  refine en_eq rfl (show _ = [.int (nI 16777619), .int (((((nI 40503) ^^^ x) * (nI 16777619)) ^^^ (((((nI 40503) ^^^ x) * (nI 16777619)).toUInt32 >>> ((nI 15).toUInt32 &&& Int32.toUInt32 31)).toInt32)) ^^^ y)] from rfl) rfl ?_
  refine ew_imul d_P_mix_20 ?_
  refine en_istore_n (ls' := [.int x, .int y, .int ((((((nI 40503) ^^^ x) * (nI 16777619)) ^^^ (((((nI 40503) ^^^ x) * (nI 16777619)).toUInt32 >>> ((nI 15).toUInt32 &&& Int32.toUInt32 31)).toInt32)) ^^^ y) * (nI 16777619))]) d_P_mix_21 (Nat.le_of_ble_eq_true rfl) rfl ?_
  refine ew_iload_n d_P_mix_22 rfl ?_
  refine ew_iload_n d_P_mix_23 rfl ?_
  refine ew_bipush (v := nI 15) d_P_mix_24 (by decide) ?_
  refine ew_iushr d_P_mix_26 ?_
  refine ew_ixor d_P_mix_27 ?_
  exact ew_iret d_P_mix_28 rfl (⟨rfl, rfl, rfl⟩)
set_option maxRecDepth 100000 in
theorem c_Mo_mix (l : Launch) (g : ew_G) (d : Nat) (sh : List ew_S) (M : ew_M) (x y : Int32) :
    Ew l g d 0 0 m_Mo_mix 0 [.int x, .int y, .retAddr 0] [] sh M (ew_q (some (.int (sp_mix x y))) sh M) := by
  refine ew_ldc (v := 40503) d_Mo_mix_0 tw_755 ?_
  refine en_eq rfl (show _ = [.int (nI 40503)] from rfl) rfl ?_
  refine en_istore_n (ls' := [.int x, .int y, .int (nI 40503)]) d_Mo_mix_2 (Nat.le_of_ble_eq_true rfl) rfl ?_
  refine ew_iload_n d_Mo_mix_3 rfl ?_
  refine ew_iload_n d_Mo_mix_4 rfl ?_
  refine ew_ixor d_Mo_mix_5 ?_
  refine ew_ldc (v := 16777619) d_Mo_mix_6 tw_756 ?_
  refine en_eq rfl (show _ = [.int (nI 16777619), .int ((nI 40503) ^^^ x)] from rfl) rfl ?_
  refine ew_imul d_Mo_mix_8 ?_
  refine en_istore_n (ls' := [.int x, .int y, .int (((nI 40503) ^^^ x) * (nI 16777619))]) d_Mo_mix_9 (Nat.le_of_ble_eq_true rfl) rfl ?_
  refine ew_iload_n d_Mo_mix_10 rfl ?_
  refine ew_iload_n d_Mo_mix_11 rfl ?_
  refine ew_bipush (v := nI 15) d_Mo_mix_12 (by decide) ?_
  refine ew_iushr d_Mo_mix_14 ?_
  refine ew_ixor d_Mo_mix_15 ?_
  refine en_istore_n (ls' := [.int x, .int y, .int ((((nI 40503) ^^^ x) * (nI 16777619)) ^^^ (((((nI 40503) ^^^ x) * (nI 16777619)).toUInt32 >>> ((nI 15).toUInt32 &&& Int32.toUInt32 31)).toInt32))]) d_Mo_mix_16 (Nat.le_of_ble_eq_true rfl) rfl ?_
  refine ew_iload_n d_Mo_mix_17 rfl ?_
  refine ew_iload_n d_Mo_mix_18 rfl ?_
  refine ew_ixor d_Mo_mix_19 ?_
  refine ew_ldc (v := 16777619) d_Mo_mix_20 tw_756 ?_
  refine en_eq rfl (show _ = [.int (nI 16777619), .int (((((nI 40503) ^^^ x) * (nI 16777619)) ^^^ (((((nI 40503) ^^^ x) * (nI 16777619)).toUInt32 >>> ((nI 15).toUInt32 &&& Int32.toUInt32 31)).toInt32)) ^^^ y)] from rfl) rfl ?_
  refine ew_imul d_Mo_mix_22 ?_
  refine en_istore_n (ls' := [.int x, .int y, .int ((((((nI 40503) ^^^ x) * (nI 16777619)) ^^^ (((((nI 40503) ^^^ x) * (nI 16777619)).toUInt32 >>> ((nI 15).toUInt32 &&& Int32.toUInt32 31)).toInt32)) ^^^ y) * (nI 16777619))]) d_Mo_mix_23 (Nat.le_of_ble_eq_true rfl) rfl ?_
  refine ew_iload_n d_Mo_mix_24 rfl ?_
  refine ew_iload_n d_Mo_mix_25 rfl ?_
  refine ew_bipush (v := nI 15) d_Mo_mix_26 (by decide) ?_
  refine ew_iushr d_Mo_mix_28 ?_
  refine ew_ixor d_Mo_mix_29 ?_
  exact ew_iret d_Mo_mix_30 rfl (⟨rfl, rfl, rfl⟩)
set_option maxRecDepth 100000 in
theorem c_P_isColumn (l : Launch) (g : ew_G) (d : Nat) (sh : List ew_S) (M : ew_M) (x : Int32) :
    Ew l g d 0 0 m_P_isColumn 0 [.int x] [] sh M (ew_q (some (.int (ew_b (sp_in x 2)))) sh M) := by
  refine ew_iload_n d_P_isColumn_0 rfl ?_
  refine ew_if_lt (tgt := 13) d_P_isColumn_1 (by decide) (fun h1 => ?_) (fun h1 => ?_)
  · refine ew_iconst (v := nI 0) d_P_isColumn_13 (by decide) ?_
    exact ew_zret d_P_isColumn_14 rfl (by decide) (⟨by first | rw [sp_in_1 h1]; rfl | rw [sp_in_2 h6]; rfl, rfl, rfl⟩)
  · refine ew_iload_n d_P_isColumn_4 rfl ?_
    refine ew_iconst (v := nI 2) d_P_isColumn_5 (by decide) ?_
    refine ew_icmp_ge (tgt := 13) d_P_isColumn_6 (by decide) (fun h6 => ?_) (fun h6 => ?_)
    · refine ew_iconst (v := nI 0) d_P_isColumn_13 (by decide) ?_
      exact ew_zret d_P_isColumn_14 rfl (by decide) (⟨by first | rw [sp_in_1 h1]; rfl | rw [sp_in_2 h6]; rfl, rfl, rfl⟩)
    · refine ew_iconst (v := nI 1) d_P_isColumn_9 (by decide) ?_
      refine ew_goto (tgt := 14) d_P_isColumn_10 (by decide) ?_
      exact ew_zret d_P_isColumn_14 rfl (by decide) (⟨by rw [sp_in_t h1 h6]; rfl, rfl, rfl⟩)
set_option maxRecDepth 100000 in
theorem c_P_isLetter (l : Launch) (g : ew_G) (d : Nat) (sh : List ew_S) (M : ew_M) (x : Int32) :
    Ew l g d 0 0 m_P_isLetter 0 [.int x] [] sh M (ew_q (some (.int (ew_b (sp_in x 5)))) sh M) := by
  refine ew_iload_n d_P_isLetter_0 rfl ?_
  refine ew_if_lt (tgt := 13) d_P_isLetter_1 (by decide) (fun h1 => ?_) (fun h1 => ?_)
  · refine ew_iconst (v := nI 0) d_P_isLetter_13 (by decide) ?_
    exact ew_zret d_P_isLetter_14 rfl (by decide) (⟨by first | rw [sp_in_1 h1]; rfl | rw [sp_in_2 h6]; rfl, rfl, rfl⟩)
  · refine ew_iload_n d_P_isLetter_4 rfl ?_
    refine ew_iconst (v := nI 5) d_P_isLetter_5 (by decide) ?_
    refine ew_icmp_ge (tgt := 13) d_P_isLetter_6 (by decide) (fun h6 => ?_) (fun h6 => ?_)
    · refine ew_iconst (v := nI 0) d_P_isLetter_13 (by decide) ?_
      exact ew_zret d_P_isLetter_14 rfl (by decide) (⟨by first | rw [sp_in_1 h1]; rfl | rw [sp_in_2 h6]; rfl, rfl, rfl⟩)
    · refine ew_iconst (v := nI 1) d_P_isLetter_9 (by decide) ?_
      refine ew_goto (tgt := 14) d_P_isLetter_10 (by decide) ?_
      exact ew_zret d_P_isLetter_14 rfl (by decide) (⟨by rw [sp_in_t h1 h6]; rfl, rfl, rfl⟩)
theorem sp_col {x : Int32} (h1 : ¬ x = 0) (h2 : ¬ x = nI 1) : sp_in x 2 = false := by
  cases h : sp_in x 2 with
  | false => rfl
  | true =>
    obtain ⟨j, hj, rfl⟩ := sp_in_of (by decide) h
    rcases (show j = 0 ∨ j = 1 by omega) with rfl | rfl
    · exact absurd rfl h1
    · exact absurd rfl h2
set_option maxRecDepth 100000 in
theorem c_Mo_isColumn (l : Launch) (g : ew_G) (d : Nat) (sh : List ew_S) (M : ew_M) (x : Int32) :
    Ew l g d 0 0 m_Mo_isColumn 0 [.int x] [] sh M (ew_q (some (.int (ew_b (sp_in x 2)))) sh M) := by
  refine ew_iload_n d_Mo_isColumn_0 rfl ?_
  refine ew_if_eq (tgt := 9) d_Mo_isColumn_1 (by decide) (fun h1 => ?_) (fun h1 => ?_)
  · refine ew_iconst (v := nI 1) d_Mo_isColumn_9 (by decide) ?_
    refine ew_goto (tgt := 14) d_Mo_isColumn_10 (by decide) ?_
    exact ew_zret d_Mo_isColumn_14 rfl (by decide) (⟨by first | (rw [h1]; rfl) | (rw [h6]; rfl), rfl, rfl⟩)
  · refine ew_iload_n d_Mo_isColumn_4 rfl ?_
    refine ew_iconst (v := nI 1) d_Mo_isColumn_5 (by decide) ?_
    refine ew_icmp_ne (tgt := 13) d_Mo_isColumn_6 (by decide) (fun h6 => ?_) (fun h6 => ?_)
    · refine ew_iconst (v := nI 0) d_Mo_isColumn_13 (by decide) ?_
      exact ew_zret d_Mo_isColumn_14 rfl (by decide) (⟨by rw [show sp_in x 2 = false from sp_col h1 h6]; rfl, rfl, rfl⟩)
    · refine ew_iconst (v := nI 1) d_Mo_isColumn_9 (by decide) ?_
      refine ew_goto (tgt := 14) d_Mo_isColumn_10 (by decide) ?_
      exact ew_zret d_Mo_isColumn_14 rfl (by decide) (⟨by first | (rw [h1]; rfl) | (rw [h6]; rfl), rfl, rfl⟩)
