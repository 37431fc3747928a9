theorem ep_ml (a b : Nat) : (a % 12289) * b % 12289 = a * b % 12289 := by rw [Nat.mul_mod, Nat.mod_mod, ← Nat.mul_mod]
theorem ep_mr (a b : Nat) : a * (b % 12289) % 12289 = a * b % 12289 := by rw [Nat.mul_mod, Nat.mod_mod, ← Nat.mul_mod]
theorem ep_al (a b : Nat) : (a % 12289 + b) % 12289 = (a + b) % 12289 := by rw [Nat.add_mod, Nat.mod_mod, ← Nat.add_mod]
theorem ep_ar (a b : Nat) : (a + b % 12289) % 12289 = (a + b) % 12289 := by rw [Nat.add_mod, Nat.mod_mod, ← Nat.add_mod]
theorem ep_asc (x a m : Nat) : (x * a % 12289) * m % 12289 = x * (a * m % 12289) % 12289 := by rw [ep_ml, ep_mr, Nat.mul_assoc]
theorem ep_dist (s f o k : Nat) : ((s + f * o % 12289) % 12289) * k % 12289 = (s * k % 12289 + f * (o * k % 12289) % 12289) % 12289 := by rw [ep_ml, Nat.add_mul, Nat.add_mod, ep_asc]
def sp_ab (x pt r : Nat) : Nat → Nat
  | 0 => x
  | s + 1 => if s = r then sp_ab x pt r s else sp_ab x pt r s * ((pt + 12289 - tb_rt (4 * s)) % 12289) % 12289
def sp_be (r : Nat) : Nat → Nat
  | 0 => 1
  | s + 1 => if s = r then sp_be r s else sp_be r s * ((tb_rt (4 * r) + 12289 - tb_rt (4 * s)) % 12289) % 12289
def sp_va (f : Nat → Nat) (pt : Nat) : Nat → Nat
  | 0 => 0
  | r + 1 => (sp_va f pt r + sp_ab (f r) pt r 8 * (sp_be r 8 ^ 12287 % 12289) % 12289) % 12289
theorem sp_va_lt (f : Nat → Nat) (pt : Nat) : ∀ r : Nat, sp_va f pt r < 12289
  | 0 => Nat.zero_lt_succ _
  | r + 1 => ep_lt _
theorem sp_ab_lt {x pt r : Nat} (hx : x < 12289) : ∀ s : Nat, sp_ab x pt r s < 12289
  | 0 => hx
  | s + 1 => by
    unfold sp_ab
    split
    · exact sp_ab_lt hx s
    · exact ep_lt _
theorem sp_be_lt (r : Nat) : ∀ s : Nat, sp_be r s < 12289
  | 0 => Nat.succ_lt_succ (Nat.zero_lt_succ _)
  | s + 1 => by
    unfold sp_be
    split
    · exact sp_be_lt r s
    · exact ep_lt _
theorem sp_ab_1 {x pt r : Nat} (hx : x < 12289) : ∀ s : Nat, sp_ab x pt r s = x * sp_ab 1 pt r s % 12289
  | 0 => by
    show x = x * 1 % 12289
    rw [Nat.mul_one, Nat.mod_eq_of_lt hx]
  | s + 1 => by
    have ih := sp_ab_1 (pt := pt) (r := r) hx s
    unfold sp_ab
    split
    · exact ih
    · rw [ih]
      exact ep_asc _ _ _
/-- both sides' ways to a column's value at a point have the same weights -/
theorem sp_k1 : ∀ i, i < 32 → ∀ r, r < 8 → sp_ab 1 (tb_x i) r 8 * (sp_be r 8 ^ 12287 % 12289) % 12289 = tb_o1 ((i + 32 - 4 * r) % 32) * tb_kf i % 12289 := by decide +kernel
theorem sp_k2 : ∀ i, i < 32 → ∀ r, r < 8 → ((tb_x i + 12289 - tb_rt (4 * r)) % 12289) ^ 12287 % 12289 = sp_bf i r := by decide +kernel
theorem sp_k3 : ∀ i, i < 32 → (2 * (tb_x i ^ 1 % 12289) % 12289) ^ 12287 % 12289 = (tb_o0 i ^ 1 % 12289) * 6145 % 12289 ∧ (2 * (tb_x i ^ 2 % 12289) % 12289) ^ 12287 % 12289 = (tb_o0 i ^ 2 % 12289) * 6145 % 12289 ∧ (2 * (tb_x i ^ 4 % 12289) % 12289) ^ 12287 % 12289 = (tb_o0 i ^ 4 % 12289) * 6145 % 12289 := by decide +kernel
theorem sp_k4 : 2 ^ 12287 % 12289 = 6145 := by decide +kernel
theorem sp_va_its {f : Nat → Nat} {i : Nat} (hi : i < 32) : ∀ r : Nat, r ≤ 8 → (∀ t, t < 8 → f t < 12289) → sp_its f i r * tb_kf i % 12289 = sp_va f (tb_x i) r
  | 0, _, _ => by
    show 0 * tb_kf i % 12289 = 0
    rw [Nat.zero_mul]
  | r + 1, hr, hf => by
    have ih := sp_va_its hi r (by omega) hf
    show ((sp_its f i r + f r * tb_o1 ((i + 32 - 4 * r) % 32) % 12289) % 12289) * tb_kf i % 12289 = (sp_va f (tb_x i) r + sp_ab (f r) (tb_x i) r 8 * (sp_be r 8 ^ 12287 % 12289) % 12289) % 12289
    rw [sp_ab_1 (hf r (by omega)), ep_asc, sp_k1 i hi r (by omega), ← ih, ep_dist]
theorem sp_va_it {f : Nat → Nat} {i : Nat} (hi : i < 32) (hf : ∀ t, t < 8 → f t < 12289) : sp_va f (tb_x i) 8 = sp_it f i := (sp_va_its hi 8 (Nat.le_refl 8) hf).symm
theorem sp_fo_eq {l i f g B : Nat} (hk : (2 * (tb_x i ^ l % 12289) % 12289) ^ 12287 % 12289 = (tb_o0 i ^ l % 12289) * 6145 % 12289) : (((f + g) % 12289) * (2 ^ 12287 % 12289) % 12289 + B * (((f + 12289 - g) % 12289) * ((2 * (tb_x i ^ l % 12289) % 12289) ^ 12287 % 12289) % 12289) % 12289) % 12289 = sp_fo l i f g B := by
  unfold sp_fo
  rw [hk, sp_k4]
  generalize (f + g) % 12289 = S
  generalize (f + 12289 - g) % 12289 = D
  generalize tb_o0 i ^ l % 12289 = o
  rw [ep_dist, ep_asc]
def sp_cm (ce : Nat → Nat → Nat) (M : ew_M) : Prop := ∀ c r, c < 2 → r < 8 → M 48 (8 * c + r) = nI (ce c r) ∧ ce c r < 12289
theorem sp_cm_of {ce : Nat → Nat → Nat} {M M' : ew_M} (h : sp_cm ce M) (h1 : M' 48 = M 48) : sp_cm ce M' := by
  unfold sp_cm at h ⊢
  rw [h1]
  exact h
theorem sp_rts_of {M M' : ew_M} (h : sp_rts M) (h1 : M' 60 = M 60) : sp_rts M' := by
  unfold sp_rts at h ⊢
  rw [h1]
  exact h
theorem sp_rm_of {ρ : sp_R} {M M' : ew_M} (h : sp_rm ρ M) (h49 : M' 49 = M 49) (h50 : M' 50 = M 50) (h51 : M' 51 = M 51) (h52 : M' 52 = M 52) (h47 : M' 47 5 = M 47 5) (h53 : M' 53 = M 53) (h54 : M' 54 = M 54) (h55 : M' 55 = M 55) : sp_rm ρ M' := by
  unfold sp_rm at h ⊢
  rw [h49, h50, h51, h52, h47, h53, h54, h55]
  exact h
