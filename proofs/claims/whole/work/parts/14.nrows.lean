/-! rows with ints by their numbers -/
def ew_q (v : Option Value) (sh : List ew_S) (M : ew_M) : Option Value → List ew_S → ew_M → Prop := fun v' sh' M' => v' = v ∧ sh' = sh ∧ M' = M
section EWQ
variable {l : Launch} {g : ew_G} {d a b : Nat} {m : ew_D} {pc : Nat} {ls st : List Value} {sh : List ew_S} {M : ew_M} {Q : Option Value → List ew_S → ew_M → Prop}
theorem en_iadd {x y : Nat} (hd : decode m.2.2.1 pc = .ok (.iadd, 1)) (k : Ew l g d a b m (pc + 1) ls (.int (nI (x + y)) :: st) sh M Q) : Ew l g d a b m pc ls (.int (nI y) :: .int (nI x) :: st) sh M Q := ew_iadd hd (by rw [nI_add]; exact k)
theorem en_imul {x y : Nat} (hd : decode m.2.2.1 pc = .ok (.imul, 1)) (k : Ew l g d a b m (pc + 1) ls (.int (nI (x * y)) :: st) sh M Q) : Ew l g d a b m pc ls (.int (nI y) :: .int (nI x) :: st) sh M Q := ew_imul hd (by rw [pk_mul]; exact k)
theorem en_isub {x y : Nat} (hd : decode m.2.2.1 pc = .ok (.isub, 1)) (h : y ≤ x) (k : Ew l g d a b m (pc + 1) ls (.int (nI (x - y)) :: st) sh M Q) : Ew l g d a b m pc ls (.int (nI y) :: .int (nI x) :: st) sh M Q := ew_isub hd (by rw [pk_sub h]; exact k)
theorem en_irem {x y : Nat} (hd : decode m.2.2.1 pc = .ok (.irem, 1)) (hx : x < 2 ^ 31) (h0 : 0 < y) (hy : y < 2 ^ 31) (k : Ew l g d a b m (pc + 1) ls (.int (nI (x % y)) :: st) sh M Q) : Ew l g d a b m pc ls (.int (nI y) :: .int (nI x) :: st) sh M Q := ew_irem hd (nI_ne0 h0 hy) (by rw [pk_rem hx h0 hy]; exact k)
theorem en_idiv {x y : Nat} (hd : decode m.2.2.1 pc = .ok (.idiv, 1)) (hx : x < 2 ^ 31) (h0 : 0 < y) (hy : y < 2 ^ 31) (k : Ew l g d a b m (pc + 1) ls (.int (nI (x / y)) :: st) sh M Q) : Ew l g d a b m pc ls (.int (nI y) :: .int (nI x) :: st) sh M Q := ew_idiv hd (nI_ne0 h0 hy) (by rw [pk_div hx h0 hy]; exact k)
theorem en_iinc {i x : Nat} (hd : decode m.2.2.1 pc = .ok (.iinc i 1, 3)) (hl : ls[i]? = some (.int (nI x))) (k : Ew l g d a b m (pc + 3) (ls.set i (.int (nI (x + 1)))) st sh M Q) : Ew l g d a b m pc ls st sh M Q := ew_iinc hd hl (nI_1 x) k
theorem en_idec {i x : Nat} (hd : decode m.2.2.1 pc = .ok (.iinc i (-1), 3)) (h0 : 0 < x) (hl : ls[i]? = some (.int (nI x))) (k : Ew l g d a b m (pc + 3) (ls.set i (.int (nI (x - 1)))) st sh M Q) : Ew l g d a b m pc ls st sh M Q := ew_iinc hd hl (by
  have := sb_m1 h0
  exact this) k
theorem en_icmp_lt {x y tgt : Nat} {off : Int} (hd : decode m.2.2.1 pc = .ok (.if_icmp .lt off, 3)) (ht : (pc : Int) + off = (tgt : Int)) (hx : x < 2 ^ 31) (hy : y < 2 ^ 31) (kt : x < y → Ew l g d a b m tgt ls st sh M Q) (kf : y ≤ x → Ew l g d a b m (pc + 3) ls st sh M Q) : Ew l g d a b m pc ls (.int (nI y) :: .int (nI x) :: st) sh M Q := ew_icmp_lt hd ht (fun h => kt ((nI_ltI hx hy).mp h)) (fun h => kf (Nat.le_of_not_lt fun q => h ((nI_ltI hx hy).mpr q)))
theorem en_icmp_ge {x y tgt : Nat} {off : Int} (hd : decode m.2.2.1 pc = .ok (.if_icmp .ge off, 3)) (ht : (pc : Int) + off = (tgt : Int)) (hx : x < 2 ^ 31) (hy : y < 2 ^ 31) (kt : y ≤ x → Ew l g d a b m tgt ls st sh M Q) (kf : x < y → Ew l g d a b m (pc + 3) ls st sh M Q) : Ew l g d a b m pc ls (.int (nI y) :: .int (nI x) :: st) sh M Q := ew_icmp_ge hd ht (fun h => kt ((nI_leI hy hx).mp h)) (fun h => kf (Nat.lt_of_not_le fun q => h ((nI_leI hy hx).mpr q)))
theorem en_icmp_gt {x y tgt : Nat} {off : Int} (hd : decode m.2.2.1 pc = .ok (.if_icmp .gt off, 3)) (ht : (pc : Int) + off = (tgt : Int)) (hx : x < 2 ^ 31) (hy : y < 2 ^ 31) (kt : y < x → Ew l g d a b m tgt ls st sh M Q) (kf : x ≤ y → Ew l g d a b m (pc + 3) ls st sh M Q) : Ew l g d a b m pc ls (.int (nI y) :: .int (nI x) :: st) sh M Q := ew_icmp_gt hd ht (fun h => kt ((nI_ltI hy hx).mp h)) (fun h => kf (Nat.le_of_not_lt fun q => h ((nI_ltI hy hx).mpr q)))
theorem en_icmp_le {x y tgt : Nat} {off : Int} (hd : decode m.2.2.1 pc = .ok (.if_icmp .le off, 3)) (ht : (pc : Int) + off = (tgt : Int)) (hx : x < 2 ^ 31) (hy : y < 2 ^ 31) (kt : x ≤ y → Ew l g d a b m tgt ls st sh M Q) (kf : y < x → Ew l g d a b m (pc + 3) ls st sh M Q) : Ew l g d a b m pc ls (.int (nI y) :: .int (nI x) :: st) sh M Q := ew_icmp_le hd ht (fun h => kt ((nI_leI hx hy).mp h)) (fun h => kf (Nat.lt_of_not_le fun q => h ((nI_leI hx hy).mpr q)))
theorem en_icmp_eq {x y tgt : Nat} {off : Int} (hd : decode m.2.2.1 pc = .ok (.if_icmp .eq off, 3)) (ht : (pc : Int) + off = (tgt : Int)) (hx : x < 2 ^ 31) (hy : y < 2 ^ 31) (kt : x = y → Ew l g d a b m tgt ls st sh M Q) (kf : x ≠ y → Ew l g d a b m (pc + 3) ls st sh M Q) : Ew l g d a b m pc ls (.int (nI y) :: .int (nI x) :: st) sh M Q := ew_icmp_eq hd ht (fun h => kt ((nI_eq hx hy).mp h)) (fun h => kf (fun q => h ((nI_eq hx hy).mpr q)))
theorem en_icmp_ne {x y tgt : Nat} {off : Int} (hd : decode m.2.2.1 pc = .ok (.if_icmp .ne off, 3)) (ht : (pc : Int) + off = (tgt : Int)) (hx : x < 2 ^ 31) (hy : y < 2 ^ 31) (kt : x ≠ y → Ew l g d a b m tgt ls st sh M Q) (kf : x = y → Ew l g d a b m (pc + 3) ls st sh M Q) : Ew l g d a b m pc ls (.int (nI y) :: .int (nI x) :: st) sh M Q := ew_icmp_ne hd ht (fun h => kt (fun q => h ((nI_eq hx hy).mpr q))) (fun h => kf ((nI_eq hx hy).mp h))
theorem en_if_eq {x tgt : Nat} {off : Int} (hd : decode m.2.2.1 pc = .ok (.ifCond .eq off, 3)) (ht : (pc : Int) + off = (tgt : Int)) (hx : x < 2 ^ 31) (kt : x = 0 → Ew l g d a b m tgt ls st sh M Q) (kf : x ≠ 0 → Ew l g d a b m (pc + 3) ls st sh M Q) : Ew l g d a b m pc ls (.int (nI x) :: st) sh M Q := ew_if_eq hd ht (fun h => kt ((nI_eq hx (by decide)).mp (by rw [h]; rfl))) (fun h => kf (fun q => h (by rw [q]; rfl)))
theorem en_if_ne {x tgt : Nat} {off : Int} (hd : decode m.2.2.1 pc = .ok (.ifCond .ne off, 3)) (ht : (pc : Int) + off = (tgt : Int)) (hx : x < 2 ^ 31) (kt : x ≠ 0 → Ew l g d a b m tgt ls st sh M Q) (kf : x = 0 → Ew l g d a b m (pc + 3) ls st sh M Q) : Ew l g d a b m pc ls (.int (nI x) :: st) sh M Q := ew_if_ne hd ht (fun h => kt (fun q => h (by rw [q]; rfl))) (fun h => kf ((nI_eq hx (by decide)).mp (by rw [h]; rfl)))
theorem en_if_le {x tgt : Nat} {off : Int} (hd : decode m.2.2.1 pc = .ok (.ifCond .le off, 3)) (ht : (pc : Int) + off = (tgt : Int)) (hx : x < 2 ^ 31) (kt : x = 0 → Ew l g d a b m tgt ls st sh M Q) (kf : 0 < x → Ew l g d a b m (pc + 3) ls st sh M Q) : Ew l g d a b m pc ls (.int (nI x) :: st) sh M Q := ew_if_le hd ht (fun h => kt (by
  rcases Nat.eq_zero_or_pos x with q | q
  · exact q
  · exact absurd h (nI_nle q hx))) (fun h => kf (by
  rcases Nat.eq_zero_or_pos x with q | q
  · exact absurd (by rw [q]; decide) h
  · exact q))
theorem en_if_lt {x tgt : Nat} {off : Int} (hd : decode m.2.2.1 pc = .ok (.ifCond .lt off, 3)) (ht : (pc : Int) + off = (tgt : Int)) (hx : x < 2 ^ 31) (kf : Ew l g d a b m (pc + 3) ls st sh M Q) : Ew l g d a b m pc ls (.int (nI x) :: st) sh M Q := ew_if_lt hd ht (fun h => absurd h (nI_pos hx)) (fun _ => kf)
theorem en_if_ge {x tgt : Nat} {off : Int} (hd : decode m.2.2.1 pc = .ok (.ifCond .ge off, 3)) (ht : (pc : Int) + off = (tgt : Int)) (hx : x < 2 ^ 31) (kt : Ew l g d a b m tgt ls st sh M Q) : Ew l g d a b m pc ls (.int (nI x) :: st) sh M Q := ew_if_ge hd ht (fun _ => kt) (fun h => absurd (nI_pos' hx) h)
/-- the int of a truth value -/
def ew_b (B : Bool) : Int32 := match B with
  | true => 1
  | false => 0
theorem ew_b01 (B : Bool) : ew_b B = 0 ∨ ew_b B = 1 := by cases B <;> first | exact Or.inl rfl | exact Or.inr rfl
theorem en_b_eq {B : Bool} {tgt : Nat} {off : Int} (hd : decode m.2.2.1 pc = .ok (.ifCond .eq off, 3)) (ht : (pc : Int) + off = (tgt : Int)) (kt : B = false → Ew l g d a b m tgt ls st sh M Q) (kf : B = true → Ew l g d a b m (pc + 3) ls st sh M Q) : Ew l g d a b m pc ls (.int (ew_b B) :: st) sh M Q := ew_if_eq hd ht (fun h => kt (by cases B <;> first | rfl | exact absurd h (by decide))) (fun h => kf (by cases B <;> first | rfl | exact absurd rfl h))
theorem en_b_ne {B : Bool} {tgt : Nat} {off : Int} (hd : decode m.2.2.1 pc = .ok (.ifCond .ne off, 3)) (ht : (pc : Int) + off = (tgt : Int)) (kt : B = true → Ew l g d a b m tgt ls st sh M Q) (kf : B = false → Ew l g d a b m (pc + 3) ls st sh M Q) : Ew l g d a b m pc ls (.int (ew_b B) :: st) sh M Q := ew_if_ne hd ht (fun h => kt (by cases B <;> first | rfl | exact absurd rfl h)) (fun h => kf (by cases B <;> first | rfl | exact absurd h (by decide)))
theorem en_istore_n {i : Fin 4} {x : Int32} {ls' : List Value} (hd : decode m.2.2.1 pc = .ok (.istore_n i, 1)) (hi : i.val < ls.length) (hl : ls.set i.val (.int x) = ls') (k : Ew l g d a b m (pc + 1) ls' st sh M Q) : Ew l g d a b m pc ls (.int x :: st) sh M Q := ew_istore_n hd hi (by rw [hl]; exact k)
theorem en_istore {i : Nat} {x : Int32} {ls' : List Value} (hd : decode m.2.2.1 pc = .ok (.istore i, 2)) (hi : i < ls.length) (hl : ls.set i (.int x) = ls') (k : Ew l g d a b m (pc + 2) ls' st sh M Q) : Ew l g d a b m pc ls (.int x :: st) sh M Q := ew_istore hd hi (by rw [hl]; exact k)
theorem en_astore_n {i : Fin 4} {x : Nat} {ls' : List Value} (hd : decode m.2.2.1 pc = .ok (.astore_n i, 1)) (hi : i.val < ls.length) (hl : ls.set i.val (.ref x) = ls') (k : Ew l g d a b m (pc + 1) ls' st sh M Q) : Ew l g d a b m pc ls (.ref x :: st) sh M Q := ew_astore_n hd hi (by rw [hl]; exact k)
theorem en_inc {i x : Nat} {ls' : List Value} (hd : decode m.2.2.1 pc = .ok (.iinc i 1, 3)) (hx : ls[i]? = some (.int (nI x))) (hl : ls.set i (.int (nI (x + 1))) = ls') (k : Ew l g d a b m (pc + 3) ls' st sh M Q) : Ew l g d a b m pc ls st sh M Q := en_iinc hd hx (by rw [hl]; exact k)
theorem en_incr {i : Nat} {n : Int} {x v : Int32} {ls' : List Value} (hd : decode m.2.2.1 pc = .ok (.iinc i n, 3)) (hx : ls[i]? = some (.int x)) (hv : x + Int32.ofInt n = v) (hl : ls.set i (.int v) = ls') (k : Ew l g d a b m (pc + 3) ls' st sh M Q) : Ew l g d a b m pc ls st sh M Q := ew_iinc hd hx hv (by rw [hl]; exact k)
theorem en_dec {i x : Nat} {ls' : List Value} (hd : decode m.2.2.1 pc = .ok (.iinc i (-1), 3)) (h0 : 0 < x) (hx : ls[i]? = some (.int (nI x))) (hl : ls.set i (.int (nI (x - 1))) = ls') (k : Ew l g d a b m (pc + 3) ls' st sh M Q) : Ew l g d a b m pc ls st sh M Q := en_idec hd h0 hx (by rw [hl]; exact k)
theorem en_eq {ls' st' : List Value} {M' : ew_M} (hl : ls = ls') (hs : st = st') (hM : M = M') (k : Ew l g d a b m pc ls' st' sh M' Q) : Ew l g d a b m pc ls st sh M Q := by subst hl; subst hs; subst hM; exact k
end EWQ
section EWCQ
variable {l : Launch} {g : ew_G} {d n : Nat} {m m' : ew_D} {pc : Nat} {ls st st0 st1 es As : List Value} {sh sh1 : List ew_S} {M M1 : ew_M} {v : Option Value} {Q : Option Value → List ew_S → ew_M → Prop}
theorem en_callS {idx : Nat} (hd : decode m.2.2.1 pc = .ok (.invokestatic idx, 3)) (ok : ew_ok m' n) (hk : Cond.methodLink m.1 idx m'.2.1 ∈ ew_tb) (hk2 : Cond.static m'.2.1 ∈ ew_tb) (hn : As.length = n) (hA : As.length ≤ m'.2.2.2.1) (hir : As.all ew_ir = true) (hst : (st.map fun v => v.category).sum ≤ 8) (hs0 : st0 = As.reverse ++ st) (he : ew_en m'.2.2.2.1 As = es)
    (hc : Ew l g d 0 0 m' 0 es [] sh M (ew_q v sh1 M1)) (h1 : v.toList ++ st = st1) (k : Ew l g (d + 1) 0 0 m (pc + 3) ls st1 sh1 M1 Q) : Ew l g (d + 1) 0 0 m pc ls st0 sh M Q := ew_callS (a := 0) (b := 0) (a1 := 0) (b1 := 0) hd ok hk hk2 hn hA hir hst hs0 (he ▸ hc) (fun v' sh' M' q => by
  obtain ⟨rfl, rfl, rfl⟩ := q
  rw [h1]
  exact k)
theorem en_callSN {idx : Nat} {host : String} (hd : decode m.2.2.1 pc = .ok (.invokestatic idx, 3)) (ok : ew_ok m' n) (hk : Cond.methodLinkNest m.1 idx m'.2.1 host ∈ ew_nt) (hk2 : Cond.static m'.2.1 ∈ ew_tb) (hn : As.length = n) (hA : As.length ≤ m'.2.2.2.1) (hir : As.all ew_ir = true) (hst : (st.map fun v => v.category).sum ≤ 8) (hs0 : st0 = As.reverse ++ st) (he : ew_en m'.2.2.2.1 As = es)
    (hc : Ew l g d 0 0 m' 0 es [] sh M (ew_q v sh1 M1)) (h1 : v.toList ++ st = st1) (k : Ew l g (d + 1) 0 0 m (pc + 3) ls st1 sh1 M1 Q) : Ew l g (d + 1) 0 0 m pc ls st0 sh M Q := ew_callSN (a := 0) (b := 0) (a1 := 0) (b1 := 0) hd ok hk hk2 hn hA hir hst hs0 (he ▸ hc) (fun v' sh' M' q => by
  obtain ⟨rfl, rfl, rfl⟩ := q
  rw [h1]
  exact k)
theorem en_callV {idx i ci : Nat} {fs : List (Option (Option Nat))} {r : vw_C} (hd : decode m.2.2.1 pc = .ok (.invokevirtual idx, 3)) (ok : ew_ok m' n) (hs : sh[i]? = some (.inr (.inr (ci, fs)))) (hcl : ew_cl[ci]? = some r) (hk : Cond.methodLink m.1 idx m'.2.1 ∈ ew_tb) (hk2 : Cond.instanceMethod m'.2.1 ∈ ew_tb) (hk3 : Cond.selects r.1 m'.2.1 m'.2.1 ∈ ew_tb) (hn : As.length = n) (hA : As.length + 1 ≤ m'.2.2.2.1) (hir : As.all ew_ir = true) (hst : (st.map fun v => v.category).sum ≤ 8) (hs0 : st0 = As.reverse ++ .ref i :: st) (he : ew_en m'.2.2.2.1 (.ref i :: As) = es)
    (hc : Ew l g d 0 0 m' 0 es [] sh M (ew_q v sh1 M1)) (h1 : v.toList ++ st = st1) (k : Ew l g (d + 1) 0 0 m (pc + 3) ls st1 sh1 M1 Q) : Ew l g (d + 1) 0 0 m pc ls st0 sh M Q := ew_callV (a := 0) (b := 0) (a1 := 0) (b1 := 0) hd ok hs hcl hk hk2 hk3 hn hA hir hst hs0 (he ▸ hc) (fun v' sh' M' q => by
  obtain ⟨rfl, rfl, rfl⟩ := q
  rw [h1]
  exact k)
/-- the same with any end of the callee -/
theorem en_callVq {Q1 : Option Value → List ew_S → ew_M → Prop} {idx i ci : Nat} {fs : List (Option (Option Nat))} {r : vw_C} (hd : decode m.2.2.1 pc = .ok (.invokevirtual idx, 3)) (ok : ew_ok m' n) (hs : sh[i]? = some (.inr (.inr (ci, fs)))) (hcl : ew_cl[ci]? = some r) (hk : Cond.methodLink m.1 idx m'.2.1 ∈ ew_tb) (hk2 : Cond.instanceMethod m'.2.1 ∈ ew_tb) (hk3 : Cond.selects r.1 m'.2.1 m'.2.1 ∈ ew_tb) (hn : As.length = n) (hA : As.length + 1 ≤ m'.2.2.2.1) (hir : As.all ew_ir = true) (hst : (st.map fun v => v.category).sum ≤ 8) (hs0 : st0 = As.reverse ++ .ref i :: st) (he : ew_en m'.2.2.2.1 (.ref i :: As) = es)
    (hc : Ew l g d 0 0 m' 0 es [] sh M Q1) (k : ∀ v sh' M', Q1 v sh' M' → Ew l g (d + 1) 0 0 m (pc + 3) ls (v.toList ++ st) sh' M' Q) : Ew l g (d + 1) 0 0 m pc ls st0 sh M Q := ew_callV (a := 0) (b := 0) (a1 := 0) (b1 := 0) hd ok hs hcl hk hk2 hk3 hn hA hir hst hs0 (he ▸ hc) k
end EWCQ
def ew_sub : List Value → List Value → Prop
  | [], [] => True
  | v :: a, w :: b => (v = w ∨ ew_ir w = false) ∧ ew_sub a b
  | _, _ => False
theorem ew_sub_len : ∀ {a b : List Value}, ew_sub a b → a.length = b.length
  | [], [], _ => rfl
  | _ :: _, _ :: _, h => by
    rw [List.length_cons, List.length_cons, ew_sub_len h.2]
theorem ew_sub_at : ∀ {a b : List Value} {i : Nat} {v : Value}, ew_sub a b → b[i]? = some v → ew_ir v = true → a[i]? = some v
  | [], [], i, v, _, h, _ => by simp at h
  | x :: a, y :: b, 0, v, h, hv, hr => by
    simp at hv
    subst hv
    rcases h.1 with e | e
    · simp [e]
    · rw [hr] at e
      cases e
  | x :: a, y :: b, i + 1, v, h, hv, hr => by
    have h1 : b[i]? = some v := by simpa using hv
    have := ew_sub_at h.2 h1 hr
    simpa using this
theorem en_drop {l : Launch} {g : ew_G} {d a b : Nat} {m : ew_D} {pc : Nat} {ls ls' st : List Value} {sh : List ew_S} {M : ew_M} {Q : Option Value → List ew_S → ew_M → Prop} (h : ew_sub ls ls') (k : Ew l g d a b m pc ls' st sh M Q) : Ew l g d a b m pc ls st sh M Q := by
  intro p e R s mid args below meth c H locs cells slots Z lr X h1 h2 h3 h4 hH hlo hL hr
  exact k p e R s mid args below meth c H locs cells slots Z lr X h1 h2 h3 h4 hH hlo ⟨hL.1, (ew_sub_len h).symm.trans hL.2.1, hL.2.2.1, fun i v hv hi => hL.2.2.2 i v (ew_sub_at h hv hi) hi⟩ hr
