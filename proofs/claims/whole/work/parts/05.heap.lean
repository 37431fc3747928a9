/-! rows that touch the heap -/
theorem ew_ad_ge {g : ew_G} {i : Nat} (h : 3 ≤ i) : g.1 ≤ ew_ad g i := by
  unfold ew_ad
  rw [if_neg (by omega)]
  omega
theorem ew_ad_inj {g : ew_G} {i j : Nat} (hs : ∀ i : Nat, i < 3 → g.2.1 i < g.1) (hi : 3 ≤ i) (h : ew_ad g i = ew_ad g j) : i = j := by
  unfold ew_ad at h
  rw [if_neg (by omega)] at h
  by_cases hj : j < 3
  · rw [if_pos hj] at h
    have := hs j hj
    omega
  · rw [if_neg hj] at h
    omega
def ew_up (M : ew_M) (i : Nat) (f : Nat → Int32) : ew_M := fun q => if q = i then f else M q
theorem ew_up_self {M : ew_M} {i : Nat} {f : Nat → Int32} : ew_up M i f i = f := if_pos rfl
theorem ew_up_ne {M : ew_M} {i q : Nat} {f : Nat → Int32} (h : q ≠ i) : ew_up M i f q = M q := if_neg h
/-- M with one int written -/
def ew_w (M : ew_M) (i j : Nat) (x : Int32) : ew_M := ew_up M i (upd (M i) j x)
theorem ew_w_ne {M : ew_M} {i j q : Nat} {x : Int32} (h : q ≠ i) : ew_w M i j x q = M q := ew_up_ne h
theorem ew_w_self {M : ew_M} {i j : Nat} {x : Int32} : ew_w M i j x i = upd (M i) j x := ew_up_self
theorem ew_at.kept {g : ew_G} {s : State} {H H' : Heap} {M M' : ew_M} {i : Nat} {c : ew_S} (h : ew_at g s H M i c) (hq : H'[ew_ad g i]? = H[ew_ad g i]?) (hm : M' i = M i) : ew_at g s H' M' i c := by
  match c, h with
  | .inl n, ⟨ce, h1, h2, h3, h4, h5⟩ => exact ⟨ce, hq.trans h1, h2, h3, h4, fun j hj => by rw [hm]; exact h5 j hj⟩
  | .inr (.inl _), h => exact hq.trans h
  | .inr (.inr (ci, fs)), ⟨r, h1, h2, h3⟩ =>
    refine ⟨r, h1, h2, (h3.kept hq).to (fun k _ => ?_)⟩
    unfold ew_f
    rw [hm]
/-- one cell has changed -/
theorem ew_h.set {g : ew_G} {s : State} {sh : List ew_S} {M M' : ew_M} {H H' : Heap} {i : Nat} {c : ew_S} (h : ew_h g s sh M H) (hs : ∀ i : Nat, i < 3 → g.2.1 i < g.1) (hi : 3 ≤ i) (hm : ∀ q, q ≠ i → M' q = M q) (hz : H'.size = H.size) (ho : ∀ q, q ≠ ew_ad g i → H'[q]? = H[q]?) (hc : ew_at g s H' M' i c) : ew_h g s (sh.set i c) M' H' := by
  obtain ⟨a1, a2, a3, a4⟩ := h
  refine ⟨by rw [List.length_set]; exact a1, by rw [List.length_set, hz]; exact a2, fun j x hx => ?_, fun q hq => ?_⟩
  · by_cases e : j = i
    · subst e
      have hl : j < sh.length := by
        have := (List.getElem?_eq_some_iff.mp hx).1
        rw [List.length_set] at this
        exact this
      rw [List.getElem?_set_self hl] at hx
      cases hx
      exact hc
    · rw [List.getElem?_set_ne (fun q => e q.symm)] at hx
      exact (a3 j x hx).kept (ho _ (fun q => e (ew_ad_inj hs hi q.symm).symm)) (hm j e)
  · rw [ho q (fun e => by have := ew_ad_ge (g := g) hi; omega)]
    exact a4 q hq
theorem ew_set_same {sh : List ew_S} {i : Nat} {c : ew_S} (h : sh[i]? = some c) : sh.set i c = sh := by
  apply List.ext_getElem?
  intro j
  by_cases e : j = i
  · subst e
    rw [List.getElem?_set_self (List.getElem?_eq_some_iff.mp h).1, h]
  · rw [List.getElem?_set_ne (fun q => e q.symm)]
section EWH
variable {l : Launch} {g : ew_G} {d a b : Nat} {m : ew_D} {pc : Nat} {ls st : List Value} {sh : List ew_S} {M : ew_M} {Q : Option Value → List ew_S → ew_M → Prop}
theorem ew_inb {j n z : Nat} (hj : j < n) (hn : n < 2 ^ 31) (hz : n ≤ z) : ¬ (nI j < 0 ∨ z ≤ (nI j).toNatClampNeg) := by
  have h := nI_in hj hn
  have hc : (nI j).toNatClampNeg = j := nI_clamp (by omega)
  rintro (q | q)
  · exact h (Or.inl q)
  · rw [hc] at q
    omega
theorem ew_len {i n : Nat} (hd : decode m.2.2.1 pc = .ok (.arraylength, 1)) (hs : sh[i]? = some (.inl n)) (k : Ew l g d a b m (pc + 1) ls (.int (nI n) :: st) sh M Q) : Ew l g d a b m pc ls (.ref i :: st) sh M Q := by
  intro p e R s mid args below meth c H locs cells slots Z lr X h1 h2 h3 h4 hH hlo hL hr
  obtain ⟨ce, c1, c2, c3, c4, c5⟩ := hH.2.2.1 i _ hs
  exact W.alen X.1 X.2.1 c1 c2 (n := nI n) c4.2 rfl rfl hd (k p e R s mid args below meth c H locs cells slots Z lr X h1 h2 h3 h4 hH hlo hL hr)
/-- an int of an array; its place as a Nat -/
theorem ew_iald {i n j : Nat} {x : Int32} (hd : decode m.2.2.1 pc = .ok (.iaload, 1)) (hs : sh[i]? = some (.inl n)) (hx : x = nI j) (hj : j < n) (hn : n < 2 ^ 31) (k : Ew l g d a b m (pc + 1) ls (.int (M i j) :: st) sh M Q) : Ew l g d a b m pc ls (.int x :: .ref i :: st) sh M Q := by
  intro p e R s mid args below meth c H locs cells slots Z lr X h1 h2 h3 h4 hH hlo hL hr
  obtain ⟨ce, c1, c2, c3, c4, c5⟩ := hH.2.2.1 i _ hs
  subst hx
  have hc : (nI j).toNatClampNeg = j := nI_clamp (by omega)
  refine W.iald (v := .int (M i j)) X.1 X.2.1 c1 c2 c3 ?_ (by rw [hc]; exact c5 j hj) rfl rfl hd (k p e R s mid args below meth c H locs cells slots Z lr X h1 h2 h3 h4 hH hlo hL hr)
  exact ew_inb hj hn c4.1
theorem ew_iast {i n j : Nat} {x y : Int32} (hd : decode m.2.2.1 pc = .ok (.iastore, 1)) (hs : sh[i]? = some (.inl n)) (hi : 3 ≤ i) (hx : x = nI j) (hj : j < n) (hn : n < 2 ^ 31) (k : Ew l g d a b m (pc + 1) ls st sh (ew_w M i j y) Q) : Ew l g d a b m pc ls (.int y :: .int x :: .ref i :: st) sh M Q := by
  intro p e R s mid args below meth c H locs cells slots Z lr X h1 h2 h3 h4 hH hlo hL hr
  obtain ⟨ce, c1, c2, c3, c4, c5⟩ := hH.2.2.1 i _ hs
  subst hx
  have hc : (nI j).toNatClampNeg = j := nI_clamp (by omega)
  refine W.iast X.1 X.2.1 c1 c2 c3 (ew_inb hj hn c4.1) rfl rfl hd fun H' e1 e2 e3 => ?_
  rw [hc] at e1 ⊢
  have hH' : ew_h g s (sh.set i (.inl n)) (ew_w M i j y) H' := by
    refine hH.set X.2.2.2.2.2.2.2.2.2.2.2.2.2.2.2 hi (fun q hq => ew_w_ne hq) e2 e3 ⟨_, e1, c2, c3, by rw [k2_slotsz]; exact c4, fun q hq => ?_⟩
    rw [ew_w_self]
    show (ce.slots.setIfInBounds j (.int y))[q]? = _
    rw [Array.getElem?_setIfInBounds]
    by_cases e : j = q
    · subst e
      rw [if_pos rfl, if_pos (Nat.lt_of_lt_of_le hj c4.1)]
      simp [upd]
    · rw [if_neg e, c5 q hq]
      simp [upd, Ne.symm e]
  rw [ew_set_same hs] at hH'
  exact k p e R s mid args below meth c H' _ cells slots Z lr X h1 h2 h3 h4 hH' (fun q hq => (List.mem_append.mp hq).elim (hlo q) (fun h => by rw [List.mem_singleton.mp h]; exact ew_ad_ge hi)) hL hr
/-- a row of an array of arrays, an object of an array of objects -/
theorem ew_aald {i j kd r : Nat} {rs : List (Option Nat)} {x : Int32} (hd : decode m.2.2.1 pc = .ok (.aaload, 1)) (hs : sh[i]? = some (.inr (.inl (kd, rs)))) (hkd : kd = 0 ∨ kd = 1) (hx : x = nI j) (hj : rs[j]? = some (some r)) (hn : rs.length < 2 ^ 31) (k : Ew l g d a b m (pc + 1) ls (.ref r :: st) sh M Q) : Ew l g d a b m pc ls (.int x :: .ref i :: st) sh M Q := by
  intro p e R s mid args below meth c H locs cells slots Z lr X h1 h2 h3 h4 hH hlo hL hr
  have c1 := hH.2.2.1 i _ hs
  subst hx
  have hlt : j < rs.length := (List.getElem?_eq_some_iff.mp hj).1
  have hc : (nI j).toNatClampNeg = j := nI_clamp (by omega)
  obtain ⟨-, -, ⟨kA, kC, comp, cc, b1, b2, b3, b4, b5, b6⟩, -, hT, -⟩ := X.2.2.2.2.2.2.2.2
  obtain ⟨ty, hty, hof⟩ : ∃ ty : FieldType, ty.isReference = true ∧ s.isArrayOf (arrV (g.2.2.2.1 kd) rs.length (fun j => ew_o g (rs.getD j none))) ty := by
    rcases hkd with rfl | rfl
    · exact ⟨.array .int, rfl, (fun q h => by cases h), kA, b1, comp, b2⟩
    · obtain ⟨kT, cT, t1, t2, -⟩ := hT
      exact ⟨.object "TraceProver$Tree", rfl, (fun q h => by cases h), kT, t1, cT, t2⟩
  refine W.aald (v := ew_v g (.ref r)) X.1 X.2.1 c1 hof hty (fun q => by cases q) ?_ ?_ rfl rfl hd (k p e R s mid args below meth c H locs cells slots Z lr X h1 h2 h3 h4 hH hlo hL hr)
  · rw [arrV_size]
    exact nI_in hlt hn
  · rw [hc, arrV_read _ _ hlt]
    simp [List.getD, hj, ew_o, ew_v]
/-- an int field -/
theorem ew_geti {i ci f idx : Nat} {fs : List (Option (Option Nat))} {r : vw_C} (hd : decode m.2.2.1 pc = .ok (.getfield idx, 3)) (hs : sh[i]? = some (.inr (.inr (ci, fs)))) (hc : ew_cl[ci]? = some r) (hf : fs[f]? = some none) (hk : Cond.fieldLink m.1 idx (r.2.1 f).1 (r.2.1 f).2.1 (r.2.1 f).2.2.1 ∈ ew_tb) (k : Ew l g d a b m (pc + 3) ls (.int (M i f) :: st) sh M Q) : Ew l g d a b m pc ls (.ref i :: st) sh M Q := by
  intro p e R s mid args below meth c H locs cells slots Z lr X h1 h2 h3 h4 hH hlo hL hr
  obtain ⟨r', hr', hl, ce, q1, q2, q3, q4⟩ := hH.2.2.1 i _ hs
  cases hr'.symm.trans hc
  have hlt : f < r.2.2 := by rw [← hl]; exact (List.getElem?_eq_some_iff.mp hf).1
  obtain ⟨hS, hfc, kC, hkC, hkind⟩ := X.2.2.2.2.2.2.2.2.1 ci _ hc
  obtain ⟨cf, kf, fi, fd, hi, hsl⟩ := hS f hlt
  refine W.getf X.1 X.2.1 X.2.2.2.2.1 (X.2.2.2.2.2.1 _ hk) hi (u_facts hfc hkC (u_lays (X.2.2.2.2.2.1) (fun w hw => ew_mt (ew_in ci _ hc w hw) (by obtain ⟨q, -, rfl⟩ := List.mem_map.mp hw; unfold u_lay; split <;> rfl)) hlt) hi).1 q1 (by rw [q3]; exact fun h => by cases h) (v := .int (M i f)) ?_ rfl rfl hd (k p e R s mid args below meth c H locs cells slots Z lr X h1 h2 h3 h4 hH hlo hL hr)
  rw [hsl, q4 f hlt]
  simp [ew_f, hf]
end EWH
