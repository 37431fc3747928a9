theorem ew_ad_lt {g : ew_G} {s : State} {sh : List ew_S} {M : ew_M} {H : Heap} (h : ew_h g s sh M H) (hs : ∀ i : Nat, i < 3 → g.2.1 i < g.1) {i : Nat} (hi : i < sh.length) : ew_ad g i < H.size := by
  have h1 := h.1
  have h2 := h.2.1
  unfold ew_ad
  by_cases e : i < 3
  · rw [if_pos e]
    have := hs i e
    omega
  · rw [if_neg e]
    omega
theorem ew_ad_top {g : ew_G} {s : State} {sh : List ew_S} {M : ew_M} {H : Heap} (h : ew_h g s sh M H) : ew_ad g sh.length = H.size := by
  have h1 := h.1
  have h2 := h.2.1
  unfold ew_ad
  rw [if_neg (by omega)]
  omega
theorem ew_h.push {g : ew_G} {s : State} {sh : List ew_S} {M : ew_M} {H H' : Heap} {c : ew_S} {f : Nat → Int32} (h : ew_h g s sh M H) (hs : ∀ i : Nat, i < 3 → g.2.1 i < g.1) (hz : H'.size = H.size + 1) (ho : ∀ q : Nat, q < H.size → H'[q]? = H[q]?) (hc : ew_at g s H' (ew_up M sh.length f) sh.length c) : ew_h g s (sh ++ [c]) (ew_up M sh.length f) H' := by
  have h1 := h.1
  have h2 := h.2.1
  refine ⟨by rw [List.length_append]; omega, by rw [hz, h2, List.length_append, List.length_singleton]; omega, fun i x hx => ?_, fun q hq => ?_⟩
  · by_cases hl : i < sh.length
    · rw [List.getElem?_append_left hl] at hx
      exact (h.2.2.1 i x hx).kept (ho _ (ew_ad_lt h hs hl)) (ew_up_ne (by omega))
    · rw [List.getElem?_append_right (by omega)] at hx
      have hl2 : i - sh.length < 1 := (List.getElem?_eq_some_iff.mp hx).1
      have e : i = sh.length := by omega
      subst e
      rw [Nat.sub_self] at hx
      cases hx
      exact hc
  · rw [ho q (by omega)]
    exact h.2.2.2 q hq
def ew_z : Nat → Int32 := fun _ => 0
section EWN
variable {l : Launch} {g : ew_G} {d a b : Nat} {m : ew_D} {pc : Nat} {ls st : List Value} {sh : List ew_S} {M : ew_M} {Q : Option Value → List ew_S → ew_M → Prop}
theorem ew_new {ci idx : Nat} {fs : List (Option (Option Nat))} {r : vw_C} {y : Nat → FieldType} (hd : decode m.2.2.1 pc = .ok (.new idx, 3)) (hc : ew_cl[ci]? = some r) (hy : ew_ys[ci]? = some y) (hl : fs.length = r.2.2) (hf : ∀ k, k < r.2.2 → (fs[k]? = some none ∧ defaultValue (y k) = .int 0) ∨ (fs[k]? = some (some none) ∧ defaultValue (y k) = .null)) (hk : Cond.classLink m.1 idx r.1 ∈ ew_tb) (hk2 : Cond.instantiable r.1 r.2.2 ∈ ew_tb) (hk3 : Cond.initialized r.1 ∈ ew_tb) (k : Ew l g d a b m (pc + 3) ls (.ref sh.length :: st) (sh ++ [.inr (.inr (ci, fs))]) (ew_up M sh.length ew_z) Q) : Ew l g d (a + 1) (b + r.2.2) m pc ls st sh M Q := by
  intro p e R s mid args below meth c H locs cells slots Z lr X h1 h2 h3 h4 hH hlo hL hr
  have hs := X.2.2.2.2.2.2.2.2.2.2.2.2.2.2.2
  obtain ⟨hS, hfc, kC, hkC, hkind⟩ := X.2.2.2.2.2.2.2.2.1 ci _ hc
  have htop := ew_ad_top hH
  refine W.newcK X.1 X.2.1 X.2.2.2.2.1 (X.2.2.2.2.2.1 _ hk) (X.2.2.2.2.2.1 _ hk2) (X.2.2.2.2.2.1 _ hk3) rfl hd (by omega) (by omega) hfc htop.symm fun H' kC' e1 e2 e3 e4 => ?_
  cases hkC.symm.trans e1
  obtain ⟨y', hy', hy1, -⟩ := ew_ty ci r hc
  cases hy'.symm.trans hy
  have hH' : ew_h g s (sh ++ [.inr (.inr (ci, fs))]) (ew_up M sh.length ew_z) H' := by
    refine hH.push hs (by rw [e3, htop]) (fun q hq => e4 q (by rw [htop]; exact hq)) ⟨r, hc, hl, t_OB.to (u_born y X.2.2.2.2.2.1 (ew_lay hc) (X.2.2.2.2.2.2.2.2.1 ci _ hc) hkC e2 hy1) (fun j hj => ?_)⟩
    unfold ew_f
    rw [ew_up_self]
    rcases hf j hj with ⟨q1, q2⟩ | ⟨q1, q2⟩
    · rw [q1, q2]
      rfl
    · rw [q1, q2]
      rfl
  have hk9 := k p e R s mid args below meth c H' locs (cells + 1) (slots + r.2.2) Z lr X h1 h2 (by omega) (by omega) hH' hlo hL (fun v sh' M' H2 locs' pc' lr' q w z t => by
    have := hr v sh' M' H2 locs' pc' lr' q w z t
    rw [show cells + (a + 1) = cells + 1 + a by omega, show slots + (b + r.2.2) = slots + r.2.2 + b by omega] at this
    exact this)
  exact hk9
theorem ew_newa {N : Nat} {x : Int32} (hd : decode m.2.2.1 pc = .ok (.newarray .int, 2)) (hx : x = nI N) (hN : N ≤ 1000) (hk : Cond.arrayClass .int ∈ ew_tb) (k : Ew l g d a b m (pc + 2) ls (.ref sh.length :: st) (sh ++ [.inl N]) (ew_up M sh.length ew_z) Q) : Ew l g d (a + 1) (b + N) m pc ls (.int x :: st) sh M Q := by
  intro p e R s mid args below meth c H locs cells slots Z lr X h1 h2 h3 h4 hH hlo hL hr
  have hs := X.2.2.2.2.2.2.2.2.2.2.2.2.2.2.2
  have htop := ew_ad_top hH
  subst hx
  refine W.newaK (N := N) X.1 X.2.1 (atype := .int) (X.2.2.2.2.2.1 _ hk) rfl hd rfl (nI_pos (by omega)) (nI_clamp (by omega)) (by show N * 4 ≤ 536870912; omega) (by omega) (by omega) htop.symm fun H' cA e1 e2 e3 e4 => ?_
  have hH' : ew_h g s (sh ++ [.inl N]) (ew_up M sh.length ew_z) H' := by
    refine hH.push hs (by rw [e2, htop]) (fun q hq => e3 q (by rw [htop]; exact hq)) ⟨_, e1, e4 _ _, (fun q => by cases q), ⟨Nat.le_of_eq (arrV_size _ _ _).symm, by rw [arrV_size]; rfl⟩, fun j hj => ?_⟩
    rw [arrV_read _ _ hj, ew_up_self]
    rfl
  have hk9 := k p e R s mid args below meth c H' locs (cells + 1) (slots + N) Z lr X h1 h2 (by omega) (by omega) hH' hlo hL (fun v sh' M' H2 locs' pc' lr' q w z t => by
    have := hr v sh' M' H2 locs' pc' lr' q w z t
    rw [show cells + (a + 1) = cells + 1 + a by omega, show slots + (b + N) = slots + N + b by omega] at this
    exact this)
  exact hk9
theorem ew_anew {N idx : Nat} {x : Int32} (hd : decode m.2.2.1 pc = .ok (.anewarray idx, 3)) (hx : x = nI N) (hN : N ≤ 1000) (hk : Cond.classLink m.1 idx "TraceProver$Tree" ∈ ew_tb) (k : Ew l g d a b m (pc + 3) ls (.ref sh.length :: st) (sh ++ [.inr (.inl (1, List.replicate N none))]) (ew_up M sh.length ew_z) Q) : Ew l g d (a + 1) (b + N) m pc ls (.int x :: st) sh M Q := by
  intro p e R s mid args below meth c H locs cells slots Z lr X h1 h2 h3 h4 hH hlo hL hr
  have hs := X.2.2.2.2.2.2.2.2.2.2.2.2.2.2.2
  have htop := ew_ad_top hH
  obtain ⟨-, -, -, hAO, ⟨kT, cT, t1, t2, t3, t4⟩, -⟩ := X.2.2.2.2.2.2.2.2
  subst hx
  have hcl : (nI N).toNatClampNeg = N := nI_clamp (by omega)
  refine W.anew X.1 X.2.1 X.2.2.2.2.1 (X.2.2.2.2.2.1 _ hk) (va_AO.use hAO) rfl hd rfl (nI_pos (by omega)) (by rw [hcl]; omega) (by omega) (by rw [hcl]; omega) fun cA kA comp f1 f2 f3 f4 => ?_
  cases t4.symm.trans f1
  rw [hcl, ← htop]
  generalize hH1 : H.push ({ cls := g.2.2.2.1 1, slots := Array.replicate N .null, vm := .none } : Cell) = H1
  have z1 : H1.size = H.size + 1 := by rw [← hH1, Array.size_push]
  have e1 : H1[H.size]? = some (arrV (g.2.2.2.1 1) N (fun _ => .null)) := by rw [← hH1, Array.getElem?_push_size, ← arrV_new]
  have o1 : ∀ q : Nat, q < H.size → H1[q]? = H[q]? := fun q hq => by rw [← hH1, Array.getElem?_push, if_neg (Nat.ne_of_lt hq)]
  have hH' : ew_h g s (sh ++ [.inr (.inl (1, List.replicate N none))]) (ew_up M sh.length ew_z) H1 := by
    refine hH.push hs z1 o1 ?_
    show H1[ew_ad g sh.length]? = some (arrV (g.2.2.2.1 1) (List.replicate N (none : Option Nat)).length (fun j => ew_o g ((List.replicate N none).getD j none)))
    rw [htop, e1, List.length_replicate]
    refine congrArg some (congrArg (arrV _ N) (funext fun j => ?_))
    by_cases hj : j < N
    · simp [List.getD, List.getElem?_replicate, hj, ew_o]
    · simp [List.getD, List.getElem?_replicate, hj, ew_o]
  have hk9 := k p e R s mid args below meth c H1 locs (cells + 1) (slots + N) Z lr X h1 h2 (by omega) (by omega) hH' hlo hL (fun v sh' M' H2 locs' pc' lr' q w z t => by
    have := hr v sh' M' H2 locs' pc' lr' q w z t
    rw [show cells + (a + 1) = cells + 1 + a by omega, show slots + (b + N) = slots + N + b by omega] at this
    exact this)
  exact hk9
theorem ew_aast {i j v : Nat} {rs : List (Option Nat)} {fs : List (Option (Option Nat))} {r : vw_C} {x : Int32} (hd : decode m.2.2.1 pc = .ok (.aastore, 1)) (hs : sh[i]? = some (.inr (.inl (1, rs)))) (hi3 : 3 ≤ i) (hv : sh[v]? = some (.inr (.inr (8, fs)))) (hc : ew_cl[8]? = some r) (hr1 : r.1 = "TraceProver$Tree") (hx : x = nI j) (hj : j < rs.length) (hn : rs.length < 2 ^ 31) (k : Ew l g d a b m (pc + 1) ls st (sh.set i (.inr (.inl (1, rs.set j (some v))))) M Q) : Ew l g d a b m pc ls (.ref v :: .int x :: .ref i :: st) sh M Q := by
  intro p e R s mid args below meth c H locs cells slots Z lr X h1 h2 h3 h4 hH hlo hL hr
  have c1 := hH.2.2.1 i _ hs
  obtain ⟨r', hr', hl, ce, q1, q2, q3, q4⟩ := hH.2.2.1 v _ hv
  cases hr'.symm.trans hc
  subst hx
  have hcl : (nI j).toNatClampNeg = j := nI_clamp (by omega)
  obtain ⟨-, -, -, hAO, ⟨kT, cT, t1, t2, t3, t4⟩, -⟩ := X.2.2.2.2.2.2.2.2
  have hcls := (X.2.2.2.2.2.2.2.2.1 8 r hc).2
  have hcomp : cT = g.2.2.2.2.1 8 := Option.some.inj (t3.symm.trans (hr1 ▸ hcls.1))
  subst hcomp
  obtain ⟨kC, hkC, -⟩ := hcls.2
  refine W.aast X.1 X.2.1 c1 (fun q h => by cases h) (fun h => by cases h) t1 t2 rfl hkC ⟨nI_pos (by omega), by rw [arrV_size, hcl]; exact hj⟩ q1 (fun q h => by rw [q3] at h; cases h) (by rw [q2]; exact hkC) (by rw [q2]; exact va_assign hcls) rfl rfl hd fun H1 e1 e2 e3 => ?_
  rw [hcl] at e1 ⊢
  have hH' : ew_h g s (sh.set i (.inr (.inl (1, rs.set j (some v))))) M H1 := by
    refine hH.set X.2.2.2.2.2.2.2.2.2.2.2.2.2.2.2 hi3 (fun q hq => rfl) e2 e3 ?_
    show H1[ew_ad g i]? = some (arrV (g.2.2.2.1 1) (rs.set j (some v)).length (fun q => ew_o g ((rs.set j (some v)).getD q none)))
    rw [e1, arrV_store, List.length_set]
    refine congrArg some (congrArg (arrV _ _) (funext fun q => ?_))
    unfold updV
    by_cases eq : q = j
    · subst eq
      simp [List.getD, List.getElem?_set_self hj, ew_o]
    · simp [List.getD, List.getElem?_set_ne (fun h => eq h.symm), eq]
  exact k p e R s mid args below meth c H1 _ cells slots Z lr X h1 h2 h3 h4 hH' (fun q hq => (List.mem_append.mp hq).elim (hlo q) (fun h => by rw [List.mem_singleton.mp h]; exact ew_ad_ge hi3)) hL hr
theorem ew_objInit {i idx : Nat} (hd : decode m.2.2.1 pc = .ok (.invokespecial idx, 3)) (hk : Cond.methodLink m.1 idx objectInit ∈ ew_tb) (hk2 : Cond.instanceMethod objectInit ∈ ew_tb) (hk3 : Cond.code objectInit ⟨#[0xb1]⟩ 1 none ∈ ew_tb) (hst : (st.map fun v => v.category).sum ≤ 8) (k : Ew l g (d + 1) a b m (pc + 3) ls st sh M Q) : Ew l g (d + 1) a b m pc ls (.ref i :: st) sh M Q := by
  intro p e R s mid args below meth c H locs cells slots Z lr X h1 h2 h3 h4 hH hlo hL hr
  refine W.objInit X.1 X.2.1 X.2.2.2.2.1 (X.2.2.2.2.2.1 _ hk) (X.2.2.2.2.2.1 _ hk2) (X.2.2.2.2.2.1 _ hk3) rfl (by rw [X.2.2.1]; exact hL.1) rfl hd (by omega) ?_ (k p e R s mid args below meth c H locs cells slots Z lr X h1 h2 h3 h4 hH hlo hL hr)
  have hc : ((st.map (ew_v g)).map fun v => v.category) = st.map fun v => v.category := by
    rw [List.map_map]
    apply List.map_congr_left
    intro v _
    cases v <;> rfl
  show 2 * 0 + ((st.map (ew_v g)).map fun v => v.category).sum + 12 ≤ R.locals
  rw [hc]
  omega
end EWN
