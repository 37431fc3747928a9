def ew_ok (m : ew_D) (n : Nat) : Prop := Cond.code m.2.1 m.2.2.1 m.2.2.2.1 m.2.2.2.2 ∈ ew_tb ∧ Cond.initialized m.2.1.cls ∈ ew_tb ∧ plainName m.2.1.cls = true ∧ (m.2.1.cls ≠ "java/lang/invoke/MethodHandle" ∧ m.2.1.cls ≠ "java/lang/invoke/VarHandle" ∧ (parseMethodDescriptor m.2.1.desc).map (fun d => d.parameters.length) = some n) ∧ m.2.2.2.1 ≤ 9 ∧ m.1 = m.2.1.cls
def ew_en (n : Nat) (As : List Value) : List Value := As ++ List.replicate (n - As.length) (.retAddr 0)
theorem ew_sl {g : ew_G} : ∀ {As : List Value}, As.all ew_ir = true → (lg_sl (As.map (ew_v g))).length = As.length
  | [], _ => rfl
  | v :: vs, h => by
    have h1 : ew_ir v = true ∧ vs.all ew_ir = true := by simpa using h
    have ih := ew_sl (g := g) h1.2
    have hc : (ew_v g v).category = 1 := ew_cat h1.1
    unfold lg_sl at ih ⊢
    simp only [List.map_cons, List.flatMap_cons, hc]
    simp [ih]
theorem ew_la {g : ew_G} : ∀ {As : List Value} (k i : Nat) {v : Value}, As.all ew_ir = true → As[i]? = some v → (k + i, ew_v g v) ∈ lv_args k (As.map (ew_v g))
  | [], k, i, v, _, hv => by simp at hv
  | w :: vs, k, i, v, h, hv => by
    have h1 : ew_ir w = true ∧ vs.all ew_ir = true := by simpa using h
    have hc : (ew_v g w).category = 1 := ew_cat h1.1
    simp only [List.map_cons, lv_args, hc]
    cases i with
    | zero =>
      simp at hv
      subst hv
      exact List.mem_cons_self
    | succ i =>
      have hv' : vs[i]? = some v := by simpa using hv
      have := ew_la (g := g) (k + 1) i h1.2 hv'
      rw [show k + (i + 1) = k + 1 + i by omega]
      exact List.mem_cons_of_mem _ (by simpa using this)
theorem ew_entry {g : ew_G} {As : List Value} {n : Nat} (h : As.all ew_ir = true) (hn : As.length ≤ n) : ew_l g ((lg_sl (As.map (ew_v g)) ++ List.replicate (n - (lg_sl (As.map (ew_v g))).length) Slot.unset).toArray) n (ew_en n As) := by
  have hl := lv_entry (As.map (ew_v g)) (n := n) (by rw [ew_sl h]; exact hn)
  refine ⟨hl.1, by unfold ew_en; rw [List.length_append, List.length_replicate]; omega, hl.2.1, fun i v hv hr => ?_⟩
  unfold ew_en at hv
  by_cases hi : i < As.length
  · rw [List.getElem?_append_left hi] at hv
    have := hl.2.2 (0 + i, ew_v g v) (ew_la (g := g) 0 i h hv)
    simpa using this
  · rw [List.getElem?_append_right (by omega), List.getElem?_replicate] at hv
    split at hv
    · cases hv
      simp [ew_ir] at hr
    · cases hv
def ew_pc (g : ew_G) (As : List Value) (sh : List ew_S) (M : ew_M) : Array Value → State → Prop := fun v U => v = (As.map (ew_v g)).toArray ∧ ew_h g U sh M U.heap ∧ ew_k g U
def ew_qc (g : ew_G) (Q : Option Value → List ew_S → ew_M → Prop) : Array Value → State → Outcome → State → Prop := fun _ _ o t => ∃ (v : Option Value) (sh' : List ew_S) (M' : ew_M), o = .returned (v.map (ew_v g)) ∧ Q v sh' M' ∧ ew_h g t sh' M' t.heap
abbrev ew_rm (d a b : Nat) : Room := { frames := d, cells := a, slots := b, locals := 28 * d }
theorem ew_met {l : Launch} {g : ew_G} {d a b n : Nat} {m : ew_D} {As : List Value} {sh : List ew_S} {M : ew_M} {Q : Option Value → List ew_S → ew_M → Prop} (ok : ew_ok m n) (hA : As.length ≤ m.2.2.2.1) (hir : As.all ew_ir = true) (hc : Ew l g d a b m 0 (ew_en m.2.2.2.1 As) [] sh M Q) :
    Met l m.2.1 (Cond.code m.2.1 m.2.2.1 m.2.2.2.1 m.2.2.2.2 :: ew_tb) (ew_rm d a b) (ew_pc g As sh M) (ew_qc g Q) a b (fun q => g.1 ≤ q) := by
  refine Met.ofW (cc := m.2.2.1) (maxL := m.2.2.2.1) (ret := m.2.2.2.2) ok.2.2.1 rfl ?_
  intro p e s mid args below meth c s₁ B hml hv
  obtain ⟨rfl, hH, hK⟩ := hv
  have hts := atoms_spec (ws := Cond.code m.2.1 m.2.2.1 m.2.2.2.1 m.2.2.2.2 :: ew_tb) B.pre
  have hown : s.vm.findClass m.1 = some mid.cls := by rw [ok.2.2.2.2.2]; exact findClass_of_methodNamed B.named
  have hlocks := B.notSynchronized
  have hret := B.returns
  have hx := B.exec
  have hb := B.bytes
  rw [lg_entry_eq]
  have X : ew_x g m p s mid (As.map (ew_v g)).toArray meth c := ⟨hx, hb, hml, hret, hown, fun w hw => hts w (List.mem_cons_of_mem _ hw), hlocks, (name_of_methodNamed B.named B.method).1, hK⟩
  refine hc p e _ s mid _ below meth c s.heap [] 0 0 _ _ X (Nat.le_refl d) (Nat.le_refl _) (by show 0 + a ≤ a; omega) (by show 0 + b ≤ b; omega) hH (fun q h => by cases h) (ew_entry hir hA) (fun v sh' M' H' locs' pc' lr' q hh hl hrr => ?_)
  rw [Nat.zero_add, Nat.zero_add]
  cases v with
  | none =>
    exact W.vret hx hb (hret.trans hrr.1) (fun t ht hW => ⟨none, sh', M', rfl, q, by rw [ht]; exact hh.moved hW.alike⟩) hl hrr.2
  | some v =>
    cases v with
    | int x =>
      rcases hrr.2 with hm | ⟨hm, hx01⟩
      · exact W.iret hx hb (hret.trans hm) (fun t ht hW => ⟨some (.int x), sh', M', rfl, q, by rw [ht]; exact hh.moved hW.alike⟩) hl hrr.1
      · refine W.zret (ty := .boolean) hx hb (hret.trans hm) ?_ (fun t ht hW => ⟨some (.int x), sh', M', rfl, q, by rw [ht]; exact hh.moved hW.alike⟩) hl hrr.1
        rcases hx01 with rfl | rfl
        · decide
        · decide
    | _ => exact hrr.elim
theorem ew_blind {g : ew_G} {As : List Value} {sh : List ew_S} {M : ew_M} : FrameBlind (ew_pc g As sh M) := fun a U f mk h => ⟨h.1, h.2.1.moved (s := U) (U := U.calling f mk a) (Vm.Alike.refl U.vm), ew_k.moved (s := U) (U := U.calling f mk a) (State.WarmedH.refl U) h.2.2⟩
section EWC
variable {l : Launch} {g : ew_G} {d a b a1 b1 n : Nat} {m m' : ew_D} {pc : Nat} {ls st : List Value} {sh : List ew_S} {M : ew_M} {Q Q1 : Option Value → List ew_S → ew_M → Prop}
/-- what is behind every call -/
theorem ew_cont {p : Program} {e : Env} {R : Room} {s : State} {mid : MethodId} {args : Array Value} {below : List Frame} {meth : Method} {c : Code} {H : Heap} {locs : List Loc} {cells slots : Nat} {Z : State → Prop} {lr : Array Slot} {st0 : List Value} {av : Array Value}
    (hR : va_Run p l e R s mid args below meth c H locs cells slots a1 b1 (F0 mid pc lr st0) (st.map (ew_v g)) (ew_qc g Q1 av) (fun q => g.1 ≤ q))
    (X : ew_x g m p s mid args meth c) (h1 : d ≤ R.frames) (h2 : 28 * d ≤ R.locals) (h3 : cells + (a + a1) ≤ R.cells) (h4 : slots + (b + b1) ≤ R.slots) (hlo : ∀ q ∈ locs, g.1 ≤ q.base) (hL : ew_l g lr m.2.2.2.1 ls)
    (hr : ∀ (v : Option Value) (sh' : List ew_S) (M' : ew_M) (H' : Heap) (locs' : List Loc) (pc' : Nat) (lr' : Array Slot), Q v sh' M' → ew_h g s sh' M' H' → (∀ q ∈ locs', g.1 ≤ q.base) → ew_r m pc' v → W p l e R s mid args below meth c H' locs' (cells + (a + a1)) (slots + (b + b1)) Z (F0 mid pc' lr' (v.toList.map (ew_v g))))
    (k : ∀ v sh' M', Q1 v sh' M' → Ew l g d a b m (pc + 3) ls (v.toList ++ st) sh' M' Q) : W p l e R s mid args below meth c H locs cells slots Z (F0 mid pc lr st0) := by
  intro T hT XS
  obtain ⟨v, st₀, t, T', L, g0, X', hL', e1, e2, ⟨v', sh', M', hv, hq, hh⟩, stp⟩ := hR T hT XS
  cases hv
  have hal : s.vm.Alike t.vm := by rw [← e2]; exact X'.warmed.alike
  have hW := k v' sh' M' hq p e R s mid args below meth c T'.heap (locs ++ L) (cells + a1) (slots + b1) Z lr X h1 h2 (by omega) (by omega) (by rw [e1]; exact hh.moved hal.symm) (fun q hq => (List.mem_append.mp hq).elim (hlo q) (hL' q)) hL (fun v sh' M' H' locs' pc' lr' q w z y => by
    have := hr v sh' M' H' locs' pc' lr' q w z y
    rw [show cells + (a + a1) = cells + a1 + a by omega, show slots + (b + b1) = slots + b1 + b by omega] at this
    exact this)
  obtain ⟨t2, a2, b2⟩ := hW T' rfl X'
  refine ⟨t2, stp t2 ?_, b2⟩
  have hst : (v'.toList ++ st).map (ew_v g) = (v'.map (ew_v g)).toList ++ st.map (ew_v g) := by
    rw [List.map_append]
    cases v' <;> rfl
  rw [hst] at a2
  exact a2
theorem ew_cats {st : List Value} (h : (st.map fun v => v.category).sum ≤ 8) : ((st.map (ew_v g)).map fun v => v.category).sum ≤ 8 := by
  have hc : ((st.map (ew_v g)).map fun v => v.category) = st.map fun v => v.category := by
    rw [List.map_map]
    apply List.map_congr_left
    intro v _
    cases v <;> rfl
  rw [hc]
  exact h
theorem ew_callS {As : List Value} {idx : Nat} (hd : decode m.2.2.1 pc = .ok (.invokestatic idx, 3)) (ok : ew_ok m' n) (hk : Cond.methodLink m.1 idx m'.2.1 ∈ ew_tb) (hk2 : Cond.static m'.2.1 ∈ ew_tb) (hn : As.length = n) (hA : As.length ≤ m'.2.2.2.1) (hir : As.all ew_ir = true) (hst : (st.map fun v => v.category).sum ≤ 8) {st0 : List Value} (hs0 : st0 = As.reverse ++ st)
    (hc : Ew l g d a1 b1 m' 0 (ew_en m'.2.2.2.1 As) [] sh M Q1) (k : ∀ v sh' M', Q1 v sh' M' → Ew l g (d + 1) a b m (pc + 3) ls (v.toList ++ st) sh' M' Q) : Ew l g (d + 1) (a + a1) (b + b1) m pc ls st0 sh M Q := by
  intro p e R s mid args below meth c H locs cells slots Z lr X h1 h2 h3 h4 hH hlo hL hr
  subst hs0
  refine ew_cont (va_runS (As := As.map (ew_v g)) (rest := st.map (ew_v g)) (own := m.1) (Ts := ew_tb) ⟨X.1, X.2.1, X.2.2.1, X.2.2.2.2.1, X.2.2.2.2.2.1⟩ (ew_met ok hA hir hc) ⟨callB_of (ws' := ew_tb) n X.2.2.2.2.2.1 (ew_goodIn ok.1 _ (fun _ h => h)) rfl rfl rfl (X.2.2.2.2.2.1 _ ok.2.1) (X.2.2.2.2.2.1 _ hk) ok.2.2.2.1 ⟨by show d + 1 ≤ R.frames; omega, by show 8 + (m'.2.2.2.1 + 11) + 28 * d ≤ R.locals; have := ok.2.2.2.2.1; omega⟩, X.2.2.2.2.2.1 _ hk2⟩ ⟨ew_blind, fun U hU hW => ⟨rfl, by rw [hU]; exact hH.moved hW.alike, X.2.2.2.2.2.2.2.2.moved hW⟩⟩ rfl (by rw [List.length_map]; exact hn) hL.1 (by rw [List.map_append, List.map_reverse]) (lv_room (ew_cats hst)) hd ⟨by omega, by omega⟩) X h1 h2 h3 h4 hlo hL hr k
theorem ew_callSN {As : List Value} {idx : Nat} {host : String} (hd : decode m.2.2.1 pc = .ok (.invokestatic idx, 3)) (ok : ew_ok m' n) (hk : Cond.methodLinkNest m.1 idx m'.2.1 host ∈ ew_nt) (hk2 : Cond.static m'.2.1 ∈ ew_tb) (hn : As.length = n) (hA : As.length ≤ m'.2.2.2.1) (hir : As.all ew_ir = true) (hst : (st.map fun v => v.category).sum ≤ 8) {st0 : List Value} (hs0 : st0 = As.reverse ++ st)
    (hc : Ew l g d a1 b1 m' 0 (ew_en m'.2.2.2.1 As) [] sh M Q1) (k : ∀ v sh' M', Q1 v sh' M' → Ew l g (d + 1) a b m (pc + 3) ls (v.toList ++ st) sh' M' Q) : Ew l g (d + 1) (a + a1) (b + b1) m pc ls st0 sh M Q := by
  intro p e R s mid args below meth c H locs cells slots Z lr X h1 h2 h3 h4 hH hlo hL hr
  subst hs0
  refine ew_cont (va_runSN (As := As.map (ew_v g)) (rest := st.map (ew_v g)) (own := m.1) (Ts := ew_tb) ⟨X.1, X.2.1, X.2.2.1, X.2.2.2.2.1, X.2.2.2.2.2.1⟩ (ew_met ok hA hir hc) ⟨va_cnB (ws' := ew_tb) n X.2.2.2.2.2.1 (ew_goodIn ok.1 _ (fun _ h => h)) rfl rfl rfl (X.2.2.2.2.2.2.2.2.2.1 _ hk) (X.2.2.2.2.2.1 _ ok.2.1) ok.2.2.2.1 ⟨by show d + 1 ≤ R.frames; omega, by show 8 + (m'.2.2.2.1 + 11) + 28 * d ≤ R.locals; have := ok.2.2.2.2.1; omega⟩, X.2.2.2.2.2.1 _ hk2, trivial⟩ ⟨ew_blind, fun U hU hW => ⟨rfl, by rw [hU]; exact hH.moved hW.alike, X.2.2.2.2.2.2.2.2.moved hW⟩⟩ rfl (by rw [List.length_map]; exact hn) hL.1 (by rw [List.map_append, List.map_reverse]) (lv_room (ew_cats hst)) hd ⟨by omega, by omega⟩) X h1 h2 h3 h4 hlo hL hr k
theorem ew_callI {As : List Value} {idx i : Nat} (hd : decode m.2.2.1 pc = .ok (.invokespecial idx, 3)) (ok : ew_ok m' n) (hk : Cond.methodLink m.1 idx m'.2.1 ∈ ew_tb) (hk2 : Cond.instanceMethod m'.2.1 ∈ ew_tb) (hini : m'.2.1.name = "<init>") (hret : m'.2.2.2.2 = none) (hn : As.length = n) (hA : As.length + 1 ≤ m'.2.2.2.1) (hir : As.all ew_ir = true) (hst : (st.map fun v => v.category).sum ≤ 8) {st0 : List Value} (hs0 : st0 = As.reverse ++ .ref i :: st)
    (hc : Ew l g d a1 b1 m' 0 (ew_en m'.2.2.2.1 (.ref i :: As)) [] sh M Q1) (k : ∀ v sh' M', Q1 v sh' M' → Ew l g (d + 1) a b m (pc + 3) ls (v.toList ++ st) sh' M' Q) : Ew l g (d + 1) (a + a1) (b + b1) m pc ls st0 sh M Q := by
  intro p e R s mid args below meth c H locs cells slots Z lr X h1 h2 h3 h4 hH hlo hL hr
  subst hs0
  have hM := ew_met (As := .ref i :: As) ok hA (by simpa [ew_ir] using hir) hc
  have hok := ok.1
  rw [hret] at hM hok
  refine ew_cont (va_runI (As := As.map (ew_v g)) (b := ew_ad g i) (rest := st.map (ew_v g)) (own := m.1) (Ts := ew_tb) ⟨X.1, X.2.1, X.2.2.1, X.2.2.2.2.1, X.2.2.2.2.2.1⟩ hM ⟨callB_of (ws' := ew_tb) n X.2.2.2.2.2.1 (ew_goodIn hok _ (fun _ h => h)) rfl rfl rfl (X.2.2.2.2.2.1 _ ok.2.1) (X.2.2.2.2.2.1 _ hk) ok.2.2.2.1 ⟨by show d + 1 ≤ R.frames; omega, by show 8 + (m'.2.2.2.1 + 11) + 28 * d ≤ R.locals; have := ok.2.2.2.2.1; omega⟩, hini, X.2.2.2.2.2.1 _ hk2⟩ ⟨ew_blind, fun U hU hW => ⟨rfl, by rw [hU]; exact hH.moved hW.alike, X.2.2.2.2.2.2.2.2.moved hW⟩⟩ rfl (by rw [List.length_map]; exact hn) hL.1 (by rw [List.map_append, List.map_reverse]; rfl) (lv_room (ew_cats hst)) hd ⟨by omega, by omega⟩) X h1 h2 h3 h4 hlo hL hr k
theorem ew_callIN {As : List Value} {idx i : Nat} {host : String} (hd : decode m.2.2.1 pc = .ok (.invokespecial idx, 3)) (ok : ew_ok m' n) (hk : Cond.methodLinkNest m.1 idx m'.2.1 host ∈ ew_nt) (hk2 : Cond.instanceMethod m'.2.1 ∈ ew_tb) (hini : m'.2.1.name = "<init>") (hret : m'.2.2.2.2 = none) (hn : As.length = n) (hA : As.length + 1 ≤ m'.2.2.2.1) (hir : As.all ew_ir = true) (hst : (st.map fun v => v.category).sum ≤ 8) {st0 : List Value} (hs0 : st0 = As.reverse ++ .ref i :: st)
    (hc : Ew l g d a1 b1 m' 0 (ew_en m'.2.2.2.1 (.ref i :: As)) [] sh M Q1) (k : ∀ v sh' M', Q1 v sh' M' → Ew l g (d + 1) a b m (pc + 3) ls (v.toList ++ st) sh' M' Q) : Ew l g (d + 1) (a + a1) (b + b1) m pc ls st0 sh M Q := by
  intro p e R s mid args below meth c H locs cells slots Z lr X h1 h2 h3 h4 hH hlo hL hr
  subst hs0
  have hM := ew_met (As := .ref i :: As) ok hA (by simpa [ew_ir] using hir) hc
  have hok := ok.1
  rw [hret] at hM hok
  refine ew_cont (va_runIN (As := As.map (ew_v g)) (b := ew_ad g i) (rest := st.map (ew_v g)) (own := m.1) (Ts := ew_tb) ⟨X.1, X.2.1, X.2.2.1, X.2.2.2.2.1, X.2.2.2.2.2.1⟩ hM ⟨va_cnB (ws' := ew_tb) n X.2.2.2.2.2.1 (ew_goodIn hok _ (fun _ h => h)) rfl rfl rfl (X.2.2.2.2.2.2.2.2.2.1 _ hk) (X.2.2.2.2.2.1 _ ok.2.1) ok.2.2.2.1 ⟨by show d + 1 ≤ R.frames; omega, by show 8 + (m'.2.2.2.1 + 11) + 28 * d ≤ R.locals; have := ok.2.2.2.2.1; omega⟩, hini, X.2.2.2.2.2.1 _ hk2⟩ ⟨ew_blind, fun U hU hW => ⟨rfl, by rw [hU]; exact hH.moved hW.alike, X.2.2.2.2.2.2.2.2.moved hW⟩⟩ rfl (by rw [List.length_map]; exact hn) hL.1 (by rw [List.map_append, List.map_reverse]; rfl) (lv_room (ew_cats hst)) hd ⟨by omega, by omega⟩) X h1 h2 h3 h4 hlo hL hr k
theorem ew_recv {p : Program} {s : State} {mid : MethodId} {args : Array Value} {meth : Method} {c : Code} {H : Heap} {i ci : Nat} {fs : List (Option (Option Nat))} {r : vw_C} (X : ew_x g m p s mid args meth c) (hH : ew_h g s sh M H) (hs : sh[i]? = some (.inr (.inr (ci, fs)))) (hc : ew_cl[ci]? = some r) : ∃ cellB : Cell, H[ew_ad g i]? = some cellB ∧ cellB.vm.isStatics = false ∧ s.vm.findClass r.1 = some cellB.cls := by
  obtain ⟨r', hr', hl, ce, q1, q2, q3, q4⟩ := hH.2.2.1 i _ hs
  cases hr'.symm.trans hc
  exact ⟨ce, q1, by rw [q3]; rfl, by rw [q2]; exact (X.2.2.2.2.2.2.2.2.1 ci _ hc).2.1⟩
theorem ew_callV {As : List Value} {idx i ci : Nat} {fs : List (Option (Option Nat))} {r : vw_C} (hd : decode m.2.2.1 pc = .ok (.invokevirtual idx, 3)) (ok : ew_ok m' n) (hs : sh[i]? = some (.inr (.inr (ci, fs)))) (hcl : ew_cl[ci]? = some r) (hk : Cond.methodLink m.1 idx m'.2.1 ∈ ew_tb) (hk2 : Cond.instanceMethod m'.2.1 ∈ ew_tb) (hk3 : Cond.selects r.1 m'.2.1 m'.2.1 ∈ ew_tb) (hn : As.length = n) (hA : As.length + 1 ≤ m'.2.2.2.1) (hir : As.all ew_ir = true) (hst : (st.map fun v => v.category).sum ≤ 8) {st0 : List Value} (hs0 : st0 = As.reverse ++ .ref i :: st)
    (hc : Ew l g d a1 b1 m' 0 (ew_en m'.2.2.2.1 (.ref i :: As)) [] sh M Q1) (k : ∀ v sh' M', Q1 v sh' M' → Ew l g (d + 1) a b m (pc + 3) ls (v.toList ++ st) sh' M' Q) : Ew l g (d + 1) (a + a1) (b + b1) m pc ls st0 sh M Q := by
  intro p e R s mid args below meth c H locs cells slots Z lr X h1 h2 h3 h4 hH hlo hL hr
  subst hs0
  refine ew_cont (va_runV (As := As.map (ew_v g)) (b := ew_ad g i) (C := r.1) (rest := st.map (ew_v g)) (own := m.1) (Ts := ew_tb) ⟨X.1, X.2.1, X.2.2.1, X.2.2.2.2.1, X.2.2.2.2.2.1⟩ (ew_met (As := .ref i :: As) ok hA (by simpa [ew_ir] using hir) hc) ⟨callB_of (ws' := ew_tb) n X.2.2.2.2.2.1 (ew_goodIn ok.1 _ (fun _ h => h)) rfl rfl rfl (X.2.2.2.2.2.1 _ ok.2.1) (X.2.2.2.2.2.1 _ hk) ok.2.2.2.1 ⟨by show d + 1 ≤ R.frames; omega, by show 8 + (m'.2.2.2.1 + 11) + 28 * d ≤ R.locals; have := ok.2.2.2.2.1; omega⟩, X.2.2.2.2.2.1 _ hk2, X.2.2.2.2.2.1 _ hk3⟩ ⟨ew_blind, ew_recv X hH hs hcl, fun U hU hW => ⟨rfl, by rw [hU]; exact hH.moved hW.alike, X.2.2.2.2.2.2.2.2.moved hW⟩⟩ rfl (by rw [List.length_map]; exact hn) hL.1 (by rw [List.map_append, List.map_reverse]; rfl) (lv_room (ew_cats hst)) hd ⟨by omega, by omega⟩) X h1 h2 h3 h4 hlo hL hr k
theorem ew_callVN {As : List Value} {idx i ci : Nat} {host : String} {fs : List (Option (Option Nat))} {r : vw_C} (hd : decode m.2.2.1 pc = .ok (.invokevirtual idx, 3)) (ok : ew_ok m' n) (hs : sh[i]? = some (.inr (.inr (ci, fs)))) (hcl : ew_cl[ci]? = some r) (hk : Cond.methodLinkNest m.1 idx m'.2.1 host ∈ ew_nt) (hk2 : Cond.instanceMethod m'.2.1 ∈ ew_tb) (hk3 : Cond.selects r.1 m'.2.1 m'.2.1 ∈ ew_tb) (hn : As.length = n) (hA : As.length + 1 ≤ m'.2.2.2.1) (hir : As.all ew_ir = true) (hst : (st.map fun v => v.category).sum ≤ 8) {st0 : List Value} (hs0 : st0 = As.reverse ++ .ref i :: st)
    (hc : Ew l g d a1 b1 m' 0 (ew_en m'.2.2.2.1 (.ref i :: As)) [] sh M Q1) (k : ∀ v sh' M', Q1 v sh' M' → Ew l g (d + 1) a b m (pc + 3) ls (v.toList ++ st) sh' M' Q) : Ew l g (d + 1) (a + a1) (b + b1) m pc ls st0 sh M Q := by
  intro p e R s mid args below meth c H locs cells slots Z lr X h1 h2 h3 h4 hH hlo hL hr
  subst hs0
  refine ew_cont (va_runVN (As := As.map (ew_v g)) (b := ew_ad g i) (C := r.1) (rest := st.map (ew_v g)) (own := m.1) (Ts := ew_tb) ⟨X.1, X.2.1, X.2.2.1, X.2.2.2.2.1, X.2.2.2.2.2.1⟩ (ew_met (As := .ref i :: As) ok hA (by simpa [ew_ir] using hir) hc) ⟨va_cnB (ws' := ew_tb) n X.2.2.2.2.2.1 (ew_goodIn ok.1 _ (fun _ h => h)) rfl rfl rfl (X.2.2.2.2.2.2.2.2.2.1 _ hk) (X.2.2.2.2.2.1 _ ok.2.1) ok.2.2.2.1 ⟨by show d + 1 ≤ R.frames; omega, by show 8 + (m'.2.2.2.1 + 11) + 28 * d ≤ R.locals; have := ok.2.2.2.2.1; omega⟩, X.2.2.2.2.2.1 _ hk2, X.2.2.2.2.2.1 _ hk3⟩ ⟨ew_blind, ew_recv X hH hs hcl, fun U hU hW => ⟨rfl, by rw [hU]; exact hH.moved hW.alike, X.2.2.2.2.2.2.2.2.moved hW⟩⟩ rfl (by rw [List.length_map]; exact hn) hL.1 (by rw [List.map_append, List.map_reverse]; rfl) (lv_room (ew_cats hst)) hd ⟨by omega, by omega⟩) X h1 h2 h3 h4 hlo hL hr k
end EWC
