/-! THE SMALL MACHINE: shapes of cells, a memory of ints, a judgement over them that stands for the kit's W -/
abbrev ew_S : Type := Nat ⊕ ((Nat × List (Option Nat)) ⊕ (Nat × List (Option (Option Nat))))
abbrev ew_M : Type := Nat → Nat → Int32
abbrev ew_G : Type := Nat × (Nat → Nat) × Heap × (Nat → ClassId) × (Nat → ClassId) × (Nat → Nat → Nat)
abbrev ew_D : Type := String × MethodName × ByteArray × Nat × Option FieldType
def ew_isN : Cond → Bool
  | .fieldLinkNest .. => true
  | .methodLinkNest .. => true
  | _ => false
def ew_tb : List Cond := lw_tbl.filter goodWord
def ew_nt : List Cond := lw_tbl.filter ew_isN
theorem ew_mt {w : Cond} (h : w ∈ lw_tbl) (hg : goodWord w = true) : w ∈ ew_tb := List.mem_filter.mpr ⟨h, hg⟩
theorem ew_mn {w : Cond} (h : w ∈ lw_tbl) (hg : ew_isN w = true) : w ∈ ew_nt := List.mem_filter.mpr ⟨h, hg⟩
theorem ew_gd : ∀ w ∈ ew_tb, (w.onTables && w.keeps) = true ∨ ∃ ty, w = .arrayClass ty := fun w h => good_of_word (List.mem_filter.mp h).2
theorem ew_goodIn {c : Cond} (h : c ∈ ew_tb) (big : List Cond) (hb : ∀ w ∈ ew_tb, w ∈ big) : GoodIn big (c :: ew_tb) := fun w hw => (List.mem_cons.mp hw).elim (fun e => e ▸ ⟨hb _ h, ew_gd _ h⟩) (fun h => ⟨hb _ h, ew_gd _ h⟩)
def ew_ad (g : ew_G) (i : Nat) : Nat := if i < 3 then g.2.1 i else g.1 + (i - 3)
def ew_v (g : ew_G) : Value → Value
  | .ref i => .ref (ew_ad g i)
  | v => v
def ew_o (g : ew_G) : Option Nat → Value
  | none => .null
  | some i => .ref (ew_ad g i)
def ew_f (g : ew_G) (M : ew_M) (i : Nat) (fs : List (Option (Option Nat))) (k : Nat) : Value := match fs[k]? with
  | some none => .int (M i k)
  | some (some r) => ew_o g r
  | none => .null
def ew_at (g : ew_G) (s : State) (H : Heap) (M : ew_M) (i : Nat) : ew_S → Prop
  | .inl n => ∃ cell : Cell, H[ew_ad g i]? = some cell ∧ s.isArrayOf cell .int ∧ cell.vm ≠ .unknown ∧ (n ≤ cell.slots.size ∧ cell.slots.size.toInt32 = nI n) ∧ ∀ j : Nat, j < n → cell.slots[j]? = some (.int (M i j))
  | .inr (.inl (k, rs)) => H[ew_ad g i]? = some (arrV (g.2.2.2.1 k) rs.length (fun j => ew_o g (rs.getD j none)))
  | .inr (.inr (ci, fs)) => ∃ r : vw_C, ew_cl[ci]? = some r ∧ fs.length = r.2.2 ∧ t_OB (ew_ad g i) (g.2.2.2.2.1 ci) r.2.2 (g.2.2.2.2.2 ci) H (ew_f g M i fs)
def ew_h (g : ew_G) (s : State) (sh : List ew_S) (M : ew_M) (H : Heap) : Prop := 3 ≤ sh.length ∧ H.size = g.1 + (sh.length - 3) ∧ (∀ (i : Nat) (c : ew_S), sh[i]? = some c → ew_at g s H M i c) ∧ ∀ q : Nat, q < g.1 → H[q]? = g.2.2.1[q]?
def ew_k (g : ew_G) (s : State) : Prop :=
  (∀ (c : Nat) (q : vw_C), ew_cl[c]? = some q → u_Kn s q.1 q.2.1 q.2.2 (g.2.2.2.2.1 c) (g.2.2.2.2.2 c)) ∧ (∀ w ∈ ew_nt, va_Nw w s) ∧
  (∃ (kA kC : Class) (comp cc : ClassId), s.vm.classes[g.2.2.2.1 0]? = some kA ∧ kA.kind = .array comp (.array .int) ∧ s.vm.findClass ("[" ++ (FieldType.array .int).toString) = some (g.2.2.2.1 0) ∧ s.vm.classes[comp]? = some kC ∧ kC.kind = .array cc .int ∧ s.vm.findClass (FieldType.array .int).toString = some comp) ∧
  va_AO "TraceProver$Tree" s ∧ va_RA s (g.2.2.2.1 1) (.object "TraceProver$Tree") ∧
  va_Z "TraceProver$Proof" "COLUMN_STEPS" "[I" (.ref (g.2.1 1)) (fun q => g.1 ≤ q) s g.2.2.1 ∧ va_Z "TraceProver$Proof" "LAYER_STARTS" "[I" (.ref (g.2.1 2)) (fun q => g.1 ≤ q) s g.2.2.1 ∧
  ∀ i : Nat, i < 3 → g.2.1 i < g.1
theorem ew_k.moved {g : ew_G} {s U : State} (hW : s.WarmedH U.vm) (h : ew_k g s) : ew_k g U := by
  obtain ⟨h1, h2, ⟨kA, kC, comp, cc, a1, a2, a3, a4, a5, a6⟩, h4, h5, h6, h7, h8⟩ := h
  have hvm := hW.alike
  obtain ⟨kA', hkA', heA⟩ := hvm.2.2 _ _ a1
  obtain ⟨kC', hkC', heC⟩ := hvm.2.2 _ _ a4
  refine ⟨fun c q hq => u_Kn_moved hvm (h1 c q hq), fun w hw => ?_, ⟨kA', kC', comp, cc, hkA', by rw [heA]; exact a2, by rw [hvm.findClass]; exact a3, hkC', by rw [heC]; exact a5, by rw [hvm.findClass]; exact a6⟩, va_AO.moved hvm h4, h5.moved hvm, h6.moved hvm, h7.moved hvm, h8⟩
  have hn := (List.mem_filter.mp hw).2
  have hz := h2 w hw
  cases w <;> first | exact va_Nw.warmF hW hz | exact va_Nw.warmM hW hz | (simp [ew_isN] at hn; done)
theorem ew_at.moved {g : ew_G} {s U : State} {H : Heap} {M : ew_M} {i : Nat} {c : ew_S} (hvm : s.vm.Alike U.vm) (h : ew_at g s H M i c) : ew_at g U H M i c := by
  match c, h with
  | .inl n, ⟨ce, h1, h2, h3⟩ => exact ⟨ce, h1, State.isArrayOf_alike hvm h2, h3⟩
  | .inr (.inl _), h => exact h
  | .inr (.inr _), h => exact h
theorem ew_h.moved {g : ew_G} {s U : State} {sh : List ew_S} {M : ew_M} {H : Heap} (hvm : s.vm.Alike U.vm) (h : ew_h g s sh M H) : ew_h g U sh M H := ⟨h.1, h.2.1, fun i c hc => (h.2.2.1 i c hc).moved hvm, h.2.2.2⟩
def ew_x (g : ew_G) (m : ew_D) (p : Program) (s : State) (mid : MethodId) (args : Array Value) (meth : Method) (c : Code) : Prop :=
  p.tables.exec = Jvm.exec ∧ c.code = m.2.2.1 ∧ c.maxLocals = m.2.2.2.1 ∧ meth.sig.returnType = m.2.2.2.2 ∧ s.vm.findClass m.1 = some mid.cls ∧ (∀ w ∈ ew_tb, w.before args s = true) ∧ meth.locks = false ∧ meth.name = m.2.1.name ∧ ew_k g s
def ew_ir : Value → Bool
  | .int _ => true
  | .ref _ => true
  | _ => false
def ew_l (g : ew_G) (lr : Array Slot) (n : Nat) (ls : List Value) : Prop := lr.size = n ∧ ls.length = n ∧ lv_wf lr ∧ ∀ (i : Nat) (v : Value), ls[i]? = some v → ew_ir v = true → lr[i]? = some (.val (ew_v g v))
def ew_r (m : ew_D) (pc : Nat) : Option Value → Prop
  | none => m.2.2.2.2 = none ∧ decode m.2.2.1 pc = .ok (.return_, 1)
  | some (.int x) => decode m.2.2.1 pc = .ok (.ireturn, 1) ∧ (m.2.2.2.2 = some .int ∨ (m.2.2.2.2 = some .boolean ∧ (x = 0 ∨ x = 1)))
  | _ => False
/-- THE JUDGEMENT: from here the method comes to its end, with Q of its answer, the shapes and the memory; d calls deep at most, at most a cells of b slots new -/
def Ew (l : Launch) (g : ew_G) (d a b : Nat) (m : ew_D) (pc : Nat) (ls st : List Value) (sh : List ew_S) (M : ew_M) (Q : Option Value → List ew_S → ew_M → Prop) : Prop :=
  ∀ (p : Program) (e : Env) (R : Room) (s : State) (mid : MethodId) (args : Array Value) (below : List Frame) (meth : Method) (c : Code) (H : Heap) (locs : List Loc) (cells slots : Nat) (Z : State → Prop) (lr : Array Slot),
    ew_x g m p s mid args meth c → d ≤ R.frames → 28 * d ≤ R.locals → cells + a ≤ R.cells → slots + b ≤ R.slots → ew_h g s sh M H → (∀ q ∈ locs, g.1 ≤ q.base) → ew_l g lr m.2.2.2.1 ls →
    (∀ (v : Option Value) (sh' : List ew_S) (M' : ew_M) (H' : Heap) (locs' : List Loc) (pc' : Nat) (lr' : Array Slot), Q v sh' M' → ew_h g s sh' M' H' → (∀ q ∈ locs', g.1 ≤ q.base) → ew_r m pc' v →
      W p l e R s mid args below meth c H' locs' (cells + a) (slots + b) Z (F0 mid pc' lr' (v.toList.map (ew_v g)))) →
    W p l e R s mid args below meth c H locs cells slots Z (F0 mid pc lr (st.map (ew_v g)))
def ew_ls (g : ew_G) (ls : List Value) : List (Nat × Value) := (List.range ls.length).filterMap (fun i => match ls[i]? with
  | some v => if ew_ir v = true then some (i, ew_v g v) else none
  | none => none)
theorem ew_ls_mem {g : ew_G} {ls : List Value} {q : Nat × Value} : q ∈ ew_ls g ls ↔ ∃ v, ls[q.1]? = some v ∧ ew_ir v = true ∧ q.2 = ew_v g v := by
  unfold ew_ls
  rw [List.mem_filterMap]
  constructor
  · rintro ⟨i, hi, h⟩
    cases hv : ls[i]? with
    | none => rw [hv] at h; cases h
    | some v =>
      rw [hv] at h
      dsimp only at h
      by_cases hr : ew_ir v = true
      · rw [if_pos hr] at h
        cases h
        exact ⟨v, hv, hr, rfl⟩
      · rw [if_neg hr] at h
        cases h
  · rintro ⟨v, hv, hr, e⟩
    refine ⟨q.1, List.mem_range.mpr (List.getElem?_eq_some_iff.mp hv).1, ?_⟩
    rw [hv]
    dsimp only
    rw [if_pos hr, ← e]
theorem ew_l.has {g : ew_G} {lr : Array Slot} {n : Nat} {ls : List Value} (h : ew_l g lr n ls) : lv_has lr n (ew_ls g ls) := ⟨h.1, h.2.2.1, fun q hq => by
  obtain ⟨v, h1, h2, h3⟩ := ew_ls_mem.mp hq
  rw [h3]
  exact h.2.2.2 q.1 v h1 h2⟩
theorem ew_cat {g : ew_G} {v : Value} (h : ew_ir v = true) : (ew_v g v).category = 1 := by
  cases v <;> first | rfl | (simp [ew_ir] at h; done)
theorem ew_l.put {g : ew_G} {lr lr' : Array Slot} {n i : Nat} {ls : List Value} {w : Value} (h : ew_l g lr n ls) (h' : lv_has lr' n ((i, ew_v g w) :: (ew_ls g ls).filter (fun q => !(q.1 == i) && !(q.1 + 1 == i && q.2.category == 2)))) : ew_l g lr' n (ls.set i w) := by
  refine ⟨h'.1, by rw [List.length_set]; exact h.2.1, h'.2.1, fun j v hv hr => ?_⟩
  by_cases e : j = i
  · subst e
    have hj : j < ls.length := by
      have := (List.getElem?_eq_some_iff.mp hv).1
      rw [List.length_set] at this
      exact this
    rw [List.getElem?_set_self hj] at hv
    cases hv
    exact h'.2.2 (j, ew_v g w) List.mem_cons_self
  · rw [List.getElem?_set_ne (fun q => e q.symm)] at hv
    refine h'.2.2 (j, ew_v g v) (List.mem_cons_of_mem _ (List.mem_filter.mpr ⟨ew_ls_mem.mpr ⟨v, hv, hr, rfl⟩, ?_⟩))
    have hc : (ew_v g v).category = 1 := ew_cat hr
    simp [e, hc]
theorem ew_l.at {g : ew_G} {lr : Array Slot} {n i : Nat} {ls : List Value} {v : Value} (h : ew_l g lr n ls) (hv : ls[i]? = some v) (hr : ew_ir v = true) : lr[i]? = some (.val (ew_v g v)) := h.2.2.2 i v hv hr
