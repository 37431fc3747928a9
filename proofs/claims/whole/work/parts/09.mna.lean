/-! new int[N][K] -/
def mn_oc (c : ClassId) (N h i : Nat) : Cell := arrV c N (fun j => if j < i then .ref (h + 1 + j) else .null)
def mn_ic (c : ClassId) (K : Nat) : Cell := arrV c K (fun _ => .int 0)
def mn_st (s : State) (c comp : ClassId) (N K : Nat) : Nat → State
  | 0 => s.pushCell (mn_oc c N s.heap.size 0)
  | i + 1 => ((mn_st s c comp N K i).pushCell (mn_ic comp K)).setCell s.heap.size (mn_oc c N s.heap.size (i + 1))
theorem mn_oc_set (c : ClassId) (N h i : Nat) : (mn_oc c N h i).setSlot i (.ref (h + 1 + i)) = mn_oc c N h (i + 1) := by
  unfold mn_oc
  rw [arrV_store]
  refine congrArg (arrV c N) (funext fun j => ?_)
  unfold updV
  by_cases e : j = i
  · subst e
    rw [if_pos rfl, if_pos (by omega)]
  · rw [if_neg e]
    dsimp only
    by_cases hj : j < i
    · rw [if_pos hj, if_pos (by omega)]
    · rw [if_neg hj, if_neg (by omega)]
theorem mn_facts (s : State) (c comp : ClassId) (N K : Nat) : ∀ i : Nat, (mn_st s c comp N K i).heap.size = s.heap.size + 1 + i ∧ (mn_st s c comp N K i).heap[s.heap.size]? = some (mn_oc c N s.heap.size i) ∧ (mn_st s c comp N K i).vm = s.vm ∧ (mn_st s c comp N K i).slotsUsed = s.slotsUsed + N + i * K ∧ (∀ q : Nat, q < s.heap.size → (mn_st s c comp N K i).heap[q]? = s.heap[q]?) ∧ ∀ j : Nat, j < i → (mn_st s c comp N K i).heap[s.heap.size + 1 + j]? = some (mn_ic comp K)
  | 0 => by
    refine ⟨by simp [mn_st], by simp [mn_st], rfl, ?_, fun q hq => State.heap_pushCell_of_lt _ _ hq, fun j h => absurd h (Nat.not_lt_zero _)⟩
    have h : (mn_oc c N s.heap.size 0).slots.size = N := arrV_size _ _ _
    simp [mn_st, h]
  | i + 1 => by
    obtain ⟨h1, h2, h3, h4, h5, h6⟩ := mn_facts s c comp N K i
    have hK : (mn_ic comp K).slots.size = K := arrV_size _ _ _
    have hlt : s.heap.size < (mn_st s c comp N K i).heap.size := by omega
    have hb : ((mn_st s c comp N K i).pushCell (mn_ic comp K)).heap[s.heap.size]? = some (mn_oc c N s.heap.size i) := by
      rw [State.heap_pushCell_of_lt (h := hlt)]
      exact h2
    refine ⟨?_, State.heap_setCell_self hb, by simp [mn_st, h3], ?_, fun q hq => ?_, fun j hj => ?_⟩
    · simp [mn_st, State.setCell, h1]
      omega
    · simp [mn_st, h4, hK, Nat.succ_mul]
      omega
    · show (((mn_st s c comp N K i).pushCell (mn_ic comp K)).setCell s.heap.size _).heap[q]? = _
      have hq2 : q < (mn_st s c comp N K i).heap.size := by omega
      rw [State.heap_setCell_other (Nat.ne_of_gt hq), State.heap_pushCell_of_lt (h := hq2)]
      exact h5 q hq
    · show (((mn_st s c comp N K i).pushCell (mn_ic comp K)).setCell s.heap.size _).heap[s.heap.size + 1 + j]? = _
      rw [State.heap_setCell_other (show s.heap.size ≠ s.heap.size + 1 + j by omega)]
      rcases Nat.lt_or_ge j i with hj' | hj'
      · have hq2 : s.heap.size + 1 + j < (mn_st s c comp N K i).heap.size := by omega
        rw [State.heap_pushCell_of_lt (h := hq2)]
        exact h6 j hj'
      · have e : j = i := by omega
        subst e
        rw [← h1]
        exact State.heap_pushCell_size _ _
theorem mn_top (s : State) (f : JFrame) (c comp : ClassId) (N K : Nat) : ∀ i : Nat, mn_st (s.setTop f) c comp N K i = (mn_st s c comp N K i).setTop f
  | 0 => rfl
  | i + 1 => by simp only [mn_st, mn_top s f c comp N K i, State.heap_setTop, State.pushCell_setTop, State.setCell_setTop]
theorem mn_stand {p : Program} {l : Launch} {e : Env} {R : Room} {s : State} {m : MethodId} {args : Array Value} {below : List Frame} {meth : Method} {c : Code} {T : State} {locs : List Loc} {cells slots : Nat} (X : Stand p l e R s m args below meth c T locs cells slots) (cA comp : ClassId) (N K : Nat) :
    ∀ i : Nat, Stand p l e R s m args below meth c (mn_st T cA comp N K i) (locs ++ (List.range i).map fun j => ⟨T.heap.size, j⟩) (cells + 1 + i) (slots + N + i * K)
  | 0 => by
    have h := X.pushed (mn_oc cA N T.heap.size 0)
    rw [show (mn_oc cA N T.heap.size 0).slots.size = N from arrV_size _ _ _] at h
    simpa [mn_st] using h
  | i + 1 => by
    have Xi := mn_stand X cA comp N K i
    obtain ⟨h1, h2, h3, h4, h5, h6⟩ := mn_facts T cA comp N K i
    have hlt : T.heap.size < (mn_st T cA comp N K i).heap.size := by omega
    have hb : ((mn_st T cA comp N K i).pushCell (mn_ic comp K)).heap[T.heap.size]? = some (mn_oc cA N T.heap.size i) := by
      rw [State.heap_pushCell_of_lt (h := hlt)]
      exact h2
    have h := (Xi.pushed (mn_ic comp K)).stored hb i (.ref (T.heap.size + 1 + i))
    rw [show (mn_ic comp K).slots.size = K from arrV_size _ _ _, mn_oc_set] at h
    have e2 : (locs ++ (List.range (i + 1)).map fun j => (⟨T.heap.size, j⟩ : Loc)) = (locs ++ (List.range i).map fun j => (⟨T.heap.size, j⟩ : Loc)) ++ [⟨T.heap.size, i⟩] := by simp [List.range_succ, List.append_assoc]
    have e3 : slots + N + (i + 1) * K = slots + N + i * K + K := by rw [Nat.succ_mul]; omega
    rw [e2, e3]
    exact h
section MNW
variable {E : CtlPost} {e : Env} {d : Bool} {acts : List Action} {s : State}
theorem mn_wp1 {comp cc : ClassId} {kc : Class} {k : Int32} {K : Nat} (hkc : s.vm.classes[comp]? = some kc) (hkindc : kc.kind = .array cc .int) (hk : ¬ k < 0) (hK : k.toNatClampNeg = K)
    (hl2 : ¬ K > e.platform.arrayLengthLimit) (hh2 : ¬ K * 4 > e.platform.maxHeapBytes) (h1 : s.heap.size < e.platform.maxCells) (h2 : s.slotsUsed + K ≤ e.platform.maxSlots)
    {Q : Addr → Pre} (hq : ∀ acts', Q s.heap.size d acts' (s.pushCell (mn_ic comp K))) : wp (multianewarray.make comp [k]) Q E e d acts s := by
  subst hK
  rw [multianewarray.make]
  simp only [wp_bind', W.ite, hk, if_false, wp_pure', W.theClass, hkc, hkindc, Option.some.injEq, exists_eq_left']
  refine W.newArray_of hkc hkindc hl2 hh2 h1 h2 rfl (fun acts' => ?_)
  have := hq acts'
  unfold mn_ic at this
  rw [← arrV_new] at this
  exact this
theorem mn_wp2 {c comp cc : ClassId} {kA kc : Class} {n k : Int32} {N K : Nat} (hkA : s.vm.classes[c]? = some kA) (hkind : kA.kind = .array comp (.array .int))
    (hkc : s.vm.classes[comp]? = some kc) (hkindc : kc.kind = .array cc .int) (hn : ¬ n < 0) (hk : ¬ k < 0) (hN : n.toNatClampNeg = N) (hK : k.toNatClampNeg = K)
    (hl1 : ¬ N > e.platform.arrayLengthLimit) (hh1 : ¬ N * 4 > e.platform.maxHeapBytes) (hl2 : ¬ K > e.platform.arrayLengthLimit) (hh2 : ¬ K * 4 > e.platform.maxHeapBytes)
    (hc : s.heap.size + 1 + N ≤ e.platform.maxCells) (hs : s.slotsUsed + N + N * K ≤ e.platform.maxSlots)
    {Q : Addr → Pre} (hq : ∀ d' acts', Q s.heap.size d' acts' (mn_st s c comp N K N)) : wp (multianewarray.make c [n, k]) Q E e d acts s := by
  subst hN
  have hfind : ([k].find? (· < 0)) = none := by simp [hk]
  rw [multianewarray.make]
  simp only [wp_bind', W.ite, hn, if_false, wp_pure', W.theClass, hkA, hkind, Option.some.injEq, exists_eq_left']
  refine W.newArray_of hkA hkind hl1 hh1 (by omega) (by have := Nat.zero_le (n.toNatClampNeg * K); omega) rfl (fun acts' => ?_)
  simp only [hfind]
  rw [ite_self, wp_bind', Std.Legacy.Range.forIn_eq_forIn_range']
  have hsz : ([:n.toNatClampNeg] : Std.Legacy.Range).size = n.toNatClampNeg := by simp [Std.Legacy.Range.size]
  rw [hsz]
  show wp (forIn (List.range' 0 n.toNatClampNeg 1) PUnit.unit _) _ E e d acts' _
  have h00 : s.pushCell { cls := c, slots := Array.replicate n.toNatClampNeg .null } = mn_st s c comp n.toNatClampNeg K 0 := by
    show _ = s.pushCell (mn_oc c n.toNatClampNeg s.heap.size 0)
    refine congrArg s.pushCell ?_
    rw [arrV_new]
    rfl
  rw [h00]
  refine wp_forIn_inv (fun rest s' => ∃ i : Nat, i ≤ n.toNatClampNeg ∧ rest = List.range' i (n.toNatClampNeg - i) ∧ s' = mn_st s c comp n.toNatClampNeg K i) _ _ ⟨0, Nat.zero_le _, rfl, rfl⟩ ?_ ?_
  · rintro x rest s' d' acts2 Q' ⟨i, hi, hl, rfl⟩ hnext
    have hlt : i < n.toNatClampNeg := by
      rcases Nat.lt_or_ge i n.toNatClampNeg with h | h
      · exact h
      · rw [show n.toNatClampNeg - i = 0 from by omega] at hl
        simp at hl
    rw [show n.toNatClampNeg - i = (n.toNatClampNeg - (i + 1)) + 1 from by omega, List.range'_succ] at hl
    obtain ⟨rfl, hrest⟩ : x = i ∧ rest = List.range' (i + 1) (n.toNatClampNeg - (i + 1)) := ⟨(List.cons.inj hl).1, (List.cons.inj hl).2⟩
    obtain ⟨f1, f2, f3, f4, -, -⟩ := mn_facts s c comp n.toNatClampNeg K x
    have hmul : x * K + K ≤ n.toNatClampNeg * K := by
      have := Nat.mul_le_mul_right K (show x + 1 ≤ n.toNatClampNeg from hlt)
      rw [Nat.succ_mul] at this
      exact this
    simp only [wp_bind']
    refine mn_wp1 (by rw [f3]; exact hkc) hkindc hk hK hl2 hh2 (by rw [f1]; omega) (by rw [f4]; omega) (fun acts3 => ?_)
    have hlt0 : s.heap.size < (mn_st s c comp n.toNatClampNeg K x).heap.size := by omega
    simp only [wp_bind', W.writeLoc, wp_pure']
    refine ⟨mn_oc c n.toNatClampNeg s.heap.size x, by rw [State.heap_pushCell_of_lt (h := hlt0)]; exact f2, (fun h => by cases h), by show x < (arrV _ _ _).slots.size; rw [arrV_size]; exact hlt, ?_, hnext _ _ _ ⟨x + 1, hlt, hrest, ?_⟩⟩
    · show State.fitsSlot _ c .none x _ = true
      simp [State.fitsSlot, State.slotType?, f3, hkA, hkind, fits]
    · rw [f1, mn_oc_set]
      rfl
  · rintro s' d' acts2 ⟨i, hi, hl, rfl⟩
    have hiN : i = n.toNatClampNeg := by
      rcases Nat.lt_or_ge i n.toNatClampNeg with h | h
      · rw [show n.toNatClampNeg - i = (n.toNatClampNeg - (i + 1)) + 1 from by omega, List.range'_succ] at hl
        cases hl
      · omega
    subst hiN
    simp only [wp_pure']
    exact hq _ _
end MNW

theorem ew_mna {l : Launch} {g : ew_G} {d a b : Nat} {m : ew_D} {pc : Nat} {ls st : List Value} {sh : List ew_S} {M : ew_M} {Q : Option Value → List ew_S → ew_M → Prop} {N K idx : Nat} {x y : Int32} (hd : decode m.2.2.1 pc = .ok (.multianewarray idx 2, 4)) (hx : x = nI N) (hy : y = nI K) (hN : N ≤ 1000) (hK : K ≤ 1000) (hk : Cond.classLink m.1 idx ("[" ++ (FieldType.array .int).toString) ∈ ew_tb)
    (k : Ew l g d a b m (pc + 4) ls (.ref sh.length :: st) (sh ++ (.inr (.inl (0, (List.range N).map fun j => some (sh.length + 1 + j))) :: List.replicate N (.inl K))) (fun q => if sh.length ≤ q then ew_z else M q) Q) : Ew l g d (a + (1 + N)) (b + (N + N * K)) m pc ls (.int y :: .int x :: st) sh M Q := by
  intro p e R s mid args below meth c H locs cells slots Z lr X h1 h2 h3 h4 hH hlo hL hr
  have hs := X.2.2.2.2.2.2.2.2.2.2.2.2.2.2.2
  have htop := ew_ad_top hH
  obtain ⟨-, -, ⟨kA, kC, comp, cc, b1, b2, b3, b4, b5, b6⟩, -⟩ := X.2.2.2.2.2.2.2.2
  subst hx
  subst hy
  have hcN : (nI N).toNatClampNeg = N := nI_clamp (by omega)
  have hcK : (nI K).toNatClampNeg = K := nI_clamp (by omega)
  intro T hT XS
  have hpl : e.platform.magicAccessors = ({} : Platform).magicAccessors := by rw [XS.admits.platform]
  obtain ⟨c0, hfc0, hcl⟩ := Cond.classLink_spec X.2.2.2.2.1 (X.2.2.2.2.2.1 _ hk) e.platform hpl
  cases b3.symm.trans hfc0
  obtain ⟨hg₁, hwarm₁, hready₁⟩ := State.classEntry (e := e) XS.warmed hcl
  generalize T.vm.noted mid.cls idx (.cls (g.2.2.2.1 0)) = vm₁ at hg₁ hwarm₁ hready₁
  have hal : s.vm.Alike vm₁ := hwarm₁.alike
  obtain ⟨kA₁, hkA₁, heA⟩ := hal.2.2 _ _ b1
  obtain ⟨kC₁, hkC₁, heC⟩ := hal.2.2 _ _ b4
  have hkindA₁ : kA₁.kind = .array comp (.array .int) := by rw [heA]; exact b2
  have hkindC₁ : kC₁.kind = .array cc .int := by rw [heC]; exact b5
  have X₁ := XS.noted hwarm₁
  obtain ⟨hr1, hr2⟩ := XS.roomAbove (a := 1 + N) (b := N + N * K) (by omega) (by omega)
  have XF := mn_stand X₁ (g.2.2.2.1 0) comp N K N
  have XF2 : Stand p l e R s mid args below meth c (mn_st (T.setVm vm₁) (g.2.2.2.1 0) comp N K N) (locs ++ (List.range N).map fun j => ⟨T.heap.size, j⟩) (cells + 1 + N) (slots + N + N * K) := XF
  obtain ⟨f1, f2, f3, f4, f5, f6⟩ := mn_facts (T.setVm vm₁) (g.2.2.2.1 0) comp N K N
  have hTh : (T.setVm vm₁).heap = H := hT
  rw [hTh] at f1 f2 f5 f6
  generalize hF : mn_st (T.setVm vm₁) (g.2.2.2.1 0) comp N K N = F at XF2 f1 f2 f3 f4 f5 f6
  have l1 := hH.1
  have l2 := hH.2.1
  have hAr : ∀ (n : Nat) (z : Nat → Value), s.isArrayOf (arrV comp n z) .int := fun n z => ⟨(fun q h => by cases h), kC, b4, cc, b5⟩
  have hH' : ew_h g s (sh ++ (.inr (.inl (0, (List.range N).map fun j => some (sh.length + 1 + j))) :: List.replicate N (.inl K))) (fun q => if sh.length ≤ q then ew_z else M q) F.heap := by
    refine ⟨by rw [List.length_append]; omega, by rw [f1, l2, List.length_append, List.length_cons, List.length_replicate]; omega, fun i x hx => ?_, fun q hq => ?_⟩
    · by_cases hl : i < sh.length
      · rw [List.getElem?_append_left hl] at hx
        exact (hH.2.2.1 i x hx).kept (f5 _ (ew_ad_lt hH hs hl)) (if_neg (by omega))
      · rw [List.getElem?_append_right (by omega)] at hx
        by_cases e0 : i = sh.length
        · subst e0
          rw [Nat.sub_self] at hx
          cases hx
          show F.heap[ew_ad g sh.length]? = _
          rw [htop, f2]
          unfold mn_oc
          rw [List.length_map, List.length_range]
          refine congrArg some (congrArg (arrV _ N) (funext fun j => ?_))
          by_cases hj : j < N
          · rw [if_pos hj]
            have hg : ((List.range N).map fun j => some (sh.length + 1 + j)).getD j none = some (sh.length + 1 + j) := by
              simp [List.getD, List.getElem?_map, List.getElem?_range hj]
            rw [hg]
            have ha : ew_ad g (sh.length + 1 + j) = H.size + 1 + j := by
              unfold ew_ad
              rw [if_neg (by omega)]
              omega
            show Value.ref (H.size + 1 + j) = Value.ref (ew_ad g (sh.length + 1 + j))
            rw [ha]
          · rw [if_neg hj]
            simp [List.getD, List.getElem?_map, List.getElem?_eq_none (show (List.range N).length ≤ j by rw [List.length_range]; omega), ew_o]
        · obtain ⟨t, ht⟩ : ∃ t, i - sh.length = t + 1 := ⟨i - sh.length - 1, by omega⟩
          rw [ht, List.getElem?_cons_succ, List.getElem?_replicate] at hx
          by_cases htN : t < N
          · rw [if_pos htN] at hx
            cases hx
            have had : ew_ad g i = H.size + 1 + t := by
              unfold ew_ad
              rw [if_neg (by omega)]
              omega
            refine ⟨mn_ic comp K, by rw [had]; exact f6 t htN, hAr _ _, (fun q => by cases q), ⟨Nat.le_of_eq (arrV_size _ _ _).symm, by unfold mn_ic; rw [arrV_size]; rfl⟩, fun j hj => ?_⟩
            unfold mn_ic
            have hz : (fun q => if sh.length ≤ q then ew_z else M q) i = ew_z := if_pos (by omega)
            rw [arrV_read _ _ hj, hz]
            rfl
          · rw [if_neg htN] at hx
            cases hx
    · rw [f5 q (by omega)]
      exact hH.2.2.2 q hq
  have hW := k p e R s mid args below meth c F.heap (locs ++ (List.range N).map fun j => ⟨T.heap.size, j⟩) (cells + 1 + N) (slots + N + N * K) Z lr X h1 h2 (by omega) (by omega) hH' (fun q hq => (List.mem_append.mp hq).elim (hlo q) (fun h => by
    obtain ⟨j, -, rfl⟩ := List.mem_map.mp h
    show g.1 ≤ T.heap.size
    rw [hT]
    omega)) hL (fun v sh' M' H2 locs' pc' lr' q w z t => by
    have := hr v sh' M' H2 locs' pc' lr' q w z t
    rw [show cells + (a + (1 + N)) = cells + 1 + N + a by omega, show slots + (b + (N + N * K)) = slots + N + N * K + b by omega] at this
    exact this)
  obtain ⟨t2, a2, b2'⟩ := hW F rfl XF2
  refine ⟨t2, ?_, b2'⟩
  have hl1 : ¬ N > e.platform.arrayLengthLimit := by rw [Launch.admits_arrayLengthLimit XS.admits]; omega
  have hh1 : ¬ N * 4 > e.platform.maxHeapBytes := by rw [Launch.admits_maxHeapBytes XS.admits]; omega
  have hl2 : ¬ K > e.platform.arrayLengthLimit := by rw [Launch.admits_arrayLengthLimit XS.admits]; omega
  have hh2 : ¬ K * 4 > e.platform.maxHeapBytes := by rw [Launch.admits_maxHeapBytes XS.admits]; omega
  have hdg : decode c.code pc = .ok (.multianewarray idx 2, 4) := by rw [X.2.1]; exact hd
  jvm_step XS.here [X.1, hdg]
  simp only [multianewarray.sem, wp_bind']
  refine (W.resolveClassAt_links (State.method?_setTop (F0 mid pc lr ((Value.int (nI K) :: Value.int (nI N) :: st).map (ew_v g))) XS.here.top) hg₁).mpr ?_
  simp only [wp_bind']
  rw [W.popN, if_neg (by decide)]
  refine ⟨_, State.topJava?_setTop' (s := T.setVm vm₁) _ XS.here.top, [.int (nI N), .int (nI K)], st.map (ew_v g), rfl, rfl, ?_⟩
  simp only [List.mapM_cons, List.mapM_nil, wp_bind', wp_pure']
  refine mn_wp2 (kA := kA₁) (kc := kC₁) (comp := comp) (cc := cc) (N := N) (K := K) hkA₁ hkindA₁ hkC₁ hkindC₁ (nI_pos (by omega)) (nI_pos (by omega)) hcN hcK hl1 hh1 hl2 hh2 (by show T.heap.size + 1 + _ ≤ _; omega) (by show T.slotsUsed + _ + _ ≤ _; omega) (fun d' acts' => ?_)
  have eS : ∀ f f' : JFrame, ((T.setTop f).setVm vm₁).setTop f' = (T.setVm vm₁).setTop f' := fun f f' => by
    show ((T.setVm vm₁).setTop f).setTop _ = _
    rw [State.setTop_setTop]
  rw [eS, mn_top, hF]
  simp only [wp_bind', W.mark, W.pushRef, State.topJava?_setTop' _ XF2.here.top, Option.some.injEq, exists_eq_left', State.setTop_setTop, State.heap_setTop]
  intro acts
  simp [jvm, XF2.here.top]
  have e9 : ew_v g (.ref sh.length) = .ref T.heap.size := by
    show Value.ref (ew_ad g sh.length) = _
    rw [htop, hT]
  rw [List.map_cons, e9] at a2
  exact a2
