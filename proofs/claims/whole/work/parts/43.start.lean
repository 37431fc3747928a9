/-! THE CLAIM OUT OF ONE WALK OF THE LAW'S BODY. Your part is whole_start (and what it stands on); all else here is the same for every law, but numbers. -/
def R_law : String := "TraceProverLaw"
def lw_P (b : Addr) (xs : List Int32) (args : Array Value) (s : State) : Prop := args = #[.ref b] ∧ s.IntsAt b xs ∧ xs.length ≤ 2560 ∧ (Jvm.Cond.and given_1 narrow_1).before args s = true
def lw_Q (_ : Array Value) (s : State) (o : Outcome) (t : State) : Prop := o = .returned (some (.int 1)) ∧ Framed s o t [] 600000 7302250
def lw_Z (below : List Frame) (a : Array Value) (s : State) : State → Prop := fun t => ∃ o, t.status = .running ∧ Ended t below o ∧ lw_Q a s o t
/-- the law's own end, with 1 on the stack, nothing written that was there before, its room as the claim has it -/
theorem lw_ret {p : Program} {l : Launch} {e : Env} {s : State} {m : MethodId} {below : List Frame} {meth : Method} {c : Code} {b : Nat} (hx : p.tables.exec = Jvm.exec) (hb : c.code = code) (hr : meth.sig.returnType = ret) (hlocks : meth.locks = false) {pc : Nat} {H : Heap} {ls : Array Slot} (hdg : decode code pc = .ok (.ireturn, 1)) : W p l e room_1 s m #[Value.ref b] below meth c H [] 600000 7302250 (lw_Z below #[Value.ref b] s) (F0 m pc ls [.int 1]) := by
  intro T hT X
  obtain ⟨fs, hret, hrun, hended, hW, hframe⟩ := X.leave (v := some (.int 1)) (hlocks := hlocks) (fun h => by rw [hr] at h; cases h)
  have hmeth' : T.vm.method? m = some meth := X.method'
  refine ⟨T.setFrames fs, ?_, .returned (some (.int 1)), hrun, hended, rfl, ⟨_, rfl⟩, hW, hframe⟩
  jvm_step X.here [X.here.top, hx, hb, hdg, hmeth', hr, ret, narrow_b1]
  (try refine ⟨rfl, ?_⟩); (try refine ⟨rfl, ?_⟩)
  first | (intro acts; rw [hret _ acts rfl rfl rfl]) | rw [hret _ _ rfl rfl rfl]
  exact Steps.refl _
/-- what holds at the law's entry: the machine, the code, the tables' words (any of lw_tbl by 'hts w (by decide +kernel)'), the script of L ints xs at the cell b, what the Statement gives of the start (any of its parts by flat_of_before) -/
def lw_At (p : Program) (s : State) (m : MethodId) (meth : Method) (c : Code) (b L : Nat) (xs : Nat → Int32) : Prop :=
  p.tables.exec = Jvm.exec ∧ c.code = code ∧ meth.sig.returnType = ret ∧ c.maxLocals = 4 ∧ s.vm.findClass R_law = some m.cls ∧ (∀ w ∈ lw_tbl, w.before #[Value.ref b] s = true) ∧ va_X b L xs s s.heap ∧ b < s.heap.size ∧ meth.locks = false ∧ (Jvm.Cond.and given_1 narrow_1).before #[Value.ref b] s = true

theorem ew_inst : ∀ (c : Nat) (q : vw_C), ew_cl[c]? = some q → Cond.instantiable q.1 q.2.2 ∈ ew_tb
  | 0, _, h => by cases h; exact tw_13
  | 1, _, h => by cases h; exact tw_21
  | 2, _, h => by cases h; exact tw_62
  | 3, _, h => by cases h; exact tw_89
  | 4, _, h => by cases h; exact tw_103
  | 5, _, h => by cases h; exact tw_116
  | 6, _, h => by cases h; exact tw_190
  | 7, _, h => by cases h; exact tw_122
  | 8, _, h => by cases h; exact tw_148
  | 9, _, h => by cases h; exact tw_581
  | c + 10, _, h => by simp [ew_cl] at h
theorem ew_over {args : Array Value} {s : State} {t : FieldType} (h : (Cond.arrayOver (.array t)).before args s = true) : ∃ comp c k, s.vm.findClass (FieldType.array t).toString = some comp ∧ s.vm.classes[c]? = some k ∧ k.kind = .array comp (.array t) ∧ s.vm.findClass ("[" ++ (FieldType.array t).toString) = some c := by
  simp only [Cond.before, Cond.holds, Cond.value, beq_iff_eq] at h
  cases hc : s.vm.findClass (FieldType.array t).toString with
  | none => simp [hc] at h
  | some comp =>
    simp only [hc, Option.bind_some, Option.bind_eq_some_iff, Option.map_eq_some_iff] at h
    obtain ⟨n, hn, kl, hkl, hq⟩ := h
    obtain ⟨hlt, hp, -⟩ := Array.findIdx?_eq_some_iff_getElem.mp hn
    have hkk : s.vm.classes[n] = kl := (Array.getElem?_eq_some_iff.mp hkl).2
    rw [hkk] at hp
    cases hK : kl.kind with
    | array cp ty =>
      rw [hK] at hq hp
      simp at hq hp
      exact ⟨comp, n, kl, rfl, hkl, by rw [hK, hp, hq.1], hq.2⟩
    | _ => rw [hK] at hq; simp at hq
def ew_c1 : Nat → Int32 := fun j => if j = 0 then 0 else if j = 1 then 4 else if j = 2 then 16 else 20
def ew_c2 : Nat → Int32 := fun j => if j = 0 then 28 else if j = 1 then 40 else 50
def ew_mg (n b t1 t2 : Nat) (H : Heap) (cA cT : ClassId) (D : Nat → ClassId × (Nat → Nat)) : ew_G := (n, fun i => if i = 0 then b else if i = 1 then t1 else t2, H, fun k => if k = 0 then cA else cT, fun c => (D c).1, fun c => (D c).2)
def ew_m0 (xs : Nat → Int32) : ew_M := fun i => if i = 0 then xs else if i = 1 then ew_c1 else ew_c2
theorem ew_st0 (xs : Nat → Int32) : sp_st (ew_m0 xs) := ⟨⟨rfl, rfl, rfl, rfl⟩, rfl, rfl, rfl⟩
theorem ew_nw {w : Cond} {A : Array Value} {s : State} (hw : w ∈ ew_nt) (h : w.before A s = true) : va_Nw w s := by
  have hn := (List.mem_filter.mp hw).2
  cases w <;> first | exact va_Nw.of rfl h | (simp [ew_isN] at hn; done)
set_option maxHeartbeats 4000000 in
set_option maxRecDepth 100000 in
theorem whole_start {p : Program} {e : Env} {s : State} {m : MethodId} {below : List Frame} {meth : Method} {c : Code} (l : Launch) {b L : Nat} {xs : Nat → Int32} (hL : L ≤ 2560) (C0 : lw_At p s m meth c b L xs) : W p l e room_1 s m #[Value.ref b] below meth c s.heap [] 0 0 (lw_Z below #[Value.ref b] s) (entryFrame m ([Value.ref b] : List Value).toArray 4) := by
  obtain ⟨hx, hb, hr, hml, hown, hts, hX, hbl, hlocks, hgv⟩ := C0
  have hs := flat_of_before _ hgv
  have hA : ∀ a : Nat, a < s.heap.size → ¬ (fun q : Nat => s.heap.size ≤ q) a := fun a h => Nat.not_le.mpr h
  have htb : ∀ w ∈ ew_tb, w.before #[Value.ref b] s = true := fun w hw => hts w (List.mem_filter.mp hw).1
  have ha1 : (Cond.arrayOf (.static "TraceProver$Proof" "COLUMN_STEPS" "[I") .int).before #[Value.ref b] s = true := hs _ (by decide +kernel)
  have hl1 : (Cond.eq (.length (.static "TraceProver$Proof" "COLUMN_STEPS" "[I")) (.int 4)).before #[Value.ref b] s = true := hs _ (by decide +kernel)
  have he10 : (Cond.eq (.elem (.static "TraceProver$Proof" "COLUMN_STEPS" "[I") (.int 0)) (.int 0)).before #[Value.ref b] s = true := hs _ (by decide +kernel)
  have he11 : (Cond.eq (.elem (.static "TraceProver$Proof" "COLUMN_STEPS" "[I") (.int 1)) (.int 4)).before #[Value.ref b] s = true := hs _ (by decide +kernel)
  have he12 : (Cond.eq (.elem (.static "TraceProver$Proof" "COLUMN_STEPS" "[I") (.int 2)) (.int 16)).before #[Value.ref b] s = true := hs _ (by decide +kernel)
  have he13 : (Cond.eq (.elem (.static "TraceProver$Proof" "COLUMN_STEPS" "[I") (.int 3)) (.int 20)).before #[Value.ref b] s = true := hs _ (by decide +kernel)
  obtain ⟨t1, ht1, hT1⟩ := va_Tof (tm := (.static "TraceProver$Proof" "COLUMN_STEPS" "[I")) (ty := .int) (N := 4) (f := fun j => Value.int (ew_c1 j)) (A := fun q : Nat => s.heap.size ≤ q) (by decide) ha1 (va_eqt hl1) (fun j hj => by
    rcases (show j = 0 ∨ j = 1 ∨ j = 2 ∨ j = 3 by omega) with rfl | rfl | rfl | rfl
    · exact va_eqt he10
    · exact va_eqt he11
    · exact va_eqt he12
    · exact va_eqt he13) hA
  have hZ1 := va_Zref (A := fun q : Nat => s.heap.size ≤ q) (hts _ (List.mem_append_right _ (List.mem_of_getElem? (i := 471) (by decide +kernel)))) (hts _ (List.mem_append_right _ (List.mem_of_getElem? (i := 6) (by decide +kernel)))) ht1 hA
  obtain ⟨z1, c11, c12, c13, c14, c15, c16, c17⟩ := hT1
  have ha2 : (Cond.arrayOf (.static "TraceProver$Proof" "LAYER_STARTS" "[I") .int).before #[Value.ref b] s = true := hs _ (by decide +kernel)
  have hl2 : (Cond.eq (.length (.static "TraceProver$Proof" "LAYER_STARTS" "[I")) (.int 3)).before #[Value.ref b] s = true := hs _ (by decide +kernel)
  have he20 : (Cond.eq (.elem (.static "TraceProver$Proof" "LAYER_STARTS" "[I") (.int 0)) (.int 28)).before #[Value.ref b] s = true := hs _ (by decide +kernel)
  have he21 : (Cond.eq (.elem (.static "TraceProver$Proof" "LAYER_STARTS" "[I") (.int 1)) (.int 40)).before #[Value.ref b] s = true := hs _ (by decide +kernel)
  have he22 : (Cond.eq (.elem (.static "TraceProver$Proof" "LAYER_STARTS" "[I") (.int 2)) (.int 50)).before #[Value.ref b] s = true := hs _ (by decide +kernel)
  obtain ⟨t2, ht2, hT2⟩ := va_Tof (tm := (.static "TraceProver$Proof" "LAYER_STARTS" "[I")) (ty := .int) (N := 3) (f := fun j => Value.int (ew_c2 j)) (A := fun q : Nat => s.heap.size ≤ q) (by decide) ha2 (va_eqt hl2) (fun j hj => by
    rcases (show j = 0 ∨ j = 1 ∨ j = 2 by omega) with rfl | rfl | rfl
    · exact va_eqt he20
    · exact va_eqt he21
    · exact va_eqt he22) hA
  have hZ2 := va_Zref (A := fun q : Nat => s.heap.size ≤ q) (hts _ (List.mem_append_right _ (List.mem_of_getElem? (i := 491) (by decide +kernel)))) (hts _ (List.mem_append_right _ (List.mem_of_getElem? (i := 6) (by decide +kernel)))) ht2 hA
  obtain ⟨z2, c21, c22, c23, c24, c25, c26, c27⟩ := hT2
  obtain ⟨compA, cA, kA, a1, a2, a3, a4⟩ := ew_over (t := .int) (hts _ (List.mem_append_right _ (List.mem_of_getElem? (i := 68) (by decide +kernel))))
  obtain ⟨cI, kI, cc, i1, i2, i3⟩ := Cond.arrayClass_spec (type := .int) (hts _ (List.mem_append_right _ (List.mem_of_getElem? (i := 60) (by decide +kernel))))
  obtain rfl : cI = compA := Option.some.inj (i1.symm.trans a1)
  obtain ⟨compT, cT, kT, o1, -, o2, o3, o4⟩ := Cond.arrayOver_spec (n := "TraceProver$Tree") (hts _ (List.mem_append_right _ (List.mem_of_getElem? (i := 160) (by decide +kernel))))
  have hAO : va_AO "TraceProver$Tree" s := va_AO.of (hts _ (List.mem_append_right _ (List.mem_of_getElem? (i := 160) (by decide +kernel))))
  obtain ⟨D, hD⟩ : ∃ D : Nat → ClassId × (Nat → Nat), ∀ (c : Nat) (q : vw_C), ew_cl[c]? = some q → u_Kn s q.1 q.2.1 q.2.2 (D c).1 (D c).2 := by
    refine Classical.axiomOfChoice (r := fun (c : Nat) (z : ClassId × (Nat → Nat)) => ∀ q : vw_C, ew_cl[c]? = some q → u_Kn s q.1 q.2.1 q.2.2 z.1 z.2) (fun c => ?_)
    cases hc : ew_cl[c]? with
    | none => exact ⟨(0, fun _ => 0), fun q h => by cases h⟩
    | some q =>
      obtain ⟨x, y, h⟩ := u_known htb (ew_lay hc) (htb _ (ew_inst c q hc))
      exact ⟨(x, y), fun q' h' => by cases h'; exact h⟩
  obtain ⟨scr, x1, x2, x3, x4, x5⟩ := hX
  have hlt1 : t1 < s.heap.size := (Array.getElem?_eq_some_iff.mp c11).1
  have hlt2 : t2 < s.heap.size := (Array.getElem?_eq_some_iff.mp c21).1
  have hk : ew_k (ew_mg s.heap.size b t1 t2 s.heap cA cT D) s := ⟨hD, fun w hw => ew_nw hw (hts w (List.mem_filter.mp hw).1), ⟨kA, kI, cI, cc, a2, a3, a4, i2, i3, a1⟩, hAO, ⟨kT, compT, o2, o3, o1, o4⟩, hZ1, hZ2, fun i hi => by
    rcases (show i = 0 ∨ i = 1 ∨ i = 2 by omega) with rfl | rfl | rfl
    · exact hbl
    · exact hlt1
    · exact hlt2⟩
  have hH : ew_h (ew_mg s.heap.size b t1 t2 s.heap cA cT D) s (ez_0 L) (ew_m0 xs) s.heap := by
    refine ⟨Nat.le_refl 3, rfl, fun i x hi => ?_, fun q _ => rfl⟩
    match i, hi with
    | 0, hi => cases hi; exact ⟨scr, x1, x2, x3, ⟨Nat.le_of_eq x4.symm, by rw [x4]; rfl⟩, x5⟩
    | 1, hi => cases hi; exact ⟨z1, c11, c12, c13, ⟨c14, c15⟩, c16⟩
    | 2, hi => cases hi; exact ⟨z2, c21, c22, c23, ⟨c24, c25⟩, c26⟩
    | i + 3, hi => cases hi
  have X : ew_x (ew_mg s.heap.size b t1 t2 s.heap cA cT D) (m_La meth.name) p s m #[Value.ref b] meth c := ⟨hx, hb, hml, hr, hown, htb, hlocks, rfl, hk⟩
  rw [lg_entry_eq]
  refine ew_law l (ew_mg s.heap.size b t1 t2 s.heap cA cT D) meth.name L (by omega) (ew_m0 xs) (ew_st0 xs) p e room_1 s m #[Value.ref b] below meth c s.heap [] 0 0 _ _ X (by decide) (by decide) (by decide) (by decide) hH (fun q h => by cases h) (ew_entry (As := [.ref 0]) rfl (by decide)) (fun v sh' M' H' locs' pc' lr' q hh hl hrr => ?_)
  subst q
  refine va_forget hl ?_
  refine W.widen (k := 600000) (n := 7302250) (by decide) (by decide) ?_
  exact lw_ret hx hb hr hlocks hrr.1
set_option maxHeartbeats 4000000 in
theorem lw_walk (l : Launch) (b : Addr) (xs : List Int32) : MetFree l x (headSpec (Jvm.Cond.code x code maxLocals ret :: tables_1) room_1) (lw_P b xs) (fun _ _ _ _ _ => True) lw_Q := by
  refine MetFree.of_bodyS (code := code) (maxLocals := maxLocals) (ret := ret) (by decide) ?_ ?_
  · intro args s m h hn
    obtain ⟨meth, c, h1, h2, h3, h4, h5, h6, -, -⟩ := Cond.code_spec hn (atoms_spec (ws := Jvm.Cond.code x code maxLocals ret :: tables_1) h _ List.mem_cons_self)
    exact ⟨meth, c, h1, h2, h3, h4, h5, h6⟩
  · intro p e s m args below meth c s₁ B hml0 hP _
    obtain ⟨rfl, hx, hbd, hgv⟩ := hP
    obtain ⟨scr, harrAt, hlist, hof, hsmall⟩ := hx
    obtain ⟨hcb, hkn, -, -⟩ := State.arrayAt?_spec harrAt
    have hown : s.vm.findClass R_law = some m.cls := findClass_of_methodNamed B.named
    have hts0 : ∀ c ∈ (Jvm.Cond.code x code maxLocals ret :: tables_1), c.before #[Value.ref b] s = true := atoms_spec (ws := Jvm.Cond.code x code maxLocals ret :: tables_1) B.pre
    have hts : ∀ w ∈ lw_tbl, w.before #[Value.ref b] s = true := k2_hts_sels lw_privs (fun w hw => hts0 w (List.mem_cons_of_mem _ hw)) lw_privs_ok
    have hml : c.maxLocals = 4 := B.maxLocals_eq (hts0 _ List.mem_cons_self)
    have X₀ : Stand p l e room_1 s m #[Value.ref b] below meth c s₁ [] 0 0 := Stand.of_body B
    have hh0 : s₁.heap = s.heap := by rw [B.state]; rfl
    have hsz : scr.slots.size = xs.length := by rw [← Array.length_toList, hlist, List.length_map]
    have hval : ∀ j : Nat, j < xs.length → scr.slots[j]? = some (.int (xs.getD j 0)) := fun j hj => by
      rw [← Array.getElem?_toList, hlist]
      simp [hj]
    have hbl : b < s.heap.size := (Array.getElem?_eq_some_iff.mp hcb).1
    have hX : va_X b xs.length (fun j => xs.getD j 0) s s.heap := ⟨scr, hcb, hof, hkn, hsz, hval⟩
    have K : W p l e room_1 s m #[Value.ref b] below meth c s₁.heap [] 0 0 (lw_Z below #[Value.ref b] s) (entryFrame m ([Value.ref b] : List Value).toArray 4) := by
      rw [hh0]
      exact whole_start l hbd ⟨B.exec, B.bytes, B.returns, hml, hown, hts, hX, hbl, B.notSynchronized, hgv⟩
    obtain ⟨t, a1, o, b1, b2, b3⟩ := K s₁ rfl X₀
    exact ⟨t, o, a1, b1, b2, b3⟩
theorem lw_pre_spec {args : Array Value} {s : State} (h : (Jvm.Cond.and given_1 narrow_1).before args s = true) (hr : rest_1_c.before args s = true) : ∃ (b : Addr) (xs : List Int32), lw_P b xs args s := by
  have hs := flat_of_before _ h
  have hq := flat_of_before _ hr
  have hc : (Cond.count 1).before args s = true := hs _ (by decide +kernel)
  have harr : (Cond.arrayOf (.arg 0) .int).before args s = true := hs _ (by decide +kernel)
  have hle : (Cond.le (.length (.arg 0)) (.int 2560)).before args s = true := hs _ (by decide +kernel)
  have hlen : (Cond.isInt (.length (.arg 0))).before args s = true := hq _ (by decide +kernel)
  have hall : (Cond.all (.arg 0) (.isInt (.elem (.arg 0) (.index 0)))).before args s = true := hq _ (by decide +kernel)
  obtain ⟨b, xs, hb, hx⟩ := State.ints_of_pre rfl harr hlen hall
  have hsm : xs.length < 2 ^ 31 := hx.choose_spec.2.2.2
  have hev : (Term.length (.arg 0)).eval args s none [] s = some (.int xs.length.toInt32) := hx.length_eval hb
  have hv := Cond.le_ints hev (show (Term.int 2560).eval args s none [] s = some (.int 2560) from rfl)
  have hd : xs.length.toInt32 ≤ 2560 := by
    simpa [Cond.before, Cond.holds, hv] using hle
  have hN : xs.length ≤ 2560 := (Int32.ofNat_le_ofNat hsm (by decide)).mp (show Int32.ofNat xs.length ≤ Int32.ofNat 2560 from hd)
  exact ⟨b, xs, Cond.one_arg hc (show args[0]? = some (.ref b) from hb), hx, hN, h⟩
theorem lw_comes (l : Launch) : Comes l x (Jvm.Cond.code x code maxLocals ret :: tables_1) room_1 (fun tb e args s => Calls_1 tb e args s ∧ rest_1 tb e args s ∧ Pre_1 tb e args s)
    (fun _ _ args s o t => lw_Q args s o t) := by
  intro p e ha hc hk s m args below hf hfit hheap happ hpre
  obtain ⟨b, xs, hP⟩ := lw_pre_spec hpre.2.2 hpre.2.1
  obtain ⟨k, o, h1, h2, h3, hQ⟩ := lw_walk l b xs p e ha hc hk s m args below hf ((Spec.applies_iff_loose hf).mp happ).1 hP trivial
  exact ⟨k, o, h1, h2, h3, hQ⟩
theorem lw_frame {s t : State} {o : Outcome} {args : Array Value} (h : Framed s o t [] 600000 7302250) :
    Framed s o t (fieldLocs frame_1_writes args s ++ arrayLocs frame_1_arrays args s ++ staticLocs frame_1_statics s) 600000 7302250 := h
theorem lw_limb (L : Cond) (hL : ∀ (args : Array Value) (s t : State), L.after args s (.returned (some (.int 1))) t = true) :
    ArmFor flags0 classFile x code maxLocals ret World_1 tables_1 room_1 Calls_1 rest_1 Pre_1
      (fun tb e a s o t => postC L tb e a s o t ∧ Framed s o t (fieldLocs frame_1_writes a s ++ arrayLocs frame_1_arrays a s ++ staticLocs frame_1_statics s) 600000 7302250) := by
  intro l _ _ _ p e ha hc hk s m args below hf hfit hheap happ hpre
  obtain ⟨k, o, h1, h2, h3, rfl, hF⟩ := lw_comes l p e ha hc hk s m args below hf hfit hheap happ hpre
  exact ⟨k, _, h1, h2, h3, hL args s _, lw_frame hF⟩
theorem i_vc : Claimed_1_1 ∧ Claimed_1_2 := ⟨lw_limb limb_1_1 (fun args s t => by simp [limb_1_1, Cond.after, Cond.holds, Cond.value]), lw_limb limb_1_2 (fun args s t => Cond.after_iff.mpr (by
  first | (rw [show limb_1_2 = Cond.eq .result (.int 1) from rfl, Cond.eq_ints (x := 1) (y := 1) rfl rfl]; simp; done) | (simp [limb_1_2, Cond.value, Term.eval]; done)))⟩
