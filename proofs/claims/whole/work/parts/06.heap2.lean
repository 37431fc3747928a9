theorem ew_lay {ci : Nat} {r : vw_C} (hc : ew_cl[ci]? = some r) : ∀ w ∈ u_ws r.1 r.2.1 r.2.2, w ∈ ew_tb := fun w hw => ew_mt (ew_in ci _ hc w hw) (by obtain ⟨q, -, rfl⟩ := List.mem_map.mp hw; unfold u_lay; split <;> rfl)
section EWH2
variable {l : Launch} {g : ew_G} {d a b : Nat} {m : ew_D} {pc : Nat} {ls st : List Value} {sh : List ew_S} {M : ew_M} {Q : Option Value → List ew_S → ew_M → Prop}
theorem ew_getr {i ci f idx q : Nat} {fs : List (Option (Option Nat))} {r : vw_C} (hd : decode m.2.2.1 pc = .ok (.getfield idx, 3)) (hs : sh[i]? = some (.inr (.inr (ci, fs)))) (hc : ew_cl[ci]? = some r) (hf : fs[f]? = some (some (some q))) (hk : Cond.fieldLink m.1 idx (r.2.1 f).1 (r.2.1 f).2.1 (r.2.1 f).2.2.1 ∈ ew_tb) (k : Ew l g d a b m (pc + 3) ls (.ref q :: st) sh M Q) : Ew l g d a b m pc ls (.ref i :: st) sh M Q := by
  intro p e R s mid args below meth c H locs cells slots Z lr X h1 h2 h3 h4 hH hlo hL hr
  obtain ⟨r', hr', hl, ce, q1, q2, q3, q4⟩ := hH.2.2.1 i _ hs
  cases hr'.symm.trans hc
  have hlt : f < r.2.2 := by rw [← hl]; exact (List.getElem?_eq_some_iff.mp hf).1
  obtain ⟨hS, hfc, kC, hkC, hkind⟩ := X.2.2.2.2.2.2.2.2.1 ci _ hc
  obtain ⟨cf, kf, fi, fd, hi, hsl⟩ := hS f hlt
  refine W.getf X.1 X.2.1 X.2.2.2.2.1 (X.2.2.2.2.2.1 _ hk) hi (u_facts hfc hkC (u_lays (X.2.2.2.2.2.1) (ew_lay hc) hlt) hi).1 q1 (by rw [q3]; exact fun h => by cases h) (v := ew_v g (.ref q)) ?_ rfl rfl hd (k p e R s mid args below meth c H locs cells slots Z lr X h1 h2 h3 h4 hH hlo hL hr)
  rw [hsl, q4 f hlt]
  simp [ew_f, hf, ew_o, ew_v]
theorem ew_getiN {i ci f idx : Nat} {host : String} {fs : List (Option (Option Nat))} {r : vw_C} (hd : decode m.2.2.1 pc = .ok (.getfield idx, 3)) (hs : sh[i]? = some (.inr (.inr (ci, fs)))) (hc : ew_cl[ci]? = some r) (hf : fs[f]? = some none) (hk : Cond.fieldLinkNest m.1 idx (r.2.1 f).1 (r.2.1 f).2.1 (r.2.1 f).2.2.1 host ∈ ew_nt) (k : Ew l g d a b m (pc + 3) ls (.int (M i f) :: st) sh M Q) : Ew l g d a b m pc ls (.ref i :: st) sh M Q := by
  intro p e R s mid args below meth c H locs cells slots Z lr X h1 h2 h3 h4 hH hlo hL hr
  obtain ⟨r', hr', hl, ce, q1, q2, q3, q4⟩ := hH.2.2.1 i _ hs
  cases hr'.symm.trans hc
  have hlt : f < r.2.2 := by rw [← hl]; exact (List.getElem?_eq_some_iff.mp hf).1
  obtain ⟨hS, hfc, kC, hkC, hkind⟩ := X.2.2.2.2.2.2.2.2.1 ci _ hc
  obtain ⟨cf, kf, fi, fd, hi, hsl⟩ := hS f hlt
  refine va_Wgetf X.1 X.2.1 X.2.2.2.2.1 (va_Nw.use rfl (X.2.2.2.2.2.2.2.2.2.1 _ hk)) hi (u_facts hfc hkC (u_lays (X.2.2.2.2.2.1) (ew_lay hc) hlt) hi).1 q1 (by rw [q3]; exact fun h => by cases h) (v := .int (M i f)) ?_ rfl rfl hd (k p e R s mid args below meth c H locs cells slots Z lr X h1 h2 h3 h4 hH hlo hL hr)
  rw [hsl, q4 f hlt]
  simp [ew_f, hf]
theorem ew_getrN {i ci f idx q : Nat} {host : String} {fs : List (Option (Option Nat))} {r : vw_C} (hd : decode m.2.2.1 pc = .ok (.getfield idx, 3)) (hs : sh[i]? = some (.inr (.inr (ci, fs)))) (hc : ew_cl[ci]? = some r) (hf : fs[f]? = some (some (some q))) (hk : Cond.fieldLinkNest m.1 idx (r.2.1 f).1 (r.2.1 f).2.1 (r.2.1 f).2.2.1 host ∈ ew_nt) (k : Ew l g d a b m (pc + 3) ls (.ref q :: st) sh M Q) : Ew l g d a b m pc ls (.ref i :: st) sh M Q := by
  intro p e R s mid args below meth c H locs cells slots Z lr X h1 h2 h3 h4 hH hlo hL hr
  obtain ⟨r', hr', hl, ce, q1, q2, q3, q4⟩ := hH.2.2.1 i _ hs
  cases hr'.symm.trans hc
  have hlt : f < r.2.2 := by rw [← hl]; exact (List.getElem?_eq_some_iff.mp hf).1
  obtain ⟨hS, hfc, kC, hkC, hkind⟩ := X.2.2.2.2.2.2.2.2.1 ci _ hc
  obtain ⟨cf, kf, fi, fd, hi, hsl⟩ := hS f hlt
  refine va_Wgetf X.1 X.2.1 X.2.2.2.2.1 (va_Nw.use rfl (X.2.2.2.2.2.2.2.2.2.1 _ hk)) hi (u_facts hfc hkC (u_lays (X.2.2.2.2.2.1) (ew_lay hc) hlt) hi).1 q1 (by rw [q3]; exact fun h => by cases h) (v := ew_v g (.ref q)) ?_ rfl rfl hd (k p e R s mid args below meth c H locs cells slots Z lr X h1 h2 h3 h4 hH hlo hL hr)
  rw [hsl, q4 f hlt]
  simp [ew_f, hf, ew_o, ew_v]
theorem ew_gets {i idx : Nat} {n : String} (hd : decode m.2.2.1 pc = .ok (.getstatic idx, 3)) (hi : (n = "COLUMN_STEPS" ∧ i = 1) ∨ (n = "LAYER_STARTS" ∧ i = 2)) (hk : Cond.fieldLink m.1 idx "TraceProver$Proof" n "[I" ∈ ew_tb) (k : Ew l g d a b m (pc + 3) ls (.ref i :: st) sh M Q) : Ew l g d a b m pc ls st sh M Q := by
  intro p e R s mid args below meth c H locs cells slots Z lr X h1 h2 h3 h4 hH hlo hL hr
  have hz : va_Z "TraceProver$Proof" n "[I" (ew_v g (.ref i)) (fun q => g.1 ≤ q) s g.2.2.1 := by
    rcases hi with ⟨rfl, rfl⟩ | ⟨rfl, rfl⟩
    · exact X.2.2.2.2.2.2.2.2.2.2.2.2.2.1
    · exact X.2.2.2.2.2.2.2.2.2.2.2.2.2.2.1
  obtain ⟨cf, kf, fi, f, q, ce, z1, z2, z3, z4, z5, z6, z7, z8⟩ := hz
  exact W.gets X.1 X.2.1 X.2.2.2.2.1 (X.2.2.2.2.2.1 _ hk) z1 z2 z3 z4 (by rw [hH.2.2.2 q (by omega)]; exact z5) (fun e => by rw [e] at z6; cases z6) z7 rfl hd (k p e R s mid args below meth c H locs cells slots Z lr X h1 h2 h3 h4 hH hlo hL hr)
/-- an int, written to a field; v: what the field's type keeps of it -/
theorem ew_puti {i ci f idx : Nat} {x : Int32} {fs : List (Option (Option Nat))} {r : vw_C} {ty : FieldType} (hd : decode m.2.2.1 pc = .ok (.putfield idx, 3)) (hs : sh[i]? = some (.inr (.inr (ci, fs)))) (hi3 : 3 ≤ i) (hc : ew_cl[ci]? = some r) (hf : fs[f]? = some none) (hfin : (r.2.1 f).2.2.2 = false) (hty : parseFieldDescriptor (r.2.1 f).2.2.1 = some ty) (hn : narrow ty (.int x) = .int x) (hfit : fits ty (.int x) = true) (hk : Cond.fieldLink m.1 idx (r.2.1 f).1 (r.2.1 f).2.1 (r.2.1 f).2.2.1 ∈ ew_tb) (k : Ew l g d a b m (pc + 3) ls st sh (ew_w M i f x) Q) : Ew l g d a b m pc ls (.int x :: .ref i :: st) sh M Q := by
  intro p e R s mid args below meth c H locs cells slots Z lr X h1 h2 h3 h4 hH hlo hL hr
  obtain ⟨r', hr', hl, ce, q1, q2, q3, q4⟩ := hH.2.2.1 i _ hs
  cases hr'.symm.trans hc
  have hlt : f < r.2.2 := by rw [← hl]; exact (List.getElem?_eq_some_iff.mp hf).1
  obtain ⟨y, -, hy1, hy2⟩ := ew_ty ci r hc
  have hap : ∀ x y, x < r.2.2 → y < r.2.2 → x ≠ y → (g.2.2.2.2.2 ci) x ≠ (g.2.2.2.2.2 ci) y := by
    intro x y hx hy hne
    obtain ⟨hS, -⟩ := X.2.2.2.2.2.2.2.2.1 ci _ hc
    obtain ⟨_, _, _, fa, hia, ea⟩ := hS x hx
    obtain ⟨_, _, _, fb, hib, eb⟩ := hS y hy
    rw [← ea, ← eb]
    refine u_apart (u_lays X.2.2.2.2.2.1 (ew_lay hc) hx) (u_lays X.2.2.2.2.2.1 (ew_lay hc) hy) hia hib ?_
    rw [(State.fieldFound?_type hia (hy1 x hx)).1, (State.fieldFound?_type hib (hy1 y hy)).1]
    exact hy2 x hx y hy hne
  obtain ⟨hS, hfc, kC, hkC, hkind⟩ := X.2.2.2.2.2.2.2.2.1 ci _ hc
  obtain ⟨cf, kf, fi, fd, hi, hsl⟩ := hS f hlt
  have hlay := X.2.2.2.2.2.1 _ (ew_lay hc _ (u_in_lay hlt))
  unfold u_lay at hlay
  rw [if_neg (by rw [hfin]; decide)] at hlay
  have hst := (u_facts hfc hkC (u_lays X.2.2.2.2.2.1 (ew_lay hc) hlt) hi).1
  have h6 := u_store hfc hkC hkind hlay hi hty hn hfit
  refine W.putK X.1 X.2.1 (f := fd) ⟨X.2.2.2.2.1, X.2.2.2.2.2.1 _ hk, ⟨_, _, _, hi⟩, hst⟩ (by rw [q2]; exact h6) q1 q3 (by rw [hsl]; exact k2_hasslot (q4 f hlt)) rfl rfl hd fun H' e1 e2 e3 => ?_
  rw [hsl] at e1 ⊢
  have hH' : ew_h g s (sh.set i (.inr (.inr (ci, fs)))) (ew_w M i f x) H' := by
    refine hH.set X.2.2.2.2.2.2.2.2.2.2.2.2.2.2.2 hi3 (fun q hq => ew_w_ne hq) e2 e3 ⟨r, hc, hl, t_OB.to (V := updV (ew_f g M i fs) f (.int x)) ⟨_, e1, q2, q3, t_set q4 hap hlt (.int x)⟩ (fun j hj => ?_)⟩
    unfold updV ew_f
    rw [ew_w_self]
    by_cases e : j = f
    · subst e
      simp [hf, upd]
    · simp [upd, e]
  rw [ew_set_same hs] at hH'
  exact k p e R s mid args below meth c H' _ cells slots Z lr X h1 h2 h3 h4 hH' (fun q hq => (List.mem_append.mp hq).elim (hlo q) (fun h => by rw [List.mem_singleton.mp h]; exact ew_ad_ge hi3)) hL hr
/-- a final field in a constructor: a reference -/
theorem ew_putr {i ci f idx q : Nat} {o : Option Nat} {fs : List (Option (Option Nat))} {r : vw_C} {ty : FieldType} (hd : decode m.2.2.1 pc = .ok (.putfield idx, 3)) (hs : sh[i]? = some (.inr (.inr (ci, fs)))) (hi3 : 3 ≤ i) (hc : ew_cl[ci]? = some r) (hf : fs[f]? = some (some o)) (hfin : (r.2.1 f).2.2.2 = true) (hin : m.2.1.name = "<init>") (hdecl : (r.2.1 f).1 = m.1) (hty : parseFieldDescriptor (r.2.1 f).2.2.1 = some ty) (hn : ∀ w : Nat, narrow ty (.ref w) = .ref w ∧ fits ty (.ref w) = true) (hk : Cond.fieldLink m.1 idx (r.2.1 f).1 (r.2.1 f).2.1 (r.2.1 f).2.2.1 ∈ ew_tb) (k : Ew l g d a b m (pc + 3) ls st (sh.set i (.inr (.inr (ci, fs.set f (some (some q)))))) M Q) : Ew l g d a b m pc ls (.ref q :: .ref i :: st) sh M Q := by
  intro p e R s mid args below meth c H locs cells slots Z lr X h1 h2 h3 h4 hH hlo hL hr
  obtain ⟨r', hr', hl, ce, q1, q2, q3, q4⟩ := hH.2.2.1 i _ hs
  cases hr'.symm.trans hc
  have hlt : f < r.2.2 := by rw [← hl]; exact (List.getElem?_eq_some_iff.mp hf).1
  obtain ⟨y, -, hy1, hy2⟩ := ew_ty ci r hc
  have hap : ∀ x y, x < r.2.2 → y < r.2.2 → x ≠ y → (g.2.2.2.2.2 ci) x ≠ (g.2.2.2.2.2 ci) y := by
    intro x y hx hy hne
    obtain ⟨hS, -⟩ := X.2.2.2.2.2.2.2.2.1 ci _ hc
    obtain ⟨_, _, _, fa, hia, ea⟩ := hS x hx
    obtain ⟨_, _, _, fb, hib, eb⟩ := hS y hy
    rw [← ea, ← eb]
    refine u_apart (u_lays X.2.2.2.2.2.1 (ew_lay hc) hx) (u_lays X.2.2.2.2.2.1 (ew_lay hc) hy) hia hib ?_
    rw [(State.fieldFound?_type hia (hy1 x hx)).1, (State.fieldFound?_type hib (hy1 y hy)).1]
    exact hy2 x hx y hy hne
  obtain ⟨hS, hfc, kC, hkC, hkind⟩ := X.2.2.2.2.2.2.2.2.1 ci _ hc
  obtain ⟨cf, kf, fi, fd, hi, hsl⟩ := hS f hlt
  have hlay := X.2.2.2.2.2.1 _ (ew_lay hc _ (u_in_lay hlt))
  unfold u_lay at hlay
  rw [if_pos hfin] at hlay
  have hst := (u_facts hfc hkC (u_lays X.2.2.2.2.2.1 (ew_lay hc) hlt) hi).1
  have hcf : mid.cls = cf := by
    obtain ⟨_, _, c', _, _, _, -, -, hf', -, -, -, hown2, -⟩ := Cond.laysFinal_spec hlay
    have e1 : c' = cf := by have := hi.symm.trans hf'; simp at this; exact this.1.symm
    rw [hdecl] at hown2
    rw [← e1]; exact Option.some.inj (X.2.2.2.2.1.symm.trans hown2)
  have h6 := u_fits hfc hkC hkind (Or.inr hlay) hi hty (hn (ew_ad g q)).1 (hn (ew_ad g q)).2
  refine W.putFinK X.1 X.2.1 X.2.2.2.2.1 (X.2.2.2.2.2.1 _ hk) hi hst hcf (X.2.2.2.2.2.2.2.1.trans hin) (v := ew_v g (.ref q)) (by rw [q2]; exact h6) q1 q3 (by rw [hsl]; exact k2_hasslot (q4 f hlt)) rfl rfl hd fun H' e1 e2 e3 => ?_
  rw [hsl] at e1 ⊢
  have hH' : ew_h g s (sh.set i (.inr (.inr (ci, fs.set f (some (some q)))))) M H' := by
    refine hH.set X.2.2.2.2.2.2.2.2.2.2.2.2.2.2.2 hi3 (fun q hq => rfl) e2 e3 ⟨r, hc, by rw [List.length_set]; exact hl, t_OB.to (V := updV (ew_f g M i fs) f (ew_v g (.ref q))) ⟨_, e1, q2, q3, t_set q4 hap hlt _⟩ (fun j hj => ?_)⟩
    unfold updV ew_f
    by_cases e : j = f
    · subst e
      rw [if_pos rfl, List.getElem?_set_self (by rw [hl]; exact hj)]
      rfl
    · rw [if_neg e, List.getElem?_set_ne (fun q => e q.symm)]
  exact k p e R s mid args below meth c H' _ cells slots Z lr X h1 h2 h3 h4 hH' (fun q hq => (List.mem_append.mp hq).elim (hlo q) (fun h => by rw [List.mem_singleton.mp h]; exact ew_ad_ge hi3)) hL hr
/-- a final field in a constructor: an int -/
theorem ew_putiF {i ci f idx : Nat} {x : Int32} {fs : List (Option (Option Nat))} {r : vw_C} (hd : decode m.2.2.1 pc = .ok (.putfield idx, 3)) (hs : sh[i]? = some (.inr (.inr (ci, fs)))) (hi3 : 3 ≤ i) (hc : ew_cl[ci]? = some r) (hf : fs[f]? = some none) (hfin : (r.2.1 f).2.2.2 = true) (hin : m.2.1.name = "<init>") (hdecl : (r.2.1 f).1 = m.1) (hty : parseFieldDescriptor (r.2.1 f).2.2.1 = some .int) (hk : Cond.fieldLink m.1 idx (r.2.1 f).1 (r.2.1 f).2.1 (r.2.1 f).2.2.1 ∈ ew_tb) (k : Ew l g d a b m (pc + 3) ls st sh (ew_w M i f x) Q) : Ew l g d a b m pc ls (.int x :: .ref i :: st) sh M Q := by
  intro p e R s mid args below meth c H locs cells slots Z lr X h1 h2 h3 h4 hH hlo hL hr
  obtain ⟨r', hr', hl, ce, q1, q2, q3, q4⟩ := hH.2.2.1 i _ hs
  cases hr'.symm.trans hc
  have hlt : f < r.2.2 := by rw [← hl]; exact (List.getElem?_eq_some_iff.mp hf).1
  obtain ⟨y, -, hy1, hy2⟩ := ew_ty ci r hc
  have hap : ∀ x y, x < r.2.2 → y < r.2.2 → x ≠ y → (g.2.2.2.2.2 ci) x ≠ (g.2.2.2.2.2 ci) y := by
    intro x y hx hy hne
    obtain ⟨hS, -⟩ := X.2.2.2.2.2.2.2.2.1 ci _ hc
    obtain ⟨_, _, _, fa, hia, ea⟩ := hS x hx
    obtain ⟨_, _, _, fb, hib, eb⟩ := hS y hy
    rw [← ea, ← eb]
    refine u_apart (u_lays X.2.2.2.2.2.1 (ew_lay hc) hx) (u_lays X.2.2.2.2.2.1 (ew_lay hc) hy) hia hib ?_
    rw [(State.fieldFound?_type hia (hy1 x hx)).1, (State.fieldFound?_type hib (hy1 y hy)).1]
    exact hy2 x hx y hy hne
  obtain ⟨hS, hfc, kC, hkC, hkind⟩ := X.2.2.2.2.2.2.2.2.1 ci _ hc
  obtain ⟨cf, kf, fi, fd, hi, hsl⟩ := hS f hlt
  have hlay := X.2.2.2.2.2.1 _ (ew_lay hc _ (u_in_lay hlt))
  unfold u_lay at hlay
  rw [if_pos hfin] at hlay
  have hst := (u_facts hfc hkC (u_lays X.2.2.2.2.2.1 (ew_lay hc) hlt) hi).1
  have hcf : mid.cls = cf := by
    obtain ⟨_, _, c', _, _, _, -, -, hf', -, -, -, hown2, -⟩ := Cond.laysFinal_spec hlay
    have e1 : c' = cf := by have := hi.symm.trans hf'; simp at this; exact this.1.symm
    rw [hdecl] at hown2
    rw [← e1]; exact Option.some.inj (X.2.2.2.2.1.symm.trans hown2)
  have h6 := u_fits (v := .int x) hfc hkC hkind (Or.inr hlay) hi hty rfl rfl
  refine W.putFinK X.1 X.2.1 X.2.2.2.2.1 (X.2.2.2.2.2.1 _ hk) hi hst hcf (X.2.2.2.2.2.2.2.1.trans hin) (v := .int x) (by rw [q2]; exact h6) q1 q3 (by rw [hsl]; exact k2_hasslot (q4 f hlt)) rfl rfl hd fun H' e1 e2 e3 => ?_
  rw [hsl] at e1 ⊢
  have hH' : ew_h g s (sh.set i (.inr (.inr (ci, fs)))) (ew_w M i f x) H' := by
    refine hH.set X.2.2.2.2.2.2.2.2.2.2.2.2.2.2.2 hi3 (fun q hq => ew_w_ne hq) e2 e3 ⟨r, hc, hl, t_OB.to (V := updV (ew_f g M i fs) f (.int x)) ⟨_, e1, q2, q3, t_set q4 hap hlt (.int x)⟩ (fun j hj => ?_)⟩
    unfold updV ew_f
    rw [ew_w_self]
    by_cases e : j = f
    · subst e
      simp [hf, upd]
    · simp [upd, e]
  rw [ew_set_same hs] at hH'
  exact k p e R s mid args below meth c H' _ cells slots Z lr X h1 h2 h3 h4 hH' (fun q hq => (List.mem_append.mp hq).elim (hlo q) (fun h => by rw [List.mem_singleton.mp h]; exact ew_ad_ge hi3)) hL hr
end EWH2
