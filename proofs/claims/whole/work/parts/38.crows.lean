/-! rows of the constructors: budgets and shapes by name -/
def ez_q (sh1 : List ew_S) (F : ew_M → Prop) : Option Value → List ew_S → ew_M → Prop := fun v sh' M' => v = none ∧ sh' = sh1 ∧ F M'
def ez_f (n : Nat) (M : ew_M) : ew_M := fun q => if n ≤ q then ew_z else M q
theorem ez_f_lt {n q : Nat} {M : ew_M} (h : q < n) : ez_f n M q = M q := if_neg (by omega)
theorem ez_f_ge {n q : Nat} {M : ew_M} (h : n ≤ q) : ez_f n M q = ew_z := if_pos h
section EZR
variable {l : Launch} {g : ew_G} {d A B : Nat} {m : ew_D} {pc : Nat} {ls st : List Value} {sh sh1 : List ew_S} {M : ew_M} {Q : Option Value → List ew_S → ew_M → Prop}
theorem en_new (a b : Nat) {ci idx n : Nat} {fs : List (Option (Option Nat))} {r : vw_C} {y : Nat → FieldType} (hd : decode m.2.2.1 pc = .ok (.new idx, 3)) (hc : ew_cl[ci]? = some r) (hy : ew_ys[ci]? = some y) (hl : fs.length = r.2.2) (hf : ∀ k, k < r.2.2 → (fs[k]? = some none ∧ defaultValue (y k) = .int 0) ∨ (fs[k]? = some (some none) ∧ defaultValue (y k) = .null)) (hk : Cond.classLink m.1 idx r.1 ∈ ew_tb) (hk2 : Cond.instantiable r.1 r.2.2 ∈ ew_tb) (hk3 : Cond.initialized r.1 ∈ ew_tb) (hA : A = a + 1) (hB : B = b + r.2.2) (hn : sh.length = n) (h1 : sh ++ [.inr (.inr (ci, fs))] = sh1)
    (k : Ew l g d a b m (pc + 3) ls (.ref n :: st) sh1 (ew_up M n ew_z) Q) : Ew l g d A B m pc ls st sh M Q := by
  subst hA; subst hB; subst hn; subst h1
  exact ew_new hd hc hy hl hf hk hk2 hk3 k
theorem en_newa (a b : Nat) {N n : Nat} (hd : decode m.2.2.1 pc = .ok (.newarray .int, 2)) (hN : N ≤ 1000) (hk : Cond.arrayClass .int ∈ ew_tb) (hA : A = a + 1) (hB : B = b + N) (hn : sh.length = n) (h1 : sh ++ [.inl N] = sh1)
    (k : Ew l g d a b m (pc + 2) ls (.ref n :: st) sh1 (ew_up M n ew_z) Q) : Ew l g d A B m pc ls (.int (nI N) :: st) sh M Q := by
  subst hA; subst hB; subst hn; subst h1
  exact ew_newa hd rfl hN hk k
theorem en_anew (a b : Nat) {N n idx : Nat} (hd : decode m.2.2.1 pc = .ok (.anewarray idx, 3)) (hN : N ≤ 1000) (hk : Cond.classLink m.1 idx "TraceProver$Tree" ∈ ew_tb) (hA : A = a + 1) (hB : B = b + N) (hn : sh.length = n) (h1 : sh ++ [.inr (.inl (1, List.replicate N none))] = sh1)
    (k : Ew l g d a b m (pc + 3) ls (.ref n :: st) sh1 (ew_up M n ew_z) Q) : Ew l g d A B m pc ls (.int (nI N) :: st) sh M Q := by
  subst hA; subst hB; subst hn; subst h1
  exact ew_anew hd rfl hN hk k
theorem en_mna (a b : Nat) {N K n idx : Nat} (hd : decode m.2.2.1 pc = .ok (.multianewarray idx 2, 4)) (hN : N ≤ 1000) (hK : K ≤ 1000) (hk : Cond.classLink m.1 idx ("[" ++ (FieldType.array .int).toString) ∈ ew_tb) (hA : A = a + (1 + N)) (hB : B = b + (N + N * K)) (hn : sh.length = n) (h1 : sh ++ (.inr (.inl (0, (List.range N).map fun j => some (n + 1 + j))) :: List.replicate N (.inl K)) = sh1)
    (k : Ew l g d a b m (pc + 4) ls (.ref n :: st) sh1 (ez_f n M) Q) : Ew l g d A B m pc ls (.int (nI K) :: .int (nI N) :: st) sh M Q := by
  subst hA; subst hB; subst hn; subst h1
  exact ew_mna hd rfl rfl hN hK hk k
theorem en_putr {a b i ci f idx q : Nat} {o : Option Nat} {fs : List (Option (Option Nat))} {r : vw_C} {ty : FieldType} (hd : decode m.2.2.1 pc = .ok (.putfield idx, 3)) (hs : sh[i]? = some (.inr (.inr (ci, fs)))) (hi3 : 3 ≤ i) (hc : ew_cl[ci]? = some r) (hf : fs[f]? = some (some o)) (hfin : (r.2.1 f).2.2.2 = true) (hin : m.2.1.name = "<init>") (hdecl : (r.2.1 f).1 = m.1) (hty : parseFieldDescriptor (r.2.1 f).2.2.1 = some ty) (hn : ∀ w : Nat, narrow ty (.ref w) = .ref w ∧ fits ty (.ref w) = true) (hk : Cond.fieldLink m.1 idx (r.2.1 f).1 (r.2.1 f).2.1 (r.2.1 f).2.2.1 ∈ ew_tb) (h1 : sh.set i (.inr (.inr (ci, fs.set f (some (some q))))) = sh1)
    (k : Ew l g d a b m (pc + 3) ls st sh1 M Q) : Ew l g d a b m pc ls (.ref q :: .ref i :: st) sh M Q := by
  subst h1
  exact ew_putr hd hs hi3 hc hf hfin hin hdecl hty hn hk k
theorem en_aast {a b i j v : Nat} {rs : List (Option Nat)} {fs : List (Option (Option Nat))} {r : vw_C} (hd : decode m.2.2.1 pc = .ok (.aastore, 1)) (hs : sh[i]? = some (.inr (.inl (1, rs)))) (hi3 : 3 ≤ i) (hv : sh[v]? = some (.inr (.inr (8, fs)))) (hc : ew_cl[8]? = some r) (hr1 : r.1 = "TraceProver$Tree") (hj : j < rs.length) (hn : rs.length < 2 ^ 31) (h1 : sh.set i (.inr (.inl (1, rs.set j (some v)))) = sh1)
    (k : Ew l g d a b m (pc + 1) ls st sh1 M Q) : Ew l g d a b m pc ls (.ref v :: .int (nI j) :: .ref i :: st) sh M Q := by
  subst h1
  exact ew_aast hd hs hi3 hv hc hr1 rfl hj hn k
theorem en_callI (a b a1 b1 : Nat) {m' : ew_D} {n idx i : Nat} {As es st0 : List Value} {F : ew_M → Prop} (hd : decode m.2.2.1 pc = .ok (.invokespecial idx, 3)) (ok : ew_ok m' n) (hk : Cond.methodLink m.1 idx m'.2.1 ∈ ew_tb) (hk2 : Cond.instanceMethod m'.2.1 ∈ ew_tb) (hini : m'.2.1.name = "<init>") (hret : m'.2.2.2.2 = none) (hn : As.length = n) (hA : As.length + 1 ≤ m'.2.2.2.1) (hir : As.all ew_ir = true) (hst : (st.map fun v => v.category).sum ≤ 8) (hs0 : st0 = As.reverse ++ .ref i :: st) (he : ew_en m'.2.2.2.1 (.ref i :: As) = es) (hA' : A = a + a1) (hB' : B = b + b1)
    (hc : Ew l g d a1 b1 m' 0 es [] sh M (ez_q sh1 F)) (k : ∀ M', F M' → Ew l g (d + 1) a b m (pc + 3) ls st sh1 M' Q) : Ew l g (d + 1) A B m pc ls st0 sh M Q := by
  subst hA'; subst hB'
  exact ew_callI hd ok hk hk2 hini hret hn hA hir hst hs0 (he ▸ hc) (fun v sh' M' q => by
    obtain ⟨rfl, rfl, hF⟩ := q
    exact k M' hF)
theorem en_callIN (a b a1 b1 : Nat) {m' : ew_D} {n idx i : Nat} {host : String} {As es st0 : List Value} {F : ew_M → Prop} (hd : decode m.2.2.1 pc = .ok (.invokespecial idx, 3)) (ok : ew_ok m' n) (hk : Cond.methodLinkNest m.1 idx m'.2.1 host ∈ ew_nt) (hk2 : Cond.instanceMethod m'.2.1 ∈ ew_tb) (hini : m'.2.1.name = "<init>") (hret : m'.2.2.2.2 = none) (hn : As.length = n) (hA : As.length + 1 ≤ m'.2.2.2.1) (hir : As.all ew_ir = true) (hst : (st.map fun v => v.category).sum ≤ 8) (hs0 : st0 = As.reverse ++ .ref i :: st) (he : ew_en m'.2.2.2.1 (.ref i :: As) = es) (hA' : A = a + a1) (hB' : B = b + b1)
    (hc : Ew l g d a1 b1 m' 0 es [] sh M (ez_q sh1 F)) (k : ∀ M', F M' → Ew l g (d + 1) a b m (pc + 3) ls st sh1 M' Q) : Ew l g (d + 1) A B m pc ls st0 sh M Q := by
  subst hA'; subst hB'
  exact ew_callIN hd ok hk hk2 hini hret hn hA hir hst hs0 (he ▸ hc) (fun v sh' M' q => by
    obtain ⟨rfl, rfl, hF⟩ := q
    exact k M' hF)
theorem en_callSb {a b n idx : Nat} {m' : ew_D} {As es st0 st1 : List Value} {v : Option Value} {M1 : ew_M} (hd : decode m.2.2.1 pc = .ok (.invokestatic idx, 3)) (ok : ew_ok m' n) (hk : Cond.methodLink m.1 idx m'.2.1 ∈ ew_tb) (hk2 : Cond.static m'.2.1 ∈ ew_tb) (hn : As.length = n) (hA : As.length ≤ m'.2.2.2.1) (hir : As.all ew_ir = true) (hst : (st.map fun v => v.category).sum ≤ 8) (hs0 : st0 = As.reverse ++ st) (he : ew_en m'.2.2.2.1 As = es)
    (hc : Ew l g d 0 0 m' 0 es [] sh M (ew_q v sh1 M1)) (h1 : v.toList ++ st = st1) (k : Ew l g (d + 1) a b m (pc + 3) ls st1 sh1 M1 Q) : Ew l g (d + 1) a b m pc ls st0 sh M Q := ew_callS (a := a) (b := b) (a1 := 0) (b1 := 0) hd ok hk hk2 hn hA hir hst hs0 (he ▸ hc) (fun v' sh' M' q => by
  obtain ⟨rfl, rfl, rfl⟩ := q
  rw [h1]
  exact k)
end EZR
theorem tb_rt_s {k : Nat} (h : 0 < k) : tb_rt (k - 1) * (11 ^ 384 % 12289) % 12289 = tb_rt k := by
  obtain ⟨j, rfl⟩ : ∃ j, k = j + 1 := ⟨k - 1, by omega⟩
  unfold tb_rt
  generalize 11 ^ 384 % 12289 = r
  rw [Nat.add_sub_cancel, Nat.pow_succ, Nat.mod_mul_mod]
theorem tb_rt_0 : tb_rt 0 = 1 := by
  unfold tb_rt
  rw [Nat.pow_zero]
theorem ez_narr {ty : FieldType} (w : Nat) : narrow (.array ty) (.ref w) = .ref w ∧ fits (.array ty) (.ref w) = true := ⟨rfl, rfl⟩
theorem ez_nobj {c : String} (w : Nat) : narrow (.object c) (.ref w) = .ref w ∧ fits (.object c) (.ref w) = true := ⟨rfl, rfl⟩
theorem hf_0 : ∀ k, k < 8 → (([some none, some none, some none, some none, some none, some none, none, none] : List (Option (Option Nat)))[k]? = some none ∧ defaultValue (ew_Y0 k) = .int 0) ∨ (([some none, some none, some none, some none, some none, some none, none, none] : List (Option (Option Nat)))[k]? = some (some none) ∧ defaultValue (ew_Y0 k) = .null)
  | 0, _ => Or.inr ⟨rfl, rfl⟩
  | 1, _ => Or.inr ⟨rfl, rfl⟩
  | 2, _ => Or.inr ⟨rfl, rfl⟩
  | 3, _ => Or.inr ⟨rfl, rfl⟩
  | 4, _ => Or.inr ⟨rfl, rfl⟩
  | 5, _ => Or.inr ⟨rfl, rfl⟩
  | 6, _ => Or.inl ⟨rfl, rfl⟩
  | 7, _ => Or.inl ⟨rfl, rfl⟩
  | k + 8, h => absurd h (by omega)
theorem hf_1 : ∀ k, k < 5 → (([some none, some none, some none, some none, some none] : List (Option (Option Nat)))[k]? = some none ∧ defaultValue (ew_Y1 k) = .int 0) ∨ (([some none, some none, some none, some none, some none] : List (Option (Option Nat)))[k]? = some (some none) ∧ defaultValue (ew_Y1 k) = .null)
  | 0, _ => Or.inr ⟨rfl, rfl⟩
  | 1, _ => Or.inr ⟨rfl, rfl⟩
  | 2, _ => Or.inr ⟨rfl, rfl⟩
  | 3, _ => Or.inr ⟨rfl, rfl⟩
  | 4, _ => Or.inr ⟨rfl, rfl⟩
  | k + 5, h => absurd h (by omega)
theorem hf_2 : ∀ k, k < 6 → (([some none, some none, some none, some none, none, some none] : List (Option (Option Nat)))[k]? = some none ∧ defaultValue (ew_Y2 k) = .int 0) ∨ (([some none, some none, some none, some none, none, some none] : List (Option (Option Nat)))[k]? = some (some none) ∧ defaultValue (ew_Y2 k) = .null)
  | 0, _ => Or.inr ⟨rfl, rfl⟩
  | 1, _ => Or.inr ⟨rfl, rfl⟩
  | 2, _ => Or.inr ⟨rfl, rfl⟩
  | 3, _ => Or.inr ⟨rfl, rfl⟩
  | 4, _ => Or.inl ⟨rfl, rfl⟩
  | 5, _ => Or.inr ⟨rfl, rfl⟩
  | k + 6, h => absurd h (by omega)
theorem hf_3 : ∀ k, k < 2 → (([some none, some none] : List (Option (Option Nat)))[k]? = some none ∧ defaultValue (ew_Y3 k) = .int 0) ∨ (([some none, some none] : List (Option (Option Nat)))[k]? = some (some none) ∧ defaultValue (ew_Y3 k) = .null)
  | 0, _ => Or.inr ⟨rfl, rfl⟩
  | 1, _ => Or.inr ⟨rfl, rfl⟩
  | k + 2, h => absurd h (by omega)
theorem hf_4 : ∀ k, k < 1 → (([some none] : List (Option (Option Nat)))[k]? = some none ∧ defaultValue (ew_Y4 k) = .int 0) ∨ (([some none] : List (Option (Option Nat)))[k]? = some (some none) ∧ defaultValue (ew_Y4 k) = .null)
  | 0, _ => Or.inr ⟨rfl, rfl⟩
  | k + 1, h => absurd h (by omega)
theorem hf_5 : ∀ k, k < 8 → (([some none, some none, some none, some none, some none, some none, some none, some none] : List (Option (Option Nat)))[k]? = some none ∧ defaultValue (ew_Y5 k) = .int 0) ∨ (([some none, some none, some none, some none, some none, some none, some none, some none] : List (Option (Option Nat)))[k]? = some (some none) ∧ defaultValue (ew_Y5 k) = .null)
  | 0, _ => Or.inr ⟨rfl, rfl⟩
  | 1, _ => Or.inr ⟨rfl, rfl⟩
  | 2, _ => Or.inr ⟨rfl, rfl⟩
  | 3, _ => Or.inr ⟨rfl, rfl⟩
  | 4, _ => Or.inr ⟨rfl, rfl⟩
  | 5, _ => Or.inr ⟨rfl, rfl⟩
  | 6, _ => Or.inr ⟨rfl, rfl⟩
  | 7, _ => Or.inr ⟨rfl, rfl⟩
  | k + 8, h => absurd h (by omega)
theorem hf_6 : ∀ k, k < 5 → (([some none, some none, some none, some none, some none] : List (Option (Option Nat)))[k]? = some none ∧ defaultValue (ew_Y6 k) = .int 0) ∨ (([some none, some none, some none, some none, some none] : List (Option (Option Nat)))[k]? = some (some none) ∧ defaultValue (ew_Y6 k) = .null)
  | 0, _ => Or.inr ⟨rfl, rfl⟩
  | 1, _ => Or.inr ⟨rfl, rfl⟩
  | 2, _ => Or.inr ⟨rfl, rfl⟩
  | 3, _ => Or.inr ⟨rfl, rfl⟩
  | 4, _ => Or.inr ⟨rfl, rfl⟩
  | k + 5, h => absurd h (by omega)
theorem hf_7 : ∀ k, k < 4 → (([none, none, some none, some none] : List (Option (Option Nat)))[k]? = some none ∧ defaultValue (ew_Y7 k) = .int 0) ∨ (([none, none, some none, some none] : List (Option (Option Nat)))[k]? = some (some none) ∧ defaultValue (ew_Y7 k) = .null)
  | 0, _ => Or.inl ⟨rfl, rfl⟩
  | 1, _ => Or.inl ⟨rfl, rfl⟩
  | 2, _ => Or.inr ⟨rfl, rfl⟩
  | 3, _ => Or.inr ⟨rfl, rfl⟩
  | k + 4, h => absurd h (by omega)
theorem hf_8 : ∀ k, k < 2 → (([none, some none] : List (Option (Option Nat)))[k]? = some none ∧ defaultValue (ew_Y8 k) = .int 0) ∨ (([none, some none] : List (Option (Option Nat)))[k]? = some (some none) ∧ defaultValue (ew_Y8 k) = .null)
  | 0, _ => Or.inl ⟨rfl, rfl⟩
  | 1, _ => Or.inr ⟨rfl, rfl⟩
  | k + 2, h => absurd h (by omega)
theorem hf_9 : ∀ k, k < 24 → (([some none, some none, some none, some none, some none, none, some none, some none, some none, none, some none, none, none, none, none, some none, some none, some none, none, some none, some none, some none, some none, some none] : List (Option (Option Nat)))[k]? = some none ∧ defaultValue (ew_Y9 k) = .int 0) ∨ (([some none, some none, some none, some none, some none, none, some none, some none, some none, none, some none, none, none, none, none, some none, some none, some none, none, some none, some none, some none, some none, some none] : List (Option (Option Nat)))[k]? = some (some none) ∧ defaultValue (ew_Y9 k) = .null)
  | 0, _ => Or.inr ⟨rfl, rfl⟩
  | 1, _ => Or.inr ⟨rfl, rfl⟩
  | 2, _ => Or.inr ⟨rfl, rfl⟩
  | 3, _ => Or.inr ⟨rfl, rfl⟩
  | 4, _ => Or.inr ⟨rfl, rfl⟩
  | 5, _ => Or.inl ⟨rfl, rfl⟩
  | 6, _ => Or.inr ⟨rfl, rfl⟩
  | 7, _ => Or.inr ⟨rfl, rfl⟩
  | 8, _ => Or.inr ⟨rfl, rfl⟩
  | 9, _ => Or.inl ⟨rfl, rfl⟩
  | 10, _ => Or.inr ⟨rfl, rfl⟩
  | 11, _ => Or.inl ⟨rfl, rfl⟩
  | 12, _ => Or.inl ⟨rfl, rfl⟩
  | 13, _ => Or.inl ⟨rfl, rfl⟩
  | 14, _ => Or.inl ⟨rfl, rfl⟩
  | 15, _ => Or.inr ⟨rfl, rfl⟩
  | 16, _ => Or.inr ⟨rfl, rfl⟩
  | 17, _ => Or.inr ⟨rfl, rfl⟩
  | 18, _ => Or.inl ⟨rfl, rfl⟩
  | 19, _ => Or.inr ⟨rfl, rfl⟩
  | 20, _ => Or.inr ⟨rfl, rfl⟩
  | 21, _ => Or.inr ⟨rfl, rfl⟩
  | 22, _ => Or.inr ⟨rfl, rfl⟩
  | 23, _ => Or.inr ⟨rfl, rfl⟩
  | k + 24, h => absurd h (by omega)
