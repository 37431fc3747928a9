section EWR
variable {l : Launch} {g : ew_G} {d a b : Nat} {m : ew_D} {pc : Nat} {ls st : List Value} {sh : List ew_S} {M : ew_M} {Q : Option Value → List ew_S → ew_M → Prop}
theorem ew_iconst {n : Int} {v : Int32} (hd : decode m.2.2.1 pc = .ok (.iconst n, 1)) (hv : Int32.ofInt n = v) (k : Ew l g d a b m (pc + 1) ls (.int v :: st) sh M Q) : Ew l g d a b m pc ls (st) sh M Q := by
  intro p e R s mid args below meth c H locs cells slots Z lr X h1 h2 h3 h4 hH hlo hL hr
  exact lv_iconst X.1 X.2.1 hd hv (k p e R s mid args below meth c H locs cells slots Z lr X h1 h2 h3 h4 hH hlo hL hr)
theorem ew_bipush {n : Int} {v : Int32} (hd : decode m.2.2.1 pc = .ok (.bipush n, 2)) (hv : (Int8.ofInt n).toInt32 = v) (k : Ew l g d a b m (pc + 2) ls (.int v :: st) sh M Q) : Ew l g d a b m pc ls (st) sh M Q := by
  intro p e R s mid args below meth c H locs cells slots Z lr X h1 h2 h3 h4 hH hlo hL hr
  exact lv_bipush X.1 X.2.1 hd hv (k p e R s mid args below meth c H locs cells slots Z lr X h1 h2 h3 h4 hH hlo hL hr)
theorem ew_sipush {n : Int} {v : Int32} (hd : decode m.2.2.1 pc = .ok (.sipush n, 3)) (hv : (Int16.ofInt n).toInt32 = v) (k : Ew l g d a b m (pc + 3) ls (.int v :: st) sh M Q) : Ew l g d a b m pc ls (st) sh M Q := by
  intro p e R s mid args below meth c H locs cells slots Z lr X h1 h2 h3 h4 hH hlo hL hr
  exact lv_sipush X.1 X.2.1 hd hv (k p e R s mid args below meth c H locs cells slots Z lr X h1 h2 h3 h4 hH hlo hL hr)
theorem ew_ldc {i : Nat} {v : Int32} (hd : decode m.2.2.1 pc = .ok (.ldc i, 2)) (hc : Jvm.Cond.constant m.1 i v ∈ ew_tb) (k : Ew l g d a b m (pc + 2) ls (.int v :: st) sh M Q) : Ew l g d a b m pc ls (st) sh M Q := by
  intro p e R s mid args below meth c H locs cells slots Z lr X h1 h2 h3 h4 hH hlo hL hr
  exact lv_ldc X.1 X.2.1 X.2.2.2.2.1 (X.2.2.2.2.2.1 _ hc) hd (k p e R s mid args below meth c H locs cells slots Z lr X h1 h2 h3 h4 hH hlo hL hr)
theorem ew_iload_n {i : Fin 4} {x : Int32} (hd : decode m.2.2.1 pc = .ok (.iload_n i, 1)) (hl : ls[i.val]? = some (.int x)) (k : Ew l g d a b m (pc + 1) ls (.int x :: st) sh M Q) : Ew l g d a b m pc ls (st) sh M Q := by
  intro p e R s mid args below meth c H locs cells slots Z lr X h1 h2 h3 h4 hH hlo hL hr
  exact lv_iload_n X.1 X.2.1 hd rfl (hL.at hl rfl) (k p e R s mid args below meth c H locs cells slots Z lr X h1 h2 h3 h4 hH hlo hL hr)
theorem ew_iload {i : Nat} {x : Int32} (hd : decode m.2.2.1 pc = .ok (.iload i, 2)) (hl : ls[i]? = some (.int x)) (k : Ew l g d a b m (pc + 2) ls (.int x :: st) sh M Q) : Ew l g d a b m pc ls (st) sh M Q := by
  intro p e R s mid args below meth c H locs cells slots Z lr X h1 h2 h3 h4 hH hlo hL hr
  exact lv_iload X.1 X.2.1 hd (hL.at hl rfl) (k p e R s mid args below meth c H locs cells slots Z lr X h1 h2 h3 h4 hH hlo hL hr)
theorem ew_aload_n {i : Fin 4} {x : Nat} (hd : decode m.2.2.1 pc = .ok (.aload_n i, 1)) (hl : ls[i.val]? = some (.ref x)) (k : Ew l g d a b m (pc + 1) ls (.ref x :: st) sh M Q) : Ew l g d a b m pc ls (st) sh M Q := by
  intro p e R s mid args below meth c H locs cells slots Z lr X h1 h2 h3 h4 hH hlo hL hr
  exact lv_aload_n X.1 X.2.1 hd rfl (hL.at hl rfl) (k p e R s mid args below meth c H locs cells slots Z lr X h1 h2 h3 h4 hH hlo hL hr)
theorem ew_aload {i : Nat} {x : Nat} (hd : decode m.2.2.1 pc = .ok (.aload i, 2)) (hl : ls[i]? = some (.ref x)) (k : Ew l g d a b m (pc + 2) ls (.ref x :: st) sh M Q) : Ew l g d a b m pc ls (st) sh M Q := by
  intro p e R s mid args below meth c H locs cells slots Z lr X h1 h2 h3 h4 hH hlo hL hr
  exact lv_aload X.1 X.2.1 hd (hL.at hl rfl) (k p e R s mid args below meth c H locs cells slots Z lr X h1 h2 h3 h4 hH hlo hL hr)
theorem ew_iadd {x y : Int32} (hd : decode m.2.2.1 pc = .ok (.iadd, 1)) (k : Ew l g d a b m (pc + 1) ls (.int (x + y) :: st) sh M Q) : Ew l g d a b m pc ls (.int y :: .int x :: st) sh M Q := by
  intro p e R s mid args below meth c H locs cells slots Z lr X h1 h2 h3 h4 hH hlo hL hr
  exact lv_iadd X.1 X.2.1 hd (k p e R s mid args below meth c H locs cells slots Z lr X h1 h2 h3 h4 hH hlo hL hr)
theorem ew_isub {x y : Int32} (hd : decode m.2.2.1 pc = .ok (.isub, 1)) (k : Ew l g d a b m (pc + 1) ls (.int (x - y) :: st) sh M Q) : Ew l g d a b m pc ls (.int y :: .int x :: st) sh M Q := by
  intro p e R s mid args below meth c H locs cells slots Z lr X h1 h2 h3 h4 hH hlo hL hr
  exact lv_isub X.1 X.2.1 hd (k p e R s mid args below meth c H locs cells slots Z lr X h1 h2 h3 h4 hH hlo hL hr)
theorem ew_imul {x y : Int32} (hd : decode m.2.2.1 pc = .ok (.imul, 1)) (k : Ew l g d a b m (pc + 1) ls (.int (x * y) :: st) sh M Q) : Ew l g d a b m pc ls (.int y :: .int x :: st) sh M Q := by
  intro p e R s mid args below meth c H locs cells slots Z lr X h1 h2 h3 h4 hH hlo hL hr
  exact lv_imul X.1 X.2.1 hd (k p e R s mid args below meth c H locs cells slots Z lr X h1 h2 h3 h4 hH hlo hL hr)
theorem ew_iand {x y : Int32} (hd : decode m.2.2.1 pc = .ok (.iand, 1)) (k : Ew l g d a b m (pc + 1) ls (.int (x &&& y) :: st) sh M Q) : Ew l g d a b m pc ls (.int y :: .int x :: st) sh M Q := by
  intro p e R s mid args below meth c H locs cells slots Z lr X h1 h2 h3 h4 hH hlo hL hr
  exact lv_iand X.1 X.2.1 hd (k p e R s mid args below meth c H locs cells slots Z lr X h1 h2 h3 h4 hH hlo hL hr)
theorem ew_ior {x y : Int32} (hd : decode m.2.2.1 pc = .ok (.ior, 1)) (k : Ew l g d a b m (pc + 1) ls (.int (x ||| y) :: st) sh M Q) : Ew l g d a b m pc ls (.int y :: .int x :: st) sh M Q := by
  intro p e R s mid args below meth c H locs cells slots Z lr X h1 h2 h3 h4 hH hlo hL hr
  exact lv_ior X.1 X.2.1 hd (k p e R s mid args below meth c H locs cells slots Z lr X h1 h2 h3 h4 hH hlo hL hr)
theorem ew_ixor {x y : Int32} (hd : decode m.2.2.1 pc = .ok (.ixor, 1)) (k : Ew l g d a b m (pc + 1) ls (.int (x ^^^ y) :: st) sh M Q) : Ew l g d a b m pc ls (.int y :: .int x :: st) sh M Q := by
  intro p e R s mid args below meth c H locs cells slots Z lr X h1 h2 h3 h4 hH hlo hL hr
  exact lv_ixor X.1 X.2.1 hd (k p e R s mid args below meth c H locs cells slots Z lr X h1 h2 h3 h4 hH hlo hL hr)
theorem ew_ishl {x y : Int32} (hd : decode m.2.2.1 pc = .ok (.ishl, 1)) (k : Ew l g d a b m (pc + 1) ls (.int (x <<< (y &&& 31)) :: st) sh M Q) : Ew l g d a b m pc ls (.int y :: .int x :: st) sh M Q := by
  intro p e R s mid args below meth c H locs cells slots Z lr X h1 h2 h3 h4 hH hlo hL hr
  exact lv_ishl X.1 X.2.1 hd (k p e R s mid args below meth c H locs cells slots Z lr X h1 h2 h3 h4 hH hlo hL hr)
theorem ew_ishr {x y : Int32} (hd : decode m.2.2.1 pc = .ok (.ishr, 1)) (k : Ew l g d a b m (pc + 1) ls (.int (x >>> (y &&& 31)) :: st) sh M Q) : Ew l g d a b m pc ls (.int y :: .int x :: st) sh M Q := by
  intro p e R s mid args below meth c H locs cells slots Z lr X h1 h2 h3 h4 hH hlo hL hr
  exact lv_ishr X.1 X.2.1 hd (k p e R s mid args below meth c H locs cells slots Z lr X h1 h2 h3 h4 hH hlo hL hr)
theorem ew_iushr {x y : Int32} (hd : decode m.2.2.1 pc = .ok (.iushr, 1)) (k : Ew l g d a b m (pc + 1) ls (.int (x.toUInt32 >>> (y.toUInt32 &&& Int32.toUInt32 31)).toInt32 :: st) sh M Q) : Ew l g d a b m pc ls (.int y :: .int x :: st) sh M Q := by
  intro p e R s mid args below meth c H locs cells slots Z lr X h1 h2 h3 h4 hH hlo hL hr
  exact lv_iushr X.1 X.2.1 hd rfl (k p e R s mid args below meth c H locs cells slots Z lr X h1 h2 h3 h4 hH hlo hL hr)
theorem ew_idiv {x y : Int32} (hd : decode m.2.2.1 pc = .ok (.idiv, 1)) (hne : ¬ y = 0) (k : Ew l g d a b m (pc + 1) ls (.int (x / y) :: st) sh M Q) : Ew l g d a b m pc ls (.int y :: .int x :: st) sh M Q := by
  intro p e R s mid args below meth c H locs cells slots Z lr X h1 h2 h3 h4 hH hlo hL hr
  exact lv_idiv X.1 X.2.1 hd hne (k p e R s mid args below meth c H locs cells slots Z lr X h1 h2 h3 h4 hH hlo hL hr)
theorem ew_irem {x y : Int32} (hd : decode m.2.2.1 pc = .ok (.irem, 1)) (hne : ¬ y = 0) (k : Ew l g d a b m (pc + 1) ls (.int (x - x / y * y) :: st) sh M Q) : Ew l g d a b m pc ls (.int y :: .int x :: st) sh M Q := by
  intro p e R s mid args below meth c H locs cells slots Z lr X h1 h2 h3 h4 hH hlo hL hr
  exact lv_irem X.1 X.2.1 hd hne (k p e R s mid args below meth c H locs cells slots Z lr X h1 h2 h3 h4 hH hlo hL hr)
theorem ew_ineg {x : Int32} (hd : decode m.2.2.1 pc = .ok (.ineg, 1)) (k : Ew l g d a b m (pc + 1) ls (.int (-x) :: st) sh M Q) : Ew l g d a b m pc ls (.int x :: st) sh M Q := by
  intro p e R s mid args below meth c H locs cells slots Z lr X h1 h2 h3 h4 hH hlo hL hr
  exact lv_ineg X.1 X.2.1 hd (k p e R s mid args below meth c H locs cells slots Z lr X h1 h2 h3 h4 hH hlo hL hr)
theorem ew_dupi {x : Int32} (hd : decode m.2.2.1 pc = .ok (.dup, 1)) (k : Ew l g d a b m (pc + 1) ls (.int x :: .int x :: st) sh M Q) : Ew l g d a b m pc ls (.int x :: st) sh M Q := by
  intro p e R s mid args below meth c H locs cells slots Z lr X h1 h2 h3 h4 hH hlo hL hr
  exact lv_dup X.1 X.2.1 hd rfl (k p e R s mid args below meth c H locs cells slots Z lr X h1 h2 h3 h4 hH hlo hL hr)
theorem ew_dupr {x : Nat} (hd : decode m.2.2.1 pc = .ok (.dup, 1)) (k : Ew l g d a b m (pc + 1) ls (.ref x :: .ref x :: st) sh M Q) : Ew l g d a b m pc ls (.ref x :: st) sh M Q := by
  intro p e R s mid args below meth c H locs cells slots Z lr X h1 h2 h3 h4 hH hlo hL hr
  exact lv_dup X.1 X.2.1 hd rfl (k p e R s mid args below meth c H locs cells slots Z lr X h1 h2 h3 h4 hH hlo hL hr)
theorem ew_dup2 {x : Int32} {r : Nat} (hd : decode m.2.2.1 pc = .ok (.dup2, 1)) (k : Ew l g d a b m (pc + 1) ls (.int x :: .ref r :: .int x :: .ref r :: st) sh M Q) : Ew l g d a b m pc ls (.int x :: .ref r :: st) sh M Q := by
  intro p e R s mid args below meth c H locs cells slots Z lr X h1 h2 h3 h4 hH hlo hL hr
  exact lv_dup2_11 X.1 X.2.1 hd rfl rfl (k p e R s mid args below meth c H locs cells slots Z lr X h1 h2 h3 h4 hH hlo hL hr)
theorem ew_popi {x : Int32} (hd : decode m.2.2.1 pc = .ok (.pop, 1)) (k : Ew l g d a b m (pc + 1) ls (st) sh M Q) : Ew l g d a b m pc ls (.int x :: st) sh M Q := by
  intro p e R s mid args below meth c H locs cells slots Z lr X h1 h2 h3 h4 hH hlo hL hr
  exact lv_pop X.1 X.2.1 hd rfl (k p e R s mid args below meth c H locs cells slots Z lr X h1 h2 h3 h4 hH hlo hL hr)
theorem ew_goto {off : Int} {tgt : Nat} (hd : decode m.2.2.1 pc = .ok (.goto off, 3)) (ht : (pc : Int) + off = (tgt : Int)) (k : Ew l g d a b m tgt ls st sh M Q) : Ew l g d a b m pc ls st sh M Q := by
  intro p e R s mid args below meth c H locs cells slots Z lr X h1 h2 h3 h4 hH hlo hL hr
  exact lv_goto X.1 X.2.1 hd ht (k p e R s mid args below meth c H locs cells slots Z lr X h1 h2 h3 h4 hH hlo hL hr)
theorem ew_istore_n {i : Fin 4} {x : Int32} (hd : decode m.2.2.1 pc = .ok (.istore_n i, 1)) (hi : i.val < ls.length) (k : Ew l g d a b m (pc + 1) (ls.set i.val (.int x)) st sh M Q) : Ew l g d a b m pc ls (.int x :: st) sh M Q := by
  intro p e R s mid args below meth c H locs cells slots Z lr X h1 h2 h3 h4 hH hlo hL hr
  exact lv_istore_n X.1 X.2.1 hd rfl hL.has (by rw [← hL.2.1]; exact hi) rfl (fun lr' hL' => k p e R s mid args below meth c H locs cells slots Z lr' X h1 h2 h3 h4 hH hlo (hL.put (w := .int x) hL') hr)
theorem ew_istore {i : Nat} {x : Int32} (hd : decode m.2.2.1 pc = .ok (.istore i, 2)) (hi : i < ls.length) (k : Ew l g d a b m (pc + 2) (ls.set i (.int x)) st sh M Q) : Ew l g d a b m pc ls (.int x :: st) sh M Q := by
  intro p e R s mid args below meth c H locs cells slots Z lr X h1 h2 h3 h4 hH hlo hL hr
  exact lv_istore X.1 X.2.1 hd hL.has (by rw [← hL.2.1]; exact hi) rfl (fun lr' hL' => k p e R s mid args below meth c H locs cells slots Z lr' X h1 h2 h3 h4 hH hlo (hL.put (w := .int x) hL') hr)
theorem ew_astore_n {i : Fin 4} {x : Nat} (hd : decode m.2.2.1 pc = .ok (.astore_n i, 1)) (hi : i.val < ls.length) (k : Ew l g d a b m (pc + 1) (ls.set i.val (.ref x)) st sh M Q) : Ew l g d a b m pc ls (.ref x :: st) sh M Q := by
  intro p e R s mid args below meth c H locs cells slots Z lr X h1 h2 h3 h4 hH hlo hL hr
  exact lv_astore_n X.1 X.2.1 hd rfl hL.has (by rw [← hL.2.1]; exact hi) rfl (fun lr' hL' => k p e R s mid args below meth c H locs cells slots Z lr' X h1 h2 h3 h4 hH hlo (hL.put (w := .ref x) hL') hr)
theorem ew_astore {i : Nat} {x : Nat} (hd : decode m.2.2.1 pc = .ok (.astore i, 2)) (hi : i < ls.length) (k : Ew l g d a b m (pc + 2) (ls.set i (.ref x)) st sh M Q) : Ew l g d a b m pc ls (.ref x :: st) sh M Q := by
  intro p e R s mid args below meth c H locs cells slots Z lr X h1 h2 h3 h4 hH hlo hL hr
  exact lv_astore X.1 X.2.1 hd hL.has (by rw [← hL.2.1]; exact hi) rfl (fun lr' hL' => k p e R s mid args below meth c H locs cells slots Z lr' X h1 h2 h3 h4 hH hlo (hL.put (w := .ref x) hL') hr)
theorem ew_iinc {i : Nat} {n : Int} {x v : Int32} (hd : decode m.2.2.1 pc = .ok (.iinc i n, 3)) (hl : ls[i]? = some (.int x)) (hv : x + Int32.ofInt n = v) (k : Ew l g d a b m (pc + 3) (ls.set i (.int v)) st sh M Q) : Ew l g d a b m pc ls st sh M Q := by
  intro p e R s mid args below meth c H locs cells slots Z lr X h1 h2 h3 h4 hH hlo hL hr
  have hi : i < ls.length := (List.getElem?_eq_some_iff.mp hl).1
  obtain ⟨j, hj⟩ := List.getElem?_of_mem (ew_ls_mem.mpr ⟨Value.int x, hl, rfl, rfl⟩ : (i, ew_v g (.int x)) ∈ ew_ls g ls)
  exact lv_iinc X.1 X.2.1 hd hL.has hj hv (by rw [← hL.2.1]; exact hi) rfl (fun lr' hL' => k p e R s mid args below meth c H locs cells slots Z lr' X h1 h2 h3 h4 hH hlo (hL.put (w := .int v) hL') hr)
theorem ew_if_eq {x : Int32} {off : Int} {tgt : Nat} (hd : decode m.2.2.1 pc = .ok (.ifCond .eq off, 3)) (ht : (pc : Int) + off = (tgt : Int)) (kt : x = 0 → Ew l g d a b m tgt ls st sh M Q) (kf : ¬ x = 0 → Ew l g d a b m (pc + 3) ls st sh M Q) : Ew l g d a b m pc ls (.int x :: st) sh M Q := by
  intro p e R s mid args below meth c H locs cells slots Z lr X h1 h2 h3 h4 hH hlo hL hr
  exact lv_if_eq X.1 X.2.1 hd ht (fun q => kt q p e R s mid args below meth c H locs cells slots Z lr X h1 h2 h3 h4 hH hlo hL hr) (fun q => kf q p e R s mid args below meth c H locs cells slots Z lr X h1 h2 h3 h4 hH hlo hL hr)
theorem ew_icmp_eq {x y : Int32} {off : Int} {tgt : Nat} (hd : decode m.2.2.1 pc = .ok (.if_icmp .eq off, 3)) (ht : (pc : Int) + off = (tgt : Int)) (kt : x = y → Ew l g d a b m tgt ls st sh M Q) (kf : ¬ x = y → Ew l g d a b m (pc + 3) ls st sh M Q) : Ew l g d a b m pc ls (.int y :: .int x :: st) sh M Q := by
  intro p e R s mid args below meth c H locs cells slots Z lr X h1 h2 h3 h4 hH hlo hL hr
  exact lv_icmp_eq X.1 X.2.1 hd ht (fun q => kt q p e R s mid args below meth c H locs cells slots Z lr X h1 h2 h3 h4 hH hlo hL hr) (fun q => kf q p e R s mid args below meth c H locs cells slots Z lr X h1 h2 h3 h4 hH hlo hL hr)
theorem ew_if_ne {x : Int32} {off : Int} {tgt : Nat} (hd : decode m.2.2.1 pc = .ok (.ifCond .ne off, 3)) (ht : (pc : Int) + off = (tgt : Int)) (kt : ¬ x = 0 → Ew l g d a b m tgt ls st sh M Q) (kf : x = 0 → Ew l g d a b m (pc + 3) ls st sh M Q) : Ew l g d a b m pc ls (.int x :: st) sh M Q := by
  intro p e R s mid args below meth c H locs cells slots Z lr X h1 h2 h3 h4 hH hlo hL hr
  exact lv_if_ne X.1 X.2.1 hd ht (fun q => kt q p e R s mid args below meth c H locs cells slots Z lr X h1 h2 h3 h4 hH hlo hL hr) (fun q => kf q p e R s mid args below meth c H locs cells slots Z lr X h1 h2 h3 h4 hH hlo hL hr)
theorem ew_icmp_ne {x y : Int32} {off : Int} {tgt : Nat} (hd : decode m.2.2.1 pc = .ok (.if_icmp .ne off, 3)) (ht : (pc : Int) + off = (tgt : Int)) (kt : ¬ x = y → Ew l g d a b m tgt ls st sh M Q) (kf : x = y → Ew l g d a b m (pc + 3) ls st sh M Q) : Ew l g d a b m pc ls (.int y :: .int x :: st) sh M Q := by
  intro p e R s mid args below meth c H locs cells slots Z lr X h1 h2 h3 h4 hH hlo hL hr
  exact lv_icmp_ne X.1 X.2.1 hd ht (fun q => kt q p e R s mid args below meth c H locs cells slots Z lr X h1 h2 h3 h4 hH hlo hL hr) (fun q => kf q p e R s mid args below meth c H locs cells slots Z lr X h1 h2 h3 h4 hH hlo hL hr)
theorem ew_if_lt {x : Int32} {off : Int} {tgt : Nat} (hd : decode m.2.2.1 pc = .ok (.ifCond .lt off, 3)) (ht : (pc : Int) + off = (tgt : Int)) (kt : x < 0 → Ew l g d a b m tgt ls st sh M Q) (kf : ¬ x < 0 → Ew l g d a b m (pc + 3) ls st sh M Q) : Ew l g d a b m pc ls (.int x :: st) sh M Q := by
  intro p e R s mid args below meth c H locs cells slots Z lr X h1 h2 h3 h4 hH hlo hL hr
  exact lv_if_lt X.1 X.2.1 hd ht (fun q => kt q p e R s mid args below meth c H locs cells slots Z lr X h1 h2 h3 h4 hH hlo hL hr) (fun q => kf q p e R s mid args below meth c H locs cells slots Z lr X h1 h2 h3 h4 hH hlo hL hr)
theorem ew_icmp_lt {x y : Int32} {off : Int} {tgt : Nat} (hd : decode m.2.2.1 pc = .ok (.if_icmp .lt off, 3)) (ht : (pc : Int) + off = (tgt : Int)) (kt : x < y → Ew l g d a b m tgt ls st sh M Q) (kf : ¬ x < y → Ew l g d a b m (pc + 3) ls st sh M Q) : Ew l g d a b m pc ls (.int y :: .int x :: st) sh M Q := by
  intro p e R s mid args below meth c H locs cells slots Z lr X h1 h2 h3 h4 hH hlo hL hr
  exact lv_icmp_lt X.1 X.2.1 hd ht (fun q => kt q p e R s mid args below meth c H locs cells slots Z lr X h1 h2 h3 h4 hH hlo hL hr) (fun q => kf q p e R s mid args below meth c H locs cells slots Z lr X h1 h2 h3 h4 hH hlo hL hr)
theorem ew_if_ge {x : Int32} {off : Int} {tgt : Nat} (hd : decode m.2.2.1 pc = .ok (.ifCond .ge off, 3)) (ht : (pc : Int) + off = (tgt : Int)) (kt : 0 ≤ x → Ew l g d a b m tgt ls st sh M Q) (kf : ¬ 0 ≤ x → Ew l g d a b m (pc + 3) ls st sh M Q) : Ew l g d a b m pc ls (.int x :: st) sh M Q := by
  intro p e R s mid args below meth c H locs cells slots Z lr X h1 h2 h3 h4 hH hlo hL hr
  exact lv_if_ge X.1 X.2.1 hd ht (fun q => kt q p e R s mid args below meth c H locs cells slots Z lr X h1 h2 h3 h4 hH hlo hL hr) (fun q => kf q p e R s mid args below meth c H locs cells slots Z lr X h1 h2 h3 h4 hH hlo hL hr)
theorem ew_icmp_ge {x y : Int32} {off : Int} {tgt : Nat} (hd : decode m.2.2.1 pc = .ok (.if_icmp .ge off, 3)) (ht : (pc : Int) + off = (tgt : Int)) (kt : y ≤ x → Ew l g d a b m tgt ls st sh M Q) (kf : ¬ y ≤ x → Ew l g d a b m (pc + 3) ls st sh M Q) : Ew l g d a b m pc ls (.int y :: .int x :: st) sh M Q := by
  intro p e R s mid args below meth c H locs cells slots Z lr X h1 h2 h3 h4 hH hlo hL hr
  exact lv_icmp_ge X.1 X.2.1 hd ht (fun q => kt q p e R s mid args below meth c H locs cells slots Z lr X h1 h2 h3 h4 hH hlo hL hr) (fun q => kf q p e R s mid args below meth c H locs cells slots Z lr X h1 h2 h3 h4 hH hlo hL hr)
theorem ew_if_gt {x : Int32} {off : Int} {tgt : Nat} (hd : decode m.2.2.1 pc = .ok (.ifCond .gt off, 3)) (ht : (pc : Int) + off = (tgt : Int)) (kt : 0 < x → Ew l g d a b m tgt ls st sh M Q) (kf : ¬ 0 < x → Ew l g d a b m (pc + 3) ls st sh M Q) : Ew l g d a b m pc ls (.int x :: st) sh M Q := by
  intro p e R s mid args below meth c H locs cells slots Z lr X h1 h2 h3 h4 hH hlo hL hr
  exact lv_if_gt X.1 X.2.1 hd ht (fun q => kt q p e R s mid args below meth c H locs cells slots Z lr X h1 h2 h3 h4 hH hlo hL hr) (fun q => kf q p e R s mid args below meth c H locs cells slots Z lr X h1 h2 h3 h4 hH hlo hL hr)
theorem ew_icmp_gt {x y : Int32} {off : Int} {tgt : Nat} (hd : decode m.2.2.1 pc = .ok (.if_icmp .gt off, 3)) (ht : (pc : Int) + off = (tgt : Int)) (kt : y < x → Ew l g d a b m tgt ls st sh M Q) (kf : ¬ y < x → Ew l g d a b m (pc + 3) ls st sh M Q) : Ew l g d a b m pc ls (.int y :: .int x :: st) sh M Q := by
  intro p e R s mid args below meth c H locs cells slots Z lr X h1 h2 h3 h4 hH hlo hL hr
  exact lv_icmp_gt X.1 X.2.1 hd ht (fun q => kt q p e R s mid args below meth c H locs cells slots Z lr X h1 h2 h3 h4 hH hlo hL hr) (fun q => kf q p e R s mid args below meth c H locs cells slots Z lr X h1 h2 h3 h4 hH hlo hL hr)
theorem ew_if_le {x : Int32} {off : Int} {tgt : Nat} (hd : decode m.2.2.1 pc = .ok (.ifCond .le off, 3)) (ht : (pc : Int) + off = (tgt : Int)) (kt : x ≤ 0 → Ew l g d a b m tgt ls st sh M Q) (kf : ¬ x ≤ 0 → Ew l g d a b m (pc + 3) ls st sh M Q) : Ew l g d a b m pc ls (.int x :: st) sh M Q := by
  intro p e R s mid args below meth c H locs cells slots Z lr X h1 h2 h3 h4 hH hlo hL hr
  exact lv_if_le X.1 X.2.1 hd ht (fun q => kt q p e R s mid args below meth c H locs cells slots Z lr X h1 h2 h3 h4 hH hlo hL hr) (fun q => kf q p e R s mid args below meth c H locs cells slots Z lr X h1 h2 h3 h4 hH hlo hL hr)
theorem ew_icmp_le {x y : Int32} {off : Int} {tgt : Nat} (hd : decode m.2.2.1 pc = .ok (.if_icmp .le off, 3)) (ht : (pc : Int) + off = (tgt : Int)) (kt : x ≤ y → Ew l g d a b m tgt ls st sh M Q) (kf : ¬ x ≤ y → Ew l g d a b m (pc + 3) ls st sh M Q) : Ew l g d a b m pc ls (.int y :: .int x :: st) sh M Q := by
  intro p e R s mid args below meth c H locs cells slots Z lr X h1 h2 h3 h4 hH hlo hL hr
  exact lv_icmp_le X.1 X.2.1 hd ht (fun q => kt q p e R s mid args below meth c H locs cells slots Z lr X h1 h2 h3 h4 hH hlo hL hr) (fun q => kf q p e R s mid args below meth c H locs cells slots Z lr X h1 h2 h3 h4 hH hlo hL hr)
theorem ew_swOut {x : Int32} {df lo hi : Int} {offs : Array Int} {len tgt : Nat} (hd : decode m.2.2.1 pc = .ok (.tableswitch df lo hi offs, len)) (h : x.toInt < lo ∨ hi < x.toInt) (ht : (pc : Int) + df = (tgt : Int)) (k : Ew l g d a b m tgt ls st sh M Q) : Ew l g d a b m pc ls (.int x :: st) sh M Q := by
  intro p e R s mid args below meth c H locs cells slots Z lr X h1 h2 h3 h4 hH hlo hL hr
  exact lv_tableOut X.1 X.2.1 hd h ht (k p e R s mid args below meth c H locs cells slots Z lr X h1 h2 h3 h4 hH hlo hL hr)
theorem ew_swIn {x : Int32} {df lo hi off : Int} {offs : Array Int} {len tgt : Nat} (hd : decode m.2.2.1 pc = .ok (.tableswitch df lo hi offs, len)) (hA : ¬ x.toInt < lo) (hB : ¬ hi < x.toInt) (ho : offs[(x.toInt - lo).toNat]? = some off) (ht : (pc : Int) + off = (tgt : Int)) (k : Ew l g d a b m tgt ls st sh M Q) : Ew l g d a b m pc ls (.int x :: st) sh M Q := by
  intro p e R s mid args below meth c H locs cells slots Z lr X h1 h2 h3 h4 hH hlo hL hr
  exact lv_tableIn X.1 X.2.1 hd hA hB ho ht (k p e R s mid args below meth c H locs cells slots Z lr X h1 h2 h3 h4 hH hlo hL hr)
theorem ew_ret (hd : decode m.2.2.1 pc = .ok (.return_, 1)) (hm : m.2.2.2.2 = none) (hq : Q none sh M) : Ew l g d a b m pc ls [] sh M Q := by
  intro p e R s mid args below meth c H locs cells slots Z lr X h1 h2 h3 h4 hH hlo hL hr
  refine W.widen (Nat.le_add_right cells a) (Nat.le_add_right slots b) ?_
  exact hr none sh M H locs pc lr hq hH hlo ⟨hm, hd⟩
theorem ew_iret {x : Int32} (hd : decode m.2.2.1 pc = .ok (.ireturn, 1)) (hm : m.2.2.2.2 = some .int) (hq : Q (some (.int x)) sh M) : Ew l g d a b m pc ls [.int x] sh M Q := by
  intro p e R s mid args below meth c H locs cells slots Z lr X h1 h2 h3 h4 hH hlo hL hr
  refine W.widen (Nat.le_add_right cells a) (Nat.le_add_right slots b) ?_
  exact hr (some (.int x)) sh M H locs pc lr hq hH hlo ⟨hd, Or.inl hm⟩
theorem ew_zret {x : Int32} (hd : decode m.2.2.1 pc = .ok (.ireturn, 1)) (hm : m.2.2.2.2 = some .boolean) (hx : x = 0 ∨ x = 1) (hq : Q (some (.int x)) sh M) : Ew l g d a b m pc ls [.int x] sh M Q := by
  intro p e R s mid args below meth c H locs cells slots Z lr X h1 h2 h3 h4 hH hlo hL hr
  refine W.widen (Nat.le_add_right cells a) (Nat.le_add_right slots b) ?_
  exact hr (some (.int x)) sh M H locs pc lr hq hH hlo ⟨hd, Or.inr ⟨hm, hx⟩⟩
theorem ew_mono {Q' : Option Value → List ew_S → ew_M → Prop} (h : Ew l g d a b m pc ls st sh M Q') (hq : ∀ v sh' M', Q' v sh' M' → Q v sh' M') : Ew l g d a b m pc ls st sh M Q := by
  intro p e R s mid args below meth c H locs cells slots Z lr X h1 h2 h3 h4 hH hlo hL hr
  exact h p e R s mid args below meth c H locs cells slots Z lr X h1 h2 h3 h4 hH hlo hL (fun v sh' M' H' locs' pc' lr' q => hr v sh' M' H' locs' pc' lr' (hq v sh' M' q))
theorem ew_room {a' b' : Nat} (ha : a ≤ a') (hb : b ≤ b') (h : Ew l g d a b m pc ls st sh M Q) : Ew l g d a' b' m pc ls st sh M Q := by
  intro p e R s mid args below meth c H locs cells slots Z lr X h1 h2 h3 h4 hH hlo hL hr
  refine h p e R s mid args below meth c H locs cells slots Z lr X h1 h2 (by omega) (by omega) hH hlo hL (fun v sh' M' H' locs' pc' lr' q r w z => ?_)
  exact W.widen (by omega) (by omega) (hr v sh' M' H' locs' pc' lr' q r w z)
theorem ew_depth {d' : Nat} (hd : d ≤ d') (h : Ew l g d a b m pc ls st sh M Q) : Ew l g d' a b m pc ls st sh M Q := by
  intro p e R s mid args below meth c H locs cells slots Z lr X h1 h2 h3 h4 hH hlo hL hr
  exact h p e R s mid args below meth c H locs cells slots Z lr X (by omega) (by omega) h3 h4 hH hlo hL hr
end EWR
