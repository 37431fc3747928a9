def sp_mpq (ρ : sp_R) (ce : Nat → Nat → Nat) (L : Nat) (M0 : ew_M) : Option Value → List ew_S → ew_M → Prop := fun v sh' M' => sh' = ew_SH L ∧ v = some (.int (nI 0)) ∧ sp_F0 M0 M' ∧ M' 47 9 = ew_b true ∧ sp_pf ρ ce (M0 56) (M' 56)
theorem sp_mop {ρ : sp_R} {ce : Nat → Nat → Nat} {n0 n1 n2 n3 P0 P1 N0 Y0 N1 Y1 N2 Y2 N3 f f' : Nat → Int32} {k : Nat} (hP0 : ∀ i, i < 32 → P0 i = nI (sp_p ce 0 i)) (hP1 : ∀ i, i < 32 → P1 i = nI (sp_p ce 1 i)) (hN0 : ∀ m, m < 64 → N0 m = n0 m) (hN1 : ∀ m, m < 64 → N1 m = n1 m) (hN2 : ∀ m, m < 32 → N2 m = n2 m) (hN3 : ∀ m, m < 16 → N3 m = n3 m)
    (hY0 : ∀ i, i < 32 → Y0 i = nI (sp_v0 ρ ce (n0 1) i)) (hY1 : ∀ i, i < 16 → Y1 i = nI (sp_v1 ρ ce (n0 1) (n1 1) i)) (hY2 : ∀ i, i < 8 → Y2 i = nI (sp_v2 ρ ce (n0 1) (n1 1) (n2 1) i)) (hf : ∀ i, i < 179 → f i = f' i) :
    ∀ q, q < 179 → sp_ol Y0 N1 Y1 N2 Y2 N3 (sp_oc P0 P1 N0 f k (sp_j ρ ce (n0 1) (n1 1) (n2 1) (n3 1) k)) k (sp_j ρ ce (n0 1) (n1 1) (n2 1) (n3 1) k) q = sp_op ρ ce n0 n1 n2 n3 f' k q :=
  sp_ol_c hY0 hY1 hY2 (fun n _ h => hN1 n h) (fun n _ h => hN2 n h) (fun n _ h => hN3 n h) (sp_oc_c hP0 hP1 (fun n _ h => hN0 n h) hf)
theorem sp_wg_pos {ρ : sp_R} {ce : Nat → Nat → Nat} : ∀ (n r : Nat), r + n ≤ 8 → sp_wg ρ ce n r = -2 ∨ ∃ q, q < 8 ∧ sp_wg ρ ce n r = nI q
  | 0, _, _ => Or.inl rfl
  | n + 1, r, h => by
    unfold sp_wg
    split
    · exact Or.inr ⟨r, by omega, rfl⟩
    · exact sp_wg_pos n (r + 1) (by omega)
set_option maxRecDepth 100000 in
theorem sg_Mo_prE (l : Launch) (g : ew_G) (d L : Nat) (M0 M : ew_M) (ρ : sp_R) (ce : Nat → Nat → Nat) (n0 n1 n2 n3 : Nat → Int32) (hF : sp_FB3 ρ ce M0 n0 n1 n2 n3 M) :
    Ew l g (d + 4) 0 0 m_Mo_prove 180 [.ref 47, .retAddr 0, .int (nI 3), .retAddr 0] [] (ew_SH L) M (sp_mpq ρ ce L M0) := by
  obtain ⟨fr, pp, tr0, tr1, tr2, tr3, nd0, nd1, nd2, nd3, tk, rq, ly0, ly1, ly2, ly3⟩ := hF
  refine ew_iload_n d_Mo_prove_180 rfl ?_
  refine ew_iconst (v := nI 3) d_Mo_prove_181 (by decide) ?_
  refine en_icmp_ge (tgt := 233) d_Mo_prove_182 (by decide) (by decide) (by decide) (fun h182 => ?_) (fun h182 => by exact absurd h182 (by decide))
  refine ew_aload_n d_Mo_prove_233 rfl ?_
  refine ew_getr (ci := 9) (f := 10) d_Mo_prove_234 rfl rfl rfl tw_602 ?_
  refine ew_iconst (v := nI 4) d_Mo_prove_237 (by decide) ?_
  refine ew_aload_n d_Mo_prove_238 rfl ?_
  refine ew_getr (ci := 9) (f := 21) d_Mo_prove_239 rfl rfl rfl tw_612 ?_
  refine ew_bipush (v := nI 56) d_Mo_prove_242 (by decide) ?_
  refine ew_iald (j := 56) d_Mo_prove_244 rfl (rfl) (by decide) (by decide) ?_
  refine en_eq (st' := [.int (nI (sp_v3 ρ ce (n0 1) (n1 1) (n2 1) (n3 1))), .int (nI 4), .ref 56]) rfl (by rw [show (M 62 56) = (nI (sp_v3 ρ ce (n0 1) (n1 1) (n2 1) (n3 1))) from ly3]) rfl ?_
  refine ew_iast (j := 4) d_Mo_prove_245 rfl (by decide) (rfl) (by decide) (by decide) ?_
  refine ew_aload_n d_Mo_prove_246 rfl ?_
  refine ew_aload_n d_Mo_prove_247 rfl ?_
  refine ew_getr (ci := 9) (f := 10) d_Mo_prove_248 rfl rfl rfl tw_602 ?_
  refine ew_iconst (v := nI 4) d_Mo_prove_251 (by decide) ?_
  refine ew_iald (j := 4) d_Mo_prove_252 rfl (rfl) (by decide) (by decide) ?_
  refine en_eq (st' := [.int (nI (sp_v3 ρ ce (n0 1) (n1 1) (n2 1) (n3 1))), .ref 47]) rfl (by rw [show ((ew_w M 56 4 (nI (sp_v3 ρ ce (n0 1) (n1 1) (n2 1) (n3 1)))) 56 4) = (nI (sp_v3 ρ ce (n0 1) (n1 1) (n2 1) (n3 1))) from ew_w_at]) rfl ?_
  refine en_callVq (As := [.int (nI (sp_v3 ρ ce (n0 1) (n1 1) (n2 1) (n3 1)))]) (i := 47) (ci := 9) (st := []) d_Mo_prove_253 k_Mo_tellRest rfl rfl tw_787 tw_789 tp_42 rfl (Nat.le_of_ble_eq_true rfl) rfl (Nat.le_of_ble_eq_true rfl) rfl rfl (c_Mo_tellRest l g _ L (ew_w M 56 4 (nI (sp_v3 ρ ce (n0 1) (n1 1) (n2 1) (n3 1)))) (nI (sp_v3 ρ ce (n0 1) (n1 1) (n2 1) (n3 1)))) ?_
  rintro _ _ M5 ⟨rfl, rfl, p1, p2, _, p4⟩
  rw [ew_w_ne (by decide), tk] at p4
  show Ew l g _ _ _ m_Mo_prove 256 [.ref 47, .retAddr 0, .int (nI 3), .retAddr 0] [] (ew_SH L) M5 _
  refine ew_aload_n d_Mo_prove_256 rfl ?_
  refine ew_iconst (v := nI 5) d_Mo_prove_257 (by decide) ?_
  refine ew_puti (ci := 9) (f := 11) (ty := .int) d_Mo_prove_258 rfl (by decide) rfl rfl rfl (by decide +kernel) rfl rfl tw_603 ?_
  refine en_eq (M' := sp_wm M5 (M5 56) (5 + 58 * 0)) rfl rfl (by unfold sp_wm; rw [ew_up_id]) ?_
  refine ew_iconst (v := nI 0) d_Mo_prove_261 (by decide) ?_
  refine en_istore_n (ls' := [.ref 47, .retAddr 0, .int (nI 0), .retAddr 0]) d_Mo_prove_262 (Nat.le_of_ble_eq_true rfl) rfl ?_
  refine ew_iload_n d_Mo_prove_263 rfl ?_
  refine ew_iconst (v := nI 3) d_Mo_prove_264 (by decide) ?_
  refine en_icmp_ge (tgt := 284) d_Mo_prove_265 (by decide) (by decide) (by decide) (fun h265 => by exact absurd h265 (by decide)) (fun h265 => ?_)
  refine ew_aload_n d_Mo_prove_268 rfl ?_
  refine ew_aload_n d_Mo_prove_269 rfl ?_
  refine ew_getr (ci := 9) (f := 16) d_Mo_prove_270 rfl rfl rfl tw_607 ?_
  refine ew_iload_n d_Mo_prove_273 rfl ?_
  refine ew_iald (j := 0) d_Mo_prove_274 rfl (rfl) (by decide) (by decide) ?_
  refine en_eq (st' := [.int (nI (sp_j ρ ce (n0 1) (n1 1) (n2 1) (n3 1) 0)), .ref 47]) rfl (by rw [show ((sp_wm M5 (M5 56) (5 + 58 * 0)) 58 0) = (nI (sp_j ρ ce (n0 1) (n1 1) (n2 1) (n3 1) 0)) from by rw [sp_wm_ne (by decide) (by decide), p4 0 (by decide)]; rfl]) rfl ?_
  refine en_callV (As := [.int (nI (sp_j ρ ce (n0 1) (n1 1) (n2 1) (n3 1) 0))]) (i := 47) (ci := 9) (st := []) (st1 := []) d_Mo_prove_275 k_Mo_writeOpening rfl rfl tw_791 tw_793 tp_43 rfl (Nat.le_of_ble_eq_true rfl) rfl (Nat.le_of_ble_eq_true rfl) rfl rfl (c_Mo_writeOpening l g _ L M5 (M5 56) 0 (sp_j ρ ce (n0 1) (n1 1) (n2 1) (n3 1) 0) (sp_po_lt _) (by decide)) rfl ?_
  refine en_inc (ls' := [.ref 47, .retAddr 0, .int (nI 1), .retAddr 0]) d_Mo_prove_278 rfl rfl ?_
  refine ew_goto (tgt := 263) d_Mo_prove_281 (by decide) ?_
  refine ew_iload_n d_Mo_prove_263 rfl ?_
  refine ew_iconst (v := nI 3) d_Mo_prove_264 (by decide) ?_
  refine en_icmp_ge (tgt := 284) d_Mo_prove_265 (by decide) (by decide) (by decide) (fun h265 => by exact absurd h265 (by decide)) (fun h265 => ?_)
  refine ew_aload_n d_Mo_prove_268 rfl ?_
  refine ew_aload_n d_Mo_prove_269 rfl ?_
  refine ew_getr (ci := 9) (f := 16) d_Mo_prove_270 rfl rfl rfl tw_607 ?_
  refine ew_iload_n d_Mo_prove_273 rfl ?_
  refine ew_iald (j := 1) d_Mo_prove_274 rfl (rfl) (by decide) (by decide) ?_
  refine en_eq (st' := [.int (nI (sp_j ρ ce (n0 1) (n1 1) (n2 1) (n3 1) 1)), .ref 47]) rfl (by rw [show ((sp_wm M5 (sp_ol (fun i => M5 62 (0 + i)) (fun m => M5 63 (64 + m)) (fun i => M5 62 (32 + i)) (fun m => M5 63 (128 + m)) (fun i => M5 62 (48 + i)) (fun m => M5 63 (160 + m)) (sp_oc (fun i => M5 61 i) (fun i => M5 61 (32 + i)) (fun m => M5 63 (0 + m)) (M5 56) 0 (sp_j ρ ce (n0 1) (n1 1) (n2 1) (n3 1) 0)) 0 (sp_j ρ ce (n0 1) (n1 1) (n2 1) (n3 1) 0)) (5 + 58 * 1)) 58 1) = (nI (sp_j ρ ce (n0 1) (n1 1) (n2 1) (n3 1) 1)) from by rw [sp_wm_ne (by decide) (by decide), p4 1 (by decide)]; rfl]) rfl ?_
  refine en_callV (As := [.int (nI (sp_j ρ ce (n0 1) (n1 1) (n2 1) (n3 1) 1))]) (i := 47) (ci := 9) (st := []) (st1 := []) d_Mo_prove_275 k_Mo_writeOpening rfl rfl tw_791 tw_793 tp_43 rfl (Nat.le_of_ble_eq_true rfl) rfl (Nat.le_of_ble_eq_true rfl) rfl rfl (c_Mo_writeOpening l g _ L M5 (sp_ol (fun i => M5 62 (0 + i)) (fun m => M5 63 (64 + m)) (fun i => M5 62 (32 + i)) (fun m => M5 63 (128 + m)) (fun i => M5 62 (48 + i)) (fun m => M5 63 (160 + m)) (sp_oc (fun i => M5 61 i) (fun i => M5 61 (32 + i)) (fun m => M5 63 (0 + m)) (M5 56) 0 (sp_j ρ ce (n0 1) (n1 1) (n2 1) (n3 1) 0)) 0 (sp_j ρ ce (n0 1) (n1 1) (n2 1) (n3 1) 0)) 1 (sp_j ρ ce (n0 1) (n1 1) (n2 1) (n3 1) 1) (sp_po_lt _) (by decide)) rfl ?_
  refine en_inc (ls' := [.ref 47, .retAddr 0, .int (nI 2), .retAddr 0]) d_Mo_prove_278 rfl rfl ?_
  refine ew_goto (tgt := 263) d_Mo_prove_281 (by decide) ?_
  refine ew_iload_n d_Mo_prove_263 rfl ?_
  refine ew_iconst (v := nI 3) d_Mo_prove_264 (by decide) ?_
  refine en_icmp_ge (tgt := 284) d_Mo_prove_265 (by decide) (by decide) (by decide) (fun h265 => by exact absurd h265 (by decide)) (fun h265 => ?_)
  refine ew_aload_n d_Mo_prove_268 rfl ?_
  refine ew_aload_n d_Mo_prove_269 rfl ?_
  refine ew_getr (ci := 9) (f := 16) d_Mo_prove_270 rfl rfl rfl tw_607 ?_
  refine ew_iload_n d_Mo_prove_273 rfl ?_
  refine ew_iald (j := 2) d_Mo_prove_274 rfl (rfl) (by decide) (by decide) ?_
  refine en_eq (st' := [.int (nI (sp_j ρ ce (n0 1) (n1 1) (n2 1) (n3 1) 2)), .ref 47]) rfl (by rw [show ((sp_wm M5 (sp_ol (fun i => M5 62 (0 + i)) (fun m => M5 63 (64 + m)) (fun i => M5 62 (32 + i)) (fun m => M5 63 (128 + m)) (fun i => M5 62 (48 + i)) (fun m => M5 63 (160 + m)) (sp_oc (fun i => M5 61 i) (fun i => M5 61 (32 + i)) (fun m => M5 63 (0 + m)) (sp_ol (fun i => M5 62 (0 + i)) (fun m => M5 63 (64 + m)) (fun i => M5 62 (32 + i)) (fun m => M5 63 (128 + m)) (fun i => M5 62 (48 + i)) (fun m => M5 63 (160 + m)) (sp_oc (fun i => M5 61 i) (fun i => M5 61 (32 + i)) (fun m => M5 63 (0 + m)) (M5 56) 0 (sp_j ρ ce (n0 1) (n1 1) (n2 1) (n3 1) 0)) 0 (sp_j ρ ce (n0 1) (n1 1) (n2 1) (n3 1) 0)) 1 (sp_j ρ ce (n0 1) (n1 1) (n2 1) (n3 1) 1)) 1 (sp_j ρ ce (n0 1) (n1 1) (n2 1) (n3 1) 1)) (5 + 58 * 2)) 58 2) = (nI (sp_j ρ ce (n0 1) (n1 1) (n2 1) (n3 1) 2)) from by rw [sp_wm_ne (by decide) (by decide), p4 2 (by decide)]; rfl]) rfl ?_
  refine en_callV (As := [.int (nI (sp_j ρ ce (n0 1) (n1 1) (n2 1) (n3 1) 2))]) (i := 47) (ci := 9) (st := []) (st1 := []) d_Mo_prove_275 k_Mo_writeOpening rfl rfl tw_791 tw_793 tp_43 rfl (Nat.le_of_ble_eq_true rfl) rfl (Nat.le_of_ble_eq_true rfl) rfl rfl (c_Mo_writeOpening l g _ L M5 (sp_ol (fun i => M5 62 (0 + i)) (fun m => M5 63 (64 + m)) (fun i => M5 62 (32 + i)) (fun m => M5 63 (128 + m)) (fun i => M5 62 (48 + i)) (fun m => M5 63 (160 + m)) (sp_oc (fun i => M5 61 i) (fun i => M5 61 (32 + i)) (fun m => M5 63 (0 + m)) (sp_ol (fun i => M5 62 (0 + i)) (fun m => M5 63 (64 + m)) (fun i => M5 62 (32 + i)) (fun m => M5 63 (128 + m)) (fun i => M5 62 (48 + i)) (fun m => M5 63 (160 + m)) (sp_oc (fun i => M5 61 i) (fun i => M5 61 (32 + i)) (fun m => M5 63 (0 + m)) (M5 56) 0 (sp_j ρ ce (n0 1) (n1 1) (n2 1) (n3 1) 0)) 0 (sp_j ρ ce (n0 1) (n1 1) (n2 1) (n3 1) 0)) 1 (sp_j ρ ce (n0 1) (n1 1) (n2 1) (n3 1) 1)) 1 (sp_j ρ ce (n0 1) (n1 1) (n2 1) (n3 1) 1)) 2 (sp_j ρ ce (n0 1) (n1 1) (n2 1) (n3 1) 2) (sp_po_lt _) (by decide)) rfl ?_
  refine en_inc (ls' := [.ref 47, .retAddr 0, .int (nI 3), .retAddr 0]) d_Mo_prove_278 rfl rfl ?_
  refine ew_goto (tgt := 263) d_Mo_prove_281 (by decide) ?_
  refine ew_iload_n d_Mo_prove_263 rfl ?_
  refine ew_iconst (v := nI 3) d_Mo_prove_264 (by decide) ?_
  refine en_icmp_ge (tgt := 284) d_Mo_prove_265 (by decide) (by decide) (by decide) (fun h265 => ?_) (fun h265 => by exact absurd h265 (by decide))
  refine ew_aload_n d_Mo_prove_284 rfl ?_
  refine ew_iconst (v := nI 1) d_Mo_prove_285 (by decide) ?_
  refine ew_puti (ci := 9) (f := 9) (ty := .boolean) d_Mo_prove_286 rfl (by decide) rfl rfl rfl (by decide +kernel) (by decide) rfl tw_601 ?_
  refine ew_iconst (v := nI 0) d_Mo_prove_289 (by decide) ?_
  refine ew_iret d_Mo_prove_290 rfl (?_)
  refine ⟨rfl, rfl, ⟨fun q hq => ?_, fun j hj => ?_⟩, ew_w_at, n0, n1, n2, n3, ⟨tr0, tr1, tr2, tr3⟩, fun i hi => ?_⟩
  · have e47 : q ≠ 47 := fun e => hq (by rw [e]; decide)
    have e56 : q ≠ 56 := fun e => hq (by rw [e]; decide)
    have e58 : q ≠ 58 := fun e => hq (by rw [e]; decide)
    rw [ew_w_ne e47, sp_wm_ne e47 e56, p1 q e47 e58, ew_w_ne e56]
    exact fr.1 q hq
  · have e9 : j ≠ 9 := fun e => hj (by rw [e]; decide)
    have e11 : j ≠ 11 := fun e => hj (by rw [e]; decide)
    have e12 : j ≠ 12 := fun e => hj (by rw [e]; decide)
    rw [ew_w_j e9, sp_wm_47 e11, p2 j e12, ew_w_ne (by decide)]
    exact fr.2 j hj
  · rw [ew_w_ne (by decide), sp_wm_56]
    exact (sp_mop (k := 2) (fun i h => by (show M5 61 i = _; rw [p1 61 (by decide) (by decide), ew_w_ne (by decide)]; exact sp_pq0 pp h)) (fun i h => by (show M5 61 (32 + i) = _; rw [p1 61 (by decide) (by decide), ew_w_ne (by decide)]; exact sp_pq1 pp h)) (fun m h => by (show M5 63 (0 + m) = _; rw [p1 63 (by decide) (by decide), ew_w_ne (by decide)]; exact nd0 m h)) (fun m h => by (show M5 63 (64 + m) = _; rw [p1 63 (by decide) (by decide), ew_w_ne (by decide)]; exact nd1 m h)) (fun m h => by (show M5 63 (128 + m) = _; rw [p1 63 (by decide) (by decide), ew_w_ne (by decide)]; exact nd2 m h)) (fun m h => by (show M5 63 (160 + m) = _; rw [p1 63 (by decide) (by decide), ew_w_ne (by decide)]; exact nd3 m h)) (fun t h => by (show M5 62 (0 + t) = _; rw [p1 62 (by decide) (by decide), ew_w_ne (by decide)]; exact ly0 t h)) (fun t h => by (show M5 62 (32 + t) = _; rw [p1 62 (by decide) (by decide), ew_w_ne (by decide)]; exact ly1 t h)) (fun t h => by (show M5 62 (48 + t) = _; rw [p1 62 (by decide) (by decide), ew_w_ne (by decide)]; exact ly2 t h)) (sp_mop (k := 1) (fun i h => by (show M5 61 i = _; rw [p1 61 (by decide) (by decide), ew_w_ne (by decide)]; exact sp_pq0 pp h)) (fun i h => by (show M5 61 (32 + i) = _; rw [p1 61 (by decide) (by decide), ew_w_ne (by decide)]; exact sp_pq1 pp h)) (fun m h => by (show M5 63 (0 + m) = _; rw [p1 63 (by decide) (by decide), ew_w_ne (by decide)]; exact nd0 m h)) (fun m h => by (show M5 63 (64 + m) = _; rw [p1 63 (by decide) (by decide), ew_w_ne (by decide)]; exact nd1 m h)) (fun m h => by (show M5 63 (128 + m) = _; rw [p1 63 (by decide) (by decide), ew_w_ne (by decide)]; exact nd2 m h)) (fun m h => by (show M5 63 (160 + m) = _; rw [p1 63 (by decide) (by decide), ew_w_ne (by decide)]; exact nd3 m h)) (fun t h => by (show M5 62 (0 + t) = _; rw [p1 62 (by decide) (by decide), ew_w_ne (by decide)]; exact ly0 t h)) (fun t h => by (show M5 62 (32 + t) = _; rw [p1 62 (by decide) (by decide), ew_w_ne (by decide)]; exact ly1 t h)) (fun t h => by (show M5 62 (48 + t) = _; rw [p1 62 (by decide) (by decide), ew_w_ne (by decide)]; exact ly2 t h)) (sp_mop (k := 0) (fun i h => by (show M5 61 i = _; rw [p1 61 (by decide) (by decide), ew_w_ne (by decide)]; exact sp_pq0 pp h)) (fun i h => by (show M5 61 (32 + i) = _; rw [p1 61 (by decide) (by decide), ew_w_ne (by decide)]; exact sp_pq1 pp h)) (fun m h => by (show M5 63 (0 + m) = _; rw [p1 63 (by decide) (by decide), ew_w_ne (by decide)]; exact nd0 m h)) (fun m h => by (show M5 63 (64 + m) = _; rw [p1 63 (by decide) (by decide), ew_w_ne (by decide)]; exact nd1 m h)) (fun m h => by (show M5 63 (128 + m) = _; rw [p1 63 (by decide) (by decide), ew_w_ne (by decide)]; exact nd2 m h)) (fun m h => by (show M5 63 (160 + m) = _; rw [p1 63 (by decide) (by decide), ew_w_ne (by decide)]; exact nd3 m h)) (fun t h => by (show M5 62 (0 + t) = _; rw [p1 62 (by decide) (by decide), ew_w_ne (by decide)]; exact ly0 t h)) (fun t h => by (show M5 62 (32 + t) = _; rw [p1 62 (by decide) (by decide), ew_w_ne (by decide)]; exact ly1 t h)) (fun t h => by (show M5 62 (48 + t) = _; rw [p1 62 (by decide) (by decide), ew_w_ne (by decide)]; exact ly2 t h)) (fun i _ => by rw [p1 56 (by decide) (by decide), ew_w_self, rq]; rfl)))) i hi
set_option maxRecDepth 100000 in
theorem c_Mo_proveN (l : Launch) (g : ew_G) (d L : Nat) (M : ew_M) (ρ : sp_R) (hr : sp_rm ρ M) (h : sp_cc ρ + r_bn ρ = 0) :
    Ew l g (d + 4) 0 0 m_Mo_prove 0 [.ref 47, .retAddr 0, .retAddr 0, .retAddr 0] [] (ew_SH L) M (ew_q (some (.int (-1))) (ew_SH L) M) := by
  refine ew_aload_n d_Mo_prove_0 rfl ?_
  refine en_callV (As := []) (i := 47) (ci := 9) (st := []) (st1 := [.int (nI (sp_cc ρ))]) d_Mo_prove_1 k_Mo_constraints rfl rfl tw_739 tw_741 tp_34 rfl (Nat.le_of_ble_eq_true rfl) rfl (Nat.le_of_ble_eq_true rfl) rfl rfl (c_Mo_constraints l g _ L M ρ (hr)) rfl ?_
  refine ew_aload_n d_Mo_prove_4 rfl ?_
  refine ew_geti (ci := 9) (f := 5) d_Mo_prove_5 rfl rfl rfl tw_597 ?_
  refine en_eq (st' := [.int (nI (r_bn ρ)), .int (nI (sp_cc ρ))]) rfl (by rw [show (M 47 5) = (nI (r_bn ρ)) from hr.2.2.2.1]) rfl ?_
  refine en_iadd d_Mo_prove_8 ?_
  refine en_if_ne (tgt := 14) d_Mo_prove_9 (by decide) (by have := sp_cc_le ρ; have := hr.1.2.2.1; omega) (fun h9 => by exact absurd h h9) (fun h9 => ?_)
  refine ew_iconst (v := -1) d_Mo_prove_12 (by decide) ?_
  exact ew_iret d_Mo_prove_13 rfl (⟨rfl, rfl, rfl⟩)
set_option maxRecDepth 100000 in
theorem c_Mo_proveW (l : Launch) (g : ew_G) (d L : Nat) (M : ew_M) (ρ : sp_R) (hr : sp_rm ρ M) (ce : Nat → Nat → Nat) (hc : sp_cm ce M) (h : sp_cc ρ + r_bn ρ ≠ 0) (hw : sp_wrong ρ ce ≠ -2) :
    Ew l g (d + 4) 0 0 m_Mo_prove 0 [.ref 47, .retAddr 0, .retAddr 0, .retAddr 0] [] (ew_SH L) M (sp_mq L M (-10 - sp_wrong ρ ce)) := by
  refine ew_aload_n d_Mo_prove_0 rfl ?_
  refine en_callV (As := []) (i := 47) (ci := 9) (st := []) (st1 := [.int (nI (sp_cc ρ))]) d_Mo_prove_1 k_Mo_constraints rfl rfl tw_739 tw_741 tp_34 rfl (Nat.le_of_ble_eq_true rfl) rfl (Nat.le_of_ble_eq_true rfl) rfl rfl (c_Mo_constraints l g _ L M ρ (hr)) rfl ?_
  refine ew_aload_n d_Mo_prove_4 rfl ?_
  refine ew_geti (ci := 9) (f := 5) d_Mo_prove_5 rfl rfl rfl tw_597 ?_
  refine en_eq (st' := [.int (nI (r_bn ρ)), .int (nI (sp_cc ρ))]) rfl (by rw [show (M 47 5) = (nI (r_bn ρ)) from hr.2.2.2.1]) rfl ?_
  refine en_iadd d_Mo_prove_8 ?_
  refine en_if_ne (tgt := 14) d_Mo_prove_9 (by decide) (by have := sp_cc_le ρ; have := hr.1.2.2.1; omega) (fun h9 => ?_) (fun h9 => by exact absurd h9 h)
  refine ew_aload_n d_Mo_prove_14 rfl ?_
  refine en_callVq (As := []) (i := 47) (ci := 9) (st := []) d_Mo_prove_15 k_Mo_wrong rfl rfl tw_743 tw_720 tw_721 rfl (Nat.le_of_ble_eq_true rfl) rfl (Nat.le_of_ble_eq_true rfl) rfl rfl (c_Mo_wrong l g _ L M ρ hr ce hc) ?_
  rintro _ _ M1 ⟨rfl, rfl, a1⟩
  show Ew l g _ _ _ m_Mo_prove 18 [.ref 47, .retAddr 0, .retAddr 0, .retAddr 0] [.int (sp_wrong ρ ce)] (ew_SH L) M1 _
  refine en_istore_n (ls' := [.ref 47, .int (sp_wrong ρ ce), .retAddr 0, .retAddr 0]) d_Mo_prove_18 (Nat.le_of_ble_eq_true rfl) rfl ?_
  refine ew_iload_n d_Mo_prove_19 rfl ?_
  refine ew_if_lt (tgt := 28) d_Mo_prove_20 (by decide) (fun h20 => by (rcases sp_wg_pos (ρ := ρ) (ce := ce) 8 0 (by omega) with q | ⟨q, hq, e⟩; exact absurd q hw; unfold sp_wrong at h20; rw [e] at h20; exact absurd h20 (nI_pos (by omega)))) (fun h20 => ?_)
  refine ew_bipush (v := -10) d_Mo_prove_23 (by decide) ?_
  refine ew_iload_n d_Mo_prove_25 rfl ?_
  refine ew_isub d_Mo_prove_26 ?_
  exact ew_iret d_Mo_prove_27 rfl (⟨rfl, rfl, a1⟩)
set_option maxRecDepth 100000 in
theorem c_Mo_prove (l : Launch) (g : ew_G) (d L : Nat) (M : ew_M) (ρ : sp_R) (hr : sp_rm ρ M) (ce : Nat → Nat → Nat) (hc : sp_cm ce M) (hR : sp_rts M) (h : sp_cc ρ + r_bn ρ ≠ 0) (hw : sp_wrong ρ ce = -2) :
    Ew l g (d + 4) 0 0 m_Mo_prove 0 [.ref 47, .retAddr 0, .retAddr 0, .retAddr 0] [] (ew_SH L) M (sp_mpq ρ ce L M) := by
  refine ew_aload_n d_Mo_prove_0 rfl ?_
  refine en_callV (As := []) (i := 47) (ci := 9) (st := []) (st1 := [.int (nI (sp_cc ρ))]) d_Mo_prove_1 k_Mo_constraints rfl rfl tw_739 tw_741 tp_34 rfl (Nat.le_of_ble_eq_true rfl) rfl (Nat.le_of_ble_eq_true rfl) rfl rfl (c_Mo_constraints l g _ L M ρ (hr)) rfl ?_
  refine ew_aload_n d_Mo_prove_4 rfl ?_
  refine ew_geti (ci := 9) (f := 5) d_Mo_prove_5 rfl rfl rfl tw_597 ?_
  refine en_eq (st' := [.int (nI (r_bn ρ)), .int (nI (sp_cc ρ))]) rfl (by rw [show (M 47 5) = (nI (r_bn ρ)) from hr.2.2.2.1]) rfl ?_
  refine en_iadd d_Mo_prove_8 ?_
  refine en_if_ne (tgt := 14) d_Mo_prove_9 (by decide) (by have := sp_cc_le ρ; have := hr.1.2.2.1; omega) (fun h9 => ?_) (fun h9 => by exact absurd h9 h)
  refine ew_aload_n d_Mo_prove_14 rfl ?_
  refine en_callVq (As := []) (i := 47) (ci := 9) (st := []) d_Mo_prove_15 k_Mo_wrong rfl rfl tw_743 tw_720 tw_721 rfl (Nat.le_of_ble_eq_true rfl) rfl (Nat.le_of_ble_eq_true rfl) rfl rfl (c_Mo_wrong l g _ L M ρ hr ce hc) ?_
  rintro _ _ M1 ⟨rfl, rfl, a1⟩
  show Ew l g _ _ _ m_Mo_prove 18 [.ref 47, .retAddr 0, .retAddr 0, .retAddr 0] [.int (sp_wrong ρ ce)] (ew_SH L) M1 _
  refine en_istore_n (ls' := [.ref 47, .int (sp_wrong ρ ce), .retAddr 0, .retAddr 0]) d_Mo_prove_18 (Nat.le_of_ble_eq_true rfl) rfl ?_
  refine ew_iload_n d_Mo_prove_19 rfl ?_
  refine ew_if_lt (tgt := 28) d_Mo_prove_20 (by decide) (fun h20 => ?_) (fun h20 => by exact absurd (by rw [hw]; decide) h20)
  refine ew_iconst (v := nI 0) d_Mo_prove_28 (by decide) ?_
  refine en_istore_n (ls' := [.ref 47, .int (sp_wrong ρ ce), .int (nI 0), .retAddr 0]) d_Mo_prove_29 (Nat.le_of_ble_eq_true rfl) rfl ?_
  refine en_drop (ls' := [.ref 47, .retAddr 0, .int (nI 0), .retAddr 0]) ⟨Or.inl rfl, Or.inr rfl, Or.inl rfl, Or.inl rfl, trivial⟩ ?_
  have hF1 : sp_F0 M M1 := ⟨fun q hq => a1 q (fun e => hq (by rw [e]; decide)), fun j _ => by rw [a1 47 (by decide)]⟩
  refine sg_Mo_prP l g d L M1 (sp_F0_rts hF1 hR) ce (sp_cm_of hc (a1 48 (by decide))) _ (fun M2 h2 => ?_)
  refine sg_Mo_prA l g d L M M1 M2 ρ ce hr hR (sp_F0_m (S := [61]) hF1 (by decide) (by decide) (fun q hq => h2.1 q (fun e => hq (by rw [e]; decide)))) h2 (a1 56 (by decide)) _ (fun n0 M3 f3 => ?_)
  refine lp_Mo_prC l g d L M3 ρ (sp_F0_rm f3.1 hr) (sp_F0_rts f3.1 hR) ce f3.2.1 _ (sp_ch_lt _) f3.2.2.2.2.2.2 _ (fun M4 h4 => ?_) 33 0 M3 (by omega) (by omega) ⟨fun _ _ => rfl, fun t ht => absurd ht (Nat.not_lt_zero _)⟩
  refine ew_iconst (v := nI 0) d_Mo_prove_178 (by decide) ?_
  refine en_istore_n (ls' := [.ref 47, .retAddr 0, .int (nI 0), .retAddr 0]) d_Mo_prove_179 (Nat.le_of_ble_eq_true rfl) rfl ?_
  refine sg_Mo_prL0 l g d L M M4 ρ ce hr hR n0 (sp_FA_FB f3 h4) _ (fun n1 M5 f5 => ?_)
  refine sg_Mo_prL1 l g d L M M5 ρ ce hr hR n0 n1 f5 _ (fun n2 M6 f6 => ?_)
  refine sg_Mo_prL2 l g d L M M6 ρ ce hr hR n0 n1 n2 f6 _ (fun n3 M7 f7 => ?_)
  exact sg_Mo_prE l g d L M M7 ρ ce n0 n1 n2 n3 f7
