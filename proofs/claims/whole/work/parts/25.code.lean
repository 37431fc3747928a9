def sp_cdq (L : Nat) (M : ew_M) (c : Nat) : Option Value → List ew_S → ew_M → Prop := fun v sh' M' => sh' = ew_SH L ∧ v = some (.int (nI c)) ∧ (∀ q, q ≠ 16 → M' q = M q) ∧ M' 16 0 = nI 1
theorem sp_fo_lt (l i f g B : Nat) : sp_fo l i f g B < 12289 := ep_lt _
theorem ts_n {b : Bool} (h : b = true) : ¬ b = false := by rw [h]; decide
theorem sp_vbl {f : Nat → Int32} {fn : Nat → Nat} {i s q : Nat} (h : sp_fnok f fn) (h0 : i ∈ sp_ix) (h1 : i + s * 1 ∈ sp_ix) (hq : q < 2) : fn (i + s * q) < 2 ^ 31 := by
  rcases (show q = 0 ∨ q = 1 by omega) with rfl | rfl
  · exact Nat.lt_trans (h i h0).2 (by decide)
  · exact Nat.lt_trans (h (i + s * 1) h1).2 (by decide)
set_option maxRecDepth 100000 in
theorem c_Ve_codeOf0 (l : Launch) (g : ew_G) (d L : Nat) (M : ew_M) (ρ : sp_R) (hr : sp_ru ρ M) (hT : sp_tab M) (hs : sp_st M) (h16 : M 16 0 = nI 1) (fn : Nat → Nat) (hfn : sp_fnok (M 22) fn) (A B0 B1 B2 : Nat) (hA : M 44 1 = nI A) (hA2 : A < 12289) (hB0 : M 45 0 = nI B0) (hB02 : B0 < 12289) (hB1 : M 45 1 = nI B1) (hB12 : B1 < 12289) (hB2 : M 45 2 = nI B2) (hB22 : B2 < 12289) (j : Nat) (hj : M 46 0 = nI j) (hj2 : j < 16) :
    Ew l g (d + 4) 0 0 m_Ve_codeOf 0 [.ref 43, .int (nI 0)] [] (ew_SH L) M (sp_cdq L M (sp_code0 ρ (M 22) fn j A B0 B1 B2)) := by
  refine ew_aload_n d_Ve_codeOf_0 rfl ?_
  refine ew_iload_n d_Ve_codeOf_1 rfl ?_
  refine en_callV (As := [.int (nI 0)]) (i := 43) (ci := 6) (st := []) (st1 := [.int (ew_b (sp_vc0 (M 22) j))]) d_Ve_codeOf_2 k_Ve_doColumnPathsLead rfl rfl tw_538 tw_540 tp_22 rfl (Nat.le_of_ble_eq_true rfl) rfl (Nat.le_of_ble_eq_true rfl) rfl rfl (c_Ve_doColumnPathsLead0 l g _ L M hs j hj hj2) rfl ?_
  refine en_b_ne (tgt := 10) d_Ve_codeOf_5 (by decide) (fun h5 => ?_) (fun h5 => ?_)
  · refine ew_aload_n d_Ve_codeOf_10 rfl ?_
    refine ew_iload_n d_Ve_codeOf_11 rfl ?_
    refine ew_iconst (v := nI 0) d_Ve_codeOf_12 (by decide) ?_
    refine en_callV (As := [.int (nI 0), .int (nI 0)]) (i := 43) (ci := 6) (st := []) (st1 := [.int (ew_b (sp_vl00 (M 22) j))]) d_Ve_codeOf_13 k_Ve_doLayerPathsLead rfl rfl tw_552 tw_554 tp_23 rfl (Nat.le_of_ble_eq_true rfl) rfl (Nat.le_of_ble_eq_true rfl) rfl rfl (c_Ve_doLayerPathsLead00 l g _ L M hs j hj hj2) rfl ?_
    refine en_b_ne (tgt := 21) d_Ve_codeOf_16 (by decide) (fun h16_b => ?_) (fun h16_b => ?_)
    · have h16x := h16_b
      refine ew_aload_n d_Ve_codeOf_21 rfl ?_
      refine ew_iload_n d_Ve_codeOf_22 rfl ?_
      refine ew_iconst (v := nI 0) d_Ve_codeOf_23 (by decide) ?_
      refine en_callV (As := [.int (nI 0), .int (nI 0)]) (i := 43) (ci := 6) (st := []) (st1 := [.int (ew_b (sp_vo0 ρ fn j A 0))]) d_Ve_codeOf_24 k_Ve_isComposed rfl rfl tw_560 tw_562 tp_24 rfl (Nat.le_of_ble_eq_true rfl) rfl (Nat.le_of_ble_eq_true rfl) rfl rfl (c_Ve_isComposed00 l g _ L M ρ hr hT hs h16 fn hfn A hA hA2 j hj hj2) rfl ?_
      refine en_b_eq (tgt := 39) d_Ve_codeOf_27 (by decide) (fun h27 => ?_) (fun h27 => ?_)
      · refine ew_iconst (v := nI 4) d_Ve_codeOf_39 (by decide) ?_
        exact ew_iret d_Ve_codeOf_40 rfl (⟨rfl, by ((have hcomp : (sp_vo0 ρ fn j A 0 && sp_vo0 ρ fn j A 1) = false := (by first | (rw [h27]; rfl) | (rw [h27, h36]; rfl))); rw [show sp_code0 ρ (M 22) fn j A B0 B1 B2 = 4 from by (unfold sp_code0; rw [if_neg (ts_n h5), if_neg (ts_n h16x), if_pos hcomp])]), fun q hq => by first | exact sp_rd_ne hq | rw [sp_rd_ne hq, sp_rd_ne hq], by first | (rw [sp_rd_0]; exact h16) | (rw [sp_rd_0, sp_rd_0]; exact h16)⟩)
      · refine ew_aload_n d_Ve_codeOf_30 rfl ?_
        refine ew_iload_n d_Ve_codeOf_31 rfl ?_
        refine ew_iconst (v := nI 1) d_Ve_codeOf_32 (by decide) ?_
        refine en_callV (As := [.int (nI 0), .int (nI 1)]) (i := 43) (ci := 6) (st := []) (st1 := [.int (ew_b (sp_vo0 ρ fn j A 1))]) d_Ve_codeOf_33 k_Ve_isComposed rfl rfl tw_560 tw_562 tp_24 rfl (Nat.le_of_ble_eq_true rfl) rfl (Nat.le_of_ble_eq_true rfl) rfl rfl (c_Ve_isComposed01 l g _ L (sp_rd M 16 (nI (fn 5)) (nI (fn 6)) (nI (fn 12)) (nI (fn 13))) ρ (sp_ru_of hr (sp_rd_ne (by decide)) (sp_rd_ne (by decide)) (sp_rd_ne (by decide)) (sp_rd_ne (by decide)) (sp_rd_ne (by decide))) (sp_tab_of hT (sp_rd_ne (by decide)) (sp_rd_ne (by decide)) (sp_rd_ne (by decide)) (sp_rd_ne (by decide)) (sp_rd_ne (by decide))) (sp_st_of hs (sp_rd_ne (by decide)) (sp_rd_ne (by decide))) (by (rw [sp_rd_0]; exact h16)) fn (by (rw [sp_rd_ne (by decide)]; exact hfn)) A (by (rw [sp_rd_ne (by decide)]; exact hA)) hA2 j (by (rw [sp_rd_ne (by decide)]; exact hj)) hj2) rfl ?_
        refine en_b_ne (tgt := 41) d_Ve_codeOf_36 (by decide) (fun h36 => ?_) (fun h36 => ?_)
        · obtain ⟨N1, eN⟩ : ∃ X : ew_M, X = sp_rd (sp_rd M 16 (nI (fn 5)) (nI (fn 6)) (nI (fn 12)) (nI (fn 13))) 16 (nI (fn 19)) (nI (fn 20)) (nI (fn 26)) (nI (fn 27)) := ⟨_, rfl⟩
          refine en_eq rfl rfl eN.symm ?_
          have fr : ∀ q, q ≠ 16 → N1 q = M q := fun q hq => by rw [eN, sp_rd_ne hq, sp_rd_ne hq]
          have k16 : N1 16 0 = nI 1 := by rw [eN, sp_rd_0, sp_rd_0]; exact h16
          have e22 : N1 22 = M 22 := fr 22 (by decide)
          have kT : sp_tab N1 := sp_tab_of hT (fr 5 (by decide)) (fr 6 (by decide)) (fr 7 (by decide)) (fr 8 (by decide)) (fr 9 (by decide))
          have ks : sp_st N1 := sp_st_of hs (fr 1 (by decide)) (fr 2 (by decide))
          have kf : sp_fnok (N1 22) fn := by rw [e22]; exact hfn
          have kj : N1 46 0 = nI j := by rw [fr 46 (by decide)]; exact hj
          refine ew_aload_n d_Ve_codeOf_41 rfl ?_
          refine ew_iload_n d_Ve_codeOf_42 rfl ?_
          refine ew_iconst (v := nI 1) d_Ve_codeOf_43 (by decide) ?_
          refine en_callV (As := [.int (nI 0), .int (nI 1)]) (i := 43) (ci := 6) (st := []) (st1 := [.int (ew_b (sp_vl01 (M 22) j))]) d_Ve_codeOf_44 k_Ve_doLayerPathsLead rfl rfl tw_552 tw_554 tp_23 rfl (Nat.le_of_ble_eq_true rfl) rfl (Nat.le_of_ble_eq_true rfl) rfl rfl ((by have z := c_Ve_doLayerPathsLead01 l g d L N1 ks j kj hj2; rw [e22] at z; exact z)) rfl ?_
          refine en_b_ne (tgt := 52) d_Ve_codeOf_47 (by decide) (fun h47 => ?_) (fun h47 => ?_)
          · refine ew_aload_n d_Ve_codeOf_52 rfl ?_
            refine ew_iload_n d_Ve_codeOf_53 rfl ?_
            refine ew_iconst (v := nI 0) d_Ve_codeOf_54 (by decide) ?_
            refine en_callV (As := [.int (nI 0), .int (nI 0)]) (i := 43) (ci := 6) (st := []) (st1 := [.int (nI (sp_vf00 fn j B0))]) d_Ve_codeOf_55 k_Ve_folded rfl rfl tw_566 tw_568 tp_25 rfl (Nat.le_of_ble_eq_true rfl) rfl (Nat.le_of_ble_eq_true rfl) rfl rfl (c_Ve_folded00 l g _ L N1 kT ks fn kf B0 (by (rw [fr 45 (by decide)]; exact hB0)) hB02 j kj hj2) rfl ?_
            refine ew_aload_n d_Ve_codeOf_58 rfl ?_
            refine ew_iload_n d_Ve_codeOf_59 rfl ?_
            refine ew_iconst (v := nI 0) d_Ve_codeOf_60 (by decide) ?_
            refine en_callV (As := [.int (nI 0), .int (nI 0)]) (i := 43) (ci := 6) (st := [.int (nI (sp_vf00 fn j B0))]) (st1 := [.int (nI (sp_vb00 fn j)), .int (nI (sp_vf00 fn j B0))]) d_Ve_codeOf_61 k_Ve_valueBehind rfl rfl tw_571 tw_573 tp_26 rfl (Nat.le_of_ble_eq_true rfl) rfl (Nat.le_of_ble_eq_true rfl) rfl rfl (c_Ve_valueBehind00 l g _ L N1 ks fn kf j kj hj2) rfl ?_
            refine en_icmp_eq (tgt := 70) d_Ve_codeOf_64 (by decide) (by first | exact Nat.lt_trans (sp_fo_lt _ _ _ _ _) (by decide) | exact sp_vbl hfn (by decide) (by decide) (by omega)) (by first | exact Nat.lt_trans (sp_fo_lt _ _ _ _ _) (by decide) | exact sp_vbl hfn (by decide) (by decide) (by omega)) (fun h64 => ?_) (fun h64 => ?_)
            · refine ew_aload_n d_Ve_codeOf_70 rfl ?_
              refine ew_iload_n d_Ve_codeOf_71 rfl ?_
              refine ew_iconst (v := nI 2) d_Ve_codeOf_72 (by decide) ?_
              refine en_callV (As := [.int (nI 0), .int (nI 2)]) (i := 43) (ci := 6) (st := []) (st1 := [.int (ew_b (sp_vl02 (M 22) j))]) d_Ve_codeOf_73 k_Ve_doLayerPathsLead rfl rfl tw_552 tw_554 tp_23 rfl (Nat.le_of_ble_eq_true rfl) rfl (Nat.le_of_ble_eq_true rfl) rfl rfl ((by have z := c_Ve_doLayerPathsLead02 l g d L N1 ks j kj hj2; rw [e22] at z; exact z)) rfl ?_
              refine en_b_ne (tgt := 82) d_Ve_codeOf_76 (by decide) (fun h76 => ?_) (fun h76 => ?_)
              · refine ew_aload_n d_Ve_codeOf_82 rfl ?_
                refine ew_iload_n d_Ve_codeOf_83 rfl ?_
                refine ew_iconst (v := nI 1) d_Ve_codeOf_84 (by decide) ?_
                refine en_callV (As := [.int (nI 0), .int (nI 1)]) (i := 43) (ci := 6) (st := []) (st1 := [.int (nI (sp_vf01 fn j B1))]) d_Ve_codeOf_85 k_Ve_folded rfl rfl tw_566 tw_568 tp_25 rfl (Nat.le_of_ble_eq_true rfl) rfl (Nat.le_of_ble_eq_true rfl) rfl rfl (c_Ve_folded01 l g _ L N1 kT ks fn kf B1 (by (rw [fr 45 (by decide)]; exact hB1)) hB12 j kj hj2) rfl ?_
                refine ew_aload_n d_Ve_codeOf_88 rfl ?_
                refine ew_iload_n d_Ve_codeOf_89 rfl ?_
                refine ew_iconst (v := nI 1) d_Ve_codeOf_90 (by decide) ?_
                refine en_callV (As := [.int (nI 0), .int (nI 1)]) (i := 43) (ci := 6) (st := [.int (nI (sp_vf01 fn j B1))]) (st1 := [.int (nI (sp_vb01 fn j)), .int (nI (sp_vf01 fn j B1))]) d_Ve_codeOf_91 k_Ve_valueBehind rfl rfl tw_571 tw_573 tp_26 rfl (Nat.le_of_ble_eq_true rfl) rfl (Nat.le_of_ble_eq_true rfl) rfl rfl (c_Ve_valueBehind01 l g _ L N1 ks fn kf j kj hj2) rfl ?_
                refine en_icmp_eq (tgt := 100) d_Ve_codeOf_94 (by decide) (by first | exact Nat.lt_trans (sp_fo_lt _ _ _ _ _) (by decide) | exact sp_vbl hfn (by decide) (by decide) (by omega)) (by first | exact Nat.lt_trans (sp_fo_lt _ _ _ _ _) (by decide) | exact sp_vbl hfn (by decide) (by decide) (by omega)) (fun h94 => ?_) (fun h94 => ?_)
                · refine ew_aload_n d_Ve_codeOf_100 rfl ?_
                  refine ew_iload_n d_Ve_codeOf_101 rfl ?_
                  refine ew_iconst (v := nI 2) d_Ve_codeOf_102 (by decide) ?_
                  refine en_callV (As := [.int (nI 0), .int (nI 2)]) (i := 43) (ci := 6) (st := []) (st1 := [.int (nI (sp_vf02 fn j B2))]) d_Ve_codeOf_103 k_Ve_folded rfl rfl tw_566 tw_568 tp_25 rfl (Nat.le_of_ble_eq_true rfl) rfl (Nat.le_of_ble_eq_true rfl) rfl rfl (c_Ve_folded02 l g _ L N1 kT ks fn kf B2 (by (rw [fr 45 (by decide)]; exact hB2)) hB22 j kj hj2) rfl ?_
                  refine ew_aload_n d_Ve_codeOf_106 rfl ?_
                  refine ew_getr (ci := 6) (f := 3) d_Ve_codeOf_107 rfl rfl rfl tw_200 ?_
                  refine ew_iconst (v := nI 4) d_Ve_codeOf_110 (by decide) ?_
                  refine ew_iald (j := 4) d_Ve_codeOf_111 rfl (rfl) (by decide) (by decide) ?_
                  refine en_eq (st' := [.int (nI (fn 4)), .int (nI (sp_vf02 fn j B2))]) rfl (by rw [show (N1 22 4) = (nI (fn 4)) from by (rw [e22]; exact (hfn 4 (by decide)).1)]) rfl ?_
                  refine en_icmp_ne (tgt := 119) d_Ve_codeOf_112 (by decide) (by first | exact Nat.lt_trans (hfn 4 (by decide)).2 (by decide) | exact Nat.lt_trans (sp_fo_lt _ _ _ _ _) (by decide)) (by first | exact Nat.lt_trans (hfn 4 (by decide)).2 (by decide) | exact Nat.lt_trans (sp_fo_lt _ _ _ _ _) (by decide)) (fun h112 => ?_) (fun h112 => ?_)
                  · refine ew_bipush (v := nI 9) d_Ve_codeOf_119 (by decide) ?_
                    exact ew_iret d_Ve_codeOf_121 rfl (⟨rfl, by ((have hcomp : (sp_vo0 ρ fn j A 0 && sp_vo0 ρ fn j A 1) = true := (by rw [h27, h36]; rfl)); rw [show sp_code0 ρ (M 22) fn j A B0 B1 B2 = 9 from by (unfold sp_code0; rw [if_neg (ts_n h5), if_neg (ts_n h16x), if_neg (ts_n hcomp), if_neg (ts_n h47), if_neg (fun q => q h64), if_neg (ts_n h76), if_neg (fun q => q h94), if_neg h112])]), fr, k16⟩)
                  · refine ew_iconst (v := nI 0) d_Ve_codeOf_115 (by decide) ?_
                    refine ew_goto (tgt := 121) d_Ve_codeOf_116 (by decide) ?_
                    exact ew_iret d_Ve_codeOf_121 rfl (⟨rfl, by ((have hcomp : (sp_vo0 ρ fn j A 0 && sp_vo0 ρ fn j A 1) = true := (by rw [h27, h36]; rfl)); rw [show sp_code0 ρ (M 22) fn j A B0 B1 B2 = 0 from by (unfold sp_code0; rw [if_neg (ts_n h5), if_neg (ts_n h16x), if_neg (ts_n hcomp), if_neg (ts_n h47), if_neg (fun q => q h64), if_neg (ts_n h76), if_neg (fun q => q h94), if_pos h112])]), fr, k16⟩)
                · refine ew_bipush (v := nI 8) d_Ve_codeOf_97 (by decide) ?_
                  exact ew_iret d_Ve_codeOf_99 rfl (⟨rfl, by ((have hcomp : (sp_vo0 ρ fn j A 0 && sp_vo0 ρ fn j A 1) = true := (by rw [h27, h36]; rfl)); rw [show sp_code0 ρ (M 22) fn j A B0 B1 B2 = 8 from by (unfold sp_code0; rw [if_neg (ts_n h5), if_neg (ts_n h16x), if_neg (ts_n hcomp), if_neg (ts_n h47), if_neg (fun q => q h64), if_neg (ts_n h76), if_pos h94])]), fr, k16⟩)
              · refine ew_bipush (v := nI 7) d_Ve_codeOf_79 (by decide) ?_
                exact ew_iret d_Ve_codeOf_81 rfl (⟨rfl, by ((have hcomp : (sp_vo0 ρ fn j A 0 && sp_vo0 ρ fn j A 1) = true := (by rw [h27, h36]; rfl)); rw [show sp_code0 ρ (M 22) fn j A B0 B1 B2 = 7 from by (unfold sp_code0; rw [if_neg (ts_n h5), if_neg (ts_n h16x), if_neg (ts_n hcomp), if_neg (ts_n h47), if_neg (fun q => q h64), if_pos h76])]), fr, k16⟩)
            · refine ew_bipush (v := nI 6) d_Ve_codeOf_67 (by decide) ?_
              exact ew_iret d_Ve_codeOf_69 rfl (⟨rfl, by ((have hcomp : (sp_vo0 ρ fn j A 0 && sp_vo0 ρ fn j A 1) = true := (by rw [h27, h36]; rfl)); rw [show sp_code0 ρ (M 22) fn j A B0 B1 B2 = 6 from by (unfold sp_code0; rw [if_neg (ts_n h5), if_neg (ts_n h16x), if_neg (ts_n hcomp), if_neg (ts_n h47), if_pos h64])]), fr, k16⟩)
          · refine ew_iconst (v := nI 5) d_Ve_codeOf_50 (by decide) ?_
            exact ew_iret d_Ve_codeOf_51 rfl (⟨rfl, by ((have hcomp : (sp_vo0 ρ fn j A 0 && sp_vo0 ρ fn j A 1) = true := (by rw [h27, h36]; rfl)); rw [show sp_code0 ρ (M 22) fn j A B0 B1 B2 = 5 from by (unfold sp_code0; rw [if_neg (ts_n h5), if_neg (ts_n h16x), if_neg (ts_n hcomp), if_pos h47])]), fr, k16⟩)
        · refine ew_iconst (v := nI 4) d_Ve_codeOf_39 (by decide) ?_
          exact ew_iret d_Ve_codeOf_40 rfl (⟨rfl, by ((have hcomp : (sp_vo0 ρ fn j A 0 && sp_vo0 ρ fn j A 1) = false := (by first | (rw [h27]; rfl) | (rw [h27, h36]; rfl))); rw [show sp_code0 ρ (M 22) fn j A B0 B1 B2 = 4 from by (unfold sp_code0; rw [if_neg (ts_n h5), if_neg (ts_n h16x), if_pos hcomp])]), fun q hq => by first | exact sp_rd_ne hq | rw [sp_rd_ne hq, sp_rd_ne hq], by first | (rw [sp_rd_0]; exact h16) | (rw [sp_rd_0, sp_rd_0]; exact h16)⟩)
    · have h16x := h16_b
      refine ew_iconst (v := nI 3) d_Ve_codeOf_19 (by decide) ?_
      exact ew_iret d_Ve_codeOf_20 rfl (⟨rfl, by (rw [show sp_code0 ρ (M 22) fn j A B0 B1 B2 = 3 from by (unfold sp_code0; rw [if_neg (ts_n h5), if_pos h16x])]), fun q hq => rfl, h16⟩)
  · refine ew_iconst (v := nI 2) d_Ve_codeOf_8 (by decide) ?_
    exact ew_iret d_Ve_codeOf_9 rfl (⟨rfl, by (rw [show sp_code0 ρ (M 22) fn j A B0 B1 B2 = 2 from by (unfold sp_code0; rw [if_pos h5])]), fun q hq => rfl, h16⟩)
set_option maxRecDepth 100000 in
theorem c_Ve_codeOf1 (l : Launch) (g : ew_G) (d L : Nat) (M : ew_M) (ρ : sp_R) (hr : sp_ru ρ M) (hT : sp_tab M) (hs : sp_st M) (h16 : M 16 0 = nI 1) (fn : Nat → Nat) (hfn : sp_fnok (M 22) fn) (A B0 B1 B2 : Nat) (hA : M 44 1 = nI A) (hA2 : A < 12289) (hB0 : M 45 0 = nI B0) (hB02 : B0 < 12289) (hB1 : M 45 1 = nI B1) (hB12 : B1 < 12289) (hB2 : M 45 2 = nI B2) (hB22 : B2 < 12289) (j : Nat) (hj : M 46 1 = nI j) (hj2 : j < 16) :
    Ew l g (d + 4) 0 0 m_Ve_codeOf 0 [.ref 43, .int (nI 1)] [] (ew_SH L) M (sp_cdq L M (sp_code1 ρ (M 22) fn j A B0 B1 B2)) := by
  refine ew_aload_n d_Ve_codeOf_0 rfl ?_
  refine ew_iload_n d_Ve_codeOf_1 rfl ?_
  refine en_callV (As := [.int (nI 1)]) (i := 43) (ci := 6) (st := []) (st1 := [.int (ew_b (sp_vc1 (M 22) j))]) d_Ve_codeOf_2 k_Ve_doColumnPathsLead rfl rfl tw_538 tw_540 tp_22 rfl (Nat.le_of_ble_eq_true rfl) rfl (Nat.le_of_ble_eq_true rfl) rfl rfl (c_Ve_doColumnPathsLead1 l g _ L M hs j hj hj2) rfl ?_
  refine en_b_ne (tgt := 10) d_Ve_codeOf_5 (by decide) (fun h5 => ?_) (fun h5 => ?_)
  · refine ew_aload_n d_Ve_codeOf_10 rfl ?_
    refine ew_iload_n d_Ve_codeOf_11 rfl ?_
    refine ew_iconst (v := nI 0) d_Ve_codeOf_12 (by decide) ?_
    refine en_callV (As := [.int (nI 1), .int (nI 0)]) (i := 43) (ci := 6) (st := []) (st1 := [.int (ew_b (sp_vl10 (M 22) j))]) d_Ve_codeOf_13 k_Ve_doLayerPathsLead rfl rfl tw_552 tw_554 tp_23 rfl (Nat.le_of_ble_eq_true rfl) rfl (Nat.le_of_ble_eq_true rfl) rfl rfl (c_Ve_doLayerPathsLead10 l g _ L M hs j hj hj2) rfl ?_
    refine en_b_ne (tgt := 21) d_Ve_codeOf_16 (by decide) (fun h16_b => ?_) (fun h16_b => ?_)
    · have h16x := h16_b
      refine ew_aload_n d_Ve_codeOf_21 rfl ?_
      refine ew_iload_n d_Ve_codeOf_22 rfl ?_
      refine ew_iconst (v := nI 0) d_Ve_codeOf_23 (by decide) ?_
      refine en_callV (As := [.int (nI 1), .int (nI 0)]) (i := 43) (ci := 6) (st := []) (st1 := [.int (ew_b (sp_vo1 ρ fn j A 0))]) d_Ve_codeOf_24 k_Ve_isComposed rfl rfl tw_560 tw_562 tp_24 rfl (Nat.le_of_ble_eq_true rfl) rfl (Nat.le_of_ble_eq_true rfl) rfl rfl (c_Ve_isComposed10 l g _ L M ρ hr hT hs h16 fn hfn A hA hA2 j hj hj2) rfl ?_
      refine en_b_eq (tgt := 39) d_Ve_codeOf_27 (by decide) (fun h27 => ?_) (fun h27 => ?_)
      · refine ew_iconst (v := nI 4) d_Ve_codeOf_39 (by decide) ?_
        exact ew_iret d_Ve_codeOf_40 rfl (⟨rfl, by ((have hcomp : (sp_vo1 ρ fn j A 0 && sp_vo1 ρ fn j A 1) = false := (by first | (rw [h27]; rfl) | (rw [h27, h36]; rfl))); rw [show sp_code1 ρ (M 22) fn j A B0 B1 B2 = 4 from by (unfold sp_code1; rw [if_neg (ts_n h5), if_neg (ts_n h16x), if_pos hcomp])]), fun q hq => by first | exact sp_rd_ne hq | rw [sp_rd_ne hq, sp_rd_ne hq], by first | (rw [sp_rd_0]; exact h16) | (rw [sp_rd_0, sp_rd_0]; exact h16)⟩)
      · refine ew_aload_n d_Ve_codeOf_30 rfl ?_
        refine ew_iload_n d_Ve_codeOf_31 rfl ?_
        refine ew_iconst (v := nI 1) d_Ve_codeOf_32 (by decide) ?_
        refine en_callV (As := [.int (nI 1), .int (nI 1)]) (i := 43) (ci := 6) (st := []) (st1 := [.int (ew_b (sp_vo1 ρ fn j A 1))]) d_Ve_codeOf_33 k_Ve_isComposed rfl rfl tw_560 tw_562 tp_24 rfl (Nat.le_of_ble_eq_true rfl) rfl (Nat.le_of_ble_eq_true rfl) rfl rfl (c_Ve_isComposed11 l g _ L (sp_rd M 16 (nI (fn 63)) (nI (fn 64)) (nI (fn 70)) (nI (fn 71))) ρ (sp_ru_of hr (sp_rd_ne (by decide)) (sp_rd_ne (by decide)) (sp_rd_ne (by decide)) (sp_rd_ne (by decide)) (sp_rd_ne (by decide))) (sp_tab_of hT (sp_rd_ne (by decide)) (sp_rd_ne (by decide)) (sp_rd_ne (by decide)) (sp_rd_ne (by decide)) (sp_rd_ne (by decide))) (sp_st_of hs (sp_rd_ne (by decide)) (sp_rd_ne (by decide))) (by (rw [sp_rd_0]; exact h16)) fn (by (rw [sp_rd_ne (by decide)]; exact hfn)) A (by (rw [sp_rd_ne (by decide)]; exact hA)) hA2 j (by (rw [sp_rd_ne (by decide)]; exact hj)) hj2) rfl ?_
        refine en_b_ne (tgt := 41) d_Ve_codeOf_36 (by decide) (fun h36 => ?_) (fun h36 => ?_)
        · obtain ⟨N1, eN⟩ : ∃ X : ew_M, X = sp_rd (sp_rd M 16 (nI (fn 63)) (nI (fn 64)) (nI (fn 70)) (nI (fn 71))) 16 (nI (fn 77)) (nI (fn 78)) (nI (fn 84)) (nI (fn 85)) := ⟨_, rfl⟩
          refine en_eq rfl rfl eN.symm ?_
          have fr : ∀ q, q ≠ 16 → N1 q = M q := fun q hq => by rw [eN, sp_rd_ne hq, sp_rd_ne hq]
          have k16 : N1 16 0 = nI 1 := by rw [eN, sp_rd_0, sp_rd_0]; exact h16
          have e22 : N1 22 = M 22 := fr 22 (by decide)
          have kT : sp_tab N1 := sp_tab_of hT (fr 5 (by decide)) (fr 6 (by decide)) (fr 7 (by decide)) (fr 8 (by decide)) (fr 9 (by decide))
          have ks : sp_st N1 := sp_st_of hs (fr 1 (by decide)) (fr 2 (by decide))
          have kf : sp_fnok (N1 22) fn := by rw [e22]; exact hfn
          have kj : N1 46 1 = nI j := by rw [fr 46 (by decide)]; exact hj
          refine ew_aload_n d_Ve_codeOf_41 rfl ?_
          refine ew_iload_n d_Ve_codeOf_42 rfl ?_
          refine ew_iconst (v := nI 1) d_Ve_codeOf_43 (by decide) ?_
          refine en_callV (As := [.int (nI 1), .int (nI 1)]) (i := 43) (ci := 6) (st := []) (st1 := [.int (ew_b (sp_vl11 (M 22) j))]) d_Ve_codeOf_44 k_Ve_doLayerPathsLead rfl rfl tw_552 tw_554 tp_23 rfl (Nat.le_of_ble_eq_true rfl) rfl (Nat.le_of_ble_eq_true rfl) rfl rfl ((by have z := c_Ve_doLayerPathsLead11 l g d L N1 ks j kj hj2; rw [e22] at z; exact z)) rfl ?_
          refine en_b_ne (tgt := 52) d_Ve_codeOf_47 (by decide) (fun h47 => ?_) (fun h47 => ?_)
          · refine ew_aload_n d_Ve_codeOf_52 rfl ?_
            refine ew_iload_n d_Ve_codeOf_53 rfl ?_
            refine ew_iconst (v := nI 0) d_Ve_codeOf_54 (by decide) ?_
            refine en_callV (As := [.int (nI 1), .int (nI 0)]) (i := 43) (ci := 6) (st := []) (st1 := [.int (nI (sp_vf10 fn j B0))]) d_Ve_codeOf_55 k_Ve_folded rfl rfl tw_566 tw_568 tp_25 rfl (Nat.le_of_ble_eq_true rfl) rfl (Nat.le_of_ble_eq_true rfl) rfl rfl (c_Ve_folded10 l g _ L N1 kT ks fn kf B0 (by (rw [fr 45 (by decide)]; exact hB0)) hB02 j kj hj2) rfl ?_
            refine ew_aload_n d_Ve_codeOf_58 rfl ?_
            refine ew_iload_n d_Ve_codeOf_59 rfl ?_
            refine ew_iconst (v := nI 0) d_Ve_codeOf_60 (by decide) ?_
            refine en_callV (As := [.int (nI 1), .int (nI 0)]) (i := 43) (ci := 6) (st := [.int (nI (sp_vf10 fn j B0))]) (st1 := [.int (nI (sp_vb10 fn j)), .int (nI (sp_vf10 fn j B0))]) d_Ve_codeOf_61 k_Ve_valueBehind rfl rfl tw_571 tw_573 tp_26 rfl (Nat.le_of_ble_eq_true rfl) rfl (Nat.le_of_ble_eq_true rfl) rfl rfl (c_Ve_valueBehind10 l g _ L N1 ks fn kf j kj hj2) rfl ?_
            refine en_icmp_eq (tgt := 70) d_Ve_codeOf_64 (by decide) (by first | exact Nat.lt_trans (sp_fo_lt _ _ _ _ _) (by decide) | exact sp_vbl hfn (by decide) (by decide) (by omega)) (by first | exact Nat.lt_trans (sp_fo_lt _ _ _ _ _) (by decide) | exact sp_vbl hfn (by decide) (by decide) (by omega)) (fun h64 => ?_) (fun h64 => ?_)
            · refine ew_aload_n d_Ve_codeOf_70 rfl ?_
              refine ew_iload_n d_Ve_codeOf_71 rfl ?_
              refine ew_iconst (v := nI 2) d_Ve_codeOf_72 (by decide) ?_
              refine en_callV (As := [.int (nI 1), .int (nI 2)]) (i := 43) (ci := 6) (st := []) (st1 := [.int (ew_b (sp_vl12 (M 22) j))]) d_Ve_codeOf_73 k_Ve_doLayerPathsLead rfl rfl tw_552 tw_554 tp_23 rfl (Nat.le_of_ble_eq_true rfl) rfl (Nat.le_of_ble_eq_true rfl) rfl rfl ((by have z := c_Ve_doLayerPathsLead12 l g d L N1 ks j kj hj2; rw [e22] at z; exact z)) rfl ?_
              refine en_b_ne (tgt := 82) d_Ve_codeOf_76 (by decide) (fun h76 => ?_) (fun h76 => ?_)
              · refine ew_aload_n d_Ve_codeOf_82 rfl ?_
                refine ew_iload_n d_Ve_codeOf_83 rfl ?_
                refine ew_iconst (v := nI 1) d_Ve_codeOf_84 (by decide) ?_
                refine en_callV (As := [.int (nI 1), .int (nI 1)]) (i := 43) (ci := 6) (st := []) (st1 := [.int (nI (sp_vf11 fn j B1))]) d_Ve_codeOf_85 k_Ve_folded rfl rfl tw_566 tw_568 tp_25 rfl (Nat.le_of_ble_eq_true rfl) rfl (Nat.le_of_ble_eq_true rfl) rfl rfl (c_Ve_folded11 l g _ L N1 kT ks fn kf B1 (by (rw [fr 45 (by decide)]; exact hB1)) hB12 j kj hj2) rfl ?_
                refine ew_aload_n d_Ve_codeOf_88 rfl ?_
                refine ew_iload_n d_Ve_codeOf_89 rfl ?_
                refine ew_iconst (v := nI 1) d_Ve_codeOf_90 (by decide) ?_
                refine en_callV (As := [.int (nI 1), .int (nI 1)]) (i := 43) (ci := 6) (st := [.int (nI (sp_vf11 fn j B1))]) (st1 := [.int (nI (sp_vb11 fn j)), .int (nI (sp_vf11 fn j B1))]) d_Ve_codeOf_91 k_Ve_valueBehind rfl rfl tw_571 tw_573 tp_26 rfl (Nat.le_of_ble_eq_true rfl) rfl (Nat.le_of_ble_eq_true rfl) rfl rfl (c_Ve_valueBehind11 l g _ L N1 ks fn kf j kj hj2) rfl ?_
                refine en_icmp_eq (tgt := 100) d_Ve_codeOf_94 (by decide) (by first | exact Nat.lt_trans (sp_fo_lt _ _ _ _ _) (by decide) | exact sp_vbl hfn (by decide) (by decide) (by omega)) (by first | exact Nat.lt_trans (sp_fo_lt _ _ _ _ _) (by decide) | exact sp_vbl hfn (by decide) (by decide) (by omega)) (fun h94 => ?_) (fun h94 => ?_)
                · refine ew_aload_n d_Ve_codeOf_100 rfl ?_
                  refine ew_iload_n d_Ve_codeOf_101 rfl ?_
                  refine ew_iconst (v := nI 2) d_Ve_codeOf_102 (by decide) ?_
                  refine en_callV (As := [.int (nI 1), .int (nI 2)]) (i := 43) (ci := 6) (st := []) (st1 := [.int (nI (sp_vf12 fn j B2))]) d_Ve_codeOf_103 k_Ve_folded rfl rfl tw_566 tw_568 tp_25 rfl (Nat.le_of_ble_eq_true rfl) rfl (Nat.le_of_ble_eq_true rfl) rfl rfl (c_Ve_folded12 l g _ L N1 kT ks fn kf B2 (by (rw [fr 45 (by decide)]; exact hB2)) hB22 j kj hj2) rfl ?_
                  refine ew_aload_n d_Ve_codeOf_106 rfl ?_
                  refine ew_getr (ci := 6) (f := 3) d_Ve_codeOf_107 rfl rfl rfl tw_200 ?_
                  refine ew_iconst (v := nI 4) d_Ve_codeOf_110 (by decide) ?_
                  refine ew_iald (j := 4) d_Ve_codeOf_111 rfl (rfl) (by decide) (by decide) ?_
                  refine en_eq (st' := [.int (nI (fn 4)), .int (nI (sp_vf12 fn j B2))]) rfl (by rw [show (N1 22 4) = (nI (fn 4)) from by (rw [e22]; exact (hfn 4 (by decide)).1)]) rfl ?_
                  refine en_icmp_ne (tgt := 119) d_Ve_codeOf_112 (by decide) (by first | exact Nat.lt_trans (hfn 4 (by decide)).2 (by decide) | exact Nat.lt_trans (sp_fo_lt _ _ _ _ _) (by decide)) (by first | exact Nat.lt_trans (hfn 4 (by decide)).2 (by decide) | exact Nat.lt_trans (sp_fo_lt _ _ _ _ _) (by decide)) (fun h112 => ?_) (fun h112 => ?_)
                  · refine ew_bipush (v := nI 9) d_Ve_codeOf_119 (by decide) ?_
                    exact ew_iret d_Ve_codeOf_121 rfl (⟨rfl, by ((have hcomp : (sp_vo1 ρ fn j A 0 && sp_vo1 ρ fn j A 1) = true := (by rw [h27, h36]; rfl)); rw [show sp_code1 ρ (M 22) fn j A B0 B1 B2 = 9 from by (unfold sp_code1; rw [if_neg (ts_n h5), if_neg (ts_n h16x), if_neg (ts_n hcomp), if_neg (ts_n h47), if_neg (fun q => q h64), if_neg (ts_n h76), if_neg (fun q => q h94), if_neg h112])]), fr, k16⟩)
                  · refine ew_iconst (v := nI 0) d_Ve_codeOf_115 (by decide) ?_
                    refine ew_goto (tgt := 121) d_Ve_codeOf_116 (by decide) ?_
                    exact ew_iret d_Ve_codeOf_121 rfl (⟨rfl, by ((have hcomp : (sp_vo1 ρ fn j A 0 && sp_vo1 ρ fn j A 1) = true := (by rw [h27, h36]; rfl)); rw [show sp_code1 ρ (M 22) fn j A B0 B1 B2 = 0 from by (unfold sp_code1; rw [if_neg (ts_n h5), if_neg (ts_n h16x), if_neg (ts_n hcomp), if_neg (ts_n h47), if_neg (fun q => q h64), if_neg (ts_n h76), if_neg (fun q => q h94), if_pos h112])]), fr, k16⟩)
                · refine ew_bipush (v := nI 8) d_Ve_codeOf_97 (by decide) ?_
                  exact ew_iret d_Ve_codeOf_99 rfl (⟨rfl, by ((have hcomp : (sp_vo1 ρ fn j A 0 && sp_vo1 ρ fn j A 1) = true := (by rw [h27, h36]; rfl)); rw [show sp_code1 ρ (M 22) fn j A B0 B1 B2 = 8 from by (unfold sp_code1; rw [if_neg (ts_n h5), if_neg (ts_n h16x), if_neg (ts_n hcomp), if_neg (ts_n h47), if_neg (fun q => q h64), if_neg (ts_n h76), if_pos h94])]), fr, k16⟩)
              · refine ew_bipush (v := nI 7) d_Ve_codeOf_79 (by decide) ?_
                exact ew_iret d_Ve_codeOf_81 rfl (⟨rfl, by ((have hcomp : (sp_vo1 ρ fn j A 0 && sp_vo1 ρ fn j A 1) = true := (by rw [h27, h36]; rfl)); rw [show sp_code1 ρ (M 22) fn j A B0 B1 B2 = 7 from by (unfold sp_code1; rw [if_neg (ts_n h5), if_neg (ts_n h16x), if_neg (ts_n hcomp), if_neg (ts_n h47), if_neg (fun q => q h64), if_pos h76])]), fr, k16⟩)
            · refine ew_bipush (v := nI 6) d_Ve_codeOf_67 (by decide) ?_
              exact ew_iret d_Ve_codeOf_69 rfl (⟨rfl, by ((have hcomp : (sp_vo1 ρ fn j A 0 && sp_vo1 ρ fn j A 1) = true := (by rw [h27, h36]; rfl)); rw [show sp_code1 ρ (M 22) fn j A B0 B1 B2 = 6 from by (unfold sp_code1; rw [if_neg (ts_n h5), if_neg (ts_n h16x), if_neg (ts_n hcomp), if_neg (ts_n h47), if_pos h64])]), fr, k16⟩)
          · refine ew_iconst (v := nI 5) d_Ve_codeOf_50 (by decide) ?_
            exact ew_iret d_Ve_codeOf_51 rfl (⟨rfl, by ((have hcomp : (sp_vo1 ρ fn j A 0 && sp_vo1 ρ fn j A 1) = true := (by rw [h27, h36]; rfl)); rw [show sp_code1 ρ (M 22) fn j A B0 B1 B2 = 5 from by (unfold sp_code1; rw [if_neg (ts_n h5), if_neg (ts_n h16x), if_neg (ts_n hcomp), if_pos h47])]), fr, k16⟩)
        · refine ew_iconst (v := nI 4) d_Ve_codeOf_39 (by decide) ?_
          exact ew_iret d_Ve_codeOf_40 rfl (⟨rfl, by ((have hcomp : (sp_vo1 ρ fn j A 0 && sp_vo1 ρ fn j A 1) = false := (by first | (rw [h27]; rfl) | (rw [h27, h36]; rfl))); rw [show sp_code1 ρ (M 22) fn j A B0 B1 B2 = 4 from by (unfold sp_code1; rw [if_neg (ts_n h5), if_neg (ts_n h16x), if_pos hcomp])]), fun q hq => by first | exact sp_rd_ne hq | rw [sp_rd_ne hq, sp_rd_ne hq], by first | (rw [sp_rd_0]; exact h16) | (rw [sp_rd_0, sp_rd_0]; exact h16)⟩)
    · have h16x := h16_b
      refine ew_iconst (v := nI 3) d_Ve_codeOf_19 (by decide) ?_
      exact ew_iret d_Ve_codeOf_20 rfl (⟨rfl, by (rw [show sp_code1 ρ (M 22) fn j A B0 B1 B2 = 3 from by (unfold sp_code1; rw [if_neg (ts_n h5), if_pos h16x])]), fun q hq => rfl, h16⟩)
  · refine ew_iconst (v := nI 2) d_Ve_codeOf_8 (by decide) ?_
    exact ew_iret d_Ve_codeOf_9 rfl (⟨rfl, by (rw [show sp_code1 ρ (M 22) fn j A B0 B1 B2 = 2 from by (unfold sp_code1; rw [if_pos h5])]), fun q hq => rfl, h16⟩)
set_option maxRecDepth 100000 in
theorem c_Ve_codeOf2 (l : Launch) (g : ew_G) (d L : Nat) (M : ew_M) (ρ : sp_R) (hr : sp_ru ρ M) (hT : sp_tab M) (hs : sp_st M) (h16 : M 16 0 = nI 1) (fn : Nat → Nat) (hfn : sp_fnok (M 22) fn) (A B0 B1 B2 : Nat) (hA : M 44 1 = nI A) (hA2 : A < 12289) (hB0 : M 45 0 = nI B0) (hB02 : B0 < 12289) (hB1 : M 45 1 = nI B1) (hB12 : B1 < 12289) (hB2 : M 45 2 = nI B2) (hB22 : B2 < 12289) (j : Nat) (hj : M 46 2 = nI j) (hj2 : j < 16) :
    Ew l g (d + 4) 0 0 m_Ve_codeOf 0 [.ref 43, .int (nI 2)] [] (ew_SH L) M (sp_cdq L M (sp_code2 ρ (M 22) fn j A B0 B1 B2)) := by
  refine ew_aload_n d_Ve_codeOf_0 rfl ?_
  refine ew_iload_n d_Ve_codeOf_1 rfl ?_
  refine en_callV (As := [.int (nI 2)]) (i := 43) (ci := 6) (st := []) (st1 := [.int (ew_b (sp_vc2 (M 22) j))]) d_Ve_codeOf_2 k_Ve_doColumnPathsLead rfl rfl tw_538 tw_540 tp_22 rfl (Nat.le_of_ble_eq_true rfl) rfl (Nat.le_of_ble_eq_true rfl) rfl rfl (c_Ve_doColumnPathsLead2 l g _ L M hs j hj hj2) rfl ?_
  refine en_b_ne (tgt := 10) d_Ve_codeOf_5 (by decide) (fun h5 => ?_) (fun h5 => ?_)
  · refine ew_aload_n d_Ve_codeOf_10 rfl ?_
    refine ew_iload_n d_Ve_codeOf_11 rfl ?_
    refine ew_iconst (v := nI 0) d_Ve_codeOf_12 (by decide) ?_
    refine en_callV (As := [.int (nI 2), .int (nI 0)]) (i := 43) (ci := 6) (st := []) (st1 := [.int (ew_b (sp_vl20 (M 22) j))]) d_Ve_codeOf_13 k_Ve_doLayerPathsLead rfl rfl tw_552 tw_554 tp_23 rfl (Nat.le_of_ble_eq_true rfl) rfl (Nat.le_of_ble_eq_true rfl) rfl rfl (c_Ve_doLayerPathsLead20 l g _ L M hs j hj hj2) rfl ?_
    refine en_b_ne (tgt := 21) d_Ve_codeOf_16 (by decide) (fun h16_b => ?_) (fun h16_b => ?_)
    · have h16x := h16_b
      refine ew_aload_n d_Ve_codeOf_21 rfl ?_
      refine ew_iload_n d_Ve_codeOf_22 rfl ?_
      refine ew_iconst (v := nI 0) d_Ve_codeOf_23 (by decide) ?_
      refine en_callV (As := [.int (nI 2), .int (nI 0)]) (i := 43) (ci := 6) (st := []) (st1 := [.int (ew_b (sp_vo2 ρ fn j A 0))]) d_Ve_codeOf_24 k_Ve_isComposed rfl rfl tw_560 tw_562 tp_24 rfl (Nat.le_of_ble_eq_true rfl) rfl (Nat.le_of_ble_eq_true rfl) rfl rfl (c_Ve_isComposed20 l g _ L M ρ hr hT hs h16 fn hfn A hA hA2 j hj hj2) rfl ?_
      refine en_b_eq (tgt := 39) d_Ve_codeOf_27 (by decide) (fun h27 => ?_) (fun h27 => ?_)
      · refine ew_iconst (v := nI 4) d_Ve_codeOf_39 (by decide) ?_
        exact ew_iret d_Ve_codeOf_40 rfl (⟨rfl, by ((have hcomp : (sp_vo2 ρ fn j A 0 && sp_vo2 ρ fn j A 1) = false := (by first | (rw [h27]; rfl) | (rw [h27, h36]; rfl))); rw [show sp_code2 ρ (M 22) fn j A B0 B1 B2 = 4 from by (unfold sp_code2; rw [if_neg (ts_n h5), if_neg (ts_n h16x), if_pos hcomp])]), fun q hq => by first | exact sp_rd_ne hq | rw [sp_rd_ne hq, sp_rd_ne hq], by first | (rw [sp_rd_0]; exact h16) | (rw [sp_rd_0, sp_rd_0]; exact h16)⟩)
      · refine ew_aload_n d_Ve_codeOf_30 rfl ?_
        refine ew_iload_n d_Ve_codeOf_31 rfl ?_
        refine ew_iconst (v := nI 1) d_Ve_codeOf_32 (by decide) ?_
        refine en_callV (As := [.int (nI 2), .int (nI 1)]) (i := 43) (ci := 6) (st := []) (st1 := [.int (ew_b (sp_vo2 ρ fn j A 1))]) d_Ve_codeOf_33 k_Ve_isComposed rfl rfl tw_560 tw_562 tp_24 rfl (Nat.le_of_ble_eq_true rfl) rfl (Nat.le_of_ble_eq_true rfl) rfl rfl (c_Ve_isComposed21 l g _ L (sp_rd M 16 (nI (fn 121)) (nI (fn 122)) (nI (fn 128)) (nI (fn 129))) ρ (sp_ru_of hr (sp_rd_ne (by decide)) (sp_rd_ne (by decide)) (sp_rd_ne (by decide)) (sp_rd_ne (by decide)) (sp_rd_ne (by decide))) (sp_tab_of hT (sp_rd_ne (by decide)) (sp_rd_ne (by decide)) (sp_rd_ne (by decide)) (sp_rd_ne (by decide)) (sp_rd_ne (by decide))) (sp_st_of hs (sp_rd_ne (by decide)) (sp_rd_ne (by decide))) (by (rw [sp_rd_0]; exact h16)) fn (by (rw [sp_rd_ne (by decide)]; exact hfn)) A (by (rw [sp_rd_ne (by decide)]; exact hA)) hA2 j (by (rw [sp_rd_ne (by decide)]; exact hj)) hj2) rfl ?_
        refine en_b_ne (tgt := 41) d_Ve_codeOf_36 (by decide) (fun h36 => ?_) (fun h36 => ?_)
        · obtain ⟨N1, eN⟩ : ∃ X : ew_M, X = sp_rd (sp_rd M 16 (nI (fn 121)) (nI (fn 122)) (nI (fn 128)) (nI (fn 129))) 16 (nI (fn 135)) (nI (fn 136)) (nI (fn 142)) (nI (fn 143)) := ⟨_, rfl⟩
          refine en_eq rfl rfl eN.symm ?_
          have fr : ∀ q, q ≠ 16 → N1 q = M q := fun q hq => by rw [eN, sp_rd_ne hq, sp_rd_ne hq]
          have k16 : N1 16 0 = nI 1 := by rw [eN, sp_rd_0, sp_rd_0]; exact h16
          have e22 : N1 22 = M 22 := fr 22 (by decide)
          have kT : sp_tab N1 := sp_tab_of hT (fr 5 (by decide)) (fr 6 (by decide)) (fr 7 (by decide)) (fr 8 (by decide)) (fr 9 (by decide))
          have ks : sp_st N1 := sp_st_of hs (fr 1 (by decide)) (fr 2 (by decide))
          have kf : sp_fnok (N1 22) fn := by rw [e22]; exact hfn
          have kj : N1 46 2 = nI j := by rw [fr 46 (by decide)]; exact hj
          refine ew_aload_n d_Ve_codeOf_41 rfl ?_
          refine ew_iload_n d_Ve_codeOf_42 rfl ?_
          refine ew_iconst (v := nI 1) d_Ve_codeOf_43 (by decide) ?_
          refine en_callV (As := [.int (nI 2), .int (nI 1)]) (i := 43) (ci := 6) (st := []) (st1 := [.int (ew_b (sp_vl21 (M 22) j))]) d_Ve_codeOf_44 k_Ve_doLayerPathsLead rfl rfl tw_552 tw_554 tp_23 rfl (Nat.le_of_ble_eq_true rfl) rfl (Nat.le_of_ble_eq_true rfl) rfl rfl ((by have z := c_Ve_doLayerPathsLead21 l g d L N1 ks j kj hj2; rw [e22] at z; exact z)) rfl ?_
          refine en_b_ne (tgt := 52) d_Ve_codeOf_47 (by decide) (fun h47 => ?_) (fun h47 => ?_)
          · refine ew_aload_n d_Ve_codeOf_52 rfl ?_
            refine ew_iload_n d_Ve_codeOf_53 rfl ?_
            refine ew_iconst (v := nI 0) d_Ve_codeOf_54 (by decide) ?_
            refine en_callV (As := [.int (nI 2), .int (nI 0)]) (i := 43) (ci := 6) (st := []) (st1 := [.int (nI (sp_vf20 fn j B0))]) d_Ve_codeOf_55 k_Ve_folded rfl rfl tw_566 tw_568 tp_25 rfl (Nat.le_of_ble_eq_true rfl) rfl (Nat.le_of_ble_eq_true rfl) rfl rfl (c_Ve_folded20 l g _ L N1 kT ks fn kf B0 (by (rw [fr 45 (by decide)]; exact hB0)) hB02 j kj hj2) rfl ?_
            refine ew_aload_n d_Ve_codeOf_58 rfl ?_
            refine ew_iload_n d_Ve_codeOf_59 rfl ?_
            refine ew_iconst (v := nI 0) d_Ve_codeOf_60 (by decide) ?_
            refine en_callV (As := [.int (nI 2), .int (nI 0)]) (i := 43) (ci := 6) (st := [.int (nI (sp_vf20 fn j B0))]) (st1 := [.int (nI (sp_vb20 fn j)), .int (nI (sp_vf20 fn j B0))]) d_Ve_codeOf_61 k_Ve_valueBehind rfl rfl tw_571 tw_573 tp_26 rfl (Nat.le_of_ble_eq_true rfl) rfl (Nat.le_of_ble_eq_true rfl) rfl rfl (c_Ve_valueBehind20 l g _ L N1 ks fn kf j kj hj2) rfl ?_
            refine en_icmp_eq (tgt := 70) d_Ve_codeOf_64 (by decide) (by first | exact Nat.lt_trans (sp_fo_lt _ _ _ _ _) (by decide) | exact sp_vbl hfn (by decide) (by decide) (by omega)) (by first | exact Nat.lt_trans (sp_fo_lt _ _ _ _ _) (by decide) | exact sp_vbl hfn (by decide) (by decide) (by omega)) (fun h64 => ?_) (fun h64 => ?_)
            · refine ew_aload_n d_Ve_codeOf_70 rfl ?_
              refine ew_iload_n d_Ve_codeOf_71 rfl ?_
              refine ew_iconst (v := nI 2) d_Ve_codeOf_72 (by decide) ?_
              refine en_callV (As := [.int (nI 2), .int (nI 2)]) (i := 43) (ci := 6) (st := []) (st1 := [.int (ew_b (sp_vl22 (M 22) j))]) d_Ve_codeOf_73 k_Ve_doLayerPathsLead rfl rfl tw_552 tw_554 tp_23 rfl (Nat.le_of_ble_eq_true rfl) rfl (Nat.le_of_ble_eq_true rfl) rfl rfl ((by have z := c_Ve_doLayerPathsLead22 l g d L N1 ks j kj hj2; rw [e22] at z; exact z)) rfl ?_
              refine en_b_ne (tgt := 82) d_Ve_codeOf_76 (by decide) (fun h76 => ?_) (fun h76 => ?_)
              · refine ew_aload_n d_Ve_codeOf_82 rfl ?_
                refine ew_iload_n d_Ve_codeOf_83 rfl ?_
                refine ew_iconst (v := nI 1) d_Ve_codeOf_84 (by decide) ?_
                refine en_callV (As := [.int (nI 2), .int (nI 1)]) (i := 43) (ci := 6) (st := []) (st1 := [.int (nI (sp_vf21 fn j B1))]) d_Ve_codeOf_85 k_Ve_folded rfl rfl tw_566 tw_568 tp_25 rfl (Nat.le_of_ble_eq_true rfl) rfl (Nat.le_of_ble_eq_true rfl) rfl rfl (c_Ve_folded21 l g _ L N1 kT ks fn kf B1 (by (rw [fr 45 (by decide)]; exact hB1)) hB12 j kj hj2) rfl ?_
                refine ew_aload_n d_Ve_codeOf_88 rfl ?_
                refine ew_iload_n d_Ve_codeOf_89 rfl ?_
                refine ew_iconst (v := nI 1) d_Ve_codeOf_90 (by decide) ?_
                refine en_callV (As := [.int (nI 2), .int (nI 1)]) (i := 43) (ci := 6) (st := [.int (nI (sp_vf21 fn j B1))]) (st1 := [.int (nI (sp_vb21 fn j)), .int (nI (sp_vf21 fn j B1))]) d_Ve_codeOf_91 k_Ve_valueBehind rfl rfl tw_571 tw_573 tp_26 rfl (Nat.le_of_ble_eq_true rfl) rfl (Nat.le_of_ble_eq_true rfl) rfl rfl (c_Ve_valueBehind21 l g _ L N1 ks fn kf j kj hj2) rfl ?_
                refine en_icmp_eq (tgt := 100) d_Ve_codeOf_94 (by decide) (by first | exact Nat.lt_trans (sp_fo_lt _ _ _ _ _) (by decide) | exact sp_vbl hfn (by decide) (by decide) (by omega)) (by first | exact Nat.lt_trans (sp_fo_lt _ _ _ _ _) (by decide) | exact sp_vbl hfn (by decide) (by decide) (by omega)) (fun h94 => ?_) (fun h94 => ?_)
                · refine ew_aload_n d_Ve_codeOf_100 rfl ?_
                  refine ew_iload_n d_Ve_codeOf_101 rfl ?_
                  refine ew_iconst (v := nI 2) d_Ve_codeOf_102 (by decide) ?_
                  refine en_callV (As := [.int (nI 2), .int (nI 2)]) (i := 43) (ci := 6) (st := []) (st1 := [.int (nI (sp_vf22 fn j B2))]) d_Ve_codeOf_103 k_Ve_folded rfl rfl tw_566 tw_568 tp_25 rfl (Nat.le_of_ble_eq_true rfl) rfl (Nat.le_of_ble_eq_true rfl) rfl rfl (c_Ve_folded22 l g _ L N1 kT ks fn kf B2 (by (rw [fr 45 (by decide)]; exact hB2)) hB22 j kj hj2) rfl ?_
                  refine ew_aload_n d_Ve_codeOf_106 rfl ?_
                  refine ew_getr (ci := 6) (f := 3) d_Ve_codeOf_107 rfl rfl rfl tw_200 ?_
                  refine ew_iconst (v := nI 4) d_Ve_codeOf_110 (by decide) ?_
                  refine ew_iald (j := 4) d_Ve_codeOf_111 rfl (rfl) (by decide) (by decide) ?_
                  refine en_eq (st' := [.int (nI (fn 4)), .int (nI (sp_vf22 fn j B2))]) rfl (by rw [show (N1 22 4) = (nI (fn 4)) from by (rw [e22]; exact (hfn 4 (by decide)).1)]) rfl ?_
                  refine en_icmp_ne (tgt := 119) d_Ve_codeOf_112 (by decide) (by first | exact Nat.lt_trans (hfn 4 (by decide)).2 (by decide) | exact Nat.lt_trans (sp_fo_lt _ _ _ _ _) (by decide)) (by first | exact Nat.lt_trans (hfn 4 (by decide)).2 (by decide) | exact Nat.lt_trans (sp_fo_lt _ _ _ _ _) (by decide)) (fun h112 => ?_) (fun h112 => ?_)
                  · refine ew_bipush (v := nI 9) d_Ve_codeOf_119 (by decide) ?_
                    exact ew_iret d_Ve_codeOf_121 rfl (⟨rfl, by ((have hcomp : (sp_vo2 ρ fn j A 0 && sp_vo2 ρ fn j A 1) = true := (by rw [h27, h36]; rfl)); rw [show sp_code2 ρ (M 22) fn j A B0 B1 B2 = 9 from by (unfold sp_code2; rw [if_neg (ts_n h5), if_neg (ts_n h16x), if_neg (ts_n hcomp), if_neg (ts_n h47), if_neg (fun q => q h64), if_neg (ts_n h76), if_neg (fun q => q h94), if_neg h112])]), fr, k16⟩)
                  · refine ew_iconst (v := nI 0) d_Ve_codeOf_115 (by decide) ?_
                    refine ew_goto (tgt := 121) d_Ve_codeOf_116 (by decide) ?_
                    exact ew_iret d_Ve_codeOf_121 rfl (⟨rfl, by ((have hcomp : (sp_vo2 ρ fn j A 0 && sp_vo2 ρ fn j A 1) = true := (by rw [h27, h36]; rfl)); rw [show sp_code2 ρ (M 22) fn j A B0 B1 B2 = 0 from by (unfold sp_code2; rw [if_neg (ts_n h5), if_neg (ts_n h16x), if_neg (ts_n hcomp), if_neg (ts_n h47), if_neg (fun q => q h64), if_neg (ts_n h76), if_neg (fun q => q h94), if_pos h112])]), fr, k16⟩)
                · refine ew_bipush (v := nI 8) d_Ve_codeOf_97 (by decide) ?_
                  exact ew_iret d_Ve_codeOf_99 rfl (⟨rfl, by ((have hcomp : (sp_vo2 ρ fn j A 0 && sp_vo2 ρ fn j A 1) = true := (by rw [h27, h36]; rfl)); rw [show sp_code2 ρ (M 22) fn j A B0 B1 B2 = 8 from by (unfold sp_code2; rw [if_neg (ts_n h5), if_neg (ts_n h16x), if_neg (ts_n hcomp), if_neg (ts_n h47), if_neg (fun q => q h64), if_neg (ts_n h76), if_pos h94])]), fr, k16⟩)
              · refine ew_bipush (v := nI 7) d_Ve_codeOf_79 (by decide) ?_
                exact ew_iret d_Ve_codeOf_81 rfl (⟨rfl, by ((have hcomp : (sp_vo2 ρ fn j A 0 && sp_vo2 ρ fn j A 1) = true := (by rw [h27, h36]; rfl)); rw [show sp_code2 ρ (M 22) fn j A B0 B1 B2 = 7 from by (unfold sp_code2; rw [if_neg (ts_n h5), if_neg (ts_n h16x), if_neg (ts_n hcomp), if_neg (ts_n h47), if_neg (fun q => q h64), if_pos h76])]), fr, k16⟩)
            · refine ew_bipush (v := nI 6) d_Ve_codeOf_67 (by decide) ?_
              exact ew_iret d_Ve_codeOf_69 rfl (⟨rfl, by ((have hcomp : (sp_vo2 ρ fn j A 0 && sp_vo2 ρ fn j A 1) = true := (by rw [h27, h36]; rfl)); rw [show sp_code2 ρ (M 22) fn j A B0 B1 B2 = 6 from by (unfold sp_code2; rw [if_neg (ts_n h5), if_neg (ts_n h16x), if_neg (ts_n hcomp), if_neg (ts_n h47), if_pos h64])]), fr, k16⟩)
          · refine ew_iconst (v := nI 5) d_Ve_codeOf_50 (by decide) ?_
            exact ew_iret d_Ve_codeOf_51 rfl (⟨rfl, by ((have hcomp : (sp_vo2 ρ fn j A 0 && sp_vo2 ρ fn j A 1) = true := (by rw [h27, h36]; rfl)); rw [show sp_code2 ρ (M 22) fn j A B0 B1 B2 = 5 from by (unfold sp_code2; rw [if_neg (ts_n h5), if_neg (ts_n h16x), if_neg (ts_n hcomp), if_pos h47])]), fr, k16⟩)
        · refine ew_iconst (v := nI 4) d_Ve_codeOf_39 (by decide) ?_
          exact ew_iret d_Ve_codeOf_40 rfl (⟨rfl, by ((have hcomp : (sp_vo2 ρ fn j A 0 && sp_vo2 ρ fn j A 1) = false := (by first | (rw [h27]; rfl) | (rw [h27, h36]; rfl))); rw [show sp_code2 ρ (M 22) fn j A B0 B1 B2 = 4 from by (unfold sp_code2; rw [if_neg (ts_n h5), if_neg (ts_n h16x), if_pos hcomp])]), fun q hq => by first | exact sp_rd_ne hq | rw [sp_rd_ne hq, sp_rd_ne hq], by first | (rw [sp_rd_0]; exact h16) | (rw [sp_rd_0, sp_rd_0]; exact h16)⟩)
    · have h16x := h16_b
      refine ew_iconst (v := nI 3) d_Ve_codeOf_19 (by decide) ?_
      exact ew_iret d_Ve_codeOf_20 rfl (⟨rfl, by (rw [show sp_code2 ρ (M 22) fn j A B0 B1 B2 = 3 from by (unfold sp_code2; rw [if_neg (ts_n h5), if_pos h16x])]), fun q hq => rfl, h16⟩)
  · refine ew_iconst (v := nI 2) d_Ve_codeOf_8 (by decide) ?_
    exact ew_iret d_Ve_codeOf_9 rfl (⟨rfl, by (rw [show sp_code2 ρ (M 22) fn j A B0 B1 B2 = 2 from by (unfold sp_code2; rw [if_pos h5])]), fun q hq => rfl, h16⟩)
def sp_jv (ρ : sp_R) (f : Nat → Int32) (k : Nat) : Nat := sp_po (sp_ps (sp_mix (sp_tn (sp_tn (sp_tn (sp_t0 ρ (f 0)) (f 1)) (f 2)) (f 3)) (f 4)) (k + 1))
def sp_Av (ρ : sp_R) (f : Nat → Int32) : Nat := sp_ch (sp_t0 ρ (f 0))
def sp_Bv0 (ρ : sp_R) (f : Nat → Int32) : Nat := sp_ch (sp_tn (sp_t0 ρ (f 0)) (f 1))
def sp_Bv1 (ρ : sp_R) (f : Nat → Int32) : Nat := sp_ch (sp_tn (sp_tn (sp_t0 ρ (f 0)) (f 1)) (f 2))
def sp_Bv2 (ρ : sp_R) (f : Nat → Int32) : Nat := sp_ch (sp_tn (sp_tn (sp_tn (sp_t0 ρ (f 0)) (f 1)) (f 2)) (f 3))
def sp_liq (ρ : sp_R) (L : Nat) (M : ew_M) : Option Value → List ew_S → ew_M → Prop := fun v sh' M' => sh' = ew_SH L ∧ v = none ∧ (∀ q, q ≠ 44 → q ≠ 45 → q ≠ 46 → M' q = M q) ∧ M' 44 1 = nI (sp_Av ρ (M 22)) ∧ (M' 45 0 = nI (sp_Bv0 ρ (M 22)) ∧ M' 45 1 = nI (sp_Bv1 ρ (M 22)) ∧ M' 45 2 = nI (sp_Bv2 ρ (M 22))) ∧ M' 46 0 = nI (sp_jv ρ (M 22) 0) ∧ M' 46 1 = nI (sp_jv ρ (M 22) 1) ∧ M' 46 2 = nI (sp_jv ρ (M 22) 2)
set_option maxRecDepth 100000 in
theorem c_Ve_listen (l : Launch) (g : ew_G) (d L : Nat) (M : ew_M) (ρ : sp_R) (hr : sp_ru ρ M) :
    Ew l g (d + 6) 0 0 m_Ve_listen 0 [.ref 43, .retAddr 0] [] (ew_SH L) M (sp_liq ρ L M) := by
  refine ew_aload_n d_Ve_listen_0 rfl ?_
  refine ew_getr (ci := 6) (f := 4) d_Ve_listen_1 rfl rfl rfl tw_201 ?_
  refine ew_aload_n d_Ve_listen_4 rfl ?_
  refine ew_getr (ci := 6) (f := 1) d_Ve_listen_5 rfl rfl rfl tw_198 ?_
  refine ew_aload_n d_Ve_listen_8 rfl ?_
  refine ew_getr (ci := 6) (f := 3) d_Ve_listen_9 rfl rfl rfl tw_200 ?_
  refine ew_iconst (v := nI 0) d_Ve_listen_12 (by decide) ?_
  refine ew_iald (j := 0) d_Ve_listen_13 rfl (rfl) (by decide) (by decide) ?_
  refine en_callV (As := [.ref 10, .int (M 22 0)]) (i := 44) (ci := 7) (st := []) (st1 := []) d_Ve_listen_14 k_Tk_begin rfl rfl tw_531 tw_390 tw_391 rfl (Nat.le_of_ble_eq_true rfl) rfl (Nat.le_of_ble_eq_true rfl) rfl rfl (c_Tk_begin_44 l g _ L M ρ hr (M 22 0)) rfl ?_
  obtain ⟨M1, eM1⟩ : ∃ X : ew_M, X = ew_w (ew_w M 44 0 (sp_t0 ρ (M 22 0))) 44 1 (nI (sp_ch (sp_t0 ρ (M 22 0)))) := ⟨_, rfl⟩
  refine en_eq rfl rfl eM1.symm ?_
  refine ew_iconst (v := nI 0) d_Ve_listen_17 (by decide) ?_
  refine en_istore_n (ls' := [.ref 43, .int (nI 0)]) d_Ve_listen_18 (Nat.le_of_ble_eq_true rfl) rfl ?_
  refine ew_iload_n d_Ve_listen_19 rfl ?_
  refine ew_iconst (v := nI 3) d_Ve_listen_20 (by decide) ?_
  refine en_icmp_ge (tgt := 46) d_Ve_listen_21 (by decide) (by omega) (by omega) (fun h21 => by exact absurd h21 (by decide)) (fun h21 => ?_)
  refine ew_aload_n d_Ve_listen_24 rfl ?_
  refine ew_getr (ci := 6) (f := 4) d_Ve_listen_25 rfl rfl rfl tw_201 ?_
  refine ew_iload_n d_Ve_listen_28 rfl ?_
  refine ew_aload_n d_Ve_listen_29 rfl ?_
  refine ew_getr (ci := 6) (f := 3) d_Ve_listen_30 rfl rfl rfl tw_200 ?_
  refine ew_iconst (v := nI 1) d_Ve_listen_33 (by decide) ?_
  refine ew_iload_n d_Ve_listen_34 rfl ?_
  refine en_iadd d_Ve_listen_35 ?_
  refine en_eq rfl (show _ = [.int (nI 1), .ref 22, .int (nI 0), .ref 44] from rfl) rfl ?_
  refine ew_iald (j := 1) d_Ve_listen_36 rfl (rfl) (by decide) (by decide) ?_
  refine en_eq (st' := [.int (M 22 1), .int (nI 0), .ref 44]) rfl (by rw [show (M1 22 1) = (M 22 1) from by rw [eM1, ew_w_ne (by decide), ew_w_ne (by decide)]]) rfl ?_
  have h44_0 : M1 44 0 = (sp_t0 ρ (M 22 0)) := by (rw [eM1]; exact (by rw [ew_w_j (by decide)]; exact ew_w_at))
  refine en_callV (As := [.int (nI 0), .int (M 22 1)]) (i := 44) (ci := 7) (st := []) (st1 := []) d_Ve_listen_37 k_Tk_hearLayer rfl rfl tw_532 tw_456 tw_457 rfl (Nat.le_of_ble_eq_true rfl) rfl (Nat.le_of_ble_eq_true rfl) rfl rfl (c_Tk_hearLayer0_44 l g _ L M1 (M 22 1)) rfl ?_
  refine en_eq (M' := ew_w (ew_w M1 44 0 (sp_tn (sp_t0 ρ (M 22 0)) (M 22 1))) 45 0 (nI (sp_ch (sp_tn (sp_t0 ρ (M 22 0)) (M 22 1))))) rfl rfl (by (rw [h44_0]; rfl)) ?_
  obtain ⟨M2, eM2⟩ : ∃ X : ew_M, X = ew_w (ew_w M1 44 0 (sp_tn (sp_t0 ρ (M 22 0)) (M 22 1))) 45 0 (nI (sp_ch (sp_tn (sp_t0 ρ (M 22 0)) (M 22 1)))) := ⟨_, rfl⟩
  refine en_eq rfl rfl eM2.symm ?_
  refine en_inc (ls' := [.ref 43, .int (nI 1)]) d_Ve_listen_40 rfl rfl ?_
  refine ew_goto (tgt := 19) d_Ve_listen_43 (by decide) ?_
  refine ew_iload_n d_Ve_listen_19 rfl ?_
  refine ew_iconst (v := nI 3) d_Ve_listen_20 (by decide) ?_
  refine en_icmp_ge (tgt := 46) d_Ve_listen_21 (by decide) (by omega) (by omega) (fun h21 => by exact absurd h21 (by decide)) (fun h21 => ?_)
  refine ew_aload_n d_Ve_listen_24 rfl ?_
  refine ew_getr (ci := 6) (f := 4) d_Ve_listen_25 rfl rfl rfl tw_201 ?_
  refine ew_iload_n d_Ve_listen_28 rfl ?_
  refine ew_aload_n d_Ve_listen_29 rfl ?_
  refine ew_getr (ci := 6) (f := 3) d_Ve_listen_30 rfl rfl rfl tw_200 ?_
  refine ew_iconst (v := nI 1) d_Ve_listen_33 (by decide) ?_
  refine ew_iload_n d_Ve_listen_34 rfl ?_
  refine en_iadd d_Ve_listen_35 ?_
  refine en_eq rfl (show _ = [.int (nI 2), .ref 22, .int (nI 1), .ref 44] from rfl) rfl ?_
  refine ew_iald (j := 2) d_Ve_listen_36 rfl (rfl) (by decide) (by decide) ?_
  refine en_eq (st' := [.int (M 22 2), .int (nI 1), .ref 44]) rfl (by rw [show (M2 22 2) = (M 22 2) from by rw [eM2, ew_w_ne (by decide), ew_w_ne (by decide), eM1, ew_w_ne (by decide), ew_w_ne (by decide)]]) rfl ?_
  have h44_1 : M2 44 0 = (sp_tn (sp_t0 ρ (M 22 0)) (M 22 1)) := by (rw [eM2, ew_w_ne (by decide)]; exact ew_w_at)
  refine en_callV (As := [.int (nI 1), .int (M 22 2)]) (i := 44) (ci := 7) (st := []) (st1 := []) d_Ve_listen_37 k_Tk_hearLayer rfl rfl tw_532 tw_456 tw_457 rfl (Nat.le_of_ble_eq_true rfl) rfl (Nat.le_of_ble_eq_true rfl) rfl rfl (c_Tk_hearLayer1_44 l g _ L M2 (M 22 2)) rfl ?_
  refine en_eq (M' := ew_w (ew_w M2 44 0 (sp_tn (sp_tn (sp_t0 ρ (M 22 0)) (M 22 1)) (M 22 2))) 45 1 (nI (sp_ch (sp_tn (sp_tn (sp_t0 ρ (M 22 0)) (M 22 1)) (M 22 2))))) rfl rfl (by (rw [h44_1]; rfl)) ?_
  obtain ⟨M3, eM3⟩ : ∃ X : ew_M, X = ew_w (ew_w M2 44 0 (sp_tn (sp_tn (sp_t0 ρ (M 22 0)) (M 22 1)) (M 22 2))) 45 1 (nI (sp_ch (sp_tn (sp_tn (sp_t0 ρ (M 22 0)) (M 22 1)) (M 22 2)))) := ⟨_, rfl⟩
  refine en_eq rfl rfl eM3.symm ?_
  refine en_inc (ls' := [.ref 43, .int (nI 2)]) d_Ve_listen_40 rfl rfl ?_
  refine ew_goto (tgt := 19) d_Ve_listen_43 (by decide) ?_
  refine ew_iload_n d_Ve_listen_19 rfl ?_
  refine ew_iconst (v := nI 3) d_Ve_listen_20 (by decide) ?_
  refine en_icmp_ge (tgt := 46) d_Ve_listen_21 (by decide) (by omega) (by omega) (fun h21 => by exact absurd h21 (by decide)) (fun h21 => ?_)
  refine ew_aload_n d_Ve_listen_24 rfl ?_
  refine ew_getr (ci := 6) (f := 4) d_Ve_listen_25 rfl rfl rfl tw_201 ?_
  refine ew_iload_n d_Ve_listen_28 rfl ?_
  refine ew_aload_n d_Ve_listen_29 rfl ?_
  refine ew_getr (ci := 6) (f := 3) d_Ve_listen_30 rfl rfl rfl tw_200 ?_
  refine ew_iconst (v := nI 1) d_Ve_listen_33 (by decide) ?_
  refine ew_iload_n d_Ve_listen_34 rfl ?_
  refine en_iadd d_Ve_listen_35 ?_
  refine en_eq rfl (show _ = [.int (nI 3), .ref 22, .int (nI 2), .ref 44] from rfl) rfl ?_
  refine ew_iald (j := 3) d_Ve_listen_36 rfl (rfl) (by decide) (by decide) ?_
  refine en_eq (st' := [.int (M 22 3), .int (nI 2), .ref 44]) rfl (by rw [show (M3 22 3) = (M 22 3) from by rw [eM3, ew_w_ne (by decide), ew_w_ne (by decide), eM2, ew_w_ne (by decide), ew_w_ne (by decide), eM1, ew_w_ne (by decide), ew_w_ne (by decide)]]) rfl ?_
  have h44_2 : M3 44 0 = (sp_tn (sp_tn (sp_t0 ρ (M 22 0)) (M 22 1)) (M 22 2)) := by (rw [eM3, ew_w_ne (by decide)]; exact ew_w_at)
  refine en_callV (As := [.int (nI 2), .int (M 22 3)]) (i := 44) (ci := 7) (st := []) (st1 := []) d_Ve_listen_37 k_Tk_hearLayer rfl rfl tw_532 tw_456 tw_457 rfl (Nat.le_of_ble_eq_true rfl) rfl (Nat.le_of_ble_eq_true rfl) rfl rfl (c_Tk_hearLayer2_44 l g _ L M3 (M 22 3)) rfl ?_
  refine en_eq (M' := ew_w (ew_w M3 44 0 (sp_tn (sp_tn (sp_tn (sp_t0 ρ (M 22 0)) (M 22 1)) (M 22 2)) (M 22 3))) 45 2 (nI (sp_ch (sp_tn (sp_tn (sp_tn (sp_t0 ρ (M 22 0)) (M 22 1)) (M 22 2)) (M 22 3))))) rfl rfl (by (rw [h44_2]; rfl)) ?_
  obtain ⟨M4, eM4⟩ : ∃ X : ew_M, X = ew_w (ew_w M3 44 0 (sp_tn (sp_tn (sp_tn (sp_t0 ρ (M 22 0)) (M 22 1)) (M 22 2)) (M 22 3))) 45 2 (nI (sp_ch (sp_tn (sp_tn (sp_tn (sp_t0 ρ (M 22 0)) (M 22 1)) (M 22 2)) (M 22 3)))) := ⟨_, rfl⟩
  refine en_eq rfl rfl eM4.symm ?_
  refine en_inc (ls' := [.ref 43, .int (nI 3)]) d_Ve_listen_40 rfl rfl ?_
  refine ew_goto (tgt := 19) d_Ve_listen_43 (by decide) ?_
  refine ew_iload_n d_Ve_listen_19 rfl ?_
  refine ew_iconst (v := nI 3) d_Ve_listen_20 (by decide) ?_
  refine en_icmp_ge (tgt := 46) d_Ve_listen_21 (by decide) (by omega) (by omega) (fun h21 => ?_) (fun h21 => by exact absurd h21 (by decide))
  refine ew_aload_n d_Ve_listen_46 rfl ?_
  refine ew_getr (ci := 6) (f := 4) d_Ve_listen_47 rfl rfl rfl tw_201 ?_
  refine ew_aload_n d_Ve_listen_50 rfl ?_
  refine ew_getr (ci := 6) (f := 3) d_Ve_listen_51 rfl rfl rfl tw_200 ?_
  refine ew_iconst (v := nI 4) d_Ve_listen_54 (by decide) ?_
  refine ew_iald (j := 4) d_Ve_listen_55 rfl (rfl) (by decide) (by decide) ?_
  refine en_eq (st' := [.int (M 22 4), .ref 44]) rfl (by rw [show (M4 22 4) = (M 22 4) from by rw [eM4, ew_w_ne (by decide), ew_w_ne (by decide), eM3, ew_w_ne (by decide), ew_w_ne (by decide), eM2, ew_w_ne (by decide), ew_w_ne (by decide), eM1, ew_w_ne (by decide), ew_w_ne (by decide)]]) rfl ?_
  have h44_3 : M4 44 0 = (sp_tn (sp_tn (sp_tn (sp_t0 ρ (M 22 0)) (M 22 1)) (M 22 2)) (M 22 3)) := by (rw [eM4, ew_w_ne (by decide)]; exact ew_w_at)
  refine en_callV (As := [.int (M 22 4)]) (i := 44) (ci := 7) (st := []) (st1 := []) d_Ve_listen_56 k_Tk_end rfl rfl tw_533 tw_460 tw_461 rfl (Nat.le_of_ble_eq_true rfl) rfl (Nat.le_of_ble_eq_true rfl) rfl rfl (c_Tk_end_44 l g _ L M4 (M 22 4)) rfl ?_
  refine en_eq (M' := ew_w (ew_w (ew_w (ew_w M4 44 0 (sp_ps (sp_mix (sp_tn (sp_tn (sp_tn (sp_t0 ρ (M 22 0)) (M 22 1)) (M 22 2)) (M 22 3)) (M 22 4)) 3)) 46 0 (nI (sp_jv ρ (M 22) 0))) 46 1 (nI (sp_jv ρ (M 22) 1))) 46 2 (nI (sp_jv ρ (M 22) 2))) rfl rfl (by (rw [h44_3]; rfl)) ?_
  obtain ⟨M5, eM5⟩ : ∃ X : ew_M, X = ew_w (ew_w (ew_w (ew_w M4 44 0 (sp_ps (sp_mix (sp_tn (sp_tn (sp_tn (sp_t0 ρ (M 22 0)) (M 22 1)) (M 22 2)) (M 22 3)) (M 22 4)) 3)) 46 0 (nI (sp_jv ρ (M 22) 0))) 46 1 (nI (sp_jv ρ (M 22) 1))) 46 2 (nI (sp_jv ρ (M 22) 2)) := ⟨_, rfl⟩
  refine en_eq rfl rfl eM5.symm ?_
  refine ew_ret d_Ve_listen_59 rfl ?_
  refine ⟨rfl, rfl, fun q h44 h45 h46 => ?_, ?_, ⟨?_, ?_, ?_⟩, ?_, ?_, ?_⟩
  · rw [eM5, ew_w_ne h46, ew_w_ne h46, ew_w_ne h46, ew_w_ne h44, eM4, ew_w_ne h45, ew_w_ne h44, eM3, ew_w_ne h45, ew_w_ne h44, eM2, ew_w_ne h45, ew_w_ne h44, eM1, ew_w_ne h44, ew_w_ne h44]
  · exact (by (rw [eM5, ew_w_ne (by decide), ew_w_ne (by decide), ew_w_ne (by decide), ew_w_j (by decide), eM4, ew_w_ne (by decide), ew_w_j (by decide), eM3, ew_w_ne (by decide), ew_w_j (by decide), eM2, ew_w_ne (by decide), ew_w_j (by decide), eM1]; exact ew_w_at))
  · exact (by (rw [eM5, ew_w_ne (by decide), ew_w_ne (by decide), ew_w_ne (by decide), ew_w_ne (by decide), eM4, ew_w_j (by decide), ew_w_ne (by decide), eM3, ew_w_j (by decide), ew_w_ne (by decide), eM2]; exact ew_w_at))
  · exact (by (rw [eM5, ew_w_ne (by decide), ew_w_ne (by decide), ew_w_ne (by decide), ew_w_ne (by decide), eM4, ew_w_j (by decide), ew_w_ne (by decide), eM3]; exact ew_w_at))
  · exact (by (rw [eM5, ew_w_ne (by decide), ew_w_ne (by decide), ew_w_ne (by decide), ew_w_ne (by decide), eM4]; exact ew_w_at))
  · exact (by (rw [eM5, ew_w_j (by decide), ew_w_j (by decide)]; exact ew_w_at))
  · exact (by (rw [eM5, ew_w_j (by decide)]; exact ew_w_at))
  · exact (by (rw [eM5]; exact ew_w_at))
def sp_fnf (f : Nat → Int32) : Nat → Nat := fun i => (f i).toNatClampNeg
def sp_kc0 (ρ : sp_R) (f : Nat → Int32) : Nat := sp_code0 ρ f (sp_fnf f) (sp_jv ρ f 0) (sp_Av ρ f) (sp_Bv0 ρ f) (sp_Bv1 ρ f) (sp_Bv2 ρ f)
def sp_kc1 (ρ : sp_R) (f : Nat → Int32) : Nat := sp_code1 ρ f (sp_fnf f) (sp_jv ρ f 1) (sp_Av ρ f) (sp_Bv0 ρ f) (sp_Bv1 ρ f) (sp_Bv2 ρ f)
def sp_kc2 (ρ : sp_R) (f : Nat → Int32) : Nat := sp_code2 ρ f (sp_fnf f) (sp_jv ρ f 2) (sp_Av ρ f) (sp_Bv0 ρ f) (sp_Bv1 ρ f) (sp_Bv2 ρ f)
def sp_vcd (ρ : sp_R) (f : Nat → Int32) : Nat := if sp_nB f = false then 1 else if sp_kc0 ρ f ≠ 0 then sp_kc0 ρ f else if sp_kc1 ρ f ≠ 0 then sp_kc1 ρ f else sp_kc2 ρ f
def sp_veq (ρ : sp_R) (L : Nat) (M : ew_M) : Option Value → List ew_S → ew_M → Prop := fun v sh' M' => sh' = ew_SH L ∧ v = some (.int (nI (sp_vcd ρ (M 22)))) ∧ (∀ q, q ≠ 16 → q ≠ 44 → q ≠ 45 → q ≠ 46 → M' q = M q) ∧ M' 16 0 = nI 1 ∧ (sp_nB (M 22) = true → M' 46 0 = nI (sp_jv ρ (M 22) 0) ∧ M' 46 1 = nI (sp_jv ρ (M 22) 1) ∧ M' 46 2 = nI (sp_jv ρ (M 22) 2))
theorem sp_ite {c : Prop} [Decidable c] {a b n : Nat} (ha : a ≤ n) (hb : b ≤ n) : (if c then a else b) ≤ n := by
  by_cases h : c
  · rw [if_pos h]
    exact ha
  · rw [if_neg h]
    exact hb
theorem sp_code_le {ρ : sp_R} {f : Nat → Int32} : sp_kc0 ρ f ≤ 9 ∧ sp_kc1 ρ f ≤ 9 ∧ sp_kc2 ρ f ≤ 9 := ⟨sp_ite (by decide) (sp_ite (by decide) (sp_ite (by decide) (sp_ite (by decide) (sp_ite (by decide) (sp_ite (by decide) (sp_ite (by decide) (sp_ite (by decide) (by decide)))))))), sp_ite (by decide) (sp_ite (by decide) (sp_ite (by decide) (sp_ite (by decide) (sp_ite (by decide) (sp_ite (by decide) (sp_ite (by decide) (sp_ite (by decide) (by decide)))))))), sp_ite (by decide) (sp_ite (by decide) (sp_ite (by decide) (sp_ite (by decide) (sp_ite (by decide) (sp_ite (by decide) (sp_ite (by decide) (sp_ite (by decide) (by decide))))))))⟩
set_option maxRecDepth 100000 in
theorem c_Ve_code (l : Launch) (g : ew_G) (d L : Nat) (M : ew_M) (ρ : sp_R) (hr : sp_ru ρ M) (hT : sp_tab M) (hs : sp_st M) (h16 : M 16 0 = nI 1) :
    Ew l g (d + 7) 0 0 m_Ve_code 0 [.ref 43, .retAddr 0, .retAddr 0] [] (ew_SH L) M (sp_veq ρ L M) := by
  refine ew_aload_n d_Ve_code_0 rfl ?_
  refine ew_getr (ci := 6) (f := 2) d_Ve_code_1 rfl rfl rfl tw_199 ?_
  refine en_callV (As := []) (i := 21) (ci := 4) (st := []) (st1 := [.int (ew_b (sp_nB (M 22)))]) d_Ve_code_4 k_Pf_isInField rfl rfl tw_512 tw_513 tw_514 rfl (Nat.le_of_ble_eq_true rfl) rfl (Nat.le_of_ble_eq_true rfl) rfl rfl (c_Pf_isInField l g _ L M hs) rfl ?_
  refine en_b_ne (tgt := 12) d_Ve_code_7 (by decide) (fun h7 => ?_) (fun h7 => ?_)
  · refine ew_aload_n d_Ve_code_12 rfl ?_
    refine en_callVq (As := []) (i := 43) (ci := 6) (st := []) d_Ve_code_13 k_Ve_listen rfl rfl tw_527 tw_529 tp_20 rfl (Nat.le_of_ble_eq_true rfl) rfl (Nat.le_of_ble_eq_true rfl) rfl rfl (c_Ve_listen l g _ L M ρ hr) ?_
    rintro _ _ M1 ⟨rfl, rfl, a1, aA, ⟨aB0, aB1, aB2⟩, aj0, aj1, aj2⟩
    show Ew l g _ _ _ m_Ve_code 16 [.ref 43, .retAddr 0, .retAddr 0] [] (ew_SH L) M1 _
    refine ew_iconst (v := nI 0) d_Ve_code_16 (by decide) ?_
    refine en_istore_n (ls' := [.ref 43, .int (nI 0), .retAddr 0]) d_Ve_code_17 (Nat.le_of_ble_eq_true rfl) rfl ?_
    refine ew_iload_n d_Ve_code_18 rfl ?_
    refine ew_iconst (v := nI 3) d_Ve_code_19 (by decide) ?_
    refine en_icmp_ge (tgt := 41) d_Ve_code_20 (by decide) (by omega) (by omega) (fun h20 => by exact absurd h20 (by decide)) (fun h20 => ?_)
    refine ew_aload_n d_Ve_code_23 rfl ?_
    refine ew_iload_n d_Ve_code_24 rfl ?_
    refine en_callVq (As := [.int (nI 0)]) (i := 43) (ci := 6) (st := []) d_Ve_code_25 k_Ve_codeOf rfl rfl tw_534 tw_536 tp_21 rfl (Nat.le_of_ble_eq_true rfl) rfl (Nat.le_of_ble_eq_true rfl) rfl rfl ((by have z := c_Ve_codeOf0 l g (d + 2) L M1 ρ (sp_ru_of hr (by rw [a1 10 (by decide) (by decide) (by decide)]) (by rw [a1 11 (by decide) (by decide) (by decide)]) (by rw [a1 13 (by decide) (by decide) (by decide)]) (by rw [a1 14 (by decide) (by decide) (by decide)]) (by rw [a1 15 (by decide) (by decide) (by decide)])) (sp_tab_of hT (by rw [a1 5 (by decide) (by decide) (by decide)]) (by rw [a1 6 (by decide) (by decide) (by decide)]) (by rw [a1 7 (by decide) (by decide) (by decide)]) (by rw [a1 8 (by decide) (by decide) (by decide)]) (by rw [a1 9 (by decide) (by decide) (by decide)])) (sp_st_of hs (by rw [a1 1 (by decide) (by decide) (by decide)]) (by rw [a1 2 (by decide) (by decide) (by decide)])) (by (rw [a1 16 (by decide) (by decide) (by decide)]; exact h16)) (sp_fnf (M 22)) (by (rw [a1 22 (by decide) (by decide) (by decide)]; exact sp_nB_fn h7)) (sp_Av ρ (M 22)) (sp_Bv0 ρ (M 22)) (sp_Bv1 ρ (M 22)) (sp_Bv2 ρ (M 22)) (by (skip; exact aA)) (sp_ch_lt _) (by (skip; exact aB0)) (sp_ch_lt _) (by (skip; exact aB1)) (sp_ch_lt _) (by (skip; exact aB2)) (sp_ch_lt _) (sp_jv ρ (M 22) 0) (by (skip; exact aj0)) (sp_po_lt _); rw [show M1 22 = M 22 from (by rw [a1 22 (by decide) (by decide) (by decide)])] at z; exact z)) ?_
    rintro _ _ M2 ⟨rfl, rfl, c0, b0⟩
    show Ew l g _ _ _ m_Ve_code 28 [.ref 43, .int (nI 0), .retAddr 0] [.int (nI (sp_kc0 ρ (M 22)))] (ew_SH L) M2 _
    show Ew l g _ _ _ m_Ve_code 28 [.ref 43, .int (nI 0), .retAddr 0] [.int (nI (sp_kc0 ρ (M 22)))] (ew_SH L) M2 _
    refine en_istore_n (ls' := [.ref 43, .int (nI 0), .int (nI (sp_kc0 ρ (M 22)))]) d_Ve_code_28 (Nat.le_of_ble_eq_true rfl) rfl ?_
    refine ew_iload_n d_Ve_code_29 rfl ?_
    refine en_if_eq (tgt := 35) d_Ve_code_30 (by decide) (by have := sp_code_le (ρ := ρ) (f := M 22); omega) (fun h30 => ?_) (fun h30 => ?_)
    · refine en_inc (ls' := [.ref 43, .int (nI 1), .int (nI (sp_kc0 ρ (M 22)))]) d_Ve_code_35 rfl rfl ?_
      refine ew_goto (tgt := 18) d_Ve_code_38 (by decide) ?_
      refine ew_iload_n d_Ve_code_18 rfl ?_
      refine ew_iconst (v := nI 3) d_Ve_code_19 (by decide) ?_
      refine en_icmp_ge (tgt := 41) d_Ve_code_20 (by decide) (by omega) (by omega) (fun h20_1 => by exact absurd h20_1 (by decide)) (fun h20_1 => ?_)
      refine ew_aload_n d_Ve_code_23 rfl ?_
      refine ew_iload_n d_Ve_code_24 rfl ?_
      refine en_callVq (As := [.int (nI 1)]) (i := 43) (ci := 6) (st := []) d_Ve_code_25 k_Ve_codeOf rfl rfl tw_534 tw_536 tp_21 rfl (Nat.le_of_ble_eq_true rfl) rfl (Nat.le_of_ble_eq_true rfl) rfl rfl ((by have z := c_Ve_codeOf1 l g (d + 2) L M2 ρ (sp_ru_of hr (by rw [c0 10 (by decide), a1 10 (by decide) (by decide) (by decide)]) (by rw [c0 11 (by decide), a1 11 (by decide) (by decide) (by decide)]) (by rw [c0 13 (by decide), a1 13 (by decide) (by decide) (by decide)]) (by rw [c0 14 (by decide), a1 14 (by decide) (by decide) (by decide)]) (by rw [c0 15 (by decide), a1 15 (by decide) (by decide) (by decide)])) (sp_tab_of hT (by rw [c0 5 (by decide), a1 5 (by decide) (by decide) (by decide)]) (by rw [c0 6 (by decide), a1 6 (by decide) (by decide) (by decide)]) (by rw [c0 7 (by decide), a1 7 (by decide) (by decide) (by decide)]) (by rw [c0 8 (by decide), a1 8 (by decide) (by decide) (by decide)]) (by rw [c0 9 (by decide), a1 9 (by decide) (by decide) (by decide)])) (sp_st_of hs (by rw [c0 1 (by decide), a1 1 (by decide) (by decide) (by decide)]) (by rw [c0 2 (by decide), a1 2 (by decide) (by decide) (by decide)])) (b0) (sp_fnf (M 22)) (by (rw [c0 22 (by decide), a1 22 (by decide) (by decide) (by decide)]; exact sp_nB_fn h7)) (sp_Av ρ (M 22)) (sp_Bv0 ρ (M 22)) (sp_Bv1 ρ (M 22)) (sp_Bv2 ρ (M 22)) (by (rw [c0 44 (by decide)]; exact aA)) (sp_ch_lt _) (by (rw [c0 45 (by decide)]; exact aB0)) (sp_ch_lt _) (by (rw [c0 45 (by decide)]; exact aB1)) (sp_ch_lt _) (by (rw [c0 45 (by decide)]; exact aB2)) (sp_ch_lt _) (sp_jv ρ (M 22) 1) (by (rw [c0 46 (by decide)]; exact aj1)) (sp_po_lt _); rw [show M2 22 = M 22 from (by rw [c0 22 (by decide), a1 22 (by decide) (by decide) (by decide)])] at z; exact z)) ?_
      rintro _ _ M3 ⟨rfl, rfl, c1, b1⟩
      show Ew l g _ _ _ m_Ve_code 28 [.ref 43, .int (nI 1), .int (nI (sp_kc0 ρ (M 22)))] [.int (nI (sp_kc1 ρ (M 22)))] (ew_SH L) M3 _
      show Ew l g _ _ _ m_Ve_code 28 [.ref 43, .int (nI 1), .int (nI (sp_kc0 ρ (M 22)))] [.int (nI (sp_kc1 ρ (M 22)))] (ew_SH L) M3 _
      refine en_istore_n (ls' := [.ref 43, .int (nI 1), .int (nI (sp_kc1 ρ (M 22)))]) d_Ve_code_28 (Nat.le_of_ble_eq_true rfl) rfl ?_
      refine ew_iload_n d_Ve_code_29 rfl ?_
      refine en_if_eq (tgt := 35) d_Ve_code_30 (by decide) (by have := sp_code_le (ρ := ρ) (f := M 22); omega) (fun h30_1 => ?_) (fun h30_1 => ?_)
      · refine en_inc (ls' := [.ref 43, .int (nI 2), .int (nI (sp_kc1 ρ (M 22)))]) d_Ve_code_35 rfl rfl ?_
        refine ew_goto (tgt := 18) d_Ve_code_38 (by decide) ?_
        refine ew_iload_n d_Ve_code_18 rfl ?_
        refine ew_iconst (v := nI 3) d_Ve_code_19 (by decide) ?_
        refine en_icmp_ge (tgt := 41) d_Ve_code_20 (by decide) (by omega) (by omega) (fun h20_2 => by exact absurd h20_2 (by decide)) (fun h20_2 => ?_)
        refine ew_aload_n d_Ve_code_23 rfl ?_
        refine ew_iload_n d_Ve_code_24 rfl ?_
        refine en_callVq (As := [.int (nI 2)]) (i := 43) (ci := 6) (st := []) d_Ve_code_25 k_Ve_codeOf rfl rfl tw_534 tw_536 tp_21 rfl (Nat.le_of_ble_eq_true rfl) rfl (Nat.le_of_ble_eq_true rfl) rfl rfl ((by have z := c_Ve_codeOf2 l g (d + 2) L M3 ρ (sp_ru_of hr (by rw [c1 10 (by decide), c0 10 (by decide), a1 10 (by decide) (by decide) (by decide)]) (by rw [c1 11 (by decide), c0 11 (by decide), a1 11 (by decide) (by decide) (by decide)]) (by rw [c1 13 (by decide), c0 13 (by decide), a1 13 (by decide) (by decide) (by decide)]) (by rw [c1 14 (by decide), c0 14 (by decide), a1 14 (by decide) (by decide) (by decide)]) (by rw [c1 15 (by decide), c0 15 (by decide), a1 15 (by decide) (by decide) (by decide)])) (sp_tab_of hT (by rw [c1 5 (by decide), c0 5 (by decide), a1 5 (by decide) (by decide) (by decide)]) (by rw [c1 6 (by decide), c0 6 (by decide), a1 6 (by decide) (by decide) (by decide)]) (by rw [c1 7 (by decide), c0 7 (by decide), a1 7 (by decide) (by decide) (by decide)]) (by rw [c1 8 (by decide), c0 8 (by decide), a1 8 (by decide) (by decide) (by decide)]) (by rw [c1 9 (by decide), c0 9 (by decide), a1 9 (by decide) (by decide) (by decide)])) (sp_st_of hs (by rw [c1 1 (by decide), c0 1 (by decide), a1 1 (by decide) (by decide) (by decide)]) (by rw [c1 2 (by decide), c0 2 (by decide), a1 2 (by decide) (by decide) (by decide)])) (b1) (sp_fnf (M 22)) (by (rw [c1 22 (by decide), c0 22 (by decide), a1 22 (by decide) (by decide) (by decide)]; exact sp_nB_fn h7)) (sp_Av ρ (M 22)) (sp_Bv0 ρ (M 22)) (sp_Bv1 ρ (M 22)) (sp_Bv2 ρ (M 22)) (by (rw [c1 44 (by decide), c0 44 (by decide)]; exact aA)) (sp_ch_lt _) (by (rw [c1 45 (by decide), c0 45 (by decide)]; exact aB0)) (sp_ch_lt _) (by (rw [c1 45 (by decide), c0 45 (by decide)]; exact aB1)) (sp_ch_lt _) (by (rw [c1 45 (by decide), c0 45 (by decide)]; exact aB2)) (sp_ch_lt _) (sp_jv ρ (M 22) 2) (by (rw [c1 46 (by decide), c0 46 (by decide)]; exact aj2)) (sp_po_lt _); rw [show M3 22 = M 22 from (by rw [c1 22 (by decide), c0 22 (by decide), a1 22 (by decide) (by decide) (by decide)])] at z; exact z)) ?_
        rintro _ _ M4 ⟨rfl, rfl, c2, b2⟩
        show Ew l g _ _ _ m_Ve_code 28 [.ref 43, .int (nI 2), .int (nI (sp_kc1 ρ (M 22)))] [.int (nI (sp_kc2 ρ (M 22)))] (ew_SH L) M4 _
        show Ew l g _ _ _ m_Ve_code 28 [.ref 43, .int (nI 2), .int (nI (sp_kc1 ρ (M 22)))] [.int (nI (sp_kc2 ρ (M 22)))] (ew_SH L) M4 _
        refine en_istore_n (ls' := [.ref 43, .int (nI 2), .int (nI (sp_kc2 ρ (M 22)))]) d_Ve_code_28 (Nat.le_of_ble_eq_true rfl) rfl ?_
        refine ew_iload_n d_Ve_code_29 rfl ?_
        refine en_if_eq (tgt := 35) d_Ve_code_30 (by decide) (by have := sp_code_le (ρ := ρ) (f := M 22); omega) (fun h30_2 => ?_) (fun h30_2 => ?_)
        · refine en_inc (ls' := [.ref 43, .int (nI 3), .int (nI (sp_kc2 ρ (M 22)))]) d_Ve_code_35 rfl rfl ?_
          refine ew_goto (tgt := 18) d_Ve_code_38 (by decide) ?_
          refine ew_iload_n d_Ve_code_18 rfl ?_
          refine ew_iconst (v := nI 3) d_Ve_code_19 (by decide) ?_
          refine en_icmp_ge (tgt := 41) d_Ve_code_20 (by decide) (by omega) (by omega) (fun h20_3 => ?_) (fun h20_3 => by exact absurd h20_3 (by decide))
          refine ew_iconst (v := nI 0) d_Ve_code_41 (by decide) ?_
          exact ew_iret d_Ve_code_42 rfl (⟨rfl, by rw [show sp_vcd ρ (M 22) = 0 from by (unfold sp_vcd; rw [if_neg (ts_n h7), if_neg (fun z => z h30), if_neg (fun z => z h30_1)]; exact h30_2)], fun q g16 g44 g45 g46 => by rw [c2 q g16, c1 q g16, c0 q g16, a1 q g44 g45 g46], b2, fun _ => ⟨by rw [c2 46 (by decide), c1 46 (by decide), c0 46 (by decide)]; exact aj0, by rw [c2 46 (by decide), c1 46 (by decide), c0 46 (by decide)]; exact aj1, by rw [c2 46 (by decide), c1 46 (by decide), c0 46 (by decide)]; exact aj2⟩⟩)
        · refine ew_iload_n d_Ve_code_33 rfl ?_
          exact ew_iret d_Ve_code_34 rfl (⟨rfl, by rw [show sp_vcd ρ (M 22) = sp_kc2 ρ (M 22) from by (unfold sp_vcd; rw [if_neg (ts_n h7), if_neg (fun z => z h30), if_neg (fun z => z h30_1)])], fun q g16 g44 g45 g46 => by rw [c2 q g16, c1 q g16, c0 q g16, a1 q g44 g45 g46], b2, fun _ => ⟨by rw [c2 46 (by decide), c1 46 (by decide), c0 46 (by decide)]; exact aj0, by rw [c2 46 (by decide), c1 46 (by decide), c0 46 (by decide)]; exact aj1, by rw [c2 46 (by decide), c1 46 (by decide), c0 46 (by decide)]; exact aj2⟩⟩)
      · refine ew_iload_n d_Ve_code_33 rfl ?_
        exact ew_iret d_Ve_code_34 rfl (⟨rfl, by rw [show sp_vcd ρ (M 22) = sp_kc1 ρ (M 22) from by (unfold sp_vcd; rw [if_neg (ts_n h7), if_neg (fun z => z h30), if_pos h30_1])], fun q g16 g44 g45 g46 => by rw [c1 q g16, c0 q g16, a1 q g44 g45 g46], b1, fun _ => ⟨by rw [c1 46 (by decide), c0 46 (by decide)]; exact aj0, by rw [c1 46 (by decide), c0 46 (by decide)]; exact aj1, by rw [c1 46 (by decide), c0 46 (by decide)]; exact aj2⟩⟩)
    · refine ew_iload_n d_Ve_code_33 rfl ?_
      exact ew_iret d_Ve_code_34 rfl (⟨rfl, by rw [show sp_vcd ρ (M 22) = sp_kc0 ρ (M 22) from by (unfold sp_vcd; rw [if_neg (ts_n h7), if_pos h30])], fun q g16 g44 g45 g46 => by rw [c0 q g16, a1 q g44 g45 g46], b0, fun _ => ⟨by rw [c0 46 (by decide)]; exact aj0, by rw [c0 46 (by decide)]; exact aj1, by rw [c0 46 (by decide)]; exact aj2⟩⟩)
  · refine ew_iconst (v := nI 1) d_Ve_code_10 (by decide) ?_
    exact ew_iret d_Ve_code_11 rfl (⟨rfl, by rw [show sp_vcd ρ (M 22) = 1 from if_pos h7], fun q _ _ _ _ => rfl, h16, fun q => absurd q (by rw [h7]; decide)⟩)
