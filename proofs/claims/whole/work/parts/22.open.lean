def sp_o1 (p0 p1 nd f : Nat → Int32) (s i : Nat) : Nat → Int32 := sp_pa nd 6 (upd (upd f s (p0 i)) (s + 1) (p1 i)) (s + 2) (32 + i)
def sp_o2 (y nd : Nat → Int32) (c : Nat) (f : Nat → Int32) (s i : Nat) : Nat → Int32 := sp_pa nd 6 (upd f s (y i)) (s + 1) (c + i)
def sp_oc (p0 p1 nd f : Nat → Int32) (k j : Nat) : Nat → Int32 := sp_o1 p0 p1 nd (sp_o1 p0 p1 nd (sp_o1 p0 p1 nd (sp_o1 p0 p1 nd f (5 + 58 * k + 7 * 0) ((j + 0) % 32)) (5 + 58 * k + 7 * 1) ((j + 4) % 32)) (5 + 58 * k + 7 * 2) ((j + 16) % 32)) (5 + 58 * k + 7 * 3) ((j + 20) % 32)
def sp_ol (y0 n0 y1 n1 y2 n2 f : Nat → Int32) (k j : Nat) : Nat → Int32 := sp_o2 y2 n2 8 (sp_o2 y2 n2 8 (sp_o2 y1 n1 16 (sp_o2 y1 n1 16 (sp_o2 y0 n0 32 (sp_o2 y0 n0 32 f (5 + 58 * k + 28 + 6 * 0) (j % 16 + 16 * 0)) (5 + 58 * k + 28 + 6 * 1) (j % 16 + 16 * 1)) (5 + 58 * k + 40 + 5 * 0) (j % 8 + 8 * 0)) (5 + 58 * k + 40 + 5 * 1) (j % 8 + 8 * 1)) (5 + 58 * k + 50 + 4 * 0) (j % 4 + 4 * 0)) (5 + 58 * k + 50 + 4 * 1) (j % 4 + 4 * 1)
set_option maxRecDepth 100000 in
theorem c_Pr_openColumns (l : Launch) (g : ew_G) (d L : Nat) (M : ew_M) (hs : sp_st M) (hz : M 34 0 = nI 32) (k j : Nat) (hk : k < 3) (hj : M 26 k = nI j) (hj2 : j < 16) :
    Ew l g (d + 1) 0 0 m_Pr_openColumns 0 [.ref 23, .ref 22, .int (nI k), .retAddr 0, .retAddr 0, .retAddr 0] [] (ew_SH L) M (ew_q none (ew_SH L) (ew_up M 22 (sp_oc (M 28) (M 29) (M 35) (M 22) k j))) := by
  refine en_eq (M' := ew_up M 22 (M 22)) rfl rfl (ew_up_id).symm ?_
  refine ew_iconst (v := nI 0) d_Pr_openColumns_0 (by decide) ?_
  refine en_istore_n (ls' := [.ref 23, .ref 22, .int (nI k), .int (nI 0), .retAddr 0, .retAddr 0]) d_Pr_openColumns_1 (Nat.le_of_ble_eq_true rfl) rfl ?_
  refine ew_iload_n d_Pr_openColumns_2 rfl ?_
  refine ew_iconst (v := nI 4) d_Pr_openColumns_3 (by decide) ?_
  refine en_icmp_ge (tgt := 77) d_Pr_openColumns_4 (by decide) (by omega) (by omega) (fun h4 => by exact absurd h4 (by decide)) (fun h4 => ?_)
  refine ew_aload_n d_Pr_openColumns_7 rfl ?_
  refine ew_getr (ci := 5) (f := 3) d_Pr_openColumns_8 rfl rfl rfl tw_167 ?_
  refine ew_getrN (ci := 7) (f := 3) d_Pr_openColumns_11 rfl rfl rfl tw_136 ?_
  refine ew_iload_n d_Pr_openColumns_14 rfl ?_
  refine ew_iald (j := k) d_Pr_openColumns_15 rfl (rfl) (by omega) (by decide) ?_
  refine en_eq (st' := [.int (nI j)]) rfl (by rw [show ((ew_up M 22 (M 22)) 26 k) = (nI j) from by rw [ew_up_ne (by decide)]; exact hj]) rfl ?_
  refine ew_iload_n d_Pr_openColumns_16 rfl ?_
  refine en_callS (As := [.int (nI j), .int (nI 0)]) (st := []) (st1 := [.int (nI ((j + 0) % 32))]) d_Pr_openColumns_17 k_Pf_columnIndex tw_467 tw_468 rfl (Nat.le_of_ble_eq_true rfl) rfl (Nat.le_of_ble_eq_true rfl) rfl rfl (c_Pf_columnIndex0 l g _ L (ew_up M 22 (M 22)) (sp_st_of hs (ew_up_ne (by decide)) (ew_up_ne (by decide))) j (hj2)) rfl ?_
  refine en_istore (ls' := [.ref 23, .ref 22, .int (nI k), .int (nI 0), .int (nI ((j + 0) % 32)), .retAddr 0]) d_Pr_openColumns_20 (Nat.le_of_ble_eq_true rfl) rfl ?_
  refine ew_iload_n d_Pr_openColumns_22 rfl ?_
  refine ew_iload_n d_Pr_openColumns_23 rfl ?_
  refine en_callS (As := [.int (nI k), .int (nI 0)]) (st := []) (st1 := [.int (nI (5 + 58 * k + 7 * 0))]) d_Pr_openColumns_24 k_Pf_columnStart tw_472 tw_473 rfl (Nat.le_of_ble_eq_true rfl) rfl (Nat.le_of_ble_eq_true rfl) rfl rfl (c_Pf_columnStart l g _ L (ew_up M 22 (M 22)) k 0) rfl ?_
  refine en_istore (ls' := [.ref 23, .ref 22, .int (nI k), .int (nI 0), .int (nI ((j + 0) % 32)), .int (nI (5 + 58 * k + 7 * 0))]) d_Pr_openColumns_27 (Nat.le_of_ble_eq_true rfl) rfl ?_
  refine ew_aload_n d_Pr_openColumns_29 rfl ?_
  refine ew_iload d_Pr_openColumns_30 rfl ?_
  refine ew_aload_n d_Pr_openColumns_32 rfl ?_
  refine ew_getr (ci := 5) (f := 4) d_Pr_openColumns_33 rfl rfl rfl tw_168 ?_
  refine ew_iconst (v := nI 0) d_Pr_openColumns_36 (by decide) ?_
  refine ew_aald (j := 0) d_Pr_openColumns_37 rfl (by decide) rfl rfl (by decide) ?_
  refine ew_iload d_Pr_openColumns_38 rfl ?_
  refine ew_iald (j := (j + 0) % 32) d_Pr_openColumns_40 rfl (rfl) (by omega) (by decide) ?_
  refine en_eq (st' := [.int (M 28 ((j + 0) % 32)), .int (nI (5 + 58 * k + 7 * 0)), .ref 22]) rfl (by rw [show ((ew_up M 22 (M 22)) 28 ((j + 0) % 32)) = (M 28 ((j + 0) % 32)) from by rw [ew_up_ne (by decide)]]) rfl ?_
  refine ew_iast (j := 5 + 58 * k + 7 * 0) d_Pr_openColumns_41 rfl (by decide) (rfl) (by omega) (by decide) ?_
  refine en_eq (M' := ew_up M 22 (upd (M 22) (5 + 58 * k + 7 * 0) (M 28 ((j + 0) % 32)))) rfl rfl (ew_w_up) ?_
  refine ew_aload_n d_Pr_openColumns_42 rfl ?_
  refine ew_iload d_Pr_openColumns_43 rfl ?_
  refine ew_iconst (v := nI 1) d_Pr_openColumns_45 (by decide) ?_
  refine en_iadd d_Pr_openColumns_46 ?_
  refine ew_aload_n d_Pr_openColumns_47 rfl ?_
  refine ew_getr (ci := 5) (f := 4) d_Pr_openColumns_48 rfl rfl rfl tw_168 ?_
  refine ew_iconst (v := nI 1) d_Pr_openColumns_51 (by decide) ?_
  refine ew_aald (j := 1) d_Pr_openColumns_52 rfl (by decide) rfl rfl (by decide) ?_
  refine ew_iload d_Pr_openColumns_53 rfl ?_
  refine ew_iald (j := (j + 0) % 32) d_Pr_openColumns_55 rfl (rfl) (by omega) (by decide) ?_
  refine en_eq (st' := [.int (M 29 ((j + 0) % 32)), .int (nI ((5 + 58 * k + 7 * 0) + 1)), .ref 22]) rfl (by rw [show ((ew_up M 22 (upd (M 22) (5 + 58 * k + 7 * 0) (M 28 ((j + 0) % 32)))) 29 ((j + 0) % 32)) = (M 29 ((j + 0) % 32)) from by rw [ew_up_ne (by decide)]]) rfl ?_
  refine ew_iast (j := (5 + 58 * k + 7 * 0) + 1) d_Pr_openColumns_56 rfl (by decide) (rfl) (by omega) (by decide) ?_
  refine en_eq (M' := ew_up M 22 (upd (upd (M 22) (5 + 58 * k + 7 * 0) (M 28 ((j + 0) % 32))) ((5 + 58 * k + 7 * 0) + 1) (M 29 ((j + 0) % 32)))) rfl rfl (ew_w_up) ?_
  refine ew_aload_n d_Pr_openColumns_57 rfl ?_
  refine ew_getr (ci := 5) (f := 6) d_Pr_openColumns_58 rfl rfl rfl tw_170 ?_
  refine ew_iload d_Pr_openColumns_61 rfl ?_
  refine ew_aload_n d_Pr_openColumns_63 rfl ?_
  refine ew_iload d_Pr_openColumns_64 rfl ?_
  refine ew_iconst (v := nI 2) d_Pr_openColumns_66 (by decide) ?_
  refine en_iadd d_Pr_openColumns_67 ?_
  refine en_callV (As := [.int (nI ((j + 0) % 32)), .ref 22, .int (nI ((5 + 58 * k + 7 * 0) + 2))]) (i := 34) (ci := 8) (st := []) (st1 := []) d_Pr_openColumns_68 k_Tr_copyPath rfl rfl tw_475 tw_476 tw_477 rfl (Nat.le_of_ble_eq_true rfl) rfl (Nat.le_of_ble_eq_true rfl) rfl rfl (c_Tr_copyPath34 l g _ L (ew_up M 22 (upd (upd (M 22) (5 + 58 * k + 7 * 0) (M 28 ((j + 0) % 32))) ((5 + 58 * k + 7 * 0) + 1) (M 29 ((j + 0) % 32)))) (by rw [ew_up_ne (by decide)]; exact hz) ((j + 0) % 32) ((5 + 58 * k + 7 * 0) + 2) (by omega) (by omega)) rfl ?_
  refine en_eq (M' := ew_up M 22 (sp_o1 (M 28) (M 29) (M 35) (M 22) (5 + 58 * k + 7 * 0) ((j + 0) % 32))) rfl rfl (by rw [ew_upup, ew_up_ne (by decide), ew_up_self]; rfl) ?_
  refine en_inc (ls' := [.ref 23, .ref 22, .int (nI k), .int (nI 1), .int (nI ((j + 0) % 32)), .int (nI (5 + 58 * k + 7 * 0))]) d_Pr_openColumns_71 rfl rfl ?_
  refine ew_goto (tgt := 2) d_Pr_openColumns_74 (by decide) ?_
  refine ew_iload_n d_Pr_openColumns_2 rfl ?_
  refine ew_iconst (v := nI 4) d_Pr_openColumns_3 (by decide) ?_
  refine en_icmp_ge (tgt := 77) d_Pr_openColumns_4 (by decide) (by omega) (by omega) (fun h4 => by exact absurd h4 (by decide)) (fun h4 => ?_)
  refine ew_aload_n d_Pr_openColumns_7 rfl ?_
  refine ew_getr (ci := 5) (f := 3) d_Pr_openColumns_8 rfl rfl rfl tw_167 ?_
  refine ew_getrN (ci := 7) (f := 3) d_Pr_openColumns_11 rfl rfl rfl tw_136 ?_
  refine ew_iload_n d_Pr_openColumns_14 rfl ?_
  refine ew_iald (j := k) d_Pr_openColumns_15 rfl (rfl) (by omega) (by decide) ?_
  refine en_eq (st' := [.int (nI j)]) rfl (by rw [show ((ew_up M 22 (sp_o1 (M 28) (M 29) (M 35) (M 22) (5 + 58 * k + 7 * 0) ((j + 0) % 32))) 26 k) = (nI j) from by rw [ew_up_ne (by decide)]; exact hj]) rfl ?_
  refine ew_iload_n d_Pr_openColumns_16 rfl ?_
  refine en_callS (As := [.int (nI j), .int (nI 1)]) (st := []) (st1 := [.int (nI ((j + 4) % 32))]) d_Pr_openColumns_17 k_Pf_columnIndex tw_467 tw_468 rfl (Nat.le_of_ble_eq_true rfl) rfl (Nat.le_of_ble_eq_true rfl) rfl rfl (c_Pf_columnIndex1 l g _ L (ew_up M 22 (sp_o1 (M 28) (M 29) (M 35) (M 22) (5 + 58 * k + 7 * 0) ((j + 0) % 32))) (sp_st_of hs (ew_up_ne (by decide)) (ew_up_ne (by decide))) j (hj2)) rfl ?_
  refine en_istore (ls' := [.ref 23, .ref 22, .int (nI k), .int (nI 1), .int (nI ((j + 4) % 32)), .int (nI (5 + 58 * k + 7 * 0))]) d_Pr_openColumns_20 (Nat.le_of_ble_eq_true rfl) rfl ?_
  refine ew_iload_n d_Pr_openColumns_22 rfl ?_
  refine ew_iload_n d_Pr_openColumns_23 rfl ?_
  refine en_callS (As := [.int (nI k), .int (nI 1)]) (st := []) (st1 := [.int (nI (5 + 58 * k + 7 * 1))]) d_Pr_openColumns_24 k_Pf_columnStart tw_472 tw_473 rfl (Nat.le_of_ble_eq_true rfl) rfl (Nat.le_of_ble_eq_true rfl) rfl rfl (c_Pf_columnStart l g _ L (ew_up M 22 (sp_o1 (M 28) (M 29) (M 35) (M 22) (5 + 58 * k + 7 * 0) ((j + 0) % 32))) k 1) rfl ?_
  refine en_istore (ls' := [.ref 23, .ref 22, .int (nI k), .int (nI 1), .int (nI ((j + 4) % 32)), .int (nI (5 + 58 * k + 7 * 1))]) d_Pr_openColumns_27 (Nat.le_of_ble_eq_true rfl) rfl ?_
  refine ew_aload_n d_Pr_openColumns_29 rfl ?_
  refine ew_iload d_Pr_openColumns_30 rfl ?_
  refine ew_aload_n d_Pr_openColumns_32 rfl ?_
  refine ew_getr (ci := 5) (f := 4) d_Pr_openColumns_33 rfl rfl rfl tw_168 ?_
  refine ew_iconst (v := nI 0) d_Pr_openColumns_36 (by decide) ?_
  refine ew_aald (j := 0) d_Pr_openColumns_37 rfl (by decide) rfl rfl (by decide) ?_
  refine ew_iload d_Pr_openColumns_38 rfl ?_
  refine ew_iald (j := (j + 4) % 32) d_Pr_openColumns_40 rfl (rfl) (by omega) (by decide) ?_
  refine en_eq (st' := [.int (M 28 ((j + 4) % 32)), .int (nI (5 + 58 * k + 7 * 1)), .ref 22]) rfl (by rw [show ((ew_up M 22 (sp_o1 (M 28) (M 29) (M 35) (M 22) (5 + 58 * k + 7 * 0) ((j + 0) % 32))) 28 ((j + 4) % 32)) = (M 28 ((j + 4) % 32)) from by rw [ew_up_ne (by decide)]]) rfl ?_
  refine ew_iast (j := 5 + 58 * k + 7 * 1) d_Pr_openColumns_41 rfl (by decide) (rfl) (by omega) (by decide) ?_
  refine en_eq (M' := ew_up M 22 (upd (sp_o1 (M 28) (M 29) (M 35) (M 22) (5 + 58 * k + 7 * 0) ((j + 0) % 32)) (5 + 58 * k + 7 * 1) (M 28 ((j + 4) % 32)))) rfl rfl (ew_w_up) ?_
  refine ew_aload_n d_Pr_openColumns_42 rfl ?_
  refine ew_iload d_Pr_openColumns_43 rfl ?_
  refine ew_iconst (v := nI 1) d_Pr_openColumns_45 (by decide) ?_
  refine en_iadd d_Pr_openColumns_46 ?_
  refine ew_aload_n d_Pr_openColumns_47 rfl ?_
  refine ew_getr (ci := 5) (f := 4) d_Pr_openColumns_48 rfl rfl rfl tw_168 ?_
  refine ew_iconst (v := nI 1) d_Pr_openColumns_51 (by decide) ?_
  refine ew_aald (j := 1) d_Pr_openColumns_52 rfl (by decide) rfl rfl (by decide) ?_
  refine ew_iload d_Pr_openColumns_53 rfl ?_
  refine ew_iald (j := (j + 4) % 32) d_Pr_openColumns_55 rfl (rfl) (by omega) (by decide) ?_
  refine en_eq (st' := [.int (M 29 ((j + 4) % 32)), .int (nI ((5 + 58 * k + 7 * 1) + 1)), .ref 22]) rfl (by rw [show ((ew_up M 22 (upd (sp_o1 (M 28) (M 29) (M 35) (M 22) (5 + 58 * k + 7 * 0) ((j + 0) % 32)) (5 + 58 * k + 7 * 1) (M 28 ((j + 4) % 32)))) 29 ((j + 4) % 32)) = (M 29 ((j + 4) % 32)) from by rw [ew_up_ne (by decide)]]) rfl ?_
  refine ew_iast (j := (5 + 58 * k + 7 * 1) + 1) d_Pr_openColumns_56 rfl (by decide) (rfl) (by omega) (by decide) ?_
  refine en_eq (M' := ew_up M 22 (upd (upd (sp_o1 (M 28) (M 29) (M 35) (M 22) (5 + 58 * k + 7 * 0) ((j + 0) % 32)) (5 + 58 * k + 7 * 1) (M 28 ((j + 4) % 32))) ((5 + 58 * k + 7 * 1) + 1) (M 29 ((j + 4) % 32)))) rfl rfl (ew_w_up) ?_
  refine ew_aload_n d_Pr_openColumns_57 rfl ?_
  refine ew_getr (ci := 5) (f := 6) d_Pr_openColumns_58 rfl rfl rfl tw_170 ?_
  refine ew_iload d_Pr_openColumns_61 rfl ?_
  refine ew_aload_n d_Pr_openColumns_63 rfl ?_
  refine ew_iload d_Pr_openColumns_64 rfl ?_
  refine ew_iconst (v := nI 2) d_Pr_openColumns_66 (by decide) ?_
  refine en_iadd d_Pr_openColumns_67 ?_
  refine en_callV (As := [.int (nI ((j + 4) % 32)), .ref 22, .int (nI ((5 + 58 * k + 7 * 1) + 2))]) (i := 34) (ci := 8) (st := []) (st1 := []) d_Pr_openColumns_68 k_Tr_copyPath rfl rfl tw_475 tw_476 tw_477 rfl (Nat.le_of_ble_eq_true rfl) rfl (Nat.le_of_ble_eq_true rfl) rfl rfl (c_Tr_copyPath34 l g _ L (ew_up M 22 (upd (upd (sp_o1 (M 28) (M 29) (M 35) (M 22) (5 + 58 * k + 7 * 0) ((j + 0) % 32)) (5 + 58 * k + 7 * 1) (M 28 ((j + 4) % 32))) ((5 + 58 * k + 7 * 1) + 1) (M 29 ((j + 4) % 32)))) (by rw [ew_up_ne (by decide)]; exact hz) ((j + 4) % 32) ((5 + 58 * k + 7 * 1) + 2) (by omega) (by omega)) rfl ?_
  refine en_eq (M' := ew_up M 22 (sp_o1 (M 28) (M 29) (M 35) (sp_o1 (M 28) (M 29) (M 35) (M 22) (5 + 58 * k + 7 * 0) ((j + 0) % 32)) (5 + 58 * k + 7 * 1) ((j + 4) % 32))) rfl rfl (by rw [ew_upup, ew_up_ne (by decide), ew_up_self]; rfl) ?_
  refine en_inc (ls' := [.ref 23, .ref 22, .int (nI k), .int (nI 2), .int (nI ((j + 4) % 32)), .int (nI (5 + 58 * k + 7 * 1))]) d_Pr_openColumns_71 rfl rfl ?_
  refine ew_goto (tgt := 2) d_Pr_openColumns_74 (by decide) ?_
  refine ew_iload_n d_Pr_openColumns_2 rfl ?_
  refine ew_iconst (v := nI 4) d_Pr_openColumns_3 (by decide) ?_
  refine en_icmp_ge (tgt := 77) d_Pr_openColumns_4 (by decide) (by omega) (by omega) (fun h4 => by exact absurd h4 (by decide)) (fun h4 => ?_)
  refine ew_aload_n d_Pr_openColumns_7 rfl ?_
  refine ew_getr (ci := 5) (f := 3) d_Pr_openColumns_8 rfl rfl rfl tw_167 ?_
  refine ew_getrN (ci := 7) (f := 3) d_Pr_openColumns_11 rfl rfl rfl tw_136 ?_
  refine ew_iload_n d_Pr_openColumns_14 rfl ?_
  refine ew_iald (j := k) d_Pr_openColumns_15 rfl (rfl) (by omega) (by decide) ?_
  refine en_eq (st' := [.int (nI j)]) rfl (by rw [show ((ew_up M 22 (sp_o1 (M 28) (M 29) (M 35) (sp_o1 (M 28) (M 29) (M 35) (M 22) (5 + 58 * k + 7 * 0) ((j + 0) % 32)) (5 + 58 * k + 7 * 1) ((j + 4) % 32))) 26 k) = (nI j) from by rw [ew_up_ne (by decide)]; exact hj]) rfl ?_
  refine ew_iload_n d_Pr_openColumns_16 rfl ?_
  refine en_callS (As := [.int (nI j), .int (nI 2)]) (st := []) (st1 := [.int (nI ((j + 16) % 32))]) d_Pr_openColumns_17 k_Pf_columnIndex tw_467 tw_468 rfl (Nat.le_of_ble_eq_true rfl) rfl (Nat.le_of_ble_eq_true rfl) rfl rfl (c_Pf_columnIndex2 l g _ L (ew_up M 22 (sp_o1 (M 28) (M 29) (M 35) (sp_o1 (M 28) (M 29) (M 35) (M 22) (5 + 58 * k + 7 * 0) ((j + 0) % 32)) (5 + 58 * k + 7 * 1) ((j + 4) % 32))) (sp_st_of hs (ew_up_ne (by decide)) (ew_up_ne (by decide))) j (hj2)) rfl ?_
  refine en_istore (ls' := [.ref 23, .ref 22, .int (nI k), .int (nI 2), .int (nI ((j + 16) % 32)), .int (nI (5 + 58 * k + 7 * 1))]) d_Pr_openColumns_20 (Nat.le_of_ble_eq_true rfl) rfl ?_
  refine ew_iload_n d_Pr_openColumns_22 rfl ?_
  refine ew_iload_n d_Pr_openColumns_23 rfl ?_
  refine en_callS (As := [.int (nI k), .int (nI 2)]) (st := []) (st1 := [.int (nI (5 + 58 * k + 7 * 2))]) d_Pr_openColumns_24 k_Pf_columnStart tw_472 tw_473 rfl (Nat.le_of_ble_eq_true rfl) rfl (Nat.le_of_ble_eq_true rfl) rfl rfl (c_Pf_columnStart l g _ L (ew_up M 22 (sp_o1 (M 28) (M 29) (M 35) (sp_o1 (M 28) (M 29) (M 35) (M 22) (5 + 58 * k + 7 * 0) ((j + 0) % 32)) (5 + 58 * k + 7 * 1) ((j + 4) % 32))) k 2) rfl ?_
  refine en_istore (ls' := [.ref 23, .ref 22, .int (nI k), .int (nI 2), .int (nI ((j + 16) % 32)), .int (nI (5 + 58 * k + 7 * 2))]) d_Pr_openColumns_27 (Nat.le_of_ble_eq_true rfl) rfl ?_
  refine ew_aload_n d_Pr_openColumns_29 rfl ?_
  refine ew_iload d_Pr_openColumns_30 rfl ?_
  refine ew_aload_n d_Pr_openColumns_32 rfl ?_
  refine ew_getr (ci := 5) (f := 4) d_Pr_openColumns_33 rfl rfl rfl tw_168 ?_
  refine ew_iconst (v := nI 0) d_Pr_openColumns_36 (by decide) ?_
  refine ew_aald (j := 0) d_Pr_openColumns_37 rfl (by decide) rfl rfl (by decide) ?_
  refine ew_iload d_Pr_openColumns_38 rfl ?_
  refine ew_iald (j := (j + 16) % 32) d_Pr_openColumns_40 rfl (rfl) (by omega) (by decide) ?_
  refine en_eq (st' := [.int (M 28 ((j + 16) % 32)), .int (nI (5 + 58 * k + 7 * 2)), .ref 22]) rfl (by rw [show ((ew_up M 22 (sp_o1 (M 28) (M 29) (M 35) (sp_o1 (M 28) (M 29) (M 35) (M 22) (5 + 58 * k + 7 * 0) ((j + 0) % 32)) (5 + 58 * k + 7 * 1) ((j + 4) % 32))) 28 ((j + 16) % 32)) = (M 28 ((j + 16) % 32)) from by rw [ew_up_ne (by decide)]]) rfl ?_
  refine ew_iast (j := 5 + 58 * k + 7 * 2) d_Pr_openColumns_41 rfl (by decide) (rfl) (by omega) (by decide) ?_
  refine en_eq (M' := ew_up M 22 (upd (sp_o1 (M 28) (M 29) (M 35) (sp_o1 (M 28) (M 29) (M 35) (M 22) (5 + 58 * k + 7 * 0) ((j + 0) % 32)) (5 + 58 * k + 7 * 1) ((j + 4) % 32)) (5 + 58 * k + 7 * 2) (M 28 ((j + 16) % 32)))) rfl rfl (ew_w_up) ?_
  refine ew_aload_n d_Pr_openColumns_42 rfl ?_
  refine ew_iload d_Pr_openColumns_43 rfl ?_
  refine ew_iconst (v := nI 1) d_Pr_openColumns_45 (by decide) ?_
  refine en_iadd d_Pr_openColumns_46 ?_
  refine ew_aload_n d_Pr_openColumns_47 rfl ?_
  refine ew_getr (ci := 5) (f := 4) d_Pr_openColumns_48 rfl rfl rfl tw_168 ?_
  refine ew_iconst (v := nI 1) d_Pr_openColumns_51 (by decide) ?_
  refine ew_aald (j := 1) d_Pr_openColumns_52 rfl (by decide) rfl rfl (by decide) ?_
  refine ew_iload d_Pr_openColumns_53 rfl ?_
  refine ew_iald (j := (j + 16) % 32) d_Pr_openColumns_55 rfl (rfl) (by omega) (by decide) ?_
  refine en_eq (st' := [.int (M 29 ((j + 16) % 32)), .int (nI ((5 + 58 * k + 7 * 2) + 1)), .ref 22]) rfl (by rw [show ((ew_up M 22 (upd (sp_o1 (M 28) (M 29) (M 35) (sp_o1 (M 28) (M 29) (M 35) (M 22) (5 + 58 * k + 7 * 0) ((j + 0) % 32)) (5 + 58 * k + 7 * 1) ((j + 4) % 32)) (5 + 58 * k + 7 * 2) (M 28 ((j + 16) % 32)))) 29 ((j + 16) % 32)) = (M 29 ((j + 16) % 32)) from by rw [ew_up_ne (by decide)]]) rfl ?_
  refine ew_iast (j := (5 + 58 * k + 7 * 2) + 1) d_Pr_openColumns_56 rfl (by decide) (rfl) (by omega) (by decide) ?_
  refine en_eq (M' := ew_up M 22 (upd (upd (sp_o1 (M 28) (M 29) (M 35) (sp_o1 (M 28) (M 29) (M 35) (M 22) (5 + 58 * k + 7 * 0) ((j + 0) % 32)) (5 + 58 * k + 7 * 1) ((j + 4) % 32)) (5 + 58 * k + 7 * 2) (M 28 ((j + 16) % 32))) ((5 + 58 * k + 7 * 2) + 1) (M 29 ((j + 16) % 32)))) rfl rfl (ew_w_up) ?_
  refine ew_aload_n d_Pr_openColumns_57 rfl ?_
  refine ew_getr (ci := 5) (f := 6) d_Pr_openColumns_58 rfl rfl rfl tw_170 ?_
  refine ew_iload d_Pr_openColumns_61 rfl ?_
  refine ew_aload_n d_Pr_openColumns_63 rfl ?_
  refine ew_iload d_Pr_openColumns_64 rfl ?_
  refine ew_iconst (v := nI 2) d_Pr_openColumns_66 (by decide) ?_
  refine en_iadd d_Pr_openColumns_67 ?_
  refine en_callV (As := [.int (nI ((j + 16) % 32)), .ref 22, .int (nI ((5 + 58 * k + 7 * 2) + 2))]) (i := 34) (ci := 8) (st := []) (st1 := []) d_Pr_openColumns_68 k_Tr_copyPath rfl rfl tw_475 tw_476 tw_477 rfl (Nat.le_of_ble_eq_true rfl) rfl (Nat.le_of_ble_eq_true rfl) rfl rfl (c_Tr_copyPath34 l g _ L (ew_up M 22 (upd (upd (sp_o1 (M 28) (M 29) (M 35) (sp_o1 (M 28) (M 29) (M 35) (M 22) (5 + 58 * k + 7 * 0) ((j + 0) % 32)) (5 + 58 * k + 7 * 1) ((j + 4) % 32)) (5 + 58 * k + 7 * 2) (M 28 ((j + 16) % 32))) ((5 + 58 * k + 7 * 2) + 1) (M 29 ((j + 16) % 32)))) (by rw [ew_up_ne (by decide)]; exact hz) ((j + 16) % 32) ((5 + 58 * k + 7 * 2) + 2) (by omega) (by omega)) rfl ?_
  refine en_eq (M' := ew_up M 22 (sp_o1 (M 28) (M 29) (M 35) (sp_o1 (M 28) (M 29) (M 35) (sp_o1 (M 28) (M 29) (M 35) (M 22) (5 + 58 * k + 7 * 0) ((j + 0) % 32)) (5 + 58 * k + 7 * 1) ((j + 4) % 32)) (5 + 58 * k + 7 * 2) ((j + 16) % 32))) rfl rfl (by rw [ew_upup, ew_up_ne (by decide), ew_up_self]; rfl) ?_
  refine en_inc (ls' := [.ref 23, .ref 22, .int (nI k), .int (nI 3), .int (nI ((j + 16) % 32)), .int (nI (5 + 58 * k + 7 * 2))]) d_Pr_openColumns_71 rfl rfl ?_
  refine ew_goto (tgt := 2) d_Pr_openColumns_74 (by decide) ?_
  refine ew_iload_n d_Pr_openColumns_2 rfl ?_
  refine ew_iconst (v := nI 4) d_Pr_openColumns_3 (by decide) ?_
  refine en_icmp_ge (tgt := 77) d_Pr_openColumns_4 (by decide) (by omega) (by omega) (fun h4 => by exact absurd h4 (by decide)) (fun h4 => ?_)
  refine ew_aload_n d_Pr_openColumns_7 rfl ?_
  refine ew_getr (ci := 5) (f := 3) d_Pr_openColumns_8 rfl rfl rfl tw_167 ?_
  refine ew_getrN (ci := 7) (f := 3) d_Pr_openColumns_11 rfl rfl rfl tw_136 ?_
  refine ew_iload_n d_Pr_openColumns_14 rfl ?_
  refine ew_iald (j := k) d_Pr_openColumns_15 rfl (rfl) (by omega) (by decide) ?_
  refine en_eq (st' := [.int (nI j)]) rfl (by rw [show ((ew_up M 22 (sp_o1 (M 28) (M 29) (M 35) (sp_o1 (M 28) (M 29) (M 35) (sp_o1 (M 28) (M 29) (M 35) (M 22) (5 + 58 * k + 7 * 0) ((j + 0) % 32)) (5 + 58 * k + 7 * 1) ((j + 4) % 32)) (5 + 58 * k + 7 * 2) ((j + 16) % 32))) 26 k) = (nI j) from by rw [ew_up_ne (by decide)]; exact hj]) rfl ?_
  refine ew_iload_n d_Pr_openColumns_16 rfl ?_
  refine en_callS (As := [.int (nI j), .int (nI 3)]) (st := []) (st1 := [.int (nI ((j + 20) % 32))]) d_Pr_openColumns_17 k_Pf_columnIndex tw_467 tw_468 rfl (Nat.le_of_ble_eq_true rfl) rfl (Nat.le_of_ble_eq_true rfl) rfl rfl (c_Pf_columnIndex3 l g _ L (ew_up M 22 (sp_o1 (M 28) (M 29) (M 35) (sp_o1 (M 28) (M 29) (M 35) (sp_o1 (M 28) (M 29) (M 35) (M 22) (5 + 58 * k + 7 * 0) ((j + 0) % 32)) (5 + 58 * k + 7 * 1) ((j + 4) % 32)) (5 + 58 * k + 7 * 2) ((j + 16) % 32))) (sp_st_of hs (ew_up_ne (by decide)) (ew_up_ne (by decide))) j (hj2)) rfl ?_
  refine en_istore (ls' := [.ref 23, .ref 22, .int (nI k), .int (nI 3), .int (nI ((j + 20) % 32)), .int (nI (5 + 58 * k + 7 * 2))]) d_Pr_openColumns_20 (Nat.le_of_ble_eq_true rfl) rfl ?_
  refine ew_iload_n d_Pr_openColumns_22 rfl ?_
  refine ew_iload_n d_Pr_openColumns_23 rfl ?_
  refine en_callS (As := [.int (nI k), .int (nI 3)]) (st := []) (st1 := [.int (nI (5 + 58 * k + 7 * 3))]) d_Pr_openColumns_24 k_Pf_columnStart tw_472 tw_473 rfl (Nat.le_of_ble_eq_true rfl) rfl (Nat.le_of_ble_eq_true rfl) rfl rfl (c_Pf_columnStart l g _ L (ew_up M 22 (sp_o1 (M 28) (M 29) (M 35) (sp_o1 (M 28) (M 29) (M 35) (sp_o1 (M 28) (M 29) (M 35) (M 22) (5 + 58 * k + 7 * 0) ((j + 0) % 32)) (5 + 58 * k + 7 * 1) ((j + 4) % 32)) (5 + 58 * k + 7 * 2) ((j + 16) % 32))) k 3) rfl ?_
  refine en_istore (ls' := [.ref 23, .ref 22, .int (nI k), .int (nI 3), .int (nI ((j + 20) % 32)), .int (nI (5 + 58 * k + 7 * 3))]) d_Pr_openColumns_27 (Nat.le_of_ble_eq_true rfl) rfl ?_
  refine ew_aload_n d_Pr_openColumns_29 rfl ?_
  refine ew_iload d_Pr_openColumns_30 rfl ?_
  refine ew_aload_n d_Pr_openColumns_32 rfl ?_
  refine ew_getr (ci := 5) (f := 4) d_Pr_openColumns_33 rfl rfl rfl tw_168 ?_
  refine ew_iconst (v := nI 0) d_Pr_openColumns_36 (by decide) ?_
  refine ew_aald (j := 0) d_Pr_openColumns_37 rfl (by decide) rfl rfl (by decide) ?_
  refine ew_iload d_Pr_openColumns_38 rfl ?_
  refine ew_iald (j := (j + 20) % 32) d_Pr_openColumns_40 rfl (rfl) (by omega) (by decide) ?_
  refine en_eq (st' := [.int (M 28 ((j + 20) % 32)), .int (nI (5 + 58 * k + 7 * 3)), .ref 22]) rfl (by rw [show ((ew_up M 22 (sp_o1 (M 28) (M 29) (M 35) (sp_o1 (M 28) (M 29) (M 35) (sp_o1 (M 28) (M 29) (M 35) (M 22) (5 + 58 * k + 7 * 0) ((j + 0) % 32)) (5 + 58 * k + 7 * 1) ((j + 4) % 32)) (5 + 58 * k + 7 * 2) ((j + 16) % 32))) 28 ((j + 20) % 32)) = (M 28 ((j + 20) % 32)) from by rw [ew_up_ne (by decide)]]) rfl ?_
  refine ew_iast (j := 5 + 58 * k + 7 * 3) d_Pr_openColumns_41 rfl (by decide) (rfl) (by omega) (by decide) ?_
  refine en_eq (M' := ew_up M 22 (upd (sp_o1 (M 28) (M 29) (M 35) (sp_o1 (M 28) (M 29) (M 35) (sp_o1 (M 28) (M 29) (M 35) (M 22) (5 + 58 * k + 7 * 0) ((j + 0) % 32)) (5 + 58 * k + 7 * 1) ((j + 4) % 32)) (5 + 58 * k + 7 * 2) ((j + 16) % 32)) (5 + 58 * k + 7 * 3) (M 28 ((j + 20) % 32)))) rfl rfl (ew_w_up) ?_
  refine ew_aload_n d_Pr_openColumns_42 rfl ?_
  refine ew_iload d_Pr_openColumns_43 rfl ?_
  refine ew_iconst (v := nI 1) d_Pr_openColumns_45 (by decide) ?_
  refine en_iadd d_Pr_openColumns_46 ?_
  refine ew_aload_n d_Pr_openColumns_47 rfl ?_
  refine ew_getr (ci := 5) (f := 4) d_Pr_openColumns_48 rfl rfl rfl tw_168 ?_
  refine ew_iconst (v := nI 1) d_Pr_openColumns_51 (by decide) ?_
  refine ew_aald (j := 1) d_Pr_openColumns_52 rfl (by decide) rfl rfl (by decide) ?_
  refine ew_iload d_Pr_openColumns_53 rfl ?_
  refine ew_iald (j := (j + 20) % 32) d_Pr_openColumns_55 rfl (rfl) (by omega) (by decide) ?_
  refine en_eq (st' := [.int (M 29 ((j + 20) % 32)), .int (nI ((5 + 58 * k + 7 * 3) + 1)), .ref 22]) rfl (by rw [show ((ew_up M 22 (upd (sp_o1 (M 28) (M 29) (M 35) (sp_o1 (M 28) (M 29) (M 35) (sp_o1 (M 28) (M 29) (M 35) (M 22) (5 + 58 * k + 7 * 0) ((j + 0) % 32)) (5 + 58 * k + 7 * 1) ((j + 4) % 32)) (5 + 58 * k + 7 * 2) ((j + 16) % 32)) (5 + 58 * k + 7 * 3) (M 28 ((j + 20) % 32)))) 29 ((j + 20) % 32)) = (M 29 ((j + 20) % 32)) from by rw [ew_up_ne (by decide)]]) rfl ?_
  refine ew_iast (j := (5 + 58 * k + 7 * 3) + 1) d_Pr_openColumns_56 rfl (by decide) (rfl) (by omega) (by decide) ?_
  refine en_eq (M' := ew_up M 22 (upd (upd (sp_o1 (M 28) (M 29) (M 35) (sp_o1 (M 28) (M 29) (M 35) (sp_o1 (M 28) (M 29) (M 35) (M 22) (5 + 58 * k + 7 * 0) ((j + 0) % 32)) (5 + 58 * k + 7 * 1) ((j + 4) % 32)) (5 + 58 * k + 7 * 2) ((j + 16) % 32)) (5 + 58 * k + 7 * 3) (M 28 ((j + 20) % 32))) ((5 + 58 * k + 7 * 3) + 1) (M 29 ((j + 20) % 32)))) rfl rfl (ew_w_up) ?_
  refine ew_aload_n d_Pr_openColumns_57 rfl ?_
  refine ew_getr (ci := 5) (f := 6) d_Pr_openColumns_58 rfl rfl rfl tw_170 ?_
  refine ew_iload d_Pr_openColumns_61 rfl ?_
  refine ew_aload_n d_Pr_openColumns_63 rfl ?_
  refine ew_iload d_Pr_openColumns_64 rfl ?_
  refine ew_iconst (v := nI 2) d_Pr_openColumns_66 (by decide) ?_
  refine en_iadd d_Pr_openColumns_67 ?_
  refine en_callV (As := [.int (nI ((j + 20) % 32)), .ref 22, .int (nI ((5 + 58 * k + 7 * 3) + 2))]) (i := 34) (ci := 8) (st := []) (st1 := []) d_Pr_openColumns_68 k_Tr_copyPath rfl rfl tw_475 tw_476 tw_477 rfl (Nat.le_of_ble_eq_true rfl) rfl (Nat.le_of_ble_eq_true rfl) rfl rfl (c_Tr_copyPath34 l g _ L (ew_up M 22 (upd (upd (sp_o1 (M 28) (M 29) (M 35) (sp_o1 (M 28) (M 29) (M 35) (sp_o1 (M 28) (M 29) (M 35) (M 22) (5 + 58 * k + 7 * 0) ((j + 0) % 32)) (5 + 58 * k + 7 * 1) ((j + 4) % 32)) (5 + 58 * k + 7 * 2) ((j + 16) % 32)) (5 + 58 * k + 7 * 3) (M 28 ((j + 20) % 32))) ((5 + 58 * k + 7 * 3) + 1) (M 29 ((j + 20) % 32)))) (by rw [ew_up_ne (by decide)]; exact hz) ((j + 20) % 32) ((5 + 58 * k + 7 * 3) + 2) (by omega) (by omega)) rfl ?_
  refine en_eq (M' := ew_up M 22 (sp_o1 (M 28) (M 29) (M 35) (sp_o1 (M 28) (M 29) (M 35) (sp_o1 (M 28) (M 29) (M 35) (sp_o1 (M 28) (M 29) (M 35) (M 22) (5 + 58 * k + 7 * 0) ((j + 0) % 32)) (5 + 58 * k + 7 * 1) ((j + 4) % 32)) (5 + 58 * k + 7 * 2) ((j + 16) % 32)) (5 + 58 * k + 7 * 3) ((j + 20) % 32))) rfl rfl (by rw [ew_upup, ew_up_ne (by decide), ew_up_self]; rfl) ?_
  refine en_inc (ls' := [.ref 23, .ref 22, .int (nI k), .int (nI 4), .int (nI ((j + 20) % 32)), .int (nI (5 + 58 * k + 7 * 3))]) d_Pr_openColumns_71 rfl rfl ?_
  refine ew_goto (tgt := 2) d_Pr_openColumns_74 (by decide) ?_
  refine ew_iload_n d_Pr_openColumns_2 rfl ?_
  refine ew_iconst (v := nI 4) d_Pr_openColumns_3 (by decide) ?_
  refine en_icmp_ge (tgt := 77) d_Pr_openColumns_4 (by decide) (by omega) (by omega) (fun h4 => ?_) (fun h4 => by exact absurd h4 (by decide))
  exact ew_ret d_Pr_openColumns_77 rfl (⟨rfl, rfl, rfl⟩)
set_option maxRecDepth 100000 in
theorem c_Pr_openLayers (l : Launch) (g : ew_G) (d L : Nat) (M : ew_M) (hs : sp_st M) (hz37 : M 37 0 = nI 32) (hz39 : M 39 0 = nI 16) (hz41 : M 41 0 = nI 8) (k j : Nat) (hk : k < 3) (hj : M 26 k = nI j) (hj2 : j < 16) :
    Ew l g (d + 2) 0 0 m_Pr_openLayers 0 [.ref 23, .ref 22, .int (nI k), .retAddr 0, .retAddr 0, .retAddr 0, .retAddr 0] [] (ew_SH L) M (ew_q none (ew_SH L) (ew_up M 22 (sp_ol (M 31) (M 38) (M 32) (M 40) (M 33) (M 42) (M 22) k j))) := by
  refine en_eq (M' := ew_up M 22 (M 22)) rfl rfl (ew_up_id).symm ?_
  refine ew_iconst (v := nI 0) d_Pr_openLayers_0 (by decide) ?_
  refine en_istore_n (ls' := [.ref 23, .ref 22, .int (nI k), .int (nI 0), .retAddr 0, .retAddr 0, .retAddr 0]) d_Pr_openLayers_1 (Nat.le_of_ble_eq_true rfl) rfl ?_
  refine ew_iload_n d_Pr_openLayers_2 rfl ?_
  refine ew_iconst (v := nI 3) d_Pr_openLayers_3 (by decide) ?_
  refine en_icmp_ge (tgt := 83) d_Pr_openLayers_4 (by decide) (by omega) (by omega) (fun h4 => by exact absurd h4 (by decide)) (fun h4 => ?_)
  refine ew_iconst (v := nI 0) d_Pr_openLayers_7 (by decide) ?_
  refine en_istore (ls' := [.ref 23, .ref 22, .int (nI k), .int (nI 0), .int (nI 0), .retAddr 0, .retAddr 0]) d_Pr_openLayers_8 (Nat.le_of_ble_eq_true rfl) rfl ?_
  refine ew_iload d_Pr_openLayers_10 rfl ?_
  refine ew_iconst (v := nI 2) d_Pr_openLayers_12 (by decide) ?_
  refine en_icmp_ge (tgt := 77) d_Pr_openLayers_13 (by decide) (by omega) (by omega) (fun h13 => by exact absurd h13 (by decide)) (fun h13 => ?_)
  refine ew_aload_n d_Pr_openLayers_16 rfl ?_
  refine ew_getr (ci := 5) (f := 3) d_Pr_openLayers_17 rfl rfl rfl tw_167 ?_
  refine ew_getrN (ci := 7) (f := 3) d_Pr_openLayers_20 rfl rfl rfl tw_136 ?_
  refine ew_iload_n d_Pr_openLayers_23 rfl ?_
  refine ew_iald (j := k) d_Pr_openLayers_24 rfl (rfl) (by omega) (by decide) ?_
  refine en_eq (st' := [.int (nI j)]) rfl (by rw [show ((ew_up M 22 (M 22)) 26 k) = (nI j) from by rw [ew_up_ne (by decide)]; exact hj]) rfl ?_
  refine ew_iload_n d_Pr_openLayers_25 rfl ?_
  refine ew_iload d_Pr_openLayers_26 rfl ?_
  refine en_callS (As := [.int (nI j), .int (nI 0), .int (nI 0)]) (st := []) (st1 := [.int (nI (j % 16 + 16 * 0))]) d_Pr_openLayers_28 k_Pf_layerIndex tw_483 tw_484 rfl (Nat.le_of_ble_eq_true rfl) rfl (Nat.le_of_ble_eq_true rfl) rfl rfl (c_Pf_layerIndex0 l g _ L (ew_up M 22 (M 22)) j 0 (hj2)) rfl ?_
  refine en_istore (ls' := [.ref 23, .ref 22, .int (nI k), .int (nI 0), .int (nI 0), .int (nI (j % 16 + 16 * 0)), .retAddr 0]) d_Pr_openLayers_31 (Nat.le_of_ble_eq_true rfl) rfl ?_
  refine ew_iload_n d_Pr_openLayers_33 rfl ?_
  refine ew_iload_n d_Pr_openLayers_34 rfl ?_
  refine ew_iload d_Pr_openLayers_35 rfl ?_
  refine en_callS (As := [.int (nI k), .int (nI 0), .int (nI 0)]) (st := []) (st1 := [.int (nI (5 + 58 * k + 28 + 6 * 0))]) d_Pr_openLayers_37 k_Pf_layerStart tw_487 tw_488 rfl (Nat.le_of_ble_eq_true rfl) rfl (Nat.le_of_ble_eq_true rfl) rfl rfl (c_Pf_layerStart0 l g _ L (ew_up M 22 (M 22)) (sp_st_of hs (ew_up_ne (by decide)) (ew_up_ne (by decide))) k 0) rfl ?_
  refine en_istore (ls' := [.ref 23, .ref 22, .int (nI k), .int (nI 0), .int (nI 0), .int (nI (j % 16 + 16 * 0)), .int (nI (5 + 58 * k + 28 + 6 * 0))]) d_Pr_openLayers_40 (Nat.le_of_ble_eq_true rfl) rfl ?_
  refine ew_aload_n d_Pr_openLayers_42 rfl ?_
  refine ew_iload d_Pr_openLayers_43 rfl ?_
  refine ew_aload_n d_Pr_openLayers_45 rfl ?_
  refine ew_getr (ci := 5) (f := 5) d_Pr_openLayers_46 rfl rfl rfl tw_169 ?_
  refine ew_iload_n d_Pr_openLayers_49 rfl ?_
  refine ew_aald (j := 0) d_Pr_openLayers_50 rfl (by decide) rfl rfl (by decide) ?_
  refine ew_iload d_Pr_openLayers_51 rfl ?_
  refine ew_iald (j := j % 16 + 16 * 0) d_Pr_openLayers_53 rfl (rfl) (by omega) (by decide) ?_
  refine en_eq (st' := [.int (M 31 (j % 16 + 16 * 0)), .int (nI (5 + 58 * k + 28 + 6 * 0)), .ref 22]) rfl (by rw [show ((ew_up M 22 (M 22)) 31 (j % 16 + 16 * 0)) = (M 31 (j % 16 + 16 * 0)) from by rw [ew_up_ne (by decide)]]) rfl ?_
  refine ew_iast (j := 5 + 58 * k + 28 + 6 * 0) d_Pr_openLayers_54 rfl (by decide) (rfl) (by omega) (by decide) ?_
  refine en_eq (M' := ew_up M 22 (upd (M 22) (5 + 58 * k + 28 + 6 * 0) (M 31 (j % 16 + 16 * 0)))) rfl rfl (ew_w_up) ?_
  refine ew_aload_n d_Pr_openLayers_55 rfl ?_
  refine ew_getr (ci := 5) (f := 7) d_Pr_openLayers_56 rfl rfl rfl tw_171 ?_
  refine ew_iload_n d_Pr_openLayers_59 rfl ?_
  refine ew_aald (j := 0) d_Pr_openLayers_60 rfl (by decide) rfl rfl (by decide) ?_
  refine ew_iload d_Pr_openLayers_61 rfl ?_
  refine ew_aload_n d_Pr_openLayers_63 rfl ?_
  refine ew_iload d_Pr_openLayers_64 rfl ?_
  refine ew_iconst (v := nI 1) d_Pr_openLayers_66 (by decide) ?_
  refine en_iadd d_Pr_openLayers_67 ?_
  refine en_callV (As := [.int (nI (j % 16 + 16 * 0)), .ref 22, .int (nI ((5 + 58 * k + 28 + 6 * 0) + 1))]) (i := 37) (ci := 8) (st := []) (st1 := []) d_Pr_openLayers_68 k_Tr_copyPath rfl rfl tw_475 tw_476 tw_477 rfl (Nat.le_of_ble_eq_true rfl) rfl (Nat.le_of_ble_eq_true rfl) rfl rfl (c_Tr_copyPath37 l g _ L (ew_up M 22 (upd (M 22) (5 + 58 * k + 28 + 6 * 0) (M 31 (j % 16 + 16 * 0)))) (by rw [ew_up_ne (by decide)]; exact hz37) (j % 16 + 16 * 0) ((5 + 58 * k + 28 + 6 * 0) + 1) (by omega) (by omega)) rfl ?_
  refine en_eq (M' := ew_up M 22 (sp_o2 (M 31) (M 38) 32 (M 22) (5 + 58 * k + 28 + 6 * 0) (j % 16 + 16 * 0))) rfl rfl (by rw [ew_upup, ew_up_ne (by decide), ew_up_self]; rfl) ?_
  refine en_inc (ls' := [.ref 23, .ref 22, .int (nI k), .int (nI 0), .int (nI 1), .int (nI (j % 16 + 16 * 0)), .int (nI (5 + 58 * k + 28 + 6 * 0))]) d_Pr_openLayers_71 rfl rfl ?_
  refine ew_goto (tgt := 10) d_Pr_openLayers_74 (by decide) ?_
  refine ew_iload d_Pr_openLayers_10 rfl ?_
  refine ew_iconst (v := nI 2) d_Pr_openLayers_12 (by decide) ?_
  refine en_icmp_ge (tgt := 77) d_Pr_openLayers_13 (by decide) (by omega) (by omega) (fun h13 => by exact absurd h13 (by decide)) (fun h13 => ?_)
  refine ew_aload_n d_Pr_openLayers_16 rfl ?_
  refine ew_getr (ci := 5) (f := 3) d_Pr_openLayers_17 rfl rfl rfl tw_167 ?_
  refine ew_getrN (ci := 7) (f := 3) d_Pr_openLayers_20 rfl rfl rfl tw_136 ?_
  refine ew_iload_n d_Pr_openLayers_23 rfl ?_
  refine ew_iald (j := k) d_Pr_openLayers_24 rfl (rfl) (by omega) (by decide) ?_
  refine en_eq (st' := [.int (nI j)]) rfl (by rw [show ((ew_up M 22 (sp_o2 (M 31) (M 38) 32 (M 22) (5 + 58 * k + 28 + 6 * 0) (j % 16 + 16 * 0))) 26 k) = (nI j) from by rw [ew_up_ne (by decide)]; exact hj]) rfl ?_
  refine ew_iload_n d_Pr_openLayers_25 rfl ?_
  refine ew_iload d_Pr_openLayers_26 rfl ?_
  refine en_callS (As := [.int (nI j), .int (nI 0), .int (nI 1)]) (st := []) (st1 := [.int (nI (j % 16 + 16 * 1))]) d_Pr_openLayers_28 k_Pf_layerIndex tw_483 tw_484 rfl (Nat.le_of_ble_eq_true rfl) rfl (Nat.le_of_ble_eq_true rfl) rfl rfl (c_Pf_layerIndex0 l g _ L (ew_up M 22 (sp_o2 (M 31) (M 38) 32 (M 22) (5 + 58 * k + 28 + 6 * 0) (j % 16 + 16 * 0))) j 1 (hj2)) rfl ?_
  refine en_istore (ls' := [.ref 23, .ref 22, .int (nI k), .int (nI 0), .int (nI 1), .int (nI (j % 16 + 16 * 1)), .int (nI (5 + 58 * k + 28 + 6 * 0))]) d_Pr_openLayers_31 (Nat.le_of_ble_eq_true rfl) rfl ?_
  refine ew_iload_n d_Pr_openLayers_33 rfl ?_
  refine ew_iload_n d_Pr_openLayers_34 rfl ?_
  refine ew_iload d_Pr_openLayers_35 rfl ?_
  refine en_callS (As := [.int (nI k), .int (nI 0), .int (nI 1)]) (st := []) (st1 := [.int (nI (5 + 58 * k + 28 + 6 * 1))]) d_Pr_openLayers_37 k_Pf_layerStart tw_487 tw_488 rfl (Nat.le_of_ble_eq_true rfl) rfl (Nat.le_of_ble_eq_true rfl) rfl rfl (c_Pf_layerStart0 l g _ L (ew_up M 22 (sp_o2 (M 31) (M 38) 32 (M 22) (5 + 58 * k + 28 + 6 * 0) (j % 16 + 16 * 0))) (sp_st_of hs (ew_up_ne (by decide)) (ew_up_ne (by decide))) k 1) rfl ?_
  refine en_istore (ls' := [.ref 23, .ref 22, .int (nI k), .int (nI 0), .int (nI 1), .int (nI (j % 16 + 16 * 1)), .int (nI (5 + 58 * k + 28 + 6 * 1))]) d_Pr_openLayers_40 (Nat.le_of_ble_eq_true rfl) rfl ?_
  refine ew_aload_n d_Pr_openLayers_42 rfl ?_
  refine ew_iload d_Pr_openLayers_43 rfl ?_
  refine ew_aload_n d_Pr_openLayers_45 rfl ?_
  refine ew_getr (ci := 5) (f := 5) d_Pr_openLayers_46 rfl rfl rfl tw_169 ?_
  refine ew_iload_n d_Pr_openLayers_49 rfl ?_
  refine ew_aald (j := 0) d_Pr_openLayers_50 rfl (by decide) rfl rfl (by decide) ?_
  refine ew_iload d_Pr_openLayers_51 rfl ?_
  refine ew_iald (j := j % 16 + 16 * 1) d_Pr_openLayers_53 rfl (rfl) (by omega) (by decide) ?_
  refine en_eq (st' := [.int (M 31 (j % 16 + 16 * 1)), .int (nI (5 + 58 * k + 28 + 6 * 1)), .ref 22]) rfl (by rw [show ((ew_up M 22 (sp_o2 (M 31) (M 38) 32 (M 22) (5 + 58 * k + 28 + 6 * 0) (j % 16 + 16 * 0))) 31 (j % 16 + 16 * 1)) = (M 31 (j % 16 + 16 * 1)) from by rw [ew_up_ne (by decide)]]) rfl ?_
  refine ew_iast (j := 5 + 58 * k + 28 + 6 * 1) d_Pr_openLayers_54 rfl (by decide) (rfl) (by omega) (by decide) ?_
  refine en_eq (M' := ew_up M 22 (upd (sp_o2 (M 31) (M 38) 32 (M 22) (5 + 58 * k + 28 + 6 * 0) (j % 16 + 16 * 0)) (5 + 58 * k + 28 + 6 * 1) (M 31 (j % 16 + 16 * 1)))) rfl rfl (ew_w_up) ?_
  refine ew_aload_n d_Pr_openLayers_55 rfl ?_
  refine ew_getr (ci := 5) (f := 7) d_Pr_openLayers_56 rfl rfl rfl tw_171 ?_
  refine ew_iload_n d_Pr_openLayers_59 rfl ?_
  refine ew_aald (j := 0) d_Pr_openLayers_60 rfl (by decide) rfl rfl (by decide) ?_
  refine ew_iload d_Pr_openLayers_61 rfl ?_
  refine ew_aload_n d_Pr_openLayers_63 rfl ?_
  refine ew_iload d_Pr_openLayers_64 rfl ?_
  refine ew_iconst (v := nI 1) d_Pr_openLayers_66 (by decide) ?_
  refine en_iadd d_Pr_openLayers_67 ?_
  refine en_callV (As := [.int (nI (j % 16 + 16 * 1)), .ref 22, .int (nI ((5 + 58 * k + 28 + 6 * 1) + 1))]) (i := 37) (ci := 8) (st := []) (st1 := []) d_Pr_openLayers_68 k_Tr_copyPath rfl rfl tw_475 tw_476 tw_477 rfl (Nat.le_of_ble_eq_true rfl) rfl (Nat.le_of_ble_eq_true rfl) rfl rfl (c_Tr_copyPath37 l g _ L (ew_up M 22 (upd (sp_o2 (M 31) (M 38) 32 (M 22) (5 + 58 * k + 28 + 6 * 0) (j % 16 + 16 * 0)) (5 + 58 * k + 28 + 6 * 1) (M 31 (j % 16 + 16 * 1)))) (by rw [ew_up_ne (by decide)]; exact hz37) (j % 16 + 16 * 1) ((5 + 58 * k + 28 + 6 * 1) + 1) (by omega) (by omega)) rfl ?_
  refine en_eq (M' := ew_up M 22 (sp_o2 (M 31) (M 38) 32 (sp_o2 (M 31) (M 38) 32 (M 22) (5 + 58 * k + 28 + 6 * 0) (j % 16 + 16 * 0)) (5 + 58 * k + 28 + 6 * 1) (j % 16 + 16 * 1))) rfl rfl (by rw [ew_upup, ew_up_ne (by decide), ew_up_self]; rfl) ?_
  refine en_inc (ls' := [.ref 23, .ref 22, .int (nI k), .int (nI 0), .int (nI 2), .int (nI (j % 16 + 16 * 1)), .int (nI (5 + 58 * k + 28 + 6 * 1))]) d_Pr_openLayers_71 rfl rfl ?_
  refine ew_goto (tgt := 10) d_Pr_openLayers_74 (by decide) ?_
  refine ew_iload d_Pr_openLayers_10 rfl ?_
  refine ew_iconst (v := nI 2) d_Pr_openLayers_12 (by decide) ?_
  refine en_icmp_ge (tgt := 77) d_Pr_openLayers_13 (by decide) (by omega) (by omega) (fun h13 => ?_) (fun h13 => by exact absurd h13 (by decide))
  refine en_inc (ls' := [.ref 23, .ref 22, .int (nI k), .int (nI 1), .int (nI 2), .int (nI (j % 16 + 16 * 1)), .int (nI (5 + 58 * k + 28 + 6 * 1))]) d_Pr_openLayers_77 rfl rfl ?_
  refine ew_goto (tgt := 2) d_Pr_openLayers_80 (by decide) ?_
  refine ew_iload_n d_Pr_openLayers_2 rfl ?_
  refine ew_iconst (v := nI 3) d_Pr_openLayers_3 (by decide) ?_
  refine en_icmp_ge (tgt := 83) d_Pr_openLayers_4 (by decide) (by omega) (by omega) (fun h4 => by exact absurd h4 (by decide)) (fun h4 => ?_)
  refine ew_iconst (v := nI 0) d_Pr_openLayers_7 (by decide) ?_
  refine en_istore (ls' := [.ref 23, .ref 22, .int (nI k), .int (nI 1), .int (nI 0), .int (nI (j % 16 + 16 * 1)), .int (nI (5 + 58 * k + 28 + 6 * 1))]) d_Pr_openLayers_8 (Nat.le_of_ble_eq_true rfl) rfl ?_
  refine ew_iload d_Pr_openLayers_10 rfl ?_
  refine ew_iconst (v := nI 2) d_Pr_openLayers_12 (by decide) ?_
  refine en_icmp_ge (tgt := 77) d_Pr_openLayers_13 (by decide) (by omega) (by omega) (fun h13 => by exact absurd h13 (by decide)) (fun h13 => ?_)
  refine ew_aload_n d_Pr_openLayers_16 rfl ?_
  refine ew_getr (ci := 5) (f := 3) d_Pr_openLayers_17 rfl rfl rfl tw_167 ?_
  refine ew_getrN (ci := 7) (f := 3) d_Pr_openLayers_20 rfl rfl rfl tw_136 ?_
  refine ew_iload_n d_Pr_openLayers_23 rfl ?_
  refine ew_iald (j := k) d_Pr_openLayers_24 rfl (rfl) (by omega) (by decide) ?_
  refine en_eq (st' := [.int (nI j)]) rfl (by rw [show ((ew_up M 22 (sp_o2 (M 31) (M 38) 32 (sp_o2 (M 31) (M 38) 32 (M 22) (5 + 58 * k + 28 + 6 * 0) (j % 16 + 16 * 0)) (5 + 58 * k + 28 + 6 * 1) (j % 16 + 16 * 1))) 26 k) = (nI j) from by rw [ew_up_ne (by decide)]; exact hj]) rfl ?_
  refine ew_iload_n d_Pr_openLayers_25 rfl ?_
  refine ew_iload d_Pr_openLayers_26 rfl ?_
  refine en_callS (As := [.int (nI j), .int (nI 1), .int (nI 0)]) (st := []) (st1 := [.int (nI (j % 8 + 8 * 0))]) d_Pr_openLayers_28 k_Pf_layerIndex tw_483 tw_484 rfl (Nat.le_of_ble_eq_true rfl) rfl (Nat.le_of_ble_eq_true rfl) rfl rfl (c_Pf_layerIndex1 l g _ L (ew_up M 22 (sp_o2 (M 31) (M 38) 32 (sp_o2 (M 31) (M 38) 32 (M 22) (5 + 58 * k + 28 + 6 * 0) (j % 16 + 16 * 0)) (5 + 58 * k + 28 + 6 * 1) (j % 16 + 16 * 1))) j 0 (hj2)) rfl ?_
  refine en_istore (ls' := [.ref 23, .ref 22, .int (nI k), .int (nI 1), .int (nI 0), .int (nI (j % 8 + 8 * 0)), .int (nI (5 + 58 * k + 28 + 6 * 1))]) d_Pr_openLayers_31 (Nat.le_of_ble_eq_true rfl) rfl ?_
  refine ew_iload_n d_Pr_openLayers_33 rfl ?_
  refine ew_iload_n d_Pr_openLayers_34 rfl ?_
  refine ew_iload d_Pr_openLayers_35 rfl ?_
  refine en_callS (As := [.int (nI k), .int (nI 1), .int (nI 0)]) (st := []) (st1 := [.int (nI (5 + 58 * k + 40 + 5 * 0))]) d_Pr_openLayers_37 k_Pf_layerStart tw_487 tw_488 rfl (Nat.le_of_ble_eq_true rfl) rfl (Nat.le_of_ble_eq_true rfl) rfl rfl (c_Pf_layerStart1 l g _ L (ew_up M 22 (sp_o2 (M 31) (M 38) 32 (sp_o2 (M 31) (M 38) 32 (M 22) (5 + 58 * k + 28 + 6 * 0) (j % 16 + 16 * 0)) (5 + 58 * k + 28 + 6 * 1) (j % 16 + 16 * 1))) (sp_st_of hs (ew_up_ne (by decide)) (ew_up_ne (by decide))) k 0) rfl ?_
  refine en_istore (ls' := [.ref 23, .ref 22, .int (nI k), .int (nI 1), .int (nI 0), .int (nI (j % 8 + 8 * 0)), .int (nI (5 + 58 * k + 40 + 5 * 0))]) d_Pr_openLayers_40 (Nat.le_of_ble_eq_true rfl) rfl ?_
  refine ew_aload_n d_Pr_openLayers_42 rfl ?_
  refine ew_iload d_Pr_openLayers_43 rfl ?_
  refine ew_aload_n d_Pr_openLayers_45 rfl ?_
  refine ew_getr (ci := 5) (f := 5) d_Pr_openLayers_46 rfl rfl rfl tw_169 ?_
  refine ew_iload_n d_Pr_openLayers_49 rfl ?_
  refine ew_aald (j := 1) d_Pr_openLayers_50 rfl (by decide) rfl rfl (by decide) ?_
  refine ew_iload d_Pr_openLayers_51 rfl ?_
  refine ew_iald (j := j % 8 + 8 * 0) d_Pr_openLayers_53 rfl (rfl) (by omega) (by decide) ?_
  refine en_eq (st' := [.int (M 32 (j % 8 + 8 * 0)), .int (nI (5 + 58 * k + 40 + 5 * 0)), .ref 22]) rfl (by rw [show ((ew_up M 22 (sp_o2 (M 31) (M 38) 32 (sp_o2 (M 31) (M 38) 32 (M 22) (5 + 58 * k + 28 + 6 * 0) (j % 16 + 16 * 0)) (5 + 58 * k + 28 + 6 * 1) (j % 16 + 16 * 1))) 32 (j % 8 + 8 * 0)) = (M 32 (j % 8 + 8 * 0)) from by rw [ew_up_ne (by decide)]]) rfl ?_
  refine ew_iast (j := 5 + 58 * k + 40 + 5 * 0) d_Pr_openLayers_54 rfl (by decide) (rfl) (by omega) (by decide) ?_
  refine en_eq (M' := ew_up M 22 (upd (sp_o2 (M 31) (M 38) 32 (sp_o2 (M 31) (M 38) 32 (M 22) (5 + 58 * k + 28 + 6 * 0) (j % 16 + 16 * 0)) (5 + 58 * k + 28 + 6 * 1) (j % 16 + 16 * 1)) (5 + 58 * k + 40 + 5 * 0) (M 32 (j % 8 + 8 * 0)))) rfl rfl (ew_w_up) ?_
  refine ew_aload_n d_Pr_openLayers_55 rfl ?_
  refine ew_getr (ci := 5) (f := 7) d_Pr_openLayers_56 rfl rfl rfl tw_171 ?_
  refine ew_iload_n d_Pr_openLayers_59 rfl ?_
  refine ew_aald (j := 1) d_Pr_openLayers_60 rfl (by decide) rfl rfl (by decide) ?_
  refine ew_iload d_Pr_openLayers_61 rfl ?_
  refine ew_aload_n d_Pr_openLayers_63 rfl ?_
  refine ew_iload d_Pr_openLayers_64 rfl ?_
  refine ew_iconst (v := nI 1) d_Pr_openLayers_66 (by decide) ?_
  refine en_iadd d_Pr_openLayers_67 ?_
  refine en_callV (As := [.int (nI (j % 8 + 8 * 0)), .ref 22, .int (nI ((5 + 58 * k + 40 + 5 * 0) + 1))]) (i := 39) (ci := 8) (st := []) (st1 := []) d_Pr_openLayers_68 k_Tr_copyPath rfl rfl tw_475 tw_476 tw_477 rfl (Nat.le_of_ble_eq_true rfl) rfl (Nat.le_of_ble_eq_true rfl) rfl rfl (c_Tr_copyPath39 l g _ L (ew_up M 22 (upd (sp_o2 (M 31) (M 38) 32 (sp_o2 (M 31) (M 38) 32 (M 22) (5 + 58 * k + 28 + 6 * 0) (j % 16 + 16 * 0)) (5 + 58 * k + 28 + 6 * 1) (j % 16 + 16 * 1)) (5 + 58 * k + 40 + 5 * 0) (M 32 (j % 8 + 8 * 0)))) (by rw [ew_up_ne (by decide)]; exact hz39) (j % 8 + 8 * 0) ((5 + 58 * k + 40 + 5 * 0) + 1) (by omega) (by omega)) rfl ?_
  refine en_eq (M' := ew_up M 22 (sp_o2 (M 32) (M 40) 16 (sp_o2 (M 31) (M 38) 32 (sp_o2 (M 31) (M 38) 32 (M 22) (5 + 58 * k + 28 + 6 * 0) (j % 16 + 16 * 0)) (5 + 58 * k + 28 + 6 * 1) (j % 16 + 16 * 1)) (5 + 58 * k + 40 + 5 * 0) (j % 8 + 8 * 0))) rfl rfl (by rw [ew_upup, ew_up_ne (by decide), ew_up_self]; rfl) ?_
  refine en_inc (ls' := [.ref 23, .ref 22, .int (nI k), .int (nI 1), .int (nI 1), .int (nI (j % 8 + 8 * 0)), .int (nI (5 + 58 * k + 40 + 5 * 0))]) d_Pr_openLayers_71 rfl rfl ?_
  refine ew_goto (tgt := 10) d_Pr_openLayers_74 (by decide) ?_
  refine ew_iload d_Pr_openLayers_10 rfl ?_
  refine ew_iconst (v := nI 2) d_Pr_openLayers_12 (by decide) ?_
  refine en_icmp_ge (tgt := 77) d_Pr_openLayers_13 (by decide) (by omega) (by omega) (fun h13 => by exact absurd h13 (by decide)) (fun h13 => ?_)
  refine ew_aload_n d_Pr_openLayers_16 rfl ?_
  refine ew_getr (ci := 5) (f := 3) d_Pr_openLayers_17 rfl rfl rfl tw_167 ?_
  refine ew_getrN (ci := 7) (f := 3) d_Pr_openLayers_20 rfl rfl rfl tw_136 ?_
  refine ew_iload_n d_Pr_openLayers_23 rfl ?_
  refine ew_iald (j := k) d_Pr_openLayers_24 rfl (rfl) (by omega) (by decide) ?_
  refine en_eq (st' := [.int (nI j)]) rfl (by rw [show ((ew_up M 22 (sp_o2 (M 32) (M 40) 16 (sp_o2 (M 31) (M 38) 32 (sp_o2 (M 31) (M 38) 32 (M 22) (5 + 58 * k + 28 + 6 * 0) (j % 16 + 16 * 0)) (5 + 58 * k + 28 + 6 * 1) (j % 16 + 16 * 1)) (5 + 58 * k + 40 + 5 * 0) (j % 8 + 8 * 0))) 26 k) = (nI j) from by rw [ew_up_ne (by decide)]; exact hj]) rfl ?_
  refine ew_iload_n d_Pr_openLayers_25 rfl ?_
  refine ew_iload d_Pr_openLayers_26 rfl ?_
  refine en_callS (As := [.int (nI j), .int (nI 1), .int (nI 1)]) (st := []) (st1 := [.int (nI (j % 8 + 8 * 1))]) d_Pr_openLayers_28 k_Pf_layerIndex tw_483 tw_484 rfl (Nat.le_of_ble_eq_true rfl) rfl (Nat.le_of_ble_eq_true rfl) rfl rfl (c_Pf_layerIndex1 l g _ L (ew_up M 22 (sp_o2 (M 32) (M 40) 16 (sp_o2 (M 31) (M 38) 32 (sp_o2 (M 31) (M 38) 32 (M 22) (5 + 58 * k + 28 + 6 * 0) (j % 16 + 16 * 0)) (5 + 58 * k + 28 + 6 * 1) (j % 16 + 16 * 1)) (5 + 58 * k + 40 + 5 * 0) (j % 8 + 8 * 0))) j 1 (hj2)) rfl ?_
  refine en_istore (ls' := [.ref 23, .ref 22, .int (nI k), .int (nI 1), .int (nI 1), .int (nI (j % 8 + 8 * 1)), .int (nI (5 + 58 * k + 40 + 5 * 0))]) d_Pr_openLayers_31 (Nat.le_of_ble_eq_true rfl) rfl ?_
  refine ew_iload_n d_Pr_openLayers_33 rfl ?_
  refine ew_iload_n d_Pr_openLayers_34 rfl ?_
  refine ew_iload d_Pr_openLayers_35 rfl ?_
  refine en_callS (As := [.int (nI k), .int (nI 1), .int (nI 1)]) (st := []) (st1 := [.int (nI (5 + 58 * k + 40 + 5 * 1))]) d_Pr_openLayers_37 k_Pf_layerStart tw_487 tw_488 rfl (Nat.le_of_ble_eq_true rfl) rfl (Nat.le_of_ble_eq_true rfl) rfl rfl (c_Pf_layerStart1 l g _ L (ew_up M 22 (sp_o2 (M 32) (M 40) 16 (sp_o2 (M 31) (M 38) 32 (sp_o2 (M 31) (M 38) 32 (M 22) (5 + 58 * k + 28 + 6 * 0) (j % 16 + 16 * 0)) (5 + 58 * k + 28 + 6 * 1) (j % 16 + 16 * 1)) (5 + 58 * k + 40 + 5 * 0) (j % 8 + 8 * 0))) (sp_st_of hs (ew_up_ne (by decide)) (ew_up_ne (by decide))) k 1) rfl ?_
  refine en_istore (ls' := [.ref 23, .ref 22, .int (nI k), .int (nI 1), .int (nI 1), .int (nI (j % 8 + 8 * 1)), .int (nI (5 + 58 * k + 40 + 5 * 1))]) d_Pr_openLayers_40 (Nat.le_of_ble_eq_true rfl) rfl ?_
  refine ew_aload_n d_Pr_openLayers_42 rfl ?_
  refine ew_iload d_Pr_openLayers_43 rfl ?_
  refine ew_aload_n d_Pr_openLayers_45 rfl ?_
  refine ew_getr (ci := 5) (f := 5) d_Pr_openLayers_46 rfl rfl rfl tw_169 ?_
  refine ew_iload_n d_Pr_openLayers_49 rfl ?_
  refine ew_aald (j := 1) d_Pr_openLayers_50 rfl (by decide) rfl rfl (by decide) ?_
  refine ew_iload d_Pr_openLayers_51 rfl ?_
  refine ew_iald (j := j % 8 + 8 * 1) d_Pr_openLayers_53 rfl (rfl) (by omega) (by decide) ?_
  refine en_eq (st' := [.int (M 32 (j % 8 + 8 * 1)), .int (nI (5 + 58 * k + 40 + 5 * 1)), .ref 22]) rfl (by rw [show ((ew_up M 22 (sp_o2 (M 32) (M 40) 16 (sp_o2 (M 31) (M 38) 32 (sp_o2 (M 31) (M 38) 32 (M 22) (5 + 58 * k + 28 + 6 * 0) (j % 16 + 16 * 0)) (5 + 58 * k + 28 + 6 * 1) (j % 16 + 16 * 1)) (5 + 58 * k + 40 + 5 * 0) (j % 8 + 8 * 0))) 32 (j % 8 + 8 * 1)) = (M 32 (j % 8 + 8 * 1)) from by rw [ew_up_ne (by decide)]]) rfl ?_
  refine ew_iast (j := 5 + 58 * k + 40 + 5 * 1) d_Pr_openLayers_54 rfl (by decide) (rfl) (by omega) (by decide) ?_
  refine en_eq (M' := ew_up M 22 (upd (sp_o2 (M 32) (M 40) 16 (sp_o2 (M 31) (M 38) 32 (sp_o2 (M 31) (M 38) 32 (M 22) (5 + 58 * k + 28 + 6 * 0) (j % 16 + 16 * 0)) (5 + 58 * k + 28 + 6 * 1) (j % 16 + 16 * 1)) (5 + 58 * k + 40 + 5 * 0) (j % 8 + 8 * 0)) (5 + 58 * k + 40 + 5 * 1) (M 32 (j % 8 + 8 * 1)))) rfl rfl (ew_w_up) ?_
  refine ew_aload_n d_Pr_openLayers_55 rfl ?_
  refine ew_getr (ci := 5) (f := 7) d_Pr_openLayers_56 rfl rfl rfl tw_171 ?_
  refine ew_iload_n d_Pr_openLayers_59 rfl ?_
  refine ew_aald (j := 1) d_Pr_openLayers_60 rfl (by decide) rfl rfl (by decide) ?_
  refine ew_iload d_Pr_openLayers_61 rfl ?_
  refine ew_aload_n d_Pr_openLayers_63 rfl ?_
  refine ew_iload d_Pr_openLayers_64 rfl ?_
  refine ew_iconst (v := nI 1) d_Pr_openLayers_66 (by decide) ?_
  refine en_iadd d_Pr_openLayers_67 ?_
  refine en_callV (As := [.int (nI (j % 8 + 8 * 1)), .ref 22, .int (nI ((5 + 58 * k + 40 + 5 * 1) + 1))]) (i := 39) (ci := 8) (st := []) (st1 := []) d_Pr_openLayers_68 k_Tr_copyPath rfl rfl tw_475 tw_476 tw_477 rfl (Nat.le_of_ble_eq_true rfl) rfl (Nat.le_of_ble_eq_true rfl) rfl rfl (c_Tr_copyPath39 l g _ L (ew_up M 22 (upd (sp_o2 (M 32) (M 40) 16 (sp_o2 (M 31) (M 38) 32 (sp_o2 (M 31) (M 38) 32 (M 22) (5 + 58 * k + 28 + 6 * 0) (j % 16 + 16 * 0)) (5 + 58 * k + 28 + 6 * 1) (j % 16 + 16 * 1)) (5 + 58 * k + 40 + 5 * 0) (j % 8 + 8 * 0)) (5 + 58 * k + 40 + 5 * 1) (M 32 (j % 8 + 8 * 1)))) (by rw [ew_up_ne (by decide)]; exact hz39) (j % 8 + 8 * 1) ((5 + 58 * k + 40 + 5 * 1) + 1) (by omega) (by omega)) rfl ?_
  refine en_eq (M' := ew_up M 22 (sp_o2 (M 32) (M 40) 16 (sp_o2 (M 32) (M 40) 16 (sp_o2 (M 31) (M 38) 32 (sp_o2 (M 31) (M 38) 32 (M 22) (5 + 58 * k + 28 + 6 * 0) (j % 16 + 16 * 0)) (5 + 58 * k + 28 + 6 * 1) (j % 16 + 16 * 1)) (5 + 58 * k + 40 + 5 * 0) (j % 8 + 8 * 0)) (5 + 58 * k + 40 + 5 * 1) (j % 8 + 8 * 1))) rfl rfl (by rw [ew_upup, ew_up_ne (by decide), ew_up_self]; rfl) ?_
  refine en_inc (ls' := [.ref 23, .ref 22, .int (nI k), .int (nI 1), .int (nI 2), .int (nI (j % 8 + 8 * 1)), .int (nI (5 + 58 * k + 40 + 5 * 1))]) d_Pr_openLayers_71 rfl rfl ?_
  refine ew_goto (tgt := 10) d_Pr_openLayers_74 (by decide) ?_
  refine ew_iload d_Pr_openLayers_10 rfl ?_
  refine ew_iconst (v := nI 2) d_Pr_openLayers_12 (by decide) ?_
  refine en_icmp_ge (tgt := 77) d_Pr_openLayers_13 (by decide) (by omega) (by omega) (fun h13 => ?_) (fun h13 => by exact absurd h13 (by decide))
  refine en_inc (ls' := [.ref 23, .ref 22, .int (nI k), .int (nI 2), .int (nI 2), .int (nI (j % 8 + 8 * 1)), .int (nI (5 + 58 * k + 40 + 5 * 1))]) d_Pr_openLayers_77 rfl rfl ?_
  refine ew_goto (tgt := 2) d_Pr_openLayers_80 (by decide) ?_
  refine ew_iload_n d_Pr_openLayers_2 rfl ?_
  refine ew_iconst (v := nI 3) d_Pr_openLayers_3 (by decide) ?_
  refine en_icmp_ge (tgt := 83) d_Pr_openLayers_4 (by decide) (by omega) (by omega) (fun h4 => by exact absurd h4 (by decide)) (fun h4 => ?_)
  refine ew_iconst (v := nI 0) d_Pr_openLayers_7 (by decide) ?_
  refine en_istore (ls' := [.ref 23, .ref 22, .int (nI k), .int (nI 2), .int (nI 0), .int (nI (j % 8 + 8 * 1)), .int (nI (5 + 58 * k + 40 + 5 * 1))]) d_Pr_openLayers_8 (Nat.le_of_ble_eq_true rfl) rfl ?_
  refine ew_iload d_Pr_openLayers_10 rfl ?_
  refine ew_iconst (v := nI 2) d_Pr_openLayers_12 (by decide) ?_
  refine en_icmp_ge (tgt := 77) d_Pr_openLayers_13 (by decide) (by omega) (by omega) (fun h13 => by exact absurd h13 (by decide)) (fun h13 => ?_)
  refine ew_aload_n d_Pr_openLayers_16 rfl ?_
  refine ew_getr (ci := 5) (f := 3) d_Pr_openLayers_17 rfl rfl rfl tw_167 ?_
  refine ew_getrN (ci := 7) (f := 3) d_Pr_openLayers_20 rfl rfl rfl tw_136 ?_
  refine ew_iload_n d_Pr_openLayers_23 rfl ?_
  refine ew_iald (j := k) d_Pr_openLayers_24 rfl (rfl) (by omega) (by decide) ?_
  refine en_eq (st' := [.int (nI j)]) rfl (by rw [show ((ew_up M 22 (sp_o2 (M 32) (M 40) 16 (sp_o2 (M 32) (M 40) 16 (sp_o2 (M 31) (M 38) 32 (sp_o2 (M 31) (M 38) 32 (M 22) (5 + 58 * k + 28 + 6 * 0) (j % 16 + 16 * 0)) (5 + 58 * k + 28 + 6 * 1) (j % 16 + 16 * 1)) (5 + 58 * k + 40 + 5 * 0) (j % 8 + 8 * 0)) (5 + 58 * k + 40 + 5 * 1) (j % 8 + 8 * 1))) 26 k) = (nI j) from by rw [ew_up_ne (by decide)]; exact hj]) rfl ?_
  refine ew_iload_n d_Pr_openLayers_25 rfl ?_
  refine ew_iload d_Pr_openLayers_26 rfl ?_
  refine en_callS (As := [.int (nI j), .int (nI 2), .int (nI 0)]) (st := []) (st1 := [.int (nI (j % 4 + 4 * 0))]) d_Pr_openLayers_28 k_Pf_layerIndex tw_483 tw_484 rfl (Nat.le_of_ble_eq_true rfl) rfl (Nat.le_of_ble_eq_true rfl) rfl rfl (c_Pf_layerIndex2 l g _ L (ew_up M 22 (sp_o2 (M 32) (M 40) 16 (sp_o2 (M 32) (M 40) 16 (sp_o2 (M 31) (M 38) 32 (sp_o2 (M 31) (M 38) 32 (M 22) (5 + 58 * k + 28 + 6 * 0) (j % 16 + 16 * 0)) (5 + 58 * k + 28 + 6 * 1) (j % 16 + 16 * 1)) (5 + 58 * k + 40 + 5 * 0) (j % 8 + 8 * 0)) (5 + 58 * k + 40 + 5 * 1) (j % 8 + 8 * 1))) j 0 (hj2)) rfl ?_
  refine en_istore (ls' := [.ref 23, .ref 22, .int (nI k), .int (nI 2), .int (nI 0), .int (nI (j % 4 + 4 * 0)), .int (nI (5 + 58 * k + 40 + 5 * 1))]) d_Pr_openLayers_31 (Nat.le_of_ble_eq_true rfl) rfl ?_
  refine ew_iload_n d_Pr_openLayers_33 rfl ?_
  refine ew_iload_n d_Pr_openLayers_34 rfl ?_
  refine ew_iload d_Pr_openLayers_35 rfl ?_
  refine en_callS (As := [.int (nI k), .int (nI 2), .int (nI 0)]) (st := []) (st1 := [.int (nI (5 + 58 * k + 50 + 4 * 0))]) d_Pr_openLayers_37 k_Pf_layerStart tw_487 tw_488 rfl (Nat.le_of_ble_eq_true rfl) rfl (Nat.le_of_ble_eq_true rfl) rfl rfl (c_Pf_layerStart2 l g _ L (ew_up M 22 (sp_o2 (M 32) (M 40) 16 (sp_o2 (M 32) (M 40) 16 (sp_o2 (M 31) (M 38) 32 (sp_o2 (M 31) (M 38) 32 (M 22) (5 + 58 * k + 28 + 6 * 0) (j % 16 + 16 * 0)) (5 + 58 * k + 28 + 6 * 1) (j % 16 + 16 * 1)) (5 + 58 * k + 40 + 5 * 0) (j % 8 + 8 * 0)) (5 + 58 * k + 40 + 5 * 1) (j % 8 + 8 * 1))) (sp_st_of hs (ew_up_ne (by decide)) (ew_up_ne (by decide))) k 0) rfl ?_
  refine en_istore (ls' := [.ref 23, .ref 22, .int (nI k), .int (nI 2), .int (nI 0), .int (nI (j % 4 + 4 * 0)), .int (nI (5 + 58 * k + 50 + 4 * 0))]) d_Pr_openLayers_40 (Nat.le_of_ble_eq_true rfl) rfl ?_
  refine ew_aload_n d_Pr_openLayers_42 rfl ?_
  refine ew_iload d_Pr_openLayers_43 rfl ?_
  refine ew_aload_n d_Pr_openLayers_45 rfl ?_
  refine ew_getr (ci := 5) (f := 5) d_Pr_openLayers_46 rfl rfl rfl tw_169 ?_
  refine ew_iload_n d_Pr_openLayers_49 rfl ?_
  refine ew_aald (j := 2) d_Pr_openLayers_50 rfl (by decide) rfl rfl (by decide) ?_
  refine ew_iload d_Pr_openLayers_51 rfl ?_
  refine ew_iald (j := j % 4 + 4 * 0) d_Pr_openLayers_53 rfl (rfl) (by omega) (by decide) ?_
  refine en_eq (st' := [.int (M 33 (j % 4 + 4 * 0)), .int (nI (5 + 58 * k + 50 + 4 * 0)), .ref 22]) rfl (by rw [show ((ew_up M 22 (sp_o2 (M 32) (M 40) 16 (sp_o2 (M 32) (M 40) 16 (sp_o2 (M 31) (M 38) 32 (sp_o2 (M 31) (M 38) 32 (M 22) (5 + 58 * k + 28 + 6 * 0) (j % 16 + 16 * 0)) (5 + 58 * k + 28 + 6 * 1) (j % 16 + 16 * 1)) (5 + 58 * k + 40 + 5 * 0) (j % 8 + 8 * 0)) (5 + 58 * k + 40 + 5 * 1) (j % 8 + 8 * 1))) 33 (j % 4 + 4 * 0)) = (M 33 (j % 4 + 4 * 0)) from by rw [ew_up_ne (by decide)]]) rfl ?_
  refine ew_iast (j := 5 + 58 * k + 50 + 4 * 0) d_Pr_openLayers_54 rfl (by decide) (rfl) (by omega) (by decide) ?_
  refine en_eq (M' := ew_up M 22 (upd (sp_o2 (M 32) (M 40) 16 (sp_o2 (M 32) (M 40) 16 (sp_o2 (M 31) (M 38) 32 (sp_o2 (M 31) (M 38) 32 (M 22) (5 + 58 * k + 28 + 6 * 0) (j % 16 + 16 * 0)) (5 + 58 * k + 28 + 6 * 1) (j % 16 + 16 * 1)) (5 + 58 * k + 40 + 5 * 0) (j % 8 + 8 * 0)) (5 + 58 * k + 40 + 5 * 1) (j % 8 + 8 * 1)) (5 + 58 * k + 50 + 4 * 0) (M 33 (j % 4 + 4 * 0)))) rfl rfl (ew_w_up) ?_
  refine ew_aload_n d_Pr_openLayers_55 rfl ?_
  refine ew_getr (ci := 5) (f := 7) d_Pr_openLayers_56 rfl rfl rfl tw_171 ?_
  refine ew_iload_n d_Pr_openLayers_59 rfl ?_
  refine ew_aald (j := 2) d_Pr_openLayers_60 rfl (by decide) rfl rfl (by decide) ?_
  refine ew_iload d_Pr_openLayers_61 rfl ?_
  refine ew_aload_n d_Pr_openLayers_63 rfl ?_
  refine ew_iload d_Pr_openLayers_64 rfl ?_
  refine ew_iconst (v := nI 1) d_Pr_openLayers_66 (by decide) ?_
  refine en_iadd d_Pr_openLayers_67 ?_
  refine en_callV (As := [.int (nI (j % 4 + 4 * 0)), .ref 22, .int (nI ((5 + 58 * k + 50 + 4 * 0) + 1))]) (i := 41) (ci := 8) (st := []) (st1 := []) d_Pr_openLayers_68 k_Tr_copyPath rfl rfl tw_475 tw_476 tw_477 rfl (Nat.le_of_ble_eq_true rfl) rfl (Nat.le_of_ble_eq_true rfl) rfl rfl (c_Tr_copyPath41 l g _ L (ew_up M 22 (upd (sp_o2 (M 32) (M 40) 16 (sp_o2 (M 32) (M 40) 16 (sp_o2 (M 31) (M 38) 32 (sp_o2 (M 31) (M 38) 32 (M 22) (5 + 58 * k + 28 + 6 * 0) (j % 16 + 16 * 0)) (5 + 58 * k + 28 + 6 * 1) (j % 16 + 16 * 1)) (5 + 58 * k + 40 + 5 * 0) (j % 8 + 8 * 0)) (5 + 58 * k + 40 + 5 * 1) (j % 8 + 8 * 1)) (5 + 58 * k + 50 + 4 * 0) (M 33 (j % 4 + 4 * 0)))) (by rw [ew_up_ne (by decide)]; exact hz41) (j % 4 + 4 * 0) ((5 + 58 * k + 50 + 4 * 0) + 1) (by omega) (by omega)) rfl ?_
  refine en_eq (M' := ew_up M 22 (sp_o2 (M 33) (M 42) 8 (sp_o2 (M 32) (M 40) 16 (sp_o2 (M 32) (M 40) 16 (sp_o2 (M 31) (M 38) 32 (sp_o2 (M 31) (M 38) 32 (M 22) (5 + 58 * k + 28 + 6 * 0) (j % 16 + 16 * 0)) (5 + 58 * k + 28 + 6 * 1) (j % 16 + 16 * 1)) (5 + 58 * k + 40 + 5 * 0) (j % 8 + 8 * 0)) (5 + 58 * k + 40 + 5 * 1) (j % 8 + 8 * 1)) (5 + 58 * k + 50 + 4 * 0) (j % 4 + 4 * 0))) rfl rfl (by rw [ew_upup, ew_up_ne (by decide), ew_up_self]; rfl) ?_
  refine en_inc (ls' := [.ref 23, .ref 22, .int (nI k), .int (nI 2), .int (nI 1), .int (nI (j % 4 + 4 * 0)), .int (nI (5 + 58 * k + 50 + 4 * 0))]) d_Pr_openLayers_71 rfl rfl ?_
  refine ew_goto (tgt := 10) d_Pr_openLayers_74 (by decide) ?_
  refine ew_iload d_Pr_openLayers_10 rfl ?_
  refine ew_iconst (v := nI 2) d_Pr_openLayers_12 (by decide) ?_
  refine en_icmp_ge (tgt := 77) d_Pr_openLayers_13 (by decide) (by omega) (by omega) (fun h13 => by exact absurd h13 (by decide)) (fun h13 => ?_)
  refine ew_aload_n d_Pr_openLayers_16 rfl ?_
  refine ew_getr (ci := 5) (f := 3) d_Pr_openLayers_17 rfl rfl rfl tw_167 ?_
  refine ew_getrN (ci := 7) (f := 3) d_Pr_openLayers_20 rfl rfl rfl tw_136 ?_
  refine ew_iload_n d_Pr_openLayers_23 rfl ?_
  refine ew_iald (j := k) d_Pr_openLayers_24 rfl (rfl) (by omega) (by decide) ?_
  refine en_eq (st' := [.int (nI j)]) rfl (by rw [show ((ew_up M 22 (sp_o2 (M 33) (M 42) 8 (sp_o2 (M 32) (M 40) 16 (sp_o2 (M 32) (M 40) 16 (sp_o2 (M 31) (M 38) 32 (sp_o2 (M 31) (M 38) 32 (M 22) (5 + 58 * k + 28 + 6 * 0) (j % 16 + 16 * 0)) (5 + 58 * k + 28 + 6 * 1) (j % 16 + 16 * 1)) (5 + 58 * k + 40 + 5 * 0) (j % 8 + 8 * 0)) (5 + 58 * k + 40 + 5 * 1) (j % 8 + 8 * 1)) (5 + 58 * k + 50 + 4 * 0) (j % 4 + 4 * 0))) 26 k) = (nI j) from by rw [ew_up_ne (by decide)]; exact hj]) rfl ?_
  refine ew_iload_n d_Pr_openLayers_25 rfl ?_
  refine ew_iload d_Pr_openLayers_26 rfl ?_
  refine en_callS (As := [.int (nI j), .int (nI 2), .int (nI 1)]) (st := []) (st1 := [.int (nI (j % 4 + 4 * 1))]) d_Pr_openLayers_28 k_Pf_layerIndex tw_483 tw_484 rfl (Nat.le_of_ble_eq_true rfl) rfl (Nat.le_of_ble_eq_true rfl) rfl rfl (c_Pf_layerIndex2 l g _ L (ew_up M 22 (sp_o2 (M 33) (M 42) 8 (sp_o2 (M 32) (M 40) 16 (sp_o2 (M 32) (M 40) 16 (sp_o2 (M 31) (M 38) 32 (sp_o2 (M 31) (M 38) 32 (M 22) (5 + 58 * k + 28 + 6 * 0) (j % 16 + 16 * 0)) (5 + 58 * k + 28 + 6 * 1) (j % 16 + 16 * 1)) (5 + 58 * k + 40 + 5 * 0) (j % 8 + 8 * 0)) (5 + 58 * k + 40 + 5 * 1) (j % 8 + 8 * 1)) (5 + 58 * k + 50 + 4 * 0) (j % 4 + 4 * 0))) j 1 (hj2)) rfl ?_
  refine en_istore (ls' := [.ref 23, .ref 22, .int (nI k), .int (nI 2), .int (nI 1), .int (nI (j % 4 + 4 * 1)), .int (nI (5 + 58 * k + 50 + 4 * 0))]) d_Pr_openLayers_31 (Nat.le_of_ble_eq_true rfl) rfl ?_
  refine ew_iload_n d_Pr_openLayers_33 rfl ?_
  refine ew_iload_n d_Pr_openLayers_34 rfl ?_
  refine ew_iload d_Pr_openLayers_35 rfl ?_
  refine en_callS (As := [.int (nI k), .int (nI 2), .int (nI 1)]) (st := []) (st1 := [.int (nI (5 + 58 * k + 50 + 4 * 1))]) d_Pr_openLayers_37 k_Pf_layerStart tw_487 tw_488 rfl (Nat.le_of_ble_eq_true rfl) rfl (Nat.le_of_ble_eq_true rfl) rfl rfl (c_Pf_layerStart2 l g _ L (ew_up M 22 (sp_o2 (M 33) (M 42) 8 (sp_o2 (M 32) (M 40) 16 (sp_o2 (M 32) (M 40) 16 (sp_o2 (M 31) (M 38) 32 (sp_o2 (M 31) (M 38) 32 (M 22) (5 + 58 * k + 28 + 6 * 0) (j % 16 + 16 * 0)) (5 + 58 * k + 28 + 6 * 1) (j % 16 + 16 * 1)) (5 + 58 * k + 40 + 5 * 0) (j % 8 + 8 * 0)) (5 + 58 * k + 40 + 5 * 1) (j % 8 + 8 * 1)) (5 + 58 * k + 50 + 4 * 0) (j % 4 + 4 * 0))) (sp_st_of hs (ew_up_ne (by decide)) (ew_up_ne (by decide))) k 1) rfl ?_
  refine en_istore (ls' := [.ref 23, .ref 22, .int (nI k), .int (nI 2), .int (nI 1), .int (nI (j % 4 + 4 * 1)), .int (nI (5 + 58 * k + 50 + 4 * 1))]) d_Pr_openLayers_40 (Nat.le_of_ble_eq_true rfl) rfl ?_
  refine ew_aload_n d_Pr_openLayers_42 rfl ?_
  refine ew_iload d_Pr_openLayers_43 rfl ?_
  refine ew_aload_n d_Pr_openLayers_45 rfl ?_
  refine ew_getr (ci := 5) (f := 5) d_Pr_openLayers_46 rfl rfl rfl tw_169 ?_
  refine ew_iload_n d_Pr_openLayers_49 rfl ?_
  refine ew_aald (j := 2) d_Pr_openLayers_50 rfl (by decide) rfl rfl (by decide) ?_
  refine ew_iload d_Pr_openLayers_51 rfl ?_
  refine ew_iald (j := j % 4 + 4 * 1) d_Pr_openLayers_53 rfl (rfl) (by omega) (by decide) ?_
  refine en_eq (st' := [.int (M 33 (j % 4 + 4 * 1)), .int (nI (5 + 58 * k + 50 + 4 * 1)), .ref 22]) rfl (by rw [show ((ew_up M 22 (sp_o2 (M 33) (M 42) 8 (sp_o2 (M 32) (M 40) 16 (sp_o2 (M 32) (M 40) 16 (sp_o2 (M 31) (M 38) 32 (sp_o2 (M 31) (M 38) 32 (M 22) (5 + 58 * k + 28 + 6 * 0) (j % 16 + 16 * 0)) (5 + 58 * k + 28 + 6 * 1) (j % 16 + 16 * 1)) (5 + 58 * k + 40 + 5 * 0) (j % 8 + 8 * 0)) (5 + 58 * k + 40 + 5 * 1) (j % 8 + 8 * 1)) (5 + 58 * k + 50 + 4 * 0) (j % 4 + 4 * 0))) 33 (j % 4 + 4 * 1)) = (M 33 (j % 4 + 4 * 1)) from by rw [ew_up_ne (by decide)]]) rfl ?_
  refine ew_iast (j := 5 + 58 * k + 50 + 4 * 1) d_Pr_openLayers_54 rfl (by decide) (rfl) (by omega) (by decide) ?_
  refine en_eq (M' := ew_up M 22 (upd (sp_o2 (M 33) (M 42) 8 (sp_o2 (M 32) (M 40) 16 (sp_o2 (M 32) (M 40) 16 (sp_o2 (M 31) (M 38) 32 (sp_o2 (M 31) (M 38) 32 (M 22) (5 + 58 * k + 28 + 6 * 0) (j % 16 + 16 * 0)) (5 + 58 * k + 28 + 6 * 1) (j % 16 + 16 * 1)) (5 + 58 * k + 40 + 5 * 0) (j % 8 + 8 * 0)) (5 + 58 * k + 40 + 5 * 1) (j % 8 + 8 * 1)) (5 + 58 * k + 50 + 4 * 0) (j % 4 + 4 * 0)) (5 + 58 * k + 50 + 4 * 1) (M 33 (j % 4 + 4 * 1)))) rfl rfl (ew_w_up) ?_
  refine ew_aload_n d_Pr_openLayers_55 rfl ?_
  refine ew_getr (ci := 5) (f := 7) d_Pr_openLayers_56 rfl rfl rfl tw_171 ?_
  refine ew_iload_n d_Pr_openLayers_59 rfl ?_
  refine ew_aald (j := 2) d_Pr_openLayers_60 rfl (by decide) rfl rfl (by decide) ?_
  refine ew_iload d_Pr_openLayers_61 rfl ?_
  refine ew_aload_n d_Pr_openLayers_63 rfl ?_
  refine ew_iload d_Pr_openLayers_64 rfl ?_
  refine ew_iconst (v := nI 1) d_Pr_openLayers_66 (by decide) ?_
  refine en_iadd d_Pr_openLayers_67 ?_
  refine en_callV (As := [.int (nI (j % 4 + 4 * 1)), .ref 22, .int (nI ((5 + 58 * k + 50 + 4 * 1) + 1))]) (i := 41) (ci := 8) (st := []) (st1 := []) d_Pr_openLayers_68 k_Tr_copyPath rfl rfl tw_475 tw_476 tw_477 rfl (Nat.le_of_ble_eq_true rfl) rfl (Nat.le_of_ble_eq_true rfl) rfl rfl (c_Tr_copyPath41 l g _ L (ew_up M 22 (upd (sp_o2 (M 33) (M 42) 8 (sp_o2 (M 32) (M 40) 16 (sp_o2 (M 32) (M 40) 16 (sp_o2 (M 31) (M 38) 32 (sp_o2 (M 31) (M 38) 32 (M 22) (5 + 58 * k + 28 + 6 * 0) (j % 16 + 16 * 0)) (5 + 58 * k + 28 + 6 * 1) (j % 16 + 16 * 1)) (5 + 58 * k + 40 + 5 * 0) (j % 8 + 8 * 0)) (5 + 58 * k + 40 + 5 * 1) (j % 8 + 8 * 1)) (5 + 58 * k + 50 + 4 * 0) (j % 4 + 4 * 0)) (5 + 58 * k + 50 + 4 * 1) (M 33 (j % 4 + 4 * 1)))) (by rw [ew_up_ne (by decide)]; exact hz41) (j % 4 + 4 * 1) ((5 + 58 * k + 50 + 4 * 1) + 1) (by omega) (by omega)) rfl ?_
  refine en_eq (M' := ew_up M 22 (sp_o2 (M 33) (M 42) 8 (sp_o2 (M 33) (M 42) 8 (sp_o2 (M 32) (M 40) 16 (sp_o2 (M 32) (M 40) 16 (sp_o2 (M 31) (M 38) 32 (sp_o2 (M 31) (M 38) 32 (M 22) (5 + 58 * k + 28 + 6 * 0) (j % 16 + 16 * 0)) (5 + 58 * k + 28 + 6 * 1) (j % 16 + 16 * 1)) (5 + 58 * k + 40 + 5 * 0) (j % 8 + 8 * 0)) (5 + 58 * k + 40 + 5 * 1) (j % 8 + 8 * 1)) (5 + 58 * k + 50 + 4 * 0) (j % 4 + 4 * 0)) (5 + 58 * k + 50 + 4 * 1) (j % 4 + 4 * 1))) rfl rfl (by rw [ew_upup, ew_up_ne (by decide), ew_up_self]; rfl) ?_
  refine en_inc (ls' := [.ref 23, .ref 22, .int (nI k), .int (nI 2), .int (nI 2), .int (nI (j % 4 + 4 * 1)), .int (nI (5 + 58 * k + 50 + 4 * 1))]) d_Pr_openLayers_71 rfl rfl ?_
  refine ew_goto (tgt := 10) d_Pr_openLayers_74 (by decide) ?_
  refine ew_iload d_Pr_openLayers_10 rfl ?_
  refine ew_iconst (v := nI 2) d_Pr_openLayers_12 (by decide) ?_
  refine en_icmp_ge (tgt := 77) d_Pr_openLayers_13 (by decide) (by omega) (by omega) (fun h13 => ?_) (fun h13 => by exact absurd h13 (by decide))
  refine en_inc (ls' := [.ref 23, .ref 22, .int (nI k), .int (nI 3), .int (nI 2), .int (nI (j % 4 + 4 * 1)), .int (nI (5 + 58 * k + 50 + 4 * 1))]) d_Pr_openLayers_77 rfl rfl ?_
  refine ew_goto (tgt := 2) d_Pr_openLayers_80 (by decide) ?_
  refine ew_iload_n d_Pr_openLayers_2 rfl ?_
  refine ew_iconst (v := nI 3) d_Pr_openLayers_3 (by decide) ?_
  refine en_icmp_ge (tgt := 83) d_Pr_openLayers_4 (by decide) (by omega) (by omega) (fun h4 => ?_) (fun h4 => by exact absurd h4 (by decide))
  exact ew_ret d_Pr_openLayers_83 rfl (⟨rfl, rfl, rfl⟩)
/-- the talk's states behind each root, and what is drawn -/
def sp_t0 (ρ : sp_R) (r0 : Int32) : Int32 := sp_mix (sp_mix (sp_tR ρ (nI 1)) r0) (-7)
def sp_tn (t r : Int32) : Int32 := sp_mix (sp_mix t r) (-7)
def sp_y1 (y0 : Nat → Nat) (B i : Nat) : Nat := sp_fo 1 i (y0 i) (y0 (i + 16)) B
def sp_y2 (y1 : Nat → Nat) (B i : Nat) : Nat := sp_fo 2 i (y1 i) (y1 (i + 8)) B
def sp_y3 (y2 : Nat → Nat) (B : Nat) : Nat := sp_fo 4 0 (y2 0) (y2 (0 + 4)) B
/-- f is the proof over the row f0, with the trees' nodes n0 .. n3 -/
def sp_pfn (ρ : sp_R) (ce : Nat → Nat → Nat) (n0 n1 n2 n3 : Nat → Int32) : Prop :=
  sp_tree n0 32 (fun t => sp_mix (nI (sp_p ce 0 t)) (nI (sp_p ce 1 t))) ∧
  sp_tree n1 32 (fun t => sp_mix (nI (sp_y0 ρ ce (sp_ch (sp_t0 ρ (n0 1))) t)) (nI 12289)) ∧
  sp_tree n2 16 (fun t => sp_mix (nI (sp_y1 (sp_y0 ρ ce (sp_ch (sp_t0 ρ (n0 1)))) (sp_ch (sp_tn (sp_t0 ρ (n0 1)) (n1 1))) t)) (nI 12289)) ∧
  sp_tree n3 8 (fun t => sp_mix (nI (sp_y2 (sp_y1 (sp_y0 ρ ce (sp_ch (sp_t0 ρ (n0 1)))) (sp_ch (sp_tn (sp_t0 ρ (n0 1)) (n1 1)))) (sp_ch (sp_tn (sp_tn (sp_t0 ρ (n0 1)) (n1 1)) (n2 1))) t)) (nI 12289))
/-- the values, out of the roots -/
def sp_v0 (ρ : sp_R) (ce : Nat → Nat → Nat) (r0 : Int32) : Nat → Nat := sp_y0 ρ ce (sp_ch (sp_t0 ρ r0))
def sp_v1 (ρ : sp_R) (ce : Nat → Nat → Nat) (r0 r1 : Int32) : Nat → Nat := sp_y1 (sp_v0 ρ ce r0) (sp_ch (sp_tn (sp_t0 ρ r0) r1))
def sp_v2 (ρ : sp_R) (ce : Nat → Nat → Nat) (r0 r1 r2 : Int32) : Nat → Nat := sp_y2 (sp_v1 ρ ce r0 r1) (sp_ch (sp_tn (sp_tn (sp_t0 ρ r0) r1) r2))
def sp_v3 (ρ : sp_R) (ce : Nat → Nat → Nat) (r0 r1 r2 r3 : Int32) : Nat := sp_y3 (sp_v2 ρ ce r0 r1 r2) (sp_ch (sp_tn (sp_tn (sp_tn (sp_t0 ρ r0) r1) r2) r3))
def sp_j (ρ : sp_R) (ce : Nat → Nat → Nat) (r0 r1 r2 r3 : Int32) (k : Nat) : Nat := sp_po (sp_ps (sp_mix (sp_tn (sp_tn (sp_tn (sp_t0 ρ r0) r1) r2) r3) (nI (sp_v3 ρ ce r0 r1 r2 r3))) (k + 1))
def sp_f5 (f : Nat → Int32) (r0 r1 r2 r3 x : Int32) : Nat → Int32 := upd (upd (upd (upd (upd f 0 r0) 1 r1) 2 r2) 3 r3) 4 x
/-- one position opened -/
def sp_op (ρ : sp_R) (ce : Nat → Nat → Nat) (n0 n1 n2 n3 f : Nat → Int32) (k : Nat) : Nat → Int32 :=
  sp_ol (fun i => nI (sp_v0 ρ ce (n0 1) i)) n1 (fun i => nI (sp_v1 ρ ce (n0 1) (n1 1) i)) n2 (fun i => nI (sp_v2 ρ ce (n0 1) (n1 1) (n2 1) i)) n3 (sp_oc (fun i => nI (sp_p ce 0 i)) (fun i => nI (sp_p ce 1 i)) n0 f k (sp_j ρ ce (n0 1) (n1 1) (n2 1) (n3 1) k)) k (sp_j ρ ce (n0 1) (n1 1) (n2 1) (n3 1) k)
def sp_row3 (ρ : sp_R) (ce : Nat → Nat → Nat) (n0 n1 n2 n3 f : Nat → Int32) : Nat → Int32 :=
  sp_op ρ ce n0 n1 n2 n3 (sp_op ρ ce n0 n1 n2 n3 (sp_op ρ ce n0 n1 n2 n3 (sp_f5 f (n0 1) (n1 1) (n2 1) (n3 1) (nI (sp_v3 ρ ce (n0 1) (n1 1) (n2 1) (n3 1)))) 0) 1) 2
def sp_pf (ρ : sp_R) (ce : Nat → Nat → Nat) (f0 f : Nat → Int32) : Prop := ∃ n0 n1 n2 n3, sp_pfn ρ ce n0 n1 n2 n3 ∧ ∀ i, i < 179 → f i = sp_row3 ρ ce n0 n1 n2 n3 f0 i
theorem sp_pa_c {nd nd' : Nat → Int32} (hn : ∀ n, 1 ≤ n → n < 64 → nd n = nd' n) : ∀ (u : Nat) (f f' : Nat → Int32) (to n : Nat), (∀ i, i < 179 → f i = f' i) → n < 64 → ∀ i, i < 179 → sp_pa nd u f to n i = sp_pa nd' u f' to n i
  | 0, f, f', to, n, hf, h64, i, hi => hf i hi
  | u + 1, f, f', to, n, hf, h64, i, hi => by
    by_cases h : n ≤ 1
    · rw [sp_pa_1 h, sp_pa_1 h]
      exact hf i hi
    · rw [sp_pa_2 h, sp_pa_2 h]
      refine sp_pa_c hn u _ _ (to + 1) (n / 2) (fun q hq => ?_) (by omega) i hi
      have hx : n ^^^ 1 < 64 := nx_lt (u := 5) h64
      have h1 : 1 ≤ n ^^^ 1 := nx_pos (by omega)
      unfold upd
      by_cases e : q = to
      · rw [if_pos e, if_pos e]
        exact hn _ h1 hx
      · rw [if_neg e, if_neg e]
        exact hf q hq
theorem sp_upd_c {f f' : Nat → Int32} {s : Nat} {x y : Int32} (hf : ∀ i, i < 179 → f i = f' i) (h : x = y) : ∀ i, i < 179 → upd f s x i = upd f' s y i := fun i hi => by
  unfold upd
  by_cases e : i = s
  · rw [if_pos e, if_pos e, h]
  · rw [if_neg e, if_neg e]
    exact hf i hi
theorem sp_o1_c {p0 p1 nd p0' p1' nd' f f' : Nat → Int32} {s i : Nat} (h0 : p0 i = p0' i) (h1 : p1 i = p1' i) (hn : ∀ n, 1 ≤ n → n < 64 → nd n = nd' n) (hf : ∀ i, i < 179 → f i = f' i) (hi : i < 32) : ∀ q, q < 179 → sp_o1 p0 p1 nd f s i q = sp_o1 p0' p1' nd' f' s i q := sp_pa_c hn 6 _ _ _ _ (sp_upd_c (sp_upd_c hf h0) h1) (by omega)
theorem sp_pb_c {c : Nat} (hc : c = 32 ∨ c = 16 ∨ c = 8) {nd nd' : Nat → Int32} (hn : ∀ n, 1 ≤ n → n < 2 * c → nd n = nd' n) : ∀ (u : Nat) (f f' : Nat → Int32) (to n : Nat), (∀ i, i < 179 → f i = f' i) → n < 2 * c → ∀ i, i < 179 → sp_pa nd u f to n i = sp_pa nd' u f' to n i
  | 0, f, f', to, n, hf, h64, i, hi => hf i hi
  | u + 1, f, f', to, n, hf, h64, i, hi => by
    by_cases h : n ≤ 1
    · rw [sp_pa_1 h, sp_pa_1 h]
      exact hf i hi
    · rw [sp_pa_2 h, sp_pa_2 h]
      refine sp_pb_c hc hn u _ _ (to + 1) (n / 2) (fun q hq => ?_) (by omega) i hi
      have hx : n ^^^ 1 < 2 * c := by
        rcases hc with rfl | rfl | rfl
        · exact nx_lt (u := 5) h64
        · exact nx_lt (u := 4) h64
        · exact nx_lt (u := 3) h64
      have h1 : 1 ≤ n ^^^ 1 := nx_pos (by omega)
      unfold upd
      by_cases e : q = to
      · rw [if_pos e, if_pos e]
        exact hn _ h1 hx
      · rw [if_neg e, if_neg e]
        exact hf q hq
theorem sp_o2_c {y nd y' nd' f f' : Nat → Int32} {c s i : Nat} (h0 : y i = y' i) (hn : ∀ n, 1 ≤ n → n < 2 * c → nd n = nd' n) (hf : ∀ i, i < 179 → f i = f' i) (hi : i < c) (hc : c = 32 ∨ c = 16 ∨ c = 8) : ∀ q, q < 179 → sp_o2 y nd c f s i q = sp_o2 y' nd' c f' s i q := sp_pb_c hc hn 6 _ _ _ _ (sp_upd_c hf h0) (by omega)
theorem sp_oc_c {p0 p1 nd p0' p1' nd' f f' : Nat → Int32} {k j : Nat} (h0 : ∀ i, i < 32 → p0 i = p0' i) (h1 : ∀ i, i < 32 → p1 i = p1' i) (hn : ∀ n, 1 ≤ n → n < 64 → nd n = nd' n) (hf : ∀ i, i < 179 → f i = f' i) : ∀ q, q < 179 → sp_oc p0 p1 nd f k j q = sp_oc p0' p1' nd' f' k j q := by
  unfold sp_oc
  have e : ∀ x, x % 32 < 32 := fun x => Nat.mod_lt _ (by decide)
  exact sp_o1_c (h0 _ (e _)) (h1 _ (e _)) hn (sp_o1_c (h0 _ (e _)) (h1 _ (e _)) hn (sp_o1_c (h0 _ (e _)) (h1 _ (e _)) hn (sp_o1_c (h0 _ (e _)) (h1 _ (e _)) hn hf (e _)) (e _)) (e _)) (e _)
theorem sp_ol_c {y0 n0 y1 n1 y2 n2 y0' n0' y1' n1' y2' n2' f f' : Nat → Int32} {k j : Nat} (h0 : ∀ i, i < 32 → y0 i = y0' i) (h1 : ∀ i, i < 16 → y1 i = y1' i) (h2 : ∀ i, i < 8 → y2 i = y2' i) (g0 : ∀ n, 1 ≤ n → n < 64 → n0 n = n0' n) (g1 : ∀ n, 1 ≤ n → n < 32 → n1 n = n1' n) (g2 : ∀ n, 1 ≤ n → n < 16 → n2 n = n2' n) (hf : ∀ i, i < 179 → f i = f' i) : ∀ q, q < 179 → sp_ol y0 n0 y1 n1 y2 n2 f k j q = sp_ol y0' n0' y1' n1' y2' n2' f' k j q := by
  unfold sp_ol
  exact sp_o2_c (h2 _ (by omega)) g2 (sp_o2_c (h2 _ (by omega)) g2 (sp_o2_c (h1 _ (by omega)) g1 (sp_o2_c (h1 _ (by omega)) g1 (sp_o2_c (h0 _ (by omega)) g0 (sp_o2_c (h0 _ (by omega)) g0 hf (by omega) (Or.inl rfl)) (by omega) (Or.inl rfl)) (by omega) (Or.inr (Or.inl rfl))) (by omega) (Or.inr (Or.inl rfl))) (by omega) (Or.inr (Or.inr rfl))) (by omega) (Or.inr (Or.inr rfl))
theorem sp_op_c {ρ : sp_R} {ce : Nat → Nat → Nat} {n0 n1 n2 n3 m0 m1 m2 m3 f f' : Nat → Int32} (g0 : ∀ n, 1 ≤ n → n < 64 → n0 n = m0 n) (g1 : ∀ n, 1 ≤ n → n < 64 → n1 n = m1 n) (g2 : ∀ n, 1 ≤ n → n < 32 → n2 n = m2 n) (g3 : ∀ n, 1 ≤ n → n < 16 → n3 n = m3 n) (hf : ∀ i, i < 179 → f i = f' i) (k : Nat) : ∀ q, q < 179 → sp_op ρ ce n0 n1 n2 n3 f k q = sp_op ρ ce m0 m1 m2 m3 f' k q := by
  unfold sp_op
  rw [g0 1 (by decide) (by decide), g1 1 (by decide) (by decide), g2 1 (by decide) (by decide), g3 1 (by decide) (by decide)]
  exact sp_ol_c (fun _ _ => rfl) (fun _ _ => rfl) (fun _ _ => rfl) g1 g2 g3 (sp_oc_c (fun _ _ => rfl) (fun _ _ => rfl) g0 hf)
theorem sp_f5_c {f f' : Nat → Int32} {a b c d x : Int32} (hf : ∀ i, i < 179 → f i = f' i) : ∀ i, i < 179 → sp_f5 f a b c d x i = sp_f5 f' a b c d x i := sp_upd_c (sp_upd_c (sp_upd_c (sp_upd_c (sp_upd_c hf rfl) rfl) rfl) rfl) rfl
/-- two proofs of the same rules and cells, over rows that are alike, are alike -/
theorem sp_pf_eq {ρ : sp_R} {ce : Nat → Nat → Nat} {f0 f g0 g : Nat → Int32} (h : sp_pf ρ ce f0 f) (h' : sp_pf ρ ce g0 g) (hf : ∀ i, i < 179 → f0 i = g0 i) : ∀ i, i < 179 → f i = g i := by
  obtain ⟨n0, n1, n2, n3, ⟨a0, a1, a2, a3⟩, e⟩ := h
  obtain ⟨m0, m1, m2, m3, ⟨b0, b1, b2, b3⟩, e'⟩ := h'
  have g0 := fun n h1 h2 => sp_tree_eq a0 b0 (fun _ _ => rfl) 64 n (by omega) h1 h2
  have r0 : n0 1 = m0 1 := g0 1 (by decide) (by decide)
  rw [← r0] at b1 b2 b3
  have g1 := fun n h1 h2 => sp_tree_eq a1 b1 (fun _ _ => rfl) 64 n (by omega) h1 h2
  have r1 : n1 1 = m1 1 := g1 1 (by decide) (by decide)
  rw [← r1] at b2 b3
  have g2 := fun n h1 h2 => sp_tree_eq a2 b2 (fun _ _ => rfl) 32 n (by omega) h1 h2
  have r2 : n2 1 = m2 1 := g2 1 (by decide) (by decide)
  rw [← r2] at b3
  have g3 := fun n h1 h2 => sp_tree_eq a3 b3 (fun _ _ => rfl) 16 n (by omega) h1 h2
  have r3 : n3 1 = m3 1 := g3 1 (by decide) (by decide)
  intro i hi
  rw [e i hi, e' i hi]
  unfold sp_row3
  rw [← r0, ← r1, ← r2, ← r3]
  exact sp_op_c g0 g1 g2 g3 (sp_op_c g0 g1 g2 g3 (sp_op_c g0 g1 g2 g3 (sp_f5_c hf) 0) 1) 2 i hi
