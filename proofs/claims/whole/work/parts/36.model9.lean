set_option maxRecDepth 100000 in
theorem c_Mo_placeOf_0_0 (l : Launch) (g : ew_G) (d L : Nat) (M : ew_M)  :
    Ew l g d 0 0 m_Mo_placeOf 0 [.int (nI 0), .int (nI 0), .retAddr 0] [] (ew_SH L) M (ew_q (some (.int (nI 5))) (ew_SH L) M) := by
  refine ew_iconst (v := nI 5) d_Mo_placeOf_0 (by decide) ?_
  refine ew_bipush (v := nI 58) d_Mo_placeOf_1 (by decide) ?_
  refine ew_iload_n d_Mo_placeOf_3 rfl ?_
  refine en_imul d_Mo_placeOf_4 ?_
  refine en_eq rfl (show _ = [.int (nI 0), .int (nI 5)] from rfl) rfl ?_
  refine en_iadd d_Mo_placeOf_5 ?_
  refine en_eq rfl (show _ = [.int (nI 5)] from rfl) rfl ?_
  refine en_istore_n (ls' := [.int (nI 0), .int (nI 0), .int (nI 5)]) d_Mo_placeOf_6 (Nat.le_of_ble_eq_true rfl) rfl ?_
  refine ew_iload_n d_Mo_placeOf_7 rfl ?_
  refine ew_iconst (v := nI 4) d_Mo_placeOf_8 (by decide) ?_
  refine en_icmp_ge (tgt := 21) d_Mo_placeOf_9 (by decide) (by decide) (by decide) (fun h9 => by exact absurd h9 (by decide)) (fun h9 => ?_)
  refine ew_iload_n d_Mo_placeOf_12 rfl ?_
  refine ew_bipush (v := nI 7) d_Mo_placeOf_13 (by decide) ?_
  refine ew_iload_n d_Mo_placeOf_15 rfl ?_
  refine en_imul d_Mo_placeOf_16 ?_
  refine en_eq rfl (show _ = [.int (nI 0), .int (nI 5)] from rfl) rfl ?_
  refine en_iadd d_Mo_placeOf_17 ?_
  refine en_eq rfl (show _ = [.int (nI 5)] from rfl) rfl ?_
  refine ew_goto (tgt := 72) d_Mo_placeOf_18 (by decide) ?_
  exact ew_iret d_Mo_placeOf_72 rfl (⟨rfl, rfl, rfl⟩)
set_option maxRecDepth 100000 in
theorem c_Mo_placeOf_0_1 (l : Launch) (g : ew_G) (d L : Nat) (M : ew_M)  :
    Ew l g d 0 0 m_Mo_placeOf 0 [.int (nI 0), .int (nI 1), .retAddr 0] [] (ew_SH L) M (ew_q (some (.int (nI 12))) (ew_SH L) M) := by
  refine ew_iconst (v := nI 5) d_Mo_placeOf_0 (by decide) ?_
  refine ew_bipush (v := nI 58) d_Mo_placeOf_1 (by decide) ?_
  refine ew_iload_n d_Mo_placeOf_3 rfl ?_
  refine en_imul d_Mo_placeOf_4 ?_
  refine en_eq rfl (show _ = [.int (nI 0), .int (nI 5)] from rfl) rfl ?_
  refine en_iadd d_Mo_placeOf_5 ?_
  refine en_eq rfl (show _ = [.int (nI 5)] from rfl) rfl ?_
  refine en_istore_n (ls' := [.int (nI 0), .int (nI 1), .int (nI 5)]) d_Mo_placeOf_6 (Nat.le_of_ble_eq_true rfl) rfl ?_
  refine ew_iload_n d_Mo_placeOf_7 rfl ?_
  refine ew_iconst (v := nI 4) d_Mo_placeOf_8 (by decide) ?_
  refine en_icmp_ge (tgt := 21) d_Mo_placeOf_9 (by decide) (by decide) (by decide) (fun h9 => by exact absurd h9 (by decide)) (fun h9 => ?_)
  refine ew_iload_n d_Mo_placeOf_12 rfl ?_
  refine ew_bipush (v := nI 7) d_Mo_placeOf_13 (by decide) ?_
  refine ew_iload_n d_Mo_placeOf_15 rfl ?_
  refine en_imul d_Mo_placeOf_16 ?_
  refine en_eq rfl (show _ = [.int (nI 7), .int (nI 5)] from rfl) rfl ?_
  refine en_iadd d_Mo_placeOf_17 ?_
  refine en_eq rfl (show _ = [.int (nI 12)] from rfl) rfl ?_
  refine ew_goto (tgt := 72) d_Mo_placeOf_18 (by decide) ?_
  exact ew_iret d_Mo_placeOf_72 rfl (⟨rfl, rfl, rfl⟩)
set_option maxRecDepth 100000 in
theorem c_Mo_placeOf_0_2 (l : Launch) (g : ew_G) (d L : Nat) (M : ew_M)  :
    Ew l g d 0 0 m_Mo_placeOf 0 [.int (nI 0), .int (nI 2), .retAddr 0] [] (ew_SH L) M (ew_q (some (.int (nI 19))) (ew_SH L) M) := by
  refine ew_iconst (v := nI 5) d_Mo_placeOf_0 (by decide) ?_
  refine ew_bipush (v := nI 58) d_Mo_placeOf_1 (by decide) ?_
  refine ew_iload_n d_Mo_placeOf_3 rfl ?_
  refine en_imul d_Mo_placeOf_4 ?_
  refine en_eq rfl (show _ = [.int (nI 0), .int (nI 5)] from rfl) rfl ?_
  refine en_iadd d_Mo_placeOf_5 ?_
  refine en_eq rfl (show _ = [.int (nI 5)] from rfl) rfl ?_
  refine en_istore_n (ls' := [.int (nI 0), .int (nI 2), .int (nI 5)]) d_Mo_placeOf_6 (Nat.le_of_ble_eq_true rfl) rfl ?_
  refine ew_iload_n d_Mo_placeOf_7 rfl ?_
  refine ew_iconst (v := nI 4) d_Mo_placeOf_8 (by decide) ?_
  refine en_icmp_ge (tgt := 21) d_Mo_placeOf_9 (by decide) (by decide) (by decide) (fun h9 => by exact absurd h9 (by decide)) (fun h9 => ?_)
  refine ew_iload_n d_Mo_placeOf_12 rfl ?_
  refine ew_bipush (v := nI 7) d_Mo_placeOf_13 (by decide) ?_
  refine ew_iload_n d_Mo_placeOf_15 rfl ?_
  refine en_imul d_Mo_placeOf_16 ?_
  refine en_eq rfl (show _ = [.int (nI 14), .int (nI 5)] from rfl) rfl ?_
  refine en_iadd d_Mo_placeOf_17 ?_
  refine en_eq rfl (show _ = [.int (nI 19)] from rfl) rfl ?_
  refine ew_goto (tgt := 72) d_Mo_placeOf_18 (by decide) ?_
  exact ew_iret d_Mo_placeOf_72 rfl (⟨rfl, rfl, rfl⟩)
set_option maxRecDepth 100000 in
theorem c_Mo_placeOf_0_3 (l : Launch) (g : ew_G) (d L : Nat) (M : ew_M)  :
    Ew l g d 0 0 m_Mo_placeOf 0 [.int (nI 0), .int (nI 3), .retAddr 0] [] (ew_SH L) M (ew_q (some (.int (nI 26))) (ew_SH L) M) := by
  refine ew_iconst (v := nI 5) d_Mo_placeOf_0 (by decide) ?_
  refine ew_bipush (v := nI 58) d_Mo_placeOf_1 (by decide) ?_
  refine ew_iload_n d_Mo_placeOf_3 rfl ?_
  refine en_imul d_Mo_placeOf_4 ?_
  refine en_eq rfl (show _ = [.int (nI 0), .int (nI 5)] from rfl) rfl ?_
  refine en_iadd d_Mo_placeOf_5 ?_
  refine en_eq rfl (show _ = [.int (nI 5)] from rfl) rfl ?_
  refine en_istore_n (ls' := [.int (nI 0), .int (nI 3), .int (nI 5)]) d_Mo_placeOf_6 (Nat.le_of_ble_eq_true rfl) rfl ?_
  refine ew_iload_n d_Mo_placeOf_7 rfl ?_
  refine ew_iconst (v := nI 4) d_Mo_placeOf_8 (by decide) ?_
  refine en_icmp_ge (tgt := 21) d_Mo_placeOf_9 (by decide) (by decide) (by decide) (fun h9 => by exact absurd h9 (by decide)) (fun h9 => ?_)
  refine ew_iload_n d_Mo_placeOf_12 rfl ?_
  refine ew_bipush (v := nI 7) d_Mo_placeOf_13 (by decide) ?_
  refine ew_iload_n d_Mo_placeOf_15 rfl ?_
  refine en_imul d_Mo_placeOf_16 ?_
  refine en_eq rfl (show _ = [.int (nI 21), .int (nI 5)] from rfl) rfl ?_
  refine en_iadd d_Mo_placeOf_17 ?_
  refine en_eq rfl (show _ = [.int (nI 26)] from rfl) rfl ?_
  refine ew_goto (tgt := 72) d_Mo_placeOf_18 (by decide) ?_
  exact ew_iret d_Mo_placeOf_72 rfl (⟨rfl, rfl, rfl⟩)
set_option maxRecDepth 100000 in
theorem c_Mo_placeOf_0_4 (l : Launch) (g : ew_G) (d L : Nat) (M : ew_M)  :
    Ew l g d 0 0 m_Mo_placeOf 0 [.int (nI 0), .int (nI 4), .retAddr 0] [] (ew_SH L) M (ew_q (some (.int (nI 33))) (ew_SH L) M) := by
  refine ew_iconst (v := nI 5) d_Mo_placeOf_0 (by decide) ?_
  refine ew_bipush (v := nI 58) d_Mo_placeOf_1 (by decide) ?_
  refine ew_iload_n d_Mo_placeOf_3 rfl ?_
  refine en_imul d_Mo_placeOf_4 ?_
  refine en_eq rfl (show _ = [.int (nI 0), .int (nI 5)] from rfl) rfl ?_
  refine en_iadd d_Mo_placeOf_5 ?_
  refine en_eq rfl (show _ = [.int (nI 5)] from rfl) rfl ?_
  refine en_istore_n (ls' := [.int (nI 0), .int (nI 4), .int (nI 5)]) d_Mo_placeOf_6 (Nat.le_of_ble_eq_true rfl) rfl ?_
  refine ew_iload_n d_Mo_placeOf_7 rfl ?_
  refine ew_iconst (v := nI 4) d_Mo_placeOf_8 (by decide) ?_
  refine en_icmp_ge (tgt := 21) d_Mo_placeOf_9 (by decide) (by decide) (by decide) (fun h9 => ?_) (fun h9 => by exact absurd h9 (by decide))
  refine ew_iload_n d_Mo_placeOf_21 rfl ?_
  refine ew_bipush (v := nI 6) d_Mo_placeOf_22 (by decide) ?_
  refine en_icmp_ge (tgt := 41) d_Mo_placeOf_24 (by decide) (by decide) (by decide) (fun h24 => by exact absurd h24 (by decide)) (fun h24 => ?_)
  refine ew_iload_n d_Mo_placeOf_27 rfl ?_
  refine ew_bipush (v := nI 28) d_Mo_placeOf_28 (by decide) ?_
  refine en_iadd d_Mo_placeOf_30 ?_
  refine en_eq rfl (show _ = [.int (nI 33)] from rfl) rfl ?_
  refine ew_bipush (v := nI 6) d_Mo_placeOf_31 (by decide) ?_
  refine ew_iload_n d_Mo_placeOf_33 rfl ?_
  refine ew_iconst (v := nI 4) d_Mo_placeOf_34 (by decide) ?_
  refine en_isub d_Mo_placeOf_35 (by decide) ?_
  refine en_eq rfl (show _ = [.int (nI 0), .int (nI 6), .int (nI 33)] from rfl) rfl ?_
  refine en_imul d_Mo_placeOf_36 ?_
  refine en_eq rfl (show _ = [.int (nI 0), .int (nI 33)] from rfl) rfl ?_
  refine en_iadd d_Mo_placeOf_37 ?_
  refine en_eq rfl (show _ = [.int (nI 33)] from rfl) rfl ?_
  refine ew_goto (tgt := 72) d_Mo_placeOf_38 (by decide) ?_
  exact ew_iret d_Mo_placeOf_72 rfl (⟨rfl, rfl, rfl⟩)
set_option maxRecDepth 100000 in
theorem c_Mo_placeOf_0_5 (l : Launch) (g : ew_G) (d L : Nat) (M : ew_M)  :
    Ew l g d 0 0 m_Mo_placeOf 0 [.int (nI 0), .int (nI 5), .retAddr 0] [] (ew_SH L) M (ew_q (some (.int (nI 39))) (ew_SH L) M) := by
  refine ew_iconst (v := nI 5) d_Mo_placeOf_0 (by decide) ?_
  refine ew_bipush (v := nI 58) d_Mo_placeOf_1 (by decide) ?_
  refine ew_iload_n d_Mo_placeOf_3 rfl ?_
  refine en_imul d_Mo_placeOf_4 ?_
  refine en_eq rfl (show _ = [.int (nI 0), .int (nI 5)] from rfl) rfl ?_
  refine en_iadd d_Mo_placeOf_5 ?_
  refine en_eq rfl (show _ = [.int (nI 5)] from rfl) rfl ?_
  refine en_istore_n (ls' := [.int (nI 0), .int (nI 5), .int (nI 5)]) d_Mo_placeOf_6 (Nat.le_of_ble_eq_true rfl) rfl ?_
  refine ew_iload_n d_Mo_placeOf_7 rfl ?_
  refine ew_iconst (v := nI 4) d_Mo_placeOf_8 (by decide) ?_
  refine en_icmp_ge (tgt := 21) d_Mo_placeOf_9 (by decide) (by decide) (by decide) (fun h9 => ?_) (fun h9 => by exact absurd h9 (by decide))
  refine ew_iload_n d_Mo_placeOf_21 rfl ?_
  refine ew_bipush (v := nI 6) d_Mo_placeOf_22 (by decide) ?_
  refine en_icmp_ge (tgt := 41) d_Mo_placeOf_24 (by decide) (by decide) (by decide) (fun h24 => by exact absurd h24 (by decide)) (fun h24 => ?_)
  refine ew_iload_n d_Mo_placeOf_27 rfl ?_
  refine ew_bipush (v := nI 28) d_Mo_placeOf_28 (by decide) ?_
  refine en_iadd d_Mo_placeOf_30 ?_
  refine en_eq rfl (show _ = [.int (nI 33)] from rfl) rfl ?_
  refine ew_bipush (v := nI 6) d_Mo_placeOf_31 (by decide) ?_
  refine ew_iload_n d_Mo_placeOf_33 rfl ?_
  refine ew_iconst (v := nI 4) d_Mo_placeOf_34 (by decide) ?_
  refine en_isub d_Mo_placeOf_35 (by decide) ?_
  refine en_eq rfl (show _ = [.int (nI 1), .int (nI 6), .int (nI 33)] from rfl) rfl ?_
  refine en_imul d_Mo_placeOf_36 ?_
  refine en_eq rfl (show _ = [.int (nI 6), .int (nI 33)] from rfl) rfl ?_
  refine en_iadd d_Mo_placeOf_37 ?_
  refine en_eq rfl (show _ = [.int (nI 39)] from rfl) rfl ?_
  refine ew_goto (tgt := 72) d_Mo_placeOf_38 (by decide) ?_
  exact ew_iret d_Mo_placeOf_72 rfl (⟨rfl, rfl, rfl⟩)
set_option maxRecDepth 100000 in
theorem c_Mo_placeOf_0_6 (l : Launch) (g : ew_G) (d L : Nat) (M : ew_M)  :
    Ew l g d 0 0 m_Mo_placeOf 0 [.int (nI 0), .int (nI 6), .retAddr 0] [] (ew_SH L) M (ew_q (some (.int (nI 45))) (ew_SH L) M) := by
  refine ew_iconst (v := nI 5) d_Mo_placeOf_0 (by decide) ?_
  refine ew_bipush (v := nI 58) d_Mo_placeOf_1 (by decide) ?_
  refine ew_iload_n d_Mo_placeOf_3 rfl ?_
  refine en_imul d_Mo_placeOf_4 ?_
  refine en_eq rfl (show _ = [.int (nI 0), .int (nI 5)] from rfl) rfl ?_
  refine en_iadd d_Mo_placeOf_5 ?_
  refine en_eq rfl (show _ = [.int (nI 5)] from rfl) rfl ?_
  refine en_istore_n (ls' := [.int (nI 0), .int (nI 6), .int (nI 5)]) d_Mo_placeOf_6 (Nat.le_of_ble_eq_true rfl) rfl ?_
  refine ew_iload_n d_Mo_placeOf_7 rfl ?_
  refine ew_iconst (v := nI 4) d_Mo_placeOf_8 (by decide) ?_
  refine en_icmp_ge (tgt := 21) d_Mo_placeOf_9 (by decide) (by decide) (by decide) (fun h9 => ?_) (fun h9 => by exact absurd h9 (by decide))
  refine ew_iload_n d_Mo_placeOf_21 rfl ?_
  refine ew_bipush (v := nI 6) d_Mo_placeOf_22 (by decide) ?_
  refine en_icmp_ge (tgt := 41) d_Mo_placeOf_24 (by decide) (by decide) (by decide) (fun h24 => ?_) (fun h24 => by exact absurd h24 (by decide))
  refine ew_iload_n d_Mo_placeOf_41 rfl ?_
  refine ew_bipush (v := nI 8) d_Mo_placeOf_42 (by decide) ?_
  refine en_icmp_ge (tgt := 61) d_Mo_placeOf_44 (by decide) (by decide) (by decide) (fun h44 => by exact absurd h44 (by decide)) (fun h44 => ?_)
  refine ew_iload_n d_Mo_placeOf_47 rfl ?_
  refine ew_bipush (v := nI 40) d_Mo_placeOf_48 (by decide) ?_
  refine en_iadd d_Mo_placeOf_50 ?_
  refine en_eq rfl (show _ = [.int (nI 45)] from rfl) rfl ?_
  refine ew_iconst (v := nI 5) d_Mo_placeOf_51 (by decide) ?_
  refine ew_iload_n d_Mo_placeOf_52 rfl ?_
  refine ew_bipush (v := nI 6) d_Mo_placeOf_53 (by decide) ?_
  refine en_isub d_Mo_placeOf_55 (by decide) ?_
  refine en_eq rfl (show _ = [.int (nI 0), .int (nI 5), .int (nI 45)] from rfl) rfl ?_
  refine en_imul d_Mo_placeOf_56 ?_
  refine en_eq rfl (show _ = [.int (nI 0), .int (nI 45)] from rfl) rfl ?_
  refine en_iadd d_Mo_placeOf_57 ?_
  refine en_eq rfl (show _ = [.int (nI 45)] from rfl) rfl ?_
  refine ew_goto (tgt := 72) d_Mo_placeOf_58 (by decide) ?_
  exact ew_iret d_Mo_placeOf_72 rfl (⟨rfl, rfl, rfl⟩)
set_option maxRecDepth 100000 in
theorem c_Mo_placeOf_0_7 (l : Launch) (g : ew_G) (d L : Nat) (M : ew_M)  :
    Ew l g d 0 0 m_Mo_placeOf 0 [.int (nI 0), .int (nI 7), .retAddr 0] [] (ew_SH L) M (ew_q (some (.int (nI 50))) (ew_SH L) M) := by
  refine ew_iconst (v := nI 5) d_Mo_placeOf_0 (by decide) ?_
  refine ew_bipush (v := nI 58) d_Mo_placeOf_1 (by decide) ?_
  refine ew_iload_n d_Mo_placeOf_3 rfl ?_
  refine en_imul d_Mo_placeOf_4 ?_
  refine en_eq rfl (show _ = [.int (nI 0), .int (nI 5)] from rfl) rfl ?_
  refine en_iadd d_Mo_placeOf_5 ?_
  refine en_eq rfl (show _ = [.int (nI 5)] from rfl) rfl ?_
  refine en_istore_n (ls' := [.int (nI 0), .int (nI 7), .int (nI 5)]) d_Mo_placeOf_6 (Nat.le_of_ble_eq_true rfl) rfl ?_
  refine ew_iload_n d_Mo_placeOf_7 rfl ?_
  refine ew_iconst (v := nI 4) d_Mo_placeOf_8 (by decide) ?_
  refine en_icmp_ge (tgt := 21) d_Mo_placeOf_9 (by decide) (by decide) (by decide) (fun h9 => ?_) (fun h9 => by exact absurd h9 (by decide))
  refine ew_iload_n d_Mo_placeOf_21 rfl ?_
  refine ew_bipush (v := nI 6) d_Mo_placeOf_22 (by decide) ?_
  refine en_icmp_ge (tgt := 41) d_Mo_placeOf_24 (by decide) (by decide) (by decide) (fun h24 => ?_) (fun h24 => by exact absurd h24 (by decide))
  refine ew_iload_n d_Mo_placeOf_41 rfl ?_
  refine ew_bipush (v := nI 8) d_Mo_placeOf_42 (by decide) ?_
  refine en_icmp_ge (tgt := 61) d_Mo_placeOf_44 (by decide) (by decide) (by decide) (fun h44 => by exact absurd h44 (by decide)) (fun h44 => ?_)
  refine ew_iload_n d_Mo_placeOf_47 rfl ?_
  refine ew_bipush (v := nI 40) d_Mo_placeOf_48 (by decide) ?_
  refine en_iadd d_Mo_placeOf_50 ?_
  refine en_eq rfl (show _ = [.int (nI 45)] from rfl) rfl ?_
  refine ew_iconst (v := nI 5) d_Mo_placeOf_51 (by decide) ?_
  refine ew_iload_n d_Mo_placeOf_52 rfl ?_
  refine ew_bipush (v := nI 6) d_Mo_placeOf_53 (by decide) ?_
  refine en_isub d_Mo_placeOf_55 (by decide) ?_
  refine en_eq rfl (show _ = [.int (nI 1), .int (nI 5), .int (nI 45)] from rfl) rfl ?_
  refine en_imul d_Mo_placeOf_56 ?_
  refine en_eq rfl (show _ = [.int (nI 5), .int (nI 45)] from rfl) rfl ?_
  refine en_iadd d_Mo_placeOf_57 ?_
  refine en_eq rfl (show _ = [.int (nI 50)] from rfl) rfl ?_
  refine ew_goto (tgt := 72) d_Mo_placeOf_58 (by decide) ?_
  exact ew_iret d_Mo_placeOf_72 rfl (⟨rfl, rfl, rfl⟩)
set_option maxRecDepth 100000 in
theorem c_Mo_placeOf_0_8 (l : Launch) (g : ew_G) (d L : Nat) (M : ew_M)  :
    Ew l g d 0 0 m_Mo_placeOf 0 [.int (nI 0), .int (nI 8), .retAddr 0] [] (ew_SH L) M (ew_q (some (.int (nI 55))) (ew_SH L) M) := by
  refine ew_iconst (v := nI 5) d_Mo_placeOf_0 (by decide) ?_
  refine ew_bipush (v := nI 58) d_Mo_placeOf_1 (by decide) ?_
  refine ew_iload_n d_Mo_placeOf_3 rfl ?_
  refine en_imul d_Mo_placeOf_4 ?_
  refine en_eq rfl (show _ = [.int (nI 0), .int (nI 5)] from rfl) rfl ?_
  refine en_iadd d_Mo_placeOf_5 ?_
  refine en_eq rfl (show _ = [.int (nI 5)] from rfl) rfl ?_
  refine en_istore_n (ls' := [.int (nI 0), .int (nI 8), .int (nI 5)]) d_Mo_placeOf_6 (Nat.le_of_ble_eq_true rfl) rfl ?_
  refine ew_iload_n d_Mo_placeOf_7 rfl ?_
  refine ew_iconst (v := nI 4) d_Mo_placeOf_8 (by decide) ?_
  refine en_icmp_ge (tgt := 21) d_Mo_placeOf_9 (by decide) (by decide) (by decide) (fun h9 => ?_) (fun h9 => by exact absurd h9 (by decide))
  refine ew_iload_n d_Mo_placeOf_21 rfl ?_
  refine ew_bipush (v := nI 6) d_Mo_placeOf_22 (by decide) ?_
  refine en_icmp_ge (tgt := 41) d_Mo_placeOf_24 (by decide) (by decide) (by decide) (fun h24 => ?_) (fun h24 => by exact absurd h24 (by decide))
  refine ew_iload_n d_Mo_placeOf_41 rfl ?_
  refine ew_bipush (v := nI 8) d_Mo_placeOf_42 (by decide) ?_
  refine en_icmp_ge (tgt := 61) d_Mo_placeOf_44 (by decide) (by decide) (by decide) (fun h44 => ?_) (fun h44 => by exact absurd h44 (by decide))
  refine ew_iload_n d_Mo_placeOf_61 rfl ?_
  refine ew_bipush (v := nI 50) d_Mo_placeOf_62 (by decide) ?_
  refine en_iadd d_Mo_placeOf_64 ?_
  refine en_eq rfl (show _ = [.int (nI 55)] from rfl) rfl ?_
  refine ew_iconst (v := nI 4) d_Mo_placeOf_65 (by decide) ?_
  refine ew_iload_n d_Mo_placeOf_66 rfl ?_
  refine ew_bipush (v := nI 8) d_Mo_placeOf_67 (by decide) ?_
  refine en_isub d_Mo_placeOf_69 (by decide) ?_
  refine en_eq rfl (show _ = [.int (nI 0), .int (nI 4), .int (nI 55)] from rfl) rfl ?_
  refine en_imul d_Mo_placeOf_70 ?_
  refine en_eq rfl (show _ = [.int (nI 0), .int (nI 55)] from rfl) rfl ?_
  refine en_iadd d_Mo_placeOf_71 ?_
  refine en_eq rfl (show _ = [.int (nI 55)] from rfl) rfl ?_
  exact ew_iret d_Mo_placeOf_72 rfl (⟨rfl, rfl, rfl⟩)
set_option maxRecDepth 100000 in
theorem c_Mo_placeOf_0_9 (l : Launch) (g : ew_G) (d L : Nat) (M : ew_M)  :
    Ew l g d 0 0 m_Mo_placeOf 0 [.int (nI 0), .int (nI 9), .retAddr 0] [] (ew_SH L) M (ew_q (some (.int (nI 59))) (ew_SH L) M) := by
  refine ew_iconst (v := nI 5) d_Mo_placeOf_0 (by decide) ?_
  refine ew_bipush (v := nI 58) d_Mo_placeOf_1 (by decide) ?_
  refine ew_iload_n d_Mo_placeOf_3 rfl ?_
  refine en_imul d_Mo_placeOf_4 ?_
  refine en_eq rfl (show _ = [.int (nI 0), .int (nI 5)] from rfl) rfl ?_
  refine en_iadd d_Mo_placeOf_5 ?_
  refine en_eq rfl (show _ = [.int (nI 5)] from rfl) rfl ?_
  refine en_istore_n (ls' := [.int (nI 0), .int (nI 9), .int (nI 5)]) d_Mo_placeOf_6 (Nat.le_of_ble_eq_true rfl) rfl ?_
  refine ew_iload_n d_Mo_placeOf_7 rfl ?_
  refine ew_iconst (v := nI 4) d_Mo_placeOf_8 (by decide) ?_
  refine en_icmp_ge (tgt := 21) d_Mo_placeOf_9 (by decide) (by decide) (by decide) (fun h9 => ?_) (fun h9 => by exact absurd h9 (by decide))
  refine ew_iload_n d_Mo_placeOf_21 rfl ?_
  refine ew_bipush (v := nI 6) d_Mo_placeOf_22 (by decide) ?_
  refine en_icmp_ge (tgt := 41) d_Mo_placeOf_24 (by decide) (by decide) (by decide) (fun h24 => ?_) (fun h24 => by exact absurd h24 (by decide))
  refine ew_iload_n d_Mo_placeOf_41 rfl ?_
  refine ew_bipush (v := nI 8) d_Mo_placeOf_42 (by decide) ?_
  refine en_icmp_ge (tgt := 61) d_Mo_placeOf_44 (by decide) (by decide) (by decide) (fun h44 => ?_) (fun h44 => by exact absurd h44 (by decide))
  refine ew_iload_n d_Mo_placeOf_61 rfl ?_
  refine ew_bipush (v := nI 50) d_Mo_placeOf_62 (by decide) ?_
  refine en_iadd d_Mo_placeOf_64 ?_
  refine en_eq rfl (show _ = [.int (nI 55)] from rfl) rfl ?_
  refine ew_iconst (v := nI 4) d_Mo_placeOf_65 (by decide) ?_
  refine ew_iload_n d_Mo_placeOf_66 rfl ?_
  refine ew_bipush (v := nI 8) d_Mo_placeOf_67 (by decide) ?_
  refine en_isub d_Mo_placeOf_69 (by decide) ?_
  refine en_eq rfl (show _ = [.int (nI 1), .int (nI 4), .int (nI 55)] from rfl) rfl ?_
  refine en_imul d_Mo_placeOf_70 ?_
  refine en_eq rfl (show _ = [.int (nI 4), .int (nI 55)] from rfl) rfl ?_
  refine en_iadd d_Mo_placeOf_71 ?_
  refine en_eq rfl (show _ = [.int (nI 59)] from rfl) rfl ?_
  exact ew_iret d_Mo_placeOf_72 rfl (⟨rfl, rfl, rfl⟩)
set_option maxRecDepth 100000 in
theorem c_Mo_placeOf_1_0 (l : Launch) (g : ew_G) (d L : Nat) (M : ew_M)  :
    Ew l g d 0 0 m_Mo_placeOf 0 [.int (nI 1), .int (nI 0), .retAddr 0] [] (ew_SH L) M (ew_q (some (.int (nI 63))) (ew_SH L) M) := by
  refine ew_iconst (v := nI 5) d_Mo_placeOf_0 (by decide) ?_
  refine ew_bipush (v := nI 58) d_Mo_placeOf_1 (by decide) ?_
  refine ew_iload_n d_Mo_placeOf_3 rfl ?_
  refine en_imul d_Mo_placeOf_4 ?_
  refine en_eq rfl (show _ = [.int (nI 58), .int (nI 5)] from rfl) rfl ?_
  refine en_iadd d_Mo_placeOf_5 ?_
  refine en_eq rfl (show _ = [.int (nI 63)] from rfl) rfl ?_
  refine en_istore_n (ls' := [.int (nI 1), .int (nI 0), .int (nI 63)]) d_Mo_placeOf_6 (Nat.le_of_ble_eq_true rfl) rfl ?_
  refine ew_iload_n d_Mo_placeOf_7 rfl ?_
  refine ew_iconst (v := nI 4) d_Mo_placeOf_8 (by decide) ?_
  refine en_icmp_ge (tgt := 21) d_Mo_placeOf_9 (by decide) (by decide) (by decide) (fun h9 => by exact absurd h9 (by decide)) (fun h9 => ?_)
  refine ew_iload_n d_Mo_placeOf_12 rfl ?_
  refine ew_bipush (v := nI 7) d_Mo_placeOf_13 (by decide) ?_
  refine ew_iload_n d_Mo_placeOf_15 rfl ?_
  refine en_imul d_Mo_placeOf_16 ?_
  refine en_eq rfl (show _ = [.int (nI 0), .int (nI 63)] from rfl) rfl ?_
  refine en_iadd d_Mo_placeOf_17 ?_
  refine en_eq rfl (show _ = [.int (nI 63)] from rfl) rfl ?_
  refine ew_goto (tgt := 72) d_Mo_placeOf_18 (by decide) ?_
  exact ew_iret d_Mo_placeOf_72 rfl (⟨rfl, rfl, rfl⟩)
set_option maxRecDepth 100000 in
theorem c_Mo_placeOf_1_1 (l : Launch) (g : ew_G) (d L : Nat) (M : ew_M)  :
    Ew l g d 0 0 m_Mo_placeOf 0 [.int (nI 1), .int (nI 1), .retAddr 0] [] (ew_SH L) M (ew_q (some (.int (nI 70))) (ew_SH L) M) := by
  refine ew_iconst (v := nI 5) d_Mo_placeOf_0 (by decide) ?_
  refine ew_bipush (v := nI 58) d_Mo_placeOf_1 (by decide) ?_
  refine ew_iload_n d_Mo_placeOf_3 rfl ?_
  refine en_imul d_Mo_placeOf_4 ?_
  refine en_eq rfl (show _ = [.int (nI 58), .int (nI 5)] from rfl) rfl ?_
  refine en_iadd d_Mo_placeOf_5 ?_
  refine en_eq rfl (show _ = [.int (nI 63)] from rfl) rfl ?_
  refine en_istore_n (ls' := [.int (nI 1), .int (nI 1), .int (nI 63)]) d_Mo_placeOf_6 (Nat.le_of_ble_eq_true rfl) rfl ?_
  refine ew_iload_n d_Mo_placeOf_7 rfl ?_
  refine ew_iconst (v := nI 4) d_Mo_placeOf_8 (by decide) ?_
  refine en_icmp_ge (tgt := 21) d_Mo_placeOf_9 (by decide) (by decide) (by decide) (fun h9 => by exact absurd h9 (by decide)) (fun h9 => ?_)
  refine ew_iload_n d_Mo_placeOf_12 rfl ?_
  refine ew_bipush (v := nI 7) d_Mo_placeOf_13 (by decide) ?_
  refine ew_iload_n d_Mo_placeOf_15 rfl ?_
  refine en_imul d_Mo_placeOf_16 ?_
  refine en_eq rfl (show _ = [.int (nI 7), .int (nI 63)] from rfl) rfl ?_
  refine en_iadd d_Mo_placeOf_17 ?_
  refine en_eq rfl (show _ = [.int (nI 70)] from rfl) rfl ?_
  refine ew_goto (tgt := 72) d_Mo_placeOf_18 (by decide) ?_
  exact ew_iret d_Mo_placeOf_72 rfl (⟨rfl, rfl, rfl⟩)
set_option maxRecDepth 100000 in
theorem c_Mo_placeOf_1_2 (l : Launch) (g : ew_G) (d L : Nat) (M : ew_M)  :
    Ew l g d 0 0 m_Mo_placeOf 0 [.int (nI 1), .int (nI 2), .retAddr 0] [] (ew_SH L) M (ew_q (some (.int (nI 77))) (ew_SH L) M) := by
  refine ew_iconst (v := nI 5) d_Mo_placeOf_0 (by decide) ?_
  refine ew_bipush (v := nI 58) d_Mo_placeOf_1 (by decide) ?_
  refine ew_iload_n d_Mo_placeOf_3 rfl ?_
  refine en_imul d_Mo_placeOf_4 ?_
  refine en_eq rfl (show _ = [.int (nI 58), .int (nI 5)] from rfl) rfl ?_
  refine en_iadd d_Mo_placeOf_5 ?_
  refine en_eq rfl (show _ = [.int (nI 63)] from rfl) rfl ?_
  refine en_istore_n (ls' := [.int (nI 1), .int (nI 2), .int (nI 63)]) d_Mo_placeOf_6 (Nat.le_of_ble_eq_true rfl) rfl ?_
  refine ew_iload_n d_Mo_placeOf_7 rfl ?_
  refine ew_iconst (v := nI 4) d_Mo_placeOf_8 (by decide) ?_
  refine en_icmp_ge (tgt := 21) d_Mo_placeOf_9 (by decide) (by decide) (by decide) (fun h9 => by exact absurd h9 (by decide)) (fun h9 => ?_)
  refine ew_iload_n d_Mo_placeOf_12 rfl ?_
  refine ew_bipush (v := nI 7) d_Mo_placeOf_13 (by decide) ?_
  refine ew_iload_n d_Mo_placeOf_15 rfl ?_
  refine en_imul d_Mo_placeOf_16 ?_
  refine en_eq rfl (show _ = [.int (nI 14), .int (nI 63)] from rfl) rfl ?_
  refine en_iadd d_Mo_placeOf_17 ?_
  refine en_eq rfl (show _ = [.int (nI 77)] from rfl) rfl ?_
  refine ew_goto (tgt := 72) d_Mo_placeOf_18 (by decide) ?_
  exact ew_iret d_Mo_placeOf_72 rfl (⟨rfl, rfl, rfl⟩)
set_option maxRecDepth 100000 in
theorem c_Mo_placeOf_1_3 (l : Launch) (g : ew_G) (d L : Nat) (M : ew_M)  :
    Ew l g d 0 0 m_Mo_placeOf 0 [.int (nI 1), .int (nI 3), .retAddr 0] [] (ew_SH L) M (ew_q (some (.int (nI 84))) (ew_SH L) M) := by
  refine ew_iconst (v := nI 5) d_Mo_placeOf_0 (by decide) ?_
  refine ew_bipush (v := nI 58) d_Mo_placeOf_1 (by decide) ?_
  refine ew_iload_n d_Mo_placeOf_3 rfl ?_
  refine en_imul d_Mo_placeOf_4 ?_
  refine en_eq rfl (show _ = [.int (nI 58), .int (nI 5)] from rfl) rfl ?_
  refine en_iadd d_Mo_placeOf_5 ?_
  refine en_eq rfl (show _ = [.int (nI 63)] from rfl) rfl ?_
  refine en_istore_n (ls' := [.int (nI 1), .int (nI 3), .int (nI 63)]) d_Mo_placeOf_6 (Nat.le_of_ble_eq_true rfl) rfl ?_
  refine ew_iload_n d_Mo_placeOf_7 rfl ?_
  refine ew_iconst (v := nI 4) d_Mo_placeOf_8 (by decide) ?_
  refine en_icmp_ge (tgt := 21) d_Mo_placeOf_9 (by decide) (by decide) (by decide) (fun h9 => by exact absurd h9 (by decide)) (fun h9 => ?_)
  refine ew_iload_n d_Mo_placeOf_12 rfl ?_
  refine ew_bipush (v := nI 7) d_Mo_placeOf_13 (by decide) ?_
  refine ew_iload_n d_Mo_placeOf_15 rfl ?_
  refine en_imul d_Mo_placeOf_16 ?_
  refine en_eq rfl (show _ = [.int (nI 21), .int (nI 63)] from rfl) rfl ?_
  refine en_iadd d_Mo_placeOf_17 ?_
  refine en_eq rfl (show _ = [.int (nI 84)] from rfl) rfl ?_
  refine ew_goto (tgt := 72) d_Mo_placeOf_18 (by decide) ?_
  exact ew_iret d_Mo_placeOf_72 rfl (⟨rfl, rfl, rfl⟩)
set_option maxRecDepth 100000 in
theorem c_Mo_placeOf_1_4 (l : Launch) (g : ew_G) (d L : Nat) (M : ew_M)  :
    Ew l g d 0 0 m_Mo_placeOf 0 [.int (nI 1), .int (nI 4), .retAddr 0] [] (ew_SH L) M (ew_q (some (.int (nI 91))) (ew_SH L) M) := by
  refine ew_iconst (v := nI 5) d_Mo_placeOf_0 (by decide) ?_
  refine ew_bipush (v := nI 58) d_Mo_placeOf_1 (by decide) ?_
  refine ew_iload_n d_Mo_placeOf_3 rfl ?_
  refine en_imul d_Mo_placeOf_4 ?_
  refine en_eq rfl (show _ = [.int (nI 58), .int (nI 5)] from rfl) rfl ?_
  refine en_iadd d_Mo_placeOf_5 ?_
  refine en_eq rfl (show _ = [.int (nI 63)] from rfl) rfl ?_
  refine en_istore_n (ls' := [.int (nI 1), .int (nI 4), .int (nI 63)]) d_Mo_placeOf_6 (Nat.le_of_ble_eq_true rfl) rfl ?_
  refine ew_iload_n d_Mo_placeOf_7 rfl ?_
  refine ew_iconst (v := nI 4) d_Mo_placeOf_8 (by decide) ?_
  refine en_icmp_ge (tgt := 21) d_Mo_placeOf_9 (by decide) (by decide) (by decide) (fun h9 => ?_) (fun h9 => by exact absurd h9 (by decide))
  refine ew_iload_n d_Mo_placeOf_21 rfl ?_
  refine ew_bipush (v := nI 6) d_Mo_placeOf_22 (by decide) ?_
  refine en_icmp_ge (tgt := 41) d_Mo_placeOf_24 (by decide) (by decide) (by decide) (fun h24 => by exact absurd h24 (by decide)) (fun h24 => ?_)
  refine ew_iload_n d_Mo_placeOf_27 rfl ?_
  refine ew_bipush (v := nI 28) d_Mo_placeOf_28 (by decide) ?_
  refine en_iadd d_Mo_placeOf_30 ?_
  refine en_eq rfl (show _ = [.int (nI 91)] from rfl) rfl ?_
  refine ew_bipush (v := nI 6) d_Mo_placeOf_31 (by decide) ?_
  refine ew_iload_n d_Mo_placeOf_33 rfl ?_
  refine ew_iconst (v := nI 4) d_Mo_placeOf_34 (by decide) ?_
  refine en_isub d_Mo_placeOf_35 (by decide) ?_
  refine en_eq rfl (show _ = [.int (nI 0), .int (nI 6), .int (nI 91)] from rfl) rfl ?_
  refine en_imul d_Mo_placeOf_36 ?_
  refine en_eq rfl (show _ = [.int (nI 0), .int (nI 91)] from rfl) rfl ?_
  refine en_iadd d_Mo_placeOf_37 ?_
  refine en_eq rfl (show _ = [.int (nI 91)] from rfl) rfl ?_
  refine ew_goto (tgt := 72) d_Mo_placeOf_38 (by decide) ?_
  exact ew_iret d_Mo_placeOf_72 rfl (⟨rfl, rfl, rfl⟩)
set_option maxRecDepth 100000 in
theorem c_Mo_placeOf_1_5 (l : Launch) (g : ew_G) (d L : Nat) (M : ew_M)  :
    Ew l g d 0 0 m_Mo_placeOf 0 [.int (nI 1), .int (nI 5), .retAddr 0] [] (ew_SH L) M (ew_q (some (.int (nI 97))) (ew_SH L) M) := by
  refine ew_iconst (v := nI 5) d_Mo_placeOf_0 (by decide) ?_
  refine ew_bipush (v := nI 58) d_Mo_placeOf_1 (by decide) ?_
  refine ew_iload_n d_Mo_placeOf_3 rfl ?_
  refine en_imul d_Mo_placeOf_4 ?_
  refine en_eq rfl (show _ = [.int (nI 58), .int (nI 5)] from rfl) rfl ?_
  refine en_iadd d_Mo_placeOf_5 ?_
  refine en_eq rfl (show _ = [.int (nI 63)] from rfl) rfl ?_
  refine en_istore_n (ls' := [.int (nI 1), .int (nI 5), .int (nI 63)]) d_Mo_placeOf_6 (Nat.le_of_ble_eq_true rfl) rfl ?_
  refine ew_iload_n d_Mo_placeOf_7 rfl ?_
  refine ew_iconst (v := nI 4) d_Mo_placeOf_8 (by decide) ?_
  refine en_icmp_ge (tgt := 21) d_Mo_placeOf_9 (by decide) (by decide) (by decide) (fun h9 => ?_) (fun h9 => by exact absurd h9 (by decide))
  refine ew_iload_n d_Mo_placeOf_21 rfl ?_
  refine ew_bipush (v := nI 6) d_Mo_placeOf_22 (by decide) ?_
  refine en_icmp_ge (tgt := 41) d_Mo_placeOf_24 (by decide) (by decide) (by decide) (fun h24 => by exact absurd h24 (by decide)) (fun h24 => ?_)
  refine ew_iload_n d_Mo_placeOf_27 rfl ?_
  refine ew_bipush (v := nI 28) d_Mo_placeOf_28 (by decide) ?_
  refine en_iadd d_Mo_placeOf_30 ?_
  refine en_eq rfl (show _ = [.int (nI 91)] from rfl) rfl ?_
  refine ew_bipush (v := nI 6) d_Mo_placeOf_31 (by decide) ?_
  refine ew_iload_n d_Mo_placeOf_33 rfl ?_
  refine ew_iconst (v := nI 4) d_Mo_placeOf_34 (by decide) ?_
  refine en_isub d_Mo_placeOf_35 (by decide) ?_
  refine en_eq rfl (show _ = [.int (nI 1), .int (nI 6), .int (nI 91)] from rfl) rfl ?_
  refine en_imul d_Mo_placeOf_36 ?_
  refine en_eq rfl (show _ = [.int (nI 6), .int (nI 91)] from rfl) rfl ?_
  refine en_iadd d_Mo_placeOf_37 ?_
  refine en_eq rfl (show _ = [.int (nI 97)] from rfl) rfl ?_
  refine ew_goto (tgt := 72) d_Mo_placeOf_38 (by decide) ?_
  exact ew_iret d_Mo_placeOf_72 rfl (⟨rfl, rfl, rfl⟩)
set_option maxRecDepth 100000 in
theorem c_Mo_placeOf_1_6 (l : Launch) (g : ew_G) (d L : Nat) (M : ew_M)  :
    Ew l g d 0 0 m_Mo_placeOf 0 [.int (nI 1), .int (nI 6), .retAddr 0] [] (ew_SH L) M (ew_q (some (.int (nI 103))) (ew_SH L) M) := by
  refine ew_iconst (v := nI 5) d_Mo_placeOf_0 (by decide) ?_
  refine ew_bipush (v := nI 58) d_Mo_placeOf_1 (by decide) ?_
  refine ew_iload_n d_Mo_placeOf_3 rfl ?_
  refine en_imul d_Mo_placeOf_4 ?_
  refine en_eq rfl (show _ = [.int (nI 58), .int (nI 5)] from rfl) rfl ?_
  refine en_iadd d_Mo_placeOf_5 ?_
  refine en_eq rfl (show _ = [.int (nI 63)] from rfl) rfl ?_
  refine en_istore_n (ls' := [.int (nI 1), .int (nI 6), .int (nI 63)]) d_Mo_placeOf_6 (Nat.le_of_ble_eq_true rfl) rfl ?_
  refine ew_iload_n d_Mo_placeOf_7 rfl ?_
  refine ew_iconst (v := nI 4) d_Mo_placeOf_8 (by decide) ?_
  refine en_icmp_ge (tgt := 21) d_Mo_placeOf_9 (by decide) (by decide) (by decide) (fun h9 => ?_) (fun h9 => by exact absurd h9 (by decide))
  refine ew_iload_n d_Mo_placeOf_21 rfl ?_
  refine ew_bipush (v := nI 6) d_Mo_placeOf_22 (by decide) ?_
  refine en_icmp_ge (tgt := 41) d_Mo_placeOf_24 (by decide) (by decide) (by decide) (fun h24 => ?_) (fun h24 => by exact absurd h24 (by decide))
  refine ew_iload_n d_Mo_placeOf_41 rfl ?_
  refine ew_bipush (v := nI 8) d_Mo_placeOf_42 (by decide) ?_
  refine en_icmp_ge (tgt := 61) d_Mo_placeOf_44 (by decide) (by decide) (by decide) (fun h44 => by exact absurd h44 (by decide)) (fun h44 => ?_)
  refine ew_iload_n d_Mo_placeOf_47 rfl ?_
  refine ew_bipush (v := nI 40) d_Mo_placeOf_48 (by decide) ?_
  refine en_iadd d_Mo_placeOf_50 ?_
  refine en_eq rfl (show _ = [.int (nI 103)] from rfl) rfl ?_
  refine ew_iconst (v := nI 5) d_Mo_placeOf_51 (by decide) ?_
  refine ew_iload_n d_Mo_placeOf_52 rfl ?_
  refine ew_bipush (v := nI 6) d_Mo_placeOf_53 (by decide) ?_
  refine en_isub d_Mo_placeOf_55 (by decide) ?_
  refine en_eq rfl (show _ = [.int (nI 0), .int (nI 5), .int (nI 103)] from rfl) rfl ?_
  refine en_imul d_Mo_placeOf_56 ?_
  refine en_eq rfl (show _ = [.int (nI 0), .int (nI 103)] from rfl) rfl ?_
  refine en_iadd d_Mo_placeOf_57 ?_
  refine en_eq rfl (show _ = [.int (nI 103)] from rfl) rfl ?_
  refine ew_goto (tgt := 72) d_Mo_placeOf_58 (by decide) ?_
  exact ew_iret d_Mo_placeOf_72 rfl (⟨rfl, rfl, rfl⟩)
set_option maxRecDepth 100000 in
theorem c_Mo_placeOf_1_7 (l : Launch) (g : ew_G) (d L : Nat) (M : ew_M)  :
    Ew l g d 0 0 m_Mo_placeOf 0 [.int (nI 1), .int (nI 7), .retAddr 0] [] (ew_SH L) M (ew_q (some (.int (nI 108))) (ew_SH L) M) := by
  refine ew_iconst (v := nI 5) d_Mo_placeOf_0 (by decide) ?_
  refine ew_bipush (v := nI 58) d_Mo_placeOf_1 (by decide) ?_
  refine ew_iload_n d_Mo_placeOf_3 rfl ?_
  refine en_imul d_Mo_placeOf_4 ?_
  refine en_eq rfl (show _ = [.int (nI 58), .int (nI 5)] from rfl) rfl ?_
  refine en_iadd d_Mo_placeOf_5 ?_
  refine en_eq rfl (show _ = [.int (nI 63)] from rfl) rfl ?_
  refine en_istore_n (ls' := [.int (nI 1), .int (nI 7), .int (nI 63)]) d_Mo_placeOf_6 (Nat.le_of_ble_eq_true rfl) rfl ?_
  refine ew_iload_n d_Mo_placeOf_7 rfl ?_
  refine ew_iconst (v := nI 4) d_Mo_placeOf_8 (by decide) ?_
  refine en_icmp_ge (tgt := 21) d_Mo_placeOf_9 (by decide) (by decide) (by decide) (fun h9 => ?_) (fun h9 => by exact absurd h9 (by decide))
  refine ew_iload_n d_Mo_placeOf_21 rfl ?_
  refine ew_bipush (v := nI 6) d_Mo_placeOf_22 (by decide) ?_
  refine en_icmp_ge (tgt := 41) d_Mo_placeOf_24 (by decide) (by decide) (by decide) (fun h24 => ?_) (fun h24 => by exact absurd h24 (by decide))
  refine ew_iload_n d_Mo_placeOf_41 rfl ?_
  refine ew_bipush (v := nI 8) d_Mo_placeOf_42 (by decide) ?_
  refine en_icmp_ge (tgt := 61) d_Mo_placeOf_44 (by decide) (by decide) (by decide) (fun h44 => by exact absurd h44 (by decide)) (fun h44 => ?_)
  refine ew_iload_n d_Mo_placeOf_47 rfl ?_
  refine ew_bipush (v := nI 40) d_Mo_placeOf_48 (by decide) ?_
  refine en_iadd d_Mo_placeOf_50 ?_
  refine en_eq rfl (show _ = [.int (nI 103)] from rfl) rfl ?_
  refine ew_iconst (v := nI 5) d_Mo_placeOf_51 (by decide) ?_
  refine ew_iload_n d_Mo_placeOf_52 rfl ?_
  refine ew_bipush (v := nI 6) d_Mo_placeOf_53 (by decide) ?_
  refine en_isub d_Mo_placeOf_55 (by decide) ?_
  refine en_eq rfl (show _ = [.int (nI 1), .int (nI 5), .int (nI 103)] from rfl) rfl ?_
  refine en_imul d_Mo_placeOf_56 ?_
  refine en_eq rfl (show _ = [.int (nI 5), .int (nI 103)] from rfl) rfl ?_
  refine en_iadd d_Mo_placeOf_57 ?_
  refine en_eq rfl (show _ = [.int (nI 108)] from rfl) rfl ?_
  refine ew_goto (tgt := 72) d_Mo_placeOf_58 (by decide) ?_
  exact ew_iret d_Mo_placeOf_72 rfl (⟨rfl, rfl, rfl⟩)
set_option maxRecDepth 100000 in
theorem c_Mo_placeOf_1_8 (l : Launch) (g : ew_G) (d L : Nat) (M : ew_M)  :
    Ew l g d 0 0 m_Mo_placeOf 0 [.int (nI 1), .int (nI 8), .retAddr 0] [] (ew_SH L) M (ew_q (some (.int (nI 113))) (ew_SH L) M) := by
  refine ew_iconst (v := nI 5) d_Mo_placeOf_0 (by decide) ?_
  refine ew_bipush (v := nI 58) d_Mo_placeOf_1 (by decide) ?_
  refine ew_iload_n d_Mo_placeOf_3 rfl ?_
  refine en_imul d_Mo_placeOf_4 ?_
  refine en_eq rfl (show _ = [.int (nI 58), .int (nI 5)] from rfl) rfl ?_
  refine en_iadd d_Mo_placeOf_5 ?_
  refine en_eq rfl (show _ = [.int (nI 63)] from rfl) rfl ?_
  refine en_istore_n (ls' := [.int (nI 1), .int (nI 8), .int (nI 63)]) d_Mo_placeOf_6 (Nat.le_of_ble_eq_true rfl) rfl ?_
  refine ew_iload_n d_Mo_placeOf_7 rfl ?_
  refine ew_iconst (v := nI 4) d_Mo_placeOf_8 (by decide) ?_
  refine en_icmp_ge (tgt := 21) d_Mo_placeOf_9 (by decide) (by decide) (by decide) (fun h9 => ?_) (fun h9 => by exact absurd h9 (by decide))
  refine ew_iload_n d_Mo_placeOf_21 rfl ?_
  refine ew_bipush (v := nI 6) d_Mo_placeOf_22 (by decide) ?_
  refine en_icmp_ge (tgt := 41) d_Mo_placeOf_24 (by decide) (by decide) (by decide) (fun h24 => ?_) (fun h24 => by exact absurd h24 (by decide))
  refine ew_iload_n d_Mo_placeOf_41 rfl ?_
  refine ew_bipush (v := nI 8) d_Mo_placeOf_42 (by decide) ?_
  refine en_icmp_ge (tgt := 61) d_Mo_placeOf_44 (by decide) (by decide) (by decide) (fun h44 => ?_) (fun h44 => by exact absurd h44 (by decide))
  refine ew_iload_n d_Mo_placeOf_61 rfl ?_
  refine ew_bipush (v := nI 50) d_Mo_placeOf_62 (by decide) ?_
  refine en_iadd d_Mo_placeOf_64 ?_
  refine en_eq rfl (show _ = [.int (nI 113)] from rfl) rfl ?_
  refine ew_iconst (v := nI 4) d_Mo_placeOf_65 (by decide) ?_
  refine ew_iload_n d_Mo_placeOf_66 rfl ?_
  refine ew_bipush (v := nI 8) d_Mo_placeOf_67 (by decide) ?_
  refine en_isub d_Mo_placeOf_69 (by decide) ?_
  refine en_eq rfl (show _ = [.int (nI 0), .int (nI 4), .int (nI 113)] from rfl) rfl ?_
  refine en_imul d_Mo_placeOf_70 ?_
  refine en_eq rfl (show _ = [.int (nI 0), .int (nI 113)] from rfl) rfl ?_
  refine en_iadd d_Mo_placeOf_71 ?_
  refine en_eq rfl (show _ = [.int (nI 113)] from rfl) rfl ?_
  exact ew_iret d_Mo_placeOf_72 rfl (⟨rfl, rfl, rfl⟩)
set_option maxRecDepth 100000 in
theorem c_Mo_placeOf_1_9 (l : Launch) (g : ew_G) (d L : Nat) (M : ew_M)  :
    Ew l g d 0 0 m_Mo_placeOf 0 [.int (nI 1), .int (nI 9), .retAddr 0] [] (ew_SH L) M (ew_q (some (.int (nI 117))) (ew_SH L) M) := by
  refine ew_iconst (v := nI 5) d_Mo_placeOf_0 (by decide) ?_
  refine ew_bipush (v := nI 58) d_Mo_placeOf_1 (by decide) ?_
  refine ew_iload_n d_Mo_placeOf_3 rfl ?_
  refine en_imul d_Mo_placeOf_4 ?_
  refine en_eq rfl (show _ = [.int (nI 58), .int (nI 5)] from rfl) rfl ?_
  refine en_iadd d_Mo_placeOf_5 ?_
  refine en_eq rfl (show _ = [.int (nI 63)] from rfl) rfl ?_
  refine en_istore_n (ls' := [.int (nI 1), .int (nI 9), .int (nI 63)]) d_Mo_placeOf_6 (Nat.le_of_ble_eq_true rfl) rfl ?_
  refine ew_iload_n d_Mo_placeOf_7 rfl ?_
  refine ew_iconst (v := nI 4) d_Mo_placeOf_8 (by decide) ?_
  refine en_icmp_ge (tgt := 21) d_Mo_placeOf_9 (by decide) (by decide) (by decide) (fun h9 => ?_) (fun h9 => by exact absurd h9 (by decide))
  refine ew_iload_n d_Mo_placeOf_21 rfl ?_
  refine ew_bipush (v := nI 6) d_Mo_placeOf_22 (by decide) ?_
  refine en_icmp_ge (tgt := 41) d_Mo_placeOf_24 (by decide) (by decide) (by decide) (fun h24 => ?_) (fun h24 => by exact absurd h24 (by decide))
  refine ew_iload_n d_Mo_placeOf_41 rfl ?_
  refine ew_bipush (v := nI 8) d_Mo_placeOf_42 (by decide) ?_
  refine en_icmp_ge (tgt := 61) d_Mo_placeOf_44 (by decide) (by decide) (by decide) (fun h44 => ?_) (fun h44 => by exact absurd h44 (by decide))
  refine ew_iload_n d_Mo_placeOf_61 rfl ?_
  refine ew_bipush (v := nI 50) d_Mo_placeOf_62 (by decide) ?_
  refine en_iadd d_Mo_placeOf_64 ?_
  refine en_eq rfl (show _ = [.int (nI 113)] from rfl) rfl ?_
  refine ew_iconst (v := nI 4) d_Mo_placeOf_65 (by decide) ?_
  refine ew_iload_n d_Mo_placeOf_66 rfl ?_
  refine ew_bipush (v := nI 8) d_Mo_placeOf_67 (by decide) ?_
  refine en_isub d_Mo_placeOf_69 (by decide) ?_
  refine en_eq rfl (show _ = [.int (nI 1), .int (nI 4), .int (nI 113)] from rfl) rfl ?_
  refine en_imul d_Mo_placeOf_70 ?_
  refine en_eq rfl (show _ = [.int (nI 4), .int (nI 113)] from rfl) rfl ?_
  refine en_iadd d_Mo_placeOf_71 ?_
  refine en_eq rfl (show _ = [.int (nI 117)] from rfl) rfl ?_
  exact ew_iret d_Mo_placeOf_72 rfl (⟨rfl, rfl, rfl⟩)
set_option maxRecDepth 100000 in
theorem c_Mo_placeOf_2_0 (l : Launch) (g : ew_G) (d L : Nat) (M : ew_M)  :
    Ew l g d 0 0 m_Mo_placeOf 0 [.int (nI 2), .int (nI 0), .retAddr 0] [] (ew_SH L) M (ew_q (some (.int (nI 121))) (ew_SH L) M) := by
  refine ew_iconst (v := nI 5) d_Mo_placeOf_0 (by decide) ?_
  refine ew_bipush (v := nI 58) d_Mo_placeOf_1 (by decide) ?_
  refine ew_iload_n d_Mo_placeOf_3 rfl ?_
  refine en_imul d_Mo_placeOf_4 ?_
  refine en_eq rfl (show _ = [.int (nI 116), .int (nI 5)] from rfl) rfl ?_
  refine en_iadd d_Mo_placeOf_5 ?_
  refine en_eq rfl (show _ = [.int (nI 121)] from rfl) rfl ?_
  refine en_istore_n (ls' := [.int (nI 2), .int (nI 0), .int (nI 121)]) d_Mo_placeOf_6 (Nat.le_of_ble_eq_true rfl) rfl ?_
  refine ew_iload_n d_Mo_placeOf_7 rfl ?_
  refine ew_iconst (v := nI 4) d_Mo_placeOf_8 (by decide) ?_
  refine en_icmp_ge (tgt := 21) d_Mo_placeOf_9 (by decide) (by decide) (by decide) (fun h9 => by exact absurd h9 (by decide)) (fun h9 => ?_)
  refine ew_iload_n d_Mo_placeOf_12 rfl ?_
  refine ew_bipush (v := nI 7) d_Mo_placeOf_13 (by decide) ?_
  refine ew_iload_n d_Mo_placeOf_15 rfl ?_
  refine en_imul d_Mo_placeOf_16 ?_
  refine en_eq rfl (show _ = [.int (nI 0), .int (nI 121)] from rfl) rfl ?_
  refine en_iadd d_Mo_placeOf_17 ?_
  refine en_eq rfl (show _ = [.int (nI 121)] from rfl) rfl ?_
  refine ew_goto (tgt := 72) d_Mo_placeOf_18 (by decide) ?_
  exact ew_iret d_Mo_placeOf_72 rfl (⟨rfl, rfl, rfl⟩)
set_option maxRecDepth 100000 in
theorem c_Mo_placeOf_2_1 (l : Launch) (g : ew_G) (d L : Nat) (M : ew_M)  :
    Ew l g d 0 0 m_Mo_placeOf 0 [.int (nI 2), .int (nI 1), .retAddr 0] [] (ew_SH L) M (ew_q (some (.int (nI 128))) (ew_SH L) M) := by
  refine ew_iconst (v := nI 5) d_Mo_placeOf_0 (by decide) ?_
  refine ew_bipush (v := nI 58) d_Mo_placeOf_1 (by decide) ?_
  refine ew_iload_n d_Mo_placeOf_3 rfl ?_
  refine en_imul d_Mo_placeOf_4 ?_
  refine en_eq rfl (show _ = [.int (nI 116), .int (nI 5)] from rfl) rfl ?_
  refine en_iadd d_Mo_placeOf_5 ?_
  refine en_eq rfl (show _ = [.int (nI 121)] from rfl) rfl ?_
  refine en_istore_n (ls' := [.int (nI 2), .int (nI 1), .int (nI 121)]) d_Mo_placeOf_6 (Nat.le_of_ble_eq_true rfl) rfl ?_
  refine ew_iload_n d_Mo_placeOf_7 rfl ?_
  refine ew_iconst (v := nI 4) d_Mo_placeOf_8 (by decide) ?_
  refine en_icmp_ge (tgt := 21) d_Mo_placeOf_9 (by decide) (by decide) (by decide) (fun h9 => by exact absurd h9 (by decide)) (fun h9 => ?_)
  refine ew_iload_n d_Mo_placeOf_12 rfl ?_
  refine ew_bipush (v := nI 7) d_Mo_placeOf_13 (by decide) ?_
  refine ew_iload_n d_Mo_placeOf_15 rfl ?_
  refine en_imul d_Mo_placeOf_16 ?_
  refine en_eq rfl (show _ = [.int (nI 7), .int (nI 121)] from rfl) rfl ?_
  refine en_iadd d_Mo_placeOf_17 ?_
  refine en_eq rfl (show _ = [.int (nI 128)] from rfl) rfl ?_
  refine ew_goto (tgt := 72) d_Mo_placeOf_18 (by decide) ?_
  exact ew_iret d_Mo_placeOf_72 rfl (⟨rfl, rfl, rfl⟩)
set_option maxRecDepth 100000 in
theorem c_Mo_placeOf_2_2 (l : Launch) (g : ew_G) (d L : Nat) (M : ew_M)  :
    Ew l g d 0 0 m_Mo_placeOf 0 [.int (nI 2), .int (nI 2), .retAddr 0] [] (ew_SH L) M (ew_q (some (.int (nI 135))) (ew_SH L) M) := by
  refine ew_iconst (v := nI 5) d_Mo_placeOf_0 (by decide) ?_
  refine ew_bipush (v := nI 58) d_Mo_placeOf_1 (by decide) ?_
  refine ew_iload_n d_Mo_placeOf_3 rfl ?_
  refine en_imul d_Mo_placeOf_4 ?_
  refine en_eq rfl (show _ = [.int (nI 116), .int (nI 5)] from rfl) rfl ?_
  refine en_iadd d_Mo_placeOf_5 ?_
  refine en_eq rfl (show _ = [.int (nI 121)] from rfl) rfl ?_
  refine en_istore_n (ls' := [.int (nI 2), .int (nI 2), .int (nI 121)]) d_Mo_placeOf_6 (Nat.le_of_ble_eq_true rfl) rfl ?_
  refine ew_iload_n d_Mo_placeOf_7 rfl ?_
  refine ew_iconst (v := nI 4) d_Mo_placeOf_8 (by decide) ?_
  refine en_icmp_ge (tgt := 21) d_Mo_placeOf_9 (by decide) (by decide) (by decide) (fun h9 => by exact absurd h9 (by decide)) (fun h9 => ?_)
  refine ew_iload_n d_Mo_placeOf_12 rfl ?_
  refine ew_bipush (v := nI 7) d_Mo_placeOf_13 (by decide) ?_
  refine ew_iload_n d_Mo_placeOf_15 rfl ?_
  refine en_imul d_Mo_placeOf_16 ?_
  refine en_eq rfl (show _ = [.int (nI 14), .int (nI 121)] from rfl) rfl ?_
  refine en_iadd d_Mo_placeOf_17 ?_
  refine en_eq rfl (show _ = [.int (nI 135)] from rfl) rfl ?_
  refine ew_goto (tgt := 72) d_Mo_placeOf_18 (by decide) ?_
  exact ew_iret d_Mo_placeOf_72 rfl (⟨rfl, rfl, rfl⟩)
set_option maxRecDepth 100000 in
theorem c_Mo_placeOf_2_3 (l : Launch) (g : ew_G) (d L : Nat) (M : ew_M)  :
    Ew l g d 0 0 m_Mo_placeOf 0 [.int (nI 2), .int (nI 3), .retAddr 0] [] (ew_SH L) M (ew_q (some (.int (nI 142))) (ew_SH L) M) := by
  refine ew_iconst (v := nI 5) d_Mo_placeOf_0 (by decide) ?_
  refine ew_bipush (v := nI 58) d_Mo_placeOf_1 (by decide) ?_
  refine ew_iload_n d_Mo_placeOf_3 rfl ?_
  refine en_imul d_Mo_placeOf_4 ?_
  refine en_eq rfl (show _ = [.int (nI 116), .int (nI 5)] from rfl) rfl ?_
  refine en_iadd d_Mo_placeOf_5 ?_
  refine en_eq rfl (show _ = [.int (nI 121)] from rfl) rfl ?_
  refine en_istore_n (ls' := [.int (nI 2), .int (nI 3), .int (nI 121)]) d_Mo_placeOf_6 (Nat.le_of_ble_eq_true rfl) rfl ?_
  refine ew_iload_n d_Mo_placeOf_7 rfl ?_
  refine ew_iconst (v := nI 4) d_Mo_placeOf_8 (by decide) ?_
  refine en_icmp_ge (tgt := 21) d_Mo_placeOf_9 (by decide) (by decide) (by decide) (fun h9 => by exact absurd h9 (by decide)) (fun h9 => ?_)
  refine ew_iload_n d_Mo_placeOf_12 rfl ?_
  refine ew_bipush (v := nI 7) d_Mo_placeOf_13 (by decide) ?_
  refine ew_iload_n d_Mo_placeOf_15 rfl ?_
  refine en_imul d_Mo_placeOf_16 ?_
  refine en_eq rfl (show _ = [.int (nI 21), .int (nI 121)] from rfl) rfl ?_
  refine en_iadd d_Mo_placeOf_17 ?_
  refine en_eq rfl (show _ = [.int (nI 142)] from rfl) rfl ?_
  refine ew_goto (tgt := 72) d_Mo_placeOf_18 (by decide) ?_
  exact ew_iret d_Mo_placeOf_72 rfl (⟨rfl, rfl, rfl⟩)
set_option maxRecDepth 100000 in
theorem c_Mo_placeOf_2_4 (l : Launch) (g : ew_G) (d L : Nat) (M : ew_M)  :
    Ew l g d 0 0 m_Mo_placeOf 0 [.int (nI 2), .int (nI 4), .retAddr 0] [] (ew_SH L) M (ew_q (some (.int (nI 149))) (ew_SH L) M) := by
  refine ew_iconst (v := nI 5) d_Mo_placeOf_0 (by decide) ?_
  refine ew_bipush (v := nI 58) d_Mo_placeOf_1 (by decide) ?_
  refine ew_iload_n d_Mo_placeOf_3 rfl ?_
  refine en_imul d_Mo_placeOf_4 ?_
  refine en_eq rfl (show _ = [.int (nI 116), .int (nI 5)] from rfl) rfl ?_
  refine en_iadd d_Mo_placeOf_5 ?_
  refine en_eq rfl (show _ = [.int (nI 121)] from rfl) rfl ?_
  refine en_istore_n (ls' := [.int (nI 2), .int (nI 4), .int (nI 121)]) d_Mo_placeOf_6 (Nat.le_of_ble_eq_true rfl) rfl ?_
  refine ew_iload_n d_Mo_placeOf_7 rfl ?_
  refine ew_iconst (v := nI 4) d_Mo_placeOf_8 (by decide) ?_
  refine en_icmp_ge (tgt := 21) d_Mo_placeOf_9 (by decide) (by decide) (by decide) (fun h9 => ?_) (fun h9 => by exact absurd h9 (by decide))
  refine ew_iload_n d_Mo_placeOf_21 rfl ?_
  refine ew_bipush (v := nI 6) d_Mo_placeOf_22 (by decide) ?_
  refine en_icmp_ge (tgt := 41) d_Mo_placeOf_24 (by decide) (by decide) (by decide) (fun h24 => by exact absurd h24 (by decide)) (fun h24 => ?_)
  refine ew_iload_n d_Mo_placeOf_27 rfl ?_
  refine ew_bipush (v := nI 28) d_Mo_placeOf_28 (by decide) ?_
  refine en_iadd d_Mo_placeOf_30 ?_
  refine en_eq rfl (show _ = [.int (nI 149)] from rfl) rfl ?_
  refine ew_bipush (v := nI 6) d_Mo_placeOf_31 (by decide) ?_
  refine ew_iload_n d_Mo_placeOf_33 rfl ?_
  refine ew_iconst (v := nI 4) d_Mo_placeOf_34 (by decide) ?_
  refine en_isub d_Mo_placeOf_35 (by decide) ?_
  refine en_eq rfl (show _ = [.int (nI 0), .int (nI 6), .int (nI 149)] from rfl) rfl ?_
  refine en_imul d_Mo_placeOf_36 ?_
  refine en_eq rfl (show _ = [.int (nI 0), .int (nI 149)] from rfl) rfl ?_
  refine en_iadd d_Mo_placeOf_37 ?_
  refine en_eq rfl (show _ = [.int (nI 149)] from rfl) rfl ?_
  refine ew_goto (tgt := 72) d_Mo_placeOf_38 (by decide) ?_
  exact ew_iret d_Mo_placeOf_72 rfl (⟨rfl, rfl, rfl⟩)
set_option maxRecDepth 100000 in
theorem c_Mo_placeOf_2_5 (l : Launch) (g : ew_G) (d L : Nat) (M : ew_M)  :
    Ew l g d 0 0 m_Mo_placeOf 0 [.int (nI 2), .int (nI 5), .retAddr 0] [] (ew_SH L) M (ew_q (some (.int (nI 155))) (ew_SH L) M) := by
  refine ew_iconst (v := nI 5) d_Mo_placeOf_0 (by decide) ?_
  refine ew_bipush (v := nI 58) d_Mo_placeOf_1 (by decide) ?_
  refine ew_iload_n d_Mo_placeOf_3 rfl ?_
  refine en_imul d_Mo_placeOf_4 ?_
  refine en_eq rfl (show _ = [.int (nI 116), .int (nI 5)] from rfl) rfl ?_
  refine en_iadd d_Mo_placeOf_5 ?_
  refine en_eq rfl (show _ = [.int (nI 121)] from rfl) rfl ?_
  refine en_istore_n (ls' := [.int (nI 2), .int (nI 5), .int (nI 121)]) d_Mo_placeOf_6 (Nat.le_of_ble_eq_true rfl) rfl ?_
  refine ew_iload_n d_Mo_placeOf_7 rfl ?_
  refine ew_iconst (v := nI 4) d_Mo_placeOf_8 (by decide) ?_
  refine en_icmp_ge (tgt := 21) d_Mo_placeOf_9 (by decide) (by decide) (by decide) (fun h9 => ?_) (fun h9 => by exact absurd h9 (by decide))
  refine ew_iload_n d_Mo_placeOf_21 rfl ?_
  refine ew_bipush (v := nI 6) d_Mo_placeOf_22 (by decide) ?_
  refine en_icmp_ge (tgt := 41) d_Mo_placeOf_24 (by decide) (by decide) (by decide) (fun h24 => by exact absurd h24 (by decide)) (fun h24 => ?_)
  refine ew_iload_n d_Mo_placeOf_27 rfl ?_
  refine ew_bipush (v := nI 28) d_Mo_placeOf_28 (by decide) ?_
  refine en_iadd d_Mo_placeOf_30 ?_
  refine en_eq rfl (show _ = [.int (nI 149)] from rfl) rfl ?_
  refine ew_bipush (v := nI 6) d_Mo_placeOf_31 (by decide) ?_
  refine ew_iload_n d_Mo_placeOf_33 rfl ?_
  refine ew_iconst (v := nI 4) d_Mo_placeOf_34 (by decide) ?_
  refine en_isub d_Mo_placeOf_35 (by decide) ?_
  refine en_eq rfl (show _ = [.int (nI 1), .int (nI 6), .int (nI 149)] from rfl) rfl ?_
  refine en_imul d_Mo_placeOf_36 ?_
  refine en_eq rfl (show _ = [.int (nI 6), .int (nI 149)] from rfl) rfl ?_
  refine en_iadd d_Mo_placeOf_37 ?_
  refine en_eq rfl (show _ = [.int (nI 155)] from rfl) rfl ?_
  refine ew_goto (tgt := 72) d_Mo_placeOf_38 (by decide) ?_
  exact ew_iret d_Mo_placeOf_72 rfl (⟨rfl, rfl, rfl⟩)
set_option maxRecDepth 100000 in
theorem c_Mo_placeOf_2_6 (l : Launch) (g : ew_G) (d L : Nat) (M : ew_M)  :
    Ew l g d 0 0 m_Mo_placeOf 0 [.int (nI 2), .int (nI 6), .retAddr 0] [] (ew_SH L) M (ew_q (some (.int (nI 161))) (ew_SH L) M) := by
  refine ew_iconst (v := nI 5) d_Mo_placeOf_0 (by decide) ?_
  refine ew_bipush (v := nI 58) d_Mo_placeOf_1 (by decide) ?_
  refine ew_iload_n d_Mo_placeOf_3 rfl ?_
  refine en_imul d_Mo_placeOf_4 ?_
  refine en_eq rfl (show _ = [.int (nI 116), .int (nI 5)] from rfl) rfl ?_
  refine en_iadd d_Mo_placeOf_5 ?_
  refine en_eq rfl (show _ = [.int (nI 121)] from rfl) rfl ?_
  refine en_istore_n (ls' := [.int (nI 2), .int (nI 6), .int (nI 121)]) d_Mo_placeOf_6 (Nat.le_of_ble_eq_true rfl) rfl ?_
  refine ew_iload_n d_Mo_placeOf_7 rfl ?_
  refine ew_iconst (v := nI 4) d_Mo_placeOf_8 (by decide) ?_
  refine en_icmp_ge (tgt := 21) d_Mo_placeOf_9 (by decide) (by decide) (by decide) (fun h9 => ?_) (fun h9 => by exact absurd h9 (by decide))
  refine ew_iload_n d_Mo_placeOf_21 rfl ?_
  refine ew_bipush (v := nI 6) d_Mo_placeOf_22 (by decide) ?_
  refine en_icmp_ge (tgt := 41) d_Mo_placeOf_24 (by decide) (by decide) (by decide) (fun h24 => ?_) (fun h24 => by exact absurd h24 (by decide))
  refine ew_iload_n d_Mo_placeOf_41 rfl ?_
  refine ew_bipush (v := nI 8) d_Mo_placeOf_42 (by decide) ?_
  refine en_icmp_ge (tgt := 61) d_Mo_placeOf_44 (by decide) (by decide) (by decide) (fun h44 => by exact absurd h44 (by decide)) (fun h44 => ?_)
  refine ew_iload_n d_Mo_placeOf_47 rfl ?_
  refine ew_bipush (v := nI 40) d_Mo_placeOf_48 (by decide) ?_
  refine en_iadd d_Mo_placeOf_50 ?_
  refine en_eq rfl (show _ = [.int (nI 161)] from rfl) rfl ?_
  refine ew_iconst (v := nI 5) d_Mo_placeOf_51 (by decide) ?_
  refine ew_iload_n d_Mo_placeOf_52 rfl ?_
  refine ew_bipush (v := nI 6) d_Mo_placeOf_53 (by decide) ?_
  refine en_isub d_Mo_placeOf_55 (by decide) ?_
  refine en_eq rfl (show _ = [.int (nI 0), .int (nI 5), .int (nI 161)] from rfl) rfl ?_
  refine en_imul d_Mo_placeOf_56 ?_
  refine en_eq rfl (show _ = [.int (nI 0), .int (nI 161)] from rfl) rfl ?_
  refine en_iadd d_Mo_placeOf_57 ?_
  refine en_eq rfl (show _ = [.int (nI 161)] from rfl) rfl ?_
  refine ew_goto (tgt := 72) d_Mo_placeOf_58 (by decide) ?_
  exact ew_iret d_Mo_placeOf_72 rfl (⟨rfl, rfl, rfl⟩)
set_option maxRecDepth 100000 in
theorem c_Mo_placeOf_2_7 (l : Launch) (g : ew_G) (d L : Nat) (M : ew_M)  :
    Ew l g d 0 0 m_Mo_placeOf 0 [.int (nI 2), .int (nI 7), .retAddr 0] [] (ew_SH L) M (ew_q (some (.int (nI 166))) (ew_SH L) M) := by
  refine ew_iconst (v := nI 5) d_Mo_placeOf_0 (by decide) ?_
  refine ew_bipush (v := nI 58) d_Mo_placeOf_1 (by decide) ?_
  refine ew_iload_n d_Mo_placeOf_3 rfl ?_
  refine en_imul d_Mo_placeOf_4 ?_
  refine en_eq rfl (show _ = [.int (nI 116), .int (nI 5)] from rfl) rfl ?_
  refine en_iadd d_Mo_placeOf_5 ?_
  refine en_eq rfl (show _ = [.int (nI 121)] from rfl) rfl ?_
  refine en_istore_n (ls' := [.int (nI 2), .int (nI 7), .int (nI 121)]) d_Mo_placeOf_6 (Nat.le_of_ble_eq_true rfl) rfl ?_
  refine ew_iload_n d_Mo_placeOf_7 rfl ?_
  refine ew_iconst (v := nI 4) d_Mo_placeOf_8 (by decide) ?_
  refine en_icmp_ge (tgt := 21) d_Mo_placeOf_9 (by decide) (by decide) (by decide) (fun h9 => ?_) (fun h9 => by exact absurd h9 (by decide))
  refine ew_iload_n d_Mo_placeOf_21 rfl ?_
  refine ew_bipush (v := nI 6) d_Mo_placeOf_22 (by decide) ?_
  refine en_icmp_ge (tgt := 41) d_Mo_placeOf_24 (by decide) (by decide) (by decide) (fun h24 => ?_) (fun h24 => by exact absurd h24 (by decide))
  refine ew_iload_n d_Mo_placeOf_41 rfl ?_
  refine ew_bipush (v := nI 8) d_Mo_placeOf_42 (by decide) ?_
  refine en_icmp_ge (tgt := 61) d_Mo_placeOf_44 (by decide) (by decide) (by decide) (fun h44 => by exact absurd h44 (by decide)) (fun h44 => ?_)
  refine ew_iload_n d_Mo_placeOf_47 rfl ?_
  refine ew_bipush (v := nI 40) d_Mo_placeOf_48 (by decide) ?_
  refine en_iadd d_Mo_placeOf_50 ?_
  refine en_eq rfl (show _ = [.int (nI 161)] from rfl) rfl ?_
  refine ew_iconst (v := nI 5) d_Mo_placeOf_51 (by decide) ?_
  refine ew_iload_n d_Mo_placeOf_52 rfl ?_
  refine ew_bipush (v := nI 6) d_Mo_placeOf_53 (by decide) ?_
  refine en_isub d_Mo_placeOf_55 (by decide) ?_
  refine en_eq rfl (show _ = [.int (nI 1), .int (nI 5), .int (nI 161)] from rfl) rfl ?_
  refine en_imul d_Mo_placeOf_56 ?_
  refine en_eq rfl (show _ = [.int (nI 5), .int (nI 161)] from rfl) rfl ?_
  refine en_iadd d_Mo_placeOf_57 ?_
  refine en_eq rfl (show _ = [.int (nI 166)] from rfl) rfl ?_
  refine ew_goto (tgt := 72) d_Mo_placeOf_58 (by decide) ?_
  exact ew_iret d_Mo_placeOf_72 rfl (⟨rfl, rfl, rfl⟩)
set_option maxRecDepth 100000 in
theorem c_Mo_placeOf_2_8 (l : Launch) (g : ew_G) (d L : Nat) (M : ew_M)  :
    Ew l g d 0 0 m_Mo_placeOf 0 [.int (nI 2), .int (nI 8), .retAddr 0] [] (ew_SH L) M (ew_q (some (.int (nI 171))) (ew_SH L) M) := by
  refine ew_iconst (v := nI 5) d_Mo_placeOf_0 (by decide) ?_
  refine ew_bipush (v := nI 58) d_Mo_placeOf_1 (by decide) ?_
  refine ew_iload_n d_Mo_placeOf_3 rfl ?_
  refine en_imul d_Mo_placeOf_4 ?_
  refine en_eq rfl (show _ = [.int (nI 116), .int (nI 5)] from rfl) rfl ?_
  refine en_iadd d_Mo_placeOf_5 ?_
  refine en_eq rfl (show _ = [.int (nI 121)] from rfl) rfl ?_
  refine en_istore_n (ls' := [.int (nI 2), .int (nI 8), .int (nI 121)]) d_Mo_placeOf_6 (Nat.le_of_ble_eq_true rfl) rfl ?_
  refine ew_iload_n d_Mo_placeOf_7 rfl ?_
  refine ew_iconst (v := nI 4) d_Mo_placeOf_8 (by decide) ?_
  refine en_icmp_ge (tgt := 21) d_Mo_placeOf_9 (by decide) (by decide) (by decide) (fun h9 => ?_) (fun h9 => by exact absurd h9 (by decide))
  refine ew_iload_n d_Mo_placeOf_21 rfl ?_
  refine ew_bipush (v := nI 6) d_Mo_placeOf_22 (by decide) ?_
  refine en_icmp_ge (tgt := 41) d_Mo_placeOf_24 (by decide) (by decide) (by decide) (fun h24 => ?_) (fun h24 => by exact absurd h24 (by decide))
  refine ew_iload_n d_Mo_placeOf_41 rfl ?_
  refine ew_bipush (v := nI 8) d_Mo_placeOf_42 (by decide) ?_
  refine en_icmp_ge (tgt := 61) d_Mo_placeOf_44 (by decide) (by decide) (by decide) (fun h44 => ?_) (fun h44 => by exact absurd h44 (by decide))
  refine ew_iload_n d_Mo_placeOf_61 rfl ?_
  refine ew_bipush (v := nI 50) d_Mo_placeOf_62 (by decide) ?_
  refine en_iadd d_Mo_placeOf_64 ?_
  refine en_eq rfl (show _ = [.int (nI 171)] from rfl) rfl ?_
  refine ew_iconst (v := nI 4) d_Mo_placeOf_65 (by decide) ?_
  refine ew_iload_n d_Mo_placeOf_66 rfl ?_
  refine ew_bipush (v := nI 8) d_Mo_placeOf_67 (by decide) ?_
  refine en_isub d_Mo_placeOf_69 (by decide) ?_
  refine en_eq rfl (show _ = [.int (nI 0), .int (nI 4), .int (nI 171)] from rfl) rfl ?_
  refine en_imul d_Mo_placeOf_70 ?_
  refine en_eq rfl (show _ = [.int (nI 0), .int (nI 171)] from rfl) rfl ?_
  refine en_iadd d_Mo_placeOf_71 ?_
  refine en_eq rfl (show _ = [.int (nI 171)] from rfl) rfl ?_
  exact ew_iret d_Mo_placeOf_72 rfl (⟨rfl, rfl, rfl⟩)
set_option maxRecDepth 100000 in
theorem c_Mo_placeOf_2_9 (l : Launch) (g : ew_G) (d L : Nat) (M : ew_M)  :
    Ew l g d 0 0 m_Mo_placeOf 0 [.int (nI 2), .int (nI 9), .retAddr 0] [] (ew_SH L) M (ew_q (some (.int (nI 175))) (ew_SH L) M) := by
  refine ew_iconst (v := nI 5) d_Mo_placeOf_0 (by decide) ?_
  refine ew_bipush (v := nI 58) d_Mo_placeOf_1 (by decide) ?_
  refine ew_iload_n d_Mo_placeOf_3 rfl ?_
  refine en_imul d_Mo_placeOf_4 ?_
  refine en_eq rfl (show _ = [.int (nI 116), .int (nI 5)] from rfl) rfl ?_
  refine en_iadd d_Mo_placeOf_5 ?_
  refine en_eq rfl (show _ = [.int (nI 121)] from rfl) rfl ?_
  refine en_istore_n (ls' := [.int (nI 2), .int (nI 9), .int (nI 121)]) d_Mo_placeOf_6 (Nat.le_of_ble_eq_true rfl) rfl ?_
  refine ew_iload_n d_Mo_placeOf_7 rfl ?_
  refine ew_iconst (v := nI 4) d_Mo_placeOf_8 (by decide) ?_
  refine en_icmp_ge (tgt := 21) d_Mo_placeOf_9 (by decide) (by decide) (by decide) (fun h9 => ?_) (fun h9 => by exact absurd h9 (by decide))
  refine ew_iload_n d_Mo_placeOf_21 rfl ?_
  refine ew_bipush (v := nI 6) d_Mo_placeOf_22 (by decide) ?_
  refine en_icmp_ge (tgt := 41) d_Mo_placeOf_24 (by decide) (by decide) (by decide) (fun h24 => ?_) (fun h24 => by exact absurd h24 (by decide))
  refine ew_iload_n d_Mo_placeOf_41 rfl ?_
  refine ew_bipush (v := nI 8) d_Mo_placeOf_42 (by decide) ?_
  refine en_icmp_ge (tgt := 61) d_Mo_placeOf_44 (by decide) (by decide) (by decide) (fun h44 => ?_) (fun h44 => by exact absurd h44 (by decide))
  refine ew_iload_n d_Mo_placeOf_61 rfl ?_
  refine ew_bipush (v := nI 50) d_Mo_placeOf_62 (by decide) ?_
  refine en_iadd d_Mo_placeOf_64 ?_
  refine en_eq rfl (show _ = [.int (nI 171)] from rfl) rfl ?_
  refine ew_iconst (v := nI 4) d_Mo_placeOf_65 (by decide) ?_
  refine ew_iload_n d_Mo_placeOf_66 rfl ?_
  refine ew_bipush (v := nI 8) d_Mo_placeOf_67 (by decide) ?_
  refine en_isub d_Mo_placeOf_69 (by decide) ?_
  refine en_eq rfl (show _ = [.int (nI 1), .int (nI 4), .int (nI 171)] from rfl) rfl ?_
  refine en_imul d_Mo_placeOf_70 ?_
  refine en_eq rfl (show _ = [.int (nI 4), .int (nI 171)] from rfl) rfl ?_
  refine en_iadd d_Mo_placeOf_71 ?_
  refine en_eq rfl (show _ = [.int (nI 175)] from rfl) rfl ?_
  exact ew_iret d_Mo_placeOf_72 rfl (⟨rfl, rfl, rfl⟩)
set_option maxRecDepth 100000 in
theorem st_Mo_all_0_0 (l : Launch) (g : ew_G) (d L : Nat) (M : ew_M) (X : Bool) (Q : Option Value → List ew_S → ew_M → Prop) (K : Ew l g (d + 1) 0 0 m_Mo_allNumbers 19 [.ref 47, .int (ew_b (X && (sp_in (M 56 5) 12289 && sp_in (M 56 6) 12289))), .int (nI 0), .int (nI 1)] [] (ew_SH L) M Q) :
    Ew l g (d + 1) 0 0 m_Mo_allNumbers 19 [.ref 47, .int (ew_b X), .int (nI 0), .int (nI 0)] [] (ew_SH L) M Q := by
  refine ew_iload_n d_Mo_allNumbers_19 rfl ?_
  refine ew_bipush (v := nI 10) d_Mo_allNumbers_20 (by decide) ?_
  refine en_icmp_ge (tgt := 80) d_Mo_allNumbers_22 (by decide) (by decide) (by decide) (fun h22 => by exact absurd h22 (by decide)) (fun h22 => ?_)
  refine ew_iload_n d_Mo_allNumbers_25 rfl ?_
  refine en_b_eq (tgt := 72) d_Mo_allNumbers_26 (by decide) (fun h26 => ?_) (fun h26 => ?_)
  · refine ew_iconst (v := nI 0) d_Mo_allNumbers_72 (by decide) ?_
    refine en_istore_n (ls' := [.ref 47, .int (nI 0), .int (nI 0), .int (nI 0)]) d_Mo_allNumbers_73 (Nat.le_of_ble_eq_true rfl) rfl ?_
    refine en_inc (ls' := [.ref 47, .int (nI 0), .int (nI 0), .int (nI 1)]) d_Mo_allNumbers_74 rfl rfl ?_
    refine ew_goto (tgt := 19) d_Mo_allNumbers_77 (by decide) ?_
    refine en_eq (ls' := [.ref 47, .int (ew_b (X && (sp_in (M 56 5) 12289 && sp_in (M 56 6) 12289))), .int (nI 0), .int (nI 1)]) (by rw [show (X && (sp_in (M 56 5) 12289 && sp_in (M 56 6) 12289)) = false from by rw [h26, Bool.false_and]]; rfl) rfl rfl ?_
    exact K
  · refine ew_aload_n d_Mo_allNumbers_29 rfl ?_
    refine ew_getr (ci := 9) (f := 10) d_Mo_allNumbers_30 rfl rfl rfl tw_602 ?_
    refine ew_iload_n d_Mo_allNumbers_33 rfl ?_
    refine ew_iload_n d_Mo_allNumbers_34 rfl ?_
    refine en_callS (As := [.int (nI 0), .int (nI 0)]) (st := [.ref 56]) (st1 := [.int (nI 5), .ref 56]) d_Mo_allNumbers_35 k_Mo_placeOf tw_819 tw_820 rfl (Nat.le_of_ble_eq_true rfl) rfl (Nat.le_of_ble_eq_true rfl) rfl rfl (c_Mo_placeOf_0_0 l g _ L M) rfl ?_
    refine ew_iald (j := 5) d_Mo_allNumbers_38 rfl (rfl) (by decide) (by decide) ?_
    refine en_callS (As := [.int (M 56 5)]) (st := []) (st1 := [.int (ew_b (sp_in (M 56 5) 12289))]) d_Mo_allNumbers_39 k_Mo_isNumber tw_671 tw_672 rfl (Nat.le_of_ble_eq_true rfl) rfl (Nat.le_of_ble_eq_true rfl) rfl rfl (c_Mo_isNumber l g _ (ew_SH L) M (M 56 5)) rfl ?_
    refine en_b_eq (tgt := 72) d_Mo_allNumbers_42 (by decide) (fun h42 => ?_) (fun h42 => ?_)
    · refine ew_iconst (v := nI 0) d_Mo_allNumbers_72 (by decide) ?_
      refine en_istore_n (ls' := [.ref 47, .int (nI 0), .int (nI 0), .int (nI 0)]) d_Mo_allNumbers_73 (Nat.le_of_ble_eq_true rfl) rfl ?_
      refine en_inc (ls' := [.ref 47, .int (nI 0), .int (nI 0), .int (nI 1)]) d_Mo_allNumbers_74 rfl rfl ?_
      refine ew_goto (tgt := 19) d_Mo_allNumbers_77 (by decide) ?_
      refine en_eq (ls' := [.ref 47, .int (ew_b (X && (sp_in (M 56 5) 12289 && sp_in (M 56 6) 12289))), .int (nI 0), .int (nI 1)]) (by rw [show (X && (sp_in (M 56 5) 12289 && sp_in (M 56 6) 12289)) = false from by rw [h42, Bool.false_and, Bool.and_false]]; rfl) rfl rfl ?_
      exact K
    · refine ew_iload_n d_Mo_allNumbers_45 rfl ?_
      refine ew_iconst (v := nI 3) d_Mo_allNumbers_46 (by decide) ?_
      refine en_icmp_gt (tgt := 68) d_Mo_allNumbers_47 (by decide) (by decide) (by decide) (fun h47 => by exact absurd h47 (by decide)) (fun h47 => ?_)
      refine ew_aload_n d_Mo_allNumbers_50 rfl ?_
      refine ew_getr (ci := 9) (f := 10) d_Mo_allNumbers_51 rfl rfl rfl tw_602 ?_
      refine ew_iload_n d_Mo_allNumbers_54 rfl ?_
      refine ew_iload_n d_Mo_allNumbers_55 rfl ?_
      refine en_callS (As := [.int (nI 0), .int (nI 0)]) (st := [.ref 56]) (st1 := [.int (nI 5), .ref 56]) d_Mo_allNumbers_56 k_Mo_placeOf tw_819 tw_820 rfl (Nat.le_of_ble_eq_true rfl) rfl (Nat.le_of_ble_eq_true rfl) rfl rfl (c_Mo_placeOf_0_0 l g _ L M) rfl ?_
      refine ew_iconst (v := nI 1) d_Mo_allNumbers_59 (by decide) ?_
      refine en_iadd d_Mo_allNumbers_60 ?_
      refine en_eq rfl (show _ = [.int (nI 6), .ref 56] from rfl) rfl ?_
      refine ew_iald (j := 6) d_Mo_allNumbers_61 rfl (rfl) (by decide) (by decide) ?_
      refine en_callS (As := [.int (M 56 6)]) (st := []) (st1 := [.int (ew_b (sp_in (M 56 6) 12289))]) d_Mo_allNumbers_62 k_Mo_isNumber tw_671 tw_672 rfl (Nat.le_of_ble_eq_true rfl) rfl (Nat.le_of_ble_eq_true rfl) rfl rfl (c_Mo_isNumber l g _ (ew_SH L) M (M 56 6)) rfl ?_
      refine en_b_eq (tgt := 72) d_Mo_allNumbers_65 (by decide) (fun h65 => ?_) (fun h65 => ?_)
      · refine ew_iconst (v := nI 0) d_Mo_allNumbers_72 (by decide) ?_
        refine en_istore_n (ls' := [.ref 47, .int (nI 0), .int (nI 0), .int (nI 0)]) d_Mo_allNumbers_73 (Nat.le_of_ble_eq_true rfl) rfl ?_
        refine en_inc (ls' := [.ref 47, .int (nI 0), .int (nI 0), .int (nI 1)]) d_Mo_allNumbers_74 rfl rfl ?_
        refine ew_goto (tgt := 19) d_Mo_allNumbers_77 (by decide) ?_
        refine en_eq (ls' := [.ref 47, .int (ew_b (X && (sp_in (M 56 5) 12289 && sp_in (M 56 6) 12289))), .int (nI 0), .int (nI 1)]) (by rw [show (X && (sp_in (M 56 5) 12289 && sp_in (M 56 6) 12289)) = false from by rw [h65, Bool.and_false, Bool.and_false]]; rfl) rfl rfl ?_
        exact K
      · refine ew_iconst (v := nI 1) d_Mo_allNumbers_68 (by decide) ?_
        refine ew_goto (tgt := 73) d_Mo_allNumbers_69 (by decide) ?_
        refine en_istore_n (ls' := [.ref 47, .int (nI 1), .int (nI 0), .int (nI 0)]) d_Mo_allNumbers_73 (Nat.le_of_ble_eq_true rfl) rfl ?_
        refine en_inc (ls' := [.ref 47, .int (nI 1), .int (nI 0), .int (nI 1)]) d_Mo_allNumbers_74 rfl rfl ?_
        refine ew_goto (tgt := 19) d_Mo_allNumbers_77 (by decide) ?_
        refine en_eq (ls' := [.ref 47, .int (ew_b (X && (sp_in (M 56 5) 12289 && sp_in (M 56 6) 12289))), .int (nI 0), .int (nI 1)]) (by rw [show (X && (sp_in (M 56 5) 12289 && sp_in (M 56 6) 12289)) = true from by rw [h26, h42, h65]; rfl]; rfl) rfl rfl ?_
        exact K
set_option maxRecDepth 100000 in
theorem st_Mo_all_0_1 (l : Launch) (g : ew_G) (d L : Nat) (M : ew_M) (X : Bool) (Q : Option Value → List ew_S → ew_M → Prop) (K : Ew l g (d + 1) 0 0 m_Mo_allNumbers 19 [.ref 47, .int (ew_b (X && (sp_in (M 56 12) 12289 && sp_in (M 56 13) 12289))), .int (nI 0), .int (nI 2)] [] (ew_SH L) M Q) :
    Ew l g (d + 1) 0 0 m_Mo_allNumbers 19 [.ref 47, .int (ew_b X), .int (nI 0), .int (nI 1)] [] (ew_SH L) M Q := by
  refine ew_iload_n d_Mo_allNumbers_19 rfl ?_
  refine ew_bipush (v := nI 10) d_Mo_allNumbers_20 (by decide) ?_
  refine en_icmp_ge (tgt := 80) d_Mo_allNumbers_22 (by decide) (by decide) (by decide) (fun h22 => by exact absurd h22 (by decide)) (fun h22 => ?_)
  refine ew_iload_n d_Mo_allNumbers_25 rfl ?_
  refine en_b_eq (tgt := 72) d_Mo_allNumbers_26 (by decide) (fun h26 => ?_) (fun h26 => ?_)
  · refine ew_iconst (v := nI 0) d_Mo_allNumbers_72 (by decide) ?_
    refine en_istore_n (ls' := [.ref 47, .int (nI 0), .int (nI 0), .int (nI 1)]) d_Mo_allNumbers_73 (Nat.le_of_ble_eq_true rfl) rfl ?_
    refine en_inc (ls' := [.ref 47, .int (nI 0), .int (nI 0), .int (nI 2)]) d_Mo_allNumbers_74 rfl rfl ?_
    refine ew_goto (tgt := 19) d_Mo_allNumbers_77 (by decide) ?_
    refine en_eq (ls' := [.ref 47, .int (ew_b (X && (sp_in (M 56 12) 12289 && sp_in (M 56 13) 12289))), .int (nI 0), .int (nI 2)]) (by rw [show (X && (sp_in (M 56 12) 12289 && sp_in (M 56 13) 12289)) = false from by rw [h26, Bool.false_and]]; rfl) rfl rfl ?_
    exact K
  · refine ew_aload_n d_Mo_allNumbers_29 rfl ?_
    refine ew_getr (ci := 9) (f := 10) d_Mo_allNumbers_30 rfl rfl rfl tw_602 ?_
    refine ew_iload_n d_Mo_allNumbers_33 rfl ?_
    refine ew_iload_n d_Mo_allNumbers_34 rfl ?_
    refine en_callS (As := [.int (nI 0), .int (nI 1)]) (st := [.ref 56]) (st1 := [.int (nI 12), .ref 56]) d_Mo_allNumbers_35 k_Mo_placeOf tw_819 tw_820 rfl (Nat.le_of_ble_eq_true rfl) rfl (Nat.le_of_ble_eq_true rfl) rfl rfl (c_Mo_placeOf_0_1 l g _ L M) rfl ?_
    refine ew_iald (j := 12) d_Mo_allNumbers_38 rfl (rfl) (by decide) (by decide) ?_
    refine en_callS (As := [.int (M 56 12)]) (st := []) (st1 := [.int (ew_b (sp_in (M 56 12) 12289))]) d_Mo_allNumbers_39 k_Mo_isNumber tw_671 tw_672 rfl (Nat.le_of_ble_eq_true rfl) rfl (Nat.le_of_ble_eq_true rfl) rfl rfl (c_Mo_isNumber l g _ (ew_SH L) M (M 56 12)) rfl ?_
    refine en_b_eq (tgt := 72) d_Mo_allNumbers_42 (by decide) (fun h42 => ?_) (fun h42 => ?_)
    · refine ew_iconst (v := nI 0) d_Mo_allNumbers_72 (by decide) ?_
      refine en_istore_n (ls' := [.ref 47, .int (nI 0), .int (nI 0), .int (nI 1)]) d_Mo_allNumbers_73 (Nat.le_of_ble_eq_true rfl) rfl ?_
      refine en_inc (ls' := [.ref 47, .int (nI 0), .int (nI 0), .int (nI 2)]) d_Mo_allNumbers_74 rfl rfl ?_
      refine ew_goto (tgt := 19) d_Mo_allNumbers_77 (by decide) ?_
      refine en_eq (ls' := [.ref 47, .int (ew_b (X && (sp_in (M 56 12) 12289 && sp_in (M 56 13) 12289))), .int (nI 0), .int (nI 2)]) (by rw [show (X && (sp_in (M 56 12) 12289 && sp_in (M 56 13) 12289)) = false from by rw [h42, Bool.false_and, Bool.and_false]]; rfl) rfl rfl ?_
      exact K
    · refine ew_iload_n d_Mo_allNumbers_45 rfl ?_
      refine ew_iconst (v := nI 3) d_Mo_allNumbers_46 (by decide) ?_
      refine en_icmp_gt (tgt := 68) d_Mo_allNumbers_47 (by decide) (by decide) (by decide) (fun h47 => by exact absurd h47 (by decide)) (fun h47 => ?_)
      refine ew_aload_n d_Mo_allNumbers_50 rfl ?_
      refine ew_getr (ci := 9) (f := 10) d_Mo_allNumbers_51 rfl rfl rfl tw_602 ?_
      refine ew_iload_n d_Mo_allNumbers_54 rfl ?_
      refine ew_iload_n d_Mo_allNumbers_55 rfl ?_
      refine en_callS (As := [.int (nI 0), .int (nI 1)]) (st := [.ref 56]) (st1 := [.int (nI 12), .ref 56]) d_Mo_allNumbers_56 k_Mo_placeOf tw_819 tw_820 rfl (Nat.le_of_ble_eq_true rfl) rfl (Nat.le_of_ble_eq_true rfl) rfl rfl (c_Mo_placeOf_0_1 l g _ L M) rfl ?_
      refine ew_iconst (v := nI 1) d_Mo_allNumbers_59 (by decide) ?_
      refine en_iadd d_Mo_allNumbers_60 ?_
      refine en_eq rfl (show _ = [.int (nI 13), .ref 56] from rfl) rfl ?_
      refine ew_iald (j := 13) d_Mo_allNumbers_61 rfl (rfl) (by decide) (by decide) ?_
      refine en_callS (As := [.int (M 56 13)]) (st := []) (st1 := [.int (ew_b (sp_in (M 56 13) 12289))]) d_Mo_allNumbers_62 k_Mo_isNumber tw_671 tw_672 rfl (Nat.le_of_ble_eq_true rfl) rfl (Nat.le_of_ble_eq_true rfl) rfl rfl (c_Mo_isNumber l g _ (ew_SH L) M (M 56 13)) rfl ?_
      refine en_b_eq (tgt := 72) d_Mo_allNumbers_65 (by decide) (fun h65 => ?_) (fun h65 => ?_)
      · refine ew_iconst (v := nI 0) d_Mo_allNumbers_72 (by decide) ?_
        refine en_istore_n (ls' := [.ref 47, .int (nI 0), .int (nI 0), .int (nI 1)]) d_Mo_allNumbers_73 (Nat.le_of_ble_eq_true rfl) rfl ?_
        refine en_inc (ls' := [.ref 47, .int (nI 0), .int (nI 0), .int (nI 2)]) d_Mo_allNumbers_74 rfl rfl ?_
        refine ew_goto (tgt := 19) d_Mo_allNumbers_77 (by decide) ?_
        refine en_eq (ls' := [.ref 47, .int (ew_b (X && (sp_in (M 56 12) 12289 && sp_in (M 56 13) 12289))), .int (nI 0), .int (nI 2)]) (by rw [show (X && (sp_in (M 56 12) 12289 && sp_in (M 56 13) 12289)) = false from by rw [h65, Bool.and_false, Bool.and_false]]; rfl) rfl rfl ?_
        exact K
      · refine ew_iconst (v := nI 1) d_Mo_allNumbers_68 (by decide) ?_
        refine ew_goto (tgt := 73) d_Mo_allNumbers_69 (by decide) ?_
        refine en_istore_n (ls' := [.ref 47, .int (nI 1), .int (nI 0), .int (nI 1)]) d_Mo_allNumbers_73 (Nat.le_of_ble_eq_true rfl) rfl ?_
        refine en_inc (ls' := [.ref 47, .int (nI 1), .int (nI 0), .int (nI 2)]) d_Mo_allNumbers_74 rfl rfl ?_
        refine ew_goto (tgt := 19) d_Mo_allNumbers_77 (by decide) ?_
        refine en_eq (ls' := [.ref 47, .int (ew_b (X && (sp_in (M 56 12) 12289 && sp_in (M 56 13) 12289))), .int (nI 0), .int (nI 2)]) (by rw [show (X && (sp_in (M 56 12) 12289 && sp_in (M 56 13) 12289)) = true from by rw [h26, h42, h65]; rfl]; rfl) rfl rfl ?_
        exact K
set_option maxRecDepth 100000 in
theorem st_Mo_all_0_2 (l : Launch) (g : ew_G) (d L : Nat) (M : ew_M) (X : Bool) (Q : Option Value → List ew_S → ew_M → Prop) (K : Ew l g (d + 1) 0 0 m_Mo_allNumbers 19 [.ref 47, .int (ew_b (X && (sp_in (M 56 19) 12289 && sp_in (M 56 20) 12289))), .int (nI 0), .int (nI 3)] [] (ew_SH L) M Q) :
    Ew l g (d + 1) 0 0 m_Mo_allNumbers 19 [.ref 47, .int (ew_b X), .int (nI 0), .int (nI 2)] [] (ew_SH L) M Q := by
  refine ew_iload_n d_Mo_allNumbers_19 rfl ?_
  refine ew_bipush (v := nI 10) d_Mo_allNumbers_20 (by decide) ?_
  refine en_icmp_ge (tgt := 80) d_Mo_allNumbers_22 (by decide) (by decide) (by decide) (fun h22 => by exact absurd h22 (by decide)) (fun h22 => ?_)
  refine ew_iload_n d_Mo_allNumbers_25 rfl ?_
  refine en_b_eq (tgt := 72) d_Mo_allNumbers_26 (by decide) (fun h26 => ?_) (fun h26 => ?_)
  · refine ew_iconst (v := nI 0) d_Mo_allNumbers_72 (by decide) ?_
    refine en_istore_n (ls' := [.ref 47, .int (nI 0), .int (nI 0), .int (nI 2)]) d_Mo_allNumbers_73 (Nat.le_of_ble_eq_true rfl) rfl ?_
    refine en_inc (ls' := [.ref 47, .int (nI 0), .int (nI 0), .int (nI 3)]) d_Mo_allNumbers_74 rfl rfl ?_
    refine ew_goto (tgt := 19) d_Mo_allNumbers_77 (by decide) ?_
    refine en_eq (ls' := [.ref 47, .int (ew_b (X && (sp_in (M 56 19) 12289 && sp_in (M 56 20) 12289))), .int (nI 0), .int (nI 3)]) (by rw [show (X && (sp_in (M 56 19) 12289 && sp_in (M 56 20) 12289)) = false from by rw [h26, Bool.false_and]]; rfl) rfl rfl ?_
    exact K
  · refine ew_aload_n d_Mo_allNumbers_29 rfl ?_
    refine ew_getr (ci := 9) (f := 10) d_Mo_allNumbers_30 rfl rfl rfl tw_602 ?_
    refine ew_iload_n d_Mo_allNumbers_33 rfl ?_
    refine ew_iload_n d_Mo_allNumbers_34 rfl ?_
    refine en_callS (As := [.int (nI 0), .int (nI 2)]) (st := [.ref 56]) (st1 := [.int (nI 19), .ref 56]) d_Mo_allNumbers_35 k_Mo_placeOf tw_819 tw_820 rfl (Nat.le_of_ble_eq_true rfl) rfl (Nat.le_of_ble_eq_true rfl) rfl rfl (c_Mo_placeOf_0_2 l g _ L M) rfl ?_
    refine ew_iald (j := 19) d_Mo_allNumbers_38 rfl (rfl) (by decide) (by decide) ?_
    refine en_callS (As := [.int (M 56 19)]) (st := []) (st1 := [.int (ew_b (sp_in (M 56 19) 12289))]) d_Mo_allNumbers_39 k_Mo_isNumber tw_671 tw_672 rfl (Nat.le_of_ble_eq_true rfl) rfl (Nat.le_of_ble_eq_true rfl) rfl rfl (c_Mo_isNumber l g _ (ew_SH L) M (M 56 19)) rfl ?_
    refine en_b_eq (tgt := 72) d_Mo_allNumbers_42 (by decide) (fun h42 => ?_) (fun h42 => ?_)
    · refine ew_iconst (v := nI 0) d_Mo_allNumbers_72 (by decide) ?_
      refine en_istore_n (ls' := [.ref 47, .int (nI 0), .int (nI 0), .int (nI 2)]) d_Mo_allNumbers_73 (Nat.le_of_ble_eq_true rfl) rfl ?_
      refine en_inc (ls' := [.ref 47, .int (nI 0), .int (nI 0), .int (nI 3)]) d_Mo_allNumbers_74 rfl rfl ?_
      refine ew_goto (tgt := 19) d_Mo_allNumbers_77 (by decide) ?_
      refine en_eq (ls' := [.ref 47, .int (ew_b (X && (sp_in (M 56 19) 12289 && sp_in (M 56 20) 12289))), .int (nI 0), .int (nI 3)]) (by rw [show (X && (sp_in (M 56 19) 12289 && sp_in (M 56 20) 12289)) = false from by rw [h42, Bool.false_and, Bool.and_false]]; rfl) rfl rfl ?_
      exact K
    · refine ew_iload_n d_Mo_allNumbers_45 rfl ?_
      refine ew_iconst (v := nI 3) d_Mo_allNumbers_46 (by decide) ?_
      refine en_icmp_gt (tgt := 68) d_Mo_allNumbers_47 (by decide) (by decide) (by decide) (fun h47 => by exact absurd h47 (by decide)) (fun h47 => ?_)
      refine ew_aload_n d_Mo_allNumbers_50 rfl ?_
      refine ew_getr (ci := 9) (f := 10) d_Mo_allNumbers_51 rfl rfl rfl tw_602 ?_
      refine ew_iload_n d_Mo_allNumbers_54 rfl ?_
      refine ew_iload_n d_Mo_allNumbers_55 rfl ?_
      refine en_callS (As := [.int (nI 0), .int (nI 2)]) (st := [.ref 56]) (st1 := [.int (nI 19), .ref 56]) d_Mo_allNumbers_56 k_Mo_placeOf tw_819 tw_820 rfl (Nat.le_of_ble_eq_true rfl) rfl (Nat.le_of_ble_eq_true rfl) rfl rfl (c_Mo_placeOf_0_2 l g _ L M) rfl ?_
      refine ew_iconst (v := nI 1) d_Mo_allNumbers_59 (by decide) ?_
      refine en_iadd d_Mo_allNumbers_60 ?_
      refine en_eq rfl (show _ = [.int (nI 20), .ref 56] from rfl) rfl ?_
      refine ew_iald (j := 20) d_Mo_allNumbers_61 rfl (rfl) (by decide) (by decide) ?_
      refine en_callS (As := [.int (M 56 20)]) (st := []) (st1 := [.int (ew_b (sp_in (M 56 20) 12289))]) d_Mo_allNumbers_62 k_Mo_isNumber tw_671 tw_672 rfl (Nat.le_of_ble_eq_true rfl) rfl (Nat.le_of_ble_eq_true rfl) rfl rfl (c_Mo_isNumber l g _ (ew_SH L) M (M 56 20)) rfl ?_
      refine en_b_eq (tgt := 72) d_Mo_allNumbers_65 (by decide) (fun h65 => ?_) (fun h65 => ?_)
      · refine ew_iconst (v := nI 0) d_Mo_allNumbers_72 (by decide) ?_
        refine en_istore_n (ls' := [.ref 47, .int (nI 0), .int (nI 0), .int (nI 2)]) d_Mo_allNumbers_73 (Nat.le_of_ble_eq_true rfl) rfl ?_
        refine en_inc (ls' := [.ref 47, .int (nI 0), .int (nI 0), .int (nI 3)]) d_Mo_allNumbers_74 rfl rfl ?_
        refine ew_goto (tgt := 19) d_Mo_allNumbers_77 (by decide) ?_
        refine en_eq (ls' := [.ref 47, .int (ew_b (X && (sp_in (M 56 19) 12289 && sp_in (M 56 20) 12289))), .int (nI 0), .int (nI 3)]) (by rw [show (X && (sp_in (M 56 19) 12289 && sp_in (M 56 20) 12289)) = false from by rw [h65, Bool.and_false, Bool.and_false]]; rfl) rfl rfl ?_
        exact K
      · refine ew_iconst (v := nI 1) d_Mo_allNumbers_68 (by decide) ?_
        refine ew_goto (tgt := 73) d_Mo_allNumbers_69 (by decide) ?_
        refine en_istore_n (ls' := [.ref 47, .int (nI 1), .int (nI 0), .int (nI 2)]) d_Mo_allNumbers_73 (Nat.le_of_ble_eq_true rfl) rfl ?_
        refine en_inc (ls' := [.ref 47, .int (nI 1), .int (nI 0), .int (nI 3)]) d_Mo_allNumbers_74 rfl rfl ?_
        refine ew_goto (tgt := 19) d_Mo_allNumbers_77 (by decide) ?_
        refine en_eq (ls' := [.ref 47, .int (ew_b (X && (sp_in (M 56 19) 12289 && sp_in (M 56 20) 12289))), .int (nI 0), .int (nI 3)]) (by rw [show (X && (sp_in (M 56 19) 12289 && sp_in (M 56 20) 12289)) = true from by rw [h26, h42, h65]; rfl]; rfl) rfl rfl ?_
        exact K
set_option maxRecDepth 100000 in
theorem st_Mo_all_0_3 (l : Launch) (g : ew_G) (d L : Nat) (M : ew_M) (X : Bool) (Q : Option Value → List ew_S → ew_M → Prop) (K : Ew l g (d + 1) 0 0 m_Mo_allNumbers 19 [.ref 47, .int (ew_b (X && (sp_in (M 56 26) 12289 && sp_in (M 56 27) 12289))), .int (nI 0), .int (nI 4)] [] (ew_SH L) M Q) :
    Ew l g (d + 1) 0 0 m_Mo_allNumbers 19 [.ref 47, .int (ew_b X), .int (nI 0), .int (nI 3)] [] (ew_SH L) M Q := by
  refine ew_iload_n d_Mo_allNumbers_19 rfl ?_
  refine ew_bipush (v := nI 10) d_Mo_allNumbers_20 (by decide) ?_
  refine en_icmp_ge (tgt := 80) d_Mo_allNumbers_22 (by decide) (by decide) (by decide) (fun h22 => by exact absurd h22 (by decide)) (fun h22 => ?_)
  refine ew_iload_n d_Mo_allNumbers_25 rfl ?_
  refine en_b_eq (tgt := 72) d_Mo_allNumbers_26 (by decide) (fun h26 => ?_) (fun h26 => ?_)
  · refine ew_iconst (v := nI 0) d_Mo_allNumbers_72 (by decide) ?_
    refine en_istore_n (ls' := [.ref 47, .int (nI 0), .int (nI 0), .int (nI 3)]) d_Mo_allNumbers_73 (Nat.le_of_ble_eq_true rfl) rfl ?_
    refine en_inc (ls' := [.ref 47, .int (nI 0), .int (nI 0), .int (nI 4)]) d_Mo_allNumbers_74 rfl rfl ?_
    refine ew_goto (tgt := 19) d_Mo_allNumbers_77 (by decide) ?_
    refine en_eq (ls' := [.ref 47, .int (ew_b (X && (sp_in (M 56 26) 12289 && sp_in (M 56 27) 12289))), .int (nI 0), .int (nI 4)]) (by rw [show (X && (sp_in (M 56 26) 12289 && sp_in (M 56 27) 12289)) = false from by rw [h26, Bool.false_and]]; rfl) rfl rfl ?_
    exact K
  · refine ew_aload_n d_Mo_allNumbers_29 rfl ?_
    refine ew_getr (ci := 9) (f := 10) d_Mo_allNumbers_30 rfl rfl rfl tw_602 ?_
    refine ew_iload_n d_Mo_allNumbers_33 rfl ?_
    refine ew_iload_n d_Mo_allNumbers_34 rfl ?_
    refine en_callS (As := [.int (nI 0), .int (nI 3)]) (st := [.ref 56]) (st1 := [.int (nI 26), .ref 56]) d_Mo_allNumbers_35 k_Mo_placeOf tw_819 tw_820 rfl (Nat.le_of_ble_eq_true rfl) rfl (Nat.le_of_ble_eq_true rfl) rfl rfl (c_Mo_placeOf_0_3 l g _ L M) rfl ?_
    refine ew_iald (j := 26) d_Mo_allNumbers_38 rfl (rfl) (by decide) (by decide) ?_
    refine en_callS (As := [.int (M 56 26)]) (st := []) (st1 := [.int (ew_b (sp_in (M 56 26) 12289))]) d_Mo_allNumbers_39 k_Mo_isNumber tw_671 tw_672 rfl (Nat.le_of_ble_eq_true rfl) rfl (Nat.le_of_ble_eq_true rfl) rfl rfl (c_Mo_isNumber l g _ (ew_SH L) M (M 56 26)) rfl ?_
    refine en_b_eq (tgt := 72) d_Mo_allNumbers_42 (by decide) (fun h42 => ?_) (fun h42 => ?_)
    · refine ew_iconst (v := nI 0) d_Mo_allNumbers_72 (by decide) ?_
      refine en_istore_n (ls' := [.ref 47, .int (nI 0), .int (nI 0), .int (nI 3)]) d_Mo_allNumbers_73 (Nat.le_of_ble_eq_true rfl) rfl ?_
      refine en_inc (ls' := [.ref 47, .int (nI 0), .int (nI 0), .int (nI 4)]) d_Mo_allNumbers_74 rfl rfl ?_
      refine ew_goto (tgt := 19) d_Mo_allNumbers_77 (by decide) ?_
      refine en_eq (ls' := [.ref 47, .int (ew_b (X && (sp_in (M 56 26) 12289 && sp_in (M 56 27) 12289))), .int (nI 0), .int (nI 4)]) (by rw [show (X && (sp_in (M 56 26) 12289 && sp_in (M 56 27) 12289)) = false from by rw [h42, Bool.false_and, Bool.and_false]]; rfl) rfl rfl ?_
      exact K
    · refine ew_iload_n d_Mo_allNumbers_45 rfl ?_
      refine ew_iconst (v := nI 3) d_Mo_allNumbers_46 (by decide) ?_
      refine en_icmp_gt (tgt := 68) d_Mo_allNumbers_47 (by decide) (by decide) (by decide) (fun h47 => by exact absurd h47 (by decide)) (fun h47 => ?_)
      refine ew_aload_n d_Mo_allNumbers_50 rfl ?_
      refine ew_getr (ci := 9) (f := 10) d_Mo_allNumbers_51 rfl rfl rfl tw_602 ?_
      refine ew_iload_n d_Mo_allNumbers_54 rfl ?_
      refine ew_iload_n d_Mo_allNumbers_55 rfl ?_
      refine en_callS (As := [.int (nI 0), .int (nI 3)]) (st := [.ref 56]) (st1 := [.int (nI 26), .ref 56]) d_Mo_allNumbers_56 k_Mo_placeOf tw_819 tw_820 rfl (Nat.le_of_ble_eq_true rfl) rfl (Nat.le_of_ble_eq_true rfl) rfl rfl (c_Mo_placeOf_0_3 l g _ L M) rfl ?_
      refine ew_iconst (v := nI 1) d_Mo_allNumbers_59 (by decide) ?_
      refine en_iadd d_Mo_allNumbers_60 ?_
      refine en_eq rfl (show _ = [.int (nI 27), .ref 56] from rfl) rfl ?_
      refine ew_iald (j := 27) d_Mo_allNumbers_61 rfl (rfl) (by decide) (by decide) ?_
      refine en_callS (As := [.int (M 56 27)]) (st := []) (st1 := [.int (ew_b (sp_in (M 56 27) 12289))]) d_Mo_allNumbers_62 k_Mo_isNumber tw_671 tw_672 rfl (Nat.le_of_ble_eq_true rfl) rfl (Nat.le_of_ble_eq_true rfl) rfl rfl (c_Mo_isNumber l g _ (ew_SH L) M (M 56 27)) rfl ?_
      refine en_b_eq (tgt := 72) d_Mo_allNumbers_65 (by decide) (fun h65 => ?_) (fun h65 => ?_)
      · refine ew_iconst (v := nI 0) d_Mo_allNumbers_72 (by decide) ?_
        refine en_istore_n (ls' := [.ref 47, .int (nI 0), .int (nI 0), .int (nI 3)]) d_Mo_allNumbers_73 (Nat.le_of_ble_eq_true rfl) rfl ?_
        refine en_inc (ls' := [.ref 47, .int (nI 0), .int (nI 0), .int (nI 4)]) d_Mo_allNumbers_74 rfl rfl ?_
        refine ew_goto (tgt := 19) d_Mo_allNumbers_77 (by decide) ?_
        refine en_eq (ls' := [.ref 47, .int (ew_b (X && (sp_in (M 56 26) 12289 && sp_in (M 56 27) 12289))), .int (nI 0), .int (nI 4)]) (by rw [show (X && (sp_in (M 56 26) 12289 && sp_in (M 56 27) 12289)) = false from by rw [h65, Bool.and_false, Bool.and_false]]; rfl) rfl rfl ?_
        exact K
      · refine ew_iconst (v := nI 1) d_Mo_allNumbers_68 (by decide) ?_
        refine ew_goto (tgt := 73) d_Mo_allNumbers_69 (by decide) ?_
        refine en_istore_n (ls' := [.ref 47, .int (nI 1), .int (nI 0), .int (nI 3)]) d_Mo_allNumbers_73 (Nat.le_of_ble_eq_true rfl) rfl ?_
        refine en_inc (ls' := [.ref 47, .int (nI 1), .int (nI 0), .int (nI 4)]) d_Mo_allNumbers_74 rfl rfl ?_
        refine ew_goto (tgt := 19) d_Mo_allNumbers_77 (by decide) ?_
        refine en_eq (ls' := [.ref 47, .int (ew_b (X && (sp_in (M 56 26) 12289 && sp_in (M 56 27) 12289))), .int (nI 0), .int (nI 4)]) (by rw [show (X && (sp_in (M 56 26) 12289 && sp_in (M 56 27) 12289)) = true from by rw [h26, h42, h65]; rfl]; rfl) rfl rfl ?_
        exact K
set_option maxRecDepth 100000 in
theorem st_Mo_all_0_4 (l : Launch) (g : ew_G) (d L : Nat) (M : ew_M) (X : Bool) (Q : Option Value → List ew_S → ew_M → Prop) (K : Ew l g (d + 1) 0 0 m_Mo_allNumbers 19 [.ref 47, .int (ew_b (X && sp_in (M 56 33) 12289)), .int (nI 0), .int (nI 5)] [] (ew_SH L) M Q) :
    Ew l g (d + 1) 0 0 m_Mo_allNumbers 19 [.ref 47, .int (ew_b X), .int (nI 0), .int (nI 4)] [] (ew_SH L) M Q := by
  refine ew_iload_n d_Mo_allNumbers_19 rfl ?_
  refine ew_bipush (v := nI 10) d_Mo_allNumbers_20 (by decide) ?_
  refine en_icmp_ge (tgt := 80) d_Mo_allNumbers_22 (by decide) (by decide) (by decide) (fun h22 => by exact absurd h22 (by decide)) (fun h22 => ?_)
  refine ew_iload_n d_Mo_allNumbers_25 rfl ?_
  refine en_b_eq (tgt := 72) d_Mo_allNumbers_26 (by decide) (fun h26 => ?_) (fun h26 => ?_)
  · refine ew_iconst (v := nI 0) d_Mo_allNumbers_72 (by decide) ?_
    refine en_istore_n (ls' := [.ref 47, .int (nI 0), .int (nI 0), .int (nI 4)]) d_Mo_allNumbers_73 (Nat.le_of_ble_eq_true rfl) rfl ?_
    refine en_inc (ls' := [.ref 47, .int (nI 0), .int (nI 0), .int (nI 5)]) d_Mo_allNumbers_74 rfl rfl ?_
    refine ew_goto (tgt := 19) d_Mo_allNumbers_77 (by decide) ?_
    refine en_eq (ls' := [.ref 47, .int (ew_b (X && sp_in (M 56 33) 12289)), .int (nI 0), .int (nI 5)]) (by rw [show (X && sp_in (M 56 33) 12289) = false from by rw [h26, Bool.false_and]]; rfl) rfl rfl ?_
    exact K
  · refine ew_aload_n d_Mo_allNumbers_29 rfl ?_
    refine ew_getr (ci := 9) (f := 10) d_Mo_allNumbers_30 rfl rfl rfl tw_602 ?_
    refine ew_iload_n d_Mo_allNumbers_33 rfl ?_
    refine ew_iload_n d_Mo_allNumbers_34 rfl ?_
    refine en_callS (As := [.int (nI 0), .int (nI 4)]) (st := [.ref 56]) (st1 := [.int (nI 33), .ref 56]) d_Mo_allNumbers_35 k_Mo_placeOf tw_819 tw_820 rfl (Nat.le_of_ble_eq_true rfl) rfl (Nat.le_of_ble_eq_true rfl) rfl rfl (c_Mo_placeOf_0_4 l g _ L M) rfl ?_
    refine ew_iald (j := 33) d_Mo_allNumbers_38 rfl (rfl) (by decide) (by decide) ?_
    refine en_callS (As := [.int (M 56 33)]) (st := []) (st1 := [.int (ew_b (sp_in (M 56 33) 12289))]) d_Mo_allNumbers_39 k_Mo_isNumber tw_671 tw_672 rfl (Nat.le_of_ble_eq_true rfl) rfl (Nat.le_of_ble_eq_true rfl) rfl rfl (c_Mo_isNumber l g _ (ew_SH L) M (M 56 33)) rfl ?_
    refine en_b_eq (tgt := 72) d_Mo_allNumbers_42 (by decide) (fun h42 => ?_) (fun h42 => ?_)
    · refine ew_iconst (v := nI 0) d_Mo_allNumbers_72 (by decide) ?_
      refine en_istore_n (ls' := [.ref 47, .int (nI 0), .int (nI 0), .int (nI 4)]) d_Mo_allNumbers_73 (Nat.le_of_ble_eq_true rfl) rfl ?_
      refine en_inc (ls' := [.ref 47, .int (nI 0), .int (nI 0), .int (nI 5)]) d_Mo_allNumbers_74 rfl rfl ?_
      refine ew_goto (tgt := 19) d_Mo_allNumbers_77 (by decide) ?_
      refine en_eq (ls' := [.ref 47, .int (ew_b (X && sp_in (M 56 33) 12289)), .int (nI 0), .int (nI 5)]) (by rw [show (X && sp_in (M 56 33) 12289) = false from by rw [h42, Bool.and_false]]; rfl) rfl rfl ?_
      exact K
    · refine ew_iload_n d_Mo_allNumbers_45 rfl ?_
      refine ew_iconst (v := nI 3) d_Mo_allNumbers_46 (by decide) ?_
      refine en_icmp_gt (tgt := 68) d_Mo_allNumbers_47 (by decide) (by decide) (by decide) (fun h47 => ?_) (fun h47 => by exact absurd h47 (by decide))
      refine ew_iconst (v := nI 1) d_Mo_allNumbers_68 (by decide) ?_
      refine ew_goto (tgt := 73) d_Mo_allNumbers_69 (by decide) ?_
      refine en_istore_n (ls' := [.ref 47, .int (nI 1), .int (nI 0), .int (nI 4)]) d_Mo_allNumbers_73 (Nat.le_of_ble_eq_true rfl) rfl ?_
      refine en_inc (ls' := [.ref 47, .int (nI 1), .int (nI 0), .int (nI 5)]) d_Mo_allNumbers_74 rfl rfl ?_
      refine ew_goto (tgt := 19) d_Mo_allNumbers_77 (by decide) ?_
      refine en_eq (ls' := [.ref 47, .int (ew_b (X && sp_in (M 56 33) 12289)), .int (nI 0), .int (nI 5)]) (by rw [show (X && sp_in (M 56 33) 12289) = true from by rw [h26, h42]; rfl]; rfl) rfl rfl ?_
      exact K
set_option maxRecDepth 100000 in
theorem st_Mo_all_0_5 (l : Launch) (g : ew_G) (d L : Nat) (M : ew_M) (X : Bool) (Q : Option Value → List ew_S → ew_M → Prop) (K : Ew l g (d + 1) 0 0 m_Mo_allNumbers 19 [.ref 47, .int (ew_b (X && sp_in (M 56 39) 12289)), .int (nI 0), .int (nI 6)] [] (ew_SH L) M Q) :
    Ew l g (d + 1) 0 0 m_Mo_allNumbers 19 [.ref 47, .int (ew_b X), .int (nI 0), .int (nI 5)] [] (ew_SH L) M Q := by
  refine ew_iload_n d_Mo_allNumbers_19 rfl ?_
  refine ew_bipush (v := nI 10) d_Mo_allNumbers_20 (by decide) ?_
  refine en_icmp_ge (tgt := 80) d_Mo_allNumbers_22 (by decide) (by decide) (by decide) (fun h22 => by exact absurd h22 (by decide)) (fun h22 => ?_)
  refine ew_iload_n d_Mo_allNumbers_25 rfl ?_
  refine en_b_eq (tgt := 72) d_Mo_allNumbers_26 (by decide) (fun h26 => ?_) (fun h26 => ?_)
  · refine ew_iconst (v := nI 0) d_Mo_allNumbers_72 (by decide) ?_
    refine en_istore_n (ls' := [.ref 47, .int (nI 0), .int (nI 0), .int (nI 5)]) d_Mo_allNumbers_73 (Nat.le_of_ble_eq_true rfl) rfl ?_
    refine en_inc (ls' := [.ref 47, .int (nI 0), .int (nI 0), .int (nI 6)]) d_Mo_allNumbers_74 rfl rfl ?_
    refine ew_goto (tgt := 19) d_Mo_allNumbers_77 (by decide) ?_
    refine en_eq (ls' := [.ref 47, .int (ew_b (X && sp_in (M 56 39) 12289)), .int (nI 0), .int (nI 6)]) (by rw [show (X && sp_in (M 56 39) 12289) = false from by rw [h26, Bool.false_and]]; rfl) rfl rfl ?_
    exact K
  · refine ew_aload_n d_Mo_allNumbers_29 rfl ?_
    refine ew_getr (ci := 9) (f := 10) d_Mo_allNumbers_30 rfl rfl rfl tw_602 ?_
    refine ew_iload_n d_Mo_allNumbers_33 rfl ?_
    refine ew_iload_n d_Mo_allNumbers_34 rfl ?_
    refine en_callS (As := [.int (nI 0), .int (nI 5)]) (st := [.ref 56]) (st1 := [.int (nI 39), .ref 56]) d_Mo_allNumbers_35 k_Mo_placeOf tw_819 tw_820 rfl (Nat.le_of_ble_eq_true rfl) rfl (Nat.le_of_ble_eq_true rfl) rfl rfl (c_Mo_placeOf_0_5 l g _ L M) rfl ?_
    refine ew_iald (j := 39) d_Mo_allNumbers_38 rfl (rfl) (by decide) (by decide) ?_
    refine en_callS (As := [.int (M 56 39)]) (st := []) (st1 := [.int (ew_b (sp_in (M 56 39) 12289))]) d_Mo_allNumbers_39 k_Mo_isNumber tw_671 tw_672 rfl (Nat.le_of_ble_eq_true rfl) rfl (Nat.le_of_ble_eq_true rfl) rfl rfl (c_Mo_isNumber l g _ (ew_SH L) M (M 56 39)) rfl ?_
    refine en_b_eq (tgt := 72) d_Mo_allNumbers_42 (by decide) (fun h42 => ?_) (fun h42 => ?_)
    · refine ew_iconst (v := nI 0) d_Mo_allNumbers_72 (by decide) ?_
      refine en_istore_n (ls' := [.ref 47, .int (nI 0), .int (nI 0), .int (nI 5)]) d_Mo_allNumbers_73 (Nat.le_of_ble_eq_true rfl) rfl ?_
      refine en_inc (ls' := [.ref 47, .int (nI 0), .int (nI 0), .int (nI 6)]) d_Mo_allNumbers_74 rfl rfl ?_
      refine ew_goto (tgt := 19) d_Mo_allNumbers_77 (by decide) ?_
      refine en_eq (ls' := [.ref 47, .int (ew_b (X && sp_in (M 56 39) 12289)), .int (nI 0), .int (nI 6)]) (by rw [show (X && sp_in (M 56 39) 12289) = false from by rw [h42, Bool.and_false]]; rfl) rfl rfl ?_
      exact K
    · refine ew_iload_n d_Mo_allNumbers_45 rfl ?_
      refine ew_iconst (v := nI 3) d_Mo_allNumbers_46 (by decide) ?_
      refine en_icmp_gt (tgt := 68) d_Mo_allNumbers_47 (by decide) (by decide) (by decide) (fun h47 => ?_) (fun h47 => by exact absurd h47 (by decide))
      refine ew_iconst (v := nI 1) d_Mo_allNumbers_68 (by decide) ?_
      refine ew_goto (tgt := 73) d_Mo_allNumbers_69 (by decide) ?_
      refine en_istore_n (ls' := [.ref 47, .int (nI 1), .int (nI 0), .int (nI 5)]) d_Mo_allNumbers_73 (Nat.le_of_ble_eq_true rfl) rfl ?_
      refine en_inc (ls' := [.ref 47, .int (nI 1), .int (nI 0), .int (nI 6)]) d_Mo_allNumbers_74 rfl rfl ?_
      refine ew_goto (tgt := 19) d_Mo_allNumbers_77 (by decide) ?_
      refine en_eq (ls' := [.ref 47, .int (ew_b (X && sp_in (M 56 39) 12289)), .int (nI 0), .int (nI 6)]) (by rw [show (X && sp_in (M 56 39) 12289) = true from by rw [h26, h42]; rfl]; rfl) rfl rfl ?_
      exact K
set_option maxRecDepth 100000 in
theorem st_Mo_all_0_6 (l : Launch) (g : ew_G) (d L : Nat) (M : ew_M) (X : Bool) (Q : Option Value → List ew_S → ew_M → Prop) (K : Ew l g (d + 1) 0 0 m_Mo_allNumbers 19 [.ref 47, .int (ew_b (X && sp_in (M 56 45) 12289)), .int (nI 0), .int (nI 7)] [] (ew_SH L) M Q) :
    Ew l g (d + 1) 0 0 m_Mo_allNumbers 19 [.ref 47, .int (ew_b X), .int (nI 0), .int (nI 6)] [] (ew_SH L) M Q := by
  refine ew_iload_n d_Mo_allNumbers_19 rfl ?_
  refine ew_bipush (v := nI 10) d_Mo_allNumbers_20 (by decide) ?_
  refine en_icmp_ge (tgt := 80) d_Mo_allNumbers_22 (by decide) (by decide) (by decide) (fun h22 => by exact absurd h22 (by decide)) (fun h22 => ?_)
  refine ew_iload_n d_Mo_allNumbers_25 rfl ?_
  refine en_b_eq (tgt := 72) d_Mo_allNumbers_26 (by decide) (fun h26 => ?_) (fun h26 => ?_)
  · refine ew_iconst (v := nI 0) d_Mo_allNumbers_72 (by decide) ?_
    refine en_istore_n (ls' := [.ref 47, .int (nI 0), .int (nI 0), .int (nI 6)]) d_Mo_allNumbers_73 (Nat.le_of_ble_eq_true rfl) rfl ?_
    refine en_inc (ls' := [.ref 47, .int (nI 0), .int (nI 0), .int (nI 7)]) d_Mo_allNumbers_74 rfl rfl ?_
    refine ew_goto (tgt := 19) d_Mo_allNumbers_77 (by decide) ?_
    refine en_eq (ls' := [.ref 47, .int (ew_b (X && sp_in (M 56 45) 12289)), .int (nI 0), .int (nI 7)]) (by rw [show (X && sp_in (M 56 45) 12289) = false from by rw [h26, Bool.false_and]]; rfl) rfl rfl ?_
    exact K
  · refine ew_aload_n d_Mo_allNumbers_29 rfl ?_
    refine ew_getr (ci := 9) (f := 10) d_Mo_allNumbers_30 rfl rfl rfl tw_602 ?_
    refine ew_iload_n d_Mo_allNumbers_33 rfl ?_
    refine ew_iload_n d_Mo_allNumbers_34 rfl ?_
    refine en_callS (As := [.int (nI 0), .int (nI 6)]) (st := [.ref 56]) (st1 := [.int (nI 45), .ref 56]) d_Mo_allNumbers_35 k_Mo_placeOf tw_819 tw_820 rfl (Nat.le_of_ble_eq_true rfl) rfl (Nat.le_of_ble_eq_true rfl) rfl rfl (c_Mo_placeOf_0_6 l g _ L M) rfl ?_
    refine ew_iald (j := 45) d_Mo_allNumbers_38 rfl (rfl) (by decide) (by decide) ?_
    refine en_callS (As := [.int (M 56 45)]) (st := []) (st1 := [.int (ew_b (sp_in (M 56 45) 12289))]) d_Mo_allNumbers_39 k_Mo_isNumber tw_671 tw_672 rfl (Nat.le_of_ble_eq_true rfl) rfl (Nat.le_of_ble_eq_true rfl) rfl rfl (c_Mo_isNumber l g _ (ew_SH L) M (M 56 45)) rfl ?_
    refine en_b_eq (tgt := 72) d_Mo_allNumbers_42 (by decide) (fun h42 => ?_) (fun h42 => ?_)
    · refine ew_iconst (v := nI 0) d_Mo_allNumbers_72 (by decide) ?_
      refine en_istore_n (ls' := [.ref 47, .int (nI 0), .int (nI 0), .int (nI 6)]) d_Mo_allNumbers_73 (Nat.le_of_ble_eq_true rfl) rfl ?_
      refine en_inc (ls' := [.ref 47, .int (nI 0), .int (nI 0), .int (nI 7)]) d_Mo_allNumbers_74 rfl rfl ?_
      refine ew_goto (tgt := 19) d_Mo_allNumbers_77 (by decide) ?_
      refine en_eq (ls' := [.ref 47, .int (ew_b (X && sp_in (M 56 45) 12289)), .int (nI 0), .int (nI 7)]) (by rw [show (X && sp_in (M 56 45) 12289) = false from by rw [h42, Bool.and_false]]; rfl) rfl rfl ?_
      exact K
    · refine ew_iload_n d_Mo_allNumbers_45 rfl ?_
      refine ew_iconst (v := nI 3) d_Mo_allNumbers_46 (by decide) ?_
      refine en_icmp_gt (tgt := 68) d_Mo_allNumbers_47 (by decide) (by decide) (by decide) (fun h47 => ?_) (fun h47 => by exact absurd h47 (by decide))
      refine ew_iconst (v := nI 1) d_Mo_allNumbers_68 (by decide) ?_
      refine ew_goto (tgt := 73) d_Mo_allNumbers_69 (by decide) ?_
      refine en_istore_n (ls' := [.ref 47, .int (nI 1), .int (nI 0), .int (nI 6)]) d_Mo_allNumbers_73 (Nat.le_of_ble_eq_true rfl) rfl ?_
      refine en_inc (ls' := [.ref 47, .int (nI 1), .int (nI 0), .int (nI 7)]) d_Mo_allNumbers_74 rfl rfl ?_
      refine ew_goto (tgt := 19) d_Mo_allNumbers_77 (by decide) ?_
      refine en_eq (ls' := [.ref 47, .int (ew_b (X && sp_in (M 56 45) 12289)), .int (nI 0), .int (nI 7)]) (by rw [show (X && sp_in (M 56 45) 12289) = true from by rw [h26, h42]; rfl]; rfl) rfl rfl ?_
      exact K
set_option maxRecDepth 100000 in
theorem st_Mo_all_0_7 (l : Launch) (g : ew_G) (d L : Nat) (M : ew_M) (X : Bool) (Q : Option Value → List ew_S → ew_M → Prop) (K : Ew l g (d + 1) 0 0 m_Mo_allNumbers 19 [.ref 47, .int (ew_b (X && sp_in (M 56 50) 12289)), .int (nI 0), .int (nI 8)] [] (ew_SH L) M Q) :
    Ew l g (d + 1) 0 0 m_Mo_allNumbers 19 [.ref 47, .int (ew_b X), .int (nI 0), .int (nI 7)] [] (ew_SH L) M Q := by
  refine ew_iload_n d_Mo_allNumbers_19 rfl ?_
  refine ew_bipush (v := nI 10) d_Mo_allNumbers_20 (by decide) ?_
  refine en_icmp_ge (tgt := 80) d_Mo_allNumbers_22 (by decide) (by decide) (by decide) (fun h22 => by exact absurd h22 (by decide)) (fun h22 => ?_)
  refine ew_iload_n d_Mo_allNumbers_25 rfl ?_
  refine en_b_eq (tgt := 72) d_Mo_allNumbers_26 (by decide) (fun h26 => ?_) (fun h26 => ?_)
  · refine ew_iconst (v := nI 0) d_Mo_allNumbers_72 (by decide) ?_
    refine en_istore_n (ls' := [.ref 47, .int (nI 0), .int (nI 0), .int (nI 7)]) d_Mo_allNumbers_73 (Nat.le_of_ble_eq_true rfl) rfl ?_
    refine en_inc (ls' := [.ref 47, .int (nI 0), .int (nI 0), .int (nI 8)]) d_Mo_allNumbers_74 rfl rfl ?_
    refine ew_goto (tgt := 19) d_Mo_allNumbers_77 (by decide) ?_
    refine en_eq (ls' := [.ref 47, .int (ew_b (X && sp_in (M 56 50) 12289)), .int (nI 0), .int (nI 8)]) (by rw [show (X && sp_in (M 56 50) 12289) = false from by rw [h26, Bool.false_and]]; rfl) rfl rfl ?_
    exact K
  · refine ew_aload_n d_Mo_allNumbers_29 rfl ?_
    refine ew_getr (ci := 9) (f := 10) d_Mo_allNumbers_30 rfl rfl rfl tw_602 ?_
    refine ew_iload_n d_Mo_allNumbers_33 rfl ?_
    refine ew_iload_n d_Mo_allNumbers_34 rfl ?_
    refine en_callS (As := [.int (nI 0), .int (nI 7)]) (st := [.ref 56]) (st1 := [.int (nI 50), .ref 56]) d_Mo_allNumbers_35 k_Mo_placeOf tw_819 tw_820 rfl (Nat.le_of_ble_eq_true rfl) rfl (Nat.le_of_ble_eq_true rfl) rfl rfl (c_Mo_placeOf_0_7 l g _ L M) rfl ?_
    refine ew_iald (j := 50) d_Mo_allNumbers_38 rfl (rfl) (by decide) (by decide) ?_
    refine en_callS (As := [.int (M 56 50)]) (st := []) (st1 := [.int (ew_b (sp_in (M 56 50) 12289))]) d_Mo_allNumbers_39 k_Mo_isNumber tw_671 tw_672 rfl (Nat.le_of_ble_eq_true rfl) rfl (Nat.le_of_ble_eq_true rfl) rfl rfl (c_Mo_isNumber l g _ (ew_SH L) M (M 56 50)) rfl ?_
    refine en_b_eq (tgt := 72) d_Mo_allNumbers_42 (by decide) (fun h42 => ?_) (fun h42 => ?_)
    · refine ew_iconst (v := nI 0) d_Mo_allNumbers_72 (by decide) ?_
      refine en_istore_n (ls' := [.ref 47, .int (nI 0), .int (nI 0), .int (nI 7)]) d_Mo_allNumbers_73 (Nat.le_of_ble_eq_true rfl) rfl ?_
      refine en_inc (ls' := [.ref 47, .int (nI 0), .int (nI 0), .int (nI 8)]) d_Mo_allNumbers_74 rfl rfl ?_
      refine ew_goto (tgt := 19) d_Mo_allNumbers_77 (by decide) ?_
      refine en_eq (ls' := [.ref 47, .int (ew_b (X && sp_in (M 56 50) 12289)), .int (nI 0), .int (nI 8)]) (by rw [show (X && sp_in (M 56 50) 12289) = false from by rw [h42, Bool.and_false]]; rfl) rfl rfl ?_
      exact K
    · refine ew_iload_n d_Mo_allNumbers_45 rfl ?_
      refine ew_iconst (v := nI 3) d_Mo_allNumbers_46 (by decide) ?_
      refine en_icmp_gt (tgt := 68) d_Mo_allNumbers_47 (by decide) (by decide) (by decide) (fun h47 => ?_) (fun h47 => by exact absurd h47 (by decide))
      refine ew_iconst (v := nI 1) d_Mo_allNumbers_68 (by decide) ?_
      refine ew_goto (tgt := 73) d_Mo_allNumbers_69 (by decide) ?_
      refine en_istore_n (ls' := [.ref 47, .int (nI 1), .int (nI 0), .int (nI 7)]) d_Mo_allNumbers_73 (Nat.le_of_ble_eq_true rfl) rfl ?_
      refine en_inc (ls' := [.ref 47, .int (nI 1), .int (nI 0), .int (nI 8)]) d_Mo_allNumbers_74 rfl rfl ?_
      refine ew_goto (tgt := 19) d_Mo_allNumbers_77 (by decide) ?_
      refine en_eq (ls' := [.ref 47, .int (ew_b (X && sp_in (M 56 50) 12289)), .int (nI 0), .int (nI 8)]) (by rw [show (X && sp_in (M 56 50) 12289) = true from by rw [h26, h42]; rfl]; rfl) rfl rfl ?_
      exact K
set_option maxRecDepth 100000 in
theorem st_Mo_all_0_8 (l : Launch) (g : ew_G) (d L : Nat) (M : ew_M) (X : Bool) (Q : Option Value → List ew_S → ew_M → Prop) (K : Ew l g (d + 1) 0 0 m_Mo_allNumbers 19 [.ref 47, .int (ew_b (X && sp_in (M 56 55) 12289)), .int (nI 0), .int (nI 9)] [] (ew_SH L) M Q) :
    Ew l g (d + 1) 0 0 m_Mo_allNumbers 19 [.ref 47, .int (ew_b X), .int (nI 0), .int (nI 8)] [] (ew_SH L) M Q := by
  refine ew_iload_n d_Mo_allNumbers_19 rfl ?_
  refine ew_bipush (v := nI 10) d_Mo_allNumbers_20 (by decide) ?_
  refine en_icmp_ge (tgt := 80) d_Mo_allNumbers_22 (by decide) (by decide) (by decide) (fun h22 => by exact absurd h22 (by decide)) (fun h22 => ?_)
  refine ew_iload_n d_Mo_allNumbers_25 rfl ?_
  refine en_b_eq (tgt := 72) d_Mo_allNumbers_26 (by decide) (fun h26 => ?_) (fun h26 => ?_)
  · refine ew_iconst (v := nI 0) d_Mo_allNumbers_72 (by decide) ?_
    refine en_istore_n (ls' := [.ref 47, .int (nI 0), .int (nI 0), .int (nI 8)]) d_Mo_allNumbers_73 (Nat.le_of_ble_eq_true rfl) rfl ?_
    refine en_inc (ls' := [.ref 47, .int (nI 0), .int (nI 0), .int (nI 9)]) d_Mo_allNumbers_74 rfl rfl ?_
    refine ew_goto (tgt := 19) d_Mo_allNumbers_77 (by decide) ?_
    refine en_eq (ls' := [.ref 47, .int (ew_b (X && sp_in (M 56 55) 12289)), .int (nI 0), .int (nI 9)]) (by rw [show (X && sp_in (M 56 55) 12289) = false from by rw [h26, Bool.false_and]]; rfl) rfl rfl ?_
    exact K
  · refine ew_aload_n d_Mo_allNumbers_29 rfl ?_
    refine ew_getr (ci := 9) (f := 10) d_Mo_allNumbers_30 rfl rfl rfl tw_602 ?_
    refine ew_iload_n d_Mo_allNumbers_33 rfl ?_
    refine ew_iload_n d_Mo_allNumbers_34 rfl ?_
    refine en_callS (As := [.int (nI 0), .int (nI 8)]) (st := [.ref 56]) (st1 := [.int (nI 55), .ref 56]) d_Mo_allNumbers_35 k_Mo_placeOf tw_819 tw_820 rfl (Nat.le_of_ble_eq_true rfl) rfl (Nat.le_of_ble_eq_true rfl) rfl rfl (c_Mo_placeOf_0_8 l g _ L M) rfl ?_
    refine ew_iald (j := 55) d_Mo_allNumbers_38 rfl (rfl) (by decide) (by decide) ?_
    refine en_callS (As := [.int (M 56 55)]) (st := []) (st1 := [.int (ew_b (sp_in (M 56 55) 12289))]) d_Mo_allNumbers_39 k_Mo_isNumber tw_671 tw_672 rfl (Nat.le_of_ble_eq_true rfl) rfl (Nat.le_of_ble_eq_true rfl) rfl rfl (c_Mo_isNumber l g _ (ew_SH L) M (M 56 55)) rfl ?_
    refine en_b_eq (tgt := 72) d_Mo_allNumbers_42 (by decide) (fun h42 => ?_) (fun h42 => ?_)
    · refine ew_iconst (v := nI 0) d_Mo_allNumbers_72 (by decide) ?_
      refine en_istore_n (ls' := [.ref 47, .int (nI 0), .int (nI 0), .int (nI 8)]) d_Mo_allNumbers_73 (Nat.le_of_ble_eq_true rfl) rfl ?_
      refine en_inc (ls' := [.ref 47, .int (nI 0), .int (nI 0), .int (nI 9)]) d_Mo_allNumbers_74 rfl rfl ?_
      refine ew_goto (tgt := 19) d_Mo_allNumbers_77 (by decide) ?_
      refine en_eq (ls' := [.ref 47, .int (ew_b (X && sp_in (M 56 55) 12289)), .int (nI 0), .int (nI 9)]) (by rw [show (X && sp_in (M 56 55) 12289) = false from by rw [h42, Bool.and_false]]; rfl) rfl rfl ?_
      exact K
    · refine ew_iload_n d_Mo_allNumbers_45 rfl ?_
      refine ew_iconst (v := nI 3) d_Mo_allNumbers_46 (by decide) ?_
      refine en_icmp_gt (tgt := 68) d_Mo_allNumbers_47 (by decide) (by decide) (by decide) (fun h47 => ?_) (fun h47 => by exact absurd h47 (by decide))
      refine ew_iconst (v := nI 1) d_Mo_allNumbers_68 (by decide) ?_
      refine ew_goto (tgt := 73) d_Mo_allNumbers_69 (by decide) ?_
      refine en_istore_n (ls' := [.ref 47, .int (nI 1), .int (nI 0), .int (nI 8)]) d_Mo_allNumbers_73 (Nat.le_of_ble_eq_true rfl) rfl ?_
      refine en_inc (ls' := [.ref 47, .int (nI 1), .int (nI 0), .int (nI 9)]) d_Mo_allNumbers_74 rfl rfl ?_
      refine ew_goto (tgt := 19) d_Mo_allNumbers_77 (by decide) ?_
      refine en_eq (ls' := [.ref 47, .int (ew_b (X && sp_in (M 56 55) 12289)), .int (nI 0), .int (nI 9)]) (by rw [show (X && sp_in (M 56 55) 12289) = true from by rw [h26, h42]; rfl]; rfl) rfl rfl ?_
      exact K
set_option maxRecDepth 100000 in
theorem st_Mo_all_0_9 (l : Launch) (g : ew_G) (d L : Nat) (M : ew_M) (X : Bool) (Q : Option Value → List ew_S → ew_M → Prop) (K : Ew l g (d + 1) 0 0 m_Mo_allNumbers 19 [.ref 47, .int (ew_b (X && sp_in (M 56 59) 12289)), .int (nI 0), .int (nI 10)] [] (ew_SH L) M Q) :
    Ew l g (d + 1) 0 0 m_Mo_allNumbers 19 [.ref 47, .int (ew_b X), .int (nI 0), .int (nI 9)] [] (ew_SH L) M Q := by
  refine ew_iload_n d_Mo_allNumbers_19 rfl ?_
  refine ew_bipush (v := nI 10) d_Mo_allNumbers_20 (by decide) ?_
  refine en_icmp_ge (tgt := 80) d_Mo_allNumbers_22 (by decide) (by decide) (by decide) (fun h22 => by exact absurd h22 (by decide)) (fun h22 => ?_)
  refine ew_iload_n d_Mo_allNumbers_25 rfl ?_
  refine en_b_eq (tgt := 72) d_Mo_allNumbers_26 (by decide) (fun h26 => ?_) (fun h26 => ?_)
  · refine ew_iconst (v := nI 0) d_Mo_allNumbers_72 (by decide) ?_
    refine en_istore_n (ls' := [.ref 47, .int (nI 0), .int (nI 0), .int (nI 9)]) d_Mo_allNumbers_73 (Nat.le_of_ble_eq_true rfl) rfl ?_
    refine en_inc (ls' := [.ref 47, .int (nI 0), .int (nI 0), .int (nI 10)]) d_Mo_allNumbers_74 rfl rfl ?_
    refine ew_goto (tgt := 19) d_Mo_allNumbers_77 (by decide) ?_
    refine en_eq (ls' := [.ref 47, .int (ew_b (X && sp_in (M 56 59) 12289)), .int (nI 0), .int (nI 10)]) (by rw [show (X && sp_in (M 56 59) 12289) = false from by rw [h26, Bool.false_and]]; rfl) rfl rfl ?_
    exact K
  · refine ew_aload_n d_Mo_allNumbers_29 rfl ?_
    refine ew_getr (ci := 9) (f := 10) d_Mo_allNumbers_30 rfl rfl rfl tw_602 ?_
    refine ew_iload_n d_Mo_allNumbers_33 rfl ?_
    refine ew_iload_n d_Mo_allNumbers_34 rfl ?_
    refine en_callS (As := [.int (nI 0), .int (nI 9)]) (st := [.ref 56]) (st1 := [.int (nI 59), .ref 56]) d_Mo_allNumbers_35 k_Mo_placeOf tw_819 tw_820 rfl (Nat.le_of_ble_eq_true rfl) rfl (Nat.le_of_ble_eq_true rfl) rfl rfl (c_Mo_placeOf_0_9 l g _ L M) rfl ?_
    refine ew_iald (j := 59) d_Mo_allNumbers_38 rfl (rfl) (by decide) (by decide) ?_
    refine en_callS (As := [.int (M 56 59)]) (st := []) (st1 := [.int (ew_b (sp_in (M 56 59) 12289))]) d_Mo_allNumbers_39 k_Mo_isNumber tw_671 tw_672 rfl (Nat.le_of_ble_eq_true rfl) rfl (Nat.le_of_ble_eq_true rfl) rfl rfl (c_Mo_isNumber l g _ (ew_SH L) M (M 56 59)) rfl ?_
    refine en_b_eq (tgt := 72) d_Mo_allNumbers_42 (by decide) (fun h42 => ?_) (fun h42 => ?_)
    · refine ew_iconst (v := nI 0) d_Mo_allNumbers_72 (by decide) ?_
      refine en_istore_n (ls' := [.ref 47, .int (nI 0), .int (nI 0), .int (nI 9)]) d_Mo_allNumbers_73 (Nat.le_of_ble_eq_true rfl) rfl ?_
      refine en_inc (ls' := [.ref 47, .int (nI 0), .int (nI 0), .int (nI 10)]) d_Mo_allNumbers_74 rfl rfl ?_
      refine ew_goto (tgt := 19) d_Mo_allNumbers_77 (by decide) ?_
      refine en_eq (ls' := [.ref 47, .int (ew_b (X && sp_in (M 56 59) 12289)), .int (nI 0), .int (nI 10)]) (by rw [show (X && sp_in (M 56 59) 12289) = false from by rw [h42, Bool.and_false]]; rfl) rfl rfl ?_
      exact K
    · refine ew_iload_n d_Mo_allNumbers_45 rfl ?_
      refine ew_iconst (v := nI 3) d_Mo_allNumbers_46 (by decide) ?_
      refine en_icmp_gt (tgt := 68) d_Mo_allNumbers_47 (by decide) (by decide) (by decide) (fun h47 => ?_) (fun h47 => by exact absurd h47 (by decide))
      refine ew_iconst (v := nI 1) d_Mo_allNumbers_68 (by decide) ?_
      refine ew_goto (tgt := 73) d_Mo_allNumbers_69 (by decide) ?_
      refine en_istore_n (ls' := [.ref 47, .int (nI 1), .int (nI 0), .int (nI 9)]) d_Mo_allNumbers_73 (Nat.le_of_ble_eq_true rfl) rfl ?_
      refine en_inc (ls' := [.ref 47, .int (nI 1), .int (nI 0), .int (nI 10)]) d_Mo_allNumbers_74 rfl rfl ?_
      refine ew_goto (tgt := 19) d_Mo_allNumbers_77 (by decide) ?_
      refine en_eq (ls' := [.ref 47, .int (ew_b (X && sp_in (M 56 59) 12289)), .int (nI 0), .int (nI 10)]) (by rw [show (X && sp_in (M 56 59) 12289) = true from by rw [h26, h42]; rfl]; rfl) rfl rfl ?_
      exact K
set_option maxRecDepth 100000 in
theorem st_Mo_all_1_0 (l : Launch) (g : ew_G) (d L : Nat) (M : ew_M) (X : Bool) (Q : Option Value → List ew_S → ew_M → Prop) (K : Ew l g (d + 1) 0 0 m_Mo_allNumbers 19 [.ref 47, .int (ew_b (X && (sp_in (M 56 63) 12289 && sp_in (M 56 64) 12289))), .int (nI 1), .int (nI 1)] [] (ew_SH L) M Q) :
    Ew l g (d + 1) 0 0 m_Mo_allNumbers 19 [.ref 47, .int (ew_b X), .int (nI 1), .int (nI 0)] [] (ew_SH L) M Q := by
  refine ew_iload_n d_Mo_allNumbers_19 rfl ?_
  refine ew_bipush (v := nI 10) d_Mo_allNumbers_20 (by decide) ?_
  refine en_icmp_ge (tgt := 80) d_Mo_allNumbers_22 (by decide) (by decide) (by decide) (fun h22 => by exact absurd h22 (by decide)) (fun h22 => ?_)
  refine ew_iload_n d_Mo_allNumbers_25 rfl ?_
  refine en_b_eq (tgt := 72) d_Mo_allNumbers_26 (by decide) (fun h26 => ?_) (fun h26 => ?_)
  · refine ew_iconst (v := nI 0) d_Mo_allNumbers_72 (by decide) ?_
    refine en_istore_n (ls' := [.ref 47, .int (nI 0), .int (nI 1), .int (nI 0)]) d_Mo_allNumbers_73 (Nat.le_of_ble_eq_true rfl) rfl ?_
    refine en_inc (ls' := [.ref 47, .int (nI 0), .int (nI 1), .int (nI 1)]) d_Mo_allNumbers_74 rfl rfl ?_
    refine ew_goto (tgt := 19) d_Mo_allNumbers_77 (by decide) ?_
    refine en_eq (ls' := [.ref 47, .int (ew_b (X && (sp_in (M 56 63) 12289 && sp_in (M 56 64) 12289))), .int (nI 1), .int (nI 1)]) (by rw [show (X && (sp_in (M 56 63) 12289 && sp_in (M 56 64) 12289)) = false from by rw [h26, Bool.false_and]]; rfl) rfl rfl ?_
    exact K
  · refine ew_aload_n d_Mo_allNumbers_29 rfl ?_
    refine ew_getr (ci := 9) (f := 10) d_Mo_allNumbers_30 rfl rfl rfl tw_602 ?_
    refine ew_iload_n d_Mo_allNumbers_33 rfl ?_
    refine ew_iload_n d_Mo_allNumbers_34 rfl ?_
    refine en_callS (As := [.int (nI 1), .int (nI 0)]) (st := [.ref 56]) (st1 := [.int (nI 63), .ref 56]) d_Mo_allNumbers_35 k_Mo_placeOf tw_819 tw_820 rfl (Nat.le_of_ble_eq_true rfl) rfl (Nat.le_of_ble_eq_true rfl) rfl rfl (c_Mo_placeOf_1_0 l g _ L M) rfl ?_
    refine ew_iald (j := 63) d_Mo_allNumbers_38 rfl (rfl) (by decide) (by decide) ?_
    refine en_callS (As := [.int (M 56 63)]) (st := []) (st1 := [.int (ew_b (sp_in (M 56 63) 12289))]) d_Mo_allNumbers_39 k_Mo_isNumber tw_671 tw_672 rfl (Nat.le_of_ble_eq_true rfl) rfl (Nat.le_of_ble_eq_true rfl) rfl rfl (c_Mo_isNumber l g _ (ew_SH L) M (M 56 63)) rfl ?_
    refine en_b_eq (tgt := 72) d_Mo_allNumbers_42 (by decide) (fun h42 => ?_) (fun h42 => ?_)
    · refine ew_iconst (v := nI 0) d_Mo_allNumbers_72 (by decide) ?_
      refine en_istore_n (ls' := [.ref 47, .int (nI 0), .int (nI 1), .int (nI 0)]) d_Mo_allNumbers_73 (Nat.le_of_ble_eq_true rfl) rfl ?_
      refine en_inc (ls' := [.ref 47, .int (nI 0), .int (nI 1), .int (nI 1)]) d_Mo_allNumbers_74 rfl rfl ?_
      refine ew_goto (tgt := 19) d_Mo_allNumbers_77 (by decide) ?_
      refine en_eq (ls' := [.ref 47, .int (ew_b (X && (sp_in (M 56 63) 12289 && sp_in (M 56 64) 12289))), .int (nI 1), .int (nI 1)]) (by rw [show (X && (sp_in (M 56 63) 12289 && sp_in (M 56 64) 12289)) = false from by rw [h42, Bool.false_and, Bool.and_false]]; rfl) rfl rfl ?_
      exact K
    · refine ew_iload_n d_Mo_allNumbers_45 rfl ?_
      refine ew_iconst (v := nI 3) d_Mo_allNumbers_46 (by decide) ?_
      refine en_icmp_gt (tgt := 68) d_Mo_allNumbers_47 (by decide) (by decide) (by decide) (fun h47 => by exact absurd h47 (by decide)) (fun h47 => ?_)
      refine ew_aload_n d_Mo_allNumbers_50 rfl ?_
      refine ew_getr (ci := 9) (f := 10) d_Mo_allNumbers_51 rfl rfl rfl tw_602 ?_
      refine ew_iload_n d_Mo_allNumbers_54 rfl ?_
      refine ew_iload_n d_Mo_allNumbers_55 rfl ?_
      refine en_callS (As := [.int (nI 1), .int (nI 0)]) (st := [.ref 56]) (st1 := [.int (nI 63), .ref 56]) d_Mo_allNumbers_56 k_Mo_placeOf tw_819 tw_820 rfl (Nat.le_of_ble_eq_true rfl) rfl (Nat.le_of_ble_eq_true rfl) rfl rfl (c_Mo_placeOf_1_0 l g _ L M) rfl ?_
      refine ew_iconst (v := nI 1) d_Mo_allNumbers_59 (by decide) ?_
      refine en_iadd d_Mo_allNumbers_60 ?_
      refine en_eq rfl (show _ = [.int (nI 64), .ref 56] from rfl) rfl ?_
      refine ew_iald (j := 64) d_Mo_allNumbers_61 rfl (rfl) (by decide) (by decide) ?_
      refine en_callS (As := [.int (M 56 64)]) (st := []) (st1 := [.int (ew_b (sp_in (M 56 64) 12289))]) d_Mo_allNumbers_62 k_Mo_isNumber tw_671 tw_672 rfl (Nat.le_of_ble_eq_true rfl) rfl (Nat.le_of_ble_eq_true rfl) rfl rfl (c_Mo_isNumber l g _ (ew_SH L) M (M 56 64)) rfl ?_
      refine en_b_eq (tgt := 72) d_Mo_allNumbers_65 (by decide) (fun h65 => ?_) (fun h65 => ?_)
      · refine ew_iconst (v := nI 0) d_Mo_allNumbers_72 (by decide) ?_
        refine en_istore_n (ls' := [.ref 47, .int (nI 0), .int (nI 1), .int (nI 0)]) d_Mo_allNumbers_73 (Nat.le_of_ble_eq_true rfl) rfl ?_
        refine en_inc (ls' := [.ref 47, .int (nI 0), .int (nI 1), .int (nI 1)]) d_Mo_allNumbers_74 rfl rfl ?_
        refine ew_goto (tgt := 19) d_Mo_allNumbers_77 (by decide) ?_
        refine en_eq (ls' := [.ref 47, .int (ew_b (X && (sp_in (M 56 63) 12289 && sp_in (M 56 64) 12289))), .int (nI 1), .int (nI 1)]) (by rw [show (X && (sp_in (M 56 63) 12289 && sp_in (M 56 64) 12289)) = false from by rw [h65, Bool.and_false, Bool.and_false]]; rfl) rfl rfl ?_
        exact K
      · refine ew_iconst (v := nI 1) d_Mo_allNumbers_68 (by decide) ?_
        refine ew_goto (tgt := 73) d_Mo_allNumbers_69 (by decide) ?_
        refine en_istore_n (ls' := [.ref 47, .int (nI 1), .int (nI 1), .int (nI 0)]) d_Mo_allNumbers_73 (Nat.le_of_ble_eq_true rfl) rfl ?_
        refine en_inc (ls' := [.ref 47, .int (nI 1), .int (nI 1), .int (nI 1)]) d_Mo_allNumbers_74 rfl rfl ?_
        refine ew_goto (tgt := 19) d_Mo_allNumbers_77 (by decide) ?_
        refine en_eq (ls' := [.ref 47, .int (ew_b (X && (sp_in (M 56 63) 12289 && sp_in (M 56 64) 12289))), .int (nI 1), .int (nI 1)]) (by rw [show (X && (sp_in (M 56 63) 12289 && sp_in (M 56 64) 12289)) = true from by rw [h26, h42, h65]; rfl]; rfl) rfl rfl ?_
        exact K
set_option maxRecDepth 100000 in
theorem st_Mo_all_1_1 (l : Launch) (g : ew_G) (d L : Nat) (M : ew_M) (X : Bool) (Q : Option Value → List ew_S → ew_M → Prop) (K : Ew l g (d + 1) 0 0 m_Mo_allNumbers 19 [.ref 47, .int (ew_b (X && (sp_in (M 56 70) 12289 && sp_in (M 56 71) 12289))), .int (nI 1), .int (nI 2)] [] (ew_SH L) M Q) :
    Ew l g (d + 1) 0 0 m_Mo_allNumbers 19 [.ref 47, .int (ew_b X), .int (nI 1), .int (nI 1)] [] (ew_SH L) M Q := by
  refine ew_iload_n d_Mo_allNumbers_19 rfl ?_
  refine ew_bipush (v := nI 10) d_Mo_allNumbers_20 (by decide) ?_
  refine en_icmp_ge (tgt := 80) d_Mo_allNumbers_22 (by decide) (by decide) (by decide) (fun h22 => by exact absurd h22 (by decide)) (fun h22 => ?_)
  refine ew_iload_n d_Mo_allNumbers_25 rfl ?_
  refine en_b_eq (tgt := 72) d_Mo_allNumbers_26 (by decide) (fun h26 => ?_) (fun h26 => ?_)
  · refine ew_iconst (v := nI 0) d_Mo_allNumbers_72 (by decide) ?_
    refine en_istore_n (ls' := [.ref 47, .int (nI 0), .int (nI 1), .int (nI 1)]) d_Mo_allNumbers_73 (Nat.le_of_ble_eq_true rfl) rfl ?_
    refine en_inc (ls' := [.ref 47, .int (nI 0), .int (nI 1), .int (nI 2)]) d_Mo_allNumbers_74 rfl rfl ?_
    refine ew_goto (tgt := 19) d_Mo_allNumbers_77 (by decide) ?_
    refine en_eq (ls' := [.ref 47, .int (ew_b (X && (sp_in (M 56 70) 12289 && sp_in (M 56 71) 12289))), .int (nI 1), .int (nI 2)]) (by rw [show (X && (sp_in (M 56 70) 12289 && sp_in (M 56 71) 12289)) = false from by rw [h26, Bool.false_and]]; rfl) rfl rfl ?_
    exact K
  · refine ew_aload_n d_Mo_allNumbers_29 rfl ?_
    refine ew_getr (ci := 9) (f := 10) d_Mo_allNumbers_30 rfl rfl rfl tw_602 ?_
    refine ew_iload_n d_Mo_allNumbers_33 rfl ?_
    refine ew_iload_n d_Mo_allNumbers_34 rfl ?_
    refine en_callS (As := [.int (nI 1), .int (nI 1)]) (st := [.ref 56]) (st1 := [.int (nI 70), .ref 56]) d_Mo_allNumbers_35 k_Mo_placeOf tw_819 tw_820 rfl (Nat.le_of_ble_eq_true rfl) rfl (Nat.le_of_ble_eq_true rfl) rfl rfl (c_Mo_placeOf_1_1 l g _ L M) rfl ?_
    refine ew_iald (j := 70) d_Mo_allNumbers_38 rfl (rfl) (by decide) (by decide) ?_
    refine en_callS (As := [.int (M 56 70)]) (st := []) (st1 := [.int (ew_b (sp_in (M 56 70) 12289))]) d_Mo_allNumbers_39 k_Mo_isNumber tw_671 tw_672 rfl (Nat.le_of_ble_eq_true rfl) rfl (Nat.le_of_ble_eq_true rfl) rfl rfl (c_Mo_isNumber l g _ (ew_SH L) M (M 56 70)) rfl ?_
    refine en_b_eq (tgt := 72) d_Mo_allNumbers_42 (by decide) (fun h42 => ?_) (fun h42 => ?_)
    · refine ew_iconst (v := nI 0) d_Mo_allNumbers_72 (by decide) ?_
      refine en_istore_n (ls' := [.ref 47, .int (nI 0), .int (nI 1), .int (nI 1)]) d_Mo_allNumbers_73 (Nat.le_of_ble_eq_true rfl) rfl ?_
      refine en_inc (ls' := [.ref 47, .int (nI 0), .int (nI 1), .int (nI 2)]) d_Mo_allNumbers_74 rfl rfl ?_
      refine ew_goto (tgt := 19) d_Mo_allNumbers_77 (by decide) ?_
      refine en_eq (ls' := [.ref 47, .int (ew_b (X && (sp_in (M 56 70) 12289 && sp_in (M 56 71) 12289))), .int (nI 1), .int (nI 2)]) (by rw [show (X && (sp_in (M 56 70) 12289 && sp_in (M 56 71) 12289)) = false from by rw [h42, Bool.false_and, Bool.and_false]]; rfl) rfl rfl ?_
      exact K
    · refine ew_iload_n d_Mo_allNumbers_45 rfl ?_
      refine ew_iconst (v := nI 3) d_Mo_allNumbers_46 (by decide) ?_
      refine en_icmp_gt (tgt := 68) d_Mo_allNumbers_47 (by decide) (by decide) (by decide) (fun h47 => by exact absurd h47 (by decide)) (fun h47 => ?_)
      refine ew_aload_n d_Mo_allNumbers_50 rfl ?_
      refine ew_getr (ci := 9) (f := 10) d_Mo_allNumbers_51 rfl rfl rfl tw_602 ?_
      refine ew_iload_n d_Mo_allNumbers_54 rfl ?_
      refine ew_iload_n d_Mo_allNumbers_55 rfl ?_
      refine en_callS (As := [.int (nI 1), .int (nI 1)]) (st := [.ref 56]) (st1 := [.int (nI 70), .ref 56]) d_Mo_allNumbers_56 k_Mo_placeOf tw_819 tw_820 rfl (Nat.le_of_ble_eq_true rfl) rfl (Nat.le_of_ble_eq_true rfl) rfl rfl (c_Mo_placeOf_1_1 l g _ L M) rfl ?_
      refine ew_iconst (v := nI 1) d_Mo_allNumbers_59 (by decide) ?_
      refine en_iadd d_Mo_allNumbers_60 ?_
      refine en_eq rfl (show _ = [.int (nI 71), .ref 56] from rfl) rfl ?_
      refine ew_iald (j := 71) d_Mo_allNumbers_61 rfl (rfl) (by decide) (by decide) ?_
      refine en_callS (As := [.int (M 56 71)]) (st := []) (st1 := [.int (ew_b (sp_in (M 56 71) 12289))]) d_Mo_allNumbers_62 k_Mo_isNumber tw_671 tw_672 rfl (Nat.le_of_ble_eq_true rfl) rfl (Nat.le_of_ble_eq_true rfl) rfl rfl (c_Mo_isNumber l g _ (ew_SH L) M (M 56 71)) rfl ?_
      refine en_b_eq (tgt := 72) d_Mo_allNumbers_65 (by decide) (fun h65 => ?_) (fun h65 => ?_)
      · refine ew_iconst (v := nI 0) d_Mo_allNumbers_72 (by decide) ?_
        refine en_istore_n (ls' := [.ref 47, .int (nI 0), .int (nI 1), .int (nI 1)]) d_Mo_allNumbers_73 (Nat.le_of_ble_eq_true rfl) rfl ?_
        refine en_inc (ls' := [.ref 47, .int (nI 0), .int (nI 1), .int (nI 2)]) d_Mo_allNumbers_74 rfl rfl ?_
        refine ew_goto (tgt := 19) d_Mo_allNumbers_77 (by decide) ?_
        refine en_eq (ls' := [.ref 47, .int (ew_b (X && (sp_in (M 56 70) 12289 && sp_in (M 56 71) 12289))), .int (nI 1), .int (nI 2)]) (by rw [show (X && (sp_in (M 56 70) 12289 && sp_in (M 56 71) 12289)) = false from by rw [h65, Bool.and_false, Bool.and_false]]; rfl) rfl rfl ?_
        exact K
      · refine ew_iconst (v := nI 1) d_Mo_allNumbers_68 (by decide) ?_
        refine ew_goto (tgt := 73) d_Mo_allNumbers_69 (by decide) ?_
        refine en_istore_n (ls' := [.ref 47, .int (nI 1), .int (nI 1), .int (nI 1)]) d_Mo_allNumbers_73 (Nat.le_of_ble_eq_true rfl) rfl ?_
        refine en_inc (ls' := [.ref 47, .int (nI 1), .int (nI 1), .int (nI 2)]) d_Mo_allNumbers_74 rfl rfl ?_
        refine ew_goto (tgt := 19) d_Mo_allNumbers_77 (by decide) ?_
        refine en_eq (ls' := [.ref 47, .int (ew_b (X && (sp_in (M 56 70) 12289 && sp_in (M 56 71) 12289))), .int (nI 1), .int (nI 2)]) (by rw [show (X && (sp_in (M 56 70) 12289 && sp_in (M 56 71) 12289)) = true from by rw [h26, h42, h65]; rfl]; rfl) rfl rfl ?_
        exact K
set_option maxRecDepth 100000 in
theorem st_Mo_all_1_2 (l : Launch) (g : ew_G) (d L : Nat) (M : ew_M) (X : Bool) (Q : Option Value → List ew_S → ew_M → Prop) (K : Ew l g (d + 1) 0 0 m_Mo_allNumbers 19 [.ref 47, .int (ew_b (X && (sp_in (M 56 77) 12289 && sp_in (M 56 78) 12289))), .int (nI 1), .int (nI 3)] [] (ew_SH L) M Q) :
    Ew l g (d + 1) 0 0 m_Mo_allNumbers 19 [.ref 47, .int (ew_b X), .int (nI 1), .int (nI 2)] [] (ew_SH L) M Q := by
  refine ew_iload_n d_Mo_allNumbers_19 rfl ?_
  refine ew_bipush (v := nI 10) d_Mo_allNumbers_20 (by decide) ?_
  refine en_icmp_ge (tgt := 80) d_Mo_allNumbers_22 (by decide) (by decide) (by decide) (fun h22 => by exact absurd h22 (by decide)) (fun h22 => ?_)
  refine ew_iload_n d_Mo_allNumbers_25 rfl ?_
  refine en_b_eq (tgt := 72) d_Mo_allNumbers_26 (by decide) (fun h26 => ?_) (fun h26 => ?_)
  · refine ew_iconst (v := nI 0) d_Mo_allNumbers_72 (by decide) ?_
    refine en_istore_n (ls' := [.ref 47, .int (nI 0), .int (nI 1), .int (nI 2)]) d_Mo_allNumbers_73 (Nat.le_of_ble_eq_true rfl) rfl ?_
    refine en_inc (ls' := [.ref 47, .int (nI 0), .int (nI 1), .int (nI 3)]) d_Mo_allNumbers_74 rfl rfl ?_
    refine ew_goto (tgt := 19) d_Mo_allNumbers_77 (by decide) ?_
    refine en_eq (ls' := [.ref 47, .int (ew_b (X && (sp_in (M 56 77) 12289 && sp_in (M 56 78) 12289))), .int (nI 1), .int (nI 3)]) (by rw [show (X && (sp_in (M 56 77) 12289 && sp_in (M 56 78) 12289)) = false from by rw [h26, Bool.false_and]]; rfl) rfl rfl ?_
    exact K
  · refine ew_aload_n d_Mo_allNumbers_29 rfl ?_
    refine ew_getr (ci := 9) (f := 10) d_Mo_allNumbers_30 rfl rfl rfl tw_602 ?_
    refine ew_iload_n d_Mo_allNumbers_33 rfl ?_
    refine ew_iload_n d_Mo_allNumbers_34 rfl ?_
    refine en_callS (As := [.int (nI 1), .int (nI 2)]) (st := [.ref 56]) (st1 := [.int (nI 77), .ref 56]) d_Mo_allNumbers_35 k_Mo_placeOf tw_819 tw_820 rfl (Nat.le_of_ble_eq_true rfl) rfl (Nat.le_of_ble_eq_true rfl) rfl rfl (c_Mo_placeOf_1_2 l g _ L M) rfl ?_
    refine ew_iald (j := 77) d_Mo_allNumbers_38 rfl (rfl) (by decide) (by decide) ?_
    refine en_callS (As := [.int (M 56 77)]) (st := []) (st1 := [.int (ew_b (sp_in (M 56 77) 12289))]) d_Mo_allNumbers_39 k_Mo_isNumber tw_671 tw_672 rfl (Nat.le_of_ble_eq_true rfl) rfl (Nat.le_of_ble_eq_true rfl) rfl rfl (c_Mo_isNumber l g _ (ew_SH L) M (M 56 77)) rfl ?_
    refine en_b_eq (tgt := 72) d_Mo_allNumbers_42 (by decide) (fun h42 => ?_) (fun h42 => ?_)
    · refine ew_iconst (v := nI 0) d_Mo_allNumbers_72 (by decide) ?_
      refine en_istore_n (ls' := [.ref 47, .int (nI 0), .int (nI 1), .int (nI 2)]) d_Mo_allNumbers_73 (Nat.le_of_ble_eq_true rfl) rfl ?_
      refine en_inc (ls' := [.ref 47, .int (nI 0), .int (nI 1), .int (nI 3)]) d_Mo_allNumbers_74 rfl rfl ?_
      refine ew_goto (tgt := 19) d_Mo_allNumbers_77 (by decide) ?_
      refine en_eq (ls' := [.ref 47, .int (ew_b (X && (sp_in (M 56 77) 12289 && sp_in (M 56 78) 12289))), .int (nI 1), .int (nI 3)]) (by rw [show (X && (sp_in (M 56 77) 12289 && sp_in (M 56 78) 12289)) = false from by rw [h42, Bool.false_and, Bool.and_false]]; rfl) rfl rfl ?_
      exact K
    · refine ew_iload_n d_Mo_allNumbers_45 rfl ?_
      refine ew_iconst (v := nI 3) d_Mo_allNumbers_46 (by decide) ?_
      refine en_icmp_gt (tgt := 68) d_Mo_allNumbers_47 (by decide) (by decide) (by decide) (fun h47 => by exact absurd h47 (by decide)) (fun h47 => ?_)
      refine ew_aload_n d_Mo_allNumbers_50 rfl ?_
      refine ew_getr (ci := 9) (f := 10) d_Mo_allNumbers_51 rfl rfl rfl tw_602 ?_
      refine ew_iload_n d_Mo_allNumbers_54 rfl ?_
      refine ew_iload_n d_Mo_allNumbers_55 rfl ?_
      refine en_callS (As := [.int (nI 1), .int (nI 2)]) (st := [.ref 56]) (st1 := [.int (nI 77), .ref 56]) d_Mo_allNumbers_56 k_Mo_placeOf tw_819 tw_820 rfl (Nat.le_of_ble_eq_true rfl) rfl (Nat.le_of_ble_eq_true rfl) rfl rfl (c_Mo_placeOf_1_2 l g _ L M) rfl ?_
      refine ew_iconst (v := nI 1) d_Mo_allNumbers_59 (by decide) ?_
      refine en_iadd d_Mo_allNumbers_60 ?_
      refine en_eq rfl (show _ = [.int (nI 78), .ref 56] from rfl) rfl ?_
      refine ew_iald (j := 78) d_Mo_allNumbers_61 rfl (rfl) (by decide) (by decide) ?_
      refine en_callS (As := [.int (M 56 78)]) (st := []) (st1 := [.int (ew_b (sp_in (M 56 78) 12289))]) d_Mo_allNumbers_62 k_Mo_isNumber tw_671 tw_672 rfl (Nat.le_of_ble_eq_true rfl) rfl (Nat.le_of_ble_eq_true rfl) rfl rfl (c_Mo_isNumber l g _ (ew_SH L) M (M 56 78)) rfl ?_
      refine en_b_eq (tgt := 72) d_Mo_allNumbers_65 (by decide) (fun h65 => ?_) (fun h65 => ?_)
      · refine ew_iconst (v := nI 0) d_Mo_allNumbers_72 (by decide) ?_
        refine en_istore_n (ls' := [.ref 47, .int (nI 0), .int (nI 1), .int (nI 2)]) d_Mo_allNumbers_73 (Nat.le_of_ble_eq_true rfl) rfl ?_
        refine en_inc (ls' := [.ref 47, .int (nI 0), .int (nI 1), .int (nI 3)]) d_Mo_allNumbers_74 rfl rfl ?_
        refine ew_goto (tgt := 19) d_Mo_allNumbers_77 (by decide) ?_
        refine en_eq (ls' := [.ref 47, .int (ew_b (X && (sp_in (M 56 77) 12289 && sp_in (M 56 78) 12289))), .int (nI 1), .int (nI 3)]) (by rw [show (X && (sp_in (M 56 77) 12289 && sp_in (M 56 78) 12289)) = false from by rw [h65, Bool.and_false, Bool.and_false]]; rfl) rfl rfl ?_
        exact K
      · refine ew_iconst (v := nI 1) d_Mo_allNumbers_68 (by decide) ?_
        refine ew_goto (tgt := 73) d_Mo_allNumbers_69 (by decide) ?_
        refine en_istore_n (ls' := [.ref 47, .int (nI 1), .int (nI 1), .int (nI 2)]) d_Mo_allNumbers_73 (Nat.le_of_ble_eq_true rfl) rfl ?_
        refine en_inc (ls' := [.ref 47, .int (nI 1), .int (nI 1), .int (nI 3)]) d_Mo_allNumbers_74 rfl rfl ?_
        refine ew_goto (tgt := 19) d_Mo_allNumbers_77 (by decide) ?_
        refine en_eq (ls' := [.ref 47, .int (ew_b (X && (sp_in (M 56 77) 12289 && sp_in (M 56 78) 12289))), .int (nI 1), .int (nI 3)]) (by rw [show (X && (sp_in (M 56 77) 12289 && sp_in (M 56 78) 12289)) = true from by rw [h26, h42, h65]; rfl]; rfl) rfl rfl ?_
        exact K
set_option maxRecDepth 100000 in
theorem st_Mo_all_1_3 (l : Launch) (g : ew_G) (d L : Nat) (M : ew_M) (X : Bool) (Q : Option Value → List ew_S → ew_M → Prop) (K : Ew l g (d + 1) 0 0 m_Mo_allNumbers 19 [.ref 47, .int (ew_b (X && (sp_in (M 56 84) 12289 && sp_in (M 56 85) 12289))), .int (nI 1), .int (nI 4)] [] (ew_SH L) M Q) :
    Ew l g (d + 1) 0 0 m_Mo_allNumbers 19 [.ref 47, .int (ew_b X), .int (nI 1), .int (nI 3)] [] (ew_SH L) M Q := by
  refine ew_iload_n d_Mo_allNumbers_19 rfl ?_
  refine ew_bipush (v := nI 10) d_Mo_allNumbers_20 (by decide) ?_
  refine en_icmp_ge (tgt := 80) d_Mo_allNumbers_22 (by decide) (by decide) (by decide) (fun h22 => by exact absurd h22 (by decide)) (fun h22 => ?_)
  refine ew_iload_n d_Mo_allNumbers_25 rfl ?_
  refine en_b_eq (tgt := 72) d_Mo_allNumbers_26 (by decide) (fun h26 => ?_) (fun h26 => ?_)
  · refine ew_iconst (v := nI 0) d_Mo_allNumbers_72 (by decide) ?_
    refine en_istore_n (ls' := [.ref 47, .int (nI 0), .int (nI 1), .int (nI 3)]) d_Mo_allNumbers_73 (Nat.le_of_ble_eq_true rfl) rfl ?_
    refine en_inc (ls' := [.ref 47, .int (nI 0), .int (nI 1), .int (nI 4)]) d_Mo_allNumbers_74 rfl rfl ?_
    refine ew_goto (tgt := 19) d_Mo_allNumbers_77 (by decide) ?_
    refine en_eq (ls' := [.ref 47, .int (ew_b (X && (sp_in (M 56 84) 12289 && sp_in (M 56 85) 12289))), .int (nI 1), .int (nI 4)]) (by rw [show (X && (sp_in (M 56 84) 12289 && sp_in (M 56 85) 12289)) = false from by rw [h26, Bool.false_and]]; rfl) rfl rfl ?_
    exact K
  · refine ew_aload_n d_Mo_allNumbers_29 rfl ?_
    refine ew_getr (ci := 9) (f := 10) d_Mo_allNumbers_30 rfl rfl rfl tw_602 ?_
    refine ew_iload_n d_Mo_allNumbers_33 rfl ?_
    refine ew_iload_n d_Mo_allNumbers_34 rfl ?_
    refine en_callS (As := [.int (nI 1), .int (nI 3)]) (st := [.ref 56]) (st1 := [.int (nI 84), .ref 56]) d_Mo_allNumbers_35 k_Mo_placeOf tw_819 tw_820 rfl (Nat.le_of_ble_eq_true rfl) rfl (Nat.le_of_ble_eq_true rfl) rfl rfl (c_Mo_placeOf_1_3 l g _ L M) rfl ?_
    refine ew_iald (j := 84) d_Mo_allNumbers_38 rfl (rfl) (by decide) (by decide) ?_
    refine en_callS (As := [.int (M 56 84)]) (st := []) (st1 := [.int (ew_b (sp_in (M 56 84) 12289))]) d_Mo_allNumbers_39 k_Mo_isNumber tw_671 tw_672 rfl (Nat.le_of_ble_eq_true rfl) rfl (Nat.le_of_ble_eq_true rfl) rfl rfl (c_Mo_isNumber l g _ (ew_SH L) M (M 56 84)) rfl ?_
    refine en_b_eq (tgt := 72) d_Mo_allNumbers_42 (by decide) (fun h42 => ?_) (fun h42 => ?_)
    · refine ew_iconst (v := nI 0) d_Mo_allNumbers_72 (by decide) ?_
      refine en_istore_n (ls' := [.ref 47, .int (nI 0), .int (nI 1), .int (nI 3)]) d_Mo_allNumbers_73 (Nat.le_of_ble_eq_true rfl) rfl ?_
      refine en_inc (ls' := [.ref 47, .int (nI 0), .int (nI 1), .int (nI 4)]) d_Mo_allNumbers_74 rfl rfl ?_
      refine ew_goto (tgt := 19) d_Mo_allNumbers_77 (by decide) ?_
      refine en_eq (ls' := [.ref 47, .int (ew_b (X && (sp_in (M 56 84) 12289 && sp_in (M 56 85) 12289))), .int (nI 1), .int (nI 4)]) (by rw [show (X && (sp_in (M 56 84) 12289 && sp_in (M 56 85) 12289)) = false from by rw [h42, Bool.false_and, Bool.and_false]]; rfl) rfl rfl ?_
      exact K
    · refine ew_iload_n d_Mo_allNumbers_45 rfl ?_
      refine ew_iconst (v := nI 3) d_Mo_allNumbers_46 (by decide) ?_
      refine en_icmp_gt (tgt := 68) d_Mo_allNumbers_47 (by decide) (by decide) (by decide) (fun h47 => by exact absurd h47 (by decide)) (fun h47 => ?_)
      refine ew_aload_n d_Mo_allNumbers_50 rfl ?_
      refine ew_getr (ci := 9) (f := 10) d_Mo_allNumbers_51 rfl rfl rfl tw_602 ?_
      refine ew_iload_n d_Mo_allNumbers_54 rfl ?_
      refine ew_iload_n d_Mo_allNumbers_55 rfl ?_
      refine en_callS (As := [.int (nI 1), .int (nI 3)]) (st := [.ref 56]) (st1 := [.int (nI 84), .ref 56]) d_Mo_allNumbers_56 k_Mo_placeOf tw_819 tw_820 rfl (Nat.le_of_ble_eq_true rfl) rfl (Nat.le_of_ble_eq_true rfl) rfl rfl (c_Mo_placeOf_1_3 l g _ L M) rfl ?_
      refine ew_iconst (v := nI 1) d_Mo_allNumbers_59 (by decide) ?_
      refine en_iadd d_Mo_allNumbers_60 ?_
      refine en_eq rfl (show _ = [.int (nI 85), .ref 56] from rfl) rfl ?_
      refine ew_iald (j := 85) d_Mo_allNumbers_61 rfl (rfl) (by decide) (by decide) ?_
      refine en_callS (As := [.int (M 56 85)]) (st := []) (st1 := [.int (ew_b (sp_in (M 56 85) 12289))]) d_Mo_allNumbers_62 k_Mo_isNumber tw_671 tw_672 rfl (Nat.le_of_ble_eq_true rfl) rfl (Nat.le_of_ble_eq_true rfl) rfl rfl (c_Mo_isNumber l g _ (ew_SH L) M (M 56 85)) rfl ?_
      refine en_b_eq (tgt := 72) d_Mo_allNumbers_65 (by decide) (fun h65 => ?_) (fun h65 => ?_)
      · refine ew_iconst (v := nI 0) d_Mo_allNumbers_72 (by decide) ?_
        refine en_istore_n (ls' := [.ref 47, .int (nI 0), .int (nI 1), .int (nI 3)]) d_Mo_allNumbers_73 (Nat.le_of_ble_eq_true rfl) rfl ?_
        refine en_inc (ls' := [.ref 47, .int (nI 0), .int (nI 1), .int (nI 4)]) d_Mo_allNumbers_74 rfl rfl ?_
        refine ew_goto (tgt := 19) d_Mo_allNumbers_77 (by decide) ?_
        refine en_eq (ls' := [.ref 47, .int (ew_b (X && (sp_in (M 56 84) 12289 && sp_in (M 56 85) 12289))), .int (nI 1), .int (nI 4)]) (by rw [show (X && (sp_in (M 56 84) 12289 && sp_in (M 56 85) 12289)) = false from by rw [h65, Bool.and_false, Bool.and_false]]; rfl) rfl rfl ?_
        exact K
      · refine ew_iconst (v := nI 1) d_Mo_allNumbers_68 (by decide) ?_
        refine ew_goto (tgt := 73) d_Mo_allNumbers_69 (by decide) ?_
        refine en_istore_n (ls' := [.ref 47, .int (nI 1), .int (nI 1), .int (nI 3)]) d_Mo_allNumbers_73 (Nat.le_of_ble_eq_true rfl) rfl ?_
        refine en_inc (ls' := [.ref 47, .int (nI 1), .int (nI 1), .int (nI 4)]) d_Mo_allNumbers_74 rfl rfl ?_
        refine ew_goto (tgt := 19) d_Mo_allNumbers_77 (by decide) ?_
        refine en_eq (ls' := [.ref 47, .int (ew_b (X && (sp_in (M 56 84) 12289 && sp_in (M 56 85) 12289))), .int (nI 1), .int (nI 4)]) (by rw [show (X && (sp_in (M 56 84) 12289 && sp_in (M 56 85) 12289)) = true from by rw [h26, h42, h65]; rfl]; rfl) rfl rfl ?_
        exact K
set_option maxRecDepth 100000 in
theorem st_Mo_all_1_4 (l : Launch) (g : ew_G) (d L : Nat) (M : ew_M) (X : Bool) (Q : Option Value → List ew_S → ew_M → Prop) (K : Ew l g (d + 1) 0 0 m_Mo_allNumbers 19 [.ref 47, .int (ew_b (X && sp_in (M 56 91) 12289)), .int (nI 1), .int (nI 5)] [] (ew_SH L) M Q) :
    Ew l g (d + 1) 0 0 m_Mo_allNumbers 19 [.ref 47, .int (ew_b X), .int (nI 1), .int (nI 4)] [] (ew_SH L) M Q := by
  refine ew_iload_n d_Mo_allNumbers_19 rfl ?_
  refine ew_bipush (v := nI 10) d_Mo_allNumbers_20 (by decide) ?_
  refine en_icmp_ge (tgt := 80) d_Mo_allNumbers_22 (by decide) (by decide) (by decide) (fun h22 => by exact absurd h22 (by decide)) (fun h22 => ?_)
  refine ew_iload_n d_Mo_allNumbers_25 rfl ?_
  refine en_b_eq (tgt := 72) d_Mo_allNumbers_26 (by decide) (fun h26 => ?_) (fun h26 => ?_)
  · refine ew_iconst (v := nI 0) d_Mo_allNumbers_72 (by decide) ?_
    refine en_istore_n (ls' := [.ref 47, .int (nI 0), .int (nI 1), .int (nI 4)]) d_Mo_allNumbers_73 (Nat.le_of_ble_eq_true rfl) rfl ?_
    refine en_inc (ls' := [.ref 47, .int (nI 0), .int (nI 1), .int (nI 5)]) d_Mo_allNumbers_74 rfl rfl ?_
    refine ew_goto (tgt := 19) d_Mo_allNumbers_77 (by decide) ?_
    refine en_eq (ls' := [.ref 47, .int (ew_b (X && sp_in (M 56 91) 12289)), .int (nI 1), .int (nI 5)]) (by rw [show (X && sp_in (M 56 91) 12289) = false from by rw [h26, Bool.false_and]]; rfl) rfl rfl ?_
    exact K
  · refine ew_aload_n d_Mo_allNumbers_29 rfl ?_
    refine ew_getr (ci := 9) (f := 10) d_Mo_allNumbers_30 rfl rfl rfl tw_602 ?_
    refine ew_iload_n d_Mo_allNumbers_33 rfl ?_
    refine ew_iload_n d_Mo_allNumbers_34 rfl ?_
    refine en_callS (As := [.int (nI 1), .int (nI 4)]) (st := [.ref 56]) (st1 := [.int (nI 91), .ref 56]) d_Mo_allNumbers_35 k_Mo_placeOf tw_819 tw_820 rfl (Nat.le_of_ble_eq_true rfl) rfl (Nat.le_of_ble_eq_true rfl) rfl rfl (c_Mo_placeOf_1_4 l g _ L M) rfl ?_
    refine ew_iald (j := 91) d_Mo_allNumbers_38 rfl (rfl) (by decide) (by decide) ?_
    refine en_callS (As := [.int (M 56 91)]) (st := []) (st1 := [.int (ew_b (sp_in (M 56 91) 12289))]) d_Mo_allNumbers_39 k_Mo_isNumber tw_671 tw_672 rfl (Nat.le_of_ble_eq_true rfl) rfl (Nat.le_of_ble_eq_true rfl) rfl rfl (c_Mo_isNumber l g _ (ew_SH L) M (M 56 91)) rfl ?_
    refine en_b_eq (tgt := 72) d_Mo_allNumbers_42 (by decide) (fun h42 => ?_) (fun h42 => ?_)
    · refine ew_iconst (v := nI 0) d_Mo_allNumbers_72 (by decide) ?_
      refine en_istore_n (ls' := [.ref 47, .int (nI 0), .int (nI 1), .int (nI 4)]) d_Mo_allNumbers_73 (Nat.le_of_ble_eq_true rfl) rfl ?_
      refine en_inc (ls' := [.ref 47, .int (nI 0), .int (nI 1), .int (nI 5)]) d_Mo_allNumbers_74 rfl rfl ?_
      refine ew_goto (tgt := 19) d_Mo_allNumbers_77 (by decide) ?_
      refine en_eq (ls' := [.ref 47, .int (ew_b (X && sp_in (M 56 91) 12289)), .int (nI 1), .int (nI 5)]) (by rw [show (X && sp_in (M 56 91) 12289) = false from by rw [h42, Bool.and_false]]; rfl) rfl rfl ?_
      exact K
    · refine ew_iload_n d_Mo_allNumbers_45 rfl ?_
      refine ew_iconst (v := nI 3) d_Mo_allNumbers_46 (by decide) ?_
      refine en_icmp_gt (tgt := 68) d_Mo_allNumbers_47 (by decide) (by decide) (by decide) (fun h47 => ?_) (fun h47 => by exact absurd h47 (by decide))
      refine ew_iconst (v := nI 1) d_Mo_allNumbers_68 (by decide) ?_
      refine ew_goto (tgt := 73) d_Mo_allNumbers_69 (by decide) ?_
      refine en_istore_n (ls' := [.ref 47, .int (nI 1), .int (nI 1), .int (nI 4)]) d_Mo_allNumbers_73 (Nat.le_of_ble_eq_true rfl) rfl ?_
      refine en_inc (ls' := [.ref 47, .int (nI 1), .int (nI 1), .int (nI 5)]) d_Mo_allNumbers_74 rfl rfl ?_
      refine ew_goto (tgt := 19) d_Mo_allNumbers_77 (by decide) ?_
      refine en_eq (ls' := [.ref 47, .int (ew_b (X && sp_in (M 56 91) 12289)), .int (nI 1), .int (nI 5)]) (by rw [show (X && sp_in (M 56 91) 12289) = true from by rw [h26, h42]; rfl]; rfl) rfl rfl ?_
      exact K
set_option maxRecDepth 100000 in
theorem st_Mo_all_1_5 (l : Launch) (g : ew_G) (d L : Nat) (M : ew_M) (X : Bool) (Q : Option Value → List ew_S → ew_M → Prop) (K : Ew l g (d + 1) 0 0 m_Mo_allNumbers 19 [.ref 47, .int (ew_b (X && sp_in (M 56 97) 12289)), .int (nI 1), .int (nI 6)] [] (ew_SH L) M Q) :
    Ew l g (d + 1) 0 0 m_Mo_allNumbers 19 [.ref 47, .int (ew_b X), .int (nI 1), .int (nI 5)] [] (ew_SH L) M Q := by
  refine ew_iload_n d_Mo_allNumbers_19 rfl ?_
  refine ew_bipush (v := nI 10) d_Mo_allNumbers_20 (by decide) ?_
  refine en_icmp_ge (tgt := 80) d_Mo_allNumbers_22 (by decide) (by decide) (by decide) (fun h22 => by exact absurd h22 (by decide)) (fun h22 => ?_)
  refine ew_iload_n d_Mo_allNumbers_25 rfl ?_
  refine en_b_eq (tgt := 72) d_Mo_allNumbers_26 (by decide) (fun h26 => ?_) (fun h26 => ?_)
  · refine ew_iconst (v := nI 0) d_Mo_allNumbers_72 (by decide) ?_
    refine en_istore_n (ls' := [.ref 47, .int (nI 0), .int (nI 1), .int (nI 5)]) d_Mo_allNumbers_73 (Nat.le_of_ble_eq_true rfl) rfl ?_
    refine en_inc (ls' := [.ref 47, .int (nI 0), .int (nI 1), .int (nI 6)]) d_Mo_allNumbers_74 rfl rfl ?_
    refine ew_goto (tgt := 19) d_Mo_allNumbers_77 (by decide) ?_
    refine en_eq (ls' := [.ref 47, .int (ew_b (X && sp_in (M 56 97) 12289)), .int (nI 1), .int (nI 6)]) (by rw [show (X && sp_in (M 56 97) 12289) = false from by rw [h26, Bool.false_and]]; rfl) rfl rfl ?_
    exact K
  · refine ew_aload_n d_Mo_allNumbers_29 rfl ?_
    refine ew_getr (ci := 9) (f := 10) d_Mo_allNumbers_30 rfl rfl rfl tw_602 ?_
    refine ew_iload_n d_Mo_allNumbers_33 rfl ?_
    refine ew_iload_n d_Mo_allNumbers_34 rfl ?_
    refine en_callS (As := [.int (nI 1), .int (nI 5)]) (st := [.ref 56]) (st1 := [.int (nI 97), .ref 56]) d_Mo_allNumbers_35 k_Mo_placeOf tw_819 tw_820 rfl (Nat.le_of_ble_eq_true rfl) rfl (Nat.le_of_ble_eq_true rfl) rfl rfl (c_Mo_placeOf_1_5 l g _ L M) rfl ?_
    refine ew_iald (j := 97) d_Mo_allNumbers_38 rfl (rfl) (by decide) (by decide) ?_
    refine en_callS (As := [.int (M 56 97)]) (st := []) (st1 := [.int (ew_b (sp_in (M 56 97) 12289))]) d_Mo_allNumbers_39 k_Mo_isNumber tw_671 tw_672 rfl (Nat.le_of_ble_eq_true rfl) rfl (Nat.le_of_ble_eq_true rfl) rfl rfl (c_Mo_isNumber l g _ (ew_SH L) M (M 56 97)) rfl ?_
    refine en_b_eq (tgt := 72) d_Mo_allNumbers_42 (by decide) (fun h42 => ?_) (fun h42 => ?_)
    · refine ew_iconst (v := nI 0) d_Mo_allNumbers_72 (by decide) ?_
      refine en_istore_n (ls' := [.ref 47, .int (nI 0), .int (nI 1), .int (nI 5)]) d_Mo_allNumbers_73 (Nat.le_of_ble_eq_true rfl) rfl ?_
      refine en_inc (ls' := [.ref 47, .int (nI 0), .int (nI 1), .int (nI 6)]) d_Mo_allNumbers_74 rfl rfl ?_
      refine ew_goto (tgt := 19) d_Mo_allNumbers_77 (by decide) ?_
      refine en_eq (ls' := [.ref 47, .int (ew_b (X && sp_in (M 56 97) 12289)), .int (nI 1), .int (nI 6)]) (by rw [show (X && sp_in (M 56 97) 12289) = false from by rw [h42, Bool.and_false]]; rfl) rfl rfl ?_
      exact K
    · refine ew_iload_n d_Mo_allNumbers_45 rfl ?_
      refine ew_iconst (v := nI 3) d_Mo_allNumbers_46 (by decide) ?_
      refine en_icmp_gt (tgt := 68) d_Mo_allNumbers_47 (by decide) (by decide) (by decide) (fun h47 => ?_) (fun h47 => by exact absurd h47 (by decide))
      refine ew_iconst (v := nI 1) d_Mo_allNumbers_68 (by decide) ?_
      refine ew_goto (tgt := 73) d_Mo_allNumbers_69 (by decide) ?_
      refine en_istore_n (ls' := [.ref 47, .int (nI 1), .int (nI 1), .int (nI 5)]) d_Mo_allNumbers_73 (Nat.le_of_ble_eq_true rfl) rfl ?_
      refine en_inc (ls' := [.ref 47, .int (nI 1), .int (nI 1), .int (nI 6)]) d_Mo_allNumbers_74 rfl rfl ?_
      refine ew_goto (tgt := 19) d_Mo_allNumbers_77 (by decide) ?_
      refine en_eq (ls' := [.ref 47, .int (ew_b (X && sp_in (M 56 97) 12289)), .int (nI 1), .int (nI 6)]) (by rw [show (X && sp_in (M 56 97) 12289) = true from by rw [h26, h42]; rfl]; rfl) rfl rfl ?_
      exact K
set_option maxRecDepth 100000 in
theorem st_Mo_all_1_6 (l : Launch) (g : ew_G) (d L : Nat) (M : ew_M) (X : Bool) (Q : Option Value → List ew_S → ew_M → Prop) (K : Ew l g (d + 1) 0 0 m_Mo_allNumbers 19 [.ref 47, .int (ew_b (X && sp_in (M 56 103) 12289)), .int (nI 1), .int (nI 7)] [] (ew_SH L) M Q) :
    Ew l g (d + 1) 0 0 m_Mo_allNumbers 19 [.ref 47, .int (ew_b X), .int (nI 1), .int (nI 6)] [] (ew_SH L) M Q := by
  refine ew_iload_n d_Mo_allNumbers_19 rfl ?_
  refine ew_bipush (v := nI 10) d_Mo_allNumbers_20 (by decide) ?_
  refine en_icmp_ge (tgt := 80) d_Mo_allNumbers_22 (by decide) (by decide) (by decide) (fun h22 => by exact absurd h22 (by decide)) (fun h22 => ?_)
  refine ew_iload_n d_Mo_allNumbers_25 rfl ?_
  refine en_b_eq (tgt := 72) d_Mo_allNumbers_26 (by decide) (fun h26 => ?_) (fun h26 => ?_)
  · refine ew_iconst (v := nI 0) d_Mo_allNumbers_72 (by decide) ?_
    refine en_istore_n (ls' := [.ref 47, .int (nI 0), .int (nI 1), .int (nI 6)]) d_Mo_allNumbers_73 (Nat.le_of_ble_eq_true rfl) rfl ?_
    refine en_inc (ls' := [.ref 47, .int (nI 0), .int (nI 1), .int (nI 7)]) d_Mo_allNumbers_74 rfl rfl ?_
    refine ew_goto (tgt := 19) d_Mo_allNumbers_77 (by decide) ?_
    refine en_eq (ls' := [.ref 47, .int (ew_b (X && sp_in (M 56 103) 12289)), .int (nI 1), .int (nI 7)]) (by rw [show (X && sp_in (M 56 103) 12289) = false from by rw [h26, Bool.false_and]]; rfl) rfl rfl ?_
    exact K
  · refine ew_aload_n d_Mo_allNumbers_29 rfl ?_
    refine ew_getr (ci := 9) (f := 10) d_Mo_allNumbers_30 rfl rfl rfl tw_602 ?_
    refine ew_iload_n d_Mo_allNumbers_33 rfl ?_
    refine ew_iload_n d_Mo_allNumbers_34 rfl ?_
    refine en_callS (As := [.int (nI 1), .int (nI 6)]) (st := [.ref 56]) (st1 := [.int (nI 103), .ref 56]) d_Mo_allNumbers_35 k_Mo_placeOf tw_819 tw_820 rfl (Nat.le_of_ble_eq_true rfl) rfl (Nat.le_of_ble_eq_true rfl) rfl rfl (c_Mo_placeOf_1_6 l g _ L M) rfl ?_
    refine ew_iald (j := 103) d_Mo_allNumbers_38 rfl (rfl) (by decide) (by decide) ?_
    refine en_callS (As := [.int (M 56 103)]) (st := []) (st1 := [.int (ew_b (sp_in (M 56 103) 12289))]) d_Mo_allNumbers_39 k_Mo_isNumber tw_671 tw_672 rfl (Nat.le_of_ble_eq_true rfl) rfl (Nat.le_of_ble_eq_true rfl) rfl rfl (c_Mo_isNumber l g _ (ew_SH L) M (M 56 103)) rfl ?_
    refine en_b_eq (tgt := 72) d_Mo_allNumbers_42 (by decide) (fun h42 => ?_) (fun h42 => ?_)
    · refine ew_iconst (v := nI 0) d_Mo_allNumbers_72 (by decide) ?_
      refine en_istore_n (ls' := [.ref 47, .int (nI 0), .int (nI 1), .int (nI 6)]) d_Mo_allNumbers_73 (Nat.le_of_ble_eq_true rfl) rfl ?_
      refine en_inc (ls' := [.ref 47, .int (nI 0), .int (nI 1), .int (nI 7)]) d_Mo_allNumbers_74 rfl rfl ?_
      refine ew_goto (tgt := 19) d_Mo_allNumbers_77 (by decide) ?_
      refine en_eq (ls' := [.ref 47, .int (ew_b (X && sp_in (M 56 103) 12289)), .int (nI 1), .int (nI 7)]) (by rw [show (X && sp_in (M 56 103) 12289) = false from by rw [h42, Bool.and_false]]; rfl) rfl rfl ?_
      exact K
    · refine ew_iload_n d_Mo_allNumbers_45 rfl ?_
      refine ew_iconst (v := nI 3) d_Mo_allNumbers_46 (by decide) ?_
      refine en_icmp_gt (tgt := 68) d_Mo_allNumbers_47 (by decide) (by decide) (by decide) (fun h47 => ?_) (fun h47 => by exact absurd h47 (by decide))
      refine ew_iconst (v := nI 1) d_Mo_allNumbers_68 (by decide) ?_
      refine ew_goto (tgt := 73) d_Mo_allNumbers_69 (by decide) ?_
      refine en_istore_n (ls' := [.ref 47, .int (nI 1), .int (nI 1), .int (nI 6)]) d_Mo_allNumbers_73 (Nat.le_of_ble_eq_true rfl) rfl ?_
      refine en_inc (ls' := [.ref 47, .int (nI 1), .int (nI 1), .int (nI 7)]) d_Mo_allNumbers_74 rfl rfl ?_
      refine ew_goto (tgt := 19) d_Mo_allNumbers_77 (by decide) ?_
      refine en_eq (ls' := [.ref 47, .int (ew_b (X && sp_in (M 56 103) 12289)), .int (nI 1), .int (nI 7)]) (by rw [show (X && sp_in (M 56 103) 12289) = true from by rw [h26, h42]; rfl]; rfl) rfl rfl ?_
      exact K
set_option maxRecDepth 100000 in
theorem st_Mo_all_1_7 (l : Launch) (g : ew_G) (d L : Nat) (M : ew_M) (X : Bool) (Q : Option Value → List ew_S → ew_M → Prop) (K : Ew l g (d + 1) 0 0 m_Mo_allNumbers 19 [.ref 47, .int (ew_b (X && sp_in (M 56 108) 12289)), .int (nI 1), .int (nI 8)] [] (ew_SH L) M Q) :
    Ew l g (d + 1) 0 0 m_Mo_allNumbers 19 [.ref 47, .int (ew_b X), .int (nI 1), .int (nI 7)] [] (ew_SH L) M Q := by
  refine ew_iload_n d_Mo_allNumbers_19 rfl ?_
  refine ew_bipush (v := nI 10) d_Mo_allNumbers_20 (by decide) ?_
  refine en_icmp_ge (tgt := 80) d_Mo_allNumbers_22 (by decide) (by decide) (by decide) (fun h22 => by exact absurd h22 (by decide)) (fun h22 => ?_)
  refine ew_iload_n d_Mo_allNumbers_25 rfl ?_
  refine en_b_eq (tgt := 72) d_Mo_allNumbers_26 (by decide) (fun h26 => ?_) (fun h26 => ?_)
  · refine ew_iconst (v := nI 0) d_Mo_allNumbers_72 (by decide) ?_
    refine en_istore_n (ls' := [.ref 47, .int (nI 0), .int (nI 1), .int (nI 7)]) d_Mo_allNumbers_73 (Nat.le_of_ble_eq_true rfl) rfl ?_
    refine en_inc (ls' := [.ref 47, .int (nI 0), .int (nI 1), .int (nI 8)]) d_Mo_allNumbers_74 rfl rfl ?_
    refine ew_goto (tgt := 19) d_Mo_allNumbers_77 (by decide) ?_
    refine en_eq (ls' := [.ref 47, .int (ew_b (X && sp_in (M 56 108) 12289)), .int (nI 1), .int (nI 8)]) (by rw [show (X && sp_in (M 56 108) 12289) = false from by rw [h26, Bool.false_and]]; rfl) rfl rfl ?_
    exact K
  · refine ew_aload_n d_Mo_allNumbers_29 rfl ?_
    refine ew_getr (ci := 9) (f := 10) d_Mo_allNumbers_30 rfl rfl rfl tw_602 ?_
    refine ew_iload_n d_Mo_allNumbers_33 rfl ?_
    refine ew_iload_n d_Mo_allNumbers_34 rfl ?_
    refine en_callS (As := [.int (nI 1), .int (nI 7)]) (st := [.ref 56]) (st1 := [.int (nI 108), .ref 56]) d_Mo_allNumbers_35 k_Mo_placeOf tw_819 tw_820 rfl (Nat.le_of_ble_eq_true rfl) rfl (Nat.le_of_ble_eq_true rfl) rfl rfl (c_Mo_placeOf_1_7 l g _ L M) rfl ?_
    refine ew_iald (j := 108) d_Mo_allNumbers_38 rfl (rfl) (by decide) (by decide) ?_
    refine en_callS (As := [.int (M 56 108)]) (st := []) (st1 := [.int (ew_b (sp_in (M 56 108) 12289))]) d_Mo_allNumbers_39 k_Mo_isNumber tw_671 tw_672 rfl (Nat.le_of_ble_eq_true rfl) rfl (Nat.le_of_ble_eq_true rfl) rfl rfl (c_Mo_isNumber l g _ (ew_SH L) M (M 56 108)) rfl ?_
    refine en_b_eq (tgt := 72) d_Mo_allNumbers_42 (by decide) (fun h42 => ?_) (fun h42 => ?_)
    · refine ew_iconst (v := nI 0) d_Mo_allNumbers_72 (by decide) ?_
      refine en_istore_n (ls' := [.ref 47, .int (nI 0), .int (nI 1), .int (nI 7)]) d_Mo_allNumbers_73 (Nat.le_of_ble_eq_true rfl) rfl ?_
      refine en_inc (ls' := [.ref 47, .int (nI 0), .int (nI 1), .int (nI 8)]) d_Mo_allNumbers_74 rfl rfl ?_
      refine ew_goto (tgt := 19) d_Mo_allNumbers_77 (by decide) ?_
      refine en_eq (ls' := [.ref 47, .int (ew_b (X && sp_in (M 56 108) 12289)), .int (nI 1), .int (nI 8)]) (by rw [show (X && sp_in (M 56 108) 12289) = false from by rw [h42, Bool.and_false]]; rfl) rfl rfl ?_
      exact K
    · refine ew_iload_n d_Mo_allNumbers_45 rfl ?_
      refine ew_iconst (v := nI 3) d_Mo_allNumbers_46 (by decide) ?_
      refine en_icmp_gt (tgt := 68) d_Mo_allNumbers_47 (by decide) (by decide) (by decide) (fun h47 => ?_) (fun h47 => by exact absurd h47 (by decide))
      refine ew_iconst (v := nI 1) d_Mo_allNumbers_68 (by decide) ?_
      refine ew_goto (tgt := 73) d_Mo_allNumbers_69 (by decide) ?_
      refine en_istore_n (ls' := [.ref 47, .int (nI 1), .int (nI 1), .int (nI 7)]) d_Mo_allNumbers_73 (Nat.le_of_ble_eq_true rfl) rfl ?_
      refine en_inc (ls' := [.ref 47, .int (nI 1), .int (nI 1), .int (nI 8)]) d_Mo_allNumbers_74 rfl rfl ?_
      refine ew_goto (tgt := 19) d_Mo_allNumbers_77 (by decide) ?_
      refine en_eq (ls' := [.ref 47, .int (ew_b (X && sp_in (M 56 108) 12289)), .int (nI 1), .int (nI 8)]) (by rw [show (X && sp_in (M 56 108) 12289) = true from by rw [h26, h42]; rfl]; rfl) rfl rfl ?_
      exact K
set_option maxRecDepth 100000 in
theorem st_Mo_all_1_8 (l : Launch) (g : ew_G) (d L : Nat) (M : ew_M) (X : Bool) (Q : Option Value → List ew_S → ew_M → Prop) (K : Ew l g (d + 1) 0 0 m_Mo_allNumbers 19 [.ref 47, .int (ew_b (X && sp_in (M 56 113) 12289)), .int (nI 1), .int (nI 9)] [] (ew_SH L) M Q) :
    Ew l g (d + 1) 0 0 m_Mo_allNumbers 19 [.ref 47, .int (ew_b X), .int (nI 1), .int (nI 8)] [] (ew_SH L) M Q := by
  refine ew_iload_n d_Mo_allNumbers_19 rfl ?_
  refine ew_bipush (v := nI 10) d_Mo_allNumbers_20 (by decide) ?_
  refine en_icmp_ge (tgt := 80) d_Mo_allNumbers_22 (by decide) (by decide) (by decide) (fun h22 => by exact absurd h22 (by decide)) (fun h22 => ?_)
  refine ew_iload_n d_Mo_allNumbers_25 rfl ?_
  refine en_b_eq (tgt := 72) d_Mo_allNumbers_26 (by decide) (fun h26 => ?_) (fun h26 => ?_)
  · refine ew_iconst (v := nI 0) d_Mo_allNumbers_72 (by decide) ?_
    refine en_istore_n (ls' := [.ref 47, .int (nI 0), .int (nI 1), .int (nI 8)]) d_Mo_allNumbers_73 (Nat.le_of_ble_eq_true rfl) rfl ?_
    refine en_inc (ls' := [.ref 47, .int (nI 0), .int (nI 1), .int (nI 9)]) d_Mo_allNumbers_74 rfl rfl ?_
    refine ew_goto (tgt := 19) d_Mo_allNumbers_77 (by decide) ?_
    refine en_eq (ls' := [.ref 47, .int (ew_b (X && sp_in (M 56 113) 12289)), .int (nI 1), .int (nI 9)]) (by rw [show (X && sp_in (M 56 113) 12289) = false from by rw [h26, Bool.false_and]]; rfl) rfl rfl ?_
    exact K
  · refine ew_aload_n d_Mo_allNumbers_29 rfl ?_
    refine ew_getr (ci := 9) (f := 10) d_Mo_allNumbers_30 rfl rfl rfl tw_602 ?_
    refine ew_iload_n d_Mo_allNumbers_33 rfl ?_
    refine ew_iload_n d_Mo_allNumbers_34 rfl ?_
    refine en_callS (As := [.int (nI 1), .int (nI 8)]) (st := [.ref 56]) (st1 := [.int (nI 113), .ref 56]) d_Mo_allNumbers_35 k_Mo_placeOf tw_819 tw_820 rfl (Nat.le_of_ble_eq_true rfl) rfl (Nat.le_of_ble_eq_true rfl) rfl rfl (c_Mo_placeOf_1_8 l g _ L M) rfl ?_
    refine ew_iald (j := 113) d_Mo_allNumbers_38 rfl (rfl) (by decide) (by decide) ?_
    refine en_callS (As := [.int (M 56 113)]) (st := []) (st1 := [.int (ew_b (sp_in (M 56 113) 12289))]) d_Mo_allNumbers_39 k_Mo_isNumber tw_671 tw_672 rfl (Nat.le_of_ble_eq_true rfl) rfl (Nat.le_of_ble_eq_true rfl) rfl rfl (c_Mo_isNumber l g _ (ew_SH L) M (M 56 113)) rfl ?_
    refine en_b_eq (tgt := 72) d_Mo_allNumbers_42 (by decide) (fun h42 => ?_) (fun h42 => ?_)
    · refine ew_iconst (v := nI 0) d_Mo_allNumbers_72 (by decide) ?_
      refine en_istore_n (ls' := [.ref 47, .int (nI 0), .int (nI 1), .int (nI 8)]) d_Mo_allNumbers_73 (Nat.le_of_ble_eq_true rfl) rfl ?_
      refine en_inc (ls' := [.ref 47, .int (nI 0), .int (nI 1), .int (nI 9)]) d_Mo_allNumbers_74 rfl rfl ?_
      refine ew_goto (tgt := 19) d_Mo_allNumbers_77 (by decide) ?_
      refine en_eq (ls' := [.ref 47, .int (ew_b (X && sp_in (M 56 113) 12289)), .int (nI 1), .int (nI 9)]) (by rw [show (X && sp_in (M 56 113) 12289) = false from by rw [h42, Bool.and_false]]; rfl) rfl rfl ?_
      exact K
    · refine ew_iload_n d_Mo_allNumbers_45 rfl ?_
      refine ew_iconst (v := nI 3) d_Mo_allNumbers_46 (by decide) ?_
      refine en_icmp_gt (tgt := 68) d_Mo_allNumbers_47 (by decide) (by decide) (by decide) (fun h47 => ?_) (fun h47 => by exact absurd h47 (by decide))
      refine ew_iconst (v := nI 1) d_Mo_allNumbers_68 (by decide) ?_
      refine ew_goto (tgt := 73) d_Mo_allNumbers_69 (by decide) ?_
      refine en_istore_n (ls' := [.ref 47, .int (nI 1), .int (nI 1), .int (nI 8)]) d_Mo_allNumbers_73 (Nat.le_of_ble_eq_true rfl) rfl ?_
      refine en_inc (ls' := [.ref 47, .int (nI 1), .int (nI 1), .int (nI 9)]) d_Mo_allNumbers_74 rfl rfl ?_
      refine ew_goto (tgt := 19) d_Mo_allNumbers_77 (by decide) ?_
      refine en_eq (ls' := [.ref 47, .int (ew_b (X && sp_in (M 56 113) 12289)), .int (nI 1), .int (nI 9)]) (by rw [show (X && sp_in (M 56 113) 12289) = true from by rw [h26, h42]; rfl]; rfl) rfl rfl ?_
      exact K
set_option maxRecDepth 100000 in
theorem st_Mo_all_1_9 (l : Launch) (g : ew_G) (d L : Nat) (M : ew_M) (X : Bool) (Q : Option Value → List ew_S → ew_M → Prop) (K : Ew l g (d + 1) 0 0 m_Mo_allNumbers 19 [.ref 47, .int (ew_b (X && sp_in (M 56 117) 12289)), .int (nI 1), .int (nI 10)] [] (ew_SH L) M Q) :
    Ew l g (d + 1) 0 0 m_Mo_allNumbers 19 [.ref 47, .int (ew_b X), .int (nI 1), .int (nI 9)] [] (ew_SH L) M Q := by
  refine ew_iload_n d_Mo_allNumbers_19 rfl ?_
  refine ew_bipush (v := nI 10) d_Mo_allNumbers_20 (by decide) ?_
  refine en_icmp_ge (tgt := 80) d_Mo_allNumbers_22 (by decide) (by decide) (by decide) (fun h22 => by exact absurd h22 (by decide)) (fun h22 => ?_)
  refine ew_iload_n d_Mo_allNumbers_25 rfl ?_
  refine en_b_eq (tgt := 72) d_Mo_allNumbers_26 (by decide) (fun h26 => ?_) (fun h26 => ?_)
  · refine ew_iconst (v := nI 0) d_Mo_allNumbers_72 (by decide) ?_
    refine en_istore_n (ls' := [.ref 47, .int (nI 0), .int (nI 1), .int (nI 9)]) d_Mo_allNumbers_73 (Nat.le_of_ble_eq_true rfl) rfl ?_
    refine en_inc (ls' := [.ref 47, .int (nI 0), .int (nI 1), .int (nI 10)]) d_Mo_allNumbers_74 rfl rfl ?_
    refine ew_goto (tgt := 19) d_Mo_allNumbers_77 (by decide) ?_
    refine en_eq (ls' := [.ref 47, .int (ew_b (X && sp_in (M 56 117) 12289)), .int (nI 1), .int (nI 10)]) (by rw [show (X && sp_in (M 56 117) 12289) = false from by rw [h26, Bool.false_and]]; rfl) rfl rfl ?_
    exact K
  · refine ew_aload_n d_Mo_allNumbers_29 rfl ?_
    refine ew_getr (ci := 9) (f := 10) d_Mo_allNumbers_30 rfl rfl rfl tw_602 ?_
    refine ew_iload_n d_Mo_allNumbers_33 rfl ?_
    refine ew_iload_n d_Mo_allNumbers_34 rfl ?_
    refine en_callS (As := [.int (nI 1), .int (nI 9)]) (st := [.ref 56]) (st1 := [.int (nI 117), .ref 56]) d_Mo_allNumbers_35 k_Mo_placeOf tw_819 tw_820 rfl (Nat.le_of_ble_eq_true rfl) rfl (Nat.le_of_ble_eq_true rfl) rfl rfl (c_Mo_placeOf_1_9 l g _ L M) rfl ?_
    refine ew_iald (j := 117) d_Mo_allNumbers_38 rfl (rfl) (by decide) (by decide) ?_
    refine en_callS (As := [.int (M 56 117)]) (st := []) (st1 := [.int (ew_b (sp_in (M 56 117) 12289))]) d_Mo_allNumbers_39 k_Mo_isNumber tw_671 tw_672 rfl (Nat.le_of_ble_eq_true rfl) rfl (Nat.le_of_ble_eq_true rfl) rfl rfl (c_Mo_isNumber l g _ (ew_SH L) M (M 56 117)) rfl ?_
    refine en_b_eq (tgt := 72) d_Mo_allNumbers_42 (by decide) (fun h42 => ?_) (fun h42 => ?_)
    · refine ew_iconst (v := nI 0) d_Mo_allNumbers_72 (by decide) ?_
      refine en_istore_n (ls' := [.ref 47, .int (nI 0), .int (nI 1), .int (nI 9)]) d_Mo_allNumbers_73 (Nat.le_of_ble_eq_true rfl) rfl ?_
      refine en_inc (ls' := [.ref 47, .int (nI 0), .int (nI 1), .int (nI 10)]) d_Mo_allNumbers_74 rfl rfl ?_
      refine ew_goto (tgt := 19) d_Mo_allNumbers_77 (by decide) ?_
      refine en_eq (ls' := [.ref 47, .int (ew_b (X && sp_in (M 56 117) 12289)), .int (nI 1), .int (nI 10)]) (by rw [show (X && sp_in (M 56 117) 12289) = false from by rw [h42, Bool.and_false]]; rfl) rfl rfl ?_
      exact K
    · refine ew_iload_n d_Mo_allNumbers_45 rfl ?_
      refine ew_iconst (v := nI 3) d_Mo_allNumbers_46 (by decide) ?_
      refine en_icmp_gt (tgt := 68) d_Mo_allNumbers_47 (by decide) (by decide) (by decide) (fun h47 => ?_) (fun h47 => by exact absurd h47 (by decide))
      refine ew_iconst (v := nI 1) d_Mo_allNumbers_68 (by decide) ?_
      refine ew_goto (tgt := 73) d_Mo_allNumbers_69 (by decide) ?_
      refine en_istore_n (ls' := [.ref 47, .int (nI 1), .int (nI 1), .int (nI 9)]) d_Mo_allNumbers_73 (Nat.le_of_ble_eq_true rfl) rfl ?_
      refine en_inc (ls' := [.ref 47, .int (nI 1), .int (nI 1), .int (nI 10)]) d_Mo_allNumbers_74 rfl rfl ?_
      refine ew_goto (tgt := 19) d_Mo_allNumbers_77 (by decide) ?_
      refine en_eq (ls' := [.ref 47, .int (ew_b (X && sp_in (M 56 117) 12289)), .int (nI 1), .int (nI 10)]) (by rw [show (X && sp_in (M 56 117) 12289) = true from by rw [h26, h42]; rfl]; rfl) rfl rfl ?_
      exact K
set_option maxRecDepth 100000 in
theorem st_Mo_all_2_0 (l : Launch) (g : ew_G) (d L : Nat) (M : ew_M) (X : Bool) (Q : Option Value → List ew_S → ew_M → Prop) (K : Ew l g (d + 1) 0 0 m_Mo_allNumbers 19 [.ref 47, .int (ew_b (X && (sp_in (M 56 121) 12289 && sp_in (M 56 122) 12289))), .int (nI 2), .int (nI 1)] [] (ew_SH L) M Q) :
    Ew l g (d + 1) 0 0 m_Mo_allNumbers 19 [.ref 47, .int (ew_b X), .int (nI 2), .int (nI 0)] [] (ew_SH L) M Q := by
  refine ew_iload_n d_Mo_allNumbers_19 rfl ?_
  refine ew_bipush (v := nI 10) d_Mo_allNumbers_20 (by decide) ?_
  refine en_icmp_ge (tgt := 80) d_Mo_allNumbers_22 (by decide) (by decide) (by decide) (fun h22 => by exact absurd h22 (by decide)) (fun h22 => ?_)
  refine ew_iload_n d_Mo_allNumbers_25 rfl ?_
  refine en_b_eq (tgt := 72) d_Mo_allNumbers_26 (by decide) (fun h26 => ?_) (fun h26 => ?_)
  · refine ew_iconst (v := nI 0) d_Mo_allNumbers_72 (by decide) ?_
    refine en_istore_n (ls' := [.ref 47, .int (nI 0), .int (nI 2), .int (nI 0)]) d_Mo_allNumbers_73 (Nat.le_of_ble_eq_true rfl) rfl ?_
    refine en_inc (ls' := [.ref 47, .int (nI 0), .int (nI 2), .int (nI 1)]) d_Mo_allNumbers_74 rfl rfl ?_
    refine ew_goto (tgt := 19) d_Mo_allNumbers_77 (by decide) ?_
    refine en_eq (ls' := [.ref 47, .int (ew_b (X && (sp_in (M 56 121) 12289 && sp_in (M 56 122) 12289))), .int (nI 2), .int (nI 1)]) (by rw [show (X && (sp_in (M 56 121) 12289 && sp_in (M 56 122) 12289)) = false from by rw [h26, Bool.false_and]]; rfl) rfl rfl ?_
    exact K
  · refine ew_aload_n d_Mo_allNumbers_29 rfl ?_
    refine ew_getr (ci := 9) (f := 10) d_Mo_allNumbers_30 rfl rfl rfl tw_602 ?_
    refine ew_iload_n d_Mo_allNumbers_33 rfl ?_
    refine ew_iload_n d_Mo_allNumbers_34 rfl ?_
    refine en_callS (As := [.int (nI 2), .int (nI 0)]) (st := [.ref 56]) (st1 := [.int (nI 121), .ref 56]) d_Mo_allNumbers_35 k_Mo_placeOf tw_819 tw_820 rfl (Nat.le_of_ble_eq_true rfl) rfl (Nat.le_of_ble_eq_true rfl) rfl rfl (c_Mo_placeOf_2_0 l g _ L M) rfl ?_
    refine ew_iald (j := 121) d_Mo_allNumbers_38 rfl (rfl) (by decide) (by decide) ?_
    refine en_callS (As := [.int (M 56 121)]) (st := []) (st1 := [.int (ew_b (sp_in (M 56 121) 12289))]) d_Mo_allNumbers_39 k_Mo_isNumber tw_671 tw_672 rfl (Nat.le_of_ble_eq_true rfl) rfl (Nat.le_of_ble_eq_true rfl) rfl rfl (c_Mo_isNumber l g _ (ew_SH L) M (M 56 121)) rfl ?_
    refine en_b_eq (tgt := 72) d_Mo_allNumbers_42 (by decide) (fun h42 => ?_) (fun h42 => ?_)
    · refine ew_iconst (v := nI 0) d_Mo_allNumbers_72 (by decide) ?_
      refine en_istore_n (ls' := [.ref 47, .int (nI 0), .int (nI 2), .int (nI 0)]) d_Mo_allNumbers_73 (Nat.le_of_ble_eq_true rfl) rfl ?_
      refine en_inc (ls' := [.ref 47, .int (nI 0), .int (nI 2), .int (nI 1)]) d_Mo_allNumbers_74 rfl rfl ?_
      refine ew_goto (tgt := 19) d_Mo_allNumbers_77 (by decide) ?_
      refine en_eq (ls' := [.ref 47, .int (ew_b (X && (sp_in (M 56 121) 12289 && sp_in (M 56 122) 12289))), .int (nI 2), .int (nI 1)]) (by rw [show (X && (sp_in (M 56 121) 12289 && sp_in (M 56 122) 12289)) = false from by rw [h42, Bool.false_and, Bool.and_false]]; rfl) rfl rfl ?_
      exact K
    · refine ew_iload_n d_Mo_allNumbers_45 rfl ?_
      refine ew_iconst (v := nI 3) d_Mo_allNumbers_46 (by decide) ?_
      refine en_icmp_gt (tgt := 68) d_Mo_allNumbers_47 (by decide) (by decide) (by decide) (fun h47 => by exact absurd h47 (by decide)) (fun h47 => ?_)
      refine ew_aload_n d_Mo_allNumbers_50 rfl ?_
      refine ew_getr (ci := 9) (f := 10) d_Mo_allNumbers_51 rfl rfl rfl tw_602 ?_
      refine ew_iload_n d_Mo_allNumbers_54 rfl ?_
      refine ew_iload_n d_Mo_allNumbers_55 rfl ?_
      refine en_callS (As := [.int (nI 2), .int (nI 0)]) (st := [.ref 56]) (st1 := [.int (nI 121), .ref 56]) d_Mo_allNumbers_56 k_Mo_placeOf tw_819 tw_820 rfl (Nat.le_of_ble_eq_true rfl) rfl (Nat.le_of_ble_eq_true rfl) rfl rfl (c_Mo_placeOf_2_0 l g _ L M) rfl ?_
      refine ew_iconst (v := nI 1) d_Mo_allNumbers_59 (by decide) ?_
      refine en_iadd d_Mo_allNumbers_60 ?_
      refine en_eq rfl (show _ = [.int (nI 122), .ref 56] from rfl) rfl ?_
      refine ew_iald (j := 122) d_Mo_allNumbers_61 rfl (rfl) (by decide) (by decide) ?_
      refine en_callS (As := [.int (M 56 122)]) (st := []) (st1 := [.int (ew_b (sp_in (M 56 122) 12289))]) d_Mo_allNumbers_62 k_Mo_isNumber tw_671 tw_672 rfl (Nat.le_of_ble_eq_true rfl) rfl (Nat.le_of_ble_eq_true rfl) rfl rfl (c_Mo_isNumber l g _ (ew_SH L) M (M 56 122)) rfl ?_
      refine en_b_eq (tgt := 72) d_Mo_allNumbers_65 (by decide) (fun h65 => ?_) (fun h65 => ?_)
      · refine ew_iconst (v := nI 0) d_Mo_allNumbers_72 (by decide) ?_
        refine en_istore_n (ls' := [.ref 47, .int (nI 0), .int (nI 2), .int (nI 0)]) d_Mo_allNumbers_73 (Nat.le_of_ble_eq_true rfl) rfl ?_
        refine en_inc (ls' := [.ref 47, .int (nI 0), .int (nI 2), .int (nI 1)]) d_Mo_allNumbers_74 rfl rfl ?_
        refine ew_goto (tgt := 19) d_Mo_allNumbers_77 (by decide) ?_
        refine en_eq (ls' := [.ref 47, .int (ew_b (X && (sp_in (M 56 121) 12289 && sp_in (M 56 122) 12289))), .int (nI 2), .int (nI 1)]) (by rw [show (X && (sp_in (M 56 121) 12289 && sp_in (M 56 122) 12289)) = false from by rw [h65, Bool.and_false, Bool.and_false]]; rfl) rfl rfl ?_
        exact K
      · refine ew_iconst (v := nI 1) d_Mo_allNumbers_68 (by decide) ?_
        refine ew_goto (tgt := 73) d_Mo_allNumbers_69 (by decide) ?_
        refine en_istore_n (ls' := [.ref 47, .int (nI 1), .int (nI 2), .int (nI 0)]) d_Mo_allNumbers_73 (Nat.le_of_ble_eq_true rfl) rfl ?_
        refine en_inc (ls' := [.ref 47, .int (nI 1), .int (nI 2), .int (nI 1)]) d_Mo_allNumbers_74 rfl rfl ?_
        refine ew_goto (tgt := 19) d_Mo_allNumbers_77 (by decide) ?_
        refine en_eq (ls' := [.ref 47, .int (ew_b (X && (sp_in (M 56 121) 12289 && sp_in (M 56 122) 12289))), .int (nI 2), .int (nI 1)]) (by rw [show (X && (sp_in (M 56 121) 12289 && sp_in (M 56 122) 12289)) = true from by rw [h26, h42, h65]; rfl]; rfl) rfl rfl ?_
        exact K
set_option maxRecDepth 100000 in
theorem st_Mo_all_2_1 (l : Launch) (g : ew_G) (d L : Nat) (M : ew_M) (X : Bool) (Q : Option Value → List ew_S → ew_M → Prop) (K : Ew l g (d + 1) 0 0 m_Mo_allNumbers 19 [.ref 47, .int (ew_b (X && (sp_in (M 56 128) 12289 && sp_in (M 56 129) 12289))), .int (nI 2), .int (nI 2)] [] (ew_SH L) M Q) :
    Ew l g (d + 1) 0 0 m_Mo_allNumbers 19 [.ref 47, .int (ew_b X), .int (nI 2), .int (nI 1)] [] (ew_SH L) M Q := by
  refine ew_iload_n d_Mo_allNumbers_19 rfl ?_
  refine ew_bipush (v := nI 10) d_Mo_allNumbers_20 (by decide) ?_
  refine en_icmp_ge (tgt := 80) d_Mo_allNumbers_22 (by decide) (by decide) (by decide) (fun h22 => by exact absurd h22 (by decide)) (fun h22 => ?_)
  refine ew_iload_n d_Mo_allNumbers_25 rfl ?_
  refine en_b_eq (tgt := 72) d_Mo_allNumbers_26 (by decide) (fun h26 => ?_) (fun h26 => ?_)
  · refine ew_iconst (v := nI 0) d_Mo_allNumbers_72 (by decide) ?_
    refine en_istore_n (ls' := [.ref 47, .int (nI 0), .int (nI 2), .int (nI 1)]) d_Mo_allNumbers_73 (Nat.le_of_ble_eq_true rfl) rfl ?_
    refine en_inc (ls' := [.ref 47, .int (nI 0), .int (nI 2), .int (nI 2)]) d_Mo_allNumbers_74 rfl rfl ?_
    refine ew_goto (tgt := 19) d_Mo_allNumbers_77 (by decide) ?_
    refine en_eq (ls' := [.ref 47, .int (ew_b (X && (sp_in (M 56 128) 12289 && sp_in (M 56 129) 12289))), .int (nI 2), .int (nI 2)]) (by rw [show (X && (sp_in (M 56 128) 12289 && sp_in (M 56 129) 12289)) = false from by rw [h26, Bool.false_and]]; rfl) rfl rfl ?_
    exact K
  · refine ew_aload_n d_Mo_allNumbers_29 rfl ?_
    refine ew_getr (ci := 9) (f := 10) d_Mo_allNumbers_30 rfl rfl rfl tw_602 ?_
    refine ew_iload_n d_Mo_allNumbers_33 rfl ?_
    refine ew_iload_n d_Mo_allNumbers_34 rfl ?_
    refine en_callS (As := [.int (nI 2), .int (nI 1)]) (st := [.ref 56]) (st1 := [.int (nI 128), .ref 56]) d_Mo_allNumbers_35 k_Mo_placeOf tw_819 tw_820 rfl (Nat.le_of_ble_eq_true rfl) rfl (Nat.le_of_ble_eq_true rfl) rfl rfl (c_Mo_placeOf_2_1 l g _ L M) rfl ?_
    refine ew_iald (j := 128) d_Mo_allNumbers_38 rfl (rfl) (by decide) (by decide) ?_
    refine en_callS (As := [.int (M 56 128)]) (st := []) (st1 := [.int (ew_b (sp_in (M 56 128) 12289))]) d_Mo_allNumbers_39 k_Mo_isNumber tw_671 tw_672 rfl (Nat.le_of_ble_eq_true rfl) rfl (Nat.le_of_ble_eq_true rfl) rfl rfl (c_Mo_isNumber l g _ (ew_SH L) M (M 56 128)) rfl ?_
    refine en_b_eq (tgt := 72) d_Mo_allNumbers_42 (by decide) (fun h42 => ?_) (fun h42 => ?_)
    · refine ew_iconst (v := nI 0) d_Mo_allNumbers_72 (by decide) ?_
      refine en_istore_n (ls' := [.ref 47, .int (nI 0), .int (nI 2), .int (nI 1)]) d_Mo_allNumbers_73 (Nat.le_of_ble_eq_true rfl) rfl ?_
      refine en_inc (ls' := [.ref 47, .int (nI 0), .int (nI 2), .int (nI 2)]) d_Mo_allNumbers_74 rfl rfl ?_
      refine ew_goto (tgt := 19) d_Mo_allNumbers_77 (by decide) ?_
      refine en_eq (ls' := [.ref 47, .int (ew_b (X && (sp_in (M 56 128) 12289 && sp_in (M 56 129) 12289))), .int (nI 2), .int (nI 2)]) (by rw [show (X && (sp_in (M 56 128) 12289 && sp_in (M 56 129) 12289)) = false from by rw [h42, Bool.false_and, Bool.and_false]]; rfl) rfl rfl ?_
      exact K
    · refine ew_iload_n d_Mo_allNumbers_45 rfl ?_
      refine ew_iconst (v := nI 3) d_Mo_allNumbers_46 (by decide) ?_
      refine en_icmp_gt (tgt := 68) d_Mo_allNumbers_47 (by decide) (by decide) (by decide) (fun h47 => by exact absurd h47 (by decide)) (fun h47 => ?_)
      refine ew_aload_n d_Mo_allNumbers_50 rfl ?_
      refine ew_getr (ci := 9) (f := 10) d_Mo_allNumbers_51 rfl rfl rfl tw_602 ?_
      refine ew_iload_n d_Mo_allNumbers_54 rfl ?_
      refine ew_iload_n d_Mo_allNumbers_55 rfl ?_
      refine en_callS (As := [.int (nI 2), .int (nI 1)]) (st := [.ref 56]) (st1 := [.int (nI 128), .ref 56]) d_Mo_allNumbers_56 k_Mo_placeOf tw_819 tw_820 rfl (Nat.le_of_ble_eq_true rfl) rfl (Nat.le_of_ble_eq_true rfl) rfl rfl (c_Mo_placeOf_2_1 l g _ L M) rfl ?_
      refine ew_iconst (v := nI 1) d_Mo_allNumbers_59 (by decide) ?_
      refine en_iadd d_Mo_allNumbers_60 ?_
      refine en_eq rfl (show _ = [.int (nI 129), .ref 56] from rfl) rfl ?_
      refine ew_iald (j := 129) d_Mo_allNumbers_61 rfl (rfl) (by decide) (by decide) ?_
      refine en_callS (As := [.int (M 56 129)]) (st := []) (st1 := [.int (ew_b (sp_in (M 56 129) 12289))]) d_Mo_allNumbers_62 k_Mo_isNumber tw_671 tw_672 rfl (Nat.le_of_ble_eq_true rfl) rfl (Nat.le_of_ble_eq_true rfl) rfl rfl (c_Mo_isNumber l g _ (ew_SH L) M (M 56 129)) rfl ?_
      refine en_b_eq (tgt := 72) d_Mo_allNumbers_65 (by decide) (fun h65 => ?_) (fun h65 => ?_)
      · refine ew_iconst (v := nI 0) d_Mo_allNumbers_72 (by decide) ?_
        refine en_istore_n (ls' := [.ref 47, .int (nI 0), .int (nI 2), .int (nI 1)]) d_Mo_allNumbers_73 (Nat.le_of_ble_eq_true rfl) rfl ?_
        refine en_inc (ls' := [.ref 47, .int (nI 0), .int (nI 2), .int (nI 2)]) d_Mo_allNumbers_74 rfl rfl ?_
        refine ew_goto (tgt := 19) d_Mo_allNumbers_77 (by decide) ?_
        refine en_eq (ls' := [.ref 47, .int (ew_b (X && (sp_in (M 56 128) 12289 && sp_in (M 56 129) 12289))), .int (nI 2), .int (nI 2)]) (by rw [show (X && (sp_in (M 56 128) 12289 && sp_in (M 56 129) 12289)) = false from by rw [h65, Bool.and_false, Bool.and_false]]; rfl) rfl rfl ?_
        exact K
      · refine ew_iconst (v := nI 1) d_Mo_allNumbers_68 (by decide) ?_
        refine ew_goto (tgt := 73) d_Mo_allNumbers_69 (by decide) ?_
        refine en_istore_n (ls' := [.ref 47, .int (nI 1), .int (nI 2), .int (nI 1)]) d_Mo_allNumbers_73 (Nat.le_of_ble_eq_true rfl) rfl ?_
        refine en_inc (ls' := [.ref 47, .int (nI 1), .int (nI 2), .int (nI 2)]) d_Mo_allNumbers_74 rfl rfl ?_
        refine ew_goto (tgt := 19) d_Mo_allNumbers_77 (by decide) ?_
        refine en_eq (ls' := [.ref 47, .int (ew_b (X && (sp_in (M 56 128) 12289 && sp_in (M 56 129) 12289))), .int (nI 2), .int (nI 2)]) (by rw [show (X && (sp_in (M 56 128) 12289 && sp_in (M 56 129) 12289)) = true from by rw [h26, h42, h65]; rfl]; rfl) rfl rfl ?_
        exact K
set_option maxRecDepth 100000 in
theorem st_Mo_all_2_2 (l : Launch) (g : ew_G) (d L : Nat) (M : ew_M) (X : Bool) (Q : Option Value → List ew_S → ew_M → Prop) (K : Ew l g (d + 1) 0 0 m_Mo_allNumbers 19 [.ref 47, .int (ew_b (X && (sp_in (M 56 135) 12289 && sp_in (M 56 136) 12289))), .int (nI 2), .int (nI 3)] [] (ew_SH L) M Q) :
    Ew l g (d + 1) 0 0 m_Mo_allNumbers 19 [.ref 47, .int (ew_b X), .int (nI 2), .int (nI 2)] [] (ew_SH L) M Q := by
  refine ew_iload_n d_Mo_allNumbers_19 rfl ?_
  refine ew_bipush (v := nI 10) d_Mo_allNumbers_20 (by decide) ?_
  refine en_icmp_ge (tgt := 80) d_Mo_allNumbers_22 (by decide) (by decide) (by decide) (fun h22 => by exact absurd h22 (by decide)) (fun h22 => ?_)
  refine ew_iload_n d_Mo_allNumbers_25 rfl ?_
  refine en_b_eq (tgt := 72) d_Mo_allNumbers_26 (by decide) (fun h26 => ?_) (fun h26 => ?_)
  · refine ew_iconst (v := nI 0) d_Mo_allNumbers_72 (by decide) ?_
    refine en_istore_n (ls' := [.ref 47, .int (nI 0), .int (nI 2), .int (nI 2)]) d_Mo_allNumbers_73 (Nat.le_of_ble_eq_true rfl) rfl ?_
    refine en_inc (ls' := [.ref 47, .int (nI 0), .int (nI 2), .int (nI 3)]) d_Mo_allNumbers_74 rfl rfl ?_
    refine ew_goto (tgt := 19) d_Mo_allNumbers_77 (by decide) ?_
    refine en_eq (ls' := [.ref 47, .int (ew_b (X && (sp_in (M 56 135) 12289 && sp_in (M 56 136) 12289))), .int (nI 2), .int (nI 3)]) (by rw [show (X && (sp_in (M 56 135) 12289 && sp_in (M 56 136) 12289)) = false from by rw [h26, Bool.false_and]]; rfl) rfl rfl ?_
    exact K
  · refine ew_aload_n d_Mo_allNumbers_29 rfl ?_
    refine ew_getr (ci := 9) (f := 10) d_Mo_allNumbers_30 rfl rfl rfl tw_602 ?_
    refine ew_iload_n d_Mo_allNumbers_33 rfl ?_
    refine ew_iload_n d_Mo_allNumbers_34 rfl ?_
    refine en_callS (As := [.int (nI 2), .int (nI 2)]) (st := [.ref 56]) (st1 := [.int (nI 135), .ref 56]) d_Mo_allNumbers_35 k_Mo_placeOf tw_819 tw_820 rfl (Nat.le_of_ble_eq_true rfl) rfl (Nat.le_of_ble_eq_true rfl) rfl rfl (c_Mo_placeOf_2_2 l g _ L M) rfl ?_
    refine ew_iald (j := 135) d_Mo_allNumbers_38 rfl (rfl) (by decide) (by decide) ?_
    refine en_callS (As := [.int (M 56 135)]) (st := []) (st1 := [.int (ew_b (sp_in (M 56 135) 12289))]) d_Mo_allNumbers_39 k_Mo_isNumber tw_671 tw_672 rfl (Nat.le_of_ble_eq_true rfl) rfl (Nat.le_of_ble_eq_true rfl) rfl rfl (c_Mo_isNumber l g _ (ew_SH L) M (M 56 135)) rfl ?_
    refine en_b_eq (tgt := 72) d_Mo_allNumbers_42 (by decide) (fun h42 => ?_) (fun h42 => ?_)
    · refine ew_iconst (v := nI 0) d_Mo_allNumbers_72 (by decide) ?_
      refine en_istore_n (ls' := [.ref 47, .int (nI 0), .int (nI 2), .int (nI 2)]) d_Mo_allNumbers_73 (Nat.le_of_ble_eq_true rfl) rfl ?_
      refine en_inc (ls' := [.ref 47, .int (nI 0), .int (nI 2), .int (nI 3)]) d_Mo_allNumbers_74 rfl rfl ?_
      refine ew_goto (tgt := 19) d_Mo_allNumbers_77 (by decide) ?_
      refine en_eq (ls' := [.ref 47, .int (ew_b (X && (sp_in (M 56 135) 12289 && sp_in (M 56 136) 12289))), .int (nI 2), .int (nI 3)]) (by rw [show (X && (sp_in (M 56 135) 12289 && sp_in (M 56 136) 12289)) = false from by rw [h42, Bool.false_and, Bool.and_false]]; rfl) rfl rfl ?_
      exact K
    · refine ew_iload_n d_Mo_allNumbers_45 rfl ?_
      refine ew_iconst (v := nI 3) d_Mo_allNumbers_46 (by decide) ?_
      refine en_icmp_gt (tgt := 68) d_Mo_allNumbers_47 (by decide) (by decide) (by decide) (fun h47 => by exact absurd h47 (by decide)) (fun h47 => ?_)
      refine ew_aload_n d_Mo_allNumbers_50 rfl ?_
      refine ew_getr (ci := 9) (f := 10) d_Mo_allNumbers_51 rfl rfl rfl tw_602 ?_
      refine ew_iload_n d_Mo_allNumbers_54 rfl ?_
      refine ew_iload_n d_Mo_allNumbers_55 rfl ?_
      refine en_callS (As := [.int (nI 2), .int (nI 2)]) (st := [.ref 56]) (st1 := [.int (nI 135), .ref 56]) d_Mo_allNumbers_56 k_Mo_placeOf tw_819 tw_820 rfl (Nat.le_of_ble_eq_true rfl) rfl (Nat.le_of_ble_eq_true rfl) rfl rfl (c_Mo_placeOf_2_2 l g _ L M) rfl ?_
      refine ew_iconst (v := nI 1) d_Mo_allNumbers_59 (by decide) ?_
      refine en_iadd d_Mo_allNumbers_60 ?_
      refine en_eq rfl (show _ = [.int (nI 136), .ref 56] from rfl) rfl ?_
      refine ew_iald (j := 136) d_Mo_allNumbers_61 rfl (rfl) (by decide) (by decide) ?_
      refine en_callS (As := [.int (M 56 136)]) (st := []) (st1 := [.int (ew_b (sp_in (M 56 136) 12289))]) d_Mo_allNumbers_62 k_Mo_isNumber tw_671 tw_672 rfl (Nat.le_of_ble_eq_true rfl) rfl (Nat.le_of_ble_eq_true rfl) rfl rfl (c_Mo_isNumber l g _ (ew_SH L) M (M 56 136)) rfl ?_
      refine en_b_eq (tgt := 72) d_Mo_allNumbers_65 (by decide) (fun h65 => ?_) (fun h65 => ?_)
      · refine ew_iconst (v := nI 0) d_Mo_allNumbers_72 (by decide) ?_
        refine en_istore_n (ls' := [.ref 47, .int (nI 0), .int (nI 2), .int (nI 2)]) d_Mo_allNumbers_73 (Nat.le_of_ble_eq_true rfl) rfl ?_
        refine en_inc (ls' := [.ref 47, .int (nI 0), .int (nI 2), .int (nI 3)]) d_Mo_allNumbers_74 rfl rfl ?_
        refine ew_goto (tgt := 19) d_Mo_allNumbers_77 (by decide) ?_
        refine en_eq (ls' := [.ref 47, .int (ew_b (X && (sp_in (M 56 135) 12289 && sp_in (M 56 136) 12289))), .int (nI 2), .int (nI 3)]) (by rw [show (X && (sp_in (M 56 135) 12289 && sp_in (M 56 136) 12289)) = false from by rw [h65, Bool.and_false, Bool.and_false]]; rfl) rfl rfl ?_
        exact K
      · refine ew_iconst (v := nI 1) d_Mo_allNumbers_68 (by decide) ?_
        refine ew_goto (tgt := 73) d_Mo_allNumbers_69 (by decide) ?_
        refine en_istore_n (ls' := [.ref 47, .int (nI 1), .int (nI 2), .int (nI 2)]) d_Mo_allNumbers_73 (Nat.le_of_ble_eq_true rfl) rfl ?_
        refine en_inc (ls' := [.ref 47, .int (nI 1), .int (nI 2), .int (nI 3)]) d_Mo_allNumbers_74 rfl rfl ?_
        refine ew_goto (tgt := 19) d_Mo_allNumbers_77 (by decide) ?_
        refine en_eq (ls' := [.ref 47, .int (ew_b (X && (sp_in (M 56 135) 12289 && sp_in (M 56 136) 12289))), .int (nI 2), .int (nI 3)]) (by rw [show (X && (sp_in (M 56 135) 12289 && sp_in (M 56 136) 12289)) = true from by rw [h26, h42, h65]; rfl]; rfl) rfl rfl ?_
        exact K
set_option maxRecDepth 100000 in
theorem st_Mo_all_2_3 (l : Launch) (g : ew_G) (d L : Nat) (M : ew_M) (X : Bool) (Q : Option Value → List ew_S → ew_M → Prop) (K : Ew l g (d + 1) 0 0 m_Mo_allNumbers 19 [.ref 47, .int (ew_b (X && (sp_in (M 56 142) 12289 && sp_in (M 56 143) 12289))), .int (nI 2), .int (nI 4)] [] (ew_SH L) M Q) :
    Ew l g (d + 1) 0 0 m_Mo_allNumbers 19 [.ref 47, .int (ew_b X), .int (nI 2), .int (nI 3)] [] (ew_SH L) M Q := by
  refine ew_iload_n d_Mo_allNumbers_19 rfl ?_
  refine ew_bipush (v := nI 10) d_Mo_allNumbers_20 (by decide) ?_
  refine en_icmp_ge (tgt := 80) d_Mo_allNumbers_22 (by decide) (by decide) (by decide) (fun h22 => by exact absurd h22 (by decide)) (fun h22 => ?_)
  refine ew_iload_n d_Mo_allNumbers_25 rfl ?_
  refine en_b_eq (tgt := 72) d_Mo_allNumbers_26 (by decide) (fun h26 => ?_) (fun h26 => ?_)
  · refine ew_iconst (v := nI 0) d_Mo_allNumbers_72 (by decide) ?_
    refine en_istore_n (ls' := [.ref 47, .int (nI 0), .int (nI 2), .int (nI 3)]) d_Mo_allNumbers_73 (Nat.le_of_ble_eq_true rfl) rfl ?_
    refine en_inc (ls' := [.ref 47, .int (nI 0), .int (nI 2), .int (nI 4)]) d_Mo_allNumbers_74 rfl rfl ?_
    refine ew_goto (tgt := 19) d_Mo_allNumbers_77 (by decide) ?_
    refine en_eq (ls' := [.ref 47, .int (ew_b (X && (sp_in (M 56 142) 12289 && sp_in (M 56 143) 12289))), .int (nI 2), .int (nI 4)]) (by rw [show (X && (sp_in (M 56 142) 12289 && sp_in (M 56 143) 12289)) = false from by rw [h26, Bool.false_and]]; rfl) rfl rfl ?_
    exact K
  · refine ew_aload_n d_Mo_allNumbers_29 rfl ?_
    refine ew_getr (ci := 9) (f := 10) d_Mo_allNumbers_30 rfl rfl rfl tw_602 ?_
    refine ew_iload_n d_Mo_allNumbers_33 rfl ?_
    refine ew_iload_n d_Mo_allNumbers_34 rfl ?_
    refine en_callS (As := [.int (nI 2), .int (nI 3)]) (st := [.ref 56]) (st1 := [.int (nI 142), .ref 56]) d_Mo_allNumbers_35 k_Mo_placeOf tw_819 tw_820 rfl (Nat.le_of_ble_eq_true rfl) rfl (Nat.le_of_ble_eq_true rfl) rfl rfl (c_Mo_placeOf_2_3 l g _ L M) rfl ?_
    refine ew_iald (j := 142) d_Mo_allNumbers_38 rfl (rfl) (by decide) (by decide) ?_
    refine en_callS (As := [.int (M 56 142)]) (st := []) (st1 := [.int (ew_b (sp_in (M 56 142) 12289))]) d_Mo_allNumbers_39 k_Mo_isNumber tw_671 tw_672 rfl (Nat.le_of_ble_eq_true rfl) rfl (Nat.le_of_ble_eq_true rfl) rfl rfl (c_Mo_isNumber l g _ (ew_SH L) M (M 56 142)) rfl ?_
    refine en_b_eq (tgt := 72) d_Mo_allNumbers_42 (by decide) (fun h42 => ?_) (fun h42 => ?_)
    · refine ew_iconst (v := nI 0) d_Mo_allNumbers_72 (by decide) ?_
      refine en_istore_n (ls' := [.ref 47, .int (nI 0), .int (nI 2), .int (nI 3)]) d_Mo_allNumbers_73 (Nat.le_of_ble_eq_true rfl) rfl ?_
      refine en_inc (ls' := [.ref 47, .int (nI 0), .int (nI 2), .int (nI 4)]) d_Mo_allNumbers_74 rfl rfl ?_
      refine ew_goto (tgt := 19) d_Mo_allNumbers_77 (by decide) ?_
      refine en_eq (ls' := [.ref 47, .int (ew_b (X && (sp_in (M 56 142) 12289 && sp_in (M 56 143) 12289))), .int (nI 2), .int (nI 4)]) (by rw [show (X && (sp_in (M 56 142) 12289 && sp_in (M 56 143) 12289)) = false from by rw [h42, Bool.false_and, Bool.and_false]]; rfl) rfl rfl ?_
      exact K
    · refine ew_iload_n d_Mo_allNumbers_45 rfl ?_
      refine ew_iconst (v := nI 3) d_Mo_allNumbers_46 (by decide) ?_
      refine en_icmp_gt (tgt := 68) d_Mo_allNumbers_47 (by decide) (by decide) (by decide) (fun h47 => by exact absurd h47 (by decide)) (fun h47 => ?_)
      refine ew_aload_n d_Mo_allNumbers_50 rfl ?_
      refine ew_getr (ci := 9) (f := 10) d_Mo_allNumbers_51 rfl rfl rfl tw_602 ?_
      refine ew_iload_n d_Mo_allNumbers_54 rfl ?_
      refine ew_iload_n d_Mo_allNumbers_55 rfl ?_
      refine en_callS (As := [.int (nI 2), .int (nI 3)]) (st := [.ref 56]) (st1 := [.int (nI 142), .ref 56]) d_Mo_allNumbers_56 k_Mo_placeOf tw_819 tw_820 rfl (Nat.le_of_ble_eq_true rfl) rfl (Nat.le_of_ble_eq_true rfl) rfl rfl (c_Mo_placeOf_2_3 l g _ L M) rfl ?_
      refine ew_iconst (v := nI 1) d_Mo_allNumbers_59 (by decide) ?_
      refine en_iadd d_Mo_allNumbers_60 ?_
      refine en_eq rfl (show _ = [.int (nI 143), .ref 56] from rfl) rfl ?_
      refine ew_iald (j := 143) d_Mo_allNumbers_61 rfl (rfl) (by decide) (by decide) ?_
      refine en_callS (As := [.int (M 56 143)]) (st := []) (st1 := [.int (ew_b (sp_in (M 56 143) 12289))]) d_Mo_allNumbers_62 k_Mo_isNumber tw_671 tw_672 rfl (Nat.le_of_ble_eq_true rfl) rfl (Nat.le_of_ble_eq_true rfl) rfl rfl (c_Mo_isNumber l g _ (ew_SH L) M (M 56 143)) rfl ?_
      refine en_b_eq (tgt := 72) d_Mo_allNumbers_65 (by decide) (fun h65 => ?_) (fun h65 => ?_)
      · refine ew_iconst (v := nI 0) d_Mo_allNumbers_72 (by decide) ?_
        refine en_istore_n (ls' := [.ref 47, .int (nI 0), .int (nI 2), .int (nI 3)]) d_Mo_allNumbers_73 (Nat.le_of_ble_eq_true rfl) rfl ?_
        refine en_inc (ls' := [.ref 47, .int (nI 0), .int (nI 2), .int (nI 4)]) d_Mo_allNumbers_74 rfl rfl ?_
        refine ew_goto (tgt := 19) d_Mo_allNumbers_77 (by decide) ?_
        refine en_eq (ls' := [.ref 47, .int (ew_b (X && (sp_in (M 56 142) 12289 && sp_in (M 56 143) 12289))), .int (nI 2), .int (nI 4)]) (by rw [show (X && (sp_in (M 56 142) 12289 && sp_in (M 56 143) 12289)) = false from by rw [h65, Bool.and_false, Bool.and_false]]; rfl) rfl rfl ?_
        exact K
      · refine ew_iconst (v := nI 1) d_Mo_allNumbers_68 (by decide) ?_
        refine ew_goto (tgt := 73) d_Mo_allNumbers_69 (by decide) ?_
        refine en_istore_n (ls' := [.ref 47, .int (nI 1), .int (nI 2), .int (nI 3)]) d_Mo_allNumbers_73 (Nat.le_of_ble_eq_true rfl) rfl ?_
        refine en_inc (ls' := [.ref 47, .int (nI 1), .int (nI 2), .int (nI 4)]) d_Mo_allNumbers_74 rfl rfl ?_
        refine ew_goto (tgt := 19) d_Mo_allNumbers_77 (by decide) ?_
        refine en_eq (ls' := [.ref 47, .int (ew_b (X && (sp_in (M 56 142) 12289 && sp_in (M 56 143) 12289))), .int (nI 2), .int (nI 4)]) (by rw [show (X && (sp_in (M 56 142) 12289 && sp_in (M 56 143) 12289)) = true from by rw [h26, h42, h65]; rfl]; rfl) rfl rfl ?_
        exact K
set_option maxRecDepth 100000 in
theorem st_Mo_all_2_4 (l : Launch) (g : ew_G) (d L : Nat) (M : ew_M) (X : Bool) (Q : Option Value → List ew_S → ew_M → Prop) (K : Ew l g (d + 1) 0 0 m_Mo_allNumbers 19 [.ref 47, .int (ew_b (X && sp_in (M 56 149) 12289)), .int (nI 2), .int (nI 5)] [] (ew_SH L) M Q) :
    Ew l g (d + 1) 0 0 m_Mo_allNumbers 19 [.ref 47, .int (ew_b X), .int (nI 2), .int (nI 4)] [] (ew_SH L) M Q := by
  refine ew_iload_n d_Mo_allNumbers_19 rfl ?_
  refine ew_bipush (v := nI 10) d_Mo_allNumbers_20 (by decide) ?_
  refine en_icmp_ge (tgt := 80) d_Mo_allNumbers_22 (by decide) (by decide) (by decide) (fun h22 => by exact absurd h22 (by decide)) (fun h22 => ?_)
  refine ew_iload_n d_Mo_allNumbers_25 rfl ?_
  refine en_b_eq (tgt := 72) d_Mo_allNumbers_26 (by decide) (fun h26 => ?_) (fun h26 => ?_)
  · refine ew_iconst (v := nI 0) d_Mo_allNumbers_72 (by decide) ?_
    refine en_istore_n (ls' := [.ref 47, .int (nI 0), .int (nI 2), .int (nI 4)]) d_Mo_allNumbers_73 (Nat.le_of_ble_eq_true rfl) rfl ?_
    refine en_inc (ls' := [.ref 47, .int (nI 0), .int (nI 2), .int (nI 5)]) d_Mo_allNumbers_74 rfl rfl ?_
    refine ew_goto (tgt := 19) d_Mo_allNumbers_77 (by decide) ?_
    refine en_eq (ls' := [.ref 47, .int (ew_b (X && sp_in (M 56 149) 12289)), .int (nI 2), .int (nI 5)]) (by rw [show (X && sp_in (M 56 149) 12289) = false from by rw [h26, Bool.false_and]]; rfl) rfl rfl ?_
    exact K
  · refine ew_aload_n d_Mo_allNumbers_29 rfl ?_
    refine ew_getr (ci := 9) (f := 10) d_Mo_allNumbers_30 rfl rfl rfl tw_602 ?_
    refine ew_iload_n d_Mo_allNumbers_33 rfl ?_
    refine ew_iload_n d_Mo_allNumbers_34 rfl ?_
    refine en_callS (As := [.int (nI 2), .int (nI 4)]) (st := [.ref 56]) (st1 := [.int (nI 149), .ref 56]) d_Mo_allNumbers_35 k_Mo_placeOf tw_819 tw_820 rfl (Nat.le_of_ble_eq_true rfl) rfl (Nat.le_of_ble_eq_true rfl) rfl rfl (c_Mo_placeOf_2_4 l g _ L M) rfl ?_
    refine ew_iald (j := 149) d_Mo_allNumbers_38 rfl (rfl) (by decide) (by decide) ?_
    refine en_callS (As := [.int (M 56 149)]) (st := []) (st1 := [.int (ew_b (sp_in (M 56 149) 12289))]) d_Mo_allNumbers_39 k_Mo_isNumber tw_671 tw_672 rfl (Nat.le_of_ble_eq_true rfl) rfl (Nat.le_of_ble_eq_true rfl) rfl rfl (c_Mo_isNumber l g _ (ew_SH L) M (M 56 149)) rfl ?_
    refine en_b_eq (tgt := 72) d_Mo_allNumbers_42 (by decide) (fun h42 => ?_) (fun h42 => ?_)
    · refine ew_iconst (v := nI 0) d_Mo_allNumbers_72 (by decide) ?_
      refine en_istore_n (ls' := [.ref 47, .int (nI 0), .int (nI 2), .int (nI 4)]) d_Mo_allNumbers_73 (Nat.le_of_ble_eq_true rfl) rfl ?_
      refine en_inc (ls' := [.ref 47, .int (nI 0), .int (nI 2), .int (nI 5)]) d_Mo_allNumbers_74 rfl rfl ?_
      refine ew_goto (tgt := 19) d_Mo_allNumbers_77 (by decide) ?_
      refine en_eq (ls' := [.ref 47, .int (ew_b (X && sp_in (M 56 149) 12289)), .int (nI 2), .int (nI 5)]) (by rw [show (X && sp_in (M 56 149) 12289) = false from by rw [h42, Bool.and_false]]; rfl) rfl rfl ?_
      exact K
    · refine ew_iload_n d_Mo_allNumbers_45 rfl ?_
      refine ew_iconst (v := nI 3) d_Mo_allNumbers_46 (by decide) ?_
      refine en_icmp_gt (tgt := 68) d_Mo_allNumbers_47 (by decide) (by decide) (by decide) (fun h47 => ?_) (fun h47 => by exact absurd h47 (by decide))
      refine ew_iconst (v := nI 1) d_Mo_allNumbers_68 (by decide) ?_
      refine ew_goto (tgt := 73) d_Mo_allNumbers_69 (by decide) ?_
      refine en_istore_n (ls' := [.ref 47, .int (nI 1), .int (nI 2), .int (nI 4)]) d_Mo_allNumbers_73 (Nat.le_of_ble_eq_true rfl) rfl ?_
      refine en_inc (ls' := [.ref 47, .int (nI 1), .int (nI 2), .int (nI 5)]) d_Mo_allNumbers_74 rfl rfl ?_
      refine ew_goto (tgt := 19) d_Mo_allNumbers_77 (by decide) ?_
      refine en_eq (ls' := [.ref 47, .int (ew_b (X && sp_in (M 56 149) 12289)), .int (nI 2), .int (nI 5)]) (by rw [show (X && sp_in (M 56 149) 12289) = true from by rw [h26, h42]; rfl]; rfl) rfl rfl ?_
      exact K
set_option maxRecDepth 100000 in
theorem st_Mo_all_2_5 (l : Launch) (g : ew_G) (d L : Nat) (M : ew_M) (X : Bool) (Q : Option Value → List ew_S → ew_M → Prop) (K : Ew l g (d + 1) 0 0 m_Mo_allNumbers 19 [.ref 47, .int (ew_b (X && sp_in (M 56 155) 12289)), .int (nI 2), .int (nI 6)] [] (ew_SH L) M Q) :
    Ew l g (d + 1) 0 0 m_Mo_allNumbers 19 [.ref 47, .int (ew_b X), .int (nI 2), .int (nI 5)] [] (ew_SH L) M Q := by
  refine ew_iload_n d_Mo_allNumbers_19 rfl ?_
  refine ew_bipush (v := nI 10) d_Mo_allNumbers_20 (by decide) ?_
  refine en_icmp_ge (tgt := 80) d_Mo_allNumbers_22 (by decide) (by decide) (by decide) (fun h22 => by exact absurd h22 (by decide)) (fun h22 => ?_)
  refine ew_iload_n d_Mo_allNumbers_25 rfl ?_
  refine en_b_eq (tgt := 72) d_Mo_allNumbers_26 (by decide) (fun h26 => ?_) (fun h26 => ?_)
  · refine ew_iconst (v := nI 0) d_Mo_allNumbers_72 (by decide) ?_
    refine en_istore_n (ls' := [.ref 47, .int (nI 0), .int (nI 2), .int (nI 5)]) d_Mo_allNumbers_73 (Nat.le_of_ble_eq_true rfl) rfl ?_
    refine en_inc (ls' := [.ref 47, .int (nI 0), .int (nI 2), .int (nI 6)]) d_Mo_allNumbers_74 rfl rfl ?_
    refine ew_goto (tgt := 19) d_Mo_allNumbers_77 (by decide) ?_
    refine en_eq (ls' := [.ref 47, .int (ew_b (X && sp_in (M 56 155) 12289)), .int (nI 2), .int (nI 6)]) (by rw [show (X && sp_in (M 56 155) 12289) = false from by rw [h26, Bool.false_and]]; rfl) rfl rfl ?_
    exact K
  · refine ew_aload_n d_Mo_allNumbers_29 rfl ?_
    refine ew_getr (ci := 9) (f := 10) d_Mo_allNumbers_30 rfl rfl rfl tw_602 ?_
    refine ew_iload_n d_Mo_allNumbers_33 rfl ?_
    refine ew_iload_n d_Mo_allNumbers_34 rfl ?_
    refine en_callS (As := [.int (nI 2), .int (nI 5)]) (st := [.ref 56]) (st1 := [.int (nI 155), .ref 56]) d_Mo_allNumbers_35 k_Mo_placeOf tw_819 tw_820 rfl (Nat.le_of_ble_eq_true rfl) rfl (Nat.le_of_ble_eq_true rfl) rfl rfl (c_Mo_placeOf_2_5 l g _ L M) rfl ?_
    refine ew_iald (j := 155) d_Mo_allNumbers_38 rfl (rfl) (by decide) (by decide) ?_
    refine en_callS (As := [.int (M 56 155)]) (st := []) (st1 := [.int (ew_b (sp_in (M 56 155) 12289))]) d_Mo_allNumbers_39 k_Mo_isNumber tw_671 tw_672 rfl (Nat.le_of_ble_eq_true rfl) rfl (Nat.le_of_ble_eq_true rfl) rfl rfl (c_Mo_isNumber l g _ (ew_SH L) M (M 56 155)) rfl ?_
    refine en_b_eq (tgt := 72) d_Mo_allNumbers_42 (by decide) (fun h42 => ?_) (fun h42 => ?_)
    · refine ew_iconst (v := nI 0) d_Mo_allNumbers_72 (by decide) ?_
      refine en_istore_n (ls' := [.ref 47, .int (nI 0), .int (nI 2), .int (nI 5)]) d_Mo_allNumbers_73 (Nat.le_of_ble_eq_true rfl) rfl ?_
      refine en_inc (ls' := [.ref 47, .int (nI 0), .int (nI 2), .int (nI 6)]) d_Mo_allNumbers_74 rfl rfl ?_
      refine ew_goto (tgt := 19) d_Mo_allNumbers_77 (by decide) ?_
      refine en_eq (ls' := [.ref 47, .int (ew_b (X && sp_in (M 56 155) 12289)), .int (nI 2), .int (nI 6)]) (by rw [show (X && sp_in (M 56 155) 12289) = false from by rw [h42, Bool.and_false]]; rfl) rfl rfl ?_
      exact K
    · refine ew_iload_n d_Mo_allNumbers_45 rfl ?_
      refine ew_iconst (v := nI 3) d_Mo_allNumbers_46 (by decide) ?_
      refine en_icmp_gt (tgt := 68) d_Mo_allNumbers_47 (by decide) (by decide) (by decide) (fun h47 => ?_) (fun h47 => by exact absurd h47 (by decide))
      refine ew_iconst (v := nI 1) d_Mo_allNumbers_68 (by decide) ?_
      refine ew_goto (tgt := 73) d_Mo_allNumbers_69 (by decide) ?_
      refine en_istore_n (ls' := [.ref 47, .int (nI 1), .int (nI 2), .int (nI 5)]) d_Mo_allNumbers_73 (Nat.le_of_ble_eq_true rfl) rfl ?_
      refine en_inc (ls' := [.ref 47, .int (nI 1), .int (nI 2), .int (nI 6)]) d_Mo_allNumbers_74 rfl rfl ?_
      refine ew_goto (tgt := 19) d_Mo_allNumbers_77 (by decide) ?_
      refine en_eq (ls' := [.ref 47, .int (ew_b (X && sp_in (M 56 155) 12289)), .int (nI 2), .int (nI 6)]) (by rw [show (X && sp_in (M 56 155) 12289) = true from by rw [h26, h42]; rfl]; rfl) rfl rfl ?_
      exact K
set_option maxRecDepth 100000 in
theorem st_Mo_all_2_6 (l : Launch) (g : ew_G) (d L : Nat) (M : ew_M) (X : Bool) (Q : Option Value → List ew_S → ew_M → Prop) (K : Ew l g (d + 1) 0 0 m_Mo_allNumbers 19 [.ref 47, .int (ew_b (X && sp_in (M 56 161) 12289)), .int (nI 2), .int (nI 7)] [] (ew_SH L) M Q) :
    Ew l g (d + 1) 0 0 m_Mo_allNumbers 19 [.ref 47, .int (ew_b X), .int (nI 2), .int (nI 6)] [] (ew_SH L) M Q := by
  refine ew_iload_n d_Mo_allNumbers_19 rfl ?_
  refine ew_bipush (v := nI 10) d_Mo_allNumbers_20 (by decide) ?_
  refine en_icmp_ge (tgt := 80) d_Mo_allNumbers_22 (by decide) (by decide) (by decide) (fun h22 => by exact absurd h22 (by decide)) (fun h22 => ?_)
  refine ew_iload_n d_Mo_allNumbers_25 rfl ?_
  refine en_b_eq (tgt := 72) d_Mo_allNumbers_26 (by decide) (fun h26 => ?_) (fun h26 => ?_)
  · refine ew_iconst (v := nI 0) d_Mo_allNumbers_72 (by decide) ?_
    refine en_istore_n (ls' := [.ref 47, .int (nI 0), .int (nI 2), .int (nI 6)]) d_Mo_allNumbers_73 (Nat.le_of_ble_eq_true rfl) rfl ?_
    refine en_inc (ls' := [.ref 47, .int (nI 0), .int (nI 2), .int (nI 7)]) d_Mo_allNumbers_74 rfl rfl ?_
    refine ew_goto (tgt := 19) d_Mo_allNumbers_77 (by decide) ?_
    refine en_eq (ls' := [.ref 47, .int (ew_b (X && sp_in (M 56 161) 12289)), .int (nI 2), .int (nI 7)]) (by rw [show (X && sp_in (M 56 161) 12289) = false from by rw [h26, Bool.false_and]]; rfl) rfl rfl ?_
    exact K
  · refine ew_aload_n d_Mo_allNumbers_29 rfl ?_
    refine ew_getr (ci := 9) (f := 10) d_Mo_allNumbers_30 rfl rfl rfl tw_602 ?_
    refine ew_iload_n d_Mo_allNumbers_33 rfl ?_
    refine ew_iload_n d_Mo_allNumbers_34 rfl ?_
    refine en_callS (As := [.int (nI 2), .int (nI 6)]) (st := [.ref 56]) (st1 := [.int (nI 161), .ref 56]) d_Mo_allNumbers_35 k_Mo_placeOf tw_819 tw_820 rfl (Nat.le_of_ble_eq_true rfl) rfl (Nat.le_of_ble_eq_true rfl) rfl rfl (c_Mo_placeOf_2_6 l g _ L M) rfl ?_
    refine ew_iald (j := 161) d_Mo_allNumbers_38 rfl (rfl) (by decide) (by decide) ?_
    refine en_callS (As := [.int (M 56 161)]) (st := []) (st1 := [.int (ew_b (sp_in (M 56 161) 12289))]) d_Mo_allNumbers_39 k_Mo_isNumber tw_671 tw_672 rfl (Nat.le_of_ble_eq_true rfl) rfl (Nat.le_of_ble_eq_true rfl) rfl rfl (c_Mo_isNumber l g _ (ew_SH L) M (M 56 161)) rfl ?_
    refine en_b_eq (tgt := 72) d_Mo_allNumbers_42 (by decide) (fun h42 => ?_) (fun h42 => ?_)
    · refine ew_iconst (v := nI 0) d_Mo_allNumbers_72 (by decide) ?_
      refine en_istore_n (ls' := [.ref 47, .int (nI 0), .int (nI 2), .int (nI 6)]) d_Mo_allNumbers_73 (Nat.le_of_ble_eq_true rfl) rfl ?_
      refine en_inc (ls' := [.ref 47, .int (nI 0), .int (nI 2), .int (nI 7)]) d_Mo_allNumbers_74 rfl rfl ?_
      refine ew_goto (tgt := 19) d_Mo_allNumbers_77 (by decide) ?_
      refine en_eq (ls' := [.ref 47, .int (ew_b (X && sp_in (M 56 161) 12289)), .int (nI 2), .int (nI 7)]) (by rw [show (X && sp_in (M 56 161) 12289) = false from by rw [h42, Bool.and_false]]; rfl) rfl rfl ?_
      exact K
    · refine ew_iload_n d_Mo_allNumbers_45 rfl ?_
      refine ew_iconst (v := nI 3) d_Mo_allNumbers_46 (by decide) ?_
      refine en_icmp_gt (tgt := 68) d_Mo_allNumbers_47 (by decide) (by decide) (by decide) (fun h47 => ?_) (fun h47 => by exact absurd h47 (by decide))
      refine ew_iconst (v := nI 1) d_Mo_allNumbers_68 (by decide) ?_
      refine ew_goto (tgt := 73) d_Mo_allNumbers_69 (by decide) ?_
      refine en_istore_n (ls' := [.ref 47, .int (nI 1), .int (nI 2), .int (nI 6)]) d_Mo_allNumbers_73 (Nat.le_of_ble_eq_true rfl) rfl ?_
      refine en_inc (ls' := [.ref 47, .int (nI 1), .int (nI 2), .int (nI 7)]) d_Mo_allNumbers_74 rfl rfl ?_
      refine ew_goto (tgt := 19) d_Mo_allNumbers_77 (by decide) ?_
      refine en_eq (ls' := [.ref 47, .int (ew_b (X && sp_in (M 56 161) 12289)), .int (nI 2), .int (nI 7)]) (by rw [show (X && sp_in (M 56 161) 12289) = true from by rw [h26, h42]; rfl]; rfl) rfl rfl ?_
      exact K
set_option maxRecDepth 100000 in
theorem st_Mo_all_2_7 (l : Launch) (g : ew_G) (d L : Nat) (M : ew_M) (X : Bool) (Q : Option Value → List ew_S → ew_M → Prop) (K : Ew l g (d + 1) 0 0 m_Mo_allNumbers 19 [.ref 47, .int (ew_b (X && sp_in (M 56 166) 12289)), .int (nI 2), .int (nI 8)] [] (ew_SH L) M Q) :
    Ew l g (d + 1) 0 0 m_Mo_allNumbers 19 [.ref 47, .int (ew_b X), .int (nI 2), .int (nI 7)] [] (ew_SH L) M Q := by
  refine ew_iload_n d_Mo_allNumbers_19 rfl ?_
  refine ew_bipush (v := nI 10) d_Mo_allNumbers_20 (by decide) ?_
  refine en_icmp_ge (tgt := 80) d_Mo_allNumbers_22 (by decide) (by decide) (by decide) (fun h22 => by exact absurd h22 (by decide)) (fun h22 => ?_)
  refine ew_iload_n d_Mo_allNumbers_25 rfl ?_
  refine en_b_eq (tgt := 72) d_Mo_allNumbers_26 (by decide) (fun h26 => ?_) (fun h26 => ?_)
  · refine ew_iconst (v := nI 0) d_Mo_allNumbers_72 (by decide) ?_
    refine en_istore_n (ls' := [.ref 47, .int (nI 0), .int (nI 2), .int (nI 7)]) d_Mo_allNumbers_73 (Nat.le_of_ble_eq_true rfl) rfl ?_
    refine en_inc (ls' := [.ref 47, .int (nI 0), .int (nI 2), .int (nI 8)]) d_Mo_allNumbers_74 rfl rfl ?_
    refine ew_goto (tgt := 19) d_Mo_allNumbers_77 (by decide) ?_
    refine en_eq (ls' := [.ref 47, .int (ew_b (X && sp_in (M 56 166) 12289)), .int (nI 2), .int (nI 8)]) (by rw [show (X && sp_in (M 56 166) 12289) = false from by rw [h26, Bool.false_and]]; rfl) rfl rfl ?_
    exact K
  · refine ew_aload_n d_Mo_allNumbers_29 rfl ?_
    refine ew_getr (ci := 9) (f := 10) d_Mo_allNumbers_30 rfl rfl rfl tw_602 ?_
    refine ew_iload_n d_Mo_allNumbers_33 rfl ?_
    refine ew_iload_n d_Mo_allNumbers_34 rfl ?_
    refine en_callS (As := [.int (nI 2), .int (nI 7)]) (st := [.ref 56]) (st1 := [.int (nI 166), .ref 56]) d_Mo_allNumbers_35 k_Mo_placeOf tw_819 tw_820 rfl (Nat.le_of_ble_eq_true rfl) rfl (Nat.le_of_ble_eq_true rfl) rfl rfl (c_Mo_placeOf_2_7 l g _ L M) rfl ?_
    refine ew_iald (j := 166) d_Mo_allNumbers_38 rfl (rfl) (by decide) (by decide) ?_
    refine en_callS (As := [.int (M 56 166)]) (st := []) (st1 := [.int (ew_b (sp_in (M 56 166) 12289))]) d_Mo_allNumbers_39 k_Mo_isNumber tw_671 tw_672 rfl (Nat.le_of_ble_eq_true rfl) rfl (Nat.le_of_ble_eq_true rfl) rfl rfl (c_Mo_isNumber l g _ (ew_SH L) M (M 56 166)) rfl ?_
    refine en_b_eq (tgt := 72) d_Mo_allNumbers_42 (by decide) (fun h42 => ?_) (fun h42 => ?_)
    · refine ew_iconst (v := nI 0) d_Mo_allNumbers_72 (by decide) ?_
      refine en_istore_n (ls' := [.ref 47, .int (nI 0), .int (nI 2), .int (nI 7)]) d_Mo_allNumbers_73 (Nat.le_of_ble_eq_true rfl) rfl ?_
      refine en_inc (ls' := [.ref 47, .int (nI 0), .int (nI 2), .int (nI 8)]) d_Mo_allNumbers_74 rfl rfl ?_
      refine ew_goto (tgt := 19) d_Mo_allNumbers_77 (by decide) ?_
      refine en_eq (ls' := [.ref 47, .int (ew_b (X && sp_in (M 56 166) 12289)), .int (nI 2), .int (nI 8)]) (by rw [show (X && sp_in (M 56 166) 12289) = false from by rw [h42, Bool.and_false]]; rfl) rfl rfl ?_
      exact K
    · refine ew_iload_n d_Mo_allNumbers_45 rfl ?_
      refine ew_iconst (v := nI 3) d_Mo_allNumbers_46 (by decide) ?_
      refine en_icmp_gt (tgt := 68) d_Mo_allNumbers_47 (by decide) (by decide) (by decide) (fun h47 => ?_) (fun h47 => by exact absurd h47 (by decide))
      refine ew_iconst (v := nI 1) d_Mo_allNumbers_68 (by decide) ?_
      refine ew_goto (tgt := 73) d_Mo_allNumbers_69 (by decide) ?_
      refine en_istore_n (ls' := [.ref 47, .int (nI 1), .int (nI 2), .int (nI 7)]) d_Mo_allNumbers_73 (Nat.le_of_ble_eq_true rfl) rfl ?_
      refine en_inc (ls' := [.ref 47, .int (nI 1), .int (nI 2), .int (nI 8)]) d_Mo_allNumbers_74 rfl rfl ?_
      refine ew_goto (tgt := 19) d_Mo_allNumbers_77 (by decide) ?_
      refine en_eq (ls' := [.ref 47, .int (ew_b (X && sp_in (M 56 166) 12289)), .int (nI 2), .int (nI 8)]) (by rw [show (X && sp_in (M 56 166) 12289) = true from by rw [h26, h42]; rfl]; rfl) rfl rfl ?_
      exact K
set_option maxRecDepth 100000 in
theorem st_Mo_all_2_8 (l : Launch) (g : ew_G) (d L : Nat) (M : ew_M) (X : Bool) (Q : Option Value → List ew_S → ew_M → Prop) (K : Ew l g (d + 1) 0 0 m_Mo_allNumbers 19 [.ref 47, .int (ew_b (X && sp_in (M 56 171) 12289)), .int (nI 2), .int (nI 9)] [] (ew_SH L) M Q) :
    Ew l g (d + 1) 0 0 m_Mo_allNumbers 19 [.ref 47, .int (ew_b X), .int (nI 2), .int (nI 8)] [] (ew_SH L) M Q := by
  refine ew_iload_n d_Mo_allNumbers_19 rfl ?_
  refine ew_bipush (v := nI 10) d_Mo_allNumbers_20 (by decide) ?_
  refine en_icmp_ge (tgt := 80) d_Mo_allNumbers_22 (by decide) (by decide) (by decide) (fun h22 => by exact absurd h22 (by decide)) (fun h22 => ?_)
  refine ew_iload_n d_Mo_allNumbers_25 rfl ?_
  refine en_b_eq (tgt := 72) d_Mo_allNumbers_26 (by decide) (fun h26 => ?_) (fun h26 => ?_)
  · refine ew_iconst (v := nI 0) d_Mo_allNumbers_72 (by decide) ?_
    refine en_istore_n (ls' := [.ref 47, .int (nI 0), .int (nI 2), .int (nI 8)]) d_Mo_allNumbers_73 (Nat.le_of_ble_eq_true rfl) rfl ?_
    refine en_inc (ls' := [.ref 47, .int (nI 0), .int (nI 2), .int (nI 9)]) d_Mo_allNumbers_74 rfl rfl ?_
    refine ew_goto (tgt := 19) d_Mo_allNumbers_77 (by decide) ?_
    refine en_eq (ls' := [.ref 47, .int (ew_b (X && sp_in (M 56 171) 12289)), .int (nI 2), .int (nI 9)]) (by rw [show (X && sp_in (M 56 171) 12289) = false from by rw [h26, Bool.false_and]]; rfl) rfl rfl ?_
    exact K
  · refine ew_aload_n d_Mo_allNumbers_29 rfl ?_
    refine ew_getr (ci := 9) (f := 10) d_Mo_allNumbers_30 rfl rfl rfl tw_602 ?_
    refine ew_iload_n d_Mo_allNumbers_33 rfl ?_
    refine ew_iload_n d_Mo_allNumbers_34 rfl ?_
    refine en_callS (As := [.int (nI 2), .int (nI 8)]) (st := [.ref 56]) (st1 := [.int (nI 171), .ref 56]) d_Mo_allNumbers_35 k_Mo_placeOf tw_819 tw_820 rfl (Nat.le_of_ble_eq_true rfl) rfl (Nat.le_of_ble_eq_true rfl) rfl rfl (c_Mo_placeOf_2_8 l g _ L M) rfl ?_
    refine ew_iald (j := 171) d_Mo_allNumbers_38 rfl (rfl) (by decide) (by decide) ?_
    refine en_callS (As := [.int (M 56 171)]) (st := []) (st1 := [.int (ew_b (sp_in (M 56 171) 12289))]) d_Mo_allNumbers_39 k_Mo_isNumber tw_671 tw_672 rfl (Nat.le_of_ble_eq_true rfl) rfl (Nat.le_of_ble_eq_true rfl) rfl rfl (c_Mo_isNumber l g _ (ew_SH L) M (M 56 171)) rfl ?_
    refine en_b_eq (tgt := 72) d_Mo_allNumbers_42 (by decide) (fun h42 => ?_) (fun h42 => ?_)
    · refine ew_iconst (v := nI 0) d_Mo_allNumbers_72 (by decide) ?_
      refine en_istore_n (ls' := [.ref 47, .int (nI 0), .int (nI 2), .int (nI 8)]) d_Mo_allNumbers_73 (Nat.le_of_ble_eq_true rfl) rfl ?_
      refine en_inc (ls' := [.ref 47, .int (nI 0), .int (nI 2), .int (nI 9)]) d_Mo_allNumbers_74 rfl rfl ?_
      refine ew_goto (tgt := 19) d_Mo_allNumbers_77 (by decide) ?_
      refine en_eq (ls' := [.ref 47, .int (ew_b (X && sp_in (M 56 171) 12289)), .int (nI 2), .int (nI 9)]) (by rw [show (X && sp_in (M 56 171) 12289) = false from by rw [h42, Bool.and_false]]; rfl) rfl rfl ?_
      exact K
    · refine ew_iload_n d_Mo_allNumbers_45 rfl ?_
      refine ew_iconst (v := nI 3) d_Mo_allNumbers_46 (by decide) ?_
      refine en_icmp_gt (tgt := 68) d_Mo_allNumbers_47 (by decide) (by decide) (by decide) (fun h47 => ?_) (fun h47 => by exact absurd h47 (by decide))
      refine ew_iconst (v := nI 1) d_Mo_allNumbers_68 (by decide) ?_
      refine ew_goto (tgt := 73) d_Mo_allNumbers_69 (by decide) ?_
      refine en_istore_n (ls' := [.ref 47, .int (nI 1), .int (nI 2), .int (nI 8)]) d_Mo_allNumbers_73 (Nat.le_of_ble_eq_true rfl) rfl ?_
      refine en_inc (ls' := [.ref 47, .int (nI 1), .int (nI 2), .int (nI 9)]) d_Mo_allNumbers_74 rfl rfl ?_
      refine ew_goto (tgt := 19) d_Mo_allNumbers_77 (by decide) ?_
      refine en_eq (ls' := [.ref 47, .int (ew_b (X && sp_in (M 56 171) 12289)), .int (nI 2), .int (nI 9)]) (by rw [show (X && sp_in (M 56 171) 12289) = true from by rw [h26, h42]; rfl]; rfl) rfl rfl ?_
      exact K
set_option maxRecDepth 100000 in
theorem st_Mo_all_2_9 (l : Launch) (g : ew_G) (d L : Nat) (M : ew_M) (X : Bool) (Q : Option Value → List ew_S → ew_M → Prop) (K : Ew l g (d + 1) 0 0 m_Mo_allNumbers 19 [.ref 47, .int (ew_b (X && sp_in (M 56 175) 12289)), .int (nI 2), .int (nI 10)] [] (ew_SH L) M Q) :
    Ew l g (d + 1) 0 0 m_Mo_allNumbers 19 [.ref 47, .int (ew_b X), .int (nI 2), .int (nI 9)] [] (ew_SH L) M Q := by
  refine ew_iload_n d_Mo_allNumbers_19 rfl ?_
  refine ew_bipush (v := nI 10) d_Mo_allNumbers_20 (by decide) ?_
  refine en_icmp_ge (tgt := 80) d_Mo_allNumbers_22 (by decide) (by decide) (by decide) (fun h22 => by exact absurd h22 (by decide)) (fun h22 => ?_)
  refine ew_iload_n d_Mo_allNumbers_25 rfl ?_
  refine en_b_eq (tgt := 72) d_Mo_allNumbers_26 (by decide) (fun h26 => ?_) (fun h26 => ?_)
  · refine ew_iconst (v := nI 0) d_Mo_allNumbers_72 (by decide) ?_
    refine en_istore_n (ls' := [.ref 47, .int (nI 0), .int (nI 2), .int (nI 9)]) d_Mo_allNumbers_73 (Nat.le_of_ble_eq_true rfl) rfl ?_
    refine en_inc (ls' := [.ref 47, .int (nI 0), .int (nI 2), .int (nI 10)]) d_Mo_allNumbers_74 rfl rfl ?_
    refine ew_goto (tgt := 19) d_Mo_allNumbers_77 (by decide) ?_
    refine en_eq (ls' := [.ref 47, .int (ew_b (X && sp_in (M 56 175) 12289)), .int (nI 2), .int (nI 10)]) (by rw [show (X && sp_in (M 56 175) 12289) = false from by rw [h26, Bool.false_and]]; rfl) rfl rfl ?_
    exact K
  · refine ew_aload_n d_Mo_allNumbers_29 rfl ?_
    refine ew_getr (ci := 9) (f := 10) d_Mo_allNumbers_30 rfl rfl rfl tw_602 ?_
    refine ew_iload_n d_Mo_allNumbers_33 rfl ?_
    refine ew_iload_n d_Mo_allNumbers_34 rfl ?_
    refine en_callS (As := [.int (nI 2), .int (nI 9)]) (st := [.ref 56]) (st1 := [.int (nI 175), .ref 56]) d_Mo_allNumbers_35 k_Mo_placeOf tw_819 tw_820 rfl (Nat.le_of_ble_eq_true rfl) rfl (Nat.le_of_ble_eq_true rfl) rfl rfl (c_Mo_placeOf_2_9 l g _ L M) rfl ?_
    refine ew_iald (j := 175) d_Mo_allNumbers_38 rfl (rfl) (by decide) (by decide) ?_
    refine en_callS (As := [.int (M 56 175)]) (st := []) (st1 := [.int (ew_b (sp_in (M 56 175) 12289))]) d_Mo_allNumbers_39 k_Mo_isNumber tw_671 tw_672 rfl (Nat.le_of_ble_eq_true rfl) rfl (Nat.le_of_ble_eq_true rfl) rfl rfl (c_Mo_isNumber l g _ (ew_SH L) M (M 56 175)) rfl ?_
    refine en_b_eq (tgt := 72) d_Mo_allNumbers_42 (by decide) (fun h42 => ?_) (fun h42 => ?_)
    · refine ew_iconst (v := nI 0) d_Mo_allNumbers_72 (by decide) ?_
      refine en_istore_n (ls' := [.ref 47, .int (nI 0), .int (nI 2), .int (nI 9)]) d_Mo_allNumbers_73 (Nat.le_of_ble_eq_true rfl) rfl ?_
      refine en_inc (ls' := [.ref 47, .int (nI 0), .int (nI 2), .int (nI 10)]) d_Mo_allNumbers_74 rfl rfl ?_
      refine ew_goto (tgt := 19) d_Mo_allNumbers_77 (by decide) ?_
      refine en_eq (ls' := [.ref 47, .int (ew_b (X && sp_in (M 56 175) 12289)), .int (nI 2), .int (nI 10)]) (by rw [show (X && sp_in (M 56 175) 12289) = false from by rw [h42, Bool.and_false]]; rfl) rfl rfl ?_
      exact K
    · refine ew_iload_n d_Mo_allNumbers_45 rfl ?_
      refine ew_iconst (v := nI 3) d_Mo_allNumbers_46 (by decide) ?_
      refine en_icmp_gt (tgt := 68) d_Mo_allNumbers_47 (by decide) (by decide) (by decide) (fun h47 => ?_) (fun h47 => by exact absurd h47 (by decide))
      refine ew_iconst (v := nI 1) d_Mo_allNumbers_68 (by decide) ?_
      refine ew_goto (tgt := 73) d_Mo_allNumbers_69 (by decide) ?_
      refine en_istore_n (ls' := [.ref 47, .int (nI 1), .int (nI 2), .int (nI 9)]) d_Mo_allNumbers_73 (Nat.le_of_ble_eq_true rfl) rfl ?_
      refine en_inc (ls' := [.ref 47, .int (nI 1), .int (nI 2), .int (nI 10)]) d_Mo_allNumbers_74 rfl rfl ?_
      refine ew_goto (tgt := 19) d_Mo_allNumbers_77 (by decide) ?_
      refine en_eq (ls' := [.ref 47, .int (ew_b (X && sp_in (M 56 175) 12289)), .int (nI 2), .int (nI 10)]) (by rw [show (X && sp_in (M 56 175) 12289) = true from by rw [h26, h42]; rfl]; rfl) rfl rfl ?_
      exact K
set_option maxRecDepth 100000 in
theorem c_Mo_allNumbers (l : Launch) (g : ew_G) (d L : Nat) (M : ew_M)  :
    Ew l g (d + 1) 0 0 m_Mo_allNumbers 0 [.ref 47, .retAddr 0, .retAddr 0, .retAddr 0] [] (ew_SH L) M (ew_q (some (.int (ew_b (sp_nB (M 56))))) (ew_SH L) M) := by
  refine ew_aload_n d_Mo_allNumbers_0 rfl ?_
  refine ew_getr (ci := 9) (f := 10) d_Mo_allNumbers_1 rfl rfl rfl tw_602 ?_
  refine ew_iconst (v := nI 4) d_Mo_allNumbers_4 (by decide) ?_
  refine ew_iald (j := 4) d_Mo_allNumbers_5 rfl (rfl) (by decide) (by decide) ?_
  refine en_callS (As := [.int (M 56 4)]) (st := []) (st1 := [.int (ew_b (sp_in (M 56 4) 12289))]) d_Mo_allNumbers_6 k_Mo_isNumber tw_671 tw_672 rfl (Nat.le_of_ble_eq_true rfl) rfl (Nat.le_of_ble_eq_true rfl) rfl rfl (c_Mo_isNumber l g _ (ew_SH L) M (M 56 4)) rfl ?_
  refine en_istore_n (ls' := [.ref 47, .int (ew_b (sp_in (M 56 4) 12289)), .retAddr 0, .retAddr 0]) d_Mo_allNumbers_9 (Nat.le_of_ble_eq_true rfl) rfl ?_
  refine ew_iconst (v := nI 0) d_Mo_allNumbers_10 (by decide) ?_
  refine en_istore_n (ls' := [.ref 47, .int (ew_b (sp_in (M 56 4) 12289)), .int (nI 0), .retAddr 0]) d_Mo_allNumbers_11 (Nat.le_of_ble_eq_true rfl) rfl ?_
  refine ew_iload_n d_Mo_allNumbers_12 rfl ?_
  refine ew_iconst (v := nI 3) d_Mo_allNumbers_13 (by decide) ?_
  refine en_icmp_ge (tgt := 86) d_Mo_allNumbers_14 (by decide) (by decide) (by decide) (fun h14 => by exact absurd h14 (by decide)) (fun h14 => ?_)
  refine ew_iconst (v := nI 0) d_Mo_allNumbers_17 (by decide) ?_
  refine en_istore_n (ls' := [.ref 47, .int (ew_b (sp_in (M 56 4) 12289)), .int (nI 0), .int (nI 0)]) d_Mo_allNumbers_18 (Nat.le_of_ble_eq_true rfl) rfl ?_
  refine st_Mo_all_0_0 l g d L M _ _ ?_
  refine st_Mo_all_0_1 l g d L M _ _ ?_
  refine st_Mo_all_0_2 l g d L M _ _ ?_
  refine st_Mo_all_0_3 l g d L M _ _ ?_
  refine st_Mo_all_0_4 l g d L M _ _ ?_
  refine st_Mo_all_0_5 l g d L M _ _ ?_
  refine st_Mo_all_0_6 l g d L M _ _ ?_
  refine st_Mo_all_0_7 l g d L M _ _ ?_
  refine st_Mo_all_0_8 l g d L M _ _ ?_
  refine st_Mo_all_0_9 l g d L M _ _ ?_
  refine ew_iload_n d_Mo_allNumbers_19 rfl ?_
  refine ew_bipush (v := nI 10) d_Mo_allNumbers_20 (by decide) ?_
  refine en_icmp_ge (tgt := 80) d_Mo_allNumbers_22 (by decide) (by decide) (by decide) (fun h22 => ?_) (fun h22 => by exact absurd h22 (by decide))
  refine en_inc (ls' := [.ref 47, .int (ew_b (((((((((((sp_in (M 56 4) 12289) && (sp_in (M 56 5) 12289 && sp_in (M 56 6) 12289)) && (sp_in (M 56 12) 12289 && sp_in (M 56 13) 12289)) && (sp_in (M 56 19) 12289 && sp_in (M 56 20) 12289)) && (sp_in (M 56 26) 12289 && sp_in (M 56 27) 12289)) && sp_in (M 56 33) 12289) && sp_in (M 56 39) 12289) && sp_in (M 56 45) 12289) && sp_in (M 56 50) 12289) && sp_in (M 56 55) 12289) && sp_in (M 56 59) 12289)), .int (nI 1), .int (nI 10)]) d_Mo_allNumbers_80 rfl rfl ?_
  refine ew_goto (tgt := 12) d_Mo_allNumbers_83 (by decide) ?_
  refine ew_iload_n d_Mo_allNumbers_12 rfl ?_
  refine ew_iconst (v := nI 3) d_Mo_allNumbers_13 (by decide) ?_
  refine en_icmp_ge (tgt := 86) d_Mo_allNumbers_14 (by decide) (by decide) (by decide) (fun h14 => by exact absurd h14 (by decide)) (fun h14 => ?_)
  refine ew_iconst (v := nI 0) d_Mo_allNumbers_17 (by decide) ?_
  refine en_istore_n (ls' := [.ref 47, .int (ew_b (((((((((((sp_in (M 56 4) 12289) && (sp_in (M 56 5) 12289 && sp_in (M 56 6) 12289)) && (sp_in (M 56 12) 12289 && sp_in (M 56 13) 12289)) && (sp_in (M 56 19) 12289 && sp_in (M 56 20) 12289)) && (sp_in (M 56 26) 12289 && sp_in (M 56 27) 12289)) && sp_in (M 56 33) 12289) && sp_in (M 56 39) 12289) && sp_in (M 56 45) 12289) && sp_in (M 56 50) 12289) && sp_in (M 56 55) 12289) && sp_in (M 56 59) 12289)), .int (nI 1), .int (nI 0)]) d_Mo_allNumbers_18 (Nat.le_of_ble_eq_true rfl) rfl ?_
  refine st_Mo_all_1_0 l g d L M _ _ ?_
  refine st_Mo_all_1_1 l g d L M _ _ ?_
  refine st_Mo_all_1_2 l g d L M _ _ ?_
  refine st_Mo_all_1_3 l g d L M _ _ ?_
  refine st_Mo_all_1_4 l g d L M _ _ ?_
  refine st_Mo_all_1_5 l g d L M _ _ ?_
  refine st_Mo_all_1_6 l g d L M _ _ ?_
  refine st_Mo_all_1_7 l g d L M _ _ ?_
  refine st_Mo_all_1_8 l g d L M _ _ ?_
  refine st_Mo_all_1_9 l g d L M _ _ ?_
  refine ew_iload_n d_Mo_allNumbers_19 rfl ?_
  refine ew_bipush (v := nI 10) d_Mo_allNumbers_20 (by decide) ?_
  refine en_icmp_ge (tgt := 80) d_Mo_allNumbers_22 (by decide) (by decide) (by decide) (fun h22 => ?_) (fun h22 => by exact absurd h22 (by decide))
  refine en_inc (ls' := [.ref 47, .int (ew_b (((((((((((((((((((((sp_in (M 56 4) 12289) && (sp_in (M 56 5) 12289 && sp_in (M 56 6) 12289)) && (sp_in (M 56 12) 12289 && sp_in (M 56 13) 12289)) && (sp_in (M 56 19) 12289 && sp_in (M 56 20) 12289)) && (sp_in (M 56 26) 12289 && sp_in (M 56 27) 12289)) && sp_in (M 56 33) 12289) && sp_in (M 56 39) 12289) && sp_in (M 56 45) 12289) && sp_in (M 56 50) 12289) && sp_in (M 56 55) 12289) && sp_in (M 56 59) 12289) && (sp_in (M 56 63) 12289 && sp_in (M 56 64) 12289)) && (sp_in (M 56 70) 12289 && sp_in (M 56 71) 12289)) && (sp_in (M 56 77) 12289 && sp_in (M 56 78) 12289)) && (sp_in (M 56 84) 12289 && sp_in (M 56 85) 12289)) && sp_in (M 56 91) 12289) && sp_in (M 56 97) 12289) && sp_in (M 56 103) 12289) && sp_in (M 56 108) 12289) && sp_in (M 56 113) 12289) && sp_in (M 56 117) 12289)), .int (nI 2), .int (nI 10)]) d_Mo_allNumbers_80 rfl rfl ?_
  refine ew_goto (tgt := 12) d_Mo_allNumbers_83 (by decide) ?_
  refine ew_iload_n d_Mo_allNumbers_12 rfl ?_
  refine ew_iconst (v := nI 3) d_Mo_allNumbers_13 (by decide) ?_
  refine en_icmp_ge (tgt := 86) d_Mo_allNumbers_14 (by decide) (by decide) (by decide) (fun h14 => by exact absurd h14 (by decide)) (fun h14 => ?_)
  refine ew_iconst (v := nI 0) d_Mo_allNumbers_17 (by decide) ?_
  refine en_istore_n (ls' := [.ref 47, .int (ew_b (((((((((((((((((((((sp_in (M 56 4) 12289) && (sp_in (M 56 5) 12289 && sp_in (M 56 6) 12289)) && (sp_in (M 56 12) 12289 && sp_in (M 56 13) 12289)) && (sp_in (M 56 19) 12289 && sp_in (M 56 20) 12289)) && (sp_in (M 56 26) 12289 && sp_in (M 56 27) 12289)) && sp_in (M 56 33) 12289) && sp_in (M 56 39) 12289) && sp_in (M 56 45) 12289) && sp_in (M 56 50) 12289) && sp_in (M 56 55) 12289) && sp_in (M 56 59) 12289) && (sp_in (M 56 63) 12289 && sp_in (M 56 64) 12289)) && (sp_in (M 56 70) 12289 && sp_in (M 56 71) 12289)) && (sp_in (M 56 77) 12289 && sp_in (M 56 78) 12289)) && (sp_in (M 56 84) 12289 && sp_in (M 56 85) 12289)) && sp_in (M 56 91) 12289) && sp_in (M 56 97) 12289) && sp_in (M 56 103) 12289) && sp_in (M 56 108) 12289) && sp_in (M 56 113) 12289) && sp_in (M 56 117) 12289)), .int (nI 2), .int (nI 0)]) d_Mo_allNumbers_18 (Nat.le_of_ble_eq_true rfl) rfl ?_
  refine st_Mo_all_2_0 l g d L M _ _ ?_
  refine st_Mo_all_2_1 l g d L M _ _ ?_
  refine st_Mo_all_2_2 l g d L M _ _ ?_
  refine st_Mo_all_2_3 l g d L M _ _ ?_
  refine st_Mo_all_2_4 l g d L M _ _ ?_
  refine st_Mo_all_2_5 l g d L M _ _ ?_
  refine st_Mo_all_2_6 l g d L M _ _ ?_
  refine st_Mo_all_2_7 l g d L M _ _ ?_
  refine st_Mo_all_2_8 l g d L M _ _ ?_
  refine st_Mo_all_2_9 l g d L M _ _ ?_
  refine ew_iload_n d_Mo_allNumbers_19 rfl ?_
  refine ew_bipush (v := nI 10) d_Mo_allNumbers_20 (by decide) ?_
  refine en_icmp_ge (tgt := 80) d_Mo_allNumbers_22 (by decide) (by decide) (by decide) (fun h22 => ?_) (fun h22 => by exact absurd h22 (by decide))
  refine en_inc (ls' := [.ref 47, .int (ew_b (((((((((((((((((((((((((((((((sp_in (M 56 4) 12289) && (sp_in (M 56 5) 12289 && sp_in (M 56 6) 12289)) && (sp_in (M 56 12) 12289 && sp_in (M 56 13) 12289)) && (sp_in (M 56 19) 12289 && sp_in (M 56 20) 12289)) && (sp_in (M 56 26) 12289 && sp_in (M 56 27) 12289)) && sp_in (M 56 33) 12289) && sp_in (M 56 39) 12289) && sp_in (M 56 45) 12289) && sp_in (M 56 50) 12289) && sp_in (M 56 55) 12289) && sp_in (M 56 59) 12289) && (sp_in (M 56 63) 12289 && sp_in (M 56 64) 12289)) && (sp_in (M 56 70) 12289 && sp_in (M 56 71) 12289)) && (sp_in (M 56 77) 12289 && sp_in (M 56 78) 12289)) && (sp_in (M 56 84) 12289 && sp_in (M 56 85) 12289)) && sp_in (M 56 91) 12289) && sp_in (M 56 97) 12289) && sp_in (M 56 103) 12289) && sp_in (M 56 108) 12289) && sp_in (M 56 113) 12289) && sp_in (M 56 117) 12289) && (sp_in (M 56 121) 12289 && sp_in (M 56 122) 12289)) && (sp_in (M 56 128) 12289 && sp_in (M 56 129) 12289)) && (sp_in (M 56 135) 12289 && sp_in (M 56 136) 12289)) && (sp_in (M 56 142) 12289 && sp_in (M 56 143) 12289)) && sp_in (M 56 149) 12289) && sp_in (M 56 155) 12289) && sp_in (M 56 161) 12289) && sp_in (M 56 166) 12289) && sp_in (M 56 171) 12289) && sp_in (M 56 175) 12289)), .int (nI 3), .int (nI 10)]) d_Mo_allNumbers_80 rfl rfl ?_
  refine ew_goto (tgt := 12) d_Mo_allNumbers_83 (by decide) ?_
  refine ew_iload_n d_Mo_allNumbers_12 rfl ?_
  refine ew_iconst (v := nI 3) d_Mo_allNumbers_13 (by decide) ?_
  refine en_icmp_ge (tgt := 86) d_Mo_allNumbers_14 (by decide) (by decide) (by decide) (fun h14 => ?_) (fun h14 => by exact absurd h14 (by decide))
  refine ew_iload_n d_Mo_allNumbers_86 rfl ?_
  exact ew_zret d_Mo_allNumbers_87 rfl (ew_b01 _) (⟨by rw [show sp_nB (M 56) = (((((((((((((((((((((((((((((((sp_in (M 56 4) 12289) && (sp_in (M 56 5) 12289 && sp_in (M 56 6) 12289)) && (sp_in (M 56 12) 12289 && sp_in (M 56 13) 12289)) && (sp_in (M 56 19) 12289 && sp_in (M 56 20) 12289)) && (sp_in (M 56 26) 12289 && sp_in (M 56 27) 12289)) && sp_in (M 56 33) 12289) && sp_in (M 56 39) 12289) && sp_in (M 56 45) 12289) && sp_in (M 56 50) 12289) && sp_in (M 56 55) 12289) && sp_in (M 56 59) 12289) && (sp_in (M 56 63) 12289 && sp_in (M 56 64) 12289)) && (sp_in (M 56 70) 12289 && sp_in (M 56 71) 12289)) && (sp_in (M 56 77) 12289 && sp_in (M 56 78) 12289)) && (sp_in (M 56 84) 12289 && sp_in (M 56 85) 12289)) && sp_in (M 56 91) 12289) && sp_in (M 56 97) 12289) && sp_in (M 56 103) 12289) && sp_in (M 56 108) 12289) && sp_in (M 56 113) 12289) && sp_in (M 56 117) 12289) && (sp_in (M 56 121) 12289 && sp_in (M 56 122) 12289)) && (sp_in (M 56 128) 12289 && sp_in (M 56 129) 12289)) && (sp_in (M 56 135) 12289 && sp_in (M 56 136) 12289)) && (sp_in (M 56 142) 12289 && sp_in (M 56 143) 12289)) && sp_in (M 56 149) 12289) && sp_in (M 56 155) 12289) && sp_in (M 56 161) 12289) && sp_in (M 56 166) 12289) && sp_in (M 56 171) 12289) && sp_in (M 56 175) 12289) from by (unfold sp_nB sp_cB0 sp_lB0 sp_cB1 sp_lB1 sp_cB2 sp_lB2; simp only [Bool.and_assoc])], rfl, rfl⟩)
set_option maxRecDepth 100000 in
theorem lp_Mo_leads0 (l : Launch) (g : ew_G) (d L : Nat) (M : ew_M) : ∀ (u : Nat) (v : Int32) (n p z : Nat), n < 2 ^ u → n < 64 → n < 2 ^ z → p + z ≤ 180 → Ew l g (d + 1) 0 0 m_Mo_leads 15 [.ref 47, .int (nI 0), .retAddr 0, .retAddr 0, .retAddr 0, .int v, .int (nI p), .int (nI n)] [] (ew_SH L) M (ew_q (some (.int (ew_b (decide (sp_ro (M 56) u v n p = M 56 0))))) (ew_SH L) M) := by
  intro u
  induction u with
  | zero =>
    intro v n p z h1 h2 h4 h3
    have hn : n = 0 := by omega
    subst hn
    refine ew_iload d_Mo_leads_15 rfl ?_
    refine ew_iconst (v := nI 1) d_Mo_leads_17 (by decide) ?_
    refine en_icmp_le (tgt := 69) d_Mo_leads_18 (by decide) (by omega) (by omega) (fun h18 => ?_) (fun h18 => by exact absurd h18 (by decide))
    refine ew_iload d_Mo_leads_69 rfl ?_
    refine ew_aload_n d_Mo_leads_71 rfl ?_
    refine ew_getr (ci := 9) (f := 10) d_Mo_leads_72 rfl rfl rfl tw_602 ?_
    refine ew_iload_n d_Mo_leads_75 rfl ?_
    refine ew_iald (j := 0) d_Mo_leads_76 rfl (rfl) (by decide) (by decide) ?_
    refine ew_icmp_ne (tgt := 84) d_Mo_leads_77 (by decide) (fun h77 => ?_) (fun h77 => ?_)
    · refine ew_iconst (v := nI 0) d_Mo_leads_84 (by decide) ?_
      exact ew_zret d_Mo_leads_85 rfl (by decide) (⟨by rw [show decide (sp_ro (M 56) 0 v 0 p = M 56 0) = false from decide_eq_false h77]; rfl, rfl, rfl⟩)
    · refine ew_iconst (v := nI 1) d_Mo_leads_80 (by decide) ?_
      refine ew_goto (tgt := 85) d_Mo_leads_81 (by decide) ?_
      exact ew_zret d_Mo_leads_85 rfl (by decide) (⟨by rw [show decide (sp_ro (M 56) 0 v 0 p = M 56 0) = true from decide_eq_true h77]; rfl, rfl, rfl⟩)
  | succ u ih =>
    intro v n p z h1 h2 h4 h3
    refine ew_iload d_Mo_leads_15 rfl ?_
    refine ew_iconst (v := nI 1) d_Mo_leads_17 (by decide) ?_
    refine en_icmp_le (tgt := 69) d_Mo_leads_18 (by decide) (by omega) (by omega) (fun h18 => ?_) (fun h18 => ?_)
    · refine ew_iload d_Mo_leads_69 rfl ?_
      refine ew_aload_n d_Mo_leads_71 rfl ?_
      refine ew_getr (ci := 9) (f := 10) d_Mo_leads_72 rfl rfl rfl tw_602 ?_
      refine ew_iload_n d_Mo_leads_75 rfl ?_
      refine ew_iald (j := 0) d_Mo_leads_76 rfl (rfl) (by decide) (by decide) ?_
      refine ew_icmp_ne (tgt := 84) d_Mo_leads_77 (by decide) (fun h77 => ?_) (fun h77 => ?_)
      · refine ew_iconst (v := nI 0) d_Mo_leads_84 (by decide) ?_
        exact ew_zret d_Mo_leads_85 rfl (by decide) (⟨by rw [show decide (sp_ro (M 56) (u + 1) v n p = M 56 0) = false from decide_eq_false (by rw [sp_ro_1 (by omega)]; exact h77)]; rfl, rfl, rfl⟩)
      · refine ew_iconst (v := nI 1) d_Mo_leads_80 (by decide) ?_
        refine ew_goto (tgt := 85) d_Mo_leads_81 (by decide) ?_
        exact ew_zret d_Mo_leads_85 rfl (by decide) (⟨by rw [show decide (sp_ro (M 56) (u + 1) v n p = M 56 0) = true from decide_eq_true (by rw [sp_ro_1 (by omega)]; exact h77)]; rfl, rfl, rfl⟩)
    · obtain ⟨w, rfl⟩ : ∃ w, z = w + 2 := sp_two h18 h4
      refine ew_iload d_Mo_leads_21 rfl ?_
      refine ew_iconst (v := nI 2) d_Mo_leads_23 (by decide) ?_
      refine en_irem d_Mo_leads_24 (by omega) (by decide) (by decide) ?_
      refine en_if_ne (tgt := 43) d_Mo_leads_25 (by decide) (by omega) (fun h25 => ?_) (fun h25 => ?_)
      · refine ew_aload_n d_Mo_leads_43 rfl ?_
        refine ew_getr (ci := 9) (f := 10) d_Mo_leads_44 rfl rfl rfl tw_602 ?_
        refine ew_iload d_Mo_leads_47 rfl ?_
        refine ew_iald (j := p) d_Mo_leads_49 rfl (rfl) (by omega) (by decide) ?_
        refine ew_iload d_Mo_leads_50 rfl ?_
        refine en_callS (As := [.int (M 56 p), .int v]) (st := []) (st1 := [.int (sp_mix (M 56 p) v)]) d_Mo_leads_52 k_Mo_mix tw_752 tw_753 rfl (Nat.le_of_ble_eq_true rfl) rfl (Nat.le_of_ble_eq_true rfl) rfl rfl (c_Mo_mix l g _ (ew_SH L) M (M 56 p) v) rfl ?_
        refine en_istore (ls' := [.ref 47, .int (nI 0), .retAddr 0, .retAddr 0, .retAddr 0, .int (sp_mix (M 56 p) v), .int (nI p), .int (nI n)]) d_Mo_leads_55 (Nat.le_of_ble_eq_true rfl) rfl ?_
        refine en_inc (ls' := [.ref 47, .int (nI 0), .retAddr 0, .retAddr 0, .retAddr 0, .int (sp_mix (M 56 p) v), .int (nI (p + 1)), .int (nI n)]) d_Mo_leads_57 rfl rfl ?_
        refine ew_iload d_Mo_leads_60 rfl ?_
        refine ew_iconst (v := nI 2) d_Mo_leads_62 (by decide) ?_
        refine en_idiv d_Mo_leads_63 (by omega) (by decide) (by decide) ?_
        refine en_istore (ls' := [.ref 47, .int (nI 0), .retAddr 0, .retAddr 0, .retAddr 0, .int (sp_mix (M 56 p) v), .int (nI (p + 1)), .int (nI (n / 2))]) d_Mo_leads_64 (Nat.le_of_ble_eq_true rfl) rfl ?_
        refine ew_goto (tgt := 15) d_Mo_leads_66 (by decide) ?_
        rw [sp_ro_2 (by omega), if_neg h25]
        exact ih _ (n / 2) (p + 1) (w + 1) (by rw [Nat.pow_succ] at h1; omega) (by omega) (by rw [Nat.pow_succ] at h4; omega) (by omega)
      · refine ew_iload d_Mo_leads_28 rfl ?_
        refine ew_aload_n d_Mo_leads_30 rfl ?_
        refine ew_getr (ci := 9) (f := 10) d_Mo_leads_31 rfl rfl rfl tw_602 ?_
        refine ew_iload d_Mo_leads_34 rfl ?_
        refine ew_iald (j := p) d_Mo_leads_36 rfl (rfl) (by omega) (by decide) ?_
        refine en_callS (As := [.int v, .int (M 56 p)]) (st := []) (st1 := [.int (sp_mix v (M 56 p))]) d_Mo_leads_37 k_Mo_mix tw_752 tw_753 rfl (Nat.le_of_ble_eq_true rfl) rfl (Nat.le_of_ble_eq_true rfl) rfl rfl (c_Mo_mix l g _ (ew_SH L) M v (M 56 p)) rfl ?_
        refine ew_goto (tgt := 55) d_Mo_leads_40 (by decide) ?_
        refine en_istore (ls' := [.ref 47, .int (nI 0), .retAddr 0, .retAddr 0, .retAddr 0, .int (sp_mix v (M 56 p)), .int (nI p), .int (nI n)]) d_Mo_leads_55 (Nat.le_of_ble_eq_true rfl) rfl ?_
        refine en_inc (ls' := [.ref 47, .int (nI 0), .retAddr 0, .retAddr 0, .retAddr 0, .int (sp_mix v (M 56 p)), .int (nI (p + 1)), .int (nI n)]) d_Mo_leads_57 rfl rfl ?_
        refine ew_iload d_Mo_leads_60 rfl ?_
        refine ew_iconst (v := nI 2) d_Mo_leads_62 (by decide) ?_
        refine en_idiv d_Mo_leads_63 (by omega) (by decide) (by decide) ?_
        refine en_istore (ls' := [.ref 47, .int (nI 0), .retAddr 0, .retAddr 0, .retAddr 0, .int (sp_mix v (M 56 p)), .int (nI (p + 1)), .int (nI (n / 2))]) d_Mo_leads_64 (Nat.le_of_ble_eq_true rfl) rfl ?_
        refine ew_goto (tgt := 15) d_Mo_leads_66 (by decide) ?_
        rw [sp_ro_2 (by omega), if_pos h25]
        exact ih _ (n / 2) (p + 1) (w + 1) (by rw [Nat.pow_succ] at h1; omega) (by omega) (by rw [Nat.pow_succ] at h4; omega) (by omega)
set_option maxRecDepth 100000 in
theorem c_Mo_leads0 (l : Launch) (g : ew_G) (d L : Nat) (M : ew_M) (i p : Nat) (v : Int32) (hi : i < 32) (hp : p + 6 ≤ 180) :
    Ew l g (d + 1) 0 0 m_Mo_leads 0 [.ref 47, .int (nI 0), .int (nI i), .int v, .int (nI p), .retAddr 0, .retAddr 0, .retAddr 0] [] (ew_SH L) M (ew_q (some (.int (ew_b (decide (sp_ro (M 56) 6 v (32 + i) p = M 56 0))))) (ew_SH L) M) := by
  refine ew_iload_n d_Mo_leads_0 rfl ?_
  refine en_istore (ls' := [.ref 47, .int (nI 0), .int (nI i), .int v, .int (nI p), .int v, .retAddr 0, .retAddr 0]) d_Mo_leads_1 (Nat.le_of_ble_eq_true rfl) rfl ?_
  refine ew_iload d_Mo_leads_3 rfl ?_
  refine en_istore (ls' := [.ref 47, .int (nI 0), .int (nI i), .int v, .int (nI p), .int v, .int (nI p), .retAddr 0]) d_Mo_leads_5 (Nat.le_of_ble_eq_true rfl) rfl ?_
  refine ew_iload_n d_Mo_leads_7 rfl ?_
  refine en_callS (As := [.int (nI 0)]) (st := []) (st1 := [.int (nI 32)]) d_Mo_leads_8 k_Mo_leavesOf tw_764 tw_765 rfl (Nat.le_of_ble_eq_true rfl) rfl (Nat.le_of_ble_eq_true rfl) rfl rfl (c_Mo_leavesOf0 l g _ L M) rfl ?_
  refine ew_iload_n d_Mo_leads_11 rfl ?_
  refine en_iadd d_Mo_leads_12 ?_
  refine en_istore (ls' := [.ref 47, .int (nI 0), .int (nI i), .int v, .int (nI p), .int v, .int (nI p), .int (nI (32 + i))]) d_Mo_leads_13 (Nat.le_of_ble_eq_true rfl) rfl ?_
  refine en_drop (ls' := [.ref 47, .int (nI 0), .retAddr 0, .retAddr 0, .retAddr 0, .int v, .int (nI p), .int (nI (32 + i))]) ⟨Or.inl rfl, Or.inl rfl, Or.inr rfl, Or.inr rfl, Or.inr rfl, Or.inl rfl, Or.inl rfl, Or.inl rfl, trivial⟩ ?_
  exact lp_Mo_leads0 l g d L M 6 v (32 + i) p 6 (by omega) (by omega) (by omega) hp
set_option maxRecDepth 100000 in
theorem lp_Mo_leads1 (l : Launch) (g : ew_G) (d L : Nat) (M : ew_M) : ∀ (u : Nat) (v : Int32) (n p z : Nat), n < 2 ^ u → n < 64 → n < 2 ^ z → p + z ≤ 180 → Ew l g (d + 1) 0 0 m_Mo_leads 15 [.ref 47, .int (nI 1), .retAddr 0, .retAddr 0, .retAddr 0, .int v, .int (nI p), .int (nI n)] [] (ew_SH L) M (ew_q (some (.int (ew_b (decide (sp_ro (M 56) u v n p = M 56 1))))) (ew_SH L) M) := by
  intro u
  induction u with
  | zero =>
    intro v n p z h1 h2 h4 h3
    have hn : n = 0 := by omega
    subst hn
    refine ew_iload d_Mo_leads_15 rfl ?_
    refine ew_iconst (v := nI 1) d_Mo_leads_17 (by decide) ?_
    refine en_icmp_le (tgt := 69) d_Mo_leads_18 (by decide) (by omega) (by omega) (fun h18 => ?_) (fun h18 => by exact absurd h18 (by decide))
    refine ew_iload d_Mo_leads_69 rfl ?_
    refine ew_aload_n d_Mo_leads_71 rfl ?_
    refine ew_getr (ci := 9) (f := 10) d_Mo_leads_72 rfl rfl rfl tw_602 ?_
    refine ew_iload_n d_Mo_leads_75 rfl ?_
    refine ew_iald (j := 1) d_Mo_leads_76 rfl (rfl) (by decide) (by decide) ?_
    refine ew_icmp_ne (tgt := 84) d_Mo_leads_77 (by decide) (fun h77 => ?_) (fun h77 => ?_)
    · refine ew_iconst (v := nI 0) d_Mo_leads_84 (by decide) ?_
      exact ew_zret d_Mo_leads_85 rfl (by decide) (⟨by rw [show decide (sp_ro (M 56) 0 v 0 p = M 56 1) = false from decide_eq_false h77]; rfl, rfl, rfl⟩)
    · refine ew_iconst (v := nI 1) d_Mo_leads_80 (by decide) ?_
      refine ew_goto (tgt := 85) d_Mo_leads_81 (by decide) ?_
      exact ew_zret d_Mo_leads_85 rfl (by decide) (⟨by rw [show decide (sp_ro (M 56) 0 v 0 p = M 56 1) = true from decide_eq_true h77]; rfl, rfl, rfl⟩)
  | succ u ih =>
    intro v n p z h1 h2 h4 h3
    refine ew_iload d_Mo_leads_15 rfl ?_
    refine ew_iconst (v := nI 1) d_Mo_leads_17 (by decide) ?_
    refine en_icmp_le (tgt := 69) d_Mo_leads_18 (by decide) (by omega) (by omega) (fun h18 => ?_) (fun h18 => ?_)
    · refine ew_iload d_Mo_leads_69 rfl ?_
      refine ew_aload_n d_Mo_leads_71 rfl ?_
      refine ew_getr (ci := 9) (f := 10) d_Mo_leads_72 rfl rfl rfl tw_602 ?_
      refine ew_iload_n d_Mo_leads_75 rfl ?_
      refine ew_iald (j := 1) d_Mo_leads_76 rfl (rfl) (by decide) (by decide) ?_
      refine ew_icmp_ne (tgt := 84) d_Mo_leads_77 (by decide) (fun h77 => ?_) (fun h77 => ?_)
      · refine ew_iconst (v := nI 0) d_Mo_leads_84 (by decide) ?_
        exact ew_zret d_Mo_leads_85 rfl (by decide) (⟨by rw [show decide (sp_ro (M 56) (u + 1) v n p = M 56 1) = false from decide_eq_false (by rw [sp_ro_1 (by omega)]; exact h77)]; rfl, rfl, rfl⟩)
      · refine ew_iconst (v := nI 1) d_Mo_leads_80 (by decide) ?_
        refine ew_goto (tgt := 85) d_Mo_leads_81 (by decide) ?_
        exact ew_zret d_Mo_leads_85 rfl (by decide) (⟨by rw [show decide (sp_ro (M 56) (u + 1) v n p = M 56 1) = true from decide_eq_true (by rw [sp_ro_1 (by omega)]; exact h77)]; rfl, rfl, rfl⟩)
    · obtain ⟨w, rfl⟩ : ∃ w, z = w + 2 := sp_two h18 h4
      refine ew_iload d_Mo_leads_21 rfl ?_
      refine ew_iconst (v := nI 2) d_Mo_leads_23 (by decide) ?_
      refine en_irem d_Mo_leads_24 (by omega) (by decide) (by decide) ?_
      refine en_if_ne (tgt := 43) d_Mo_leads_25 (by decide) (by omega) (fun h25 => ?_) (fun h25 => ?_)
      · refine ew_aload_n d_Mo_leads_43 rfl ?_
        refine ew_getr (ci := 9) (f := 10) d_Mo_leads_44 rfl rfl rfl tw_602 ?_
        refine ew_iload d_Mo_leads_47 rfl ?_
        refine ew_iald (j := p) d_Mo_leads_49 rfl (rfl) (by omega) (by decide) ?_
        refine ew_iload d_Mo_leads_50 rfl ?_
        refine en_callS (As := [.int (M 56 p), .int v]) (st := []) (st1 := [.int (sp_mix (M 56 p) v)]) d_Mo_leads_52 k_Mo_mix tw_752 tw_753 rfl (Nat.le_of_ble_eq_true rfl) rfl (Nat.le_of_ble_eq_true rfl) rfl rfl (c_Mo_mix l g _ (ew_SH L) M (M 56 p) v) rfl ?_
        refine en_istore (ls' := [.ref 47, .int (nI 1), .retAddr 0, .retAddr 0, .retAddr 0, .int (sp_mix (M 56 p) v), .int (nI p), .int (nI n)]) d_Mo_leads_55 (Nat.le_of_ble_eq_true rfl) rfl ?_
        refine en_inc (ls' := [.ref 47, .int (nI 1), .retAddr 0, .retAddr 0, .retAddr 0, .int (sp_mix (M 56 p) v), .int (nI (p + 1)), .int (nI n)]) d_Mo_leads_57 rfl rfl ?_
        refine ew_iload d_Mo_leads_60 rfl ?_
        refine ew_iconst (v := nI 2) d_Mo_leads_62 (by decide) ?_
        refine en_idiv d_Mo_leads_63 (by omega) (by decide) (by decide) ?_
        refine en_istore (ls' := [.ref 47, .int (nI 1), .retAddr 0, .retAddr 0, .retAddr 0, .int (sp_mix (M 56 p) v), .int (nI (p + 1)), .int (nI (n / 2))]) d_Mo_leads_64 (Nat.le_of_ble_eq_true rfl) rfl ?_
        refine ew_goto (tgt := 15) d_Mo_leads_66 (by decide) ?_
        rw [sp_ro_2 (by omega), if_neg h25]
        exact ih _ (n / 2) (p + 1) (w + 1) (by rw [Nat.pow_succ] at h1; omega) (by omega) (by rw [Nat.pow_succ] at h4; omega) (by omega)
      · refine ew_iload d_Mo_leads_28 rfl ?_
        refine ew_aload_n d_Mo_leads_30 rfl ?_
        refine ew_getr (ci := 9) (f := 10) d_Mo_leads_31 rfl rfl rfl tw_602 ?_
        refine ew_iload d_Mo_leads_34 rfl ?_
        refine ew_iald (j := p) d_Mo_leads_36 rfl (rfl) (by omega) (by decide) ?_
        refine en_callS (As := [.int v, .int (M 56 p)]) (st := []) (st1 := [.int (sp_mix v (M 56 p))]) d_Mo_leads_37 k_Mo_mix tw_752 tw_753 rfl (Nat.le_of_ble_eq_true rfl) rfl (Nat.le_of_ble_eq_true rfl) rfl rfl (c_Mo_mix l g _ (ew_SH L) M v (M 56 p)) rfl ?_
        refine ew_goto (tgt := 55) d_Mo_leads_40 (by decide) ?_
        refine en_istore (ls' := [.ref 47, .int (nI 1), .retAddr 0, .retAddr 0, .retAddr 0, .int (sp_mix v (M 56 p)), .int (nI p), .int (nI n)]) d_Mo_leads_55 (Nat.le_of_ble_eq_true rfl) rfl ?_
        refine en_inc (ls' := [.ref 47, .int (nI 1), .retAddr 0, .retAddr 0, .retAddr 0, .int (sp_mix v (M 56 p)), .int (nI (p + 1)), .int (nI n)]) d_Mo_leads_57 rfl rfl ?_
        refine ew_iload d_Mo_leads_60 rfl ?_
        refine ew_iconst (v := nI 2) d_Mo_leads_62 (by decide) ?_
        refine en_idiv d_Mo_leads_63 (by omega) (by decide) (by decide) ?_
        refine en_istore (ls' := [.ref 47, .int (nI 1), .retAddr 0, .retAddr 0, .retAddr 0, .int (sp_mix v (M 56 p)), .int (nI (p + 1)), .int (nI (n / 2))]) d_Mo_leads_64 (Nat.le_of_ble_eq_true rfl) rfl ?_
        refine ew_goto (tgt := 15) d_Mo_leads_66 (by decide) ?_
        rw [sp_ro_2 (by omega), if_pos h25]
        exact ih _ (n / 2) (p + 1) (w + 1) (by rw [Nat.pow_succ] at h1; omega) (by omega) (by rw [Nat.pow_succ] at h4; omega) (by omega)
set_option maxRecDepth 100000 in
theorem c_Mo_leads1 (l : Launch) (g : ew_G) (d L : Nat) (M : ew_M) (i p : Nat) (v : Int32) (hi : i < 32) (hp : p + 6 ≤ 180) :
    Ew l g (d + 1) 0 0 m_Mo_leads 0 [.ref 47, .int (nI 1), .int (nI i), .int v, .int (nI p), .retAddr 0, .retAddr 0, .retAddr 0] [] (ew_SH L) M (ew_q (some (.int (ew_b (decide (sp_ro (M 56) 6 v (32 + i) p = M 56 1))))) (ew_SH L) M) := by
  refine ew_iload_n d_Mo_leads_0 rfl ?_
  refine en_istore (ls' := [.ref 47, .int (nI 1), .int (nI i), .int v, .int (nI p), .int v, .retAddr 0, .retAddr 0]) d_Mo_leads_1 (Nat.le_of_ble_eq_true rfl) rfl ?_
  refine ew_iload d_Mo_leads_3 rfl ?_
  refine en_istore (ls' := [.ref 47, .int (nI 1), .int (nI i), .int v, .int (nI p), .int v, .int (nI p), .retAddr 0]) d_Mo_leads_5 (Nat.le_of_ble_eq_true rfl) rfl ?_
  refine ew_iload_n d_Mo_leads_7 rfl ?_
  refine en_callS (As := [.int (nI 1)]) (st := []) (st1 := [.int (nI 32)]) d_Mo_leads_8 k_Mo_leavesOf tw_764 tw_765 rfl (Nat.le_of_ble_eq_true rfl) rfl (Nat.le_of_ble_eq_true rfl) rfl rfl (c_Mo_leavesOf1 l g _ L M) rfl ?_
  refine ew_iload_n d_Mo_leads_11 rfl ?_
  refine en_iadd d_Mo_leads_12 ?_
  refine en_istore (ls' := [.ref 47, .int (nI 1), .int (nI i), .int v, .int (nI p), .int v, .int (nI p), .int (nI (32 + i))]) d_Mo_leads_13 (Nat.le_of_ble_eq_true rfl) rfl ?_
  refine en_drop (ls' := [.ref 47, .int (nI 1), .retAddr 0, .retAddr 0, .retAddr 0, .int v, .int (nI p), .int (nI (32 + i))]) ⟨Or.inl rfl, Or.inl rfl, Or.inr rfl, Or.inr rfl, Or.inr rfl, Or.inl rfl, Or.inl rfl, Or.inl rfl, trivial⟩ ?_
  exact lp_Mo_leads1 l g d L M 6 v (32 + i) p 6 (by omega) (by omega) (by omega) hp
set_option maxRecDepth 100000 in
theorem lp_Mo_leads2 (l : Launch) (g : ew_G) (d L : Nat) (M : ew_M) : ∀ (u : Nat) (v : Int32) (n p z : Nat), n < 2 ^ u → n < 64 → n < 2 ^ z → p + z ≤ 180 → Ew l g (d + 1) 0 0 m_Mo_leads 15 [.ref 47, .int (nI 2), .retAddr 0, .retAddr 0, .retAddr 0, .int v, .int (nI p), .int (nI n)] [] (ew_SH L) M (ew_q (some (.int (ew_b (decide (sp_ro (M 56) u v n p = M 56 2))))) (ew_SH L) M) := by
  intro u
  induction u with
  | zero =>
    intro v n p z h1 h2 h4 h3
    have hn : n = 0 := by omega
    subst hn
    refine ew_iload d_Mo_leads_15 rfl ?_
    refine ew_iconst (v := nI 1) d_Mo_leads_17 (by decide) ?_
    refine en_icmp_le (tgt := 69) d_Mo_leads_18 (by decide) (by omega) (by omega) (fun h18 => ?_) (fun h18 => by exact absurd h18 (by decide))
    refine ew_iload d_Mo_leads_69 rfl ?_
    refine ew_aload_n d_Mo_leads_71 rfl ?_
    refine ew_getr (ci := 9) (f := 10) d_Mo_leads_72 rfl rfl rfl tw_602 ?_
    refine ew_iload_n d_Mo_leads_75 rfl ?_
    refine ew_iald (j := 2) d_Mo_leads_76 rfl (rfl) (by decide) (by decide) ?_
    refine ew_icmp_ne (tgt := 84) d_Mo_leads_77 (by decide) (fun h77 => ?_) (fun h77 => ?_)
    · refine ew_iconst (v := nI 0) d_Mo_leads_84 (by decide) ?_
      exact ew_zret d_Mo_leads_85 rfl (by decide) (⟨by rw [show decide (sp_ro (M 56) 0 v 0 p = M 56 2) = false from decide_eq_false h77]; rfl, rfl, rfl⟩)
    · refine ew_iconst (v := nI 1) d_Mo_leads_80 (by decide) ?_
      refine ew_goto (tgt := 85) d_Mo_leads_81 (by decide) ?_
      exact ew_zret d_Mo_leads_85 rfl (by decide) (⟨by rw [show decide (sp_ro (M 56) 0 v 0 p = M 56 2) = true from decide_eq_true h77]; rfl, rfl, rfl⟩)
  | succ u ih =>
    intro v n p z h1 h2 h4 h3
    refine ew_iload d_Mo_leads_15 rfl ?_
    refine ew_iconst (v := nI 1) d_Mo_leads_17 (by decide) ?_
    refine en_icmp_le (tgt := 69) d_Mo_leads_18 (by decide) (by omega) (by omega) (fun h18 => ?_) (fun h18 => ?_)
    · refine ew_iload d_Mo_leads_69 rfl ?_
      refine ew_aload_n d_Mo_leads_71 rfl ?_
      refine ew_getr (ci := 9) (f := 10) d_Mo_leads_72 rfl rfl rfl tw_602 ?_
      refine ew_iload_n d_Mo_leads_75 rfl ?_
      refine ew_iald (j := 2) d_Mo_leads_76 rfl (rfl) (by decide) (by decide) ?_
      refine ew_icmp_ne (tgt := 84) d_Mo_leads_77 (by decide) (fun h77 => ?_) (fun h77 => ?_)
      · refine ew_iconst (v := nI 0) d_Mo_leads_84 (by decide) ?_
        exact ew_zret d_Mo_leads_85 rfl (by decide) (⟨by rw [show decide (sp_ro (M 56) (u + 1) v n p = M 56 2) = false from decide_eq_false (by rw [sp_ro_1 (by omega)]; exact h77)]; rfl, rfl, rfl⟩)
      · refine ew_iconst (v := nI 1) d_Mo_leads_80 (by decide) ?_
        refine ew_goto (tgt := 85) d_Mo_leads_81 (by decide) ?_
        exact ew_zret d_Mo_leads_85 rfl (by decide) (⟨by rw [show decide (sp_ro (M 56) (u + 1) v n p = M 56 2) = true from decide_eq_true (by rw [sp_ro_1 (by omega)]; exact h77)]; rfl, rfl, rfl⟩)
    · obtain ⟨w, rfl⟩ : ∃ w, z = w + 2 := sp_two h18 h4
      refine ew_iload d_Mo_leads_21 rfl ?_
      refine ew_iconst (v := nI 2) d_Mo_leads_23 (by decide) ?_
      refine en_irem d_Mo_leads_24 (by omega) (by decide) (by decide) ?_
      refine en_if_ne (tgt := 43) d_Mo_leads_25 (by decide) (by omega) (fun h25 => ?_) (fun h25 => ?_)
      · refine ew_aload_n d_Mo_leads_43 rfl ?_
        refine ew_getr (ci := 9) (f := 10) d_Mo_leads_44 rfl rfl rfl tw_602 ?_
        refine ew_iload d_Mo_leads_47 rfl ?_
        refine ew_iald (j := p) d_Mo_leads_49 rfl (rfl) (by omega) (by decide) ?_
        refine ew_iload d_Mo_leads_50 rfl ?_
        refine en_callS (As := [.int (M 56 p), .int v]) (st := []) (st1 := [.int (sp_mix (M 56 p) v)]) d_Mo_leads_52 k_Mo_mix tw_752 tw_753 rfl (Nat.le_of_ble_eq_true rfl) rfl (Nat.le_of_ble_eq_true rfl) rfl rfl (c_Mo_mix l g _ (ew_SH L) M (M 56 p) v) rfl ?_
        refine en_istore (ls' := [.ref 47, .int (nI 2), .retAddr 0, .retAddr 0, .retAddr 0, .int (sp_mix (M 56 p) v), .int (nI p), .int (nI n)]) d_Mo_leads_55 (Nat.le_of_ble_eq_true rfl) rfl ?_
        refine en_inc (ls' := [.ref 47, .int (nI 2), .retAddr 0, .retAddr 0, .retAddr 0, .int (sp_mix (M 56 p) v), .int (nI (p + 1)), .int (nI n)]) d_Mo_leads_57 rfl rfl ?_
        refine ew_iload d_Mo_leads_60 rfl ?_
        refine ew_iconst (v := nI 2) d_Mo_leads_62 (by decide) ?_
        refine en_idiv d_Mo_leads_63 (by omega) (by decide) (by decide) ?_
        refine en_istore (ls' := [.ref 47, .int (nI 2), .retAddr 0, .retAddr 0, .retAddr 0, .int (sp_mix (M 56 p) v), .int (nI (p + 1)), .int (nI (n / 2))]) d_Mo_leads_64 (Nat.le_of_ble_eq_true rfl) rfl ?_
        refine ew_goto (tgt := 15) d_Mo_leads_66 (by decide) ?_
        rw [sp_ro_2 (by omega), if_neg h25]
        exact ih _ (n / 2) (p + 1) (w + 1) (by rw [Nat.pow_succ] at h1; omega) (by omega) (by rw [Nat.pow_succ] at h4; omega) (by omega)
      · refine ew_iload d_Mo_leads_28 rfl ?_
        refine ew_aload_n d_Mo_leads_30 rfl ?_
        refine ew_getr (ci := 9) (f := 10) d_Mo_leads_31 rfl rfl rfl tw_602 ?_
        refine ew_iload d_Mo_leads_34 rfl ?_
        refine ew_iald (j := p) d_Mo_leads_36 rfl (rfl) (by omega) (by decide) ?_
        refine en_callS (As := [.int v, .int (M 56 p)]) (st := []) (st1 := [.int (sp_mix v (M 56 p))]) d_Mo_leads_37 k_Mo_mix tw_752 tw_753 rfl (Nat.le_of_ble_eq_true rfl) rfl (Nat.le_of_ble_eq_true rfl) rfl rfl (c_Mo_mix l g _ (ew_SH L) M v (M 56 p)) rfl ?_
        refine ew_goto (tgt := 55) d_Mo_leads_40 (by decide) ?_
        refine en_istore (ls' := [.ref 47, .int (nI 2), .retAddr 0, .retAddr 0, .retAddr 0, .int (sp_mix v (M 56 p)), .int (nI p), .int (nI n)]) d_Mo_leads_55 (Nat.le_of_ble_eq_true rfl) rfl ?_
        refine en_inc (ls' := [.ref 47, .int (nI 2), .retAddr 0, .retAddr 0, .retAddr 0, .int (sp_mix v (M 56 p)), .int (nI (p + 1)), .int (nI n)]) d_Mo_leads_57 rfl rfl ?_
        refine ew_iload d_Mo_leads_60 rfl ?_
        refine ew_iconst (v := nI 2) d_Mo_leads_62 (by decide) ?_
        refine en_idiv d_Mo_leads_63 (by omega) (by decide) (by decide) ?_
        refine en_istore (ls' := [.ref 47, .int (nI 2), .retAddr 0, .retAddr 0, .retAddr 0, .int (sp_mix v (M 56 p)), .int (nI (p + 1)), .int (nI (n / 2))]) d_Mo_leads_64 (Nat.le_of_ble_eq_true rfl) rfl ?_
        refine ew_goto (tgt := 15) d_Mo_leads_66 (by decide) ?_
        rw [sp_ro_2 (by omega), if_pos h25]
        exact ih _ (n / 2) (p + 1) (w + 1) (by rw [Nat.pow_succ] at h1; omega) (by omega) (by rw [Nat.pow_succ] at h4; omega) (by omega)
set_option maxRecDepth 100000 in
theorem c_Mo_leads2 (l : Launch) (g : ew_G) (d L : Nat) (M : ew_M) (i p : Nat) (v : Int32) (hi : i < 16) (hp : p + 5 ≤ 180) :
    Ew l g (d + 1) 0 0 m_Mo_leads 0 [.ref 47, .int (nI 2), .int (nI i), .int v, .int (nI p), .retAddr 0, .retAddr 0, .retAddr 0] [] (ew_SH L) M (ew_q (some (.int (ew_b (decide (sp_ro (M 56) 6 v (16 + i) p = M 56 2))))) (ew_SH L) M) := by
  refine ew_iload_n d_Mo_leads_0 rfl ?_
  refine en_istore (ls' := [.ref 47, .int (nI 2), .int (nI i), .int v, .int (nI p), .int v, .retAddr 0, .retAddr 0]) d_Mo_leads_1 (Nat.le_of_ble_eq_true rfl) rfl ?_
  refine ew_iload d_Mo_leads_3 rfl ?_
  refine en_istore (ls' := [.ref 47, .int (nI 2), .int (nI i), .int v, .int (nI p), .int v, .int (nI p), .retAddr 0]) d_Mo_leads_5 (Nat.le_of_ble_eq_true rfl) rfl ?_
  refine ew_iload_n d_Mo_leads_7 rfl ?_
  refine en_callS (As := [.int (nI 2)]) (st := []) (st1 := [.int (nI 16)]) d_Mo_leads_8 k_Mo_leavesOf tw_764 tw_765 rfl (Nat.le_of_ble_eq_true rfl) rfl (Nat.le_of_ble_eq_true rfl) rfl rfl (c_Mo_leavesOf2 l g _ L M) rfl ?_
  refine ew_iload_n d_Mo_leads_11 rfl ?_
  refine en_iadd d_Mo_leads_12 ?_
  refine en_istore (ls' := [.ref 47, .int (nI 2), .int (nI i), .int v, .int (nI p), .int v, .int (nI p), .int (nI (16 + i))]) d_Mo_leads_13 (Nat.le_of_ble_eq_true rfl) rfl ?_
  refine en_drop (ls' := [.ref 47, .int (nI 2), .retAddr 0, .retAddr 0, .retAddr 0, .int v, .int (nI p), .int (nI (16 + i))]) ⟨Or.inl rfl, Or.inl rfl, Or.inr rfl, Or.inr rfl, Or.inr rfl, Or.inl rfl, Or.inl rfl, Or.inl rfl, trivial⟩ ?_
  exact lp_Mo_leads2 l g d L M 6 v (16 + i) p 5 (by omega) (by omega) (by omega) hp
set_option maxRecDepth 100000 in
theorem lp_Mo_leads3 (l : Launch) (g : ew_G) (d L : Nat) (M : ew_M) : ∀ (u : Nat) (v : Int32) (n p z : Nat), n < 2 ^ u → n < 64 → n < 2 ^ z → p + z ≤ 180 → Ew l g (d + 1) 0 0 m_Mo_leads 15 [.ref 47, .int (nI 3), .retAddr 0, .retAddr 0, .retAddr 0, .int v, .int (nI p), .int (nI n)] [] (ew_SH L) M (ew_q (some (.int (ew_b (decide (sp_ro (M 56) u v n p = M 56 3))))) (ew_SH L) M) := by
  intro u
  induction u with
  | zero =>
    intro v n p z h1 h2 h4 h3
    have hn : n = 0 := by omega
    subst hn
    refine ew_iload d_Mo_leads_15 rfl ?_
    refine ew_iconst (v := nI 1) d_Mo_leads_17 (by decide) ?_
    refine en_icmp_le (tgt := 69) d_Mo_leads_18 (by decide) (by omega) (by omega) (fun h18 => ?_) (fun h18 => by exact absurd h18 (by decide))
    refine ew_iload d_Mo_leads_69 rfl ?_
    refine ew_aload_n d_Mo_leads_71 rfl ?_
    refine ew_getr (ci := 9) (f := 10) d_Mo_leads_72 rfl rfl rfl tw_602 ?_
    refine ew_iload_n d_Mo_leads_75 rfl ?_
    refine ew_iald (j := 3) d_Mo_leads_76 rfl (rfl) (by decide) (by decide) ?_
    refine ew_icmp_ne (tgt := 84) d_Mo_leads_77 (by decide) (fun h77 => ?_) (fun h77 => ?_)
    · refine ew_iconst (v := nI 0) d_Mo_leads_84 (by decide) ?_
      exact ew_zret d_Mo_leads_85 rfl (by decide) (⟨by rw [show decide (sp_ro (M 56) 0 v 0 p = M 56 3) = false from decide_eq_false h77]; rfl, rfl, rfl⟩)
    · refine ew_iconst (v := nI 1) d_Mo_leads_80 (by decide) ?_
      refine ew_goto (tgt := 85) d_Mo_leads_81 (by decide) ?_
      exact ew_zret d_Mo_leads_85 rfl (by decide) (⟨by rw [show decide (sp_ro (M 56) 0 v 0 p = M 56 3) = true from decide_eq_true h77]; rfl, rfl, rfl⟩)
  | succ u ih =>
    intro v n p z h1 h2 h4 h3
    refine ew_iload d_Mo_leads_15 rfl ?_
    refine ew_iconst (v := nI 1) d_Mo_leads_17 (by decide) ?_
    refine en_icmp_le (tgt := 69) d_Mo_leads_18 (by decide) (by omega) (by omega) (fun h18 => ?_) (fun h18 => ?_)
    · refine ew_iload d_Mo_leads_69 rfl ?_
      refine ew_aload_n d_Mo_leads_71 rfl ?_
      refine ew_getr (ci := 9) (f := 10) d_Mo_leads_72 rfl rfl rfl tw_602 ?_
      refine ew_iload_n d_Mo_leads_75 rfl ?_
      refine ew_iald (j := 3) d_Mo_leads_76 rfl (rfl) (by decide) (by decide) ?_
      refine ew_icmp_ne (tgt := 84) d_Mo_leads_77 (by decide) (fun h77 => ?_) (fun h77 => ?_)
      · refine ew_iconst (v := nI 0) d_Mo_leads_84 (by decide) ?_
        exact ew_zret d_Mo_leads_85 rfl (by decide) (⟨by rw [show decide (sp_ro (M 56) (u + 1) v n p = M 56 3) = false from decide_eq_false (by rw [sp_ro_1 (by omega)]; exact h77)]; rfl, rfl, rfl⟩)
      · refine ew_iconst (v := nI 1) d_Mo_leads_80 (by decide) ?_
        refine ew_goto (tgt := 85) d_Mo_leads_81 (by decide) ?_
        exact ew_zret d_Mo_leads_85 rfl (by decide) (⟨by rw [show decide (sp_ro (M 56) (u + 1) v n p = M 56 3) = true from decide_eq_true (by rw [sp_ro_1 (by omega)]; exact h77)]; rfl, rfl, rfl⟩)
    · obtain ⟨w, rfl⟩ : ∃ w, z = w + 2 := sp_two h18 h4
      refine ew_iload d_Mo_leads_21 rfl ?_
      refine ew_iconst (v := nI 2) d_Mo_leads_23 (by decide) ?_
      refine en_irem d_Mo_leads_24 (by omega) (by decide) (by decide) ?_
      refine en_if_ne (tgt := 43) d_Mo_leads_25 (by decide) (by omega) (fun h25 => ?_) (fun h25 => ?_)
      · refine ew_aload_n d_Mo_leads_43 rfl ?_
        refine ew_getr (ci := 9) (f := 10) d_Mo_leads_44 rfl rfl rfl tw_602 ?_
        refine ew_iload d_Mo_leads_47 rfl ?_
        refine ew_iald (j := p) d_Mo_leads_49 rfl (rfl) (by omega) (by decide) ?_
        refine ew_iload d_Mo_leads_50 rfl ?_
        refine en_callS (As := [.int (M 56 p), .int v]) (st := []) (st1 := [.int (sp_mix (M 56 p) v)]) d_Mo_leads_52 k_Mo_mix tw_752 tw_753 rfl (Nat.le_of_ble_eq_true rfl) rfl (Nat.le_of_ble_eq_true rfl) rfl rfl (c_Mo_mix l g _ (ew_SH L) M (M 56 p) v) rfl ?_
        refine en_istore (ls' := [.ref 47, .int (nI 3), .retAddr 0, .retAddr 0, .retAddr 0, .int (sp_mix (M 56 p) v), .int (nI p), .int (nI n)]) d_Mo_leads_55 (Nat.le_of_ble_eq_true rfl) rfl ?_
        refine en_inc (ls' := [.ref 47, .int (nI 3), .retAddr 0, .retAddr 0, .retAddr 0, .int (sp_mix (M 56 p) v), .int (nI (p + 1)), .int (nI n)]) d_Mo_leads_57 rfl rfl ?_
        refine ew_iload d_Mo_leads_60 rfl ?_
        refine ew_iconst (v := nI 2) d_Mo_leads_62 (by decide) ?_
        refine en_idiv d_Mo_leads_63 (by omega) (by decide) (by decide) ?_
        refine en_istore (ls' := [.ref 47, .int (nI 3), .retAddr 0, .retAddr 0, .retAddr 0, .int (sp_mix (M 56 p) v), .int (nI (p + 1)), .int (nI (n / 2))]) d_Mo_leads_64 (Nat.le_of_ble_eq_true rfl) rfl ?_
        refine ew_goto (tgt := 15) d_Mo_leads_66 (by decide) ?_
        rw [sp_ro_2 (by omega), if_neg h25]
        exact ih _ (n / 2) (p + 1) (w + 1) (by rw [Nat.pow_succ] at h1; omega) (by omega) (by rw [Nat.pow_succ] at h4; omega) (by omega)
      · refine ew_iload d_Mo_leads_28 rfl ?_
        refine ew_aload_n d_Mo_leads_30 rfl ?_
        refine ew_getr (ci := 9) (f := 10) d_Mo_leads_31 rfl rfl rfl tw_602 ?_
        refine ew_iload d_Mo_leads_34 rfl ?_
        refine ew_iald (j := p) d_Mo_leads_36 rfl (rfl) (by omega) (by decide) ?_
        refine en_callS (As := [.int v, .int (M 56 p)]) (st := []) (st1 := [.int (sp_mix v (M 56 p))]) d_Mo_leads_37 k_Mo_mix tw_752 tw_753 rfl (Nat.le_of_ble_eq_true rfl) rfl (Nat.le_of_ble_eq_true rfl) rfl rfl (c_Mo_mix l g _ (ew_SH L) M v (M 56 p)) rfl ?_
        refine ew_goto (tgt := 55) d_Mo_leads_40 (by decide) ?_
        refine en_istore (ls' := [.ref 47, .int (nI 3), .retAddr 0, .retAddr 0, .retAddr 0, .int (sp_mix v (M 56 p)), .int (nI p), .int (nI n)]) d_Mo_leads_55 (Nat.le_of_ble_eq_true rfl) rfl ?_
        refine en_inc (ls' := [.ref 47, .int (nI 3), .retAddr 0, .retAddr 0, .retAddr 0, .int (sp_mix v (M 56 p)), .int (nI (p + 1)), .int (nI n)]) d_Mo_leads_57 rfl rfl ?_
        refine ew_iload d_Mo_leads_60 rfl ?_
        refine ew_iconst (v := nI 2) d_Mo_leads_62 (by decide) ?_
        refine en_idiv d_Mo_leads_63 (by omega) (by decide) (by decide) ?_
        refine en_istore (ls' := [.ref 47, .int (nI 3), .retAddr 0, .retAddr 0, .retAddr 0, .int (sp_mix v (M 56 p)), .int (nI (p + 1)), .int (nI (n / 2))]) d_Mo_leads_64 (Nat.le_of_ble_eq_true rfl) rfl ?_
        refine ew_goto (tgt := 15) d_Mo_leads_66 (by decide) ?_
        rw [sp_ro_2 (by omega), if_pos h25]
        exact ih _ (n / 2) (p + 1) (w + 1) (by rw [Nat.pow_succ] at h1; omega) (by omega) (by rw [Nat.pow_succ] at h4; omega) (by omega)
set_option maxRecDepth 100000 in
theorem c_Mo_leads3 (l : Launch) (g : ew_G) (d L : Nat) (M : ew_M) (i p : Nat) (v : Int32) (hi : i < 8) (hp : p + 4 ≤ 180) :
    Ew l g (d + 1) 0 0 m_Mo_leads 0 [.ref 47, .int (nI 3), .int (nI i), .int v, .int (nI p), .retAddr 0, .retAddr 0, .retAddr 0] [] (ew_SH L) M (ew_q (some (.int (ew_b (decide (sp_ro (M 56) 6 v (8 + i) p = M 56 3))))) (ew_SH L) M) := by
  refine ew_iload_n d_Mo_leads_0 rfl ?_
  refine en_istore (ls' := [.ref 47, .int (nI 3), .int (nI i), .int v, .int (nI p), .int v, .retAddr 0, .retAddr 0]) d_Mo_leads_1 (Nat.le_of_ble_eq_true rfl) rfl ?_
  refine ew_iload d_Mo_leads_3 rfl ?_
  refine en_istore (ls' := [.ref 47, .int (nI 3), .int (nI i), .int v, .int (nI p), .int v, .int (nI p), .retAddr 0]) d_Mo_leads_5 (Nat.le_of_ble_eq_true rfl) rfl ?_
  refine ew_iload_n d_Mo_leads_7 rfl ?_
  refine en_callS (As := [.int (nI 3)]) (st := []) (st1 := [.int (nI 8)]) d_Mo_leads_8 k_Mo_leavesOf tw_764 tw_765 rfl (Nat.le_of_ble_eq_true rfl) rfl (Nat.le_of_ble_eq_true rfl) rfl rfl (c_Mo_leavesOf3 l g _ L M) rfl ?_
  refine ew_iload_n d_Mo_leads_11 rfl ?_
  refine en_iadd d_Mo_leads_12 ?_
  refine en_istore (ls' := [.ref 47, .int (nI 3), .int (nI i), .int v, .int (nI p), .int v, .int (nI p), .int (nI (8 + i))]) d_Mo_leads_13 (Nat.le_of_ble_eq_true rfl) rfl ?_
  refine en_drop (ls' := [.ref 47, .int (nI 3), .retAddr 0, .retAddr 0, .retAddr 0, .int v, .int (nI p), .int (nI (8 + i))]) ⟨Or.inl rfl, Or.inl rfl, Or.inr rfl, Or.inr rfl, Or.inr rfl, Or.inl rfl, Or.inl rfl, Or.inl rfl, trivial⟩ ?_
  exact lp_Mo_leads3 l g d L M 6 v (8 + i) p 4 (by omega) (by omega) (by omega) hp
set_option maxRecDepth 100000 in
theorem c_Mo_opens0 (l : Launch) (g : ew_G) (d L : Nat) (M : ew_M) (j : Nat) (hj : j < 16) :
    Ew l g (d + 2) 0 0 m_Mo_opens 0 [.ref 47, .int (nI 0), .int (nI j), .retAddr 0, .retAddr 0, .retAddr 0] [] (ew_SH L) M (ew_q (some (.int (ew_b (sp_vc0 (M 56) j)))) (ew_SH L) M) := by
  refine ew_iconst (v := nI 1) d_Mo_opens_0 (by decide) ?_
  refine en_istore_n (ls' := [.ref 47, .int (nI 0), .int (nI j), .int (nI 1), .retAddr 0, .retAddr 0]) d_Mo_opens_1 (Nat.le_of_ble_eq_true rfl) rfl ?_
  refine ew_iconst (v := nI 0) d_Mo_opens_2 (by decide) ?_
  refine en_istore (ls' := [.ref 47, .int (nI 0), .int (nI j), .int (nI 1), .int (nI 0), .retAddr 0]) d_Mo_opens_3 (Nat.le_of_ble_eq_true rfl) rfl ?_
  refine ew_iload d_Mo_opens_5 rfl ?_
  refine ew_iconst (v := nI 4) d_Mo_opens_7 (by decide) ?_
  refine en_icmp_ge (tgt := 85) d_Mo_opens_8 (by decide) (by decide) (by decide) (fun h8 => by exact absurd h8 (by decide)) (fun h8 => ?_)
  refine ew_iload_n d_Mo_opens_11 rfl ?_
  refine ew_iload d_Mo_opens_12 rfl ?_
  refine en_callS (As := [.int (nI 0), .int (nI 0)]) (st := []) (st1 := [.int (nI 5)]) d_Mo_opens_14 k_Mo_placeOf tw_819 tw_820 rfl (Nat.le_of_ble_eq_true rfl) rfl (Nat.le_of_ble_eq_true rfl) rfl rfl (c_Mo_placeOf_0_0 l g _ L M) rfl ?_
  refine en_istore (ls' := [.ref 47, .int (nI 0), .int (nI j), .int (nI 1), .int (nI 0), .int (nI 5)]) d_Mo_opens_17 (Nat.le_of_ble_eq_true rfl) rfl ?_
  refine ew_iload_n d_Mo_opens_19 rfl ?_
  refine en_if_eq (tgt := 77) d_Mo_opens_20 (by decide) (by decide) (fun h20 => by exact absurd h20 (by decide)) (fun h20 => ?_)
  refine ew_aload_n d_Mo_opens_23 rfl ?_
  refine ew_iconst (v := nI 0) d_Mo_opens_24 (by decide) ?_
  refine ew_iload_n d_Mo_opens_25 rfl ?_
  refine ew_iload d_Mo_opens_26 rfl ?_
  refine ew_iconst (v := nI 2) d_Mo_opens_28 (by decide) ?_
  refine en_irem d_Mo_opens_29 (by first | with_reducible assumption | with_reducible exact ep_lt _ | with_reducible exact sp_its_lt _ _ _ | with_reducible exact tb_l_rt _ | with_reducible exact tb_l_x _ | with_reducible exact tb_l_o0 _ | with_reducible exact tb_l_o1 _ | with_reducible exact tb_l_va _ | with_reducible exact tb_l_ll _ | with_reducible exact tb_l_cf _ | with_reducible exact tb_l_kf _ | with_reducible exact sp_ts_lt _ _ _ _ | with_reducible exact sp_w_lt _ _ | with_reducible exact sp_cs_lt _ _ _ _ _ | with_reducible exact sp_cb_lt _ _ _ _ _ | with_reducible exact sp_ch_lt _ | with_reducible exact sp_bf_lt _ _ | with_reducible exact sp_va_lt _ _ _ | with_reducible exact sp_be_lt _ _ | with_reducible exact sp_p_lt _ _ _ | with_reducible exact sp_com_lt _ _ _ _ | with_reducible exact sp_fo_lt _ _ _ _ _ | omega) (by decide) (by decide) ?_
  refine en_eq rfl (show _ = [.int (nI 0), .int (nI j), .int (nI 0), .ref 47] from rfl) rfl ?_
  refine ew_iconst (v := nI 4) d_Mo_opens_30 (by decide) ?_
  refine en_imul d_Mo_opens_31 ?_
  refine en_eq rfl (show _ = [.int (nI 0), .int (nI j), .int (nI 0), .ref 47] from rfl) rfl ?_
  refine en_iadd d_Mo_opens_32 ?_
  refine ew_iload d_Mo_opens_33 rfl ?_
  refine ew_iconst (v := nI 2) d_Mo_opens_35 (by decide) ?_
  refine en_idiv d_Mo_opens_36 (by first | with_reducible assumption | with_reducible exact ep_lt _ | with_reducible exact sp_its_lt _ _ _ | with_reducible exact tb_l_rt _ | with_reducible exact tb_l_x _ | with_reducible exact tb_l_o0 _ | with_reducible exact tb_l_o1 _ | with_reducible exact tb_l_va _ | with_reducible exact tb_l_ll _ | with_reducible exact tb_l_cf _ | with_reducible exact tb_l_kf _ | with_reducible exact sp_ts_lt _ _ _ _ | with_reducible exact sp_w_lt _ _ | with_reducible exact sp_cs_lt _ _ _ _ _ | with_reducible exact sp_cb_lt _ _ _ _ _ | with_reducible exact sp_ch_lt _ | with_reducible exact sp_bf_lt _ _ | with_reducible exact sp_va_lt _ _ _ | with_reducible exact sp_be_lt _ _ | with_reducible exact sp_p_lt _ _ _ | with_reducible exact sp_com_lt _ _ _ _ | with_reducible exact sp_fo_lt _ _ _ _ _ | omega) (by decide) (by decide) ?_
  refine en_eq rfl (show _ = [.int (nI 0), .int (nI (j + 0)), .int (nI 0), .ref 47] from rfl) rfl ?_
  refine ew_bipush (v := nI 16) d_Mo_opens_37 (by decide) ?_
  refine en_imul d_Mo_opens_39 ?_
  refine en_eq rfl (show _ = [.int (nI 0), .int (nI (j + 0)), .int (nI 0), .ref 47] from rfl) rfl ?_
  refine en_iadd d_Mo_opens_40 ?_
  refine ew_bipush (v := nI 32) d_Mo_opens_41 (by decide) ?_
  refine en_irem d_Mo_opens_43 (by omega) (by decide) (by decide) ?_
  refine en_eq (st' := [.int (nI ((j + 0) % 32)), .int (nI 0), .ref 47]) rfl (by rw [show (nI (((j + 0) + 0) % 32)) = (nI ((j + 0) % 32)) from congrArg nI (by omega)]) rfl ?_
  refine ew_aload_n d_Mo_opens_44 rfl ?_
  refine ew_getr (ci := 9) (f := 10) d_Mo_opens_45 rfl rfl rfl tw_602 ?_
  refine ew_iload d_Mo_opens_48 rfl ?_
  refine ew_iald (j := 5) d_Mo_opens_50 rfl (rfl) (by decide) (by decide) ?_
  refine ew_aload_n d_Mo_opens_51 rfl ?_
  refine ew_getr (ci := 9) (f := 10) d_Mo_opens_52 rfl rfl rfl tw_602 ?_
  refine ew_iload d_Mo_opens_55 rfl ?_
  refine ew_iconst (v := nI 1) d_Mo_opens_57 (by decide) ?_
  refine en_iadd d_Mo_opens_58 ?_
  refine en_eq rfl (show _ = [.int (nI 6), .ref 56, .int (M 56 5), .int (nI ((j + 0) % 32)), .int (nI 0), .ref 47] from rfl) rfl ?_
  refine ew_iald (j := 6) d_Mo_opens_59 rfl (rfl) (by decide) (by decide) ?_
  refine en_callS (As := [.int (M 56 5), .int (M 56 6)]) (st := [.int (nI ((j + 0) % 32)), .int (nI 0), .ref 47]) (st1 := [.int (sp_mix (M 56 5) (M 56 6)), .int (nI ((j + 0) % 32)), .int (nI 0), .ref 47]) d_Mo_opens_60 k_Mo_mix tw_752 tw_753 rfl (Nat.le_of_ble_eq_true rfl) rfl (Nat.le_of_ble_eq_true rfl) rfl rfl (c_Mo_mix l g _ (ew_SH L) M (M 56 5) (M 56 6)) rfl ?_
  refine ew_iload d_Mo_opens_63 rfl ?_
  refine ew_iconst (v := nI 2) d_Mo_opens_65 (by decide) ?_
  refine en_iadd d_Mo_opens_66 ?_
  refine en_eq rfl (show _ = [.int (nI 7), .int (sp_mix (M 56 5) (M 56 6)), .int (nI ((j + 0) % 32)), .int (nI 0), .ref 47] from rfl) rfl ?_
  refine en_callV (As := [.int (nI 0), .int (nI ((j + 0) % 32)), .int (sp_mix (M 56 5) (M 56 6)), .int (nI 7)]) (i := 47) (ci := 9) (st := []) (st1 := [.int (ew_b (decide (sp_ro (M 56) 6 (sp_mix (M 56 5) (M 56 6)) (32 + ((j + 0) % 32)) 7 = M 56 0)))]) d_Mo_opens_67 k_Mo_leads rfl rfl tw_830 tw_832 tp_49 rfl (Nat.le_of_ble_eq_true rfl) rfl (Nat.le_of_ble_eq_true rfl) rfl rfl (c_Mo_leads0 l g _ L M ((j + 0) % 32) 7 (sp_mix (M 56 5) (M 56 6)) (by omega) (by decide)) rfl ?_
  refine en_b_eq (tgt := 77) d_Mo_opens_70 (by decide) (fun h70 => ?_) (fun h70 => ?_)
  · refine ew_iconst (v := nI 0) d_Mo_opens_77 (by decide) ?_
    refine en_istore_n (ls' := [.ref 47, .int (nI 0), .int (nI j), .int (nI 0), .int (nI 0), .int (nI 5)]) d_Mo_opens_78 (Nat.le_of_ble_eq_true rfl) rfl ?_
    refine en_inc (ls' := [.ref 47, .int (nI 0), .int (nI j), .int (nI 0), .int (nI 1), .int (nI 5)]) d_Mo_opens_79 rfl rfl ?_
    refine ew_goto (tgt := 5) d_Mo_opens_82 (by decide) ?_
    refine ew_iload d_Mo_opens_5 rfl ?_
    refine ew_iconst (v := nI 4) d_Mo_opens_7 (by decide) ?_
    refine en_icmp_ge (tgt := 85) d_Mo_opens_8 (by decide) (by decide) (by decide) (fun h8_1 => by exact absurd h8_1 (by decide)) (fun h8_1 => ?_)
    refine ew_iload_n d_Mo_opens_11 rfl ?_
    refine ew_iload d_Mo_opens_12 rfl ?_
    refine en_callS (As := [.int (nI 0), .int (nI 1)]) (st := []) (st1 := [.int (nI 12)]) d_Mo_opens_14 k_Mo_placeOf tw_819 tw_820 rfl (Nat.le_of_ble_eq_true rfl) rfl (Nat.le_of_ble_eq_true rfl) rfl rfl (c_Mo_placeOf_0_1 l g _ L M) rfl ?_
    refine en_istore (ls' := [.ref 47, .int (nI 0), .int (nI j), .int (nI 0), .int (nI 1), .int (nI 12)]) d_Mo_opens_17 (Nat.le_of_ble_eq_true rfl) rfl ?_
    refine ew_iload_n d_Mo_opens_19 rfl ?_
    refine en_if_eq (tgt := 77) d_Mo_opens_20 (by decide) (by decide) (fun h20_1 => ?_) (fun h20_1 => by exact absurd h20_1 (by decide))
    refine ew_iconst (v := nI 0) d_Mo_opens_77 (by decide) ?_
    refine en_istore_n (ls' := [.ref 47, .int (nI 0), .int (nI j), .int (nI 0), .int (nI 1), .int (nI 12)]) d_Mo_opens_78 (Nat.le_of_ble_eq_true rfl) rfl ?_
    refine en_inc (ls' := [.ref 47, .int (nI 0), .int (nI j), .int (nI 0), .int (nI 2), .int (nI 12)]) d_Mo_opens_79 rfl rfl ?_
    refine ew_goto (tgt := 5) d_Mo_opens_82 (by decide) ?_
    refine ew_iload d_Mo_opens_5 rfl ?_
    refine ew_iconst (v := nI 4) d_Mo_opens_7 (by decide) ?_
    refine en_icmp_ge (tgt := 85) d_Mo_opens_8 (by decide) (by decide) (by decide) (fun h8_2 => by exact absurd h8_2 (by decide)) (fun h8_2 => ?_)
    refine ew_iload_n d_Mo_opens_11 rfl ?_
    refine ew_iload d_Mo_opens_12 rfl ?_
    refine en_callS (As := [.int (nI 0), .int (nI 2)]) (st := []) (st1 := [.int (nI 19)]) d_Mo_opens_14 k_Mo_placeOf tw_819 tw_820 rfl (Nat.le_of_ble_eq_true rfl) rfl (Nat.le_of_ble_eq_true rfl) rfl rfl (c_Mo_placeOf_0_2 l g _ L M) rfl ?_
    refine en_istore (ls' := [.ref 47, .int (nI 0), .int (nI j), .int (nI 0), .int (nI 2), .int (nI 19)]) d_Mo_opens_17 (Nat.le_of_ble_eq_true rfl) rfl ?_
    refine ew_iload_n d_Mo_opens_19 rfl ?_
    refine en_if_eq (tgt := 77) d_Mo_opens_20 (by decide) (by decide) (fun h20_2 => ?_) (fun h20_2 => by exact absurd h20_2 (by decide))
    refine ew_iconst (v := nI 0) d_Mo_opens_77 (by decide) ?_
    refine en_istore_n (ls' := [.ref 47, .int (nI 0), .int (nI j), .int (nI 0), .int (nI 2), .int (nI 19)]) d_Mo_opens_78 (Nat.le_of_ble_eq_true rfl) rfl ?_
    refine en_inc (ls' := [.ref 47, .int (nI 0), .int (nI j), .int (nI 0), .int (nI 3), .int (nI 19)]) d_Mo_opens_79 rfl rfl ?_
    refine ew_goto (tgt := 5) d_Mo_opens_82 (by decide) ?_
    refine ew_iload d_Mo_opens_5 rfl ?_
    refine ew_iconst (v := nI 4) d_Mo_opens_7 (by decide) ?_
    refine en_icmp_ge (tgt := 85) d_Mo_opens_8 (by decide) (by decide) (by decide) (fun h8_3 => by exact absurd h8_3 (by decide)) (fun h8_3 => ?_)
    refine ew_iload_n d_Mo_opens_11 rfl ?_
    refine ew_iload d_Mo_opens_12 rfl ?_
    refine en_callS (As := [.int (nI 0), .int (nI 3)]) (st := []) (st1 := [.int (nI 26)]) d_Mo_opens_14 k_Mo_placeOf tw_819 tw_820 rfl (Nat.le_of_ble_eq_true rfl) rfl (Nat.le_of_ble_eq_true rfl) rfl rfl (c_Mo_placeOf_0_3 l g _ L M) rfl ?_
    refine en_istore (ls' := [.ref 47, .int (nI 0), .int (nI j), .int (nI 0), .int (nI 3), .int (nI 26)]) d_Mo_opens_17 (Nat.le_of_ble_eq_true rfl) rfl ?_
    refine ew_iload_n d_Mo_opens_19 rfl ?_
    refine en_if_eq (tgt := 77) d_Mo_opens_20 (by decide) (by decide) (fun h20_3 => ?_) (fun h20_3 => by exact absurd h20_3 (by decide))
    refine ew_iconst (v := nI 0) d_Mo_opens_77 (by decide) ?_
    refine en_istore_n (ls' := [.ref 47, .int (nI 0), .int (nI j), .int (nI 0), .int (nI 3), .int (nI 26)]) d_Mo_opens_78 (Nat.le_of_ble_eq_true rfl) rfl ?_
    refine en_inc (ls' := [.ref 47, .int (nI 0), .int (nI j), .int (nI 0), .int (nI 4), .int (nI 26)]) d_Mo_opens_79 rfl rfl ?_
    refine ew_goto (tgt := 5) d_Mo_opens_82 (by decide) ?_
    refine ew_iload d_Mo_opens_5 rfl ?_
    refine ew_iconst (v := nI 4) d_Mo_opens_7 (by decide) ?_
    refine en_icmp_ge (tgt := 85) d_Mo_opens_8 (by decide) (by decide) (by decide) (fun h8_4 => ?_) (fun h8_4 => by exact absurd h8_4 (by decide))
    refine ew_iload_n d_Mo_opens_85 rfl ?_
    exact ew_zret d_Mo_opens_86 rfl (by decide) (⟨by rw [show sp_vc0 (M 56) j = false from by (unfold sp_vc0; simp only [h70, Bool.false_and, Bool.and_false])]; rfl, rfl, rfl⟩)
  · refine ew_iconst (v := nI 1) d_Mo_opens_73 (by decide) ?_
    refine ew_goto (tgt := 78) d_Mo_opens_74 (by decide) ?_
    refine en_istore_n (ls' := [.ref 47, .int (nI 0), .int (nI j), .int (nI 1), .int (nI 0), .int (nI 5)]) d_Mo_opens_78 (Nat.le_of_ble_eq_true rfl) rfl ?_
    refine en_inc (ls' := [.ref 47, .int (nI 0), .int (nI j), .int (nI 1), .int (nI 1), .int (nI 5)]) d_Mo_opens_79 rfl rfl ?_
    refine ew_goto (tgt := 5) d_Mo_opens_82 (by decide) ?_
    refine ew_iload d_Mo_opens_5 rfl ?_
    refine ew_iconst (v := nI 4) d_Mo_opens_7 (by decide) ?_
    refine en_icmp_ge (tgt := 85) d_Mo_opens_8 (by decide) (by decide) (by decide) (fun h8_1 => by exact absurd h8_1 (by decide)) (fun h8_1 => ?_)
    refine ew_iload_n d_Mo_opens_11 rfl ?_
    refine ew_iload d_Mo_opens_12 rfl ?_
    refine en_callS (As := [.int (nI 0), .int (nI 1)]) (st := []) (st1 := [.int (nI 12)]) d_Mo_opens_14 k_Mo_placeOf tw_819 tw_820 rfl (Nat.le_of_ble_eq_true rfl) rfl (Nat.le_of_ble_eq_true rfl) rfl rfl (c_Mo_placeOf_0_1 l g _ L M) rfl ?_
    refine en_istore (ls' := [.ref 47, .int (nI 0), .int (nI j), .int (nI 1), .int (nI 1), .int (nI 12)]) d_Mo_opens_17 (Nat.le_of_ble_eq_true rfl) rfl ?_
    refine ew_iload_n d_Mo_opens_19 rfl ?_
    refine en_if_eq (tgt := 77) d_Mo_opens_20 (by decide) (by decide) (fun h20_1 => by exact absurd h20_1 (by decide)) (fun h20_1 => ?_)
    refine ew_aload_n d_Mo_opens_23 rfl ?_
    refine ew_iconst (v := nI 0) d_Mo_opens_24 (by decide) ?_
    refine ew_iload_n d_Mo_opens_25 rfl ?_
    refine ew_iload d_Mo_opens_26 rfl ?_
    refine ew_iconst (v := nI 2) d_Mo_opens_28 (by decide) ?_
    refine en_irem d_Mo_opens_29 (by first | with_reducible assumption | with_reducible exact ep_lt _ | with_reducible exact sp_its_lt _ _ _ | with_reducible exact tb_l_rt _ | with_reducible exact tb_l_x _ | with_reducible exact tb_l_o0 _ | with_reducible exact tb_l_o1 _ | with_reducible exact tb_l_va _ | with_reducible exact tb_l_ll _ | with_reducible exact tb_l_cf _ | with_reducible exact tb_l_kf _ | with_reducible exact sp_ts_lt _ _ _ _ | with_reducible exact sp_w_lt _ _ | with_reducible exact sp_cs_lt _ _ _ _ _ | with_reducible exact sp_cb_lt _ _ _ _ _ | with_reducible exact sp_ch_lt _ | with_reducible exact sp_bf_lt _ _ | with_reducible exact sp_va_lt _ _ _ | with_reducible exact sp_be_lt _ _ | with_reducible exact sp_p_lt _ _ _ | with_reducible exact sp_com_lt _ _ _ _ | with_reducible exact sp_fo_lt _ _ _ _ _ | omega) (by decide) (by decide) ?_
    refine en_eq rfl (show _ = [.int (nI 1), .int (nI j), .int (nI 0), .ref 47] from rfl) rfl ?_
    refine ew_iconst (v := nI 4) d_Mo_opens_30 (by decide) ?_
    refine en_imul d_Mo_opens_31 ?_
    refine en_eq rfl (show _ = [.int (nI 4), .int (nI j), .int (nI 0), .ref 47] from rfl) rfl ?_
    refine en_iadd d_Mo_opens_32 ?_
    refine ew_iload d_Mo_opens_33 rfl ?_
    refine ew_iconst (v := nI 2) d_Mo_opens_35 (by decide) ?_
    refine en_idiv d_Mo_opens_36 (by first | with_reducible assumption | with_reducible exact ep_lt _ | with_reducible exact sp_its_lt _ _ _ | with_reducible exact tb_l_rt _ | with_reducible exact tb_l_x _ | with_reducible exact tb_l_o0 _ | with_reducible exact tb_l_o1 _ | with_reducible exact tb_l_va _ | with_reducible exact tb_l_ll _ | with_reducible exact tb_l_cf _ | with_reducible exact tb_l_kf _ | with_reducible exact sp_ts_lt _ _ _ _ | with_reducible exact sp_w_lt _ _ | with_reducible exact sp_cs_lt _ _ _ _ _ | with_reducible exact sp_cb_lt _ _ _ _ _ | with_reducible exact sp_ch_lt _ | with_reducible exact sp_bf_lt _ _ | with_reducible exact sp_va_lt _ _ _ | with_reducible exact sp_be_lt _ _ | with_reducible exact sp_p_lt _ _ _ | with_reducible exact sp_com_lt _ _ _ _ | with_reducible exact sp_fo_lt _ _ _ _ _ | omega) (by decide) (by decide) ?_
    refine en_eq rfl (show _ = [.int (nI 0), .int (nI (j + 4)), .int (nI 0), .ref 47] from rfl) rfl ?_
    refine ew_bipush (v := nI 16) d_Mo_opens_37 (by decide) ?_
    refine en_imul d_Mo_opens_39 ?_
    refine en_eq rfl (show _ = [.int (nI 0), .int (nI (j + 4)), .int (nI 0), .ref 47] from rfl) rfl ?_
    refine en_iadd d_Mo_opens_40 ?_
    refine ew_bipush (v := nI 32) d_Mo_opens_41 (by decide) ?_
    refine en_irem d_Mo_opens_43 (by omega) (by decide) (by decide) ?_
    refine en_eq (st' := [.int (nI ((j + 4) % 32)), .int (nI 0), .ref 47]) rfl (by rw [show (nI (((j + 4) + 0) % 32)) = (nI ((j + 4) % 32)) from congrArg nI (by omega)]) rfl ?_
    refine ew_aload_n d_Mo_opens_44 rfl ?_
    refine ew_getr (ci := 9) (f := 10) d_Mo_opens_45 rfl rfl rfl tw_602 ?_
    refine ew_iload d_Mo_opens_48 rfl ?_
    refine ew_iald (j := 12) d_Mo_opens_50 rfl (rfl) (by decide) (by decide) ?_
    refine ew_aload_n d_Mo_opens_51 rfl ?_
    refine ew_getr (ci := 9) (f := 10) d_Mo_opens_52 rfl rfl rfl tw_602 ?_
    refine ew_iload d_Mo_opens_55 rfl ?_
    refine ew_iconst (v := nI 1) d_Mo_opens_57 (by decide) ?_
    refine en_iadd d_Mo_opens_58 ?_
    refine en_eq rfl (show _ = [.int (nI 13), .ref 56, .int (M 56 12), .int (nI ((j + 4) % 32)), .int (nI 0), .ref 47] from rfl) rfl ?_
    refine ew_iald (j := 13) d_Mo_opens_59 rfl (rfl) (by decide) (by decide) ?_
    refine en_callS (As := [.int (M 56 12), .int (M 56 13)]) (st := [.int (nI ((j + 4) % 32)), .int (nI 0), .ref 47]) (st1 := [.int (sp_mix (M 56 12) (M 56 13)), .int (nI ((j + 4) % 32)), .int (nI 0), .ref 47]) d_Mo_opens_60 k_Mo_mix tw_752 tw_753 rfl (Nat.le_of_ble_eq_true rfl) rfl (Nat.le_of_ble_eq_true rfl) rfl rfl (c_Mo_mix l g _ (ew_SH L) M (M 56 12) (M 56 13)) rfl ?_
    refine ew_iload d_Mo_opens_63 rfl ?_
    refine ew_iconst (v := nI 2) d_Mo_opens_65 (by decide) ?_
    refine en_iadd d_Mo_opens_66 ?_
    refine en_eq rfl (show _ = [.int (nI 14), .int (sp_mix (M 56 12) (M 56 13)), .int (nI ((j + 4) % 32)), .int (nI 0), .ref 47] from rfl) rfl ?_
    refine en_callV (As := [.int (nI 0), .int (nI ((j + 4) % 32)), .int (sp_mix (M 56 12) (M 56 13)), .int (nI 14)]) (i := 47) (ci := 9) (st := []) (st1 := [.int (ew_b (decide (sp_ro (M 56) 6 (sp_mix (M 56 12) (M 56 13)) (32 + ((j + 4) % 32)) 14 = M 56 0)))]) d_Mo_opens_67 k_Mo_leads rfl rfl tw_830 tw_832 tp_49 rfl (Nat.le_of_ble_eq_true rfl) rfl (Nat.le_of_ble_eq_true rfl) rfl rfl (c_Mo_leads0 l g _ L M ((j + 4) % 32) 14 (sp_mix (M 56 12) (M 56 13)) (by omega) (by decide)) rfl ?_
    refine en_b_eq (tgt := 77) d_Mo_opens_70 (by decide) (fun h70_1 => ?_) (fun h70_1 => ?_)
    · refine ew_iconst (v := nI 0) d_Mo_opens_77 (by decide) ?_
      refine en_istore_n (ls' := [.ref 47, .int (nI 0), .int (nI j), .int (nI 0), .int (nI 1), .int (nI 12)]) d_Mo_opens_78 (Nat.le_of_ble_eq_true rfl) rfl ?_
      refine en_inc (ls' := [.ref 47, .int (nI 0), .int (nI j), .int (nI 0), .int (nI 2), .int (nI 12)]) d_Mo_opens_79 rfl rfl ?_
      refine ew_goto (tgt := 5) d_Mo_opens_82 (by decide) ?_
      refine ew_iload d_Mo_opens_5 rfl ?_
      refine ew_iconst (v := nI 4) d_Mo_opens_7 (by decide) ?_
      refine en_icmp_ge (tgt := 85) d_Mo_opens_8 (by decide) (by decide) (by decide) (fun h8_2 => by exact absurd h8_2 (by decide)) (fun h8_2 => ?_)
      refine ew_iload_n d_Mo_opens_11 rfl ?_
      refine ew_iload d_Mo_opens_12 rfl ?_
      refine en_callS (As := [.int (nI 0), .int (nI 2)]) (st := []) (st1 := [.int (nI 19)]) d_Mo_opens_14 k_Mo_placeOf tw_819 tw_820 rfl (Nat.le_of_ble_eq_true rfl) rfl (Nat.le_of_ble_eq_true rfl) rfl rfl (c_Mo_placeOf_0_2 l g _ L M) rfl ?_
      refine en_istore (ls' := [.ref 47, .int (nI 0), .int (nI j), .int (nI 0), .int (nI 2), .int (nI 19)]) d_Mo_opens_17 (Nat.le_of_ble_eq_true rfl) rfl ?_
      refine ew_iload_n d_Mo_opens_19 rfl ?_
      refine en_if_eq (tgt := 77) d_Mo_opens_20 (by decide) (by decide) (fun h20_2 => ?_) (fun h20_2 => by exact absurd h20_2 (by decide))
      refine ew_iconst (v := nI 0) d_Mo_opens_77 (by decide) ?_
      refine en_istore_n (ls' := [.ref 47, .int (nI 0), .int (nI j), .int (nI 0), .int (nI 2), .int (nI 19)]) d_Mo_opens_78 (Nat.le_of_ble_eq_true rfl) rfl ?_
      refine en_inc (ls' := [.ref 47, .int (nI 0), .int (nI j), .int (nI 0), .int (nI 3), .int (nI 19)]) d_Mo_opens_79 rfl rfl ?_
      refine ew_goto (tgt := 5) d_Mo_opens_82 (by decide) ?_
      refine ew_iload d_Mo_opens_5 rfl ?_
      refine ew_iconst (v := nI 4) d_Mo_opens_7 (by decide) ?_
      refine en_icmp_ge (tgt := 85) d_Mo_opens_8 (by decide) (by decide) (by decide) (fun h8_3 => by exact absurd h8_3 (by decide)) (fun h8_3 => ?_)
      refine ew_iload_n d_Mo_opens_11 rfl ?_
      refine ew_iload d_Mo_opens_12 rfl ?_
      refine en_callS (As := [.int (nI 0), .int (nI 3)]) (st := []) (st1 := [.int (nI 26)]) d_Mo_opens_14 k_Mo_placeOf tw_819 tw_820 rfl (Nat.le_of_ble_eq_true rfl) rfl (Nat.le_of_ble_eq_true rfl) rfl rfl (c_Mo_placeOf_0_3 l g _ L M) rfl ?_
      refine en_istore (ls' := [.ref 47, .int (nI 0), .int (nI j), .int (nI 0), .int (nI 3), .int (nI 26)]) d_Mo_opens_17 (Nat.le_of_ble_eq_true rfl) rfl ?_
      refine ew_iload_n d_Mo_opens_19 rfl ?_
      refine en_if_eq (tgt := 77) d_Mo_opens_20 (by decide) (by decide) (fun h20_3 => ?_) (fun h20_3 => by exact absurd h20_3 (by decide))
      refine ew_iconst (v := nI 0) d_Mo_opens_77 (by decide) ?_
      refine en_istore_n (ls' := [.ref 47, .int (nI 0), .int (nI j), .int (nI 0), .int (nI 3), .int (nI 26)]) d_Mo_opens_78 (Nat.le_of_ble_eq_true rfl) rfl ?_
      refine en_inc (ls' := [.ref 47, .int (nI 0), .int (nI j), .int (nI 0), .int (nI 4), .int (nI 26)]) d_Mo_opens_79 rfl rfl ?_
      refine ew_goto (tgt := 5) d_Mo_opens_82 (by decide) ?_
      refine ew_iload d_Mo_opens_5 rfl ?_
      refine ew_iconst (v := nI 4) d_Mo_opens_7 (by decide) ?_
      refine en_icmp_ge (tgt := 85) d_Mo_opens_8 (by decide) (by decide) (by decide) (fun h8_4 => ?_) (fun h8_4 => by exact absurd h8_4 (by decide))
      refine ew_iload_n d_Mo_opens_85 rfl ?_
      exact ew_zret d_Mo_opens_86 rfl (by decide) (⟨by rw [show sp_vc0 (M 56) j = false from by (unfold sp_vc0; simp only [h70_1, Bool.false_and, Bool.and_false])]; rfl, rfl, rfl⟩)
    · refine ew_iconst (v := nI 1) d_Mo_opens_73 (by decide) ?_
      refine ew_goto (tgt := 78) d_Mo_opens_74 (by decide) ?_
      refine en_istore_n (ls' := [.ref 47, .int (nI 0), .int (nI j), .int (nI 1), .int (nI 1), .int (nI 12)]) d_Mo_opens_78 (Nat.le_of_ble_eq_true rfl) rfl ?_
      refine en_inc (ls' := [.ref 47, .int (nI 0), .int (nI j), .int (nI 1), .int (nI 2), .int (nI 12)]) d_Mo_opens_79 rfl rfl ?_
      refine ew_goto (tgt := 5) d_Mo_opens_82 (by decide) ?_
      refine ew_iload d_Mo_opens_5 rfl ?_
      refine ew_iconst (v := nI 4) d_Mo_opens_7 (by decide) ?_
      refine en_icmp_ge (tgt := 85) d_Mo_opens_8 (by decide) (by decide) (by decide) (fun h8_2 => by exact absurd h8_2 (by decide)) (fun h8_2 => ?_)
      refine ew_iload_n d_Mo_opens_11 rfl ?_
      refine ew_iload d_Mo_opens_12 rfl ?_
      refine en_callS (As := [.int (nI 0), .int (nI 2)]) (st := []) (st1 := [.int (nI 19)]) d_Mo_opens_14 k_Mo_placeOf tw_819 tw_820 rfl (Nat.le_of_ble_eq_true rfl) rfl (Nat.le_of_ble_eq_true rfl) rfl rfl (c_Mo_placeOf_0_2 l g _ L M) rfl ?_
      refine en_istore (ls' := [.ref 47, .int (nI 0), .int (nI j), .int (nI 1), .int (nI 2), .int (nI 19)]) d_Mo_opens_17 (Nat.le_of_ble_eq_true rfl) rfl ?_
      refine ew_iload_n d_Mo_opens_19 rfl ?_
      refine en_if_eq (tgt := 77) d_Mo_opens_20 (by decide) (by decide) (fun h20_2 => by exact absurd h20_2 (by decide)) (fun h20_2 => ?_)
      refine ew_aload_n d_Mo_opens_23 rfl ?_
      refine ew_iconst (v := nI 0) d_Mo_opens_24 (by decide) ?_
      refine ew_iload_n d_Mo_opens_25 rfl ?_
      refine ew_iload d_Mo_opens_26 rfl ?_
      refine ew_iconst (v := nI 2) d_Mo_opens_28 (by decide) ?_
      refine en_irem d_Mo_opens_29 (by first | with_reducible assumption | with_reducible exact ep_lt _ | with_reducible exact sp_its_lt _ _ _ | with_reducible exact tb_l_rt _ | with_reducible exact tb_l_x _ | with_reducible exact tb_l_o0 _ | with_reducible exact tb_l_o1 _ | with_reducible exact tb_l_va _ | with_reducible exact tb_l_ll _ | with_reducible exact tb_l_cf _ | with_reducible exact tb_l_kf _ | with_reducible exact sp_ts_lt _ _ _ _ | with_reducible exact sp_w_lt _ _ | with_reducible exact sp_cs_lt _ _ _ _ _ | with_reducible exact sp_cb_lt _ _ _ _ _ | with_reducible exact sp_ch_lt _ | with_reducible exact sp_bf_lt _ _ | with_reducible exact sp_va_lt _ _ _ | with_reducible exact sp_be_lt _ _ | with_reducible exact sp_p_lt _ _ _ | with_reducible exact sp_com_lt _ _ _ _ | with_reducible exact sp_fo_lt _ _ _ _ _ | omega) (by decide) (by decide) ?_
      refine en_eq rfl (show _ = [.int (nI 0), .int (nI j), .int (nI 0), .ref 47] from rfl) rfl ?_
      refine ew_iconst (v := nI 4) d_Mo_opens_30 (by decide) ?_
      refine en_imul d_Mo_opens_31 ?_
      refine en_eq rfl (show _ = [.int (nI 0), .int (nI j), .int (nI 0), .ref 47] from rfl) rfl ?_
      refine en_iadd d_Mo_opens_32 ?_
      refine ew_iload d_Mo_opens_33 rfl ?_
      refine ew_iconst (v := nI 2) d_Mo_opens_35 (by decide) ?_
      refine en_idiv d_Mo_opens_36 (by first | with_reducible assumption | with_reducible exact ep_lt _ | with_reducible exact sp_its_lt _ _ _ | with_reducible exact tb_l_rt _ | with_reducible exact tb_l_x _ | with_reducible exact tb_l_o0 _ | with_reducible exact tb_l_o1 _ | with_reducible exact tb_l_va _ | with_reducible exact tb_l_ll _ | with_reducible exact tb_l_cf _ | with_reducible exact tb_l_kf _ | with_reducible exact sp_ts_lt _ _ _ _ | with_reducible exact sp_w_lt _ _ | with_reducible exact sp_cs_lt _ _ _ _ _ | with_reducible exact sp_cb_lt _ _ _ _ _ | with_reducible exact sp_ch_lt _ | with_reducible exact sp_bf_lt _ _ | with_reducible exact sp_va_lt _ _ _ | with_reducible exact sp_be_lt _ _ | with_reducible exact sp_p_lt _ _ _ | with_reducible exact sp_com_lt _ _ _ _ | with_reducible exact sp_fo_lt _ _ _ _ _ | omega) (by decide) (by decide) ?_
      refine en_eq rfl (show _ = [.int (nI 1), .int (nI (j + 0)), .int (nI 0), .ref 47] from rfl) rfl ?_
      refine ew_bipush (v := nI 16) d_Mo_opens_37 (by decide) ?_
      refine en_imul d_Mo_opens_39 ?_
      refine en_eq rfl (show _ = [.int (nI 16), .int (nI (j + 0)), .int (nI 0), .ref 47] from rfl) rfl ?_
      refine en_iadd d_Mo_opens_40 ?_
      refine ew_bipush (v := nI 32) d_Mo_opens_41 (by decide) ?_
      refine en_irem d_Mo_opens_43 (by omega) (by decide) (by decide) ?_
      refine en_eq (st' := [.int (nI ((j + 16) % 32)), .int (nI 0), .ref 47]) rfl (by rw [show (nI (((j + 0) + 16) % 32)) = (nI ((j + 16) % 32)) from congrArg nI (by omega)]) rfl ?_
      refine ew_aload_n d_Mo_opens_44 rfl ?_
      refine ew_getr (ci := 9) (f := 10) d_Mo_opens_45 rfl rfl rfl tw_602 ?_
      refine ew_iload d_Mo_opens_48 rfl ?_
      refine ew_iald (j := 19) d_Mo_opens_50 rfl (rfl) (by decide) (by decide) ?_
      refine ew_aload_n d_Mo_opens_51 rfl ?_
      refine ew_getr (ci := 9) (f := 10) d_Mo_opens_52 rfl rfl rfl tw_602 ?_
      refine ew_iload d_Mo_opens_55 rfl ?_
      refine ew_iconst (v := nI 1) d_Mo_opens_57 (by decide) ?_
      refine en_iadd d_Mo_opens_58 ?_
      refine en_eq rfl (show _ = [.int (nI 20), .ref 56, .int (M 56 19), .int (nI ((j + 16) % 32)), .int (nI 0), .ref 47] from rfl) rfl ?_
      refine ew_iald (j := 20) d_Mo_opens_59 rfl (rfl) (by decide) (by decide) ?_
      refine en_callS (As := [.int (M 56 19), .int (M 56 20)]) (st := [.int (nI ((j + 16) % 32)), .int (nI 0), .ref 47]) (st1 := [.int (sp_mix (M 56 19) (M 56 20)), .int (nI ((j + 16) % 32)), .int (nI 0), .ref 47]) d_Mo_opens_60 k_Mo_mix tw_752 tw_753 rfl (Nat.le_of_ble_eq_true rfl) rfl (Nat.le_of_ble_eq_true rfl) rfl rfl (c_Mo_mix l g _ (ew_SH L) M (M 56 19) (M 56 20)) rfl ?_
      refine ew_iload d_Mo_opens_63 rfl ?_
      refine ew_iconst (v := nI 2) d_Mo_opens_65 (by decide) ?_
      refine en_iadd d_Mo_opens_66 ?_
      refine en_eq rfl (show _ = [.int (nI 21), .int (sp_mix (M 56 19) (M 56 20)), .int (nI ((j + 16) % 32)), .int (nI 0), .ref 47] from rfl) rfl ?_
      refine en_callV (As := [.int (nI 0), .int (nI ((j + 16) % 32)), .int (sp_mix (M 56 19) (M 56 20)), .int (nI 21)]) (i := 47) (ci := 9) (st := []) (st1 := [.int (ew_b (decide (sp_ro (M 56) 6 (sp_mix (M 56 19) (M 56 20)) (32 + ((j + 16) % 32)) 21 = M 56 0)))]) d_Mo_opens_67 k_Mo_leads rfl rfl tw_830 tw_832 tp_49 rfl (Nat.le_of_ble_eq_true rfl) rfl (Nat.le_of_ble_eq_true rfl) rfl rfl (c_Mo_leads0 l g _ L M ((j + 16) % 32) 21 (sp_mix (M 56 19) (M 56 20)) (by omega) (by decide)) rfl ?_
      refine en_b_eq (tgt := 77) d_Mo_opens_70 (by decide) (fun h70_2 => ?_) (fun h70_2 => ?_)
      · refine ew_iconst (v := nI 0) d_Mo_opens_77 (by decide) ?_
        refine en_istore_n (ls' := [.ref 47, .int (nI 0), .int (nI j), .int (nI 0), .int (nI 2), .int (nI 19)]) d_Mo_opens_78 (Nat.le_of_ble_eq_true rfl) rfl ?_
        refine en_inc (ls' := [.ref 47, .int (nI 0), .int (nI j), .int (nI 0), .int (nI 3), .int (nI 19)]) d_Mo_opens_79 rfl rfl ?_
        refine ew_goto (tgt := 5) d_Mo_opens_82 (by decide) ?_
        refine ew_iload d_Mo_opens_5 rfl ?_
        refine ew_iconst (v := nI 4) d_Mo_opens_7 (by decide) ?_
        refine en_icmp_ge (tgt := 85) d_Mo_opens_8 (by decide) (by decide) (by decide) (fun h8_3 => by exact absurd h8_3 (by decide)) (fun h8_3 => ?_)
        refine ew_iload_n d_Mo_opens_11 rfl ?_
        refine ew_iload d_Mo_opens_12 rfl ?_
        refine en_callS (As := [.int (nI 0), .int (nI 3)]) (st := []) (st1 := [.int (nI 26)]) d_Mo_opens_14 k_Mo_placeOf tw_819 tw_820 rfl (Nat.le_of_ble_eq_true rfl) rfl (Nat.le_of_ble_eq_true rfl) rfl rfl (c_Mo_placeOf_0_3 l g _ L M) rfl ?_
        refine en_istore (ls' := [.ref 47, .int (nI 0), .int (nI j), .int (nI 0), .int (nI 3), .int (nI 26)]) d_Mo_opens_17 (Nat.le_of_ble_eq_true rfl) rfl ?_
        refine ew_iload_n d_Mo_opens_19 rfl ?_
        refine en_if_eq (tgt := 77) d_Mo_opens_20 (by decide) (by decide) (fun h20_3 => ?_) (fun h20_3 => by exact absurd h20_3 (by decide))
        refine ew_iconst (v := nI 0) d_Mo_opens_77 (by decide) ?_
        refine en_istore_n (ls' := [.ref 47, .int (nI 0), .int (nI j), .int (nI 0), .int (nI 3), .int (nI 26)]) d_Mo_opens_78 (Nat.le_of_ble_eq_true rfl) rfl ?_
        refine en_inc (ls' := [.ref 47, .int (nI 0), .int (nI j), .int (nI 0), .int (nI 4), .int (nI 26)]) d_Mo_opens_79 rfl rfl ?_
        refine ew_goto (tgt := 5) d_Mo_opens_82 (by decide) ?_
        refine ew_iload d_Mo_opens_5 rfl ?_
        refine ew_iconst (v := nI 4) d_Mo_opens_7 (by decide) ?_
        refine en_icmp_ge (tgt := 85) d_Mo_opens_8 (by decide) (by decide) (by decide) (fun h8_4 => ?_) (fun h8_4 => by exact absurd h8_4 (by decide))
        refine ew_iload_n d_Mo_opens_85 rfl ?_
        exact ew_zret d_Mo_opens_86 rfl (by decide) (⟨by rw [show sp_vc0 (M 56) j = false from by (unfold sp_vc0; simp only [h70_2, Bool.false_and, Bool.and_false])]; rfl, rfl, rfl⟩)
      · refine ew_iconst (v := nI 1) d_Mo_opens_73 (by decide) ?_
        refine ew_goto (tgt := 78) d_Mo_opens_74 (by decide) ?_
        refine en_istore_n (ls' := [.ref 47, .int (nI 0), .int (nI j), .int (nI 1), .int (nI 2), .int (nI 19)]) d_Mo_opens_78 (Nat.le_of_ble_eq_true rfl) rfl ?_
        refine en_inc (ls' := [.ref 47, .int (nI 0), .int (nI j), .int (nI 1), .int (nI 3), .int (nI 19)]) d_Mo_opens_79 rfl rfl ?_
        refine ew_goto (tgt := 5) d_Mo_opens_82 (by decide) ?_
        refine ew_iload d_Mo_opens_5 rfl ?_
        refine ew_iconst (v := nI 4) d_Mo_opens_7 (by decide) ?_
        refine en_icmp_ge (tgt := 85) d_Mo_opens_8 (by decide) (by decide) (by decide) (fun h8_3 => by exact absurd h8_3 (by decide)) (fun h8_3 => ?_)
        refine ew_iload_n d_Mo_opens_11 rfl ?_
        refine ew_iload d_Mo_opens_12 rfl ?_
        refine en_callS (As := [.int (nI 0), .int (nI 3)]) (st := []) (st1 := [.int (nI 26)]) d_Mo_opens_14 k_Mo_placeOf tw_819 tw_820 rfl (Nat.le_of_ble_eq_true rfl) rfl (Nat.le_of_ble_eq_true rfl) rfl rfl (c_Mo_placeOf_0_3 l g _ L M) rfl ?_
        refine en_istore (ls' := [.ref 47, .int (nI 0), .int (nI j), .int (nI 1), .int (nI 3), .int (nI 26)]) d_Mo_opens_17 (Nat.le_of_ble_eq_true rfl) rfl ?_
        refine ew_iload_n d_Mo_opens_19 rfl ?_
        refine en_if_eq (tgt := 77) d_Mo_opens_20 (by decide) (by decide) (fun h20_3 => by exact absurd h20_3 (by decide)) (fun h20_3 => ?_)
        refine ew_aload_n d_Mo_opens_23 rfl ?_
        refine ew_iconst (v := nI 0) d_Mo_opens_24 (by decide) ?_
        refine ew_iload_n d_Mo_opens_25 rfl ?_
        refine ew_iload d_Mo_opens_26 rfl ?_
        refine ew_iconst (v := nI 2) d_Mo_opens_28 (by decide) ?_
        refine en_irem d_Mo_opens_29 (by first | with_reducible assumption | with_reducible exact ep_lt _ | with_reducible exact sp_its_lt _ _ _ | with_reducible exact tb_l_rt _ | with_reducible exact tb_l_x _ | with_reducible exact tb_l_o0 _ | with_reducible exact tb_l_o1 _ | with_reducible exact tb_l_va _ | with_reducible exact tb_l_ll _ | with_reducible exact tb_l_cf _ | with_reducible exact tb_l_kf _ | with_reducible exact sp_ts_lt _ _ _ _ | with_reducible exact sp_w_lt _ _ | with_reducible exact sp_cs_lt _ _ _ _ _ | with_reducible exact sp_cb_lt _ _ _ _ _ | with_reducible exact sp_ch_lt _ | with_reducible exact sp_bf_lt _ _ | with_reducible exact sp_va_lt _ _ _ | with_reducible exact sp_be_lt _ _ | with_reducible exact sp_p_lt _ _ _ | with_reducible exact sp_com_lt _ _ _ _ | with_reducible exact sp_fo_lt _ _ _ _ _ | omega) (by decide) (by decide) ?_
        refine en_eq rfl (show _ = [.int (nI 1), .int (nI j), .int (nI 0), .ref 47] from rfl) rfl ?_
        refine ew_iconst (v := nI 4) d_Mo_opens_30 (by decide) ?_
        refine en_imul d_Mo_opens_31 ?_
        refine en_eq rfl (show _ = [.int (nI 4), .int (nI j), .int (nI 0), .ref 47] from rfl) rfl ?_
        refine en_iadd d_Mo_opens_32 ?_
        refine ew_iload d_Mo_opens_33 rfl ?_
        refine ew_iconst (v := nI 2) d_Mo_opens_35 (by decide) ?_
        refine en_idiv d_Mo_opens_36 (by first | with_reducible assumption | with_reducible exact ep_lt _ | with_reducible exact sp_its_lt _ _ _ | with_reducible exact tb_l_rt _ | with_reducible exact tb_l_x _ | with_reducible exact tb_l_o0 _ | with_reducible exact tb_l_o1 _ | with_reducible exact tb_l_va _ | with_reducible exact tb_l_ll _ | with_reducible exact tb_l_cf _ | with_reducible exact tb_l_kf _ | with_reducible exact sp_ts_lt _ _ _ _ | with_reducible exact sp_w_lt _ _ | with_reducible exact sp_cs_lt _ _ _ _ _ | with_reducible exact sp_cb_lt _ _ _ _ _ | with_reducible exact sp_ch_lt _ | with_reducible exact sp_bf_lt _ _ | with_reducible exact sp_va_lt _ _ _ | with_reducible exact sp_be_lt _ _ | with_reducible exact sp_p_lt _ _ _ | with_reducible exact sp_com_lt _ _ _ _ | with_reducible exact sp_fo_lt _ _ _ _ _ | omega) (by decide) (by decide) ?_
        refine en_eq rfl (show _ = [.int (nI 1), .int (nI (j + 4)), .int (nI 0), .ref 47] from rfl) rfl ?_
        refine ew_bipush (v := nI 16) d_Mo_opens_37 (by decide) ?_
        refine en_imul d_Mo_opens_39 ?_
        refine en_eq rfl (show _ = [.int (nI 16), .int (nI (j + 4)), .int (nI 0), .ref 47] from rfl) rfl ?_
        refine en_iadd d_Mo_opens_40 ?_
        refine ew_bipush (v := nI 32) d_Mo_opens_41 (by decide) ?_
        refine en_irem d_Mo_opens_43 (by omega) (by decide) (by decide) ?_
        refine en_eq (st' := [.int (nI ((j + 20) % 32)), .int (nI 0), .ref 47]) rfl (by rw [show (nI (((j + 4) + 16) % 32)) = (nI ((j + 20) % 32)) from congrArg nI (by omega)]) rfl ?_
        refine ew_aload_n d_Mo_opens_44 rfl ?_
        refine ew_getr (ci := 9) (f := 10) d_Mo_opens_45 rfl rfl rfl tw_602 ?_
        refine ew_iload d_Mo_opens_48 rfl ?_
        refine ew_iald (j := 26) d_Mo_opens_50 rfl (rfl) (by decide) (by decide) ?_
        refine ew_aload_n d_Mo_opens_51 rfl ?_
        refine ew_getr (ci := 9) (f := 10) d_Mo_opens_52 rfl rfl rfl tw_602 ?_
        refine ew_iload d_Mo_opens_55 rfl ?_
        refine ew_iconst (v := nI 1) d_Mo_opens_57 (by decide) ?_
        refine en_iadd d_Mo_opens_58 ?_
        refine en_eq rfl (show _ = [.int (nI 27), .ref 56, .int (M 56 26), .int (nI ((j + 20) % 32)), .int (nI 0), .ref 47] from rfl) rfl ?_
        refine ew_iald (j := 27) d_Mo_opens_59 rfl (rfl) (by decide) (by decide) ?_
        refine en_callS (As := [.int (M 56 26), .int (M 56 27)]) (st := [.int (nI ((j + 20) % 32)), .int (nI 0), .ref 47]) (st1 := [.int (sp_mix (M 56 26) (M 56 27)), .int (nI ((j + 20) % 32)), .int (nI 0), .ref 47]) d_Mo_opens_60 k_Mo_mix tw_752 tw_753 rfl (Nat.le_of_ble_eq_true rfl) rfl (Nat.le_of_ble_eq_true rfl) rfl rfl (c_Mo_mix l g _ (ew_SH L) M (M 56 26) (M 56 27)) rfl ?_
        refine ew_iload d_Mo_opens_63 rfl ?_
        refine ew_iconst (v := nI 2) d_Mo_opens_65 (by decide) ?_
        refine en_iadd d_Mo_opens_66 ?_
        refine en_eq rfl (show _ = [.int (nI 28), .int (sp_mix (M 56 26) (M 56 27)), .int (nI ((j + 20) % 32)), .int (nI 0), .ref 47] from rfl) rfl ?_
        refine en_callV (As := [.int (nI 0), .int (nI ((j + 20) % 32)), .int (sp_mix (M 56 26) (M 56 27)), .int (nI 28)]) (i := 47) (ci := 9) (st := []) (st1 := [.int (ew_b (decide (sp_ro (M 56) 6 (sp_mix (M 56 26) (M 56 27)) (32 + ((j + 20) % 32)) 28 = M 56 0)))]) d_Mo_opens_67 k_Mo_leads rfl rfl tw_830 tw_832 tp_49 rfl (Nat.le_of_ble_eq_true rfl) rfl (Nat.le_of_ble_eq_true rfl) rfl rfl (c_Mo_leads0 l g _ L M ((j + 20) % 32) 28 (sp_mix (M 56 26) (M 56 27)) (by omega) (by decide)) rfl ?_
        refine en_b_eq (tgt := 77) d_Mo_opens_70 (by decide) (fun h70_3 => ?_) (fun h70_3 => ?_)
        · refine ew_iconst (v := nI 0) d_Mo_opens_77 (by decide) ?_
          refine en_istore_n (ls' := [.ref 47, .int (nI 0), .int (nI j), .int (nI 0), .int (nI 3), .int (nI 26)]) d_Mo_opens_78 (Nat.le_of_ble_eq_true rfl) rfl ?_
          refine en_inc (ls' := [.ref 47, .int (nI 0), .int (nI j), .int (nI 0), .int (nI 4), .int (nI 26)]) d_Mo_opens_79 rfl rfl ?_
          refine ew_goto (tgt := 5) d_Mo_opens_82 (by decide) ?_
          refine ew_iload d_Mo_opens_5 rfl ?_
          refine ew_iconst (v := nI 4) d_Mo_opens_7 (by decide) ?_
          refine en_icmp_ge (tgt := 85) d_Mo_opens_8 (by decide) (by decide) (by decide) (fun h8_4 => ?_) (fun h8_4 => by exact absurd h8_4 (by decide))
          refine ew_iload_n d_Mo_opens_85 rfl ?_
          exact ew_zret d_Mo_opens_86 rfl (by decide) (⟨by rw [show sp_vc0 (M 56) j = false from by (unfold sp_vc0; simp only [h70_3, Bool.false_and, Bool.and_false])]; rfl, rfl, rfl⟩)
        · refine ew_iconst (v := nI 1) d_Mo_opens_73 (by decide) ?_
          refine ew_goto (tgt := 78) d_Mo_opens_74 (by decide) ?_
          refine en_istore_n (ls' := [.ref 47, .int (nI 0), .int (nI j), .int (nI 1), .int (nI 3), .int (nI 26)]) d_Mo_opens_78 (Nat.le_of_ble_eq_true rfl) rfl ?_
          refine en_inc (ls' := [.ref 47, .int (nI 0), .int (nI j), .int (nI 1), .int (nI 4), .int (nI 26)]) d_Mo_opens_79 rfl rfl ?_
          refine ew_goto (tgt := 5) d_Mo_opens_82 (by decide) ?_
          refine ew_iload d_Mo_opens_5 rfl ?_
          refine ew_iconst (v := nI 4) d_Mo_opens_7 (by decide) ?_
          refine en_icmp_ge (tgt := 85) d_Mo_opens_8 (by decide) (by decide) (by decide) (fun h8_4 => ?_) (fun h8_4 => by exact absurd h8_4 (by decide))
          refine ew_iload_n d_Mo_opens_85 rfl ?_
          exact ew_zret d_Mo_opens_86 rfl (by decide) (⟨by rw [show sp_vc0 (M 56) j = true from by (unfold sp_vc0; simp only [h70, h70_1, h70_2, h70_3, Bool.and_self])]; rfl, rfl, rfl⟩)
set_option maxRecDepth 100000 in
theorem c_Mo_opensLayer00 (l : Launch) (g : ew_G) (d L : Nat) (M : ew_M) (j : Nat) (hj : j < 16) :
    Ew l g (d + 2) 0 0 m_Mo_opensLayer 0 [.ref 47, .int (nI 0), .int (nI j), .int (nI 0), .retAddr 0, .retAddr 0, .retAddr 0, .retAddr 0] [] (ew_SH L) M (ew_q (some (.int (ew_b (sp_vl00 (M 56) j)))) (ew_SH L) M) := by
  refine ew_iconst (v := nI 1) d_Mo_opensLayer_0 (by decide) ?_
  refine en_istore (ls' := [.ref 47, .int (nI 0), .int (nI j), .int (nI 0), .int (nI 1), .retAddr 0, .retAddr 0, .retAddr 0]) d_Mo_opensLayer_1 (Nat.le_of_ble_eq_true rfl) rfl ?_
  refine ew_bipush (v := nI 16) d_Mo_opensLayer_3 (by decide) ?_
  refine ew_iload_n d_Mo_opensLayer_5 rfl ?_
  refine ew_ishr d_Mo_opensLayer_6 ?_
  refine en_eq (st' := [.int (nI 16)]) rfl (by rw [show ((nI 16) >>> ((nI 0) &&& 31)) = (nI 16) from by decide]) rfl ?_
  refine en_istore (ls' := [.ref 47, .int (nI 0), .int (nI j), .int (nI 0), .int (nI 1), .int (nI 16), .retAddr 0, .retAddr 0]) d_Mo_opensLayer_7 (Nat.le_of_ble_eq_true rfl) rfl ?_
  refine ew_iconst (v := nI 0) d_Mo_opensLayer_9 (by decide) ?_
  refine en_istore (ls' := [.ref 47, .int (nI 0), .int (nI j), .int (nI 0), .int (nI 1), .int (nI 16), .int (nI 0), .retAddr 0]) d_Mo_opensLayer_10 (Nat.le_of_ble_eq_true rfl) rfl ?_
  refine ew_iload d_Mo_opensLayer_12 rfl ?_
  refine ew_iconst (v := nI 2) d_Mo_opensLayer_14 (by decide) ?_
  refine en_icmp_ge (tgt := 87) d_Mo_opensLayer_15 (by decide) (by decide) (by decide) (fun h15 => by exact absurd h15 (by decide)) (fun h15 => ?_)
  refine ew_iload_n d_Mo_opensLayer_18 rfl ?_
  refine ew_iconst (v := nI 4) d_Mo_opensLayer_19 (by decide) ?_
  refine ew_iconst (v := nI 2) d_Mo_opensLayer_20 (by decide) ?_
  refine ew_iload_n d_Mo_opensLayer_21 rfl ?_
  refine en_imul d_Mo_opensLayer_22 ?_
  refine en_eq rfl (show _ = [.int (nI 0), .int (nI 4), .int (nI 0)] from rfl) rfl ?_
  refine en_iadd d_Mo_opensLayer_23 ?_
  refine en_eq rfl (show _ = [.int (nI 4), .int (nI 0)] from rfl) rfl ?_
  refine ew_iload d_Mo_opensLayer_24 rfl ?_
  refine en_iadd d_Mo_opensLayer_26 ?_
  refine en_eq rfl (show _ = [.int (nI 4), .int (nI 0)] from rfl) rfl ?_
  refine en_callS (As := [.int (nI 0), .int (nI 4)]) (st := []) (st1 := [.int (nI 33)]) d_Mo_opensLayer_27 k_Mo_placeOf tw_819 tw_820 rfl (Nat.le_of_ble_eq_true rfl) rfl (Nat.le_of_ble_eq_true rfl) rfl rfl (c_Mo_placeOf_0_4 l g _ L M) rfl ?_
  refine en_istore (ls' := [.ref 47, .int (nI 0), .int (nI j), .int (nI 0), .int (nI 1), .int (nI 16), .int (nI 0), .int (nI 33)]) d_Mo_opensLayer_30 (Nat.le_of_ble_eq_true rfl) rfl ?_
  refine ew_iload d_Mo_opensLayer_32 rfl ?_
  refine en_if_eq (tgt := 78) d_Mo_opensLayer_34 (by decide) (by decide) (fun h34 => by exact absurd h34 (by decide)) (fun h34 => ?_)
  refine ew_aload_n d_Mo_opensLayer_37 rfl ?_
  refine ew_iload_n d_Mo_opensLayer_38 rfl ?_
  refine ew_iconst (v := nI 1) d_Mo_opensLayer_39 (by decide) ?_
  refine en_iadd d_Mo_opensLayer_40 ?_
  refine en_eq rfl (show _ = [.int (nI 1), .ref 47] from rfl) rfl ?_
  refine ew_iload_n d_Mo_opensLayer_41 rfl ?_
  refine ew_iload d_Mo_opensLayer_42 rfl ?_
  refine en_irem d_Mo_opensLayer_44 (by omega) (by decide) (by decide) ?_
  refine ew_iload d_Mo_opensLayer_45 rfl ?_
  refine ew_iload d_Mo_opensLayer_47 rfl ?_
  refine en_imul d_Mo_opensLayer_49 ?_
  refine en_eq rfl (show _ = [.int (nI 0), .int (nI (j % 16)), .int (nI 1), .ref 47] from rfl) rfl ?_
  refine en_iadd d_Mo_opensLayer_50 ?_
  refine en_eq (st' := [.int (nI (j % 16 + 16 * 0)), .int (nI 1), .ref 47]) rfl (by rw [show (nI ((j % 16) + 0)) = (nI (j % 16 + 16 * 0)) from rfl]) rfl ?_
  refine ew_aload_n d_Mo_opensLayer_51 rfl ?_
  refine ew_getr (ci := 9) (f := 10) d_Mo_opensLayer_52 rfl rfl rfl tw_602 ?_
  refine ew_iload d_Mo_opensLayer_55 rfl ?_
  refine ew_iald (j := 33) d_Mo_opensLayer_57 rfl (rfl) (by decide) (by decide) ?_
  refine ew_sipush (v := nI 12289) d_Mo_opensLayer_58 (by decide) ?_
  refine en_callS (As := [.int (M 56 33), .int (nI 12289)]) (st := [.int (nI (j % 16 + 16 * 0)), .int (nI 1), .ref 47]) (st1 := [.int (sp_mix (M 56 33) (nI 12289)), .int (nI (j % 16 + 16 * 0)), .int (nI 1), .ref 47]) d_Mo_opensLayer_61 k_Mo_mix tw_752 tw_753 rfl (Nat.le_of_ble_eq_true rfl) rfl (Nat.le_of_ble_eq_true rfl) rfl rfl (c_Mo_mix l g _ (ew_SH L) M (M 56 33) (nI 12289)) rfl ?_
  refine ew_iload d_Mo_opensLayer_64 rfl ?_
  refine ew_iconst (v := nI 1) d_Mo_opensLayer_66 (by decide) ?_
  refine en_iadd d_Mo_opensLayer_67 ?_
  refine en_eq rfl (show _ = [.int (nI 34), .int (sp_mix (M 56 33) (nI 12289)), .int (nI (j % 16 + 16 * 0)), .int (nI 1), .ref 47] from rfl) rfl ?_
  refine en_callV (As := [.int (nI 1), .int (nI (j % 16 + 16 * 0)), .int (sp_mix (M 56 33) (nI 12289)), .int (nI 34)]) (i := 47) (ci := 9) (st := []) (st1 := [.int (ew_b (decide (sp_ro (M 56) 6 (sp_mix (M 56 33) (nI 12289)) (32 + (j % 16 + 16 * 0)) 34 = M 56 1)))]) d_Mo_opensLayer_68 k_Mo_leads rfl rfl tw_830 tw_832 tp_49 rfl (Nat.le_of_ble_eq_true rfl) rfl (Nat.le_of_ble_eq_true rfl) rfl rfl (c_Mo_leads1 l g _ L M (j % 16 + 16 * 0) 34 (sp_mix (M 56 33) (nI 12289)) (by omega) (by decide)) rfl ?_
  refine en_b_eq (tgt := 78) d_Mo_opensLayer_71 (by decide) (fun h71 => ?_) (fun h71 => ?_)
  · refine ew_iconst (v := nI 0) d_Mo_opensLayer_78 (by decide) ?_
    refine en_istore (ls' := [.ref 47, .int (nI 0), .int (nI j), .int (nI 0), .int (nI 0), .int (nI 16), .int (nI 0), .int (nI 33)]) d_Mo_opensLayer_79 (Nat.le_of_ble_eq_true rfl) rfl ?_
    refine en_inc (ls' := [.ref 47, .int (nI 0), .int (nI j), .int (nI 0), .int (nI 0), .int (nI 16), .int (nI 1), .int (nI 33)]) d_Mo_opensLayer_81 rfl rfl ?_
    refine ew_goto (tgt := 12) d_Mo_opensLayer_84 (by decide) ?_
    refine ew_iload d_Mo_opensLayer_12 rfl ?_
    refine ew_iconst (v := nI 2) d_Mo_opensLayer_14 (by decide) ?_
    refine en_icmp_ge (tgt := 87) d_Mo_opensLayer_15 (by decide) (by decide) (by decide) (fun h15_1 => by exact absurd h15_1 (by decide)) (fun h15_1 => ?_)
    refine ew_iload_n d_Mo_opensLayer_18 rfl ?_
    refine ew_iconst (v := nI 4) d_Mo_opensLayer_19 (by decide) ?_
    refine ew_iconst (v := nI 2) d_Mo_opensLayer_20 (by decide) ?_
    refine ew_iload_n d_Mo_opensLayer_21 rfl ?_
    refine en_imul d_Mo_opensLayer_22 ?_
    refine en_eq rfl (show _ = [.int (nI 0), .int (nI 4), .int (nI 0)] from rfl) rfl ?_
    refine en_iadd d_Mo_opensLayer_23 ?_
    refine en_eq rfl (show _ = [.int (nI 4), .int (nI 0)] from rfl) rfl ?_
    refine ew_iload d_Mo_opensLayer_24 rfl ?_
    refine en_iadd d_Mo_opensLayer_26 ?_
    refine en_eq rfl (show _ = [.int (nI 5), .int (nI 0)] from rfl) rfl ?_
    refine en_callS (As := [.int (nI 0), .int (nI 5)]) (st := []) (st1 := [.int (nI 39)]) d_Mo_opensLayer_27 k_Mo_placeOf tw_819 tw_820 rfl (Nat.le_of_ble_eq_true rfl) rfl (Nat.le_of_ble_eq_true rfl) rfl rfl (c_Mo_placeOf_0_5 l g _ L M) rfl ?_
    refine en_istore (ls' := [.ref 47, .int (nI 0), .int (nI j), .int (nI 0), .int (nI 0), .int (nI 16), .int (nI 1), .int (nI 39)]) d_Mo_opensLayer_30 (Nat.le_of_ble_eq_true rfl) rfl ?_
    refine ew_iload d_Mo_opensLayer_32 rfl ?_
    refine en_if_eq (tgt := 78) d_Mo_opensLayer_34 (by decide) (by decide) (fun h34_1 => ?_) (fun h34_1 => by exact absurd h34_1 (by decide))
    refine ew_iconst (v := nI 0) d_Mo_opensLayer_78 (by decide) ?_
    refine en_istore (ls' := [.ref 47, .int (nI 0), .int (nI j), .int (nI 0), .int (nI 0), .int (nI 16), .int (nI 1), .int (nI 39)]) d_Mo_opensLayer_79 (Nat.le_of_ble_eq_true rfl) rfl ?_
    refine en_inc (ls' := [.ref 47, .int (nI 0), .int (nI j), .int (nI 0), .int (nI 0), .int (nI 16), .int (nI 2), .int (nI 39)]) d_Mo_opensLayer_81 rfl rfl ?_
    refine ew_goto (tgt := 12) d_Mo_opensLayer_84 (by decide) ?_
    refine ew_iload d_Mo_opensLayer_12 rfl ?_
    refine ew_iconst (v := nI 2) d_Mo_opensLayer_14 (by decide) ?_
    refine en_icmp_ge (tgt := 87) d_Mo_opensLayer_15 (by decide) (by decide) (by decide) (fun h15_2 => ?_) (fun h15_2 => by exact absurd h15_2 (by decide))
    refine ew_iload d_Mo_opensLayer_87 rfl ?_
    exact ew_zret d_Mo_opensLayer_89 rfl (by decide) (⟨by rw [show sp_vl00 (M 56) j = false from by (unfold sp_vl00; simp only [h71, Bool.false_and, Bool.and_false])]; rfl, rfl, rfl⟩)
  · refine ew_iconst (v := nI 1) d_Mo_opensLayer_74 (by decide) ?_
    refine ew_goto (tgt := 79) d_Mo_opensLayer_75 (by decide) ?_
    refine en_istore (ls' := [.ref 47, .int (nI 0), .int (nI j), .int (nI 0), .int (nI 1), .int (nI 16), .int (nI 0), .int (nI 33)]) d_Mo_opensLayer_79 (Nat.le_of_ble_eq_true rfl) rfl ?_
    refine en_inc (ls' := [.ref 47, .int (nI 0), .int (nI j), .int (nI 0), .int (nI 1), .int (nI 16), .int (nI 1), .int (nI 33)]) d_Mo_opensLayer_81 rfl rfl ?_
    refine ew_goto (tgt := 12) d_Mo_opensLayer_84 (by decide) ?_
    refine ew_iload d_Mo_opensLayer_12 rfl ?_
    refine ew_iconst (v := nI 2) d_Mo_opensLayer_14 (by decide) ?_
    refine en_icmp_ge (tgt := 87) d_Mo_opensLayer_15 (by decide) (by decide) (by decide) (fun h15_1 => by exact absurd h15_1 (by decide)) (fun h15_1 => ?_)
    refine ew_iload_n d_Mo_opensLayer_18 rfl ?_
    refine ew_iconst (v := nI 4) d_Mo_opensLayer_19 (by decide) ?_
    refine ew_iconst (v := nI 2) d_Mo_opensLayer_20 (by decide) ?_
    refine ew_iload_n d_Mo_opensLayer_21 rfl ?_
    refine en_imul d_Mo_opensLayer_22 ?_
    refine en_eq rfl (show _ = [.int (nI 0), .int (nI 4), .int (nI 0)] from rfl) rfl ?_
    refine en_iadd d_Mo_opensLayer_23 ?_
    refine en_eq rfl (show _ = [.int (nI 4), .int (nI 0)] from rfl) rfl ?_
    refine ew_iload d_Mo_opensLayer_24 rfl ?_
    refine en_iadd d_Mo_opensLayer_26 ?_
    refine en_eq rfl (show _ = [.int (nI 5), .int (nI 0)] from rfl) rfl ?_
    refine en_callS (As := [.int (nI 0), .int (nI 5)]) (st := []) (st1 := [.int (nI 39)]) d_Mo_opensLayer_27 k_Mo_placeOf tw_819 tw_820 rfl (Nat.le_of_ble_eq_true rfl) rfl (Nat.le_of_ble_eq_true rfl) rfl rfl (c_Mo_placeOf_0_5 l g _ L M) rfl ?_
    refine en_istore (ls' := [.ref 47, .int (nI 0), .int (nI j), .int (nI 0), .int (nI 1), .int (nI 16), .int (nI 1), .int (nI 39)]) d_Mo_opensLayer_30 (Nat.le_of_ble_eq_true rfl) rfl ?_
    refine ew_iload d_Mo_opensLayer_32 rfl ?_
    refine en_if_eq (tgt := 78) d_Mo_opensLayer_34 (by decide) (by decide) (fun h34_1 => by exact absurd h34_1 (by decide)) (fun h34_1 => ?_)
    refine ew_aload_n d_Mo_opensLayer_37 rfl ?_
    refine ew_iload_n d_Mo_opensLayer_38 rfl ?_
    refine ew_iconst (v := nI 1) d_Mo_opensLayer_39 (by decide) ?_
    refine en_iadd d_Mo_opensLayer_40 ?_
    refine en_eq rfl (show _ = [.int (nI 1), .ref 47] from rfl) rfl ?_
    refine ew_iload_n d_Mo_opensLayer_41 rfl ?_
    refine ew_iload d_Mo_opensLayer_42 rfl ?_
    refine en_irem d_Mo_opensLayer_44 (by omega) (by decide) (by decide) ?_
    refine ew_iload d_Mo_opensLayer_45 rfl ?_
    refine ew_iload d_Mo_opensLayer_47 rfl ?_
    refine en_imul d_Mo_opensLayer_49 ?_
    refine en_eq rfl (show _ = [.int (nI 16), .int (nI (j % 16)), .int (nI 1), .ref 47] from rfl) rfl ?_
    refine en_iadd d_Mo_opensLayer_50 ?_
    refine en_eq (st' := [.int (nI (j % 16 + 16 * 1)), .int (nI 1), .ref 47]) rfl (by rw [show (nI ((j % 16) + 16)) = (nI (j % 16 + 16 * 1)) from rfl]) rfl ?_
    refine ew_aload_n d_Mo_opensLayer_51 rfl ?_
    refine ew_getr (ci := 9) (f := 10) d_Mo_opensLayer_52 rfl rfl rfl tw_602 ?_
    refine ew_iload d_Mo_opensLayer_55 rfl ?_
    refine ew_iald (j := 39) d_Mo_opensLayer_57 rfl (rfl) (by decide) (by decide) ?_
    refine ew_sipush (v := nI 12289) d_Mo_opensLayer_58 (by decide) ?_
    refine en_callS (As := [.int (M 56 39), .int (nI 12289)]) (st := [.int (nI (j % 16 + 16 * 1)), .int (nI 1), .ref 47]) (st1 := [.int (sp_mix (M 56 39) (nI 12289)), .int (nI (j % 16 + 16 * 1)), .int (nI 1), .ref 47]) d_Mo_opensLayer_61 k_Mo_mix tw_752 tw_753 rfl (Nat.le_of_ble_eq_true rfl) rfl (Nat.le_of_ble_eq_true rfl) rfl rfl (c_Mo_mix l g _ (ew_SH L) M (M 56 39) (nI 12289)) rfl ?_
    refine ew_iload d_Mo_opensLayer_64 rfl ?_
    refine ew_iconst (v := nI 1) d_Mo_opensLayer_66 (by decide) ?_
    refine en_iadd d_Mo_opensLayer_67 ?_
    refine en_eq rfl (show _ = [.int (nI 40), .int (sp_mix (M 56 39) (nI 12289)), .int (nI (j % 16 + 16 * 1)), .int (nI 1), .ref 47] from rfl) rfl ?_
    refine en_callV (As := [.int (nI 1), .int (nI (j % 16 + 16 * 1)), .int (sp_mix (M 56 39) (nI 12289)), .int (nI 40)]) (i := 47) (ci := 9) (st := []) (st1 := [.int (ew_b (decide (sp_ro (M 56) 6 (sp_mix (M 56 39) (nI 12289)) (32 + (j % 16 + 16 * 1)) 40 = M 56 1)))]) d_Mo_opensLayer_68 k_Mo_leads rfl rfl tw_830 tw_832 tp_49 rfl (Nat.le_of_ble_eq_true rfl) rfl (Nat.le_of_ble_eq_true rfl) rfl rfl (c_Mo_leads1 l g _ L M (j % 16 + 16 * 1) 40 (sp_mix (M 56 39) (nI 12289)) (by omega) (by decide)) rfl ?_
    refine en_b_eq (tgt := 78) d_Mo_opensLayer_71 (by decide) (fun h71_1 => ?_) (fun h71_1 => ?_)
    · refine ew_iconst (v := nI 0) d_Mo_opensLayer_78 (by decide) ?_
      refine en_istore (ls' := [.ref 47, .int (nI 0), .int (nI j), .int (nI 0), .int (nI 0), .int (nI 16), .int (nI 1), .int (nI 39)]) d_Mo_opensLayer_79 (Nat.le_of_ble_eq_true rfl) rfl ?_
      refine en_inc (ls' := [.ref 47, .int (nI 0), .int (nI j), .int (nI 0), .int (nI 0), .int (nI 16), .int (nI 2), .int (nI 39)]) d_Mo_opensLayer_81 rfl rfl ?_
      refine ew_goto (tgt := 12) d_Mo_opensLayer_84 (by decide) ?_
      refine ew_iload d_Mo_opensLayer_12 rfl ?_
      refine ew_iconst (v := nI 2) d_Mo_opensLayer_14 (by decide) ?_
      refine en_icmp_ge (tgt := 87) d_Mo_opensLayer_15 (by decide) (by decide) (by decide) (fun h15_2 => ?_) (fun h15_2 => by exact absurd h15_2 (by decide))
      refine ew_iload d_Mo_opensLayer_87 rfl ?_
      exact ew_zret d_Mo_opensLayer_89 rfl (by decide) (⟨by rw [show sp_vl00 (M 56) j = false from by (unfold sp_vl00; simp only [h71_1, Bool.false_and, Bool.and_false])]; rfl, rfl, rfl⟩)
    · refine ew_iconst (v := nI 1) d_Mo_opensLayer_74 (by decide) ?_
      refine ew_goto (tgt := 79) d_Mo_opensLayer_75 (by decide) ?_
      refine en_istore (ls' := [.ref 47, .int (nI 0), .int (nI j), .int (nI 0), .int (nI 1), .int (nI 16), .int (nI 1), .int (nI 39)]) d_Mo_opensLayer_79 (Nat.le_of_ble_eq_true rfl) rfl ?_
      refine en_inc (ls' := [.ref 47, .int (nI 0), .int (nI j), .int (nI 0), .int (nI 1), .int (nI 16), .int (nI 2), .int (nI 39)]) d_Mo_opensLayer_81 rfl rfl ?_
      refine ew_goto (tgt := 12) d_Mo_opensLayer_84 (by decide) ?_
      refine ew_iload d_Mo_opensLayer_12 rfl ?_
      refine ew_iconst (v := nI 2) d_Mo_opensLayer_14 (by decide) ?_
      refine en_icmp_ge (tgt := 87) d_Mo_opensLayer_15 (by decide) (by decide) (by decide) (fun h15_2 => ?_) (fun h15_2 => by exact absurd h15_2 (by decide))
      refine ew_iload d_Mo_opensLayer_87 rfl ?_
      exact ew_zret d_Mo_opensLayer_89 rfl (by decide) (⟨by rw [show sp_vl00 (M 56) j = true from by (unfold sp_vl00; simp only [h71, h71_1, Bool.and_self])]; rfl, rfl, rfl⟩)
set_option maxRecDepth 100000 in
theorem c_Mo_opensLayer01 (l : Launch) (g : ew_G) (d L : Nat) (M : ew_M) (j : Nat) (hj : j < 16) :
    Ew l g (d + 2) 0 0 m_Mo_opensLayer 0 [.ref 47, .int (nI 0), .int (nI j), .int (nI 1), .retAddr 0, .retAddr 0, .retAddr 0, .retAddr 0] [] (ew_SH L) M (ew_q (some (.int (ew_b (sp_vl01 (M 56) j)))) (ew_SH L) M) := by
  refine ew_iconst (v := nI 1) d_Mo_opensLayer_0 (by decide) ?_
  refine en_istore (ls' := [.ref 47, .int (nI 0), .int (nI j), .int (nI 1), .int (nI 1), .retAddr 0, .retAddr 0, .retAddr 0]) d_Mo_opensLayer_1 (Nat.le_of_ble_eq_true rfl) rfl ?_
  refine ew_bipush (v := nI 16) d_Mo_opensLayer_3 (by decide) ?_
  refine ew_iload_n d_Mo_opensLayer_5 rfl ?_
  refine ew_ishr d_Mo_opensLayer_6 ?_
  refine en_eq (st' := [.int (nI 8)]) rfl (by rw [show ((nI 16) >>> ((nI 1) &&& 31)) = (nI 8) from by decide]) rfl ?_
  refine en_istore (ls' := [.ref 47, .int (nI 0), .int (nI j), .int (nI 1), .int (nI 1), .int (nI 8), .retAddr 0, .retAddr 0]) d_Mo_opensLayer_7 (Nat.le_of_ble_eq_true rfl) rfl ?_
  refine ew_iconst (v := nI 0) d_Mo_opensLayer_9 (by decide) ?_
  refine en_istore (ls' := [.ref 47, .int (nI 0), .int (nI j), .int (nI 1), .int (nI 1), .int (nI 8), .int (nI 0), .retAddr 0]) d_Mo_opensLayer_10 (Nat.le_of_ble_eq_true rfl) rfl ?_
  refine ew_iload d_Mo_opensLayer_12 rfl ?_
  refine ew_iconst (v := nI 2) d_Mo_opensLayer_14 (by decide) ?_
  refine en_icmp_ge (tgt := 87) d_Mo_opensLayer_15 (by decide) (by decide) (by decide) (fun h15 => by exact absurd h15 (by decide)) (fun h15 => ?_)
  refine ew_iload_n d_Mo_opensLayer_18 rfl ?_
  refine ew_iconst (v := nI 4) d_Mo_opensLayer_19 (by decide) ?_
  refine ew_iconst (v := nI 2) d_Mo_opensLayer_20 (by decide) ?_
  refine ew_iload_n d_Mo_opensLayer_21 rfl ?_
  refine en_imul d_Mo_opensLayer_22 ?_
  refine en_eq rfl (show _ = [.int (nI 2), .int (nI 4), .int (nI 0)] from rfl) rfl ?_
  refine en_iadd d_Mo_opensLayer_23 ?_
  refine en_eq rfl (show _ = [.int (nI 6), .int (nI 0)] from rfl) rfl ?_
  refine ew_iload d_Mo_opensLayer_24 rfl ?_
  refine en_iadd d_Mo_opensLayer_26 ?_
  refine en_eq rfl (show _ = [.int (nI 6), .int (nI 0)] from rfl) rfl ?_
  refine en_callS (As := [.int (nI 0), .int (nI 6)]) (st := []) (st1 := [.int (nI 45)]) d_Mo_opensLayer_27 k_Mo_placeOf tw_819 tw_820 rfl (Nat.le_of_ble_eq_true rfl) rfl (Nat.le_of_ble_eq_true rfl) rfl rfl (c_Mo_placeOf_0_6 l g _ L M) rfl ?_
  refine en_istore (ls' := [.ref 47, .int (nI 0), .int (nI j), .int (nI 1), .int (nI 1), .int (nI 8), .int (nI 0), .int (nI 45)]) d_Mo_opensLayer_30 (Nat.le_of_ble_eq_true rfl) rfl ?_
  refine ew_iload d_Mo_opensLayer_32 rfl ?_
  refine en_if_eq (tgt := 78) d_Mo_opensLayer_34 (by decide) (by decide) (fun h34 => by exact absurd h34 (by decide)) (fun h34 => ?_)
  refine ew_aload_n d_Mo_opensLayer_37 rfl ?_
  refine ew_iload_n d_Mo_opensLayer_38 rfl ?_
  refine ew_iconst (v := nI 1) d_Mo_opensLayer_39 (by decide) ?_
  refine en_iadd d_Mo_opensLayer_40 ?_
  refine en_eq rfl (show _ = [.int (nI 2), .ref 47] from rfl) rfl ?_
  refine ew_iload_n d_Mo_opensLayer_41 rfl ?_
  refine ew_iload d_Mo_opensLayer_42 rfl ?_
  refine en_irem d_Mo_opensLayer_44 (by omega) (by decide) (by decide) ?_
  refine ew_iload d_Mo_opensLayer_45 rfl ?_
  refine ew_iload d_Mo_opensLayer_47 rfl ?_
  refine en_imul d_Mo_opensLayer_49 ?_
  refine en_eq rfl (show _ = [.int (nI 0), .int (nI (j % 8)), .int (nI 2), .ref 47] from rfl) rfl ?_
  refine en_iadd d_Mo_opensLayer_50 ?_
  refine en_eq (st' := [.int (nI (j % 8 + 8 * 0)), .int (nI 2), .ref 47]) rfl (by rw [show (nI ((j % 8) + 0)) = (nI (j % 8 + 8 * 0)) from rfl]) rfl ?_
  refine ew_aload_n d_Mo_opensLayer_51 rfl ?_
  refine ew_getr (ci := 9) (f := 10) d_Mo_opensLayer_52 rfl rfl rfl tw_602 ?_
  refine ew_iload d_Mo_opensLayer_55 rfl ?_
  refine ew_iald (j := 45) d_Mo_opensLayer_57 rfl (rfl) (by decide) (by decide) ?_
  refine ew_sipush (v := nI 12289) d_Mo_opensLayer_58 (by decide) ?_
  refine en_callS (As := [.int (M 56 45), .int (nI 12289)]) (st := [.int (nI (j % 8 + 8 * 0)), .int (nI 2), .ref 47]) (st1 := [.int (sp_mix (M 56 45) (nI 12289)), .int (nI (j % 8 + 8 * 0)), .int (nI 2), .ref 47]) d_Mo_opensLayer_61 k_Mo_mix tw_752 tw_753 rfl (Nat.le_of_ble_eq_true rfl) rfl (Nat.le_of_ble_eq_true rfl) rfl rfl (c_Mo_mix l g _ (ew_SH L) M (M 56 45) (nI 12289)) rfl ?_
  refine ew_iload d_Mo_opensLayer_64 rfl ?_
  refine ew_iconst (v := nI 1) d_Mo_opensLayer_66 (by decide) ?_
  refine en_iadd d_Mo_opensLayer_67 ?_
  refine en_eq rfl (show _ = [.int (nI 46), .int (sp_mix (M 56 45) (nI 12289)), .int (nI (j % 8 + 8 * 0)), .int (nI 2), .ref 47] from rfl) rfl ?_
  refine en_callV (As := [.int (nI 2), .int (nI (j % 8 + 8 * 0)), .int (sp_mix (M 56 45) (nI 12289)), .int (nI 46)]) (i := 47) (ci := 9) (st := []) (st1 := [.int (ew_b (decide (sp_ro (M 56) 6 (sp_mix (M 56 45) (nI 12289)) (16 + (j % 8 + 8 * 0)) 46 = M 56 2)))]) d_Mo_opensLayer_68 k_Mo_leads rfl rfl tw_830 tw_832 tp_49 rfl (Nat.le_of_ble_eq_true rfl) rfl (Nat.le_of_ble_eq_true rfl) rfl rfl (c_Mo_leads2 l g _ L M (j % 8 + 8 * 0) 46 (sp_mix (M 56 45) (nI 12289)) (by omega) (by decide)) rfl ?_
  refine en_b_eq (tgt := 78) d_Mo_opensLayer_71 (by decide) (fun h71 => ?_) (fun h71 => ?_)
  · refine ew_iconst (v := nI 0) d_Mo_opensLayer_78 (by decide) ?_
    refine en_istore (ls' := [.ref 47, .int (nI 0), .int (nI j), .int (nI 1), .int (nI 0), .int (nI 8), .int (nI 0), .int (nI 45)]) d_Mo_opensLayer_79 (Nat.le_of_ble_eq_true rfl) rfl ?_
    refine en_inc (ls' := [.ref 47, .int (nI 0), .int (nI j), .int (nI 1), .int (nI 0), .int (nI 8), .int (nI 1), .int (nI 45)]) d_Mo_opensLayer_81 rfl rfl ?_
    refine ew_goto (tgt := 12) d_Mo_opensLayer_84 (by decide) ?_
    refine ew_iload d_Mo_opensLayer_12 rfl ?_
    refine ew_iconst (v := nI 2) d_Mo_opensLayer_14 (by decide) ?_
    refine en_icmp_ge (tgt := 87) d_Mo_opensLayer_15 (by decide) (by decide) (by decide) (fun h15_1 => by exact absurd h15_1 (by decide)) (fun h15_1 => ?_)
    refine ew_iload_n d_Mo_opensLayer_18 rfl ?_
    refine ew_iconst (v := nI 4) d_Mo_opensLayer_19 (by decide) ?_
    refine ew_iconst (v := nI 2) d_Mo_opensLayer_20 (by decide) ?_
    refine ew_iload_n d_Mo_opensLayer_21 rfl ?_
    refine en_imul d_Mo_opensLayer_22 ?_
    refine en_eq rfl (show _ = [.int (nI 2), .int (nI 4), .int (nI 0)] from rfl) rfl ?_
    refine en_iadd d_Mo_opensLayer_23 ?_
    refine en_eq rfl (show _ = [.int (nI 6), .int (nI 0)] from rfl) rfl ?_
    refine ew_iload d_Mo_opensLayer_24 rfl ?_
    refine en_iadd d_Mo_opensLayer_26 ?_
    refine en_eq rfl (show _ = [.int (nI 7), .int (nI 0)] from rfl) rfl ?_
    refine en_callS (As := [.int (nI 0), .int (nI 7)]) (st := []) (st1 := [.int (nI 50)]) d_Mo_opensLayer_27 k_Mo_placeOf tw_819 tw_820 rfl (Nat.le_of_ble_eq_true rfl) rfl (Nat.le_of_ble_eq_true rfl) rfl rfl (c_Mo_placeOf_0_7 l g _ L M) rfl ?_
    refine en_istore (ls' := [.ref 47, .int (nI 0), .int (nI j), .int (nI 1), .int (nI 0), .int (nI 8), .int (nI 1), .int (nI 50)]) d_Mo_opensLayer_30 (Nat.le_of_ble_eq_true rfl) rfl ?_
    refine ew_iload d_Mo_opensLayer_32 rfl ?_
    refine en_if_eq (tgt := 78) d_Mo_opensLayer_34 (by decide) (by decide) (fun h34_1 => ?_) (fun h34_1 => by exact absurd h34_1 (by decide))
    refine ew_iconst (v := nI 0) d_Mo_opensLayer_78 (by decide) ?_
    refine en_istore (ls' := [.ref 47, .int (nI 0), .int (nI j), .int (nI 1), .int (nI 0), .int (nI 8), .int (nI 1), .int (nI 50)]) d_Mo_opensLayer_79 (Nat.le_of_ble_eq_true rfl) rfl ?_
    refine en_inc (ls' := [.ref 47, .int (nI 0), .int (nI j), .int (nI 1), .int (nI 0), .int (nI 8), .int (nI 2), .int (nI 50)]) d_Mo_opensLayer_81 rfl rfl ?_
    refine ew_goto (tgt := 12) d_Mo_opensLayer_84 (by decide) ?_
    refine ew_iload d_Mo_opensLayer_12 rfl ?_
    refine ew_iconst (v := nI 2) d_Mo_opensLayer_14 (by decide) ?_
    refine en_icmp_ge (tgt := 87) d_Mo_opensLayer_15 (by decide) (by decide) (by decide) (fun h15_2 => ?_) (fun h15_2 => by exact absurd h15_2 (by decide))
    refine ew_iload d_Mo_opensLayer_87 rfl ?_
    exact ew_zret d_Mo_opensLayer_89 rfl (by decide) (⟨by rw [show sp_vl01 (M 56) j = false from by (unfold sp_vl01; simp only [h71, Bool.false_and, Bool.and_false])]; rfl, rfl, rfl⟩)
  · refine ew_iconst (v := nI 1) d_Mo_opensLayer_74 (by decide) ?_
    refine ew_goto (tgt := 79) d_Mo_opensLayer_75 (by decide) ?_
    refine en_istore (ls' := [.ref 47, .int (nI 0), .int (nI j), .int (nI 1), .int (nI 1), .int (nI 8), .int (nI 0), .int (nI 45)]) d_Mo_opensLayer_79 (Nat.le_of_ble_eq_true rfl) rfl ?_
    refine en_inc (ls' := [.ref 47, .int (nI 0), .int (nI j), .int (nI 1), .int (nI 1), .int (nI 8), .int (nI 1), .int (nI 45)]) d_Mo_opensLayer_81 rfl rfl ?_
    refine ew_goto (tgt := 12) d_Mo_opensLayer_84 (by decide) ?_
    refine ew_iload d_Mo_opensLayer_12 rfl ?_
    refine ew_iconst (v := nI 2) d_Mo_opensLayer_14 (by decide) ?_
    refine en_icmp_ge (tgt := 87) d_Mo_opensLayer_15 (by decide) (by decide) (by decide) (fun h15_1 => by exact absurd h15_1 (by decide)) (fun h15_1 => ?_)
    refine ew_iload_n d_Mo_opensLayer_18 rfl ?_
    refine ew_iconst (v := nI 4) d_Mo_opensLayer_19 (by decide) ?_
    refine ew_iconst (v := nI 2) d_Mo_opensLayer_20 (by decide) ?_
    refine ew_iload_n d_Mo_opensLayer_21 rfl ?_
    refine en_imul d_Mo_opensLayer_22 ?_
    refine en_eq rfl (show _ = [.int (nI 2), .int (nI 4), .int (nI 0)] from rfl) rfl ?_
    refine en_iadd d_Mo_opensLayer_23 ?_
    refine en_eq rfl (show _ = [.int (nI 6), .int (nI 0)] from rfl) rfl ?_
    refine ew_iload d_Mo_opensLayer_24 rfl ?_
    refine en_iadd d_Mo_opensLayer_26 ?_
    refine en_eq rfl (show _ = [.int (nI 7), .int (nI 0)] from rfl) rfl ?_
    refine en_callS (As := [.int (nI 0), .int (nI 7)]) (st := []) (st1 := [.int (nI 50)]) d_Mo_opensLayer_27 k_Mo_placeOf tw_819 tw_820 rfl (Nat.le_of_ble_eq_true rfl) rfl (Nat.le_of_ble_eq_true rfl) rfl rfl (c_Mo_placeOf_0_7 l g _ L M) rfl ?_
    refine en_istore (ls' := [.ref 47, .int (nI 0), .int (nI j), .int (nI 1), .int (nI 1), .int (nI 8), .int (nI 1), .int (nI 50)]) d_Mo_opensLayer_30 (Nat.le_of_ble_eq_true rfl) rfl ?_
    refine ew_iload d_Mo_opensLayer_32 rfl ?_
    refine en_if_eq (tgt := 78) d_Mo_opensLayer_34 (by decide) (by decide) (fun h34_1 => by exact absurd h34_1 (by decide)) (fun h34_1 => ?_)
    refine ew_aload_n d_Mo_opensLayer_37 rfl ?_
    refine ew_iload_n d_Mo_opensLayer_38 rfl ?_
    refine ew_iconst (v := nI 1) d_Mo_opensLayer_39 (by decide) ?_
    refine en_iadd d_Mo_opensLayer_40 ?_
    refine en_eq rfl (show _ = [.int (nI 2), .ref 47] from rfl) rfl ?_
    refine ew_iload_n d_Mo_opensLayer_41 rfl ?_
    refine ew_iload d_Mo_opensLayer_42 rfl ?_
    refine en_irem d_Mo_opensLayer_44 (by omega) (by decide) (by decide) ?_
    refine ew_iload d_Mo_opensLayer_45 rfl ?_
    refine ew_iload d_Mo_opensLayer_47 rfl ?_
    refine en_imul d_Mo_opensLayer_49 ?_
    refine en_eq rfl (show _ = [.int (nI 8), .int (nI (j % 8)), .int (nI 2), .ref 47] from rfl) rfl ?_
    refine en_iadd d_Mo_opensLayer_50 ?_
    refine en_eq (st' := [.int (nI (j % 8 + 8 * 1)), .int (nI 2), .ref 47]) rfl (by rw [show (nI ((j % 8) + 8)) = (nI (j % 8 + 8 * 1)) from rfl]) rfl ?_
    refine ew_aload_n d_Mo_opensLayer_51 rfl ?_
    refine ew_getr (ci := 9) (f := 10) d_Mo_opensLayer_52 rfl rfl rfl tw_602 ?_
    refine ew_iload d_Mo_opensLayer_55 rfl ?_
    refine ew_iald (j := 50) d_Mo_opensLayer_57 rfl (rfl) (by decide) (by decide) ?_
    refine ew_sipush (v := nI 12289) d_Mo_opensLayer_58 (by decide) ?_
    refine en_callS (As := [.int (M 56 50), .int (nI 12289)]) (st := [.int (nI (j % 8 + 8 * 1)), .int (nI 2), .ref 47]) (st1 := [.int (sp_mix (M 56 50) (nI 12289)), .int (nI (j % 8 + 8 * 1)), .int (nI 2), .ref 47]) d_Mo_opensLayer_61 k_Mo_mix tw_752 tw_753 rfl (Nat.le_of_ble_eq_true rfl) rfl (Nat.le_of_ble_eq_true rfl) rfl rfl (c_Mo_mix l g _ (ew_SH L) M (M 56 50) (nI 12289)) rfl ?_
    refine ew_iload d_Mo_opensLayer_64 rfl ?_
    refine ew_iconst (v := nI 1) d_Mo_opensLayer_66 (by decide) ?_
    refine en_iadd d_Mo_opensLayer_67 ?_
    refine en_eq rfl (show _ = [.int (nI 51), .int (sp_mix (M 56 50) (nI 12289)), .int (nI (j % 8 + 8 * 1)), .int (nI 2), .ref 47] from rfl) rfl ?_
    refine en_callV (As := [.int (nI 2), .int (nI (j % 8 + 8 * 1)), .int (sp_mix (M 56 50) (nI 12289)), .int (nI 51)]) (i := 47) (ci := 9) (st := []) (st1 := [.int (ew_b (decide (sp_ro (M 56) 6 (sp_mix (M 56 50) (nI 12289)) (16 + (j % 8 + 8 * 1)) 51 = M 56 2)))]) d_Mo_opensLayer_68 k_Mo_leads rfl rfl tw_830 tw_832 tp_49 rfl (Nat.le_of_ble_eq_true rfl) rfl (Nat.le_of_ble_eq_true rfl) rfl rfl (c_Mo_leads2 l g _ L M (j % 8 + 8 * 1) 51 (sp_mix (M 56 50) (nI 12289)) (by omega) (by decide)) rfl ?_
    refine en_b_eq (tgt := 78) d_Mo_opensLayer_71 (by decide) (fun h71_1 => ?_) (fun h71_1 => ?_)
    · refine ew_iconst (v := nI 0) d_Mo_opensLayer_78 (by decide) ?_
      refine en_istore (ls' := [.ref 47, .int (nI 0), .int (nI j), .int (nI 1), .int (nI 0), .int (nI 8), .int (nI 1), .int (nI 50)]) d_Mo_opensLayer_79 (Nat.le_of_ble_eq_true rfl) rfl ?_
      refine en_inc (ls' := [.ref 47, .int (nI 0), .int (nI j), .int (nI 1), .int (nI 0), .int (nI 8), .int (nI 2), .int (nI 50)]) d_Mo_opensLayer_81 rfl rfl ?_
      refine ew_goto (tgt := 12) d_Mo_opensLayer_84 (by decide) ?_
      refine ew_iload d_Mo_opensLayer_12 rfl ?_
      refine ew_iconst (v := nI 2) d_Mo_opensLayer_14 (by decide) ?_
      refine en_icmp_ge (tgt := 87) d_Mo_opensLayer_15 (by decide) (by decide) (by decide) (fun h15_2 => ?_) (fun h15_2 => by exact absurd h15_2 (by decide))
      refine ew_iload d_Mo_opensLayer_87 rfl ?_
      exact ew_zret d_Mo_opensLayer_89 rfl (by decide) (⟨by rw [show sp_vl01 (M 56) j = false from by (unfold sp_vl01; simp only [h71_1, Bool.false_and, Bool.and_false])]; rfl, rfl, rfl⟩)
    · refine ew_iconst (v := nI 1) d_Mo_opensLayer_74 (by decide) ?_
      refine ew_goto (tgt := 79) d_Mo_opensLayer_75 (by decide) ?_
      refine en_istore (ls' := [.ref 47, .int (nI 0), .int (nI j), .int (nI 1), .int (nI 1), .int (nI 8), .int (nI 1), .int (nI 50)]) d_Mo_opensLayer_79 (Nat.le_of_ble_eq_true rfl) rfl ?_
      refine en_inc (ls' := [.ref 47, .int (nI 0), .int (nI j), .int (nI 1), .int (nI 1), .int (nI 8), .int (nI 2), .int (nI 50)]) d_Mo_opensLayer_81 rfl rfl ?_
      refine ew_goto (tgt := 12) d_Mo_opensLayer_84 (by decide) ?_
      refine ew_iload d_Mo_opensLayer_12 rfl ?_
      refine ew_iconst (v := nI 2) d_Mo_opensLayer_14 (by decide) ?_
      refine en_icmp_ge (tgt := 87) d_Mo_opensLayer_15 (by decide) (by decide) (by decide) (fun h15_2 => ?_) (fun h15_2 => by exact absurd h15_2 (by decide))
      refine ew_iload d_Mo_opensLayer_87 rfl ?_
      exact ew_zret d_Mo_opensLayer_89 rfl (by decide) (⟨by rw [show sp_vl01 (M 56) j = true from by (unfold sp_vl01; simp only [h71, h71_1, Bool.and_self])]; rfl, rfl, rfl⟩)
set_option maxRecDepth 100000 in
theorem c_Mo_opensLayer02 (l : Launch) (g : ew_G) (d L : Nat) (M : ew_M) (j : Nat) (hj : j < 16) :
    Ew l g (d + 2) 0 0 m_Mo_opensLayer 0 [.ref 47, .int (nI 0), .int (nI j), .int (nI 2), .retAddr 0, .retAddr 0, .retAddr 0, .retAddr 0] [] (ew_SH L) M (ew_q (some (.int (ew_b (sp_vl02 (M 56) j)))) (ew_SH L) M) := by
  refine ew_iconst (v := nI 1) d_Mo_opensLayer_0 (by decide) ?_
  refine en_istore (ls' := [.ref 47, .int (nI 0), .int (nI j), .int (nI 2), .int (nI 1), .retAddr 0, .retAddr 0, .retAddr 0]) d_Mo_opensLayer_1 (Nat.le_of_ble_eq_true rfl) rfl ?_
  refine ew_bipush (v := nI 16) d_Mo_opensLayer_3 (by decide) ?_
  refine ew_iload_n d_Mo_opensLayer_5 rfl ?_
  refine ew_ishr d_Mo_opensLayer_6 ?_
  refine en_eq (st' := [.int (nI 4)]) rfl (by rw [show ((nI 16) >>> ((nI 2) &&& 31)) = (nI 4) from by decide]) rfl ?_
  refine en_istore (ls' := [.ref 47, .int (nI 0), .int (nI j), .int (nI 2), .int (nI 1), .int (nI 4), .retAddr 0, .retAddr 0]) d_Mo_opensLayer_7 (Nat.le_of_ble_eq_true rfl) rfl ?_
  refine ew_iconst (v := nI 0) d_Mo_opensLayer_9 (by decide) ?_
  refine en_istore (ls' := [.ref 47, .int (nI 0), .int (nI j), .int (nI 2), .int (nI 1), .int (nI 4), .int (nI 0), .retAddr 0]) d_Mo_opensLayer_10 (Nat.le_of_ble_eq_true rfl) rfl ?_
  refine ew_iload d_Mo_opensLayer_12 rfl ?_
  refine ew_iconst (v := nI 2) d_Mo_opensLayer_14 (by decide) ?_
  refine en_icmp_ge (tgt := 87) d_Mo_opensLayer_15 (by decide) (by decide) (by decide) (fun h15 => by exact absurd h15 (by decide)) (fun h15 => ?_)
  refine ew_iload_n d_Mo_opensLayer_18 rfl ?_
  refine ew_iconst (v := nI 4) d_Mo_opensLayer_19 (by decide) ?_
  refine ew_iconst (v := nI 2) d_Mo_opensLayer_20 (by decide) ?_
  refine ew_iload_n d_Mo_opensLayer_21 rfl ?_
  refine en_imul d_Mo_opensLayer_22 ?_
  refine en_eq rfl (show _ = [.int (nI 4), .int (nI 4), .int (nI 0)] from rfl) rfl ?_
  refine en_iadd d_Mo_opensLayer_23 ?_
  refine en_eq rfl (show _ = [.int (nI 8), .int (nI 0)] from rfl) rfl ?_
  refine ew_iload d_Mo_opensLayer_24 rfl ?_
  refine en_iadd d_Mo_opensLayer_26 ?_
  refine en_eq rfl (show _ = [.int (nI 8), .int (nI 0)] from rfl) rfl ?_
  refine en_callS (As := [.int (nI 0), .int (nI 8)]) (st := []) (st1 := [.int (nI 55)]) d_Mo_opensLayer_27 k_Mo_placeOf tw_819 tw_820 rfl (Nat.le_of_ble_eq_true rfl) rfl (Nat.le_of_ble_eq_true rfl) rfl rfl (c_Mo_placeOf_0_8 l g _ L M) rfl ?_
  refine en_istore (ls' := [.ref 47, .int (nI 0), .int (nI j), .int (nI 2), .int (nI 1), .int (nI 4), .int (nI 0), .int (nI 55)]) d_Mo_opensLayer_30 (Nat.le_of_ble_eq_true rfl) rfl ?_
  refine ew_iload d_Mo_opensLayer_32 rfl ?_
  refine en_if_eq (tgt := 78) d_Mo_opensLayer_34 (by decide) (by decide) (fun h34 => by exact absurd h34 (by decide)) (fun h34 => ?_)
  refine ew_aload_n d_Mo_opensLayer_37 rfl ?_
  refine ew_iload_n d_Mo_opensLayer_38 rfl ?_
  refine ew_iconst (v := nI 1) d_Mo_opensLayer_39 (by decide) ?_
  refine en_iadd d_Mo_opensLayer_40 ?_
  refine en_eq rfl (show _ = [.int (nI 3), .ref 47] from rfl) rfl ?_
  refine ew_iload_n d_Mo_opensLayer_41 rfl ?_
  refine ew_iload d_Mo_opensLayer_42 rfl ?_
  refine en_irem d_Mo_opensLayer_44 (by omega) (by decide) (by decide) ?_
  refine ew_iload d_Mo_opensLayer_45 rfl ?_
  refine ew_iload d_Mo_opensLayer_47 rfl ?_
  refine en_imul d_Mo_opensLayer_49 ?_
  refine en_eq rfl (show _ = [.int (nI 0), .int (nI (j % 4)), .int (nI 3), .ref 47] from rfl) rfl ?_
  refine en_iadd d_Mo_opensLayer_50 ?_
  refine en_eq (st' := [.int (nI (j % 4 + 4 * 0)), .int (nI 3), .ref 47]) rfl (by rw [show (nI ((j % 4) + 0)) = (nI (j % 4 + 4 * 0)) from rfl]) rfl ?_
  refine ew_aload_n d_Mo_opensLayer_51 rfl ?_
  refine ew_getr (ci := 9) (f := 10) d_Mo_opensLayer_52 rfl rfl rfl tw_602 ?_
  refine ew_iload d_Mo_opensLayer_55 rfl ?_
  refine ew_iald (j := 55) d_Mo_opensLayer_57 rfl (rfl) (by decide) (by decide) ?_
  refine ew_sipush (v := nI 12289) d_Mo_opensLayer_58 (by decide) ?_
  refine en_callS (As := [.int (M 56 55), .int (nI 12289)]) (st := [.int (nI (j % 4 + 4 * 0)), .int (nI 3), .ref 47]) (st1 := [.int (sp_mix (M 56 55) (nI 12289)), .int (nI (j % 4 + 4 * 0)), .int (nI 3), .ref 47]) d_Mo_opensLayer_61 k_Mo_mix tw_752 tw_753 rfl (Nat.le_of_ble_eq_true rfl) rfl (Nat.le_of_ble_eq_true rfl) rfl rfl (c_Mo_mix l g _ (ew_SH L) M (M 56 55) (nI 12289)) rfl ?_
  refine ew_iload d_Mo_opensLayer_64 rfl ?_
  refine ew_iconst (v := nI 1) d_Mo_opensLayer_66 (by decide) ?_
  refine en_iadd d_Mo_opensLayer_67 ?_
  refine en_eq rfl (show _ = [.int (nI 56), .int (sp_mix (M 56 55) (nI 12289)), .int (nI (j % 4 + 4 * 0)), .int (nI 3), .ref 47] from rfl) rfl ?_
  refine en_callV (As := [.int (nI 3), .int (nI (j % 4 + 4 * 0)), .int (sp_mix (M 56 55) (nI 12289)), .int (nI 56)]) (i := 47) (ci := 9) (st := []) (st1 := [.int (ew_b (decide (sp_ro (M 56) 6 (sp_mix (M 56 55) (nI 12289)) (8 + (j % 4 + 4 * 0)) 56 = M 56 3)))]) d_Mo_opensLayer_68 k_Mo_leads rfl rfl tw_830 tw_832 tp_49 rfl (Nat.le_of_ble_eq_true rfl) rfl (Nat.le_of_ble_eq_true rfl) rfl rfl (c_Mo_leads3 l g _ L M (j % 4 + 4 * 0) 56 (sp_mix (M 56 55) (nI 12289)) (by omega) (by decide)) rfl ?_
  refine en_b_eq (tgt := 78) d_Mo_opensLayer_71 (by decide) (fun h71 => ?_) (fun h71 => ?_)
  · refine ew_iconst (v := nI 0) d_Mo_opensLayer_78 (by decide) ?_
    refine en_istore (ls' := [.ref 47, .int (nI 0), .int (nI j), .int (nI 2), .int (nI 0), .int (nI 4), .int (nI 0), .int (nI 55)]) d_Mo_opensLayer_79 (Nat.le_of_ble_eq_true rfl) rfl ?_
    refine en_inc (ls' := [.ref 47, .int (nI 0), .int (nI j), .int (nI 2), .int (nI 0), .int (nI 4), .int (nI 1), .int (nI 55)]) d_Mo_opensLayer_81 rfl rfl ?_
    refine ew_goto (tgt := 12) d_Mo_opensLayer_84 (by decide) ?_
    refine ew_iload d_Mo_opensLayer_12 rfl ?_
    refine ew_iconst (v := nI 2) d_Mo_opensLayer_14 (by decide) ?_
    refine en_icmp_ge (tgt := 87) d_Mo_opensLayer_15 (by decide) (by decide) (by decide) (fun h15_1 => by exact absurd h15_1 (by decide)) (fun h15_1 => ?_)
    refine ew_iload_n d_Mo_opensLayer_18 rfl ?_
    refine ew_iconst (v := nI 4) d_Mo_opensLayer_19 (by decide) ?_
    refine ew_iconst (v := nI 2) d_Mo_opensLayer_20 (by decide) ?_
    refine ew_iload_n d_Mo_opensLayer_21 rfl ?_
    refine en_imul d_Mo_opensLayer_22 ?_
    refine en_eq rfl (show _ = [.int (nI 4), .int (nI 4), .int (nI 0)] from rfl) rfl ?_
    refine en_iadd d_Mo_opensLayer_23 ?_
    refine en_eq rfl (show _ = [.int (nI 8), .int (nI 0)] from rfl) rfl ?_
    refine ew_iload d_Mo_opensLayer_24 rfl ?_
    refine en_iadd d_Mo_opensLayer_26 ?_
    refine en_eq rfl (show _ = [.int (nI 9), .int (nI 0)] from rfl) rfl ?_
    refine en_callS (As := [.int (nI 0), .int (nI 9)]) (st := []) (st1 := [.int (nI 59)]) d_Mo_opensLayer_27 k_Mo_placeOf tw_819 tw_820 rfl (Nat.le_of_ble_eq_true rfl) rfl (Nat.le_of_ble_eq_true rfl) rfl rfl (c_Mo_placeOf_0_9 l g _ L M) rfl ?_
    refine en_istore (ls' := [.ref 47, .int (nI 0), .int (nI j), .int (nI 2), .int (nI 0), .int (nI 4), .int (nI 1), .int (nI 59)]) d_Mo_opensLayer_30 (Nat.le_of_ble_eq_true rfl) rfl ?_
    refine ew_iload d_Mo_opensLayer_32 rfl ?_
    refine en_if_eq (tgt := 78) d_Mo_opensLayer_34 (by decide) (by decide) (fun h34_1 => ?_) (fun h34_1 => by exact absurd h34_1 (by decide))
    refine ew_iconst (v := nI 0) d_Mo_opensLayer_78 (by decide) ?_
    refine en_istore (ls' := [.ref 47, .int (nI 0), .int (nI j), .int (nI 2), .int (nI 0), .int (nI 4), .int (nI 1), .int (nI 59)]) d_Mo_opensLayer_79 (Nat.le_of_ble_eq_true rfl) rfl ?_
    refine en_inc (ls' := [.ref 47, .int (nI 0), .int (nI j), .int (nI 2), .int (nI 0), .int (nI 4), .int (nI 2), .int (nI 59)]) d_Mo_opensLayer_81 rfl rfl ?_
    refine ew_goto (tgt := 12) d_Mo_opensLayer_84 (by decide) ?_
    refine ew_iload d_Mo_opensLayer_12 rfl ?_
    refine ew_iconst (v := nI 2) d_Mo_opensLayer_14 (by decide) ?_
    refine en_icmp_ge (tgt := 87) d_Mo_opensLayer_15 (by decide) (by decide) (by decide) (fun h15_2 => ?_) (fun h15_2 => by exact absurd h15_2 (by decide))
    refine ew_iload d_Mo_opensLayer_87 rfl ?_
    exact ew_zret d_Mo_opensLayer_89 rfl (by decide) (⟨by rw [show sp_vl02 (M 56) j = false from by (unfold sp_vl02; simp only [h71, Bool.false_and, Bool.and_false])]; rfl, rfl, rfl⟩)
  · refine ew_iconst (v := nI 1) d_Mo_opensLayer_74 (by decide) ?_
    refine ew_goto (tgt := 79) d_Mo_opensLayer_75 (by decide) ?_
    refine en_istore (ls' := [.ref 47, .int (nI 0), .int (nI j), .int (nI 2), .int (nI 1), .int (nI 4), .int (nI 0), .int (nI 55)]) d_Mo_opensLayer_79 (Nat.le_of_ble_eq_true rfl) rfl ?_
    refine en_inc (ls' := [.ref 47, .int (nI 0), .int (nI j), .int (nI 2), .int (nI 1), .int (nI 4), .int (nI 1), .int (nI 55)]) d_Mo_opensLayer_81 rfl rfl ?_
    refine ew_goto (tgt := 12) d_Mo_opensLayer_84 (by decide) ?_
    refine ew_iload d_Mo_opensLayer_12 rfl ?_
    refine ew_iconst (v := nI 2) d_Mo_opensLayer_14 (by decide) ?_
    refine en_icmp_ge (tgt := 87) d_Mo_opensLayer_15 (by decide) (by decide) (by decide) (fun h15_1 => by exact absurd h15_1 (by decide)) (fun h15_1 => ?_)
    refine ew_iload_n d_Mo_opensLayer_18 rfl ?_
    refine ew_iconst (v := nI 4) d_Mo_opensLayer_19 (by decide) ?_
    refine ew_iconst (v := nI 2) d_Mo_opensLayer_20 (by decide) ?_
    refine ew_iload_n d_Mo_opensLayer_21 rfl ?_
    refine en_imul d_Mo_opensLayer_22 ?_
    refine en_eq rfl (show _ = [.int (nI 4), .int (nI 4), .int (nI 0)] from rfl) rfl ?_
    refine en_iadd d_Mo_opensLayer_23 ?_
    refine en_eq rfl (show _ = [.int (nI 8), .int (nI 0)] from rfl) rfl ?_
    refine ew_iload d_Mo_opensLayer_24 rfl ?_
    refine en_iadd d_Mo_opensLayer_26 ?_
    refine en_eq rfl (show _ = [.int (nI 9), .int (nI 0)] from rfl) rfl ?_
    refine en_callS (As := [.int (nI 0), .int (nI 9)]) (st := []) (st1 := [.int (nI 59)]) d_Mo_opensLayer_27 k_Mo_placeOf tw_819 tw_820 rfl (Nat.le_of_ble_eq_true rfl) rfl (Nat.le_of_ble_eq_true rfl) rfl rfl (c_Mo_placeOf_0_9 l g _ L M) rfl ?_
    refine en_istore (ls' := [.ref 47, .int (nI 0), .int (nI j), .int (nI 2), .int (nI 1), .int (nI 4), .int (nI 1), .int (nI 59)]) d_Mo_opensLayer_30 (Nat.le_of_ble_eq_true rfl) rfl ?_
    refine ew_iload d_Mo_opensLayer_32 rfl ?_
    refine en_if_eq (tgt := 78) d_Mo_opensLayer_34 (by decide) (by decide) (fun h34_1 => by exact absurd h34_1 (by decide)) (fun h34_1 => ?_)
    refine ew_aload_n d_Mo_opensLayer_37 rfl ?_
    refine ew_iload_n d_Mo_opensLayer_38 rfl ?_
    refine ew_iconst (v := nI 1) d_Mo_opensLayer_39 (by decide) ?_
    refine en_iadd d_Mo_opensLayer_40 ?_
    refine en_eq rfl (show _ = [.int (nI 3), .ref 47] from rfl) rfl ?_
    refine ew_iload_n d_Mo_opensLayer_41 rfl ?_
    refine ew_iload d_Mo_opensLayer_42 rfl ?_
    refine en_irem d_Mo_opensLayer_44 (by omega) (by decide) (by decide) ?_
    refine ew_iload d_Mo_opensLayer_45 rfl ?_
    refine ew_iload d_Mo_opensLayer_47 rfl ?_
    refine en_imul d_Mo_opensLayer_49 ?_
    refine en_eq rfl (show _ = [.int (nI 4), .int (nI (j % 4)), .int (nI 3), .ref 47] from rfl) rfl ?_
    refine en_iadd d_Mo_opensLayer_50 ?_
    refine en_eq (st' := [.int (nI (j % 4 + 4 * 1)), .int (nI 3), .ref 47]) rfl (by rw [show (nI ((j % 4) + 4)) = (nI (j % 4 + 4 * 1)) from rfl]) rfl ?_
    refine ew_aload_n d_Mo_opensLayer_51 rfl ?_
    refine ew_getr (ci := 9) (f := 10) d_Mo_opensLayer_52 rfl rfl rfl tw_602 ?_
    refine ew_iload d_Mo_opensLayer_55 rfl ?_
    refine ew_iald (j := 59) d_Mo_opensLayer_57 rfl (rfl) (by decide) (by decide) ?_
    refine ew_sipush (v := nI 12289) d_Mo_opensLayer_58 (by decide) ?_
    refine en_callS (As := [.int (M 56 59), .int (nI 12289)]) (st := [.int (nI (j % 4 + 4 * 1)), .int (nI 3), .ref 47]) (st1 := [.int (sp_mix (M 56 59) (nI 12289)), .int (nI (j % 4 + 4 * 1)), .int (nI 3), .ref 47]) d_Mo_opensLayer_61 k_Mo_mix tw_752 tw_753 rfl (Nat.le_of_ble_eq_true rfl) rfl (Nat.le_of_ble_eq_true rfl) rfl rfl (c_Mo_mix l g _ (ew_SH L) M (M 56 59) (nI 12289)) rfl ?_
    refine ew_iload d_Mo_opensLayer_64 rfl ?_
    refine ew_iconst (v := nI 1) d_Mo_opensLayer_66 (by decide) ?_
    refine en_iadd d_Mo_opensLayer_67 ?_
    refine en_eq rfl (show _ = [.int (nI 60), .int (sp_mix (M 56 59) (nI 12289)), .int (nI (j % 4 + 4 * 1)), .int (nI 3), .ref 47] from rfl) rfl ?_
    refine en_callV (As := [.int (nI 3), .int (nI (j % 4 + 4 * 1)), .int (sp_mix (M 56 59) (nI 12289)), .int (nI 60)]) (i := 47) (ci := 9) (st := []) (st1 := [.int (ew_b (decide (sp_ro (M 56) 6 (sp_mix (M 56 59) (nI 12289)) (8 + (j % 4 + 4 * 1)) 60 = M 56 3)))]) d_Mo_opensLayer_68 k_Mo_leads rfl rfl tw_830 tw_832 tp_49 rfl (Nat.le_of_ble_eq_true rfl) rfl (Nat.le_of_ble_eq_true rfl) rfl rfl (c_Mo_leads3 l g _ L M (j % 4 + 4 * 1) 60 (sp_mix (M 56 59) (nI 12289)) (by omega) (by decide)) rfl ?_
    refine en_b_eq (tgt := 78) d_Mo_opensLayer_71 (by decide) (fun h71_1 => ?_) (fun h71_1 => ?_)
    · refine ew_iconst (v := nI 0) d_Mo_opensLayer_78 (by decide) ?_
      refine en_istore (ls' := [.ref 47, .int (nI 0), .int (nI j), .int (nI 2), .int (nI 0), .int (nI 4), .int (nI 1), .int (nI 59)]) d_Mo_opensLayer_79 (Nat.le_of_ble_eq_true rfl) rfl ?_
      refine en_inc (ls' := [.ref 47, .int (nI 0), .int (nI j), .int (nI 2), .int (nI 0), .int (nI 4), .int (nI 2), .int (nI 59)]) d_Mo_opensLayer_81 rfl rfl ?_
      refine ew_goto (tgt := 12) d_Mo_opensLayer_84 (by decide) ?_
      refine ew_iload d_Mo_opensLayer_12 rfl ?_
      refine ew_iconst (v := nI 2) d_Mo_opensLayer_14 (by decide) ?_
      refine en_icmp_ge (tgt := 87) d_Mo_opensLayer_15 (by decide) (by decide) (by decide) (fun h15_2 => ?_) (fun h15_2 => by exact absurd h15_2 (by decide))
      refine ew_iload d_Mo_opensLayer_87 rfl ?_
      exact ew_zret d_Mo_opensLayer_89 rfl (by decide) (⟨by rw [show sp_vl02 (M 56) j = false from by (unfold sp_vl02; simp only [h71_1, Bool.false_and, Bool.and_false])]; rfl, rfl, rfl⟩)
    · refine ew_iconst (v := nI 1) d_Mo_opensLayer_74 (by decide) ?_
      refine ew_goto (tgt := 79) d_Mo_opensLayer_75 (by decide) ?_
      refine en_istore (ls' := [.ref 47, .int (nI 0), .int (nI j), .int (nI 2), .int (nI 1), .int (nI 4), .int (nI 1), .int (nI 59)]) d_Mo_opensLayer_79 (Nat.le_of_ble_eq_true rfl) rfl ?_
      refine en_inc (ls' := [.ref 47, .int (nI 0), .int (nI j), .int (nI 2), .int (nI 1), .int (nI 4), .int (nI 2), .int (nI 59)]) d_Mo_opensLayer_81 rfl rfl ?_
      refine ew_goto (tgt := 12) d_Mo_opensLayer_84 (by decide) ?_
      refine ew_iload d_Mo_opensLayer_12 rfl ?_
      refine ew_iconst (v := nI 2) d_Mo_opensLayer_14 (by decide) ?_
      refine en_icmp_ge (tgt := 87) d_Mo_opensLayer_15 (by decide) (by decide) (by decide) (fun h15_2 => ?_) (fun h15_2 => by exact absurd h15_2 (by decide))
      refine ew_iload d_Mo_opensLayer_87 rfl ?_
      exact ew_zret d_Mo_opensLayer_89 rfl (by decide) (⟨by rw [show sp_vl02 (M 56) j = true from by (unfold sp_vl02; simp only [h71, h71_1, Bool.and_self])]; rfl, rfl, rfl⟩)
set_option maxRecDepth 100000 in
theorem c_Mo_opens1 (l : Launch) (g : ew_G) (d L : Nat) (M : ew_M) (j : Nat) (hj : j < 16) :
    Ew l g (d + 2) 0 0 m_Mo_opens 0 [.ref 47, .int (nI 1), .int (nI j), .retAddr 0, .retAddr 0, .retAddr 0] [] (ew_SH L) M (ew_q (some (.int (ew_b (sp_vc1 (M 56) j)))) (ew_SH L) M) := by
  refine ew_iconst (v := nI 1) d_Mo_opens_0 (by decide) ?_
  refine en_istore_n (ls' := [.ref 47, .int (nI 1), .int (nI j), .int (nI 1), .retAddr 0, .retAddr 0]) d_Mo_opens_1 (Nat.le_of_ble_eq_true rfl) rfl ?_
  refine ew_iconst (v := nI 0) d_Mo_opens_2 (by decide) ?_
  refine en_istore (ls' := [.ref 47, .int (nI 1), .int (nI j), .int (nI 1), .int (nI 0), .retAddr 0]) d_Mo_opens_3 (Nat.le_of_ble_eq_true rfl) rfl ?_
  refine ew_iload d_Mo_opens_5 rfl ?_
  refine ew_iconst (v := nI 4) d_Mo_opens_7 (by decide) ?_
  refine en_icmp_ge (tgt := 85) d_Mo_opens_8 (by decide) (by decide) (by decide) (fun h8 => by exact absurd h8 (by decide)) (fun h8 => ?_)
  refine ew_iload_n d_Mo_opens_11 rfl ?_
  refine ew_iload d_Mo_opens_12 rfl ?_
  refine en_callS (As := [.int (nI 1), .int (nI 0)]) (st := []) (st1 := [.int (nI 63)]) d_Mo_opens_14 k_Mo_placeOf tw_819 tw_820 rfl (Nat.le_of_ble_eq_true rfl) rfl (Nat.le_of_ble_eq_true rfl) rfl rfl (c_Mo_placeOf_1_0 l g _ L M) rfl ?_
  refine en_istore (ls' := [.ref 47, .int (nI 1), .int (nI j), .int (nI 1), .int (nI 0), .int (nI 63)]) d_Mo_opens_17 (Nat.le_of_ble_eq_true rfl) rfl ?_
  refine ew_iload_n d_Mo_opens_19 rfl ?_
  refine en_if_eq (tgt := 77) d_Mo_opens_20 (by decide) (by decide) (fun h20 => by exact absurd h20 (by decide)) (fun h20 => ?_)
  refine ew_aload_n d_Mo_opens_23 rfl ?_
  refine ew_iconst (v := nI 0) d_Mo_opens_24 (by decide) ?_
  refine ew_iload_n d_Mo_opens_25 rfl ?_
  refine ew_iload d_Mo_opens_26 rfl ?_
  refine ew_iconst (v := nI 2) d_Mo_opens_28 (by decide) ?_
  refine en_irem d_Mo_opens_29 (by first | with_reducible assumption | with_reducible exact ep_lt _ | with_reducible exact sp_its_lt _ _ _ | with_reducible exact tb_l_rt _ | with_reducible exact tb_l_x _ | with_reducible exact tb_l_o0 _ | with_reducible exact tb_l_o1 _ | with_reducible exact tb_l_va _ | with_reducible exact tb_l_ll _ | with_reducible exact tb_l_cf _ | with_reducible exact tb_l_kf _ | with_reducible exact sp_ts_lt _ _ _ _ | with_reducible exact sp_w_lt _ _ | with_reducible exact sp_cs_lt _ _ _ _ _ | with_reducible exact sp_cb_lt _ _ _ _ _ | with_reducible exact sp_ch_lt _ | with_reducible exact sp_bf_lt _ _ | with_reducible exact sp_va_lt _ _ _ | with_reducible exact sp_be_lt _ _ | with_reducible exact sp_p_lt _ _ _ | with_reducible exact sp_com_lt _ _ _ _ | with_reducible exact sp_fo_lt _ _ _ _ _ | omega) (by decide) (by decide) ?_
  refine en_eq rfl (show _ = [.int (nI 0), .int (nI j), .int (nI 0), .ref 47] from rfl) rfl ?_
  refine ew_iconst (v := nI 4) d_Mo_opens_30 (by decide) ?_
  refine en_imul d_Mo_opens_31 ?_
  refine en_eq rfl (show _ = [.int (nI 0), .int (nI j), .int (nI 0), .ref 47] from rfl) rfl ?_
  refine en_iadd d_Mo_opens_32 ?_
  refine ew_iload d_Mo_opens_33 rfl ?_
  refine ew_iconst (v := nI 2) d_Mo_opens_35 (by decide) ?_
  refine en_idiv d_Mo_opens_36 (by first | with_reducible assumption | with_reducible exact ep_lt _ | with_reducible exact sp_its_lt _ _ _ | with_reducible exact tb_l_rt _ | with_reducible exact tb_l_x _ | with_reducible exact tb_l_o0 _ | with_reducible exact tb_l_o1 _ | with_reducible exact tb_l_va _ | with_reducible exact tb_l_ll _ | with_reducible exact tb_l_cf _ | with_reducible exact tb_l_kf _ | with_reducible exact sp_ts_lt _ _ _ _ | with_reducible exact sp_w_lt _ _ | with_reducible exact sp_cs_lt _ _ _ _ _ | with_reducible exact sp_cb_lt _ _ _ _ _ | with_reducible exact sp_ch_lt _ | with_reducible exact sp_bf_lt _ _ | with_reducible exact sp_va_lt _ _ _ | with_reducible exact sp_be_lt _ _ | with_reducible exact sp_p_lt _ _ _ | with_reducible exact sp_com_lt _ _ _ _ | with_reducible exact sp_fo_lt _ _ _ _ _ | omega) (by decide) (by decide) ?_
  refine en_eq rfl (show _ = [.int (nI 0), .int (nI (j + 0)), .int (nI 0), .ref 47] from rfl) rfl ?_
  refine ew_bipush (v := nI 16) d_Mo_opens_37 (by decide) ?_
  refine en_imul d_Mo_opens_39 ?_
  refine en_eq rfl (show _ = [.int (nI 0), .int (nI (j + 0)), .int (nI 0), .ref 47] from rfl) rfl ?_
  refine en_iadd d_Mo_opens_40 ?_
  refine ew_bipush (v := nI 32) d_Mo_opens_41 (by decide) ?_
  refine en_irem d_Mo_opens_43 (by omega) (by decide) (by decide) ?_
  refine en_eq (st' := [.int (nI ((j + 0) % 32)), .int (nI 0), .ref 47]) rfl (by rw [show (nI (((j + 0) + 0) % 32)) = (nI ((j + 0) % 32)) from congrArg nI (by omega)]) rfl ?_
  refine ew_aload_n d_Mo_opens_44 rfl ?_
  refine ew_getr (ci := 9) (f := 10) d_Mo_opens_45 rfl rfl rfl tw_602 ?_
  refine ew_iload d_Mo_opens_48 rfl ?_
  refine ew_iald (j := 63) d_Mo_opens_50 rfl (rfl) (by decide) (by decide) ?_
  refine ew_aload_n d_Mo_opens_51 rfl ?_
  refine ew_getr (ci := 9) (f := 10) d_Mo_opens_52 rfl rfl rfl tw_602 ?_
  refine ew_iload d_Mo_opens_55 rfl ?_
  refine ew_iconst (v := nI 1) d_Mo_opens_57 (by decide) ?_
  refine en_iadd d_Mo_opens_58 ?_
  refine en_eq rfl (show _ = [.int (nI 64), .ref 56, .int (M 56 63), .int (nI ((j + 0) % 32)), .int (nI 0), .ref 47] from rfl) rfl ?_
  refine ew_iald (j := 64) d_Mo_opens_59 rfl (rfl) (by decide) (by decide) ?_
  refine en_callS (As := [.int (M 56 63), .int (M 56 64)]) (st := [.int (nI ((j + 0) % 32)), .int (nI 0), .ref 47]) (st1 := [.int (sp_mix (M 56 63) (M 56 64)), .int (nI ((j + 0) % 32)), .int (nI 0), .ref 47]) d_Mo_opens_60 k_Mo_mix tw_752 tw_753 rfl (Nat.le_of_ble_eq_true rfl) rfl (Nat.le_of_ble_eq_true rfl) rfl rfl (c_Mo_mix l g _ (ew_SH L) M (M 56 63) (M 56 64)) rfl ?_
  refine ew_iload d_Mo_opens_63 rfl ?_
  refine ew_iconst (v := nI 2) d_Mo_opens_65 (by decide) ?_
  refine en_iadd d_Mo_opens_66 ?_
  refine en_eq rfl (show _ = [.int (nI 65), .int (sp_mix (M 56 63) (M 56 64)), .int (nI ((j + 0) % 32)), .int (nI 0), .ref 47] from rfl) rfl ?_
  refine en_callV (As := [.int (nI 0), .int (nI ((j + 0) % 32)), .int (sp_mix (M 56 63) (M 56 64)), .int (nI 65)]) (i := 47) (ci := 9) (st := []) (st1 := [.int (ew_b (decide (sp_ro (M 56) 6 (sp_mix (M 56 63) (M 56 64)) (32 + ((j + 0) % 32)) 65 = M 56 0)))]) d_Mo_opens_67 k_Mo_leads rfl rfl tw_830 tw_832 tp_49 rfl (Nat.le_of_ble_eq_true rfl) rfl (Nat.le_of_ble_eq_true rfl) rfl rfl (c_Mo_leads0 l g _ L M ((j + 0) % 32) 65 (sp_mix (M 56 63) (M 56 64)) (by omega) (by decide)) rfl ?_
  refine en_b_eq (tgt := 77) d_Mo_opens_70 (by decide) (fun h70 => ?_) (fun h70 => ?_)
  · refine ew_iconst (v := nI 0) d_Mo_opens_77 (by decide) ?_
    refine en_istore_n (ls' := [.ref 47, .int (nI 1), .int (nI j), .int (nI 0), .int (nI 0), .int (nI 63)]) d_Mo_opens_78 (Nat.le_of_ble_eq_true rfl) rfl ?_
    refine en_inc (ls' := [.ref 47, .int (nI 1), .int (nI j), .int (nI 0), .int (nI 1), .int (nI 63)]) d_Mo_opens_79 rfl rfl ?_
    refine ew_goto (tgt := 5) d_Mo_opens_82 (by decide) ?_
    refine ew_iload d_Mo_opens_5 rfl ?_
    refine ew_iconst (v := nI 4) d_Mo_opens_7 (by decide) ?_
    refine en_icmp_ge (tgt := 85) d_Mo_opens_8 (by decide) (by decide) (by decide) (fun h8_1 => by exact absurd h8_1 (by decide)) (fun h8_1 => ?_)
    refine ew_iload_n d_Mo_opens_11 rfl ?_
    refine ew_iload d_Mo_opens_12 rfl ?_
    refine en_callS (As := [.int (nI 1), .int (nI 1)]) (st := []) (st1 := [.int (nI 70)]) d_Mo_opens_14 k_Mo_placeOf tw_819 tw_820 rfl (Nat.le_of_ble_eq_true rfl) rfl (Nat.le_of_ble_eq_true rfl) rfl rfl (c_Mo_placeOf_1_1 l g _ L M) rfl ?_
    refine en_istore (ls' := [.ref 47, .int (nI 1), .int (nI j), .int (nI 0), .int (nI 1), .int (nI 70)]) d_Mo_opens_17 (Nat.le_of_ble_eq_true rfl) rfl ?_
    refine ew_iload_n d_Mo_opens_19 rfl ?_
    refine en_if_eq (tgt := 77) d_Mo_opens_20 (by decide) (by decide) (fun h20_1 => ?_) (fun h20_1 => by exact absurd h20_1 (by decide))
    refine ew_iconst (v := nI 0) d_Mo_opens_77 (by decide) ?_
    refine en_istore_n (ls' := [.ref 47, .int (nI 1), .int (nI j), .int (nI 0), .int (nI 1), .int (nI 70)]) d_Mo_opens_78 (Nat.le_of_ble_eq_true rfl) rfl ?_
    refine en_inc (ls' := [.ref 47, .int (nI 1), .int (nI j), .int (nI 0), .int (nI 2), .int (nI 70)]) d_Mo_opens_79 rfl rfl ?_
    refine ew_goto (tgt := 5) d_Mo_opens_82 (by decide) ?_
    refine ew_iload d_Mo_opens_5 rfl ?_
    refine ew_iconst (v := nI 4) d_Mo_opens_7 (by decide) ?_
    refine en_icmp_ge (tgt := 85) d_Mo_opens_8 (by decide) (by decide) (by decide) (fun h8_2 => by exact absurd h8_2 (by decide)) (fun h8_2 => ?_)
    refine ew_iload_n d_Mo_opens_11 rfl ?_
    refine ew_iload d_Mo_opens_12 rfl ?_
    refine en_callS (As := [.int (nI 1), .int (nI 2)]) (st := []) (st1 := [.int (nI 77)]) d_Mo_opens_14 k_Mo_placeOf tw_819 tw_820 rfl (Nat.le_of_ble_eq_true rfl) rfl (Nat.le_of_ble_eq_true rfl) rfl rfl (c_Mo_placeOf_1_2 l g _ L M) rfl ?_
    refine en_istore (ls' := [.ref 47, .int (nI 1), .int (nI j), .int (nI 0), .int (nI 2), .int (nI 77)]) d_Mo_opens_17 (Nat.le_of_ble_eq_true rfl) rfl ?_
    refine ew_iload_n d_Mo_opens_19 rfl ?_
    refine en_if_eq (tgt := 77) d_Mo_opens_20 (by decide) (by decide) (fun h20_2 => ?_) (fun h20_2 => by exact absurd h20_2 (by decide))
    refine ew_iconst (v := nI 0) d_Mo_opens_77 (by decide) ?_
    refine en_istore_n (ls' := [.ref 47, .int (nI 1), .int (nI j), .int (nI 0), .int (nI 2), .int (nI 77)]) d_Mo_opens_78 (Nat.le_of_ble_eq_true rfl) rfl ?_
    refine en_inc (ls' := [.ref 47, .int (nI 1), .int (nI j), .int (nI 0), .int (nI 3), .int (nI 77)]) d_Mo_opens_79 rfl rfl ?_
    refine ew_goto (tgt := 5) d_Mo_opens_82 (by decide) ?_
    refine ew_iload d_Mo_opens_5 rfl ?_
    refine ew_iconst (v := nI 4) d_Mo_opens_7 (by decide) ?_
    refine en_icmp_ge (tgt := 85) d_Mo_opens_8 (by decide) (by decide) (by decide) (fun h8_3 => by exact absurd h8_3 (by decide)) (fun h8_3 => ?_)
    refine ew_iload_n d_Mo_opens_11 rfl ?_
    refine ew_iload d_Mo_opens_12 rfl ?_
    refine en_callS (As := [.int (nI 1), .int (nI 3)]) (st := []) (st1 := [.int (nI 84)]) d_Mo_opens_14 k_Mo_placeOf tw_819 tw_820 rfl (Nat.le_of_ble_eq_true rfl) rfl (Nat.le_of_ble_eq_true rfl) rfl rfl (c_Mo_placeOf_1_3 l g _ L M) rfl ?_
    refine en_istore (ls' := [.ref 47, .int (nI 1), .int (nI j), .int (nI 0), .int (nI 3), .int (nI 84)]) d_Mo_opens_17 (Nat.le_of_ble_eq_true rfl) rfl ?_
    refine ew_iload_n d_Mo_opens_19 rfl ?_
    refine en_if_eq (tgt := 77) d_Mo_opens_20 (by decide) (by decide) (fun h20_3 => ?_) (fun h20_3 => by exact absurd h20_3 (by decide))
    refine ew_iconst (v := nI 0) d_Mo_opens_77 (by decide) ?_
    refine en_istore_n (ls' := [.ref 47, .int (nI 1), .int (nI j), .int (nI 0), .int (nI 3), .int (nI 84)]) d_Mo_opens_78 (Nat.le_of_ble_eq_true rfl) rfl ?_
    refine en_inc (ls' := [.ref 47, .int (nI 1), .int (nI j), .int (nI 0), .int (nI 4), .int (nI 84)]) d_Mo_opens_79 rfl rfl ?_
    refine ew_goto (tgt := 5) d_Mo_opens_82 (by decide) ?_
    refine ew_iload d_Mo_opens_5 rfl ?_
    refine ew_iconst (v := nI 4) d_Mo_opens_7 (by decide) ?_
    refine en_icmp_ge (tgt := 85) d_Mo_opens_8 (by decide) (by decide) (by decide) (fun h8_4 => ?_) (fun h8_4 => by exact absurd h8_4 (by decide))
    refine ew_iload_n d_Mo_opens_85 rfl ?_
    exact ew_zret d_Mo_opens_86 rfl (by decide) (⟨by rw [show sp_vc1 (M 56) j = false from by (unfold sp_vc1; simp only [h70, Bool.false_and, Bool.and_false])]; rfl, rfl, rfl⟩)
  · refine ew_iconst (v := nI 1) d_Mo_opens_73 (by decide) ?_
    refine ew_goto (tgt := 78) d_Mo_opens_74 (by decide) ?_
    refine en_istore_n (ls' := [.ref 47, .int (nI 1), .int (nI j), .int (nI 1), .int (nI 0), .int (nI 63)]) d_Mo_opens_78 (Nat.le_of_ble_eq_true rfl) rfl ?_
    refine en_inc (ls' := [.ref 47, .int (nI 1), .int (nI j), .int (nI 1), .int (nI 1), .int (nI 63)]) d_Mo_opens_79 rfl rfl ?_
    refine ew_goto (tgt := 5) d_Mo_opens_82 (by decide) ?_
    refine ew_iload d_Mo_opens_5 rfl ?_
    refine ew_iconst (v := nI 4) d_Mo_opens_7 (by decide) ?_
    refine en_icmp_ge (tgt := 85) d_Mo_opens_8 (by decide) (by decide) (by decide) (fun h8_1 => by exact absurd h8_1 (by decide)) (fun h8_1 => ?_)
    refine ew_iload_n d_Mo_opens_11 rfl ?_
    refine ew_iload d_Mo_opens_12 rfl ?_
    refine en_callS (As := [.int (nI 1), .int (nI 1)]) (st := []) (st1 := [.int (nI 70)]) d_Mo_opens_14 k_Mo_placeOf tw_819 tw_820 rfl (Nat.le_of_ble_eq_true rfl) rfl (Nat.le_of_ble_eq_true rfl) rfl rfl (c_Mo_placeOf_1_1 l g _ L M) rfl ?_
    refine en_istore (ls' := [.ref 47, .int (nI 1), .int (nI j), .int (nI 1), .int (nI 1), .int (nI 70)]) d_Mo_opens_17 (Nat.le_of_ble_eq_true rfl) rfl ?_
    refine ew_iload_n d_Mo_opens_19 rfl ?_
    refine en_if_eq (tgt := 77) d_Mo_opens_20 (by decide) (by decide) (fun h20_1 => by exact absurd h20_1 (by decide)) (fun h20_1 => ?_)
    refine ew_aload_n d_Mo_opens_23 rfl ?_
    refine ew_iconst (v := nI 0) d_Mo_opens_24 (by decide) ?_
    refine ew_iload_n d_Mo_opens_25 rfl ?_
    refine ew_iload d_Mo_opens_26 rfl ?_
    refine ew_iconst (v := nI 2) d_Mo_opens_28 (by decide) ?_
    refine en_irem d_Mo_opens_29 (by first | with_reducible assumption | with_reducible exact ep_lt _ | with_reducible exact sp_its_lt _ _ _ | with_reducible exact tb_l_rt _ | with_reducible exact tb_l_x _ | with_reducible exact tb_l_o0 _ | with_reducible exact tb_l_o1 _ | with_reducible exact tb_l_va _ | with_reducible exact tb_l_ll _ | with_reducible exact tb_l_cf _ | with_reducible exact tb_l_kf _ | with_reducible exact sp_ts_lt _ _ _ _ | with_reducible exact sp_w_lt _ _ | with_reducible exact sp_cs_lt _ _ _ _ _ | with_reducible exact sp_cb_lt _ _ _ _ _ | with_reducible exact sp_ch_lt _ | with_reducible exact sp_bf_lt _ _ | with_reducible exact sp_va_lt _ _ _ | with_reducible exact sp_be_lt _ _ | with_reducible exact sp_p_lt _ _ _ | with_reducible exact sp_com_lt _ _ _ _ | with_reducible exact sp_fo_lt _ _ _ _ _ | omega) (by decide) (by decide) ?_
    refine en_eq rfl (show _ = [.int (nI 1), .int (nI j), .int (nI 0), .ref 47] from rfl) rfl ?_
    refine ew_iconst (v := nI 4) d_Mo_opens_30 (by decide) ?_
    refine en_imul d_Mo_opens_31 ?_
    refine en_eq rfl (show _ = [.int (nI 4), .int (nI j), .int (nI 0), .ref 47] from rfl) rfl ?_
    refine en_iadd d_Mo_opens_32 ?_
    refine ew_iload d_Mo_opens_33 rfl ?_
    refine ew_iconst (v := nI 2) d_Mo_opens_35 (by decide) ?_
    refine en_idiv d_Mo_opens_36 (by first | with_reducible assumption | with_reducible exact ep_lt _ | with_reducible exact sp_its_lt _ _ _ | with_reducible exact tb_l_rt _ | with_reducible exact tb_l_x _ | with_reducible exact tb_l_o0 _ | with_reducible exact tb_l_o1 _ | with_reducible exact tb_l_va _ | with_reducible exact tb_l_ll _ | with_reducible exact tb_l_cf _ | with_reducible exact tb_l_kf _ | with_reducible exact sp_ts_lt _ _ _ _ | with_reducible exact sp_w_lt _ _ | with_reducible exact sp_cs_lt _ _ _ _ _ | with_reducible exact sp_cb_lt _ _ _ _ _ | with_reducible exact sp_ch_lt _ | with_reducible exact sp_bf_lt _ _ | with_reducible exact sp_va_lt _ _ _ | with_reducible exact sp_be_lt _ _ | with_reducible exact sp_p_lt _ _ _ | with_reducible exact sp_com_lt _ _ _ _ | with_reducible exact sp_fo_lt _ _ _ _ _ | omega) (by decide) (by decide) ?_
    refine en_eq rfl (show _ = [.int (nI 0), .int (nI (j + 4)), .int (nI 0), .ref 47] from rfl) rfl ?_
    refine ew_bipush (v := nI 16) d_Mo_opens_37 (by decide) ?_
    refine en_imul d_Mo_opens_39 ?_
    refine en_eq rfl (show _ = [.int (nI 0), .int (nI (j + 4)), .int (nI 0), .ref 47] from rfl) rfl ?_
    refine en_iadd d_Mo_opens_40 ?_
    refine ew_bipush (v := nI 32) d_Mo_opens_41 (by decide) ?_
    refine en_irem d_Mo_opens_43 (by omega) (by decide) (by decide) ?_
    refine en_eq (st' := [.int (nI ((j + 4) % 32)), .int (nI 0), .ref 47]) rfl (by rw [show (nI (((j + 4) + 0) % 32)) = (nI ((j + 4) % 32)) from congrArg nI (by omega)]) rfl ?_
    refine ew_aload_n d_Mo_opens_44 rfl ?_
    refine ew_getr (ci := 9) (f := 10) d_Mo_opens_45 rfl rfl rfl tw_602 ?_
    refine ew_iload d_Mo_opens_48 rfl ?_
    refine ew_iald (j := 70) d_Mo_opens_50 rfl (rfl) (by decide) (by decide) ?_
    refine ew_aload_n d_Mo_opens_51 rfl ?_
    refine ew_getr (ci := 9) (f := 10) d_Mo_opens_52 rfl rfl rfl tw_602 ?_
    refine ew_iload d_Mo_opens_55 rfl ?_
    refine ew_iconst (v := nI 1) d_Mo_opens_57 (by decide) ?_
    refine en_iadd d_Mo_opens_58 ?_
    refine en_eq rfl (show _ = [.int (nI 71), .ref 56, .int (M 56 70), .int (nI ((j + 4) % 32)), .int (nI 0), .ref 47] from rfl) rfl ?_
    refine ew_iald (j := 71) d_Mo_opens_59 rfl (rfl) (by decide) (by decide) ?_
    refine en_callS (As := [.int (M 56 70), .int (M 56 71)]) (st := [.int (nI ((j + 4) % 32)), .int (nI 0), .ref 47]) (st1 := [.int (sp_mix (M 56 70) (M 56 71)), .int (nI ((j + 4) % 32)), .int (nI 0), .ref 47]) d_Mo_opens_60 k_Mo_mix tw_752 tw_753 rfl (Nat.le_of_ble_eq_true rfl) rfl (Nat.le_of_ble_eq_true rfl) rfl rfl (c_Mo_mix l g _ (ew_SH L) M (M 56 70) (M 56 71)) rfl ?_
    refine ew_iload d_Mo_opens_63 rfl ?_
    refine ew_iconst (v := nI 2) d_Mo_opens_65 (by decide) ?_
    refine en_iadd d_Mo_opens_66 ?_
    refine en_eq rfl (show _ = [.int (nI 72), .int (sp_mix (M 56 70) (M 56 71)), .int (nI ((j + 4) % 32)), .int (nI 0), .ref 47] from rfl) rfl ?_
    refine en_callV (As := [.int (nI 0), .int (nI ((j + 4) % 32)), .int (sp_mix (M 56 70) (M 56 71)), .int (nI 72)]) (i := 47) (ci := 9) (st := []) (st1 := [.int (ew_b (decide (sp_ro (M 56) 6 (sp_mix (M 56 70) (M 56 71)) (32 + ((j + 4) % 32)) 72 = M 56 0)))]) d_Mo_opens_67 k_Mo_leads rfl rfl tw_830 tw_832 tp_49 rfl (Nat.le_of_ble_eq_true rfl) rfl (Nat.le_of_ble_eq_true rfl) rfl rfl (c_Mo_leads0 l g _ L M ((j + 4) % 32) 72 (sp_mix (M 56 70) (M 56 71)) (by omega) (by decide)) rfl ?_
    refine en_b_eq (tgt := 77) d_Mo_opens_70 (by decide) (fun h70_1 => ?_) (fun h70_1 => ?_)
    · refine ew_iconst (v := nI 0) d_Mo_opens_77 (by decide) ?_
      refine en_istore_n (ls' := [.ref 47, .int (nI 1), .int (nI j), .int (nI 0), .int (nI 1), .int (nI 70)]) d_Mo_opens_78 (Nat.le_of_ble_eq_true rfl) rfl ?_
      refine en_inc (ls' := [.ref 47, .int (nI 1), .int (nI j), .int (nI 0), .int (nI 2), .int (nI 70)]) d_Mo_opens_79 rfl rfl ?_
      refine ew_goto (tgt := 5) d_Mo_opens_82 (by decide) ?_
      refine ew_iload d_Mo_opens_5 rfl ?_
      refine ew_iconst (v := nI 4) d_Mo_opens_7 (by decide) ?_
      refine en_icmp_ge (tgt := 85) d_Mo_opens_8 (by decide) (by decide) (by decide) (fun h8_2 => by exact absurd h8_2 (by decide)) (fun h8_2 => ?_)
      refine ew_iload_n d_Mo_opens_11 rfl ?_
      refine ew_iload d_Mo_opens_12 rfl ?_
      refine en_callS (As := [.int (nI 1), .int (nI 2)]) (st := []) (st1 := [.int (nI 77)]) d_Mo_opens_14 k_Mo_placeOf tw_819 tw_820 rfl (Nat.le_of_ble_eq_true rfl) rfl (Nat.le_of_ble_eq_true rfl) rfl rfl (c_Mo_placeOf_1_2 l g _ L M) rfl ?_
      refine en_istore (ls' := [.ref 47, .int (nI 1), .int (nI j), .int (nI 0), .int (nI 2), .int (nI 77)]) d_Mo_opens_17 (Nat.le_of_ble_eq_true rfl) rfl ?_
      refine ew_iload_n d_Mo_opens_19 rfl ?_
      refine en_if_eq (tgt := 77) d_Mo_opens_20 (by decide) (by decide) (fun h20_2 => ?_) (fun h20_2 => by exact absurd h20_2 (by decide))
      refine ew_iconst (v := nI 0) d_Mo_opens_77 (by decide) ?_
      refine en_istore_n (ls' := [.ref 47, .int (nI 1), .int (nI j), .int (nI 0), .int (nI 2), .int (nI 77)]) d_Mo_opens_78 (Nat.le_of_ble_eq_true rfl) rfl ?_
      refine en_inc (ls' := [.ref 47, .int (nI 1), .int (nI j), .int (nI 0), .int (nI 3), .int (nI 77)]) d_Mo_opens_79 rfl rfl ?_
      refine ew_goto (tgt := 5) d_Mo_opens_82 (by decide) ?_
      refine ew_iload d_Mo_opens_5 rfl ?_
      refine ew_iconst (v := nI 4) d_Mo_opens_7 (by decide) ?_
      refine en_icmp_ge (tgt := 85) d_Mo_opens_8 (by decide) (by decide) (by decide) (fun h8_3 => by exact absurd h8_3 (by decide)) (fun h8_3 => ?_)
      refine ew_iload_n d_Mo_opens_11 rfl ?_
      refine ew_iload d_Mo_opens_12 rfl ?_
      refine en_callS (As := [.int (nI 1), .int (nI 3)]) (st := []) (st1 := [.int (nI 84)]) d_Mo_opens_14 k_Mo_placeOf tw_819 tw_820 rfl (Nat.le_of_ble_eq_true rfl) rfl (Nat.le_of_ble_eq_true rfl) rfl rfl (c_Mo_placeOf_1_3 l g _ L M) rfl ?_
      refine en_istore (ls' := [.ref 47, .int (nI 1), .int (nI j), .int (nI 0), .int (nI 3), .int (nI 84)]) d_Mo_opens_17 (Nat.le_of_ble_eq_true rfl) rfl ?_
      refine ew_iload_n d_Mo_opens_19 rfl ?_
      refine en_if_eq (tgt := 77) d_Mo_opens_20 (by decide) (by decide) (fun h20_3 => ?_) (fun h20_3 => by exact absurd h20_3 (by decide))
      refine ew_iconst (v := nI 0) d_Mo_opens_77 (by decide) ?_
      refine en_istore_n (ls' := [.ref 47, .int (nI 1), .int (nI j), .int (nI 0), .int (nI 3), .int (nI 84)]) d_Mo_opens_78 (Nat.le_of_ble_eq_true rfl) rfl ?_
      refine en_inc (ls' := [.ref 47, .int (nI 1), .int (nI j), .int (nI 0), .int (nI 4), .int (nI 84)]) d_Mo_opens_79 rfl rfl ?_
      refine ew_goto (tgt := 5) d_Mo_opens_82 (by decide) ?_
      refine ew_iload d_Mo_opens_5 rfl ?_
      refine ew_iconst (v := nI 4) d_Mo_opens_7 (by decide) ?_
      refine en_icmp_ge (tgt := 85) d_Mo_opens_8 (by decide) (by decide) (by decide) (fun h8_4 => ?_) (fun h8_4 => by exact absurd h8_4 (by decide))
      refine ew_iload_n d_Mo_opens_85 rfl ?_
      exact ew_zret d_Mo_opens_86 rfl (by decide) (⟨by rw [show sp_vc1 (M 56) j = false from by (unfold sp_vc1; simp only [h70_1, Bool.false_and, Bool.and_false])]; rfl, rfl, rfl⟩)
    · refine ew_iconst (v := nI 1) d_Mo_opens_73 (by decide) ?_
      refine ew_goto (tgt := 78) d_Mo_opens_74 (by decide) ?_
      refine en_istore_n (ls' := [.ref 47, .int (nI 1), .int (nI j), .int (nI 1), .int (nI 1), .int (nI 70)]) d_Mo_opens_78 (Nat.le_of_ble_eq_true rfl) rfl ?_
      refine en_inc (ls' := [.ref 47, .int (nI 1), .int (nI j), .int (nI 1), .int (nI 2), .int (nI 70)]) d_Mo_opens_79 rfl rfl ?_
      refine ew_goto (tgt := 5) d_Mo_opens_82 (by decide) ?_
      refine ew_iload d_Mo_opens_5 rfl ?_
      refine ew_iconst (v := nI 4) d_Mo_opens_7 (by decide) ?_
      refine en_icmp_ge (tgt := 85) d_Mo_opens_8 (by decide) (by decide) (by decide) (fun h8_2 => by exact absurd h8_2 (by decide)) (fun h8_2 => ?_)
      refine ew_iload_n d_Mo_opens_11 rfl ?_
      refine ew_iload d_Mo_opens_12 rfl ?_
      refine en_callS (As := [.int (nI 1), .int (nI 2)]) (st := []) (st1 := [.int (nI 77)]) d_Mo_opens_14 k_Mo_placeOf tw_819 tw_820 rfl (Nat.le_of_ble_eq_true rfl) rfl (Nat.le_of_ble_eq_true rfl) rfl rfl (c_Mo_placeOf_1_2 l g _ L M) rfl ?_
      refine en_istore (ls' := [.ref 47, .int (nI 1), .int (nI j), .int (nI 1), .int (nI 2), .int (nI 77)]) d_Mo_opens_17 (Nat.le_of_ble_eq_true rfl) rfl ?_
      refine ew_iload_n d_Mo_opens_19 rfl ?_
      refine en_if_eq (tgt := 77) d_Mo_opens_20 (by decide) (by decide) (fun h20_2 => by exact absurd h20_2 (by decide)) (fun h20_2 => ?_)
      refine ew_aload_n d_Mo_opens_23 rfl ?_
      refine ew_iconst (v := nI 0) d_Mo_opens_24 (by decide) ?_
      refine ew_iload_n d_Mo_opens_25 rfl ?_
      refine ew_iload d_Mo_opens_26 rfl ?_
      refine ew_iconst (v := nI 2) d_Mo_opens_28 (by decide) ?_
      refine en_irem d_Mo_opens_29 (by first | with_reducible assumption | with_reducible exact ep_lt _ | with_reducible exact sp_its_lt _ _ _ | with_reducible exact tb_l_rt _ | with_reducible exact tb_l_x _ | with_reducible exact tb_l_o0 _ | with_reducible exact tb_l_o1 _ | with_reducible exact tb_l_va _ | with_reducible exact tb_l_ll _ | with_reducible exact tb_l_cf _ | with_reducible exact tb_l_kf _ | with_reducible exact sp_ts_lt _ _ _ _ | with_reducible exact sp_w_lt _ _ | with_reducible exact sp_cs_lt _ _ _ _ _ | with_reducible exact sp_cb_lt _ _ _ _ _ | with_reducible exact sp_ch_lt _ | with_reducible exact sp_bf_lt _ _ | with_reducible exact sp_va_lt _ _ _ | with_reducible exact sp_be_lt _ _ | with_reducible exact sp_p_lt _ _ _ | with_reducible exact sp_com_lt _ _ _ _ | with_reducible exact sp_fo_lt _ _ _ _ _ | omega) (by decide) (by decide) ?_
      refine en_eq rfl (show _ = [.int (nI 0), .int (nI j), .int (nI 0), .ref 47] from rfl) rfl ?_
      refine ew_iconst (v := nI 4) d_Mo_opens_30 (by decide) ?_
      refine en_imul d_Mo_opens_31 ?_
      refine en_eq rfl (show _ = [.int (nI 0), .int (nI j), .int (nI 0), .ref 47] from rfl) rfl ?_
      refine en_iadd d_Mo_opens_32 ?_
      refine ew_iload d_Mo_opens_33 rfl ?_
      refine ew_iconst (v := nI 2) d_Mo_opens_35 (by decide) ?_
      refine en_idiv d_Mo_opens_36 (by first | with_reducible assumption | with_reducible exact ep_lt _ | with_reducible exact sp_its_lt _ _ _ | with_reducible exact tb_l_rt _ | with_reducible exact tb_l_x _ | with_reducible exact tb_l_o0 _ | with_reducible exact tb_l_o1 _ | with_reducible exact tb_l_va _ | with_reducible exact tb_l_ll _ | with_reducible exact tb_l_cf _ | with_reducible exact tb_l_kf _ | with_reducible exact sp_ts_lt _ _ _ _ | with_reducible exact sp_w_lt _ _ | with_reducible exact sp_cs_lt _ _ _ _ _ | with_reducible exact sp_cb_lt _ _ _ _ _ | with_reducible exact sp_ch_lt _ | with_reducible exact sp_bf_lt _ _ | with_reducible exact sp_va_lt _ _ _ | with_reducible exact sp_be_lt _ _ | with_reducible exact sp_p_lt _ _ _ | with_reducible exact sp_com_lt _ _ _ _ | with_reducible exact sp_fo_lt _ _ _ _ _ | omega) (by decide) (by decide) ?_
      refine en_eq rfl (show _ = [.int (nI 1), .int (nI (j + 0)), .int (nI 0), .ref 47] from rfl) rfl ?_
      refine ew_bipush (v := nI 16) d_Mo_opens_37 (by decide) ?_
      refine en_imul d_Mo_opens_39 ?_
      refine en_eq rfl (show _ = [.int (nI 16), .int (nI (j + 0)), .int (nI 0), .ref 47] from rfl) rfl ?_
      refine en_iadd d_Mo_opens_40 ?_
      refine ew_bipush (v := nI 32) d_Mo_opens_41 (by decide) ?_
      refine en_irem d_Mo_opens_43 (by omega) (by decide) (by decide) ?_
      refine en_eq (st' := [.int (nI ((j + 16) % 32)), .int (nI 0), .ref 47]) rfl (by rw [show (nI (((j + 0) + 16) % 32)) = (nI ((j + 16) % 32)) from congrArg nI (by omega)]) rfl ?_
      refine ew_aload_n d_Mo_opens_44 rfl ?_
      refine ew_getr (ci := 9) (f := 10) d_Mo_opens_45 rfl rfl rfl tw_602 ?_
      refine ew_iload d_Mo_opens_48 rfl ?_
      refine ew_iald (j := 77) d_Mo_opens_50 rfl (rfl) (by decide) (by decide) ?_
      refine ew_aload_n d_Mo_opens_51 rfl ?_
      refine ew_getr (ci := 9) (f := 10) d_Mo_opens_52 rfl rfl rfl tw_602 ?_
      refine ew_iload d_Mo_opens_55 rfl ?_
      refine ew_iconst (v := nI 1) d_Mo_opens_57 (by decide) ?_
      refine en_iadd d_Mo_opens_58 ?_
      refine en_eq rfl (show _ = [.int (nI 78), .ref 56, .int (M 56 77), .int (nI ((j + 16) % 32)), .int (nI 0), .ref 47] from rfl) rfl ?_
      refine ew_iald (j := 78) d_Mo_opens_59 rfl (rfl) (by decide) (by decide) ?_
      refine en_callS (As := [.int (M 56 77), .int (M 56 78)]) (st := [.int (nI ((j + 16) % 32)), .int (nI 0), .ref 47]) (st1 := [.int (sp_mix (M 56 77) (M 56 78)), .int (nI ((j + 16) % 32)), .int (nI 0), .ref 47]) d_Mo_opens_60 k_Mo_mix tw_752 tw_753 rfl (Nat.le_of_ble_eq_true rfl) rfl (Nat.le_of_ble_eq_true rfl) rfl rfl (c_Mo_mix l g _ (ew_SH L) M (M 56 77) (M 56 78)) rfl ?_
      refine ew_iload d_Mo_opens_63 rfl ?_
      refine ew_iconst (v := nI 2) d_Mo_opens_65 (by decide) ?_
      refine en_iadd d_Mo_opens_66 ?_
      refine en_eq rfl (show _ = [.int (nI 79), .int (sp_mix (M 56 77) (M 56 78)), .int (nI ((j + 16) % 32)), .int (nI 0), .ref 47] from rfl) rfl ?_
      refine en_callV (As := [.int (nI 0), .int (nI ((j + 16) % 32)), .int (sp_mix (M 56 77) (M 56 78)), .int (nI 79)]) (i := 47) (ci := 9) (st := []) (st1 := [.int (ew_b (decide (sp_ro (M 56) 6 (sp_mix (M 56 77) (M 56 78)) (32 + ((j + 16) % 32)) 79 = M 56 0)))]) d_Mo_opens_67 k_Mo_leads rfl rfl tw_830 tw_832 tp_49 rfl (Nat.le_of_ble_eq_true rfl) rfl (Nat.le_of_ble_eq_true rfl) rfl rfl (c_Mo_leads0 l g _ L M ((j + 16) % 32) 79 (sp_mix (M 56 77) (M 56 78)) (by omega) (by decide)) rfl ?_
      refine en_b_eq (tgt := 77) d_Mo_opens_70 (by decide) (fun h70_2 => ?_) (fun h70_2 => ?_)
      · refine ew_iconst (v := nI 0) d_Mo_opens_77 (by decide) ?_
        refine en_istore_n (ls' := [.ref 47, .int (nI 1), .int (nI j), .int (nI 0), .int (nI 2), .int (nI 77)]) d_Mo_opens_78 (Nat.le_of_ble_eq_true rfl) rfl ?_
        refine en_inc (ls' := [.ref 47, .int (nI 1), .int (nI j), .int (nI 0), .int (nI 3), .int (nI 77)]) d_Mo_opens_79 rfl rfl ?_
        refine ew_goto (tgt := 5) d_Mo_opens_82 (by decide) ?_
        refine ew_iload d_Mo_opens_5 rfl ?_
        refine ew_iconst (v := nI 4) d_Mo_opens_7 (by decide) ?_
        refine en_icmp_ge (tgt := 85) d_Mo_opens_8 (by decide) (by decide) (by decide) (fun h8_3 => by exact absurd h8_3 (by decide)) (fun h8_3 => ?_)
        refine ew_iload_n d_Mo_opens_11 rfl ?_
        refine ew_iload d_Mo_opens_12 rfl ?_
        refine en_callS (As := [.int (nI 1), .int (nI 3)]) (st := []) (st1 := [.int (nI 84)]) d_Mo_opens_14 k_Mo_placeOf tw_819 tw_820 rfl (Nat.le_of_ble_eq_true rfl) rfl (Nat.le_of_ble_eq_true rfl) rfl rfl (c_Mo_placeOf_1_3 l g _ L M) rfl ?_
        refine en_istore (ls' := [.ref 47, .int (nI 1), .int (nI j), .int (nI 0), .int (nI 3), .int (nI 84)]) d_Mo_opens_17 (Nat.le_of_ble_eq_true rfl) rfl ?_
        refine ew_iload_n d_Mo_opens_19 rfl ?_
        refine en_if_eq (tgt := 77) d_Mo_opens_20 (by decide) (by decide) (fun h20_3 => ?_) (fun h20_3 => by exact absurd h20_3 (by decide))
        refine ew_iconst (v := nI 0) d_Mo_opens_77 (by decide) ?_
        refine en_istore_n (ls' := [.ref 47, .int (nI 1), .int (nI j), .int (nI 0), .int (nI 3), .int (nI 84)]) d_Mo_opens_78 (Nat.le_of_ble_eq_true rfl) rfl ?_
        refine en_inc (ls' := [.ref 47, .int (nI 1), .int (nI j), .int (nI 0), .int (nI 4), .int (nI 84)]) d_Mo_opens_79 rfl rfl ?_
        refine ew_goto (tgt := 5) d_Mo_opens_82 (by decide) ?_
        refine ew_iload d_Mo_opens_5 rfl ?_
        refine ew_iconst (v := nI 4) d_Mo_opens_7 (by decide) ?_
        refine en_icmp_ge (tgt := 85) d_Mo_opens_8 (by decide) (by decide) (by decide) (fun h8_4 => ?_) (fun h8_4 => by exact absurd h8_4 (by decide))
        refine ew_iload_n d_Mo_opens_85 rfl ?_
        exact ew_zret d_Mo_opens_86 rfl (by decide) (⟨by rw [show sp_vc1 (M 56) j = false from by (unfold sp_vc1; simp only [h70_2, Bool.false_and, Bool.and_false])]; rfl, rfl, rfl⟩)
      · refine ew_iconst (v := nI 1) d_Mo_opens_73 (by decide) ?_
        refine ew_goto (tgt := 78) d_Mo_opens_74 (by decide) ?_
        refine en_istore_n (ls' := [.ref 47, .int (nI 1), .int (nI j), .int (nI 1), .int (nI 2), .int (nI 77)]) d_Mo_opens_78 (Nat.le_of_ble_eq_true rfl) rfl ?_
        refine en_inc (ls' := [.ref 47, .int (nI 1), .int (nI j), .int (nI 1), .int (nI 3), .int (nI 77)]) d_Mo_opens_79 rfl rfl ?_
        refine ew_goto (tgt := 5) d_Mo_opens_82 (by decide) ?_
        refine ew_iload d_Mo_opens_5 rfl ?_
        refine ew_iconst (v := nI 4) d_Mo_opens_7 (by decide) ?_
        refine en_icmp_ge (tgt := 85) d_Mo_opens_8 (by decide) (by decide) (by decide) (fun h8_3 => by exact absurd h8_3 (by decide)) (fun h8_3 => ?_)
        refine ew_iload_n d_Mo_opens_11 rfl ?_
        refine ew_iload d_Mo_opens_12 rfl ?_
        refine en_callS (As := [.int (nI 1), .int (nI 3)]) (st := []) (st1 := [.int (nI 84)]) d_Mo_opens_14 k_Mo_placeOf tw_819 tw_820 rfl (Nat.le_of_ble_eq_true rfl) rfl (Nat.le_of_ble_eq_true rfl) rfl rfl (c_Mo_placeOf_1_3 l g _ L M) rfl ?_
        refine en_istore (ls' := [.ref 47, .int (nI 1), .int (nI j), .int (nI 1), .int (nI 3), .int (nI 84)]) d_Mo_opens_17 (Nat.le_of_ble_eq_true rfl) rfl ?_
        refine ew_iload_n d_Mo_opens_19 rfl ?_
        refine en_if_eq (tgt := 77) d_Mo_opens_20 (by decide) (by decide) (fun h20_3 => by exact absurd h20_3 (by decide)) (fun h20_3 => ?_)
        refine ew_aload_n d_Mo_opens_23 rfl ?_
        refine ew_iconst (v := nI 0) d_Mo_opens_24 (by decide) ?_
        refine ew_iload_n d_Mo_opens_25 rfl ?_
        refine ew_iload d_Mo_opens_26 rfl ?_
        refine ew_iconst (v := nI 2) d_Mo_opens_28 (by decide) ?_
        refine en_irem d_Mo_opens_29 (by first | with_reducible assumption | with_reducible exact ep_lt _ | with_reducible exact sp_its_lt _ _ _ | with_reducible exact tb_l_rt _ | with_reducible exact tb_l_x _ | with_reducible exact tb_l_o0 _ | with_reducible exact tb_l_o1 _ | with_reducible exact tb_l_va _ | with_reducible exact tb_l_ll _ | with_reducible exact tb_l_cf _ | with_reducible exact tb_l_kf _ | with_reducible exact sp_ts_lt _ _ _ _ | with_reducible exact sp_w_lt _ _ | with_reducible exact sp_cs_lt _ _ _ _ _ | with_reducible exact sp_cb_lt _ _ _ _ _ | with_reducible exact sp_ch_lt _ | with_reducible exact sp_bf_lt _ _ | with_reducible exact sp_va_lt _ _ _ | with_reducible exact sp_be_lt _ _ | with_reducible exact sp_p_lt _ _ _ | with_reducible exact sp_com_lt _ _ _ _ | with_reducible exact sp_fo_lt _ _ _ _ _ | omega) (by decide) (by decide) ?_
        refine en_eq rfl (show _ = [.int (nI 1), .int (nI j), .int (nI 0), .ref 47] from rfl) rfl ?_
        refine ew_iconst (v := nI 4) d_Mo_opens_30 (by decide) ?_
        refine en_imul d_Mo_opens_31 ?_
        refine en_eq rfl (show _ = [.int (nI 4), .int (nI j), .int (nI 0), .ref 47] from rfl) rfl ?_
        refine en_iadd d_Mo_opens_32 ?_
        refine ew_iload d_Mo_opens_33 rfl ?_
        refine ew_iconst (v := nI 2) d_Mo_opens_35 (by decide) ?_
        refine en_idiv d_Mo_opens_36 (by first | with_reducible assumption | with_reducible exact ep_lt _ | with_reducible exact sp_its_lt _ _ _ | with_reducible exact tb_l_rt _ | with_reducible exact tb_l_x _ | with_reducible exact tb_l_o0 _ | with_reducible exact tb_l_o1 _ | with_reducible exact tb_l_va _ | with_reducible exact tb_l_ll _ | with_reducible exact tb_l_cf _ | with_reducible exact tb_l_kf _ | with_reducible exact sp_ts_lt _ _ _ _ | with_reducible exact sp_w_lt _ _ | with_reducible exact sp_cs_lt _ _ _ _ _ | with_reducible exact sp_cb_lt _ _ _ _ _ | with_reducible exact sp_ch_lt _ | with_reducible exact sp_bf_lt _ _ | with_reducible exact sp_va_lt _ _ _ | with_reducible exact sp_be_lt _ _ | with_reducible exact sp_p_lt _ _ _ | with_reducible exact sp_com_lt _ _ _ _ | with_reducible exact sp_fo_lt _ _ _ _ _ | omega) (by decide) (by decide) ?_
        refine en_eq rfl (show _ = [.int (nI 1), .int (nI (j + 4)), .int (nI 0), .ref 47] from rfl) rfl ?_
        refine ew_bipush (v := nI 16) d_Mo_opens_37 (by decide) ?_
        refine en_imul d_Mo_opens_39 ?_
        refine en_eq rfl (show _ = [.int (nI 16), .int (nI (j + 4)), .int (nI 0), .ref 47] from rfl) rfl ?_
        refine en_iadd d_Mo_opens_40 ?_
        refine ew_bipush (v := nI 32) d_Mo_opens_41 (by decide) ?_
        refine en_irem d_Mo_opens_43 (by omega) (by decide) (by decide) ?_
        refine en_eq (st' := [.int (nI ((j + 20) % 32)), .int (nI 0), .ref 47]) rfl (by rw [show (nI (((j + 4) + 16) % 32)) = (nI ((j + 20) % 32)) from congrArg nI (by omega)]) rfl ?_
        refine ew_aload_n d_Mo_opens_44 rfl ?_
        refine ew_getr (ci := 9) (f := 10) d_Mo_opens_45 rfl rfl rfl tw_602 ?_
        refine ew_iload d_Mo_opens_48 rfl ?_
        refine ew_iald (j := 84) d_Mo_opens_50 rfl (rfl) (by decide) (by decide) ?_
        refine ew_aload_n d_Mo_opens_51 rfl ?_
        refine ew_getr (ci := 9) (f := 10) d_Mo_opens_52 rfl rfl rfl tw_602 ?_
        refine ew_iload d_Mo_opens_55 rfl ?_
        refine ew_iconst (v := nI 1) d_Mo_opens_57 (by decide) ?_
        refine en_iadd d_Mo_opens_58 ?_
        refine en_eq rfl (show _ = [.int (nI 85), .ref 56, .int (M 56 84), .int (nI ((j + 20) % 32)), .int (nI 0), .ref 47] from rfl) rfl ?_
        refine ew_iald (j := 85) d_Mo_opens_59 rfl (rfl) (by decide) (by decide) ?_
        refine en_callS (As := [.int (M 56 84), .int (M 56 85)]) (st := [.int (nI ((j + 20) % 32)), .int (nI 0), .ref 47]) (st1 := [.int (sp_mix (M 56 84) (M 56 85)), .int (nI ((j + 20) % 32)), .int (nI 0), .ref 47]) d_Mo_opens_60 k_Mo_mix tw_752 tw_753 rfl (Nat.le_of_ble_eq_true rfl) rfl (Nat.le_of_ble_eq_true rfl) rfl rfl (c_Mo_mix l g _ (ew_SH L) M (M 56 84) (M 56 85)) rfl ?_
        refine ew_iload d_Mo_opens_63 rfl ?_
        refine ew_iconst (v := nI 2) d_Mo_opens_65 (by decide) ?_
        refine en_iadd d_Mo_opens_66 ?_
        refine en_eq rfl (show _ = [.int (nI 86), .int (sp_mix (M 56 84) (M 56 85)), .int (nI ((j + 20) % 32)), .int (nI 0), .ref 47] from rfl) rfl ?_
        refine en_callV (As := [.int (nI 0), .int (nI ((j + 20) % 32)), .int (sp_mix (M 56 84) (M 56 85)), .int (nI 86)]) (i := 47) (ci := 9) (st := []) (st1 := [.int (ew_b (decide (sp_ro (M 56) 6 (sp_mix (M 56 84) (M 56 85)) (32 + ((j + 20) % 32)) 86 = M 56 0)))]) d_Mo_opens_67 k_Mo_leads rfl rfl tw_830 tw_832 tp_49 rfl (Nat.le_of_ble_eq_true rfl) rfl (Nat.le_of_ble_eq_true rfl) rfl rfl (c_Mo_leads0 l g _ L M ((j + 20) % 32) 86 (sp_mix (M 56 84) (M 56 85)) (by omega) (by decide)) rfl ?_
        refine en_b_eq (tgt := 77) d_Mo_opens_70 (by decide) (fun h70_3 => ?_) (fun h70_3 => ?_)
        · refine ew_iconst (v := nI 0) d_Mo_opens_77 (by decide) ?_
          refine en_istore_n (ls' := [.ref 47, .int (nI 1), .int (nI j), .int (nI 0), .int (nI 3), .int (nI 84)]) d_Mo_opens_78 (Nat.le_of_ble_eq_true rfl) rfl ?_
          refine en_inc (ls' := [.ref 47, .int (nI 1), .int (nI j), .int (nI 0), .int (nI 4), .int (nI 84)]) d_Mo_opens_79 rfl rfl ?_
          refine ew_goto (tgt := 5) d_Mo_opens_82 (by decide) ?_
          refine ew_iload d_Mo_opens_5 rfl ?_
          refine ew_iconst (v := nI 4) d_Mo_opens_7 (by decide) ?_
          refine en_icmp_ge (tgt := 85) d_Mo_opens_8 (by decide) (by decide) (by decide) (fun h8_4 => ?_) (fun h8_4 => by exact absurd h8_4 (by decide))
          refine ew_iload_n d_Mo_opens_85 rfl ?_
          exact ew_zret d_Mo_opens_86 rfl (by decide) (⟨by rw [show sp_vc1 (M 56) j = false from by (unfold sp_vc1; simp only [h70_3, Bool.false_and, Bool.and_false])]; rfl, rfl, rfl⟩)
        · refine ew_iconst (v := nI 1) d_Mo_opens_73 (by decide) ?_
          refine ew_goto (tgt := 78) d_Mo_opens_74 (by decide) ?_
          refine en_istore_n (ls' := [.ref 47, .int (nI 1), .int (nI j), .int (nI 1), .int (nI 3), .int (nI 84)]) d_Mo_opens_78 (Nat.le_of_ble_eq_true rfl) rfl ?_
          refine en_inc (ls' := [.ref 47, .int (nI 1), .int (nI j), .int (nI 1), .int (nI 4), .int (nI 84)]) d_Mo_opens_79 rfl rfl ?_
          refine ew_goto (tgt := 5) d_Mo_opens_82 (by decide) ?_
          refine ew_iload d_Mo_opens_5 rfl ?_
          refine ew_iconst (v := nI 4) d_Mo_opens_7 (by decide) ?_
          refine en_icmp_ge (tgt := 85) d_Mo_opens_8 (by decide) (by decide) (by decide) (fun h8_4 => ?_) (fun h8_4 => by exact absurd h8_4 (by decide))
          refine ew_iload_n d_Mo_opens_85 rfl ?_
          exact ew_zret d_Mo_opens_86 rfl (by decide) (⟨by rw [show sp_vc1 (M 56) j = true from by (unfold sp_vc1; simp only [h70, h70_1, h70_2, h70_3, Bool.and_self])]; rfl, rfl, rfl⟩)
set_option maxRecDepth 100000 in
theorem c_Mo_opensLayer10 (l : Launch) (g : ew_G) (d L : Nat) (M : ew_M) (j : Nat) (hj : j < 16) :
    Ew l g (d + 2) 0 0 m_Mo_opensLayer 0 [.ref 47, .int (nI 1), .int (nI j), .int (nI 0), .retAddr 0, .retAddr 0, .retAddr 0, .retAddr 0] [] (ew_SH L) M (ew_q (some (.int (ew_b (sp_vl10 (M 56) j)))) (ew_SH L) M) := by
  refine ew_iconst (v := nI 1) d_Mo_opensLayer_0 (by decide) ?_
  refine en_istore (ls' := [.ref 47, .int (nI 1), .int (nI j), .int (nI 0), .int (nI 1), .retAddr 0, .retAddr 0, .retAddr 0]) d_Mo_opensLayer_1 (Nat.le_of_ble_eq_true rfl) rfl ?_
  refine ew_bipush (v := nI 16) d_Mo_opensLayer_3 (by decide) ?_
  refine ew_iload_n d_Mo_opensLayer_5 rfl ?_
  refine ew_ishr d_Mo_opensLayer_6 ?_
  refine en_eq (st' := [.int (nI 16)]) rfl (by rw [show ((nI 16) >>> ((nI 0) &&& 31)) = (nI 16) from by decide]) rfl ?_
  refine en_istore (ls' := [.ref 47, .int (nI 1), .int (nI j), .int (nI 0), .int (nI 1), .int (nI 16), .retAddr 0, .retAddr 0]) d_Mo_opensLayer_7 (Nat.le_of_ble_eq_true rfl) rfl ?_
  refine ew_iconst (v := nI 0) d_Mo_opensLayer_9 (by decide) ?_
  refine en_istore (ls' := [.ref 47, .int (nI 1), .int (nI j), .int (nI 0), .int (nI 1), .int (nI 16), .int (nI 0), .retAddr 0]) d_Mo_opensLayer_10 (Nat.le_of_ble_eq_true rfl) rfl ?_
  refine ew_iload d_Mo_opensLayer_12 rfl ?_
  refine ew_iconst (v := nI 2) d_Mo_opensLayer_14 (by decide) ?_
  refine en_icmp_ge (tgt := 87) d_Mo_opensLayer_15 (by decide) (by decide) (by decide) (fun h15 => by exact absurd h15 (by decide)) (fun h15 => ?_)
  refine ew_iload_n d_Mo_opensLayer_18 rfl ?_
  refine ew_iconst (v := nI 4) d_Mo_opensLayer_19 (by decide) ?_
  refine ew_iconst (v := nI 2) d_Mo_opensLayer_20 (by decide) ?_
  refine ew_iload_n d_Mo_opensLayer_21 rfl ?_
  refine en_imul d_Mo_opensLayer_22 ?_
  refine en_eq rfl (show _ = [.int (nI 0), .int (nI 4), .int (nI 1)] from rfl) rfl ?_
  refine en_iadd d_Mo_opensLayer_23 ?_
  refine en_eq rfl (show _ = [.int (nI 4), .int (nI 1)] from rfl) rfl ?_
  refine ew_iload d_Mo_opensLayer_24 rfl ?_
  refine en_iadd d_Mo_opensLayer_26 ?_
  refine en_eq rfl (show _ = [.int (nI 4), .int (nI 1)] from rfl) rfl ?_
  refine en_callS (As := [.int (nI 1), .int (nI 4)]) (st := []) (st1 := [.int (nI 91)]) d_Mo_opensLayer_27 k_Mo_placeOf tw_819 tw_820 rfl (Nat.le_of_ble_eq_true rfl) rfl (Nat.le_of_ble_eq_true rfl) rfl rfl (c_Mo_placeOf_1_4 l g _ L M) rfl ?_
  refine en_istore (ls' := [.ref 47, .int (nI 1), .int (nI j), .int (nI 0), .int (nI 1), .int (nI 16), .int (nI 0), .int (nI 91)]) d_Mo_opensLayer_30 (Nat.le_of_ble_eq_true rfl) rfl ?_
  refine ew_iload d_Mo_opensLayer_32 rfl ?_
  refine en_if_eq (tgt := 78) d_Mo_opensLayer_34 (by decide) (by decide) (fun h34 => by exact absurd h34 (by decide)) (fun h34 => ?_)
  refine ew_aload_n d_Mo_opensLayer_37 rfl ?_
  refine ew_iload_n d_Mo_opensLayer_38 rfl ?_
  refine ew_iconst (v := nI 1) d_Mo_opensLayer_39 (by decide) ?_
  refine en_iadd d_Mo_opensLayer_40 ?_
  refine en_eq rfl (show _ = [.int (nI 1), .ref 47] from rfl) rfl ?_
  refine ew_iload_n d_Mo_opensLayer_41 rfl ?_
  refine ew_iload d_Mo_opensLayer_42 rfl ?_
  refine en_irem d_Mo_opensLayer_44 (by omega) (by decide) (by decide) ?_
  refine ew_iload d_Mo_opensLayer_45 rfl ?_
  refine ew_iload d_Mo_opensLayer_47 rfl ?_
  refine en_imul d_Mo_opensLayer_49 ?_
  refine en_eq rfl (show _ = [.int (nI 0), .int (nI (j % 16)), .int (nI 1), .ref 47] from rfl) rfl ?_
  refine en_iadd d_Mo_opensLayer_50 ?_
  refine en_eq (st' := [.int (nI (j % 16 + 16 * 0)), .int (nI 1), .ref 47]) rfl (by rw [show (nI ((j % 16) + 0)) = (nI (j % 16 + 16 * 0)) from rfl]) rfl ?_
  refine ew_aload_n d_Mo_opensLayer_51 rfl ?_
  refine ew_getr (ci := 9) (f := 10) d_Mo_opensLayer_52 rfl rfl rfl tw_602 ?_
  refine ew_iload d_Mo_opensLayer_55 rfl ?_
  refine ew_iald (j := 91) d_Mo_opensLayer_57 rfl (rfl) (by decide) (by decide) ?_
  refine ew_sipush (v := nI 12289) d_Mo_opensLayer_58 (by decide) ?_
  refine en_callS (As := [.int (M 56 91), .int (nI 12289)]) (st := [.int (nI (j % 16 + 16 * 0)), .int (nI 1), .ref 47]) (st1 := [.int (sp_mix (M 56 91) (nI 12289)), .int (nI (j % 16 + 16 * 0)), .int (nI 1), .ref 47]) d_Mo_opensLayer_61 k_Mo_mix tw_752 tw_753 rfl (Nat.le_of_ble_eq_true rfl) rfl (Nat.le_of_ble_eq_true rfl) rfl rfl (c_Mo_mix l g _ (ew_SH L) M (M 56 91) (nI 12289)) rfl ?_
  refine ew_iload d_Mo_opensLayer_64 rfl ?_
  refine ew_iconst (v := nI 1) d_Mo_opensLayer_66 (by decide) ?_
  refine en_iadd d_Mo_opensLayer_67 ?_
  refine en_eq rfl (show _ = [.int (nI 92), .int (sp_mix (M 56 91) (nI 12289)), .int (nI (j % 16 + 16 * 0)), .int (nI 1), .ref 47] from rfl) rfl ?_
  refine en_callV (As := [.int (nI 1), .int (nI (j % 16 + 16 * 0)), .int (sp_mix (M 56 91) (nI 12289)), .int (nI 92)]) (i := 47) (ci := 9) (st := []) (st1 := [.int (ew_b (decide (sp_ro (M 56) 6 (sp_mix (M 56 91) (nI 12289)) (32 + (j % 16 + 16 * 0)) 92 = M 56 1)))]) d_Mo_opensLayer_68 k_Mo_leads rfl rfl tw_830 tw_832 tp_49 rfl (Nat.le_of_ble_eq_true rfl) rfl (Nat.le_of_ble_eq_true rfl) rfl rfl (c_Mo_leads1 l g _ L M (j % 16 + 16 * 0) 92 (sp_mix (M 56 91) (nI 12289)) (by omega) (by decide)) rfl ?_
  refine en_b_eq (tgt := 78) d_Mo_opensLayer_71 (by decide) (fun h71 => ?_) (fun h71 => ?_)
  · refine ew_iconst (v := nI 0) d_Mo_opensLayer_78 (by decide) ?_
    refine en_istore (ls' := [.ref 47, .int (nI 1), .int (nI j), .int (nI 0), .int (nI 0), .int (nI 16), .int (nI 0), .int (nI 91)]) d_Mo_opensLayer_79 (Nat.le_of_ble_eq_true rfl) rfl ?_
    refine en_inc (ls' := [.ref 47, .int (nI 1), .int (nI j), .int (nI 0), .int (nI 0), .int (nI 16), .int (nI 1), .int (nI 91)]) d_Mo_opensLayer_81 rfl rfl ?_
    refine ew_goto (tgt := 12) d_Mo_opensLayer_84 (by decide) ?_
    refine ew_iload d_Mo_opensLayer_12 rfl ?_
    refine ew_iconst (v := nI 2) d_Mo_opensLayer_14 (by decide) ?_
    refine en_icmp_ge (tgt := 87) d_Mo_opensLayer_15 (by decide) (by decide) (by decide) (fun h15_1 => by exact absurd h15_1 (by decide)) (fun h15_1 => ?_)
    refine ew_iload_n d_Mo_opensLayer_18 rfl ?_
    refine ew_iconst (v := nI 4) d_Mo_opensLayer_19 (by decide) ?_
    refine ew_iconst (v := nI 2) d_Mo_opensLayer_20 (by decide) ?_
    refine ew_iload_n d_Mo_opensLayer_21 rfl ?_
    refine en_imul d_Mo_opensLayer_22 ?_
    refine en_eq rfl (show _ = [.int (nI 0), .int (nI 4), .int (nI 1)] from rfl) rfl ?_
    refine en_iadd d_Mo_opensLayer_23 ?_
    refine en_eq rfl (show _ = [.int (nI 4), .int (nI 1)] from rfl) rfl ?_
    refine ew_iload d_Mo_opensLayer_24 rfl ?_
    refine en_iadd d_Mo_opensLayer_26 ?_
    refine en_eq rfl (show _ = [.int (nI 5), .int (nI 1)] from rfl) rfl ?_
    refine en_callS (As := [.int (nI 1), .int (nI 5)]) (st := []) (st1 := [.int (nI 97)]) d_Mo_opensLayer_27 k_Mo_placeOf tw_819 tw_820 rfl (Nat.le_of_ble_eq_true rfl) rfl (Nat.le_of_ble_eq_true rfl) rfl rfl (c_Mo_placeOf_1_5 l g _ L M) rfl ?_
    refine en_istore (ls' := [.ref 47, .int (nI 1), .int (nI j), .int (nI 0), .int (nI 0), .int (nI 16), .int (nI 1), .int (nI 97)]) d_Mo_opensLayer_30 (Nat.le_of_ble_eq_true rfl) rfl ?_
    refine ew_iload d_Mo_opensLayer_32 rfl ?_
    refine en_if_eq (tgt := 78) d_Mo_opensLayer_34 (by decide) (by decide) (fun h34_1 => ?_) (fun h34_1 => by exact absurd h34_1 (by decide))
    refine ew_iconst (v := nI 0) d_Mo_opensLayer_78 (by decide) ?_
    refine en_istore (ls' := [.ref 47, .int (nI 1), .int (nI j), .int (nI 0), .int (nI 0), .int (nI 16), .int (nI 1), .int (nI 97)]) d_Mo_opensLayer_79 (Nat.le_of_ble_eq_true rfl) rfl ?_
    refine en_inc (ls' := [.ref 47, .int (nI 1), .int (nI j), .int (nI 0), .int (nI 0), .int (nI 16), .int (nI 2), .int (nI 97)]) d_Mo_opensLayer_81 rfl rfl ?_
    refine ew_goto (tgt := 12) d_Mo_opensLayer_84 (by decide) ?_
    refine ew_iload d_Mo_opensLayer_12 rfl ?_
    refine ew_iconst (v := nI 2) d_Mo_opensLayer_14 (by decide) ?_
    refine en_icmp_ge (tgt := 87) d_Mo_opensLayer_15 (by decide) (by decide) (by decide) (fun h15_2 => ?_) (fun h15_2 => by exact absurd h15_2 (by decide))
    refine ew_iload d_Mo_opensLayer_87 rfl ?_
    exact ew_zret d_Mo_opensLayer_89 rfl (by decide) (⟨by rw [show sp_vl10 (M 56) j = false from by (unfold sp_vl10; simp only [h71, Bool.false_and, Bool.and_false])]; rfl, rfl, rfl⟩)
  · refine ew_iconst (v := nI 1) d_Mo_opensLayer_74 (by decide) ?_
    refine ew_goto (tgt := 79) d_Mo_opensLayer_75 (by decide) ?_
    refine en_istore (ls' := [.ref 47, .int (nI 1), .int (nI j), .int (nI 0), .int (nI 1), .int (nI 16), .int (nI 0), .int (nI 91)]) d_Mo_opensLayer_79 (Nat.le_of_ble_eq_true rfl) rfl ?_
    refine en_inc (ls' := [.ref 47, .int (nI 1), .int (nI j), .int (nI 0), .int (nI 1), .int (nI 16), .int (nI 1), .int (nI 91)]) d_Mo_opensLayer_81 rfl rfl ?_
    refine ew_goto (tgt := 12) d_Mo_opensLayer_84 (by decide) ?_
    refine ew_iload d_Mo_opensLayer_12 rfl ?_
    refine ew_iconst (v := nI 2) d_Mo_opensLayer_14 (by decide) ?_
    refine en_icmp_ge (tgt := 87) d_Mo_opensLayer_15 (by decide) (by decide) (by decide) (fun h15_1 => by exact absurd h15_1 (by decide)) (fun h15_1 => ?_)
    refine ew_iload_n d_Mo_opensLayer_18 rfl ?_
    refine ew_iconst (v := nI 4) d_Mo_opensLayer_19 (by decide) ?_
    refine ew_iconst (v := nI 2) d_Mo_opensLayer_20 (by decide) ?_
    refine ew_iload_n d_Mo_opensLayer_21 rfl ?_
    refine en_imul d_Mo_opensLayer_22 ?_
    refine en_eq rfl (show _ = [.int (nI 0), .int (nI 4), .int (nI 1)] from rfl) rfl ?_
    refine en_iadd d_Mo_opensLayer_23 ?_
    refine en_eq rfl (show _ = [.int (nI 4), .int (nI 1)] from rfl) rfl ?_
    refine ew_iload d_Mo_opensLayer_24 rfl ?_
    refine en_iadd d_Mo_opensLayer_26 ?_
    refine en_eq rfl (show _ = [.int (nI 5), .int (nI 1)] from rfl) rfl ?_
    refine en_callS (As := [.int (nI 1), .int (nI 5)]) (st := []) (st1 := [.int (nI 97)]) d_Mo_opensLayer_27 k_Mo_placeOf tw_819 tw_820 rfl (Nat.le_of_ble_eq_true rfl) rfl (Nat.le_of_ble_eq_true rfl) rfl rfl (c_Mo_placeOf_1_5 l g _ L M) rfl ?_
    refine en_istore (ls' := [.ref 47, .int (nI 1), .int (nI j), .int (nI 0), .int (nI 1), .int (nI 16), .int (nI 1), .int (nI 97)]) d_Mo_opensLayer_30 (Nat.le_of_ble_eq_true rfl) rfl ?_
    refine ew_iload d_Mo_opensLayer_32 rfl ?_
    refine en_if_eq (tgt := 78) d_Mo_opensLayer_34 (by decide) (by decide) (fun h34_1 => by exact absurd h34_1 (by decide)) (fun h34_1 => ?_)
    refine ew_aload_n d_Mo_opensLayer_37 rfl ?_
    refine ew_iload_n d_Mo_opensLayer_38 rfl ?_
    refine ew_iconst (v := nI 1) d_Mo_opensLayer_39 (by decide) ?_
    refine en_iadd d_Mo_opensLayer_40 ?_
    refine en_eq rfl (show _ = [.int (nI 1), .ref 47] from rfl) rfl ?_
    refine ew_iload_n d_Mo_opensLayer_41 rfl ?_
    refine ew_iload d_Mo_opensLayer_42 rfl ?_
    refine en_irem d_Mo_opensLayer_44 (by omega) (by decide) (by decide) ?_
    refine ew_iload d_Mo_opensLayer_45 rfl ?_
    refine ew_iload d_Mo_opensLayer_47 rfl ?_
    refine en_imul d_Mo_opensLayer_49 ?_
    refine en_eq rfl (show _ = [.int (nI 16), .int (nI (j % 16)), .int (nI 1), .ref 47] from rfl) rfl ?_
    refine en_iadd d_Mo_opensLayer_50 ?_
    refine en_eq (st' := [.int (nI (j % 16 + 16 * 1)), .int (nI 1), .ref 47]) rfl (by rw [show (nI ((j % 16) + 16)) = (nI (j % 16 + 16 * 1)) from rfl]) rfl ?_
    refine ew_aload_n d_Mo_opensLayer_51 rfl ?_
    refine ew_getr (ci := 9) (f := 10) d_Mo_opensLayer_52 rfl rfl rfl tw_602 ?_
    refine ew_iload d_Mo_opensLayer_55 rfl ?_
    refine ew_iald (j := 97) d_Mo_opensLayer_57 rfl (rfl) (by decide) (by decide) ?_
    refine ew_sipush (v := nI 12289) d_Mo_opensLayer_58 (by decide) ?_
    refine en_callS (As := [.int (M 56 97), .int (nI 12289)]) (st := [.int (nI (j % 16 + 16 * 1)), .int (nI 1), .ref 47]) (st1 := [.int (sp_mix (M 56 97) (nI 12289)), .int (nI (j % 16 + 16 * 1)), .int (nI 1), .ref 47]) d_Mo_opensLayer_61 k_Mo_mix tw_752 tw_753 rfl (Nat.le_of_ble_eq_true rfl) rfl (Nat.le_of_ble_eq_true rfl) rfl rfl (c_Mo_mix l g _ (ew_SH L) M (M 56 97) (nI 12289)) rfl ?_
    refine ew_iload d_Mo_opensLayer_64 rfl ?_
    refine ew_iconst (v := nI 1) d_Mo_opensLayer_66 (by decide) ?_
    refine en_iadd d_Mo_opensLayer_67 ?_
    refine en_eq rfl (show _ = [.int (nI 98), .int (sp_mix (M 56 97) (nI 12289)), .int (nI (j % 16 + 16 * 1)), .int (nI 1), .ref 47] from rfl) rfl ?_
    refine en_callV (As := [.int (nI 1), .int (nI (j % 16 + 16 * 1)), .int (sp_mix (M 56 97) (nI 12289)), .int (nI 98)]) (i := 47) (ci := 9) (st := []) (st1 := [.int (ew_b (decide (sp_ro (M 56) 6 (sp_mix (M 56 97) (nI 12289)) (32 + (j % 16 + 16 * 1)) 98 = M 56 1)))]) d_Mo_opensLayer_68 k_Mo_leads rfl rfl tw_830 tw_832 tp_49 rfl (Nat.le_of_ble_eq_true rfl) rfl (Nat.le_of_ble_eq_true rfl) rfl rfl (c_Mo_leads1 l g _ L M (j % 16 + 16 * 1) 98 (sp_mix (M 56 97) (nI 12289)) (by omega) (by decide)) rfl ?_
    refine en_b_eq (tgt := 78) d_Mo_opensLayer_71 (by decide) (fun h71_1 => ?_) (fun h71_1 => ?_)
    · refine ew_iconst (v := nI 0) d_Mo_opensLayer_78 (by decide) ?_
      refine en_istore (ls' := [.ref 47, .int (nI 1), .int (nI j), .int (nI 0), .int (nI 0), .int (nI 16), .int (nI 1), .int (nI 97)]) d_Mo_opensLayer_79 (Nat.le_of_ble_eq_true rfl) rfl ?_
      refine en_inc (ls' := [.ref 47, .int (nI 1), .int (nI j), .int (nI 0), .int (nI 0), .int (nI 16), .int (nI 2), .int (nI 97)]) d_Mo_opensLayer_81 rfl rfl ?_
      refine ew_goto (tgt := 12) d_Mo_opensLayer_84 (by decide) ?_
      refine ew_iload d_Mo_opensLayer_12 rfl ?_
      refine ew_iconst (v := nI 2) d_Mo_opensLayer_14 (by decide) ?_
      refine en_icmp_ge (tgt := 87) d_Mo_opensLayer_15 (by decide) (by decide) (by decide) (fun h15_2 => ?_) (fun h15_2 => by exact absurd h15_2 (by decide))
      refine ew_iload d_Mo_opensLayer_87 rfl ?_
      exact ew_zret d_Mo_opensLayer_89 rfl (by decide) (⟨by rw [show sp_vl10 (M 56) j = false from by (unfold sp_vl10; simp only [h71_1, Bool.false_and, Bool.and_false])]; rfl, rfl, rfl⟩)
    · refine ew_iconst (v := nI 1) d_Mo_opensLayer_74 (by decide) ?_
      refine ew_goto (tgt := 79) d_Mo_opensLayer_75 (by decide) ?_
      refine en_istore (ls' := [.ref 47, .int (nI 1), .int (nI j), .int (nI 0), .int (nI 1), .int (nI 16), .int (nI 1), .int (nI 97)]) d_Mo_opensLayer_79 (Nat.le_of_ble_eq_true rfl) rfl ?_
      refine en_inc (ls' := [.ref 47, .int (nI 1), .int (nI j), .int (nI 0), .int (nI 1), .int (nI 16), .int (nI 2), .int (nI 97)]) d_Mo_opensLayer_81 rfl rfl ?_
      refine ew_goto (tgt := 12) d_Mo_opensLayer_84 (by decide) ?_
      refine ew_iload d_Mo_opensLayer_12 rfl ?_
      refine ew_iconst (v := nI 2) d_Mo_opensLayer_14 (by decide) ?_
      refine en_icmp_ge (tgt := 87) d_Mo_opensLayer_15 (by decide) (by decide) (by decide) (fun h15_2 => ?_) (fun h15_2 => by exact absurd h15_2 (by decide))
      refine ew_iload d_Mo_opensLayer_87 rfl ?_
      exact ew_zret d_Mo_opensLayer_89 rfl (by decide) (⟨by rw [show sp_vl10 (M 56) j = true from by (unfold sp_vl10; simp only [h71, h71_1, Bool.and_self])]; rfl, rfl, rfl⟩)
set_option maxRecDepth 100000 in
theorem c_Mo_opensLayer11 (l : Launch) (g : ew_G) (d L : Nat) (M : ew_M) (j : Nat) (hj : j < 16) :
    Ew l g (d + 2) 0 0 m_Mo_opensLayer 0 [.ref 47, .int (nI 1), .int (nI j), .int (nI 1), .retAddr 0, .retAddr 0, .retAddr 0, .retAddr 0] [] (ew_SH L) M (ew_q (some (.int (ew_b (sp_vl11 (M 56) j)))) (ew_SH L) M) := by
  refine ew_iconst (v := nI 1) d_Mo_opensLayer_0 (by decide) ?_
  refine en_istore (ls' := [.ref 47, .int (nI 1), .int (nI j), .int (nI 1), .int (nI 1), .retAddr 0, .retAddr 0, .retAddr 0]) d_Mo_opensLayer_1 (Nat.le_of_ble_eq_true rfl) rfl ?_
  refine ew_bipush (v := nI 16) d_Mo_opensLayer_3 (by decide) ?_
  refine ew_iload_n d_Mo_opensLayer_5 rfl ?_
  refine ew_ishr d_Mo_opensLayer_6 ?_
  refine en_eq (st' := [.int (nI 8)]) rfl (by rw [show ((nI 16) >>> ((nI 1) &&& 31)) = (nI 8) from by decide]) rfl ?_
  refine en_istore (ls' := [.ref 47, .int (nI 1), .int (nI j), .int (nI 1), .int (nI 1), .int (nI 8), .retAddr 0, .retAddr 0]) d_Mo_opensLayer_7 (Nat.le_of_ble_eq_true rfl) rfl ?_
  refine ew_iconst (v := nI 0) d_Mo_opensLayer_9 (by decide) ?_
  refine en_istore (ls' := [.ref 47, .int (nI 1), .int (nI j), .int (nI 1), .int (nI 1), .int (nI 8), .int (nI 0), .retAddr 0]) d_Mo_opensLayer_10 (Nat.le_of_ble_eq_true rfl) rfl ?_
  refine ew_iload d_Mo_opensLayer_12 rfl ?_
  refine ew_iconst (v := nI 2) d_Mo_opensLayer_14 (by decide) ?_
  refine en_icmp_ge (tgt := 87) d_Mo_opensLayer_15 (by decide) (by decide) (by decide) (fun h15 => by exact absurd h15 (by decide)) (fun h15 => ?_)
  refine ew_iload_n d_Mo_opensLayer_18 rfl ?_
  refine ew_iconst (v := nI 4) d_Mo_opensLayer_19 (by decide) ?_
  refine ew_iconst (v := nI 2) d_Mo_opensLayer_20 (by decide) ?_
  refine ew_iload_n d_Mo_opensLayer_21 rfl ?_
  refine en_imul d_Mo_opensLayer_22 ?_
  refine en_eq rfl (show _ = [.int (nI 2), .int (nI 4), .int (nI 1)] from rfl) rfl ?_
  refine en_iadd d_Mo_opensLayer_23 ?_
  refine en_eq rfl (show _ = [.int (nI 6), .int (nI 1)] from rfl) rfl ?_
  refine ew_iload d_Mo_opensLayer_24 rfl ?_
  refine en_iadd d_Mo_opensLayer_26 ?_
  refine en_eq rfl (show _ = [.int (nI 6), .int (nI 1)] from rfl) rfl ?_
  refine en_callS (As := [.int (nI 1), .int (nI 6)]) (st := []) (st1 := [.int (nI 103)]) d_Mo_opensLayer_27 k_Mo_placeOf tw_819 tw_820 rfl (Nat.le_of_ble_eq_true rfl) rfl (Nat.le_of_ble_eq_true rfl) rfl rfl (c_Mo_placeOf_1_6 l g _ L M) rfl ?_
  refine en_istore (ls' := [.ref 47, .int (nI 1), .int (nI j), .int (nI 1), .int (nI 1), .int (nI 8), .int (nI 0), .int (nI 103)]) d_Mo_opensLayer_30 (Nat.le_of_ble_eq_true rfl) rfl ?_
  refine ew_iload d_Mo_opensLayer_32 rfl ?_
  refine en_if_eq (tgt := 78) d_Mo_opensLayer_34 (by decide) (by decide) (fun h34 => by exact absurd h34 (by decide)) (fun h34 => ?_)
  refine ew_aload_n d_Mo_opensLayer_37 rfl ?_
  refine ew_iload_n d_Mo_opensLayer_38 rfl ?_
  refine ew_iconst (v := nI 1) d_Mo_opensLayer_39 (by decide) ?_
  refine en_iadd d_Mo_opensLayer_40 ?_
  refine en_eq rfl (show _ = [.int (nI 2), .ref 47] from rfl) rfl ?_
  refine ew_iload_n d_Mo_opensLayer_41 rfl ?_
  refine ew_iload d_Mo_opensLayer_42 rfl ?_
  refine en_irem d_Mo_opensLayer_44 (by omega) (by decide) (by decide) ?_
  refine ew_iload d_Mo_opensLayer_45 rfl ?_
  refine ew_iload d_Mo_opensLayer_47 rfl ?_
  refine en_imul d_Mo_opensLayer_49 ?_
  refine en_eq rfl (show _ = [.int (nI 0), .int (nI (j % 8)), .int (nI 2), .ref 47] from rfl) rfl ?_
  refine en_iadd d_Mo_opensLayer_50 ?_
  refine en_eq (st' := [.int (nI (j % 8 + 8 * 0)), .int (nI 2), .ref 47]) rfl (by rw [show (nI ((j % 8) + 0)) = (nI (j % 8 + 8 * 0)) from rfl]) rfl ?_
  refine ew_aload_n d_Mo_opensLayer_51 rfl ?_
  refine ew_getr (ci := 9) (f := 10) d_Mo_opensLayer_52 rfl rfl rfl tw_602 ?_
  refine ew_iload d_Mo_opensLayer_55 rfl ?_
  refine ew_iald (j := 103) d_Mo_opensLayer_57 rfl (rfl) (by decide) (by decide) ?_
  refine ew_sipush (v := nI 12289) d_Mo_opensLayer_58 (by decide) ?_
  refine en_callS (As := [.int (M 56 103), .int (nI 12289)]) (st := [.int (nI (j % 8 + 8 * 0)), .int (nI 2), .ref 47]) (st1 := [.int (sp_mix (M 56 103) (nI 12289)), .int (nI (j % 8 + 8 * 0)), .int (nI 2), .ref 47]) d_Mo_opensLayer_61 k_Mo_mix tw_752 tw_753 rfl (Nat.le_of_ble_eq_true rfl) rfl (Nat.le_of_ble_eq_true rfl) rfl rfl (c_Mo_mix l g _ (ew_SH L) M (M 56 103) (nI 12289)) rfl ?_
  refine ew_iload d_Mo_opensLayer_64 rfl ?_
  refine ew_iconst (v := nI 1) d_Mo_opensLayer_66 (by decide) ?_
  refine en_iadd d_Mo_opensLayer_67 ?_
  refine en_eq rfl (show _ = [.int (nI 104), .int (sp_mix (M 56 103) (nI 12289)), .int (nI (j % 8 + 8 * 0)), .int (nI 2), .ref 47] from rfl) rfl ?_
  refine en_callV (As := [.int (nI 2), .int (nI (j % 8 + 8 * 0)), .int (sp_mix (M 56 103) (nI 12289)), .int (nI 104)]) (i := 47) (ci := 9) (st := []) (st1 := [.int (ew_b (decide (sp_ro (M 56) 6 (sp_mix (M 56 103) (nI 12289)) (16 + (j % 8 + 8 * 0)) 104 = M 56 2)))]) d_Mo_opensLayer_68 k_Mo_leads rfl rfl tw_830 tw_832 tp_49 rfl (Nat.le_of_ble_eq_true rfl) rfl (Nat.le_of_ble_eq_true rfl) rfl rfl (c_Mo_leads2 l g _ L M (j % 8 + 8 * 0) 104 (sp_mix (M 56 103) (nI 12289)) (by omega) (by decide)) rfl ?_
  refine en_b_eq (tgt := 78) d_Mo_opensLayer_71 (by decide) (fun h71 => ?_) (fun h71 => ?_)
  · refine ew_iconst (v := nI 0) d_Mo_opensLayer_78 (by decide) ?_
    refine en_istore (ls' := [.ref 47, .int (nI 1), .int (nI j), .int (nI 1), .int (nI 0), .int (nI 8), .int (nI 0), .int (nI 103)]) d_Mo_opensLayer_79 (Nat.le_of_ble_eq_true rfl) rfl ?_
    refine en_inc (ls' := [.ref 47, .int (nI 1), .int (nI j), .int (nI 1), .int (nI 0), .int (nI 8), .int (nI 1), .int (nI 103)]) d_Mo_opensLayer_81 rfl rfl ?_
    refine ew_goto (tgt := 12) d_Mo_opensLayer_84 (by decide) ?_
    refine ew_iload d_Mo_opensLayer_12 rfl ?_
    refine ew_iconst (v := nI 2) d_Mo_opensLayer_14 (by decide) ?_
    refine en_icmp_ge (tgt := 87) d_Mo_opensLayer_15 (by decide) (by decide) (by decide) (fun h15_1 => by exact absurd h15_1 (by decide)) (fun h15_1 => ?_)
    refine ew_iload_n d_Mo_opensLayer_18 rfl ?_
    refine ew_iconst (v := nI 4) d_Mo_opensLayer_19 (by decide) ?_
    refine ew_iconst (v := nI 2) d_Mo_opensLayer_20 (by decide) ?_
    refine ew_iload_n d_Mo_opensLayer_21 rfl ?_
    refine en_imul d_Mo_opensLayer_22 ?_
    refine en_eq rfl (show _ = [.int (nI 2), .int (nI 4), .int (nI 1)] from rfl) rfl ?_
    refine en_iadd d_Mo_opensLayer_23 ?_
    refine en_eq rfl (show _ = [.int (nI 6), .int (nI 1)] from rfl) rfl ?_
    refine ew_iload d_Mo_opensLayer_24 rfl ?_
    refine en_iadd d_Mo_opensLayer_26 ?_
    refine en_eq rfl (show _ = [.int (nI 7), .int (nI 1)] from rfl) rfl ?_
    refine en_callS (As := [.int (nI 1), .int (nI 7)]) (st := []) (st1 := [.int (nI 108)]) d_Mo_opensLayer_27 k_Mo_placeOf tw_819 tw_820 rfl (Nat.le_of_ble_eq_true rfl) rfl (Nat.le_of_ble_eq_true rfl) rfl rfl (c_Mo_placeOf_1_7 l g _ L M) rfl ?_
    refine en_istore (ls' := [.ref 47, .int (nI 1), .int (nI j), .int (nI 1), .int (nI 0), .int (nI 8), .int (nI 1), .int (nI 108)]) d_Mo_opensLayer_30 (Nat.le_of_ble_eq_true rfl) rfl ?_
    refine ew_iload d_Mo_opensLayer_32 rfl ?_
    refine en_if_eq (tgt := 78) d_Mo_opensLayer_34 (by decide) (by decide) (fun h34_1 => ?_) (fun h34_1 => by exact absurd h34_1 (by decide))
    refine ew_iconst (v := nI 0) d_Mo_opensLayer_78 (by decide) ?_
    refine en_istore (ls' := [.ref 47, .int (nI 1), .int (nI j), .int (nI 1), .int (nI 0), .int (nI 8), .int (nI 1), .int (nI 108)]) d_Mo_opensLayer_79 (Nat.le_of_ble_eq_true rfl) rfl ?_
    refine en_inc (ls' := [.ref 47, .int (nI 1), .int (nI j), .int (nI 1), .int (nI 0), .int (nI 8), .int (nI 2), .int (nI 108)]) d_Mo_opensLayer_81 rfl rfl ?_
    refine ew_goto (tgt := 12) d_Mo_opensLayer_84 (by decide) ?_
    refine ew_iload d_Mo_opensLayer_12 rfl ?_
    refine ew_iconst (v := nI 2) d_Mo_opensLayer_14 (by decide) ?_
    refine en_icmp_ge (tgt := 87) d_Mo_opensLayer_15 (by decide) (by decide) (by decide) (fun h15_2 => ?_) (fun h15_2 => by exact absurd h15_2 (by decide))
    refine ew_iload d_Mo_opensLayer_87 rfl ?_
    exact ew_zret d_Mo_opensLayer_89 rfl (by decide) (⟨by rw [show sp_vl11 (M 56) j = false from by (unfold sp_vl11; simp only [h71, Bool.false_and, Bool.and_false])]; rfl, rfl, rfl⟩)
  · refine ew_iconst (v := nI 1) d_Mo_opensLayer_74 (by decide) ?_
    refine ew_goto (tgt := 79) d_Mo_opensLayer_75 (by decide) ?_
    refine en_istore (ls' := [.ref 47, .int (nI 1), .int (nI j), .int (nI 1), .int (nI 1), .int (nI 8), .int (nI 0), .int (nI 103)]) d_Mo_opensLayer_79 (Nat.le_of_ble_eq_true rfl) rfl ?_
    refine en_inc (ls' := [.ref 47, .int (nI 1), .int (nI j), .int (nI 1), .int (nI 1), .int (nI 8), .int (nI 1), .int (nI 103)]) d_Mo_opensLayer_81 rfl rfl ?_
    refine ew_goto (tgt := 12) d_Mo_opensLayer_84 (by decide) ?_
    refine ew_iload d_Mo_opensLayer_12 rfl ?_
    refine ew_iconst (v := nI 2) d_Mo_opensLayer_14 (by decide) ?_
    refine en_icmp_ge (tgt := 87) d_Mo_opensLayer_15 (by decide) (by decide) (by decide) (fun h15_1 => by exact absurd h15_1 (by decide)) (fun h15_1 => ?_)
    refine ew_iload_n d_Mo_opensLayer_18 rfl ?_
    refine ew_iconst (v := nI 4) d_Mo_opensLayer_19 (by decide) ?_
    refine ew_iconst (v := nI 2) d_Mo_opensLayer_20 (by decide) ?_
    refine ew_iload_n d_Mo_opensLayer_21 rfl ?_
    refine en_imul d_Mo_opensLayer_22 ?_
    refine en_eq rfl (show _ = [.int (nI 2), .int (nI 4), .int (nI 1)] from rfl) rfl ?_
    refine en_iadd d_Mo_opensLayer_23 ?_
    refine en_eq rfl (show _ = [.int (nI 6), .int (nI 1)] from rfl) rfl ?_
    refine ew_iload d_Mo_opensLayer_24 rfl ?_
    refine en_iadd d_Mo_opensLayer_26 ?_
    refine en_eq rfl (show _ = [.int (nI 7), .int (nI 1)] from rfl) rfl ?_
    refine en_callS (As := [.int (nI 1), .int (nI 7)]) (st := []) (st1 := [.int (nI 108)]) d_Mo_opensLayer_27 k_Mo_placeOf tw_819 tw_820 rfl (Nat.le_of_ble_eq_true rfl) rfl (Nat.le_of_ble_eq_true rfl) rfl rfl (c_Mo_placeOf_1_7 l g _ L M) rfl ?_
    refine en_istore (ls' := [.ref 47, .int (nI 1), .int (nI j), .int (nI 1), .int (nI 1), .int (nI 8), .int (nI 1), .int (nI 108)]) d_Mo_opensLayer_30 (Nat.le_of_ble_eq_true rfl) rfl ?_
    refine ew_iload d_Mo_opensLayer_32 rfl ?_
    refine en_if_eq (tgt := 78) d_Mo_opensLayer_34 (by decide) (by decide) (fun h34_1 => by exact absurd h34_1 (by decide)) (fun h34_1 => ?_)
    refine ew_aload_n d_Mo_opensLayer_37 rfl ?_
    refine ew_iload_n d_Mo_opensLayer_38 rfl ?_
    refine ew_iconst (v := nI 1) d_Mo_opensLayer_39 (by decide) ?_
    refine en_iadd d_Mo_opensLayer_40 ?_
    refine en_eq rfl (show _ = [.int (nI 2), .ref 47] from rfl) rfl ?_
    refine ew_iload_n d_Mo_opensLayer_41 rfl ?_
    refine ew_iload d_Mo_opensLayer_42 rfl ?_
    refine en_irem d_Mo_opensLayer_44 (by omega) (by decide) (by decide) ?_
    refine ew_iload d_Mo_opensLayer_45 rfl ?_
    refine ew_iload d_Mo_opensLayer_47 rfl ?_
    refine en_imul d_Mo_opensLayer_49 ?_
    refine en_eq rfl (show _ = [.int (nI 8), .int (nI (j % 8)), .int (nI 2), .ref 47] from rfl) rfl ?_
    refine en_iadd d_Mo_opensLayer_50 ?_
    refine en_eq (st' := [.int (nI (j % 8 + 8 * 1)), .int (nI 2), .ref 47]) rfl (by rw [show (nI ((j % 8) + 8)) = (nI (j % 8 + 8 * 1)) from rfl]) rfl ?_
    refine ew_aload_n d_Mo_opensLayer_51 rfl ?_
    refine ew_getr (ci := 9) (f := 10) d_Mo_opensLayer_52 rfl rfl rfl tw_602 ?_
    refine ew_iload d_Mo_opensLayer_55 rfl ?_
    refine ew_iald (j := 108) d_Mo_opensLayer_57 rfl (rfl) (by decide) (by decide) ?_
    refine ew_sipush (v := nI 12289) d_Mo_opensLayer_58 (by decide) ?_
    refine en_callS (As := [.int (M 56 108), .int (nI 12289)]) (st := [.int (nI (j % 8 + 8 * 1)), .int (nI 2), .ref 47]) (st1 := [.int (sp_mix (M 56 108) (nI 12289)), .int (nI (j % 8 + 8 * 1)), .int (nI 2), .ref 47]) d_Mo_opensLayer_61 k_Mo_mix tw_752 tw_753 rfl (Nat.le_of_ble_eq_true rfl) rfl (Nat.le_of_ble_eq_true rfl) rfl rfl (c_Mo_mix l g _ (ew_SH L) M (M 56 108) (nI 12289)) rfl ?_
    refine ew_iload d_Mo_opensLayer_64 rfl ?_
    refine ew_iconst (v := nI 1) d_Mo_opensLayer_66 (by decide) ?_
    refine en_iadd d_Mo_opensLayer_67 ?_
    refine en_eq rfl (show _ = [.int (nI 109), .int (sp_mix (M 56 108) (nI 12289)), .int (nI (j % 8 + 8 * 1)), .int (nI 2), .ref 47] from rfl) rfl ?_
    refine en_callV (As := [.int (nI 2), .int (nI (j % 8 + 8 * 1)), .int (sp_mix (M 56 108) (nI 12289)), .int (nI 109)]) (i := 47) (ci := 9) (st := []) (st1 := [.int (ew_b (decide (sp_ro (M 56) 6 (sp_mix (M 56 108) (nI 12289)) (16 + (j % 8 + 8 * 1)) 109 = M 56 2)))]) d_Mo_opensLayer_68 k_Mo_leads rfl rfl tw_830 tw_832 tp_49 rfl (Nat.le_of_ble_eq_true rfl) rfl (Nat.le_of_ble_eq_true rfl) rfl rfl (c_Mo_leads2 l g _ L M (j % 8 + 8 * 1) 109 (sp_mix (M 56 108) (nI 12289)) (by omega) (by decide)) rfl ?_
    refine en_b_eq (tgt := 78) d_Mo_opensLayer_71 (by decide) (fun h71_1 => ?_) (fun h71_1 => ?_)
    · refine ew_iconst (v := nI 0) d_Mo_opensLayer_78 (by decide) ?_
      refine en_istore (ls' := [.ref 47, .int (nI 1), .int (nI j), .int (nI 1), .int (nI 0), .int (nI 8), .int (nI 1), .int (nI 108)]) d_Mo_opensLayer_79 (Nat.le_of_ble_eq_true rfl) rfl ?_
      refine en_inc (ls' := [.ref 47, .int (nI 1), .int (nI j), .int (nI 1), .int (nI 0), .int (nI 8), .int (nI 2), .int (nI 108)]) d_Mo_opensLayer_81 rfl rfl ?_
      refine ew_goto (tgt := 12) d_Mo_opensLayer_84 (by decide) ?_
      refine ew_iload d_Mo_opensLayer_12 rfl ?_
      refine ew_iconst (v := nI 2) d_Mo_opensLayer_14 (by decide) ?_
      refine en_icmp_ge (tgt := 87) d_Mo_opensLayer_15 (by decide) (by decide) (by decide) (fun h15_2 => ?_) (fun h15_2 => by exact absurd h15_2 (by decide))
      refine ew_iload d_Mo_opensLayer_87 rfl ?_
      exact ew_zret d_Mo_opensLayer_89 rfl (by decide) (⟨by rw [show sp_vl11 (M 56) j = false from by (unfold sp_vl11; simp only [h71_1, Bool.false_and, Bool.and_false])]; rfl, rfl, rfl⟩)
    · refine ew_iconst (v := nI 1) d_Mo_opensLayer_74 (by decide) ?_
      refine ew_goto (tgt := 79) d_Mo_opensLayer_75 (by decide) ?_
      refine en_istore (ls' := [.ref 47, .int (nI 1), .int (nI j), .int (nI 1), .int (nI 1), .int (nI 8), .int (nI 1), .int (nI 108)]) d_Mo_opensLayer_79 (Nat.le_of_ble_eq_true rfl) rfl ?_
      refine en_inc (ls' := [.ref 47, .int (nI 1), .int (nI j), .int (nI 1), .int (nI 1), .int (nI 8), .int (nI 2), .int (nI 108)]) d_Mo_opensLayer_81 rfl rfl ?_
      refine ew_goto (tgt := 12) d_Mo_opensLayer_84 (by decide) ?_
      refine ew_iload d_Mo_opensLayer_12 rfl ?_
      refine ew_iconst (v := nI 2) d_Mo_opensLayer_14 (by decide) ?_
      refine en_icmp_ge (tgt := 87) d_Mo_opensLayer_15 (by decide) (by decide) (by decide) (fun h15_2 => ?_) (fun h15_2 => by exact absurd h15_2 (by decide))
      refine ew_iload d_Mo_opensLayer_87 rfl ?_
      exact ew_zret d_Mo_opensLayer_89 rfl (by decide) (⟨by rw [show sp_vl11 (M 56) j = true from by (unfold sp_vl11; simp only [h71, h71_1, Bool.and_self])]; rfl, rfl, rfl⟩)
set_option maxRecDepth 100000 in
theorem c_Mo_opensLayer12 (l : Launch) (g : ew_G) (d L : Nat) (M : ew_M) (j : Nat) (hj : j < 16) :
    Ew l g (d + 2) 0 0 m_Mo_opensLayer 0 [.ref 47, .int (nI 1), .int (nI j), .int (nI 2), .retAddr 0, .retAddr 0, .retAddr 0, .retAddr 0] [] (ew_SH L) M (ew_q (some (.int (ew_b (sp_vl12 (M 56) j)))) (ew_SH L) M) := by
  refine ew_iconst (v := nI 1) d_Mo_opensLayer_0 (by decide) ?_
  refine en_istore (ls' := [.ref 47, .int (nI 1), .int (nI j), .int (nI 2), .int (nI 1), .retAddr 0, .retAddr 0, .retAddr 0]) d_Mo_opensLayer_1 (Nat.le_of_ble_eq_true rfl) rfl ?_
  refine ew_bipush (v := nI 16) d_Mo_opensLayer_3 (by decide) ?_
  refine ew_iload_n d_Mo_opensLayer_5 rfl ?_
  refine ew_ishr d_Mo_opensLayer_6 ?_
  refine en_eq (st' := [.int (nI 4)]) rfl (by rw [show ((nI 16) >>> ((nI 2) &&& 31)) = (nI 4) from by decide]) rfl ?_
  refine en_istore (ls' := [.ref 47, .int (nI 1), .int (nI j), .int (nI 2), .int (nI 1), .int (nI 4), .retAddr 0, .retAddr 0]) d_Mo_opensLayer_7 (Nat.le_of_ble_eq_true rfl) rfl ?_
  refine ew_iconst (v := nI 0) d_Mo_opensLayer_9 (by decide) ?_
  refine en_istore (ls' := [.ref 47, .int (nI 1), .int (nI j), .int (nI 2), .int (nI 1), .int (nI 4), .int (nI 0), .retAddr 0]) d_Mo_opensLayer_10 (Nat.le_of_ble_eq_true rfl) rfl ?_
  refine ew_iload d_Mo_opensLayer_12 rfl ?_
  refine ew_iconst (v := nI 2) d_Mo_opensLayer_14 (by decide) ?_
  refine en_icmp_ge (tgt := 87) d_Mo_opensLayer_15 (by decide) (by decide) (by decide) (fun h15 => by exact absurd h15 (by decide)) (fun h15 => ?_)
  refine ew_iload_n d_Mo_opensLayer_18 rfl ?_
  refine ew_iconst (v := nI 4) d_Mo_opensLayer_19 (by decide) ?_
  refine ew_iconst (v := nI 2) d_Mo_opensLayer_20 (by decide) ?_
  refine ew_iload_n d_Mo_opensLayer_21 rfl ?_
  refine en_imul d_Mo_opensLayer_22 ?_
  refine en_eq rfl (show _ = [.int (nI 4), .int (nI 4), .int (nI 1)] from rfl) rfl ?_
  refine en_iadd d_Mo_opensLayer_23 ?_
  refine en_eq rfl (show _ = [.int (nI 8), .int (nI 1)] from rfl) rfl ?_
  refine ew_iload d_Mo_opensLayer_24 rfl ?_
  refine en_iadd d_Mo_opensLayer_26 ?_
  refine en_eq rfl (show _ = [.int (nI 8), .int (nI 1)] from rfl) rfl ?_
  refine en_callS (As := [.int (nI 1), .int (nI 8)]) (st := []) (st1 := [.int (nI 113)]) d_Mo_opensLayer_27 k_Mo_placeOf tw_819 tw_820 rfl (Nat.le_of_ble_eq_true rfl) rfl (Nat.le_of_ble_eq_true rfl) rfl rfl (c_Mo_placeOf_1_8 l g _ L M) rfl ?_
  refine en_istore (ls' := [.ref 47, .int (nI 1), .int (nI j), .int (nI 2), .int (nI 1), .int (nI 4), .int (nI 0), .int (nI 113)]) d_Mo_opensLayer_30 (Nat.le_of_ble_eq_true rfl) rfl ?_
  refine ew_iload d_Mo_opensLayer_32 rfl ?_
  refine en_if_eq (tgt := 78) d_Mo_opensLayer_34 (by decide) (by decide) (fun h34 => by exact absurd h34 (by decide)) (fun h34 => ?_)
  refine ew_aload_n d_Mo_opensLayer_37 rfl ?_
  refine ew_iload_n d_Mo_opensLayer_38 rfl ?_
  refine ew_iconst (v := nI 1) d_Mo_opensLayer_39 (by decide) ?_
  refine en_iadd d_Mo_opensLayer_40 ?_
  refine en_eq rfl (show _ = [.int (nI 3), .ref 47] from rfl) rfl ?_
  refine ew_iload_n d_Mo_opensLayer_41 rfl ?_
  refine ew_iload d_Mo_opensLayer_42 rfl ?_
  refine en_irem d_Mo_opensLayer_44 (by omega) (by decide) (by decide) ?_
  refine ew_iload d_Mo_opensLayer_45 rfl ?_
  refine ew_iload d_Mo_opensLayer_47 rfl ?_
  refine en_imul d_Mo_opensLayer_49 ?_
  refine en_eq rfl (show _ = [.int (nI 0), .int (nI (j % 4)), .int (nI 3), .ref 47] from rfl) rfl ?_
  refine en_iadd d_Mo_opensLayer_50 ?_
  refine en_eq (st' := [.int (nI (j % 4 + 4 * 0)), .int (nI 3), .ref 47]) rfl (by rw [show (nI ((j % 4) + 0)) = (nI (j % 4 + 4 * 0)) from rfl]) rfl ?_
  refine ew_aload_n d_Mo_opensLayer_51 rfl ?_
  refine ew_getr (ci := 9) (f := 10) d_Mo_opensLayer_52 rfl rfl rfl tw_602 ?_
  refine ew_iload d_Mo_opensLayer_55 rfl ?_
  refine ew_iald (j := 113) d_Mo_opensLayer_57 rfl (rfl) (by decide) (by decide) ?_
  refine ew_sipush (v := nI 12289) d_Mo_opensLayer_58 (by decide) ?_
  refine en_callS (As := [.int (M 56 113), .int (nI 12289)]) (st := [.int (nI (j % 4 + 4 * 0)), .int (nI 3), .ref 47]) (st1 := [.int (sp_mix (M 56 113) (nI 12289)), .int (nI (j % 4 + 4 * 0)), .int (nI 3), .ref 47]) d_Mo_opensLayer_61 k_Mo_mix tw_752 tw_753 rfl (Nat.le_of_ble_eq_true rfl) rfl (Nat.le_of_ble_eq_true rfl) rfl rfl (c_Mo_mix l g _ (ew_SH L) M (M 56 113) (nI 12289)) rfl ?_
  refine ew_iload d_Mo_opensLayer_64 rfl ?_
  refine ew_iconst (v := nI 1) d_Mo_opensLayer_66 (by decide) ?_
  refine en_iadd d_Mo_opensLayer_67 ?_
  refine en_eq rfl (show _ = [.int (nI 114), .int (sp_mix (M 56 113) (nI 12289)), .int (nI (j % 4 + 4 * 0)), .int (nI 3), .ref 47] from rfl) rfl ?_
  refine en_callV (As := [.int (nI 3), .int (nI (j % 4 + 4 * 0)), .int (sp_mix (M 56 113) (nI 12289)), .int (nI 114)]) (i := 47) (ci := 9) (st := []) (st1 := [.int (ew_b (decide (sp_ro (M 56) 6 (sp_mix (M 56 113) (nI 12289)) (8 + (j % 4 + 4 * 0)) 114 = M 56 3)))]) d_Mo_opensLayer_68 k_Mo_leads rfl rfl tw_830 tw_832 tp_49 rfl (Nat.le_of_ble_eq_true rfl) rfl (Nat.le_of_ble_eq_true rfl) rfl rfl (c_Mo_leads3 l g _ L M (j % 4 + 4 * 0) 114 (sp_mix (M 56 113) (nI 12289)) (by omega) (by decide)) rfl ?_
  refine en_b_eq (tgt := 78) d_Mo_opensLayer_71 (by decide) (fun h71 => ?_) (fun h71 => ?_)
  · refine ew_iconst (v := nI 0) d_Mo_opensLayer_78 (by decide) ?_
    refine en_istore (ls' := [.ref 47, .int (nI 1), .int (nI j), .int (nI 2), .int (nI 0), .int (nI 4), .int (nI 0), .int (nI 113)]) d_Mo_opensLayer_79 (Nat.le_of_ble_eq_true rfl) rfl ?_
    refine en_inc (ls' := [.ref 47, .int (nI 1), .int (nI j), .int (nI 2), .int (nI 0), .int (nI 4), .int (nI 1), .int (nI 113)]) d_Mo_opensLayer_81 rfl rfl ?_
    refine ew_goto (tgt := 12) d_Mo_opensLayer_84 (by decide) ?_
    refine ew_iload d_Mo_opensLayer_12 rfl ?_
    refine ew_iconst (v := nI 2) d_Mo_opensLayer_14 (by decide) ?_
    refine en_icmp_ge (tgt := 87) d_Mo_opensLayer_15 (by decide) (by decide) (by decide) (fun h15_1 => by exact absurd h15_1 (by decide)) (fun h15_1 => ?_)
    refine ew_iload_n d_Mo_opensLayer_18 rfl ?_
    refine ew_iconst (v := nI 4) d_Mo_opensLayer_19 (by decide) ?_
    refine ew_iconst (v := nI 2) d_Mo_opensLayer_20 (by decide) ?_
    refine ew_iload_n d_Mo_opensLayer_21 rfl ?_
    refine en_imul d_Mo_opensLayer_22 ?_
    refine en_eq rfl (show _ = [.int (nI 4), .int (nI 4), .int (nI 1)] from rfl) rfl ?_
    refine en_iadd d_Mo_opensLayer_23 ?_
    refine en_eq rfl (show _ = [.int (nI 8), .int (nI 1)] from rfl) rfl ?_
    refine ew_iload d_Mo_opensLayer_24 rfl ?_
    refine en_iadd d_Mo_opensLayer_26 ?_
    refine en_eq rfl (show _ = [.int (nI 9), .int (nI 1)] from rfl) rfl ?_
    refine en_callS (As := [.int (nI 1), .int (nI 9)]) (st := []) (st1 := [.int (nI 117)]) d_Mo_opensLayer_27 k_Mo_placeOf tw_819 tw_820 rfl (Nat.le_of_ble_eq_true rfl) rfl (Nat.le_of_ble_eq_true rfl) rfl rfl (c_Mo_placeOf_1_9 l g _ L M) rfl ?_
    refine en_istore (ls' := [.ref 47, .int (nI 1), .int (nI j), .int (nI 2), .int (nI 0), .int (nI 4), .int (nI 1), .int (nI 117)]) d_Mo_opensLayer_30 (Nat.le_of_ble_eq_true rfl) rfl ?_
    refine ew_iload d_Mo_opensLayer_32 rfl ?_
    refine en_if_eq (tgt := 78) d_Mo_opensLayer_34 (by decide) (by decide) (fun h34_1 => ?_) (fun h34_1 => by exact absurd h34_1 (by decide))
    refine ew_iconst (v := nI 0) d_Mo_opensLayer_78 (by decide) ?_
    refine en_istore (ls' := [.ref 47, .int (nI 1), .int (nI j), .int (nI 2), .int (nI 0), .int (nI 4), .int (nI 1), .int (nI 117)]) d_Mo_opensLayer_79 (Nat.le_of_ble_eq_true rfl) rfl ?_
    refine en_inc (ls' := [.ref 47, .int (nI 1), .int (nI j), .int (nI 2), .int (nI 0), .int (nI 4), .int (nI 2), .int (nI 117)]) d_Mo_opensLayer_81 rfl rfl ?_
    refine ew_goto (tgt := 12) d_Mo_opensLayer_84 (by decide) ?_
    refine ew_iload d_Mo_opensLayer_12 rfl ?_
    refine ew_iconst (v := nI 2) d_Mo_opensLayer_14 (by decide) ?_
    refine en_icmp_ge (tgt := 87) d_Mo_opensLayer_15 (by decide) (by decide) (by decide) (fun h15_2 => ?_) (fun h15_2 => by exact absurd h15_2 (by decide))
    refine ew_iload d_Mo_opensLayer_87 rfl ?_
    exact ew_zret d_Mo_opensLayer_89 rfl (by decide) (⟨by rw [show sp_vl12 (M 56) j = false from by (unfold sp_vl12; simp only [h71, Bool.false_and, Bool.and_false])]; rfl, rfl, rfl⟩)
  · refine ew_iconst (v := nI 1) d_Mo_opensLayer_74 (by decide) ?_
    refine ew_goto (tgt := 79) d_Mo_opensLayer_75 (by decide) ?_
    refine en_istore (ls' := [.ref 47, .int (nI 1), .int (nI j), .int (nI 2), .int (nI 1), .int (nI 4), .int (nI 0), .int (nI 113)]) d_Mo_opensLayer_79 (Nat.le_of_ble_eq_true rfl) rfl ?_
    refine en_inc (ls' := [.ref 47, .int (nI 1), .int (nI j), .int (nI 2), .int (nI 1), .int (nI 4), .int (nI 1), .int (nI 113)]) d_Mo_opensLayer_81 rfl rfl ?_
    refine ew_goto (tgt := 12) d_Mo_opensLayer_84 (by decide) ?_
    refine ew_iload d_Mo_opensLayer_12 rfl ?_
    refine ew_iconst (v := nI 2) d_Mo_opensLayer_14 (by decide) ?_
    refine en_icmp_ge (tgt := 87) d_Mo_opensLayer_15 (by decide) (by decide) (by decide) (fun h15_1 => by exact absurd h15_1 (by decide)) (fun h15_1 => ?_)
    refine ew_iload_n d_Mo_opensLayer_18 rfl ?_
    refine ew_iconst (v := nI 4) d_Mo_opensLayer_19 (by decide) ?_
    refine ew_iconst (v := nI 2) d_Mo_opensLayer_20 (by decide) ?_
    refine ew_iload_n d_Mo_opensLayer_21 rfl ?_
    refine en_imul d_Mo_opensLayer_22 ?_
    refine en_eq rfl (show _ = [.int (nI 4), .int (nI 4), .int (nI 1)] from rfl) rfl ?_
    refine en_iadd d_Mo_opensLayer_23 ?_
    refine en_eq rfl (show _ = [.int (nI 8), .int (nI 1)] from rfl) rfl ?_
    refine ew_iload d_Mo_opensLayer_24 rfl ?_
    refine en_iadd d_Mo_opensLayer_26 ?_
    refine en_eq rfl (show _ = [.int (nI 9), .int (nI 1)] from rfl) rfl ?_
    refine en_callS (As := [.int (nI 1), .int (nI 9)]) (st := []) (st1 := [.int (nI 117)]) d_Mo_opensLayer_27 k_Mo_placeOf tw_819 tw_820 rfl (Nat.le_of_ble_eq_true rfl) rfl (Nat.le_of_ble_eq_true rfl) rfl rfl (c_Mo_placeOf_1_9 l g _ L M) rfl ?_
    refine en_istore (ls' := [.ref 47, .int (nI 1), .int (nI j), .int (nI 2), .int (nI 1), .int (nI 4), .int (nI 1), .int (nI 117)]) d_Mo_opensLayer_30 (Nat.le_of_ble_eq_true rfl) rfl ?_
    refine ew_iload d_Mo_opensLayer_32 rfl ?_
    refine en_if_eq (tgt := 78) d_Mo_opensLayer_34 (by decide) (by decide) (fun h34_1 => by exact absurd h34_1 (by decide)) (fun h34_1 => ?_)
    refine ew_aload_n d_Mo_opensLayer_37 rfl ?_
    refine ew_iload_n d_Mo_opensLayer_38 rfl ?_
    refine ew_iconst (v := nI 1) d_Mo_opensLayer_39 (by decide) ?_
    refine en_iadd d_Mo_opensLayer_40 ?_
    refine en_eq rfl (show _ = [.int (nI 3), .ref 47] from rfl) rfl ?_
    refine ew_iload_n d_Mo_opensLayer_41 rfl ?_
    refine ew_iload d_Mo_opensLayer_42 rfl ?_
    refine en_irem d_Mo_opensLayer_44 (by omega) (by decide) (by decide) ?_
    refine ew_iload d_Mo_opensLayer_45 rfl ?_
    refine ew_iload d_Mo_opensLayer_47 rfl ?_
    refine en_imul d_Mo_opensLayer_49 ?_
    refine en_eq rfl (show _ = [.int (nI 4), .int (nI (j % 4)), .int (nI 3), .ref 47] from rfl) rfl ?_
    refine en_iadd d_Mo_opensLayer_50 ?_
    refine en_eq (st' := [.int (nI (j % 4 + 4 * 1)), .int (nI 3), .ref 47]) rfl (by rw [show (nI ((j % 4) + 4)) = (nI (j % 4 + 4 * 1)) from rfl]) rfl ?_
    refine ew_aload_n d_Mo_opensLayer_51 rfl ?_
    refine ew_getr (ci := 9) (f := 10) d_Mo_opensLayer_52 rfl rfl rfl tw_602 ?_
    refine ew_iload d_Mo_opensLayer_55 rfl ?_
    refine ew_iald (j := 117) d_Mo_opensLayer_57 rfl (rfl) (by decide) (by decide) ?_
    refine ew_sipush (v := nI 12289) d_Mo_opensLayer_58 (by decide) ?_
    refine en_callS (As := [.int (M 56 117), .int (nI 12289)]) (st := [.int (nI (j % 4 + 4 * 1)), .int (nI 3), .ref 47]) (st1 := [.int (sp_mix (M 56 117) (nI 12289)), .int (nI (j % 4 + 4 * 1)), .int (nI 3), .ref 47]) d_Mo_opensLayer_61 k_Mo_mix tw_752 tw_753 rfl (Nat.le_of_ble_eq_true rfl) rfl (Nat.le_of_ble_eq_true rfl) rfl rfl (c_Mo_mix l g _ (ew_SH L) M (M 56 117) (nI 12289)) rfl ?_
    refine ew_iload d_Mo_opensLayer_64 rfl ?_
    refine ew_iconst (v := nI 1) d_Mo_opensLayer_66 (by decide) ?_
    refine en_iadd d_Mo_opensLayer_67 ?_
    refine en_eq rfl (show _ = [.int (nI 118), .int (sp_mix (M 56 117) (nI 12289)), .int (nI (j % 4 + 4 * 1)), .int (nI 3), .ref 47] from rfl) rfl ?_
    refine en_callV (As := [.int (nI 3), .int (nI (j % 4 + 4 * 1)), .int (sp_mix (M 56 117) (nI 12289)), .int (nI 118)]) (i := 47) (ci := 9) (st := []) (st1 := [.int (ew_b (decide (sp_ro (M 56) 6 (sp_mix (M 56 117) (nI 12289)) (8 + (j % 4 + 4 * 1)) 118 = M 56 3)))]) d_Mo_opensLayer_68 k_Mo_leads rfl rfl tw_830 tw_832 tp_49 rfl (Nat.le_of_ble_eq_true rfl) rfl (Nat.le_of_ble_eq_true rfl) rfl rfl (c_Mo_leads3 l g _ L M (j % 4 + 4 * 1) 118 (sp_mix (M 56 117) (nI 12289)) (by omega) (by decide)) rfl ?_
    refine en_b_eq (tgt := 78) d_Mo_opensLayer_71 (by decide) (fun h71_1 => ?_) (fun h71_1 => ?_)
    · refine ew_iconst (v := nI 0) d_Mo_opensLayer_78 (by decide) ?_
      refine en_istore (ls' := [.ref 47, .int (nI 1), .int (nI j), .int (nI 2), .int (nI 0), .int (nI 4), .int (nI 1), .int (nI 117)]) d_Mo_opensLayer_79 (Nat.le_of_ble_eq_true rfl) rfl ?_
      refine en_inc (ls' := [.ref 47, .int (nI 1), .int (nI j), .int (nI 2), .int (nI 0), .int (nI 4), .int (nI 2), .int (nI 117)]) d_Mo_opensLayer_81 rfl rfl ?_
      refine ew_goto (tgt := 12) d_Mo_opensLayer_84 (by decide) ?_
      refine ew_iload d_Mo_opensLayer_12 rfl ?_
      refine ew_iconst (v := nI 2) d_Mo_opensLayer_14 (by decide) ?_
      refine en_icmp_ge (tgt := 87) d_Mo_opensLayer_15 (by decide) (by decide) (by decide) (fun h15_2 => ?_) (fun h15_2 => by exact absurd h15_2 (by decide))
      refine ew_iload d_Mo_opensLayer_87 rfl ?_
      exact ew_zret d_Mo_opensLayer_89 rfl (by decide) (⟨by rw [show sp_vl12 (M 56) j = false from by (unfold sp_vl12; simp only [h71_1, Bool.false_and, Bool.and_false])]; rfl, rfl, rfl⟩)
    · refine ew_iconst (v := nI 1) d_Mo_opensLayer_74 (by decide) ?_
      refine ew_goto (tgt := 79) d_Mo_opensLayer_75 (by decide) ?_
      refine en_istore (ls' := [.ref 47, .int (nI 1), .int (nI j), .int (nI 2), .int (nI 1), .int (nI 4), .int (nI 1), .int (nI 117)]) d_Mo_opensLayer_79 (Nat.le_of_ble_eq_true rfl) rfl ?_
      refine en_inc (ls' := [.ref 47, .int (nI 1), .int (nI j), .int (nI 2), .int (nI 1), .int (nI 4), .int (nI 2), .int (nI 117)]) d_Mo_opensLayer_81 rfl rfl ?_
      refine ew_goto (tgt := 12) d_Mo_opensLayer_84 (by decide) ?_
      refine ew_iload d_Mo_opensLayer_12 rfl ?_
      refine ew_iconst (v := nI 2) d_Mo_opensLayer_14 (by decide) ?_
      refine en_icmp_ge (tgt := 87) d_Mo_opensLayer_15 (by decide) (by decide) (by decide) (fun h15_2 => ?_) (fun h15_2 => by exact absurd h15_2 (by decide))
      refine ew_iload d_Mo_opensLayer_87 rfl ?_
      exact ew_zret d_Mo_opensLayer_89 rfl (by decide) (⟨by rw [show sp_vl12 (M 56) j = true from by (unfold sp_vl12; simp only [h71, h71_1, Bool.and_self])]; rfl, rfl, rfl⟩)
set_option maxRecDepth 100000 in
theorem c_Mo_opens2 (l : Launch) (g : ew_G) (d L : Nat) (M : ew_M) (j : Nat) (hj : j < 16) :
    Ew l g (d + 2) 0 0 m_Mo_opens 0 [.ref 47, .int (nI 2), .int (nI j), .retAddr 0, .retAddr 0, .retAddr 0] [] (ew_SH L) M (ew_q (some (.int (ew_b (sp_vc2 (M 56) j)))) (ew_SH L) M) := by
  refine ew_iconst (v := nI 1) d_Mo_opens_0 (by decide) ?_
  refine en_istore_n (ls' := [.ref 47, .int (nI 2), .int (nI j), .int (nI 1), .retAddr 0, .retAddr 0]) d_Mo_opens_1 (Nat.le_of_ble_eq_true rfl) rfl ?_
  refine ew_iconst (v := nI 0) d_Mo_opens_2 (by decide) ?_
  refine en_istore (ls' := [.ref 47, .int (nI 2), .int (nI j), .int (nI 1), .int (nI 0), .retAddr 0]) d_Mo_opens_3 (Nat.le_of_ble_eq_true rfl) rfl ?_
  refine ew_iload d_Mo_opens_5 rfl ?_
  refine ew_iconst (v := nI 4) d_Mo_opens_7 (by decide) ?_
  refine en_icmp_ge (tgt := 85) d_Mo_opens_8 (by decide) (by decide) (by decide) (fun h8 => by exact absurd h8 (by decide)) (fun h8 => ?_)
  refine ew_iload_n d_Mo_opens_11 rfl ?_
  refine ew_iload d_Mo_opens_12 rfl ?_
  refine en_callS (As := [.int (nI 2), .int (nI 0)]) (st := []) (st1 := [.int (nI 121)]) d_Mo_opens_14 k_Mo_placeOf tw_819 tw_820 rfl (Nat.le_of_ble_eq_true rfl) rfl (Nat.le_of_ble_eq_true rfl) rfl rfl (c_Mo_placeOf_2_0 l g _ L M) rfl ?_
  refine en_istore (ls' := [.ref 47, .int (nI 2), .int (nI j), .int (nI 1), .int (nI 0), .int (nI 121)]) d_Mo_opens_17 (Nat.le_of_ble_eq_true rfl) rfl ?_
  refine ew_iload_n d_Mo_opens_19 rfl ?_
  refine en_if_eq (tgt := 77) d_Mo_opens_20 (by decide) (by decide) (fun h20 => by exact absurd h20 (by decide)) (fun h20 => ?_)
  refine ew_aload_n d_Mo_opens_23 rfl ?_
  refine ew_iconst (v := nI 0) d_Mo_opens_24 (by decide) ?_
  refine ew_iload_n d_Mo_opens_25 rfl ?_
  refine ew_iload d_Mo_opens_26 rfl ?_
  refine ew_iconst (v := nI 2) d_Mo_opens_28 (by decide) ?_
  refine en_irem d_Mo_opens_29 (by first | with_reducible assumption | with_reducible exact ep_lt _ | with_reducible exact sp_its_lt _ _ _ | with_reducible exact tb_l_rt _ | with_reducible exact tb_l_x _ | with_reducible exact tb_l_o0 _ | with_reducible exact tb_l_o1 _ | with_reducible exact tb_l_va _ | with_reducible exact tb_l_ll _ | with_reducible exact tb_l_cf _ | with_reducible exact tb_l_kf _ | with_reducible exact sp_ts_lt _ _ _ _ | with_reducible exact sp_w_lt _ _ | with_reducible exact sp_cs_lt _ _ _ _ _ | with_reducible exact sp_cb_lt _ _ _ _ _ | with_reducible exact sp_ch_lt _ | with_reducible exact sp_bf_lt _ _ | with_reducible exact sp_va_lt _ _ _ | with_reducible exact sp_be_lt _ _ | with_reducible exact sp_p_lt _ _ _ | with_reducible exact sp_com_lt _ _ _ _ | with_reducible exact sp_fo_lt _ _ _ _ _ | omega) (by decide) (by decide) ?_
  refine en_eq rfl (show _ = [.int (nI 0), .int (nI j), .int (nI 0), .ref 47] from rfl) rfl ?_
  refine ew_iconst (v := nI 4) d_Mo_opens_30 (by decide) ?_
  refine en_imul d_Mo_opens_31 ?_
  refine en_eq rfl (show _ = [.int (nI 0), .int (nI j), .int (nI 0), .ref 47] from rfl) rfl ?_
  refine en_iadd d_Mo_opens_32 ?_
  refine ew_iload d_Mo_opens_33 rfl ?_
  refine ew_iconst (v := nI 2) d_Mo_opens_35 (by decide) ?_
  refine en_idiv d_Mo_opens_36 (by first | with_reducible assumption | with_reducible exact ep_lt _ | with_reducible exact sp_its_lt _ _ _ | with_reducible exact tb_l_rt _ | with_reducible exact tb_l_x _ | with_reducible exact tb_l_o0 _ | with_reducible exact tb_l_o1 _ | with_reducible exact tb_l_va _ | with_reducible exact tb_l_ll _ | with_reducible exact tb_l_cf _ | with_reducible exact tb_l_kf _ | with_reducible exact sp_ts_lt _ _ _ _ | with_reducible exact sp_w_lt _ _ | with_reducible exact sp_cs_lt _ _ _ _ _ | with_reducible exact sp_cb_lt _ _ _ _ _ | with_reducible exact sp_ch_lt _ | with_reducible exact sp_bf_lt _ _ | with_reducible exact sp_va_lt _ _ _ | with_reducible exact sp_be_lt _ _ | with_reducible exact sp_p_lt _ _ _ | with_reducible exact sp_com_lt _ _ _ _ | with_reducible exact sp_fo_lt _ _ _ _ _ | omega) (by decide) (by decide) ?_
  refine en_eq rfl (show _ = [.int (nI 0), .int (nI (j + 0)), .int (nI 0), .ref 47] from rfl) rfl ?_
  refine ew_bipush (v := nI 16) d_Mo_opens_37 (by decide) ?_
  refine en_imul d_Mo_opens_39 ?_
  refine en_eq rfl (show _ = [.int (nI 0), .int (nI (j + 0)), .int (nI 0), .ref 47] from rfl) rfl ?_
  refine en_iadd d_Mo_opens_40 ?_
  refine ew_bipush (v := nI 32) d_Mo_opens_41 (by decide) ?_
  refine en_irem d_Mo_opens_43 (by omega) (by decide) (by decide) ?_
  refine en_eq (st' := [.int (nI ((j + 0) % 32)), .int (nI 0), .ref 47]) rfl (by rw [show (nI (((j + 0) + 0) % 32)) = (nI ((j + 0) % 32)) from congrArg nI (by omega)]) rfl ?_
  refine ew_aload_n d_Mo_opens_44 rfl ?_
  refine ew_getr (ci := 9) (f := 10) d_Mo_opens_45 rfl rfl rfl tw_602 ?_
  refine ew_iload d_Mo_opens_48 rfl ?_
  refine ew_iald (j := 121) d_Mo_opens_50 rfl (rfl) (by decide) (by decide) ?_
  refine ew_aload_n d_Mo_opens_51 rfl ?_
  refine ew_getr (ci := 9) (f := 10) d_Mo_opens_52 rfl rfl rfl tw_602 ?_
  refine ew_iload d_Mo_opens_55 rfl ?_
  refine ew_iconst (v := nI 1) d_Mo_opens_57 (by decide) ?_
  refine en_iadd d_Mo_opens_58 ?_
  refine en_eq rfl (show _ = [.int (nI 122), .ref 56, .int (M 56 121), .int (nI ((j + 0) % 32)), .int (nI 0), .ref 47] from rfl) rfl ?_
  refine ew_iald (j := 122) d_Mo_opens_59 rfl (rfl) (by decide) (by decide) ?_
  refine en_callS (As := [.int (M 56 121), .int (M 56 122)]) (st := [.int (nI ((j + 0) % 32)), .int (nI 0), .ref 47]) (st1 := [.int (sp_mix (M 56 121) (M 56 122)), .int (nI ((j + 0) % 32)), .int (nI 0), .ref 47]) d_Mo_opens_60 k_Mo_mix tw_752 tw_753 rfl (Nat.le_of_ble_eq_true rfl) rfl (Nat.le_of_ble_eq_true rfl) rfl rfl (c_Mo_mix l g _ (ew_SH L) M (M 56 121) (M 56 122)) rfl ?_
  refine ew_iload d_Mo_opens_63 rfl ?_
  refine ew_iconst (v := nI 2) d_Mo_opens_65 (by decide) ?_
  refine en_iadd d_Mo_opens_66 ?_
  refine en_eq rfl (show _ = [.int (nI 123), .int (sp_mix (M 56 121) (M 56 122)), .int (nI ((j + 0) % 32)), .int (nI 0), .ref 47] from rfl) rfl ?_
  refine en_callV (As := [.int (nI 0), .int (nI ((j + 0) % 32)), .int (sp_mix (M 56 121) (M 56 122)), .int (nI 123)]) (i := 47) (ci := 9) (st := []) (st1 := [.int (ew_b (decide (sp_ro (M 56) 6 (sp_mix (M 56 121) (M 56 122)) (32 + ((j + 0) % 32)) 123 = M 56 0)))]) d_Mo_opens_67 k_Mo_leads rfl rfl tw_830 tw_832 tp_49 rfl (Nat.le_of_ble_eq_true rfl) rfl (Nat.le_of_ble_eq_true rfl) rfl rfl (c_Mo_leads0 l g _ L M ((j + 0) % 32) 123 (sp_mix (M 56 121) (M 56 122)) (by omega) (by decide)) rfl ?_
  refine en_b_eq (tgt := 77) d_Mo_opens_70 (by decide) (fun h70 => ?_) (fun h70 => ?_)
  · refine ew_iconst (v := nI 0) d_Mo_opens_77 (by decide) ?_
    refine en_istore_n (ls' := [.ref 47, .int (nI 2), .int (nI j), .int (nI 0), .int (nI 0), .int (nI 121)]) d_Mo_opens_78 (Nat.le_of_ble_eq_true rfl) rfl ?_
    refine en_inc (ls' := [.ref 47, .int (nI 2), .int (nI j), .int (nI 0), .int (nI 1), .int (nI 121)]) d_Mo_opens_79 rfl rfl ?_
    refine ew_goto (tgt := 5) d_Mo_opens_82 (by decide) ?_
    refine ew_iload d_Mo_opens_5 rfl ?_
    refine ew_iconst (v := nI 4) d_Mo_opens_7 (by decide) ?_
    refine en_icmp_ge (tgt := 85) d_Mo_opens_8 (by decide) (by decide) (by decide) (fun h8_1 => by exact absurd h8_1 (by decide)) (fun h8_1 => ?_)
    refine ew_iload_n d_Mo_opens_11 rfl ?_
    refine ew_iload d_Mo_opens_12 rfl ?_
    refine en_callS (As := [.int (nI 2), .int (nI 1)]) (st := []) (st1 := [.int (nI 128)]) d_Mo_opens_14 k_Mo_placeOf tw_819 tw_820 rfl (Nat.le_of_ble_eq_true rfl) rfl (Nat.le_of_ble_eq_true rfl) rfl rfl (c_Mo_placeOf_2_1 l g _ L M) rfl ?_
    refine en_istore (ls' := [.ref 47, .int (nI 2), .int (nI j), .int (nI 0), .int (nI 1), .int (nI 128)]) d_Mo_opens_17 (Nat.le_of_ble_eq_true rfl) rfl ?_
    refine ew_iload_n d_Mo_opens_19 rfl ?_
    refine en_if_eq (tgt := 77) d_Mo_opens_20 (by decide) (by decide) (fun h20_1 => ?_) (fun h20_1 => by exact absurd h20_1 (by decide))
    refine ew_iconst (v := nI 0) d_Mo_opens_77 (by decide) ?_
    refine en_istore_n (ls' := [.ref 47, .int (nI 2), .int (nI j), .int (nI 0), .int (nI 1), .int (nI 128)]) d_Mo_opens_78 (Nat.le_of_ble_eq_true rfl) rfl ?_
    refine en_inc (ls' := [.ref 47, .int (nI 2), .int (nI j), .int (nI 0), .int (nI 2), .int (nI 128)]) d_Mo_opens_79 rfl rfl ?_
    refine ew_goto (tgt := 5) d_Mo_opens_82 (by decide) ?_
    refine ew_iload d_Mo_opens_5 rfl ?_
    refine ew_iconst (v := nI 4) d_Mo_opens_7 (by decide) ?_
    refine en_icmp_ge (tgt := 85) d_Mo_opens_8 (by decide) (by decide) (by decide) (fun h8_2 => by exact absurd h8_2 (by decide)) (fun h8_2 => ?_)
    refine ew_iload_n d_Mo_opens_11 rfl ?_
    refine ew_iload d_Mo_opens_12 rfl ?_
    refine en_callS (As := [.int (nI 2), .int (nI 2)]) (st := []) (st1 := [.int (nI 135)]) d_Mo_opens_14 k_Mo_placeOf tw_819 tw_820 rfl (Nat.le_of_ble_eq_true rfl) rfl (Nat.le_of_ble_eq_true rfl) rfl rfl (c_Mo_placeOf_2_2 l g _ L M) rfl ?_
    refine en_istore (ls' := [.ref 47, .int (nI 2), .int (nI j), .int (nI 0), .int (nI 2), .int (nI 135)]) d_Mo_opens_17 (Nat.le_of_ble_eq_true rfl) rfl ?_
    refine ew_iload_n d_Mo_opens_19 rfl ?_
    refine en_if_eq (tgt := 77) d_Mo_opens_20 (by decide) (by decide) (fun h20_2 => ?_) (fun h20_2 => by exact absurd h20_2 (by decide))
    refine ew_iconst (v := nI 0) d_Mo_opens_77 (by decide) ?_
    refine en_istore_n (ls' := [.ref 47, .int (nI 2), .int (nI j), .int (nI 0), .int (nI 2), .int (nI 135)]) d_Mo_opens_78 (Nat.le_of_ble_eq_true rfl) rfl ?_
    refine en_inc (ls' := [.ref 47, .int (nI 2), .int (nI j), .int (nI 0), .int (nI 3), .int (nI 135)]) d_Mo_opens_79 rfl rfl ?_
    refine ew_goto (tgt := 5) d_Mo_opens_82 (by decide) ?_
    refine ew_iload d_Mo_opens_5 rfl ?_
    refine ew_iconst (v := nI 4) d_Mo_opens_7 (by decide) ?_
    refine en_icmp_ge (tgt := 85) d_Mo_opens_8 (by decide) (by decide) (by decide) (fun h8_3 => by exact absurd h8_3 (by decide)) (fun h8_3 => ?_)
    refine ew_iload_n d_Mo_opens_11 rfl ?_
    refine ew_iload d_Mo_opens_12 rfl ?_
    refine en_callS (As := [.int (nI 2), .int (nI 3)]) (st := []) (st1 := [.int (nI 142)]) d_Mo_opens_14 k_Mo_placeOf tw_819 tw_820 rfl (Nat.le_of_ble_eq_true rfl) rfl (Nat.le_of_ble_eq_true rfl) rfl rfl (c_Mo_placeOf_2_3 l g _ L M) rfl ?_
    refine en_istore (ls' := [.ref 47, .int (nI 2), .int (nI j), .int (nI 0), .int (nI 3), .int (nI 142)]) d_Mo_opens_17 (Nat.le_of_ble_eq_true rfl) rfl ?_
    refine ew_iload_n d_Mo_opens_19 rfl ?_
    refine en_if_eq (tgt := 77) d_Mo_opens_20 (by decide) (by decide) (fun h20_3 => ?_) (fun h20_3 => by exact absurd h20_3 (by decide))
    refine ew_iconst (v := nI 0) d_Mo_opens_77 (by decide) ?_
    refine en_istore_n (ls' := [.ref 47, .int (nI 2), .int (nI j), .int (nI 0), .int (nI 3), .int (nI 142)]) d_Mo_opens_78 (Nat.le_of_ble_eq_true rfl) rfl ?_
    refine en_inc (ls' := [.ref 47, .int (nI 2), .int (nI j), .int (nI 0), .int (nI 4), .int (nI 142)]) d_Mo_opens_79 rfl rfl ?_
    refine ew_goto (tgt := 5) d_Mo_opens_82 (by decide) ?_
    refine ew_iload d_Mo_opens_5 rfl ?_
    refine ew_iconst (v := nI 4) d_Mo_opens_7 (by decide) ?_
    refine en_icmp_ge (tgt := 85) d_Mo_opens_8 (by decide) (by decide) (by decide) (fun h8_4 => ?_) (fun h8_4 => by exact absurd h8_4 (by decide))
    refine ew_iload_n d_Mo_opens_85 rfl ?_
    exact ew_zret d_Mo_opens_86 rfl (by decide) (⟨by rw [show sp_vc2 (M 56) j = false from by (unfold sp_vc2; simp only [h70, Bool.false_and, Bool.and_false])]; rfl, rfl, rfl⟩)
  · refine ew_iconst (v := nI 1) d_Mo_opens_73 (by decide) ?_
    refine ew_goto (tgt := 78) d_Mo_opens_74 (by decide) ?_
    refine en_istore_n (ls' := [.ref 47, .int (nI 2), .int (nI j), .int (nI 1), .int (nI 0), .int (nI 121)]) d_Mo_opens_78 (Nat.le_of_ble_eq_true rfl) rfl ?_
    refine en_inc (ls' := [.ref 47, .int (nI 2), .int (nI j), .int (nI 1), .int (nI 1), .int (nI 121)]) d_Mo_opens_79 rfl rfl ?_
    refine ew_goto (tgt := 5) d_Mo_opens_82 (by decide) ?_
    refine ew_iload d_Mo_opens_5 rfl ?_
    refine ew_iconst (v := nI 4) d_Mo_opens_7 (by decide) ?_
    refine en_icmp_ge (tgt := 85) d_Mo_opens_8 (by decide) (by decide) (by decide) (fun h8_1 => by exact absurd h8_1 (by decide)) (fun h8_1 => ?_)
    refine ew_iload_n d_Mo_opens_11 rfl ?_
    refine ew_iload d_Mo_opens_12 rfl ?_
    refine en_callS (As := [.int (nI 2), .int (nI 1)]) (st := []) (st1 := [.int (nI 128)]) d_Mo_opens_14 k_Mo_placeOf tw_819 tw_820 rfl (Nat.le_of_ble_eq_true rfl) rfl (Nat.le_of_ble_eq_true rfl) rfl rfl (c_Mo_placeOf_2_1 l g _ L M) rfl ?_
    refine en_istore (ls' := [.ref 47, .int (nI 2), .int (nI j), .int (nI 1), .int (nI 1), .int (nI 128)]) d_Mo_opens_17 (Nat.le_of_ble_eq_true rfl) rfl ?_
    refine ew_iload_n d_Mo_opens_19 rfl ?_
    refine en_if_eq (tgt := 77) d_Mo_opens_20 (by decide) (by decide) (fun h20_1 => by exact absurd h20_1 (by decide)) (fun h20_1 => ?_)
    refine ew_aload_n d_Mo_opens_23 rfl ?_
    refine ew_iconst (v := nI 0) d_Mo_opens_24 (by decide) ?_
    refine ew_iload_n d_Mo_opens_25 rfl ?_
    refine ew_iload d_Mo_opens_26 rfl ?_
    refine ew_iconst (v := nI 2) d_Mo_opens_28 (by decide) ?_
    refine en_irem d_Mo_opens_29 (by first | with_reducible assumption | with_reducible exact ep_lt _ | with_reducible exact sp_its_lt _ _ _ | with_reducible exact tb_l_rt _ | with_reducible exact tb_l_x _ | with_reducible exact tb_l_o0 _ | with_reducible exact tb_l_o1 _ | with_reducible exact tb_l_va _ | with_reducible exact tb_l_ll _ | with_reducible exact tb_l_cf _ | with_reducible exact tb_l_kf _ | with_reducible exact sp_ts_lt _ _ _ _ | with_reducible exact sp_w_lt _ _ | with_reducible exact sp_cs_lt _ _ _ _ _ | with_reducible exact sp_cb_lt _ _ _ _ _ | with_reducible exact sp_ch_lt _ | with_reducible exact sp_bf_lt _ _ | with_reducible exact sp_va_lt _ _ _ | with_reducible exact sp_be_lt _ _ | with_reducible exact sp_p_lt _ _ _ | with_reducible exact sp_com_lt _ _ _ _ | with_reducible exact sp_fo_lt _ _ _ _ _ | omega) (by decide) (by decide) ?_
    refine en_eq rfl (show _ = [.int (nI 1), .int (nI j), .int (nI 0), .ref 47] from rfl) rfl ?_
    refine ew_iconst (v := nI 4) d_Mo_opens_30 (by decide) ?_
    refine en_imul d_Mo_opens_31 ?_
    refine en_eq rfl (show _ = [.int (nI 4), .int (nI j), .int (nI 0), .ref 47] from rfl) rfl ?_
    refine en_iadd d_Mo_opens_32 ?_
    refine ew_iload d_Mo_opens_33 rfl ?_
    refine ew_iconst (v := nI 2) d_Mo_opens_35 (by decide) ?_
    refine en_idiv d_Mo_opens_36 (by first | with_reducible assumption | with_reducible exact ep_lt _ | with_reducible exact sp_its_lt _ _ _ | with_reducible exact tb_l_rt _ | with_reducible exact tb_l_x _ | with_reducible exact tb_l_o0 _ | with_reducible exact tb_l_o1 _ | with_reducible exact tb_l_va _ | with_reducible exact tb_l_ll _ | with_reducible exact tb_l_cf _ | with_reducible exact tb_l_kf _ | with_reducible exact sp_ts_lt _ _ _ _ | with_reducible exact sp_w_lt _ _ | with_reducible exact sp_cs_lt _ _ _ _ _ | with_reducible exact sp_cb_lt _ _ _ _ _ | with_reducible exact sp_ch_lt _ | with_reducible exact sp_bf_lt _ _ | with_reducible exact sp_va_lt _ _ _ | with_reducible exact sp_be_lt _ _ | with_reducible exact sp_p_lt _ _ _ | with_reducible exact sp_com_lt _ _ _ _ | with_reducible exact sp_fo_lt _ _ _ _ _ | omega) (by decide) (by decide) ?_
    refine en_eq rfl (show _ = [.int (nI 0), .int (nI (j + 4)), .int (nI 0), .ref 47] from rfl) rfl ?_
    refine ew_bipush (v := nI 16) d_Mo_opens_37 (by decide) ?_
    refine en_imul d_Mo_opens_39 ?_
    refine en_eq rfl (show _ = [.int (nI 0), .int (nI (j + 4)), .int (nI 0), .ref 47] from rfl) rfl ?_
    refine en_iadd d_Mo_opens_40 ?_
    refine ew_bipush (v := nI 32) d_Mo_opens_41 (by decide) ?_
    refine en_irem d_Mo_opens_43 (by omega) (by decide) (by decide) ?_
    refine en_eq (st' := [.int (nI ((j + 4) % 32)), .int (nI 0), .ref 47]) rfl (by rw [show (nI (((j + 4) + 0) % 32)) = (nI ((j + 4) % 32)) from congrArg nI (by omega)]) rfl ?_
    refine ew_aload_n d_Mo_opens_44 rfl ?_
    refine ew_getr (ci := 9) (f := 10) d_Mo_opens_45 rfl rfl rfl tw_602 ?_
    refine ew_iload d_Mo_opens_48 rfl ?_
    refine ew_iald (j := 128) d_Mo_opens_50 rfl (rfl) (by decide) (by decide) ?_
    refine ew_aload_n d_Mo_opens_51 rfl ?_
    refine ew_getr (ci := 9) (f := 10) d_Mo_opens_52 rfl rfl rfl tw_602 ?_
    refine ew_iload d_Mo_opens_55 rfl ?_
    refine ew_iconst (v := nI 1) d_Mo_opens_57 (by decide) ?_
    refine en_iadd d_Mo_opens_58 ?_
    refine en_eq rfl (show _ = [.int (nI 129), .ref 56, .int (M 56 128), .int (nI ((j + 4) % 32)), .int (nI 0), .ref 47] from rfl) rfl ?_
    refine ew_iald (j := 129) d_Mo_opens_59 rfl (rfl) (by decide) (by decide) ?_
    refine en_callS (As := [.int (M 56 128), .int (M 56 129)]) (st := [.int (nI ((j + 4) % 32)), .int (nI 0), .ref 47]) (st1 := [.int (sp_mix (M 56 128) (M 56 129)), .int (nI ((j + 4) % 32)), .int (nI 0), .ref 47]) d_Mo_opens_60 k_Mo_mix tw_752 tw_753 rfl (Nat.le_of_ble_eq_true rfl) rfl (Nat.le_of_ble_eq_true rfl) rfl rfl (c_Mo_mix l g _ (ew_SH L) M (M 56 128) (M 56 129)) rfl ?_
    refine ew_iload d_Mo_opens_63 rfl ?_
    refine ew_iconst (v := nI 2) d_Mo_opens_65 (by decide) ?_
    refine en_iadd d_Mo_opens_66 ?_
    refine en_eq rfl (show _ = [.int (nI 130), .int (sp_mix (M 56 128) (M 56 129)), .int (nI ((j + 4) % 32)), .int (nI 0), .ref 47] from rfl) rfl ?_
    refine en_callV (As := [.int (nI 0), .int (nI ((j + 4) % 32)), .int (sp_mix (M 56 128) (M 56 129)), .int (nI 130)]) (i := 47) (ci := 9) (st := []) (st1 := [.int (ew_b (decide (sp_ro (M 56) 6 (sp_mix (M 56 128) (M 56 129)) (32 + ((j + 4) % 32)) 130 = M 56 0)))]) d_Mo_opens_67 k_Mo_leads rfl rfl tw_830 tw_832 tp_49 rfl (Nat.le_of_ble_eq_true rfl) rfl (Nat.le_of_ble_eq_true rfl) rfl rfl (c_Mo_leads0 l g _ L M ((j + 4) % 32) 130 (sp_mix (M 56 128) (M 56 129)) (by omega) (by decide)) rfl ?_
    refine en_b_eq (tgt := 77) d_Mo_opens_70 (by decide) (fun h70_1 => ?_) (fun h70_1 => ?_)
    · refine ew_iconst (v := nI 0) d_Mo_opens_77 (by decide) ?_
      refine en_istore_n (ls' := [.ref 47, .int (nI 2), .int (nI j), .int (nI 0), .int (nI 1), .int (nI 128)]) d_Mo_opens_78 (Nat.le_of_ble_eq_true rfl) rfl ?_
      refine en_inc (ls' := [.ref 47, .int (nI 2), .int (nI j), .int (nI 0), .int (nI 2), .int (nI 128)]) d_Mo_opens_79 rfl rfl ?_
      refine ew_goto (tgt := 5) d_Mo_opens_82 (by decide) ?_
      refine ew_iload d_Mo_opens_5 rfl ?_
      refine ew_iconst (v := nI 4) d_Mo_opens_7 (by decide) ?_
      refine en_icmp_ge (tgt := 85) d_Mo_opens_8 (by decide) (by decide) (by decide) (fun h8_2 => by exact absurd h8_2 (by decide)) (fun h8_2 => ?_)
      refine ew_iload_n d_Mo_opens_11 rfl ?_
      refine ew_iload d_Mo_opens_12 rfl ?_
      refine en_callS (As := [.int (nI 2), .int (nI 2)]) (st := []) (st1 := [.int (nI 135)]) d_Mo_opens_14 k_Mo_placeOf tw_819 tw_820 rfl (Nat.le_of_ble_eq_true rfl) rfl (Nat.le_of_ble_eq_true rfl) rfl rfl (c_Mo_placeOf_2_2 l g _ L M) rfl ?_
      refine en_istore (ls' := [.ref 47, .int (nI 2), .int (nI j), .int (nI 0), .int (nI 2), .int (nI 135)]) d_Mo_opens_17 (Nat.le_of_ble_eq_true rfl) rfl ?_
      refine ew_iload_n d_Mo_opens_19 rfl ?_
      refine en_if_eq (tgt := 77) d_Mo_opens_20 (by decide) (by decide) (fun h20_2 => ?_) (fun h20_2 => by exact absurd h20_2 (by decide))
      refine ew_iconst (v := nI 0) d_Mo_opens_77 (by decide) ?_
      refine en_istore_n (ls' := [.ref 47, .int (nI 2), .int (nI j), .int (nI 0), .int (nI 2), .int (nI 135)]) d_Mo_opens_78 (Nat.le_of_ble_eq_true rfl) rfl ?_
      refine en_inc (ls' := [.ref 47, .int (nI 2), .int (nI j), .int (nI 0), .int (nI 3), .int (nI 135)]) d_Mo_opens_79 rfl rfl ?_
      refine ew_goto (tgt := 5) d_Mo_opens_82 (by decide) ?_
      refine ew_iload d_Mo_opens_5 rfl ?_
      refine ew_iconst (v := nI 4) d_Mo_opens_7 (by decide) ?_
      refine en_icmp_ge (tgt := 85) d_Mo_opens_8 (by decide) (by decide) (by decide) (fun h8_3 => by exact absurd h8_3 (by decide)) (fun h8_3 => ?_)
      refine ew_iload_n d_Mo_opens_11 rfl ?_
      refine ew_iload d_Mo_opens_12 rfl ?_
      refine en_callS (As := [.int (nI 2), .int (nI 3)]) (st := []) (st1 := [.int (nI 142)]) d_Mo_opens_14 k_Mo_placeOf tw_819 tw_820 rfl (Nat.le_of_ble_eq_true rfl) rfl (Nat.le_of_ble_eq_true rfl) rfl rfl (c_Mo_placeOf_2_3 l g _ L M) rfl ?_
      refine en_istore (ls' := [.ref 47, .int (nI 2), .int (nI j), .int (nI 0), .int (nI 3), .int (nI 142)]) d_Mo_opens_17 (Nat.le_of_ble_eq_true rfl) rfl ?_
      refine ew_iload_n d_Mo_opens_19 rfl ?_
      refine en_if_eq (tgt := 77) d_Mo_opens_20 (by decide) (by decide) (fun h20_3 => ?_) (fun h20_3 => by exact absurd h20_3 (by decide))
      refine ew_iconst (v := nI 0) d_Mo_opens_77 (by decide) ?_
      refine en_istore_n (ls' := [.ref 47, .int (nI 2), .int (nI j), .int (nI 0), .int (nI 3), .int (nI 142)]) d_Mo_opens_78 (Nat.le_of_ble_eq_true rfl) rfl ?_
      refine en_inc (ls' := [.ref 47, .int (nI 2), .int (nI j), .int (nI 0), .int (nI 4), .int (nI 142)]) d_Mo_opens_79 rfl rfl ?_
      refine ew_goto (tgt := 5) d_Mo_opens_82 (by decide) ?_
      refine ew_iload d_Mo_opens_5 rfl ?_
      refine ew_iconst (v := nI 4) d_Mo_opens_7 (by decide) ?_
      refine en_icmp_ge (tgt := 85) d_Mo_opens_8 (by decide) (by decide) (by decide) (fun h8_4 => ?_) (fun h8_4 => by exact absurd h8_4 (by decide))
      refine ew_iload_n d_Mo_opens_85 rfl ?_
      exact ew_zret d_Mo_opens_86 rfl (by decide) (⟨by rw [show sp_vc2 (M 56) j = false from by (unfold sp_vc2; simp only [h70_1, Bool.false_and, Bool.and_false])]; rfl, rfl, rfl⟩)
    · refine ew_iconst (v := nI 1) d_Mo_opens_73 (by decide) ?_
      refine ew_goto (tgt := 78) d_Mo_opens_74 (by decide) ?_
      refine en_istore_n (ls' := [.ref 47, .int (nI 2), .int (nI j), .int (nI 1), .int (nI 1), .int (nI 128)]) d_Mo_opens_78 (Nat.le_of_ble_eq_true rfl) rfl ?_
      refine en_inc (ls' := [.ref 47, .int (nI 2), .int (nI j), .int (nI 1), .int (nI 2), .int (nI 128)]) d_Mo_opens_79 rfl rfl ?_
      refine ew_goto (tgt := 5) d_Mo_opens_82 (by decide) ?_
      refine ew_iload d_Mo_opens_5 rfl ?_
      refine ew_iconst (v := nI 4) d_Mo_opens_7 (by decide) ?_
      refine en_icmp_ge (tgt := 85) d_Mo_opens_8 (by decide) (by decide) (by decide) (fun h8_2 => by exact absurd h8_2 (by decide)) (fun h8_2 => ?_)
      refine ew_iload_n d_Mo_opens_11 rfl ?_
      refine ew_iload d_Mo_opens_12 rfl ?_
      refine en_callS (As := [.int (nI 2), .int (nI 2)]) (st := []) (st1 := [.int (nI 135)]) d_Mo_opens_14 k_Mo_placeOf tw_819 tw_820 rfl (Nat.le_of_ble_eq_true rfl) rfl (Nat.le_of_ble_eq_true rfl) rfl rfl (c_Mo_placeOf_2_2 l g _ L M) rfl ?_
      refine en_istore (ls' := [.ref 47, .int (nI 2), .int (nI j), .int (nI 1), .int (nI 2), .int (nI 135)]) d_Mo_opens_17 (Nat.le_of_ble_eq_true rfl) rfl ?_
      refine ew_iload_n d_Mo_opens_19 rfl ?_
      refine en_if_eq (tgt := 77) d_Mo_opens_20 (by decide) (by decide) (fun h20_2 => by exact absurd h20_2 (by decide)) (fun h20_2 => ?_)
      refine ew_aload_n d_Mo_opens_23 rfl ?_
      refine ew_iconst (v := nI 0) d_Mo_opens_24 (by decide) ?_
      refine ew_iload_n d_Mo_opens_25 rfl ?_
      refine ew_iload d_Mo_opens_26 rfl ?_
      refine ew_iconst (v := nI 2) d_Mo_opens_28 (by decide) ?_
      refine en_irem d_Mo_opens_29 (by first | with_reducible assumption | with_reducible exact ep_lt _ | with_reducible exact sp_its_lt _ _ _ | with_reducible exact tb_l_rt _ | with_reducible exact tb_l_x _ | with_reducible exact tb_l_o0 _ | with_reducible exact tb_l_o1 _ | with_reducible exact tb_l_va _ | with_reducible exact tb_l_ll _ | with_reducible exact tb_l_cf _ | with_reducible exact tb_l_kf _ | with_reducible exact sp_ts_lt _ _ _ _ | with_reducible exact sp_w_lt _ _ | with_reducible exact sp_cs_lt _ _ _ _ _ | with_reducible exact sp_cb_lt _ _ _ _ _ | with_reducible exact sp_ch_lt _ | with_reducible exact sp_bf_lt _ _ | with_reducible exact sp_va_lt _ _ _ | with_reducible exact sp_be_lt _ _ | with_reducible exact sp_p_lt _ _ _ | with_reducible exact sp_com_lt _ _ _ _ | with_reducible exact sp_fo_lt _ _ _ _ _ | omega) (by decide) (by decide) ?_
      refine en_eq rfl (show _ = [.int (nI 0), .int (nI j), .int (nI 0), .ref 47] from rfl) rfl ?_
      refine ew_iconst (v := nI 4) d_Mo_opens_30 (by decide) ?_
      refine en_imul d_Mo_opens_31 ?_
      refine en_eq rfl (show _ = [.int (nI 0), .int (nI j), .int (nI 0), .ref 47] from rfl) rfl ?_
      refine en_iadd d_Mo_opens_32 ?_
      refine ew_iload d_Mo_opens_33 rfl ?_
      refine ew_iconst (v := nI 2) d_Mo_opens_35 (by decide) ?_
      refine en_idiv d_Mo_opens_36 (by first | with_reducible assumption | with_reducible exact ep_lt _ | with_reducible exact sp_its_lt _ _ _ | with_reducible exact tb_l_rt _ | with_reducible exact tb_l_x _ | with_reducible exact tb_l_o0 _ | with_reducible exact tb_l_o1 _ | with_reducible exact tb_l_va _ | with_reducible exact tb_l_ll _ | with_reducible exact tb_l_cf _ | with_reducible exact tb_l_kf _ | with_reducible exact sp_ts_lt _ _ _ _ | with_reducible exact sp_w_lt _ _ | with_reducible exact sp_cs_lt _ _ _ _ _ | with_reducible exact sp_cb_lt _ _ _ _ _ | with_reducible exact sp_ch_lt _ | with_reducible exact sp_bf_lt _ _ | with_reducible exact sp_va_lt _ _ _ | with_reducible exact sp_be_lt _ _ | with_reducible exact sp_p_lt _ _ _ | with_reducible exact sp_com_lt _ _ _ _ | with_reducible exact sp_fo_lt _ _ _ _ _ | omega) (by decide) (by decide) ?_
      refine en_eq rfl (show _ = [.int (nI 1), .int (nI (j + 0)), .int (nI 0), .ref 47] from rfl) rfl ?_
      refine ew_bipush (v := nI 16) d_Mo_opens_37 (by decide) ?_
      refine en_imul d_Mo_opens_39 ?_
      refine en_eq rfl (show _ = [.int (nI 16), .int (nI (j + 0)), .int (nI 0), .ref 47] from rfl) rfl ?_
      refine en_iadd d_Mo_opens_40 ?_
      refine ew_bipush (v := nI 32) d_Mo_opens_41 (by decide) ?_
      refine en_irem d_Mo_opens_43 (by omega) (by decide) (by decide) ?_
      refine en_eq (st' := [.int (nI ((j + 16) % 32)), .int (nI 0), .ref 47]) rfl (by rw [show (nI (((j + 0) + 16) % 32)) = (nI ((j + 16) % 32)) from congrArg nI (by omega)]) rfl ?_
      refine ew_aload_n d_Mo_opens_44 rfl ?_
      refine ew_getr (ci := 9) (f := 10) d_Mo_opens_45 rfl rfl rfl tw_602 ?_
      refine ew_iload d_Mo_opens_48 rfl ?_
      refine ew_iald (j := 135) d_Mo_opens_50 rfl (rfl) (by decide) (by decide) ?_
      refine ew_aload_n d_Mo_opens_51 rfl ?_
      refine ew_getr (ci := 9) (f := 10) d_Mo_opens_52 rfl rfl rfl tw_602 ?_
      refine ew_iload d_Mo_opens_55 rfl ?_
      refine ew_iconst (v := nI 1) d_Mo_opens_57 (by decide) ?_
      refine en_iadd d_Mo_opens_58 ?_
      refine en_eq rfl (show _ = [.int (nI 136), .ref 56, .int (M 56 135), .int (nI ((j + 16) % 32)), .int (nI 0), .ref 47] from rfl) rfl ?_
      refine ew_iald (j := 136) d_Mo_opens_59 rfl (rfl) (by decide) (by decide) ?_
      refine en_callS (As := [.int (M 56 135), .int (M 56 136)]) (st := [.int (nI ((j + 16) % 32)), .int (nI 0), .ref 47]) (st1 := [.int (sp_mix (M 56 135) (M 56 136)), .int (nI ((j + 16) % 32)), .int (nI 0), .ref 47]) d_Mo_opens_60 k_Mo_mix tw_752 tw_753 rfl (Nat.le_of_ble_eq_true rfl) rfl (Nat.le_of_ble_eq_true rfl) rfl rfl (c_Mo_mix l g _ (ew_SH L) M (M 56 135) (M 56 136)) rfl ?_
      refine ew_iload d_Mo_opens_63 rfl ?_
      refine ew_iconst (v := nI 2) d_Mo_opens_65 (by decide) ?_
      refine en_iadd d_Mo_opens_66 ?_
      refine en_eq rfl (show _ = [.int (nI 137), .int (sp_mix (M 56 135) (M 56 136)), .int (nI ((j + 16) % 32)), .int (nI 0), .ref 47] from rfl) rfl ?_
      refine en_callV (As := [.int (nI 0), .int (nI ((j + 16) % 32)), .int (sp_mix (M 56 135) (M 56 136)), .int (nI 137)]) (i := 47) (ci := 9) (st := []) (st1 := [.int (ew_b (decide (sp_ro (M 56) 6 (sp_mix (M 56 135) (M 56 136)) (32 + ((j + 16) % 32)) 137 = M 56 0)))]) d_Mo_opens_67 k_Mo_leads rfl rfl tw_830 tw_832 tp_49 rfl (Nat.le_of_ble_eq_true rfl) rfl (Nat.le_of_ble_eq_true rfl) rfl rfl (c_Mo_leads0 l g _ L M ((j + 16) % 32) 137 (sp_mix (M 56 135) (M 56 136)) (by omega) (by decide)) rfl ?_
      refine en_b_eq (tgt := 77) d_Mo_opens_70 (by decide) (fun h70_2 => ?_) (fun h70_2 => ?_)
      · refine ew_iconst (v := nI 0) d_Mo_opens_77 (by decide) ?_
        refine en_istore_n (ls' := [.ref 47, .int (nI 2), .int (nI j), .int (nI 0), .int (nI 2), .int (nI 135)]) d_Mo_opens_78 (Nat.le_of_ble_eq_true rfl) rfl ?_
        refine en_inc (ls' := [.ref 47, .int (nI 2), .int (nI j), .int (nI 0), .int (nI 3), .int (nI 135)]) d_Mo_opens_79 rfl rfl ?_
        refine ew_goto (tgt := 5) d_Mo_opens_82 (by decide) ?_
        refine ew_iload d_Mo_opens_5 rfl ?_
        refine ew_iconst (v := nI 4) d_Mo_opens_7 (by decide) ?_
        refine en_icmp_ge (tgt := 85) d_Mo_opens_8 (by decide) (by decide) (by decide) (fun h8_3 => by exact absurd h8_3 (by decide)) (fun h8_3 => ?_)
        refine ew_iload_n d_Mo_opens_11 rfl ?_
        refine ew_iload d_Mo_opens_12 rfl ?_
        refine en_callS (As := [.int (nI 2), .int (nI 3)]) (st := []) (st1 := [.int (nI 142)]) d_Mo_opens_14 k_Mo_placeOf tw_819 tw_820 rfl (Nat.le_of_ble_eq_true rfl) rfl (Nat.le_of_ble_eq_true rfl) rfl rfl (c_Mo_placeOf_2_3 l g _ L M) rfl ?_
        refine en_istore (ls' := [.ref 47, .int (nI 2), .int (nI j), .int (nI 0), .int (nI 3), .int (nI 142)]) d_Mo_opens_17 (Nat.le_of_ble_eq_true rfl) rfl ?_
        refine ew_iload_n d_Mo_opens_19 rfl ?_
        refine en_if_eq (tgt := 77) d_Mo_opens_20 (by decide) (by decide) (fun h20_3 => ?_) (fun h20_3 => by exact absurd h20_3 (by decide))
        refine ew_iconst (v := nI 0) d_Mo_opens_77 (by decide) ?_
        refine en_istore_n (ls' := [.ref 47, .int (nI 2), .int (nI j), .int (nI 0), .int (nI 3), .int (nI 142)]) d_Mo_opens_78 (Nat.le_of_ble_eq_true rfl) rfl ?_
        refine en_inc (ls' := [.ref 47, .int (nI 2), .int (nI j), .int (nI 0), .int (nI 4), .int (nI 142)]) d_Mo_opens_79 rfl rfl ?_
        refine ew_goto (tgt := 5) d_Mo_opens_82 (by decide) ?_
        refine ew_iload d_Mo_opens_5 rfl ?_
        refine ew_iconst (v := nI 4) d_Mo_opens_7 (by decide) ?_
        refine en_icmp_ge (tgt := 85) d_Mo_opens_8 (by decide) (by decide) (by decide) (fun h8_4 => ?_) (fun h8_4 => by exact absurd h8_4 (by decide))
        refine ew_iload_n d_Mo_opens_85 rfl ?_
        exact ew_zret d_Mo_opens_86 rfl (by decide) (⟨by rw [show sp_vc2 (M 56) j = false from by (unfold sp_vc2; simp only [h70_2, Bool.false_and, Bool.and_false])]; rfl, rfl, rfl⟩)
      · refine ew_iconst (v := nI 1) d_Mo_opens_73 (by decide) ?_
        refine ew_goto (tgt := 78) d_Mo_opens_74 (by decide) ?_
        refine en_istore_n (ls' := [.ref 47, .int (nI 2), .int (nI j), .int (nI 1), .int (nI 2), .int (nI 135)]) d_Mo_opens_78 (Nat.le_of_ble_eq_true rfl) rfl ?_
        refine en_inc (ls' := [.ref 47, .int (nI 2), .int (nI j), .int (nI 1), .int (nI 3), .int (nI 135)]) d_Mo_opens_79 rfl rfl ?_
        refine ew_goto (tgt := 5) d_Mo_opens_82 (by decide) ?_
        refine ew_iload d_Mo_opens_5 rfl ?_
        refine ew_iconst (v := nI 4) d_Mo_opens_7 (by decide) ?_
        refine en_icmp_ge (tgt := 85) d_Mo_opens_8 (by decide) (by decide) (by decide) (fun h8_3 => by exact absurd h8_3 (by decide)) (fun h8_3 => ?_)
        refine ew_iload_n d_Mo_opens_11 rfl ?_
        refine ew_iload d_Mo_opens_12 rfl ?_
        refine en_callS (As := [.int (nI 2), .int (nI 3)]) (st := []) (st1 := [.int (nI 142)]) d_Mo_opens_14 k_Mo_placeOf tw_819 tw_820 rfl (Nat.le_of_ble_eq_true rfl) rfl (Nat.le_of_ble_eq_true rfl) rfl rfl (c_Mo_placeOf_2_3 l g _ L M) rfl ?_
        refine en_istore (ls' := [.ref 47, .int (nI 2), .int (nI j), .int (nI 1), .int (nI 3), .int (nI 142)]) d_Mo_opens_17 (Nat.le_of_ble_eq_true rfl) rfl ?_
        refine ew_iload_n d_Mo_opens_19 rfl ?_
        refine en_if_eq (tgt := 77) d_Mo_opens_20 (by decide) (by decide) (fun h20_3 => by exact absurd h20_3 (by decide)) (fun h20_3 => ?_)
        refine ew_aload_n d_Mo_opens_23 rfl ?_
        refine ew_iconst (v := nI 0) d_Mo_opens_24 (by decide) ?_
        refine ew_iload_n d_Mo_opens_25 rfl ?_
        refine ew_iload d_Mo_opens_26 rfl ?_
        refine ew_iconst (v := nI 2) d_Mo_opens_28 (by decide) ?_
        refine en_irem d_Mo_opens_29 (by first | with_reducible assumption | with_reducible exact ep_lt _ | with_reducible exact sp_its_lt _ _ _ | with_reducible exact tb_l_rt _ | with_reducible exact tb_l_x _ | with_reducible exact tb_l_o0 _ | with_reducible exact tb_l_o1 _ | with_reducible exact tb_l_va _ | with_reducible exact tb_l_ll _ | with_reducible exact tb_l_cf _ | with_reducible exact tb_l_kf _ | with_reducible exact sp_ts_lt _ _ _ _ | with_reducible exact sp_w_lt _ _ | with_reducible exact sp_cs_lt _ _ _ _ _ | with_reducible exact sp_cb_lt _ _ _ _ _ | with_reducible exact sp_ch_lt _ | with_reducible exact sp_bf_lt _ _ | with_reducible exact sp_va_lt _ _ _ | with_reducible exact sp_be_lt _ _ | with_reducible exact sp_p_lt _ _ _ | with_reducible exact sp_com_lt _ _ _ _ | with_reducible exact sp_fo_lt _ _ _ _ _ | omega) (by decide) (by decide) ?_
        refine en_eq rfl (show _ = [.int (nI 1), .int (nI j), .int (nI 0), .ref 47] from rfl) rfl ?_
        refine ew_iconst (v := nI 4) d_Mo_opens_30 (by decide) ?_
        refine en_imul d_Mo_opens_31 ?_
        refine en_eq rfl (show _ = [.int (nI 4), .int (nI j), .int (nI 0), .ref 47] from rfl) rfl ?_
        refine en_iadd d_Mo_opens_32 ?_
        refine ew_iload d_Mo_opens_33 rfl ?_
        refine ew_iconst (v := nI 2) d_Mo_opens_35 (by decide) ?_
        refine en_idiv d_Mo_opens_36 (by first | with_reducible assumption | with_reducible exact ep_lt _ | with_reducible exact sp_its_lt _ _ _ | with_reducible exact tb_l_rt _ | with_reducible exact tb_l_x _ | with_reducible exact tb_l_o0 _ | with_reducible exact tb_l_o1 _ | with_reducible exact tb_l_va _ | with_reducible exact tb_l_ll _ | with_reducible exact tb_l_cf _ | with_reducible exact tb_l_kf _ | with_reducible exact sp_ts_lt _ _ _ _ | with_reducible exact sp_w_lt _ _ | with_reducible exact sp_cs_lt _ _ _ _ _ | with_reducible exact sp_cb_lt _ _ _ _ _ | with_reducible exact sp_ch_lt _ | with_reducible exact sp_bf_lt _ _ | with_reducible exact sp_va_lt _ _ _ | with_reducible exact sp_be_lt _ _ | with_reducible exact sp_p_lt _ _ _ | with_reducible exact sp_com_lt _ _ _ _ | with_reducible exact sp_fo_lt _ _ _ _ _ | omega) (by decide) (by decide) ?_
        refine en_eq rfl (show _ = [.int (nI 1), .int (nI (j + 4)), .int (nI 0), .ref 47] from rfl) rfl ?_
        refine ew_bipush (v := nI 16) d_Mo_opens_37 (by decide) ?_
        refine en_imul d_Mo_opens_39 ?_
        refine en_eq rfl (show _ = [.int (nI 16), .int (nI (j + 4)), .int (nI 0), .ref 47] from rfl) rfl ?_
        refine en_iadd d_Mo_opens_40 ?_
        refine ew_bipush (v := nI 32) d_Mo_opens_41 (by decide) ?_
        refine en_irem d_Mo_opens_43 (by omega) (by decide) (by decide) ?_
        refine en_eq (st' := [.int (nI ((j + 20) % 32)), .int (nI 0), .ref 47]) rfl (by rw [show (nI (((j + 4) + 16) % 32)) = (nI ((j + 20) % 32)) from congrArg nI (by omega)]) rfl ?_
        refine ew_aload_n d_Mo_opens_44 rfl ?_
        refine ew_getr (ci := 9) (f := 10) d_Mo_opens_45 rfl rfl rfl tw_602 ?_
        refine ew_iload d_Mo_opens_48 rfl ?_
        refine ew_iald (j := 142) d_Mo_opens_50 rfl (rfl) (by decide) (by decide) ?_
        refine ew_aload_n d_Mo_opens_51 rfl ?_
        refine ew_getr (ci := 9) (f := 10) d_Mo_opens_52 rfl rfl rfl tw_602 ?_
        refine ew_iload d_Mo_opens_55 rfl ?_
        refine ew_iconst (v := nI 1) d_Mo_opens_57 (by decide) ?_
        refine en_iadd d_Mo_opens_58 ?_
        refine en_eq rfl (show _ = [.int (nI 143), .ref 56, .int (M 56 142), .int (nI ((j + 20) % 32)), .int (nI 0), .ref 47] from rfl) rfl ?_
        refine ew_iald (j := 143) d_Mo_opens_59 rfl (rfl) (by decide) (by decide) ?_
        refine en_callS (As := [.int (M 56 142), .int (M 56 143)]) (st := [.int (nI ((j + 20) % 32)), .int (nI 0), .ref 47]) (st1 := [.int (sp_mix (M 56 142) (M 56 143)), .int (nI ((j + 20) % 32)), .int (nI 0), .ref 47]) d_Mo_opens_60 k_Mo_mix tw_752 tw_753 rfl (Nat.le_of_ble_eq_true rfl) rfl (Nat.le_of_ble_eq_true rfl) rfl rfl (c_Mo_mix l g _ (ew_SH L) M (M 56 142) (M 56 143)) rfl ?_
        refine ew_iload d_Mo_opens_63 rfl ?_
        refine ew_iconst (v := nI 2) d_Mo_opens_65 (by decide) ?_
        refine en_iadd d_Mo_opens_66 ?_
        refine en_eq rfl (show _ = [.int (nI 144), .int (sp_mix (M 56 142) (M 56 143)), .int (nI ((j + 20) % 32)), .int (nI 0), .ref 47] from rfl) rfl ?_
        refine en_callV (As := [.int (nI 0), .int (nI ((j + 20) % 32)), .int (sp_mix (M 56 142) (M 56 143)), .int (nI 144)]) (i := 47) (ci := 9) (st := []) (st1 := [.int (ew_b (decide (sp_ro (M 56) 6 (sp_mix (M 56 142) (M 56 143)) (32 + ((j + 20) % 32)) 144 = M 56 0)))]) d_Mo_opens_67 k_Mo_leads rfl rfl tw_830 tw_832 tp_49 rfl (Nat.le_of_ble_eq_true rfl) rfl (Nat.le_of_ble_eq_true rfl) rfl rfl (c_Mo_leads0 l g _ L M ((j + 20) % 32) 144 (sp_mix (M 56 142) (M 56 143)) (by omega) (by decide)) rfl ?_
        refine en_b_eq (tgt := 77) d_Mo_opens_70 (by decide) (fun h70_3 => ?_) (fun h70_3 => ?_)
        · refine ew_iconst (v := nI 0) d_Mo_opens_77 (by decide) ?_
          refine en_istore_n (ls' := [.ref 47, .int (nI 2), .int (nI j), .int (nI 0), .int (nI 3), .int (nI 142)]) d_Mo_opens_78 (Nat.le_of_ble_eq_true rfl) rfl ?_
          refine en_inc (ls' := [.ref 47, .int (nI 2), .int (nI j), .int (nI 0), .int (nI 4), .int (nI 142)]) d_Mo_opens_79 rfl rfl ?_
          refine ew_goto (tgt := 5) d_Mo_opens_82 (by decide) ?_
          refine ew_iload d_Mo_opens_5 rfl ?_
          refine ew_iconst (v := nI 4) d_Mo_opens_7 (by decide) ?_
          refine en_icmp_ge (tgt := 85) d_Mo_opens_8 (by decide) (by decide) (by decide) (fun h8_4 => ?_) (fun h8_4 => by exact absurd h8_4 (by decide))
          refine ew_iload_n d_Mo_opens_85 rfl ?_
          exact ew_zret d_Mo_opens_86 rfl (by decide) (⟨by rw [show sp_vc2 (M 56) j = false from by (unfold sp_vc2; simp only [h70_3, Bool.false_and, Bool.and_false])]; rfl, rfl, rfl⟩)
        · refine ew_iconst (v := nI 1) d_Mo_opens_73 (by decide) ?_
          refine ew_goto (tgt := 78) d_Mo_opens_74 (by decide) ?_
          refine en_istore_n (ls' := [.ref 47, .int (nI 2), .int (nI j), .int (nI 1), .int (nI 3), .int (nI 142)]) d_Mo_opens_78 (Nat.le_of_ble_eq_true rfl) rfl ?_
          refine en_inc (ls' := [.ref 47, .int (nI 2), .int (nI j), .int (nI 1), .int (nI 4), .int (nI 142)]) d_Mo_opens_79 rfl rfl ?_
          refine ew_goto (tgt := 5) d_Mo_opens_82 (by decide) ?_
          refine ew_iload d_Mo_opens_5 rfl ?_
          refine ew_iconst (v := nI 4) d_Mo_opens_7 (by decide) ?_
          refine en_icmp_ge (tgt := 85) d_Mo_opens_8 (by decide) (by decide) (by decide) (fun h8_4 => ?_) (fun h8_4 => by exact absurd h8_4 (by decide))
          refine ew_iload_n d_Mo_opens_85 rfl ?_
          exact ew_zret d_Mo_opens_86 rfl (by decide) (⟨by rw [show sp_vc2 (M 56) j = true from by (unfold sp_vc2; simp only [h70, h70_1, h70_2, h70_3, Bool.and_self])]; rfl, rfl, rfl⟩)
set_option maxRecDepth 100000 in
theorem c_Mo_opensLayer20 (l : Launch) (g : ew_G) (d L : Nat) (M : ew_M) (j : Nat) (hj : j < 16) :
    Ew l g (d + 2) 0 0 m_Mo_opensLayer 0 [.ref 47, .int (nI 2), .int (nI j), .int (nI 0), .retAddr 0, .retAddr 0, .retAddr 0, .retAddr 0] [] (ew_SH L) M (ew_q (some (.int (ew_b (sp_vl20 (M 56) j)))) (ew_SH L) M) := by
  refine ew_iconst (v := nI 1) d_Mo_opensLayer_0 (by decide) ?_
  refine en_istore (ls' := [.ref 47, .int (nI 2), .int (nI j), .int (nI 0), .int (nI 1), .retAddr 0, .retAddr 0, .retAddr 0]) d_Mo_opensLayer_1 (Nat.le_of_ble_eq_true rfl) rfl ?_
  refine ew_bipush (v := nI 16) d_Mo_opensLayer_3 (by decide) ?_
  refine ew_iload_n d_Mo_opensLayer_5 rfl ?_
  refine ew_ishr d_Mo_opensLayer_6 ?_
  refine en_eq (st' := [.int (nI 16)]) rfl (by rw [show ((nI 16) >>> ((nI 0) &&& 31)) = (nI 16) from by decide]) rfl ?_
  refine en_istore (ls' := [.ref 47, .int (nI 2), .int (nI j), .int (nI 0), .int (nI 1), .int (nI 16), .retAddr 0, .retAddr 0]) d_Mo_opensLayer_7 (Nat.le_of_ble_eq_true rfl) rfl ?_
  refine ew_iconst (v := nI 0) d_Mo_opensLayer_9 (by decide) ?_
  refine en_istore (ls' := [.ref 47, .int (nI 2), .int (nI j), .int (nI 0), .int (nI 1), .int (nI 16), .int (nI 0), .retAddr 0]) d_Mo_opensLayer_10 (Nat.le_of_ble_eq_true rfl) rfl ?_
  refine ew_iload d_Mo_opensLayer_12 rfl ?_
  refine ew_iconst (v := nI 2) d_Mo_opensLayer_14 (by decide) ?_
  refine en_icmp_ge (tgt := 87) d_Mo_opensLayer_15 (by decide) (by decide) (by decide) (fun h15 => by exact absurd h15 (by decide)) (fun h15 => ?_)
  refine ew_iload_n d_Mo_opensLayer_18 rfl ?_
  refine ew_iconst (v := nI 4) d_Mo_opensLayer_19 (by decide) ?_
  refine ew_iconst (v := nI 2) d_Mo_opensLayer_20 (by decide) ?_
  refine ew_iload_n d_Mo_opensLayer_21 rfl ?_
  refine en_imul d_Mo_opensLayer_22 ?_
  refine en_eq rfl (show _ = [.int (nI 0), .int (nI 4), .int (nI 2)] from rfl) rfl ?_
  refine en_iadd d_Mo_opensLayer_23 ?_
  refine en_eq rfl (show _ = [.int (nI 4), .int (nI 2)] from rfl) rfl ?_
  refine ew_iload d_Mo_opensLayer_24 rfl ?_
  refine en_iadd d_Mo_opensLayer_26 ?_
  refine en_eq rfl (show _ = [.int (nI 4), .int (nI 2)] from rfl) rfl ?_
  refine en_callS (As := [.int (nI 2), .int (nI 4)]) (st := []) (st1 := [.int (nI 149)]) d_Mo_opensLayer_27 k_Mo_placeOf tw_819 tw_820 rfl (Nat.le_of_ble_eq_true rfl) rfl (Nat.le_of_ble_eq_true rfl) rfl rfl (c_Mo_placeOf_2_4 l g _ L M) rfl ?_
  refine en_istore (ls' := [.ref 47, .int (nI 2), .int (nI j), .int (nI 0), .int (nI 1), .int (nI 16), .int (nI 0), .int (nI 149)]) d_Mo_opensLayer_30 (Nat.le_of_ble_eq_true rfl) rfl ?_
  refine ew_iload d_Mo_opensLayer_32 rfl ?_
  refine en_if_eq (tgt := 78) d_Mo_opensLayer_34 (by decide) (by decide) (fun h34 => by exact absurd h34 (by decide)) (fun h34 => ?_)
  refine ew_aload_n d_Mo_opensLayer_37 rfl ?_
  refine ew_iload_n d_Mo_opensLayer_38 rfl ?_
  refine ew_iconst (v := nI 1) d_Mo_opensLayer_39 (by decide) ?_
  refine en_iadd d_Mo_opensLayer_40 ?_
  refine en_eq rfl (show _ = [.int (nI 1), .ref 47] from rfl) rfl ?_
  refine ew_iload_n d_Mo_opensLayer_41 rfl ?_
  refine ew_iload d_Mo_opensLayer_42 rfl ?_
  refine en_irem d_Mo_opensLayer_44 (by omega) (by decide) (by decide) ?_
  refine ew_iload d_Mo_opensLayer_45 rfl ?_
  refine ew_iload d_Mo_opensLayer_47 rfl ?_
  refine en_imul d_Mo_opensLayer_49 ?_
  refine en_eq rfl (show _ = [.int (nI 0), .int (nI (j % 16)), .int (nI 1), .ref 47] from rfl) rfl ?_
  refine en_iadd d_Mo_opensLayer_50 ?_
  refine en_eq (st' := [.int (nI (j % 16 + 16 * 0)), .int (nI 1), .ref 47]) rfl (by rw [show (nI ((j % 16) + 0)) = (nI (j % 16 + 16 * 0)) from rfl]) rfl ?_
  refine ew_aload_n d_Mo_opensLayer_51 rfl ?_
  refine ew_getr (ci := 9) (f := 10) d_Mo_opensLayer_52 rfl rfl rfl tw_602 ?_
  refine ew_iload d_Mo_opensLayer_55 rfl ?_
  refine ew_iald (j := 149) d_Mo_opensLayer_57 rfl (rfl) (by decide) (by decide) ?_
  refine ew_sipush (v := nI 12289) d_Mo_opensLayer_58 (by decide) ?_
  refine en_callS (As := [.int (M 56 149), .int (nI 12289)]) (st := [.int (nI (j % 16 + 16 * 0)), .int (nI 1), .ref 47]) (st1 := [.int (sp_mix (M 56 149) (nI 12289)), .int (nI (j % 16 + 16 * 0)), .int (nI 1), .ref 47]) d_Mo_opensLayer_61 k_Mo_mix tw_752 tw_753 rfl (Nat.le_of_ble_eq_true rfl) rfl (Nat.le_of_ble_eq_true rfl) rfl rfl (c_Mo_mix l g _ (ew_SH L) M (M 56 149) (nI 12289)) rfl ?_
  refine ew_iload d_Mo_opensLayer_64 rfl ?_
  refine ew_iconst (v := nI 1) d_Mo_opensLayer_66 (by decide) ?_
  refine en_iadd d_Mo_opensLayer_67 ?_
  refine en_eq rfl (show _ = [.int (nI 150), .int (sp_mix (M 56 149) (nI 12289)), .int (nI (j % 16 + 16 * 0)), .int (nI 1), .ref 47] from rfl) rfl ?_
  refine en_callV (As := [.int (nI 1), .int (nI (j % 16 + 16 * 0)), .int (sp_mix (M 56 149) (nI 12289)), .int (nI 150)]) (i := 47) (ci := 9) (st := []) (st1 := [.int (ew_b (decide (sp_ro (M 56) 6 (sp_mix (M 56 149) (nI 12289)) (32 + (j % 16 + 16 * 0)) 150 = M 56 1)))]) d_Mo_opensLayer_68 k_Mo_leads rfl rfl tw_830 tw_832 tp_49 rfl (Nat.le_of_ble_eq_true rfl) rfl (Nat.le_of_ble_eq_true rfl) rfl rfl (c_Mo_leads1 l g _ L M (j % 16 + 16 * 0) 150 (sp_mix (M 56 149) (nI 12289)) (by omega) (by decide)) rfl ?_
  refine en_b_eq (tgt := 78) d_Mo_opensLayer_71 (by decide) (fun h71 => ?_) (fun h71 => ?_)
  · refine ew_iconst (v := nI 0) d_Mo_opensLayer_78 (by decide) ?_
    refine en_istore (ls' := [.ref 47, .int (nI 2), .int (nI j), .int (nI 0), .int (nI 0), .int (nI 16), .int (nI 0), .int (nI 149)]) d_Mo_opensLayer_79 (Nat.le_of_ble_eq_true rfl) rfl ?_
    refine en_inc (ls' := [.ref 47, .int (nI 2), .int (nI j), .int (nI 0), .int (nI 0), .int (nI 16), .int (nI 1), .int (nI 149)]) d_Mo_opensLayer_81 rfl rfl ?_
    refine ew_goto (tgt := 12) d_Mo_opensLayer_84 (by decide) ?_
    refine ew_iload d_Mo_opensLayer_12 rfl ?_
    refine ew_iconst (v := nI 2) d_Mo_opensLayer_14 (by decide) ?_
    refine en_icmp_ge (tgt := 87) d_Mo_opensLayer_15 (by decide) (by decide) (by decide) (fun h15_1 => by exact absurd h15_1 (by decide)) (fun h15_1 => ?_)
    refine ew_iload_n d_Mo_opensLayer_18 rfl ?_
    refine ew_iconst (v := nI 4) d_Mo_opensLayer_19 (by decide) ?_
    refine ew_iconst (v := nI 2) d_Mo_opensLayer_20 (by decide) ?_
    refine ew_iload_n d_Mo_opensLayer_21 rfl ?_
    refine en_imul d_Mo_opensLayer_22 ?_
    refine en_eq rfl (show _ = [.int (nI 0), .int (nI 4), .int (nI 2)] from rfl) rfl ?_
    refine en_iadd d_Mo_opensLayer_23 ?_
    refine en_eq rfl (show _ = [.int (nI 4), .int (nI 2)] from rfl) rfl ?_
    refine ew_iload d_Mo_opensLayer_24 rfl ?_
    refine en_iadd d_Mo_opensLayer_26 ?_
    refine en_eq rfl (show _ = [.int (nI 5), .int (nI 2)] from rfl) rfl ?_
    refine en_callS (As := [.int (nI 2), .int (nI 5)]) (st := []) (st1 := [.int (nI 155)]) d_Mo_opensLayer_27 k_Mo_placeOf tw_819 tw_820 rfl (Nat.le_of_ble_eq_true rfl) rfl (Nat.le_of_ble_eq_true rfl) rfl rfl (c_Mo_placeOf_2_5 l g _ L M) rfl ?_
    refine en_istore (ls' := [.ref 47, .int (nI 2), .int (nI j), .int (nI 0), .int (nI 0), .int (nI 16), .int (nI 1), .int (nI 155)]) d_Mo_opensLayer_30 (Nat.le_of_ble_eq_true rfl) rfl ?_
    refine ew_iload d_Mo_opensLayer_32 rfl ?_
    refine en_if_eq (tgt := 78) d_Mo_opensLayer_34 (by decide) (by decide) (fun h34_1 => ?_) (fun h34_1 => by exact absurd h34_1 (by decide))
    refine ew_iconst (v := nI 0) d_Mo_opensLayer_78 (by decide) ?_
    refine en_istore (ls' := [.ref 47, .int (nI 2), .int (nI j), .int (nI 0), .int (nI 0), .int (nI 16), .int (nI 1), .int (nI 155)]) d_Mo_opensLayer_79 (Nat.le_of_ble_eq_true rfl) rfl ?_
    refine en_inc (ls' := [.ref 47, .int (nI 2), .int (nI j), .int (nI 0), .int (nI 0), .int (nI 16), .int (nI 2), .int (nI 155)]) d_Mo_opensLayer_81 rfl rfl ?_
    refine ew_goto (tgt := 12) d_Mo_opensLayer_84 (by decide) ?_
    refine ew_iload d_Mo_opensLayer_12 rfl ?_
    refine ew_iconst (v := nI 2) d_Mo_opensLayer_14 (by decide) ?_
    refine en_icmp_ge (tgt := 87) d_Mo_opensLayer_15 (by decide) (by decide) (by decide) (fun h15_2 => ?_) (fun h15_2 => by exact absurd h15_2 (by decide))
    refine ew_iload d_Mo_opensLayer_87 rfl ?_
    exact ew_zret d_Mo_opensLayer_89 rfl (by decide) (⟨by rw [show sp_vl20 (M 56) j = false from by (unfold sp_vl20; simp only [h71, Bool.false_and, Bool.and_false])]; rfl, rfl, rfl⟩)
  · refine ew_iconst (v := nI 1) d_Mo_opensLayer_74 (by decide) ?_
    refine ew_goto (tgt := 79) d_Mo_opensLayer_75 (by decide) ?_
    refine en_istore (ls' := [.ref 47, .int (nI 2), .int (nI j), .int (nI 0), .int (nI 1), .int (nI 16), .int (nI 0), .int (nI 149)]) d_Mo_opensLayer_79 (Nat.le_of_ble_eq_true rfl) rfl ?_
    refine en_inc (ls' := [.ref 47, .int (nI 2), .int (nI j), .int (nI 0), .int (nI 1), .int (nI 16), .int (nI 1), .int (nI 149)]) d_Mo_opensLayer_81 rfl rfl ?_
    refine ew_goto (tgt := 12) d_Mo_opensLayer_84 (by decide) ?_
    refine ew_iload d_Mo_opensLayer_12 rfl ?_
    refine ew_iconst (v := nI 2) d_Mo_opensLayer_14 (by decide) ?_
    refine en_icmp_ge (tgt := 87) d_Mo_opensLayer_15 (by decide) (by decide) (by decide) (fun h15_1 => by exact absurd h15_1 (by decide)) (fun h15_1 => ?_)
    refine ew_iload_n d_Mo_opensLayer_18 rfl ?_
    refine ew_iconst (v := nI 4) d_Mo_opensLayer_19 (by decide) ?_
    refine ew_iconst (v := nI 2) d_Mo_opensLayer_20 (by decide) ?_
    refine ew_iload_n d_Mo_opensLayer_21 rfl ?_
    refine en_imul d_Mo_opensLayer_22 ?_
    refine en_eq rfl (show _ = [.int (nI 0), .int (nI 4), .int (nI 2)] from rfl) rfl ?_
    refine en_iadd d_Mo_opensLayer_23 ?_
    refine en_eq rfl (show _ = [.int (nI 4), .int (nI 2)] from rfl) rfl ?_
    refine ew_iload d_Mo_opensLayer_24 rfl ?_
    refine en_iadd d_Mo_opensLayer_26 ?_
    refine en_eq rfl (show _ = [.int (nI 5), .int (nI 2)] from rfl) rfl ?_
    refine en_callS (As := [.int (nI 2), .int (nI 5)]) (st := []) (st1 := [.int (nI 155)]) d_Mo_opensLayer_27 k_Mo_placeOf tw_819 tw_820 rfl (Nat.le_of_ble_eq_true rfl) rfl (Nat.le_of_ble_eq_true rfl) rfl rfl (c_Mo_placeOf_2_5 l g _ L M) rfl ?_
    refine en_istore (ls' := [.ref 47, .int (nI 2), .int (nI j), .int (nI 0), .int (nI 1), .int (nI 16), .int (nI 1), .int (nI 155)]) d_Mo_opensLayer_30 (Nat.le_of_ble_eq_true rfl) rfl ?_
    refine ew_iload d_Mo_opensLayer_32 rfl ?_
    refine en_if_eq (tgt := 78) d_Mo_opensLayer_34 (by decide) (by decide) (fun h34_1 => by exact absurd h34_1 (by decide)) (fun h34_1 => ?_)
    refine ew_aload_n d_Mo_opensLayer_37 rfl ?_
    refine ew_iload_n d_Mo_opensLayer_38 rfl ?_
    refine ew_iconst (v := nI 1) d_Mo_opensLayer_39 (by decide) ?_
    refine en_iadd d_Mo_opensLayer_40 ?_
    refine en_eq rfl (show _ = [.int (nI 1), .ref 47] from rfl) rfl ?_
    refine ew_iload_n d_Mo_opensLayer_41 rfl ?_
    refine ew_iload d_Mo_opensLayer_42 rfl ?_
    refine en_irem d_Mo_opensLayer_44 (by omega) (by decide) (by decide) ?_
    refine ew_iload d_Mo_opensLayer_45 rfl ?_
    refine ew_iload d_Mo_opensLayer_47 rfl ?_
    refine en_imul d_Mo_opensLayer_49 ?_
    refine en_eq rfl (show _ = [.int (nI 16), .int (nI (j % 16)), .int (nI 1), .ref 47] from rfl) rfl ?_
    refine en_iadd d_Mo_opensLayer_50 ?_
    refine en_eq (st' := [.int (nI (j % 16 + 16 * 1)), .int (nI 1), .ref 47]) rfl (by rw [show (nI ((j % 16) + 16)) = (nI (j % 16 + 16 * 1)) from rfl]) rfl ?_
    refine ew_aload_n d_Mo_opensLayer_51 rfl ?_
    refine ew_getr (ci := 9) (f := 10) d_Mo_opensLayer_52 rfl rfl rfl tw_602 ?_
    refine ew_iload d_Mo_opensLayer_55 rfl ?_
    refine ew_iald (j := 155) d_Mo_opensLayer_57 rfl (rfl) (by decide) (by decide) ?_
    refine ew_sipush (v := nI 12289) d_Mo_opensLayer_58 (by decide) ?_
    refine en_callS (As := [.int (M 56 155), .int (nI 12289)]) (st := [.int (nI (j % 16 + 16 * 1)), .int (nI 1), .ref 47]) (st1 := [.int (sp_mix (M 56 155) (nI 12289)), .int (nI (j % 16 + 16 * 1)), .int (nI 1), .ref 47]) d_Mo_opensLayer_61 k_Mo_mix tw_752 tw_753 rfl (Nat.le_of_ble_eq_true rfl) rfl (Nat.le_of_ble_eq_true rfl) rfl rfl (c_Mo_mix l g _ (ew_SH L) M (M 56 155) (nI 12289)) rfl ?_
    refine ew_iload d_Mo_opensLayer_64 rfl ?_
    refine ew_iconst (v := nI 1) d_Mo_opensLayer_66 (by decide) ?_
    refine en_iadd d_Mo_opensLayer_67 ?_
    refine en_eq rfl (show _ = [.int (nI 156), .int (sp_mix (M 56 155) (nI 12289)), .int (nI (j % 16 + 16 * 1)), .int (nI 1), .ref 47] from rfl) rfl ?_
    refine en_callV (As := [.int (nI 1), .int (nI (j % 16 + 16 * 1)), .int (sp_mix (M 56 155) (nI 12289)), .int (nI 156)]) (i := 47) (ci := 9) (st := []) (st1 := [.int (ew_b (decide (sp_ro (M 56) 6 (sp_mix (M 56 155) (nI 12289)) (32 + (j % 16 + 16 * 1)) 156 = M 56 1)))]) d_Mo_opensLayer_68 k_Mo_leads rfl rfl tw_830 tw_832 tp_49 rfl (Nat.le_of_ble_eq_true rfl) rfl (Nat.le_of_ble_eq_true rfl) rfl rfl (c_Mo_leads1 l g _ L M (j % 16 + 16 * 1) 156 (sp_mix (M 56 155) (nI 12289)) (by omega) (by decide)) rfl ?_
    refine en_b_eq (tgt := 78) d_Mo_opensLayer_71 (by decide) (fun h71_1 => ?_) (fun h71_1 => ?_)
    · refine ew_iconst (v := nI 0) d_Mo_opensLayer_78 (by decide) ?_
      refine en_istore (ls' := [.ref 47, .int (nI 2), .int (nI j), .int (nI 0), .int (nI 0), .int (nI 16), .int (nI 1), .int (nI 155)]) d_Mo_opensLayer_79 (Nat.le_of_ble_eq_true rfl) rfl ?_
      refine en_inc (ls' := [.ref 47, .int (nI 2), .int (nI j), .int (nI 0), .int (nI 0), .int (nI 16), .int (nI 2), .int (nI 155)]) d_Mo_opensLayer_81 rfl rfl ?_
      refine ew_goto (tgt := 12) d_Mo_opensLayer_84 (by decide) ?_
      refine ew_iload d_Mo_opensLayer_12 rfl ?_
      refine ew_iconst (v := nI 2) d_Mo_opensLayer_14 (by decide) ?_
      refine en_icmp_ge (tgt := 87) d_Mo_opensLayer_15 (by decide) (by decide) (by decide) (fun h15_2 => ?_) (fun h15_2 => by exact absurd h15_2 (by decide))
      refine ew_iload d_Mo_opensLayer_87 rfl ?_
      exact ew_zret d_Mo_opensLayer_89 rfl (by decide) (⟨by rw [show sp_vl20 (M 56) j = false from by (unfold sp_vl20; simp only [h71_1, Bool.false_and, Bool.and_false])]; rfl, rfl, rfl⟩)
    · refine ew_iconst (v := nI 1) d_Mo_opensLayer_74 (by decide) ?_
      refine ew_goto (tgt := 79) d_Mo_opensLayer_75 (by decide) ?_
      refine en_istore (ls' := [.ref 47, .int (nI 2), .int (nI j), .int (nI 0), .int (nI 1), .int (nI 16), .int (nI 1), .int (nI 155)]) d_Mo_opensLayer_79 (Nat.le_of_ble_eq_true rfl) rfl ?_
      refine en_inc (ls' := [.ref 47, .int (nI 2), .int (nI j), .int (nI 0), .int (nI 1), .int (nI 16), .int (nI 2), .int (nI 155)]) d_Mo_opensLayer_81 rfl rfl ?_
      refine ew_goto (tgt := 12) d_Mo_opensLayer_84 (by decide) ?_
      refine ew_iload d_Mo_opensLayer_12 rfl ?_
      refine ew_iconst (v := nI 2) d_Mo_opensLayer_14 (by decide) ?_
      refine en_icmp_ge (tgt := 87) d_Mo_opensLayer_15 (by decide) (by decide) (by decide) (fun h15_2 => ?_) (fun h15_2 => by exact absurd h15_2 (by decide))
      refine ew_iload d_Mo_opensLayer_87 rfl ?_
      exact ew_zret d_Mo_opensLayer_89 rfl (by decide) (⟨by rw [show sp_vl20 (M 56) j = true from by (unfold sp_vl20; simp only [h71, h71_1, Bool.and_self])]; rfl, rfl, rfl⟩)
set_option maxRecDepth 100000 in
theorem c_Mo_opensLayer21 (l : Launch) (g : ew_G) (d L : Nat) (M : ew_M) (j : Nat) (hj : j < 16) :
    Ew l g (d + 2) 0 0 m_Mo_opensLayer 0 [.ref 47, .int (nI 2), .int (nI j), .int (nI 1), .retAddr 0, .retAddr 0, .retAddr 0, .retAddr 0] [] (ew_SH L) M (ew_q (some (.int (ew_b (sp_vl21 (M 56) j)))) (ew_SH L) M) := by
  refine ew_iconst (v := nI 1) d_Mo_opensLayer_0 (by decide) ?_
  refine en_istore (ls' := [.ref 47, .int (nI 2), .int (nI j), .int (nI 1), .int (nI 1), .retAddr 0, .retAddr 0, .retAddr 0]) d_Mo_opensLayer_1 (Nat.le_of_ble_eq_true rfl) rfl ?_
  refine ew_bipush (v := nI 16) d_Mo_opensLayer_3 (by decide) ?_
  refine ew_iload_n d_Mo_opensLayer_5 rfl ?_
  refine ew_ishr d_Mo_opensLayer_6 ?_
  refine en_eq (st' := [.int (nI 8)]) rfl (by rw [show ((nI 16) >>> ((nI 1) &&& 31)) = (nI 8) from by decide]) rfl ?_
  refine en_istore (ls' := [.ref 47, .int (nI 2), .int (nI j), .int (nI 1), .int (nI 1), .int (nI 8), .retAddr 0, .retAddr 0]) d_Mo_opensLayer_7 (Nat.le_of_ble_eq_true rfl) rfl ?_
  refine ew_iconst (v := nI 0) d_Mo_opensLayer_9 (by decide) ?_
  refine en_istore (ls' := [.ref 47, .int (nI 2), .int (nI j), .int (nI 1), .int (nI 1), .int (nI 8), .int (nI 0), .retAddr 0]) d_Mo_opensLayer_10 (Nat.le_of_ble_eq_true rfl) rfl ?_
  refine ew_iload d_Mo_opensLayer_12 rfl ?_
  refine ew_iconst (v := nI 2) d_Mo_opensLayer_14 (by decide) ?_
  refine en_icmp_ge (tgt := 87) d_Mo_opensLayer_15 (by decide) (by decide) (by decide) (fun h15 => by exact absurd h15 (by decide)) (fun h15 => ?_)
  refine ew_iload_n d_Mo_opensLayer_18 rfl ?_
  refine ew_iconst (v := nI 4) d_Mo_opensLayer_19 (by decide) ?_
  refine ew_iconst (v := nI 2) d_Mo_opensLayer_20 (by decide) ?_
  refine ew_iload_n d_Mo_opensLayer_21 rfl ?_
  refine en_imul d_Mo_opensLayer_22 ?_
  refine en_eq rfl (show _ = [.int (nI 2), .int (nI 4), .int (nI 2)] from rfl) rfl ?_
  refine en_iadd d_Mo_opensLayer_23 ?_
  refine en_eq rfl (show _ = [.int (nI 6), .int (nI 2)] from rfl) rfl ?_
  refine ew_iload d_Mo_opensLayer_24 rfl ?_
  refine en_iadd d_Mo_opensLayer_26 ?_
  refine en_eq rfl (show _ = [.int (nI 6), .int (nI 2)] from rfl) rfl ?_
  refine en_callS (As := [.int (nI 2), .int (nI 6)]) (st := []) (st1 := [.int (nI 161)]) d_Mo_opensLayer_27 k_Mo_placeOf tw_819 tw_820 rfl (Nat.le_of_ble_eq_true rfl) rfl (Nat.le_of_ble_eq_true rfl) rfl rfl (c_Mo_placeOf_2_6 l g _ L M) rfl ?_
  refine en_istore (ls' := [.ref 47, .int (nI 2), .int (nI j), .int (nI 1), .int (nI 1), .int (nI 8), .int (nI 0), .int (nI 161)]) d_Mo_opensLayer_30 (Nat.le_of_ble_eq_true rfl) rfl ?_
  refine ew_iload d_Mo_opensLayer_32 rfl ?_
  refine en_if_eq (tgt := 78) d_Mo_opensLayer_34 (by decide) (by decide) (fun h34 => by exact absurd h34 (by decide)) (fun h34 => ?_)
  refine ew_aload_n d_Mo_opensLayer_37 rfl ?_
  refine ew_iload_n d_Mo_opensLayer_38 rfl ?_
  refine ew_iconst (v := nI 1) d_Mo_opensLayer_39 (by decide) ?_
  refine en_iadd d_Mo_opensLayer_40 ?_
  refine en_eq rfl (show _ = [.int (nI 2), .ref 47] from rfl) rfl ?_
  refine ew_iload_n d_Mo_opensLayer_41 rfl ?_
  refine ew_iload d_Mo_opensLayer_42 rfl ?_
  refine en_irem d_Mo_opensLayer_44 (by omega) (by decide) (by decide) ?_
  refine ew_iload d_Mo_opensLayer_45 rfl ?_
  refine ew_iload d_Mo_opensLayer_47 rfl ?_
  refine en_imul d_Mo_opensLayer_49 ?_
  refine en_eq rfl (show _ = [.int (nI 0), .int (nI (j % 8)), .int (nI 2), .ref 47] from rfl) rfl ?_
  refine en_iadd d_Mo_opensLayer_50 ?_
  refine en_eq (st' := [.int (nI (j % 8 + 8 * 0)), .int (nI 2), .ref 47]) rfl (by rw [show (nI ((j % 8) + 0)) = (nI (j % 8 + 8 * 0)) from rfl]) rfl ?_
  refine ew_aload_n d_Mo_opensLayer_51 rfl ?_
  refine ew_getr (ci := 9) (f := 10) d_Mo_opensLayer_52 rfl rfl rfl tw_602 ?_
  refine ew_iload d_Mo_opensLayer_55 rfl ?_
  refine ew_iald (j := 161) d_Mo_opensLayer_57 rfl (rfl) (by decide) (by decide) ?_
  refine ew_sipush (v := nI 12289) d_Mo_opensLayer_58 (by decide) ?_
  refine en_callS (As := [.int (M 56 161), .int (nI 12289)]) (st := [.int (nI (j % 8 + 8 * 0)), .int (nI 2), .ref 47]) (st1 := [.int (sp_mix (M 56 161) (nI 12289)), .int (nI (j % 8 + 8 * 0)), .int (nI 2), .ref 47]) d_Mo_opensLayer_61 k_Mo_mix tw_752 tw_753 rfl (Nat.le_of_ble_eq_true rfl) rfl (Nat.le_of_ble_eq_true rfl) rfl rfl (c_Mo_mix l g _ (ew_SH L) M (M 56 161) (nI 12289)) rfl ?_
  refine ew_iload d_Mo_opensLayer_64 rfl ?_
  refine ew_iconst (v := nI 1) d_Mo_opensLayer_66 (by decide) ?_
  refine en_iadd d_Mo_opensLayer_67 ?_
  refine en_eq rfl (show _ = [.int (nI 162), .int (sp_mix (M 56 161) (nI 12289)), .int (nI (j % 8 + 8 * 0)), .int (nI 2), .ref 47] from rfl) rfl ?_
  refine en_callV (As := [.int (nI 2), .int (nI (j % 8 + 8 * 0)), .int (sp_mix (M 56 161) (nI 12289)), .int (nI 162)]) (i := 47) (ci := 9) (st := []) (st1 := [.int (ew_b (decide (sp_ro (M 56) 6 (sp_mix (M 56 161) (nI 12289)) (16 + (j % 8 + 8 * 0)) 162 = M 56 2)))]) d_Mo_opensLayer_68 k_Mo_leads rfl rfl tw_830 tw_832 tp_49 rfl (Nat.le_of_ble_eq_true rfl) rfl (Nat.le_of_ble_eq_true rfl) rfl rfl (c_Mo_leads2 l g _ L M (j % 8 + 8 * 0) 162 (sp_mix (M 56 161) (nI 12289)) (by omega) (by decide)) rfl ?_
  refine en_b_eq (tgt := 78) d_Mo_opensLayer_71 (by decide) (fun h71 => ?_) (fun h71 => ?_)
  · refine ew_iconst (v := nI 0) d_Mo_opensLayer_78 (by decide) ?_
    refine en_istore (ls' := [.ref 47, .int (nI 2), .int (nI j), .int (nI 1), .int (nI 0), .int (nI 8), .int (nI 0), .int (nI 161)]) d_Mo_opensLayer_79 (Nat.le_of_ble_eq_true rfl) rfl ?_
    refine en_inc (ls' := [.ref 47, .int (nI 2), .int (nI j), .int (nI 1), .int (nI 0), .int (nI 8), .int (nI 1), .int (nI 161)]) d_Mo_opensLayer_81 rfl rfl ?_
    refine ew_goto (tgt := 12) d_Mo_opensLayer_84 (by decide) ?_
    refine ew_iload d_Mo_opensLayer_12 rfl ?_
    refine ew_iconst (v := nI 2) d_Mo_opensLayer_14 (by decide) ?_
    refine en_icmp_ge (tgt := 87) d_Mo_opensLayer_15 (by decide) (by decide) (by decide) (fun h15_1 => by exact absurd h15_1 (by decide)) (fun h15_1 => ?_)
    refine ew_iload_n d_Mo_opensLayer_18 rfl ?_
    refine ew_iconst (v := nI 4) d_Mo_opensLayer_19 (by decide) ?_
    refine ew_iconst (v := nI 2) d_Mo_opensLayer_20 (by decide) ?_
    refine ew_iload_n d_Mo_opensLayer_21 rfl ?_
    refine en_imul d_Mo_opensLayer_22 ?_
    refine en_eq rfl (show _ = [.int (nI 2), .int (nI 4), .int (nI 2)] from rfl) rfl ?_
    refine en_iadd d_Mo_opensLayer_23 ?_
    refine en_eq rfl (show _ = [.int (nI 6), .int (nI 2)] from rfl) rfl ?_
    refine ew_iload d_Mo_opensLayer_24 rfl ?_
    refine en_iadd d_Mo_opensLayer_26 ?_
    refine en_eq rfl (show _ = [.int (nI 7), .int (nI 2)] from rfl) rfl ?_
    refine en_callS (As := [.int (nI 2), .int (nI 7)]) (st := []) (st1 := [.int (nI 166)]) d_Mo_opensLayer_27 k_Mo_placeOf tw_819 tw_820 rfl (Nat.le_of_ble_eq_true rfl) rfl (Nat.le_of_ble_eq_true rfl) rfl rfl (c_Mo_placeOf_2_7 l g _ L M) rfl ?_
    refine en_istore (ls' := [.ref 47, .int (nI 2), .int (nI j), .int (nI 1), .int (nI 0), .int (nI 8), .int (nI 1), .int (nI 166)]) d_Mo_opensLayer_30 (Nat.le_of_ble_eq_true rfl) rfl ?_
    refine ew_iload d_Mo_opensLayer_32 rfl ?_
    refine en_if_eq (tgt := 78) d_Mo_opensLayer_34 (by decide) (by decide) (fun h34_1 => ?_) (fun h34_1 => by exact absurd h34_1 (by decide))
    refine ew_iconst (v := nI 0) d_Mo_opensLayer_78 (by decide) ?_
    refine en_istore (ls' := [.ref 47, .int (nI 2), .int (nI j), .int (nI 1), .int (nI 0), .int (nI 8), .int (nI 1), .int (nI 166)]) d_Mo_opensLayer_79 (Nat.le_of_ble_eq_true rfl) rfl ?_
    refine en_inc (ls' := [.ref 47, .int (nI 2), .int (nI j), .int (nI 1), .int (nI 0), .int (nI 8), .int (nI 2), .int (nI 166)]) d_Mo_opensLayer_81 rfl rfl ?_
    refine ew_goto (tgt := 12) d_Mo_opensLayer_84 (by decide) ?_
    refine ew_iload d_Mo_opensLayer_12 rfl ?_
    refine ew_iconst (v := nI 2) d_Mo_opensLayer_14 (by decide) ?_
    refine en_icmp_ge (tgt := 87) d_Mo_opensLayer_15 (by decide) (by decide) (by decide) (fun h15_2 => ?_) (fun h15_2 => by exact absurd h15_2 (by decide))
    refine ew_iload d_Mo_opensLayer_87 rfl ?_
    exact ew_zret d_Mo_opensLayer_89 rfl (by decide) (⟨by rw [show sp_vl21 (M 56) j = false from by (unfold sp_vl21; simp only [h71, Bool.false_and, Bool.and_false])]; rfl, rfl, rfl⟩)
  · refine ew_iconst (v := nI 1) d_Mo_opensLayer_74 (by decide) ?_
    refine ew_goto (tgt := 79) d_Mo_opensLayer_75 (by decide) ?_
    refine en_istore (ls' := [.ref 47, .int (nI 2), .int (nI j), .int (nI 1), .int (nI 1), .int (nI 8), .int (nI 0), .int (nI 161)]) d_Mo_opensLayer_79 (Nat.le_of_ble_eq_true rfl) rfl ?_
    refine en_inc (ls' := [.ref 47, .int (nI 2), .int (nI j), .int (nI 1), .int (nI 1), .int (nI 8), .int (nI 1), .int (nI 161)]) d_Mo_opensLayer_81 rfl rfl ?_
    refine ew_goto (tgt := 12) d_Mo_opensLayer_84 (by decide) ?_
    refine ew_iload d_Mo_opensLayer_12 rfl ?_
    refine ew_iconst (v := nI 2) d_Mo_opensLayer_14 (by decide) ?_
    refine en_icmp_ge (tgt := 87) d_Mo_opensLayer_15 (by decide) (by decide) (by decide) (fun h15_1 => by exact absurd h15_1 (by decide)) (fun h15_1 => ?_)
    refine ew_iload_n d_Mo_opensLayer_18 rfl ?_
    refine ew_iconst (v := nI 4) d_Mo_opensLayer_19 (by decide) ?_
    refine ew_iconst (v := nI 2) d_Mo_opensLayer_20 (by decide) ?_
    refine ew_iload_n d_Mo_opensLayer_21 rfl ?_
    refine en_imul d_Mo_opensLayer_22 ?_
    refine en_eq rfl (show _ = [.int (nI 2), .int (nI 4), .int (nI 2)] from rfl) rfl ?_
    refine en_iadd d_Mo_opensLayer_23 ?_
    refine en_eq rfl (show _ = [.int (nI 6), .int (nI 2)] from rfl) rfl ?_
    refine ew_iload d_Mo_opensLayer_24 rfl ?_
    refine en_iadd d_Mo_opensLayer_26 ?_
    refine en_eq rfl (show _ = [.int (nI 7), .int (nI 2)] from rfl) rfl ?_
    refine en_callS (As := [.int (nI 2), .int (nI 7)]) (st := []) (st1 := [.int (nI 166)]) d_Mo_opensLayer_27 k_Mo_placeOf tw_819 tw_820 rfl (Nat.le_of_ble_eq_true rfl) rfl (Nat.le_of_ble_eq_true rfl) rfl rfl (c_Mo_placeOf_2_7 l g _ L M) rfl ?_
    refine en_istore (ls' := [.ref 47, .int (nI 2), .int (nI j), .int (nI 1), .int (nI 1), .int (nI 8), .int (nI 1), .int (nI 166)]) d_Mo_opensLayer_30 (Nat.le_of_ble_eq_true rfl) rfl ?_
    refine ew_iload d_Mo_opensLayer_32 rfl ?_
    refine en_if_eq (tgt := 78) d_Mo_opensLayer_34 (by decide) (by decide) (fun h34_1 => by exact absurd h34_1 (by decide)) (fun h34_1 => ?_)
    refine ew_aload_n d_Mo_opensLayer_37 rfl ?_
    refine ew_iload_n d_Mo_opensLayer_38 rfl ?_
    refine ew_iconst (v := nI 1) d_Mo_opensLayer_39 (by decide) ?_
    refine en_iadd d_Mo_opensLayer_40 ?_
    refine en_eq rfl (show _ = [.int (nI 2), .ref 47] from rfl) rfl ?_
    refine ew_iload_n d_Mo_opensLayer_41 rfl ?_
    refine ew_iload d_Mo_opensLayer_42 rfl ?_
    refine en_irem d_Mo_opensLayer_44 (by omega) (by decide) (by decide) ?_
    refine ew_iload d_Mo_opensLayer_45 rfl ?_
    refine ew_iload d_Mo_opensLayer_47 rfl ?_
    refine en_imul d_Mo_opensLayer_49 ?_
    refine en_eq rfl (show _ = [.int (nI 8), .int (nI (j % 8)), .int (nI 2), .ref 47] from rfl) rfl ?_
    refine en_iadd d_Mo_opensLayer_50 ?_
    refine en_eq (st' := [.int (nI (j % 8 + 8 * 1)), .int (nI 2), .ref 47]) rfl (by rw [show (nI ((j % 8) + 8)) = (nI (j % 8 + 8 * 1)) from rfl]) rfl ?_
    refine ew_aload_n d_Mo_opensLayer_51 rfl ?_
    refine ew_getr (ci := 9) (f := 10) d_Mo_opensLayer_52 rfl rfl rfl tw_602 ?_
    refine ew_iload d_Mo_opensLayer_55 rfl ?_
    refine ew_iald (j := 166) d_Mo_opensLayer_57 rfl (rfl) (by decide) (by decide) ?_
    refine ew_sipush (v := nI 12289) d_Mo_opensLayer_58 (by decide) ?_
    refine en_callS (As := [.int (M 56 166), .int (nI 12289)]) (st := [.int (nI (j % 8 + 8 * 1)), .int (nI 2), .ref 47]) (st1 := [.int (sp_mix (M 56 166) (nI 12289)), .int (nI (j % 8 + 8 * 1)), .int (nI 2), .ref 47]) d_Mo_opensLayer_61 k_Mo_mix tw_752 tw_753 rfl (Nat.le_of_ble_eq_true rfl) rfl (Nat.le_of_ble_eq_true rfl) rfl rfl (c_Mo_mix l g _ (ew_SH L) M (M 56 166) (nI 12289)) rfl ?_
    refine ew_iload d_Mo_opensLayer_64 rfl ?_
    refine ew_iconst (v := nI 1) d_Mo_opensLayer_66 (by decide) ?_
    refine en_iadd d_Mo_opensLayer_67 ?_
    refine en_eq rfl (show _ = [.int (nI 167), .int (sp_mix (M 56 166) (nI 12289)), .int (nI (j % 8 + 8 * 1)), .int (nI 2), .ref 47] from rfl) rfl ?_
    refine en_callV (As := [.int (nI 2), .int (nI (j % 8 + 8 * 1)), .int (sp_mix (M 56 166) (nI 12289)), .int (nI 167)]) (i := 47) (ci := 9) (st := []) (st1 := [.int (ew_b (decide (sp_ro (M 56) 6 (sp_mix (M 56 166) (nI 12289)) (16 + (j % 8 + 8 * 1)) 167 = M 56 2)))]) d_Mo_opensLayer_68 k_Mo_leads rfl rfl tw_830 tw_832 tp_49 rfl (Nat.le_of_ble_eq_true rfl) rfl (Nat.le_of_ble_eq_true rfl) rfl rfl (c_Mo_leads2 l g _ L M (j % 8 + 8 * 1) 167 (sp_mix (M 56 166) (nI 12289)) (by omega) (by decide)) rfl ?_
    refine en_b_eq (tgt := 78) d_Mo_opensLayer_71 (by decide) (fun h71_1 => ?_) (fun h71_1 => ?_)
    · refine ew_iconst (v := nI 0) d_Mo_opensLayer_78 (by decide) ?_
      refine en_istore (ls' := [.ref 47, .int (nI 2), .int (nI j), .int (nI 1), .int (nI 0), .int (nI 8), .int (nI 1), .int (nI 166)]) d_Mo_opensLayer_79 (Nat.le_of_ble_eq_true rfl) rfl ?_
      refine en_inc (ls' := [.ref 47, .int (nI 2), .int (nI j), .int (nI 1), .int (nI 0), .int (nI 8), .int (nI 2), .int (nI 166)]) d_Mo_opensLayer_81 rfl rfl ?_
      refine ew_goto (tgt := 12) d_Mo_opensLayer_84 (by decide) ?_
      refine ew_iload d_Mo_opensLayer_12 rfl ?_
      refine ew_iconst (v := nI 2) d_Mo_opensLayer_14 (by decide) ?_
      refine en_icmp_ge (tgt := 87) d_Mo_opensLayer_15 (by decide) (by decide) (by decide) (fun h15_2 => ?_) (fun h15_2 => by exact absurd h15_2 (by decide))
      refine ew_iload d_Mo_opensLayer_87 rfl ?_
      exact ew_zret d_Mo_opensLayer_89 rfl (by decide) (⟨by rw [show sp_vl21 (M 56) j = false from by (unfold sp_vl21; simp only [h71_1, Bool.false_and, Bool.and_false])]; rfl, rfl, rfl⟩)
    · refine ew_iconst (v := nI 1) d_Mo_opensLayer_74 (by decide) ?_
      refine ew_goto (tgt := 79) d_Mo_opensLayer_75 (by decide) ?_
      refine en_istore (ls' := [.ref 47, .int (nI 2), .int (nI j), .int (nI 1), .int (nI 1), .int (nI 8), .int (nI 1), .int (nI 166)]) d_Mo_opensLayer_79 (Nat.le_of_ble_eq_true rfl) rfl ?_
      refine en_inc (ls' := [.ref 47, .int (nI 2), .int (nI j), .int (nI 1), .int (nI 1), .int (nI 8), .int (nI 2), .int (nI 166)]) d_Mo_opensLayer_81 rfl rfl ?_
      refine ew_goto (tgt := 12) d_Mo_opensLayer_84 (by decide) ?_
      refine ew_iload d_Mo_opensLayer_12 rfl ?_
      refine ew_iconst (v := nI 2) d_Mo_opensLayer_14 (by decide) ?_
      refine en_icmp_ge (tgt := 87) d_Mo_opensLayer_15 (by decide) (by decide) (by decide) (fun h15_2 => ?_) (fun h15_2 => by exact absurd h15_2 (by decide))
      refine ew_iload d_Mo_opensLayer_87 rfl ?_
      exact ew_zret d_Mo_opensLayer_89 rfl (by decide) (⟨by rw [show sp_vl21 (M 56) j = true from by (unfold sp_vl21; simp only [h71, h71_1, Bool.and_self])]; rfl, rfl, rfl⟩)
set_option maxRecDepth 100000 in
theorem c_Mo_opensLayer22 (l : Launch) (g : ew_G) (d L : Nat) (M : ew_M) (j : Nat) (hj : j < 16) :
    Ew l g (d + 2) 0 0 m_Mo_opensLayer 0 [.ref 47, .int (nI 2), .int (nI j), .int (nI 2), .retAddr 0, .retAddr 0, .retAddr 0, .retAddr 0] [] (ew_SH L) M (ew_q (some (.int (ew_b (sp_vl22 (M 56) j)))) (ew_SH L) M) := by
  refine ew_iconst (v := nI 1) d_Mo_opensLayer_0 (by decide) ?_
  refine en_istore (ls' := [.ref 47, .int (nI 2), .int (nI j), .int (nI 2), .int (nI 1), .retAddr 0, .retAddr 0, .retAddr 0]) d_Mo_opensLayer_1 (Nat.le_of_ble_eq_true rfl) rfl ?_
  refine ew_bipush (v := nI 16) d_Mo_opensLayer_3 (by decide) ?_
  refine ew_iload_n d_Mo_opensLayer_5 rfl ?_
  refine ew_ishr d_Mo_opensLayer_6 ?_
  refine en_eq (st' := [.int (nI 4)]) rfl (by rw [show ((nI 16) >>> ((nI 2) &&& 31)) = (nI 4) from by decide]) rfl ?_
  refine en_istore (ls' := [.ref 47, .int (nI 2), .int (nI j), .int (nI 2), .int (nI 1), .int (nI 4), .retAddr 0, .retAddr 0]) d_Mo_opensLayer_7 (Nat.le_of_ble_eq_true rfl) rfl ?_
  refine ew_iconst (v := nI 0) d_Mo_opensLayer_9 (by decide) ?_
  refine en_istore (ls' := [.ref 47, .int (nI 2), .int (nI j), .int (nI 2), .int (nI 1), .int (nI 4), .int (nI 0), .retAddr 0]) d_Mo_opensLayer_10 (Nat.le_of_ble_eq_true rfl) rfl ?_
  refine ew_iload d_Mo_opensLayer_12 rfl ?_
  refine ew_iconst (v := nI 2) d_Mo_opensLayer_14 (by decide) ?_
  refine en_icmp_ge (tgt := 87) d_Mo_opensLayer_15 (by decide) (by decide) (by decide) (fun h15 => by exact absurd h15 (by decide)) (fun h15 => ?_)
  refine ew_iload_n d_Mo_opensLayer_18 rfl ?_
  refine ew_iconst (v := nI 4) d_Mo_opensLayer_19 (by decide) ?_
  refine ew_iconst (v := nI 2) d_Mo_opensLayer_20 (by decide) ?_
  refine ew_iload_n d_Mo_opensLayer_21 rfl ?_
  refine en_imul d_Mo_opensLayer_22 ?_
  refine en_eq rfl (show _ = [.int (nI 4), .int (nI 4), .int (nI 2)] from rfl) rfl ?_
  refine en_iadd d_Mo_opensLayer_23 ?_
  refine en_eq rfl (show _ = [.int (nI 8), .int (nI 2)] from rfl) rfl ?_
  refine ew_iload d_Mo_opensLayer_24 rfl ?_
  refine en_iadd d_Mo_opensLayer_26 ?_
  refine en_eq rfl (show _ = [.int (nI 8), .int (nI 2)] from rfl) rfl ?_
  refine en_callS (As := [.int (nI 2), .int (nI 8)]) (st := []) (st1 := [.int (nI 171)]) d_Mo_opensLayer_27 k_Mo_placeOf tw_819 tw_820 rfl (Nat.le_of_ble_eq_true rfl) rfl (Nat.le_of_ble_eq_true rfl) rfl rfl (c_Mo_placeOf_2_8 l g _ L M) rfl ?_
  refine en_istore (ls' := [.ref 47, .int (nI 2), .int (nI j), .int (nI 2), .int (nI 1), .int (nI 4), .int (nI 0), .int (nI 171)]) d_Mo_opensLayer_30 (Nat.le_of_ble_eq_true rfl) rfl ?_
  refine ew_iload d_Mo_opensLayer_32 rfl ?_
  refine en_if_eq (tgt := 78) d_Mo_opensLayer_34 (by decide) (by decide) (fun h34 => by exact absurd h34 (by decide)) (fun h34 => ?_)
  refine ew_aload_n d_Mo_opensLayer_37 rfl ?_
  refine ew_iload_n d_Mo_opensLayer_38 rfl ?_
  refine ew_iconst (v := nI 1) d_Mo_opensLayer_39 (by decide) ?_
  refine en_iadd d_Mo_opensLayer_40 ?_
  refine en_eq rfl (show _ = [.int (nI 3), .ref 47] from rfl) rfl ?_
  refine ew_iload_n d_Mo_opensLayer_41 rfl ?_
  refine ew_iload d_Mo_opensLayer_42 rfl ?_
  refine en_irem d_Mo_opensLayer_44 (by omega) (by decide) (by decide) ?_
  refine ew_iload d_Mo_opensLayer_45 rfl ?_
  refine ew_iload d_Mo_opensLayer_47 rfl ?_
  refine en_imul d_Mo_opensLayer_49 ?_
  refine en_eq rfl (show _ = [.int (nI 0), .int (nI (j % 4)), .int (nI 3), .ref 47] from rfl) rfl ?_
  refine en_iadd d_Mo_opensLayer_50 ?_
  refine en_eq (st' := [.int (nI (j % 4 + 4 * 0)), .int (nI 3), .ref 47]) rfl (by rw [show (nI ((j % 4) + 0)) = (nI (j % 4 + 4 * 0)) from rfl]) rfl ?_
  refine ew_aload_n d_Mo_opensLayer_51 rfl ?_
  refine ew_getr (ci := 9) (f := 10) d_Mo_opensLayer_52 rfl rfl rfl tw_602 ?_
  refine ew_iload d_Mo_opensLayer_55 rfl ?_
  refine ew_iald (j := 171) d_Mo_opensLayer_57 rfl (rfl) (by decide) (by decide) ?_
  refine ew_sipush (v := nI 12289) d_Mo_opensLayer_58 (by decide) ?_
  refine en_callS (As := [.int (M 56 171), .int (nI 12289)]) (st := [.int (nI (j % 4 + 4 * 0)), .int (nI 3), .ref 47]) (st1 := [.int (sp_mix (M 56 171) (nI 12289)), .int (nI (j % 4 + 4 * 0)), .int (nI 3), .ref 47]) d_Mo_opensLayer_61 k_Mo_mix tw_752 tw_753 rfl (Nat.le_of_ble_eq_true rfl) rfl (Nat.le_of_ble_eq_true rfl) rfl rfl (c_Mo_mix l g _ (ew_SH L) M (M 56 171) (nI 12289)) rfl ?_
  refine ew_iload d_Mo_opensLayer_64 rfl ?_
  refine ew_iconst (v := nI 1) d_Mo_opensLayer_66 (by decide) ?_
  refine en_iadd d_Mo_opensLayer_67 ?_
  refine en_eq rfl (show _ = [.int (nI 172), .int (sp_mix (M 56 171) (nI 12289)), .int (nI (j % 4 + 4 * 0)), .int (nI 3), .ref 47] from rfl) rfl ?_
  refine en_callV (As := [.int (nI 3), .int (nI (j % 4 + 4 * 0)), .int (sp_mix (M 56 171) (nI 12289)), .int (nI 172)]) (i := 47) (ci := 9) (st := []) (st1 := [.int (ew_b (decide (sp_ro (M 56) 6 (sp_mix (M 56 171) (nI 12289)) (8 + (j % 4 + 4 * 0)) 172 = M 56 3)))]) d_Mo_opensLayer_68 k_Mo_leads rfl rfl tw_830 tw_832 tp_49 rfl (Nat.le_of_ble_eq_true rfl) rfl (Nat.le_of_ble_eq_true rfl) rfl rfl (c_Mo_leads3 l g _ L M (j % 4 + 4 * 0) 172 (sp_mix (M 56 171) (nI 12289)) (by omega) (by decide)) rfl ?_
  refine en_b_eq (tgt := 78) d_Mo_opensLayer_71 (by decide) (fun h71 => ?_) (fun h71 => ?_)
  · refine ew_iconst (v := nI 0) d_Mo_opensLayer_78 (by decide) ?_
    refine en_istore (ls' := [.ref 47, .int (nI 2), .int (nI j), .int (nI 2), .int (nI 0), .int (nI 4), .int (nI 0), .int (nI 171)]) d_Mo_opensLayer_79 (Nat.le_of_ble_eq_true rfl) rfl ?_
    refine en_inc (ls' := [.ref 47, .int (nI 2), .int (nI j), .int (nI 2), .int (nI 0), .int (nI 4), .int (nI 1), .int (nI 171)]) d_Mo_opensLayer_81 rfl rfl ?_
    refine ew_goto (tgt := 12) d_Mo_opensLayer_84 (by decide) ?_
    refine ew_iload d_Mo_opensLayer_12 rfl ?_
    refine ew_iconst (v := nI 2) d_Mo_opensLayer_14 (by decide) ?_
    refine en_icmp_ge (tgt := 87) d_Mo_opensLayer_15 (by decide) (by decide) (by decide) (fun h15_1 => by exact absurd h15_1 (by decide)) (fun h15_1 => ?_)
    refine ew_iload_n d_Mo_opensLayer_18 rfl ?_
    refine ew_iconst (v := nI 4) d_Mo_opensLayer_19 (by decide) ?_
    refine ew_iconst (v := nI 2) d_Mo_opensLayer_20 (by decide) ?_
    refine ew_iload_n d_Mo_opensLayer_21 rfl ?_
    refine en_imul d_Mo_opensLayer_22 ?_
    refine en_eq rfl (show _ = [.int (nI 4), .int (nI 4), .int (nI 2)] from rfl) rfl ?_
    refine en_iadd d_Mo_opensLayer_23 ?_
    refine en_eq rfl (show _ = [.int (nI 8), .int (nI 2)] from rfl) rfl ?_
    refine ew_iload d_Mo_opensLayer_24 rfl ?_
    refine en_iadd d_Mo_opensLayer_26 ?_
    refine en_eq rfl (show _ = [.int (nI 9), .int (nI 2)] from rfl) rfl ?_
    refine en_callS (As := [.int (nI 2), .int (nI 9)]) (st := []) (st1 := [.int (nI 175)]) d_Mo_opensLayer_27 k_Mo_placeOf tw_819 tw_820 rfl (Nat.le_of_ble_eq_true rfl) rfl (Nat.le_of_ble_eq_true rfl) rfl rfl (c_Mo_placeOf_2_9 l g _ L M) rfl ?_
    refine en_istore (ls' := [.ref 47, .int (nI 2), .int (nI j), .int (nI 2), .int (nI 0), .int (nI 4), .int (nI 1), .int (nI 175)]) d_Mo_opensLayer_30 (Nat.le_of_ble_eq_true rfl) rfl ?_
    refine ew_iload d_Mo_opensLayer_32 rfl ?_
    refine en_if_eq (tgt := 78) d_Mo_opensLayer_34 (by decide) (by decide) (fun h34_1 => ?_) (fun h34_1 => by exact absurd h34_1 (by decide))
    refine ew_iconst (v := nI 0) d_Mo_opensLayer_78 (by decide) ?_
    refine en_istore (ls' := [.ref 47, .int (nI 2), .int (nI j), .int (nI 2), .int (nI 0), .int (nI 4), .int (nI 1), .int (nI 175)]) d_Mo_opensLayer_79 (Nat.le_of_ble_eq_true rfl) rfl ?_
    refine en_inc (ls' := [.ref 47, .int (nI 2), .int (nI j), .int (nI 2), .int (nI 0), .int (nI 4), .int (nI 2), .int (nI 175)]) d_Mo_opensLayer_81 rfl rfl ?_
    refine ew_goto (tgt := 12) d_Mo_opensLayer_84 (by decide) ?_
    refine ew_iload d_Mo_opensLayer_12 rfl ?_
    refine ew_iconst (v := nI 2) d_Mo_opensLayer_14 (by decide) ?_
    refine en_icmp_ge (tgt := 87) d_Mo_opensLayer_15 (by decide) (by decide) (by decide) (fun h15_2 => ?_) (fun h15_2 => by exact absurd h15_2 (by decide))
    refine ew_iload d_Mo_opensLayer_87 rfl ?_
    exact ew_zret d_Mo_opensLayer_89 rfl (by decide) (⟨by rw [show sp_vl22 (M 56) j = false from by (unfold sp_vl22; simp only [h71, Bool.false_and, Bool.and_false])]; rfl, rfl, rfl⟩)
  · refine ew_iconst (v := nI 1) d_Mo_opensLayer_74 (by decide) ?_
    refine ew_goto (tgt := 79) d_Mo_opensLayer_75 (by decide) ?_
    refine en_istore (ls' := [.ref 47, .int (nI 2), .int (nI j), .int (nI 2), .int (nI 1), .int (nI 4), .int (nI 0), .int (nI 171)]) d_Mo_opensLayer_79 (Nat.le_of_ble_eq_true rfl) rfl ?_
    refine en_inc (ls' := [.ref 47, .int (nI 2), .int (nI j), .int (nI 2), .int (nI 1), .int (nI 4), .int (nI 1), .int (nI 171)]) d_Mo_opensLayer_81 rfl rfl ?_
    refine ew_goto (tgt := 12) d_Mo_opensLayer_84 (by decide) ?_
    refine ew_iload d_Mo_opensLayer_12 rfl ?_
    refine ew_iconst (v := nI 2) d_Mo_opensLayer_14 (by decide) ?_
    refine en_icmp_ge (tgt := 87) d_Mo_opensLayer_15 (by decide) (by decide) (by decide) (fun h15_1 => by exact absurd h15_1 (by decide)) (fun h15_1 => ?_)
    refine ew_iload_n d_Mo_opensLayer_18 rfl ?_
    refine ew_iconst (v := nI 4) d_Mo_opensLayer_19 (by decide) ?_
    refine ew_iconst (v := nI 2) d_Mo_opensLayer_20 (by decide) ?_
    refine ew_iload_n d_Mo_opensLayer_21 rfl ?_
    refine en_imul d_Mo_opensLayer_22 ?_
    refine en_eq rfl (show _ = [.int (nI 4), .int (nI 4), .int (nI 2)] from rfl) rfl ?_
    refine en_iadd d_Mo_opensLayer_23 ?_
    refine en_eq rfl (show _ = [.int (nI 8), .int (nI 2)] from rfl) rfl ?_
    refine ew_iload d_Mo_opensLayer_24 rfl ?_
    refine en_iadd d_Mo_opensLayer_26 ?_
    refine en_eq rfl (show _ = [.int (nI 9), .int (nI 2)] from rfl) rfl ?_
    refine en_callS (As := [.int (nI 2), .int (nI 9)]) (st := []) (st1 := [.int (nI 175)]) d_Mo_opensLayer_27 k_Mo_placeOf tw_819 tw_820 rfl (Nat.le_of_ble_eq_true rfl) rfl (Nat.le_of_ble_eq_true rfl) rfl rfl (c_Mo_placeOf_2_9 l g _ L M) rfl ?_
    refine en_istore (ls' := [.ref 47, .int (nI 2), .int (nI j), .int (nI 2), .int (nI 1), .int (nI 4), .int (nI 1), .int (nI 175)]) d_Mo_opensLayer_30 (Nat.le_of_ble_eq_true rfl) rfl ?_
    refine ew_iload d_Mo_opensLayer_32 rfl ?_
    refine en_if_eq (tgt := 78) d_Mo_opensLayer_34 (by decide) (by decide) (fun h34_1 => by exact absurd h34_1 (by decide)) (fun h34_1 => ?_)
    refine ew_aload_n d_Mo_opensLayer_37 rfl ?_
    refine ew_iload_n d_Mo_opensLayer_38 rfl ?_
    refine ew_iconst (v := nI 1) d_Mo_opensLayer_39 (by decide) ?_
    refine en_iadd d_Mo_opensLayer_40 ?_
    refine en_eq rfl (show _ = [.int (nI 3), .ref 47] from rfl) rfl ?_
    refine ew_iload_n d_Mo_opensLayer_41 rfl ?_
    refine ew_iload d_Mo_opensLayer_42 rfl ?_
    refine en_irem d_Mo_opensLayer_44 (by omega) (by decide) (by decide) ?_
    refine ew_iload d_Mo_opensLayer_45 rfl ?_
    refine ew_iload d_Mo_opensLayer_47 rfl ?_
    refine en_imul d_Mo_opensLayer_49 ?_
    refine en_eq rfl (show _ = [.int (nI 4), .int (nI (j % 4)), .int (nI 3), .ref 47] from rfl) rfl ?_
    refine en_iadd d_Mo_opensLayer_50 ?_
    refine en_eq (st' := [.int (nI (j % 4 + 4 * 1)), .int (nI 3), .ref 47]) rfl (by rw [show (nI ((j % 4) + 4)) = (nI (j % 4 + 4 * 1)) from rfl]) rfl ?_
    refine ew_aload_n d_Mo_opensLayer_51 rfl ?_
    refine ew_getr (ci := 9) (f := 10) d_Mo_opensLayer_52 rfl rfl rfl tw_602 ?_
    refine ew_iload d_Mo_opensLayer_55 rfl ?_
    refine ew_iald (j := 175) d_Mo_opensLayer_57 rfl (rfl) (by decide) (by decide) ?_
    refine ew_sipush (v := nI 12289) d_Mo_opensLayer_58 (by decide) ?_
    refine en_callS (As := [.int (M 56 175), .int (nI 12289)]) (st := [.int (nI (j % 4 + 4 * 1)), .int (nI 3), .ref 47]) (st1 := [.int (sp_mix (M 56 175) (nI 12289)), .int (nI (j % 4 + 4 * 1)), .int (nI 3), .ref 47]) d_Mo_opensLayer_61 k_Mo_mix tw_752 tw_753 rfl (Nat.le_of_ble_eq_true rfl) rfl (Nat.le_of_ble_eq_true rfl) rfl rfl (c_Mo_mix l g _ (ew_SH L) M (M 56 175) (nI 12289)) rfl ?_
    refine ew_iload d_Mo_opensLayer_64 rfl ?_
    refine ew_iconst (v := nI 1) d_Mo_opensLayer_66 (by decide) ?_
    refine en_iadd d_Mo_opensLayer_67 ?_
    refine en_eq rfl (show _ = [.int (nI 176), .int (sp_mix (M 56 175) (nI 12289)), .int (nI (j % 4 + 4 * 1)), .int (nI 3), .ref 47] from rfl) rfl ?_
    refine en_callV (As := [.int (nI 3), .int (nI (j % 4 + 4 * 1)), .int (sp_mix (M 56 175) (nI 12289)), .int (nI 176)]) (i := 47) (ci := 9) (st := []) (st1 := [.int (ew_b (decide (sp_ro (M 56) 6 (sp_mix (M 56 175) (nI 12289)) (8 + (j % 4 + 4 * 1)) 176 = M 56 3)))]) d_Mo_opensLayer_68 k_Mo_leads rfl rfl tw_830 tw_832 tp_49 rfl (Nat.le_of_ble_eq_true rfl) rfl (Nat.le_of_ble_eq_true rfl) rfl rfl (c_Mo_leads3 l g _ L M (j % 4 + 4 * 1) 176 (sp_mix (M 56 175) (nI 12289)) (by omega) (by decide)) rfl ?_
    refine en_b_eq (tgt := 78) d_Mo_opensLayer_71 (by decide) (fun h71_1 => ?_) (fun h71_1 => ?_)
    · refine ew_iconst (v := nI 0) d_Mo_opensLayer_78 (by decide) ?_
      refine en_istore (ls' := [.ref 47, .int (nI 2), .int (nI j), .int (nI 2), .int (nI 0), .int (nI 4), .int (nI 1), .int (nI 175)]) d_Mo_opensLayer_79 (Nat.le_of_ble_eq_true rfl) rfl ?_
      refine en_inc (ls' := [.ref 47, .int (nI 2), .int (nI j), .int (nI 2), .int (nI 0), .int (nI 4), .int (nI 2), .int (nI 175)]) d_Mo_opensLayer_81 rfl rfl ?_
      refine ew_goto (tgt := 12) d_Mo_opensLayer_84 (by decide) ?_
      refine ew_iload d_Mo_opensLayer_12 rfl ?_
      refine ew_iconst (v := nI 2) d_Mo_opensLayer_14 (by decide) ?_
      refine en_icmp_ge (tgt := 87) d_Mo_opensLayer_15 (by decide) (by decide) (by decide) (fun h15_2 => ?_) (fun h15_2 => by exact absurd h15_2 (by decide))
      refine ew_iload d_Mo_opensLayer_87 rfl ?_
      exact ew_zret d_Mo_opensLayer_89 rfl (by decide) (⟨by rw [show sp_vl22 (M 56) j = false from by (unfold sp_vl22; simp only [h71_1, Bool.false_and, Bool.and_false])]; rfl, rfl, rfl⟩)
    · refine ew_iconst (v := nI 1) d_Mo_opensLayer_74 (by decide) ?_
      refine ew_goto (tgt := 79) d_Mo_opensLayer_75 (by decide) ?_
      refine en_istore (ls' := [.ref 47, .int (nI 2), .int (nI j), .int (nI 2), .int (nI 1), .int (nI 4), .int (nI 1), .int (nI 175)]) d_Mo_opensLayer_79 (Nat.le_of_ble_eq_true rfl) rfl ?_
      refine en_inc (ls' := [.ref 47, .int (nI 2), .int (nI j), .int (nI 2), .int (nI 1), .int (nI 4), .int (nI 2), .int (nI 175)]) d_Mo_opensLayer_81 rfl rfl ?_
      refine ew_goto (tgt := 12) d_Mo_opensLayer_84 (by decide) ?_
      refine ew_iload d_Mo_opensLayer_12 rfl ?_
      refine ew_iconst (v := nI 2) d_Mo_opensLayer_14 (by decide) ?_
      refine en_icmp_ge (tgt := 87) d_Mo_opensLayer_15 (by decide) (by decide) (by decide) (fun h15_2 => ?_) (fun h15_2 => by exact absurd h15_2 (by decide))
      refine ew_iload d_Mo_opensLayer_87 rfl ?_
      exact ew_zret d_Mo_opensLayer_89 rfl (by decide) (⟨by rw [show sp_vl22 (M 56) j = true from by (unfold sp_vl22; simp only [h71, h71_1, Bool.and_self])]; rfl, rfl, rfl⟩)
