/-- the law with any name -/
def m_La (nm : String) : ew_D := ("TraceProverLaw", ⟨"TraceProverLaw", nm, "([I)Z"⟩, code, 4, some .boolean)
def RE (M : ew_M) : Prop := ∃ (ρ : sp_R) (ce : Nat → Nat → Nat) (pm km : Bool) (f : Nat → Int32) (J : Nat → Nat), RC ρ ce pm km f J M ∧ RR ρ ce pm km f J M
theorem lw_top {L i : Nat} (hL : L < 2 ^ 30) (hi : i < 2 ^ 30) (h : ¬ nI L - nI 5 < nI i) : i + 5 ≤ L := by
  rw [Int32.lt_iff_toInt_lt, pk_sub_toInt hL (by decide), nI_toInt (by omega)] at h
  omega
set_option maxRecDepth 100000 in
theorem ca_term (l : Launch) (g : ew_G) (nm : String) (L : Nat) (M : ew_M) (hL31 : L < 2 ^ 31) (i : Nat) (hi : i + 5 ≤ L) (ρ : sp_R) (ce : Nat → Nat → Nat) (pm km : Bool) (f : Nat → Int32) (J : Nat → Nat) (hc : RC ρ ce pm km f J M) (hr : RR ρ ce pm km f J M) (Q : Option Value → List ew_S → ew_M → Prop) (K : ∀ M1 : ew_M, RE M1 → Ew l g 9 0 0 (m_La nm) 430 [.ref 0, .ref 3, .ref 47, .int (nI i)] [] (ew_SH L) M1 Q) :
    Ew l g 9 0 0 (m_La nm) 96 [.ref 0, .ref 3, .ref 47, .int (nI i)] [] (ew_SH L) M Q := by
  obtain ⟨x, ρ', ce', pm', km', f', J', hC, hR⟩ := op_term l g L ρ ce pm km f J (M 0 (i + 1)) (M 0 (i + 2)) (M 0 (i + 3)) (M 0 (i + 4))
  refine ew_aload_n d_La_law_96 rfl ?_
  refine ew_aload_n d_La_law_97 rfl ?_
  refine ew_iload_n d_La_law_98 rfl ?_
  refine ew_iconst (v := nI 1) d_La_law_99 (by decide) ?_
  refine en_iadd d_La_law_100 ?_
  refine ew_iald (j := i + 1) d_La_law_101 rfl (rfl) (by omega) (hL31) ?_
  refine ew_aload_n d_La_law_102 rfl ?_
  refine ew_iload_n d_La_law_103 rfl ?_
  refine ew_iconst (v := nI 2) d_La_law_104 (by decide) ?_
  refine en_iadd d_La_law_105 ?_
  refine ew_iald (j := i + 2) d_La_law_106 rfl (rfl) (by omega) (hL31) ?_
  refine ew_aload_n d_La_law_107 rfl ?_
  refine ew_iload_n d_La_law_108 rfl ?_
  refine ew_iconst (v := nI 3) d_La_law_109 (by decide) ?_
  refine en_iadd d_La_law_110 ?_
  refine ew_iald (j := i + 3) d_La_law_111 rfl (rfl) (by omega) (hL31) ?_
  refine ew_aload_n d_La_law_112 rfl ?_
  refine ew_iload_n d_La_law_113 rfl ?_
  refine ew_iconst (v := nI 4) d_La_law_114 (by decide) ?_
  refine en_iadd d_La_law_115 ?_
  refine ew_iald (j := i + 4) d_La_law_116 rfl (rfl) (by omega) (hL31) ?_
  refine en_callVq (As := [.int (M 0 (i + 1)), .int (M 0 (i + 2)), .int (M 0 (i + 3)), .int (M 0 (i + 4))]) (i := 3) (ci := 0) (st := []) d_La_law_117 k_P_term rfl rfl tw_238 tw_239 tw_240 rfl (Nat.le_of_ble_eq_true rfl) rfl (Nat.le_of_ble_eq_true rfl) rfl rfl (hC M hc) ?_
  rintro _ _ M1 ⟨rfl, rfl, c1, c2⟩
  show Ew l g _ _ _ (m_La nm) 120 [.ref 0, .ref 3, .ref 47, .int (nI i)] [.int x] (ew_SH L) M1 _
  refine ew_aload_n d_La_law_120 rfl ?_
  refine ew_aload_n d_La_law_121 rfl ?_
  refine ew_iload_n d_La_law_122 rfl ?_
  refine ew_iconst (v := nI 1) d_La_law_123 (by decide) ?_
  refine en_iadd d_La_law_124 ?_
  refine ew_iald (j := i + 1) d_La_law_125 rfl (rfl) (by omega) (hL31) ?_
  refine en_eq (st' := [.int (M 0 (i + 1)), .ref 47, .int x]) rfl (by rw [show (M1 0 (i + 1)) = (M 0 (i + 1)) from by rw [c2 0 (Or.inl rfl)]]) rfl ?_
  refine ew_aload_n d_La_law_126 rfl ?_
  refine ew_iload_n d_La_law_127 rfl ?_
  refine ew_iconst (v := nI 2) d_La_law_128 (by decide) ?_
  refine en_iadd d_La_law_129 ?_
  refine ew_iald (j := i + 2) d_La_law_130 rfl (rfl) (by omega) (hL31) ?_
  refine en_eq (st' := [.int (M 0 (i + 2)), .int (M 0 (i + 1)), .ref 47, .int x]) rfl (by rw [show (M1 0 (i + 2)) = (M 0 (i + 2)) from by rw [c2 0 (Or.inl rfl)]]) rfl ?_
  refine ew_aload_n d_La_law_131 rfl ?_
  refine ew_iload_n d_La_law_132 rfl ?_
  refine ew_iconst (v := nI 3) d_La_law_133 (by decide) ?_
  refine en_iadd d_La_law_134 ?_
  refine ew_iald (j := i + 3) d_La_law_135 rfl (rfl) (by omega) (hL31) ?_
  refine en_eq (st' := [.int (M 0 (i + 3)), .int (M 0 (i + 2)), .int (M 0 (i + 1)), .ref 47, .int x]) rfl (by rw [show (M1 0 (i + 3)) = (M 0 (i + 3)) from by rw [c2 0 (Or.inl rfl)]]) rfl ?_
  refine ew_aload_n d_La_law_136 rfl ?_
  refine ew_iload_n d_La_law_137 rfl ?_
  refine ew_iconst (v := nI 4) d_La_law_138 (by decide) ?_
  refine en_iadd d_La_law_139 ?_
  refine ew_iald (j := i + 4) d_La_law_140 rfl (rfl) (by omega) (hL31) ?_
  refine en_eq (st' := [.int (M 0 (i + 4)), .int (M 0 (i + 3)), .int (M 0 (i + 2)), .int (M 0 (i + 1)), .ref 47, .int x]) rfl (by rw [show (M1 0 (i + 4)) = (M 0 (i + 4)) from by rw [c2 0 (Or.inl rfl)]]) rfl ?_
  refine en_callVq (As := [.int (M 0 (i + 1)), .int (M 0 (i + 2)), .int (M 0 (i + 3)), .int (M 0 (i + 4))]) (i := 47) (ci := 9) (st := [.int x]) d_La_law_141 k_Mo_term rfl rfl tw_664 tw_665 tw_666 rfl (Nat.le_of_ble_eq_true rfl) rfl (Nat.le_of_ble_eq_true rfl) rfl rfl (hR M1 (RR_of hr (fun q hq => c2 q (Or.inr hq)))) ?_
  rintro _ _ M2 ⟨rfl, rfl, d1, d2⟩
  show Ew l g _ _ _ (m_La nm) 144 [.ref 0, .ref 3, .ref 47, .int (nI i)] [.int x, .int x] (ew_SH L) M2 _
  refine ew_icmp_eq (tgt := 430) d_La_law_144 (by decide) (fun h144 => ?_) (fun h144 => by exact absurd rfl h144)
  exact K M2 ⟨ρ', ce', pm', km', f', J', RC_of c1 (fun q _ hq => d2 q hq), d1⟩
set_option maxRecDepth 100000 in
theorem ca_bound (l : Launch) (g : ew_G) (nm : String) (L : Nat) (M : ew_M) (hL31 : L < 2 ^ 31) (i : Nat) (hi : i + 5 ≤ L) (ρ : sp_R) (ce : Nat → Nat → Nat) (pm km : Bool) (f : Nat → Int32) (J : Nat → Nat) (hc : RC ρ ce pm km f J M) (hr : RR ρ ce pm km f J M) (Q : Option Value → List ew_S → ew_M → Prop) (K : ∀ M1 : ew_M, RE M1 → Ew l g 9 0 0 (m_La nm) 430 [.ref 0, .ref 3, .ref 47, .int (nI i)] [] (ew_SH L) M1 Q) :
    Ew l g 9 0 0 (m_La nm) 149 [.ref 0, .ref 3, .ref 47, .int (nI i)] [] (ew_SH L) M Q := by
  obtain ⟨x, ρ', ce', pm', km', f', J', hC, hR⟩ := op_bound l g L ρ ce pm km f J (M 0 (i + 1)) (M 0 (i + 2)) (M 0 (i + 3))
  refine ew_aload_n d_La_law_149 rfl ?_
  refine ew_aload_n d_La_law_150 rfl ?_
  refine ew_iload_n d_La_law_151 rfl ?_
  refine ew_iconst (v := nI 1) d_La_law_152 (by decide) ?_
  refine en_iadd d_La_law_153 ?_
  refine ew_iald (j := i + 1) d_La_law_154 rfl (rfl) (by omega) (hL31) ?_
  refine ew_aload_n d_La_law_155 rfl ?_
  refine ew_iload_n d_La_law_156 rfl ?_
  refine ew_iconst (v := nI 2) d_La_law_157 (by decide) ?_
  refine en_iadd d_La_law_158 ?_
  refine ew_iald (j := i + 2) d_La_law_159 rfl (rfl) (by omega) (hL31) ?_
  refine ew_aload_n d_La_law_160 rfl ?_
  refine ew_iload_n d_La_law_161 rfl ?_
  refine ew_iconst (v := nI 3) d_La_law_162 (by decide) ?_
  refine en_iadd d_La_law_163 ?_
  refine ew_iald (j := i + 3) d_La_law_164 rfl (rfl) (by omega) (hL31) ?_
  refine en_callVq (As := [.int (M 0 (i + 1)), .int (M 0 (i + 2)), .int (M 0 (i + 3))]) (i := 3) (ci := 0) (st := []) d_La_law_165 k_P_bound rfl rfl tw_258 tw_259 tw_260 rfl (Nat.le_of_ble_eq_true rfl) rfl (Nat.le_of_ble_eq_true rfl) rfl rfl (hC M hc) ?_
  rintro _ _ M1 ⟨rfl, rfl, c1, c2⟩
  show Ew l g _ _ _ (m_La nm) 168 [.ref 0, .ref 3, .ref 47, .int (nI i)] [.int x] (ew_SH L) M1 _
  refine ew_aload_n d_La_law_168 rfl ?_
  refine ew_aload_n d_La_law_169 rfl ?_
  refine ew_iload_n d_La_law_170 rfl ?_
  refine ew_iconst (v := nI 1) d_La_law_171 (by decide) ?_
  refine en_iadd d_La_law_172 ?_
  refine ew_iald (j := i + 1) d_La_law_173 rfl (rfl) (by omega) (hL31) ?_
  refine en_eq (st' := [.int (M 0 (i + 1)), .ref 47, .int x]) rfl (by rw [show (M1 0 (i + 1)) = (M 0 (i + 1)) from by rw [c2 0 (Or.inl rfl)]]) rfl ?_
  refine ew_aload_n d_La_law_174 rfl ?_
  refine ew_iload_n d_La_law_175 rfl ?_
  refine ew_iconst (v := nI 2) d_La_law_176 (by decide) ?_
  refine en_iadd d_La_law_177 ?_
  refine ew_iald (j := i + 2) d_La_law_178 rfl (rfl) (by omega) (hL31) ?_
  refine en_eq (st' := [.int (M 0 (i + 2)), .int (M 0 (i + 1)), .ref 47, .int x]) rfl (by rw [show (M1 0 (i + 2)) = (M 0 (i + 2)) from by rw [c2 0 (Or.inl rfl)]]) rfl ?_
  refine ew_aload_n d_La_law_179 rfl ?_
  refine ew_iload_n d_La_law_180 rfl ?_
  refine ew_iconst (v := nI 3) d_La_law_181 (by decide) ?_
  refine en_iadd d_La_law_182 ?_
  refine ew_iald (j := i + 3) d_La_law_183 rfl (rfl) (by omega) (hL31) ?_
  refine en_eq (st' := [.int (M 0 (i + 3)), .int (M 0 (i + 2)), .int (M 0 (i + 1)), .ref 47, .int x]) rfl (by rw [show (M1 0 (i + 3)) = (M 0 (i + 3)) from by rw [c2 0 (Or.inl rfl)]]) rfl ?_
  refine en_callVq (As := [.int (M 0 (i + 1)), .int (M 0 (i + 2)), .int (M 0 (i + 3))]) (i := 47) (ci := 9) (st := [.int x]) d_La_law_184 k_Mo_bound rfl rfl tw_674 tw_675 tw_676 rfl (Nat.le_of_ble_eq_true rfl) rfl (Nat.le_of_ble_eq_true rfl) rfl rfl (hR M1 (RR_of hr (fun q hq => c2 q (Or.inr hq)))) ?_
  rintro _ _ M2 ⟨rfl, rfl, d1, d2⟩
  show Ew l g _ _ _ (m_La nm) 187 [.ref 0, .ref 3, .ref 47, .int (nI i)] [.int x, .int x] (ew_SH L) M2 _
  refine ew_icmp_eq (tgt := 430) d_La_law_187 (by decide) (fun h187 => ?_) (fun h187 => by exact absurd rfl h187)
  exact K M2 ⟨ρ', ce', pm', km', f', J', RC_of c1 (fun q _ hq => d2 q hq), d1⟩
set_option maxRecDepth 100000 in
theorem ca_clear (l : Launch) (g : ew_G) (nm : String) (L : Nat) (M : ew_M) (hL31 : L < 2 ^ 31) (i : Nat) (hi : i + 5 ≤ L) (ρ : sp_R) (ce : Nat → Nat → Nat) (pm km : Bool) (f : Nat → Int32) (J : Nat → Nat) (hc : RC ρ ce pm km f J M) (hr : RR ρ ce pm km f J M) (Q : Option Value → List ew_S → ew_M → Prop) (K : ∀ M1 : ew_M, RE M1 → Ew l g 9 0 0 (m_La nm) 430 [.ref 0, .ref 3, .ref 47, .int (nI i)] [] (ew_SH L) M1 Q) :
    Ew l g 9 0 0 (m_La nm) 192 [.ref 0, .ref 3, .ref 47, .int (nI i)] [] (ew_SH L) M Q := by
  obtain ⟨hC, hR⟩ := op_clear l g L ρ ce pm km f J
  refine ew_aload_n d_La_law_192 rfl ?_
  refine en_callVq (As := []) (i := 3) (ci := 0) (st := []) d_La_law_193 k_P_clear rfl rfl tw_269 tw_270 tw_271 rfl (Nat.le_of_ble_eq_true rfl) rfl (Nat.le_of_ble_eq_true rfl) rfl rfl (hC M hc) ?_
  rintro _ _ M1 ⟨rfl, rfl, c1, c2⟩
  show Ew l g _ _ _ (m_La nm) 196 [.ref 0, .ref 3, .ref 47, .int (nI i)] [] (ew_SH L) M1 _
  refine ew_aload_n d_La_law_196 rfl ?_
  refine en_callVq (As := []) (i := 47) (ci := 9) (st := []) d_La_law_197 k_Mo_clear rfl rfl tw_681 tw_682 tw_683 rfl (Nat.le_of_ble_eq_true rfl) rfl (Nat.le_of_ble_eq_true rfl) rfl rfl (hR M1 (RR_of hr (fun q hq => c2 q (Or.inr hq)))) ?_
  rintro _ _ M2 ⟨rfl, rfl, d1, d2⟩
  show Ew l g _ _ _ (m_La nm) 200 [.ref 0, .ref 3, .ref 47, .int (nI i)] [] (ew_SH L) M2 _
  refine ew_goto (tgt := 430) d_La_law_200 (by decide) ?_
  exact K M2 ⟨sp_clr ρ, ce, pm, km, f, J, RC_of c1 (fun q _ hq => d2 q hq), d1⟩
set_option maxRecDepth 100000 in
theorem ca_set (l : Launch) (g : ew_G) (nm : String) (L : Nat) (M : ew_M) (hL31 : L < 2 ^ 31) (i : Nat) (hi : i + 5 ≤ L) (ρ : sp_R) (ce : Nat → Nat → Nat) (pm km : Bool) (f : Nat → Int32) (J : Nat → Nat) (hc : RC ρ ce pm km f J M) (hr : RR ρ ce pm km f J M) (Q : Option Value → List ew_S → ew_M → Prop) (K : ∀ M1 : ew_M, RE M1 → Ew l g 9 0 0 (m_La nm) 430 [.ref 0, .ref 3, .ref 47, .int (nI i)] [] (ew_SH L) M1 Q) :
    Ew l g 9 0 0 (m_La nm) 203 [.ref 0, .ref 3, .ref 47, .int (nI i)] [] (ew_SH L) M Q := by
  obtain ⟨x, ρ', ce', pm', km', f', J', hC, hR⟩ := op_set l g L ρ ce pm km f J (M 0 (i + 1)) (M 0 (i + 2)) (M 0 (i + 3))
  refine ew_aload_n d_La_law_203 rfl ?_
  refine ew_aload_n d_La_law_204 rfl ?_
  refine ew_iload_n d_La_law_205 rfl ?_
  refine ew_iconst (v := nI 1) d_La_law_206 (by decide) ?_
  refine en_iadd d_La_law_207 ?_
  refine ew_iald (j := i + 1) d_La_law_208 rfl (rfl) (by omega) (hL31) ?_
  refine ew_aload_n d_La_law_209 rfl ?_
  refine ew_iload_n d_La_law_210 rfl ?_
  refine ew_iconst (v := nI 2) d_La_law_211 (by decide) ?_
  refine en_iadd d_La_law_212 ?_
  refine ew_iald (j := i + 2) d_La_law_213 rfl (rfl) (by omega) (hL31) ?_
  refine ew_aload_n d_La_law_214 rfl ?_
  refine ew_iload_n d_La_law_215 rfl ?_
  refine ew_iconst (v := nI 3) d_La_law_216 (by decide) ?_
  refine en_iadd d_La_law_217 ?_
  refine ew_iald (j := i + 3) d_La_law_218 rfl (rfl) (by omega) (hL31) ?_
  refine en_callVq (As := [.int (M 0 (i + 1)), .int (M 0 (i + 2)), .int (M 0 (i + 3))]) (i := 3) (ci := 0) (st := []) d_La_law_219 k_P_set rfl rfl tw_277 tw_278 tw_279 rfl (Nat.le_of_ble_eq_true rfl) rfl (Nat.le_of_ble_eq_true rfl) rfl rfl (hC M hc) ?_
  rintro _ _ M1 ⟨rfl, rfl, c1, c2⟩
  show Ew l g _ _ _ (m_La nm) 222 [.ref 0, .ref 3, .ref 47, .int (nI i)] [.int x] (ew_SH L) M1 _
  refine ew_aload_n d_La_law_222 rfl ?_
  refine ew_aload_n d_La_law_223 rfl ?_
  refine ew_iload_n d_La_law_224 rfl ?_
  refine ew_iconst (v := nI 1) d_La_law_225 (by decide) ?_
  refine en_iadd d_La_law_226 ?_
  refine ew_iald (j := i + 1) d_La_law_227 rfl (rfl) (by omega) (hL31) ?_
  refine en_eq (st' := [.int (M 0 (i + 1)), .ref 47, .int x]) rfl (by rw [show (M1 0 (i + 1)) = (M 0 (i + 1)) from by rw [c2 0 (Or.inl rfl)]]) rfl ?_
  refine ew_aload_n d_La_law_228 rfl ?_
  refine ew_iload_n d_La_law_229 rfl ?_
  refine ew_iconst (v := nI 2) d_La_law_230 (by decide) ?_
  refine en_iadd d_La_law_231 ?_
  refine ew_iald (j := i + 2) d_La_law_232 rfl (rfl) (by omega) (hL31) ?_
  refine en_eq (st' := [.int (M 0 (i + 2)), .int (M 0 (i + 1)), .ref 47, .int x]) rfl (by rw [show (M1 0 (i + 2)) = (M 0 (i + 2)) from by rw [c2 0 (Or.inl rfl)]]) rfl ?_
  refine ew_aload_n d_La_law_233 rfl ?_
  refine ew_iload_n d_La_law_234 rfl ?_
  refine ew_iconst (v := nI 3) d_La_law_235 (by decide) ?_
  refine en_iadd d_La_law_236 ?_
  refine ew_iald (j := i + 3) d_La_law_237 rfl (rfl) (by omega) (hL31) ?_
  refine en_eq (st' := [.int (M 0 (i + 3)), .int (M 0 (i + 2)), .int (M 0 (i + 1)), .ref 47, .int x]) rfl (by rw [show (M1 0 (i + 3)) = (M 0 (i + 3)) from by rw [c2 0 (Or.inl rfl)]]) rfl ?_
  refine en_callVq (As := [.int (M 0 (i + 1)), .int (M 0 (i + 2)), .int (M 0 (i + 3))]) (i := 47) (ci := 9) (st := [.int x]) d_La_law_238 k_Mo_set rfl rfl tw_685 tw_686 tw_687 rfl (Nat.le_of_ble_eq_true rfl) rfl (Nat.le_of_ble_eq_true rfl) rfl rfl (hR M1 (RR_of hr (fun q hq => c2 q (Or.inr hq)))) ?_
  rintro _ _ M2 ⟨rfl, rfl, d1, d2⟩
  show Ew l g _ _ _ (m_La nm) 241 [.ref 0, .ref 3, .ref 47, .int (nI i)] [.int x, .int x] (ew_SH L) M2 _
  refine ew_icmp_eq (tgt := 430) d_La_law_241 (by decide) (fun h241 => ?_) (fun h241 => by exact absurd rfl h241)
  exact K M2 ⟨ρ', ce', pm', km', f', J', RC_of c1 (fun q _ hq => d2 q hq), d1⟩
set_option maxRecDepth 100000 in
theorem ca_cell (l : Launch) (g : ew_G) (nm : String) (L : Nat) (M : ew_M) (hL31 : L < 2 ^ 31) (i : Nat) (hi : i + 5 ≤ L) (ρ : sp_R) (ce : Nat → Nat → Nat) (pm km : Bool) (f : Nat → Int32) (J : Nat → Nat) (hc : RC ρ ce pm km f J M) (hr : RR ρ ce pm km f J M) (Q : Option Value → List ew_S → ew_M → Prop) (K : ∀ M1 : ew_M, RE M1 → Ew l g 9 0 0 (m_La nm) 430 [.ref 0, .ref 3, .ref 47, .int (nI i)] [] (ew_SH L) M1 Q) :
    Ew l g 9 0 0 (m_La nm) 246 [.ref 0, .ref 3, .ref 47, .int (nI i)] [] (ew_SH L) M Q := by
  obtain ⟨x, ρ', ce', pm', km', f', J', hC, hR⟩ := op_cell l g L ρ ce pm km f J (M 0 (i + 1)) (M 0 (i + 2))
  refine ew_aload_n d_La_law_246 rfl ?_
  refine ew_aload_n d_La_law_247 rfl ?_
  refine ew_iload_n d_La_law_248 rfl ?_
  refine ew_iconst (v := nI 1) d_La_law_249 (by decide) ?_
  refine en_iadd d_La_law_250 ?_
  refine ew_iald (j := i + 1) d_La_law_251 rfl (rfl) (by omega) (hL31) ?_
  refine ew_aload_n d_La_law_252 rfl ?_
  refine ew_iload_n d_La_law_253 rfl ?_
  refine ew_iconst (v := nI 2) d_La_law_254 (by decide) ?_
  refine en_iadd d_La_law_255 ?_
  refine ew_iald (j := i + 2) d_La_law_256 rfl (rfl) (by omega) (hL31) ?_
  refine en_callVq (As := [.int (M 0 (i + 1)), .int (M 0 (i + 2))]) (i := 3) (ci := 0) (st := []) d_La_law_257 k_P_cell rfl rfl tw_285 tw_286 tw_287 rfl (Nat.le_of_ble_eq_true rfl) rfl (Nat.le_of_ble_eq_true rfl) rfl rfl (hC M hc) ?_
  rintro _ _ M1 ⟨rfl, rfl, c1, c2⟩
  show Ew l g _ _ _ (m_La nm) 260 [.ref 0, .ref 3, .ref 47, .int (nI i)] [.int x] (ew_SH L) M1 _
  refine ew_aload_n d_La_law_260 rfl ?_
  refine ew_aload_n d_La_law_261 rfl ?_
  refine ew_iload_n d_La_law_262 rfl ?_
  refine ew_iconst (v := nI 1) d_La_law_263 (by decide) ?_
  refine en_iadd d_La_law_264 ?_
  refine ew_iald (j := i + 1) d_La_law_265 rfl (rfl) (by omega) (hL31) ?_
  refine en_eq (st' := [.int (M 0 (i + 1)), .ref 47, .int x]) rfl (by rw [show (M1 0 (i + 1)) = (M 0 (i + 1)) from by rw [c2 0 (Or.inl rfl)]]) rfl ?_
  refine ew_aload_n d_La_law_266 rfl ?_
  refine ew_iload_n d_La_law_267 rfl ?_
  refine ew_iconst (v := nI 2) d_La_law_268 (by decide) ?_
  refine en_iadd d_La_law_269 ?_
  refine ew_iald (j := i + 2) d_La_law_270 rfl (rfl) (by omega) (hL31) ?_
  refine en_eq (st' := [.int (M 0 (i + 2)), .int (M 0 (i + 1)), .ref 47, .int x]) rfl (by rw [show (M1 0 (i + 2)) = (M 0 (i + 2)) from by rw [c2 0 (Or.inl rfl)]]) rfl ?_
  refine en_callVq (As := [.int (M 0 (i + 1)), .int (M 0 (i + 2))]) (i := 47) (ci := 9) (st := [.int x]) d_La_law_271 k_Mo_cell rfl rfl tw_689 tw_690 tw_691 rfl (Nat.le_of_ble_eq_true rfl) rfl (Nat.le_of_ble_eq_true rfl) rfl rfl (hR M1 (RR_of hr (fun q hq => c2 q (Or.inr hq)))) ?_
  rintro _ _ M2 ⟨rfl, rfl, d1, d2⟩
  show Ew l g _ _ _ (m_La nm) 274 [.ref 0, .ref 3, .ref 47, .int (nI i)] [.int x, .int x] (ew_SH L) M2 _
  refine ew_icmp_eq (tgt := 430) d_La_law_274 (by decide) (fun h274 => ?_) (fun h274 => by exact absurd rfl h274)
  exact K M2 ⟨ρ', ce', pm', km', f', J', RC_of c1 (fun q _ hq => d2 q hq), d1⟩
set_option maxRecDepth 100000 in
theorem ca_at (l : Launch) (g : ew_G) (nm : String) (L : Nat) (M : ew_M) (hL31 : L < 2 ^ 31) (i : Nat) (hi : i + 5 ≤ L) (ρ : sp_R) (ce : Nat → Nat → Nat) (pm km : Bool) (f : Nat → Int32) (J : Nat → Nat) (hc : RC ρ ce pm km f J M) (hr : RR ρ ce pm km f J M) (Q : Option Value → List ew_S → ew_M → Prop) (K : ∀ M1 : ew_M, RE M1 → Ew l g 9 0 0 (m_La nm) 430 [.ref 0, .ref 3, .ref 47, .int (nI i)] [] (ew_SH L) M1 Q) :
    Ew l g 9 0 0 (m_La nm) 279 [.ref 0, .ref 3, .ref 47, .int (nI i)] [] (ew_SH L) M Q := by
  obtain ⟨x, ρ', ce', pm', km', f', J', hC, hR⟩ := op_at l g L ρ ce pm km f J (M 0 (i + 1)) (M 0 (i + 2))
  refine ew_aload_n d_La_law_279 rfl ?_
  refine ew_aload_n d_La_law_280 rfl ?_
  refine ew_iload_n d_La_law_281 rfl ?_
  refine ew_iconst (v := nI 1) d_La_law_282 (by decide) ?_
  refine en_iadd d_La_law_283 ?_
  refine ew_iald (j := i + 1) d_La_law_284 rfl (rfl) (by omega) (hL31) ?_
  refine ew_aload_n d_La_law_285 rfl ?_
  refine ew_iload_n d_La_law_286 rfl ?_
  refine ew_iconst (v := nI 2) d_La_law_287 (by decide) ?_
  refine en_iadd d_La_law_288 ?_
  refine ew_iald (j := i + 2) d_La_law_289 rfl (rfl) (by omega) (hL31) ?_
  refine en_callVq (As := [.int (M 0 (i + 1)), .int (M 0 (i + 2))]) (i := 3) (ci := 0) (st := []) d_La_law_290 k_P_at rfl rfl tw_293 tw_294 tw_295 rfl (Nat.le_of_ble_eq_true rfl) rfl (Nat.le_of_ble_eq_true rfl) rfl rfl (hC M hc) ?_
  rintro _ _ M1 ⟨rfl, rfl, c1, c2⟩
  show Ew l g _ _ _ (m_La nm) 293 [.ref 0, .ref 3, .ref 47, .int (nI i)] [.int x] (ew_SH L) M1 _
  refine ew_aload_n d_La_law_293 rfl ?_
  refine ew_aload_n d_La_law_294 rfl ?_
  refine ew_iload_n d_La_law_295 rfl ?_
  refine ew_iconst (v := nI 1) d_La_law_296 (by decide) ?_
  refine en_iadd d_La_law_297 ?_
  refine ew_iald (j := i + 1) d_La_law_298 rfl (rfl) (by omega) (hL31) ?_
  refine en_eq (st' := [.int (M 0 (i + 1)), .ref 47, .int x]) rfl (by rw [show (M1 0 (i + 1)) = (M 0 (i + 1)) from by rw [c2 0 (Or.inl rfl)]]) rfl ?_
  refine ew_aload_n d_La_law_299 rfl ?_
  refine ew_iload_n d_La_law_300 rfl ?_
  refine ew_iconst (v := nI 2) d_La_law_301 (by decide) ?_
  refine en_iadd d_La_law_302 ?_
  refine ew_iald (j := i + 2) d_La_law_303 rfl (rfl) (by omega) (hL31) ?_
  refine en_eq (st' := [.int (M 0 (i + 2)), .int (M 0 (i + 1)), .ref 47, .int x]) rfl (by rw [show (M1 0 (i + 2)) = (M 0 (i + 2)) from by rw [c2 0 (Or.inl rfl)]]) rfl ?_
  refine en_callVq (As := [.int (M 0 (i + 1)), .int (M 0 (i + 2))]) (i := 47) (ci := 9) (st := [.int x]) d_La_law_304 k_Mo_at rfl rfl tw_693 tw_694 tw_695 rfl (Nat.le_of_ble_eq_true rfl) rfl (Nat.le_of_ble_eq_true rfl) rfl rfl (hR M1 (RR_of hr (fun q hq => c2 q (Or.inr hq)))) ?_
  rintro _ _ M2 ⟨rfl, rfl, d1, d2⟩
  show Ew l g _ _ _ (m_La nm) 307 [.ref 0, .ref 3, .ref 47, .int (nI i)] [.int x, .int x] (ew_SH L) M2 _
  refine ew_icmp_eq (tgt := 430) d_La_law_307 (by decide) (fun h307 => ?_) (fun h307 => by exact absurd rfl h307)
  exact K M2 ⟨ρ', ce', pm', km', f', J', RC_of c1 (fun q _ hq => d2 q hq), d1⟩
set_option maxRecDepth 100000 in
theorem ca_wrong (l : Launch) (g : ew_G) (nm : String) (L : Nat) (M : ew_M) (hL31 : L < 2 ^ 31) (i : Nat) (hi : i + 5 ≤ L) (ρ : sp_R) (ce : Nat → Nat → Nat) (pm km : Bool) (f : Nat → Int32) (J : Nat → Nat) (hc : RC ρ ce pm km f J M) (hr : RR ρ ce pm km f J M) (Q : Option Value → List ew_S → ew_M → Prop) (K : ∀ M1 : ew_M, RE M1 → Ew l g 9 0 0 (m_La nm) 430 [.ref 0, .ref 3, .ref 47, .int (nI i)] [] (ew_SH L) M1 Q) :
    Ew l g 9 0 0 (m_La nm) 312 [.ref 0, .ref 3, .ref 47, .int (nI i)] [] (ew_SH L) M Q := by
  obtain ⟨x, ρ', ce', pm', km', f', J', hC, hR⟩ := op_wrong l g L ρ ce pm km f J
  refine ew_aload_n d_La_law_312 rfl ?_
  refine en_callVq (As := []) (i := 3) (ci := 0) (st := []) d_La_law_313 k_P_wrong rfl rfl tw_311 tw_312 tw_313 rfl (Nat.le_of_ble_eq_true rfl) rfl (Nat.le_of_ble_eq_true rfl) rfl rfl (hC M hc) ?_
  rintro _ _ M1 ⟨rfl, rfl, c1, c2⟩
  show Ew l g _ _ _ (m_La nm) 316 [.ref 0, .ref 3, .ref 47, .int (nI i)] [.int x] (ew_SH L) M1 _
  refine ew_aload_n d_La_law_316 rfl ?_
  refine en_callVq (As := []) (i := 47) (ci := 9) (st := [.int x]) d_La_law_317 k_Mo_wrong rfl rfl tw_719 tw_720 tw_721 rfl (Nat.le_of_ble_eq_true rfl) rfl (Nat.le_of_ble_eq_true rfl) rfl rfl (hR M1 (RR_of hr (fun q hq => c2 q (Or.inr hq)))) ?_
  rintro _ _ M2 ⟨rfl, rfl, d1, d2⟩
  show Ew l g _ _ _ (m_La nm) 320 [.ref 0, .ref 3, .ref 47, .int (nI i)] [.int x, .int x] (ew_SH L) M2 _
  refine ew_icmp_eq (tgt := 430) d_La_law_320 (by decide) (fun h320 => ?_) (fun h320 => by exact absurd rfl h320)
  exact K M2 ⟨ρ', ce', pm', km', f', J', RC_of c1 (fun q _ hq => d2 q hq), d1⟩
set_option maxRecDepth 100000 in
theorem ca_prove (l : Launch) (g : ew_G) (nm : String) (L : Nat) (M : ew_M) (hL31 : L < 2 ^ 31) (i : Nat) (hi : i + 5 ≤ L) (ρ : sp_R) (ce : Nat → Nat → Nat) (pm km : Bool) (f : Nat → Int32) (J : Nat → Nat) (hc : RC ρ ce pm km f J M) (hr : RR ρ ce pm km f J M) (Q : Option Value → List ew_S → ew_M → Prop) (K : ∀ M1 : ew_M, RE M1 → Ew l g 9 0 0 (m_La nm) 430 [.ref 0, .ref 3, .ref 47, .int (nI i)] [] (ew_SH L) M1 Q) :
    Ew l g 9 0 0 (m_La nm) 325 [.ref 0, .ref 3, .ref 47, .int (nI i)] [] (ew_SH L) M Q := by
  obtain ⟨x, ρ', ce', pm', km', f', J', hC, hR⟩ := op_prove l g L ρ ce pm km f J
  refine ew_aload_n d_La_law_325 rfl ?_
  refine en_callVq (As := []) (i := 3) (ci := 0) (st := []) d_La_law_326 k_P_prove rfl rfl tw_350 tw_351 tw_352 rfl (Nat.le_of_ble_eq_true rfl) rfl (Nat.le_of_ble_eq_true rfl) rfl rfl (hC M hc) ?_
  rintro _ _ M1 ⟨rfl, rfl, c1, c2⟩
  show Ew l g _ _ _ (m_La nm) 329 [.ref 0, .ref 3, .ref 47, .int (nI i)] [.int x] (ew_SH L) M1 _
  refine ew_aload_n d_La_law_329 rfl ?_
  refine en_callVq (As := []) (i := 47) (ci := 9) (st := [.int x]) d_La_law_330 k_Mo_prove rfl rfl tw_735 tw_736 tw_737 rfl (Nat.le_of_ble_eq_true rfl) rfl (Nat.le_of_ble_eq_true rfl) rfl rfl (hR M1 (RR_of hr (fun q hq => c2 q (Or.inr hq)))) ?_
  rintro _ _ M2 ⟨rfl, rfl, d1, d2⟩
  show Ew l g _ _ _ (m_La nm) 333 [.ref 0, .ref 3, .ref 47, .int (nI i)] [.int x, .int x] (ew_SH L) M2 _
  refine ew_icmp_eq (tgt := 430) d_La_law_333 (by decide) (fun h333 => ?_) (fun h333 => by exact absurd rfl h333)
  exact K M2 ⟨ρ', ce', pm', km', f', J', RC_of c1 (fun q _ hq => d2 q hq), d1⟩
set_option maxRecDepth 100000 in
theorem ca_proof (l : Launch) (g : ew_G) (nm : String) (L : Nat) (M : ew_M) (hL31 : L < 2 ^ 31) (i : Nat) (hi : i + 5 ≤ L) (ρ : sp_R) (ce : Nat → Nat → Nat) (pm km : Bool) (f : Nat → Int32) (J : Nat → Nat) (hc : RC ρ ce pm km f J M) (hr : RR ρ ce pm km f J M) (Q : Option Value → List ew_S → ew_M → Prop) (K : ∀ M1 : ew_M, RE M1 → Ew l g 9 0 0 (m_La nm) 430 [.ref 0, .ref 3, .ref 47, .int (nI i)] [] (ew_SH L) M1 Q) :
    Ew l g 9 0 0 (m_La nm) 338 [.ref 0, .ref 3, .ref 47, .int (nI i)] [] (ew_SH L) M Q := by
  obtain ⟨x, ρ', ce', pm', km', f', J', hC, hR⟩ := op_proof l g L ρ ce pm km f J (M 0 (i + 1))
  refine ew_aload_n d_La_law_338 rfl ?_
  refine ew_aload_n d_La_law_339 rfl ?_
  refine ew_iload_n d_La_law_340 rfl ?_
  refine ew_iconst (v := nI 1) d_La_law_341 (by decide) ?_
  refine en_iadd d_La_law_342 ?_
  refine ew_iald (j := i + 1) d_La_law_343 rfl (rfl) (by omega) (hL31) ?_
  refine en_callVq (As := [.int (M 0 (i + 1))]) (i := 3) (ci := 0) (st := []) d_La_law_344 k_P_proof rfl rfl tw_492 tw_493 tw_494 rfl (Nat.le_of_ble_eq_true rfl) rfl (Nat.le_of_ble_eq_true rfl) rfl rfl (hC M hc) ?_
  rintro _ _ M1 ⟨rfl, rfl, c1, c2⟩
  show Ew l g _ _ _ (m_La nm) 347 [.ref 0, .ref 3, .ref 47, .int (nI i)] [.int x] (ew_SH L) M1 _
  refine ew_aload_n d_La_law_347 rfl ?_
  refine ew_aload_n d_La_law_348 rfl ?_
  refine ew_iload_n d_La_law_349 rfl ?_
  refine ew_iconst (v := nI 1) d_La_law_350 (by decide) ?_
  refine en_iadd d_La_law_351 ?_
  refine ew_iald (j := i + 1) d_La_law_352 rfl (rfl) (by omega) (hL31) ?_
  refine en_eq (st' := [.int (M 0 (i + 1)), .ref 47, .int x]) rfl (by rw [show (M1 0 (i + 1)) = (M 0 (i + 1)) from by rw [c2 0 (Or.inl rfl)]]) rfl ?_
  refine en_callVq (As := [.int (M 0 (i + 1))]) (i := 47) (ci := 9) (st := [.int x]) d_La_law_353 k_Mo_proof rfl rfl tw_803 tw_804 tw_805 rfl (Nat.le_of_ble_eq_true rfl) rfl (Nat.le_of_ble_eq_true rfl) rfl rfl (hR M1 (RR_of hr (fun q hq => c2 q (Or.inr hq)))) ?_
  rintro _ _ M2 ⟨rfl, rfl, d1, d2⟩
  show Ew l g _ _ _ (m_La nm) 356 [.ref 0, .ref 3, .ref 47, .int (nI i)] [.int x, .int x] (ew_SH L) M2 _
  refine ew_icmp_eq (tgt := 430) d_La_law_356 (by decide) (fun h356 => ?_) (fun h356 => by exact absurd rfl h356)
  exact K M2 ⟨ρ', ce', pm', km', f', J', RC_of c1 (fun q _ hq => d2 q hq), d1⟩
set_option maxRecDepth 100000 in
theorem ca_alter (l : Launch) (g : ew_G) (nm : String) (L : Nat) (M : ew_M) (hL31 : L < 2 ^ 31) (i : Nat) (hi : i + 5 ≤ L) (ρ : sp_R) (ce : Nat → Nat → Nat) (pm km : Bool) (f : Nat → Int32) (J : Nat → Nat) (hc : RC ρ ce pm km f J M) (hr : RR ρ ce pm km f J M) (Q : Option Value → List ew_S → ew_M → Prop) (K : ∀ M1 : ew_M, RE M1 → Ew l g 9 0 0 (m_La nm) 430 [.ref 0, .ref 3, .ref 47, .int (nI i)] [] (ew_SH L) M1 Q) :
    Ew l g 9 0 0 (m_La nm) 361 [.ref 0, .ref 3, .ref 47, .int (nI i)] [] (ew_SH L) M Q := by
  obtain ⟨x, ρ', ce', pm', km', f', J', hC, hR⟩ := op_alter l g L ρ ce pm km f J (M 0 (i + 1)) (M 0 (i + 2))
  refine ew_aload_n d_La_law_361 rfl ?_
  refine ew_aload_n d_La_law_362 rfl ?_
  refine ew_iload_n d_La_law_363 rfl ?_
  refine ew_iconst (v := nI 1) d_La_law_364 (by decide) ?_
  refine en_iadd d_La_law_365 ?_
  refine ew_iald (j := i + 1) d_La_law_366 rfl (rfl) (by omega) (hL31) ?_
  refine ew_aload_n d_La_law_367 rfl ?_
  refine ew_iload_n d_La_law_368 rfl ?_
  refine ew_iconst (v := nI 2) d_La_law_369 (by decide) ?_
  refine en_iadd d_La_law_370 ?_
  refine ew_iald (j := i + 2) d_La_law_371 rfl (rfl) (by omega) (hL31) ?_
  refine en_callVq (As := [.int (M 0 (i + 1)), .int (M 0 (i + 2))]) (i := 3) (ci := 0) (st := []) d_La_law_372 k_P_alter rfl rfl tw_500 tw_501 tw_502 rfl (Nat.le_of_ble_eq_true rfl) rfl (Nat.le_of_ble_eq_true rfl) rfl rfl (hC M hc) ?_
  rintro _ _ M1 ⟨rfl, rfl, c1, c2⟩
  show Ew l g _ _ _ (m_La nm) 375 [.ref 0, .ref 3, .ref 47, .int (nI i)] [.int x] (ew_SH L) M1 _
  refine ew_aload_n d_La_law_375 rfl ?_
  refine ew_aload_n d_La_law_376 rfl ?_
  refine ew_iload_n d_La_law_377 rfl ?_
  refine ew_iconst (v := nI 1) d_La_law_378 (by decide) ?_
  refine en_iadd d_La_law_379 ?_
  refine ew_iald (j := i + 1) d_La_law_380 rfl (rfl) (by omega) (hL31) ?_
  refine en_eq (st' := [.int (M 0 (i + 1)), .ref 47, .int x]) rfl (by rw [show (M1 0 (i + 1)) = (M 0 (i + 1)) from by rw [c2 0 (Or.inl rfl)]]) rfl ?_
  refine ew_aload_n d_La_law_381 rfl ?_
  refine ew_iload_n d_La_law_382 rfl ?_
  refine ew_iconst (v := nI 2) d_La_law_383 (by decide) ?_
  refine en_iadd d_La_law_384 ?_
  refine ew_iald (j := i + 2) d_La_law_385 rfl (rfl) (by omega) (hL31) ?_
  refine en_eq (st' := [.int (M 0 (i + 2)), .int (M 0 (i + 1)), .ref 47, .int x]) rfl (by rw [show (M1 0 (i + 2)) = (M 0 (i + 2)) from by rw [c2 0 (Or.inl rfl)]]) rfl ?_
  refine en_callVq (As := [.int (M 0 (i + 1)), .int (M 0 (i + 2))]) (i := 47) (ci := 9) (st := [.int x]) d_La_law_386 k_Mo_alter rfl rfl tw_807 tw_808 tw_809 rfl (Nat.le_of_ble_eq_true rfl) rfl (Nat.le_of_ble_eq_true rfl) rfl rfl (hR M1 (RR_of hr (fun q hq => c2 q (Or.inr hq)))) ?_
  rintro _ _ M2 ⟨rfl, rfl, d1, d2⟩
  show Ew l g _ _ _ (m_La nm) 389 [.ref 0, .ref 3, .ref 47, .int (nI i)] [.int x, .int x] (ew_SH L) M2 _
  refine ew_icmp_eq (tgt := 430) d_La_law_389 (by decide) (fun h389 => ?_) (fun h389 => by exact absurd rfl h389)
  exact K M2 ⟨ρ', ce', pm', km', f', J', RC_of c1 (fun q _ hq => d2 q hq), d1⟩
set_option maxRecDepth 100000 in
theorem ca_verify (l : Launch) (g : ew_G) (nm : String) (L : Nat) (M : ew_M) (hL31 : L < 2 ^ 31) (i : Nat) (hi : i + 5 ≤ L) (ρ : sp_R) (ce : Nat → Nat → Nat) (pm km : Bool) (f : Nat → Int32) (J : Nat → Nat) (hc : RC ρ ce pm km f J M) (hr : RR ρ ce pm km f J M) (Q : Option Value → List ew_S → ew_M → Prop) (K : ∀ M1 : ew_M, RE M1 → Ew l g 9 0 0 (m_La nm) 430 [.ref 0, .ref 3, .ref 47, .int (nI i)] [] (ew_SH L) M1 Q) :
    Ew l g 9 0 0 (m_La nm) 394 [.ref 0, .ref 3, .ref 47, .int (nI i)] [] (ew_SH L) M Q := by
  obtain ⟨x, ρ', ce', pm', km', f', J', hC, hR⟩ := op_verify l g L ρ ce pm km f J
  refine ew_aload_n d_La_law_394 rfl ?_
  refine en_callVq (As := []) (i := 3) (ci := 0) (st := []) d_La_law_395 k_P_verify rfl rfl tw_504 tw_505 tw_506 rfl (Nat.le_of_ble_eq_true rfl) rfl (Nat.le_of_ble_eq_true rfl) rfl rfl (hC M hc) ?_
  rintro _ _ M1 ⟨rfl, rfl, c1, c2⟩
  show Ew l g _ _ _ (m_La nm) 398 [.ref 0, .ref 3, .ref 47, .int (nI i)] [.int x] (ew_SH L) M1 _
  refine ew_aload_n d_La_law_398 rfl ?_
  refine en_callVq (As := []) (i := 47) (ci := 9) (st := [.int x]) d_La_law_399 k_Mo_verify rfl rfl tw_811 tw_812 tw_813 rfl (Nat.le_of_ble_eq_true rfl) rfl (Nat.le_of_ble_eq_true rfl) rfl rfl (hR M1 (RR_of hr (fun q hq => c2 q (Or.inr hq)))) ?_
  rintro _ _ M2 ⟨rfl, rfl, d1, d2⟩
  show Ew l g _ _ _ (m_La nm) 402 [.ref 0, .ref 3, .ref 47, .int (nI i)] [.int x, .int x] (ew_SH L) M2 _
  refine ew_icmp_eq (tgt := 430) d_La_law_402 (by decide) (fun h402 => ?_) (fun h402 => by exact absurd rfl h402)
  exact K M2 ⟨ρ', ce', pm', km', f', J', RC_of c1 (fun q _ hq => d2 q hq), d1⟩
set_option maxRecDepth 100000 in
theorem ca_position (l : Launch) (g : ew_G) (nm : String) (L : Nat) (M : ew_M) (hL31 : L < 2 ^ 31) (i : Nat) (hi : i + 5 ≤ L) (ρ : sp_R) (ce : Nat → Nat → Nat) (pm km : Bool) (f : Nat → Int32) (J : Nat → Nat) (hc : RC ρ ce pm km f J M) (hr : RR ρ ce pm km f J M) (Q : Option Value → List ew_S → ew_M → Prop) (K : ∀ M1 : ew_M, RE M1 → Ew l g 9 0 0 (m_La nm) 430 [.ref 0, .ref 3, .ref 47, .int (nI i)] [] (ew_SH L) M1 Q) :
    Ew l g 9 0 0 (m_La nm) 407 [.ref 0, .ref 3, .ref 47, .int (nI i)] [] (ew_SH L) M Q := by
  obtain ⟨x, ρ', ce', pm', km', f', J', hC, hR⟩ := op_position l g L ρ ce pm km f J (M 0 (i + 1))
  refine ew_aload_n d_La_law_407 rfl ?_
  refine ew_aload_n d_La_law_408 rfl ?_
  refine ew_iload_n d_La_law_409 rfl ?_
  refine ew_iconst (v := nI 1) d_La_law_410 (by decide) ?_
  refine en_iadd d_La_law_411 ?_
  refine ew_iald (j := i + 1) d_La_law_412 rfl (rfl) (by omega) (hL31) ?_
  refine en_callVq (As := [.int (M 0 (i + 1))]) (i := 3) (ci := 0) (st := []) d_La_law_413 k_P_position rfl rfl tw_575 tw_576 tw_577 rfl (Nat.le_of_ble_eq_true rfl) rfl (Nat.le_of_ble_eq_true rfl) rfl rfl (hC M hc) ?_
  rintro _ _ M1 ⟨rfl, rfl, c1, c2⟩
  show Ew l g _ _ _ (m_La nm) 416 [.ref 0, .ref 3, .ref 47, .int (nI i)] [.int x] (ew_SH L) M1 _
  refine ew_aload_n d_La_law_416 rfl ?_
  refine ew_aload_n d_La_law_417 rfl ?_
  refine ew_iload_n d_La_law_418 rfl ?_
  refine ew_iconst (v := nI 1) d_La_law_419 (by decide) ?_
  refine en_iadd d_La_law_420 ?_
  refine ew_iald (j := i + 1) d_La_law_421 rfl (rfl) (by omega) (hL31) ?_
  refine en_eq (st' := [.int (M 0 (i + 1)), .ref 47, .int x]) rfl (by rw [show (M1 0 (i + 1)) = (M 0 (i + 1)) from by rw [c2 0 (Or.inl rfl)]]) rfl ?_
  refine en_callVq (As := [.int (M 0 (i + 1))]) (i := 47) (ci := 9) (st := [.int x]) d_La_law_422 k_Mo_position rfl rfl tw_846 tw_847 tw_848 rfl (Nat.le_of_ble_eq_true rfl) rfl (Nat.le_of_ble_eq_true rfl) rfl rfl (hR M1 (RR_of hr (fun q hq => c2 q (Or.inr hq)))) ?_
  rintro _ _ M2 ⟨rfl, rfl, d1, d2⟩
  show Ew l g _ _ _ (m_La nm) 425 [.ref 0, .ref 3, .ref 47, .int (nI i)] [.int x, .int x] (ew_SH L) M2 _
  refine ew_icmp_eq (tgt := 430) d_La_law_425 (by decide) (fun h425 => ?_) (fun h425 => by exact absurd rfl h425)
  exact K M2 ⟨ρ', ce', pm', km', f', J', RC_of c1 (fun q _ hq => d2 q hq), d1⟩
set_option maxRecDepth 100000 in
theorem lp_La_law (l : Launch) (g : ew_G) (nm : String) (L : Nat) (hL : L < 2 ^ 30) : ∀ (fu i : Nat) (M : ew_M), L - i < fu → i ≤ L → RE M → Ew l g 9 0 0 (m_La nm) 18 [.ref 0, .ref 3, .ref 47, .int (nI i)] [] (ew_SH L) M (fun v _ _ => v = some (.int 1)) := by
  intro fu
  induction fu with
  | zero =>
    intro i M hn
    exact absurd hn (Nat.not_lt_zero _)
  | succ fu ih =>
    intro i M hn hle hE
    refine ew_iload_n d_La_law_18 rfl ?_
    refine ew_aload_n d_La_law_19 rfl ?_
    refine ew_len d_La_law_20 rfl ?_
    refine ew_iconst (v := nI 5) d_La_law_21 (by decide) ?_
    refine ew_isub d_La_law_22 ?_
    refine ew_icmp_gt (tgt := 436) d_La_law_23 (by decide) (fun h23 => ?_) (fun h23 => ?_)
    · refine ew_iconst (v := nI 1) d_La_law_436 (by decide) ?_
      exact ew_zret d_La_law_437 rfl (by decide) rfl
    · refine ew_aload_n d_La_law_26 rfl ?_
      refine ew_iload_n d_La_law_27 rfl ?_
      refine ew_iald (j := i) d_La_law_28 rfl (rfl) (by have := lw_top hL (by omega) h23; omega) (by omega) ?_
      refine ew_bipush (v := nI 15) d_La_law_29 (by decide) ?_
      refine ew_iand d_La_law_31 ?_
      obtain ⟨c, hc, ec⟩ := pk_andE (M 0 i) (m := nI 15) 4 rfl
      rw [ec]
      have hi5 : i + 5 ≤ L := lw_top hL (by omega) h23
      obtain ⟨ρ, ce, pm, km, f, J, hC, hR⟩ := hE
      have K : ∀ M1 : ew_M, RE M1 → Ew l g 9 0 0 (m_La nm) 430 [.ref 0, .ref 3, .ref 47, .int (nI i)] [] (ew_SH L) M1 (fun v _ _ => v = some (.int 1)) := fun M1 h1 => by
        refine en_incr (v := nI (i + 5)) (ls' := [.ref 0, .ref 3, .ref 47, .int (nI (i + 5))]) d_La_law_430 rfl (nI_add i 5) rfl ?_
        refine ew_goto (tgt := 18) d_La_law_433 (by decide) ?_
        exact ih (i + 5) M1 (by omega) (by omega) h1
      rcases (show c = 0 ∨ c = 1 ∨ c = 2 ∨ c = 3 ∨ c = 4 ∨ c = 5 ∨ c = 6 ∨ c = 7 ∨ c = 8 ∨ c = 9 ∨ c = 10 ∨ c = 11 ∨ c = 12 ∨ c = 13 ∨ c = 14 ∨ c = 15 by omega) with rfl | rfl | rfl | rfl | rfl | rfl | rfl | rfl | rfl | rfl | rfl | rfl | rfl | rfl | rfl | rfl
      · refine ew_swIn (tgt := 96) d_La_law_32 (by decide) (by decide) (off := 64) rfl (by decide) ?_
        exact ca_term l g nm L M (by omega) i hi5 ρ ce pm km f J hC hR _ K
      · refine ew_swIn (tgt := 149) d_La_law_32 (by decide) (by decide) (off := 117) rfl (by decide) ?_
        exact ca_bound l g nm L M (by omega) i hi5 ρ ce pm km f J hC hR _ K
      · refine ew_swIn (tgt := 192) d_La_law_32 (by decide) (by decide) (off := 160) rfl (by decide) ?_
        exact ca_clear l g nm L M (by omega) i hi5 ρ ce pm km f J hC hR _ K
      · refine ew_swIn (tgt := 203) d_La_law_32 (by decide) (by decide) (off := 171) rfl (by decide) ?_
        exact ca_set l g nm L M (by omega) i hi5 ρ ce pm km f J hC hR _ K
      · refine ew_swIn (tgt := 246) d_La_law_32 (by decide) (by decide) (off := 214) rfl (by decide) ?_
        exact ca_cell l g nm L M (by omega) i hi5 ρ ce pm km f J hC hR _ K
      · refine ew_swIn (tgt := 279) d_La_law_32 (by decide) (by decide) (off := 247) rfl (by decide) ?_
        exact ca_at l g nm L M (by omega) i hi5 ρ ce pm km f J hC hR _ K
      · refine ew_swIn (tgt := 312) d_La_law_32 (by decide) (by decide) (off := 280) rfl (by decide) ?_
        exact ca_wrong l g nm L M (by omega) i hi5 ρ ce pm km f J hC hR _ K
      · refine ew_swIn (tgt := 325) d_La_law_32 (by decide) (by decide) (off := 293) rfl (by decide) ?_
        exact ca_prove l g nm L M (by omega) i hi5 ρ ce pm km f J hC hR _ K
      · refine ew_swIn (tgt := 338) d_La_law_32 (by decide) (by decide) (off := 306) rfl (by decide) ?_
        exact ca_proof l g nm L M (by omega) i hi5 ρ ce pm km f J hC hR _ K
      · refine ew_swIn (tgt := 361) d_La_law_32 (by decide) (by decide) (off := 329) rfl (by decide) ?_
        exact ca_alter l g nm L M (by omega) i hi5 ρ ce pm km f J hC hR _ K
      · refine ew_swIn (tgt := 394) d_La_law_32 (by decide) (by decide) (off := 362) rfl (by decide) ?_
        exact ca_verify l g nm L M (by omega) i hi5 ρ ce pm km f J hC hR _ K
      · refine ew_swIn (tgt := 407) d_La_law_32 (by decide) (by decide) (off := 375) rfl (by decide) ?_
        exact ca_position l g nm L M (by omega) i hi5 ρ ce pm km f J hC hR _ K
      · refine ew_swOut (tgt := 430) d_La_law_32 (by decide) (by decide) ?_
        exact K M ⟨ρ, ce, pm, km, f, J, hC, hR⟩
      · refine ew_swOut (tgt := 430) d_La_law_32 (by decide) (by decide) ?_
        exact K M ⟨ρ, ce, pm, km, f, J, hC, hR⟩
      · refine ew_swOut (tgt := 430) d_La_law_32 (by decide) (by decide) ?_
        exact K M ⟨ρ, ce, pm, km, f, J, hC, hR⟩
      · refine ew_swOut (tgt := 430) d_La_law_32 (by decide) (by decide) ?_
        exact K M ⟨ρ, ce, pm, km, f, J, hC, hR⟩
def ez_114 (L : Nat) : List ew_S := [.inl L, .inl 4, .inl 3, .inr (.inr (0, [some none, some none, some none, some none, some none, some none, none, none]))]
def ez_115 (L : Nat) : List ew_S := [.inl L, .inl 4, .inl 3, .inr (.inr (0, [some (some 4), some (some 10), some (some 17), some (some 21), some (some 23), some (some 43), none, none])), .inr (.inr (1, [some (some 5), some (some 6), some (some 7), some (some 8), some (some 9)])), .inl 32, .inl 32, .inl 32, .inl 32, .inl 32, .inr (.inr (2, [some (some 4), some (some 11), some (some 12), some (some 15), none, some (some 16)])), .inl 2, .inr (.inl (0, [some 13, some 14])), .inl 18, .inl 18, .inl 12, .inl 5, .inr (.inr (3, [some (some 4), some (some 18)])), .inr (.inl (0, [some 19, some 20])), .inl 8, .inl 8, .inr (.inr (4, [some (some 22)])), .inl 179, .inr (.inr (5, [some (some 4), some (some 10), some (some 17), some (some 24), some (some 27), some (some 30), some (some 34), some (some 36)])), .inr (.inr (7, [none, none, some (some 25), some (some 26)])), .inl 3, .inl 3, .inr (.inl (0, [some 28, some 29])), .inl 32, .inl 32, .inr (.inl (0, [some 31, some 32, some 33])), .inl 32, .inl 32, .inl 32, .inr (.inr (8, [none, some (some 35)])), .inl 64, .inr (.inl (1, [some 37, some 39, some 41])), .inr (.inr (8, [none, some (some 38)])), .inl 64, .inr (.inr (8, [none, some (some 40)])), .inl 32, .inr (.inr (8, [none, some (some 42)])), .inl 16, .inr (.inr (6, [some (some 4), some (some 10), some (some 21), some (some 22), some (some 44)])), .inr (.inr (7, [none, none, some (some 45), some (some 46)])), .inl 3, .inl 3, .inr (.inr (9, [some none, some none, some none, some none, some none, none, some none, some none, some none, none, some none, none, none, none, none, some none, some none, some none, none, some none, some none, some none, some none, some none]))]
set_option maxRecDepth 100000 in
theorem ew_law (l : Launch) (g : ew_G) (nm : String) (L : Nat) (hL : L < 2 ^ 30) (M : ew_M) (hst : sp_st M) :
    Ew l g 9 62 1436 (m_La nm) 0 [.ref 0, .retAddr 0, .retAddr 0, .retAddr 0] [] (ez_0 L) M (fun v _ _ => v = some (.int 1)) := by
  refine en_new 61 1428 (ci := 0) (n := 3) (fs := [some none, some none, some none, some none, some none, some none, none, none]) (sh1 := (ez_114 L)) d_La_law_0 rfl rfl rfl hf_0 tw_12 tw_13 tw_1 rfl rfl rfl rfl ?_
  refine ew_dupr d_La_law_3 ?_
  refine en_callI 18 615 43 813 (As := []) (i := 3) (st := [.ref 3]) (sh1 := (ez_78 L)) d_La_law_4 k_P_init tw_14 tw_15 rfl rfl rfl (Nat.le_of_ble_eq_true rfl) rfl (Nat.le_of_ble_eq_true rfl) rfl rfl rfl rfl (ci_P_init_3 l g _ L (ew_up M 3 ew_z)) (fun N1 f1 => ?_)
  refine en_astore_n (ls' := [.ref 0, .ref 3, .retAddr 0, .retAddr 0]) d_La_law_7 (Nat.le_of_ble_eq_true rfl) rfl ?_
  refine en_new 17 591 (ci := 9) (n := 47) (fs := [some none, some none, some none, some none, some none, none, some none, some none, some none, none, some none, none, none, none, none, some none, some none, some none, none, some none, some none, some none, some none, some none]) (sh1 := (ez_115 L)) d_La_law_8 rfl rfl rfl hf_9 tw_580 tw_581 tw_11 rfl rfl rfl rfl ?_
  refine ew_dupr d_La_law_11 ?_
  refine en_callI 0 0 17 591 (As := []) (i := 47) (st := [.ref 47]) (sh1 := (ew_SH L)) d_La_law_12 k_Mo_init tw_582 tw_583 rfl rfl rfl (Nat.le_of_ble_eq_true rfl) rfl (Nat.le_of_ble_eq_true rfl) rfl rfl rfl rfl (ci_Mo_init_47 l g _ L (ew_up N1 47 ew_z)) (fun N2 f2 => ?_)
  refine en_astore_n (ls' := [.ref 0, .ref 3, .ref 47, .retAddr 0]) d_La_law_15 (Nat.le_of_ble_eq_true rfl) rfl ?_
  refine ew_iconst (v := nI 0) d_La_law_16 (by decide) ?_
  refine en_istore_n (ls' := [.ref 0, .ref 3, .ref 47, .int (nI 0)]) d_La_law_17 (Nat.le_of_ble_eq_true rfl) rfl ?_
  have e2 : ∀ q, q < 47 → N2 q = N1 q := fun q h => (f2.1 q (by omega)).trans (ew_up_ne (by omega))
  have e1 : ∀ q, q < 3 → N1 q = M q := fun q h => (f1.1 q h).trans (ew_up_ne (by omega))
  have e47 : N2 47 = ew_z := (f2.1 47 (by decide)).trans ew_up_self
  obtain ⟨-, p1, p2, p3, p4, ⟨p5, p6, p7, p8⟩, p9, p10, p11⟩ := f1
  obtain ⟨-, r1, r2, r3, r4⟩ := f2
  exact lp_La_law l g nm L hL (L + 1) 0 N2 (by omega) (by omega) ⟨sp_r0, fun _ _ => 0, false, false, ew_z, fun _ => 0, ⟨sp_ru_of p2 (e2 10 (by decide)) (e2 11 (by decide)) (e2 13 (by decide)) (e2 14 (by decide)) (e2 15 (by decide)), sp_ce_of p3 (e2 19 (by decide)) (e2 20 (by decide)), sp_tab_of p1 (e2 5 (by decide)) (e2 6 (by decide)) (e2 7 (by decide)) (e2 8 (by decide)) (e2 9 (by decide)), sp_st_of hst ((e2 1 (by decide)).trans (e1 1 (by decide))) ((e2 2 (by decide)).trans (e1 2 (by decide))), by rw [e2 16 (by decide)]; exact p4, ⟨by rw [e2 34 (by decide)]; exact p5, by rw [e2 37 (by decide)]; exact p6, by rw [e2 39 (by decide)]; exact p7, by rw [e2 41 (by decide)]; exact p8⟩, by rw [e2 3 (by decide)]; exact p9, by rw [e2 3 (by decide)]; exact p10, fun i _ => by rw [e2 22 (by decide), p11], fun z => by cases z⟩, ⟨⟨sp_r0_ok, fun c _ => by rw [r3]; rfl, fun c t _ ht => absurd ht (Nat.not_lt_zero _), by rw [e47]; rfl, fun b hb => absurd hb (Nat.not_lt_zero _)⟩, fun c r _ _ => ⟨by rw [r2]; rfl, Nat.zero_lt_succ _⟩, r1, by rw [e47]; rfl, by rw [e47]; rfl, fun i _ => by rw [r4], fun z => by cases z⟩⟩
