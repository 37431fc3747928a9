/-! what class and reference hold alike, and each call's two ends -/
def RC (ρ : sp_R) (ce : Nat → Nat → Nat) (pm km : Bool) (f : Nat → Int32) (J : Nat → Nat) (M : ew_M) : Prop := sp_ru ρ M ∧ sp_ce ce M ∧ sp_tab M ∧ sp_st M ∧ M 16 0 = nI 1 ∧ (M 34 0 = nI 32 ∧ M 37 0 = nI 32 ∧ M 39 0 = nI 16 ∧ M 41 0 = nI 8) ∧ M 3 6 = ew_b pm ∧ M 3 7 = ew_b km ∧ (∀ i, i < 179 → M 22 i = f i) ∧ (km = true → ∀ k, k < 3 → M 46 k = nI (J k))
def RR (ρ : sp_R) (ce : Nat → Nat → Nat) (pm km : Bool) (f : Nat → Int32) (J : Nat → Nat) (M : ew_M) : Prop := sp_rm ρ M ∧ sp_cm ce M ∧ sp_rts M ∧ M 47 9 = ew_b pm ∧ M 47 18 = ew_b km ∧ (∀ i, i < 179 → M 56 i = f i) ∧ (km = true → ∀ k, k < 3 → M 59 k = nI (J k))
def pC (x : Option Value) (ρ : sp_R) (ce : Nat → Nat → Nat) (pm km : Bool) (f : Nat → Int32) (J : Nat → Nat) (L : Nat) (M : ew_M) : Option Value → List ew_S → ew_M → Prop := fun v sh' M' => sh' = ew_SH L ∧ v = x ∧ RC ρ ce pm km f J M' ∧ ∀ q, (q = 0 ∨ 47 ≤ q) → M' q = M q
def pR (x : Option Value) (ρ : sp_R) (ce : Nat → Nat → Nat) (pm km : Bool) (f : Nat → Int32) (J : Nat → Nat) (L : Nat) (M : ew_M) : Option Value → List ew_S → ew_M → Prop := fun v sh' M' => sh' = ew_SH L ∧ v = x ∧ RR ρ ce pm km f J M' ∧ ∀ q, q < 47 → M' q = M q
theorem RC_of {ρ : sp_R} {ce : Nat → Nat → Nat} {pm km : Bool} {f : Nat → Int32} {J : Nat → Nat} {M M' : ew_M} (h : RC ρ ce pm km f J M) (e : ∀ q, 0 < q → q < 47 → M' q = M q) : RC ρ ce pm km f J M' := by
  obtain ⟨h1, h2, h3, h4, h5, ⟨h6, h7, h8, h9⟩, h10, h11, h12, h13⟩ := h
  refine ⟨sp_ru_of h1 (e 10 (by decide) (by decide)) (e 11 (by decide) (by decide)) (e 13 (by decide) (by decide)) (e 14 (by decide) (by decide)) (e 15 (by decide) (by decide)), sp_ce_of h2 (e 19 (by decide) (by decide)) (e 20 (by decide) (by decide)), sp_tab_of h3 (e 5 (by decide) (by decide)) (e 6 (by decide) (by decide)) (e 7 (by decide) (by decide)) (e 8 (by decide) (by decide)) (e 9 (by decide) (by decide)), sp_st_of h4 (e 1 (by decide) (by decide)) (e 2 (by decide) (by decide)), ?_, ?_, ?_, ?_, ?_, ?_⟩
  · rw [e 16 (by decide) (by decide)]; exact h5
  · rw [e 34 (by decide) (by decide), e 37 (by decide) (by decide), e 39 (by decide) (by decide), e 41 (by decide) (by decide)]; exact ⟨h6, h7, h8, h9⟩
  · rw [e 3 (by decide) (by decide)]; exact h10
  · rw [e 3 (by decide) (by decide)]; exact h11
  · rw [e 22 (by decide) (by decide)]; exact h12
  · rw [e 46 (by decide) (by decide)]; exact h13
theorem RR_of {ρ : sp_R} {ce : Nat → Nat → Nat} {pm km : Bool} {f : Nat → Int32} {J : Nat → Nat} {M M' : ew_M} (h : RR ρ ce pm km f J M) (e : ∀ q, 47 ≤ q → M' q = M q) : RR ρ ce pm km f J M' := by
  obtain ⟨h1, h2, h3, h4, h5, h6, h7⟩ := h
  refine ⟨sp_rm_of h1 (e 49 (by decide)) (e 50 (by decide)) (e 51 (by decide)) (e 52 (by decide)) (by rw [e 47 (by decide)]) (e 53 (by decide)) (e 54 (by decide)) (e 55 (by decide)), sp_cm_of h2 (e 48 (by decide)), sp_rts_of h3 (e 60 (by decide)), ?_, ?_, ?_, ?_⟩
  · rw [e 47 (by decide)]; exact h4
  · rw [e 47 (by decide)]; exact h5
  · rw [e 56 (by decide)]; exact h6
  · rw [e 59 (by decide)]; exact h7
/-- the class's rules or cells change -/
theorem RC_f {ρ : sp_R} {ce : Nat → Nat → Nat} {pm km : Bool} {f : Nat → Int32} {J : Nat → Nat} {M M' : ew_M} {ρ' : sp_R} {ce' : Nat → Nat → Nat} (h : RC ρ ce pm km f J M) (h1 : sp_ru ρ' M') (h2 : sp_ce ce' M') (e : ∀ q, q ∉ [10, 11, 13, 14, 15, 19, 20] → M' q = M q) : RC ρ' ce' pm km f J M' := by
  obtain ⟨-, -, h3, h4, h5, ⟨h6, h7, h8, h9⟩, h10, h11, h12, h13⟩ := h
  refine ⟨h1, h2, sp_tab_of h3 (e 5 (by decide)) (e 6 (by decide)) (e 7 (by decide)) (e 8 (by decide)) (e 9 (by decide)), sp_st_of h4 (e 1 (by decide)) (e 2 (by decide)), ?_, ?_, ?_, ?_, ?_, ?_⟩
  · rw [e 16 (by decide)]; exact h5
  · rw [e 34 (by decide), e 37 (by decide), e 39 (by decide), e 41 (by decide)]; exact ⟨h6, h7, h8, h9⟩
  · rw [e 3 (by decide)]; exact h10
  · rw [e 3 (by decide)]; exact h11
  · rw [e 22 (by decide)]; exact h12
  · rw [e 46 (by decide)]; exact h13
theorem RR_f {ρ : sp_R} {ce : Nat → Nat → Nat} {pm km : Bool} {f : Nat → Int32} {J : Nat → Nat} {M M' : ew_M} {ρ' : sp_R} {ce' : Nat → Nat → Nat} (h : RR ρ ce pm km f J M) (h1 : sp_rm ρ' M') (h2 : sp_cm ce' M') (e : ∀ q, q ∉ [47, 48, 49, 50, 51, 52, 53, 54, 55] → M' q = M q) (e9 : M' 47 9 = M 47 9) (e18 : M' 47 18 = M 47 18) : RR ρ' ce' pm km f J M' := by
  obtain ⟨-, -, h3, h4, h5, h6, h7⟩ := h
  refine ⟨h1, h2, sp_rts_of h3 (e 60 (by decide)), ?_, ?_, ?_, ?_⟩
  · rw [e9]; exact h4
  · rw [e18]; exact h5
  · rw [e 56 (by decide)]; exact h6
  · rw [e 59 (by decide)]; exact h7
/-- one call on both sides -/
def OpOk (l : Launch) (g : ew_G) (L : Nat) (mc mr : ew_D) (ec er : List Value) (ρ : sp_R) (ce : Nat → Nat → Nat) (pm km : Bool) (f : Nat → Int32) (J : Nat → Nat) : Prop := ∃ (x : Int32) (ρ' : sp_R) (ce' : Nat → Nat → Nat) (pm' km' : Bool) (f' : Nat → Int32) (J' : Nat → Nat), (∀ M, RC ρ ce pm km f J M → Ew l g 8 0 0 mc 0 ec [] (ew_SH L) M (pC (some (.int x)) ρ' ce' pm' km' f' J' L M)) ∧ ∀ M, RR ρ ce pm km f J M → Ew l g 8 0 0 mr 0 er [] (ew_SH L) M (pR (some (.int x)) ρ' ce' pm' km' f' J' L M)
theorem pC_same {l : Launch} {g : ew_G} {L : Nat} {m : ew_D} {es : List Value} {x : Int32} {ρ : sp_R} {ce : Nat → Nat → Nat} {pm km : Bool} {f : Nat → Int32} {J : Nat → Nat} {M : ew_M} (h : RC ρ ce pm km f J M) (k : Ew l g 8 0 0 m 0 es [] (ew_SH L) M (ew_q (some (.int x)) (ew_SH L) M)) : Ew l g 8 0 0 m 0 es [] (ew_SH L) M (pC (some (.int x)) ρ ce pm km f J L M) := ew_mono k (by
  rintro _ _ _ ⟨rfl, rfl, rfl⟩
  exact ⟨rfl, rfl, h, fun _ _ => rfl⟩)
theorem pR_same {l : Launch} {g : ew_G} {L : Nat} {m : ew_D} {es : List Value} {x : Int32} {ρ : sp_R} {ce : Nat → Nat → Nat} {pm km : Bool} {f : Nat → Int32} {J : Nat → Nat} {M : ew_M} (h : RR ρ ce pm km f J M) (k : Ew l g 8 0 0 m 0 es [] (ew_SH L) M (ew_q (some (.int x)) (ew_SH L) M)) : Ew l g 8 0 0 m 0 es [] (ew_SH L) M (pR (some (.int x)) ρ ce pm km f J L M) := ew_mono k (by
  rintro _ _ _ ⟨rfl, rfl, rfl⟩
  exact ⟨rfl, rfl, h, fun _ _ => rfl⟩)
theorem OpOk_same {l : Launch} {g : ew_G} {L : Nat} {mc mr : ew_D} {ec er : List Value} (x : Int32) {ρ : sp_R} {ce : Nat → Nat → Nat} {pm km : Bool} {f : Nat → Int32} {J : Nat → Nat} (h1 : ∀ M, RC ρ ce pm km f J M → Ew l g 8 0 0 mc 0 ec [] (ew_SH L) M (ew_q (some (.int x)) (ew_SH L) M)) (h2 : ∀ M, RR ρ ce pm km f J M → Ew l g 8 0 0 mr 0 er [] (ew_SH L) M (ew_q (some (.int x)) (ew_SH L) M)) : OpOk l g L mc mr ec er ρ ce pm km f J := ⟨x, ρ, ce, pm, km, f, J, fun M h => pC_same h (h1 M h), fun M h => pR_same h (h2 M h)⟩
theorem sp_and2 {a b : Bool} (h : ¬ (a && b) = false) : a = true ∧ b = true := by
  cases a <;> cases b <;> first | exact ⟨rfl, rfl⟩ | exact absurd rfl h
theorem op_term (l : Launch) (g : ew_G) (L : Nat) (ρ : sp_R) (ce : Nat → Nat → Nat) (pm km : Bool) (f : Nat → Int32) (J : Nat → Nat) (a b c e : Int32) : OpOk l g L m_P_term m_Mo_term [.ref 3, .int a, .int b, .int c, .int e] [.ref 47, .int a, .int b, .int c, .int e] ρ ce pm km f J := by
  by_cases hx : (sp_in a 2 && (sp_in b 12289 && (sp_in c 5 && sp_in e 5))) = false
  · exact OpOk_same (-1) (fun M h => c_P_termB l g 6 L M a b c e hx) (fun M h => c_Mo_termB l g 7 L M a b c e hx)
  · obtain ⟨h1, hx⟩ := sp_and2 hx
    obtain ⟨h2, hx⟩ := sp_and2 (by rw [hx]; decide)
    obtain ⟨h3, h4⟩ := sp_and2 (by rw [hx]; decide)
    obtain ⟨a, ha, rfl⟩ := sp_in_of (by decide) h1
    obtain ⟨b, hb, rfl⟩ := sp_in_of (by decide) h2
    obtain ⟨c, hc, rfl⟩ := sp_in_of (by decide) h3
    obtain ⟨e, he, rfl⟩ := sp_in_of (by decide) h4
    by_cases h6 : r_cn ρ a = 6
    · refine OpOk_same (-3) (fun M h => ?_) (fun M h => c_Mo_termF l g 7 L M ρ h.1 a b c e ha hb hc he h6)
      rcases (show a = 0 ∨ a = 1 by omega) with rfl | rfl
      · exact c_P_termF0 l g 6 L M ρ h.1 h6 b c e hb hc he
      · exact c_P_termF1 l g 6 L M ρ h.1 h6 b c e hb hc he
    · by_cases hk : r_cn ρ a < 6
      · refine ⟨nI (r_cn ρ a + 1), sp_addT ρ a b c e, ce, pm, km, f, J, fun M h => ?_, fun M h => ?_⟩
        · rcases (show a = 0 ∨ a = 1 by omega) with rfl | rfl
          · refine ew_mono (c_P_term0 l g 6 L M ρ h.1 hk b c e hb hc he) ?_
            rintro _ _ _ ⟨rfl, rfl, rfl⟩
            refine ⟨rfl, rfl, RC_f h (sp_ru_addT0 h.1 hk hb hc he) (sp_ce_of h.2.1 (by rw [ew_w_ne (by decide), ew_w_ne (by decide), ew_w_ne (by decide), ew_w_ne (by decide)]) (by rw [ew_w_ne (by decide), ew_w_ne (by decide), ew_w_ne (by decide), ew_w_ne (by decide)])) (fun q hq => by rw [ew_w_ne (show q ≠ 11 from fun z => hq (by rw [z]; decide)), ew_w_ne (show q ≠ 13 from fun z => hq (by rw [z]; decide)), ew_w_ne (show q ≠ 13 from fun z => hq (by rw [z]; decide)), ew_w_ne (show q ≠ 13 from fun z => hq (by rw [z]; decide))]), fun q hq => by rw [ew_w_ne (show q ≠ 11 by omega), ew_w_ne (show q ≠ 13 by omega), ew_w_ne (show q ≠ 13 by omega), ew_w_ne (show q ≠ 13 by omega)]⟩
          · refine ew_mono (c_P_term1 l g 6 L M ρ h.1 hk b c e hb hc he) ?_
            rintro _ _ _ ⟨rfl, rfl, rfl⟩
            refine ⟨rfl, rfl, RC_f h (sp_ru_addT1 h.1 hk hb hc he) (sp_ce_of h.2.1 (by rw [ew_w_ne (by decide), ew_w_ne (by decide), ew_w_ne (by decide), ew_w_ne (by decide)]) (by rw [ew_w_ne (by decide), ew_w_ne (by decide), ew_w_ne (by decide), ew_w_ne (by decide)])) (fun q hq => by rw [ew_w_ne (show q ≠ 11 from fun z => hq (by rw [z]; decide)), ew_w_ne (show q ≠ 14 from fun z => hq (by rw [z]; decide)), ew_w_ne (show q ≠ 14 from fun z => hq (by rw [z]; decide)), ew_w_ne (show q ≠ 14 from fun z => hq (by rw [z]; decide))]), fun q hq => by rw [ew_w_ne (show q ≠ 11 by omega), ew_w_ne (show q ≠ 14 by omega), ew_w_ne (show q ≠ 14 by omega), ew_w_ne (show q ≠ 14 by omega)]⟩
        · refine ew_mono (c_Mo_term l g 7 L M ρ h.1 a b c e ha hb hc he hk) ?_
          rintro _ _ _ ⟨rfl, rfl, rfl⟩
          exact ⟨rfl, rfl, RR_f h (sp_rm_addT h.1 ha hk hb hc he) (sp_cm_of h.2.1 (by rw [ew_w_ne (by decide), ew_w_ne (by decide), ew_w_ne (by decide), ew_w_ne (by decide)])) (fun q hq => by rw [ew_w_ne (show q ≠ 49 from fun z => hq (by rw [z]; decide)), ew_w_ne (show q ≠ 52 from fun z => hq (by rw [z]; decide)), ew_w_ne (show q ≠ 51 from fun z => hq (by rw [z]; decide)), ew_w_ne (show q ≠ 50 from fun z => hq (by rw [z]; decide))]) (by rw [ew_w_ne (by decide), ew_w_ne (by decide), ew_w_ne (by decide), ew_w_ne (by decide)]) (by rw [ew_w_ne (by decide), ew_w_ne (by decide), ew_w_ne (by decide), ew_w_ne (by decide)]), fun q hq => by rw [ew_w_ne (show q ≠ 49 by omega), ew_w_ne (show q ≠ 52 by omega), ew_w_ne (show q ≠ 51 by omega), ew_w_ne (show q ≠ 50 by omega)]⟩
      · refine OpOk_same 0 (fun M h => absurd (h.1.1.1 a ha) (by omega)) (fun M h => absurd (h.1.1.1 a ha) (by omega))
theorem op_bound (l : Launch) (g : ew_G) (L : Nat) (ρ : sp_R) (ce : Nat → Nat → Nat) (pm km : Bool) (f : Nat → Int32) (J : Nat → Nat) (a b c : Int32) : OpOk l g L m_P_bound m_Mo_bound [.ref 3, .int a, .int b, .int c] [.ref 47, .int a, .int b, .int c] ρ ce pm km f J := by
  by_cases hx : ((sp_in a 2 && sp_in b 8) && sp_in c 12289) = false
  · exact OpOk_same (-1) (fun M h => c_P_boundB l g 6 L M a b c hx) (fun M h => c_Mo_boundB l g 7 L M a b c hx)
  · obtain ⟨hx, h3⟩ := sp_and2 hx
    obtain ⟨h1, h2⟩ := sp_and2 (by rw [hx]; decide)
    obtain ⟨a, ha, rfl⟩ := sp_in_of (by decide) h1
    obtain ⟨b, hb, rfl⟩ := sp_in_of (by decide) h2
    obtain ⟨c, hc, rfl⟩ := sp_in_of (by decide) h3
    by_cases h4 : r_bn ρ = 4
    · exact OpOk_same (-3) (fun M h => c_P_boundF l g 6 L M ρ h.1 h4 a b c ha hb hc) (fun M h => c_Mo_boundF l g 7 L M ρ h.1 a b c ha hb hc h4)
    · by_cases hk : r_bn ρ < 4
      · refine ⟨nI (r_bn ρ + 1), sp_addB ρ a b c, ce, pm, km, f, J, fun M h => ?_, fun M h => ?_⟩
        · refine ew_mono (c_P_bound l g 6 L M ρ h.1 hk a b c ha hb hc) ?_
          rintro _ _ _ ⟨rfl, rfl, rfl⟩
          exact ⟨rfl, rfl, RC_f h (sp_ru_addB h.1 ha hk hb hc) (sp_ce_of h.2.1 (by rw [ew_w_ne (by decide), ew_w_ne (by decide), ew_w_ne (by decide), ew_w_ne (by decide)]) (by rw [ew_w_ne (by decide), ew_w_ne (by decide), ew_w_ne (by decide), ew_w_ne (by decide)])) (fun q hq => by rw [ew_w_ne (show q ≠ 10 from fun z => hq (by rw [z]; decide)), ew_w_ne (show q ≠ 15 from fun z => hq (by rw [z]; decide)), ew_w_ne (show q ≠ 15 from fun z => hq (by rw [z]; decide)), ew_w_ne (show q ≠ 15 from fun z => hq (by rw [z]; decide))]), fun q hq => by rw [ew_w_ne (show q ≠ 10 by omega), ew_w_ne (show q ≠ 15 by omega), ew_w_ne (show q ≠ 15 by omega), ew_w_ne (show q ≠ 15 by omega)]⟩
        · refine ew_mono (c_Mo_bound l g 7 L M ρ h.1 a b c ha hb hc hk) ?_
          rintro _ _ _ ⟨rfl, rfl, rfl⟩
          exact ⟨rfl, rfl, RR_f h (sp_rm_addB h.1 ha hk hb hc) (sp_cm_of h.2.1 (by rw [ew_w_ne (by decide), ew_w_ne (by decide), ew_w_ne (by decide), ew_w_ne (by decide)])) (fun q hq => by rw [ew_w_ne (show q ≠ 47 from fun z => hq (by rw [z]; decide)), ew_w_ne (show q ≠ 55 from fun z => hq (by rw [z]; decide)), ew_w_ne (show q ≠ 54 from fun z => hq (by rw [z]; decide)), ew_w_ne (show q ≠ 53 from fun z => hq (by rw [z]; decide))]) (by rw [ew_w_j (by decide), ew_w_ne (by decide), ew_w_ne (by decide), ew_w_ne (by decide)]) (by rw [ew_w_j (by decide), ew_w_ne (by decide), ew_w_ne (by decide), ew_w_ne (by decide)]), fun q hq => by rw [ew_w_ne (show q ≠ 47 by omega), ew_w_ne (show q ≠ 55 by omega), ew_w_ne (show q ≠ 54 by omega), ew_w_ne (show q ≠ 53 by omega)]⟩
      · refine OpOk_same 0 (fun M h => absurd h.1.1.2.2.1 (by omega)) (fun M h => absurd h.1.1.2.2.1 (by omega))
theorem op_set (l : Launch) (g : ew_G) (L : Nat) (ρ : sp_R) (ce : Nat → Nat → Nat) (pm km : Bool) (f : Nat → Int32) (J : Nat → Nat) (a b c : Int32) : OpOk l g L m_P_set m_Mo_set [.ref 3, .int a, .int b, .int c] [.ref 47, .int a, .int b, .int c] ρ ce pm km f J := by
  by_cases hx : ((sp_in a 2 && sp_in b 8) && sp_in c 12289) = false
  · exact OpOk_same (nI 0) (fun M h => c_P_setB l g 6 L M a b c hx) (fun M h => c_Mo_setB l g 7 L M a b c hx)
  · obtain ⟨hx, h3⟩ := sp_and2 hx
    obtain ⟨h1, h2⟩ := sp_and2 (by rw [hx]; decide)
    obtain ⟨a, ha, rfl⟩ := sp_in_of (by decide) h1
    obtain ⟨b, hb, rfl⟩ := sp_in_of (by decide) h2
    obtain ⟨c, hc, rfl⟩ := sp_in_of (by decide) h3
    refine ⟨nI 1, ρ, up2 ce a b c, pm, km, f, J, fun M h => ?_, fun M h => ?_⟩
    · rcases (show a = 0 ∨ a = 1 by omega) with rfl | rfl
      · refine ew_mono (c_P_set0 l g 6 L M b c hb hc) ?_
        rintro _ _ _ ⟨rfl, rfl, rfl⟩
        exact ⟨rfl, rfl, RC_f h (sp_ru_w h.1 (by decide)) (sp_ce_set h.2.1 ha hb hc) (fun q hq => by rw [ew_w_ne (show q ≠ 19 from fun z => hq (by rw [z]; decide))]), fun q hq => by rw [ew_w_ne (show q ≠ 19 by omega)]⟩
      · refine ew_mono (c_P_set1 l g 6 L M b c hb hc) ?_
        rintro _ _ _ ⟨rfl, rfl, rfl⟩
        exact ⟨rfl, rfl, RC_f h (sp_ru_w h.1 (by decide)) (sp_ce_set h.2.1 ha hb hc) (fun q hq => by rw [ew_w_ne (show q ≠ 20 from fun z => hq (by rw [z]; decide))]), fun q hq => by rw [ew_w_ne (show q ≠ 20 by omega)]⟩
    · refine ew_mono (c_Mo_set l g 7 L M a b c ha hb hc) ?_
      rintro _ _ _ ⟨rfl, rfl, rfl⟩
      exact ⟨rfl, rfl, RR_f h (sp_rm_of h.1 (ew_w_ne (by decide)) (ew_w_ne (by decide)) (ew_w_ne (by decide)) (ew_w_ne (by decide)) (by rw [ew_w_ne (by decide)]) (ew_w_ne (by decide)) (ew_w_ne (by decide)) (ew_w_ne (by decide))) (sp_cm_set h.2.1 ha hb hc) (fun q hq => by rw [ew_w_ne (show q ≠ 48 from fun z => hq (by rw [z]; decide))]) (by rw [ew_w_ne (by decide)]) (by rw [ew_w_ne (by decide)]), fun q hq => by rw [ew_w_ne (show q ≠ 48 by omega)]⟩
theorem op_cell (l : Launch) (g : ew_G) (L : Nat) (ρ : sp_R) (ce : Nat → Nat → Nat) (pm km : Bool) (f : Nat → Int32) (J : Nat → Nat) (a b : Int32) : OpOk l g L m_P_cell m_Mo_cell [.ref 3, .int a, .int b] [.ref 47, .int a, .int b] ρ ce pm km f J := by
  by_cases hx : (sp_in a 2 && sp_in b 8) = false
  · exact OpOk_same (-1) (fun M h => c_P_cellB l g 6 L M a b hx) (fun M h => c_Mo_cellB l g 7 L M a b hx)
  · obtain ⟨h1, h2⟩ := sp_and2 hx
    obtain ⟨a, ha, rfl⟩ := sp_in_of (by decide) h1
    obtain ⟨b, hb, rfl⟩ := sp_in_of (by decide) h2
    exact OpOk_same (nI (ce a b)) (fun M h => c_P_cell l g 6 L M ce h.2.1 a b ha hb) (fun M h => c_Mo_cell l g 7 L M ce h.2.1 a b ha hb)
theorem op_at (l : Launch) (g : ew_G) (L : Nat) (ρ : sp_R) (ce : Nat → Nat → Nat) (pm km : Bool) (f : Nat → Int32) (J : Nat → Nat) (a b : Int32) : OpOk l g L m_P_at m_Mo_at [.ref 3, .int a, .int b] [.ref 47, .int a, .int b] ρ ce pm km f J := by
  by_cases hx : (sp_in a 2 && sp_in b 32) = false
  · exact OpOk_same (-1) (fun M h => c_P_atB l g 6 L M a b hx) (fun M h => c_Mo_atB l g 5 L M a b hx)
  · obtain ⟨h1, h2⟩ := sp_and2 hx
    obtain ⟨a, ha, rfl⟩ := sp_in_of (by decide) h1
    obtain ⟨b, hb, rfl⟩ := sp_in_of (by decide) h2
    refine OpOk_same (nI (sp_p ce a b)) (fun M h => ?_) (fun M h => c_Mo_at l g 5 L M h.2.2.1 ce h.2.1 a b ha hb)
    rcases (show a = 0 ∨ a = 1 by omega) with rfl | rfl
    · exact c_P_at0 l g 5 L M h.2.2.1 ce h.2.1 b hb
    · exact c_P_at1 l g 5 L M h.2.2.1 ce h.2.1 b hb
theorem RC_16 {ρ : sp_R} {ce : Nat → Nat → Nat} {pm km : Bool} {f : Nat → Int32} {J : Nat → Nat} {M M' : ew_M} (h : RC ρ ce pm km f J M) (e : ∀ q, q ≠ 16 → M' q = M q) (e1 : M' 16 0 = nI 1) : RC ρ ce pm km f J M' := by
  obtain ⟨h1, h2, h3, h4, h5, ⟨h6, h7, h8, h9⟩, h10, h11, h12, h13⟩ := h
  refine ⟨sp_ru_of h1 (e 10 (by decide)) (e 11 (by decide)) (e 13 (by decide)) (e 14 (by decide)) (e 15 (by decide)), sp_ce_of h2 (e 19 (by decide)) (e 20 (by decide)), sp_tab_of h3 (e 5 (by decide)) (e 6 (by decide)) (e 7 (by decide)) (e 8 (by decide)) (e 9 (by decide)), sp_st_of h4 (e 1 (by decide)) (e 2 (by decide)), e1, ?_, ?_, ?_, ?_, ?_⟩
  · rw [e 34 (by decide), e 37 (by decide), e 39 (by decide), e 41 (by decide)]; exact ⟨h6, h7, h8, h9⟩
  · rw [e 3 (by decide)]; exact h10
  · rw [e 3 (by decide)]; exact h11
  · rw [e 22 (by decide)]; exact h12
  · rw [e 46 (by decide)]; exact h13
theorem RR_64 {ρ : sp_R} {ce : Nat → Nat → Nat} {pm km : Bool} {f : Nat → Int32} {J : Nat → Nat} {M M' : ew_M} (h : RR ρ ce pm km f J M) (e : ∀ q, q ≠ 64 → M' q = M q) : RR ρ ce pm km f J M' := by
  obtain ⟨h1, h2, h3, h4, h5, h6, h7⟩ := h
  refine ⟨sp_rm_of h1 (e 49 (by decide)) (e 50 (by decide)) (e 51 (by decide)) (e 52 (by decide)) (by rw [e 47 (by decide)]) (e 53 (by decide)) (e 54 (by decide)) (e 55 (by decide)), sp_cm_of h2 (e 48 (by decide)), sp_rts_of h3 (e 60 (by decide)), ?_, ?_, ?_, ?_⟩
  · rw [e 47 (by decide)]; exact h4
  · rw [e 47 (by decide)]; exact h5
  · rw [e 56 (by decide)]; exact h6
  · rw [e 59 (by decide)]; exact h7
theorem op_wrong (l : Launch) (g : ew_G) (L : Nat) (ρ : sp_R) (ce : Nat → Nat → Nat) (pm km : Bool) (f : Nat → Int32) (J : Nat → Nat) : OpOk l g L m_P_wrong m_Mo_wrong [.ref 3, .retAddr 0] [.ref 47, .retAddr 0] ρ ce pm km f J := by
  refine ⟨sp_wrong ρ ce, ρ, ce, pm, km, f, J, fun M h => ?_, fun M h => ?_⟩
  · refine ew_mono (c_P_wrong l g 4 L M ρ h.1 ce h.2.1 h.2.2.2.2.1) ?_
    rintro _ _ M1 ⟨rfl, rfl, a1, a2⟩
    exact ⟨rfl, rfl, RC_16 h a1 a2, fun q hq => a1 q (by omega)⟩
  · refine ew_mono (c_Mo_wrong l g 5 L M ρ h.1 ce h.2.1) ?_
    rintro _ _ M1 ⟨rfl, rfl, a1⟩
    exact ⟨rfl, rfl, RR_64 h a1, fun q hq => a1 q (by omega)⟩
/-- the row that a proof of these rules and cells makes of a row -/
noncomputable def sp_mk (ρ : sp_R) (ce : Nat → Nat → Nat) (f : Nat → Int32) : Nat → Int32 := Classical.epsilon (fun x : Nat → Int32 => sp_pf ρ ce f x)
theorem sp_mk_eq {ρ : sp_R} {ce : Nat → Nat → Nat} {f x f0 : Nat → Int32} (h : sp_pf ρ ce f0 x) (hf : ∀ i, i < 179 → f0 i = f i) : ∀ i, i < 179 → x i = sp_mk ρ ce f i := by
  have hx : sp_pf ρ ce f x := by
    obtain ⟨n0, n1, n2, n3, hn, hr⟩ := h
    refine ⟨n0, n1, n2, n3, hn, fun i hi => (hr i hi).trans ?_⟩
    exact sp_op_c (fun _ _ _ => rfl) (fun _ _ _ => rfl) (fun _ _ _ => rfl) (fun _ _ _ => rfl) (sp_op_c (fun _ _ _ => rfl) (fun _ _ _ => rfl) (fun _ _ _ => rfl) (fun _ _ _ => rfl) (sp_op_c (fun _ _ _ => rfl) (fun _ _ _ => rfl) (fun _ _ _ => rfl) (fun _ _ _ => rfl) (sp_f5_c hf) 0) 1) 2 i hi
  have he : ∃ x, sp_pf ρ ce f x := ⟨x, hx⟩
  exact sp_pf_eq hx (Classical.epsilon_spec he) (fun _ _ => rfl)
theorem op_prove (l : Launch) (g : ew_G) (L : Nat) (ρ : sp_R) (ce : Nat → Nat → Nat) (pm km : Bool) (f : Nat → Int32) (J : Nat → Nat) : OpOk l g L m_P_prove m_Mo_prove [.ref 3, .retAddr 0] [.ref 47, .retAddr 0, .retAddr 0, .retAddr 0] ρ ce pm km f J := by
  by_cases hn : sp_cc ρ + r_bn ρ = 0
  · exact OpOk_same (-1) (fun M h => c_P_proveN l g 6 L M ρ h.1 hn) (fun M h => c_Mo_proveN l g 4 L M ρ h.1 hn)
  · by_cases hw : sp_wrong ρ ce = -2
    · refine ⟨nI 0, ρ, ce, true, km, sp_mk ρ ce f, J, fun M h => ?_, fun M h => ?_⟩
      · obtain ⟨h1, h2, h3, h4, h5, ⟨h6, h7, h8, h9⟩, h10, h11, h12, h13⟩ := h
        refine ew_mono (c_P_prove l g 1 L M ρ h1 ce h2 h5 hn h3 h4 h6 h7 h8 h9 hw) ?_
        rintro _ _ M1 ⟨rfl, rfl, e, p1, p2, p3, p4⟩
        refine ⟨rfl, rfl, ⟨sp_ru_of h1 (e 10 (by decide) (by decide)) (e 11 (by decide) (by decide)) (e 13 (by decide) (by decide)) (e 14 (by decide) (by decide)) (e 15 (by decide) (by decide)), sp_ce_of h2 (e 19 (by decide) (by decide)) (e 20 (by decide) (by decide)), sp_tab_of h3 (e 5 (by decide) (by decide)) (e 6 (by decide) (by decide)) (e 7 (by decide) (by decide)) (e 8 (by decide) (by decide)) (e 9 (by decide) (by decide)), sp_st_of h4 (e 1 (by decide) (by decide)) (e 2 (by decide) (by decide)), p3, ?_, p1, p2.trans h11, sp_mk_eq p4 h12, ?_⟩, fun q hq => e q (by omega) (fun z => ?_)⟩
        · rw [e 34 (by decide) (by decide), e 37 (by decide) (by decide), e 39 (by decide) (by decide), e 41 (by decide) (by decide)]; exact ⟨h6, h7, h8, h9⟩
        · rw [e 46 (by decide) (by decide)]; exact h13
        · unfold sp_wset at z
          simp at z
          omega
      · obtain ⟨h1, h2, h3, h4, h5, h6, h7⟩ := h
        refine ew_mono (c_Mo_prove l g 4 L M ρ h1 ce h2 h3 hn hw) ?_
        rintro _ _ M1 ⟨rfl, rfl, e, p1, p4⟩
        refine ⟨rfl, rfl, ⟨sp_F0_rm e h1, sp_cm_of h2 (e.1 48 (by decide)), sp_F0_rts e h3, p1, (e.2 18 (by decide)).trans h5, sp_mk_eq p4 h6, ?_⟩, fun q hq => e.1 q (fun z => ?_)⟩
        · rw [e.1 59 (by decide)]; exact h7
        · simp at z
          omega
    · refine ⟨-10 - sp_wrong ρ ce, ρ, ce, pm, km, f, J, fun M h => ?_, fun M h => ?_⟩
      · refine ew_mono (c_P_proveW l g 3 L M ρ h.1 ce h.2.1 h.2.2.2.2.1 hn hw) ?_
        rintro _ _ M1 ⟨rfl, rfl, a1, a2⟩
        exact ⟨rfl, rfl, RC_16 h a1 a2, fun q hq => a1 q (by omega)⟩
      · refine ew_mono (c_Mo_proveW l g 4 L M ρ h.1 ce h.2.1 hn hw) ?_
        rintro _ _ M1 ⟨rfl, rfl, a1⟩
        exact ⟨rfl, rfl, RR_64 h a1, fun q hq => a1 q (by omega)⟩
theorem op_proof (l : Launch) (g : ew_G) (L : Nat) (ρ : sp_R) (ce : Nat → Nat → Nat) (pm km : Bool) (f : Nat → Int32) (J : Nat → Nat) (a : Int32) : OpOk l g L m_P_proof m_Mo_proof [.ref 3, .int a] [.ref 47, .int a] ρ ce pm km f J := by
  by_cases hx : (pm && sp_in a 179) = false
  · exact OpOk_same (nI 0) (fun M h => c_P_proofB l g 7 L M pm h.2.2.2.2.2.2.1 a hx) (fun M h => c_Mo_proofB l g 8 L M pm h.2.2.2.1 a hx)
  · obtain ⟨rfl, h2⟩ := sp_and2 hx
    obtain ⟨a, ha, rfl⟩ := sp_in_of (by decide) h2
    refine OpOk_same (f a) (fun M h => ?_) (fun M h => ?_)
    · rw [← h.2.2.2.2.2.2.2.2.1 a ha]
      exact c_P_proof l g 7 L M h.2.2.2.2.2.2.1 a ha
    · rw [← h.2.2.2.2.2.1 a ha]
      exact c_Mo_proof l g 8 L M h.2.2.2.1 a ha
theorem sp_upd_eq {f h : Nat → Int32} {a : Nat} {x : Int32} (e : ∀ i, i < 179 → f i = h i) : ∀ i, i < 179 → upd f a x i = upd h a x i := sp_upd_c e rfl
theorem op_alter (l : Launch) (g : ew_G) (L : Nat) (ρ : sp_R) (ce : Nat → Nat → Nat) (pm km : Bool) (f : Nat → Int32) (J : Nat → Nat) (a b : Int32) : OpOk l g L m_P_alter m_Mo_alter [.ref 3, .int a, .int b] [.ref 47, .int a, .int b] ρ ce pm km f J := by
  by_cases hx : (pm && sp_in a 179) = false
  · exact OpOk_same (nI 0) (fun M h => c_P_alterB l g 7 L M pm h.2.2.2.2.2.2.1 a b hx) (fun M h => c_Mo_alterB l g 8 L M pm h.2.2.2.1 a b hx)
  · obtain ⟨rfl, h2⟩ := sp_and2 hx
    obtain ⟨a, ha, rfl⟩ := sp_in_of (by decide) h2
    refine ⟨nI 1, ρ, ce, true, km, upd f a b, J, fun M h => ?_, fun M h => ?_⟩
    · refine ew_mono (c_P_alter l g 7 L M h.2.2.2.2.2.2.1 a b ha) ?_
      rintro _ _ _ ⟨rfl, rfl, rfl⟩
      obtain ⟨h1, h2, h3, h4, h5, ⟨h6, h7, h8, h9⟩, h10, h11, h12, h13⟩ := h
      refine ⟨rfl, rfl, ⟨sp_ru_w h1 (by decide), sp_ce_of h2 (ew_w_ne (by decide)) (ew_w_ne (by decide)), sp_tab_w h3 (by decide), sp_st_of h4 (ew_w_ne (by decide)) (ew_w_ne (by decide)), ?_, ?_, ?_, ?_, ?_, ?_⟩, fun q hq => ew_w_ne (by omega)⟩
      · rw [ew_w_ne (by decide)]; exact h5
      · rw [ew_w_ne (by decide), ew_w_ne (by decide), ew_w_ne (by decide), ew_w_ne (by decide)]; exact ⟨h6, h7, h8, h9⟩
      · rw [ew_w_ne (by decide)]; exact h10
      · rw [ew_w_ne (by decide)]; exact h11
      · rw [ew_w_self]; exact sp_upd_eq h12
      · rw [ew_w_ne (by decide)]; exact h13
    · refine ew_mono (c_Mo_alter l g 8 L M h.2.2.2.1 a b ha) ?_
      rintro _ _ _ ⟨rfl, rfl, rfl⟩
      obtain ⟨h1, h2, h3, h4, h5, h6, h7⟩ := h
      refine ⟨rfl, rfl, ⟨sp_rm_w2 h1 (by decide), sp_cm_of h2 (ew_w_ne (by decide)), sp_rts_of h3 (ew_w_ne (by decide)), ?_, ?_, ?_, ?_⟩, fun q hq => ew_w_ne (by omega)⟩
      · rw [ew_w_ne (by decide)]; exact h4
      · rw [ew_w_ne (by decide)]; exact h5
      · rw [ew_w_self]; exact sp_upd_eq h6
      · rw [ew_w_ne (by decide)]; exact h7
theorem op_position (l : Launch) (g : ew_G) (L : Nat) (ρ : sp_R) (ce : Nat → Nat → Nat) (pm km : Bool) (f : Nat → Int32) (J : Nat → Nat) (a : Int32) : OpOk l g L m_P_position m_Mo_position [.ref 3, .int a] [.ref 47, .int a] ρ ce pm km f J := by
  by_cases hx : (km && sp_in a 3) = false
  · exact OpOk_same (-2) (fun M h => c_P_positionB l g 7 L M km h.2.2.2.2.2.2.2.1 a hx) (fun M h => c_Mo_positionB l g 8 L M km h.2.2.2.2.1 a hx)
  · obtain ⟨rfl, h2⟩ := sp_and2 hx
    obtain ⟨a, ha, rfl⟩ := sp_in_of (by decide) h2
    exact OpOk_same (nI (J a)) (fun M h => c_P_position l g 7 L M h.2.2.2.2.2.2.2.1 a (J a) ha (h.2.2.2.2.2.2.2.2.2 rfl a ha)) (fun M h => c_Mo_position l g 8 L M h.2.2.2.2.1 a (J a) ha (h.2.2.2.2.2.2 rfl a ha))
theorem RC_7 {ρ : sp_R} {ce : Nat → Nat → Nat} {pm km : Bool} {f : Nat → Int32} {J : Nat → Nat} {M : ew_M} (h : RC ρ ce pm km f J M) : RC ρ ce pm false f J (ew_w M 3 7 (nI 0)) := by
  obtain ⟨h1, h2, h3, h4, h5, ⟨h6, h7, h8, h9⟩, h10, h11, h12, h13⟩ := h
  refine ⟨sp_ru_of h1 (ew_w_ne (by decide)) (ew_w_ne (by decide)) (ew_w_ne (by decide)) (ew_w_ne (by decide)) (ew_w_ne (by decide)), sp_ce_of h2 (ew_w_ne (by decide)) (ew_w_ne (by decide)), sp_tab_of h3 (ew_w_ne (by decide)) (ew_w_ne (by decide)) (ew_w_ne (by decide)) (ew_w_ne (by decide)) (ew_w_ne (by decide)), sp_st_of h4 (ew_w_ne (by decide)) (ew_w_ne (by decide)), ?_, ?_, ?_, ew_w_at, ?_, fun z => by cases z⟩
  · rw [ew_w_ne (by decide)]; exact h5
  · rw [ew_w_ne (by decide), ew_w_ne (by decide), ew_w_ne (by decide), ew_w_ne (by decide)]; exact ⟨h6, h7, h8, h9⟩
  · rw [ew_w_j (by decide)]; exact h10
  · rw [ew_w_ne (by decide)]; exact h12
theorem RR_18 {ρ : sp_R} {ce : Nat → Nat → Nat} {pm km : Bool} {f : Nat → Int32} {J : Nat → Nat} {M : ew_M} (h : RR ρ ce pm km f J M) : RR ρ ce pm false f J (ew_w M 47 18 (nI 0)) := by
  obtain ⟨h1, h2, h3, h4, h5, h6, h7⟩ := h
  refine ⟨sp_rm_w h1 (by decide), sp_cm_of h2 (ew_w_ne (by decide)), sp_rts_of h3 (ew_w_ne (by decide)), ?_, ew_w_at, ?_, fun z => by cases z⟩
  · rw [ew_w_j (by decide)]; exact h4
  · rw [ew_w_ne (by decide)]; exact h6
theorem op_verify (l : Launch) (g : ew_G) (L : Nat) (ρ : sp_R) (ce : Nat → Nat → Nat) (pm km : Bool) (f : Nat → Int32) (J : Nat → Nat) : OpOk l g L m_P_verify m_Mo_verify [.ref 3, .retAddr 0] [.ref 47, .retAddr 0, .retAddr 0] ρ ce pm km f J := by
  cases pm with
  | false =>
    refine ⟨-2, ρ, ce, false, false, f, J, fun M h => ?_, fun M h => ?_⟩
    · refine ew_mono (c_P_verifyN l g 6 L M h.2.2.2.2.2.2.1) ?_
      rintro _ _ _ ⟨rfl, rfl, rfl⟩
      exact ⟨rfl, rfl, RC_7 h, fun q hq => ew_w_ne (by omega)⟩
    · refine ew_mono (c_Mo_verifyN l g 7 L M h.2.2.2.1) ?_
      rintro _ _ _ ⟨rfl, rfl, rfl⟩
      exact ⟨rfl, rfl, RR_18 h, fun q hq => ew_w_ne (by omega)⟩
  | true =>
    by_cases hn : sp_cc ρ + r_bn ρ = 0
    · refine ⟨-1, ρ, ce, true, false, f, J, fun M h => ?_, fun M h => ?_⟩
      · refine ew_mono (c_P_verifyE l g 6 L M h.2.2.2.2.2.2.1 ρ h.1 hn) ?_
        rintro _ _ _ ⟨rfl, rfl, rfl⟩
        exact ⟨rfl, rfl, RC_7 h, fun q hq => ew_w_ne (by omega)⟩
      · refine ew_mono (c_Mo_verifyE l g 7 L M h.2.2.2.1 ρ h.1 hn) ?_
        rintro _ _ _ ⟨rfl, rfl, rfl⟩
        exact ⟨rfl, rfl, RR_18 h, fun q hq => ew_w_ne (by omega)⟩
    · refine ⟨nI (sp_vcd ρ f), ρ, ce, true, sp_nB f, f, sp_jv ρ f, fun M h => ?_, fun M h => ?_⟩
      · refine en_norm (r := 22) (n := 179) (f := f) rfl h.2.2.2.2.2.2.2.2.1 ?_
        have h0 : RC ρ ce true km f J (ew_up M 22 f) := by
          obtain ⟨h1, h2, h3, h4, h5, ⟨h6, h7, h8, h9⟩, h10, h11, h12, h13⟩ := h
          exact ⟨sp_ru_of h1 (ew_up_ne (by decide)) (ew_up_ne (by decide)) (ew_up_ne (by decide)) (ew_up_ne (by decide)) (ew_up_ne (by decide)), sp_ce_of h2 (ew_up_ne (by decide)) (ew_up_ne (by decide)), sp_tab_of h3 (ew_up_ne (by decide)) (ew_up_ne (by decide)) (ew_up_ne (by decide)) (ew_up_ne (by decide)) (ew_up_ne (by decide)), sp_st_of h4 (ew_up_ne (by decide)) (ew_up_ne (by decide)), by rw [ew_up_ne (by decide)]; exact h5, by rw [ew_up_ne (by decide), ew_up_ne (by decide), ew_up_ne (by decide), ew_up_ne (by decide)]; exact ⟨h6, h7, h8, h9⟩, by rw [ew_up_ne (by decide)]; exact h10, by rw [ew_up_ne (by decide)]; exact h11, fun i _ => by rw [ew_up_self], by rw [ew_up_ne (by decide)]; exact h13⟩
        obtain ⟨h1, h2, h3, h4, h5, ⟨h6, h7, h8, h9⟩, h10, h11, h12, h13⟩ := h0
        refine ew_mono (c_P_verify l g 0 L (ew_up M 22 f) h10 ρ h1 h3 h4 h5 hn) ?_
        rintro _ _ M1 ⟨rfl, e0, e, p1, p2, p3, p4⟩
        rw [ew_up_self] at e0 p2 p4
        subst e0
        refine ⟨rfl, rfl, ⟨sp_ru_of h1 (e 10 (by decide) (by decide) (by decide) (by decide) (by decide)) (e 11 (by decide) (by decide) (by decide) (by decide) (by decide)) (e 13 (by decide) (by decide) (by decide) (by decide) (by decide)) (e 14 (by decide) (by decide) (by decide) (by decide) (by decide)) (e 15 (by decide) (by decide) (by decide) (by decide) (by decide)), sp_ce_of h2 (e 19 (by decide) (by decide) (by decide) (by decide) (by decide)) (e 20 (by decide) (by decide) (by decide) (by decide) (by decide)), sp_tab_of h3 (e 5 (by decide) (by decide) (by decide) (by decide) (by decide)) (e 6 (by decide) (by decide) (by decide) (by decide) (by decide)) (e 7 (by decide) (by decide) (by decide) (by decide) (by decide)) (e 8 (by decide) (by decide) (by decide) (by decide) (by decide)) (e 9 (by decide) (by decide) (by decide) (by decide) (by decide)), sp_st_of h4 (e 1 (by decide) (by decide) (by decide) (by decide) (by decide)) (e 2 (by decide) (by decide) (by decide) (by decide) (by decide)), p3, ?_, p1.trans h10, ?_, ?_, ?_⟩, fun q hq => (e q (by omega) (by omega) (by omega) (by omega) (by omega)).trans (ew_up_ne (by omega))⟩
        · rw [e 34 (by decide) (by decide) (by decide) (by decide) (by decide), e 37 (by decide) (by decide) (by decide) (by decide) (by decide), e 39 (by decide) (by decide) (by decide) (by decide) (by decide), e 41 (by decide) (by decide) (by decide) (by decide) (by decide)]; exact ⟨h6, h7, h8, h9⟩
        · rw [p2, sp_nB_vcd ρ f]
        · rw [e 22 (by decide) (by decide) (by decide) (by decide) (by decide), ew_up_self]; exact fun _ _ => rfl
        · intro z k hk
          obtain ⟨z0, z1, z2⟩ := p4 z
          rcases (show k = 0 ∨ k = 1 ∨ k = 2 by omega) with rfl | rfl | rfl
          · exact z0
          · exact z1
          · exact z2
      · refine en_norm (r := 56) (n := 179) (f := f) rfl h.2.2.2.2.2.1 ?_
        have h0 : RR ρ ce true km f J (ew_up M 56 f) := by
          obtain ⟨h1, h2, h3, h4, h5, h6, h7⟩ := h
          exact ⟨sp_rm_of h1 (ew_up_ne (by decide)) (ew_up_ne (by decide)) (ew_up_ne (by decide)) (ew_up_ne (by decide)) (by rw [ew_up_ne (by decide)]) (ew_up_ne (by decide)) (ew_up_ne (by decide)) (ew_up_ne (by decide)), sp_cm_of h2 (ew_up_ne (by decide)), sp_rts_of h3 (ew_up_ne (by decide)), by rw [ew_up_ne (by decide)]; exact h4, by rw [ew_up_ne (by decide)]; exact h5, fun i _ => by rw [ew_up_self], by rw [ew_up_ne (by decide)]; exact h7⟩
        obtain ⟨h1, h2, h3, h4, h5, h6, h7⟩ := h0
        refine ew_mono (c_Mo_verify l g 3 L (ew_up M 56 f) h4 ρ h1 h3 hn) ?_
        rintro _ _ M1 ⟨rfl, e0, e, p1, p2, p4⟩
        rw [ew_up_self] at e0 p2 p4
        subst e0
        refine ⟨rfl, rfl, ⟨sp_rm_of h1 (e 49 (by decide)) (e 50 (by decide)) (e 51 (by decide)) (e 52 (by decide)) (p1 5 (by decide)) (e 53 (by decide)) (e 54 (by decide)) (e 55 (by decide)), sp_cm_of h2 (e 48 (by decide)), sp_rts_of h3 (e 60 (by decide)), (p1 9 (by decide)).trans h4, p2, ?_, ?_⟩, fun q hq => (e q (fun z => by simp at z; omega)).trans (ew_up_ne (by omega))⟩
        · rw [e 56 (by decide), ew_up_self]; exact fun _ _ => rfl
        · intro z k hk
          obtain ⟨z0, z1, z2⟩ := p4 z
          rcases (show k = 0 ∨ k = 1 ∨ k = 2 by omega) with rfl | rfl | rfl
          · exact z0
          · exact z1
          · exact z2
theorem op_clear (l : Launch) (g : ew_G) (L : Nat) (ρ : sp_R) (ce : Nat → Nat → Nat) (pm km : Bool) (f : Nat → Int32) (J : Nat → Nat) : (∀ M, RC ρ ce pm km f J M → Ew l g 8 0 0 m_P_clear 0 [.ref 3] [] (ew_SH L) M (pC none (sp_clr ρ) ce pm km f J L M)) ∧ ∀ M, RR ρ ce pm km f J M → Ew l g 8 0 0 m_Mo_clear 0 [.ref 47] [] (ew_SH L) M (pR none (sp_clr ρ) ce pm km f J L M) := by
  refine ⟨fun M h => ?_, fun M h => ?_⟩
  · refine ew_mono (c_P_clear l g 7 L M) ?_
    rintro _ _ _ ⟨rfl, rfl, rfl⟩
    exact ⟨rfl, rfl, RC_f h sp_ru_clr (sp_ce_of h.2.1 (by rw [ew_w_ne (by decide), ew_w_ne (by decide), ew_w_ne (by decide)]) (by rw [ew_w_ne (by decide), ew_w_ne (by decide), ew_w_ne (by decide)])) (fun q hq => by rw [ew_w_ne (show q ≠ 10 from fun z => hq (by rw [z]; decide)), ew_w_ne (show q ≠ 11 from fun z => hq (by rw [z]; decide)), ew_w_ne (show q ≠ 11 from fun z => hq (by rw [z]; decide))]), fun q hq => by rw [ew_w_ne (show q ≠ 10 by omega), ew_w_ne (show q ≠ 11 by omega), ew_w_ne (show q ≠ 11 by omega)]⟩
  · refine ew_mono (c_Mo_clear l g 8 L M) ?_
    rintro _ _ _ ⟨rfl, rfl, rfl⟩
    exact ⟨rfl, rfl, RR_f h sp_rm_clr (sp_cm_of h.2.1 (by rw [ew_w_ne (by decide), ew_w_ne (by decide), ew_w_ne (by decide)])) (fun q hq => by rw [ew_w_ne (show q ≠ 47 from fun z => hq (by rw [z]; decide)), ew_w_ne (show q ≠ 49 from fun z => hq (by rw [z]; decide)), ew_w_ne (show q ≠ 49 from fun z => hq (by rw [z]; decide))]) (by rw [ew_w_j (by decide), ew_w_ne (by decide), ew_w_ne (by decide)]) (by rw [ew_w_j (by decide), ew_w_ne (by decide), ew_w_ne (by decide)]), fun q hq => by rw [ew_w_ne (show q ≠ 47 by omega), ew_w_ne (show q ≠ 49 by omega), ew_w_ne (show q ≠ 49 by omega)]⟩
