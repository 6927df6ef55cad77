/-! ===== the model: all items are read ===== -/
def itB (I : Nat → Nat → Int32) (n : Nat) (tc : Nat → Nat) (nr nt p : Nat) : Option ((Nat → Nat → Int32) × Nat × Nat × Nat) :=
  if cc n tc p = 114 then (if nr < 6 ∧ 48 ≤ cc n tc (p + 1) ∧ cc n tc (p + 1) ≤ 49 then some (rdRoom I nr (dv n tc (p + 1)), nr + 1, nt, p + 2) else none)
  else if cc n tc p = 116 then (if thgOk I n tc nr nt (p + 1) = true then some (rdThg I n tc nt (p + 1), nr, nt + 1, trP n tc (p + 6)) else none)
  else if cc n tc p = 100 then (if wyOk I n tc nr nt (p + 1) = true then some (rdWy I n tc (p + 1), nr, nt, wyP n tc (p + 1)) else none)
  else none
/-- an item, with what ends it -/
def itm (I : Nat → Nat → Int32) (n : Nat) (tc : Nat → Nat) (nr nt p : Nat) : Option ((Nat → Nat → Int32) × Nat × Nat × Nat) :=
  match itB I n tc nr nt p with
  | none => none
  | some (I', nr', nt', p') => if cc n tc p' = 59 then some (I', nr', nt', p' + 1) else none
theorem TX_fr {I I' : Nat → Nat → Int32} {n : Nat} {tc : Nat → Nat} (f : frM I I') (h : TX I n tc) : TX I' n tc :=
  ⟨(f.2 13 (by decide) (by decide) (by decide) (by decide)).trans h.1, h.2.1, fun p hp => by rw [f.1 66 (by decide) (Or.inl (by decide))]; exact h.2.2 p hp⟩
theorem frM_room (I : Nat → Nat → Int32) (nr v : Nat) : frM I (rdRoom I nr v) := frM_56 (frM_up (frM_refl I) (by decide) (by decide)) (Or.inr (Or.inl rfl))
theorem frM_way (I : Nat → Nat → Int32) (n : Nat) (tc : Nat → Nat) (p : Nat) : frM I (rdWy I n tc p) := by
  unfold rdWy
  refine frM_up (frM_up ?_ (by decide) (by decide)) (by decide) (by decide)
  split
  · exact frM_56 (frM_refl I) (Or.inr (Or.inr (Or.inr rfl)))
  · exact frM_refl I
theorem trP_le (n : Nat) (tc : Nat → Nat) (p : Nat) : p ≤ trP n tc p ∧ trP n tc p ≤ p + 7 := by
  have := trQ_le n tc p
  unfold trP
  split <;> omega
/-- what holds of what is read so far -/
def rdI (I : Nat → Nat → Int32) (nr nt : Nat) : Prop := I 56 17 = nI nr ∧ nr ≤ 6 ∧ I 56 18 = nI nt ∧ nt ≤ 16
theorem itB_ok {I I' : Nat → Nat → Int32} {n : Nat} {tc : Nat → Nat} {nr nt p nr' nt' p' : Nat} (hI : rdI I nr nt) (h : itB I n tc nr nt p = some (I', nr', nt', p')) : rdI I' nr' nt' ∧ frM I I' ∧ p < p' ∧ p' ≤ p + 13 := by
  unfold itB at h
  split at h
  · split at h
    · rename_i c
      cases h
      exact ⟨⟨rfl, by omega, hI.2.2.1, hI.2.2.2⟩, frM_room I _ _, by omega, by omega⟩
    · cases h
  · split at h
    · split at h
      · rename_i c
        cases h
        have h16 : nt < 16 := by
          unfold thgOk at c
          simp only [Bool.and_eq_true, decide_eq_true_eq] at c
          exact c.1.1.1.1.1
        have := trP_le n tc (p + 6)
        exact ⟨⟨hI.1, hI.2.1, rfl, by omega⟩, frM_thg I _ _ _ _, by omega, by omega⟩
      · cases h
    · split at h
      · split at h
        · cases h
          have e : ∀ k, k ≠ 28 → rdWy I n tc (p + 1) 56 k = I 56 k := by
            intro k hk
            unfold rdWy
            rw [vu, if_neg (by decide), vu, if_neg (by decide)]
            split
            · rw [vu, if_pos rfl, ud, if_neg hk]
            · rfl
          refine ⟨⟨(e 17 (by decide)).trans hI.1, hI.2.1, (e 18 (by decide)).trans hI.2.2.1, hI.2.2.2⟩, frM_way I _ _ _, ?_⟩
          unfold wyP
          split <;> omega
        · cases h
      · cases h
theorem itm_ok {I I' : Nat → Nat → Int32} {n : Nat} {tc : Nat → Nat} {nr nt p nr' nt' p' : Nat} (hI : rdI I nr nt) (h : itm I n tc nr nt p = some (I', nr', nt', p')) : rdI I' nr' nt' ∧ frM I I' ∧ p < p' ∧ p' ≤ n := by
  unfold itm at h
  cases hb : itB I n tc nr nt p with
  | none => rw [hb] at h; cases h
  | some w =>
    obtain ⟨I2, a, b, q⟩ := w
    rw [hb] at h
    have hk := itB_ok hI hb
    simp only at h
    by_cases c : cc n tc q = 59
    · rw [if_pos c] at h
      cases h
      refine ⟨hk.1, hk.2.1, by omega, ?_⟩
      unfold cc at c
      split at c
      · omega
      · cases c
    · rw [if_neg c] at h
      cases h
section RL
variable {E : tm_Env} {Q : Option Int32 → tm_St → Prop} {I : Nat → Nat → Int32} {J : Nat → Nat → Int64} {R : Nat → Nat → Option Nat} {h d : Nat} {nr nt n p : Nat} {tc : Nat → Nat}
/-- the body of an item -/
theorem m_itB_1 (hR : tRef h d R) (hT : TX I n tc) (hp : p < n) (hI : rdI I nr nt) {I' : Nat → Nat → Int32} {nr' nt' p' : Nat} (hb : itB I n tc nr nt p = some (I', nr', nt', p')) {l1 l2 l3 : Value} : tEv E 60 50 [.ref 56, l1, l2, l3] [] (mS (hr I p) J R) Q = tEv E 60 127 [.ref 56, .int (nI p), .int (nI (tc p)), l3] [.int 1] (mS (hr I' p') J R) Q := by
  have hn := hT.2.1
  have htc := hT.2.2 p hp
  have ecc : cc n tc p = tc p := if_pos hp
  have hlt : (nI p < nI n) = True := eq_true (nI_lt (by omega) (by omega))
  have hix := inb_nI (j := p) (n := 240) (by omega) (by decide)
  have hcl := nI_cl (n := p) (by omega)
  have e1 : (nI (tc p) = 114) = (tc p = 114) := propext (nI_eq (b := 114) (by omega) (by omega))
  have e2 : (nI (tc p) = 116) = (tc p = 116) := propext (nI_eq (b := 116) (by omega) (by omega))
  have e3 : (nI (tc p) = 100) = (tc p = 100) := propext (nI_eq (b := 100) (by omega) (by omega))
  simp only [e_60_50, e_60_51, e_60_54, e_60_55, e_60_58, e_60_61, e_60_62, e_60_65, e_60_66, e_60_67, e_60_68, e_60_71, e_60_72, e_60_73, e_60_76, e_60_77, e_60_80, e_60_81, e_60_82, e_60_83, e_60_84, e_60_86, rf_56_0 hR, rf_56_4 hR, rf_56_5 hR, rf_56_6 hR, rf_56_7 hR, rf_56_8 hR, rf_56_9 hR, rf_56_10 hR, rf_56_11 hR, rf_56_12 hR, rf_56_14 hR, rf_56_15 hR, rf_56_19 hR, rf_56_20 hR, rf_56_21 hR, rf_56_22 hR, rf_56_23 hR, rf_56_24 hR, rf_56_25 hR, rf_56_26 hR, rf_56_27 hR, rf_56_29 hR, rf_56_32 hR, rf_56_33 hR, rf_56_34 hR, rf_56_37 hR, rf_56_38 hR, kn_56, kn_57, kn_58, kn_59, kn_60, kn_61, kn_62, kn_63, kn_64, kn_65, kn_66, kn_67, kn_68, kn_69, kn_70, kn_71, kn_72, kn_73, kn_74, kn_75, kn_76, kn_77, kn_78, kn_79, kn_80, kn_81, kn_82, kn_83, ln_57, ln_58, ln_59, ln_60, ln_61, ln_62, ln_63, ln_64, ln_65, ln_66, ln_67, ln_68, ln_69, ln_70, ln_71, ln_72, ln_73, ln_74, ln_75, ln_76, ln_77, ln_78, ln_79, ln_80, ln_81, ln_82, ln_83, va_rf_some, push_s, push_n, nb0, nb1, nbb, Nat.reduceLT, hr_c66, hr_c69, hr_c70, hr_c71, hr_c72, hr_c73, hr_c74, hr_c75, hr_c76, hr_c77, hr_u69, hr_u70, hr_u71, hr_u72, hr_u73, hr_u74, hr_u75, hr_u76, hr_u77, hr_k13, hr_k17, hr_k18, hr_k28, hr_s17, hr_s18, hr_s28, hr_16, hr_set, hT.1, hlt, if_true, hix, hcl, htc.1, e1, nI_1]
  unfold itB at hb
  rw [ecc] at hb
  by_cases c1 : tc p = 114
  · rw [if_pos c1] at hb ⊢
    split at hb
    · rename_i c
      cases hb
      simp only [e_60_89, e_60_90, e_60_93, rf_56_0 hR, rf_56_4 hR, rf_56_5 hR, rf_56_6 hR, rf_56_7 hR, rf_56_8 hR, rf_56_9 hR, rf_56_10 hR, rf_56_11 hR, rf_56_12 hR, rf_56_14 hR, rf_56_15 hR, rf_56_19 hR, rf_56_20 hR, rf_56_21 hR, rf_56_22 hR, rf_56_23 hR, rf_56_24 hR, rf_56_25 hR, rf_56_26 hR, rf_56_27 hR, rf_56_29 hR, rf_56_32 hR, rf_56_33 hR, rf_56_34 hR, rf_56_37 hR, rf_56_38 hR, kn_56, kn_57, kn_58, kn_59, kn_60, kn_61, kn_62, kn_63, kn_64, kn_65, kn_66, kn_67, kn_68, kn_69, kn_70, kn_71, kn_72, kn_73, kn_74, kn_75, kn_76, kn_77, kn_78, kn_79, kn_80, kn_81, kn_82, kn_83, ln_57, ln_58, ln_59, ln_60, ln_61, ln_62, ln_63, ln_64, ln_65, ln_66, ln_67, ln_68, ln_69, ln_70, ln_71, ln_72, ln_73, ln_74, ln_75, ln_76, ln_77, ln_78, ln_79, ln_80, ln_81, ln_82, ln_83, va_rf_some, push_s, push_n, nb0, nb1, nbb, Nat.reduceLT, m_readsRoom hR hT (show p + 1 < 1000 by omega) hI.1 hI.2.1]
      rw [if_pos c]
    · cases hb
  · rw [if_neg c1] at hb ⊢
    simp only [e_60_96, e_60_97, e_60_99, rf_56_0 hR, rf_56_4 hR, rf_56_5 hR, rf_56_6 hR, rf_56_7 hR, rf_56_8 hR, rf_56_9 hR, rf_56_10 hR, rf_56_11 hR, rf_56_12 hR, rf_56_14 hR, rf_56_15 hR, rf_56_19 hR, rf_56_20 hR, rf_56_21 hR, rf_56_22 hR, rf_56_23 hR, rf_56_24 hR, rf_56_25 hR, rf_56_26 hR, rf_56_27 hR, rf_56_29 hR, rf_56_32 hR, rf_56_33 hR, rf_56_34 hR, rf_56_37 hR, rf_56_38 hR, kn_56, kn_57, kn_58, kn_59, kn_60, kn_61, kn_62, kn_63, kn_64, kn_65, kn_66, kn_67, kn_68, kn_69, kn_70, kn_71, kn_72, kn_73, kn_74, kn_75, kn_76, kn_77, kn_78, kn_79, kn_80, kn_81, kn_82, kn_83, ln_57, ln_58, ln_59, ln_60, ln_61, ln_62, ln_63, ln_64, ln_65, ln_66, ln_67, ln_68, ln_69, ln_70, ln_71, ln_72, ln_73, ln_74, ln_75, ln_76, ln_77, ln_78, ln_79, ln_80, ln_81, ln_82, ln_83, va_rf_some, push_s, push_n, nb0, nb1, nbb, Nat.reduceLT, e2]
    by_cases c2 : tc p = 116
    · rw [if_pos c2] at hb ⊢
      split at hb
      · rename_i c
        cases hb
        simp only [e_60_102, e_60_103, e_60_106, rf_56_0 hR, rf_56_4 hR, rf_56_5 hR, rf_56_6 hR, rf_56_7 hR, rf_56_8 hR, rf_56_9 hR, rf_56_10 hR, rf_56_11 hR, rf_56_12 hR, rf_56_14 hR, rf_56_15 hR, rf_56_19 hR, rf_56_20 hR, rf_56_21 hR, rf_56_22 hR, rf_56_23 hR, rf_56_24 hR, rf_56_25 hR, rf_56_26 hR, rf_56_27 hR, rf_56_29 hR, rf_56_32 hR, rf_56_33 hR, rf_56_34 hR, rf_56_37 hR, rf_56_38 hR, kn_56, kn_57, kn_58, kn_59, kn_60, kn_61, kn_62, kn_63, kn_64, kn_65, kn_66, kn_67, kn_68, kn_69, kn_70, kn_71, kn_72, kn_73, kn_74, kn_75, kn_76, kn_77, kn_78, kn_79, kn_80, kn_81, kn_82, kn_83, ln_57, ln_58, ln_59, ln_60, ln_61, ln_62, ln_63, ln_64, ln_65, ln_66, ln_67, ln_68, ln_69, ln_70, ln_71, ln_72, ln_73, ln_74, ln_75, ln_76, ln_77, ln_78, ln_79, ln_80, ln_81, ln_82, ln_83, va_rf_some, push_s, push_n, nb0, nb1, nbb, Nat.reduceLT, m_readsThing_1 hR hT (show p + 1 < 700 by omega) hI.1 hI.2.1 hI.2.2.1 c]
      · cases hb
    · rw [if_neg c2] at hb ⊢
      simp only [e_60_109, e_60_110, e_60_112, rf_56_0 hR, rf_56_4 hR, rf_56_5 hR, rf_56_6 hR, rf_56_7 hR, rf_56_8 hR, rf_56_9 hR, rf_56_10 hR, rf_56_11 hR, rf_56_12 hR, rf_56_14 hR, rf_56_15 hR, rf_56_19 hR, rf_56_20 hR, rf_56_21 hR, rf_56_22 hR, rf_56_23 hR, rf_56_24 hR, rf_56_25 hR, rf_56_26 hR, rf_56_27 hR, rf_56_29 hR, rf_56_32 hR, rf_56_33 hR, rf_56_34 hR, rf_56_37 hR, rf_56_38 hR, kn_56, kn_57, kn_58, kn_59, kn_60, kn_61, kn_62, kn_63, kn_64, kn_65, kn_66, kn_67, kn_68, kn_69, kn_70, kn_71, kn_72, kn_73, kn_74, kn_75, kn_76, kn_77, kn_78, kn_79, kn_80, kn_81, kn_82, kn_83, ln_57, ln_58, ln_59, ln_60, ln_61, ln_62, ln_63, ln_64, ln_65, ln_66, ln_67, ln_68, ln_69, ln_70, ln_71, ln_72, ln_73, ln_74, ln_75, ln_76, ln_77, ln_78, ln_79, ln_80, ln_81, ln_82, ln_83, va_rf_some, push_s, push_n, nb0, nb1, nbb, Nat.reduceLT, e3]
      by_cases c3 : tc p = 100
      · rw [if_pos c3] at hb ⊢
        split at hb
        · rename_i c
          cases hb
          simp only [e_60_115, e_60_116, e_60_119, e_60_122, e_60_123, rf_56_0 hR, rf_56_4 hR, rf_56_5 hR, rf_56_6 hR, rf_56_7 hR, rf_56_8 hR, rf_56_9 hR, rf_56_10 hR, rf_56_11 hR, rf_56_12 hR, rf_56_14 hR, rf_56_15 hR, rf_56_19 hR, rf_56_20 hR, rf_56_21 hR, rf_56_22 hR, rf_56_23 hR, rf_56_24 hR, rf_56_25 hR, rf_56_26 hR, rf_56_27 hR, rf_56_29 hR, rf_56_32 hR, rf_56_33 hR, rf_56_34 hR, rf_56_37 hR, rf_56_38 hR, kn_56, kn_57, kn_58, kn_59, kn_60, kn_61, kn_62, kn_63, kn_64, kn_65, kn_66, kn_67, kn_68, kn_69, kn_70, kn_71, kn_72, kn_73, kn_74, kn_75, kn_76, kn_77, kn_78, kn_79, kn_80, kn_81, kn_82, kn_83, ln_57, ln_58, ln_59, ln_60, ln_61, ln_62, ln_63, ln_64, ln_65, ln_66, ln_67, ln_68, ln_69, ln_70, ln_71, ln_72, ln_73, ln_74, ln_75, ln_76, ln_77, ln_78, ln_79, ln_80, ln_81, ln_82, ln_83, va_rf_some, push_s, push_n, nb0, nb1, nbb, Nat.reduceLT, m_readsWay_1 hR hT (show p + 1 < 700 by omega) hI.1 hI.2.1 hI.2.2.1 hI.2.2.2 c, show ((1 : Int32) = 0) = False from eq_false (by decide), if_false]
        · cases hb
      · rw [if_neg c3] at hb
        cases hb
theorem m_itB_0 (hR : tRef h d R) (hT : TX I n tc) (hp : p < n) (hI : rdI I nr nt) (hb : itB I n tc nr nt p = none) {l1 l2 l3 : Value} : ∃ I', frM I I' ∧ ∀ Q, tEv E 60 50 [.ref 56, l1, l2, l3] [] (mS (hr I p) J R) Q = tEv E 60 127 [.ref 56, .int (nI p), .int (nI (tc p)), l3] [.int 0] (mS I' J R) Q := by
  have hn := hT.2.1
  have htc := hT.2.2 p hp
  have ecc : cc n tc p = tc p := if_pos hp
  have hlt : (nI p < nI n) = True := eq_true (nI_lt (by omega) (by omega))
  have hix := inb_nI (j := p) (n := 240) (by omega) (by decide)
  have hcl := nI_cl (n := p) (by omega)
  have e1 : (nI (tc p) = 114) = (tc p = 114) := propext (nI_eq (b := 114) (by omega) (by omega))
  have e2 : (nI (tc p) = 116) = (tc p = 116) := propext (nI_eq (b := 116) (by omega) (by omega))
  have e3 : (nI (tc p) = 100) = (tc p = 100) := propext (nI_eq (b := 100) (by omega) (by omega))
  unfold itB at hb
  rw [ecc] at hb
  by_cases c1 : tc p = 114
  · rw [if_pos c1] at hb
    split at hb
    · cases hb
    · rename_i c
      refine ⟨_, frM_hr (p := if 48 ≤ cc n tc (p + 1) ∧ cc n tc (p + 1) ≤ 49 then p + 1 + 1 else p + 1) (frM_refl I), fun Q => ?_⟩
      simp only [e_60_50, e_60_51, e_60_54, e_60_55, e_60_58, e_60_61, e_60_62, e_60_65, e_60_66, e_60_67, e_60_68, e_60_71, e_60_72, e_60_73, e_60_76, e_60_77, e_60_80, e_60_81, e_60_82, e_60_83, e_60_84, e_60_86, rf_56_0 hR, rf_56_4 hR, rf_56_5 hR, rf_56_6 hR, rf_56_7 hR, rf_56_8 hR, rf_56_9 hR, rf_56_10 hR, rf_56_11 hR, rf_56_12 hR, rf_56_14 hR, rf_56_15 hR, rf_56_19 hR, rf_56_20 hR, rf_56_21 hR, rf_56_22 hR, rf_56_23 hR, rf_56_24 hR, rf_56_25 hR, rf_56_26 hR, rf_56_27 hR, rf_56_29 hR, rf_56_32 hR, rf_56_33 hR, rf_56_34 hR, rf_56_37 hR, rf_56_38 hR, kn_56, kn_57, kn_58, kn_59, kn_60, kn_61, kn_62, kn_63, kn_64, kn_65, kn_66, kn_67, kn_68, kn_69, kn_70, kn_71, kn_72, kn_73, kn_74, kn_75, kn_76, kn_77, kn_78, kn_79, kn_80, kn_81, kn_82, kn_83, ln_57, ln_58, ln_59, ln_60, ln_61, ln_62, ln_63, ln_64, ln_65, ln_66, ln_67, ln_68, ln_69, ln_70, ln_71, ln_72, ln_73, ln_74, ln_75, ln_76, ln_77, ln_78, ln_79, ln_80, ln_81, ln_82, ln_83, va_rf_some, push_s, push_n, nb0, nb1, nbb, Nat.reduceLT, hr_c66, hr_c69, hr_c70, hr_c71, hr_c72, hr_c73, hr_c74, hr_c75, hr_c76, hr_c77, hr_u69, hr_u70, hr_u71, hr_u72, hr_u73, hr_u74, hr_u75, hr_u76, hr_u77, hr_k13, hr_k17, hr_k18, hr_k28, hr_s17, hr_s18, hr_s28, hr_16, hr_set, hT.1, hlt, if_true, hix, hcl, htc.1, e1, nI_1]
      rw [if_pos c1]
      simp only [e_60_89, e_60_90, e_60_93, rf_56_0 hR, rf_56_4 hR, rf_56_5 hR, rf_56_6 hR, rf_56_7 hR, rf_56_8 hR, rf_56_9 hR, rf_56_10 hR, rf_56_11 hR, rf_56_12 hR, rf_56_14 hR, rf_56_15 hR, rf_56_19 hR, rf_56_20 hR, rf_56_21 hR, rf_56_22 hR, rf_56_23 hR, rf_56_24 hR, rf_56_25 hR, rf_56_26 hR, rf_56_27 hR, rf_56_29 hR, rf_56_32 hR, rf_56_33 hR, rf_56_34 hR, rf_56_37 hR, rf_56_38 hR, kn_56, kn_57, kn_58, kn_59, kn_60, kn_61, kn_62, kn_63, kn_64, kn_65, kn_66, kn_67, kn_68, kn_69, kn_70, kn_71, kn_72, kn_73, kn_74, kn_75, kn_76, kn_77, kn_78, kn_79, kn_80, kn_81, kn_82, kn_83, ln_57, ln_58, ln_59, ln_60, ln_61, ln_62, ln_63, ln_64, ln_65, ln_66, ln_67, ln_68, ln_69, ln_70, ln_71, ln_72, ln_73, ln_74, ln_75, ln_76, ln_77, ln_78, ln_79, ln_80, ln_81, ln_82, ln_83, va_rf_some, push_s, push_n, nb0, nb1, nbb, Nat.reduceLT, m_readsRoom hR hT (show p + 1 < 1000 by omega) hI.1 hI.2.1]
      rw [if_neg c]
  · rw [if_neg c1] at hb
    by_cases c2 : tc p = 116
    · rw [if_pos c2] at hb
      split at hb
      · cases hb
      · rename_i c
        obtain ⟨I', hf, hq⟩ := m_readsThing_0 (E := E) (J := J) hR hT (show p + 1 < 700 by omega) hI.1 hI.2.1 hI.2.2.1 hI.2.2.2 (by simpa using c)
        refine ⟨I', hf, fun Q => ?_⟩
        simp only [e_60_50, e_60_51, e_60_54, e_60_55, e_60_58, e_60_61, e_60_62, e_60_65, e_60_66, e_60_67, e_60_68, e_60_71, e_60_72, e_60_73, e_60_76, e_60_77, e_60_80, e_60_81, e_60_82, e_60_83, e_60_84, e_60_86, rf_56_0 hR, rf_56_4 hR, rf_56_5 hR, rf_56_6 hR, rf_56_7 hR, rf_56_8 hR, rf_56_9 hR, rf_56_10 hR, rf_56_11 hR, rf_56_12 hR, rf_56_14 hR, rf_56_15 hR, rf_56_19 hR, rf_56_20 hR, rf_56_21 hR, rf_56_22 hR, rf_56_23 hR, rf_56_24 hR, rf_56_25 hR, rf_56_26 hR, rf_56_27 hR, rf_56_29 hR, rf_56_32 hR, rf_56_33 hR, rf_56_34 hR, rf_56_37 hR, rf_56_38 hR, kn_56, kn_57, kn_58, kn_59, kn_60, kn_61, kn_62, kn_63, kn_64, kn_65, kn_66, kn_67, kn_68, kn_69, kn_70, kn_71, kn_72, kn_73, kn_74, kn_75, kn_76, kn_77, kn_78, kn_79, kn_80, kn_81, kn_82, kn_83, ln_57, ln_58, ln_59, ln_60, ln_61, ln_62, ln_63, ln_64, ln_65, ln_66, ln_67, ln_68, ln_69, ln_70, ln_71, ln_72, ln_73, ln_74, ln_75, ln_76, ln_77, ln_78, ln_79, ln_80, ln_81, ln_82, ln_83, va_rf_some, push_s, push_n, nb0, nb1, nbb, Nat.reduceLT, hr_c66, hr_c69, hr_c70, hr_c71, hr_c72, hr_c73, hr_c74, hr_c75, hr_c76, hr_c77, hr_u69, hr_u70, hr_u71, hr_u72, hr_u73, hr_u74, hr_u75, hr_u76, hr_u77, hr_k13, hr_k17, hr_k18, hr_k28, hr_s17, hr_s18, hr_s28, hr_16, hr_set, hT.1, hlt, if_true, hix, hcl, htc.1, e1, nI_1]
        rw [if_neg c1]
        simp only [e_60_96, e_60_97, e_60_99, rf_56_0 hR, rf_56_4 hR, rf_56_5 hR, rf_56_6 hR, rf_56_7 hR, rf_56_8 hR, rf_56_9 hR, rf_56_10 hR, rf_56_11 hR, rf_56_12 hR, rf_56_14 hR, rf_56_15 hR, rf_56_19 hR, rf_56_20 hR, rf_56_21 hR, rf_56_22 hR, rf_56_23 hR, rf_56_24 hR, rf_56_25 hR, rf_56_26 hR, rf_56_27 hR, rf_56_29 hR, rf_56_32 hR, rf_56_33 hR, rf_56_34 hR, rf_56_37 hR, rf_56_38 hR, kn_56, kn_57, kn_58, kn_59, kn_60, kn_61, kn_62, kn_63, kn_64, kn_65, kn_66, kn_67, kn_68, kn_69, kn_70, kn_71, kn_72, kn_73, kn_74, kn_75, kn_76, kn_77, kn_78, kn_79, kn_80, kn_81, kn_82, kn_83, ln_57, ln_58, ln_59, ln_60, ln_61, ln_62, ln_63, ln_64, ln_65, ln_66, ln_67, ln_68, ln_69, ln_70, ln_71, ln_72, ln_73, ln_74, ln_75, ln_76, ln_77, ln_78, ln_79, ln_80, ln_81, ln_82, ln_83, va_rf_some, push_s, push_n, nb0, nb1, nbb, Nat.reduceLT, e2]
        rw [if_pos c2]
        simp only [e_60_102, e_60_103, e_60_106, rf_56_0 hR, rf_56_4 hR, rf_56_5 hR, rf_56_6 hR, rf_56_7 hR, rf_56_8 hR, rf_56_9 hR, rf_56_10 hR, rf_56_11 hR, rf_56_12 hR, rf_56_14 hR, rf_56_15 hR, rf_56_19 hR, rf_56_20 hR, rf_56_21 hR, rf_56_22 hR, rf_56_23 hR, rf_56_24 hR, rf_56_25 hR, rf_56_26 hR, rf_56_27 hR, rf_56_29 hR, rf_56_32 hR, rf_56_33 hR, rf_56_34 hR, rf_56_37 hR, rf_56_38 hR, kn_56, kn_57, kn_58, kn_59, kn_60, kn_61, kn_62, kn_63, kn_64, kn_65, kn_66, kn_67, kn_68, kn_69, kn_70, kn_71, kn_72, kn_73, kn_74, kn_75, kn_76, kn_77, kn_78, kn_79, kn_80, kn_81, kn_82, kn_83, ln_57, ln_58, ln_59, ln_60, ln_61, ln_62, ln_63, ln_64, ln_65, ln_66, ln_67, ln_68, ln_69, ln_70, ln_71, ln_72, ln_73, ln_74, ln_75, ln_76, ln_77, ln_78, ln_79, ln_80, ln_81, ln_82, ln_83, va_rf_some, push_s, push_n, nb0, nb1, nbb, Nat.reduceLT, hq]
    · rw [if_neg c2] at hb
      by_cases c3 : tc p = 100
      · rw [if_pos c3] at hb
        split at hb
        · cases hb
        · rename_i c
          obtain ⟨q, hq⟩ := m_readsWay_0 (E := E) (J := J) hR hT (show p + 1 < 700 by omega) hI.1 hI.2.1 hI.2.2.1 hI.2.2.2 (by simpa using c)
          refine ⟨hr I q, frM_hr (frM_refl I), fun Q => ?_⟩
          simp only [e_60_50, e_60_51, e_60_54, e_60_55, e_60_58, e_60_61, e_60_62, e_60_65, e_60_66, e_60_67, e_60_68, e_60_71, e_60_72, e_60_73, e_60_76, e_60_77, e_60_80, e_60_81, e_60_82, e_60_83, e_60_84, e_60_86, rf_56_0 hR, rf_56_4 hR, rf_56_5 hR, rf_56_6 hR, rf_56_7 hR, rf_56_8 hR, rf_56_9 hR, rf_56_10 hR, rf_56_11 hR, rf_56_12 hR, rf_56_14 hR, rf_56_15 hR, rf_56_19 hR, rf_56_20 hR, rf_56_21 hR, rf_56_22 hR, rf_56_23 hR, rf_56_24 hR, rf_56_25 hR, rf_56_26 hR, rf_56_27 hR, rf_56_29 hR, rf_56_32 hR, rf_56_33 hR, rf_56_34 hR, rf_56_37 hR, rf_56_38 hR, kn_56, kn_57, kn_58, kn_59, kn_60, kn_61, kn_62, kn_63, kn_64, kn_65, kn_66, kn_67, kn_68, kn_69, kn_70, kn_71, kn_72, kn_73, kn_74, kn_75, kn_76, kn_77, kn_78, kn_79, kn_80, kn_81, kn_82, kn_83, ln_57, ln_58, ln_59, ln_60, ln_61, ln_62, ln_63, ln_64, ln_65, ln_66, ln_67, ln_68, ln_69, ln_70, ln_71, ln_72, ln_73, ln_74, ln_75, ln_76, ln_77, ln_78, ln_79, ln_80, ln_81, ln_82, ln_83, va_rf_some, push_s, push_n, nb0, nb1, nbb, Nat.reduceLT, hr_c66, hr_c69, hr_c70, hr_c71, hr_c72, hr_c73, hr_c74, hr_c75, hr_c76, hr_c77, hr_u69, hr_u70, hr_u71, hr_u72, hr_u73, hr_u74, hr_u75, hr_u76, hr_u77, hr_k13, hr_k17, hr_k18, hr_k28, hr_s17, hr_s18, hr_s28, hr_16, hr_set, hT.1, hlt, if_true, hix, hcl, htc.1, e1, nI_1]
          rw [if_neg c1]
          simp only [e_60_96, e_60_97, e_60_99, rf_56_0 hR, rf_56_4 hR, rf_56_5 hR, rf_56_6 hR, rf_56_7 hR, rf_56_8 hR, rf_56_9 hR, rf_56_10 hR, rf_56_11 hR, rf_56_12 hR, rf_56_14 hR, rf_56_15 hR, rf_56_19 hR, rf_56_20 hR, rf_56_21 hR, rf_56_22 hR, rf_56_23 hR, rf_56_24 hR, rf_56_25 hR, rf_56_26 hR, rf_56_27 hR, rf_56_29 hR, rf_56_32 hR, rf_56_33 hR, rf_56_34 hR, rf_56_37 hR, rf_56_38 hR, kn_56, kn_57, kn_58, kn_59, kn_60, kn_61, kn_62, kn_63, kn_64, kn_65, kn_66, kn_67, kn_68, kn_69, kn_70, kn_71, kn_72, kn_73, kn_74, kn_75, kn_76, kn_77, kn_78, kn_79, kn_80, kn_81, kn_82, kn_83, ln_57, ln_58, ln_59, ln_60, ln_61, ln_62, ln_63, ln_64, ln_65, ln_66, ln_67, ln_68, ln_69, ln_70, ln_71, ln_72, ln_73, ln_74, ln_75, ln_76, ln_77, ln_78, ln_79, ln_80, ln_81, ln_82, ln_83, va_rf_some, push_s, push_n, nb0, nb1, nbb, Nat.reduceLT, e2]
          rw [if_neg c2]
          simp only [e_60_109, e_60_110, e_60_112, rf_56_0 hR, rf_56_4 hR, rf_56_5 hR, rf_56_6 hR, rf_56_7 hR, rf_56_8 hR, rf_56_9 hR, rf_56_10 hR, rf_56_11 hR, rf_56_12 hR, rf_56_14 hR, rf_56_15 hR, rf_56_19 hR, rf_56_20 hR, rf_56_21 hR, rf_56_22 hR, rf_56_23 hR, rf_56_24 hR, rf_56_25 hR, rf_56_26 hR, rf_56_27 hR, rf_56_29 hR, rf_56_32 hR, rf_56_33 hR, rf_56_34 hR, rf_56_37 hR, rf_56_38 hR, kn_56, kn_57, kn_58, kn_59, kn_60, kn_61, kn_62, kn_63, kn_64, kn_65, kn_66, kn_67, kn_68, kn_69, kn_70, kn_71, kn_72, kn_73, kn_74, kn_75, kn_76, kn_77, kn_78, kn_79, kn_80, kn_81, kn_82, kn_83, ln_57, ln_58, ln_59, ln_60, ln_61, ln_62, ln_63, ln_64, ln_65, ln_66, ln_67, ln_68, ln_69, ln_70, ln_71, ln_72, ln_73, ln_74, ln_75, ln_76, ln_77, ln_78, ln_79, ln_80, ln_81, ln_82, ln_83, va_rf_some, push_s, push_n, nb0, nb1, nbb, Nat.reduceLT, e3]
          rw [if_pos c3]
          simp only [e_60_115, e_60_116, e_60_119, e_60_122, e_60_123, e_60_126, rf_56_0 hR, rf_56_4 hR, rf_56_5 hR, rf_56_6 hR, rf_56_7 hR, rf_56_8 hR, rf_56_9 hR, rf_56_10 hR, rf_56_11 hR, rf_56_12 hR, rf_56_14 hR, rf_56_15 hR, rf_56_19 hR, rf_56_20 hR, rf_56_21 hR, rf_56_22 hR, rf_56_23 hR, rf_56_24 hR, rf_56_25 hR, rf_56_26 hR, rf_56_27 hR, rf_56_29 hR, rf_56_32 hR, rf_56_33 hR, rf_56_34 hR, rf_56_37 hR, rf_56_38 hR, kn_56, kn_57, kn_58, kn_59, kn_60, kn_61, kn_62, kn_63, kn_64, kn_65, kn_66, kn_67, kn_68, kn_69, kn_70, kn_71, kn_72, kn_73, kn_74, kn_75, kn_76, kn_77, kn_78, kn_79, kn_80, kn_81, kn_82, kn_83, ln_57, ln_58, ln_59, ln_60, ln_61, ln_62, ln_63, ln_64, ln_65, ln_66, ln_67, ln_68, ln_69, ln_70, ln_71, ln_72, ln_73, ln_74, ln_75, ln_76, ln_77, ln_78, ln_79, ln_80, ln_81, ln_82, ln_83, va_rf_some, push_s, push_n, nb0, nb1, nbb, Nat.reduceLT, hq, if_true]
      · refine ⟨hr I (p + 1), frM_hr (frM_refl I), fun Q => ?_⟩
        simp only [e_60_50, e_60_51, e_60_54, e_60_55, e_60_58, e_60_61, e_60_62, e_60_65, e_60_66, e_60_67, e_60_68, e_60_71, e_60_72, e_60_73, e_60_76, e_60_77, e_60_80, e_60_81, e_60_82, e_60_83, e_60_84, e_60_86, rf_56_0 hR, rf_56_4 hR, rf_56_5 hR, rf_56_6 hR, rf_56_7 hR, rf_56_8 hR, rf_56_9 hR, rf_56_10 hR, rf_56_11 hR, rf_56_12 hR, rf_56_14 hR, rf_56_15 hR, rf_56_19 hR, rf_56_20 hR, rf_56_21 hR, rf_56_22 hR, rf_56_23 hR, rf_56_24 hR, rf_56_25 hR, rf_56_26 hR, rf_56_27 hR, rf_56_29 hR, rf_56_32 hR, rf_56_33 hR, rf_56_34 hR, rf_56_37 hR, rf_56_38 hR, kn_56, kn_57, kn_58, kn_59, kn_60, kn_61, kn_62, kn_63, kn_64, kn_65, kn_66, kn_67, kn_68, kn_69, kn_70, kn_71, kn_72, kn_73, kn_74, kn_75, kn_76, kn_77, kn_78, kn_79, kn_80, kn_81, kn_82, kn_83, ln_57, ln_58, ln_59, ln_60, ln_61, ln_62, ln_63, ln_64, ln_65, ln_66, ln_67, ln_68, ln_69, ln_70, ln_71, ln_72, ln_73, ln_74, ln_75, ln_76, ln_77, ln_78, ln_79, ln_80, ln_81, ln_82, ln_83, va_rf_some, push_s, push_n, nb0, nb1, nbb, Nat.reduceLT, hr_c66, hr_c69, hr_c70, hr_c71, hr_c72, hr_c73, hr_c74, hr_c75, hr_c76, hr_c77, hr_u69, hr_u70, hr_u71, hr_u72, hr_u73, hr_u74, hr_u75, hr_u76, hr_u77, hr_k13, hr_k17, hr_k18, hr_k28, hr_s17, hr_s18, hr_s28, hr_16, hr_set, hT.1, hlt, if_true, hix, hcl, htc.1, e1, nI_1]
        rw [if_neg c1]
        simp only [e_60_96, e_60_97, e_60_99, rf_56_0 hR, rf_56_4 hR, rf_56_5 hR, rf_56_6 hR, rf_56_7 hR, rf_56_8 hR, rf_56_9 hR, rf_56_10 hR, rf_56_11 hR, rf_56_12 hR, rf_56_14 hR, rf_56_15 hR, rf_56_19 hR, rf_56_20 hR, rf_56_21 hR, rf_56_22 hR, rf_56_23 hR, rf_56_24 hR, rf_56_25 hR, rf_56_26 hR, rf_56_27 hR, rf_56_29 hR, rf_56_32 hR, rf_56_33 hR, rf_56_34 hR, rf_56_37 hR, rf_56_38 hR, kn_56, kn_57, kn_58, kn_59, kn_60, kn_61, kn_62, kn_63, kn_64, kn_65, kn_66, kn_67, kn_68, kn_69, kn_70, kn_71, kn_72, kn_73, kn_74, kn_75, kn_76, kn_77, kn_78, kn_79, kn_80, kn_81, kn_82, kn_83, ln_57, ln_58, ln_59, ln_60, ln_61, ln_62, ln_63, ln_64, ln_65, ln_66, ln_67, ln_68, ln_69, ln_70, ln_71, ln_72, ln_73, ln_74, ln_75, ln_76, ln_77, ln_78, ln_79, ln_80, ln_81, ln_82, ln_83, va_rf_some, push_s, push_n, nb0, nb1, nbb, Nat.reduceLT, e2]
        rw [if_neg c2]
        simp only [e_60_109, e_60_110, e_60_112, rf_56_0 hR, rf_56_4 hR, rf_56_5 hR, rf_56_6 hR, rf_56_7 hR, rf_56_8 hR, rf_56_9 hR, rf_56_10 hR, rf_56_11 hR, rf_56_12 hR, rf_56_14 hR, rf_56_15 hR, rf_56_19 hR, rf_56_20 hR, rf_56_21 hR, rf_56_22 hR, rf_56_23 hR, rf_56_24 hR, rf_56_25 hR, rf_56_26 hR, rf_56_27 hR, rf_56_29 hR, rf_56_32 hR, rf_56_33 hR, rf_56_34 hR, rf_56_37 hR, rf_56_38 hR, kn_56, kn_57, kn_58, kn_59, kn_60, kn_61, kn_62, kn_63, kn_64, kn_65, kn_66, kn_67, kn_68, kn_69, kn_70, kn_71, kn_72, kn_73, kn_74, kn_75, kn_76, kn_77, kn_78, kn_79, kn_80, kn_81, kn_82, kn_83, ln_57, ln_58, ln_59, ln_60, ln_61, ln_62, ln_63, ln_64, ln_65, ln_66, ln_67, ln_68, ln_69, ln_70, ln_71, ln_72, ln_73, ln_74, ln_75, ln_76, ln_77, ln_78, ln_79, ln_80, ln_81, ln_82, ln_83, va_rf_some, push_s, push_n, nb0, nb1, nbb, Nat.reduceLT, e3]
        rw [if_neg c3]
        simp only [e_60_126, rf_56_0 hR, rf_56_4 hR, rf_56_5 hR, rf_56_6 hR, rf_56_7 hR, rf_56_8 hR, rf_56_9 hR, rf_56_10 hR, rf_56_11 hR, rf_56_12 hR, rf_56_14 hR, rf_56_15 hR, rf_56_19 hR, rf_56_20 hR, rf_56_21 hR, rf_56_22 hR, rf_56_23 hR, rf_56_24 hR, rf_56_25 hR, rf_56_26 hR, rf_56_27 hR, rf_56_29 hR, rf_56_32 hR, rf_56_33 hR, rf_56_34 hR, rf_56_37 hR, rf_56_38 hR, kn_56, kn_57, kn_58, kn_59, kn_60, kn_61, kn_62, kn_63, kn_64, kn_65, kn_66, kn_67, kn_68, kn_69, kn_70, kn_71, kn_72, kn_73, kn_74, kn_75, kn_76, kn_77, kn_78, kn_79, kn_80, kn_81, kn_82, kn_83, ln_57, ln_58, ln_59, ln_60, ln_61, ln_62, ln_63, ln_64, ln_65, ln_66, ln_67, ln_68, ln_69, ln_70, ln_71, ln_72, ln_73, ln_74, ln_75, ln_76, ln_77, ln_78, ln_79, ln_80, ln_81, ln_82, ln_83, va_rf_some, push_s, push_n, nb0, nb1, nbb, Nat.reduceLT]
/-- one item -/
theorem m_itm_1 (hR : tRef h d R) (hT : TX I n tc) (hp : p < n) (hI : rdI I nr nt) {I' : Nat → Nat → Int32} {nr' nt' p' : Nat} (hb : itm I n tc nr nt p = some (I', nr', nt', p')) {l1 l2 l3 : Value} : tEv E 60 50 [.ref 56, l1, l2, l3] [] (mS (hr I p) J R) Q = tEv E 60 50 [.ref 56, .int (nI p), .int (nI (tc p)), .int 1] [] (mS (hr I' p') J R) Q := by
  have hn := hT.2.1
  unfold itm at hb
  cases hc : itB I n tc nr nt p with
  | none => rw [hc] at hb; cases hb
  | some w =>
    obtain ⟨I2, a, b, q⟩ := w
    rw [hc] at hb
    have hk := itB_ok hI hc
    simp only at hb
    by_cases c : cc n tc q = 59
    · rw [if_pos c] at hb
      cases hb
      rw [m_itB_1 hR hT hp hI hc]
      have a := fun {Q} => m_isNext (E := E) (Q := Q) (J := J) hR (TX_fr hk.2.1 hT) (show q < 1000 by omega) (x := 59) (by decide) (by decide)
      rw [show nI 59 = 59 from rfl] at a
      have ho : op n tc 59 q = q + 1 := if_pos c
      simp only [e_60_127, e_60_128, e_60_129, e_60_132, e_60_133, e_60_135, e_60_138, e_60_141, e_60_142, e_60_143, rf_56_0 hR, rf_56_4 hR, rf_56_5 hR, rf_56_6 hR, rf_56_7 hR, rf_56_8 hR, rf_56_9 hR, rf_56_10 hR, rf_56_11 hR, rf_56_12 hR, rf_56_14 hR, rf_56_15 hR, rf_56_19 hR, rf_56_20 hR, rf_56_21 hR, rf_56_22 hR, rf_56_23 hR, rf_56_24 hR, rf_56_25 hR, rf_56_26 hR, rf_56_27 hR, rf_56_29 hR, rf_56_32 hR, rf_56_33 hR, rf_56_34 hR, rf_56_37 hR, rf_56_38 hR, kn_56, kn_57, kn_58, kn_59, kn_60, kn_61, kn_62, kn_63, kn_64, kn_65, kn_66, kn_67, kn_68, kn_69, kn_70, kn_71, kn_72, kn_73, kn_74, kn_75, kn_76, kn_77, kn_78, kn_79, kn_80, kn_81, kn_82, kn_83, ln_57, ln_58, ln_59, ln_60, ln_61, ln_62, ln_63, ln_64, ln_65, ln_66, ln_67, ln_68, ln_69, ln_70, ln_71, ln_72, ln_73, ln_74, ln_75, ln_76, ln_77, ln_78, ln_79, ln_80, ln_81, ln_82, ln_83, va_rf_some, push_s, push_n, nb0, nb1, nbb, Nat.reduceLT, show ((1 : Int32) = 0) = False from eq_false (by decide), if_false, a, c, decide_true, b2i_0, Bool.true_eq_false, ho]
    · rw [if_neg c] at hb
      cases hb
theorem m_itm_0 (hR : tRef h d R) (hT : TX I n tc) (hp : p < n) (hI : rdI I nr nt) (hb : itm I n tc nr nt p = none) {l1 l2 l3 : Value} : ∃ I', frM I I' ∧ ∀ Q, tEv E 60 50 [.ref 56, l1, l2, l3] [] (mS (hr I p) J R) Q = Q (some (nI p)) (mS I' J R) := by
  have hn := hT.2.1
  unfold itm at hb
  cases hc : itB I n tc nr nt p with
  | none =>
    obtain ⟨I', hf, hq⟩ := m_itB_0 (E := E) (J := J) (l1 := l1) (l2 := l2) (l3 := l3) hR hT hp hI hc
    refine ⟨I', hf, fun Q => ?_⟩
    rw [hq]
    simp only [e_60_127, e_60_128, e_60_129, e_60_132, e_60_133, e_60_135, e_60_138, e_60_141, e_60_142, rf_56_0 hR, rf_56_4 hR, rf_56_5 hR, rf_56_6 hR, rf_56_7 hR, rf_56_8 hR, rf_56_9 hR, rf_56_10 hR, rf_56_11 hR, rf_56_12 hR, rf_56_14 hR, rf_56_15 hR, rf_56_19 hR, rf_56_20 hR, rf_56_21 hR, rf_56_22 hR, rf_56_23 hR, rf_56_24 hR, rf_56_25 hR, rf_56_26 hR, rf_56_27 hR, rf_56_29 hR, rf_56_32 hR, rf_56_33 hR, rf_56_34 hR, rf_56_37 hR, rf_56_38 hR, kn_56, kn_57, kn_58, kn_59, kn_60, kn_61, kn_62, kn_63, kn_64, kn_65, kn_66, kn_67, kn_68, kn_69, kn_70, kn_71, kn_72, kn_73, kn_74, kn_75, kn_76, kn_77, kn_78, kn_79, kn_80, kn_81, kn_82, kn_83, ln_57, ln_58, ln_59, ln_60, ln_61, ln_62, ln_63, ln_64, ln_65, ln_66, ln_67, ln_68, ln_69, ln_70, ln_71, ln_72, ln_73, ln_74, ln_75, ln_76, ln_77, ln_78, ln_79, ln_80, ln_81, ln_82, ln_83, va_rf_some, push_s, push_n, nb0, nb1, nbb, Nat.reduceLT, if_true]
  | some w =>
    obtain ⟨I2, a, b, q⟩ := w
    rw [hc] at hb
    have hk := itB_ok hI hc
    simp only at hb
    by_cases c : cc n tc q = 59
    · rw [if_pos c] at hb
      cases hb
    · have a := fun {Q} => m_isNext (E := E) (Q := Q) (J := J) hR (TX_fr hk.2.1 hT) (show q < 1000 by omega) (x := 59) (by decide) (by decide)
      rw [show nI 59 = 59 from rfl] at a
      have ho : op n tc 59 q = q := if_neg c
      refine ⟨hr I2 q, frM_hr hk.2.1, fun Q => ?_⟩
      rw [m_itB_1 hR hT hp hI hc]
      simp only [e_60_127, e_60_128, e_60_129, e_60_132, e_60_133, e_60_135, e_60_138, e_60_141, e_60_142, rf_56_0 hR, rf_56_4 hR, rf_56_5 hR, rf_56_6 hR, rf_56_7 hR, rf_56_8 hR, rf_56_9 hR, rf_56_10 hR, rf_56_11 hR, rf_56_12 hR, rf_56_14 hR, rf_56_15 hR, rf_56_19 hR, rf_56_20 hR, rf_56_21 hR, rf_56_22 hR, rf_56_23 hR, rf_56_24 hR, rf_56_25 hR, rf_56_26 hR, rf_56_27 hR, rf_56_29 hR, rf_56_32 hR, rf_56_33 hR, rf_56_34 hR, rf_56_37 hR, rf_56_38 hR, kn_56, kn_57, kn_58, kn_59, kn_60, kn_61, kn_62, kn_63, kn_64, kn_65, kn_66, kn_67, kn_68, kn_69, kn_70, kn_71, kn_72, kn_73, kn_74, kn_75, kn_76, kn_77, kn_78, kn_79, kn_80, kn_81, kn_82, kn_83, ln_57, ln_58, ln_59, ln_60, ln_61, ln_62, ln_63, ln_64, ln_65, ln_66, ln_67, ln_68, ln_69, ln_70, ln_71, ln_72, ln_73, ln_74, ln_75, ln_76, ln_77, ln_78, ln_79, ln_80, ln_81, ln_82, ln_83, va_rf_some, push_s, push_n, nb0, nb1, nbb, Nat.reduceLT, show ((1 : Int32) = 0) = False from eq_false (by decide), if_false, a, c, decide_false, b2i_0, if_true, ho]
end RL
/-- all items: where the first is that is not so, or what is read -/
def rds (n : Nat) (tc : Nat → Nat) : Nat → (Nat → Nat → Int32) → Nat → Nat → Nat → Option Nat × (Nat → Nat → Int32) × Nat × Nat
  | 0, I, nr, nt, _ => (none, I, nr, nt)
  | f + 1, I, nr, nt, p => if p < n then (match itm I n tc nr nt p with
    | none => (some p, I, nr, nt)
    | some (I', nr', nt', p') => rds n tc f I' nr' nt' p') else (none, I, nr, nt)
/-- how it begins -/
def rd0 (I : Nat → Nat → Int32) : Nat → Nat → Int32 := va_up (va_up (va_up I 56 (upd (upd (upd (I 56) 17 0) 18 0) 28 0)) 76 (fun k => if k < 24 then -4 else I 76 k)) 77 (fun k => if k < 24 then -4 else I 77 k)
theorem frM_rd0 (I : Nat → Nat → Int32) : frM I (rd0 I) := by
  refine frM_up (frM_up ?_ (by decide) (by decide)) (by decide) (by decide)
  have a := frM_56 (frM_refl I) (k := 17) (v := 0) (by decide)
  have b := frM_56 a (k := 18) (v := 0) (by decide)
  have c := frM_56 b (k := 28) (v := 0) (by decide)
  simp only [vu_vu, vu_eq] at c
  exact c
section RL2
variable {E : tm_Env} {Q : Option Int32 → tm_St → Prop} {I : Nat → Nat → Int32} {J : Nat → Nat → Int64} {R : Nat → Nat → Option Nat} {h d : Nat} {nr nt n p : Nat} {tc : Nat → Nat}
theorem m_rds_1 (hR : tRef h d R) : ∀ f (I : Nat → Nat → Int32) nr nt p, n < p + f → p ≤ n → TX I n tc → rdI I nr nt → ∀ I' nr' nt', rds n tc f I nr nt p = (none, I', nr', nt') → (rdI I' nr' nt' ∧ frM I I') ∧ ∀ l1 l2 l3 Q, tEv E 60 50 [.ref 56, l1, l2, l3] [] (mS (hr I p) J R) Q = Q (some (-4)) (mS (hr I' n) J R)
  | 0, I, nr, nt, p, hf, hp, hT, hI, I', nr', nt', he => by omega
  | f + 1, I, nr, nt, p, hf, hp, hT, hI, I', nr', nt', he => by
    rw [rds] at he
    by_cases c : p < n
    · rw [if_pos c] at he
      cases hi : itm I n tc nr nt p with
      | none => rw [hi] at he; cases he
      | some w =>
        obtain ⟨I2, a, b, q⟩ := w
        rw [hi] at he
        simp only at he
        have hk := itm_ok hI hi
        have ih := m_rds_1 hR f I2 a b q (by omega) hk.2.2.2 (TX_fr hk.2.1 hT) hk.1 I' nr' nt' he
        refine ⟨⟨ih.1.1, frM_trans hk.2.1 ih.1.2⟩, fun l1 l2 l3 Q => ?_⟩
        rw [m_itm_1 hR hT c hI hi]
        exact ih.2 _ _ _ Q
    · rw [if_neg c] at he
      cases he
      obtain rfl : p = n := by omega
      have hn := hT.2.1
      have hlt : (nI p < nI p) = False := eq_false Int32.lt_irrefl
      refine ⟨⟨hI, frM_refl I⟩, fun l1 l2 l3 Q => ?_⟩
      simp only [e_60_50, e_60_51, e_60_54, e_60_55, e_60_58, e_60_146, e_60_148, rf_56_0 hR, rf_56_4 hR, rf_56_5 hR, rf_56_6 hR, rf_56_7 hR, rf_56_8 hR, rf_56_9 hR, rf_56_10 hR, rf_56_11 hR, rf_56_12 hR, rf_56_14 hR, rf_56_15 hR, rf_56_19 hR, rf_56_20 hR, rf_56_21 hR, rf_56_22 hR, rf_56_23 hR, rf_56_24 hR, rf_56_25 hR, rf_56_26 hR, rf_56_27 hR, rf_56_29 hR, rf_56_32 hR, rf_56_33 hR, rf_56_34 hR, rf_56_37 hR, rf_56_38 hR, kn_56, kn_57, kn_58, kn_59, kn_60, kn_61, kn_62, kn_63, kn_64, kn_65, kn_66, kn_67, kn_68, kn_69, kn_70, kn_71, kn_72, kn_73, kn_74, kn_75, kn_76, kn_77, kn_78, kn_79, kn_80, kn_81, kn_82, kn_83, ln_57, ln_58, ln_59, ln_60, ln_61, ln_62, ln_63, ln_64, ln_65, ln_66, ln_67, ln_68, ln_69, ln_70, ln_71, ln_72, ln_73, ln_74, ln_75, ln_76, ln_77, ln_78, ln_79, ln_80, ln_81, ln_82, ln_83, va_rf_some, push_s, push_n, nb0, nb1, nbb, Nat.reduceLT, hr_c66, hr_c69, hr_c70, hr_c71, hr_c72, hr_c73, hr_c74, hr_c75, hr_c76, hr_c77, hr_u69, hr_u70, hr_u71, hr_u72, hr_u73, hr_u74, hr_u75, hr_u76, hr_u77, hr_k13, hr_k17, hr_k18, hr_k28, hr_s17, hr_s18, hr_s28, hr_16, hr_set, hT.1, hlt, if_false]
theorem m_rds_0 (hR : tRef h d R) : ∀ f (I : Nat → Nat → Int32) nr nt p, n < p + f → p ≤ n → TX I n tc → rdI I nr nt → ∀ b I' nr' nt', rds n tc f I nr nt p = (some b, I', nr', nt') → ∀ l1 l2 l3, ∃ I2, frM I I2 ∧ ∀ Q, tEv E 60 50 [.ref 56, l1, l2, l3] [] (mS (hr I p) J R) Q = Q (some (nI b)) (mS I2 J R)
  | 0, I, nr, nt, p, hf, hp, hT, hI, b, I', nr', nt', he => by omega
  | f + 1, I, nr, nt, p, hf, hp, hT, hI, b, I', nr', nt', he => by
    intro l1 l2 l3
    rw [rds] at he
    by_cases c : p < n
    · rw [if_pos c] at he
      cases hi : itm I n tc nr nt p with
      | none =>
        rw [hi] at he
        cases he
        exact m_itm_0 hR hT c hI hi
      | some w =>
        obtain ⟨I2, a, b2, q⟩ := w
        rw [hi] at he
        simp only at he
        have hk := itm_ok hI hi
        obtain ⟨I3, hf3, h3⟩ := m_rds_0 hR f I2 a b2 q (by omega) hk.2.2.2 (TX_fr hk.2.1 hT) hk.1 b I' nr' nt' he (.int (nI p)) (.int (nI (tc p))) (.int 1)
        refine ⟨I3, frM_trans hk.2.1 hf3, fun Q => ?_⟩
        rw [m_itm_1 hR hT c hI hi]
        exact h3 Q
    · rw [if_neg c] at he
      cases he
end RL2
