/-! ===== the model: what sentence it is ===== -/
/-- the phrase k of I is the one told at a -/
def PH (I : Nat → Nat → Int32) (k c : Nat) (wn : Nat → Nat) (a : Nat) : Prop := (wo c wn a = 37 → I 79 k = 1) ∧ (wo c wn a ≠ 37 → I 79 k = 0 ∧ I 80 k = sAv c wn a ∧ I 81 k = sNv c wn a)
def PHs (I : Nat → Nat → Int32) (c : Nat) (wn : Nat → Nat) (a code : Nat) : Prop := code < 12 → PH I 0 c wn a ∧ (of2 code = true → PH I 1 c wn (phP c wn a + 1))
theorem PH_ph {I : Nat → Nat → Int32} {k c p a : Nat} {wn : Nat → Nat} : PH (ha (phS I k c wn a) p) k c wn a := by
  unfold PH phS
  by_cases q : wo c wn a = 37
  · rw [if_pos q]
    refine ⟨fun _ => ?_, fun e => absurd q e⟩
    unfold ha
    rw [vu, if_neg (by decide), vu, if_pos rfl, ud, if_pos rfl]
  · rw [if_neg q]
    refine ⟨fun e => absurd e q, fun _ => ?_⟩
    unfold ha smS
    simp only [vu, Nat.reduceEqDiff, reduceIte, ud, and_self]
theorem PH_ph2 {I : Nat → Nat → Int32} {c p a b : Nat} {wn : Nat → Nat} : PH (ha (phS (phS I 0 c wn a) 1 c wn b) p) 0 c wn a := by
  unfold PH phS
  by_cases q : wo c wn a = 37
  · rw [if_pos q]
    refine ⟨fun _ => ?_, fun e => absurd q e⟩
    by_cases q2 : wo c wn b = 37
    · rw [if_pos q2]
      unfold ha
      simp only [vu, Nat.reduceEqDiff, reduceIte, ud]
    · rw [if_neg q2]
      unfold ha smS
      simp only [vu, Nat.reduceEqDiff, reduceIte, ud]
  · rw [if_neg q]
    refine ⟨fun e => absurd e q, fun _ => ?_⟩
    by_cases q2 : wo c wn b = 37
    · rw [if_pos q2]
      unfold ha smS
      simp only [vu, Nat.reduceEqDiff, reduceIte, ud, Nat.zero_ne_one, and_self]
    · rw [if_neg q2]
      unfold ha smS
      simp only [vu, Nat.reduceEqDiff, reduceIte, ud, Nat.zero_ne_one, and_self]
def cdV (code : Nat) : Int32 := if code = 99 then -4 else nI code
def SRs (E : tm_Env) (J : Nat → Nat → Int64) (R : Nat → Nat → Option Nat) (k : Nat) (ls : List Value) (I0 I : Nat → Nat → Int32) (c : Nat) (wn : Nat → Nat) (a code : Nat) : Prop :=
  ∃ I', frS I I' ∧ PHs I' c wn a code ∧ ∀ Q, tEv E k 0 ls [] (mS I0 J R) Q = Q (some (cdV code)) (mS I' J R)
def o1C (c : Nat) (wn : Nat → Nat) (a code : Nat) : Nat := if (phOk c wn a && decide (phP c wn a = c)) = true then code else 99
def tkC (c : Nat) (wn : Nat → Nat) : Nat := if wo c wn 1 = 38 then (if c = 2 then 12 else 99) else if phOk c wn 1 = true then (if phP c wn 1 = c then 0 else if t2Ok c wn 34 1 = true then 11 else 99) else 99
def dpC (c : Nat) (wn : Nat → Nat) : Nat := if wo c wn 1 = 38 then (if c = 2 then 13 else 99) else o1C c wn 1 1
def ptC (c : Nat) (wn : Nat → Nat) : Nat := if t2Ok c wn 32 1 = true then 2 else if t2Ok c wn 33 1 = true then 3 else 99
def t2C (c : Nat) (wn : Nat → Nat) (code : Nat) : Nat := if t2Ok c wn 35 1 = true then code else 99
def lkC (c : Nat) (wn : Nat → Nat) : Nat := if c = 1 then 14 else if wo c wn 1 = 32 then o1C c wn 2 10 else 99
section SQ
variable {E : tm_Env} {Q : Option Int32 → tm_St → Prop} {I : Nat → Nat → Int32} {J : Nat → Nat → Int64} {R : Nat → Nat → Option Nat} {h d : Nat} {n a c : Nat} {tc wn : Nat → Nat}
theorem PHs_99 {I : Nat → Nat → Int32} {k : Nat} (h : 12 ≤ k) : PHs I c wn a k := fun e => by omega
theorem s_one (hR : tRef h d R) (hS : WS I c wn) (ha' : a < 800) {code : Nat} (hc : code < 12) (h2 : of2 code = false) : SRs E J R 146 [.ref 56, .int (nI code)] (ha I a) I c wn a (o1C c wn a code) := by
  refine ⟨ha (phS I 0 c wn a) (phP c wn a), frS_ha (frS_ph (frS_refl I)), ?_, fun Q => ?_⟩
  · unfold o1C
    split
    · exact fun _ => ⟨PH_ph, fun e => by rw [h2] at e; cases e⟩
    · exact PHs_99 (by decide)
  · rw [m_withOne hR hS ha']
    unfold o1C cdV
    by_cases q : (phOk c wn a && decide (phP c wn a = c)) = true
    · rw [if_pos q, if_pos q, if_neg (by omega)]
    · rw [if_neg q, if_neg q, if_pos rfl]
theorem s_two (hR : tRef h d R) (hS : WS I c wn) {code : Nat} (hc : code < 12) : SRs E J R 149 [.ref 56, .int (nI code), .int 35] (ha I 1) I c wn 1 (t2C c wn code) := by
  unfold t2C
  cases q : t2Ok c wn 35 1 with
  | true =>
    rw [if_pos rfl]
    refine ⟨_, frS_ha (p := c) (frS_ph (k := 1) (c := c) (wn := wn) (a := phP c wn 1 + 1) (frS_ph (k := 0) (c := c) (wn := wn) (a := 1) (frS_refl I))), fun _ => ⟨PH_ph2, fun _ => PH_ph⟩, fun Q => ?_⟩
    rw [m_withTwo_1 hR hS (by decide) q, cdV, if_neg (by omega)]
  | false =>
    obtain ⟨I', hf, hq⟩ := m_withTwo_0 (E := E) (J := J) (x := nI code) hR hS (a := 1) (by decide) q
    rw [if_neg (by decide)]
    exact ⟨I', hf, PHs_99 (by decide), hq⟩
theorem s_drops (hR : tRef h d R) (hS : WS I c wn) : SRs E J R 147 [.ref 56] (ha I 1) I c wn 1 (dpC c wn) := by
  have hc := hS.2.1
  have hw := fun {Q} => m_isWord (E := E) (Q := Q) (J := J) hR hS (show 1 < 1000 by decide) (x := 38) (by decide)
  rw [show nI 38 = 38 from rfl] at hw
  unfold dpC
  by_cases q : wo c wn 1 = 38
  · have ho : ow c wn 38 1 = 2 := if_pos q
    have he := fun {Q} => m_isEnd (E := E) (Q := Q) (J := J) (I := I) (a := 2) hR hS (by decide)
    rw [if_pos q]
    refine ⟨ha I 2, frS_ha (frS_refl I), PHs_99 (by split <;> decide), fun Q => ?_⟩
    simp only [e_147_0, e_147_1, e_147_3, e_147_6, e_147_9, e_147_10, e_147_13, e_147_16, e_147_18, e_147_21, e_147_23, e_147_24, e_147_25, e_147_26, e_147_29, rf_56_0 hR, rf_56_4 hR, rf_56_5 hR, rf_56_6 hR, rf_56_7 hR, rf_56_8 hR, rf_56_9 hR, rf_56_10 hR, rf_56_11 hR, rf_56_12 hR, rf_56_14 hR, rf_56_15 hR, rf_56_19 hR, rf_56_20 hR, rf_56_21 hR, rf_56_22 hR, rf_56_23 hR, rf_56_24 hR, rf_56_25 hR, rf_56_26 hR, rf_56_27 hR, rf_56_29 hR, rf_56_32 hR, rf_56_33 hR, rf_56_34 hR, rf_56_37 hR, rf_56_38 hR, kn_56, kn_57, kn_58, kn_59, kn_60, kn_61, kn_62, kn_63, kn_64, kn_65, kn_66, kn_67, kn_68, kn_69, kn_70, kn_71, kn_72, kn_73, kn_74, kn_75, kn_76, kn_77, kn_78, kn_79, kn_80, kn_81, kn_82, kn_83, ln_57, ln_58, ln_59, ln_60, ln_61, ln_62, ln_63, ln_64, ln_65, ln_66, ln_67, ln_68, ln_69, ln_70, ln_71, ln_72, ln_73, ln_74, ln_75, ln_76, ln_77, ln_78, ln_79, ln_80, ln_81, ln_82, ln_83, va_rf_some, push_s, push_n, nb0, nb1, nbb, Nat.reduceLT, hw, q, decide_true, b2i_0, Bool.true_eq_false, if_false, ho, he]
    by_cases q2 : c = 2
    · subst q2
      simp [cdV]
      rfl
    · have q3 : ¬ (2 = c) := fun e => q2 e.symm
      simp [q2, q3, cdV]
  · have ho : ow c wn 38 1 = 1 := if_neg q
    rw [if_neg q]
    obtain ⟨I', h1, h2, h3⟩ := s_one (E := E) (J := J) hR hS (a := 1) (by decide) (code := 1) (by decide) rfl
    refine ⟨I', h1, h2, fun Q => ?_⟩
    rw [show nI 1 = 1 from rfl] at h3
    simp only [e_147_0, e_147_1, e_147_3, e_147_6, e_147_9, e_147_10, e_147_13, e_147_16, e_147_18, e_147_21, e_147_23, e_147_24, e_147_25, e_147_26, e_147_29, rf_56_0 hR, rf_56_4 hR, rf_56_5 hR, rf_56_6 hR, rf_56_7 hR, rf_56_8 hR, rf_56_9 hR, rf_56_10 hR, rf_56_11 hR, rf_56_12 hR, rf_56_14 hR, rf_56_15 hR, rf_56_19 hR, rf_56_20 hR, rf_56_21 hR, rf_56_22 hR, rf_56_23 hR, rf_56_24 hR, rf_56_25 hR, rf_56_26 hR, rf_56_27 hR, rf_56_29 hR, rf_56_32 hR, rf_56_33 hR, rf_56_34 hR, rf_56_37 hR, rf_56_38 hR, kn_56, kn_57, kn_58, kn_59, kn_60, kn_61, kn_62, kn_63, kn_64, kn_65, kn_66, kn_67, kn_68, kn_69, kn_70, kn_71, kn_72, kn_73, kn_74, kn_75, kn_76, kn_77, kn_78, kn_79, kn_80, kn_81, kn_82, kn_83, ln_57, ln_58, ln_59, ln_60, ln_61, ln_62, ln_63, ln_64, ln_65, ln_66, ln_67, ln_68, ln_69, ln_70, ln_71, ln_72, ln_73, ln_74, ln_75, ln_76, ln_77, ln_78, ln_79, ln_80, ln_81, ln_82, ln_83, va_rf_some, push_s, push_n, nb0, nb1, nbb, Nat.reduceLT, hw, q, decide_false, b2i_0, if_true, ho, h3]
theorem s_looks (hR : tRef h d R) (hS : WS I c wn) : SRs E J R 150 [.ref 56] (ha I 1) I c wn 2 (lkC c wn) := by
  have hc := hS.2.1
  have he := fun {Q} => m_isEnd (E := E) (Q := Q) (J := J) (I := I) (a := 1) hR hS (by decide)
  have hw := fun {Q} => m_isWord (E := E) (Q := Q) (J := J) hR hS (show 1 < 1000 by decide) (x := 32) (by decide)
  rw [show nI 32 = 32 from rfl] at hw
  unfold lkC
  by_cases q0 : c = 1
  · rw [if_pos q0]
    refine ⟨ha I 1, frS_ha (frS_refl I), PHs_99 (by decide), fun Q => ?_⟩
    simp only [e_150_0, e_150_1, e_150_4, e_150_7, e_150_9, e_150_12, e_150_13, e_150_15, e_150_18, e_150_21, e_150_22, e_150_24, e_150_27, e_150_30, e_150_32, rf_56_0 hR, rf_56_4 hR, rf_56_5 hR, rf_56_6 hR, rf_56_7 hR, rf_56_8 hR, rf_56_9 hR, rf_56_10 hR, rf_56_11 hR, rf_56_12 hR, rf_56_14 hR, rf_56_15 hR, rf_56_19 hR, rf_56_20 hR, rf_56_21 hR, rf_56_22 hR, rf_56_23 hR, rf_56_24 hR, rf_56_25 hR, rf_56_26 hR, rf_56_27 hR, rf_56_29 hR, rf_56_32 hR, rf_56_33 hR, rf_56_34 hR, rf_56_37 hR, rf_56_38 hR, kn_56, kn_57, kn_58, kn_59, kn_60, kn_61, kn_62, kn_63, kn_64, kn_65, kn_66, kn_67, kn_68, kn_69, kn_70, kn_71, kn_72, kn_73, kn_74, kn_75, kn_76, kn_77, kn_78, kn_79, kn_80, kn_81, kn_82, kn_83, ln_57, ln_58, ln_59, ln_60, ln_61, ln_62, ln_63, ln_64, ln_65, ln_66, ln_67, ln_68, ln_69, ln_70, ln_71, ln_72, ln_73, ln_74, ln_75, ln_76, ln_77, ln_78, ln_79, ln_80, ln_81, ln_82, ln_83, va_rf_some, push_s, push_n, nb0, nb1, nbb, Nat.reduceLT, he, show (1 = c) = True from eq_true q0.symm, decide_true, b2i_0, Bool.true_eq_false, if_false]
    rfl
  · have q0' : (1 = c) = False := eq_false (fun e => q0 e.symm)
    rw [if_neg q0]
    by_cases q : wo c wn 1 = 32
    · have ho : ow c wn 32 1 = 2 := if_pos q
      rw [if_pos q]
      obtain ⟨I', h1, h2, h3⟩ := s_one (E := E) (J := J) hR hS (a := 2) (by decide) (code := 10) (by decide) rfl
      refine ⟨I', h1, h2, fun Q => ?_⟩
      rw [show nI 10 = 10 from rfl] at h3
      simp only [e_150_0, e_150_1, e_150_4, e_150_7, e_150_9, e_150_12, e_150_13, e_150_15, e_150_18, e_150_21, e_150_22, e_150_24, e_150_27, e_150_30, e_150_32, rf_56_0 hR, rf_56_4 hR, rf_56_5 hR, rf_56_6 hR, rf_56_7 hR, rf_56_8 hR, rf_56_9 hR, rf_56_10 hR, rf_56_11 hR, rf_56_12 hR, rf_56_14 hR, rf_56_15 hR, rf_56_19 hR, rf_56_20 hR, rf_56_21 hR, rf_56_22 hR, rf_56_23 hR, rf_56_24 hR, rf_56_25 hR, rf_56_26 hR, rf_56_27 hR, rf_56_29 hR, rf_56_32 hR, rf_56_33 hR, rf_56_34 hR, rf_56_37 hR, rf_56_38 hR, kn_56, kn_57, kn_58, kn_59, kn_60, kn_61, kn_62, kn_63, kn_64, kn_65, kn_66, kn_67, kn_68, kn_69, kn_70, kn_71, kn_72, kn_73, kn_74, kn_75, kn_76, kn_77, kn_78, kn_79, kn_80, kn_81, kn_82, kn_83, ln_57, ln_58, ln_59, ln_60, ln_61, ln_62, ln_63, ln_64, ln_65, ln_66, ln_67, ln_68, ln_69, ln_70, ln_71, ln_72, ln_73, ln_74, ln_75, ln_76, ln_77, ln_78, ln_79, ln_80, ln_81, ln_82, ln_83, va_rf_some, push_s, push_n, nb0, nb1, nbb, Nat.reduceLT, he, q0', decide_false, b2i_0, if_true, hw, q, decide_true, Bool.true_eq_false, if_false, ho, h3]
    · have ho : ow c wn 32 1 = 1 := if_neg q
      rw [if_neg q]
      refine ⟨ha I 1, frS_ha (frS_refl I), PHs_99 (by decide), fun Q => ?_⟩
      simp only [e_150_0, e_150_1, e_150_4, e_150_7, e_150_9, e_150_12, e_150_13, e_150_15, e_150_18, e_150_21, e_150_22, e_150_24, e_150_27, e_150_30, e_150_32, rf_56_0 hR, rf_56_4 hR, rf_56_5 hR, rf_56_6 hR, rf_56_7 hR, rf_56_8 hR, rf_56_9 hR, rf_56_10 hR, rf_56_11 hR, rf_56_12 hR, rf_56_14 hR, rf_56_15 hR, rf_56_19 hR, rf_56_20 hR, rf_56_21 hR, rf_56_22 hR, rf_56_23 hR, rf_56_24 hR, rf_56_25 hR, rf_56_26 hR, rf_56_27 hR, rf_56_29 hR, rf_56_32 hR, rf_56_33 hR, rf_56_34 hR, rf_56_37 hR, rf_56_38 hR, kn_56, kn_57, kn_58, kn_59, kn_60, kn_61, kn_62, kn_63, kn_64, kn_65, kn_66, kn_67, kn_68, kn_69, kn_70, kn_71, kn_72, kn_73, kn_74, kn_75, kn_76, kn_77, kn_78, kn_79, kn_80, kn_81, kn_82, kn_83, ln_57, ln_58, ln_59, ln_60, ln_61, ln_62, ln_63, ln_64, ln_65, ln_66, ln_67, ln_68, ln_69, ln_70, ln_71, ln_72, ln_73, ln_74, ln_75, ln_76, ln_77, ln_78, ln_79, ln_80, ln_81, ln_82, ln_83, va_rf_some, push_s, push_n, nb0, nb1, nbb, Nat.reduceLT, he, q0', decide_false, b2i_0, if_true, hw, q, ho]
      rfl
theorem s_takes (hR : tRef h d R) (hS : WS I c wn) : SRs E J R 145 [.ref 56] (ha I 1) I c wn 1 (tkC c wn) := by
  have hc := hS.2.1
  have hle := phP_le c wn 1
  have hle2 := phP_le c wn (phP c wn 1 + 1)
  have hw := fun {Q} => m_isWord (E := E) (Q := Q) (J := J) hR hS (show 1 < 1000 by decide) (x := 38) (by decide)
  rw [show nI 38 = 38 from rfl] at hw
  have hp := fun {Q} => m_readsPhrase (E := E) (Q := Q) (J := J) hR hS (show 1 < 900 by decide) (k := 0) (by decide)
  rw [show nI 0 = 0 from rfl] at hp
  have he1 := fun {Q} => m_isEnd (E := E) (Q := Q) (J := J) (I := phS I 0 c wn 1) (a := phP c wn 1) hR (WS_ph hS) (by omega)
  have hw34 := fun {Q} => m_isWord (E := E) (Q := Q) (J := J) (I := phS I 0 c wn 1) (a := phP c wn 1) hR (WS_ph hS) (by omega) (x := 34) (by decide)
  rw [show nI 34 = 34 from rfl] at hw34
  have hp2 := fun {Q} => m_readsPhrase (E := E) (Q := Q) (J := J) (I := phS I 0 c wn 1) (a := phP c wn 1 + 1) hR (WS_ph hS) (by omega) (k := 1) (by decide)
  rw [show nI 1 = 1 from rfl] at hp2
  have he2 := fun {Q} => m_isEnd (E := E) (Q := Q) (J := J) (I := phS (phS I 0 c wn 1) 1 c wn (phP c wn 1 + 1)) (a := phP c wn (phP c wn 1 + 1)) hR (WS_ph (WS_ph hS)) (by omega)
  have f1 : frS I (ha (phS I 0 c wn 1) (phP c wn 1)) := frS_ha (frS_ph (frS_refl I))
  have f2 : frS I (ha (phS (phS I 0 c wn 1) 1 c wn (phP c wn 1 + 1)) (phP c wn (phP c wn 1 + 1))) := frS_ha (frS_ph (frS_ph (frS_refl I)))
  unfold tkC
  by_cases q : wo c wn 1 = 38
  · have ho : ow c wn 38 1 = 2 := if_pos q
    have he := fun {Q} => m_isEnd (E := E) (Q := Q) (J := J) (I := I) (a := 2) hR hS (by decide)
    rw [if_pos q]
    refine ⟨ha I 2, frS_ha (frS_refl I), PHs_99 (by split <;> decide), fun Q => ?_⟩
    simp only [e_145_0, e_145_1, e_145_3, e_145_6, e_145_9, e_145_10, e_145_13, e_145_16, e_145_18, e_145_21, e_145_23, e_145_24, e_145_25, e_145_26, e_145_29, e_145_32, e_145_34, e_145_35, e_145_36, e_145_39, e_145_42, e_145_43, e_145_46, e_145_47, e_145_49, e_145_52, e_145_55, e_145_56, e_145_57, e_145_60, e_145_63, e_145_64, e_145_67, e_145_70, e_145_72, e_145_75, e_145_77, rf_56_0 hR, rf_56_4 hR, rf_56_5 hR, rf_56_6 hR, rf_56_7 hR, rf_56_8 hR, rf_56_9 hR, rf_56_10 hR, rf_56_11 hR, rf_56_12 hR, rf_56_14 hR, rf_56_15 hR, rf_56_19 hR, rf_56_20 hR, rf_56_21 hR, rf_56_22 hR, rf_56_23 hR, rf_56_24 hR, rf_56_25 hR, rf_56_26 hR, rf_56_27 hR, rf_56_29 hR, rf_56_32 hR, rf_56_33 hR, rf_56_34 hR, rf_56_37 hR, rf_56_38 hR, kn_56, kn_57, kn_58, kn_59, kn_60, kn_61, kn_62, kn_63, kn_64, kn_65, kn_66, kn_67, kn_68, kn_69, kn_70, kn_71, kn_72, kn_73, kn_74, kn_75, kn_76, kn_77, kn_78, kn_79, kn_80, kn_81, kn_82, kn_83, ln_57, ln_58, ln_59, ln_60, ln_61, ln_62, ln_63, ln_64, ln_65, ln_66, ln_67, ln_68, ln_69, ln_70, ln_71, ln_72, ln_73, ln_74, ln_75, ln_76, ln_77, ln_78, ln_79, ln_80, ln_81, ln_82, ln_83, va_rf_some, push_s, push_n, nb0, nb1, nbb, Nat.reduceLT, hw, q, decide_true, b2i_0, Bool.true_eq_false, if_false, ho, he]
    by_cases q2 : c = 2
    · subst q2
      simp [cdV]
      rfl
    · have q3 : ¬ (2 = c) := fun e => q2 e.symm
      simp [q2, q3, cdV]
  · have ho : ow c wn 38 1 = 1 := if_neg q
    rw [if_neg q]
    cases k1 : phOk c wn 1 with
    | false =>
      rw [if_neg (by decide)]
      refine ⟨_, f1, PHs_99 (by decide), fun Q => ?_⟩
      simp only [e_145_0, e_145_1, e_145_3, e_145_6, e_145_9, e_145_10, e_145_13, e_145_16, e_145_18, e_145_21, e_145_23, e_145_24, e_145_25, e_145_26, e_145_29, e_145_32, e_145_34, e_145_35, e_145_36, e_145_39, e_145_42, e_145_43, e_145_46, e_145_47, e_145_49, e_145_52, e_145_55, e_145_56, e_145_57, e_145_60, e_145_63, e_145_64, e_145_67, e_145_70, e_145_72, e_145_75, e_145_77, rf_56_0 hR, rf_56_4 hR, rf_56_5 hR, rf_56_6 hR, rf_56_7 hR, rf_56_8 hR, rf_56_9 hR, rf_56_10 hR, rf_56_11 hR, rf_56_12 hR, rf_56_14 hR, rf_56_15 hR, rf_56_19 hR, rf_56_20 hR, rf_56_21 hR, rf_56_22 hR, rf_56_23 hR, rf_56_24 hR, rf_56_25 hR, rf_56_26 hR, rf_56_27 hR, rf_56_29 hR, rf_56_32 hR, rf_56_33 hR, rf_56_34 hR, rf_56_37 hR, rf_56_38 hR, kn_56, kn_57, kn_58, kn_59, kn_60, kn_61, kn_62, kn_63, kn_64, kn_65, kn_66, kn_67, kn_68, kn_69, kn_70, kn_71, kn_72, kn_73, kn_74, kn_75, kn_76, kn_77, kn_78, kn_79, kn_80, kn_81, kn_82, kn_83, ln_57, ln_58, ln_59, ln_60, ln_61, ln_62, ln_63, ln_64, ln_65, ln_66, ln_67, ln_68, ln_69, ln_70, ln_71, ln_72, ln_73, ln_74, ln_75, ln_76, ln_77, ln_78, ln_79, ln_80, ln_81, ln_82, ln_83, va_rf_some, push_s, push_n, nb0, nb1, nbb, Nat.reduceLT, hw, q, decide_false, b2i_0, if_true, ho, hp, k1]
      rfl
    | true =>
      rw [if_pos rfl]
      by_cases k2 : phP c wn 1 = c
      · rw [if_pos k2]
        refine ⟨_, f1, fun _ => ⟨PH_ph, fun e => by cases e⟩, fun Q => ?_⟩
        simp only [e_145_0, e_145_1, e_145_3, e_145_6, e_145_9, e_145_10, e_145_13, e_145_16, e_145_18, e_145_21, e_145_23, e_145_24, e_145_25, e_145_26, e_145_29, e_145_32, e_145_34, e_145_35, e_145_36, e_145_39, e_145_42, e_145_43, e_145_46, e_145_47, e_145_49, e_145_52, e_145_55, e_145_56, e_145_57, e_145_60, e_145_63, e_145_64, e_145_67, e_145_70, e_145_72, e_145_75, e_145_77, rf_56_0 hR, rf_56_4 hR, rf_56_5 hR, rf_56_6 hR, rf_56_7 hR, rf_56_8 hR, rf_56_9 hR, rf_56_10 hR, rf_56_11 hR, rf_56_12 hR, rf_56_14 hR, rf_56_15 hR, rf_56_19 hR, rf_56_20 hR, rf_56_21 hR, rf_56_22 hR, rf_56_23 hR, rf_56_24 hR, rf_56_25 hR, rf_56_26 hR, rf_56_27 hR, rf_56_29 hR, rf_56_32 hR, rf_56_33 hR, rf_56_34 hR, rf_56_37 hR, rf_56_38 hR, kn_56, kn_57, kn_58, kn_59, kn_60, kn_61, kn_62, kn_63, kn_64, kn_65, kn_66, kn_67, kn_68, kn_69, kn_70, kn_71, kn_72, kn_73, kn_74, kn_75, kn_76, kn_77, kn_78, kn_79, kn_80, kn_81, kn_82, kn_83, ln_57, ln_58, ln_59, ln_60, ln_61, ln_62, ln_63, ln_64, ln_65, ln_66, ln_67, ln_68, ln_69, ln_70, ln_71, ln_72, ln_73, ln_74, ln_75, ln_76, ln_77, ln_78, ln_79, ln_80, ln_81, ln_82, ln_83, va_rf_some, push_s, push_n, nb0, nb1, nbb, Nat.reduceLT, hw, q, decide_false, b2i_0, if_true, ho, hp, k1, Bool.true_eq_false, if_false, he1, decide_eq_true k2]
        rfl
      · rw [if_neg k2]
        by_cases k3 : wo c wn (phP c wn 1) = 34
        · have ho2 : ow c wn 34 (phP c wn 1) = phP c wn 1 + 1 := if_pos k3
          cases k4 : phOk c wn (phP c wn 1 + 1) with
          | false =>
            have kt : t2Ok c wn 34 1 = false := by unfold t2Ok; rw [k1, decide_eq_true k3, k4]; rfl
            rw [kt, if_neg (by decide)]
            refine ⟨_, f2, PHs_99 (by decide), fun Q => ?_⟩
            simp only [e_145_0, e_145_1, e_145_3, e_145_6, e_145_9, e_145_10, e_145_13, e_145_16, e_145_18, e_145_21, e_145_23, e_145_24, e_145_25, e_145_26, e_145_29, e_145_32, e_145_34, e_145_35, e_145_36, e_145_39, e_145_42, e_145_43, e_145_46, e_145_47, e_145_49, e_145_52, e_145_55, e_145_56, e_145_57, e_145_60, e_145_63, e_145_64, e_145_67, e_145_70, e_145_72, e_145_75, e_145_77, rf_56_0 hR, rf_56_4 hR, rf_56_5 hR, rf_56_6 hR, rf_56_7 hR, rf_56_8 hR, rf_56_9 hR, rf_56_10 hR, rf_56_11 hR, rf_56_12 hR, rf_56_14 hR, rf_56_15 hR, rf_56_19 hR, rf_56_20 hR, rf_56_21 hR, rf_56_22 hR, rf_56_23 hR, rf_56_24 hR, rf_56_25 hR, rf_56_26 hR, rf_56_27 hR, rf_56_29 hR, rf_56_32 hR, rf_56_33 hR, rf_56_34 hR, rf_56_37 hR, rf_56_38 hR, kn_56, kn_57, kn_58, kn_59, kn_60, kn_61, kn_62, kn_63, kn_64, kn_65, kn_66, kn_67, kn_68, kn_69, kn_70, kn_71, kn_72, kn_73, kn_74, kn_75, kn_76, kn_77, kn_78, kn_79, kn_80, kn_81, kn_82, kn_83, ln_57, ln_58, ln_59, ln_60, ln_61, ln_62, ln_63, ln_64, ln_65, ln_66, ln_67, ln_68, ln_69, ln_70, ln_71, ln_72, ln_73, ln_74, ln_75, ln_76, ln_77, ln_78, ln_79, ln_80, ln_81, ln_82, ln_83, va_rf_some, push_s, push_n, nb0, nb1, nbb, Nat.reduceLT, hw, q, decide_false, b2i_0, if_true, ho, hp, k1, Bool.true_eq_false, if_false, he1, k2, hw34, k3, decide_true, ho2, hp2, k4]
            rfl
          | true =>
            by_cases k5 : phP c wn (phP c wn 1 + 1) = c
            · have kt : t2Ok c wn 34 1 = true := by unfold t2Ok; rw [k1, decide_eq_true k3, k4, decide_eq_true k5]; rfl
              rw [kt, if_pos rfl]
              refine ⟨_, f2, fun _ => ⟨PH_ph2, fun _ => PH_ph⟩, fun Q => ?_⟩
              simp only [e_145_0, e_145_1, e_145_3, e_145_6, e_145_9, e_145_10, e_145_13, e_145_16, e_145_18, e_145_21, e_145_23, e_145_24, e_145_25, e_145_26, e_145_29, e_145_32, e_145_34, e_145_35, e_145_36, e_145_39, e_145_42, e_145_43, e_145_46, e_145_47, e_145_49, e_145_52, e_145_55, e_145_56, e_145_57, e_145_60, e_145_63, e_145_64, e_145_67, e_145_70, e_145_72, e_145_75, e_145_77, rf_56_0 hR, rf_56_4 hR, rf_56_5 hR, rf_56_6 hR, rf_56_7 hR, rf_56_8 hR, rf_56_9 hR, rf_56_10 hR, rf_56_11 hR, rf_56_12 hR, rf_56_14 hR, rf_56_15 hR, rf_56_19 hR, rf_56_20 hR, rf_56_21 hR, rf_56_22 hR, rf_56_23 hR, rf_56_24 hR, rf_56_25 hR, rf_56_26 hR, rf_56_27 hR, rf_56_29 hR, rf_56_32 hR, rf_56_33 hR, rf_56_34 hR, rf_56_37 hR, rf_56_38 hR, kn_56, kn_57, kn_58, kn_59, kn_60, kn_61, kn_62, kn_63, kn_64, kn_65, kn_66, kn_67, kn_68, kn_69, kn_70, kn_71, kn_72, kn_73, kn_74, kn_75, kn_76, kn_77, kn_78, kn_79, kn_80, kn_81, kn_82, kn_83, ln_57, ln_58, ln_59, ln_60, ln_61, ln_62, ln_63, ln_64, ln_65, ln_66, ln_67, ln_68, ln_69, ln_70, ln_71, ln_72, ln_73, ln_74, ln_75, ln_76, ln_77, ln_78, ln_79, ln_80, ln_81, ln_82, ln_83, va_rf_some, push_s, push_n, nb0, nb1, nbb, Nat.reduceLT, hw, q, decide_false, b2i_0, if_true, ho, hp, k1, Bool.true_eq_false, if_false, he1, k2, hw34, k3, decide_true, ho2, hp2, k4, he2, decide_eq_true k5]
              rfl
            · have kt : t2Ok c wn 34 1 = false := by unfold t2Ok; rw [k1, decide_eq_true k3, k4, decide_eq_false k5]; rfl
              rw [kt, if_neg (by decide)]
              refine ⟨_, f2, PHs_99 (by decide), fun Q => ?_⟩
              simp only [e_145_0, e_145_1, e_145_3, e_145_6, e_145_9, e_145_10, e_145_13, e_145_16, e_145_18, e_145_21, e_145_23, e_145_24, e_145_25, e_145_26, e_145_29, e_145_32, e_145_34, e_145_35, e_145_36, e_145_39, e_145_42, e_145_43, e_145_46, e_145_47, e_145_49, e_145_52, e_145_55, e_145_56, e_145_57, e_145_60, e_145_63, e_145_64, e_145_67, e_145_70, e_145_72, e_145_75, e_145_77, rf_56_0 hR, rf_56_4 hR, rf_56_5 hR, rf_56_6 hR, rf_56_7 hR, rf_56_8 hR, rf_56_9 hR, rf_56_10 hR, rf_56_11 hR, rf_56_12 hR, rf_56_14 hR, rf_56_15 hR, rf_56_19 hR, rf_56_20 hR, rf_56_21 hR, rf_56_22 hR, rf_56_23 hR, rf_56_24 hR, rf_56_25 hR, rf_56_26 hR, rf_56_27 hR, rf_56_29 hR, rf_56_32 hR, rf_56_33 hR, rf_56_34 hR, rf_56_37 hR, rf_56_38 hR, kn_56, kn_57, kn_58, kn_59, kn_60, kn_61, kn_62, kn_63, kn_64, kn_65, kn_66, kn_67, kn_68, kn_69, kn_70, kn_71, kn_72, kn_73, kn_74, kn_75, kn_76, kn_77, kn_78, kn_79, kn_80, kn_81, kn_82, kn_83, ln_57, ln_58, ln_59, ln_60, ln_61, ln_62, ln_63, ln_64, ln_65, ln_66, ln_67, ln_68, ln_69, ln_70, ln_71, ln_72, ln_73, ln_74, ln_75, ln_76, ln_77, ln_78, ln_79, ln_80, ln_81, ln_82, ln_83, va_rf_some, push_s, push_n, nb0, nb1, nbb, Nat.reduceLT, hw, q, decide_false, b2i_0, if_true, ho, hp, k1, Bool.true_eq_false, if_false, he1, k2, hw34, k3, decide_true, ho2, hp2, k4, he2, k5]
              rfl
        · have ho2 : ow c wn 34 (phP c wn 1) = phP c wn 1 := if_neg k3
          have kt : t2Ok c wn 34 1 = false := by unfold t2Ok; rw [k1, decide_eq_false k3]; rfl
          rw [kt, if_neg (by decide)]
          refine ⟨_, f1, PHs_99 (by decide), fun Q => ?_⟩
          simp only [e_145_0, e_145_1, e_145_3, e_145_6, e_145_9, e_145_10, e_145_13, e_145_16, e_145_18, e_145_21, e_145_23, e_145_24, e_145_25, e_145_26, e_145_29, e_145_32, e_145_34, e_145_35, e_145_36, e_145_39, e_145_42, e_145_43, e_145_46, e_145_47, e_145_49, e_145_52, e_145_55, e_145_56, e_145_57, e_145_60, e_145_63, e_145_64, e_145_67, e_145_70, e_145_72, e_145_75, e_145_77, rf_56_0 hR, rf_56_4 hR, rf_56_5 hR, rf_56_6 hR, rf_56_7 hR, rf_56_8 hR, rf_56_9 hR, rf_56_10 hR, rf_56_11 hR, rf_56_12 hR, rf_56_14 hR, rf_56_15 hR, rf_56_19 hR, rf_56_20 hR, rf_56_21 hR, rf_56_22 hR, rf_56_23 hR, rf_56_24 hR, rf_56_25 hR, rf_56_26 hR, rf_56_27 hR, rf_56_29 hR, rf_56_32 hR, rf_56_33 hR, rf_56_34 hR, rf_56_37 hR, rf_56_38 hR, kn_56, kn_57, kn_58, kn_59, kn_60, kn_61, kn_62, kn_63, kn_64, kn_65, kn_66, kn_67, kn_68, kn_69, kn_70, kn_71, kn_72, kn_73, kn_74, kn_75, kn_76, kn_77, kn_78, kn_79, kn_80, kn_81, kn_82, kn_83, ln_57, ln_58, ln_59, ln_60, ln_61, ln_62, ln_63, ln_64, ln_65, ln_66, ln_67, ln_68, ln_69, ln_70, ln_71, ln_72, ln_73, ln_74, ln_75, ln_76, ln_77, ln_78, ln_79, ln_80, ln_81, ln_82, ln_83, va_rf_some, push_s, push_n, nb0, nb1, nbb, Nat.reduceLT, hw, q, decide_false, b2i_0, if_true, ho, hp, k1, Bool.true_eq_false, if_false, he1, k2, hw34, k3, ho2]
          rfl
theorem s_puts (hR : tRef h d R) (hS : WS I c wn) : SRs E J R 148 [.ref 56, tm_dum] (ha I 1) I c wn 1 (ptC c wn) := by
  have hc := hS.2.1
  have hle := phP_le c wn 1
  have hle2 := phP_le c wn (phP c wn 1 + 1)
  have hp := fun {Q} => m_readsPhrase (E := E) (Q := Q) (J := J) hR hS (show 1 < 900 by decide) (k := 0) (by decide)
  rw [show nI 0 = 0 from rfl] at hp
  have hat := fun {Q} => m_wordAt (E := E) (Q := Q) (J := J) (I := ha (phS I 0 c wn 1) (phP c wn 1)) (k := phP c wn 1) hR (WS_ha (WS_ph hS)) (by omega)
  have e32 := wv_eq hS (k := phP c wn 1) (x := 32) (by decide)
  have e33 := wv_eq hS (k := phP c wn 1) (x := 33) (by decide)
  rw [show nI 32 = 32 from rfl] at e32
  rw [show nI 33 = 33 from rfl] at e33
  have hp2 := fun {Q} => m_readsPhrase (E := E) (Q := Q) (J := J) (I := phS I 0 c wn 1) (a := phP c wn 1 + 1) hR (WS_ph hS) (by omega) (k := 1) (by decide)
  rw [show nI 1 = 1 from rfl] at hp2
  have he2 := fun {Q} => m_isEnd (E := E) (Q := Q) (J := J) (I := phS (phS I 0 c wn 1) 1 c wn (phP c wn 1 + 1)) (a := phP c wn (phP c wn 1 + 1)) hR (WS_ph (WS_ph hS)) (by omega)
  have f1 : frS I (ha (phS I 0 c wn 1) (phP c wn 1)) := frS_ha (frS_ph (frS_refl I))
  have f1' : frS I (ha (phS I 0 c wn 1) (phP c wn 1 + 1)) := frS_ha (frS_ph (frS_refl I))
  have f2 : frS I (ha (phS (phS I 0 c wn 1) 1 c wn (phP c wn 1 + 1)) (phP c wn (phP c wn 1 + 1))) := frS_ha (frS_ph (frS_ph (frS_refl I)))
  have n32 : ((32 : Nat) = 33) = False := eq_false (by decide)
  have n33 : ((33 : Nat) = 32) = False := eq_false (by decide)
  have n24 : ((2 : Int32) = -4) = False := eq_false (by decide)
  have n34 : ((3 : Int32) = -4) = False := eq_false (by decide)
  unfold ptC
  cases k1 : phOk c wn 1 with
  | false =>
    have a : t2Ok c wn 32 1 = false := by unfold t2Ok; rw [k1]; rfl
    have b : t2Ok c wn 33 1 = false := by unfold t2Ok; rw [k1]; rfl
    rw [a, b, if_neg (by decide), if_neg (by decide)]
    refine ⟨_, f1, PHs_99 (by decide), fun Q => ?_⟩
    simp only [e_148_0, e_148_1, e_148_2, e_148_5, e_148_8, e_148_10, e_148_11, e_148_12, e_148_13, e_148_16, e_148_19, e_148_21, e_148_24, e_148_25, e_148_28, e_148_29, e_148_30, e_148_33, e_148_36, e_148_38, e_148_41, e_148_42, e_148_45, e_148_47, e_148_48, e_148_49, e_148_50, e_148_53, e_148_54, e_148_55, e_148_58, e_148_59, e_148_61, e_148_64, e_148_65, e_148_66, e_148_69, e_148_72, e_148_73, e_148_76, e_148_79, e_148_80, e_148_83, e_148_85, rf_56_0 hR, rf_56_4 hR, rf_56_5 hR, rf_56_6 hR, rf_56_7 hR, rf_56_8 hR, rf_56_9 hR, rf_56_10 hR, rf_56_11 hR, rf_56_12 hR, rf_56_14 hR, rf_56_15 hR, rf_56_19 hR, rf_56_20 hR, rf_56_21 hR, rf_56_22 hR, rf_56_23 hR, rf_56_24 hR, rf_56_25 hR, rf_56_26 hR, rf_56_27 hR, rf_56_29 hR, rf_56_32 hR, rf_56_33 hR, rf_56_34 hR, rf_56_37 hR, rf_56_38 hR, kn_56, kn_57, kn_58, kn_59, kn_60, kn_61, kn_62, kn_63, kn_64, kn_65, kn_66, kn_67, kn_68, kn_69, kn_70, kn_71, kn_72, kn_73, kn_74, kn_75, kn_76, kn_77, kn_78, kn_79, kn_80, kn_81, kn_82, kn_83, ln_57, ln_58, ln_59, ln_60, ln_61, ln_62, ln_63, ln_64, ln_65, ln_66, ln_67, ln_68, ln_69, ln_70, ln_71, ln_72, ln_73, ln_74, ln_75, ln_76, ln_77, ln_78, ln_79, ln_80, ln_81, ln_82, ln_83, va_rf_some, push_s, push_n, nb0, nb1, nbb, Nat.reduceLT, hp, k1, b2i_0, if_true]
    rfl
  | true =>
    by_cases k2 : wo c wn (phP c wn 1) = 32
    · have b : t2Ok c wn 33 1 = false := by unfold t2Ok; rw [k1, k2]; rfl
      rw [b]
      cases k4 : (phOk c wn (phP c wn 1 + 1) && decide (phP c wn (phP c wn 1 + 1) = c)) with
      | true =>
        simp only [Bool.and_eq_true, decide_eq_true_eq] at k4
        have a : t2Ok c wn 32 1 = true := by unfold t2Ok; rw [k1, decide_eq_true k2, k4.1, decide_eq_true k4.2]; rfl
        rw [a, if_pos rfl]
        refine ⟨_, f2, fun _ => ⟨PH_ph2, fun _ => PH_ph⟩, fun Q => ?_⟩
        simp only [e_148_0, e_148_1, e_148_2, e_148_5, e_148_8, e_148_10, e_148_11, e_148_12, e_148_13, e_148_16, e_148_19, e_148_21, e_148_24, e_148_25, e_148_28, e_148_29, e_148_30, e_148_33, e_148_36, e_148_38, e_148_41, e_148_42, e_148_45, e_148_47, e_148_48, e_148_49, e_148_50, e_148_53, e_148_54, e_148_55, e_148_58, e_148_59, e_148_61, e_148_64, e_148_65, e_148_66, e_148_69, e_148_72, e_148_73, e_148_76, e_148_79, e_148_80, e_148_83, e_148_85, rf_56_0 hR, rf_56_4 hR, rf_56_5 hR, rf_56_6 hR, rf_56_7 hR, rf_56_8 hR, rf_56_9 hR, rf_56_10 hR, rf_56_11 hR, rf_56_12 hR, rf_56_14 hR, rf_56_15 hR, rf_56_19 hR, rf_56_20 hR, rf_56_21 hR, rf_56_22 hR, rf_56_23 hR, rf_56_24 hR, rf_56_25 hR, rf_56_26 hR, rf_56_27 hR, rf_56_29 hR, rf_56_32 hR, rf_56_33 hR, rf_56_34 hR, rf_56_37 hR, rf_56_38 hR, kn_56, kn_57, kn_58, kn_59, kn_60, kn_61, kn_62, kn_63, kn_64, kn_65, kn_66, kn_67, kn_68, kn_69, kn_70, kn_71, kn_72, kn_73, kn_74, kn_75, kn_76, kn_77, kn_78, kn_79, kn_80, kn_81, kn_82, kn_83, ln_57, ln_58, ln_59, ln_60, ln_61, ln_62, ln_63, ln_64, ln_65, ln_66, ln_67, ln_68, ln_69, ln_70, ln_71, ln_72, ln_73, ln_74, ln_75, ln_76, ln_77, ln_78, ln_79, ln_80, ln_81, ln_82, ln_83, va_rf_some, push_s, push_n, nb0, nb1, nbb, Nat.reduceLT, ha_c78, ha_c79, ha_c80, ha_c81, ha_u79, ha_u80, ha_u81, ha_k30, ha_k35, ha_31, ha_set, hp, k1, b2i_0, Bool.true_eq_false, if_false, hat, e32, k2, if_true, nI_1, n24, hp2, k4.1, he2, decide_eq_true k4.2]
        rfl
      | false =>
        have a : t2Ok c wn 32 1 = false := by unfold t2Ok; rw [k1, decide_eq_true k2, Bool.true_and, Bool.true_and]; exact k4
        rw [a, if_neg (by decide), if_neg (by decide)]
        refine ⟨_, f2, PHs_99 (by decide), fun Q => ?_⟩
        simp only [e_148_0, e_148_1, e_148_2, e_148_5, e_148_8, e_148_10, e_148_11, e_148_12, e_148_13, e_148_16, e_148_19, e_148_21, e_148_24, e_148_25, e_148_28, e_148_29, e_148_30, e_148_33, e_148_36, e_148_38, e_148_41, e_148_42, e_148_45, e_148_47, e_148_48, e_148_49, e_148_50, e_148_53, e_148_54, e_148_55, e_148_58, e_148_59, e_148_61, e_148_64, e_148_65, e_148_66, e_148_69, e_148_72, e_148_73, e_148_76, e_148_79, e_148_80, e_148_83, e_148_85, rf_56_0 hR, rf_56_4 hR, rf_56_5 hR, rf_56_6 hR, rf_56_7 hR, rf_56_8 hR, rf_56_9 hR, rf_56_10 hR, rf_56_11 hR, rf_56_12 hR, rf_56_14 hR, rf_56_15 hR, rf_56_19 hR, rf_56_20 hR, rf_56_21 hR, rf_56_22 hR, rf_56_23 hR, rf_56_24 hR, rf_56_25 hR, rf_56_26 hR, rf_56_27 hR, rf_56_29 hR, rf_56_32 hR, rf_56_33 hR, rf_56_34 hR, rf_56_37 hR, rf_56_38 hR, kn_56, kn_57, kn_58, kn_59, kn_60, kn_61, kn_62, kn_63, kn_64, kn_65, kn_66, kn_67, kn_68, kn_69, kn_70, kn_71, kn_72, kn_73, kn_74, kn_75, kn_76, kn_77, kn_78, kn_79, kn_80, kn_81, kn_82, kn_83, ln_57, ln_58, ln_59, ln_60, ln_61, ln_62, ln_63, ln_64, ln_65, ln_66, ln_67, ln_68, ln_69, ln_70, ln_71, ln_72, ln_73, ln_74, ln_75, ln_76, ln_77, ln_78, ln_79, ln_80, ln_81, ln_82, ln_83, va_rf_some, push_s, push_n, nb0, nb1, nbb, Nat.reduceLT, ha_c78, ha_c79, ha_c80, ha_c81, ha_u79, ha_u80, ha_u81, ha_k30, ha_k35, ha_31, ha_set, hp, k1, b2i_0, Bool.true_eq_false, if_false, hat, e32, k2, if_true, nI_1, n24, hp2, he2]
        cases k5 : phOk c wn (phP c wn 1 + 1) with
        | false =>
          rw [if_pos rfl]
          rfl
        | true =>
          rw [k5, Bool.true_and] at k4
          rw [if_neg (by decide), k4, if_pos rfl]
          rfl
    · have a : t2Ok c wn 32 1 = false := by unfold t2Ok; rw [k1, decide_eq_false k2]; rfl
      rw [a, if_neg (by decide)]
      by_cases k3 : wo c wn (phP c wn 1) = 33
      · cases k4 : (phOk c wn (phP c wn 1 + 1) && decide (phP c wn (phP c wn 1 + 1) = c)) with
        | true =>
          simp only [Bool.and_eq_true, decide_eq_true_eq] at k4
          have a : t2Ok c wn 33 1 = true := by unfold t2Ok; rw [k1, decide_eq_true k3, k4.1, decide_eq_true k4.2]; rfl
          rw [a, if_pos rfl]
          refine ⟨_, f2, fun _ => ⟨PH_ph2, fun _ => PH_ph⟩, fun Q => ?_⟩
          simp only [e_148_0, e_148_1, e_148_2, e_148_5, e_148_8, e_148_10, e_148_11, e_148_12, e_148_13, e_148_16, e_148_19, e_148_21, e_148_24, e_148_25, e_148_28, e_148_29, e_148_30, e_148_33, e_148_36, e_148_38, e_148_41, e_148_42, e_148_45, e_148_47, e_148_48, e_148_49, e_148_50, e_148_53, e_148_54, e_148_55, e_148_58, e_148_59, e_148_61, e_148_64, e_148_65, e_148_66, e_148_69, e_148_72, e_148_73, e_148_76, e_148_79, e_148_80, e_148_83, e_148_85, rf_56_0 hR, rf_56_4 hR, rf_56_5 hR, rf_56_6 hR, rf_56_7 hR, rf_56_8 hR, rf_56_9 hR, rf_56_10 hR, rf_56_11 hR, rf_56_12 hR, rf_56_14 hR, rf_56_15 hR, rf_56_19 hR, rf_56_20 hR, rf_56_21 hR, rf_56_22 hR, rf_56_23 hR, rf_56_24 hR, rf_56_25 hR, rf_56_26 hR, rf_56_27 hR, rf_56_29 hR, rf_56_32 hR, rf_56_33 hR, rf_56_34 hR, rf_56_37 hR, rf_56_38 hR, kn_56, kn_57, kn_58, kn_59, kn_60, kn_61, kn_62, kn_63, kn_64, kn_65, kn_66, kn_67, kn_68, kn_69, kn_70, kn_71, kn_72, kn_73, kn_74, kn_75, kn_76, kn_77, kn_78, kn_79, kn_80, kn_81, kn_82, kn_83, ln_57, ln_58, ln_59, ln_60, ln_61, ln_62, ln_63, ln_64, ln_65, ln_66, ln_67, ln_68, ln_69, ln_70, ln_71, ln_72, ln_73, ln_74, ln_75, ln_76, ln_77, ln_78, ln_79, ln_80, ln_81, ln_82, ln_83, va_rf_some, push_s, push_n, nb0, nb1, nbb, Nat.reduceLT, ha_c78, ha_c79, ha_c80, ha_c81, ha_u79, ha_u80, ha_u81, ha_k30, ha_k35, ha_31, ha_set, hp, k1, b2i_0, Bool.true_eq_false, if_false, hat, e32, e33, k3, n33, if_true, nI_1, n34, hp2, k4.1, he2, decide_eq_true k4.2]
          rfl
        | false =>
          have a : t2Ok c wn 33 1 = false := by unfold t2Ok; rw [k1, decide_eq_true k3, Bool.true_and, Bool.true_and]; exact k4
          rw [a, if_neg (by decide)]
          refine ⟨_, f2, PHs_99 (by decide), fun Q => ?_⟩
          simp only [e_148_0, e_148_1, e_148_2, e_148_5, e_148_8, e_148_10, e_148_11, e_148_12, e_148_13, e_148_16, e_148_19, e_148_21, e_148_24, e_148_25, e_148_28, e_148_29, e_148_30, e_148_33, e_148_36, e_148_38, e_148_41, e_148_42, e_148_45, e_148_47, e_148_48, e_148_49, e_148_50, e_148_53, e_148_54, e_148_55, e_148_58, e_148_59, e_148_61, e_148_64, e_148_65, e_148_66, e_148_69, e_148_72, e_148_73, e_148_76, e_148_79, e_148_80, e_148_83, e_148_85, rf_56_0 hR, rf_56_4 hR, rf_56_5 hR, rf_56_6 hR, rf_56_7 hR, rf_56_8 hR, rf_56_9 hR, rf_56_10 hR, rf_56_11 hR, rf_56_12 hR, rf_56_14 hR, rf_56_15 hR, rf_56_19 hR, rf_56_20 hR, rf_56_21 hR, rf_56_22 hR, rf_56_23 hR, rf_56_24 hR, rf_56_25 hR, rf_56_26 hR, rf_56_27 hR, rf_56_29 hR, rf_56_32 hR, rf_56_33 hR, rf_56_34 hR, rf_56_37 hR, rf_56_38 hR, kn_56, kn_57, kn_58, kn_59, kn_60, kn_61, kn_62, kn_63, kn_64, kn_65, kn_66, kn_67, kn_68, kn_69, kn_70, kn_71, kn_72, kn_73, kn_74, kn_75, kn_76, kn_77, kn_78, kn_79, kn_80, kn_81, kn_82, kn_83, ln_57, ln_58, ln_59, ln_60, ln_61, ln_62, ln_63, ln_64, ln_65, ln_66, ln_67, ln_68, ln_69, ln_70, ln_71, ln_72, ln_73, ln_74, ln_75, ln_76, ln_77, ln_78, ln_79, ln_80, ln_81, ln_82, ln_83, va_rf_some, push_s, push_n, nb0, nb1, nbb, Nat.reduceLT, ha_c78, ha_c79, ha_c80, ha_c81, ha_u79, ha_u80, ha_u81, ha_k30, ha_k35, ha_31, ha_set, hp, k1, b2i_0, Bool.true_eq_false, if_false, hat, e32, e33, k3, n33, if_true, nI_1, n34, hp2, he2]
          cases k5 : phOk c wn (phP c wn 1 + 1) with
          | false =>
            rw [if_pos rfl]
            rfl
          | true =>
            rw [k5, Bool.true_and] at k4
            rw [if_neg (by decide), k4, if_pos rfl]
            rfl
      · have b : t2Ok c wn 33 1 = false := by unfold t2Ok; rw [k1, decide_eq_false k3]; rfl
        rw [b, if_neg (by decide)]
        refine ⟨_, f1', PHs_99 (by decide), fun Q => ?_⟩
        simp only [e_148_0, e_148_1, e_148_2, e_148_5, e_148_8, e_148_10, e_148_11, e_148_12, e_148_13, e_148_16, e_148_19, e_148_21, e_148_24, e_148_25, e_148_28, e_148_29, e_148_30, e_148_33, e_148_36, e_148_38, e_148_41, e_148_42, e_148_45, e_148_47, e_148_48, e_148_49, e_148_50, e_148_53, e_148_54, e_148_55, e_148_58, e_148_59, e_148_61, e_148_64, e_148_65, e_148_66, e_148_69, e_148_72, e_148_73, e_148_76, e_148_79, e_148_80, e_148_83, e_148_85, rf_56_0 hR, rf_56_4 hR, rf_56_5 hR, rf_56_6 hR, rf_56_7 hR, rf_56_8 hR, rf_56_9 hR, rf_56_10 hR, rf_56_11 hR, rf_56_12 hR, rf_56_14 hR, rf_56_15 hR, rf_56_19 hR, rf_56_20 hR, rf_56_21 hR, rf_56_22 hR, rf_56_23 hR, rf_56_24 hR, rf_56_25 hR, rf_56_26 hR, rf_56_27 hR, rf_56_29 hR, rf_56_32 hR, rf_56_33 hR, rf_56_34 hR, rf_56_37 hR, rf_56_38 hR, kn_56, kn_57, kn_58, kn_59, kn_60, kn_61, kn_62, kn_63, kn_64, kn_65, kn_66, kn_67, kn_68, kn_69, kn_70, kn_71, kn_72, kn_73, kn_74, kn_75, kn_76, kn_77, kn_78, kn_79, kn_80, kn_81, kn_82, kn_83, ln_57, ln_58, ln_59, ln_60, ln_61, ln_62, ln_63, ln_64, ln_65, ln_66, ln_67, ln_68, ln_69, ln_70, ln_71, ln_72, ln_73, ln_74, ln_75, ln_76, ln_77, ln_78, ln_79, ln_80, ln_81, ln_82, ln_83, va_rf_some, push_s, push_n, nb0, nb1, nbb, Nat.reduceLT, ha_c78, ha_c79, ha_c80, ha_c81, ha_u79, ha_u80, ha_u81, ha_k30, ha_k35, ha_31, ha_set, hp, k1, b2i_0, Bool.true_eq_false, if_false, hat, e32, e33, k2, k3, if_true, nI_1]
        rfl
end SQ
