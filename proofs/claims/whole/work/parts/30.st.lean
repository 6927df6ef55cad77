/-! ===== the model: steps ===== -/
def pas (I : Nat → Nat → Int32) (w : Bool) (k : Nat) : Bool := !decide (I 64 k = -4) && (w || decide (I 65 k = -4) || !mcl I (I 65 k).toNatClampNeg)
/-- what is told of a room behind n rounds, and within the next one -/
def dst (I : Nat → Nat → Int32) (nr : Nat) (w : Bool) (a : Nat) : Nat → Nat → Int32
  | 0, r => if r = a then 0 else -4
  | n + 1, r => if dst I nr w a n r ≠ -4 then dst I nr w a n r else if anyb (fun j => decide (dst I nr w a n (j / 4) = nI n) && pas I w j && decide (I 64 j = nI r)) (4 * nr) = true then nI (n + 1) else -4
def dsp (I : Nat → Nat → Int32) (nr : Nat) (w : Bool) (a n k r : Nat) : Int32 :=
  if dst I nr w a n r ≠ -4 then dst I nr w a n r else if anyb (fun j => decide (dst I nr w a n (j / 4) = nI n) && pas I w j && decide (I 64 j = nI r)) k = true then nI (n + 1) else -4
theorem dsp_0 (I : Nat → Nat → Int32) (nr : Nat) (w : Bool) (a n r : Nat) : dsp I nr w a n 0 r = dst I nr w a n r := by
  unfold dsp
  by_cases h : dst I nr w a n r = -4
  · rw [if_neg (by simpa using h), if_neg (by simp [anyb]), h]
  · rw [if_pos h]
theorem nI_n4 {n : Nat} (h : n < 2147483648) : ¬ nI n = -4 := fun e => by
  have := nI_pos (n := n) h
  rw [e] at this
  exact this (by decide)
theorem dst_cases (I : Nat → Nat → Int32) (nr : Nat) (w : Bool) (a : Nat) : ∀ n r, dst I nr w a n r = -4 ∨ ∃ m, m ≤ n ∧ dst I nr w a n r = nI m
  | 0, r => by
    unfold dst
    split
    · exact Or.inr ⟨0, Nat.le_refl 0, rfl⟩
    · exact Or.inl rfl
  | n + 1, r => by
    unfold dst
    split
    · rcases dst_cases I nr w a n r with q | ⟨m, h1, h2⟩
      · exact Or.inl q
      · exact Or.inr ⟨m, by omega, h2⟩
    · split
      · exact Or.inr ⟨n + 1, Nat.le_refl _, rfl⟩
      · exact Or.inl rfl
theorem dsp_is (I : Nat → Nat → Int32) (nr : Nat) (w : Bool) {a n k r : Nat} (hn : n < 1000) : (dsp I nr w a n k r = nI n) = (dst I nr w a n r = nI n) := by
  apply propext
  unfold dsp
  by_cases h : dst I nr w a n r = -4
  · rw [if_neg (by simpa using h), h]
    split
    · constructor
      · intro e
        have := (nI_eq (by omega) (by omega)).mp e
        omega
      · intro e
        exact absurd e.symm (nI_n4 (by omega))
    · rfl
  · rw [if_pos h]
def stF (I : Nat → Nat → Int32) (nr : Nat) (f : Nat → Int32) (r : Nat) : Int32 := if r < nr then f r else I 83 r
section ST
variable {E : tm_Env} {Q : Option Int32 → tm_St → Prop} {I : Nat → Nat → Int32} {J : Nat → Nat → Int64} {R : Nat → Nat → Option Nat} {h d : Nat} {nr nt y : Nat} {pl : Nat → Nat}
theorem st_upd {f g : Nat → Int32} {r : Nat} {v : Int32} (hr : r < nr) (h1 : g r = v) (h2 : ∀ j, j < nr → j ≠ r → g j = f j) : upd (stF I nr f) r v = stF I nr g := by
  funext j
  rw [ud]
  unfold stF
  by_cases e : j = r
  · subst e
    rw [if_pos rfl, if_pos hr, h1]
  · rw [if_neg e]
    split
    · rw [h2 j (by assumption) e]
    · rfl
theorem div4 : ∀ k, k < 24 → nI k / 4 = nI (k / 4) := by decide
theorem m_steps_init (hR : tRef h d R) (hW : mW I nr nt pl) {a : Nat} (ha : a < nr) {w : Bool} {l2 l3 l5 l6 : Value} : ∀ j i, i + j = nr → tEv E 211 31 [.ref 56, .int (nI a), l2, l3, .int (nI i), l5, l6] [] (mS (va_up I 83 (fun r => if r < i then (if r = a then 0 else -4) else I 83 r)) J R) Q = tEv E 211 65 [.ref 56, .int (nI a), l2, l3, .int (nI nr), l5, l6] [] (mS (va_up I 83 (stF I nr (dst I nr w a 0))) J R) Q
  | 0, i, hj => by
    obtain rfl : i = nr := by omega
    have hn : (nI i < nI i) = False := eq_false Int32.lt_irrefl
    rw [e_211_31]
    simp only [e_211_33, e_211_34, e_211_37, e_211_40, e_211_41, e_211_44, e_211_46, e_211_48, e_211_49, e_211_52, e_211_53, e_211_56, e_211_58, e_211_59, e_211_62, rf_56_0 hR, rf_56_4 hR, rf_56_5 hR, rf_56_6 hR, rf_56_7 hR, rf_56_8 hR, rf_56_9 hR, rf_56_10 hR, rf_56_11 hR, rf_56_12 hR, rf_56_14 hR, rf_56_15 hR, rf_56_19 hR, rf_56_20 hR, rf_56_21 hR, rf_56_22 hR, rf_56_23 hR, rf_56_24 hR, rf_56_25 hR, rf_56_26 hR, rf_56_27 hR, rf_56_29 hR, rf_56_32 hR, rf_56_33 hR, rf_56_34 hR, rf_56_37 hR, rf_56_38 hR, kn_56, kn_57, kn_58, kn_59, kn_60, kn_61, kn_62, kn_63, kn_64, kn_65, kn_66, kn_67, kn_68, kn_69, kn_70, kn_71, kn_72, kn_73, kn_74, kn_75, kn_76, kn_77, kn_78, kn_79, kn_80, kn_81, kn_82, kn_83, ln_57, ln_58, ln_59, ln_60, ln_61, ln_62, ln_63, ln_64, ln_65, ln_66, ln_67, ln_68, ln_69, ln_70, ln_71, ln_72, ln_73, ln_74, ln_75, ln_76, ln_77, ln_78, ln_79, ln_80, ln_81, ln_82, ln_83, va_rf_some, push_s, push_n, nb0, nb1, nbb, Nat.reduceLT, vu, Nat.reduceEqDiff, reduceIte, hW.1, hn]
    rfl
  | j + 1, i, hj => by
    have h6 := hW.2.2.1
    have hn : (nI i < nI nr) = True := eq_true (nI_lt (by omega) (by omega))
    have hix := inb_nI (j := i) (n := 6) (by omega) (by decide)
    have hcl := nI_cl (n := i) (by omega)
    have heq : (nI i = nI a) = (i = a) := propext (nI_eq (by omega) (by omega))
    have ih := m_steps_init hR hW ha (w := w) (l2 := l2) (l3 := l3) (l5 := l5) (l6 := l6) j (i + 1) (by omega)
    have key : ∀ v, (v = if i = a then (0 : Int32) else -4) → upd (fun r => if r < i then (if r = a then (0 : Int32) else -4) else I 83 r) i v = (fun r => if r < i + 1 then (if r = a then (0 : Int32) else -4) else I 83 r) := by
      intro v hv
      funext q
      rw [ud]
      by_cases e : q = i
      · subst e
        rw [if_pos rfl, if_pos (by omega), hv]
      · rw [if_neg e]
        by_cases e2 : q < i
        · have e3 : q < i + 1 := by omega
          simp only [e2, e3, if_true]
        · have e3 : ¬ q < i + 1 := by omega
          simp only [e2, e3, if_false]
    rw [e_211_31]
    simp only [e_211_33, e_211_34, e_211_37, e_211_40, e_211_41, e_211_44, e_211_46, e_211_48, e_211_49, e_211_52, e_211_53, e_211_56, e_211_58, e_211_59, e_211_62, rf_56_0 hR, rf_56_4 hR, rf_56_5 hR, rf_56_6 hR, rf_56_7 hR, rf_56_8 hR, rf_56_9 hR, rf_56_10 hR, rf_56_11 hR, rf_56_12 hR, rf_56_14 hR, rf_56_15 hR, rf_56_19 hR, rf_56_20 hR, rf_56_21 hR, rf_56_22 hR, rf_56_23 hR, rf_56_24 hR, rf_56_25 hR, rf_56_26 hR, rf_56_27 hR, rf_56_29 hR, rf_56_32 hR, rf_56_33 hR, rf_56_34 hR, rf_56_37 hR, rf_56_38 hR, kn_56, kn_57, kn_58, kn_59, kn_60, kn_61, kn_62, kn_63, kn_64, kn_65, kn_66, kn_67, kn_68, kn_69, kn_70, kn_71, kn_72, kn_73, kn_74, kn_75, kn_76, kn_77, kn_78, kn_79, kn_80, kn_81, kn_82, kn_83, ln_57, ln_58, ln_59, ln_60, ln_61, ln_62, ln_63, ln_64, ln_65, ln_66, ln_67, ln_68, ln_69, ln_70, ln_71, ln_72, ln_73, ln_74, ln_75, ln_76, ln_77, ln_78, ln_79, ln_80, ln_81, ln_82, ln_83, va_rf_some, push_s, push_n, nb0, nb1, nbb, Nat.reduceLT, vu, vu_vu, Nat.reduceEqDiff, reduceIte, hW.1, hn, hix, hcl, heq, nI_1]
    by_cases e : i = a
    · rw [if_pos e, key 0 (by rw [if_pos e])]
      exact ih
    · rw [if_neg e, key (-4) (by rw [if_neg e])]
      exact ih
theorem dsp_step {w : Bool} {a n k r : Nat} (hn : n < 1000) : dsp I nr w a n (k + 1) r = if dsp I nr w a n k r = -4 ∧ (decide (dst I nr w a n (k / 4) = nI n) && pas I w k && decide (I 64 k = nI r)) = true then nI (n + 1) else dsp I nr w a n k r := by
  unfold dsp
  by_cases h : dst I nr w a n r = -4
  · simp only [h, ne_eq, not_true_eq_false, if_false]
    rw [anyb]
    cases c1 : anyb (fun j => decide (dst I nr w a n (j / 4) = nI n) && pas I w j && decide (I 64 j = nI r)) k with
    | true =>
      rw [Bool.true_or, if_pos rfl, if_neg (fun c => nI_n4 (show n + 1 < 2147483648 by omega) c.1)]
    | false =>
      rw [Bool.false_or, if_neg (show ¬ (false = true) by decide)]
      simp only [true_and]
  · rw [if_pos h, if_pos h, if_neg (fun c => h c.1)]
theorem dsp_no {w : Bool} {a n k : Nat} (hn : n < 1000) (h : (decide (dst I nr w a n (k / 4) = nI n) && pas I w k) = false) : dsp I nr w a n (k + 1) = dsp I nr w a n k := by
  funext r
  rw [dsp_step hn, if_neg]
  rw [h]
  simp
theorem m_steps_round (hR : tRef h d R) (hW : mW I nr nt pl) (hY : mY I nr nt y) {a n : Nat} {w : Bool} (hn : n < 6) {l1 l2 : Value} {X : Prop} (hX : ∀ l6, tEv E 211 199 [.ref 56, l1, l2, .int (b2i w), .int (nI n), .int (nI (4 * nr)), l6] [] (mS (va_up I 83 (stF I nr (dsp I nr w a n (4 * nr)))) J R) Q = X) : ∀ j k l6, k + j = 4 * nr → tEv E 211 80 [.ref 56, l1, l2, .int (b2i w), .int (nI n), .int (nI k), l6] [] (mS (va_up I 83 (stF I nr (dsp I nr w a n k))) J R) Q = X
  | 0, k, l6, hj => by
    obtain rfl : k = 4 * nr := by omega
    have hc : (4 : Int32) * nI nr = nI (4 * nr) := nI_mul 4 nr
    have hlt : (nI (4 * nr) < nI (4 * nr)) = False := eq_false Int32.lt_irrefl
    rw [e_211_80]
    simp only [e_211_82, e_211_83, e_211_84, e_211_87, e_211_88, e_211_91, e_211_92, e_211_95, e_211_97, e_211_98, e_211_99, e_211_100, e_211_102, e_211_105, e_211_106, e_211_109, e_211_111, e_211_112, e_211_114, e_211_117, e_211_118, e_211_119, e_211_122, e_211_123, e_211_126, e_211_128, e_211_129, e_211_131, e_211_134, e_211_135, e_211_136, e_211_139, e_211_141, e_211_142, e_211_145, e_211_148, e_211_149, e_211_152, e_211_153, e_211_155, e_211_157, e_211_160, e_211_161, e_211_164, e_211_165, e_211_168, e_211_170, e_211_171, e_211_172, e_211_174, e_211_177, e_211_178, e_211_181, e_211_182, e_211_185, e_211_187, e_211_188, e_211_190, e_211_191, e_211_192, e_211_193, e_211_196, rf_56_0 hR, rf_56_4 hR, rf_56_5 hR, rf_56_6 hR, rf_56_7 hR, rf_56_8 hR, rf_56_9 hR, rf_56_10 hR, rf_56_11 hR, rf_56_12 hR, rf_56_14 hR, rf_56_15 hR, rf_56_19 hR, rf_56_20 hR, rf_56_21 hR, rf_56_22 hR, rf_56_23 hR, rf_56_24 hR, rf_56_25 hR, rf_56_26 hR, rf_56_27 hR, rf_56_29 hR, rf_56_32 hR, rf_56_33 hR, rf_56_34 hR, rf_56_37 hR, rf_56_38 hR, kn_56, kn_57, kn_58, kn_59, kn_60, kn_61, kn_62, kn_63, kn_64, kn_65, kn_66, kn_67, kn_68, kn_69, kn_70, kn_71, kn_72, kn_73, kn_74, kn_75, kn_76, kn_77, kn_78, kn_79, kn_80, kn_81, kn_82, kn_83, ln_57, ln_58, ln_59, ln_60, ln_61, ln_62, ln_63, ln_64, ln_65, ln_66, ln_67, ln_68, ln_69, ln_70, ln_71, ln_72, ln_73, ln_74, ln_75, ln_76, ln_77, ln_78, ln_79, ln_80, ln_81, ln_82, ln_83, va_rf_some, push_s, push_n, nb0, nb1, nbb, Nat.reduceLT, vu, Nat.reduceEqDiff, reduceIte, hW.1, hc, hlt]
    exact hX l6
  | j + 1, k, l6, hj => by
    have h6 := hW.2.2.1
    have h16 := hW.2.2.2.1
    have hc : (4 : Int32) * nI nr = nI (4 * nr) := nI_mul 4 nr
    have hlt : (nI k < nI (4 * nr)) = True := eq_true (nI_lt (by omega) (by omega))
    have n4 : ¬ ((4 : Int32) = 0) := by decide
    have hix := inb_nI (j := k / 4) (n := 6) (by omega) (by decide)
    have hcl := nI_cl (n := k / 4) (by omega)
    have hixk := inb_nI (j := k) (n := 24) (by omega) (by decide)
    have hclk := nI_cl (n := k) (by omega)
    have hS : stF I nr (dsp I nr w a n k) (k / 4) = dsp I nr w a n k (k / 4) := if_pos (by omega)
    have ih := fun l6' => m_steps_round hR hW hY (a := a) (w := w) hn (l1 := l1) (l2 := l2) hX j (k + 1) l6' (by omega)
    have hw1 : (b2i w = 1) = (w = true) := by cases w <;> decide
    rw [e_211_80]
    simp only [e_211_82, e_211_83, e_211_84, e_211_87, e_211_88, e_211_91, e_211_92, e_211_95, e_211_97, e_211_98, e_211_99, e_211_100, e_211_102, e_211_105, e_211_106, e_211_109, e_211_111, e_211_112, e_211_114, e_211_117, e_211_118, e_211_119, e_211_122, e_211_123, e_211_126, e_211_128, e_211_129, e_211_131, e_211_134, e_211_135, e_211_136, e_211_139, e_211_141, e_211_142, e_211_145, e_211_148, e_211_149, e_211_152, e_211_153, e_211_155, e_211_157, e_211_160, e_211_161, e_211_164, e_211_165, e_211_168, e_211_170, e_211_171, e_211_172, e_211_174, e_211_177, e_211_178, e_211_181, e_211_182, e_211_185, e_211_187, e_211_188, e_211_190, e_211_191, e_211_192, e_211_193, e_211_196, e_211_98 n4, rf_56_0 hR, rf_56_4 hR, rf_56_5 hR, rf_56_6 hR, rf_56_7 hR, rf_56_8 hR, rf_56_9 hR, rf_56_10 hR, rf_56_11 hR, rf_56_12 hR, rf_56_14 hR, rf_56_15 hR, rf_56_19 hR, rf_56_20 hR, rf_56_21 hR, rf_56_22 hR, rf_56_23 hR, rf_56_24 hR, rf_56_25 hR, rf_56_26 hR, rf_56_27 hR, rf_56_29 hR, rf_56_32 hR, rf_56_33 hR, rf_56_34 hR, rf_56_37 hR, rf_56_38 hR, kn_56, kn_57, kn_58, kn_59, kn_60, kn_61, kn_62, kn_63, kn_64, kn_65, kn_66, kn_67, kn_68, kn_69, kn_70, kn_71, kn_72, kn_73, kn_74, kn_75, kn_76, kn_77, kn_78, kn_79, kn_80, kn_81, kn_82, kn_83, ln_57, ln_58, ln_59, ln_60, ln_61, ln_62, ln_63, ln_64, ln_65, ln_66, ln_67, ln_68, ln_69, ln_70, ln_71, ln_72, ln_73, ln_74, ln_75, ln_76, ln_77, ln_78, ln_79, ln_80, ln_81, ln_82, ln_83, va_rf_some, push_s, push_n, nb0, nb1, nbb, Nat.reduceLT, vu, Nat.reduceEqDiff, reduceIte, hW.1, hc, hlt, div4 k (by omega), hix, hcl, hixk, hclk, hS, dsp_is I nr w (show n < 1000 by omega), hw1, nI_1]
    have tgt : ∀ r, r < nr → I 64 k = nI r → (decide (dst I nr w a n (k / 4) = nI n) && pas I w k) = true → tEv E 211 171 [.ref 56, l1, l2, .int (b2i w), .int (nI n), .int (nI k), .int 1] [.int (nI r), .ref 83] (mS (va_up I 83 (stF I nr (dsp I nr w a n k))) J R) Q = X := by
      intro r hr e1 e2
      have hixr := inb_nI (j := r) (n := 6) (by omega) (by decide)
      have hclr := nI_cl (n := r) (by omega)
      have hSr : stF I nr (dsp I nr w a n k) r = dsp I nr w a n k r := if_pos hr
      simp only [e_211_171, e_211_172, e_211_174, e_211_177, e_211_178, e_211_181, e_211_182, e_211_185, e_211_187, e_211_188, e_211_190, e_211_191, e_211_192, e_211_193, e_211_196, rf_56_0 hR, rf_56_4 hR, rf_56_5 hR, rf_56_6 hR, rf_56_7 hR, rf_56_8 hR, rf_56_9 hR, rf_56_10 hR, rf_56_11 hR, rf_56_12 hR, rf_56_14 hR, rf_56_15 hR, rf_56_19 hR, rf_56_20 hR, rf_56_21 hR, rf_56_22 hR, rf_56_23 hR, rf_56_24 hR, rf_56_25 hR, rf_56_26 hR, rf_56_27 hR, rf_56_29 hR, rf_56_32 hR, rf_56_33 hR, rf_56_34 hR, rf_56_37 hR, rf_56_38 hR, kn_56, kn_57, kn_58, kn_59, kn_60, kn_61, kn_62, kn_63, kn_64, kn_65, kn_66, kn_67, kn_68, kn_69, kn_70, kn_71, kn_72, kn_73, kn_74, kn_75, kn_76, kn_77, kn_78, kn_79, kn_80, kn_81, kn_82, kn_83, ln_57, ln_58, ln_59, ln_60, ln_61, ln_62, ln_63, ln_64, ln_65, ln_66, ln_67, ln_68, ln_69, ln_70, ln_71, ln_72, ln_73, ln_74, ln_75, ln_76, ln_77, ln_78, ln_79, ln_80, ln_81, ln_82, ln_83, va_rf_some, push_s, push_n, nb0, nb1, nbb, Nat.reduceLT, vu, vu_vu, Nat.reduceEqDiff, reduceIte, hixr, hclr, hixk, hclk, hSr, e1, nI_1]
      by_cases c : dsp I nr w a n k r = -4
      · rw [if_pos c, st_upd (g := dsp I nr w a n (k + 1)) hr (by rw [dsp_step (by omega), if_pos ⟨c, by rw [e2, decide_eq_true e1]; rfl⟩]) (fun j hj hne => by
          rw [dsp_step (by omega), if_neg]
          rintro ⟨-, q⟩
          rw [e2, Bool.true_and, decide_eq_true_eq, e1] at q
          exact hne ((nI_eq (by omega) (by omega)).mp q).symm)]
        exact ih _
      · rw [if_neg c]
        have e3 : stF I nr (dsp I nr w a n (k + 1)) = stF I nr (dsp I nr w a n k) := by
          funext j
          unfold stF
          by_cases hj : j < nr
          · rw [if_pos hj, if_pos hj, dsp_step (by omega), if_neg]
            rintro ⟨q1, q⟩
            rw [e2, Bool.true_and, decide_eq_true_eq, e1] at q
            have := (nI_eq (by omega) (by omega)).mp q
            subst this
            exact c q1
          · rw [if_neg hj, if_neg hj]
        rw [← e3]
        exact ih _
    by_cases c1 : dst I nr w a n (k / 4) = nI n
    · rw [if_pos c1]
      by_cases c2 : I 64 k = -4
      · rw [if_pos c2, ← dsp_no (by omega) (by rw [pas, decide_eq_true c2]; simp)]
        exact ih _
      · rw [if_neg c2]
        obtain ⟨r, hr, e1⟩ := (hY.2.2.1 k (by omega)).resolve_left c2
        cases c3 : w with
        | true =>
          subst c3
          rw [if_pos rfl, e1]
          exact tgt r hr e1 (by rw [pas, decide_eq_true c1, decide_eq_false c2]; rfl)
        | false =>
          subst c3
          rw [if_neg (by decide)]
          by_cases c4 : I 65 k = -4
          · rw [if_pos c4, e1]
            exact tgt r hr e1 (by rw [pas, decide_eq_true c1, decide_eq_false c2, decide_eq_true c4]; rfl)
          · rw [if_neg c4]
            obtain ⟨t, ht, e5⟩ := (hY.2.2.2 k (by omega)).resolve_left c4
            have hcl5 := nI_cl (n := t) (by omega)
            have hmc : mcl (va_up I 83 (stF I nr (dsp I nr false a n k))) t = mcl I t := rfl
            rw [e5]
            simp only [m_isClosed hR (show t < 16 by omega), e_211_145, e_211_148, e_211_149, e_211_152, e_211_153, e_211_155, e_211_157, e_211_160, e_211_161, e_211_164, e_211_165, e_211_168, e_211_170, e_211_193, e_211_196, rf_56_0 hR, rf_56_4 hR, rf_56_5 hR, rf_56_6 hR, rf_56_7 hR, rf_56_8 hR, rf_56_9 hR, rf_56_10 hR, rf_56_11 hR, rf_56_12 hR, rf_56_14 hR, rf_56_15 hR, rf_56_19 hR, rf_56_20 hR, rf_56_21 hR, rf_56_22 hR, rf_56_23 hR, rf_56_24 hR, rf_56_25 hR, rf_56_26 hR, rf_56_27 hR, rf_56_29 hR, rf_56_32 hR, rf_56_33 hR, rf_56_34 hR, rf_56_37 hR, rf_56_38 hR, kn_56, kn_57, kn_58, kn_59, kn_60, kn_61, kn_62, kn_63, kn_64, kn_65, kn_66, kn_67, kn_68, kn_69, kn_70, kn_71, kn_72, kn_73, kn_74, kn_75, kn_76, kn_77, kn_78, kn_79, kn_80, kn_81, kn_82, kn_83, ln_57, ln_58, ln_59, ln_60, ln_61, ln_62, ln_63, ln_64, ln_65, ln_66, ln_67, ln_68, ln_69, ln_70, ln_71, ln_72, ln_73, ln_74, ln_75, ln_76, ln_77, ln_78, ln_79, ln_80, ln_81, ln_82, ln_83, va_rf_some, push_s, push_n, nb0, nb1, nbb, Nat.reduceLT, hmc, b2i_0, vu, Nat.reduceEqDiff, hixk, hclk, e1, nI_1, show ((1 : Int32) = 0) = False from eq_false (by decide), if_false]
            cases c6 : mcl I t with
            | true =>
              rw [if_neg (by decide), ← dsp_no (by omega) (by rw [pas, e5, hcl5, c6, decide_eq_false (nI_n4 (show t < 2147483648 by omega))]; simp)]
              simp only [reduceIte]
              exact ih _
            | false =>
              rw [if_pos rfl]
              exact tgt r hr e1 (by rw [pas, e5, hcl5, c6, decide_eq_true c1, decide_eq_false c2]; simp)
    · rw [if_neg c1, ← dsp_no (by omega) (by rw [decide_eq_false c1]; rfl)]
      exact ih _
theorem m_steps_rounds (hR : tRef h d R) (hW : mW I nr nt pl) (hY : mY I nr nt y) {a b : Nat} (hb : b < nr) {w : Bool} {l1 : Value} : ∀ j n l5 l6, n + j = nr → tEv E 211 68 [.ref 56, l1, .int (nI b), .int (b2i w), .int (nI n), l5, l6] [] (mS (va_up I 83 (stF I nr (dst I nr w a n))) J R) Q = Q (some (dst I nr w a nr b)) (mS (va_up I 83 (stF I nr (dst I nr w a nr))) J R)
  | 0, n, l5, l6, hj => by
    obtain rfl : n = nr := by omega
    have h6 := hW.2.2.1
    have hlt : (nI n < nI n) = False := eq_false Int32.lt_irrefl
    have hix := inb_nI (j := b) (n := 6) (by omega) (by decide)
    have hcl := nI_cl (n := b) (by omega)
    have hS : stF I n (dst I n w a n) b = dst I n w a n b := if_pos hb
    rw [e_211_68]
    simp only [e_211_70, e_211_71, e_211_74, e_211_205, e_211_206, e_211_209, e_211_210, e_211_211, rf_56_0 hR, rf_56_4 hR, rf_56_5 hR, rf_56_6 hR, rf_56_7 hR, rf_56_8 hR, rf_56_9 hR, rf_56_10 hR, rf_56_11 hR, rf_56_12 hR, rf_56_14 hR, rf_56_15 hR, rf_56_19 hR, rf_56_20 hR, rf_56_21 hR, rf_56_22 hR, rf_56_23 hR, rf_56_24 hR, rf_56_25 hR, rf_56_26 hR, rf_56_27 hR, rf_56_29 hR, rf_56_32 hR, rf_56_33 hR, rf_56_34 hR, rf_56_37 hR, rf_56_38 hR, kn_56, kn_57, kn_58, kn_59, kn_60, kn_61, kn_62, kn_63, kn_64, kn_65, kn_66, kn_67, kn_68, kn_69, kn_70, kn_71, kn_72, kn_73, kn_74, kn_75, kn_76, kn_77, kn_78, kn_79, kn_80, kn_81, kn_82, kn_83, ln_57, ln_58, ln_59, ln_60, ln_61, ln_62, ln_63, ln_64, ln_65, ln_66, ln_67, ln_68, ln_69, ln_70, ln_71, ln_72, ln_73, ln_74, ln_75, ln_76, ln_77, ln_78, ln_79, ln_80, ln_81, ln_82, ln_83, va_rf_some, push_s, push_n, nb0, nb1, nbb, Nat.reduceLT, vu, Nat.reduceEqDiff, reduceIte, hW.1, hlt, hix, hcl, hS]
  | j + 1, n, l5, l6, hj => by
    have h6 := hW.2.2.1
    have hlt : (nI n < nI nr) = True := eq_true (nI_lt (by omega) (by omega))
    have ih := fun l5' l6' => m_steps_rounds hR hW hY (a := a) hb (w := w) (l1 := l1) j (n + 1) l5' l6' (by omega)
    have e0 : stF I nr (dst I nr w a n) = stF I nr (dsp I nr w a n 0) := by
      congr 1
      funext r
      rw [dsp_0]
    have e1 : stF I nr (dsp I nr w a n (4 * nr)) = stF I nr (dst I nr w a (n + 1)) := rfl
    rw [e_211_68]
    simp only [e_211_70, e_211_71, e_211_74, e_211_77, e_211_78, rf_56_0 hR, rf_56_4 hR, rf_56_5 hR, rf_56_6 hR, rf_56_7 hR, rf_56_8 hR, rf_56_9 hR, rf_56_10 hR, rf_56_11 hR, rf_56_12 hR, rf_56_14 hR, rf_56_15 hR, rf_56_19 hR, rf_56_20 hR, rf_56_21 hR, rf_56_22 hR, rf_56_23 hR, rf_56_24 hR, rf_56_25 hR, rf_56_26 hR, rf_56_27 hR, rf_56_29 hR, rf_56_32 hR, rf_56_33 hR, rf_56_34 hR, rf_56_37 hR, rf_56_38 hR, kn_56, kn_57, kn_58, kn_59, kn_60, kn_61, kn_62, kn_63, kn_64, kn_65, kn_66, kn_67, kn_68, kn_69, kn_70, kn_71, kn_72, kn_73, kn_74, kn_75, kn_76, kn_77, kn_78, kn_79, kn_80, kn_81, kn_82, kn_83, ln_57, ln_58, ln_59, ln_60, ln_61, ln_62, ln_63, ln_64, ln_65, ln_66, ln_67, ln_68, ln_69, ln_70, ln_71, ln_72, ln_73, ln_74, ln_75, ln_76, ln_77, ln_78, ln_79, ln_80, ln_81, ln_82, ln_83, va_rf_some, push_s, push_n, nb0, nb1, nbb, Nat.reduceLT, vu, Nat.reduceEqDiff, reduceIte, hW.1, hlt]
    rw [e0]
    refine m_steps_round hR hW hY (by omega) (fun l6' => ?_) (4 * nr) 0 _ (by omega)
    rw [e1]
    simp only [e_211_199, e_211_202, rf_56_0 hR, rf_56_4 hR, rf_56_5 hR, rf_56_6 hR, rf_56_7 hR, rf_56_8 hR, rf_56_9 hR, rf_56_10 hR, rf_56_11 hR, rf_56_12 hR, rf_56_14 hR, rf_56_15 hR, rf_56_19 hR, rf_56_20 hR, rf_56_21 hR, rf_56_22 hR, rf_56_23 hR, rf_56_24 hR, rf_56_25 hR, rf_56_26 hR, rf_56_27 hR, rf_56_29 hR, rf_56_32 hR, rf_56_33 hR, rf_56_34 hR, rf_56_37 hR, rf_56_38 hR, kn_56, kn_57, kn_58, kn_59, kn_60, kn_61, kn_62, kn_63, kn_64, kn_65, kn_66, kn_67, kn_68, kn_69, kn_70, kn_71, kn_72, kn_73, kn_74, kn_75, kn_76, kn_77, kn_78, kn_79, kn_80, kn_81, kn_82, kn_83, ln_57, ln_58, ln_59, ln_60, ln_61, ln_62, ln_63, ln_64, ln_65, ln_66, ln_67, ln_68, ln_69, ln_70, ln_71, ln_72, ln_73, ln_74, ln_75, ln_76, ln_77, ln_78, ln_79, ln_80, ln_81, ln_82, ln_83, va_rf_some, push_s, push_n, nb0, nb1, nbb, Nat.reduceLT, nI_1]
    exact ih _ _
theorem m_steps_1 (hR : tRef h d R) (hW : mW I nr nt pl) (hY : mY I nr nt y) {a b : Nat} (ha : a < nr) (hb : b < nr) {w : Bool} : tEv E 211 0 [.ref 56, .int (nI a), .int (nI b), .int (b2i w), tm_dum, tm_dum, tm_dum] [] (mS I J R) Q = Q (some (dst I nr w a nr b)) (mS (va_up I 83 (stF I nr (dst I nr w a nr))) J R) := by
  have h6 := hW.2.2.1
  have e := isB_lit (x := b2i w) 1 (by decide)
  have hw : isB (b2i w) (1 + 1) = true := by cases w <;> decide
  rw [show nI 1 = 1 from rfl, hw] at e
  have e2 : isB (nI a) nr = true := by rw [isB_nI (by omega) (by omega), decide_eq_true ha]
  have e3 : isB (nI b) nr = true := by rw [isB_nI (by omega) (by omega), decide_eq_true hb]
  have hi := fun {l2 l3 l5 l6 : Value} {Q} => m_steps_init (E := E) (Q := Q) (J := J) hR hW ha (w := w) (l2 := l2) (l3 := l3) (l5 := l5) (l6 := l6) nr 0 (by omega)
  have e0 : (fun r => if r < 0 then (if r = a then (0 : Int32) else -4) else I 83 r) = I 83 := by
    funext r
    rw [if_neg (by omega)]
  rw [e0, vu_self] at hi
  simp only [e_211_0, e_211_1, e_211_2, e_211_5, e_211_8, e_211_9, e_211_10, e_211_13, e_211_16, e_211_17, e_211_18, e_211_19, e_211_20, e_211_23, e_211_26, e_211_27, e_211_28, e_211_29, rf_56_0 hR, rf_56_4 hR, rf_56_5 hR, rf_56_6 hR, rf_56_7 hR, rf_56_8 hR, rf_56_9 hR, rf_56_10 hR, rf_56_11 hR, rf_56_12 hR, rf_56_14 hR, rf_56_15 hR, rf_56_19 hR, rf_56_20 hR, rf_56_21 hR, rf_56_22 hR, rf_56_23 hR, rf_56_24 hR, rf_56_25 hR, rf_56_26 hR, rf_56_27 hR, rf_56_29 hR, rf_56_32 hR, rf_56_33 hR, rf_56_34 hR, rf_56_37 hR, rf_56_38 hR, kn_56, kn_57, kn_58, kn_59, kn_60, kn_61, kn_62, kn_63, kn_64, kn_65, kn_66, kn_67, kn_68, kn_69, kn_70, kn_71, kn_72, kn_73, kn_74, kn_75, kn_76, kn_77, kn_78, kn_79, kn_80, kn_81, kn_82, kn_83, ln_57, ln_58, ln_59, ln_60, ln_61, ln_62, ln_63, ln_64, ln_65, ln_66, ln_67, ln_68, ln_69, ln_70, ln_71, ln_72, ln_73, ln_74, ln_75, ln_76, ln_77, ln_78, ln_79, ln_80, ln_81, ln_82, ln_83, va_rf_some, push_s, push_n, nb0, nb1, nbb, Nat.reduceLT, m_isRoom hR hW, m_in_0_1, e, e2, e3, b2i_0, Bool.true_eq_false, if_false]
  refine hi.trans ?_
  simp only [e_211_65, e_211_66, rf_56_0 hR, rf_56_4 hR, rf_56_5 hR, rf_56_6 hR, rf_56_7 hR, rf_56_8 hR, rf_56_9 hR, rf_56_10 hR, rf_56_11 hR, rf_56_12 hR, rf_56_14 hR, rf_56_15 hR, rf_56_19 hR, rf_56_20 hR, rf_56_21 hR, rf_56_22 hR, rf_56_23 hR, rf_56_24 hR, rf_56_25 hR, rf_56_26 hR, rf_56_27 hR, rf_56_29 hR, rf_56_32 hR, rf_56_33 hR, rf_56_34 hR, rf_56_37 hR, rf_56_38 hR, kn_56, kn_57, kn_58, kn_59, kn_60, kn_61, kn_62, kn_63, kn_64, kn_65, kn_66, kn_67, kn_68, kn_69, kn_70, kn_71, kn_72, kn_73, kn_74, kn_75, kn_76, kn_77, kn_78, kn_79, kn_80, kn_81, kn_82, kn_83, ln_57, ln_58, ln_59, ln_60, ln_61, ln_62, ln_63, ln_64, ln_65, ln_66, ln_67, ln_68, ln_69, ln_70, ln_71, ln_72, ln_73, ln_74, ln_75, ln_76, ln_77, ln_78, ln_79, ln_80, ln_81, ln_82, ln_83, va_rf_some, push_s, push_n, nb0, nb1, nbb, Nat.reduceLT]
  exact m_steps_rounds hR hW hY hb nr 0 _ _ (by omega)
theorem m_steps_0 (hR : tRef h d R) (hW : mW I nr nt pl) {x z w : Int32} (hb : isB x nr = false ∨ isB z nr = false ∨ isB w 2 = false) : tEv E 211 0 [.ref 56, .int x, .int z, .int w, tm_dum, tm_dum, tm_dum] [] (mS I J R) Q = Q (some (-1)) (mS I J R) := by
  have e := isB_lit (x := w) 1 (by decide)
  rw [show nI 1 = 1 from rfl] at e
  simp only [e_211_0, e_211_1, e_211_2, e_211_5, e_211_8, e_211_9, e_211_10, e_211_13, e_211_16, e_211_17, e_211_18, e_211_19, e_211_20, e_211_23, e_211_26, e_211_27, rf_56_0 hR, rf_56_4 hR, rf_56_5 hR, rf_56_6 hR, rf_56_7 hR, rf_56_8 hR, rf_56_9 hR, rf_56_10 hR, rf_56_11 hR, rf_56_12 hR, rf_56_14 hR, rf_56_15 hR, rf_56_19 hR, rf_56_20 hR, rf_56_21 hR, rf_56_22 hR, rf_56_23 hR, rf_56_24 hR, rf_56_25 hR, rf_56_26 hR, rf_56_27 hR, rf_56_29 hR, rf_56_32 hR, rf_56_33 hR, rf_56_34 hR, rf_56_37 hR, rf_56_38 hR, kn_56, kn_57, kn_58, kn_59, kn_60, kn_61, kn_62, kn_63, kn_64, kn_65, kn_66, kn_67, kn_68, kn_69, kn_70, kn_71, kn_72, kn_73, kn_74, kn_75, kn_76, kn_77, kn_78, kn_79, kn_80, kn_81, kn_82, kn_83, ln_57, ln_58, ln_59, ln_60, ln_61, ln_62, ln_63, ln_64, ln_65, ln_66, ln_67, ln_68, ln_69, ln_70, ln_71, ln_72, ln_73, ln_74, ln_75, ln_76, ln_77, ln_78, ln_79, ln_80, ln_81, ln_82, ln_83, va_rf_some, push_s, push_n, nb0, nb1, nbb, Nat.reduceLT, m_isRoom hR hW, m_in_0_1, e, b2i_0]
  cases c1 : isB x nr with
  | false => rw [if_pos rfl]
  | true =>
    rw [if_neg (by decide)]
    cases c2 : isB z nr with
    | false => rw [if_pos rfl]
    | true =>
      rw [if_neg (by decide)]
      rcases hb with q | q | q
      · rw [q] at c1; cases c1
      · rw [q] at c2; cases c2
      · rw [q, if_pos rfl]
end ST
