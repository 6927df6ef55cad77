/-! ===== the model: say ===== -/
theorem wrd_in (J : Nat → Nat → Int64) (v : Int64) : ∀ f k, k + f ≤ 43 → wrd J v f k = -4 ∨ ∃ j, j < 43 ∧ wrd J v f k = nI j
  | 0, k, _ => Or.inl rfl
  | f + 1, k, h => by
    unfold wrd
    split
    · exact Or.inr ⟨k, by omega, rfl⟩
    · exact wrd_in J v f (k + 1) (by omega)
theorem wnm_in {J : Nat → Nat → Int64} {n k : Nat} {tc : Nat → Nat} (h : okw J n tc k = true) : ∃ j, j < 43 ∧ wnm J n tc k = nI j := by
  unfold okw at h
  simp only [Bool.and_eq_true, Bool.not_eq_true', decide_eq_false_iff_not] at h
  have h1 := h.1
  unfold wnm at h1 ⊢
  split
  · rename_i c
    rw [if_pos c] at h1
    exact absurd rfl h1
  · rename_i c
    rw [if_neg c] at h1
    exact (wrd_in J _ 43 0 (by omega)).resolve_left h1
theorem rwd_ok {J : Nat → Nat → Int64} {n : Nat} {tc : Nat → Nat} (hJ : wrd J 0 43 0 = -4) (hn : n ≤ 240) : ∀ fu k c f, k ≤ n + 1 → 2 * c ≤ k → (∀ i, i < c → ∃ j, j < 43 ∧ f i = nI j) → (rwd J n tc fu k c f).1 = true → (rwd J n tc fu k c f).2.1 ≤ 121 ∧ ∀ i, i < (rwd J n tc fu k c f).2.1 → ∃ j, j < 43 ∧ (rwd J n tc fu k c f).2.2 i = nI j
  | 0, k, c, f, hk, hc, hf, _ => ⟨by show c ≤ 121; omega, hf⟩
  | fu + 1, k, c, f, hk, hc, hf, ht => by
    unfold rwd at ht ⊢
    by_cases c1 : k ≤ n
    · rw [if_pos c1] at ht ⊢
      by_cases ok : okw J n tc k = true
      · rw [if_pos ok] at ht ⊢
        have hp := okw_pos hJ ok
        have hs := sln_le n tc (n + 1) k c1
        refine rwd_ok hJ hn fu (wend n tc k + 1) (c + 1) _ (by unfold wend; omega) (by omega) (fun i hi => ?_) ht
        rw [ud]
        by_cases e : i = c
        · rw [if_pos e]
          exact wnm_in ok
        · rw [if_neg e]
          exact hf i (by omega)
      · rw [if_neg ok] at ht
        cases ht
    · rw [if_neg c1] at ht ⊢
      exact ⟨by show c ≤ 121; omega, hf⟩
/-- the words of the text -/
def wsF (J : Nat → Nat → Int64) (n : Nat) (tc : Nat → Nat) (f : Nat → Int32) : Nat → Int32 := (rwd J n tc (n + 2) 0 0 f).2.2
def wsC (J : Nat → Nat → Int64) (n : Nat) (tc : Nat → Nat) (f : Nat → Int32) : Nat := (rwd J n tc (n + 2) 0 0 f).2.1
def wsO (J : Nat → Nat → Int64) (n : Nat) (tc : Nat → Nat) (f : Nat → Int32) : Bool := (rwd J n tc (n + 2) 0 0 f).1
def wsN (J : Nat → Nat → Int64) (n : Nat) (tc : Nat → Nat) (f : Nat → Int32) (k : Nat) : Nat := (wsF J n tc f k).toNatClampNeg
section SY
variable {E : tm_Env} {Q : Option Int32 → tm_St → Prop} {I : Nat → Nat → Int32} {J : Nat → Nat → Int64} {R : Nat → Nat → Option Nat} {h d : Nat} {n a c : Nat} {tc wn : Nat → Nat}
theorem wds_S (hT : TX I n tc) (hJ : wrd J 0 43 0 = -4) (hok : wsO J n tc (I 78) = true) : WS (sdS I (wsC J n tc (I 78)) (wsF J n tc (I 78))) (wsC J n tc (I 78)) (wsN J n tc (I 78)) := by
  have hk := rwd_ok hJ hT.2.1 (n + 2) 0 0 (I 78) (by omega) (by omega) (fun i hi => by omega) hok
  refine ⟨sdS_30, hk.1, fun k hk2 => ?_⟩
  obtain ⟨j, h1, h2⟩ := hk.2 k hk2
  have h2' : wsF J n tc (I 78) k = nI j := h2
  have hcl := nI_cl (n := j) (by omega)
  refine ⟨?_, ?_⟩
  · rw [sdS_78]
    unfold wsN
    rw [h2', hcl]
  · unfold wsN
    rw [h2', hcl]
    exact h1
theorem m_say_1 (hR : tRef h d R) (hT : TX I n tc) (hJ : wrd J 0 43 0 = -4) (hok : wsO J n tc (I 78) = false) : tEv E 188 0 [.ref 56, tm_dum] [] (mS I J R) Q = Q (some 1) (mS (sdS I (wsC J n tc (I 78)) (wsF J n tc (I 78))) J R) := by
  have hw := fun {Q} => m_readsWords (E := E) (Q := Q) (J := J) hR hT hJ
  have e : (rwd J n tc (n + 2) 0 0 (I 78)).1 = false := hok
  rw [e] at hw
  simp only [e_188_0, e_188_1, e_188_4, e_188_7, e_188_8, rf_56_0 hR, rf_56_4 hR, rf_56_5 hR, rf_56_6 hR, rf_56_7 hR, rf_56_8 hR, rf_56_9 hR, rf_56_10 hR, rf_56_11 hR, rf_56_12 hR, rf_56_14 hR, rf_56_15 hR, rf_56_19 hR, rf_56_20 hR, rf_56_21 hR, rf_56_22 hR, rf_56_23 hR, rf_56_24 hR, rf_56_25 hR, rf_56_26 hR, rf_56_27 hR, rf_56_29 hR, rf_56_32 hR, rf_56_33 hR, rf_56_34 hR, rf_56_37 hR, rf_56_38 hR, kn_56, kn_57, kn_58, kn_59, kn_60, kn_61, kn_62, kn_63, kn_64, kn_65, kn_66, kn_67, kn_68, kn_69, kn_70, kn_71, kn_72, kn_73, kn_74, kn_75, kn_76, kn_77, kn_78, kn_79, kn_80, kn_81, kn_82, kn_83, ln_57, ln_58, ln_59, ln_60, ln_61, ln_62, ln_63, ln_64, ln_65, ln_66, ln_67, ln_68, ln_69, ln_70, ln_71, ln_72, ln_73, ln_74, ln_75, ln_76, ln_77, ln_78, ln_79, ln_80, ln_81, ln_82, ln_83, va_rf_some, push_s, push_n, nb0, nb1, nbb, Nat.reduceLT, hw, b2i_0, Bool.false_eq_true, if_false, if_true]
  rfl
/-- the words, then the sentence: what is done behind them -/
theorem m_say_x (hR : tRef h d R) (hT : TX I n tc) (hJ : wrd J 0 43 0 = -4) (hok : wsO J n tc (I 78) = true) {I' : Nat → Nat → Int32} {code : Nat} (hs : ∀ Q, tEv E 153 0 [.ref 56] [] (mS (sdS I (wsC J n tc (I 78)) (wsF J n tc (I 78))) J R) Q = Q (some (cdV code)) (mS I' J R)) : tEv E 188 0 [.ref 56, tm_dum] [] (mS I J R) Q = tEv E 188 14 [.ref 56, .int (cdV code)] [] (mS I' J R) Q := by
  have hw := fun {Q} => m_readsWords (E := E) (Q := Q) (J := J) hR hT hJ
  have e : (rwd J n tc (n + 2) 0 0 (I 78)).1 = true := hok
  have e1 : sdS I (rwd J n tc (n + 2) 0 0 (I 78)).2.1 (rwd J n tc (n + 2) 0 0 (I 78)).2.2 = sdS I (wsC J n tc (I 78)) (wsF J n tc (I 78)) := rfl
  rw [e, e1] at hw
  simp only [e_188_0, e_188_1, e_188_4, e_188_7, e_188_8, e_188_9, e_188_10, e_188_13, rf_56_0 hR, rf_56_4 hR, rf_56_5 hR, rf_56_6 hR, rf_56_7 hR, rf_56_8 hR, rf_56_9 hR, rf_56_10 hR, rf_56_11 hR, rf_56_12 hR, rf_56_14 hR, rf_56_15 hR, rf_56_19 hR, rf_56_20 hR, rf_56_21 hR, rf_56_22 hR, rf_56_23 hR, rf_56_24 hR, rf_56_25 hR, rf_56_26 hR, rf_56_27 hR, rf_56_29 hR, rf_56_32 hR, rf_56_33 hR, rf_56_34 hR, rf_56_37 hR, rf_56_38 hR, kn_56, kn_57, kn_58, kn_59, kn_60, kn_61, kn_62, kn_63, kn_64, kn_65, kn_66, kn_67, kn_68, kn_69, kn_70, kn_71, kn_72, kn_73, kn_74, kn_75, kn_76, kn_77, kn_78, kn_79, kn_80, kn_81, kn_82, kn_83, ln_57, ln_58, ln_59, ln_60, ln_61, ln_62, ln_63, ln_64, ln_65, ln_66, ln_67, ln_68, ln_69, ln_70, ln_71, ln_72, ln_73, ln_74, ln_75, ln_76, ln_77, ln_78, ln_79, ln_80, ln_81, ln_82, ln_83, va_rf_some, push_s, push_n, nb0, nb1, nbb, Nat.reduceLT, hw, show (b2i true = 0) = False from eq_false (by decide), if_false, hs]
theorem m_say_2 (hR : tRef h d R) : tEv E 188 14 [.ref 56, .int (cdV 99)] [] (mS I J R) Q = Q (some 2) (mS I J R) := by
  simp only [e_188_14, e_188_15, e_188_17, e_188_20, e_188_21, rf_56_0 hR, rf_56_4 hR, rf_56_5 hR, rf_56_6 hR, rf_56_7 hR, rf_56_8 hR, rf_56_9 hR, rf_56_10 hR, rf_56_11 hR, rf_56_12 hR, rf_56_14 hR, rf_56_15 hR, rf_56_19 hR, rf_56_20 hR, rf_56_21 hR, rf_56_22 hR, rf_56_23 hR, rf_56_24 hR, rf_56_25 hR, rf_56_26 hR, rf_56_27 hR, rf_56_29 hR, rf_56_32 hR, rf_56_33 hR, rf_56_34 hR, rf_56_37 hR, rf_56_38 hR, kn_56, kn_57, kn_58, kn_59, kn_60, kn_61, kn_62, kn_63, kn_64, kn_65, kn_66, kn_67, kn_68, kn_69, kn_70, kn_71, kn_72, kn_73, kn_74, kn_75, kn_76, kn_77, kn_78, kn_79, kn_80, kn_81, kn_82, kn_83, ln_57, ln_58, ln_59, ln_60, ln_61, ln_62, ln_63, ln_64, ln_65, ln_66, ln_67, ln_68, ln_69, ln_70, ln_71, ln_72, ln_73, ln_74, ln_75, ln_76, ln_77, ln_78, ln_79, ln_80, ln_81, ln_82, ln_83, va_rf_some, push_s, push_n, nb0, nb1, nbb, Nat.reduceLT, show (cdV 99 = -4) = True from eq_true rfl, if_true]
theorem m_say_20 (hR : tRef h d R) {v : Int32} {I2 : Nat → Nat → Int32} (hr : ∀ Q, tEv E 177 0 [.ref 56, tm_dum] [] (mS I J R) Q = Q (some v) (mS I2 J R)) : tEv E 188 14 [.ref 56, .int (cdV 20)] [] (mS I J R) Q = Q (some v) (mS I2 J R) := by
  simp only [e_188_14, e_188_15, e_188_17, e_188_20, e_188_21, e_188_22, e_188_23, e_188_25, e_188_28, e_188_29, e_188_32, rf_56_0 hR, rf_56_4 hR, rf_56_5 hR, rf_56_6 hR, rf_56_7 hR, rf_56_8 hR, rf_56_9 hR, rf_56_10 hR, rf_56_11 hR, rf_56_12 hR, rf_56_14 hR, rf_56_15 hR, rf_56_19 hR, rf_56_20 hR, rf_56_21 hR, rf_56_22 hR, rf_56_23 hR, rf_56_24 hR, rf_56_25 hR, rf_56_26 hR, rf_56_27 hR, rf_56_29 hR, rf_56_32 hR, rf_56_33 hR, rf_56_34 hR, rf_56_37 hR, rf_56_38 hR, kn_56, kn_57, kn_58, kn_59, kn_60, kn_61, kn_62, kn_63, kn_64, kn_65, kn_66, kn_67, kn_68, kn_69, kn_70, kn_71, kn_72, kn_73, kn_74, kn_75, kn_76, kn_77, kn_78, kn_79, kn_80, kn_81, kn_82, kn_83, ln_57, ln_58, ln_59, ln_60, ln_61, ln_62, ln_63, ln_64, ln_65, ln_66, ln_67, ln_68, ln_69, ln_70, ln_71, ln_72, ln_73, ln_74, ln_75, ln_76, ln_77, ln_78, ln_79, ln_80, ln_81, ln_82, ln_83, va_rf_some, push_s, push_n, nb0, nb1, nbb, Nat.reduceLT, show (cdV 20 = -4) = False from eq_false (by decide), show (cdV 20 = 20) = True from eq_true rfl, if_true, if_false, hr]
theorem m_say_12 (hR : tRef h d R) {v : Int32} {I2 : Nat → Nat → Int32} (hr : ∀ Q, tEv E 182 0 [.ref 56, tm_dum, tm_dum, tm_dum] [] (mS (va_up I 56 (upd (I 56) 35 0)) J R) Q = Q (some v) (mS I2 J R)) : tEv E 188 14 [.ref 56, .int (cdV 12)] [] (mS I J R) Q = Q (some v) (mS I2 J R) := by
  simp only [e_188_0, e_188_1, e_188_4, e_188_7, e_188_8, e_188_9, e_188_10, e_188_13, e_188_14, e_188_15, e_188_17, e_188_20, e_188_21, e_188_22, e_188_23, e_188_25, e_188_28, e_188_29, e_188_32, e_188_33, e_188_34, e_188_35, e_188_38, e_188_68, e_188_69, e_188_72, e_188_73, e_188_74, e_188_77, e_188_78, e_188_79, e_188_82, e_188_83, e_188_84, e_188_87, e_188_88, e_188_89, e_188_91, e_188_94, e_188_95, e_188_96, e_188_99, e_188_102, e_188_103, e_188_104, e_188_106, e_188_107, e_188_110, rf_56_0 hR, rf_56_4 hR, rf_56_5 hR, rf_56_6 hR, rf_56_7 hR, rf_56_8 hR, rf_56_9 hR, rf_56_10 hR, rf_56_11 hR, rf_56_12 hR, rf_56_14 hR, rf_56_15 hR, rf_56_19 hR, rf_56_20 hR, rf_56_21 hR, rf_56_22 hR, rf_56_23 hR, rf_56_24 hR, rf_56_25 hR, rf_56_26 hR, rf_56_27 hR, rf_56_29 hR, rf_56_32 hR, rf_56_33 hR, rf_56_34 hR, rf_56_37 hR, rf_56_38 hR, kn_56, kn_57, kn_58, kn_59, kn_60, kn_61, kn_62, kn_63, kn_64, kn_65, kn_66, kn_67, kn_68, kn_69, kn_70, kn_71, kn_72, kn_73, kn_74, kn_75, kn_76, kn_77, kn_78, kn_79, kn_80, kn_81, kn_82, kn_83, ln_57, ln_58, ln_59, ln_60, ln_61, ln_62, ln_63, ln_64, ln_65, ln_66, ln_67, ln_68, ln_69, ln_70, ln_71, ln_72, ln_73, ln_74, ln_75, ln_76, ln_77, ln_78, ln_79, ln_80, ln_81, ln_82, ln_83, va_rf_some, push_s, push_n, nb0, nb1, nbb, Nat.reduceLT, show cdV 12 = nI 12 from rfl, show (nI 12 = -4) = False from eq_false (by decide), show (nI 12 = 20) = False from eq_false (by decide), if_false, e_188_39_12, hr]
theorem m_say_13 (hR : tRef h d R) {v : Int32} {I2 : Nat → Nat → Int32} (hr : ∀ Q, tEv E 183 0 [.ref 56, tm_dum] [] (mS (va_up I 56 (upd (I 56) 35 0)) J R) Q = Q (some v) (mS I2 J R)) : tEv E 188 14 [.ref 56, .int (cdV 13)] [] (mS I J R) Q = Q (some v) (mS I2 J R) := by
  simp only [e_188_0, e_188_1, e_188_4, e_188_7, e_188_8, e_188_9, e_188_10, e_188_13, e_188_14, e_188_15, e_188_17, e_188_20, e_188_21, e_188_22, e_188_23, e_188_25, e_188_28, e_188_29, e_188_32, e_188_33, e_188_34, e_188_35, e_188_38, e_188_68, e_188_69, e_188_72, e_188_73, e_188_74, e_188_77, e_188_78, e_188_79, e_188_82, e_188_83, e_188_84, e_188_87, e_188_88, e_188_89, e_188_91, e_188_94, e_188_95, e_188_96, e_188_99, e_188_102, e_188_103, e_188_104, e_188_106, e_188_107, e_188_110, rf_56_0 hR, rf_56_4 hR, rf_56_5 hR, rf_56_6 hR, rf_56_7 hR, rf_56_8 hR, rf_56_9 hR, rf_56_10 hR, rf_56_11 hR, rf_56_12 hR, rf_56_14 hR, rf_56_15 hR, rf_56_19 hR, rf_56_20 hR, rf_56_21 hR, rf_56_22 hR, rf_56_23 hR, rf_56_24 hR, rf_56_25 hR, rf_56_26 hR, rf_56_27 hR, rf_56_29 hR, rf_56_32 hR, rf_56_33 hR, rf_56_34 hR, rf_56_37 hR, rf_56_38 hR, kn_56, kn_57, kn_58, kn_59, kn_60, kn_61, kn_62, kn_63, kn_64, kn_65, kn_66, kn_67, kn_68, kn_69, kn_70, kn_71, kn_72, kn_73, kn_74, kn_75, kn_76, kn_77, kn_78, kn_79, kn_80, kn_81, kn_82, kn_83, ln_57, ln_58, ln_59, ln_60, ln_61, ln_62, ln_63, ln_64, ln_65, ln_66, ln_67, ln_68, ln_69, ln_70, ln_71, ln_72, ln_73, ln_74, ln_75, ln_76, ln_77, ln_78, ln_79, ln_80, ln_81, ln_82, ln_83, va_rf_some, push_s, push_n, nb0, nb1, nbb, Nat.reduceLT, show cdV 13 = nI 13 from rfl, show (nI 13 = -4) = False from eq_false (by decide), show (nI 13 = 20) = False from eq_false (by decide), if_false, e_188_39_13, hr]
theorem m_say_14 (hR : tRef h d R) {v : Int32} {I2 : Nat → Nat → Int32} (hr : ∀ Q, tEv E 184 0 [.ref 56] [] (mS (va_up I 56 (upd (I 56) 35 0)) J R) Q = Q (some v) (mS I2 J R)) : tEv E 188 14 [.ref 56, .int (cdV 14)] [] (mS I J R) Q = Q (some v) (mS I2 J R) := by
  simp only [e_188_0, e_188_1, e_188_4, e_188_7, e_188_8, e_188_9, e_188_10, e_188_13, e_188_14, e_188_15, e_188_17, e_188_20, e_188_21, e_188_22, e_188_23, e_188_25, e_188_28, e_188_29, e_188_32, e_188_33, e_188_34, e_188_35, e_188_38, e_188_68, e_188_69, e_188_72, e_188_73, e_188_74, e_188_77, e_188_78, e_188_79, e_188_82, e_188_83, e_188_84, e_188_87, e_188_88, e_188_89, e_188_91, e_188_94, e_188_95, e_188_96, e_188_99, e_188_102, e_188_103, e_188_104, e_188_106, e_188_107, e_188_110, rf_56_0 hR, rf_56_4 hR, rf_56_5 hR, rf_56_6 hR, rf_56_7 hR, rf_56_8 hR, rf_56_9 hR, rf_56_10 hR, rf_56_11 hR, rf_56_12 hR, rf_56_14 hR, rf_56_15 hR, rf_56_19 hR, rf_56_20 hR, rf_56_21 hR, rf_56_22 hR, rf_56_23 hR, rf_56_24 hR, rf_56_25 hR, rf_56_26 hR, rf_56_27 hR, rf_56_29 hR, rf_56_32 hR, rf_56_33 hR, rf_56_34 hR, rf_56_37 hR, rf_56_38 hR, kn_56, kn_57, kn_58, kn_59, kn_60, kn_61, kn_62, kn_63, kn_64, kn_65, kn_66, kn_67, kn_68, kn_69, kn_70, kn_71, kn_72, kn_73, kn_74, kn_75, kn_76, kn_77, kn_78, kn_79, kn_80, kn_81, kn_82, kn_83, ln_57, ln_58, ln_59, ln_60, ln_61, ln_62, ln_63, ln_64, ln_65, ln_66, ln_67, ln_68, ln_69, ln_70, ln_71, ln_72, ln_73, ln_74, ln_75, ln_76, ln_77, ln_78, ln_79, ln_80, ln_81, ln_82, ln_83, va_rf_some, push_s, push_n, nb0, nb1, nbb, Nat.reduceLT, show cdV 14 = nI 14 from rfl, show (nI 14 = -4) = False from eq_false (by decide), show (nI 14 = 20) = False from eq_false (by decide), if_false, e_188_39_14, hr]
theorem m_say_15 (hR : tRef h d R) {v : Int32} {I2 : Nat → Nat → Int32} (hr : ∀ Q, tEv E 185 0 [.ref 56] [] (mS (va_up I 56 (upd (I 56) 35 0)) J R) Q = Q (some v) (mS I2 J R)) : tEv E 188 14 [.ref 56, .int (cdV 15)] [] (mS I J R) Q = Q (some v) (mS I2 J R) := by
  simp only [e_188_0, e_188_1, e_188_4, e_188_7, e_188_8, e_188_9, e_188_10, e_188_13, e_188_14, e_188_15, e_188_17, e_188_20, e_188_21, e_188_22, e_188_23, e_188_25, e_188_28, e_188_29, e_188_32, e_188_33, e_188_34, e_188_35, e_188_38, e_188_68, e_188_69, e_188_72, e_188_73, e_188_74, e_188_77, e_188_78, e_188_79, e_188_82, e_188_83, e_188_84, e_188_87, e_188_88, e_188_89, e_188_91, e_188_94, e_188_95, e_188_96, e_188_99, e_188_102, e_188_103, e_188_104, e_188_106, e_188_107, e_188_110, rf_56_0 hR, rf_56_4 hR, rf_56_5 hR, rf_56_6 hR, rf_56_7 hR, rf_56_8 hR, rf_56_9 hR, rf_56_10 hR, rf_56_11 hR, rf_56_12 hR, rf_56_14 hR, rf_56_15 hR, rf_56_19 hR, rf_56_20 hR, rf_56_21 hR, rf_56_22 hR, rf_56_23 hR, rf_56_24 hR, rf_56_25 hR, rf_56_26 hR, rf_56_27 hR, rf_56_29 hR, rf_56_32 hR, rf_56_33 hR, rf_56_34 hR, rf_56_37 hR, rf_56_38 hR, kn_56, kn_57, kn_58, kn_59, kn_60, kn_61, kn_62, kn_63, kn_64, kn_65, kn_66, kn_67, kn_68, kn_69, kn_70, kn_71, kn_72, kn_73, kn_74, kn_75, kn_76, kn_77, kn_78, kn_79, kn_80, kn_81, kn_82, kn_83, ln_57, ln_58, ln_59, ln_60, ln_61, ln_62, ln_63, ln_64, ln_65, ln_66, ln_67, ln_68, ln_69, ln_70, ln_71, ln_72, ln_73, ln_74, ln_75, ln_76, ln_77, ln_78, ln_79, ln_80, ln_81, ln_82, ln_83, va_rf_some, push_s, push_n, nb0, nb1, nbb, Nat.reduceLT, show cdV 15 = nI 15 from rfl, show (nI 15 = -4) = False from eq_false (by decide), show (nI 15 = 20) = False from eq_false (by decide), if_false, e_188_39_15, hr]
theorem m_say_act (hR : tRef h d R) {code : Nat} (hc : code < 12) {v : Int32} {I2 : Nat → Nat → Int32} (hr : ∀ Q, tEv E 186 0 [.ref 56, .int (nI code)] [] (mS (va_up I 56 (upd (I 56) 35 0)) J R) Q = Q (some v) (mS I2 J R)) : tEv E 188 14 [.ref 56, .int (cdV code)] [] (mS I J R) Q = Q (some v) (mS I2 J R) := by
  have e0 : cdV code = nI code := if_neg (by omega)
  have e4 : (nI code = -4) = False := eq_false (nI_n4 (by omega))
  have e20 : (nI code = 20) = False := eq_false (fun e => by have := (nI_eq (b := 20) (by omega) (by omega)).mp e; omega)
  have hlt : (nI code < 12) = True := eq_true (nI_lt (b := 12) (by omega) (by omega))
  have hd : (nI code).toInt < 12 ∨ 15 < (nI code).toInt := by rw [nI_toInt (by omega)]; omega
  simp only [e_188_0, e_188_1, e_188_4, e_188_7, e_188_8, e_188_9, e_188_10, e_188_13, e_188_14, e_188_15, e_188_17, e_188_20, e_188_21, e_188_22, e_188_23, e_188_25, e_188_28, e_188_29, e_188_32, e_188_33, e_188_34, e_188_35, e_188_38, e_188_68, e_188_69, e_188_72, e_188_73, e_188_74, e_188_77, e_188_78, e_188_79, e_188_82, e_188_83, e_188_84, e_188_87, e_188_88, e_188_89, e_188_91, e_188_94, e_188_95, e_188_96, e_188_99, e_188_102, e_188_103, e_188_104, e_188_106, e_188_107, e_188_110, rf_56_0 hR, rf_56_4 hR, rf_56_5 hR, rf_56_6 hR, rf_56_7 hR, rf_56_8 hR, rf_56_9 hR, rf_56_10 hR, rf_56_11 hR, rf_56_12 hR, rf_56_14 hR, rf_56_15 hR, rf_56_19 hR, rf_56_20 hR, rf_56_21 hR, rf_56_22 hR, rf_56_23 hR, rf_56_24 hR, rf_56_25 hR, rf_56_26 hR, rf_56_27 hR, rf_56_29 hR, rf_56_32 hR, rf_56_33 hR, rf_56_34 hR, rf_56_37 hR, rf_56_38 hR, kn_56, kn_57, kn_58, kn_59, kn_60, kn_61, kn_62, kn_63, kn_64, kn_65, kn_66, kn_67, kn_68, kn_69, kn_70, kn_71, kn_72, kn_73, kn_74, kn_75, kn_76, kn_77, kn_78, kn_79, kn_80, kn_81, kn_82, kn_83, ln_57, ln_58, ln_59, ln_60, ln_61, ln_62, ln_63, ln_64, ln_65, ln_66, ln_67, ln_68, ln_69, ln_70, ln_71, ln_72, ln_73, ln_74, ln_75, ln_76, ln_77, ln_78, ln_79, ln_80, ln_81, ln_82, ln_83, va_rf_some, push_s, push_n, nb0, nb1, nbb, Nat.reduceLT, e0, e4, e20, if_false, e_188_39_d hd, hlt, if_true, hr]
theorem m_say_go (hR : tRef h d R) {b : Nat} (hb : b < 4) {v : Int32} {I2 : Nat → Nat → Int32} (hr : ∀ Q, tEv E 187 0 [.ref 56, .int (nI b), tm_dum, tm_dum] [] (mS (va_up I 56 (upd (I 56) 35 0)) J R) Q = Q (some v) (mS I2 J R)) : tEv E 188 14 [.ref 56, .int (cdV (16 + b))] [] (mS I J R) Q = Q (some v) (mS I2 J R) := by
  have e0 : cdV (16 + b) = nI (16 + b) := if_neg (by omega)
  have e4 : (nI (16 + b) = -4) = False := eq_false (nI_n4 (by omega))
  have e20 : (nI (16 + b) = 20) = False := eq_false (fun e => by have := (nI_eq (b := 20) (by omega) (by omega)).mp e; omega)
  have hlt : (nI (16 + b) < 12) = False := eq_false (fun e => by have := (nI_ltI (b := 12) (by omega) (by omega)).mp e; omega)
  have hd : (nI (16 + b)).toInt < 12 ∨ 15 < (nI (16 + b)).toInt := by rw [nI_toInt (by omega)]; omega
  have hs : nI (16 + b) - 16 = nI b := by
    rw [show nI (16 + b) - 16 = nI (16 + b - 16) from pk_sub (b := 16) (by omega)]
    congr 1
    omega
  simp only [e_188_0, e_188_1, e_188_4, e_188_7, e_188_8, e_188_9, e_188_10, e_188_13, e_188_14, e_188_15, e_188_17, e_188_20, e_188_21, e_188_22, e_188_23, e_188_25, e_188_28, e_188_29, e_188_32, e_188_33, e_188_34, e_188_35, e_188_38, e_188_68, e_188_69, e_188_72, e_188_73, e_188_74, e_188_77, e_188_78, e_188_79, e_188_82, e_188_83, e_188_84, e_188_87, e_188_88, e_188_89, e_188_91, e_188_94, e_188_95, e_188_96, e_188_99, e_188_102, e_188_103, e_188_104, e_188_106, e_188_107, e_188_110, rf_56_0 hR, rf_56_4 hR, rf_56_5 hR, rf_56_6 hR, rf_56_7 hR, rf_56_8 hR, rf_56_9 hR, rf_56_10 hR, rf_56_11 hR, rf_56_12 hR, rf_56_14 hR, rf_56_15 hR, rf_56_19 hR, rf_56_20 hR, rf_56_21 hR, rf_56_22 hR, rf_56_23 hR, rf_56_24 hR, rf_56_25 hR, rf_56_26 hR, rf_56_27 hR, rf_56_29 hR, rf_56_32 hR, rf_56_33 hR, rf_56_34 hR, rf_56_37 hR, rf_56_38 hR, kn_56, kn_57, kn_58, kn_59, kn_60, kn_61, kn_62, kn_63, kn_64, kn_65, kn_66, kn_67, kn_68, kn_69, kn_70, kn_71, kn_72, kn_73, kn_74, kn_75, kn_76, kn_77, kn_78, kn_79, kn_80, kn_81, kn_82, kn_83, ln_57, ln_58, ln_59, ln_60, ln_61, ln_62, ln_63, ln_64, ln_65, ln_66, ln_67, ln_68, ln_69, ln_70, ln_71, ln_72, ln_73, ln_74, ln_75, ln_76, ln_77, ln_78, ln_79, ln_80, ln_81, ln_82, ln_83, va_rf_some, push_s, push_n, nb0, nb1, nbb, Nat.reduceLT, e0, e4, e20, if_false, e_188_39_d hd, hlt, hs, hr]
end SY
