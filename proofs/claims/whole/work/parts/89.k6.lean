/-! ===== a house is laid ===== -/
def swp (R : Nat → Nat → Option Nat) (h d : Nat) : Nat → Nat → Option Nat := va_up (va_up R 12 (va_up (R 12) 0 (some d))) 3 (va_up (R 3) 2 (some h))
section K6
variable {E : tm_Env} {Q : Option Int32 → tm_St → Prop} {M I K : Nat → Nat → Int32} {J : Nat → Nat → Int64} {R : Nat → Nat → Option Nat} {h d : Nat} {n p q nr nt : Nat} {tc pp : Nat → Nat}
theorem swp_ref (hR : tRef h d R) : tRef d h (swp R h d) := by
  unfold swp
  refine ⟨?_, ?_, ?_, fun k j h1 h2 => ?_⟩
  · rw [vu, if_neg (by decide), vu_eq, vu_eq]
  · rw [vu_eq, vu_eq]
  · have := hR.2.2.1
    omega
  · rw [vu]
    by_cases e3 : k = 3
    · rw [if_pos e3, vu, if_neg (fun e => h2 ⟨e3, e⟩)]
      subst e3
      exact hR.2.2.2 3 j h1 h2
    · rw [if_neg e3, vu]
      by_cases e12 : k = 12
      · rw [if_pos e12, vu, if_neg (fun e => h1 ⟨e12, e⟩)]
        subst e12
        exact hR.2.2.2 12 j h1 h2
      · rw [if_neg e12]
        exact hR.2.2.2 k j h1 h2
theorem c_begin_a (hR : tRef h d R) : tEv E 44 0 [.ref 0, tm_dum] [] (mS I J R) Q = tEv E 44 30 [.ref 0, .ref h] [] (mS I J (swp R h d)) Q := by
  have hl : tL.length = 84 := by decide
  have l1 : (d < tL.length) = True := eq_true (by have := dd_of hR; omega)
  have l2 : (h < tL.length) = True := eq_true (by have := hh_of hR; omega)
  simp only [e_44_0, e_44_1, e_44_4, e_44_7, e_44_8, e_44_9, e_44_12, e_44_13, e_44_16, e_44_19, e_44_22, e_44_23, e_44_26, e_44_27, rf_0_0 hR, rf_0_1 hR, rf_0_2 hR, rf_0_3 hR, rf_0_4 hR, rf_0_5 hR, rf_0_6 hR, rf_1_0 hR, rf_3_0 hR, rf_3_2 hR, rf_4_3 hR, rf_4_4 hR, rf_4_5 hR, rf_4_6 hR, rf_4_7 hR, rf_4_8 hR, rf_4_9 hR, rf_12_1 hR, rf_13_3 hR, rf_13_4 hR, rf_13_5 hR, rf_13_6 hR, rf_13_7 hR, rf_13_8 hR, rf_13_9 hR, rf_21_0 hR, rf_21_1 hR, rf_24_0 hR, rf_25_0 hR, rf_26_0 hR, rf_26_1 hR, rf_26_2 hR, rf_26_3 hR, rf_26_4 hR, rf_26_5 hR, rf_26_6 hR, rf_26_7 hR, rf_27_0 hR, rf_27_1 hR, rf_30_0 hR, rf_30_1 hR, rf_33_0 hR, rf_33_1 hR, rf_36_0 hR, rf_36_1 hR, rf_39_0 hR, rf_39_1 hR, rf_42_0 hR, rf_42_1 hR, rf_45_0 hR, rf_45_1 hR, rf_48_0 hR, rf_48_1 hR, rf_51_0 hR, rf_51_1 hR, rf_51_6 hR, rf_51_7 hR, rf_h_3 hR, rf_d_3 hR, rf_h_4 hR, rf_d_4 hR, rf_h_5 hR, rf_d_5 hR, rf_h_6 hR, rf_d_6 hR, rf_h_7 hR, rf_d_7 hR, rf_h_8 hR, rf_d_8 hR, rf_h_9 hR, rf_d_9 hR, rf_12_0 hR, rf_3_1 hR, kn_0, kn_1, kn_2, kn_3, kn_4, kn_5, kn_6, kn_7, kn_8, kn_9, kn_10, kn_11, kn_12, kn_13, kn_14, kn_15, kn_16, kn_17, kn_18, kn_19, kn_20, kn_21, kn_22, kn_23, kn_24, kn_25, kn_26, kn_27, kn_28, kn_29, kn_30, kn_31, kn_32, kn_33, kn_34, kn_35, kn_36, kn_37, kn_38, kn_39, kn_40, kn_41, kn_42, kn_43, kn_44, kn_45, kn_46, kn_47, kn_48, kn_49, kn_50, kn_51, kn_52, kn_53, kn_54, kn_55, ln_2, ln_5, ln_6, ln_7, ln_8, ln_9, ln_10, ln_11, ln_14, ln_15, ln_16, ln_17, ln_18, ln_19, ln_20, ln_22, ln_23, ln_26, ln_28, ln_29, ln_31, ln_32, ln_34, ln_35, ln_37, ln_38, ln_40, ln_41, ln_43, ln_44, ln_46, ln_47, ln_49, ln_50, ln_52, kn_h hR, lt_h hR, kn_h1 hR, ln_h1 hR, lt_h1 hR, kn_h2 hR, ln_h2 hR, lt_h2 hR, kn_h3 hR, ln_h3 hR, lt_h3 hR, kn_h4 hR, ln_h4 hR, lt_h4 hR, kn_h5 hR, ln_h5 hR, lt_h5 hR, kn_h6 hR, ln_h6 hR, lt_h6 hR, kn_h7 hR, ln_h7 hR, lt_h7 hR, kn_d hR, lt_d hR, kn_d1 hR, ln_d1 hR, lt_d1 hR, kn_d2 hR, ln_d2 hR, lt_d2 hR, kn_d3 hR, ln_d3 hR, lt_d3 hR, kn_d4 hR, ln_d4 hR, lt_d4 hR, kn_d5 hR, ln_d5 hR, lt_d5 hR, kn_d6 hR, ln_d6 hR, lt_d6 hR, kn_d7 hR, ln_d7 hR, lt_d7 hR, va_rf_some, push_s, push_n, nb0, nb1, nbb, Nat.reduceLT, vu, Nat.reduceEqDiff, if_false, l1, l2]
  rfl
theorem c_sb_loop (hR : tRef h d R) : ∀ j i (I : Nat → Nat → Int32), i + j = 16 → (∀ k, k < i → I 22 k = I (h + 5) k ∧ I 23 k = 20) → ∃ I', (∀ c, c ≠ 22 → c ≠ 23 → I' c = I c) ∧ (∀ k, k < 16 → I' 22 k = I (h + 5) k ∧ I' 23 k = 20) ∧ ∀ Q, tEv E 42 2 [.ref 21, .ref h, .int (nI i)] [] (mS I J R) Q = tEv E 42 34 [.ref 21, .ref h, .int (nI 16)] [] (mS I' J R) Q
  | 0, i, I, hj, hi => by
    obtain rfl : i = 16 := by omega
    have hn : (nI 16 < (16 : Int32)) = False := eq_false (by decide)
    refine ⟨I, fun _ _ _ => rfl, hi, fun Q => ?_⟩
    rw [e_42_2]
    simp only [e_42_3, e_42_5, hn, if_false]
  | j + 1, i, I, hj, hi => by
    have hh := hh_of hR
    have hn : (nI i < (16 : Int32)) = True := eq_true (nI_lt (b := 16) (by omega) (by omega))
    have hix := inb_nI (j := i) (n := 16) (by omega) (by decide)
    have hcl := nI_cl (n := i) (by omega)
    have nar2 : ∀ v, vp_nar .int v = v := fun _ => rfl
    obtain ⟨I', f, e1, st⟩ := c_sb_loop hR j (i + 1) (va_up (va_up I 22 (upd (I 22) i (I (h + 5) i))) 23 (upd (I 23) i 20)) (by omega) (fun k hk => by
      rw [vu, if_neg (show ¬ 22 = 23 by decide), vu_eq, vu_eq, vu, if_neg (show ¬ h + 5 = 23 by omega), vu, if_neg (show ¬ h + 5 = 22 by omega), ud, ud]
      by_cases e : k = i
      · rw [if_pos e, if_pos e, e]
        exact ⟨rfl, rfl⟩
      · rw [if_neg e, if_neg e]
        exact hi k (by omega))
    refine ⟨I', fun c c1 c2 => ?_, fun k hk => ?_, fun Q => ?_⟩
    · rw [f c c1 c2, vu, if_neg c2, vu, if_neg c1]
    · have := e1 k hk
      rw [vu, if_neg (show ¬ h + 5 = 23 by omega), vu, if_neg (show ¬ h + 5 = 22 by omega)] at this
      exact this
    · rw [← st Q, e_42_2]
      simp only [e_42_3, e_42_5, e_42_8, e_42_9, e_42_12, e_42_13, e_42_14, e_42_17, e_42_18, e_42_19, e_42_20, e_42_21, e_42_24, e_42_25, e_42_27, e_42_28, e_42_31, rf_0_0 hR, rf_0_1 hR, rf_0_2 hR, rf_0_3 hR, rf_0_4 hR, rf_0_5 hR, rf_0_6 hR, rf_1_0 hR, rf_3_0 hR, rf_3_2 hR, rf_4_3 hR, rf_4_4 hR, rf_4_5 hR, rf_4_6 hR, rf_4_7 hR, rf_4_8 hR, rf_4_9 hR, rf_12_1 hR, rf_13_3 hR, rf_13_4 hR, rf_13_5 hR, rf_13_6 hR, rf_13_7 hR, rf_13_8 hR, rf_13_9 hR, rf_21_0 hR, rf_21_1 hR, rf_24_0 hR, rf_25_0 hR, rf_26_0 hR, rf_26_1 hR, rf_26_2 hR, rf_26_3 hR, rf_26_4 hR, rf_26_5 hR, rf_26_6 hR, rf_26_7 hR, rf_27_0 hR, rf_27_1 hR, rf_30_0 hR, rf_30_1 hR, rf_33_0 hR, rf_33_1 hR, rf_36_0 hR, rf_36_1 hR, rf_39_0 hR, rf_39_1 hR, rf_42_0 hR, rf_42_1 hR, rf_45_0 hR, rf_45_1 hR, rf_48_0 hR, rf_48_1 hR, rf_51_0 hR, rf_51_1 hR, rf_51_6 hR, rf_51_7 hR, rf_h_3 hR, rf_d_3 hR, rf_h_4 hR, rf_d_4 hR, rf_h_5 hR, rf_d_5 hR, rf_h_6 hR, rf_d_6 hR, rf_h_7 hR, rf_d_7 hR, rf_h_8 hR, rf_d_8 hR, rf_h_9 hR, rf_d_9 hR, rf_12_0 hR, rf_3_1 hR, kn_0, kn_1, kn_2, kn_3, kn_4, kn_5, kn_6, kn_7, kn_8, kn_9, kn_10, kn_11, kn_12, kn_13, kn_14, kn_15, kn_16, kn_17, kn_18, kn_19, kn_20, kn_21, kn_22, kn_23, kn_24, kn_25, kn_26, kn_27, kn_28, kn_29, kn_30, kn_31, kn_32, kn_33, kn_34, kn_35, kn_36, kn_37, kn_38, kn_39, kn_40, kn_41, kn_42, kn_43, kn_44, kn_45, kn_46, kn_47, kn_48, kn_49, kn_50, kn_51, kn_52, kn_53, kn_54, kn_55, ln_2, ln_5, ln_6, ln_7, ln_8, ln_9, ln_10, ln_11, ln_14, ln_15, ln_16, ln_17, ln_18, ln_19, ln_20, ln_22, ln_23, ln_26, ln_28, ln_29, ln_31, ln_32, ln_34, ln_35, ln_37, ln_38, ln_40, ln_41, ln_43, ln_44, ln_46, ln_47, ln_49, ln_50, ln_52, kn_h hR, lt_h hR, kn_h1 hR, ln_h1 hR, lt_h1 hR, kn_h2 hR, ln_h2 hR, lt_h2 hR, kn_h3 hR, ln_h3 hR, lt_h3 hR, kn_h4 hR, ln_h4 hR, lt_h4 hR, kn_h5 hR, ln_h5 hR, lt_h5 hR, kn_h6 hR, ln_h6 hR, lt_h6 hR, kn_h7 hR, ln_h7 hR, lt_h7 hR, kn_d hR, lt_d hR, kn_d1 hR, ln_d1 hR, lt_d1 hR, kn_d2 hR, ln_d2 hR, lt_d2 hR, kn_d3 hR, ln_d3 hR, lt_d3 hR, kn_d4 hR, ln_d4 hR, lt_d4 hR, kn_d5 hR, ln_d5 hR, lt_d5 hR, kn_d6 hR, ln_d6 hR, lt_d6 hR, kn_d7 hR, ln_d7 hR, lt_d7 hR, va_rf_some, push_s, push_n, nb0, nb1, nbb, Nat.reduceLT, hn, if_true, hix, hcl, nar2, vu, Nat.reduceEqDiff, if_false, nI_1]
theorem c_sbegin (hR : tRef h d R) : ∃ I', (∀ c, c ≠ 21 → c ≠ 22 → c ≠ 23 → I' c = I c) ∧ (∀ k, k < 16 → I' 22 k = I (h + 5) k ∧ I' 23 k = 20) ∧ (I' 21 2 = 0 ∧ I' 21 3 = I h 15 ∧ I' 21 4 = 0 ∧ I' 21 5 = 0 ∧ I' 21 6 = 0 ∧ I' 21 7 = -4 ∧ I' 21 8 = 0) ∧ ∀ Q, tEv E 42 0 [.ref 21, .ref h, tm_dum] [] (mS I J R) Q = Q none (mS I' J R) := by
  have hh := hh_of hR
  obtain ⟨I1, f, e1, st⟩ := c_sb_loop (E := E) (J := J) hR 16 0 I (by omega) (fun k hk => absurd hk (Nat.not_lt_zero k))
  refine ⟨va_up I1 21 (upd (upd (upd (upd (upd (upd (upd (I1 21) 2 0) 3 (I1 h 15)) 4 0) 5 0) 6 0) 7 (-4)) 8 0), fun c c1 c2 c3 => ?_, fun k hk => ?_, ?_, fun Q => ?_⟩
  · rw [vu, if_neg c1, f c c2 c3]
  · rw [vu, if_neg (by decide), vu, if_neg (by decide)]
    exact e1 k hk
  · rw [vu_eq, f h (by omega) (by omega)]
    exact ⟨rfl, rfl, rfl, rfl, rfl, rfl, rfl⟩
  · have n21 : (h = 21) = False := eq_false (by omega)
    rw [show nI 0 = (0 : Int32) from rfl] at st
    simp only [e_42_0, e_42_1, st, e_42_34, e_42_35, e_42_36, e_42_39, e_42_40, e_42_41, e_42_44, e_42_47, e_42_48, e_42_49, e_42_52, e_42_53, e_42_54, e_42_57, e_42_58, e_42_59, e_42_62, e_42_63, e_42_65, e_42_68, e_42_69, e_42_70, e_42_73, rf_0_0 hR, rf_0_1 hR, rf_0_2 hR, rf_0_3 hR, rf_0_4 hR, rf_0_5 hR, rf_0_6 hR, rf_1_0 hR, rf_3_0 hR, rf_3_2 hR, rf_4_3 hR, rf_4_4 hR, rf_4_5 hR, rf_4_6 hR, rf_4_7 hR, rf_4_8 hR, rf_4_9 hR, rf_12_1 hR, rf_13_3 hR, rf_13_4 hR, rf_13_5 hR, rf_13_6 hR, rf_13_7 hR, rf_13_8 hR, rf_13_9 hR, rf_21_0 hR, rf_21_1 hR, rf_24_0 hR, rf_25_0 hR, rf_26_0 hR, rf_26_1 hR, rf_26_2 hR, rf_26_3 hR, rf_26_4 hR, rf_26_5 hR, rf_26_6 hR, rf_26_7 hR, rf_27_0 hR, rf_27_1 hR, rf_30_0 hR, rf_30_1 hR, rf_33_0 hR, rf_33_1 hR, rf_36_0 hR, rf_36_1 hR, rf_39_0 hR, rf_39_1 hR, rf_42_0 hR, rf_42_1 hR, rf_45_0 hR, rf_45_1 hR, rf_48_0 hR, rf_48_1 hR, rf_51_0 hR, rf_51_1 hR, rf_51_6 hR, rf_51_7 hR, rf_h_3 hR, rf_d_3 hR, rf_h_4 hR, rf_d_4 hR, rf_h_5 hR, rf_d_5 hR, rf_h_6 hR, rf_d_6 hR, rf_h_7 hR, rf_d_7 hR, rf_h_8 hR, rf_d_8 hR, rf_h_9 hR, rf_d_9 hR, rf_12_0 hR, rf_3_1 hR, kn_0, kn_1, kn_2, kn_3, kn_4, kn_5, kn_6, kn_7, kn_8, kn_9, kn_10, kn_11, kn_12, kn_13, kn_14, kn_15, kn_16, kn_17, kn_18, kn_19, kn_20, kn_21, kn_22, kn_23, kn_24, kn_25, kn_26, kn_27, kn_28, kn_29, kn_30, kn_31, kn_32, kn_33, kn_34, kn_35, kn_36, kn_37, kn_38, kn_39, kn_40, kn_41, kn_42, kn_43, kn_44, kn_45, kn_46, kn_47, kn_48, kn_49, kn_50, kn_51, kn_52, kn_53, kn_54, kn_55, ln_2, ln_5, ln_6, ln_7, ln_8, ln_9, ln_10, ln_11, ln_14, ln_15, ln_16, ln_17, ln_18, ln_19, ln_20, ln_22, ln_23, ln_26, ln_28, ln_29, ln_31, ln_32, ln_34, ln_35, ln_37, ln_38, ln_40, ln_41, ln_43, ln_44, ln_46, ln_47, ln_49, ln_50, ln_52, kn_h hR, lt_h hR, kn_h1 hR, ln_h1 hR, lt_h1 hR, kn_h2 hR, ln_h2 hR, lt_h2 hR, kn_h3 hR, ln_h3 hR, lt_h3 hR, kn_h4 hR, ln_h4 hR, lt_h4 hR, kn_h5 hR, ln_h5 hR, lt_h5 hR, kn_h6 hR, ln_h6 hR, lt_h6 hR, kn_h7 hR, ln_h7 hR, lt_h7 hR, kn_d hR, lt_d hR, kn_d1 hR, ln_d1 hR, lt_d1 hR, kn_d2 hR, ln_d2 hR, lt_d2 hR, kn_d3 hR, ln_d3 hR, lt_d3 hR, kn_d4 hR, ln_d4 hR, lt_d4 hR, kn_d5 hR, ln_d5 hR, lt_d5 hR, kn_d6 hR, ln_d6 hR, lt_d6 hR, kn_d7 hR, ln_d7 hR, lt_d7 hR, va_rf_some, push_s, push_n, nb0, nb1, nbb, Nat.reduceLT, vu_eq, vu_vu, vu, n21, if_false]
theorem c_begin_b (hR : tRef h d R) {l1 : Value} : ∃ I', (∀ c, c ≠ 21 → c ≠ 22 → c ≠ 23 → c ≠ 25 → c ≠ 55 → I' c = I c) ∧ (∀ k, k < 16 → I' 22 k = I (h + 5) k ∧ I' 23 k = 20) ∧ (I' 21 2 = 0 ∧ I' 21 3 = I h 15 ∧ I' 21 4 = 0 ∧ I' 21 5 = 0 ∧ I' 21 6 = 0 ∧ I' 21 7 = -4 ∧ I' 21 8 = 0) ∧ (I' 25 1 = I 25 1 ∧ I' 25 2 = 0 ∧ I' 55 0 = 0) ∧ ∀ Q, tEv E 44 30 [.ref 0, l1] [] (mS I J R) Q = Q none (mS I' J R) := by
  obtain ⟨I1, f, e1, e2, st⟩ := c_sbegin (E := E) (J := J) (I := I) hR
  refine ⟨va_up (va_up I1 25 (upd (I1 25) 2 0)) 55 (upd (I1 55) 0 0), fun c c1 c2 c3 c4 c5 => ?_, e1, e2, ⟨?_, rfl, rfl⟩, fun Q => ?_⟩
  · rw [vu, if_neg c5, vu, if_neg c4, f c c1 c2 c3]
  · show I1 25 1 = _
    rw [f 25 (by decide) (by decide) (by decide)]
  · simp only [e_44_30, e_44_31, e_44_34, e_44_37, e_44_38, e_44_41, e_44_44, e_44_47, e_44_48, e_44_51, e_44_52, e_44_55, e_44_56, e_44_59, e_44_62, rf_0_0 hR, rf_0_1 hR, rf_0_2 hR, rf_0_3 hR, rf_0_4 hR, rf_0_5 hR, rf_0_6 hR, rf_1_0 hR, rf_3_0 hR, rf_3_2 hR, rf_4_3 hR, rf_4_4 hR, rf_4_5 hR, rf_4_6 hR, rf_4_7 hR, rf_4_8 hR, rf_4_9 hR, rf_12_1 hR, rf_13_3 hR, rf_13_4 hR, rf_13_5 hR, rf_13_6 hR, rf_13_7 hR, rf_13_8 hR, rf_13_9 hR, rf_21_0 hR, rf_21_1 hR, rf_24_0 hR, rf_25_0 hR, rf_26_0 hR, rf_26_1 hR, rf_26_2 hR, rf_26_3 hR, rf_26_4 hR, rf_26_5 hR, rf_26_6 hR, rf_26_7 hR, rf_27_0 hR, rf_27_1 hR, rf_30_0 hR, rf_30_1 hR, rf_33_0 hR, rf_33_1 hR, rf_36_0 hR, rf_36_1 hR, rf_39_0 hR, rf_39_1 hR, rf_42_0 hR, rf_42_1 hR, rf_45_0 hR, rf_45_1 hR, rf_48_0 hR, rf_48_1 hR, rf_51_0 hR, rf_51_1 hR, rf_51_6 hR, rf_51_7 hR, rf_h_3 hR, rf_d_3 hR, rf_h_4 hR, rf_d_4 hR, rf_h_5 hR, rf_d_5 hR, rf_h_6 hR, rf_d_6 hR, rf_h_7 hR, rf_d_7 hR, rf_h_8 hR, rf_d_8 hR, rf_h_9 hR, rf_d_9 hR, rf_12_0 hR, rf_3_1 hR, kn_0, kn_1, kn_2, kn_3, kn_4, kn_5, kn_6, kn_7, kn_8, kn_9, kn_10, kn_11, kn_12, kn_13, kn_14, kn_15, kn_16, kn_17, kn_18, kn_19, kn_20, kn_21, kn_22, kn_23, kn_24, kn_25, kn_26, kn_27, kn_28, kn_29, kn_30, kn_31, kn_32, kn_33, kn_34, kn_35, kn_36, kn_37, kn_38, kn_39, kn_40, kn_41, kn_42, kn_43, kn_44, kn_45, kn_46, kn_47, kn_48, kn_49, kn_50, kn_51, kn_52, kn_53, kn_54, kn_55, ln_2, ln_5, ln_6, ln_7, ln_8, ln_9, ln_10, ln_11, ln_14, ln_15, ln_16, ln_17, ln_18, ln_19, ln_20, ln_22, ln_23, ln_26, ln_28, ln_29, ln_31, ln_32, ln_34, ln_35, ln_37, ln_38, ln_40, ln_41, ln_43, ln_44, ln_46, ln_47, ln_49, ln_50, ln_52, kn_h hR, lt_h hR, kn_h1 hR, ln_h1 hR, lt_h1 hR, kn_h2 hR, ln_h2 hR, lt_h2 hR, kn_h3 hR, ln_h3 hR, lt_h3 hR, kn_h4 hR, ln_h4 hR, lt_h4 hR, kn_h5 hR, ln_h5 hR, lt_h5 hR, kn_h6 hR, ln_h6 hR, lt_h6 hR, kn_h7 hR, ln_h7 hR, lt_h7 hR, kn_d hR, lt_d hR, kn_d1 hR, ln_d1 hR, lt_d1 hR, kn_d2 hR, ln_d2 hR, lt_d2 hR, kn_d3 hR, ln_d3 hR, lt_d3 hR, kn_d4 hR, ln_d4 hR, lt_d4 hR, kn_d5 hR, ln_d5 hR, lt_d5 hR, kn_d6 hR, ln_d6 hR, lt_d6 hR, kn_d7 hR, ln_d7 hR, lt_d7 hR, va_rf_some, push_s, push_n, nb0, nb1, nbb, Nat.reduceLT, st, e_43_0, e_43_1, e_43_2, e_43_5, vu, Nat.reduceEqDiff, if_false]
theorem c_lay_end (hR : tRef h d R) : tEv E 69 32 [.ref 0] [] (mS I J R) Q = Q (some (I h 0)) (mS I J R) := by
  simp only [e_69_32, e_69_33, e_69_36, e_69_39, e_69_42, rf_0_0 hR, rf_0_1 hR, rf_0_2 hR, rf_0_3 hR, rf_0_4 hR, rf_0_5 hR, rf_0_6 hR, rf_1_0 hR, rf_3_0 hR, rf_3_2 hR, rf_4_3 hR, rf_4_4 hR, rf_4_5 hR, rf_4_6 hR, rf_4_7 hR, rf_4_8 hR, rf_4_9 hR, rf_12_1 hR, rf_13_3 hR, rf_13_4 hR, rf_13_5 hR, rf_13_6 hR, rf_13_7 hR, rf_13_8 hR, rf_13_9 hR, rf_21_0 hR, rf_21_1 hR, rf_24_0 hR, rf_25_0 hR, rf_26_0 hR, rf_26_1 hR, rf_26_2 hR, rf_26_3 hR, rf_26_4 hR, rf_26_5 hR, rf_26_6 hR, rf_26_7 hR, rf_27_0 hR, rf_27_1 hR, rf_30_0 hR, rf_30_1 hR, rf_33_0 hR, rf_33_1 hR, rf_36_0 hR, rf_36_1 hR, rf_39_0 hR, rf_39_1 hR, rf_42_0 hR, rf_42_1 hR, rf_45_0 hR, rf_45_1 hR, rf_48_0 hR, rf_48_1 hR, rf_51_0 hR, rf_51_1 hR, rf_51_6 hR, rf_51_7 hR, rf_h_3 hR, rf_d_3 hR, rf_h_4 hR, rf_d_4 hR, rf_h_5 hR, rf_d_5 hR, rf_h_6 hR, rf_d_6 hR, rf_h_7 hR, rf_d_7 hR, rf_h_8 hR, rf_d_8 hR, rf_h_9 hR, rf_d_9 hR, rf_12_0 hR, rf_3_1 hR, kn_0, kn_1, kn_2, kn_3, kn_4, kn_5, kn_6, kn_7, kn_8, kn_9, kn_10, kn_11, kn_12, kn_13, kn_14, kn_15, kn_16, kn_17, kn_18, kn_19, kn_20, kn_21, kn_22, kn_23, kn_24, kn_25, kn_26, kn_27, kn_28, kn_29, kn_30, kn_31, kn_32, kn_33, kn_34, kn_35, kn_36, kn_37, kn_38, kn_39, kn_40, kn_41, kn_42, kn_43, kn_44, kn_45, kn_46, kn_47, kn_48, kn_49, kn_50, kn_51, kn_52, kn_53, kn_54, kn_55, ln_2, ln_5, ln_6, ln_7, ln_8, ln_9, ln_10, ln_11, ln_14, ln_15, ln_16, ln_17, ln_18, ln_19, ln_20, ln_22, ln_23, ln_26, ln_28, ln_29, ln_31, ln_32, ln_34, ln_35, ln_37, ln_38, ln_40, ln_41, ln_43, ln_44, ln_46, ln_47, ln_49, ln_50, ln_52, kn_h hR, lt_h hR, kn_h1 hR, ln_h1 hR, lt_h1 hR, kn_h2 hR, ln_h2 hR, lt_h2 hR, kn_h3 hR, ln_h3 hR, lt_h3 hR, kn_h4 hR, ln_h4 hR, lt_h4 hR, kn_h5 hR, ln_h5 hR, lt_h5 hR, kn_h6 hR, ln_h6 hR, lt_h6 hR, kn_h7 hR, ln_h7 hR, lt_h7 hR, kn_d hR, lt_d hR, kn_d1 hR, ln_d1 hR, lt_d1 hR, kn_d2 hR, ln_d2 hR, lt_d2 hR, kn_d3 hR, ln_d3 hR, lt_d3 hR, kn_d4 hR, ln_d4 hR, lt_d4 hR, kn_d5 hR, ln_d5 hR, lt_d5 hR, kn_d6 hR, ln_d6 hR, lt_d6 hR, kn_d7 hR, ln_d7 hR, lt_d7 hR, va_rf_some, push_s, push_n, nb0, nb1, nbb, Nat.reduceLT]
/-! what the model has laid -/
theorem ld_x {c : Nat} (h1 : c < 56 ∨ 66 ≤ c) : laid K nr nt c = K c := by
  unfold laid
  rw [vu, if_neg (by omega), vu, if_neg (by omega), lyS_x (by omega), vu, if_neg (by omega), vu, if_neg (by omega), vu, if_neg (by omega), vu, if_neg (by omega)]
theorem ld_58 : laid K nr nt 58 = cpN (K 58) (K 69) 6 := Eq.trans rfl rfl
theorem ld_64 : laid K nr nt 64 = cpN (K 64) (K 76) 24 := Eq.trans rfl rfl
theorem ld_65 : laid K nr nt 65 = cpN (K 65) (K 77) 24 := Eq.trans rfl rfl
theorem ld_59 : laid K nr nt 59 = cpN (K 59) (K 70) nt := Eq.trans rfl rfl
theorem ld_60 : laid K nr nt 60 = cpN (K 60) (K 71) nt := Eq.trans rfl rfl
theorem ld_61 : laid K nr nt 61 = cpN (K 61) (K 73) nt := Eq.trans rfl rfl
theorem ld_62 : laid K nr nt 62 = cpN (K 62) (K 74) nt := Eq.trans rfl rfl
theorem ld_63 : laid K nr nt 63 = cpN (K 63) (K 75) nt := Eq.trans rfl rfl
theorem ld_57 : laid K nr nt 57 = upd (upd (upd (upd (lyw K nt) 48 0) 49 0) 50 (-4)) 51 0 := Eq.trans rfl rfl
theorem ld_56 : laid K nr nt 56 = upd (upd (upd (upd (K 56) 2 (nI nr)) 3 (nI nt)) 1 0) 35 0 := Eq.trans rfl rfl
theorem cpN_lt {f g : Nat → Int32} {m k : Nat} (h : k < m) : cpN f g m k = g k := if_pos h
theorem ld_pl {t : Nat} (ht : t < nt) (h16 : nt ≤ 16) : laid K nr nt 57 t = K 72 t := by
  rw [ld_57, ud, if_neg (by omega), ud, if_neg (by omega), ud, if_neg (by omega), ud, if_neg (by omega)]
  unfold lyw
  rw [if_pos ht]
theorem ld_st {t : Nat} (ht : t < nt) (h16 : nt ≤ 16) : laid K nr nt 57 (16 + t) = if K 74 t &&& 32 = 0 then 0 else 2 := by
  rw [ld_57, ud, if_neg (by omega), ud, if_neg (by omega), ud, if_neg (by omega), ud, if_neg (by omega)]
  unfold lyw
  rw [if_neg (show ¬ 16 + t < nt by omega), if_pos (show 16 ≤ 16 + t ∧ 16 + t < 16 + nt by omega), show 16 + t - 16 = t by omega]
theorem ld_oil {t : Nat} (ht : t < nt) (h16 : nt ≤ 16) : laid K nr nt 57 (32 + t) = if K 74 t &&& 16 = 0 then 0 else 20 := by
  rw [ld_57, ud, if_neg (by omega), ud, if_neg (by omega), ud, if_neg (by omega), ud, if_neg (by omega)]
  unfold lyw
  rw [if_neg (show ¬ 32 + t < nt by omega), if_neg (show ¬ (16 ≤ 32 + t ∧ 32 + t < 16 + nt) by omega), if_pos (show 32 ≤ 32 + t ∧ 32 + t < 32 + nt by omega), show 32 + t - 32 = t by omega]
theorem ends_lay {pp : Nat → Nat} {nr nt : Nat} (h6 : nr ≤ 6) (h16 : nt ≤ 16) (h : ∀ t, t < nt → pp t < nr ∨ (10 ≤ pp t ∧ pp t < 10 + t)) {t : Nat} (ht : t < nt) : ends pp t := by
  have key : ∀ m, (∃ i, i ≤ m ∧ inT (ch pp t i) = false) ∨ (10 ≤ ch pp t m ∧ ch pp t m + m < 10 + t) := by
    intro m
    induction m with
    | zero =>
      rcases h t ht with q | q
      · exact Or.inl ⟨0, Nat.le_refl _, decide_eq_false (show ¬ (10 ≤ pp t ∧ pp t ≤ 25) by omega)⟩
      · exact Or.inr q
    | succ m ih =>
      rcases ih with ⟨i, i1, i2⟩ | ⟨q1, q2⟩
      · exact Or.inl ⟨i, by omega, i2⟩
      · have hin : inT (ch pp t m) = true := decide_eq_true (show 10 ≤ ch pp t m ∧ ch pp t m ≤ 25 by omega)
        have e : ch pp t (m + 1) = pp (ch pp t m - 10) := nx_in hin
        rcases h (ch pp t m - 10) (by omega) with w | w
        · exact Or.inl ⟨m + 1, Nat.le_refl _, by rw [e]; exact decide_eq_false (show ¬ (10 ≤ pp (ch pp t m - 10) ∧ pp (ch pp t m - 10) ≤ 25) by omega)⟩
        · exact Or.inr (by rw [e]; omega)
  rcases key t with ⟨i, -, i2⟩ | q
  · exact ⟨i, i2⟩
  · omega
/-- it agrees with the class's -/
theorem lay_RW (hd : d = 4 ∨ d = 13) (hD : DR K I d nr nt pp) (h0 : 0 < nr) (hK : ∀ c, c < 56 → c ≠ 21 → c ≠ 22 → c ≠ 23 → c ≠ 25 → c ≠ 55 → K c = I c) (e1 : ∀ k, k < 16 → K 22 k = I (d + 5) k ∧ K 23 k = 20) (e2 : K 21 2 = 0 ∧ K 21 3 = I d 15 ∧ K 21 4 = 0 ∧ K 21 5 = 0 ∧ K 21 6 = 0 ∧ K 21 7 = -4 ∧ K 21 8 = 0) : RW (laid K nr nt) d nr nt 0 pp := by
  obtain ⟨⟨a1, a2, a3, a4⟩, ⟨b1, b2⟩, ⟨c1, c2, c3, c4⟩, ⟨g1, g2, g3, g4, g5⟩, f1, ⟨k1, k2, k3, k4, k5, k6⟩, i1, i2⟩ := hD
  have lo : ∀ c, d ≤ c → c ≤ d + 7 → laid K nr nt c = I c := fun c h1 h2 => by
    rw [ld_x (by omega), hK c (by omega) (by omega) (by omega) (by omega) (by omega) (by omega)]
  have l0 := lo d (by omega) (by omega)
  have hm : ∀ t, t < nt → laid K nr nt 62 t = K 74 t := fun t ht => by rw [ld_62, cpN_lt ht]
  have hB : ∀ f m, dB K I d f nt m → cB (laid K nr nt) d f nt (fun t => mtr (laid K nr nt) t m) := fun f m g t ht => by
    rw [l0, g t ht]
    by_cases c : t < nt
    · show (decide (t < nt) && !decide (K 74 t &&& m = 0)) = (decide (t < nt) && !decide (laid K nr nt 62 t &&& m = 0))
      rw [hm t c]
    · rw [decide_eq_false c, Bool.false_and, Bool.false_and]
  have e21 : laid K nr nt 21 = K 21 := ld_x (by decide)
  have e22 : laid K nr nt 22 = K 22 := ld_x (by decide)
  have e23 : laid K nr nt 23 = K 23 := ld_x (by decide)
  have s1 : ∀ t, t < nt → mst (laid K nr nt) t 1 = false := fun t ht => by
    unfold mst
    rw [ld_st ht a4]
    split <;> rfl
  have s4 : ∀ t, t < nt → mst (laid K nr nt) t 4 = false := fun t ht => by
    unfold mst
    rw [ld_st ht a4]
    split <;> rfl
  have s2 : ∀ t, t < nt → mst (laid K nr nt) t 2 = !decide (K 74 t &&& 32 = 0) := fun t ht => by
    unfold mst
    rw [ld_st ht a4]
    by_cases c : K 74 t &&& 32 = 0
    · rw [if_pos c, decide_eq_true c]; rfl
    · rw [if_neg c, decide_eq_false c]; rfl
  have z0 : ∀ f (q : Nat → Bool), laid K nr nt 21 f = 0 → (∀ t, t < nt → q t = false) → cB (laid K nr nt) 21 f nt q := fun f q h1 h2 t ht => by
    rw [h1, b_0]
    by_cases c : t < nt
    · rw [h2 t c, Bool.and_false]
    · rw [decide_eq_false c, Bool.false_and]
  have oil : ∀ t, t < nt → mtr (laid K nr nt) t 16 = true → laid K nr nt 57 (32 + t) = 20 := fun t ht hx => by
    unfold mtr at hx
    rw [hm t ht] at hx
    rw [ld_oil ht a4, if_neg]
    intro e
    rw [decide_eq_true e] at hx
    cases hx
  refine ⟨⟨⟨rfl, rfl, a3, a4, fun t ht => ?_, fun t ht => ?_⟩, ⟨rfl, h0, fun k hk => ?_, fun k hk => ?_⟩, ⟨⟨?_, ?_, ?_⟩, ⟨?_, ?_, ?_, ?_, ?_, ?_⟩, hB 10 1 k1, hB 11 2 k2, hB 12 4 k3, hB 13 8 k4, hB 14 16 k5, hB 15 32 k6⟩, ⟨⟨fun t ht => ?_, ?_, ?_, ?_⟩, ?_, ?_, ?_, ?_, fun t ht hx => ?_⟩, fun k t hk ht he => ?_⟩, fun t ht => ⟨fun hx => ?_, fun hx => ?_⟩, fun r hr => ?_, Or.inl rfl⟩
  · obtain ⟨q1, q2⟩ := i2 t ht
    refine ⟨(ld_pl ht a4).trans q1, ?_⟩
    rcases q2 with q | q
    · exact Or.inl q
    · exact Or.inr (Or.inl ⟨q.1, by omega⟩)
  · exact ends_lay a3 a4 (fun t ht => (i2 t ht).2) ht
  · rw [ld_64, cpN_lt hk]
    exact c3 k hk
  · rw [ld_65, cpN_lt hk]
    rcases c4 k hk with q | ⟨t, q1, q2, q3⟩
    · exact Or.inl q
    · exact Or.inr ⟨t, q1, q2⟩
  · rw [l0]; exact a1
  · rw [l0]; exact a2
  · intro r hr
    rw [l0, b1 r (by omega), decide_eq_true hr, ld_58, cpN_lt (show r < 6 by omega), Bool.true_and]
  · intro k hk
    rw [lo (d + 1) (by omega) (by omega), ld_64, cpN_lt hk, c1 k hk]
  · intro k hk
    rw [lo (d + 2) (by omega) (by omega), ld_65, cpN_lt hk, c2 k hk]
  · intro t ht
    rw [lo (d + 3) (by omega) (by omega), ld_59]
    by_cases c : t < nt
    · rw [if_pos c, cpN_lt c, g1 t ht c]
    · rw [if_neg c, (f1 t ht (by omega)).1]
  · intro t ht
    rw [lo (d + 4) (by omega) (by omega), ld_60]
    by_cases c : t < nt
    · rw [if_pos c, cpN_lt c, g2 t ht c]
    · rw [if_neg c, (f1 t ht (by omega)).2.1]
  · intro t ht
    rw [lo (d + 6) (by omega) (by omega), ld_61]
    by_cases c : t < nt
    · rw [if_pos c, cpN_lt c, g4 t ht c]
    · rw [if_neg c, (f1 t ht (by omega)).2.2.2.1]
  · intro t ht
    rw [lo (d + 7) (by omega) (by omega), ld_63, cpN_lt ht, g5 t (by omega) ht]
  · rw [e22, (e1 t ht).1]
    by_cases c : t < nt
    · rw [if_pos c, g3 t ht c]
    · rw [if_neg c, (f1 t ht (by omega)).2.2.1]
      rfl
  · exact z0 2 _ (by rw [e21]; exact e2.1) s1
  · intro t ht
    rw [e21, e2.2.1, k6 t ht]
    by_cases c : t < nt
    · show _ = (decide (t < nt) && mst (laid K nr nt) t 2)
      rw [s2 t c]
    · rw [decide_eq_false c, Bool.false_and, Bool.false_and]
  · exact z0 4 _ (by rw [e21]; exact e2.2.2.1) s4
  · rw [e21, e2.2.2.2.1]; rfl
  · rw [e21, e2.2.2.2.2.1]; rfl
  · rw [e21, e2.2.2.2.2.2.1]; rfl
  · rw [e21, e2.2.2.2.2.2.2]; rfl
  · rw [e23, (e1 t (by omega)).2, oil t ht hx]
  · rw [ld_65, cpN_lt hk] at he
    rcases c4 k hk with q | ⟨t', q1, q2, q3⟩
    · rw [q] at he
      exact absurd he.symm (nI_n4 (by omega))
    · rw [q2] at he
      obtain rfl : t' = t := (nI_eq (by omega) (by omega)).mp he
      unfold mtr
      rw [hm t' ht, decide_eq_false q3]
      rfl
  · rw [s4 t ht] at hx
    cases hx
  · exact ⟨20, by decide, oil t ht hx, fun _ => by decide⟩
  · rw [ld_58, cpN_lt (show r < 6 by omega)]
    exact b2 r hr
end K6
