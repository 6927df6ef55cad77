/-! ===== the class's reader: all items ===== -/
section K4
variable {E : tm_Env} {Q : Option Int32 → tm_St → Prop} {M M' I : Nat → Nat → Int32} {J : Nat → Nat → Int64} {R : Nat → Nat → Option Nat} {h d : Nat} {n p q nr nt : Nat} {tc pp : Nat → Nat}
theorem clr_l1 (hR : tRef h d R) : ∀ j i (I : Nat → Nat → Int32), i + j = 24 → (∀ k, k < i → I (d + 1) k = -4 ∧ I (d + 2) k = -4) → ∃ I', frD I I' d ∧ I' d = I d ∧ (∀ k, k < 24 → I' (d + 1) k = -4 ∧ I' (d + 2) k = -4) ∧ ∀ Q, tEv E 19 17 [.ref d, .int (nI i)] [] (mS I J R) Q = tEv E 19 45 [.ref d, .int (nI 24)] [] (mS I' J R) Q
  | 0, i, I, hj, hi => by
    obtain rfl : i = 24 := by omega
    have hn : (nI 24 < (24 : Int32)) = False := eq_false (by decide)
    refine ⟨I, frD_refl I d, rfl, hi, fun Q => ?_⟩
    rw [e_19_17]
    simp only [e_19_18, e_19_20, hn, if_false]
  | j + 1, i, I, hj, hi => by
    have hn : (nI i < (24 : Int32)) = True := eq_true (nI_lt (b := 24) (by omega) (by omega))
    have hix := inb_nI (j := i) (n := 24) (by omega) (by decide)
    have hcl := nI_cl (n := i) (by omega)
    have nar2 : ∀ v, vp_nar .int v = v := fun _ => rfl
    have n1 : (d + 2 = d + 1) = False := eq_false (by omega)
    have n2 : (d + 1 = d + 2) = False := eq_false (by omega)
    obtain ⟨I', f, e0, e1, st⟩ := clr_l1 hR j (i + 1) (va_up (va_up I (d + 1) (upd (I (d + 1)) i (-4))) (d + 2) (upd (I (d + 2)) i (-4))) (by omega) (fun k hk => by
      rw [vu, if_neg (show ¬ d + 1 = d + 2 by omega), vu_eq, vu_eq, ud, ud]
      by_cases e : k = i
      · rw [if_pos e, if_pos e]
        exact ⟨rfl, rfl⟩
      · rw [if_neg e, if_neg e]
        exact hi k (by omega))
    refine ⟨I', frD_trans (frD_up (frD_up (frD_refl I d) ⟨by omega, by omega⟩) ⟨by omega, by omega⟩) f, ?_, e1, fun Q => ?_⟩
    · rw [e0, vu, if_neg (by omega), vu, if_neg (by omega)]
    · rw [← st Q, e_19_17]
      simp only [e_19_18, e_19_20, e_19_23, e_19_24, e_19_27, e_19_28, e_19_30, e_19_31, e_19_32, e_19_35, e_19_36, e_19_38, e_19_39, e_19_42, rf_0_0 hR, rf_0_1 hR, rf_0_2 hR, rf_0_3 hR, rf_0_4 hR, rf_0_5 hR, rf_0_6 hR, rf_1_0 hR, rf_3_0 hR, rf_3_2 hR, rf_4_3 hR, rf_4_4 hR, rf_4_5 hR, rf_4_6 hR, rf_4_7 hR, rf_4_8 hR, rf_4_9 hR, rf_12_1 hR, rf_13_3 hR, rf_13_4 hR, rf_13_5 hR, rf_13_6 hR, rf_13_7 hR, rf_13_8 hR, rf_13_9 hR, rf_21_0 hR, rf_21_1 hR, rf_24_0 hR, rf_25_0 hR, rf_26_0 hR, rf_26_1 hR, rf_26_2 hR, rf_26_3 hR, rf_26_4 hR, rf_26_5 hR, rf_26_6 hR, rf_26_7 hR, rf_27_0 hR, rf_27_1 hR, rf_30_0 hR, rf_30_1 hR, rf_33_0 hR, rf_33_1 hR, rf_36_0 hR, rf_36_1 hR, rf_39_0 hR, rf_39_1 hR, rf_42_0 hR, rf_42_1 hR, rf_45_0 hR, rf_45_1 hR, rf_48_0 hR, rf_48_1 hR, rf_51_0 hR, rf_51_1 hR, rf_51_6 hR, rf_51_7 hR, rf_h_3 hR, rf_d_3 hR, rf_h_4 hR, rf_d_4 hR, rf_h_5 hR, rf_d_5 hR, rf_h_6 hR, rf_d_6 hR, rf_h_7 hR, rf_d_7 hR, rf_h_8 hR, rf_d_8 hR, rf_h_9 hR, rf_d_9 hR, rf_12_0 hR, rf_3_1 hR, kn_0, kn_1, kn_2, kn_3, kn_4, kn_5, kn_6, kn_7, kn_8, kn_9, kn_10, kn_11, kn_12, kn_13, kn_14, kn_15, kn_16, kn_17, kn_18, kn_19, kn_20, kn_21, kn_22, kn_23, kn_24, kn_25, kn_26, kn_27, kn_28, kn_29, kn_30, kn_31, kn_32, kn_33, kn_34, kn_35, kn_36, kn_37, kn_38, kn_39, kn_40, kn_41, kn_42, kn_43, kn_44, kn_45, kn_46, kn_47, kn_48, kn_49, kn_50, kn_51, kn_52, kn_53, kn_54, kn_55, ln_2, ln_5, ln_6, ln_7, ln_8, ln_9, ln_10, ln_11, ln_14, ln_15, ln_16, ln_17, ln_18, ln_19, ln_20, ln_22, ln_23, ln_26, ln_28, ln_29, ln_31, ln_32, ln_34, ln_35, ln_37, ln_38, ln_40, ln_41, ln_43, ln_44, ln_46, ln_47, ln_49, ln_50, ln_52, kn_h hR, lt_h hR, kn_h1 hR, ln_h1 hR, lt_h1 hR, kn_h2 hR, ln_h2 hR, lt_h2 hR, kn_h3 hR, ln_h3 hR, lt_h3 hR, kn_h4 hR, ln_h4 hR, lt_h4 hR, kn_h5 hR, ln_h5 hR, lt_h5 hR, kn_h6 hR, ln_h6 hR, lt_h6 hR, kn_h7 hR, ln_h7 hR, lt_h7 hR, kn_d hR, lt_d hR, kn_d1 hR, ln_d1 hR, lt_d1 hR, kn_d2 hR, ln_d2 hR, lt_d2 hR, kn_d3 hR, ln_d3 hR, lt_d3 hR, kn_d4 hR, ln_d4 hR, lt_d4 hR, kn_d5 hR, ln_d5 hR, lt_d5 hR, kn_d6 hR, ln_d6 hR, lt_d6 hR, kn_d7 hR, ln_d7 hR, lt_d7 hR, va_rf_some, push_s, push_n, nb0, nb1, nbb, Nat.reduceLT, hn, if_true, hix, hcl, nar2, vu, n1, n2, if_false, nI_1]
theorem clr_l2 (hR : tRef h d R) : ∀ j i (I : Nat → Nat → Int32), i + j = 16 → (∀ k, k < i → I (d + 3) k = -4 ∧ I (d + 4) k = -4 ∧ I (d + 5) k = 23 ∧ I (d + 6) k = 0 ∧ I (d + 7) k = -4) → ∃ I', frD I I' d ∧ (I' d = I d ∧ I' (d + 1) = I (d + 1) ∧ I' (d + 2) = I (d + 2)) ∧ (∀ k, k < 16 → I' (d + 3) k = -4 ∧ I' (d + 4) k = -4 ∧ I' (d + 5) k = 23 ∧ I' (d + 6) k = 0 ∧ I' (d + 7) k = -4) ∧ ∀ Q, tEv E 19 47 [.ref d, .int (nI i)] [] (mS I J R) Q = tEv E 19 98 [.ref d, .int (nI 16)] [] (mS I' J R) Q
  | 0, i, I, hj, hi => by
    obtain rfl : i = 16 := by omega
    have hn : (nI 16 < (16 : Int32)) = False := eq_false (by decide)
    refine ⟨I, frD_refl I d, ⟨rfl, rfl, rfl⟩, hi, fun Q => ?_⟩
    rw [e_19_47]
    simp only [e_19_48, e_19_50, hn, if_false]
  | j + 1, i, I, hj, hi => by
    have hn : (nI i < (16 : Int32)) = True := eq_true (nI_lt (b := 16) (by omega) (by omega))
    have hix := inb_nI (j := i) (n := 16) (by omega) (by decide)
    have hcl := nI_cl (n := i) (by omega)
    have nar2 : ∀ v, vp_nar .int v = v := fun _ => rfl
    have n43 : (d + 4 = d + 3) = False := eq_false (by omega)
    have n53 : (d + 5 = d + 3) = False := eq_false (by omega)
    have n54 : (d + 5 = d + 4) = False := eq_false (by omega)
    have n63 : (d + 6 = d + 3) = False := eq_false (by omega)
    have n64 : (d + 6 = d + 4) = False := eq_false (by omega)
    have n65 : (d + 6 = d + 5) = False := eq_false (by omega)
    have n73 : (d + 7 = d + 3) = False := eq_false (by omega)
    have n74 : (d + 7 = d + 4) = False := eq_false (by omega)
    have n75 : (d + 7 = d + 5) = False := eq_false (by omega)
    have n76 : (d + 7 = d + 6) = False := eq_false (by omega)
    obtain ⟨I', f, ⟨e0, e1, e2⟩, e3, st⟩ := clr_l2 hR j (i + 1) (va_up (va_up (va_up (va_up (va_up I (d + 3) (upd (I (d + 3)) i (-4))) (d + 4) (upd (I (d + 4)) i (-4))) (d + 5) (upd (I (d + 5)) i 23)) (d + 6) (upd (I (d + 6)) i 0)) (d + 7) (upd (I (d + 7)) i (-4))) (by omega) (fun k hk => by
      have w3 : ∀ (f3 f4 f5 f6 f7 : Nat → Int32), va_up (va_up (va_up (va_up (va_up I (d + 3) f3) (d + 4) f4) (d + 5) f5) (d + 6) f6) (d + 7) f7 (d + 3) = f3 := fun f3 f4 f5 f6 f7 => by
        rw [vu, if_neg (by omega), vu, if_neg (by omega), vu, if_neg (by omega), vu, if_neg (by omega), vu_eq]
      have w4 : ∀ (f3 f4 f5 f6 f7 : Nat → Int32), va_up (va_up (va_up (va_up (va_up I (d + 3) f3) (d + 4) f4) (d + 5) f5) (d + 6) f6) (d + 7) f7 (d + 4) = f4 := fun f3 f4 f5 f6 f7 => by
        rw [vu, if_neg (by omega), vu, if_neg (by omega), vu, if_neg (by omega), vu_eq]
      have w5 : ∀ (f3 f4 f5 f6 f7 : Nat → Int32), va_up (va_up (va_up (va_up (va_up I (d + 3) f3) (d + 4) f4) (d + 5) f5) (d + 6) f6) (d + 7) f7 (d + 5) = f5 := fun f3 f4 f5 f6 f7 => by
        rw [vu, if_neg (by omega), vu, if_neg (by omega), vu_eq]
      have w6 : ∀ (f3 f4 f5 f6 f7 : Nat → Int32), va_up (va_up (va_up (va_up (va_up I (d + 3) f3) (d + 4) f4) (d + 5) f5) (d + 6) f6) (d + 7) f7 (d + 6) = f6 := fun f3 f4 f5 f6 f7 => by
        rw [vu, if_neg (by omega), vu_eq]
      rw [w3, w4, w5, w6, vu_eq, ud, ud, ud, ud, ud]
      by_cases e : k = i
      · rw [if_pos e, if_pos e, if_pos e, if_pos e, if_pos e]
        exact ⟨rfl, rfl, rfl, rfl, rfl⟩
      · rw [if_neg e, if_neg e, if_neg e, if_neg e, if_neg e]
        exact hi k (by omega))
    have w : ∀ c, c < d + 3 → ∀ (f3 f4 f5 f6 f7 : Nat → Int32), va_up (va_up (va_up (va_up (va_up I (d + 3) f3) (d + 4) f4) (d + 5) f5) (d + 6) f6) (d + 7) f7 c = I c := fun c hc f3 f4 f5 f6 f7 => by
      rw [vu, if_neg (by omega), vu, if_neg (by omega), vu, if_neg (by omega), vu, if_neg (by omega), vu, if_neg (by omega)]
    refine ⟨I', frD_trans (frD_up (frD_up (frD_up (frD_up (frD_up (frD_refl I d) ⟨by omega, by omega⟩) ⟨by omega, by omega⟩) ⟨by omega, by omega⟩) ⟨by omega, by omega⟩) ⟨by omega, by omega⟩) f, ⟨?_, ?_, ?_⟩, e3, fun Q => ?_⟩
    · rw [e0, w d (by omega)]
    · rw [e1, w (d + 1) (by omega)]
    · rw [e2, w (d + 2) (by omega)]
    · rw [← st Q, e_19_47]
      simp only [e_19_48, e_19_50, e_19_53, e_19_54, e_19_57, e_19_58, e_19_60, e_19_61, e_19_62, e_19_65, e_19_66, e_19_68, e_19_69, e_19_70, e_19_73, e_19_74, e_19_76, e_19_77, e_19_78, e_19_81, e_19_82, e_19_83, e_19_84, e_19_85, e_19_88, e_19_89, e_19_91, e_19_92, e_19_95, rf_0_0 hR, rf_0_1 hR, rf_0_2 hR, rf_0_3 hR, rf_0_4 hR, rf_0_5 hR, rf_0_6 hR, rf_1_0 hR, rf_3_0 hR, rf_3_2 hR, rf_4_3 hR, rf_4_4 hR, rf_4_5 hR, rf_4_6 hR, rf_4_7 hR, rf_4_8 hR, rf_4_9 hR, rf_12_1 hR, rf_13_3 hR, rf_13_4 hR, rf_13_5 hR, rf_13_6 hR, rf_13_7 hR, rf_13_8 hR, rf_13_9 hR, rf_21_0 hR, rf_21_1 hR, rf_24_0 hR, rf_25_0 hR, rf_26_0 hR, rf_26_1 hR, rf_26_2 hR, rf_26_3 hR, rf_26_4 hR, rf_26_5 hR, rf_26_6 hR, rf_26_7 hR, rf_27_0 hR, rf_27_1 hR, rf_30_0 hR, rf_30_1 hR, rf_33_0 hR, rf_33_1 hR, rf_36_0 hR, rf_36_1 hR, rf_39_0 hR, rf_39_1 hR, rf_42_0 hR, rf_42_1 hR, rf_45_0 hR, rf_45_1 hR, rf_48_0 hR, rf_48_1 hR, rf_51_0 hR, rf_51_1 hR, rf_51_6 hR, rf_51_7 hR, rf_h_3 hR, rf_d_3 hR, rf_h_4 hR, rf_d_4 hR, rf_h_5 hR, rf_d_5 hR, rf_h_6 hR, rf_d_6 hR, rf_h_7 hR, rf_d_7 hR, rf_h_8 hR, rf_d_8 hR, rf_h_9 hR, rf_d_9 hR, rf_12_0 hR, rf_3_1 hR, kn_0, kn_1, kn_2, kn_3, kn_4, kn_5, kn_6, kn_7, kn_8, kn_9, kn_10, kn_11, kn_12, kn_13, kn_14, kn_15, kn_16, kn_17, kn_18, kn_19, kn_20, kn_21, kn_22, kn_23, kn_24, kn_25, kn_26, kn_27, kn_28, kn_29, kn_30, kn_31, kn_32, kn_33, kn_34, kn_35, kn_36, kn_37, kn_38, kn_39, kn_40, kn_41, kn_42, kn_43, kn_44, kn_45, kn_46, kn_47, kn_48, kn_49, kn_50, kn_51, kn_52, kn_53, kn_54, kn_55, ln_2, ln_5, ln_6, ln_7, ln_8, ln_9, ln_10, ln_11, ln_14, ln_15, ln_16, ln_17, ln_18, ln_19, ln_20, ln_22, ln_23, ln_26, ln_28, ln_29, ln_31, ln_32, ln_34, ln_35, ln_37, ln_38, ln_40, ln_41, ln_43, ln_44, ln_46, ln_47, ln_49, ln_50, ln_52, kn_h hR, lt_h hR, kn_h1 hR, ln_h1 hR, lt_h1 hR, kn_h2 hR, ln_h2 hR, lt_h2 hR, kn_h3 hR, ln_h3 hR, lt_h3 hR, kn_h4 hR, ln_h4 hR, lt_h4 hR, kn_h5 hR, ln_h5 hR, lt_h5 hR, kn_h6 hR, ln_h6 hR, lt_h6 hR, kn_h7 hR, ln_h7 hR, lt_h7 hR, kn_d hR, lt_d hR, kn_d1 hR, ln_d1 hR, lt_d1 hR, kn_d2 hR, ln_d2 hR, lt_d2 hR, kn_d3 hR, ln_d3 hR, lt_d3 hR, kn_d4 hR, ln_d4 hR, lt_d4 hR, kn_d5 hR, ln_d5 hR, lt_d5 hR, kn_d6 hR, ln_d6 hR, lt_d6 hR, kn_d7 hR, ln_d7 hR, lt_d7 hR, va_rf_some, push_s, push_n, nb0, nb1, nbb, Nat.reduceLT, hn, if_true, hix, hcl, nar2, vu, n43, n53, n54, n63, n64, n65, n73, n74, n75, n76, if_false, nI_1]
/-- an empty draft -/
theorem c_clear (hR : tRef h d R) (h1 : ∀ k, k < 24 → M 76 k = -4 ∧ M 77 k = -4) (h2 : M 56 28 = 0) : ∃ I', frD I I' d ∧ DR M I' d 0 0 pp ∧ ∀ Q, tEv E 19 0 [.ref d, tm_dum] [] (mS I J R) Q = Q none (mS I' J R) := by
  have dd := dd_of hR
  obtain ⟨I1, f1, a1, b1, st1⟩ := clr_l1 (E := E) (J := J) hR 24 0 (va_up I d (upd (upd (upd (I d) 0 0) 1 0) 2 0)) (by omega) (fun k hk => absurd hk (Nat.not_lt_zero k))
  obtain ⟨I2, f2, ⟨a2, a3, a4⟩, b2, st2⟩ := clr_l2 (E := E) (J := J) hR 16 0 I1 (by omega) (fun k hk => absurd hk (Nat.not_lt_zero k))
  have hd0 : I2 d = upd (upd (upd (I d) 0 0) 1 0) 2 0 := by rw [a2, a1, vu_eq]
  refine ⟨va_up I2 d (upd (upd (upd (upd (upd (upd (upd (I2 d) 10 0) 11 0) 12 0) 13 0) 14 0) 15 0) 16 0), frD_up (frD_trans (frD_trans (frD_up (frD_refl I d) ⟨Nat.le_refl _, by omega⟩) f1) f2) ⟨Nat.le_refl _, by omega⟩, ?_, fun Q => ?_⟩
  · have l : ∀ c, d < c → ∀ f, va_up I2 d f c = I2 c := fun c hc f => by rw [vu, if_neg (by omega)]
    unfold DR dB cB
    rw [l (d + 1) (by omega), l (d + 2) (by omega), l (d + 3) (by omega), l (d + 4) (by omega), l (d + 5) (by omega), l (d + 6) (by omega), l (d + 7) (by omega), vu_eq, hd0, a3, a4]
    simp only [ud, Nat.reduceEqDiff, if_true, if_false, Nat.not_lt_zero, decide_false, Bool.false_and, b_0, h2]
    refine ⟨⟨rfl, rfl, by omega, by omega⟩, ⟨fun _ _ => trivial, fun _ h => h.elim⟩, ⟨fun k hk => ?_, fun k hk => ?_, fun k hk => Or.inl (h1 k hk).1, fun k hk => Or.inl (h1 k hk).2⟩, ⟨fun _ _ h => h.elim, fun _ _ h => h.elim, fun _ _ h => h.elim, fun _ _ h => h.elim, fun _ _ h => h.elim⟩, fun t ht _ => b2 t ht, ⟨fun _ _ => trivial, fun _ _ => trivial, fun _ _ => trivial, fun _ _ => trivial, fun _ _ => trivial, fun _ _ => trivial⟩, fun _ _ => trivial, fun _ h => h.elim⟩
    · rw [(b1 k hk).1, (h1 k hk).1]
    · rw [(b1 k hk).2, (h1 k hk).2]
  · rw [show nI 0 = (0 : Int32) from rfl] at st1 st2
    simp only [e_19_0, e_19_1, e_19_2, e_19_5, e_19_6, e_19_7, e_19_10, e_19_11, e_19_12, e_19_15, e_19_16, rf_0_0 hR, rf_0_1 hR, rf_0_2 hR, rf_0_3 hR, rf_0_4 hR, rf_0_5 hR, rf_0_6 hR, rf_1_0 hR, rf_3_0 hR, rf_3_2 hR, rf_4_3 hR, rf_4_4 hR, rf_4_5 hR, rf_4_6 hR, rf_4_7 hR, rf_4_8 hR, rf_4_9 hR, rf_12_1 hR, rf_13_3 hR, rf_13_4 hR, rf_13_5 hR, rf_13_6 hR, rf_13_7 hR, rf_13_8 hR, rf_13_9 hR, rf_21_0 hR, rf_21_1 hR, rf_24_0 hR, rf_25_0 hR, rf_26_0 hR, rf_26_1 hR, rf_26_2 hR, rf_26_3 hR, rf_26_4 hR, rf_26_5 hR, rf_26_6 hR, rf_26_7 hR, rf_27_0 hR, rf_27_1 hR, rf_30_0 hR, rf_30_1 hR, rf_33_0 hR, rf_33_1 hR, rf_36_0 hR, rf_36_1 hR, rf_39_0 hR, rf_39_1 hR, rf_42_0 hR, rf_42_1 hR, rf_45_0 hR, rf_45_1 hR, rf_48_0 hR, rf_48_1 hR, rf_51_0 hR, rf_51_1 hR, rf_51_6 hR, rf_51_7 hR, rf_h_3 hR, rf_d_3 hR, rf_h_4 hR, rf_d_4 hR, rf_h_5 hR, rf_d_5 hR, rf_h_6 hR, rf_d_6 hR, rf_h_7 hR, rf_d_7 hR, rf_h_8 hR, rf_d_8 hR, rf_h_9 hR, rf_d_9 hR, rf_12_0 hR, rf_3_1 hR, kn_0, kn_1, kn_2, kn_3, kn_4, kn_5, kn_6, kn_7, kn_8, kn_9, kn_10, kn_11, kn_12, kn_13, kn_14, kn_15, kn_16, kn_17, kn_18, kn_19, kn_20, kn_21, kn_22, kn_23, kn_24, kn_25, kn_26, kn_27, kn_28, kn_29, kn_30, kn_31, kn_32, kn_33, kn_34, kn_35, kn_36, kn_37, kn_38, kn_39, kn_40, kn_41, kn_42, kn_43, kn_44, kn_45, kn_46, kn_47, kn_48, kn_49, kn_50, kn_51, kn_52, kn_53, kn_54, kn_55, ln_2, ln_5, ln_6, ln_7, ln_8, ln_9, ln_10, ln_11, ln_14, ln_15, ln_16, ln_17, ln_18, ln_19, ln_20, ln_22, ln_23, ln_26, ln_28, ln_29, ln_31, ln_32, ln_34, ln_35, ln_37, ln_38, ln_40, ln_41, ln_43, ln_44, ln_46, ln_47, ln_49, ln_50, ln_52, kn_h hR, lt_h hR, kn_h1 hR, ln_h1 hR, lt_h1 hR, kn_h2 hR, ln_h2 hR, lt_h2 hR, kn_h3 hR, ln_h3 hR, lt_h3 hR, kn_h4 hR, ln_h4 hR, lt_h4 hR, kn_h5 hR, ln_h5 hR, lt_h5 hR, kn_h6 hR, ln_h6 hR, lt_h6 hR, kn_h7 hR, ln_h7 hR, lt_h7 hR, kn_d hR, lt_d hR, kn_d1 hR, ln_d1 hR, lt_d1 hR, kn_d2 hR, ln_d2 hR, lt_d2 hR, kn_d3 hR, ln_d3 hR, lt_d3 hR, kn_d4 hR, ln_d4 hR, lt_d4 hR, kn_d5 hR, ln_d5 hR, lt_d5 hR, kn_d6 hR, ln_d6 hR, lt_d6 hR, kn_d7 hR, ln_d7 hR, lt_d7 hR, va_rf_some, push_s, push_n, nb0, nb1, nbb, Nat.reduceLT, vu_eq, vu_vu, st1, e_19_45, e_19_46, st2, e_19_98, e_19_99, e_19_100, e_19_103, e_19_104, e_19_105, e_19_108, e_19_109, e_19_110, e_19_113, e_19_114, e_19_115, e_19_118, e_19_119, e_19_120, e_19_123, e_19_124, e_19_125, e_19_128, e_19_129, e_19_130, e_19_133]
theorem c_hloop_1 (hR : tRef h d R) : ∀ f i (M I : Nat → Nat → Int32) nr nt p pp, n < p + f → i ≤ p → p ≤ n → TXc I n tc → rdI M nr nt → DR M I d nr nt pp → ∀ M' nr' nt', rds n tc f M nr nt p = (none, M', nr', nt') → ∀ l2, ∃ I' pp', frD I I' d ∧ DR M' I' d nr' nt' pp' ∧ ∀ Q, tEv E 41 14 [.ref 3, .int (nI i), l2] [] (mS (hx I p) J R) Q = Q (some (-4)) (mS I' J R)
  | 0, i, M, I, nr, nt, p, pp, hf, hi, hp, hT, hI, hD, M', nr', nt', he => by omega
  | f + 1, i, M, I, nr, nt, p, pp, hf, hi, hp, hT, hI, hD, M', nr', nt', he => by
    intro l2
    have dd := dd_of hR
    have hn := hT.2.1
    rw [rds] at he
    by_cases c : p < n
    · rw [if_pos c] at he
      cases hm : itm M n tc nr nt p with
      | none => rw [hm] at he; cases he
      | some w =>
        obtain ⟨M2, a, b, q⟩ := w
        rw [hm] at he
        simp only at he
        have hk := itm_ok hI hm
        obtain ⟨I2, pp2, f2, hD2, st2⟩ := c_item_1 (E := E) (J := J) hR hT hD c hI hm
        obtain ⟨I', pp', f3, hD3, st3⟩ := c_hloop_1 hR f (i + 1) M2 I2 a b q pp2 (by omega) (by omega) hk.2.2.2 (TXc_fr dd f2 hT) hk.1 hD2 M' nr' nt' he (.int (nI p))
        refine ⟨I', pp', frD_trans f2 f3, hD3, fun Q => ?_⟩
        have e1 : (nI i < 240) = True := eq_true (nI_lt (b := 240) (by omega) (by omega))
        have e2 : (nI p < nI n) = True := eq_true ((nI_ltI (by omega) (by omega)).mpr c)
        rw [← st3 Q]
        rw [e_41_14]
        simp only [e_41_15, e_41_18, e_41_21, e_41_22, e_41_25, e_41_26, e_41_29, e_41_32, e_41_35, e_41_36, e_41_39, e_41_40, e_41_41, e_41_44, e_41_47, e_41_48, e_41_49, e_41_52, rf_0_0 hR, rf_0_1 hR, rf_0_2 hR, rf_0_3 hR, rf_0_4 hR, rf_0_5 hR, rf_0_6 hR, rf_1_0 hR, rf_3_0 hR, rf_3_2 hR, rf_4_3 hR, rf_4_4 hR, rf_4_5 hR, rf_4_6 hR, rf_4_7 hR, rf_4_8 hR, rf_4_9 hR, rf_12_1 hR, rf_13_3 hR, rf_13_4 hR, rf_13_5 hR, rf_13_6 hR, rf_13_7 hR, rf_13_8 hR, rf_13_9 hR, rf_21_0 hR, rf_21_1 hR, rf_24_0 hR, rf_25_0 hR, rf_26_0 hR, rf_26_1 hR, rf_26_2 hR, rf_26_3 hR, rf_26_4 hR, rf_26_5 hR, rf_26_6 hR, rf_26_7 hR, rf_27_0 hR, rf_27_1 hR, rf_30_0 hR, rf_30_1 hR, rf_33_0 hR, rf_33_1 hR, rf_36_0 hR, rf_36_1 hR, rf_39_0 hR, rf_39_1 hR, rf_42_0 hR, rf_42_1 hR, rf_45_0 hR, rf_45_1 hR, rf_48_0 hR, rf_48_1 hR, rf_51_0 hR, rf_51_1 hR, rf_51_6 hR, rf_51_7 hR, rf_h_3 hR, rf_d_3 hR, rf_h_4 hR, rf_d_4 hR, rf_h_5 hR, rf_d_5 hR, rf_h_6 hR, rf_d_6 hR, rf_h_7 hR, rf_d_7 hR, rf_h_8 hR, rf_d_8 hR, rf_h_9 hR, rf_d_9 hR, rf_12_0 hR, rf_3_1 hR, kn_0, kn_1, kn_2, kn_3, kn_4, kn_5, kn_6, kn_7, kn_8, kn_9, kn_10, kn_11, kn_12, kn_13, kn_14, kn_15, kn_16, kn_17, kn_18, kn_19, kn_20, kn_21, kn_22, kn_23, kn_24, kn_25, kn_26, kn_27, kn_28, kn_29, kn_30, kn_31, kn_32, kn_33, kn_34, kn_35, kn_36, kn_37, kn_38, kn_39, kn_40, kn_41, kn_42, kn_43, kn_44, kn_45, kn_46, kn_47, kn_48, kn_49, kn_50, kn_51, kn_52, kn_53, kn_54, kn_55, ln_2, ln_5, ln_6, ln_7, ln_8, ln_9, ln_10, ln_11, ln_14, ln_15, ln_16, ln_17, ln_18, ln_19, ln_20, ln_22, ln_23, ln_26, ln_28, ln_29, ln_31, ln_32, ln_34, ln_35, ln_37, ln_38, ln_40, ln_41, ln_43, ln_44, ln_46, ln_47, ln_49, ln_50, ln_52, kn_h hR, lt_h hR, kn_h1 hR, ln_h1 hR, lt_h1 hR, kn_h2 hR, ln_h2 hR, lt_h2 hR, kn_h3 hR, ln_h3 hR, lt_h3 hR, kn_h4 hR, ln_h4 hR, lt_h4 hR, kn_h5 hR, ln_h5 hR, lt_h5 hR, kn_h6 hR, ln_h6 hR, lt_h6 hR, kn_h7 hR, ln_h7 hR, lt_h7 hR, kn_d hR, lt_d hR, kn_d1 hR, ln_d1 hR, lt_d1 hR, kn_d2 hR, ln_d2 hR, lt_d2 hR, kn_d3 hR, ln_d3 hR, lt_d3 hR, kn_d4 hR, ln_d4 hR, lt_d4 hR, kn_d5 hR, ln_d5 hR, lt_d5 hR, kn_d6 hR, ln_d6 hR, lt_d6 hR, kn_d7 hR, ln_d7 hR, lt_d7 hR, va_rf_some, push_s, push_n, nb0, nb1, nbb, Nat.reduceLT, e1, e2, if_true, hx_1, hx_t1, hT.1, st2, show ((1 : Int32) = 0) = False from eq_false (by decide), if_false, nI_1]
    · rw [if_neg c] at he
      cases he
      have e2 : (nI p < nI n) = False := eq_false (fun g => c ((nI_ltI (by omega) (by omega)).mp g))
      refine ⟨hx I p, pp, frD_hx (frD_refl I d), DR_cong (fun c h1 h2 => hx_x (by omega)) hD, fun Q => ?_⟩
      rw [e_41_14]
      simp only [e_41_15, e_41_18, e_41_21, e_41_22, e_41_25, e_41_26, e_41_29, e_41_32, e_41_55, e_41_57, rf_0_0 hR, rf_0_1 hR, rf_0_2 hR, rf_0_3 hR, rf_0_4 hR, rf_0_5 hR, rf_0_6 hR, rf_1_0 hR, rf_3_0 hR, rf_3_2 hR, rf_4_3 hR, rf_4_4 hR, rf_4_5 hR, rf_4_6 hR, rf_4_7 hR, rf_4_8 hR, rf_4_9 hR, rf_12_1 hR, rf_13_3 hR, rf_13_4 hR, rf_13_5 hR, rf_13_6 hR, rf_13_7 hR, rf_13_8 hR, rf_13_9 hR, rf_21_0 hR, rf_21_1 hR, rf_24_0 hR, rf_25_0 hR, rf_26_0 hR, rf_26_1 hR, rf_26_2 hR, rf_26_3 hR, rf_26_4 hR, rf_26_5 hR, rf_26_6 hR, rf_26_7 hR, rf_27_0 hR, rf_27_1 hR, rf_30_0 hR, rf_30_1 hR, rf_33_0 hR, rf_33_1 hR, rf_36_0 hR, rf_36_1 hR, rf_39_0 hR, rf_39_1 hR, rf_42_0 hR, rf_42_1 hR, rf_45_0 hR, rf_45_1 hR, rf_48_0 hR, rf_48_1 hR, rf_51_0 hR, rf_51_1 hR, rf_51_6 hR, rf_51_7 hR, rf_h_3 hR, rf_d_3 hR, rf_h_4 hR, rf_d_4 hR, rf_h_5 hR, rf_d_5 hR, rf_h_6 hR, rf_d_6 hR, rf_h_7 hR, rf_d_7 hR, rf_h_8 hR, rf_d_8 hR, rf_h_9 hR, rf_d_9 hR, rf_12_0 hR, rf_3_1 hR, kn_0, kn_1, kn_2, kn_3, kn_4, kn_5, kn_6, kn_7, kn_8, kn_9, kn_10, kn_11, kn_12, kn_13, kn_14, kn_15, kn_16, kn_17, kn_18, kn_19, kn_20, kn_21, kn_22, kn_23, kn_24, kn_25, kn_26, kn_27, kn_28, kn_29, kn_30, kn_31, kn_32, kn_33, kn_34, kn_35, kn_36, kn_37, kn_38, kn_39, kn_40, kn_41, kn_42, kn_43, kn_44, kn_45, kn_46, kn_47, kn_48, kn_49, kn_50, kn_51, kn_52, kn_53, kn_54, kn_55, ln_2, ln_5, ln_6, ln_7, ln_8, ln_9, ln_10, ln_11, ln_14, ln_15, ln_16, ln_17, ln_18, ln_19, ln_20, ln_22, ln_23, ln_26, ln_28, ln_29, ln_31, ln_32, ln_34, ln_35, ln_37, ln_38, ln_40, ln_41, ln_43, ln_44, ln_46, ln_47, ln_49, ln_50, ln_52, kn_h hR, lt_h hR, kn_h1 hR, ln_h1 hR, lt_h1 hR, kn_h2 hR, ln_h2 hR, lt_h2 hR, kn_h3 hR, ln_h3 hR, lt_h3 hR, kn_h4 hR, ln_h4 hR, lt_h4 hR, kn_h5 hR, ln_h5 hR, lt_h5 hR, kn_h6 hR, ln_h6 hR, lt_h6 hR, kn_h7 hR, ln_h7 hR, lt_h7 hR, kn_d hR, lt_d hR, kn_d1 hR, ln_d1 hR, lt_d1 hR, kn_d2 hR, ln_d2 hR, lt_d2 hR, kn_d3 hR, ln_d3 hR, lt_d3 hR, kn_d4 hR, ln_d4 hR, lt_d4 hR, kn_d5 hR, ln_d5 hR, lt_d5 hR, kn_d6 hR, ln_d6 hR, lt_d6 hR, kn_d7 hR, ln_d7 hR, lt_d7 hR, va_rf_some, push_s, push_n, nb0, nb1, nbb, Nat.reduceLT, hx_1, hx_t1, hT.1, e2, if_false]
      by_cases g : nI i < 240
      · rw [if_pos g]
      · rw [if_neg g]
theorem c_hloop_0 (hR : tRef h d R) : ∀ f i (M I : Nat → Nat → Int32) nr nt p pp, n < p + f → i ≤ p → p ≤ n → TXc I n tc → rdI M nr nt → DR M I d nr nt pp → ∀ b M' nr' nt', rds n tc f M nr nt p = (some b, M', nr', nt') → ∀ l2, ∃ I', frD I I' d ∧ ∀ Q, tEv E 41 14 [.ref 3, .int (nI i), l2] [] (mS (hx I p) J R) Q = Q (some (nI b)) (mS I' J R)
  | 0, i, M, I, nr, nt, p, pp, hf, hi, hp, hT, hI, hD, b, M', nr', nt', he => by omega
  | f + 1, i, M, I, nr, nt, p, pp, hf, hi, hp, hT, hI, hD, b, M', nr', nt', he => by
    intro l2
    have dd := dd_of hR
    have hn := hT.2.1
    rw [rds] at he
    by_cases c : p < n
    · have e1 : (nI i < 240) = True := eq_true (nI_lt (b := 240) (by omega) (by omega))
      have e2 : (nI p < nI n) = True := eq_true ((nI_ltI (by omega) (by omega)).mpr c)
      rw [if_pos c] at he
      cases hm : itm M n tc nr nt p with
      | none =>
        rw [hm] at he
        cases he
        obtain ⟨I', f1, st⟩ := c_item_0 (E := E) (J := J) hR hT hD c hI hm
        refine ⟨I', f1, fun Q => ?_⟩
        rw [e_41_14]
        simp only [e_41_15, e_41_18, e_41_21, e_41_22, e_41_25, e_41_26, e_41_29, e_41_32, e_41_35, e_41_36, e_41_39, e_41_40, e_41_41, e_41_44, e_41_47, e_41_48, rf_0_0 hR, rf_0_1 hR, rf_0_2 hR, rf_0_3 hR, rf_0_4 hR, rf_0_5 hR, rf_0_6 hR, rf_1_0 hR, rf_3_0 hR, rf_3_2 hR, rf_4_3 hR, rf_4_4 hR, rf_4_5 hR, rf_4_6 hR, rf_4_7 hR, rf_4_8 hR, rf_4_9 hR, rf_12_1 hR, rf_13_3 hR, rf_13_4 hR, rf_13_5 hR, rf_13_6 hR, rf_13_7 hR, rf_13_8 hR, rf_13_9 hR, rf_21_0 hR, rf_21_1 hR, rf_24_0 hR, rf_25_0 hR, rf_26_0 hR, rf_26_1 hR, rf_26_2 hR, rf_26_3 hR, rf_26_4 hR, rf_26_5 hR, rf_26_6 hR, rf_26_7 hR, rf_27_0 hR, rf_27_1 hR, rf_30_0 hR, rf_30_1 hR, rf_33_0 hR, rf_33_1 hR, rf_36_0 hR, rf_36_1 hR, rf_39_0 hR, rf_39_1 hR, rf_42_0 hR, rf_42_1 hR, rf_45_0 hR, rf_45_1 hR, rf_48_0 hR, rf_48_1 hR, rf_51_0 hR, rf_51_1 hR, rf_51_6 hR, rf_51_7 hR, rf_h_3 hR, rf_d_3 hR, rf_h_4 hR, rf_d_4 hR, rf_h_5 hR, rf_d_5 hR, rf_h_6 hR, rf_d_6 hR, rf_h_7 hR, rf_d_7 hR, rf_h_8 hR, rf_d_8 hR, rf_h_9 hR, rf_d_9 hR, rf_12_0 hR, rf_3_1 hR, kn_0, kn_1, kn_2, kn_3, kn_4, kn_5, kn_6, kn_7, kn_8, kn_9, kn_10, kn_11, kn_12, kn_13, kn_14, kn_15, kn_16, kn_17, kn_18, kn_19, kn_20, kn_21, kn_22, kn_23, kn_24, kn_25, kn_26, kn_27, kn_28, kn_29, kn_30, kn_31, kn_32, kn_33, kn_34, kn_35, kn_36, kn_37, kn_38, kn_39, kn_40, kn_41, kn_42, kn_43, kn_44, kn_45, kn_46, kn_47, kn_48, kn_49, kn_50, kn_51, kn_52, kn_53, kn_54, kn_55, ln_2, ln_5, ln_6, ln_7, ln_8, ln_9, ln_10, ln_11, ln_14, ln_15, ln_16, ln_17, ln_18, ln_19, ln_20, ln_22, ln_23, ln_26, ln_28, ln_29, ln_31, ln_32, ln_34, ln_35, ln_37, ln_38, ln_40, ln_41, ln_43, ln_44, ln_46, ln_47, ln_49, ln_50, ln_52, kn_h hR, lt_h hR, kn_h1 hR, ln_h1 hR, lt_h1 hR, kn_h2 hR, ln_h2 hR, lt_h2 hR, kn_h3 hR, ln_h3 hR, lt_h3 hR, kn_h4 hR, ln_h4 hR, lt_h4 hR, kn_h5 hR, ln_h5 hR, lt_h5 hR, kn_h6 hR, ln_h6 hR, lt_h6 hR, kn_h7 hR, ln_h7 hR, lt_h7 hR, kn_d hR, lt_d hR, kn_d1 hR, ln_d1 hR, lt_d1 hR, kn_d2 hR, ln_d2 hR, lt_d2 hR, kn_d3 hR, ln_d3 hR, lt_d3 hR, kn_d4 hR, ln_d4 hR, lt_d4 hR, kn_d5 hR, ln_d5 hR, lt_d5 hR, kn_d6 hR, ln_d6 hR, lt_d6 hR, kn_d7 hR, ln_d7 hR, lt_d7 hR, va_rf_some, push_s, push_n, nb0, nb1, nbb, Nat.reduceLT, e1, e2, if_true, hx_1, hx_t1, hT.1, st]
      | some w =>
        obtain ⟨M2, a, b2, q⟩ := w
        rw [hm] at he
        simp only at he
        have hk := itm_ok hI hm
        obtain ⟨I2, pp2, f2, hD2, st2⟩ := c_item_1 (E := E) (J := J) hR hT hD c hI hm
        obtain ⟨I', f3, st3⟩ := c_hloop_0 hR f (i + 1) M2 I2 a b2 q pp2 (by omega) (by omega) hk.2.2.2 (TXc_fr dd f2 hT) hk.1 hD2 b M' nr' nt' he (.int (nI p))
        refine ⟨I', frD_trans f2 f3, fun Q => ?_⟩
        rw [← st3 Q]
        rw [e_41_14]
        simp only [e_41_15, e_41_18, e_41_21, e_41_22, e_41_25, e_41_26, e_41_29, e_41_32, e_41_35, e_41_36, e_41_39, e_41_40, e_41_41, e_41_44, e_41_47, e_41_48, e_41_49, e_41_52, rf_0_0 hR, rf_0_1 hR, rf_0_2 hR, rf_0_3 hR, rf_0_4 hR, rf_0_5 hR, rf_0_6 hR, rf_1_0 hR, rf_3_0 hR, rf_3_2 hR, rf_4_3 hR, rf_4_4 hR, rf_4_5 hR, rf_4_6 hR, rf_4_7 hR, rf_4_8 hR, rf_4_9 hR, rf_12_1 hR, rf_13_3 hR, rf_13_4 hR, rf_13_5 hR, rf_13_6 hR, rf_13_7 hR, rf_13_8 hR, rf_13_9 hR, rf_21_0 hR, rf_21_1 hR, rf_24_0 hR, rf_25_0 hR, rf_26_0 hR, rf_26_1 hR, rf_26_2 hR, rf_26_3 hR, rf_26_4 hR, rf_26_5 hR, rf_26_6 hR, rf_26_7 hR, rf_27_0 hR, rf_27_1 hR, rf_30_0 hR, rf_30_1 hR, rf_33_0 hR, rf_33_1 hR, rf_36_0 hR, rf_36_1 hR, rf_39_0 hR, rf_39_1 hR, rf_42_0 hR, rf_42_1 hR, rf_45_0 hR, rf_45_1 hR, rf_48_0 hR, rf_48_1 hR, rf_51_0 hR, rf_51_1 hR, rf_51_6 hR, rf_51_7 hR, rf_h_3 hR, rf_d_3 hR, rf_h_4 hR, rf_d_4 hR, rf_h_5 hR, rf_d_5 hR, rf_h_6 hR, rf_d_6 hR, rf_h_7 hR, rf_d_7 hR, rf_h_8 hR, rf_d_8 hR, rf_h_9 hR, rf_d_9 hR, rf_12_0 hR, rf_3_1 hR, kn_0, kn_1, kn_2, kn_3, kn_4, kn_5, kn_6, kn_7, kn_8, kn_9, kn_10, kn_11, kn_12, kn_13, kn_14, kn_15, kn_16, kn_17, kn_18, kn_19, kn_20, kn_21, kn_22, kn_23, kn_24, kn_25, kn_26, kn_27, kn_28, kn_29, kn_30, kn_31, kn_32, kn_33, kn_34, kn_35, kn_36, kn_37, kn_38, kn_39, kn_40, kn_41, kn_42, kn_43, kn_44, kn_45, kn_46, kn_47, kn_48, kn_49, kn_50, kn_51, kn_52, kn_53, kn_54, kn_55, ln_2, ln_5, ln_6, ln_7, ln_8, ln_9, ln_10, ln_11, ln_14, ln_15, ln_16, ln_17, ln_18, ln_19, ln_20, ln_22, ln_23, ln_26, ln_28, ln_29, ln_31, ln_32, ln_34, ln_35, ln_37, ln_38, ln_40, ln_41, ln_43, ln_44, ln_46, ln_47, ln_49, ln_50, ln_52, kn_h hR, lt_h hR, kn_h1 hR, ln_h1 hR, lt_h1 hR, kn_h2 hR, ln_h2 hR, lt_h2 hR, kn_h3 hR, ln_h3 hR, lt_h3 hR, kn_h4 hR, ln_h4 hR, lt_h4 hR, kn_h5 hR, ln_h5 hR, lt_h5 hR, kn_h6 hR, ln_h6 hR, lt_h6 hR, kn_h7 hR, ln_h7 hR, lt_h7 hR, kn_d hR, lt_d hR, kn_d1 hR, ln_d1 hR, lt_d1 hR, kn_d2 hR, ln_d2 hR, lt_d2 hR, kn_d3 hR, ln_d3 hR, lt_d3 hR, kn_d4 hR, ln_d4 hR, lt_d4 hR, kn_d5 hR, ln_d5 hR, lt_d5 hR, kn_d6 hR, ln_d6 hR, lt_d6 hR, kn_d7 hR, ln_d7 hR, lt_d7 hR, va_rf_some, push_s, push_n, nb0, nb1, nbb, Nat.reduceLT, e1, e2, if_true, hx_1, hx_t1, hT.1, st2, show ((1 : Int32) = 0) = False from eq_false (by decide), if_false, nI_1]
    · rw [if_neg c] at he
      cases he
theorem c_readHouse_1 (hR : tRef h d R) (hT : TXc I n tc) (h1 : ∀ k, k < 24 → M 76 k = -4 ∧ M 77 k = -4) (h2 : M 56 28 = 0) (hI : rdI M 0 0) {nr' nt' : Nat} (he : rds n tc (n + 1) M 0 0 0 = (none, M', nr', nt')) : ∃ I' pp', frD I I' d ∧ DR M' I' d nr' nt' pp' ∧ ∀ Q, tEv E 41 0 [.ref 3, tm_dum, tm_dum] [] (mS I J R) Q = Q (some (-4)) (mS I' J R) := by
  have dd := dd_of hR
  obtain ⟨I1, f1, hD1, st1⟩ := c_clear (E := E) (J := J) (I := I) (pp := fun _ => 0) hR h1 h2
  obtain ⟨I2, pp2, f2, hD2, st2⟩ := c_hloop_1 (E := E) (J := J) hR (n + 1) 0 M I1 0 0 0 _ (by omega) (Nat.le_refl _) (by omega) (TXc_fr dd f1 hT) hI hD1 M' nr' nt' he tm_dum
  refine ⟨I2, pp2, frD_trans f1 f2, hD2, fun Q => ?_⟩
  rw [← st2 Q]
  simp only [e_41_0, e_41_1, e_41_4, e_41_7, e_41_8, e_41_9, e_41_12, e_41_13, rf_0_0 hR, rf_0_1 hR, rf_0_2 hR, rf_0_3 hR, rf_0_4 hR, rf_0_5 hR, rf_0_6 hR, rf_1_0 hR, rf_3_0 hR, rf_3_2 hR, rf_4_3 hR, rf_4_4 hR, rf_4_5 hR, rf_4_6 hR, rf_4_7 hR, rf_4_8 hR, rf_4_9 hR, rf_12_1 hR, rf_13_3 hR, rf_13_4 hR, rf_13_5 hR, rf_13_6 hR, rf_13_7 hR, rf_13_8 hR, rf_13_9 hR, rf_21_0 hR, rf_21_1 hR, rf_24_0 hR, rf_25_0 hR, rf_26_0 hR, rf_26_1 hR, rf_26_2 hR, rf_26_3 hR, rf_26_4 hR, rf_26_5 hR, rf_26_6 hR, rf_26_7 hR, rf_27_0 hR, rf_27_1 hR, rf_30_0 hR, rf_30_1 hR, rf_33_0 hR, rf_33_1 hR, rf_36_0 hR, rf_36_1 hR, rf_39_0 hR, rf_39_1 hR, rf_42_0 hR, rf_42_1 hR, rf_45_0 hR, rf_45_1 hR, rf_48_0 hR, rf_48_1 hR, rf_51_0 hR, rf_51_1 hR, rf_51_6 hR, rf_51_7 hR, rf_h_3 hR, rf_d_3 hR, rf_h_4 hR, rf_d_4 hR, rf_h_5 hR, rf_d_5 hR, rf_h_6 hR, rf_d_6 hR, rf_h_7 hR, rf_d_7 hR, rf_h_8 hR, rf_d_8 hR, rf_h_9 hR, rf_d_9 hR, rf_12_0 hR, rf_3_1 hR, kn_0, kn_1, kn_2, kn_3, kn_4, kn_5, kn_6, kn_7, kn_8, kn_9, kn_10, kn_11, kn_12, kn_13, kn_14, kn_15, kn_16, kn_17, kn_18, kn_19, kn_20, kn_21, kn_22, kn_23, kn_24, kn_25, kn_26, kn_27, kn_28, kn_29, kn_30, kn_31, kn_32, kn_33, kn_34, kn_35, kn_36, kn_37, kn_38, kn_39, kn_40, kn_41, kn_42, kn_43, kn_44, kn_45, kn_46, kn_47, kn_48, kn_49, kn_50, kn_51, kn_52, kn_53, kn_54, kn_55, ln_2, ln_5, ln_6, ln_7, ln_8, ln_9, ln_10, ln_11, ln_14, ln_15, ln_16, ln_17, ln_18, ln_19, ln_20, ln_22, ln_23, ln_26, ln_28, ln_29, ln_31, ln_32, ln_34, ln_35, ln_37, ln_38, ln_40, ln_41, ln_43, ln_44, ln_46, ln_47, ln_49, ln_50, ln_52, kn_h hR, lt_h hR, kn_h1 hR, ln_h1 hR, lt_h1 hR, kn_h2 hR, ln_h2 hR, lt_h2 hR, kn_h3 hR, ln_h3 hR, lt_h3 hR, kn_h4 hR, ln_h4 hR, lt_h4 hR, kn_h5 hR, ln_h5 hR, lt_h5 hR, kn_h6 hR, ln_h6 hR, lt_h6 hR, kn_h7 hR, ln_h7 hR, lt_h7 hR, kn_d hR, lt_d hR, kn_d1 hR, ln_d1 hR, lt_d1 hR, kn_d2 hR, ln_d2 hR, lt_d2 hR, kn_d3 hR, ln_d3 hR, lt_d3 hR, kn_d4 hR, ln_d4 hR, lt_d4 hR, kn_d5 hR, ln_d5 hR, lt_d5 hR, kn_d6 hR, ln_d6 hR, lt_d6 hR, kn_d7 hR, ln_d7 hR, lt_d7 hR, va_rf_some, push_s, push_n, nb0, nb1, nbb, Nat.reduceLT, st1]
  rfl
theorem c_readHouse_0 (hR : tRef h d R) (hT : TXc I n tc) (h1 : ∀ k, k < 24 → M 76 k = -4 ∧ M 77 k = -4) (h2 : M 56 28 = 0) (hI : rdI M 0 0) {b nr' nt' : Nat} (he : rds n tc (n + 1) M 0 0 0 = (some b, M', nr', nt')) : ∃ I', frD I I' d ∧ ∀ Q, tEv E 41 0 [.ref 3, tm_dum, tm_dum] [] (mS I J R) Q = Q (some (nI b)) (mS I' J R) := by
  have dd := dd_of hR
  obtain ⟨I1, f1, hD1, st1⟩ := c_clear (E := E) (J := J) (I := I) (pp := fun _ => 0) hR h1 h2
  obtain ⟨I2, f2, st2⟩ := c_hloop_0 (E := E) (J := J) hR (n + 1) 0 M I1 0 0 0 _ (by omega) (Nat.le_refl _) (by omega) (TXc_fr dd f1 hT) hI hD1 b M' nr' nt' he tm_dum
  refine ⟨I2, frD_trans f1 f2, fun Q => ?_⟩
  rw [← st2 Q]
  simp only [e_41_0, e_41_1, e_41_4, e_41_7, e_41_8, e_41_9, e_41_12, e_41_13, rf_0_0 hR, rf_0_1 hR, rf_0_2 hR, rf_0_3 hR, rf_0_4 hR, rf_0_5 hR, rf_0_6 hR, rf_1_0 hR, rf_3_0 hR, rf_3_2 hR, rf_4_3 hR, rf_4_4 hR, rf_4_5 hR, rf_4_6 hR, rf_4_7 hR, rf_4_8 hR, rf_4_9 hR, rf_12_1 hR, rf_13_3 hR, rf_13_4 hR, rf_13_5 hR, rf_13_6 hR, rf_13_7 hR, rf_13_8 hR, rf_13_9 hR, rf_21_0 hR, rf_21_1 hR, rf_24_0 hR, rf_25_0 hR, rf_26_0 hR, rf_26_1 hR, rf_26_2 hR, rf_26_3 hR, rf_26_4 hR, rf_26_5 hR, rf_26_6 hR, rf_26_7 hR, rf_27_0 hR, rf_27_1 hR, rf_30_0 hR, rf_30_1 hR, rf_33_0 hR, rf_33_1 hR, rf_36_0 hR, rf_36_1 hR, rf_39_0 hR, rf_39_1 hR, rf_42_0 hR, rf_42_1 hR, rf_45_0 hR, rf_45_1 hR, rf_48_0 hR, rf_48_1 hR, rf_51_0 hR, rf_51_1 hR, rf_51_6 hR, rf_51_7 hR, rf_h_3 hR, rf_d_3 hR, rf_h_4 hR, rf_d_4 hR, rf_h_5 hR, rf_d_5 hR, rf_h_6 hR, rf_d_6 hR, rf_h_7 hR, rf_d_7 hR, rf_h_8 hR, rf_d_8 hR, rf_h_9 hR, rf_d_9 hR, rf_12_0 hR, rf_3_1 hR, kn_0, kn_1, kn_2, kn_3, kn_4, kn_5, kn_6, kn_7, kn_8, kn_9, kn_10, kn_11, kn_12, kn_13, kn_14, kn_15, kn_16, kn_17, kn_18, kn_19, kn_20, kn_21, kn_22, kn_23, kn_24, kn_25, kn_26, kn_27, kn_28, kn_29, kn_30, kn_31, kn_32, kn_33, kn_34, kn_35, kn_36, kn_37, kn_38, kn_39, kn_40, kn_41, kn_42, kn_43, kn_44, kn_45, kn_46, kn_47, kn_48, kn_49, kn_50, kn_51, kn_52, kn_53, kn_54, kn_55, ln_2, ln_5, ln_6, ln_7, ln_8, ln_9, ln_10, ln_11, ln_14, ln_15, ln_16, ln_17, ln_18, ln_19, ln_20, ln_22, ln_23, ln_26, ln_28, ln_29, ln_31, ln_32, ln_34, ln_35, ln_37, ln_38, ln_40, ln_41, ln_43, ln_44, ln_46, ln_47, ln_49, ln_50, ln_52, kn_h hR, lt_h hR, kn_h1 hR, ln_h1 hR, lt_h1 hR, kn_h2 hR, ln_h2 hR, lt_h2 hR, kn_h3 hR, ln_h3 hR, lt_h3 hR, kn_h4 hR, ln_h4 hR, lt_h4 hR, kn_h5 hR, ln_h5 hR, lt_h5 hR, kn_h6 hR, ln_h6 hR, lt_h6 hR, kn_h7 hR, ln_h7 hR, lt_h7 hR, kn_d hR, lt_d hR, kn_d1 hR, ln_d1 hR, lt_d1 hR, kn_d2 hR, ln_d2 hR, lt_d2 hR, kn_d3 hR, ln_d3 hR, lt_d3 hR, kn_d4 hR, ln_d4 hR, lt_d4 hR, kn_d5 hR, ln_d5 hR, lt_d5 hR, kn_d6 hR, ln_d6 hR, lt_d6 hR, kn_d7 hR, ln_d7 hR, lt_d7 hR, va_rf_some, push_s, push_n, nb0, nb1, nbb, Nat.reduceLT, st1]
  rfl
end K4
