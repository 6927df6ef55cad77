/-! ===== the constructors: cells made ===== -/
def clR (k j : Nat) : Option Nat := if k < 56 then (if k = 12 ∧ j = 0 then some 13 else if k = 3 ∧ j = 2 then some 4 else tR0 k j) else none
theorem tR0_16 {k j : Nat} (hj : 16 ≤ j) (hk : k < 56) : tR0 k j = none := by
  unfold tR0
  split
  all_goals first
    | rfl
    | omega
    | (split <;> first | rfl | omega)
theorem ite_ap {α β : Type} {p : Prop} [Decidable p] (f g : α → β) (a : α) : (if p then f else g) a = if p then f a else g a := by
  by_cases h : p
  · rw [if_pos h, if_pos h]
  · rw [if_neg h, if_neg h]
section M2
variable {E : tm_Env} {I : Nat → Nat → Int32} {J : Nat → Nat → Int64} {R : Nat → Nat → Option Nat}
theorem c_made (hI : ∀ k, I k = fun _ => 0) (hJ : ∀ k, J k = fun _ => 0) : ∃ R', (∀ k j, R' k j = clR k j) ∧ ∀ Q, tEv E 46 0 [.ref 0, tm_dum] [] ((tL.take 1, I, J, fun _ _ => none), (0, 0)) Q = tEv E 46 95 [.ref 0, .int 0] [] ((tL.take 56, I, J, R'), (55, 1057)) Q := by
  apply Exists.intro
  apply And.intro
  rotate_left
  · intro Q
    have a0 : ((0 : Int32) < 8) = True := eq_true (by decide)
    have b0 : (0 : Int32) + 1 = 1 := by decide
    have c0 : tm_inb 0 8 = true := by decide
    have d0 : (0 : Int32).toNatClampNeg = 0 := by decide
    have a1 : ((1 : Int32) < 8) = True := eq_true (by decide)
    have b1 : (1 : Int32) + 1 = 2 := by decide
    have c1 : tm_inb 1 8 = true := by decide
    have d1 : (1 : Int32).toNatClampNeg = 1 := by decide
    have a2 : ((2 : Int32) < 8) = True := eq_true (by decide)
    have b2 : (2 : Int32) + 1 = 3 := by decide
    have c2 : tm_inb 2 8 = true := by decide
    have d2 : (2 : Int32).toNatClampNeg = 2 := by decide
    have a3 : ((3 : Int32) < 8) = True := eq_true (by decide)
    have b3 : (3 : Int32) + 1 = 4 := by decide
    have c3 : tm_inb 3 8 = true := by decide
    have d3 : (3 : Int32).toNatClampNeg = 3 := by decide
    have a4 : ((4 : Int32) < 8) = True := eq_true (by decide)
    have b4 : (4 : Int32) + 1 = 5 := by decide
    have c4 : tm_inb 4 8 = true := by decide
    have d4 : (4 : Int32).toNatClampNeg = 4 := by decide
    have a5 : ((5 : Int32) < 8) = True := eq_true (by decide)
    have b5 : (5 : Int32) + 1 = 6 := by decide
    have c5 : tm_inb 5 8 = true := by decide
    have d5 : (5 : Int32).toNatClampNeg = 5 := by decide
    have a6 : ((6 : Int32) < 8) = True := eq_true (by decide)
    have b6 : (6 : Int32) + 1 = 7 := by decide
    have c6 : tm_inb 6 8 = true := by decide
    have d6 : (6 : Int32).toNatClampNeg = 6 := by decide
    have a7 : ((7 : Int32) < 8) = True := eq_true (by decide)
    have b7 : (7 : Int32) + 1 = 8 := by decide
    have c7 : tm_inb 7 8 = true := by decide
    have d7 : (7 : Int32).toNatClampNeg = 7 := by decide
    have a8 : ((8 : Int32) < 8) = False := eq_false (by decide)
    simp only [e_46_0, e_46_1, e_46_4, e_46_8, e_46_12, e_46_15, e_46_19, e_46_20, e_46_21, e_46_27, e_46_30, e_46_34, e_46_38, e_46_41, e_46_45, e_46_46, e_46_47, e_46_53, e_46_56, e_46_60, e_46_64, e_46_67, e_46_71, e_46_72, e_46_73, e_46_79, e_46_82, e_46_86, e_46_90, e_46_93, e_46_94, e_46_5, e_46_9, e_46_16, e_46_24, e_46_31, e_46_35, e_46_42, e_46_50, e_46_57, e_46_61, e_46_68, e_46_76, e_46_83, e_46_87, e_1_0, e_1_1, e_1_4, e_1_5, e_1_10, e_1_13, e_1_8, e_2_0, e_2_1, e_2_4, e_2_5, e_2_9, e_2_12, e_2_13, e_2_17, e_2_20, e_2_21, e_2_25, e_2_28, e_2_29, e_2_33, e_2_36, e_2_37, e_2_41, e_2_44, e_2_45, e_2_49, e_2_52, e_2_53, e_2_57, e_2_60, e_2_7, e_2_15, e_2_23, e_2_31, e_2_39, e_2_47, e_2_55, e_3_0, e_3_1, e_3_4, e_3_8, e_3_12, e_3_15, e_3_16, e_3_17, e_3_20, e_3_5, e_3_9, e_4_0, e_4_1, e_4_4, e_4_5, e_4_9, e_4_12, e_4_13, e_4_17, e_4_20, e_4_7, e_4_15, e_5_0, e_5_1, e_5_4, e_5_8, e_5_12, e_5_15, e_5_19, e_5_23, e_5_26, e_5_5, e_5_9, e_5_16, e_5_20, e_6_0, e_6_1, e_6_4, e_6_5, e_6_6, e_6_9, e_7_0, e_7_1, e_7_4, e_7_5, e_7_10, e_7_13, e_7_14, e_7_15, e_7_16, e_7_18, e_7_21, e_7_22, e_7_25, e_7_29, e_7_33, e_7_34, e_7_37, e_7_40, e_7_7, e_7_26, e_7_30, e_8_0, e_8_1, e_8_4, e_9_0, e_9_1, e_9_4, e_9_5, e_9_9, e_9_12, e_9_16, e_9_20, e_9_23, e_9_27, e_9_31, e_9_34, e_9_35, e_9_36, e_9_39, e_9_7, e_9_13, e_9_17, e_9_24, e_9_28, e_10_0, e_10_1, e_10_4, tk_kn, tk_ln, tk_len, vb_nil, vb_ref, vb_big, vb_int, vb_dum, vu, vu_vu, va_rf_some, push_s, push_n, Nat.reduceAdd, Nat.reduceLT, Nat.reduceLeDiff, Nat.reduceEqDiff, if_true, if_false, kn_0, kn_1, kn_2, kn_3, kn_4, kn_5, kn_6, kn_7, kn_8, kn_9, kn_10, kn_11, kn_12, kn_13, kn_14, kn_15, kn_16, kn_17, kn_18, kn_19, kn_20, kn_21, kn_22, kn_23, kn_24, kn_25, kn_26, kn_27, kn_28, kn_29, kn_30, kn_31, kn_32, kn_33, kn_34, kn_35, kn_36, kn_37, kn_38, kn_39, kn_40, kn_41, kn_42, kn_43, kn_44, kn_45, kn_46, kn_47, kn_48, kn_49, kn_50, kn_51, kn_52, kn_53, kn_54, kn_55, kn_56, kn_57, kn_58, kn_59, kn_60, kn_61, kn_62, kn_63, kn_64, kn_65, kn_66, kn_67, kn_68, kn_69, kn_70, kn_71, kn_72, kn_73, kn_74, kn_75, kn_76, kn_77, kn_78, kn_79, kn_80, kn_81, kn_82, kn_83, ln_2, ln_5, ln_6, ln_7, ln_8, ln_9, ln_10, ln_11, ln_14, ln_15, ln_16, ln_17, ln_18, ln_19, ln_20, ln_22, ln_23, ln_26, ln_28, ln_29, ln_31, ln_32, ln_34, ln_35, ln_37, ln_38, ln_40, ln_41, ln_43, ln_44, ln_46, ln_47, ln_49, ln_50, ln_52, ln_57, ln_58, ln_59, ln_60, ln_61, ln_62, ln_63, ln_64, ln_65, ln_66, ln_67, ln_68, ln_69, ln_70, ln_71, ln_72, ln_73, ln_74, ln_75, ln_76, ln_77, ln_78, ln_79, ln_80, ln_81, ln_82, ln_83, tg_0, tg_1, tg_2, tg_3, tg_4, tg_5, tg_6, tg_7, tg_8, tg_9, tg_10, tg_11, tg_12, tg_13, tg_14, tg_15, tg_16, tg_17, tg_18, tg_19, tg_20, tg_21, tg_22, tg_23, tg_24, tg_25, tg_26, tg_27, tg_28, tg_29, tg_30, tg_31, tg_32, tg_33, tg_34, tg_35, tg_36, tg_37, tg_38, tg_39, tg_40, tg_41, tg_42, tg_43, tg_44, tg_45, tg_46, tg_47, tg_48, tg_49, tg_50, tg_51, tg_52, tg_53, tg_54, tg_55, tg_56, tg_57, tg_58, tg_59, tg_60, tg_61, tg_62, tg_63, tg_64, tg_65, tg_66, tg_67, tg_68, tg_69, tg_70, tg_71, tg_72, tg_73, tg_74, tg_75, tg_76, tg_77, tg_78, tg_79, tg_80, tg_81, tg_82, tg_83, hI, hJ, a0, b0, c0, d0, a1, b1, c1, d1, a2, b2, c2, d2, a3, b3, c3, d3, a4, b4, c4, d4, a5, b5, c5, d5, a6, b6, c6, d6, a7, b7, c7, d7, a8]
    rfl
  · intro k
    by_cases hk : k < 56
    · intro j
      by_cases hj : j < 16
      · revert j
        revert k
        decide +kernel
      · have hj2 : ∀ m, m < 16 → (j = m) = False := fun m hm => eq_false (by omega)
        have e1 : clR k j = none := by
          unfold clR
          rw [if_pos hk, if_neg (by omega), if_neg (by omega)]
          exact tR0_16 (by omega) hk
        rw [e1]
        simp only [vu, ite_ap, hj2 0 (by decide), hj2 1 (by decide), hj2 2 (by decide), hj2 3 (by decide), hj2 4 (by decide), hj2 5 (by decide), hj2 6 (by decide), hj2 7 (by decide), hj2 8 (by decide), hj2 9 (by decide), hj2 10 (by decide), hj2 11 (by decide), hj2 12 (by decide), hj2 13 (by decide), hj2 14 (by decide), hj2 15 (by decide), if_false, ite_self]
    · intro j
      have hk2 : ∀ m, m < 56 → (k = m) = False := fun m hm => eq_false (by omega)
      have e1 : clR k j = none := if_neg hk
      rw [e1]
      simp only [vu, hk2 0 (by decide), hk2 1 (by decide), hk2 2 (by decide), hk2 3 (by decide), hk2 4 (by decide), hk2 5 (by decide), hk2 6 (by decide), hk2 7 (by decide), hk2 8 (by decide), hk2 9 (by decide), hk2 10 (by decide), hk2 11 (by decide), hk2 12 (by decide), hk2 13 (by decide), hk2 14 (by decide), hk2 15 (by decide), hk2 16 (by decide), hk2 17 (by decide), hk2 18 (by decide), hk2 19 (by decide), hk2 20 (by decide), hk2 21 (by decide), hk2 22 (by decide), hk2 23 (by decide), hk2 24 (by decide), hk2 25 (by decide), hk2 26 (by decide), hk2 27 (by decide), hk2 28 (by decide), hk2 29 (by decide), hk2 30 (by decide), hk2 31 (by decide), hk2 32 (by decide), hk2 33 (by decide), hk2 34 (by decide), hk2 35 (by decide), hk2 36 (by decide), hk2 37 (by decide), hk2 38 (by decide), hk2 39 (by decide), hk2 40 (by decide), hk2 41 (by decide), hk2 42 (by decide), hk2 43 (by decide), hk2 44 (by decide), hk2 45 (by decide), hk2 46 (by decide), hk2 47 (by decide), hk2 48 (by decide), hk2 49 (by decide), hk2 50 (by decide), hk2 51 (by decide), hk2 52 (by decide), hk2 53 (by decide), hk2 54 (by decide), hk2 55 (by decide), if_false]
end M2
