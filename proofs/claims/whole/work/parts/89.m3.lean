/-! ===== the class's constructor: the first house's letters ===== -/
def fhI (I : Nat → Nat → Int32) (i : Nat) : Prop := (∀ c, c ≠ 1 → c ≠ 2 → I c = fun _ => 0) ∧ I 1 1 = nI i ∧ ∀ p, p < i → I 2 p = nI (chN 1 p)
section M3
variable {E : tm_Env} {I : Nat → Nat → Int32} {J : Nat → Nat → Int64} {R : Nat → Nat → Option Nat}
theorem c_app (hR : ∀ k j, R k j = clR k j) : ∀ j i (I : Nat → Nat → Int32), i + j = 109 → fhI I i → ∃ I', fhI I' 109 ∧ ∀ Q, tEv E 46 95 [.ref 0, .int (nI i)] [] ((tL.take 56, I, J, R), (55, 1057)) Q = tEv E 46 124 [.ref 0, .int (nI 109)] [] ((tL.take 56, I', J, R), (55, 1057)) Q
  | 0, i, I, hj, hi => by
    obtain rfl : i = 109 := by omega
    refine ⟨I, hi, fun Q => ?_⟩
    have hn : (nI 109 < (109 : Int32)) = False := eq_false (by decide)
    rw [e_46_95]
    simp only [e_46_96, e_46_101, e_46_98, tk_kn, tk_ln, tk_len, vb_nil, vb_ref, vb_big, vb_int, vb_dum, vu, vu_vu, va_rf_some, push_s, push_n, Nat.reduceAdd, Nat.reduceLT, Nat.reduceLeDiff, Nat.reduceEqDiff, if_true, if_false, kn_0, kn_1, kn_2, kn_3, kn_4, kn_5, kn_6, kn_7, kn_8, kn_9, kn_10, kn_11, kn_12, kn_13, kn_14, kn_15, kn_16, kn_17, kn_18, kn_19, kn_20, kn_21, kn_22, kn_23, kn_24, kn_25, kn_26, kn_27, kn_28, kn_29, kn_30, kn_31, kn_32, kn_33, kn_34, kn_35, kn_36, kn_37, kn_38, kn_39, kn_40, kn_41, kn_42, kn_43, kn_44, kn_45, kn_46, kn_47, kn_48, kn_49, kn_50, kn_51, kn_52, kn_53, kn_54, kn_55, kn_56, kn_57, kn_58, kn_59, kn_60, kn_61, kn_62, kn_63, kn_64, kn_65, kn_66, kn_67, kn_68, kn_69, kn_70, kn_71, kn_72, kn_73, kn_74, kn_75, kn_76, kn_77, kn_78, kn_79, kn_80, kn_81, kn_82, kn_83, ln_2, ln_5, ln_6, ln_7, ln_8, ln_9, ln_10, ln_11, ln_14, ln_15, ln_16, ln_17, ln_18, ln_19, ln_20, ln_22, ln_23, ln_26, ln_28, ln_29, ln_31, ln_32, ln_34, ln_35, ln_37, ln_38, ln_40, ln_41, ln_43, ln_44, ln_46, ln_47, ln_49, ln_50, ln_52, ln_57, ln_58, ln_59, ln_60, ln_61, ln_62, ln_63, ln_64, ln_65, ln_66, ln_67, ln_68, ln_69, ln_70, ln_71, ln_72, ln_73, ln_74, ln_75, ln_76, ln_77, ln_78, ln_79, ln_80, ln_81, ln_82, ln_83, tg_0, tg_1, tg_2, tg_3, tg_4, tg_5, tg_6, tg_7, tg_8, tg_9, tg_10, tg_11, tg_12, tg_13, tg_14, tg_15, tg_16, tg_17, tg_18, tg_19, tg_20, tg_21, tg_22, tg_23, tg_24, tg_25, tg_26, tg_27, tg_28, tg_29, tg_30, tg_31, tg_32, tg_33, tg_34, tg_35, tg_36, tg_37, tg_38, tg_39, tg_40, tg_41, tg_42, tg_43, tg_44, tg_45, tg_46, tg_47, tg_48, tg_49, tg_50, tg_51, tg_52, tg_53, tg_54, tg_55, tg_56, tg_57, tg_58, tg_59, tg_60, tg_61, tg_62, tg_63, tg_64, tg_65, tg_66, tg_67, tg_68, tg_69, tg_70, tg_71, tg_72, tg_73, tg_74, tg_75, tg_76, tg_77, tg_78, tg_79, tg_80, tg_81, tg_82, tg_83, c_strlen1, hn, Nat.add_zero, and_self]
  | j + 1, i, I, hj, hi => by
    have hn : (nI i < (109 : Int32)) = True := eq_true (nI_lt (b := 109) (by omega) (by omega))
    have h240 : (nI i < (240 : Int32)) = True := eq_true (nI_lt (b := 240) (by omega) (by omega))
    have r00 : R 0 0 = some 1 := hR 0 0
    have r10 : R 1 0 = some 2 := hR 1 0
    have hlen : tm_len.getD 1 0 = 109 := rfl
    have hc : chN 1 i < 127 := (ch_ok 1 (by decide) i (by omega)).2
    have hca := fun {Q} {M} => c_charAt (E := E) (Q := Q) (M := M) (s := 1) (i := i) (by decide) (by omega)
    rw [show 1000 + 1 = 1001 from rfl] at hca
    have hz : narrow .boolean (.int 1) = .int 1 := by decide
    have hix := inb_nI (j := i) (n := 240) (by omega) (by decide)
    have hcl := nI_cl (n := i) (by omega)
    obtain ⟨z, l, t⟩ := hi
    obtain ⟨I', hf, st⟩ := c_app hR j (i + 1) (va_up (va_up I 2 (upd (I 2) i (nI (chN 1 i)))) 1 (upd (I 1) 1 (nI (i + 1)))) (by omega) ⟨fun c c1 c2 => by rw [vu, if_neg c1, vu, if_neg c2, z c c1 c2], rfl, fun p hp => by
      rw [vu, if_neg (by decide), vu_eq, ud]
      by_cases e : p = i
      · rw [if_pos e, e]
      · rw [if_neg e]
        exact t p (by omega)⟩
    refine ⟨I', hf, fun Q => ?_⟩
    rw [← st Q, e_46_95]
    simp only [e_46_96, e_46_101, e_46_104, e_46_105, e_46_108, e_46_110, e_46_117, e_46_118, e_46_121, e_46_98, e_46_111, e_46_114, e_18_0, e_18_1, e_18_4, e_18_7, e_18_10, e_18_11, e_18_12, e_18_13, e_18_16, e_18_17, e_18_20, e_18_21, e_18_22, e_18_23, e_18_24, e_18_27, e_18_28, e_18_29, e_18_32, e_18_33, tk_kn, tk_ln, tk_len, vb_nil, vb_ref, vb_big, vb_int, vb_dum, vu, vu_vu, va_rf_some, push_s, push_n, Nat.reduceAdd, Nat.reduceLT, Nat.reduceLeDiff, Nat.reduceEqDiff, if_true, if_false, kn_0, kn_1, kn_2, kn_3, kn_4, kn_5, kn_6, kn_7, kn_8, kn_9, kn_10, kn_11, kn_12, kn_13, kn_14, kn_15, kn_16, kn_17, kn_18, kn_19, kn_20, kn_21, kn_22, kn_23, kn_24, kn_25, kn_26, kn_27, kn_28, kn_29, kn_30, kn_31, kn_32, kn_33, kn_34, kn_35, kn_36, kn_37, kn_38, kn_39, kn_40, kn_41, kn_42, kn_43, kn_44, kn_45, kn_46, kn_47, kn_48, kn_49, kn_50, kn_51, kn_52, kn_53, kn_54, kn_55, kn_56, kn_57, kn_58, kn_59, kn_60, kn_61, kn_62, kn_63, kn_64, kn_65, kn_66, kn_67, kn_68, kn_69, kn_70, kn_71, kn_72, kn_73, kn_74, kn_75, kn_76, kn_77, kn_78, kn_79, kn_80, kn_81, kn_82, kn_83, ln_2, ln_5, ln_6, ln_7, ln_8, ln_9, ln_10, ln_11, ln_14, ln_15, ln_16, ln_17, ln_18, ln_19, ln_20, ln_22, ln_23, ln_26, ln_28, ln_29, ln_31, ln_32, ln_34, ln_35, ln_37, ln_38, ln_40, ln_41, ln_43, ln_44, ln_46, ln_47, ln_49, ln_50, ln_52, ln_57, ln_58, ln_59, ln_60, ln_61, ln_62, ln_63, ln_64, ln_65, ln_66, ln_67, ln_68, ln_69, ln_70, ln_71, ln_72, ln_73, ln_74, ln_75, ln_76, ln_77, ln_78, ln_79, ln_80, ln_81, ln_82, ln_83, tg_0, tg_1, tg_2, tg_3, tg_4, tg_5, tg_6, tg_7, tg_8, tg_9, tg_10, tg_11, tg_12, tg_13, tg_14, tg_15, tg_16, tg_17, tg_18, tg_19, tg_20, tg_21, tg_22, tg_23, tg_24, tg_25, tg_26, tg_27, tg_28, tg_29, tg_30, tg_31, tg_32, tg_33, tg_34, tg_35, tg_36, tg_37, tg_38, tg_39, tg_40, tg_41, tg_42, tg_43, tg_44, tg_45, tg_46, tg_47, tg_48, tg_49, tg_50, tg_51, tg_52, tg_53, tg_54, tg_55, tg_56, tg_57, tg_58, tg_59, tg_60, tg_61, tg_62, tg_63, tg_64, tg_65, tg_66, tg_67, tg_68, tg_69, tg_70, tg_71, tg_72, tg_73, tg_74, tg_75, tg_76, tg_77, tg_78, tg_79, tg_80, tg_81, tg_82, tg_83, c_strlen1, hn, Nat.add_zero, and_self, r00, r10, hca, l, h240, hix, hcl, nar12 (chN 1 i) hc, hz, ud, nI_1]
end M3
