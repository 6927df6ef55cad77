/-! ===== the model: a thing is read ===== -/
def plOk (I : Nat → Nat → Int32) (n : Nat) (tc : Nat → Nat) (nr nt p : Nat) : Bool := if cc n tc p = 114 then rmOk n tc nr (p + 1) else thOk n tc nt p && !decide (I 74 (thV n tc p) &&& 3 = 0)
def plV (n : Nat) (tc : Nat → Nat) (p : Nat) : Nat := if cc n tc p = 114 then dv n tc (p + 1) else 10 + thV n tc p
section RT
variable {E : tm_Env} {Q : Option Int32 → tm_St → Prop} {I : Nat → Nat → Int32} {J : Nat → Nat → Int64} {R : Nat → Nat → Option Nat} {h d : Nat} {nr nt n p : Nat} {tc : Nat → Nat}
theorem m_readsPlace_1 (hR : tRef h d R) (hT : TX I n tc) (hp : p < 800) (h1 : I 56 17 = nI nr) (hn : nr ≤ 6) (h2 : I 56 18 = nI nt) (hn2 : nt < 16) (hok : plOk I n tc nr nt p = true) : tEv E 55 0 [.ref 56, tm_dum] [] (mS (hr I p) J R) Q = Q (some 1) (mS (hr (va_up I 72 (upd (I 72) nt (nI (plV n tc p)))) (p + 2)) J R) := by
  have hix := inb_nI (j := nt) (n := 16) (by omega) (by decide)
  have hcl := nI_cl (n := nt) (by omega)
  have hnx := fun {Q} => m_isNext (E := E) (Q := Q) (J := J) hR hT (show p < 1000 by omega) (x := 114) (by decide) (by decide)
  rw [show nI 114 = 114 from rfl] at hnx
  unfold plOk at hok
  unfold plV
  by_cases c : cc n tc p = 114
  · rw [if_pos c] at hok
    have ho : op n tc 114 p = p + 1 := if_pos c
    have hd : dg n tc (p + 1) = true := by unfold rmOk at hok; simp only [Bool.and_eq_true] at hok; exact hok.1
    have hdv := dv_lt hd
    have hq : rmP n tc (p + 1) = p + 2 := if_pos hd
    have e4 : (nI (dv n tc (p + 1)) = -4) = False := eq_false (nI_n4 (by omega))
    simp only [e_55_0, e_55_1, e_55_3, e_55_6, e_55_9, e_55_10, e_55_13, e_55_14, e_55_17, e_55_18, e_55_21, e_55_22, e_55_23, e_55_26, e_55_27, e_55_30, e_55_31, e_55_33, e_55_36, e_55_37, e_55_40, e_55_41, e_55_42, e_55_43, e_55_46, e_55_47, e_55_48, e_55_51, e_55_52, e_55_55, e_55_57, e_55_58, e_55_59, e_55_60, e_55_61, e_55_63, e_55_66, e_55_67, e_55_70, e_55_71, e_55_72, e_55_73, e_55_74, e_55_77, e_55_78, e_55_81, e_55_82, rf_56_0 hR, rf_56_4 hR, rf_56_5 hR, rf_56_6 hR, rf_56_7 hR, rf_56_8 hR, rf_56_9 hR, rf_56_10 hR, rf_56_11 hR, rf_56_12 hR, rf_56_14 hR, rf_56_15 hR, rf_56_19 hR, rf_56_20 hR, rf_56_21 hR, rf_56_22 hR, rf_56_23 hR, rf_56_24 hR, rf_56_25 hR, rf_56_26 hR, rf_56_27 hR, rf_56_29 hR, rf_56_32 hR, rf_56_33 hR, rf_56_34 hR, rf_56_37 hR, rf_56_38 hR, kn_56, kn_57, kn_58, kn_59, kn_60, kn_61, kn_62, kn_63, kn_64, kn_65, kn_66, kn_67, kn_68, kn_69, kn_70, kn_71, kn_72, kn_73, kn_74, kn_75, kn_76, kn_77, kn_78, kn_79, kn_80, kn_81, kn_82, kn_83, ln_57, ln_58, ln_59, ln_60, ln_61, ln_62, ln_63, ln_64, ln_65, ln_66, ln_67, ln_68, ln_69, ln_70, ln_71, ln_72, ln_73, ln_74, ln_75, ln_76, ln_77, ln_78, ln_79, ln_80, ln_81, ln_82, ln_83, va_rf_some, push_s, push_n, nb0, nb1, nbb, Nat.reduceLT, hnx, c, decide_true, b2i_0, Bool.true_eq_false, if_false, ho, hr_c66, hr_c69, hr_c70, hr_c71, hr_c72, hr_c73, hr_c74, hr_c75, hr_c76, hr_c77, hr_u69, hr_u70, hr_u71, hr_u72, hr_u73, hr_u74, hr_u75, hr_u76, hr_u77, hr_k13, hr_k17, hr_k18, hr_k28, hr_s17, hr_s18, hr_s28, hr_16, hr_set, h2, m_roomNext hR hT (show p + 1 < 1000 by omega) h1 (show nr < 1000 by omega), hok, if_true, hq, hix, hcl, vu, ud, Nat.reduceEqDiff, reduceIte, e4]
  · rw [if_neg c] at hok
    have ho : op n tc 114 p = p := if_neg c
    simp only [Bool.and_eq_true, Bool.not_eq_true', decide_eq_false_iff_not] at hok
    obtain ⟨hok1, hok2⟩ := hok
    have hk := hok1
    unfold thOk at hk
    simp only [Bool.and_eq_true, decide_eq_true_eq] at hk
    have hq : thP n tc p = p + 2 := by unfold thP; rw [if_pos hk.1.1, if_pos hk.1.2]
    have e4 : (nI (thV n tc p) = -4) = False := eq_false (nI_n4 (by omega))
    have ev : (10 : Int32) + nI (thV n tc p) = nI (10 + thV n tc p) := nI_add 10 _
    have hix2 := inb_nI (j := thV n tc p) (n := 16) (by omega) (by decide)
    have hcl2 := nI_cl (n := thV n tc p) (by omega)
    have e74 : ∀ f, hr (va_up I 72 f) (p + 2) 74 = I 74 := fun f => rfl
    simp only [e_55_0, e_55_1, e_55_3, e_55_6, e_55_9, e_55_10, e_55_13, e_55_14, e_55_17, e_55_18, e_55_21, e_55_22, e_55_23, e_55_26, e_55_27, e_55_30, e_55_31, e_55_33, e_55_36, e_55_37, e_55_40, e_55_41, e_55_42, e_55_43, e_55_46, e_55_47, e_55_48, e_55_51, e_55_52, e_55_55, e_55_57, e_55_58, e_55_59, e_55_60, e_55_61, e_55_63, e_55_66, e_55_67, e_55_70, e_55_71, e_55_72, e_55_73, e_55_74, e_55_77, e_55_78, e_55_81, e_55_82, rf_56_0 hR, rf_56_4 hR, rf_56_5 hR, rf_56_6 hR, rf_56_7 hR, rf_56_8 hR, rf_56_9 hR, rf_56_10 hR, rf_56_11 hR, rf_56_12 hR, rf_56_14 hR, rf_56_15 hR, rf_56_19 hR, rf_56_20 hR, rf_56_21 hR, rf_56_22 hR, rf_56_23 hR, rf_56_24 hR, rf_56_25 hR, rf_56_26 hR, rf_56_27 hR, rf_56_29 hR, rf_56_32 hR, rf_56_33 hR, rf_56_34 hR, rf_56_37 hR, rf_56_38 hR, kn_56, kn_57, kn_58, kn_59, kn_60, kn_61, kn_62, kn_63, kn_64, kn_65, kn_66, kn_67, kn_68, kn_69, kn_70, kn_71, kn_72, kn_73, kn_74, kn_75, kn_76, kn_77, kn_78, kn_79, kn_80, kn_81, kn_82, kn_83, ln_57, ln_58, ln_59, ln_60, ln_61, ln_62, ln_63, ln_64, ln_65, ln_66, ln_67, ln_68, ln_69, ln_70, ln_71, ln_72, ln_73, ln_74, ln_75, ln_76, ln_77, ln_78, ln_79, ln_80, ln_81, ln_82, ln_83, va_rf_some, push_s, push_n, nb0, nb1, nbb, Nat.reduceLT, hnx, c, decide_false, b2i_0, if_false, if_true, ho, hr_c66, hr_c69, hr_c70, hr_c71, hr_c72, hr_c73, hr_c74, hr_c75, hr_c76, hr_c77, hr_u69, hr_u70, hr_u71, hr_u72, hr_u73, hr_u74, hr_u75, hr_u76, hr_u77, hr_k13, hr_k17, hr_k18, hr_k28, hr_s17, hr_s18, hr_s28, hr_16, hr_set, h2, m_thingNext hR hT (show p < 900 by omega) h2 (show nt < 1000 by omega), hok1, hq, hix, hcl, vu, ud, Nat.reduceEqDiff, reduceIte, e4, ev, hix2, hcl2, e74, hok2]
theorem m_readsPlace_0 (hR : tRef h d R) (hT : TX I n tc) (hp : p < 800) (h1 : I 56 17 = nI nr) (hn : nr ≤ 6) (h2 : I 56 18 = nI nt) (hn2 : nt < 16) (hok : plOk I n tc nr nt p = false) : ∃ v q, ∀ Q, tEv E 55 0 [.ref 56, tm_dum] [] (mS (hr I p) J R) Q = Q (some 0) (mS (hr (va_up I 72 (upd (I 72) nt v)) q) J R) := by
  have hix := inb_nI (j := nt) (n := 16) (by omega) (by decide)
  have hcl := nI_cl (n := nt) (by omega)
  have hnx := fun {Q} => m_isNext (E := E) (Q := Q) (J := J) hR hT (show p < 1000 by omega) (x := 114) (by decide) (by decide)
  rw [show nI 114 = 114 from rfl] at hnx
  unfold plOk at hok
  by_cases c : cc n tc p = 114
  · rw [if_pos c] at hok
    have ho : op n tc 114 p = p + 1 := if_pos c
    refine ⟨-4, rmP n tc (p + 1), fun Q => ?_⟩
    simp only [e_55_0, e_55_1, e_55_3, e_55_6, e_55_9, e_55_10, e_55_13, e_55_14, e_55_17, e_55_18, e_55_21, e_55_22, e_55_23, e_55_26, e_55_27, e_55_30, e_55_31, e_55_33, e_55_36, e_55_37, e_55_40, e_55_41, e_55_42, e_55_43, e_55_46, e_55_47, e_55_48, e_55_51, e_55_52, e_55_55, e_55_57, e_55_58, e_55_59, e_55_60, e_55_61, e_55_63, e_55_66, e_55_67, e_55_70, e_55_71, e_55_72, e_55_73, e_55_74, e_55_77, e_55_78, e_55_81, e_55_82, rf_56_0 hR, rf_56_4 hR, rf_56_5 hR, rf_56_6 hR, rf_56_7 hR, rf_56_8 hR, rf_56_9 hR, rf_56_10 hR, rf_56_11 hR, rf_56_12 hR, rf_56_14 hR, rf_56_15 hR, rf_56_19 hR, rf_56_20 hR, rf_56_21 hR, rf_56_22 hR, rf_56_23 hR, rf_56_24 hR, rf_56_25 hR, rf_56_26 hR, rf_56_27 hR, rf_56_29 hR, rf_56_32 hR, rf_56_33 hR, rf_56_34 hR, rf_56_37 hR, rf_56_38 hR, kn_56, kn_57, kn_58, kn_59, kn_60, kn_61, kn_62, kn_63, kn_64, kn_65, kn_66, kn_67, kn_68, kn_69, kn_70, kn_71, kn_72, kn_73, kn_74, kn_75, kn_76, kn_77, kn_78, kn_79, kn_80, kn_81, kn_82, kn_83, ln_57, ln_58, ln_59, ln_60, ln_61, ln_62, ln_63, ln_64, ln_65, ln_66, ln_67, ln_68, ln_69, ln_70, ln_71, ln_72, ln_73, ln_74, ln_75, ln_76, ln_77, ln_78, ln_79, ln_80, ln_81, ln_82, ln_83, va_rf_some, push_s, push_n, nb0, nb1, nbb, Nat.reduceLT, hnx, c, decide_true, b2i_0, Bool.true_eq_false, if_false, ho, hr_c66, hr_c69, hr_c70, hr_c71, hr_c72, hr_c73, hr_c74, hr_c75, hr_c76, hr_c77, hr_u69, hr_u70, hr_u71, hr_u72, hr_u73, hr_u74, hr_u75, hr_u76, hr_u77, hr_k13, hr_k17, hr_k18, hr_k28, hr_s17, hr_s18, hr_s28, hr_16, hr_set, h2, m_roomNext hR hT (show p + 1 < 1000 by omega) h1 (show nr < 1000 by omega), hok, Bool.false_eq_true, if_true, hix, hcl, vu, ud, Nat.reduceEqDiff, reduceIte]
  · rw [if_neg c] at hok
    have ho : op n tc 114 p = p := if_neg c
    cases hk : thOk n tc nt p with
    | false =>
      refine ⟨10 + -4, thP n tc p, fun Q => ?_⟩
      simp only [e_55_0, e_55_1, e_55_3, e_55_6, e_55_9, e_55_10, e_55_13, e_55_14, e_55_17, e_55_18, e_55_21, e_55_22, e_55_23, e_55_26, e_55_27, e_55_30, e_55_31, e_55_33, e_55_36, e_55_37, e_55_40, e_55_41, e_55_42, e_55_43, e_55_46, e_55_47, e_55_48, e_55_51, e_55_52, e_55_55, e_55_57, e_55_58, e_55_59, e_55_60, e_55_61, e_55_63, e_55_66, e_55_67, e_55_70, e_55_71, e_55_72, e_55_73, e_55_74, e_55_77, e_55_78, e_55_81, e_55_82, rf_56_0 hR, rf_56_4 hR, rf_56_5 hR, rf_56_6 hR, rf_56_7 hR, rf_56_8 hR, rf_56_9 hR, rf_56_10 hR, rf_56_11 hR, rf_56_12 hR, rf_56_14 hR, rf_56_15 hR, rf_56_19 hR, rf_56_20 hR, rf_56_21 hR, rf_56_22 hR, rf_56_23 hR, rf_56_24 hR, rf_56_25 hR, rf_56_26 hR, rf_56_27 hR, rf_56_29 hR, rf_56_32 hR, rf_56_33 hR, rf_56_34 hR, rf_56_37 hR, rf_56_38 hR, kn_56, kn_57, kn_58, kn_59, kn_60, kn_61, kn_62, kn_63, kn_64, kn_65, kn_66, kn_67, kn_68, kn_69, kn_70, kn_71, kn_72, kn_73, kn_74, kn_75, kn_76, kn_77, kn_78, kn_79, kn_80, kn_81, kn_82, kn_83, ln_57, ln_58, ln_59, ln_60, ln_61, ln_62, ln_63, ln_64, ln_65, ln_66, ln_67, ln_68, ln_69, ln_70, ln_71, ln_72, ln_73, ln_74, ln_75, ln_76, ln_77, ln_78, ln_79, ln_80, ln_81, ln_82, ln_83, va_rf_some, push_s, push_n, nb0, nb1, nbb, Nat.reduceLT, hnx, c, decide_false, b2i_0, if_false, if_true, ho, hr_c66, hr_c69, hr_c70, hr_c71, hr_c72, hr_c73, hr_c74, hr_c75, hr_c76, hr_c77, hr_u69, hr_u70, hr_u71, hr_u72, hr_u73, hr_u74, hr_u75, hr_u76, hr_u77, hr_k13, hr_k17, hr_k18, hr_k28, hr_s17, hr_s18, hr_s28, hr_16, hr_set, h2, m_thingNext hR hT (show p < 900 by omega) h2 (show nt < 1000 by omega), hk, Bool.false_eq_true, hix, hcl, vu, ud, Nat.reduceEqDiff, reduceIte]
    | true =>
      rw [hk, Bool.true_and] at hok
      have hok2 : I 74 (thV n tc p) &&& 3 = 0 := by simpa using hok
      have hk2 := hk
      unfold thOk at hk2
      simp only [Bool.and_eq_true, decide_eq_true_eq] at hk2
      have e4 : (nI (thV n tc p) = -4) = False := eq_false (nI_n4 (by omega))
      have hix2 := inb_nI (j := thV n tc p) (n := 16) (by omega) (by decide)
      have hcl2 := nI_cl (n := thV n tc p) (by omega)
      have e74 : ∀ f q, hr (va_up I 72 f) q 74 = I 74 := fun f q => rfl
      refine ⟨10 + nI (thV n tc p), thP n tc p, fun Q => ?_⟩
      simp only [e_55_0, e_55_1, e_55_3, e_55_6, e_55_9, e_55_10, e_55_13, e_55_14, e_55_17, e_55_18, e_55_21, e_55_22, e_55_23, e_55_26, e_55_27, e_55_30, e_55_31, e_55_33, e_55_36, e_55_37, e_55_40, e_55_41, e_55_42, e_55_43, e_55_46, e_55_47, e_55_48, e_55_51, e_55_52, e_55_55, e_55_57, e_55_58, e_55_59, e_55_60, e_55_61, e_55_63, e_55_66, e_55_67, e_55_70, e_55_71, e_55_72, e_55_73, e_55_74, e_55_77, e_55_78, e_55_81, e_55_82, rf_56_0 hR, rf_56_4 hR, rf_56_5 hR, rf_56_6 hR, rf_56_7 hR, rf_56_8 hR, rf_56_9 hR, rf_56_10 hR, rf_56_11 hR, rf_56_12 hR, rf_56_14 hR, rf_56_15 hR, rf_56_19 hR, rf_56_20 hR, rf_56_21 hR, rf_56_22 hR, rf_56_23 hR, rf_56_24 hR, rf_56_25 hR, rf_56_26 hR, rf_56_27 hR, rf_56_29 hR, rf_56_32 hR, rf_56_33 hR, rf_56_34 hR, rf_56_37 hR, rf_56_38 hR, kn_56, kn_57, kn_58, kn_59, kn_60, kn_61, kn_62, kn_63, kn_64, kn_65, kn_66, kn_67, kn_68, kn_69, kn_70, kn_71, kn_72, kn_73, kn_74, kn_75, kn_76, kn_77, kn_78, kn_79, kn_80, kn_81, kn_82, kn_83, ln_57, ln_58, ln_59, ln_60, ln_61, ln_62, ln_63, ln_64, ln_65, ln_66, ln_67, ln_68, ln_69, ln_70, ln_71, ln_72, ln_73, ln_74, ln_75, ln_76, ln_77, ln_78, ln_79, ln_80, ln_81, ln_82, ln_83, va_rf_some, push_s, push_n, nb0, nb1, nbb, Nat.reduceLT, hnx, c, decide_false, b2i_0, if_false, if_true, ho, hr_c66, hr_c69, hr_c70, hr_c71, hr_c72, hr_c73, hr_c74, hr_c75, hr_c76, hr_c77, hr_u69, hr_u70, hr_u71, hr_u72, hr_u73, hr_u74, hr_u75, hr_u76, hr_u77, hr_k13, hr_k17, hr_k18, hr_k28, hr_s17, hr_s18, hr_s28, hr_16, hr_set, h2, m_thingNext hR hT (show p < 900 by omega) h2 (show nt < 1000 by omega), hk, hix, hcl, vu, ud, Nat.reduceEqDiff, reduceIte, e4, hix2, hcl2, e74, hok2]
/-- the traits, one after another: what is known of them and where one stands -/
def t1V (n : Nat) (tc : Nat → Nat) (p : Nat) : Int32 := if cc n tc p = 99 then 1 else if cc n tc p = 115 then 2 else 0
def t1P (n : Nat) (tc : Nat → Nat) (p : Nat) : Nat := if cc n tc p = 99 ∨ cc n tc p = 115 then p + 1 else p
theorem m_t1 (hR : tRef h d R) (hT : TX I n tc) (hp : p < 900) {l1 l2 l3 l4 : Value} : tEv E 56 125 [.ref 56, l1, l2, l3, l4] [] (mS (hr I p) J R) Q = tEv E 56 154 [.ref 56, l1, l2, l3, .int (t1V n tc p)] [] (mS (hr I (t1P n tc p)) J R) Q := by
  have a := fun {Q} => m_isNext (E := E) (Q := Q) (J := J) hR hT (show p < 1000 by omega) (x := 99) (by decide) (by decide)
  have b := fun {Q} => m_isNext (E := E) (Q := Q) (J := J) hR hT (show p < 1000 by omega) (x := 115) (by decide) (by decide)
  rw [show nI 99 = 99 from rfl] at a
  rw [show nI 115 = 115 from rfl] at b
  unfold t1V t1P
  by_cases c : cc n tc p = 99
  · simp only [e_56_125, e_56_126, e_56_128, e_56_131, e_56_134, e_56_135, e_56_138, e_56_139, e_56_141, e_56_144, e_56_147, e_56_148, e_56_151, e_56_152, rf_56_0 hR, rf_56_4 hR, rf_56_5 hR, rf_56_6 hR, rf_56_7 hR, rf_56_8 hR, rf_56_9 hR, rf_56_10 hR, rf_56_11 hR, rf_56_12 hR, rf_56_14 hR, rf_56_15 hR, rf_56_19 hR, rf_56_20 hR, rf_56_21 hR, rf_56_22 hR, rf_56_23 hR, rf_56_24 hR, rf_56_25 hR, rf_56_26 hR, rf_56_27 hR, rf_56_29 hR, rf_56_32 hR, rf_56_33 hR, rf_56_34 hR, rf_56_37 hR, rf_56_38 hR, kn_56, kn_57, kn_58, kn_59, kn_60, kn_61, kn_62, kn_63, kn_64, kn_65, kn_66, kn_67, kn_68, kn_69, kn_70, kn_71, kn_72, kn_73, kn_74, kn_75, kn_76, kn_77, kn_78, kn_79, kn_80, kn_81, kn_82, kn_83, ln_57, ln_58, ln_59, ln_60, ln_61, ln_62, ln_63, ln_64, ln_65, ln_66, ln_67, ln_68, ln_69, ln_70, ln_71, ln_72, ln_73, ln_74, ln_75, ln_76, ln_77, ln_78, ln_79, ln_80, ln_81, ln_82, ln_83, va_rf_some, push_s, push_n, nb0, nb1, nbb, Nat.reduceLT, a, c, decide_true, b2i_0, Bool.true_eq_false, if_false, op, if_true, true_or]
  · by_cases c2 : cc n tc p = 115
    · simp only [e_56_125, e_56_126, e_56_128, e_56_131, e_56_134, e_56_135, e_56_138, e_56_139, e_56_141, e_56_144, e_56_147, e_56_148, e_56_151, e_56_152, rf_56_0 hR, rf_56_4 hR, rf_56_5 hR, rf_56_6 hR, rf_56_7 hR, rf_56_8 hR, rf_56_9 hR, rf_56_10 hR, rf_56_11 hR, rf_56_12 hR, rf_56_14 hR, rf_56_15 hR, rf_56_19 hR, rf_56_20 hR, rf_56_21 hR, rf_56_22 hR, rf_56_23 hR, rf_56_24 hR, rf_56_25 hR, rf_56_26 hR, rf_56_27 hR, rf_56_29 hR, rf_56_32 hR, rf_56_33 hR, rf_56_34 hR, rf_56_37 hR, rf_56_38 hR, kn_56, kn_57, kn_58, kn_59, kn_60, kn_61, kn_62, kn_63, kn_64, kn_65, kn_66, kn_67, kn_68, kn_69, kn_70, kn_71, kn_72, kn_73, kn_74, kn_75, kn_76, kn_77, kn_78, kn_79, kn_80, kn_81, kn_82, kn_83, ln_57, ln_58, ln_59, ln_60, ln_61, ln_62, ln_63, ln_64, ln_65, ln_66, ln_67, ln_68, ln_69, ln_70, ln_71, ln_72, ln_73, ln_74, ln_75, ln_76, ln_77, ln_78, ln_79, ln_80, ln_81, ln_82, ln_83, va_rf_some, push_s, push_n, nb0, nb1, nbb, Nat.reduceLT, a, c, decide_false, b2i_0, if_true, op, if_false, b, c2, decide_true, Bool.true_eq_false, or_true, show ((115 : Nat) = 99) = False from eq_false (by decide)]
      done
    · simp only [e_56_125, e_56_126, e_56_128, e_56_131, e_56_134, e_56_135, e_56_138, e_56_139, e_56_141, e_56_144, e_56_147, e_56_148, e_56_151, e_56_152, rf_56_0 hR, rf_56_4 hR, rf_56_5 hR, rf_56_6 hR, rf_56_7 hR, rf_56_8 hR, rf_56_9 hR, rf_56_10 hR, rf_56_11 hR, rf_56_12 hR, rf_56_14 hR, rf_56_15 hR, rf_56_19 hR, rf_56_20 hR, rf_56_21 hR, rf_56_22 hR, rf_56_23 hR, rf_56_24 hR, rf_56_25 hR, rf_56_26 hR, rf_56_27 hR, rf_56_29 hR, rf_56_32 hR, rf_56_33 hR, rf_56_34 hR, rf_56_37 hR, rf_56_38 hR, kn_56, kn_57, kn_58, kn_59, kn_60, kn_61, kn_62, kn_63, kn_64, kn_65, kn_66, kn_67, kn_68, kn_69, kn_70, kn_71, kn_72, kn_73, kn_74, kn_75, kn_76, kn_77, kn_78, kn_79, kn_80, kn_81, kn_82, kn_83, ln_57, ln_58, ln_59, ln_60, ln_61, ln_62, ln_63, ln_64, ln_65, ln_66, ln_67, ln_68, ln_69, ln_70, ln_71, ln_72, ln_73, ln_74, ln_75, ln_76, ln_77, ln_78, ln_79, ln_80, ln_81, ln_82, ln_83, va_rf_some, push_s, push_n, nb0, nb1, nbb, Nat.reduceLT, a, c, decide_false, b2i_0, if_true, op, if_false, b, c2, or_self]
theorem m_t2 (hR : tRef h d R) (hT : TX I n tc) (hp : p < 900) {l1 l2 l3 : Value} {v : Int32} : tEv E 56 154 [.ref 56, l1, l2, l3, .int v] [] (mS (hr I p) J R) Q = tEv E 56 173 [.ref 56, l1, l2, l3, .int (v ||| (if cc n tc p = 111 then 4 else 0))] [] (mS (hr I (op n tc 111 p)) J R) Q := by
  have a := fun {Q} => m_isNext (E := E) (Q := Q) (J := J) hR hT (show p < 1000 by omega) (x := 111) (by decide) (by decide)
  rw [show nI 111 = 111 from rfl] at a
  simp only [e_56_154, e_56_156, e_56_157, e_56_159, e_56_162, e_56_165, e_56_166, e_56_169, e_56_170, e_56_171, rf_56_0 hR, rf_56_4 hR, rf_56_5 hR, rf_56_6 hR, rf_56_7 hR, rf_56_8 hR, rf_56_9 hR, rf_56_10 hR, rf_56_11 hR, rf_56_12 hR, rf_56_14 hR, rf_56_15 hR, rf_56_19 hR, rf_56_20 hR, rf_56_21 hR, rf_56_22 hR, rf_56_23 hR, rf_56_24 hR, rf_56_25 hR, rf_56_26 hR, rf_56_27 hR, rf_56_29 hR, rf_56_32 hR, rf_56_33 hR, rf_56_34 hR, rf_56_37 hR, rf_56_38 hR, kn_56, kn_57, kn_58, kn_59, kn_60, kn_61, kn_62, kn_63, kn_64, kn_65, kn_66, kn_67, kn_68, kn_69, kn_70, kn_71, kn_72, kn_73, kn_74, kn_75, kn_76, kn_77, kn_78, kn_79, kn_80, kn_81, kn_82, kn_83, ln_57, ln_58, ln_59, ln_60, ln_61, ln_62, ln_63, ln_64, ln_65, ln_66, ln_67, ln_68, ln_69, ln_70, ln_71, ln_72, ln_73, ln_74, ln_75, ln_76, ln_77, ln_78, ln_79, ln_80, ln_81, ln_82, ln_83, va_rf_some, push_s, push_n, nb0, nb1, nbb, Nat.reduceLT, a, b2i_0, decide_eq_false_iff_not]
  by_cases c : cc n tc p = 111 <;> simp only [c, if_true, if_false, not_true_eq_false, not_false_eq_true]
theorem m_t3 (hR : tRef h d R) (hT : TX I n tc) (hp : p < 900) {l1 l2 l3 : Value} {v : Int32} : tEv E 56 173 [.ref 56, l1, l2, l3, .int v] [] (mS (hr I p) J R) Q = tEv E 56 193 [.ref 56, l1, l2, l3, .int (v ||| (if cc n tc p = 102 then 8 else 0))] [] (mS (hr I (op n tc 102 p)) J R) Q := by
  have a := fun {Q} => m_isNext (E := E) (Q := Q) (J := J) hR hT (show p < 1000 by omega) (x := 102) (by decide) (by decide)
  rw [show nI 102 = 102 from rfl] at a
  simp only [e_56_173, e_56_175, e_56_176, e_56_178, e_56_181, e_56_184, e_56_186, e_56_189, e_56_190, e_56_191, rf_56_0 hR, rf_56_4 hR, rf_56_5 hR, rf_56_6 hR, rf_56_7 hR, rf_56_8 hR, rf_56_9 hR, rf_56_10 hR, rf_56_11 hR, rf_56_12 hR, rf_56_14 hR, rf_56_15 hR, rf_56_19 hR, rf_56_20 hR, rf_56_21 hR, rf_56_22 hR, rf_56_23 hR, rf_56_24 hR, rf_56_25 hR, rf_56_26 hR, rf_56_27 hR, rf_56_29 hR, rf_56_32 hR, rf_56_33 hR, rf_56_34 hR, rf_56_37 hR, rf_56_38 hR, kn_56, kn_57, kn_58, kn_59, kn_60, kn_61, kn_62, kn_63, kn_64, kn_65, kn_66, kn_67, kn_68, kn_69, kn_70, kn_71, kn_72, kn_73, kn_74, kn_75, kn_76, kn_77, kn_78, kn_79, kn_80, kn_81, kn_82, kn_83, ln_57, ln_58, ln_59, ln_60, ln_61, ln_62, ln_63, ln_64, ln_65, ln_66, ln_67, ln_68, ln_69, ln_70, ln_71, ln_72, ln_73, ln_74, ln_75, ln_76, ln_77, ln_78, ln_79, ln_80, ln_81, ln_82, ln_83, va_rf_some, push_s, push_n, nb0, nb1, nbb, Nat.reduceLT, a, b2i_0, decide_eq_false_iff_not]
  by_cases c : cc n tc p = 102 <;> simp only [c, if_true, if_false, not_true_eq_false, not_false_eq_true]
theorem m_t4 (hR : tRef h d R) (hT : TX I n tc) (hp : p < 900) {l1 l2 l3 : Value} {v : Int32} : tEv E 56 193 [.ref 56, l1, l2, l3, .int v] [] (mS (hr I p) J R) Q = tEv E 56 213 [.ref 56, l1, l2, l3, .int (v ||| (if cc n tc p = 108 then 16 else 0))] [] (mS (hr I (op n tc 108 p)) J R) Q := by
  have a := fun {Q} => m_isNext (E := E) (Q := Q) (J := J) hR hT (show p < 1000 by omega) (x := 108) (by decide) (by decide)
  rw [show nI 108 = 108 from rfl] at a
  simp only [e_56_193, e_56_195, e_56_196, e_56_198, e_56_201, e_56_204, e_56_206, e_56_209, e_56_210, e_56_211, rf_56_0 hR, rf_56_4 hR, rf_56_5 hR, rf_56_6 hR, rf_56_7 hR, rf_56_8 hR, rf_56_9 hR, rf_56_10 hR, rf_56_11 hR, rf_56_12 hR, rf_56_14 hR, rf_56_15 hR, rf_56_19 hR, rf_56_20 hR, rf_56_21 hR, rf_56_22 hR, rf_56_23 hR, rf_56_24 hR, rf_56_25 hR, rf_56_26 hR, rf_56_27 hR, rf_56_29 hR, rf_56_32 hR, rf_56_33 hR, rf_56_34 hR, rf_56_37 hR, rf_56_38 hR, kn_56, kn_57, kn_58, kn_59, kn_60, kn_61, kn_62, kn_63, kn_64, kn_65, kn_66, kn_67, kn_68, kn_69, kn_70, kn_71, kn_72, kn_73, kn_74, kn_75, kn_76, kn_77, kn_78, kn_79, kn_80, kn_81, kn_82, kn_83, ln_57, ln_58, ln_59, ln_60, ln_61, ln_62, ln_63, ln_64, ln_65, ln_66, ln_67, ln_68, ln_69, ln_70, ln_71, ln_72, ln_73, ln_74, ln_75, ln_76, ln_77, ln_78, ln_79, ln_80, ln_81, ln_82, ln_83, va_rf_some, push_s, push_n, nb0, nb1, nbb, Nat.reduceLT, a, b2i_0, decide_eq_false_iff_not]
  by_cases c : cc n tc p = 108 <;> simp only [c, if_true, if_false, not_true_eq_false, not_false_eq_true]
def trQ1 (n : Nat) (tc : Nat → Nat) (p : Nat) : Nat := t1P n tc p
def trQ2 (n : Nat) (tc : Nat → Nat) (p : Nat) : Nat := op n tc 111 (trQ1 n tc p)
def trQ3 (n : Nat) (tc : Nat → Nat) (p : Nat) : Nat := op n tc 102 (trQ2 n tc p)
def trQ4 (n : Nat) (tc : Nat → Nat) (p : Nat) : Nat := op n tc 108 (trQ3 n tc p)
def trW (n : Nat) (tc : Nat → Nat) (p : Nat) : Int32 := t1V n tc p ||| (if cc n tc (trQ1 n tc p) = 111 then 4 else 0) ||| (if cc n tc (trQ2 n tc p) = 102 then 8 else 0) ||| (if cc n tc (trQ3 n tc p) = 108 then 16 else 0)
def trK (n : Nat) (tc : Nat → Nat) (p : Nat) : Bool := decide (cc n tc (trQ4 n tc p) = 107)
def trV (n : Nat) (tc : Nat → Nat) (p : Nat) : Int32 := if trK n tc p = true then trW n tc p ||| 32 else trW n tc p
def trKey (n : Nat) (tc : Nat → Nat) (p : Nat) : Int32 := if trK n tc p = true then nI (thV n tc (trQ4 n tc p + 1)) else -4
def trP (n : Nat) (tc : Nat → Nat) (p : Nat) : Nat := if trK n tc p = true then trQ4 n tc p + 3 else trQ4 n tc p
def trOk (n : Nat) (tc : Nat → Nat) (nt p : Nat) : Bool := !trK n tc p || (thOk n tc nt (trQ4 n tc p + 1) && decide (cc n tc (trQ1 n tc p) = 111))
theorem op_le (n : Nat) (tc : Nat → Nat) (x p : Nat) : p ≤ op n tc x p ∧ op n tc x p ≤ p + 1 := by
  unfold op
  split <;> omega
theorem trQ_le (n : Nat) (tc : Nat → Nat) (p : Nat) : trQ1 n tc p ≤ p + 1 ∧ trQ2 n tc p ≤ p + 2 ∧ trQ3 n tc p ≤ p + 3 ∧ trQ4 n tc p ≤ p + 4 ∧ p ≤ trQ4 n tc p := by
  have a : p ≤ trQ1 n tc p ∧ trQ1 n tc p ≤ p + 1 := by
    unfold trQ1 t1P
    split <;> omega
  have b := op_le n tc 111 (trQ1 n tc p)
  have c := op_le n tc 102 (trQ2 n tc p)
  have e := op_le n tc 108 (trQ3 n tc p)
  unfold trQ4 trQ3 trQ2 at *
  omega
theorem trW_4 (n : Nat) (tc : Nat → Nat) (p : Nat) : ((trW n tc p ||| 32) &&& 4 = 0) ↔ cc n tc (trQ1 n tc p) ≠ 111 := by
  unfold trW t1V
  by_cases c1 : cc n tc (trQ1 n tc p) = 111 <;> by_cases c2 : cc n tc (trQ2 n tc p) = 102 <;> by_cases c3 : cc n tc (trQ3 n tc p) = 108 <;> by_cases c4 : cc n tc p = 99 <;> by_cases c5 : cc n tc p = 115 <;> simp only [c1, c2, c3, c4, c5, if_true, if_false, ne_eq, not_true_eq_false, not_false_eq_true] <;> decide
theorem m_t5 (hR : tRef h d R) (hT : TX I n tc) (hp : p < 800) (h2 : I 56 18 = nI nt) (hn2 : nt < 16) {l1 l2 l3 l4 : Value} (hok : trOk n tc nt p = true) : tEv E 56 125 [.ref 56, l1, l2, l3, l4] [] (mS (hr I p) J R) Q = Q (some 1) (mS (hr (va_up (va_up (va_up I 75 (upd (I 75) nt (trKey n tc p))) 74 (upd (I 74) nt (trV n tc p))) 56 (upd (I 56) 18 (nI (nt + 1)))) (trP n tc p)) J R) := by
  have hq := trQ_le n tc p
  have hix := inb_nI (j := nt) (n := 16) (by omega) (by decide)
  have hcl := nI_cl (n := nt) (by omega)
  have hT2 : TX (va_up I 75 (upd (I 75) nt (-4))) n tc := hT
  have h22 : (va_up I 75 (upd (I 75) nt (-4))) 56 18 = nI nt := h2
  have a := fun {Q} => m_isNext (E := E) (Q := Q) (J := J) hR hT2 (show trQ4 n tc p < 1000 by omega) (x := 107) (by decide) (by decide)
  rw [show nI 107 = 107 from rfl] at a
  rw [m_t1 hR hT (by omega), m_t2 hR hT (show t1P n tc p < 900 from (show trQ1 n tc p < 900 by omega)), m_t3 hR hT (show op n tc 111 (t1P n tc p) < 900 from (show trQ2 n tc p < 900 by omega)), m_t4 hR hT (show op n tc 102 (op n tc 111 (t1P n tc p)) < 900 from (show trQ3 n tc p < 900 by omega))]
  show tEv E 56 213 [.ref 56, l1, l2, l3, .int (trW n tc p)] [] (mS (hr I (trQ4 n tc p)) J R) Q = _
  by_cases c : cc n tc (trQ4 n tc p) = 107
  · have hk : trK n tc p = true := decide_eq_true c
    have ho : op n tc 107 (trQ4 n tc p) = trQ4 n tc p + 1 := if_pos c
    unfold trOk at hok
    rw [hk] at hok
    simp only [Bool.not_true, Bool.false_or, Bool.and_eq_true, decide_eq_true_eq] at hok
    have hth := fun {Q} => m_thingNext (E := E) (Q := Q) (J := J) hR hT2 (show trQ4 n tc p + 1 < 900 by omega) h22 (show nt < 1000 by omega)
    rw [hok.1] at hth
    simp only [if_true] at hth
    have hk2 := hok.1
    unfold thOk at hk2
    simp only [Bool.and_eq_true, decide_eq_true_eq] at hk2
    have hP : thP n tc (trQ4 n tc p + 1) = trQ4 n tc p + 3 := by unfold thP; rw [if_pos hk2.1.1, if_pos hk2.1.2]
    have e4 : (nI (thV n tc (trQ4 n tc p + 1)) = -4) = False := eq_false (nI_n4 (by omega))
    have e5 : ((trW n tc p ||| 32) &&& 4 = 0) = False := eq_false (fun e => (trW_4 n tc p).mp e hok.2)
    unfold trKey trV trP
    simp only [e_56_213, e_56_214, e_56_217, e_56_218, e_56_221, e_56_223, e_56_224, e_56_225, e_56_227, e_56_230, e_56_233, e_56_235, e_56_237, e_56_238, e_56_240, e_56_241, e_56_244, e_56_245, e_56_248, e_56_249, e_56_252, e_56_253, e_56_254, e_56_257, e_56_258, e_56_261, e_56_262, e_56_264, e_56_267, e_56_269, e_56_270, e_56_271, e_56_274, e_56_275, e_56_276, e_56_277, e_56_280, e_56_281, e_56_284, e_56_286, e_56_287, e_56_288, e_56_289, e_56_292, e_56_293, e_56_294, e_56_297, e_56_298, rf_56_0 hR, rf_56_4 hR, rf_56_5 hR, rf_56_6 hR, rf_56_7 hR, rf_56_8 hR, rf_56_9 hR, rf_56_10 hR, rf_56_11 hR, rf_56_12 hR, rf_56_14 hR, rf_56_15 hR, rf_56_19 hR, rf_56_20 hR, rf_56_21 hR, rf_56_22 hR, rf_56_23 hR, rf_56_24 hR, rf_56_25 hR, rf_56_26 hR, rf_56_27 hR, rf_56_29 hR, rf_56_32 hR, rf_56_33 hR, rf_56_34 hR, rf_56_37 hR, rf_56_38 hR, kn_56, kn_57, kn_58, kn_59, kn_60, kn_61, kn_62, kn_63, kn_64, kn_65, kn_66, kn_67, kn_68, kn_69, kn_70, kn_71, kn_72, kn_73, kn_74, kn_75, kn_76, kn_77, kn_78, kn_79, kn_80, kn_81, kn_82, kn_83, ln_57, ln_58, ln_59, ln_60, ln_61, ln_62, ln_63, ln_64, ln_65, ln_66, ln_67, ln_68, ln_69, ln_70, ln_71, ln_72, ln_73, ln_74, ln_75, ln_76, ln_77, ln_78, ln_79, ln_80, ln_81, ln_82, ln_83, va_rf_some, push_s, push_n, nb0, nb1, nbb, Nat.reduceLT, hr_c66, hr_c69, hr_c70, hr_c71, hr_c72, hr_c73, hr_c74, hr_c75, hr_c76, hr_c77, hr_u69, hr_u70, hr_u71, hr_u72, hr_u73, hr_u74, hr_u75, hr_u76, hr_u77, hr_k13, hr_k17, hr_k18, hr_k28, hr_s17, hr_s18, hr_s28, hr_16, hr_set, h2, hix, hcl, a, c, decide_true, b2i_0, Bool.true_eq_false, if_false, ho, hth, hP, h22, vu, ud, vu_vu, vu_eq, upd_upd, Nat.reduceEqDiff, reduceIte, e4, e5, hk, nI_1]
  · have hk : trK n tc p = false := decide_eq_false c
    have ho : op n tc 107 (trQ4 n tc p) = trQ4 n tc p := if_neg c
    unfold trKey trV trP
    simp only [e_56_213, e_56_214, e_56_217, e_56_218, e_56_221, e_56_223, e_56_224, e_56_225, e_56_227, e_56_230, e_56_233, e_56_235, e_56_237, e_56_238, e_56_240, e_56_241, e_56_244, e_56_245, e_56_248, e_56_249, e_56_252, e_56_253, e_56_254, e_56_257, e_56_258, e_56_261, e_56_262, e_56_264, e_56_267, e_56_269, e_56_270, e_56_271, e_56_274, e_56_275, e_56_276, e_56_277, e_56_280, e_56_281, e_56_284, e_56_286, e_56_287, e_56_288, e_56_289, e_56_292, e_56_293, e_56_294, e_56_297, e_56_298, rf_56_0 hR, rf_56_4 hR, rf_56_5 hR, rf_56_6 hR, rf_56_7 hR, rf_56_8 hR, rf_56_9 hR, rf_56_10 hR, rf_56_11 hR, rf_56_12 hR, rf_56_14 hR, rf_56_15 hR, rf_56_19 hR, rf_56_20 hR, rf_56_21 hR, rf_56_22 hR, rf_56_23 hR, rf_56_24 hR, rf_56_25 hR, rf_56_26 hR, rf_56_27 hR, rf_56_29 hR, rf_56_32 hR, rf_56_33 hR, rf_56_34 hR, rf_56_37 hR, rf_56_38 hR, kn_56, kn_57, kn_58, kn_59, kn_60, kn_61, kn_62, kn_63, kn_64, kn_65, kn_66, kn_67, kn_68, kn_69, kn_70, kn_71, kn_72, kn_73, kn_74, kn_75, kn_76, kn_77, kn_78, kn_79, kn_80, kn_81, kn_82, kn_83, ln_57, ln_58, ln_59, ln_60, ln_61, ln_62, ln_63, ln_64, ln_65, ln_66, ln_67, ln_68, ln_69, ln_70, ln_71, ln_72, ln_73, ln_74, ln_75, ln_76, ln_77, ln_78, ln_79, ln_80, ln_81, ln_82, ln_83, va_rf_some, push_s, push_n, nb0, nb1, nbb, Nat.reduceLT, hr_c66, hr_c69, hr_c70, hr_c71, hr_c72, hr_c73, hr_c74, hr_c75, hr_c76, hr_c77, hr_u69, hr_u70, hr_u71, hr_u72, hr_u73, hr_u74, hr_u75, hr_u76, hr_u77, hr_k13, hr_k17, hr_k18, hr_k28, hr_s17, hr_s18, hr_s28, hr_16, hr_set, h2, hix, hcl, a, c, decide_false, b2i_0, if_true, ho, h22, vu, ud, vu_vu, vu_eq, upd_upd, Nat.reduceEqDiff, reduceIte, hk, Bool.false_eq_true, if_false, nI_1]
theorem m_t5_0 (hR : tRef h d R) (hT : TX I n tc) (hp : p < 800) (h2 : I 56 18 = nI nt) (hn2 : nt < 16) {l1 l2 l3 l4 : Value} (hok : trOk n tc nt p = false) : ∃ v q, ∀ Q, tEv E 56 125 [.ref 56, l1, l2, l3, l4] [] (mS (hr I p) J R) Q = Q (some 0) (mS (hr (va_up I 75 (upd (I 75) nt v)) q) J R) := by
  have hq := trQ_le n tc p
  have hix := inb_nI (j := nt) (n := 16) (by omega) (by decide)
  have hcl := nI_cl (n := nt) (by omega)
  have hT2 : TX (va_up I 75 (upd (I 75) nt (-4))) n tc := hT
  have h22 : (va_up I 75 (upd (I 75) nt (-4))) 56 18 = nI nt := h2
  have a := fun {Q} => m_isNext (E := E) (Q := Q) (J := J) hR hT2 (show trQ4 n tc p < 1000 by omega) (x := 107) (by decide) (by decide)
  rw [show nI 107 = 107 from rfl] at a
  have hth := fun {Q} => m_thingNext (E := E) (Q := Q) (J := J) hR hT2 (show trQ4 n tc p + 1 < 900 by omega) h22 (show nt < 1000 by omega)
  unfold trOk at hok
  simp only [Bool.or_eq_false_iff, Bool.not_eq_false'] at hok
  have c : cc n tc (trQ4 n tc p) = 107 := of_decide_eq_true hok.1
  have ho : op n tc 107 (trQ4 n tc p) = trQ4 n tc p + 1 := if_pos c
  refine ⟨if thOk n tc nt (trQ4 n tc p + 1) = true then nI (thV n tc (trQ4 n tc p + 1)) else -4, thP n tc (trQ4 n tc p + 1), fun Q => ?_⟩
  rw [m_t1 hR hT (by omega), m_t2 hR hT (show t1P n tc p < 900 from (show trQ1 n tc p < 900 by omega)), m_t3 hR hT (show op n tc 111 (t1P n tc p) < 900 from (show trQ2 n tc p < 900 by omega)), m_t4 hR hT (show op n tc 102 (op n tc 111 (t1P n tc p)) < 900 from (show trQ3 n tc p < 900 by omega))]
  show tEv E 56 213 [.ref 56, l1, l2, l3, .int (trW n tc p)] [] (mS (hr I (trQ4 n tc p)) J R) Q = _
  cases hk : thOk n tc nt (trQ4 n tc p + 1) with
  | false =>
    rw [hk] at hth
    simp only [Bool.false_eq_true, if_false] at hth
    simp only [e_56_213, e_56_214, e_56_217, e_56_218, e_56_221, e_56_223, e_56_224, e_56_225, e_56_227, e_56_230, e_56_233, e_56_235, e_56_237, e_56_238, e_56_240, e_56_241, e_56_244, e_56_245, e_56_248, e_56_249, e_56_252, e_56_253, e_56_254, e_56_257, e_56_258, e_56_261, e_56_262, e_56_264, e_56_267, e_56_269, e_56_270, e_56_271, e_56_274, e_56_275, rf_56_0 hR, rf_56_4 hR, rf_56_5 hR, rf_56_6 hR, rf_56_7 hR, rf_56_8 hR, rf_56_9 hR, rf_56_10 hR, rf_56_11 hR, rf_56_12 hR, rf_56_14 hR, rf_56_15 hR, rf_56_19 hR, rf_56_20 hR, rf_56_21 hR, rf_56_22 hR, rf_56_23 hR, rf_56_24 hR, rf_56_25 hR, rf_56_26 hR, rf_56_27 hR, rf_56_29 hR, rf_56_32 hR, rf_56_33 hR, rf_56_34 hR, rf_56_37 hR, rf_56_38 hR, kn_56, kn_57, kn_58, kn_59, kn_60, kn_61, kn_62, kn_63, kn_64, kn_65, kn_66, kn_67, kn_68, kn_69, kn_70, kn_71, kn_72, kn_73, kn_74, kn_75, kn_76, kn_77, kn_78, kn_79, kn_80, kn_81, kn_82, kn_83, ln_57, ln_58, ln_59, ln_60, ln_61, ln_62, ln_63, ln_64, ln_65, ln_66, ln_67, ln_68, ln_69, ln_70, ln_71, ln_72, ln_73, ln_74, ln_75, ln_76, ln_77, ln_78, ln_79, ln_80, ln_81, ln_82, ln_83, va_rf_some, push_s, push_n, nb0, nb1, nbb, Nat.reduceLT, hr_c66, hr_c69, hr_c70, hr_c71, hr_c72, hr_c73, hr_c74, hr_c75, hr_c76, hr_c77, hr_u69, hr_u70, hr_u71, hr_u72, hr_u73, hr_u74, hr_u75, hr_u76, hr_u77, hr_k13, hr_k17, hr_k18, hr_k28, hr_s17, hr_s18, hr_s28, hr_16, hr_set, h2, hix, hcl, a, c, decide_true, b2i_0, Bool.true_eq_false, if_false, ho, hth, h22, vu, ud, vu_vu, vu_eq, upd_upd, Nat.reduceEqDiff, reduceIte, Bool.false_eq_true]
  | true =>
    rw [hk] at hth
    simp only [if_true] at hth
    rw [hk, Bool.true_and] at hok
    have hk2 := hk
    unfold thOk at hk2
    simp only [Bool.and_eq_true, decide_eq_true_eq] at hk2
    have e4 : (nI (thV n tc (trQ4 n tc p + 1)) = -4) = False := eq_false (nI_n4 (by omega))
    have e5 : ((trW n tc p ||| 32) &&& 4 = 0) = True := eq_true ((trW_4 n tc p).mpr (of_decide_eq_false hok.2))
    simp only [e_56_213, e_56_214, e_56_217, e_56_218, e_56_221, e_56_223, e_56_224, e_56_225, e_56_227, e_56_230, e_56_233, e_56_235, e_56_237, e_56_238, e_56_240, e_56_241, e_56_244, e_56_245, e_56_248, e_56_249, e_56_252, e_56_253, e_56_254, e_56_257, e_56_258, e_56_261, e_56_262, e_56_264, e_56_267, e_56_269, e_56_270, e_56_271, e_56_274, e_56_275, rf_56_0 hR, rf_56_4 hR, rf_56_5 hR, rf_56_6 hR, rf_56_7 hR, rf_56_8 hR, rf_56_9 hR, rf_56_10 hR, rf_56_11 hR, rf_56_12 hR, rf_56_14 hR, rf_56_15 hR, rf_56_19 hR, rf_56_20 hR, rf_56_21 hR, rf_56_22 hR, rf_56_23 hR, rf_56_24 hR, rf_56_25 hR, rf_56_26 hR, rf_56_27 hR, rf_56_29 hR, rf_56_32 hR, rf_56_33 hR, rf_56_34 hR, rf_56_37 hR, rf_56_38 hR, kn_56, kn_57, kn_58, kn_59, kn_60, kn_61, kn_62, kn_63, kn_64, kn_65, kn_66, kn_67, kn_68, kn_69, kn_70, kn_71, kn_72, kn_73, kn_74, kn_75, kn_76, kn_77, kn_78, kn_79, kn_80, kn_81, kn_82, kn_83, ln_57, ln_58, ln_59, ln_60, ln_61, ln_62, ln_63, ln_64, ln_65, ln_66, ln_67, ln_68, ln_69, ln_70, ln_71, ln_72, ln_73, ln_74, ln_75, ln_76, ln_77, ln_78, ln_79, ln_80, ln_81, ln_82, ln_83, va_rf_some, push_s, push_n, nb0, nb1, nbb, Nat.reduceLT, hr_c66, hr_c69, hr_c70, hr_c71, hr_c72, hr_c73, hr_c74, hr_c75, hr_c76, hr_c77, hr_u69, hr_u70, hr_u71, hr_u72, hr_u73, hr_u74, hr_u75, hr_u76, hr_u77, hr_k13, hr_k17, hr_k18, hr_k28, hr_s17, hr_s18, hr_s28, hr_16, hr_set, h2, hix, hcl, a, c, decide_true, b2i_0, Bool.true_eq_false, if_false, ho, hth, h22, vu, ud, vu_vu, vu_eq, upd_upd, Nat.reduceEqDiff, reduceIte, e4, e5]
end RT
def adOk (n : Nat) (tc : Nat → Nat) (p : Nat) : Bool := decide (cc n tc p = 45) || decide (97 ≤ cc n tc p ∧ cc n tc p ≤ 104)
def adV (n : Nat) (tc : Nat → Nat) (p : Nat) : Int32 := if cc n tc p = 45 then -4 else nI (cc n tc p - 97)
def thgOk (I : Nat → Nat → Int32) (n : Nat) (tc : Nat → Nat) (nr nt p : Nat) : Bool :=
  decide (nt < 16) && decide (97 ≤ cc n tc p ∧ cc n tc p ≤ 108) && adOk n tc (p + 1) && plOk I n tc nr nt (p + 2) && decide (49 ≤ cc n tc (p + 4) ∧ cc n tc (p + 4) ≤ 57) && trOk n tc nt (p + 5)
def rdThg (I : Nat → Nat → Int32) (n : Nat) (tc : Nat → Nat) (nt p : Nat) : Nat → Nat → Int32 :=
  va_up (va_up (va_up (va_up (va_up (va_up (va_up I 70 (upd (I 70) nt (nI (cc n tc p - 97)))) 71 (upd (I 71) nt (adV n tc (p + 1)))) 72 (upd (I 72) nt (nI (plV n tc (p + 2))))) 73 (upd (I 73) nt (nI (cc n tc (p + 4) - 48)))) 75 (upd (I 75) nt (trKey n tc (p + 5)))) 74 (upd (I 74) nt (trV n tc (p + 5)))) 56 (upd (I 56) 18 (nI (nt + 1)))
/-- what a reader may change -/
def frM (I I' : Nat → Nat → Int32) : Prop := (∀ c, c ≠ 56 → (c < 69 ∨ 77 < c) → I' c = I c) ∧ ∀ k, k ≠ 16 → k ≠ 17 → k ≠ 18 → k ≠ 28 → I' 56 k = I 56 k
theorem frM_refl (I : Nat → Nat → Int32) : frM I I := ⟨fun _ _ _ => rfl, fun _ _ _ _ _ => rfl⟩
theorem frM_trans {I I' I'' : Nat → Nat → Int32} (h : frM I I') (g : frM I' I'') : frM I I'' := ⟨fun c a b => (g.1 c a b).trans (h.1 c a b), fun k a b c e => (g.2 k a b c e).trans (h.2 k a b c e)⟩
theorem frM_up {I I' : Nat → Nat → Int32} (h : frM I I') {c : Nat} {f : Nat → Int32} (h1 : 69 ≤ c) (h2 : c ≤ 77) : frM I (va_up I' c f) :=
  ⟨fun k a b => by rw [vu, if_neg (by omega)]; exact h.1 k a b, fun k a b e g => by rw [vu, if_neg (by omega)]; exact h.2 k a b e g⟩
theorem frM_56 {I I' : Nat → Nat → Int32} (h : frM I I') {k : Nat} {v : Int32} (hk : k = 16 ∨ k = 17 ∨ k = 18 ∨ k = 28) : frM I (va_up I' 56 (upd (I' 56) k v)) :=
  ⟨fun c a b => by rw [vu, if_neg a]; exact h.1 c a b, fun j a b c e => by
    rw [vu, if_pos rfl, ud, if_neg (by omega)]
    exact h.2 j a b c e⟩
theorem frM_hr {I I' : Nat → Nat → Int32} (h : frM I I') {p : Nat} : frM I (hr I' p) := frM_56 h (Or.inl rfl)
theorem frM_thg (I : Nat → Nat → Int32) (n : Nat) (tc : Nat → Nat) (nt p : Nat) : frM I (rdThg I n tc nt p) :=
  frM_56 (frM_up (frM_up (frM_up (frM_up (frM_up (frM_up (frM_refl I) (by decide) (by decide)) (by decide) (by decide)) (by decide) (by decide)) (by decide) (by decide)) (by decide) (by decide)) (by decide) (by decide)) (Or.inr (Or.inr (Or.inl rfl)))
section RT2
variable {E : tm_Env} {Q : Option Int32 → tm_St → Prop} {I : Nat → Nat → Int32} {J : Nat → Nat → Int64} {R : Nat → Nat → Option Nat} {h d : Nat} {nr nt n p : Nat} {tc : Nat → Nat}
/-- from behind the noun: the adjective -/
theorem m_adj (hR : tRef h d R) (hT : TX I n tc) (hp : p < 900) (h2 : I 56 18 = nI nt) (hn2 : nt < 16) {l1 l2 l3 l4 : Value} {v : Int32} (hok : adOk n tc p = true) : tEv E 56 36 [.ref 56, l1, l2, l3, l4] [] (mS (hr I p) J R) Q = tEv E 56 87 [.ref 56, l1, .int (b2i (decide (cc n tc p = 45))), l3, l4] [] (mS (hr (va_up I 71 (upd (I 71) nt (adV n tc p))) (p + 1)) J R) Q := by
  have hix := inb_nI (j := nt) (n := 16) (by omega) (by decide)
  have hcl := nI_cl (n := nt) (by omega)
  have a := fun {Q} => m_isNext (E := E) (Q := Q) (J := J) hR hT (show p < 1000 by omega) (x := 45) (by decide) (by decide)
  have b := fun {Q} => m_next (E := E) (Q := Q) (J := J) hR hT (show p < 1000 by omega) (lo := 97) (hi := 104) (by decide) (by decide) (by decide)
  rw [show nI 45 = 45 from rfl] at a
  rw [show nI 97 = 97 from rfl, show nI 104 = 104 from rfl] at b
  by_cases c : cc n tc p = 45
  · have ho : op n tc 45 p = p + 1 := if_pos c
    simp only [e_56_36, e_56_37, e_56_39, e_56_42, e_56_43, e_56_44, e_56_47, e_56_48, e_56_51, e_56_52, e_56_55, e_56_57, e_56_60, e_56_61, e_56_63, e_56_65, e_56_68, e_56_69, e_56_70, e_56_73, e_56_74, e_56_77, e_56_78, e_56_81, e_56_82, e_56_84, rf_56_0 hR, rf_56_4 hR, rf_56_5 hR, rf_56_6 hR, rf_56_7 hR, rf_56_8 hR, rf_56_9 hR, rf_56_10 hR, rf_56_11 hR, rf_56_12 hR, rf_56_14 hR, rf_56_15 hR, rf_56_19 hR, rf_56_20 hR, rf_56_21 hR, rf_56_22 hR, rf_56_23 hR, rf_56_24 hR, rf_56_25 hR, rf_56_26 hR, rf_56_27 hR, rf_56_29 hR, rf_56_32 hR, rf_56_33 hR, rf_56_34 hR, rf_56_37 hR, rf_56_38 hR, kn_56, kn_57, kn_58, kn_59, kn_60, kn_61, kn_62, kn_63, kn_64, kn_65, kn_66, kn_67, kn_68, kn_69, kn_70, kn_71, kn_72, kn_73, kn_74, kn_75, kn_76, kn_77, kn_78, kn_79, kn_80, kn_81, kn_82, kn_83, ln_57, ln_58, ln_59, ln_60, ln_61, ln_62, ln_63, ln_64, ln_65, ln_66, ln_67, ln_68, ln_69, ln_70, ln_71, ln_72, ln_73, ln_74, ln_75, ln_76, ln_77, ln_78, ln_79, ln_80, ln_81, ln_82, ln_83, va_rf_some, push_s, push_n, nb0, nb1, nbb, Nat.reduceLT, hr_c66, hr_c69, hr_c70, hr_c71, hr_c72, hr_c73, hr_c74, hr_c75, hr_c76, hr_c77, hr_u69, hr_u70, hr_u71, hr_u72, hr_u73, hr_u74, hr_u75, hr_u76, hr_u77, hr_k13, hr_k17, hr_k18, hr_k28, hr_s17, hr_s18, hr_s28, hr_16, hr_set, a, h2, hix, hcl, c, decide_true, b2i_0, Bool.true_eq_false, if_false, ho, adV, if_true]
  · have ho : op n tc 45 p = p := if_neg c
    unfold adOk at hok
    rw [decide_eq_false c, Bool.false_or, decide_eq_true_eq] at hok
    have e4 : (nI (cc n tc p - 97) = -4) = False := eq_false (nI_n4 (by omega))
    simp only [e_56_36, e_56_37, e_56_39, e_56_42, e_56_43, e_56_44, e_56_47, e_56_48, e_56_51, e_56_52, e_56_55, e_56_57, e_56_60, e_56_61, e_56_63, e_56_65, e_56_68, e_56_69, e_56_70, e_56_73, e_56_74, e_56_77, e_56_78, e_56_81, e_56_82, e_56_84, rf_56_0 hR, rf_56_4 hR, rf_56_5 hR, rf_56_6 hR, rf_56_7 hR, rf_56_8 hR, rf_56_9 hR, rf_56_10 hR, rf_56_11 hR, rf_56_12 hR, rf_56_14 hR, rf_56_15 hR, rf_56_19 hR, rf_56_20 hR, rf_56_21 hR, rf_56_22 hR, rf_56_23 hR, rf_56_24 hR, rf_56_25 hR, rf_56_26 hR, rf_56_27 hR, rf_56_29 hR, rf_56_32 hR, rf_56_33 hR, rf_56_34 hR, rf_56_37 hR, rf_56_38 hR, kn_56, kn_57, kn_58, kn_59, kn_60, kn_61, kn_62, kn_63, kn_64, kn_65, kn_66, kn_67, kn_68, kn_69, kn_70, kn_71, kn_72, kn_73, kn_74, kn_75, kn_76, kn_77, kn_78, kn_79, kn_80, kn_81, kn_82, kn_83, ln_57, ln_58, ln_59, ln_60, ln_61, ln_62, ln_63, ln_64, ln_65, ln_66, ln_67, ln_68, ln_69, ln_70, ln_71, ln_72, ln_73, ln_74, ln_75, ln_76, ln_77, ln_78, ln_79, ln_80, ln_81, ln_82, ln_83, va_rf_some, push_s, push_n, nb0, nb1, nbb, Nat.reduceLT, hr_c66, hr_c69, hr_c70, hr_c71, hr_c72, hr_c73, hr_c74, hr_c75, hr_c76, hr_c77, hr_u69, hr_u70, hr_u71, hr_u72, hr_u73, hr_u74, hr_u75, hr_u76, hr_u77, hr_k13, hr_k17, hr_k18, hr_k28, hr_s17, hr_s18, hr_s28, hr_16, hr_set, a, h2, hix, hcl, c, decide_false, b2i_0, if_true, ho, adV, if_false, b, hok, and_self, vu, ud, Nat.reduceEqDiff, reduceIte, e4]
theorem m_adj_0 (hR : tRef h d R) (hT : TX I n tc) (hp : p < 900) (h2 : I 56 18 = nI nt) (hn2 : nt < 16) {l1 l2 l3 l4 : Value} {v : Int32} (hok : adOk n tc p = false) : tEv E 56 36 [.ref 56, l1, l2, l3, l4] [] (mS (hr I p) J R) Q = Q (some 0) (mS (hr (va_up I 71 (upd (I 71) nt (-4))) p) J R) := by
  have hix := inb_nI (j := nt) (n := 16) (by omega) (by decide)
  have hcl := nI_cl (n := nt) (by omega)
  have a := fun {Q} => m_isNext (E := E) (Q := Q) (J := J) hR hT (show p < 1000 by omega) (x := 45) (by decide) (by decide)
  have b := fun {Q} => m_next (E := E) (Q := Q) (J := J) hR hT (show p < 1000 by omega) (lo := 97) (hi := 104) (by decide) (by decide) (by decide)
  rw [show nI 45 = 45 from rfl] at a
  rw [show nI 97 = 97 from rfl, show nI 104 = 104 from rfl] at b
  unfold adOk at hok
  simp only [Bool.or_eq_false_iff, decide_eq_false_iff_not] at hok
  have ho : op n tc 45 p = p := if_neg hok.1
  simp only [e_56_36, e_56_37, e_56_39, e_56_42, e_56_43, e_56_44, e_56_47, e_56_48, e_56_51, e_56_52, e_56_55, e_56_57, e_56_60, e_56_61, e_56_63, e_56_65, e_56_68, e_56_69, e_56_70, e_56_73, e_56_74, e_56_77, e_56_78, e_56_81, e_56_82, e_56_84, e_56_87, e_56_88, e_56_91, e_56_94, e_56_95, rf_56_0 hR, rf_56_4 hR, rf_56_5 hR, rf_56_6 hR, rf_56_7 hR, rf_56_8 hR, rf_56_9 hR, rf_56_10 hR, rf_56_11 hR, rf_56_12 hR, rf_56_14 hR, rf_56_15 hR, rf_56_19 hR, rf_56_20 hR, rf_56_21 hR, rf_56_22 hR, rf_56_23 hR, rf_56_24 hR, rf_56_25 hR, rf_56_26 hR, rf_56_27 hR, rf_56_29 hR, rf_56_32 hR, rf_56_33 hR, rf_56_34 hR, rf_56_37 hR, rf_56_38 hR, kn_56, kn_57, kn_58, kn_59, kn_60, kn_61, kn_62, kn_63, kn_64, kn_65, kn_66, kn_67, kn_68, kn_69, kn_70, kn_71, kn_72, kn_73, kn_74, kn_75, kn_76, kn_77, kn_78, kn_79, kn_80, kn_81, kn_82, kn_83, ln_57, ln_58, ln_59, ln_60, ln_61, ln_62, ln_63, ln_64, ln_65, ln_66, ln_67, ln_68, ln_69, ln_70, ln_71, ln_72, ln_73, ln_74, ln_75, ln_76, ln_77, ln_78, ln_79, ln_80, ln_81, ln_82, ln_83, va_rf_some, push_s, push_n, nb0, nb1, nbb, Nat.reduceLT, hr_c66, hr_c69, hr_c70, hr_c71, hr_c72, hr_c73, hr_c74, hr_c75, hr_c76, hr_c77, hr_u69, hr_u70, hr_u71, hr_u72, hr_u73, hr_u74, hr_u75, hr_u76, hr_u77, hr_k13, hr_k17, hr_k18, hr_k28, hr_s17, hr_s18, hr_s28, hr_16, hr_set, a, h2, hix, hcl, hok.1, decide_false, b2i_0, if_true, ho, if_false, b, hok.2, vu, ud, Nat.reduceEqDiff, reduceIte]
end RT2
