/-! ===== the class's reader: a way ===== -/
theorem bit15 : ∀ i, i < 32 → bt (15 : Int32) i = (decide (i = 0) || decide (i = 1) || decide (i = 2) || decide (i = 3)) := by decide
theorem bit12 : ∀ i, i < 32 → bt (12 : Int32) i = (decide (i = 2) || decide (i = 3)) := by decide
theorem and_15 {v : Int32} : (v &&& 15 = 12) ↔ (v &&& 1 = 0 ∧ v &&& 2 = 0 ∧ ¬ v &&& 4 = 0 ∧ ¬ v &&& 8 = 0) := by
  rw [and_bit (by decide) bit1, and_bit (by decide) bit2, and_bit (by decide) bit4, and_bit (by decide) bit8]
  constructor
  · intro e
    have g : ∀ i, i < 4 → bt v i = bt 12 i := fun i hi => by
      have : bt (v &&& 15) i = bt 12 i := by rw [e]
      rw [b_and, (by decide : ∀ i, i < 4 → bt 15 i = true) i hi, Bool.and_true] at this
      exact this
    refine ⟨(g 0 (by decide)).trans (by decide), (g 1 (by decide)).trans (by decide), ?_, ?_⟩
    · rw [g 2 (by decide)]; decide
    · rw [g 3 (by decide)]; decide
  · rintro ⟨h0, h1, h2, h3⟩
    rw [Bool.not_eq_false] at h2 h3
    apply b_ext
    intro i hi
    rw [b_and, bit15 i hi, bit12 i hi]
    by_cases g0 : i = 0
    · rw [g0, h0]; rfl
    · by_cases g1 : i = 1
      · rw [g1, h1]; rfl
      · by_cases g2 : i = 2
        · rw [g2, h2]; rfl
        · by_cases g3 : i = 3
          · rw [g3, h3]; rfl
          · simp [g0, g1, g2, g3]
section K1
variable {E : tm_Env} {Q : Option Int32 → tm_St → Prop} {M I : Nat → Nat → Int32} {J : Nat → Nat → Int64} {R : Nat → Nat → Option Nat} {h d : Nat} {n p q nr nt a b x y : Nat} {tc pp : Nat → Nat}
theorem rm_num (hT : TXc I n tc) (hn : nr ≤ 6) : isB (nI (cc n tc p) - 48) nr = rmOk n tc nr p := by
  have hc := cc_c (p := p) hT
  unfold rmOk dg dv
  by_cases c : cc n tc p < 48
  · have e : isB (nI (cc n tc p) - 48) nr = false := decide_eq_false (fun g => by
      have := (sub_lt0 (k := 48) hc (by decide)).mpr c
      exact Int32.not_lt.mpr g.1 this)
    rw [e, decide_eq_false (show ¬ (48 ≤ cc n tc p ∧ cc n tc p ≤ 57) by omega)]
    rfl
  · rw [show nI (cc n tc p) - 48 = nI (cc n tc p - 48) from pk_sub (b := 48) (by omega), isB_nI (by omega) (by omega)]
    by_cases c2 : cc n tc p ≤ 57
    · rw [decide_eq_true (show 48 ≤ cc n tc p ∧ cc n tc p ≤ 57 by omega)]
      rfl
    · rw [decide_eq_false (show ¬ (48 ≤ cc n tc p ∧ cc n tc p ≤ 57) by omega), decide_eq_false (show ¬ cc n tc p - 48 < nr by omega)]
      rfl
theorem rm_val (h : rmOk n tc nr p = true) : nI (cc n tc p) - 48 = nI (dv n tc p) ∧ dv n tc p < nr := by
  unfold rmOk dg at h
  simp only [Bool.and_eq_true, decide_eq_true_eq] at h
  exact ⟨pk_sub (b := 48) (by omega), h.2⟩
theorem c_isDoorIn (hR : tRef h d R) (hD : DR M I d nr nt pp) (ha : a < nr) : tEv E 38 0 [.ref 3, .int (if thOk n tc nt p = true then nI (thV n tc p) else -1), .int (nI a)] [] (mS (hx I q) J R) Q = Q (some (b2i (drOk M n tc nt a p))) (mS (hx I q) J R) := by
  have dd := dd_of hR
  have h6 := hD.1.2.2.1
  have h16 := hD.1.2.2.2
  have hit := fun {Q} {x} => c_isThing3 (E := E) (Q := Q) (I := hx I q) (J := J) (nt := nt) (x := x) hR (by rw [hx_x (by omega)]; exact hD.1.2.1)
  unfold drOk
  cases c : thOk n tc nt p with
  | false =>
    rw [if_neg (by decide)]
    simp only [e_38_0, e_38_1, e_38_2, e_38_5, e_38_77, e_38_78, rf_0_0 hR, rf_0_1 hR, rf_0_2 hR, rf_0_3 hR, rf_0_4 hR, rf_0_5 hR, rf_0_6 hR, rf_1_0 hR, rf_3_0 hR, rf_3_2 hR, rf_4_3 hR, rf_4_4 hR, rf_4_5 hR, rf_4_6 hR, rf_4_7 hR, rf_4_8 hR, rf_4_9 hR, rf_12_1 hR, rf_13_3 hR, rf_13_4 hR, rf_13_5 hR, rf_13_6 hR, rf_13_7 hR, rf_13_8 hR, rf_13_9 hR, rf_21_0 hR, rf_21_1 hR, rf_24_0 hR, rf_25_0 hR, rf_26_0 hR, rf_26_1 hR, rf_26_2 hR, rf_26_3 hR, rf_26_4 hR, rf_26_5 hR, rf_26_6 hR, rf_26_7 hR, rf_27_0 hR, rf_27_1 hR, rf_30_0 hR, rf_30_1 hR, rf_33_0 hR, rf_33_1 hR, rf_36_0 hR, rf_36_1 hR, rf_39_0 hR, rf_39_1 hR, rf_42_0 hR, rf_42_1 hR, rf_45_0 hR, rf_45_1 hR, rf_48_0 hR, rf_48_1 hR, rf_51_0 hR, rf_51_1 hR, rf_51_6 hR, rf_51_7 hR, rf_h_3 hR, rf_d_3 hR, rf_h_4 hR, rf_d_4 hR, rf_h_5 hR, rf_d_5 hR, rf_h_6 hR, rf_d_6 hR, rf_h_7 hR, rf_d_7 hR, rf_h_8 hR, rf_d_8 hR, rf_h_9 hR, rf_d_9 hR, rf_12_0 hR, rf_3_1 hR, kn_0, kn_1, kn_2, kn_3, kn_4, kn_5, kn_6, kn_7, kn_8, kn_9, kn_10, kn_11, kn_12, kn_13, kn_14, kn_15, kn_16, kn_17, kn_18, kn_19, kn_20, kn_21, kn_22, kn_23, kn_24, kn_25, kn_26, kn_27, kn_28, kn_29, kn_30, kn_31, kn_32, kn_33, kn_34, kn_35, kn_36, kn_37, kn_38, kn_39, kn_40, kn_41, kn_42, kn_43, kn_44, kn_45, kn_46, kn_47, kn_48, kn_49, kn_50, kn_51, kn_52, kn_53, kn_54, kn_55, ln_2, ln_5, ln_6, ln_7, ln_8, ln_9, ln_10, ln_11, ln_14, ln_15, ln_16, ln_17, ln_18, ln_19, ln_20, ln_22, ln_23, ln_26, ln_28, ln_29, ln_31, ln_32, ln_34, ln_35, ln_37, ln_38, ln_40, ln_41, ln_43, ln_44, ln_46, ln_47, ln_49, ln_50, ln_52, kn_h hR, lt_h hR, kn_h1 hR, ln_h1 hR, lt_h1 hR, kn_h2 hR, ln_h2 hR, lt_h2 hR, kn_h3 hR, ln_h3 hR, lt_h3 hR, kn_h4 hR, ln_h4 hR, lt_h4 hR, kn_h5 hR, ln_h5 hR, lt_h5 hR, kn_h6 hR, ln_h6 hR, lt_h6 hR, kn_h7 hR, ln_h7 hR, lt_h7 hR, kn_d hR, lt_d hR, kn_d1 hR, ln_d1 hR, lt_d1 hR, kn_d2 hR, ln_d2 hR, lt_d2 hR, kn_d3 hR, ln_d3 hR, lt_d3 hR, kn_d4 hR, ln_d4 hR, lt_d4 hR, kn_d5 hR, ln_d5 hR, lt_d5 hR, kn_d6 hR, ln_d6 hR, lt_d6 hR, kn_d7 hR, ln_d7 hR, lt_d7 hR, va_rf_some, push_s, push_n, nb0, nb1, nbb, Nat.reduceLT, hit, isB_m1, show b2i false = 0 from rfl, if_true]
    rfl
  | true =>
    have hv : thV n tc p < nt := by
      unfold thOk at c
      simp only [Bool.and_eq_true, decide_eq_true_eq] at c
      exact c.2
    have hxd : ∀ q I, hx I q d = I d := fun q I => hx_x (by omega)
    have hxd5 : ∀ q I, hx I q (d + 5) = I (d + 5) := fun q I => hx_x (by omega)
    obtain ⟨m1, m2⟩ := hD.2.2.2.2.2.2.2 _ hv
    have e5 := hD.2.2.2.1.2.2.1 _ (by omega) hv
    have hp : pp (thV n tc p) < 30 := by omega
    have hcv : (nI (cv (pp (thV n tc p))) = nI a) = (pp (thV n tc p) = a) := by
      apply propext
      rw [nI_eq (by unfold cv; split <;> (try split) <;> omega) (by omega)]
      unfold cv
      constructor
      · split
        · intro e; exact e
        · split <;> intro e <;> omega
      · intro e
        rw [if_pos (by omega)]
        exact e
    have hm : (M 72 (thV n tc p) = nI a) = (pp (thV n tc p) = a) := by
      rw [m1]
      exact propext (nI_eq (by omega) (by omega))
    obtain ⟨g1, g2, g3, g4, g5, g6⟩ := hD.2.2.2.2.2.1
    have b1 : bt (I d 10) (thV n tc p) = !decide (M 74 (thV n tc p) &&& 1 = 0) := by rw [g1 _ (by omega), decide_eq_true hv]; rfl
    have b2 : bt (I d 11) (thV n tc p) = !decide (M 74 (thV n tc p) &&& 2 = 0) := by rw [g2 _ (by omega), decide_eq_true hv]; rfl
    have b3 : bt (I d 12) (thV n tc p) = !decide (M 74 (thV n tc p) &&& 4 = 0) := by rw [g3 _ (by omega), decide_eq_true hv]; rfl
    have b4 : bt (I d 13) (thV n tc p) = !decide (M 74 (thV n tc p) &&& 8 = 0) := by rw [g4 _ (by omega), decide_eq_true hv]; rfl
    have b5 := hD.2.2.2.2.2.2.1 (thV n tc p) (by omega)
    have hix := inb_nI (j := thV n tc p) (n := 16) (by omega) (by decide)
    have hcl := nI_cl (n := thV n tc p) (by omega)
    rw [if_pos rfl]
    simp only [e_38_0, e_38_1, e_38_2, e_38_5, e_38_8, e_38_9, e_38_12, e_38_15, e_38_16, e_38_17, e_38_18, e_38_21, e_38_22, e_38_25, e_38_28, e_38_29, e_38_32, e_38_35, e_38_36, e_38_37, e_38_40, e_38_43, e_38_44, e_38_47, e_38_50, e_38_51, e_38_54, e_38_57, e_38_58, e_38_59, e_38_62, e_38_65, e_38_66, e_38_67, e_38_70, e_38_73, e_38_74, e_38_77, e_38_78, rf_0_0 hR, rf_0_1 hR, rf_0_2 hR, rf_0_3 hR, rf_0_4 hR, rf_0_5 hR, rf_0_6 hR, rf_1_0 hR, rf_3_0 hR, rf_3_2 hR, rf_4_3 hR, rf_4_4 hR, rf_4_5 hR, rf_4_6 hR, rf_4_7 hR, rf_4_8 hR, rf_4_9 hR, rf_12_1 hR, rf_13_3 hR, rf_13_4 hR, rf_13_5 hR, rf_13_6 hR, rf_13_7 hR, rf_13_8 hR, rf_13_9 hR, rf_21_0 hR, rf_21_1 hR, rf_24_0 hR, rf_25_0 hR, rf_26_0 hR, rf_26_1 hR, rf_26_2 hR, rf_26_3 hR, rf_26_4 hR, rf_26_5 hR, rf_26_6 hR, rf_26_7 hR, rf_27_0 hR, rf_27_1 hR, rf_30_0 hR, rf_30_1 hR, rf_33_0 hR, rf_33_1 hR, rf_36_0 hR, rf_36_1 hR, rf_39_0 hR, rf_39_1 hR, rf_42_0 hR, rf_42_1 hR, rf_45_0 hR, rf_45_1 hR, rf_48_0 hR, rf_48_1 hR, rf_51_0 hR, rf_51_1 hR, rf_51_6 hR, rf_51_7 hR, rf_h_3 hR, rf_d_3 hR, rf_h_4 hR, rf_d_4 hR, rf_h_5 hR, rf_d_5 hR, rf_h_6 hR, rf_d_6 hR, rf_h_7 hR, rf_d_7 hR, rf_h_8 hR, rf_d_8 hR, rf_h_9 hR, rf_d_9 hR, rf_12_0 hR, rf_3_1 hR, kn_0, kn_1, kn_2, kn_3, kn_4, kn_5, kn_6, kn_7, kn_8, kn_9, kn_10, kn_11, kn_12, kn_13, kn_14, kn_15, kn_16, kn_17, kn_18, kn_19, kn_20, kn_21, kn_22, kn_23, kn_24, kn_25, kn_26, kn_27, kn_28, kn_29, kn_30, kn_31, kn_32, kn_33, kn_34, kn_35, kn_36, kn_37, kn_38, kn_39, kn_40, kn_41, kn_42, kn_43, kn_44, kn_45, kn_46, kn_47, kn_48, kn_49, kn_50, kn_51, kn_52, kn_53, kn_54, kn_55, ln_2, ln_5, ln_6, ln_7, ln_8, ln_9, ln_10, ln_11, ln_14, ln_15, ln_16, ln_17, ln_18, ln_19, ln_20, ln_22, ln_23, ln_26, ln_28, ln_29, ln_31, ln_32, ln_34, ln_35, ln_37, ln_38, ln_40, ln_41, ln_43, ln_44, ln_46, ln_47, ln_49, ln_50, ln_52, kn_h hR, lt_h hR, kn_h1 hR, ln_h1 hR, lt_h1 hR, kn_h2 hR, ln_h2 hR, lt_h2 hR, kn_h3 hR, ln_h3 hR, lt_h3 hR, kn_h4 hR, ln_h4 hR, lt_h4 hR, kn_h5 hR, ln_h5 hR, lt_h5 hR, kn_h6 hR, ln_h6 hR, lt_h6 hR, kn_h7 hR, ln_h7 hR, lt_h7 hR, kn_d hR, lt_d hR, kn_d1 hR, ln_d1 hR, lt_d1 hR, kn_d2 hR, ln_d2 hR, lt_d2 hR, kn_d3 hR, ln_d3 hR, lt_d3 hR, kn_d4 hR, ln_d4 hR, lt_d4 hR, kn_d5 hR, ln_d5 hR, lt_d5 hR, kn_d6 hR, ln_d6 hR, lt_d6 hR, kn_d7 hR, ln_d7 hR, lt_d7 hR, va_rf_some, push_s, push_n, nb0, nb1, nbb, Nat.reduceLT, hit, isB_nI (show thV n tc p < 2147483648 by omega) (show nt < 2147483648 by omega), decide_eq_true hv, show (b2i true = 0) = False from eq_false (by decide), if_false, hxd, hxd5, hix, hcl, e5, hcv, c_has (show thV n tc p < 32 by omega), b_and, b_or, b1, b2, b3, b4, b5, b2i_0, hm]
    by_cases k1 : pp (thV n tc p) = a
    · rw [if_pos k1, decide_eq_true k1]
      by_cases k2 : M 74 (thV n tc p) &&& 15 = 12
      · obtain ⟨q1, q2, q3, q4⟩ := and_15.mp k2
        rw [decide_eq_true k2, decide_eq_true q1, decide_eq_true q2, decide_eq_false q3, decide_eq_false q4]
        cases bt (M 56 28) (thV n tc p) <;> rfl
      · rw [decide_eq_false k2]
        by_cases q3 : M 74 (thV n tc p) &&& 4 = 0
        · rw [decide_eq_true q3]
          simp [b2i]
        · by_cases q4 : M 74 (thV n tc p) &&& 8 = 0
          · rw [decide_eq_true q4]
            simp [b2i]
          · by_cases q1 : M 74 (thV n tc p) &&& 1 = 0
            · by_cases q2 : M 74 (thV n tc p) &&& 2 = 0
              · exact absurd (and_15.mpr ⟨q1, q2, q3, q4⟩) k2
              · simp [q2, b2i]
            · simp [q1, b2i]
    · rw [if_neg k1, decide_eq_false k1]
      simp [b2i]
/-- the first letters -/
theorem c_rw1 (hR : tRef h d R) (hT : TXc I n tc) (hp : p < 800) (h0 : I d 0 = nI nr) (hn : nr ≤ 6) (k1 : rmOk n tc nr p = true) (k2 : rmOk n tc nr (p + 1) = true) (k3 : ¬ dv n tc p = dv n tc (p + 1)) (k4 : wdOk (cc n tc (p + 2)) = true) : tEv E 39 0 [.ref 3, tm_dum, tm_dum, tm_dum, tm_dum, tm_dum, tm_dum] [] (mS (hx I p) J R) Q = tEv E 39 58 [.ref 3, .int (nI (dv n tc p)), .int (nI (dv n tc (p + 1))), .int (nI (wdN (cc n tc (p + 2)))), tm_dum, tm_dum, tm_dum] [] (mS (hx I (p + 3)) J R) Q := by
  have dd := dd_of hR
  have p1 := fun {Q} => c_pop3 (E := E) (Q := Q) (J := J) hR hT (show p < 1000 by omega)
  have p2 := fun {Q} => c_pop3 (E := E) (Q := Q) (J := J) hR hT (show p + 1 < 1000 by omega)
  have p3 := fun {Q} => c_pop3 (E := E) (Q := Q) (J := J) hR hT (show p + 2 < 1000 by omega)
  have hs := fun {Q} {M} => c_side (E := E) (Q := Q) (M := M) (cc_c (p := p + 2) hT)
  have hir := fun {Q} {x} => c_isRoom3 (E := E) (Q := Q) (I := hx I (p + 3)) (J := J) (nr := nr) (x := x) hR (by rw [hx_x (by omega)]; exact h0)
  have v1 := rm_val k1
  have v2 := rm_val k2
  have hw := wdN_lt (cc n tc (p + 2))
  have i1 := rm_num (p := p) hT hn
  have i2 := rm_num (p := p + 1) hT hn
  rw [v1.1, k1] at i1
  rw [v2.1, k2] at i2
  have e3 : (nI (dv n tc p) = nI (dv n tc (p + 1))) = False := eq_false (fun e => k3 ((nI_eq (by omega) (by omega)).mp e))
  have l0 : (nI (wdN (cc n tc (p + 2))) < 0) = False := eq_false (nI_pos (by omega))
  have l4 : (nI (wdN (cc n tc (p + 2))) < 4) = True := eq_true (nI_lt (b := 4) hw (by omega))
  simp only [e_39_0, e_39_1, e_39_4, e_39_6, e_39_7, e_39_8, e_39_9, e_39_12, e_39_14, e_39_15, e_39_16, e_39_18, e_39_19, e_39_22, e_39_25, e_39_26, e_39_27, e_39_28, e_39_31, e_39_34, e_39_35, e_39_36, e_39_39, e_39_42, e_39_43, e_39_44, e_39_47, e_39_48, e_39_51, e_39_52, e_39_53, rf_0_0 hR, rf_0_1 hR, rf_0_2 hR, rf_0_3 hR, rf_0_4 hR, rf_0_5 hR, rf_0_6 hR, rf_1_0 hR, rf_3_0 hR, rf_3_2 hR, rf_4_3 hR, rf_4_4 hR, rf_4_5 hR, rf_4_6 hR, rf_4_7 hR, rf_4_8 hR, rf_4_9 hR, rf_12_1 hR, rf_13_3 hR, rf_13_4 hR, rf_13_5 hR, rf_13_6 hR, rf_13_7 hR, rf_13_8 hR, rf_13_9 hR, rf_21_0 hR, rf_21_1 hR, rf_24_0 hR, rf_25_0 hR, rf_26_0 hR, rf_26_1 hR, rf_26_2 hR, rf_26_3 hR, rf_26_4 hR, rf_26_5 hR, rf_26_6 hR, rf_26_7 hR, rf_27_0 hR, rf_27_1 hR, rf_30_0 hR, rf_30_1 hR, rf_33_0 hR, rf_33_1 hR, rf_36_0 hR, rf_36_1 hR, rf_39_0 hR, rf_39_1 hR, rf_42_0 hR, rf_42_1 hR, rf_45_0 hR, rf_45_1 hR, rf_48_0 hR, rf_48_1 hR, rf_51_0 hR, rf_51_1 hR, rf_51_6 hR, rf_51_7 hR, rf_h_3 hR, rf_d_3 hR, rf_h_4 hR, rf_d_4 hR, rf_h_5 hR, rf_d_5 hR, rf_h_6 hR, rf_d_6 hR, rf_h_7 hR, rf_d_7 hR, rf_h_8 hR, rf_d_8 hR, rf_h_9 hR, rf_d_9 hR, rf_12_0 hR, rf_3_1 hR, kn_0, kn_1, kn_2, kn_3, kn_4, kn_5, kn_6, kn_7, kn_8, kn_9, kn_10, kn_11, kn_12, kn_13, kn_14, kn_15, kn_16, kn_17, kn_18, kn_19, kn_20, kn_21, kn_22, kn_23, kn_24, kn_25, kn_26, kn_27, kn_28, kn_29, kn_30, kn_31, kn_32, kn_33, kn_34, kn_35, kn_36, kn_37, kn_38, kn_39, kn_40, kn_41, kn_42, kn_43, kn_44, kn_45, kn_46, kn_47, kn_48, kn_49, kn_50, kn_51, kn_52, kn_53, kn_54, kn_55, ln_2, ln_5, ln_6, ln_7, ln_8, ln_9, ln_10, ln_11, ln_14, ln_15, ln_16, ln_17, ln_18, ln_19, ln_20, ln_22, ln_23, ln_26, ln_28, ln_29, ln_31, ln_32, ln_34, ln_35, ln_37, ln_38, ln_40, ln_41, ln_43, ln_44, ln_46, ln_47, ln_49, ln_50, ln_52, kn_h hR, lt_h hR, kn_h1 hR, ln_h1 hR, lt_h1 hR, kn_h2 hR, ln_h2 hR, lt_h2 hR, kn_h3 hR, ln_h3 hR, lt_h3 hR, kn_h4 hR, ln_h4 hR, lt_h4 hR, kn_h5 hR, ln_h5 hR, lt_h5 hR, kn_h6 hR, ln_h6 hR, lt_h6 hR, kn_h7 hR, ln_h7 hR, lt_h7 hR, kn_d hR, lt_d hR, kn_d1 hR, ln_d1 hR, lt_d1 hR, kn_d2 hR, ln_d2 hR, lt_d2 hR, kn_d3 hR, ln_d3 hR, lt_d3 hR, kn_d4 hR, ln_d4 hR, lt_d4 hR, kn_d5 hR, ln_d5 hR, lt_d5 hR, kn_d6 hR, ln_d6 hR, lt_d6 hR, kn_d7 hR, ln_d7 hR, lt_d7 hR, va_rf_some, push_s, push_n, nb0, nb1, nbb, Nat.reduceLT, p1, p2, p3, hs, v1.1, v2.1, hir, i1, i2, show (b2i true = 0) = False from eq_false (by decide), if_false, e3, show p + 1 + 1 = p + 2 from rfl, k4, if_true, l0, l4, show p + 2 + 1 = p + 3 from rfl, Nat.reduceLeDiff, Nat.reduceLT, and_self]
theorem c_rw0 (hR : tRef h d R) (hT : TXc I n tc) (hp : p < 800) (h0 : I d 0 = nI nr) (hn : nr ≤ 6) (k : (rmOk n tc nr p && rmOk n tc nr (p + 1) && !decide (dv n tc p = dv n tc (p + 1)) && wdOk (cc n tc (p + 2))) = false) : tEv E 39 0 [.ref 3, tm_dum, tm_dum, tm_dum, tm_dum, tm_dum, tm_dum] [] (mS (hx I p) J R) Q = Q (some 0) (mS (hx I (p + 3)) J R) := by
  have dd := dd_of hR
  have p1 := fun {Q} => c_pop3 (E := E) (Q := Q) (J := J) hR hT (show p < 1000 by omega)
  have p2 := fun {Q} => c_pop3 (E := E) (Q := Q) (J := J) hR hT (show p + 1 < 1000 by omega)
  have p3 := fun {Q} => c_pop3 (E := E) (Q := Q) (J := J) hR hT (show p + 2 < 1000 by omega)
  have hs := fun {Q} {M} => c_side (E := E) (Q := Q) (M := M) (cc_c (p := p + 2) hT)
  have hir := fun {Q} {x} => c_isRoom3 (E := E) (Q := Q) (I := hx I (p + 3)) (J := J) (nr := nr) (x := x) hR (by rw [hx_x (by omega)]; exact h0)
  have i1 := rm_num (p := p) hT hn
  have i2 := rm_num (p := p + 1) hT hn
  simp only [e_39_0, e_39_1, e_39_4, e_39_6, e_39_7, e_39_8, e_39_9, e_39_12, e_39_14, e_39_15, e_39_16, e_39_18, e_39_19, e_39_22, e_39_25, e_39_26, e_39_27, e_39_28, e_39_31, e_39_34, e_39_35, e_39_36, e_39_39, e_39_42, e_39_43, e_39_44, e_39_47, e_39_48, e_39_51, e_39_52, e_39_53, e_39_56, e_39_57, rf_0_0 hR, rf_0_1 hR, rf_0_2 hR, rf_0_3 hR, rf_0_4 hR, rf_0_5 hR, rf_0_6 hR, rf_1_0 hR, rf_3_0 hR, rf_3_2 hR, rf_4_3 hR, rf_4_4 hR, rf_4_5 hR, rf_4_6 hR, rf_4_7 hR, rf_4_8 hR, rf_4_9 hR, rf_12_1 hR, rf_13_3 hR, rf_13_4 hR, rf_13_5 hR, rf_13_6 hR, rf_13_7 hR, rf_13_8 hR, rf_13_9 hR, rf_21_0 hR, rf_21_1 hR, rf_24_0 hR, rf_25_0 hR, rf_26_0 hR, rf_26_1 hR, rf_26_2 hR, rf_26_3 hR, rf_26_4 hR, rf_26_5 hR, rf_26_6 hR, rf_26_7 hR, rf_27_0 hR, rf_27_1 hR, rf_30_0 hR, rf_30_1 hR, rf_33_0 hR, rf_33_1 hR, rf_36_0 hR, rf_36_1 hR, rf_39_0 hR, rf_39_1 hR, rf_42_0 hR, rf_42_1 hR, rf_45_0 hR, rf_45_1 hR, rf_48_0 hR, rf_48_1 hR, rf_51_0 hR, rf_51_1 hR, rf_51_6 hR, rf_51_7 hR, rf_h_3 hR, rf_d_3 hR, rf_h_4 hR, rf_d_4 hR, rf_h_5 hR, rf_d_5 hR, rf_h_6 hR, rf_d_6 hR, rf_h_7 hR, rf_d_7 hR, rf_h_8 hR, rf_d_8 hR, rf_h_9 hR, rf_d_9 hR, rf_12_0 hR, rf_3_1 hR, kn_0, kn_1, kn_2, kn_3, kn_4, kn_5, kn_6, kn_7, kn_8, kn_9, kn_10, kn_11, kn_12, kn_13, kn_14, kn_15, kn_16, kn_17, kn_18, kn_19, kn_20, kn_21, kn_22, kn_23, kn_24, kn_25, kn_26, kn_27, kn_28, kn_29, kn_30, kn_31, kn_32, kn_33, kn_34, kn_35, kn_36, kn_37, kn_38, kn_39, kn_40, kn_41, kn_42, kn_43, kn_44, kn_45, kn_46, kn_47, kn_48, kn_49, kn_50, kn_51, kn_52, kn_53, kn_54, kn_55, ln_2, ln_5, ln_6, ln_7, ln_8, ln_9, ln_10, ln_11, ln_14, ln_15, ln_16, ln_17, ln_18, ln_19, ln_20, ln_22, ln_23, ln_26, ln_28, ln_29, ln_31, ln_32, ln_34, ln_35, ln_37, ln_38, ln_40, ln_41, ln_43, ln_44, ln_46, ln_47, ln_49, ln_50, ln_52, kn_h hR, lt_h hR, kn_h1 hR, ln_h1 hR, lt_h1 hR, kn_h2 hR, ln_h2 hR, lt_h2 hR, kn_h3 hR, ln_h3 hR, lt_h3 hR, kn_h4 hR, ln_h4 hR, lt_h4 hR, kn_h5 hR, ln_h5 hR, lt_h5 hR, kn_h6 hR, ln_h6 hR, lt_h6 hR, kn_h7 hR, ln_h7 hR, lt_h7 hR, kn_d hR, lt_d hR, kn_d1 hR, ln_d1 hR, lt_d1 hR, kn_d2 hR, ln_d2 hR, lt_d2 hR, kn_d3 hR, ln_d3 hR, lt_d3 hR, kn_d4 hR, ln_d4 hR, lt_d4 hR, kn_d5 hR, ln_d5 hR, lt_d5 hR, kn_d6 hR, ln_d6 hR, lt_d6 hR, kn_d7 hR, ln_d7 hR, lt_d7 hR, va_rf_some, push_s, push_n, nb0, nb1, nbb, Nat.reduceLT, p1, p2, p3, hs, hir, i1, i2, b2i_0, show p + 1 + 1 = p + 2 from rfl, show p + 2 + 1 = p + 3 from rfl, Nat.reduceLeDiff, Nat.reduceLT, and_self]
  cases c1 : rmOk n tc nr p with
  | false => rw [if_pos rfl]
  | true =>
    rw [if_neg (by decide)]
    cases c2 : rmOk n tc nr (p + 1) with
    | false => rw [if_pos rfl]
    | true =>
      rw [if_neg (by decide)]
      have v1 := rm_val c1
      have v2 := rm_val c2
      rw [v1.1, v2.1]
      by_cases c3 : dv n tc p = dv n tc (p + 1)
      · rw [c3, if_pos rfl]
      · rw [if_neg (fun e => c3 ((nI_eq (by omega) (by omega)).mp e))]
        rw [c1, c2, decide_eq_false c3] at k
        have c4 : wdOk (cc n tc (p + 2)) = false := by simpa using k
        rw [c4, if_neg (show ¬ (false = true) by decide), if_pos (show ((-1 : Int32) < 0) by decide)]
end K1
