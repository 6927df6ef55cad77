/-! ===== the class: doors, what is seen, what a phrase names ===== -/
section D3
variable {E : tm_Env} {Q : Option Int32 → tm_St → Prop} {I : Nat → Nat → Int32} {J : Nat → Nat → Int64} {R : Nat → Nat → Option Nat} {h d : Nat} {nr nt y : Nat} {pl : Nat → Nat}
theorem mdr_24 {r t : Nat} (hr : r < 6) : anyb (fun k => decide (k / 4 = r) && decide (I 65 k = nI t)) 24 = mdr I r t := by
  unfold mdr
  cases c : anyb (fun x => decide (I 65 (4 * r + x) = nI t)) 4 with
  | true =>
    obtain ⟨x, hx, e⟩ := anyb_iff.mp c
    exact anyb_iff.mpr ⟨4 * r + x, by omega, by rw [Bool.and_eq_true]; exact ⟨decide_eq_true (by omega), e⟩⟩
  | false =>
    cases c2 : anyb (fun k => decide (k / 4 = r) && decide (I 65 k = nI t)) 24 with
    | false => rfl
    | true =>
      obtain ⟨k, hk, e⟩ := anyb_iff.mp c2
      rw [Bool.and_eq_true, decide_eq_true_eq] at e
      have : anyb (fun x => decide (I 65 (4 * r + x) = nI t)) 4 = true := anyb_iff.mpr ⟨k % 4, by omega, by
        rw [show 4 * r + k % 4 = k by omega]
        exact e.2⟩
      rw [c] at this
      cases this
theorem c_doorsOf_loop (hR : tRef h d R) (hC : RR I h nr nt y pl) {r : Nat} (hr : r < 6) : ∀ j i acc, i + j = 24 → (∀ t, t < 32 → bt acc t = (decide (t < nt) && anyb (fun k => decide (k / 4 = r) && decide (I 65 k = nI t)) i)) → tEv E 122 4 [.ref 12, .int (nI r), .int acc, .int (nI i)] [] (mS I J R) Q = Q (some (so (mdr I r) nt)) (mS I J R)
  | 0, i, acc, hj, ha => by
    have h16 := hC.1.2.2.2.1
    obtain rfl : i = 24 := by omega
    have hn : (nI 24 < (24 : Int32)) = False := eq_false (by decide)
    rw [e_122_4]
    simp only [e_122_0, e_122_1, e_122_2, e_122_3, e_122_5, e_122_7, e_122_10, e_122_11, e_122_12, e_122_13, e_122_14, e_122_17, e_122_18, e_122_21, e_122_24, e_122_25, e_122_26, e_122_28, e_122_31, e_122_32, e_122_33, e_122_34, e_122_37, e_122_40, e_122_41, e_122_42, e_122_43, e_122_44, e_122_45, e_122_48, e_122_51, e_122_52, hn, if_false]
    congr 2
    apply b_ext
    intro t ht
    rw [ha t ht, so_bt _ (by omega) t ht, mdr_24 hr]
  | j + 1, i, acc, hj, ha => by
    have h16 := hC.1.2.2.2.1
    have hn : (nI i < (24 : Int32)) = True := eq_true (nI_lt (b := 24) (by omega) (by omega))
    have n4 : ¬ ((4 : Int32) = 0) := by decide
    have e1 : (nI (i / 4) = nI r) = (i / 4 = r) := propext (nI_eq (by omega) (by omega))
    have hix := inb_nI (j := i) (n := 24) (by omega) (by decide)
    have hcl := nI_cl (n := i) (by omega)
    have hd := hC.2.2.1.2.1.2.1 i (by omega)
    have ih := fun acc' e => c_doorsOf_loop hR hC hr j (i + 1) acc' (by omega) e
    rw [e_122_4]
    simp only [e_122_0, e_122_1, e_122_2, e_122_3, e_122_5, e_122_7, e_122_10, e_122_11, e_122_12, e_122_13, e_122_14, e_122_17, e_122_18, e_122_21, e_122_24, e_122_25, e_122_26, e_122_28, e_122_31, e_122_32, e_122_33, e_122_34, e_122_37, e_122_40, e_122_41, e_122_42, e_122_43, e_122_44, e_122_45, e_122_48, e_122_51, e_122_52, e_122_12 n4, rf_0_0 hR, rf_0_1 hR, rf_0_2 hR, rf_0_3 hR, rf_0_4 hR, rf_0_5 hR, rf_0_6 hR, rf_1_0 hR, rf_3_0 hR, rf_3_2 hR, rf_4_3 hR, rf_4_4 hR, rf_4_5 hR, rf_4_6 hR, rf_4_7 hR, rf_4_8 hR, rf_4_9 hR, rf_12_1 hR, rf_13_3 hR, rf_13_4 hR, rf_13_5 hR, rf_13_6 hR, rf_13_7 hR, rf_13_8 hR, rf_13_9 hR, rf_21_0 hR, rf_21_1 hR, rf_24_0 hR, rf_25_0 hR, rf_26_0 hR, rf_26_1 hR, rf_26_2 hR, rf_26_3 hR, rf_26_4 hR, rf_26_5 hR, rf_26_6 hR, rf_26_7 hR, rf_27_0 hR, rf_27_1 hR, rf_30_0 hR, rf_30_1 hR, rf_33_0 hR, rf_33_1 hR, rf_36_0 hR, rf_36_1 hR, rf_39_0 hR, rf_39_1 hR, rf_42_0 hR, rf_42_1 hR, rf_45_0 hR, rf_45_1 hR, rf_48_0 hR, rf_48_1 hR, rf_51_0 hR, rf_51_1 hR, rf_51_6 hR, rf_51_7 hR, rf_h_3 hR, rf_d_3 hR, rf_h_4 hR, rf_d_4 hR, rf_h_5 hR, rf_d_5 hR, rf_h_6 hR, rf_d_6 hR, rf_h_7 hR, rf_d_7 hR, rf_h_8 hR, rf_d_8 hR, rf_h_9 hR, rf_d_9 hR, rf_12_0 hR, rf_3_1 hR, kn_0, kn_1, kn_2, kn_3, kn_4, kn_5, kn_6, kn_7, kn_8, kn_9, kn_10, kn_11, kn_12, kn_13, kn_14, kn_15, kn_16, kn_17, kn_18, kn_19, kn_20, kn_21, kn_22, kn_23, kn_24, kn_25, kn_26, kn_27, kn_28, kn_29, kn_30, kn_31, kn_32, kn_33, kn_34, kn_35, kn_36, kn_37, kn_38, kn_39, kn_40, kn_41, kn_42, kn_43, kn_44, kn_45, kn_46, kn_47, kn_48, kn_49, kn_50, kn_51, kn_52, kn_53, kn_54, kn_55, ln_2, ln_5, ln_6, ln_7, ln_8, ln_9, ln_10, ln_11, ln_14, ln_15, ln_16, ln_17, ln_18, ln_19, ln_20, ln_22, ln_23, ln_26, ln_28, ln_29, ln_31, ln_32, ln_34, ln_35, ln_37, ln_38, ln_40, ln_41, ln_43, ln_44, ln_46, ln_47, ln_49, ln_50, ln_52, kn_h hR, lt_h hR, kn_h1 hR, ln_h1 hR, lt_h1 hR, kn_h2 hR, ln_h2 hR, lt_h2 hR, kn_h3 hR, ln_h3 hR, lt_h3 hR, kn_h4 hR, ln_h4 hR, lt_h4 hR, kn_h5 hR, ln_h5 hR, lt_h5 hR, kn_h6 hR, ln_h6 hR, lt_h6 hR, kn_h7 hR, ln_h7 hR, lt_h7 hR, kn_d hR, lt_d hR, kn_d1 hR, ln_d1 hR, lt_d1 hR, kn_d2 hR, ln_d2 hR, lt_d2 hR, kn_d3 hR, ln_d3 hR, lt_d3 hR, kn_d4 hR, ln_d4 hR, lt_d4 hR, kn_d5 hR, ln_d5 hR, lt_d5 hR, kn_d6 hR, ln_d6 hR, lt_d6 hR, kn_d7 hR, ln_d7 hR, lt_d7 hR, va_rf_some, push_s, push_n, nb0, nb1, nbb, Nat.reduceLT, hn, if_true, div4 i (by omega), e1, hix, hcl, hd, nI_1]
    by_cases c : i / 4 = r
    · rw [if_pos c]
      rcases hC.2.1.2.2.2 i (by omega) with q | ⟨k, hk, q⟩
      · rw [if_pos q]
        refine ih _ (fun t ht => ?_)
        rw [ha t ht, anyb, q, show decide ((-4 : Int32) = nI t) = false from decide_eq_false (fun e => nI_n4 (show t < 2147483648 by omega) e.symm), Bool.and_false, Bool.or_false]
      · rw [q, if_neg (nI_n4 (by omega))]
        refine ih _ (fun t ht => ?_)
        rw [b_or, ha t ht, b_one (show k < 32 by omega) ht, anyb, q, decide_eq_true c, Bool.true_and]
        have : decide (nI k = nI t) = decide (t = k) := by
          rw [decide_eq_decide, nI_eq (by omega) (by omega)]
          exact eq_comm
        rw [this]
        by_cases e : t = k
        · subst e
          simp [hk]
        · simp [e]
    · rw [if_neg c]
      refine ih _ (fun t ht => ?_)
      rw [ha t ht, anyb, decide_eq_false c, Bool.false_and, Bool.or_false]
theorem c_doorsOf (hR : tRef h d R) (hC : RR I h nr nt y pl) {r : Nat} (hr : r < 6) : tEv E 122 0 [.ref 12, .int (nI r), tm_dum, tm_dum] [] (mS I J R) Q = Q (some (so (mdr I r) nt)) (mS I J R) := by
  simp only [e_122_0, e_122_1, e_122_2, e_122_3]
  exact c_doorsOf_loop hR hC hr 24 0 0 (by omega) (fun t _ => by rw [b_0, anyb, Bool.and_false])
theorem c_seen (hR : tRef h d R) (hC : RR I h nr nt y pl) : tEv E 124 0 [.ref 12] [] (mS I J R) Q = Q (some (msee I pl nt y)) (mS I J R) := by
  have hW := RR_W hC
  have h6 := hW.2.2.1
  have h16 := hW.2.2.2.1
  have hyr := hC.2.1.2.1
  simp only [e_124_0, e_124_1, e_124_2, e_124_5, e_124_8, e_124_11, e_124_14, e_124_15, e_124_16, e_124_19, e_124_22, e_124_25, e_124_26, e_124_27, e_124_30, e_124_33, e_124_36, e_124_37, e_124_40, e_124_41, e_124_44, rf_0_0 hR, rf_0_1 hR, rf_0_2 hR, rf_0_3 hR, rf_0_4 hR, rf_0_5 hR, rf_0_6 hR, rf_1_0 hR, rf_3_0 hR, rf_3_2 hR, rf_4_3 hR, rf_4_4 hR, rf_4_5 hR, rf_4_6 hR, rf_4_7 hR, rf_4_8 hR, rf_4_9 hR, rf_12_1 hR, rf_13_3 hR, rf_13_4 hR, rf_13_5 hR, rf_13_6 hR, rf_13_7 hR, rf_13_8 hR, rf_13_9 hR, rf_21_0 hR, rf_21_1 hR, rf_24_0 hR, rf_25_0 hR, rf_26_0 hR, rf_26_1 hR, rf_26_2 hR, rf_26_3 hR, rf_26_4 hR, rf_26_5 hR, rf_26_6 hR, rf_26_7 hR, rf_27_0 hR, rf_27_1 hR, rf_30_0 hR, rf_30_1 hR, rf_33_0 hR, rf_33_1 hR, rf_36_0 hR, rf_36_1 hR, rf_39_0 hR, rf_39_1 hR, rf_42_0 hR, rf_42_1 hR, rf_45_0 hR, rf_45_1 hR, rf_48_0 hR, rf_48_1 hR, rf_51_0 hR, rf_51_1 hR, rf_51_6 hR, rf_51_7 hR, rf_h_3 hR, rf_d_3 hR, rf_h_4 hR, rf_d_4 hR, rf_h_5 hR, rf_d_5 hR, rf_h_6 hR, rf_d_6 hR, rf_h_7 hR, rf_d_7 hR, rf_h_8 hR, rf_d_8 hR, rf_h_9 hR, rf_d_9 hR, rf_12_0 hR, rf_3_1 hR, kn_0, kn_1, kn_2, kn_3, kn_4, kn_5, kn_6, kn_7, kn_8, kn_9, kn_10, kn_11, kn_12, kn_13, kn_14, kn_15, kn_16, kn_17, kn_18, kn_19, kn_20, kn_21, kn_22, kn_23, kn_24, kn_25, kn_26, kn_27, kn_28, kn_29, kn_30, kn_31, kn_32, kn_33, kn_34, kn_35, kn_36, kn_37, kn_38, kn_39, kn_40, kn_41, kn_42, kn_43, kn_44, kn_45, kn_46, kn_47, kn_48, kn_49, kn_50, kn_51, kn_52, kn_53, kn_54, kn_55, ln_2, ln_5, ln_6, ln_7, ln_8, ln_9, ln_10, ln_11, ln_14, ln_15, ln_16, ln_17, ln_18, ln_19, ln_20, ln_22, ln_23, ln_26, ln_28, ln_29, ln_31, ln_32, ln_34, ln_35, ln_37, ln_38, ln_40, ln_41, ln_43, ln_44, ln_46, ln_47, ln_49, ln_50, ln_52, kn_h hR, lt_h hR, kn_h1 hR, ln_h1 hR, lt_h1 hR, kn_h2 hR, ln_h2 hR, lt_h2 hR, kn_h3 hR, ln_h3 hR, lt_h3 hR, kn_h4 hR, ln_h4 hR, lt_h4 hR, kn_h5 hR, ln_h5 hR, lt_h5 hR, kn_h6 hR, ln_h6 hR, lt_h6 hR, kn_h7 hR, ln_h7 hR, lt_h7 hR, kn_d hR, lt_d hR, kn_d1 hR, ln_d1 hR, lt_d1 hR, kn_d2 hR, ln_d2 hR, lt_d2 hR, kn_d3 hR, ln_d3 hR, lt_d3 hR, kn_d4 hR, ln_d4 hR, lt_d4 hR, kn_d5 hR, ln_d5 hR, lt_d5 hR, kn_d6 hR, ln_d6 hR, lt_d6 hR, kn_d7 hR, ln_d7 hR, lt_d7 hR, va_rf_some, push_s, push_n, nb0, nb1, nbb, Nat.reduceLT, RR_you hC, c_isLit hR hC hyr, b2i_0, c_outIn hR hC (show y < 6 by omega), c_doorsOf hR hC (show y < 6 by omega), c_held hR hW (RR_P hC)]
  unfold msee
  cases hl : mlit I pl nt y y with
  | true =>
    rw [if_neg (by decide)]
    congr 2
    apply b_ext
    intro i hi
    rw [b_or, so_bt _ (by omega) i hi, so_bt _ (by omega) i hi, so_bt _ (by omega) i hi, mseen, hl, if_pos rfl]
    cases decide (i < nt) <;> rfl
  | false =>
    rw [if_pos rfl]
    congr 2
    exact so_cong (fun t _ => by rw [mseen, hl]; rfl)
theorem c_isPassable (hR : tRef h d R) (hC : RR I h nr nt y pl) {k : Nat} (hk : k < 24) : tEv E 133 0 [.ref 12, .int (nI k), tm_dum] [] (mS I J R) Q = Q (some (b2i (decide (I 65 k = -4) || !mcl I (I 65 k).toNatClampNeg))) (mS I J R) := by
  have hW := RR_W hC
  have h16 := hW.2.2.2.1
  have hix := inb_nI (j := k) (n := 24) (by omega) (by decide)
  have hcl := nI_cl (n := k) (by omega)
  have h0 : (nI k < 0) = False := eq_false (nI_pos (by omega))
  have h24 : (nI k < 24) = True := eq_true (nI_lt (b := 24) (by omega) (by omega))
  have hd := hC.2.2.1.2.1.2.1 k hk
  simp only [e_133_0, e_133_1, e_133_4, e_133_5, e_133_7, e_133_10, e_133_11, e_133_14, e_133_17, e_133_18, e_133_19, e_133_22, e_133_24, e_133_25, e_133_26, e_133_28, e_133_31, e_133_32, e_133_35, e_133_38, e_133_39, e_133_42, e_133_45, e_133_46, e_133_49, e_133_50, rf_0_0 hR, rf_0_1 hR, rf_0_2 hR, rf_0_3 hR, rf_0_4 hR, rf_0_5 hR, rf_0_6 hR, rf_1_0 hR, rf_3_0 hR, rf_3_2 hR, rf_4_3 hR, rf_4_4 hR, rf_4_5 hR, rf_4_6 hR, rf_4_7 hR, rf_4_8 hR, rf_4_9 hR, rf_12_1 hR, rf_13_3 hR, rf_13_4 hR, rf_13_5 hR, rf_13_6 hR, rf_13_7 hR, rf_13_8 hR, rf_13_9 hR, rf_21_0 hR, rf_21_1 hR, rf_24_0 hR, rf_25_0 hR, rf_26_0 hR, rf_26_1 hR, rf_26_2 hR, rf_26_3 hR, rf_26_4 hR, rf_26_5 hR, rf_26_6 hR, rf_26_7 hR, rf_27_0 hR, rf_27_1 hR, rf_30_0 hR, rf_30_1 hR, rf_33_0 hR, rf_33_1 hR, rf_36_0 hR, rf_36_1 hR, rf_39_0 hR, rf_39_1 hR, rf_42_0 hR, rf_42_1 hR, rf_45_0 hR, rf_45_1 hR, rf_48_0 hR, rf_48_1 hR, rf_51_0 hR, rf_51_1 hR, rf_51_6 hR, rf_51_7 hR, rf_h_3 hR, rf_d_3 hR, rf_h_4 hR, rf_d_4 hR, rf_h_5 hR, rf_d_5 hR, rf_h_6 hR, rf_d_6 hR, rf_h_7 hR, rf_d_7 hR, rf_h_8 hR, rf_d_8 hR, rf_h_9 hR, rf_d_9 hR, rf_12_0 hR, rf_3_1 hR, kn_0, kn_1, kn_2, kn_3, kn_4, kn_5, kn_6, kn_7, kn_8, kn_9, kn_10, kn_11, kn_12, kn_13, kn_14, kn_15, kn_16, kn_17, kn_18, kn_19, kn_20, kn_21, kn_22, kn_23, kn_24, kn_25, kn_26, kn_27, kn_28, kn_29, kn_30, kn_31, kn_32, kn_33, kn_34, kn_35, kn_36, kn_37, kn_38, kn_39, kn_40, kn_41, kn_42, kn_43, kn_44, kn_45, kn_46, kn_47, kn_48, kn_49, kn_50, kn_51, kn_52, kn_53, kn_54, kn_55, ln_2, ln_5, ln_6, ln_7, ln_8, ln_9, ln_10, ln_11, ln_14, ln_15, ln_16, ln_17, ln_18, ln_19, ln_20, ln_22, ln_23, ln_26, ln_28, ln_29, ln_31, ln_32, ln_34, ln_35, ln_37, ln_38, ln_40, ln_41, ln_43, ln_44, ln_46, ln_47, ln_49, ln_50, ln_52, kn_h hR, lt_h hR, kn_h1 hR, ln_h1 hR, lt_h1 hR, kn_h2 hR, ln_h2 hR, lt_h2 hR, kn_h3 hR, ln_h3 hR, lt_h3 hR, kn_h4 hR, ln_h4 hR, lt_h4 hR, kn_h5 hR, ln_h5 hR, lt_h5 hR, kn_h6 hR, ln_h6 hR, lt_h6 hR, kn_h7 hR, ln_h7 hR, lt_h7 hR, kn_d hR, lt_d hR, kn_d1 hR, ln_d1 hR, lt_d1 hR, kn_d2 hR, ln_d2 hR, lt_d2 hR, kn_d3 hR, ln_d3 hR, lt_d3 hR, kn_d4 hR, ln_d4 hR, lt_d4 hR, kn_d5 hR, ln_d5 hR, lt_d5 hR, kn_d6 hR, ln_d6 hR, lt_d6 hR, kn_d7 hR, ln_d7 hR, lt_d7 hR, va_rf_some, push_s, push_n, nb0, nb1, nbb, Nat.reduceLT, h0, h24, if_true, if_false, hix, hcl, hd]
  rcases hC.2.1.2.2.2 k hk with q | ⟨t, ht, q⟩
  · rw [if_pos q, decide_eq_true q]
    rfl
  · have hclt := nI_cl (n := t) (by omega)
    have ho := hC.2.2.2.1.1.2.1 t (by omega)
    have hop := hC.2.2.2.2 k t hk ht q
    rw [q, if_neg (nI_n4 (by omega)), decide_eq_false (nI_n4 (by omega)), hclt]
    simp only [e_133_0, e_133_1, e_133_4, e_133_5, e_133_7, e_133_10, e_133_11, e_133_14, e_133_17, e_133_18, e_133_19, e_133_22, e_133_24, e_133_25, e_133_26, e_133_28, e_133_31, e_133_32, e_133_35, e_133_38, e_133_39, e_133_42, e_133_45, e_133_46, e_133_49, e_133_50, va_rf_some, push_s, push_n, nb0, nb1, nbb, Nat.reduceLT, c_has (show t < 32 by omega), ho, decide_eq_true ht, Bool.true_and, b2i_0]
    unfold mcl mst mtr at *
    by_cases c1 : I 62 t &&& 4 = 0
    · rw [decide_eq_true c1] at hop
      cases hop
    · by_cases c2 : I 57 (16 + t) &&& 1 = 0 <;> simp [c1, c2, b2i]
end D3
