/-! ===== class and model: how they agree ===== -/
def cHs (I : Nat → Nat → Int32) (h nr nt : Nat) : Prop :=
  (I h 0 = nI nr ∧ I h 1 = nI nt ∧ ∀ r, r < nr → bt (I h 2) r = decide (I 58 r = 1)) ∧
  ((∀ k, k < 24 → I (h + 1) k = I 64 k) ∧ (∀ k, k < 24 → I (h + 2) k = I 65 k) ∧ (∀ t, t < 16 → I (h + 3) t = if t < nt then I 59 t else -4) ∧ (∀ t, t < 16 → I (h + 4) t = if t < nt then I 60 t else -4) ∧ cWt I h nt ∧ ∀ t, t < nt → I (h + 7) t = I 63 t) ∧
  (cB I h 10 nt (fun t => mtr I t 1) ∧ cB I h 11 nt (fun t => mtr I t 2) ∧ cB I h 12 nt (fun t => mtr I t 4) ∧ cB I h 13 nt (fun t => mtr I t 8) ∧ cB I h 14 nt (fun t => mtr I t 16) ∧ cB I h 15 nt (fun t => mtr I t 32))
def cSt (I : Nat → Nat → Int32) (nt : Nat) (pl : Nat → Nat) : Prop :=
  (cP I nt pl ∧ cB I 21 2 nt (fun t => mst I t 1) ∧ cB I 21 3 nt (fun t => mst I t 2) ∧ cB I 21 4 nt (fun t => mst I t 4)) ∧
  (I 21 5 = I 57 48 ∧ I 21 6 = I 57 49 ∧ I 21 7 = I 57 50 ∧ I 21 8 = I 57 51 ∧ ∀ t, t < nt → mtr I t 16 = true → I 23 t = I 57 (32 + t))
/-- doors can be opened -/
def mD (I : Nat → Nat → Int32) (nt : Nat) : Prop := ∀ k t, k < 24 → t < nt → I 65 k = nI t → mtr I t 4 = true
def RR (I : Nat → Nat → Int32) (h nr nt y : Nat) (pl : Nat → Nat) : Prop := mW I nr nt pl ∧ mY I nr nt y ∧ cHs I h nr nt ∧ cSt I nt pl ∧ mD I nt
section D2
variable {E : tm_Env} {Q : Option Int32 → tm_St → Prop} {I : Nat → Nat → Int32} {J : Nat → Nat → Int64} {R : Nat → Nat → Option Nat} {h d : Nat} {nr nt y : Nat} {pl : Nat → Nat}
theorem RR_W (hC : RR I h nr nt y pl) : mW I nr nt pl := hC.1
theorem RR_Y (hC : RR I h nr nt y pl) : mY I nr nt y := hC.2.1
theorem RR_P (hC : RR I h nr nt y pl) : cP I nt pl := hC.2.2.2.1.1.1
theorem RR_you (hC : RR I h nr nt y pl) : I 21 5 = nI y := hC.2.2.2.1.2.1.trans hC.2.1.1
theorem RR_out {r : Nat} (hC : RR I h nr nt y pl) : so (outb pl (fun t => mshut I t) y r) nt = so (outb pl (mshut I) y r) nt := rfl
theorem c_hasThing (hR : tRef h d R) (hC : RR I h nr nt y pl) {x : Int32} : tEv E 90 0 [.ref 12, .int x] [] (mS I J R) Q = Q (some (b2i (isB x nt))) (mS I J R) := by
  have h1 := hC.2.2.1.1.2.1
  simp only [e_90_0, e_90_1, e_90_4, e_90_5, e_90_6, e_90_9, e_90_12, e_90_15, e_90_16, e_90_19, e_90_20, rf_0_0 hR, rf_0_1 hR, rf_0_2 hR, rf_0_3 hR, rf_0_4 hR, rf_0_5 hR, rf_0_6 hR, rf_1_0 hR, rf_3_0 hR, rf_3_2 hR, rf_4_3 hR, rf_4_4 hR, rf_4_5 hR, rf_4_6 hR, rf_4_7 hR, rf_4_8 hR, rf_4_9 hR, rf_12_1 hR, rf_13_3 hR, rf_13_4 hR, rf_13_5 hR, rf_13_6 hR, rf_13_7 hR, rf_13_8 hR, rf_13_9 hR, rf_21_0 hR, rf_21_1 hR, rf_24_0 hR, rf_25_0 hR, rf_26_0 hR, rf_26_1 hR, rf_26_2 hR, rf_26_3 hR, rf_26_4 hR, rf_26_5 hR, rf_26_6 hR, rf_26_7 hR, rf_27_0 hR, rf_27_1 hR, rf_30_0 hR, rf_30_1 hR, rf_33_0 hR, rf_33_1 hR, rf_36_0 hR, rf_36_1 hR, rf_39_0 hR, rf_39_1 hR, rf_42_0 hR, rf_42_1 hR, rf_45_0 hR, rf_45_1 hR, rf_48_0 hR, rf_48_1 hR, rf_51_0 hR, rf_51_1 hR, rf_51_6 hR, rf_51_7 hR, rf_h_3 hR, rf_d_3 hR, rf_h_4 hR, rf_d_4 hR, rf_h_5 hR, rf_d_5 hR, rf_h_6 hR, rf_d_6 hR, rf_h_7 hR, rf_d_7 hR, rf_h_8 hR, rf_d_8 hR, rf_h_9 hR, rf_d_9 hR, rf_12_0 hR, rf_3_1 hR, kn_0, kn_1, kn_2, kn_3, kn_4, kn_5, kn_6, kn_7, kn_8, kn_9, kn_10, kn_11, kn_12, kn_13, kn_14, kn_15, kn_16, kn_17, kn_18, kn_19, kn_20, kn_21, kn_22, kn_23, kn_24, kn_25, kn_26, kn_27, kn_28, kn_29, kn_30, kn_31, kn_32, kn_33, kn_34, kn_35, kn_36, kn_37, kn_38, kn_39, kn_40, kn_41, kn_42, kn_43, kn_44, kn_45, kn_46, kn_47, kn_48, kn_49, kn_50, kn_51, kn_52, kn_53, kn_54, kn_55, ln_2, ln_5, ln_6, ln_7, ln_8, ln_9, ln_10, ln_11, ln_14, ln_15, ln_16, ln_17, ln_18, ln_19, ln_20, ln_22, ln_23, ln_26, ln_28, ln_29, ln_31, ln_32, ln_34, ln_35, ln_37, ln_38, ln_40, ln_41, ln_43, ln_44, ln_46, ln_47, ln_49, ln_50, ln_52, kn_h hR, lt_h hR, kn_h1 hR, ln_h1 hR, lt_h1 hR, kn_h2 hR, ln_h2 hR, lt_h2 hR, kn_h3 hR, ln_h3 hR, lt_h3 hR, kn_h4 hR, ln_h4 hR, lt_h4 hR, kn_h5 hR, ln_h5 hR, lt_h5 hR, kn_h6 hR, ln_h6 hR, lt_h6 hR, kn_h7 hR, ln_h7 hR, lt_h7 hR, kn_d hR, lt_d hR, kn_d1 hR, ln_d1 hR, lt_d1 hR, kn_d2 hR, ln_d2 hR, lt_d2 hR, kn_d3 hR, ln_d3 hR, lt_d3 hR, kn_d4 hR, ln_d4 hR, lt_d4 hR, kn_d5 hR, ln_d5 hR, lt_d5 hR, kn_d6 hR, ln_d6 hR, lt_d6 hR, kn_d7 hR, ln_d7 hR, lt_d7 hR, va_rf_some, push_s, push_n, nb0, nb1, nbb, Nat.reduceLT, h1]
  unfold isB
  by_cases c1 : x < 0
  · rw [if_pos c1, decide_eq_false (fun e => Int32.not_lt.mpr e.1 c1)]
    rfl
  · rw [if_neg c1]
    by_cases c2 : x < nI nt
    · rw [if_pos c2, decide_eq_true ⟨Int32.not_lt.mp c1, c2⟩]
      rfl
    · rw [if_neg c2, decide_eq_false (fun e => c2 e.2)]
      rfl
theorem c_hasRoom (hR : tRef h d R) (hC : RR I h nr nt y pl) {x : Int32} : tEv E 130 0 [.ref 12, .int x] [] (mS I J R) Q = Q (some (b2i (isB x nr))) (mS I J R) := by
  have h1 := hC.2.2.1.1.1
  simp only [e_130_0, e_130_1, e_130_4, e_130_5, e_130_6, e_130_9, e_130_12, e_130_15, e_130_16, e_130_19, e_130_20, rf_0_0 hR, rf_0_1 hR, rf_0_2 hR, rf_0_3 hR, rf_0_4 hR, rf_0_5 hR, rf_0_6 hR, rf_1_0 hR, rf_3_0 hR, rf_3_2 hR, rf_4_3 hR, rf_4_4 hR, rf_4_5 hR, rf_4_6 hR, rf_4_7 hR, rf_4_8 hR, rf_4_9 hR, rf_12_1 hR, rf_13_3 hR, rf_13_4 hR, rf_13_5 hR, rf_13_6 hR, rf_13_7 hR, rf_13_8 hR, rf_13_9 hR, rf_21_0 hR, rf_21_1 hR, rf_24_0 hR, rf_25_0 hR, rf_26_0 hR, rf_26_1 hR, rf_26_2 hR, rf_26_3 hR, rf_26_4 hR, rf_26_5 hR, rf_26_6 hR, rf_26_7 hR, rf_27_0 hR, rf_27_1 hR, rf_30_0 hR, rf_30_1 hR, rf_33_0 hR, rf_33_1 hR, rf_36_0 hR, rf_36_1 hR, rf_39_0 hR, rf_39_1 hR, rf_42_0 hR, rf_42_1 hR, rf_45_0 hR, rf_45_1 hR, rf_48_0 hR, rf_48_1 hR, rf_51_0 hR, rf_51_1 hR, rf_51_6 hR, rf_51_7 hR, rf_h_3 hR, rf_d_3 hR, rf_h_4 hR, rf_d_4 hR, rf_h_5 hR, rf_d_5 hR, rf_h_6 hR, rf_d_6 hR, rf_h_7 hR, rf_d_7 hR, rf_h_8 hR, rf_d_8 hR, rf_h_9 hR, rf_d_9 hR, rf_12_0 hR, rf_3_1 hR, kn_0, kn_1, kn_2, kn_3, kn_4, kn_5, kn_6, kn_7, kn_8, kn_9, kn_10, kn_11, kn_12, kn_13, kn_14, kn_15, kn_16, kn_17, kn_18, kn_19, kn_20, kn_21, kn_22, kn_23, kn_24, kn_25, kn_26, kn_27, kn_28, kn_29, kn_30, kn_31, kn_32, kn_33, kn_34, kn_35, kn_36, kn_37, kn_38, kn_39, kn_40, kn_41, kn_42, kn_43, kn_44, kn_45, kn_46, kn_47, kn_48, kn_49, kn_50, kn_51, kn_52, kn_53, kn_54, kn_55, ln_2, ln_5, ln_6, ln_7, ln_8, ln_9, ln_10, ln_11, ln_14, ln_15, ln_16, ln_17, ln_18, ln_19, ln_20, ln_22, ln_23, ln_26, ln_28, ln_29, ln_31, ln_32, ln_34, ln_35, ln_37, ln_38, ln_40, ln_41, ln_43, ln_44, ln_46, ln_47, ln_49, ln_50, ln_52, kn_h hR, lt_h hR, kn_h1 hR, ln_h1 hR, lt_h1 hR, kn_h2 hR, ln_h2 hR, lt_h2 hR, kn_h3 hR, ln_h3 hR, lt_h3 hR, kn_h4 hR, ln_h4 hR, lt_h4 hR, kn_h5 hR, ln_h5 hR, lt_h5 hR, kn_h6 hR, ln_h6 hR, lt_h6 hR, kn_h7 hR, ln_h7 hR, lt_h7 hR, kn_d hR, lt_d hR, kn_d1 hR, ln_d1 hR, lt_d1 hR, kn_d2 hR, ln_d2 hR, lt_d2 hR, kn_d3 hR, ln_d3 hR, lt_d3 hR, kn_d4 hR, ln_d4 hR, lt_d4 hR, kn_d5 hR, ln_d5 hR, lt_d5 hR, kn_d6 hR, ln_d6 hR, lt_d6 hR, kn_d7 hR, ln_d7 hR, lt_d7 hR, va_rf_some, push_s, push_n, nb0, nb1, nbb, Nat.reduceLT, h1]
  unfold isB
  by_cases c1 : x < 0
  · rw [if_pos c1, decide_eq_false (fun e => Int32.not_lt.mpr e.1 c1)]
    rfl
  · rw [if_neg c1]
    by_cases c2 : x < nI nr
    · rw [if_pos c2, decide_eq_true ⟨Int32.not_lt.mp c1, c2⟩]
      rfl
    · rw [if_neg c2, decide_eq_false (fun e => c2 e.2)]
      rfl
theorem c_hasSide (hR : tRef h d R) (hC : RR I h nr nt y pl) {x z : Int32} : tEv E 131 0 [.ref 12, .int x, .int z] [] (mS I J R) Q = Q (some (b2i (isB x nr && isB z 4))) (mS I J R) := by
  simp only [e_131_0, e_131_1, e_131_2, e_131_5, e_131_8, e_131_9, e_131_12, e_131_13, e_131_14, e_131_17, e_131_18, e_131_21, e_131_22, rf_0_0 hR, rf_0_1 hR, rf_0_2 hR, rf_0_3 hR, rf_0_4 hR, rf_0_5 hR, rf_0_6 hR, rf_1_0 hR, rf_3_0 hR, rf_3_2 hR, rf_4_3 hR, rf_4_4 hR, rf_4_5 hR, rf_4_6 hR, rf_4_7 hR, rf_4_8 hR, rf_4_9 hR, rf_12_1 hR, rf_13_3 hR, rf_13_4 hR, rf_13_5 hR, rf_13_6 hR, rf_13_7 hR, rf_13_8 hR, rf_13_9 hR, rf_21_0 hR, rf_21_1 hR, rf_24_0 hR, rf_25_0 hR, rf_26_0 hR, rf_26_1 hR, rf_26_2 hR, rf_26_3 hR, rf_26_4 hR, rf_26_5 hR, rf_26_6 hR, rf_26_7 hR, rf_27_0 hR, rf_27_1 hR, rf_30_0 hR, rf_30_1 hR, rf_33_0 hR, rf_33_1 hR, rf_36_0 hR, rf_36_1 hR, rf_39_0 hR, rf_39_1 hR, rf_42_0 hR, rf_42_1 hR, rf_45_0 hR, rf_45_1 hR, rf_48_0 hR, rf_48_1 hR, rf_51_0 hR, rf_51_1 hR, rf_51_6 hR, rf_51_7 hR, rf_h_3 hR, rf_d_3 hR, rf_h_4 hR, rf_d_4 hR, rf_h_5 hR, rf_d_5 hR, rf_h_6 hR, rf_d_6 hR, rf_h_7 hR, rf_d_7 hR, rf_h_8 hR, rf_d_8 hR, rf_h_9 hR, rf_d_9 hR, rf_12_0 hR, rf_3_1 hR, kn_0, kn_1, kn_2, kn_3, kn_4, kn_5, kn_6, kn_7, kn_8, kn_9, kn_10, kn_11, kn_12, kn_13, kn_14, kn_15, kn_16, kn_17, kn_18, kn_19, kn_20, kn_21, kn_22, kn_23, kn_24, kn_25, kn_26, kn_27, kn_28, kn_29, kn_30, kn_31, kn_32, kn_33, kn_34, kn_35, kn_36, kn_37, kn_38, kn_39, kn_40, kn_41, kn_42, kn_43, kn_44, kn_45, kn_46, kn_47, kn_48, kn_49, kn_50, kn_51, kn_52, kn_53, kn_54, kn_55, ln_2, ln_5, ln_6, ln_7, ln_8, ln_9, ln_10, ln_11, ln_14, ln_15, ln_16, ln_17, ln_18, ln_19, ln_20, ln_22, ln_23, ln_26, ln_28, ln_29, ln_31, ln_32, ln_34, ln_35, ln_37, ln_38, ln_40, ln_41, ln_43, ln_44, ln_46, ln_47, ln_49, ln_50, ln_52, kn_h hR, lt_h hR, kn_h1 hR, ln_h1 hR, lt_h1 hR, kn_h2 hR, ln_h2 hR, lt_h2 hR, kn_h3 hR, ln_h3 hR, lt_h3 hR, kn_h4 hR, ln_h4 hR, lt_h4 hR, kn_h5 hR, ln_h5 hR, lt_h5 hR, kn_h6 hR, ln_h6 hR, lt_h6 hR, kn_h7 hR, ln_h7 hR, lt_h7 hR, kn_d hR, lt_d hR, kn_d1 hR, ln_d1 hR, lt_d1 hR, kn_d2 hR, ln_d2 hR, lt_d2 hR, kn_d3 hR, ln_d3 hR, lt_d3 hR, kn_d4 hR, ln_d4 hR, lt_d4 hR, kn_d5 hR, ln_d5 hR, lt_d5 hR, kn_d6 hR, ln_d6 hR, lt_d6 hR, kn_d7 hR, ln_d7 hR, lt_d7 hR, va_rf_some, push_s, push_n, nb0, nb1, nbb, Nat.reduceLT, c_hasRoom hR hC, b2i_0]
  cases isB x nr with
  | false =>
    rw [if_pos rfl]
    rfl
  | true =>
    rw [if_neg (by decide)]
    unfold isB
    by_cases c1 : z < 0
    · rw [if_pos c1, decide_eq_false (fun e => Int32.not_lt.mpr e.1 c1)]
      rfl
    · rw [if_neg c1]
      by_cases c2 : z < 4
      · have c3 : z < nI 4 := c2
        rw [if_pos c2, decide_eq_true ⟨Int32.not_lt.mp c1, c3⟩]
        rfl
      · have c3 : ¬ z < nI 4 := c2
        rw [if_neg c2, decide_eq_false (fun e => c3 e.2)]
        rfl
theorem c_outIn (hR : tRef h d R) (hC : RR I h nr nt y pl) {r : Nat} (hr : r < 6) : tEv E 120 0 [.ref 12, .int (nI r), tm_dum, tm_dum, tm_dum, tm_dum, tm_dum] [] (mS I J R) Q = Q (some (so (outb pl (mshut I) y r) nt)) (mS I J R) := by
  have hW := RR_W hC
  have hyr := hC.2.1.2.1
  have h6 := hW.2.2.1
  simp only [e_120_0, e_120_1, e_120_4, e_120_7, e_120_8, e_120_11, e_120_14, e_120_15, e_120_16, e_120_19, e_120_22, e_120_23, e_120_24, e_120_25, e_120_26, e_120_27, e_120_28, e_120_29, rf_0_0 hR, rf_0_1 hR, rf_0_2 hR, rf_0_3 hR, rf_0_4 hR, rf_0_5 hR, rf_0_6 hR, rf_1_0 hR, rf_3_0 hR, rf_3_2 hR, rf_4_3 hR, rf_4_4 hR, rf_4_5 hR, rf_4_6 hR, rf_4_7 hR, rf_4_8 hR, rf_4_9 hR, rf_12_1 hR, rf_13_3 hR, rf_13_4 hR, rf_13_5 hR, rf_13_6 hR, rf_13_7 hR, rf_13_8 hR, rf_13_9 hR, rf_21_0 hR, rf_21_1 hR, rf_24_0 hR, rf_25_0 hR, rf_26_0 hR, rf_26_1 hR, rf_26_2 hR, rf_26_3 hR, rf_26_4 hR, rf_26_5 hR, rf_26_6 hR, rf_26_7 hR, rf_27_0 hR, rf_27_1 hR, rf_30_0 hR, rf_30_1 hR, rf_33_0 hR, rf_33_1 hR, rf_36_0 hR, rf_36_1 hR, rf_39_0 hR, rf_39_1 hR, rf_42_0 hR, rf_42_1 hR, rf_45_0 hR, rf_45_1 hR, rf_48_0 hR, rf_48_1 hR, rf_51_0 hR, rf_51_1 hR, rf_51_6 hR, rf_51_7 hR, rf_h_3 hR, rf_d_3 hR, rf_h_4 hR, rf_d_4 hR, rf_h_5 hR, rf_d_5 hR, rf_h_6 hR, rf_d_6 hR, rf_h_7 hR, rf_d_7 hR, rf_h_8 hR, rf_d_8 hR, rf_h_9 hR, rf_d_9 hR, rf_12_0 hR, rf_3_1 hR, kn_0, kn_1, kn_2, kn_3, kn_4, kn_5, kn_6, kn_7, kn_8, kn_9, kn_10, kn_11, kn_12, kn_13, kn_14, kn_15, kn_16, kn_17, kn_18, kn_19, kn_20, kn_21, kn_22, kn_23, kn_24, kn_25, kn_26, kn_27, kn_28, kn_29, kn_30, kn_31, kn_32, kn_33, kn_34, kn_35, kn_36, kn_37, kn_38, kn_39, kn_40, kn_41, kn_42, kn_43, kn_44, kn_45, kn_46, kn_47, kn_48, kn_49, kn_50, kn_51, kn_52, kn_53, kn_54, kn_55, ln_2, ln_5, ln_6, ln_7, ln_8, ln_9, ln_10, ln_11, ln_14, ln_15, ln_16, ln_17, ln_18, ln_19, ln_20, ln_22, ln_23, ln_26, ln_28, ln_29, ln_31, ln_32, ln_34, ln_35, ln_37, ln_38, ln_40, ln_41, ln_43, ln_44, ln_46, ln_47, ln_49, ln_50, ln_52, kn_h hR, lt_h hR, kn_h1 hR, ln_h1 hR, lt_h1 hR, kn_h2 hR, ln_h2 hR, lt_h2 hR, kn_h3 hR, ln_h3 hR, lt_h3 hR, kn_h4 hR, ln_h4 hR, lt_h4 hR, kn_h5 hR, ln_h5 hR, lt_h5 hR, kn_h6 hR, ln_h6 hR, lt_h6 hR, kn_h7 hR, ln_h7 hR, lt_h7 hR, kn_d hR, lt_d hR, kn_d1 hR, ln_d1 hR, lt_d1 hR, kn_d2 hR, ln_d2 hR, lt_d2 hR, kn_d3 hR, ln_d3 hR, lt_d3 hR, kn_d4 hR, ln_d4 hR, lt_d4 hR, kn_d5 hR, ln_d5 hR, lt_d5 hR, kn_d6 hR, ln_d6 hR, lt_d6 hR, kn_d7 hR, ln_d7 hR, lt_d7 hR, va_rf_some, push_s, push_n, nb0, nb1, nbb, Nat.reduceLT]
  exact c_outIn_loop hR hW (RR_P hC) (show y < 6 by omega) (RR_you hC) hr (s := cshut I h) (sh := mshut I) (fun t ht => cshut_bt hC.2.2.1.2.2.1 hC.2.2.1.2.2.2.2.1 hC.2.2.2.1.1.2.1 ht) 16 0 0 _ _ (by omega) rfl
theorem c_isLit (hR : tRef h d R) (hC : RR I h nr nt y pl) {r : Nat} (hr : r < nr) : tEv E 121 0 [.ref 12, .int (nI r)] [] (mS I J R) Q = Q (some (b2i (mlit I pl nt y r))) (mS I J R) := by
  have hW := RR_W hC
  have h6 := hW.2.2.1
  have h16 := hW.2.2.2.1
  have hl := hC.2.2.1.1.2.2 r hr
  have hand : (so (outb pl (mshut I) y r) nt &&& I 21 4 = 0) = (anyb (fun t => outb pl (mshut I) y r t && mon I t) nt = false) := by
    have e : so (outb pl (mshut I) y r) nt &&& I 21 4 = so (fun t => outb pl (mshut I) y r t && mon I t) nt := by
      apply b_ext
      intro i hi
      rw [b_and, so_bt _ (by omega) i hi, so_bt _ (by omega) i hi, hC.2.2.2.1.1.2.2.2 i hi]
      show (decide (i < nt) && outb pl (mshut I) y r i && (decide (i < nt) && mon I i)) = _
      cases decide (i < nt) <;> cases outb pl (mshut I) y r i <;> cases mon I i <;> rfl
    rw [e, so_any (by omega)]
  simp only [e_121_0, e_121_1, e_121_4, e_121_7, e_121_8, e_121_11, e_121_14, e_121_15, e_121_16, e_121_19, e_121_20, e_121_23, e_121_26, e_121_27, e_121_30, e_121_31, e_121_34, e_121_35, rf_0_0 hR, rf_0_1 hR, rf_0_2 hR, rf_0_3 hR, rf_0_4 hR, rf_0_5 hR, rf_0_6 hR, rf_1_0 hR, rf_3_0 hR, rf_3_2 hR, rf_4_3 hR, rf_4_4 hR, rf_4_5 hR, rf_4_6 hR, rf_4_7 hR, rf_4_8 hR, rf_4_9 hR, rf_12_1 hR, rf_13_3 hR, rf_13_4 hR, rf_13_5 hR, rf_13_6 hR, rf_13_7 hR, rf_13_8 hR, rf_13_9 hR, rf_21_0 hR, rf_21_1 hR, rf_24_0 hR, rf_25_0 hR, rf_26_0 hR, rf_26_1 hR, rf_26_2 hR, rf_26_3 hR, rf_26_4 hR, rf_26_5 hR, rf_26_6 hR, rf_26_7 hR, rf_27_0 hR, rf_27_1 hR, rf_30_0 hR, rf_30_1 hR, rf_33_0 hR, rf_33_1 hR, rf_36_0 hR, rf_36_1 hR, rf_39_0 hR, rf_39_1 hR, rf_42_0 hR, rf_42_1 hR, rf_45_0 hR, rf_45_1 hR, rf_48_0 hR, rf_48_1 hR, rf_51_0 hR, rf_51_1 hR, rf_51_6 hR, rf_51_7 hR, rf_h_3 hR, rf_d_3 hR, rf_h_4 hR, rf_d_4 hR, rf_h_5 hR, rf_d_5 hR, rf_h_6 hR, rf_d_6 hR, rf_h_7 hR, rf_d_7 hR, rf_h_8 hR, rf_d_8 hR, rf_h_9 hR, rf_d_9 hR, rf_12_0 hR, rf_3_1 hR, kn_0, kn_1, kn_2, kn_3, kn_4, kn_5, kn_6, kn_7, kn_8, kn_9, kn_10, kn_11, kn_12, kn_13, kn_14, kn_15, kn_16, kn_17, kn_18, kn_19, kn_20, kn_21, kn_22, kn_23, kn_24, kn_25, kn_26, kn_27, kn_28, kn_29, kn_30, kn_31, kn_32, kn_33, kn_34, kn_35, kn_36, kn_37, kn_38, kn_39, kn_40, kn_41, kn_42, kn_43, kn_44, kn_45, kn_46, kn_47, kn_48, kn_49, kn_50, kn_51, kn_52, kn_53, kn_54, kn_55, ln_2, ln_5, ln_6, ln_7, ln_8, ln_9, ln_10, ln_11, ln_14, ln_15, ln_16, ln_17, ln_18, ln_19, ln_20, ln_22, ln_23, ln_26, ln_28, ln_29, ln_31, ln_32, ln_34, ln_35, ln_37, ln_38, ln_40, ln_41, ln_43, ln_44, ln_46, ln_47, ln_49, ln_50, ln_52, kn_h hR, lt_h hR, kn_h1 hR, ln_h1 hR, lt_h1 hR, kn_h2 hR, ln_h2 hR, lt_h2 hR, kn_h3 hR, ln_h3 hR, lt_h3 hR, kn_h4 hR, ln_h4 hR, lt_h4 hR, kn_h5 hR, ln_h5 hR, lt_h5 hR, kn_h6 hR, ln_h6 hR, lt_h6 hR, kn_h7 hR, ln_h7 hR, lt_h7 hR, kn_d hR, lt_d hR, kn_d1 hR, ln_d1 hR, lt_d1 hR, kn_d2 hR, ln_d2 hR, lt_d2 hR, kn_d3 hR, ln_d3 hR, lt_d3 hR, kn_d4 hR, ln_d4 hR, lt_d4 hR, kn_d5 hR, ln_d5 hR, lt_d5 hR, kn_d6 hR, ln_d6 hR, lt_d6 hR, kn_d7 hR, ln_d7 hR, lt_d7 hR, va_rf_some, push_s, push_n, nb0, nb1, nbb, Nat.reduceLT, c_has (show r < 32 by omega), hl, b2i_0, c_outIn hR hC (show r < 6 by omega), hand]
  unfold mlit
  by_cases c : I 58 r = 1
  · rw [decide_eq_true c, if_neg (by decide)]
    rfl
  · rw [decide_eq_false c, if_pos rfl]
    cases anyb (fun t => outb pl (mshut I) y r t && mon I t) nt <;> rfl
end D2
